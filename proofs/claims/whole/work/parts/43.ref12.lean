theorem hl_ad {bt : Nat → Int} {n : Nat} {st : PS} {k : Nat} (hs : st.1 = 0 → st.2.2 ≤ n) (h : st.1 = 0 → k ≤ st.2.2) : (adP bt n st).1 = 0 → k ≤ (adP bt n st).2.2 := fun q => by
  have h1 := ad_c.mp q
  have h2 := ad_ok (bt := bt) (st := st) hs q
  have h3 := h h1
  omega
theorem hl_gq {V : Int → Nat → Int} {n : Nat} {st : PS} {r : QR} {L : List Int} (hs : st.1 = 0 → st.2.2 ≤ n) (h : st.1 = 0 → L.length ≤ st.2.2) (hg : gq V n st r) : r.1.1 = 0 → (L ++ r.2.1).length ≤ r.1.2.2 := fun q => by
  have h1 := hg hs q
  have h2 := h h1.1
  rw [List.length_append]; omega
theorem lt_not {V : Int → Nat → Int} {bt : Nat → Int} {n : Nat} {st : PS} {r : QR} {L : List Int} (hn : n ≤ 200) (hs : st.1 = 0 → st.2.2 ≤ n) (h : st.1 = 0 → L.length ≤ st.2.2) (hg : goP bt n st) (hr : gq V n (adP bt n st) r) : r.1.1 = 0 → (L ++ r.2.1).length < 200 := fun q => by
  have h2 := ad_go hg
  have h3 := ad_ok (bt := bt) (st := st) hs (ad_c.mpr hg.1)
  have h1 := hr (fun _ => h3.2.2) q
  have h4 := h hg.1
  rw [List.length_append]; omega
theorem lt_and {V : Int → Nat → Int} {bt : Nat → Int} {n : Nat} {st : PS} {r r1 : QR} {L : List Int} {c : Int} (hc : c = -24 ∨ c = -25) (hn : n ≤ 200) (hs : st.1 = 0 → st.2.2 ≤ n) (h : st.1 = 0 → L.length ≤ st.2.2) (hg : goP bt n r.1) (hr : gq V n st r) (hr1 : gq V n (adP bt n r.1) r1) : r1.1.1 = 0 → (L ++ r.2.1 ++ r1.2.1).length < 200 := fun q => by
  have h1 := gq_and2 hc hg hr hr1 hs q
  have h4 := h h1.1
  have h2 : st.2.2 + (r.2.1 ++ r1.2.1 ++ [c]).length ≤ r1.1.2.2 := h1.2.1
  have h3 : r1.1.2.2 ≤ n := h1.2.2.2.1
  rw [List.length_append, List.length_append] at h2 ⊢
  have h5 : [c].length = 1 := rfl
  omega
theorem lt_cmp {bt : Nat → Int} {n : Nat} {st : PS} {L : List Int} (hn : n ≤ 200) (hs : st.1 = 0 → st.2.2 ≤ n) (h : st.1 = 0 → L.length ≤ st.2.2) : (vlS bt n (opS bt n (vlS bt n st))).1 = 0 → (L ++ [vlC bt n st] ++ [vlC bt n (opS bt n (vlS bt n st))]).length < 200 := fun q => by
  have h1 := gq_cmp (V := fun _ _ => 0) (bt := bt) (n := n) (st := st) hs q
  have h4 := h h1.1
  have h2 : st.2.2 + 3 ≤ (vlS bt n (opS bt n (vlS bt n st))).2.2 := h1.2.1
  have h3 : (vlS bt n (opS bt n (vlS bt n st))).2.2 ≤ n := h1.2.2.2.1
  rw [List.length_append, List.length_append]
  show _ + 1 + 1 < 200
  omega
theorem hl_cmp {bt : Nat → Int} {n : Nat} {st : PS} {L : List Int} (hs : st.1 = 0 → st.2.2 ≤ n) (h : st.1 = 0 → L.length ≤ st.2.2) : (opS bt n (vlS bt n st)).1 = 0 → (L ++ [vlC bt n st]).length ≤ (opS bt n (vlS bt n st)).2.2 := fun ha => by
  have hb : (vlS bt n st).1 = 0 := by
    unfold opS at ha
    by_cases q : isS bt n 60 (vlS bt n st) ∨ isS bt n 61 (vlS bt n st) ∨ isS bt n 62 (vlS bt n st)
    · exact q.elim (fun q => q.1) (fun q => q.elim (fun q => q.1) (fun q => q.1))
    · rw [selP_0 q] at ha; exact absurd (ad_c.mp ha) (fl_c (by decide))
  have h1 := vl_0 hs hb
  have h2 := op_0 (fun _ => h1.2.2.1) ha
  have h3 := h h1.1
  rw [List.length_append]
  show _ + 1 ≤ _
  omega
theorem qF_n {V : Int → Nat → Int} {bt : Nat → Int} {n d : Nat} {st : PS} (h : isW bt n 31 st) : qF V bt n (d + 1) st = notR (qF V bt n d (adP bt n st)) := selP_1 h
theorem qF_p {V : Int → Nat → Int} {bt : Nat → Int} {n d : Nat} {st : PS} (h : ¬ isW bt n 31 st) (h2 : isS bt n 40 st) : qF V bt n (d + 1) st = parR bt n (tstM bt n (qF V bt n d) (adP bt n st)) := (selP_0 h).trans (selP_1 h2)
theorem qF_c {V : Int → Nat → Int} {bt : Nat → Int} {n : Nat} (d : Nat) {st : PS} (h : ¬ isW bt n 31 st) (h2 : ¬ isS bt n 40 st) : qF V bt n d st = cmpM V bt n st := by
  cases d with
  | zero => exact selP_0 (fun q => q.elim h h2)
  | succ d => exact (selP_0 h).trans (selP_0 h2)
theorem qF_z {V : Int → Nat → Int} {bt : Nat → Int} {n : Nat} {st : PS} (h : isW bt n 31 st ∨ isS bt n 40 st) : qF V bt n 0 st = (flP 3 st, [], fun _ => false) := selP_1 h
set_option maxRecDepth 100000 in
set_option maxHeartbeats 4000000 in
theorem c_X12_enter_0 (l : Launch) (hls : l.stackTraces = false) (G : kG) (hN : kN G = 150) (w : Nat → va_E) (fl : va_W) (u bt : Nat → Int) (n : Nat) (st : PS) (L : List Int) (hz0 : st.1 = 0) (hn2 : n ≤ 200) (hqc : qcW G w u st L) (hL : st.1 = 0 → L.length ≤ st.2.2) (h145 : w 145 = nmA G) (h25 : u 25 = 0) (hn7 : n ≤ 700) (hb : btOK bt) (hm : w 133 = mdO G u) (h144 : w 144 = iA G 700 bt) (hK : mkR u bt n st) : KM l G yX12_enter cX12_enter 1 (none) 4 0 0 [.ref (kad G 133)] w fl (kMuv fl (fun w1 => (∃ u1, w1 133 = mdO G u1 ∧ mkR u1 bt n (adP bt n st) ∧ qcW G w1 u1 (adP bt n st) (L) ∧ u1 25 = 1 ∧ uQ u u1) ∧ ∀ j, (j ≠ 133 ∧ j ≠ 146) → w1 j = w j)) := by
  refine KM_of2 hls (by decide +kernel) rfl (lv0 := [(0, .ref (kad G 133))]) rfl (Nat.le_of_ble_eq_true rfl) (fun p e R s m args below meth c Q hC hr hQ => ?_)
  have h18 := hK.1
  have h22 := hK.2.1
  have hrg := hK.2.2.1
  have hcb := hK.cb
  have hk0 := hK.2.2.2.1
  have hk1 := hK.2.2.2.2.1
  have hdg := hK.2.2.2.2.2
  have hzz : st.1 = 0 := by omega
  have hq0 := hK.2.2.2.1 hzz
  have hen := enM_b (bt := bt) hq0.2.2.2
  refine k_aload_n hC dX12_enter_0 rfl 0 rfl ?_
  refine k_aload_n hC dX12_enter_1 rfl 0 rfl ?_
  refine k_get hC fd_X12_389 (kl hN (by decide)) hm rfl dX12_enter_2 ?_
  refine k_topv (vI 0) (congrArg vI (by omega)) ?_
  refine k_bipush hC dX12_enter_5 (by decide) ?_
  refine k_icmp_ge hC 14 dX12_enter_7 rfl (by omega) (by omega) (fun c_7 => absurd c_7 (by omega)) (fun c_7 => ?_)
  refine k_iconst hC dX12_enter_10 ?_
  refine k_goto hC 15 dX12_enter_11 rfl ?_
  refine k_iconst hC dX12_enter_15 ?_
  refine k_muvV hC (c_X12_check1 l hls G hN w fl u bt n st 3 (by omega) hn7 hb hm h144 hK) yy_X12_check wm_X12_413 (kl hN (by decide)) hm rfl rfl rfl rfl (Nat.le_of_ble_eq_true rfl) (by decide) (by decide) ⟨by decide, by decide⟩ dX12_enter_16 (fun w1 hp1 => ?_)
  obtain ⟨hT1, hf1⟩ := hp1
  obtain ⟨u1, hu1, hKr1, hs1⟩ := hT1
  have h18r1 := hKr1.1
  have h22r1 := hKr1.2.1
  have hrgr1 := hKr1.2.2.1
  have hcbr1 := hKr1.cb
  have hzzr1 : st.1 = 0 := by omega
  have hq0r1 := hKr1.2.2.2.1 hzzr1
  have henr1 := enM_b (bt := bt) hq0r1.2.2.2
  have hQ_1 : qcW G w1 u1 st L := hqc.go (hs1 29 (by omega)) (hf1 146 (by decide)) (fun q => q)
  have h25_1 : u1 25 = 0 := (hs1 25 (by omega)).trans h25
  refine k_aload_n hC dX12_enter_19 rfl 0 rfl ?_
  refine k_dup hC dX12_enter_20 rfl ?_
  refine k_get hC fd_X12_389 (kl hN (by decide)) hu1 rfl dX12_enter_21 ?_
  refine k_topv (vI 0) (congrArg vI (by omega)) ?_
  refine k_iconst hC dX12_enter_24 ?_
  refine k_iadd hC dX12_enter_25 ?_
  refine k_topv (vI 1) (congrArg vI (by decide)) ?_
  refine k_put hC fd_X12_389 (kl hN (by decide)) hu1 [.ref (kad G 134), .ref (kad G 135), .ref (kad G 136), .ref (kad G 137), vI (u1 4), vI (u1 5), vI (u1 6), .ref (kad G 138), .ref (kad G 139), .ref (kad G 140), .ref (kad G 141), .ref (kad G 142), vL (u1 12), vL (u1 13), .ref (kad G 143), vI (u1 15), .ref (kad G 144), vI (u1 17), vI (u1 18), vI (u1 19), vI (u1 20), vI (u1 21), vI (u1 22), vI (u1 23), vI (u1 24), vI 1, .ref (kad G 145), .ref (kad G 146), .ref (kad G 147), vI (u1 29)] rfl (Nat.le_of_ble_eq_true rfl) rfl rfl dX12_enter_26 (fun w2 hw2 hf2 => ?_)
  have hKp3 : mkR (kup u1 25 1) bt n st := hKr1.kup25
  have hQ_3 : qcW G w2 (kup u1 25 1) st L := hQ_1.go rfl (hf2 146 (by decide)) (fun q => q)
  have h25_3 : (kup u1 25 1) 25 = 1 := rfl
  have h18p3 := hKp3.1
  have h22p3 := hKp3.2.1
  have hrgp3 := hKp3.2.2.1
  have hcbp3 := hKp3.cb
  have hzzp3 : st.1 = 0 := by omega
  have hq0p3 := hKp3.2.2.2.1 hzzp3
  have henp3 := enM_b (bt := bt) hq0p3.2.2.2
  refine k_aload_n hC dX12_enter_29 rfl 0 rfl ?_
  have h_5 : w2 144 = iA G 700 bt := (hf2 144 (by decide)).trans ((hf1 144 (by decide)).trans h144)
  refine k_muvV hC (c_X12_advance l hls G hN w2 fl (kup u1 25 1) bt n st  hn7 hb hw2 h_5 hKp3) yy_X12_advance wm_X12_417 (kl hN (by decide)) hw2 rfl rfl rfl rfl (Nat.le_of_ble_eq_true rfl) (by decide) (by decide) ⟨by decide, by decide⟩ dX12_enter_30 (fun w4 hp4 => ?_)
  obtain ⟨hT4, hf4⟩ := hp4
  obtain ⟨u4, hu4, hKr4, hs4⟩ := hT4
  obtain ⟨st_6, est_6⟩ : ∃ z : PS, z = adP bt n st := ⟨_, rfl⟩
  rw [← est_6] at hKr4
  have h18r4 := hKr4.1
  have h22r4 := hKr4.2.1
  have hrgr4 := hKr4.2.2.1
  have hcbr4 := hKr4.cb
  have hzir4 : st_6.1 = 0 := by rw [est_6]; exact ad_c.mpr (by omega)
  have hzzr4 : st_6.1 = 0 := by omega
  have hq0r4 := hKr4.2.2.2.1 hzzr4
  have henr4 := enM_b (bt := bt) hq0r4.2.2.2
  have hQ_4 : qcW G w4 u4 st_6 L := hQ_3.go (hs4 29 (by omega)) (hf4 146 (by decide)) (fun q => ad_c.mp (by rw [← est_6]; exact q))
  have h25_4 : u4 25 = 1 := (hs4 25 (by omega)).trans h25_3
  subst hQ
  exact k_vret hC hr ⟨by decide, by decide⟩ (⟨rfl, rfl, ⟨u4, hu4, (by have e : st_6 = adP bt n st := (by exact est_6); rw [← e]; exact hKr4), (by have e : st_6 = adP bt n st := (by exact est_6); rw [← e]; exact hQ_4.cg (fun q => rfl)), h25_4, (uQ.tr (uQ.tr (uQ.tr uQ.rf (uS.q hs1)) uQ.put25) (uS.q hs4))⟩, fun j hj => (hf4 j (by omega)).trans ((hf2 j (by omega)).trans (hf1 j (by omega)))⟩) dX12_enter_33

set_option maxRecDepth 100000 in
set_option maxHeartbeats 4000000 in
theorem c_X12_enter_1 (l : Launch) (hls : l.stackTraces = false) (G : kG) (hN : kN G = 150) (w : Nat → va_E) (fl : va_W) (u bt : Nat → Int) (n : Nat) (st : PS) (L : List Int) (hz0 : st.1 = 0) (hn2 : n ≤ 200) (hqc : qcW G w u st L) (hL : st.1 = 0 → L.length ≤ st.2.2) (h145 : w 145 = nmA G) (h25 : u 25 = 1) (hn7 : n ≤ 700) (hb : btOK bt) (hm : w 133 = mdO G u) (h144 : w 144 = iA G 700 bt) (hK : mkR u bt n st) : KM l G yX12_enter cX12_enter 1 (none) 4 0 0 [.ref (kad G 133)] w fl (kMuv fl (fun w1 => (∃ u1, w1 133 = mdO G u1 ∧ mkR u1 bt n (adP bt n st) ∧ qcW G w1 u1 (adP bt n st) (L) ∧ u1 25 = 2 ∧ uQ u u1) ∧ ∀ j, (j ≠ 133 ∧ j ≠ 146) → w1 j = w j)) := by
  refine KM_of2 hls (by decide +kernel) rfl (lv0 := [(0, .ref (kad G 133))]) rfl (Nat.le_of_ble_eq_true rfl) (fun p e R s m args below meth c Q hC hr hQ => ?_)
  have h18 := hK.1
  have h22 := hK.2.1
  have hrg := hK.2.2.1
  have hcb := hK.cb
  have hk0 := hK.2.2.2.1
  have hk1 := hK.2.2.2.2.1
  have hdg := hK.2.2.2.2.2
  have hzz : st.1 = 0 := by omega
  have hq0 := hK.2.2.2.1 hzz
  have hen := enM_b (bt := bt) hq0.2.2.2
  refine k_aload_n hC dX12_enter_0 rfl 0 rfl ?_
  refine k_aload_n hC dX12_enter_1 rfl 0 rfl ?_
  refine k_get hC fd_X12_389 (kl hN (by decide)) hm rfl dX12_enter_2 ?_
  refine k_topv (vI 1) (congrArg vI (by omega)) ?_
  refine k_bipush hC dX12_enter_5 (by decide) ?_
  refine k_icmp_ge hC 14 dX12_enter_7 rfl (by omega) (by omega) (fun c_7 => absurd c_7 (by omega)) (fun c_7 => ?_)
  refine k_iconst hC dX12_enter_10 ?_
  refine k_goto hC 15 dX12_enter_11 rfl ?_
  refine k_iconst hC dX12_enter_15 ?_
  refine k_muvV hC (c_X12_check1 l hls G hN w fl u bt n st 3 (by omega) hn7 hb hm h144 hK) yy_X12_check wm_X12_413 (kl hN (by decide)) hm rfl rfl rfl rfl (Nat.le_of_ble_eq_true rfl) (by decide) (by decide) ⟨by decide, by decide⟩ dX12_enter_16 (fun w1 hp1 => ?_)
  obtain ⟨hT1, hf1⟩ := hp1
  obtain ⟨u1, hu1, hKr1, hs1⟩ := hT1
  have h18r1 := hKr1.1
  have h22r1 := hKr1.2.1
  have hrgr1 := hKr1.2.2.1
  have hcbr1 := hKr1.cb
  have hzzr1 : st.1 = 0 := by omega
  have hq0r1 := hKr1.2.2.2.1 hzzr1
  have henr1 := enM_b (bt := bt) hq0r1.2.2.2
  have hQ_1 : qcW G w1 u1 st L := hqc.go (hs1 29 (by omega)) (hf1 146 (by decide)) (fun q => q)
  have h25_1 : u1 25 = 1 := (hs1 25 (by omega)).trans h25
  refine k_aload_n hC dX12_enter_19 rfl 0 rfl ?_
  refine k_dup hC dX12_enter_20 rfl ?_
  refine k_get hC fd_X12_389 (kl hN (by decide)) hu1 rfl dX12_enter_21 ?_
  refine k_topv (vI 1) (congrArg vI (by omega)) ?_
  refine k_iconst hC dX12_enter_24 ?_
  refine k_iadd hC dX12_enter_25 ?_
  refine k_topv (vI 2) (congrArg vI (by decide)) ?_
  refine k_put hC fd_X12_389 (kl hN (by decide)) hu1 [.ref (kad G 134), .ref (kad G 135), .ref (kad G 136), .ref (kad G 137), vI (u1 4), vI (u1 5), vI (u1 6), .ref (kad G 138), .ref (kad G 139), .ref (kad G 140), .ref (kad G 141), .ref (kad G 142), vL (u1 12), vL (u1 13), .ref (kad G 143), vI (u1 15), .ref (kad G 144), vI (u1 17), vI (u1 18), vI (u1 19), vI (u1 20), vI (u1 21), vI (u1 22), vI (u1 23), vI (u1 24), vI 2, .ref (kad G 145), .ref (kad G 146), .ref (kad G 147), vI (u1 29)] rfl (Nat.le_of_ble_eq_true rfl) rfl rfl dX12_enter_26 (fun w2 hw2 hf2 => ?_)
  have hKp3 : mkR (kup u1 25 2) bt n st := hKr1.kup25
  have hQ_3 : qcW G w2 (kup u1 25 2) st L := hQ_1.go rfl (hf2 146 (by decide)) (fun q => q)
  have h25_3 : (kup u1 25 2) 25 = 2 := rfl
  have h18p3 := hKp3.1
  have h22p3 := hKp3.2.1
  have hrgp3 := hKp3.2.2.1
  have hcbp3 := hKp3.cb
  have hzzp3 : st.1 = 0 := by omega
  have hq0p3 := hKp3.2.2.2.1 hzzp3
  have henp3 := enM_b (bt := bt) hq0p3.2.2.2
  refine k_aload_n hC dX12_enter_29 rfl 0 rfl ?_
  have h_5 : w2 144 = iA G 700 bt := (hf2 144 (by decide)).trans ((hf1 144 (by decide)).trans h144)
  refine k_muvV hC (c_X12_advance l hls G hN w2 fl (kup u1 25 2) bt n st  hn7 hb hw2 h_5 hKp3) yy_X12_advance wm_X12_417 (kl hN (by decide)) hw2 rfl rfl rfl rfl (Nat.le_of_ble_eq_true rfl) (by decide) (by decide) ⟨by decide, by decide⟩ dX12_enter_30 (fun w4 hp4 => ?_)
  obtain ⟨hT4, hf4⟩ := hp4
  obtain ⟨u4, hu4, hKr4, hs4⟩ := hT4
  obtain ⟨st_6, est_6⟩ : ∃ z : PS, z = adP bt n st := ⟨_, rfl⟩
  rw [← est_6] at hKr4
  have h18r4 := hKr4.1
  have h22r4 := hKr4.2.1
  have hrgr4 := hKr4.2.2.1
  have hcbr4 := hKr4.cb
  have hzir4 : st_6.1 = 0 := by rw [est_6]; exact ad_c.mpr (by omega)
  have hzzr4 : st_6.1 = 0 := by omega
  have hq0r4 := hKr4.2.2.2.1 hzzr4
  have henr4 := enM_b (bt := bt) hq0r4.2.2.2
  have hQ_4 : qcW G w4 u4 st_6 L := hQ_3.go (hs4 29 (by omega)) (hf4 146 (by decide)) (fun q => ad_c.mp (by rw [← est_6]; exact q))
  have h25_4 : u4 25 = 2 := (hs4 25 (by omega)).trans h25_3
  subst hQ
  exact k_vret hC hr ⟨by decide, by decide⟩ (⟨rfl, rfl, ⟨u4, hu4, (by have e : st_6 = adP bt n st := (by exact est_6); rw [← e]; exact hKr4), (by have e : st_6 = adP bt n st := (by exact est_6); rw [← e]; exact hQ_4.cg (fun q => rfl)), h25_4, (uQ.tr (uQ.tr (uQ.tr uQ.rf (uS.q hs1)) uQ.put25) (uS.q hs4))⟩, fun j hj => (hf4 j (by omega)).trans ((hf2 j (by omega)).trans (hf1 j (by omega)))⟩) dX12_enter_33

set_option maxRecDepth 100000 in
set_option maxHeartbeats 4000000 in
theorem c_X12_enter_2 (l : Launch) (hls : l.stackTraces = false) (G : kG) (hN : kN G = 150) (w : Nat → va_E) (fl : va_W) (u bt : Nat → Int) (n : Nat) (st : PS) (L : List Int) (hz0 : st.1 = 0) (hn2 : n ≤ 200) (hqc : qcW G w u st L) (hL : st.1 = 0 → L.length ≤ st.2.2) (h145 : w 145 = nmA G) (h25 : u 25 = 2) (hn7 : n ≤ 700) (hb : btOK bt) (hm : w 133 = mdO G u) (h144 : w 144 = iA G 700 bt) (hK : mkR u bt n st) : KM l G yX12_enter cX12_enter 1 (none) 4 0 0 [.ref (kad G 133)] w fl (kMuv fl (fun w1 => (∃ u1, w1 133 = mdO G u1 ∧ mkR u1 bt n (adP bt n st) ∧ qcW G w1 u1 (adP bt n st) (L) ∧ u1 25 = 3 ∧ uQ u u1) ∧ ∀ j, (j ≠ 133 ∧ j ≠ 146) → w1 j = w j)) := by
  refine KM_of2 hls (by decide +kernel) rfl (lv0 := [(0, .ref (kad G 133))]) rfl (Nat.le_of_ble_eq_true rfl) (fun p e R s m args below meth c Q hC hr hQ => ?_)
  have h18 := hK.1
  have h22 := hK.2.1
  have hrg := hK.2.2.1
  have hcb := hK.cb
  have hk0 := hK.2.2.2.1
  have hk1 := hK.2.2.2.2.1
  have hdg := hK.2.2.2.2.2
  have hzz : st.1 = 0 := by omega
  have hq0 := hK.2.2.2.1 hzz
  have hen := enM_b (bt := bt) hq0.2.2.2
  refine k_aload_n hC dX12_enter_0 rfl 0 rfl ?_
  refine k_aload_n hC dX12_enter_1 rfl 0 rfl ?_
  refine k_get hC fd_X12_389 (kl hN (by decide)) hm rfl dX12_enter_2 ?_
  refine k_topv (vI 2) (congrArg vI (by omega)) ?_
  refine k_bipush hC dX12_enter_5 (by decide) ?_
  refine k_icmp_ge hC 14 dX12_enter_7 rfl (by omega) (by omega) (fun c_7 => absurd c_7 (by omega)) (fun c_7 => ?_)
  refine k_iconst hC dX12_enter_10 ?_
  refine k_goto hC 15 dX12_enter_11 rfl ?_
  refine k_iconst hC dX12_enter_15 ?_
  refine k_muvV hC (c_X12_check1 l hls G hN w fl u bt n st 3 (by omega) hn7 hb hm h144 hK) yy_X12_check wm_X12_413 (kl hN (by decide)) hm rfl rfl rfl rfl (Nat.le_of_ble_eq_true rfl) (by decide) (by decide) ⟨by decide, by decide⟩ dX12_enter_16 (fun w1 hp1 => ?_)
  obtain ⟨hT1, hf1⟩ := hp1
  obtain ⟨u1, hu1, hKr1, hs1⟩ := hT1
  have h18r1 := hKr1.1
  have h22r1 := hKr1.2.1
  have hrgr1 := hKr1.2.2.1
  have hcbr1 := hKr1.cb
  have hzzr1 : st.1 = 0 := by omega
  have hq0r1 := hKr1.2.2.2.1 hzzr1
  have henr1 := enM_b (bt := bt) hq0r1.2.2.2
  have hQ_1 : qcW G w1 u1 st L := hqc.go (hs1 29 (by omega)) (hf1 146 (by decide)) (fun q => q)
  have h25_1 : u1 25 = 2 := (hs1 25 (by omega)).trans h25
  refine k_aload_n hC dX12_enter_19 rfl 0 rfl ?_
  refine k_dup hC dX12_enter_20 rfl ?_
  refine k_get hC fd_X12_389 (kl hN (by decide)) hu1 rfl dX12_enter_21 ?_
  refine k_topv (vI 2) (congrArg vI (by omega)) ?_
  refine k_iconst hC dX12_enter_24 ?_
  refine k_iadd hC dX12_enter_25 ?_
  refine k_topv (vI 3) (congrArg vI (by decide)) ?_
  refine k_put hC fd_X12_389 (kl hN (by decide)) hu1 [.ref (kad G 134), .ref (kad G 135), .ref (kad G 136), .ref (kad G 137), vI (u1 4), vI (u1 5), vI (u1 6), .ref (kad G 138), .ref (kad G 139), .ref (kad G 140), .ref (kad G 141), .ref (kad G 142), vL (u1 12), vL (u1 13), .ref (kad G 143), vI (u1 15), .ref (kad G 144), vI (u1 17), vI (u1 18), vI (u1 19), vI (u1 20), vI (u1 21), vI (u1 22), vI (u1 23), vI (u1 24), vI 3, .ref (kad G 145), .ref (kad G 146), .ref (kad G 147), vI (u1 29)] rfl (Nat.le_of_ble_eq_true rfl) rfl rfl dX12_enter_26 (fun w2 hw2 hf2 => ?_)
  have hKp3 : mkR (kup u1 25 3) bt n st := hKr1.kup25
  have hQ_3 : qcW G w2 (kup u1 25 3) st L := hQ_1.go rfl (hf2 146 (by decide)) (fun q => q)
  have h25_3 : (kup u1 25 3) 25 = 3 := rfl
  have h18p3 := hKp3.1
  have h22p3 := hKp3.2.1
  have hrgp3 := hKp3.2.2.1
  have hcbp3 := hKp3.cb
  have hzzp3 : st.1 = 0 := by omega
  have hq0p3 := hKp3.2.2.2.1 hzzp3
  have henp3 := enM_b (bt := bt) hq0p3.2.2.2
  refine k_aload_n hC dX12_enter_29 rfl 0 rfl ?_
  have h_5 : w2 144 = iA G 700 bt := (hf2 144 (by decide)).trans ((hf1 144 (by decide)).trans h144)
  refine k_muvV hC (c_X12_advance l hls G hN w2 fl (kup u1 25 3) bt n st  hn7 hb hw2 h_5 hKp3) yy_X12_advance wm_X12_417 (kl hN (by decide)) hw2 rfl rfl rfl rfl (Nat.le_of_ble_eq_true rfl) (by decide) (by decide) ⟨by decide, by decide⟩ dX12_enter_30 (fun w4 hp4 => ?_)
  obtain ⟨hT4, hf4⟩ := hp4
  obtain ⟨u4, hu4, hKr4, hs4⟩ := hT4
  obtain ⟨st_6, est_6⟩ : ∃ z : PS, z = adP bt n st := ⟨_, rfl⟩
  rw [← est_6] at hKr4
  have h18r4 := hKr4.1
  have h22r4 := hKr4.2.1
  have hrgr4 := hKr4.2.2.1
  have hcbr4 := hKr4.cb
  have hzir4 : st_6.1 = 0 := by rw [est_6]; exact ad_c.mpr (by omega)
  have hzzr4 : st_6.1 = 0 := by omega
  have hq0r4 := hKr4.2.2.2.1 hzzr4
  have henr4 := enM_b (bt := bt) hq0r4.2.2.2
  have hQ_4 : qcW G w4 u4 st_6 L := hQ_3.go (hs4 29 (by omega)) (hf4 146 (by decide)) (fun q => ad_c.mp (by rw [← est_6]; exact q))
  have h25_4 : u4 25 = 3 := (hs4 25 (by omega)).trans h25_3
  subst hQ
  exact k_vret hC hr ⟨by decide, by decide⟩ (⟨rfl, rfl, ⟨u4, hu4, (by have e : st_6 = adP bt n st := (by exact est_6); rw [← e]; exact hKr4), (by have e : st_6 = adP bt n st := (by exact est_6); rw [← e]; exact hQ_4.cg (fun q => rfl)), h25_4, (uQ.tr (uQ.tr (uQ.tr uQ.rf (uS.q hs1)) uQ.put25) (uS.q hs4))⟩, fun j hj => (hf4 j (by omega)).trans ((hf2 j (by omega)).trans (hf1 j (by omega)))⟩) dX12_enter_33

set_option maxRecDepth 100000 in
set_option maxHeartbeats 4000000 in
theorem c_X12_enter_3 (l : Launch) (hls : l.stackTraces = false) (G : kG) (hN : kN G = 150) (w : Nat → va_E) (fl : va_W) (u bt : Nat → Int) (n : Nat) (st : PS) (L : List Int) (hz0 : st.1 = 0) (hn2 : n ≤ 200) (hqc : qcW G w u st L) (hL : st.1 = 0 → L.length ≤ st.2.2) (h145 : w 145 = nmA G) (h25 : u 25 = 3) (hn7 : n ≤ 700) (hb : btOK bt) (hm : w 133 = mdO G u) (h144 : w 144 = iA G 700 bt) (hK : mkR u bt n st) : KM l G yX12_enter cX12_enter 1 (none) 4 0 0 [.ref (kad G 133)] w fl (kMuv fl (fun w1 => (∃ u1, w1 133 = mdO G u1 ∧ mkR u1 bt n (adP bt n st) ∧ qcW G w1 u1 (adP bt n st) (L) ∧ u1 25 = 4 ∧ uQ u u1) ∧ ∀ j, (j ≠ 133 ∧ j ≠ 146) → w1 j = w j)) := by
  refine KM_of2 hls (by decide +kernel) rfl (lv0 := [(0, .ref (kad G 133))]) rfl (Nat.le_of_ble_eq_true rfl) (fun p e R s m args below meth c Q hC hr hQ => ?_)
  have h18 := hK.1
  have h22 := hK.2.1
  have hrg := hK.2.2.1
  have hcb := hK.cb
  have hk0 := hK.2.2.2.1
  have hk1 := hK.2.2.2.2.1
  have hdg := hK.2.2.2.2.2
  have hzz : st.1 = 0 := by omega
  have hq0 := hK.2.2.2.1 hzz
  have hen := enM_b (bt := bt) hq0.2.2.2
  refine k_aload_n hC dX12_enter_0 rfl 0 rfl ?_
  refine k_aload_n hC dX12_enter_1 rfl 0 rfl ?_
  refine k_get hC fd_X12_389 (kl hN (by decide)) hm rfl dX12_enter_2 ?_
  refine k_topv (vI 3) (congrArg vI (by omega)) ?_
  refine k_bipush hC dX12_enter_5 (by decide) ?_
  refine k_icmp_ge hC 14 dX12_enter_7 rfl (by omega) (by omega) (fun c_7 => absurd c_7 (by omega)) (fun c_7 => ?_)
  refine k_iconst hC dX12_enter_10 ?_
  refine k_goto hC 15 dX12_enter_11 rfl ?_
  refine k_iconst hC dX12_enter_15 ?_
  refine k_muvV hC (c_X12_check1 l hls G hN w fl u bt n st 3 (by omega) hn7 hb hm h144 hK) yy_X12_check wm_X12_413 (kl hN (by decide)) hm rfl rfl rfl rfl (Nat.le_of_ble_eq_true rfl) (by decide) (by decide) ⟨by decide, by decide⟩ dX12_enter_16 (fun w1 hp1 => ?_)
  obtain ⟨hT1, hf1⟩ := hp1
  obtain ⟨u1, hu1, hKr1, hs1⟩ := hT1
  have h18r1 := hKr1.1
  have h22r1 := hKr1.2.1
  have hrgr1 := hKr1.2.2.1
  have hcbr1 := hKr1.cb
  have hzzr1 : st.1 = 0 := by omega
  have hq0r1 := hKr1.2.2.2.1 hzzr1
  have henr1 := enM_b (bt := bt) hq0r1.2.2.2
  have hQ_1 : qcW G w1 u1 st L := hqc.go (hs1 29 (by omega)) (hf1 146 (by decide)) (fun q => q)
  have h25_1 : u1 25 = 3 := (hs1 25 (by omega)).trans h25
  refine k_aload_n hC dX12_enter_19 rfl 0 rfl ?_
  refine k_dup hC dX12_enter_20 rfl ?_
  refine k_get hC fd_X12_389 (kl hN (by decide)) hu1 rfl dX12_enter_21 ?_
  refine k_topv (vI 3) (congrArg vI (by omega)) ?_
  refine k_iconst hC dX12_enter_24 ?_
  refine k_iadd hC dX12_enter_25 ?_
  refine k_topv (vI 4) (congrArg vI (by decide)) ?_
  refine k_put hC fd_X12_389 (kl hN (by decide)) hu1 [.ref (kad G 134), .ref (kad G 135), .ref (kad G 136), .ref (kad G 137), vI (u1 4), vI (u1 5), vI (u1 6), .ref (kad G 138), .ref (kad G 139), .ref (kad G 140), .ref (kad G 141), .ref (kad G 142), vL (u1 12), vL (u1 13), .ref (kad G 143), vI (u1 15), .ref (kad G 144), vI (u1 17), vI (u1 18), vI (u1 19), vI (u1 20), vI (u1 21), vI (u1 22), vI (u1 23), vI (u1 24), vI 4, .ref (kad G 145), .ref (kad G 146), .ref (kad G 147), vI (u1 29)] rfl (Nat.le_of_ble_eq_true rfl) rfl rfl dX12_enter_26 (fun w2 hw2 hf2 => ?_)
  have hKp3 : mkR (kup u1 25 4) bt n st := hKr1.kup25
  have hQ_3 : qcW G w2 (kup u1 25 4) st L := hQ_1.go rfl (hf2 146 (by decide)) (fun q => q)
  have h25_3 : (kup u1 25 4) 25 = 4 := rfl
  have h18p3 := hKp3.1
  have h22p3 := hKp3.2.1
  have hrgp3 := hKp3.2.2.1
  have hcbp3 := hKp3.cb
  have hzzp3 : st.1 = 0 := by omega
  have hq0p3 := hKp3.2.2.2.1 hzzp3
  have henp3 := enM_b (bt := bt) hq0p3.2.2.2
  refine k_aload_n hC dX12_enter_29 rfl 0 rfl ?_
  have h_5 : w2 144 = iA G 700 bt := (hf2 144 (by decide)).trans ((hf1 144 (by decide)).trans h144)
  refine k_muvV hC (c_X12_advance l hls G hN w2 fl (kup u1 25 4) bt n st  hn7 hb hw2 h_5 hKp3) yy_X12_advance wm_X12_417 (kl hN (by decide)) hw2 rfl rfl rfl rfl (Nat.le_of_ble_eq_true rfl) (by decide) (by decide) ⟨by decide, by decide⟩ dX12_enter_30 (fun w4 hp4 => ?_)
  obtain ⟨hT4, hf4⟩ := hp4
  obtain ⟨u4, hu4, hKr4, hs4⟩ := hT4
  obtain ⟨st_6, est_6⟩ : ∃ z : PS, z = adP bt n st := ⟨_, rfl⟩
  rw [← est_6] at hKr4
  have h18r4 := hKr4.1
  have h22r4 := hKr4.2.1
  have hrgr4 := hKr4.2.2.1
  have hcbr4 := hKr4.cb
  have hzir4 : st_6.1 = 0 := by rw [est_6]; exact ad_c.mpr (by omega)
  have hzzr4 : st_6.1 = 0 := by omega
  have hq0r4 := hKr4.2.2.2.1 hzzr4
  have henr4 := enM_b (bt := bt) hq0r4.2.2.2
  have hQ_4 : qcW G w4 u4 st_6 L := hQ_3.go (hs4 29 (by omega)) (hf4 146 (by decide)) (fun q => ad_c.mp (by rw [← est_6]; exact q))
  have h25_4 : u4 25 = 4 := (hs4 25 (by omega)).trans h25_3
  subst hQ
  exact k_vret hC hr ⟨by decide, by decide⟩ (⟨rfl, rfl, ⟨u4, hu4, (by have e : st_6 = adP bt n st := (by exact est_6); rw [← e]; exact hKr4), (by have e : st_6 = adP bt n st := (by exact est_6); rw [← e]; exact hQ_4.cg (fun q => rfl)), h25_4, (uQ.tr (uQ.tr (uQ.tr uQ.rf (uS.q hs1)) uQ.put25) (uS.q hs4))⟩, fun j hj => (hf4 j (by omega)).trans ((hf2 j (by omega)).trans (hf1 j (by omega)))⟩) dX12_enter_33

set_option maxRecDepth 100000 in
set_option maxHeartbeats 4000000 in
theorem c_X12_enter_4 (l : Launch) (hls : l.stackTraces = false) (G : kG) (hN : kN G = 150) (w : Nat → va_E) (fl : va_W) (u bt : Nat → Int) (n : Nat) (st : PS) (L : List Int) (hz0 : st.1 = 0) (hn2 : n ≤ 200) (hqc : qcW G w u st L) (hL : st.1 = 0 → L.length ≤ st.2.2) (h145 : w 145 = nmA G) (h25 : u 25 = 4) (hn7 : n ≤ 700) (hb : btOK bt) (hm : w 133 = mdO G u) (h144 : w 144 = iA G 700 bt) (hK : mkR u bt n st) : KM l G yX12_enter cX12_enter 1 (none) 4 0 0 [.ref (kad G 133)] w fl (kMuv fl (fun w1 => (∃ u1, w1 133 = mdO G u1 ∧ mkR u1 bt n (adP bt n st) ∧ qcW G w1 u1 (adP bt n st) (L) ∧ u1 25 = 5 ∧ uQ u u1) ∧ ∀ j, (j ≠ 133 ∧ j ≠ 146) → w1 j = w j)) := by
  refine KM_of2 hls (by decide +kernel) rfl (lv0 := [(0, .ref (kad G 133))]) rfl (Nat.le_of_ble_eq_true rfl) (fun p e R s m args below meth c Q hC hr hQ => ?_)
  have h18 := hK.1
  have h22 := hK.2.1
  have hrg := hK.2.2.1
  have hcb := hK.cb
  have hk0 := hK.2.2.2.1
  have hk1 := hK.2.2.2.2.1
  have hdg := hK.2.2.2.2.2
  have hzz : st.1 = 0 := by omega
  have hq0 := hK.2.2.2.1 hzz
  have hen := enM_b (bt := bt) hq0.2.2.2
  refine k_aload_n hC dX12_enter_0 rfl 0 rfl ?_
  refine k_aload_n hC dX12_enter_1 rfl 0 rfl ?_
  refine k_get hC fd_X12_389 (kl hN (by decide)) hm rfl dX12_enter_2 ?_
  refine k_topv (vI 4) (congrArg vI (by omega)) ?_
  refine k_bipush hC dX12_enter_5 (by decide) ?_
  refine k_icmp_ge hC 14 dX12_enter_7 rfl (by omega) (by omega) (fun c_7 => absurd c_7 (by omega)) (fun c_7 => ?_)
  refine k_iconst hC dX12_enter_10 ?_
  refine k_goto hC 15 dX12_enter_11 rfl ?_
  refine k_iconst hC dX12_enter_15 ?_
  refine k_muvV hC (c_X12_check1 l hls G hN w fl u bt n st 3 (by omega) hn7 hb hm h144 hK) yy_X12_check wm_X12_413 (kl hN (by decide)) hm rfl rfl rfl rfl (Nat.le_of_ble_eq_true rfl) (by decide) (by decide) ⟨by decide, by decide⟩ dX12_enter_16 (fun w1 hp1 => ?_)
  obtain ⟨hT1, hf1⟩ := hp1
  obtain ⟨u1, hu1, hKr1, hs1⟩ := hT1
  have h18r1 := hKr1.1
  have h22r1 := hKr1.2.1
  have hrgr1 := hKr1.2.2.1
  have hcbr1 := hKr1.cb
  have hzzr1 : st.1 = 0 := by omega
  have hq0r1 := hKr1.2.2.2.1 hzzr1
  have henr1 := enM_b (bt := bt) hq0r1.2.2.2
  have hQ_1 : qcW G w1 u1 st L := hqc.go (hs1 29 (by omega)) (hf1 146 (by decide)) (fun q => q)
  have h25_1 : u1 25 = 4 := (hs1 25 (by omega)).trans h25
  refine k_aload_n hC dX12_enter_19 rfl 0 rfl ?_
  refine k_dup hC dX12_enter_20 rfl ?_
  refine k_get hC fd_X12_389 (kl hN (by decide)) hu1 rfl dX12_enter_21 ?_
  refine k_topv (vI 4) (congrArg vI (by omega)) ?_
  refine k_iconst hC dX12_enter_24 ?_
  refine k_iadd hC dX12_enter_25 ?_
  refine k_topv (vI 5) (congrArg vI (by decide)) ?_
  refine k_put hC fd_X12_389 (kl hN (by decide)) hu1 [.ref (kad G 134), .ref (kad G 135), .ref (kad G 136), .ref (kad G 137), vI (u1 4), vI (u1 5), vI (u1 6), .ref (kad G 138), .ref (kad G 139), .ref (kad G 140), .ref (kad G 141), .ref (kad G 142), vL (u1 12), vL (u1 13), .ref (kad G 143), vI (u1 15), .ref (kad G 144), vI (u1 17), vI (u1 18), vI (u1 19), vI (u1 20), vI (u1 21), vI (u1 22), vI (u1 23), vI (u1 24), vI 5, .ref (kad G 145), .ref (kad G 146), .ref (kad G 147), vI (u1 29)] rfl (Nat.le_of_ble_eq_true rfl) rfl rfl dX12_enter_26 (fun w2 hw2 hf2 => ?_)
  have hKp3 : mkR (kup u1 25 5) bt n st := hKr1.kup25
  have hQ_3 : qcW G w2 (kup u1 25 5) st L := hQ_1.go rfl (hf2 146 (by decide)) (fun q => q)
  have h25_3 : (kup u1 25 5) 25 = 5 := rfl
  have h18p3 := hKp3.1
  have h22p3 := hKp3.2.1
  have hrgp3 := hKp3.2.2.1
  have hcbp3 := hKp3.cb
  have hzzp3 : st.1 = 0 := by omega
  have hq0p3 := hKp3.2.2.2.1 hzzp3
  have henp3 := enM_b (bt := bt) hq0p3.2.2.2
  refine k_aload_n hC dX12_enter_29 rfl 0 rfl ?_
  have h_5 : w2 144 = iA G 700 bt := (hf2 144 (by decide)).trans ((hf1 144 (by decide)).trans h144)
  refine k_muvV hC (c_X12_advance l hls G hN w2 fl (kup u1 25 5) bt n st  hn7 hb hw2 h_5 hKp3) yy_X12_advance wm_X12_417 (kl hN (by decide)) hw2 rfl rfl rfl rfl (Nat.le_of_ble_eq_true rfl) (by decide) (by decide) ⟨by decide, by decide⟩ dX12_enter_30 (fun w4 hp4 => ?_)
  obtain ⟨hT4, hf4⟩ := hp4
  obtain ⟨u4, hu4, hKr4, hs4⟩ := hT4
  obtain ⟨st_6, est_6⟩ : ∃ z : PS, z = adP bt n st := ⟨_, rfl⟩
  rw [← est_6] at hKr4
  have h18r4 := hKr4.1
  have h22r4 := hKr4.2.1
  have hrgr4 := hKr4.2.2.1
  have hcbr4 := hKr4.cb
  have hzir4 : st_6.1 = 0 := by rw [est_6]; exact ad_c.mpr (by omega)
  have hzzr4 : st_6.1 = 0 := by omega
  have hq0r4 := hKr4.2.2.2.1 hzzr4
  have henr4 := enM_b (bt := bt) hq0r4.2.2.2
  have hQ_4 : qcW G w4 u4 st_6 L := hQ_3.go (hs4 29 (by omega)) (hf4 146 (by decide)) (fun q => ad_c.mp (by rw [← est_6]; exact q))
  have h25_4 : u4 25 = 5 := (hs4 25 (by omega)).trans h25_3
  subst hQ
  exact k_vret hC hr ⟨by decide, by decide⟩ (⟨rfl, rfl, ⟨u4, hu4, (by have e : st_6 = adP bt n st := (by exact est_6); rw [← e]; exact hKr4), (by have e : st_6 = adP bt n st := (by exact est_6); rw [← e]; exact hQ_4.cg (fun q => rfl)), h25_4, (uQ.tr (uQ.tr (uQ.tr uQ.rf (uS.q hs1)) uQ.put25) (uS.q hs4))⟩, fun j hj => (hf4 j (by omega)).trans ((hf2 j (by omega)).trans (hf1 j (by omega)))⟩) dX12_enter_33

set_option maxRecDepth 100000 in
set_option maxHeartbeats 4000000 in
theorem c_X12_enter_5 (l : Launch) (hls : l.stackTraces = false) (G : kG) (hN : kN G = 150) (w : Nat → va_E) (fl : va_W) (u bt : Nat → Int) (n : Nat) (st : PS) (L : List Int) (hz0 : st.1 = 0) (hn2 : n ≤ 200) (hqc : qcW G w u st L) (hL : st.1 = 0 → L.length ≤ st.2.2) (h145 : w 145 = nmA G) (h25 : u 25 = 5) (hn7 : n ≤ 700) (hb : btOK bt) (hm : w 133 = mdO G u) (h144 : w 144 = iA G 700 bt) (hK : mkR u bt n st) : KM l G yX12_enter cX12_enter 1 (none) 4 0 0 [.ref (kad G 133)] w fl (kMuv fl (fun w1 => (∃ u1, w1 133 = mdO G u1 ∧ mkR u1 bt n (adP bt n st) ∧ qcW G w1 u1 (adP bt n st) (L) ∧ u1 25 = 6 ∧ uQ u u1) ∧ ∀ j, (j ≠ 133 ∧ j ≠ 146) → w1 j = w j)) := by
  refine KM_of2 hls (by decide +kernel) rfl (lv0 := [(0, .ref (kad G 133))]) rfl (Nat.le_of_ble_eq_true rfl) (fun p e R s m args below meth c Q hC hr hQ => ?_)
  have h18 := hK.1
  have h22 := hK.2.1
  have hrg := hK.2.2.1
  have hcb := hK.cb
  have hk0 := hK.2.2.2.1
  have hk1 := hK.2.2.2.2.1
  have hdg := hK.2.2.2.2.2
  have hzz : st.1 = 0 := by omega
  have hq0 := hK.2.2.2.1 hzz
  have hen := enM_b (bt := bt) hq0.2.2.2
  refine k_aload_n hC dX12_enter_0 rfl 0 rfl ?_
  refine k_aload_n hC dX12_enter_1 rfl 0 rfl ?_
  refine k_get hC fd_X12_389 (kl hN (by decide)) hm rfl dX12_enter_2 ?_
  refine k_topv (vI 5) (congrArg vI (by omega)) ?_
  refine k_bipush hC dX12_enter_5 (by decide) ?_
  refine k_icmp_ge hC 14 dX12_enter_7 rfl (by omega) (by omega) (fun c_7 => absurd c_7 (by omega)) (fun c_7 => ?_)
  refine k_iconst hC dX12_enter_10 ?_
  refine k_goto hC 15 dX12_enter_11 rfl ?_
  refine k_iconst hC dX12_enter_15 ?_
  refine k_muvV hC (c_X12_check1 l hls G hN w fl u bt n st 3 (by omega) hn7 hb hm h144 hK) yy_X12_check wm_X12_413 (kl hN (by decide)) hm rfl rfl rfl rfl (Nat.le_of_ble_eq_true rfl) (by decide) (by decide) ⟨by decide, by decide⟩ dX12_enter_16 (fun w1 hp1 => ?_)
  obtain ⟨hT1, hf1⟩ := hp1
  obtain ⟨u1, hu1, hKr1, hs1⟩ := hT1
  have h18r1 := hKr1.1
  have h22r1 := hKr1.2.1
  have hrgr1 := hKr1.2.2.1
  have hcbr1 := hKr1.cb
  have hzzr1 : st.1 = 0 := by omega
  have hq0r1 := hKr1.2.2.2.1 hzzr1
  have henr1 := enM_b (bt := bt) hq0r1.2.2.2
  have hQ_1 : qcW G w1 u1 st L := hqc.go (hs1 29 (by omega)) (hf1 146 (by decide)) (fun q => q)
  have h25_1 : u1 25 = 5 := (hs1 25 (by omega)).trans h25
  refine k_aload_n hC dX12_enter_19 rfl 0 rfl ?_
  refine k_dup hC dX12_enter_20 rfl ?_
  refine k_get hC fd_X12_389 (kl hN (by decide)) hu1 rfl dX12_enter_21 ?_
  refine k_topv (vI 5) (congrArg vI (by omega)) ?_
  refine k_iconst hC dX12_enter_24 ?_
  refine k_iadd hC dX12_enter_25 ?_
  refine k_topv (vI 6) (congrArg vI (by decide)) ?_
  refine k_put hC fd_X12_389 (kl hN (by decide)) hu1 [.ref (kad G 134), .ref (kad G 135), .ref (kad G 136), .ref (kad G 137), vI (u1 4), vI (u1 5), vI (u1 6), .ref (kad G 138), .ref (kad G 139), .ref (kad G 140), .ref (kad G 141), .ref (kad G 142), vL (u1 12), vL (u1 13), .ref (kad G 143), vI (u1 15), .ref (kad G 144), vI (u1 17), vI (u1 18), vI (u1 19), vI (u1 20), vI (u1 21), vI (u1 22), vI (u1 23), vI (u1 24), vI 6, .ref (kad G 145), .ref (kad G 146), .ref (kad G 147), vI (u1 29)] rfl (Nat.le_of_ble_eq_true rfl) rfl rfl dX12_enter_26 (fun w2 hw2 hf2 => ?_)
  have hKp3 : mkR (kup u1 25 6) bt n st := hKr1.kup25
  have hQ_3 : qcW G w2 (kup u1 25 6) st L := hQ_1.go rfl (hf2 146 (by decide)) (fun q => q)
  have h25_3 : (kup u1 25 6) 25 = 6 := rfl
  have h18p3 := hKp3.1
  have h22p3 := hKp3.2.1
  have hrgp3 := hKp3.2.2.1
  have hcbp3 := hKp3.cb
  have hzzp3 : st.1 = 0 := by omega
  have hq0p3 := hKp3.2.2.2.1 hzzp3
  have henp3 := enM_b (bt := bt) hq0p3.2.2.2
  refine k_aload_n hC dX12_enter_29 rfl 0 rfl ?_
  have h_5 : w2 144 = iA G 700 bt := (hf2 144 (by decide)).trans ((hf1 144 (by decide)).trans h144)
  refine k_muvV hC (c_X12_advance l hls G hN w2 fl (kup u1 25 6) bt n st  hn7 hb hw2 h_5 hKp3) yy_X12_advance wm_X12_417 (kl hN (by decide)) hw2 rfl rfl rfl rfl (Nat.le_of_ble_eq_true rfl) (by decide) (by decide) ⟨by decide, by decide⟩ dX12_enter_30 (fun w4 hp4 => ?_)
  obtain ⟨hT4, hf4⟩ := hp4
  obtain ⟨u4, hu4, hKr4, hs4⟩ := hT4
  obtain ⟨st_6, est_6⟩ : ∃ z : PS, z = adP bt n st := ⟨_, rfl⟩
  rw [← est_6] at hKr4
  have h18r4 := hKr4.1
  have h22r4 := hKr4.2.1
  have hrgr4 := hKr4.2.2.1
  have hcbr4 := hKr4.cb
  have hzir4 : st_6.1 = 0 := by rw [est_6]; exact ad_c.mpr (by omega)
  have hzzr4 : st_6.1 = 0 := by omega
  have hq0r4 := hKr4.2.2.2.1 hzzr4
  have henr4 := enM_b (bt := bt) hq0r4.2.2.2
  have hQ_4 : qcW G w4 u4 st_6 L := hQ_3.go (hs4 29 (by omega)) (hf4 146 (by decide)) (fun q => ad_c.mp (by rw [← est_6]; exact q))
  have h25_4 : u4 25 = 6 := (hs4 25 (by omega)).trans h25_3
  subst hQ
  exact k_vret hC hr ⟨by decide, by decide⟩ (⟨rfl, rfl, ⟨u4, hu4, (by have e : st_6 = adP bt n st := (by exact est_6); rw [← e]; exact hKr4), (by have e : st_6 = adP bt n st := (by exact est_6); rw [← e]; exact hQ_4.cg (fun q => rfl)), h25_4, (uQ.tr (uQ.tr (uQ.tr uQ.rf (uS.q hs1)) uQ.put25) (uS.q hs4))⟩, fun j hj => (hf4 j (by omega)).trans ((hf2 j (by omega)).trans (hf1 j (by omega)))⟩) dX12_enter_33

set_option maxRecDepth 100000 in
set_option maxHeartbeats 4000000 in
theorem c_X12_enter_6 (l : Launch) (hls : l.stackTraces = false) (G : kG) (hN : kN G = 150) (w : Nat → va_E) (fl : va_W) (u bt : Nat → Int) (n : Nat) (st : PS) (L : List Int) (hz0 : st.1 = 0) (hn2 : n ≤ 200) (hqc : qcW G w u st L) (hL : st.1 = 0 → L.length ≤ st.2.2) (h145 : w 145 = nmA G) (h25 : u 25 = 6) (hn7 : n ≤ 700) (hb : btOK bt) (hm : w 133 = mdO G u) (h144 : w 144 = iA G 700 bt) (hK : mkR u bt n st) : KM l G yX12_enter cX12_enter 1 (none) 4 0 0 [.ref (kad G 133)] w fl (kMuv fl (fun w1 => (∃ u1, w1 133 = mdO G u1 ∧ mkR u1 bt n (flP 3 st) ∧ qcW G w1 u1 (flP 3 st) (L) ∧ u1 25 = 7 ∧ uQ u u1) ∧ ∀ j, (j ≠ 133 ∧ j ≠ 146) → w1 j = w j)) := by
  refine KM_of2 hls (by decide +kernel) rfl (lv0 := [(0, .ref (kad G 133))]) rfl (Nat.le_of_ble_eq_true rfl) (fun p e R s m args below meth c Q hC hr hQ => ?_)
  have h18 := hK.1
  have h22 := hK.2.1
  have hrg := hK.2.2.1
  have hcb := hK.cb
  have hk0 := hK.2.2.2.1
  have hk1 := hK.2.2.2.2.1
  have hdg := hK.2.2.2.2.2
  have hzz : st.1 = 0 := by omega
  have hq0 := hK.2.2.2.1 hzz
  have hen := enM_b (bt := bt) hq0.2.2.2
  refine k_aload_n hC dX12_enter_0 rfl 0 rfl ?_
  refine k_aload_n hC dX12_enter_1 rfl 0 rfl ?_
  refine k_get hC fd_X12_389 (kl hN (by decide)) hm rfl dX12_enter_2 ?_
  refine k_topv (vI 6) (congrArg vI (by omega)) ?_
  refine k_bipush hC dX12_enter_5 (by decide) ?_
  refine k_icmp_ge hC 14 dX12_enter_7 rfl (by omega) (by omega) (fun c_7 => ?_) (fun c_7 => absurd c_7 (by omega))
  refine k_iconst hC dX12_enter_14 ?_
  refine k_iconst hC dX12_enter_15 ?_
  refine k_muvV hC (c_X12_check0 l hls G hN w fl u bt n st 3 (by omega) hn7 hb hm h144 hK) yy_X12_check wm_X12_413 (kl hN (by decide)) hm rfl rfl rfl rfl (Nat.le_of_ble_eq_true rfl) (by decide) (by decide) ⟨by decide, by decide⟩ dX12_enter_16 (fun w1 hp1 => ?_)
  obtain ⟨hT1, hf1⟩ := hp1
  obtain ⟨u1, hu1, hKr1, hs1⟩ := hT1
  obtain ⟨st_2, est_2⟩ : ∃ z : PS, z = flP 3 st := ⟨_, rfl⟩
  rw [← est_2] at hKr1
  have h18r1 := hKr1.1
  have h22r1 := hKr1.2.1
  have hrgr1 := hKr1.2.2.1
  have hcbr1 := hKr1.cb
  have hzzr1 : st_2.1 ≠ 0 := by rw [est_2]; exact fl_c (by omega)
  have hQ_1 : qcW G w1 u1 st_2 L := hqc.go (hs1 29 (by omega)) (hf1 146 (by decide)) (fun q => absurd q hzzr1)
  have h25_1 : u1 25 = 6 := (hs1 25 (by omega)).trans h25
  refine k_aload_n hC dX12_enter_19 rfl 0 rfl ?_
  refine k_dup hC dX12_enter_20 rfl ?_
  refine k_get hC fd_X12_389 (kl hN (by decide)) hu1 rfl dX12_enter_21 ?_
  refine k_topv (vI 6) (congrArg vI (by omega)) ?_
  refine k_iconst hC dX12_enter_24 ?_
  refine k_iadd hC dX12_enter_25 ?_
  refine k_topv (vI 7) (congrArg vI (by decide)) ?_
  refine k_put hC fd_X12_389 (kl hN (by decide)) hu1 [.ref (kad G 134), .ref (kad G 135), .ref (kad G 136), .ref (kad G 137), vI (u1 4), vI (u1 5), vI (u1 6), .ref (kad G 138), .ref (kad G 139), .ref (kad G 140), .ref (kad G 141), .ref (kad G 142), vL (u1 12), vL (u1 13), .ref (kad G 143), vI (u1 15), .ref (kad G 144), vI (u1 17), vI (u1 18), vI (u1 19), vI (u1 20), vI (u1 21), vI (u1 22), vI (u1 23), vI (u1 24), vI 7, .ref (kad G 145), .ref (kad G 146), .ref (kad G 147), vI (u1 29)] rfl (Nat.le_of_ble_eq_true rfl) rfl rfl dX12_enter_26 (fun w3 hw3 hf3 => ?_)
  have hKp4 : mkR (kup u1 25 7) bt n st_2 := hKr1.kup25
  have hQ_4 : qcW G w3 (kup u1 25 7) st_2 L := hQ_1.go rfl (hf3 146 (by decide)) (fun q => q)
  have h25_4 : (kup u1 25 7) 25 = 7 := rfl
  have h18p4 := hKp4.1
  have h22p4 := hKp4.2.1
  have hrgp4 := hKp4.2.2.1
  have hcbp4 := hKp4.cb
  have hzzp4 : st_2.1 ≠ 0 := by omega
  refine k_aload_n hC dX12_enter_29 rfl 0 rfl ?_
  have h_6 : w3 144 = iA G 700 bt := (hf3 144 (by decide)).trans ((hf1 144 (by decide)).trans h144)
  refine k_muvV hC (c_X12_advance l hls G hN w3 fl (kup u1 25 7) bt n st_2  hn7 hb hw3 h_6 hKp4) yy_X12_advance wm_X12_417 (kl hN (by decide)) hw3 rfl rfl rfl rfl (Nat.le_of_ble_eq_true rfl) (by decide) (by decide) ⟨by decide, by decide⟩ dX12_enter_30 (fun w5 hp5 => ?_)
  obtain ⟨hT5, hf5⟩ := hp5
  obtain ⟨u5, hu5, hKr5, hs5⟩ := hT5
  obtain ⟨st_7, est_7⟩ : ∃ z : PS, z = adP bt n st_2 := ⟨_, rfl⟩
  rw [← est_7] at hKr5
  have h18r5 := hKr5.1
  have h22r5 := hKr5.2.1
  have hrgr5 := hKr5.2.2.1
  have hcbr5 := hKr5.cb
  have hzzr5 : st_7.1 ≠ 0 := by rw [est_7, adP_e (by omega)]; omega
  have hQ_5 : qcW G w5 u5 st_7 L := hQ_4.go (hs5 29 (by omega)) (hf5 146 (by decide)) (fun q => ad_c.mp (by rw [← est_7]; exact q))
  have h25_5 : u5 25 = 7 := (hs5 25 (by omega)).trans h25_4
  subst hQ
  exact k_vret hC hr ⟨by decide, by decide⟩ (⟨rfl, rfl, ⟨u5, hu5, (by have e : st_7 = flP 3 st := (by rw [est_7, adP_e (by omega)]; exact est_2); rw [← e]; exact hKr5), (by have e : st_7 = flP 3 st := (by rw [est_7, adP_e (by omega)]; exact est_2); rw [← e]; exact hQ_5.cg (fun q => rfl)), h25_5, (uQ.tr (uQ.tr (uQ.tr uQ.rf (uS.q hs1)) uQ.put25) (uS.q hs5))⟩, fun j hj => (hf5 j (by omega)).trans ((hf3 j (by omega)).trans (hf1 j (by omega)))⟩) dX12_enter_33

set_option maxRecDepth 100000 in
set_option maxHeartbeats 4000000 in
theorem c_X12_compileFactor_0 (l : Launch) (hls : l.stackTraces = false) (G : kG) (hN : kN G = 150) (w : Nat → va_E) (fl : va_W) (u bt : Nat → Int) (n : Nat) (st : PS) (L : List Int) (V : Int → Nat → Int) (hn2 : n ≤ 200) (hqc : qcW G w u st L) (hL : st.1 = 0 → L.length ≤ st.2.2) (h145 : w 145 = nmA G) (h25 : u 25 = 6) (hn7 : n ≤ 700) (hb : btOK bt) (hm : w 133 = mdO G u) (h144 : w 144 = iA G 700 bt) (hK : mkR u bt n st) : KM l G yX12_compileFactor cX12_compileFactor 2 (none) 6 0 0 [.ref (kad G 133)] w fl (kMuv fl (fun w1 => (∃ u1, w1 133 = mdO G u1 ∧ mkR u1 bt n ((qF V bt n 0 st).1) ∧ qcW G w1 u1 ((qF V bt n 0 st).1) (L ++ (qF V bt n 0 st).2.1) ∧ u1 25 = 6 ∧ uQ u u1) ∧ ∀ j, (j ≠ 133 ∧ j ≠ 146) → w1 j = w j)) := by
  refine KM_of2 hls (by decide +kernel) rfl (lv0 := [(0, .ref (kad G 133))]) rfl (Nat.le_of_ble_eq_true rfl) (fun p e R s m args below meth c Q hC hr hQ => ?_)
  have h18 := hK.1
  have h22 := hK.2.1
  have hrg := hK.2.2.1
  have hcb := hK.cb
  have hk0 := hK.2.2.2.1
  have hk1 := hK.2.2.2.2.1
  have hdg := hK.2.2.2.2.2
  have hle0 := hK.le
  refine k_aload_n hC dX12_compileFactor_0 rfl 0 rfl ?_
  refine k_ldcsw hC (List.mem_of_getElem? (i := 55) rfl) dX12_compileFactor_1 ?_
  refine k_pureV hC (c_X12_isWord l hls G hN w fl u bt n st 31 (by decide) hn7 hb hm h144 hK) yy_X12_isWord wm_X12_409 (kl hN (by decide)) hm rfl rfl rfl rfl (Nat.le_of_ble_eq_true rfl) (by decide) (by decide) ⟨by decide, by decide⟩ dX12_compileFactor_4 ?_
  obtain ⟨z_1, ez_1, hz_1⟩ := selI_c (isW bt n 31 st)
  refine k_topv (vI z_1) (by rw [ez_1]) ?_
  refine k_if_eq hC 44 dX12_compileFactor_7 rfl (by omega) (fun c_7 => ?_) (fun c_7 => ?_)
  · have hw31 : ¬ isW bt n 31 st := (hz_1.resolve_left (fun q1 => by omega)).2
    refine k_aload_n hC dX12_compileFactor_44 rfl 0 rfl ?_
    refine k_bipush hC dX12_compileFactor_45 (by decide) ?_
    refine k_pureV hC (c_X12_isSymbol l hls G hN w fl u bt n st 40 (by omega) hn7 hb hm h144 hK) yy_X12_isSymbol wm_X12_420 (kl hN (by decide)) hm rfl rfl rfl rfl (Nat.le_of_ble_eq_true rfl) (by decide) (by decide) ⟨by decide, by decide⟩ dX12_compileFactor_47 ?_
    obtain ⟨z_2, ez_2, hz_2⟩ := selI_c (isS bt n 40 st)
    refine k_topv (vI z_2) (by rw [ez_2]) ?_
    refine k_if_eq hC 87 dX12_compileFactor_50 rfl (by omega) (fun c_50 => ?_) (fun c_50 => ?_)
    · have hw40 : ¬ isS bt n 40 st := (hz_2.resolve_left (fun q1 => by omega)).2
      have hqF := qF_c (V := V) 0 hw31 hw40
      refine k_aload_n hC dX12_compileFactor_87 rfl 0 rfl ?_
      refine k_muvV hC (c_X12_compileValue l hls G hN w fl u bt n st L 6 hn2 hqc hL h145 h25 hn7 hb hm h144 hK) yy_X12_compileValue wm_X12_501 (kl hN (by decide)) hm rfl rfl rfl rfl (Nat.le_of_ble_eq_true rfl) (by decide) (by decide) ⟨by decide, by decide⟩ dX12_compileFactor_88 (fun w3 hp3 => ?_)
      obtain ⟨hT3, hf3⟩ := hp3
      obtain ⟨u3, hu3, hKr3, hQ_3, h25_3, hs3⟩ := hT3
      obtain ⟨st_4, est_4⟩ : ∃ z : PS, z = vlS bt n st := ⟨_, rfl⟩
      rw [← est_4] at hKr3 hQ_3
      have h18r3 := hKr3.1
      have h22r3 := hKr3.2.1
      have hrgr3 := hKr3.2.2.1
      have hcbr3 := hKr3.cb
      refine k_aload_n hC dX12_compileFactor_91 rfl 0 rfl ?_
      refine k_bipush hC dX12_compileFactor_92 (by decide) ?_
      have h_5 : w3 144 = iA G 700 bt := (hf3 144 (by decide)).trans h144
      refine k_pureV hC (c_X12_isSymbol l hls G hN w3 fl u3 bt n st_4 60 (by omega) hn7 hb hu3 h_5 hKr3) yy_X12_isSymbol wm_X12_420 (kl hN (by decide)) hu3 rfl rfl rfl rfl (Nat.le_of_ble_eq_true rfl) (by decide) (by decide) ⟨by decide, by decide⟩ dX12_compileFactor_94 ?_
      obtain ⟨z_6, ez_6, hz_6⟩ := selI_c (isS bt n 60 st_4)
      refine k_topv (vI z_6) (by rw [ez_6]) ?_
      refine k_if_eq hC 105 dX12_compileFactor_97 rfl (by omega) (fun c_97 => ?_) (fun c_97 => ?_)
      · refine k_aload_n hC dX12_compileFactor_105 rfl 0 rfl ?_
        refine k_bipush hC dX12_compileFactor_106 (by decide) ?_
        refine k_pureV hC (c_X12_isSymbol l hls G hN w3 fl u3 bt n st_4 61 (by omega) hn7 hb hu3 h_5 hKr3) yy_X12_isSymbol wm_X12_420 (kl hN (by decide)) hu3 rfl rfl rfl rfl (Nat.le_of_ble_eq_true rfl) (by decide) (by decide) ⟨by decide, by decide⟩ dX12_compileFactor_108 ?_
        obtain ⟨z_7, ez_7, hz_7⟩ := selI_c (isS bt n 61 st_4)
        refine k_topv (vI z_7) (by rw [ez_7]) ?_
        refine k_if_eq hC 119 dX12_compileFactor_111 rfl (by omega) (fun c_111 => ?_) (fun c_111 => ?_)
        · refine k_bipush hC dX12_compileFactor_119 (by decide) ?_
          refine k_istore_n hC [(1, vI (-22)), (0, .ref (kad G 133))] dX12_compileFactor_121 rfl (by decide) rfl ?_
          refine k_aload_n hC dX12_compileFactor_122 rfl 1 rfl ?_
          refine k_iload_n hC dX12_compileFactor_123 rfl 0 rfl ?_
          refine k_bipush hC dX12_compileFactor_124 (by decide) ?_
          refine k_icmp_ne hC 138 dX12_compileFactor_126 rfl (by omega) (by omega) (fun c_126 => absurd c_126 (by omega)) (fun c_126 => ?_)
          refine k_aload_n hC dX12_compileFactor_129 rfl 1 rfl ?_
          refine k_bipush hC dX12_compileFactor_130 (by decide) ?_
          refine k_pureV hC (c_X12_isSymbol l hls G hN w3 fl u3 bt n st_4 62 (by omega) hn7 hb hu3 h_5 hKr3) yy_X12_isSymbol wm_X12_420 (kl hN (by decide)) hu3 rfl rfl rfl rfl (Nat.le_of_ble_eq_true rfl) (by decide) (by decide) ⟨by decide, by decide⟩ dX12_compileFactor_132 ?_
          obtain ⟨z_8, ez_8, hz_8⟩ := selI_c (isS bt n 62 st_4)
          refine k_topv (vI z_8) (by rw [ez_8]) ?_
          refine k_if_eq hC 142 dX12_compileFactor_135 rfl (by omega) (fun c_135 => ?_) (fun c_135 => ?_)
          · refine k_iconst hC dX12_compileFactor_142 ?_
            refine k_iconst hC dX12_compileFactor_143 ?_
            refine k_muvV hC (c_X12_check0 l hls G hN w3 fl u3 bt n st_4 1 (by omega) hn7 hb hu3 h_5 hKr3) yy_X12_check wm_X12_413 (kl hN (by decide)) hu3 rfl rfl rfl rfl (Nat.le_of_ble_eq_true rfl) (by decide) (by decide) ⟨by decide, by decide⟩ dX12_compileFactor_144 (fun w9 hp9 => ?_)
            obtain ⟨hT9, hf9⟩ := hp9
            obtain ⟨u9, hu9, hKr9, hs9⟩ := hT9
            obtain ⟨st_10, est_10⟩ : ∃ z : PS, z = flP 1 st_4 := ⟨_, rfl⟩
            rw [← est_10] at hKr9
            have h18r9 := hKr9.1
            have h22r9 := hKr9.2.1
            have hrgr9 := hKr9.2.2.1
            have hcbr9 := hKr9.cb
            have hzzr9 : st_10.1 ≠ 0 := by rw [est_10]; exact fl_c (by omega)
            have hQ_9 : qcW G w9 u9 st_10 (L ++ [vlC bt n st]) := hQ_3.go (hs9 29 (by omega)) (hf9 146 (by decide)) (fun q => absurd q hzzr9)
            have h25_9 : u9 25 = 6 := (hs9 25 (by omega)).trans h25_3
            refine k_aload_n hC dX12_compileFactor_147 rfl 1 rfl ?_
            have h_12 : w9 144 = iA G 700 bt := (hf9 144 (by decide)).trans h_5
            refine k_muvV hC (c_X12_advance l hls G hN w9 fl u9 bt n st_10  hn7 hb hu9 h_12 hKr9) yy_X12_advance wm_X12_417 (kl hN (by decide)) hu9 rfl rfl rfl rfl (Nat.le_of_ble_eq_true rfl) (by decide) (by decide) ⟨by decide, by decide⟩ dX12_compileFactor_148 (fun w11 hp11 => ?_)
            obtain ⟨hT11, hf11⟩ := hp11
            obtain ⟨u11, hu11, hKr11, hs11⟩ := hT11
            obtain ⟨st_13, est_13⟩ : ∃ z : PS, z = adP bt n st_10 := ⟨_, rfl⟩
            rw [← est_13] at hKr11
            have h18r11 := hKr11.1
            have h22r11 := hKr11.2.1
            have hrgr11 := hKr11.2.2.1
            have hcbr11 := hKr11.cb
            have hzzr11 : st_13.1 ≠ 0 := by rw [est_13, adP_e (by omega)]; omega
            have hQ_11 : qcW G w11 u11 st_13 (L ++ [vlC bt n st]) := hQ_9.go (hs11 29 (by omega)) (hf11 146 (by decide)) (fun q => ad_c.mp (by rw [← est_13]; exact q))
            have h25_11 : u11 25 = 6 := (hs11 25 (by omega)).trans h25_9
            have hop : opM bt n st_4 = -22 := (selI_0 (hz_6.resolve_left (fun q1 => by omega)).2).trans (selI_0 (hz_7.resolve_left (fun q1 => by omega)).2)
            have hob9 : st_13 = opS bt n st_4 := by unfold opS; rw [selP_0 (fun q => q.elim (hz_6.resolve_left (fun q1 => by omega)).2 (fun q => q.elim (hz_7.resolve_left (fun q1 => by omega)).2 (hz_8.resolve_left (fun q1 => by omega)).2)), ← est_10]; exact est_13
            refine k_aload_n hC dX12_compileFactor_151 rfl 1 rfl ?_
            have h_14 : w11 145 = rA G 6 7 (fun j => some (kadK G (nmI j))) := (hf11 145 (by decide)).trans ((hf9 145 (by decide)).trans ((hf3 145 (by decide)).trans h145))
            have h_15 : w11 144 = iA G 700 bt := (hf11 144 (by decide)).trans h_12
            refine k_muvV hC (c_X12_compileValue l hls G hN w11 fl u11 bt n st_13 (L ++ [vlC bt n st]) 6 hn2 hQ_11 (by rw [hob9, est_4]; exact hl_cmp hle0 hL) h_14 h25_11 hn7 hb hu11 h_15 hKr11) yy_X12_compileValue wm_X12_501 (kl hN (by decide)) hu11 rfl rfl rfl rfl (Nat.le_of_ble_eq_true rfl) (by decide) (by decide) ⟨by decide, by decide⟩ dX12_compileFactor_152 (fun w16 hp16 => ?_)
            obtain ⟨hT16, hf16⟩ := hp16
            obtain ⟨u16, hu16, hKr16, hQ_16, h25_16, hs16⟩ := hT16
            obtain ⟨st_17, est_17⟩ : ∃ z : PS, z = vlS bt n st_13 := ⟨_, rfl⟩
            rw [← est_17] at hKr16 hQ_16
            have h18r16 := hKr16.1
            have h22r16 := hKr16.2.1
            have hrgr16 := hKr16.2.2.1
            have hcbr16 := hKr16.cb
            have hob : st_13 = opS bt n st_4 := by exact hob9
            refine k_aload_n hC dX12_compileFactor_155 rfl 1 rfl ?_
            refine k_iload_n hC dX12_compileFactor_156 rfl 0 rfl ?_
            have h_19 : w16 144 = iA G 700 bt := (hf16 144 (by decide)).trans h_15
            refine k_muvV hC (c_X12_emit l hls G hN w16 fl u16 bt n st_17 (L ++ [vlC bt n st] ++ [vlC bt n st_13]) (-22) (by rw [est_17, hob, est_4]; exact lt_cmp hn2 hle0 hL) hn2 hQ_16 hn7 hb hu16 h_19 hKr16) yy_X12_emit wm_X12_487 (kl hN (by decide)) hu16 rfl rfl rfl rfl (Nat.le_of_ble_eq_true rfl) (by decide) (by decide) ⟨by decide, by decide⟩ dX12_compileFactor_157 (fun w18 hp18 => ?_)
            obtain ⟨⟨u18, hu18, hKr18, hQ_18, hs18⟩, hf18⟩ := hp18
            have h18r18 := hKr18.1
            have h22r18 := hKr18.2.1
            have hrgr18 := hKr18.2.2.1
            have hcbr18 := hKr18.cb
            have h25_18 : u18 25 = 6 := (hs18 25 (by decide)).trans h25_16
            subst hQ
            exact k_vret hC hr ⟨by decide, by decide⟩ (⟨rfl, rfl, ⟨u18, hu18, (by have e : st_17 = (qF V bt n 0 st).1 := (by rw [hqF]; show st_17 = vlS bt n (opS bt n (vlS bt n st)); rw [← est_4, ← hob9]; exact est_17); rw [← e]; exact hKr18), (by have e : st_17 = (qF V bt n 0 st).1 := (by rw [hqF]; show st_17 = vlS bt n (opS bt n (vlS bt n st)); rw [← est_4, ← hob9]; exact est_17); rw [← e]; exact hQ_18.cg (fun q => by rw [hqF]; show _ = L ++ [vlC bt n st, vlC bt n (opS bt n (vlS bt n st)), opM bt n (vlS bt n st)]; rw [← est_4, hop, ← hob9, List.append_assoc, List.append_assoc]; rfl)), h25_18, (uQ.tr (uQ.tr (uQ.tr (uQ.tr (uQ.tr uQ.rf hs3) (uS.q hs9)) (uS.q hs11)) hs16) (uQ.e29 hs18))⟩, fun j hj => (hf18 j (by omega)).trans ((hf16 j (by omega)).trans ((hf11 j (by omega)).trans ((hf9 j (by omega)).trans (hf3 j (by omega)))))⟩) dX12_compileFactor_160
          · refine k_iconst hC dX12_compileFactor_138 ?_
            refine k_goto hC 143 dX12_compileFactor_139 rfl ?_
            refine k_iconst hC dX12_compileFactor_143 ?_
            refine k_muvV hC (c_X12_check1 l hls G hN w3 fl u3 bt n st_4 1 (by omega) hn7 hb hu3 h_5 hKr3) yy_X12_check wm_X12_413 (kl hN (by decide)) hu3 rfl rfl rfl rfl (Nat.le_of_ble_eq_true rfl) (by decide) (by decide) ⟨by decide, by decide⟩ dX12_compileFactor_144 (fun w20 hp20 => ?_)
            obtain ⟨hT20, hf20⟩ := hp20
            obtain ⟨u20, hu20, hKr20, hs20⟩ := hT20
            have h18r20 := hKr20.1
            have h22r20 := hKr20.2.1
            have hrgr20 := hKr20.2.2.1
            have hcbr20 := hKr20.cb
            have hQ_20 : qcW G w20 u20 st_4 (L ++ [vlC bt n st]) := hQ_3.go (hs20 29 (by omega)) (hf20 146 (by decide)) (fun q => q)
            have h25_20 : u20 25 = 6 := (hs20 25 (by omega)).trans h25_3
            refine k_aload_n hC dX12_compileFactor_147 rfl 1 rfl ?_
            have h_22 : w20 144 = iA G 700 bt := (hf20 144 (by decide)).trans h_5
            refine k_muvV hC (c_X12_advance l hls G hN w20 fl u20 bt n st_4  hn7 hb hu20 h_22 hKr20) yy_X12_advance wm_X12_417 (kl hN (by decide)) hu20 rfl rfl rfl rfl (Nat.le_of_ble_eq_true rfl) (by decide) (by decide) ⟨by decide, by decide⟩ dX12_compileFactor_148 (fun w21 hp21 => ?_)
            obtain ⟨hT21, hf21⟩ := hp21
            obtain ⟨u21, hu21, hKr21, hs21⟩ := hT21
            obtain ⟨st_23, est_23⟩ : ∃ z : PS, z = adP bt n st_4 := ⟨_, rfl⟩
            rw [← est_23] at hKr21
            have h18r21 := hKr21.1
            have h22r21 := hKr21.2.1
            have hrgr21 := hKr21.2.2.1
            have hcbr21 := hKr21.cb
            have hQ_21 : qcW G w21 u21 st_23 (L ++ [vlC bt n st]) := hQ_20.go (hs21 29 (by omega)) (hf21 146 (by decide)) (fun q => ad_c.mp (by rw [← est_23]; exact q))
            have h25_21 : u21 25 = 6 := (hs21 25 (by omega)).trans h25_20
            have hop : opM bt n st_4 = -22 := (selI_0 (hz_6.resolve_left (fun q1 => by omega)).2).trans (selI_0 (hz_7.resolve_left (fun q1 => by omega)).2)
            have hob9 : st_23 = opS bt n st_4 := by unfold opS; rw [selP_1 (Or.inr (Or.inr (hz_8.resolve_right (fun q1 => by omega)).2))]; exact est_23
            refine k_aload_n hC dX12_compileFactor_151 rfl 1 rfl ?_
            have h_24 : w21 145 = rA G 6 7 (fun j => some (kadK G (nmI j))) := (hf21 145 (by decide)).trans ((hf20 145 (by decide)).trans ((hf3 145 (by decide)).trans h145))
            have h_25 : w21 144 = iA G 700 bt := (hf21 144 (by decide)).trans h_22
            refine k_muvV hC (c_X12_compileValue l hls G hN w21 fl u21 bt n st_23 (L ++ [vlC bt n st]) 6 hn2 hQ_21 (by rw [hob9, est_4]; exact hl_cmp hle0 hL) h_24 h25_21 hn7 hb hu21 h_25 hKr21) yy_X12_compileValue wm_X12_501 (kl hN (by decide)) hu21 rfl rfl rfl rfl (Nat.le_of_ble_eq_true rfl) (by decide) (by decide) ⟨by decide, by decide⟩ dX12_compileFactor_152 (fun w26 hp26 => ?_)
            obtain ⟨hT26, hf26⟩ := hp26
            obtain ⟨u26, hu26, hKr26, hQ_26, h25_26, hs26⟩ := hT26
            obtain ⟨st_27, est_27⟩ : ∃ z : PS, z = vlS bt n st_23 := ⟨_, rfl⟩
            rw [← est_27] at hKr26 hQ_26
            have h18r26 := hKr26.1
            have h22r26 := hKr26.2.1
            have hrgr26 := hKr26.2.2.1
            have hcbr26 := hKr26.cb
            have hob : st_23 = opS bt n st_4 := by exact hob9
            refine k_aload_n hC dX12_compileFactor_155 rfl 1 rfl ?_
            refine k_iload_n hC dX12_compileFactor_156 rfl 0 rfl ?_
            have h_29 : w26 144 = iA G 700 bt := (hf26 144 (by decide)).trans h_25
            refine k_muvV hC (c_X12_emit l hls G hN w26 fl u26 bt n st_27 (L ++ [vlC bt n st] ++ [vlC bt n st_23]) (-22) (by rw [est_27, hob, est_4]; exact lt_cmp hn2 hle0 hL) hn2 hQ_26 hn7 hb hu26 h_29 hKr26) yy_X12_emit wm_X12_487 (kl hN (by decide)) hu26 rfl rfl rfl rfl (Nat.le_of_ble_eq_true rfl) (by decide) (by decide) ⟨by decide, by decide⟩ dX12_compileFactor_157 (fun w28 hp28 => ?_)
            obtain ⟨⟨u28, hu28, hKr28, hQ_28, hs28⟩, hf28⟩ := hp28
            have h18r28 := hKr28.1
            have h22r28 := hKr28.2.1
            have hrgr28 := hKr28.2.2.1
            have hcbr28 := hKr28.cb
            have h25_28 : u28 25 = 6 := (hs28 25 (by decide)).trans h25_26
            subst hQ
            exact k_vret hC hr ⟨by decide, by decide⟩ (⟨rfl, rfl, ⟨u28, hu28, (by have e : st_27 = (qF V bt n 0 st).1 := (by rw [hqF]; show st_27 = vlS bt n (opS bt n (vlS bt n st)); rw [← est_4, ← hob9]; exact est_27); rw [← e]; exact hKr28), (by have e : st_27 = (qF V bt n 0 st).1 := (by rw [hqF]; show st_27 = vlS bt n (opS bt n (vlS bt n st)); rw [← est_4, ← hob9]; exact est_27); rw [← e]; exact hQ_28.cg (fun q => by rw [hqF]; show _ = L ++ [vlC bt n st, vlC bt n (opS bt n (vlS bt n st)), opM bt n (vlS bt n st)]; rw [← est_4, hop, ← hob9, List.append_assoc, List.append_assoc]; rfl)), h25_28, (uQ.tr (uQ.tr (uQ.tr (uQ.tr (uQ.tr uQ.rf hs3) (uS.q hs20)) (uS.q hs21)) hs26) (uQ.e29 hs28))⟩, fun j hj => (hf28 j (by omega)).trans ((hf26 j (by omega)).trans ((hf21 j (by omega)).trans ((hf20 j (by omega)).trans (hf3 j (by omega)))))⟩) dX12_compileFactor_160
        · refine k_bipush hC dX12_compileFactor_114 (by decide) ?_
          refine k_goto hC 121 dX12_compileFactor_116 rfl ?_
          refine k_istore_n hC [(1, vI (-21)), (0, .ref (kad G 133))] dX12_compileFactor_121 rfl (by decide) rfl ?_
          refine k_aload_n hC dX12_compileFactor_122 rfl 1 rfl ?_
          refine k_iload_n hC dX12_compileFactor_123 rfl 0 rfl ?_
          refine k_bipush hC dX12_compileFactor_124 (by decide) ?_
          refine k_icmp_ne hC 138 dX12_compileFactor_126 rfl (by omega) (by omega) (fun c_126 => ?_) (fun c_126 => absurd c_126 (by omega))
          refine k_iconst hC dX12_compileFactor_138 ?_
          refine k_goto hC 143 dX12_compileFactor_139 rfl ?_
          refine k_iconst hC dX12_compileFactor_143 ?_
          refine k_muvV hC (c_X12_check1 l hls G hN w3 fl u3 bt n st_4 1 (by omega) hn7 hb hu3 h_5 hKr3) yy_X12_check wm_X12_413 (kl hN (by decide)) hu3 rfl rfl rfl rfl (Nat.le_of_ble_eq_true rfl) (by decide) (by decide) ⟨by decide, by decide⟩ dX12_compileFactor_144 (fun w30 hp30 => ?_)
          obtain ⟨hT30, hf30⟩ := hp30
          obtain ⟨u30, hu30, hKr30, hs30⟩ := hT30
          have h18r30 := hKr30.1
          have h22r30 := hKr30.2.1
          have hrgr30 := hKr30.2.2.1
          have hcbr30 := hKr30.cb
          have hQ_30 : qcW G w30 u30 st_4 (L ++ [vlC bt n st]) := hQ_3.go (hs30 29 (by omega)) (hf30 146 (by decide)) (fun q => q)
          have h25_30 : u30 25 = 6 := (hs30 25 (by omega)).trans h25_3
          refine k_aload_n hC dX12_compileFactor_147 rfl 1 rfl ?_
          have h_32 : w30 144 = iA G 700 bt := (hf30 144 (by decide)).trans h_5
          refine k_muvV hC (c_X12_advance l hls G hN w30 fl u30 bt n st_4  hn7 hb hu30 h_32 hKr30) yy_X12_advance wm_X12_417 (kl hN (by decide)) hu30 rfl rfl rfl rfl (Nat.le_of_ble_eq_true rfl) (by decide) (by decide) ⟨by decide, by decide⟩ dX12_compileFactor_148 (fun w31 hp31 => ?_)
          obtain ⟨hT31, hf31⟩ := hp31
          obtain ⟨u31, hu31, hKr31, hs31⟩ := hT31
          obtain ⟨st_33, est_33⟩ : ∃ z : PS, z = adP bt n st_4 := ⟨_, rfl⟩
          rw [← est_33] at hKr31
          have h18r31 := hKr31.1
          have h22r31 := hKr31.2.1
          have hrgr31 := hKr31.2.2.1
          have hcbr31 := hKr31.cb
          have hQ_31 : qcW G w31 u31 st_33 (L ++ [vlC bt n st]) := hQ_30.go (hs31 29 (by omega)) (hf31 146 (by decide)) (fun q => ad_c.mp (by rw [← est_33]; exact q))
          have h25_31 : u31 25 = 6 := (hs31 25 (by omega)).trans h25_30
          have hop : opM bt n st_4 = -21 := (selI_0 (hz_6.resolve_left (fun q1 => by omega)).2).trans (selI_1 (hz_7.resolve_right (fun q1 => by omega)).2)
          have hob9 : st_33 = opS bt n st_4 := by unfold opS; rw [selP_1 (Or.inr (Or.inl (hz_7.resolve_right (fun q1 => by omega)).2))]; exact est_33
          refine k_aload_n hC dX12_compileFactor_151 rfl 1 rfl ?_
          have h_34 : w31 145 = rA G 6 7 (fun j => some (kadK G (nmI j))) := (hf31 145 (by decide)).trans ((hf30 145 (by decide)).trans ((hf3 145 (by decide)).trans h145))
          have h_35 : w31 144 = iA G 700 bt := (hf31 144 (by decide)).trans h_32
          refine k_muvV hC (c_X12_compileValue l hls G hN w31 fl u31 bt n st_33 (L ++ [vlC bt n st]) 6 hn2 hQ_31 (by rw [hob9, est_4]; exact hl_cmp hle0 hL) h_34 h25_31 hn7 hb hu31 h_35 hKr31) yy_X12_compileValue wm_X12_501 (kl hN (by decide)) hu31 rfl rfl rfl rfl (Nat.le_of_ble_eq_true rfl) (by decide) (by decide) ⟨by decide, by decide⟩ dX12_compileFactor_152 (fun w36 hp36 => ?_)
          obtain ⟨hT36, hf36⟩ := hp36
          obtain ⟨u36, hu36, hKr36, hQ_36, h25_36, hs36⟩ := hT36
          obtain ⟨st_37, est_37⟩ : ∃ z : PS, z = vlS bt n st_33 := ⟨_, rfl⟩
          rw [← est_37] at hKr36 hQ_36
          have h18r36 := hKr36.1
          have h22r36 := hKr36.2.1
          have hrgr36 := hKr36.2.2.1
          have hcbr36 := hKr36.cb
          have hob : st_33 = opS bt n st_4 := by exact hob9
          refine k_aload_n hC dX12_compileFactor_155 rfl 1 rfl ?_
          refine k_iload_n hC dX12_compileFactor_156 rfl 0 rfl ?_
          have h_39 : w36 144 = iA G 700 bt := (hf36 144 (by decide)).trans h_35
          refine k_muvV hC (c_X12_emit l hls G hN w36 fl u36 bt n st_37 (L ++ [vlC bt n st] ++ [vlC bt n st_33]) (-21) (by rw [est_37, hob, est_4]; exact lt_cmp hn2 hle0 hL) hn2 hQ_36 hn7 hb hu36 h_39 hKr36) yy_X12_emit wm_X12_487 (kl hN (by decide)) hu36 rfl rfl rfl rfl (Nat.le_of_ble_eq_true rfl) (by decide) (by decide) ⟨by decide, by decide⟩ dX12_compileFactor_157 (fun w38 hp38 => ?_)
          obtain ⟨⟨u38, hu38, hKr38, hQ_38, hs38⟩, hf38⟩ := hp38
          have h18r38 := hKr38.1
          have h22r38 := hKr38.2.1
          have hrgr38 := hKr38.2.2.1
          have hcbr38 := hKr38.cb
          have h25_38 : u38 25 = 6 := (hs38 25 (by decide)).trans h25_36
          subst hQ
          exact k_vret hC hr ⟨by decide, by decide⟩ (⟨rfl, rfl, ⟨u38, hu38, (by have e : st_37 = (qF V bt n 0 st).1 := (by rw [hqF]; show st_37 = vlS bt n (opS bt n (vlS bt n st)); rw [← est_4, ← hob9]; exact est_37); rw [← e]; exact hKr38), (by have e : st_37 = (qF V bt n 0 st).1 := (by rw [hqF]; show st_37 = vlS bt n (opS bt n (vlS bt n st)); rw [← est_4, ← hob9]; exact est_37); rw [← e]; exact hQ_38.cg (fun q => by rw [hqF]; show _ = L ++ [vlC bt n st, vlC bt n (opS bt n (vlS bt n st)), opM bt n (vlS bt n st)]; rw [← est_4, hop, ← hob9, List.append_assoc, List.append_assoc]; rfl)), h25_38, (uQ.tr (uQ.tr (uQ.tr (uQ.tr (uQ.tr uQ.rf hs3) (uS.q hs30)) (uS.q hs31)) hs36) (uQ.e29 hs38))⟩, fun j hj => (hf38 j (by omega)).trans ((hf36 j (by omega)).trans ((hf31 j (by omega)).trans ((hf30 j (by omega)).trans (hf3 j (by omega)))))⟩) dX12_compileFactor_160
      · refine k_bipush hC dX12_compileFactor_100 (by decide) ?_
        refine k_goto hC 121 dX12_compileFactor_102 rfl ?_
        refine k_istore_n hC [(1, vI (-20)), (0, .ref (kad G 133))] dX12_compileFactor_121 rfl (by decide) rfl ?_
        refine k_aload_n hC dX12_compileFactor_122 rfl 1 rfl ?_
        refine k_iload_n hC dX12_compileFactor_123 rfl 0 rfl ?_
        refine k_bipush hC dX12_compileFactor_124 (by decide) ?_
        refine k_icmp_ne hC 138 dX12_compileFactor_126 rfl (by omega) (by omega) (fun c_126 => ?_) (fun c_126 => absurd c_126 (by omega))
        refine k_iconst hC dX12_compileFactor_138 ?_
        refine k_goto hC 143 dX12_compileFactor_139 rfl ?_
        refine k_iconst hC dX12_compileFactor_143 ?_
        refine k_muvV hC (c_X12_check1 l hls G hN w3 fl u3 bt n st_4 1 (by omega) hn7 hb hu3 h_5 hKr3) yy_X12_check wm_X12_413 (kl hN (by decide)) hu3 rfl rfl rfl rfl (Nat.le_of_ble_eq_true rfl) (by decide) (by decide) ⟨by decide, by decide⟩ dX12_compileFactor_144 (fun w40 hp40 => ?_)
        obtain ⟨hT40, hf40⟩ := hp40
        obtain ⟨u40, hu40, hKr40, hs40⟩ := hT40
        have h18r40 := hKr40.1
        have h22r40 := hKr40.2.1
        have hrgr40 := hKr40.2.2.1
        have hcbr40 := hKr40.cb
        have hQ_40 : qcW G w40 u40 st_4 (L ++ [vlC bt n st]) := hQ_3.go (hs40 29 (by omega)) (hf40 146 (by decide)) (fun q => q)
        have h25_40 : u40 25 = 6 := (hs40 25 (by omega)).trans h25_3
        refine k_aload_n hC dX12_compileFactor_147 rfl 1 rfl ?_
        have h_42 : w40 144 = iA G 700 bt := (hf40 144 (by decide)).trans h_5
        refine k_muvV hC (c_X12_advance l hls G hN w40 fl u40 bt n st_4  hn7 hb hu40 h_42 hKr40) yy_X12_advance wm_X12_417 (kl hN (by decide)) hu40 rfl rfl rfl rfl (Nat.le_of_ble_eq_true rfl) (by decide) (by decide) ⟨by decide, by decide⟩ dX12_compileFactor_148 (fun w41 hp41 => ?_)
        obtain ⟨hT41, hf41⟩ := hp41
        obtain ⟨u41, hu41, hKr41, hs41⟩ := hT41
        obtain ⟨st_43, est_43⟩ : ∃ z : PS, z = adP bt n st_4 := ⟨_, rfl⟩
        rw [← est_43] at hKr41
        have h18r41 := hKr41.1
        have h22r41 := hKr41.2.1
        have hrgr41 := hKr41.2.2.1
        have hcbr41 := hKr41.cb
        have hQ_41 : qcW G w41 u41 st_43 (L ++ [vlC bt n st]) := hQ_40.go (hs41 29 (by omega)) (hf41 146 (by decide)) (fun q => ad_c.mp (by rw [← est_43]; exact q))
        have h25_41 : u41 25 = 6 := (hs41 25 (by omega)).trans h25_40
        have hop : opM bt n st_4 = -20 := selI_1 (hz_6.resolve_right (fun q1 => by omega)).2
        have hob9 : st_43 = opS bt n st_4 := by unfold opS; rw [selP_1 (Or.inl (hz_6.resolve_right (fun q1 => by omega)).2)]; exact est_43
        refine k_aload_n hC dX12_compileFactor_151 rfl 1 rfl ?_
        have h_44 : w41 145 = rA G 6 7 (fun j => some (kadK G (nmI j))) := (hf41 145 (by decide)).trans ((hf40 145 (by decide)).trans ((hf3 145 (by decide)).trans h145))
        have h_45 : w41 144 = iA G 700 bt := (hf41 144 (by decide)).trans h_42
        refine k_muvV hC (c_X12_compileValue l hls G hN w41 fl u41 bt n st_43 (L ++ [vlC bt n st]) 6 hn2 hQ_41 (by rw [hob9, est_4]; exact hl_cmp hle0 hL) h_44 h25_41 hn7 hb hu41 h_45 hKr41) yy_X12_compileValue wm_X12_501 (kl hN (by decide)) hu41 rfl rfl rfl rfl (Nat.le_of_ble_eq_true rfl) (by decide) (by decide) ⟨by decide, by decide⟩ dX12_compileFactor_152 (fun w46 hp46 => ?_)
        obtain ⟨hT46, hf46⟩ := hp46
        obtain ⟨u46, hu46, hKr46, hQ_46, h25_46, hs46⟩ := hT46
        obtain ⟨st_47, est_47⟩ : ∃ z : PS, z = vlS bt n st_43 := ⟨_, rfl⟩
        rw [← est_47] at hKr46 hQ_46
        have h18r46 := hKr46.1
        have h22r46 := hKr46.2.1
        have hrgr46 := hKr46.2.2.1
        have hcbr46 := hKr46.cb
        have hob : st_43 = opS bt n st_4 := by exact hob9
        refine k_aload_n hC dX12_compileFactor_155 rfl 1 rfl ?_
        refine k_iload_n hC dX12_compileFactor_156 rfl 0 rfl ?_
        have h_49 : w46 144 = iA G 700 bt := (hf46 144 (by decide)).trans h_45
        refine k_muvV hC (c_X12_emit l hls G hN w46 fl u46 bt n st_47 (L ++ [vlC bt n st] ++ [vlC bt n st_43]) (-20) (by rw [est_47, hob, est_4]; exact lt_cmp hn2 hle0 hL) hn2 hQ_46 hn7 hb hu46 h_49 hKr46) yy_X12_emit wm_X12_487 (kl hN (by decide)) hu46 rfl rfl rfl rfl (Nat.le_of_ble_eq_true rfl) (by decide) (by decide) ⟨by decide, by decide⟩ dX12_compileFactor_157 (fun w48 hp48 => ?_)
        obtain ⟨⟨u48, hu48, hKr48, hQ_48, hs48⟩, hf48⟩ := hp48
        have h18r48 := hKr48.1
        have h22r48 := hKr48.2.1
        have hrgr48 := hKr48.2.2.1
        have hcbr48 := hKr48.cb
        have h25_48 : u48 25 = 6 := (hs48 25 (by decide)).trans h25_46
        subst hQ
        exact k_vret hC hr ⟨by decide, by decide⟩ (⟨rfl, rfl, ⟨u48, hu48, (by have e : st_47 = (qF V bt n 0 st).1 := (by rw [hqF]; show st_47 = vlS bt n (opS bt n (vlS bt n st)); rw [← est_4, ← hob9]; exact est_47); rw [← e]; exact hKr48), (by have e : st_47 = (qF V bt n 0 st).1 := (by rw [hqF]; show st_47 = vlS bt n (opS bt n (vlS bt n st)); rw [← est_4, ← hob9]; exact est_47); rw [← e]; exact hQ_48.cg (fun q => by rw [hqF]; show _ = L ++ [vlC bt n st, vlC bt n (opS bt n (vlS bt n st)), opM bt n (vlS bt n st)]; rw [← est_4, hop, ← hob9, List.append_assoc, List.append_assoc]; rfl)), h25_48, (uQ.tr (uQ.tr (uQ.tr (uQ.tr (uQ.tr uQ.rf hs3) (uS.q hs40)) (uS.q hs41)) hs46) (uQ.e29 hs48))⟩, fun j hj => (hf48 j (by omega)).trans ((hf46 j (by omega)).trans ((hf41 j (by omega)).trans ((hf40 j (by omega)).trans (hf3 j (by omega)))))⟩) dX12_compileFactor_160
    · have hw40 : isS bt n 40 st := (hz_2.resolve_right (fun q1 => by omega)).2
      have hz0 := hw40.1
      have hzz : st.1 = 0 := by omega
      have hq0 := hK.2.2.2.1 hzz
      have hen := enM_b (bt := bt) hq0.2.2.2
      refine k_aload_n hC dX12_compileFactor_53 rfl 0 rfl ?_
      refine k_muvV hC (c_X12_enter_6 l hls G hN w fl u bt n st L (by omega) hn2 hqc hL h145 h25 hn7 hb hm h144 hK) yy_X12_enter wm_X12_492 (kl hN (by decide)) hm rfl rfl rfl rfl (Nat.le_of_ble_eq_true rfl) (by decide) (by decide) ⟨by decide, by decide⟩ dX12_compileFactor_54 (fun w50 hp50 => ?_)
      obtain ⟨hT50, hf50⟩ := hp50
      obtain ⟨u50, hu50, hKr50, hQ_50, h25_50, hs50⟩ := hT50
      obtain ⟨st_51, est_51⟩ : ∃ z : PS, z = flP 3 st := ⟨_, rfl⟩
      rw [← est_51] at hKr50 hQ_50
      have h18r50 := hKr50.1
      have h22r50 := hKr50.2.1
      have hrgr50 := hKr50.2.2.1
      have hcbr50 := hKr50.cb
      have hzzr50 : st_51.1 ≠ 0 := by rw [est_51]; exact fl_c (by decide)
      refine k_aload_n hC dX12_compileFactor_57 rfl 0 rfl ?_
      refine k_get hC fd_X12_386 (kl hN (by decide)) hu50 rfl dX12_compileFactor_58 ?_
      refine k_if_ne hC 68 dX12_compileFactor_61 rfl (by omega) (fun c_61 => ?_) (fun c_61 => absurd c_61 (by omega))
      refine k_aload_n hC dX12_compileFactor_68 rfl 0 rfl ?_
      refine k_bipush hC dX12_compileFactor_69 (by decide) ?_
      have h_53 : w50 144 = iA G 700 bt := (hf50 144 (by decide)).trans h144
      refine k_muvV hC (c_X12_expect l hls G hN w50 fl u50 bt n st_51 41 (by omega) hn7 hb hu50 h_53 hKr50) yy_X12_expect wm_X12_471 (kl hN (by decide)) hu50 rfl rfl rfl rfl (Nat.le_of_ble_eq_true rfl) (by decide) (by decide) ⟨by decide, by decide⟩ dX12_compileFactor_71 (fun w52 hp52 => ?_)
      obtain ⟨hT52, hf52⟩ := hp52
      obtain ⟨u52, hu52, hKr52, hs52⟩ := hT52
      obtain ⟨st_54, est_54⟩ : ∃ z : PS, z = nsP bt n 41 st_51 := ⟨_, rfl⟩
      rw [← est_54] at hKr52
      have h18r52 := hKr52.1
      have h22r52 := hKr52.2.1
      have hrgr52 := hKr52.2.2.1
      have hcbr52 := hKr52.cb
      have hzzr52 : st_54.1 ≠ 0 := by rw [est_54, nsP_e (by omega)]; omega
      have hQ_52 : qcW G w52 u52 st_54 L := hQ_50.go (hs52 29 (by omega)) (hf52 146 (by decide)) (fun q => nsok (by rw [← est_54]; exact q))
      have h25_52 : u52 25 = 7 := (hs52 25 (by omega)).trans h25_50
      refine k_aload_n hC dX12_compileFactor_74 rfl 0 rfl ?_
      refine k_dup hC dX12_compileFactor_75 rfl ?_
      refine k_get hC fd_X12_389 (kl hN (by decide)) hu52 rfl dX12_compileFactor_76 ?_
      refine k_topv (vI 7) (congrArg vI (by omega)) ?_
      refine k_iconst hC dX12_compileFactor_79 ?_
      refine k_isub hC dX12_compileFactor_80 ?_
      refine k_topv (vI 6) (congrArg vI (by decide)) ?_
      refine k_put hC fd_X12_389 (kl hN (by decide)) hu52 [.ref (kad G 134), .ref (kad G 135), .ref (kad G 136), .ref (kad G 137), vI (u52 4), vI (u52 5), vI (u52 6), .ref (kad G 138), .ref (kad G 139), .ref (kad G 140), .ref (kad G 141), .ref (kad G 142), vL (u52 12), vL (u52 13), .ref (kad G 143), vI (u52 15), .ref (kad G 144), vI (u52 17), vI (u52 18), vI (u52 19), vI (u52 20), vI (u52 21), vI (u52 22), vI (u52 23), vI (u52 24), vI 6, .ref (kad G 145), .ref (kad G 146), .ref (kad G 147), vI (u52 29)] rfl (Nat.le_of_ble_eq_true rfl) rfl rfl dX12_compileFactor_81 (fun w55 hw55 hf55 => ?_)
      have hKp56 : mkR (kup u52 25 6) bt n st_54 := hKr52.kup25
      have hQ_56 : qcW G w55 (kup u52 25 6) st_54 L := hQ_52.go rfl (hf55 146 (by decide)) (fun q => q)
      have h25_56 : (kup u52 25 6) 25 = 6 := rfl
      have h18p56 := hKp56.1
      have h22p56 := hKp56.2.1
      have hrgp56 := hKp56.2.2.1
      have hcbp56 := hKp56.cb
      have hzzp56 : st_54.1 ≠ 0 := by omega
      refine k_goto hC 160 dX12_compileFactor_84 rfl ?_
      subst hQ
      exact k_vret hC hr ⟨by decide, by decide⟩ (⟨rfl, rfl, ⟨(kup u52 25 6), hw55, (by have e : st_54 = (qF V bt n 0 st).1 := (by rw [qF_z (Or.inr hw40), est_54, nsP_e (by omega)]; exact est_51); rw [← e]; exact hKp56), (by have e : st_54 = (qF V bt n 0 st).1 := (by rw [qF_z (Or.inr hw40), est_54, nsP_e (by omega)]; exact est_51); rw [← e]; exact hQ_56.cg (fun q => absurd q (by omega))), h25_56, (uQ.tr (uQ.tr (uQ.tr uQ.rf hs50) (uS.q hs52)) uQ.put25)⟩, fun j hj => (hf55 j (by omega)).trans ((hf52 j (by omega)).trans (hf50 j (by omega)))⟩) dX12_compileFactor_160
  · have hw31 : isW bt n 31 st := (hz_1.resolve_right (fun q1 => by omega)).2
    have hz0 := hw31.1
    have hzz : st.1 = 0 := by omega
    have hq0 := hK.2.2.2.1 hzz
    have hen := enM_b (bt := bt) hq0.2.2.2
    refine k_aload_n hC dX12_compileFactor_10 rfl 0 rfl ?_
    refine k_muvV hC (c_X12_enter_6 l hls G hN w fl u bt n st L (by omega) hn2 hqc hL h145 h25 hn7 hb hm h144 hK) yy_X12_enter wm_X12_492 (kl hN (by decide)) hm rfl rfl rfl rfl (Nat.le_of_ble_eq_true rfl) (by decide) (by decide) ⟨by decide, by decide⟩ dX12_compileFactor_11 (fun w57 hp57 => ?_)
    obtain ⟨hT57, hf57⟩ := hp57
    obtain ⟨u57, hu57, hKr57, hQ_57, h25_57, hs57⟩ := hT57
    obtain ⟨st_58, est_58⟩ : ∃ z : PS, z = flP 3 st := ⟨_, rfl⟩
    rw [← est_58] at hKr57 hQ_57
    have h18r57 := hKr57.1
    have h22r57 := hKr57.2.1
    have hrgr57 := hKr57.2.2.1
    have hcbr57 := hKr57.cb
    have hzzr57 : st_58.1 ≠ 0 := by rw [est_58]; exact fl_c (by decide)
    refine k_aload_n hC dX12_compileFactor_14 rfl 0 rfl ?_
    refine k_get hC fd_X12_386 (kl hN (by decide)) hu57 rfl dX12_compileFactor_15 ?_
    refine k_if_ne hC 25 dX12_compileFactor_18 rfl (by omega) (fun c_18 => ?_) (fun c_18 => absurd c_18 (by omega))
    refine k_aload_n hC dX12_compileFactor_25 rfl 0 rfl ?_
    refine k_bipush hC dX12_compileFactor_26 (by decide) ?_
    have h_60 : w57 144 = iA G 700 bt := (hf57 144 (by decide)).trans h144
    refine k_muvV hC (c_X12_emit l hls G hN w57 fl u57 bt n st_58 L (-23) (fun q => absurd q (by omega)) hn2 hQ_57 hn7 hb hu57 h_60 hKr57) yy_X12_emit wm_X12_487 (kl hN (by decide)) hu57 rfl rfl rfl rfl (Nat.le_of_ble_eq_true rfl) (by decide) (by decide) ⟨by decide, by decide⟩ dX12_compileFactor_28 (fun w59 hp59 => ?_)
    obtain ⟨⟨u59, hu59, hKr59, hQ_59, hs59⟩, hf59⟩ := hp59
    have h18r59 := hKr59.1
    have h22r59 := hKr59.2.1
    have hrgr59 := hKr59.2.2.1
    have hcbr59 := hKr59.cb
    have h25_59 : u59 25 = 7 := (hs59 25 (by decide)).trans h25_57
    have hzzr59 : st_58.1 ≠ 0 := by omega
    refine k_aload_n hC dX12_compileFactor_31 rfl 0 rfl ?_
    refine k_dup hC dX12_compileFactor_32 rfl ?_
    refine k_get hC fd_X12_389 (kl hN (by decide)) hu59 rfl dX12_compileFactor_33 ?_
    refine k_topv (vI 7) (congrArg vI (by omega)) ?_
    refine k_iconst hC dX12_compileFactor_36 ?_
    refine k_isub hC dX12_compileFactor_37 ?_
    refine k_topv (vI 6) (congrArg vI (by decide)) ?_
    refine k_put hC fd_X12_389 (kl hN (by decide)) hu59 [.ref (kad G 134), .ref (kad G 135), .ref (kad G 136), .ref (kad G 137), vI (u59 4), vI (u59 5), vI (u59 6), .ref (kad G 138), .ref (kad G 139), .ref (kad G 140), .ref (kad G 141), .ref (kad G 142), vL (u59 12), vL (u59 13), .ref (kad G 143), vI (u59 15), .ref (kad G 144), vI (u59 17), vI (u59 18), vI (u59 19), vI (u59 20), vI (u59 21), vI (u59 22), vI (u59 23), vI (u59 24), vI 6, .ref (kad G 145), .ref (kad G 146), .ref (kad G 147), vI (u59 29)] rfl (Nat.le_of_ble_eq_true rfl) rfl rfl dX12_compileFactor_38 (fun w61 hw61 hf61 => ?_)
    have hKp62 : mkR (kup u59 25 6) bt n st_58 := hKr59.kup25
    have hQ_62 : qcW G w61 (kup u59 25 6) st_58 (L ++ [-23]) := hQ_59.go rfl (hf61 146 (by decide)) (fun q => q)
    have h25_62 : (kup u59 25 6) 25 = 6 := rfl
    have h18p62 := hKp62.1
    have h22p62 := hKp62.2.1
    have hrgp62 := hKp62.2.2.1
    have hcbp62 := hKp62.cb
    have hzzp62 : st_58.1 ≠ 0 := by omega
    refine k_goto hC 160 dX12_compileFactor_41 rfl ?_
    subst hQ
    exact k_vret hC hr ⟨by decide, by decide⟩ (⟨rfl, rfl, ⟨(kup u59 25 6), hw61, (by have e : st_58 = (qF V bt n 0 st).1 := (by rw [qF_z (Or.inl hw31)]; exact est_58); rw [← e]; exact hKp62), (by have e : st_58 = (qF V bt n 0 st).1 := (by rw [qF_z (Or.inl hw31)]; exact est_58); rw [← e]; exact hQ_62.cg (fun q => absurd q (by omega))), h25_62, (uQ.tr (uQ.tr (uQ.tr uQ.rf hs57) (uQ.e29 hs59)) uQ.put25)⟩, fun j hj => (hf61 j (by omega)).trans ((hf59 j (by omega)).trans (hf57 j (by omega)))⟩) dX12_compileFactor_160

set_option maxRecDepth 100000 in
set_option maxHeartbeats 4000000 in
theorem c_X12_compileConjunction_0 (l : Launch) (hls : l.stackTraces = false) (G : kG) (hN : kN G = 150) (w : Nat → va_E) (fl : va_W) (u bt : Nat → Int) (n : Nat) (st : PS) (L : List Int) (V : Int → Nat → Int) (hn2 : n ≤ 200) (hqc : qcW G w u st L) (hL : st.1 = 0 → L.length ≤ st.2.2) (h145 : w 145 = nmA G) (h25 : u 25 = 6) (hn7 : n ≤ 700) (hb : btOK bt) (hm : w 133 = mdO G u) (h144 : w 144 = iA G 700 bt) (hK : mkR u bt n st) : KM l G yX12_compileConjunction cX12_compileConjunction 1 (none) 7 0 0 [.ref (kad G 133)] w fl (kMuv fl (fun w1 => (∃ u1, w1 133 = mdO G u1 ∧ mkR u1 bt n ((conM bt n (qF V bt n 0) st).1) ∧ qcW G w1 u1 ((conM bt n (qF V bt n 0) st).1) (L ++ (conM bt n (qF V bt n 0) st).2.1) ∧ u1 25 = 6 ∧ uQ u u1) ∧ ∀ j, (j ≠ 133 ∧ j ≠ 146) → w1 j = w j)) := by
  refine KM_of2 hls (by decide +kernel) rfl (lv0 := [(0, .ref (kad G 133))]) rfl (Nat.le_of_ble_eq_true rfl) (fun p e R s m args below meth c Q hC hr hQ => ?_)
  have h18 := hK.1
  have h22 := hK.2.1
  have hrg := hK.2.2.1
  have hcb := hK.cb
  have hk0 := hK.2.2.2.1
  have hk1 := hK.2.2.2.2.1
  have hdg := hK.2.2.2.2.2
  have hle0 := hK.le
  refine k_aload_n hC dX12_compileConjunction_0 rfl 0 rfl ?_
  refine k_muvV hC (c_X12_compileFactor_0 l hls G hN w fl u bt n st L V hn2 hqc hL h145 h25 hn7 hb hm h144 hK) yy_X12_compileFactor wm_X12_495 (kl hN (by decide)) hm rfl rfl rfl rfl (Nat.le_of_ble_eq_true rfl) (by decide) (by decide) ⟨by decide, by decide⟩ dX12_compileConjunction_1 (fun w1 hp1 => ?_)
  obtain ⟨hT1, hf1⟩ := hp1
  obtain ⟨u1, hu1, hKr1, hQ_1, h25_1, hs1⟩ := hT1
  obtain ⟨st_2, est_2⟩ : ∃ z : PS, z = (qF V bt n 0 st).1 := ⟨_, rfl⟩
  rw [← est_2] at hKr1 hQ_1
  have h18r1 := hKr1.1
  have h22r1 := hKr1.2.1
  have hrgr1 := hKr1.2.2.1
  have hcbr1 := hKr1.cb
  have loopw : ∀ (nw : Nat) (k : Nat) (rr : QR) (st9 : PS) (u1 : Nat → Int) (wvw : Nat → va_E), (n < nw + k) → (k ≤ n) → (rr = cjN bt n 37 (-24) (qF V bt n 0) k (qF V bt n 0 st)) → (st9 = rr.1) → (mkR u1 bt n st9) → (qcW G wvw u1 st9 (L ++ rr.2.1)) → (u1 25 = 6) → (uQ u u1) → (wvw 133 = .inr (12, [.ref (kad G 134), .ref (kad G 135), .ref (kad G 136), .ref (kad G 137), vI (u1 4), vI (u1 5), vI (u1 6), .ref (kad G 138), .ref (kad G 139), .ref (kad G 140), .ref (kad G 141), .ref (kad G 142), vL (u1 12), vL (u1 13), .ref (kad G 143), vI (u1 15), .ref (kad G 144), vI (u1 17), vI (u1 18), vI (u1 19), vI (u1 20), vI (u1 21), vI (u1 22), vI (u1 23), vI (u1 24), vI (u1 25), .ref (kad G 145), .ref (kad G 146), .ref (kad G 147), vI (u1 29)])) → (wvw 144 = iA G 700 bt) → (wvw 145 = rA G 6 7 (fun j => some (kadK G (nmI j)))) → ((∀ j, (j ≠ 133 ∧ j ≠ 146) → wvw j = w j)) → KW p l e R s m args below meth c 1 G Q wvw fl 0 0 4 [(0, .ref (kad G 133))] [] := by
    intro nw
    induction nw with
    | zero =>
      intro k rr st9 u1 wvw hn_w hk9 hx hst9 hKv hqv h25v husv hm1 h144 h145 hfrw
      exact absurd hn_w (by omega)
    | succ nw ihw =>
      intro k rr st9 u1 wvw hn_w hk9 hx hst9 hKv hqv h25v husv hm1 h144 h145 hfrw
      have h18v := hKv.1
      have h22v := hKv.2.1
      have hrgv := hKv.2.2.1
      have hcbv := hKv.cb
      have hgq : gq V n st rr := by rw [hx]; exact gq_cjN (Or.inl rfl) (gq_qF 0) k _ (gq_qF 0 st)
      refine k_aload_n hC dX12_compileConjunction_4 rfl 0 rfl ?_
      refine k_ldcsw hC (List.mem_of_getElem? (i := 56) rfl) dX12_compileConjunction_5 ?_
      refine k_mutV hC (c_X12_accept l hls G hN wvw fl u1 bt n st9 37 (by decide) hn7 hb hm1 h144 hKv) yy_X12_accept wm_X12_447 (kl hN (by decide)) hm1 rfl rfl rfl rfl (Nat.le_of_ble_eq_true rfl) (by decide) (by decide) ⟨by decide, by decide⟩ dX12_compileConjunction_8 (fun w3 hp3 => ?_)
      obtain ⟨hT3, hf3⟩ := hp3
      by_cases hw_3 : isW bt n 37 st9
      · rw [selP_1 hw_3] at hT3
        refine k_topv (vI 1) (congrArg vI (selI_1 hw_3)) ?_
        have hwz_3 := hw_3.1
        obtain ⟨u3, hu3, hKr3, hs3⟩ := hT3
        obtain ⟨st_4, est_4⟩ : ∃ z : PS, z = adP bt n st9 := ⟨_, rfl⟩
        rw [← est_4] at hKr3
        have h18r3 := hKr3.1
        have h22r3 := hKr3.2.1
        have hrgr3 := hKr3.2.2.1
        have hcbr3 := hKr3.cb
        have hzir3 : st_4.1 = 0 := by rw [est_4]; exact ad_c.mpr (by omega)
        have hzzr3 : st_4.1 = 0 := by omega
        have hq0r3 := hKr3.2.2.2.1 hzzr3
        have henr3 := enM_b (bt := bt) hq0r3.2.2.2
        have hQ_3 : qcW G w3 u3 st_4 (L ++ rr.2.1) := hqv.go (hs3 29 (by omega)) (hf3 146 (by decide)) (fun q => ad_c.mp (by rw [← est_4]; exact q))
        have h25_3 : u3 25 = 6 := (hs3 25 (by omega)).trans h25v
        refine k_if_eq hC 27 dX12_compileConjunction_11 rfl (by omega) (fun c_11 => absurd c_11 (by omega)) (fun c_11 => ?_)
        refine k_aload_n hC dX12_compileConjunction_14 rfl 0 rfl ?_
        have h_5 : w3 145 = rA G 6 7 (fun j => some (kadK G (nmI j))) := (hf3 145 (by decide)).trans h145
        have h_6 : w3 144 = iA G 700 bt := (hf3 144 (by decide)).trans h144
        refine k_muvV hC (c_X12_compileFactor_0 l hls G hN w3 fl u3 bt n st_4 (L ++ rr.2.1) V hn2 hQ_3 (by rw [est_4]; exact hl_ad hKv.le (by rw [hst9]; exact hl_gq hle0 hL hgq)) h_5 h25_3 hn7 hb hu3 h_6 hKr3) yy_X12_compileFactor wm_X12_495 (kl hN (by decide)) hu3 rfl rfl rfl rfl (Nat.le_of_ble_eq_true rfl) (by decide) (by decide) ⟨by decide, by decide⟩ dX12_compileConjunction_15 (fun w7 hp7 => ?_)
        obtain ⟨hT7, hf7⟩ := hp7
        obtain ⟨u7, hu7, hKr7, hQ_7, h25_7, hs7⟩ := hT7
        obtain ⟨st_8, est_8⟩ : ∃ z : PS, z = (qF V bt n 0 st_4).1 := ⟨_, rfl⟩
        rw [← est_8] at hKr7 hQ_7
        have h18r7 := hKr7.1
        have h22r7 := hKr7.2.1
        have hrgr7 := hKr7.2.2.1
        have hcbr7 := hKr7.cb
        have hwr : isW bt n 37 rr.1 := by rw [← hst9]; exact hw_3
        refine k_aload_n hC dX12_compileConjunction_18 rfl 0 rfl ?_
        refine k_bipush hC dX12_compileConjunction_19 (by decide) ?_
        have h_10 : w7 144 = iA G 700 bt := (hf7 144 (by decide)).trans h_6
        refine k_muvV hC (c_X12_emit l hls G hN w7 fl u7 bt n st_8 (L ++ rr.2.1 ++ (qF V bt n 0 st_4).2.1) (-24) (by rw [est_8, est_4, hst9]; exact lt_and (V := V) (Or.inl rfl) hn2 hle0 hL (isW_go hwr) hgq (gq_qF 0 _)) hn2 hQ_7 hn7 hb hu7 h_10 hKr7) yy_X12_emit wm_X12_487 (kl hN (by decide)) hu7 rfl rfl rfl rfl (Nat.le_of_ble_eq_true rfl) (by decide) (by decide) ⟨by decide, by decide⟩ dX12_compileConjunction_21 (fun w9 hp9 => ?_)
        obtain ⟨⟨u9, hu9, hKr9, hQ_9, hs9⟩, hf9⟩ := hp9
        have h18r9 := hKr9.1
        have h22r9 := hKr9.2.1
        have hrgr9 := hKr9.2.2.1
        have hcbr9 := hKr9.cb
        have h25_9 : u9 25 = 6 := (hs9 25 (by decide)).trans h25_7
        refine k_goto hC 4 dX12_compileConjunction_24 rfl ?_
        have h_11 : w9 144 = iA G 700 bt := (hf9 144 (by decide)).trans h_10
        have h_12 : w9 145 = rA G 6 7 (fun j => some (kadK G (nmI j))) := (hf9 145 (by decide)).trans ((hf7 145 (by decide)).trans h_5)
        exact ihw (k + 1) (and2 (-24) rr (qF V bt n 0 st_4)) st_8 u9 w9 (by omega) (by have h8 := cjN_pos hle0 (Or.inl rfl) (gq_qF 0) k _ (gq_qF 0 st) (by rw [← hx]; exact hwr); rw [← hx] at h8; have h9 := enM_lt9 (bt := bt) (n := n) (s := rr.1.2.2) (by rw [hwr.2.1]; decide); omega) (by rw [cjN_go k _ (by rw [← hx]; exact hwr), ← hx, est_4, hst9]) est_8 hKr9 (hQ_9.cg (fun _ => by show _ = L ++ (rr.2.1 ++ (qF V bt n 0 st_4).2.1 ++ [-24]); simp only [List.append_assoc])) h25_9 (uQ.tr (uQ.tr (uQ.tr husv (uS.q hs3)) hs7) (uQ.e29 hs9)) hu9 h_11 h_12 (fun j hj => (hf9 j (by omega)).trans ((hf7 j (by omega)).trans ((hf3 j (by omega)).trans (hfrw j (by omega)))))
      · rw [selP_0 hw_3] at hT3
        refine k_topv (vI 0) (congrArg vI (selI_0 hw_3)) ?_
        obtain ⟨u3, hu3, hKr3, hs3⟩ := hT3
        have h18r3 := hKr3.1
        have h22r3 := hKr3.2.1
        have hrgr3 := hKr3.2.2.1
        have hcbr3 := hKr3.cb
        have hQ_3 : qcW G w3 u3 st9 (L ++ rr.2.1) := hqv.go (hs3 29 (by omega)) (hf3 146 (by decide)) (fun q => q)
        have h25_3 : u3 25 = 6 := (hs3 25 (by omega)).trans h25v
        refine k_if_eq hC 27 dX12_compileConjunction_11 rfl (by omega) (fun c_11 => ?_) (fun c_11 => absurd c_11 (by omega))
        have hfin : rr = conM bt n (qF V bt n 0) st := by rw [hx]; exact cjN_eq (by rw [← hx, ← hst9]; exact hw_3) (cjN_end hn2 hle0 (Or.inl rfl) (gq_qF 0) (gq_qF 0 st))
        subst hQ
        exact k_vret hC hr ⟨by decide, by decide⟩ (⟨rfl, rfl, ⟨u3, hu3, (by have e : st9 = (conM bt n (qF V bt n 0) st).1 := (by rw [← hfin]; exact hst9); rw [← e]; exact hKr3), (by have e : st9 = (conM bt n (qF V bt n 0) st).1 := (by rw [← hfin]; exact hst9); rw [← e]; exact hQ_3.cg (fun q => by rw [← hfin])), h25_3, (uQ.tr husv (uS.q hs3))⟩, fun j hj => (hf3 j (by omega)).trans (hfrw j (by omega))⟩) dX12_compileConjunction_27
  have h_13 : w1 144 = iA G 700 bt := (hf1 144 (by decide)).trans h144
  have h_14 : w1 145 = rA G 6 7 (fun j => some (kadK G (nmI j))) := (hf1 145 (by decide)).trans h145
  exact loopw (n + 1) 0 (qF V bt n 0 st) st_2 u1 w1 (by omega) (by omega) rfl est_2 hKr1 hQ_1 h25_1 (uQ.tr uQ.rf hs1) hu1 h_13 h_14 (fun j hj => hf1 j (by omega))

set_option maxRecDepth 100000 in
set_option maxHeartbeats 4000000 in
theorem c_X12_compileTest_0 (l : Launch) (hls : l.stackTraces = false) (G : kG) (hN : kN G = 150) (w : Nat → va_E) (fl : va_W) (u bt : Nat → Int) (n : Nat) (st : PS) (L : List Int) (V : Int → Nat → Int) (hn2 : n ≤ 200) (hqc : qcW G w u st L) (hL : st.1 = 0 → L.length ≤ st.2.2) (h145 : w 145 = nmA G) (h25 : u 25 = 6) (hn7 : n ≤ 700) (hb : btOK bt) (hm : w 133 = mdO G u) (h144 : w 144 = iA G 700 bt) (hK : mkR u bt n st) : KM l G yX12_compileTest cX12_compileTest 1 (none) 8 0 0 [.ref (kad G 133)] w fl (kMuv fl (fun w1 => (∃ u1, w1 133 = mdO G u1 ∧ mkR u1 bt n ((tstM bt n (qF V bt n 0) st).1) ∧ qcW G w1 u1 ((tstM bt n (qF V bt n 0) st).1) (L ++ (tstM bt n (qF V bt n 0) st).2.1) ∧ u1 25 = 6 ∧ uQ u u1) ∧ ∀ j, (j ≠ 133 ∧ j ≠ 146) → w1 j = w j)) := by
  refine KM_of2 hls (by decide +kernel) rfl (lv0 := [(0, .ref (kad G 133))]) rfl (Nat.le_of_ble_eq_true rfl) (fun p e R s m args below meth c Q hC hr hQ => ?_)
  have h18 := hK.1
  have h22 := hK.2.1
  have hrg := hK.2.2.1
  have hcb := hK.cb
  have hk0 := hK.2.2.2.1
  have hk1 := hK.2.2.2.2.1
  have hdg := hK.2.2.2.2.2
  have hle0 := hK.le
  refine k_aload_n hC dX12_compileTest_0 rfl 0 rfl ?_
  refine k_muvV hC (c_X12_compileConjunction_0 l hls G hN w fl u bt n st L V hn2 hqc hL h145 h25 hn7 hb hm h144 hK) yy_X12_compileConjunction wm_X12_506 (kl hN (by decide)) hm rfl rfl rfl rfl (Nat.le_of_ble_eq_true rfl) (by decide) (by decide) ⟨by decide, by decide⟩ dX12_compileTest_1 (fun w1 hp1 => ?_)
  obtain ⟨hT1, hf1⟩ := hp1
  obtain ⟨u1, hu1, hKr1, hQ_1, h25_1, hs1⟩ := hT1
  obtain ⟨st_2, est_2⟩ : ∃ z : PS, z = (conM bt n (qF V bt n 0) st).1 := ⟨_, rfl⟩
  rw [← est_2] at hKr1 hQ_1
  have h18r1 := hKr1.1
  have h22r1 := hKr1.2.1
  have hrgr1 := hKr1.2.2.1
  have hcbr1 := hKr1.cb
  have loopw : ∀ (nw : Nat) (k : Nat) (rr : QR) (st9 : PS) (u1 : Nat → Int) (wvw : Nat → va_E), (n < nw + k) → (k ≤ n) → (rr = cjN bt n 38 (-25) (conM bt n (qF V bt n 0)) k (conM bt n (qF V bt n 0) st)) → (st9 = rr.1) → (mkR u1 bt n st9) → (qcW G wvw u1 st9 (L ++ rr.2.1)) → (u1 25 = 6) → (uQ u u1) → (wvw 133 = .inr (12, [.ref (kad G 134), .ref (kad G 135), .ref (kad G 136), .ref (kad G 137), vI (u1 4), vI (u1 5), vI (u1 6), .ref (kad G 138), .ref (kad G 139), .ref (kad G 140), .ref (kad G 141), .ref (kad G 142), vL (u1 12), vL (u1 13), .ref (kad G 143), vI (u1 15), .ref (kad G 144), vI (u1 17), vI (u1 18), vI (u1 19), vI (u1 20), vI (u1 21), vI (u1 22), vI (u1 23), vI (u1 24), vI (u1 25), .ref (kad G 145), .ref (kad G 146), .ref (kad G 147), vI (u1 29)])) → (wvw 144 = iA G 700 bt) → (wvw 145 = rA G 6 7 (fun j => some (kadK G (nmI j)))) → ((∀ j, (j ≠ 133 ∧ j ≠ 146) → wvw j = w j)) → KW p l e R s m args below meth c 1 G Q wvw fl 0 0 4 [(0, .ref (kad G 133))] [] := by
    intro nw
    induction nw with
    | zero =>
      intro k rr st9 u1 wvw hn_w hk9 hx hst9 hKv hqv h25v husv hm1 h144 h145 hfrw
      exact absurd hn_w (by omega)
    | succ nw ihw =>
      intro k rr st9 u1 wvw hn_w hk9 hx hst9 hKv hqv h25v husv hm1 h144 h145 hfrw
      have h18v := hKv.1
      have h22v := hKv.2.1
      have hrgv := hKv.2.2.1
      have hcbv := hKv.cb
      have hgq : gq V n st rr := by rw [hx]; exact gq_cjN (Or.inr rfl) (gq_con (gq_qF 0)) k _ (gq_con (gq_qF 0) st)
      refine k_aload_n hC dX12_compileTest_4 rfl 0 rfl ?_
      refine k_ldcsw hC (List.mem_of_getElem? (i := 57) rfl) dX12_compileTest_5 ?_
      refine k_mutV hC (c_X12_accept l hls G hN wvw fl u1 bt n st9 38 (by decide) hn7 hb hm1 h144 hKv) yy_X12_accept wm_X12_447 (kl hN (by decide)) hm1 rfl rfl rfl rfl (Nat.le_of_ble_eq_true rfl) (by decide) (by decide) ⟨by decide, by decide⟩ dX12_compileTest_8 (fun w3 hp3 => ?_)
      obtain ⟨hT3, hf3⟩ := hp3
      by_cases hw_3 : isW bt n 38 st9
      · rw [selP_1 hw_3] at hT3
        refine k_topv (vI 1) (congrArg vI (selI_1 hw_3)) ?_
        have hwz_3 := hw_3.1
        obtain ⟨u3, hu3, hKr3, hs3⟩ := hT3
        obtain ⟨st_4, est_4⟩ : ∃ z : PS, z = adP bt n st9 := ⟨_, rfl⟩
        rw [← est_4] at hKr3
        have h18r3 := hKr3.1
        have h22r3 := hKr3.2.1
        have hrgr3 := hKr3.2.2.1
        have hcbr3 := hKr3.cb
        have hzir3 : st_4.1 = 0 := by rw [est_4]; exact ad_c.mpr (by omega)
        have hzzr3 : st_4.1 = 0 := by omega
        have hq0r3 := hKr3.2.2.2.1 hzzr3
        have henr3 := enM_b (bt := bt) hq0r3.2.2.2
        have hQ_3 : qcW G w3 u3 st_4 (L ++ rr.2.1) := hqv.go (hs3 29 (by omega)) (hf3 146 (by decide)) (fun q => ad_c.mp (by rw [← est_4]; exact q))
        have h25_3 : u3 25 = 6 := (hs3 25 (by omega)).trans h25v
        refine k_if_eq hC 27 dX12_compileTest_11 rfl (by omega) (fun c_11 => absurd c_11 (by omega)) (fun c_11 => ?_)
        refine k_aload_n hC dX12_compileTest_14 rfl 0 rfl ?_
        have h_5 : w3 145 = rA G 6 7 (fun j => some (kadK G (nmI j))) := (hf3 145 (by decide)).trans h145
        have h_6 : w3 144 = iA G 700 bt := (hf3 144 (by decide)).trans h144
        refine k_muvV hC (c_X12_compileConjunction_0 l hls G hN w3 fl u3 bt n st_4 (L ++ rr.2.1) V hn2 hQ_3 (by rw [est_4]; exact hl_ad hKv.le (by rw [hst9]; exact hl_gq hle0 hL hgq)) h_5 h25_3 hn7 hb hu3 h_6 hKr3) yy_X12_compileConjunction wm_X12_506 (kl hN (by decide)) hu3 rfl rfl rfl rfl (Nat.le_of_ble_eq_true rfl) (by decide) (by decide) ⟨by decide, by decide⟩ dX12_compileTest_15 (fun w7 hp7 => ?_)
        obtain ⟨hT7, hf7⟩ := hp7
        obtain ⟨u7, hu7, hKr7, hQ_7, h25_7, hs7⟩ := hT7
        obtain ⟨st_8, est_8⟩ : ∃ z : PS, z = (conM bt n (qF V bt n 0) st_4).1 := ⟨_, rfl⟩
        rw [← est_8] at hKr7 hQ_7
        have h18r7 := hKr7.1
        have h22r7 := hKr7.2.1
        have hrgr7 := hKr7.2.2.1
        have hcbr7 := hKr7.cb
        have hwr : isW bt n 38 rr.1 := by rw [← hst9]; exact hw_3
        refine k_aload_n hC dX12_compileTest_18 rfl 0 rfl ?_
        refine k_bipush hC dX12_compileTest_19 (by decide) ?_
        have h_10 : w7 144 = iA G 700 bt := (hf7 144 (by decide)).trans h_6
        refine k_muvV hC (c_X12_emit l hls G hN w7 fl u7 bt n st_8 (L ++ rr.2.1 ++ (conM bt n (qF V bt n 0) st_4).2.1) (-25) (by rw [est_8, est_4, hst9]; exact lt_and (V := V) (Or.inr rfl) hn2 hle0 hL (isW_go hwr) hgq (gq_con (gq_qF 0) _)) hn2 hQ_7 hn7 hb hu7 h_10 hKr7) yy_X12_emit wm_X12_487 (kl hN (by decide)) hu7 rfl rfl rfl rfl (Nat.le_of_ble_eq_true rfl) (by decide) (by decide) ⟨by decide, by decide⟩ dX12_compileTest_21 (fun w9 hp9 => ?_)
        obtain ⟨⟨u9, hu9, hKr9, hQ_9, hs9⟩, hf9⟩ := hp9
        have h18r9 := hKr9.1
        have h22r9 := hKr9.2.1
        have hrgr9 := hKr9.2.2.1
        have hcbr9 := hKr9.cb
        have h25_9 : u9 25 = 6 := (hs9 25 (by decide)).trans h25_7
        refine k_goto hC 4 dX12_compileTest_24 rfl ?_
        have h_11 : w9 144 = iA G 700 bt := (hf9 144 (by decide)).trans h_10
        have h_12 : w9 145 = rA G 6 7 (fun j => some (kadK G (nmI j))) := (hf9 145 (by decide)).trans ((hf7 145 (by decide)).trans h_5)
        exact ihw (k + 1) (and2 (-25) rr (conM bt n (qF V bt n 0) st_4)) st_8 u9 w9 (by omega) (by have h8 := cjN_pos hle0 (Or.inr rfl) (gq_con (gq_qF 0)) k _ (gq_con (gq_qF 0) st) (by rw [← hx]; exact hwr); rw [← hx] at h8; have h9 := enM_lt9 (bt := bt) (n := n) (s := rr.1.2.2) (by rw [hwr.2.1]; decide); omega) (by rw [cjN_go k _ (by rw [← hx]; exact hwr), ← hx, est_4, hst9]) est_8 hKr9 (hQ_9.cg (fun _ => by show _ = L ++ (rr.2.1 ++ (conM bt n (qF V bt n 0) st_4).2.1 ++ [-25]); simp only [List.append_assoc])) h25_9 (uQ.tr (uQ.tr (uQ.tr husv (uS.q hs3)) hs7) (uQ.e29 hs9)) hu9 h_11 h_12 (fun j hj => (hf9 j (by omega)).trans ((hf7 j (by omega)).trans ((hf3 j (by omega)).trans (hfrw j (by omega)))))
      · rw [selP_0 hw_3] at hT3
        refine k_topv (vI 0) (congrArg vI (selI_0 hw_3)) ?_
        obtain ⟨u3, hu3, hKr3, hs3⟩ := hT3
        have h18r3 := hKr3.1
        have h22r3 := hKr3.2.1
        have hrgr3 := hKr3.2.2.1
        have hcbr3 := hKr3.cb
        have hQ_3 : qcW G w3 u3 st9 (L ++ rr.2.1) := hqv.go (hs3 29 (by omega)) (hf3 146 (by decide)) (fun q => q)
        have h25_3 : u3 25 = 6 := (hs3 25 (by omega)).trans h25v
        refine k_if_eq hC 27 dX12_compileTest_11 rfl (by omega) (fun c_11 => ?_) (fun c_11 => absurd c_11 (by omega))
        have hfin : rr = tstM bt n (qF V bt n 0) st := by rw [hx]; exact cjN_eq (by rw [← hx, ← hst9]; exact hw_3) (cjN_end hn2 hle0 (Or.inr rfl) (gq_con (gq_qF 0)) (gq_con (gq_qF 0) st))
        subst hQ
        exact k_vret hC hr ⟨by decide, by decide⟩ (⟨rfl, rfl, ⟨u3, hu3, (by have e : st9 = (tstM bt n (qF V bt n 0) st).1 := (by rw [← hfin]; exact hst9); rw [← e]; exact hKr3), (by have e : st9 = (tstM bt n (qF V bt n 0) st).1 := (by rw [← hfin]; exact hst9); rw [← e]; exact hQ_3.cg (fun q => by rw [← hfin])), h25_3, (uQ.tr husv (uS.q hs3))⟩, fun j hj => (hf3 j (by omega)).trans (hfrw j (by omega))⟩) dX12_compileTest_27
  have h_13 : w1 144 = iA G 700 bt := (hf1 144 (by decide)).trans h144
  have h_14 : w1 145 = rA G 6 7 (fun j => some (kadK G (nmI j))) := (hf1 145 (by decide)).trans h145
  exact loopw (n + 1) 0 (conM bt n (qF V bt n 0) st) st_2 u1 w1 (by omega) (by omega) rfl est_2 hKr1 hQ_1 h25_1 (uQ.tr uQ.rf hs1) hu1 h_13 h_14 (fun j hj => hf1 j (by omega))

set_option maxRecDepth 100000 in
set_option maxHeartbeats 4000000 in
theorem c_X12_compileFactor_1 (l : Launch) (hls : l.stackTraces = false) (G : kG) (hN : kN G = 150) (w : Nat → va_E) (fl : va_W) (u bt : Nat → Int) (n : Nat) (st : PS) (L : List Int) (V : Int → Nat → Int) (hn2 : n ≤ 200) (hqc : qcW G w u st L) (hL : st.1 = 0 → L.length ≤ st.2.2) (h145 : w 145 = nmA G) (h25 : u 25 = 5) (hn7 : n ≤ 700) (hb : btOK bt) (hm : w 133 = mdO G u) (h144 : w 144 = iA G 700 bt) (hK : mkR u bt n st) : KM l G yX12_compileFactor cX12_compileFactor 2 (none) 9 0 0 [.ref (kad G 133)] w fl (kMuv fl (fun w1 => (∃ u1, w1 133 = mdO G u1 ∧ mkR u1 bt n ((qF V bt n 1 st).1) ∧ qcW G w1 u1 ((qF V bt n 1 st).1) (L ++ (qF V bt n 1 st).2.1) ∧ u1 25 = 5 ∧ uQ u u1) ∧ ∀ j, (j ≠ 133 ∧ j ≠ 146) → w1 j = w j)) := by
  refine KM_of2 hls (by decide +kernel) rfl (lv0 := [(0, .ref (kad G 133))]) rfl (Nat.le_of_ble_eq_true rfl) (fun p e R s m args below meth c Q hC hr hQ => ?_)
  have h18 := hK.1
  have h22 := hK.2.1
  have hrg := hK.2.2.1
  have hcb := hK.cb
  have hk0 := hK.2.2.2.1
  have hk1 := hK.2.2.2.2.1
  have hdg := hK.2.2.2.2.2
  have hle0 := hK.le
  refine k_aload_n hC dX12_compileFactor_0 rfl 0 rfl ?_
  refine k_ldcsw hC (List.mem_of_getElem? (i := 55) rfl) dX12_compileFactor_1 ?_
  refine k_pureV hC (c_X12_isWord l hls G hN w fl u bt n st 31 (by decide) hn7 hb hm h144 hK) yy_X12_isWord wm_X12_409 (kl hN (by decide)) hm rfl rfl rfl rfl (Nat.le_of_ble_eq_true rfl) (by decide) (by decide) ⟨by decide, by decide⟩ dX12_compileFactor_4 ?_
  obtain ⟨z_1, ez_1, hz_1⟩ := selI_c (isW bt n 31 st)
  refine k_topv (vI z_1) (by rw [ez_1]) ?_
  refine k_if_eq hC 44 dX12_compileFactor_7 rfl (by omega) (fun c_7 => ?_) (fun c_7 => ?_)
  · have hw31 : ¬ isW bt n 31 st := (hz_1.resolve_left (fun q1 => by omega)).2
    refine k_aload_n hC dX12_compileFactor_44 rfl 0 rfl ?_
    refine k_bipush hC dX12_compileFactor_45 (by decide) ?_
    refine k_pureV hC (c_X12_isSymbol l hls G hN w fl u bt n st 40 (by omega) hn7 hb hm h144 hK) yy_X12_isSymbol wm_X12_420 (kl hN (by decide)) hm rfl rfl rfl rfl (Nat.le_of_ble_eq_true rfl) (by decide) (by decide) ⟨by decide, by decide⟩ dX12_compileFactor_47 ?_
    obtain ⟨z_2, ez_2, hz_2⟩ := selI_c (isS bt n 40 st)
    refine k_topv (vI z_2) (by rw [ez_2]) ?_
    refine k_if_eq hC 87 dX12_compileFactor_50 rfl (by omega) (fun c_50 => ?_) (fun c_50 => ?_)
    · have hw40 : ¬ isS bt n 40 st := (hz_2.resolve_left (fun q1 => by omega)).2
      have hqF := qF_c (V := V) 1 hw31 hw40
      refine k_aload_n hC dX12_compileFactor_87 rfl 0 rfl ?_
      refine k_muvV hC (c_X12_compileValue l hls G hN w fl u bt n st L 5 hn2 hqc hL h145 h25 hn7 hb hm h144 hK) yy_X12_compileValue wm_X12_501 (kl hN (by decide)) hm rfl rfl rfl rfl (Nat.le_of_ble_eq_true rfl) (by decide) (by decide) ⟨by decide, by decide⟩ dX12_compileFactor_88 (fun w3 hp3 => ?_)
      obtain ⟨hT3, hf3⟩ := hp3
      obtain ⟨u3, hu3, hKr3, hQ_3, h25_3, hs3⟩ := hT3
      obtain ⟨st_4, est_4⟩ : ∃ z : PS, z = vlS bt n st := ⟨_, rfl⟩
      rw [← est_4] at hKr3 hQ_3
      have h18r3 := hKr3.1
      have h22r3 := hKr3.2.1
      have hrgr3 := hKr3.2.2.1
      have hcbr3 := hKr3.cb
      refine k_aload_n hC dX12_compileFactor_91 rfl 0 rfl ?_
      refine k_bipush hC dX12_compileFactor_92 (by decide) ?_
      have h_5 : w3 144 = iA G 700 bt := (hf3 144 (by decide)).trans h144
      refine k_pureV hC (c_X12_isSymbol l hls G hN w3 fl u3 bt n st_4 60 (by omega) hn7 hb hu3 h_5 hKr3) yy_X12_isSymbol wm_X12_420 (kl hN (by decide)) hu3 rfl rfl rfl rfl (Nat.le_of_ble_eq_true rfl) (by decide) (by decide) ⟨by decide, by decide⟩ dX12_compileFactor_94 ?_
      obtain ⟨z_6, ez_6, hz_6⟩ := selI_c (isS bt n 60 st_4)
      refine k_topv (vI z_6) (by rw [ez_6]) ?_
      refine k_if_eq hC 105 dX12_compileFactor_97 rfl (by omega) (fun c_97 => ?_) (fun c_97 => ?_)
      · refine k_aload_n hC dX12_compileFactor_105 rfl 0 rfl ?_
        refine k_bipush hC dX12_compileFactor_106 (by decide) ?_
        refine k_pureV hC (c_X12_isSymbol l hls G hN w3 fl u3 bt n st_4 61 (by omega) hn7 hb hu3 h_5 hKr3) yy_X12_isSymbol wm_X12_420 (kl hN (by decide)) hu3 rfl rfl rfl rfl (Nat.le_of_ble_eq_true rfl) (by decide) (by decide) ⟨by decide, by decide⟩ dX12_compileFactor_108 ?_
        obtain ⟨z_7, ez_7, hz_7⟩ := selI_c (isS bt n 61 st_4)
        refine k_topv (vI z_7) (by rw [ez_7]) ?_
        refine k_if_eq hC 119 dX12_compileFactor_111 rfl (by omega) (fun c_111 => ?_) (fun c_111 => ?_)
        · refine k_bipush hC dX12_compileFactor_119 (by decide) ?_
          refine k_istore_n hC [(1, vI (-22)), (0, .ref (kad G 133))] dX12_compileFactor_121 rfl (by decide) rfl ?_
          refine k_aload_n hC dX12_compileFactor_122 rfl 1 rfl ?_
          refine k_iload_n hC dX12_compileFactor_123 rfl 0 rfl ?_
          refine k_bipush hC dX12_compileFactor_124 (by decide) ?_
          refine k_icmp_ne hC 138 dX12_compileFactor_126 rfl (by omega) (by omega) (fun c_126 => absurd c_126 (by omega)) (fun c_126 => ?_)
          refine k_aload_n hC dX12_compileFactor_129 rfl 1 rfl ?_
          refine k_bipush hC dX12_compileFactor_130 (by decide) ?_
          refine k_pureV hC (c_X12_isSymbol l hls G hN w3 fl u3 bt n st_4 62 (by omega) hn7 hb hu3 h_5 hKr3) yy_X12_isSymbol wm_X12_420 (kl hN (by decide)) hu3 rfl rfl rfl rfl (Nat.le_of_ble_eq_true rfl) (by decide) (by decide) ⟨by decide, by decide⟩ dX12_compileFactor_132 ?_
          obtain ⟨z_8, ez_8, hz_8⟩ := selI_c (isS bt n 62 st_4)
          refine k_topv (vI z_8) (by rw [ez_8]) ?_
          refine k_if_eq hC 142 dX12_compileFactor_135 rfl (by omega) (fun c_135 => ?_) (fun c_135 => ?_)
          · refine k_iconst hC dX12_compileFactor_142 ?_
            refine k_iconst hC dX12_compileFactor_143 ?_
            refine k_muvV hC (c_X12_check0 l hls G hN w3 fl u3 bt n st_4 1 (by omega) hn7 hb hu3 h_5 hKr3) yy_X12_check wm_X12_413 (kl hN (by decide)) hu3 rfl rfl rfl rfl (Nat.le_of_ble_eq_true rfl) (by decide) (by decide) ⟨by decide, by decide⟩ dX12_compileFactor_144 (fun w9 hp9 => ?_)
            obtain ⟨hT9, hf9⟩ := hp9
            obtain ⟨u9, hu9, hKr9, hs9⟩ := hT9
            obtain ⟨st_10, est_10⟩ : ∃ z : PS, z = flP 1 st_4 := ⟨_, rfl⟩
            rw [← est_10] at hKr9
            have h18r9 := hKr9.1
            have h22r9 := hKr9.2.1
            have hrgr9 := hKr9.2.2.1
            have hcbr9 := hKr9.cb
            have hzzr9 : st_10.1 ≠ 0 := by rw [est_10]; exact fl_c (by omega)
            have hQ_9 : qcW G w9 u9 st_10 (L ++ [vlC bt n st]) := hQ_3.go (hs9 29 (by omega)) (hf9 146 (by decide)) (fun q => absurd q hzzr9)
            have h25_9 : u9 25 = 5 := (hs9 25 (by omega)).trans h25_3
            refine k_aload_n hC dX12_compileFactor_147 rfl 1 rfl ?_
            have h_12 : w9 144 = iA G 700 bt := (hf9 144 (by decide)).trans h_5
            refine k_muvV hC (c_X12_advance l hls G hN w9 fl u9 bt n st_10  hn7 hb hu9 h_12 hKr9) yy_X12_advance wm_X12_417 (kl hN (by decide)) hu9 rfl rfl rfl rfl (Nat.le_of_ble_eq_true rfl) (by decide) (by decide) ⟨by decide, by decide⟩ dX12_compileFactor_148 (fun w11 hp11 => ?_)
            obtain ⟨hT11, hf11⟩ := hp11
            obtain ⟨u11, hu11, hKr11, hs11⟩ := hT11
            obtain ⟨st_13, est_13⟩ : ∃ z : PS, z = adP bt n st_10 := ⟨_, rfl⟩
            rw [← est_13] at hKr11
            have h18r11 := hKr11.1
            have h22r11 := hKr11.2.1
            have hrgr11 := hKr11.2.2.1
            have hcbr11 := hKr11.cb
            have hzzr11 : st_13.1 ≠ 0 := by rw [est_13, adP_e (by omega)]; omega
            have hQ_11 : qcW G w11 u11 st_13 (L ++ [vlC bt n st]) := hQ_9.go (hs11 29 (by omega)) (hf11 146 (by decide)) (fun q => ad_c.mp (by rw [← est_13]; exact q))
            have h25_11 : u11 25 = 5 := (hs11 25 (by omega)).trans h25_9
            have hop : opM bt n st_4 = -22 := (selI_0 (hz_6.resolve_left (fun q1 => by omega)).2).trans (selI_0 (hz_7.resolve_left (fun q1 => by omega)).2)
            have hob9 : st_13 = opS bt n st_4 := by unfold opS; rw [selP_0 (fun q => q.elim (hz_6.resolve_left (fun q1 => by omega)).2 (fun q => q.elim (hz_7.resolve_left (fun q1 => by omega)).2 (hz_8.resolve_left (fun q1 => by omega)).2)), ← est_10]; exact est_13
            refine k_aload_n hC dX12_compileFactor_151 rfl 1 rfl ?_
            have h_14 : w11 145 = rA G 6 7 (fun j => some (kadK G (nmI j))) := (hf11 145 (by decide)).trans ((hf9 145 (by decide)).trans ((hf3 145 (by decide)).trans h145))
            have h_15 : w11 144 = iA G 700 bt := (hf11 144 (by decide)).trans h_12
            refine k_muvV hC (c_X12_compileValue l hls G hN w11 fl u11 bt n st_13 (L ++ [vlC bt n st]) 5 hn2 hQ_11 (by rw [hob9, est_4]; exact hl_cmp hle0 hL) h_14 h25_11 hn7 hb hu11 h_15 hKr11) yy_X12_compileValue wm_X12_501 (kl hN (by decide)) hu11 rfl rfl rfl rfl (Nat.le_of_ble_eq_true rfl) (by decide) (by decide) ⟨by decide, by decide⟩ dX12_compileFactor_152 (fun w16 hp16 => ?_)
            obtain ⟨hT16, hf16⟩ := hp16
            obtain ⟨u16, hu16, hKr16, hQ_16, h25_16, hs16⟩ := hT16
            obtain ⟨st_17, est_17⟩ : ∃ z : PS, z = vlS bt n st_13 := ⟨_, rfl⟩
            rw [← est_17] at hKr16 hQ_16
            have h18r16 := hKr16.1
            have h22r16 := hKr16.2.1
            have hrgr16 := hKr16.2.2.1
            have hcbr16 := hKr16.cb
            have hob : st_13 = opS bt n st_4 := by exact hob9
            refine k_aload_n hC dX12_compileFactor_155 rfl 1 rfl ?_
            refine k_iload_n hC dX12_compileFactor_156 rfl 0 rfl ?_
            have h_19 : w16 144 = iA G 700 bt := (hf16 144 (by decide)).trans h_15
            refine k_muvV hC (c_X12_emit l hls G hN w16 fl u16 bt n st_17 (L ++ [vlC bt n st] ++ [vlC bt n st_13]) (-22) (by rw [est_17, hob, est_4]; exact lt_cmp hn2 hle0 hL) hn2 hQ_16 hn7 hb hu16 h_19 hKr16) yy_X12_emit wm_X12_487 (kl hN (by decide)) hu16 rfl rfl rfl rfl (Nat.le_of_ble_eq_true rfl) (by decide) (by decide) ⟨by decide, by decide⟩ dX12_compileFactor_157 (fun w18 hp18 => ?_)
            obtain ⟨⟨u18, hu18, hKr18, hQ_18, hs18⟩, hf18⟩ := hp18
            have h18r18 := hKr18.1
            have h22r18 := hKr18.2.1
            have hrgr18 := hKr18.2.2.1
            have hcbr18 := hKr18.cb
            have h25_18 : u18 25 = 5 := (hs18 25 (by decide)).trans h25_16
            subst hQ
            exact k_vret hC hr ⟨by decide, by decide⟩ (⟨rfl, rfl, ⟨u18, hu18, (by have e : st_17 = (qF V bt n 1 st).1 := (by rw [hqF]; show st_17 = vlS bt n (opS bt n (vlS bt n st)); rw [← est_4, ← hob9]; exact est_17); rw [← e]; exact hKr18), (by have e : st_17 = (qF V bt n 1 st).1 := (by rw [hqF]; show st_17 = vlS bt n (opS bt n (vlS bt n st)); rw [← est_4, ← hob9]; exact est_17); rw [← e]; exact hQ_18.cg (fun q => by rw [hqF]; show _ = L ++ [vlC bt n st, vlC bt n (opS bt n (vlS bt n st)), opM bt n (vlS bt n st)]; rw [← est_4, hop, ← hob9, List.append_assoc, List.append_assoc]; rfl)), h25_18, (uQ.tr (uQ.tr (uQ.tr (uQ.tr (uQ.tr uQ.rf hs3) (uS.q hs9)) (uS.q hs11)) hs16) (uQ.e29 hs18))⟩, fun j hj => (hf18 j (by omega)).trans ((hf16 j (by omega)).trans ((hf11 j (by omega)).trans ((hf9 j (by omega)).trans (hf3 j (by omega)))))⟩) dX12_compileFactor_160
          · refine k_iconst hC dX12_compileFactor_138 ?_
            refine k_goto hC 143 dX12_compileFactor_139 rfl ?_
            refine k_iconst hC dX12_compileFactor_143 ?_
            refine k_muvV hC (c_X12_check1 l hls G hN w3 fl u3 bt n st_4 1 (by omega) hn7 hb hu3 h_5 hKr3) yy_X12_check wm_X12_413 (kl hN (by decide)) hu3 rfl rfl rfl rfl (Nat.le_of_ble_eq_true rfl) (by decide) (by decide) ⟨by decide, by decide⟩ dX12_compileFactor_144 (fun w20 hp20 => ?_)
            obtain ⟨hT20, hf20⟩ := hp20
            obtain ⟨u20, hu20, hKr20, hs20⟩ := hT20
            have h18r20 := hKr20.1
            have h22r20 := hKr20.2.1
            have hrgr20 := hKr20.2.2.1
            have hcbr20 := hKr20.cb
            have hQ_20 : qcW G w20 u20 st_4 (L ++ [vlC bt n st]) := hQ_3.go (hs20 29 (by omega)) (hf20 146 (by decide)) (fun q => q)
            have h25_20 : u20 25 = 5 := (hs20 25 (by omega)).trans h25_3
            refine k_aload_n hC dX12_compileFactor_147 rfl 1 rfl ?_
            have h_22 : w20 144 = iA G 700 bt := (hf20 144 (by decide)).trans h_5
            refine k_muvV hC (c_X12_advance l hls G hN w20 fl u20 bt n st_4  hn7 hb hu20 h_22 hKr20) yy_X12_advance wm_X12_417 (kl hN (by decide)) hu20 rfl rfl rfl rfl (Nat.le_of_ble_eq_true rfl) (by decide) (by decide) ⟨by decide, by decide⟩ dX12_compileFactor_148 (fun w21 hp21 => ?_)
            obtain ⟨hT21, hf21⟩ := hp21
            obtain ⟨u21, hu21, hKr21, hs21⟩ := hT21
            obtain ⟨st_23, est_23⟩ : ∃ z : PS, z = adP bt n st_4 := ⟨_, rfl⟩
            rw [← est_23] at hKr21
            have h18r21 := hKr21.1
            have h22r21 := hKr21.2.1
            have hrgr21 := hKr21.2.2.1
            have hcbr21 := hKr21.cb
            have hQ_21 : qcW G w21 u21 st_23 (L ++ [vlC bt n st]) := hQ_20.go (hs21 29 (by omega)) (hf21 146 (by decide)) (fun q => ad_c.mp (by rw [← est_23]; exact q))
            have h25_21 : u21 25 = 5 := (hs21 25 (by omega)).trans h25_20
            have hop : opM bt n st_4 = -22 := (selI_0 (hz_6.resolve_left (fun q1 => by omega)).2).trans (selI_0 (hz_7.resolve_left (fun q1 => by omega)).2)
            have hob9 : st_23 = opS bt n st_4 := by unfold opS; rw [selP_1 (Or.inr (Or.inr (hz_8.resolve_right (fun q1 => by omega)).2))]; exact est_23
            refine k_aload_n hC dX12_compileFactor_151 rfl 1 rfl ?_
            have h_24 : w21 145 = rA G 6 7 (fun j => some (kadK G (nmI j))) := (hf21 145 (by decide)).trans ((hf20 145 (by decide)).trans ((hf3 145 (by decide)).trans h145))
            have h_25 : w21 144 = iA G 700 bt := (hf21 144 (by decide)).trans h_22
            refine k_muvV hC (c_X12_compileValue l hls G hN w21 fl u21 bt n st_23 (L ++ [vlC bt n st]) 5 hn2 hQ_21 (by rw [hob9, est_4]; exact hl_cmp hle0 hL) h_24 h25_21 hn7 hb hu21 h_25 hKr21) yy_X12_compileValue wm_X12_501 (kl hN (by decide)) hu21 rfl rfl rfl rfl (Nat.le_of_ble_eq_true rfl) (by decide) (by decide) ⟨by decide, by decide⟩ dX12_compileFactor_152 (fun w26 hp26 => ?_)
            obtain ⟨hT26, hf26⟩ := hp26
            obtain ⟨u26, hu26, hKr26, hQ_26, h25_26, hs26⟩ := hT26
            obtain ⟨st_27, est_27⟩ : ∃ z : PS, z = vlS bt n st_23 := ⟨_, rfl⟩
            rw [← est_27] at hKr26 hQ_26
            have h18r26 := hKr26.1
            have h22r26 := hKr26.2.1
            have hrgr26 := hKr26.2.2.1
            have hcbr26 := hKr26.cb
            have hob : st_23 = opS bt n st_4 := by exact hob9
            refine k_aload_n hC dX12_compileFactor_155 rfl 1 rfl ?_
            refine k_iload_n hC dX12_compileFactor_156 rfl 0 rfl ?_
            have h_29 : w26 144 = iA G 700 bt := (hf26 144 (by decide)).trans h_25
            refine k_muvV hC (c_X12_emit l hls G hN w26 fl u26 bt n st_27 (L ++ [vlC bt n st] ++ [vlC bt n st_23]) (-22) (by rw [est_27, hob, est_4]; exact lt_cmp hn2 hle0 hL) hn2 hQ_26 hn7 hb hu26 h_29 hKr26) yy_X12_emit wm_X12_487 (kl hN (by decide)) hu26 rfl rfl rfl rfl (Nat.le_of_ble_eq_true rfl) (by decide) (by decide) ⟨by decide, by decide⟩ dX12_compileFactor_157 (fun w28 hp28 => ?_)
            obtain ⟨⟨u28, hu28, hKr28, hQ_28, hs28⟩, hf28⟩ := hp28
            have h18r28 := hKr28.1
            have h22r28 := hKr28.2.1
            have hrgr28 := hKr28.2.2.1
            have hcbr28 := hKr28.cb
            have h25_28 : u28 25 = 5 := (hs28 25 (by decide)).trans h25_26
            subst hQ
            exact k_vret hC hr ⟨by decide, by decide⟩ (⟨rfl, rfl, ⟨u28, hu28, (by have e : st_27 = (qF V bt n 1 st).1 := (by rw [hqF]; show st_27 = vlS bt n (opS bt n (vlS bt n st)); rw [← est_4, ← hob9]; exact est_27); rw [← e]; exact hKr28), (by have e : st_27 = (qF V bt n 1 st).1 := (by rw [hqF]; show st_27 = vlS bt n (opS bt n (vlS bt n st)); rw [← est_4, ← hob9]; exact est_27); rw [← e]; exact hQ_28.cg (fun q => by rw [hqF]; show _ = L ++ [vlC bt n st, vlC bt n (opS bt n (vlS bt n st)), opM bt n (vlS bt n st)]; rw [← est_4, hop, ← hob9, List.append_assoc, List.append_assoc]; rfl)), h25_28, (uQ.tr (uQ.tr (uQ.tr (uQ.tr (uQ.tr uQ.rf hs3) (uS.q hs20)) (uS.q hs21)) hs26) (uQ.e29 hs28))⟩, fun j hj => (hf28 j (by omega)).trans ((hf26 j (by omega)).trans ((hf21 j (by omega)).trans ((hf20 j (by omega)).trans (hf3 j (by omega)))))⟩) dX12_compileFactor_160
        · refine k_bipush hC dX12_compileFactor_114 (by decide) ?_
          refine k_goto hC 121 dX12_compileFactor_116 rfl ?_
          refine k_istore_n hC [(1, vI (-21)), (0, .ref (kad G 133))] dX12_compileFactor_121 rfl (by decide) rfl ?_
          refine k_aload_n hC dX12_compileFactor_122 rfl 1 rfl ?_
          refine k_iload_n hC dX12_compileFactor_123 rfl 0 rfl ?_
          refine k_bipush hC dX12_compileFactor_124 (by decide) ?_
          refine k_icmp_ne hC 138 dX12_compileFactor_126 rfl (by omega) (by omega) (fun c_126 => ?_) (fun c_126 => absurd c_126 (by omega))
          refine k_iconst hC dX12_compileFactor_138 ?_
          refine k_goto hC 143 dX12_compileFactor_139 rfl ?_
          refine k_iconst hC dX12_compileFactor_143 ?_
          refine k_muvV hC (c_X12_check1 l hls G hN w3 fl u3 bt n st_4 1 (by omega) hn7 hb hu3 h_5 hKr3) yy_X12_check wm_X12_413 (kl hN (by decide)) hu3 rfl rfl rfl rfl (Nat.le_of_ble_eq_true rfl) (by decide) (by decide) ⟨by decide, by decide⟩ dX12_compileFactor_144 (fun w30 hp30 => ?_)
          obtain ⟨hT30, hf30⟩ := hp30
          obtain ⟨u30, hu30, hKr30, hs30⟩ := hT30
          have h18r30 := hKr30.1
          have h22r30 := hKr30.2.1
          have hrgr30 := hKr30.2.2.1
          have hcbr30 := hKr30.cb
          have hQ_30 : qcW G w30 u30 st_4 (L ++ [vlC bt n st]) := hQ_3.go (hs30 29 (by omega)) (hf30 146 (by decide)) (fun q => q)
          have h25_30 : u30 25 = 5 := (hs30 25 (by omega)).trans h25_3
          refine k_aload_n hC dX12_compileFactor_147 rfl 1 rfl ?_
          have h_32 : w30 144 = iA G 700 bt := (hf30 144 (by decide)).trans h_5
          refine k_muvV hC (c_X12_advance l hls G hN w30 fl u30 bt n st_4  hn7 hb hu30 h_32 hKr30) yy_X12_advance wm_X12_417 (kl hN (by decide)) hu30 rfl rfl rfl rfl (Nat.le_of_ble_eq_true rfl) (by decide) (by decide) ⟨by decide, by decide⟩ dX12_compileFactor_148 (fun w31 hp31 => ?_)
          obtain ⟨hT31, hf31⟩ := hp31
          obtain ⟨u31, hu31, hKr31, hs31⟩ := hT31
          obtain ⟨st_33, est_33⟩ : ∃ z : PS, z = adP bt n st_4 := ⟨_, rfl⟩
          rw [← est_33] at hKr31
          have h18r31 := hKr31.1
          have h22r31 := hKr31.2.1
          have hrgr31 := hKr31.2.2.1
          have hcbr31 := hKr31.cb
          have hQ_31 : qcW G w31 u31 st_33 (L ++ [vlC bt n st]) := hQ_30.go (hs31 29 (by omega)) (hf31 146 (by decide)) (fun q => ad_c.mp (by rw [← est_33]; exact q))
          have h25_31 : u31 25 = 5 := (hs31 25 (by omega)).trans h25_30
          have hop : opM bt n st_4 = -21 := (selI_0 (hz_6.resolve_left (fun q1 => by omega)).2).trans (selI_1 (hz_7.resolve_right (fun q1 => by omega)).2)
          have hob9 : st_33 = opS bt n st_4 := by unfold opS; rw [selP_1 (Or.inr (Or.inl (hz_7.resolve_right (fun q1 => by omega)).2))]; exact est_33
          refine k_aload_n hC dX12_compileFactor_151 rfl 1 rfl ?_
          have h_34 : w31 145 = rA G 6 7 (fun j => some (kadK G (nmI j))) := (hf31 145 (by decide)).trans ((hf30 145 (by decide)).trans ((hf3 145 (by decide)).trans h145))
          have h_35 : w31 144 = iA G 700 bt := (hf31 144 (by decide)).trans h_32
          refine k_muvV hC (c_X12_compileValue l hls G hN w31 fl u31 bt n st_33 (L ++ [vlC bt n st]) 5 hn2 hQ_31 (by rw [hob9, est_4]; exact hl_cmp hle0 hL) h_34 h25_31 hn7 hb hu31 h_35 hKr31) yy_X12_compileValue wm_X12_501 (kl hN (by decide)) hu31 rfl rfl rfl rfl (Nat.le_of_ble_eq_true rfl) (by decide) (by decide) ⟨by decide, by decide⟩ dX12_compileFactor_152 (fun w36 hp36 => ?_)
          obtain ⟨hT36, hf36⟩ := hp36
          obtain ⟨u36, hu36, hKr36, hQ_36, h25_36, hs36⟩ := hT36
          obtain ⟨st_37, est_37⟩ : ∃ z : PS, z = vlS bt n st_33 := ⟨_, rfl⟩
          rw [← est_37] at hKr36 hQ_36
          have h18r36 := hKr36.1
          have h22r36 := hKr36.2.1
          have hrgr36 := hKr36.2.2.1
          have hcbr36 := hKr36.cb
          have hob : st_33 = opS bt n st_4 := by exact hob9
          refine k_aload_n hC dX12_compileFactor_155 rfl 1 rfl ?_
          refine k_iload_n hC dX12_compileFactor_156 rfl 0 rfl ?_
          have h_39 : w36 144 = iA G 700 bt := (hf36 144 (by decide)).trans h_35
          refine k_muvV hC (c_X12_emit l hls G hN w36 fl u36 bt n st_37 (L ++ [vlC bt n st] ++ [vlC bt n st_33]) (-21) (by rw [est_37, hob, est_4]; exact lt_cmp hn2 hle0 hL) hn2 hQ_36 hn7 hb hu36 h_39 hKr36) yy_X12_emit wm_X12_487 (kl hN (by decide)) hu36 rfl rfl rfl rfl (Nat.le_of_ble_eq_true rfl) (by decide) (by decide) ⟨by decide, by decide⟩ dX12_compileFactor_157 (fun w38 hp38 => ?_)
          obtain ⟨⟨u38, hu38, hKr38, hQ_38, hs38⟩, hf38⟩ := hp38
          have h18r38 := hKr38.1
          have h22r38 := hKr38.2.1
          have hrgr38 := hKr38.2.2.1
          have hcbr38 := hKr38.cb
          have h25_38 : u38 25 = 5 := (hs38 25 (by decide)).trans h25_36
          subst hQ
          exact k_vret hC hr ⟨by decide, by decide⟩ (⟨rfl, rfl, ⟨u38, hu38, (by have e : st_37 = (qF V bt n 1 st).1 := (by rw [hqF]; show st_37 = vlS bt n (opS bt n (vlS bt n st)); rw [← est_4, ← hob9]; exact est_37); rw [← e]; exact hKr38), (by have e : st_37 = (qF V bt n 1 st).1 := (by rw [hqF]; show st_37 = vlS bt n (opS bt n (vlS bt n st)); rw [← est_4, ← hob9]; exact est_37); rw [← e]; exact hQ_38.cg (fun q => by rw [hqF]; show _ = L ++ [vlC bt n st, vlC bt n (opS bt n (vlS bt n st)), opM bt n (vlS bt n st)]; rw [← est_4, hop, ← hob9, List.append_assoc, List.append_assoc]; rfl)), h25_38, (uQ.tr (uQ.tr (uQ.tr (uQ.tr (uQ.tr uQ.rf hs3) (uS.q hs30)) (uS.q hs31)) hs36) (uQ.e29 hs38))⟩, fun j hj => (hf38 j (by omega)).trans ((hf36 j (by omega)).trans ((hf31 j (by omega)).trans ((hf30 j (by omega)).trans (hf3 j (by omega)))))⟩) dX12_compileFactor_160
      · refine k_bipush hC dX12_compileFactor_100 (by decide) ?_
        refine k_goto hC 121 dX12_compileFactor_102 rfl ?_
        refine k_istore_n hC [(1, vI (-20)), (0, .ref (kad G 133))] dX12_compileFactor_121 rfl (by decide) rfl ?_
        refine k_aload_n hC dX12_compileFactor_122 rfl 1 rfl ?_
        refine k_iload_n hC dX12_compileFactor_123 rfl 0 rfl ?_
        refine k_bipush hC dX12_compileFactor_124 (by decide) ?_
        refine k_icmp_ne hC 138 dX12_compileFactor_126 rfl (by omega) (by omega) (fun c_126 => ?_) (fun c_126 => absurd c_126 (by omega))
        refine k_iconst hC dX12_compileFactor_138 ?_
        refine k_goto hC 143 dX12_compileFactor_139 rfl ?_
        refine k_iconst hC dX12_compileFactor_143 ?_
        refine k_muvV hC (c_X12_check1 l hls G hN w3 fl u3 bt n st_4 1 (by omega) hn7 hb hu3 h_5 hKr3) yy_X12_check wm_X12_413 (kl hN (by decide)) hu3 rfl rfl rfl rfl (Nat.le_of_ble_eq_true rfl) (by decide) (by decide) ⟨by decide, by decide⟩ dX12_compileFactor_144 (fun w40 hp40 => ?_)
        obtain ⟨hT40, hf40⟩ := hp40
        obtain ⟨u40, hu40, hKr40, hs40⟩ := hT40
        have h18r40 := hKr40.1
        have h22r40 := hKr40.2.1
        have hrgr40 := hKr40.2.2.1
        have hcbr40 := hKr40.cb
        have hQ_40 : qcW G w40 u40 st_4 (L ++ [vlC bt n st]) := hQ_3.go (hs40 29 (by omega)) (hf40 146 (by decide)) (fun q => q)
        have h25_40 : u40 25 = 5 := (hs40 25 (by omega)).trans h25_3
        refine k_aload_n hC dX12_compileFactor_147 rfl 1 rfl ?_
        have h_42 : w40 144 = iA G 700 bt := (hf40 144 (by decide)).trans h_5
        refine k_muvV hC (c_X12_advance l hls G hN w40 fl u40 bt n st_4  hn7 hb hu40 h_42 hKr40) yy_X12_advance wm_X12_417 (kl hN (by decide)) hu40 rfl rfl rfl rfl (Nat.le_of_ble_eq_true rfl) (by decide) (by decide) ⟨by decide, by decide⟩ dX12_compileFactor_148 (fun w41 hp41 => ?_)
        obtain ⟨hT41, hf41⟩ := hp41
        obtain ⟨u41, hu41, hKr41, hs41⟩ := hT41
        obtain ⟨st_43, est_43⟩ : ∃ z : PS, z = adP bt n st_4 := ⟨_, rfl⟩
        rw [← est_43] at hKr41
        have h18r41 := hKr41.1
        have h22r41 := hKr41.2.1
        have hrgr41 := hKr41.2.2.1
        have hcbr41 := hKr41.cb
        have hQ_41 : qcW G w41 u41 st_43 (L ++ [vlC bt n st]) := hQ_40.go (hs41 29 (by omega)) (hf41 146 (by decide)) (fun q => ad_c.mp (by rw [← est_43]; exact q))
        have h25_41 : u41 25 = 5 := (hs41 25 (by omega)).trans h25_40
        have hop : opM bt n st_4 = -20 := selI_1 (hz_6.resolve_right (fun q1 => by omega)).2
        have hob9 : st_43 = opS bt n st_4 := by unfold opS; rw [selP_1 (Or.inl (hz_6.resolve_right (fun q1 => by omega)).2)]; exact est_43
        refine k_aload_n hC dX12_compileFactor_151 rfl 1 rfl ?_
        have h_44 : w41 145 = rA G 6 7 (fun j => some (kadK G (nmI j))) := (hf41 145 (by decide)).trans ((hf40 145 (by decide)).trans ((hf3 145 (by decide)).trans h145))
        have h_45 : w41 144 = iA G 700 bt := (hf41 144 (by decide)).trans h_42
        refine k_muvV hC (c_X12_compileValue l hls G hN w41 fl u41 bt n st_43 (L ++ [vlC bt n st]) 5 hn2 hQ_41 (by rw [hob9, est_4]; exact hl_cmp hle0 hL) h_44 h25_41 hn7 hb hu41 h_45 hKr41) yy_X12_compileValue wm_X12_501 (kl hN (by decide)) hu41 rfl rfl rfl rfl (Nat.le_of_ble_eq_true rfl) (by decide) (by decide) ⟨by decide, by decide⟩ dX12_compileFactor_152 (fun w46 hp46 => ?_)
        obtain ⟨hT46, hf46⟩ := hp46
        obtain ⟨u46, hu46, hKr46, hQ_46, h25_46, hs46⟩ := hT46
        obtain ⟨st_47, est_47⟩ : ∃ z : PS, z = vlS bt n st_43 := ⟨_, rfl⟩
        rw [← est_47] at hKr46 hQ_46
        have h18r46 := hKr46.1
        have h22r46 := hKr46.2.1
        have hrgr46 := hKr46.2.2.1
        have hcbr46 := hKr46.cb
        have hob : st_43 = opS bt n st_4 := by exact hob9
        refine k_aload_n hC dX12_compileFactor_155 rfl 1 rfl ?_
        refine k_iload_n hC dX12_compileFactor_156 rfl 0 rfl ?_
        have h_49 : w46 144 = iA G 700 bt := (hf46 144 (by decide)).trans h_45
        refine k_muvV hC (c_X12_emit l hls G hN w46 fl u46 bt n st_47 (L ++ [vlC bt n st] ++ [vlC bt n st_43]) (-20) (by rw [est_47, hob, est_4]; exact lt_cmp hn2 hle0 hL) hn2 hQ_46 hn7 hb hu46 h_49 hKr46) yy_X12_emit wm_X12_487 (kl hN (by decide)) hu46 rfl rfl rfl rfl (Nat.le_of_ble_eq_true rfl) (by decide) (by decide) ⟨by decide, by decide⟩ dX12_compileFactor_157 (fun w48 hp48 => ?_)
        obtain ⟨⟨u48, hu48, hKr48, hQ_48, hs48⟩, hf48⟩ := hp48
        have h18r48 := hKr48.1
        have h22r48 := hKr48.2.1
        have hrgr48 := hKr48.2.2.1
        have hcbr48 := hKr48.cb
        have h25_48 : u48 25 = 5 := (hs48 25 (by decide)).trans h25_46
        subst hQ
        exact k_vret hC hr ⟨by decide, by decide⟩ (⟨rfl, rfl, ⟨u48, hu48, (by have e : st_47 = (qF V bt n 1 st).1 := (by rw [hqF]; show st_47 = vlS bt n (opS bt n (vlS bt n st)); rw [← est_4, ← hob9]; exact est_47); rw [← e]; exact hKr48), (by have e : st_47 = (qF V bt n 1 st).1 := (by rw [hqF]; show st_47 = vlS bt n (opS bt n (vlS bt n st)); rw [← est_4, ← hob9]; exact est_47); rw [← e]; exact hQ_48.cg (fun q => by rw [hqF]; show _ = L ++ [vlC bt n st, vlC bt n (opS bt n (vlS bt n st)), opM bt n (vlS bt n st)]; rw [← est_4, hop, ← hob9, List.append_assoc, List.append_assoc]; rfl)), h25_48, (uQ.tr (uQ.tr (uQ.tr (uQ.tr (uQ.tr uQ.rf hs3) (uS.q hs40)) (uS.q hs41)) hs46) (uQ.e29 hs48))⟩, fun j hj => (hf48 j (by omega)).trans ((hf46 j (by omega)).trans ((hf41 j (by omega)).trans ((hf40 j (by omega)).trans (hf3 j (by omega)))))⟩) dX12_compileFactor_160
    · have hw40 : isS bt n 40 st := (hz_2.resolve_right (fun q1 => by omega)).2
      have hz0 := hw40.1
      have hzz : st.1 = 0 := by omega
      have hq0 := hK.2.2.2.1 hzz
      have hen := enM_b (bt := bt) hq0.2.2.2
      refine k_aload_n hC dX12_compileFactor_53 rfl 0 rfl ?_
      refine k_muvV hC (c_X12_enter_5 l hls G hN w fl u bt n st L (by omega) hn2 hqc hL h145 h25 hn7 hb hm h144 hK) yy_X12_enter wm_X12_492 (kl hN (by decide)) hm rfl rfl rfl rfl (Nat.le_of_ble_eq_true rfl) (by decide) (by decide) ⟨by decide, by decide⟩ dX12_compileFactor_54 (fun w50 hp50 => ?_)
      obtain ⟨hT50, hf50⟩ := hp50
      obtain ⟨u50, hu50, hKr50, hQ_50, h25_50, hs50⟩ := hT50
      obtain ⟨st_51, est_51⟩ : ∃ z : PS, z = adP bt n st := ⟨_, rfl⟩
      rw [← est_51] at hKr50 hQ_50
      have h18r50 := hKr50.1
      have h22r50 := hKr50.2.1
      have hrgr50 := hKr50.2.2.1
      have hcbr50 := hKr50.cb
      have hzir50 : st_51.1 = 0 := by rw [est_51]; exact ad_c.mpr (by omega)
      have hzzr50 : st_51.1 = 0 := by omega
      have hq0r50 := hKr50.2.2.2.1 hzzr50
      have henr50 := enM_b (bt := bt) hq0r50.2.2.2
      refine k_aload_n hC dX12_compileFactor_57 rfl 0 rfl ?_
      refine k_get hC fd_X12_386 (kl hN (by decide)) hu50 rfl dX12_compileFactor_58 ?_
      refine k_topv (vI 0) (congrArg vI (by omega)) ?_
      refine k_if_ne hC 68 dX12_compileFactor_61 rfl (by omega) (fun c_61 => absurd c_61 (by omega)) (fun c_61 => ?_)
      refine k_aload_n hC dX12_compileFactor_64 rfl 0 rfl ?_
      have h_52 : w50 145 = rA G 6 7 (fun j => some (kadK G (nmI j))) := (hf50 145 (by decide)).trans h145
      have h_53 : w50 144 = iA G 700 bt := (hf50 144 (by decide)).trans h144
      refine k_muvV hC (c_X12_compileTest_0 l hls G hN w50 fl u50 bt n st_51 L V hn2 hQ_50 (by rw [est_51]; exact hl_ad hle0 hL) h_52 h25_50 hn7 hb hu50 h_53 hKr50) yy_X12_compileTest wm_X12_498 (kl hN (by decide)) hu50 rfl rfl rfl rfl (Nat.le_of_ble_eq_true rfl) (by decide) (by decide) ⟨by decide, by decide⟩ dX12_compileFactor_65 (fun w54 hp54 => ?_)
      obtain ⟨hT54, hf54⟩ := hp54
      obtain ⟨u54, hu54, hKr54, hQ_54, h25_54, hs54⟩ := hT54
      obtain ⟨st_55, est_55⟩ : ∃ z : PS, z = (tstM bt n (qF V bt n 0) st_51).1 := ⟨_, rfl⟩
      rw [← est_55] at hKr54 hQ_54
      have h18r54 := hKr54.1
      have h22r54 := hKr54.2.1
      have hrgr54 := hKr54.2.2.1
      have hcbr54 := hKr54.cb
      refine k_aload_n hC dX12_compileFactor_68 rfl 0 rfl ?_
      refine k_bipush hC dX12_compileFactor_69 (by decide) ?_
      have h_57 : w54 144 = iA G 700 bt := (hf54 144 (by decide)).trans h_53
      refine k_muvV hC (c_X12_expect l hls G hN w54 fl u54 bt n st_55 41 (by omega) hn7 hb hu54 h_57 hKr54) yy_X12_expect wm_X12_471 (kl hN (by decide)) hu54 rfl rfl rfl rfl (Nat.le_of_ble_eq_true rfl) (by decide) (by decide) ⟨by decide, by decide⟩ dX12_compileFactor_71 (fun w56 hp56 => ?_)
      obtain ⟨hT56, hf56⟩ := hp56
      obtain ⟨u56, hu56, hKr56, hs56⟩ := hT56
      obtain ⟨st_58, est_58⟩ : ∃ z : PS, z = nsP bt n 41 st_55 := ⟨_, rfl⟩
      rw [← est_58] at hKr56
      have h18r56 := hKr56.1
      have h22r56 := hKr56.2.1
      have hrgr56 := hKr56.2.2.1
      have hcbr56 := hKr56.cb
      have hQ_56 : qcW G w56 u56 st_58 (L ++ (tstM bt n (qF V bt n 0) st_51).2.1) := hQ_54.go (hs56 29 (by omega)) (hf56 146 (by decide)) (fun q => nsok (by rw [← est_58]; exact q))
      have h25_56 : u56 25 = 6 := (hs56 25 (by omega)).trans h25_54
      refine k_aload_n hC dX12_compileFactor_74 rfl 0 rfl ?_
      refine k_dup hC dX12_compileFactor_75 rfl ?_
      refine k_get hC fd_X12_389 (kl hN (by decide)) hu56 rfl dX12_compileFactor_76 ?_
      refine k_topv (vI 6) (congrArg vI (by omega)) ?_
      refine k_iconst hC dX12_compileFactor_79 ?_
      refine k_isub hC dX12_compileFactor_80 ?_
      refine k_topv (vI 5) (congrArg vI (by decide)) ?_
      refine k_put hC fd_X12_389 (kl hN (by decide)) hu56 [.ref (kad G 134), .ref (kad G 135), .ref (kad G 136), .ref (kad G 137), vI (u56 4), vI (u56 5), vI (u56 6), .ref (kad G 138), .ref (kad G 139), .ref (kad G 140), .ref (kad G 141), .ref (kad G 142), vL (u56 12), vL (u56 13), .ref (kad G 143), vI (u56 15), .ref (kad G 144), vI (u56 17), vI (u56 18), vI (u56 19), vI (u56 20), vI (u56 21), vI (u56 22), vI (u56 23), vI (u56 24), vI 5, .ref (kad G 145), .ref (kad G 146), .ref (kad G 147), vI (u56 29)] rfl (Nat.le_of_ble_eq_true rfl) rfl rfl dX12_compileFactor_81 (fun w59 hw59 hf59 => ?_)
      have hKp60 : mkR (kup u56 25 5) bt n st_58 := hKr56.kup25
      have hQ_60 : qcW G w59 (kup u56 25 5) st_58 (L ++ (tstM bt n (qF V bt n 0) st_51).2.1) := hQ_56.go rfl (hf59 146 (by decide)) (fun q => q)
      have h25_60 : (kup u56 25 5) 25 = 5 := rfl
      have h18p60 := hKp60.1
      have h22p60 := hKp60.2.1
      have hrgp60 := hKp60.2.2.1
      have hcbp60 := hKp60.cb
      refine k_goto hC 160 dX12_compileFactor_84 rfl ?_
      subst hQ
      exact k_vret hC hr ⟨by decide, by decide⟩ (⟨rfl, rfl, ⟨(kup u56 25 5), hw59, (by have e : st_58 = (qF V bt n 1 st).1 := (by rw [qF_p hw31 hw40]; show st_58 = nsP bt n 41 (tstM bt n (qF V bt n 0) (adP bt n st)).1; rw [← est_51, ← est_55]; exact est_58); rw [← e]; exact hKp60), (by have e : st_58 = (qF V bt n 1 st).1 := (by rw [qF_p hw31 hw40]; show st_58 = nsP bt n 41 (tstM bt n (qF V bt n 0) (adP bt n st)).1; rw [← est_51, ← est_55]; exact est_58); rw [← e]; exact hQ_60.cg (fun q => by rw [qF_p hw31 hw40, ← est_51]; rfl)), h25_60, (uQ.tr (uQ.tr (uQ.tr (uQ.tr uQ.rf hs50) hs54) (uS.q hs56)) uQ.put25)⟩, fun j hj => (hf59 j (by omega)).trans ((hf56 j (by omega)).trans ((hf54 j (by omega)).trans (hf50 j (by omega))))⟩) dX12_compileFactor_160
  · have hw31 : isW bt n 31 st := (hz_1.resolve_right (fun q1 => by omega)).2
    have hz0 := hw31.1
    have hzz : st.1 = 0 := by omega
    have hq0 := hK.2.2.2.1 hzz
    have hen := enM_b (bt := bt) hq0.2.2.2
    refine k_aload_n hC dX12_compileFactor_10 rfl 0 rfl ?_
    refine k_muvV hC (c_X12_enter_5 l hls G hN w fl u bt n st L (by omega) hn2 hqc hL h145 h25 hn7 hb hm h144 hK) yy_X12_enter wm_X12_492 (kl hN (by decide)) hm rfl rfl rfl rfl (Nat.le_of_ble_eq_true rfl) (by decide) (by decide) ⟨by decide, by decide⟩ dX12_compileFactor_11 (fun w61 hp61 => ?_)
    obtain ⟨hT61, hf61⟩ := hp61
    obtain ⟨u61, hu61, hKr61, hQ_61, h25_61, hs61⟩ := hT61
    obtain ⟨st_62, est_62⟩ : ∃ z : PS, z = adP bt n st := ⟨_, rfl⟩
    rw [← est_62] at hKr61 hQ_61
    have h18r61 := hKr61.1
    have h22r61 := hKr61.2.1
    have hrgr61 := hKr61.2.2.1
    have hcbr61 := hKr61.cb
    have hzir61 : st_62.1 = 0 := by rw [est_62]; exact ad_c.mpr (by omega)
    have hzzr61 : st_62.1 = 0 := by omega
    have hq0r61 := hKr61.2.2.2.1 hzzr61
    have henr61 := enM_b (bt := bt) hq0r61.2.2.2
    refine k_aload_n hC dX12_compileFactor_14 rfl 0 rfl ?_
    refine k_get hC fd_X12_386 (kl hN (by decide)) hu61 rfl dX12_compileFactor_15 ?_
    refine k_topv (vI 0) (congrArg vI (by omega)) ?_
    refine k_if_ne hC 25 dX12_compileFactor_18 rfl (by omega) (fun c_18 => absurd c_18 (by omega)) (fun c_18 => ?_)
    refine k_aload_n hC dX12_compileFactor_21 rfl 0 rfl ?_
    have h_63 : w61 145 = rA G 6 7 (fun j => some (kadK G (nmI j))) := (hf61 145 (by decide)).trans h145
    have h_64 : w61 144 = iA G 700 bt := (hf61 144 (by decide)).trans h144
    refine k_muvV hC (c_X12_compileFactor_0 l hls G hN w61 fl u61 bt n st_62 L V hn2 hQ_61 (by rw [est_62]; exact hl_ad hle0 hL) h_63 h25_61 hn7 hb hu61 h_64 hKr61) yy_X12_compileFactor wm_X12_495 (kl hN (by decide)) hu61 rfl rfl rfl rfl (Nat.le_of_ble_eq_true rfl) (by decide) (by decide) ⟨by decide, by decide⟩ dX12_compileFactor_22 (fun w65 hp65 => ?_)
    obtain ⟨hT65, hf65⟩ := hp65
    obtain ⟨u65, hu65, hKr65, hQ_65, h25_65, hs65⟩ := hT65
    obtain ⟨st_66, est_66⟩ : ∃ z : PS, z = (qF V bt n 0 st_62).1 := ⟨_, rfl⟩
    rw [← est_66] at hKr65 hQ_65
    have h18r65 := hKr65.1
    have h22r65 := hKr65.2.1
    have hrgr65 := hKr65.2.2.1
    have hcbr65 := hKr65.cb
    refine k_aload_n hC dX12_compileFactor_25 rfl 0 rfl ?_
    refine k_bipush hC dX12_compileFactor_26 (by decide) ?_
    have h_68 : w65 144 = iA G 700 bt := (hf65 144 (by decide)).trans h_64
    refine k_muvV hC (c_X12_emit l hls G hN w65 fl u65 bt n st_66 (L ++ (qF V bt n 0 st_62).2.1) (-23) (by rw [est_66]; rw [est_62]; exact lt_not hn2 hle0 hL (isW_go hw31) (gq_qF 0 _)) hn2 hQ_65 hn7 hb hu65 h_68 hKr65) yy_X12_emit wm_X12_487 (kl hN (by decide)) hu65 rfl rfl rfl rfl (Nat.le_of_ble_eq_true rfl) (by decide) (by decide) ⟨by decide, by decide⟩ dX12_compileFactor_28 (fun w67 hp67 => ?_)
    obtain ⟨⟨u67, hu67, hKr67, hQ_67, hs67⟩, hf67⟩ := hp67
    have h18r67 := hKr67.1
    have h22r67 := hKr67.2.1
    have hrgr67 := hKr67.2.2.1
    have hcbr67 := hKr67.cb
    have h25_67 : u67 25 = 6 := (hs67 25 (by decide)).trans h25_65
    refine k_aload_n hC dX12_compileFactor_31 rfl 0 rfl ?_
    refine k_dup hC dX12_compileFactor_32 rfl ?_
    refine k_get hC fd_X12_389 (kl hN (by decide)) hu67 rfl dX12_compileFactor_33 ?_
    refine k_topv (vI 6) (congrArg vI (by omega)) ?_
    refine k_iconst hC dX12_compileFactor_36 ?_
    refine k_isub hC dX12_compileFactor_37 ?_
    refine k_topv (vI 5) (congrArg vI (by decide)) ?_
    refine k_put hC fd_X12_389 (kl hN (by decide)) hu67 [.ref (kad G 134), .ref (kad G 135), .ref (kad G 136), .ref (kad G 137), vI (u67 4), vI (u67 5), vI (u67 6), .ref (kad G 138), .ref (kad G 139), .ref (kad G 140), .ref (kad G 141), .ref (kad G 142), vL (u67 12), vL (u67 13), .ref (kad G 143), vI (u67 15), .ref (kad G 144), vI (u67 17), vI (u67 18), vI (u67 19), vI (u67 20), vI (u67 21), vI (u67 22), vI (u67 23), vI (u67 24), vI 5, .ref (kad G 145), .ref (kad G 146), .ref (kad G 147), vI (u67 29)] rfl (Nat.le_of_ble_eq_true rfl) rfl rfl dX12_compileFactor_38 (fun w69 hw69 hf69 => ?_)
    have hKp70 : mkR (kup u67 25 5) bt n st_66 := hKr67.kup25
    have hQ_70 : qcW G w69 (kup u67 25 5) st_66 (L ++ (qF V bt n 0 st_62).2.1 ++ [-23]) := hQ_67.go rfl (hf69 146 (by decide)) (fun q => q)
    have h25_70 : (kup u67 25 5) 25 = 5 := rfl
    have h18p70 := hKp70.1
    have h22p70 := hKp70.2.1
    have hrgp70 := hKp70.2.2.1
    have hcbp70 := hKp70.cb
    refine k_goto hC 160 dX12_compileFactor_41 rfl ?_
    subst hQ
    exact k_vret hC hr ⟨by decide, by decide⟩ (⟨rfl, rfl, ⟨(kup u67 25 5), hw69, (by have e : st_66 = (qF V bt n 1 st).1 := (by rw [qF_n hw31]; show st_66 = (qF V bt n 0 (adP bt n st)).1; rw [← est_62]; exact est_66); rw [← e]; exact hKp70), (by have e : st_66 = (qF V bt n 1 st).1 := (by rw [qF_n hw31]; show st_66 = (qF V bt n 0 (adP bt n st)).1; rw [← est_62]; exact est_66); rw [← e]; exact hQ_70.cg (fun q => by rw [qF_n hw31, ← est_62]; show _ = L ++ ((qF V bt n 0 st_62).2.1 ++ [-23]); rw [List.append_assoc])), h25_70, (uQ.tr (uQ.tr (uQ.tr (uQ.tr uQ.rf hs61) hs65) (uQ.e29 hs67)) uQ.put25)⟩, fun j hj => (hf69 j (by omega)).trans ((hf67 j (by omega)).trans ((hf65 j (by omega)).trans (hf61 j (by omega))))⟩) dX12_compileFactor_160

set_option maxRecDepth 100000 in
set_option maxHeartbeats 4000000 in
theorem c_X12_compileConjunction_1 (l : Launch) (hls : l.stackTraces = false) (G : kG) (hN : kN G = 150) (w : Nat → va_E) (fl : va_W) (u bt : Nat → Int) (n : Nat) (st : PS) (L : List Int) (V : Int → Nat → Int) (hn2 : n ≤ 200) (hqc : qcW G w u st L) (hL : st.1 = 0 → L.length ≤ st.2.2) (h145 : w 145 = nmA G) (h25 : u 25 = 5) (hn7 : n ≤ 700) (hb : btOK bt) (hm : w 133 = mdO G u) (h144 : w 144 = iA G 700 bt) (hK : mkR u bt n st) : KM l G yX12_compileConjunction cX12_compileConjunction 1 (none) 10 0 0 [.ref (kad G 133)] w fl (kMuv fl (fun w1 => (∃ u1, w1 133 = mdO G u1 ∧ mkR u1 bt n ((conM bt n (qF V bt n 1) st).1) ∧ qcW G w1 u1 ((conM bt n (qF V bt n 1) st).1) (L ++ (conM bt n (qF V bt n 1) st).2.1) ∧ u1 25 = 5 ∧ uQ u u1) ∧ ∀ j, (j ≠ 133 ∧ j ≠ 146) → w1 j = w j)) := by
  refine KM_of2 hls (by decide +kernel) rfl (lv0 := [(0, .ref (kad G 133))]) rfl (Nat.le_of_ble_eq_true rfl) (fun p e R s m args below meth c Q hC hr hQ => ?_)
  have h18 := hK.1
  have h22 := hK.2.1
  have hrg := hK.2.2.1
  have hcb := hK.cb
  have hk0 := hK.2.2.2.1
  have hk1 := hK.2.2.2.2.1
  have hdg := hK.2.2.2.2.2
  have hle0 := hK.le
  refine k_aload_n hC dX12_compileConjunction_0 rfl 0 rfl ?_
  refine k_muvV hC (c_X12_compileFactor_1 l hls G hN w fl u bt n st L V hn2 hqc hL h145 h25 hn7 hb hm h144 hK) yy_X12_compileFactor wm_X12_495 (kl hN (by decide)) hm rfl rfl rfl rfl (Nat.le_of_ble_eq_true rfl) (by decide) (by decide) ⟨by decide, by decide⟩ dX12_compileConjunction_1 (fun w1 hp1 => ?_)
  obtain ⟨hT1, hf1⟩ := hp1
  obtain ⟨u1, hu1, hKr1, hQ_1, h25_1, hs1⟩ := hT1
  obtain ⟨st_2, est_2⟩ : ∃ z : PS, z = (qF V bt n 1 st).1 := ⟨_, rfl⟩
  rw [← est_2] at hKr1 hQ_1
  have h18r1 := hKr1.1
  have h22r1 := hKr1.2.1
  have hrgr1 := hKr1.2.2.1
  have hcbr1 := hKr1.cb
  have loopw : ∀ (nw : Nat) (k : Nat) (rr : QR) (st9 : PS) (u1 : Nat → Int) (wvw : Nat → va_E), (n < nw + k) → (k ≤ n) → (rr = cjN bt n 37 (-24) (qF V bt n 1) k (qF V bt n 1 st)) → (st9 = rr.1) → (mkR u1 bt n st9) → (qcW G wvw u1 st9 (L ++ rr.2.1)) → (u1 25 = 5) → (uQ u u1) → (wvw 133 = .inr (12, [.ref (kad G 134), .ref (kad G 135), .ref (kad G 136), .ref (kad G 137), vI (u1 4), vI (u1 5), vI (u1 6), .ref (kad G 138), .ref (kad G 139), .ref (kad G 140), .ref (kad G 141), .ref (kad G 142), vL (u1 12), vL (u1 13), .ref (kad G 143), vI (u1 15), .ref (kad G 144), vI (u1 17), vI (u1 18), vI (u1 19), vI (u1 20), vI (u1 21), vI (u1 22), vI (u1 23), vI (u1 24), vI (u1 25), .ref (kad G 145), .ref (kad G 146), .ref (kad G 147), vI (u1 29)])) → (wvw 144 = iA G 700 bt) → (wvw 145 = rA G 6 7 (fun j => some (kadK G (nmI j)))) → ((∀ j, (j ≠ 133 ∧ j ≠ 146) → wvw j = w j)) → KW p l e R s m args below meth c 1 G Q wvw fl 0 0 4 [(0, .ref (kad G 133))] [] := by
    intro nw
    induction nw with
    | zero =>
      intro k rr st9 u1 wvw hn_w hk9 hx hst9 hKv hqv h25v husv hm1 h144 h145 hfrw
      exact absurd hn_w (by omega)
    | succ nw ihw =>
      intro k rr st9 u1 wvw hn_w hk9 hx hst9 hKv hqv h25v husv hm1 h144 h145 hfrw
      have h18v := hKv.1
      have h22v := hKv.2.1
      have hrgv := hKv.2.2.1
      have hcbv := hKv.cb
      have hgq : gq V n st rr := by rw [hx]; exact gq_cjN (Or.inl rfl) (gq_qF 1) k _ (gq_qF 1 st)
      refine k_aload_n hC dX12_compileConjunction_4 rfl 0 rfl ?_
      refine k_ldcsw hC (List.mem_of_getElem? (i := 56) rfl) dX12_compileConjunction_5 ?_
      refine k_mutV hC (c_X12_accept l hls G hN wvw fl u1 bt n st9 37 (by decide) hn7 hb hm1 h144 hKv) yy_X12_accept wm_X12_447 (kl hN (by decide)) hm1 rfl rfl rfl rfl (Nat.le_of_ble_eq_true rfl) (by decide) (by decide) ⟨by decide, by decide⟩ dX12_compileConjunction_8 (fun w3 hp3 => ?_)
      obtain ⟨hT3, hf3⟩ := hp3
      by_cases hw_3 : isW bt n 37 st9
      · rw [selP_1 hw_3] at hT3
        refine k_topv (vI 1) (congrArg vI (selI_1 hw_3)) ?_
        have hwz_3 := hw_3.1
        obtain ⟨u3, hu3, hKr3, hs3⟩ := hT3
        obtain ⟨st_4, est_4⟩ : ∃ z : PS, z = adP bt n st9 := ⟨_, rfl⟩
        rw [← est_4] at hKr3
        have h18r3 := hKr3.1
        have h22r3 := hKr3.2.1
        have hrgr3 := hKr3.2.2.1
        have hcbr3 := hKr3.cb
        have hzir3 : st_4.1 = 0 := by rw [est_4]; exact ad_c.mpr (by omega)
        have hzzr3 : st_4.1 = 0 := by omega
        have hq0r3 := hKr3.2.2.2.1 hzzr3
        have henr3 := enM_b (bt := bt) hq0r3.2.2.2
        have hQ_3 : qcW G w3 u3 st_4 (L ++ rr.2.1) := hqv.go (hs3 29 (by omega)) (hf3 146 (by decide)) (fun q => ad_c.mp (by rw [← est_4]; exact q))
        have h25_3 : u3 25 = 5 := (hs3 25 (by omega)).trans h25v
        refine k_if_eq hC 27 dX12_compileConjunction_11 rfl (by omega) (fun c_11 => absurd c_11 (by omega)) (fun c_11 => ?_)
        refine k_aload_n hC dX12_compileConjunction_14 rfl 0 rfl ?_
        have h_5 : w3 145 = rA G 6 7 (fun j => some (kadK G (nmI j))) := (hf3 145 (by decide)).trans h145
        have h_6 : w3 144 = iA G 700 bt := (hf3 144 (by decide)).trans h144
        refine k_muvV hC (c_X12_compileFactor_1 l hls G hN w3 fl u3 bt n st_4 (L ++ rr.2.1) V hn2 hQ_3 (by rw [est_4]; exact hl_ad hKv.le (by rw [hst9]; exact hl_gq hle0 hL hgq)) h_5 h25_3 hn7 hb hu3 h_6 hKr3) yy_X12_compileFactor wm_X12_495 (kl hN (by decide)) hu3 rfl rfl rfl rfl (Nat.le_of_ble_eq_true rfl) (by decide) (by decide) ⟨by decide, by decide⟩ dX12_compileConjunction_15 (fun w7 hp7 => ?_)
        obtain ⟨hT7, hf7⟩ := hp7
        obtain ⟨u7, hu7, hKr7, hQ_7, h25_7, hs7⟩ := hT7
        obtain ⟨st_8, est_8⟩ : ∃ z : PS, z = (qF V bt n 1 st_4).1 := ⟨_, rfl⟩
        rw [← est_8] at hKr7 hQ_7
        have h18r7 := hKr7.1
        have h22r7 := hKr7.2.1
        have hrgr7 := hKr7.2.2.1
        have hcbr7 := hKr7.cb
        have hwr : isW bt n 37 rr.1 := by rw [← hst9]; exact hw_3
        refine k_aload_n hC dX12_compileConjunction_18 rfl 0 rfl ?_
        refine k_bipush hC dX12_compileConjunction_19 (by decide) ?_
        have h_10 : w7 144 = iA G 700 bt := (hf7 144 (by decide)).trans h_6
        refine k_muvV hC (c_X12_emit l hls G hN w7 fl u7 bt n st_8 (L ++ rr.2.1 ++ (qF V bt n 1 st_4).2.1) (-24) (by rw [est_8, est_4, hst9]; exact lt_and (V := V) (Or.inl rfl) hn2 hle0 hL (isW_go hwr) hgq (gq_qF 1 _)) hn2 hQ_7 hn7 hb hu7 h_10 hKr7) yy_X12_emit wm_X12_487 (kl hN (by decide)) hu7 rfl rfl rfl rfl (Nat.le_of_ble_eq_true rfl) (by decide) (by decide) ⟨by decide, by decide⟩ dX12_compileConjunction_21 (fun w9 hp9 => ?_)
        obtain ⟨⟨u9, hu9, hKr9, hQ_9, hs9⟩, hf9⟩ := hp9
        have h18r9 := hKr9.1
        have h22r9 := hKr9.2.1
        have hrgr9 := hKr9.2.2.1
        have hcbr9 := hKr9.cb
        have h25_9 : u9 25 = 5 := (hs9 25 (by decide)).trans h25_7
        refine k_goto hC 4 dX12_compileConjunction_24 rfl ?_
        have h_11 : w9 144 = iA G 700 bt := (hf9 144 (by decide)).trans h_10
        have h_12 : w9 145 = rA G 6 7 (fun j => some (kadK G (nmI j))) := (hf9 145 (by decide)).trans ((hf7 145 (by decide)).trans h_5)
        exact ihw (k + 1) (and2 (-24) rr (qF V bt n 1 st_4)) st_8 u9 w9 (by omega) (by have h8 := cjN_pos hle0 (Or.inl rfl) (gq_qF 1) k _ (gq_qF 1 st) (by rw [← hx]; exact hwr); rw [← hx] at h8; have h9 := enM_lt9 (bt := bt) (n := n) (s := rr.1.2.2) (by rw [hwr.2.1]; decide); omega) (by rw [cjN_go k _ (by rw [← hx]; exact hwr), ← hx, est_4, hst9]) est_8 hKr9 (hQ_9.cg (fun _ => by show _ = L ++ (rr.2.1 ++ (qF V bt n 1 st_4).2.1 ++ [-24]); simp only [List.append_assoc])) h25_9 (uQ.tr (uQ.tr (uQ.tr husv (uS.q hs3)) hs7) (uQ.e29 hs9)) hu9 h_11 h_12 (fun j hj => (hf9 j (by omega)).trans ((hf7 j (by omega)).trans ((hf3 j (by omega)).trans (hfrw j (by omega)))))
      · rw [selP_0 hw_3] at hT3
        refine k_topv (vI 0) (congrArg vI (selI_0 hw_3)) ?_
        obtain ⟨u3, hu3, hKr3, hs3⟩ := hT3
        have h18r3 := hKr3.1
        have h22r3 := hKr3.2.1
        have hrgr3 := hKr3.2.2.1
        have hcbr3 := hKr3.cb
        have hQ_3 : qcW G w3 u3 st9 (L ++ rr.2.1) := hqv.go (hs3 29 (by omega)) (hf3 146 (by decide)) (fun q => q)
        have h25_3 : u3 25 = 5 := (hs3 25 (by omega)).trans h25v
        refine k_if_eq hC 27 dX12_compileConjunction_11 rfl (by omega) (fun c_11 => ?_) (fun c_11 => absurd c_11 (by omega))
        have hfin : rr = conM bt n (qF V bt n 1) st := by rw [hx]; exact cjN_eq (by rw [← hx, ← hst9]; exact hw_3) (cjN_end hn2 hle0 (Or.inl rfl) (gq_qF 1) (gq_qF 1 st))
        subst hQ
        exact k_vret hC hr ⟨by decide, by decide⟩ (⟨rfl, rfl, ⟨u3, hu3, (by have e : st9 = (conM bt n (qF V bt n 1) st).1 := (by rw [← hfin]; exact hst9); rw [← e]; exact hKr3), (by have e : st9 = (conM bt n (qF V bt n 1) st).1 := (by rw [← hfin]; exact hst9); rw [← e]; exact hQ_3.cg (fun q => by rw [← hfin])), h25_3, (uQ.tr husv (uS.q hs3))⟩, fun j hj => (hf3 j (by omega)).trans (hfrw j (by omega))⟩) dX12_compileConjunction_27
  have h_13 : w1 144 = iA G 700 bt := (hf1 144 (by decide)).trans h144
  have h_14 : w1 145 = rA G 6 7 (fun j => some (kadK G (nmI j))) := (hf1 145 (by decide)).trans h145
  exact loopw (n + 1) 0 (qF V bt n 1 st) st_2 u1 w1 (by omega) (by omega) rfl est_2 hKr1 hQ_1 h25_1 (uQ.tr uQ.rf hs1) hu1 h_13 h_14 (fun j hj => hf1 j (by omega))

set_option maxRecDepth 100000 in
set_option maxHeartbeats 4000000 in
theorem c_X12_compileTest_1 (l : Launch) (hls : l.stackTraces = false) (G : kG) (hN : kN G = 150) (w : Nat → va_E) (fl : va_W) (u bt : Nat → Int) (n : Nat) (st : PS) (L : List Int) (V : Int → Nat → Int) (hn2 : n ≤ 200) (hqc : qcW G w u st L) (hL : st.1 = 0 → L.length ≤ st.2.2) (h145 : w 145 = nmA G) (h25 : u 25 = 5) (hn7 : n ≤ 700) (hb : btOK bt) (hm : w 133 = mdO G u) (h144 : w 144 = iA G 700 bt) (hK : mkR u bt n st) : KM l G yX12_compileTest cX12_compileTest 1 (none) 11 0 0 [.ref (kad G 133)] w fl (kMuv fl (fun w1 => (∃ u1, w1 133 = mdO G u1 ∧ mkR u1 bt n ((tstM bt n (qF V bt n 1) st).1) ∧ qcW G w1 u1 ((tstM bt n (qF V bt n 1) st).1) (L ++ (tstM bt n (qF V bt n 1) st).2.1) ∧ u1 25 = 5 ∧ uQ u u1) ∧ ∀ j, (j ≠ 133 ∧ j ≠ 146) → w1 j = w j)) := by
  refine KM_of2 hls (by decide +kernel) rfl (lv0 := [(0, .ref (kad G 133))]) rfl (Nat.le_of_ble_eq_true rfl) (fun p e R s m args below meth c Q hC hr hQ => ?_)
  have h18 := hK.1
  have h22 := hK.2.1
  have hrg := hK.2.2.1
  have hcb := hK.cb
  have hk0 := hK.2.2.2.1
  have hk1 := hK.2.2.2.2.1
  have hdg := hK.2.2.2.2.2
  have hle0 := hK.le
  refine k_aload_n hC dX12_compileTest_0 rfl 0 rfl ?_
  refine k_muvV hC (c_X12_compileConjunction_1 l hls G hN w fl u bt n st L V hn2 hqc hL h145 h25 hn7 hb hm h144 hK) yy_X12_compileConjunction wm_X12_506 (kl hN (by decide)) hm rfl rfl rfl rfl (Nat.le_of_ble_eq_true rfl) (by decide) (by decide) ⟨by decide, by decide⟩ dX12_compileTest_1 (fun w1 hp1 => ?_)
  obtain ⟨hT1, hf1⟩ := hp1
  obtain ⟨u1, hu1, hKr1, hQ_1, h25_1, hs1⟩ := hT1
  obtain ⟨st_2, est_2⟩ : ∃ z : PS, z = (conM bt n (qF V bt n 1) st).1 := ⟨_, rfl⟩
  rw [← est_2] at hKr1 hQ_1
  have h18r1 := hKr1.1
  have h22r1 := hKr1.2.1
  have hrgr1 := hKr1.2.2.1
  have hcbr1 := hKr1.cb
  have loopw : ∀ (nw : Nat) (k : Nat) (rr : QR) (st9 : PS) (u1 : Nat → Int) (wvw : Nat → va_E), (n < nw + k) → (k ≤ n) → (rr = cjN bt n 38 (-25) (conM bt n (qF V bt n 1)) k (conM bt n (qF V bt n 1) st)) → (st9 = rr.1) → (mkR u1 bt n st9) → (qcW G wvw u1 st9 (L ++ rr.2.1)) → (u1 25 = 5) → (uQ u u1) → (wvw 133 = .inr (12, [.ref (kad G 134), .ref (kad G 135), .ref (kad G 136), .ref (kad G 137), vI (u1 4), vI (u1 5), vI (u1 6), .ref (kad G 138), .ref (kad G 139), .ref (kad G 140), .ref (kad G 141), .ref (kad G 142), vL (u1 12), vL (u1 13), .ref (kad G 143), vI (u1 15), .ref (kad G 144), vI (u1 17), vI (u1 18), vI (u1 19), vI (u1 20), vI (u1 21), vI (u1 22), vI (u1 23), vI (u1 24), vI (u1 25), .ref (kad G 145), .ref (kad G 146), .ref (kad G 147), vI (u1 29)])) → (wvw 144 = iA G 700 bt) → (wvw 145 = rA G 6 7 (fun j => some (kadK G (nmI j)))) → ((∀ j, (j ≠ 133 ∧ j ≠ 146) → wvw j = w j)) → KW p l e R s m args below meth c 1 G Q wvw fl 0 0 4 [(0, .ref (kad G 133))] [] := by
    intro nw
    induction nw with
    | zero =>
      intro k rr st9 u1 wvw hn_w hk9 hx hst9 hKv hqv h25v husv hm1 h144 h145 hfrw
      exact absurd hn_w (by omega)
    | succ nw ihw =>
      intro k rr st9 u1 wvw hn_w hk9 hx hst9 hKv hqv h25v husv hm1 h144 h145 hfrw
      have h18v := hKv.1
      have h22v := hKv.2.1
      have hrgv := hKv.2.2.1
      have hcbv := hKv.cb
      have hgq : gq V n st rr := by rw [hx]; exact gq_cjN (Or.inr rfl) (gq_con (gq_qF 1)) k _ (gq_con (gq_qF 1) st)
      refine k_aload_n hC dX12_compileTest_4 rfl 0 rfl ?_
      refine k_ldcsw hC (List.mem_of_getElem? (i := 57) rfl) dX12_compileTest_5 ?_
      refine k_mutV hC (c_X12_accept l hls G hN wvw fl u1 bt n st9 38 (by decide) hn7 hb hm1 h144 hKv) yy_X12_accept wm_X12_447 (kl hN (by decide)) hm1 rfl rfl rfl rfl (Nat.le_of_ble_eq_true rfl) (by decide) (by decide) ⟨by decide, by decide⟩ dX12_compileTest_8 (fun w3 hp3 => ?_)
      obtain ⟨hT3, hf3⟩ := hp3
      by_cases hw_3 : isW bt n 38 st9
      · rw [selP_1 hw_3] at hT3
        refine k_topv (vI 1) (congrArg vI (selI_1 hw_3)) ?_
        have hwz_3 := hw_3.1
        obtain ⟨u3, hu3, hKr3, hs3⟩ := hT3
        obtain ⟨st_4, est_4⟩ : ∃ z : PS, z = adP bt n st9 := ⟨_, rfl⟩
        rw [← est_4] at hKr3
        have h18r3 := hKr3.1
        have h22r3 := hKr3.2.1
        have hrgr3 := hKr3.2.2.1
        have hcbr3 := hKr3.cb
        have hzir3 : st_4.1 = 0 := by rw [est_4]; exact ad_c.mpr (by omega)
        have hzzr3 : st_4.1 = 0 := by omega
        have hq0r3 := hKr3.2.2.2.1 hzzr3
        have henr3 := enM_b (bt := bt) hq0r3.2.2.2
        have hQ_3 : qcW G w3 u3 st_4 (L ++ rr.2.1) := hqv.go (hs3 29 (by omega)) (hf3 146 (by decide)) (fun q => ad_c.mp (by rw [← est_4]; exact q))
        have h25_3 : u3 25 = 5 := (hs3 25 (by omega)).trans h25v
        refine k_if_eq hC 27 dX12_compileTest_11 rfl (by omega) (fun c_11 => absurd c_11 (by omega)) (fun c_11 => ?_)
        refine k_aload_n hC dX12_compileTest_14 rfl 0 rfl ?_
        have h_5 : w3 145 = rA G 6 7 (fun j => some (kadK G (nmI j))) := (hf3 145 (by decide)).trans h145
        have h_6 : w3 144 = iA G 700 bt := (hf3 144 (by decide)).trans h144
        refine k_muvV hC (c_X12_compileConjunction_1 l hls G hN w3 fl u3 bt n st_4 (L ++ rr.2.1) V hn2 hQ_3 (by rw [est_4]; exact hl_ad hKv.le (by rw [hst9]; exact hl_gq hle0 hL hgq)) h_5 h25_3 hn7 hb hu3 h_6 hKr3) yy_X12_compileConjunction wm_X12_506 (kl hN (by decide)) hu3 rfl rfl rfl rfl (Nat.le_of_ble_eq_true rfl) (by decide) (by decide) ⟨by decide, by decide⟩ dX12_compileTest_15 (fun w7 hp7 => ?_)
        obtain ⟨hT7, hf7⟩ := hp7
        obtain ⟨u7, hu7, hKr7, hQ_7, h25_7, hs7⟩ := hT7
        obtain ⟨st_8, est_8⟩ : ∃ z : PS, z = (conM bt n (qF V bt n 1) st_4).1 := ⟨_, rfl⟩
        rw [← est_8] at hKr7 hQ_7
        have h18r7 := hKr7.1
        have h22r7 := hKr7.2.1
        have hrgr7 := hKr7.2.2.1
        have hcbr7 := hKr7.cb
        have hwr : isW bt n 38 rr.1 := by rw [← hst9]; exact hw_3
        refine k_aload_n hC dX12_compileTest_18 rfl 0 rfl ?_
        refine k_bipush hC dX12_compileTest_19 (by decide) ?_
        have h_10 : w7 144 = iA G 700 bt := (hf7 144 (by decide)).trans h_6
        refine k_muvV hC (c_X12_emit l hls G hN w7 fl u7 bt n st_8 (L ++ rr.2.1 ++ (conM bt n (qF V bt n 1) st_4).2.1) (-25) (by rw [est_8, est_4, hst9]; exact lt_and (V := V) (Or.inr rfl) hn2 hle0 hL (isW_go hwr) hgq (gq_con (gq_qF 1) _)) hn2 hQ_7 hn7 hb hu7 h_10 hKr7) yy_X12_emit wm_X12_487 (kl hN (by decide)) hu7 rfl rfl rfl rfl (Nat.le_of_ble_eq_true rfl) (by decide) (by decide) ⟨by decide, by decide⟩ dX12_compileTest_21 (fun w9 hp9 => ?_)
        obtain ⟨⟨u9, hu9, hKr9, hQ_9, hs9⟩, hf9⟩ := hp9
        have h18r9 := hKr9.1
        have h22r9 := hKr9.2.1
        have hrgr9 := hKr9.2.2.1
        have hcbr9 := hKr9.cb
        have h25_9 : u9 25 = 5 := (hs9 25 (by decide)).trans h25_7
        refine k_goto hC 4 dX12_compileTest_24 rfl ?_
        have h_11 : w9 144 = iA G 700 bt := (hf9 144 (by decide)).trans h_10
        have h_12 : w9 145 = rA G 6 7 (fun j => some (kadK G (nmI j))) := (hf9 145 (by decide)).trans ((hf7 145 (by decide)).trans h_5)
        exact ihw (k + 1) (and2 (-25) rr (conM bt n (qF V bt n 1) st_4)) st_8 u9 w9 (by omega) (by have h8 := cjN_pos hle0 (Or.inr rfl) (gq_con (gq_qF 1)) k _ (gq_con (gq_qF 1) st) (by rw [← hx]; exact hwr); rw [← hx] at h8; have h9 := enM_lt9 (bt := bt) (n := n) (s := rr.1.2.2) (by rw [hwr.2.1]; decide); omega) (by rw [cjN_go k _ (by rw [← hx]; exact hwr), ← hx, est_4, hst9]) est_8 hKr9 (hQ_9.cg (fun _ => by show _ = L ++ (rr.2.1 ++ (conM bt n (qF V bt n 1) st_4).2.1 ++ [-25]); simp only [List.append_assoc])) h25_9 (uQ.tr (uQ.tr (uQ.tr husv (uS.q hs3)) hs7) (uQ.e29 hs9)) hu9 h_11 h_12 (fun j hj => (hf9 j (by omega)).trans ((hf7 j (by omega)).trans ((hf3 j (by omega)).trans (hfrw j (by omega)))))
      · rw [selP_0 hw_3] at hT3
        refine k_topv (vI 0) (congrArg vI (selI_0 hw_3)) ?_
        obtain ⟨u3, hu3, hKr3, hs3⟩ := hT3
        have h18r3 := hKr3.1
        have h22r3 := hKr3.2.1
        have hrgr3 := hKr3.2.2.1
        have hcbr3 := hKr3.cb
        have hQ_3 : qcW G w3 u3 st9 (L ++ rr.2.1) := hqv.go (hs3 29 (by omega)) (hf3 146 (by decide)) (fun q => q)
        have h25_3 : u3 25 = 5 := (hs3 25 (by omega)).trans h25v
        refine k_if_eq hC 27 dX12_compileTest_11 rfl (by omega) (fun c_11 => ?_) (fun c_11 => absurd c_11 (by omega))
        have hfin : rr = tstM bt n (qF V bt n 1) st := by rw [hx]; exact cjN_eq (by rw [← hx, ← hst9]; exact hw_3) (cjN_end hn2 hle0 (Or.inr rfl) (gq_con (gq_qF 1)) (gq_con (gq_qF 1) st))
        subst hQ
        exact k_vret hC hr ⟨by decide, by decide⟩ (⟨rfl, rfl, ⟨u3, hu3, (by have e : st9 = (tstM bt n (qF V bt n 1) st).1 := (by rw [← hfin]; exact hst9); rw [← e]; exact hKr3), (by have e : st9 = (tstM bt n (qF V bt n 1) st).1 := (by rw [← hfin]; exact hst9); rw [← e]; exact hQ_3.cg (fun q => by rw [← hfin])), h25_3, (uQ.tr husv (uS.q hs3))⟩, fun j hj => (hf3 j (by omega)).trans (hfrw j (by omega))⟩) dX12_compileTest_27
  have h_13 : w1 144 = iA G 700 bt := (hf1 144 (by decide)).trans h144
  have h_14 : w1 145 = rA G 6 7 (fun j => some (kadK G (nmI j))) := (hf1 145 (by decide)).trans h145
  exact loopw (n + 1) 0 (conM bt n (qF V bt n 1) st) st_2 u1 w1 (by omega) (by omega) rfl est_2 hKr1 hQ_1 h25_1 (uQ.tr uQ.rf hs1) hu1 h_13 h_14 (fun j hj => hf1 j (by omega))

set_option maxRecDepth 100000 in
set_option maxHeartbeats 4000000 in
theorem c_X12_compileFactor_2 (l : Launch) (hls : l.stackTraces = false) (G : kG) (hN : kN G = 150) (w : Nat → va_E) (fl : va_W) (u bt : Nat → Int) (n : Nat) (st : PS) (L : List Int) (V : Int → Nat → Int) (hn2 : n ≤ 200) (hqc : qcW G w u st L) (hL : st.1 = 0 → L.length ≤ st.2.2) (h145 : w 145 = nmA G) (h25 : u 25 = 4) (hn7 : n ≤ 700) (hb : btOK bt) (hm : w 133 = mdO G u) (h144 : w 144 = iA G 700 bt) (hK : mkR u bt n st) : KM l G yX12_compileFactor cX12_compileFactor 2 (none) 12 0 0 [.ref (kad G 133)] w fl (kMuv fl (fun w1 => (∃ u1, w1 133 = mdO G u1 ∧ mkR u1 bt n ((qF V bt n 2 st).1) ∧ qcW G w1 u1 ((qF V bt n 2 st).1) (L ++ (qF V bt n 2 st).2.1) ∧ u1 25 = 4 ∧ uQ u u1) ∧ ∀ j, (j ≠ 133 ∧ j ≠ 146) → w1 j = w j)) := by
  refine KM_of2 hls (by decide +kernel) rfl (lv0 := [(0, .ref (kad G 133))]) rfl (Nat.le_of_ble_eq_true rfl) (fun p e R s m args below meth c Q hC hr hQ => ?_)
  have h18 := hK.1
  have h22 := hK.2.1
  have hrg := hK.2.2.1
  have hcb := hK.cb
  have hk0 := hK.2.2.2.1
  have hk1 := hK.2.2.2.2.1
  have hdg := hK.2.2.2.2.2
  have hle0 := hK.le
  refine k_aload_n hC dX12_compileFactor_0 rfl 0 rfl ?_
  refine k_ldcsw hC (List.mem_of_getElem? (i := 55) rfl) dX12_compileFactor_1 ?_
  refine k_pureV hC (c_X12_isWord l hls G hN w fl u bt n st 31 (by decide) hn7 hb hm h144 hK) yy_X12_isWord wm_X12_409 (kl hN (by decide)) hm rfl rfl rfl rfl (Nat.le_of_ble_eq_true rfl) (by decide) (by decide) ⟨by decide, by decide⟩ dX12_compileFactor_4 ?_
  obtain ⟨z_1, ez_1, hz_1⟩ := selI_c (isW bt n 31 st)
  refine k_topv (vI z_1) (by rw [ez_1]) ?_
  refine k_if_eq hC 44 dX12_compileFactor_7 rfl (by omega) (fun c_7 => ?_) (fun c_7 => ?_)
  · have hw31 : ¬ isW bt n 31 st := (hz_1.resolve_left (fun q1 => by omega)).2
    refine k_aload_n hC dX12_compileFactor_44 rfl 0 rfl ?_
    refine k_bipush hC dX12_compileFactor_45 (by decide) ?_
    refine k_pureV hC (c_X12_isSymbol l hls G hN w fl u bt n st 40 (by omega) hn7 hb hm h144 hK) yy_X12_isSymbol wm_X12_420 (kl hN (by decide)) hm rfl rfl rfl rfl (Nat.le_of_ble_eq_true rfl) (by decide) (by decide) ⟨by decide, by decide⟩ dX12_compileFactor_47 ?_
    obtain ⟨z_2, ez_2, hz_2⟩ := selI_c (isS bt n 40 st)
    refine k_topv (vI z_2) (by rw [ez_2]) ?_
    refine k_if_eq hC 87 dX12_compileFactor_50 rfl (by omega) (fun c_50 => ?_) (fun c_50 => ?_)
    · have hw40 : ¬ isS bt n 40 st := (hz_2.resolve_left (fun q1 => by omega)).2
      have hqF := qF_c (V := V) 2 hw31 hw40
      refine k_aload_n hC dX12_compileFactor_87 rfl 0 rfl ?_
      refine k_muvV hC (c_X12_compileValue l hls G hN w fl u bt n st L 4 hn2 hqc hL h145 h25 hn7 hb hm h144 hK) yy_X12_compileValue wm_X12_501 (kl hN (by decide)) hm rfl rfl rfl rfl (Nat.le_of_ble_eq_true rfl) (by decide) (by decide) ⟨by decide, by decide⟩ dX12_compileFactor_88 (fun w3 hp3 => ?_)
      obtain ⟨hT3, hf3⟩ := hp3
      obtain ⟨u3, hu3, hKr3, hQ_3, h25_3, hs3⟩ := hT3
      obtain ⟨st_4, est_4⟩ : ∃ z : PS, z = vlS bt n st := ⟨_, rfl⟩
      rw [← est_4] at hKr3 hQ_3
      have h18r3 := hKr3.1
      have h22r3 := hKr3.2.1
      have hrgr3 := hKr3.2.2.1
      have hcbr3 := hKr3.cb
      refine k_aload_n hC dX12_compileFactor_91 rfl 0 rfl ?_
      refine k_bipush hC dX12_compileFactor_92 (by decide) ?_
      have h_5 : w3 144 = iA G 700 bt := (hf3 144 (by decide)).trans h144
      refine k_pureV hC (c_X12_isSymbol l hls G hN w3 fl u3 bt n st_4 60 (by omega) hn7 hb hu3 h_5 hKr3) yy_X12_isSymbol wm_X12_420 (kl hN (by decide)) hu3 rfl rfl rfl rfl (Nat.le_of_ble_eq_true rfl) (by decide) (by decide) ⟨by decide, by decide⟩ dX12_compileFactor_94 ?_
      obtain ⟨z_6, ez_6, hz_6⟩ := selI_c (isS bt n 60 st_4)
      refine k_topv (vI z_6) (by rw [ez_6]) ?_
      refine k_if_eq hC 105 dX12_compileFactor_97 rfl (by omega) (fun c_97 => ?_) (fun c_97 => ?_)
      · refine k_aload_n hC dX12_compileFactor_105 rfl 0 rfl ?_
        refine k_bipush hC dX12_compileFactor_106 (by decide) ?_
        refine k_pureV hC (c_X12_isSymbol l hls G hN w3 fl u3 bt n st_4 61 (by omega) hn7 hb hu3 h_5 hKr3) yy_X12_isSymbol wm_X12_420 (kl hN (by decide)) hu3 rfl rfl rfl rfl (Nat.le_of_ble_eq_true rfl) (by decide) (by decide) ⟨by decide, by decide⟩ dX12_compileFactor_108 ?_
        obtain ⟨z_7, ez_7, hz_7⟩ := selI_c (isS bt n 61 st_4)
        refine k_topv (vI z_7) (by rw [ez_7]) ?_
        refine k_if_eq hC 119 dX12_compileFactor_111 rfl (by omega) (fun c_111 => ?_) (fun c_111 => ?_)
        · refine k_bipush hC dX12_compileFactor_119 (by decide) ?_
          refine k_istore_n hC [(1, vI (-22)), (0, .ref (kad G 133))] dX12_compileFactor_121 rfl (by decide) rfl ?_
          refine k_aload_n hC dX12_compileFactor_122 rfl 1 rfl ?_
          refine k_iload_n hC dX12_compileFactor_123 rfl 0 rfl ?_
          refine k_bipush hC dX12_compileFactor_124 (by decide) ?_
          refine k_icmp_ne hC 138 dX12_compileFactor_126 rfl (by omega) (by omega) (fun c_126 => absurd c_126 (by omega)) (fun c_126 => ?_)
          refine k_aload_n hC dX12_compileFactor_129 rfl 1 rfl ?_
          refine k_bipush hC dX12_compileFactor_130 (by decide) ?_
          refine k_pureV hC (c_X12_isSymbol l hls G hN w3 fl u3 bt n st_4 62 (by omega) hn7 hb hu3 h_5 hKr3) yy_X12_isSymbol wm_X12_420 (kl hN (by decide)) hu3 rfl rfl rfl rfl (Nat.le_of_ble_eq_true rfl) (by decide) (by decide) ⟨by decide, by decide⟩ dX12_compileFactor_132 ?_
          obtain ⟨z_8, ez_8, hz_8⟩ := selI_c (isS bt n 62 st_4)
          refine k_topv (vI z_8) (by rw [ez_8]) ?_
          refine k_if_eq hC 142 dX12_compileFactor_135 rfl (by omega) (fun c_135 => ?_) (fun c_135 => ?_)
          · refine k_iconst hC dX12_compileFactor_142 ?_
            refine k_iconst hC dX12_compileFactor_143 ?_
            refine k_muvV hC (c_X12_check0 l hls G hN w3 fl u3 bt n st_4 1 (by omega) hn7 hb hu3 h_5 hKr3) yy_X12_check wm_X12_413 (kl hN (by decide)) hu3 rfl rfl rfl rfl (Nat.le_of_ble_eq_true rfl) (by decide) (by decide) ⟨by decide, by decide⟩ dX12_compileFactor_144 (fun w9 hp9 => ?_)
            obtain ⟨hT9, hf9⟩ := hp9
            obtain ⟨u9, hu9, hKr9, hs9⟩ := hT9
            obtain ⟨st_10, est_10⟩ : ∃ z : PS, z = flP 1 st_4 := ⟨_, rfl⟩
            rw [← est_10] at hKr9
            have h18r9 := hKr9.1
            have h22r9 := hKr9.2.1
            have hrgr9 := hKr9.2.2.1
            have hcbr9 := hKr9.cb
            have hzzr9 : st_10.1 ≠ 0 := by rw [est_10]; exact fl_c (by omega)
            have hQ_9 : qcW G w9 u9 st_10 (L ++ [vlC bt n st]) := hQ_3.go (hs9 29 (by omega)) (hf9 146 (by decide)) (fun q => absurd q hzzr9)
            have h25_9 : u9 25 = 4 := (hs9 25 (by omega)).trans h25_3
            refine k_aload_n hC dX12_compileFactor_147 rfl 1 rfl ?_
            have h_12 : w9 144 = iA G 700 bt := (hf9 144 (by decide)).trans h_5
            refine k_muvV hC (c_X12_advance l hls G hN w9 fl u9 bt n st_10  hn7 hb hu9 h_12 hKr9) yy_X12_advance wm_X12_417 (kl hN (by decide)) hu9 rfl rfl rfl rfl (Nat.le_of_ble_eq_true rfl) (by decide) (by decide) ⟨by decide, by decide⟩ dX12_compileFactor_148 (fun w11 hp11 => ?_)
            obtain ⟨hT11, hf11⟩ := hp11
            obtain ⟨u11, hu11, hKr11, hs11⟩ := hT11
            obtain ⟨st_13, est_13⟩ : ∃ z : PS, z = adP bt n st_10 := ⟨_, rfl⟩
            rw [← est_13] at hKr11
            have h18r11 := hKr11.1
            have h22r11 := hKr11.2.1
            have hrgr11 := hKr11.2.2.1
            have hcbr11 := hKr11.cb
            have hzzr11 : st_13.1 ≠ 0 := by rw [est_13, adP_e (by omega)]; omega
            have hQ_11 : qcW G w11 u11 st_13 (L ++ [vlC bt n st]) := hQ_9.go (hs11 29 (by omega)) (hf11 146 (by decide)) (fun q => ad_c.mp (by rw [← est_13]; exact q))
            have h25_11 : u11 25 = 4 := (hs11 25 (by omega)).trans h25_9
            have hop : opM bt n st_4 = -22 := (selI_0 (hz_6.resolve_left (fun q1 => by omega)).2).trans (selI_0 (hz_7.resolve_left (fun q1 => by omega)).2)
            have hob9 : st_13 = opS bt n st_4 := by unfold opS; rw [selP_0 (fun q => q.elim (hz_6.resolve_left (fun q1 => by omega)).2 (fun q => q.elim (hz_7.resolve_left (fun q1 => by omega)).2 (hz_8.resolve_left (fun q1 => by omega)).2)), ← est_10]; exact est_13
            refine k_aload_n hC dX12_compileFactor_151 rfl 1 rfl ?_
            have h_14 : w11 145 = rA G 6 7 (fun j => some (kadK G (nmI j))) := (hf11 145 (by decide)).trans ((hf9 145 (by decide)).trans ((hf3 145 (by decide)).trans h145))
            have h_15 : w11 144 = iA G 700 bt := (hf11 144 (by decide)).trans h_12
            refine k_muvV hC (c_X12_compileValue l hls G hN w11 fl u11 bt n st_13 (L ++ [vlC bt n st]) 4 hn2 hQ_11 (by rw [hob9, est_4]; exact hl_cmp hle0 hL) h_14 h25_11 hn7 hb hu11 h_15 hKr11) yy_X12_compileValue wm_X12_501 (kl hN (by decide)) hu11 rfl rfl rfl rfl (Nat.le_of_ble_eq_true rfl) (by decide) (by decide) ⟨by decide, by decide⟩ dX12_compileFactor_152 (fun w16 hp16 => ?_)
            obtain ⟨hT16, hf16⟩ := hp16
            obtain ⟨u16, hu16, hKr16, hQ_16, h25_16, hs16⟩ := hT16
            obtain ⟨st_17, est_17⟩ : ∃ z : PS, z = vlS bt n st_13 := ⟨_, rfl⟩
            rw [← est_17] at hKr16 hQ_16
            have h18r16 := hKr16.1
            have h22r16 := hKr16.2.1
            have hrgr16 := hKr16.2.2.1
            have hcbr16 := hKr16.cb
            have hob : st_13 = opS bt n st_4 := by exact hob9
            refine k_aload_n hC dX12_compileFactor_155 rfl 1 rfl ?_
            refine k_iload_n hC dX12_compileFactor_156 rfl 0 rfl ?_
            have h_19 : w16 144 = iA G 700 bt := (hf16 144 (by decide)).trans h_15
            refine k_muvV hC (c_X12_emit l hls G hN w16 fl u16 bt n st_17 (L ++ [vlC bt n st] ++ [vlC bt n st_13]) (-22) (by rw [est_17, hob, est_4]; exact lt_cmp hn2 hle0 hL) hn2 hQ_16 hn7 hb hu16 h_19 hKr16) yy_X12_emit wm_X12_487 (kl hN (by decide)) hu16 rfl rfl rfl rfl (Nat.le_of_ble_eq_true rfl) (by decide) (by decide) ⟨by decide, by decide⟩ dX12_compileFactor_157 (fun w18 hp18 => ?_)
            obtain ⟨⟨u18, hu18, hKr18, hQ_18, hs18⟩, hf18⟩ := hp18
            have h18r18 := hKr18.1
            have h22r18 := hKr18.2.1
            have hrgr18 := hKr18.2.2.1
            have hcbr18 := hKr18.cb
            have h25_18 : u18 25 = 4 := (hs18 25 (by decide)).trans h25_16
            subst hQ
            exact k_vret hC hr ⟨by decide, by decide⟩ (⟨rfl, rfl, ⟨u18, hu18, (by have e : st_17 = (qF V bt n 2 st).1 := (by rw [hqF]; show st_17 = vlS bt n (opS bt n (vlS bt n st)); rw [← est_4, ← hob9]; exact est_17); rw [← e]; exact hKr18), (by have e : st_17 = (qF V bt n 2 st).1 := (by rw [hqF]; show st_17 = vlS bt n (opS bt n (vlS bt n st)); rw [← est_4, ← hob9]; exact est_17); rw [← e]; exact hQ_18.cg (fun q => by rw [hqF]; show _ = L ++ [vlC bt n st, vlC bt n (opS bt n (vlS bt n st)), opM bt n (vlS bt n st)]; rw [← est_4, hop, ← hob9, List.append_assoc, List.append_assoc]; rfl)), h25_18, (uQ.tr (uQ.tr (uQ.tr (uQ.tr (uQ.tr uQ.rf hs3) (uS.q hs9)) (uS.q hs11)) hs16) (uQ.e29 hs18))⟩, fun j hj => (hf18 j (by omega)).trans ((hf16 j (by omega)).trans ((hf11 j (by omega)).trans ((hf9 j (by omega)).trans (hf3 j (by omega)))))⟩) dX12_compileFactor_160
          · refine k_iconst hC dX12_compileFactor_138 ?_
            refine k_goto hC 143 dX12_compileFactor_139 rfl ?_
            refine k_iconst hC dX12_compileFactor_143 ?_
            refine k_muvV hC (c_X12_check1 l hls G hN w3 fl u3 bt n st_4 1 (by omega) hn7 hb hu3 h_5 hKr3) yy_X12_check wm_X12_413 (kl hN (by decide)) hu3 rfl rfl rfl rfl (Nat.le_of_ble_eq_true rfl) (by decide) (by decide) ⟨by decide, by decide⟩ dX12_compileFactor_144 (fun w20 hp20 => ?_)
            obtain ⟨hT20, hf20⟩ := hp20
            obtain ⟨u20, hu20, hKr20, hs20⟩ := hT20
            have h18r20 := hKr20.1
            have h22r20 := hKr20.2.1
            have hrgr20 := hKr20.2.2.1
            have hcbr20 := hKr20.cb
            have hQ_20 : qcW G w20 u20 st_4 (L ++ [vlC bt n st]) := hQ_3.go (hs20 29 (by omega)) (hf20 146 (by decide)) (fun q => q)
            have h25_20 : u20 25 = 4 := (hs20 25 (by omega)).trans h25_3
            refine k_aload_n hC dX12_compileFactor_147 rfl 1 rfl ?_
            have h_22 : w20 144 = iA G 700 bt := (hf20 144 (by decide)).trans h_5
            refine k_muvV hC (c_X12_advance l hls G hN w20 fl u20 bt n st_4  hn7 hb hu20 h_22 hKr20) yy_X12_advance wm_X12_417 (kl hN (by decide)) hu20 rfl rfl rfl rfl (Nat.le_of_ble_eq_true rfl) (by decide) (by decide) ⟨by decide, by decide⟩ dX12_compileFactor_148 (fun w21 hp21 => ?_)
            obtain ⟨hT21, hf21⟩ := hp21
            obtain ⟨u21, hu21, hKr21, hs21⟩ := hT21
            obtain ⟨st_23, est_23⟩ : ∃ z : PS, z = adP bt n st_4 := ⟨_, rfl⟩
            rw [← est_23] at hKr21
            have h18r21 := hKr21.1
            have h22r21 := hKr21.2.1
            have hrgr21 := hKr21.2.2.1
            have hcbr21 := hKr21.cb
            have hQ_21 : qcW G w21 u21 st_23 (L ++ [vlC bt n st]) := hQ_20.go (hs21 29 (by omega)) (hf21 146 (by decide)) (fun q => ad_c.mp (by rw [← est_23]; exact q))
            have h25_21 : u21 25 = 4 := (hs21 25 (by omega)).trans h25_20
            have hop : opM bt n st_4 = -22 := (selI_0 (hz_6.resolve_left (fun q1 => by omega)).2).trans (selI_0 (hz_7.resolve_left (fun q1 => by omega)).2)
            have hob9 : st_23 = opS bt n st_4 := by unfold opS; rw [selP_1 (Or.inr (Or.inr (hz_8.resolve_right (fun q1 => by omega)).2))]; exact est_23
            refine k_aload_n hC dX12_compileFactor_151 rfl 1 rfl ?_
            have h_24 : w21 145 = rA G 6 7 (fun j => some (kadK G (nmI j))) := (hf21 145 (by decide)).trans ((hf20 145 (by decide)).trans ((hf3 145 (by decide)).trans h145))
            have h_25 : w21 144 = iA G 700 bt := (hf21 144 (by decide)).trans h_22
            refine k_muvV hC (c_X12_compileValue l hls G hN w21 fl u21 bt n st_23 (L ++ [vlC bt n st]) 4 hn2 hQ_21 (by rw [hob9, est_4]; exact hl_cmp hle0 hL) h_24 h25_21 hn7 hb hu21 h_25 hKr21) yy_X12_compileValue wm_X12_501 (kl hN (by decide)) hu21 rfl rfl rfl rfl (Nat.le_of_ble_eq_true rfl) (by decide) (by decide) ⟨by decide, by decide⟩ dX12_compileFactor_152 (fun w26 hp26 => ?_)
            obtain ⟨hT26, hf26⟩ := hp26
            obtain ⟨u26, hu26, hKr26, hQ_26, h25_26, hs26⟩ := hT26
            obtain ⟨st_27, est_27⟩ : ∃ z : PS, z = vlS bt n st_23 := ⟨_, rfl⟩
            rw [← est_27] at hKr26 hQ_26
            have h18r26 := hKr26.1
            have h22r26 := hKr26.2.1
            have hrgr26 := hKr26.2.2.1
            have hcbr26 := hKr26.cb
            have hob : st_23 = opS bt n st_4 := by exact hob9
            refine k_aload_n hC dX12_compileFactor_155 rfl 1 rfl ?_
            refine k_iload_n hC dX12_compileFactor_156 rfl 0 rfl ?_
            have h_29 : w26 144 = iA G 700 bt := (hf26 144 (by decide)).trans h_25
            refine k_muvV hC (c_X12_emit l hls G hN w26 fl u26 bt n st_27 (L ++ [vlC bt n st] ++ [vlC bt n st_23]) (-22) (by rw [est_27, hob, est_4]; exact lt_cmp hn2 hle0 hL) hn2 hQ_26 hn7 hb hu26 h_29 hKr26) yy_X12_emit wm_X12_487 (kl hN (by decide)) hu26 rfl rfl rfl rfl (Nat.le_of_ble_eq_true rfl) (by decide) (by decide) ⟨by decide, by decide⟩ dX12_compileFactor_157 (fun w28 hp28 => ?_)
            obtain ⟨⟨u28, hu28, hKr28, hQ_28, hs28⟩, hf28⟩ := hp28
            have h18r28 := hKr28.1
            have h22r28 := hKr28.2.1
            have hrgr28 := hKr28.2.2.1
            have hcbr28 := hKr28.cb
            have h25_28 : u28 25 = 4 := (hs28 25 (by decide)).trans h25_26
            subst hQ
            exact k_vret hC hr ⟨by decide, by decide⟩ (⟨rfl, rfl, ⟨u28, hu28, (by have e : st_27 = (qF V bt n 2 st).1 := (by rw [hqF]; show st_27 = vlS bt n (opS bt n (vlS bt n st)); rw [← est_4, ← hob9]; exact est_27); rw [← e]; exact hKr28), (by have e : st_27 = (qF V bt n 2 st).1 := (by rw [hqF]; show st_27 = vlS bt n (opS bt n (vlS bt n st)); rw [← est_4, ← hob9]; exact est_27); rw [← e]; exact hQ_28.cg (fun q => by rw [hqF]; show _ = L ++ [vlC bt n st, vlC bt n (opS bt n (vlS bt n st)), opM bt n (vlS bt n st)]; rw [← est_4, hop, ← hob9, List.append_assoc, List.append_assoc]; rfl)), h25_28, (uQ.tr (uQ.tr (uQ.tr (uQ.tr (uQ.tr uQ.rf hs3) (uS.q hs20)) (uS.q hs21)) hs26) (uQ.e29 hs28))⟩, fun j hj => (hf28 j (by omega)).trans ((hf26 j (by omega)).trans ((hf21 j (by omega)).trans ((hf20 j (by omega)).trans (hf3 j (by omega)))))⟩) dX12_compileFactor_160
        · refine k_bipush hC dX12_compileFactor_114 (by decide) ?_
          refine k_goto hC 121 dX12_compileFactor_116 rfl ?_
          refine k_istore_n hC [(1, vI (-21)), (0, .ref (kad G 133))] dX12_compileFactor_121 rfl (by decide) rfl ?_
          refine k_aload_n hC dX12_compileFactor_122 rfl 1 rfl ?_
          refine k_iload_n hC dX12_compileFactor_123 rfl 0 rfl ?_
          refine k_bipush hC dX12_compileFactor_124 (by decide) ?_
          refine k_icmp_ne hC 138 dX12_compileFactor_126 rfl (by omega) (by omega) (fun c_126 => ?_) (fun c_126 => absurd c_126 (by omega))
          refine k_iconst hC dX12_compileFactor_138 ?_
          refine k_goto hC 143 dX12_compileFactor_139 rfl ?_
          refine k_iconst hC dX12_compileFactor_143 ?_
          refine k_muvV hC (c_X12_check1 l hls G hN w3 fl u3 bt n st_4 1 (by omega) hn7 hb hu3 h_5 hKr3) yy_X12_check wm_X12_413 (kl hN (by decide)) hu3 rfl rfl rfl rfl (Nat.le_of_ble_eq_true rfl) (by decide) (by decide) ⟨by decide, by decide⟩ dX12_compileFactor_144 (fun w30 hp30 => ?_)
          obtain ⟨hT30, hf30⟩ := hp30
          obtain ⟨u30, hu30, hKr30, hs30⟩ := hT30
          have h18r30 := hKr30.1
          have h22r30 := hKr30.2.1
          have hrgr30 := hKr30.2.2.1
          have hcbr30 := hKr30.cb
          have hQ_30 : qcW G w30 u30 st_4 (L ++ [vlC bt n st]) := hQ_3.go (hs30 29 (by omega)) (hf30 146 (by decide)) (fun q => q)
          have h25_30 : u30 25 = 4 := (hs30 25 (by omega)).trans h25_3
          refine k_aload_n hC dX12_compileFactor_147 rfl 1 rfl ?_
          have h_32 : w30 144 = iA G 700 bt := (hf30 144 (by decide)).trans h_5
          refine k_muvV hC (c_X12_advance l hls G hN w30 fl u30 bt n st_4  hn7 hb hu30 h_32 hKr30) yy_X12_advance wm_X12_417 (kl hN (by decide)) hu30 rfl rfl rfl rfl (Nat.le_of_ble_eq_true rfl) (by decide) (by decide) ⟨by decide, by decide⟩ dX12_compileFactor_148 (fun w31 hp31 => ?_)
          obtain ⟨hT31, hf31⟩ := hp31
          obtain ⟨u31, hu31, hKr31, hs31⟩ := hT31
          obtain ⟨st_33, est_33⟩ : ∃ z : PS, z = adP bt n st_4 := ⟨_, rfl⟩
          rw [← est_33] at hKr31
          have h18r31 := hKr31.1
          have h22r31 := hKr31.2.1
          have hrgr31 := hKr31.2.2.1
          have hcbr31 := hKr31.cb
          have hQ_31 : qcW G w31 u31 st_33 (L ++ [vlC bt n st]) := hQ_30.go (hs31 29 (by omega)) (hf31 146 (by decide)) (fun q => ad_c.mp (by rw [← est_33]; exact q))
          have h25_31 : u31 25 = 4 := (hs31 25 (by omega)).trans h25_30
          have hop : opM bt n st_4 = -21 := (selI_0 (hz_6.resolve_left (fun q1 => by omega)).2).trans (selI_1 (hz_7.resolve_right (fun q1 => by omega)).2)
          have hob9 : st_33 = opS bt n st_4 := by unfold opS; rw [selP_1 (Or.inr (Or.inl (hz_7.resolve_right (fun q1 => by omega)).2))]; exact est_33
          refine k_aload_n hC dX12_compileFactor_151 rfl 1 rfl ?_
          have h_34 : w31 145 = rA G 6 7 (fun j => some (kadK G (nmI j))) := (hf31 145 (by decide)).trans ((hf30 145 (by decide)).trans ((hf3 145 (by decide)).trans h145))
          have h_35 : w31 144 = iA G 700 bt := (hf31 144 (by decide)).trans h_32
          refine k_muvV hC (c_X12_compileValue l hls G hN w31 fl u31 bt n st_33 (L ++ [vlC bt n st]) 4 hn2 hQ_31 (by rw [hob9, est_4]; exact hl_cmp hle0 hL) h_34 h25_31 hn7 hb hu31 h_35 hKr31) yy_X12_compileValue wm_X12_501 (kl hN (by decide)) hu31 rfl rfl rfl rfl (Nat.le_of_ble_eq_true rfl) (by decide) (by decide) ⟨by decide, by decide⟩ dX12_compileFactor_152 (fun w36 hp36 => ?_)
          obtain ⟨hT36, hf36⟩ := hp36
          obtain ⟨u36, hu36, hKr36, hQ_36, h25_36, hs36⟩ := hT36
          obtain ⟨st_37, est_37⟩ : ∃ z : PS, z = vlS bt n st_33 := ⟨_, rfl⟩
          rw [← est_37] at hKr36 hQ_36
          have h18r36 := hKr36.1
          have h22r36 := hKr36.2.1
          have hrgr36 := hKr36.2.2.1
          have hcbr36 := hKr36.cb
          have hob : st_33 = opS bt n st_4 := by exact hob9
          refine k_aload_n hC dX12_compileFactor_155 rfl 1 rfl ?_
          refine k_iload_n hC dX12_compileFactor_156 rfl 0 rfl ?_
          have h_39 : w36 144 = iA G 700 bt := (hf36 144 (by decide)).trans h_35
          refine k_muvV hC (c_X12_emit l hls G hN w36 fl u36 bt n st_37 (L ++ [vlC bt n st] ++ [vlC bt n st_33]) (-21) (by rw [est_37, hob, est_4]; exact lt_cmp hn2 hle0 hL) hn2 hQ_36 hn7 hb hu36 h_39 hKr36) yy_X12_emit wm_X12_487 (kl hN (by decide)) hu36 rfl rfl rfl rfl (Nat.le_of_ble_eq_true rfl) (by decide) (by decide) ⟨by decide, by decide⟩ dX12_compileFactor_157 (fun w38 hp38 => ?_)
          obtain ⟨⟨u38, hu38, hKr38, hQ_38, hs38⟩, hf38⟩ := hp38
          have h18r38 := hKr38.1
          have h22r38 := hKr38.2.1
          have hrgr38 := hKr38.2.2.1
          have hcbr38 := hKr38.cb
          have h25_38 : u38 25 = 4 := (hs38 25 (by decide)).trans h25_36
          subst hQ
          exact k_vret hC hr ⟨by decide, by decide⟩ (⟨rfl, rfl, ⟨u38, hu38, (by have e : st_37 = (qF V bt n 2 st).1 := (by rw [hqF]; show st_37 = vlS bt n (opS bt n (vlS bt n st)); rw [← est_4, ← hob9]; exact est_37); rw [← e]; exact hKr38), (by have e : st_37 = (qF V bt n 2 st).1 := (by rw [hqF]; show st_37 = vlS bt n (opS bt n (vlS bt n st)); rw [← est_4, ← hob9]; exact est_37); rw [← e]; exact hQ_38.cg (fun q => by rw [hqF]; show _ = L ++ [vlC bt n st, vlC bt n (opS bt n (vlS bt n st)), opM bt n (vlS bt n st)]; rw [← est_4, hop, ← hob9, List.append_assoc, List.append_assoc]; rfl)), h25_38, (uQ.tr (uQ.tr (uQ.tr (uQ.tr (uQ.tr uQ.rf hs3) (uS.q hs30)) (uS.q hs31)) hs36) (uQ.e29 hs38))⟩, fun j hj => (hf38 j (by omega)).trans ((hf36 j (by omega)).trans ((hf31 j (by omega)).trans ((hf30 j (by omega)).trans (hf3 j (by omega)))))⟩) dX12_compileFactor_160
      · refine k_bipush hC dX12_compileFactor_100 (by decide) ?_
        refine k_goto hC 121 dX12_compileFactor_102 rfl ?_
        refine k_istore_n hC [(1, vI (-20)), (0, .ref (kad G 133))] dX12_compileFactor_121 rfl (by decide) rfl ?_
        refine k_aload_n hC dX12_compileFactor_122 rfl 1 rfl ?_
        refine k_iload_n hC dX12_compileFactor_123 rfl 0 rfl ?_
        refine k_bipush hC dX12_compileFactor_124 (by decide) ?_
        refine k_icmp_ne hC 138 dX12_compileFactor_126 rfl (by omega) (by omega) (fun c_126 => ?_) (fun c_126 => absurd c_126 (by omega))
        refine k_iconst hC dX12_compileFactor_138 ?_
        refine k_goto hC 143 dX12_compileFactor_139 rfl ?_
        refine k_iconst hC dX12_compileFactor_143 ?_
        refine k_muvV hC (c_X12_check1 l hls G hN w3 fl u3 bt n st_4 1 (by omega) hn7 hb hu3 h_5 hKr3) yy_X12_check wm_X12_413 (kl hN (by decide)) hu3 rfl rfl rfl rfl (Nat.le_of_ble_eq_true rfl) (by decide) (by decide) ⟨by decide, by decide⟩ dX12_compileFactor_144 (fun w40 hp40 => ?_)
        obtain ⟨hT40, hf40⟩ := hp40
        obtain ⟨u40, hu40, hKr40, hs40⟩ := hT40
        have h18r40 := hKr40.1
        have h22r40 := hKr40.2.1
        have hrgr40 := hKr40.2.2.1
        have hcbr40 := hKr40.cb
        have hQ_40 : qcW G w40 u40 st_4 (L ++ [vlC bt n st]) := hQ_3.go (hs40 29 (by omega)) (hf40 146 (by decide)) (fun q => q)
        have h25_40 : u40 25 = 4 := (hs40 25 (by omega)).trans h25_3
        refine k_aload_n hC dX12_compileFactor_147 rfl 1 rfl ?_
        have h_42 : w40 144 = iA G 700 bt := (hf40 144 (by decide)).trans h_5
        refine k_muvV hC (c_X12_advance l hls G hN w40 fl u40 bt n st_4  hn7 hb hu40 h_42 hKr40) yy_X12_advance wm_X12_417 (kl hN (by decide)) hu40 rfl rfl rfl rfl (Nat.le_of_ble_eq_true rfl) (by decide) (by decide) ⟨by decide, by decide⟩ dX12_compileFactor_148 (fun w41 hp41 => ?_)
        obtain ⟨hT41, hf41⟩ := hp41
        obtain ⟨u41, hu41, hKr41, hs41⟩ := hT41
        obtain ⟨st_43, est_43⟩ : ∃ z : PS, z = adP bt n st_4 := ⟨_, rfl⟩
        rw [← est_43] at hKr41
        have h18r41 := hKr41.1
        have h22r41 := hKr41.2.1
        have hrgr41 := hKr41.2.2.1
        have hcbr41 := hKr41.cb
        have hQ_41 : qcW G w41 u41 st_43 (L ++ [vlC bt n st]) := hQ_40.go (hs41 29 (by omega)) (hf41 146 (by decide)) (fun q => ad_c.mp (by rw [← est_43]; exact q))
        have h25_41 : u41 25 = 4 := (hs41 25 (by omega)).trans h25_40
        have hop : opM bt n st_4 = -20 := selI_1 (hz_6.resolve_right (fun q1 => by omega)).2
        have hob9 : st_43 = opS bt n st_4 := by unfold opS; rw [selP_1 (Or.inl (hz_6.resolve_right (fun q1 => by omega)).2)]; exact est_43
        refine k_aload_n hC dX12_compileFactor_151 rfl 1 rfl ?_
        have h_44 : w41 145 = rA G 6 7 (fun j => some (kadK G (nmI j))) := (hf41 145 (by decide)).trans ((hf40 145 (by decide)).trans ((hf3 145 (by decide)).trans h145))
        have h_45 : w41 144 = iA G 700 bt := (hf41 144 (by decide)).trans h_42
        refine k_muvV hC (c_X12_compileValue l hls G hN w41 fl u41 bt n st_43 (L ++ [vlC bt n st]) 4 hn2 hQ_41 (by rw [hob9, est_4]; exact hl_cmp hle0 hL) h_44 h25_41 hn7 hb hu41 h_45 hKr41) yy_X12_compileValue wm_X12_501 (kl hN (by decide)) hu41 rfl rfl rfl rfl (Nat.le_of_ble_eq_true rfl) (by decide) (by decide) ⟨by decide, by decide⟩ dX12_compileFactor_152 (fun w46 hp46 => ?_)
        obtain ⟨hT46, hf46⟩ := hp46
        obtain ⟨u46, hu46, hKr46, hQ_46, h25_46, hs46⟩ := hT46
        obtain ⟨st_47, est_47⟩ : ∃ z : PS, z = vlS bt n st_43 := ⟨_, rfl⟩
        rw [← est_47] at hKr46 hQ_46
        have h18r46 := hKr46.1
        have h22r46 := hKr46.2.1
        have hrgr46 := hKr46.2.2.1
        have hcbr46 := hKr46.cb
        have hob : st_43 = opS bt n st_4 := by exact hob9
        refine k_aload_n hC dX12_compileFactor_155 rfl 1 rfl ?_
        refine k_iload_n hC dX12_compileFactor_156 rfl 0 rfl ?_
        have h_49 : w46 144 = iA G 700 bt := (hf46 144 (by decide)).trans h_45
        refine k_muvV hC (c_X12_emit l hls G hN w46 fl u46 bt n st_47 (L ++ [vlC bt n st] ++ [vlC bt n st_43]) (-20) (by rw [est_47, hob, est_4]; exact lt_cmp hn2 hle0 hL) hn2 hQ_46 hn7 hb hu46 h_49 hKr46) yy_X12_emit wm_X12_487 (kl hN (by decide)) hu46 rfl rfl rfl rfl (Nat.le_of_ble_eq_true rfl) (by decide) (by decide) ⟨by decide, by decide⟩ dX12_compileFactor_157 (fun w48 hp48 => ?_)
        obtain ⟨⟨u48, hu48, hKr48, hQ_48, hs48⟩, hf48⟩ := hp48
        have h18r48 := hKr48.1
        have h22r48 := hKr48.2.1
        have hrgr48 := hKr48.2.2.1
        have hcbr48 := hKr48.cb
        have h25_48 : u48 25 = 4 := (hs48 25 (by decide)).trans h25_46
        subst hQ
        exact k_vret hC hr ⟨by decide, by decide⟩ (⟨rfl, rfl, ⟨u48, hu48, (by have e : st_47 = (qF V bt n 2 st).1 := (by rw [hqF]; show st_47 = vlS bt n (opS bt n (vlS bt n st)); rw [← est_4, ← hob9]; exact est_47); rw [← e]; exact hKr48), (by have e : st_47 = (qF V bt n 2 st).1 := (by rw [hqF]; show st_47 = vlS bt n (opS bt n (vlS bt n st)); rw [← est_4, ← hob9]; exact est_47); rw [← e]; exact hQ_48.cg (fun q => by rw [hqF]; show _ = L ++ [vlC bt n st, vlC bt n (opS bt n (vlS bt n st)), opM bt n (vlS bt n st)]; rw [← est_4, hop, ← hob9, List.append_assoc, List.append_assoc]; rfl)), h25_48, (uQ.tr (uQ.tr (uQ.tr (uQ.tr (uQ.tr uQ.rf hs3) (uS.q hs40)) (uS.q hs41)) hs46) (uQ.e29 hs48))⟩, fun j hj => (hf48 j (by omega)).trans ((hf46 j (by omega)).trans ((hf41 j (by omega)).trans ((hf40 j (by omega)).trans (hf3 j (by omega)))))⟩) dX12_compileFactor_160
    · have hw40 : isS bt n 40 st := (hz_2.resolve_right (fun q1 => by omega)).2
      have hz0 := hw40.1
      have hzz : st.1 = 0 := by omega
      have hq0 := hK.2.2.2.1 hzz
      have hen := enM_b (bt := bt) hq0.2.2.2
      refine k_aload_n hC dX12_compileFactor_53 rfl 0 rfl ?_
      refine k_muvV hC (c_X12_enter_4 l hls G hN w fl u bt n st L (by omega) hn2 hqc hL h145 h25 hn7 hb hm h144 hK) yy_X12_enter wm_X12_492 (kl hN (by decide)) hm rfl rfl rfl rfl (Nat.le_of_ble_eq_true rfl) (by decide) (by decide) ⟨by decide, by decide⟩ dX12_compileFactor_54 (fun w50 hp50 => ?_)
      obtain ⟨hT50, hf50⟩ := hp50
      obtain ⟨u50, hu50, hKr50, hQ_50, h25_50, hs50⟩ := hT50
      obtain ⟨st_51, est_51⟩ : ∃ z : PS, z = adP bt n st := ⟨_, rfl⟩
      rw [← est_51] at hKr50 hQ_50
      have h18r50 := hKr50.1
      have h22r50 := hKr50.2.1
      have hrgr50 := hKr50.2.2.1
      have hcbr50 := hKr50.cb
      have hzir50 : st_51.1 = 0 := by rw [est_51]; exact ad_c.mpr (by omega)
      have hzzr50 : st_51.1 = 0 := by omega
      have hq0r50 := hKr50.2.2.2.1 hzzr50
      have henr50 := enM_b (bt := bt) hq0r50.2.2.2
      refine k_aload_n hC dX12_compileFactor_57 rfl 0 rfl ?_
      refine k_get hC fd_X12_386 (kl hN (by decide)) hu50 rfl dX12_compileFactor_58 ?_
      refine k_topv (vI 0) (congrArg vI (by omega)) ?_
      refine k_if_ne hC 68 dX12_compileFactor_61 rfl (by omega) (fun c_61 => absurd c_61 (by omega)) (fun c_61 => ?_)
      refine k_aload_n hC dX12_compileFactor_64 rfl 0 rfl ?_
      have h_52 : w50 145 = rA G 6 7 (fun j => some (kadK G (nmI j))) := (hf50 145 (by decide)).trans h145
      have h_53 : w50 144 = iA G 700 bt := (hf50 144 (by decide)).trans h144
      refine k_muvV hC (c_X12_compileTest_1 l hls G hN w50 fl u50 bt n st_51 L V hn2 hQ_50 (by rw [est_51]; exact hl_ad hle0 hL) h_52 h25_50 hn7 hb hu50 h_53 hKr50) yy_X12_compileTest wm_X12_498 (kl hN (by decide)) hu50 rfl rfl rfl rfl (Nat.le_of_ble_eq_true rfl) (by decide) (by decide) ⟨by decide, by decide⟩ dX12_compileFactor_65 (fun w54 hp54 => ?_)
      obtain ⟨hT54, hf54⟩ := hp54
      obtain ⟨u54, hu54, hKr54, hQ_54, h25_54, hs54⟩ := hT54
      obtain ⟨st_55, est_55⟩ : ∃ z : PS, z = (tstM bt n (qF V bt n 1) st_51).1 := ⟨_, rfl⟩
      rw [← est_55] at hKr54 hQ_54
      have h18r54 := hKr54.1
      have h22r54 := hKr54.2.1
      have hrgr54 := hKr54.2.2.1
      have hcbr54 := hKr54.cb
      refine k_aload_n hC dX12_compileFactor_68 rfl 0 rfl ?_
      refine k_bipush hC dX12_compileFactor_69 (by decide) ?_
      have h_57 : w54 144 = iA G 700 bt := (hf54 144 (by decide)).trans h_53
      refine k_muvV hC (c_X12_expect l hls G hN w54 fl u54 bt n st_55 41 (by omega) hn7 hb hu54 h_57 hKr54) yy_X12_expect wm_X12_471 (kl hN (by decide)) hu54 rfl rfl rfl rfl (Nat.le_of_ble_eq_true rfl) (by decide) (by decide) ⟨by decide, by decide⟩ dX12_compileFactor_71 (fun w56 hp56 => ?_)
      obtain ⟨hT56, hf56⟩ := hp56
      obtain ⟨u56, hu56, hKr56, hs56⟩ := hT56
      obtain ⟨st_58, est_58⟩ : ∃ z : PS, z = nsP bt n 41 st_55 := ⟨_, rfl⟩
      rw [← est_58] at hKr56
      have h18r56 := hKr56.1
      have h22r56 := hKr56.2.1
      have hrgr56 := hKr56.2.2.1
      have hcbr56 := hKr56.cb
      have hQ_56 : qcW G w56 u56 st_58 (L ++ (tstM bt n (qF V bt n 1) st_51).2.1) := hQ_54.go (hs56 29 (by omega)) (hf56 146 (by decide)) (fun q => nsok (by rw [← est_58]; exact q))
      have h25_56 : u56 25 = 5 := (hs56 25 (by omega)).trans h25_54
      refine k_aload_n hC dX12_compileFactor_74 rfl 0 rfl ?_
      refine k_dup hC dX12_compileFactor_75 rfl ?_
      refine k_get hC fd_X12_389 (kl hN (by decide)) hu56 rfl dX12_compileFactor_76 ?_
      refine k_topv (vI 5) (congrArg vI (by omega)) ?_
      refine k_iconst hC dX12_compileFactor_79 ?_
      refine k_isub hC dX12_compileFactor_80 ?_
      refine k_topv (vI 4) (congrArg vI (by decide)) ?_
      refine k_put hC fd_X12_389 (kl hN (by decide)) hu56 [.ref (kad G 134), .ref (kad G 135), .ref (kad G 136), .ref (kad G 137), vI (u56 4), vI (u56 5), vI (u56 6), .ref (kad G 138), .ref (kad G 139), .ref (kad G 140), .ref (kad G 141), .ref (kad G 142), vL (u56 12), vL (u56 13), .ref (kad G 143), vI (u56 15), .ref (kad G 144), vI (u56 17), vI (u56 18), vI (u56 19), vI (u56 20), vI (u56 21), vI (u56 22), vI (u56 23), vI (u56 24), vI 4, .ref (kad G 145), .ref (kad G 146), .ref (kad G 147), vI (u56 29)] rfl (Nat.le_of_ble_eq_true rfl) rfl rfl dX12_compileFactor_81 (fun w59 hw59 hf59 => ?_)
      have hKp60 : mkR (kup u56 25 4) bt n st_58 := hKr56.kup25
      have hQ_60 : qcW G w59 (kup u56 25 4) st_58 (L ++ (tstM bt n (qF V bt n 1) st_51).2.1) := hQ_56.go rfl (hf59 146 (by decide)) (fun q => q)
      have h25_60 : (kup u56 25 4) 25 = 4 := rfl
      have h18p60 := hKp60.1
      have h22p60 := hKp60.2.1
      have hrgp60 := hKp60.2.2.1
      have hcbp60 := hKp60.cb
      refine k_goto hC 160 dX12_compileFactor_84 rfl ?_
      subst hQ
      exact k_vret hC hr ⟨by decide, by decide⟩ (⟨rfl, rfl, ⟨(kup u56 25 4), hw59, (by have e : st_58 = (qF V bt n 2 st).1 := (by rw [qF_p hw31 hw40]; show st_58 = nsP bt n 41 (tstM bt n (qF V bt n 1) (adP bt n st)).1; rw [← est_51, ← est_55]; exact est_58); rw [← e]; exact hKp60), (by have e : st_58 = (qF V bt n 2 st).1 := (by rw [qF_p hw31 hw40]; show st_58 = nsP bt n 41 (tstM bt n (qF V bt n 1) (adP bt n st)).1; rw [← est_51, ← est_55]; exact est_58); rw [← e]; exact hQ_60.cg (fun q => by rw [qF_p hw31 hw40, ← est_51]; rfl)), h25_60, (uQ.tr (uQ.tr (uQ.tr (uQ.tr uQ.rf hs50) hs54) (uS.q hs56)) uQ.put25)⟩, fun j hj => (hf59 j (by omega)).trans ((hf56 j (by omega)).trans ((hf54 j (by omega)).trans (hf50 j (by omega))))⟩) dX12_compileFactor_160
  · have hw31 : isW bt n 31 st := (hz_1.resolve_right (fun q1 => by omega)).2
    have hz0 := hw31.1
    have hzz : st.1 = 0 := by omega
    have hq0 := hK.2.2.2.1 hzz
    have hen := enM_b (bt := bt) hq0.2.2.2
    refine k_aload_n hC dX12_compileFactor_10 rfl 0 rfl ?_
    refine k_muvV hC (c_X12_enter_4 l hls G hN w fl u bt n st L (by omega) hn2 hqc hL h145 h25 hn7 hb hm h144 hK) yy_X12_enter wm_X12_492 (kl hN (by decide)) hm rfl rfl rfl rfl (Nat.le_of_ble_eq_true rfl) (by decide) (by decide) ⟨by decide, by decide⟩ dX12_compileFactor_11 (fun w61 hp61 => ?_)
    obtain ⟨hT61, hf61⟩ := hp61
    obtain ⟨u61, hu61, hKr61, hQ_61, h25_61, hs61⟩ := hT61
    obtain ⟨st_62, est_62⟩ : ∃ z : PS, z = adP bt n st := ⟨_, rfl⟩
    rw [← est_62] at hKr61 hQ_61
    have h18r61 := hKr61.1
    have h22r61 := hKr61.2.1
    have hrgr61 := hKr61.2.2.1
    have hcbr61 := hKr61.cb
    have hzir61 : st_62.1 = 0 := by rw [est_62]; exact ad_c.mpr (by omega)
    have hzzr61 : st_62.1 = 0 := by omega
    have hq0r61 := hKr61.2.2.2.1 hzzr61
    have henr61 := enM_b (bt := bt) hq0r61.2.2.2
    refine k_aload_n hC dX12_compileFactor_14 rfl 0 rfl ?_
    refine k_get hC fd_X12_386 (kl hN (by decide)) hu61 rfl dX12_compileFactor_15 ?_
    refine k_topv (vI 0) (congrArg vI (by omega)) ?_
    refine k_if_ne hC 25 dX12_compileFactor_18 rfl (by omega) (fun c_18 => absurd c_18 (by omega)) (fun c_18 => ?_)
    refine k_aload_n hC dX12_compileFactor_21 rfl 0 rfl ?_
    have h_63 : w61 145 = rA G 6 7 (fun j => some (kadK G (nmI j))) := (hf61 145 (by decide)).trans h145
    have h_64 : w61 144 = iA G 700 bt := (hf61 144 (by decide)).trans h144
    refine k_muvV hC (c_X12_compileFactor_1 l hls G hN w61 fl u61 bt n st_62 L V hn2 hQ_61 (by rw [est_62]; exact hl_ad hle0 hL) h_63 h25_61 hn7 hb hu61 h_64 hKr61) yy_X12_compileFactor wm_X12_495 (kl hN (by decide)) hu61 rfl rfl rfl rfl (Nat.le_of_ble_eq_true rfl) (by decide) (by decide) ⟨by decide, by decide⟩ dX12_compileFactor_22 (fun w65 hp65 => ?_)
    obtain ⟨hT65, hf65⟩ := hp65
    obtain ⟨u65, hu65, hKr65, hQ_65, h25_65, hs65⟩ := hT65
    obtain ⟨st_66, est_66⟩ : ∃ z : PS, z = (qF V bt n 1 st_62).1 := ⟨_, rfl⟩
    rw [← est_66] at hKr65 hQ_65
    have h18r65 := hKr65.1
    have h22r65 := hKr65.2.1
    have hrgr65 := hKr65.2.2.1
    have hcbr65 := hKr65.cb
    refine k_aload_n hC dX12_compileFactor_25 rfl 0 rfl ?_
    refine k_bipush hC dX12_compileFactor_26 (by decide) ?_
    have h_68 : w65 144 = iA G 700 bt := (hf65 144 (by decide)).trans h_64
    refine k_muvV hC (c_X12_emit l hls G hN w65 fl u65 bt n st_66 (L ++ (qF V bt n 1 st_62).2.1) (-23) (by rw [est_66]; rw [est_62]; exact lt_not hn2 hle0 hL (isW_go hw31) (gq_qF 1 _)) hn2 hQ_65 hn7 hb hu65 h_68 hKr65) yy_X12_emit wm_X12_487 (kl hN (by decide)) hu65 rfl rfl rfl rfl (Nat.le_of_ble_eq_true rfl) (by decide) (by decide) ⟨by decide, by decide⟩ dX12_compileFactor_28 (fun w67 hp67 => ?_)
    obtain ⟨⟨u67, hu67, hKr67, hQ_67, hs67⟩, hf67⟩ := hp67
    have h18r67 := hKr67.1
    have h22r67 := hKr67.2.1
    have hrgr67 := hKr67.2.2.1
    have hcbr67 := hKr67.cb
    have h25_67 : u67 25 = 5 := (hs67 25 (by decide)).trans h25_65
    refine k_aload_n hC dX12_compileFactor_31 rfl 0 rfl ?_
    refine k_dup hC dX12_compileFactor_32 rfl ?_
    refine k_get hC fd_X12_389 (kl hN (by decide)) hu67 rfl dX12_compileFactor_33 ?_
    refine k_topv (vI 5) (congrArg vI (by omega)) ?_
    refine k_iconst hC dX12_compileFactor_36 ?_
    refine k_isub hC dX12_compileFactor_37 ?_
    refine k_topv (vI 4) (congrArg vI (by decide)) ?_
    refine k_put hC fd_X12_389 (kl hN (by decide)) hu67 [.ref (kad G 134), .ref (kad G 135), .ref (kad G 136), .ref (kad G 137), vI (u67 4), vI (u67 5), vI (u67 6), .ref (kad G 138), .ref (kad G 139), .ref (kad G 140), .ref (kad G 141), .ref (kad G 142), vL (u67 12), vL (u67 13), .ref (kad G 143), vI (u67 15), .ref (kad G 144), vI (u67 17), vI (u67 18), vI (u67 19), vI (u67 20), vI (u67 21), vI (u67 22), vI (u67 23), vI (u67 24), vI 4, .ref (kad G 145), .ref (kad G 146), .ref (kad G 147), vI (u67 29)] rfl (Nat.le_of_ble_eq_true rfl) rfl rfl dX12_compileFactor_38 (fun w69 hw69 hf69 => ?_)
    have hKp70 : mkR (kup u67 25 4) bt n st_66 := hKr67.kup25
    have hQ_70 : qcW G w69 (kup u67 25 4) st_66 (L ++ (qF V bt n 1 st_62).2.1 ++ [-23]) := hQ_67.go rfl (hf69 146 (by decide)) (fun q => q)
    have h25_70 : (kup u67 25 4) 25 = 4 := rfl
    have h18p70 := hKp70.1
    have h22p70 := hKp70.2.1
    have hrgp70 := hKp70.2.2.1
    have hcbp70 := hKp70.cb
    refine k_goto hC 160 dX12_compileFactor_41 rfl ?_
    subst hQ
    exact k_vret hC hr ⟨by decide, by decide⟩ (⟨rfl, rfl, ⟨(kup u67 25 4), hw69, (by have e : st_66 = (qF V bt n 2 st).1 := (by rw [qF_n hw31]; show st_66 = (qF V bt n 1 (adP bt n st)).1; rw [← est_62]; exact est_66); rw [← e]; exact hKp70), (by have e : st_66 = (qF V bt n 2 st).1 := (by rw [qF_n hw31]; show st_66 = (qF V bt n 1 (adP bt n st)).1; rw [← est_62]; exact est_66); rw [← e]; exact hQ_70.cg (fun q => by rw [qF_n hw31, ← est_62]; show _ = L ++ ((qF V bt n 1 st_62).2.1 ++ [-23]); rw [List.append_assoc])), h25_70, (uQ.tr (uQ.tr (uQ.tr (uQ.tr uQ.rf hs61) hs65) (uQ.e29 hs67)) uQ.put25)⟩, fun j hj => (hf69 j (by omega)).trans ((hf67 j (by omega)).trans ((hf65 j (by omega)).trans (hf61 j (by omega))))⟩) dX12_compileFactor_160

set_option maxRecDepth 100000 in
set_option maxHeartbeats 4000000 in
theorem c_X12_compileConjunction_2 (l : Launch) (hls : l.stackTraces = false) (G : kG) (hN : kN G = 150) (w : Nat → va_E) (fl : va_W) (u bt : Nat → Int) (n : Nat) (st : PS) (L : List Int) (V : Int → Nat → Int) (hn2 : n ≤ 200) (hqc : qcW G w u st L) (hL : st.1 = 0 → L.length ≤ st.2.2) (h145 : w 145 = nmA G) (h25 : u 25 = 4) (hn7 : n ≤ 700) (hb : btOK bt) (hm : w 133 = mdO G u) (h144 : w 144 = iA G 700 bt) (hK : mkR u bt n st) : KM l G yX12_compileConjunction cX12_compileConjunction 1 (none) 13 0 0 [.ref (kad G 133)] w fl (kMuv fl (fun w1 => (∃ u1, w1 133 = mdO G u1 ∧ mkR u1 bt n ((conM bt n (qF V bt n 2) st).1) ∧ qcW G w1 u1 ((conM bt n (qF V bt n 2) st).1) (L ++ (conM bt n (qF V bt n 2) st).2.1) ∧ u1 25 = 4 ∧ uQ u u1) ∧ ∀ j, (j ≠ 133 ∧ j ≠ 146) → w1 j = w j)) := by
  refine KM_of2 hls (by decide +kernel) rfl (lv0 := [(0, .ref (kad G 133))]) rfl (Nat.le_of_ble_eq_true rfl) (fun p e R s m args below meth c Q hC hr hQ => ?_)
  have h18 := hK.1
  have h22 := hK.2.1
  have hrg := hK.2.2.1
  have hcb := hK.cb
  have hk0 := hK.2.2.2.1
  have hk1 := hK.2.2.2.2.1
  have hdg := hK.2.2.2.2.2
  have hle0 := hK.le
  refine k_aload_n hC dX12_compileConjunction_0 rfl 0 rfl ?_
  refine k_muvV hC (c_X12_compileFactor_2 l hls G hN w fl u bt n st L V hn2 hqc hL h145 h25 hn7 hb hm h144 hK) yy_X12_compileFactor wm_X12_495 (kl hN (by decide)) hm rfl rfl rfl rfl (Nat.le_of_ble_eq_true rfl) (by decide) (by decide) ⟨by decide, by decide⟩ dX12_compileConjunction_1 (fun w1 hp1 => ?_)
  obtain ⟨hT1, hf1⟩ := hp1
  obtain ⟨u1, hu1, hKr1, hQ_1, h25_1, hs1⟩ := hT1
  obtain ⟨st_2, est_2⟩ : ∃ z : PS, z = (qF V bt n 2 st).1 := ⟨_, rfl⟩
  rw [← est_2] at hKr1 hQ_1
  have h18r1 := hKr1.1
  have h22r1 := hKr1.2.1
  have hrgr1 := hKr1.2.2.1
  have hcbr1 := hKr1.cb
  have loopw : ∀ (nw : Nat) (k : Nat) (rr : QR) (st9 : PS) (u1 : Nat → Int) (wvw : Nat → va_E), (n < nw + k) → (k ≤ n) → (rr = cjN bt n 37 (-24) (qF V bt n 2) k (qF V bt n 2 st)) → (st9 = rr.1) → (mkR u1 bt n st9) → (qcW G wvw u1 st9 (L ++ rr.2.1)) → (u1 25 = 4) → (uQ u u1) → (wvw 133 = .inr (12, [.ref (kad G 134), .ref (kad G 135), .ref (kad G 136), .ref (kad G 137), vI (u1 4), vI (u1 5), vI (u1 6), .ref (kad G 138), .ref (kad G 139), .ref (kad G 140), .ref (kad G 141), .ref (kad G 142), vL (u1 12), vL (u1 13), .ref (kad G 143), vI (u1 15), .ref (kad G 144), vI (u1 17), vI (u1 18), vI (u1 19), vI (u1 20), vI (u1 21), vI (u1 22), vI (u1 23), vI (u1 24), vI (u1 25), .ref (kad G 145), .ref (kad G 146), .ref (kad G 147), vI (u1 29)])) → (wvw 144 = iA G 700 bt) → (wvw 145 = rA G 6 7 (fun j => some (kadK G (nmI j)))) → ((∀ j, (j ≠ 133 ∧ j ≠ 146) → wvw j = w j)) → KW p l e R s m args below meth c 1 G Q wvw fl 0 0 4 [(0, .ref (kad G 133))] [] := by
    intro nw
    induction nw with
    | zero =>
      intro k rr st9 u1 wvw hn_w hk9 hx hst9 hKv hqv h25v husv hm1 h144 h145 hfrw
      exact absurd hn_w (by omega)
    | succ nw ihw =>
      intro k rr st9 u1 wvw hn_w hk9 hx hst9 hKv hqv h25v husv hm1 h144 h145 hfrw
      have h18v := hKv.1
      have h22v := hKv.2.1
      have hrgv := hKv.2.2.1
      have hcbv := hKv.cb
      have hgq : gq V n st rr := by rw [hx]; exact gq_cjN (Or.inl rfl) (gq_qF 2) k _ (gq_qF 2 st)
      refine k_aload_n hC dX12_compileConjunction_4 rfl 0 rfl ?_
      refine k_ldcsw hC (List.mem_of_getElem? (i := 56) rfl) dX12_compileConjunction_5 ?_
      refine k_mutV hC (c_X12_accept l hls G hN wvw fl u1 bt n st9 37 (by decide) hn7 hb hm1 h144 hKv) yy_X12_accept wm_X12_447 (kl hN (by decide)) hm1 rfl rfl rfl rfl (Nat.le_of_ble_eq_true rfl) (by decide) (by decide) ⟨by decide, by decide⟩ dX12_compileConjunction_8 (fun w3 hp3 => ?_)
      obtain ⟨hT3, hf3⟩ := hp3
      by_cases hw_3 : isW bt n 37 st9
      · rw [selP_1 hw_3] at hT3
        refine k_topv (vI 1) (congrArg vI (selI_1 hw_3)) ?_
        have hwz_3 := hw_3.1
        obtain ⟨u3, hu3, hKr3, hs3⟩ := hT3
        obtain ⟨st_4, est_4⟩ : ∃ z : PS, z = adP bt n st9 := ⟨_, rfl⟩
        rw [← est_4] at hKr3
        have h18r3 := hKr3.1
        have h22r3 := hKr3.2.1
        have hrgr3 := hKr3.2.2.1
        have hcbr3 := hKr3.cb
        have hzir3 : st_4.1 = 0 := by rw [est_4]; exact ad_c.mpr (by omega)
        have hzzr3 : st_4.1 = 0 := by omega
        have hq0r3 := hKr3.2.2.2.1 hzzr3
        have henr3 := enM_b (bt := bt) hq0r3.2.2.2
        have hQ_3 : qcW G w3 u3 st_4 (L ++ rr.2.1) := hqv.go (hs3 29 (by omega)) (hf3 146 (by decide)) (fun q => ad_c.mp (by rw [← est_4]; exact q))
        have h25_3 : u3 25 = 4 := (hs3 25 (by omega)).trans h25v
        refine k_if_eq hC 27 dX12_compileConjunction_11 rfl (by omega) (fun c_11 => absurd c_11 (by omega)) (fun c_11 => ?_)
        refine k_aload_n hC dX12_compileConjunction_14 rfl 0 rfl ?_
        have h_5 : w3 145 = rA G 6 7 (fun j => some (kadK G (nmI j))) := (hf3 145 (by decide)).trans h145
        have h_6 : w3 144 = iA G 700 bt := (hf3 144 (by decide)).trans h144
        refine k_muvV hC (c_X12_compileFactor_2 l hls G hN w3 fl u3 bt n st_4 (L ++ rr.2.1) V hn2 hQ_3 (by rw [est_4]; exact hl_ad hKv.le (by rw [hst9]; exact hl_gq hle0 hL hgq)) h_5 h25_3 hn7 hb hu3 h_6 hKr3) yy_X12_compileFactor wm_X12_495 (kl hN (by decide)) hu3 rfl rfl rfl rfl (Nat.le_of_ble_eq_true rfl) (by decide) (by decide) ⟨by decide, by decide⟩ dX12_compileConjunction_15 (fun w7 hp7 => ?_)
        obtain ⟨hT7, hf7⟩ := hp7
        obtain ⟨u7, hu7, hKr7, hQ_7, h25_7, hs7⟩ := hT7
        obtain ⟨st_8, est_8⟩ : ∃ z : PS, z = (qF V bt n 2 st_4).1 := ⟨_, rfl⟩
        rw [← est_8] at hKr7 hQ_7
        have h18r7 := hKr7.1
        have h22r7 := hKr7.2.1
        have hrgr7 := hKr7.2.2.1
        have hcbr7 := hKr7.cb
        have hwr : isW bt n 37 rr.1 := by rw [← hst9]; exact hw_3
        refine k_aload_n hC dX12_compileConjunction_18 rfl 0 rfl ?_
        refine k_bipush hC dX12_compileConjunction_19 (by decide) ?_
        have h_10 : w7 144 = iA G 700 bt := (hf7 144 (by decide)).trans h_6
        refine k_muvV hC (c_X12_emit l hls G hN w7 fl u7 bt n st_8 (L ++ rr.2.1 ++ (qF V bt n 2 st_4).2.1) (-24) (by rw [est_8, est_4, hst9]; exact lt_and (V := V) (Or.inl rfl) hn2 hle0 hL (isW_go hwr) hgq (gq_qF 2 _)) hn2 hQ_7 hn7 hb hu7 h_10 hKr7) yy_X12_emit wm_X12_487 (kl hN (by decide)) hu7 rfl rfl rfl rfl (Nat.le_of_ble_eq_true rfl) (by decide) (by decide) ⟨by decide, by decide⟩ dX12_compileConjunction_21 (fun w9 hp9 => ?_)
        obtain ⟨⟨u9, hu9, hKr9, hQ_9, hs9⟩, hf9⟩ := hp9
        have h18r9 := hKr9.1
        have h22r9 := hKr9.2.1
        have hrgr9 := hKr9.2.2.1
        have hcbr9 := hKr9.cb
        have h25_9 : u9 25 = 4 := (hs9 25 (by decide)).trans h25_7
        refine k_goto hC 4 dX12_compileConjunction_24 rfl ?_
        have h_11 : w9 144 = iA G 700 bt := (hf9 144 (by decide)).trans h_10
        have h_12 : w9 145 = rA G 6 7 (fun j => some (kadK G (nmI j))) := (hf9 145 (by decide)).trans ((hf7 145 (by decide)).trans h_5)
        exact ihw (k + 1) (and2 (-24) rr (qF V bt n 2 st_4)) st_8 u9 w9 (by omega) (by have h8 := cjN_pos hle0 (Or.inl rfl) (gq_qF 2) k _ (gq_qF 2 st) (by rw [← hx]; exact hwr); rw [← hx] at h8; have h9 := enM_lt9 (bt := bt) (n := n) (s := rr.1.2.2) (by rw [hwr.2.1]; decide); omega) (by rw [cjN_go k _ (by rw [← hx]; exact hwr), ← hx, est_4, hst9]) est_8 hKr9 (hQ_9.cg (fun _ => by show _ = L ++ (rr.2.1 ++ (qF V bt n 2 st_4).2.1 ++ [-24]); simp only [List.append_assoc])) h25_9 (uQ.tr (uQ.tr (uQ.tr husv (uS.q hs3)) hs7) (uQ.e29 hs9)) hu9 h_11 h_12 (fun j hj => (hf9 j (by omega)).trans ((hf7 j (by omega)).trans ((hf3 j (by omega)).trans (hfrw j (by omega)))))
      · rw [selP_0 hw_3] at hT3
        refine k_topv (vI 0) (congrArg vI (selI_0 hw_3)) ?_
        obtain ⟨u3, hu3, hKr3, hs3⟩ := hT3
        have h18r3 := hKr3.1
        have h22r3 := hKr3.2.1
        have hrgr3 := hKr3.2.2.1
        have hcbr3 := hKr3.cb
        have hQ_3 : qcW G w3 u3 st9 (L ++ rr.2.1) := hqv.go (hs3 29 (by omega)) (hf3 146 (by decide)) (fun q => q)
        have h25_3 : u3 25 = 4 := (hs3 25 (by omega)).trans h25v
        refine k_if_eq hC 27 dX12_compileConjunction_11 rfl (by omega) (fun c_11 => ?_) (fun c_11 => absurd c_11 (by omega))
        have hfin : rr = conM bt n (qF V bt n 2) st := by rw [hx]; exact cjN_eq (by rw [← hx, ← hst9]; exact hw_3) (cjN_end hn2 hle0 (Or.inl rfl) (gq_qF 2) (gq_qF 2 st))
        subst hQ
        exact k_vret hC hr ⟨by decide, by decide⟩ (⟨rfl, rfl, ⟨u3, hu3, (by have e : st9 = (conM bt n (qF V bt n 2) st).1 := (by rw [← hfin]; exact hst9); rw [← e]; exact hKr3), (by have e : st9 = (conM bt n (qF V bt n 2) st).1 := (by rw [← hfin]; exact hst9); rw [← e]; exact hQ_3.cg (fun q => by rw [← hfin])), h25_3, (uQ.tr husv (uS.q hs3))⟩, fun j hj => (hf3 j (by omega)).trans (hfrw j (by omega))⟩) dX12_compileConjunction_27
  have h_13 : w1 144 = iA G 700 bt := (hf1 144 (by decide)).trans h144
  have h_14 : w1 145 = rA G 6 7 (fun j => some (kadK G (nmI j))) := (hf1 145 (by decide)).trans h145
  exact loopw (n + 1) 0 (qF V bt n 2 st) st_2 u1 w1 (by omega) (by omega) rfl est_2 hKr1 hQ_1 h25_1 (uQ.tr uQ.rf hs1) hu1 h_13 h_14 (fun j hj => hf1 j (by omega))

set_option maxRecDepth 100000 in
set_option maxHeartbeats 4000000 in
theorem c_X12_compileTest_2 (l : Launch) (hls : l.stackTraces = false) (G : kG) (hN : kN G = 150) (w : Nat → va_E) (fl : va_W) (u bt : Nat → Int) (n : Nat) (st : PS) (L : List Int) (V : Int → Nat → Int) (hn2 : n ≤ 200) (hqc : qcW G w u st L) (hL : st.1 = 0 → L.length ≤ st.2.2) (h145 : w 145 = nmA G) (h25 : u 25 = 4) (hn7 : n ≤ 700) (hb : btOK bt) (hm : w 133 = mdO G u) (h144 : w 144 = iA G 700 bt) (hK : mkR u bt n st) : KM l G yX12_compileTest cX12_compileTest 1 (none) 14 0 0 [.ref (kad G 133)] w fl (kMuv fl (fun w1 => (∃ u1, w1 133 = mdO G u1 ∧ mkR u1 bt n ((tstM bt n (qF V bt n 2) st).1) ∧ qcW G w1 u1 ((tstM bt n (qF V bt n 2) st).1) (L ++ (tstM bt n (qF V bt n 2) st).2.1) ∧ u1 25 = 4 ∧ uQ u u1) ∧ ∀ j, (j ≠ 133 ∧ j ≠ 146) → w1 j = w j)) := by
  refine KM_of2 hls (by decide +kernel) rfl (lv0 := [(0, .ref (kad G 133))]) rfl (Nat.le_of_ble_eq_true rfl) (fun p e R s m args below meth c Q hC hr hQ => ?_)
  have h18 := hK.1
  have h22 := hK.2.1
  have hrg := hK.2.2.1
  have hcb := hK.cb
  have hk0 := hK.2.2.2.1
  have hk1 := hK.2.2.2.2.1
  have hdg := hK.2.2.2.2.2
  have hle0 := hK.le
  refine k_aload_n hC dX12_compileTest_0 rfl 0 rfl ?_
  refine k_muvV hC (c_X12_compileConjunction_2 l hls G hN w fl u bt n st L V hn2 hqc hL h145 h25 hn7 hb hm h144 hK) yy_X12_compileConjunction wm_X12_506 (kl hN (by decide)) hm rfl rfl rfl rfl (Nat.le_of_ble_eq_true rfl) (by decide) (by decide) ⟨by decide, by decide⟩ dX12_compileTest_1 (fun w1 hp1 => ?_)
  obtain ⟨hT1, hf1⟩ := hp1
  obtain ⟨u1, hu1, hKr1, hQ_1, h25_1, hs1⟩ := hT1
  obtain ⟨st_2, est_2⟩ : ∃ z : PS, z = (conM bt n (qF V bt n 2) st).1 := ⟨_, rfl⟩
  rw [← est_2] at hKr1 hQ_1
  have h18r1 := hKr1.1
  have h22r1 := hKr1.2.1
  have hrgr1 := hKr1.2.2.1
  have hcbr1 := hKr1.cb
  have loopw : ∀ (nw : Nat) (k : Nat) (rr : QR) (st9 : PS) (u1 : Nat → Int) (wvw : Nat → va_E), (n < nw + k) → (k ≤ n) → (rr = cjN bt n 38 (-25) (conM bt n (qF V bt n 2)) k (conM bt n (qF V bt n 2) st)) → (st9 = rr.1) → (mkR u1 bt n st9) → (qcW G wvw u1 st9 (L ++ rr.2.1)) → (u1 25 = 4) → (uQ u u1) → (wvw 133 = .inr (12, [.ref (kad G 134), .ref (kad G 135), .ref (kad G 136), .ref (kad G 137), vI (u1 4), vI (u1 5), vI (u1 6), .ref (kad G 138), .ref (kad G 139), .ref (kad G 140), .ref (kad G 141), .ref (kad G 142), vL (u1 12), vL (u1 13), .ref (kad G 143), vI (u1 15), .ref (kad G 144), vI (u1 17), vI (u1 18), vI (u1 19), vI (u1 20), vI (u1 21), vI (u1 22), vI (u1 23), vI (u1 24), vI (u1 25), .ref (kad G 145), .ref (kad G 146), .ref (kad G 147), vI (u1 29)])) → (wvw 144 = iA G 700 bt) → (wvw 145 = rA G 6 7 (fun j => some (kadK G (nmI j)))) → ((∀ j, (j ≠ 133 ∧ j ≠ 146) → wvw j = w j)) → KW p l e R s m args below meth c 1 G Q wvw fl 0 0 4 [(0, .ref (kad G 133))] [] := by
    intro nw
    induction nw with
    | zero =>
      intro k rr st9 u1 wvw hn_w hk9 hx hst9 hKv hqv h25v husv hm1 h144 h145 hfrw
      exact absurd hn_w (by omega)
    | succ nw ihw =>
      intro k rr st9 u1 wvw hn_w hk9 hx hst9 hKv hqv h25v husv hm1 h144 h145 hfrw
      have h18v := hKv.1
      have h22v := hKv.2.1
      have hrgv := hKv.2.2.1
      have hcbv := hKv.cb
      have hgq : gq V n st rr := by rw [hx]; exact gq_cjN (Or.inr rfl) (gq_con (gq_qF 2)) k _ (gq_con (gq_qF 2) st)
      refine k_aload_n hC dX12_compileTest_4 rfl 0 rfl ?_
      refine k_ldcsw hC (List.mem_of_getElem? (i := 57) rfl) dX12_compileTest_5 ?_
      refine k_mutV hC (c_X12_accept l hls G hN wvw fl u1 bt n st9 38 (by decide) hn7 hb hm1 h144 hKv) yy_X12_accept wm_X12_447 (kl hN (by decide)) hm1 rfl rfl rfl rfl (Nat.le_of_ble_eq_true rfl) (by decide) (by decide) ⟨by decide, by decide⟩ dX12_compileTest_8 (fun w3 hp3 => ?_)
      obtain ⟨hT3, hf3⟩ := hp3
      by_cases hw_3 : isW bt n 38 st9
      · rw [selP_1 hw_3] at hT3
        refine k_topv (vI 1) (congrArg vI (selI_1 hw_3)) ?_
        have hwz_3 := hw_3.1
        obtain ⟨u3, hu3, hKr3, hs3⟩ := hT3
        obtain ⟨st_4, est_4⟩ : ∃ z : PS, z = adP bt n st9 := ⟨_, rfl⟩
        rw [← est_4] at hKr3
        have h18r3 := hKr3.1
        have h22r3 := hKr3.2.1
        have hrgr3 := hKr3.2.2.1
        have hcbr3 := hKr3.cb
        have hzir3 : st_4.1 = 0 := by rw [est_4]; exact ad_c.mpr (by omega)
        have hzzr3 : st_4.1 = 0 := by omega
        have hq0r3 := hKr3.2.2.2.1 hzzr3
        have henr3 := enM_b (bt := bt) hq0r3.2.2.2
        have hQ_3 : qcW G w3 u3 st_4 (L ++ rr.2.1) := hqv.go (hs3 29 (by omega)) (hf3 146 (by decide)) (fun q => ad_c.mp (by rw [← est_4]; exact q))
        have h25_3 : u3 25 = 4 := (hs3 25 (by omega)).trans h25v
        refine k_if_eq hC 27 dX12_compileTest_11 rfl (by omega) (fun c_11 => absurd c_11 (by omega)) (fun c_11 => ?_)
        refine k_aload_n hC dX12_compileTest_14 rfl 0 rfl ?_
        have h_5 : w3 145 = rA G 6 7 (fun j => some (kadK G (nmI j))) := (hf3 145 (by decide)).trans h145
        have h_6 : w3 144 = iA G 700 bt := (hf3 144 (by decide)).trans h144
        refine k_muvV hC (c_X12_compileConjunction_2 l hls G hN w3 fl u3 bt n st_4 (L ++ rr.2.1) V hn2 hQ_3 (by rw [est_4]; exact hl_ad hKv.le (by rw [hst9]; exact hl_gq hle0 hL hgq)) h_5 h25_3 hn7 hb hu3 h_6 hKr3) yy_X12_compileConjunction wm_X12_506 (kl hN (by decide)) hu3 rfl rfl rfl rfl (Nat.le_of_ble_eq_true rfl) (by decide) (by decide) ⟨by decide, by decide⟩ dX12_compileTest_15 (fun w7 hp7 => ?_)
        obtain ⟨hT7, hf7⟩ := hp7
        obtain ⟨u7, hu7, hKr7, hQ_7, h25_7, hs7⟩ := hT7
        obtain ⟨st_8, est_8⟩ : ∃ z : PS, z = (conM bt n (qF V bt n 2) st_4).1 := ⟨_, rfl⟩
        rw [← est_8] at hKr7 hQ_7
        have h18r7 := hKr7.1
        have h22r7 := hKr7.2.1
        have hrgr7 := hKr7.2.2.1
        have hcbr7 := hKr7.cb
        have hwr : isW bt n 38 rr.1 := by rw [← hst9]; exact hw_3
        refine k_aload_n hC dX12_compileTest_18 rfl 0 rfl ?_
        refine k_bipush hC dX12_compileTest_19 (by decide) ?_
        have h_10 : w7 144 = iA G 700 bt := (hf7 144 (by decide)).trans h_6
        refine k_muvV hC (c_X12_emit l hls G hN w7 fl u7 bt n st_8 (L ++ rr.2.1 ++ (conM bt n (qF V bt n 2) st_4).2.1) (-25) (by rw [est_8, est_4, hst9]; exact lt_and (V := V) (Or.inr rfl) hn2 hle0 hL (isW_go hwr) hgq (gq_con (gq_qF 2) _)) hn2 hQ_7 hn7 hb hu7 h_10 hKr7) yy_X12_emit wm_X12_487 (kl hN (by decide)) hu7 rfl rfl rfl rfl (Nat.le_of_ble_eq_true rfl) (by decide) (by decide) ⟨by decide, by decide⟩ dX12_compileTest_21 (fun w9 hp9 => ?_)
        obtain ⟨⟨u9, hu9, hKr9, hQ_9, hs9⟩, hf9⟩ := hp9
        have h18r9 := hKr9.1
        have h22r9 := hKr9.2.1
        have hrgr9 := hKr9.2.2.1
        have hcbr9 := hKr9.cb
        have h25_9 : u9 25 = 4 := (hs9 25 (by decide)).trans h25_7
        refine k_goto hC 4 dX12_compileTest_24 rfl ?_
        have h_11 : w9 144 = iA G 700 bt := (hf9 144 (by decide)).trans h_10
        have h_12 : w9 145 = rA G 6 7 (fun j => some (kadK G (nmI j))) := (hf9 145 (by decide)).trans ((hf7 145 (by decide)).trans h_5)
        exact ihw (k + 1) (and2 (-25) rr (conM bt n (qF V bt n 2) st_4)) st_8 u9 w9 (by omega) (by have h8 := cjN_pos hle0 (Or.inr rfl) (gq_con (gq_qF 2)) k _ (gq_con (gq_qF 2) st) (by rw [← hx]; exact hwr); rw [← hx] at h8; have h9 := enM_lt9 (bt := bt) (n := n) (s := rr.1.2.2) (by rw [hwr.2.1]; decide); omega) (by rw [cjN_go k _ (by rw [← hx]; exact hwr), ← hx, est_4, hst9]) est_8 hKr9 (hQ_9.cg (fun _ => by show _ = L ++ (rr.2.1 ++ (conM bt n (qF V bt n 2) st_4).2.1 ++ [-25]); simp only [List.append_assoc])) h25_9 (uQ.tr (uQ.tr (uQ.tr husv (uS.q hs3)) hs7) (uQ.e29 hs9)) hu9 h_11 h_12 (fun j hj => (hf9 j (by omega)).trans ((hf7 j (by omega)).trans ((hf3 j (by omega)).trans (hfrw j (by omega)))))
      · rw [selP_0 hw_3] at hT3
        refine k_topv (vI 0) (congrArg vI (selI_0 hw_3)) ?_
        obtain ⟨u3, hu3, hKr3, hs3⟩ := hT3
        have h18r3 := hKr3.1
        have h22r3 := hKr3.2.1
        have hrgr3 := hKr3.2.2.1
        have hcbr3 := hKr3.cb
        have hQ_3 : qcW G w3 u3 st9 (L ++ rr.2.1) := hqv.go (hs3 29 (by omega)) (hf3 146 (by decide)) (fun q => q)
        have h25_3 : u3 25 = 4 := (hs3 25 (by omega)).trans h25v
        refine k_if_eq hC 27 dX12_compileTest_11 rfl (by omega) (fun c_11 => ?_) (fun c_11 => absurd c_11 (by omega))
        have hfin : rr = tstM bt n (qF V bt n 2) st := by rw [hx]; exact cjN_eq (by rw [← hx, ← hst9]; exact hw_3) (cjN_end hn2 hle0 (Or.inr rfl) (gq_con (gq_qF 2)) (gq_con (gq_qF 2) st))
        subst hQ
        exact k_vret hC hr ⟨by decide, by decide⟩ (⟨rfl, rfl, ⟨u3, hu3, (by have e : st9 = (tstM bt n (qF V bt n 2) st).1 := (by rw [← hfin]; exact hst9); rw [← e]; exact hKr3), (by have e : st9 = (tstM bt n (qF V bt n 2) st).1 := (by rw [← hfin]; exact hst9); rw [← e]; exact hQ_3.cg (fun q => by rw [← hfin])), h25_3, (uQ.tr husv (uS.q hs3))⟩, fun j hj => (hf3 j (by omega)).trans (hfrw j (by omega))⟩) dX12_compileTest_27
  have h_13 : w1 144 = iA G 700 bt := (hf1 144 (by decide)).trans h144
  have h_14 : w1 145 = rA G 6 7 (fun j => some (kadK G (nmI j))) := (hf1 145 (by decide)).trans h145
  exact loopw (n + 1) 0 (conM bt n (qF V bt n 2) st) st_2 u1 w1 (by omega) (by omega) rfl est_2 hKr1 hQ_1 h25_1 (uQ.tr uQ.rf hs1) hu1 h_13 h_14 (fun j hj => hf1 j (by omega))

set_option maxRecDepth 100000 in
set_option maxHeartbeats 4000000 in
theorem c_X12_compileFactor_3 (l : Launch) (hls : l.stackTraces = false) (G : kG) (hN : kN G = 150) (w : Nat → va_E) (fl : va_W) (u bt : Nat → Int) (n : Nat) (st : PS) (L : List Int) (V : Int → Nat → Int) (hn2 : n ≤ 200) (hqc : qcW G w u st L) (hL : st.1 = 0 → L.length ≤ st.2.2) (h145 : w 145 = nmA G) (h25 : u 25 = 3) (hn7 : n ≤ 700) (hb : btOK bt) (hm : w 133 = mdO G u) (h144 : w 144 = iA G 700 bt) (hK : mkR u bt n st) : KM l G yX12_compileFactor cX12_compileFactor 2 (none) 15 0 0 [.ref (kad G 133)] w fl (kMuv fl (fun w1 => (∃ u1, w1 133 = mdO G u1 ∧ mkR u1 bt n ((qF V bt n 3 st).1) ∧ qcW G w1 u1 ((qF V bt n 3 st).1) (L ++ (qF V bt n 3 st).2.1) ∧ u1 25 = 3 ∧ uQ u u1) ∧ ∀ j, (j ≠ 133 ∧ j ≠ 146) → w1 j = w j)) := by
  refine KM_of2 hls (by decide +kernel) rfl (lv0 := [(0, .ref (kad G 133))]) rfl (Nat.le_of_ble_eq_true rfl) (fun p e R s m args below meth c Q hC hr hQ => ?_)
  have h18 := hK.1
  have h22 := hK.2.1
  have hrg := hK.2.2.1
  have hcb := hK.cb
  have hk0 := hK.2.2.2.1
  have hk1 := hK.2.2.2.2.1
  have hdg := hK.2.2.2.2.2
  have hle0 := hK.le
  refine k_aload_n hC dX12_compileFactor_0 rfl 0 rfl ?_
  refine k_ldcsw hC (List.mem_of_getElem? (i := 55) rfl) dX12_compileFactor_1 ?_
  refine k_pureV hC (c_X12_isWord l hls G hN w fl u bt n st 31 (by decide) hn7 hb hm h144 hK) yy_X12_isWord wm_X12_409 (kl hN (by decide)) hm rfl rfl rfl rfl (Nat.le_of_ble_eq_true rfl) (by decide) (by decide) ⟨by decide, by decide⟩ dX12_compileFactor_4 ?_
  obtain ⟨z_1, ez_1, hz_1⟩ := selI_c (isW bt n 31 st)
  refine k_topv (vI z_1) (by rw [ez_1]) ?_
  refine k_if_eq hC 44 dX12_compileFactor_7 rfl (by omega) (fun c_7 => ?_) (fun c_7 => ?_)
  · have hw31 : ¬ isW bt n 31 st := (hz_1.resolve_left (fun q1 => by omega)).2
    refine k_aload_n hC dX12_compileFactor_44 rfl 0 rfl ?_
    refine k_bipush hC dX12_compileFactor_45 (by decide) ?_
    refine k_pureV hC (c_X12_isSymbol l hls G hN w fl u bt n st 40 (by omega) hn7 hb hm h144 hK) yy_X12_isSymbol wm_X12_420 (kl hN (by decide)) hm rfl rfl rfl rfl (Nat.le_of_ble_eq_true rfl) (by decide) (by decide) ⟨by decide, by decide⟩ dX12_compileFactor_47 ?_
    obtain ⟨z_2, ez_2, hz_2⟩ := selI_c (isS bt n 40 st)
    refine k_topv (vI z_2) (by rw [ez_2]) ?_
    refine k_if_eq hC 87 dX12_compileFactor_50 rfl (by omega) (fun c_50 => ?_) (fun c_50 => ?_)
    · have hw40 : ¬ isS bt n 40 st := (hz_2.resolve_left (fun q1 => by omega)).2
      have hqF := qF_c (V := V) 3 hw31 hw40
      refine k_aload_n hC dX12_compileFactor_87 rfl 0 rfl ?_
      refine k_muvV hC (c_X12_compileValue l hls G hN w fl u bt n st L 3 hn2 hqc hL h145 h25 hn7 hb hm h144 hK) yy_X12_compileValue wm_X12_501 (kl hN (by decide)) hm rfl rfl rfl rfl (Nat.le_of_ble_eq_true rfl) (by decide) (by decide) ⟨by decide, by decide⟩ dX12_compileFactor_88 (fun w3 hp3 => ?_)
      obtain ⟨hT3, hf3⟩ := hp3
      obtain ⟨u3, hu3, hKr3, hQ_3, h25_3, hs3⟩ := hT3
      obtain ⟨st_4, est_4⟩ : ∃ z : PS, z = vlS bt n st := ⟨_, rfl⟩
      rw [← est_4] at hKr3 hQ_3
      have h18r3 := hKr3.1
      have h22r3 := hKr3.2.1
      have hrgr3 := hKr3.2.2.1
      have hcbr3 := hKr3.cb
      refine k_aload_n hC dX12_compileFactor_91 rfl 0 rfl ?_
      refine k_bipush hC dX12_compileFactor_92 (by decide) ?_
      have h_5 : w3 144 = iA G 700 bt := (hf3 144 (by decide)).trans h144
      refine k_pureV hC (c_X12_isSymbol l hls G hN w3 fl u3 bt n st_4 60 (by omega) hn7 hb hu3 h_5 hKr3) yy_X12_isSymbol wm_X12_420 (kl hN (by decide)) hu3 rfl rfl rfl rfl (Nat.le_of_ble_eq_true rfl) (by decide) (by decide) ⟨by decide, by decide⟩ dX12_compileFactor_94 ?_
      obtain ⟨z_6, ez_6, hz_6⟩ := selI_c (isS bt n 60 st_4)
      refine k_topv (vI z_6) (by rw [ez_6]) ?_
      refine k_if_eq hC 105 dX12_compileFactor_97 rfl (by omega) (fun c_97 => ?_) (fun c_97 => ?_)
      · refine k_aload_n hC dX12_compileFactor_105 rfl 0 rfl ?_
        refine k_bipush hC dX12_compileFactor_106 (by decide) ?_
        refine k_pureV hC (c_X12_isSymbol l hls G hN w3 fl u3 bt n st_4 61 (by omega) hn7 hb hu3 h_5 hKr3) yy_X12_isSymbol wm_X12_420 (kl hN (by decide)) hu3 rfl rfl rfl rfl (Nat.le_of_ble_eq_true rfl) (by decide) (by decide) ⟨by decide, by decide⟩ dX12_compileFactor_108 ?_
        obtain ⟨z_7, ez_7, hz_7⟩ := selI_c (isS bt n 61 st_4)
        refine k_topv (vI z_7) (by rw [ez_7]) ?_
        refine k_if_eq hC 119 dX12_compileFactor_111 rfl (by omega) (fun c_111 => ?_) (fun c_111 => ?_)
        · refine k_bipush hC dX12_compileFactor_119 (by decide) ?_
          refine k_istore_n hC [(1, vI (-22)), (0, .ref (kad G 133))] dX12_compileFactor_121 rfl (by decide) rfl ?_
          refine k_aload_n hC dX12_compileFactor_122 rfl 1 rfl ?_
          refine k_iload_n hC dX12_compileFactor_123 rfl 0 rfl ?_
          refine k_bipush hC dX12_compileFactor_124 (by decide) ?_
          refine k_icmp_ne hC 138 dX12_compileFactor_126 rfl (by omega) (by omega) (fun c_126 => absurd c_126 (by omega)) (fun c_126 => ?_)
          refine k_aload_n hC dX12_compileFactor_129 rfl 1 rfl ?_
          refine k_bipush hC dX12_compileFactor_130 (by decide) ?_
          refine k_pureV hC (c_X12_isSymbol l hls G hN w3 fl u3 bt n st_4 62 (by omega) hn7 hb hu3 h_5 hKr3) yy_X12_isSymbol wm_X12_420 (kl hN (by decide)) hu3 rfl rfl rfl rfl (Nat.le_of_ble_eq_true rfl) (by decide) (by decide) ⟨by decide, by decide⟩ dX12_compileFactor_132 ?_
          obtain ⟨z_8, ez_8, hz_8⟩ := selI_c (isS bt n 62 st_4)
          refine k_topv (vI z_8) (by rw [ez_8]) ?_
          refine k_if_eq hC 142 dX12_compileFactor_135 rfl (by omega) (fun c_135 => ?_) (fun c_135 => ?_)
          · refine k_iconst hC dX12_compileFactor_142 ?_
            refine k_iconst hC dX12_compileFactor_143 ?_
            refine k_muvV hC (c_X12_check0 l hls G hN w3 fl u3 bt n st_4 1 (by omega) hn7 hb hu3 h_5 hKr3) yy_X12_check wm_X12_413 (kl hN (by decide)) hu3 rfl rfl rfl rfl (Nat.le_of_ble_eq_true rfl) (by decide) (by decide) ⟨by decide, by decide⟩ dX12_compileFactor_144 (fun w9 hp9 => ?_)
            obtain ⟨hT9, hf9⟩ := hp9
            obtain ⟨u9, hu9, hKr9, hs9⟩ := hT9
            obtain ⟨st_10, est_10⟩ : ∃ z : PS, z = flP 1 st_4 := ⟨_, rfl⟩
            rw [← est_10] at hKr9
            have h18r9 := hKr9.1
            have h22r9 := hKr9.2.1
            have hrgr9 := hKr9.2.2.1
            have hcbr9 := hKr9.cb
            have hzzr9 : st_10.1 ≠ 0 := by rw [est_10]; exact fl_c (by omega)
            have hQ_9 : qcW G w9 u9 st_10 (L ++ [vlC bt n st]) := hQ_3.go (hs9 29 (by omega)) (hf9 146 (by decide)) (fun q => absurd q hzzr9)
            have h25_9 : u9 25 = 3 := (hs9 25 (by omega)).trans h25_3
            refine k_aload_n hC dX12_compileFactor_147 rfl 1 rfl ?_
            have h_12 : w9 144 = iA G 700 bt := (hf9 144 (by decide)).trans h_5
            refine k_muvV hC (c_X12_advance l hls G hN w9 fl u9 bt n st_10  hn7 hb hu9 h_12 hKr9) yy_X12_advance wm_X12_417 (kl hN (by decide)) hu9 rfl rfl rfl rfl (Nat.le_of_ble_eq_true rfl) (by decide) (by decide) ⟨by decide, by decide⟩ dX12_compileFactor_148 (fun w11 hp11 => ?_)
            obtain ⟨hT11, hf11⟩ := hp11
            obtain ⟨u11, hu11, hKr11, hs11⟩ := hT11
            obtain ⟨st_13, est_13⟩ : ∃ z : PS, z = adP bt n st_10 := ⟨_, rfl⟩
            rw [← est_13] at hKr11
            have h18r11 := hKr11.1
            have h22r11 := hKr11.2.1
            have hrgr11 := hKr11.2.2.1
            have hcbr11 := hKr11.cb
            have hzzr11 : st_13.1 ≠ 0 := by rw [est_13, adP_e (by omega)]; omega
            have hQ_11 : qcW G w11 u11 st_13 (L ++ [vlC bt n st]) := hQ_9.go (hs11 29 (by omega)) (hf11 146 (by decide)) (fun q => ad_c.mp (by rw [← est_13]; exact q))
            have h25_11 : u11 25 = 3 := (hs11 25 (by omega)).trans h25_9
            have hop : opM bt n st_4 = -22 := (selI_0 (hz_6.resolve_left (fun q1 => by omega)).2).trans (selI_0 (hz_7.resolve_left (fun q1 => by omega)).2)
            have hob9 : st_13 = opS bt n st_4 := by unfold opS; rw [selP_0 (fun q => q.elim (hz_6.resolve_left (fun q1 => by omega)).2 (fun q => q.elim (hz_7.resolve_left (fun q1 => by omega)).2 (hz_8.resolve_left (fun q1 => by omega)).2)), ← est_10]; exact est_13
            refine k_aload_n hC dX12_compileFactor_151 rfl 1 rfl ?_
            have h_14 : w11 145 = rA G 6 7 (fun j => some (kadK G (nmI j))) := (hf11 145 (by decide)).trans ((hf9 145 (by decide)).trans ((hf3 145 (by decide)).trans h145))
            have h_15 : w11 144 = iA G 700 bt := (hf11 144 (by decide)).trans h_12
            refine k_muvV hC (c_X12_compileValue l hls G hN w11 fl u11 bt n st_13 (L ++ [vlC bt n st]) 3 hn2 hQ_11 (by rw [hob9, est_4]; exact hl_cmp hle0 hL) h_14 h25_11 hn7 hb hu11 h_15 hKr11) yy_X12_compileValue wm_X12_501 (kl hN (by decide)) hu11 rfl rfl rfl rfl (Nat.le_of_ble_eq_true rfl) (by decide) (by decide) ⟨by decide, by decide⟩ dX12_compileFactor_152 (fun w16 hp16 => ?_)
            obtain ⟨hT16, hf16⟩ := hp16
            obtain ⟨u16, hu16, hKr16, hQ_16, h25_16, hs16⟩ := hT16
            obtain ⟨st_17, est_17⟩ : ∃ z : PS, z = vlS bt n st_13 := ⟨_, rfl⟩
            rw [← est_17] at hKr16 hQ_16
            have h18r16 := hKr16.1
            have h22r16 := hKr16.2.1
            have hrgr16 := hKr16.2.2.1
            have hcbr16 := hKr16.cb
            have hob : st_13 = opS bt n st_4 := by exact hob9
            refine k_aload_n hC dX12_compileFactor_155 rfl 1 rfl ?_
            refine k_iload_n hC dX12_compileFactor_156 rfl 0 rfl ?_
            have h_19 : w16 144 = iA G 700 bt := (hf16 144 (by decide)).trans h_15
            refine k_muvV hC (c_X12_emit l hls G hN w16 fl u16 bt n st_17 (L ++ [vlC bt n st] ++ [vlC bt n st_13]) (-22) (by rw [est_17, hob, est_4]; exact lt_cmp hn2 hle0 hL) hn2 hQ_16 hn7 hb hu16 h_19 hKr16) yy_X12_emit wm_X12_487 (kl hN (by decide)) hu16 rfl rfl rfl rfl (Nat.le_of_ble_eq_true rfl) (by decide) (by decide) ⟨by decide, by decide⟩ dX12_compileFactor_157 (fun w18 hp18 => ?_)
            obtain ⟨⟨u18, hu18, hKr18, hQ_18, hs18⟩, hf18⟩ := hp18
            have h18r18 := hKr18.1
            have h22r18 := hKr18.2.1
            have hrgr18 := hKr18.2.2.1
            have hcbr18 := hKr18.cb
            have h25_18 : u18 25 = 3 := (hs18 25 (by decide)).trans h25_16
            subst hQ
            exact k_vret hC hr ⟨by decide, by decide⟩ (⟨rfl, rfl, ⟨u18, hu18, (by have e : st_17 = (qF V bt n 3 st).1 := (by rw [hqF]; show st_17 = vlS bt n (opS bt n (vlS bt n st)); rw [← est_4, ← hob9]; exact est_17); rw [← e]; exact hKr18), (by have e : st_17 = (qF V bt n 3 st).1 := (by rw [hqF]; show st_17 = vlS bt n (opS bt n (vlS bt n st)); rw [← est_4, ← hob9]; exact est_17); rw [← e]; exact hQ_18.cg (fun q => by rw [hqF]; show _ = L ++ [vlC bt n st, vlC bt n (opS bt n (vlS bt n st)), opM bt n (vlS bt n st)]; rw [← est_4, hop, ← hob9, List.append_assoc, List.append_assoc]; rfl)), h25_18, (uQ.tr (uQ.tr (uQ.tr (uQ.tr (uQ.tr uQ.rf hs3) (uS.q hs9)) (uS.q hs11)) hs16) (uQ.e29 hs18))⟩, fun j hj => (hf18 j (by omega)).trans ((hf16 j (by omega)).trans ((hf11 j (by omega)).trans ((hf9 j (by omega)).trans (hf3 j (by omega)))))⟩) dX12_compileFactor_160
          · refine k_iconst hC dX12_compileFactor_138 ?_
            refine k_goto hC 143 dX12_compileFactor_139 rfl ?_
            refine k_iconst hC dX12_compileFactor_143 ?_
            refine k_muvV hC (c_X12_check1 l hls G hN w3 fl u3 bt n st_4 1 (by omega) hn7 hb hu3 h_5 hKr3) yy_X12_check wm_X12_413 (kl hN (by decide)) hu3 rfl rfl rfl rfl (Nat.le_of_ble_eq_true rfl) (by decide) (by decide) ⟨by decide, by decide⟩ dX12_compileFactor_144 (fun w20 hp20 => ?_)
            obtain ⟨hT20, hf20⟩ := hp20
            obtain ⟨u20, hu20, hKr20, hs20⟩ := hT20
            have h18r20 := hKr20.1
            have h22r20 := hKr20.2.1
            have hrgr20 := hKr20.2.2.1
            have hcbr20 := hKr20.cb
            have hQ_20 : qcW G w20 u20 st_4 (L ++ [vlC bt n st]) := hQ_3.go (hs20 29 (by omega)) (hf20 146 (by decide)) (fun q => q)
            have h25_20 : u20 25 = 3 := (hs20 25 (by omega)).trans h25_3
            refine k_aload_n hC dX12_compileFactor_147 rfl 1 rfl ?_
            have h_22 : w20 144 = iA G 700 bt := (hf20 144 (by decide)).trans h_5
            refine k_muvV hC (c_X12_advance l hls G hN w20 fl u20 bt n st_4  hn7 hb hu20 h_22 hKr20) yy_X12_advance wm_X12_417 (kl hN (by decide)) hu20 rfl rfl rfl rfl (Nat.le_of_ble_eq_true rfl) (by decide) (by decide) ⟨by decide, by decide⟩ dX12_compileFactor_148 (fun w21 hp21 => ?_)
            obtain ⟨hT21, hf21⟩ := hp21
            obtain ⟨u21, hu21, hKr21, hs21⟩ := hT21
            obtain ⟨st_23, est_23⟩ : ∃ z : PS, z = adP bt n st_4 := ⟨_, rfl⟩
            rw [← est_23] at hKr21
            have h18r21 := hKr21.1
            have h22r21 := hKr21.2.1
            have hrgr21 := hKr21.2.2.1
            have hcbr21 := hKr21.cb
            have hQ_21 : qcW G w21 u21 st_23 (L ++ [vlC bt n st]) := hQ_20.go (hs21 29 (by omega)) (hf21 146 (by decide)) (fun q => ad_c.mp (by rw [← est_23]; exact q))
            have h25_21 : u21 25 = 3 := (hs21 25 (by omega)).trans h25_20
            have hop : opM bt n st_4 = -22 := (selI_0 (hz_6.resolve_left (fun q1 => by omega)).2).trans (selI_0 (hz_7.resolve_left (fun q1 => by omega)).2)
            have hob9 : st_23 = opS bt n st_4 := by unfold opS; rw [selP_1 (Or.inr (Or.inr (hz_8.resolve_right (fun q1 => by omega)).2))]; exact est_23
            refine k_aload_n hC dX12_compileFactor_151 rfl 1 rfl ?_
            have h_24 : w21 145 = rA G 6 7 (fun j => some (kadK G (nmI j))) := (hf21 145 (by decide)).trans ((hf20 145 (by decide)).trans ((hf3 145 (by decide)).trans h145))
            have h_25 : w21 144 = iA G 700 bt := (hf21 144 (by decide)).trans h_22
            refine k_muvV hC (c_X12_compileValue l hls G hN w21 fl u21 bt n st_23 (L ++ [vlC bt n st]) 3 hn2 hQ_21 (by rw [hob9, est_4]; exact hl_cmp hle0 hL) h_24 h25_21 hn7 hb hu21 h_25 hKr21) yy_X12_compileValue wm_X12_501 (kl hN (by decide)) hu21 rfl rfl rfl rfl (Nat.le_of_ble_eq_true rfl) (by decide) (by decide) ⟨by decide, by decide⟩ dX12_compileFactor_152 (fun w26 hp26 => ?_)
            obtain ⟨hT26, hf26⟩ := hp26
            obtain ⟨u26, hu26, hKr26, hQ_26, h25_26, hs26⟩ := hT26
            obtain ⟨st_27, est_27⟩ : ∃ z : PS, z = vlS bt n st_23 := ⟨_, rfl⟩
            rw [← est_27] at hKr26 hQ_26
            have h18r26 := hKr26.1
            have h22r26 := hKr26.2.1
            have hrgr26 := hKr26.2.2.1
            have hcbr26 := hKr26.cb
            have hob : st_23 = opS bt n st_4 := by exact hob9
            refine k_aload_n hC dX12_compileFactor_155 rfl 1 rfl ?_
            refine k_iload_n hC dX12_compileFactor_156 rfl 0 rfl ?_
            have h_29 : w26 144 = iA G 700 bt := (hf26 144 (by decide)).trans h_25
            refine k_muvV hC (c_X12_emit l hls G hN w26 fl u26 bt n st_27 (L ++ [vlC bt n st] ++ [vlC bt n st_23]) (-22) (by rw [est_27, hob, est_4]; exact lt_cmp hn2 hle0 hL) hn2 hQ_26 hn7 hb hu26 h_29 hKr26) yy_X12_emit wm_X12_487 (kl hN (by decide)) hu26 rfl rfl rfl rfl (Nat.le_of_ble_eq_true rfl) (by decide) (by decide) ⟨by decide, by decide⟩ dX12_compileFactor_157 (fun w28 hp28 => ?_)
            obtain ⟨⟨u28, hu28, hKr28, hQ_28, hs28⟩, hf28⟩ := hp28
            have h18r28 := hKr28.1
            have h22r28 := hKr28.2.1
            have hrgr28 := hKr28.2.2.1
            have hcbr28 := hKr28.cb
            have h25_28 : u28 25 = 3 := (hs28 25 (by decide)).trans h25_26
            subst hQ
            exact k_vret hC hr ⟨by decide, by decide⟩ (⟨rfl, rfl, ⟨u28, hu28, (by have e : st_27 = (qF V bt n 3 st).1 := (by rw [hqF]; show st_27 = vlS bt n (opS bt n (vlS bt n st)); rw [← est_4, ← hob9]; exact est_27); rw [← e]; exact hKr28), (by have e : st_27 = (qF V bt n 3 st).1 := (by rw [hqF]; show st_27 = vlS bt n (opS bt n (vlS bt n st)); rw [← est_4, ← hob9]; exact est_27); rw [← e]; exact hQ_28.cg (fun q => by rw [hqF]; show _ = L ++ [vlC bt n st, vlC bt n (opS bt n (vlS bt n st)), opM bt n (vlS bt n st)]; rw [← est_4, hop, ← hob9, List.append_assoc, List.append_assoc]; rfl)), h25_28, (uQ.tr (uQ.tr (uQ.tr (uQ.tr (uQ.tr uQ.rf hs3) (uS.q hs20)) (uS.q hs21)) hs26) (uQ.e29 hs28))⟩, fun j hj => (hf28 j (by omega)).trans ((hf26 j (by omega)).trans ((hf21 j (by omega)).trans ((hf20 j (by omega)).trans (hf3 j (by omega)))))⟩) dX12_compileFactor_160
        · refine k_bipush hC dX12_compileFactor_114 (by decide) ?_
          refine k_goto hC 121 dX12_compileFactor_116 rfl ?_
          refine k_istore_n hC [(1, vI (-21)), (0, .ref (kad G 133))] dX12_compileFactor_121 rfl (by decide) rfl ?_
          refine k_aload_n hC dX12_compileFactor_122 rfl 1 rfl ?_
          refine k_iload_n hC dX12_compileFactor_123 rfl 0 rfl ?_
          refine k_bipush hC dX12_compileFactor_124 (by decide) ?_
          refine k_icmp_ne hC 138 dX12_compileFactor_126 rfl (by omega) (by omega) (fun c_126 => ?_) (fun c_126 => absurd c_126 (by omega))
          refine k_iconst hC dX12_compileFactor_138 ?_
          refine k_goto hC 143 dX12_compileFactor_139 rfl ?_
          refine k_iconst hC dX12_compileFactor_143 ?_
          refine k_muvV hC (c_X12_check1 l hls G hN w3 fl u3 bt n st_4 1 (by omega) hn7 hb hu3 h_5 hKr3) yy_X12_check wm_X12_413 (kl hN (by decide)) hu3 rfl rfl rfl rfl (Nat.le_of_ble_eq_true rfl) (by decide) (by decide) ⟨by decide, by decide⟩ dX12_compileFactor_144 (fun w30 hp30 => ?_)
          obtain ⟨hT30, hf30⟩ := hp30
          obtain ⟨u30, hu30, hKr30, hs30⟩ := hT30
          have h18r30 := hKr30.1
          have h22r30 := hKr30.2.1
          have hrgr30 := hKr30.2.2.1
          have hcbr30 := hKr30.cb
          have hQ_30 : qcW G w30 u30 st_4 (L ++ [vlC bt n st]) := hQ_3.go (hs30 29 (by omega)) (hf30 146 (by decide)) (fun q => q)
          have h25_30 : u30 25 = 3 := (hs30 25 (by omega)).trans h25_3
          refine k_aload_n hC dX12_compileFactor_147 rfl 1 rfl ?_
          have h_32 : w30 144 = iA G 700 bt := (hf30 144 (by decide)).trans h_5
          refine k_muvV hC (c_X12_advance l hls G hN w30 fl u30 bt n st_4  hn7 hb hu30 h_32 hKr30) yy_X12_advance wm_X12_417 (kl hN (by decide)) hu30 rfl rfl rfl rfl (Nat.le_of_ble_eq_true rfl) (by decide) (by decide) ⟨by decide, by decide⟩ dX12_compileFactor_148 (fun w31 hp31 => ?_)
          obtain ⟨hT31, hf31⟩ := hp31
          obtain ⟨u31, hu31, hKr31, hs31⟩ := hT31
          obtain ⟨st_33, est_33⟩ : ∃ z : PS, z = adP bt n st_4 := ⟨_, rfl⟩
          rw [← est_33] at hKr31
          have h18r31 := hKr31.1
          have h22r31 := hKr31.2.1
          have hrgr31 := hKr31.2.2.1
          have hcbr31 := hKr31.cb
          have hQ_31 : qcW G w31 u31 st_33 (L ++ [vlC bt n st]) := hQ_30.go (hs31 29 (by omega)) (hf31 146 (by decide)) (fun q => ad_c.mp (by rw [← est_33]; exact q))
          have h25_31 : u31 25 = 3 := (hs31 25 (by omega)).trans h25_30
          have hop : opM bt n st_4 = -21 := (selI_0 (hz_6.resolve_left (fun q1 => by omega)).2).trans (selI_1 (hz_7.resolve_right (fun q1 => by omega)).2)
          have hob9 : st_33 = opS bt n st_4 := by unfold opS; rw [selP_1 (Or.inr (Or.inl (hz_7.resolve_right (fun q1 => by omega)).2))]; exact est_33
          refine k_aload_n hC dX12_compileFactor_151 rfl 1 rfl ?_
          have h_34 : w31 145 = rA G 6 7 (fun j => some (kadK G (nmI j))) := (hf31 145 (by decide)).trans ((hf30 145 (by decide)).trans ((hf3 145 (by decide)).trans h145))
          have h_35 : w31 144 = iA G 700 bt := (hf31 144 (by decide)).trans h_32
          refine k_muvV hC (c_X12_compileValue l hls G hN w31 fl u31 bt n st_33 (L ++ [vlC bt n st]) 3 hn2 hQ_31 (by rw [hob9, est_4]; exact hl_cmp hle0 hL) h_34 h25_31 hn7 hb hu31 h_35 hKr31) yy_X12_compileValue wm_X12_501 (kl hN (by decide)) hu31 rfl rfl rfl rfl (Nat.le_of_ble_eq_true rfl) (by decide) (by decide) ⟨by decide, by decide⟩ dX12_compileFactor_152 (fun w36 hp36 => ?_)
          obtain ⟨hT36, hf36⟩ := hp36
          obtain ⟨u36, hu36, hKr36, hQ_36, h25_36, hs36⟩ := hT36
          obtain ⟨st_37, est_37⟩ : ∃ z : PS, z = vlS bt n st_33 := ⟨_, rfl⟩
          rw [← est_37] at hKr36 hQ_36
          have h18r36 := hKr36.1
          have h22r36 := hKr36.2.1
          have hrgr36 := hKr36.2.2.1
          have hcbr36 := hKr36.cb
          have hob : st_33 = opS bt n st_4 := by exact hob9
          refine k_aload_n hC dX12_compileFactor_155 rfl 1 rfl ?_
          refine k_iload_n hC dX12_compileFactor_156 rfl 0 rfl ?_
          have h_39 : w36 144 = iA G 700 bt := (hf36 144 (by decide)).trans h_35
          refine k_muvV hC (c_X12_emit l hls G hN w36 fl u36 bt n st_37 (L ++ [vlC bt n st] ++ [vlC bt n st_33]) (-21) (by rw [est_37, hob, est_4]; exact lt_cmp hn2 hle0 hL) hn2 hQ_36 hn7 hb hu36 h_39 hKr36) yy_X12_emit wm_X12_487 (kl hN (by decide)) hu36 rfl rfl rfl rfl (Nat.le_of_ble_eq_true rfl) (by decide) (by decide) ⟨by decide, by decide⟩ dX12_compileFactor_157 (fun w38 hp38 => ?_)
          obtain ⟨⟨u38, hu38, hKr38, hQ_38, hs38⟩, hf38⟩ := hp38
          have h18r38 := hKr38.1
          have h22r38 := hKr38.2.1
          have hrgr38 := hKr38.2.2.1
          have hcbr38 := hKr38.cb
          have h25_38 : u38 25 = 3 := (hs38 25 (by decide)).trans h25_36
          subst hQ
          exact k_vret hC hr ⟨by decide, by decide⟩ (⟨rfl, rfl, ⟨u38, hu38, (by have e : st_37 = (qF V bt n 3 st).1 := (by rw [hqF]; show st_37 = vlS bt n (opS bt n (vlS bt n st)); rw [← est_4, ← hob9]; exact est_37); rw [← e]; exact hKr38), (by have e : st_37 = (qF V bt n 3 st).1 := (by rw [hqF]; show st_37 = vlS bt n (opS bt n (vlS bt n st)); rw [← est_4, ← hob9]; exact est_37); rw [← e]; exact hQ_38.cg (fun q => by rw [hqF]; show _ = L ++ [vlC bt n st, vlC bt n (opS bt n (vlS bt n st)), opM bt n (vlS bt n st)]; rw [← est_4, hop, ← hob9, List.append_assoc, List.append_assoc]; rfl)), h25_38, (uQ.tr (uQ.tr (uQ.tr (uQ.tr (uQ.tr uQ.rf hs3) (uS.q hs30)) (uS.q hs31)) hs36) (uQ.e29 hs38))⟩, fun j hj => (hf38 j (by omega)).trans ((hf36 j (by omega)).trans ((hf31 j (by omega)).trans ((hf30 j (by omega)).trans (hf3 j (by omega)))))⟩) dX12_compileFactor_160
      · refine k_bipush hC dX12_compileFactor_100 (by decide) ?_
        refine k_goto hC 121 dX12_compileFactor_102 rfl ?_
        refine k_istore_n hC [(1, vI (-20)), (0, .ref (kad G 133))] dX12_compileFactor_121 rfl (by decide) rfl ?_
        refine k_aload_n hC dX12_compileFactor_122 rfl 1 rfl ?_
        refine k_iload_n hC dX12_compileFactor_123 rfl 0 rfl ?_
        refine k_bipush hC dX12_compileFactor_124 (by decide) ?_
        refine k_icmp_ne hC 138 dX12_compileFactor_126 rfl (by omega) (by omega) (fun c_126 => ?_) (fun c_126 => absurd c_126 (by omega))
        refine k_iconst hC dX12_compileFactor_138 ?_
        refine k_goto hC 143 dX12_compileFactor_139 rfl ?_
        refine k_iconst hC dX12_compileFactor_143 ?_
        refine k_muvV hC (c_X12_check1 l hls G hN w3 fl u3 bt n st_4 1 (by omega) hn7 hb hu3 h_5 hKr3) yy_X12_check wm_X12_413 (kl hN (by decide)) hu3 rfl rfl rfl rfl (Nat.le_of_ble_eq_true rfl) (by decide) (by decide) ⟨by decide, by decide⟩ dX12_compileFactor_144 (fun w40 hp40 => ?_)
        obtain ⟨hT40, hf40⟩ := hp40
        obtain ⟨u40, hu40, hKr40, hs40⟩ := hT40
        have h18r40 := hKr40.1
        have h22r40 := hKr40.2.1
        have hrgr40 := hKr40.2.2.1
        have hcbr40 := hKr40.cb
        have hQ_40 : qcW G w40 u40 st_4 (L ++ [vlC bt n st]) := hQ_3.go (hs40 29 (by omega)) (hf40 146 (by decide)) (fun q => q)
        have h25_40 : u40 25 = 3 := (hs40 25 (by omega)).trans h25_3
        refine k_aload_n hC dX12_compileFactor_147 rfl 1 rfl ?_
        have h_42 : w40 144 = iA G 700 bt := (hf40 144 (by decide)).trans h_5
        refine k_muvV hC (c_X12_advance l hls G hN w40 fl u40 bt n st_4  hn7 hb hu40 h_42 hKr40) yy_X12_advance wm_X12_417 (kl hN (by decide)) hu40 rfl rfl rfl rfl (Nat.le_of_ble_eq_true rfl) (by decide) (by decide) ⟨by decide, by decide⟩ dX12_compileFactor_148 (fun w41 hp41 => ?_)
        obtain ⟨hT41, hf41⟩ := hp41
        obtain ⟨u41, hu41, hKr41, hs41⟩ := hT41
        obtain ⟨st_43, est_43⟩ : ∃ z : PS, z = adP bt n st_4 := ⟨_, rfl⟩
        rw [← est_43] at hKr41
        have h18r41 := hKr41.1
        have h22r41 := hKr41.2.1
        have hrgr41 := hKr41.2.2.1
        have hcbr41 := hKr41.cb
        have hQ_41 : qcW G w41 u41 st_43 (L ++ [vlC bt n st]) := hQ_40.go (hs41 29 (by omega)) (hf41 146 (by decide)) (fun q => ad_c.mp (by rw [← est_43]; exact q))
        have h25_41 : u41 25 = 3 := (hs41 25 (by omega)).trans h25_40
        have hop : opM bt n st_4 = -20 := selI_1 (hz_6.resolve_right (fun q1 => by omega)).2
        have hob9 : st_43 = opS bt n st_4 := by unfold opS; rw [selP_1 (Or.inl (hz_6.resolve_right (fun q1 => by omega)).2)]; exact est_43
        refine k_aload_n hC dX12_compileFactor_151 rfl 1 rfl ?_
        have h_44 : w41 145 = rA G 6 7 (fun j => some (kadK G (nmI j))) := (hf41 145 (by decide)).trans ((hf40 145 (by decide)).trans ((hf3 145 (by decide)).trans h145))
        have h_45 : w41 144 = iA G 700 bt := (hf41 144 (by decide)).trans h_42
        refine k_muvV hC (c_X12_compileValue l hls G hN w41 fl u41 bt n st_43 (L ++ [vlC bt n st]) 3 hn2 hQ_41 (by rw [hob9, est_4]; exact hl_cmp hle0 hL) h_44 h25_41 hn7 hb hu41 h_45 hKr41) yy_X12_compileValue wm_X12_501 (kl hN (by decide)) hu41 rfl rfl rfl rfl (Nat.le_of_ble_eq_true rfl) (by decide) (by decide) ⟨by decide, by decide⟩ dX12_compileFactor_152 (fun w46 hp46 => ?_)
        obtain ⟨hT46, hf46⟩ := hp46
        obtain ⟨u46, hu46, hKr46, hQ_46, h25_46, hs46⟩ := hT46
        obtain ⟨st_47, est_47⟩ : ∃ z : PS, z = vlS bt n st_43 := ⟨_, rfl⟩
        rw [← est_47] at hKr46 hQ_46
        have h18r46 := hKr46.1
        have h22r46 := hKr46.2.1
        have hrgr46 := hKr46.2.2.1
        have hcbr46 := hKr46.cb
        have hob : st_43 = opS bt n st_4 := by exact hob9
        refine k_aload_n hC dX12_compileFactor_155 rfl 1 rfl ?_
        refine k_iload_n hC dX12_compileFactor_156 rfl 0 rfl ?_
        have h_49 : w46 144 = iA G 700 bt := (hf46 144 (by decide)).trans h_45
        refine k_muvV hC (c_X12_emit l hls G hN w46 fl u46 bt n st_47 (L ++ [vlC bt n st] ++ [vlC bt n st_43]) (-20) (by rw [est_47, hob, est_4]; exact lt_cmp hn2 hle0 hL) hn2 hQ_46 hn7 hb hu46 h_49 hKr46) yy_X12_emit wm_X12_487 (kl hN (by decide)) hu46 rfl rfl rfl rfl (Nat.le_of_ble_eq_true rfl) (by decide) (by decide) ⟨by decide, by decide⟩ dX12_compileFactor_157 (fun w48 hp48 => ?_)
        obtain ⟨⟨u48, hu48, hKr48, hQ_48, hs48⟩, hf48⟩ := hp48
        have h18r48 := hKr48.1
        have h22r48 := hKr48.2.1
        have hrgr48 := hKr48.2.2.1
        have hcbr48 := hKr48.cb
        have h25_48 : u48 25 = 3 := (hs48 25 (by decide)).trans h25_46
        subst hQ
        exact k_vret hC hr ⟨by decide, by decide⟩ (⟨rfl, rfl, ⟨u48, hu48, (by have e : st_47 = (qF V bt n 3 st).1 := (by rw [hqF]; show st_47 = vlS bt n (opS bt n (vlS bt n st)); rw [← est_4, ← hob9]; exact est_47); rw [← e]; exact hKr48), (by have e : st_47 = (qF V bt n 3 st).1 := (by rw [hqF]; show st_47 = vlS bt n (opS bt n (vlS bt n st)); rw [← est_4, ← hob9]; exact est_47); rw [← e]; exact hQ_48.cg (fun q => by rw [hqF]; show _ = L ++ [vlC bt n st, vlC bt n (opS bt n (vlS bt n st)), opM bt n (vlS bt n st)]; rw [← est_4, hop, ← hob9, List.append_assoc, List.append_assoc]; rfl)), h25_48, (uQ.tr (uQ.tr (uQ.tr (uQ.tr (uQ.tr uQ.rf hs3) (uS.q hs40)) (uS.q hs41)) hs46) (uQ.e29 hs48))⟩, fun j hj => (hf48 j (by omega)).trans ((hf46 j (by omega)).trans ((hf41 j (by omega)).trans ((hf40 j (by omega)).trans (hf3 j (by omega)))))⟩) dX12_compileFactor_160
    · have hw40 : isS bt n 40 st := (hz_2.resolve_right (fun q1 => by omega)).2
      have hz0 := hw40.1
      have hzz : st.1 = 0 := by omega
      have hq0 := hK.2.2.2.1 hzz
      have hen := enM_b (bt := bt) hq0.2.2.2
      refine k_aload_n hC dX12_compileFactor_53 rfl 0 rfl ?_
      refine k_muvV hC (c_X12_enter_3 l hls G hN w fl u bt n st L (by omega) hn2 hqc hL h145 h25 hn7 hb hm h144 hK) yy_X12_enter wm_X12_492 (kl hN (by decide)) hm rfl rfl rfl rfl (Nat.le_of_ble_eq_true rfl) (by decide) (by decide) ⟨by decide, by decide⟩ dX12_compileFactor_54 (fun w50 hp50 => ?_)
      obtain ⟨hT50, hf50⟩ := hp50
      obtain ⟨u50, hu50, hKr50, hQ_50, h25_50, hs50⟩ := hT50
      obtain ⟨st_51, est_51⟩ : ∃ z : PS, z = adP bt n st := ⟨_, rfl⟩
      rw [← est_51] at hKr50 hQ_50
      have h18r50 := hKr50.1
      have h22r50 := hKr50.2.1
      have hrgr50 := hKr50.2.2.1
      have hcbr50 := hKr50.cb
      have hzir50 : st_51.1 = 0 := by rw [est_51]; exact ad_c.mpr (by omega)
      have hzzr50 : st_51.1 = 0 := by omega
      have hq0r50 := hKr50.2.2.2.1 hzzr50
      have henr50 := enM_b (bt := bt) hq0r50.2.2.2
      refine k_aload_n hC dX12_compileFactor_57 rfl 0 rfl ?_
      refine k_get hC fd_X12_386 (kl hN (by decide)) hu50 rfl dX12_compileFactor_58 ?_
      refine k_topv (vI 0) (congrArg vI (by omega)) ?_
      refine k_if_ne hC 68 dX12_compileFactor_61 rfl (by omega) (fun c_61 => absurd c_61 (by omega)) (fun c_61 => ?_)
      refine k_aload_n hC dX12_compileFactor_64 rfl 0 rfl ?_
      have h_52 : w50 145 = rA G 6 7 (fun j => some (kadK G (nmI j))) := (hf50 145 (by decide)).trans h145
      have h_53 : w50 144 = iA G 700 bt := (hf50 144 (by decide)).trans h144
      refine k_muvV hC (c_X12_compileTest_2 l hls G hN w50 fl u50 bt n st_51 L V hn2 hQ_50 (by rw [est_51]; exact hl_ad hle0 hL) h_52 h25_50 hn7 hb hu50 h_53 hKr50) yy_X12_compileTest wm_X12_498 (kl hN (by decide)) hu50 rfl rfl rfl rfl (Nat.le_of_ble_eq_true rfl) (by decide) (by decide) ⟨by decide, by decide⟩ dX12_compileFactor_65 (fun w54 hp54 => ?_)
      obtain ⟨hT54, hf54⟩ := hp54
      obtain ⟨u54, hu54, hKr54, hQ_54, h25_54, hs54⟩ := hT54
      obtain ⟨st_55, est_55⟩ : ∃ z : PS, z = (tstM bt n (qF V bt n 2) st_51).1 := ⟨_, rfl⟩
      rw [← est_55] at hKr54 hQ_54
      have h18r54 := hKr54.1
      have h22r54 := hKr54.2.1
      have hrgr54 := hKr54.2.2.1
      have hcbr54 := hKr54.cb
      refine k_aload_n hC dX12_compileFactor_68 rfl 0 rfl ?_
      refine k_bipush hC dX12_compileFactor_69 (by decide) ?_
      have h_57 : w54 144 = iA G 700 bt := (hf54 144 (by decide)).trans h_53
      refine k_muvV hC (c_X12_expect l hls G hN w54 fl u54 bt n st_55 41 (by omega) hn7 hb hu54 h_57 hKr54) yy_X12_expect wm_X12_471 (kl hN (by decide)) hu54 rfl rfl rfl rfl (Nat.le_of_ble_eq_true rfl) (by decide) (by decide) ⟨by decide, by decide⟩ dX12_compileFactor_71 (fun w56 hp56 => ?_)
      obtain ⟨hT56, hf56⟩ := hp56
      obtain ⟨u56, hu56, hKr56, hs56⟩ := hT56
      obtain ⟨st_58, est_58⟩ : ∃ z : PS, z = nsP bt n 41 st_55 := ⟨_, rfl⟩
      rw [← est_58] at hKr56
      have h18r56 := hKr56.1
      have h22r56 := hKr56.2.1
      have hrgr56 := hKr56.2.2.1
      have hcbr56 := hKr56.cb
      have hQ_56 : qcW G w56 u56 st_58 (L ++ (tstM bt n (qF V bt n 2) st_51).2.1) := hQ_54.go (hs56 29 (by omega)) (hf56 146 (by decide)) (fun q => nsok (by rw [← est_58]; exact q))
      have h25_56 : u56 25 = 4 := (hs56 25 (by omega)).trans h25_54
      refine k_aload_n hC dX12_compileFactor_74 rfl 0 rfl ?_
      refine k_dup hC dX12_compileFactor_75 rfl ?_
      refine k_get hC fd_X12_389 (kl hN (by decide)) hu56 rfl dX12_compileFactor_76 ?_
      refine k_topv (vI 4) (congrArg vI (by omega)) ?_
      refine k_iconst hC dX12_compileFactor_79 ?_
      refine k_isub hC dX12_compileFactor_80 ?_
      refine k_topv (vI 3) (congrArg vI (by decide)) ?_
      refine k_put hC fd_X12_389 (kl hN (by decide)) hu56 [.ref (kad G 134), .ref (kad G 135), .ref (kad G 136), .ref (kad G 137), vI (u56 4), vI (u56 5), vI (u56 6), .ref (kad G 138), .ref (kad G 139), .ref (kad G 140), .ref (kad G 141), .ref (kad G 142), vL (u56 12), vL (u56 13), .ref (kad G 143), vI (u56 15), .ref (kad G 144), vI (u56 17), vI (u56 18), vI (u56 19), vI (u56 20), vI (u56 21), vI (u56 22), vI (u56 23), vI (u56 24), vI 3, .ref (kad G 145), .ref (kad G 146), .ref (kad G 147), vI (u56 29)] rfl (Nat.le_of_ble_eq_true rfl) rfl rfl dX12_compileFactor_81 (fun w59 hw59 hf59 => ?_)
      have hKp60 : mkR (kup u56 25 3) bt n st_58 := hKr56.kup25
      have hQ_60 : qcW G w59 (kup u56 25 3) st_58 (L ++ (tstM bt n (qF V bt n 2) st_51).2.1) := hQ_56.go rfl (hf59 146 (by decide)) (fun q => q)
      have h25_60 : (kup u56 25 3) 25 = 3 := rfl
      have h18p60 := hKp60.1
      have h22p60 := hKp60.2.1
      have hrgp60 := hKp60.2.2.1
      have hcbp60 := hKp60.cb
      refine k_goto hC 160 dX12_compileFactor_84 rfl ?_
      subst hQ
      exact k_vret hC hr ⟨by decide, by decide⟩ (⟨rfl, rfl, ⟨(kup u56 25 3), hw59, (by have e : st_58 = (qF V bt n 3 st).1 := (by rw [qF_p hw31 hw40]; show st_58 = nsP bt n 41 (tstM bt n (qF V bt n 2) (adP bt n st)).1; rw [← est_51, ← est_55]; exact est_58); rw [← e]; exact hKp60), (by have e : st_58 = (qF V bt n 3 st).1 := (by rw [qF_p hw31 hw40]; show st_58 = nsP bt n 41 (tstM bt n (qF V bt n 2) (adP bt n st)).1; rw [← est_51, ← est_55]; exact est_58); rw [← e]; exact hQ_60.cg (fun q => by rw [qF_p hw31 hw40, ← est_51]; rfl)), h25_60, (uQ.tr (uQ.tr (uQ.tr (uQ.tr uQ.rf hs50) hs54) (uS.q hs56)) uQ.put25)⟩, fun j hj => (hf59 j (by omega)).trans ((hf56 j (by omega)).trans ((hf54 j (by omega)).trans (hf50 j (by omega))))⟩) dX12_compileFactor_160
  · have hw31 : isW bt n 31 st := (hz_1.resolve_right (fun q1 => by omega)).2
    have hz0 := hw31.1
    have hzz : st.1 = 0 := by omega
    have hq0 := hK.2.2.2.1 hzz
    have hen := enM_b (bt := bt) hq0.2.2.2
    refine k_aload_n hC dX12_compileFactor_10 rfl 0 rfl ?_
    refine k_muvV hC (c_X12_enter_3 l hls G hN w fl u bt n st L (by omega) hn2 hqc hL h145 h25 hn7 hb hm h144 hK) yy_X12_enter wm_X12_492 (kl hN (by decide)) hm rfl rfl rfl rfl (Nat.le_of_ble_eq_true rfl) (by decide) (by decide) ⟨by decide, by decide⟩ dX12_compileFactor_11 (fun w61 hp61 => ?_)
    obtain ⟨hT61, hf61⟩ := hp61
    obtain ⟨u61, hu61, hKr61, hQ_61, h25_61, hs61⟩ := hT61
    obtain ⟨st_62, est_62⟩ : ∃ z : PS, z = adP bt n st := ⟨_, rfl⟩
    rw [← est_62] at hKr61 hQ_61
    have h18r61 := hKr61.1
    have h22r61 := hKr61.2.1
    have hrgr61 := hKr61.2.2.1
    have hcbr61 := hKr61.cb
    have hzir61 : st_62.1 = 0 := by rw [est_62]; exact ad_c.mpr (by omega)
    have hzzr61 : st_62.1 = 0 := by omega
    have hq0r61 := hKr61.2.2.2.1 hzzr61
    have henr61 := enM_b (bt := bt) hq0r61.2.2.2
    refine k_aload_n hC dX12_compileFactor_14 rfl 0 rfl ?_
    refine k_get hC fd_X12_386 (kl hN (by decide)) hu61 rfl dX12_compileFactor_15 ?_
    refine k_topv (vI 0) (congrArg vI (by omega)) ?_
    refine k_if_ne hC 25 dX12_compileFactor_18 rfl (by omega) (fun c_18 => absurd c_18 (by omega)) (fun c_18 => ?_)
    refine k_aload_n hC dX12_compileFactor_21 rfl 0 rfl ?_
    have h_63 : w61 145 = rA G 6 7 (fun j => some (kadK G (nmI j))) := (hf61 145 (by decide)).trans h145
    have h_64 : w61 144 = iA G 700 bt := (hf61 144 (by decide)).trans h144
    refine k_muvV hC (c_X12_compileFactor_2 l hls G hN w61 fl u61 bt n st_62 L V hn2 hQ_61 (by rw [est_62]; exact hl_ad hle0 hL) h_63 h25_61 hn7 hb hu61 h_64 hKr61) yy_X12_compileFactor wm_X12_495 (kl hN (by decide)) hu61 rfl rfl rfl rfl (Nat.le_of_ble_eq_true rfl) (by decide) (by decide) ⟨by decide, by decide⟩ dX12_compileFactor_22 (fun w65 hp65 => ?_)
    obtain ⟨hT65, hf65⟩ := hp65
    obtain ⟨u65, hu65, hKr65, hQ_65, h25_65, hs65⟩ := hT65
    obtain ⟨st_66, est_66⟩ : ∃ z : PS, z = (qF V bt n 2 st_62).1 := ⟨_, rfl⟩
    rw [← est_66] at hKr65 hQ_65
    have h18r65 := hKr65.1
    have h22r65 := hKr65.2.1
    have hrgr65 := hKr65.2.2.1
    have hcbr65 := hKr65.cb
    refine k_aload_n hC dX12_compileFactor_25 rfl 0 rfl ?_
    refine k_bipush hC dX12_compileFactor_26 (by decide) ?_
    have h_68 : w65 144 = iA G 700 bt := (hf65 144 (by decide)).trans h_64
    refine k_muvV hC (c_X12_emit l hls G hN w65 fl u65 bt n st_66 (L ++ (qF V bt n 2 st_62).2.1) (-23) (by rw [est_66]; rw [est_62]; exact lt_not hn2 hle0 hL (isW_go hw31) (gq_qF 2 _)) hn2 hQ_65 hn7 hb hu65 h_68 hKr65) yy_X12_emit wm_X12_487 (kl hN (by decide)) hu65 rfl rfl rfl rfl (Nat.le_of_ble_eq_true rfl) (by decide) (by decide) ⟨by decide, by decide⟩ dX12_compileFactor_28 (fun w67 hp67 => ?_)
    obtain ⟨⟨u67, hu67, hKr67, hQ_67, hs67⟩, hf67⟩ := hp67
    have h18r67 := hKr67.1
    have h22r67 := hKr67.2.1
    have hrgr67 := hKr67.2.2.1
    have hcbr67 := hKr67.cb
    have h25_67 : u67 25 = 4 := (hs67 25 (by decide)).trans h25_65
    refine k_aload_n hC dX12_compileFactor_31 rfl 0 rfl ?_
    refine k_dup hC dX12_compileFactor_32 rfl ?_
    refine k_get hC fd_X12_389 (kl hN (by decide)) hu67 rfl dX12_compileFactor_33 ?_
    refine k_topv (vI 4) (congrArg vI (by omega)) ?_
    refine k_iconst hC dX12_compileFactor_36 ?_
    refine k_isub hC dX12_compileFactor_37 ?_
    refine k_topv (vI 3) (congrArg vI (by decide)) ?_
    refine k_put hC fd_X12_389 (kl hN (by decide)) hu67 [.ref (kad G 134), .ref (kad G 135), .ref (kad G 136), .ref (kad G 137), vI (u67 4), vI (u67 5), vI (u67 6), .ref (kad G 138), .ref (kad G 139), .ref (kad G 140), .ref (kad G 141), .ref (kad G 142), vL (u67 12), vL (u67 13), .ref (kad G 143), vI (u67 15), .ref (kad G 144), vI (u67 17), vI (u67 18), vI (u67 19), vI (u67 20), vI (u67 21), vI (u67 22), vI (u67 23), vI (u67 24), vI 3, .ref (kad G 145), .ref (kad G 146), .ref (kad G 147), vI (u67 29)] rfl (Nat.le_of_ble_eq_true rfl) rfl rfl dX12_compileFactor_38 (fun w69 hw69 hf69 => ?_)
    have hKp70 : mkR (kup u67 25 3) bt n st_66 := hKr67.kup25
    have hQ_70 : qcW G w69 (kup u67 25 3) st_66 (L ++ (qF V bt n 2 st_62).2.1 ++ [-23]) := hQ_67.go rfl (hf69 146 (by decide)) (fun q => q)
    have h25_70 : (kup u67 25 3) 25 = 3 := rfl
    have h18p70 := hKp70.1
    have h22p70 := hKp70.2.1
    have hrgp70 := hKp70.2.2.1
    have hcbp70 := hKp70.cb
    refine k_goto hC 160 dX12_compileFactor_41 rfl ?_
    subst hQ
    exact k_vret hC hr ⟨by decide, by decide⟩ (⟨rfl, rfl, ⟨(kup u67 25 3), hw69, (by have e : st_66 = (qF V bt n 3 st).1 := (by rw [qF_n hw31]; show st_66 = (qF V bt n 2 (adP bt n st)).1; rw [← est_62]; exact est_66); rw [← e]; exact hKp70), (by have e : st_66 = (qF V bt n 3 st).1 := (by rw [qF_n hw31]; show st_66 = (qF V bt n 2 (adP bt n st)).1; rw [← est_62]; exact est_66); rw [← e]; exact hQ_70.cg (fun q => by rw [qF_n hw31, ← est_62]; show _ = L ++ ((qF V bt n 2 st_62).2.1 ++ [-23]); rw [List.append_assoc])), h25_70, (uQ.tr (uQ.tr (uQ.tr (uQ.tr uQ.rf hs61) hs65) (uQ.e29 hs67)) uQ.put25)⟩, fun j hj => (hf69 j (by omega)).trans ((hf67 j (by omega)).trans ((hf65 j (by omega)).trans (hf61 j (by omega))))⟩) dX12_compileFactor_160

set_option maxRecDepth 100000 in
set_option maxHeartbeats 4000000 in
theorem c_X12_compileConjunction_3 (l : Launch) (hls : l.stackTraces = false) (G : kG) (hN : kN G = 150) (w : Nat → va_E) (fl : va_W) (u bt : Nat → Int) (n : Nat) (st : PS) (L : List Int) (V : Int → Nat → Int) (hn2 : n ≤ 200) (hqc : qcW G w u st L) (hL : st.1 = 0 → L.length ≤ st.2.2) (h145 : w 145 = nmA G) (h25 : u 25 = 3) (hn7 : n ≤ 700) (hb : btOK bt) (hm : w 133 = mdO G u) (h144 : w 144 = iA G 700 bt) (hK : mkR u bt n st) : KM l G yX12_compileConjunction cX12_compileConjunction 1 (none) 16 0 0 [.ref (kad G 133)] w fl (kMuv fl (fun w1 => (∃ u1, w1 133 = mdO G u1 ∧ mkR u1 bt n ((conM bt n (qF V bt n 3) st).1) ∧ qcW G w1 u1 ((conM bt n (qF V bt n 3) st).1) (L ++ (conM bt n (qF V bt n 3) st).2.1) ∧ u1 25 = 3 ∧ uQ u u1) ∧ ∀ j, (j ≠ 133 ∧ j ≠ 146) → w1 j = w j)) := by
  refine KM_of2 hls (by decide +kernel) rfl (lv0 := [(0, .ref (kad G 133))]) rfl (Nat.le_of_ble_eq_true rfl) (fun p e R s m args below meth c Q hC hr hQ => ?_)
  have h18 := hK.1
  have h22 := hK.2.1
  have hrg := hK.2.2.1
  have hcb := hK.cb
  have hk0 := hK.2.2.2.1
  have hk1 := hK.2.2.2.2.1
  have hdg := hK.2.2.2.2.2
  have hle0 := hK.le
  refine k_aload_n hC dX12_compileConjunction_0 rfl 0 rfl ?_
  refine k_muvV hC (c_X12_compileFactor_3 l hls G hN w fl u bt n st L V hn2 hqc hL h145 h25 hn7 hb hm h144 hK) yy_X12_compileFactor wm_X12_495 (kl hN (by decide)) hm rfl rfl rfl rfl (Nat.le_of_ble_eq_true rfl) (by decide) (by decide) ⟨by decide, by decide⟩ dX12_compileConjunction_1 (fun w1 hp1 => ?_)
  obtain ⟨hT1, hf1⟩ := hp1
  obtain ⟨u1, hu1, hKr1, hQ_1, h25_1, hs1⟩ := hT1
  obtain ⟨st_2, est_2⟩ : ∃ z : PS, z = (qF V bt n 3 st).1 := ⟨_, rfl⟩
  rw [← est_2] at hKr1 hQ_1
  have h18r1 := hKr1.1
  have h22r1 := hKr1.2.1
  have hrgr1 := hKr1.2.2.1
  have hcbr1 := hKr1.cb
  have loopw : ∀ (nw : Nat) (k : Nat) (rr : QR) (st9 : PS) (u1 : Nat → Int) (wvw : Nat → va_E), (n < nw + k) → (k ≤ n) → (rr = cjN bt n 37 (-24) (qF V bt n 3) k (qF V bt n 3 st)) → (st9 = rr.1) → (mkR u1 bt n st9) → (qcW G wvw u1 st9 (L ++ rr.2.1)) → (u1 25 = 3) → (uQ u u1) → (wvw 133 = .inr (12, [.ref (kad G 134), .ref (kad G 135), .ref (kad G 136), .ref (kad G 137), vI (u1 4), vI (u1 5), vI (u1 6), .ref (kad G 138), .ref (kad G 139), .ref (kad G 140), .ref (kad G 141), .ref (kad G 142), vL (u1 12), vL (u1 13), .ref (kad G 143), vI (u1 15), .ref (kad G 144), vI (u1 17), vI (u1 18), vI (u1 19), vI (u1 20), vI (u1 21), vI (u1 22), vI (u1 23), vI (u1 24), vI (u1 25), .ref (kad G 145), .ref (kad G 146), .ref (kad G 147), vI (u1 29)])) → (wvw 144 = iA G 700 bt) → (wvw 145 = rA G 6 7 (fun j => some (kadK G (nmI j)))) → ((∀ j, (j ≠ 133 ∧ j ≠ 146) → wvw j = w j)) → KW p l e R s m args below meth c 1 G Q wvw fl 0 0 4 [(0, .ref (kad G 133))] [] := by
    intro nw
    induction nw with
    | zero =>
      intro k rr st9 u1 wvw hn_w hk9 hx hst9 hKv hqv h25v husv hm1 h144 h145 hfrw
      exact absurd hn_w (by omega)
    | succ nw ihw =>
      intro k rr st9 u1 wvw hn_w hk9 hx hst9 hKv hqv h25v husv hm1 h144 h145 hfrw
      have h18v := hKv.1
      have h22v := hKv.2.1
      have hrgv := hKv.2.2.1
      have hcbv := hKv.cb
      have hgq : gq V n st rr := by rw [hx]; exact gq_cjN (Or.inl rfl) (gq_qF 3) k _ (gq_qF 3 st)
      refine k_aload_n hC dX12_compileConjunction_4 rfl 0 rfl ?_
      refine k_ldcsw hC (List.mem_of_getElem? (i := 56) rfl) dX12_compileConjunction_5 ?_
      refine k_mutV hC (c_X12_accept l hls G hN wvw fl u1 bt n st9 37 (by decide) hn7 hb hm1 h144 hKv) yy_X12_accept wm_X12_447 (kl hN (by decide)) hm1 rfl rfl rfl rfl (Nat.le_of_ble_eq_true rfl) (by decide) (by decide) ⟨by decide, by decide⟩ dX12_compileConjunction_8 (fun w3 hp3 => ?_)
      obtain ⟨hT3, hf3⟩ := hp3
      by_cases hw_3 : isW bt n 37 st9
      · rw [selP_1 hw_3] at hT3
        refine k_topv (vI 1) (congrArg vI (selI_1 hw_3)) ?_
        have hwz_3 := hw_3.1
        obtain ⟨u3, hu3, hKr3, hs3⟩ := hT3
        obtain ⟨st_4, est_4⟩ : ∃ z : PS, z = adP bt n st9 := ⟨_, rfl⟩
        rw [← est_4] at hKr3
        have h18r3 := hKr3.1
        have h22r3 := hKr3.2.1
        have hrgr3 := hKr3.2.2.1
        have hcbr3 := hKr3.cb
        have hzir3 : st_4.1 = 0 := by rw [est_4]; exact ad_c.mpr (by omega)
        have hzzr3 : st_4.1 = 0 := by omega
        have hq0r3 := hKr3.2.2.2.1 hzzr3
        have henr3 := enM_b (bt := bt) hq0r3.2.2.2
        have hQ_3 : qcW G w3 u3 st_4 (L ++ rr.2.1) := hqv.go (hs3 29 (by omega)) (hf3 146 (by decide)) (fun q => ad_c.mp (by rw [← est_4]; exact q))
        have h25_3 : u3 25 = 3 := (hs3 25 (by omega)).trans h25v
        refine k_if_eq hC 27 dX12_compileConjunction_11 rfl (by omega) (fun c_11 => absurd c_11 (by omega)) (fun c_11 => ?_)
        refine k_aload_n hC dX12_compileConjunction_14 rfl 0 rfl ?_
        have h_5 : w3 145 = rA G 6 7 (fun j => some (kadK G (nmI j))) := (hf3 145 (by decide)).trans h145
        have h_6 : w3 144 = iA G 700 bt := (hf3 144 (by decide)).trans h144
        refine k_muvV hC (c_X12_compileFactor_3 l hls G hN w3 fl u3 bt n st_4 (L ++ rr.2.1) V hn2 hQ_3 (by rw [est_4]; exact hl_ad hKv.le (by rw [hst9]; exact hl_gq hle0 hL hgq)) h_5 h25_3 hn7 hb hu3 h_6 hKr3) yy_X12_compileFactor wm_X12_495 (kl hN (by decide)) hu3 rfl rfl rfl rfl (Nat.le_of_ble_eq_true rfl) (by decide) (by decide) ⟨by decide, by decide⟩ dX12_compileConjunction_15 (fun w7 hp7 => ?_)
        obtain ⟨hT7, hf7⟩ := hp7
        obtain ⟨u7, hu7, hKr7, hQ_7, h25_7, hs7⟩ := hT7
        obtain ⟨st_8, est_8⟩ : ∃ z : PS, z = (qF V bt n 3 st_4).1 := ⟨_, rfl⟩
        rw [← est_8] at hKr7 hQ_7
        have h18r7 := hKr7.1
        have h22r7 := hKr7.2.1
        have hrgr7 := hKr7.2.2.1
        have hcbr7 := hKr7.cb
        have hwr : isW bt n 37 rr.1 := by rw [← hst9]; exact hw_3
        refine k_aload_n hC dX12_compileConjunction_18 rfl 0 rfl ?_
        refine k_bipush hC dX12_compileConjunction_19 (by decide) ?_
        have h_10 : w7 144 = iA G 700 bt := (hf7 144 (by decide)).trans h_6
        refine k_muvV hC (c_X12_emit l hls G hN w7 fl u7 bt n st_8 (L ++ rr.2.1 ++ (qF V bt n 3 st_4).2.1) (-24) (by rw [est_8, est_4, hst9]; exact lt_and (V := V) (Or.inl rfl) hn2 hle0 hL (isW_go hwr) hgq (gq_qF 3 _)) hn2 hQ_7 hn7 hb hu7 h_10 hKr7) yy_X12_emit wm_X12_487 (kl hN (by decide)) hu7 rfl rfl rfl rfl (Nat.le_of_ble_eq_true rfl) (by decide) (by decide) ⟨by decide, by decide⟩ dX12_compileConjunction_21 (fun w9 hp9 => ?_)
        obtain ⟨⟨u9, hu9, hKr9, hQ_9, hs9⟩, hf9⟩ := hp9
        have h18r9 := hKr9.1
        have h22r9 := hKr9.2.1
        have hrgr9 := hKr9.2.2.1
        have hcbr9 := hKr9.cb
        have h25_9 : u9 25 = 3 := (hs9 25 (by decide)).trans h25_7
        refine k_goto hC 4 dX12_compileConjunction_24 rfl ?_
        have h_11 : w9 144 = iA G 700 bt := (hf9 144 (by decide)).trans h_10
        have h_12 : w9 145 = rA G 6 7 (fun j => some (kadK G (nmI j))) := (hf9 145 (by decide)).trans ((hf7 145 (by decide)).trans h_5)
        exact ihw (k + 1) (and2 (-24) rr (qF V bt n 3 st_4)) st_8 u9 w9 (by omega) (by have h8 := cjN_pos hle0 (Or.inl rfl) (gq_qF 3) k _ (gq_qF 3 st) (by rw [← hx]; exact hwr); rw [← hx] at h8; have h9 := enM_lt9 (bt := bt) (n := n) (s := rr.1.2.2) (by rw [hwr.2.1]; decide); omega) (by rw [cjN_go k _ (by rw [← hx]; exact hwr), ← hx, est_4, hst9]) est_8 hKr9 (hQ_9.cg (fun _ => by show _ = L ++ (rr.2.1 ++ (qF V bt n 3 st_4).2.1 ++ [-24]); simp only [List.append_assoc])) h25_9 (uQ.tr (uQ.tr (uQ.tr husv (uS.q hs3)) hs7) (uQ.e29 hs9)) hu9 h_11 h_12 (fun j hj => (hf9 j (by omega)).trans ((hf7 j (by omega)).trans ((hf3 j (by omega)).trans (hfrw j (by omega)))))
      · rw [selP_0 hw_3] at hT3
        refine k_topv (vI 0) (congrArg vI (selI_0 hw_3)) ?_
        obtain ⟨u3, hu3, hKr3, hs3⟩ := hT3
        have h18r3 := hKr3.1
        have h22r3 := hKr3.2.1
        have hrgr3 := hKr3.2.2.1
        have hcbr3 := hKr3.cb
        have hQ_3 : qcW G w3 u3 st9 (L ++ rr.2.1) := hqv.go (hs3 29 (by omega)) (hf3 146 (by decide)) (fun q => q)
        have h25_3 : u3 25 = 3 := (hs3 25 (by omega)).trans h25v
        refine k_if_eq hC 27 dX12_compileConjunction_11 rfl (by omega) (fun c_11 => ?_) (fun c_11 => absurd c_11 (by omega))
        have hfin : rr = conM bt n (qF V bt n 3) st := by rw [hx]; exact cjN_eq (by rw [← hx, ← hst9]; exact hw_3) (cjN_end hn2 hle0 (Or.inl rfl) (gq_qF 3) (gq_qF 3 st))
        subst hQ
        exact k_vret hC hr ⟨by decide, by decide⟩ (⟨rfl, rfl, ⟨u3, hu3, (by have e : st9 = (conM bt n (qF V bt n 3) st).1 := (by rw [← hfin]; exact hst9); rw [← e]; exact hKr3), (by have e : st9 = (conM bt n (qF V bt n 3) st).1 := (by rw [← hfin]; exact hst9); rw [← e]; exact hQ_3.cg (fun q => by rw [← hfin])), h25_3, (uQ.tr husv (uS.q hs3))⟩, fun j hj => (hf3 j (by omega)).trans (hfrw j (by omega))⟩) dX12_compileConjunction_27
  have h_13 : w1 144 = iA G 700 bt := (hf1 144 (by decide)).trans h144
  have h_14 : w1 145 = rA G 6 7 (fun j => some (kadK G (nmI j))) := (hf1 145 (by decide)).trans h145
  exact loopw (n + 1) 0 (qF V bt n 3 st) st_2 u1 w1 (by omega) (by omega) rfl est_2 hKr1 hQ_1 h25_1 (uQ.tr uQ.rf hs1) hu1 h_13 h_14 (fun j hj => hf1 j (by omega))

set_option maxRecDepth 100000 in
set_option maxHeartbeats 4000000 in
theorem c_X12_compileTest_3 (l : Launch) (hls : l.stackTraces = false) (G : kG) (hN : kN G = 150) (w : Nat → va_E) (fl : va_W) (u bt : Nat → Int) (n : Nat) (st : PS) (L : List Int) (V : Int → Nat → Int) (hn2 : n ≤ 200) (hqc : qcW G w u st L) (hL : st.1 = 0 → L.length ≤ st.2.2) (h145 : w 145 = nmA G) (h25 : u 25 = 3) (hn7 : n ≤ 700) (hb : btOK bt) (hm : w 133 = mdO G u) (h144 : w 144 = iA G 700 bt) (hK : mkR u bt n st) : KM l G yX12_compileTest cX12_compileTest 1 (none) 17 0 0 [.ref (kad G 133)] w fl (kMuv fl (fun w1 => (∃ u1, w1 133 = mdO G u1 ∧ mkR u1 bt n ((tstM bt n (qF V bt n 3) st).1) ∧ qcW G w1 u1 ((tstM bt n (qF V bt n 3) st).1) (L ++ (tstM bt n (qF V bt n 3) st).2.1) ∧ u1 25 = 3 ∧ uQ u u1) ∧ ∀ j, (j ≠ 133 ∧ j ≠ 146) → w1 j = w j)) := by
  refine KM_of2 hls (by decide +kernel) rfl (lv0 := [(0, .ref (kad G 133))]) rfl (Nat.le_of_ble_eq_true rfl) (fun p e R s m args below meth c Q hC hr hQ => ?_)
  have h18 := hK.1
  have h22 := hK.2.1
  have hrg := hK.2.2.1
  have hcb := hK.cb
  have hk0 := hK.2.2.2.1
  have hk1 := hK.2.2.2.2.1
  have hdg := hK.2.2.2.2.2
  have hle0 := hK.le
  refine k_aload_n hC dX12_compileTest_0 rfl 0 rfl ?_
  refine k_muvV hC (c_X12_compileConjunction_3 l hls G hN w fl u bt n st L V hn2 hqc hL h145 h25 hn7 hb hm h144 hK) yy_X12_compileConjunction wm_X12_506 (kl hN (by decide)) hm rfl rfl rfl rfl (Nat.le_of_ble_eq_true rfl) (by decide) (by decide) ⟨by decide, by decide⟩ dX12_compileTest_1 (fun w1 hp1 => ?_)
  obtain ⟨hT1, hf1⟩ := hp1
  obtain ⟨u1, hu1, hKr1, hQ_1, h25_1, hs1⟩ := hT1
  obtain ⟨st_2, est_2⟩ : ∃ z : PS, z = (conM bt n (qF V bt n 3) st).1 := ⟨_, rfl⟩
  rw [← est_2] at hKr1 hQ_1
  have h18r1 := hKr1.1
  have h22r1 := hKr1.2.1
  have hrgr1 := hKr1.2.2.1
  have hcbr1 := hKr1.cb
  have loopw : ∀ (nw : Nat) (k : Nat) (rr : QR) (st9 : PS) (u1 : Nat → Int) (wvw : Nat → va_E), (n < nw + k) → (k ≤ n) → (rr = cjN bt n 38 (-25) (conM bt n (qF V bt n 3)) k (conM bt n (qF V bt n 3) st)) → (st9 = rr.1) → (mkR u1 bt n st9) → (qcW G wvw u1 st9 (L ++ rr.2.1)) → (u1 25 = 3) → (uQ u u1) → (wvw 133 = .inr (12, [.ref (kad G 134), .ref (kad G 135), .ref (kad G 136), .ref (kad G 137), vI (u1 4), vI (u1 5), vI (u1 6), .ref (kad G 138), .ref (kad G 139), .ref (kad G 140), .ref (kad G 141), .ref (kad G 142), vL (u1 12), vL (u1 13), .ref (kad G 143), vI (u1 15), .ref (kad G 144), vI (u1 17), vI (u1 18), vI (u1 19), vI (u1 20), vI (u1 21), vI (u1 22), vI (u1 23), vI (u1 24), vI (u1 25), .ref (kad G 145), .ref (kad G 146), .ref (kad G 147), vI (u1 29)])) → (wvw 144 = iA G 700 bt) → (wvw 145 = rA G 6 7 (fun j => some (kadK G (nmI j)))) → ((∀ j, (j ≠ 133 ∧ j ≠ 146) → wvw j = w j)) → KW p l e R s m args below meth c 1 G Q wvw fl 0 0 4 [(0, .ref (kad G 133))] [] := by
    intro nw
    induction nw with
    | zero =>
      intro k rr st9 u1 wvw hn_w hk9 hx hst9 hKv hqv h25v husv hm1 h144 h145 hfrw
      exact absurd hn_w (by omega)
    | succ nw ihw =>
      intro k rr st9 u1 wvw hn_w hk9 hx hst9 hKv hqv h25v husv hm1 h144 h145 hfrw
      have h18v := hKv.1
      have h22v := hKv.2.1
      have hrgv := hKv.2.2.1
      have hcbv := hKv.cb
      have hgq : gq V n st rr := by rw [hx]; exact gq_cjN (Or.inr rfl) (gq_con (gq_qF 3)) k _ (gq_con (gq_qF 3) st)
      refine k_aload_n hC dX12_compileTest_4 rfl 0 rfl ?_
      refine k_ldcsw hC (List.mem_of_getElem? (i := 57) rfl) dX12_compileTest_5 ?_
      refine k_mutV hC (c_X12_accept l hls G hN wvw fl u1 bt n st9 38 (by decide) hn7 hb hm1 h144 hKv) yy_X12_accept wm_X12_447 (kl hN (by decide)) hm1 rfl rfl rfl rfl (Nat.le_of_ble_eq_true rfl) (by decide) (by decide) ⟨by decide, by decide⟩ dX12_compileTest_8 (fun w3 hp3 => ?_)
      obtain ⟨hT3, hf3⟩ := hp3
      by_cases hw_3 : isW bt n 38 st9
      · rw [selP_1 hw_3] at hT3
        refine k_topv (vI 1) (congrArg vI (selI_1 hw_3)) ?_
        have hwz_3 := hw_3.1
        obtain ⟨u3, hu3, hKr3, hs3⟩ := hT3
        obtain ⟨st_4, est_4⟩ : ∃ z : PS, z = adP bt n st9 := ⟨_, rfl⟩
        rw [← est_4] at hKr3
        have h18r3 := hKr3.1
        have h22r3 := hKr3.2.1
        have hrgr3 := hKr3.2.2.1
        have hcbr3 := hKr3.cb
        have hzir3 : st_4.1 = 0 := by rw [est_4]; exact ad_c.mpr (by omega)
        have hzzr3 : st_4.1 = 0 := by omega
        have hq0r3 := hKr3.2.2.2.1 hzzr3
        have henr3 := enM_b (bt := bt) hq0r3.2.2.2
        have hQ_3 : qcW G w3 u3 st_4 (L ++ rr.2.1) := hqv.go (hs3 29 (by omega)) (hf3 146 (by decide)) (fun q => ad_c.mp (by rw [← est_4]; exact q))
        have h25_3 : u3 25 = 3 := (hs3 25 (by omega)).trans h25v
        refine k_if_eq hC 27 dX12_compileTest_11 rfl (by omega) (fun c_11 => absurd c_11 (by omega)) (fun c_11 => ?_)
        refine k_aload_n hC dX12_compileTest_14 rfl 0 rfl ?_
        have h_5 : w3 145 = rA G 6 7 (fun j => some (kadK G (nmI j))) := (hf3 145 (by decide)).trans h145
        have h_6 : w3 144 = iA G 700 bt := (hf3 144 (by decide)).trans h144
        refine k_muvV hC (c_X12_compileConjunction_3 l hls G hN w3 fl u3 bt n st_4 (L ++ rr.2.1) V hn2 hQ_3 (by rw [est_4]; exact hl_ad hKv.le (by rw [hst9]; exact hl_gq hle0 hL hgq)) h_5 h25_3 hn7 hb hu3 h_6 hKr3) yy_X12_compileConjunction wm_X12_506 (kl hN (by decide)) hu3 rfl rfl rfl rfl (Nat.le_of_ble_eq_true rfl) (by decide) (by decide) ⟨by decide, by decide⟩ dX12_compileTest_15 (fun w7 hp7 => ?_)
        obtain ⟨hT7, hf7⟩ := hp7
        obtain ⟨u7, hu7, hKr7, hQ_7, h25_7, hs7⟩ := hT7
        obtain ⟨st_8, est_8⟩ : ∃ z : PS, z = (conM bt n (qF V bt n 3) st_4).1 := ⟨_, rfl⟩
        rw [← est_8] at hKr7 hQ_7
        have h18r7 := hKr7.1
        have h22r7 := hKr7.2.1
        have hrgr7 := hKr7.2.2.1
        have hcbr7 := hKr7.cb
        have hwr : isW bt n 38 rr.1 := by rw [← hst9]; exact hw_3
        refine k_aload_n hC dX12_compileTest_18 rfl 0 rfl ?_
        refine k_bipush hC dX12_compileTest_19 (by decide) ?_
        have h_10 : w7 144 = iA G 700 bt := (hf7 144 (by decide)).trans h_6
        refine k_muvV hC (c_X12_emit l hls G hN w7 fl u7 bt n st_8 (L ++ rr.2.1 ++ (conM bt n (qF V bt n 3) st_4).2.1) (-25) (by rw [est_8, est_4, hst9]; exact lt_and (V := V) (Or.inr rfl) hn2 hle0 hL (isW_go hwr) hgq (gq_con (gq_qF 3) _)) hn2 hQ_7 hn7 hb hu7 h_10 hKr7) yy_X12_emit wm_X12_487 (kl hN (by decide)) hu7 rfl rfl rfl rfl (Nat.le_of_ble_eq_true rfl) (by decide) (by decide) ⟨by decide, by decide⟩ dX12_compileTest_21 (fun w9 hp9 => ?_)
        obtain ⟨⟨u9, hu9, hKr9, hQ_9, hs9⟩, hf9⟩ := hp9
        have h18r9 := hKr9.1
        have h22r9 := hKr9.2.1
        have hrgr9 := hKr9.2.2.1
        have hcbr9 := hKr9.cb
        have h25_9 : u9 25 = 3 := (hs9 25 (by decide)).trans h25_7
        refine k_goto hC 4 dX12_compileTest_24 rfl ?_
        have h_11 : w9 144 = iA G 700 bt := (hf9 144 (by decide)).trans h_10
        have h_12 : w9 145 = rA G 6 7 (fun j => some (kadK G (nmI j))) := (hf9 145 (by decide)).trans ((hf7 145 (by decide)).trans h_5)
        exact ihw (k + 1) (and2 (-25) rr (conM bt n (qF V bt n 3) st_4)) st_8 u9 w9 (by omega) (by have h8 := cjN_pos hle0 (Or.inr rfl) (gq_con (gq_qF 3)) k _ (gq_con (gq_qF 3) st) (by rw [← hx]; exact hwr); rw [← hx] at h8; have h9 := enM_lt9 (bt := bt) (n := n) (s := rr.1.2.2) (by rw [hwr.2.1]; decide); omega) (by rw [cjN_go k _ (by rw [← hx]; exact hwr), ← hx, est_4, hst9]) est_8 hKr9 (hQ_9.cg (fun _ => by show _ = L ++ (rr.2.1 ++ (conM bt n (qF V bt n 3) st_4).2.1 ++ [-25]); simp only [List.append_assoc])) h25_9 (uQ.tr (uQ.tr (uQ.tr husv (uS.q hs3)) hs7) (uQ.e29 hs9)) hu9 h_11 h_12 (fun j hj => (hf9 j (by omega)).trans ((hf7 j (by omega)).trans ((hf3 j (by omega)).trans (hfrw j (by omega)))))
      · rw [selP_0 hw_3] at hT3
        refine k_topv (vI 0) (congrArg vI (selI_0 hw_3)) ?_
        obtain ⟨u3, hu3, hKr3, hs3⟩ := hT3
        have h18r3 := hKr3.1
        have h22r3 := hKr3.2.1
        have hrgr3 := hKr3.2.2.1
        have hcbr3 := hKr3.cb
        have hQ_3 : qcW G w3 u3 st9 (L ++ rr.2.1) := hqv.go (hs3 29 (by omega)) (hf3 146 (by decide)) (fun q => q)
        have h25_3 : u3 25 = 3 := (hs3 25 (by omega)).trans h25v
        refine k_if_eq hC 27 dX12_compileTest_11 rfl (by omega) (fun c_11 => ?_) (fun c_11 => absurd c_11 (by omega))
        have hfin : rr = tstM bt n (qF V bt n 3) st := by rw [hx]; exact cjN_eq (by rw [← hx, ← hst9]; exact hw_3) (cjN_end hn2 hle0 (Or.inr rfl) (gq_con (gq_qF 3)) (gq_con (gq_qF 3) st))
        subst hQ
        exact k_vret hC hr ⟨by decide, by decide⟩ (⟨rfl, rfl, ⟨u3, hu3, (by have e : st9 = (tstM bt n (qF V bt n 3) st).1 := (by rw [← hfin]; exact hst9); rw [← e]; exact hKr3), (by have e : st9 = (tstM bt n (qF V bt n 3) st).1 := (by rw [← hfin]; exact hst9); rw [← e]; exact hQ_3.cg (fun q => by rw [← hfin])), h25_3, (uQ.tr husv (uS.q hs3))⟩, fun j hj => (hf3 j (by omega)).trans (hfrw j (by omega))⟩) dX12_compileTest_27
  have h_13 : w1 144 = iA G 700 bt := (hf1 144 (by decide)).trans h144
  have h_14 : w1 145 = rA G 6 7 (fun j => some (kadK G (nmI j))) := (hf1 145 (by decide)).trans h145
  exact loopw (n + 1) 0 (conM bt n (qF V bt n 3) st) st_2 u1 w1 (by omega) (by omega) rfl est_2 hKr1 hQ_1 h25_1 (uQ.tr uQ.rf hs1) hu1 h_13 h_14 (fun j hj => hf1 j (by omega))

set_option maxRecDepth 100000 in
set_option maxHeartbeats 4000000 in
theorem c_X12_compileFactor_4 (l : Launch) (hls : l.stackTraces = false) (G : kG) (hN : kN G = 150) (w : Nat → va_E) (fl : va_W) (u bt : Nat → Int) (n : Nat) (st : PS) (L : List Int) (V : Int → Nat → Int) (hn2 : n ≤ 200) (hqc : qcW G w u st L) (hL : st.1 = 0 → L.length ≤ st.2.2) (h145 : w 145 = nmA G) (h25 : u 25 = 2) (hn7 : n ≤ 700) (hb : btOK bt) (hm : w 133 = mdO G u) (h144 : w 144 = iA G 700 bt) (hK : mkR u bt n st) : KM l G yX12_compileFactor cX12_compileFactor 2 (none) 18 0 0 [.ref (kad G 133)] w fl (kMuv fl (fun w1 => (∃ u1, w1 133 = mdO G u1 ∧ mkR u1 bt n ((qF V bt n 4 st).1) ∧ qcW G w1 u1 ((qF V bt n 4 st).1) (L ++ (qF V bt n 4 st).2.1) ∧ u1 25 = 2 ∧ uQ u u1) ∧ ∀ j, (j ≠ 133 ∧ j ≠ 146) → w1 j = w j)) := by
  refine KM_of2 hls (by decide +kernel) rfl (lv0 := [(0, .ref (kad G 133))]) rfl (Nat.le_of_ble_eq_true rfl) (fun p e R s m args below meth c Q hC hr hQ => ?_)
  have h18 := hK.1
  have h22 := hK.2.1
  have hrg := hK.2.2.1
  have hcb := hK.cb
  have hk0 := hK.2.2.2.1
  have hk1 := hK.2.2.2.2.1
  have hdg := hK.2.2.2.2.2
  have hle0 := hK.le
  refine k_aload_n hC dX12_compileFactor_0 rfl 0 rfl ?_
  refine k_ldcsw hC (List.mem_of_getElem? (i := 55) rfl) dX12_compileFactor_1 ?_
  refine k_pureV hC (c_X12_isWord l hls G hN w fl u bt n st 31 (by decide) hn7 hb hm h144 hK) yy_X12_isWord wm_X12_409 (kl hN (by decide)) hm rfl rfl rfl rfl (Nat.le_of_ble_eq_true rfl) (by decide) (by decide) ⟨by decide, by decide⟩ dX12_compileFactor_4 ?_
  obtain ⟨z_1, ez_1, hz_1⟩ := selI_c (isW bt n 31 st)
  refine k_topv (vI z_1) (by rw [ez_1]) ?_
  refine k_if_eq hC 44 dX12_compileFactor_7 rfl (by omega) (fun c_7 => ?_) (fun c_7 => ?_)
  · have hw31 : ¬ isW bt n 31 st := (hz_1.resolve_left (fun q1 => by omega)).2
    refine k_aload_n hC dX12_compileFactor_44 rfl 0 rfl ?_
    refine k_bipush hC dX12_compileFactor_45 (by decide) ?_
    refine k_pureV hC (c_X12_isSymbol l hls G hN w fl u bt n st 40 (by omega) hn7 hb hm h144 hK) yy_X12_isSymbol wm_X12_420 (kl hN (by decide)) hm rfl rfl rfl rfl (Nat.le_of_ble_eq_true rfl) (by decide) (by decide) ⟨by decide, by decide⟩ dX12_compileFactor_47 ?_
    obtain ⟨z_2, ez_2, hz_2⟩ := selI_c (isS bt n 40 st)
    refine k_topv (vI z_2) (by rw [ez_2]) ?_
    refine k_if_eq hC 87 dX12_compileFactor_50 rfl (by omega) (fun c_50 => ?_) (fun c_50 => ?_)
    · have hw40 : ¬ isS bt n 40 st := (hz_2.resolve_left (fun q1 => by omega)).2
      have hqF := qF_c (V := V) 4 hw31 hw40
      refine k_aload_n hC dX12_compileFactor_87 rfl 0 rfl ?_
      refine k_muvV hC (c_X12_compileValue l hls G hN w fl u bt n st L 2 hn2 hqc hL h145 h25 hn7 hb hm h144 hK) yy_X12_compileValue wm_X12_501 (kl hN (by decide)) hm rfl rfl rfl rfl (Nat.le_of_ble_eq_true rfl) (by decide) (by decide) ⟨by decide, by decide⟩ dX12_compileFactor_88 (fun w3 hp3 => ?_)
      obtain ⟨hT3, hf3⟩ := hp3
      obtain ⟨u3, hu3, hKr3, hQ_3, h25_3, hs3⟩ := hT3
      obtain ⟨st_4, est_4⟩ : ∃ z : PS, z = vlS bt n st := ⟨_, rfl⟩
      rw [← est_4] at hKr3 hQ_3
      have h18r3 := hKr3.1
      have h22r3 := hKr3.2.1
      have hrgr3 := hKr3.2.2.1
      have hcbr3 := hKr3.cb
      refine k_aload_n hC dX12_compileFactor_91 rfl 0 rfl ?_
      refine k_bipush hC dX12_compileFactor_92 (by decide) ?_
      have h_5 : w3 144 = iA G 700 bt := (hf3 144 (by decide)).trans h144
      refine k_pureV hC (c_X12_isSymbol l hls G hN w3 fl u3 bt n st_4 60 (by omega) hn7 hb hu3 h_5 hKr3) yy_X12_isSymbol wm_X12_420 (kl hN (by decide)) hu3 rfl rfl rfl rfl (Nat.le_of_ble_eq_true rfl) (by decide) (by decide) ⟨by decide, by decide⟩ dX12_compileFactor_94 ?_
      obtain ⟨z_6, ez_6, hz_6⟩ := selI_c (isS bt n 60 st_4)
      refine k_topv (vI z_6) (by rw [ez_6]) ?_
      refine k_if_eq hC 105 dX12_compileFactor_97 rfl (by omega) (fun c_97 => ?_) (fun c_97 => ?_)
      · refine k_aload_n hC dX12_compileFactor_105 rfl 0 rfl ?_
        refine k_bipush hC dX12_compileFactor_106 (by decide) ?_
        refine k_pureV hC (c_X12_isSymbol l hls G hN w3 fl u3 bt n st_4 61 (by omega) hn7 hb hu3 h_5 hKr3) yy_X12_isSymbol wm_X12_420 (kl hN (by decide)) hu3 rfl rfl rfl rfl (Nat.le_of_ble_eq_true rfl) (by decide) (by decide) ⟨by decide, by decide⟩ dX12_compileFactor_108 ?_
        obtain ⟨z_7, ez_7, hz_7⟩ := selI_c (isS bt n 61 st_4)
        refine k_topv (vI z_7) (by rw [ez_7]) ?_
        refine k_if_eq hC 119 dX12_compileFactor_111 rfl (by omega) (fun c_111 => ?_) (fun c_111 => ?_)
        · refine k_bipush hC dX12_compileFactor_119 (by decide) ?_
          refine k_istore_n hC [(1, vI (-22)), (0, .ref (kad G 133))] dX12_compileFactor_121 rfl (by decide) rfl ?_
          refine k_aload_n hC dX12_compileFactor_122 rfl 1 rfl ?_
          refine k_iload_n hC dX12_compileFactor_123 rfl 0 rfl ?_
          refine k_bipush hC dX12_compileFactor_124 (by decide) ?_
          refine k_icmp_ne hC 138 dX12_compileFactor_126 rfl (by omega) (by omega) (fun c_126 => absurd c_126 (by omega)) (fun c_126 => ?_)
          refine k_aload_n hC dX12_compileFactor_129 rfl 1 rfl ?_
          refine k_bipush hC dX12_compileFactor_130 (by decide) ?_
          refine k_pureV hC (c_X12_isSymbol l hls G hN w3 fl u3 bt n st_4 62 (by omega) hn7 hb hu3 h_5 hKr3) yy_X12_isSymbol wm_X12_420 (kl hN (by decide)) hu3 rfl rfl rfl rfl (Nat.le_of_ble_eq_true rfl) (by decide) (by decide) ⟨by decide, by decide⟩ dX12_compileFactor_132 ?_
          obtain ⟨z_8, ez_8, hz_8⟩ := selI_c (isS bt n 62 st_4)
          refine k_topv (vI z_8) (by rw [ez_8]) ?_
          refine k_if_eq hC 142 dX12_compileFactor_135 rfl (by omega) (fun c_135 => ?_) (fun c_135 => ?_)
          · refine k_iconst hC dX12_compileFactor_142 ?_
            refine k_iconst hC dX12_compileFactor_143 ?_
            refine k_muvV hC (c_X12_check0 l hls G hN w3 fl u3 bt n st_4 1 (by omega) hn7 hb hu3 h_5 hKr3) yy_X12_check wm_X12_413 (kl hN (by decide)) hu3 rfl rfl rfl rfl (Nat.le_of_ble_eq_true rfl) (by decide) (by decide) ⟨by decide, by decide⟩ dX12_compileFactor_144 (fun w9 hp9 => ?_)
            obtain ⟨hT9, hf9⟩ := hp9
            obtain ⟨u9, hu9, hKr9, hs9⟩ := hT9
            obtain ⟨st_10, est_10⟩ : ∃ z : PS, z = flP 1 st_4 := ⟨_, rfl⟩
            rw [← est_10] at hKr9
            have h18r9 := hKr9.1
            have h22r9 := hKr9.2.1
            have hrgr9 := hKr9.2.2.1
            have hcbr9 := hKr9.cb
            have hzzr9 : st_10.1 ≠ 0 := by rw [est_10]; exact fl_c (by omega)
            have hQ_9 : qcW G w9 u9 st_10 (L ++ [vlC bt n st]) := hQ_3.go (hs9 29 (by omega)) (hf9 146 (by decide)) (fun q => absurd q hzzr9)
            have h25_9 : u9 25 = 2 := (hs9 25 (by omega)).trans h25_3
            refine k_aload_n hC dX12_compileFactor_147 rfl 1 rfl ?_
            have h_12 : w9 144 = iA G 700 bt := (hf9 144 (by decide)).trans h_5
            refine k_muvV hC (c_X12_advance l hls G hN w9 fl u9 bt n st_10  hn7 hb hu9 h_12 hKr9) yy_X12_advance wm_X12_417 (kl hN (by decide)) hu9 rfl rfl rfl rfl (Nat.le_of_ble_eq_true rfl) (by decide) (by decide) ⟨by decide, by decide⟩ dX12_compileFactor_148 (fun w11 hp11 => ?_)
            obtain ⟨hT11, hf11⟩ := hp11
            obtain ⟨u11, hu11, hKr11, hs11⟩ := hT11
            obtain ⟨st_13, est_13⟩ : ∃ z : PS, z = adP bt n st_10 := ⟨_, rfl⟩
            rw [← est_13] at hKr11
            have h18r11 := hKr11.1
            have h22r11 := hKr11.2.1
            have hrgr11 := hKr11.2.2.1
            have hcbr11 := hKr11.cb
            have hzzr11 : st_13.1 ≠ 0 := by rw [est_13, adP_e (by omega)]; omega
            have hQ_11 : qcW G w11 u11 st_13 (L ++ [vlC bt n st]) := hQ_9.go (hs11 29 (by omega)) (hf11 146 (by decide)) (fun q => ad_c.mp (by rw [← est_13]; exact q))
            have h25_11 : u11 25 = 2 := (hs11 25 (by omega)).trans h25_9
            have hop : opM bt n st_4 = -22 := (selI_0 (hz_6.resolve_left (fun q1 => by omega)).2).trans (selI_0 (hz_7.resolve_left (fun q1 => by omega)).2)
            have hob9 : st_13 = opS bt n st_4 := by unfold opS; rw [selP_0 (fun q => q.elim (hz_6.resolve_left (fun q1 => by omega)).2 (fun q => q.elim (hz_7.resolve_left (fun q1 => by omega)).2 (hz_8.resolve_left (fun q1 => by omega)).2)), ← est_10]; exact est_13
            refine k_aload_n hC dX12_compileFactor_151 rfl 1 rfl ?_
            have h_14 : w11 145 = rA G 6 7 (fun j => some (kadK G (nmI j))) := (hf11 145 (by decide)).trans ((hf9 145 (by decide)).trans ((hf3 145 (by decide)).trans h145))
            have h_15 : w11 144 = iA G 700 bt := (hf11 144 (by decide)).trans h_12
            refine k_muvV hC (c_X12_compileValue l hls G hN w11 fl u11 bt n st_13 (L ++ [vlC bt n st]) 2 hn2 hQ_11 (by rw [hob9, est_4]; exact hl_cmp hle0 hL) h_14 h25_11 hn7 hb hu11 h_15 hKr11) yy_X12_compileValue wm_X12_501 (kl hN (by decide)) hu11 rfl rfl rfl rfl (Nat.le_of_ble_eq_true rfl) (by decide) (by decide) ⟨by decide, by decide⟩ dX12_compileFactor_152 (fun w16 hp16 => ?_)
            obtain ⟨hT16, hf16⟩ := hp16
            obtain ⟨u16, hu16, hKr16, hQ_16, h25_16, hs16⟩ := hT16
            obtain ⟨st_17, est_17⟩ : ∃ z : PS, z = vlS bt n st_13 := ⟨_, rfl⟩
            rw [← est_17] at hKr16 hQ_16
            have h18r16 := hKr16.1
            have h22r16 := hKr16.2.1
            have hrgr16 := hKr16.2.2.1
            have hcbr16 := hKr16.cb
            have hob : st_13 = opS bt n st_4 := by exact hob9
            refine k_aload_n hC dX12_compileFactor_155 rfl 1 rfl ?_
            refine k_iload_n hC dX12_compileFactor_156 rfl 0 rfl ?_
            have h_19 : w16 144 = iA G 700 bt := (hf16 144 (by decide)).trans h_15
            refine k_muvV hC (c_X12_emit l hls G hN w16 fl u16 bt n st_17 (L ++ [vlC bt n st] ++ [vlC bt n st_13]) (-22) (by rw [est_17, hob, est_4]; exact lt_cmp hn2 hle0 hL) hn2 hQ_16 hn7 hb hu16 h_19 hKr16) yy_X12_emit wm_X12_487 (kl hN (by decide)) hu16 rfl rfl rfl rfl (Nat.le_of_ble_eq_true rfl) (by decide) (by decide) ⟨by decide, by decide⟩ dX12_compileFactor_157 (fun w18 hp18 => ?_)
            obtain ⟨⟨u18, hu18, hKr18, hQ_18, hs18⟩, hf18⟩ := hp18
            have h18r18 := hKr18.1
            have h22r18 := hKr18.2.1
            have hrgr18 := hKr18.2.2.1
            have hcbr18 := hKr18.cb
            have h25_18 : u18 25 = 2 := (hs18 25 (by decide)).trans h25_16
            subst hQ
            exact k_vret hC hr ⟨by decide, by decide⟩ (⟨rfl, rfl, ⟨u18, hu18, (by have e : st_17 = (qF V bt n 4 st).1 := (by rw [hqF]; show st_17 = vlS bt n (opS bt n (vlS bt n st)); rw [← est_4, ← hob9]; exact est_17); rw [← e]; exact hKr18), (by have e : st_17 = (qF V bt n 4 st).1 := (by rw [hqF]; show st_17 = vlS bt n (opS bt n (vlS bt n st)); rw [← est_4, ← hob9]; exact est_17); rw [← e]; exact hQ_18.cg (fun q => by rw [hqF]; show _ = L ++ [vlC bt n st, vlC bt n (opS bt n (vlS bt n st)), opM bt n (vlS bt n st)]; rw [← est_4, hop, ← hob9, List.append_assoc, List.append_assoc]; rfl)), h25_18, (uQ.tr (uQ.tr (uQ.tr (uQ.tr (uQ.tr uQ.rf hs3) (uS.q hs9)) (uS.q hs11)) hs16) (uQ.e29 hs18))⟩, fun j hj => (hf18 j (by omega)).trans ((hf16 j (by omega)).trans ((hf11 j (by omega)).trans ((hf9 j (by omega)).trans (hf3 j (by omega)))))⟩) dX12_compileFactor_160
          · refine k_iconst hC dX12_compileFactor_138 ?_
            refine k_goto hC 143 dX12_compileFactor_139 rfl ?_
            refine k_iconst hC dX12_compileFactor_143 ?_
            refine k_muvV hC (c_X12_check1 l hls G hN w3 fl u3 bt n st_4 1 (by omega) hn7 hb hu3 h_5 hKr3) yy_X12_check wm_X12_413 (kl hN (by decide)) hu3 rfl rfl rfl rfl (Nat.le_of_ble_eq_true rfl) (by decide) (by decide) ⟨by decide, by decide⟩ dX12_compileFactor_144 (fun w20 hp20 => ?_)
            obtain ⟨hT20, hf20⟩ := hp20
            obtain ⟨u20, hu20, hKr20, hs20⟩ := hT20
            have h18r20 := hKr20.1
            have h22r20 := hKr20.2.1
            have hrgr20 := hKr20.2.2.1
            have hcbr20 := hKr20.cb
            have hQ_20 : qcW G w20 u20 st_4 (L ++ [vlC bt n st]) := hQ_3.go (hs20 29 (by omega)) (hf20 146 (by decide)) (fun q => q)
            have h25_20 : u20 25 = 2 := (hs20 25 (by omega)).trans h25_3
            refine k_aload_n hC dX12_compileFactor_147 rfl 1 rfl ?_
            have h_22 : w20 144 = iA G 700 bt := (hf20 144 (by decide)).trans h_5
            refine k_muvV hC (c_X12_advance l hls G hN w20 fl u20 bt n st_4  hn7 hb hu20 h_22 hKr20) yy_X12_advance wm_X12_417 (kl hN (by decide)) hu20 rfl rfl rfl rfl (Nat.le_of_ble_eq_true rfl) (by decide) (by decide) ⟨by decide, by decide⟩ dX12_compileFactor_148 (fun w21 hp21 => ?_)
            obtain ⟨hT21, hf21⟩ := hp21
            obtain ⟨u21, hu21, hKr21, hs21⟩ := hT21
            obtain ⟨st_23, est_23⟩ : ∃ z : PS, z = adP bt n st_4 := ⟨_, rfl⟩
            rw [← est_23] at hKr21
            have h18r21 := hKr21.1
            have h22r21 := hKr21.2.1
            have hrgr21 := hKr21.2.2.1
            have hcbr21 := hKr21.cb
            have hQ_21 : qcW G w21 u21 st_23 (L ++ [vlC bt n st]) := hQ_20.go (hs21 29 (by omega)) (hf21 146 (by decide)) (fun q => ad_c.mp (by rw [← est_23]; exact q))
            have h25_21 : u21 25 = 2 := (hs21 25 (by omega)).trans h25_20
            have hop : opM bt n st_4 = -22 := (selI_0 (hz_6.resolve_left (fun q1 => by omega)).2).trans (selI_0 (hz_7.resolve_left (fun q1 => by omega)).2)
            have hob9 : st_23 = opS bt n st_4 := by unfold opS; rw [selP_1 (Or.inr (Or.inr (hz_8.resolve_right (fun q1 => by omega)).2))]; exact est_23
            refine k_aload_n hC dX12_compileFactor_151 rfl 1 rfl ?_
            have h_24 : w21 145 = rA G 6 7 (fun j => some (kadK G (nmI j))) := (hf21 145 (by decide)).trans ((hf20 145 (by decide)).trans ((hf3 145 (by decide)).trans h145))
            have h_25 : w21 144 = iA G 700 bt := (hf21 144 (by decide)).trans h_22
            refine k_muvV hC (c_X12_compileValue l hls G hN w21 fl u21 bt n st_23 (L ++ [vlC bt n st]) 2 hn2 hQ_21 (by rw [hob9, est_4]; exact hl_cmp hle0 hL) h_24 h25_21 hn7 hb hu21 h_25 hKr21) yy_X12_compileValue wm_X12_501 (kl hN (by decide)) hu21 rfl rfl rfl rfl (Nat.le_of_ble_eq_true rfl) (by decide) (by decide) ⟨by decide, by decide⟩ dX12_compileFactor_152 (fun w26 hp26 => ?_)
            obtain ⟨hT26, hf26⟩ := hp26
            obtain ⟨u26, hu26, hKr26, hQ_26, h25_26, hs26⟩ := hT26
            obtain ⟨st_27, est_27⟩ : ∃ z : PS, z = vlS bt n st_23 := ⟨_, rfl⟩
            rw [← est_27] at hKr26 hQ_26
            have h18r26 := hKr26.1
            have h22r26 := hKr26.2.1
            have hrgr26 := hKr26.2.2.1
            have hcbr26 := hKr26.cb
            have hob : st_23 = opS bt n st_4 := by exact hob9
            refine k_aload_n hC dX12_compileFactor_155 rfl 1 rfl ?_
            refine k_iload_n hC dX12_compileFactor_156 rfl 0 rfl ?_
            have h_29 : w26 144 = iA G 700 bt := (hf26 144 (by decide)).trans h_25
            refine k_muvV hC (c_X12_emit l hls G hN w26 fl u26 bt n st_27 (L ++ [vlC bt n st] ++ [vlC bt n st_23]) (-22) (by rw [est_27, hob, est_4]; exact lt_cmp hn2 hle0 hL) hn2 hQ_26 hn7 hb hu26 h_29 hKr26) yy_X12_emit wm_X12_487 (kl hN (by decide)) hu26 rfl rfl rfl rfl (Nat.le_of_ble_eq_true rfl) (by decide) (by decide) ⟨by decide, by decide⟩ dX12_compileFactor_157 (fun w28 hp28 => ?_)
            obtain ⟨⟨u28, hu28, hKr28, hQ_28, hs28⟩, hf28⟩ := hp28
            have h18r28 := hKr28.1
            have h22r28 := hKr28.2.1
            have hrgr28 := hKr28.2.2.1
            have hcbr28 := hKr28.cb
            have h25_28 : u28 25 = 2 := (hs28 25 (by decide)).trans h25_26
            subst hQ
            exact k_vret hC hr ⟨by decide, by decide⟩ (⟨rfl, rfl, ⟨u28, hu28, (by have e : st_27 = (qF V bt n 4 st).1 := (by rw [hqF]; show st_27 = vlS bt n (opS bt n (vlS bt n st)); rw [← est_4, ← hob9]; exact est_27); rw [← e]; exact hKr28), (by have e : st_27 = (qF V bt n 4 st).1 := (by rw [hqF]; show st_27 = vlS bt n (opS bt n (vlS bt n st)); rw [← est_4, ← hob9]; exact est_27); rw [← e]; exact hQ_28.cg (fun q => by rw [hqF]; show _ = L ++ [vlC bt n st, vlC bt n (opS bt n (vlS bt n st)), opM bt n (vlS bt n st)]; rw [← est_4, hop, ← hob9, List.append_assoc, List.append_assoc]; rfl)), h25_28, (uQ.tr (uQ.tr (uQ.tr (uQ.tr (uQ.tr uQ.rf hs3) (uS.q hs20)) (uS.q hs21)) hs26) (uQ.e29 hs28))⟩, fun j hj => (hf28 j (by omega)).trans ((hf26 j (by omega)).trans ((hf21 j (by omega)).trans ((hf20 j (by omega)).trans (hf3 j (by omega)))))⟩) dX12_compileFactor_160
        · refine k_bipush hC dX12_compileFactor_114 (by decide) ?_
          refine k_goto hC 121 dX12_compileFactor_116 rfl ?_
          refine k_istore_n hC [(1, vI (-21)), (0, .ref (kad G 133))] dX12_compileFactor_121 rfl (by decide) rfl ?_
          refine k_aload_n hC dX12_compileFactor_122 rfl 1 rfl ?_
          refine k_iload_n hC dX12_compileFactor_123 rfl 0 rfl ?_
          refine k_bipush hC dX12_compileFactor_124 (by decide) ?_
          refine k_icmp_ne hC 138 dX12_compileFactor_126 rfl (by omega) (by omega) (fun c_126 => ?_) (fun c_126 => absurd c_126 (by omega))
          refine k_iconst hC dX12_compileFactor_138 ?_
          refine k_goto hC 143 dX12_compileFactor_139 rfl ?_
          refine k_iconst hC dX12_compileFactor_143 ?_
          refine k_muvV hC (c_X12_check1 l hls G hN w3 fl u3 bt n st_4 1 (by omega) hn7 hb hu3 h_5 hKr3) yy_X12_check wm_X12_413 (kl hN (by decide)) hu3 rfl rfl rfl rfl (Nat.le_of_ble_eq_true rfl) (by decide) (by decide) ⟨by decide, by decide⟩ dX12_compileFactor_144 (fun w30 hp30 => ?_)
          obtain ⟨hT30, hf30⟩ := hp30
          obtain ⟨u30, hu30, hKr30, hs30⟩ := hT30
          have h18r30 := hKr30.1
          have h22r30 := hKr30.2.1
          have hrgr30 := hKr30.2.2.1
          have hcbr30 := hKr30.cb
          have hQ_30 : qcW G w30 u30 st_4 (L ++ [vlC bt n st]) := hQ_3.go (hs30 29 (by omega)) (hf30 146 (by decide)) (fun q => q)
          have h25_30 : u30 25 = 2 := (hs30 25 (by omega)).trans h25_3
          refine k_aload_n hC dX12_compileFactor_147 rfl 1 rfl ?_
          have h_32 : w30 144 = iA G 700 bt := (hf30 144 (by decide)).trans h_5
          refine k_muvV hC (c_X12_advance l hls G hN w30 fl u30 bt n st_4  hn7 hb hu30 h_32 hKr30) yy_X12_advance wm_X12_417 (kl hN (by decide)) hu30 rfl rfl rfl rfl (Nat.le_of_ble_eq_true rfl) (by decide) (by decide) ⟨by decide, by decide⟩ dX12_compileFactor_148 (fun w31 hp31 => ?_)
          obtain ⟨hT31, hf31⟩ := hp31
          obtain ⟨u31, hu31, hKr31, hs31⟩ := hT31
          obtain ⟨st_33, est_33⟩ : ∃ z : PS, z = adP bt n st_4 := ⟨_, rfl⟩
          rw [← est_33] at hKr31
          have h18r31 := hKr31.1
          have h22r31 := hKr31.2.1
          have hrgr31 := hKr31.2.2.1
          have hcbr31 := hKr31.cb
          have hQ_31 : qcW G w31 u31 st_33 (L ++ [vlC bt n st]) := hQ_30.go (hs31 29 (by omega)) (hf31 146 (by decide)) (fun q => ad_c.mp (by rw [← est_33]; exact q))
          have h25_31 : u31 25 = 2 := (hs31 25 (by omega)).trans h25_30
          have hop : opM bt n st_4 = -21 := (selI_0 (hz_6.resolve_left (fun q1 => by omega)).2).trans (selI_1 (hz_7.resolve_right (fun q1 => by omega)).2)
          have hob9 : st_33 = opS bt n st_4 := by unfold opS; rw [selP_1 (Or.inr (Or.inl (hz_7.resolve_right (fun q1 => by omega)).2))]; exact est_33
          refine k_aload_n hC dX12_compileFactor_151 rfl 1 rfl ?_
          have h_34 : w31 145 = rA G 6 7 (fun j => some (kadK G (nmI j))) := (hf31 145 (by decide)).trans ((hf30 145 (by decide)).trans ((hf3 145 (by decide)).trans h145))
          have h_35 : w31 144 = iA G 700 bt := (hf31 144 (by decide)).trans h_32
          refine k_muvV hC (c_X12_compileValue l hls G hN w31 fl u31 bt n st_33 (L ++ [vlC bt n st]) 2 hn2 hQ_31 (by rw [hob9, est_4]; exact hl_cmp hle0 hL) h_34 h25_31 hn7 hb hu31 h_35 hKr31) yy_X12_compileValue wm_X12_501 (kl hN (by decide)) hu31 rfl rfl rfl rfl (Nat.le_of_ble_eq_true rfl) (by decide) (by decide) ⟨by decide, by decide⟩ dX12_compileFactor_152 (fun w36 hp36 => ?_)
          obtain ⟨hT36, hf36⟩ := hp36
          obtain ⟨u36, hu36, hKr36, hQ_36, h25_36, hs36⟩ := hT36
          obtain ⟨st_37, est_37⟩ : ∃ z : PS, z = vlS bt n st_33 := ⟨_, rfl⟩
          rw [← est_37] at hKr36 hQ_36
          have h18r36 := hKr36.1
          have h22r36 := hKr36.2.1
          have hrgr36 := hKr36.2.2.1
          have hcbr36 := hKr36.cb
          have hob : st_33 = opS bt n st_4 := by exact hob9
          refine k_aload_n hC dX12_compileFactor_155 rfl 1 rfl ?_
          refine k_iload_n hC dX12_compileFactor_156 rfl 0 rfl ?_
          have h_39 : w36 144 = iA G 700 bt := (hf36 144 (by decide)).trans h_35
          refine k_muvV hC (c_X12_emit l hls G hN w36 fl u36 bt n st_37 (L ++ [vlC bt n st] ++ [vlC bt n st_33]) (-21) (by rw [est_37, hob, est_4]; exact lt_cmp hn2 hle0 hL) hn2 hQ_36 hn7 hb hu36 h_39 hKr36) yy_X12_emit wm_X12_487 (kl hN (by decide)) hu36 rfl rfl rfl rfl (Nat.le_of_ble_eq_true rfl) (by decide) (by decide) ⟨by decide, by decide⟩ dX12_compileFactor_157 (fun w38 hp38 => ?_)
          obtain ⟨⟨u38, hu38, hKr38, hQ_38, hs38⟩, hf38⟩ := hp38
          have h18r38 := hKr38.1
          have h22r38 := hKr38.2.1
          have hrgr38 := hKr38.2.2.1
          have hcbr38 := hKr38.cb
          have h25_38 : u38 25 = 2 := (hs38 25 (by decide)).trans h25_36
          subst hQ
          exact k_vret hC hr ⟨by decide, by decide⟩ (⟨rfl, rfl, ⟨u38, hu38, (by have e : st_37 = (qF V bt n 4 st).1 := (by rw [hqF]; show st_37 = vlS bt n (opS bt n (vlS bt n st)); rw [← est_4, ← hob9]; exact est_37); rw [← e]; exact hKr38), (by have e : st_37 = (qF V bt n 4 st).1 := (by rw [hqF]; show st_37 = vlS bt n (opS bt n (vlS bt n st)); rw [← est_4, ← hob9]; exact est_37); rw [← e]; exact hQ_38.cg (fun q => by rw [hqF]; show _ = L ++ [vlC bt n st, vlC bt n (opS bt n (vlS bt n st)), opM bt n (vlS bt n st)]; rw [← est_4, hop, ← hob9, List.append_assoc, List.append_assoc]; rfl)), h25_38, (uQ.tr (uQ.tr (uQ.tr (uQ.tr (uQ.tr uQ.rf hs3) (uS.q hs30)) (uS.q hs31)) hs36) (uQ.e29 hs38))⟩, fun j hj => (hf38 j (by omega)).trans ((hf36 j (by omega)).trans ((hf31 j (by omega)).trans ((hf30 j (by omega)).trans (hf3 j (by omega)))))⟩) dX12_compileFactor_160
      · refine k_bipush hC dX12_compileFactor_100 (by decide) ?_
        refine k_goto hC 121 dX12_compileFactor_102 rfl ?_
        refine k_istore_n hC [(1, vI (-20)), (0, .ref (kad G 133))] dX12_compileFactor_121 rfl (by decide) rfl ?_
        refine k_aload_n hC dX12_compileFactor_122 rfl 1 rfl ?_
        refine k_iload_n hC dX12_compileFactor_123 rfl 0 rfl ?_
        refine k_bipush hC dX12_compileFactor_124 (by decide) ?_
        refine k_icmp_ne hC 138 dX12_compileFactor_126 rfl (by omega) (by omega) (fun c_126 => ?_) (fun c_126 => absurd c_126 (by omega))
        refine k_iconst hC dX12_compileFactor_138 ?_
        refine k_goto hC 143 dX12_compileFactor_139 rfl ?_
        refine k_iconst hC dX12_compileFactor_143 ?_
        refine k_muvV hC (c_X12_check1 l hls G hN w3 fl u3 bt n st_4 1 (by omega) hn7 hb hu3 h_5 hKr3) yy_X12_check wm_X12_413 (kl hN (by decide)) hu3 rfl rfl rfl rfl (Nat.le_of_ble_eq_true rfl) (by decide) (by decide) ⟨by decide, by decide⟩ dX12_compileFactor_144 (fun w40 hp40 => ?_)
        obtain ⟨hT40, hf40⟩ := hp40
        obtain ⟨u40, hu40, hKr40, hs40⟩ := hT40
        have h18r40 := hKr40.1
        have h22r40 := hKr40.2.1
        have hrgr40 := hKr40.2.2.1
        have hcbr40 := hKr40.cb
        have hQ_40 : qcW G w40 u40 st_4 (L ++ [vlC bt n st]) := hQ_3.go (hs40 29 (by omega)) (hf40 146 (by decide)) (fun q => q)
        have h25_40 : u40 25 = 2 := (hs40 25 (by omega)).trans h25_3
        refine k_aload_n hC dX12_compileFactor_147 rfl 1 rfl ?_
        have h_42 : w40 144 = iA G 700 bt := (hf40 144 (by decide)).trans h_5
        refine k_muvV hC (c_X12_advance l hls G hN w40 fl u40 bt n st_4  hn7 hb hu40 h_42 hKr40) yy_X12_advance wm_X12_417 (kl hN (by decide)) hu40 rfl rfl rfl rfl (Nat.le_of_ble_eq_true rfl) (by decide) (by decide) ⟨by decide, by decide⟩ dX12_compileFactor_148 (fun w41 hp41 => ?_)
        obtain ⟨hT41, hf41⟩ := hp41
        obtain ⟨u41, hu41, hKr41, hs41⟩ := hT41
        obtain ⟨st_43, est_43⟩ : ∃ z : PS, z = adP bt n st_4 := ⟨_, rfl⟩
        rw [← est_43] at hKr41
        have h18r41 := hKr41.1
        have h22r41 := hKr41.2.1
        have hrgr41 := hKr41.2.2.1
        have hcbr41 := hKr41.cb
        have hQ_41 : qcW G w41 u41 st_43 (L ++ [vlC bt n st]) := hQ_40.go (hs41 29 (by omega)) (hf41 146 (by decide)) (fun q => ad_c.mp (by rw [← est_43]; exact q))
        have h25_41 : u41 25 = 2 := (hs41 25 (by omega)).trans h25_40
        have hop : opM bt n st_4 = -20 := selI_1 (hz_6.resolve_right (fun q1 => by omega)).2
        have hob9 : st_43 = opS bt n st_4 := by unfold opS; rw [selP_1 (Or.inl (hz_6.resolve_right (fun q1 => by omega)).2)]; exact est_43
        refine k_aload_n hC dX12_compileFactor_151 rfl 1 rfl ?_
        have h_44 : w41 145 = rA G 6 7 (fun j => some (kadK G (nmI j))) := (hf41 145 (by decide)).trans ((hf40 145 (by decide)).trans ((hf3 145 (by decide)).trans h145))
        have h_45 : w41 144 = iA G 700 bt := (hf41 144 (by decide)).trans h_42
        refine k_muvV hC (c_X12_compileValue l hls G hN w41 fl u41 bt n st_43 (L ++ [vlC bt n st]) 2 hn2 hQ_41 (by rw [hob9, est_4]; exact hl_cmp hle0 hL) h_44 h25_41 hn7 hb hu41 h_45 hKr41) yy_X12_compileValue wm_X12_501 (kl hN (by decide)) hu41 rfl rfl rfl rfl (Nat.le_of_ble_eq_true rfl) (by decide) (by decide) ⟨by decide, by decide⟩ dX12_compileFactor_152 (fun w46 hp46 => ?_)
        obtain ⟨hT46, hf46⟩ := hp46
        obtain ⟨u46, hu46, hKr46, hQ_46, h25_46, hs46⟩ := hT46
        obtain ⟨st_47, est_47⟩ : ∃ z : PS, z = vlS bt n st_43 := ⟨_, rfl⟩
        rw [← est_47] at hKr46 hQ_46
        have h18r46 := hKr46.1
        have h22r46 := hKr46.2.1
        have hrgr46 := hKr46.2.2.1
        have hcbr46 := hKr46.cb
        have hob : st_43 = opS bt n st_4 := by exact hob9
        refine k_aload_n hC dX12_compileFactor_155 rfl 1 rfl ?_
        refine k_iload_n hC dX12_compileFactor_156 rfl 0 rfl ?_
        have h_49 : w46 144 = iA G 700 bt := (hf46 144 (by decide)).trans h_45
        refine k_muvV hC (c_X12_emit l hls G hN w46 fl u46 bt n st_47 (L ++ [vlC bt n st] ++ [vlC bt n st_43]) (-20) (by rw [est_47, hob, est_4]; exact lt_cmp hn2 hle0 hL) hn2 hQ_46 hn7 hb hu46 h_49 hKr46) yy_X12_emit wm_X12_487 (kl hN (by decide)) hu46 rfl rfl rfl rfl (Nat.le_of_ble_eq_true rfl) (by decide) (by decide) ⟨by decide, by decide⟩ dX12_compileFactor_157 (fun w48 hp48 => ?_)
        obtain ⟨⟨u48, hu48, hKr48, hQ_48, hs48⟩, hf48⟩ := hp48
        have h18r48 := hKr48.1
        have h22r48 := hKr48.2.1
        have hrgr48 := hKr48.2.2.1
        have hcbr48 := hKr48.cb
        have h25_48 : u48 25 = 2 := (hs48 25 (by decide)).trans h25_46
        subst hQ
        exact k_vret hC hr ⟨by decide, by decide⟩ (⟨rfl, rfl, ⟨u48, hu48, (by have e : st_47 = (qF V bt n 4 st).1 := (by rw [hqF]; show st_47 = vlS bt n (opS bt n (vlS bt n st)); rw [← est_4, ← hob9]; exact est_47); rw [← e]; exact hKr48), (by have e : st_47 = (qF V bt n 4 st).1 := (by rw [hqF]; show st_47 = vlS bt n (opS bt n (vlS bt n st)); rw [← est_4, ← hob9]; exact est_47); rw [← e]; exact hQ_48.cg (fun q => by rw [hqF]; show _ = L ++ [vlC bt n st, vlC bt n (opS bt n (vlS bt n st)), opM bt n (vlS bt n st)]; rw [← est_4, hop, ← hob9, List.append_assoc, List.append_assoc]; rfl)), h25_48, (uQ.tr (uQ.tr (uQ.tr (uQ.tr (uQ.tr uQ.rf hs3) (uS.q hs40)) (uS.q hs41)) hs46) (uQ.e29 hs48))⟩, fun j hj => (hf48 j (by omega)).trans ((hf46 j (by omega)).trans ((hf41 j (by omega)).trans ((hf40 j (by omega)).trans (hf3 j (by omega)))))⟩) dX12_compileFactor_160
    · have hw40 : isS bt n 40 st := (hz_2.resolve_right (fun q1 => by omega)).2
      have hz0 := hw40.1
      have hzz : st.1 = 0 := by omega
      have hq0 := hK.2.2.2.1 hzz
      have hen := enM_b (bt := bt) hq0.2.2.2
      refine k_aload_n hC dX12_compileFactor_53 rfl 0 rfl ?_
      refine k_muvV hC (c_X12_enter_2 l hls G hN w fl u bt n st L (by omega) hn2 hqc hL h145 h25 hn7 hb hm h144 hK) yy_X12_enter wm_X12_492 (kl hN (by decide)) hm rfl rfl rfl rfl (Nat.le_of_ble_eq_true rfl) (by decide) (by decide) ⟨by decide, by decide⟩ dX12_compileFactor_54 (fun w50 hp50 => ?_)
      obtain ⟨hT50, hf50⟩ := hp50
      obtain ⟨u50, hu50, hKr50, hQ_50, h25_50, hs50⟩ := hT50
      obtain ⟨st_51, est_51⟩ : ∃ z : PS, z = adP bt n st := ⟨_, rfl⟩
      rw [← est_51] at hKr50 hQ_50
      have h18r50 := hKr50.1
      have h22r50 := hKr50.2.1
      have hrgr50 := hKr50.2.2.1
      have hcbr50 := hKr50.cb
      have hzir50 : st_51.1 = 0 := by rw [est_51]; exact ad_c.mpr (by omega)
      have hzzr50 : st_51.1 = 0 := by omega
      have hq0r50 := hKr50.2.2.2.1 hzzr50
      have henr50 := enM_b (bt := bt) hq0r50.2.2.2
      refine k_aload_n hC dX12_compileFactor_57 rfl 0 rfl ?_
      refine k_get hC fd_X12_386 (kl hN (by decide)) hu50 rfl dX12_compileFactor_58 ?_
      refine k_topv (vI 0) (congrArg vI (by omega)) ?_
      refine k_if_ne hC 68 dX12_compileFactor_61 rfl (by omega) (fun c_61 => absurd c_61 (by omega)) (fun c_61 => ?_)
      refine k_aload_n hC dX12_compileFactor_64 rfl 0 rfl ?_
      have h_52 : w50 145 = rA G 6 7 (fun j => some (kadK G (nmI j))) := (hf50 145 (by decide)).trans h145
      have h_53 : w50 144 = iA G 700 bt := (hf50 144 (by decide)).trans h144
      refine k_muvV hC (c_X12_compileTest_3 l hls G hN w50 fl u50 bt n st_51 L V hn2 hQ_50 (by rw [est_51]; exact hl_ad hle0 hL) h_52 h25_50 hn7 hb hu50 h_53 hKr50) yy_X12_compileTest wm_X12_498 (kl hN (by decide)) hu50 rfl rfl rfl rfl (Nat.le_of_ble_eq_true rfl) (by decide) (by decide) ⟨by decide, by decide⟩ dX12_compileFactor_65 (fun w54 hp54 => ?_)
      obtain ⟨hT54, hf54⟩ := hp54
      obtain ⟨u54, hu54, hKr54, hQ_54, h25_54, hs54⟩ := hT54
      obtain ⟨st_55, est_55⟩ : ∃ z : PS, z = (tstM bt n (qF V bt n 3) st_51).1 := ⟨_, rfl⟩
      rw [← est_55] at hKr54 hQ_54
      have h18r54 := hKr54.1
      have h22r54 := hKr54.2.1
      have hrgr54 := hKr54.2.2.1
      have hcbr54 := hKr54.cb
      refine k_aload_n hC dX12_compileFactor_68 rfl 0 rfl ?_
      refine k_bipush hC dX12_compileFactor_69 (by decide) ?_
      have h_57 : w54 144 = iA G 700 bt := (hf54 144 (by decide)).trans h_53
      refine k_muvV hC (c_X12_expect l hls G hN w54 fl u54 bt n st_55 41 (by omega) hn7 hb hu54 h_57 hKr54) yy_X12_expect wm_X12_471 (kl hN (by decide)) hu54 rfl rfl rfl rfl (Nat.le_of_ble_eq_true rfl) (by decide) (by decide) ⟨by decide, by decide⟩ dX12_compileFactor_71 (fun w56 hp56 => ?_)
      obtain ⟨hT56, hf56⟩ := hp56
      obtain ⟨u56, hu56, hKr56, hs56⟩ := hT56
      obtain ⟨st_58, est_58⟩ : ∃ z : PS, z = nsP bt n 41 st_55 := ⟨_, rfl⟩
      rw [← est_58] at hKr56
      have h18r56 := hKr56.1
      have h22r56 := hKr56.2.1
      have hrgr56 := hKr56.2.2.1
      have hcbr56 := hKr56.cb
      have hQ_56 : qcW G w56 u56 st_58 (L ++ (tstM bt n (qF V bt n 3) st_51).2.1) := hQ_54.go (hs56 29 (by omega)) (hf56 146 (by decide)) (fun q => nsok (by rw [← est_58]; exact q))
      have h25_56 : u56 25 = 3 := (hs56 25 (by omega)).trans h25_54
      refine k_aload_n hC dX12_compileFactor_74 rfl 0 rfl ?_
      refine k_dup hC dX12_compileFactor_75 rfl ?_
      refine k_get hC fd_X12_389 (kl hN (by decide)) hu56 rfl dX12_compileFactor_76 ?_
      refine k_topv (vI 3) (congrArg vI (by omega)) ?_
      refine k_iconst hC dX12_compileFactor_79 ?_
      refine k_isub hC dX12_compileFactor_80 ?_
      refine k_topv (vI 2) (congrArg vI (by decide)) ?_
      refine k_put hC fd_X12_389 (kl hN (by decide)) hu56 [.ref (kad G 134), .ref (kad G 135), .ref (kad G 136), .ref (kad G 137), vI (u56 4), vI (u56 5), vI (u56 6), .ref (kad G 138), .ref (kad G 139), .ref (kad G 140), .ref (kad G 141), .ref (kad G 142), vL (u56 12), vL (u56 13), .ref (kad G 143), vI (u56 15), .ref (kad G 144), vI (u56 17), vI (u56 18), vI (u56 19), vI (u56 20), vI (u56 21), vI (u56 22), vI (u56 23), vI (u56 24), vI 2, .ref (kad G 145), .ref (kad G 146), .ref (kad G 147), vI (u56 29)] rfl (Nat.le_of_ble_eq_true rfl) rfl rfl dX12_compileFactor_81 (fun w59 hw59 hf59 => ?_)
      have hKp60 : mkR (kup u56 25 2) bt n st_58 := hKr56.kup25
      have hQ_60 : qcW G w59 (kup u56 25 2) st_58 (L ++ (tstM bt n (qF V bt n 3) st_51).2.1) := hQ_56.go rfl (hf59 146 (by decide)) (fun q => q)
      have h25_60 : (kup u56 25 2) 25 = 2 := rfl
      have h18p60 := hKp60.1
      have h22p60 := hKp60.2.1
      have hrgp60 := hKp60.2.2.1
      have hcbp60 := hKp60.cb
      refine k_goto hC 160 dX12_compileFactor_84 rfl ?_
      subst hQ
      exact k_vret hC hr ⟨by decide, by decide⟩ (⟨rfl, rfl, ⟨(kup u56 25 2), hw59, (by have e : st_58 = (qF V bt n 4 st).1 := (by rw [qF_p hw31 hw40]; show st_58 = nsP bt n 41 (tstM bt n (qF V bt n 3) (adP bt n st)).1; rw [← est_51, ← est_55]; exact est_58); rw [← e]; exact hKp60), (by have e : st_58 = (qF V bt n 4 st).1 := (by rw [qF_p hw31 hw40]; show st_58 = nsP bt n 41 (tstM bt n (qF V bt n 3) (adP bt n st)).1; rw [← est_51, ← est_55]; exact est_58); rw [← e]; exact hQ_60.cg (fun q => by rw [qF_p hw31 hw40, ← est_51]; rfl)), h25_60, (uQ.tr (uQ.tr (uQ.tr (uQ.tr uQ.rf hs50) hs54) (uS.q hs56)) uQ.put25)⟩, fun j hj => (hf59 j (by omega)).trans ((hf56 j (by omega)).trans ((hf54 j (by omega)).trans (hf50 j (by omega))))⟩) dX12_compileFactor_160
  · have hw31 : isW bt n 31 st := (hz_1.resolve_right (fun q1 => by omega)).2
    have hz0 := hw31.1
    have hzz : st.1 = 0 := by omega
    have hq0 := hK.2.2.2.1 hzz
    have hen := enM_b (bt := bt) hq0.2.2.2
    refine k_aload_n hC dX12_compileFactor_10 rfl 0 rfl ?_
    refine k_muvV hC (c_X12_enter_2 l hls G hN w fl u bt n st L (by omega) hn2 hqc hL h145 h25 hn7 hb hm h144 hK) yy_X12_enter wm_X12_492 (kl hN (by decide)) hm rfl rfl rfl rfl (Nat.le_of_ble_eq_true rfl) (by decide) (by decide) ⟨by decide, by decide⟩ dX12_compileFactor_11 (fun w61 hp61 => ?_)
    obtain ⟨hT61, hf61⟩ := hp61
    obtain ⟨u61, hu61, hKr61, hQ_61, h25_61, hs61⟩ := hT61
    obtain ⟨st_62, est_62⟩ : ∃ z : PS, z = adP bt n st := ⟨_, rfl⟩
    rw [← est_62] at hKr61 hQ_61
    have h18r61 := hKr61.1
    have h22r61 := hKr61.2.1
    have hrgr61 := hKr61.2.2.1
    have hcbr61 := hKr61.cb
    have hzir61 : st_62.1 = 0 := by rw [est_62]; exact ad_c.mpr (by omega)
    have hzzr61 : st_62.1 = 0 := by omega
    have hq0r61 := hKr61.2.2.2.1 hzzr61
    have henr61 := enM_b (bt := bt) hq0r61.2.2.2
    refine k_aload_n hC dX12_compileFactor_14 rfl 0 rfl ?_
    refine k_get hC fd_X12_386 (kl hN (by decide)) hu61 rfl dX12_compileFactor_15 ?_
    refine k_topv (vI 0) (congrArg vI (by omega)) ?_
    refine k_if_ne hC 25 dX12_compileFactor_18 rfl (by omega) (fun c_18 => absurd c_18 (by omega)) (fun c_18 => ?_)
    refine k_aload_n hC dX12_compileFactor_21 rfl 0 rfl ?_
    have h_63 : w61 145 = rA G 6 7 (fun j => some (kadK G (nmI j))) := (hf61 145 (by decide)).trans h145
    have h_64 : w61 144 = iA G 700 bt := (hf61 144 (by decide)).trans h144
    refine k_muvV hC (c_X12_compileFactor_3 l hls G hN w61 fl u61 bt n st_62 L V hn2 hQ_61 (by rw [est_62]; exact hl_ad hle0 hL) h_63 h25_61 hn7 hb hu61 h_64 hKr61) yy_X12_compileFactor wm_X12_495 (kl hN (by decide)) hu61 rfl rfl rfl rfl (Nat.le_of_ble_eq_true rfl) (by decide) (by decide) ⟨by decide, by decide⟩ dX12_compileFactor_22 (fun w65 hp65 => ?_)
    obtain ⟨hT65, hf65⟩ := hp65
    obtain ⟨u65, hu65, hKr65, hQ_65, h25_65, hs65⟩ := hT65
    obtain ⟨st_66, est_66⟩ : ∃ z : PS, z = (qF V bt n 3 st_62).1 := ⟨_, rfl⟩
    rw [← est_66] at hKr65 hQ_65
    have h18r65 := hKr65.1
    have h22r65 := hKr65.2.1
    have hrgr65 := hKr65.2.2.1
    have hcbr65 := hKr65.cb
    refine k_aload_n hC dX12_compileFactor_25 rfl 0 rfl ?_
    refine k_bipush hC dX12_compileFactor_26 (by decide) ?_
    have h_68 : w65 144 = iA G 700 bt := (hf65 144 (by decide)).trans h_64
    refine k_muvV hC (c_X12_emit l hls G hN w65 fl u65 bt n st_66 (L ++ (qF V bt n 3 st_62).2.1) (-23) (by rw [est_66]; rw [est_62]; exact lt_not hn2 hle0 hL (isW_go hw31) (gq_qF 3 _)) hn2 hQ_65 hn7 hb hu65 h_68 hKr65) yy_X12_emit wm_X12_487 (kl hN (by decide)) hu65 rfl rfl rfl rfl (Nat.le_of_ble_eq_true rfl) (by decide) (by decide) ⟨by decide, by decide⟩ dX12_compileFactor_28 (fun w67 hp67 => ?_)
    obtain ⟨⟨u67, hu67, hKr67, hQ_67, hs67⟩, hf67⟩ := hp67
    have h18r67 := hKr67.1
    have h22r67 := hKr67.2.1
    have hrgr67 := hKr67.2.2.1
    have hcbr67 := hKr67.cb
    have h25_67 : u67 25 = 3 := (hs67 25 (by decide)).trans h25_65
    refine k_aload_n hC dX12_compileFactor_31 rfl 0 rfl ?_
    refine k_dup hC dX12_compileFactor_32 rfl ?_
    refine k_get hC fd_X12_389 (kl hN (by decide)) hu67 rfl dX12_compileFactor_33 ?_
    refine k_topv (vI 3) (congrArg vI (by omega)) ?_
    refine k_iconst hC dX12_compileFactor_36 ?_
    refine k_isub hC dX12_compileFactor_37 ?_
    refine k_topv (vI 2) (congrArg vI (by decide)) ?_
    refine k_put hC fd_X12_389 (kl hN (by decide)) hu67 [.ref (kad G 134), .ref (kad G 135), .ref (kad G 136), .ref (kad G 137), vI (u67 4), vI (u67 5), vI (u67 6), .ref (kad G 138), .ref (kad G 139), .ref (kad G 140), .ref (kad G 141), .ref (kad G 142), vL (u67 12), vL (u67 13), .ref (kad G 143), vI (u67 15), .ref (kad G 144), vI (u67 17), vI (u67 18), vI (u67 19), vI (u67 20), vI (u67 21), vI (u67 22), vI (u67 23), vI (u67 24), vI 2, .ref (kad G 145), .ref (kad G 146), .ref (kad G 147), vI (u67 29)] rfl (Nat.le_of_ble_eq_true rfl) rfl rfl dX12_compileFactor_38 (fun w69 hw69 hf69 => ?_)
    have hKp70 : mkR (kup u67 25 2) bt n st_66 := hKr67.kup25
    have hQ_70 : qcW G w69 (kup u67 25 2) st_66 (L ++ (qF V bt n 3 st_62).2.1 ++ [-23]) := hQ_67.go rfl (hf69 146 (by decide)) (fun q => q)
    have h25_70 : (kup u67 25 2) 25 = 2 := rfl
    have h18p70 := hKp70.1
    have h22p70 := hKp70.2.1
    have hrgp70 := hKp70.2.2.1
    have hcbp70 := hKp70.cb
    refine k_goto hC 160 dX12_compileFactor_41 rfl ?_
    subst hQ
    exact k_vret hC hr ⟨by decide, by decide⟩ (⟨rfl, rfl, ⟨(kup u67 25 2), hw69, (by have e : st_66 = (qF V bt n 4 st).1 := (by rw [qF_n hw31]; show st_66 = (qF V bt n 3 (adP bt n st)).1; rw [← est_62]; exact est_66); rw [← e]; exact hKp70), (by have e : st_66 = (qF V bt n 4 st).1 := (by rw [qF_n hw31]; show st_66 = (qF V bt n 3 (adP bt n st)).1; rw [← est_62]; exact est_66); rw [← e]; exact hQ_70.cg (fun q => by rw [qF_n hw31, ← est_62]; show _ = L ++ ((qF V bt n 3 st_62).2.1 ++ [-23]); rw [List.append_assoc])), h25_70, (uQ.tr (uQ.tr (uQ.tr (uQ.tr uQ.rf hs61) hs65) (uQ.e29 hs67)) uQ.put25)⟩, fun j hj => (hf69 j (by omega)).trans ((hf67 j (by omega)).trans ((hf65 j (by omega)).trans (hf61 j (by omega))))⟩) dX12_compileFactor_160

set_option maxRecDepth 100000 in
set_option maxHeartbeats 4000000 in
theorem c_X12_compileConjunction_4 (l : Launch) (hls : l.stackTraces = false) (G : kG) (hN : kN G = 150) (w : Nat → va_E) (fl : va_W) (u bt : Nat → Int) (n : Nat) (st : PS) (L : List Int) (V : Int → Nat → Int) (hn2 : n ≤ 200) (hqc : qcW G w u st L) (hL : st.1 = 0 → L.length ≤ st.2.2) (h145 : w 145 = nmA G) (h25 : u 25 = 2) (hn7 : n ≤ 700) (hb : btOK bt) (hm : w 133 = mdO G u) (h144 : w 144 = iA G 700 bt) (hK : mkR u bt n st) : KM l G yX12_compileConjunction cX12_compileConjunction 1 (none) 19 0 0 [.ref (kad G 133)] w fl (kMuv fl (fun w1 => (∃ u1, w1 133 = mdO G u1 ∧ mkR u1 bt n ((conM bt n (qF V bt n 4) st).1) ∧ qcW G w1 u1 ((conM bt n (qF V bt n 4) st).1) (L ++ (conM bt n (qF V bt n 4) st).2.1) ∧ u1 25 = 2 ∧ uQ u u1) ∧ ∀ j, (j ≠ 133 ∧ j ≠ 146) → w1 j = w j)) := by
  refine KM_of2 hls (by decide +kernel) rfl (lv0 := [(0, .ref (kad G 133))]) rfl (Nat.le_of_ble_eq_true rfl) (fun p e R s m args below meth c Q hC hr hQ => ?_)
  have h18 := hK.1
  have h22 := hK.2.1
  have hrg := hK.2.2.1
  have hcb := hK.cb
  have hk0 := hK.2.2.2.1
  have hk1 := hK.2.2.2.2.1
  have hdg := hK.2.2.2.2.2
  have hle0 := hK.le
  refine k_aload_n hC dX12_compileConjunction_0 rfl 0 rfl ?_
  refine k_muvV hC (c_X12_compileFactor_4 l hls G hN w fl u bt n st L V hn2 hqc hL h145 h25 hn7 hb hm h144 hK) yy_X12_compileFactor wm_X12_495 (kl hN (by decide)) hm rfl rfl rfl rfl (Nat.le_of_ble_eq_true rfl) (by decide) (by decide) ⟨by decide, by decide⟩ dX12_compileConjunction_1 (fun w1 hp1 => ?_)
  obtain ⟨hT1, hf1⟩ := hp1
  obtain ⟨u1, hu1, hKr1, hQ_1, h25_1, hs1⟩ := hT1
  obtain ⟨st_2, est_2⟩ : ∃ z : PS, z = (qF V bt n 4 st).1 := ⟨_, rfl⟩
  rw [← est_2] at hKr1 hQ_1
  have h18r1 := hKr1.1
  have h22r1 := hKr1.2.1
  have hrgr1 := hKr1.2.2.1
  have hcbr1 := hKr1.cb
  have loopw : ∀ (nw : Nat) (k : Nat) (rr : QR) (st9 : PS) (u1 : Nat → Int) (wvw : Nat → va_E), (n < nw + k) → (k ≤ n) → (rr = cjN bt n 37 (-24) (qF V bt n 4) k (qF V bt n 4 st)) → (st9 = rr.1) → (mkR u1 bt n st9) → (qcW G wvw u1 st9 (L ++ rr.2.1)) → (u1 25 = 2) → (uQ u u1) → (wvw 133 = .inr (12, [.ref (kad G 134), .ref (kad G 135), .ref (kad G 136), .ref (kad G 137), vI (u1 4), vI (u1 5), vI (u1 6), .ref (kad G 138), .ref (kad G 139), .ref (kad G 140), .ref (kad G 141), .ref (kad G 142), vL (u1 12), vL (u1 13), .ref (kad G 143), vI (u1 15), .ref (kad G 144), vI (u1 17), vI (u1 18), vI (u1 19), vI (u1 20), vI (u1 21), vI (u1 22), vI (u1 23), vI (u1 24), vI (u1 25), .ref (kad G 145), .ref (kad G 146), .ref (kad G 147), vI (u1 29)])) → (wvw 144 = iA G 700 bt) → (wvw 145 = rA G 6 7 (fun j => some (kadK G (nmI j)))) → ((∀ j, (j ≠ 133 ∧ j ≠ 146) → wvw j = w j)) → KW p l e R s m args below meth c 1 G Q wvw fl 0 0 4 [(0, .ref (kad G 133))] [] := by
    intro nw
    induction nw with
    | zero =>
      intro k rr st9 u1 wvw hn_w hk9 hx hst9 hKv hqv h25v husv hm1 h144 h145 hfrw
      exact absurd hn_w (by omega)
    | succ nw ihw =>
      intro k rr st9 u1 wvw hn_w hk9 hx hst9 hKv hqv h25v husv hm1 h144 h145 hfrw
      have h18v := hKv.1
      have h22v := hKv.2.1
      have hrgv := hKv.2.2.1
      have hcbv := hKv.cb
      have hgq : gq V n st rr := by rw [hx]; exact gq_cjN (Or.inl rfl) (gq_qF 4) k _ (gq_qF 4 st)
      refine k_aload_n hC dX12_compileConjunction_4 rfl 0 rfl ?_
      refine k_ldcsw hC (List.mem_of_getElem? (i := 56) rfl) dX12_compileConjunction_5 ?_
      refine k_mutV hC (c_X12_accept l hls G hN wvw fl u1 bt n st9 37 (by decide) hn7 hb hm1 h144 hKv) yy_X12_accept wm_X12_447 (kl hN (by decide)) hm1 rfl rfl rfl rfl (Nat.le_of_ble_eq_true rfl) (by decide) (by decide) ⟨by decide, by decide⟩ dX12_compileConjunction_8 (fun w3 hp3 => ?_)
      obtain ⟨hT3, hf3⟩ := hp3
      by_cases hw_3 : isW bt n 37 st9
      · rw [selP_1 hw_3] at hT3
        refine k_topv (vI 1) (congrArg vI (selI_1 hw_3)) ?_
        have hwz_3 := hw_3.1
        obtain ⟨u3, hu3, hKr3, hs3⟩ := hT3
        obtain ⟨st_4, est_4⟩ : ∃ z : PS, z = adP bt n st9 := ⟨_, rfl⟩
        rw [← est_4] at hKr3
        have h18r3 := hKr3.1
        have h22r3 := hKr3.2.1
        have hrgr3 := hKr3.2.2.1
        have hcbr3 := hKr3.cb
        have hzir3 : st_4.1 = 0 := by rw [est_4]; exact ad_c.mpr (by omega)
        have hzzr3 : st_4.1 = 0 := by omega
        have hq0r3 := hKr3.2.2.2.1 hzzr3
        have henr3 := enM_b (bt := bt) hq0r3.2.2.2
        have hQ_3 : qcW G w3 u3 st_4 (L ++ rr.2.1) := hqv.go (hs3 29 (by omega)) (hf3 146 (by decide)) (fun q => ad_c.mp (by rw [← est_4]; exact q))
        have h25_3 : u3 25 = 2 := (hs3 25 (by omega)).trans h25v
        refine k_if_eq hC 27 dX12_compileConjunction_11 rfl (by omega) (fun c_11 => absurd c_11 (by omega)) (fun c_11 => ?_)
        refine k_aload_n hC dX12_compileConjunction_14 rfl 0 rfl ?_
        have h_5 : w3 145 = rA G 6 7 (fun j => some (kadK G (nmI j))) := (hf3 145 (by decide)).trans h145
        have h_6 : w3 144 = iA G 700 bt := (hf3 144 (by decide)).trans h144
        refine k_muvV hC (c_X12_compileFactor_4 l hls G hN w3 fl u3 bt n st_4 (L ++ rr.2.1) V hn2 hQ_3 (by rw [est_4]; exact hl_ad hKv.le (by rw [hst9]; exact hl_gq hle0 hL hgq)) h_5 h25_3 hn7 hb hu3 h_6 hKr3) yy_X12_compileFactor wm_X12_495 (kl hN (by decide)) hu3 rfl rfl rfl rfl (Nat.le_of_ble_eq_true rfl) (by decide) (by decide) ⟨by decide, by decide⟩ dX12_compileConjunction_15 (fun w7 hp7 => ?_)
        obtain ⟨hT7, hf7⟩ := hp7
        obtain ⟨u7, hu7, hKr7, hQ_7, h25_7, hs7⟩ := hT7
        obtain ⟨st_8, est_8⟩ : ∃ z : PS, z = (qF V bt n 4 st_4).1 := ⟨_, rfl⟩
        rw [← est_8] at hKr7 hQ_7
        have h18r7 := hKr7.1
        have h22r7 := hKr7.2.1
        have hrgr7 := hKr7.2.2.1
        have hcbr7 := hKr7.cb
        have hwr : isW bt n 37 rr.1 := by rw [← hst9]; exact hw_3
        refine k_aload_n hC dX12_compileConjunction_18 rfl 0 rfl ?_
        refine k_bipush hC dX12_compileConjunction_19 (by decide) ?_
        have h_10 : w7 144 = iA G 700 bt := (hf7 144 (by decide)).trans h_6
        refine k_muvV hC (c_X12_emit l hls G hN w7 fl u7 bt n st_8 (L ++ rr.2.1 ++ (qF V bt n 4 st_4).2.1) (-24) (by rw [est_8, est_4, hst9]; exact lt_and (V := V) (Or.inl rfl) hn2 hle0 hL (isW_go hwr) hgq (gq_qF 4 _)) hn2 hQ_7 hn7 hb hu7 h_10 hKr7) yy_X12_emit wm_X12_487 (kl hN (by decide)) hu7 rfl rfl rfl rfl (Nat.le_of_ble_eq_true rfl) (by decide) (by decide) ⟨by decide, by decide⟩ dX12_compileConjunction_21 (fun w9 hp9 => ?_)
        obtain ⟨⟨u9, hu9, hKr9, hQ_9, hs9⟩, hf9⟩ := hp9
        have h18r9 := hKr9.1
        have h22r9 := hKr9.2.1
        have hrgr9 := hKr9.2.2.1
        have hcbr9 := hKr9.cb
        have h25_9 : u9 25 = 2 := (hs9 25 (by decide)).trans h25_7
        refine k_goto hC 4 dX12_compileConjunction_24 rfl ?_
        have h_11 : w9 144 = iA G 700 bt := (hf9 144 (by decide)).trans h_10
        have h_12 : w9 145 = rA G 6 7 (fun j => some (kadK G (nmI j))) := (hf9 145 (by decide)).trans ((hf7 145 (by decide)).trans h_5)
        exact ihw (k + 1) (and2 (-24) rr (qF V bt n 4 st_4)) st_8 u9 w9 (by omega) (by have h8 := cjN_pos hle0 (Or.inl rfl) (gq_qF 4) k _ (gq_qF 4 st) (by rw [← hx]; exact hwr); rw [← hx] at h8; have h9 := enM_lt9 (bt := bt) (n := n) (s := rr.1.2.2) (by rw [hwr.2.1]; decide); omega) (by rw [cjN_go k _ (by rw [← hx]; exact hwr), ← hx, est_4, hst9]) est_8 hKr9 (hQ_9.cg (fun _ => by show _ = L ++ (rr.2.1 ++ (qF V bt n 4 st_4).2.1 ++ [-24]); simp only [List.append_assoc])) h25_9 (uQ.tr (uQ.tr (uQ.tr husv (uS.q hs3)) hs7) (uQ.e29 hs9)) hu9 h_11 h_12 (fun j hj => (hf9 j (by omega)).trans ((hf7 j (by omega)).trans ((hf3 j (by omega)).trans (hfrw j (by omega)))))
      · rw [selP_0 hw_3] at hT3
        refine k_topv (vI 0) (congrArg vI (selI_0 hw_3)) ?_
        obtain ⟨u3, hu3, hKr3, hs3⟩ := hT3
        have h18r3 := hKr3.1
        have h22r3 := hKr3.2.1
        have hrgr3 := hKr3.2.2.1
        have hcbr3 := hKr3.cb
        have hQ_3 : qcW G w3 u3 st9 (L ++ rr.2.1) := hqv.go (hs3 29 (by omega)) (hf3 146 (by decide)) (fun q => q)
        have h25_3 : u3 25 = 2 := (hs3 25 (by omega)).trans h25v
        refine k_if_eq hC 27 dX12_compileConjunction_11 rfl (by omega) (fun c_11 => ?_) (fun c_11 => absurd c_11 (by omega))
        have hfin : rr = conM bt n (qF V bt n 4) st := by rw [hx]; exact cjN_eq (by rw [← hx, ← hst9]; exact hw_3) (cjN_end hn2 hle0 (Or.inl rfl) (gq_qF 4) (gq_qF 4 st))
        subst hQ
        exact k_vret hC hr ⟨by decide, by decide⟩ (⟨rfl, rfl, ⟨u3, hu3, (by have e : st9 = (conM bt n (qF V bt n 4) st).1 := (by rw [← hfin]; exact hst9); rw [← e]; exact hKr3), (by have e : st9 = (conM bt n (qF V bt n 4) st).1 := (by rw [← hfin]; exact hst9); rw [← e]; exact hQ_3.cg (fun q => by rw [← hfin])), h25_3, (uQ.tr husv (uS.q hs3))⟩, fun j hj => (hf3 j (by omega)).trans (hfrw j (by omega))⟩) dX12_compileConjunction_27
  have h_13 : w1 144 = iA G 700 bt := (hf1 144 (by decide)).trans h144
  have h_14 : w1 145 = rA G 6 7 (fun j => some (kadK G (nmI j))) := (hf1 145 (by decide)).trans h145
  exact loopw (n + 1) 0 (qF V bt n 4 st) st_2 u1 w1 (by omega) (by omega) rfl est_2 hKr1 hQ_1 h25_1 (uQ.tr uQ.rf hs1) hu1 h_13 h_14 (fun j hj => hf1 j (by omega))

set_option maxRecDepth 100000 in
set_option maxHeartbeats 4000000 in
theorem c_X12_compileTest_4 (l : Launch) (hls : l.stackTraces = false) (G : kG) (hN : kN G = 150) (w : Nat → va_E) (fl : va_W) (u bt : Nat → Int) (n : Nat) (st : PS) (L : List Int) (V : Int → Nat → Int) (hn2 : n ≤ 200) (hqc : qcW G w u st L) (hL : st.1 = 0 → L.length ≤ st.2.2) (h145 : w 145 = nmA G) (h25 : u 25 = 2) (hn7 : n ≤ 700) (hb : btOK bt) (hm : w 133 = mdO G u) (h144 : w 144 = iA G 700 bt) (hK : mkR u bt n st) : KM l G yX12_compileTest cX12_compileTest 1 (none) 20 0 0 [.ref (kad G 133)] w fl (kMuv fl (fun w1 => (∃ u1, w1 133 = mdO G u1 ∧ mkR u1 bt n ((tstM bt n (qF V bt n 4) st).1) ∧ qcW G w1 u1 ((tstM bt n (qF V bt n 4) st).1) (L ++ (tstM bt n (qF V bt n 4) st).2.1) ∧ u1 25 = 2 ∧ uQ u u1) ∧ ∀ j, (j ≠ 133 ∧ j ≠ 146) → w1 j = w j)) := by
  refine KM_of2 hls (by decide +kernel) rfl (lv0 := [(0, .ref (kad G 133))]) rfl (Nat.le_of_ble_eq_true rfl) (fun p e R s m args below meth c Q hC hr hQ => ?_)
  have h18 := hK.1
  have h22 := hK.2.1
  have hrg := hK.2.2.1
  have hcb := hK.cb
  have hk0 := hK.2.2.2.1
  have hk1 := hK.2.2.2.2.1
  have hdg := hK.2.2.2.2.2
  have hle0 := hK.le
  refine k_aload_n hC dX12_compileTest_0 rfl 0 rfl ?_
  refine k_muvV hC (c_X12_compileConjunction_4 l hls G hN w fl u bt n st L V hn2 hqc hL h145 h25 hn7 hb hm h144 hK) yy_X12_compileConjunction wm_X12_506 (kl hN (by decide)) hm rfl rfl rfl rfl (Nat.le_of_ble_eq_true rfl) (by decide) (by decide) ⟨by decide, by decide⟩ dX12_compileTest_1 (fun w1 hp1 => ?_)
  obtain ⟨hT1, hf1⟩ := hp1
  obtain ⟨u1, hu1, hKr1, hQ_1, h25_1, hs1⟩ := hT1
  obtain ⟨st_2, est_2⟩ : ∃ z : PS, z = (conM bt n (qF V bt n 4) st).1 := ⟨_, rfl⟩
  rw [← est_2] at hKr1 hQ_1
  have h18r1 := hKr1.1
  have h22r1 := hKr1.2.1
  have hrgr1 := hKr1.2.2.1
  have hcbr1 := hKr1.cb
  have loopw : ∀ (nw : Nat) (k : Nat) (rr : QR) (st9 : PS) (u1 : Nat → Int) (wvw : Nat → va_E), (n < nw + k) → (k ≤ n) → (rr = cjN bt n 38 (-25) (conM bt n (qF V bt n 4)) k (conM bt n (qF V bt n 4) st)) → (st9 = rr.1) → (mkR u1 bt n st9) → (qcW G wvw u1 st9 (L ++ rr.2.1)) → (u1 25 = 2) → (uQ u u1) → (wvw 133 = .inr (12, [.ref (kad G 134), .ref (kad G 135), .ref (kad G 136), .ref (kad G 137), vI (u1 4), vI (u1 5), vI (u1 6), .ref (kad G 138), .ref (kad G 139), .ref (kad G 140), .ref (kad G 141), .ref (kad G 142), vL (u1 12), vL (u1 13), .ref (kad G 143), vI (u1 15), .ref (kad G 144), vI (u1 17), vI (u1 18), vI (u1 19), vI (u1 20), vI (u1 21), vI (u1 22), vI (u1 23), vI (u1 24), vI (u1 25), .ref (kad G 145), .ref (kad G 146), .ref (kad G 147), vI (u1 29)])) → (wvw 144 = iA G 700 bt) → (wvw 145 = rA G 6 7 (fun j => some (kadK G (nmI j)))) → ((∀ j, (j ≠ 133 ∧ j ≠ 146) → wvw j = w j)) → KW p l e R s m args below meth c 1 G Q wvw fl 0 0 4 [(0, .ref (kad G 133))] [] := by
    intro nw
    induction nw with
    | zero =>
      intro k rr st9 u1 wvw hn_w hk9 hx hst9 hKv hqv h25v husv hm1 h144 h145 hfrw
      exact absurd hn_w (by omega)
    | succ nw ihw =>
      intro k rr st9 u1 wvw hn_w hk9 hx hst9 hKv hqv h25v husv hm1 h144 h145 hfrw
      have h18v := hKv.1
      have h22v := hKv.2.1
      have hrgv := hKv.2.2.1
      have hcbv := hKv.cb
      have hgq : gq V n st rr := by rw [hx]; exact gq_cjN (Or.inr rfl) (gq_con (gq_qF 4)) k _ (gq_con (gq_qF 4) st)
      refine k_aload_n hC dX12_compileTest_4 rfl 0 rfl ?_
      refine k_ldcsw hC (List.mem_of_getElem? (i := 57) rfl) dX12_compileTest_5 ?_
      refine k_mutV hC (c_X12_accept l hls G hN wvw fl u1 bt n st9 38 (by decide) hn7 hb hm1 h144 hKv) yy_X12_accept wm_X12_447 (kl hN (by decide)) hm1 rfl rfl rfl rfl (Nat.le_of_ble_eq_true rfl) (by decide) (by decide) ⟨by decide, by decide⟩ dX12_compileTest_8 (fun w3 hp3 => ?_)
      obtain ⟨hT3, hf3⟩ := hp3
      by_cases hw_3 : isW bt n 38 st9
      · rw [selP_1 hw_3] at hT3
        refine k_topv (vI 1) (congrArg vI (selI_1 hw_3)) ?_
        have hwz_3 := hw_3.1
        obtain ⟨u3, hu3, hKr3, hs3⟩ := hT3
        obtain ⟨st_4, est_4⟩ : ∃ z : PS, z = adP bt n st9 := ⟨_, rfl⟩
        rw [← est_4] at hKr3
        have h18r3 := hKr3.1
        have h22r3 := hKr3.2.1
        have hrgr3 := hKr3.2.2.1
        have hcbr3 := hKr3.cb
        have hzir3 : st_4.1 = 0 := by rw [est_4]; exact ad_c.mpr (by omega)
        have hzzr3 : st_4.1 = 0 := by omega
        have hq0r3 := hKr3.2.2.2.1 hzzr3
        have henr3 := enM_b (bt := bt) hq0r3.2.2.2
        have hQ_3 : qcW G w3 u3 st_4 (L ++ rr.2.1) := hqv.go (hs3 29 (by omega)) (hf3 146 (by decide)) (fun q => ad_c.mp (by rw [← est_4]; exact q))
        have h25_3 : u3 25 = 2 := (hs3 25 (by omega)).trans h25v
        refine k_if_eq hC 27 dX12_compileTest_11 rfl (by omega) (fun c_11 => absurd c_11 (by omega)) (fun c_11 => ?_)
        refine k_aload_n hC dX12_compileTest_14 rfl 0 rfl ?_
        have h_5 : w3 145 = rA G 6 7 (fun j => some (kadK G (nmI j))) := (hf3 145 (by decide)).trans h145
        have h_6 : w3 144 = iA G 700 bt := (hf3 144 (by decide)).trans h144
        refine k_muvV hC (c_X12_compileConjunction_4 l hls G hN w3 fl u3 bt n st_4 (L ++ rr.2.1) V hn2 hQ_3 (by rw [est_4]; exact hl_ad hKv.le (by rw [hst9]; exact hl_gq hle0 hL hgq)) h_5 h25_3 hn7 hb hu3 h_6 hKr3) yy_X12_compileConjunction wm_X12_506 (kl hN (by decide)) hu3 rfl rfl rfl rfl (Nat.le_of_ble_eq_true rfl) (by decide) (by decide) ⟨by decide, by decide⟩ dX12_compileTest_15 (fun w7 hp7 => ?_)
        obtain ⟨hT7, hf7⟩ := hp7
        obtain ⟨u7, hu7, hKr7, hQ_7, h25_7, hs7⟩ := hT7
        obtain ⟨st_8, est_8⟩ : ∃ z : PS, z = (conM bt n (qF V bt n 4) st_4).1 := ⟨_, rfl⟩
        rw [← est_8] at hKr7 hQ_7
        have h18r7 := hKr7.1
        have h22r7 := hKr7.2.1
        have hrgr7 := hKr7.2.2.1
        have hcbr7 := hKr7.cb
        have hwr : isW bt n 38 rr.1 := by rw [← hst9]; exact hw_3
        refine k_aload_n hC dX12_compileTest_18 rfl 0 rfl ?_
        refine k_bipush hC dX12_compileTest_19 (by decide) ?_
        have h_10 : w7 144 = iA G 700 bt := (hf7 144 (by decide)).trans h_6
        refine k_muvV hC (c_X12_emit l hls G hN w7 fl u7 bt n st_8 (L ++ rr.2.1 ++ (conM bt n (qF V bt n 4) st_4).2.1) (-25) (by rw [est_8, est_4, hst9]; exact lt_and (V := V) (Or.inr rfl) hn2 hle0 hL (isW_go hwr) hgq (gq_con (gq_qF 4) _)) hn2 hQ_7 hn7 hb hu7 h_10 hKr7) yy_X12_emit wm_X12_487 (kl hN (by decide)) hu7 rfl rfl rfl rfl (Nat.le_of_ble_eq_true rfl) (by decide) (by decide) ⟨by decide, by decide⟩ dX12_compileTest_21 (fun w9 hp9 => ?_)
        obtain ⟨⟨u9, hu9, hKr9, hQ_9, hs9⟩, hf9⟩ := hp9
        have h18r9 := hKr9.1
        have h22r9 := hKr9.2.1
        have hrgr9 := hKr9.2.2.1
        have hcbr9 := hKr9.cb
        have h25_9 : u9 25 = 2 := (hs9 25 (by decide)).trans h25_7
        refine k_goto hC 4 dX12_compileTest_24 rfl ?_
        have h_11 : w9 144 = iA G 700 bt := (hf9 144 (by decide)).trans h_10
        have h_12 : w9 145 = rA G 6 7 (fun j => some (kadK G (nmI j))) := (hf9 145 (by decide)).trans ((hf7 145 (by decide)).trans h_5)
        exact ihw (k + 1) (and2 (-25) rr (conM bt n (qF V bt n 4) st_4)) st_8 u9 w9 (by omega) (by have h8 := cjN_pos hle0 (Or.inr rfl) (gq_con (gq_qF 4)) k _ (gq_con (gq_qF 4) st) (by rw [← hx]; exact hwr); rw [← hx] at h8; have h9 := enM_lt9 (bt := bt) (n := n) (s := rr.1.2.2) (by rw [hwr.2.1]; decide); omega) (by rw [cjN_go k _ (by rw [← hx]; exact hwr), ← hx, est_4, hst9]) est_8 hKr9 (hQ_9.cg (fun _ => by show _ = L ++ (rr.2.1 ++ (conM bt n (qF V bt n 4) st_4).2.1 ++ [-25]); simp only [List.append_assoc])) h25_9 (uQ.tr (uQ.tr (uQ.tr husv (uS.q hs3)) hs7) (uQ.e29 hs9)) hu9 h_11 h_12 (fun j hj => (hf9 j (by omega)).trans ((hf7 j (by omega)).trans ((hf3 j (by omega)).trans (hfrw j (by omega)))))
      · rw [selP_0 hw_3] at hT3
        refine k_topv (vI 0) (congrArg vI (selI_0 hw_3)) ?_
        obtain ⟨u3, hu3, hKr3, hs3⟩ := hT3
        have h18r3 := hKr3.1
        have h22r3 := hKr3.2.1
        have hrgr3 := hKr3.2.2.1
        have hcbr3 := hKr3.cb
        have hQ_3 : qcW G w3 u3 st9 (L ++ rr.2.1) := hqv.go (hs3 29 (by omega)) (hf3 146 (by decide)) (fun q => q)
        have h25_3 : u3 25 = 2 := (hs3 25 (by omega)).trans h25v
        refine k_if_eq hC 27 dX12_compileTest_11 rfl (by omega) (fun c_11 => ?_) (fun c_11 => absurd c_11 (by omega))
        have hfin : rr = tstM bt n (qF V bt n 4) st := by rw [hx]; exact cjN_eq (by rw [← hx, ← hst9]; exact hw_3) (cjN_end hn2 hle0 (Or.inr rfl) (gq_con (gq_qF 4)) (gq_con (gq_qF 4) st))
        subst hQ
        exact k_vret hC hr ⟨by decide, by decide⟩ (⟨rfl, rfl, ⟨u3, hu3, (by have e : st9 = (tstM bt n (qF V bt n 4) st).1 := (by rw [← hfin]; exact hst9); rw [← e]; exact hKr3), (by have e : st9 = (tstM bt n (qF V bt n 4) st).1 := (by rw [← hfin]; exact hst9); rw [← e]; exact hQ_3.cg (fun q => by rw [← hfin])), h25_3, (uQ.tr husv (uS.q hs3))⟩, fun j hj => (hf3 j (by omega)).trans (hfrw j (by omega))⟩) dX12_compileTest_27
  have h_13 : w1 144 = iA G 700 bt := (hf1 144 (by decide)).trans h144
  have h_14 : w1 145 = rA G 6 7 (fun j => some (kadK G (nmI j))) := (hf1 145 (by decide)).trans h145
  exact loopw (n + 1) 0 (conM bt n (qF V bt n 4) st) st_2 u1 w1 (by omega) (by omega) rfl est_2 hKr1 hQ_1 h25_1 (uQ.tr uQ.rf hs1) hu1 h_13 h_14 (fun j hj => hf1 j (by omega))

set_option maxRecDepth 100000 in
set_option maxHeartbeats 4000000 in
theorem c_X12_compileFactor_5 (l : Launch) (hls : l.stackTraces = false) (G : kG) (hN : kN G = 150) (w : Nat → va_E) (fl : va_W) (u bt : Nat → Int) (n : Nat) (st : PS) (L : List Int) (V : Int → Nat → Int) (hn2 : n ≤ 200) (hqc : qcW G w u st L) (hL : st.1 = 0 → L.length ≤ st.2.2) (h145 : w 145 = nmA G) (h25 : u 25 = 1) (hn7 : n ≤ 700) (hb : btOK bt) (hm : w 133 = mdO G u) (h144 : w 144 = iA G 700 bt) (hK : mkR u bt n st) : KM l G yX12_compileFactor cX12_compileFactor 2 (none) 21 0 0 [.ref (kad G 133)] w fl (kMuv fl (fun w1 => (∃ u1, w1 133 = mdO G u1 ∧ mkR u1 bt n ((qF V bt n 5 st).1) ∧ qcW G w1 u1 ((qF V bt n 5 st).1) (L ++ (qF V bt n 5 st).2.1) ∧ u1 25 = 1 ∧ uQ u u1) ∧ ∀ j, (j ≠ 133 ∧ j ≠ 146) → w1 j = w j)) := by
  refine KM_of2 hls (by decide +kernel) rfl (lv0 := [(0, .ref (kad G 133))]) rfl (Nat.le_of_ble_eq_true rfl) (fun p e R s m args below meth c Q hC hr hQ => ?_)
  have h18 := hK.1
  have h22 := hK.2.1
  have hrg := hK.2.2.1
  have hcb := hK.cb
  have hk0 := hK.2.2.2.1
  have hk1 := hK.2.2.2.2.1
  have hdg := hK.2.2.2.2.2
  have hle0 := hK.le
  refine k_aload_n hC dX12_compileFactor_0 rfl 0 rfl ?_
  refine k_ldcsw hC (List.mem_of_getElem? (i := 55) rfl) dX12_compileFactor_1 ?_
  refine k_pureV hC (c_X12_isWord l hls G hN w fl u bt n st 31 (by decide) hn7 hb hm h144 hK) yy_X12_isWord wm_X12_409 (kl hN (by decide)) hm rfl rfl rfl rfl (Nat.le_of_ble_eq_true rfl) (by decide) (by decide) ⟨by decide, by decide⟩ dX12_compileFactor_4 ?_
  obtain ⟨z_1, ez_1, hz_1⟩ := selI_c (isW bt n 31 st)
  refine k_topv (vI z_1) (by rw [ez_1]) ?_
  refine k_if_eq hC 44 dX12_compileFactor_7 rfl (by omega) (fun c_7 => ?_) (fun c_7 => ?_)
  · have hw31 : ¬ isW bt n 31 st := (hz_1.resolve_left (fun q1 => by omega)).2
    refine k_aload_n hC dX12_compileFactor_44 rfl 0 rfl ?_
    refine k_bipush hC dX12_compileFactor_45 (by decide) ?_
    refine k_pureV hC (c_X12_isSymbol l hls G hN w fl u bt n st 40 (by omega) hn7 hb hm h144 hK) yy_X12_isSymbol wm_X12_420 (kl hN (by decide)) hm rfl rfl rfl rfl (Nat.le_of_ble_eq_true rfl) (by decide) (by decide) ⟨by decide, by decide⟩ dX12_compileFactor_47 ?_
    obtain ⟨z_2, ez_2, hz_2⟩ := selI_c (isS bt n 40 st)
    refine k_topv (vI z_2) (by rw [ez_2]) ?_
    refine k_if_eq hC 87 dX12_compileFactor_50 rfl (by omega) (fun c_50 => ?_) (fun c_50 => ?_)
    · have hw40 : ¬ isS bt n 40 st := (hz_2.resolve_left (fun q1 => by omega)).2
      have hqF := qF_c (V := V) 5 hw31 hw40
      refine k_aload_n hC dX12_compileFactor_87 rfl 0 rfl ?_
      refine k_muvV hC (c_X12_compileValue l hls G hN w fl u bt n st L 1 hn2 hqc hL h145 h25 hn7 hb hm h144 hK) yy_X12_compileValue wm_X12_501 (kl hN (by decide)) hm rfl rfl rfl rfl (Nat.le_of_ble_eq_true rfl) (by decide) (by decide) ⟨by decide, by decide⟩ dX12_compileFactor_88 (fun w3 hp3 => ?_)
      obtain ⟨hT3, hf3⟩ := hp3
      obtain ⟨u3, hu3, hKr3, hQ_3, h25_3, hs3⟩ := hT3
      obtain ⟨st_4, est_4⟩ : ∃ z : PS, z = vlS bt n st := ⟨_, rfl⟩
      rw [← est_4] at hKr3 hQ_3
      have h18r3 := hKr3.1
      have h22r3 := hKr3.2.1
      have hrgr3 := hKr3.2.2.1
      have hcbr3 := hKr3.cb
      refine k_aload_n hC dX12_compileFactor_91 rfl 0 rfl ?_
      refine k_bipush hC dX12_compileFactor_92 (by decide) ?_
      have h_5 : w3 144 = iA G 700 bt := (hf3 144 (by decide)).trans h144
      refine k_pureV hC (c_X12_isSymbol l hls G hN w3 fl u3 bt n st_4 60 (by omega) hn7 hb hu3 h_5 hKr3) yy_X12_isSymbol wm_X12_420 (kl hN (by decide)) hu3 rfl rfl rfl rfl (Nat.le_of_ble_eq_true rfl) (by decide) (by decide) ⟨by decide, by decide⟩ dX12_compileFactor_94 ?_
      obtain ⟨z_6, ez_6, hz_6⟩ := selI_c (isS bt n 60 st_4)
      refine k_topv (vI z_6) (by rw [ez_6]) ?_
      refine k_if_eq hC 105 dX12_compileFactor_97 rfl (by omega) (fun c_97 => ?_) (fun c_97 => ?_)
      · refine k_aload_n hC dX12_compileFactor_105 rfl 0 rfl ?_
        refine k_bipush hC dX12_compileFactor_106 (by decide) ?_
        refine k_pureV hC (c_X12_isSymbol l hls G hN w3 fl u3 bt n st_4 61 (by omega) hn7 hb hu3 h_5 hKr3) yy_X12_isSymbol wm_X12_420 (kl hN (by decide)) hu3 rfl rfl rfl rfl (Nat.le_of_ble_eq_true rfl) (by decide) (by decide) ⟨by decide, by decide⟩ dX12_compileFactor_108 ?_
        obtain ⟨z_7, ez_7, hz_7⟩ := selI_c (isS bt n 61 st_4)
        refine k_topv (vI z_7) (by rw [ez_7]) ?_
        refine k_if_eq hC 119 dX12_compileFactor_111 rfl (by omega) (fun c_111 => ?_) (fun c_111 => ?_)
        · refine k_bipush hC dX12_compileFactor_119 (by decide) ?_
          refine k_istore_n hC [(1, vI (-22)), (0, .ref (kad G 133))] dX12_compileFactor_121 rfl (by decide) rfl ?_
          refine k_aload_n hC dX12_compileFactor_122 rfl 1 rfl ?_
          refine k_iload_n hC dX12_compileFactor_123 rfl 0 rfl ?_
          refine k_bipush hC dX12_compileFactor_124 (by decide) ?_
          refine k_icmp_ne hC 138 dX12_compileFactor_126 rfl (by omega) (by omega) (fun c_126 => absurd c_126 (by omega)) (fun c_126 => ?_)
          refine k_aload_n hC dX12_compileFactor_129 rfl 1 rfl ?_
          refine k_bipush hC dX12_compileFactor_130 (by decide) ?_
          refine k_pureV hC (c_X12_isSymbol l hls G hN w3 fl u3 bt n st_4 62 (by omega) hn7 hb hu3 h_5 hKr3) yy_X12_isSymbol wm_X12_420 (kl hN (by decide)) hu3 rfl rfl rfl rfl (Nat.le_of_ble_eq_true rfl) (by decide) (by decide) ⟨by decide, by decide⟩ dX12_compileFactor_132 ?_
          obtain ⟨z_8, ez_8, hz_8⟩ := selI_c (isS bt n 62 st_4)
          refine k_topv (vI z_8) (by rw [ez_8]) ?_
          refine k_if_eq hC 142 dX12_compileFactor_135 rfl (by omega) (fun c_135 => ?_) (fun c_135 => ?_)
          · refine k_iconst hC dX12_compileFactor_142 ?_
            refine k_iconst hC dX12_compileFactor_143 ?_
            refine k_muvV hC (c_X12_check0 l hls G hN w3 fl u3 bt n st_4 1 (by omega) hn7 hb hu3 h_5 hKr3) yy_X12_check wm_X12_413 (kl hN (by decide)) hu3 rfl rfl rfl rfl (Nat.le_of_ble_eq_true rfl) (by decide) (by decide) ⟨by decide, by decide⟩ dX12_compileFactor_144 (fun w9 hp9 => ?_)
            obtain ⟨hT9, hf9⟩ := hp9
            obtain ⟨u9, hu9, hKr9, hs9⟩ := hT9
            obtain ⟨st_10, est_10⟩ : ∃ z : PS, z = flP 1 st_4 := ⟨_, rfl⟩
            rw [← est_10] at hKr9
            have h18r9 := hKr9.1
            have h22r9 := hKr9.2.1
            have hrgr9 := hKr9.2.2.1
            have hcbr9 := hKr9.cb
            have hzzr9 : st_10.1 ≠ 0 := by rw [est_10]; exact fl_c (by omega)
            have hQ_9 : qcW G w9 u9 st_10 (L ++ [vlC bt n st]) := hQ_3.go (hs9 29 (by omega)) (hf9 146 (by decide)) (fun q => absurd q hzzr9)
            have h25_9 : u9 25 = 1 := (hs9 25 (by omega)).trans h25_3
            refine k_aload_n hC dX12_compileFactor_147 rfl 1 rfl ?_
            have h_12 : w9 144 = iA G 700 bt := (hf9 144 (by decide)).trans h_5
            refine k_muvV hC (c_X12_advance l hls G hN w9 fl u9 bt n st_10  hn7 hb hu9 h_12 hKr9) yy_X12_advance wm_X12_417 (kl hN (by decide)) hu9 rfl rfl rfl rfl (Nat.le_of_ble_eq_true rfl) (by decide) (by decide) ⟨by decide, by decide⟩ dX12_compileFactor_148 (fun w11 hp11 => ?_)
            obtain ⟨hT11, hf11⟩ := hp11
            obtain ⟨u11, hu11, hKr11, hs11⟩ := hT11
            obtain ⟨st_13, est_13⟩ : ∃ z : PS, z = adP bt n st_10 := ⟨_, rfl⟩
            rw [← est_13] at hKr11
            have h18r11 := hKr11.1
            have h22r11 := hKr11.2.1
            have hrgr11 := hKr11.2.2.1
            have hcbr11 := hKr11.cb
            have hzzr11 : st_13.1 ≠ 0 := by rw [est_13, adP_e (by omega)]; omega
            have hQ_11 : qcW G w11 u11 st_13 (L ++ [vlC bt n st]) := hQ_9.go (hs11 29 (by omega)) (hf11 146 (by decide)) (fun q => ad_c.mp (by rw [← est_13]; exact q))
            have h25_11 : u11 25 = 1 := (hs11 25 (by omega)).trans h25_9
            have hop : opM bt n st_4 = -22 := (selI_0 (hz_6.resolve_left (fun q1 => by omega)).2).trans (selI_0 (hz_7.resolve_left (fun q1 => by omega)).2)
            have hob9 : st_13 = opS bt n st_4 := by unfold opS; rw [selP_0 (fun q => q.elim (hz_6.resolve_left (fun q1 => by omega)).2 (fun q => q.elim (hz_7.resolve_left (fun q1 => by omega)).2 (hz_8.resolve_left (fun q1 => by omega)).2)), ← est_10]; exact est_13
            refine k_aload_n hC dX12_compileFactor_151 rfl 1 rfl ?_
            have h_14 : w11 145 = rA G 6 7 (fun j => some (kadK G (nmI j))) := (hf11 145 (by decide)).trans ((hf9 145 (by decide)).trans ((hf3 145 (by decide)).trans h145))
            have h_15 : w11 144 = iA G 700 bt := (hf11 144 (by decide)).trans h_12
            refine k_muvV hC (c_X12_compileValue l hls G hN w11 fl u11 bt n st_13 (L ++ [vlC bt n st]) 1 hn2 hQ_11 (by rw [hob9, est_4]; exact hl_cmp hle0 hL) h_14 h25_11 hn7 hb hu11 h_15 hKr11) yy_X12_compileValue wm_X12_501 (kl hN (by decide)) hu11 rfl rfl rfl rfl (Nat.le_of_ble_eq_true rfl) (by decide) (by decide) ⟨by decide, by decide⟩ dX12_compileFactor_152 (fun w16 hp16 => ?_)
            obtain ⟨hT16, hf16⟩ := hp16
            obtain ⟨u16, hu16, hKr16, hQ_16, h25_16, hs16⟩ := hT16
            obtain ⟨st_17, est_17⟩ : ∃ z : PS, z = vlS bt n st_13 := ⟨_, rfl⟩
            rw [← est_17] at hKr16 hQ_16
            have h18r16 := hKr16.1
            have h22r16 := hKr16.2.1
            have hrgr16 := hKr16.2.2.1
            have hcbr16 := hKr16.cb
            have hob : st_13 = opS bt n st_4 := by exact hob9
            refine k_aload_n hC dX12_compileFactor_155 rfl 1 rfl ?_
            refine k_iload_n hC dX12_compileFactor_156 rfl 0 rfl ?_
            have h_19 : w16 144 = iA G 700 bt := (hf16 144 (by decide)).trans h_15
            refine k_muvV hC (c_X12_emit l hls G hN w16 fl u16 bt n st_17 (L ++ [vlC bt n st] ++ [vlC bt n st_13]) (-22) (by rw [est_17, hob, est_4]; exact lt_cmp hn2 hle0 hL) hn2 hQ_16 hn7 hb hu16 h_19 hKr16) yy_X12_emit wm_X12_487 (kl hN (by decide)) hu16 rfl rfl rfl rfl (Nat.le_of_ble_eq_true rfl) (by decide) (by decide) ⟨by decide, by decide⟩ dX12_compileFactor_157 (fun w18 hp18 => ?_)
            obtain ⟨⟨u18, hu18, hKr18, hQ_18, hs18⟩, hf18⟩ := hp18
            have h18r18 := hKr18.1
            have h22r18 := hKr18.2.1
            have hrgr18 := hKr18.2.2.1
            have hcbr18 := hKr18.cb
            have h25_18 : u18 25 = 1 := (hs18 25 (by decide)).trans h25_16
            subst hQ
            exact k_vret hC hr ⟨by decide, by decide⟩ (⟨rfl, rfl, ⟨u18, hu18, (by have e : st_17 = (qF V bt n 5 st).1 := (by rw [hqF]; show st_17 = vlS bt n (opS bt n (vlS bt n st)); rw [← est_4, ← hob9]; exact est_17); rw [← e]; exact hKr18), (by have e : st_17 = (qF V bt n 5 st).1 := (by rw [hqF]; show st_17 = vlS bt n (opS bt n (vlS bt n st)); rw [← est_4, ← hob9]; exact est_17); rw [← e]; exact hQ_18.cg (fun q => by rw [hqF]; show _ = L ++ [vlC bt n st, vlC bt n (opS bt n (vlS bt n st)), opM bt n (vlS bt n st)]; rw [← est_4, hop, ← hob9, List.append_assoc, List.append_assoc]; rfl)), h25_18, (uQ.tr (uQ.tr (uQ.tr (uQ.tr (uQ.tr uQ.rf hs3) (uS.q hs9)) (uS.q hs11)) hs16) (uQ.e29 hs18))⟩, fun j hj => (hf18 j (by omega)).trans ((hf16 j (by omega)).trans ((hf11 j (by omega)).trans ((hf9 j (by omega)).trans (hf3 j (by omega)))))⟩) dX12_compileFactor_160
          · refine k_iconst hC dX12_compileFactor_138 ?_
            refine k_goto hC 143 dX12_compileFactor_139 rfl ?_
            refine k_iconst hC dX12_compileFactor_143 ?_
            refine k_muvV hC (c_X12_check1 l hls G hN w3 fl u3 bt n st_4 1 (by omega) hn7 hb hu3 h_5 hKr3) yy_X12_check wm_X12_413 (kl hN (by decide)) hu3 rfl rfl rfl rfl (Nat.le_of_ble_eq_true rfl) (by decide) (by decide) ⟨by decide, by decide⟩ dX12_compileFactor_144 (fun w20 hp20 => ?_)
            obtain ⟨hT20, hf20⟩ := hp20
            obtain ⟨u20, hu20, hKr20, hs20⟩ := hT20
            have h18r20 := hKr20.1
            have h22r20 := hKr20.2.1
            have hrgr20 := hKr20.2.2.1
            have hcbr20 := hKr20.cb
            have hQ_20 : qcW G w20 u20 st_4 (L ++ [vlC bt n st]) := hQ_3.go (hs20 29 (by omega)) (hf20 146 (by decide)) (fun q => q)
            have h25_20 : u20 25 = 1 := (hs20 25 (by omega)).trans h25_3
            refine k_aload_n hC dX12_compileFactor_147 rfl 1 rfl ?_
            have h_22 : w20 144 = iA G 700 bt := (hf20 144 (by decide)).trans h_5
            refine k_muvV hC (c_X12_advance l hls G hN w20 fl u20 bt n st_4  hn7 hb hu20 h_22 hKr20) yy_X12_advance wm_X12_417 (kl hN (by decide)) hu20 rfl rfl rfl rfl (Nat.le_of_ble_eq_true rfl) (by decide) (by decide) ⟨by decide, by decide⟩ dX12_compileFactor_148 (fun w21 hp21 => ?_)
            obtain ⟨hT21, hf21⟩ := hp21
            obtain ⟨u21, hu21, hKr21, hs21⟩ := hT21
            obtain ⟨st_23, est_23⟩ : ∃ z : PS, z = adP bt n st_4 := ⟨_, rfl⟩
            rw [← est_23] at hKr21
            have h18r21 := hKr21.1
            have h22r21 := hKr21.2.1
            have hrgr21 := hKr21.2.2.1
            have hcbr21 := hKr21.cb
            have hQ_21 : qcW G w21 u21 st_23 (L ++ [vlC bt n st]) := hQ_20.go (hs21 29 (by omega)) (hf21 146 (by decide)) (fun q => ad_c.mp (by rw [← est_23]; exact q))
            have h25_21 : u21 25 = 1 := (hs21 25 (by omega)).trans h25_20
            have hop : opM bt n st_4 = -22 := (selI_0 (hz_6.resolve_left (fun q1 => by omega)).2).trans (selI_0 (hz_7.resolve_left (fun q1 => by omega)).2)
            have hob9 : st_23 = opS bt n st_4 := by unfold opS; rw [selP_1 (Or.inr (Or.inr (hz_8.resolve_right (fun q1 => by omega)).2))]; exact est_23
            refine k_aload_n hC dX12_compileFactor_151 rfl 1 rfl ?_
            have h_24 : w21 145 = rA G 6 7 (fun j => some (kadK G (nmI j))) := (hf21 145 (by decide)).trans ((hf20 145 (by decide)).trans ((hf3 145 (by decide)).trans h145))
            have h_25 : w21 144 = iA G 700 bt := (hf21 144 (by decide)).trans h_22
            refine k_muvV hC (c_X12_compileValue l hls G hN w21 fl u21 bt n st_23 (L ++ [vlC bt n st]) 1 hn2 hQ_21 (by rw [hob9, est_4]; exact hl_cmp hle0 hL) h_24 h25_21 hn7 hb hu21 h_25 hKr21) yy_X12_compileValue wm_X12_501 (kl hN (by decide)) hu21 rfl rfl rfl rfl (Nat.le_of_ble_eq_true rfl) (by decide) (by decide) ⟨by decide, by decide⟩ dX12_compileFactor_152 (fun w26 hp26 => ?_)
            obtain ⟨hT26, hf26⟩ := hp26
            obtain ⟨u26, hu26, hKr26, hQ_26, h25_26, hs26⟩ := hT26
            obtain ⟨st_27, est_27⟩ : ∃ z : PS, z = vlS bt n st_23 := ⟨_, rfl⟩
            rw [← est_27] at hKr26 hQ_26
            have h18r26 := hKr26.1
            have h22r26 := hKr26.2.1
            have hrgr26 := hKr26.2.2.1
            have hcbr26 := hKr26.cb
            have hob : st_23 = opS bt n st_4 := by exact hob9
            refine k_aload_n hC dX12_compileFactor_155 rfl 1 rfl ?_
            refine k_iload_n hC dX12_compileFactor_156 rfl 0 rfl ?_
            have h_29 : w26 144 = iA G 700 bt := (hf26 144 (by decide)).trans h_25
            refine k_muvV hC (c_X12_emit l hls G hN w26 fl u26 bt n st_27 (L ++ [vlC bt n st] ++ [vlC bt n st_23]) (-22) (by rw [est_27, hob, est_4]; exact lt_cmp hn2 hle0 hL) hn2 hQ_26 hn7 hb hu26 h_29 hKr26) yy_X12_emit wm_X12_487 (kl hN (by decide)) hu26 rfl rfl rfl rfl (Nat.le_of_ble_eq_true rfl) (by decide) (by decide) ⟨by decide, by decide⟩ dX12_compileFactor_157 (fun w28 hp28 => ?_)
            obtain ⟨⟨u28, hu28, hKr28, hQ_28, hs28⟩, hf28⟩ := hp28
            have h18r28 := hKr28.1
            have h22r28 := hKr28.2.1
            have hrgr28 := hKr28.2.2.1
            have hcbr28 := hKr28.cb
            have h25_28 : u28 25 = 1 := (hs28 25 (by decide)).trans h25_26
            subst hQ
            exact k_vret hC hr ⟨by decide, by decide⟩ (⟨rfl, rfl, ⟨u28, hu28, (by have e : st_27 = (qF V bt n 5 st).1 := (by rw [hqF]; show st_27 = vlS bt n (opS bt n (vlS bt n st)); rw [← est_4, ← hob9]; exact est_27); rw [← e]; exact hKr28), (by have e : st_27 = (qF V bt n 5 st).1 := (by rw [hqF]; show st_27 = vlS bt n (opS bt n (vlS bt n st)); rw [← est_4, ← hob9]; exact est_27); rw [← e]; exact hQ_28.cg (fun q => by rw [hqF]; show _ = L ++ [vlC bt n st, vlC bt n (opS bt n (vlS bt n st)), opM bt n (vlS bt n st)]; rw [← est_4, hop, ← hob9, List.append_assoc, List.append_assoc]; rfl)), h25_28, (uQ.tr (uQ.tr (uQ.tr (uQ.tr (uQ.tr uQ.rf hs3) (uS.q hs20)) (uS.q hs21)) hs26) (uQ.e29 hs28))⟩, fun j hj => (hf28 j (by omega)).trans ((hf26 j (by omega)).trans ((hf21 j (by omega)).trans ((hf20 j (by omega)).trans (hf3 j (by omega)))))⟩) dX12_compileFactor_160
        · refine k_bipush hC dX12_compileFactor_114 (by decide) ?_
          refine k_goto hC 121 dX12_compileFactor_116 rfl ?_
          refine k_istore_n hC [(1, vI (-21)), (0, .ref (kad G 133))] dX12_compileFactor_121 rfl (by decide) rfl ?_
          refine k_aload_n hC dX12_compileFactor_122 rfl 1 rfl ?_
          refine k_iload_n hC dX12_compileFactor_123 rfl 0 rfl ?_
          refine k_bipush hC dX12_compileFactor_124 (by decide) ?_
          refine k_icmp_ne hC 138 dX12_compileFactor_126 rfl (by omega) (by omega) (fun c_126 => ?_) (fun c_126 => absurd c_126 (by omega))
          refine k_iconst hC dX12_compileFactor_138 ?_
          refine k_goto hC 143 dX12_compileFactor_139 rfl ?_
          refine k_iconst hC dX12_compileFactor_143 ?_
          refine k_muvV hC (c_X12_check1 l hls G hN w3 fl u3 bt n st_4 1 (by omega) hn7 hb hu3 h_5 hKr3) yy_X12_check wm_X12_413 (kl hN (by decide)) hu3 rfl rfl rfl rfl (Nat.le_of_ble_eq_true rfl) (by decide) (by decide) ⟨by decide, by decide⟩ dX12_compileFactor_144 (fun w30 hp30 => ?_)
          obtain ⟨hT30, hf30⟩ := hp30
          obtain ⟨u30, hu30, hKr30, hs30⟩ := hT30
          have h18r30 := hKr30.1
          have h22r30 := hKr30.2.1
          have hrgr30 := hKr30.2.2.1
          have hcbr30 := hKr30.cb
          have hQ_30 : qcW G w30 u30 st_4 (L ++ [vlC bt n st]) := hQ_3.go (hs30 29 (by omega)) (hf30 146 (by decide)) (fun q => q)
          have h25_30 : u30 25 = 1 := (hs30 25 (by omega)).trans h25_3
          refine k_aload_n hC dX12_compileFactor_147 rfl 1 rfl ?_
          have h_32 : w30 144 = iA G 700 bt := (hf30 144 (by decide)).trans h_5
          refine k_muvV hC (c_X12_advance l hls G hN w30 fl u30 bt n st_4  hn7 hb hu30 h_32 hKr30) yy_X12_advance wm_X12_417 (kl hN (by decide)) hu30 rfl rfl rfl rfl (Nat.le_of_ble_eq_true rfl) (by decide) (by decide) ⟨by decide, by decide⟩ dX12_compileFactor_148 (fun w31 hp31 => ?_)
          obtain ⟨hT31, hf31⟩ := hp31
          obtain ⟨u31, hu31, hKr31, hs31⟩ := hT31
          obtain ⟨st_33, est_33⟩ : ∃ z : PS, z = adP bt n st_4 := ⟨_, rfl⟩
          rw [← est_33] at hKr31
          have h18r31 := hKr31.1
          have h22r31 := hKr31.2.1
          have hrgr31 := hKr31.2.2.1
          have hcbr31 := hKr31.cb
          have hQ_31 : qcW G w31 u31 st_33 (L ++ [vlC bt n st]) := hQ_30.go (hs31 29 (by omega)) (hf31 146 (by decide)) (fun q => ad_c.mp (by rw [← est_33]; exact q))
          have h25_31 : u31 25 = 1 := (hs31 25 (by omega)).trans h25_30
          have hop : opM bt n st_4 = -21 := (selI_0 (hz_6.resolve_left (fun q1 => by omega)).2).trans (selI_1 (hz_7.resolve_right (fun q1 => by omega)).2)
          have hob9 : st_33 = opS bt n st_4 := by unfold opS; rw [selP_1 (Or.inr (Or.inl (hz_7.resolve_right (fun q1 => by omega)).2))]; exact est_33
          refine k_aload_n hC dX12_compileFactor_151 rfl 1 rfl ?_
          have h_34 : w31 145 = rA G 6 7 (fun j => some (kadK G (nmI j))) := (hf31 145 (by decide)).trans ((hf30 145 (by decide)).trans ((hf3 145 (by decide)).trans h145))
          have h_35 : w31 144 = iA G 700 bt := (hf31 144 (by decide)).trans h_32
          refine k_muvV hC (c_X12_compileValue l hls G hN w31 fl u31 bt n st_33 (L ++ [vlC bt n st]) 1 hn2 hQ_31 (by rw [hob9, est_4]; exact hl_cmp hle0 hL) h_34 h25_31 hn7 hb hu31 h_35 hKr31) yy_X12_compileValue wm_X12_501 (kl hN (by decide)) hu31 rfl rfl rfl rfl (Nat.le_of_ble_eq_true rfl) (by decide) (by decide) ⟨by decide, by decide⟩ dX12_compileFactor_152 (fun w36 hp36 => ?_)
          obtain ⟨hT36, hf36⟩ := hp36
          obtain ⟨u36, hu36, hKr36, hQ_36, h25_36, hs36⟩ := hT36
          obtain ⟨st_37, est_37⟩ : ∃ z : PS, z = vlS bt n st_33 := ⟨_, rfl⟩
          rw [← est_37] at hKr36 hQ_36
          have h18r36 := hKr36.1
          have h22r36 := hKr36.2.1
          have hrgr36 := hKr36.2.2.1
          have hcbr36 := hKr36.cb
          have hob : st_33 = opS bt n st_4 := by exact hob9
          refine k_aload_n hC dX12_compileFactor_155 rfl 1 rfl ?_
          refine k_iload_n hC dX12_compileFactor_156 rfl 0 rfl ?_
          have h_39 : w36 144 = iA G 700 bt := (hf36 144 (by decide)).trans h_35
          refine k_muvV hC (c_X12_emit l hls G hN w36 fl u36 bt n st_37 (L ++ [vlC bt n st] ++ [vlC bt n st_33]) (-21) (by rw [est_37, hob, est_4]; exact lt_cmp hn2 hle0 hL) hn2 hQ_36 hn7 hb hu36 h_39 hKr36) yy_X12_emit wm_X12_487 (kl hN (by decide)) hu36 rfl rfl rfl rfl (Nat.le_of_ble_eq_true rfl) (by decide) (by decide) ⟨by decide, by decide⟩ dX12_compileFactor_157 (fun w38 hp38 => ?_)
          obtain ⟨⟨u38, hu38, hKr38, hQ_38, hs38⟩, hf38⟩ := hp38
          have h18r38 := hKr38.1
          have h22r38 := hKr38.2.1
          have hrgr38 := hKr38.2.2.1
          have hcbr38 := hKr38.cb
          have h25_38 : u38 25 = 1 := (hs38 25 (by decide)).trans h25_36
          subst hQ
          exact k_vret hC hr ⟨by decide, by decide⟩ (⟨rfl, rfl, ⟨u38, hu38, (by have e : st_37 = (qF V bt n 5 st).1 := (by rw [hqF]; show st_37 = vlS bt n (opS bt n (vlS bt n st)); rw [← est_4, ← hob9]; exact est_37); rw [← e]; exact hKr38), (by have e : st_37 = (qF V bt n 5 st).1 := (by rw [hqF]; show st_37 = vlS bt n (opS bt n (vlS bt n st)); rw [← est_4, ← hob9]; exact est_37); rw [← e]; exact hQ_38.cg (fun q => by rw [hqF]; show _ = L ++ [vlC bt n st, vlC bt n (opS bt n (vlS bt n st)), opM bt n (vlS bt n st)]; rw [← est_4, hop, ← hob9, List.append_assoc, List.append_assoc]; rfl)), h25_38, (uQ.tr (uQ.tr (uQ.tr (uQ.tr (uQ.tr uQ.rf hs3) (uS.q hs30)) (uS.q hs31)) hs36) (uQ.e29 hs38))⟩, fun j hj => (hf38 j (by omega)).trans ((hf36 j (by omega)).trans ((hf31 j (by omega)).trans ((hf30 j (by omega)).trans (hf3 j (by omega)))))⟩) dX12_compileFactor_160
      · refine k_bipush hC dX12_compileFactor_100 (by decide) ?_
        refine k_goto hC 121 dX12_compileFactor_102 rfl ?_
        refine k_istore_n hC [(1, vI (-20)), (0, .ref (kad G 133))] dX12_compileFactor_121 rfl (by decide) rfl ?_
        refine k_aload_n hC dX12_compileFactor_122 rfl 1 rfl ?_
        refine k_iload_n hC dX12_compileFactor_123 rfl 0 rfl ?_
        refine k_bipush hC dX12_compileFactor_124 (by decide) ?_
        refine k_icmp_ne hC 138 dX12_compileFactor_126 rfl (by omega) (by omega) (fun c_126 => ?_) (fun c_126 => absurd c_126 (by omega))
        refine k_iconst hC dX12_compileFactor_138 ?_
        refine k_goto hC 143 dX12_compileFactor_139 rfl ?_
        refine k_iconst hC dX12_compileFactor_143 ?_
        refine k_muvV hC (c_X12_check1 l hls G hN w3 fl u3 bt n st_4 1 (by omega) hn7 hb hu3 h_5 hKr3) yy_X12_check wm_X12_413 (kl hN (by decide)) hu3 rfl rfl rfl rfl (Nat.le_of_ble_eq_true rfl) (by decide) (by decide) ⟨by decide, by decide⟩ dX12_compileFactor_144 (fun w40 hp40 => ?_)
        obtain ⟨hT40, hf40⟩ := hp40
        obtain ⟨u40, hu40, hKr40, hs40⟩ := hT40
        have h18r40 := hKr40.1
        have h22r40 := hKr40.2.1
        have hrgr40 := hKr40.2.2.1
        have hcbr40 := hKr40.cb
        have hQ_40 : qcW G w40 u40 st_4 (L ++ [vlC bt n st]) := hQ_3.go (hs40 29 (by omega)) (hf40 146 (by decide)) (fun q => q)
        have h25_40 : u40 25 = 1 := (hs40 25 (by omega)).trans h25_3
        refine k_aload_n hC dX12_compileFactor_147 rfl 1 rfl ?_
        have h_42 : w40 144 = iA G 700 bt := (hf40 144 (by decide)).trans h_5
        refine k_muvV hC (c_X12_advance l hls G hN w40 fl u40 bt n st_4  hn7 hb hu40 h_42 hKr40) yy_X12_advance wm_X12_417 (kl hN (by decide)) hu40 rfl rfl rfl rfl (Nat.le_of_ble_eq_true rfl) (by decide) (by decide) ⟨by decide, by decide⟩ dX12_compileFactor_148 (fun w41 hp41 => ?_)
        obtain ⟨hT41, hf41⟩ := hp41
        obtain ⟨u41, hu41, hKr41, hs41⟩ := hT41
        obtain ⟨st_43, est_43⟩ : ∃ z : PS, z = adP bt n st_4 := ⟨_, rfl⟩
        rw [← est_43] at hKr41
        have h18r41 := hKr41.1
        have h22r41 := hKr41.2.1
        have hrgr41 := hKr41.2.2.1
        have hcbr41 := hKr41.cb
        have hQ_41 : qcW G w41 u41 st_43 (L ++ [vlC bt n st]) := hQ_40.go (hs41 29 (by omega)) (hf41 146 (by decide)) (fun q => ad_c.mp (by rw [← est_43]; exact q))
        have h25_41 : u41 25 = 1 := (hs41 25 (by omega)).trans h25_40
        have hop : opM bt n st_4 = -20 := selI_1 (hz_6.resolve_right (fun q1 => by omega)).2
        have hob9 : st_43 = opS bt n st_4 := by unfold opS; rw [selP_1 (Or.inl (hz_6.resolve_right (fun q1 => by omega)).2)]; exact est_43
        refine k_aload_n hC dX12_compileFactor_151 rfl 1 rfl ?_
        have h_44 : w41 145 = rA G 6 7 (fun j => some (kadK G (nmI j))) := (hf41 145 (by decide)).trans ((hf40 145 (by decide)).trans ((hf3 145 (by decide)).trans h145))
        have h_45 : w41 144 = iA G 700 bt := (hf41 144 (by decide)).trans h_42
        refine k_muvV hC (c_X12_compileValue l hls G hN w41 fl u41 bt n st_43 (L ++ [vlC bt n st]) 1 hn2 hQ_41 (by rw [hob9, est_4]; exact hl_cmp hle0 hL) h_44 h25_41 hn7 hb hu41 h_45 hKr41) yy_X12_compileValue wm_X12_501 (kl hN (by decide)) hu41 rfl rfl rfl rfl (Nat.le_of_ble_eq_true rfl) (by decide) (by decide) ⟨by decide, by decide⟩ dX12_compileFactor_152 (fun w46 hp46 => ?_)
        obtain ⟨hT46, hf46⟩ := hp46
        obtain ⟨u46, hu46, hKr46, hQ_46, h25_46, hs46⟩ := hT46
        obtain ⟨st_47, est_47⟩ : ∃ z : PS, z = vlS bt n st_43 := ⟨_, rfl⟩
        rw [← est_47] at hKr46 hQ_46
        have h18r46 := hKr46.1
        have h22r46 := hKr46.2.1
        have hrgr46 := hKr46.2.2.1
        have hcbr46 := hKr46.cb
        have hob : st_43 = opS bt n st_4 := by exact hob9
        refine k_aload_n hC dX12_compileFactor_155 rfl 1 rfl ?_
        refine k_iload_n hC dX12_compileFactor_156 rfl 0 rfl ?_
        have h_49 : w46 144 = iA G 700 bt := (hf46 144 (by decide)).trans h_45
        refine k_muvV hC (c_X12_emit l hls G hN w46 fl u46 bt n st_47 (L ++ [vlC bt n st] ++ [vlC bt n st_43]) (-20) (by rw [est_47, hob, est_4]; exact lt_cmp hn2 hle0 hL) hn2 hQ_46 hn7 hb hu46 h_49 hKr46) yy_X12_emit wm_X12_487 (kl hN (by decide)) hu46 rfl rfl rfl rfl (Nat.le_of_ble_eq_true rfl) (by decide) (by decide) ⟨by decide, by decide⟩ dX12_compileFactor_157 (fun w48 hp48 => ?_)
        obtain ⟨⟨u48, hu48, hKr48, hQ_48, hs48⟩, hf48⟩ := hp48
        have h18r48 := hKr48.1
        have h22r48 := hKr48.2.1
        have hrgr48 := hKr48.2.2.1
        have hcbr48 := hKr48.cb
        have h25_48 : u48 25 = 1 := (hs48 25 (by decide)).trans h25_46
        subst hQ
        exact k_vret hC hr ⟨by decide, by decide⟩ (⟨rfl, rfl, ⟨u48, hu48, (by have e : st_47 = (qF V bt n 5 st).1 := (by rw [hqF]; show st_47 = vlS bt n (opS bt n (vlS bt n st)); rw [← est_4, ← hob9]; exact est_47); rw [← e]; exact hKr48), (by have e : st_47 = (qF V bt n 5 st).1 := (by rw [hqF]; show st_47 = vlS bt n (opS bt n (vlS bt n st)); rw [← est_4, ← hob9]; exact est_47); rw [← e]; exact hQ_48.cg (fun q => by rw [hqF]; show _ = L ++ [vlC bt n st, vlC bt n (opS bt n (vlS bt n st)), opM bt n (vlS bt n st)]; rw [← est_4, hop, ← hob9, List.append_assoc, List.append_assoc]; rfl)), h25_48, (uQ.tr (uQ.tr (uQ.tr (uQ.tr (uQ.tr uQ.rf hs3) (uS.q hs40)) (uS.q hs41)) hs46) (uQ.e29 hs48))⟩, fun j hj => (hf48 j (by omega)).trans ((hf46 j (by omega)).trans ((hf41 j (by omega)).trans ((hf40 j (by omega)).trans (hf3 j (by omega)))))⟩) dX12_compileFactor_160
    · have hw40 : isS bt n 40 st := (hz_2.resolve_right (fun q1 => by omega)).2
      have hz0 := hw40.1
      have hzz : st.1 = 0 := by omega
      have hq0 := hK.2.2.2.1 hzz
      have hen := enM_b (bt := bt) hq0.2.2.2
      refine k_aload_n hC dX12_compileFactor_53 rfl 0 rfl ?_
      refine k_muvV hC (c_X12_enter_1 l hls G hN w fl u bt n st L (by omega) hn2 hqc hL h145 h25 hn7 hb hm h144 hK) yy_X12_enter wm_X12_492 (kl hN (by decide)) hm rfl rfl rfl rfl (Nat.le_of_ble_eq_true rfl) (by decide) (by decide) ⟨by decide, by decide⟩ dX12_compileFactor_54 (fun w50 hp50 => ?_)
      obtain ⟨hT50, hf50⟩ := hp50
      obtain ⟨u50, hu50, hKr50, hQ_50, h25_50, hs50⟩ := hT50
      obtain ⟨st_51, est_51⟩ : ∃ z : PS, z = adP bt n st := ⟨_, rfl⟩
      rw [← est_51] at hKr50 hQ_50
      have h18r50 := hKr50.1
      have h22r50 := hKr50.2.1
      have hrgr50 := hKr50.2.2.1
      have hcbr50 := hKr50.cb
      have hzir50 : st_51.1 = 0 := by rw [est_51]; exact ad_c.mpr (by omega)
      have hzzr50 : st_51.1 = 0 := by omega
      have hq0r50 := hKr50.2.2.2.1 hzzr50
      have henr50 := enM_b (bt := bt) hq0r50.2.2.2
      refine k_aload_n hC dX12_compileFactor_57 rfl 0 rfl ?_
      refine k_get hC fd_X12_386 (kl hN (by decide)) hu50 rfl dX12_compileFactor_58 ?_
      refine k_topv (vI 0) (congrArg vI (by omega)) ?_
      refine k_if_ne hC 68 dX12_compileFactor_61 rfl (by omega) (fun c_61 => absurd c_61 (by omega)) (fun c_61 => ?_)
      refine k_aload_n hC dX12_compileFactor_64 rfl 0 rfl ?_
      have h_52 : w50 145 = rA G 6 7 (fun j => some (kadK G (nmI j))) := (hf50 145 (by decide)).trans h145
      have h_53 : w50 144 = iA G 700 bt := (hf50 144 (by decide)).trans h144
      refine k_muvV hC (c_X12_compileTest_4 l hls G hN w50 fl u50 bt n st_51 L V hn2 hQ_50 (by rw [est_51]; exact hl_ad hle0 hL) h_52 h25_50 hn7 hb hu50 h_53 hKr50) yy_X12_compileTest wm_X12_498 (kl hN (by decide)) hu50 rfl rfl rfl rfl (Nat.le_of_ble_eq_true rfl) (by decide) (by decide) ⟨by decide, by decide⟩ dX12_compileFactor_65 (fun w54 hp54 => ?_)
      obtain ⟨hT54, hf54⟩ := hp54
      obtain ⟨u54, hu54, hKr54, hQ_54, h25_54, hs54⟩ := hT54
      obtain ⟨st_55, est_55⟩ : ∃ z : PS, z = (tstM bt n (qF V bt n 4) st_51).1 := ⟨_, rfl⟩
      rw [← est_55] at hKr54 hQ_54
      have h18r54 := hKr54.1
      have h22r54 := hKr54.2.1
      have hrgr54 := hKr54.2.2.1
      have hcbr54 := hKr54.cb
      refine k_aload_n hC dX12_compileFactor_68 rfl 0 rfl ?_
      refine k_bipush hC dX12_compileFactor_69 (by decide) ?_
      have h_57 : w54 144 = iA G 700 bt := (hf54 144 (by decide)).trans h_53
      refine k_muvV hC (c_X12_expect l hls G hN w54 fl u54 bt n st_55 41 (by omega) hn7 hb hu54 h_57 hKr54) yy_X12_expect wm_X12_471 (kl hN (by decide)) hu54 rfl rfl rfl rfl (Nat.le_of_ble_eq_true rfl) (by decide) (by decide) ⟨by decide, by decide⟩ dX12_compileFactor_71 (fun w56 hp56 => ?_)
      obtain ⟨hT56, hf56⟩ := hp56
      obtain ⟨u56, hu56, hKr56, hs56⟩ := hT56
      obtain ⟨st_58, est_58⟩ : ∃ z : PS, z = nsP bt n 41 st_55 := ⟨_, rfl⟩
      rw [← est_58] at hKr56
      have h18r56 := hKr56.1
      have h22r56 := hKr56.2.1
      have hrgr56 := hKr56.2.2.1
      have hcbr56 := hKr56.cb
      have hQ_56 : qcW G w56 u56 st_58 (L ++ (tstM bt n (qF V bt n 4) st_51).2.1) := hQ_54.go (hs56 29 (by omega)) (hf56 146 (by decide)) (fun q => nsok (by rw [← est_58]; exact q))
      have h25_56 : u56 25 = 2 := (hs56 25 (by omega)).trans h25_54
      refine k_aload_n hC dX12_compileFactor_74 rfl 0 rfl ?_
      refine k_dup hC dX12_compileFactor_75 rfl ?_
      refine k_get hC fd_X12_389 (kl hN (by decide)) hu56 rfl dX12_compileFactor_76 ?_
      refine k_topv (vI 2) (congrArg vI (by omega)) ?_
      refine k_iconst hC dX12_compileFactor_79 ?_
      refine k_isub hC dX12_compileFactor_80 ?_
      refine k_topv (vI 1) (congrArg vI (by decide)) ?_
      refine k_put hC fd_X12_389 (kl hN (by decide)) hu56 [.ref (kad G 134), .ref (kad G 135), .ref (kad G 136), .ref (kad G 137), vI (u56 4), vI (u56 5), vI (u56 6), .ref (kad G 138), .ref (kad G 139), .ref (kad G 140), .ref (kad G 141), .ref (kad G 142), vL (u56 12), vL (u56 13), .ref (kad G 143), vI (u56 15), .ref (kad G 144), vI (u56 17), vI (u56 18), vI (u56 19), vI (u56 20), vI (u56 21), vI (u56 22), vI (u56 23), vI (u56 24), vI 1, .ref (kad G 145), .ref (kad G 146), .ref (kad G 147), vI (u56 29)] rfl (Nat.le_of_ble_eq_true rfl) rfl rfl dX12_compileFactor_81 (fun w59 hw59 hf59 => ?_)
      have hKp60 : mkR (kup u56 25 1) bt n st_58 := hKr56.kup25
      have hQ_60 : qcW G w59 (kup u56 25 1) st_58 (L ++ (tstM bt n (qF V bt n 4) st_51).2.1) := hQ_56.go rfl (hf59 146 (by decide)) (fun q => q)
      have h25_60 : (kup u56 25 1) 25 = 1 := rfl
      have h18p60 := hKp60.1
      have h22p60 := hKp60.2.1
      have hrgp60 := hKp60.2.2.1
      have hcbp60 := hKp60.cb
      refine k_goto hC 160 dX12_compileFactor_84 rfl ?_
      subst hQ
      exact k_vret hC hr ⟨by decide, by decide⟩ (⟨rfl, rfl, ⟨(kup u56 25 1), hw59, (by have e : st_58 = (qF V bt n 5 st).1 := (by rw [qF_p hw31 hw40]; show st_58 = nsP bt n 41 (tstM bt n (qF V bt n 4) (adP bt n st)).1; rw [← est_51, ← est_55]; exact est_58); rw [← e]; exact hKp60), (by have e : st_58 = (qF V bt n 5 st).1 := (by rw [qF_p hw31 hw40]; show st_58 = nsP bt n 41 (tstM bt n (qF V bt n 4) (adP bt n st)).1; rw [← est_51, ← est_55]; exact est_58); rw [← e]; exact hQ_60.cg (fun q => by rw [qF_p hw31 hw40, ← est_51]; rfl)), h25_60, (uQ.tr (uQ.tr (uQ.tr (uQ.tr uQ.rf hs50) hs54) (uS.q hs56)) uQ.put25)⟩, fun j hj => (hf59 j (by omega)).trans ((hf56 j (by omega)).trans ((hf54 j (by omega)).trans (hf50 j (by omega))))⟩) dX12_compileFactor_160
  · have hw31 : isW bt n 31 st := (hz_1.resolve_right (fun q1 => by omega)).2
    have hz0 := hw31.1
    have hzz : st.1 = 0 := by omega
    have hq0 := hK.2.2.2.1 hzz
    have hen := enM_b (bt := bt) hq0.2.2.2
    refine k_aload_n hC dX12_compileFactor_10 rfl 0 rfl ?_
    refine k_muvV hC (c_X12_enter_1 l hls G hN w fl u bt n st L (by omega) hn2 hqc hL h145 h25 hn7 hb hm h144 hK) yy_X12_enter wm_X12_492 (kl hN (by decide)) hm rfl rfl rfl rfl (Nat.le_of_ble_eq_true rfl) (by decide) (by decide) ⟨by decide, by decide⟩ dX12_compileFactor_11 (fun w61 hp61 => ?_)
    obtain ⟨hT61, hf61⟩ := hp61
    obtain ⟨u61, hu61, hKr61, hQ_61, h25_61, hs61⟩ := hT61
    obtain ⟨st_62, est_62⟩ : ∃ z : PS, z = adP bt n st := ⟨_, rfl⟩
    rw [← est_62] at hKr61 hQ_61
    have h18r61 := hKr61.1
    have h22r61 := hKr61.2.1
    have hrgr61 := hKr61.2.2.1
    have hcbr61 := hKr61.cb
    have hzir61 : st_62.1 = 0 := by rw [est_62]; exact ad_c.mpr (by omega)
    have hzzr61 : st_62.1 = 0 := by omega
    have hq0r61 := hKr61.2.2.2.1 hzzr61
    have henr61 := enM_b (bt := bt) hq0r61.2.2.2
    refine k_aload_n hC dX12_compileFactor_14 rfl 0 rfl ?_
    refine k_get hC fd_X12_386 (kl hN (by decide)) hu61 rfl dX12_compileFactor_15 ?_
    refine k_topv (vI 0) (congrArg vI (by omega)) ?_
    refine k_if_ne hC 25 dX12_compileFactor_18 rfl (by omega) (fun c_18 => absurd c_18 (by omega)) (fun c_18 => ?_)
    refine k_aload_n hC dX12_compileFactor_21 rfl 0 rfl ?_
    have h_63 : w61 145 = rA G 6 7 (fun j => some (kadK G (nmI j))) := (hf61 145 (by decide)).trans h145
    have h_64 : w61 144 = iA G 700 bt := (hf61 144 (by decide)).trans h144
    refine k_muvV hC (c_X12_compileFactor_4 l hls G hN w61 fl u61 bt n st_62 L V hn2 hQ_61 (by rw [est_62]; exact hl_ad hle0 hL) h_63 h25_61 hn7 hb hu61 h_64 hKr61) yy_X12_compileFactor wm_X12_495 (kl hN (by decide)) hu61 rfl rfl rfl rfl (Nat.le_of_ble_eq_true rfl) (by decide) (by decide) ⟨by decide, by decide⟩ dX12_compileFactor_22 (fun w65 hp65 => ?_)
    obtain ⟨hT65, hf65⟩ := hp65
    obtain ⟨u65, hu65, hKr65, hQ_65, h25_65, hs65⟩ := hT65
    obtain ⟨st_66, est_66⟩ : ∃ z : PS, z = (qF V bt n 4 st_62).1 := ⟨_, rfl⟩
    rw [← est_66] at hKr65 hQ_65
    have h18r65 := hKr65.1
    have h22r65 := hKr65.2.1
    have hrgr65 := hKr65.2.2.1
    have hcbr65 := hKr65.cb
    refine k_aload_n hC dX12_compileFactor_25 rfl 0 rfl ?_
    refine k_bipush hC dX12_compileFactor_26 (by decide) ?_
    have h_68 : w65 144 = iA G 700 bt := (hf65 144 (by decide)).trans h_64
    refine k_muvV hC (c_X12_emit l hls G hN w65 fl u65 bt n st_66 (L ++ (qF V bt n 4 st_62).2.1) (-23) (by rw [est_66]; rw [est_62]; exact lt_not hn2 hle0 hL (isW_go hw31) (gq_qF 4 _)) hn2 hQ_65 hn7 hb hu65 h_68 hKr65) yy_X12_emit wm_X12_487 (kl hN (by decide)) hu65 rfl rfl rfl rfl (Nat.le_of_ble_eq_true rfl) (by decide) (by decide) ⟨by decide, by decide⟩ dX12_compileFactor_28 (fun w67 hp67 => ?_)
    obtain ⟨⟨u67, hu67, hKr67, hQ_67, hs67⟩, hf67⟩ := hp67
    have h18r67 := hKr67.1
    have h22r67 := hKr67.2.1
    have hrgr67 := hKr67.2.2.1
    have hcbr67 := hKr67.cb
    have h25_67 : u67 25 = 2 := (hs67 25 (by decide)).trans h25_65
    refine k_aload_n hC dX12_compileFactor_31 rfl 0 rfl ?_
    refine k_dup hC dX12_compileFactor_32 rfl ?_
    refine k_get hC fd_X12_389 (kl hN (by decide)) hu67 rfl dX12_compileFactor_33 ?_
    refine k_topv (vI 2) (congrArg vI (by omega)) ?_
    refine k_iconst hC dX12_compileFactor_36 ?_
    refine k_isub hC dX12_compileFactor_37 ?_
    refine k_topv (vI 1) (congrArg vI (by decide)) ?_
    refine k_put hC fd_X12_389 (kl hN (by decide)) hu67 [.ref (kad G 134), .ref (kad G 135), .ref (kad G 136), .ref (kad G 137), vI (u67 4), vI (u67 5), vI (u67 6), .ref (kad G 138), .ref (kad G 139), .ref (kad G 140), .ref (kad G 141), .ref (kad G 142), vL (u67 12), vL (u67 13), .ref (kad G 143), vI (u67 15), .ref (kad G 144), vI (u67 17), vI (u67 18), vI (u67 19), vI (u67 20), vI (u67 21), vI (u67 22), vI (u67 23), vI (u67 24), vI 1, .ref (kad G 145), .ref (kad G 146), .ref (kad G 147), vI (u67 29)] rfl (Nat.le_of_ble_eq_true rfl) rfl rfl dX12_compileFactor_38 (fun w69 hw69 hf69 => ?_)
    have hKp70 : mkR (kup u67 25 1) bt n st_66 := hKr67.kup25
    have hQ_70 : qcW G w69 (kup u67 25 1) st_66 (L ++ (qF V bt n 4 st_62).2.1 ++ [-23]) := hQ_67.go rfl (hf69 146 (by decide)) (fun q => q)
    have h25_70 : (kup u67 25 1) 25 = 1 := rfl
    have h18p70 := hKp70.1
    have h22p70 := hKp70.2.1
    have hrgp70 := hKp70.2.2.1
    have hcbp70 := hKp70.cb
    refine k_goto hC 160 dX12_compileFactor_41 rfl ?_
    subst hQ
    exact k_vret hC hr ⟨by decide, by decide⟩ (⟨rfl, rfl, ⟨(kup u67 25 1), hw69, (by have e : st_66 = (qF V bt n 5 st).1 := (by rw [qF_n hw31]; show st_66 = (qF V bt n 4 (adP bt n st)).1; rw [← est_62]; exact est_66); rw [← e]; exact hKp70), (by have e : st_66 = (qF V bt n 5 st).1 := (by rw [qF_n hw31]; show st_66 = (qF V bt n 4 (adP bt n st)).1; rw [← est_62]; exact est_66); rw [← e]; exact hQ_70.cg (fun q => by rw [qF_n hw31, ← est_62]; show _ = L ++ ((qF V bt n 4 st_62).2.1 ++ [-23]); rw [List.append_assoc])), h25_70, (uQ.tr (uQ.tr (uQ.tr (uQ.tr uQ.rf hs61) hs65) (uQ.e29 hs67)) uQ.put25)⟩, fun j hj => (hf69 j (by omega)).trans ((hf67 j (by omega)).trans ((hf65 j (by omega)).trans (hf61 j (by omega))))⟩) dX12_compileFactor_160

set_option maxRecDepth 100000 in
set_option maxHeartbeats 4000000 in
theorem c_X12_compileConjunction_5 (l : Launch) (hls : l.stackTraces = false) (G : kG) (hN : kN G = 150) (w : Nat → va_E) (fl : va_W) (u bt : Nat → Int) (n : Nat) (st : PS) (L : List Int) (V : Int → Nat → Int) (hn2 : n ≤ 200) (hqc : qcW G w u st L) (hL : st.1 = 0 → L.length ≤ st.2.2) (h145 : w 145 = nmA G) (h25 : u 25 = 1) (hn7 : n ≤ 700) (hb : btOK bt) (hm : w 133 = mdO G u) (h144 : w 144 = iA G 700 bt) (hK : mkR u bt n st) : KM l G yX12_compileConjunction cX12_compileConjunction 1 (none) 22 0 0 [.ref (kad G 133)] w fl (kMuv fl (fun w1 => (∃ u1, w1 133 = mdO G u1 ∧ mkR u1 bt n ((conM bt n (qF V bt n 5) st).1) ∧ qcW G w1 u1 ((conM bt n (qF V bt n 5) st).1) (L ++ (conM bt n (qF V bt n 5) st).2.1) ∧ u1 25 = 1 ∧ uQ u u1) ∧ ∀ j, (j ≠ 133 ∧ j ≠ 146) → w1 j = w j)) := by
  refine KM_of2 hls (by decide +kernel) rfl (lv0 := [(0, .ref (kad G 133))]) rfl (Nat.le_of_ble_eq_true rfl) (fun p e R s m args below meth c Q hC hr hQ => ?_)
  have h18 := hK.1
  have h22 := hK.2.1
  have hrg := hK.2.2.1
  have hcb := hK.cb
  have hk0 := hK.2.2.2.1
  have hk1 := hK.2.2.2.2.1
  have hdg := hK.2.2.2.2.2
  have hle0 := hK.le
  refine k_aload_n hC dX12_compileConjunction_0 rfl 0 rfl ?_
  refine k_muvV hC (c_X12_compileFactor_5 l hls G hN w fl u bt n st L V hn2 hqc hL h145 h25 hn7 hb hm h144 hK) yy_X12_compileFactor wm_X12_495 (kl hN (by decide)) hm rfl rfl rfl rfl (Nat.le_of_ble_eq_true rfl) (by decide) (by decide) ⟨by decide, by decide⟩ dX12_compileConjunction_1 (fun w1 hp1 => ?_)
  obtain ⟨hT1, hf1⟩ := hp1
  obtain ⟨u1, hu1, hKr1, hQ_1, h25_1, hs1⟩ := hT1
  obtain ⟨st_2, est_2⟩ : ∃ z : PS, z = (qF V bt n 5 st).1 := ⟨_, rfl⟩
  rw [← est_2] at hKr1 hQ_1
  have h18r1 := hKr1.1
  have h22r1 := hKr1.2.1
  have hrgr1 := hKr1.2.2.1
  have hcbr1 := hKr1.cb
  have loopw : ∀ (nw : Nat) (k : Nat) (rr : QR) (st9 : PS) (u1 : Nat → Int) (wvw : Nat → va_E), (n < nw + k) → (k ≤ n) → (rr = cjN bt n 37 (-24) (qF V bt n 5) k (qF V bt n 5 st)) → (st9 = rr.1) → (mkR u1 bt n st9) → (qcW G wvw u1 st9 (L ++ rr.2.1)) → (u1 25 = 1) → (uQ u u1) → (wvw 133 = .inr (12, [.ref (kad G 134), .ref (kad G 135), .ref (kad G 136), .ref (kad G 137), vI (u1 4), vI (u1 5), vI (u1 6), .ref (kad G 138), .ref (kad G 139), .ref (kad G 140), .ref (kad G 141), .ref (kad G 142), vL (u1 12), vL (u1 13), .ref (kad G 143), vI (u1 15), .ref (kad G 144), vI (u1 17), vI (u1 18), vI (u1 19), vI (u1 20), vI (u1 21), vI (u1 22), vI (u1 23), vI (u1 24), vI (u1 25), .ref (kad G 145), .ref (kad G 146), .ref (kad G 147), vI (u1 29)])) → (wvw 144 = iA G 700 bt) → (wvw 145 = rA G 6 7 (fun j => some (kadK G (nmI j)))) → ((∀ j, (j ≠ 133 ∧ j ≠ 146) → wvw j = w j)) → KW p l e R s m args below meth c 1 G Q wvw fl 0 0 4 [(0, .ref (kad G 133))] [] := by
    intro nw
    induction nw with
    | zero =>
      intro k rr st9 u1 wvw hn_w hk9 hx hst9 hKv hqv h25v husv hm1 h144 h145 hfrw
      exact absurd hn_w (by omega)
    | succ nw ihw =>
      intro k rr st9 u1 wvw hn_w hk9 hx hst9 hKv hqv h25v husv hm1 h144 h145 hfrw
      have h18v := hKv.1
      have h22v := hKv.2.1
      have hrgv := hKv.2.2.1
      have hcbv := hKv.cb
      have hgq : gq V n st rr := by rw [hx]; exact gq_cjN (Or.inl rfl) (gq_qF 5) k _ (gq_qF 5 st)
      refine k_aload_n hC dX12_compileConjunction_4 rfl 0 rfl ?_
      refine k_ldcsw hC (List.mem_of_getElem? (i := 56) rfl) dX12_compileConjunction_5 ?_
      refine k_mutV hC (c_X12_accept l hls G hN wvw fl u1 bt n st9 37 (by decide) hn7 hb hm1 h144 hKv) yy_X12_accept wm_X12_447 (kl hN (by decide)) hm1 rfl rfl rfl rfl (Nat.le_of_ble_eq_true rfl) (by decide) (by decide) ⟨by decide, by decide⟩ dX12_compileConjunction_8 (fun w3 hp3 => ?_)
      obtain ⟨hT3, hf3⟩ := hp3
      by_cases hw_3 : isW bt n 37 st9
      · rw [selP_1 hw_3] at hT3
        refine k_topv (vI 1) (congrArg vI (selI_1 hw_3)) ?_
        have hwz_3 := hw_3.1
        obtain ⟨u3, hu3, hKr3, hs3⟩ := hT3
        obtain ⟨st_4, est_4⟩ : ∃ z : PS, z = adP bt n st9 := ⟨_, rfl⟩
        rw [← est_4] at hKr3
        have h18r3 := hKr3.1
        have h22r3 := hKr3.2.1
        have hrgr3 := hKr3.2.2.1
        have hcbr3 := hKr3.cb
        have hzir3 : st_4.1 = 0 := by rw [est_4]; exact ad_c.mpr (by omega)
        have hzzr3 : st_4.1 = 0 := by omega
        have hq0r3 := hKr3.2.2.2.1 hzzr3
        have henr3 := enM_b (bt := bt) hq0r3.2.2.2
        have hQ_3 : qcW G w3 u3 st_4 (L ++ rr.2.1) := hqv.go (hs3 29 (by omega)) (hf3 146 (by decide)) (fun q => ad_c.mp (by rw [← est_4]; exact q))
        have h25_3 : u3 25 = 1 := (hs3 25 (by omega)).trans h25v
        refine k_if_eq hC 27 dX12_compileConjunction_11 rfl (by omega) (fun c_11 => absurd c_11 (by omega)) (fun c_11 => ?_)
        refine k_aload_n hC dX12_compileConjunction_14 rfl 0 rfl ?_
        have h_5 : w3 145 = rA G 6 7 (fun j => some (kadK G (nmI j))) := (hf3 145 (by decide)).trans h145
        have h_6 : w3 144 = iA G 700 bt := (hf3 144 (by decide)).trans h144
        refine k_muvV hC (c_X12_compileFactor_5 l hls G hN w3 fl u3 bt n st_4 (L ++ rr.2.1) V hn2 hQ_3 (by rw [est_4]; exact hl_ad hKv.le (by rw [hst9]; exact hl_gq hle0 hL hgq)) h_5 h25_3 hn7 hb hu3 h_6 hKr3) yy_X12_compileFactor wm_X12_495 (kl hN (by decide)) hu3 rfl rfl rfl rfl (Nat.le_of_ble_eq_true rfl) (by decide) (by decide) ⟨by decide, by decide⟩ dX12_compileConjunction_15 (fun w7 hp7 => ?_)
        obtain ⟨hT7, hf7⟩ := hp7
        obtain ⟨u7, hu7, hKr7, hQ_7, h25_7, hs7⟩ := hT7
        obtain ⟨st_8, est_8⟩ : ∃ z : PS, z = (qF V bt n 5 st_4).1 := ⟨_, rfl⟩
        rw [← est_8] at hKr7 hQ_7
        have h18r7 := hKr7.1
        have h22r7 := hKr7.2.1
        have hrgr7 := hKr7.2.2.1
        have hcbr7 := hKr7.cb
        have hwr : isW bt n 37 rr.1 := by rw [← hst9]; exact hw_3
        refine k_aload_n hC dX12_compileConjunction_18 rfl 0 rfl ?_
        refine k_bipush hC dX12_compileConjunction_19 (by decide) ?_
        have h_10 : w7 144 = iA G 700 bt := (hf7 144 (by decide)).trans h_6
        refine k_muvV hC (c_X12_emit l hls G hN w7 fl u7 bt n st_8 (L ++ rr.2.1 ++ (qF V bt n 5 st_4).2.1) (-24) (by rw [est_8, est_4, hst9]; exact lt_and (V := V) (Or.inl rfl) hn2 hle0 hL (isW_go hwr) hgq (gq_qF 5 _)) hn2 hQ_7 hn7 hb hu7 h_10 hKr7) yy_X12_emit wm_X12_487 (kl hN (by decide)) hu7 rfl rfl rfl rfl (Nat.le_of_ble_eq_true rfl) (by decide) (by decide) ⟨by decide, by decide⟩ dX12_compileConjunction_21 (fun w9 hp9 => ?_)
        obtain ⟨⟨u9, hu9, hKr9, hQ_9, hs9⟩, hf9⟩ := hp9
        have h18r9 := hKr9.1
        have h22r9 := hKr9.2.1
        have hrgr9 := hKr9.2.2.1
        have hcbr9 := hKr9.cb
        have h25_9 : u9 25 = 1 := (hs9 25 (by decide)).trans h25_7
        refine k_goto hC 4 dX12_compileConjunction_24 rfl ?_
        have h_11 : w9 144 = iA G 700 bt := (hf9 144 (by decide)).trans h_10
        have h_12 : w9 145 = rA G 6 7 (fun j => some (kadK G (nmI j))) := (hf9 145 (by decide)).trans ((hf7 145 (by decide)).trans h_5)
        exact ihw (k + 1) (and2 (-24) rr (qF V bt n 5 st_4)) st_8 u9 w9 (by omega) (by have h8 := cjN_pos hle0 (Or.inl rfl) (gq_qF 5) k _ (gq_qF 5 st) (by rw [← hx]; exact hwr); rw [← hx] at h8; have h9 := enM_lt9 (bt := bt) (n := n) (s := rr.1.2.2) (by rw [hwr.2.1]; decide); omega) (by rw [cjN_go k _ (by rw [← hx]; exact hwr), ← hx, est_4, hst9]) est_8 hKr9 (hQ_9.cg (fun _ => by show _ = L ++ (rr.2.1 ++ (qF V bt n 5 st_4).2.1 ++ [-24]); simp only [List.append_assoc])) h25_9 (uQ.tr (uQ.tr (uQ.tr husv (uS.q hs3)) hs7) (uQ.e29 hs9)) hu9 h_11 h_12 (fun j hj => (hf9 j (by omega)).trans ((hf7 j (by omega)).trans ((hf3 j (by omega)).trans (hfrw j (by omega)))))
      · rw [selP_0 hw_3] at hT3
        refine k_topv (vI 0) (congrArg vI (selI_0 hw_3)) ?_
        obtain ⟨u3, hu3, hKr3, hs3⟩ := hT3
        have h18r3 := hKr3.1
        have h22r3 := hKr3.2.1
        have hrgr3 := hKr3.2.2.1
        have hcbr3 := hKr3.cb
        have hQ_3 : qcW G w3 u3 st9 (L ++ rr.2.1) := hqv.go (hs3 29 (by omega)) (hf3 146 (by decide)) (fun q => q)
        have h25_3 : u3 25 = 1 := (hs3 25 (by omega)).trans h25v
        refine k_if_eq hC 27 dX12_compileConjunction_11 rfl (by omega) (fun c_11 => ?_) (fun c_11 => absurd c_11 (by omega))
        have hfin : rr = conM bt n (qF V bt n 5) st := by rw [hx]; exact cjN_eq (by rw [← hx, ← hst9]; exact hw_3) (cjN_end hn2 hle0 (Or.inl rfl) (gq_qF 5) (gq_qF 5 st))
        subst hQ
        exact k_vret hC hr ⟨by decide, by decide⟩ (⟨rfl, rfl, ⟨u3, hu3, (by have e : st9 = (conM bt n (qF V bt n 5) st).1 := (by rw [← hfin]; exact hst9); rw [← e]; exact hKr3), (by have e : st9 = (conM bt n (qF V bt n 5) st).1 := (by rw [← hfin]; exact hst9); rw [← e]; exact hQ_3.cg (fun q => by rw [← hfin])), h25_3, (uQ.tr husv (uS.q hs3))⟩, fun j hj => (hf3 j (by omega)).trans (hfrw j (by omega))⟩) dX12_compileConjunction_27
  have h_13 : w1 144 = iA G 700 bt := (hf1 144 (by decide)).trans h144
  have h_14 : w1 145 = rA G 6 7 (fun j => some (kadK G (nmI j))) := (hf1 145 (by decide)).trans h145
  exact loopw (n + 1) 0 (qF V bt n 5 st) st_2 u1 w1 (by omega) (by omega) rfl est_2 hKr1 hQ_1 h25_1 (uQ.tr uQ.rf hs1) hu1 h_13 h_14 (fun j hj => hf1 j (by omega))

set_option maxRecDepth 100000 in
set_option maxHeartbeats 4000000 in
theorem c_X12_compileTest_5 (l : Launch) (hls : l.stackTraces = false) (G : kG) (hN : kN G = 150) (w : Nat → va_E) (fl : va_W) (u bt : Nat → Int) (n : Nat) (st : PS) (L : List Int) (V : Int → Nat → Int) (hn2 : n ≤ 200) (hqc : qcW G w u st L) (hL : st.1 = 0 → L.length ≤ st.2.2) (h145 : w 145 = nmA G) (h25 : u 25 = 1) (hn7 : n ≤ 700) (hb : btOK bt) (hm : w 133 = mdO G u) (h144 : w 144 = iA G 700 bt) (hK : mkR u bt n st) : KM l G yX12_compileTest cX12_compileTest 1 (none) 23 0 0 [.ref (kad G 133)] w fl (kMuv fl (fun w1 => (∃ u1, w1 133 = mdO G u1 ∧ mkR u1 bt n ((tstM bt n (qF V bt n 5) st).1) ∧ qcW G w1 u1 ((tstM bt n (qF V bt n 5) st).1) (L ++ (tstM bt n (qF V bt n 5) st).2.1) ∧ u1 25 = 1 ∧ uQ u u1) ∧ ∀ j, (j ≠ 133 ∧ j ≠ 146) → w1 j = w j)) := by
  refine KM_of2 hls (by decide +kernel) rfl (lv0 := [(0, .ref (kad G 133))]) rfl (Nat.le_of_ble_eq_true rfl) (fun p e R s m args below meth c Q hC hr hQ => ?_)
  have h18 := hK.1
  have h22 := hK.2.1
  have hrg := hK.2.2.1
  have hcb := hK.cb
  have hk0 := hK.2.2.2.1
  have hk1 := hK.2.2.2.2.1
  have hdg := hK.2.2.2.2.2
  have hle0 := hK.le
  refine k_aload_n hC dX12_compileTest_0 rfl 0 rfl ?_
  refine k_muvV hC (c_X12_compileConjunction_5 l hls G hN w fl u bt n st L V hn2 hqc hL h145 h25 hn7 hb hm h144 hK) yy_X12_compileConjunction wm_X12_506 (kl hN (by decide)) hm rfl rfl rfl rfl (Nat.le_of_ble_eq_true rfl) (by decide) (by decide) ⟨by decide, by decide⟩ dX12_compileTest_1 (fun w1 hp1 => ?_)
  obtain ⟨hT1, hf1⟩ := hp1
  obtain ⟨u1, hu1, hKr1, hQ_1, h25_1, hs1⟩ := hT1
  obtain ⟨st_2, est_2⟩ : ∃ z : PS, z = (conM bt n (qF V bt n 5) st).1 := ⟨_, rfl⟩
  rw [← est_2] at hKr1 hQ_1
  have h18r1 := hKr1.1
  have h22r1 := hKr1.2.1
  have hrgr1 := hKr1.2.2.1
  have hcbr1 := hKr1.cb
  have loopw : ∀ (nw : Nat) (k : Nat) (rr : QR) (st9 : PS) (u1 : Nat → Int) (wvw : Nat → va_E), (n < nw + k) → (k ≤ n) → (rr = cjN bt n 38 (-25) (conM bt n (qF V bt n 5)) k (conM bt n (qF V bt n 5) st)) → (st9 = rr.1) → (mkR u1 bt n st9) → (qcW G wvw u1 st9 (L ++ rr.2.1)) → (u1 25 = 1) → (uQ u u1) → (wvw 133 = .inr (12, [.ref (kad G 134), .ref (kad G 135), .ref (kad G 136), .ref (kad G 137), vI (u1 4), vI (u1 5), vI (u1 6), .ref (kad G 138), .ref (kad G 139), .ref (kad G 140), .ref (kad G 141), .ref (kad G 142), vL (u1 12), vL (u1 13), .ref (kad G 143), vI (u1 15), .ref (kad G 144), vI (u1 17), vI (u1 18), vI (u1 19), vI (u1 20), vI (u1 21), vI (u1 22), vI (u1 23), vI (u1 24), vI (u1 25), .ref (kad G 145), .ref (kad G 146), .ref (kad G 147), vI (u1 29)])) → (wvw 144 = iA G 700 bt) → (wvw 145 = rA G 6 7 (fun j => some (kadK G (nmI j)))) → ((∀ j, (j ≠ 133 ∧ j ≠ 146) → wvw j = w j)) → KW p l e R s m args below meth c 1 G Q wvw fl 0 0 4 [(0, .ref (kad G 133))] [] := by
    intro nw
    induction nw with
    | zero =>
      intro k rr st9 u1 wvw hn_w hk9 hx hst9 hKv hqv h25v husv hm1 h144 h145 hfrw
      exact absurd hn_w (by omega)
    | succ nw ihw =>
      intro k rr st9 u1 wvw hn_w hk9 hx hst9 hKv hqv h25v husv hm1 h144 h145 hfrw
      have h18v := hKv.1
      have h22v := hKv.2.1
      have hrgv := hKv.2.2.1
      have hcbv := hKv.cb
      have hgq : gq V n st rr := by rw [hx]; exact gq_cjN (Or.inr rfl) (gq_con (gq_qF 5)) k _ (gq_con (gq_qF 5) st)
      refine k_aload_n hC dX12_compileTest_4 rfl 0 rfl ?_
      refine k_ldcsw hC (List.mem_of_getElem? (i := 57) rfl) dX12_compileTest_5 ?_
      refine k_mutV hC (c_X12_accept l hls G hN wvw fl u1 bt n st9 38 (by decide) hn7 hb hm1 h144 hKv) yy_X12_accept wm_X12_447 (kl hN (by decide)) hm1 rfl rfl rfl rfl (Nat.le_of_ble_eq_true rfl) (by decide) (by decide) ⟨by decide, by decide⟩ dX12_compileTest_8 (fun w3 hp3 => ?_)
      obtain ⟨hT3, hf3⟩ := hp3
      by_cases hw_3 : isW bt n 38 st9
      · rw [selP_1 hw_3] at hT3
        refine k_topv (vI 1) (congrArg vI (selI_1 hw_3)) ?_
        have hwz_3 := hw_3.1
        obtain ⟨u3, hu3, hKr3, hs3⟩ := hT3
        obtain ⟨st_4, est_4⟩ : ∃ z : PS, z = adP bt n st9 := ⟨_, rfl⟩
        rw [← est_4] at hKr3
        have h18r3 := hKr3.1
        have h22r3 := hKr3.2.1
        have hrgr3 := hKr3.2.2.1
        have hcbr3 := hKr3.cb
        have hzir3 : st_4.1 = 0 := by rw [est_4]; exact ad_c.mpr (by omega)
        have hzzr3 : st_4.1 = 0 := by omega
        have hq0r3 := hKr3.2.2.2.1 hzzr3
        have henr3 := enM_b (bt := bt) hq0r3.2.2.2
        have hQ_3 : qcW G w3 u3 st_4 (L ++ rr.2.1) := hqv.go (hs3 29 (by omega)) (hf3 146 (by decide)) (fun q => ad_c.mp (by rw [← est_4]; exact q))
        have h25_3 : u3 25 = 1 := (hs3 25 (by omega)).trans h25v
        refine k_if_eq hC 27 dX12_compileTest_11 rfl (by omega) (fun c_11 => absurd c_11 (by omega)) (fun c_11 => ?_)
        refine k_aload_n hC dX12_compileTest_14 rfl 0 rfl ?_
        have h_5 : w3 145 = rA G 6 7 (fun j => some (kadK G (nmI j))) := (hf3 145 (by decide)).trans h145
        have h_6 : w3 144 = iA G 700 bt := (hf3 144 (by decide)).trans h144
        refine k_muvV hC (c_X12_compileConjunction_5 l hls G hN w3 fl u3 bt n st_4 (L ++ rr.2.1) V hn2 hQ_3 (by rw [est_4]; exact hl_ad hKv.le (by rw [hst9]; exact hl_gq hle0 hL hgq)) h_5 h25_3 hn7 hb hu3 h_6 hKr3) yy_X12_compileConjunction wm_X12_506 (kl hN (by decide)) hu3 rfl rfl rfl rfl (Nat.le_of_ble_eq_true rfl) (by decide) (by decide) ⟨by decide, by decide⟩ dX12_compileTest_15 (fun w7 hp7 => ?_)
        obtain ⟨hT7, hf7⟩ := hp7
        obtain ⟨u7, hu7, hKr7, hQ_7, h25_7, hs7⟩ := hT7
        obtain ⟨st_8, est_8⟩ : ∃ z : PS, z = (conM bt n (qF V bt n 5) st_4).1 := ⟨_, rfl⟩
        rw [← est_8] at hKr7 hQ_7
        have h18r7 := hKr7.1
        have h22r7 := hKr7.2.1
        have hrgr7 := hKr7.2.2.1
        have hcbr7 := hKr7.cb
        have hwr : isW bt n 38 rr.1 := by rw [← hst9]; exact hw_3
        refine k_aload_n hC dX12_compileTest_18 rfl 0 rfl ?_
        refine k_bipush hC dX12_compileTest_19 (by decide) ?_
        have h_10 : w7 144 = iA G 700 bt := (hf7 144 (by decide)).trans h_6
        refine k_muvV hC (c_X12_emit l hls G hN w7 fl u7 bt n st_8 (L ++ rr.2.1 ++ (conM bt n (qF V bt n 5) st_4).2.1) (-25) (by rw [est_8, est_4, hst9]; exact lt_and (V := V) (Or.inr rfl) hn2 hle0 hL (isW_go hwr) hgq (gq_con (gq_qF 5) _)) hn2 hQ_7 hn7 hb hu7 h_10 hKr7) yy_X12_emit wm_X12_487 (kl hN (by decide)) hu7 rfl rfl rfl rfl (Nat.le_of_ble_eq_true rfl) (by decide) (by decide) ⟨by decide, by decide⟩ dX12_compileTest_21 (fun w9 hp9 => ?_)
        obtain ⟨⟨u9, hu9, hKr9, hQ_9, hs9⟩, hf9⟩ := hp9
        have h18r9 := hKr9.1
        have h22r9 := hKr9.2.1
        have hrgr9 := hKr9.2.2.1
        have hcbr9 := hKr9.cb
        have h25_9 : u9 25 = 1 := (hs9 25 (by decide)).trans h25_7
        refine k_goto hC 4 dX12_compileTest_24 rfl ?_
        have h_11 : w9 144 = iA G 700 bt := (hf9 144 (by decide)).trans h_10
        have h_12 : w9 145 = rA G 6 7 (fun j => some (kadK G (nmI j))) := (hf9 145 (by decide)).trans ((hf7 145 (by decide)).trans h_5)
        exact ihw (k + 1) (and2 (-25) rr (conM bt n (qF V bt n 5) st_4)) st_8 u9 w9 (by omega) (by have h8 := cjN_pos hle0 (Or.inr rfl) (gq_con (gq_qF 5)) k _ (gq_con (gq_qF 5) st) (by rw [← hx]; exact hwr); rw [← hx] at h8; have h9 := enM_lt9 (bt := bt) (n := n) (s := rr.1.2.2) (by rw [hwr.2.1]; decide); omega) (by rw [cjN_go k _ (by rw [← hx]; exact hwr), ← hx, est_4, hst9]) est_8 hKr9 (hQ_9.cg (fun _ => by show _ = L ++ (rr.2.1 ++ (conM bt n (qF V bt n 5) st_4).2.1 ++ [-25]); simp only [List.append_assoc])) h25_9 (uQ.tr (uQ.tr (uQ.tr husv (uS.q hs3)) hs7) (uQ.e29 hs9)) hu9 h_11 h_12 (fun j hj => (hf9 j (by omega)).trans ((hf7 j (by omega)).trans ((hf3 j (by omega)).trans (hfrw j (by omega)))))
      · rw [selP_0 hw_3] at hT3
        refine k_topv (vI 0) (congrArg vI (selI_0 hw_3)) ?_
        obtain ⟨u3, hu3, hKr3, hs3⟩ := hT3
        have h18r3 := hKr3.1
        have h22r3 := hKr3.2.1
        have hrgr3 := hKr3.2.2.1
        have hcbr3 := hKr3.cb
        have hQ_3 : qcW G w3 u3 st9 (L ++ rr.2.1) := hqv.go (hs3 29 (by omega)) (hf3 146 (by decide)) (fun q => q)
        have h25_3 : u3 25 = 1 := (hs3 25 (by omega)).trans h25v
        refine k_if_eq hC 27 dX12_compileTest_11 rfl (by omega) (fun c_11 => ?_) (fun c_11 => absurd c_11 (by omega))
        have hfin : rr = tstM bt n (qF V bt n 5) st := by rw [hx]; exact cjN_eq (by rw [← hx, ← hst9]; exact hw_3) (cjN_end hn2 hle0 (Or.inr rfl) (gq_con (gq_qF 5)) (gq_con (gq_qF 5) st))
        subst hQ
        exact k_vret hC hr ⟨by decide, by decide⟩ (⟨rfl, rfl, ⟨u3, hu3, (by have e : st9 = (tstM bt n (qF V bt n 5) st).1 := (by rw [← hfin]; exact hst9); rw [← e]; exact hKr3), (by have e : st9 = (tstM bt n (qF V bt n 5) st).1 := (by rw [← hfin]; exact hst9); rw [← e]; exact hQ_3.cg (fun q => by rw [← hfin])), h25_3, (uQ.tr husv (uS.q hs3))⟩, fun j hj => (hf3 j (by omega)).trans (hfrw j (by omega))⟩) dX12_compileTest_27
  have h_13 : w1 144 = iA G 700 bt := (hf1 144 (by decide)).trans h144
  have h_14 : w1 145 = rA G 6 7 (fun j => some (kadK G (nmI j))) := (hf1 145 (by decide)).trans h145
  exact loopw (n + 1) 0 (conM bt n (qF V bt n 5) st) st_2 u1 w1 (by omega) (by omega) rfl est_2 hKr1 hQ_1 h25_1 (uQ.tr uQ.rf hs1) hu1 h_13 h_14 (fun j hj => hf1 j (by omega))

set_option maxRecDepth 100000 in
set_option maxHeartbeats 4000000 in
theorem c_X12_compileFactor_6 (l : Launch) (hls : l.stackTraces = false) (G : kG) (hN : kN G = 150) (w : Nat → va_E) (fl : va_W) (u bt : Nat → Int) (n : Nat) (st : PS) (L : List Int) (V : Int → Nat → Int) (hn2 : n ≤ 200) (hqc : qcW G w u st L) (hL : st.1 = 0 → L.length ≤ st.2.2) (h145 : w 145 = nmA G) (h25 : u 25 = 0) (hn7 : n ≤ 700) (hb : btOK bt) (hm : w 133 = mdO G u) (h144 : w 144 = iA G 700 bt) (hK : mkR u bt n st) : KM l G yX12_compileFactor cX12_compileFactor 2 (none) 24 0 0 [.ref (kad G 133)] w fl (kMuv fl (fun w1 => (∃ u1, w1 133 = mdO G u1 ∧ mkR u1 bt n ((qF V bt n 6 st).1) ∧ qcW G w1 u1 ((qF V bt n 6 st).1) (L ++ (qF V bt n 6 st).2.1) ∧ u1 25 = 0 ∧ uQ u u1) ∧ ∀ j, (j ≠ 133 ∧ j ≠ 146) → w1 j = w j)) := by
  refine KM_of2 hls (by decide +kernel) rfl (lv0 := [(0, .ref (kad G 133))]) rfl (Nat.le_of_ble_eq_true rfl) (fun p e R s m args below meth c Q hC hr hQ => ?_)
  have h18 := hK.1
  have h22 := hK.2.1
  have hrg := hK.2.2.1
  have hcb := hK.cb
  have hk0 := hK.2.2.2.1
  have hk1 := hK.2.2.2.2.1
  have hdg := hK.2.2.2.2.2
  have hle0 := hK.le
  refine k_aload_n hC dX12_compileFactor_0 rfl 0 rfl ?_
  refine k_ldcsw hC (List.mem_of_getElem? (i := 55) rfl) dX12_compileFactor_1 ?_
  refine k_pureV hC (c_X12_isWord l hls G hN w fl u bt n st 31 (by decide) hn7 hb hm h144 hK) yy_X12_isWord wm_X12_409 (kl hN (by decide)) hm rfl rfl rfl rfl (Nat.le_of_ble_eq_true rfl) (by decide) (by decide) ⟨by decide, by decide⟩ dX12_compileFactor_4 ?_
  obtain ⟨z_1, ez_1, hz_1⟩ := selI_c (isW bt n 31 st)
  refine k_topv (vI z_1) (by rw [ez_1]) ?_
  refine k_if_eq hC 44 dX12_compileFactor_7 rfl (by omega) (fun c_7 => ?_) (fun c_7 => ?_)
  · have hw31 : ¬ isW bt n 31 st := (hz_1.resolve_left (fun q1 => by omega)).2
    refine k_aload_n hC dX12_compileFactor_44 rfl 0 rfl ?_
    refine k_bipush hC dX12_compileFactor_45 (by decide) ?_
    refine k_pureV hC (c_X12_isSymbol l hls G hN w fl u bt n st 40 (by omega) hn7 hb hm h144 hK) yy_X12_isSymbol wm_X12_420 (kl hN (by decide)) hm rfl rfl rfl rfl (Nat.le_of_ble_eq_true rfl) (by decide) (by decide) ⟨by decide, by decide⟩ dX12_compileFactor_47 ?_
    obtain ⟨z_2, ez_2, hz_2⟩ := selI_c (isS bt n 40 st)
    refine k_topv (vI z_2) (by rw [ez_2]) ?_
    refine k_if_eq hC 87 dX12_compileFactor_50 rfl (by omega) (fun c_50 => ?_) (fun c_50 => ?_)
    · have hw40 : ¬ isS bt n 40 st := (hz_2.resolve_left (fun q1 => by omega)).2
      have hqF := qF_c (V := V) 6 hw31 hw40
      refine k_aload_n hC dX12_compileFactor_87 rfl 0 rfl ?_
      refine k_muvV hC (c_X12_compileValue l hls G hN w fl u bt n st L 0 hn2 hqc hL h145 h25 hn7 hb hm h144 hK) yy_X12_compileValue wm_X12_501 (kl hN (by decide)) hm rfl rfl rfl rfl (Nat.le_of_ble_eq_true rfl) (by decide) (by decide) ⟨by decide, by decide⟩ dX12_compileFactor_88 (fun w3 hp3 => ?_)
      obtain ⟨hT3, hf3⟩ := hp3
      obtain ⟨u3, hu3, hKr3, hQ_3, h25_3, hs3⟩ := hT3
      obtain ⟨st_4, est_4⟩ : ∃ z : PS, z = vlS bt n st := ⟨_, rfl⟩
      rw [← est_4] at hKr3 hQ_3
      have h18r3 := hKr3.1
      have h22r3 := hKr3.2.1
      have hrgr3 := hKr3.2.2.1
      have hcbr3 := hKr3.cb
      refine k_aload_n hC dX12_compileFactor_91 rfl 0 rfl ?_
      refine k_bipush hC dX12_compileFactor_92 (by decide) ?_
      have h_5 : w3 144 = iA G 700 bt := (hf3 144 (by decide)).trans h144
      refine k_pureV hC (c_X12_isSymbol l hls G hN w3 fl u3 bt n st_4 60 (by omega) hn7 hb hu3 h_5 hKr3) yy_X12_isSymbol wm_X12_420 (kl hN (by decide)) hu3 rfl rfl rfl rfl (Nat.le_of_ble_eq_true rfl) (by decide) (by decide) ⟨by decide, by decide⟩ dX12_compileFactor_94 ?_
      obtain ⟨z_6, ez_6, hz_6⟩ := selI_c (isS bt n 60 st_4)
      refine k_topv (vI z_6) (by rw [ez_6]) ?_
      refine k_if_eq hC 105 dX12_compileFactor_97 rfl (by omega) (fun c_97 => ?_) (fun c_97 => ?_)
      · refine k_aload_n hC dX12_compileFactor_105 rfl 0 rfl ?_
        refine k_bipush hC dX12_compileFactor_106 (by decide) ?_
        refine k_pureV hC (c_X12_isSymbol l hls G hN w3 fl u3 bt n st_4 61 (by omega) hn7 hb hu3 h_5 hKr3) yy_X12_isSymbol wm_X12_420 (kl hN (by decide)) hu3 rfl rfl rfl rfl (Nat.le_of_ble_eq_true rfl) (by decide) (by decide) ⟨by decide, by decide⟩ dX12_compileFactor_108 ?_
        obtain ⟨z_7, ez_7, hz_7⟩ := selI_c (isS bt n 61 st_4)
        refine k_topv (vI z_7) (by rw [ez_7]) ?_
        refine k_if_eq hC 119 dX12_compileFactor_111 rfl (by omega) (fun c_111 => ?_) (fun c_111 => ?_)
        · refine k_bipush hC dX12_compileFactor_119 (by decide) ?_
          refine k_istore_n hC [(1, vI (-22)), (0, .ref (kad G 133))] dX12_compileFactor_121 rfl (by decide) rfl ?_
          refine k_aload_n hC dX12_compileFactor_122 rfl 1 rfl ?_
          refine k_iload_n hC dX12_compileFactor_123 rfl 0 rfl ?_
          refine k_bipush hC dX12_compileFactor_124 (by decide) ?_
          refine k_icmp_ne hC 138 dX12_compileFactor_126 rfl (by omega) (by omega) (fun c_126 => absurd c_126 (by omega)) (fun c_126 => ?_)
          refine k_aload_n hC dX12_compileFactor_129 rfl 1 rfl ?_
          refine k_bipush hC dX12_compileFactor_130 (by decide) ?_
          refine k_pureV hC (c_X12_isSymbol l hls G hN w3 fl u3 bt n st_4 62 (by omega) hn7 hb hu3 h_5 hKr3) yy_X12_isSymbol wm_X12_420 (kl hN (by decide)) hu3 rfl rfl rfl rfl (Nat.le_of_ble_eq_true rfl) (by decide) (by decide) ⟨by decide, by decide⟩ dX12_compileFactor_132 ?_
          obtain ⟨z_8, ez_8, hz_8⟩ := selI_c (isS bt n 62 st_4)
          refine k_topv (vI z_8) (by rw [ez_8]) ?_
          refine k_if_eq hC 142 dX12_compileFactor_135 rfl (by omega) (fun c_135 => ?_) (fun c_135 => ?_)
          · refine k_iconst hC dX12_compileFactor_142 ?_
            refine k_iconst hC dX12_compileFactor_143 ?_
            refine k_muvV hC (c_X12_check0 l hls G hN w3 fl u3 bt n st_4 1 (by omega) hn7 hb hu3 h_5 hKr3) yy_X12_check wm_X12_413 (kl hN (by decide)) hu3 rfl rfl rfl rfl (Nat.le_of_ble_eq_true rfl) (by decide) (by decide) ⟨by decide, by decide⟩ dX12_compileFactor_144 (fun w9 hp9 => ?_)
            obtain ⟨hT9, hf9⟩ := hp9
            obtain ⟨u9, hu9, hKr9, hs9⟩ := hT9
            obtain ⟨st_10, est_10⟩ : ∃ z : PS, z = flP 1 st_4 := ⟨_, rfl⟩
            rw [← est_10] at hKr9
            have h18r9 := hKr9.1
            have h22r9 := hKr9.2.1
            have hrgr9 := hKr9.2.2.1
            have hcbr9 := hKr9.cb
            have hzzr9 : st_10.1 ≠ 0 := by rw [est_10]; exact fl_c (by omega)
            have hQ_9 : qcW G w9 u9 st_10 (L ++ [vlC bt n st]) := hQ_3.go (hs9 29 (by omega)) (hf9 146 (by decide)) (fun q => absurd q hzzr9)
            have h25_9 : u9 25 = 0 := (hs9 25 (by omega)).trans h25_3
            refine k_aload_n hC dX12_compileFactor_147 rfl 1 rfl ?_
            have h_12 : w9 144 = iA G 700 bt := (hf9 144 (by decide)).trans h_5
            refine k_muvV hC (c_X12_advance l hls G hN w9 fl u9 bt n st_10  hn7 hb hu9 h_12 hKr9) yy_X12_advance wm_X12_417 (kl hN (by decide)) hu9 rfl rfl rfl rfl (Nat.le_of_ble_eq_true rfl) (by decide) (by decide) ⟨by decide, by decide⟩ dX12_compileFactor_148 (fun w11 hp11 => ?_)
            obtain ⟨hT11, hf11⟩ := hp11
            obtain ⟨u11, hu11, hKr11, hs11⟩ := hT11
            obtain ⟨st_13, est_13⟩ : ∃ z : PS, z = adP bt n st_10 := ⟨_, rfl⟩
            rw [← est_13] at hKr11
            have h18r11 := hKr11.1
            have h22r11 := hKr11.2.1
            have hrgr11 := hKr11.2.2.1
            have hcbr11 := hKr11.cb
            have hzzr11 : st_13.1 ≠ 0 := by rw [est_13, adP_e (by omega)]; omega
            have hQ_11 : qcW G w11 u11 st_13 (L ++ [vlC bt n st]) := hQ_9.go (hs11 29 (by omega)) (hf11 146 (by decide)) (fun q => ad_c.mp (by rw [← est_13]; exact q))
            have h25_11 : u11 25 = 0 := (hs11 25 (by omega)).trans h25_9
            have hop : opM bt n st_4 = -22 := (selI_0 (hz_6.resolve_left (fun q1 => by omega)).2).trans (selI_0 (hz_7.resolve_left (fun q1 => by omega)).2)
            have hob9 : st_13 = opS bt n st_4 := by unfold opS; rw [selP_0 (fun q => q.elim (hz_6.resolve_left (fun q1 => by omega)).2 (fun q => q.elim (hz_7.resolve_left (fun q1 => by omega)).2 (hz_8.resolve_left (fun q1 => by omega)).2)), ← est_10]; exact est_13
            refine k_aload_n hC dX12_compileFactor_151 rfl 1 rfl ?_
            have h_14 : w11 145 = rA G 6 7 (fun j => some (kadK G (nmI j))) := (hf11 145 (by decide)).trans ((hf9 145 (by decide)).trans ((hf3 145 (by decide)).trans h145))
            have h_15 : w11 144 = iA G 700 bt := (hf11 144 (by decide)).trans h_12
            refine k_muvV hC (c_X12_compileValue l hls G hN w11 fl u11 bt n st_13 (L ++ [vlC bt n st]) 0 hn2 hQ_11 (by rw [hob9, est_4]; exact hl_cmp hle0 hL) h_14 h25_11 hn7 hb hu11 h_15 hKr11) yy_X12_compileValue wm_X12_501 (kl hN (by decide)) hu11 rfl rfl rfl rfl (Nat.le_of_ble_eq_true rfl) (by decide) (by decide) ⟨by decide, by decide⟩ dX12_compileFactor_152 (fun w16 hp16 => ?_)
            obtain ⟨hT16, hf16⟩ := hp16
            obtain ⟨u16, hu16, hKr16, hQ_16, h25_16, hs16⟩ := hT16
            obtain ⟨st_17, est_17⟩ : ∃ z : PS, z = vlS bt n st_13 := ⟨_, rfl⟩
            rw [← est_17] at hKr16 hQ_16
            have h18r16 := hKr16.1
            have h22r16 := hKr16.2.1
            have hrgr16 := hKr16.2.2.1
            have hcbr16 := hKr16.cb
            have hob : st_13 = opS bt n st_4 := by exact hob9
            refine k_aload_n hC dX12_compileFactor_155 rfl 1 rfl ?_
            refine k_iload_n hC dX12_compileFactor_156 rfl 0 rfl ?_
            have h_19 : w16 144 = iA G 700 bt := (hf16 144 (by decide)).trans h_15
            refine k_muvV hC (c_X12_emit l hls G hN w16 fl u16 bt n st_17 (L ++ [vlC bt n st] ++ [vlC bt n st_13]) (-22) (by rw [est_17, hob, est_4]; exact lt_cmp hn2 hle0 hL) hn2 hQ_16 hn7 hb hu16 h_19 hKr16) yy_X12_emit wm_X12_487 (kl hN (by decide)) hu16 rfl rfl rfl rfl (Nat.le_of_ble_eq_true rfl) (by decide) (by decide) ⟨by decide, by decide⟩ dX12_compileFactor_157 (fun w18 hp18 => ?_)
            obtain ⟨⟨u18, hu18, hKr18, hQ_18, hs18⟩, hf18⟩ := hp18
            have h18r18 := hKr18.1
            have h22r18 := hKr18.2.1
            have hrgr18 := hKr18.2.2.1
            have hcbr18 := hKr18.cb
            have h25_18 : u18 25 = 0 := (hs18 25 (by decide)).trans h25_16
            subst hQ
            exact k_vret hC hr ⟨by decide, by decide⟩ (⟨rfl, rfl, ⟨u18, hu18, (by have e : st_17 = (qF V bt n 6 st).1 := (by rw [hqF]; show st_17 = vlS bt n (opS bt n (vlS bt n st)); rw [← est_4, ← hob9]; exact est_17); rw [← e]; exact hKr18), (by have e : st_17 = (qF V bt n 6 st).1 := (by rw [hqF]; show st_17 = vlS bt n (opS bt n (vlS bt n st)); rw [← est_4, ← hob9]; exact est_17); rw [← e]; exact hQ_18.cg (fun q => by rw [hqF]; show _ = L ++ [vlC bt n st, vlC bt n (opS bt n (vlS bt n st)), opM bt n (vlS bt n st)]; rw [← est_4, hop, ← hob9, List.append_assoc, List.append_assoc]; rfl)), h25_18, (uQ.tr (uQ.tr (uQ.tr (uQ.tr (uQ.tr uQ.rf hs3) (uS.q hs9)) (uS.q hs11)) hs16) (uQ.e29 hs18))⟩, fun j hj => (hf18 j (by omega)).trans ((hf16 j (by omega)).trans ((hf11 j (by omega)).trans ((hf9 j (by omega)).trans (hf3 j (by omega)))))⟩) dX12_compileFactor_160
          · refine k_iconst hC dX12_compileFactor_138 ?_
            refine k_goto hC 143 dX12_compileFactor_139 rfl ?_
            refine k_iconst hC dX12_compileFactor_143 ?_
            refine k_muvV hC (c_X12_check1 l hls G hN w3 fl u3 bt n st_4 1 (by omega) hn7 hb hu3 h_5 hKr3) yy_X12_check wm_X12_413 (kl hN (by decide)) hu3 rfl rfl rfl rfl (Nat.le_of_ble_eq_true rfl) (by decide) (by decide) ⟨by decide, by decide⟩ dX12_compileFactor_144 (fun w20 hp20 => ?_)
            obtain ⟨hT20, hf20⟩ := hp20
            obtain ⟨u20, hu20, hKr20, hs20⟩ := hT20
            have h18r20 := hKr20.1
            have h22r20 := hKr20.2.1
            have hrgr20 := hKr20.2.2.1
            have hcbr20 := hKr20.cb
            have hQ_20 : qcW G w20 u20 st_4 (L ++ [vlC bt n st]) := hQ_3.go (hs20 29 (by omega)) (hf20 146 (by decide)) (fun q => q)
            have h25_20 : u20 25 = 0 := (hs20 25 (by omega)).trans h25_3
            refine k_aload_n hC dX12_compileFactor_147 rfl 1 rfl ?_
            have h_22 : w20 144 = iA G 700 bt := (hf20 144 (by decide)).trans h_5
            refine k_muvV hC (c_X12_advance l hls G hN w20 fl u20 bt n st_4  hn7 hb hu20 h_22 hKr20) yy_X12_advance wm_X12_417 (kl hN (by decide)) hu20 rfl rfl rfl rfl (Nat.le_of_ble_eq_true rfl) (by decide) (by decide) ⟨by decide, by decide⟩ dX12_compileFactor_148 (fun w21 hp21 => ?_)
            obtain ⟨hT21, hf21⟩ := hp21
            obtain ⟨u21, hu21, hKr21, hs21⟩ := hT21
            obtain ⟨st_23, est_23⟩ : ∃ z : PS, z = adP bt n st_4 := ⟨_, rfl⟩
            rw [← est_23] at hKr21
            have h18r21 := hKr21.1
            have h22r21 := hKr21.2.1
            have hrgr21 := hKr21.2.2.1
            have hcbr21 := hKr21.cb
            have hQ_21 : qcW G w21 u21 st_23 (L ++ [vlC bt n st]) := hQ_20.go (hs21 29 (by omega)) (hf21 146 (by decide)) (fun q => ad_c.mp (by rw [← est_23]; exact q))
            have h25_21 : u21 25 = 0 := (hs21 25 (by omega)).trans h25_20
            have hop : opM bt n st_4 = -22 := (selI_0 (hz_6.resolve_left (fun q1 => by omega)).2).trans (selI_0 (hz_7.resolve_left (fun q1 => by omega)).2)
            have hob9 : st_23 = opS bt n st_4 := by unfold opS; rw [selP_1 (Or.inr (Or.inr (hz_8.resolve_right (fun q1 => by omega)).2))]; exact est_23
            refine k_aload_n hC dX12_compileFactor_151 rfl 1 rfl ?_
            have h_24 : w21 145 = rA G 6 7 (fun j => some (kadK G (nmI j))) := (hf21 145 (by decide)).trans ((hf20 145 (by decide)).trans ((hf3 145 (by decide)).trans h145))
            have h_25 : w21 144 = iA G 700 bt := (hf21 144 (by decide)).trans h_22
            refine k_muvV hC (c_X12_compileValue l hls G hN w21 fl u21 bt n st_23 (L ++ [vlC bt n st]) 0 hn2 hQ_21 (by rw [hob9, est_4]; exact hl_cmp hle0 hL) h_24 h25_21 hn7 hb hu21 h_25 hKr21) yy_X12_compileValue wm_X12_501 (kl hN (by decide)) hu21 rfl rfl rfl rfl (Nat.le_of_ble_eq_true rfl) (by decide) (by decide) ⟨by decide, by decide⟩ dX12_compileFactor_152 (fun w26 hp26 => ?_)
            obtain ⟨hT26, hf26⟩ := hp26
            obtain ⟨u26, hu26, hKr26, hQ_26, h25_26, hs26⟩ := hT26
            obtain ⟨st_27, est_27⟩ : ∃ z : PS, z = vlS bt n st_23 := ⟨_, rfl⟩
            rw [← est_27] at hKr26 hQ_26
            have h18r26 := hKr26.1
            have h22r26 := hKr26.2.1
            have hrgr26 := hKr26.2.2.1
            have hcbr26 := hKr26.cb
            have hob : st_23 = opS bt n st_4 := by exact hob9
            refine k_aload_n hC dX12_compileFactor_155 rfl 1 rfl ?_
            refine k_iload_n hC dX12_compileFactor_156 rfl 0 rfl ?_
            have h_29 : w26 144 = iA G 700 bt := (hf26 144 (by decide)).trans h_25
            refine k_muvV hC (c_X12_emit l hls G hN w26 fl u26 bt n st_27 (L ++ [vlC bt n st] ++ [vlC bt n st_23]) (-22) (by rw [est_27, hob, est_4]; exact lt_cmp hn2 hle0 hL) hn2 hQ_26 hn7 hb hu26 h_29 hKr26) yy_X12_emit wm_X12_487 (kl hN (by decide)) hu26 rfl rfl rfl rfl (Nat.le_of_ble_eq_true rfl) (by decide) (by decide) ⟨by decide, by decide⟩ dX12_compileFactor_157 (fun w28 hp28 => ?_)
            obtain ⟨⟨u28, hu28, hKr28, hQ_28, hs28⟩, hf28⟩ := hp28
            have h18r28 := hKr28.1
            have h22r28 := hKr28.2.1
            have hrgr28 := hKr28.2.2.1
            have hcbr28 := hKr28.cb
            have h25_28 : u28 25 = 0 := (hs28 25 (by decide)).trans h25_26
            subst hQ
            exact k_vret hC hr ⟨by decide, by decide⟩ (⟨rfl, rfl, ⟨u28, hu28, (by have e : st_27 = (qF V bt n 6 st).1 := (by rw [hqF]; show st_27 = vlS bt n (opS bt n (vlS bt n st)); rw [← est_4, ← hob9]; exact est_27); rw [← e]; exact hKr28), (by have e : st_27 = (qF V bt n 6 st).1 := (by rw [hqF]; show st_27 = vlS bt n (opS bt n (vlS bt n st)); rw [← est_4, ← hob9]; exact est_27); rw [← e]; exact hQ_28.cg (fun q => by rw [hqF]; show _ = L ++ [vlC bt n st, vlC bt n (opS bt n (vlS bt n st)), opM bt n (vlS bt n st)]; rw [← est_4, hop, ← hob9, List.append_assoc, List.append_assoc]; rfl)), h25_28, (uQ.tr (uQ.tr (uQ.tr (uQ.tr (uQ.tr uQ.rf hs3) (uS.q hs20)) (uS.q hs21)) hs26) (uQ.e29 hs28))⟩, fun j hj => (hf28 j (by omega)).trans ((hf26 j (by omega)).trans ((hf21 j (by omega)).trans ((hf20 j (by omega)).trans (hf3 j (by omega)))))⟩) dX12_compileFactor_160
        · refine k_bipush hC dX12_compileFactor_114 (by decide) ?_
          refine k_goto hC 121 dX12_compileFactor_116 rfl ?_
          refine k_istore_n hC [(1, vI (-21)), (0, .ref (kad G 133))] dX12_compileFactor_121 rfl (by decide) rfl ?_
          refine k_aload_n hC dX12_compileFactor_122 rfl 1 rfl ?_
          refine k_iload_n hC dX12_compileFactor_123 rfl 0 rfl ?_
          refine k_bipush hC dX12_compileFactor_124 (by decide) ?_
          refine k_icmp_ne hC 138 dX12_compileFactor_126 rfl (by omega) (by omega) (fun c_126 => ?_) (fun c_126 => absurd c_126 (by omega))
          refine k_iconst hC dX12_compileFactor_138 ?_
          refine k_goto hC 143 dX12_compileFactor_139 rfl ?_
          refine k_iconst hC dX12_compileFactor_143 ?_
          refine k_muvV hC (c_X12_check1 l hls G hN w3 fl u3 bt n st_4 1 (by omega) hn7 hb hu3 h_5 hKr3) yy_X12_check wm_X12_413 (kl hN (by decide)) hu3 rfl rfl rfl rfl (Nat.le_of_ble_eq_true rfl) (by decide) (by decide) ⟨by decide, by decide⟩ dX12_compileFactor_144 (fun w30 hp30 => ?_)
          obtain ⟨hT30, hf30⟩ := hp30
          obtain ⟨u30, hu30, hKr30, hs30⟩ := hT30
          have h18r30 := hKr30.1
          have h22r30 := hKr30.2.1
          have hrgr30 := hKr30.2.2.1
          have hcbr30 := hKr30.cb
          have hQ_30 : qcW G w30 u30 st_4 (L ++ [vlC bt n st]) := hQ_3.go (hs30 29 (by omega)) (hf30 146 (by decide)) (fun q => q)
          have h25_30 : u30 25 = 0 := (hs30 25 (by omega)).trans h25_3
          refine k_aload_n hC dX12_compileFactor_147 rfl 1 rfl ?_
          have h_32 : w30 144 = iA G 700 bt := (hf30 144 (by decide)).trans h_5
          refine k_muvV hC (c_X12_advance l hls G hN w30 fl u30 bt n st_4  hn7 hb hu30 h_32 hKr30) yy_X12_advance wm_X12_417 (kl hN (by decide)) hu30 rfl rfl rfl rfl (Nat.le_of_ble_eq_true rfl) (by decide) (by decide) ⟨by decide, by decide⟩ dX12_compileFactor_148 (fun w31 hp31 => ?_)
          obtain ⟨hT31, hf31⟩ := hp31
          obtain ⟨u31, hu31, hKr31, hs31⟩ := hT31
          obtain ⟨st_33, est_33⟩ : ∃ z : PS, z = adP bt n st_4 := ⟨_, rfl⟩
          rw [← est_33] at hKr31
          have h18r31 := hKr31.1
          have h22r31 := hKr31.2.1
          have hrgr31 := hKr31.2.2.1
          have hcbr31 := hKr31.cb
          have hQ_31 : qcW G w31 u31 st_33 (L ++ [vlC bt n st]) := hQ_30.go (hs31 29 (by omega)) (hf31 146 (by decide)) (fun q => ad_c.mp (by rw [← est_33]; exact q))
          have h25_31 : u31 25 = 0 := (hs31 25 (by omega)).trans h25_30
          have hop : opM bt n st_4 = -21 := (selI_0 (hz_6.resolve_left (fun q1 => by omega)).2).trans (selI_1 (hz_7.resolve_right (fun q1 => by omega)).2)
          have hob9 : st_33 = opS bt n st_4 := by unfold opS; rw [selP_1 (Or.inr (Or.inl (hz_7.resolve_right (fun q1 => by omega)).2))]; exact est_33
          refine k_aload_n hC dX12_compileFactor_151 rfl 1 rfl ?_
          have h_34 : w31 145 = rA G 6 7 (fun j => some (kadK G (nmI j))) := (hf31 145 (by decide)).trans ((hf30 145 (by decide)).trans ((hf3 145 (by decide)).trans h145))
          have h_35 : w31 144 = iA G 700 bt := (hf31 144 (by decide)).trans h_32
          refine k_muvV hC (c_X12_compileValue l hls G hN w31 fl u31 bt n st_33 (L ++ [vlC bt n st]) 0 hn2 hQ_31 (by rw [hob9, est_4]; exact hl_cmp hle0 hL) h_34 h25_31 hn7 hb hu31 h_35 hKr31) yy_X12_compileValue wm_X12_501 (kl hN (by decide)) hu31 rfl rfl rfl rfl (Nat.le_of_ble_eq_true rfl) (by decide) (by decide) ⟨by decide, by decide⟩ dX12_compileFactor_152 (fun w36 hp36 => ?_)
          obtain ⟨hT36, hf36⟩ := hp36
          obtain ⟨u36, hu36, hKr36, hQ_36, h25_36, hs36⟩ := hT36
          obtain ⟨st_37, est_37⟩ : ∃ z : PS, z = vlS bt n st_33 := ⟨_, rfl⟩
          rw [← est_37] at hKr36 hQ_36
          have h18r36 := hKr36.1
          have h22r36 := hKr36.2.1
          have hrgr36 := hKr36.2.2.1
          have hcbr36 := hKr36.cb
          have hob : st_33 = opS bt n st_4 := by exact hob9
          refine k_aload_n hC dX12_compileFactor_155 rfl 1 rfl ?_
          refine k_iload_n hC dX12_compileFactor_156 rfl 0 rfl ?_
          have h_39 : w36 144 = iA G 700 bt := (hf36 144 (by decide)).trans h_35
          refine k_muvV hC (c_X12_emit l hls G hN w36 fl u36 bt n st_37 (L ++ [vlC bt n st] ++ [vlC bt n st_33]) (-21) (by rw [est_37, hob, est_4]; exact lt_cmp hn2 hle0 hL) hn2 hQ_36 hn7 hb hu36 h_39 hKr36) yy_X12_emit wm_X12_487 (kl hN (by decide)) hu36 rfl rfl rfl rfl (Nat.le_of_ble_eq_true rfl) (by decide) (by decide) ⟨by decide, by decide⟩ dX12_compileFactor_157 (fun w38 hp38 => ?_)
          obtain ⟨⟨u38, hu38, hKr38, hQ_38, hs38⟩, hf38⟩ := hp38
          have h18r38 := hKr38.1
          have h22r38 := hKr38.2.1
          have hrgr38 := hKr38.2.2.1
          have hcbr38 := hKr38.cb
          have h25_38 : u38 25 = 0 := (hs38 25 (by decide)).trans h25_36
          subst hQ
          exact k_vret hC hr ⟨by decide, by decide⟩ (⟨rfl, rfl, ⟨u38, hu38, (by have e : st_37 = (qF V bt n 6 st).1 := (by rw [hqF]; show st_37 = vlS bt n (opS bt n (vlS bt n st)); rw [← est_4, ← hob9]; exact est_37); rw [← e]; exact hKr38), (by have e : st_37 = (qF V bt n 6 st).1 := (by rw [hqF]; show st_37 = vlS bt n (opS bt n (vlS bt n st)); rw [← est_4, ← hob9]; exact est_37); rw [← e]; exact hQ_38.cg (fun q => by rw [hqF]; show _ = L ++ [vlC bt n st, vlC bt n (opS bt n (vlS bt n st)), opM bt n (vlS bt n st)]; rw [← est_4, hop, ← hob9, List.append_assoc, List.append_assoc]; rfl)), h25_38, (uQ.tr (uQ.tr (uQ.tr (uQ.tr (uQ.tr uQ.rf hs3) (uS.q hs30)) (uS.q hs31)) hs36) (uQ.e29 hs38))⟩, fun j hj => (hf38 j (by omega)).trans ((hf36 j (by omega)).trans ((hf31 j (by omega)).trans ((hf30 j (by omega)).trans (hf3 j (by omega)))))⟩) dX12_compileFactor_160
      · refine k_bipush hC dX12_compileFactor_100 (by decide) ?_
        refine k_goto hC 121 dX12_compileFactor_102 rfl ?_
        refine k_istore_n hC [(1, vI (-20)), (0, .ref (kad G 133))] dX12_compileFactor_121 rfl (by decide) rfl ?_
        refine k_aload_n hC dX12_compileFactor_122 rfl 1 rfl ?_
        refine k_iload_n hC dX12_compileFactor_123 rfl 0 rfl ?_
        refine k_bipush hC dX12_compileFactor_124 (by decide) ?_
        refine k_icmp_ne hC 138 dX12_compileFactor_126 rfl (by omega) (by omega) (fun c_126 => ?_) (fun c_126 => absurd c_126 (by omega))
        refine k_iconst hC dX12_compileFactor_138 ?_
        refine k_goto hC 143 dX12_compileFactor_139 rfl ?_
        refine k_iconst hC dX12_compileFactor_143 ?_
        refine k_muvV hC (c_X12_check1 l hls G hN w3 fl u3 bt n st_4 1 (by omega) hn7 hb hu3 h_5 hKr3) yy_X12_check wm_X12_413 (kl hN (by decide)) hu3 rfl rfl rfl rfl (Nat.le_of_ble_eq_true rfl) (by decide) (by decide) ⟨by decide, by decide⟩ dX12_compileFactor_144 (fun w40 hp40 => ?_)
        obtain ⟨hT40, hf40⟩ := hp40
        obtain ⟨u40, hu40, hKr40, hs40⟩ := hT40
        have h18r40 := hKr40.1
        have h22r40 := hKr40.2.1
        have hrgr40 := hKr40.2.2.1
        have hcbr40 := hKr40.cb
        have hQ_40 : qcW G w40 u40 st_4 (L ++ [vlC bt n st]) := hQ_3.go (hs40 29 (by omega)) (hf40 146 (by decide)) (fun q => q)
        have h25_40 : u40 25 = 0 := (hs40 25 (by omega)).trans h25_3
        refine k_aload_n hC dX12_compileFactor_147 rfl 1 rfl ?_
        have h_42 : w40 144 = iA G 700 bt := (hf40 144 (by decide)).trans h_5
        refine k_muvV hC (c_X12_advance l hls G hN w40 fl u40 bt n st_4  hn7 hb hu40 h_42 hKr40) yy_X12_advance wm_X12_417 (kl hN (by decide)) hu40 rfl rfl rfl rfl (Nat.le_of_ble_eq_true rfl) (by decide) (by decide) ⟨by decide, by decide⟩ dX12_compileFactor_148 (fun w41 hp41 => ?_)
        obtain ⟨hT41, hf41⟩ := hp41
        obtain ⟨u41, hu41, hKr41, hs41⟩ := hT41
        obtain ⟨st_43, est_43⟩ : ∃ z : PS, z = adP bt n st_4 := ⟨_, rfl⟩
        rw [← est_43] at hKr41
        have h18r41 := hKr41.1
        have h22r41 := hKr41.2.1
        have hrgr41 := hKr41.2.2.1
        have hcbr41 := hKr41.cb
        have hQ_41 : qcW G w41 u41 st_43 (L ++ [vlC bt n st]) := hQ_40.go (hs41 29 (by omega)) (hf41 146 (by decide)) (fun q => ad_c.mp (by rw [← est_43]; exact q))
        have h25_41 : u41 25 = 0 := (hs41 25 (by omega)).trans h25_40
        have hop : opM bt n st_4 = -20 := selI_1 (hz_6.resolve_right (fun q1 => by omega)).2
        have hob9 : st_43 = opS bt n st_4 := by unfold opS; rw [selP_1 (Or.inl (hz_6.resolve_right (fun q1 => by omega)).2)]; exact est_43
        refine k_aload_n hC dX12_compileFactor_151 rfl 1 rfl ?_
        have h_44 : w41 145 = rA G 6 7 (fun j => some (kadK G (nmI j))) := (hf41 145 (by decide)).trans ((hf40 145 (by decide)).trans ((hf3 145 (by decide)).trans h145))
        have h_45 : w41 144 = iA G 700 bt := (hf41 144 (by decide)).trans h_42
        refine k_muvV hC (c_X12_compileValue l hls G hN w41 fl u41 bt n st_43 (L ++ [vlC bt n st]) 0 hn2 hQ_41 (by rw [hob9, est_4]; exact hl_cmp hle0 hL) h_44 h25_41 hn7 hb hu41 h_45 hKr41) yy_X12_compileValue wm_X12_501 (kl hN (by decide)) hu41 rfl rfl rfl rfl (Nat.le_of_ble_eq_true rfl) (by decide) (by decide) ⟨by decide, by decide⟩ dX12_compileFactor_152 (fun w46 hp46 => ?_)
        obtain ⟨hT46, hf46⟩ := hp46
        obtain ⟨u46, hu46, hKr46, hQ_46, h25_46, hs46⟩ := hT46
        obtain ⟨st_47, est_47⟩ : ∃ z : PS, z = vlS bt n st_43 := ⟨_, rfl⟩
        rw [← est_47] at hKr46 hQ_46
        have h18r46 := hKr46.1
        have h22r46 := hKr46.2.1
        have hrgr46 := hKr46.2.2.1
        have hcbr46 := hKr46.cb
        have hob : st_43 = opS bt n st_4 := by exact hob9
        refine k_aload_n hC dX12_compileFactor_155 rfl 1 rfl ?_
        refine k_iload_n hC dX12_compileFactor_156 rfl 0 rfl ?_
        have h_49 : w46 144 = iA G 700 bt := (hf46 144 (by decide)).trans h_45
        refine k_muvV hC (c_X12_emit l hls G hN w46 fl u46 bt n st_47 (L ++ [vlC bt n st] ++ [vlC bt n st_43]) (-20) (by rw [est_47, hob, est_4]; exact lt_cmp hn2 hle0 hL) hn2 hQ_46 hn7 hb hu46 h_49 hKr46) yy_X12_emit wm_X12_487 (kl hN (by decide)) hu46 rfl rfl rfl rfl (Nat.le_of_ble_eq_true rfl) (by decide) (by decide) ⟨by decide, by decide⟩ dX12_compileFactor_157 (fun w48 hp48 => ?_)
        obtain ⟨⟨u48, hu48, hKr48, hQ_48, hs48⟩, hf48⟩ := hp48
        have h18r48 := hKr48.1
        have h22r48 := hKr48.2.1
        have hrgr48 := hKr48.2.2.1
        have hcbr48 := hKr48.cb
        have h25_48 : u48 25 = 0 := (hs48 25 (by decide)).trans h25_46
        subst hQ
        exact k_vret hC hr ⟨by decide, by decide⟩ (⟨rfl, rfl, ⟨u48, hu48, (by have e : st_47 = (qF V bt n 6 st).1 := (by rw [hqF]; show st_47 = vlS bt n (opS bt n (vlS bt n st)); rw [← est_4, ← hob9]; exact est_47); rw [← e]; exact hKr48), (by have e : st_47 = (qF V bt n 6 st).1 := (by rw [hqF]; show st_47 = vlS bt n (opS bt n (vlS bt n st)); rw [← est_4, ← hob9]; exact est_47); rw [← e]; exact hQ_48.cg (fun q => by rw [hqF]; show _ = L ++ [vlC bt n st, vlC bt n (opS bt n (vlS bt n st)), opM bt n (vlS bt n st)]; rw [← est_4, hop, ← hob9, List.append_assoc, List.append_assoc]; rfl)), h25_48, (uQ.tr (uQ.tr (uQ.tr (uQ.tr (uQ.tr uQ.rf hs3) (uS.q hs40)) (uS.q hs41)) hs46) (uQ.e29 hs48))⟩, fun j hj => (hf48 j (by omega)).trans ((hf46 j (by omega)).trans ((hf41 j (by omega)).trans ((hf40 j (by omega)).trans (hf3 j (by omega)))))⟩) dX12_compileFactor_160
    · have hw40 : isS bt n 40 st := (hz_2.resolve_right (fun q1 => by omega)).2
      have hz0 := hw40.1
      have hzz : st.1 = 0 := by omega
      have hq0 := hK.2.2.2.1 hzz
      have hen := enM_b (bt := bt) hq0.2.2.2
      refine k_aload_n hC dX12_compileFactor_53 rfl 0 rfl ?_
      refine k_muvV hC (c_X12_enter_0 l hls G hN w fl u bt n st L (by omega) hn2 hqc hL h145 h25 hn7 hb hm h144 hK) yy_X12_enter wm_X12_492 (kl hN (by decide)) hm rfl rfl rfl rfl (Nat.le_of_ble_eq_true rfl) (by decide) (by decide) ⟨by decide, by decide⟩ dX12_compileFactor_54 (fun w50 hp50 => ?_)
      obtain ⟨hT50, hf50⟩ := hp50
      obtain ⟨u50, hu50, hKr50, hQ_50, h25_50, hs50⟩ := hT50
      obtain ⟨st_51, est_51⟩ : ∃ z : PS, z = adP bt n st := ⟨_, rfl⟩
      rw [← est_51] at hKr50 hQ_50
      have h18r50 := hKr50.1
      have h22r50 := hKr50.2.1
      have hrgr50 := hKr50.2.2.1
      have hcbr50 := hKr50.cb
      have hzir50 : st_51.1 = 0 := by rw [est_51]; exact ad_c.mpr (by omega)
      have hzzr50 : st_51.1 = 0 := by omega
      have hq0r50 := hKr50.2.2.2.1 hzzr50
      have henr50 := enM_b (bt := bt) hq0r50.2.2.2
      refine k_aload_n hC dX12_compileFactor_57 rfl 0 rfl ?_
      refine k_get hC fd_X12_386 (kl hN (by decide)) hu50 rfl dX12_compileFactor_58 ?_
      refine k_topv (vI 0) (congrArg vI (by omega)) ?_
      refine k_if_ne hC 68 dX12_compileFactor_61 rfl (by omega) (fun c_61 => absurd c_61 (by omega)) (fun c_61 => ?_)
      refine k_aload_n hC dX12_compileFactor_64 rfl 0 rfl ?_
      have h_52 : w50 145 = rA G 6 7 (fun j => some (kadK G (nmI j))) := (hf50 145 (by decide)).trans h145
      have h_53 : w50 144 = iA G 700 bt := (hf50 144 (by decide)).trans h144
      refine k_muvV hC (c_X12_compileTest_5 l hls G hN w50 fl u50 bt n st_51 L V hn2 hQ_50 (by rw [est_51]; exact hl_ad hle0 hL) h_52 h25_50 hn7 hb hu50 h_53 hKr50) yy_X12_compileTest wm_X12_498 (kl hN (by decide)) hu50 rfl rfl rfl rfl (Nat.le_of_ble_eq_true rfl) (by decide) (by decide) ⟨by decide, by decide⟩ dX12_compileFactor_65 (fun w54 hp54 => ?_)
      obtain ⟨hT54, hf54⟩ := hp54
      obtain ⟨u54, hu54, hKr54, hQ_54, h25_54, hs54⟩ := hT54
      obtain ⟨st_55, est_55⟩ : ∃ z : PS, z = (tstM bt n (qF V bt n 5) st_51).1 := ⟨_, rfl⟩
      rw [← est_55] at hKr54 hQ_54
      have h18r54 := hKr54.1
      have h22r54 := hKr54.2.1
      have hrgr54 := hKr54.2.2.1
      have hcbr54 := hKr54.cb
      refine k_aload_n hC dX12_compileFactor_68 rfl 0 rfl ?_
      refine k_bipush hC dX12_compileFactor_69 (by decide) ?_
      have h_57 : w54 144 = iA G 700 bt := (hf54 144 (by decide)).trans h_53
      refine k_muvV hC (c_X12_expect l hls G hN w54 fl u54 bt n st_55 41 (by omega) hn7 hb hu54 h_57 hKr54) yy_X12_expect wm_X12_471 (kl hN (by decide)) hu54 rfl rfl rfl rfl (Nat.le_of_ble_eq_true rfl) (by decide) (by decide) ⟨by decide, by decide⟩ dX12_compileFactor_71 (fun w56 hp56 => ?_)
      obtain ⟨hT56, hf56⟩ := hp56
      obtain ⟨u56, hu56, hKr56, hs56⟩ := hT56
      obtain ⟨st_58, est_58⟩ : ∃ z : PS, z = nsP bt n 41 st_55 := ⟨_, rfl⟩
      rw [← est_58] at hKr56
      have h18r56 := hKr56.1
      have h22r56 := hKr56.2.1
      have hrgr56 := hKr56.2.2.1
      have hcbr56 := hKr56.cb
      have hQ_56 : qcW G w56 u56 st_58 (L ++ (tstM bt n (qF V bt n 5) st_51).2.1) := hQ_54.go (hs56 29 (by omega)) (hf56 146 (by decide)) (fun q => nsok (by rw [← est_58]; exact q))
      have h25_56 : u56 25 = 1 := (hs56 25 (by omega)).trans h25_54
      refine k_aload_n hC dX12_compileFactor_74 rfl 0 rfl ?_
      refine k_dup hC dX12_compileFactor_75 rfl ?_
      refine k_get hC fd_X12_389 (kl hN (by decide)) hu56 rfl dX12_compileFactor_76 ?_
      refine k_topv (vI 1) (congrArg vI (by omega)) ?_
      refine k_iconst hC dX12_compileFactor_79 ?_
      refine k_isub hC dX12_compileFactor_80 ?_
      refine k_topv (vI 0) (congrArg vI (by decide)) ?_
      refine k_put hC fd_X12_389 (kl hN (by decide)) hu56 [.ref (kad G 134), .ref (kad G 135), .ref (kad G 136), .ref (kad G 137), vI (u56 4), vI (u56 5), vI (u56 6), .ref (kad G 138), .ref (kad G 139), .ref (kad G 140), .ref (kad G 141), .ref (kad G 142), vL (u56 12), vL (u56 13), .ref (kad G 143), vI (u56 15), .ref (kad G 144), vI (u56 17), vI (u56 18), vI (u56 19), vI (u56 20), vI (u56 21), vI (u56 22), vI (u56 23), vI (u56 24), vI 0, .ref (kad G 145), .ref (kad G 146), .ref (kad G 147), vI (u56 29)] rfl (Nat.le_of_ble_eq_true rfl) rfl rfl dX12_compileFactor_81 (fun w59 hw59 hf59 => ?_)
      have hKp60 : mkR (kup u56 25 0) bt n st_58 := hKr56.kup25
      have hQ_60 : qcW G w59 (kup u56 25 0) st_58 (L ++ (tstM bt n (qF V bt n 5) st_51).2.1) := hQ_56.go rfl (hf59 146 (by decide)) (fun q => q)
      have h25_60 : (kup u56 25 0) 25 = 0 := rfl
      have h18p60 := hKp60.1
      have h22p60 := hKp60.2.1
      have hrgp60 := hKp60.2.2.1
      have hcbp60 := hKp60.cb
      refine k_goto hC 160 dX12_compileFactor_84 rfl ?_
      subst hQ
      exact k_vret hC hr ⟨by decide, by decide⟩ (⟨rfl, rfl, ⟨(kup u56 25 0), hw59, (by have e : st_58 = (qF V bt n 6 st).1 := (by rw [qF_p hw31 hw40]; show st_58 = nsP bt n 41 (tstM bt n (qF V bt n 5) (adP bt n st)).1; rw [← est_51, ← est_55]; exact est_58); rw [← e]; exact hKp60), (by have e : st_58 = (qF V bt n 6 st).1 := (by rw [qF_p hw31 hw40]; show st_58 = nsP bt n 41 (tstM bt n (qF V bt n 5) (adP bt n st)).1; rw [← est_51, ← est_55]; exact est_58); rw [← e]; exact hQ_60.cg (fun q => by rw [qF_p hw31 hw40, ← est_51]; rfl)), h25_60, (uQ.tr (uQ.tr (uQ.tr (uQ.tr uQ.rf hs50) hs54) (uS.q hs56)) uQ.put25)⟩, fun j hj => (hf59 j (by omega)).trans ((hf56 j (by omega)).trans ((hf54 j (by omega)).trans (hf50 j (by omega))))⟩) dX12_compileFactor_160
  · have hw31 : isW bt n 31 st := (hz_1.resolve_right (fun q1 => by omega)).2
    have hz0 := hw31.1
    have hzz : st.1 = 0 := by omega
    have hq0 := hK.2.2.2.1 hzz
    have hen := enM_b (bt := bt) hq0.2.2.2
    refine k_aload_n hC dX12_compileFactor_10 rfl 0 rfl ?_
    refine k_muvV hC (c_X12_enter_0 l hls G hN w fl u bt n st L (by omega) hn2 hqc hL h145 h25 hn7 hb hm h144 hK) yy_X12_enter wm_X12_492 (kl hN (by decide)) hm rfl rfl rfl rfl (Nat.le_of_ble_eq_true rfl) (by decide) (by decide) ⟨by decide, by decide⟩ dX12_compileFactor_11 (fun w61 hp61 => ?_)
    obtain ⟨hT61, hf61⟩ := hp61
    obtain ⟨u61, hu61, hKr61, hQ_61, h25_61, hs61⟩ := hT61
    obtain ⟨st_62, est_62⟩ : ∃ z : PS, z = adP bt n st := ⟨_, rfl⟩
    rw [← est_62] at hKr61 hQ_61
    have h18r61 := hKr61.1
    have h22r61 := hKr61.2.1
    have hrgr61 := hKr61.2.2.1
    have hcbr61 := hKr61.cb
    have hzir61 : st_62.1 = 0 := by rw [est_62]; exact ad_c.mpr (by omega)
    have hzzr61 : st_62.1 = 0 := by omega
    have hq0r61 := hKr61.2.2.2.1 hzzr61
    have henr61 := enM_b (bt := bt) hq0r61.2.2.2
    refine k_aload_n hC dX12_compileFactor_14 rfl 0 rfl ?_
    refine k_get hC fd_X12_386 (kl hN (by decide)) hu61 rfl dX12_compileFactor_15 ?_
    refine k_topv (vI 0) (congrArg vI (by omega)) ?_
    refine k_if_ne hC 25 dX12_compileFactor_18 rfl (by omega) (fun c_18 => absurd c_18 (by omega)) (fun c_18 => ?_)
    refine k_aload_n hC dX12_compileFactor_21 rfl 0 rfl ?_
    have h_63 : w61 145 = rA G 6 7 (fun j => some (kadK G (nmI j))) := (hf61 145 (by decide)).trans h145
    have h_64 : w61 144 = iA G 700 bt := (hf61 144 (by decide)).trans h144
    refine k_muvV hC (c_X12_compileFactor_5 l hls G hN w61 fl u61 bt n st_62 L V hn2 hQ_61 (by rw [est_62]; exact hl_ad hle0 hL) h_63 h25_61 hn7 hb hu61 h_64 hKr61) yy_X12_compileFactor wm_X12_495 (kl hN (by decide)) hu61 rfl rfl rfl rfl (Nat.le_of_ble_eq_true rfl) (by decide) (by decide) ⟨by decide, by decide⟩ dX12_compileFactor_22 (fun w65 hp65 => ?_)
    obtain ⟨hT65, hf65⟩ := hp65
    obtain ⟨u65, hu65, hKr65, hQ_65, h25_65, hs65⟩ := hT65
    obtain ⟨st_66, est_66⟩ : ∃ z : PS, z = (qF V bt n 5 st_62).1 := ⟨_, rfl⟩
    rw [← est_66] at hKr65 hQ_65
    have h18r65 := hKr65.1
    have h22r65 := hKr65.2.1
    have hrgr65 := hKr65.2.2.1
    have hcbr65 := hKr65.cb
    refine k_aload_n hC dX12_compileFactor_25 rfl 0 rfl ?_
    refine k_bipush hC dX12_compileFactor_26 (by decide) ?_
    have h_68 : w65 144 = iA G 700 bt := (hf65 144 (by decide)).trans h_64
    refine k_muvV hC (c_X12_emit l hls G hN w65 fl u65 bt n st_66 (L ++ (qF V bt n 5 st_62).2.1) (-23) (by rw [est_66]; rw [est_62]; exact lt_not hn2 hle0 hL (isW_go hw31) (gq_qF 5 _)) hn2 hQ_65 hn7 hb hu65 h_68 hKr65) yy_X12_emit wm_X12_487 (kl hN (by decide)) hu65 rfl rfl rfl rfl (Nat.le_of_ble_eq_true rfl) (by decide) (by decide) ⟨by decide, by decide⟩ dX12_compileFactor_28 (fun w67 hp67 => ?_)
    obtain ⟨⟨u67, hu67, hKr67, hQ_67, hs67⟩, hf67⟩ := hp67
    have h18r67 := hKr67.1
    have h22r67 := hKr67.2.1
    have hrgr67 := hKr67.2.2.1
    have hcbr67 := hKr67.cb
    have h25_67 : u67 25 = 1 := (hs67 25 (by decide)).trans h25_65
    refine k_aload_n hC dX12_compileFactor_31 rfl 0 rfl ?_
    refine k_dup hC dX12_compileFactor_32 rfl ?_
    refine k_get hC fd_X12_389 (kl hN (by decide)) hu67 rfl dX12_compileFactor_33 ?_
    refine k_topv (vI 1) (congrArg vI (by omega)) ?_
    refine k_iconst hC dX12_compileFactor_36 ?_
    refine k_isub hC dX12_compileFactor_37 ?_
    refine k_topv (vI 0) (congrArg vI (by decide)) ?_
    refine k_put hC fd_X12_389 (kl hN (by decide)) hu67 [.ref (kad G 134), .ref (kad G 135), .ref (kad G 136), .ref (kad G 137), vI (u67 4), vI (u67 5), vI (u67 6), .ref (kad G 138), .ref (kad G 139), .ref (kad G 140), .ref (kad G 141), .ref (kad G 142), vL (u67 12), vL (u67 13), .ref (kad G 143), vI (u67 15), .ref (kad G 144), vI (u67 17), vI (u67 18), vI (u67 19), vI (u67 20), vI (u67 21), vI (u67 22), vI (u67 23), vI (u67 24), vI 0, .ref (kad G 145), .ref (kad G 146), .ref (kad G 147), vI (u67 29)] rfl (Nat.le_of_ble_eq_true rfl) rfl rfl dX12_compileFactor_38 (fun w69 hw69 hf69 => ?_)
    have hKp70 : mkR (kup u67 25 0) bt n st_66 := hKr67.kup25
    have hQ_70 : qcW G w69 (kup u67 25 0) st_66 (L ++ (qF V bt n 5 st_62).2.1 ++ [-23]) := hQ_67.go rfl (hf69 146 (by decide)) (fun q => q)
    have h25_70 : (kup u67 25 0) 25 = 0 := rfl
    have h18p70 := hKp70.1
    have h22p70 := hKp70.2.1
    have hrgp70 := hKp70.2.2.1
    have hcbp70 := hKp70.cb
    refine k_goto hC 160 dX12_compileFactor_41 rfl ?_
    subst hQ
    exact k_vret hC hr ⟨by decide, by decide⟩ (⟨rfl, rfl, ⟨(kup u67 25 0), hw69, (by have e : st_66 = (qF V bt n 6 st).1 := (by rw [qF_n hw31]; show st_66 = (qF V bt n 5 (adP bt n st)).1; rw [← est_62]; exact est_66); rw [← e]; exact hKp70), (by have e : st_66 = (qF V bt n 6 st).1 := (by rw [qF_n hw31]; show st_66 = (qF V bt n 5 (adP bt n st)).1; rw [← est_62]; exact est_66); rw [← e]; exact hQ_70.cg (fun q => by rw [qF_n hw31, ← est_62]; show _ = L ++ ((qF V bt n 5 st_62).2.1 ++ [-23]); rw [List.append_assoc])), h25_70, (uQ.tr (uQ.tr (uQ.tr (uQ.tr uQ.rf hs61) hs65) (uQ.e29 hs67)) uQ.put25)⟩, fun j hj => (hf69 j (by omega)).trans ((hf67 j (by omega)).trans ((hf65 j (by omega)).trans (hf61 j (by omega))))⟩) dX12_compileFactor_160

set_option maxRecDepth 100000 in
set_option maxHeartbeats 4000000 in
theorem c_X12_compileConjunction_6 (l : Launch) (hls : l.stackTraces = false) (G : kG) (hN : kN G = 150) (w : Nat → va_E) (fl : va_W) (u bt : Nat → Int) (n : Nat) (st : PS) (L : List Int) (V : Int → Nat → Int) (hn2 : n ≤ 200) (hqc : qcW G w u st L) (hL : st.1 = 0 → L.length ≤ st.2.2) (h145 : w 145 = nmA G) (h25 : u 25 = 0) (hn7 : n ≤ 700) (hb : btOK bt) (hm : w 133 = mdO G u) (h144 : w 144 = iA G 700 bt) (hK : mkR u bt n st) : KM l G yX12_compileConjunction cX12_compileConjunction 1 (none) 25 0 0 [.ref (kad G 133)] w fl (kMuv fl (fun w1 => (∃ u1, w1 133 = mdO G u1 ∧ mkR u1 bt n ((conM bt n (qF V bt n 6) st).1) ∧ qcW G w1 u1 ((conM bt n (qF V bt n 6) st).1) (L ++ (conM bt n (qF V bt n 6) st).2.1) ∧ u1 25 = 0 ∧ uQ u u1) ∧ ∀ j, (j ≠ 133 ∧ j ≠ 146) → w1 j = w j)) := by
  refine KM_of2 hls (by decide +kernel) rfl (lv0 := [(0, .ref (kad G 133))]) rfl (Nat.le_of_ble_eq_true rfl) (fun p e R s m args below meth c Q hC hr hQ => ?_)
  have h18 := hK.1
  have h22 := hK.2.1
  have hrg := hK.2.2.1
  have hcb := hK.cb
  have hk0 := hK.2.2.2.1
  have hk1 := hK.2.2.2.2.1
  have hdg := hK.2.2.2.2.2
  have hle0 := hK.le
  refine k_aload_n hC dX12_compileConjunction_0 rfl 0 rfl ?_
  refine k_muvV hC (c_X12_compileFactor_6 l hls G hN w fl u bt n st L V hn2 hqc hL h145 h25 hn7 hb hm h144 hK) yy_X12_compileFactor wm_X12_495 (kl hN (by decide)) hm rfl rfl rfl rfl (Nat.le_of_ble_eq_true rfl) (by decide) (by decide) ⟨by decide, by decide⟩ dX12_compileConjunction_1 (fun w1 hp1 => ?_)
  obtain ⟨hT1, hf1⟩ := hp1
  obtain ⟨u1, hu1, hKr1, hQ_1, h25_1, hs1⟩ := hT1
  obtain ⟨st_2, est_2⟩ : ∃ z : PS, z = (qF V bt n 6 st).1 := ⟨_, rfl⟩
  rw [← est_2] at hKr1 hQ_1
  have h18r1 := hKr1.1
  have h22r1 := hKr1.2.1
  have hrgr1 := hKr1.2.2.1
  have hcbr1 := hKr1.cb
  have loopw : ∀ (nw : Nat) (k : Nat) (rr : QR) (st9 : PS) (u1 : Nat → Int) (wvw : Nat → va_E), (n < nw + k) → (k ≤ n) → (rr = cjN bt n 37 (-24) (qF V bt n 6) k (qF V bt n 6 st)) → (st9 = rr.1) → (mkR u1 bt n st9) → (qcW G wvw u1 st9 (L ++ rr.2.1)) → (u1 25 = 0) → (uQ u u1) → (wvw 133 = .inr (12, [.ref (kad G 134), .ref (kad G 135), .ref (kad G 136), .ref (kad G 137), vI (u1 4), vI (u1 5), vI (u1 6), .ref (kad G 138), .ref (kad G 139), .ref (kad G 140), .ref (kad G 141), .ref (kad G 142), vL (u1 12), vL (u1 13), .ref (kad G 143), vI (u1 15), .ref (kad G 144), vI (u1 17), vI (u1 18), vI (u1 19), vI (u1 20), vI (u1 21), vI (u1 22), vI (u1 23), vI (u1 24), vI (u1 25), .ref (kad G 145), .ref (kad G 146), .ref (kad G 147), vI (u1 29)])) → (wvw 144 = iA G 700 bt) → (wvw 145 = rA G 6 7 (fun j => some (kadK G (nmI j)))) → ((∀ j, (j ≠ 133 ∧ j ≠ 146) → wvw j = w j)) → KW p l e R s m args below meth c 1 G Q wvw fl 0 0 4 [(0, .ref (kad G 133))] [] := by
    intro nw
    induction nw with
    | zero =>
      intro k rr st9 u1 wvw hn_w hk9 hx hst9 hKv hqv h25v husv hm1 h144 h145 hfrw
      exact absurd hn_w (by omega)
    | succ nw ihw =>
      intro k rr st9 u1 wvw hn_w hk9 hx hst9 hKv hqv h25v husv hm1 h144 h145 hfrw
      have h18v := hKv.1
      have h22v := hKv.2.1
      have hrgv := hKv.2.2.1
      have hcbv := hKv.cb
      have hgq : gq V n st rr := by rw [hx]; exact gq_cjN (Or.inl rfl) (gq_qF 6) k _ (gq_qF 6 st)
      refine k_aload_n hC dX12_compileConjunction_4 rfl 0 rfl ?_
      refine k_ldcsw hC (List.mem_of_getElem? (i := 56) rfl) dX12_compileConjunction_5 ?_
      refine k_mutV hC (c_X12_accept l hls G hN wvw fl u1 bt n st9 37 (by decide) hn7 hb hm1 h144 hKv) yy_X12_accept wm_X12_447 (kl hN (by decide)) hm1 rfl rfl rfl rfl (Nat.le_of_ble_eq_true rfl) (by decide) (by decide) ⟨by decide, by decide⟩ dX12_compileConjunction_8 (fun w3 hp3 => ?_)
      obtain ⟨hT3, hf3⟩ := hp3
      by_cases hw_3 : isW bt n 37 st9
      · rw [selP_1 hw_3] at hT3
        refine k_topv (vI 1) (congrArg vI (selI_1 hw_3)) ?_
        have hwz_3 := hw_3.1
        obtain ⟨u3, hu3, hKr3, hs3⟩ := hT3
        obtain ⟨st_4, est_4⟩ : ∃ z : PS, z = adP bt n st9 := ⟨_, rfl⟩
        rw [← est_4] at hKr3
        have h18r3 := hKr3.1
        have h22r3 := hKr3.2.1
        have hrgr3 := hKr3.2.2.1
        have hcbr3 := hKr3.cb
        have hzir3 : st_4.1 = 0 := by rw [est_4]; exact ad_c.mpr (by omega)
        have hzzr3 : st_4.1 = 0 := by omega
        have hq0r3 := hKr3.2.2.2.1 hzzr3
        have henr3 := enM_b (bt := bt) hq0r3.2.2.2
        have hQ_3 : qcW G w3 u3 st_4 (L ++ rr.2.1) := hqv.go (hs3 29 (by omega)) (hf3 146 (by decide)) (fun q => ad_c.mp (by rw [← est_4]; exact q))
        have h25_3 : u3 25 = 0 := (hs3 25 (by omega)).trans h25v
        refine k_if_eq hC 27 dX12_compileConjunction_11 rfl (by omega) (fun c_11 => absurd c_11 (by omega)) (fun c_11 => ?_)
        refine k_aload_n hC dX12_compileConjunction_14 rfl 0 rfl ?_
        have h_5 : w3 145 = rA G 6 7 (fun j => some (kadK G (nmI j))) := (hf3 145 (by decide)).trans h145
        have h_6 : w3 144 = iA G 700 bt := (hf3 144 (by decide)).trans h144
        refine k_muvV hC (c_X12_compileFactor_6 l hls G hN w3 fl u3 bt n st_4 (L ++ rr.2.1) V hn2 hQ_3 (by rw [est_4]; exact hl_ad hKv.le (by rw [hst9]; exact hl_gq hle0 hL hgq)) h_5 h25_3 hn7 hb hu3 h_6 hKr3) yy_X12_compileFactor wm_X12_495 (kl hN (by decide)) hu3 rfl rfl rfl rfl (Nat.le_of_ble_eq_true rfl) (by decide) (by decide) ⟨by decide, by decide⟩ dX12_compileConjunction_15 (fun w7 hp7 => ?_)
        obtain ⟨hT7, hf7⟩ := hp7
        obtain ⟨u7, hu7, hKr7, hQ_7, h25_7, hs7⟩ := hT7
        obtain ⟨st_8, est_8⟩ : ∃ z : PS, z = (qF V bt n 6 st_4).1 := ⟨_, rfl⟩
        rw [← est_8] at hKr7 hQ_7
        have h18r7 := hKr7.1
        have h22r7 := hKr7.2.1
        have hrgr7 := hKr7.2.2.1
        have hcbr7 := hKr7.cb
        have hwr : isW bt n 37 rr.1 := by rw [← hst9]; exact hw_3
        refine k_aload_n hC dX12_compileConjunction_18 rfl 0 rfl ?_
        refine k_bipush hC dX12_compileConjunction_19 (by decide) ?_
        have h_10 : w7 144 = iA G 700 bt := (hf7 144 (by decide)).trans h_6
        refine k_muvV hC (c_X12_emit l hls G hN w7 fl u7 bt n st_8 (L ++ rr.2.1 ++ (qF V bt n 6 st_4).2.1) (-24) (by rw [est_8, est_4, hst9]; exact lt_and (V := V) (Or.inl rfl) hn2 hle0 hL (isW_go hwr) hgq (gq_qF 6 _)) hn2 hQ_7 hn7 hb hu7 h_10 hKr7) yy_X12_emit wm_X12_487 (kl hN (by decide)) hu7 rfl rfl rfl rfl (Nat.le_of_ble_eq_true rfl) (by decide) (by decide) ⟨by decide, by decide⟩ dX12_compileConjunction_21 (fun w9 hp9 => ?_)
        obtain ⟨⟨u9, hu9, hKr9, hQ_9, hs9⟩, hf9⟩ := hp9
        have h18r9 := hKr9.1
        have h22r9 := hKr9.2.1
        have hrgr9 := hKr9.2.2.1
        have hcbr9 := hKr9.cb
        have h25_9 : u9 25 = 0 := (hs9 25 (by decide)).trans h25_7
        refine k_goto hC 4 dX12_compileConjunction_24 rfl ?_
        have h_11 : w9 144 = iA G 700 bt := (hf9 144 (by decide)).trans h_10
        have h_12 : w9 145 = rA G 6 7 (fun j => some (kadK G (nmI j))) := (hf9 145 (by decide)).trans ((hf7 145 (by decide)).trans h_5)
        exact ihw (k + 1) (and2 (-24) rr (qF V bt n 6 st_4)) st_8 u9 w9 (by omega) (by have h8 := cjN_pos hle0 (Or.inl rfl) (gq_qF 6) k _ (gq_qF 6 st) (by rw [← hx]; exact hwr); rw [← hx] at h8; have h9 := enM_lt9 (bt := bt) (n := n) (s := rr.1.2.2) (by rw [hwr.2.1]; decide); omega) (by rw [cjN_go k _ (by rw [← hx]; exact hwr), ← hx, est_4, hst9]) est_8 hKr9 (hQ_9.cg (fun _ => by show _ = L ++ (rr.2.1 ++ (qF V bt n 6 st_4).2.1 ++ [-24]); simp only [List.append_assoc])) h25_9 (uQ.tr (uQ.tr (uQ.tr husv (uS.q hs3)) hs7) (uQ.e29 hs9)) hu9 h_11 h_12 (fun j hj => (hf9 j (by omega)).trans ((hf7 j (by omega)).trans ((hf3 j (by omega)).trans (hfrw j (by omega)))))
      · rw [selP_0 hw_3] at hT3
        refine k_topv (vI 0) (congrArg vI (selI_0 hw_3)) ?_
        obtain ⟨u3, hu3, hKr3, hs3⟩ := hT3
        have h18r3 := hKr3.1
        have h22r3 := hKr3.2.1
        have hrgr3 := hKr3.2.2.1
        have hcbr3 := hKr3.cb
        have hQ_3 : qcW G w3 u3 st9 (L ++ rr.2.1) := hqv.go (hs3 29 (by omega)) (hf3 146 (by decide)) (fun q => q)
        have h25_3 : u3 25 = 0 := (hs3 25 (by omega)).trans h25v
        refine k_if_eq hC 27 dX12_compileConjunction_11 rfl (by omega) (fun c_11 => ?_) (fun c_11 => absurd c_11 (by omega))
        have hfin : rr = conM bt n (qF V bt n 6) st := by rw [hx]; exact cjN_eq (by rw [← hx, ← hst9]; exact hw_3) (cjN_end hn2 hle0 (Or.inl rfl) (gq_qF 6) (gq_qF 6 st))
        subst hQ
        exact k_vret hC hr ⟨by decide, by decide⟩ (⟨rfl, rfl, ⟨u3, hu3, (by have e : st9 = (conM bt n (qF V bt n 6) st).1 := (by rw [← hfin]; exact hst9); rw [← e]; exact hKr3), (by have e : st9 = (conM bt n (qF V bt n 6) st).1 := (by rw [← hfin]; exact hst9); rw [← e]; exact hQ_3.cg (fun q => by rw [← hfin])), h25_3, (uQ.tr husv (uS.q hs3))⟩, fun j hj => (hf3 j (by omega)).trans (hfrw j (by omega))⟩) dX12_compileConjunction_27
  have h_13 : w1 144 = iA G 700 bt := (hf1 144 (by decide)).trans h144
  have h_14 : w1 145 = rA G 6 7 (fun j => some (kadK G (nmI j))) := (hf1 145 (by decide)).trans h145
  exact loopw (n + 1) 0 (qF V bt n 6 st) st_2 u1 w1 (by omega) (by omega) rfl est_2 hKr1 hQ_1 h25_1 (uQ.tr uQ.rf hs1) hu1 h_13 h_14 (fun j hj => hf1 j (by omega))

set_option maxRecDepth 100000 in
set_option maxHeartbeats 4000000 in
theorem c_X12_compileTest_6 (l : Launch) (hls : l.stackTraces = false) (G : kG) (hN : kN G = 150) (w : Nat → va_E) (fl : va_W) (u bt : Nat → Int) (n : Nat) (st : PS) (L : List Int) (V : Int → Nat → Int) (hn2 : n ≤ 200) (hqc : qcW G w u st L) (hL : st.1 = 0 → L.length ≤ st.2.2) (h145 : w 145 = nmA G) (h25 : u 25 = 0) (hn7 : n ≤ 700) (hb : btOK bt) (hm : w 133 = mdO G u) (h144 : w 144 = iA G 700 bt) (hK : mkR u bt n st) : KM l G yX12_compileTest cX12_compileTest 1 (none) 26 0 0 [.ref (kad G 133)] w fl (kMuv fl (fun w1 => (∃ u1, w1 133 = mdO G u1 ∧ mkR u1 bt n ((tstM bt n (qF V bt n 6) st).1) ∧ qcW G w1 u1 ((tstM bt n (qF V bt n 6) st).1) (L ++ (tstM bt n (qF V bt n 6) st).2.1) ∧ u1 25 = 0 ∧ uQ u u1) ∧ ∀ j, (j ≠ 133 ∧ j ≠ 146) → w1 j = w j)) := by
  refine KM_of2 hls (by decide +kernel) rfl (lv0 := [(0, .ref (kad G 133))]) rfl (Nat.le_of_ble_eq_true rfl) (fun p e R s m args below meth c Q hC hr hQ => ?_)
  have h18 := hK.1
  have h22 := hK.2.1
  have hrg := hK.2.2.1
  have hcb := hK.cb
  have hk0 := hK.2.2.2.1
  have hk1 := hK.2.2.2.2.1
  have hdg := hK.2.2.2.2.2
  have hle0 := hK.le
  refine k_aload_n hC dX12_compileTest_0 rfl 0 rfl ?_
  refine k_muvV hC (c_X12_compileConjunction_6 l hls G hN w fl u bt n st L V hn2 hqc hL h145 h25 hn7 hb hm h144 hK) yy_X12_compileConjunction wm_X12_506 (kl hN (by decide)) hm rfl rfl rfl rfl (Nat.le_of_ble_eq_true rfl) (by decide) (by decide) ⟨by decide, by decide⟩ dX12_compileTest_1 (fun w1 hp1 => ?_)
  obtain ⟨hT1, hf1⟩ := hp1
  obtain ⟨u1, hu1, hKr1, hQ_1, h25_1, hs1⟩ := hT1
  obtain ⟨st_2, est_2⟩ : ∃ z : PS, z = (conM bt n (qF V bt n 6) st).1 := ⟨_, rfl⟩
  rw [← est_2] at hKr1 hQ_1
  have h18r1 := hKr1.1
  have h22r1 := hKr1.2.1
  have hrgr1 := hKr1.2.2.1
  have hcbr1 := hKr1.cb
  have loopw : ∀ (nw : Nat) (k : Nat) (rr : QR) (st9 : PS) (u1 : Nat → Int) (wvw : Nat → va_E), (n < nw + k) → (k ≤ n) → (rr = cjN bt n 38 (-25) (conM bt n (qF V bt n 6)) k (conM bt n (qF V bt n 6) st)) → (st9 = rr.1) → (mkR u1 bt n st9) → (qcW G wvw u1 st9 (L ++ rr.2.1)) → (u1 25 = 0) → (uQ u u1) → (wvw 133 = .inr (12, [.ref (kad G 134), .ref (kad G 135), .ref (kad G 136), .ref (kad G 137), vI (u1 4), vI (u1 5), vI (u1 6), .ref (kad G 138), .ref (kad G 139), .ref (kad G 140), .ref (kad G 141), .ref (kad G 142), vL (u1 12), vL (u1 13), .ref (kad G 143), vI (u1 15), .ref (kad G 144), vI (u1 17), vI (u1 18), vI (u1 19), vI (u1 20), vI (u1 21), vI (u1 22), vI (u1 23), vI (u1 24), vI (u1 25), .ref (kad G 145), .ref (kad G 146), .ref (kad G 147), vI (u1 29)])) → (wvw 144 = iA G 700 bt) → (wvw 145 = rA G 6 7 (fun j => some (kadK G (nmI j)))) → ((∀ j, (j ≠ 133 ∧ j ≠ 146) → wvw j = w j)) → KW p l e R s m args below meth c 1 G Q wvw fl 0 0 4 [(0, .ref (kad G 133))] [] := by
    intro nw
    induction nw with
    | zero =>
      intro k rr st9 u1 wvw hn_w hk9 hx hst9 hKv hqv h25v husv hm1 h144 h145 hfrw
      exact absurd hn_w (by omega)
    | succ nw ihw =>
      intro k rr st9 u1 wvw hn_w hk9 hx hst9 hKv hqv h25v husv hm1 h144 h145 hfrw
      have h18v := hKv.1
      have h22v := hKv.2.1
      have hrgv := hKv.2.2.1
      have hcbv := hKv.cb
      have hgq : gq V n st rr := by rw [hx]; exact gq_cjN (Or.inr rfl) (gq_con (gq_qF 6)) k _ (gq_con (gq_qF 6) st)
      refine k_aload_n hC dX12_compileTest_4 rfl 0 rfl ?_
      refine k_ldcsw hC (List.mem_of_getElem? (i := 57) rfl) dX12_compileTest_5 ?_
      refine k_mutV hC (c_X12_accept l hls G hN wvw fl u1 bt n st9 38 (by decide) hn7 hb hm1 h144 hKv) yy_X12_accept wm_X12_447 (kl hN (by decide)) hm1 rfl rfl rfl rfl (Nat.le_of_ble_eq_true rfl) (by decide) (by decide) ⟨by decide, by decide⟩ dX12_compileTest_8 (fun w3 hp3 => ?_)
      obtain ⟨hT3, hf3⟩ := hp3
      by_cases hw_3 : isW bt n 38 st9
      · rw [selP_1 hw_3] at hT3
        refine k_topv (vI 1) (congrArg vI (selI_1 hw_3)) ?_
        have hwz_3 := hw_3.1
        obtain ⟨u3, hu3, hKr3, hs3⟩ := hT3
        obtain ⟨st_4, est_4⟩ : ∃ z : PS, z = adP bt n st9 := ⟨_, rfl⟩
        rw [← est_4] at hKr3
        have h18r3 := hKr3.1
        have h22r3 := hKr3.2.1
        have hrgr3 := hKr3.2.2.1
        have hcbr3 := hKr3.cb
        have hzir3 : st_4.1 = 0 := by rw [est_4]; exact ad_c.mpr (by omega)
        have hzzr3 : st_4.1 = 0 := by omega
        have hq0r3 := hKr3.2.2.2.1 hzzr3
        have henr3 := enM_b (bt := bt) hq0r3.2.2.2
        have hQ_3 : qcW G w3 u3 st_4 (L ++ rr.2.1) := hqv.go (hs3 29 (by omega)) (hf3 146 (by decide)) (fun q => ad_c.mp (by rw [← est_4]; exact q))
        have h25_3 : u3 25 = 0 := (hs3 25 (by omega)).trans h25v
        refine k_if_eq hC 27 dX12_compileTest_11 rfl (by omega) (fun c_11 => absurd c_11 (by omega)) (fun c_11 => ?_)
        refine k_aload_n hC dX12_compileTest_14 rfl 0 rfl ?_
        have h_5 : w3 145 = rA G 6 7 (fun j => some (kadK G (nmI j))) := (hf3 145 (by decide)).trans h145
        have h_6 : w3 144 = iA G 700 bt := (hf3 144 (by decide)).trans h144
        refine k_muvV hC (c_X12_compileConjunction_6 l hls G hN w3 fl u3 bt n st_4 (L ++ rr.2.1) V hn2 hQ_3 (by rw [est_4]; exact hl_ad hKv.le (by rw [hst9]; exact hl_gq hle0 hL hgq)) h_5 h25_3 hn7 hb hu3 h_6 hKr3) yy_X12_compileConjunction wm_X12_506 (kl hN (by decide)) hu3 rfl rfl rfl rfl (Nat.le_of_ble_eq_true rfl) (by decide) (by decide) ⟨by decide, by decide⟩ dX12_compileTest_15 (fun w7 hp7 => ?_)
        obtain ⟨hT7, hf7⟩ := hp7
        obtain ⟨u7, hu7, hKr7, hQ_7, h25_7, hs7⟩ := hT7
        obtain ⟨st_8, est_8⟩ : ∃ z : PS, z = (conM bt n (qF V bt n 6) st_4).1 := ⟨_, rfl⟩
        rw [← est_8] at hKr7 hQ_7
        have h18r7 := hKr7.1
        have h22r7 := hKr7.2.1
        have hrgr7 := hKr7.2.2.1
        have hcbr7 := hKr7.cb
        have hwr : isW bt n 38 rr.1 := by rw [← hst9]; exact hw_3
        refine k_aload_n hC dX12_compileTest_18 rfl 0 rfl ?_
        refine k_bipush hC dX12_compileTest_19 (by decide) ?_
        have h_10 : w7 144 = iA G 700 bt := (hf7 144 (by decide)).trans h_6
        refine k_muvV hC (c_X12_emit l hls G hN w7 fl u7 bt n st_8 (L ++ rr.2.1 ++ (conM bt n (qF V bt n 6) st_4).2.1) (-25) (by rw [est_8, est_4, hst9]; exact lt_and (V := V) (Or.inr rfl) hn2 hle0 hL (isW_go hwr) hgq (gq_con (gq_qF 6) _)) hn2 hQ_7 hn7 hb hu7 h_10 hKr7) yy_X12_emit wm_X12_487 (kl hN (by decide)) hu7 rfl rfl rfl rfl (Nat.le_of_ble_eq_true rfl) (by decide) (by decide) ⟨by decide, by decide⟩ dX12_compileTest_21 (fun w9 hp9 => ?_)
        obtain ⟨⟨u9, hu9, hKr9, hQ_9, hs9⟩, hf9⟩ := hp9
        have h18r9 := hKr9.1
        have h22r9 := hKr9.2.1
        have hrgr9 := hKr9.2.2.1
        have hcbr9 := hKr9.cb
        have h25_9 : u9 25 = 0 := (hs9 25 (by decide)).trans h25_7
        refine k_goto hC 4 dX12_compileTest_24 rfl ?_
        have h_11 : w9 144 = iA G 700 bt := (hf9 144 (by decide)).trans h_10
        have h_12 : w9 145 = rA G 6 7 (fun j => some (kadK G (nmI j))) := (hf9 145 (by decide)).trans ((hf7 145 (by decide)).trans h_5)
        exact ihw (k + 1) (and2 (-25) rr (conM bt n (qF V bt n 6) st_4)) st_8 u9 w9 (by omega) (by have h8 := cjN_pos hle0 (Or.inr rfl) (gq_con (gq_qF 6)) k _ (gq_con (gq_qF 6) st) (by rw [← hx]; exact hwr); rw [← hx] at h8; have h9 := enM_lt9 (bt := bt) (n := n) (s := rr.1.2.2) (by rw [hwr.2.1]; decide); omega) (by rw [cjN_go k _ (by rw [← hx]; exact hwr), ← hx, est_4, hst9]) est_8 hKr9 (hQ_9.cg (fun _ => by show _ = L ++ (rr.2.1 ++ (conM bt n (qF V bt n 6) st_4).2.1 ++ [-25]); simp only [List.append_assoc])) h25_9 (uQ.tr (uQ.tr (uQ.tr husv (uS.q hs3)) hs7) (uQ.e29 hs9)) hu9 h_11 h_12 (fun j hj => (hf9 j (by omega)).trans ((hf7 j (by omega)).trans ((hf3 j (by omega)).trans (hfrw j (by omega)))))
      · rw [selP_0 hw_3] at hT3
        refine k_topv (vI 0) (congrArg vI (selI_0 hw_3)) ?_
        obtain ⟨u3, hu3, hKr3, hs3⟩ := hT3
        have h18r3 := hKr3.1
        have h22r3 := hKr3.2.1
        have hrgr3 := hKr3.2.2.1
        have hcbr3 := hKr3.cb
        have hQ_3 : qcW G w3 u3 st9 (L ++ rr.2.1) := hqv.go (hs3 29 (by omega)) (hf3 146 (by decide)) (fun q => q)
        have h25_3 : u3 25 = 0 := (hs3 25 (by omega)).trans h25v
        refine k_if_eq hC 27 dX12_compileTest_11 rfl (by omega) (fun c_11 => ?_) (fun c_11 => absurd c_11 (by omega))
        have hfin : rr = tstM bt n (qF V bt n 6) st := by rw [hx]; exact cjN_eq (by rw [← hx, ← hst9]; exact hw_3) (cjN_end hn2 hle0 (Or.inr rfl) (gq_con (gq_qF 6)) (gq_con (gq_qF 6) st))
        subst hQ
        exact k_vret hC hr ⟨by decide, by decide⟩ (⟨rfl, rfl, ⟨u3, hu3, (by have e : st9 = (tstM bt n (qF V bt n 6) st).1 := (by rw [← hfin]; exact hst9); rw [← e]; exact hKr3), (by have e : st9 = (tstM bt n (qF V bt n 6) st).1 := (by rw [← hfin]; exact hst9); rw [← e]; exact hQ_3.cg (fun q => by rw [← hfin])), h25_3, (uQ.tr husv (uS.q hs3))⟩, fun j hj => (hf3 j (by omega)).trans (hfrw j (by omega))⟩) dX12_compileTest_27
  have h_13 : w1 144 = iA G 700 bt := (hf1 144 (by decide)).trans h144
  have h_14 : w1 145 = rA G 6 7 (fun j => some (kadK G (nmI j))) := (hf1 145 (by decide)).trans h145
  exact loopw (n + 1) 0 (conM bt n (qF V bt n 6) st) st_2 u1 w1 (by omega) (by omega) rfl est_2 hKr1 hQ_1 h25_1 (uQ.tr uQ.rf hs1) hu1 h_13 h_14 (fun j hj => hf1 j (by omega))

