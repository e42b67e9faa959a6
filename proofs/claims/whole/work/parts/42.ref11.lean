def uQ (u u1 : Nat → Int) : Prop := ∀ j, (j < 19 ∨ (23 < j ∧ j ≠ 29 ∧ j ≠ 25)) → u1 j = u j
theorem uQ.rf {u : Nat → Int} : uQ u u := fun _ _ => rfl
theorem uQ.tr {u u1 u2 : Nat → Int} (h1 : uQ u u1) (h2 : uQ u1 u2) : uQ u u2 := fun j hj => (h2 j hj).trans (h1 j hj)
theorem uS.q {u u1 : Nat → Int} (h : uS u u1) : uQ u u1 := fun j hj => h j (by omega)
theorem uQ.put25 {u : Nat → Int} {x : Int} : uQ u (kup u 25 x) := fun j hj => kup_n (by omega)
theorem uQ.e29 {u u1 : Nat → Int} (h : ∀ j, j ≠ 29 → u1 j = u j) : uQ u u1 := fun j hj => h j (by omega)
theorem mkR.kup25 {u bt : Nat → Int} {n : Nat} {st : PS} {x : Int} (h : mkR u bt n st) : mkR (kup u 25 x) bt n st := h
theorem mkR.kup29 {u bt : Nat → Int} {n : Nat} {st : PS} {x : Int} (h : mkR u bt n st) : mkR (kup u 29 x) bt n st := h
def cdR (cf : Nat → Int) (c : Nat) (L : List Int) : Prop := L.length = c ∧ ∀ j, j < c → cf j = L.getD j 0
def qcW (G : kG) (w : Nat → va_E) (u : Nat → Int) (st : PS) (L : List Int) : Prop := ∃ (c : Nat) (cf : Nat → Int), u 29 = (c : Int) ∧ c ≤ 200 ∧ w 146 = iA G 200 cf ∧ (st.1 = 0 → cdR cf c L)
theorem qcW.go {G : kG} {w w1 : Nat → va_E} {u u1 : Nat → Int} {st st1 : PS} {L : List Int} (h : qcW G w u st L) (h29 : u1 29 = u 29) (hw : w1 146 = w 146) (hs : st1.1 = 0 → st.1 = 0) : qcW G w1 u1 st1 L := by
  obtain ⟨c, cf, a1, a2, a3, a4⟩ := h
  exact ⟨c, cf, h29.trans a1, a2, hw.trans a3, fun q => a4 (hs q)⟩
theorem qcW.cg {G : kG} {w : Nat → va_E} {u : Nat → Int} {st : PS} {L L1 : List Int} (h : qcW G w u st L) (hL : st.1 = 0 → L = L1) : qcW G w u st L1 := by
  obtain ⟨c, cf, a1, a2, a3, a4⟩ := h
  exact ⟨c, cf, a1, a2, a3, fun q => hL q ▸ a4 q⟩
theorem cd_put {cf : Nat → Int} {c : Nat} {L : List Int} {x : Int} (h : cdR cf c L) : cdR (kup cf c x) (c + 1) (L ++ [x]) := by
  obtain ⟨h1, h2⟩ := h
  refine ⟨by rw [List.length_append, h1]; rfl, fun j hj => ?_⟩
  unfold kup
  by_cases e : j = c
  · rw [if_pos e, List.getD_eq_getElem?_getD, List.getElem?_append_right (by omega), show j - L.length = 0 by omega]; rfl
  · rw [if_neg e, List.getD_eq_getElem?_getD, List.getElem?_append_left (by omega), ← List.getD_eq_getElem?_getD]
    exact h2 j (by omega)
theorem vlS_e {bt : Nat → Int} {n : Nat} {st : PS} (h : st.1 ≠ 0) : vlS bt n st = st := by
  unfold vlS
  by_cases q : pcM bt n st = -1
  · rw [selP_1 q, nhP_e h, adP_e h]
  · rw [selP_0 q, adP_e h]
theorem selfl {c : Int} {P : Prop} {st : PS} (hc : c ≠ 0) (h : (selP P st (flP c st)).1 = 0) : st.1 = 0 := by
  by_cases q : P
  · rw [selP_1 q] at h; exact h
  · rw [selP_0 q] at h; exact absurd h (fl_c hc)
theorem len200 {L : List Int} {n s : Nat} (h1 : L.length ≤ s) (h2 : s < n) (h3 : n ≤ 200) : L.length < 200 := by omega
def nmI (j : Nat) : Nat := [7, 5, 32, 33, 34, 35, 36].getD j 0
abbrev nmA (G : kG) : va_E := rA G 6 7 (fun j => some (kadK G (nmI j)))
set_option maxRecDepth 100000 in
set_option maxHeartbeats 4000000 in
theorem c_X12_emit (l : Launch) (hls : l.stackTraces = false) (G : kG) (hN : kN G = 150) (w : Nat → va_E) (fl : va_W) (u bt : Nat → Int) (n : Nat) (st : PS) (L : List Int) (x : Int) (hlt : st.1 = 0 → L.length < 200) (hn2 : n ≤ 200) (hqc : qcW G w u st L) (hn7 : n ≤ 700) (hb : btOK bt) (hm : w 133 = mdO G u) (h144 : w 144 = iA G 700 bt) (hK : mkR u bt n st) : KM l G yX12_emit cX12_emit 2 (none) 0 0 0 [.ref (kad G 133), vI x] w fl (kMuv fl (fun w1 => (∃ u1, w1 133 = mdO G u1 ∧ mkR u1 bt n st ∧ qcW G w1 u1 st (L ++ [x]) ∧ ∀ j, j ≠ 29 → u1 j = u j) ∧ ∀ j, (j ≠ 133 ∧ j ≠ 146) → w1 j = w j)) := by
  refine KM_of2 hls (by decide +kernel) rfl (lv0 := [(0, .ref (kad G 133)), (1, vI x)]) rfl (Nat.le_of_ble_eq_true rfl) (fun p e R s m args below meth c Q hC hr hQ => ?_)
  have h18 := hK.1
  have h22 := hK.2.1
  have hrg := hK.2.2.1
  have hcb := hK.cb
  have hk0 := hK.2.2.2.1
  have hk1 := hK.2.2.2.2.1
  have hdg := hK.2.2.2.2.2
  obtain ⟨c9, cf, h29, hc9, h146, hcd⟩ := hqc
  refine k_aload_n hC dX12_emit_0 rfl 0 rfl ?_
  refine k_get hC fd_X12_386 (kl hN (by decide)) hm rfl dX12_emit_1 ?_
  refine k_if_ne hC 27 dX12_emit_4 rfl (by omega) (fun c_4 => ?_) (fun c_4 => ?_)
  · have hzz : st.1 ≠ 0 := by omega
    subst hQ
    exact k_vret hC hr ⟨by decide, by decide⟩ (⟨rfl, rfl, ⟨u, hm, hK, ⟨c9, cf, h29, hc9, h146, fun q => absurd q (by omega)⟩, fun j _ => rfl⟩, fun j hj => rfl⟩) dX12_emit_27
  · have hzz : st.1 = 0 := by omega
    have hq0 := hK.2.2.2.1 hzz
    have hen := enM_b (bt := bt) hq0.2.2.2
    have hcd0 := hcd (by omega)
    have hl0 := hlt (by omega)
    have hlc := hcd0.1
    refine k_aload_n hC dX12_emit_7 rfl 0 rfl ?_
    refine k_get hC fd_X12_68 (kl hN (by decide)) hm rfl dX12_emit_8 ?_
    refine k_aload_n hC dX12_emit_11 rfl 0 rfl ?_
    refine k_get hC fd_X12_483 (kl hN (by decide)) hm rfl dX12_emit_12 ?_
    refine k_topv (vI ((c9 : Int))) (congrArg vI (by omega)) ?_
    refine k_iload_n hC dX12_emit_15 rfl 1 rfl ?_
    refine k_iast hC (kl hN (by decide)) h146 (by omega) (by decide) dX12_emit_16 (fun w1 hw1 hf1 => ?_)
    refine k_aload_n hC dX12_emit_17 rfl 0 rfl ?_
    refine k_dup hC dX12_emit_18 rfl ?_
    have h_2 : w1 133 = .inr (12, [.ref (kad G 134), .ref (kad G 135), .ref (kad G 136), .ref (kad G 137), vI (u 4), vI (u 5), vI (u 6), .ref (kad G 138), .ref (kad G 139), .ref (kad G 140), .ref (kad G 141), .ref (kad G 142), vL (u 12), vL (u 13), .ref (kad G 143), vI (u 15), .ref (kad G 144), vI (u 17), vI (u 18), vI (u 19), vI (u 20), vI (u 21), vI (u 22), vI (u 23), vI (u 24), vI (u 25), .ref (kad G 145), .ref (kad G 146), .ref (kad G 147), vI (u 29)]) := (hf1 133 (by decide)).trans hm
    refine k_get hC fd_X12_483 (kl hN (by decide)) h_2 rfl dX12_emit_19 ?_
    refine k_topv (vI ((c9 : Int))) (congrArg vI (by omega)) ?_
    refine k_iconst hC dX12_emit_22 ?_
    refine k_iadd hC dX12_emit_23 ?_
    refine k_put hC fd_X12_483 (kl hN (by decide)) h_2 [.ref (kad G 134), .ref (kad G 135), .ref (kad G 136), .ref (kad G 137), vI (u 4), vI (u 5), vI (u 6), .ref (kad G 138), .ref (kad G 139), .ref (kad G 140), .ref (kad G 141), .ref (kad G 142), vL (u 12), vL (u 13), .ref (kad G 143), vI (u 15), .ref (kad G 144), vI (u 17), vI (u 18), vI (u 19), vI (u 20), vI (u 21), vI (u 22), vI (u 23), vI (u 24), vI (u 25), .ref (kad G 145), .ref (kad G 146), .ref (kad G 147), vI ((c9 : Int) + 1)] rfl (Nat.le_of_ble_eq_true rfl) rfl rfl dX12_emit_24 (fun w3 hw3 hf3 => ?_)
    have h_4 : w3 146 = iA G 200 (kup cf ((c9 : Int)).toNat x) := (hf3 146 (by decide)).trans hw1
    subst hQ
    exact k_vret hC hr ⟨by decide, by decide⟩ (⟨rfl, rfl, ⟨(kup u 29 ((c9 : Int) + 1)), hw3, hK.kup29, ⟨c9 + 1, _, rfl, by omega, h_4, fun _ => cd_put hcd0⟩, fun j hj => kup_n hj⟩, fun j hj => (hf3 j (by omega)).trans (hf1 j (by omega))⟩) dX12_emit_27

theorem enM_lt9 {bt : Nat → Int} {n s : Nat} (h : kdM bt n s ≠ 0) : s < n := by
  rcases kd_c bt n s with ⟨e, -⟩ | ⟨-, e, -⟩ | ⟨-, e, -⟩ | ⟨-, e, -⟩
  · exact absurd e h
  · exact e
  · exact e
  · exact e
set_option maxRecDepth 100000 in
set_option maxHeartbeats 4000000 in
theorem c_X12_compileValue (l : Launch) (hls : l.stackTraces = false) (G : kG) (hN : kN G = 150) (w : Nat → va_E) (fl : va_W) (u bt : Nat → Int) (n : Nat) (st : PS) (L : List Int) (nd : Int) (hn2 : n ≤ 200) (hqc : qcW G w u st L) (hL : st.1 = 0 → L.length ≤ st.2.2) (h145 : w 145 = nmA G) (h25 : u 25 = nd) (hn7 : n ≤ 700) (hb : btOK bt) (hm : w 133 = mdO G u) (h144 : w 144 = iA G 700 bt) (hK : mkR u bt n st) : KM l G yX12_compileValue cX12_compileValue 2 (none) 5 0 0 [.ref (kad G 133)] w fl (kMuv fl (fun w1 => (∃ u1, w1 133 = mdO G u1 ∧ mkR u1 bt n (vlS bt n st) ∧ qcW G w1 u1 (vlS bt n st) (L ++ [vlC bt n st]) ∧ u1 25 = nd ∧ uQ u u1) ∧ ∀ j, (j ≠ 133 ∧ j ≠ 146) → w1 j = w j)) := by
  refine KM_of2 hls (by decide +kernel) rfl (lv0 := [(0, .ref (kad G 133))]) rfl (Nat.le_of_ble_eq_true rfl) (fun p e R s m args below meth c Q hC hr hQ => ?_)
  have h18 := hK.1
  have h22 := hK.2.1
  have hrg := hK.2.2.1
  have hcb := hK.cb
  have hk0 := hK.2.2.2.1
  have hk1 := hK.2.2.2.2.1
  have hdg := hK.2.2.2.2.2
  refine k_aload_n hC dX12_compileValue_0 rfl 0 rfl ?_
  refine k_get hC fd_X12_386 (kl hN (by decide)) hm rfl dX12_compileValue_1 ?_
  refine k_if_ne hC 15 dX12_compileValue_4 rfl (by omega) (fun c_4 => ?_) (fun c_4 => ?_)
  · have hzz : st.1 ≠ 0 := by omega
    refine k_aload_n hC dX12_compileValue_15 rfl 0 rfl ?_
    refine k_aload_n hC dX12_compileValue_16 rfl 0 rfl ?_
    refine k_iconst hC dX12_compileValue_17 ?_
    refine k_ldcw hC (x := 99999) (v := 99999) dX12_compileValue_18 (by decide) wk_X12_486 ?_
    refine k_mutV hC (c_X12_readNumber l hls G hN w fl u bt n st 0 99999 (by omega) (by omega) hn7 hb hm h144 hK) yy_X12_readNumber wm_X12_435 (kl hN (by decide)) hm rfl rfl rfl rfl (Nat.le_of_ble_eq_true rfl) (by decide) (by decide) ⟨by decide, by decide⟩ dX12_compileValue_21 (fun w1 hp1 => ?_)
    obtain ⟨hT1, hf1⟩ := hp1
    have hnv_2 := rnV_b (bt := bt) (n := n) (lo := 0) (hi := 99999) (st := st) (by omega)
    obtain ⟨u1, hu1, hKr1, hs1⟩ := hT1
    obtain ⟨st_3, est_3⟩ : ∃ z : PS, z = tkP bt n 0 99999 st := ⟨_, rfl⟩
    rw [← est_3] at hKr1
    have h18r1 := hKr1.1
    have h22r1 := hKr1.2.1
    have hrgr1 := hKr1.2.2.1
    have hcbr1 := hKr1.cb
    have hzzr1 : st_3.1 ≠ 0 := by rw [est_3, tkP_e (by omega)]; omega
    have hQ_1 : qcW G w1 u1 st_3 L := hqc.go (hs1 29 (by omega)) (hf1 146 (by decide)) (fun q => tkok (by rw [← est_3]; exact q))
    have h25_1 : u1 25 = nd := (hs1 25 (by omega)).trans h25
    have h_5 : w1 144 = iA G 700 bt := (hf1 144 (by decide)).trans h144
    refine k_muvV hC (c_X12_emit l hls G hN w1 fl u1 bt n st_3 L (rnV bt n 0 99999 st) (fun q => absurd q (by omega)) hn2 hQ_1 hn7 hb hu1 h_5 hKr1) yy_X12_emit wm_X12_487 (kl hN (by decide)) hu1 rfl rfl rfl rfl (Nat.le_of_ble_eq_true rfl) (by decide) (by decide) ⟨by decide, by decide⟩ dX12_compileValue_24 (fun w4 hp4 => ?_)
    obtain ⟨⟨u4, hu4, hKr4, hQ_4, hs4⟩, hf4⟩ := hp4
    have h18r4 := hKr4.1
    have h22r4 := hKr4.2.1
    have hrgr4 := hKr4.2.2.1
    have hcbr4 := hKr4.cb
    have h25_4 : u4 25 = nd := (hs4 25 (by decide)).trans h25_1
    have hzzr4 : st_3.1 ≠ 0 := by omega
    subst hQ
    exact k_vret hC hr ⟨by decide, by decide⟩ (⟨rfl, rfl, ⟨u4, hu4, (by have e : st_3 = vlS bt n st := (by rw [est_3, tkP_e (by omega), vlS_e (by omega)]); rw [← e]; exact hKr4), (by have e : st_3 = vlS bt n st := (by rw [est_3, tkP_e (by omega), vlS_e (by omega)]); rw [← e]; exact hQ_4.cg (fun q => absurd q (by omega))), h25_4, (uQ.tr (uQ.tr uQ.rf (uS.q hs1)) (uQ.e29 hs4))⟩, fun j hj => (hf4 j (by omega)).trans (hf1 j (by omega))⟩) dX12_compileValue_27
  · have hzz : st.1 = 0 := by omega
    have hq0 := hK.2.2.2.1 hzz
    have hen := enM_b (bt := bt) hq0.2.2.2
    refine k_aload_n hC dX12_compileValue_7 rfl 0 rfl ?_
    refine k_get hC fd_X12_377 (kl hN (by decide)) hm rfl dX12_compileValue_8 ?_
    refine k_iconst hC dX12_compileValue_11 ?_
    refine k_icmp_ne hC 28 dX12_compileValue_12 rfl (by omega) (by omega) (fun c_12 => ?_) (fun c_12 => ?_)
    · refine k_iconst hC dX12_compileValue_28 ?_
      refine k_istore_n hC [(1, vI 0), (0, .ref (kad G 133))] dX12_compileValue_29 rfl (by decide) rfl ?_
      refine k_iload_n hC dX12_compileValue_30 rfl 0 rfl ?_
      refine k_aload_n hC dX12_compileValue_31 rfl 1 rfl ?_
      refine k_get hC fd_X12_64 (kl hN (by decide)) hm rfl dX12_compileValue_32 ?_
      refine k_alen hC (n := 7) (kl hN (by decide)) h145 6 rfl rfl rfl dX12_compileValue_35 ?_
      refine k_icmp_ge hC 58 dX12_compileValue_36 rfl (by omega) (by omega) (fun c_36 => absurd c_36 (by omega)) (fun c_36 => ?_)
      refine k_aload_n hC dX12_compileValue_39 rfl 1 rfl ?_
      refine k_aload_n hC dX12_compileValue_40 rfl 1 rfl ?_
      refine k_get hC fd_X12_64 (kl hN (by decide)) hm rfl dX12_compileValue_41 ?_
      refine k_iload_n hC dX12_compileValue_44 rfl 0 rfl ?_
      refine k_aald hC (v := .ref (kadK G 7)) (kl hN (by decide)) h145 rfl (by omega) (by decide) rfl dX12_compileValue_45 ?_
      refine k_pureV hC (c_X12_isWord l hls G hN w fl u bt n st 7 (by decide) hn7 hb hm h144 hK) yy_X12_isWord wm_X12_409 (kl hN (by decide)) hm rfl rfl rfl rfl (Nat.le_of_ble_eq_true rfl) (by decide) (by decide) ⟨by decide, by decide⟩ dX12_compileValue_46 ?_
      obtain ⟨z_6, ez_6, hz_6⟩ := selI_c (isW bt n 7 st)
      refine k_topv (vI z_6) (by rw [ez_6]) ?_
      refine k_if_ne hC 58 dX12_compileValue_49 rfl (by omega) (fun c_49 => ?_) (fun c_49 => ?_)
      · have hpc : pcM bt n st = 0 := by unfold pcM; rw [selI_1 (hz_6.resolve_right (fun q1 => by omega)).2]
        have hwk := (isW_k (hz_6.resolve_right (fun q1 => by omega)).2).2
        have hlt9 := enM_lt9 (bt := bt) (n := n) (s := st.2.2) (by omega)
        refine k_aload_n hC dX12_compileValue_58 rfl 1 rfl ?_
        refine k_iload_n hC dX12_compileValue_59 rfl 0 rfl ?_
        refine k_aload_n hC dX12_compileValue_60 rfl 1 rfl ?_
        refine k_get hC fd_X12_64 (kl hN (by decide)) hm rfl dX12_compileValue_61 ?_
        refine k_alen hC (n := 7) (kl hN (by decide)) h145 6 rfl rfl rfl dX12_compileValue_64 ?_
        refine k_icmp_ge hC 72 dX12_compileValue_65 rfl (by omega) (by omega) (fun c_65 => absurd c_65 (by omega)) (fun c_65 => ?_)
        refine k_iconst hC dX12_compileValue_68 ?_
        refine k_goto hC 73 dX12_compileValue_69 rfl ?_
        refine k_iconst hC dX12_compileValue_73 ?_
        refine k_muvV hC (c_X12_check1 l hls G hN w fl u bt n st 1 (by omega) hn7 hb hm h144 hK) yy_X12_check wm_X12_413 (kl hN (by decide)) hm rfl rfl rfl rfl (Nat.le_of_ble_eq_true rfl) (by decide) (by decide) ⟨by decide, by decide⟩ dX12_compileValue_74 (fun w7 hp7 => ?_)
        obtain ⟨hT7, hf7⟩ := hp7
        obtain ⟨u7, hu7, hKr7, hs7⟩ := hT7
        have h18r7 := hKr7.1
        have h22r7 := hKr7.2.1
        have hrgr7 := hKr7.2.2.1
        have hcbr7 := hKr7.cb
        have hzzr7 : st.1 = 0 := by omega
        have hq0r7 := hKr7.2.2.2.1 hzzr7
        have henr7 := enM_b (bt := bt) hq0r7.2.2.2
        have hQ_7 : qcW G w7 u7 st L := hqc.go (hs7 29 (by omega)) (hf7 146 (by decide)) (fun q => q)
        have h25_7 : u7 25 = nd := (hs7 25 (by omega)).trans h25
        refine k_aload_n hC dX12_compileValue_77 rfl 1 rfl ?_
        refine k_iconst hC dX12_compileValue_78 ?_
        refine k_iload_n hC dX12_compileValue_79 rfl 0 rfl ?_
        refine k_isub hC dX12_compileValue_80 ?_
        have h_9 : w7 144 = iA G 700 bt := (hf7 144 (by decide)).trans h144
        refine k_muvV hC (c_X12_emit l hls G hN w7 fl u7 bt n st L ((-1) - 0) (fun q => len200 (hL (by omega)) hlt9 hn2) hn2 hQ_7 hn7 hb hu7 h_9 hKr7) yy_X12_emit wm_X12_487 (kl hN (by decide)) hu7 rfl rfl rfl rfl (Nat.le_of_ble_eq_true rfl) (by decide) (by decide) ⟨by decide, by decide⟩ dX12_compileValue_81 (fun w8 hp8 => ?_)
        obtain ⟨⟨u8, hu8, hKr8, hQ_8, hs8⟩, hf8⟩ := hp8
        have h18r8 := hKr8.1
        have h22r8 := hKr8.2.1
        have hrgr8 := hKr8.2.2.1
        have hcbr8 := hKr8.cb
        have h25_8 : u8 25 = nd := (hs8 25 (by decide)).trans h25_7
        have hzzr8 : st.1 = 0 := by omega
        have hq0r8 := hKr8.2.2.2.1 hzzr8
        have henr8 := enM_b (bt := bt) hq0r8.2.2.2
        refine k_aload_n hC dX12_compileValue_84 rfl 1 rfl ?_
        have h_11 : w8 144 = iA G 700 bt := (hf8 144 (by decide)).trans h_9
        refine k_muvV hC (c_X12_advance l hls G hN w8 fl u8 bt n st  hn7 hb hu8 h_11 hKr8) yy_X12_advance wm_X12_417 (kl hN (by decide)) hu8 rfl rfl rfl rfl (Nat.le_of_ble_eq_true rfl) (by decide) (by decide) ⟨by decide, by decide⟩ dX12_compileValue_85 (fun w10 hp10 => ?_)
        obtain ⟨hT10, hf10⟩ := hp10
        obtain ⟨u10, hu10, hKr10, hs10⟩ := hT10
        obtain ⟨st_12, est_12⟩ : ∃ z : PS, z = adP bt n st := ⟨_, rfl⟩
        rw [← est_12] at hKr10
        have h18r10 := hKr10.1
        have h22r10 := hKr10.2.1
        have hrgr10 := hKr10.2.2.1
        have hcbr10 := hKr10.cb
        have hzir10 : st_12.1 = 0 := by rw [est_12]; exact ad_c.mpr (by omega)
        have hzzr10 : st_12.1 = 0 := by omega
        have hq0r10 := hKr10.2.2.2.1 hzzr10
        have henr10 := enM_b (bt := bt) hq0r10.2.2.2
        have hQ_10 : qcW G w10 u10 st_12 (L ++ [(-1) - 0]) := hQ_8.go (hs10 29 (by omega)) (hf10 146 (by decide)) (fun q => ad_c.mp (by rw [← est_12]; exact q))
        have h25_10 : u10 25 = nd := (hs10 25 (by omega)).trans h25_8
        subst hQ
        exact k_vret hC hr ⟨by decide, by decide⟩ (⟨rfl, rfl, ⟨u10, hu10, (by have e : st_12 = vlS bt n st := (by unfold vlS; rw [selP_0 (by omega)]; exact est_12); rw [← e]; exact hKr10), (by have e : st_12 = vlS bt n st := (by unfold vlS; rw [selP_0 (by omega)]; exact est_12); rw [← e]; exact hQ_10.cg (fun q => by unfold vlC; rw [selI_0 (by omega), hpc])), h25_10, (uQ.tr (uQ.tr (uQ.tr uQ.rf (uS.q hs7)) (uQ.e29 hs8)) (uS.q hs10))⟩, fun j hj => (hf10 j (by omega)).trans ((hf8 j (by omega)).trans (hf7 j (by omega)))⟩) dX12_compileValue_88
      · refine k_iinc hC (y := 1) [(1, vI 1), (0, .ref (kad G 133))] (j := 0) dX12_compileValue_52 rfl (by decide) (by decide) rfl ?_
        refine k_goto hC 30 dX12_compileValue_55 rfl ?_
        refine k_iload_n hC dX12_compileValue_30 rfl 0 rfl ?_
        refine k_aload_n hC dX12_compileValue_31 rfl 1 rfl ?_
        refine k_get hC fd_X12_64 (kl hN (by decide)) hm rfl dX12_compileValue_32 ?_
        refine k_alen hC (n := 7) (kl hN (by decide)) h145 6 rfl rfl rfl dX12_compileValue_35 ?_
        refine k_icmp_ge hC 58 dX12_compileValue_36 rfl (by omega) (by omega) (fun c_36 => absurd c_36 (by omega)) (fun c_36 => ?_)
        refine k_aload_n hC dX12_compileValue_39 rfl 1 rfl ?_
        refine k_aload_n hC dX12_compileValue_40 rfl 1 rfl ?_
        refine k_get hC fd_X12_64 (kl hN (by decide)) hm rfl dX12_compileValue_41 ?_
        refine k_iload_n hC dX12_compileValue_44 rfl 0 rfl ?_
        refine k_aald hC (v := .ref (kadK G 5)) (kl hN (by decide)) h145 rfl (by omega) (by decide) rfl dX12_compileValue_45 ?_
        refine k_pureV hC (c_X12_isWord l hls G hN w fl u bt n st 5 (by decide) hn7 hb hm h144 hK) yy_X12_isWord wm_X12_409 (kl hN (by decide)) hm rfl rfl rfl rfl (Nat.le_of_ble_eq_true rfl) (by decide) (by decide) ⟨by decide, by decide⟩ dX12_compileValue_46 ?_
        obtain ⟨z_13, ez_13, hz_13⟩ := selI_c (isW bt n 5 st)
        refine k_topv (vI z_13) (by rw [ez_13]) ?_
        refine k_if_ne hC 58 dX12_compileValue_49 rfl (by omega) (fun c_49 => ?_) (fun c_49 => ?_)
        · have hpc : pcM bt n st = 1 := by unfold pcM; rw [selI_0 (hz_6.resolve_left (fun q1 => by omega)).2, selI_1 (hz_13.resolve_right (fun q1 => by omega)).2]
          have hwk := (isW_k (hz_13.resolve_right (fun q1 => by omega)).2).2
          have hlt9 := enM_lt9 (bt := bt) (n := n) (s := st.2.2) (by omega)
          refine k_aload_n hC dX12_compileValue_58 rfl 1 rfl ?_
          refine k_iload_n hC dX12_compileValue_59 rfl 0 rfl ?_
          refine k_aload_n hC dX12_compileValue_60 rfl 1 rfl ?_
          refine k_get hC fd_X12_64 (kl hN (by decide)) hm rfl dX12_compileValue_61 ?_
          refine k_alen hC (n := 7) (kl hN (by decide)) h145 6 rfl rfl rfl dX12_compileValue_64 ?_
          refine k_icmp_ge hC 72 dX12_compileValue_65 rfl (by omega) (by omega) (fun c_65 => absurd c_65 (by omega)) (fun c_65 => ?_)
          refine k_iconst hC dX12_compileValue_68 ?_
          refine k_goto hC 73 dX12_compileValue_69 rfl ?_
          refine k_iconst hC dX12_compileValue_73 ?_
          refine k_muvV hC (c_X12_check1 l hls G hN w fl u bt n st 1 (by omega) hn7 hb hm h144 hK) yy_X12_check wm_X12_413 (kl hN (by decide)) hm rfl rfl rfl rfl (Nat.le_of_ble_eq_true rfl) (by decide) (by decide) ⟨by decide, by decide⟩ dX12_compileValue_74 (fun w14 hp14 => ?_)
          obtain ⟨hT14, hf14⟩ := hp14
          obtain ⟨u14, hu14, hKr14, hs14⟩ := hT14
          have h18r14 := hKr14.1
          have h22r14 := hKr14.2.1
          have hrgr14 := hKr14.2.2.1
          have hcbr14 := hKr14.cb
          have hzzr14 : st.1 = 0 := by omega
          have hq0r14 := hKr14.2.2.2.1 hzzr14
          have henr14 := enM_b (bt := bt) hq0r14.2.2.2
          have hQ_14 : qcW G w14 u14 st L := hqc.go (hs14 29 (by omega)) (hf14 146 (by decide)) (fun q => q)
          have h25_14 : u14 25 = nd := (hs14 25 (by omega)).trans h25
          refine k_aload_n hC dX12_compileValue_77 rfl 1 rfl ?_
          refine k_iconst hC dX12_compileValue_78 ?_
          refine k_iload_n hC dX12_compileValue_79 rfl 0 rfl ?_
          refine k_isub hC dX12_compileValue_80 ?_
          have h_16 : w14 144 = iA G 700 bt := (hf14 144 (by decide)).trans h144
          refine k_muvV hC (c_X12_emit l hls G hN w14 fl u14 bt n st L ((-1) - 1) (fun q => len200 (hL (by omega)) hlt9 hn2) hn2 hQ_14 hn7 hb hu14 h_16 hKr14) yy_X12_emit wm_X12_487 (kl hN (by decide)) hu14 rfl rfl rfl rfl (Nat.le_of_ble_eq_true rfl) (by decide) (by decide) ⟨by decide, by decide⟩ dX12_compileValue_81 (fun w15 hp15 => ?_)
          obtain ⟨⟨u15, hu15, hKr15, hQ_15, hs15⟩, hf15⟩ := hp15
          have h18r15 := hKr15.1
          have h22r15 := hKr15.2.1
          have hrgr15 := hKr15.2.2.1
          have hcbr15 := hKr15.cb
          have h25_15 : u15 25 = nd := (hs15 25 (by decide)).trans h25_14
          have hzzr15 : st.1 = 0 := by omega
          have hq0r15 := hKr15.2.2.2.1 hzzr15
          have henr15 := enM_b (bt := bt) hq0r15.2.2.2
          refine k_aload_n hC dX12_compileValue_84 rfl 1 rfl ?_
          have h_18 : w15 144 = iA G 700 bt := (hf15 144 (by decide)).trans h_16
          refine k_muvV hC (c_X12_advance l hls G hN w15 fl u15 bt n st  hn7 hb hu15 h_18 hKr15) yy_X12_advance wm_X12_417 (kl hN (by decide)) hu15 rfl rfl rfl rfl (Nat.le_of_ble_eq_true rfl) (by decide) (by decide) ⟨by decide, by decide⟩ dX12_compileValue_85 (fun w17 hp17 => ?_)
          obtain ⟨hT17, hf17⟩ := hp17
          obtain ⟨u17, hu17, hKr17, hs17⟩ := hT17
          obtain ⟨st_19, est_19⟩ : ∃ z : PS, z = adP bt n st := ⟨_, rfl⟩
          rw [← est_19] at hKr17
          have h18r17 := hKr17.1
          have h22r17 := hKr17.2.1
          have hrgr17 := hKr17.2.2.1
          have hcbr17 := hKr17.cb
          have hzir17 : st_19.1 = 0 := by rw [est_19]; exact ad_c.mpr (by omega)
          have hzzr17 : st_19.1 = 0 := by omega
          have hq0r17 := hKr17.2.2.2.1 hzzr17
          have henr17 := enM_b (bt := bt) hq0r17.2.2.2
          have hQ_17 : qcW G w17 u17 st_19 (L ++ [(-1) - 1]) := hQ_15.go (hs17 29 (by omega)) (hf17 146 (by decide)) (fun q => ad_c.mp (by rw [← est_19]; exact q))
          have h25_17 : u17 25 = nd := (hs17 25 (by omega)).trans h25_15
          subst hQ
          exact k_vret hC hr ⟨by decide, by decide⟩ (⟨rfl, rfl, ⟨u17, hu17, (by have e : st_19 = vlS bt n st := (by unfold vlS; rw [selP_0 (by omega)]; exact est_19); rw [← e]; exact hKr17), (by have e : st_19 = vlS bt n st := (by unfold vlS; rw [selP_0 (by omega)]; exact est_19); rw [← e]; exact hQ_17.cg (fun q => by unfold vlC; rw [selI_0 (by omega), hpc])), h25_17, (uQ.tr (uQ.tr (uQ.tr uQ.rf (uS.q hs14)) (uQ.e29 hs15)) (uS.q hs17))⟩, fun j hj => (hf17 j (by omega)).trans ((hf15 j (by omega)).trans (hf14 j (by omega)))⟩) dX12_compileValue_88
        · refine k_iinc hC (y := 2) [(1, vI 2), (0, .ref (kad G 133))] (j := 0) dX12_compileValue_52 rfl (by decide) (by decide) rfl ?_
          refine k_goto hC 30 dX12_compileValue_55 rfl ?_
          refine k_iload_n hC dX12_compileValue_30 rfl 0 rfl ?_
          refine k_aload_n hC dX12_compileValue_31 rfl 1 rfl ?_
          refine k_get hC fd_X12_64 (kl hN (by decide)) hm rfl dX12_compileValue_32 ?_
          refine k_alen hC (n := 7) (kl hN (by decide)) h145 6 rfl rfl rfl dX12_compileValue_35 ?_
          refine k_icmp_ge hC 58 dX12_compileValue_36 rfl (by omega) (by omega) (fun c_36 => absurd c_36 (by omega)) (fun c_36 => ?_)
          refine k_aload_n hC dX12_compileValue_39 rfl 1 rfl ?_
          refine k_aload_n hC dX12_compileValue_40 rfl 1 rfl ?_
          refine k_get hC fd_X12_64 (kl hN (by decide)) hm rfl dX12_compileValue_41 ?_
          refine k_iload_n hC dX12_compileValue_44 rfl 0 rfl ?_
          refine k_aald hC (v := .ref (kadK G 32)) (kl hN (by decide)) h145 rfl (by omega) (by decide) rfl dX12_compileValue_45 ?_
          refine k_pureV hC (c_X12_isWord l hls G hN w fl u bt n st 32 (by decide) hn7 hb hm h144 hK) yy_X12_isWord wm_X12_409 (kl hN (by decide)) hm rfl rfl rfl rfl (Nat.le_of_ble_eq_true rfl) (by decide) (by decide) ⟨by decide, by decide⟩ dX12_compileValue_46 ?_
          obtain ⟨z_20, ez_20, hz_20⟩ := selI_c (isW bt n 32 st)
          refine k_topv (vI z_20) (by rw [ez_20]) ?_
          refine k_if_ne hC 58 dX12_compileValue_49 rfl (by omega) (fun c_49 => ?_) (fun c_49 => ?_)
          · have hpc : pcM bt n st = 2 := by unfold pcM; rw [selI_0 (hz_6.resolve_left (fun q1 => by omega)).2, selI_0 (hz_13.resolve_left (fun q1 => by omega)).2, selI_1 (hz_20.resolve_right (fun q1 => by omega)).2]
            have hwk := (isW_k (hz_20.resolve_right (fun q1 => by omega)).2).2
            have hlt9 := enM_lt9 (bt := bt) (n := n) (s := st.2.2) (by omega)
            refine k_aload_n hC dX12_compileValue_58 rfl 1 rfl ?_
            refine k_iload_n hC dX12_compileValue_59 rfl 0 rfl ?_
            refine k_aload_n hC dX12_compileValue_60 rfl 1 rfl ?_
            refine k_get hC fd_X12_64 (kl hN (by decide)) hm rfl dX12_compileValue_61 ?_
            refine k_alen hC (n := 7) (kl hN (by decide)) h145 6 rfl rfl rfl dX12_compileValue_64 ?_
            refine k_icmp_ge hC 72 dX12_compileValue_65 rfl (by omega) (by omega) (fun c_65 => absurd c_65 (by omega)) (fun c_65 => ?_)
            refine k_iconst hC dX12_compileValue_68 ?_
            refine k_goto hC 73 dX12_compileValue_69 rfl ?_
            refine k_iconst hC dX12_compileValue_73 ?_
            refine k_muvV hC (c_X12_check1 l hls G hN w fl u bt n st 1 (by omega) hn7 hb hm h144 hK) yy_X12_check wm_X12_413 (kl hN (by decide)) hm rfl rfl rfl rfl (Nat.le_of_ble_eq_true rfl) (by decide) (by decide) ⟨by decide, by decide⟩ dX12_compileValue_74 (fun w21 hp21 => ?_)
            obtain ⟨hT21, hf21⟩ := hp21
            obtain ⟨u21, hu21, hKr21, hs21⟩ := hT21
            have h18r21 := hKr21.1
            have h22r21 := hKr21.2.1
            have hrgr21 := hKr21.2.2.1
            have hcbr21 := hKr21.cb
            have hzzr21 : st.1 = 0 := by omega
            have hq0r21 := hKr21.2.2.2.1 hzzr21
            have henr21 := enM_b (bt := bt) hq0r21.2.2.2
            have hQ_21 : qcW G w21 u21 st L := hqc.go (hs21 29 (by omega)) (hf21 146 (by decide)) (fun q => q)
            have h25_21 : u21 25 = nd := (hs21 25 (by omega)).trans h25
            refine k_aload_n hC dX12_compileValue_77 rfl 1 rfl ?_
            refine k_iconst hC dX12_compileValue_78 ?_
            refine k_iload_n hC dX12_compileValue_79 rfl 0 rfl ?_
            refine k_isub hC dX12_compileValue_80 ?_
            have h_23 : w21 144 = iA G 700 bt := (hf21 144 (by decide)).trans h144
            refine k_muvV hC (c_X12_emit l hls G hN w21 fl u21 bt n st L ((-1) - 2) (fun q => len200 (hL (by omega)) hlt9 hn2) hn2 hQ_21 hn7 hb hu21 h_23 hKr21) yy_X12_emit wm_X12_487 (kl hN (by decide)) hu21 rfl rfl rfl rfl (Nat.le_of_ble_eq_true rfl) (by decide) (by decide) ⟨by decide, by decide⟩ dX12_compileValue_81 (fun w22 hp22 => ?_)
            obtain ⟨⟨u22, hu22, hKr22, hQ_22, hs22⟩, hf22⟩ := hp22
            have h18r22 := hKr22.1
            have h22r22 := hKr22.2.1
            have hrgr22 := hKr22.2.2.1
            have hcbr22 := hKr22.cb
            have h25_22 : u22 25 = nd := (hs22 25 (by decide)).trans h25_21
            have hzzr22 : st.1 = 0 := by omega
            have hq0r22 := hKr22.2.2.2.1 hzzr22
            have henr22 := enM_b (bt := bt) hq0r22.2.2.2
            refine k_aload_n hC dX12_compileValue_84 rfl 1 rfl ?_
            have h_25 : w22 144 = iA G 700 bt := (hf22 144 (by decide)).trans h_23
            refine k_muvV hC (c_X12_advance l hls G hN w22 fl u22 bt n st  hn7 hb hu22 h_25 hKr22) yy_X12_advance wm_X12_417 (kl hN (by decide)) hu22 rfl rfl rfl rfl (Nat.le_of_ble_eq_true rfl) (by decide) (by decide) ⟨by decide, by decide⟩ dX12_compileValue_85 (fun w24 hp24 => ?_)
            obtain ⟨hT24, hf24⟩ := hp24
            obtain ⟨u24, hu24, hKr24, hs24⟩ := hT24
            obtain ⟨st_26, est_26⟩ : ∃ z : PS, z = adP bt n st := ⟨_, rfl⟩
            rw [← est_26] at hKr24
            have h18r24 := hKr24.1
            have h22r24 := hKr24.2.1
            have hrgr24 := hKr24.2.2.1
            have hcbr24 := hKr24.cb
            have hzir24 : st_26.1 = 0 := by rw [est_26]; exact ad_c.mpr (by omega)
            have hzzr24 : st_26.1 = 0 := by omega
            have hq0r24 := hKr24.2.2.2.1 hzzr24
            have henr24 := enM_b (bt := bt) hq0r24.2.2.2
            have hQ_24 : qcW G w24 u24 st_26 (L ++ [(-1) - 2]) := hQ_22.go (hs24 29 (by omega)) (hf24 146 (by decide)) (fun q => ad_c.mp (by rw [← est_26]; exact q))
            have h25_24 : u24 25 = nd := (hs24 25 (by omega)).trans h25_22
            subst hQ
            exact k_vret hC hr ⟨by decide, by decide⟩ (⟨rfl, rfl, ⟨u24, hu24, (by have e : st_26 = vlS bt n st := (by unfold vlS; rw [selP_0 (by omega)]; exact est_26); rw [← e]; exact hKr24), (by have e : st_26 = vlS bt n st := (by unfold vlS; rw [selP_0 (by omega)]; exact est_26); rw [← e]; exact hQ_24.cg (fun q => by unfold vlC; rw [selI_0 (by omega), hpc])), h25_24, (uQ.tr (uQ.tr (uQ.tr uQ.rf (uS.q hs21)) (uQ.e29 hs22)) (uS.q hs24))⟩, fun j hj => (hf24 j (by omega)).trans ((hf22 j (by omega)).trans (hf21 j (by omega)))⟩) dX12_compileValue_88
          · refine k_iinc hC (y := 3) [(1, vI 3), (0, .ref (kad G 133))] (j := 0) dX12_compileValue_52 rfl (by decide) (by decide) rfl ?_
            refine k_goto hC 30 dX12_compileValue_55 rfl ?_
            refine k_iload_n hC dX12_compileValue_30 rfl 0 rfl ?_
            refine k_aload_n hC dX12_compileValue_31 rfl 1 rfl ?_
            refine k_get hC fd_X12_64 (kl hN (by decide)) hm rfl dX12_compileValue_32 ?_
            refine k_alen hC (n := 7) (kl hN (by decide)) h145 6 rfl rfl rfl dX12_compileValue_35 ?_
            refine k_icmp_ge hC 58 dX12_compileValue_36 rfl (by omega) (by omega) (fun c_36 => absurd c_36 (by omega)) (fun c_36 => ?_)
            refine k_aload_n hC dX12_compileValue_39 rfl 1 rfl ?_
            refine k_aload_n hC dX12_compileValue_40 rfl 1 rfl ?_
            refine k_get hC fd_X12_64 (kl hN (by decide)) hm rfl dX12_compileValue_41 ?_
            refine k_iload_n hC dX12_compileValue_44 rfl 0 rfl ?_
            refine k_aald hC (v := .ref (kadK G 33)) (kl hN (by decide)) h145 rfl (by omega) (by decide) rfl dX12_compileValue_45 ?_
            refine k_pureV hC (c_X12_isWord l hls G hN w fl u bt n st 33 (by decide) hn7 hb hm h144 hK) yy_X12_isWord wm_X12_409 (kl hN (by decide)) hm rfl rfl rfl rfl (Nat.le_of_ble_eq_true rfl) (by decide) (by decide) ⟨by decide, by decide⟩ dX12_compileValue_46 ?_
            obtain ⟨z_27, ez_27, hz_27⟩ := selI_c (isW bt n 33 st)
            refine k_topv (vI z_27) (by rw [ez_27]) ?_
            refine k_if_ne hC 58 dX12_compileValue_49 rfl (by omega) (fun c_49 => ?_) (fun c_49 => ?_)
            · have hpc : pcM bt n st = 3 := by unfold pcM; rw [selI_0 (hz_6.resolve_left (fun q1 => by omega)).2, selI_0 (hz_13.resolve_left (fun q1 => by omega)).2, selI_0 (hz_20.resolve_left (fun q1 => by omega)).2, selI_1 (hz_27.resolve_right (fun q1 => by omega)).2]
              have hwk := (isW_k (hz_27.resolve_right (fun q1 => by omega)).2).2
              have hlt9 := enM_lt9 (bt := bt) (n := n) (s := st.2.2) (by omega)
              refine k_aload_n hC dX12_compileValue_58 rfl 1 rfl ?_
              refine k_iload_n hC dX12_compileValue_59 rfl 0 rfl ?_
              refine k_aload_n hC dX12_compileValue_60 rfl 1 rfl ?_
              refine k_get hC fd_X12_64 (kl hN (by decide)) hm rfl dX12_compileValue_61 ?_
              refine k_alen hC (n := 7) (kl hN (by decide)) h145 6 rfl rfl rfl dX12_compileValue_64 ?_
              refine k_icmp_ge hC 72 dX12_compileValue_65 rfl (by omega) (by omega) (fun c_65 => absurd c_65 (by omega)) (fun c_65 => ?_)
              refine k_iconst hC dX12_compileValue_68 ?_
              refine k_goto hC 73 dX12_compileValue_69 rfl ?_
              refine k_iconst hC dX12_compileValue_73 ?_
              refine k_muvV hC (c_X12_check1 l hls G hN w fl u bt n st 1 (by omega) hn7 hb hm h144 hK) yy_X12_check wm_X12_413 (kl hN (by decide)) hm rfl rfl rfl rfl (Nat.le_of_ble_eq_true rfl) (by decide) (by decide) ⟨by decide, by decide⟩ dX12_compileValue_74 (fun w28 hp28 => ?_)
              obtain ⟨hT28, hf28⟩ := hp28
              obtain ⟨u28, hu28, hKr28, hs28⟩ := hT28
              have h18r28 := hKr28.1
              have h22r28 := hKr28.2.1
              have hrgr28 := hKr28.2.2.1
              have hcbr28 := hKr28.cb
              have hzzr28 : st.1 = 0 := by omega
              have hq0r28 := hKr28.2.2.2.1 hzzr28
              have henr28 := enM_b (bt := bt) hq0r28.2.2.2
              have hQ_28 : qcW G w28 u28 st L := hqc.go (hs28 29 (by omega)) (hf28 146 (by decide)) (fun q => q)
              have h25_28 : u28 25 = nd := (hs28 25 (by omega)).trans h25
              refine k_aload_n hC dX12_compileValue_77 rfl 1 rfl ?_
              refine k_iconst hC dX12_compileValue_78 ?_
              refine k_iload_n hC dX12_compileValue_79 rfl 0 rfl ?_
              refine k_isub hC dX12_compileValue_80 ?_
              have h_30 : w28 144 = iA G 700 bt := (hf28 144 (by decide)).trans h144
              refine k_muvV hC (c_X12_emit l hls G hN w28 fl u28 bt n st L ((-1) - 3) (fun q => len200 (hL (by omega)) hlt9 hn2) hn2 hQ_28 hn7 hb hu28 h_30 hKr28) yy_X12_emit wm_X12_487 (kl hN (by decide)) hu28 rfl rfl rfl rfl (Nat.le_of_ble_eq_true rfl) (by decide) (by decide) ⟨by decide, by decide⟩ dX12_compileValue_81 (fun w29 hp29 => ?_)
              obtain ⟨⟨u29, hu29, hKr29, hQ_29, hs29⟩, hf29⟩ := hp29
              have h18r29 := hKr29.1
              have h22r29 := hKr29.2.1
              have hrgr29 := hKr29.2.2.1
              have hcbr29 := hKr29.cb
              have h25_29 : u29 25 = nd := (hs29 25 (by decide)).trans h25_28
              have hzzr29 : st.1 = 0 := by omega
              have hq0r29 := hKr29.2.2.2.1 hzzr29
              have henr29 := enM_b (bt := bt) hq0r29.2.2.2
              refine k_aload_n hC dX12_compileValue_84 rfl 1 rfl ?_
              have h_32 : w29 144 = iA G 700 bt := (hf29 144 (by decide)).trans h_30
              refine k_muvV hC (c_X12_advance l hls G hN w29 fl u29 bt n st  hn7 hb hu29 h_32 hKr29) yy_X12_advance wm_X12_417 (kl hN (by decide)) hu29 rfl rfl rfl rfl (Nat.le_of_ble_eq_true rfl) (by decide) (by decide) ⟨by decide, by decide⟩ dX12_compileValue_85 (fun w31 hp31 => ?_)
              obtain ⟨hT31, hf31⟩ := hp31
              obtain ⟨u31, hu31, hKr31, hs31⟩ := hT31
              obtain ⟨st_33, est_33⟩ : ∃ z : PS, z = adP bt n st := ⟨_, rfl⟩
              rw [← est_33] at hKr31
              have h18r31 := hKr31.1
              have h22r31 := hKr31.2.1
              have hrgr31 := hKr31.2.2.1
              have hcbr31 := hKr31.cb
              have hzir31 : st_33.1 = 0 := by rw [est_33]; exact ad_c.mpr (by omega)
              have hzzr31 : st_33.1 = 0 := by omega
              have hq0r31 := hKr31.2.2.2.1 hzzr31
              have henr31 := enM_b (bt := bt) hq0r31.2.2.2
              have hQ_31 : qcW G w31 u31 st_33 (L ++ [(-1) - 3]) := hQ_29.go (hs31 29 (by omega)) (hf31 146 (by decide)) (fun q => ad_c.mp (by rw [← est_33]; exact q))
              have h25_31 : u31 25 = nd := (hs31 25 (by omega)).trans h25_29
              subst hQ
              exact k_vret hC hr ⟨by decide, by decide⟩ (⟨rfl, rfl, ⟨u31, hu31, (by have e : st_33 = vlS bt n st := (by unfold vlS; rw [selP_0 (by omega)]; exact est_33); rw [← e]; exact hKr31), (by have e : st_33 = vlS bt n st := (by unfold vlS; rw [selP_0 (by omega)]; exact est_33); rw [← e]; exact hQ_31.cg (fun q => by unfold vlC; rw [selI_0 (by omega), hpc])), h25_31, (uQ.tr (uQ.tr (uQ.tr uQ.rf (uS.q hs28)) (uQ.e29 hs29)) (uS.q hs31))⟩, fun j hj => (hf31 j (by omega)).trans ((hf29 j (by omega)).trans (hf28 j (by omega)))⟩) dX12_compileValue_88
            · refine k_iinc hC (y := 4) [(1, vI 4), (0, .ref (kad G 133))] (j := 0) dX12_compileValue_52 rfl (by decide) (by decide) rfl ?_
              refine k_goto hC 30 dX12_compileValue_55 rfl ?_
              refine k_iload_n hC dX12_compileValue_30 rfl 0 rfl ?_
              refine k_aload_n hC dX12_compileValue_31 rfl 1 rfl ?_
              refine k_get hC fd_X12_64 (kl hN (by decide)) hm rfl dX12_compileValue_32 ?_
              refine k_alen hC (n := 7) (kl hN (by decide)) h145 6 rfl rfl rfl dX12_compileValue_35 ?_
              refine k_icmp_ge hC 58 dX12_compileValue_36 rfl (by omega) (by omega) (fun c_36 => absurd c_36 (by omega)) (fun c_36 => ?_)
              refine k_aload_n hC dX12_compileValue_39 rfl 1 rfl ?_
              refine k_aload_n hC dX12_compileValue_40 rfl 1 rfl ?_
              refine k_get hC fd_X12_64 (kl hN (by decide)) hm rfl dX12_compileValue_41 ?_
              refine k_iload_n hC dX12_compileValue_44 rfl 0 rfl ?_
              refine k_aald hC (v := .ref (kadK G 34)) (kl hN (by decide)) h145 rfl (by omega) (by decide) rfl dX12_compileValue_45 ?_
              refine k_pureV hC (c_X12_isWord l hls G hN w fl u bt n st 34 (by decide) hn7 hb hm h144 hK) yy_X12_isWord wm_X12_409 (kl hN (by decide)) hm rfl rfl rfl rfl (Nat.le_of_ble_eq_true rfl) (by decide) (by decide) ⟨by decide, by decide⟩ dX12_compileValue_46 ?_
              obtain ⟨z_34, ez_34, hz_34⟩ := selI_c (isW bt n 34 st)
              refine k_topv (vI z_34) (by rw [ez_34]) ?_
              refine k_if_ne hC 58 dX12_compileValue_49 rfl (by omega) (fun c_49 => ?_) (fun c_49 => ?_)
              · have hpc : pcM bt n st = 4 := by unfold pcM; rw [selI_0 (hz_6.resolve_left (fun q1 => by omega)).2, selI_0 (hz_13.resolve_left (fun q1 => by omega)).2, selI_0 (hz_20.resolve_left (fun q1 => by omega)).2, selI_0 (hz_27.resolve_left (fun q1 => by omega)).2, selI_1 (hz_34.resolve_right (fun q1 => by omega)).2]
                have hwk := (isW_k (hz_34.resolve_right (fun q1 => by omega)).2).2
                have hlt9 := enM_lt9 (bt := bt) (n := n) (s := st.2.2) (by omega)
                refine k_aload_n hC dX12_compileValue_58 rfl 1 rfl ?_
                refine k_iload_n hC dX12_compileValue_59 rfl 0 rfl ?_
                refine k_aload_n hC dX12_compileValue_60 rfl 1 rfl ?_
                refine k_get hC fd_X12_64 (kl hN (by decide)) hm rfl dX12_compileValue_61 ?_
                refine k_alen hC (n := 7) (kl hN (by decide)) h145 6 rfl rfl rfl dX12_compileValue_64 ?_
                refine k_icmp_ge hC 72 dX12_compileValue_65 rfl (by omega) (by omega) (fun c_65 => absurd c_65 (by omega)) (fun c_65 => ?_)
                refine k_iconst hC dX12_compileValue_68 ?_
                refine k_goto hC 73 dX12_compileValue_69 rfl ?_
                refine k_iconst hC dX12_compileValue_73 ?_
                refine k_muvV hC (c_X12_check1 l hls G hN w fl u bt n st 1 (by omega) hn7 hb hm h144 hK) yy_X12_check wm_X12_413 (kl hN (by decide)) hm rfl rfl rfl rfl (Nat.le_of_ble_eq_true rfl) (by decide) (by decide) ⟨by decide, by decide⟩ dX12_compileValue_74 (fun w35 hp35 => ?_)
                obtain ⟨hT35, hf35⟩ := hp35
                obtain ⟨u35, hu35, hKr35, hs35⟩ := hT35
                have h18r35 := hKr35.1
                have h22r35 := hKr35.2.1
                have hrgr35 := hKr35.2.2.1
                have hcbr35 := hKr35.cb
                have hzzr35 : st.1 = 0 := by omega
                have hq0r35 := hKr35.2.2.2.1 hzzr35
                have henr35 := enM_b (bt := bt) hq0r35.2.2.2
                have hQ_35 : qcW G w35 u35 st L := hqc.go (hs35 29 (by omega)) (hf35 146 (by decide)) (fun q => q)
                have h25_35 : u35 25 = nd := (hs35 25 (by omega)).trans h25
                refine k_aload_n hC dX12_compileValue_77 rfl 1 rfl ?_
                refine k_iconst hC dX12_compileValue_78 ?_
                refine k_iload_n hC dX12_compileValue_79 rfl 0 rfl ?_
                refine k_isub hC dX12_compileValue_80 ?_
                have h_37 : w35 144 = iA G 700 bt := (hf35 144 (by decide)).trans h144
                refine k_muvV hC (c_X12_emit l hls G hN w35 fl u35 bt n st L ((-1) - 4) (fun q => len200 (hL (by omega)) hlt9 hn2) hn2 hQ_35 hn7 hb hu35 h_37 hKr35) yy_X12_emit wm_X12_487 (kl hN (by decide)) hu35 rfl rfl rfl rfl (Nat.le_of_ble_eq_true rfl) (by decide) (by decide) ⟨by decide, by decide⟩ dX12_compileValue_81 (fun w36 hp36 => ?_)
                obtain ⟨⟨u36, hu36, hKr36, hQ_36, hs36⟩, hf36⟩ := hp36
                have h18r36 := hKr36.1
                have h22r36 := hKr36.2.1
                have hrgr36 := hKr36.2.2.1
                have hcbr36 := hKr36.cb
                have h25_36 : u36 25 = nd := (hs36 25 (by decide)).trans h25_35
                have hzzr36 : st.1 = 0 := by omega
                have hq0r36 := hKr36.2.2.2.1 hzzr36
                have henr36 := enM_b (bt := bt) hq0r36.2.2.2
                refine k_aload_n hC dX12_compileValue_84 rfl 1 rfl ?_
                have h_39 : w36 144 = iA G 700 bt := (hf36 144 (by decide)).trans h_37
                refine k_muvV hC (c_X12_advance l hls G hN w36 fl u36 bt n st  hn7 hb hu36 h_39 hKr36) yy_X12_advance wm_X12_417 (kl hN (by decide)) hu36 rfl rfl rfl rfl (Nat.le_of_ble_eq_true rfl) (by decide) (by decide) ⟨by decide, by decide⟩ dX12_compileValue_85 (fun w38 hp38 => ?_)
                obtain ⟨hT38, hf38⟩ := hp38
                obtain ⟨u38, hu38, hKr38, hs38⟩ := hT38
                obtain ⟨st_40, est_40⟩ : ∃ z : PS, z = adP bt n st := ⟨_, rfl⟩
                rw [← est_40] at hKr38
                have h18r38 := hKr38.1
                have h22r38 := hKr38.2.1
                have hrgr38 := hKr38.2.2.1
                have hcbr38 := hKr38.cb
                have hzir38 : st_40.1 = 0 := by rw [est_40]; exact ad_c.mpr (by omega)
                have hzzr38 : st_40.1 = 0 := by omega
                have hq0r38 := hKr38.2.2.2.1 hzzr38
                have henr38 := enM_b (bt := bt) hq0r38.2.2.2
                have hQ_38 : qcW G w38 u38 st_40 (L ++ [(-1) - 4]) := hQ_36.go (hs38 29 (by omega)) (hf38 146 (by decide)) (fun q => ad_c.mp (by rw [← est_40]; exact q))
                have h25_38 : u38 25 = nd := (hs38 25 (by omega)).trans h25_36
                subst hQ
                exact k_vret hC hr ⟨by decide, by decide⟩ (⟨rfl, rfl, ⟨u38, hu38, (by have e : st_40 = vlS bt n st := (by unfold vlS; rw [selP_0 (by omega)]; exact est_40); rw [← e]; exact hKr38), (by have e : st_40 = vlS bt n st := (by unfold vlS; rw [selP_0 (by omega)]; exact est_40); rw [← e]; exact hQ_38.cg (fun q => by unfold vlC; rw [selI_0 (by omega), hpc])), h25_38, (uQ.tr (uQ.tr (uQ.tr uQ.rf (uS.q hs35)) (uQ.e29 hs36)) (uS.q hs38))⟩, fun j hj => (hf38 j (by omega)).trans ((hf36 j (by omega)).trans (hf35 j (by omega)))⟩) dX12_compileValue_88
              · refine k_iinc hC (y := 5) [(1, vI 5), (0, .ref (kad G 133))] (j := 0) dX12_compileValue_52 rfl (by decide) (by decide) rfl ?_
                refine k_goto hC 30 dX12_compileValue_55 rfl ?_
                refine k_iload_n hC dX12_compileValue_30 rfl 0 rfl ?_
                refine k_aload_n hC dX12_compileValue_31 rfl 1 rfl ?_
                refine k_get hC fd_X12_64 (kl hN (by decide)) hm rfl dX12_compileValue_32 ?_
                refine k_alen hC (n := 7) (kl hN (by decide)) h145 6 rfl rfl rfl dX12_compileValue_35 ?_
                refine k_icmp_ge hC 58 dX12_compileValue_36 rfl (by omega) (by omega) (fun c_36 => absurd c_36 (by omega)) (fun c_36 => ?_)
                refine k_aload_n hC dX12_compileValue_39 rfl 1 rfl ?_
                refine k_aload_n hC dX12_compileValue_40 rfl 1 rfl ?_
                refine k_get hC fd_X12_64 (kl hN (by decide)) hm rfl dX12_compileValue_41 ?_
                refine k_iload_n hC dX12_compileValue_44 rfl 0 rfl ?_
                refine k_aald hC (v := .ref (kadK G 35)) (kl hN (by decide)) h145 rfl (by omega) (by decide) rfl dX12_compileValue_45 ?_
                refine k_pureV hC (c_X12_isWord l hls G hN w fl u bt n st 35 (by decide) hn7 hb hm h144 hK) yy_X12_isWord wm_X12_409 (kl hN (by decide)) hm rfl rfl rfl rfl (Nat.le_of_ble_eq_true rfl) (by decide) (by decide) ⟨by decide, by decide⟩ dX12_compileValue_46 ?_
                obtain ⟨z_41, ez_41, hz_41⟩ := selI_c (isW bt n 35 st)
                refine k_topv (vI z_41) (by rw [ez_41]) ?_
                refine k_if_ne hC 58 dX12_compileValue_49 rfl (by omega) (fun c_49 => ?_) (fun c_49 => ?_)
                · have hpc : pcM bt n st = 5 := by unfold pcM; rw [selI_0 (hz_6.resolve_left (fun q1 => by omega)).2, selI_0 (hz_13.resolve_left (fun q1 => by omega)).2, selI_0 (hz_20.resolve_left (fun q1 => by omega)).2, selI_0 (hz_27.resolve_left (fun q1 => by omega)).2, selI_0 (hz_34.resolve_left (fun q1 => by omega)).2, selI_1 (hz_41.resolve_right (fun q1 => by omega)).2]
                  have hwk := (isW_k (hz_41.resolve_right (fun q1 => by omega)).2).2
                  have hlt9 := enM_lt9 (bt := bt) (n := n) (s := st.2.2) (by omega)
                  refine k_aload_n hC dX12_compileValue_58 rfl 1 rfl ?_
                  refine k_iload_n hC dX12_compileValue_59 rfl 0 rfl ?_
                  refine k_aload_n hC dX12_compileValue_60 rfl 1 rfl ?_
                  refine k_get hC fd_X12_64 (kl hN (by decide)) hm rfl dX12_compileValue_61 ?_
                  refine k_alen hC (n := 7) (kl hN (by decide)) h145 6 rfl rfl rfl dX12_compileValue_64 ?_
                  refine k_icmp_ge hC 72 dX12_compileValue_65 rfl (by omega) (by omega) (fun c_65 => absurd c_65 (by omega)) (fun c_65 => ?_)
                  refine k_iconst hC dX12_compileValue_68 ?_
                  refine k_goto hC 73 dX12_compileValue_69 rfl ?_
                  refine k_iconst hC dX12_compileValue_73 ?_
                  refine k_muvV hC (c_X12_check1 l hls G hN w fl u bt n st 1 (by omega) hn7 hb hm h144 hK) yy_X12_check wm_X12_413 (kl hN (by decide)) hm rfl rfl rfl rfl (Nat.le_of_ble_eq_true rfl) (by decide) (by decide) ⟨by decide, by decide⟩ dX12_compileValue_74 (fun w42 hp42 => ?_)
                  obtain ⟨hT42, hf42⟩ := hp42
                  obtain ⟨u42, hu42, hKr42, hs42⟩ := hT42
                  have h18r42 := hKr42.1
                  have h22r42 := hKr42.2.1
                  have hrgr42 := hKr42.2.2.1
                  have hcbr42 := hKr42.cb
                  have hzzr42 : st.1 = 0 := by omega
                  have hq0r42 := hKr42.2.2.2.1 hzzr42
                  have henr42 := enM_b (bt := bt) hq0r42.2.2.2
                  have hQ_42 : qcW G w42 u42 st L := hqc.go (hs42 29 (by omega)) (hf42 146 (by decide)) (fun q => q)
                  have h25_42 : u42 25 = nd := (hs42 25 (by omega)).trans h25
                  refine k_aload_n hC dX12_compileValue_77 rfl 1 rfl ?_
                  refine k_iconst hC dX12_compileValue_78 ?_
                  refine k_iload_n hC dX12_compileValue_79 rfl 0 rfl ?_
                  refine k_isub hC dX12_compileValue_80 ?_
                  have h_44 : w42 144 = iA G 700 bt := (hf42 144 (by decide)).trans h144
                  refine k_muvV hC (c_X12_emit l hls G hN w42 fl u42 bt n st L ((-1) - 5) (fun q => len200 (hL (by omega)) hlt9 hn2) hn2 hQ_42 hn7 hb hu42 h_44 hKr42) yy_X12_emit wm_X12_487 (kl hN (by decide)) hu42 rfl rfl rfl rfl (Nat.le_of_ble_eq_true rfl) (by decide) (by decide) ⟨by decide, by decide⟩ dX12_compileValue_81 (fun w43 hp43 => ?_)
                  obtain ⟨⟨u43, hu43, hKr43, hQ_43, hs43⟩, hf43⟩ := hp43
                  have h18r43 := hKr43.1
                  have h22r43 := hKr43.2.1
                  have hrgr43 := hKr43.2.2.1
                  have hcbr43 := hKr43.cb
                  have h25_43 : u43 25 = nd := (hs43 25 (by decide)).trans h25_42
                  have hzzr43 : st.1 = 0 := by omega
                  have hq0r43 := hKr43.2.2.2.1 hzzr43
                  have henr43 := enM_b (bt := bt) hq0r43.2.2.2
                  refine k_aload_n hC dX12_compileValue_84 rfl 1 rfl ?_
                  have h_46 : w43 144 = iA G 700 bt := (hf43 144 (by decide)).trans h_44
                  refine k_muvV hC (c_X12_advance l hls G hN w43 fl u43 bt n st  hn7 hb hu43 h_46 hKr43) yy_X12_advance wm_X12_417 (kl hN (by decide)) hu43 rfl rfl rfl rfl (Nat.le_of_ble_eq_true rfl) (by decide) (by decide) ⟨by decide, by decide⟩ dX12_compileValue_85 (fun w45 hp45 => ?_)
                  obtain ⟨hT45, hf45⟩ := hp45
                  obtain ⟨u45, hu45, hKr45, hs45⟩ := hT45
                  obtain ⟨st_47, est_47⟩ : ∃ z : PS, z = adP bt n st := ⟨_, rfl⟩
                  rw [← est_47] at hKr45
                  have h18r45 := hKr45.1
                  have h22r45 := hKr45.2.1
                  have hrgr45 := hKr45.2.2.1
                  have hcbr45 := hKr45.cb
                  have hzir45 : st_47.1 = 0 := by rw [est_47]; exact ad_c.mpr (by omega)
                  have hzzr45 : st_47.1 = 0 := by omega
                  have hq0r45 := hKr45.2.2.2.1 hzzr45
                  have henr45 := enM_b (bt := bt) hq0r45.2.2.2
                  have hQ_45 : qcW G w45 u45 st_47 (L ++ [(-1) - 5]) := hQ_43.go (hs45 29 (by omega)) (hf45 146 (by decide)) (fun q => ad_c.mp (by rw [← est_47]; exact q))
                  have h25_45 : u45 25 = nd := (hs45 25 (by omega)).trans h25_43
                  subst hQ
                  exact k_vret hC hr ⟨by decide, by decide⟩ (⟨rfl, rfl, ⟨u45, hu45, (by have e : st_47 = vlS bt n st := (by unfold vlS; rw [selP_0 (by omega)]; exact est_47); rw [← e]; exact hKr45), (by have e : st_47 = vlS bt n st := (by unfold vlS; rw [selP_0 (by omega)]; exact est_47); rw [← e]; exact hQ_45.cg (fun q => by unfold vlC; rw [selI_0 (by omega), hpc])), h25_45, (uQ.tr (uQ.tr (uQ.tr uQ.rf (uS.q hs42)) (uQ.e29 hs43)) (uS.q hs45))⟩, fun j hj => (hf45 j (by omega)).trans ((hf43 j (by omega)).trans (hf42 j (by omega)))⟩) dX12_compileValue_88
                · refine k_iinc hC (y := 6) [(1, vI 6), (0, .ref (kad G 133))] (j := 0) dX12_compileValue_52 rfl (by decide) (by decide) rfl ?_
                  refine k_goto hC 30 dX12_compileValue_55 rfl ?_
                  refine k_iload_n hC dX12_compileValue_30 rfl 0 rfl ?_
                  refine k_aload_n hC dX12_compileValue_31 rfl 1 rfl ?_
                  refine k_get hC fd_X12_64 (kl hN (by decide)) hm rfl dX12_compileValue_32 ?_
                  refine k_alen hC (n := 7) (kl hN (by decide)) h145 6 rfl rfl rfl dX12_compileValue_35 ?_
                  refine k_icmp_ge hC 58 dX12_compileValue_36 rfl (by omega) (by omega) (fun c_36 => absurd c_36 (by omega)) (fun c_36 => ?_)
                  refine k_aload_n hC dX12_compileValue_39 rfl 1 rfl ?_
                  refine k_aload_n hC dX12_compileValue_40 rfl 1 rfl ?_
                  refine k_get hC fd_X12_64 (kl hN (by decide)) hm rfl dX12_compileValue_41 ?_
                  refine k_iload_n hC dX12_compileValue_44 rfl 0 rfl ?_
                  refine k_aald hC (v := .ref (kadK G 36)) (kl hN (by decide)) h145 rfl (by omega) (by decide) rfl dX12_compileValue_45 ?_
                  refine k_pureV hC (c_X12_isWord l hls G hN w fl u bt n st 36 (by decide) hn7 hb hm h144 hK) yy_X12_isWord wm_X12_409 (kl hN (by decide)) hm rfl rfl rfl rfl (Nat.le_of_ble_eq_true rfl) (by decide) (by decide) ⟨by decide, by decide⟩ dX12_compileValue_46 ?_
                  obtain ⟨z_48, ez_48, hz_48⟩ := selI_c (isW bt n 36 st)
                  refine k_topv (vI z_48) (by rw [ez_48]) ?_
                  refine k_if_ne hC 58 dX12_compileValue_49 rfl (by omega) (fun c_49 => ?_) (fun c_49 => ?_)
                  · have hpc : pcM bt n st = 6 := by unfold pcM; rw [selI_0 (hz_6.resolve_left (fun q1 => by omega)).2, selI_0 (hz_13.resolve_left (fun q1 => by omega)).2, selI_0 (hz_20.resolve_left (fun q1 => by omega)).2, selI_0 (hz_27.resolve_left (fun q1 => by omega)).2, selI_0 (hz_34.resolve_left (fun q1 => by omega)).2, selI_0 (hz_41.resolve_left (fun q1 => by omega)).2, selI_1 (hz_48.resolve_right (fun q1 => by omega)).2]
                    have hwk := (isW_k (hz_48.resolve_right (fun q1 => by omega)).2).2
                    have hlt9 := enM_lt9 (bt := bt) (n := n) (s := st.2.2) (by omega)
                    refine k_aload_n hC dX12_compileValue_58 rfl 1 rfl ?_
                    refine k_iload_n hC dX12_compileValue_59 rfl 0 rfl ?_
                    refine k_aload_n hC dX12_compileValue_60 rfl 1 rfl ?_
                    refine k_get hC fd_X12_64 (kl hN (by decide)) hm rfl dX12_compileValue_61 ?_
                    refine k_alen hC (n := 7) (kl hN (by decide)) h145 6 rfl rfl rfl dX12_compileValue_64 ?_
                    refine k_icmp_ge hC 72 dX12_compileValue_65 rfl (by omega) (by omega) (fun c_65 => absurd c_65 (by omega)) (fun c_65 => ?_)
                    refine k_iconst hC dX12_compileValue_68 ?_
                    refine k_goto hC 73 dX12_compileValue_69 rfl ?_
                    refine k_iconst hC dX12_compileValue_73 ?_
                    refine k_muvV hC (c_X12_check1 l hls G hN w fl u bt n st 1 (by omega) hn7 hb hm h144 hK) yy_X12_check wm_X12_413 (kl hN (by decide)) hm rfl rfl rfl rfl (Nat.le_of_ble_eq_true rfl) (by decide) (by decide) ⟨by decide, by decide⟩ dX12_compileValue_74 (fun w49 hp49 => ?_)
                    obtain ⟨hT49, hf49⟩ := hp49
                    obtain ⟨u49, hu49, hKr49, hs49⟩ := hT49
                    have h18r49 := hKr49.1
                    have h22r49 := hKr49.2.1
                    have hrgr49 := hKr49.2.2.1
                    have hcbr49 := hKr49.cb
                    have hzzr49 : st.1 = 0 := by omega
                    have hq0r49 := hKr49.2.2.2.1 hzzr49
                    have henr49 := enM_b (bt := bt) hq0r49.2.2.2
                    have hQ_49 : qcW G w49 u49 st L := hqc.go (hs49 29 (by omega)) (hf49 146 (by decide)) (fun q => q)
                    have h25_49 : u49 25 = nd := (hs49 25 (by omega)).trans h25
                    refine k_aload_n hC dX12_compileValue_77 rfl 1 rfl ?_
                    refine k_iconst hC dX12_compileValue_78 ?_
                    refine k_iload_n hC dX12_compileValue_79 rfl 0 rfl ?_
                    refine k_isub hC dX12_compileValue_80 ?_
                    have h_51 : w49 144 = iA G 700 bt := (hf49 144 (by decide)).trans h144
                    refine k_muvV hC (c_X12_emit l hls G hN w49 fl u49 bt n st L ((-1) - 6) (fun q => len200 (hL (by omega)) hlt9 hn2) hn2 hQ_49 hn7 hb hu49 h_51 hKr49) yy_X12_emit wm_X12_487 (kl hN (by decide)) hu49 rfl rfl rfl rfl (Nat.le_of_ble_eq_true rfl) (by decide) (by decide) ⟨by decide, by decide⟩ dX12_compileValue_81 (fun w50 hp50 => ?_)
                    obtain ⟨⟨u50, hu50, hKr50, hQ_50, hs50⟩, hf50⟩ := hp50
                    have h18r50 := hKr50.1
                    have h22r50 := hKr50.2.1
                    have hrgr50 := hKr50.2.2.1
                    have hcbr50 := hKr50.cb
                    have h25_50 : u50 25 = nd := (hs50 25 (by decide)).trans h25_49
                    have hzzr50 : st.1 = 0 := by omega
                    have hq0r50 := hKr50.2.2.2.1 hzzr50
                    have henr50 := enM_b (bt := bt) hq0r50.2.2.2
                    refine k_aload_n hC dX12_compileValue_84 rfl 1 rfl ?_
                    have h_53 : w50 144 = iA G 700 bt := (hf50 144 (by decide)).trans h_51
                    refine k_muvV hC (c_X12_advance l hls G hN w50 fl u50 bt n st  hn7 hb hu50 h_53 hKr50) yy_X12_advance wm_X12_417 (kl hN (by decide)) hu50 rfl rfl rfl rfl (Nat.le_of_ble_eq_true rfl) (by decide) (by decide) ⟨by decide, by decide⟩ dX12_compileValue_85 (fun w52 hp52 => ?_)
                    obtain ⟨hT52, hf52⟩ := hp52
                    obtain ⟨u52, hu52, hKr52, hs52⟩ := hT52
                    obtain ⟨st_54, est_54⟩ : ∃ z : PS, z = adP bt n st := ⟨_, rfl⟩
                    rw [← est_54] at hKr52
                    have h18r52 := hKr52.1
                    have h22r52 := hKr52.2.1
                    have hrgr52 := hKr52.2.2.1
                    have hcbr52 := hKr52.cb
                    have hzir52 : st_54.1 = 0 := by rw [est_54]; exact ad_c.mpr (by omega)
                    have hzzr52 : st_54.1 = 0 := by omega
                    have hq0r52 := hKr52.2.2.2.1 hzzr52
                    have henr52 := enM_b (bt := bt) hq0r52.2.2.2
                    have hQ_52 : qcW G w52 u52 st_54 (L ++ [(-1) - 6]) := hQ_50.go (hs52 29 (by omega)) (hf52 146 (by decide)) (fun q => ad_c.mp (by rw [← est_54]; exact q))
                    have h25_52 : u52 25 = nd := (hs52 25 (by omega)).trans h25_50
                    subst hQ
                    exact k_vret hC hr ⟨by decide, by decide⟩ (⟨rfl, rfl, ⟨u52, hu52, (by have e : st_54 = vlS bt n st := (by unfold vlS; rw [selP_0 (by omega)]; exact est_54); rw [← e]; exact hKr52), (by have e : st_54 = vlS bt n st := (by unfold vlS; rw [selP_0 (by omega)]; exact est_54); rw [← e]; exact hQ_52.cg (fun q => by unfold vlC; rw [selI_0 (by omega), hpc])), h25_52, (uQ.tr (uQ.tr (uQ.tr uQ.rf (uS.q hs49)) (uQ.e29 hs50)) (uS.q hs52))⟩, fun j hj => (hf52 j (by omega)).trans ((hf50 j (by omega)).trans (hf49 j (by omega)))⟩) dX12_compileValue_88
                  · have hpc : pcM bt n st = -1 := by unfold pcM; rw [selI_0 (hz_6.resolve_left (fun q1 => by omega)).2, selI_0 (hz_13.resolve_left (fun q1 => by omega)).2, selI_0 (hz_20.resolve_left (fun q1 => by omega)).2, selI_0 (hz_27.resolve_left (fun q1 => by omega)).2, selI_0 (hz_34.resolve_left (fun q1 => by omega)).2, selI_0 (hz_41.resolve_left (fun q1 => by omega)).2, selI_0 (hz_48.resolve_left (fun q1 => by omega)).2]
                    refine k_iinc hC (y := 7) [(1, vI 7), (0, .ref (kad G 133))] (j := 0) dX12_compileValue_52 rfl (by decide) (by decide) rfl ?_
                    refine k_goto hC 30 dX12_compileValue_55 rfl ?_
                    refine k_iload_n hC dX12_compileValue_30 rfl 0 rfl ?_
                    refine k_aload_n hC dX12_compileValue_31 rfl 1 rfl ?_
                    refine k_get hC fd_X12_64 (kl hN (by decide)) hm rfl dX12_compileValue_32 ?_
                    refine k_alen hC (n := 7) (kl hN (by decide)) h145 6 rfl rfl rfl dX12_compileValue_35 ?_
                    refine k_icmp_ge hC 58 dX12_compileValue_36 rfl (by omega) (by omega) (fun c_36 => ?_) (fun c_36 => absurd c_36 (by omega))
                    refine k_aload_n hC dX12_compileValue_58 rfl 1 rfl ?_
                    refine k_iload_n hC dX12_compileValue_59 rfl 0 rfl ?_
                    refine k_aload_n hC dX12_compileValue_60 rfl 1 rfl ?_
                    refine k_get hC fd_X12_64 (kl hN (by decide)) hm rfl dX12_compileValue_61 ?_
                    refine k_alen hC (n := 7) (kl hN (by decide)) h145 6 rfl rfl rfl dX12_compileValue_64 ?_
                    refine k_icmp_ge hC 72 dX12_compileValue_65 rfl (by omega) (by omega) (fun c_65 => ?_) (fun c_65 => absurd c_65 (by omega))
                    refine k_iconst hC dX12_compileValue_72 ?_
                    refine k_iconst hC dX12_compileValue_73 ?_
                    refine k_muvV hC (c_X12_check0 l hls G hN w fl u bt n st 1 (by omega) hn7 hb hm h144 hK) yy_X12_check wm_X12_413 (kl hN (by decide)) hm rfl rfl rfl rfl (Nat.le_of_ble_eq_true rfl) (by decide) (by decide) ⟨by decide, by decide⟩ dX12_compileValue_74 (fun w55 hp55 => ?_)
                    obtain ⟨hT55, hf55⟩ := hp55
                    obtain ⟨u55, hu55, hKr55, hs55⟩ := hT55
                    obtain ⟨st_56, est_56⟩ : ∃ z : PS, z = flP 1 st := ⟨_, rfl⟩
                    rw [← est_56] at hKr55
                    have h18r55 := hKr55.1
                    have h22r55 := hKr55.2.1
                    have hrgr55 := hKr55.2.2.1
                    have hcbr55 := hKr55.cb
                    have hzzr55 : st_56.1 ≠ 0 := by rw [est_56]; exact fl_c (by omega)
                    have hQ_55 : qcW G w55 u55 st_56 L := hqc.go (hs55 29 (by omega)) (hf55 146 (by decide)) (fun q => absurd q hzzr55)
                    have h25_55 : u55 25 = nd := (hs55 25 (by omega)).trans h25
                    refine k_aload_n hC dX12_compileValue_77 rfl 1 rfl ?_
                    refine k_iconst hC dX12_compileValue_78 ?_
                    refine k_iload_n hC dX12_compileValue_79 rfl 0 rfl ?_
                    refine k_isub hC dX12_compileValue_80 ?_
                    have h_58 : w55 144 = iA G 700 bt := (hf55 144 (by decide)).trans h144
                    refine k_muvV hC (c_X12_emit l hls G hN w55 fl u55 bt n st_56 L ((-1) - 7) (fun q => absurd q (by omega)) hn2 hQ_55 hn7 hb hu55 h_58 hKr55) yy_X12_emit wm_X12_487 (kl hN (by decide)) hu55 rfl rfl rfl rfl (Nat.le_of_ble_eq_true rfl) (by decide) (by decide) ⟨by decide, by decide⟩ dX12_compileValue_81 (fun w57 hp57 => ?_)
                    obtain ⟨⟨u57, hu57, hKr57, hQ_57, hs57⟩, hf57⟩ := hp57
                    have h18r57 := hKr57.1
                    have h22r57 := hKr57.2.1
                    have hrgr57 := hKr57.2.2.1
                    have hcbr57 := hKr57.cb
                    have h25_57 : u57 25 = nd := (hs57 25 (by decide)).trans h25_55
                    have hzzr57 : st_56.1 ≠ 0 := by omega
                    refine k_aload_n hC dX12_compileValue_84 rfl 1 rfl ?_
                    have h_60 : w57 144 = iA G 700 bt := (hf57 144 (by decide)).trans h_58
                    refine k_muvV hC (c_X12_advance l hls G hN w57 fl u57 bt n st_56  hn7 hb hu57 h_60 hKr57) yy_X12_advance wm_X12_417 (kl hN (by decide)) hu57 rfl rfl rfl rfl (Nat.le_of_ble_eq_true rfl) (by decide) (by decide) ⟨by decide, by decide⟩ dX12_compileValue_85 (fun w59 hp59 => ?_)
                    obtain ⟨hT59, hf59⟩ := hp59
                    obtain ⟨u59, hu59, hKr59, hs59⟩ := hT59
                    obtain ⟨st_61, est_61⟩ : ∃ z : PS, z = adP bt n st_56 := ⟨_, rfl⟩
                    rw [← est_61] at hKr59
                    have h18r59 := hKr59.1
                    have h22r59 := hKr59.2.1
                    have hrgr59 := hKr59.2.2.1
                    have hcbr59 := hKr59.cb
                    have hzzr59 : st_61.1 ≠ 0 := by rw [est_61, adP_e (by omega)]; omega
                    have hQ_59 : qcW G w59 u59 st_61 (L ++ [(-1) - 7]) := hQ_57.go (hs59 29 (by omega)) (hf59 146 (by decide)) (fun q => ad_c.mp (by rw [← est_61]; exact q))
                    have h25_59 : u59 25 = nd := (hs59 25 (by omega)).trans h25_57
                    subst hQ
                    exact k_vret hC hr ⟨by decide, by decide⟩ (⟨rfl, rfl, ⟨u59, hu59, (by have e : st_61 = vlS bt n st := (by unfold vlS nhP; rw [selP_1 hpc, selP_0 (fun q => by have q2 := q.2; omega), ← est_56]; exact est_61); rw [← e]; exact hKr59), (by have e : st_61 = vlS bt n st := (by unfold vlS nhP; rw [selP_1 hpc, selP_0 (fun q => by have q2 := q.2; omega), ← est_56]; exact est_61); rw [← e]; exact hQ_59.cg (fun q => absurd q (by omega))), h25_59, (uQ.tr (uQ.tr (uQ.tr uQ.rf (uS.q hs55)) (uQ.e29 hs57)) (uS.q hs59))⟩, fun j hj => (hf59 j (by omega)).trans ((hf57 j (by omega)).trans (hf55 j (by omega)))⟩) dX12_compileValue_88
    · have hpc : pcM bt n st = -1 := by rcases pcM_c bt n st with p | ⟨-, -, p⟩; exact p; omega
      have hlt9 := enM_lt9 (bt := bt) (n := n) (s := st.2.2) (by omega)
      refine k_aload_n hC dX12_compileValue_15 rfl 0 rfl ?_
      refine k_aload_n hC dX12_compileValue_16 rfl 0 rfl ?_
      refine k_iconst hC dX12_compileValue_17 ?_
      refine k_ldcw hC (x := 99999) (v := 99999) dX12_compileValue_18 (by decide) wk_X12_486 ?_
      refine k_mutV hC (c_X12_readNumber l hls G hN w fl u bt n st 0 99999 (by omega) (by omega) hn7 hb hm h144 hK) yy_X12_readNumber wm_X12_435 (kl hN (by decide)) hm rfl rfl rfl rfl (Nat.le_of_ble_eq_true rfl) (by decide) (by decide) ⟨by decide, by decide⟩ dX12_compileValue_21 (fun w62 hp62 => ?_)
      obtain ⟨hT62, hf62⟩ := hp62
      have hnv_63 := rnV_b (bt := bt) (n := n) (lo := 0) (hi := 99999) (st := st) (by omega)
      obtain ⟨u62, hu62, hKr62, hs62⟩ := hT62
      obtain ⟨st_64, est_64⟩ : ∃ z : PS, z = tkP bt n 0 99999 st := ⟨_, rfl⟩
      rw [← est_64] at hKr62
      have h18r62 := hKr62.1
      have h22r62 := hKr62.2.1
      have hrgr62 := hKr62.2.2.1
      have hcbr62 := hKr62.cb
      have hQ_62 : qcW G w62 u62 st_64 L := hqc.go (hs62 29 (by omega)) (hf62 146 (by decide)) (fun q => tkok (by rw [← est_64]; exact q))
      have h25_62 : u62 25 = nd := (hs62 25 (by omega)).trans h25
      have h_66 : w62 144 = iA G 700 bt := (hf62 144 (by decide)).trans h144
      refine k_muvV hC (c_X12_emit l hls G hN w62 fl u62 bt n st_64 L (rnV bt n 0 99999 st) (fun q => len200 (hL (by omega)) hlt9 hn2) hn2 hQ_62 hn7 hb hu62 h_66 hKr62) yy_X12_emit wm_X12_487 (kl hN (by decide)) hu62 rfl rfl rfl rfl (Nat.le_of_ble_eq_true rfl) (by decide) (by decide) ⟨by decide, by decide⟩ dX12_compileValue_24 (fun w65 hp65 => ?_)
      obtain ⟨⟨u65, hu65, hKr65, hQ_65, hs65⟩, hf65⟩ := hp65
      have h18r65 := hKr65.1
      have h22r65 := hKr65.2.1
      have hrgr65 := hKr65.2.2.1
      have hcbr65 := hKr65.cb
      have h25_65 : u65 25 = nd := (hs65 25 (by decide)).trans h25_62
      subst hQ
      exact k_vret hC hr ⟨by decide, by decide⟩ (⟨rfl, rfl, ⟨u65, hu65, (by have e : st_64 = vlS bt n st := (by unfold vlS; rw [selP_1 hpc]; exact est_64); rw [← e]; exact hKr65), (by have e : st_64 = vlS bt n st := (by unfold vlS; rw [selP_1 hpc]; exact est_64); rw [← e]; exact hQ_65.cg (fun q => by unfold vlC; rw [selI_1 hpc, rnV_0 (by rw [← est_64]; exact q)])), h25_65, (uQ.tr (uQ.tr uQ.rf (uS.q hs62)) (uQ.e29 hs65))⟩, fun j hj => (hf65 j (by omega)).trans (hf62 j (by omega))⟩) dX12_compileValue_27

