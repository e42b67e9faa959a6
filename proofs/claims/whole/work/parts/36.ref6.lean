def uS (u u1 : Nat → Int) : Prop := ∀ j, (j < 19 ∨ 23 < j) → u1 j = u j
theorem uS.tr {u u1 u2 : Nat → Int} (h1 : uS u u1) (h2 : uS u1 u2) : uS u u2 := fun j hj => (h2 j hj).trans (h1 j hj)
def rT (G : kG) (u : Nat → Int) (bt : Nat → Int) (n : Nat) (st : PS) (w1 : Nat → va_E) : Prop := ∃ u1, w1 133 = mdO G u1 ∧ mkR u1 bt n st ∧ uS u u1
theorem mk_flaw {u bt : Nat → Int} {n : Nat} {st : PS} {x : Int} (h : mkR u bt n st) (h0 : u 22 = 0) (hx : 1 ≤ x ∧ x ≤ 5) : mkR (kup (kup u 22 x) 23 (u 20)) bt n (flP x st) := by
  obtain ⟨h18, h22, hr, hk0, hk1, hdg⟩ := h
  have hz : st.1 = 0 := by omega
  rw [flP_0 hz]
  exact ⟨h18, rfl, hr, fun q => absurd q (by show ¬ x = 0; omega), fun _ => ⟨hx, (hk0 hz).1⟩, hdg⟩
theorem mkR.cb {u bt : Nat → Int} {n : Nat} {st : PS} (h : mkR u bt n st) : 0 ≤ st.1 ∧ st.1 ≤ 5 := by
  by_cases q : st.1 = 0
  · omega
  · have := (h.2.2.2.2.1 q).1; omega
theorem mkR.le {u bt : Nat → Int} {n : Nat} {st : PS} (h : mkR u bt n st) : st.1 = 0 → st.2.2 ≤ n := fun q => (h.2.2.2.1 q).2.2.2
def vlM (bt : Nat → Int) (a b : Nat) (k : Int) : Int := if k = 2 then min 2000000000 (numF bt a (b - a)) else 0
theorem vlM_b {bt : Nat → Int} {a b : Nat} {k : Int} (h : k = 2 → ∀ i : Nat, (a : Int) ≤ i → (i : Int) < b → isDg (bt i) = true) : 0 ≤ vlM bt a b k ∧ vlM bt a b k ≤ 2000000000 := by
  unfold vlM
  split
  · rename_i q
    have := numF_b (bt := bt) (s := a) (b - a) (fun i hi => h q (a + i) (by omega) (by omega))
    omega
  · omega
theorem vlM_n {bt : Nat → Int} {n : Nat} {st : PS} (h : kdM bt n st.2.2 = 2) : vlM bt st.2.2 (enM bt n st.2.2) 2 = min 2000000000 (nv bt n st) := if_pos rfl
noncomputable def rnV (bt : Nat → Int) (n : Nat) (lo hi : Int) (st : PS) : Int := selI ((tkP bt n lo hi st).1 = 0) (nv bt n st) lo
theorem rnV_0 {bt : Nat → Int} {n : Nat} {lo hi : Int} {st : PS} (h : (tkP bt n lo hi st).1 = 0) : rnV bt n lo hi st = nv bt n st := selI_1 h
theorem rnV_b {bt : Nat → Int} {n : Nat} {lo hi : Int} {st : PS} (h : lo ≤ hi) : lo ≤ rnV bt n lo hi st ∧ rnV bt n lo hi st ≤ hi := by
  by_cases q : (tkP bt n lo hi st).1 = 0
  · rw [rnV_0 q]; exact tk_0 q
  · unfold rnV; rw [selI_0 q]; omega
noncomputable def rsV (bt : Nat → Int) (n : Nat) (m : Int) (st : PS) : Int := selI (isS bt n 45 st) (-(rnV bt n 0 m (sg0 bt n st))) (rnV bt n 0 m (sg0 bt n st))
theorem rsV_0 {bt : Nat → Int} {n : Nat} {m : Int} {st : PS} (h : (sgP bt n m st).1 = 0) : rsV bt n m st = sgV bt n st := by
  have h1 : rnV bt n 0 m (sg0 bt n st) = nv bt n (sg0 bt n st) := rnV_0 h
  unfold rsV sgV
  rw [h1]
  by_cases q : isS bt n 45 st
  · rw [selI_1 q, selP_1 q]
  · rw [selI_0 q, selP_0 q]
theorem rsV_b {bt : Nat → Int} {n : Nat} {m : Int} {st : PS} (h : 0 ≤ m) : -m ≤ rsV bt n m st ∧ rsV bt n m st ≤ m := by
  have h1 := rnV_b (bt := bt) (n := n) (lo := 0) (hi := m) (st := sg0 bt n st) h
  unfold rsV
  by_cases q : isS bt n 45 st
  · rw [selI_1 q]; omega
  · rw [selI_0 q]; omega
noncomputable def exP (bt : Nat → Int) (n : Nat) (c : Int) (st : PS) : PS := nsP bt n c st
set_option maxRecDepth 100000 in
set_option maxHeartbeats 4000000 in
theorem c_X12_flaw (l : Launch) (hls : l.stackTraces = false) (G : kG) (hN : kN G = 150) (w : Nat → va_E) (fl : va_W) (u bt : Nat → Int) (n : Nat) (st : PS) (x : Int) (hx : 1 ≤ x ∧ x ≤ 5) (hn7 : n ≤ 700) (hb : btOK bt) (hm : w 133 = mdO G u) (h144 : w 144 = iA G 700 bt) (hK : mkR u bt n st) : KM l G yX12_flaw cX12_flaw 2 (none) 0 0 0 [.ref (kad G 133), vI x] w fl (kMuv fl (fun w1 => rT G u bt n (flP x st) w1 ∧ ∀ j, j ≠ 133 → w1 j = w j)) := by
  refine KM_of2 hls (by decide +kernel) rfl (lv0 := [(0, .ref (kad G 133)), (1, vI x)]) rfl (Nat.le_of_ble_eq_true rfl) (fun p e R s m args below meth c Q hC hr hQ => ?_)
  have h18 := hK.1
  have h22 := hK.2.1
  have hrg := hK.2.2.1
  have hcb := hK.cb
  have hk0 := hK.2.2.2.1
  have hk1 := hK.2.2.2.2.1
  have hdg := hK.2.2.2.2.2
  refine k_aload_n hC dX12_flaw_0 rfl 0 rfl ?_
  refine k_get hC fd_X12_386 (kl hN (by decide)) hm rfl dX12_flaw_1 ?_
  refine k_if_ne hC 20 dX12_flaw_4 rfl (by omega) (fun c_4 => ?_) (fun c_4 => ?_)
  · have hzz : st.1 ≠ 0 := by omega
    subst hQ
    exact k_vret hC hr ⟨by decide, by decide⟩ (⟨rfl, rfl, ⟨_, hm, (by rw [flP_e (by omega)]; exact hK), fun j _ => rfl⟩, fun j hj => rfl⟩) dX12_flaw_20
  · have hzz : st.1 = 0 := by omega
    have hq0 := hK.2.2.2.1 hzz
    have hen := enM_b (bt := bt) hq0.2.2.2
    refine k_aload_n hC dX12_flaw_7 rfl 0 rfl ?_
    refine k_iload_n hC dX12_flaw_8 rfl 1 rfl ?_
    refine k_put hC fd_X12_386 (kl hN (by decide)) hm [.ref (kad G 134), .ref (kad G 135), .ref (kad G 136), .ref (kad G 137), vI (u 4), vI (u 5), vI (u 6), .ref (kad G 138), .ref (kad G 139), .ref (kad G 140), .ref (kad G 141), .ref (kad G 142), vL (u 12), vL (u 13), .ref (kad G 143), vI (u 15), .ref (kad G 144), vI (u 17), vI (u 18), vI (u 19), vI (u 20), vI (u 21), vI x, vI (u 23), vI (u 24), vI (u 25), .ref (kad G 145), .ref (kad G 146), .ref (kad G 147), vI (u 29)] rfl (Nat.le_of_ble_eq_true rfl) rfl rfl dX12_flaw_9 (fun w1 hw1 hf1 => ?_)
    refine k_aload_n hC dX12_flaw_12 rfl 0 rfl ?_
    refine k_aload_n hC dX12_flaw_13 rfl 0 rfl ?_
    refine k_get hC fd_X12_374 (kl hN (by decide)) hw1 rfl dX12_flaw_14 ?_
    refine k_topv (vI (u 20)) rfl ?_
    refine k_put hC fd_X12_395 (kl hN (by decide)) hw1 [.ref (kad G 134), .ref (kad G 135), .ref (kad G 136), .ref (kad G 137), vI (u 4), vI (u 5), vI (u 6), .ref (kad G 138), .ref (kad G 139), .ref (kad G 140), .ref (kad G 141), .ref (kad G 142), vL (u 12), vL (u 13), .ref (kad G 143), vI (u 15), .ref (kad G 144), vI (u 17), vI (u 18), vI (u 19), vI (u 20), vI (u 21), vI x, vI (u 20), vI (u 24), vI (u 25), .ref (kad G 145), .ref (kad G 146), .ref (kad G 147), vI (u 29)] rfl (Nat.le_of_ble_eq_true rfl) rfl rfl dX12_flaw_17 (fun w2 hw2 hf2 => ?_)
    subst hQ
    exact k_vret hC hr ⟨by decide, by decide⟩ (⟨rfl, rfl, ⟨_, hw2, mk_flaw hK (by omega) hx, fun j hj => (kup_n (by omega)).trans (kup_n (by omega))⟩, fun j hj => (hf2 j (by omega)).trans (hf1 j (by omega))⟩) dX12_flaw_20

set_option maxRecDepth 100000 in
set_option maxHeartbeats 4000000 in
theorem c_X12_check0 (l : Launch) (hls : l.stackTraces = false) (G : kG) (hN : kN G = 150) (w : Nat → va_E) (fl : va_W) (u bt : Nat → Int) (n : Nat) (st : PS) (x : Int) (hx : 1 ≤ x ∧ x ≤ 5) (hn7 : n ≤ 700) (hb : btOK bt) (hm : w 133 = mdO G u) (h144 : w 144 = iA G 700 bt) (hK : mkR u bt n st) : KM l G yX12_check cX12_check 3 (none) 1 0 0 [.ref (kad G 133), vI 0, vI x] w fl (kMuv fl (fun w1 => rT G u bt n (flP x st) w1 ∧ ∀ j, j ≠ 133 → w1 j = w j)) := by
  refine KM_of2 hls (by decide +kernel) rfl (lv0 := [(0, .ref (kad G 133)), (1, vI 0), (2, vI x)]) rfl (Nat.le_of_ble_eq_true rfl) (fun p e R s m args below meth c Q hC hr hQ => ?_)
  have h18 := hK.1
  have h22 := hK.2.1
  have hrg := hK.2.2.1
  have hcb := hK.cb
  have hk0 := hK.2.2.2.1
  have hk1 := hK.2.2.2.2.1
  have hdg := hK.2.2.2.2.2
  refine k_iload_n hC dX12_check_0 rfl 1 rfl ?_
  refine k_if_ne hC 9 dX12_check_1 rfl (by omega) (fun c_1 => absurd c_1 (by omega)) (fun c_1 => ?_)
  refine k_aload_n hC dX12_check_4 rfl 0 rfl ?_
  refine k_iload_n hC dX12_check_5 rfl 2 rfl ?_
  refine k_muvV hC (c_X12_flaw l hls G hN w fl u bt n st x (by omega) hn7 hb hm h144 hK) yy_X12_flaw wm_X12_398 (kl hN (by decide)) hm rfl rfl rfl rfl (Nat.le_of_ble_eq_true rfl) (by decide) (by decide) ⟨by decide, by decide⟩ dX12_check_6 (fun w1 hp1 => ?_)
  obtain ⟨hT1, hf1⟩ := hp1
  obtain ⟨u1, hu1, hKr1, hs1⟩ := hT1
  obtain ⟨st_2, est_2⟩ : ∃ z : PS, z = flP x st := ⟨_, rfl⟩
  rw [← est_2] at hKr1
  have h18r1 := hKr1.1
  have h22r1 := hKr1.2.1
  have hrgr1 := hKr1.2.2.1
  have hcbr1 := hKr1.cb
  have hzzr1 : st_2.1 ≠ 0 := by rw [est_2]; exact fl_c (by omega)
  subst hQ
  exact k_vret hC hr ⟨by decide, by decide⟩ (⟨rfl, rfl, ⟨_, hu1, (by have e : st_2 = flP x st := (by exact est_2); rw [← e]; exact hKr1), (uS.tr (fun j _ => rfl) hs1)⟩, fun j hj => hf1 j (by omega)⟩) dX12_check_9

set_option maxRecDepth 100000 in
set_option maxHeartbeats 4000000 in
theorem c_X12_check1 (l : Launch) (hls : l.stackTraces = false) (G : kG) (hN : kN G = 150) (w : Nat → va_E) (fl : va_W) (u bt : Nat → Int) (n : Nat) (st : PS) (x : Int) (hx : 1 ≤ x ∧ x ≤ 5) (hn7 : n ≤ 700) (hb : btOK bt) (hm : w 133 = mdO G u) (h144 : w 144 = iA G 700 bt) (hK : mkR u bt n st) : KM l G yX12_check cX12_check 3 (none) 0 0 0 [.ref (kad G 133), vI 1, vI x] w fl (kMuv fl (fun w1 => rT G u bt n (st) w1 ∧ ∀ j, j ≠ 133 → w1 j = w j)) := by
  refine KM_of2 hls (by decide +kernel) rfl (lv0 := [(0, .ref (kad G 133)), (1, vI 1), (2, vI x)]) rfl (Nat.le_of_ble_eq_true rfl) (fun p e R s m args below meth c Q hC hr hQ => ?_)
  have h18 := hK.1
  have h22 := hK.2.1
  have hrg := hK.2.2.1
  have hcb := hK.cb
  have hk0 := hK.2.2.2.1
  have hk1 := hK.2.2.2.2.1
  have hdg := hK.2.2.2.2.2
  refine k_iload_n hC dX12_check_0 rfl 1 rfl ?_
  refine k_if_ne hC 9 dX12_check_1 rfl (by omega) (fun c_1 => ?_) (fun c_1 => absurd c_1 (by omega))
  subst hQ
  exact k_vret hC hr ⟨by decide, by decide⟩ (⟨rfl, rfl, ⟨_, hm, hK, (fun j _ => rfl)⟩, fun j hj => rfl⟩) dX12_check_9

set_option maxRecDepth 100000 in
set_option maxHeartbeats 4000000 in
theorem c_X12_checkB (l : Launch) (hls : l.stackTraces = false) (G : kG) (hN : kN G = 150) (w : Nat → va_E) (fl : va_W) (u bt : Nat → Int) (n : Nat) (st : PS) (b x : Int) (hb01 : b = 0 ∨ b = 1) (hx : 1 ≤ x ∧ x ≤ 5) (hn7 : n ≤ 700) (hb : btOK bt) (hm : w 133 = mdO G u) (h144 : w 144 = iA G 700 bt) (hK : mkR u bt n st) : KM l G yX12_check cX12_check 3 (none) 1 0 0 [.ref (kad G 133), vI b, vI x] w fl (kMuv fl (fun w1 => rT G u bt n (selP (b ≠ 0) st (flP x st)) w1 ∧ ∀ j, j ≠ 133 → w1 j = w j)) := by
  refine KM_of2 hls (by decide +kernel) rfl (lv0 := [(0, .ref (kad G 133)), (1, vI b), (2, vI x)]) rfl (Nat.le_of_ble_eq_true rfl) (fun p e R s m args below meth c Q hC hr hQ => ?_)
  have h18 := hK.1
  have h22 := hK.2.1
  have hrg := hK.2.2.1
  have hcb := hK.cb
  have hk0 := hK.2.2.2.1
  have hk1 := hK.2.2.2.2.1
  have hdg := hK.2.2.2.2.2
  refine k_iload_n hC dX12_check_0 rfl 1 rfl ?_
  refine k_if_ne hC 9 dX12_check_1 rfl (by omega) (fun c_1 => ?_) (fun c_1 => ?_)
  · subst hQ
    exact k_vret hC hr ⟨by decide, by decide⟩ (⟨rfl, rfl, ⟨_, hm, (by have e : st = selP (b ≠ 0) st (flP x st) := (by exact (selP_1 (by omega)).symm); rw [← e]; exact hK), (fun j _ => rfl)⟩, fun j hj => rfl⟩) dX12_check_9
  · refine k_aload_n hC dX12_check_4 rfl 0 rfl ?_
    refine k_iload_n hC dX12_check_5 rfl 2 rfl ?_
    refine k_muvV hC (c_X12_flaw l hls G hN w fl u bt n st x (by omega) hn7 hb hm h144 hK) yy_X12_flaw wm_X12_398 (kl hN (by decide)) hm rfl rfl rfl rfl (Nat.le_of_ble_eq_true rfl) (by decide) (by decide) ⟨by decide, by decide⟩ dX12_check_6 (fun w1 hp1 => ?_)
    obtain ⟨hT1, hf1⟩ := hp1
    obtain ⟨u1, hu1, hKr1, hs1⟩ := hT1
    obtain ⟨st_2, est_2⟩ : ∃ z : PS, z = flP x st := ⟨_, rfl⟩
    rw [← est_2] at hKr1
    have h18r1 := hKr1.1
    have h22r1 := hKr1.2.1
    have hrgr1 := hKr1.2.2.1
    have hcbr1 := hKr1.cb
    have hzzr1 : st_2.1 ≠ 0 := by rw [est_2]; exact fl_c (by omega)
    subst hQ
    exact k_vret hC hr ⟨by decide, by decide⟩ (⟨rfl, rfl, ⟨_, hu1, (by have e : st_2 = selP (b ≠ 0) st (flP x st) := (by rw [selP_0 (by omega)]; exact est_2); rw [← e]; exact hKr1), (uS.tr (fun j _ => rfl) hs1)⟩, fun j hj => hf1 j (by omega)⟩) dX12_check_9

set_option maxRecDepth 100000 in
set_option maxHeartbeats 4000000 in
theorem c_X12_advance (l : Launch) (hls : l.stackTraces = false) (G : kG) (hN : kN G = 150) (w : Nat → va_E) (fl : va_W) (u bt : Nat → Int) (n : Nat) (st : PS) (hn7 : n ≤ 700) (hb : btOK bt) (hm : w 133 = mdO G u) (h144 : w 144 = iA G 700 bt) (hK : mkR u bt n st) : KM l G yX12_advance cX12_advance 1 (none) 3 0 0 [.ref (kad G 133)] w fl (kMuv fl (fun w1 => rT G u bt n (adP bt n st) w1 ∧ ∀ j, j ≠ 133 → w1 j = w j)) := by
  refine KM_of2 hls (by decide +kernel) rfl (lv0 := [(0, .ref (kad G 133))]) rfl (Nat.le_of_ble_eq_true rfl) (fun p e R s m args below meth c Q hC hr hQ => ?_)
  have h18 := hK.1
  have h22 := hK.2.1
  have hrg := hK.2.2.1
  have hcb := hK.cb
  have hk0 := hK.2.2.2.1
  have hk1 := hK.2.2.2.2.1
  have hdg := hK.2.2.2.2.2
  refine k_aload_n hC dX12_advance_0 rfl 0 rfl ?_
  refine k_get hC fd_X12_386 (kl hN (by decide)) hm rfl dX12_advance_1 ?_
  refine k_if_ne hC 11 dX12_advance_4 rfl (by omega) (fun c_4 => ?_) (fun c_4 => ?_)
  · have hzz : st.1 ≠ 0 := by omega
    subst hQ
    exact k_vret hC hr ⟨by decide, by decide⟩ (⟨rfl, rfl, ⟨_, hm, (by have e : st = adP bt n st := (by exact (adP_e (by omega)).symm); rw [← e]; exact hK), (fun j _ => rfl)⟩, fun j hj => rfl⟩) dX12_advance_11
  · have hzz : st.1 = 0 := by omega
    have hq0 := hK.2.2.2.1 hzz
    have hen := enM_b (bt := bt) hq0.2.2.2
    refine k_aload_n hC dX12_advance_7 rfl 0 rfl ?_
    refine k_muvV hC (c_X12_scan l hls G hN w fl u bt n (enM bt n st.2.2) (by omega) (by omega) hn7 hb hm h18 h144) yy_X12_scan wm_X12_392 (kl hN (by decide)) hm rfl rfl rfl rfl (Nat.le_of_ble_eq_true rfl) (by decide) (by decide) ⟨by decide, by decide⟩ dX12_advance_8 (fun w1 hp1 => ?_)
    obtain ⟨hu1, hf1⟩ := hp1
    have hT1 : rT G u bt n (adP bt n st) w1 := ⟨_, hu1, mk_scan (by exact h18) (by omega) (by omega) (adP_0 (by omega)), fun j hj => (kup_n (by omega)).trans ((kup_n (by omega)).trans (kup_n (by omega)))⟩
    obtain ⟨u1, hu1, hKr1, hs1⟩ := hT1
    obtain ⟨st_2, est_2⟩ : ∃ z : PS, z = adP bt n st := ⟨_, rfl⟩
    rw [← est_2] at hKr1
    have h18r1 := hKr1.1
    have h22r1 := hKr1.2.1
    have hrgr1 := hKr1.2.2.1
    have hcbr1 := hKr1.cb
    have hzir1 : st_2.1 = 0 := by rw [est_2]; exact ad_c.mpr (by omega)
    have hzzr1 : st_2.1 = 0 := by omega
    have hq0r1 := hKr1.2.2.2.1 hzzr1
    have henr1 := enM_b (bt := bt) hq0r1.2.2.2
    subst hQ
    exact k_vret hC hr ⟨by decide, by decide⟩ (⟨rfl, rfl, ⟨_, hu1, (by have e : st_2 = adP bt n st := (by exact est_2); rw [← e]; exact hKr1), (uS.tr (fun j _ => rfl) hs1)⟩, fun j hj => hf1 j (by omega)⟩) dX12_advance_11

set_option maxRecDepth 100000 in
set_option maxHeartbeats 4000000 in
theorem c_X12_isSymbol (l : Launch) (hls : l.stackTraces = false) (G : kG) (hN : kN G = 150) (w : Nat → va_E) (fl : va_W) (u bt : Nat → Int) (n : Nat) (st : PS) (x : Int) (hx : 0 ≤ x ∧ x ≤ 65535) (hn7 : n ≤ 700) (hb : btOK bt) (hm : w 133 = mdO G u) (h144 : w 144 = iA G 700 bt) (hK : mkR u bt n st) : KM l G yX12_isSymbol cX12_isSymbol 2 (some (FieldType.boolean)) 0 0 0 [.ref (kad G 133), vI x] w fl (kPure (vI (selI (isS bt n x st) 1 0)) w fl) := by
  refine KM_of2 hls (by decide +kernel) rfl (lv0 := [(0, .ref (kad G 133)), (1, vI x)]) rfl (Nat.le_of_ble_eq_true rfl) (fun p e R s m args below meth c Q hC hr hQ => ?_)
  have h18 := hK.1
  have h22 := hK.2.1
  have hrg := hK.2.2.1
  have hcb := hK.cb
  have hk0 := hK.2.2.2.1
  have hk1 := hK.2.2.2.2.1
  have hdg := hK.2.2.2.2.2
  refine k_aload_n hC dX12_isSymbol_0 rfl 0 rfl ?_
  refine k_get hC fd_X12_386 (kl hN (by decide)) hm rfl dX12_isSymbol_1 ?_
  refine k_if_ne hC 32 dX12_isSymbol_4 rfl (by omega) (fun c_4 => ?_) (fun c_4 => ?_)
  · have hzz : st.1 ≠ 0 := by omega
    refine k_iconst hC dX12_isSymbol_32 ?_
    subst hQ
    exact k_zret hC (by omega) hr ⟨by decide, by decide⟩ (⟨congrArg (fun z => some (vI z)) (selI_0 (fun q => by have q1 := q.1; have q2 := q.2.1; have q3 := q.2.2; have q4 := hk0 q1; omega)), rfl, rfl⟩) dX12_isSymbol_33
  · have hzz : st.1 = 0 := by omega
    have hq0 := hK.2.2.2.1 hzz
    have hen := enM_b (bt := bt) hq0.2.2.2
    have hkc := kd_c bt n st.2.2
    refine k_aload_n hC dX12_isSymbol_7 rfl 0 rfl ?_
    refine k_get hC fd_X12_377 (kl hN (by decide)) hm rfl dX12_isSymbol_8 ?_
    refine k_iconst hC dX12_isSymbol_11 ?_
    refine k_icmp_ne hC 32 dX12_isSymbol_12 rfl (by omega) (by omega) (fun c_12 => ?_) (fun c_12 => ?_)
    · refine k_iconst hC dX12_isSymbol_32 ?_
      subst hQ
      exact k_zret hC (by omega) hr ⟨by decide, by decide⟩ (⟨congrArg (fun z => some (vI z)) (selI_0 (fun q => by have q1 := q.1; have q2 := q.2.1; have q3 := q.2.2; have q4 := hk0 q1; omega)), rfl, rfl⟩) dX12_isSymbol_33
    · refine k_aload_n hC dX12_isSymbol_15 rfl 0 rfl ?_
      refine k_get hC fd_X12_41 (kl hN (by decide)) hm rfl dX12_isSymbol_16 ?_
      refine k_aload_n hC dX12_isSymbol_19 rfl 0 rfl ?_
      refine k_get hC fd_X12_374 (kl hN (by decide)) hm rfl dX12_isSymbol_20 ?_
      refine k_topv (vI ((st.2.2 : Int))) (congrArg vI (by omega)) ?_
      have hbl := hb st.2.2
      refine k_iald hC (kl hN (by decide)) h144 (by omega) (by decide) dX12_isSymbol_23 ?_
      refine k_topv (vI (bt st.2.2)) rfl ?_
      refine k_iload_n hC dX12_isSymbol_24 rfl 1 rfl ?_
      refine k_icmp_ne hC 32 dX12_isSymbol_25 rfl (by omega) (by omega) (fun c_25 => ?_) (fun c_25 => ?_)
      · refine k_iconst hC dX12_isSymbol_32 ?_
        subst hQ
        exact k_zret hC (by omega) hr ⟨by decide, by decide⟩ (⟨congrArg (fun z => some (vI z)) (selI_0 (fun q => by have q1 := q.1; have q2 := q.2.1; have q3 := q.2.2; have q4 := hk0 q1; omega)), rfl, rfl⟩) dX12_isSymbol_33
      · refine k_iconst hC dX12_isSymbol_28 ?_
        refine k_goto hC 33 dX12_isSymbol_29 rfl ?_
        subst hQ
        exact k_zret hC (by omega) hr ⟨by decide, by decide⟩ (⟨congrArg (fun z => some (vI z)) (selI_1 (⟨by omega, by omega, by omega⟩)), rfl, rfl⟩) dX12_isSymbol_33

set_option maxRecDepth 100000 in
set_option maxHeartbeats 4000000 in
theorem c_X12_isWord (l : Launch) (hls : l.stackTraces = false) (G : kG) (hN : kN G = 150) (w : Nat → va_E) (fl : va_W) (u bt : Nat → Int) (n : Nat) (st : PS) (t : Nat) (ht : t < kNs) (hn7 : n ≤ 700) (hb : btOK bt) (hm : w 133 = mdO G u) (h144 : w 144 = iA G 700 bt) (hK : mkR u bt n st) : KM l G yX12_isWord cX12_isWord 4 (some (FieldType.boolean)) 4 0 0 [.ref (kad G 133), .ref (kadK G t)] w fl (kPure (vI (selI (isW bt n t st) 1 0)) w fl) := by
  refine KM_of2 hls (by decide +kernel) rfl (lv0 := [(0, .ref (kad G 133)), (1, .ref (kadK G t))]) rfl (Nat.le_of_ble_eq_true rfl) (fun p e R s m args below meth c Q hC hr hQ => ?_)
  have hst := stL_b ht
  have h18 := hK.1
  have h22 := hK.2.1
  have hrg := hK.2.2.1
  have hcb := hK.cb
  have hk0 := hK.2.2.2.1
  have hk1 := hK.2.2.2.2.1
  have hdg := hK.2.2.2.2.2
  refine k_aload_n hC dX12_isWord_0 rfl 0 rfl ?_
  refine k_get hC fd_X12_386 (kl hN (by decide)) hm rfl dX12_isWord_1 ?_
  refine k_if_ne hC 35 dX12_isWord_4 rfl (by omega) (fun c_4 => ?_) (fun c_4 => ?_)
  · have hzz : st.1 ≠ 0 := by omega
    refine k_iconst hC dX12_isWord_35 ?_
    refine k_istore_n hC [(2, vI 0), (0, .ref (kad G 133)), (1, .ref (kadK G t))] dX12_isWord_36 rfl (by decide) rfl ?_
    refine k_iconst hC dX12_isWord_37 ?_
    refine k_istore_n hC [(3, vI 0), (2, vI 0), (0, .ref (kad G 133)), (1, .ref (kadK G t))] dX12_isWord_38 rfl (by decide) rfl ?_
    have loop0 : ∀ (nw : Nat) (k : Nat) (sm : Int), (stL t < nw + k) → (k ≤ stL t) → ((sm = 1 ∧ (st.1 = 0 ∧ kdM bt n st.2.2 = 1 ∧ enM bt n st.2.2 = st.2.2 + stL t) ∧ ∀ i, i < k → bt (st.2.2 + i) = stC t i) ∨ (sm = 0 ∧ ¬ isW bt n t st)) → KW p l e R s m args below meth c 4 G Q w fl 0 0 39 [(3, vI (k : Int)), (2, vI sm), (0, .ref (kad G 133)), (1, .ref (kadK G t))] [] := by
      intro nw
      induction nw with
      | zero =>
        intro k sm hn_w hk hsm
        exact absurd hn_w (by omega)
      | succ nw ihw =>
        intro k sm hn_w hk hsm
        have hsm1 : sm = 0 ∨ sm = 1 := hsm.elim (fun q => Or.inr q.1) (fun q => Or.inl q.1)
        refine k_iload_n hC dX12_isWord_39 rfl 1 rfl ?_
        refine k_if_eq hC 82 dX12_isWord_40 rfl (by omega) (fun c_40 => ?_) (fun c_40 => ?_)
        · refine k_iload_n hC dX12_isWord_82 rfl 1 rfl ?_
          subst hQ
          exact k_zret hC (by omega) hr ⟨by decide, by decide⟩ (⟨congrArg (fun z => some (vI z)) (by rcases hsm with ⟨q1, q2, q3⟩ | ⟨q1, q2⟩; (first | omega | (rw [q1]; exact selI_1 ⟨q2.1, q2.2.1, q2.2.2, fun i hi => q3 i (by omega)⟩)); (rw [q1]; exact selI_0 q2)), rfl, rfl⟩) dX12_isWord_83
        · have hs1 : st.1 = 0 ∧ kdM bt n st.2.2 = 1 ∧ enM bt n st.2.2 = st.2.2 + stL t := (hsm.resolve_right (fun q => by omega)).2.1
          have hq9 := hk0 hs1.1
          have hen9 := enM_b (bt := bt) hq9.2.2.2
          refine k_iload_n hC dX12_isWord_43 rfl 0 rfl ?_
          refine k_aload_n hC dX12_isWord_44 rfl 3 rfl ?_
          refine k_pureVK hC (c_J0_length_8abf5 l hls G hN w fl t ht) yy_J0_length_8abf5 wm_X12_401 ht rfl rfl rfl (Nat.le_of_ble_eq_true rfl) (by decide) (by decide) ⟨by decide, by decide⟩ dX12_isWord_45 ?_
          refine k_icmp_ge hC 82 dX12_isWord_48 rfl (by omega) (by omega) (fun c_48 => ?_) (fun c_48 => ?_)
          · refine k_iload_n hC dX12_isWord_82 rfl 1 rfl ?_
            subst hQ
            exact k_zret hC (by omega) hr ⟨by decide, by decide⟩ (⟨congrArg (fun z => some (vI z)) (by rcases hsm with ⟨q1, q2, q3⟩ | ⟨q1, q2⟩; (first | omega | (rw [q1]; exact selI_1 ⟨q2.1, q2.2.1, q2.2.2, fun i hi => q3 i (by omega)⟩)); (rw [q1]; exact selI_0 q2)), rfl, rfl⟩) dX12_isWord_83
          · have hsc := stC_r ht (i := k) (by omega)
            have hbl := hb (st.2.2 + k)
            refine k_aload_n hC dX12_isWord_51 rfl 3 rfl ?_
            refine k_iload_n hC dX12_isWord_52 rfl 0 rfl ?_
            refine k_pureVK hC (c_J0_charAt_5068e l hls G hN w fl t k ht (by omega)) yy_J0_charAt_5068e wm_X12_405 ht rfl rfl rfl (Nat.le_of_ble_eq_true rfl) (by decide) (by decide) ⟨by decide, by decide⟩ dX12_isWord_53 ?_
            refine k_aload_n hC dX12_isWord_56 rfl 2 rfl ?_
            refine k_get hC fd_X12_41 (kl hN (by decide)) hm rfl dX12_isWord_57 ?_
            refine k_aload_n hC dX12_isWord_60 rfl 2 rfl ?_
            refine k_get hC fd_X12_374 (kl hN (by decide)) hm rfl dX12_isWord_61 ?_
            refine k_iload_n hC dX12_isWord_64 rfl 0 rfl ?_
            refine k_iadd hC dX12_isWord_65 ?_
            refine k_topv (vI (((st.2.2 + k : Nat) : Int))) (congrArg vI (by omega)) ?_
            refine k_iald hC (kl hN (by decide)) h144 (by omega) (by decide) dX12_isWord_66 ?_
            refine k_topv (vI (bt (st.2.2 + k))) rfl ?_
            refine k_icmp_ne hC 74 dX12_isWord_67 rfl (by omega) (by omega) (fun c_67 => ?_) (fun c_67 => ?_)
            · refine k_iconst hC dX12_isWord_74 ?_
              refine k_istore_n hC [(2, vI 0), (3, vI (k : Int)), (0, .ref (kad G 133)), (1, .ref (kadK G t))] dX12_isWord_75 rfl (by decide) rfl ?_
              refine k_iinc hC (y := (k : Int) + 1) [(3, vI ((k : Int) + 1)), (2, vI 0), (0, .ref (kad G 133)), (1, .ref (kadK G t))] (j := 1) dX12_isWord_76 rfl (by omega) (by decide) rfl ?_
              refine k_goto hC 39 dX12_isWord_79 rfl ?_
              refine k_lvs (ls := [0, 1, 2, 3]) [(3, vI ((k + 1 : Nat) : Int)), (2, vI 0), (0, .ref (kad G 133)), (1, .ref (kadK G t))] (by simp only [lv_pick]; rfl) ?_
              exact ihw (k + 1) 0  (by omega) (by omega) (Or.inr ⟨rfl, fun q => by have q3 := q.2.2.2 k (by omega); exact c_67 q3.symm⟩)
            · refine k_iconst hC dX12_isWord_70 ?_
              refine k_goto hC 75 dX12_isWord_71 rfl ?_
              refine k_istore_n hC [(2, vI 1), (3, vI (k : Int)), (0, .ref (kad G 133)), (1, .ref (kadK G t))] dX12_isWord_75 rfl (by decide) rfl ?_
              refine k_iinc hC (y := (k : Int) + 1) [(3, vI ((k : Int) + 1)), (2, vI 1), (0, .ref (kad G 133)), (1, .ref (kadK G t))] (j := 1) dX12_isWord_76 rfl (by omega) (by decide) rfl ?_
              refine k_goto hC 39 dX12_isWord_79 rfl ?_
              refine k_lvs (ls := [0, 1, 2, 3]) [(3, vI ((k + 1 : Nat) : Int)), (2, vI 1), (0, .ref (kad G 133)), (1, .ref (kadK G t))] (by simp only [lv_pick]; rfl) ?_
              exact ihw (k + 1) 1  (by omega) (by omega) (hsm.elim (fun q => Or.inl ⟨rfl, q.2.1, fun i hi => by by_cases e : i = k; (subst e; exact c_67.symm); (exact q.2.2 i (by omega))⟩) (fun q => absurd q.1 (by omega)))
    refine k_lvs (ls := [0, 1, 2, 3]) [(3, vI ((0 : Nat) : Int)), (2, vI 0), (0, .ref (kad G 133)), (1, .ref (kadK G t))] (by simp only [lv_pick]; rfl) ?_
    exact loop0 (stL t + 1) 0 0  (by omega) (by omega) (Or.inr ⟨rfl, fun q => by have q1 := q.1; have q2 := q.2.1; have q3 := q.2.2.1; have q4 := hk0 q1; omega⟩)
  · have hzz : st.1 = 0 := by omega
    have hq0 := hK.2.2.2.1 hzz
    have hen := enM_b (bt := bt) hq0.2.2.2
    refine k_aload_n hC dX12_isWord_7 rfl 0 rfl ?_
    refine k_get hC fd_X12_377 (kl hN (by decide)) hm rfl dX12_isWord_8 ?_
    refine k_iconst hC dX12_isWord_11 ?_
    refine k_icmp_ne hC 35 dX12_isWord_12 rfl (by omega) (by omega) (fun c_12 => ?_) (fun c_12 => ?_)
    · refine k_iconst hC dX12_isWord_35 ?_
      refine k_istore_n hC [(2, vI 0), (0, .ref (kad G 133)), (1, .ref (kadK G t))] dX12_isWord_36 rfl (by decide) rfl ?_
      refine k_iconst hC dX12_isWord_37 ?_
      refine k_istore_n hC [(3, vI 0), (2, vI 0), (0, .ref (kad G 133)), (1, .ref (kadK G t))] dX12_isWord_38 rfl (by decide) rfl ?_
      have loop0 : ∀ (nw : Nat) (k : Nat) (sm : Int), (stL t < nw + k) → (k ≤ stL t) → ((sm = 1 ∧ (st.1 = 0 ∧ kdM bt n st.2.2 = 1 ∧ enM bt n st.2.2 = st.2.2 + stL t) ∧ ∀ i, i < k → bt (st.2.2 + i) = stC t i) ∨ (sm = 0 ∧ ¬ isW bt n t st)) → KW p l e R s m args below meth c 4 G Q w fl 0 0 39 [(3, vI (k : Int)), (2, vI sm), (0, .ref (kad G 133)), (1, .ref (kadK G t))] [] := by
        intro nw
        induction nw with
        | zero =>
          intro k sm hn_w hk hsm
          exact absurd hn_w (by omega)
        | succ nw ihw =>
          intro k sm hn_w hk hsm
          have hsm1 : sm = 0 ∨ sm = 1 := hsm.elim (fun q => Or.inr q.1) (fun q => Or.inl q.1)
          refine k_iload_n hC dX12_isWord_39 rfl 1 rfl ?_
          refine k_if_eq hC 82 dX12_isWord_40 rfl (by omega) (fun c_40 => ?_) (fun c_40 => ?_)
          · refine k_iload_n hC dX12_isWord_82 rfl 1 rfl ?_
            subst hQ
            exact k_zret hC (by omega) hr ⟨by decide, by decide⟩ (⟨congrArg (fun z => some (vI z)) (by rcases hsm with ⟨q1, q2, q3⟩ | ⟨q1, q2⟩; (first | omega | (rw [q1]; exact selI_1 ⟨q2.1, q2.2.1, q2.2.2, fun i hi => q3 i (by omega)⟩)); (rw [q1]; exact selI_0 q2)), rfl, rfl⟩) dX12_isWord_83
          · have hs1 : st.1 = 0 ∧ kdM bt n st.2.2 = 1 ∧ enM bt n st.2.2 = st.2.2 + stL t := (hsm.resolve_right (fun q => by omega)).2.1
            have hq9 := hk0 hs1.1
            have hen9 := enM_b (bt := bt) hq9.2.2.2
            refine k_iload_n hC dX12_isWord_43 rfl 0 rfl ?_
            refine k_aload_n hC dX12_isWord_44 rfl 3 rfl ?_
            refine k_pureVK hC (c_J0_length_8abf5 l hls G hN w fl t ht) yy_J0_length_8abf5 wm_X12_401 ht rfl rfl rfl (Nat.le_of_ble_eq_true rfl) (by decide) (by decide) ⟨by decide, by decide⟩ dX12_isWord_45 ?_
            refine k_icmp_ge hC 82 dX12_isWord_48 rfl (by omega) (by omega) (fun c_48 => ?_) (fun c_48 => ?_)
            · refine k_iload_n hC dX12_isWord_82 rfl 1 rfl ?_
              subst hQ
              exact k_zret hC (by omega) hr ⟨by decide, by decide⟩ (⟨congrArg (fun z => some (vI z)) (by rcases hsm with ⟨q1, q2, q3⟩ | ⟨q1, q2⟩; (first | omega | (rw [q1]; exact selI_1 ⟨q2.1, q2.2.1, q2.2.2, fun i hi => q3 i (by omega)⟩)); (rw [q1]; exact selI_0 q2)), rfl, rfl⟩) dX12_isWord_83
            · have hsc := stC_r ht (i := k) (by omega)
              have hbl := hb (st.2.2 + k)
              refine k_aload_n hC dX12_isWord_51 rfl 3 rfl ?_
              refine k_iload_n hC dX12_isWord_52 rfl 0 rfl ?_
              refine k_pureVK hC (c_J0_charAt_5068e l hls G hN w fl t k ht (by omega)) yy_J0_charAt_5068e wm_X12_405 ht rfl rfl rfl (Nat.le_of_ble_eq_true rfl) (by decide) (by decide) ⟨by decide, by decide⟩ dX12_isWord_53 ?_
              refine k_aload_n hC dX12_isWord_56 rfl 2 rfl ?_
              refine k_get hC fd_X12_41 (kl hN (by decide)) hm rfl dX12_isWord_57 ?_
              refine k_aload_n hC dX12_isWord_60 rfl 2 rfl ?_
              refine k_get hC fd_X12_374 (kl hN (by decide)) hm rfl dX12_isWord_61 ?_
              refine k_iload_n hC dX12_isWord_64 rfl 0 rfl ?_
              refine k_iadd hC dX12_isWord_65 ?_
              refine k_topv (vI (((st.2.2 + k : Nat) : Int))) (congrArg vI (by omega)) ?_
              refine k_iald hC (kl hN (by decide)) h144 (by omega) (by decide) dX12_isWord_66 ?_
              refine k_topv (vI (bt (st.2.2 + k))) rfl ?_
              refine k_icmp_ne hC 74 dX12_isWord_67 rfl (by omega) (by omega) (fun c_67 => ?_) (fun c_67 => ?_)
              · refine k_iconst hC dX12_isWord_74 ?_
                refine k_istore_n hC [(2, vI 0), (3, vI (k : Int)), (0, .ref (kad G 133)), (1, .ref (kadK G t))] dX12_isWord_75 rfl (by decide) rfl ?_
                refine k_iinc hC (y := (k : Int) + 1) [(3, vI ((k : Int) + 1)), (2, vI 0), (0, .ref (kad G 133)), (1, .ref (kadK G t))] (j := 1) dX12_isWord_76 rfl (by omega) (by decide) rfl ?_
                refine k_goto hC 39 dX12_isWord_79 rfl ?_
                refine k_lvs (ls := [0, 1, 2, 3]) [(3, vI ((k + 1 : Nat) : Int)), (2, vI 0), (0, .ref (kad G 133)), (1, .ref (kadK G t))] (by simp only [lv_pick]; rfl) ?_
                exact ihw (k + 1) 0  (by omega) (by omega) (Or.inr ⟨rfl, fun q => by have q3 := q.2.2.2 k (by omega); exact c_67 q3.symm⟩)
              · refine k_iconst hC dX12_isWord_70 ?_
                refine k_goto hC 75 dX12_isWord_71 rfl ?_
                refine k_istore_n hC [(2, vI 1), (3, vI (k : Int)), (0, .ref (kad G 133)), (1, .ref (kadK G t))] dX12_isWord_75 rfl (by decide) rfl ?_
                refine k_iinc hC (y := (k : Int) + 1) [(3, vI ((k : Int) + 1)), (2, vI 1), (0, .ref (kad G 133)), (1, .ref (kadK G t))] (j := 1) dX12_isWord_76 rfl (by omega) (by decide) rfl ?_
                refine k_goto hC 39 dX12_isWord_79 rfl ?_
                refine k_lvs (ls := [0, 1, 2, 3]) [(3, vI ((k + 1 : Nat) : Int)), (2, vI 1), (0, .ref (kad G 133)), (1, .ref (kadK G t))] (by simp only [lv_pick]; rfl) ?_
                exact ihw (k + 1) 1  (by omega) (by omega) (hsm.elim (fun q => Or.inl ⟨rfl, q.2.1, fun i hi => by by_cases e : i = k; (subst e; exact c_67.symm); (exact q.2.2 i (by omega))⟩) (fun q => absurd q.1 (by omega)))
      refine k_lvs (ls := [0, 1, 2, 3]) [(3, vI ((0 : Nat) : Int)), (2, vI 0), (0, .ref (kad G 133)), (1, .ref (kadK G t))] (by simp only [lv_pick]; rfl) ?_
      exact loop0 (stL t + 1) 0 0  (by omega) (by omega) (Or.inr ⟨rfl, fun q => by have q1 := q.1; have q2 := q.2.1; have q3 := q.2.2.1; have q4 := hk0 q1; omega⟩)
    · refine k_aload_n hC dX12_isWord_15 rfl 1 rfl ?_
      refine k_pureVK hC (c_J0_length_8abf5 l hls G hN w fl t ht) yy_J0_length_8abf5 wm_X12_401 ht rfl rfl rfl (Nat.le_of_ble_eq_true rfl) (by decide) (by decide) ⟨by decide, by decide⟩ dX12_isWord_16 ?_
      refine k_aload_n hC dX12_isWord_19 rfl 0 rfl ?_
      refine k_get hC fd_X12_371 (kl hN (by decide)) hm rfl dX12_isWord_20 ?_
      refine k_aload_n hC dX12_isWord_23 rfl 0 rfl ?_
      refine k_get hC fd_X12_374 (kl hN (by decide)) hm rfl dX12_isWord_24 ?_
      refine k_isub hC dX12_isWord_27 ?_
      refine k_icmp_ne hC 35 dX12_isWord_28 rfl (by omega) (by omega) (fun c_28 => ?_) (fun c_28 => ?_)
      · refine k_iconst hC dX12_isWord_35 ?_
        refine k_istore_n hC [(2, vI 0), (0, .ref (kad G 133)), (1, .ref (kadK G t))] dX12_isWord_36 rfl (by decide) rfl ?_
        refine k_iconst hC dX12_isWord_37 ?_
        refine k_istore_n hC [(3, vI 0), (2, vI 0), (0, .ref (kad G 133)), (1, .ref (kadK G t))] dX12_isWord_38 rfl (by decide) rfl ?_
        have loop0 : ∀ (nw : Nat) (k : Nat) (sm : Int), (stL t < nw + k) → (k ≤ stL t) → ((sm = 1 ∧ (st.1 = 0 ∧ kdM bt n st.2.2 = 1 ∧ enM bt n st.2.2 = st.2.2 + stL t) ∧ ∀ i, i < k → bt (st.2.2 + i) = stC t i) ∨ (sm = 0 ∧ ¬ isW bt n t st)) → KW p l e R s m args below meth c 4 G Q w fl 0 0 39 [(3, vI (k : Int)), (2, vI sm), (0, .ref (kad G 133)), (1, .ref (kadK G t))] [] := by
          intro nw
          induction nw with
          | zero =>
            intro k sm hn_w hk hsm
            exact absurd hn_w (by omega)
          | succ nw ihw =>
            intro k sm hn_w hk hsm
            have hsm1 : sm = 0 ∨ sm = 1 := hsm.elim (fun q => Or.inr q.1) (fun q => Or.inl q.1)
            refine k_iload_n hC dX12_isWord_39 rfl 1 rfl ?_
            refine k_if_eq hC 82 dX12_isWord_40 rfl (by omega) (fun c_40 => ?_) (fun c_40 => ?_)
            · refine k_iload_n hC dX12_isWord_82 rfl 1 rfl ?_
              subst hQ
              exact k_zret hC (by omega) hr ⟨by decide, by decide⟩ (⟨congrArg (fun z => some (vI z)) (by rcases hsm with ⟨q1, q2, q3⟩ | ⟨q1, q2⟩; (first | omega | (rw [q1]; exact selI_1 ⟨q2.1, q2.2.1, q2.2.2, fun i hi => q3 i (by omega)⟩)); (rw [q1]; exact selI_0 q2)), rfl, rfl⟩) dX12_isWord_83
            · have hs1 : st.1 = 0 ∧ kdM bt n st.2.2 = 1 ∧ enM bt n st.2.2 = st.2.2 + stL t := (hsm.resolve_right (fun q => by omega)).2.1
              have hq9 := hk0 hs1.1
              have hen9 := enM_b (bt := bt) hq9.2.2.2
              refine k_iload_n hC dX12_isWord_43 rfl 0 rfl ?_
              refine k_aload_n hC dX12_isWord_44 rfl 3 rfl ?_
              refine k_pureVK hC (c_J0_length_8abf5 l hls G hN w fl t ht) yy_J0_length_8abf5 wm_X12_401 ht rfl rfl rfl (Nat.le_of_ble_eq_true rfl) (by decide) (by decide) ⟨by decide, by decide⟩ dX12_isWord_45 ?_
              refine k_icmp_ge hC 82 dX12_isWord_48 rfl (by omega) (by omega) (fun c_48 => ?_) (fun c_48 => ?_)
              · refine k_iload_n hC dX12_isWord_82 rfl 1 rfl ?_
                subst hQ
                exact k_zret hC (by omega) hr ⟨by decide, by decide⟩ (⟨congrArg (fun z => some (vI z)) (by rcases hsm with ⟨q1, q2, q3⟩ | ⟨q1, q2⟩; (first | omega | (rw [q1]; exact selI_1 ⟨q2.1, q2.2.1, q2.2.2, fun i hi => q3 i (by omega)⟩)); (rw [q1]; exact selI_0 q2)), rfl, rfl⟩) dX12_isWord_83
              · have hsc := stC_r ht (i := k) (by omega)
                have hbl := hb (st.2.2 + k)
                refine k_aload_n hC dX12_isWord_51 rfl 3 rfl ?_
                refine k_iload_n hC dX12_isWord_52 rfl 0 rfl ?_
                refine k_pureVK hC (c_J0_charAt_5068e l hls G hN w fl t k ht (by omega)) yy_J0_charAt_5068e wm_X12_405 ht rfl rfl rfl (Nat.le_of_ble_eq_true rfl) (by decide) (by decide) ⟨by decide, by decide⟩ dX12_isWord_53 ?_
                refine k_aload_n hC dX12_isWord_56 rfl 2 rfl ?_
                refine k_get hC fd_X12_41 (kl hN (by decide)) hm rfl dX12_isWord_57 ?_
                refine k_aload_n hC dX12_isWord_60 rfl 2 rfl ?_
                refine k_get hC fd_X12_374 (kl hN (by decide)) hm rfl dX12_isWord_61 ?_
                refine k_iload_n hC dX12_isWord_64 rfl 0 rfl ?_
                refine k_iadd hC dX12_isWord_65 ?_
                refine k_topv (vI (((st.2.2 + k : Nat) : Int))) (congrArg vI (by omega)) ?_
                refine k_iald hC (kl hN (by decide)) h144 (by omega) (by decide) dX12_isWord_66 ?_
                refine k_topv (vI (bt (st.2.2 + k))) rfl ?_
                refine k_icmp_ne hC 74 dX12_isWord_67 rfl (by omega) (by omega) (fun c_67 => ?_) (fun c_67 => ?_)
                · refine k_iconst hC dX12_isWord_74 ?_
                  refine k_istore_n hC [(2, vI 0), (3, vI (k : Int)), (0, .ref (kad G 133)), (1, .ref (kadK G t))] dX12_isWord_75 rfl (by decide) rfl ?_
                  refine k_iinc hC (y := (k : Int) + 1) [(3, vI ((k : Int) + 1)), (2, vI 0), (0, .ref (kad G 133)), (1, .ref (kadK G t))] (j := 1) dX12_isWord_76 rfl (by omega) (by decide) rfl ?_
                  refine k_goto hC 39 dX12_isWord_79 rfl ?_
                  refine k_lvs (ls := [0, 1, 2, 3]) [(3, vI ((k + 1 : Nat) : Int)), (2, vI 0), (0, .ref (kad G 133)), (1, .ref (kadK G t))] (by simp only [lv_pick]; rfl) ?_
                  exact ihw (k + 1) 0  (by omega) (by omega) (Or.inr ⟨rfl, fun q => by have q3 := q.2.2.2 k (by omega); exact c_67 q3.symm⟩)
                · refine k_iconst hC dX12_isWord_70 ?_
                  refine k_goto hC 75 dX12_isWord_71 rfl ?_
                  refine k_istore_n hC [(2, vI 1), (3, vI (k : Int)), (0, .ref (kad G 133)), (1, .ref (kadK G t))] dX12_isWord_75 rfl (by decide) rfl ?_
                  refine k_iinc hC (y := (k : Int) + 1) [(3, vI ((k : Int) + 1)), (2, vI 1), (0, .ref (kad G 133)), (1, .ref (kadK G t))] (j := 1) dX12_isWord_76 rfl (by omega) (by decide) rfl ?_
                  refine k_goto hC 39 dX12_isWord_79 rfl ?_
                  refine k_lvs (ls := [0, 1, 2, 3]) [(3, vI ((k + 1 : Nat) : Int)), (2, vI 1), (0, .ref (kad G 133)), (1, .ref (kadK G t))] (by simp only [lv_pick]; rfl) ?_
                  exact ihw (k + 1) 1  (by omega) (by omega) (hsm.elim (fun q => Or.inl ⟨rfl, q.2.1, fun i hi => by by_cases e : i = k; (subst e; exact c_67.symm); (exact q.2.2 i (by omega))⟩) (fun q => absurd q.1 (by omega)))
        refine k_lvs (ls := [0, 1, 2, 3]) [(3, vI ((0 : Nat) : Int)), (2, vI 0), (0, .ref (kad G 133)), (1, .ref (kadK G t))] (by simp only [lv_pick]; rfl) ?_
        exact loop0 (stL t + 1) 0 0  (by omega) (by omega) (Or.inr ⟨rfl, fun q => by have q1 := q.1; have q2 := q.2.1; have q3 := q.2.2.1; have q4 := hk0 q1; omega⟩)
      · refine k_iconst hC dX12_isWord_31 ?_
        refine k_goto hC 36 dX12_isWord_32 rfl ?_
        refine k_istore_n hC [(2, vI 1), (0, .ref (kad G 133)), (1, .ref (kadK G t))] dX12_isWord_36 rfl (by decide) rfl ?_
        refine k_iconst hC dX12_isWord_37 ?_
        refine k_istore_n hC [(3, vI 0), (2, vI 1), (0, .ref (kad G 133)), (1, .ref (kadK G t))] dX12_isWord_38 rfl (by decide) rfl ?_
        have loop0 : ∀ (nw : Nat) (k : Nat) (sm : Int), (stL t < nw + k) → (k ≤ stL t) → ((sm = 1 ∧ (st.1 = 0 ∧ kdM bt n st.2.2 = 1 ∧ enM bt n st.2.2 = st.2.2 + stL t) ∧ ∀ i, i < k → bt (st.2.2 + i) = stC t i) ∨ (sm = 0 ∧ ¬ isW bt n t st)) → KW p l e R s m args below meth c 4 G Q w fl 0 0 39 [(3, vI (k : Int)), (2, vI sm), (0, .ref (kad G 133)), (1, .ref (kadK G t))] [] := by
          intro nw
          induction nw with
          | zero =>
            intro k sm hn_w hk hsm
            exact absurd hn_w (by omega)
          | succ nw ihw =>
            intro k sm hn_w hk hsm
            have hsm1 : sm = 0 ∨ sm = 1 := hsm.elim (fun q => Or.inr q.1) (fun q => Or.inl q.1)
            refine k_iload_n hC dX12_isWord_39 rfl 1 rfl ?_
            refine k_if_eq hC 82 dX12_isWord_40 rfl (by omega) (fun c_40 => ?_) (fun c_40 => ?_)
            · refine k_iload_n hC dX12_isWord_82 rfl 1 rfl ?_
              subst hQ
              exact k_zret hC (by omega) hr ⟨by decide, by decide⟩ (⟨congrArg (fun z => some (vI z)) (by rcases hsm with ⟨q1, q2, q3⟩ | ⟨q1, q2⟩; (first | omega | (rw [q1]; exact selI_1 ⟨q2.1, q2.2.1, q2.2.2, fun i hi => q3 i (by omega)⟩)); (rw [q1]; exact selI_0 q2)), rfl, rfl⟩) dX12_isWord_83
            · have hs1 : st.1 = 0 ∧ kdM bt n st.2.2 = 1 ∧ enM bt n st.2.2 = st.2.2 + stL t := (hsm.resolve_right (fun q => by omega)).2.1
              have hq9 := hk0 hs1.1
              have hen9 := enM_b (bt := bt) hq9.2.2.2
              refine k_iload_n hC dX12_isWord_43 rfl 0 rfl ?_
              refine k_aload_n hC dX12_isWord_44 rfl 3 rfl ?_
              refine k_pureVK hC (c_J0_length_8abf5 l hls G hN w fl t ht) yy_J0_length_8abf5 wm_X12_401 ht rfl rfl rfl (Nat.le_of_ble_eq_true rfl) (by decide) (by decide) ⟨by decide, by decide⟩ dX12_isWord_45 ?_
              refine k_icmp_ge hC 82 dX12_isWord_48 rfl (by omega) (by omega) (fun c_48 => ?_) (fun c_48 => ?_)
              · refine k_iload_n hC dX12_isWord_82 rfl 1 rfl ?_
                subst hQ
                exact k_zret hC (by omega) hr ⟨by decide, by decide⟩ (⟨congrArg (fun z => some (vI z)) (by rcases hsm with ⟨q1, q2, q3⟩ | ⟨q1, q2⟩; (first | omega | (rw [q1]; exact selI_1 ⟨q2.1, q2.2.1, q2.2.2, fun i hi => q3 i (by omega)⟩)); (rw [q1]; exact selI_0 q2)), rfl, rfl⟩) dX12_isWord_83
              · have hsc := stC_r ht (i := k) (by omega)
                have hbl := hb (st.2.2 + k)
                refine k_aload_n hC dX12_isWord_51 rfl 3 rfl ?_
                refine k_iload_n hC dX12_isWord_52 rfl 0 rfl ?_
                refine k_pureVK hC (c_J0_charAt_5068e l hls G hN w fl t k ht (by omega)) yy_J0_charAt_5068e wm_X12_405 ht rfl rfl rfl (Nat.le_of_ble_eq_true rfl) (by decide) (by decide) ⟨by decide, by decide⟩ dX12_isWord_53 ?_
                refine k_aload_n hC dX12_isWord_56 rfl 2 rfl ?_
                refine k_get hC fd_X12_41 (kl hN (by decide)) hm rfl dX12_isWord_57 ?_
                refine k_aload_n hC dX12_isWord_60 rfl 2 rfl ?_
                refine k_get hC fd_X12_374 (kl hN (by decide)) hm rfl dX12_isWord_61 ?_
                refine k_iload_n hC dX12_isWord_64 rfl 0 rfl ?_
                refine k_iadd hC dX12_isWord_65 ?_
                refine k_topv (vI (((st.2.2 + k : Nat) : Int))) (congrArg vI (by omega)) ?_
                refine k_iald hC (kl hN (by decide)) h144 (by omega) (by decide) dX12_isWord_66 ?_
                refine k_topv (vI (bt (st.2.2 + k))) rfl ?_
                refine k_icmp_ne hC 74 dX12_isWord_67 rfl (by omega) (by omega) (fun c_67 => ?_) (fun c_67 => ?_)
                · refine k_iconst hC dX12_isWord_74 ?_
                  refine k_istore_n hC [(2, vI 0), (3, vI (k : Int)), (0, .ref (kad G 133)), (1, .ref (kadK G t))] dX12_isWord_75 rfl (by decide) rfl ?_
                  refine k_iinc hC (y := (k : Int) + 1) [(3, vI ((k : Int) + 1)), (2, vI 0), (0, .ref (kad G 133)), (1, .ref (kadK G t))] (j := 1) dX12_isWord_76 rfl (by omega) (by decide) rfl ?_
                  refine k_goto hC 39 dX12_isWord_79 rfl ?_
                  refine k_lvs (ls := [0, 1, 2, 3]) [(3, vI ((k + 1 : Nat) : Int)), (2, vI 0), (0, .ref (kad G 133)), (1, .ref (kadK G t))] (by simp only [lv_pick]; rfl) ?_
                  exact ihw (k + 1) 0  (by omega) (by omega) (Or.inr ⟨rfl, fun q => by have q3 := q.2.2.2 k (by omega); exact c_67 q3.symm⟩)
                · refine k_iconst hC dX12_isWord_70 ?_
                  refine k_goto hC 75 dX12_isWord_71 rfl ?_
                  refine k_istore_n hC [(2, vI 1), (3, vI (k : Int)), (0, .ref (kad G 133)), (1, .ref (kadK G t))] dX12_isWord_75 rfl (by decide) rfl ?_
                  refine k_iinc hC (y := (k : Int) + 1) [(3, vI ((k : Int) + 1)), (2, vI 1), (0, .ref (kad G 133)), (1, .ref (kadK G t))] (j := 1) dX12_isWord_76 rfl (by omega) (by decide) rfl ?_
                  refine k_goto hC 39 dX12_isWord_79 rfl ?_
                  refine k_lvs (ls := [0, 1, 2, 3]) [(3, vI ((k + 1 : Nat) : Int)), (2, vI 1), (0, .ref (kad G 133)), (1, .ref (kadK G t))] (by simp only [lv_pick]; rfl) ?_
                  exact ihw (k + 1) 1  (by omega) (by omega) (hsm.elim (fun q => Or.inl ⟨rfl, q.2.1, fun i hi => by by_cases e : i = k; (subst e; exact c_67.symm); (exact q.2.2 i (by omega))⟩) (fun q => absurd q.1 (by omega)))
        refine k_lvs (ls := [0, 1, 2, 3]) [(3, vI ((0 : Nat) : Int)), (2, vI 1), (0, .ref (kad G 133)), (1, .ref (kadK G t))] (by simp only [lv_pick]; rfl) ?_
        exact loop0 (stL t + 1) 0 1  (by omega) (by omega) (Or.inl ⟨rfl, ⟨by omega, by omega, by omega⟩, fun i hi => absurd hi (by omega)⟩)

set_option maxRecDepth 100000 in
set_option maxHeartbeats 4000000 in
theorem c_X12_accept (l : Launch) (hls : l.stackTraces = false) (G : kG) (hN : kN G = 150) (w : Nat → va_E) (fl : va_W) (u bt : Nat → Int) (n : Nat) (st : PS) (t : Nat) (ht : t < kNs) (hn7 : n ≤ 700) (hb : btOK bt) (hm : w 133 = mdO G u) (h144 : w 144 = iA G 700 bt) (hK : mkR u bt n st) : KM l G yX12_accept cX12_accept 3 (some (FieldType.boolean)) 5 0 0 [.ref (kad G 133), .ref (kadK G t)] w fl (kMut (vI (selI (isW bt n t st) 1 0)) fl (fun w1 => rT G u bt n (selP (isW bt n t st) (adP bt n st) st) w1 ∧ ∀ j, j ≠ 133 → w1 j = w j)) := by
  refine KM_of2 hls (by decide +kernel) rfl (lv0 := [(0, .ref (kad G 133)), (1, .ref (kadK G t))]) rfl (Nat.le_of_ble_eq_true rfl) (fun p e R s m args below meth c Q hC hr hQ => ?_)
  have h18 := hK.1
  have h22 := hK.2.1
  have hrg := hK.2.2.1
  have hcb := hK.cb
  have hk0 := hK.2.2.2.1
  have hk1 := hK.2.2.2.2.1
  have hdg := hK.2.2.2.2.2
  refine k_aload_n hC dX12_accept_0 rfl 0 rfl ?_
  refine k_aload_n hC dX12_accept_1 rfl 1 rfl ?_
  refine k_pureV hC (c_X12_isWord l hls G hN w fl u bt n st t ht hn7 hb hm h144 hK) yy_X12_isWord wm_X12_409 (kl hN (by decide)) hm rfl rfl rfl rfl (Nat.le_of_ble_eq_true rfl) (by decide) (by decide) ⟨by decide, by decide⟩ dX12_accept_2 ?_
  obtain ⟨z_1, ez_1, hz_1⟩ := selI_c (isW bt n t st)
  refine k_topv (vI z_1) (by rw [ez_1]) ?_
  refine k_istore_n hC [(2, vI z_1), (0, .ref (kad G 133)), (1, .ref (kadK G t))] dX12_accept_5 rfl (by decide) rfl ?_
  refine k_iload_n hC dX12_accept_6 rfl 0 rfl ?_
  refine k_if_eq hC 14 dX12_accept_7 rfl (by omega) (fun c_7 => ?_) (fun c_7 => ?_)
  · have hwz : ¬ isW bt n t st := (hz_1.resolve_left (fun q1 => by omega)).2
    refine k_iload_n hC dX12_accept_14 rfl 0 rfl ?_
    subst hQ
    exact k_zret hC (by omega) hr ⟨by decide, by decide⟩ (⟨congrArg (fun z => some (vI z)) ez_1, rfl, ⟨_, hm, (by have e : st = selP (isW bt n t st) (adP bt n st) st := (by exact (selP_0 hwz).symm); rw [← e]; exact hK), (fun j _ => rfl)⟩, fun j hj => rfl⟩) dX12_accept_15
  · have hwz : isW bt n t st := (hz_1.resolve_right (fun q1 => by omega)).2
    have hz0 := hwz.1
    have hzz : st.1 = 0 := by omega
    have hq0 := hK.2.2.2.1 hzz
    have hen := enM_b (bt := bt) hq0.2.2.2
    refine k_aload_n hC dX12_accept_10 rfl 1 rfl ?_
    refine k_muvV hC (c_X12_scan l hls G hN w fl u bt n (enM bt n st.2.2) (by omega) (by omega) hn7 hb hm h18 h144) yy_X12_scan wm_X12_392 (kl hN (by decide)) hm rfl rfl rfl rfl (Nat.le_of_ble_eq_true rfl) (by decide) (by decide) ⟨by decide, by decide⟩ dX12_accept_11 (fun w2 hp2 => ?_)
    obtain ⟨hu2, hf2⟩ := hp2
    have hT2 : rT G u bt n (adP bt n st) w2 := ⟨_, hu2, mk_scan (by exact h18) (by omega) (by omega) (adP_0 (by omega)), fun j hj => (kup_n (by omega)).trans ((kup_n (by omega)).trans (kup_n (by omega)))⟩
    obtain ⟨u2, hu2, hKr2, hs2⟩ := hT2
    obtain ⟨st_3, est_3⟩ : ∃ z : PS, z = adP bt n st := ⟨_, rfl⟩
    rw [← est_3] at hKr2
    have h18r2 := hKr2.1
    have h22r2 := hKr2.2.1
    have hrgr2 := hKr2.2.2.1
    have hcbr2 := hKr2.cb
    have hzir2 : st_3.1 = 0 := by rw [est_3]; exact ad_c.mpr (by omega)
    have hzzr2 : st_3.1 = 0 := by omega
    have hq0r2 := hKr2.2.2.2.1 hzzr2
    have henr2 := enM_b (bt := bt) hq0r2.2.2.2
    refine k_iload_n hC dX12_accept_14 rfl 0 rfl ?_
    subst hQ
    exact k_zret hC (by omega) hr ⟨by decide, by decide⟩ (⟨congrArg (fun z => some (vI z)) ez_1, rfl, ⟨_, hu2, (by have e : st_3 = selP (isW bt n t st) (adP bt n st) st := (by rw [selP_1 hwz]; exact est_3); rw [← e]; exact hKr2), (uS.tr (fun j _ => rfl) hs2)⟩, fun j hj => hf2 j (by omega)⟩) dX12_accept_15

set_option maxRecDepth 100000 in
set_option maxHeartbeats 4000000 in
theorem c_X12_expect (l : Launch) (hls : l.stackTraces = false) (G : kG) (hN : kN G = 150) (w : Nat → va_E) (fl : va_W) (u bt : Nat → Int) (n : Nat) (st : PS) (x : Int) (hx : 0 ≤ x ∧ x ≤ 65535) (hn7 : n ≤ 700) (hb : btOK bt) (hm : w 133 = mdO G u) (h144 : w 144 = iA G 700 bt) (hK : mkR u bt n st) : KM l G yX12_expect cX12_expect 2 (none) 4 0 0 [.ref (kad G 133), vI x] w fl (kMuv fl (fun w1 => rT G u bt n (nsP bt n x st) w1 ∧ ∀ j, j ≠ 133 → w1 j = w j)) := by
  refine KM_of2 hls (by decide +kernel) rfl (lv0 := [(0, .ref (kad G 133)), (1, vI x)]) rfl (Nat.le_of_ble_eq_true rfl) (fun p e R s m args below meth c Q hC hr hQ => ?_)
  have h18 := hK.1
  have h22 := hK.2.1
  have hrg := hK.2.2.1
  have hcb := hK.cb
  have hk0 := hK.2.2.2.1
  have hk1 := hK.2.2.2.2.1
  have hdg := hK.2.2.2.2.2
  refine k_aload_n hC dX12_expect_0 rfl 0 rfl ?_
  refine k_aload_n hC dX12_expect_1 rfl 0 rfl ?_
  refine k_iload_n hC dX12_expect_2 rfl 1 rfl ?_
  refine k_pureV hC (c_X12_isSymbol l hls G hN w fl u bt n st x (by omega) hn7 hb hm h144 hK) yy_X12_isSymbol wm_X12_420 (kl hN (by decide)) hm rfl rfl rfl rfl (Nat.le_of_ble_eq_true rfl) (by decide) (by decide) ⟨by decide, by decide⟩ dX12_expect_3 ?_
  obtain ⟨z_1, ez_1, hz_1⟩ := selI_c (isS bt n x st)
  refine k_topv (vI z_1) (by rw [ez_1]) ?_
  refine k_iconst hC dX12_expect_6 ?_
  refine k_muvV hC (c_X12_checkB l hls G hN w fl u bt n st z_1 1 (by omega) (by omega) hn7 hb hm h144 hK) yy_X12_check wm_X12_413 (kl hN (by decide)) hm rfl rfl rfl rfl (Nat.le_of_ble_eq_true rfl) (by decide) (by decide) ⟨by decide, by decide⟩ dX12_expect_7 (fun w2 hp2 => ?_)
  obtain ⟨hT2, hf2⟩ := hp2
  obtain ⟨u2, hu2, hKr2, hs2⟩ := hT2
  obtain ⟨st_3, est_3⟩ : ∃ z : PS, z = selP (z_1 ≠ 0) st (flP 1 st) := ⟨_, rfl⟩
  rw [← est_3] at hKr2
  have h18r2 := hKr2.1
  have h22r2 := hKr2.2.1
  have hrgr2 := hKr2.2.2.1
  have hcbr2 := hKr2.cb
  refine k_aload_n hC dX12_expect_10 rfl 0 rfl ?_
  have h_5 : w2 144 = iA G 700 bt := (hf2 144 (by decide)).trans h144
  refine k_muvV hC (c_X12_advance l hls G hN w2 fl u2 bt n st_3  hn7 hb hu2 h_5 hKr2) yy_X12_advance wm_X12_417 (kl hN (by decide)) hu2 rfl rfl rfl rfl (Nat.le_of_ble_eq_true rfl) (by decide) (by decide) ⟨by decide, by decide⟩ dX12_expect_11 (fun w4 hp4 => ?_)
  obtain ⟨hT4, hf4⟩ := hp4
  obtain ⟨u4, hu4, hKr4, hs4⟩ := hT4
  obtain ⟨st_6, est_6⟩ : ∃ z : PS, z = adP bt n st_3 := ⟨_, rfl⟩
  rw [← est_6] at hKr4
  have h18r4 := hKr4.1
  have h22r4 := hKr4.2.1
  have hrgr4 := hKr4.2.2.1
  have hcbr4 := hKr4.cb
  subst hQ
  exact k_vret hC hr ⟨by decide, by decide⟩ (⟨rfl, rfl, ⟨_, hu4, (by have e : st_6 = nsP bt n x st := (by rcases hz_1 with ⟨q1, q2⟩ | ⟨q1, q2⟩; (unfold nsP; rw [selP_1 q2, est_6, est_3, selP_1 (by omega)]); (unfold nsP; rw [selP_0 q2, est_6, est_3, selP_0 (by omega)])); rw [← e]; exact hKr4), (uS.tr (uS.tr (fun j _ => rfl) hs2) hs4)⟩, fun j hj => (hf4 j (by omega)).trans (hf2 j (by omega))⟩) dX12_expect_14

