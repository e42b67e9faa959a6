def NmB (D : Nat → Int) : Prop := ∀ k : Nat, (k : Int) < D 0 → 0 ≤ D (12 + 4 * k) ∧ D (12 + 4 * k) ≤ 282429536480
theorem nmM_b {bt : Nat → Int} {n s : Nat} (hk : kdM bt n s = 1) (h8 : enM bt n s ≤ s + 8) : 0 ≤ nmM bt n s ∧ nmM bt n s ≤ 282429536480 := by
  have h1 : ∀ i, i < enM bt n s - s → 97 ≤ bt (s + i) ∧ bt (s + i) ≤ 122 := fun i hi => isLt_1.mp (let_in hk i (by omega))
  exact ⟨(nmG_b _ h1).1, (nmG_up _ (by omega) h1).1⟩
set_option maxRecDepth 100000 in
set_option maxHeartbeats 4000000 in
theorem c_X12_value (l : Launch) (hls : l.stackTraces = false) (G : kG) (hN : kN G = 150) (w : Nat → va_E) (fl : va_W) (u bt : Nat → Int) (n : Nat) (st : PS) (a9 b9 : Nat) (ha9 : u 20 = (a9 : Int)) (hb9 : u 19 = (b9 : Int)) (hn7 : n ≤ 700) (hb : btOK bt) (hm : w 133 = mdO G u) (h144 : w 144 = iA G 700 bt) (hK : mkR u bt n st) : KM l G yX12_value cX12_value 3 (some (FieldType.int)) 1 0 0 [.ref (kad G 133)] w fl (kPure (vI (vlM bt a9 b9 (u 21))) w fl) := by
  refine KM_of2 hls (by decide +kernel) rfl (lv0 := [(0, .ref (kad G 133))]) rfl (Nat.le_of_ble_eq_true rfl) (fun p e R s m args below meth c Q hC hr hQ => ?_)
  have h18 := hK.1
  have h22 := hK.2.1
  have hrg := hK.2.2.1
  have hcb := hK.cb
  have hk0 := hK.2.2.2.1
  have hk1 := hK.2.2.2.2.1
  have hdg := hK.2.2.2.2.2
  refine k_iconst hC dX12_value_0 ?_
  refine k_istore_n hC [(1, vI 0), (0, .ref (kad G 133))] dX12_value_1 rfl (by decide) rfl ?_
  refine k_aload_n hC dX12_value_2 rfl 1 rfl ?_
  refine k_get hC fd_X12_374 (kl hN (by decide)) hm rfl dX12_value_3 ?_
  refine k_topv (vI ((a9 : Int))) (congrArg vI (by omega)) ?_
  refine k_istore_n hC [(2, vI (a9 : Int)), (1, vI 0), (0, .ref (kad G 133))] dX12_value_6 rfl (by decide) rfl ?_
  have loop0 : ∀ (nw : Nat) (k : Nat) (v : Int), (b9 < nw + k) → (a9 ≤ k ∧ k ≤ b9) → (v = vlM bt a9 k (u 21)) → KW p l e R s m args below meth c 3 G Q w fl 0 0 7 [(2, vI (k : Int)), (1, vI v), (0, .ref (kad G 133))] [] := by
    intro nw
    induction nw with
    | zero =>
      intro k v hn_w hk hv
      exact absurd hn_w (by omega)
    | succ nw ihw =>
      intro k v hn_w hk hv
      have hvb := vlM_b (bt := bt) (a := a9) (b := k) (k := u 21) (fun q i h1 h2 => hdg q i (by omega) (by omega))
      have hbk := hb k
      refine k_iload_n hC dX12_value_7 rfl 0 rfl ?_
      refine k_aload_n hC dX12_value_8 rfl 2 rfl ?_
      refine k_get hC fd_X12_371 (kl hN (by decide)) hm rfl dX12_value_9 ?_
      refine k_icmp_ge hC 55 dX12_value_12 rfl (by omega) (by omega) (fun c_12 => ?_) (fun c_12 => ?_)
      · refine k_iload_n hC dX12_value_55 rfl 1 rfl ?_
        subst hQ
        exact k_iret hC hr ⟨by decide, by decide⟩ (⟨congrArg (fun z => some (vI z)) (by first | (rw [hv, show k = b9 by omega]) | (rw [hv]; unfold vlM; rw [if_neg (by omega), if_neg (by omega)])), rfl, rfl⟩) dX12_value_56
      · refine k_aload_n hC dX12_value_15 rfl 2 rfl ?_
        refine k_get hC fd_X12_377 (kl hN (by decide)) hm rfl dX12_value_16 ?_
        refine k_iconst hC dX12_value_19 ?_
        refine k_icmp_ne hC 55 dX12_value_20 rfl (by omega) (by omega) (fun c_20 => ?_) (fun c_20 => ?_)
        · refine k_iload_n hC dX12_value_55 rfl 1 rfl ?_
          subst hQ
          exact k_iret hC hr ⟨by decide, by decide⟩ (⟨congrArg (fun z => some (vI z)) (by first | (rw [hv, show k = b9 by omega]) | (rw [hv]; unfold vlM; rw [if_neg (by omega), if_neg (by omega)])), rfl, rfl⟩) dX12_value_56
        · have hd0 := isDg_1.mp (hdg (by omega) k (by omega) (by omega))
          refine k_ldc2 hC (x := 2000000000) (v := 2000000000) dX12_value_23 (by decide) wk_X12_423 ?_
          refine k_ldc2 hC (x := 10) (v := 10) dX12_value_26 (by decide) wk_X12_336 ?_
          refine k_iload_n hC dX12_value_29 rfl 1 rfl ?_
          refine k_i2l hC dX12_value_30 (by omega) ?_
          refine k_lmul hC dX12_value_31 ?_
          refine k_aload_n hC dX12_value_32 rfl 2 rfl ?_
          refine k_get hC fd_X12_41 (kl hN (by decide)) hm rfl dX12_value_33 ?_
          refine k_iload_n hC dX12_value_36 rfl 0 rfl ?_
          refine k_iald hC (kl hN (by decide)) h144 (by omega) (by decide) dX12_value_37 ?_
          refine k_topv (vI (bt k)) rfl ?_
          refine k_i2l hC dX12_value_38 (by omega) ?_
          refine k_ladd hC dX12_value_39 ?_
          refine k_ldc2 hC (x := 48) (v := 48) dX12_value_40 (by decide) wk_X12_425 ?_
          refine k_lsub hC dX12_value_43 ?_
          refine k_mminL hC wm_X12_77 wmath_mminL (by omega) (by omega) (by decide) (Nat.le_of_ble_eq_true rfl) ⟨by decide, by decide⟩ dX12_value_44 ?_
          refine k_l2i hC dX12_value_47 ?_
          refine k_istore_n hC [(1, vI (min 2000000000 (((10 * v) + (bt k)) - 48))), (2, vI (k : Int)), (0, .ref (kad G 133))] dX12_value_48 rfl (by decide) rfl ?_
          refine k_iinc hC (y := (k : Int) + 1) [(2, vI ((k : Int) + 1)), (1, vI (min 2000000000 (((10 * v) + (bt k)) - 48))), (0, .ref (kad G 133))] (j := 1) dX12_value_49 rfl (by omega) (by decide) rfl ?_
          refine k_goto hC 7 dX12_value_52 rfl ?_
          refine k_lvs (ls := [0, 1, 2]) [(2, vI ((k + 1 : Nat) : Int)), (1, vI (min 2000000000 (((10 * v) + (bt k)) - 48))), (0, .ref (kad G 133))] (by simp only [lv_pick]; rfl) ?_
          exact ihw (k + 1) (min 2000000000 (((10 * v) + (bt k)) - 48))  (by omega) (by omega) (by have h21 : u 21 = 2 := (by omega); have hd1 := isDg_1.mp (hdg h21 k (by omega) (by omega)); have hn0 := numF_b (bt := bt) (s := a9) (k - a9) (fun i hi => hdg h21 (a9 + i) (by omega) (by omega)); rw [h21] at hv; have hv2 : v = min 2000000000 (numF bt a9 (k - a9)) := hv; have hs : numF bt a9 (k + 1 - a9) = 10 * numF bt a9 (k - a9) + (bt k - 48) := (by rw [show k + 1 - a9 = (k - a9) + 1 by omega]; show 10 * numF bt a9 (k - a9) + (bt (a9 + (k - a9)) - 48) = _; rw [show a9 + (k - a9) = k by omega]); rw [h21]; show _ = min 2000000000 (numF bt a9 (k + 1 - a9)); rw [hs]; omega)
  refine k_lvs (ls := [0, 1, 2]) [(2, vI (a9 : Int)), (1, vI 0), (0, .ref (kad G 133))] (by simp only [lv_pick]; rfl) ?_
  exact loop0 (b9 + 1) a9 0  (by omega) (by omega) (by unfold vlM; rw [Nat.sub_self]; split <;> rfl)

set_option maxRecDepth 100000 in
set_option maxHeartbeats 4000000 in
theorem c_X12_readNumber (l : Launch) (hls : l.stackTraces = false) (G : kG) (hN : kN G = 150) (w : Nat → va_E) (fl : va_W) (u bt : Nat → Int) (n : Nat) (st : PS) (lo hi : Int) (hlo : 0 ≤ lo ∧ lo ≤ hi) (hhi : hi ≤ 999999) (hn7 : n ≤ 700) (hb : btOK bt) (hm : w 133 = mdO G u) (h144 : w 144 = iA G 700 bt) (hK : mkR u bt n st) : KM l G yX12_readNumber cX12_readNumber 4 (some (FieldType.int)) 4 0 0 [.ref (kad G 133), vI lo, vI hi] w fl (kMut (vI (rnV bt n lo hi st)) fl (fun w1 => rT G u bt n (tkP bt n lo hi st) w1 ∧ ∀ j, j ≠ 133 → w1 j = w j)) := by
  refine KM_of2 hls (by decide +kernel) rfl (lv0 := [(0, .ref (kad G 133)), (1, vI lo), (2, vI hi)]) rfl (Nat.le_of_ble_eq_true rfl) (fun p e R s m args below meth c Q hC hr hQ => ?_)
  have h18 := hK.1
  have h22 := hK.2.1
  have hrg := hK.2.2.1
  have hcb := hK.cb
  have hk0 := hK.2.2.2.1
  have hk1 := hK.2.2.2.2.1
  have hdg := hK.2.2.2.2.2
  refine k_aload_n hC dX12_readNumber_0 rfl 0 rfl ?_
  refine k_aload_n hC dX12_readNumber_1 rfl 0 rfl ?_
  refine k_get hC fd_X12_386 (kl hN (by decide)) hm rfl dX12_readNumber_2 ?_
  refine k_if_ne hC 16 dX12_readNumber_5 rfl (by omega) (fun c_5 => ?_) (fun c_5 => ?_)
  · have hzz : st.1 ≠ 0 := by omega
    refine k_iconst hC dX12_readNumber_16 ?_
    refine k_goto hC 21 dX12_readNumber_17 rfl ?_
    refine k_iconst hC dX12_readNumber_21 ?_
    refine k_muvV hC (c_X12_check1 l hls G hN w fl u bt n st 1 (by omega) hn7 hb hm h144 hK) yy_X12_check wm_X12_413 (kl hN (by decide)) hm rfl rfl rfl rfl (Nat.le_of_ble_eq_true rfl) (by decide) (by decide) ⟨by decide, by decide⟩ dX12_readNumber_22 (fun w1 hp1 => ?_)
    obtain ⟨hT1, hf1⟩ := hp1
    obtain ⟨u1, hu1, hKr1, hs1⟩ := hT1
    have h18r1 := hKr1.1
    have h22r1 := hKr1.2.1
    have hrgr1 := hKr1.2.2.1
    have hcbr1 := hKr1.cb
    have hzzr1 : st.1 ≠ 0 := by omega
    refine k_aload_n hC dX12_readNumber_25 rfl 0 rfl ?_
    have h_2 : w1 144 = iA G 700 bt := (hf1 144 (by decide)).trans h144
    refine k_pureV hC (c_X12_value l hls G hN w1 fl u1 bt n st ((u1 20).toNat) ((u1 19).toNat) (by omega) (by omega) hn7 hb hu1 h_2 hKr1) yy_X12_value wm_X12_427 (kl hN (by decide)) hu1 rfl rfl rfl rfl (Nat.le_of_ble_eq_true rfl) (by decide) (by decide) ⟨by decide, by decide⟩ dX12_readNumber_26 ?_
    refine k_topI (fun vl_3 evl_3 => ?_)
    have hbvl_3 : 0 ≤ vl_3 ∧ vl_3 ≤ 2000000000 := by rw [evl_3]; exact vlM_b (fun q i h1 h2 => hKr1.2.2.2.2.2 q i (by omega) (by omega))
    refine k_istore_n hC [(3, vI vl_3), (0, .ref (kad G 133)), (1, vI lo), (2, vI hi)] dX12_readNumber_29 rfl (by decide) rfl ?_
    refine k_aload_n hC dX12_readNumber_30 rfl 1 rfl ?_
    refine k_aload_n hC dX12_readNumber_31 rfl 1 rfl ?_
    refine k_get hC fd_X12_386 (kl hN (by decide)) hu1 rfl dX12_readNumber_32 ?_
    refine k_if_ne hC 50 dX12_readNumber_35 rfl (by omega) (fun c_35 => ?_) (fun c_35 => absurd c_35 (by omega))
    refine k_iconst hC dX12_readNumber_50 ?_
    refine k_goto hC 55 dX12_readNumber_51 rfl ?_
    refine k_iconst hC dX12_readNumber_55 ?_
    refine k_muvV hC (c_X12_check1 l hls G hN w1 fl u1 bt n st 2 (by omega) hn7 hb hu1 h_2 hKr1) yy_X12_check wm_X12_413 (kl hN (by decide)) hu1 rfl rfl rfl rfl (Nat.le_of_ble_eq_true rfl) (by decide) (by decide) ⟨by decide, by decide⟩ dX12_readNumber_56 (fun w4 hp4 => ?_)
    obtain ⟨hT4, hf4⟩ := hp4
    obtain ⟨u4, hu4, hKr4, hs4⟩ := hT4
    have h18r4 := hKr4.1
    have h22r4 := hKr4.2.1
    have hrgr4 := hKr4.2.2.1
    have hcbr4 := hKr4.cb
    have hzzr4 : st.1 ≠ 0 := by omega
    refine k_aload_n hC dX12_readNumber_59 rfl 1 rfl ?_
    have h_6 : w4 144 = iA G 700 bt := (hf4 144 (by decide)).trans h_2
    refine k_muvV hC (c_X12_advance l hls G hN w4 fl u4 bt n st  hn7 hb hu4 h_6 hKr4) yy_X12_advance wm_X12_417 (kl hN (by decide)) hu4 rfl rfl rfl rfl (Nat.le_of_ble_eq_true rfl) (by decide) (by decide) ⟨by decide, by decide⟩ dX12_readNumber_60 (fun w5 hp5 => ?_)
    obtain ⟨hT5, hf5⟩ := hp5
    obtain ⟨u5, hu5, hKr5, hs5⟩ := hT5
    obtain ⟨st_7, est_7⟩ : ∃ z : PS, z = adP bt n st := ⟨_, rfl⟩
    rw [← est_7] at hKr5
    have h18r5 := hKr5.1
    have h22r5 := hKr5.2.1
    have hrgr5 := hKr5.2.2.1
    have hcbr5 := hKr5.cb
    have hzzr5 : st_7.1 ≠ 0 := by rw [est_7, adP_e (by omega)]; omega
    refine k_aload_n hC dX12_readNumber_63 rfl 1 rfl ?_
    refine k_get hC fd_X12_386 (kl hN (by decide)) hu5 rfl dX12_readNumber_64 ?_
    refine k_if_ne hC 74 dX12_readNumber_67 rfl (by omega) (fun c_67 => ?_) (fun c_67 => absurd c_67 (by omega))
    refine k_iload_n hC dX12_readNumber_74 rfl 2 rfl ?_
    subst hQ
    exact k_iret hC hr ⟨by decide, by decide⟩ (⟨congrArg (fun z => some (vI z)) (by have hq : st_7 = tkP bt n lo hi st := (by first | (unfold tkP; rw [nhP_e (by omega)]; exact est_7) | (unfold tkP nhP; rw [selP_1 ⟨by omega, by omega⟩, selP_1 ⟨by omega, by omega⟩]; exact est_7)); unfold rnV; rw [selI_0 (by rw [← hq]; omega)]), rfl, ⟨_, hu5, (by have e : st_7 = tkP bt n lo hi st := (by first | (unfold tkP; rw [nhP_e (by omega)]; exact est_7) | (unfold tkP nhP; rw [selP_1 ⟨by omega, by omega⟩, selP_1 ⟨by omega, by omega⟩]; exact est_7)); rw [← e]; exact hKr5), (uS.tr (uS.tr (uS.tr (fun j _ => rfl) hs1) hs4) hs5)⟩, fun j hj => (hf5 j (by omega)).trans ((hf4 j (by omega)).trans (hf1 j (by omega)))⟩) dX12_readNumber_75
  · have hzz : st.1 = 0 := by omega
    have hq0 := hK.2.2.2.1 hzz
    have hen := enM_b (bt := bt) hq0.2.2.2
    refine k_aload_n hC dX12_readNumber_8 rfl 0 rfl ?_
    refine k_get hC fd_X12_377 (kl hN (by decide)) hm rfl dX12_readNumber_9 ?_
    refine k_iconst hC dX12_readNumber_12 ?_
    refine k_icmp_ne hC 20 dX12_readNumber_13 rfl (by omega) (by omega) (fun c_13 => ?_) (fun c_13 => ?_)
    · refine k_iconst hC dX12_readNumber_20 ?_
      refine k_iconst hC dX12_readNumber_21 ?_
      refine k_muvV hC (c_X12_check0 l hls G hN w fl u bt n st 1 (by omega) hn7 hb hm h144 hK) yy_X12_check wm_X12_413 (kl hN (by decide)) hm rfl rfl rfl rfl (Nat.le_of_ble_eq_true rfl) (by decide) (by decide) ⟨by decide, by decide⟩ dX12_readNumber_22 (fun w8 hp8 => ?_)
      obtain ⟨hT8, hf8⟩ := hp8
      obtain ⟨u8, hu8, hKr8, hs8⟩ := hT8
      obtain ⟨st_9, est_9⟩ : ∃ z : PS, z = flP 1 st := ⟨_, rfl⟩
      rw [← est_9] at hKr8
      have h18r8 := hKr8.1
      have h22r8 := hKr8.2.1
      have hrgr8 := hKr8.2.2.1
      have hcbr8 := hKr8.cb
      have hzzr8 : st_9.1 ≠ 0 := by rw [est_9]; exact fl_c (by omega)
      refine k_aload_n hC dX12_readNumber_25 rfl 0 rfl ?_
      have h_10 : w8 144 = iA G 700 bt := (hf8 144 (by decide)).trans h144
      refine k_pureV hC (c_X12_value l hls G hN w8 fl u8 bt n st_9 ((u8 20).toNat) ((u8 19).toNat) (by omega) (by omega) hn7 hb hu8 h_10 hKr8) yy_X12_value wm_X12_427 (kl hN (by decide)) hu8 rfl rfl rfl rfl (Nat.le_of_ble_eq_true rfl) (by decide) (by decide) ⟨by decide, by decide⟩ dX12_readNumber_26 ?_
      refine k_topI (fun vl_11 evl_11 => ?_)
      have hbvl_11 : 0 ≤ vl_11 ∧ vl_11 ≤ 2000000000 := by rw [evl_11]; exact vlM_b (fun q i h1 h2 => hKr8.2.2.2.2.2 q i (by omega) (by omega))
      refine k_istore_n hC [(3, vI vl_11), (0, .ref (kad G 133)), (1, vI lo), (2, vI hi)] dX12_readNumber_29 rfl (by decide) rfl ?_
      refine k_aload_n hC dX12_readNumber_30 rfl 1 rfl ?_
      refine k_aload_n hC dX12_readNumber_31 rfl 1 rfl ?_
      refine k_get hC fd_X12_386 (kl hN (by decide)) hu8 rfl dX12_readNumber_32 ?_
      refine k_if_ne hC 50 dX12_readNumber_35 rfl (by omega) (fun c_35 => ?_) (fun c_35 => absurd c_35 (by omega))
      refine k_iconst hC dX12_readNumber_50 ?_
      refine k_goto hC 55 dX12_readNumber_51 rfl ?_
      refine k_iconst hC dX12_readNumber_55 ?_
      refine k_muvV hC (c_X12_check1 l hls G hN w8 fl u8 bt n st_9 2 (by omega) hn7 hb hu8 h_10 hKr8) yy_X12_check wm_X12_413 (kl hN (by decide)) hu8 rfl rfl rfl rfl (Nat.le_of_ble_eq_true rfl) (by decide) (by decide) ⟨by decide, by decide⟩ dX12_readNumber_56 (fun w12 hp12 => ?_)
      obtain ⟨hT12, hf12⟩ := hp12
      obtain ⟨u12, hu12, hKr12, hs12⟩ := hT12
      have h18r12 := hKr12.1
      have h22r12 := hKr12.2.1
      have hrgr12 := hKr12.2.2.1
      have hcbr12 := hKr12.cb
      have hzzr12 : st_9.1 ≠ 0 := by omega
      refine k_aload_n hC dX12_readNumber_59 rfl 1 rfl ?_
      have h_14 : w12 144 = iA G 700 bt := (hf12 144 (by decide)).trans h_10
      refine k_muvV hC (c_X12_advance l hls G hN w12 fl u12 bt n st_9  hn7 hb hu12 h_14 hKr12) yy_X12_advance wm_X12_417 (kl hN (by decide)) hu12 rfl rfl rfl rfl (Nat.le_of_ble_eq_true rfl) (by decide) (by decide) ⟨by decide, by decide⟩ dX12_readNumber_60 (fun w13 hp13 => ?_)
      obtain ⟨hT13, hf13⟩ := hp13
      obtain ⟨u13, hu13, hKr13, hs13⟩ := hT13
      obtain ⟨st_15, est_15⟩ : ∃ z : PS, z = adP bt n st_9 := ⟨_, rfl⟩
      rw [← est_15] at hKr13
      have h18r13 := hKr13.1
      have h22r13 := hKr13.2.1
      have hrgr13 := hKr13.2.2.1
      have hcbr13 := hKr13.cb
      have hzzr13 : st_15.1 ≠ 0 := by rw [est_15, adP_e (by omega)]; omega
      refine k_aload_n hC dX12_readNumber_63 rfl 1 rfl ?_
      refine k_get hC fd_X12_386 (kl hN (by decide)) hu13 rfl dX12_readNumber_64 ?_
      refine k_if_ne hC 74 dX12_readNumber_67 rfl (by omega) (fun c_67 => ?_) (fun c_67 => absurd c_67 (by omega))
      refine k_iload_n hC dX12_readNumber_74 rfl 2 rfl ?_
      subst hQ
      exact k_iret hC hr ⟨by decide, by decide⟩ (⟨congrArg (fun z => some (vI z)) (by have hq : st_15 = tkP bt n lo hi st := (by unfold tkP nhP; rw [selP_0 (fun q => by have q1 := q.1; have q2 := q.2; omega), ← est_9]; exact est_15); unfold rnV; rw [selI_0 (by rw [← hq]; omega)]), rfl, ⟨_, hu13, (by have e : st_15 = tkP bt n lo hi st := (by unfold tkP nhP; rw [selP_0 (fun q => by have q1 := q.1; have q2 := q.2; omega), ← est_9]; exact est_15); rw [← e]; exact hKr13), (uS.tr (uS.tr (uS.tr (fun j _ => rfl) hs8) hs12) hs13)⟩, fun j hj => (hf13 j (by omega)).trans ((hf12 j (by omega)).trans (hf8 j (by omega)))⟩) dX12_readNumber_75
    · refine k_iconst hC dX12_readNumber_16 ?_
      refine k_goto hC 21 dX12_readNumber_17 rfl ?_
      refine k_iconst hC dX12_readNumber_21 ?_
      refine k_muvV hC (c_X12_check1 l hls G hN w fl u bt n st 1 (by omega) hn7 hb hm h144 hK) yy_X12_check wm_X12_413 (kl hN (by decide)) hm rfl rfl rfl rfl (Nat.le_of_ble_eq_true rfl) (by decide) (by decide) ⟨by decide, by decide⟩ dX12_readNumber_22 (fun w16 hp16 => ?_)
      obtain ⟨hT16, hf16⟩ := hp16
      obtain ⟨u16, hu16, hKr16, hs16⟩ := hT16
      have h18r16 := hKr16.1
      have h22r16 := hKr16.2.1
      have hrgr16 := hKr16.2.2.1
      have hcbr16 := hKr16.cb
      have hzzr16 : st.1 = 0 := by omega
      have hq0r16 := hKr16.2.2.2.1 hzzr16
      have henr16 := enM_b (bt := bt) hq0r16.2.2.2
      refine k_aload_n hC dX12_readNumber_25 rfl 0 rfl ?_
      have h_17 : w16 144 = iA G 700 bt := (hf16 144 (by decide)).trans h144
      refine k_pureV hC (c_X12_value l hls G hN w16 fl u16 bt n st st.2.2 (enM bt n st.2.2) (by omega) (by omega) hn7 hb hu16 h_17 hKr16) yy_X12_value wm_X12_427 (kl hN (by decide)) hu16 rfl rfl rfl rfl (Nat.le_of_ble_eq_true rfl) (by decide) (by decide) ⟨by decide, by decide⟩ dX12_readNumber_26 ?_
      refine k_topI (fun vl_18 evl_18 => ?_)
      have hbvl_18 : 0 ≤ vl_18 ∧ vl_18 ≤ 2000000000 := by rw [evl_18]; exact vlM_b (fun q i h1 h2 => hKr16.2.2.2.2.2 q i (by omega) (by omega))
      have hnvl_18 : vl_18 = min 2000000000 (nv bt n st) := by rw [evl_18]; exact if_pos (by omega)
      refine k_istore_n hC [(3, vI vl_18), (0, .ref (kad G 133)), (1, vI lo), (2, vI hi)] dX12_readNumber_29 rfl (by decide) rfl ?_
      refine k_aload_n hC dX12_readNumber_30 rfl 1 rfl ?_
      refine k_aload_n hC dX12_readNumber_31 rfl 1 rfl ?_
      refine k_get hC fd_X12_386 (kl hN (by decide)) hu16 rfl dX12_readNumber_32 ?_
      refine k_topv (vI 0) (congrArg vI (by omega)) ?_
      refine k_if_ne hC 50 dX12_readNumber_35 rfl (by omega) (fun c_35 => absurd c_35 (by omega)) (fun c_35 => ?_)
      refine k_iload_n hC dX12_readNumber_38 rfl 0 rfl ?_
      refine k_i2l hC dX12_readNumber_39 (by omega) ?_
      refine k_iload_n hC dX12_readNumber_40 rfl 2 rfl ?_
      refine k_i2l hC dX12_readNumber_41 (by omega) ?_
      refine k_iload_n hC dX12_readNumber_42 rfl 3 rfl ?_
      refine k_i2l hC dX12_readNumber_43 (by omega) ?_
      refine k_pureS hC (c_X12_inRange l hls G hN w16 fl vl_18 lo hi (by omega) (by omega) (by omega)) yy_X12_inRange wm_X12_243 rfl rfl (Nat.le_of_ble_eq_true rfl) (by decide) (by decide) ⟨by decide, by decide⟩ dX12_readNumber_44 ?_
      refine k_topv (vI (if lo ≤ vl_18 ∧ vl_18 ≤ hi then 1 else 0)) rfl ?_
      obtain ⟨z_19, ez_19, hz_19⟩ := k_bI (lo ≤ vl_18 ∧ vl_18 ≤ hi)
      refine k_topv (vI z_19) (by rw [ez_19]) ?_
      refine k_if_eq hC 54 dX12_readNumber_47 rfl (by omega) (fun c_47 => ?_) (fun c_47 => ?_)
      · refine k_iconst hC dX12_readNumber_54 ?_
        refine k_iconst hC dX12_readNumber_55 ?_
        refine k_muvV hC (c_X12_check0 l hls G hN w16 fl u16 bt n st 2 (by omega) hn7 hb hu16 h_17 hKr16) yy_X12_check wm_X12_413 (kl hN (by decide)) hu16 rfl rfl rfl rfl (Nat.le_of_ble_eq_true rfl) (by decide) (by decide) ⟨by decide, by decide⟩ dX12_readNumber_56 (fun w20 hp20 => ?_)
        obtain ⟨hT20, hf20⟩ := hp20
        obtain ⟨u20, hu20, hKr20, hs20⟩ := hT20
        obtain ⟨st_21, est_21⟩ : ∃ z : PS, z = flP 2 st := ⟨_, rfl⟩
        rw [← est_21] at hKr20
        have h18r20 := hKr20.1
        have h22r20 := hKr20.2.1
        have hrgr20 := hKr20.2.2.1
        have hcbr20 := hKr20.cb
        have hzzr20 : st_21.1 ≠ 0 := by rw [est_21]; exact fl_c (by omega)
        refine k_aload_n hC dX12_readNumber_59 rfl 1 rfl ?_
        have h_23 : w20 144 = iA G 700 bt := (hf20 144 (by decide)).trans h_17
        refine k_muvV hC (c_X12_advance l hls G hN w20 fl u20 bt n st_21  hn7 hb hu20 h_23 hKr20) yy_X12_advance wm_X12_417 (kl hN (by decide)) hu20 rfl rfl rfl rfl (Nat.le_of_ble_eq_true rfl) (by decide) (by decide) ⟨by decide, by decide⟩ dX12_readNumber_60 (fun w22 hp22 => ?_)
        obtain ⟨hT22, hf22⟩ := hp22
        obtain ⟨u22, hu22, hKr22, hs22⟩ := hT22
        obtain ⟨st_24, est_24⟩ : ∃ z : PS, z = adP bt n st_21 := ⟨_, rfl⟩
        rw [← est_24] at hKr22
        have h18r22 := hKr22.1
        have h22r22 := hKr22.2.1
        have hrgr22 := hKr22.2.2.1
        have hcbr22 := hKr22.cb
        have hzzr22 : st_24.1 ≠ 0 := by rw [est_24, adP_e (by omega)]; omega
        refine k_aload_n hC dX12_readNumber_63 rfl 1 rfl ?_
        refine k_get hC fd_X12_386 (kl hN (by decide)) hu22 rfl dX12_readNumber_64 ?_
        refine k_if_ne hC 74 dX12_readNumber_67 rfl (by omega) (fun c_67 => ?_) (fun c_67 => absurd c_67 (by omega))
        refine k_iload_n hC dX12_readNumber_74 rfl 2 rfl ?_
        subst hQ
        exact k_iret hC hr ⟨by decide, by decide⟩ (⟨congrArg (fun z => some (vI z)) (by have hq : st_24 = tkP bt n lo hi st := (by unfold tkP nhP; rw [selP_1 ⟨by omega, by omega⟩, selP_0 (fun q => by omega), ← est_21]; exact est_24); unfold rnV; rw [selI_0 (by rw [← hq]; omega)]), rfl, ⟨_, hu22, (by have e : st_24 = tkP bt n lo hi st := (by unfold tkP nhP; rw [selP_1 ⟨by omega, by omega⟩, selP_0 (fun q => by omega), ← est_21]; exact est_24); rw [← e]; exact hKr22), (uS.tr (uS.tr (uS.tr (fun j _ => rfl) hs16) hs20) hs22)⟩, fun j hj => (hf22 j (by omega)).trans ((hf20 j (by omega)).trans (hf16 j (by omega)))⟩) dX12_readNumber_75
      · refine k_iconst hC dX12_readNumber_50 ?_
        refine k_goto hC 55 dX12_readNumber_51 rfl ?_
        refine k_iconst hC dX12_readNumber_55 ?_
        refine k_muvV hC (c_X12_check1 l hls G hN w16 fl u16 bt n st 2 (by omega) hn7 hb hu16 h_17 hKr16) yy_X12_check wm_X12_413 (kl hN (by decide)) hu16 rfl rfl rfl rfl (Nat.le_of_ble_eq_true rfl) (by decide) (by decide) ⟨by decide, by decide⟩ dX12_readNumber_56 (fun w25 hp25 => ?_)
        obtain ⟨hT25, hf25⟩ := hp25
        obtain ⟨u25, hu25, hKr25, hs25⟩ := hT25
        have h18r25 := hKr25.1
        have h22r25 := hKr25.2.1
        have hrgr25 := hKr25.2.2.1
        have hcbr25 := hKr25.cb
        have hzzr25 : st.1 = 0 := by omega
        have hq0r25 := hKr25.2.2.2.1 hzzr25
        have henr25 := enM_b (bt := bt) hq0r25.2.2.2
        refine k_aload_n hC dX12_readNumber_59 rfl 1 rfl ?_
        have h_27 : w25 144 = iA G 700 bt := (hf25 144 (by decide)).trans h_17
        refine k_muvV hC (c_X12_advance l hls G hN w25 fl u25 bt n st  hn7 hb hu25 h_27 hKr25) yy_X12_advance wm_X12_417 (kl hN (by decide)) hu25 rfl rfl rfl rfl (Nat.le_of_ble_eq_true rfl) (by decide) (by decide) ⟨by decide, by decide⟩ dX12_readNumber_60 (fun w26 hp26 => ?_)
        obtain ⟨hT26, hf26⟩ := hp26
        obtain ⟨u26, hu26, hKr26, hs26⟩ := hT26
        obtain ⟨st_28, est_28⟩ : ∃ z : PS, z = adP bt n st := ⟨_, rfl⟩
        rw [← est_28] at hKr26
        have h18r26 := hKr26.1
        have h22r26 := hKr26.2.1
        have hrgr26 := hKr26.2.2.1
        have hcbr26 := hKr26.cb
        have hzir26 : st_28.1 = 0 := by rw [est_28]; exact ad_c.mpr (by omega)
        have hzzr26 : st_28.1 = 0 := by omega
        have hq0r26 := hKr26.2.2.2.1 hzzr26
        have henr26 := enM_b (bt := bt) hq0r26.2.2.2
        refine k_aload_n hC dX12_readNumber_63 rfl 1 rfl ?_
        refine k_get hC fd_X12_386 (kl hN (by decide)) hu26 rfl dX12_readNumber_64 ?_
        refine k_topv (vI 0) (congrArg vI (by omega)) ?_
        refine k_if_ne hC 74 dX12_readNumber_67 rfl (by omega) (fun c_67 => absurd c_67 (by omega)) (fun c_67 => ?_)
        refine k_iload_n hC dX12_readNumber_70 rfl 0 rfl ?_
        refine k_goto hC 75 dX12_readNumber_71 rfl ?_
        subst hQ
        exact k_iret hC hr ⟨by decide, by decide⟩ (⟨congrArg (fun z => some (vI z)) (by have hq : st_28 = tkP bt n lo hi st := (by first | (unfold tkP; rw [nhP_e (by omega)]; exact est_28) | (unfold tkP nhP; rw [selP_1 ⟨by omega, by omega⟩, selP_1 ⟨by omega, by omega⟩]; exact est_28)); rw [rnV_0 (by rw [← hq]; omega)]; omega), rfl, ⟨_, hu26, (by have e : st_28 = tkP bt n lo hi st := (by first | (unfold tkP; rw [nhP_e (by omega)]; exact est_28) | (unfold tkP nhP; rw [selP_1 ⟨by omega, by omega⟩, selP_1 ⟨by omega, by omega⟩]; exact est_28)); rw [← e]; exact hKr26), (uS.tr (uS.tr (uS.tr (fun j _ => rfl) hs16) hs25) hs26)⟩, fun j hj => (hf26 j (by omega)).trans ((hf25 j (by omega)).trans (hf16 j (by omega)))⟩) dX12_readNumber_75

set_option maxRecDepth 100000 in
set_option maxHeartbeats 4000000 in
theorem c_X12_readSigned (l : Launch) (hls : l.stackTraces = false) (G : kG) (hN : kN G = 150) (w : Nat → va_E) (fl : va_W) (u bt : Nat → Int) (n : Nat) (st : PS) (mo : Int) (hmo : 0 ≤ mo ∧ mo ≤ 999999) (hn7 : n ≤ 700) (hb : btOK bt) (hm : w 133 = mdO G u) (h144 : w 144 = iA G 700 bt) (hK : mkR u bt n st) : KM l G yX12_readSigned cX12_readSigned 4 (some (FieldType.int)) 5 0 0 [.ref (kad G 133), vI mo] w fl (kMut (vI (rsV bt n mo st)) fl (fun w1 => rT G u bt n (sgP bt n mo st) w1 ∧ ∀ j, j ≠ 133 → w1 j = w j)) := by
  refine KM_of2 hls (by decide +kernel) rfl (lv0 := [(0, .ref (kad G 133)), (1, vI mo)]) rfl (Nat.le_of_ble_eq_true rfl) (fun p e R s m args below meth c Q hC hr hQ => ?_)
  have h18 := hK.1
  have h22 := hK.2.1
  have hrg := hK.2.2.1
  have hcb := hK.cb
  have hk0 := hK.2.2.2.1
  have hk1 := hK.2.2.2.2.1
  have hdg := hK.2.2.2.2.2
  refine k_aload_n hC dX12_readSigned_0 rfl 0 rfl ?_
  refine k_bipush hC dX12_readSigned_1 (by decide) ?_
  refine k_pureV hC (c_X12_isSymbol l hls G hN w fl u bt n st 45 (by omega) hn7 hb hm h144 hK) yy_X12_isSymbol wm_X12_420 (kl hN (by decide)) hm rfl rfl rfl rfl (Nat.le_of_ble_eq_true rfl) (by decide) (by decide) ⟨by decide, by decide⟩ dX12_readSigned_3 ?_
  obtain ⟨z_1, ez_1, hz_1⟩ := selI_c (isS bt n 45 st)
  refine k_topv (vI z_1) (by rw [ez_1]) ?_
  refine k_istore_n hC [(2, vI z_1), (0, .ref (kad G 133)), (1, vI mo)] dX12_readSigned_6 rfl (by decide) rfl ?_
  refine k_iload_n hC dX12_readSigned_7 rfl 0 rfl ?_
  refine k_if_eq hC 15 dX12_readSigned_8 rfl (by omega) (fun c_8 => ?_) (fun c_8 => ?_)
  · refine k_aload_n hC dX12_readSigned_15 rfl 1 rfl ?_
    refine k_iconst hC dX12_readSigned_16 ?_
    refine k_iload_n hC dX12_readSigned_17 rfl 2 rfl ?_
    refine k_mutV hC (c_X12_readNumber l hls G hN w fl u bt n st 0 mo (by omega) (by omega) hn7 hb hm h144 hK) yy_X12_readNumber wm_X12_435 (kl hN (by decide)) hm rfl rfl rfl rfl (Nat.le_of_ble_eq_true rfl) (by decide) (by decide) ⟨by decide, by decide⟩ dX12_readSigned_18 (fun w2 hp2 => ?_)
    obtain ⟨hT2, hf2⟩ := hp2
    have hnv_3 := rnV_b (bt := bt) (n := n) (lo := 0) (hi := mo) (st := st) (by omega)
    obtain ⟨u2, hu2, hKr2, hs2⟩ := hT2
    obtain ⟨st_4, est_4⟩ : ∃ z : PS, z = tkP bt n 0 mo st := ⟨_, rfl⟩
    rw [← est_4] at hKr2
    have h18r2 := hKr2.1
    have h22r2 := hKr2.2.1
    have hrgr2 := hKr2.2.2.1
    have hcbr2 := hKr2.cb
    refine k_istore_n hC [(3, vI (rnV bt n 0 mo st)), (2, vI z_1), (0, .ref (kad G 133)), (1, vI mo)] dX12_readSigned_21 rfl (by decide) rfl ?_
    refine k_iload_n hC dX12_readSigned_22 rfl 1 rfl ?_
    refine k_if_eq hC 31 dX12_readSigned_23 rfl (by omega) (fun c_23 => ?_) (fun c_23 => ?_)
    · refine k_iload_n hC dX12_readSigned_31 rfl 0 rfl ?_
      subst hQ
      exact k_iret hC hr ⟨by decide, by decide⟩ (⟨congrArg (fun z => some (vI z)) (by first | (exfalso; omega) | (unfold rsV sg0; rw [selI_0 (hz_1.resolve_left (fun q1 => by omega)).2, selP_0 (hz_1.resolve_left (fun q1 => by omega)).2])), rfl, ⟨_, hu2, (by have e : st_4 = sgP bt n mo st := (by unfold sgP sg0; rw [selP_0 (hz_1.resolve_left (fun q1 => by omega)).2, est_4]); rw [← e]; exact hKr2), (uS.tr (fun j _ => rfl) hs2)⟩, fun j hj => hf2 j (by omega)⟩) dX12_readSigned_32
    · refine k_iload_n hC dX12_readSigned_26 rfl 0 rfl ?_
      refine k_ineg hC dX12_readSigned_27 ?_
      refine k_goto hC 32 dX12_readSigned_28 rfl ?_
      subst hQ
      exact k_iret hC hr ⟨by decide, by decide⟩ (⟨congrArg (fun z => some (vI z)) (by first | (exfalso; omega) | (unfold rsV sg0; rw [selI_0 (hz_1.resolve_left (fun q1 => by omega)).2, selP_0 (hz_1.resolve_left (fun q1 => by omega)).2])), rfl, ⟨_, hu2, (by have e : st_4 = sgP bt n mo st := (by unfold sgP sg0; rw [selP_0 (hz_1.resolve_left (fun q1 => by omega)).2, est_4]); rw [← e]; exact hKr2), (uS.tr (fun j _ => rfl) hs2)⟩, fun j hj => hf2 j (by omega)⟩) dX12_readSigned_32
  · refine k_aload_n hC dX12_readSigned_11 rfl 1 rfl ?_
    refine k_muvV hC (c_X12_advance l hls G hN w fl u bt n st  hn7 hb hm h144 hK) yy_X12_advance wm_X12_417 (kl hN (by decide)) hm rfl rfl rfl rfl (Nat.le_of_ble_eq_true rfl) (by decide) (by decide) ⟨by decide, by decide⟩ dX12_readSigned_12 (fun w5 hp5 => ?_)
    obtain ⟨hT5, hf5⟩ := hp5
    obtain ⟨u5, hu5, hKr5, hs5⟩ := hT5
    obtain ⟨st_6, est_6⟩ : ∃ z : PS, z = adP bt n st := ⟨_, rfl⟩
    rw [← est_6] at hKr5
    have h18r5 := hKr5.1
    have h22r5 := hKr5.2.1
    have hrgr5 := hKr5.2.2.1
    have hcbr5 := hKr5.cb
    refine k_aload_n hC dX12_readSigned_15 rfl 1 rfl ?_
    refine k_iconst hC dX12_readSigned_16 ?_
    refine k_iload_n hC dX12_readSigned_17 rfl 2 rfl ?_
    have h_8 : w5 144 = iA G 700 bt := (hf5 144 (by decide)).trans h144
    refine k_mutV hC (c_X12_readNumber l hls G hN w5 fl u5 bt n st_6 0 mo (by omega) (by omega) hn7 hb hu5 h_8 hKr5) yy_X12_readNumber wm_X12_435 (kl hN (by decide)) hu5 rfl rfl rfl rfl (Nat.le_of_ble_eq_true rfl) (by decide) (by decide) ⟨by decide, by decide⟩ dX12_readSigned_18 (fun w7 hp7 => ?_)
    obtain ⟨hT7, hf7⟩ := hp7
    have hnv_9 := rnV_b (bt := bt) (n := n) (lo := 0) (hi := mo) (st := st_6) (by omega)
    obtain ⟨u7, hu7, hKr7, hs7⟩ := hT7
    obtain ⟨st_10, est_10⟩ : ∃ z : PS, z = tkP bt n 0 mo st_6 := ⟨_, rfl⟩
    rw [← est_10] at hKr7
    have h18r7 := hKr7.1
    have h22r7 := hKr7.2.1
    have hrgr7 := hKr7.2.2.1
    have hcbr7 := hKr7.cb
    refine k_istore_n hC [(3, vI (rnV bt n 0 mo st_6)), (2, vI z_1), (0, .ref (kad G 133)), (1, vI mo)] dX12_readSigned_21 rfl (by decide) rfl ?_
    refine k_iload_n hC dX12_readSigned_22 rfl 1 rfl ?_
    refine k_if_eq hC 31 dX12_readSigned_23 rfl (by omega) (fun c_23 => ?_) (fun c_23 => ?_)
    · refine k_iload_n hC dX12_readSigned_31 rfl 0 rfl ?_
      subst hQ
      exact k_iret hC hr ⟨by decide, by decide⟩ (⟨congrArg (fun z => some (vI z)) (by first | (exfalso; omega) | (unfold rsV sg0; rw [selI_1 (hz_1.resolve_right (fun q1 => by omega)).2, selP_1 (hz_1.resolve_right (fun q1 => by omega)).2, est_6])), rfl, ⟨_, hu7, (by have e : st_10 = sgP bt n mo st := (by unfold sgP sg0; rw [selP_1 (hz_1.resolve_right (fun q1 => by omega)).2, est_10, est_6]); rw [← e]; exact hKr7), (uS.tr (uS.tr (fun j _ => rfl) hs5) hs7)⟩, fun j hj => (hf7 j (by omega)).trans (hf5 j (by omega))⟩) dX12_readSigned_32
    · refine k_iload_n hC dX12_readSigned_26 rfl 0 rfl ?_
      refine k_ineg hC dX12_readSigned_27 ?_
      refine k_goto hC 32 dX12_readSigned_28 rfl ?_
      subst hQ
      exact k_iret hC hr ⟨by decide, by decide⟩ (⟨congrArg (fun z => some (vI z)) (by first | (exfalso; omega) | (unfold rsV sg0; rw [selI_1 (hz_1.resolve_right (fun q1 => by omega)).2, selP_1 (hz_1.resolve_right (fun q1 => by omega)).2, est_6])), rfl, ⟨_, hu7, (by have e : st_10 = sgP bt n mo st := (by unfold sgP sg0; rw [selP_1 (hz_1.resolve_right (fun q1 => by omega)).2, est_10, est_6]); rw [← e]; exact hKr7), (uS.tr (uS.tr (fun j _ => rfl) hs5) hs7)⟩, fun j hj => (hf7 j (by omega)).trans (hf5 j (by omega))⟩) dX12_readSigned_32

set_option maxRecDepth 100000 in
set_option maxHeartbeats 4000000 in
theorem c_X12_nameHere (l : Launch) (hls : l.stackTraces = false) (G : kG) (hN : kN G = 150) (w : Nat → va_E) (fl : va_W) (u bt : Nat → Int) (n : Nat) (st : PS) (hnm : isNm bt n st) (hn7 : n ≤ 700) (hb : btOK bt) (hm : w 133 = mdO G u) (h144 : w 144 = iA G 700 bt) (hK : mkR u bt n st) : KM l G yX12_nameHere cX12_nameHere 4 (some (FieldType.long)) 0 0 0 [.ref (kad G 133)] w fl (kPure (vL (nmM bt n st.2.2)) w fl) := by
  refine KM_of2 hls (by decide +kernel) rfl (lv0 := [(0, .ref (kad G 133))]) rfl (Nat.le_of_ble_eq_true rfl) (fun p e R s m args below meth c Q hC hr hQ => ?_)
  have h18 := hK.1
  have h22 := hK.2.1
  have hrg := hK.2.2.1
  have hcb := hK.cb
  have hk0 := hK.2.2.2.1
  have hk1 := hK.2.2.2.2.1
  have hdg := hK.2.2.2.2.2
  have hz0 := hnm.1
  have hnk := hnm.2.1
  have hn8 := hnm.2.2
  have hzz : st.1 = 0 := by omega
  have hq0 := hK.2.2.2.1 hzz
  have hen := enM_b (bt := bt) hq0.2.2.2
  have hlet := let_in hnk
  refine k_lconst (x := 0) hC dX12_nameHere_0 (by decide) ?_
  refine k_lstore_n hC [(1, vL 0), (0, .ref (kad G 133))] dX12_nameHere_1 rfl (by decide) rfl ?_
  refine k_aload_n hC dX12_nameHere_2 rfl 1 rfl ?_
  refine k_get hC fd_X12_374 (kl hN (by decide)) hm rfl dX12_nameHere_3 ?_
  refine k_topv (vI ((st.2.2 : Int))) (congrArg vI (by omega)) ?_
  refine k_istore_n hC [(3, vI (st.2.2 : Int)), (1, vL 0), (0, .ref (kad G 133))] dX12_nameHere_6 rfl (by decide) rfl ?_
  have loop0 : ∀ (nw : Nat) (k : Nat) (v : Int), (enM bt n st.2.2 < nw + k) → (st.2.2 ≤ k ∧ k ≤ enM bt n st.2.2) → (v = nmG (fun i => bt (st.2.2 + i)) (k - st.2.2)) → KW p l e R s m args below meth c 4 G Q w fl 0 0 7 [(3, vI (k : Int)), (1, vL v), (0, .ref (kad G 133))] [] := by
    intro nw
    induction nw with
    | zero =>
      intro k v hn_w hk hv
      exact absurd hn_w (by omega)
    | succ nw ihw =>
      intro k v hn_w hk hv
      have hbk := hb k
      refine k_iload_n hC dX12_nameHere_7 rfl 0 rfl ?_
      refine k_aload_n hC dX12_nameHere_8 rfl 2 rfl ?_
      refine k_get hC fd_X12_371 (kl hN (by decide)) hm rfl dX12_nameHere_9 ?_
      refine k_icmp_ge hC 41 dX12_nameHere_12 rfl (by omega) (by omega) (fun c_12 => ?_) (fun c_12 => ?_)
      · refine k_lload_n hC dX12_nameHere_41 rfl 1 rfl ?_
        subst hQ
        exact k_lret hC hr ⟨by decide, by decide⟩ (⟨congrArg (fun z => some (vL z)) (show (nmM bt n st.2.2 : Int) = v from by rw [hv, show k = enM bt n st.2.2 by omega]; rfl), rfl, rfl⟩) dX12_nameHere_42
      · refine k_ldc2 hC (x := 27) (v := 27) dX12_nameHere_15 (by decide) wk_X12_346 ?_
        refine k_lload_n hC dX12_nameHere_18 rfl 1 rfl ?_
        refine k_lmul hC dX12_nameHere_19 ?_
        refine k_aload_n hC dX12_nameHere_20 rfl 2 rfl ?_
        refine k_get hC fd_X12_41 (kl hN (by decide)) hm rfl dX12_nameHere_21 ?_
        refine k_iload_n hC dX12_nameHere_24 rfl 0 rfl ?_
        refine k_iald hC (kl hN (by decide)) h144 (by omega) (by decide) dX12_nameHere_25 ?_
        refine k_topv (vI (bt k)) rfl ?_
        refine k_i2l hC dX12_nameHere_26 (by omega) ?_
        refine k_ladd hC dX12_nameHere_27 ?_
        refine k_ldc2 hC (x := 97) (v := 97) dX12_nameHere_28 (by decide) wk_X12_430 ?_
        refine k_lsub hC dX12_nameHere_31 ?_
        refine k_lconst (x := 1) hC dX12_nameHere_32 (by decide) ?_
        refine k_ladd hC dX12_nameHere_33 ?_
        refine k_lstore_n hC [(1, vL ((((27 * v) + (bt k)) - 97) + 1)), (3, vI (k : Int)), (0, .ref (kad G 133))] dX12_nameHere_34 rfl (by decide) rfl ?_
        refine k_iinc hC (y := (k : Int) + 1) [(3, vI ((k : Int) + 1)), (1, vL ((((27 * v) + (bt k)) - 97) + 1)), (0, .ref (kad G 133))] (j := 1) dX12_nameHere_35 rfl (by omega) (by decide) rfl ?_
        refine k_goto hC 7 dX12_nameHere_38 rfl ?_
        refine k_lvs (ls := [0, 1, 2]) [(3, vI ((k + 1 : Nat) : Int)), (1, vL ((((27 * v) + (bt k)) - 97) + 1)), (0, .ref (kad G 133))] (by simp only [lv_pick]; rfl) ?_
        exact ihw (k + 1) ((((27 * v) + (bt k)) - 97) + 1)  (by omega) (by omega) (by rw [show k + 1 - st.2.2 = (k - st.2.2) + 1 by omega]; show _ = 27 * nmG (fun i => bt (st.2.2 + i)) (k - st.2.2) + (bt (st.2.2 + (k - st.2.2)) - 96); rw [← hv, show st.2.2 + (k - st.2.2) = k by omega]; omega)
  refine k_lvs (ls := [0, 1, 2]) [(3, vI (st.2.2 : Int)), (1, vL 0), (0, .ref (kad G 133))] (by simp only [lv_pick]; rfl) ?_
  exact loop0 (enM bt n st.2.2 + 1) st.2.2 0  (by omega) (by omega) (by rw [Nat.sub_self]; rfl)

set_option maxRecDepth 100000 in
set_option maxHeartbeats 4000000 in
theorem c_X12_bodyHere (l : Launch) (hls : l.stackTraces = false) (G : kG) (hN : kN G = 150) (w : Nat → va_E) (fl : va_W) (u bt : Nat → Int) (n : Nat) (st : PS) (D : Nat → Int) (hz0 : st.1 = 0) (hd0 : 0 ≤ D 0 ∧ D 0 ≤ 6) (hNb : NmB D) (hn7 : n ≤ 700) (hb : btOK bt) (hm : w 133 = mdO G u) (h144 : w 144 = iA G 700 bt) (hK : mkR u bt n st) (h135 : w 135 = lA G 93 D) : KM l G yX12_bodyHere cX12_bodyHere 2 (some (FieldType.int)) 1 0 0 [.ref (kad G 133)] w fl (kPure (vI (bdM bt n D st)) w fl) := by
  refine KM_of2 hls (by decide +kernel) rfl (lv0 := [(0, .ref (kad G 133))]) rfl (Nat.le_of_ble_eq_true rfl) (fun p e R s m args below meth c Q hC hr hQ => ?_)
  have h18 := hK.1
  have h22 := hK.2.1
  have hrg := hK.2.2.1
  have hcb := hK.cb
  have hk0 := hK.2.2.2.1
  have hk1 := hK.2.2.2.2.1
  have hdg := hK.2.2.2.2.2
  have hzz : st.1 = 0 := by omega
  have hq0 := hK.2.2.2.1 hzz
  have hen := enM_b (bt := bt) hq0.2.2.2
  refine k_iconst hC dX12_bodyHere_0 ?_
  refine k_istore_n hC [(1, vI 0), (0, .ref (kad G 133))] dX12_bodyHere_1 rfl (by decide) rfl ?_
  have loop0 : ∀ (nw : Nat) (k : Nat), ((D 0).toNat < nw + k) → ((k : Int) ≤ D 0) → (bdF D (nmM bt n st.2.2) k = -1) → KW p l e R s m args below meth c 2 G Q w fl 0 0 2 [(1, vI (k : Int)), (0, .ref (kad G 133))] [] := by
    intro nw
    induction nw with
    | zero =>
      intro k hn_w hk hv
      exact absurd hn_w (by omega)
    | succ nw ihw =>
      intro k hn_w hk hv
      refine k_iload_n hC dX12_bodyHere_2 rfl 0 rfl ?_
      refine k_i2l hC dX12_bodyHere_3 (by omega) ?_
      refine k_aload_n hC dX12_bodyHere_4 rfl 1 rfl ?_
      refine k_get hC fd_X12_13 (kl hN (by decide)) hm rfl dX12_bodyHere_5 ?_
      refine k_iconst hC dX12_bodyHere_8 ?_
      refine k_lald hC (kl hN (by decide)) h135 (by omega) (by decide) dX12_bodyHere_9 ?_
      refine k_topv (vL (D 0)) rfl ?_
      refine k_lcmp_ge hC 65 dX12_bodyHere_10 dX12_bodyHere_11 rfl (by omega) (by omega) (fun c_10 => ?_) (fun c_10 => ?_)
      · refine k_iconst hC dX12_bodyHere_65 ?_
        subst hQ
        exact k_iret hC hr ⟨by decide, by decide⟩ (⟨congrArg (fun z => some (vI z)) (show (bdM bt n D st : Int) = -1 from by unfold bdM; by_cases q : isNm bt n st; (rw [selP_1 q]; have q1 := q.1; have q2 := q.2.1; have q3 := q.2.2; rw [show (D 0).toNat = k by omega]; exact hv); (exact selP_0 q)), rfl, rfl⟩) dX12_bodyHere_66
      · refine k_aload_n hC dX12_bodyHere_14 rfl 1 rfl ?_
        refine k_get hC fd_X12_377 (kl hN (by decide)) hm rfl dX12_bodyHere_15 ?_
        refine k_iconst hC dX12_bodyHere_18 ?_
        refine k_icmp_ne hC 65 dX12_bodyHere_19 rfl (by omega) (by omega) (fun c_19 => ?_) (fun c_19 => ?_)
        · refine k_iconst hC dX12_bodyHere_65 ?_
          subst hQ
          exact k_iret hC hr ⟨by decide, by decide⟩ (⟨congrArg (fun z => some (vI z)) (show (bdM bt n D st : Int) = -1 from by unfold bdM; by_cases q : isNm bt n st; (rw [selP_1 q]; have q1 := q.1; have q2 := q.2.1; have q3 := q.2.2; rw [show (D 0).toNat = k by omega]; exact hv); (exact selP_0 q)), rfl, rfl⟩) dX12_bodyHere_66
        · refine k_aload_n hC dX12_bodyHere_22 rfl 1 rfl ?_
          refine k_get hC fd_X12_371 (kl hN (by decide)) hm rfl dX12_bodyHere_23 ?_
          refine k_aload_n hC dX12_bodyHere_26 rfl 1 rfl ?_
          refine k_get hC fd_X12_374 (kl hN (by decide)) hm rfl dX12_bodyHere_27 ?_
          refine k_isub hC dX12_bodyHere_30 ?_
          refine k_bipush hC dX12_bodyHere_31 (by decide) ?_
          refine k_icmp_gt hC 65 dX12_bodyHere_33 rfl (by omega) (by omega) (fun c_33 => ?_) (fun c_33 => ?_)
          · refine k_iconst hC dX12_bodyHere_65 ?_
            subst hQ
            exact k_iret hC hr ⟨by decide, by decide⟩ (⟨congrArg (fun z => some (vI z)) (show (bdM bt n D st : Int) = -1 from by unfold bdM; by_cases q : isNm bt n st; (rw [selP_1 q]; have q1 := q.1; have q2 := q.2.1; have q3 := q.2.2; rw [show (D 0).toNat = k by omega]; exact hv); (exact selP_0 q)), rfl, rfl⟩) dX12_bodyHere_66
          · refine k_aload_n hC dX12_bodyHere_36 rfl 1 rfl ?_
            refine k_get hC fd_X12_13 (kl hN (by decide)) hm rfl dX12_bodyHere_37 ?_
            refine k_bipush hC dX12_bodyHere_40 (by decide) ?_
            refine k_iconst hC dX12_bodyHere_42 ?_
            refine k_iload_n hC dX12_bodyHere_43 rfl 0 rfl ?_
            refine k_imul hC dX12_bodyHere_44 ?_
            refine k_iadd hC dX12_bodyHere_45 ?_
            refine k_iconst hC dX12_bodyHere_46 ?_
            refine k_iadd hC dX12_bodyHere_47 ?_
            refine k_topv (vI (((12 + 4 * k : Nat) : Int))) (congrArg vI (by omega)) ?_
            have hnbk := hNb k (by omega)
            refine k_lald hC (kl hN (by decide)) h135 (by omega) (by decide) dX12_bodyHere_48 ?_
            refine k_topv (vL (D (12 + 4 * k))) rfl ?_
            refine k_aload_n hC dX12_bodyHere_49 rfl 1 rfl ?_
            refine k_pureV hC (c_X12_nameHere l hls G hN w fl u bt n st ⟨by omega, by omega, by omega⟩ hn7 hb hm h144 hK) yy_X12_nameHere wm_X12_432 (kl hN (by decide)) hm rfl rfl rfl rfl (Nat.le_of_ble_eq_true rfl) (by decide) (by decide) ⟨by decide, by decide⟩ dX12_bodyHere_50 ?_
            have hnb_1 := nmM_b (bt := bt) (n := n) (s := st.2.2) (by omega) (by omega)
            refine k_lcmp_ne hC 59 dX12_bodyHere_53 dX12_bodyHere_54 rfl (by omega) (by omega) (fun c_53 => ?_) (fun c_53 => ?_)
            · refine k_iinc hC (y := (k : Int) + 1) [(1, vI ((k : Int) + 1)), (0, .ref (kad G 133))] (j := 0) dX12_bodyHere_59 rfl (by omega) (by decide) rfl ?_
              refine k_goto hC 2 dX12_bodyHere_62 rfl ?_
              refine k_lvs (ls := [0, 1]) [(1, vI ((k + 1 : Nat) : Int)), (0, .ref (kad G 133))] (by simp only [lv_pick]; rfl) ?_
              exact ihw (k + 1)  (by omega) (by omega) ((if_neg (fun q => by have q2 := q.2; omega)).trans hv)
            · refine k_iload_n hC dX12_bodyHere_57 rfl 0 rfl ?_
              subst hQ
              exact k_iret hC hr ⟨by decide, by decide⟩ (⟨congrArg (fun z => some (vI z)) (show (bdM bt n D st : Int) = (k : Int) from by have e : bdF D (nmM bt n st.2.2) (k + 1) = (k : Int) := if_pos ⟨hv, by omega⟩; have e2 := bdF_st (D := D) (x := nmM bt n st.2.2) (k := k + 1) (by rw [e]; omega) ((D 0).toNat - (k + 1)); unfold bdM; rw [selP_1 ⟨by omega, by omega, by omega⟩, show (D 0).toNat = k + 1 + ((D 0).toNat - (k + 1)) by omega, e2, e]), rfl, rfl⟩) dX12_bodyHere_58
  refine k_lvs (ls := [0, 1]) [(1, vI ((0 : Nat) : Int)), (0, .ref (kad G 133))] (by simp only [lv_pick]; rfl) ?_
  exact loop0 ((D 0).toNat + 1) 0  (by omega) (by omega) rfl

