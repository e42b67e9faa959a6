theorem fdiv_sp {a b : Int} (hb : b ≠ 0) : (0 < b ∧ a.fdiv b * b ≤ a ∧ a < a.fdiv b * b + b) ∨ (b < 0 ∧ a ≤ a.fdiv b * b ∧ a.fdiv b * b + b < a) := by
  have h1 := Int.fmod_add_fdiv_mul a b
  rcases Int.lt_or_le 0 b with h | h
  · have h2 := Int.fmod_nonneg_of_pos a h
    have h3 := Int.fmod_lt_of_pos a h
    exact Or.inl ⟨h, by omega, by omega⟩
  · have h2 := Int.fmod_nonneg_of_pos (-a) (b := -b) (by omega)
    have h3 := Int.fmod_lt_of_pos (-a) (b := -b) (by omega)
    rw [Int.neg_fmod_neg] at h2 h3
    exact Or.inr ⟨by omega, by omega, by omega⟩
theorem fdiv_un {a b q r : Int} (hb : 0 < b) (h1 : q * b ≤ a) (h2 : a < r * b + b) : q ≤ r := by
  rcases Int.lt_or_le r q with h | h
  · have h3 := Int.mul_le_mul_of_nonneg_right (show r + 1 ≤ q by omega) (show 0 ≤ b by omega)
    rw [Int.add_mul, Int.one_mul] at h3
    omega
  · exact h
theorem fdiv_ch {a b q : Int} (h : (0 < b ∧ q * b ≤ a ∧ a < q * b + b) ∨ (b < 0 ∧ a ≤ q * b ∧ q * b + b < a)) : a.fdiv b = q := by
  have h1 := fdiv_sp (a := a) (b := b) (by omega)
  rcases h with ⟨h2, h3, h4⟩ | ⟨h2, h3, h4⟩
  · rcases h1 with ⟨h5, h6, h7⟩ | ⟨h5, h6, h7⟩
    · have := fdiv_un h2 h3 h7; have := fdiv_un h2 h6 h4; omega
    · omega
  · rcases h1 with ⟨h5, h6, h7⟩ | ⟨h5, h6, h7⟩
    · omega
    · have e1 : a.fdiv b * -b = -(a.fdiv b * b) := Int.mul_neg _ _
      have e2 : q * -b = -(q * b) := Int.mul_neg _ _
      have := fdiv_un (a := -a) (b := -b) (q := q) (r := a.fdiv b) (by omega) (by omega) (by omega)
      have := fdiv_un (a := -a) (b := -b) (q := a.fdiv b) (r := q) (by omega) (by omega) (by omega)
      omega
theorem fdiv_bm {a b : Int} (M : Int) (hM : 0 < M) (hb : b ≠ 0) : (a * M).fdiv b = a.fdiv b * M + ((a - a.fdiv b * b) * M).fdiv b := by
  have h2 := fdiv_sp (a := (a - a.fdiv b * b) * M) (b := b) hb
  apply fdiv_ch
  generalize ((a - a.fdiv b * b) * M).fdiv b = r at *
  rw [Int.add_mul, Int.mul_right_comm, Int.sub_mul] at *
  rcases h2 with ⟨h5, h6, h7⟩ | ⟨h5, h6, h7⟩
  · exact Or.inl ⟨h5, by omega, by omega⟩
  · exact Or.inr ⟨h5, by omega, by omega⟩
theorem fdiv_sm {a b : Int} (ha : -9000000000000 ≤ a ∧ a ≤ 9000000000000) (hb : 100000000000 ≤ b ∨ b ≤ -100000000000) : -1000 ≤ a.fdiv b ∧ a.fdiv b ≤ 1000 := by
  have h1 := fdiv_sp (a := a) (b := b) (by omega)
  rcases h1 with ⟨h5, h6, h7⟩ | ⟨h5, h6, h7⟩
  · exact ⟨fdiv_un (a := a) (b := b) (by omega) (by omega) (by omega), fdiv_un (a := a) (b := b) (by omega) (by omega) (by omega)⟩
  · have e1 : a.fdiv b * -b = -(a.fdiv b * b) := Int.mul_neg _ _
    exact ⟨fdiv_un (a := -a) (b := -b) (by omega) (by omega) (by omega), fdiv_un (a := -a) (b := -b) (by omega) (by omega) (by omega)⟩
theorem lA_kup2 {G : kG} {n i : Nat} {f : Nat → Int} {a b : Int} : lA G n (kup (kup f i a) i b) = lA G n (kup f i b) := lA_congr (fun j _ => by unfold kup; split <;> rfl)
noncomputable abbrev mAt (g : Nat → Int) (T : Int) (i : Nat) (ls lc lo : Nat → Int) : Prop := ls i = sinM (aziM g i) ∧ lc i = cosM (aziM g i) ∧ lo i = carM g i T
theorem mAt_put {g : Nat → Int} {T : Int} {i k : Nat} {ls lc lo : Nat → Int} (h : mAt g T k ls lc lo) : mAt g T k (kup ls i (sinM (aziM g i))) (kup lc i (cosM (aziM g i))) (kup lo i (carM g i T)) := by
  obtain ⟨h1, h2, h3⟩ := h
  by_cases hk : k = i
  · subst hk; exact ⟨kup_s, kup_s, kup_s⟩
  · exact ⟨by rw [kup_n hk]; exact h1, by rw [kup_n hk]; exact h2, by rw [kup_n hk]; exact h3⟩
def kLns (G : kG) (w : Nat → va_E) (ls lc lo : Nat → Int) : Prop := w 138 = lA G 12 ls ∧ w 139 = lA G 12 lc ∧ w 140 = lA G 12 lo
theorem kLns.fr {G : kG} {w w1 : Nat → va_E} {ls lc lo : Nat → Int} (h : kLns G w ls lc lo) (hf : ∀ j, 138 ≤ j → j ≤ 140 → w1 j = w j) : kLns G w1 ls lc lo := ⟨(hf _ (by omega) (by omega)).trans h.1, (hf _ (by omega) (by omega)).trans h.2.1, (hf _ (by omega) (by omega)).trans h.2.2⟩
set_option maxRecDepth 100000 in
set_option maxHeartbeats 4000000 in
theorem c_X12_layLine (l : Launch) (hls : l.stackTraces = false) (G : kG) (hN : kN G = 150) (w : Nat → va_E) (fl : va_W) (u g : Nat → Int) (ls lc lo : Nat → Int) (i : Nat) (hI : Inv g) (hi : (i : Int) < g 2) (hm : w 133 = mdO G u) (hn : w 134 = lA G 93 g) (hLs : kLns G w ls lc lo) : KM l G yX12_layLine cX12_layLine 10 (none) 11 0 0 [.ref (kad G 133), vI (i : Int)] w fl (kMuv fl (fun w1 => kLns G w1 (kup ls i (sinM (aziM g i))) (kup lc i (cosM (aziM g i))) (kup lo i (offM g i)) ∧ ∀ j, (j < 138 ∨ 140 < j) → w1 j = w j)) := by
  refine KM_of2 hls (by decide +kernel) rfl (lv0 := [(0, .ref (kad G 133)), (1, vI (i : Int))]) rfl (Nat.le_of_ble_eq_true rfl) (fun p e R s m args below meth c Q hC hr hQ => ?_)
  have h0 := hI.c
  have hsi := hI.sight i hi
  have hbi := hI.body (g (57 + 3 * i)).toNat (by omega)
  have hla := latM_b hI hsi.2.1
  have hde := decM_b hI i hi
  have han := angM_b hI i hi
  have hlo := lonT_b g (g (58 + 3 * i))
  have hqa := aziM_b g i
  have hqi := intM_b hI i hi
  have hoe := offE_b (g := g) (lonT g (g (58 + 3 * i)) - g 4)
  have hss := sinM_b (aziM g i)
  have hcc := cosM_b (aziM g i)
  refine k_aload_n hC dX12_layLine_0 rfl 0 rfl ?_
  refine k_iload_n hC dX12_layLine_1 rfl 1 rfl ?_
  refine k_iconst hC dX12_layLine_2 ?_
  refine k_pureV hC (c_X12_ofSight l hls G hN w fl u g i 1 (by omega) (by decide) hm hn) yy_X12_ofSight wm_X12_147 (kl hN (by decide)) hm rfl rfl rfl rfl (Nat.le_of_ble_eq_true rfl) (by decide) (by decide) ⟨by decide, by decide⟩ dX12_layLine_3 ?_
  refine k_topv (vL (g (58 + 3 * i))) rfl ?_
  refine k_lstore_n hC [(2, vL (g (58 + 3 * i))), (0, .ref (kad G 133)), (1, vI (i : Int))] dX12_layLine_6 rfl (by decide) rfl ?_
  refine k_aload_n hC dX12_layLine_7 rfl 1 rfl ?_
  refine k_iload_n hC dX12_layLine_8 rfl 2 rfl ?_
  refine k_pureV hC (c_X12_azimuth l hls G hN w fl u g i hI (by omega) hm hn) yy_X12_azimuth wm_X12_184 (kl hN (by decide)) hm rfl rfl rfl rfl (Nat.le_of_ble_eq_true rfl) (by decide) (by decide) ⟨by decide, by decide⟩ dX12_layLine_9 ?_
  refine k_topv (vL (aziM g i)) rfl ?_
  have hb_1 := aziM_b g i
  refine k_lstore hC [(4, vL (aziM g i)), (2, vL (g (58 + 3 * i))), (0, .ref (kad G 133)), (1, vI (i : Int))] dX12_layLine_12 (by decide) rfl ?_
  refine k_aload_n hC dX12_layLine_14 rfl 2 rfl ?_
  refine k_get hC fd_X12_22 (kl hN (by decide)) hm rfl dX12_layLine_15 ?_
  refine k_iload_n hC dX12_layLine_18 rfl 3 rfl ?_
  refine k_lload hC dX12_layLine_19 0 rfl ?_
  refine k_pureS hC (c_X12_sineOf l hls G hN w fl (aziM g i) (by omega)) yy_X12_sineOf wm_X12_101 rfl rfl (Nat.le_of_ble_eq_true rfl) (by decide) (by decide) ⟨by decide, by decide⟩ dX12_layLine_21 ?_
  have hb_2 := sinM_b (aziM g i)
  refine k_last hC (kl hN (by decide)) hLs.1 (by omega) (by decide) dX12_layLine_24 (fun w3 hw3 hf3 => ?_)
  refine k_aload_n hC dX12_layLine_25 rfl 2 rfl ?_
  have h_4 : w3 133 = .inr (12, [.ref (kad G 134), .ref (kad G 135), .ref (kad G 136), .ref (kad G 137), vI (u 4), vI (u 5), vI (u 6), .ref (kad G 138), .ref (kad G 139), .ref (kad G 140), .ref (kad G 141), .ref (kad G 142), vL (u 12), vL (u 13), .ref (kad G 143), vI (u 15), .ref (kad G 144), vI (u 17), vI (u 18), vI (u 19), vI (u 20), vI (u 21), vI (u 22), vI (u 23), vI (u 24), vI (u 25), .ref (kad G 145), .ref (kad G 146), .ref (kad G 147), vI (u 29)]) := (hf3 133 (by decide)).trans hm
  refine k_get hC fd_X12_25 (kl hN (by decide)) h_4 rfl dX12_layLine_26 ?_
  refine k_iload_n hC dX12_layLine_29 rfl 3 rfl ?_
  refine k_lload hC dX12_layLine_30 0 rfl ?_
  refine k_pureS hC (c_X12_cosineOf l hls G hN w3 fl (aziM g i) (by omega)) yy_X12_cosineOf wm_X12_117 rfl rfl (Nat.le_of_ble_eq_true rfl) (by decide) (by decide) ⟨by decide, by decide⟩ dX12_layLine_32 ?_
  refine k_topv (vL (cosM (aziM g i))) rfl ?_
  have hb_5 := cosM_b (aziM g i)
  have h_6 : w3 139 = lA G 12 lc := (hf3 139 (by decide)).trans hLs.2.1
  refine k_last hC (kl hN (by decide)) h_6 (by omega) (by decide) dX12_layLine_35 (fun w7 hw7 hf7 => ?_)
  refine k_aload_n hC dX12_layLine_36 rfl 2 rfl ?_
  refine k_lload_n hC dX12_layLine_37 rfl 1 rfl ?_
  have h_8 : w7 134 = lA G 93 g := (hf7 134 (by decide)).trans ((hf3 134 (by decide)).trans hn)
  have h_9 : w7 133 = .inr (12, [.ref (kad G 134), .ref (kad G 135), .ref (kad G 136), .ref (kad G 137), vI (u 4), vI (u 5), vI (u 6), .ref (kad G 138), .ref (kad G 139), .ref (kad G 140), .ref (kad G 141), .ref (kad G 142), vL (u 12), vL (u 13), .ref (kad G 143), vI (u 15), .ref (kad G 144), vI (u 17), vI (u 18), vI (u 19), vI (u 20), vI (u 21), vI (u 22), vI (u 23), vI (u 24), vI (u 25), .ref (kad G 145), .ref (kad G 146), .ref (kad G 147), vI (u 29)]) := (hf7 133 (by decide)).trans h_4
  refine k_pureV hC (c_X12_longitudeAt l hls G hN w7 fl u g (g (58 + 3 * i)) hI (by omega) h_9 h_8) yy_X12_longitudeAt wm_X12_164 (kl hN (by decide)) h_9 rfl rfl rfl rfl (Nat.le_of_ble_eq_true rfl) (by decide) (by decide) ⟨by decide, by decide⟩ dX12_layLine_38 ?_
  refine k_topv (vL (lonT g (g (58 + 3 * i)))) rfl ?_
  have hb_10 := lonT_b g (g (58 + 3 * i))
  refine k_aload_n hC dX12_layLine_41 rfl 2 rfl ?_
  refine k_get hC fd_X12_9 (kl hN (by decide)) h_9 rfl dX12_layLine_42 ?_
  refine k_iconst hC dX12_layLine_45 ?_
  refine k_lald hC (kl hN (by decide)) h_8 (by omega) (by decide) dX12_layLine_46 ?_
  refine k_topv (vL (g 4)) rfl ?_
  refine k_lsub hC dX12_layLine_47 ?_
  refine k_pureS hC (c_X12_within l hls G hN w7 fl ((lonT g (g (58 + 3 * i))) - (g 4)) (by omega)) yy_X12_within wm_X12_139 rfl rfl (Nat.le_of_ble_eq_true rfl) (by decide) (by decide) ⟨by decide, by decide⟩ dX12_layLine_48 ?_
  refine k_topv (vL (lonM ((lonT g (g (58 + 3 * i))) - (g 4)))) rfl ?_
  have hb_11 := k_lonb ((lonT g (g (58 + 3 * i))) - (g 4))
  refine k_aload_n hC dX12_layLine_51 rfl 2 rfl ?_
  refine k_get hC fd_X12_9 (kl hN (by decide)) h_9 rfl dX12_layLine_52 ?_
  refine k_iconst hC dX12_layLine_55 ?_
  refine k_lald hC (kl hN (by decide)) h_8 (by omega) (by decide) dX12_layLine_56 ?_
  refine k_topv (vL (g 3)) rfl ?_
  refine k_pureS hC (c_X12_cosineOf l hls G hN w7 fl (g 3) (by omega)) yy_X12_cosineOf wm_X12_117 rfl rfl (Nat.le_of_ble_eq_true rfl) (by decide) (by decide) ⟨by decide, by decide⟩ dX12_layLine_57 ?_
  refine k_topv (vL (cosM (g 3))) rfl ?_
  have hb_12 := cosM_b (g 3)
  refine k_lmul hC dX12_layLine_60 ?_
  have hm1 := mul_le_abs (a := lonM (lonT g (g (58 + 3 * i)) - g 4)) (b := cosM (g 3)) (A := 10800) (B := 1000000) (by have := k_lonb (lonT g (g (58 + 3 * i)) - g 4); omega) (cosM_b _)
  refine k_ldc2 hC (x := 10000) (v := 10000) dX12_layLine_61 (by decide) wk_X12_137 ?_
  refine k_pureS hC (c_X12_floor l hls G hN w7 fl ((lonM ((lonT g (g (58 + 3 * i))) - (g 4))) * (cosM (g 3))) 10000 (by omega) (by omega)) yy_X12_floor wm_X12_92 rfl rfl (Nat.le_of_ble_eq_true rfl) (by decide) (by decide) ⟨by decide, by decide⟩ dX12_layLine_64 ?_
  refine k_topL (fun ee eee => ?_)
  refine k_lstore hC [(6, vL ee), (4, vL (aziM g i)), (2, vL (g (58 + 3 * i))), (0, .ref (kad G 133)), (1, vI (i : Int))] dX12_layLine_67 (by decide) rfl ?_
  have eee2 : ee = lonM (lonT g (g (58 + 3 * i)) - g 4) * cosM (g 3) / 10000 := by rw [eee, Int.fdiv_eq_ediv_of_nonneg _ (by decide)]
  refine k_ldc2 hC (x := 100) (v := 100) dX12_layLine_69 (by decide) wk_X12_135 ?_
  refine k_aload_n hC dX12_layLine_72 rfl 3 rfl ?_
  refine k_lload_n hC dX12_layLine_73 rfl 2 rfl ?_
  refine k_pureV hC (c_X12_latitudeAt l hls G hN w7 fl u g (g (58 + 3 * i)) hI (by omega) h_9 h_8) yy_X12_latitudeAt wm_X12_167 (kl hN (by decide)) h_9 rfl rfl rfl rfl (Nat.le_of_ble_eq_true rfl) (by decide) (by decide) ⟨by decide, by decide⟩ dX12_layLine_74 ?_
  refine k_topv (vL (latM g (g (58 + 3 * i)))) rfl ?_
  have hb_13 := latM_b hI (t := g (58 + 3 * i)) (by omega)
  refine k_aload_n hC dX12_layLine_77 rfl 3 rfl ?_
  refine k_get hC fd_X12_9 (kl hN (by decide)) h_9 rfl dX12_layLine_78 ?_
  refine k_iconst hC dX12_layLine_81 ?_
  refine k_lald hC (kl hN (by decide)) h_8 (by omega) (by decide) dX12_layLine_82 ?_
  refine k_topv (vL (g 3)) rfl ?_
  refine k_lsub hC dX12_layLine_83 ?_
  refine k_lmul hC dX12_layLine_84 ?_
  refine k_topL (fun nn enn => ?_)
  refine k_lstore hC [(8, vL nn), (6, vL ee), (4, vL (aziM g i)), (2, vL (g (58 + 3 * i))), (0, .ref (kad G 133)), (1, vI (i : Int))] dX12_layLine_85 (by decide) rfl ?_
  refine k_aload_n hC dX12_layLine_87 rfl 4 rfl ?_
  refine k_get hC fd_X12_28 (kl hN (by decide)) h_9 rfl dX12_layLine_88 ?_
  refine k_iload_n hC dX12_layLine_91 rfl 5 rfl ?_
  refine k_lload hC dX12_layLine_92 1 rfl ?_
  refine k_lload hC dX12_layLine_94 0 rfl ?_
  refine k_aload_n hC dX12_layLine_96 rfl 4 rfl ?_
  refine k_get hC fd_X12_22 (kl hN (by decide)) h_9 rfl dX12_layLine_97 ?_
  refine k_iload_n hC dX12_layLine_100 rfl 5 rfl ?_
  have h_14 : w7 138 = lA G 12 (kup ls ((i : Int)).toNat (sinM (aziM g i))) := (hf7 138 (by decide)).trans hw3
  refine k_lald hC (kl hN (by decide)) h_14 (by omega) (by decide) dX12_layLine_101 ?_
  refine k_topv (vL ((kup ls ((i : Int)).toNat (sinM (aziM g i))) i)) rfl ?_
  refine k_topv (vL (sinM (aziM g i))) (congrArg vL kup_s) ?_
  refine k_aload_n hC dX12_layLine_102 rfl 4 rfl ?_
  refine k_get hC fd_X12_25 (kl hN (by decide)) h_9 rfl dX12_layLine_103 ?_
  refine k_iload_n hC dX12_layLine_106 rfl 5 rfl ?_
  refine k_lald hC (kl hN (by decide)) hw7 (by omega) (by decide) dX12_layLine_107 ?_
  refine k_topv (vL ((kup lc ((i : Int)).toNat (cosM (aziM g i))) i)) rfl ?_
  refine k_topv (vL (cosM (aziM g i))) (congrArg vL kup_s) ?_
  refine k_pureS hC (c_X12_along l hls G hN w7 fl ee nn (sinM (aziM g i)) (cosM (aziM g i)) (by omega) (by omega) (by omega) (by omega)) yy_X12_along wm_X12_186 rfl rfl (Nat.le_of_ble_eq_true rfl) (by decide) (by decide) ⟨by decide, by decide⟩ dX12_layLine_108 ?_
  refine k_topv (vL (along ee nn (sinM (aziM g i)) (cosM (aziM g i)))) rfl ?_
  have hb_15 := along_b 10000000 10000000 (e := ee) (n := nn) (s := sinM (aziM g i)) (c := cosM (aziM g i)) (by omega) (by omega) (by omega) (by omega)
  refine k_ldc2 hC (x := 100) (v := 100) dX12_layLine_111 (by decide) wk_X12_135 ?_
  refine k_aload_n hC dX12_layLine_114 rfl 4 rfl ?_
  refine k_iload_n hC dX12_layLine_115 rfl 5 rfl ?_
  refine k_pureV hC (c_X12_intercept l hls G hN w7 fl u g i hI (by omega) h_9 h_8) yy_X12_intercept wm_X12_190 (kl hN (by decide)) h_9 rfl rfl rfl rfl (Nat.le_of_ble_eq_true rfl) (by decide) (by decide) ⟨by decide, by decide⟩ dX12_layLine_116 ?_
  refine k_topv (vL (intM g i)) rfl ?_
  have hb_16 := intM_b hI i (by omega)
  refine k_lmul hC dX12_layLine_119 ?_
  refine k_ladd hC dX12_layLine_120 ?_
  refine k_topv (vL (offM g i)) (congrArg vL (by unfold offM; rw [eee2, enn])) ?_
  have h_17 : w7 140 = lA G 12 lo := (hf7 140 (by decide)).trans ((hf3 140 (by decide)).trans hLs.2.2)
  refine k_last hC (kl hN (by decide)) h_17 (by omega) (by decide) dX12_layLine_121 (fun w18 hw18 hf18 => ?_)
  have h_19 : w18 138 = lA G 12 (kup ls ((i : Int)).toNat (sinM (aziM g i))) := (hf18 138 (by decide)).trans h_14
  have h_20 : w18 139 = lA G 12 (kup lc ((i : Int)).toNat (cosM (aziM g i))) := (hf18 139 (by decide)).trans hw7
  subst hQ
  exact k_vret hC hr ⟨by decide, by decide⟩ (⟨rfl, rfl, ⟨h_19, h_20, hw18⟩, fun j hj => (hf18 j (by omega)).trans ((hf7 j (by omega)).trans (hf3 j (by omega)))⟩) dX12_layLine_122

set_option maxRecDepth 100000 in
set_option maxHeartbeats 4000000 in
theorem c_X12_carry (l : Launch) (hls : l.stackTraces = false) (G : kG) (hN : kN G = 150) (w : Nat → va_E) (fl : va_W) (u g : Nat → Int) (ls lc lo : Nat → Int) (i : Nat) (T : Int) (hI : Inv g) (hi : (i : Int) < g 2) (ht : 0 ≤ T ∧ T ≤ 5000) (hm : w 133 = mdO G u) (hn : w 134 = lA G 93 g) (hLs : kLns G w ls lc lo) : KM l G yX12_carry cX12_carry 10 (none) 12 0 0 [.ref (kad G 133), vI (i : Int), vL T] w fl (kMuv fl (fun w1 => (∃ ls1 lc1 lo1 : Nat → Int, kLns G w1 ls1 lc1 lo1 ∧ mAt g T i ls1 lc1 lo1 ∧ (∀ k, mAt g T k ls lc lo → mAt g T k ls1 lc1 lo1)) ∧ ∀ j, (j < 138 ∨ 140 < j) → w1 j = w j)) := by
  refine KM_of2 hls (by decide +kernel) rfl (lv0 := [(0, .ref (kad G 133)), (1, vI (i : Int)), (2, vL T)]) rfl (Nat.le_of_ble_eq_true rfl) (fun p e R s m args below meth c Q hC hr hQ => ?_)
  have h0 := hI.c
  have hsi := hI.sight i hi
  have hbi := hI.body (g (57 + 3 * i)).toNat (by omega)
  have hla := latM_b hI hsi.2.1
  have hde := decM_b hI i hi
  have han := angM_b hI i hi
  have hss := sinM_b (aziM g i)
  have hcc := cosM_b (aziM g i)
  refine k_aload_n hC dX12_carry_0 rfl 0 rfl ?_
  refine k_iload_n hC dX12_carry_1 rfl 1 rfl ?_
  refine k_muvV hC (c_X12_layLine l hls G hN w fl u g ls lc lo i hI (by omega) hm hn hLs) yy_X12_layLine wm_X12_193 (kl hN (by decide)) hm rfl rfl rfl rfl (Nat.le_of_ble_eq_true rfl) (by decide) (by decide) ⟨by decide, by decide⟩ dX12_carry_2 (fun w1 hp1 => ?_)
  obtain ⟨hl1, hf1⟩ := hp1
  refine k_aload_n hC dX12_carry_5 rfl 0 rfl ?_
  refine k_iload_n hC dX12_carry_6 rfl 1 rfl ?_
  refine k_iconst hC dX12_carry_7 ?_
  have h_2 : w1 134 = lA G 93 g := (hf1 134 (by omega)).trans hn
  have h_3 : w1 133 = .inr (12, [.ref (kad G 134), .ref (kad G 135), .ref (kad G 136), .ref (kad G 137), vI (u 4), vI (u 5), vI (u 6), .ref (kad G 138), .ref (kad G 139), .ref (kad G 140), .ref (kad G 141), .ref (kad G 142), vL (u 12), vL (u 13), .ref (kad G 143), vI (u 15), .ref (kad G 144), vI (u 17), vI (u 18), vI (u 19), vI (u 20), vI (u 21), vI (u 22), vI (u 23), vI (u 24), vI (u 25), .ref (kad G 145), .ref (kad G 146), .ref (kad G 147), vI (u 29)]) := (hf1 133 (by omega)).trans hm
  refine k_pureV hC (c_X12_ofSight l hls G hN w1 fl u g i 1 (by omega) (by decide) h_3 h_2) yy_X12_ofSight wm_X12_147 (kl hN (by decide)) h_3 rfl rfl rfl rfl (Nat.le_of_ble_eq_true rfl) (by decide) (by decide) ⟨by decide, by decide⟩ dX12_carry_8 ?_
  refine k_topv (vL (g (58 + 3 * i))) rfl ?_
  refine k_lstore hC [(4, vL (g (58 + 3 * i))), (0, .ref (kad G 133)), (1, vI (i : Int)), (2, vL T)] dX12_carry_11 (by decide) rfl ?_
  refine k_aload_n hC dX12_carry_13 rfl 1 rfl ?_
  refine k_lload_n hC dX12_carry_14 rfl 3 rfl ?_
  refine k_iconst hC dX12_carry_15 ?_
  refine k_pureV hC (c_X12_displaced l hls G hN w1 fl u g T 0 hI (by omega) (by omega) h_3 h_2) yy_X12_displaced wm_X12_131 (kl hN (by decide)) h_3 rfl rfl rfl rfl (Nat.le_of_ble_eq_true rfl) (by decide) (by decide) ⟨by decide, by decide⟩ dX12_carry_16 ?_
  refine k_topv (vL (dispM g T false)) rfl ?_
  have hb_4 := dispM_b hI (t := T) (by omega) false
  refine k_aload_n hC dX12_carry_19 rfl 1 rfl ?_
  refine k_lload hC dX12_carry_20 0 rfl ?_
  refine k_iconst hC dX12_carry_22 ?_
  refine k_pureV hC (c_X12_displaced l hls G hN w1 fl u g (g (58 + 3 * i)) 0 hI (by omega) (by omega) h_3 h_2) yy_X12_displaced wm_X12_131 (kl hN (by decide)) h_3 rfl rfl rfl rfl (Nat.le_of_ble_eq_true rfl) (by decide) (by decide) ⟨by decide, by decide⟩ dX12_carry_23 ?_
  refine k_topv (vL (dispM g (g (58 + 3 * i)) false)) rfl ?_
  have hb_5 := dispM_b hI (t := g (58 + 3 * i)) (by omega) false
  refine k_lsub hC dX12_carry_26 ?_
  refine k_topL (fun ee eee => ?_)
  refine k_lstore hC [(6, vL ee), (4, vL (g (58 + 3 * i))), (0, .ref (kad G 133)), (1, vI (i : Int)), (2, vL T)] dX12_carry_27 (by decide) rfl ?_
  refine k_aload_n hC dX12_carry_29 rfl 2 rfl ?_
  refine k_lload_n hC dX12_carry_30 rfl 4 rfl ?_
  refine k_iconst hC dX12_carry_31 ?_
  refine k_pureV hC (c_X12_displaced l hls G hN w1 fl u g T 1 hI (by omega) (by omega) h_3 h_2) yy_X12_displaced wm_X12_131 (kl hN (by decide)) h_3 rfl rfl rfl rfl (Nat.le_of_ble_eq_true rfl) (by decide) (by decide) ⟨by decide, by decide⟩ dX12_carry_32 ?_
  refine k_topv (vL (dispM g T true)) rfl ?_
  have hb_6 := dispM_b hI (t := T) (by omega) true
  refine k_aload_n hC dX12_carry_35 rfl 2 rfl ?_
  refine k_lload hC dX12_carry_36 1 rfl ?_
  refine k_iconst hC dX12_carry_38 ?_
  refine k_pureV hC (c_X12_displaced l hls G hN w1 fl u g (g (58 + 3 * i)) 1 hI (by omega) (by omega) h_3 h_2) yy_X12_displaced wm_X12_131 (kl hN (by decide)) h_3 rfl rfl rfl rfl (Nat.le_of_ble_eq_true rfl) (by decide) (by decide) ⟨by decide, by decide⟩ dX12_carry_39 ?_
  refine k_topv (vL (dispM g (g (58 + 3 * i)) true)) rfl ?_
  have hb_7 := dispM_b hI (t := g (58 + 3 * i)) (by omega) true
  refine k_lsub hC dX12_carry_42 ?_
  refine k_topL (fun nn enn => ?_)
  refine k_lstore hC [(8, vL nn), (6, vL ee), (4, vL (g (58 + 3 * i))), (0, .ref (kad G 133)), (1, vI (i : Int)), (2, vL T)] dX12_carry_43 (by decide) rfl ?_
  refine k_aload_n hC dX12_carry_45 rfl 3 rfl ?_
  refine k_get hC fd_X12_28 (kl hN (by decide)) h_3 rfl dX12_carry_46 ?_
  refine k_iload_n hC dX12_carry_49 rfl 4 rfl ?_
  refine k_dup2 hC dX12_carry_50 rfl rfl ?_
  refine k_lald hC (kl hN (by decide)) hl1.2.2 (by omega) (by decide) dX12_carry_51 ?_
  refine k_topv (vL ((kup lo i (offM g i)) i)) rfl ?_
  refine k_topv (vL (offM g i)) (congrArg vL kup_s) ?_
  refine k_lload hC dX12_carry_52 1 rfl ?_
  refine k_lload hC dX12_carry_54 0 rfl ?_
  refine k_aload_n hC dX12_carry_56 rfl 3 rfl ?_
  refine k_get hC fd_X12_22 (kl hN (by decide)) h_3 rfl dX12_carry_57 ?_
  refine k_iload_n hC dX12_carry_60 rfl 4 rfl ?_
  refine k_lald hC (kl hN (by decide)) hl1.1 (by omega) (by decide) dX12_carry_61 ?_
  refine k_topv (vL ((kup ls i (sinM (aziM g i))) i)) rfl ?_
  refine k_topv (vL (sinM (aziM g i))) (congrArg vL kup_s) ?_
  refine k_aload_n hC dX12_carry_62 rfl 3 rfl ?_
  refine k_get hC fd_X12_25 (kl hN (by decide)) h_3 rfl dX12_carry_63 ?_
  refine k_iload_n hC dX12_carry_66 rfl 4 rfl ?_
  refine k_lald hC (kl hN (by decide)) hl1.2.1 (by omega) (by decide) dX12_carry_67 ?_
  refine k_topv (vL ((kup lc i (cosM (aziM g i))) i)) rfl ?_
  refine k_topv (vL (cosM (aziM g i))) (congrArg vL kup_s) ?_
  refine k_pureS hC (c_X12_along l hls G hN w1 fl ee nn (sinM (aziM g i)) (cosM (aziM g i)) (by omega) (by omega) (by omega) (by omega)) yy_X12_along wm_X12_186 rfl rfl (Nat.le_of_ble_eq_true rfl) (by decide) (by decide) ⟨by decide, by decide⟩ dX12_carry_68 ?_
  refine k_topv (vL (along ee nn (sinM (aziM g i)) (cosM (aziM g i)))) rfl ?_
  have hb_8 := along_b 10000000 10000000 (e := ee) (n := nn) (s := sinM (aziM g i)) (c := cosM (aziM g i)) (by omega) (by omega) (by omega) (by omega)
  refine k_ladd hC dX12_carry_71 ?_
  refine k_topv (vL (carM g i T)) (congrArg vL (by unfold carM; rw [eee, enn])) ?_
  refine k_last hC (kl hN (by decide)) hl1.2.2 (by omega) (by decide) dX12_carry_72 (fun w9 hw9 hf9 => ?_)
  have h_10 : w9 138 = lA G 12 (kup ls i (sinM (aziM g i))) := (hf9 138 (by decide)).trans hl1.1
  have h_11 : w9 139 = lA G 12 (kup lc i (cosM (aziM g i))) := (hf9 139 (by decide)).trans hl1.2.1
  subst hQ
  exact k_vret hC hr ⟨by decide, by decide⟩ (⟨rfl, rfl, ⟨_, _, _, ⟨h_10, h_11, (hw9).trans lA_kup2⟩, ⟨kup_s, kup_s, kup_s⟩, fun k hk => mAt_put hk⟩, fun j hj => (hf9 j (by omega)).trans (hf1 j (by omega))⟩) dX12_carry_73

set_option maxRecDepth 100000 in
set_option maxHeartbeats 4000000 in
theorem c_X12_carryAll (l : Launch) (hls : l.stackTraces = false) (G : kG) (hN : kN G = 150) (w : Nat → va_E) (fl : va_W) (u g : Nat → Int) (ls lc lo : Nat → Int) (T : Int) (hI : Inv g) (ht : 0 ≤ T ∧ T ≤ 5000) (hm : w 133 = mdO G u) (hn : w 134 = lA G 93 g) (hLs : kLns G w ls lc lo) : KM l G yX12_carryAll cX12_carryAll 4 (none) 13 0 0 [.ref (kad G 133), vL T] w fl (kMuv fl (fun w1 => (∃ ls1 lc1 lo1 : Nat → Int, kLns G w1 ls1 lc1 lo1 ∧ ∀ k : Nat, (k : Int) < g 2 → mAt g T k ls1 lc1 lo1) ∧ ∀ j, (j < 138 ∨ 140 < j) → w1 j = w j)) := by
  refine KM_of2 hls (by decide +kernel) rfl (lv0 := [(0, .ref (kad G 133)), (1, vL T)]) rfl (Nat.le_of_ble_eq_true rfl) (fun p e R s m args below meth c Q hC hr hQ => ?_)
  have h0 := hI.c
  refine k_iconst hC dX12_carryAll_0 ?_
  refine k_istore_n hC [(3, vI 0), (0, .ref (kad G 133)), (1, vL T)] dX12_carryAll_1 rfl (by decide) rfl ?_
  have loop : ∀ (n : Nat) (k : Nat) (ls2 : Nat → Int) (lc2 : Nat → Int) (lo2 : Nat → Int) (wv : Nat → va_E), ((g 2).toNat < n + k) → ((k : Int) ≤ g 2) → (∀ q : Nat, q < k → mAt g T q ls2 lc2 lo2) → (wv 133 = .inr (12, [.ref (kad G 134), .ref (kad G 135), .ref (kad G 136), .ref (kad G 137), vI (u 4), vI (u 5), vI (u 6), .ref (kad G 138), .ref (kad G 139), .ref (kad G 140), .ref (kad G 141), .ref (kad G 142), vL (u 12), vL (u 13), .ref (kad G 143), vI (u 15), .ref (kad G 144), vI (u 17), vI (u 18), vI (u 19), vI (u 20), vI (u 21), vI (u 22), vI (u 23), vI (u 24), vI (u 25), .ref (kad G 145), .ref (kad G 146), .ref (kad G 147), vI (u 29)])) → (wv 134 = lA G 93 g) → (kLns G wv ls2 lc2 lo2) → ((∀ j, (j < 138 ∨ 140 < j) → wv j = w j)) → KW p l e R s m args below meth c 4 G Q wv fl 0 0 2 [(3, vI (k : Int)), (0, .ref (kad G 133)), (1, vL T)] [] := by
    intro n
    induction n with
    | zero =>
      intro k ls2 lc2 lo2 wv hn_ hk hat hm hn hLs hfr
      exact absurd hn_ (by omega)
    | succ n ih =>
      intro k ls2 lc2 lo2 wv hn_ hk hat hm hn hLs hfr
      refine k_iload_n hC dX12_carryAll_2 rfl 0 rfl ?_
      refine k_i2l hC dX12_carryAll_3 (by omega) ?_
      refine k_aload_n hC dX12_carryAll_4 rfl 1 rfl ?_
      refine k_get hC fd_X12_9 (kl hN (by decide)) hm rfl dX12_carryAll_5 ?_
      refine k_iconst hC dX12_carryAll_8 ?_
      refine k_lald hC (kl hN (by decide)) hn (by omega) (by decide) dX12_carryAll_9 ?_
      refine k_topv (vL (g 2)) rfl ?_
      refine k_lcmp_ge hC 26 dX12_carryAll_10 dX12_carryAll_11 rfl (by omega) (by omega) (fun c_10 => ?_) (fun c_10 => ?_)
      · subst hQ
        exact k_vret hC hr ⟨by decide, by decide⟩ (⟨rfl, rfl, ⟨_, _, _, hLs, fun q hq => hat q (by omega)⟩, fun j hj => hfr j (by omega)⟩) dX12_carryAll_26
      · refine k_aload_n hC dX12_carryAll_14 rfl 1 rfl ?_
        refine k_iload_n hC dX12_carryAll_15 rfl 0 rfl ?_
        refine k_lload_n hC dX12_carryAll_16 rfl 2 rfl ?_
        refine k_muvV hC (c_X12_carry l hls G hN wv fl u g ls2 lc2 lo2 k T hI (by omega) (by omega) hm hn hLs) yy_X12_carry wm_X12_197 (kl hN (by decide)) hm rfl rfl rfl rfl (Nat.le_of_ble_eq_true rfl) (by decide) (by decide) ⟨by decide, by decide⟩ dX12_carryAll_17 (fun w1 hp1 => ?_)
        obtain ⟨⟨ls1, lc1, lo1, hl1, hat1, hat_1⟩, hf1⟩ := hp1
        refine k_iinc hC (y := (k : Int) + 1) [(3, vI ((k : Int) + 1)), (0, .ref (kad G 133)), (1, vL T)] (j := 0) dX12_carryAll_20 rfl (by omega) (by decide) rfl ?_
        refine k_goto hC 2 dX12_carryAll_23 rfl ?_
        refine k_lvs (ls := [0, 1, 2]) [(3, vI ((k + 1 : Nat) : Int)), (0, .ref (kad G 133)), (1, vL T)] (by simp only [lv_pick]; rfl) ?_
        have h_2 : w1 133 = .inr (12, [.ref (kad G 134), .ref (kad G 135), .ref (kad G 136), .ref (kad G 137), vI (u 4), vI (u 5), vI (u 6), .ref (kad G 138), .ref (kad G 139), .ref (kad G 140), .ref (kad G 141), .ref (kad G 142), vL (u 12), vL (u 13), .ref (kad G 143), vI (u 15), .ref (kad G 144), vI (u 17), vI (u 18), vI (u 19), vI (u 20), vI (u 21), vI (u 22), vI (u 23), vI (u 24), vI (u 25), .ref (kad G 145), .ref (kad G 146), .ref (kad G 147), vI (u 29)]) := (hf1 133 (by omega)).trans hm
        have h_3 : w1 134 = lA G 93 g := (hf1 134 (by omega)).trans hn
        exact ih (k + 1) ls1 lc1 lo1 w1 (by omega) (by omega) (fun q hq => by rcases Nat.lt_or_ge q k with q1 | q1; exact hat_1 q (hat q q1); rw [show q = k by omega]; exact hat1) h_2 h_3 hl1 (fun j hj => (hf1 j (by omega)).trans (hfr j (by omega)))
  refine k_lvs (ls := [0, 1, 2]) [(3, vI ((0 : Nat) : Int)), (0, .ref (kad G 133)), (1, vL T)] (by simp only [lv_pick]; rfl) ?_
  exact loop 13 0 ls lc lo w (by omega) (by omega) (fun q hq => absurd hq (by omega)) hm hn hLs (fun j hj => rfl)

set_option maxRecDepth 100000 in
set_option maxHeartbeats 4000000 in
theorem c_X12_determinant (l : Launch) (hls : l.stackTraces = false) (G : kG) (hN : kN G = 150) (w : Nat → va_E) (fl : va_W) (u g : Nat → Int) (ls lc lo : Nat → Int) (i j : Nat) (T : Int) (hi : (i : Int) < g 2) (hj : (j : Int) < g 2) (hA : mAt g T i ls lc lo) (hB : mAt g T j ls lc lo) (hI : Inv g) (hm : w 133 = mdO G u) (hn : w 134 = lA G 93 g) (hLs : kLns G w ls lc lo) : KM l G yX12_determinant cX12_determinant 3 (some (FieldType.long)) 0 0 0 [.ref (kad G 133), vI (i : Int), vI (j : Int)] w fl (kPure (vL (crDet (sinM (aziM g i)) (cosM (aziM g i)) (sinM (aziM g j)) (cosM (aziM g j)))) w fl) := by
  refine KM_of2 hls (by decide +kernel) rfl (lv0 := [(0, .ref (kad G 133)), (1, vI (i : Int)), (2, vI (j : Int))]) rfl (Nat.le_of_ble_eq_true rfl) (fun p e R s m args below meth c Q hC hr hQ => ?_)
  have h0 := hI.c
  refine k_aload_n hC dX12_determinant_0 rfl 0 rfl ?_
  refine k_get hC fd_X12_22 (kl hN (by decide)) hm rfl dX12_determinant_1 ?_
  refine k_iload_n hC dX12_determinant_4 rfl 1 rfl ?_
  refine k_lald hC (kl hN (by decide)) hLs.1 (by omega) (by decide) dX12_determinant_5 ?_
  refine k_topv (vL (ls i)) rfl ?_
  refine k_aload_n hC dX12_determinant_6 rfl 0 rfl ?_
  refine k_get hC fd_X12_25 (kl hN (by decide)) hm rfl dX12_determinant_7 ?_
  refine k_iload_n hC dX12_determinant_10 rfl 2 rfl ?_
  refine k_lald hC (kl hN (by decide)) hLs.2.1 (by omega) (by decide) dX12_determinant_11 ?_
  refine k_topv (vL (lc j)) rfl ?_
  refine k_lmul hC dX12_determinant_12 ?_
  refine k_aload_n hC dX12_determinant_13 rfl 0 rfl ?_
  refine k_get hC fd_X12_22 (kl hN (by decide)) hm rfl dX12_determinant_14 ?_
  refine k_iload_n hC dX12_determinant_17 rfl 2 rfl ?_
  refine k_lald hC (kl hN (by decide)) hLs.1 (by omega) (by decide) dX12_determinant_18 ?_
  refine k_topv (vL (ls j)) rfl ?_
  refine k_aload_n hC dX12_determinant_19 rfl 0 rfl ?_
  refine k_get hC fd_X12_25 (kl hN (by decide)) hm rfl dX12_determinant_20 ?_
  refine k_iload_n hC dX12_determinant_23 rfl 1 rfl ?_
  refine k_lald hC (kl hN (by decide)) hLs.2.1 (by omega) (by decide) dX12_determinant_24 ?_
  refine k_topv (vL (lc i)) rfl ?_
  refine k_lmul hC dX12_determinant_25 ?_
  refine k_lsub hC dX12_determinant_26 ?_
  subst hQ
  exact k_lret hC hr ⟨by decide, by decide⟩ (⟨congrArg (fun z => some (vL z)) (show (crDet (sinM (aziM g i)) (cosM (aziM g i)) (sinM (aziM g j)) (cosM (aziM g j)) : Int) = ((ls i) * (lc j)) - ((ls j) * (lc i)) from by unfold crDet; rw [hA.1, hA.2.1, hB.1, hB.2.1]), rfl, rfl⟩) dX12_determinant_27

set_option maxRecDepth 100000 in
set_option maxHeartbeats 4000000 in
theorem c_X12_crossWell (l : Launch) (hls : l.stackTraces = false) (G : kG) (hN : kN G = 150) (w : Nat → va_E) (fl : va_W) (u g : Nat → Int) (ls lc lo : Nat → Int) (i j : Nat) (T : Int) (hi : (i : Int) < g 2) (hj : (j : Int) < g 2) (hA : mAt g T i ls lc lo) (hB : mAt g T j ls lc lo) (hI : Inv g) (hm : w 133 = mdO G u) (hn : w 134 = lA G 93 g) (hLs : kLns G w ls lc lo) : KM l G yX12_crossWell cX12_crossWell 3 (some (FieldType.boolean)) 1 0 0 [.ref (kad G 133), vI (i : Int), vI (j : Int)] w fl (kPure (vI (if crOK (crDet (sinM (aziM g i)) (cosM (aziM g i)) (sinM (aziM g j)) (cosM (aziM g j))) then 1 else 0)) w fl) := by
  refine KM_of2 hls (by decide +kernel) rfl (lv0 := [(0, .ref (kad G 133)), (1, vI (i : Int)), (2, vI (j : Int))]) rfl (Nat.le_of_ble_eq_true rfl) (fun p e R s m args below meth c Q hC hr hQ => ?_)
  have h0 := hI.c
  refine k_aload_n hC dX12_crossWell_0 rfl 0 rfl ?_
  refine k_iload_n hC dX12_crossWell_1 rfl 1 rfl ?_
  refine k_iload_n hC dX12_crossWell_2 rfl 2 rfl ?_
  refine k_pureV hC (c_X12_determinant l hls G hN w fl u g ls lc lo i j T (by omega) (by omega) hA hB hI hm hn hLs) yy_X12_determinant wm_X12_201 (kl hN (by decide)) hm rfl rfl rfl rfl (Nat.le_of_ble_eq_true rfl) (by decide) (by decide) ⟨by decide, by decide⟩ dX12_crossWell_3 ?_
  refine k_topv (vL (crDet (sinM (aziM g i)) (cosM (aziM g i)) (sinM (aziM g j)) (cosM (aziM g j)))) rfl ?_
  have hb_1 := crDet_b (sinM_b (aziM g i)) (cosM_b (aziM g i)) (sinM_b (aziM g j)) (cosM_b (aziM g j))
  refine k_mabsL hC wm_X12_204 wmath_mabsL (by omega) (by decide) (Nat.le_of_ble_eq_true rfl) ⟨by decide, by decide⟩ dX12_crossWell_6 ?_
  refine k_ldc2 hC (x := 100000000000) (v := 100000000000) dX12_crossWell_9 (by decide) wk_X12_207 ?_
  refine k_lcmp_lt hC 20 dX12_crossWell_12 dX12_crossWell_13 rfl (by omega) (by omega) (fun c_12 => ?_) (fun c_12 => ?_)
  · refine k_iconst hC dX12_crossWell_20 ?_
    subst hQ
    exact k_zret hC (by omega) hr ⟨by decide, by decide⟩ (⟨congrArg (fun z => some (vI z)) (show (if crOK (crDet (sinM (aziM g i)) (cosM (aziM g i)) (sinM (aziM g j)) (cosM (aziM g j))) then 1 else 0 : Int) = 0 from if_neg (by omega)), rfl, rfl⟩) dX12_crossWell_21
  · refine k_iconst hC dX12_crossWell_16 ?_
    refine k_goto hC 21 dX12_crossWell_17 rfl ?_
    subst hQ
    exact k_zret hC (by omega) hr ⟨by decide, by decide⟩ (⟨congrArg (fun z => some (vI z)) (show (if crOK (crDet (sinM (aziM g i)) (cosM (aziM g i)) (sinM (aziM g j)) (cosM (aziM g j))) then 1 else 0 : Int) = 1 from if_pos (by omega)), rfl, rfl⟩) dX12_crossWell_21

set_option maxRecDepth 100000 in
set_option maxHeartbeats 4000000 in
theorem c_X12_floorBig (l : Launch) (hls : l.stackTraces = false) (G : kG) (hN : kN G = 150) (w : Nat → va_E) (fl : va_W) (a b : Int) (ha : -9000000000000 ≤ a ∧ a ≤ 9000000000000) (hb : (100000000000 ≤ b ∨ b ≤ -100000000000) ∧ -2000000000000 ≤ b ∧ b ≤ 2000000000000) : KM l G yX12_floorBig cX12_floorBig 8 (some (FieldType.long)) 2 0 0 [vL a, vL b] w fl (kPure (vL ((a * 1000000).fdiv b)) w fl) := by
  refine KM_of2 hls (by decide +kernel) rfl (lv0 := [(0, vL a), (2, vL b)]) rfl (Nat.le_of_ble_eq_true rfl) (fun p e R s m args below meth c Q hC hr hQ => ?_)
  refine k_lload_n hC dX12_floorBig_0 rfl 0 rfl ?_
  refine k_lload_n hC dX12_floorBig_1 rfl 1 rfl ?_
  refine k_pureS hC (c_X12_floor l hls G hN w fl a b (by omega) (by omega)) yy_X12_floor wm_X12_92 rfl rfl (Nat.le_of_ble_eq_true rfl) (by decide) (by decide) ⟨by decide, by decide⟩ dX12_floorBig_2 ?_
  refine k_topL (fun wh ewh => ?_)
  refine k_lstore hC [(4, vL wh), (0, vL a), (2, vL b)] dX12_floorBig_5 (by decide) rfl ?_
  have hw := fdiv_sm (a := a) (b := b) (by omega) hb.1
  have hs := fdiv_sp (a := a) (b := b) (by omega)
  rw [← ewh] at hw hs
  refine k_lload_n hC dX12_floorBig_7 rfl 1 rfl ?_
  refine k_lload hC dX12_floorBig_8 0 rfl ?_
  refine k_lload_n hC dX12_floorBig_10 rfl 2 rfl ?_
  refine k_lmul hC dX12_floorBig_11 ?_
  refine k_lsub hC dX12_floorBig_12 ?_
  refine k_topL (fun re ere => ?_)
  refine k_lstore hC [(6, vL re), (4, vL wh), (0, vL a), (2, vL b)] dX12_floorBig_13 (by decide) rfl ?_
  have hre : -2000000000000 ≤ re ∧ re ≤ 2000000000000 := by omega
  refine k_lload hC dX12_floorBig_15 1 rfl ?_
  refine k_ldc2 hC (x := 1000000000000) (v := 1000000000000) dX12_floorBig_17 (by decide) wk_X12_212 ?_
  refine k_pureS hC (c_X12_bounded l hls G hN w fl wh 1000000000000 (by omega) (by omega)) yy_X12_bounded wm_X12_176 rfl rfl (Nat.le_of_ble_eq_true rfl) (by decide) (by decide) ⟨by decide, by decide⟩ dX12_floorBig_20 ?_
  refine k_topv (vL (max (-1000000000000) (min 1000000000000 wh))) rfl ?_
  refine k_topv (vL wh) (congrArg vL (by omega)) ?_
  refine k_ldc2 hC (x := 1000000) (v := 1000000) dX12_floorBig_23 (by decide) wk_X12_113 ?_
  refine k_lmul hC dX12_floorBig_26 ?_
  refine k_lload hC dX12_floorBig_27 0 rfl ?_
  refine k_ldc2 hC (x := 1000000) (v := 1000000) dX12_floorBig_29 (by decide) wk_X12_113 ?_
  refine k_lmul hC dX12_floorBig_32 ?_
  refine k_lload_n hC dX12_floorBig_33 rfl 3 rfl ?_
  refine k_pureS hC (c_X12_floor l hls G hN w fl (re * 1000000) b (by omega) (by omega)) yy_X12_floor wm_X12_92 rfl rfl (Nat.le_of_ble_eq_true rfl) (by decide) (by decide) ⟨by decide, by decide⟩ dX12_floorBig_34 ?_
  have hff := fdiv_abs (a := re * 1000000) (b := b) 2000000000000000000 (by omega) (by decide) (by omega)
  refine k_ladd hC dX12_floorBig_37 ?_
  subst hQ
  exact k_lret hC hr ⟨by decide, by decide⟩ (⟨congrArg (fun z => some (vL z)) (show ((a * 1000000).fdiv b : Int) = (wh * 1000000) + ((re * 1000000).fdiv b) from by rw [fdiv_bm 1000000 (by decide) (by omega), ← ewh, ← ere]), rfl, rfl⟩) dX12_floorBig_38

set_option maxRecDepth 100000 in
set_option maxHeartbeats 4000000 in
theorem c_X12_crossingOf (l : Launch) (hls : l.stackTraces = false) (G : kG) (hN : kN G = 150) (w : Nat → va_E) (fl : va_W) (u g : Nat → Int) (ls lc lo : Nat → Int) (i j : Nat) (T no : Int) (hi : (i : Int) < g 2) (hj : (j : Int) < g 2) (hA : mAt g T i ls lc lo) (hB : mAt g T j ls lc lo) (hI : Inv g) (hok : crOK (crDet (sinM (aziM g i)) (cosM (aziM g i)) (sinM (aziM g j)) (cosM (aziM g j)))) (ht : 0 ≤ T ∧ T ≤ 5000) (hno : no = 0 ∨ no = 1) (hm : w 133 = mdO G u) (hn : w 134 = lA G 93 g) (hLs : kLns G w ls lc lo) : KM l G yX12_crossingOf cX12_crossingOf 10 (some (FieldType.long)) 3 0 0 [.ref (kad G 133), vI (i : Int), vI (j : Int), vI no] w fl (kPure (vL (if no = 0 then cE g i j T else cN g i j T)) w fl) := by
  refine KM_of2 hls (by decide +kernel) rfl (lv0 := [(0, .ref (kad G 133)), (1, vI (i : Int)), (2, vI (j : Int)), (3, vI no)]) rfl (Nat.le_of_ble_eq_true rfl) (fun p e R s m args below meth c Q hC hr hQ => ?_)
  have h0 := hI.c
  have hsi := sinM_b (aziM g i)
  have hoi := cosM_b (aziM g i)
  have hsj := sinM_b (aziM g j)
  have hoj := cosM_b (aziM g j)
  have hci := carM_b hI i (by omega) ht
  have hcj := carM_b hI j (by omega) ht
  have hdet := crDet_b hsi hoi hsj hoj
  refine k_aload_n hC dX12_crossingOf_0 rfl 0 rfl ?_
  refine k_get hC fd_X12_28 (kl hN (by decide)) hm rfl dX12_crossingOf_1 ?_
  refine k_iload_n hC dX12_crossingOf_4 rfl 1 rfl ?_
  refine k_lald hC (kl hN (by decide)) hLs.2.2 (by omega) (by decide) dX12_crossingOf_5 ?_
  refine k_topv (vL (lo i)) rfl ?_
  refine k_topv (vL (carM g i T)) (congrArg vL (by exact hA.2.2)) ?_
  refine k_lstore hC [(4, vL (carM g i T)), (0, .ref (kad G 133)), (1, vI (i : Int)), (2, vI (j : Int)), (3, vI no)] dX12_crossingOf_6 (by decide) rfl ?_
  refine k_aload_n hC dX12_crossingOf_8 rfl 1 rfl ?_
  refine k_get hC fd_X12_28 (kl hN (by decide)) hm rfl dX12_crossingOf_9 ?_
  refine k_iload_n hC dX12_crossingOf_12 rfl 3 rfl ?_
  refine k_lald hC (kl hN (by decide)) hLs.2.2 (by omega) (by decide) dX12_crossingOf_13 ?_
  refine k_topv (vL (lo j)) rfl ?_
  refine k_topv (vL (carM g j T)) (congrArg vL (by exact hB.2.2)) ?_
  refine k_lstore hC [(6, vL (carM g j T)), (4, vL (carM g i T)), (0, .ref (kad G 133)), (1, vI (i : Int)), (2, vI (j : Int)), (3, vI no)] dX12_crossingOf_14 (by decide) rfl ?_
  refine k_iload_n hC dX12_crossingOf_16 rfl 5 rfl ?_
  refine k_if_eq hC 42 dX12_crossingOf_17 rfl (by omega) (fun c_17 => ?_) (fun c_17 => ?_)
  · refine k_lload hC dX12_crossingOf_42 1 rfl ?_
    refine k_aload_n hC dX12_crossingOf_44 rfl 2 rfl ?_
    refine k_get hC fd_X12_25 (kl hN (by decide)) hm rfl dX12_crossingOf_45 ?_
    refine k_iload_n hC dX12_crossingOf_48 rfl 4 rfl ?_
    refine k_lald hC (kl hN (by decide)) hLs.2.1 (by omega) (by decide) dX12_crossingOf_49 ?_
    refine k_topv (vL (lc j)) rfl ?_
    refine k_topv (vL (cosM (aziM g j))) (congrArg vL (by exact hB.2.1)) ?_
    refine k_lmul hC dX12_crossingOf_50 ?_
    refine k_lload hC dX12_crossingOf_51 0 rfl ?_
    refine k_aload_n hC dX12_crossingOf_53 rfl 2 rfl ?_
    refine k_get hC fd_X12_25 (kl hN (by decide)) hm rfl dX12_crossingOf_54 ?_
    refine k_iload_n hC dX12_crossingOf_57 rfl 3 rfl ?_
    refine k_lald hC (kl hN (by decide)) hLs.2.1 (by omega) (by decide) dX12_crossingOf_58 ?_
    refine k_topv (vL (lc i)) rfl ?_
    refine k_topv (vL (cosM (aziM g i))) (congrArg vL (by exact hA.2.1)) ?_
    refine k_lmul hC dX12_crossingOf_59 ?_
    refine k_lsub hC dX12_crossingOf_60 ?_
    refine k_topL (fun ab eab => ?_)
    refine k_lstore hC [(8, vL ab), (6, vL (carM g j T)), (4, vL (carM g i T)), (0, .ref (kad G 133)), (1, vI (i : Int)), (2, vI (j : Int)), (3, vI no)] dX12_crossingOf_61 (by decide) rfl ?_
    have hab1 := cr_b (v := carM g i T) (u := carM g j T) (a := cosM (aziM g j)) (b := cosM (aziM g i)) (by omega) (by omega) (by omega) (by omega)
    have hab2 := cr_b (v := carM g j T) (u := carM g i T) (a := sinM (aziM g i)) (b := sinM (aziM g j)) (by omega) (by omega) (by omega) (by omega)
    refine k_lload hC dX12_crossingOf_63 0 rfl ?_
    refine k_aload_n hC dX12_crossingOf_65 rfl 3 rfl ?_
    refine k_iload_n hC dX12_crossingOf_66 rfl 4 rfl ?_
    refine k_iload_n hC dX12_crossingOf_67 rfl 5 rfl ?_
    refine k_pureV hC (c_X12_determinant l hls G hN w fl u g ls lc lo i j T (by omega) (by omega) hA hB hI hm hn hLs) yy_X12_determinant wm_X12_201 (kl hN (by decide)) hm rfl rfl rfl rfl (Nat.le_of_ble_eq_true rfl) (by decide) (by decide) ⟨by decide, by decide⟩ dX12_crossingOf_68 ?_
    refine k_topv (vL (crDet (sinM (aziM g i)) (cosM (aziM g i)) (sinM (aziM g j)) (cosM (aziM g j)))) rfl ?_
    have hb_1 := crDet_b (sinM_b (aziM g i)) (cosM_b (aziM g i)) (sinM_b (aziM g j)) (cosM_b (aziM g j))
    refine k_pureS hC (c_X12_floorBig l hls G hN w fl ab (crDet (sinM (aziM g i)) (cosM (aziM g i)) (sinM (aziM g j)) (cosM (aziM g j))) (by omega) (by omega)) yy_X12_floorBig wm_X12_209 rfl rfl (Nat.le_of_ble_eq_true rfl) (by decide) (by decide) ⟨by decide, by decide⟩ dX12_crossingOf_71 ?_
    have hff := fdiv_abs (a := ab * 1000000) (b := crDet (sinM (aziM g i)) (cosM (aziM g i)) (sinM (aziM g j)) (cosM (aziM g j))) 9000000000000000000 (by omega) (by decide) (by omega)
    refine k_ldc2 hC (x := 1000000) (v := 1000000) dX12_crossingOf_74 (by decide) wk_X12_113 ?_
    refine k_pureS hC (c_X12_bounded l hls G hN w fl ((ab * 1000000).fdiv (crDet (sinM (aziM g i)) (cosM (aziM g i)) (sinM (aziM g j)) (cosM (aziM g j)))) 1000000 (by omega) (by omega)) yy_X12_bounded wm_X12_176 rfl rfl (Nat.le_of_ble_eq_true rfl) (by decide) (by decide) ⟨by decide, by decide⟩ dX12_crossingOf_77 ?_
    refine k_topv (vL (limM ((ab * 1000000).fdiv (crDet (sinM (aziM g i)) (cosM (aziM g i)) (sinM (aziM g j)) (cosM (aziM g j)))))) rfl ?_
    have hb_2 := limM_b ((ab * 1000000).fdiv (crDet (sinM (aziM g i)) (cosM (aziM g i)) (sinM (aziM g j)) (cosM (aziM g j))))
    subst hQ
    exact k_lret hC hr ⟨by decide, by decide⟩ (⟨congrArg (fun z => some (vL z)) (show (if no = 0 then cE g i j T else cN g i j T : Int) = limM ((ab * 1000000).fdiv (crDet (sinM (aziM g i)) (cosM (aziM g i)) (sinM (aziM g j)) (cosM (aziM g j)))) from by first | (rw [if_pos (by omega), eab]; rfl) | (rw [if_neg (by omega), eab]; rfl)), rfl, rfl⟩) dX12_crossingOf_80
  · refine k_lload hC dX12_crossingOf_20 0 rfl ?_
    refine k_aload_n hC dX12_crossingOf_22 rfl 2 rfl ?_
    refine k_get hC fd_X12_22 (kl hN (by decide)) hm rfl dX12_crossingOf_23 ?_
    refine k_iload_n hC dX12_crossingOf_26 rfl 3 rfl ?_
    refine k_lald hC (kl hN (by decide)) hLs.1 (by omega) (by decide) dX12_crossingOf_27 ?_
    refine k_topv (vL (ls i)) rfl ?_
    refine k_topv (vL (sinM (aziM g i))) (congrArg vL (by exact hA.1)) ?_
    refine k_lmul hC dX12_crossingOf_28 ?_
    refine k_lload hC dX12_crossingOf_29 1 rfl ?_
    refine k_aload_n hC dX12_crossingOf_31 rfl 2 rfl ?_
    refine k_get hC fd_X12_22 (kl hN (by decide)) hm rfl dX12_crossingOf_32 ?_
    refine k_iload_n hC dX12_crossingOf_35 rfl 4 rfl ?_
    refine k_lald hC (kl hN (by decide)) hLs.1 (by omega) (by decide) dX12_crossingOf_36 ?_
    refine k_topv (vL (ls j)) rfl ?_
    refine k_topv (vL (sinM (aziM g j))) (congrArg vL (by exact hB.1)) ?_
    refine k_lmul hC dX12_crossingOf_37 ?_
    refine k_lsub hC dX12_crossingOf_38 ?_
    refine k_goto hC 61 dX12_crossingOf_39 rfl ?_
    refine k_topL (fun ab eab => ?_)
    refine k_lstore hC [(8, vL ab), (6, vL (carM g j T)), (4, vL (carM g i T)), (0, .ref (kad G 133)), (1, vI (i : Int)), (2, vI (j : Int)), (3, vI no)] dX12_crossingOf_61 (by decide) rfl ?_
    have hab1 := cr_b (v := carM g i T) (u := carM g j T) (a := cosM (aziM g j)) (b := cosM (aziM g i)) (by omega) (by omega) (by omega) (by omega)
    have hab2 := cr_b (v := carM g j T) (u := carM g i T) (a := sinM (aziM g i)) (b := sinM (aziM g j)) (by omega) (by omega) (by omega) (by omega)
    refine k_lload hC dX12_crossingOf_63 0 rfl ?_
    refine k_aload_n hC dX12_crossingOf_65 rfl 3 rfl ?_
    refine k_iload_n hC dX12_crossingOf_66 rfl 4 rfl ?_
    refine k_iload_n hC dX12_crossingOf_67 rfl 5 rfl ?_
    refine k_pureV hC (c_X12_determinant l hls G hN w fl u g ls lc lo i j T (by omega) (by omega) hA hB hI hm hn hLs) yy_X12_determinant wm_X12_201 (kl hN (by decide)) hm rfl rfl rfl rfl (Nat.le_of_ble_eq_true rfl) (by decide) (by decide) ⟨by decide, by decide⟩ dX12_crossingOf_68 ?_
    refine k_topv (vL (crDet (sinM (aziM g i)) (cosM (aziM g i)) (sinM (aziM g j)) (cosM (aziM g j)))) rfl ?_
    have hb_3 := crDet_b (sinM_b (aziM g i)) (cosM_b (aziM g i)) (sinM_b (aziM g j)) (cosM_b (aziM g j))
    refine k_pureS hC (c_X12_floorBig l hls G hN w fl ab (crDet (sinM (aziM g i)) (cosM (aziM g i)) (sinM (aziM g j)) (cosM (aziM g j))) (by omega) (by omega)) yy_X12_floorBig wm_X12_209 rfl rfl (Nat.le_of_ble_eq_true rfl) (by decide) (by decide) ⟨by decide, by decide⟩ dX12_crossingOf_71 ?_
    have hff := fdiv_abs (a := ab * 1000000) (b := crDet (sinM (aziM g i)) (cosM (aziM g i)) (sinM (aziM g j)) (cosM (aziM g j))) 9000000000000000000 (by omega) (by decide) (by omega)
    refine k_ldc2 hC (x := 1000000) (v := 1000000) dX12_crossingOf_74 (by decide) wk_X12_113 ?_
    refine k_pureS hC (c_X12_bounded l hls G hN w fl ((ab * 1000000).fdiv (crDet (sinM (aziM g i)) (cosM (aziM g i)) (sinM (aziM g j)) (cosM (aziM g j)))) 1000000 (by omega) (by omega)) yy_X12_bounded wm_X12_176 rfl rfl (Nat.le_of_ble_eq_true rfl) (by decide) (by decide) ⟨by decide, by decide⟩ dX12_crossingOf_77 ?_
    refine k_topv (vL (limM ((ab * 1000000).fdiv (crDet (sinM (aziM g i)) (cosM (aziM g i)) (sinM (aziM g j)) (cosM (aziM g j)))))) rfl ?_
    have hb_4 := limM_b ((ab * 1000000).fdiv (crDet (sinM (aziM g i)) (cosM (aziM g i)) (sinM (aziM g j)) (cosM (aziM g j))))
    subst hQ
    exact k_lret hC hr ⟨by decide, by decide⟩ (⟨congrArg (fun z => some (vL z)) (show (if no = 0 then cE g i j T else cN g i j T : Int) = limM ((ab * 1000000).fdiv (crDet (sinM (aziM g i)) (cosM (aziM g i)) (sinM (aziM g j)) (cosM (aziM g j)))) from by first | (rw [if_pos (by omega), eab]; rfl) | (rw [if_neg (by omega), eab]; rfl)), rfl, rfl⟩) dX12_crossingOf_80

theorem selI_c (P : Prop) : ∃ z : Int, selI P 1 0 = z ∧ ((z = 1 ∧ P) ∨ (z = 0 ∧ ¬ P)) := by
  by_cases h : P
  · exact ⟨1, selI_1 h, Or.inl ⟨rfl, h⟩⟩
  · exact ⟨0, selI_0 h, Or.inr ⟨rfl, h⟩⟩
def kHts (G : kG) (w : Nat → va_E) (hx hy : Nat → Int) : Prop := w 141 = lA G 3 hx ∧ w 142 = lA G 3 hy
theorem kHts.fr {G : kG} {w w1 : Nat → va_E} {hx hy : Nat → Int} (h : kHts G w hx hy) (hf : ∀ j, 141 ≤ j → j ≤ 142 → w1 j = w j) : kHts G w1 hx hy := ⟨(hf _ (by omega) (by omega)).trans h.1, (hf _ (by omega) (by omega)).trans h.2⟩
def f3 (a b c : Int) : Nat → Int := fun j => if j = 0 then a else if j = 1 then b else c
theorem kup3 {f : Nat → Int} {a b c : Int} {G : kG} : lA G 3 (kup (kup (kup f 0 a) 1 b) 2 c) = lA G 3 (f3 a b c) := lA_congr (fun j hj => by
  have h : j = 0 ∨ j = 1 ∨ j = 2 := by omega
  rcases h with h | h | h <;> subst h <;> rfl)
noncomputable abbrev htX (g : Nat → Int) (i j k : Nat) (T : Int) : Nat → Int := f3 (cE g i j T) (cE g i k T) (cE g j k T)
noncomputable abbrev htY (g : Nat → Int) (i j k : Nat) (T : Int) : Nat → Int := f3 (cN g i j T) (cN g i k T) (cN g j k T)
set_option maxRecDepth 100000 in
set_option maxHeartbeats 4000000 in
theorem c_X12_layHat (l : Launch) (hls : l.stackTraces = false) (G : kG) (hN : kN G = 150) (w : Nat → va_E) (fl : va_W) (u g : Nat → Int) (ls lc lo : Nat → Int) (hx hy : Nat → Int) (i j k : Nat) (T : Int) (hi : (i : Int) < g 2) (hj : (j : Int) < g 2) (hk : (k : Int) < g 2) (hA : mAt g T i ls lc lo) (hB : mAt g T j ls lc lo) (hC3 : mAt g T k ls lc lo) (ht : 0 ≤ T ∧ T ≤ 5000) (hI : Inv g) (hm : w 133 = mdO G u) (hn : w 134 = lA G 93 g) (hLs : kLns G w ls lc lo) (hHt : kHts G w hx hy) : KM l G yX12_layHat cX12_layHat 4 (some (FieldType.boolean)) 4 0 0 [.ref (kad G 133), vI (i : Int), vI (j : Int), vI (k : Int)] w fl (kMut (vI (selI (hatP g i j k) 1 0)) fl (fun w1 => (∃ hx1 hy1 : Nat → Int, kHts G w1 hx1 hy1 ∧ (hatP g i j k → hx1 = htX g i j k T ∧ hy1 = htY g i j k T)) ∧ ∀ j, (j < 141 ∨ 142 < j) → w1 j = w j)) := by
  refine KM_of2 hls (by decide +kernel) rfl (lv0 := [(0, .ref (kad G 133)), (1, vI (i : Int)), (2, vI (j : Int)), (3, vI (k : Int))]) rfl (Nat.le_of_ble_eq_true rfl) (fun p e R s m args below meth c Q hC hr hQ => ?_)
  have h0 := hI.c
  refine k_aload_n hC dX12_layHat_0 rfl 0 rfl ?_
  refine k_iload_n hC dX12_layHat_1 rfl 1 rfl ?_
  refine k_iload_n hC dX12_layHat_2 rfl 2 rfl ?_
  refine k_pureV hC (c_X12_crossWell l hls G hN w fl u g ls lc lo i j T (by omega) (by omega) hA hB hI hm hn hLs) yy_X12_crossWell wm_X12_214 (kl hN (by decide)) hm rfl rfl rfl rfl (Nat.le_of_ble_eq_true rfl) (by decide) (by decide) ⟨by decide, by decide⟩ dX12_layHat_3 ?_
  refine k_topv (vI (if crOK (crDet (sinM (aziM g i)) (cosM (aziM g i)) (sinM (aziM g j)) (cosM (aziM g j))) then 1 else 0)) rfl ?_
  obtain ⟨z_1, ez_1, hz_1⟩ := k_bI (crOK (crDet (sinM (aziM g i)) (cosM (aziM g i)) (sinM (aziM g j)) (cosM (aziM g j))))
  refine k_topv (vI z_1) (by rw [ez_1]) ?_
  refine k_if_eq hC 27 dX12_layHat_6 rfl (by omega) (fun c_6 => ?_) (fun c_6 => ?_)
  · have no1 : ¬ crOK (crDet (sinM (aziM g i)) (cosM (aziM g i)) (sinM (aziM g j)) (cosM (aziM g j))) := (hz_1.resolve_left (fun q1 => by omega)).2
    refine k_iconst hC dX12_layHat_27 ?_
    subst hQ
    exact k_zret hC (by omega) hr ⟨by decide, by decide⟩ (⟨congrArg (fun z => some (vI z)) (selI_0 (show ¬ hatP g i j k from fun hq => by first | exact no1 hq.1 | exact no2 hq.2.1 | exact no3 hq.2.2)), rfl, ⟨_, _, hHt, fun hq => by first | exact absurd hq.1 no1 | exact absurd hq.2.1 no2 | exact absurd hq.2.2 no3⟩, fun j hj => rfl⟩) dX12_layHat_28
  · have ok1 : crOK (crDet (sinM (aziM g i)) (cosM (aziM g i)) (sinM (aziM g j)) (cosM (aziM g j))) := (hz_1.resolve_right (fun q1 => by omega)).2
    refine k_aload_n hC dX12_layHat_9 rfl 0 rfl ?_
    refine k_iload_n hC dX12_layHat_10 rfl 1 rfl ?_
    refine k_iload_n hC dX12_layHat_11 rfl 3 rfl ?_
    refine k_pureV hC (c_X12_crossWell l hls G hN w fl u g ls lc lo i k T (by omega) (by omega) hA hC3 hI hm hn hLs) yy_X12_crossWell wm_X12_214 (kl hN (by decide)) hm rfl rfl rfl rfl (Nat.le_of_ble_eq_true rfl) (by decide) (by decide) ⟨by decide, by decide⟩ dX12_layHat_12 ?_
    refine k_topv (vI (if crOK (crDet (sinM (aziM g i)) (cosM (aziM g i)) (sinM (aziM g k)) (cosM (aziM g k))) then 1 else 0)) rfl ?_
    obtain ⟨z_2, ez_2, hz_2⟩ := k_bI (crOK (crDet (sinM (aziM g i)) (cosM (aziM g i)) (sinM (aziM g k)) (cosM (aziM g k))))
    refine k_topv (vI z_2) (by rw [ez_2]) ?_
    refine k_if_eq hC 27 dX12_layHat_15 rfl (by omega) (fun c_15 => ?_) (fun c_15 => ?_)
    · have no2 : ¬ crOK (crDet (sinM (aziM g i)) (cosM (aziM g i)) (sinM (aziM g k)) (cosM (aziM g k))) := (hz_2.resolve_left (fun q1 => by omega)).2
      refine k_iconst hC dX12_layHat_27 ?_
      subst hQ
      exact k_zret hC (by omega) hr ⟨by decide, by decide⟩ (⟨congrArg (fun z => some (vI z)) (selI_0 (show ¬ hatP g i j k from fun hq => by first | exact no1 hq.1 | exact no2 hq.2.1 | exact no3 hq.2.2)), rfl, ⟨_, _, hHt, fun hq => by first | exact absurd hq.1 no1 | exact absurd hq.2.1 no2 | exact absurd hq.2.2 no3⟩, fun j hj => rfl⟩) dX12_layHat_28
    · have ok2 : crOK (crDet (sinM (aziM g i)) (cosM (aziM g i)) (sinM (aziM g k)) (cosM (aziM g k))) := (hz_2.resolve_right (fun q1 => by omega)).2
      refine k_aload_n hC dX12_layHat_18 rfl 0 rfl ?_
      refine k_iload_n hC dX12_layHat_19 rfl 2 rfl ?_
      refine k_iload_n hC dX12_layHat_20 rfl 3 rfl ?_
      refine k_pureV hC (c_X12_crossWell l hls G hN w fl u g ls lc lo j k T (by omega) (by omega) hB hC3 hI hm hn hLs) yy_X12_crossWell wm_X12_214 (kl hN (by decide)) hm rfl rfl rfl rfl (Nat.le_of_ble_eq_true rfl) (by decide) (by decide) ⟨by decide, by decide⟩ dX12_layHat_21 ?_
      refine k_topv (vI (if crOK (crDet (sinM (aziM g j)) (cosM (aziM g j)) (sinM (aziM g k)) (cosM (aziM g k))) then 1 else 0)) rfl ?_
      obtain ⟨z_3, ez_3, hz_3⟩ := k_bI (crOK (crDet (sinM (aziM g j)) (cosM (aziM g j)) (sinM (aziM g k)) (cosM (aziM g k))))
      refine k_topv (vI z_3) (by rw [ez_3]) ?_
      refine k_if_ne hC 29 dX12_layHat_24 rfl (by omega) (fun c_24 => ?_) (fun c_24 => ?_)
      · have ok3 : crOK (crDet (sinM (aziM g j)) (cosM (aziM g j)) (sinM (aziM g k)) (cosM (aziM g k))) := (hz_3.resolve_right (fun q1 => by omega)).2
        refine k_aload_n hC dX12_layHat_29 rfl 0 rfl ?_
        refine k_get hC fd_X12_31 (kl hN (by decide)) hm rfl dX12_layHat_30 ?_
        refine k_iconst hC dX12_layHat_33 ?_
        refine k_aload_n hC dX12_layHat_34 rfl 0 rfl ?_
        refine k_iload_n hC dX12_layHat_35 rfl 1 rfl ?_
        refine k_iload_n hC dX12_layHat_36 rfl 2 rfl ?_
        refine k_iconst hC dX12_layHat_37 ?_
        refine k_pureV hC (c_X12_crossingOf l hls G hN w fl u g ls lc lo i j T 0 (by omega) (by omega) hA hB hI ok1 ht (by omega) hm hn hLs) yy_X12_crossingOf wm_X12_218 (kl hN (by decide)) hm rfl rfl rfl rfl (Nat.le_of_ble_eq_true rfl) (by decide) (by decide) ⟨by decide, by decide⟩ dX12_layHat_38 ?_
        refine k_topv (vL (cE g i j T)) rfl ?_
        refine k_last hC (kl hN (by decide)) hHt.1 (by omega) (by decide) dX12_layHat_41 (fun w4 hw4 hf4 => ?_)
        refine k_aload_n hC dX12_layHat_42 rfl 0 rfl ?_
        have h_5 : w4 133 = .inr (12, [.ref (kad G 134), .ref (kad G 135), .ref (kad G 136), .ref (kad G 137), vI (u 4), vI (u 5), vI (u 6), .ref (kad G 138), .ref (kad G 139), .ref (kad G 140), .ref (kad G 141), .ref (kad G 142), vL (u 12), vL (u 13), .ref (kad G 143), vI (u 15), .ref (kad G 144), vI (u 17), vI (u 18), vI (u 19), vI (u 20), vI (u 21), vI (u 22), vI (u 23), vI (u 24), vI (u 25), .ref (kad G 145), .ref (kad G 146), .ref (kad G 147), vI (u 29)]) := (hf4 133 (by decide)).trans hm
        refine k_get hC fd_X12_34 (kl hN (by decide)) h_5 rfl dX12_layHat_43 ?_
        refine k_iconst hC dX12_layHat_46 ?_
        refine k_aload_n hC dX12_layHat_47 rfl 0 rfl ?_
        refine k_iload_n hC dX12_layHat_48 rfl 1 rfl ?_
        refine k_iload_n hC dX12_layHat_49 rfl 2 rfl ?_
        refine k_iconst hC dX12_layHat_50 ?_
        have h_6 : w4 134 = lA G 93 g := (hf4 134 (by decide)).trans hn
        have hB_7 : kLns G w4 ls lc lo := hLs.fr (fun j q1 q2 => (hf4 j (by omega)))
        refine k_pureV hC (c_X12_crossingOf l hls G hN w4 fl u g ls lc lo i j T 1 (by omega) (by omega) hA hB hI ok1 ht (by omega) h_5 h_6 hB_7) yy_X12_crossingOf wm_X12_218 (kl hN (by decide)) h_5 rfl rfl rfl rfl (Nat.le_of_ble_eq_true rfl) (by decide) (by decide) ⟨by decide, by decide⟩ dX12_layHat_51 ?_
        refine k_topv (vL (cN g i j T)) rfl ?_
        have h_8 : w4 142 = lA G 3 hy := (hf4 142 (by decide)).trans hHt.2
        refine k_last hC (kl hN (by decide)) h_8 (by omega) (by decide) dX12_layHat_54 (fun w9 hw9 hf9 => ?_)
        refine k_aload_n hC dX12_layHat_55 rfl 0 rfl ?_
        have h_10 : w9 133 = .inr (12, [.ref (kad G 134), .ref (kad G 135), .ref (kad G 136), .ref (kad G 137), vI (u 4), vI (u 5), vI (u 6), .ref (kad G 138), .ref (kad G 139), .ref (kad G 140), .ref (kad G 141), .ref (kad G 142), vL (u 12), vL (u 13), .ref (kad G 143), vI (u 15), .ref (kad G 144), vI (u 17), vI (u 18), vI (u 19), vI (u 20), vI (u 21), vI (u 22), vI (u 23), vI (u 24), vI (u 25), .ref (kad G 145), .ref (kad G 146), .ref (kad G 147), vI (u 29)]) := (hf9 133 (by decide)).trans h_5
        refine k_get hC fd_X12_31 (kl hN (by decide)) h_10 rfl dX12_layHat_56 ?_
        refine k_iconst hC dX12_layHat_59 ?_
        refine k_aload_n hC dX12_layHat_60 rfl 0 rfl ?_
        refine k_iload_n hC dX12_layHat_61 rfl 1 rfl ?_
        refine k_iload_n hC dX12_layHat_62 rfl 3 rfl ?_
        refine k_iconst hC dX12_layHat_63 ?_
        have h_11 : w9 134 = lA G 93 g := (hf9 134 (by decide)).trans h_6
        have hB_12 : kLns G w9 ls lc lo := hB_7.fr (fun j q1 q2 => (hf9 j (by omega)))
        refine k_pureV hC (c_X12_crossingOf l hls G hN w9 fl u g ls lc lo i k T 0 (by omega) (by omega) hA hC3 hI ok2 ht (by omega) h_10 h_11 hB_12) yy_X12_crossingOf wm_X12_218 (kl hN (by decide)) h_10 rfl rfl rfl rfl (Nat.le_of_ble_eq_true rfl) (by decide) (by decide) ⟨by decide, by decide⟩ dX12_layHat_64 ?_
        refine k_topv (vL (cE g i k T)) rfl ?_
        have h_13 : w9 141 = lA G 3 (kup hx 0 (cE g i j T)) := (hf9 141 (by decide)).trans hw4
        refine k_last hC (kl hN (by decide)) h_13 (by omega) (by decide) dX12_layHat_67 (fun w14 hw14 hf14 => ?_)
        refine k_aload_n hC dX12_layHat_68 rfl 0 rfl ?_
        have h_15 : w14 133 = .inr (12, [.ref (kad G 134), .ref (kad G 135), .ref (kad G 136), .ref (kad G 137), vI (u 4), vI (u 5), vI (u 6), .ref (kad G 138), .ref (kad G 139), .ref (kad G 140), .ref (kad G 141), .ref (kad G 142), vL (u 12), vL (u 13), .ref (kad G 143), vI (u 15), .ref (kad G 144), vI (u 17), vI (u 18), vI (u 19), vI (u 20), vI (u 21), vI (u 22), vI (u 23), vI (u 24), vI (u 25), .ref (kad G 145), .ref (kad G 146), .ref (kad G 147), vI (u 29)]) := (hf14 133 (by decide)).trans h_10
        refine k_get hC fd_X12_34 (kl hN (by decide)) h_15 rfl dX12_layHat_69 ?_
        refine k_iconst hC dX12_layHat_72 ?_
        refine k_aload_n hC dX12_layHat_73 rfl 0 rfl ?_
        refine k_iload_n hC dX12_layHat_74 rfl 1 rfl ?_
        refine k_iload_n hC dX12_layHat_75 rfl 3 rfl ?_
        refine k_iconst hC dX12_layHat_76 ?_
        have h_16 : w14 134 = lA G 93 g := (hf14 134 (by decide)).trans h_11
        have hB_17 : kLns G w14 ls lc lo := hB_12.fr (fun j q1 q2 => (hf14 j (by omega)))
        refine k_pureV hC (c_X12_crossingOf l hls G hN w14 fl u g ls lc lo i k T 1 (by omega) (by omega) hA hC3 hI ok2 ht (by omega) h_15 h_16 hB_17) yy_X12_crossingOf wm_X12_218 (kl hN (by decide)) h_15 rfl rfl rfl rfl (Nat.le_of_ble_eq_true rfl) (by decide) (by decide) ⟨by decide, by decide⟩ dX12_layHat_77 ?_
        refine k_topv (vL (cN g i k T)) rfl ?_
        have h_18 : w14 142 = lA G 3 (kup hy 0 (cN g i j T)) := (hf14 142 (by decide)).trans hw9
        refine k_last hC (kl hN (by decide)) h_18 (by omega) (by decide) dX12_layHat_80 (fun w19 hw19 hf19 => ?_)
        refine k_aload_n hC dX12_layHat_81 rfl 0 rfl ?_
        have h_20 : w19 133 = .inr (12, [.ref (kad G 134), .ref (kad G 135), .ref (kad G 136), .ref (kad G 137), vI (u 4), vI (u 5), vI (u 6), .ref (kad G 138), .ref (kad G 139), .ref (kad G 140), .ref (kad G 141), .ref (kad G 142), vL (u 12), vL (u 13), .ref (kad G 143), vI (u 15), .ref (kad G 144), vI (u 17), vI (u 18), vI (u 19), vI (u 20), vI (u 21), vI (u 22), vI (u 23), vI (u 24), vI (u 25), .ref (kad G 145), .ref (kad G 146), .ref (kad G 147), vI (u 29)]) := (hf19 133 (by decide)).trans h_15
        refine k_get hC fd_X12_31 (kl hN (by decide)) h_20 rfl dX12_layHat_82 ?_
        refine k_iconst hC dX12_layHat_85 ?_
        refine k_aload_n hC dX12_layHat_86 rfl 0 rfl ?_
        refine k_iload_n hC dX12_layHat_87 rfl 2 rfl ?_
        refine k_iload_n hC dX12_layHat_88 rfl 3 rfl ?_
        refine k_iconst hC dX12_layHat_89 ?_
        have h_21 : w19 134 = lA G 93 g := (hf19 134 (by decide)).trans h_16
        have hB_22 : kLns G w19 ls lc lo := hB_17.fr (fun j q1 q2 => (hf19 j (by omega)))
        refine k_pureV hC (c_X12_crossingOf l hls G hN w19 fl u g ls lc lo j k T 0 (by omega) (by omega) hB hC3 hI ok3 ht (by omega) h_20 h_21 hB_22) yy_X12_crossingOf wm_X12_218 (kl hN (by decide)) h_20 rfl rfl rfl rfl (Nat.le_of_ble_eq_true rfl) (by decide) (by decide) ⟨by decide, by decide⟩ dX12_layHat_90 ?_
        refine k_topv (vL (cE g j k T)) rfl ?_
        have h_23 : w19 141 = lA G 3 (kup (kup hx 0 (cE g i j T)) 1 (cE g i k T)) := (hf19 141 (by decide)).trans hw14
        refine k_last hC (kl hN (by decide)) h_23 (by omega) (by decide) dX12_layHat_93 (fun w24 hw24 hf24 => ?_)
        refine k_aload_n hC dX12_layHat_94 rfl 0 rfl ?_
        have h_25 : w24 133 = .inr (12, [.ref (kad G 134), .ref (kad G 135), .ref (kad G 136), .ref (kad G 137), vI (u 4), vI (u 5), vI (u 6), .ref (kad G 138), .ref (kad G 139), .ref (kad G 140), .ref (kad G 141), .ref (kad G 142), vL (u 12), vL (u 13), .ref (kad G 143), vI (u 15), .ref (kad G 144), vI (u 17), vI (u 18), vI (u 19), vI (u 20), vI (u 21), vI (u 22), vI (u 23), vI (u 24), vI (u 25), .ref (kad G 145), .ref (kad G 146), .ref (kad G 147), vI (u 29)]) := (hf24 133 (by decide)).trans h_20
        refine k_get hC fd_X12_34 (kl hN (by decide)) h_25 rfl dX12_layHat_95 ?_
        refine k_iconst hC dX12_layHat_98 ?_
        refine k_aload_n hC dX12_layHat_99 rfl 0 rfl ?_
        refine k_iload_n hC dX12_layHat_100 rfl 2 rfl ?_
        refine k_iload_n hC dX12_layHat_101 rfl 3 rfl ?_
        refine k_iconst hC dX12_layHat_102 ?_
        have h_26 : w24 134 = lA G 93 g := (hf24 134 (by decide)).trans h_21
        have hB_27 : kLns G w24 ls lc lo := hB_22.fr (fun j q1 q2 => (hf24 j (by omega)))
        refine k_pureV hC (c_X12_crossingOf l hls G hN w24 fl u g ls lc lo j k T 1 (by omega) (by omega) hB hC3 hI ok3 ht (by omega) h_25 h_26 hB_27) yy_X12_crossingOf wm_X12_218 (kl hN (by decide)) h_25 rfl rfl rfl rfl (Nat.le_of_ble_eq_true rfl) (by decide) (by decide) ⟨by decide, by decide⟩ dX12_layHat_103 ?_
        refine k_topv (vL (cN g j k T)) rfl ?_
        have h_28 : w24 142 = lA G 3 (kup (kup hy 0 (cN g i j T)) 1 (cN g i k T)) := (hf24 142 (by decide)).trans hw19
        refine k_last hC (kl hN (by decide)) h_28 (by omega) (by decide) dX12_layHat_106 (fun w29 hw29 hf29 => ?_)
        refine k_iconst hC dX12_layHat_107 ?_
        have h_30 : w29 141 = lA G 3 (kup (kup (kup hx 0 (cE g i j T)) 1 (cE g i k T)) 2 (cE g j k T)) := (hf29 141 (by decide)).trans hw24
        subst hQ
        exact k_zret hC (by omega) hr ⟨by decide, by decide⟩ (⟨congrArg (fun z => some (vI z)) (selI_1 (show hatP g i j k from ⟨ok1, ok2, ok3⟩)), rfl, ⟨_, _, ⟨(h_30).trans kup3, (hw29).trans kup3⟩, fun _ => ⟨rfl, rfl⟩⟩, fun j hj => (hf29 j (by omega)).trans ((hf24 j (by omega)).trans ((hf19 j (by omega)).trans ((hf14 j (by omega)).trans ((hf9 j (by omega)).trans (hf4 j (by omega))))))⟩) dX12_layHat_108
      · have no3 : ¬ crOK (crDet (sinM (aziM g j)) (cosM (aziM g j)) (sinM (aziM g k)) (cosM (aziM g k))) := (hz_3.resolve_left (fun q1 => by omega)).2
        refine k_iconst hC dX12_layHat_27 ?_
        subst hQ
        exact k_zret hC (by omega) hr ⟨by decide, by decide⟩ (⟨congrArg (fun z => some (vI z)) (selI_0 (show ¬ hatP g i j k from fun hq => by first | exact no1 hq.1 | exact no2 hq.2.1 | exact no3 hq.2.2)), rfl, ⟨_, _, hHt, fun hq => by first | exact absurd hq.1 no1 | exact absurd hq.2.1 no2 | exact absurd hq.2.2 no3⟩, fun j hj => rfl⟩) dX12_layHat_28

def besQ (fx fy tx ty lx ly x y : Int) : Prop := besP fx fy tx ty lx ly x y
set_option maxRecDepth 100000 in
set_option maxHeartbeats 4000000 in
theorem c_X12_turn (l : Launch) (hls : l.stackTraces = false) (G : kG) (hN : kN G = 150) (w : Nat → va_E) (fl : va_W) (fx fy tx ty x y : Int) : KM l G yX12_turn cX12_turn 12 (some (FieldType.long)) 0 0 0 [vL fx, vL fy, vL tx, vL ty, vL x, vL y] w fl (kPure (vL (turnM fx fy tx ty x y)) w fl) := by
  refine KM_of2 hls (by decide +kernel) rfl (lv0 := [(0, vL fx), (2, vL fy), (4, vL tx), (6, vL ty), (8, vL x), (10, vL y)]) rfl (Nat.le_of_ble_eq_true rfl) (fun p e R s m args below meth c Q hC hr hQ => ?_)
  refine k_lload hC dX12_turn_0 2 rfl ?_
  refine k_lload_n hC dX12_turn_2 rfl 0 rfl ?_
  refine k_lsub hC dX12_turn_3 ?_
  refine k_lload hC dX12_turn_4 5 rfl ?_
  refine k_lload_n hC dX12_turn_6 rfl 1 rfl ?_
  refine k_lsub hC dX12_turn_7 ?_
  refine k_lmul hC dX12_turn_8 ?_
  refine k_lload hC dX12_turn_9 4 rfl ?_
  refine k_lload_n hC dX12_turn_11 rfl 0 rfl ?_
  refine k_lsub hC dX12_turn_12 ?_
  refine k_lload hC dX12_turn_13 3 rfl ?_
  refine k_lload_n hC dX12_turn_15 rfl 1 rfl ?_
  refine k_lsub hC dX12_turn_16 ?_
  refine k_lmul hC dX12_turn_17 ?_
  refine k_lsub hC dX12_turn_18 ?_
  subst hQ
  exact k_lret hC hr ⟨by decide, by decide⟩ (⟨congrArg (fun z => some (vL z)) (show (turnM fx fy tx ty x y : Int) = ((tx - fx) * (y - fy)) - ((x - fx) * (ty - fy)) from rfl), rfl, rfl⟩) dX12_turn_19

set_option maxRecDepth 100000 in
set_option maxHeartbeats 4000000 in
theorem c_X12_hatArea (l : Launch) (hls : l.stackTraces = false) (G : kG) (hN : kN G = 150) (w : Nat → va_E) (fl : va_W) (u : Nat → Int) (x0 y0 x1 y1 x2 y2 : Int) (hx0 : -1000000 ≤ x0 ∧ x0 ≤ 1000000) (hy0 : -1000000 ≤ y0 ∧ y0 ≤ 1000000) (hx1 : -1000000 ≤ x1 ∧ x1 ≤ 1000000) (hy1 : -1000000 ≤ y1 ∧ y1 ≤ 1000000) (hx2 : -1000000 ≤ x2 ∧ x2 ≤ 1000000) (hy2 : -1000000 ≤ y2 ∧ y2 ≤ 1000000) (hm : w 133 = mdO G u) (hHt : kHts G w (f3 x0 x1 x2) (f3 y0 y1 y2)) : KM l G yX12_hatArea cX12_hatArea 1 (some (FieldType.long)) 1 0 0 [.ref (kad G 133)] w fl (kPure (vL (areaM x0 y0 x1 y1 x2 y2)) w fl) := by
  refine KM_of2 hls (by decide +kernel) rfl (lv0 := [(0, .ref (kad G 133))]) rfl (Nat.le_of_ble_eq_true rfl) (fun p e R s m args below meth c Q hC hr hQ => ?_)
  refine k_aload_n hC dX12_hatArea_0 rfl 0 rfl ?_
  refine k_get hC fd_X12_31 (kl hN (by decide)) hm rfl dX12_hatArea_1 ?_
  refine k_iconst hC dX12_hatArea_4 ?_
  refine k_lald hC (kl hN (by decide)) hHt.1 (by omega) (by decide) dX12_hatArea_5 ?_
  refine k_topv (vL ((f3 x0 x1 x2) (0 : Nat))) rfl ?_
  refine k_aload_n hC dX12_hatArea_6 rfl 0 rfl ?_
  refine k_get hC fd_X12_34 (kl hN (by decide)) hm rfl dX12_hatArea_7 ?_
  refine k_iconst hC dX12_hatArea_10 ?_
  refine k_lald hC (kl hN (by decide)) hHt.2 (by omega) (by decide) dX12_hatArea_11 ?_
  refine k_topv (vL ((f3 y0 y1 y2) (0 : Nat))) rfl ?_
  refine k_aload_n hC dX12_hatArea_12 rfl 0 rfl ?_
  refine k_get hC fd_X12_31 (kl hN (by decide)) hm rfl dX12_hatArea_13 ?_
  refine k_iconst hC dX12_hatArea_16 ?_
  refine k_lald hC (kl hN (by decide)) hHt.1 (by omega) (by decide) dX12_hatArea_17 ?_
  refine k_topv (vL ((f3 x0 x1 x2) (1 : Nat))) rfl ?_
  refine k_aload_n hC dX12_hatArea_18 rfl 0 rfl ?_
  refine k_get hC fd_X12_34 (kl hN (by decide)) hm rfl dX12_hatArea_19 ?_
  refine k_iconst hC dX12_hatArea_22 ?_
  refine k_lald hC (kl hN (by decide)) hHt.2 (by omega) (by decide) dX12_hatArea_23 ?_
  refine k_topv (vL ((f3 y0 y1 y2) (1 : Nat))) rfl ?_
  refine k_aload_n hC dX12_hatArea_24 rfl 0 rfl ?_
  refine k_get hC fd_X12_31 (kl hN (by decide)) hm rfl dX12_hatArea_25 ?_
  refine k_iconst hC dX12_hatArea_28 ?_
  refine k_lald hC (kl hN (by decide)) hHt.1 (by omega) (by decide) dX12_hatArea_29 ?_
  refine k_topv (vL ((f3 x0 x1 x2) (2 : Nat))) rfl ?_
  refine k_aload_n hC dX12_hatArea_30 rfl 0 rfl ?_
  refine k_get hC fd_X12_34 (kl hN (by decide)) hm rfl dX12_hatArea_31 ?_
  refine k_iconst hC dX12_hatArea_34 ?_
  refine k_lald hC (kl hN (by decide)) hHt.2 (by omega) (by decide) dX12_hatArea_35 ?_
  refine k_topv (vL ((f3 y0 y1 y2) (2 : Nat))) rfl ?_
  refine k_pureS hC (c_X12_turn l hls G hN w fl ((f3 x0 x1 x2) (0 : Nat)) ((f3 y0 y1 y2) (0 : Nat)) ((f3 x0 x1 x2) (1 : Nat)) ((f3 y0 y1 y2) (1 : Nat)) ((f3 x0 x1 x2) (2 : Nat)) ((f3 y0 y1 y2) (2 : Nat))) yy_X12_turn wm_X12_222 rfl rfl (Nat.le_of_ble_eq_true rfl) (by decide) (by decide) ⟨by decide, by decide⟩ dX12_hatArea_36 ?_
  refine k_topv (vL (turnM ((f3 x0 x1 x2) (0 : Nat)) ((f3 y0 y1 y2) (0 : Nat)) ((f3 x0 x1 x2) (1 : Nat)) ((f3 y0 y1 y2) (1 : Nat)) ((f3 x0 x1 x2) (2 : Nat)) ((f3 y0 y1 y2) (2 : Nat)))) rfl ?_
  refine k_topv (vL (turnM x0 y0 x1 y1 x2 y2)) rfl ?_
  have htb := turnM_b (fx := x0) (fy := y0) (tx := x1) (ty := y1) (x := x2) (y := y2) (by omega) (by omega) (by omega) (by omega) (by omega) (by omega)
  refine k_mabsL hC wm_X12_204 wmath_mabsL (by omega) (by decide) (Nat.le_of_ble_eq_true rfl) ⟨by decide, by decide⟩ dX12_hatArea_39 ?_
  refine k_ldc2 hC (x := 20000) (v := 20000) dX12_hatArea_42 (by decide) wk_X12_226 ?_
  refine k_ldiv hC dX12_hatArea_45 (by omega) (by omega) ?_
  refine k_topL (fun q_1 eq_1 => ?_)
  have eq_1 : q_1 = (((turnM x0 y0 x1 y1 x2 y2).natAbs : Int)) / (20000) := by rw [eq_1]; exact Int.tdiv_eq_ediv_of_nonneg (by omega)
  subst hQ
  exact k_lret hC hr ⟨by decide, by decide⟩ (⟨congrArg (fun z => some (vL z)) (show (areaM x0 y0 x1 y1 x2 y2 : Int) = q_1 from by unfold areaM; rw [eq_1]), rfl, rfl⟩) dX12_hatArea_46

set_option maxRecDepth 100000 in
set_option maxHeartbeats 4000000 in
theorem c_X12_isBeside012 (l : Launch) (hls : l.stackTraces = false) (G : kG) (hN : kN G = 150) (w : Nat → va_E) (fl : va_W) (u : Nat → Int) (x0 y0 x1 y1 x2 y2 x y : Int) (hx0 : -1000000 ≤ x0 ∧ x0 ≤ 1000000) (hy0 : -1000000 ≤ y0 ∧ y0 ≤ 1000000) (hx1 : -1000000 ≤ x1 ∧ x1 ≤ 1000000) (hy1 : -1000000 ≤ y1 ∧ y1 ≤ 1000000) (hx2 : -1000000 ≤ x2 ∧ x2 ≤ 1000000) (hy2 : -1000000 ≤ y2 ∧ y2 ≤ 1000000) (hx : -1000000 ≤ x ∧ x ≤ 1000000) (hy : -1000000 ≤ y ∧ y ≤ 1000000) (hm : w 133 = mdO G u) (hHt : kHts G w (f3 x0 x1 x2) (f3 y0 y1 y2)) : KM l G yX12_isBeside cX12_isBeside 12 (some (FieldType.boolean)) 1 0 0 [.ref (kad G 133), vI 0, vI 1, vI 2, vL x, vL y] w fl (kPure (vI (selI (besQ x0 y0 x1 y1 x2 y2 x y) 1 0)) w fl) := by
  refine KM_of2 hls (by decide +kernel) rfl (lv0 := [(0, .ref (kad G 133)), (1, vI 0), (2, vI 1), (3, vI 2), (4, vL x), (6, vL y)]) rfl (Nat.le_of_ble_eq_true rfl) (fun p e R s m args below meth c Q hC hr hQ => ?_)
  refine k_aload_n hC dX12_isBeside_0 rfl 0 rfl ?_
  refine k_get hC fd_X12_31 (kl hN (by decide)) hm rfl dX12_isBeside_1 ?_
  refine k_iload_n hC dX12_isBeside_4 rfl 1 rfl ?_
  refine k_lald hC (kl hN (by decide)) hHt.1 (by omega) (by decide) dX12_isBeside_5 ?_
  refine k_topv (vL ((f3 x0 x1 x2) (0 : Nat))) rfl ?_
  refine k_aload_n hC dX12_isBeside_6 rfl 0 rfl ?_
  refine k_get hC fd_X12_34 (kl hN (by decide)) hm rfl dX12_isBeside_7 ?_
  refine k_iload_n hC dX12_isBeside_10 rfl 1 rfl ?_
  refine k_lald hC (kl hN (by decide)) hHt.2 (by omega) (by decide) dX12_isBeside_11 ?_
  refine k_topv (vL ((f3 y0 y1 y2) (0 : Nat))) rfl ?_
  refine k_aload_n hC dX12_isBeside_12 rfl 0 rfl ?_
  refine k_get hC fd_X12_31 (kl hN (by decide)) hm rfl dX12_isBeside_13 ?_
  refine k_iload_n hC dX12_isBeside_16 rfl 2 rfl ?_
  refine k_lald hC (kl hN (by decide)) hHt.1 (by omega) (by decide) dX12_isBeside_17 ?_
  refine k_topv (vL ((f3 x0 x1 x2) (1 : Nat))) rfl ?_
  refine k_aload_n hC dX12_isBeside_18 rfl 0 rfl ?_
  refine k_get hC fd_X12_34 (kl hN (by decide)) hm rfl dX12_isBeside_19 ?_
  refine k_iload_n hC dX12_isBeside_22 rfl 2 rfl ?_
  refine k_lald hC (kl hN (by decide)) hHt.2 (by omega) (by decide) dX12_isBeside_23 ?_
  refine k_topv (vL ((f3 y0 y1 y2) (1 : Nat))) rfl ?_
  refine k_aload_n hC dX12_isBeside_24 rfl 0 rfl ?_
  refine k_get hC fd_X12_31 (kl hN (by decide)) hm rfl dX12_isBeside_25 ?_
  refine k_iload_n hC dX12_isBeside_28 rfl 3 rfl ?_
  refine k_lald hC (kl hN (by decide)) hHt.1 (by omega) (by decide) dX12_isBeside_29 ?_
  refine k_topv (vL ((f3 x0 x1 x2) (2 : Nat))) rfl ?_
  refine k_aload_n hC dX12_isBeside_30 rfl 0 rfl ?_
  refine k_get hC fd_X12_34 (kl hN (by decide)) hm rfl dX12_isBeside_31 ?_
  refine k_iload_n hC dX12_isBeside_34 rfl 3 rfl ?_
  refine k_lald hC (kl hN (by decide)) hHt.2 (by omega) (by decide) dX12_isBeside_35 ?_
  refine k_topv (vL ((f3 y0 y1 y2) (2 : Nat))) rfl ?_
  refine k_pureS hC (c_X12_turn l hls G hN w fl ((f3 x0 x1 x2) (0 : Nat)) ((f3 y0 y1 y2) (0 : Nat)) ((f3 x0 x1 x2) (1 : Nat)) ((f3 y0 y1 y2) (1 : Nat)) ((f3 x0 x1 x2) (2 : Nat)) ((f3 y0 y1 y2) (2 : Nat))) yy_X12_turn wm_X12_222 rfl rfl (Nat.le_of_ble_eq_true rfl) (by decide) (by decide) ⟨by decide, by decide⟩ dX12_isBeside_36 ?_
  refine k_topv (vL (turnM ((f3 x0 x1 x2) (0 : Nat)) ((f3 y0 y1 y2) (0 : Nat)) ((f3 x0 x1 x2) (1 : Nat)) ((f3 y0 y1 y2) (1 : Nat)) ((f3 x0 x1 x2) (2 : Nat)) ((f3 y0 y1 y2) (2 : Nat)))) rfl ?_
  refine k_topL (fun ow eow => ?_)
  refine k_lstore hC [(8, vL ow), (0, .ref (kad G 133)), (1, vI 0), (2, vI 1), (3, vI 2), (4, vL x), (6, vL y)] dX12_isBeside_39 (by decide) rfl ?_
  have how := turnM_b (fx := x0) (fy := y0) (tx := x1) (ty := y1) (x := x2) (y := y2) (by omega) (by omega) (by omega) (by omega) (by omega) (by omega)
  have eow2 : ow = turnM x0 y0 x1 y1 x2 y2 := eow
  rw [← eow2] at how
  refine k_aload_n hC dX12_isBeside_41 rfl 1 rfl ?_
  refine k_get hC fd_X12_31 (kl hN (by decide)) hm rfl dX12_isBeside_42 ?_
  refine k_iload_n hC dX12_isBeside_45 rfl 2 rfl ?_
  refine k_lald hC (kl hN (by decide)) hHt.1 (by omega) (by decide) dX12_isBeside_46 ?_
  refine k_topv (vL ((f3 x0 x1 x2) (0 : Nat))) rfl ?_
  refine k_aload_n hC dX12_isBeside_47 rfl 1 rfl ?_
  refine k_get hC fd_X12_34 (kl hN (by decide)) hm rfl dX12_isBeside_48 ?_
  refine k_iload_n hC dX12_isBeside_51 rfl 2 rfl ?_
  refine k_lald hC (kl hN (by decide)) hHt.2 (by omega) (by decide) dX12_isBeside_52 ?_
  refine k_topv (vL ((f3 y0 y1 y2) (0 : Nat))) rfl ?_
  refine k_aload_n hC dX12_isBeside_53 rfl 1 rfl ?_
  refine k_get hC fd_X12_31 (kl hN (by decide)) hm rfl dX12_isBeside_54 ?_
  refine k_iload_n hC dX12_isBeside_57 rfl 3 rfl ?_
  refine k_lald hC (kl hN (by decide)) hHt.1 (by omega) (by decide) dX12_isBeside_58 ?_
  refine k_topv (vL ((f3 x0 x1 x2) (1 : Nat))) rfl ?_
  refine k_aload_n hC dX12_isBeside_59 rfl 1 rfl ?_
  refine k_get hC fd_X12_34 (kl hN (by decide)) hm rfl dX12_isBeside_60 ?_
  refine k_iload_n hC dX12_isBeside_63 rfl 3 rfl ?_
  refine k_lald hC (kl hN (by decide)) hHt.2 (by omega) (by decide) dX12_isBeside_64 ?_
  refine k_topv (vL ((f3 y0 y1 y2) (1 : Nat))) rfl ?_
  refine k_lload hC dX12_isBeside_65 5 rfl ?_
  refine k_lload hC dX12_isBeside_67 6 rfl ?_
  refine k_pureS hC (c_X12_turn l hls G hN w fl ((f3 x0 x1 x2) (0 : Nat)) ((f3 y0 y1 y2) (0 : Nat)) ((f3 x0 x1 x2) (1 : Nat)) ((f3 y0 y1 y2) (1 : Nat)) x y) yy_X12_turn wm_X12_222 rfl rfl (Nat.le_of_ble_eq_true rfl) (by decide) (by decide) ⟨by decide, by decide⟩ dX12_isBeside_69 ?_
  refine k_topv (vL (turnM ((f3 x0 x1 x2) (0 : Nat)) ((f3 y0 y1 y2) (0 : Nat)) ((f3 x0 x1 x2) (1 : Nat)) ((f3 y0 y1 y2) (1 : Nat)) x y)) rfl ?_
  refine k_topL (fun it eit => ?_)
  refine k_lstore hC [(10, vL it), (8, vL ow), (0, .ref (kad G 133)), (1, vI 0), (2, vI 1), (3, vI 2), (4, vL x), (6, vL y)] dX12_isBeside_72 (by decide) rfl ?_
  have hit := turnM_b (fx := x0) (fy := y0) (tx := x1) (ty := y1) (x := x) (y := y) (by omega) (by omega) (by omega) (by omega) (by omega) (by omega)
  have eit2 : it = turnM x0 y0 x1 y1 x y := eit
  rw [← eit2] at hit
  refine k_lload hC dX12_isBeside_74 1 rfl ?_
  refine k_lconst (x := 0) hC dX12_isBeside_76 (by decide) ?_
  refine k_lcmp_eq hC 115 dX12_isBeside_77 dX12_isBeside_78 rfl (by omega) (by omega) (fun c_77 => ?_) (fun c_77 => ?_)
  · refine k_iconst hC dX12_isBeside_115 ?_
    refine k_goto hC 120 dX12_isBeside_116 rfl ?_
    subst hQ
    exact k_zret hC (by omega) hr ⟨by decide, by decide⟩ (⟨congrArg (fun z => some (vI z)) (show (selI (besQ x0 y0 x1 y1 x2 y2 x y) 1 0 : Int) = 1 from by refine selI_1 ?_; unfold besQ besP; rw [← eow2, ← eit2]; omega), rfl, rfl⟩) dX12_isBeside_120
  · refine k_lload hC dX12_isBeside_81 0 rfl ?_
    refine k_lconst (x := 0) hC dX12_isBeside_83 (by decide) ?_
    refine k_lcmp_eq hC 115 dX12_isBeside_84 dX12_isBeside_85 rfl (by omega) (by omega) (fun c_84 => ?_) (fun c_84 => ?_)
    · refine k_iconst hC dX12_isBeside_115 ?_
      refine k_goto hC 120 dX12_isBeside_116 rfl ?_
      subst hQ
      exact k_zret hC (by omega) hr ⟨by decide, by decide⟩ (⟨congrArg (fun z => some (vI z)) (show (selI (besQ x0 y0 x1 y1 x2 y2 x y) 1 0 : Int) = 1 from by refine selI_1 ?_; unfold besQ besP; rw [← eow2, ← eit2]; omega), rfl, rfl⟩) dX12_isBeside_120
    · refine k_lload hC dX12_isBeside_88 1 rfl ?_
      refine k_lconst (x := 0) hC dX12_isBeside_90 (by decide) ?_
      refine k_lcmp_le hC 99 dX12_isBeside_91 dX12_isBeside_92 rfl (by omega) (by omega) (fun c_91 => ?_) (fun c_91 => ?_)
      · refine k_iconst hC dX12_isBeside_99 ?_
        refine k_lload hC dX12_isBeside_100 0 rfl ?_
        refine k_lconst (x := 0) hC dX12_isBeside_102 (by decide) ?_
        refine k_lcmp_le hC 111 dX12_isBeside_103 dX12_isBeside_104 rfl (by omega) (by omega) (fun c_103 => ?_) (fun c_103 => ?_)
        · refine k_iconst hC dX12_isBeside_111 ?_
          refine k_icmp_ne hC 119 dX12_isBeside_112 rfl (by omega) (by omega) (fun c_112 => absurd c_112 (by omega)) (fun c_112 => ?_)
          refine k_iconst hC dX12_isBeside_115 ?_
          refine k_goto hC 120 dX12_isBeside_116 rfl ?_
          subst hQ
          exact k_zret hC (by omega) hr ⟨by decide, by decide⟩ (⟨congrArg (fun z => some (vI z)) (show (selI (besQ x0 y0 x1 y1 x2 y2 x y) 1 0 : Int) = 1 from by refine selI_1 ?_; unfold besQ besP; rw [← eow2, ← eit2]; omega), rfl, rfl⟩) dX12_isBeside_120
        · refine k_iconst hC dX12_isBeside_107 ?_
          refine k_goto hC 112 dX12_isBeside_108 rfl ?_
          refine k_icmp_ne hC 119 dX12_isBeside_112 rfl (by omega) (by omega) (fun c_112 => ?_) (fun c_112 => absurd c_112 (by omega))
          refine k_iconst hC dX12_isBeside_119 ?_
          subst hQ
          exact k_zret hC (by omega) hr ⟨by decide, by decide⟩ (⟨congrArg (fun z => some (vI z)) (show (selI (besQ x0 y0 x1 y1 x2 y2 x y) 1 0 : Int) = 0 from by refine selI_0 ?_; unfold besQ besP; rw [← eow2, ← eit2]; omega), rfl, rfl⟩) dX12_isBeside_120
      · refine k_iconst hC dX12_isBeside_95 ?_
        refine k_goto hC 100 dX12_isBeside_96 rfl ?_
        refine k_lload hC dX12_isBeside_100 0 rfl ?_
        refine k_lconst (x := 0) hC dX12_isBeside_102 (by decide) ?_
        refine k_lcmp_le hC 111 dX12_isBeside_103 dX12_isBeside_104 rfl (by omega) (by omega) (fun c_103 => ?_) (fun c_103 => ?_)
        · refine k_iconst hC dX12_isBeside_111 ?_
          refine k_icmp_ne hC 119 dX12_isBeside_112 rfl (by omega) (by omega) (fun c_112 => ?_) (fun c_112 => absurd c_112 (by omega))
          refine k_iconst hC dX12_isBeside_119 ?_
          subst hQ
          exact k_zret hC (by omega) hr ⟨by decide, by decide⟩ (⟨congrArg (fun z => some (vI z)) (show (selI (besQ x0 y0 x1 y1 x2 y2 x y) 1 0 : Int) = 0 from by refine selI_0 ?_; unfold besQ besP; rw [← eow2, ← eit2]; omega), rfl, rfl⟩) dX12_isBeside_120
        · refine k_iconst hC dX12_isBeside_107 ?_
          refine k_goto hC 112 dX12_isBeside_108 rfl ?_
          refine k_icmp_ne hC 119 dX12_isBeside_112 rfl (by omega) (by omega) (fun c_112 => absurd c_112 (by omega)) (fun c_112 => ?_)
          refine k_iconst hC dX12_isBeside_115 ?_
          refine k_goto hC 120 dX12_isBeside_116 rfl ?_
          subst hQ
          exact k_zret hC (by omega) hr ⟨by decide, by decide⟩ (⟨congrArg (fun z => some (vI z)) (show (selI (besQ x0 y0 x1 y1 x2 y2 x y) 1 0 : Int) = 1 from by refine selI_1 ?_; unfold besQ besP; rw [← eow2, ← eit2]; omega), rfl, rfl⟩) dX12_isBeside_120

set_option maxRecDepth 100000 in
set_option maxHeartbeats 4000000 in
theorem c_X12_isBeside021 (l : Launch) (hls : l.stackTraces = false) (G : kG) (hN : kN G = 150) (w : Nat → va_E) (fl : va_W) (u : Nat → Int) (x0 y0 x1 y1 x2 y2 x y : Int) (hx0 : -1000000 ≤ x0 ∧ x0 ≤ 1000000) (hy0 : -1000000 ≤ y0 ∧ y0 ≤ 1000000) (hx1 : -1000000 ≤ x1 ∧ x1 ≤ 1000000) (hy1 : -1000000 ≤ y1 ∧ y1 ≤ 1000000) (hx2 : -1000000 ≤ x2 ∧ x2 ≤ 1000000) (hy2 : -1000000 ≤ y2 ∧ y2 ≤ 1000000) (hx : -1000000 ≤ x ∧ x ≤ 1000000) (hy : -1000000 ≤ y ∧ y ≤ 1000000) (hm : w 133 = mdO G u) (hHt : kHts G w (f3 x0 x1 x2) (f3 y0 y1 y2)) : KM l G yX12_isBeside cX12_isBeside 12 (some (FieldType.boolean)) 1 0 0 [.ref (kad G 133), vI 0, vI 2, vI 1, vL x, vL y] w fl (kPure (vI (selI (besQ x0 y0 x2 y2 x1 y1 x y) 1 0)) w fl) := by
  refine KM_of2 hls (by decide +kernel) rfl (lv0 := [(0, .ref (kad G 133)), (1, vI 0), (2, vI 2), (3, vI 1), (4, vL x), (6, vL y)]) rfl (Nat.le_of_ble_eq_true rfl) (fun p e R s m args below meth c Q hC hr hQ => ?_)
  refine k_aload_n hC dX12_isBeside_0 rfl 0 rfl ?_
  refine k_get hC fd_X12_31 (kl hN (by decide)) hm rfl dX12_isBeside_1 ?_
  refine k_iload_n hC dX12_isBeside_4 rfl 1 rfl ?_
  refine k_lald hC (kl hN (by decide)) hHt.1 (by omega) (by decide) dX12_isBeside_5 ?_
  refine k_topv (vL ((f3 x0 x1 x2) (0 : Nat))) rfl ?_
  refine k_aload_n hC dX12_isBeside_6 rfl 0 rfl ?_
  refine k_get hC fd_X12_34 (kl hN (by decide)) hm rfl dX12_isBeside_7 ?_
  refine k_iload_n hC dX12_isBeside_10 rfl 1 rfl ?_
  refine k_lald hC (kl hN (by decide)) hHt.2 (by omega) (by decide) dX12_isBeside_11 ?_
  refine k_topv (vL ((f3 y0 y1 y2) (0 : Nat))) rfl ?_
  refine k_aload_n hC dX12_isBeside_12 rfl 0 rfl ?_
  refine k_get hC fd_X12_31 (kl hN (by decide)) hm rfl dX12_isBeside_13 ?_
  refine k_iload_n hC dX12_isBeside_16 rfl 2 rfl ?_
  refine k_lald hC (kl hN (by decide)) hHt.1 (by omega) (by decide) dX12_isBeside_17 ?_
  refine k_topv (vL ((f3 x0 x1 x2) (2 : Nat))) rfl ?_
  refine k_aload_n hC dX12_isBeside_18 rfl 0 rfl ?_
  refine k_get hC fd_X12_34 (kl hN (by decide)) hm rfl dX12_isBeside_19 ?_
  refine k_iload_n hC dX12_isBeside_22 rfl 2 rfl ?_
  refine k_lald hC (kl hN (by decide)) hHt.2 (by omega) (by decide) dX12_isBeside_23 ?_
  refine k_topv (vL ((f3 y0 y1 y2) (2 : Nat))) rfl ?_
  refine k_aload_n hC dX12_isBeside_24 rfl 0 rfl ?_
  refine k_get hC fd_X12_31 (kl hN (by decide)) hm rfl dX12_isBeside_25 ?_
  refine k_iload_n hC dX12_isBeside_28 rfl 3 rfl ?_
  refine k_lald hC (kl hN (by decide)) hHt.1 (by omega) (by decide) dX12_isBeside_29 ?_
  refine k_topv (vL ((f3 x0 x1 x2) (1 : Nat))) rfl ?_
  refine k_aload_n hC dX12_isBeside_30 rfl 0 rfl ?_
  refine k_get hC fd_X12_34 (kl hN (by decide)) hm rfl dX12_isBeside_31 ?_
  refine k_iload_n hC dX12_isBeside_34 rfl 3 rfl ?_
  refine k_lald hC (kl hN (by decide)) hHt.2 (by omega) (by decide) dX12_isBeside_35 ?_
  refine k_topv (vL ((f3 y0 y1 y2) (1 : Nat))) rfl ?_
  refine k_pureS hC (c_X12_turn l hls G hN w fl ((f3 x0 x1 x2) (0 : Nat)) ((f3 y0 y1 y2) (0 : Nat)) ((f3 x0 x1 x2) (2 : Nat)) ((f3 y0 y1 y2) (2 : Nat)) ((f3 x0 x1 x2) (1 : Nat)) ((f3 y0 y1 y2) (1 : Nat))) yy_X12_turn wm_X12_222 rfl rfl (Nat.le_of_ble_eq_true rfl) (by decide) (by decide) ⟨by decide, by decide⟩ dX12_isBeside_36 ?_
  refine k_topv (vL (turnM ((f3 x0 x1 x2) (0 : Nat)) ((f3 y0 y1 y2) (0 : Nat)) ((f3 x0 x1 x2) (2 : Nat)) ((f3 y0 y1 y2) (2 : Nat)) ((f3 x0 x1 x2) (1 : Nat)) ((f3 y0 y1 y2) (1 : Nat)))) rfl ?_
  refine k_topL (fun ow eow => ?_)
  refine k_lstore hC [(8, vL ow), (0, .ref (kad G 133)), (1, vI 0), (2, vI 2), (3, vI 1), (4, vL x), (6, vL y)] dX12_isBeside_39 (by decide) rfl ?_
  have how := turnM_b (fx := x0) (fy := y0) (tx := x2) (ty := y2) (x := x1) (y := y1) (by omega) (by omega) (by omega) (by omega) (by omega) (by omega)
  have eow2 : ow = turnM x0 y0 x2 y2 x1 y1 := eow
  rw [← eow2] at how
  refine k_aload_n hC dX12_isBeside_41 rfl 1 rfl ?_
  refine k_get hC fd_X12_31 (kl hN (by decide)) hm rfl dX12_isBeside_42 ?_
  refine k_iload_n hC dX12_isBeside_45 rfl 2 rfl ?_
  refine k_lald hC (kl hN (by decide)) hHt.1 (by omega) (by decide) dX12_isBeside_46 ?_
  refine k_topv (vL ((f3 x0 x1 x2) (0 : Nat))) rfl ?_
  refine k_aload_n hC dX12_isBeside_47 rfl 1 rfl ?_
  refine k_get hC fd_X12_34 (kl hN (by decide)) hm rfl dX12_isBeside_48 ?_
  refine k_iload_n hC dX12_isBeside_51 rfl 2 rfl ?_
  refine k_lald hC (kl hN (by decide)) hHt.2 (by omega) (by decide) dX12_isBeside_52 ?_
  refine k_topv (vL ((f3 y0 y1 y2) (0 : Nat))) rfl ?_
  refine k_aload_n hC dX12_isBeside_53 rfl 1 rfl ?_
  refine k_get hC fd_X12_31 (kl hN (by decide)) hm rfl dX12_isBeside_54 ?_
  refine k_iload_n hC dX12_isBeside_57 rfl 3 rfl ?_
  refine k_lald hC (kl hN (by decide)) hHt.1 (by omega) (by decide) dX12_isBeside_58 ?_
  refine k_topv (vL ((f3 x0 x1 x2) (2 : Nat))) rfl ?_
  refine k_aload_n hC dX12_isBeside_59 rfl 1 rfl ?_
  refine k_get hC fd_X12_34 (kl hN (by decide)) hm rfl dX12_isBeside_60 ?_
  refine k_iload_n hC dX12_isBeside_63 rfl 3 rfl ?_
  refine k_lald hC (kl hN (by decide)) hHt.2 (by omega) (by decide) dX12_isBeside_64 ?_
  refine k_topv (vL ((f3 y0 y1 y2) (2 : Nat))) rfl ?_
  refine k_lload hC dX12_isBeside_65 5 rfl ?_
  refine k_lload hC dX12_isBeside_67 6 rfl ?_
  refine k_pureS hC (c_X12_turn l hls G hN w fl ((f3 x0 x1 x2) (0 : Nat)) ((f3 y0 y1 y2) (0 : Nat)) ((f3 x0 x1 x2) (2 : Nat)) ((f3 y0 y1 y2) (2 : Nat)) x y) yy_X12_turn wm_X12_222 rfl rfl (Nat.le_of_ble_eq_true rfl) (by decide) (by decide) ⟨by decide, by decide⟩ dX12_isBeside_69 ?_
  refine k_topv (vL (turnM ((f3 x0 x1 x2) (0 : Nat)) ((f3 y0 y1 y2) (0 : Nat)) ((f3 x0 x1 x2) (2 : Nat)) ((f3 y0 y1 y2) (2 : Nat)) x y)) rfl ?_
  refine k_topL (fun it eit => ?_)
  refine k_lstore hC [(10, vL it), (8, vL ow), (0, .ref (kad G 133)), (1, vI 0), (2, vI 2), (3, vI 1), (4, vL x), (6, vL y)] dX12_isBeside_72 (by decide) rfl ?_
  have hit := turnM_b (fx := x0) (fy := y0) (tx := x2) (ty := y2) (x := x) (y := y) (by omega) (by omega) (by omega) (by omega) (by omega) (by omega)
  have eit2 : it = turnM x0 y0 x2 y2 x y := eit
  rw [← eit2] at hit
  refine k_lload hC dX12_isBeside_74 1 rfl ?_
  refine k_lconst (x := 0) hC dX12_isBeside_76 (by decide) ?_
  refine k_lcmp_eq hC 115 dX12_isBeside_77 dX12_isBeside_78 rfl (by omega) (by omega) (fun c_77 => ?_) (fun c_77 => ?_)
  · refine k_iconst hC dX12_isBeside_115 ?_
    refine k_goto hC 120 dX12_isBeside_116 rfl ?_
    subst hQ
    exact k_zret hC (by omega) hr ⟨by decide, by decide⟩ (⟨congrArg (fun z => some (vI z)) (show (selI (besQ x0 y0 x2 y2 x1 y1 x y) 1 0 : Int) = 1 from by refine selI_1 ?_; unfold besQ besP; rw [← eow2, ← eit2]; omega), rfl, rfl⟩) dX12_isBeside_120
  · refine k_lload hC dX12_isBeside_81 0 rfl ?_
    refine k_lconst (x := 0) hC dX12_isBeside_83 (by decide) ?_
    refine k_lcmp_eq hC 115 dX12_isBeside_84 dX12_isBeside_85 rfl (by omega) (by omega) (fun c_84 => ?_) (fun c_84 => ?_)
    · refine k_iconst hC dX12_isBeside_115 ?_
      refine k_goto hC 120 dX12_isBeside_116 rfl ?_
      subst hQ
      exact k_zret hC (by omega) hr ⟨by decide, by decide⟩ (⟨congrArg (fun z => some (vI z)) (show (selI (besQ x0 y0 x2 y2 x1 y1 x y) 1 0 : Int) = 1 from by refine selI_1 ?_; unfold besQ besP; rw [← eow2, ← eit2]; omega), rfl, rfl⟩) dX12_isBeside_120
    · refine k_lload hC dX12_isBeside_88 1 rfl ?_
      refine k_lconst (x := 0) hC dX12_isBeside_90 (by decide) ?_
      refine k_lcmp_le hC 99 dX12_isBeside_91 dX12_isBeside_92 rfl (by omega) (by omega) (fun c_91 => ?_) (fun c_91 => ?_)
      · refine k_iconst hC dX12_isBeside_99 ?_
        refine k_lload hC dX12_isBeside_100 0 rfl ?_
        refine k_lconst (x := 0) hC dX12_isBeside_102 (by decide) ?_
        refine k_lcmp_le hC 111 dX12_isBeside_103 dX12_isBeside_104 rfl (by omega) (by omega) (fun c_103 => ?_) (fun c_103 => ?_)
        · refine k_iconst hC dX12_isBeside_111 ?_
          refine k_icmp_ne hC 119 dX12_isBeside_112 rfl (by omega) (by omega) (fun c_112 => absurd c_112 (by omega)) (fun c_112 => ?_)
          refine k_iconst hC dX12_isBeside_115 ?_
          refine k_goto hC 120 dX12_isBeside_116 rfl ?_
          subst hQ
          exact k_zret hC (by omega) hr ⟨by decide, by decide⟩ (⟨congrArg (fun z => some (vI z)) (show (selI (besQ x0 y0 x2 y2 x1 y1 x y) 1 0 : Int) = 1 from by refine selI_1 ?_; unfold besQ besP; rw [← eow2, ← eit2]; omega), rfl, rfl⟩) dX12_isBeside_120
        · refine k_iconst hC dX12_isBeside_107 ?_
          refine k_goto hC 112 dX12_isBeside_108 rfl ?_
          refine k_icmp_ne hC 119 dX12_isBeside_112 rfl (by omega) (by omega) (fun c_112 => ?_) (fun c_112 => absurd c_112 (by omega))
          refine k_iconst hC dX12_isBeside_119 ?_
          subst hQ
          exact k_zret hC (by omega) hr ⟨by decide, by decide⟩ (⟨congrArg (fun z => some (vI z)) (show (selI (besQ x0 y0 x2 y2 x1 y1 x y) 1 0 : Int) = 0 from by refine selI_0 ?_; unfold besQ besP; rw [← eow2, ← eit2]; omega), rfl, rfl⟩) dX12_isBeside_120
      · refine k_iconst hC dX12_isBeside_95 ?_
        refine k_goto hC 100 dX12_isBeside_96 rfl ?_
        refine k_lload hC dX12_isBeside_100 0 rfl ?_
        refine k_lconst (x := 0) hC dX12_isBeside_102 (by decide) ?_
        refine k_lcmp_le hC 111 dX12_isBeside_103 dX12_isBeside_104 rfl (by omega) (by omega) (fun c_103 => ?_) (fun c_103 => ?_)
        · refine k_iconst hC dX12_isBeside_111 ?_
          refine k_icmp_ne hC 119 dX12_isBeside_112 rfl (by omega) (by omega) (fun c_112 => ?_) (fun c_112 => absurd c_112 (by omega))
          refine k_iconst hC dX12_isBeside_119 ?_
          subst hQ
          exact k_zret hC (by omega) hr ⟨by decide, by decide⟩ (⟨congrArg (fun z => some (vI z)) (show (selI (besQ x0 y0 x2 y2 x1 y1 x y) 1 0 : Int) = 0 from by refine selI_0 ?_; unfold besQ besP; rw [← eow2, ← eit2]; omega), rfl, rfl⟩) dX12_isBeside_120
        · refine k_iconst hC dX12_isBeside_107 ?_
          refine k_goto hC 112 dX12_isBeside_108 rfl ?_
          refine k_icmp_ne hC 119 dX12_isBeside_112 rfl (by omega) (by omega) (fun c_112 => absurd c_112 (by omega)) (fun c_112 => ?_)
          refine k_iconst hC dX12_isBeside_115 ?_
          refine k_goto hC 120 dX12_isBeside_116 rfl ?_
          subst hQ
          exact k_zret hC (by omega) hr ⟨by decide, by decide⟩ (⟨congrArg (fun z => some (vI z)) (show (selI (besQ x0 y0 x2 y2 x1 y1 x y) 1 0 : Int) = 1 from by refine selI_1 ?_; unfold besQ besP; rw [← eow2, ← eit2]; omega), rfl, rfl⟩) dX12_isBeside_120

set_option maxRecDepth 100000 in
set_option maxHeartbeats 4000000 in
theorem c_X12_isBeside120 (l : Launch) (hls : l.stackTraces = false) (G : kG) (hN : kN G = 150) (w : Nat → va_E) (fl : va_W) (u : Nat → Int) (x0 y0 x1 y1 x2 y2 x y : Int) (hx0 : -1000000 ≤ x0 ∧ x0 ≤ 1000000) (hy0 : -1000000 ≤ y0 ∧ y0 ≤ 1000000) (hx1 : -1000000 ≤ x1 ∧ x1 ≤ 1000000) (hy1 : -1000000 ≤ y1 ∧ y1 ≤ 1000000) (hx2 : -1000000 ≤ x2 ∧ x2 ≤ 1000000) (hy2 : -1000000 ≤ y2 ∧ y2 ≤ 1000000) (hx : -1000000 ≤ x ∧ x ≤ 1000000) (hy : -1000000 ≤ y ∧ y ≤ 1000000) (hm : w 133 = mdO G u) (hHt : kHts G w (f3 x0 x1 x2) (f3 y0 y1 y2)) : KM l G yX12_isBeside cX12_isBeside 12 (some (FieldType.boolean)) 1 0 0 [.ref (kad G 133), vI 1, vI 2, vI 0, vL x, vL y] w fl (kPure (vI (selI (besQ x1 y1 x2 y2 x0 y0 x y) 1 0)) w fl) := by
  refine KM_of2 hls (by decide +kernel) rfl (lv0 := [(0, .ref (kad G 133)), (1, vI 1), (2, vI 2), (3, vI 0), (4, vL x), (6, vL y)]) rfl (Nat.le_of_ble_eq_true rfl) (fun p e R s m args below meth c Q hC hr hQ => ?_)
  refine k_aload_n hC dX12_isBeside_0 rfl 0 rfl ?_
  refine k_get hC fd_X12_31 (kl hN (by decide)) hm rfl dX12_isBeside_1 ?_
  refine k_iload_n hC dX12_isBeside_4 rfl 1 rfl ?_
  refine k_lald hC (kl hN (by decide)) hHt.1 (by omega) (by decide) dX12_isBeside_5 ?_
  refine k_topv (vL ((f3 x0 x1 x2) (1 : Nat))) rfl ?_
  refine k_aload_n hC dX12_isBeside_6 rfl 0 rfl ?_
  refine k_get hC fd_X12_34 (kl hN (by decide)) hm rfl dX12_isBeside_7 ?_
  refine k_iload_n hC dX12_isBeside_10 rfl 1 rfl ?_
  refine k_lald hC (kl hN (by decide)) hHt.2 (by omega) (by decide) dX12_isBeside_11 ?_
  refine k_topv (vL ((f3 y0 y1 y2) (1 : Nat))) rfl ?_
  refine k_aload_n hC dX12_isBeside_12 rfl 0 rfl ?_
  refine k_get hC fd_X12_31 (kl hN (by decide)) hm rfl dX12_isBeside_13 ?_
  refine k_iload_n hC dX12_isBeside_16 rfl 2 rfl ?_
  refine k_lald hC (kl hN (by decide)) hHt.1 (by omega) (by decide) dX12_isBeside_17 ?_
  refine k_topv (vL ((f3 x0 x1 x2) (2 : Nat))) rfl ?_
  refine k_aload_n hC dX12_isBeside_18 rfl 0 rfl ?_
  refine k_get hC fd_X12_34 (kl hN (by decide)) hm rfl dX12_isBeside_19 ?_
  refine k_iload_n hC dX12_isBeside_22 rfl 2 rfl ?_
  refine k_lald hC (kl hN (by decide)) hHt.2 (by omega) (by decide) dX12_isBeside_23 ?_
  refine k_topv (vL ((f3 y0 y1 y2) (2 : Nat))) rfl ?_
  refine k_aload_n hC dX12_isBeside_24 rfl 0 rfl ?_
  refine k_get hC fd_X12_31 (kl hN (by decide)) hm rfl dX12_isBeside_25 ?_
  refine k_iload_n hC dX12_isBeside_28 rfl 3 rfl ?_
  refine k_lald hC (kl hN (by decide)) hHt.1 (by omega) (by decide) dX12_isBeside_29 ?_
  refine k_topv (vL ((f3 x0 x1 x2) (0 : Nat))) rfl ?_
  refine k_aload_n hC dX12_isBeside_30 rfl 0 rfl ?_
  refine k_get hC fd_X12_34 (kl hN (by decide)) hm rfl dX12_isBeside_31 ?_
  refine k_iload_n hC dX12_isBeside_34 rfl 3 rfl ?_
  refine k_lald hC (kl hN (by decide)) hHt.2 (by omega) (by decide) dX12_isBeside_35 ?_
  refine k_topv (vL ((f3 y0 y1 y2) (0 : Nat))) rfl ?_
  refine k_pureS hC (c_X12_turn l hls G hN w fl ((f3 x0 x1 x2) (1 : Nat)) ((f3 y0 y1 y2) (1 : Nat)) ((f3 x0 x1 x2) (2 : Nat)) ((f3 y0 y1 y2) (2 : Nat)) ((f3 x0 x1 x2) (0 : Nat)) ((f3 y0 y1 y2) (0 : Nat))) yy_X12_turn wm_X12_222 rfl rfl (Nat.le_of_ble_eq_true rfl) (by decide) (by decide) ⟨by decide, by decide⟩ dX12_isBeside_36 ?_
  refine k_topv (vL (turnM ((f3 x0 x1 x2) (1 : Nat)) ((f3 y0 y1 y2) (1 : Nat)) ((f3 x0 x1 x2) (2 : Nat)) ((f3 y0 y1 y2) (2 : Nat)) ((f3 x0 x1 x2) (0 : Nat)) ((f3 y0 y1 y2) (0 : Nat)))) rfl ?_
  refine k_topL (fun ow eow => ?_)
  refine k_lstore hC [(8, vL ow), (0, .ref (kad G 133)), (1, vI 1), (2, vI 2), (3, vI 0), (4, vL x), (6, vL y)] dX12_isBeside_39 (by decide) rfl ?_
  have how := turnM_b (fx := x1) (fy := y1) (tx := x2) (ty := y2) (x := x0) (y := y0) (by omega) (by omega) (by omega) (by omega) (by omega) (by omega)
  have eow2 : ow = turnM x1 y1 x2 y2 x0 y0 := eow
  rw [← eow2] at how
  refine k_aload_n hC dX12_isBeside_41 rfl 1 rfl ?_
  refine k_get hC fd_X12_31 (kl hN (by decide)) hm rfl dX12_isBeside_42 ?_
  refine k_iload_n hC dX12_isBeside_45 rfl 2 rfl ?_
  refine k_lald hC (kl hN (by decide)) hHt.1 (by omega) (by decide) dX12_isBeside_46 ?_
  refine k_topv (vL ((f3 x0 x1 x2) (1 : Nat))) rfl ?_
  refine k_aload_n hC dX12_isBeside_47 rfl 1 rfl ?_
  refine k_get hC fd_X12_34 (kl hN (by decide)) hm rfl dX12_isBeside_48 ?_
  refine k_iload_n hC dX12_isBeside_51 rfl 2 rfl ?_
  refine k_lald hC (kl hN (by decide)) hHt.2 (by omega) (by decide) dX12_isBeside_52 ?_
  refine k_topv (vL ((f3 y0 y1 y2) (1 : Nat))) rfl ?_
  refine k_aload_n hC dX12_isBeside_53 rfl 1 rfl ?_
  refine k_get hC fd_X12_31 (kl hN (by decide)) hm rfl dX12_isBeside_54 ?_
  refine k_iload_n hC dX12_isBeside_57 rfl 3 rfl ?_
  refine k_lald hC (kl hN (by decide)) hHt.1 (by omega) (by decide) dX12_isBeside_58 ?_
  refine k_topv (vL ((f3 x0 x1 x2) (2 : Nat))) rfl ?_
  refine k_aload_n hC dX12_isBeside_59 rfl 1 rfl ?_
  refine k_get hC fd_X12_34 (kl hN (by decide)) hm rfl dX12_isBeside_60 ?_
  refine k_iload_n hC dX12_isBeside_63 rfl 3 rfl ?_
  refine k_lald hC (kl hN (by decide)) hHt.2 (by omega) (by decide) dX12_isBeside_64 ?_
  refine k_topv (vL ((f3 y0 y1 y2) (2 : Nat))) rfl ?_
  refine k_lload hC dX12_isBeside_65 5 rfl ?_
  refine k_lload hC dX12_isBeside_67 6 rfl ?_
  refine k_pureS hC (c_X12_turn l hls G hN w fl ((f3 x0 x1 x2) (1 : Nat)) ((f3 y0 y1 y2) (1 : Nat)) ((f3 x0 x1 x2) (2 : Nat)) ((f3 y0 y1 y2) (2 : Nat)) x y) yy_X12_turn wm_X12_222 rfl rfl (Nat.le_of_ble_eq_true rfl) (by decide) (by decide) ⟨by decide, by decide⟩ dX12_isBeside_69 ?_
  refine k_topv (vL (turnM ((f3 x0 x1 x2) (1 : Nat)) ((f3 y0 y1 y2) (1 : Nat)) ((f3 x0 x1 x2) (2 : Nat)) ((f3 y0 y1 y2) (2 : Nat)) x y)) rfl ?_
  refine k_topL (fun it eit => ?_)
  refine k_lstore hC [(10, vL it), (8, vL ow), (0, .ref (kad G 133)), (1, vI 1), (2, vI 2), (3, vI 0), (4, vL x), (6, vL y)] dX12_isBeside_72 (by decide) rfl ?_
  have hit := turnM_b (fx := x1) (fy := y1) (tx := x2) (ty := y2) (x := x) (y := y) (by omega) (by omega) (by omega) (by omega) (by omega) (by omega)
  have eit2 : it = turnM x1 y1 x2 y2 x y := eit
  rw [← eit2] at hit
  refine k_lload hC dX12_isBeside_74 1 rfl ?_
  refine k_lconst (x := 0) hC dX12_isBeside_76 (by decide) ?_
  refine k_lcmp_eq hC 115 dX12_isBeside_77 dX12_isBeside_78 rfl (by omega) (by omega) (fun c_77 => ?_) (fun c_77 => ?_)
  · refine k_iconst hC dX12_isBeside_115 ?_
    refine k_goto hC 120 dX12_isBeside_116 rfl ?_
    subst hQ
    exact k_zret hC (by omega) hr ⟨by decide, by decide⟩ (⟨congrArg (fun z => some (vI z)) (show (selI (besQ x1 y1 x2 y2 x0 y0 x y) 1 0 : Int) = 1 from by refine selI_1 ?_; unfold besQ besP; rw [← eow2, ← eit2]; omega), rfl, rfl⟩) dX12_isBeside_120
  · refine k_lload hC dX12_isBeside_81 0 rfl ?_
    refine k_lconst (x := 0) hC dX12_isBeside_83 (by decide) ?_
    refine k_lcmp_eq hC 115 dX12_isBeside_84 dX12_isBeside_85 rfl (by omega) (by omega) (fun c_84 => ?_) (fun c_84 => ?_)
    · refine k_iconst hC dX12_isBeside_115 ?_
      refine k_goto hC 120 dX12_isBeside_116 rfl ?_
      subst hQ
      exact k_zret hC (by omega) hr ⟨by decide, by decide⟩ (⟨congrArg (fun z => some (vI z)) (show (selI (besQ x1 y1 x2 y2 x0 y0 x y) 1 0 : Int) = 1 from by refine selI_1 ?_; unfold besQ besP; rw [← eow2, ← eit2]; omega), rfl, rfl⟩) dX12_isBeside_120
    · refine k_lload hC dX12_isBeside_88 1 rfl ?_
      refine k_lconst (x := 0) hC dX12_isBeside_90 (by decide) ?_
      refine k_lcmp_le hC 99 dX12_isBeside_91 dX12_isBeside_92 rfl (by omega) (by omega) (fun c_91 => ?_) (fun c_91 => ?_)
      · refine k_iconst hC dX12_isBeside_99 ?_
        refine k_lload hC dX12_isBeside_100 0 rfl ?_
        refine k_lconst (x := 0) hC dX12_isBeside_102 (by decide) ?_
        refine k_lcmp_le hC 111 dX12_isBeside_103 dX12_isBeside_104 rfl (by omega) (by omega) (fun c_103 => ?_) (fun c_103 => ?_)
        · refine k_iconst hC dX12_isBeside_111 ?_
          refine k_icmp_ne hC 119 dX12_isBeside_112 rfl (by omega) (by omega) (fun c_112 => absurd c_112 (by omega)) (fun c_112 => ?_)
          refine k_iconst hC dX12_isBeside_115 ?_
          refine k_goto hC 120 dX12_isBeside_116 rfl ?_
          subst hQ
          exact k_zret hC (by omega) hr ⟨by decide, by decide⟩ (⟨congrArg (fun z => some (vI z)) (show (selI (besQ x1 y1 x2 y2 x0 y0 x y) 1 0 : Int) = 1 from by refine selI_1 ?_; unfold besQ besP; rw [← eow2, ← eit2]; omega), rfl, rfl⟩) dX12_isBeside_120
        · refine k_iconst hC dX12_isBeside_107 ?_
          refine k_goto hC 112 dX12_isBeside_108 rfl ?_
          refine k_icmp_ne hC 119 dX12_isBeside_112 rfl (by omega) (by omega) (fun c_112 => ?_) (fun c_112 => absurd c_112 (by omega))
          refine k_iconst hC dX12_isBeside_119 ?_
          subst hQ
          exact k_zret hC (by omega) hr ⟨by decide, by decide⟩ (⟨congrArg (fun z => some (vI z)) (show (selI (besQ x1 y1 x2 y2 x0 y0 x y) 1 0 : Int) = 0 from by refine selI_0 ?_; unfold besQ besP; rw [← eow2, ← eit2]; omega), rfl, rfl⟩) dX12_isBeside_120
      · refine k_iconst hC dX12_isBeside_95 ?_
        refine k_goto hC 100 dX12_isBeside_96 rfl ?_
        refine k_lload hC dX12_isBeside_100 0 rfl ?_
        refine k_lconst (x := 0) hC dX12_isBeside_102 (by decide) ?_
        refine k_lcmp_le hC 111 dX12_isBeside_103 dX12_isBeside_104 rfl (by omega) (by omega) (fun c_103 => ?_) (fun c_103 => ?_)
        · refine k_iconst hC dX12_isBeside_111 ?_
          refine k_icmp_ne hC 119 dX12_isBeside_112 rfl (by omega) (by omega) (fun c_112 => ?_) (fun c_112 => absurd c_112 (by omega))
          refine k_iconst hC dX12_isBeside_119 ?_
          subst hQ
          exact k_zret hC (by omega) hr ⟨by decide, by decide⟩ (⟨congrArg (fun z => some (vI z)) (show (selI (besQ x1 y1 x2 y2 x0 y0 x y) 1 0 : Int) = 0 from by refine selI_0 ?_; unfold besQ besP; rw [← eow2, ← eit2]; omega), rfl, rfl⟩) dX12_isBeside_120
        · refine k_iconst hC dX12_isBeside_107 ?_
          refine k_goto hC 112 dX12_isBeside_108 rfl ?_
          refine k_icmp_ne hC 119 dX12_isBeside_112 rfl (by omega) (by omega) (fun c_112 => absurd c_112 (by omega)) (fun c_112 => ?_)
          refine k_iconst hC dX12_isBeside_115 ?_
          refine k_goto hC 120 dX12_isBeside_116 rfl ?_
          subst hQ
          exact k_zret hC (by omega) hr ⟨by decide, by decide⟩ (⟨congrArg (fun z => some (vI z)) (show (selI (besQ x1 y1 x2 y2 x0 y0 x y) 1 0 : Int) = 1 from by refine selI_1 ?_; unfold besQ besP; rw [← eow2, ← eit2]; omega), rfl, rfl⟩) dX12_isBeside_120

set_option maxRecDepth 100000 in
set_option maxHeartbeats 4000000 in
theorem c_X12_layFix (l : Launch) (hls : l.stackTraces = false) (G : kG) (hN : kN G = 150) (w : Nat → va_E) (fl : va_W) (u g : Nat → Int) (ls lc lo : Nat → Int) (T : Int) (hI : Inv g) (ht : 0 ≤ T ∧ T ≤ 5000) (hm : w 133 = mdO G u) (hn : w 134 = lA G 93 g) (hLs : kLns G w ls lc lo) : KM l G yX12_layFix cX12_layFix 17 (some (FieldType.boolean)) 14 0 0 [.ref (kad G 133), vL T] w fl (kMut (vI (fixI g)) fl (fun w1 => (∃ ls1 lc1 lo1 : Nat → Int, kLns G w1 ls1 lc1 lo1 ∧ ∀ k : Nat, (k : Int) < g 2 → mAt g T k ls1 lc1 lo1) ∧ (∃ fe fn : Int, w1 133 = mdO G (kup (kup u 12 fe) 13 fn) ∧ (fixP g → fe = fixE g T ∧ fn = fixN g T)) ∧ ∀ j, (j ≠ 133 ∧ (j < 138 ∨ 140 < j)) → w1 j = w j)) := by
  refine KM_of2 hls (by decide +kernel) rfl (lv0 := [(0, .ref (kad G 133)), (1, vL T)]) rfl (Nat.le_of_ble_eq_true rfl) (fun p e R s m args below meth c Q hC hr hQ => ?_)
  have h0 := hI.c
  refine k_aload_n hC dX12_layFix_0 rfl 0 rfl ?_
  refine k_lload_n hC dX12_layFix_1 rfl 1 rfl ?_
  refine k_muvV hC (c_X12_carryAll l hls G hN w fl u g ls lc lo T hI (by omega) hm hn hLs) yy_X12_carryAll wm_X12_228 (kl hN (by decide)) hm rfl rfl rfl rfl (Nat.le_of_ble_eq_true rfl) (by decide) (by decide) ⟨by decide, by decide⟩ dX12_layFix_2 (fun w1 hp1 => ?_)
  obtain ⟨⟨ls1, lc1, lo1, hl1, hall1⟩, hf1⟩ := hp1
  have hall := hall1
  refine k_lconst (x := 0) hC dX12_layFix_5 (by decide) ?_
  refine k_lstore_n hC [(3, vL 0), (0, .ref (kad G 133)), (1, vL T)] dX12_layFix_6 rfl (by decide) rfl ?_
  refine k_lconst (x := 0) hC dX12_layFix_7 (by decide) ?_
  refine k_lstore hC [(5, vL 0), (3, vL 0), (0, .ref (kad G 133)), (1, vL T)] dX12_layFix_8 (by decide) rfl ?_
  refine k_lconst (x := 0) hC dX12_layFix_10 (by decide) ?_
  refine k_lstore hC [(7, vL 0), (5, vL 0), (3, vL 0), (0, .ref (kad G 133)), (1, vL T)] dX12_layFix_11 (by decide) rfl ?_
  refine k_lconst (x := 0) hC dX12_layFix_13 (by decide) ?_
  refine k_lstore hC [(9, vL 0), (7, vL 0), (5, vL 0), (3, vL 0), (0, .ref (kad G 133)), (1, vL T)] dX12_layFix_14 (by decide) rfl ?_
  refine k_lconst (x := 0) hC dX12_layFix_16 (by decide) ?_
  refine k_lstore hC [(11, vL 0), (9, vL 0), (7, vL 0), (5, vL 0), (3, vL 0), (0, .ref (kad G 133)), (1, vL T)] dX12_layFix_17 (by decide) rfl ?_
  refine k_iconst hC dX12_layFix_19 ?_
  refine k_istore hC [(13, vI 0), (11, vL 0), (9, vL 0), (7, vL 0), (5, vL 0), (3, vL 0), (0, .ref (kad G 133)), (1, vL T)] dX12_layFix_20 (by decide) rfl ?_
  have loop : ∀ (n : Nat) (k : Nat) (va : Int) (vb : Int) (vc : Int) (vp : Int) (vq : Int), ((g 2).toNat < n + k) → ((k : Int) ≤ g 2) → (va = fxA g k) → (vb = fxB g k) → (vc = fxC g k) → (vp = fxP g T k) → (vq = fxQ g T k) → KW p l e R s m args below meth c 17 G Q w1 fl 0 0 22 [(13, vI (k : Int)), (11, vL vq), (9, vL vp), (7, vL vc), (5, vL vb), (3, vL va), (0, .ref (kad G 133)), (1, vL T)] [] := by
    intro n
    induction n with
    | zero =>
      intro k va vb vc vp vq hn_ hk eva evb evc evp evq
      exact absurd hn_ (by omega)
    | succ n ih =>
      intro k va vb vc vp vq hn_ hk eva evb evc evp evq
      have hx1 := fx_b g k (by omega)
      have hx2 := fxPQ_b hI ht k (by omega) hk
      rw [← eva, ← evb, ← evc] at hx1
      rw [← evp, ← evq] at hx2
      refine k_iload hC dX12_layFix_22 0 rfl ?_
      refine k_i2l hC dX12_layFix_24 (by omega) ?_
      refine k_aload_n hC dX12_layFix_25 rfl 6 rfl ?_
      have h_2 : w1 133 = .inr (12, [.ref (kad G 134), .ref (kad G 135), .ref (kad G 136), .ref (kad G 137), vI (u 4), vI (u 5), vI (u 6), .ref (kad G 138), .ref (kad G 139), .ref (kad G 140), .ref (kad G 141), .ref (kad G 142), vL (u 12), vL (u 13), .ref (kad G 143), vI (u 15), .ref (kad G 144), vI (u 17), vI (u 18), vI (u 19), vI (u 20), vI (u 21), vI (u 22), vI (u 23), vI (u 24), vI (u 25), .ref (kad G 145), .ref (kad G 146), .ref (kad G 147), vI (u 29)]) := (hf1 133 (by omega)).trans hm
      refine k_get hC fd_X12_9 (kl hN (by decide)) h_2 rfl dX12_layFix_26 ?_
      refine k_iconst hC dX12_layFix_29 ?_
      have h_3 : w1 134 = lA G 93 g := (hf1 134 (by omega)).trans hn
      refine k_lald hC (kl hN (by decide)) h_3 (by omega) (by decide) dX12_layFix_30 ?_
      refine k_topv (vL (g 2)) rfl ?_
      refine k_lcmp_ge hC 149 dX12_layFix_31 dX12_layFix_32 rfl (by omega) (by omega) (fun c_31 => ?_) (fun c_31 => ?_)
      · have ek : (g 2).toNat = k := by omega
        have hy1 := mul_le_abs (a := va) (b := vc) (A := 12000000) (B := 12000000) (by omega) (by omega)
        have hy2 := mul_le_abs (a := vb) (b := vb) (A := 12000000) (B := 12000000) (by omega) (by omega)
        have hy3 := mul_le_abs (a := vp) (b := vc) (A := 52000000) (B := 12000000) (by omega) (by omega)
        have hy4 := mul_le_abs (a := vq) (b := vb) (A := 52000000) (B := 12000000) (by omega) (by omega)
        have hy5 := mul_le_abs (a := vq) (b := va) (A := 52000000) (B := 12000000) (by omega) (by omega)
        have hy6 := mul_le_abs (a := vp) (b := vb) (A := 52000000) (B := 12000000) (by omega) (by omega)
        refine k_lload_n hC dX12_layFix_149 rfl 5 rfl ?_
        refine k_lload hC dX12_layFix_150 3 rfl ?_
        refine k_lmul hC dX12_layFix_152 ?_
        refine k_lload hC dX12_layFix_153 4 rfl ?_
        refine k_lload hC dX12_layFix_155 4 rfl ?_
        refine k_lmul hC dX12_layFix_157 ?_
        refine k_lsub hC dX12_layFix_158 ?_
        refine k_topL (fun de ede => ?_)
        refine k_lstore hC [(13, vL de), (11, vL vq), (9, vL vp), (7, vL vc), (5, vL vb), (3, vL va), (0, .ref (kad G 133)), (1, vL T)] dX12_layFix_159 (by decide) rfl ?_
        have ede2 : de = fixD g := by unfold fixD; rw [ek, ← eva, ← evb, ← evc]; exact ede
        refine k_lload hC dX12_layFix_161 0 rfl ?_
        refine k_ldc2 hC (x := 100000000000) (v := 100000000000) dX12_layFix_163 (by decide) wk_X12_207 ?_
        refine k_lcmp_ge hC 172 dX12_layFix_166 dX12_layFix_167 rfl (by omega) (by omega) (fun c_166 => ?_) (fun c_166 => ?_)
        · refine k_lload hC dX12_layFix_172 0 rfl ?_
          refine k_ldc2 hC (x := 1000) (v := 1000) dX12_layFix_174 (by decide) wk_X12_232 ?_
          refine k_ldiv hC dX12_layFix_177 (by omega) (by omega) ?_
          refine k_topL (fun q_4 eq_4 => ?_)
          have eq_4 : q_4 = (de) / (1000) := by rw [eq_4]; exact Int.tdiv_eq_ediv_of_nonneg (by omega)
          refine k_topL (fun by0 eby0 => ?_)
          refine k_lstore hC [(15, vL by0), (13, vL de), (11, vL vq), (9, vL vp), (7, vL vc), (5, vL vb), (3, vL va), (0, .ref (kad G 133)), (1, vL T)] dX12_layFix_178 (by decide) rfl ?_
          have eby2 : by0 = fixD g / 1000 := by rw [eby0, eq_4, ede2]
          have hfd1 := fdiv_abs (a := (vp * vc - vq * vb) * 1000) (b := by0) 2000000000000000000 (by omega) (by decide) (by omega)
          have hfd2 := fdiv_abs (a := (vq * va - vp * vb) * 1000) (b := by0) 2000000000000000000 (by omega) (by decide) (by omega)
          refine k_aload_n hC dX12_layFix_180 rfl 7 rfl ?_
          refine k_lload hC dX12_layFix_181 3 rfl ?_
          refine k_lload hC dX12_layFix_183 4 rfl ?_
          refine k_lmul hC dX12_layFix_185 ?_
          refine k_lload hC dX12_layFix_186 2 rfl ?_
          refine k_lload hC dX12_layFix_188 5 rfl ?_
          refine k_lmul hC dX12_layFix_190 ?_
          refine k_lsub hC dX12_layFix_191 ?_
          refine k_ldc2 hC (x := 1000) (v := 1000) dX12_layFix_192 (by decide) wk_X12_232 ?_
          refine k_lmul hC dX12_layFix_195 ?_
          refine k_lload hC dX12_layFix_196 0 rfl ?_
          refine k_pureS hC (c_X12_floor l hls G hN w1 fl (((vp * vc) - (vq * vb)) * 1000) by0 (by omega) (by omega)) yy_X12_floor wm_X12_92 rfl rfl (Nat.le_of_ble_eq_true rfl) (by decide) (by decide) ⟨by decide, by decide⟩ dX12_layFix_198 ?_
          refine k_ldc2 hC (x := 1000000) (v := 1000000) dX12_layFix_201 (by decide) wk_X12_113 ?_
          refine k_pureS hC (c_X12_bounded l hls G hN w1 fl ((((vp * vc) - (vq * vb)) * 1000).fdiv by0) 1000000 (by omega) (by omega)) yy_X12_bounded wm_X12_176 rfl rfl (Nat.le_of_ble_eq_true rfl) (by decide) (by decide) ⟨by decide, by decide⟩ dX12_layFix_204 ?_
          refine k_topv (vL (limM ((((vp * vc) - (vq * vb)) * 1000).fdiv by0))) rfl ?_
          have hb_5 := limM_b ((((vp * vc) - (vq * vb)) * 1000).fdiv by0)
          refine k_put hC fd_X12_234 (kl hN (by decide)) h_2 [.ref (kad G 134), .ref (kad G 135), .ref (kad G 136), .ref (kad G 137), vI (u 4), vI (u 5), vI (u 6), .ref (kad G 138), .ref (kad G 139), .ref (kad G 140), .ref (kad G 141), .ref (kad G 142), vL (limM ((((vp * vc) - (vq * vb)) * 1000).fdiv by0)), vL (u 13), .ref (kad G 143), vI (u 15), .ref (kad G 144), vI (u 17), vI (u 18), vI (u 19), vI (u 20), vI (u 21), vI (u 22), vI (u 23), vI (u 24), vI (u 25), .ref (kad G 145), .ref (kad G 146), .ref (kad G 147), vI (u 29)] rfl (Nat.le_of_ble_eq_true rfl) rfl rfl dX12_layFix_207 (fun w6 hw6 hf6 => ?_)
          refine k_aload_n hC dX12_layFix_210 rfl 7 rfl ?_
          refine k_lload hC dX12_layFix_211 2 rfl ?_
          refine k_lload_n hC dX12_layFix_213 rfl 6 rfl ?_
          refine k_lmul hC dX12_layFix_214 ?_
          refine k_lload hC dX12_layFix_215 3 rfl ?_
          refine k_lload hC dX12_layFix_217 5 rfl ?_
          refine k_lmul hC dX12_layFix_219 ?_
          refine k_lsub hC dX12_layFix_220 ?_
          refine k_ldc2 hC (x := 1000) (v := 1000) dX12_layFix_221 (by decide) wk_X12_232 ?_
          refine k_lmul hC dX12_layFix_224 ?_
          refine k_lload hC dX12_layFix_225 0 rfl ?_
          refine k_pureS hC (c_X12_floor l hls G hN w6 fl (((vq * va) - (vp * vb)) * 1000) by0 (by omega) (by omega)) yy_X12_floor wm_X12_92 rfl rfl (Nat.le_of_ble_eq_true rfl) (by decide) (by decide) ⟨by decide, by decide⟩ dX12_layFix_227 ?_
          refine k_ldc2 hC (x := 1000000) (v := 1000000) dX12_layFix_230 (by decide) wk_X12_113 ?_
          refine k_pureS hC (c_X12_bounded l hls G hN w6 fl ((((vq * va) - (vp * vb)) * 1000).fdiv by0) 1000000 (by omega) (by omega)) yy_X12_bounded wm_X12_176 rfl rfl (Nat.le_of_ble_eq_true rfl) (by decide) (by decide) ⟨by decide, by decide⟩ dX12_layFix_233 ?_
          refine k_topv (vL (limM ((((vq * va) - (vp * vb)) * 1000).fdiv by0))) rfl ?_
          have hb_7 := limM_b ((((vq * va) - (vp * vb)) * 1000).fdiv by0)
          refine k_put hC fd_X12_238 (kl hN (by decide)) hw6 [.ref (kad G 134), .ref (kad G 135), .ref (kad G 136), .ref (kad G 137), vI (u 4), vI (u 5), vI (u 6), .ref (kad G 138), .ref (kad G 139), .ref (kad G 140), .ref (kad G 141), .ref (kad G 142), vL (limM ((((vp * vc) - (vq * vb)) * 1000).fdiv by0)), vL (limM ((((vq * va) - (vp * vb)) * 1000).fdiv by0)), .ref (kad G 143), vI (u 15), .ref (kad G 144), vI (u 17), vI (u 18), vI (u 19), vI (u 20), vI (u 21), vI (u 22), vI (u 23), vI (u 24), vI (u 25), .ref (kad G 145), .ref (kad G 146), .ref (kad G 147), vI (u 29)] rfl (Nat.le_of_ble_eq_true rfl) rfl rfl dX12_layFix_236 (fun w8 hw8 hf8 => ?_)
          refine k_iconst hC dX12_layFix_239 ?_
          have hB_9 : kLns G w8 ls1 lc1 lo1 := hl1.fr (fun j q1 q2 => (hf8 j (by omega)).trans (hf6 j (by omega)))
          subst hQ
          exact k_zret hC (by omega) hr ⟨by decide, by decide⟩ (⟨congrArg (fun z => some (vI z)) (fixI_1 (show fixP g from by unfold fixP; omega)), rfl, ⟨_, _, _, hB_9, hall⟩, ⟨limM ((((vp * vc) - (vq * vb)) * 1000).fdiv by0), limM ((((vq * va) - (vp * vb)) * 1000).fdiv by0), hw8, fun _ => ⟨by unfold fixE; rw [ek, ← evp, ← evq, ← evc, ← evb, ← eby2], by unfold fixN; rw [ek, ← evp, ← evq, ← eva, ← evb, ← eby2]⟩⟩, fun j hj => (hf8 j (by omega)).trans ((hf6 j (by omega)).trans (hf1 j (by omega)))⟩) dX12_layFix_240
        · refine k_iconst hC dX12_layFix_170 ?_
          subst hQ
          exact k_zret hC (by omega) hr ⟨by decide, by decide⟩ (⟨congrArg (fun z => some (vI z)) (fixI_0 (show ¬ fixP g from by unfold fixP; omega)), rfl, ⟨_, _, _, hl1, hall⟩, ⟨u 12, u 13, h_2, fun hq => absurd hq (by unfold fixP; omega)⟩, fun j hj => hf1 j (by omega)⟩) dX12_layFix_171
      · have hat := hall k (by omega)
        have hss := sinM_b (aziM g k)
        have hcc := cosM_b (aziM g k)
        have hoo := carM_b hI k (by omega) ht
        have hm0 := mul_le_abs (a := sinM (aziM g k)) (b := sinM (aziM g k)) (A := 1000000) (B := 1000000) (by omega) (by omega)
        have hm1 := mul_le_abs (a := sinM (aziM g k)) (b := cosM (aziM g k)) (A := 1000000) (B := 1000000) (by omega) (by omega)
        have hm2 := mul_le_abs (a := cosM (aziM g k)) (b := cosM (aziM g k)) (A := 1000000) (B := 1000000) (by omega) (by omega)
        have hm3 := mul_le_abs (a := carM g k T) (b := sinM (aziM g k)) (A := 4300000) (B := 1000000) (by omega) (by omega)
        have hm4 := mul_le_abs (a := carM g k T) (b := cosM (aziM g k)) (A := 4300000) (B := 1000000) (by omega) (by omega)
        refine k_lload_n hC dX12_layFix_35 rfl 5 rfl ?_
        refine k_aload_n hC dX12_layFix_36 rfl 6 rfl ?_
        refine k_get hC fd_X12_22 (kl hN (by decide)) h_2 rfl dX12_layFix_37 ?_
        refine k_iload hC dX12_layFix_40 0 rfl ?_
        refine k_lald hC (kl hN (by decide)) hl1.1 (by omega) (by decide) dX12_layFix_42 ?_
        refine k_topv (vL (ls1 k)) rfl ?_
        refine k_topv (vL (sinM (aziM g k))) (congrArg vL (by exact hat.1)) ?_
        refine k_aload_n hC dX12_layFix_43 rfl 6 rfl ?_
        refine k_get hC fd_X12_22 (kl hN (by decide)) h_2 rfl dX12_layFix_44 ?_
        refine k_iload hC dX12_layFix_47 0 rfl ?_
        refine k_lald hC (kl hN (by decide)) hl1.1 (by omega) (by decide) dX12_layFix_49 ?_
        refine k_topv (vL (ls1 k)) rfl ?_
        refine k_topv (vL (sinM (aziM g k))) (congrArg vL (by exact hat.1)) ?_
        refine k_pureS hC (c_X12_product l hls G hN w1 fl (sinM (aziM g k)) (sinM (aziM g k)) (by omega)) yy_X12_product wm_X12_120 rfl rfl (Nat.le_of_ble_eq_true rfl) (by decide) (by decide) ⟨by decide, by decide⟩ dX12_layFix_50 ?_
        refine k_ladd hC dX12_layFix_53 ?_
        refine k_topL (fun na ena => ?_)
        refine k_lstore_n hC [(3, vL na), (13, vI (k : Int)), (11, vL vq), (9, vL vp), (7, vL vc), (5, vL vb), (0, .ref (kad G 133)), (1, vL T)] dX12_layFix_54 rfl (by decide) rfl ?_
        refine k_lload hC dX12_layFix_55 5 rfl ?_
        refine k_aload_n hC dX12_layFix_57 rfl 6 rfl ?_
        refine k_get hC fd_X12_22 (kl hN (by decide)) h_2 rfl dX12_layFix_58 ?_
        refine k_iload hC dX12_layFix_61 1 rfl ?_
        refine k_lald hC (kl hN (by decide)) hl1.1 (by omega) (by decide) dX12_layFix_63 ?_
        refine k_topv (vL (ls1 k)) rfl ?_
        refine k_topv (vL (sinM (aziM g k))) (congrArg vL (by exact hat.1)) ?_
        refine k_aload_n hC dX12_layFix_64 rfl 6 rfl ?_
        refine k_get hC fd_X12_25 (kl hN (by decide)) h_2 rfl dX12_layFix_65 ?_
        refine k_iload hC dX12_layFix_68 1 rfl ?_
        refine k_lald hC (kl hN (by decide)) hl1.2.1 (by omega) (by decide) dX12_layFix_70 ?_
        refine k_topv (vL (lc1 k)) rfl ?_
        refine k_topv (vL (cosM (aziM g k))) (congrArg vL (by exact hat.2.1)) ?_
        refine k_pureS hC (c_X12_product l hls G hN w1 fl (sinM (aziM g k)) (cosM (aziM g k)) (by omega)) yy_X12_product wm_X12_120 rfl rfl (Nat.le_of_ble_eq_true rfl) (by decide) (by decide) ⟨by decide, by decide⟩ dX12_layFix_71 ?_
        refine k_ladd hC dX12_layFix_74 ?_
        refine k_topL (fun nb enb => ?_)
        refine k_lstore hC [(5, vL nb), (3, vL na), (13, vI (k : Int)), (11, vL vq), (9, vL vp), (7, vL vc), (0, .ref (kad G 133)), (1, vL T)] dX12_layFix_75 (by decide) rfl ?_
        refine k_lload hC dX12_layFix_77 5 rfl ?_
        refine k_aload_n hC dX12_layFix_79 rfl 6 rfl ?_
        refine k_get hC fd_X12_25 (kl hN (by decide)) h_2 rfl dX12_layFix_80 ?_
        refine k_iload hC dX12_layFix_83 2 rfl ?_
        refine k_lald hC (kl hN (by decide)) hl1.2.1 (by omega) (by decide) dX12_layFix_85 ?_
        refine k_topv (vL (lc1 k)) rfl ?_
        refine k_topv (vL (cosM (aziM g k))) (congrArg vL (by exact hat.2.1)) ?_
        refine k_aload_n hC dX12_layFix_86 rfl 6 rfl ?_
        refine k_get hC fd_X12_25 (kl hN (by decide)) h_2 rfl dX12_layFix_87 ?_
        refine k_iload hC dX12_layFix_90 2 rfl ?_
        refine k_lald hC (kl hN (by decide)) hl1.2.1 (by omega) (by decide) dX12_layFix_92 ?_
        refine k_topv (vL (lc1 k)) rfl ?_
        refine k_topv (vL (cosM (aziM g k))) (congrArg vL (by exact hat.2.1)) ?_
        refine k_pureS hC (c_X12_product l hls G hN w1 fl (cosM (aziM g k)) (cosM (aziM g k)) (by omega)) yy_X12_product wm_X12_120 rfl rfl (Nat.le_of_ble_eq_true rfl) (by decide) (by decide) ⟨by decide, by decide⟩ dX12_layFix_93 ?_
        refine k_ladd hC dX12_layFix_96 ?_
        refine k_topL (fun nc enc => ?_)
        refine k_lstore hC [(7, vL nc), (5, vL nb), (3, vL na), (13, vI (k : Int)), (11, vL vq), (9, vL vp), (0, .ref (kad G 133)), (1, vL T)] dX12_layFix_97 (by decide) rfl ?_
        refine k_lload hC dX12_layFix_99 5 rfl ?_
        refine k_aload_n hC dX12_layFix_101 rfl 6 rfl ?_
        refine k_get hC fd_X12_28 (kl hN (by decide)) h_2 rfl dX12_layFix_102 ?_
        refine k_iload hC dX12_layFix_105 3 rfl ?_
        refine k_lald hC (kl hN (by decide)) hl1.2.2 (by omega) (by decide) dX12_layFix_107 ?_
        refine k_topv (vL (lo1 k)) rfl ?_
        refine k_topv (vL (carM g k T)) (congrArg vL (by exact hat.2.2)) ?_
        refine k_aload_n hC dX12_layFix_108 rfl 6 rfl ?_
        refine k_get hC fd_X12_22 (kl hN (by decide)) h_2 rfl dX12_layFix_109 ?_
        refine k_iload hC dX12_layFix_112 3 rfl ?_
        refine k_lald hC (kl hN (by decide)) hl1.1 (by omega) (by decide) dX12_layFix_114 ?_
        refine k_topv (vL (ls1 k)) rfl ?_
        refine k_topv (vL (sinM (aziM g k))) (congrArg vL (by exact hat.1)) ?_
        refine k_pureS hC (c_X12_product l hls G hN w1 fl (carM g k T) (sinM (aziM g k)) (by omega)) yy_X12_product wm_X12_120 rfl rfl (Nat.le_of_ble_eq_true rfl) (by decide) (by decide) ⟨by decide, by decide⟩ dX12_layFix_115 ?_
        refine k_ladd hC dX12_layFix_118 ?_
        refine k_topL (fun np enp => ?_)
        refine k_lstore hC [(9, vL np), (7, vL nc), (5, vL nb), (3, vL na), (13, vI (k : Int)), (11, vL vq), (0, .ref (kad G 133)), (1, vL T)] dX12_layFix_119 (by decide) rfl ?_
        refine k_lload hC dX12_layFix_121 5 rfl ?_
        refine k_aload_n hC dX12_layFix_123 rfl 6 rfl ?_
        refine k_get hC fd_X12_28 (kl hN (by decide)) h_2 rfl dX12_layFix_124 ?_
        refine k_iload hC dX12_layFix_127 4 rfl ?_
        refine k_lald hC (kl hN (by decide)) hl1.2.2 (by omega) (by decide) dX12_layFix_129 ?_
        refine k_topv (vL (lo1 k)) rfl ?_
        refine k_topv (vL (carM g k T)) (congrArg vL (by exact hat.2.2)) ?_
        refine k_aload_n hC dX12_layFix_130 rfl 6 rfl ?_
        refine k_get hC fd_X12_25 (kl hN (by decide)) h_2 rfl dX12_layFix_131 ?_
        refine k_iload hC dX12_layFix_134 4 rfl ?_
        refine k_lald hC (kl hN (by decide)) hl1.2.1 (by omega) (by decide) dX12_layFix_136 ?_
        refine k_topv (vL (lc1 k)) rfl ?_
        refine k_topv (vL (cosM (aziM g k))) (congrArg vL (by exact hat.2.1)) ?_
        refine k_pureS hC (c_X12_product l hls G hN w1 fl (carM g k T) (cosM (aziM g k)) (by omega)) yy_X12_product wm_X12_120 rfl rfl (Nat.le_of_ble_eq_true rfl) (by decide) (by decide) ⟨by decide, by decide⟩ dX12_layFix_137 ?_
        refine k_ladd hC dX12_layFix_140 ?_
        refine k_topL (fun nq enq => ?_)
        refine k_lstore hC [(11, vL nq), (9, vL np), (7, vL nc), (5, vL nb), (3, vL na), (13, vI (k : Int)), (0, .ref (kad G 133)), (1, vL T)] dX12_layFix_141 (by decide) rfl ?_
        refine k_iinc hC (y := (k : Int) + 1) [(13, vI ((k : Int) + 1)), (11, vL nq), (9, vL np), (7, vL nc), (5, vL nb), (3, vL na), (0, .ref (kad G 133)), (1, vL T)] (j := 5) dX12_layFix_143 rfl (by omega) (by decide) rfl ?_
        refine k_goto hC 22 dX12_layFix_146 rfl ?_
        refine k_lvs (ls := [0, 1, 2, 3, 4, 5, 6, 7]) [(13, vI ((k + 1 : Nat) : Int)), (11, vL nq), (9, vL np), (7, vL nc), (5, vL nb), (3, vL na), (0, .ref (kad G 133)), (1, vL T)] (by simp only [lv_pick]; rfl) ?_
        exact ih (k + 1) na nb nc np nq  (by omega) (by omega) (by rw [ena, eva]; rfl) (by rw [enb, evb]; rfl) (by rw [enc, evc]; rfl) (by rw [enp, evp]; rfl) (by rw [enq, evq]; rfl)
  refine k_lvs (ls := [0, 1, 2, 3, 4, 5, 6, 7]) [(13, vI ((0 : Nat) : Int)), (11, vL 0), (9, vL 0), (7, vL 0), (5, vL 0), (3, vL 0), (0, .ref (kad G 133)), (1, vL T)] (by simp only [lv_pick]; rfl) ?_
  exact loop 13 0 0 0 0 0 0  (by omega) (by omega) rfl rfl rfl rfl rfl

set_option maxRecDepth 100000 in
set_option maxHeartbeats 4000000 in
theorem c_X12_residualOf (l : Launch) (hls : l.stackTraces = false) (G : kG) (hN : kN G = 150) (w : Nat → va_E) (fl : va_W) (u g : Nat → Int) (ls lc lo : Nat → Int) (i : Nat) (T : Int) (hI : Inv g) (hi : (i : Int) < g 2) (ht : 0 ≤ T ∧ T ≤ 5000) (hA : mAt g T i ls lc lo) (hfx : u 12 = fixE g T ∧ u 13 = fixN g T) (hm : w 133 = mdO G u) (hn : w 134 = lA G 93 g) (hLs : kLns G w ls lc lo) : KM l G yX12_residualOf cX12_residualOf 2 (some (FieldType.long)) 2 0 0 [.ref (kad G 133), vI (i : Int)] w fl (kPure (vL (resM g T i)) w fl) := by
  refine KM_of2 hls (by decide +kernel) rfl (lv0 := [(0, .ref (kad G 133)), (1, vI (i : Int))]) rfl (Nat.le_of_ble_eq_true rfl) (fun p e R s m args below meth c Q hC hr hQ => ?_)
  have h0 := hI.c
  have hfe := fixE_b g T
  have hfn := fixN_b g T
  rw [← hfx.1] at hfe
  rw [← hfx.2] at hfn
  have hsi := sinM_b (aziM g i)
  have hoi := cosM_b (aziM g i)
  refine k_aload_n hC dX12_residualOf_0 rfl 0 rfl ?_
  refine k_get hC fd_X12_234 (kl hN (by decide)) hm rfl dX12_residualOf_1 ?_
  refine k_aload_n hC dX12_residualOf_4 rfl 0 rfl ?_
  refine k_get hC fd_X12_238 (kl hN (by decide)) hm rfl dX12_residualOf_5 ?_
  refine k_aload_n hC dX12_residualOf_8 rfl 0 rfl ?_
  refine k_get hC fd_X12_22 (kl hN (by decide)) hm rfl dX12_residualOf_9 ?_
  refine k_iload_n hC dX12_residualOf_12 rfl 1 rfl ?_
  refine k_lald hC (kl hN (by decide)) hLs.1 (by omega) (by decide) dX12_residualOf_13 ?_
  refine k_topv (vL (ls i)) rfl ?_
  refine k_topv (vL (sinM (aziM g i))) (congrArg vL (by exact hA.1)) ?_
  refine k_aload_n hC dX12_residualOf_14 rfl 0 rfl ?_
  refine k_get hC fd_X12_25 (kl hN (by decide)) hm rfl dX12_residualOf_15 ?_
  refine k_iload_n hC dX12_residualOf_18 rfl 1 rfl ?_
  refine k_lald hC (kl hN (by decide)) hLs.2.1 (by omega) (by decide) dX12_residualOf_19 ?_
  refine k_topv (vL (lc i)) rfl ?_
  refine k_topv (vL (cosM (aziM g i))) (congrArg vL (by exact hA.2.1)) ?_
  refine k_pureS hC (c_X12_along l hls G hN w fl (u 12) (u 13) (sinM (aziM g i)) (cosM (aziM g i)) (by omega) (by omega) (by omega) (by omega)) yy_X12_along wm_X12_186 rfl rfl (Nat.le_of_ble_eq_true rfl) (by decide) (by decide) ⟨by decide, by decide⟩ dX12_residualOf_20 ?_
  refine k_topv (vL (along (u 12) (u 13) (sinM (aziM g i)) (cosM (aziM g i)))) rfl ?_
  have hb_1 := along_b 10000000 10000000 (e := u 12) (n := u 13) (s := sinM (aziM g i)) (c := cosM (aziM g i)) (by omega) (by omega) (by omega) (by omega)
  refine k_aload_n hC dX12_residualOf_23 rfl 0 rfl ?_
  refine k_get hC fd_X12_28 (kl hN (by decide)) hm rfl dX12_residualOf_24 ?_
  refine k_iload_n hC dX12_residualOf_27 rfl 1 rfl ?_
  refine k_lald hC (kl hN (by decide)) hLs.2.2 (by omega) (by decide) dX12_residualOf_28 ?_
  refine k_topv (vL (lo i)) rfl ?_
  refine k_topv (vL (carM g i T)) (congrArg vL (by exact hA.2.2)) ?_
  refine k_lsub hC dX12_residualOf_29 ?_
  subst hQ
  exact k_lret hC hr ⟨by decide, by decide⟩ (⟨congrArg (fun z => some (vL z)) (show (resM g T i : Int) = (along (u 12) (u 13) (sinM (aziM g i)) (cosM (aziM g i))) - (carM g i T) from by unfold resM; rw [hfx.1, hfx.2]), rfl, rfl⟩) dX12_residualOf_30

set_option maxRecDepth 100000 in
set_option maxHeartbeats 4000000 in
theorem c_X12_distance (l : Launch) (hls : l.stackTraces = false) (G : kG) (hN : kN G = 150) (w : Nat → va_E) (fl : va_W) (u g : Nat → Int) (T : Int) (hI : Inv g) (ht : 0 ≤ T ∧ T ≤ 5000) (hfx : u 12 = fixE g T ∧ u 13 = fixN g T) (hm : w 133 = mdO G u) (hn : w 134 = lA G 93 g) : KM l G yX12_distance cX12_distance 7 (some (FieldType.long)) 7 0 0 [.ref (kad G 133), vL T] w fl (kPure (vL (dstM g T)) w fl) := by
  refine KM_of2 hls (by decide +kernel) rfl (lv0 := [(0, .ref (kad G 133)), (1, vL T)]) rfl (Nat.le_of_ble_eq_true rfl) (fun p e R s m args below meth c Q hC hr hQ => ?_)
  have hfe := fixE_b g T
  have hfn := fixN_b g T
  rw [← hfx.1] at hfe
  rw [← hfx.2] at hfn
  have h0 := hI.c
  refine k_aload_n hC dX12_distance_0 rfl 0 rfl ?_
  refine k_get hC fd_X12_234 (kl hN (by decide)) hm rfl dX12_distance_1 ?_
  refine k_aload_n hC dX12_distance_4 rfl 0 rfl ?_
  refine k_lload_n hC dX12_distance_5 rfl 1 rfl ?_
  refine k_iconst hC dX12_distance_6 ?_
  refine k_pureV hC (c_X12_displaced l hls G hN w fl u g T 0 hI (by omega) (by omega) hm hn) yy_X12_displaced wm_X12_131 (kl hN (by decide)) hm rfl rfl rfl rfl (Nat.le_of_ble_eq_true rfl) (by decide) (by decide) ⟨by decide, by decide⟩ dX12_distance_7 ?_
  refine k_topv (vL (dispM g T false)) rfl ?_
  have hb_1 := dispM_b hI (t := T) (by omega) false
  refine k_lsub hC dX12_distance_10 ?_
  refine k_topL (fun dx edx => ?_)
  refine k_lstore_n hC [(3, vL dx), (0, .ref (kad G 133)), (1, vL T)] dX12_distance_11 rfl (by decide) rfl ?_
  refine k_aload_n hC dX12_distance_12 rfl 1 rfl ?_
  refine k_get hC fd_X12_238 (kl hN (by decide)) hm rfl dX12_distance_13 ?_
  refine k_aload_n hC dX12_distance_16 rfl 1 rfl ?_
  refine k_lload_n hC dX12_distance_17 rfl 2 rfl ?_
  refine k_iconst hC dX12_distance_18 ?_
  refine k_pureV hC (c_X12_displaced l hls G hN w fl u g T 1 hI (by omega) (by omega) hm hn) yy_X12_displaced wm_X12_131 (kl hN (by decide)) hm rfl rfl rfl rfl (Nat.le_of_ble_eq_true rfl) (by decide) (by decide) ⟨by decide, by decide⟩ dX12_distance_19 ?_
  refine k_topv (vL (dispM g T true)) rfl ?_
  have hb_2 := dispM_b hI (t := T) (by omega) true
  refine k_lsub hC dX12_distance_22 ?_
  refine k_topL (fun dy edy => ?_)
  refine k_lstore hC [(5, vL dy), (3, vL dx), (0, .ref (kad G 133)), (1, vL T)] dX12_distance_23 (by decide) rfl ?_
  have hm1 := mul_le_abs (a := dx) (b := dx) (A := 1420000) (B := 1420000) (by omega) (by omega)
  have hm2 := mul_le_abs (a := dy) (b := dy) (A := 1420000) (B := 1420000) (by omega) (by omega)
  have hn1 := sq_nn dx
  have hn2 := sq_nn dy
  refine k_lload_n hC dX12_distance_25 rfl 1 rfl ?_
  refine k_lload_n hC dX12_distance_26 rfl 1 rfl ?_
  refine k_lmul hC dX12_distance_27 ?_
  refine k_lload hC dX12_distance_28 0 rfl ?_
  refine k_lload hC dX12_distance_30 0 rfl ?_
  refine k_lmul hC dX12_distance_32 ?_
  refine k_ladd hC dX12_distance_33 ?_
  refine k_pureS hC (c_X12_root l hls G hN w fl ((dx * dx) + (dy * dy)) (by omega)) yy_X12_root wm_X12_144 rfl rfl (Nat.le_of_ble_eq_true rfl) (by decide) (by decide) ⟨by decide, by decide⟩ dX12_distance_34 ?_
  subst hQ
  exact k_lret hC hr ⟨by decide, by decide⟩ (⟨congrArg (fun z => some (vL z)) (show (dstM g T : Int) = rootM ((dx * dx) + (dy * dy)) from by unfold dstM; rw [edx, edy, hfx.1, hfx.2]), rfl, rfl⟩) dX12_distance_37

