def wrR (G : kG) (w : Nat → va_E) (u : Nat → Int) (T : List Int) : Prop := ∃ (c : Nat) (ff : Nat → Int), u 15 = (c : Int) ∧ c ≤ 80 ∧ w 143 = iA G 80 ff ∧ cdR ff c T
def dgN (b k0 : Int) : Nat → Int → List Int
  | 0, n => [k0 + n % b]
  | k + 1, n => (if b - 1 < n then dgN b k0 k (n / b) else []) ++ [k0 + n % b]
theorem dgN_l (b k0 : Int) : ∀ (k : Nat) (n : Int), (dgN b k0 k n).length ≤ k + 1 := by
  intro k
  induction k with
  | zero => intro n; exact Nat.le_refl _
  | succ k ih =>
    intro n
    show ((if _ then dgN b k0 k (n / b) else []) ++ [_]).length ≤ _
    rw [List.length_append]
    have h := ih (n / b)
    split
    · show _ + 1 ≤ _; omega
    · show 0 + 1 ≤ _; omega
set_option maxRecDepth 100000 in
set_option maxHeartbeats 4000000 in
theorem c_X12_write (l : Launch) (hls : l.stackTraces = false) (G : kG) (hN : kN G = 150) (w : Nat → va_E) (fl : va_W) (u : Nat → Int) (T : List Int) (x : Int) (hlt : T.length < 80) (hm : w 133 = mdO G u) (hwr : wrR G w u T) : KM l G yX12_write cX12_write 2 (none) 0 0 0 [.ref (kad G 133), vI x] w fl (kMuv fl (fun w1 => (∃ u1, w1 133 = mdO G u1 ∧ wrR G w1 u1 (T ++ [x]) ∧ ∀ j, j ≠ 15 → u1 j = u j) ∧ ∀ j, (j ≠ 133 ∧ j ≠ 143) → w1 j = w j)) := by
  refine KM_of2 hls (by decide +kernel) rfl (lv0 := [(0, .ref (kad G 133)), (1, vI x)]) rfl (Nat.le_of_ble_eq_true rfl) (fun p e R s m args below meth c Q hC hr hQ => ?_)
  have hwr0 := hwr
  obtain ⟨c9, ff, h15, hc9, h143, hcd⟩ := hwr0
  have hlen := hcd.1
  refine k_aload_n hC dX12_write_0 rfl 0 rfl ?_
  refine k_get hC fd_X12_37 (kl hN (by decide)) hm rfl dX12_write_1 ?_
  refine k_aload_n hC dX12_write_4 rfl 0 rfl ?_
  refine k_get hC fd_X12_331 (kl hN (by decide)) hm rfl dX12_write_5 ?_
  refine k_topv (vI ((c9 : Int))) (congrArg vI (by omega)) ?_
  refine k_iload_n hC dX12_write_8 rfl 1 rfl ?_
  refine k_iast hC (kl hN (by decide)) h143 (by omega) (by decide) dX12_write_9 (fun w1 hw1 hf1 => ?_)
  refine k_aload_n hC dX12_write_10 rfl 0 rfl ?_
  refine k_dup hC dX12_write_11 rfl ?_
  have h_2 : w1 133 = .inr (12, [.ref (kad G 134), .ref (kad G 135), .ref (kad G 136), .ref (kad G 137), vI (u 4), vI (u 5), vI (u 6), .ref (kad G 138), .ref (kad G 139), .ref (kad G 140), .ref (kad G 141), .ref (kad G 142), vL (u 12), vL (u 13), .ref (kad G 143), vI (u 15), .ref (kad G 144), vI (u 17), vI (u 18), vI (u 19), vI (u 20), vI (u 21), vI (u 22), vI (u 23), vI (u 24), vI (u 25), .ref (kad G 145), .ref (kad G 146), .ref (kad G 147), vI (u 29)]) := (hf1 133 (by decide)).trans hm
  refine k_get hC fd_X12_331 (kl hN (by decide)) h_2 rfl dX12_write_12 ?_
  refine k_topv (vI ((c9 : Int))) (congrArg vI (by omega)) ?_
  refine k_iconst hC dX12_write_15 ?_
  refine k_iadd hC dX12_write_16 ?_
  refine k_put hC fd_X12_331 (kl hN (by decide)) h_2 [.ref (kad G 134), .ref (kad G 135), .ref (kad G 136), .ref (kad G 137), vI (u 4), vI (u 5), vI (u 6), .ref (kad G 138), .ref (kad G 139), .ref (kad G 140), .ref (kad G 141), .ref (kad G 142), vL (u 12), vL (u 13), .ref (kad G 143), vI ((c9 : Int) + 1), .ref (kad G 144), vI (u 17), vI (u 18), vI (u 19), vI (u 20), vI (u 21), vI (u 22), vI (u 23), vI (u 24), vI (u 25), .ref (kad G 145), .ref (kad G 146), .ref (kad G 147), vI (u 29)] rfl (Nat.le_of_ble_eq_true rfl) rfl rfl dX12_write_17 (fun w3 hw3 hf3 => ?_)
  have h_4 : w3 143 = iA G 80 (kup ff ((c9 : Int)).toNat x) := (hf3 143 (by decide)).trans hw1
  subst hQ
  exact k_vret hC hr ⟨by decide, by decide⟩ (⟨rfl, rfl, ⟨(kup u 15 ((c9 : Int) + 1)), hw3, ⟨c9 + 1, _, rfl, by omega, h_4, cd_put hcd⟩, fun j hj => kup_n hj⟩, fun j hj => (hf3 j (by omega)).trans (hf1 j (by omega))⟩) dX12_write_20

set_option maxRecDepth 100000 in
set_option maxHeartbeats 4000000 in
theorem c_X12_writeNumber_0 (l : Launch) (hls : l.stackTraces = false) (G : kG) (hN : kN G = 150) (w : Nat → va_E) (fl : va_W) (u : Nat → Int) (T : List Int) (x : Int) (hx : 0 ≤ x ∧ x < 10) (hlt : T.length + 1 ≤ 80) (hm : w 133 = mdO G u) (hwr : wrR G w u T) : KM l G yX12_writeNumber cX12_writeNumber 3 (none) 1 0 0 [.ref (kad G 133), vL x] w fl (kMuv fl (fun w1 => (∃ u1, w1 133 = mdO G u1 ∧ wrR G w1 u1 (T ++ dgN 10 (48) 0 x) ∧ ∀ j, j ≠ 15 → u1 j = u j) ∧ ∀ j, (j ≠ 133 ∧ j ≠ 143) → w1 j = w j)) := by
  refine KM_of2 hls (by decide +kernel) rfl (lv0 := [(0, .ref (kad G 133)), (1, vL x)]) rfl (Nat.le_of_ble_eq_true rfl) (fun p e R s m args below meth c Q hC hr hQ => ?_)
  refine k_lload_n hC dX12_writeNumber_0 rfl 1 rfl ?_
  refine k_ldc2 hC (x := 9) (v := 9) dX12_writeNumber_1 (by decide) wk_X12_334 ?_
  refine k_lcmp_le hC 17 dX12_writeNumber_4 dX12_writeNumber_5 rfl (by omega) (by omega) (fun c_4 => ?_) (fun c_4 => absurd c_4 (by omega))
  refine k_aload_n hC dX12_writeNumber_17 rfl 0 rfl ?_
  refine k_bipush hC dX12_writeNumber_18 (by decide) ?_
  refine k_lload_n hC dX12_writeNumber_20 rfl 1 rfl ?_
  refine k_ldc2 hC (x := 10) (v := 10) dX12_writeNumber_21 (by decide) wk_X12_336 ?_
  refine k_lrem hC dX12_writeNumber_24 (by omega) (by omega) ?_
  refine k_topv (vL (x % 10)) (congrArg vL (Int.tmod_eq_emod_of_nonneg (by omega))) ?_
  refine k_l2i hC dX12_writeNumber_25 ?_
  refine k_iadd hC dX12_writeNumber_26 ?_
  refine k_topv (vI (48 + x % 10)) (congrArg vI (by omega)) ?_
  refine k_muvV hC (c_X12_write l hls G hN w fl u T (48 + x % 10) (by omega) hm hwr) yy_X12_write wm_X12_341 (kl hN (by decide)) hm rfl rfl rfl rfl (Nat.le_of_ble_eq_true rfl) (by decide) (by decide) ⟨by decide, by decide⟩ dX12_writeNumber_27 (fun w1 hp1 => ?_)
  obtain ⟨⟨u1, hu1, hwr1, hs1⟩, hf1⟩ := hp1
  subst hQ
  exact k_vret hC hr ⟨by decide, by decide⟩ (⟨rfl, rfl, ⟨_, hu1, (rfl : T ++ [48 + x % 10] = T ++ dgN 10 (48) 0 x) ▸ hwr1, (fun j hj => (hs1 j hj).trans ((fun j _ => rfl) j hj))⟩, fun j hj => hf1 j (by omega)⟩) dX12_writeNumber_30

set_option maxRecDepth 100000 in
set_option maxHeartbeats 4000000 in
theorem c_X12_writeNumber_1 (l : Launch) (hls : l.stackTraces = false) (G : kG) (hN : kN G = 150) (w : Nat → va_E) (fl : va_W) (u : Nat → Int) (T : List Int) (x : Int) (hx : 0 ≤ x ∧ x < 100) (hlt : T.length + 2 ≤ 80) (hm : w 133 = mdO G u) (hwr : wrR G w u T) : KM l G yX12_writeNumber cX12_writeNumber 3 (none) 2 0 0 [.ref (kad G 133), vL x] w fl (kMuv fl (fun w1 => (∃ u1, w1 133 = mdO G u1 ∧ wrR G w1 u1 (T ++ dgN 10 (48) 1 x) ∧ ∀ j, j ≠ 15 → u1 j = u j) ∧ ∀ j, (j ≠ 133 ∧ j ≠ 143) → w1 j = w j)) := by
  refine KM_of2 hls (by decide +kernel) rfl (lv0 := [(0, .ref (kad G 133)), (1, vL x)]) rfl (Nat.le_of_ble_eq_true rfl) (fun p e R s m args below meth c Q hC hr hQ => ?_)
  refine k_lload_n hC dX12_writeNumber_0 rfl 1 rfl ?_
  refine k_ldc2 hC (x := 9) (v := 9) dX12_writeNumber_1 (by decide) wk_X12_334 ?_
  refine k_lcmp_le hC 17 dX12_writeNumber_4 dX12_writeNumber_5 rfl (by omega) (by omega) (fun c_4 => ?_) (fun c_4 => ?_)
  · refine k_aload_n hC dX12_writeNumber_17 rfl 0 rfl ?_
    refine k_bipush hC dX12_writeNumber_18 (by decide) ?_
    refine k_lload_n hC dX12_writeNumber_20 rfl 1 rfl ?_
    refine k_ldc2 hC (x := 10) (v := 10) dX12_writeNumber_21 (by decide) wk_X12_336 ?_
    refine k_lrem hC dX12_writeNumber_24 (by omega) (by omega) ?_
    refine k_topv (vL (x % 10)) (congrArg vL (Int.tmod_eq_emod_of_nonneg (by omega))) ?_
    refine k_l2i hC dX12_writeNumber_25 ?_
    refine k_iadd hC dX12_writeNumber_26 ?_
    refine k_topv (vI (48 + x % 10)) (congrArg vI (by omega)) ?_
    refine k_muvV hC (c_X12_write l hls G hN w fl u T (48 + x % 10) (by first | omega | (rw [List.length_append]; have := dgN_l 10 (48) 0 (x / 10); omega)) hm hwr) yy_X12_write wm_X12_341 (kl hN (by decide)) hm rfl rfl rfl rfl (Nat.le_of_ble_eq_true rfl) (by decide) (by decide) ⟨by decide, by decide⟩ dX12_writeNumber_27 (fun w1 hp1 => ?_)
    obtain ⟨⟨u1, hu1, hwr1, hs1⟩, hf1⟩ := hp1
    subst hQ
    exact k_vret hC hr ⟨by decide, by decide⟩ (⟨rfl, rfl, ⟨_, hu1, ((by show _ = T ++ ((if _ then dgN 10 (48) 0 (x / 10) else []) ++ [48 + x % 10]); rw [if_neg (by omega)]; rfl) : T ++ [48 + x % 10] = T ++ dgN 10 (48) 1 x) ▸ hwr1, (fun j hj => (hs1 j hj).trans ((fun j _ => rfl) j hj))⟩, fun j hj => hf1 j (by omega)⟩) dX12_writeNumber_30
  · refine k_aload_n hC dX12_writeNumber_8 rfl 0 rfl ?_
    refine k_lload_n hC dX12_writeNumber_9 rfl 1 rfl ?_
    refine k_ldc2 hC (x := 10) (v := 10) dX12_writeNumber_10 (by decide) wk_X12_336 ?_
    refine k_ldiv hC dX12_writeNumber_13 (by omega) (by omega) ?_
    refine k_topv (vL (x / 10)) (congrArg vL (Int.tdiv_eq_ediv_of_nonneg (by omega))) ?_
    refine k_muvV hC (c_X12_writeNumber_0 l hls G hN w fl u T (x / 10) (by omega) (by omega) hm hwr) yy_X12_writeNumber wm_X12_338 (kl hN (by decide)) hm rfl rfl rfl rfl (Nat.le_of_ble_eq_true rfl) (by decide) (by decide) ⟨by decide, by decide⟩ dX12_writeNumber_14 (fun w2 hp2 => ?_)
    obtain ⟨⟨u2, hu2, hwr2, hs2⟩, hf2⟩ := hp2
    refine k_aload_n hC dX12_writeNumber_17 rfl 0 rfl ?_
    refine k_bipush hC dX12_writeNumber_18 (by decide) ?_
    refine k_lload_n hC dX12_writeNumber_20 rfl 1 rfl ?_
    refine k_ldc2 hC (x := 10) (v := 10) dX12_writeNumber_21 (by decide) wk_X12_336 ?_
    refine k_lrem hC dX12_writeNumber_24 (by omega) (by omega) ?_
    refine k_topv (vL (x % 10)) (congrArg vL (Int.tmod_eq_emod_of_nonneg (by omega))) ?_
    refine k_l2i hC dX12_writeNumber_25 ?_
    refine k_iadd hC dX12_writeNumber_26 ?_
    refine k_topv (vI (48 + x % 10)) (congrArg vI (by omega)) ?_
    refine k_muvV hC (c_X12_write l hls G hN w2 fl u2 (T ++ dgN 10 (48) 0 (x / 10)) (48 + x % 10) (by first | omega | (rw [List.length_append]; have := dgN_l 10 (48) 0 (x / 10); omega)) hu2 hwr2) yy_X12_write wm_X12_341 (kl hN (by decide)) hu2 rfl rfl rfl rfl (Nat.le_of_ble_eq_true rfl) (by decide) (by decide) ⟨by decide, by decide⟩ dX12_writeNumber_27 (fun w3 hp3 => ?_)
    obtain ⟨⟨u3, hu3, hwr3, hs3⟩, hf3⟩ := hp3
    subst hQ
    exact k_vret hC hr ⟨by decide, by decide⟩ (⟨rfl, rfl, ⟨_, hu3, ((by show _ = T ++ ((if _ then dgN 10 (48) 0 (x / 10) else []) ++ [48 + x % 10]); rw [if_pos (by omega), List.append_assoc]) : T ++ dgN 10 (48) 0 (x / 10) ++ [48 + x % 10] = T ++ dgN 10 (48) 1 x) ▸ hwr3, (fun j hj => (hs3 j hj).trans ((fun j hj => (hs2 j hj).trans ((fun j _ => rfl) j hj)) j hj))⟩, fun j hj => (hf3 j (by omega)).trans (hf2 j (by omega))⟩) dX12_writeNumber_30

set_option maxRecDepth 100000 in
set_option maxHeartbeats 4000000 in
theorem c_X12_writeNumber_2 (l : Launch) (hls : l.stackTraces = false) (G : kG) (hN : kN G = 150) (w : Nat → va_E) (fl : va_W) (u : Nat → Int) (T : List Int) (x : Int) (hx : 0 ≤ x ∧ x < 1000) (hlt : T.length + 3 ≤ 80) (hm : w 133 = mdO G u) (hwr : wrR G w u T) : KM l G yX12_writeNumber cX12_writeNumber 3 (none) 3 0 0 [.ref (kad G 133), vL x] w fl (kMuv fl (fun w1 => (∃ u1, w1 133 = mdO G u1 ∧ wrR G w1 u1 (T ++ dgN 10 (48) 2 x) ∧ ∀ j, j ≠ 15 → u1 j = u j) ∧ ∀ j, (j ≠ 133 ∧ j ≠ 143) → w1 j = w j)) := by
  refine KM_of2 hls (by decide +kernel) rfl (lv0 := [(0, .ref (kad G 133)), (1, vL x)]) rfl (Nat.le_of_ble_eq_true rfl) (fun p e R s m args below meth c Q hC hr hQ => ?_)
  refine k_lload_n hC dX12_writeNumber_0 rfl 1 rfl ?_
  refine k_ldc2 hC (x := 9) (v := 9) dX12_writeNumber_1 (by decide) wk_X12_334 ?_
  refine k_lcmp_le hC 17 dX12_writeNumber_4 dX12_writeNumber_5 rfl (by omega) (by omega) (fun c_4 => ?_) (fun c_4 => ?_)
  · refine k_aload_n hC dX12_writeNumber_17 rfl 0 rfl ?_
    refine k_bipush hC dX12_writeNumber_18 (by decide) ?_
    refine k_lload_n hC dX12_writeNumber_20 rfl 1 rfl ?_
    refine k_ldc2 hC (x := 10) (v := 10) dX12_writeNumber_21 (by decide) wk_X12_336 ?_
    refine k_lrem hC dX12_writeNumber_24 (by omega) (by omega) ?_
    refine k_topv (vL (x % 10)) (congrArg vL (Int.tmod_eq_emod_of_nonneg (by omega))) ?_
    refine k_l2i hC dX12_writeNumber_25 ?_
    refine k_iadd hC dX12_writeNumber_26 ?_
    refine k_topv (vI (48 + x % 10)) (congrArg vI (by omega)) ?_
    refine k_muvV hC (c_X12_write l hls G hN w fl u T (48 + x % 10) (by first | omega | (rw [List.length_append]; have := dgN_l 10 (48) 1 (x / 10); omega)) hm hwr) yy_X12_write wm_X12_341 (kl hN (by decide)) hm rfl rfl rfl rfl (Nat.le_of_ble_eq_true rfl) (by decide) (by decide) ⟨by decide, by decide⟩ dX12_writeNumber_27 (fun w1 hp1 => ?_)
    obtain ⟨⟨u1, hu1, hwr1, hs1⟩, hf1⟩ := hp1
    subst hQ
    exact k_vret hC hr ⟨by decide, by decide⟩ (⟨rfl, rfl, ⟨_, hu1, ((by show _ = T ++ ((if _ then dgN 10 (48) 1 (x / 10) else []) ++ [48 + x % 10]); rw [if_neg (by omega)]; rfl) : T ++ [48 + x % 10] = T ++ dgN 10 (48) 2 x) ▸ hwr1, (fun j hj => (hs1 j hj).trans ((fun j _ => rfl) j hj))⟩, fun j hj => hf1 j (by omega)⟩) dX12_writeNumber_30
  · refine k_aload_n hC dX12_writeNumber_8 rfl 0 rfl ?_
    refine k_lload_n hC dX12_writeNumber_9 rfl 1 rfl ?_
    refine k_ldc2 hC (x := 10) (v := 10) dX12_writeNumber_10 (by decide) wk_X12_336 ?_
    refine k_ldiv hC dX12_writeNumber_13 (by omega) (by omega) ?_
    refine k_topv (vL (x / 10)) (congrArg vL (Int.tdiv_eq_ediv_of_nonneg (by omega))) ?_
    refine k_muvV hC (c_X12_writeNumber_1 l hls G hN w fl u T (x / 10) (by omega) (by omega) hm hwr) yy_X12_writeNumber wm_X12_338 (kl hN (by decide)) hm rfl rfl rfl rfl (Nat.le_of_ble_eq_true rfl) (by decide) (by decide) ⟨by decide, by decide⟩ dX12_writeNumber_14 (fun w2 hp2 => ?_)
    obtain ⟨⟨u2, hu2, hwr2, hs2⟩, hf2⟩ := hp2
    refine k_aload_n hC dX12_writeNumber_17 rfl 0 rfl ?_
    refine k_bipush hC dX12_writeNumber_18 (by decide) ?_
    refine k_lload_n hC dX12_writeNumber_20 rfl 1 rfl ?_
    refine k_ldc2 hC (x := 10) (v := 10) dX12_writeNumber_21 (by decide) wk_X12_336 ?_
    refine k_lrem hC dX12_writeNumber_24 (by omega) (by omega) ?_
    refine k_topv (vL (x % 10)) (congrArg vL (Int.tmod_eq_emod_of_nonneg (by omega))) ?_
    refine k_l2i hC dX12_writeNumber_25 ?_
    refine k_iadd hC dX12_writeNumber_26 ?_
    refine k_topv (vI (48 + x % 10)) (congrArg vI (by omega)) ?_
    refine k_muvV hC (c_X12_write l hls G hN w2 fl u2 (T ++ dgN 10 (48) 1 (x / 10)) (48 + x % 10) (by first | omega | (rw [List.length_append]; have := dgN_l 10 (48) 1 (x / 10); omega)) hu2 hwr2) yy_X12_write wm_X12_341 (kl hN (by decide)) hu2 rfl rfl rfl rfl (Nat.le_of_ble_eq_true rfl) (by decide) (by decide) ⟨by decide, by decide⟩ dX12_writeNumber_27 (fun w3 hp3 => ?_)
    obtain ⟨⟨u3, hu3, hwr3, hs3⟩, hf3⟩ := hp3
    subst hQ
    exact k_vret hC hr ⟨by decide, by decide⟩ (⟨rfl, rfl, ⟨_, hu3, ((by show _ = T ++ ((if _ then dgN 10 (48) 1 (x / 10) else []) ++ [48 + x % 10]); rw [if_pos (by omega), List.append_assoc]) : T ++ dgN 10 (48) 1 (x / 10) ++ [48 + x % 10] = T ++ dgN 10 (48) 2 x) ▸ hwr3, (fun j hj => (hs3 j hj).trans ((fun j hj => (hs2 j hj).trans ((fun j _ => rfl) j hj)) j hj))⟩, fun j hj => (hf3 j (by omega)).trans (hf2 j (by omega))⟩) dX12_writeNumber_30

set_option maxRecDepth 100000 in
set_option maxHeartbeats 4000000 in
theorem c_X12_writeNumber_3 (l : Launch) (hls : l.stackTraces = false) (G : kG) (hN : kN G = 150) (w : Nat → va_E) (fl : va_W) (u : Nat → Int) (T : List Int) (x : Int) (hx : 0 ≤ x ∧ x < 10000) (hlt : T.length + 4 ≤ 80) (hm : w 133 = mdO G u) (hwr : wrR G w u T) : KM l G yX12_writeNumber cX12_writeNumber 3 (none) 4 0 0 [.ref (kad G 133), vL x] w fl (kMuv fl (fun w1 => (∃ u1, w1 133 = mdO G u1 ∧ wrR G w1 u1 (T ++ dgN 10 (48) 3 x) ∧ ∀ j, j ≠ 15 → u1 j = u j) ∧ ∀ j, (j ≠ 133 ∧ j ≠ 143) → w1 j = w j)) := by
  refine KM_of2 hls (by decide +kernel) rfl (lv0 := [(0, .ref (kad G 133)), (1, vL x)]) rfl (Nat.le_of_ble_eq_true rfl) (fun p e R s m args below meth c Q hC hr hQ => ?_)
  refine k_lload_n hC dX12_writeNumber_0 rfl 1 rfl ?_
  refine k_ldc2 hC (x := 9) (v := 9) dX12_writeNumber_1 (by decide) wk_X12_334 ?_
  refine k_lcmp_le hC 17 dX12_writeNumber_4 dX12_writeNumber_5 rfl (by omega) (by omega) (fun c_4 => ?_) (fun c_4 => ?_)
  · refine k_aload_n hC dX12_writeNumber_17 rfl 0 rfl ?_
    refine k_bipush hC dX12_writeNumber_18 (by decide) ?_
    refine k_lload_n hC dX12_writeNumber_20 rfl 1 rfl ?_
    refine k_ldc2 hC (x := 10) (v := 10) dX12_writeNumber_21 (by decide) wk_X12_336 ?_
    refine k_lrem hC dX12_writeNumber_24 (by omega) (by omega) ?_
    refine k_topv (vL (x % 10)) (congrArg vL (Int.tmod_eq_emod_of_nonneg (by omega))) ?_
    refine k_l2i hC dX12_writeNumber_25 ?_
    refine k_iadd hC dX12_writeNumber_26 ?_
    refine k_topv (vI (48 + x % 10)) (congrArg vI (by omega)) ?_
    refine k_muvV hC (c_X12_write l hls G hN w fl u T (48 + x % 10) (by first | omega | (rw [List.length_append]; have := dgN_l 10 (48) 2 (x / 10); omega)) hm hwr) yy_X12_write wm_X12_341 (kl hN (by decide)) hm rfl rfl rfl rfl (Nat.le_of_ble_eq_true rfl) (by decide) (by decide) ⟨by decide, by decide⟩ dX12_writeNumber_27 (fun w1 hp1 => ?_)
    obtain ⟨⟨u1, hu1, hwr1, hs1⟩, hf1⟩ := hp1
    subst hQ
    exact k_vret hC hr ⟨by decide, by decide⟩ (⟨rfl, rfl, ⟨_, hu1, ((by show _ = T ++ ((if _ then dgN 10 (48) 2 (x / 10) else []) ++ [48 + x % 10]); rw [if_neg (by omega)]; rfl) : T ++ [48 + x % 10] = T ++ dgN 10 (48) 3 x) ▸ hwr1, (fun j hj => (hs1 j hj).trans ((fun j _ => rfl) j hj))⟩, fun j hj => hf1 j (by omega)⟩) dX12_writeNumber_30
  · refine k_aload_n hC dX12_writeNumber_8 rfl 0 rfl ?_
    refine k_lload_n hC dX12_writeNumber_9 rfl 1 rfl ?_
    refine k_ldc2 hC (x := 10) (v := 10) dX12_writeNumber_10 (by decide) wk_X12_336 ?_
    refine k_ldiv hC dX12_writeNumber_13 (by omega) (by omega) ?_
    refine k_topv (vL (x / 10)) (congrArg vL (Int.tdiv_eq_ediv_of_nonneg (by omega))) ?_
    refine k_muvV hC (c_X12_writeNumber_2 l hls G hN w fl u T (x / 10) (by omega) (by omega) hm hwr) yy_X12_writeNumber wm_X12_338 (kl hN (by decide)) hm rfl rfl rfl rfl (Nat.le_of_ble_eq_true rfl) (by decide) (by decide) ⟨by decide, by decide⟩ dX12_writeNumber_14 (fun w2 hp2 => ?_)
    obtain ⟨⟨u2, hu2, hwr2, hs2⟩, hf2⟩ := hp2
    refine k_aload_n hC dX12_writeNumber_17 rfl 0 rfl ?_
    refine k_bipush hC dX12_writeNumber_18 (by decide) ?_
    refine k_lload_n hC dX12_writeNumber_20 rfl 1 rfl ?_
    refine k_ldc2 hC (x := 10) (v := 10) dX12_writeNumber_21 (by decide) wk_X12_336 ?_
    refine k_lrem hC dX12_writeNumber_24 (by omega) (by omega) ?_
    refine k_topv (vL (x % 10)) (congrArg vL (Int.tmod_eq_emod_of_nonneg (by omega))) ?_
    refine k_l2i hC dX12_writeNumber_25 ?_
    refine k_iadd hC dX12_writeNumber_26 ?_
    refine k_topv (vI (48 + x % 10)) (congrArg vI (by omega)) ?_
    refine k_muvV hC (c_X12_write l hls G hN w2 fl u2 (T ++ dgN 10 (48) 2 (x / 10)) (48 + x % 10) (by first | omega | (rw [List.length_append]; have := dgN_l 10 (48) 2 (x / 10); omega)) hu2 hwr2) yy_X12_write wm_X12_341 (kl hN (by decide)) hu2 rfl rfl rfl rfl (Nat.le_of_ble_eq_true rfl) (by decide) (by decide) ⟨by decide, by decide⟩ dX12_writeNumber_27 (fun w3 hp3 => ?_)
    obtain ⟨⟨u3, hu3, hwr3, hs3⟩, hf3⟩ := hp3
    subst hQ
    exact k_vret hC hr ⟨by decide, by decide⟩ (⟨rfl, rfl, ⟨_, hu3, ((by show _ = T ++ ((if _ then dgN 10 (48) 2 (x / 10) else []) ++ [48 + x % 10]); rw [if_pos (by omega), List.append_assoc]) : T ++ dgN 10 (48) 2 (x / 10) ++ [48 + x % 10] = T ++ dgN 10 (48) 3 x) ▸ hwr3, (fun j hj => (hs3 j hj).trans ((fun j hj => (hs2 j hj).trans ((fun j _ => rfl) j hj)) j hj))⟩, fun j hj => (hf3 j (by omega)).trans (hf2 j (by omega))⟩) dX12_writeNumber_30

set_option maxRecDepth 100000 in
set_option maxHeartbeats 4000000 in
theorem c_X12_writeNumber_4 (l : Launch) (hls : l.stackTraces = false) (G : kG) (hN : kN G = 150) (w : Nat → va_E) (fl : va_W) (u : Nat → Int) (T : List Int) (x : Int) (hx : 0 ≤ x ∧ x < 100000) (hlt : T.length + 5 ≤ 80) (hm : w 133 = mdO G u) (hwr : wrR G w u T) : KM l G yX12_writeNumber cX12_writeNumber 3 (none) 5 0 0 [.ref (kad G 133), vL x] w fl (kMuv fl (fun w1 => (∃ u1, w1 133 = mdO G u1 ∧ wrR G w1 u1 (T ++ dgN 10 (48) 4 x) ∧ ∀ j, j ≠ 15 → u1 j = u j) ∧ ∀ j, (j ≠ 133 ∧ j ≠ 143) → w1 j = w j)) := by
  refine KM_of2 hls (by decide +kernel) rfl (lv0 := [(0, .ref (kad G 133)), (1, vL x)]) rfl (Nat.le_of_ble_eq_true rfl) (fun p e R s m args below meth c Q hC hr hQ => ?_)
  refine k_lload_n hC dX12_writeNumber_0 rfl 1 rfl ?_
  refine k_ldc2 hC (x := 9) (v := 9) dX12_writeNumber_1 (by decide) wk_X12_334 ?_
  refine k_lcmp_le hC 17 dX12_writeNumber_4 dX12_writeNumber_5 rfl (by omega) (by omega) (fun c_4 => ?_) (fun c_4 => ?_)
  · refine k_aload_n hC dX12_writeNumber_17 rfl 0 rfl ?_
    refine k_bipush hC dX12_writeNumber_18 (by decide) ?_
    refine k_lload_n hC dX12_writeNumber_20 rfl 1 rfl ?_
    refine k_ldc2 hC (x := 10) (v := 10) dX12_writeNumber_21 (by decide) wk_X12_336 ?_
    refine k_lrem hC dX12_writeNumber_24 (by omega) (by omega) ?_
    refine k_topv (vL (x % 10)) (congrArg vL (Int.tmod_eq_emod_of_nonneg (by omega))) ?_
    refine k_l2i hC dX12_writeNumber_25 ?_
    refine k_iadd hC dX12_writeNumber_26 ?_
    refine k_topv (vI (48 + x % 10)) (congrArg vI (by omega)) ?_
    refine k_muvV hC (c_X12_write l hls G hN w fl u T (48 + x % 10) (by first | omega | (rw [List.length_append]; have := dgN_l 10 (48) 3 (x / 10); omega)) hm hwr) yy_X12_write wm_X12_341 (kl hN (by decide)) hm rfl rfl rfl rfl (Nat.le_of_ble_eq_true rfl) (by decide) (by decide) ⟨by decide, by decide⟩ dX12_writeNumber_27 (fun w1 hp1 => ?_)
    obtain ⟨⟨u1, hu1, hwr1, hs1⟩, hf1⟩ := hp1
    subst hQ
    exact k_vret hC hr ⟨by decide, by decide⟩ (⟨rfl, rfl, ⟨_, hu1, ((by show _ = T ++ ((if _ then dgN 10 (48) 3 (x / 10) else []) ++ [48 + x % 10]); rw [if_neg (by omega)]; rfl) : T ++ [48 + x % 10] = T ++ dgN 10 (48) 4 x) ▸ hwr1, (fun j hj => (hs1 j hj).trans ((fun j _ => rfl) j hj))⟩, fun j hj => hf1 j (by omega)⟩) dX12_writeNumber_30
  · refine k_aload_n hC dX12_writeNumber_8 rfl 0 rfl ?_
    refine k_lload_n hC dX12_writeNumber_9 rfl 1 rfl ?_
    refine k_ldc2 hC (x := 10) (v := 10) dX12_writeNumber_10 (by decide) wk_X12_336 ?_
    refine k_ldiv hC dX12_writeNumber_13 (by omega) (by omega) ?_
    refine k_topv (vL (x / 10)) (congrArg vL (Int.tdiv_eq_ediv_of_nonneg (by omega))) ?_
    refine k_muvV hC (c_X12_writeNumber_3 l hls G hN w fl u T (x / 10) (by omega) (by omega) hm hwr) yy_X12_writeNumber wm_X12_338 (kl hN (by decide)) hm rfl rfl rfl rfl (Nat.le_of_ble_eq_true rfl) (by decide) (by decide) ⟨by decide, by decide⟩ dX12_writeNumber_14 (fun w2 hp2 => ?_)
    obtain ⟨⟨u2, hu2, hwr2, hs2⟩, hf2⟩ := hp2
    refine k_aload_n hC dX12_writeNumber_17 rfl 0 rfl ?_
    refine k_bipush hC dX12_writeNumber_18 (by decide) ?_
    refine k_lload_n hC dX12_writeNumber_20 rfl 1 rfl ?_
    refine k_ldc2 hC (x := 10) (v := 10) dX12_writeNumber_21 (by decide) wk_X12_336 ?_
    refine k_lrem hC dX12_writeNumber_24 (by omega) (by omega) ?_
    refine k_topv (vL (x % 10)) (congrArg vL (Int.tmod_eq_emod_of_nonneg (by omega))) ?_
    refine k_l2i hC dX12_writeNumber_25 ?_
    refine k_iadd hC dX12_writeNumber_26 ?_
    refine k_topv (vI (48 + x % 10)) (congrArg vI (by omega)) ?_
    refine k_muvV hC (c_X12_write l hls G hN w2 fl u2 (T ++ dgN 10 (48) 3 (x / 10)) (48 + x % 10) (by first | omega | (rw [List.length_append]; have := dgN_l 10 (48) 3 (x / 10); omega)) hu2 hwr2) yy_X12_write wm_X12_341 (kl hN (by decide)) hu2 rfl rfl rfl rfl (Nat.le_of_ble_eq_true rfl) (by decide) (by decide) ⟨by decide, by decide⟩ dX12_writeNumber_27 (fun w3 hp3 => ?_)
    obtain ⟨⟨u3, hu3, hwr3, hs3⟩, hf3⟩ := hp3
    subst hQ
    exact k_vret hC hr ⟨by decide, by decide⟩ (⟨rfl, rfl, ⟨_, hu3, ((by show _ = T ++ ((if _ then dgN 10 (48) 3 (x / 10) else []) ++ [48 + x % 10]); rw [if_pos (by omega), List.append_assoc]) : T ++ dgN 10 (48) 3 (x / 10) ++ [48 + x % 10] = T ++ dgN 10 (48) 4 x) ▸ hwr3, (fun j hj => (hs3 j hj).trans ((fun j hj => (hs2 j hj).trans ((fun j _ => rfl) j hj)) j hj))⟩, fun j hj => (hf3 j (by omega)).trans (hf2 j (by omega))⟩) dX12_writeNumber_30

set_option maxRecDepth 100000 in
set_option maxHeartbeats 4000000 in
theorem c_X12_writeName_0 (l : Launch) (hls : l.stackTraces = false) (G : kG) (hN : kN G = 150) (w : Nat → va_E) (fl : va_W) (u : Nat → Int) (T : List Int) (x : Int) (hx : 0 ≤ x ∧ x < 27) (hlt : T.length + 1 ≤ 80) (hm : w 133 = mdO G u) (hwr : wrR G w u T) : KM l G yX12_writeName cX12_writeName 3 (none) 1 0 0 [.ref (kad G 133), vL x] w fl (kMuv fl (fun w1 => (∃ u1, w1 133 = mdO G u1 ∧ wrR G w1 u1 (T ++ dgN 27 (96) 0 x) ∧ ∀ j, j ≠ 15 → u1 j = u j) ∧ ∀ j, (j ≠ 133 ∧ j ≠ 143) → w1 j = w j)) := by
  refine KM_of2 hls (by decide +kernel) rfl (lv0 := [(0, .ref (kad G 133)), (1, vL x)]) rfl (Nat.le_of_ble_eq_true rfl) (fun p e R s m args below meth c Q hC hr hQ => ?_)
  refine k_lload_n hC dX12_writeName_0 rfl 1 rfl ?_
  refine k_ldc2 hC (x := 26) (v := 26) dX12_writeName_1 (by decide) wk_X12_344 ?_
  refine k_lcmp_le hC 17 dX12_writeName_4 dX12_writeName_5 rfl (by omega) (by omega) (fun c_4 => ?_) (fun c_4 => absurd c_4 (by omega))
  refine k_aload_n hC dX12_writeName_17 rfl 0 rfl ?_
  refine k_bipush hC dX12_writeName_18 (by decide) ?_
  refine k_lload_n hC dX12_writeName_20 rfl 1 rfl ?_
  refine k_ldc2 hC (x := 27) (v := 27) dX12_writeName_21 (by decide) wk_X12_346 ?_
  refine k_lrem hC dX12_writeName_24 (by omega) (by omega) ?_
  refine k_topv (vL (x % 27)) (congrArg vL (Int.tmod_eq_emod_of_nonneg (by omega))) ?_
  refine k_l2i hC dX12_writeName_25 ?_
  refine k_iadd hC dX12_writeName_26 ?_
  refine k_iconst hC dX12_writeName_27 ?_
  refine k_isub hC dX12_writeName_28 ?_
  refine k_topv (vI (96 + x % 27)) (congrArg vI (by omega)) ?_
  refine k_muvV hC (c_X12_write l hls G hN w fl u T (96 + x % 27) (by omega) hm hwr) yy_X12_write wm_X12_341 (kl hN (by decide)) hm rfl rfl rfl rfl (Nat.le_of_ble_eq_true rfl) (by decide) (by decide) ⟨by decide, by decide⟩ dX12_writeName_29 (fun w1 hp1 => ?_)
  obtain ⟨⟨u1, hu1, hwr1, hs1⟩, hf1⟩ := hp1
  subst hQ
  exact k_vret hC hr ⟨by decide, by decide⟩ (⟨rfl, rfl, ⟨_, hu1, (rfl : T ++ [96 + x % 27] = T ++ dgN 27 (96) 0 x) ▸ hwr1, (fun j hj => (hs1 j hj).trans ((fun j _ => rfl) j hj))⟩, fun j hj => hf1 j (by omega)⟩) dX12_writeName_32

set_option maxRecDepth 100000 in
set_option maxHeartbeats 4000000 in
theorem c_X12_writeName_1 (l : Launch) (hls : l.stackTraces = false) (G : kG) (hN : kN G = 150) (w : Nat → va_E) (fl : va_W) (u : Nat → Int) (T : List Int) (x : Int) (hx : 0 ≤ x ∧ x < 729) (hlt : T.length + 2 ≤ 80) (hm : w 133 = mdO G u) (hwr : wrR G w u T) : KM l G yX12_writeName cX12_writeName 3 (none) 2 0 0 [.ref (kad G 133), vL x] w fl (kMuv fl (fun w1 => (∃ u1, w1 133 = mdO G u1 ∧ wrR G w1 u1 (T ++ dgN 27 (96) 1 x) ∧ ∀ j, j ≠ 15 → u1 j = u j) ∧ ∀ j, (j ≠ 133 ∧ j ≠ 143) → w1 j = w j)) := by
  refine KM_of2 hls (by decide +kernel) rfl (lv0 := [(0, .ref (kad G 133)), (1, vL x)]) rfl (Nat.le_of_ble_eq_true rfl) (fun p e R s m args below meth c Q hC hr hQ => ?_)
  refine k_lload_n hC dX12_writeName_0 rfl 1 rfl ?_
  refine k_ldc2 hC (x := 26) (v := 26) dX12_writeName_1 (by decide) wk_X12_344 ?_
  refine k_lcmp_le hC 17 dX12_writeName_4 dX12_writeName_5 rfl (by omega) (by omega) (fun c_4 => ?_) (fun c_4 => ?_)
  · refine k_aload_n hC dX12_writeName_17 rfl 0 rfl ?_
    refine k_bipush hC dX12_writeName_18 (by decide) ?_
    refine k_lload_n hC dX12_writeName_20 rfl 1 rfl ?_
    refine k_ldc2 hC (x := 27) (v := 27) dX12_writeName_21 (by decide) wk_X12_346 ?_
    refine k_lrem hC dX12_writeName_24 (by omega) (by omega) ?_
    refine k_topv (vL (x % 27)) (congrArg vL (Int.tmod_eq_emod_of_nonneg (by omega))) ?_
    refine k_l2i hC dX12_writeName_25 ?_
    refine k_iadd hC dX12_writeName_26 ?_
    refine k_iconst hC dX12_writeName_27 ?_
    refine k_isub hC dX12_writeName_28 ?_
    refine k_topv (vI (96 + x % 27)) (congrArg vI (by omega)) ?_
    refine k_muvV hC (c_X12_write l hls G hN w fl u T (96 + x % 27) (by first | omega | (rw [List.length_append]; have := dgN_l 27 (96) 0 (x / 27); omega)) hm hwr) yy_X12_write wm_X12_341 (kl hN (by decide)) hm rfl rfl rfl rfl (Nat.le_of_ble_eq_true rfl) (by decide) (by decide) ⟨by decide, by decide⟩ dX12_writeName_29 (fun w1 hp1 => ?_)
    obtain ⟨⟨u1, hu1, hwr1, hs1⟩, hf1⟩ := hp1
    subst hQ
    exact k_vret hC hr ⟨by decide, by decide⟩ (⟨rfl, rfl, ⟨_, hu1, ((by show _ = T ++ ((if _ then dgN 27 (96) 0 (x / 27) else []) ++ [96 + x % 27]); rw [if_neg (by omega)]; rfl) : T ++ [96 + x % 27] = T ++ dgN 27 (96) 1 x) ▸ hwr1, (fun j hj => (hs1 j hj).trans ((fun j _ => rfl) j hj))⟩, fun j hj => hf1 j (by omega)⟩) dX12_writeName_32
  · refine k_aload_n hC dX12_writeName_8 rfl 0 rfl ?_
    refine k_lload_n hC dX12_writeName_9 rfl 1 rfl ?_
    refine k_ldc2 hC (x := 27) (v := 27) dX12_writeName_10 (by decide) wk_X12_346 ?_
    refine k_ldiv hC dX12_writeName_13 (by omega) (by omega) ?_
    refine k_topv (vL (x / 27)) (congrArg vL (Int.tdiv_eq_ediv_of_nonneg (by omega))) ?_
    refine k_muvV hC (c_X12_writeName_0 l hls G hN w fl u T (x / 27) (by omega) (by omega) hm hwr) yy_X12_writeName wm_X12_348 (kl hN (by decide)) hm rfl rfl rfl rfl (Nat.le_of_ble_eq_true rfl) (by decide) (by decide) ⟨by decide, by decide⟩ dX12_writeName_14 (fun w2 hp2 => ?_)
    obtain ⟨⟨u2, hu2, hwr2, hs2⟩, hf2⟩ := hp2
    refine k_aload_n hC dX12_writeName_17 rfl 0 rfl ?_
    refine k_bipush hC dX12_writeName_18 (by decide) ?_
    refine k_lload_n hC dX12_writeName_20 rfl 1 rfl ?_
    refine k_ldc2 hC (x := 27) (v := 27) dX12_writeName_21 (by decide) wk_X12_346 ?_
    refine k_lrem hC dX12_writeName_24 (by omega) (by omega) ?_
    refine k_topv (vL (x % 27)) (congrArg vL (Int.tmod_eq_emod_of_nonneg (by omega))) ?_
    refine k_l2i hC dX12_writeName_25 ?_
    refine k_iadd hC dX12_writeName_26 ?_
    refine k_iconst hC dX12_writeName_27 ?_
    refine k_isub hC dX12_writeName_28 ?_
    refine k_topv (vI (96 + x % 27)) (congrArg vI (by omega)) ?_
    refine k_muvV hC (c_X12_write l hls G hN w2 fl u2 (T ++ dgN 27 (96) 0 (x / 27)) (96 + x % 27) (by first | omega | (rw [List.length_append]; have := dgN_l 27 (96) 0 (x / 27); omega)) hu2 hwr2) yy_X12_write wm_X12_341 (kl hN (by decide)) hu2 rfl rfl rfl rfl (Nat.le_of_ble_eq_true rfl) (by decide) (by decide) ⟨by decide, by decide⟩ dX12_writeName_29 (fun w3 hp3 => ?_)
    obtain ⟨⟨u3, hu3, hwr3, hs3⟩, hf3⟩ := hp3
    subst hQ
    exact k_vret hC hr ⟨by decide, by decide⟩ (⟨rfl, rfl, ⟨_, hu3, ((by show _ = T ++ ((if _ then dgN 27 (96) 0 (x / 27) else []) ++ [96 + x % 27]); rw [if_pos (by omega), List.append_assoc]) : T ++ dgN 27 (96) 0 (x / 27) ++ [96 + x % 27] = T ++ dgN 27 (96) 1 x) ▸ hwr3, (fun j hj => (hs3 j hj).trans ((fun j hj => (hs2 j hj).trans ((fun j _ => rfl) j hj)) j hj))⟩, fun j hj => (hf3 j (by omega)).trans (hf2 j (by omega))⟩) dX12_writeName_32

set_option maxRecDepth 100000 in
set_option maxHeartbeats 4000000 in
theorem c_X12_writeName_2 (l : Launch) (hls : l.stackTraces = false) (G : kG) (hN : kN G = 150) (w : Nat → va_E) (fl : va_W) (u : Nat → Int) (T : List Int) (x : Int) (hx : 0 ≤ x ∧ x < 19683) (hlt : T.length + 3 ≤ 80) (hm : w 133 = mdO G u) (hwr : wrR G w u T) : KM l G yX12_writeName cX12_writeName 3 (none) 3 0 0 [.ref (kad G 133), vL x] w fl (kMuv fl (fun w1 => (∃ u1, w1 133 = mdO G u1 ∧ wrR G w1 u1 (T ++ dgN 27 (96) 2 x) ∧ ∀ j, j ≠ 15 → u1 j = u j) ∧ ∀ j, (j ≠ 133 ∧ j ≠ 143) → w1 j = w j)) := by
  refine KM_of2 hls (by decide +kernel) rfl (lv0 := [(0, .ref (kad G 133)), (1, vL x)]) rfl (Nat.le_of_ble_eq_true rfl) (fun p e R s m args below meth c Q hC hr hQ => ?_)
  refine k_lload_n hC dX12_writeName_0 rfl 1 rfl ?_
  refine k_ldc2 hC (x := 26) (v := 26) dX12_writeName_1 (by decide) wk_X12_344 ?_
  refine k_lcmp_le hC 17 dX12_writeName_4 dX12_writeName_5 rfl (by omega) (by omega) (fun c_4 => ?_) (fun c_4 => ?_)
  · refine k_aload_n hC dX12_writeName_17 rfl 0 rfl ?_
    refine k_bipush hC dX12_writeName_18 (by decide) ?_
    refine k_lload_n hC dX12_writeName_20 rfl 1 rfl ?_
    refine k_ldc2 hC (x := 27) (v := 27) dX12_writeName_21 (by decide) wk_X12_346 ?_
    refine k_lrem hC dX12_writeName_24 (by omega) (by omega) ?_
    refine k_topv (vL (x % 27)) (congrArg vL (Int.tmod_eq_emod_of_nonneg (by omega))) ?_
    refine k_l2i hC dX12_writeName_25 ?_
    refine k_iadd hC dX12_writeName_26 ?_
    refine k_iconst hC dX12_writeName_27 ?_
    refine k_isub hC dX12_writeName_28 ?_
    refine k_topv (vI (96 + x % 27)) (congrArg vI (by omega)) ?_
    refine k_muvV hC (c_X12_write l hls G hN w fl u T (96 + x % 27) (by first | omega | (rw [List.length_append]; have := dgN_l 27 (96) 1 (x / 27); omega)) hm hwr) yy_X12_write wm_X12_341 (kl hN (by decide)) hm rfl rfl rfl rfl (Nat.le_of_ble_eq_true rfl) (by decide) (by decide) ⟨by decide, by decide⟩ dX12_writeName_29 (fun w1 hp1 => ?_)
    obtain ⟨⟨u1, hu1, hwr1, hs1⟩, hf1⟩ := hp1
    subst hQ
    exact k_vret hC hr ⟨by decide, by decide⟩ (⟨rfl, rfl, ⟨_, hu1, ((by show _ = T ++ ((if _ then dgN 27 (96) 1 (x / 27) else []) ++ [96 + x % 27]); rw [if_neg (by omega)]; rfl) : T ++ [96 + x % 27] = T ++ dgN 27 (96) 2 x) ▸ hwr1, (fun j hj => (hs1 j hj).trans ((fun j _ => rfl) j hj))⟩, fun j hj => hf1 j (by omega)⟩) dX12_writeName_32
  · refine k_aload_n hC dX12_writeName_8 rfl 0 rfl ?_
    refine k_lload_n hC dX12_writeName_9 rfl 1 rfl ?_
    refine k_ldc2 hC (x := 27) (v := 27) dX12_writeName_10 (by decide) wk_X12_346 ?_
    refine k_ldiv hC dX12_writeName_13 (by omega) (by omega) ?_
    refine k_topv (vL (x / 27)) (congrArg vL (Int.tdiv_eq_ediv_of_nonneg (by omega))) ?_
    refine k_muvV hC (c_X12_writeName_1 l hls G hN w fl u T (x / 27) (by omega) (by omega) hm hwr) yy_X12_writeName wm_X12_348 (kl hN (by decide)) hm rfl rfl rfl rfl (Nat.le_of_ble_eq_true rfl) (by decide) (by decide) ⟨by decide, by decide⟩ dX12_writeName_14 (fun w2 hp2 => ?_)
    obtain ⟨⟨u2, hu2, hwr2, hs2⟩, hf2⟩ := hp2
    refine k_aload_n hC dX12_writeName_17 rfl 0 rfl ?_
    refine k_bipush hC dX12_writeName_18 (by decide) ?_
    refine k_lload_n hC dX12_writeName_20 rfl 1 rfl ?_
    refine k_ldc2 hC (x := 27) (v := 27) dX12_writeName_21 (by decide) wk_X12_346 ?_
    refine k_lrem hC dX12_writeName_24 (by omega) (by omega) ?_
    refine k_topv (vL (x % 27)) (congrArg vL (Int.tmod_eq_emod_of_nonneg (by omega))) ?_
    refine k_l2i hC dX12_writeName_25 ?_
    refine k_iadd hC dX12_writeName_26 ?_
    refine k_iconst hC dX12_writeName_27 ?_
    refine k_isub hC dX12_writeName_28 ?_
    refine k_topv (vI (96 + x % 27)) (congrArg vI (by omega)) ?_
    refine k_muvV hC (c_X12_write l hls G hN w2 fl u2 (T ++ dgN 27 (96) 1 (x / 27)) (96 + x % 27) (by first | omega | (rw [List.length_append]; have := dgN_l 27 (96) 1 (x / 27); omega)) hu2 hwr2) yy_X12_write wm_X12_341 (kl hN (by decide)) hu2 rfl rfl rfl rfl (Nat.le_of_ble_eq_true rfl) (by decide) (by decide) ⟨by decide, by decide⟩ dX12_writeName_29 (fun w3 hp3 => ?_)
    obtain ⟨⟨u3, hu3, hwr3, hs3⟩, hf3⟩ := hp3
    subst hQ
    exact k_vret hC hr ⟨by decide, by decide⟩ (⟨rfl, rfl, ⟨_, hu3, ((by show _ = T ++ ((if _ then dgN 27 (96) 1 (x / 27) else []) ++ [96 + x % 27]); rw [if_pos (by omega), List.append_assoc]) : T ++ dgN 27 (96) 1 (x / 27) ++ [96 + x % 27] = T ++ dgN 27 (96) 2 x) ▸ hwr3, (fun j hj => (hs3 j hj).trans ((fun j hj => (hs2 j hj).trans ((fun j _ => rfl) j hj)) j hj))⟩, fun j hj => (hf3 j (by omega)).trans (hf2 j (by omega))⟩) dX12_writeName_32

set_option maxRecDepth 100000 in
set_option maxHeartbeats 4000000 in
theorem c_X12_writeName_3 (l : Launch) (hls : l.stackTraces = false) (G : kG) (hN : kN G = 150) (w : Nat → va_E) (fl : va_W) (u : Nat → Int) (T : List Int) (x : Int) (hx : 0 ≤ x ∧ x < 531441) (hlt : T.length + 4 ≤ 80) (hm : w 133 = mdO G u) (hwr : wrR G w u T) : KM l G yX12_writeName cX12_writeName 3 (none) 4 0 0 [.ref (kad G 133), vL x] w fl (kMuv fl (fun w1 => (∃ u1, w1 133 = mdO G u1 ∧ wrR G w1 u1 (T ++ dgN 27 (96) 3 x) ∧ ∀ j, j ≠ 15 → u1 j = u j) ∧ ∀ j, (j ≠ 133 ∧ j ≠ 143) → w1 j = w j)) := by
  refine KM_of2 hls (by decide +kernel) rfl (lv0 := [(0, .ref (kad G 133)), (1, vL x)]) rfl (Nat.le_of_ble_eq_true rfl) (fun p e R s m args below meth c Q hC hr hQ => ?_)
  refine k_lload_n hC dX12_writeName_0 rfl 1 rfl ?_
  refine k_ldc2 hC (x := 26) (v := 26) dX12_writeName_1 (by decide) wk_X12_344 ?_
  refine k_lcmp_le hC 17 dX12_writeName_4 dX12_writeName_5 rfl (by omega) (by omega) (fun c_4 => ?_) (fun c_4 => ?_)
  · refine k_aload_n hC dX12_writeName_17 rfl 0 rfl ?_
    refine k_bipush hC dX12_writeName_18 (by decide) ?_
    refine k_lload_n hC dX12_writeName_20 rfl 1 rfl ?_
    refine k_ldc2 hC (x := 27) (v := 27) dX12_writeName_21 (by decide) wk_X12_346 ?_
    refine k_lrem hC dX12_writeName_24 (by omega) (by omega) ?_
    refine k_topv (vL (x % 27)) (congrArg vL (Int.tmod_eq_emod_of_nonneg (by omega))) ?_
    refine k_l2i hC dX12_writeName_25 ?_
    refine k_iadd hC dX12_writeName_26 ?_
    refine k_iconst hC dX12_writeName_27 ?_
    refine k_isub hC dX12_writeName_28 ?_
    refine k_topv (vI (96 + x % 27)) (congrArg vI (by omega)) ?_
    refine k_muvV hC (c_X12_write l hls G hN w fl u T (96 + x % 27) (by first | omega | (rw [List.length_append]; have := dgN_l 27 (96) 2 (x / 27); omega)) hm hwr) yy_X12_write wm_X12_341 (kl hN (by decide)) hm rfl rfl rfl rfl (Nat.le_of_ble_eq_true rfl) (by decide) (by decide) ⟨by decide, by decide⟩ dX12_writeName_29 (fun w1 hp1 => ?_)
    obtain ⟨⟨u1, hu1, hwr1, hs1⟩, hf1⟩ := hp1
    subst hQ
    exact k_vret hC hr ⟨by decide, by decide⟩ (⟨rfl, rfl, ⟨_, hu1, ((by show _ = T ++ ((if _ then dgN 27 (96) 2 (x / 27) else []) ++ [96 + x % 27]); rw [if_neg (by omega)]; rfl) : T ++ [96 + x % 27] = T ++ dgN 27 (96) 3 x) ▸ hwr1, (fun j hj => (hs1 j hj).trans ((fun j _ => rfl) j hj))⟩, fun j hj => hf1 j (by omega)⟩) dX12_writeName_32
  · refine k_aload_n hC dX12_writeName_8 rfl 0 rfl ?_
    refine k_lload_n hC dX12_writeName_9 rfl 1 rfl ?_
    refine k_ldc2 hC (x := 27) (v := 27) dX12_writeName_10 (by decide) wk_X12_346 ?_
    refine k_ldiv hC dX12_writeName_13 (by omega) (by omega) ?_
    refine k_topv (vL (x / 27)) (congrArg vL (Int.tdiv_eq_ediv_of_nonneg (by omega))) ?_
    refine k_muvV hC (c_X12_writeName_2 l hls G hN w fl u T (x / 27) (by omega) (by omega) hm hwr) yy_X12_writeName wm_X12_348 (kl hN (by decide)) hm rfl rfl rfl rfl (Nat.le_of_ble_eq_true rfl) (by decide) (by decide) ⟨by decide, by decide⟩ dX12_writeName_14 (fun w2 hp2 => ?_)
    obtain ⟨⟨u2, hu2, hwr2, hs2⟩, hf2⟩ := hp2
    refine k_aload_n hC dX12_writeName_17 rfl 0 rfl ?_
    refine k_bipush hC dX12_writeName_18 (by decide) ?_
    refine k_lload_n hC dX12_writeName_20 rfl 1 rfl ?_
    refine k_ldc2 hC (x := 27) (v := 27) dX12_writeName_21 (by decide) wk_X12_346 ?_
    refine k_lrem hC dX12_writeName_24 (by omega) (by omega) ?_
    refine k_topv (vL (x % 27)) (congrArg vL (Int.tmod_eq_emod_of_nonneg (by omega))) ?_
    refine k_l2i hC dX12_writeName_25 ?_
    refine k_iadd hC dX12_writeName_26 ?_
    refine k_iconst hC dX12_writeName_27 ?_
    refine k_isub hC dX12_writeName_28 ?_
    refine k_topv (vI (96 + x % 27)) (congrArg vI (by omega)) ?_
    refine k_muvV hC (c_X12_write l hls G hN w2 fl u2 (T ++ dgN 27 (96) 2 (x / 27)) (96 + x % 27) (by first | omega | (rw [List.length_append]; have := dgN_l 27 (96) 2 (x / 27); omega)) hu2 hwr2) yy_X12_write wm_X12_341 (kl hN (by decide)) hu2 rfl rfl rfl rfl (Nat.le_of_ble_eq_true rfl) (by decide) (by decide) ⟨by decide, by decide⟩ dX12_writeName_29 (fun w3 hp3 => ?_)
    obtain ⟨⟨u3, hu3, hwr3, hs3⟩, hf3⟩ := hp3
    subst hQ
    exact k_vret hC hr ⟨by decide, by decide⟩ (⟨rfl, rfl, ⟨_, hu3, ((by show _ = T ++ ((if _ then dgN 27 (96) 2 (x / 27) else []) ++ [96 + x % 27]); rw [if_pos (by omega), List.append_assoc]) : T ++ dgN 27 (96) 2 (x / 27) ++ [96 + x % 27] = T ++ dgN 27 (96) 3 x) ▸ hwr3, (fun j hj => (hs3 j hj).trans ((fun j hj => (hs2 j hj).trans ((fun j _ => rfl) j hj)) j hj))⟩, fun j hj => (hf3 j (by omega)).trans (hf2 j (by omega))⟩) dX12_writeName_32

set_option maxRecDepth 100000 in
set_option maxHeartbeats 4000000 in
theorem c_X12_writeName_4 (l : Launch) (hls : l.stackTraces = false) (G : kG) (hN : kN G = 150) (w : Nat → va_E) (fl : va_W) (u : Nat → Int) (T : List Int) (x : Int) (hx : 0 ≤ x ∧ x < 14348907) (hlt : T.length + 5 ≤ 80) (hm : w 133 = mdO G u) (hwr : wrR G w u T) : KM l G yX12_writeName cX12_writeName 3 (none) 5 0 0 [.ref (kad G 133), vL x] w fl (kMuv fl (fun w1 => (∃ u1, w1 133 = mdO G u1 ∧ wrR G w1 u1 (T ++ dgN 27 (96) 4 x) ∧ ∀ j, j ≠ 15 → u1 j = u j) ∧ ∀ j, (j ≠ 133 ∧ j ≠ 143) → w1 j = w j)) := by
  refine KM_of2 hls (by decide +kernel) rfl (lv0 := [(0, .ref (kad G 133)), (1, vL x)]) rfl (Nat.le_of_ble_eq_true rfl) (fun p e R s m args below meth c Q hC hr hQ => ?_)
  refine k_lload_n hC dX12_writeName_0 rfl 1 rfl ?_
  refine k_ldc2 hC (x := 26) (v := 26) dX12_writeName_1 (by decide) wk_X12_344 ?_
  refine k_lcmp_le hC 17 dX12_writeName_4 dX12_writeName_5 rfl (by omega) (by omega) (fun c_4 => ?_) (fun c_4 => ?_)
  · refine k_aload_n hC dX12_writeName_17 rfl 0 rfl ?_
    refine k_bipush hC dX12_writeName_18 (by decide) ?_
    refine k_lload_n hC dX12_writeName_20 rfl 1 rfl ?_
    refine k_ldc2 hC (x := 27) (v := 27) dX12_writeName_21 (by decide) wk_X12_346 ?_
    refine k_lrem hC dX12_writeName_24 (by omega) (by omega) ?_
    refine k_topv (vL (x % 27)) (congrArg vL (Int.tmod_eq_emod_of_nonneg (by omega))) ?_
    refine k_l2i hC dX12_writeName_25 ?_
    refine k_iadd hC dX12_writeName_26 ?_
    refine k_iconst hC dX12_writeName_27 ?_
    refine k_isub hC dX12_writeName_28 ?_
    refine k_topv (vI (96 + x % 27)) (congrArg vI (by omega)) ?_
    refine k_muvV hC (c_X12_write l hls G hN w fl u T (96 + x % 27) (by first | omega | (rw [List.length_append]; have := dgN_l 27 (96) 3 (x / 27); omega)) hm hwr) yy_X12_write wm_X12_341 (kl hN (by decide)) hm rfl rfl rfl rfl (Nat.le_of_ble_eq_true rfl) (by decide) (by decide) ⟨by decide, by decide⟩ dX12_writeName_29 (fun w1 hp1 => ?_)
    obtain ⟨⟨u1, hu1, hwr1, hs1⟩, hf1⟩ := hp1
    subst hQ
    exact k_vret hC hr ⟨by decide, by decide⟩ (⟨rfl, rfl, ⟨_, hu1, ((by show _ = T ++ ((if _ then dgN 27 (96) 3 (x / 27) else []) ++ [96 + x % 27]); rw [if_neg (by omega)]; rfl) : T ++ [96 + x % 27] = T ++ dgN 27 (96) 4 x) ▸ hwr1, (fun j hj => (hs1 j hj).trans ((fun j _ => rfl) j hj))⟩, fun j hj => hf1 j (by omega)⟩) dX12_writeName_32
  · refine k_aload_n hC dX12_writeName_8 rfl 0 rfl ?_
    refine k_lload_n hC dX12_writeName_9 rfl 1 rfl ?_
    refine k_ldc2 hC (x := 27) (v := 27) dX12_writeName_10 (by decide) wk_X12_346 ?_
    refine k_ldiv hC dX12_writeName_13 (by omega) (by omega) ?_
    refine k_topv (vL (x / 27)) (congrArg vL (Int.tdiv_eq_ediv_of_nonneg (by omega))) ?_
    refine k_muvV hC (c_X12_writeName_3 l hls G hN w fl u T (x / 27) (by omega) (by omega) hm hwr) yy_X12_writeName wm_X12_348 (kl hN (by decide)) hm rfl rfl rfl rfl (Nat.le_of_ble_eq_true rfl) (by decide) (by decide) ⟨by decide, by decide⟩ dX12_writeName_14 (fun w2 hp2 => ?_)
    obtain ⟨⟨u2, hu2, hwr2, hs2⟩, hf2⟩ := hp2
    refine k_aload_n hC dX12_writeName_17 rfl 0 rfl ?_
    refine k_bipush hC dX12_writeName_18 (by decide) ?_
    refine k_lload_n hC dX12_writeName_20 rfl 1 rfl ?_
    refine k_ldc2 hC (x := 27) (v := 27) dX12_writeName_21 (by decide) wk_X12_346 ?_
    refine k_lrem hC dX12_writeName_24 (by omega) (by omega) ?_
    refine k_topv (vL (x % 27)) (congrArg vL (Int.tmod_eq_emod_of_nonneg (by omega))) ?_
    refine k_l2i hC dX12_writeName_25 ?_
    refine k_iadd hC dX12_writeName_26 ?_
    refine k_iconst hC dX12_writeName_27 ?_
    refine k_isub hC dX12_writeName_28 ?_
    refine k_topv (vI (96 + x % 27)) (congrArg vI (by omega)) ?_
    refine k_muvV hC (c_X12_write l hls G hN w2 fl u2 (T ++ dgN 27 (96) 3 (x / 27)) (96 + x % 27) (by first | omega | (rw [List.length_append]; have := dgN_l 27 (96) 3 (x / 27); omega)) hu2 hwr2) yy_X12_write wm_X12_341 (kl hN (by decide)) hu2 rfl rfl rfl rfl (Nat.le_of_ble_eq_true rfl) (by decide) (by decide) ⟨by decide, by decide⟩ dX12_writeName_29 (fun w3 hp3 => ?_)
    obtain ⟨⟨u3, hu3, hwr3, hs3⟩, hf3⟩ := hp3
    subst hQ
    exact k_vret hC hr ⟨by decide, by decide⟩ (⟨rfl, rfl, ⟨_, hu3, ((by show _ = T ++ ((if _ then dgN 27 (96) 3 (x / 27) else []) ++ [96 + x % 27]); rw [if_pos (by omega), List.append_assoc]) : T ++ dgN 27 (96) 3 (x / 27) ++ [96 + x % 27] = T ++ dgN 27 (96) 4 x) ▸ hwr3, (fun j hj => (hs3 j hj).trans ((fun j hj => (hs2 j hj).trans ((fun j _ => rfl) j hj)) j hj))⟩, fun j hj => (hf3 j (by omega)).trans (hf2 j (by omega))⟩) dX12_writeName_32

set_option maxRecDepth 100000 in
set_option maxHeartbeats 4000000 in
theorem c_X12_writeName_5 (l : Launch) (hls : l.stackTraces = false) (G : kG) (hN : kN G = 150) (w : Nat → va_E) (fl : va_W) (u : Nat → Int) (T : List Int) (x : Int) (hx : 0 ≤ x ∧ x < 387420489) (hlt : T.length + 6 ≤ 80) (hm : w 133 = mdO G u) (hwr : wrR G w u T) : KM l G yX12_writeName cX12_writeName 3 (none) 6 0 0 [.ref (kad G 133), vL x] w fl (kMuv fl (fun w1 => (∃ u1, w1 133 = mdO G u1 ∧ wrR G w1 u1 (T ++ dgN 27 (96) 5 x) ∧ ∀ j, j ≠ 15 → u1 j = u j) ∧ ∀ j, (j ≠ 133 ∧ j ≠ 143) → w1 j = w j)) := by
  refine KM_of2 hls (by decide +kernel) rfl (lv0 := [(0, .ref (kad G 133)), (1, vL x)]) rfl (Nat.le_of_ble_eq_true rfl) (fun p e R s m args below meth c Q hC hr hQ => ?_)
  refine k_lload_n hC dX12_writeName_0 rfl 1 rfl ?_
  refine k_ldc2 hC (x := 26) (v := 26) dX12_writeName_1 (by decide) wk_X12_344 ?_
  refine k_lcmp_le hC 17 dX12_writeName_4 dX12_writeName_5 rfl (by omega) (by omega) (fun c_4 => ?_) (fun c_4 => ?_)
  · refine k_aload_n hC dX12_writeName_17 rfl 0 rfl ?_
    refine k_bipush hC dX12_writeName_18 (by decide) ?_
    refine k_lload_n hC dX12_writeName_20 rfl 1 rfl ?_
    refine k_ldc2 hC (x := 27) (v := 27) dX12_writeName_21 (by decide) wk_X12_346 ?_
    refine k_lrem hC dX12_writeName_24 (by omega) (by omega) ?_
    refine k_topv (vL (x % 27)) (congrArg vL (Int.tmod_eq_emod_of_nonneg (by omega))) ?_
    refine k_l2i hC dX12_writeName_25 ?_
    refine k_iadd hC dX12_writeName_26 ?_
    refine k_iconst hC dX12_writeName_27 ?_
    refine k_isub hC dX12_writeName_28 ?_
    refine k_topv (vI (96 + x % 27)) (congrArg vI (by omega)) ?_
    refine k_muvV hC (c_X12_write l hls G hN w fl u T (96 + x % 27) (by first | omega | (rw [List.length_append]; have := dgN_l 27 (96) 4 (x / 27); omega)) hm hwr) yy_X12_write wm_X12_341 (kl hN (by decide)) hm rfl rfl rfl rfl (Nat.le_of_ble_eq_true rfl) (by decide) (by decide) ⟨by decide, by decide⟩ dX12_writeName_29 (fun w1 hp1 => ?_)
    obtain ⟨⟨u1, hu1, hwr1, hs1⟩, hf1⟩ := hp1
    subst hQ
    exact k_vret hC hr ⟨by decide, by decide⟩ (⟨rfl, rfl, ⟨_, hu1, ((by show _ = T ++ ((if _ then dgN 27 (96) 4 (x / 27) else []) ++ [96 + x % 27]); rw [if_neg (by omega)]; rfl) : T ++ [96 + x % 27] = T ++ dgN 27 (96) 5 x) ▸ hwr1, (fun j hj => (hs1 j hj).trans ((fun j _ => rfl) j hj))⟩, fun j hj => hf1 j (by omega)⟩) dX12_writeName_32
  · refine k_aload_n hC dX12_writeName_8 rfl 0 rfl ?_
    refine k_lload_n hC dX12_writeName_9 rfl 1 rfl ?_
    refine k_ldc2 hC (x := 27) (v := 27) dX12_writeName_10 (by decide) wk_X12_346 ?_
    refine k_ldiv hC dX12_writeName_13 (by omega) (by omega) ?_
    refine k_topv (vL (x / 27)) (congrArg vL (Int.tdiv_eq_ediv_of_nonneg (by omega))) ?_
    refine k_muvV hC (c_X12_writeName_4 l hls G hN w fl u T (x / 27) (by omega) (by omega) hm hwr) yy_X12_writeName wm_X12_348 (kl hN (by decide)) hm rfl rfl rfl rfl (Nat.le_of_ble_eq_true rfl) (by decide) (by decide) ⟨by decide, by decide⟩ dX12_writeName_14 (fun w2 hp2 => ?_)
    obtain ⟨⟨u2, hu2, hwr2, hs2⟩, hf2⟩ := hp2
    refine k_aload_n hC dX12_writeName_17 rfl 0 rfl ?_
    refine k_bipush hC dX12_writeName_18 (by decide) ?_
    refine k_lload_n hC dX12_writeName_20 rfl 1 rfl ?_
    refine k_ldc2 hC (x := 27) (v := 27) dX12_writeName_21 (by decide) wk_X12_346 ?_
    refine k_lrem hC dX12_writeName_24 (by omega) (by omega) ?_
    refine k_topv (vL (x % 27)) (congrArg vL (Int.tmod_eq_emod_of_nonneg (by omega))) ?_
    refine k_l2i hC dX12_writeName_25 ?_
    refine k_iadd hC dX12_writeName_26 ?_
    refine k_iconst hC dX12_writeName_27 ?_
    refine k_isub hC dX12_writeName_28 ?_
    refine k_topv (vI (96 + x % 27)) (congrArg vI (by omega)) ?_
    refine k_muvV hC (c_X12_write l hls G hN w2 fl u2 (T ++ dgN 27 (96) 4 (x / 27)) (96 + x % 27) (by first | omega | (rw [List.length_append]; have := dgN_l 27 (96) 4 (x / 27); omega)) hu2 hwr2) yy_X12_write wm_X12_341 (kl hN (by decide)) hu2 rfl rfl rfl rfl (Nat.le_of_ble_eq_true rfl) (by decide) (by decide) ⟨by decide, by decide⟩ dX12_writeName_29 (fun w3 hp3 => ?_)
    obtain ⟨⟨u3, hu3, hwr3, hs3⟩, hf3⟩ := hp3
    subst hQ
    exact k_vret hC hr ⟨by decide, by decide⟩ (⟨rfl, rfl, ⟨_, hu3, ((by show _ = T ++ ((if _ then dgN 27 (96) 4 (x / 27) else []) ++ [96 + x % 27]); rw [if_pos (by omega), List.append_assoc]) : T ++ dgN 27 (96) 4 (x / 27) ++ [96 + x % 27] = T ++ dgN 27 (96) 5 x) ▸ hwr3, (fun j hj => (hs3 j hj).trans ((fun j hj => (hs2 j hj).trans ((fun j _ => rfl) j hj)) j hj))⟩, fun j hj => (hf3 j (by omega)).trans (hf2 j (by omega))⟩) dX12_writeName_32

set_option maxRecDepth 100000 in
set_option maxHeartbeats 4000000 in
theorem c_X12_writeName_6 (l : Launch) (hls : l.stackTraces = false) (G : kG) (hN : kN G = 150) (w : Nat → va_E) (fl : va_W) (u : Nat → Int) (T : List Int) (x : Int) (hx : 0 ≤ x ∧ x < 10460353203) (hlt : T.length + 7 ≤ 80) (hm : w 133 = mdO G u) (hwr : wrR G w u T) : KM l G yX12_writeName cX12_writeName 3 (none) 7 0 0 [.ref (kad G 133), vL x] w fl (kMuv fl (fun w1 => (∃ u1, w1 133 = mdO G u1 ∧ wrR G w1 u1 (T ++ dgN 27 (96) 6 x) ∧ ∀ j, j ≠ 15 → u1 j = u j) ∧ ∀ j, (j ≠ 133 ∧ j ≠ 143) → w1 j = w j)) := by
  refine KM_of2 hls (by decide +kernel) rfl (lv0 := [(0, .ref (kad G 133)), (1, vL x)]) rfl (Nat.le_of_ble_eq_true rfl) (fun p e R s m args below meth c Q hC hr hQ => ?_)
  refine k_lload_n hC dX12_writeName_0 rfl 1 rfl ?_
  refine k_ldc2 hC (x := 26) (v := 26) dX12_writeName_1 (by decide) wk_X12_344 ?_
  refine k_lcmp_le hC 17 dX12_writeName_4 dX12_writeName_5 rfl (by omega) (by omega) (fun c_4 => ?_) (fun c_4 => ?_)
  · refine k_aload_n hC dX12_writeName_17 rfl 0 rfl ?_
    refine k_bipush hC dX12_writeName_18 (by decide) ?_
    refine k_lload_n hC dX12_writeName_20 rfl 1 rfl ?_
    refine k_ldc2 hC (x := 27) (v := 27) dX12_writeName_21 (by decide) wk_X12_346 ?_
    refine k_lrem hC dX12_writeName_24 (by omega) (by omega) ?_
    refine k_topv (vL (x % 27)) (congrArg vL (Int.tmod_eq_emod_of_nonneg (by omega))) ?_
    refine k_l2i hC dX12_writeName_25 ?_
    refine k_iadd hC dX12_writeName_26 ?_
    refine k_iconst hC dX12_writeName_27 ?_
    refine k_isub hC dX12_writeName_28 ?_
    refine k_topv (vI (96 + x % 27)) (congrArg vI (by omega)) ?_
    refine k_muvV hC (c_X12_write l hls G hN w fl u T (96 + x % 27) (by first | omega | (rw [List.length_append]; have := dgN_l 27 (96) 5 (x / 27); omega)) hm hwr) yy_X12_write wm_X12_341 (kl hN (by decide)) hm rfl rfl rfl rfl (Nat.le_of_ble_eq_true rfl) (by decide) (by decide) ⟨by decide, by decide⟩ dX12_writeName_29 (fun w1 hp1 => ?_)
    obtain ⟨⟨u1, hu1, hwr1, hs1⟩, hf1⟩ := hp1
    subst hQ
    exact k_vret hC hr ⟨by decide, by decide⟩ (⟨rfl, rfl, ⟨_, hu1, ((by show _ = T ++ ((if _ then dgN 27 (96) 5 (x / 27) else []) ++ [96 + x % 27]); rw [if_neg (by omega)]; rfl) : T ++ [96 + x % 27] = T ++ dgN 27 (96) 6 x) ▸ hwr1, (fun j hj => (hs1 j hj).trans ((fun j _ => rfl) j hj))⟩, fun j hj => hf1 j (by omega)⟩) dX12_writeName_32
  · refine k_aload_n hC dX12_writeName_8 rfl 0 rfl ?_
    refine k_lload_n hC dX12_writeName_9 rfl 1 rfl ?_
    refine k_ldc2 hC (x := 27) (v := 27) dX12_writeName_10 (by decide) wk_X12_346 ?_
    refine k_ldiv hC dX12_writeName_13 (by omega) (by omega) ?_
    refine k_topv (vL (x / 27)) (congrArg vL (Int.tdiv_eq_ediv_of_nonneg (by omega))) ?_
    refine k_muvV hC (c_X12_writeName_5 l hls G hN w fl u T (x / 27) (by omega) (by omega) hm hwr) yy_X12_writeName wm_X12_348 (kl hN (by decide)) hm rfl rfl rfl rfl (Nat.le_of_ble_eq_true rfl) (by decide) (by decide) ⟨by decide, by decide⟩ dX12_writeName_14 (fun w2 hp2 => ?_)
    obtain ⟨⟨u2, hu2, hwr2, hs2⟩, hf2⟩ := hp2
    refine k_aload_n hC dX12_writeName_17 rfl 0 rfl ?_
    refine k_bipush hC dX12_writeName_18 (by decide) ?_
    refine k_lload_n hC dX12_writeName_20 rfl 1 rfl ?_
    refine k_ldc2 hC (x := 27) (v := 27) dX12_writeName_21 (by decide) wk_X12_346 ?_
    refine k_lrem hC dX12_writeName_24 (by omega) (by omega) ?_
    refine k_topv (vL (x % 27)) (congrArg vL (Int.tmod_eq_emod_of_nonneg (by omega))) ?_
    refine k_l2i hC dX12_writeName_25 ?_
    refine k_iadd hC dX12_writeName_26 ?_
    refine k_iconst hC dX12_writeName_27 ?_
    refine k_isub hC dX12_writeName_28 ?_
    refine k_topv (vI (96 + x % 27)) (congrArg vI (by omega)) ?_
    refine k_muvV hC (c_X12_write l hls G hN w2 fl u2 (T ++ dgN 27 (96) 5 (x / 27)) (96 + x % 27) (by first | omega | (rw [List.length_append]; have := dgN_l 27 (96) 5 (x / 27); omega)) hu2 hwr2) yy_X12_write wm_X12_341 (kl hN (by decide)) hu2 rfl rfl rfl rfl (Nat.le_of_ble_eq_true rfl) (by decide) (by decide) ⟨by decide, by decide⟩ dX12_writeName_29 (fun w3 hp3 => ?_)
    obtain ⟨⟨u3, hu3, hwr3, hs3⟩, hf3⟩ := hp3
    subst hQ
    exact k_vret hC hr ⟨by decide, by decide⟩ (⟨rfl, rfl, ⟨_, hu3, ((by show _ = T ++ ((if _ then dgN 27 (96) 5 (x / 27) else []) ++ [96 + x % 27]); rw [if_pos (by omega), List.append_assoc]) : T ++ dgN 27 (96) 5 (x / 27) ++ [96 + x % 27] = T ++ dgN 27 (96) 6 x) ▸ hwr3, (fun j hj => (hs3 j hj).trans ((fun j hj => (hs2 j hj).trans ((fun j _ => rfl) j hj)) j hj))⟩, fun j hj => (hf3 j (by omega)).trans (hf2 j (by omega))⟩) dX12_writeName_32

set_option maxRecDepth 100000 in
set_option maxHeartbeats 4000000 in
theorem c_X12_writeName_7 (l : Launch) (hls : l.stackTraces = false) (G : kG) (hN : kN G = 150) (w : Nat → va_E) (fl : va_W) (u : Nat → Int) (T : List Int) (x : Int) (hx : 0 ≤ x ∧ x < 282429536481) (hlt : T.length + 8 ≤ 80) (hm : w 133 = mdO G u) (hwr : wrR G w u T) : KM l G yX12_writeName cX12_writeName 3 (none) 8 0 0 [.ref (kad G 133), vL x] w fl (kMuv fl (fun w1 => (∃ u1, w1 133 = mdO G u1 ∧ wrR G w1 u1 (T ++ dgN 27 (96) 7 x) ∧ ∀ j, j ≠ 15 → u1 j = u j) ∧ ∀ j, (j ≠ 133 ∧ j ≠ 143) → w1 j = w j)) := by
  refine KM_of2 hls (by decide +kernel) rfl (lv0 := [(0, .ref (kad G 133)), (1, vL x)]) rfl (Nat.le_of_ble_eq_true rfl) (fun p e R s m args below meth c Q hC hr hQ => ?_)
  refine k_lload_n hC dX12_writeName_0 rfl 1 rfl ?_
  refine k_ldc2 hC (x := 26) (v := 26) dX12_writeName_1 (by decide) wk_X12_344 ?_
  refine k_lcmp_le hC 17 dX12_writeName_4 dX12_writeName_5 rfl (by omega) (by omega) (fun c_4 => ?_) (fun c_4 => ?_)
  · refine k_aload_n hC dX12_writeName_17 rfl 0 rfl ?_
    refine k_bipush hC dX12_writeName_18 (by decide) ?_
    refine k_lload_n hC dX12_writeName_20 rfl 1 rfl ?_
    refine k_ldc2 hC (x := 27) (v := 27) dX12_writeName_21 (by decide) wk_X12_346 ?_
    refine k_lrem hC dX12_writeName_24 (by omega) (by omega) ?_
    refine k_topv (vL (x % 27)) (congrArg vL (Int.tmod_eq_emod_of_nonneg (by omega))) ?_
    refine k_l2i hC dX12_writeName_25 ?_
    refine k_iadd hC dX12_writeName_26 ?_
    refine k_iconst hC dX12_writeName_27 ?_
    refine k_isub hC dX12_writeName_28 ?_
    refine k_topv (vI (96 + x % 27)) (congrArg vI (by omega)) ?_
    refine k_muvV hC (c_X12_write l hls G hN w fl u T (96 + x % 27) (by first | omega | (rw [List.length_append]; have := dgN_l 27 (96) 6 (x / 27); omega)) hm hwr) yy_X12_write wm_X12_341 (kl hN (by decide)) hm rfl rfl rfl rfl (Nat.le_of_ble_eq_true rfl) (by decide) (by decide) ⟨by decide, by decide⟩ dX12_writeName_29 (fun w1 hp1 => ?_)
    obtain ⟨⟨u1, hu1, hwr1, hs1⟩, hf1⟩ := hp1
    subst hQ
    exact k_vret hC hr ⟨by decide, by decide⟩ (⟨rfl, rfl, ⟨_, hu1, ((by show _ = T ++ ((if _ then dgN 27 (96) 6 (x / 27) else []) ++ [96 + x % 27]); rw [if_neg (by omega)]; rfl) : T ++ [96 + x % 27] = T ++ dgN 27 (96) 7 x) ▸ hwr1, (fun j hj => (hs1 j hj).trans ((fun j _ => rfl) j hj))⟩, fun j hj => hf1 j (by omega)⟩) dX12_writeName_32
  · refine k_aload_n hC dX12_writeName_8 rfl 0 rfl ?_
    refine k_lload_n hC dX12_writeName_9 rfl 1 rfl ?_
    refine k_ldc2 hC (x := 27) (v := 27) dX12_writeName_10 (by decide) wk_X12_346 ?_
    refine k_ldiv hC dX12_writeName_13 (by omega) (by omega) ?_
    refine k_topv (vL (x / 27)) (congrArg vL (Int.tdiv_eq_ediv_of_nonneg (by omega))) ?_
    refine k_muvV hC (c_X12_writeName_6 l hls G hN w fl u T (x / 27) (by omega) (by omega) hm hwr) yy_X12_writeName wm_X12_348 (kl hN (by decide)) hm rfl rfl rfl rfl (Nat.le_of_ble_eq_true rfl) (by decide) (by decide) ⟨by decide, by decide⟩ dX12_writeName_14 (fun w2 hp2 => ?_)
    obtain ⟨⟨u2, hu2, hwr2, hs2⟩, hf2⟩ := hp2
    refine k_aload_n hC dX12_writeName_17 rfl 0 rfl ?_
    refine k_bipush hC dX12_writeName_18 (by decide) ?_
    refine k_lload_n hC dX12_writeName_20 rfl 1 rfl ?_
    refine k_ldc2 hC (x := 27) (v := 27) dX12_writeName_21 (by decide) wk_X12_346 ?_
    refine k_lrem hC dX12_writeName_24 (by omega) (by omega) ?_
    refine k_topv (vL (x % 27)) (congrArg vL (Int.tmod_eq_emod_of_nonneg (by omega))) ?_
    refine k_l2i hC dX12_writeName_25 ?_
    refine k_iadd hC dX12_writeName_26 ?_
    refine k_iconst hC dX12_writeName_27 ?_
    refine k_isub hC dX12_writeName_28 ?_
    refine k_topv (vI (96 + x % 27)) (congrArg vI (by omega)) ?_
    refine k_muvV hC (c_X12_write l hls G hN w2 fl u2 (T ++ dgN 27 (96) 6 (x / 27)) (96 + x % 27) (by first | omega | (rw [List.length_append]; have := dgN_l 27 (96) 6 (x / 27); omega)) hu2 hwr2) yy_X12_write wm_X12_341 (kl hN (by decide)) hu2 rfl rfl rfl rfl (Nat.le_of_ble_eq_true rfl) (by decide) (by decide) ⟨by decide, by decide⟩ dX12_writeName_29 (fun w3 hp3 => ?_)
    obtain ⟨⟨u3, hu3, hwr3, hs3⟩, hf3⟩ := hp3
    subst hQ
    exact k_vret hC hr ⟨by decide, by decide⟩ (⟨rfl, rfl, ⟨_, hu3, ((by show _ = T ++ ((if _ then dgN 27 (96) 6 (x / 27) else []) ++ [96 + x % 27]); rw [if_pos (by omega), List.append_assoc]) : T ++ dgN 27 (96) 6 (x / 27) ++ [96 + x % 27] = T ++ dgN 27 (96) 7 x) ▸ hwr3, (fun j hj => (hs3 j hj).trans ((fun j hj => (hs2 j hj).trans ((fun j _ => rfl) j hj)) j hj))⟩, fun j hj => (hf3 j (by omega)).trans (hf2 j (by omega))⟩) dX12_writeName_32

