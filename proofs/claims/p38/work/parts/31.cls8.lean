noncomputable def wlM (bt : Nat → Int) (n : Nat) (st : PS) : Int := selI (st.1 = 0 ∧ kdM bt n st.2.2 = 1) ((enM bt n st.2.2 : Int) - (st.2.2 : Int)) 0
noncomputable def neP (bt : Nat → Int) (n : Nat) (st : PS) : PS := selP (goP bt n st) (flP 1 st) st
noncomputable def nhV (bt : Nat → Int) (n : Nat) (lo hi : Int) (st : PS) : Int := selI ((nhP bt n lo hi st).1 = 0) (nv bt n st) 0
noncomputable def sgW (bt : Nat → Int) (n : Nat) (m : Int) (st : PS) : Int := selI (isS bt n 45 st) (-(nhV bt n 0 m (sg0 bt n st))) (nhV bt n 0 m (sg0 bt n st))
theorem nhV_0 {bt : Nat → Int} {n : Nat} {lo hi : Int} {st : PS} (h : (nhP bt n lo hi st).1 = 0) : nhV bt n lo hi st = nv bt n st := selI_1 h
theorem nhV_t {bt : Nat → Int} {n : Nat} {lo hi : Int} {st : PS} (h : (tkP bt n lo hi st).1 = 0) : nhV bt n lo hi st = nv bt n st := selI_1 (ad_c.mp h)
theorem sgW_0 {bt : Nat → Int} {n : Nat} {m : Int} {st : PS} (h : (sgP bt n m st).1 = 0) : sgW bt n m st = sgV bt n st := by
  have h1 : nhV bt n 0 m (sg0 bt n st) = nv bt n (sg0 bt n st) := nhV_t h
  unfold sgW sgV
  rw [h1]
  by_cases q : isS bt n 45 st
  · rw [selI_1 q, selP_1 q]
  · rw [selI_0 q, selP_0 q]
theorem nhV_b {bt : Nat → Int} {n : Nat} {lo hi : Int} {st : PS} (h0 : 0 ≤ lo) (h1 : 0 ≤ hi) : 0 ≤ nhV bt n lo hi st ∧ nhV bt n lo hi st ≤ hi := by
  by_cases q : (nhP bt n lo hi st).1 = 0
  · rw [nhV_0 q]; have := (nh_0 q).2.1; omega
  · unfold nhV; rw [selI_0 q]; omega
theorem sgW_b {bt : Nat → Int} {n : Nat} {m : Int} {st : PS} (h : 0 ≤ m) : -m ≤ sgW bt n m st ∧ sgW bt n m st ≤ m := by
  have h1 := nhV_b (bt := bt) (n := n) (lo := 0) (hi := m) (st := sg0 bt n st) (by omega) h
  unfold sgW
  by_cases q : isS bt n 45 st
  · rw [selI_1 q]; omega
  · rw [selI_0 q]; omega
theorem tk_open {G : kG} {w : Nat → va_E} {bt : Nat → Int} {n : Nat} {st : PS} (h : tkR G w bt n st) : ∃ (cn ea kd nm sa : Int) (p9 : Nat), p9 ≤ n ∧ w 1 = tkO G cn st.1 ea kd nm sa (p9 : Int) (n : Int) ∧ ∀ w1 : Nat → va_E, (∃ nm1 : Int, w1 1 = tkO G cn st.1 ea (kdM bt n (skM bt n p9)) nm1 (skM bt n p9 : Int) (enM bt n (skM bt n p9) : Int) (n : Int) ∧ (kdM bt n (skM bt n p9) = 2 → nm1 = min 1000000 (numM bt n (skM bt n p9)))) → tkR G w1 bt n (adP bt n st) := by
  obtain ⟨cn, ea, kd, nm, sa, nx, h1, hcn, hk0, hk1⟩ := h
  by_cases hz : st.1 = 0
  · obtain ⟨a1, a2, a3, a4, a5, a6⟩ := hk0 hz
    have hen := enM_b (bt := bt) a1
    refine ⟨cn, ea, kd, nm, sa, enM bt n st.2.2, hen.2, by rw [h1, a5], fun w1 ⟨nm1, q1, q2⟩ => ?_⟩
    have hsk := skM_b (bt := bt) hen.2
    rw [adP_0 hz]
    exact ⟨cn, ea, _, nm1, _, _, by rw [q1, hz], hcn, fun _ => ⟨hsk.2, a2, rfl, rfl, rfl, q2⟩, fun q => absurd rfl q⟩
  · obtain ⟨a1, a2, a3, a4⟩ := hk1 hz
    refine ⟨cn, ea, kd, nm, sa, n, Nat.le_refl _, by rw [h1, a4], fun w1 ⟨nm1, q1, q2⟩ => ?_⟩
    have hsk : skM bt n n = n := runM_e (Or.inl (Nat.le_refl _))
    have hkc := kd_c bt n n
    rw [hsk] at q1
    rw [adP_e hz]
    exact ⟨cn, ea, _, nm1, _, _, q1, hcn, fun q => absurd q hz, fun _ => ⟨a1, a2, by omega, by omega⟩⟩
theorem sb8_b {x : Int} (h : 0 ≤ x ∧ x ≤ 255) : -128 ≤ sb8 x ∧ sb8 x < 128 := by unfold sb8; split <;> omega
def byOf (a : Int) (k : Nat) : Int := if k = 0 then a / 2 ^ 24 % 256 else if k = 1 then a / 2 ^ 16 % 256 else if k = 2 then a / 2 ^ 8 % 256 else a % 256
def bput (bt : Nat → Int) (c : Nat) (a : Int) : Nat → Int := fun j => if c ≤ j ∧ j < c + 4 then byOf a (j - c) else bt j
theorem byOf_b (a : Int) (k : Nat) : 0 ≤ byOf a k ∧ byOf a k ≤ 255 := by unfold byOf; repeat (first | omega | split)
theorem bput_ok {bt : Nat → Int} (h : btOK bt) (c : Nat) (a : Int) : btOK (bput bt c a) := fun j => by
  unfold bput; split
  · exact byOf_b _ _
  · exact h j
theorem bput_e {G : kG} {bt : Nat → Int} {c : Nat} {a : Int} : bA G 700 (kup (kup (kup (kup (fun j => sb8 (bt j)) c (sb8 (a / 2 ^ 24 % 256))) (c + 1) (sb8 (a / 2 ^ 16 % 256))) (c + 1 + 1) (sb8 (a / 2 ^ 8 % 256))) (c + 1 + 1 + 1) (sb8 (a % 256))) = byA G (bput bt c a) := bA_congr (fun j hj => by
  show _ = sb8 (bput bt c a j)
  unfold kup bput
  by_cases h3 : j = c + 1 + 1 + 1
  · rw [if_pos h3, if_pos (by omega), show j - c = 3 by omega]; rfl
  rw [if_neg h3]
  by_cases h2 : j = c + 1 + 1
  · rw [if_pos h2, if_pos (by omega), show j - c = 2 by omega]; rfl
  rw [if_neg h2]
  by_cases h1 : j = c + 1
  · rw [if_pos h1, if_pos (by omega), show j - c = 1 by omega]; rfl
  rw [if_neg h1]
  by_cases h0 : j = c
  · rw [if_pos h0, if_pos (by omega), show j - c = 0 by omega]; rfl
  · rw [if_neg h0, if_neg (by omega)])
set_option maxRecDepth 100000 in
set_option maxHeartbeats 4000000 in
theorem c_X10_append (l : Launch) (hls : l.stackTraces = false) (G : kG) (hN : 133 ≤ kN G) (w : Nat → va_E) (fl : va_W) (bt : Nat → Int) (c0 : Nat) (a cd ea kd nm sa nx en : Int) (ha : -2147483648 ≤ a ∧ a ≤ 2147483647) (hc0 : c0 + 4 ≤ 700) (h2 : w 2 = byA G bt) (h1 : w 1 = .inr (10, [.ref (kad G 2), vI (c0 : Int), vI cd, vI ea, vI kd, vI nm, vI sa, vI nx, vI en])) : KM l G yX10_append cX10_append 3 (none) 0 0 0 [.ref (kad G 1), vI a] w fl (kMuv fl (fun w1 => w1 1 = tkO G ((c0 + 4 : Nat) : Int) cd ea kd nm sa nx en ∧ w1 2 = byA G (bput bt c0 a) ∧ ∀ j, (j ≠ 1 ∧ j ≠ 2) → w1 j = w j)) := by
  refine KM_of2 hls (by decide +kernel) rfl (lv0 := [(0, .ref (kad G 1)), (1, vI a)]) rfl (Nat.le_of_ble_eq_true rfl) (fun p e R s m args below meth c Q hC hr hQ => ?_)
  refine k_bipush hC dX10_append_0 (by decide) ?_
  refine k_istore_n hC [(2, vI 24), (0, .ref (kad G 1)), (1, vI a)] dX10_append_2 rfl (by decide) rfl ?_
  refine k_iload_n hC dX10_append_3 rfl 0 rfl ?_
  refine k_if_lt hC 48 dX10_append_4 rfl (by omega) (fun c_4 => absurd c_4 (by omega)) (fun c_4 => ?_)
  refine k_aload_n hC dX10_append_7 rfl 1 rfl ?_
  refine k_get hC fd_X10_19 (kl hN (by decide)) h1 rfl dX10_append_8 ?_
  refine k_aload_n hC dX10_append_11 rfl 1 rfl ?_
  refine k_get hC fd_X10_9 (kl hN (by decide)) h1 rfl dX10_append_12 ?_
  refine k_alen hC (n := 700) (kl hN (by decide)) h2 2 rfl rfl rfl dX10_append_15 ?_
  refine k_icmp_ge hC 42 dX10_append_16 rfl (by omega) (by omega) (fun c_16 => absurd c_16 (by omega)) (fun c_16 => ?_)
  refine k_aload_n hC dX10_append_19 rfl 1 rfl ?_
  refine k_get hC fd_X10_9 (kl hN (by decide)) h1 rfl dX10_append_20 ?_
  refine k_aload_n hC dX10_append_23 rfl 1 rfl ?_
  refine k_get hC fd_X10_19 (kl hN (by decide)) h1 rfl dX10_append_24 ?_
  refine k_iload_n hC dX10_append_27 rfl 2 rfl ?_
  refine k_iload_n hC dX10_append_28 rfl 0 rfl ?_
  refine k_ishr hC 24 dX10_append_29 rfl (by decide) (by omega) ?_
  refine k_i2b hC dX10_append_30 ?_
  refine k_bast hC (kl hN (by decide)) h2 (by omega) (by decide) (sb8_b (by omega)) dX10_append_31 (fun w1 hw1 hf1 => ?_)
  refine k_aload_n hC dX10_append_32 rfl 1 rfl ?_
  refine k_dup hC dX10_append_33 rfl ?_
  have h_2 : w1 1 = .inr (10, [.ref (kad G 2), vI (c0 : Int), vI cd, vI ea, vI kd, vI nm, vI sa, vI nx, vI en]) := (hf1 1 (by decide)).trans h1
  refine k_get hC fd_X10_19 (kl hN (by decide)) h_2 rfl dX10_append_34 ?_
  refine k_iconst hC dX10_append_37 ?_
  refine k_iadd hC dX10_append_38 ?_
  refine k_put hC fd_X10_19 (kl hN (by decide)) h_2 [.ref (kad G 2), vI ((c0 : Int) + 1), vI cd, vI ea, vI kd, vI nm, vI sa, vI nx, vI en] rfl (Nat.le_of_ble_eq_true rfl) rfl rfl dX10_append_39 (fun w3 hw3 hf3 => ?_)
  refine k_iinc hC (y := 16) [(2, vI 16), (0, .ref (kad G 1)), (1, vI a)] (j := 0) dX10_append_42 rfl (by decide) (by decide) rfl ?_
  refine k_goto hC 3 dX10_append_45 rfl ?_
  refine k_iload_n hC dX10_append_3 rfl 0 rfl ?_
  refine k_if_lt hC 48 dX10_append_4 rfl (by omega) (fun c_4 => absurd c_4 (by omega)) (fun c_4 => ?_)
  refine k_aload_n hC dX10_append_7 rfl 1 rfl ?_
  refine k_get hC fd_X10_19 (kl hN (by decide)) hw3 rfl dX10_append_8 ?_
  refine k_aload_n hC dX10_append_11 rfl 1 rfl ?_
  refine k_get hC fd_X10_9 (kl hN (by decide)) hw3 rfl dX10_append_12 ?_
  have h_4 : w3 2 = bA G 700 (kup (fun j => sb8 (bt j)) ((c0 : Int)).toNat (sb8 ((a / 2 ^ 24) % 256))) := (hf3 2 (by decide)).trans hw1
  refine k_alen hC (n := 700) (kl hN (by decide)) h_4 2 rfl rfl rfl dX10_append_15 ?_
  refine k_icmp_ge hC 42 dX10_append_16 rfl (by omega) (by omega) (fun c_16 => absurd c_16 (by omega)) (fun c_16 => ?_)
  refine k_aload_n hC dX10_append_19 rfl 1 rfl ?_
  refine k_get hC fd_X10_9 (kl hN (by decide)) hw3 rfl dX10_append_20 ?_
  refine k_aload_n hC dX10_append_23 rfl 1 rfl ?_
  refine k_get hC fd_X10_19 (kl hN (by decide)) hw3 rfl dX10_append_24 ?_
  refine k_iload_n hC dX10_append_27 rfl 2 rfl ?_
  refine k_iload_n hC dX10_append_28 rfl 0 rfl ?_
  refine k_ishr hC 16 dX10_append_29 rfl (by decide) (by omega) ?_
  refine k_i2b hC dX10_append_30 ?_
  refine k_bast hC (kl hN (by decide)) h_4 (by omega) (by decide) (sb8_b (by omega)) dX10_append_31 (fun w5 hw5 hf5 => ?_)
  refine k_aload_n hC dX10_append_32 rfl 1 rfl ?_
  refine k_dup hC dX10_append_33 rfl ?_
  have h_6 : w5 1 = .inr (10, [.ref (kad G 2), vI ((c0 : Int) + 1), vI cd, vI ea, vI kd, vI nm, vI sa, vI nx, vI en]) := (hf5 1 (by decide)).trans hw3
  refine k_get hC fd_X10_19 (kl hN (by decide)) h_6 rfl dX10_append_34 ?_
  refine k_iconst hC dX10_append_37 ?_
  refine k_iadd hC dX10_append_38 ?_
  refine k_put hC fd_X10_19 (kl hN (by decide)) h_6 [.ref (kad G 2), vI (((c0 : Int) + 1) + 1), vI cd, vI ea, vI kd, vI nm, vI sa, vI nx, vI en] rfl (Nat.le_of_ble_eq_true rfl) rfl rfl dX10_append_39 (fun w7 hw7 hf7 => ?_)
  refine k_iinc hC (y := 8) [(2, vI 8), (0, .ref (kad G 1)), (1, vI a)] (j := 0) dX10_append_42 rfl (by decide) (by decide) rfl ?_
  refine k_goto hC 3 dX10_append_45 rfl ?_
  refine k_iload_n hC dX10_append_3 rfl 0 rfl ?_
  refine k_if_lt hC 48 dX10_append_4 rfl (by omega) (fun c_4 => absurd c_4 (by omega)) (fun c_4 => ?_)
  refine k_aload_n hC dX10_append_7 rfl 1 rfl ?_
  refine k_get hC fd_X10_19 (kl hN (by decide)) hw7 rfl dX10_append_8 ?_
  refine k_aload_n hC dX10_append_11 rfl 1 rfl ?_
  refine k_get hC fd_X10_9 (kl hN (by decide)) hw7 rfl dX10_append_12 ?_
  have h_8 : w7 2 = bA G 700 (kup (kup (fun j => sb8 (bt j)) ((c0 : Int)).toNat (sb8 ((a / 2 ^ 24) % 256))) ((c0 : Int) + 1).toNat (sb8 ((a / 2 ^ 16) % 256))) := (hf7 2 (by decide)).trans hw5
  refine k_alen hC (n := 700) (kl hN (by decide)) h_8 2 rfl rfl rfl dX10_append_15 ?_
  refine k_icmp_ge hC 42 dX10_append_16 rfl (by omega) (by omega) (fun c_16 => absurd c_16 (by omega)) (fun c_16 => ?_)
  refine k_aload_n hC dX10_append_19 rfl 1 rfl ?_
  refine k_get hC fd_X10_9 (kl hN (by decide)) hw7 rfl dX10_append_20 ?_
  refine k_aload_n hC dX10_append_23 rfl 1 rfl ?_
  refine k_get hC fd_X10_19 (kl hN (by decide)) hw7 rfl dX10_append_24 ?_
  refine k_iload_n hC dX10_append_27 rfl 2 rfl ?_
  refine k_iload_n hC dX10_append_28 rfl 0 rfl ?_
  refine k_ishr hC 8 dX10_append_29 rfl (by decide) (by omega) ?_
  refine k_i2b hC dX10_append_30 ?_
  refine k_bast hC (kl hN (by decide)) h_8 (by omega) (by decide) (sb8_b (by omega)) dX10_append_31 (fun w9 hw9 hf9 => ?_)
  refine k_aload_n hC dX10_append_32 rfl 1 rfl ?_
  refine k_dup hC dX10_append_33 rfl ?_
  have h_10 : w9 1 = .inr (10, [.ref (kad G 2), vI (((c0 : Int) + 1) + 1), vI cd, vI ea, vI kd, vI nm, vI sa, vI nx, vI en]) := (hf9 1 (by decide)).trans hw7
  refine k_get hC fd_X10_19 (kl hN (by decide)) h_10 rfl dX10_append_34 ?_
  refine k_iconst hC dX10_append_37 ?_
  refine k_iadd hC dX10_append_38 ?_
  refine k_put hC fd_X10_19 (kl hN (by decide)) h_10 [.ref (kad G 2), vI ((((c0 : Int) + 1) + 1) + 1), vI cd, vI ea, vI kd, vI nm, vI sa, vI nx, vI en] rfl (Nat.le_of_ble_eq_true rfl) rfl rfl dX10_append_39 (fun w11 hw11 hf11 => ?_)
  refine k_iinc hC (y := 0) [(2, vI 0), (0, .ref (kad G 1)), (1, vI a)] (j := 0) dX10_append_42 rfl (by decide) (by decide) rfl ?_
  refine k_goto hC 3 dX10_append_45 rfl ?_
  refine k_iload_n hC dX10_append_3 rfl 0 rfl ?_
  refine k_if_lt hC 48 dX10_append_4 rfl (by omega) (fun c_4 => absurd c_4 (by omega)) (fun c_4 => ?_)
  refine k_aload_n hC dX10_append_7 rfl 1 rfl ?_
  refine k_get hC fd_X10_19 (kl hN (by decide)) hw11 rfl dX10_append_8 ?_
  refine k_aload_n hC dX10_append_11 rfl 1 rfl ?_
  refine k_get hC fd_X10_9 (kl hN (by decide)) hw11 rfl dX10_append_12 ?_
  have h_12 : w11 2 = bA G 700 (kup (kup (kup (fun j => sb8 (bt j)) ((c0 : Int)).toNat (sb8 ((a / 2 ^ 24) % 256))) ((c0 : Int) + 1).toNat (sb8 ((a / 2 ^ 16) % 256))) (((c0 : Int) + 1) + 1).toNat (sb8 ((a / 2 ^ 8) % 256))) := (hf11 2 (by decide)).trans hw9
  refine k_alen hC (n := 700) (kl hN (by decide)) h_12 2 rfl rfl rfl dX10_append_15 ?_
  refine k_icmp_ge hC 42 dX10_append_16 rfl (by omega) (by omega) (fun c_16 => absurd c_16 (by omega)) (fun c_16 => ?_)
  refine k_aload_n hC dX10_append_19 rfl 1 rfl ?_
  refine k_get hC fd_X10_9 (kl hN (by decide)) hw11 rfl dX10_append_20 ?_
  refine k_aload_n hC dX10_append_23 rfl 1 rfl ?_
  refine k_get hC fd_X10_19 (kl hN (by decide)) hw11 rfl dX10_append_24 ?_
  refine k_iload_n hC dX10_append_27 rfl 2 rfl ?_
  refine k_iload_n hC dX10_append_28 rfl 0 rfl ?_
  refine k_ishr hC 0 dX10_append_29 rfl (Or.inl rfl) (by omega) ?_
  refine k_topv (vI (a)) (congrArg vI (by omega)) ?_
  refine k_i2b hC dX10_append_30 ?_
  refine k_bast hC (kl hN (by decide)) h_12 (by omega) (by decide) (sb8_b (by omega)) dX10_append_31 (fun w13 hw13 hf13 => ?_)
  refine k_aload_n hC dX10_append_32 rfl 1 rfl ?_
  refine k_dup hC dX10_append_33 rfl ?_
  have h_14 : w13 1 = .inr (10, [.ref (kad G 2), vI ((((c0 : Int) + 1) + 1) + 1), vI cd, vI ea, vI kd, vI nm, vI sa, vI nx, vI en]) := (hf13 1 (by decide)).trans hw11
  refine k_get hC fd_X10_19 (kl hN (by decide)) h_14 rfl dX10_append_34 ?_
  refine k_iconst hC dX10_append_37 ?_
  refine k_iadd hC dX10_append_38 ?_
  refine k_put hC fd_X10_19 (kl hN (by decide)) h_14 [.ref (kad G 2), vI (((((c0 : Int) + 1) + 1) + 1) + 1), vI cd, vI ea, vI kd, vI nm, vI sa, vI nx, vI en] rfl (Nat.le_of_ble_eq_true rfl) rfl rfl dX10_append_39 (fun w15 hw15 hf15 => ?_)
  refine k_iinc hC (y := -8) [(2, vI (-8)), (0, .ref (kad G 1)), (1, vI a)] (j := 0) dX10_append_42 rfl (by decide) (by decide) rfl ?_
  refine k_goto hC 3 dX10_append_45 rfl ?_
  refine k_iload_n hC dX10_append_3 rfl 0 rfl ?_
  refine k_if_lt hC 48 dX10_append_4 rfl (by omega) (fun c_4 => ?_) (fun c_4 => absurd c_4 (by omega))
  have h_16 : w15 2 = bA G 700 (kup (kup (kup (kup (fun j => sb8 (bt j)) ((c0 : Int)).toNat (sb8 ((a / 2 ^ 24) % 256))) ((c0 : Int) + 1).toNat (sb8 ((a / 2 ^ 16) % 256))) (((c0 : Int) + 1) + 1).toNat (sb8 ((a / 2 ^ 8) % 256))) ((((c0 : Int) + 1) + 1) + 1).toNat (sb8 (a % 256))) := (hf15 2 (by decide)).trans hw13
  subst hQ
  exact k_vret hC hr ⟨by decide, by decide⟩ (⟨rfl, rfl, (hw15).trans (by rw [show ((c0 : Int) + 1 + 1 + 1 + 1) = ((c0 + 4 : Nat) : Int) by omega]), (h_16).trans (Eq.trans (bA_congr (fun j hj => by simp only [show ((c0 : Int)).toNat = c0 by omega, show ((c0 : Int) + 1).toNat = c0 + 1 by omega, show ((c0 : Int) + 1 + 1).toNat = c0 + 1 + 1 by omega, show ((c0 : Int) + 1 + 1 + 1).toNat = c0 + 1 + 1 + 1 by omega])) bput_e), fun j hj => (hf15 j (by omega)).trans ((hf13 j (by omega)).trans ((hf11 j (by omega)).trans ((hf9 j (by omega)).trans ((hf7 j (by omega)).trans ((hf5 j (by omega)).trans ((hf3 j (by omega)).trans (hf1 j (by omega))))))))⟩) dX10_append_48

set_option maxRecDepth 100000 in
set_option maxHeartbeats 4000000 in
theorem c_X10_isEnd (l : Launch) (hls : l.stackTraces = false) (G : kG) (hN : 133 ≤ kN G) (w : Nat → va_E) (fl : va_W) (bt : Nat → Int) (n : Nat) (st : PS) (hn7 : n ≤ 700) (hb : btOK bt) (h2 : w 2 = byA G bt) (hT : tkR G w bt n st) : KM l G yX10_isEnd cX10_isEnd 1 (some (FieldType.boolean)) 0 0 0 [.ref (kad G 1)] w fl (kPure (vI (selI (¬ goP bt n st) 1 0)) w fl) := by
  refine KM_of2 hls (by decide +kernel) rfl (lv0 := [(0, .ref (kad G 1))]) rfl (Nat.le_of_ble_eq_true rfl) (fun p e R s m args below meth c Q hC hr hQ => ?_)
  have hT0 := hT
  obtain ⟨cn, ea, kd, nm, sa, nx, h1, hcn, hk0, hk1⟩ := hT0
  have hkc := kd_c bt n st.2.2
  have hen : st.1 = 0 → (st.2.2 ≤ enM bt n st.2.2 ∧ enM bt n st.2.2 ≤ n) := fun q => enM_b (hk0 q).1
  refine k_aload_n hC dX10_isEnd_0 rfl 0 rfl ?_
  refine k_get hC fd_X10_51 (kl hN (by decide)) h1 rfl dX10_isEnd_1 ?_
  refine k_if_ne hC 11 dX10_isEnd_4 rfl (by omega) (fun c_4 => ?_) (fun c_4 => ?_)
  · refine k_iconst hC dX10_isEnd_11 ?_
    subst hQ
    exact k_zret hC (by omega) hr ⟨by decide, by decide⟩ (⟨congrArg (fun z => some (vI z)) (selI_0 (fun q => q ⟨by omega, by omega⟩)), rfl, rfl⟩) dX10_isEnd_12
  · refine k_iconst hC dX10_isEnd_7 ?_
    refine k_goto hC 12 dX10_isEnd_8 rfl ?_
    subst hQ
    exact k_zret hC (by omega) hr ⟨by decide, by decide⟩ (⟨congrArg (fun z => some (vI z)) (selI_1 (fun q => by have q1 := q.1; have q2 := q.2; omega)), rfl, rfl⟩) dX10_isEnd_12

set_option maxRecDepth 100000 in
set_option maxHeartbeats 4000000 in
theorem c_X10_isAnyWord (l : Launch) (hls : l.stackTraces = false) (G : kG) (hN : 133 ≤ kN G) (w : Nat → va_E) (fl : va_W) (bt : Nat → Int) (n : Nat) (st : PS) (hn7 : n ≤ 700) (hb : btOK bt) (h2 : w 2 = byA G bt) (hT : tkR G w bt n st) : KM l G yX10_isAnyWord cX10_isAnyWord 1 (some (FieldType.boolean)) 0 0 0 [.ref (kad G 1)] w fl (kPure (vI (selI (st.1 = 0 ∧ kdM bt n st.2.2 = 1) 1 0)) w fl) := by
  refine KM_of2 hls (by decide +kernel) rfl (lv0 := [(0, .ref (kad G 1))]) rfl (Nat.le_of_ble_eq_true rfl) (fun p e R s m args below meth c Q hC hr hQ => ?_)
  have hT0 := hT
  obtain ⟨cn, ea, kd, nm, sa, nx, h1, hcn, hk0, hk1⟩ := hT0
  have hkc := kd_c bt n st.2.2
  have hen : st.1 = 0 → (st.2.2 ≤ enM bt n st.2.2 ∧ enM bt n st.2.2 ≤ n) := fun q => enM_b (hk0 q).1
  refine k_aload_n hC dX10_isAnyWord_0 rfl 0 rfl ?_
  refine k_get hC fd_X10_51 (kl hN (by decide)) h1 rfl dX10_isAnyWord_1 ?_
  refine k_iconst hC dX10_isAnyWord_4 ?_
  refine k_icmp_ne hC 12 dX10_isAnyWord_5 rfl (by omega) (by omega) (fun c_5 => ?_) (fun c_5 => ?_)
  · refine k_iconst hC dX10_isAnyWord_12 ?_
    subst hQ
    exact k_zret hC (by omega) hr ⟨by decide, by decide⟩ (⟨congrArg (fun z => some (vI z)) (selI_0 (fun q => by have q1 := q.1; have q2 := q.2; omega)), rfl, rfl⟩) dX10_isAnyWord_13
  · refine k_iconst hC dX10_isAnyWord_8 ?_
    refine k_goto hC 13 dX10_isAnyWord_9 rfl ?_
    subst hQ
    exact k_zret hC (by omega) hr ⟨by decide, by decide⟩ (⟨congrArg (fun z => some (vI z)) (selI_1 (⟨by omega, by omega⟩)), rfl, rfl⟩) dX10_isAnyWord_13

set_option maxRecDepth 100000 in
set_option maxHeartbeats 4000000 in
theorem c_X10_wordLength (l : Launch) (hls : l.stackTraces = false) (G : kG) (hN : 133 ≤ kN G) (w : Nat → va_E) (fl : va_W) (bt : Nat → Int) (n : Nat) (st : PS) (hn7 : n ≤ 700) (hb : btOK bt) (h2 : w 2 = byA G bt) (hT : tkR G w bt n st) : KM l G yX10_wordLength cX10_wordLength 1 (some (FieldType.int)) 0 0 0 [.ref (kad G 1)] w fl (kPure (vI (wlM bt n st)) w fl) := by
  refine KM_of2 hls (by decide +kernel) rfl (lv0 := [(0, .ref (kad G 1))]) rfl (Nat.le_of_ble_eq_true rfl) (fun p e R s m args below meth c Q hC hr hQ => ?_)
  have hT0 := hT
  obtain ⟨cn, ea, kd, nm, sa, nx, h1, hcn, hk0, hk1⟩ := hT0
  have hkc := kd_c bt n st.2.2
  have hen : st.1 = 0 → (st.2.2 ≤ enM bt n st.2.2 ∧ enM bt n st.2.2 ≤ n) := fun q => enM_b (hk0 q).1
  refine k_aload_n hC dX10_wordLength_0 rfl 0 rfl ?_
  refine k_get hC fd_X10_51 (kl hN (by decide)) h1 rfl dX10_wordLength_1 ?_
  refine k_iconst hC dX10_wordLength_4 ?_
  refine k_icmp_ne hC 20 dX10_wordLength_5 rfl (by omega) (by omega) (fun c_5 => ?_) (fun c_5 => ?_)
  · refine k_iconst hC dX10_wordLength_20 ?_
    subst hQ
    exact k_iret hC hr ⟨by decide, by decide⟩ (⟨congrArg (fun z => some (vI z)) (by unfold wlM; rw [selI_0 (fun q => by have q1 := q.1; have q2 := q.2; omega)]), rfl, rfl⟩) dX10_wordLength_21
  · refine k_aload_n hC dX10_wordLength_8 rfl 0 rfl ?_
    refine k_get hC fd_X10_25 (kl hN (by decide)) h1 rfl dX10_wordLength_9 ?_
    refine k_aload_n hC dX10_wordLength_12 rfl 0 rfl ?_
    refine k_get hC fd_X10_40 (kl hN (by decide)) h1 rfl dX10_wordLength_13 ?_
    refine k_isub hC dX10_wordLength_16 ?_
    refine k_goto hC 21 dX10_wordLength_17 rfl ?_
    subst hQ
    exact k_iret hC hr ⟨by decide, by decide⟩ (⟨congrArg (fun z => some (vI z)) (by unfold wlM; rw [selI_1 ⟨by omega, by omega⟩]; omega), rfl, rfl⟩) dX10_wordLength_21

theorem wlM_b {bt : Nat → Int} {n : Nat} {st : PS} (h : st.1 = 0 → st.2.2 ≤ n) : 0 ≤ wlM bt n st ∧ wlM bt n st ≤ n := by
  unfold wlM
  by_cases q : st.1 = 0 ∧ kdM bt n st.2.2 = 1
  · rw [selI_1 q]; have := enM_b (bt := bt) (h q.1); omega
  · rw [selI_0 q]; omega
theorem tkR.le {G : kG} {w : Nat → va_E} {bt : Nat → Int} {n : Nat} {st : PS} (h : tkR G w bt n st) : st.1 = 0 → st.2.2 ≤ n := by
  obtain ⟨_, _, _, _, _, _, _, _, hz, _⟩ := h; exact fun q => (hz q).1
theorem tkR.c {G : kG} {w : Nat → va_E} {bt : Nat → Int} {n : Nat} {st : PS} (h : tkR G w bt n st) : 0 ≤ st.1 ∧ st.1 ≤ 5 := by
  obtain ⟨_, _, _, _, _, _, _, _, hz, hy⟩ := h
  by_cases q : st.1 = 0
  · omega
  · have := (hy q).1; omega
set_option maxRecDepth 100000 in
set_option maxHeartbeats 4000000 in
theorem c_X10_wordLetter (l : Launch) (hls : l.stackTraces = false) (G : kG) (hN : 133 ≤ kN G) (w : Nat → va_E) (fl : va_W) (bt : Nat → Int) (n : Nat) (st : PS) (i : Nat) (hz : st.1 = 0) (hi : st.2.2 + i < n) (hn7 : n ≤ 700) (hb : btOK bt) (h2 : w 2 = byA G bt) (hT : tkR G w bt n st) : KM l G yX10_wordLetter cX10_wordLetter 2 (some (FieldType.int)) 1 0 0 [.ref (kad G 1), vI (i : Int)] w fl (kPure (vI (bt (st.2.2 + i))) w fl) := by
  refine KM_of2 hls (by decide +kernel) rfl (lv0 := [(0, .ref (kad G 1)), (1, vI (i : Int))]) rfl (Nat.le_of_ble_eq_true rfl) (fun p e R s m args below meth c Q hC hr hQ => ?_)
  have hT0 := hT
  obtain ⟨cn, ea, kd, nm, sa, nx, h1, hcn, hk0, hk1⟩ := hT0
  have hkc := kd_c bt n st.2.2
  have hen : st.1 = 0 → (st.2.2 ≤ enM bt n st.2.2 ∧ enM bt n st.2.2 ≤ n) := fun q => enM_b (hk0 q).1
  refine k_aload_n hC dX10_wordLetter_0 rfl 0 rfl ?_
  refine k_aload_n hC dX10_wordLetter_1 rfl 0 rfl ?_
  refine k_get hC fd_X10_40 (kl hN (by decide)) h1 rfl dX10_wordLetter_2 ?_
  refine k_iload_n hC dX10_wordLetter_5 rfl 1 rfl ?_
  refine k_iadd hC dX10_wordLetter_6 ?_
  refine k_topv (vI (((st.2.2 + i : Nat) : Int))) (congrArg vI (by omega)) ?_
  refine k_pureV hC (c_X10_byteAt l hls G hN w fl bt (st.2.2 + i) cn st.1 ea kd nm sa nx (n : Int) (by omega) hb h2 h1) yy_X10_byteAt wm_X10_43 (kl hN (by decide)) h1 rfl rfl rfl rfl (Nat.le_of_ble_eq_true rfl) (by decide) (by decide) ⟨by decide, by decide⟩ dX10_wordLetter_7 ?_
  have hbv_1 := byV_b hb (st.2.2 + i)
  subst hQ
  exact k_iret hC hr ⟨by decide, by decide⟩ (⟨congrArg (fun z => some (vI z)) (byV_1 (by omega)).symm, rfl, rfl⟩) dX10_wordLetter_10

set_option maxRecDepth 100000 in
set_option maxHeartbeats 4000000 in
theorem c_X10_isWord (l : Launch) (hls : l.stackTraces = false) (G : kG) (hN : 133 ≤ kN G) (w : Nat → va_E) (fl : va_W) (bt : Nat → Int) (n : Nat) (st : PS) (t : Nat) (ht : t < kNs) (hn7 : n ≤ 700) (hb : btOK bt) (h2 : w 2 = byA G bt) (hT : tkR G w bt n st) : KM l G yX10_isWord cX10_isWord 4 (some (FieldType.boolean)) 4 0 0 [.ref (kad G 1), .ref (kadK G t)] w fl (kPure (vI (selI (isW bt n t st) 1 0)) w fl) := by
  refine KM_of2 hls (by decide +kernel) rfl (lv0 := [(0, .ref (kad G 1)), (1, .ref (kadK G t))]) rfl (Nat.le_of_ble_eq_true rfl) (fun p e R s m args below meth c Q hC hr hQ => ?_)
  have hst := stL_b ht
  have hT0 := hT
  obtain ⟨cn, ea, kd, nm, sa, nx, h1, hcn, hk0, hk1⟩ := hT0
  have hkc := kd_c bt n st.2.2
  have hen : st.1 = 0 → (st.2.2 ≤ enM bt n st.2.2 ∧ enM bt n st.2.2 ≤ n) := fun q => enM_b (hk0 q).1
  refine k_aload_n hC dX10_isWord_0 rfl 0 rfl ?_
  refine k_get hC fd_X10_51 (kl hN (by decide)) h1 rfl dX10_isWord_1 ?_
  refine k_iconst hC dX10_isWord_4 ?_
  refine k_icmp_ne hC 23 dX10_isWord_5 rfl (by omega) (by omega) (fun c_5 => ?_) (fun c_5 => ?_)
  · refine k_iconst hC dX10_isWord_23 ?_
    refine k_istore_n hC [(2, vI 0), (0, .ref (kad G 1)), (1, .ref (kadK G t))] dX10_isWord_24 rfl (by decide) rfl ?_
    refine k_iconst hC dX10_isWord_25 ?_
    refine k_istore_n hC [(3, vI 0), (2, vI 0), (0, .ref (kad G 1)), (1, .ref (kadK G t))] dX10_isWord_26 rfl (by decide) rfl ?_
    have loop0 : ∀ (nw : Nat) (k : Nat) (sm : Int), (stL t < nw + k) → (k ≤ stL t) → ((sm = 1 ∧ (st.1 = 0 ∧ kdM bt n st.2.2 = 1 ∧ enM bt n st.2.2 = st.2.2 + stL t) ∧ ∀ i, i < k → bt (st.2.2 + i) = stC t i) ∨ (sm = 0 ∧ ¬ isW bt n t st)) → KW p l e R s m args below meth c 4 G Q w fl 0 0 27 [(3, vI (k : Int)), (2, vI sm), (0, .ref (kad G 1)), (1, .ref (kadK G t))] [] := by
      intro nw
      induction nw with
      | zero =>
        intro k sm hn_w hk hsm
        exact absurd hn_w (by omega)
      | succ nw ihw =>
        intro k sm hn_w hk hsm
        have hsm1 : sm = 0 ∨ sm = 1 := hsm.elim (fun q => Or.inr q.1) (fun q => Or.inl q.1)
        refine k_iload_n hC dX10_isWord_27 rfl 1 rfl ?_
        refine k_if_eq hC 69 dX10_isWord_28 rfl (by omega) (fun c_28 => ?_) (fun c_28 => ?_)
        · refine k_iload_n hC dX10_isWord_69 rfl 1 rfl ?_
          subst hQ
          exact k_zret hC (by omega) hr ⟨by decide, by decide⟩ (⟨congrArg (fun z => some (vI z)) (by rcases hsm with ⟨q1, q2, q3⟩ | ⟨q1, q2⟩; (first | omega | (rw [q1]; exact selI_1 ⟨q2.1, q2.2.1, q2.2.2, fun i hi => q3 i (by omega)⟩)); (rw [q1]; exact selI_0 q2)), rfl, rfl⟩) dX10_isWord_70
        · have hs1 : st.1 = 0 ∧ kdM bt n st.2.2 = 1 ∧ enM bt n st.2.2 = st.2.2 + stL t := (hsm.resolve_right (fun q => by omega)).2.1
          refine k_iload_n hC dX10_isWord_31 rfl 0 rfl ?_
          refine k_aload_n hC dX10_isWord_32 rfl 3 rfl ?_
          refine k_pureVK hC (c_J0_length_8abf5 l hls G hN w fl t ht) yy_J0_length_8abf5 wm_X10_68 ht rfl rfl rfl (Nat.le_of_ble_eq_true rfl) (by decide) (by decide) ⟨by decide, by decide⟩ dX10_isWord_33 ?_
          refine k_icmp_ge hC 69 dX10_isWord_36 rfl (by omega) (by omega) (fun c_36 => ?_) (fun c_36 => ?_)
          · refine k_iload_n hC dX10_isWord_69 rfl 1 rfl ?_
            subst hQ
            exact k_zret hC (by omega) hr ⟨by decide, by decide⟩ (⟨congrArg (fun z => some (vI z)) (by rcases hsm with ⟨q1, q2, q3⟩ | ⟨q1, q2⟩; (first | omega | (rw [q1]; exact selI_1 ⟨q2.1, q2.2.1, q2.2.2, fun i hi => q3 i (by omega)⟩)); (rw [q1]; exact selI_0 q2)), rfl, rfl⟩) dX10_isWord_70
          · have hen1 := hen hs1.1
            have hsc := stC_r ht (i := k) (by omega)
            refine k_aload_n hC dX10_isWord_39 rfl 2 rfl ?_
            refine k_aload_n hC dX10_isWord_40 rfl 2 rfl ?_
            refine k_get hC fd_X10_40 (kl hN (by decide)) h1 rfl dX10_isWord_41 ?_
            refine k_iload_n hC dX10_isWord_44 rfl 0 rfl ?_
            refine k_iadd hC dX10_isWord_45 ?_
            refine k_topv (vI (((st.2.2 + k : Nat) : Int))) (congrArg vI (by omega)) ?_
            refine k_pureV hC (c_X10_byteAt l hls G hN w fl bt (st.2.2 + k) cn st.1 ea kd nm sa nx (n : Int) (by omega) hb h2 h1) yy_X10_byteAt wm_X10_43 (kl hN (by decide)) h1 rfl rfl rfl rfl (Nat.le_of_ble_eq_true rfl) (by decide) (by decide) ⟨by decide, by decide⟩ dX10_isWord_46 ?_
            have hbv_1 := byV_b hb (st.2.2 + k)
            refine k_aload_n hC dX10_isWord_49 rfl 3 rfl ?_
            refine k_iload_n hC dX10_isWord_50 rfl 0 rfl ?_
            refine k_pureVK hC (c_J0_charAt_5068e l hls G hN w fl t k ht (by omega)) yy_J0_charAt_5068e wm_X10_73 ht rfl rfl rfl (Nat.le_of_ble_eq_true rfl) (by decide) (by decide) ⟨by decide, by decide⟩ dX10_isWord_51 ?_
            refine k_icmp_ne hC 61 dX10_isWord_54 rfl (by omega) (by omega) (fun c_54 => ?_) (fun c_54 => ?_)
            · refine k_iconst hC dX10_isWord_61 ?_
              refine k_istore_n hC [(2, vI 0), (3, vI (k : Int)), (0, .ref (kad G 1)), (1, .ref (kadK G t))] dX10_isWord_62 rfl (by decide) rfl ?_
              refine k_iinc hC (y := (k : Int) + 1) [(3, vI ((k : Int) + 1)), (2, vI 0), (0, .ref (kad G 1)), (1, .ref (kadK G t))] (j := 1) dX10_isWord_63 rfl (by omega) (by decide) rfl ?_
              refine k_goto hC 27 dX10_isWord_66 rfl ?_
              refine k_lvs (ls := [0, 1, 2, 3]) [(3, vI ((k + 1 : Nat) : Int)), (2, vI 0), (0, .ref (kad G 1)), (1, .ref (kadK G t))] (by simp only [lv_pick]; rfl) ?_
              exact ihw (k + 1) 0  (by omega) (by omega) (Or.inr ⟨rfl, fun q => by have q3 := q.2.2.2 k (by omega); rw [byV_1 (by omega)] at c_54; exact c_54 q3⟩)
            · refine k_iconst hC dX10_isWord_57 ?_
              refine k_goto hC 62 dX10_isWord_58 rfl ?_
              refine k_istore_n hC [(2, vI 1), (3, vI (k : Int)), (0, .ref (kad G 1)), (1, .ref (kadK G t))] dX10_isWord_62 rfl (by decide) rfl ?_
              refine k_iinc hC (y := (k : Int) + 1) [(3, vI ((k : Int) + 1)), (2, vI 1), (0, .ref (kad G 1)), (1, .ref (kadK G t))] (j := 1) dX10_isWord_63 rfl (by omega) (by decide) rfl ?_
              refine k_goto hC 27 dX10_isWord_66 rfl ?_
              refine k_lvs (ls := [0, 1, 2, 3]) [(3, vI ((k + 1 : Nat) : Int)), (2, vI 1), (0, .ref (kad G 1)), (1, .ref (kadK G t))] (by simp only [lv_pick]; rfl) ?_
              exact ihw (k + 1) 1  (by omega) (by omega) (hsm.elim (fun q => Or.inl ⟨rfl, q.2.1, fun i hi => by by_cases e : i = k; (subst e; rw [byV_1 (by omega)] at c_54; exact c_54); (exact q.2.2 i (by omega))⟩) (fun q => absurd q.1 (by omega)))
    refine k_lvs (ls := [0, 1, 2, 3]) [(3, vI ((0 : Nat) : Int)), (2, vI 0), (0, .ref (kad G 1)), (1, .ref (kadK G t))] (by simp only [lv_pick]; rfl) ?_
    exact loop0 (stL t + 1) 0 0  (by omega) (by omega) (Or.inr ⟨rfl, fun q => by have q1 := q.1; have q2 := q.2.1; have q3 := q.2.2.1; omega⟩)
  · refine k_aload_n hC dX10_isWord_8 rfl 0 rfl ?_
    refine k_pureV hC (c_X10_wordLength l hls G hN w fl bt n st hn7 hb h2 hT) yy_X10_wordLength wm_X10_64 (kl hN (by decide)) h1 rfl rfl rfl rfl (Nat.le_of_ble_eq_true rfl) (by decide) (by decide) ⟨by decide, by decide⟩ dX10_isWord_9 ?_
    have hwx_2 : (st.1 = 0 ∧ kdM bt n st.2.2 = 1) → wlM bt n st = (enM bt n st.2.2 : Int) - (st.2.2 : Int) := fun q => selI_1 q
    have hwx_3 : ¬ (st.1 = 0 ∧ kdM bt n st.2.2 = 1) → wlM bt n st = 0 := fun q => selI_0 q
    have hwl_4 := wlM_b (bt := bt) (n := n) (st := st) (by have := hT; obtain ⟨_, _, _, _, _, _, _, _, hz, _⟩ := this; exact fun q => (hz q).1)
    refine k_aload_n hC dX10_isWord_12 rfl 1 rfl ?_
    refine k_pureVK hC (c_J0_length_8abf5 l hls G hN w fl t ht) yy_J0_length_8abf5 wm_X10_68 ht rfl rfl rfl (Nat.le_of_ble_eq_true rfl) (by decide) (by decide) ⟨by decide, by decide⟩ dX10_isWord_13 ?_
    refine k_icmp_ne hC 23 dX10_isWord_16 rfl (by omega) (by omega) (fun c_16 => ?_) (fun c_16 => ?_)
    · refine k_iconst hC dX10_isWord_23 ?_
      refine k_istore_n hC [(2, vI 0), (0, .ref (kad G 1)), (1, .ref (kadK G t))] dX10_isWord_24 rfl (by decide) rfl ?_
      refine k_iconst hC dX10_isWord_25 ?_
      refine k_istore_n hC [(3, vI 0), (2, vI 0), (0, .ref (kad G 1)), (1, .ref (kadK G t))] dX10_isWord_26 rfl (by decide) rfl ?_
      have loop4 : ∀ (nw : Nat) (k : Nat) (sm : Int), (stL t < nw + k) → (k ≤ stL t) → ((sm = 1 ∧ (st.1 = 0 ∧ kdM bt n st.2.2 = 1 ∧ enM bt n st.2.2 = st.2.2 + stL t) ∧ ∀ i, i < k → bt (st.2.2 + i) = stC t i) ∨ (sm = 0 ∧ ¬ isW bt n t st)) → KW p l e R s m args below meth c 4 G Q w fl 0 0 27 [(3, vI (k : Int)), (2, vI sm), (0, .ref (kad G 1)), (1, .ref (kadK G t))] [] := by
        intro nw
        induction nw with
        | zero =>
          intro k sm hn_w hk hsm
          exact absurd hn_w (by omega)
        | succ nw ihw =>
          intro k sm hn_w hk hsm
          have hsm1 : sm = 0 ∨ sm = 1 := hsm.elim (fun q => Or.inr q.1) (fun q => Or.inl q.1)
          refine k_iload_n hC dX10_isWord_27 rfl 1 rfl ?_
          refine k_if_eq hC 69 dX10_isWord_28 rfl (by omega) (fun c_28 => ?_) (fun c_28 => ?_)
          · refine k_iload_n hC dX10_isWord_69 rfl 1 rfl ?_
            subst hQ
            exact k_zret hC (by omega) hr ⟨by decide, by decide⟩ (⟨congrArg (fun z => some (vI z)) (by rcases hsm with ⟨q1, q2, q3⟩ | ⟨q1, q2⟩; (first | omega | (rw [q1]; exact selI_1 ⟨q2.1, q2.2.1, q2.2.2, fun i hi => q3 i (by omega)⟩)); (rw [q1]; exact selI_0 q2)), rfl, rfl⟩) dX10_isWord_70
          · have hs1 : st.1 = 0 ∧ kdM bt n st.2.2 = 1 ∧ enM bt n st.2.2 = st.2.2 + stL t := (hsm.resolve_right (fun q => by omega)).2.1
            refine k_iload_n hC dX10_isWord_31 rfl 0 rfl ?_
            refine k_aload_n hC dX10_isWord_32 rfl 3 rfl ?_
            refine k_pureVK hC (c_J0_length_8abf5 l hls G hN w fl t ht) yy_J0_length_8abf5 wm_X10_68 ht rfl rfl rfl (Nat.le_of_ble_eq_true rfl) (by decide) (by decide) ⟨by decide, by decide⟩ dX10_isWord_33 ?_
            refine k_icmp_ge hC 69 dX10_isWord_36 rfl (by omega) (by omega) (fun c_36 => ?_) (fun c_36 => ?_)
            · refine k_iload_n hC dX10_isWord_69 rfl 1 rfl ?_
              subst hQ
              exact k_zret hC (by omega) hr ⟨by decide, by decide⟩ (⟨congrArg (fun z => some (vI z)) (by rcases hsm with ⟨q1, q2, q3⟩ | ⟨q1, q2⟩; (first | omega | (rw [q1]; exact selI_1 ⟨q2.1, q2.2.1, q2.2.2, fun i hi => q3 i (by omega)⟩)); (rw [q1]; exact selI_0 q2)), rfl, rfl⟩) dX10_isWord_70
            · have hen1 := hen hs1.1
              have hsc := stC_r ht (i := k) (by omega)
              refine k_aload_n hC dX10_isWord_39 rfl 2 rfl ?_
              refine k_aload_n hC dX10_isWord_40 rfl 2 rfl ?_
              refine k_get hC fd_X10_40 (kl hN (by decide)) h1 rfl dX10_isWord_41 ?_
              refine k_iload_n hC dX10_isWord_44 rfl 0 rfl ?_
              refine k_iadd hC dX10_isWord_45 ?_
              refine k_topv (vI (((st.2.2 + k : Nat) : Int))) (congrArg vI (by omega)) ?_
              refine k_pureV hC (c_X10_byteAt l hls G hN w fl bt (st.2.2 + k) cn st.1 ea kd nm sa nx (n : Int) (by omega) hb h2 h1) yy_X10_byteAt wm_X10_43 (kl hN (by decide)) h1 rfl rfl rfl rfl (Nat.le_of_ble_eq_true rfl) (by decide) (by decide) ⟨by decide, by decide⟩ dX10_isWord_46 ?_
              have hbv_5 := byV_b hb (st.2.2 + k)
              refine k_aload_n hC dX10_isWord_49 rfl 3 rfl ?_
              refine k_iload_n hC dX10_isWord_50 rfl 0 rfl ?_
              refine k_pureVK hC (c_J0_charAt_5068e l hls G hN w fl t k ht (by omega)) yy_J0_charAt_5068e wm_X10_73 ht rfl rfl rfl (Nat.le_of_ble_eq_true rfl) (by decide) (by decide) ⟨by decide, by decide⟩ dX10_isWord_51 ?_
              refine k_icmp_ne hC 61 dX10_isWord_54 rfl (by omega) (by omega) (fun c_54 => ?_) (fun c_54 => ?_)
              · refine k_iconst hC dX10_isWord_61 ?_
                refine k_istore_n hC [(2, vI 0), (3, vI (k : Int)), (0, .ref (kad G 1)), (1, .ref (kadK G t))] dX10_isWord_62 rfl (by decide) rfl ?_
                refine k_iinc hC (y := (k : Int) + 1) [(3, vI ((k : Int) + 1)), (2, vI 0), (0, .ref (kad G 1)), (1, .ref (kadK G t))] (j := 1) dX10_isWord_63 rfl (by omega) (by decide) rfl ?_
                refine k_goto hC 27 dX10_isWord_66 rfl ?_
                refine k_lvs (ls := [0, 1, 2, 3]) [(3, vI ((k + 1 : Nat) : Int)), (2, vI 0), (0, .ref (kad G 1)), (1, .ref (kadK G t))] (by simp only [lv_pick]; rfl) ?_
                exact ihw (k + 1) 0  (by omega) (by omega) (Or.inr ⟨rfl, fun q => by have q3 := q.2.2.2 k (by omega); rw [byV_1 (by omega)] at c_54; exact c_54 q3⟩)
              · refine k_iconst hC dX10_isWord_57 ?_
                refine k_goto hC 62 dX10_isWord_58 rfl ?_
                refine k_istore_n hC [(2, vI 1), (3, vI (k : Int)), (0, .ref (kad G 1)), (1, .ref (kadK G t))] dX10_isWord_62 rfl (by decide) rfl ?_
                refine k_iinc hC (y := (k : Int) + 1) [(3, vI ((k : Int) + 1)), (2, vI 1), (0, .ref (kad G 1)), (1, .ref (kadK G t))] (j := 1) dX10_isWord_63 rfl (by omega) (by decide) rfl ?_
                refine k_goto hC 27 dX10_isWord_66 rfl ?_
                refine k_lvs (ls := [0, 1, 2, 3]) [(3, vI ((k + 1 : Nat) : Int)), (2, vI 1), (0, .ref (kad G 1)), (1, .ref (kadK G t))] (by simp only [lv_pick]; rfl) ?_
                exact ihw (k + 1) 1  (by omega) (by omega) (hsm.elim (fun q => Or.inl ⟨rfl, q.2.1, fun i hi => by by_cases e : i = k; (subst e; rw [byV_1 (by omega)] at c_54; exact c_54); (exact q.2.2 i (by omega))⟩) (fun q => absurd q.1 (by omega)))
      refine k_lvs (ls := [0, 1, 2, 3]) [(3, vI ((0 : Nat) : Int)), (2, vI 0), (0, .ref (kad G 1)), (1, .ref (kadK G t))] (by simp only [lv_pick]; rfl) ?_
      exact loop4 (stL t + 1) 0 0  (by omega) (by omega) (Or.inr ⟨rfl, fun q => by have q1 := q.1; have q2 := q.2.1; have q3 := q.2.2.1; omega⟩)
    · refine k_iconst hC dX10_isWord_19 ?_
      refine k_goto hC 24 dX10_isWord_20 rfl ?_
      refine k_istore_n hC [(2, vI 1), (0, .ref (kad G 1)), (1, .ref (kadK G t))] dX10_isWord_24 rfl (by decide) rfl ?_
      refine k_iconst hC dX10_isWord_25 ?_
      refine k_istore_n hC [(3, vI 0), (2, vI 1), (0, .ref (kad G 1)), (1, .ref (kadK G t))] dX10_isWord_26 rfl (by decide) rfl ?_
      have loop5 : ∀ (nw : Nat) (k : Nat) (sm : Int), (stL t < nw + k) → (k ≤ stL t) → ((sm = 1 ∧ (st.1 = 0 ∧ kdM bt n st.2.2 = 1 ∧ enM bt n st.2.2 = st.2.2 + stL t) ∧ ∀ i, i < k → bt (st.2.2 + i) = stC t i) ∨ (sm = 0 ∧ ¬ isW bt n t st)) → KW p l e R s m args below meth c 4 G Q w fl 0 0 27 [(3, vI (k : Int)), (2, vI sm), (0, .ref (kad G 1)), (1, .ref (kadK G t))] [] := by
        intro nw
        induction nw with
        | zero =>
          intro k sm hn_w hk hsm
          exact absurd hn_w (by omega)
        | succ nw ihw =>
          intro k sm hn_w hk hsm
          have hsm1 : sm = 0 ∨ sm = 1 := hsm.elim (fun q => Or.inr q.1) (fun q => Or.inl q.1)
          refine k_iload_n hC dX10_isWord_27 rfl 1 rfl ?_
          refine k_if_eq hC 69 dX10_isWord_28 rfl (by omega) (fun c_28 => ?_) (fun c_28 => ?_)
          · refine k_iload_n hC dX10_isWord_69 rfl 1 rfl ?_
            subst hQ
            exact k_zret hC (by omega) hr ⟨by decide, by decide⟩ (⟨congrArg (fun z => some (vI z)) (by rcases hsm with ⟨q1, q2, q3⟩ | ⟨q1, q2⟩; (first | omega | (rw [q1]; exact selI_1 ⟨q2.1, q2.2.1, q2.2.2, fun i hi => q3 i (by omega)⟩)); (rw [q1]; exact selI_0 q2)), rfl, rfl⟩) dX10_isWord_70
          · have hs1 : st.1 = 0 ∧ kdM bt n st.2.2 = 1 ∧ enM bt n st.2.2 = st.2.2 + stL t := (hsm.resolve_right (fun q => by omega)).2.1
            refine k_iload_n hC dX10_isWord_31 rfl 0 rfl ?_
            refine k_aload_n hC dX10_isWord_32 rfl 3 rfl ?_
            refine k_pureVK hC (c_J0_length_8abf5 l hls G hN w fl t ht) yy_J0_length_8abf5 wm_X10_68 ht rfl rfl rfl (Nat.le_of_ble_eq_true rfl) (by decide) (by decide) ⟨by decide, by decide⟩ dX10_isWord_33 ?_
            refine k_icmp_ge hC 69 dX10_isWord_36 rfl (by omega) (by omega) (fun c_36 => ?_) (fun c_36 => ?_)
            · refine k_iload_n hC dX10_isWord_69 rfl 1 rfl ?_
              subst hQ
              exact k_zret hC (by omega) hr ⟨by decide, by decide⟩ (⟨congrArg (fun z => some (vI z)) (by rcases hsm with ⟨q1, q2, q3⟩ | ⟨q1, q2⟩; (first | omega | (rw [q1]; exact selI_1 ⟨q2.1, q2.2.1, q2.2.2, fun i hi => q3 i (by omega)⟩)); (rw [q1]; exact selI_0 q2)), rfl, rfl⟩) dX10_isWord_70
            · have hen1 := hen hs1.1
              have hsc := stC_r ht (i := k) (by omega)
              refine k_aload_n hC dX10_isWord_39 rfl 2 rfl ?_
              refine k_aload_n hC dX10_isWord_40 rfl 2 rfl ?_
              refine k_get hC fd_X10_40 (kl hN (by decide)) h1 rfl dX10_isWord_41 ?_
              refine k_iload_n hC dX10_isWord_44 rfl 0 rfl ?_
              refine k_iadd hC dX10_isWord_45 ?_
              refine k_topv (vI (((st.2.2 + k : Nat) : Int))) (congrArg vI (by omega)) ?_
              refine k_pureV hC (c_X10_byteAt l hls G hN w fl bt (st.2.2 + k) cn st.1 ea kd nm sa nx (n : Int) (by omega) hb h2 h1) yy_X10_byteAt wm_X10_43 (kl hN (by decide)) h1 rfl rfl rfl rfl (Nat.le_of_ble_eq_true rfl) (by decide) (by decide) ⟨by decide, by decide⟩ dX10_isWord_46 ?_
              have hbv_6 := byV_b hb (st.2.2 + k)
              refine k_aload_n hC dX10_isWord_49 rfl 3 rfl ?_
              refine k_iload_n hC dX10_isWord_50 rfl 0 rfl ?_
              refine k_pureVK hC (c_J0_charAt_5068e l hls G hN w fl t k ht (by omega)) yy_J0_charAt_5068e wm_X10_73 ht rfl rfl rfl (Nat.le_of_ble_eq_true rfl) (by decide) (by decide) ⟨by decide, by decide⟩ dX10_isWord_51 ?_
              refine k_icmp_ne hC 61 dX10_isWord_54 rfl (by omega) (by omega) (fun c_54 => ?_) (fun c_54 => ?_)
              · refine k_iconst hC dX10_isWord_61 ?_
                refine k_istore_n hC [(2, vI 0), (3, vI (k : Int)), (0, .ref (kad G 1)), (1, .ref (kadK G t))] dX10_isWord_62 rfl (by decide) rfl ?_
                refine k_iinc hC (y := (k : Int) + 1) [(3, vI ((k : Int) + 1)), (2, vI 0), (0, .ref (kad G 1)), (1, .ref (kadK G t))] (j := 1) dX10_isWord_63 rfl (by omega) (by decide) rfl ?_
                refine k_goto hC 27 dX10_isWord_66 rfl ?_
                refine k_lvs (ls := [0, 1, 2, 3]) [(3, vI ((k + 1 : Nat) : Int)), (2, vI 0), (0, .ref (kad G 1)), (1, .ref (kadK G t))] (by simp only [lv_pick]; rfl) ?_
                exact ihw (k + 1) 0  (by omega) (by omega) (Or.inr ⟨rfl, fun q => by have q3 := q.2.2.2 k (by omega); rw [byV_1 (by omega)] at c_54; exact c_54 q3⟩)
              · refine k_iconst hC dX10_isWord_57 ?_
                refine k_goto hC 62 dX10_isWord_58 rfl ?_
                refine k_istore_n hC [(2, vI 1), (3, vI (k : Int)), (0, .ref (kad G 1)), (1, .ref (kadK G t))] dX10_isWord_62 rfl (by decide) rfl ?_
                refine k_iinc hC (y := (k : Int) + 1) [(3, vI ((k : Int) + 1)), (2, vI 1), (0, .ref (kad G 1)), (1, .ref (kadK G t))] (j := 1) dX10_isWord_63 rfl (by omega) (by decide) rfl ?_
                refine k_goto hC 27 dX10_isWord_66 rfl ?_
                refine k_lvs (ls := [0, 1, 2, 3]) [(3, vI ((k + 1 : Nat) : Int)), (2, vI 1), (0, .ref (kad G 1)), (1, .ref (kadK G t))] (by simp only [lv_pick]; rfl) ?_
                exact ihw (k + 1) 1  (by omega) (by omega) (hsm.elim (fun q => Or.inl ⟨rfl, q.2.1, fun i hi => by by_cases e : i = k; (subst e; rw [byV_1 (by omega)] at c_54; exact c_54); (exact q.2.2 i (by omega))⟩) (fun q => absurd q.1 (by omega)))
      refine k_lvs (ls := [0, 1, 2, 3]) [(3, vI ((0 : Nat) : Int)), (2, vI 1), (0, .ref (kad G 1)), (1, .ref (kadK G t))] (by simp only [lv_pick]; rfl) ?_
      exact loop5 (stL t + 1) 0 1  (by omega) (by omega) (Or.inl ⟨rfl, ⟨by omega, by omega, by omega⟩, fun i hi => absurd hi (by omega)⟩)

set_option maxRecDepth 100000 in
set_option maxHeartbeats 4000000 in
theorem c_X10_isSign (l : Launch) (hls : l.stackTraces = false) (G : kG) (hN : 133 ≤ kN G) (w : Nat → va_E) (fl : va_W) (bt : Nat → Int) (n : Nat) (st : PS) (x : Int) (hx : 0 ≤ x ∧ x ≤ 65535) (hn7 : n ≤ 700) (hb : btOK bt) (h2 : w 2 = byA G bt) (hT : tkR G w bt n st) : KM l G yX10_isSign cX10_isSign 2 (some (FieldType.boolean)) 1 0 0 [.ref (kad G 1), vI x] w fl (kPure (vI (selI (isS bt n x st) 1 0)) w fl) := by
  refine KM_of2 hls (by decide +kernel) rfl (lv0 := [(0, .ref (kad G 1)), (1, vI x)]) rfl (Nat.le_of_ble_eq_true rfl) (fun p e R s m args below meth c Q hC hr hQ => ?_)
  have hT0 := hT
  obtain ⟨cn, ea, kd, nm, sa, nx, h1, hcn, hk0, hk1⟩ := hT0
  have hkc := kd_c bt n st.2.2
  have hen : st.1 = 0 → (st.2.2 ≤ enM bt n st.2.2 ∧ enM bt n st.2.2 ≤ n) := fun q => enM_b (hk0 q).1
  refine k_aload_n hC dX10_isSign_0 rfl 0 rfl ?_
  refine k_get hC fd_X10_51 (kl hN (by decide)) h1 rfl dX10_isSign_1 ?_
  refine k_iconst hC dX10_isSign_4 ?_
  refine k_icmp_ne hC 24 dX10_isSign_5 rfl (by omega) (by omega) (fun c_5 => ?_) (fun c_5 => ?_)
  · refine k_iconst hC dX10_isSign_24 ?_
    subst hQ
    exact k_zret hC (by omega) hr ⟨by decide, by decide⟩ (⟨congrArg (fun z => some (vI z)) (selI_0 (fun q => by have q1 := q.1; have q2 := q.2.1; have q3 := q.2.2; first | omega | (have q4 := hk0 q1; have hen := kd_c bt n st.2.2; rw [byV_1 (by omega)] at c_17; omega))), rfl, rfl⟩) dX10_isSign_25
  · refine k_aload_n hC dX10_isSign_8 rfl 0 rfl ?_
    refine k_aload_n hC dX10_isSign_9 rfl 0 rfl ?_
    refine k_get hC fd_X10_40 (kl hN (by decide)) h1 rfl dX10_isSign_10 ?_
    refine k_topv (vI ((st.2.2 : Int))) (congrArg vI (by omega)) ?_
    refine k_pureV hC (c_X10_byteAt l hls G hN w fl bt st.2.2 cn st.1 ea kd nm sa nx (n : Int) (by omega) hb h2 h1) yy_X10_byteAt wm_X10_43 (kl hN (by decide)) h1 rfl rfl rfl rfl (Nat.le_of_ble_eq_true rfl) (by decide) (by decide) ⟨by decide, by decide⟩ dX10_isSign_13 ?_
    have hbv_1 := byV_b hb st.2.2
    refine k_iload_n hC dX10_isSign_16 rfl 1 rfl ?_
    refine k_icmp_ne hC 24 dX10_isSign_17 rfl (by omega) (by omega) (fun c_17 => ?_) (fun c_17 => ?_)
    · refine k_iconst hC dX10_isSign_24 ?_
      subst hQ
      exact k_zret hC (by omega) hr ⟨by decide, by decide⟩ (⟨congrArg (fun z => some (vI z)) (selI_0 (fun q => by have q1 := q.1; have q2 := q.2.1; have q3 := q.2.2; first | omega | (have q4 := hk0 q1; have hen := kd_c bt n st.2.2; rw [byV_1 (by omega)] at c_17; omega))), rfl, rfl⟩) dX10_isSign_25
    · refine k_iconst hC dX10_isSign_20 ?_
      refine k_goto hC 25 dX10_isSign_21 rfl ?_
      subst hQ
      exact k_zret hC (by omega) hr ⟨by decide, by decide⟩ (⟨congrArg (fun z => some (vI z)) (selI_1 (⟨by omega, by omega, by rw [byV_1 (by omega)] at c_17; exact c_17⟩)), rfl, rfl⟩) dX10_isSign_25

set_option maxRecDepth 100000 in
set_option maxHeartbeats 4000000 in
theorem c_X10_fail (l : Launch) (hls : l.stackTraces = false) (G : kG) (hN : 133 ≤ kN G) (w : Nat → va_E) (fl : va_W) (bt : Nat → Int) (n : Nat) (st : PS) (x : Int) (hx : 1 ≤ x ∧ x ≤ 5) (hn7 : n ≤ 700) (hb : btOK bt) (h2 : w 2 = byA G bt) (hT : tkR G w bt n st) : KM l G yX10_fail cX10_fail 2 (none) 0 0 0 [.ref (kad G 1), vI x] w fl (kMuv fl (fun w1 => tkR G w1 bt n (flP x st) ∧ ∀ j, j ≠ 1 → w1 j = w j)) := by
  refine KM_of2 hls (by decide +kernel) rfl (lv0 := [(0, .ref (kad G 1)), (1, vI x)]) rfl (Nat.le_of_ble_eq_true rfl) (fun p e R s m args below meth c Q hC hr hQ => ?_)
  have hT0 := hT
  obtain ⟨cn, ea, kd, nm, sa, nx, h1, hcn, hk0, hk1⟩ := hT0
  have hkc := kd_c bt n st.2.2
  have hen : st.1 = 0 → (st.2.2 ≤ enM bt n st.2.2 ∧ enM bt n st.2.2 ≤ n) := fun q => enM_b (hk0 q).1
  refine k_aload_n hC dX10_fail_0 rfl 0 rfl ?_
  refine k_get hC fd_X10_22 (kl hN (by decide)) h1 rfl dX10_fail_1 ?_
  refine k_if_ne hC 20 dX10_fail_4 rfl (by omega) (fun c_4 => ?_) (fun c_4 => ?_)
  · refine k_aload_n hC dX10_fail_20 rfl 0 rfl ?_
    refine k_iconst hC dX10_fail_21 ?_
    refine k_put hC fd_X10_51 (kl hN (by decide)) h1 [.ref (kad G 2), vI cn, vI st.1, vI ea, vI 0, vI nm, vI sa, vI nx, vI (n : Int)] rfl (Nat.le_of_ble_eq_true rfl) rfl rfl dX10_fail_22 (fun w1 hw1 hf1 => ?_)
    refine k_aload_n hC dX10_fail_25 rfl 0 rfl ?_
    refine k_aload_n hC dX10_fail_26 rfl 0 rfl ?_
    refine k_get hC fd_X10_34 (kl hN (by decide)) hw1 rfl dX10_fail_27 ?_
    refine k_put hC fd_X10_25 (kl hN (by decide)) hw1 [.ref (kad G 2), vI cn, vI st.1, vI ea, vI 0, vI nm, vI sa, vI (n : Int), vI (n : Int)] rfl (Nat.le_of_ble_eq_true rfl) rfl rfl dX10_fail_30 (fun w2 hw2 hf2 => ?_)
    subst hQ
    exact k_vret hC hr ⟨by decide, by decide⟩ (⟨rfl, rfl, (by rw [flP_e c_4]; exact ⟨_, _, _, _, _, _, hw2, hcn, fun q => absurd q c_4, fun q => ⟨(hk1 q).1, (hk1 q).2.1, rfl, rfl⟩⟩), fun j hj => (hf2 j (by omega)).trans (hf1 j (by omega))⟩) dX10_fail_33
  · refine k_aload_n hC dX10_fail_7 rfl 0 rfl ?_
    refine k_iload_n hC dX10_fail_8 rfl 1 rfl ?_
    refine k_put hC fd_X10_22 (kl hN (by decide)) h1 [.ref (kad G 2), vI cn, vI x, vI ea, vI kd, vI nm, vI sa, vI nx, vI (n : Int)] rfl (Nat.le_of_ble_eq_true rfl) rfl rfl dX10_fail_9 (fun w3 hw3 hf3 => ?_)
    refine k_aload_n hC dX10_fail_12 rfl 0 rfl ?_
    refine k_aload_n hC dX10_fail_13 rfl 0 rfl ?_
    refine k_get hC fd_X10_40 (kl hN (by decide)) hw3 rfl dX10_fail_14 ?_
    refine k_put hC fd_X10_15 (kl hN (by decide)) hw3 [.ref (kad G 2), vI cn, vI x, vI sa, vI kd, vI nm, vI sa, vI nx, vI (n : Int)] rfl (Nat.le_of_ble_eq_true rfl) rfl rfl dX10_fail_17 (fun w4 hw4 hf4 => ?_)
    refine k_aload_n hC dX10_fail_20 rfl 0 rfl ?_
    refine k_iconst hC dX10_fail_21 ?_
    refine k_put hC fd_X10_51 (kl hN (by decide)) hw4 [.ref (kad G 2), vI cn, vI x, vI sa, vI 0, vI nm, vI sa, vI nx, vI (n : Int)] rfl (Nat.le_of_ble_eq_true rfl) rfl rfl dX10_fail_22 (fun w5 hw5 hf5 => ?_)
    refine k_aload_n hC dX10_fail_25 rfl 0 rfl ?_
    refine k_aload_n hC dX10_fail_26 rfl 0 rfl ?_
    refine k_get hC fd_X10_34 (kl hN (by decide)) hw5 rfl dX10_fail_27 ?_
    refine k_put hC fd_X10_25 (kl hN (by decide)) hw5 [.ref (kad G 2), vI cn, vI x, vI sa, vI 0, vI nm, vI sa, vI (n : Int), vI (n : Int)] rfl (Nat.le_of_ble_eq_true rfl) rfl rfl dX10_fail_30 (fun w6 hw6 hf6 => ?_)
    subst hQ
    exact k_vret hC hr ⟨by decide, by decide⟩ (⟨rfl, rfl, (by rw [flP_0 c_4]; exact ⟨_, _, _, _, _, _, hw6, hcn, fun q => absurd q (by show ¬ x = 0; omega), fun _ => ⟨hx, (hk0 c_4).2.2.2.1, rfl, rfl⟩⟩), fun j hj => (hf6 j (by omega)).trans ((hf5 j (by omega)).trans ((hf4 j (by omega)).trans (hf3 j (by omega))))⟩) dX10_fail_33

set_option maxRecDepth 100000 in
set_option maxHeartbeats 4000000 in
theorem c_X10_needSign (l : Launch) (hls : l.stackTraces = false) (G : kG) (hN : 133 ≤ kN G) (w : Nat → va_E) (fl : va_W) (bt : Nat → Int) (n : Nat) (st : PS) (x : Int) (hx : 0 ≤ x ∧ x ≤ 65535) (hn7 : n ≤ 700) (hb : btOK bt) (h2 : w 2 = byA G bt) (hT : tkR G w bt n st) : KM l G yX10_needSign cX10_needSign 2 (none) 2 0 0 [.ref (kad G 1), vI x] w fl (kMuv fl (fun w1 => tkR G w1 bt n (nsP bt n x st) ∧ ∀ j, j ≠ 1 → w1 j = w j)) := by
  refine KM_of2 hls (by decide +kernel) rfl (lv0 := [(0, .ref (kad G 1)), (1, vI x)]) rfl (Nat.le_of_ble_eq_true rfl) (fun p e R s m args below meth c Q hC hr hQ => ?_)
  refine k_aload_n hC dX10_needSign_0 rfl 0 rfl ?_
  refine k_iload_n hC dX10_needSign_1 rfl 1 rfl ?_
  have hTco_1 := hT
  obtain ⟨cno_1, eao_1, kdo_1, nmo_1, sao_1, nxo_1, h1o_1, -⟩ := hTco_1
  refine k_pureV hC (c_X10_isSign l hls G hN w fl bt n st x (by omega) hn7 hb h2 hT) yy_X10_isSign wm_X10_77 (kl hN (by decide)) h1o_1 rfl rfl rfl rfl (Nat.le_of_ble_eq_true rfl) (by decide) (by decide) ⟨by decide, by decide⟩ dX10_needSign_2 ?_
  obtain ⟨z_2, ez_2, hz_2⟩ := selI_c (isS bt n x st)
  refine k_topv (vI z_2) (by rw [ez_2]) ?_
  refine k_if_ne hC 13 dX10_needSign_5 rfl (by omega) (fun c_5 => ?_) (fun c_5 => ?_)
  · refine k_aload_n hC dX10_needSign_13 rfl 0 rfl ?_
    obtain ⟨cn3, ea3, kd3, nm3, sa3, p93, hp93, h13, hadv3⟩ := tk_open hT
    refine k_muvV hC (c_X10_advance l hls G hN w fl bt n p93 cn3 st.1 ea3 kd3 nm3 sa3 hn7 hp93 hb h2 h13) yy_X10_advance wm_X10_37 (kl hN (by decide)) h13 rfl rfl rfl rfl (Nat.le_of_ble_eq_true rfl) (by decide) (by decide) ⟨by decide, by decide⟩ dX10_needSign_14 (fun w3 hp3 => ?_)
    obtain ⟨hq3, hf3⟩ := hp3
    have hT3 := hadv3 _ hq3
    obtain ⟨st_4, est_4⟩ : ∃ z : PS, z = adP bt n st := ⟨_, rfl⟩
    rw [← est_4] at hT3
    subst hQ
    exact k_vret hC hr ⟨by decide, by decide⟩ (⟨rfl, rfl, (by have e : st_4 = nsP bt n x st := (by unfold nsP; first | (rw [selP_1 (hz_2.resolve_right (fun q1 => by omega)).2, est_4]; done) | (rw [selP_0 (hz_2.resolve_left (fun q1 => by omega)).2, est_4]; done)); rw [← e]; exact hT3), fun j hj => hf3 j (by omega)⟩) dX10_needSign_17
  · refine k_aload_n hC dX10_needSign_8 rfl 0 rfl ?_
    refine k_iconst hC dX10_needSign_9 ?_
    refine k_muvV hC (c_X10_fail l hls G hN w fl bt n st 1 (by omega) hn7 hb h2 hT) yy_X10_fail wm_X10_81 (kl hN (by decide)) h1o_1 rfl rfl rfl rfl (Nat.le_of_ble_eq_true rfl) (by decide) (by decide) ⟨by decide, by decide⟩ dX10_needSign_10 (fun w5 hp5 => ?_)
    obtain ⟨hT5, hf5⟩ := hp5
    obtain ⟨st_6, est_6⟩ : ∃ z : PS, z = flP 1 st := ⟨_, rfl⟩
    rw [← est_6] at hT5
    refine k_aload_n hC dX10_needSign_13 rfl 0 rfl ?_
    obtain ⟨cn7, ea7, kd7, nm7, sa7, p97, hp97, h17, hadv7⟩ := tk_open hT5
    have h_8 : w5 2 = bA G 700 (fun j => sb8 (bt j)) := (hf5 2 (by decide)).trans h2
    refine k_muvV hC (c_X10_advance l hls G hN w5 fl bt n p97 cn7 st_6.1 ea7 kd7 nm7 sa7 hn7 hp97 hb h_8 h17) yy_X10_advance wm_X10_37 (kl hN (by decide)) h17 rfl rfl rfl rfl (Nat.le_of_ble_eq_true rfl) (by decide) (by decide) ⟨by decide, by decide⟩ dX10_needSign_14 (fun w7 hp7 => ?_)
    obtain ⟨hq7, hf7⟩ := hp7
    have hT7 := hadv7 _ hq7
    obtain ⟨st_9, est_9⟩ : ∃ z : PS, z = adP bt n st_6 := ⟨_, rfl⟩
    rw [← est_9] at hT7
    subst hQ
    exact k_vret hC hr ⟨by decide, by decide⟩ (⟨rfl, rfl, (by have e : st_9 = nsP bt n x st := (by unfold nsP; first | (rw [selP_1 (hz_2.resolve_right (fun q1 => by omega)).2, est_9, est_6]; done) | (rw [selP_0 (hz_2.resolve_left (fun q1 => by omega)).2, est_9, est_6]; done)); rw [← e]; exact hT7), fun j hj => (hf7 j (by omega)).trans (hf5 j (by omega))⟩) dX10_needSign_17

set_option maxRecDepth 100000 in
set_option maxHeartbeats 4000000 in
theorem c_X10_needEnd (l : Launch) (hls : l.stackTraces = false) (G : kG) (hN : 133 ≤ kN G) (w : Nat → va_E) (fl : va_W) (bt : Nat → Int) (n : Nat) (st : PS) (hn7 : n ≤ 700) (hb : btOK bt) (h2 : w 2 = byA G bt) (hT : tkR G w bt n st) : KM l G yX10_needEnd cX10_needEnd 1 (none) 1 0 0 [.ref (kad G 1)] w fl (kMuv fl (fun w1 => tkR G w1 bt n (neP bt n st) ∧ ∀ j, j ≠ 1 → w1 j = w j)) := by
  refine KM_of2 hls (by decide +kernel) rfl (lv0 := [(0, .ref (kad G 1))]) rfl (Nat.le_of_ble_eq_true rfl) (fun p e R s m args below meth c Q hC hr hQ => ?_)
  have hT0 := hT
  obtain ⟨cn, ea, kd, nm, sa, nx, h1, hcn, hk0, hk1⟩ := hT0
  have hkc := kd_c bt n st.2.2
  have hen : st.1 = 0 → (st.2.2 ≤ enM bt n st.2.2 ∧ enM bt n st.2.2 ≤ n) := fun q => enM_b (hk0 q).1
  refine k_aload_n hC dX10_needEnd_0 rfl 0 rfl ?_
  refine k_get hC fd_X10_51 (kl hN (by decide)) h1 rfl dX10_needEnd_1 ?_
  refine k_if_eq hC 12 dX10_needEnd_4 rfl (by omega) (fun c_4 => ?_) (fun c_4 => ?_)
  · subst hQ
    exact k_vret hC hr ⟨by decide, by decide⟩ (⟨rfl, rfl, (by have e : st = neP bt n st := (by unfold neP; rw [selP_0 (fun q => by have q1 := q.1; have q2 := q.2; omega)]); rw [← e]; exact hT), fun j hj => rfl⟩) dX10_needEnd_12
  · refine k_aload_n hC dX10_needEnd_7 rfl 0 rfl ?_
    refine k_iconst hC dX10_needEnd_8 ?_
    refine k_muvV hC (c_X10_fail l hls G hN w fl bt n st 1 (by omega) hn7 hb h2 hT) yy_X10_fail wm_X10_81 (kl hN (by decide)) h1 rfl rfl rfl rfl (Nat.le_of_ble_eq_true rfl) (by decide) (by decide) ⟨by decide, by decide⟩ dX10_needEnd_9 (fun w1 hp1 => ?_)
    obtain ⟨hT1, hf1⟩ := hp1
    obtain ⟨st_2, est_2⟩ : ∃ z : PS, z = flP 1 st := ⟨_, rfl⟩
    rw [← est_2] at hT1
    subst hQ
    exact k_vret hC hr ⟨by decide, by decide⟩ (⟨rfl, rfl, (by have e : st_2 = neP bt n st := (by unfold neP; rw [selP_1 ⟨by omega, by omega⟩, est_2]); rw [← e]; exact hT1), fun j hj => hf1 j (by omega)⟩) dX10_needEnd_12

set_option maxRecDepth 100000 in
set_option maxHeartbeats 4000000 in
theorem c_X10_numberHere (l : Launch) (hls : l.stackTraces = false) (G : kG) (hN : 133 ≤ kN G) (w : Nat → va_E) (fl : va_W) (bt : Nat → Int) (n : Nat) (st : PS) (lo hi : Int) (hlo : 0 ≤ lo ∧ lo ≤ 999999) (hhi : 0 ≤ hi ∧ hi ≤ 999999) (hn7 : n ≤ 700) (hb : btOK bt) (h2 : w 2 = byA G bt) (hT : tkR G w bt n st) : KM l G yX10_numberHere cX10_numberHere 3 (some (FieldType.int)) 1 0 0 [.ref (kad G 1), vI lo, vI hi] w fl (kMut (vI (nhV bt n lo hi st)) fl (fun w1 => tkR G w1 bt n (nhP bt n lo hi st) ∧ ∀ j, j ≠ 1 → w1 j = w j)) := by
  refine KM_of2 hls (by decide +kernel) rfl (lv0 := [(0, .ref (kad G 1)), (1, vI lo), (2, vI hi)]) rfl (Nat.le_of_ble_eq_true rfl) (fun p e R s m args below meth c Q hC hr hQ => ?_)
  have hT0 := hT
  obtain ⟨cn, ea, kd, nm, sa, nx, h1, hcn, hk0, hk1⟩ := hT0
  have hkc := kd_c bt n st.2.2
  have hen : st.1 = 0 → (st.2.2 ≤ enM bt n st.2.2 ∧ enM bt n st.2.2 ≤ n) := fun q => enM_b (hk0 q).1
  refine k_aload_n hC dX10_numberHere_0 rfl 0 rfl ?_
  refine k_get hC fd_X10_51 (kl hN (by decide)) h1 rfl dX10_numberHere_1 ?_
  refine k_iconst hC dX10_numberHere_4 ?_
  refine k_icmp_eq hC 15 dX10_numberHere_5 rfl (by omega) (by omega) (fun c_5 => ?_) (fun c_5 => ?_)
  · have hnb := numM_b (bt := bt) (n := n) (s := st.2.2) (by omega)
    have hnn : nv bt n st = numM bt n st.2.2 := rfl
    have hnm : nm = min 1000000 (numM bt n st.2.2) := (hk0 (by omega)).2.2.2.2.2 (by omega)
    have hin : isN bt n st := ⟨by omega, by omega⟩
    refine k_aload_n hC dX10_numberHere_15 rfl 0 rfl ?_
    refine k_get hC fd_X10_60 (kl hN (by decide)) h1 rfl dX10_numberHere_16 ?_
    refine k_iload_n hC dX10_numberHere_19 rfl 1 rfl ?_
    refine k_icmp_lt hC 31 dX10_numberHere_20 rfl (by omega) (by omega) (fun c_20 => ?_) (fun c_20 => ?_)
    · refine k_aload_n hC dX10_numberHere_31 rfl 0 rfl ?_
      refine k_iconst hC dX10_numberHere_32 ?_
      refine k_muvV hC (c_X10_fail l hls G hN w fl bt n st 2 (by omega) hn7 hb h2 hT) yy_X10_fail wm_X10_81 (kl hN (by decide)) h1 rfl rfl rfl rfl (Nat.le_of_ble_eq_true rfl) (by decide) (by decide) ⟨by decide, by decide⟩ dX10_numberHere_33 (fun w1 hp1 => ?_)
      obtain ⟨hT1, hf1⟩ := hp1
      obtain ⟨st_2, est_2⟩ : ∃ z : PS, z = flP 2 st := ⟨_, rfl⟩
      rw [← est_2] at hT1
      refine k_iconst hC dX10_numberHere_36 ?_
      subst hQ
      exact k_iret hC hr ⟨by decide, by decide⟩ (⟨congrArg (fun z => some (vI z)) (by unfold nhV; rw [selI_0]; unfold nhP; rw [selP_1 hin, selP_0 (fun q => by omega)]; exact fl_c (by decide)), rfl, (by have e : st_2 = nhP bt n lo hi st := (by unfold nhP; rw [selP_1 hin, selP_0 (fun q => by omega), est_2]); rw [← e]; exact hT1), fun j hj => hf1 j (by omega)⟩) dX10_numberHere_37
    · refine k_aload_n hC dX10_numberHere_23 rfl 0 rfl ?_
      refine k_get hC fd_X10_60 (kl hN (by decide)) h1 rfl dX10_numberHere_24 ?_
      refine k_iload_n hC dX10_numberHere_27 rfl 2 rfl ?_
      refine k_icmp_le hC 38 dX10_numberHere_28 rfl (by omega) (by omega) (fun c_28 => ?_) (fun c_28 => ?_)
      · refine k_aload_n hC dX10_numberHere_38 rfl 0 rfl ?_
        refine k_get hC fd_X10_60 (kl hN (by decide)) h1 rfl dX10_numberHere_39 ?_
        subst hQ
        exact k_iret hC hr ⟨by decide, by decide⟩ (⟨congrArg (fun z => some (vI z)) (by have e : (nhP bt n lo hi st).1 = 0 := (by unfold nhP; rw [selP_1 hin, selP_1 ⟨by omega, by omega⟩]; exact hin.1); rw [nhV_0 e]; omega), rfl, (by have e : st = nhP bt n lo hi st := (by unfold nhP; rw [selP_1 hin, selP_1 ⟨by omega, by omega⟩]); rw [← e]; exact hT), fun j hj => rfl⟩) dX10_numberHere_42
      · refine k_aload_n hC dX10_numberHere_31 rfl 0 rfl ?_
        refine k_iconst hC dX10_numberHere_32 ?_
        refine k_muvV hC (c_X10_fail l hls G hN w fl bt n st 2 (by omega) hn7 hb h2 hT) yy_X10_fail wm_X10_81 (kl hN (by decide)) h1 rfl rfl rfl rfl (Nat.le_of_ble_eq_true rfl) (by decide) (by decide) ⟨by decide, by decide⟩ dX10_numberHere_33 (fun w3 hp3 => ?_)
        obtain ⟨hT3, hf3⟩ := hp3
        obtain ⟨st_4, est_4⟩ : ∃ z : PS, z = flP 2 st := ⟨_, rfl⟩
        rw [← est_4] at hT3
        refine k_iconst hC dX10_numberHere_36 ?_
        subst hQ
        exact k_iret hC hr ⟨by decide, by decide⟩ (⟨congrArg (fun z => some (vI z)) (by unfold nhV; rw [selI_0]; unfold nhP; rw [selP_1 hin, selP_0 (fun q => by omega)]; exact fl_c (by decide)), rfl, (by have e : st_4 = nhP bt n lo hi st := (by unfold nhP; rw [selP_1 hin, selP_0 (fun q => by omega), est_4]); rw [← e]; exact hT3), fun j hj => hf3 j (by omega)⟩) dX10_numberHere_37
  · refine k_aload_n hC dX10_numberHere_8 rfl 0 rfl ?_
    refine k_iconst hC dX10_numberHere_9 ?_
    refine k_muvV hC (c_X10_fail l hls G hN w fl bt n st 1 (by omega) hn7 hb h2 hT) yy_X10_fail wm_X10_81 (kl hN (by decide)) h1 rfl rfl rfl rfl (Nat.le_of_ble_eq_true rfl) (by decide) (by decide) ⟨by decide, by decide⟩ dX10_numberHere_10 (fun w5 hp5 => ?_)
    obtain ⟨hT5, hf5⟩ := hp5
    obtain ⟨st_6, est_6⟩ : ∃ z : PS, z = flP 1 st := ⟨_, rfl⟩
    rw [← est_6] at hT5
    refine k_iconst hC dX10_numberHere_13 ?_
    subst hQ
    exact k_iret hC hr ⟨by decide, by decide⟩ (⟨congrArg (fun z => some (vI z)) (by unfold nhV; rw [selI_0]; unfold nhP; rw [selP_0 (fun q => by have q1 := q.1; have q2 := q.2; omega)]; exact fl_c (by decide)), rfl, (by have e : st_6 = nhP bt n lo hi st := (by unfold nhP; rw [selP_0 (fun q => by have q1 := q.1; have q2 := q.2; omega), est_6]); rw [← e]; exact hT5), fun j hj => hf5 j (by omega)⟩) dX10_numberHere_14

set_option maxRecDepth 100000 in
set_option maxHeartbeats 4000000 in
theorem c_X10_takeNumber (l : Launch) (hls : l.stackTraces = false) (G : kG) (hN : 133 ≤ kN G) (w : Nat → va_E) (fl : va_W) (bt : Nat → Int) (n : Nat) (st : PS) (lo hi : Int) (hlo : 0 ≤ lo ∧ lo ≤ 999999) (hhi : 0 ≤ hi ∧ hi ≤ 999999) (hn7 : n ≤ 700) (hb : btOK bt) (h2 : w 2 = byA G bt) (hT : tkR G w bt n st) : KM l G yX10_takeNumber cX10_takeNumber 4 (some (FieldType.int)) 2 0 0 [.ref (kad G 1), vI lo, vI hi] w fl (kMut (vI (nhV bt n lo hi st)) fl (fun w1 => tkR G w1 bt n (tkP bt n lo hi st) ∧ ∀ j, j ≠ 1 → w1 j = w j)) := by
  refine KM_of2 hls (by decide +kernel) rfl (lv0 := [(0, .ref (kad G 1)), (1, vI lo), (2, vI hi)]) rfl (Nat.le_of_ble_eq_true rfl) (fun p e R s m args below meth c Q hC hr hQ => ?_)
  refine k_aload_n hC dX10_takeNumber_0 rfl 0 rfl ?_
  refine k_iload_n hC dX10_takeNumber_1 rfl 1 rfl ?_
  refine k_iload_n hC dX10_takeNumber_2 rfl 2 rfl ?_
  have hTco_2 := hT
  obtain ⟨cno_2, eao_2, kdo_2, nmo_2, sao_2, nxo_2, h1o_2, -⟩ := hTco_2
  refine k_mutV hC (c_X10_numberHere l hls G hN w fl bt n st lo hi (by omega) (by omega) hn7 hb h2 hT) yy_X10_numberHere wm_X10_85 (kl hN (by decide)) h1o_2 rfl rfl rfl rfl (Nat.le_of_ble_eq_true rfl) (by decide) (by decide) ⟨by decide, by decide⟩ dX10_takeNumber_3 (fun w1 hp1 => ?_)
  obtain ⟨hT1, hf1⟩ := hp1
  obtain ⟨st_3, est_3⟩ : ∃ z : PS, z = nhP bt n lo hi st := ⟨_, rfl⟩
  rw [← est_3] at hT1
  have hnv_4 := nhV_b (bt := bt) (n := n) (lo := lo) (hi := hi) (st := st) (by omega) (by omega)
  refine k_istore_n hC [(3, vI (nhV bt n lo hi st)), (0, .ref (kad G 1)), (1, vI lo), (2, vI hi)] dX10_takeNumber_6 rfl (by decide) rfl ?_
  refine k_aload_n hC dX10_takeNumber_7 rfl 1 rfl ?_
  obtain ⟨cn5, ea5, kd5, nm5, sa5, p95, hp95, h15, hadv5⟩ := tk_open hT1
  have h_6 : w1 2 = bA G 700 (fun j => sb8 (bt j)) := (hf1 2 (by decide)).trans h2
  refine k_muvV hC (c_X10_advance l hls G hN w1 fl bt n p95 cn5 st_3.1 ea5 kd5 nm5 sa5 hn7 hp95 hb h_6 h15) yy_X10_advance wm_X10_37 (kl hN (by decide)) h15 rfl rfl rfl rfl (Nat.le_of_ble_eq_true rfl) (by decide) (by decide) ⟨by decide, by decide⟩ dX10_takeNumber_8 (fun w5 hp5 => ?_)
  obtain ⟨hq5, hf5⟩ := hp5
  have hT5 := hadv5 _ hq5
  obtain ⟨st_7, est_7⟩ : ∃ z : PS, z = adP bt n st_3 := ⟨_, rfl⟩
  rw [← est_7] at hT5
  refine k_iload_n hC dX10_takeNumber_11 rfl 0 rfl ?_
  subst hQ
  exact k_iret hC hr ⟨by decide, by decide⟩ (⟨congrArg (fun z => some (vI z)) (rfl), rfl, (by have e : st_7 = tkP bt n lo hi st := (by rw [est_7, est_3]; rfl); rw [← e]; exact hT5), fun j hj => (hf5 j (by omega)).trans (hf1 j (by omega))⟩) dX10_takeNumber_12

set_option maxRecDepth 100000 in
set_option maxHeartbeats 4000000 in
theorem c_X10_takeSigned (l : Launch) (hls : l.stackTraces = false) (G : kG) (hN : 133 ≤ kN G) (w : Nat → va_E) (fl : va_W) (bt : Nat → Int) (n : Nat) (st : PS) (mo : Int) (hmo : 0 ≤ mo ∧ mo ≤ 999999) (hn7 : n ≤ 700) (hb : btOK bt) (h2 : w 2 = byA G bt) (hT : tkR G w bt n st) : KM l G yX10_takeSigned cX10_takeSigned 4 (some (FieldType.int)) 3 0 0 [.ref (kad G 1), vI mo] w fl (kMut (vI (sgW bt n mo st)) fl (fun w1 => tkR G w1 bt n (sgP bt n mo st) ∧ ∀ j, j ≠ 1 → w1 j = w j)) := by
  refine KM_of2 hls (by decide +kernel) rfl (lv0 := [(0, .ref (kad G 1)), (1, vI mo)]) rfl (Nat.le_of_ble_eq_true rfl) (fun p e R s m args below meth c Q hC hr hQ => ?_)
  refine k_aload_n hC dX10_takeSigned_0 rfl 0 rfl ?_
  refine k_bipush hC dX10_takeSigned_1 (by decide) ?_
  have hTco_1 := hT
  obtain ⟨cno_1, eao_1, kdo_1, nmo_1, sao_1, nxo_1, h1o_1, -⟩ := hTco_1
  refine k_pureV hC (c_X10_isSign l hls G hN w fl bt n st 45 (by omega) hn7 hb h2 hT) yy_X10_isSign wm_X10_77 (kl hN (by decide)) h1o_1 rfl rfl rfl rfl (Nat.le_of_ble_eq_true rfl) (by decide) (by decide) ⟨by decide, by decide⟩ dX10_takeSigned_3 ?_
  obtain ⟨z_2, ez_2, hz_2⟩ := selI_c (isS bt n 45 st)
  refine k_topv (vI z_2) (by rw [ez_2]) ?_
  refine k_istore_n hC [(2, vI z_2), (0, .ref (kad G 1)), (1, vI mo)] dX10_takeSigned_6 rfl (by decide) rfl ?_
  refine k_iload_n hC dX10_takeSigned_7 rfl 0 rfl ?_
  refine k_if_eq hC 15 dX10_takeSigned_8 rfl (by omega) (fun c_8 => ?_) (fun c_8 => ?_)
  · refine k_aload_n hC dX10_takeSigned_15 rfl 1 rfl ?_
    refine k_iconst hC dX10_takeSigned_16 ?_
    refine k_iload_n hC dX10_takeSigned_17 rfl 2 rfl ?_
    refine k_mutV hC (c_X10_takeNumber l hls G hN w fl bt n st 0 mo (by omega) (by omega) hn7 hb h2 hT) yy_X10_takeNumber wm_X10_88 (kl hN (by decide)) h1o_1 rfl rfl rfl rfl (Nat.le_of_ble_eq_true rfl) (by decide) (by decide) ⟨by decide, by decide⟩ dX10_takeSigned_18 (fun w3 hp3 => ?_)
    obtain ⟨hT3, hf3⟩ := hp3
    obtain ⟨st_4, est_4⟩ : ∃ z : PS, z = tkP bt n 0 mo st := ⟨_, rfl⟩
    rw [← est_4] at hT3
    have hnv_5 := nhV_b (bt := bt) (n := n) (lo := 0) (hi := mo) (st := st) (by omega) (by omega)
    refine k_istore_n hC [(3, vI (nhV bt n 0 mo st)), (2, vI z_2), (0, .ref (kad G 1)), (1, vI mo)] dX10_takeSigned_21 rfl (by decide) rfl ?_
    refine k_iload_n hC dX10_takeSigned_22 rfl 1 rfl ?_
    refine k_if_eq hC 31 dX10_takeSigned_23 rfl (by omega) (fun c_23 => ?_) (fun c_23 => ?_)
    · refine k_iload_n hC dX10_takeSigned_31 rfl 0 rfl ?_
      subst hQ
      exact k_iret hC hr ⟨by decide, by decide⟩ (⟨congrArg (fun z => some (vI z)) (by first | (exfalso; omega) | (unfold sgW sg0; rw [selI_0 (hz_2.resolve_left (fun q1 => by omega)).2, selP_0 (hz_2.resolve_left (fun q1 => by omega)).2])), rfl, (by have e : st_4 = sgP bt n mo st := (by unfold sgP sg0; rw [selP_0 (hz_2.resolve_left (fun q1 => by omega)).2, est_4]); rw [← e]; exact hT3), fun j hj => hf3 j (by omega)⟩) dX10_takeSigned_32
    · refine k_iload_n hC dX10_takeSigned_26 rfl 0 rfl ?_
      refine k_ineg hC dX10_takeSigned_27 ?_
      refine k_goto hC 32 dX10_takeSigned_28 rfl ?_
      subst hQ
      exact k_iret hC hr ⟨by decide, by decide⟩ (⟨congrArg (fun z => some (vI z)) (by first | (exfalso; omega) | (unfold sgW sg0; rw [selI_0 (hz_2.resolve_left (fun q1 => by omega)).2, selP_0 (hz_2.resolve_left (fun q1 => by omega)).2])), rfl, (by have e : st_4 = sgP bt n mo st := (by unfold sgP sg0; rw [selP_0 (hz_2.resolve_left (fun q1 => by omega)).2, est_4]); rw [← e]; exact hT3), fun j hj => hf3 j (by omega)⟩) dX10_takeSigned_32
  · refine k_aload_n hC dX10_takeSigned_11 rfl 1 rfl ?_
    obtain ⟨cn6, ea6, kd6, nm6, sa6, p96, hp96, h16, hadv6⟩ := tk_open hT
    refine k_muvV hC (c_X10_advance l hls G hN w fl bt n p96 cn6 st.1 ea6 kd6 nm6 sa6 hn7 hp96 hb h2 h16) yy_X10_advance wm_X10_37 (kl hN (by decide)) h16 rfl rfl rfl rfl (Nat.le_of_ble_eq_true rfl) (by decide) (by decide) ⟨by decide, by decide⟩ dX10_takeSigned_12 (fun w6 hp6 => ?_)
    obtain ⟨hq6, hf6⟩ := hp6
    have hT6 := hadv6 _ hq6
    obtain ⟨st_7, est_7⟩ : ∃ z : PS, z = adP bt n st := ⟨_, rfl⟩
    rw [← est_7] at hT6
    refine k_aload_n hC dX10_takeSigned_15 rfl 1 rfl ?_
    refine k_iconst hC dX10_takeSigned_16 ?_
    refine k_iload_n hC dX10_takeSigned_17 rfl 2 rfl ?_
    have hTco_9 := hT6
    obtain ⟨cno_9, eao_9, kdo_9, nmo_9, sao_9, nxo_9, h1o_9, -⟩ := hTco_9
    have h_10 : w6 2 = bA G 700 (fun j => sb8 (bt j)) := (hf6 2 (by decide)).trans h2
    refine k_mutV hC (c_X10_takeNumber l hls G hN w6 fl bt n st_7 0 mo (by omega) (by omega) hn7 hb h_10 hT6) yy_X10_takeNumber wm_X10_88 (kl hN (by decide)) h1o_9 rfl rfl rfl rfl (Nat.le_of_ble_eq_true rfl) (by decide) (by decide) ⟨by decide, by decide⟩ dX10_takeSigned_18 (fun w8 hp8 => ?_)
    obtain ⟨hT8, hf8⟩ := hp8
    obtain ⟨st_11, est_11⟩ : ∃ z : PS, z = tkP bt n 0 mo st_7 := ⟨_, rfl⟩
    rw [← est_11] at hT8
    have hnv_12 := nhV_b (bt := bt) (n := n) (lo := 0) (hi := mo) (st := st_7) (by omega) (by omega)
    refine k_istore_n hC [(3, vI (nhV bt n 0 mo st_7)), (2, vI z_2), (0, .ref (kad G 1)), (1, vI mo)] dX10_takeSigned_21 rfl (by decide) rfl ?_
    refine k_iload_n hC dX10_takeSigned_22 rfl 1 rfl ?_
    refine k_if_eq hC 31 dX10_takeSigned_23 rfl (by omega) (fun c_23 => ?_) (fun c_23 => ?_)
    · refine k_iload_n hC dX10_takeSigned_31 rfl 0 rfl ?_
      subst hQ
      exact k_iret hC hr ⟨by decide, by decide⟩ (⟨congrArg (fun z => some (vI z)) (by first | (exfalso; omega) | (unfold sgW sg0; rw [selI_1 (hz_2.resolve_right (fun q1 => by omega)).2, selP_1 (hz_2.resolve_right (fun q1 => by omega)).2, est_7])), rfl, (by have e : st_11 = sgP bt n mo st := (by unfold sgP sg0; rw [selP_1 (hz_2.resolve_right (fun q1 => by omega)).2, est_11, est_7]); rw [← e]; exact hT8), fun j hj => (hf8 j (by omega)).trans (hf6 j (by omega))⟩) dX10_takeSigned_32
    · refine k_iload_n hC dX10_takeSigned_26 rfl 0 rfl ?_
      refine k_ineg hC dX10_takeSigned_27 ?_
      refine k_goto hC 32 dX10_takeSigned_28 rfl ?_
      subst hQ
      exact k_iret hC hr ⟨by decide, by decide⟩ (⟨congrArg (fun z => some (vI z)) (by first | (exfalso; omega) | (unfold sgW sg0; rw [selI_1 (hz_2.resolve_right (fun q1 => by omega)).2, selP_1 (hz_2.resolve_right (fun q1 => by omega)).2, est_7])), rfl, (by have e : st_11 = sgP bt n mo st := (by unfold sgP sg0; rw [selP_1 (hz_2.resolve_right (fun q1 => by omega)).2, est_11, est_7]); rw [← e]; exact hT8), fun j hj => (hf8 j (by omega)).trans (hf6 j (by omega))⟩) dX10_takeSigned_32

