theorem ctA (g : Nat → Int) (a : Int) (k : Nat) : ctF (fun i => decide (a < obsM g i)) (k + 1) = ctF (fun i => decide (a < obsM g i)) k + (if a < obsM g k then 1 else 0) := by
  show (if decide (a < obsM g k) = true then _ else _) = _
  by_cases h : a < obsM g k
  · rw [if_pos (decide_eq_true h), if_pos h]
  · rw [if_neg (by rw [decide_eq_false h]; decide), if_neg h, Int.add_zero]
set_option maxRecDepth 100000 in
set_option maxHeartbeats 4000000 in
theorem c_L_isTold (l : Launch) (hls : l.stackTraces = false) (G : kG) (hM : 138 ≤ kN G) (w : Nat → va_E) (fl : va_W) (g nl : Nat → Int) (sv v : Int) (hI : Inv g) (h00 : w 0 = srO G sv) (hL : kLog G w 3 g) (hP : kPlan G w 32 g nl) (hCt : kCht G w) (hS : saR G w []) (h129 : w 129 = qdO G) (hl0 : ∃ lf, w 130 = iA G 12 lf) (hr0 : ∃ rf, w 131 = iA G 12 rf) : KM l G yL_isTold cL_isTold 6 (some (FieldType.boolean)) 29 8 48 [.ref (kad G 0), .ref (kad G 133), vI v] w fl (kMut (vI 1) fl (fun w1 => saR G w1 [] ∧ kCht G w1 ∧ (∃ lf, w1 130 = iA G 12 lf) ∧ (∃ rf, w1 131 = iA G 12 rf) ∧ ∀ j, (j ≠ 1 ∧ j ≠ 2 ∧ j ≠ 133 ∧ j ≠ 130 ∧ j ≠ 131 ∧ (j < 10 ∨ 31 < j)) → w1 j = w j)) := by
  refine KM_of2 hls (by decide +kernel) rfl (lv0 := [(0, .ref (kad G 0)), (1, .ref (kad G 133)), (2, vI v)]) rfl (Nat.le_of_ble_eq_true rfl) (fun p e R s m args below meth c Q hC hr hQ => ?_)
  have hN : 133 ≤ kN G := by omega
  have h0 := hI.c
  have hsl : stL 41 = 14 := by decide
  refine k_iload_n hC dL_isTold_0 rfl 2 rfl ?_
  refine k_sipush hC dL_isTold_1 (by decide) ?_
  refine k_callS hC (c_L_most l hls G hN w fl v 5000 (by omega)) yy_L_most wm_L_27 rfl rfl (Nat.le_of_ble_eq_true rfl) (by decide) (by decide) ⟨by decide, by decide⟩ dL_isTold_4 (fun v1 w1 fl1 hp1 => ?_)
  obtain ⟨r1, hr1, hs1, q1, q2, q3⟩ := hp1
  subst q1
  subst q2
  subst q3
  show KW p l e R s m args below meth c 6 G Q w fl 0 0 7 [(0, .ref (kad G 0)), (1, .ref (kad G 133)), (2, vI v)] [vI r1]
  refine k_istore_n hC [(3, vI r1), (0, .ref (kad G 0)), (1, .ref (kad G 133)), (2, vI v)] dL_isTold_7 rfl (by decide) rfl ?_
  refine k_aload_n hC dL_isTold_8 rfl 1 rfl ?_
  refine k_aload_n hC dL_isTold_9 rfl 2 rfl ?_
  refine k_ldcs hC (List.mem_of_getElem? (i := 43) rfl) dL_isTold_10 ?_
  refine k_iload_n hC dL_isTold_12 rfl 0 rfl ?_
  refine k_callS hC (c_L_with l hls G hM w fl ([]) sv 41 r1 (by decide) (by omega) (by (try simp only [List.length_append, List.length_cons, List.length_nil, List.length_replicate, List.length_map, List.length_range, stW_len]); omega) hS h00) yy_L_with wm_L_97 rfl rfl (Nat.le_of_ble_eq_true rfl) (by decide) (by decide) ⟨by decide, by decide⟩ dL_isTold_13 (fun v2 w2 fl2 hp2 => ?_)
  obtain ⟨q1, q2, hS2, hf2⟩ := hp2
  subst q1
  subst q2
  show KW p l e R s m args below meth c 6 G Q w2 fl 0 0 16 [(3, vI r1), (0, .ref (kad G 0)), (1, .ref (kad G 133)), (2, vI v)] []
  refine k_iconst hC dL_isTold_16 ?_
  refine k_istore hC [(4, vI 0), (3, vI r1), (0, .ref (kad G 0)), (1, .ref (kad G 133)), (2, vI v)] dL_isTold_17 (by decide) rfl ?_
  refine k_iconst hC dL_isTold_19 ?_
  refine k_istore hC [(5, vI 0), (4, vI 0), (3, vI r1), (0, .ref (kad G 0)), (1, .ref (kad G 133)), (2, vI v)] dL_isTold_20 (by decide) rfl ?_
  have hsg := sgL_len r1
  have loop1 : ∀ (n1 : Nat) (k : Nat) (nn : Int) (u1 : Nat → va_E), ((g 2).toNat < n1 + k) → ((k : Int) ≤ g 2) → (nn = ctF (fun i => decide (r1 < obsM g i)) k) → (0 ≤ nn ∧ nn ≤ (k : Int)) → (saR G u1 ([] ++ stW 41 ++ sgL r1)) → (u1 0 = .inr (11, [.ref (kad G 1), .ref (kad G 32), .ref (kad G 3), .ref (kad G 37), vI sv, .ref (kad G 44), .ref (kad G 10), .ref (kad G 116), .ref (kad G 129), .ref (kad G 132)])) → (kLog G u1 3 g) → (kPlan G u1 32 g nl) → (kCht G u1) → ((∀ j, (j ≠ 1 ∧ j ≠ 2 ∧ j ≠ 133 ∧ (j < 10 ∨ 31 < j)) → u1 j = w j)) → KW p l e R s m args below meth c 6 G Q u1 fl 0 0 22 [(5, vI (k : Int)), (4, vI nn), (3, vI r1), (0, .ref (kad G 0)), (1, .ref (kad G 133)), (2, vI v)] [] := by
    intro n1
    induction n1 with
    | zero =>
      intro k nn u1 hn_1 hk hn hnb hSx h0x hLx hPx hCx hfr1
      exact absurd hn_1 (by omega)
    | succ n1 ih1 =>
      intro k nn u1 hn_1 hk hn hnb hSx h0x hLx hPx hCx hfr1
      refine k_iload hC dL_isTold_22 0 rfl ?_
      refine k_aload_n hC dL_isTold_24 rfl 3 rfl ?_
      refine k_iconst hC dL_isTold_25 ?_
      refine k_callV hC (n_X11_told l hls G hN u1 fl g nl sv 2 (by omega) hI h0x hLx hPx hCx (by omega)) yy_X11_told wm_L_126 (kl hN (by decide)) h0x rfl rfl rfl rfl (Nat.le_of_ble_eq_true rfl) (by decide) (by decide) ⟨by decide, by decide⟩ dL_isTold_26 (fun v3 w3 fl3 hp3 => ?_)
      obtain ⟨-, q1, q2, hp3⟩ := hp3
      subst q1
      subst q2
      obtain ⟨hCt3, hf3⟩ := hp3
      show KW p l e R s m args below meth c 6 G Q w3 fl 0 0 29 [(5, vI (k : Int)), (4, vI nn), (3, vI r1), (0, .ref (kad G 0)), (1, .ref (kad G 133)), (2, vI v)] [vI (g (2 : Int).toNat), vI (k : Int)]
      refine k_topv (vI (g 2)) rfl ?_
      refine k_icmp_ge hC 59 dL_isTold_29 rfl (by omega) (by omega) (fun c_29 => ?_) (fun c_29 => ?_)
      · refine k_aload_n hC dL_isTold_59 rfl 3 rfl ?_
        refine k_aload_n hC dL_isTold_60 rfl 3 rfl ?_
        refine k_aload_n hC dL_isTold_61 rfl 4 rfl ?_
        have hS_5 : saR G w3 ([] ++ stW 41 ++ sgL r1) := hSx.fr (fun j hj => (hf3 j (by omega)))
        have h_6 : w3 0 = .inr (11, [.ref (kad G 1), .ref (kad G 32), .ref (kad G 3), .ref (kad G 37), vI sv, .ref (kad G 44), .ref (kad G 10), .ref (kad G 116), .ref (kad G 129), .ref (kad G 132)]) := (hf3 0 (by omega)).trans h0x
        refine k_callS hC (c_L_end l hls G hM w3 fl ([] ++ stW 41 ++ sgL r1) sv (by (try simp only [List.length_append, List.length_cons, List.length_nil, List.length_replicate, List.length_map, List.length_range, stW_len]); omega) hS_5 h_6) yy_L_end wm_L_119 rfl rfl (Nat.le_of_ble_eq_true rfl) (by decide) (by decide) ⟨by decide, by decide⟩ dL_isTold_62 (fun v4 w4 fl4 hp4 => ?_)
        obtain ⟨q1, q2, hE4, hf4⟩ := hp4
        subst q1
        subst q2
        show KW p l e R s m args below meth c 6 G Q w4 fl 0 0 65 [(5, vI (k : Int)), (4, vI nn), (3, vI r1), (0, .ref (kad G 0)), (1, .ref (kad G 133)), (2, vI v)] [vI (([] ++ stW 41 ++ sgL r1).length : Int), .ref (kad G 0)]
        have h_8 : w4 0 = .inr (11, [.ref (kad G 1), .ref (kad G 32), .ref (kad G 3), .ref (kad G 37), vI sv, .ref (kad G 44), .ref (kad G 10), .ref (kad G 116), .ref (kad G 129), .ref (kad G 132)]) := (hf4 0 (by omega)).trans h_6
        have hfr9 : ∀ j, (j ≠ 1 ∧ j ≠ 2 ∧ j ≠ 133 ∧ (j < 10 ∨ 31 < j)) → w4 j = w j := fun j hj => (hf4 j (by omega)).trans ((hf3 j (by omega)).trans (hfr1 j (by omega)))
        obtain ⟨z133, c0, bt, cd, ea, kd, nm, sa, nx, en, hlc, hc7, z1, z2, hbk, hbt⟩ := hE4
        have hln : ([] ++ stW 41 ++ sgL r1).length ≤ 20 := by simp only [List.length_append, List.length_nil, stW_len]; omega
        have hat : atT bt ([] ++ stW 41 ++ sgL r1).length 0 (stW 41 ++ sgL r1) := ⟨Nat.zero_add _, fun j hj => by rw [Nat.zero_add]; exact hbt j hj⟩
        have hqa := q_all (g := g) (g 2).toNat (by omega) hat
        have hB_9 : kLog G w4 3 g := hLx.fr (fun j q1 q2 => (hf4 j (by omega)).trans (hf3 j (by omega)))
        have hB_10 : kPlan G w4 32 g nl := hPx.fr (fun j q1 q2 => (hf4 j (by omega)).trans (hf3 j (by omega)))
        have hB_11 : kCht G w4 := hCt3.fr (fun j q1 q2 => (hf4 j (by omega)))
        refine k_callV hC (KM_ofX (c_X11_query l hls G hN w4 fl g nl bt sv c0 ([] ++ stW 41 ++ sgL r1).length cd ea kd nm sa nx en (([] ++ stW 41 ++ sgL r1).length : Int) (by omega) rfl hc7 hbk hI h_8 hB_9 hB_10 hB_11 z2 ((hfr9 129 (by decide)).trans h129) (hl0.elim (fun z hz => ⟨z, (hfr9 130 (by decide)).trans hz⟩)) (hr0.elim (fun z hz => ⟨z, (hfr9 131 (by decide)).trans hz⟩)) z1) (kTh_no (by omega))) yy_X11_query wm_L_240 (kl hN (by decide)) h_8 rfl rfl rfl rfl (Nat.le_of_ble_eq_true rfl) (by decide) (by decide) ⟨by decide, by decide⟩ dL_isTold_65 (fun v7 w7 fl7 hp7 => ?_)
        obtain ⟨-, q1, q2, hT9, ⟨hl9, hr9⟩, hc9, hf9⟩ := hp7
        subst q1
        subst q2
        obtain ⟨cn1, ea1, kd1, nm1, sa1, nx1, k1, k1c, -⟩ := hT9
        subst k1c
        refine k_topv (vI nn) (congrArg vI (hqa.trans (by rw [hn, show k = (g 2).toNat by omega]))) ?_
        show KW p l e R s m args below meth c 6 G Q w7 fl 8 48 68 [(5, vI (k : Int)), (4, vI nn), (3, vI r1), (0, .ref (kad G 0)), (1, .ref (kad G 133)), (2, vI v)] [vI nn]
        refine k_iload hC dL_isTold_68 1 rfl ?_
        refine k_icmp_ne hC 77 dL_isTold_70 rfl (by omega) (by omega) (fun c_70 => absurd rfl c_70) (fun c_70 => ?_)
        refine k_iconst hC dL_isTold_73 ?_
        refine k_goto hC 78 dL_isTold_74 rfl ?_
        subst hQ
        exact k_zret hC (by omega) hr ⟨by decide, by decide⟩ (⟨rfl, rfl, sa_new ((hf9 133 (by omega)).trans z133) k1 ((hf9 2 (by omega)).trans z2) hbk, hc9, hl9, hr9, fun j hj => (hf9 j (by omega)).trans (hfr9 j (by omega))⟩) dL_isTold_78
      · have ho9 := obsM_b hI k (by omega)
        refine k_iload hC dL_isTold_32 1 rfl ?_
        refine k_aload_n hC dL_isTold_34 rfl 3 rfl ?_
        refine k_iload hC dL_isTold_35 0 rfl ?_
        refine k_iconst hC dL_isTold_37 ?_
        have h_12 : w3 0 = .inr (11, [.ref (kad G 1), .ref (kad G 32), .ref (kad G 3), .ref (kad G 37), vI sv, .ref (kad G 44), .ref (kad G 10), .ref (kad G 116), .ref (kad G 129), .ref (kad G 132)]) := (hf3 0 (by omega)).trans h0x
        have hB_13 : kLog G w3 3 g := hLx.fr (fun j q1 q2 => (hf3 j (by omega)))
        have hB_14 : kPlan G w3 32 g nl := hPx.fr (fun j q1 q2 => (hf3 j (by omega)))
        refine k_callV hC (n_X11_sight l hls G hN w3 fl g nl sv (k : Int) 4 (by omega) (by omega) hI h_12 hB_13 hB_14 hCt3 (by omega)) yy_X11_sight wm_L_133 (kl hN (by decide)) h_12 rfl rfl rfl rfl (Nat.le_of_ble_eq_true rfl) (by decide) (by decide) ⟨by decide, by decide⟩ dL_isTold_38 (fun v15 w15 fl15 hp15 => ?_)
        obtain ⟨-, q1, q2, hp15⟩ := hp15
        subst q1
        subst q2
        obtain ⟨hCt15, hf15⟩ := hp15
        show KW p l e R s m args below meth c 6 G Q w15 fl 0 0 41 [(5, vI (k : Int)), (4, vI nn), (3, vI r1), (0, .ref (kad G 0)), (1, .ref (kad G 133)), (2, vI v)] [vI (sightV g (k : Int).toNat 4), vI nn]
        refine k_topv (vI (obsM g k)) rfl ?_
        refine k_iload_n hC dL_isTold_41 rfl 2 rfl ?_
        refine k_icmp_le hC 49 dL_isTold_42 rfl (by omega) (by omega) (fun c_42 => ?_) (fun c_42 => ?_)
        · refine k_iconst hC dL_isTold_49 ?_
          refine k_iadd hC dL_isTold_50 ?_
          refine k_istore hC [(4, vI (nn + 0)), (5, vI (k : Int)), (3, vI r1), (0, .ref (kad G 0)), (1, .ref (kad G 133)), (2, vI v)] dL_isTold_51 (by decide) rfl ?_
          refine k_iinc hC (y := (k : Int) + 1) [(5, vI ((k : Int) + 1)), (4, vI (nn + 0)), (3, vI r1), (0, .ref (kad G 0)), (1, .ref (kad G 133)), (2, vI v)] (j := 1) dL_isTold_53 rfl (by omega) (by decide) rfl ?_
          refine k_goto hC 22 dL_isTold_56 rfl ?_
          have hS_16 : saR G w15 ([] ++ stW 41 ++ sgL r1) := hSx.fr (fun j hj => (hf15 j (by omega)).trans (hf3 j (by omega)))
          refine k_lvs (ls := [0, 1, 2, 3, 4, 5]) [(5, vI ((k + 1 : Nat) : Int)), (4, vI (nn + 0)), (3, vI r1), (0, .ref (kad G 0)), (1, .ref (kad G 133)), (2, vI v)] (by simp only [lv_pick]; rfl) ?_
          have h_17 : w15 0 = .inr (11, [.ref (kad G 1), .ref (kad G 32), .ref (kad G 3), .ref (kad G 37), vI sv, .ref (kad G 44), .ref (kad G 10), .ref (kad G 116), .ref (kad G 129), .ref (kad G 132)]) := (hf15 0 (by omega)).trans h_12
          have hB_18 : kLog G w15 3 g := hB_13.fr (fun j q1 q2 => (hf15 j (by omega)))
          have hB_19 : kPlan G w15 32 g nl := hB_14.fr (fun j q1 q2 => (hf15 j (by omega)))
          exact ih1 (k + 1) (nn + 0) w15 (by omega) (by omega) (by rw [ctA, ← hn]; split <;> omega) (by omega) hS_16 h_17 hB_18 hB_19 hCt15 (fun j hj => (hf15 j (by omega)).trans ((hf3 j (by omega)).trans (hfr1 j (by omega))))
        · refine k_iconst hC dL_isTold_45 ?_
          refine k_goto hC 50 dL_isTold_46 rfl ?_
          refine k_iadd hC dL_isTold_50 ?_
          refine k_istore hC [(4, vI (nn + 1)), (5, vI (k : Int)), (3, vI r1), (0, .ref (kad G 0)), (1, .ref (kad G 133)), (2, vI v)] dL_isTold_51 (by decide) rfl ?_
          refine k_iinc hC (y := (k : Int) + 1) [(5, vI ((k : Int) + 1)), (4, vI (nn + 1)), (3, vI r1), (0, .ref (kad G 0)), (1, .ref (kad G 133)), (2, vI v)] (j := 1) dL_isTold_53 rfl (by omega) (by decide) rfl ?_
          refine k_goto hC 22 dL_isTold_56 rfl ?_
          have hS_20 : saR G w15 ([] ++ stW 41 ++ sgL r1) := hSx.fr (fun j hj => (hf15 j (by omega)).trans (hf3 j (by omega)))
          refine k_lvs (ls := [0, 1, 2, 3, 4, 5]) [(5, vI ((k + 1 : Nat) : Int)), (4, vI (nn + 1)), (3, vI r1), (0, .ref (kad G 0)), (1, .ref (kad G 133)), (2, vI v)] (by simp only [lv_pick]; rfl) ?_
          have h_21 : w15 0 = .inr (11, [.ref (kad G 1), .ref (kad G 32), .ref (kad G 3), .ref (kad G 37), vI sv, .ref (kad G 44), .ref (kad G 10), .ref (kad G 116), .ref (kad G 129), .ref (kad G 132)]) := (hf15 0 (by omega)).trans h_12
          have hB_22 : kLog G w15 3 g := hB_13.fr (fun j q1 q2 => (hf15 j (by omega)))
          have hB_23 : kPlan G w15 32 g nl := hB_14.fr (fun j q1 q2 => (hf15 j (by omega)))
          exact ih1 (k + 1) (nn + 1) w15 (by omega) (by omega) (by rw [ctA, ← hn]; split <;> omega) (by omega) hS_20 h_21 hB_22 hB_23 hCt15 (fun j hj => (hf15 j (by omega)).trans ((hf3 j (by omega)).trans (hfr1 j (by omega))))
  refine k_lvs (ls := [0, 1, 2, 3, 4, 5]) [(5, vI ((0 : Nat) : Int)), (4, vI 0), (3, vI r1), (0, .ref (kad G 0)), (1, .ref (kad G 133)), (2, vI v)] (by simp only [lv_pick]; rfl) ?_
  have h_24 : w2 0 = .inr (11, [.ref (kad G 1), .ref (kad G 32), .ref (kad G 3), .ref (kad G 37), vI sv, .ref (kad G 44), .ref (kad G 10), .ref (kad G 116), .ref (kad G 129), .ref (kad G 132)]) := (hf2 0 (by omega)).trans h00
  have hB_25 : kLog G w2 3 g := hL.fr (fun j q1 q2 => (hf2 j (by omega)))
  have hB_26 : kPlan G w2 32 g nl := hP.fr (fun j q1 q2 => (hf2 j (by omega)))
  have hB_27 : kCht G w2 := hCt.fr (fun j q1 q2 => (hf2 j (by omega)))
  exact loop1 13 0 0 w2 (by omega) (by omega) rfl (by omega) hS2 h_24 hB_25 hB_26 hB_27 (fun j hj => hf2 j (by omega))

