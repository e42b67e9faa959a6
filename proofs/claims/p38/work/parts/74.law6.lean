set_option maxRecDepth 100000 in
set_option maxHeartbeats 4000000 in
theorem c_L_add (l : Launch) (hls : l.stackTraces = false) (G : kG) (hM : 138 ≤ kN G) (w : Nat → va_E) (fl : va_W) (T : List Int) (b sv : Int) (hS : saR G w T) (hlt : T.length < 700) (hb : 0 ≤ b ∧ b < 128) (h00 : w 0 = srO G sv) : KM l G yL_add cL_add 4 (none) 2 0 0 [.ref (kad G 0), .ref (kad G 133), vI b] w fl (kMuv fl (fun w1 => saR G w1 (T ++ [b]) ∧ ∀ j, (j ≠ 1 ∧ j ≠ 2 ∧ j ≠ 133) → w1 j = w j)) := by
  refine KM_of2 hls (by decide +kernel) rfl (lv0 := [(0, .ref (kad G 0)), (1, .ref (kad G 133)), (2, vI b)]) rfl (Nat.le_of_ble_eq_true rfl) (fun p e R s m args below meth c Q hC hr hQ => ?_)
  have hN : 133 ≤ kN G := by omega
  obtain ⟨hal, hln, h133, ⟨cd, ea, kd, nm, sa, nx, en, h1⟩, bt, h2, hbk, hbt⟩ := hS
  have hal2 := sa_all hal hb
  have hW4 := fun p => W4_b (p := p) hal2
  have hW0 := fun p => W4_b (p := p) hal
  refine k_aload_n hC dL_add_0 rfl 1 rfl ?_
  refine k_aload_n hC dL_add_1 rfl 1 rfl ?_
  refine k_iconst hC dL_add_2 ?_
  refine k_iald hC (kl2 hM (by decide)) h133 (by omega) (by decide) dL_add_3 ?_
  refine k_topv (vI ((saF T) 5)) rfl ?_
  refine k_topv (vI ((T.length : Int))) (congrArg vI (rfl)) ?_
  refine k_bipush hC dL_add_4 (by decide) ?_
  refine k_irem hC dL_add_6 (by omega) (by omega) ?_
  refine k_topv (vI ((T.length : Int) % 20)) (congrArg vI (Int.tmod_eq_emod_of_nonneg (by omega))) ?_
  refine k_iconst hC dL_add_7 ?_
  refine k_idiv hC dL_add_8 (by omega) (by omega) ?_
  refine k_topv (vI (((T.length % 20 / 4 : Nat) : Int))) (congrArg vI (by rw [Int.tdiv_eq_ediv_of_nonneg (by omega)]; omega)) ?_
  refine k_dup2 hC dL_add_9 rfl rfl ?_
  refine k_iald hC (kl2 hM (by decide)) h133 (by omega) (by decide) dL_add_10 ?_
  refine k_topv (vI ((saF T) (T.length % 20 / 4))) rfl ?_
  refine k_topv (vI (W4 (fun j => T.getD j 0) (20 * (T.length / 20) + 4 * (T.length % 20 / 4)))) (congrArg vI (saF_lt T)) ?_
  refine k_iload_n hC dL_add_11 rfl 2 rfl ?_
  refine k_bipush hC dL_add_12 (by decide) ?_
  refine k_bipush hC dL_add_14 (by decide) ?_
  refine k_aload_n hC dL_add_16 rfl 1 rfl ?_
  refine k_iconst hC dL_add_17 ?_
  refine k_iald hC (kl2 hM (by decide)) h133 (by omega) (by decide) dL_add_18 ?_
  refine k_topv (vI ((saF T) 5)) rfl ?_
  refine k_topv (vI ((T.length : Int))) (congrArg vI (rfl)) ?_
  refine k_iconst hC dL_add_19 ?_
  refine k_irem hC dL_add_20 (by omega) (by omega) ?_
  refine k_topv (vI ((T.length : Int) % 4)) (congrArg vI (Int.tmod_eq_emod_of_nonneg (by omega))) ?_
  refine k_imul hC dL_add_21 ?_
  refine k_isub hC dL_add_22 ?_
  refine k_ishlB hC hb (by omega) dL_add_23 ?_
  refine k_iorB hC (v := W4 (fun j => (T ++ [b]).getD j 0) (20 * (T.length / 20) + 4 * (T.length % 20 / 4))) (by obtain ⟨x, y, n, q1, q2, q3, q4, q5⟩ := W4_put hal hb (T.length % 20 / 4) rfl; exact ⟨x, y, n, q1, q2, q3, q4, q5⟩) dL_add_24 ?_
  refine k_iast hC (kl2 hM (by decide)) h133 (by omega) (by decide) dL_add_25 (fun w1 hw1 hf1 => ?_)
  have h_2 : w1 133 = iA G 6 (kup (saF T) (T.length % 20 / 4) (W4 (fun j => (T ++ [b]).getD j 0) (20 * (T.length / 20) + 4 * (T.length % 20 / 4)))) := hw1
  refine k_aload_n hC dL_add_26 rfl 1 rfl ?_
  refine k_iconst hC dL_add_27 ?_
  refine k_dup2 hC dL_add_28 rfl rfl ?_
  refine k_iald hC (kl2 hM (by decide)) h_2 (by omega) (by decide) dL_add_29 ?_
  refine k_topv (vI ((kup (saF T) (T.length % 20 / 4) (W4 (fun j => (T ++ [b]).getD j 0) (20 * (T.length / 20) + 4 * (T.length % 20 / 4)))) (5 : Nat))) rfl ?_
  refine k_topv (vI ((T.length : Int))) (congrArg vI ((kup_n (by omega)).trans rfl)) ?_
  refine k_iconst hC dL_add_30 ?_
  refine k_iadd hC dL_add_31 ?_
  refine k_iast hC (kl2 hM (by decide)) h_2 (by omega) (by decide) dL_add_32 (fun w3 hw3 hf3 => ?_)
  have h_4 : w3 133 = iA G 6 (kup (kup (saF T) (T.length % 20 / 4) (W4 (fun j => (T ++ [b]).getD j 0) (20 * (T.length / 20) + 4 * (T.length % 20 / 4)))) 5 ((T.length : Int) + 1)) := hw3
  refine k_aload_n hC dL_add_33 rfl 1 rfl ?_
  refine k_iconst hC dL_add_34 ?_
  refine k_iald hC (kl2 hM (by decide)) h_4 (by omega) (by decide) dL_add_35 ?_
  refine k_topv (vI ((kup (kup (saF T) (T.length % 20 / 4) (W4 (fun j => (T ++ [b]).getD j 0) (20 * (T.length / 20) + 4 * (T.length % 20 / 4)))) 5 ((T.length : Int) + 1)) (5 : Nat))) rfl ?_
  refine k_topv (vI ((T.length : Int) + 1)) (congrArg vI (kup_s)) ?_
  refine k_bipush hC dL_add_36 (by decide) ?_
  refine k_irem hC dL_add_38 (by omega) (by omega) ?_
  refine k_topv (vI (((T.length + 1) % 20 : Nat))) (congrArg vI (by rw [Int.tmod_eq_emod_of_nonneg (by omega)]; omega)) ?_
  refine k_if_eq hC 43 dL_add_39 rfl (by omega) (fun c_39 => ?_) (fun c_39 => ?_)
  · refine k_aload_n hC dL_add_43 rfl 0 rfl ?_
    refine k_aload_n hC dL_add_44 rfl 1 rfl ?_
    refine k_iconst hC dL_add_45 ?_
    refine k_iald hC (kl2 hM (by decide)) h_4 (by omega) (by decide) dL_add_46 ?_
    refine k_topv (vI ((kup (kup (saF T) (T.length % 20 / 4) (W4 (fun j => (T ++ [b]).getD j 0) (20 * (T.length / 20) + 4 * (T.length % 20 / 4)))) 5 ((T.length : Int) + 1)) (0 : Nat))) rfl ?_
    refine k_topv (vI (W4 (fun j => (T ++ [b]).getD j 0) (20 * (T.length / 20) + 4 * 0))) (congrArg vI (sa_mid 0 (by decide))) ?_
    refine k_aload_n hC dL_add_47 rfl 1 rfl ?_
    refine k_iconst hC dL_add_48 ?_
    refine k_iald hC (kl2 hM (by decide)) h_4 (by omega) (by decide) dL_add_49 ?_
    refine k_topv (vI ((kup (kup (saF T) (T.length % 20 / 4) (W4 (fun j => (T ++ [b]).getD j 0) (20 * (T.length / 20) + 4 * (T.length % 20 / 4)))) 5 ((T.length : Int) + 1)) (1 : Nat))) rfl ?_
    refine k_topv (vI (W4 (fun j => (T ++ [b]).getD j 0) (20 * (T.length / 20) + 4 * 1))) (congrArg vI (sa_mid 1 (by decide))) ?_
    refine k_aload_n hC dL_add_50 rfl 1 rfl ?_
    refine k_iconst hC dL_add_51 ?_
    refine k_iald hC (kl2 hM (by decide)) h_4 (by omega) (by decide) dL_add_52 ?_
    refine k_topv (vI ((kup (kup (saF T) (T.length % 20 / 4) (W4 (fun j => (T ++ [b]).getD j 0) (20 * (T.length / 20) + 4 * (T.length % 20 / 4)))) 5 ((T.length : Int) + 1)) (2 : Nat))) rfl ?_
    refine k_topv (vI (W4 (fun j => (T ++ [b]).getD j 0) (20 * (T.length / 20) + 4 * 2))) (congrArg vI (sa_mid 2 (by decide))) ?_
    refine k_aload_n hC dL_add_53 rfl 1 rfl ?_
    refine k_iconst hC dL_add_54 ?_
    refine k_iald hC (kl2 hM (by decide)) h_4 (by omega) (by decide) dL_add_55 ?_
    refine k_topv (vI ((kup (kup (saF T) (T.length % 20 / 4) (W4 (fun j => (T ++ [b]).getD j 0) (20 * (T.length / 20) + 4 * (T.length % 20 / 4)))) 5 ((T.length : Int) + 1)) (3 : Nat))) rfl ?_
    refine k_topv (vI (W4 (fun j => (T ++ [b]).getD j 0) (20 * (T.length / 20) + 4 * 3))) (congrArg vI (sa_mid 3 (by decide))) ?_
    refine k_aload_n hC dL_add_56 rfl 1 rfl ?_
    refine k_iconst hC dL_add_57 ?_
    refine k_iald hC (kl2 hM (by decide)) h_4 (by omega) (by decide) dL_add_58 ?_
    refine k_topv (vI ((kup (kup (saF T) (T.length % 20 / 4) (W4 (fun j => (T ++ [b]).getD j 0) (20 * (T.length / 20) + 4 * (T.length % 20 / 4)))) 5 ((T.length : Int) + 1)) (4 : Nat))) rfl ?_
    refine k_topv (vI (W4 (fun j => (T ++ [b]).getD j 0) (20 * (T.length / 20) + 4 * 4))) (congrArg vI (sa_mid 4 (by decide))) ?_
    have h_6 : w3 0 = .inr (11, [.ref (kad G 1), .ref (kad G 32), .ref (kad G 3), .ref (kad G 37), vI sv, .ref (kad G 44), .ref (kad G 10), .ref (kad G 116), .ref (kad G 129), .ref (kad G 132)]) := (hf3 0 (by decide)).trans ((hf1 0 (by decide)).trans h00)
    have h_7 : w3 2 = byA G bt := (hf3 2 (by decide)).trans ((hf1 2 (by decide)).trans h2)
    have h_8 : w3 1 = tkO G ((20 * (T.length / 20) : Nat) : Int) cd ea kd nm sa nx en := (hf3 1 (by decide)).trans ((hf1 1 (by decide)).trans h1)
    refine k_callV hC (c_X11_feed l hls G hN w3 fl bt (20 * (T.length / 20)) cd ea kd nm sa nx en sv (W4 (fun j => (T ++ [b]).getD j 0) (20 * (T.length / 20) + 4 * 0)) (W4 (fun j => (T ++ [b]).getD j 0) (20 * (T.length / 20) + 4 * 1)) (W4 (fun j => (T ++ [b]).getD j 0) (20 * (T.length / 20) + 4 * 2)) (W4 (fun j => (T ++ [b]).getD j 0) (20 * (T.length / 20) + 4 * 3)) (W4 (fun j => (T ++ [b]).getD j 0) (20 * (T.length / 20) + 4 * 4)) (by have := hW4 (20 * (T.length / 20) + 4 * 0); omega) (by have := hW4 (20 * (T.length / 20) + 4 * 1); omega) (by have := hW4 (20 * (T.length / 20) + 4 * 2); omega) (by have := hW4 (20 * (T.length / 20) + 4 * 3); omega) (by have := hW4 (20 * (T.length / 20) + 4 * 4); omega) (by omega) h_6 h_7 h_8) yy_X11_feed wm_L_8 (kl hN (by decide)) h_6 rfl rfl rfl rfl (Nat.le_of_ble_eq_true rfl) (by decide) (by decide) ⟨by decide, by decide⟩ dL_add_59 (fun v5 w5 fl5 hp5 => ?_)
    obtain ⟨q1, q2, hp5⟩ := hp5
    subst q1
    subst q2
    obtain ⟨hfa5, hfb5, hff5⟩ := (hp5.resolve_left (fun q => by omega)).2
    refine k_topI (fun zz ezz => ?_)
    show KW p l e R s m args below meth c 4 G Q w5 fl 0 0 62 [(0, .ref (kad G 0)), (1, .ref (kad G 133)), (2, vI b)] [vI zz]
    refine k_pop hC dL_add_62 rfl ?_
    refine k_iconst hC dL_add_63 ?_
    refine k_istore_n hC [(3, vI 0), (0, .ref (kad G 0)), (1, .ref (kad G 133)), (2, vI b)] dL_add_64 rfl (by decide) rfl ?_
    refine k_iload_n hC dL_add_65 rfl 0 rfl ?_
    refine k_iconst hC dL_add_66 ?_
    refine k_icmp_ge hC 80 dL_add_67 rfl (by omega) (by omega) (fun c_67 => absurd c_67 (by omega)) (fun c_67 => ?_)
    refine k_aload_n hC dL_add_70 rfl 2 rfl ?_
    refine k_iload_n hC dL_add_71 rfl 0 rfl ?_
    refine k_iconst hC dL_add_72 ?_
    have h_9 : w5 133 = iA G 6 (kup (kup (saF T) (T.length % 20 / 4) (W4 (fun j => (T ++ [b]).getD j 0) (20 * (T.length / 20) + 4 * (T.length % 20 / 4)))) 5 ((T.length : Int) + 1)) := (hff5 133 (by omega)).trans h_4
    refine k_iast hC (kl2 hM (by decide)) h_9 (by omega) (by decide) dL_add_73 (fun w10 hw10 hf10 => ?_)
    refine k_iinc hC (y := 1) [(3, vI 1), (0, .ref (kad G 0)), (1, .ref (kad G 133)), (2, vI b)] (j := 0) dL_add_74 rfl (by decide) (by decide) rfl ?_
    refine k_goto hC 65 dL_add_77 rfl ?_
    refine k_iload_n hC dL_add_65 rfl 0 rfl ?_
    refine k_iconst hC dL_add_66 ?_
    refine k_icmp_ge hC 80 dL_add_67 rfl (by omega) (by omega) (fun c_67 => absurd c_67 (by omega)) (fun c_67 => ?_)
    refine k_aload_n hC dL_add_70 rfl 2 rfl ?_
    refine k_iload_n hC dL_add_71 rfl 0 rfl ?_
    refine k_iconst hC dL_add_72 ?_
    refine k_iast hC (kl2 hM (by decide)) hw10 (by omega) (by decide) dL_add_73 (fun w11 hw11 hf11 => ?_)
    refine k_iinc hC (y := 2) [(3, vI 2), (0, .ref (kad G 0)), (1, .ref (kad G 133)), (2, vI b)] (j := 0) dL_add_74 rfl (by decide) (by decide) rfl ?_
    refine k_goto hC 65 dL_add_77 rfl ?_
    refine k_iload_n hC dL_add_65 rfl 0 rfl ?_
    refine k_iconst hC dL_add_66 ?_
    refine k_icmp_ge hC 80 dL_add_67 rfl (by omega) (by omega) (fun c_67 => absurd c_67 (by omega)) (fun c_67 => ?_)
    refine k_aload_n hC dL_add_70 rfl 2 rfl ?_
    refine k_iload_n hC dL_add_71 rfl 0 rfl ?_
    refine k_iconst hC dL_add_72 ?_
    refine k_iast hC (kl2 hM (by decide)) hw11 (by omega) (by decide) dL_add_73 (fun w12 hw12 hf12 => ?_)
    refine k_iinc hC (y := 3) [(3, vI 3), (0, .ref (kad G 0)), (1, .ref (kad G 133)), (2, vI b)] (j := 0) dL_add_74 rfl (by decide) (by decide) rfl ?_
    refine k_goto hC 65 dL_add_77 rfl ?_
    refine k_iload_n hC dL_add_65 rfl 0 rfl ?_
    refine k_iconst hC dL_add_66 ?_
    refine k_icmp_ge hC 80 dL_add_67 rfl (by omega) (by omega) (fun c_67 => absurd c_67 (by omega)) (fun c_67 => ?_)
    refine k_aload_n hC dL_add_70 rfl 2 rfl ?_
    refine k_iload_n hC dL_add_71 rfl 0 rfl ?_
    refine k_iconst hC dL_add_72 ?_
    refine k_iast hC (kl2 hM (by decide)) hw12 (by omega) (by decide) dL_add_73 (fun w13 hw13 hf13 => ?_)
    refine k_iinc hC (y := 4) [(3, vI 4), (0, .ref (kad G 0)), (1, .ref (kad G 133)), (2, vI b)] (j := 0) dL_add_74 rfl (by decide) (by decide) rfl ?_
    refine k_goto hC 65 dL_add_77 rfl ?_
    refine k_iload_n hC dL_add_65 rfl 0 rfl ?_
    refine k_iconst hC dL_add_66 ?_
    refine k_icmp_ge hC 80 dL_add_67 rfl (by omega) (by omega) (fun c_67 => absurd c_67 (by omega)) (fun c_67 => ?_)
    refine k_aload_n hC dL_add_70 rfl 2 rfl ?_
    refine k_iload_n hC dL_add_71 rfl 0 rfl ?_
    refine k_iconst hC dL_add_72 ?_
    refine k_iast hC (kl2 hM (by decide)) hw13 (by omega) (by decide) dL_add_73 (fun w14 hw14 hf14 => ?_)
    refine k_iinc hC (y := 5) [(3, vI 5), (0, .ref (kad G 0)), (1, .ref (kad G 133)), (2, vI b)] (j := 0) dL_add_74 rfl (by decide) (by decide) rfl ?_
    refine k_goto hC 65 dL_add_77 rfl ?_
    refine k_iload_n hC dL_add_65 rfl 0 rfl ?_
    refine k_iconst hC dL_add_66 ?_
    refine k_icmp_ge hC 80 dL_add_67 rfl (by omega) (by omega) (fun c_67 => ?_) (fun c_67 => absurd c_67 (by omega))
    have h_15 : w14 1 = tkO G ((20 * (T.length / 20) + 20 : Nat) : Int) cd ea kd nm sa nx en := (hf14 1 (by decide)).trans ((hf13 1 (by decide)).trans ((hf12 1 (by decide)).trans ((hf11 1 (by decide)).trans ((hf10 1 (by decide)).trans hfa5))))
    have h_16 : w14 2 = byA G (bput5 bt (20 * (T.length / 20)) (W4 (fun j => (T ++ [b]).getD j 0) (20 * (T.length / 20) + 4 * 0)) (W4 (fun j => (T ++ [b]).getD j 0) (20 * (T.length / 20) + 4 * 1)) (W4 (fun j => (T ++ [b]).getD j 0) (20 * (T.length / 20) + 4 * 2)) (W4 (fun j => (T ++ [b]).getD j 0) (20 * (T.length / 20) + 4 * 3)) (W4 (fun j => (T ++ [b]).getD j 0) (20 * (T.length / 20) + 4 * 4))) := (hf14 2 (by decide)).trans ((hf13 2 (by decide)).trans ((hf12 2 (by decide)).trans ((hf11 2 (by decide)).trans ((hf10 2 (by decide)).trans hfb5))))
    have hd9 : 20 * ((T.length + 1) / 20) = 20 * (T.length / 20) + 20 := by omega
    have hw9 : w14 133 = iA G 6 (saF (T ++ [b])) := hw14.trans (iA_congr (fun j hj => sa_fin2 (by omega) ((kup_n (by decide)).trans ((kup_n (by decide)).trans ((kup_n (by decide)).trans ((kup_n (by decide)).trans ((kup_n (by decide)).trans kup_s))))) j hj (fun i hi => by rcases (show i = 0 ∨ i = 1 ∨ i = 2 ∨ i = 3 ∨ i = 4 by omega) with rfl | rfl | rfl | rfl | rfl <;> simp [kup])))
    subst hQ
    exact k_vret hC hr ⟨by decide, by decide⟩ (⟨rfl, rfl, ⟨hal2, (by rw [sa_len]; omega), hw9, ⟨cd, ea, kd, nm, sa, nx, en, (by rw [sa_len, hd9]; exact h_15)⟩, _, h_16, bput5_ok hbk _ _ _ _ _ _, fun j hj => sa_buf hal2 (by omega) hbt j hj⟩, fun j hj => (hf14 j (by omega)).trans ((hf13 j (by omega)).trans ((hf12 j (by omega)).trans ((hf11 j (by omega)).trans ((hf10 j (by omega)).trans ((hff5 j (by omega)).trans ((hf3 j (by omega)).trans (hf1 j (by omega))))))))⟩) dL_add_80
  · have h_17 : w3 1 = tkO G ((20 * (T.length / 20) : Nat) : Int) cd ea kd nm sa nx en := (hf3 1 (by decide)).trans ((hf1 1 (by decide)).trans h1)
    have h_18 : w3 2 = byA G bt := (hf3 2 (by decide)).trans ((hf1 2 (by decide)).trans h2)
    have hd9 : (T.length + 1) / 20 = T.length / 20 := by omega
    have hw9 : w3 133 = iA G 6 (saF (T ++ [b])) := h_4.trans (iA_congr (sa_fin1 (by omega)))
    subst hQ
    exact k_vret hC hr ⟨by decide, by decide⟩ (⟨rfl, rfl, ⟨hal2, (by rw [sa_len]; omega), hw9, ⟨cd, ea, kd, nm, sa, nx, en, (by rw [sa_len, hd9]; exact h_17)⟩, bt, h_18, hbk, fun j hj => (by rw [sa_len, hd9] at hj; rw [gD_lt (by omega)]; exact hbt j hj)⟩, fun j hj => (hf3 j (by omega)).trans (hf1 j (by omega))⟩) dL_add_42

