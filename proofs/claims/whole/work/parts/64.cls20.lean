def nmL (g nl : Nat → Int) (b : Nat) : List Int := (List.range (g (11 + 4 * b)).toNat).map (fun j => nl (8 * b + j))
theorem nmL_n {g nl : Nat → Int} {b : Nat} : (nmL g nl b).length = (g (11 + 4 * b)).toNat := by unfold nmL; rw [List.length_map, List.length_range]
noncomputable def fmC (g nl : Nat → Int) (i : Nat) : List Int := [] ++ nmL g nl (g (57 + 3 * i)).toNat ++ [32] ++ dgN 10 (48) 1 (obsM g i / 60) ++ [39] ++ [48 + obsM g i % 60 / 10] ++ [48 + obsM g i % 60 % 10] ++ [32] ++ [122] ++ dgN 10 (48) 2 (aziM g i / 60) ++ [32] ++ [if 0 ≤ intM g i then 116 else 97] ++ dgN 10 (48) 4 ((intM g i).natAbs : Int)
set_option maxRecDepth 100000 in
set_option maxHeartbeats 4000000 in
theorem c_X6_nameLetter32 (l : Launch) (hls : l.stackTraces = false) (G : kG) (hN : kN G = 150) (w : Nat → va_E) (fl : va_W) (g nl : Nat → Int) (b i : Nat) (hbi : 8 * b + i < 48) (hP : kPlan G w 32 g nl) : KM l G yX6_nameLetter cX6_nameLetter 3 (some (FieldType.int)) 1 0 0 [.ref (kad G 32), vI (b : Int), vI (i : Int)] w fl (kPure (vI (nl (8 * b + i))) w fl) := by
  refine KM_of2 hls (by decide +kernel) rfl (lv0 := [(0, .ref (kad G 32)), (1, vI (b : Int)), (2, vI (i : Int))]) rfl (Nat.le_of_ble_eq_true rfl) (fun p e R s m args below meth c Q hC hr hQ => ?_)
  refine k_aload_n hC dX6_nameLetter_0 rfl 0 rfl ?_
  refine k_get hC fd_X6_21 (kl hN (by decide)) hP.1 rfl dX6_nameLetter_1 ?_
  refine k_iload_n hC dX6_nameLetter_4 rfl 1 rfl ?_
  refine k_bipush hC dX6_nameLetter_5 (by decide) ?_
  refine k_imul hC dX6_nameLetter_7 ?_
  refine k_iload_n hC dX6_nameLetter_8 rfl 2 rfl ?_
  refine k_iadd hC dX6_nameLetter_9 ?_
  refine k_pureSN hC (c_X11_at l hls G hN w fl 36 (((b : Int) * 8) + (i : Int)) 48 nl (by decide) (by omega) (by decide) hP.2.2.2.2) yy_X11_at wm_X6_38 rfl rfl (Nat.le_of_ble_eq_true rfl) (by decide) (by decide) ⟨by decide, by decide⟩ dX6_nameLetter_10 ?_
  refine k_topv (vI (nl ((((b : Int) * 8) + (i : Int)).toNat))) rfl ?_
  subst hQ
  exact k_iret hC hr ⟨by decide, by decide⟩ (⟨congrArg (fun z => some (vI z)) (show (nl (8 * b + i) : Int) = nl ((((b : Int) * 8) + (i : Int)).toNat) from congrArg nl (by omega)), rfl, rfl⟩) dX6_nameLetter_13

set_option maxRecDepth 100000 in
set_option maxHeartbeats 4000000 in
theorem c_X6_appendName (l : Launch) (hls : l.stackTraces = false) (G : kG) (hN : kN G = 150) (w : Nat → va_E) (fl : va_W) (g nl : Nat → Int) (b cap : Nat) (hb : (b : Int) < g 0) (hI : Inv g) (hnl : ∀ i : Nat, (i : Int) < g (11 + 4 * b) → 97 ≤ nl (8 * b + i) ∧ nl (8 * b + i) ≤ 122) (hP : kPlan G w 32 g nl) (hsb : sbC G w fl [] cap) : KM l G yX6_appendName cX6_appendName 5 (none) 6 0 0 [.ref (kad G 32), vI (b : Int), .ref (kad G 132)] w fl (fun v1 w1 fl1 => none = v1 ∧ sbP G w ([] ++ nmL g nl b) (fun z => z = cap) w1 fl1) := by
  refine KM_of2 hls (by decide +kernel) rfl (lv0 := [(0, .ref (kad G 32)), (1, vI (b : Int)), (2, .ref (kad G 132))]) rfl (Nat.le_of_ble_eq_true rfl) (fun p e R s m args below meth c Q hC hr hQ => ?_)
  have h0 := hI.c
  have hbd := hI.body b hb
  obtain ⟨L, hL⟩ : ∃ z : Nat, g (11 + 4 * b) = (z : Int) := ⟨(g (11 + 4 * b)).toNat, by omega⟩
  have hc16 : 16 ≤ cap := by obtain ⟨q, f, ml, -, -, hh, -⟩ := hsb; omega
  refine k_aload_n hC dX6_appendName_0 rfl 0 rfl ?_
  refine k_get hC fd_X6_18 (kl hN (by decide)) hP.1 rfl dX6_appendName_1 ?_
  refine k_iload_n hC dX6_appendName_4 rfl 1 rfl ?_
  refine k_pureSN hC (c_X11_at l hls G hN w fl 35 (b : Int) 6 (fun j => g (11 + 4 * j)) (by decide) (by omega) (by decide) hP.2.2.2.1) yy_X11_at wm_X6_38 rfl rfl (Nat.le_of_ble_eq_true rfl) (by decide) (by decide) ⟨by decide, by decide⟩ dX6_appendName_5 ?_
  refine k_topv (vI (g (11 + 4 * b))) rfl ?_
  refine k_topv (vI ((L : Int))) (congrArg vI (by omega)) ?_
  refine k_istore_n hC [(3, vI (L : Int)), (0, .ref (kad G 32)), (1, vI (b : Int)), (2, .ref (kad G 132))] dX6_appendName_8 rfl (by decide) rfl ?_
  refine k_iconst hC dX6_appendName_9 ?_
  refine k_istore hC [(4, vI 0), (3, vI (L : Int)), (0, .ref (kad G 32)), (1, vI (b : Int)), (2, .ref (kad G 132))] dX6_appendName_10 (by decide) rfl ?_
  have loop0 : ∀ (n : Nat) (k : Nat) (fk : va_W) (ck : Nat) (wv : Nat → va_E), (L < n + k) → (k ≤ L) → (ck = cap) → (sbC G wv fk ([] ++ (List.range (k)).map (fun j => nl (8 * b + j))) ck) → (kPlan G wv 32 g nl) → ((∀ j, j ≠ 132 → wv j = w j)) → KW p l e R s m args below meth c 5 G Q wv fk 0 0 12 [(4, vI (k : Int)), (3, vI (L : Int)), (0, .ref (kad G 32)), (1, vI (b : Int)), (2, .ref (kad G 132))] [] := by
    intro n
    induction n with
    | zero =>
      intro k fk ck wv hn_ hk hck hsk hP hfr
      exact absurd hn_ (by omega)
    | succ n ih =>
      intro k fk ck wv hn_ hk hck hsk hP hfr
      refine k_iload hC dX6_appendName_12 0 rfl ?_
      refine k_iload_n hC dX6_appendName_14 rfl 1 rfl ?_
      refine k_icmp_ge hC 37 dX6_appendName_15 rfl (by omega) (by omega) (fun c_15 => ?_) (fun c_15 => ?_)
      · subst hQ
        exact k_vret hC hr ⟨by decide, by decide⟩ (⟨rfl, ck, (by unfold nmL; rw [hL, Int.toNat_natCast, show L = k by omega]; exact hsk), hck, fun j hj => hfr j (by omega)⟩) dX6_appendName_37
      · refine k_aload_n hC dX6_appendName_18 rfl 4 rfl ?_
        refine k_aload_n hC dX6_appendName_19 rfl 2 rfl ?_
        refine k_iload_n hC dX6_appendName_20 rfl 3 rfl ?_
        refine k_iload hC dX6_appendName_21 0 rfl ?_
        refine k_pureV hC (c_X6_nameLetter32 l hls G hN wv fk g nl b k (by omega) hP) yy_X6_nameLetter wm_X6_60 (kl hN (by decide)) hP.1 rfl rfl rfl rfl (Nat.le_of_ble_eq_true rfl) (by decide) (by decide) ⟨by decide, by decide⟩ dX6_appendName_23 ?_
        have hlt := hnl k (by omega)
        refine k_i2c hC dX6_appendName_26 (by omega) ?_
        have hz1 := hsk
        obtain ⟨q1, f1, m1, -, hy1, -⟩ := hz1
        refine k_callV hC (c_J4_append_C_in l hls G hN wv fk ([] ++ (List.range (k)).map (fun j => nl (8 * b + j))) ck (nl (8 * b + k)) hsk (by omega) (by rw [List.nil_append, List.length_map, List.length_range]; omega)) yy_J4_append_cf468 wm_X6_64 (kl hN (by decide)) hy1 rfl rfl rfl rfl (Nat.le_of_ble_eq_true rfl) (by decide) (by decide) ⟨by decide, by decide⟩ dX6_appendName_27 (fun v1 w1 fl1 hp1 => ?_)
        obtain ⟨hp1a, cap1, hsb1, hcp1, hf1⟩ := hp1; subst hp1a
        have hcq1 : cap1 = ck := hcp1
        show KW p l e R s m args below meth c 5 G Q w1 fl1 0 0 30 [(4, vI (k : Int)), (3, vI (L : Int)), (0, .ref (kad G 32)), (1, vI (b : Int)), (2, .ref (kad G 132))] [.ref (kad G 132)]
        refine k_pop hC dX6_appendName_30 rfl ?_
        refine k_iinc hC (y := (k : Int) + 1) [(4, vI ((k : Int) + 1)), (3, vI (L : Int)), (0, .ref (kad G 32)), (1, vI (b : Int)), (2, .ref (kad G 132))] (j := 0) dX6_appendName_31 rfl (by omega) (by decide) rfl ?_
        refine k_goto hC 12 dX6_appendName_34 rfl ?_
        refine k_lvs (ls := [0, 1, 2, 3, 4]) [(4, vI ((k + 1 : Nat) : Int)), (3, vI (L : Int)), (0, .ref (kad G 32)), (1, vI (b : Int)), (2, .ref (kad G 132))] (by simp only [lv_pick]; rfl) ?_
        have hB_2 : kPlan G w1 32 g nl := hP.fr (fun j q1 q2 => (hf1 j (by omega)))
        exact ih (k + 1) fl1 cap1 w1 (by omega) (by omega) (by omega) (by rw [List.range_succ, List.map_append, ← List.append_assoc]; exact hsb1) hB_2 (fun j hj => (hf1 j (by omega)).trans (hfr j (by omega)))
  refine k_lvs (ls := [0, 1, 2, 3, 4]) [(4, vI ((0 : Nat) : Int)), (3, vI (L : Int)), (0, .ref (kad G 32)), (1, vI (b : Int)), (2, .ref (kad G 132))] (by simp only [lv_pick]; rfl) ?_
  exact loop0 (L + 1) 0 fl cap w (by omega) (by omega) rfl hsb hP (fun j hj => rfl)

set_option maxRecDepth 100000 in
set_option maxHeartbeats 4000000 in
theorem c_X11_format (l : Launch) (hls : l.stackTraces = false) (G : kG) (hN : kN G = 150) (w : Nat → va_E) (fl : va_W) (g nl : Nat → Int) (sv : Int) (T0 : List Int) (cap : Nat) (b : Int) (hb : -2147483648 ≤ b ∧ b ≤ 2147483647) (hI : Inv g) (h00 : w 0 = srO G sv) (hL : kLog G w 3 g) (hP : kPlan G w 32 g nl) (hCt : kCht G w) (hNl : ∀ k : Nat, (k : Int) < g 0 → ∀ i : Nat, (i : Int) < g (11 + 4 * k) → 97 ≤ nl (8 * k + i) ∧ nl (8 * k + i) ≤ 122) (hsb : sbC G w fl T0 cap) : KX l G yX11_format cX11_format 5 (some (FieldType.int)) 9 8 200 [.ref (kad G 0), vI b] w fl (fun v1 w1 fl1 => (0 ≤ b ∧ b < g 2) ∧ some (vI ((fmC g nl b.toNat).length : Int)) = v1 ∧ (∃ cap1, sbC G w1 fl1 (fmC g nl b.toNat) cap1) ∧ kCht G w1 ∧ ∀ j, ((j < 10 ∨ 31 < j) ∧ j ≠ 132) → w1 j = w j) (kTh (¬ (0 ≤ b ∧ b < g 2)) (False) fl (kCP G w)) := by
  refine KX_of2 hls (by decide +kernel) rfl (lv0 := [(0, .ref (kad G 0)), (1, vI b)]) rfl (Nat.le_of_ble_eq_true rfl) (fun p e R s m args below meth c Q hC hr htb hQ => ?_)
  subst hQ
  obtain ⟨⟨h10, h11⟩, hLn, hSh, hH, h14, h15⟩ := hCt
  have h0 := hI.c
  have hc16 : 16 ≤ cap := by obtain ⟨q, f, ml, -, -, hh, -⟩ := hsb; omega
  refine k_aload_n hC dX11_format_0 rfl 0 rfl ?_
  refine k_iload_n hC dX11_format_1 rfl 1 rfl ?_
  refine k_callVX hC (c_X11_needSight l hls G hN w fl g sv b (by omega) hI h00 hL) yy_X11_needSight wm_X11_250 (kl hN (by decide)) h00 rfl rfl rfl rfl (Nat.le_of_ble_eq_true rfl) (by decide) (by decide) ⟨by decide, by decide⟩ dX11_format_2 htb ⟨by decide, by decide⟩ (fun E1 w9 fl9 hx1 => by obtain ⟨q1, q2, q3, q4⟩ := hx1; subst q1; subst q3; subst q4; exact ⟨Or.inl ⟨rfl, by omega⟩, rfl, ⟨⟨⟨h10, h11⟩, hLn, hSh, hH, h14, h15⟩, fun j hj => rfl⟩⟩) (fun v9 w9 fl9 hp1 => ?_)
  obtain ⟨hc2_1, q1, q2, q3⟩ := hp1; subst q1; subst q2; subst q3
  obtain ⟨k, ek⟩ : ∃ zz : Nat, b = (zz : Int) := ⟨b.toNat, by omega⟩
  subst ek
  have hsk := hI.sight k (by omega)
  have hbk := hI.body (g (57 + 3 * k)).toNat (by omega)
  have hob := obsM_b hI k (by omega)
  have hab := aziM_b g k
  have hib := intM_b hI k (by omega)
  refine k_aload_n hC dX11_format_5 rfl 0 rfl ?_
  refine k_get hC fd_X11_43 (kl hN (by decide)) h00 rfl dX11_format_6 ?_
  refine k_aload_n hC dX11_format_9 rfl 0 rfl ?_
  refine k_get hC fd_X11_25 (kl hN (by decide)) h00 rfl dX11_format_10 ?_
  refine k_aload_n hC dX11_format_13 rfl 0 rfl ?_
  refine k_get hC fd_X11_29 (kl hN (by decide)) h00 rfl dX11_format_14 ?_
  refine k_iload_n hC dX11_format_17 rfl 1 rfl ?_
  refine k_iconst hC dX11_format_18 ?_
  refine k_muvV hC (c_X0_drawLine l hls G hN w fl g nl k 0 (by omega) hI (by omega) hL hP h10 h11 hLn hSh) yy_X0_drawLine wm_X11_253 (kl hN (by decide)) h10 rfl rfl rfl rfl (Nat.le_of_ble_eq_true rfl) (by decide) (by decide) ⟨by decide, by decide⟩ dX11_format_19 (fun w2 hp2 => ?_)
  obtain ⟨hs2, ⟨la2, lo2, hq2⟩, hf2⟩ := hp2
  have hLn2 : kLines w2 := hLn.put (fun j q1 q2 q3 => hf2 j (by omega)) hs2
  refine k_aload_n hC dX11_format_22 rfl 0 rfl ?_
  have h_3 : w2 0 = .inr (11, [.ref (kad G 1), .ref (kad G 32), .ref (kad G 3), .ref (kad G 37), vI sv, .ref (kad G 44), .ref (kad G 10), .ref (kad G 116), .ref (kad G 129), .ref (kad G 132)]) := (hf2 0 (by omega)).trans h00
  refine k_get hC fd_X11_43 (kl hN (by decide)) h_3 rfl dX11_format_23 ?_
  refine k_iload_n hC dX11_format_26 rfl 1 rfl ?_
  have h_4 : w2 10 = .inr (0, [.ref (kad G 11), .ref (kad G 12), .ref (kad G 13), .ref (kad G 14), .ref (kad G 15), .ref (kad G 16)]) := (hf2 10 (by omega)).trans h10
  have h_5 : w2 11 = rA G 4 12 (fun j => some (kad G (20 + j))) := (hf2 11 (by omega)).trans h11
  refine k_pureV hC (c_X0_lineOf l hls G hN w2 fl k (by omega) h_4 h_5) yy_X0_lineOf wm_X11_257 (kl hN (by decide)) h_4 rfl rfl rfl rfl (Nat.le_of_ble_eq_true rfl) (by decide) (by decide) ⟨by decide, by decide⟩ dX11_format_27 ?_
  refine k_astore_n hC [(2, .ref (kad G (20 + k))), (0, .ref (kad G 0)), (1, vI (k : Int))] dX11_format_30 rfl (by decide) rfl ?_
  refine k_aload_n hC dX11_format_31 rfl 0 rfl ?_
  refine k_get hC fd_X11_275 (kl hN (by omega)) hs2 rfl dX11_format_32 ?_
  refine k_mabs hC wm_X11_357 wmath_mabs (by omega) (by decide) (Nat.le_of_ble_eq_true rfl) ⟨by decide, by decide⟩ dX11_format_35 ?_
  refine k_topv (vI (obsM g k)) (congrArg vI (by omega)) ?_
  refine k_istore_n hC [(3, vI (obsM g k)), (2, .ref (kad G (20 + k))), (0, .ref (kad G 0)), (1, vI (k : Int))] dX11_format_38 rfl (by decide) rfl ?_
  refine k_iload_n hC dX11_format_39 rfl 0 rfl ?_
  refine k_bipush hC dX11_format_40 (by decide) ?_
  refine k_irem hC dX11_format_42 (by omega) (by omega) ?_
  refine k_topv (vI (obsM g k % 60)) (congrArg vI (Int.tmod_eq_emod_of_nonneg (by omega))) ?_
  refine k_istore hC [(4, vI (obsM g k % 60)), (3, vI (obsM g k)), (2, .ref (kad G (20 + k))), (0, .ref (kad G 0)), (1, vI (k : Int))] dX11_format_43 (by decide) rfl ?_
  refine k_aload_n hC dX11_format_45 rfl 3 rfl ?_
  refine k_get hC fd_X11_68 (kl hN (by decide)) h_3 rfl dX11_format_46 ?_
  refine k_iconst hC dX11_format_49 ?_
  have hsbw6 : sbC G w2 fl T0 cap := by obtain ⟨q, f, ml, e1, e2, e3⟩ := hsb; exact ⟨q, f, ml, e1, (hf2 132 (by omega)).trans e2, e3⟩
  have hz6 := hsbw6
  obtain ⟨q6, f6, m6, -, hy6, -⟩ := hz6
  refine k_callV hC (c_J4_setLength_d00df l hls G hN w2 fl T0 cap hsbw6) yy_J4_setLength_d00df wm_X11_405 (kl hN (by decide)) hy6 rfl rfl rfl rfl (Nat.le_of_ble_eq_true rfl) (by decide) (by decide) ⟨by decide, by decide⟩ dX11_format_50 (fun v6 w6 fl6 hp6 => ?_)
  obtain ⟨hp6a, hp6b, hsb6, hf6⟩ := hp6; subst hp6a; subst hp6b
  show KW p l e R s m args below meth c 5 G _ w6 fl 1 6 53 [(4, vI (obsM g k % 60)), (3, vI (obsM g k)), (2, .ref (kad G (20 + k))), (0, .ref (kad G 0)), (1, vI (k : Int))] []
  refine k_aload_n hC dX11_format_53 rfl 3 rfl ?_
  have h_7 : w6 0 = .inr (11, [.ref (kad G 1), .ref (kad G 32), .ref (kad G 3), .ref (kad G 37), vI sv, .ref (kad G 44), .ref (kad G 10), .ref (kad G 116), .ref (kad G 129), .ref (kad G 132)]) := (hf6 0 (by decide)).trans h_3
  refine k_get hC fd_X11_25 (kl hN (by decide)) h_7 rfl dX11_format_54 ?_
  refine k_aload_n hC dX11_format_57 rfl 3 rfl ?_
  refine k_get hC fd_X11_29 (kl hN (by decide)) h_7 rfl dX11_format_58 ?_
  have hB_8 : kLog G w6 3 g := hL.fr (fun j q1 q2 => (hf6 j (by omega)).trans (hf2 j (by omega)))
  refine k_get hC fd_X11_261 (kl hN (by decide)) hB_8.1 rfl dX11_format_61 ?_
  refine k_iload_n hC dX11_format_64 rfl 4 rfl ?_
  refine k_pureS hC (c_X11_at l hls G hN w6 fl 7 (k : Int) 12 (fun j => g (57 + 3 * j)) (by decide) (by omega) (by decide) hB_8.2.2.2.2.1) yy_X11_at wm_X11_198 rfl rfl (Nat.le_of_ble_eq_true rfl) (by decide) (by decide) ⟨by decide, by decide⟩ dX11_format_65 ?_
  refine k_topv (vI (g (57 + 3 * k))) rfl ?_
  refine k_topv (vI (((g (57 + 3 * k)).toNat : Nat) : Int)) (congrArg vI (by omega)) ?_
  refine k_aload_n hC dX11_format_68 rfl 3 rfl ?_
  refine k_get hC fd_X11_68 (kl hN (by decide)) h_7 rfl dX11_format_69 ?_
  have hB_10 : kPlan G w6 32 g nl := hP.fr (fun j q1 q2 => (hf6 j (by omega)).trans (hf2 j (by omega)))
  refine k_callV hC (c_X6_appendName l hls G hN w6 fl g nl (g (57 + 3 * k)).toNat cap (by omega) hI (hNl _ (by omega)) hB_10 hsb6) yy_X6_appendName wm_X11_408 (kl hN (by decide)) hB_10.1 rfl rfl rfl rfl (Nat.le_of_ble_eq_true rfl) (by decide) (by decide) ⟨by decide, by decide⟩ dX11_format_72 (fun v9 w9 fl9 hp9 => ?_)
  obtain ⟨hp9a, cap9, hsb9, hcp9, hf9⟩ := hp9; subst hp9a
  have hcq9 : cap9 = cap := hcp9
  show KW p l e R s m args below meth c 5 G _ w9 fl9 1 6 75 [(4, vI (obsM g k % 60)), (3, vI (obsM g k)), (2, .ref (kad G (20 + k))), (0, .ref (kad G 0)), (1, vI (k : Int))] []
  refine k_aload_n hC dX11_format_75 rfl 3 rfl ?_
  have h_11 : w9 0 = .inr (11, [.ref (kad G 1), .ref (kad G 32), .ref (kad G 3), .ref (kad G 37), vI sv, .ref (kad G 44), .ref (kad G 10), .ref (kad G 116), .ref (kad G 129), .ref (kad G 132)]) := (hf9 0 (by decide)).trans h_7
  refine k_get hC fd_X11_68 (kl hN (by decide)) h_11 rfl dX11_format_76 ?_
  refine k_bipush hC dX11_format_79 (by decide) ?_
  have hz12 := hsb9
  obtain ⟨q12, f12, m12, -, hy12, -⟩ := hz12
  refine k_callV hC (c_J4_append_C_in l hls G hN w9 fl9 ([] ++ nmL g nl (g (57 + 3 * k)).toNat) cap9 32 hsb9 (by omega) (by simp only [List.length_append, List.length_cons, List.length_nil, nmL_n]; omega)) yy_J4_append_cf468 wm_X11_412 (kl hN (by decide)) hy12 rfl rfl rfl rfl (Nat.le_of_ble_eq_true rfl) (by decide) (by decide) ⟨by decide, by decide⟩ dX11_format_81 (fun v12 w12 fl12 hp12 => ?_)
  obtain ⟨hp12a, cap12, hsb12, hcp12, hf12⟩ := hp12; subst hp12a
  have hcq12 : cap12 = cap9 := hcp12
  show KW p l e R s m args below meth c 5 G _ w12 fl12 1 6 84 [(4, vI (obsM g k % 60)), (3, vI (obsM g k)), (2, .ref (kad G (20 + k))), (0, .ref (kad G 0)), (1, vI (k : Int))] [.ref (kad G 132)]
  refine k_pop hC dX11_format_84 rfl ?_
  refine k_aload_n hC dX11_format_85 rfl 2 rfl ?_
  have h_13 : w12 (20 + k) = .inr (3, [vI (apM g k), vI (obsM g k), vI (expM g k), vI (aziM g k), vI (intM g k), vI (offM g k), vI (carM g k 0), vI (sinM (aziM g k)), vI (cosM (aziM g k))]) := (hf12 (20 + k) (by omega)).trans ((hf9 (20 + k) (by omega)).trans ((hf6 (20 + k) (by omega)).trans hs2))
  refine k_get hC fd_X11_275 (kl hN (by omega)) h_13 rfl dX11_format_86 ?_
  refine k_if_ge hC 102 dX11_format_89 rfl (by omega) (fun c_89 => ?_) (fun c_89 => absurd c_89 (by omega))
  refine k_aload_n hC dX11_format_102 rfl 3 rfl ?_
  have h_14 : w12 0 = .inr (11, [.ref (kad G 1), .ref (kad G 32), .ref (kad G 3), .ref (kad G 37), vI sv, .ref (kad G 44), .ref (kad G 10), .ref (kad G 116), .ref (kad G 129), .ref (kad G 132)]) := (hf12 0 (by decide)).trans h_11
  refine k_get hC fd_X11_68 (kl hN (by decide)) h_14 rfl dX11_format_103 ?_
  refine k_iload_n hC dX11_format_106 rfl 1 rfl ?_
  refine k_bipush hC dX11_format_107 (by decide) ?_
  refine k_idiv hC dX11_format_109 (by omega) (by omega) ?_
  refine k_topv (vI (obsM g k / 60)) (congrArg vI (Int.tdiv_eq_ediv_of_nonneg (by omega))) ?_
  have hz15 := hsb12
  obtain ⟨q15, f15, m15, -, hy15, -⟩ := hz15
  have hd15a := dgN_l 10 48 1 (obsM g k / 60)
  have hd15b : (dgN 10 48 4 (obsM g k / 60)).length ≤ 2 := by rw [dg4_1' (by omega)]; exact hd15a
  refine k_callV hC (c_J4_append_I_in l hls G hN w12 fl12 ([] ++ nmL g nl (g (57 + 3 * k)).toNat ++ [32]) cap12 (obsM g k / 60) hsb12 (by omega) (by simp only [List.length_append, List.length_cons, List.length_nil, nmL_n]; omega)) yy_J4_append_bf812 wm_X11_415 (kl hN (by decide)) hy15 rfl rfl rfl rfl (Nat.le_of_ble_eq_true rfl) (by decide) (by decide) ⟨by decide, by decide⟩ dX11_format_110 (fun v15 w15 fl15 hp15 => ?_)
  obtain ⟨hp15a, cap15, hsb15, hcp15, hf15⟩ := hp15; subst hp15a
  have hcq15 : cap15 = cap12 := hcp15
  rw [dg4_1' (x := obsM g k / 60) (by omega)] at hsb15
  show KW p l e R s m args below meth c 5 G _ w15 fl15 1 6 113 [(4, vI (obsM g k % 60)), (3, vI (obsM g k)), (2, .ref (kad G (20 + k))), (0, .ref (kad G 0)), (1, vI (k : Int))] [.ref (kad G 132)]
  refine k_bipush hC dX11_format_113 (by decide) ?_
  have hz16 := hsb15
  obtain ⟨q16, f16, m16, -, hy16, -⟩ := hz16
  refine k_callV hC (c_J4_append_C_in l hls G hN w15 fl15 ([] ++ nmL g nl (g (57 + 3 * k)).toNat ++ [32] ++ dgN 10 (48) 1 (obsM g k / 60)) cap15 39 hsb15 (by omega) (by simp only [List.length_append, List.length_cons, List.length_nil, nmL_n]; omega)) yy_J4_append_cf468 wm_X11_412 (kl hN (by decide)) hy16 rfl rfl rfl rfl (Nat.le_of_ble_eq_true rfl) (by decide) (by decide) ⟨by decide, by decide⟩ dX11_format_115 (fun v16 w16 fl16 hp16 => ?_)
  obtain ⟨hp16a, cap16, hsb16, hcp16, hf16⟩ := hp16; subst hp16a
  have hcq16 : cap16 = cap15 := hcp16
  show KW p l e R s m args below meth c 5 G _ w16 fl16 1 6 118 [(4, vI (obsM g k % 60)), (3, vI (obsM g k)), (2, .ref (kad G (20 + k))), (0, .ref (kad G 0)), (1, vI (k : Int))] [.ref (kad G 132)]
  refine k_pop hC dX11_format_118 rfl ?_
  refine k_aload_n hC dX11_format_119 rfl 3 rfl ?_
  have h_17 : w16 0 = .inr (11, [.ref (kad G 1), .ref (kad G 32), .ref (kad G 3), .ref (kad G 37), vI sv, .ref (kad G 44), .ref (kad G 10), .ref (kad G 116), .ref (kad G 129), .ref (kad G 132)]) := (hf16 0 (by decide)).trans ((hf15 0 (by decide)).trans h_14)
  refine k_get hC fd_X11_68 (kl hN (by decide)) h_17 rfl dX11_format_120 ?_
  refine k_iload hC dX11_format_123 0 rfl ?_
  refine k_bipush hC dX11_format_125 (by decide) ?_
  refine k_idiv hC dX11_format_127 (by omega) (by omega) ?_
  refine k_topv (vI (obsM g k % 60 / 10)) (congrArg vI (Int.tdiv_eq_ediv_of_nonneg (by omega))) ?_
  have hz18 := hsb16
  obtain ⟨q18, f18, m18, -, hy18, -⟩ := hz18
  refine k_callV hC (c_J4_append_I_in l hls G hN w16 fl16 ([] ++ nmL g nl (g (57 + 3 * k)).toNat ++ [32] ++ dgN 10 (48) 1 (obsM g k / 60) ++ [39]) cap16 (obsM g k % 60 / 10) hsb16 (by omega) (by rw [dg4_1 (by omega)]; simp only [List.length_append, List.length_cons, List.length_nil, nmL_n]; omega)) yy_J4_append_bf812 wm_X11_415 (kl hN (by decide)) hy18 rfl rfl rfl rfl (Nat.le_of_ble_eq_true rfl) (by decide) (by decide) ⟨by decide, by decide⟩ dX11_format_128 (fun v18 w18 fl18 hp18 => ?_)
  obtain ⟨hp18a, cap18, hsb18, hcp18, hf18⟩ := hp18; subst hp18a
  have hcq18 : cap18 = cap16 := hcp18
  rw [dg4_1 (x := obsM g k % 60 / 10) (by omega)] at hsb18
  show KW p l e R s m args below meth c 5 G _ w18 fl18 1 6 131 [(4, vI (obsM g k % 60)), (3, vI (obsM g k)), (2, .ref (kad G (20 + k))), (0, .ref (kad G 0)), (1, vI (k : Int))] [.ref (kad G 132)]
  refine k_iload hC dX11_format_131 0 rfl ?_
  refine k_bipush hC dX11_format_133 (by decide) ?_
  refine k_irem hC dX11_format_135 (by omega) (by omega) ?_
  refine k_topv (vI (obsM g k % 60 % 10)) (congrArg vI (Int.tmod_eq_emod_of_nonneg (by omega))) ?_
  have hz19 := hsb18
  obtain ⟨q19, f19, m19, -, hy19, -⟩ := hz19
  refine k_callV hC (c_J4_append_I_in l hls G hN w18 fl18 ([] ++ nmL g nl (g (57 + 3 * k)).toNat ++ [32] ++ dgN 10 (48) 1 (obsM g k / 60) ++ [39] ++ [48 + obsM g k % 60 / 10]) cap18 (obsM g k % 60 % 10) hsb18 (by omega) (by rw [dg4_1 (by omega)]; simp only [List.length_append, List.length_cons, List.length_nil, nmL_n]; omega)) yy_J4_append_bf812 wm_X11_415 (kl hN (by decide)) hy19 rfl rfl rfl rfl (Nat.le_of_ble_eq_true rfl) (by decide) (by decide) ⟨by decide, by decide⟩ dX11_format_136 (fun v19 w19 fl19 hp19 => ?_)
  obtain ⟨hp19a, cap19, hsb19, hcp19, hf19⟩ := hp19; subst hp19a
  have hcq19 : cap19 = cap18 := hcp19
  rw [dg4_1 (x := obsM g k % 60 % 10) (by omega)] at hsb19
  show KW p l e R s m args below meth c 5 G _ w19 fl19 1 6 139 [(4, vI (obsM g k % 60)), (3, vI (obsM g k)), (2, .ref (kad G (20 + k))), (0, .ref (kad G 0)), (1, vI (k : Int))] [.ref (kad G 132)]
  refine k_pop hC dX11_format_139 rfl ?_
  refine k_aload_n hC dX11_format_140 rfl 3 rfl ?_
  have h_20 : w19 0 = .inr (11, [.ref (kad G 1), .ref (kad G 32), .ref (kad G 3), .ref (kad G 37), vI sv, .ref (kad G 44), .ref (kad G 10), .ref (kad G 116), .ref (kad G 129), .ref (kad G 132)]) := (hf19 0 (by decide)).trans ((hf18 0 (by decide)).trans h_17)
  refine k_get hC fd_X11_68 (kl hN (by decide)) h_20 rfl dX11_format_141 ?_
  refine k_ldcsw hC (List.mem_of_getElem? (i := 28) rfl) dX11_format_144 ?_
  have hz21 := hsb19
  obtain ⟨q21, f21, m21, -, hy21, -⟩ := hz21
  refine k_callV hC (c_J4_append_S l hls G hN w19 fl19 ([] ++ nmL g nl (g (57 + 3 * k)).toNat ++ [32] ++ dgN 10 (48) 1 (obsM g k / 60) ++ [39] ++ [48 + obsM g k % 60 / 10] ++ [48 + obsM g k % 60 % 10]) cap19  hsb19 (by simp only [List.length_append, List.length_cons, List.length_nil, nmL_n]; omega)) yy_J4_append_15ec4 wm_X11_420 (kl hN (by decide)) hy21 rfl rfl rfl rfl (Nat.le_of_ble_eq_true rfl) (by decide) (by decide) ⟨by decide, by decide⟩ dX11_format_147 (fun v21 w21 fl21 hp21 => ?_)
  obtain ⟨hp21a, cap21, hsb21, hcp21, hf21⟩ := hp21; subst hp21a
  have hcq21 : cap19 ≤ cap21 := hcp21
  show KW p l e R s m args below meth c 5 G _ w21 fl21 2 40 150 [(4, vI (obsM g k % 60)), (3, vI (obsM g k)), (2, .ref (kad G (20 + k))), (0, .ref (kad G 0)), (1, vI (k : Int))] [.ref (kad G 132)]
  refine k_aload_n hC dX11_format_150 rfl 2 rfl ?_
  have h_22 : w21 (20 + k) = .inr (3, [vI (apM g k), vI (obsM g k), vI (expM g k), vI (aziM g k), vI (intM g k), vI (offM g k), vI (carM g k 0), vI (sinM (aziM g k)), vI (cosM (aziM g k))]) := (hf21 (20 + k) (by omega)).trans ((hf19 (20 + k) (by omega)).trans ((hf18 (20 + k) (by omega)).trans ((hf16 (20 + k) (by omega)).trans ((hf15 (20 + k) (by omega)).trans h_13))))
  refine k_get hC fd_X11_281 (kl hN (by omega)) h_22 rfl dX11_format_151 ?_
  refine k_bipush hC dX11_format_154 (by decide) ?_
  refine k_idiv hC dX11_format_156 (by omega) (by omega) ?_
  refine k_topv (vI (aziM g k / 60)) (congrArg vI (Int.tdiv_eq_ediv_of_nonneg (by omega))) ?_
  have hz23 := hsb21
  obtain ⟨q23, f23, m23, -, hy23, -⟩ := hz23
  have hd23a := dgN_l 10 48 2 (aziM g k / 60)
  have hd23b : (dgN 10 48 4 (aziM g k / 60)).length ≤ 3 := by rw [dg4_2' (by omega)]; exact hd23a
  refine k_callV hC (c_J4_append_I_any l hls G hN w21 fl21 ([] ++ nmL g nl (g (57 + 3 * k)).toNat ++ [32] ++ dgN 10 (48) 1 (obsM g k / 60) ++ [39] ++ [48 + obsM g k % 60 / 10] ++ [48 + obsM g k % 60 % 10] ++ [32] ++ [122]) cap21 (aziM g k / 60) hsb21 (by omega) (by simp only [List.length_append, List.length_cons, List.length_nil, nmL_n]; omega)) yy_J4_append_bf812 wm_X11_415 (kl hN (by decide)) hy23 rfl rfl rfl rfl (Nat.le_of_ble_eq_true rfl) (by decide) (by decide) ⟨by decide, by decide⟩ dX11_format_157 (fun v23 w23 fl23 hp23 => ?_)
  obtain ⟨hp23a, cap23, hsb23, hcp23, hf23⟩ := hp23; subst hp23a
  have hcq23 : cap21 ≤ cap23 := hcp23
  rw [dg4_2' (x := aziM g k / 60) (by omega)] at hsb23
  show KW p l e R s m args below meth c 5 G _ w23 fl23 3 74 160 [(4, vI (obsM g k % 60)), (3, vI (obsM g k)), (2, .ref (kad G (20 + k))), (0, .ref (kad G 0)), (1, vI (k : Int))] [.ref (kad G 132)]
  refine k_pop hC dX11_format_160 rfl ?_
  refine k_aload_n hC dX11_format_161 rfl 3 rfl ?_
  have h_24 : w23 0 = .inr (11, [.ref (kad G 1), .ref (kad G 32), .ref (kad G 3), .ref (kad G 37), vI sv, .ref (kad G 44), .ref (kad G 10), .ref (kad G 116), .ref (kad G 129), .ref (kad G 132)]) := (hf23 0 (by decide)).trans ((hf21 0 (by decide)).trans h_20)
  refine k_get hC fd_X11_68 (kl hN (by decide)) h_24 rfl dX11_format_162 ?_
  refine k_bipush hC dX11_format_165 (by decide) ?_
  have hz25 := hsb23
  obtain ⟨q25, f25, m25, -, hy25, -⟩ := hz25
  refine k_callV hC (c_J4_append_C_any l hls G hN w23 fl23 ([] ++ nmL g nl (g (57 + 3 * k)).toNat ++ [32] ++ dgN 10 (48) 1 (obsM g k / 60) ++ [39] ++ [48 + obsM g k % 60 / 10] ++ [48 + obsM g k % 60 % 10] ++ [32] ++ [122] ++ dgN 10 (48) 2 (aziM g k / 60)) cap23 32 hsb23 (by omega) (by simp only [List.length_append, List.length_cons, List.length_nil, nmL_n]; omega)) yy_J4_append_cf468 wm_X11_412 (kl hN (by decide)) hy25 rfl rfl rfl rfl (Nat.le_of_ble_eq_true rfl) (by decide) (by decide) ⟨by decide, by decide⟩ dX11_format_167 (fun v25 w25 fl25 hp25 => ?_)
  obtain ⟨hp25a, cap25, hsb25, hcp25, hf25⟩ := hp25; subst hp25a
  have hcq25 : cap23 ≤ cap25 := hcp25
  show KW p l e R s m args below meth c 5 G _ w25 fl25 4 108 170 [(4, vI (obsM g k % 60)), (3, vI (obsM g k)), (2, .ref (kad G (20 + k))), (0, .ref (kad G 0)), (1, vI (k : Int))] [.ref (kad G 132)]
  refine k_aload_n hC dX11_format_170 rfl 2 rfl ?_
  have hta : 0 ≤ (if 0 ≤ intM g k then (116 : Int) else 97) ∧ (if 0 ≤ intM g k then (116 : Int) else 97) ≤ 127 := by split <;> decide
  have h_26 : w25 (20 + k) = .inr (3, [vI (apM g k), vI (obsM g k), vI (expM g k), vI (aziM g k), vI (intM g k), vI (offM g k), vI (carM g k 0), vI (sinM (aziM g k)), vI (cosM (aziM g k))]) := (hf25 (20 + k) (by omega)).trans ((hf23 (20 + k) (by omega)).trans h_22)
  refine k_get hC fd_X11_284 (kl hN (by omega)) h_26 rfl dX11_format_171 ?_
  refine k_if_lt hC 182 dX11_format_174 rfl (by omega) (fun c_174 => ?_) (fun c_174 => ?_)
  · refine k_bipush hC dX11_format_182 (by decide) ?_
    refine k_topv (vI (if 0 ≤ intM g k then 116 else 97)) (congrArg vI ((if_neg (by omega)).symm)) ?_
    have hz27 := hsb25
    obtain ⟨q27, f27, m27, -, hy27, -⟩ := hz27
    refine k_callV hC (c_J4_append_C_any l hls G hN w25 fl25 ([] ++ nmL g nl (g (57 + 3 * k)).toNat ++ [32] ++ dgN 10 (48) 1 (obsM g k / 60) ++ [39] ++ [48 + obsM g k % 60 / 10] ++ [48 + obsM g k % 60 % 10] ++ [32] ++ [122] ++ dgN 10 (48) 2 (aziM g k / 60) ++ [32]) cap25 (if 0 ≤ intM g k then 116 else 97) hsb25 (by omega) (by simp only [List.length_append, List.length_cons, List.length_nil, nmL_n]; omega)) yy_J4_append_cf468 wm_X11_412 (kl hN (by decide)) hy27 rfl rfl rfl rfl (Nat.le_of_ble_eq_true rfl) (by decide) (by decide) ⟨by decide, by decide⟩ dX11_format_184 (fun v27 w27 fl27 hp27 => ?_)
    obtain ⟨hp27a, cap27, hsb27, hcp27, hf27⟩ := hp27; subst hp27a
    have hcq27 : cap25 ≤ cap27 := hcp27
    show KW p l e R s m args below meth c 5 G _ w27 fl27 5 142 187 [(4, vI (obsM g k % 60)), (3, vI (obsM g k)), (2, .ref (kad G (20 + k))), (0, .ref (kad G 0)), (1, vI (k : Int))] [.ref (kad G 132)]
    refine k_pop hC dX11_format_187 rfl ?_
    refine k_aload_n hC dX11_format_188 rfl 3 rfl ?_
    have h_28 : w27 0 = .inr (11, [.ref (kad G 1), .ref (kad G 32), .ref (kad G 3), .ref (kad G 37), vI sv, .ref (kad G 44), .ref (kad G 10), .ref (kad G 116), .ref (kad G 129), .ref (kad G 132)]) := (hf27 0 (by decide)).trans ((hf25 0 (by decide)).trans h_24)
    refine k_get hC fd_X11_68 (kl hN (by decide)) h_28 rfl dX11_format_189 ?_
    refine k_aload_n hC dX11_format_192 rfl 2 rfl ?_
    have h_29 : w27 (20 + k) = .inr (3, [vI (apM g k), vI (obsM g k), vI (expM g k), vI (aziM g k), vI (intM g k), vI (offM g k), vI (carM g k 0), vI (sinM (aziM g k)), vI (cosM (aziM g k))]) := (hf27 (20 + k) (by omega)).trans h_26
    refine k_get hC fd_X11_284 (kl hN (by omega)) h_29 rfl dX11_format_193 ?_
    refine k_mabs hC wm_X11_357 wmath_mabs (by omega) (by decide) (Nat.le_of_ble_eq_true rfl) ⟨by decide, by decide⟩ dX11_format_196 ?_
    have hz30 := hsb27
    obtain ⟨q30, f30, m30, -, hy30, -⟩ := hz30
    have hd30a := dgN_l 10 48 4 (((intM g k).natAbs : Int))
    refine k_callV hC (c_J4_append_I_any l hls G hN w27 fl27 ([] ++ nmL g nl (g (57 + 3 * k)).toNat ++ [32] ++ dgN 10 (48) 1 (obsM g k / 60) ++ [39] ++ [48 + obsM g k % 60 / 10] ++ [48 + obsM g k % 60 % 10] ++ [32] ++ [122] ++ dgN 10 (48) 2 (aziM g k / 60) ++ [32] ++ [if 0 ≤ intM g k then 116 else 97]) cap27 ((intM g k).natAbs : Int) hsb27 (by omega) (by simp only [List.length_append, List.length_cons, List.length_nil, nmL_n]; omega)) yy_J4_append_bf812 wm_X11_415 (kl hN (by decide)) hy30 rfl rfl rfl rfl (Nat.le_of_ble_eq_true rfl) (by decide) (by decide) ⟨by decide, by decide⟩ dX11_format_199 (fun v30 w30 fl30 hp30 => ?_)
    obtain ⟨hp30a, cap30, hsb30, hcp30, hf30⟩ := hp30; subst hp30a
    have hcq30 : cap27 ≤ cap30 := hcp30
    show KW p l e R s m args below meth c 5 G _ w30 fl30 6 176 202 [(4, vI (obsM g k % 60)), (3, vI (obsM g k)), (2, .ref (kad G (20 + k))), (0, .ref (kad G 0)), (1, vI (k : Int))] [.ref (kad G 132)]
    refine k_pop hC dX11_format_202 rfl ?_
    refine k_aload_n hC dX11_format_203 rfl 3 rfl ?_
    have h_31 : w30 0 = .inr (11, [.ref (kad G 1), .ref (kad G 32), .ref (kad G 3), .ref (kad G 37), vI sv, .ref (kad G 44), .ref (kad G 10), .ref (kad G 116), .ref (kad G 129), .ref (kad G 132)]) := (hf30 0 (by decide)).trans h_28
    refine k_get hC fd_X11_68 (kl hN (by decide)) h_31 rfl dX11_format_204 ?_
    have hz32 := hsb30
    obtain ⟨q32, f32, m32, -, hy32, hc32, hl32, -⟩ := hz32
    refine k_pureV hC (c_J4_length_8abf5 l hls G hN w30 fl30 ([] ++ nmL g nl (g (57 + 3 * k)).toNat ++ [32] ++ dgN 10 (48) 1 (obsM g k / 60) ++ [39] ++ [48 + obsM g k % 60 / 10] ++ [48 + obsM g k % 60 % 10] ++ [32] ++ [122] ++ dgN 10 (48) 2 (aziM g k / 60) ++ [32] ++ [if 0 ≤ intM g k then 116 else 97] ++ dgN 10 (48) 4 (((intM g k).natAbs : Int))) cap30 hsb30) yy_J4_length_8abf5 wm_X11_423 (kl hN (by decide)) hy32 rfl rfl rfl rfl (Nat.le_of_ble_eq_true rfl) (by decide) (by decide) ⟨by decide, by decide⟩ dX11_format_207 ?_
    have h_33 : w30 13 = .inr (8, [vI (dispM g 0 false), vI (dispM g 0 true), vI la2, vI lo2]) := (hf30 13 (by decide)).trans ((hf27 13 (by decide)).trans ((hf25 13 (by decide)).trans ((hf23 13 (by decide)).trans ((hf21 13 (by decide)).trans ((hf19 13 (by decide)).trans ((hf18 13 (by decide)).trans ((hf16 13 (by decide)).trans ((hf15 13 (by decide)).trans ((hf12 13 (by decide)).trans ((hf9 13 (by decide)).trans ((hf6 13 (by decide)).trans hq2)))))))))))
    have hB_34 : kHat G w30 := hH.fr (fun j q1 q2 => (hf30 j (by omega)).trans ((hf27 j (by omega)).trans ((hf25 j (by omega)).trans ((hf23 j (by omega)).trans ((hf21 j (by omega)).trans ((hf19 j (by omega)).trans ((hf18 j (by omega)).trans ((hf16 j (by omega)).trans ((hf15 j (by omega)).trans ((hf12 j (by omega)).trans ((hf9 j (by omega)).trans ((hf6 j (by omega)).trans (hf2 j (by omega))))))))))))))
    have hB_35 : kPl14 w30 := h14.fr (fun j q1 q2 => (hf30 j (by omega)).trans ((hf27 j (by omega)).trans ((hf25 j (by omega)).trans ((hf23 j (by omega)).trans ((hf21 j (by omega)).trans ((hf19 j (by omega)).trans ((hf18 j (by omega)).trans ((hf16 j (by omega)).trans ((hf15 j (by omega)).trans ((hf12 j (by omega)).trans ((hf9 j (by omega)).trans ((hf6 j (by omega)).trans (hf2 j (by omega))))))))))))))
    have hB_36 : kPl15 w30 := h15.fr (fun j q1 q2 => (hf30 j (by omega)).trans ((hf27 j (by omega)).trans ((hf25 j (by omega)).trans ((hf23 j (by omega)).trans ((hf21 j (by omega)).trans ((hf19 j (by omega)).trans ((hf18 j (by omega)).trans ((hf16 j (by omega)).trans ((hf15 j (by omega)).trans ((hf12 j (by omega)).trans ((hf9 j (by omega)).trans ((hf6 j (by omega)).trans (hf2 j (by omega))))))))))))))
    have h_37 : w30 10 = .inr (0, [.ref (kad G 11), .ref (kad G 12), .ref (kad G 13), .ref (kad G 14), .ref (kad G 15), .ref (kad G 16)]) := (hf30 10 (by decide)).trans ((hf27 10 (by decide)).trans ((hf25 10 (by decide)).trans ((hf23 10 (by decide)).trans ((hf21 10 (by decide)).trans ((hf19 10 (by decide)).trans ((hf18 10 (by decide)).trans ((hf16 10 (by decide)).trans ((hf15 10 (by decide)).trans ((hf12 10 (by decide)).trans ((hf9 10 (by decide)).trans ((hf6 10 (by decide)).trans h_4)))))))))))
    have h_38 : w30 11 = rA G 4 12 (fun j => some (kad G (20 + j))) := (hf30 11 (by decide)).trans ((hf27 11 (by decide)).trans ((hf25 11 (by decide)).trans ((hf23 11 (by decide)).trans ((hf21 11 (by decide)).trans ((hf19 11 (by decide)).trans ((hf18 11 (by decide)).trans ((hf16 11 (by decide)).trans ((hf15 11 (by decide)).trans ((hf12 11 (by decide)).trans ((hf9 11 (by decide)).trans ((hf6 11 (by decide)).trans h_5)))))))))))
    have hB_39 : kLines w30 := hLn2.fr (fun j q1 q2 => (hf30 j (by omega)).trans ((hf27 j (by omega)).trans ((hf25 j (by omega)).trans ((hf23 j (by omega)).trans ((hf21 j (by omega)).trans ((hf19 j (by omega)).trans ((hf18 j (by omega)).trans ((hf16 j (by omega)).trans ((hf15 j (by omega)).trans ((hf12 j (by omega)).trans ((hf9 j (by omega)).trans (hf6 j (by omega)))))))))))))
    exact k_iretX hC hr ⟨by decide, by decide⟩ (⟨by omega, rfl, ⟨_, hsb30⟩, ⟨⟨h_37, h_38⟩, hB_39, ⟨_, _, _, _, h_33⟩, hB_34, hB_35, hB_36⟩, fun j hj => (hf30 j (by omega)).trans ((hf27 j (by omega)).trans ((hf25 j (by omega)).trans ((hf23 j (by omega)).trans ((hf21 j (by omega)).trans ((hf19 j (by omega)).trans ((hf18 j (by omega)).trans ((hf16 j (by omega)).trans ((hf15 j (by omega)).trans ((hf12 j (by omega)).trans ((hf9 j (by omega)).trans ((hf6 j (by omega)).trans (hf2 j (by omega)))))))))))))⟩) dX11_format_210
  · refine k_bipush hC dX11_format_177 (by decide) ?_
    refine k_topv (vI (if 0 ≤ intM g k then 116 else 97)) (congrArg vI ((if_pos (by omega)).symm)) ?_
    refine k_goto hC 184 dX11_format_179 rfl ?_
    have hz40 := hsb25
    obtain ⟨q40, f40, m40, -, hy40, -⟩ := hz40
    refine k_callV hC (c_J4_append_C_any l hls G hN w25 fl25 ([] ++ nmL g nl (g (57 + 3 * k)).toNat ++ [32] ++ dgN 10 (48) 1 (obsM g k / 60) ++ [39] ++ [48 + obsM g k % 60 / 10] ++ [48 + obsM g k % 60 % 10] ++ [32] ++ [122] ++ dgN 10 (48) 2 (aziM g k / 60) ++ [32]) cap25 (if 0 ≤ intM g k then 116 else 97) hsb25 (by omega) (by simp only [List.length_append, List.length_cons, List.length_nil, nmL_n]; omega)) yy_J4_append_cf468 wm_X11_412 (kl hN (by decide)) hy40 rfl rfl rfl rfl (Nat.le_of_ble_eq_true rfl) (by decide) (by decide) ⟨by decide, by decide⟩ dX11_format_184 (fun v40 w40 fl40 hp40 => ?_)
    obtain ⟨hp40a, cap40, hsb40, hcp40, hf40⟩ := hp40; subst hp40a
    have hcq40 : cap25 ≤ cap40 := hcp40
    show KW p l e R s m args below meth c 5 G _ w40 fl40 5 142 187 [(4, vI (obsM g k % 60)), (3, vI (obsM g k)), (2, .ref (kad G (20 + k))), (0, .ref (kad G 0)), (1, vI (k : Int))] [.ref (kad G 132)]
    refine k_pop hC dX11_format_187 rfl ?_
    refine k_aload_n hC dX11_format_188 rfl 3 rfl ?_
    have h_41 : w40 0 = .inr (11, [.ref (kad G 1), .ref (kad G 32), .ref (kad G 3), .ref (kad G 37), vI sv, .ref (kad G 44), .ref (kad G 10), .ref (kad G 116), .ref (kad G 129), .ref (kad G 132)]) := (hf40 0 (by decide)).trans ((hf25 0 (by decide)).trans h_24)
    refine k_get hC fd_X11_68 (kl hN (by decide)) h_41 rfl dX11_format_189 ?_
    refine k_aload_n hC dX11_format_192 rfl 2 rfl ?_
    have h_42 : w40 (20 + k) = .inr (3, [vI (apM g k), vI (obsM g k), vI (expM g k), vI (aziM g k), vI (intM g k), vI (offM g k), vI (carM g k 0), vI (sinM (aziM g k)), vI (cosM (aziM g k))]) := (hf40 (20 + k) (by omega)).trans h_26
    refine k_get hC fd_X11_284 (kl hN (by omega)) h_42 rfl dX11_format_193 ?_
    refine k_mabs hC wm_X11_357 wmath_mabs (by omega) (by decide) (Nat.le_of_ble_eq_true rfl) ⟨by decide, by decide⟩ dX11_format_196 ?_
    have hz43 := hsb40
    obtain ⟨q43, f43, m43, -, hy43, -⟩ := hz43
    have hd43a := dgN_l 10 48 4 (((intM g k).natAbs : Int))
    refine k_callV hC (c_J4_append_I_any l hls G hN w40 fl40 ([] ++ nmL g nl (g (57 + 3 * k)).toNat ++ [32] ++ dgN 10 (48) 1 (obsM g k / 60) ++ [39] ++ [48 + obsM g k % 60 / 10] ++ [48 + obsM g k % 60 % 10] ++ [32] ++ [122] ++ dgN 10 (48) 2 (aziM g k / 60) ++ [32] ++ [if 0 ≤ intM g k then 116 else 97]) cap40 ((intM g k).natAbs : Int) hsb40 (by omega) (by simp only [List.length_append, List.length_cons, List.length_nil, nmL_n]; omega)) yy_J4_append_bf812 wm_X11_415 (kl hN (by decide)) hy43 rfl rfl rfl rfl (Nat.le_of_ble_eq_true rfl) (by decide) (by decide) ⟨by decide, by decide⟩ dX11_format_199 (fun v43 w43 fl43 hp43 => ?_)
    obtain ⟨hp43a, cap43, hsb43, hcp43, hf43⟩ := hp43; subst hp43a
    have hcq43 : cap40 ≤ cap43 := hcp43
    show KW p l e R s m args below meth c 5 G _ w43 fl43 6 176 202 [(4, vI (obsM g k % 60)), (3, vI (obsM g k)), (2, .ref (kad G (20 + k))), (0, .ref (kad G 0)), (1, vI (k : Int))] [.ref (kad G 132)]
    refine k_pop hC dX11_format_202 rfl ?_
    refine k_aload_n hC dX11_format_203 rfl 3 rfl ?_
    have h_44 : w43 0 = .inr (11, [.ref (kad G 1), .ref (kad G 32), .ref (kad G 3), .ref (kad G 37), vI sv, .ref (kad G 44), .ref (kad G 10), .ref (kad G 116), .ref (kad G 129), .ref (kad G 132)]) := (hf43 0 (by decide)).trans h_41
    refine k_get hC fd_X11_68 (kl hN (by decide)) h_44 rfl dX11_format_204 ?_
    have hz45 := hsb43
    obtain ⟨q45, f45, m45, -, hy45, hc45, hl45, -⟩ := hz45
    refine k_pureV hC (c_J4_length_8abf5 l hls G hN w43 fl43 ([] ++ nmL g nl (g (57 + 3 * k)).toNat ++ [32] ++ dgN 10 (48) 1 (obsM g k / 60) ++ [39] ++ [48 + obsM g k % 60 / 10] ++ [48 + obsM g k % 60 % 10] ++ [32] ++ [122] ++ dgN 10 (48) 2 (aziM g k / 60) ++ [32] ++ [if 0 ≤ intM g k then 116 else 97] ++ dgN 10 (48) 4 (((intM g k).natAbs : Int))) cap43 hsb43) yy_J4_length_8abf5 wm_X11_423 (kl hN (by decide)) hy45 rfl rfl rfl rfl (Nat.le_of_ble_eq_true rfl) (by decide) (by decide) ⟨by decide, by decide⟩ dX11_format_207 ?_
    have h_46 : w43 13 = .inr (8, [vI (dispM g 0 false), vI (dispM g 0 true), vI la2, vI lo2]) := (hf43 13 (by decide)).trans ((hf40 13 (by decide)).trans ((hf25 13 (by decide)).trans ((hf23 13 (by decide)).trans ((hf21 13 (by decide)).trans ((hf19 13 (by decide)).trans ((hf18 13 (by decide)).trans ((hf16 13 (by decide)).trans ((hf15 13 (by decide)).trans ((hf12 13 (by decide)).trans ((hf9 13 (by decide)).trans ((hf6 13 (by decide)).trans hq2)))))))))))
    have hB_47 : kHat G w43 := hH.fr (fun j q1 q2 => (hf43 j (by omega)).trans ((hf40 j (by omega)).trans ((hf25 j (by omega)).trans ((hf23 j (by omega)).trans ((hf21 j (by omega)).trans ((hf19 j (by omega)).trans ((hf18 j (by omega)).trans ((hf16 j (by omega)).trans ((hf15 j (by omega)).trans ((hf12 j (by omega)).trans ((hf9 j (by omega)).trans ((hf6 j (by omega)).trans (hf2 j (by omega))))))))))))))
    have hB_48 : kPl14 w43 := h14.fr (fun j q1 q2 => (hf43 j (by omega)).trans ((hf40 j (by omega)).trans ((hf25 j (by omega)).trans ((hf23 j (by omega)).trans ((hf21 j (by omega)).trans ((hf19 j (by omega)).trans ((hf18 j (by omega)).trans ((hf16 j (by omega)).trans ((hf15 j (by omega)).trans ((hf12 j (by omega)).trans ((hf9 j (by omega)).trans ((hf6 j (by omega)).trans (hf2 j (by omega))))))))))))))
    have hB_49 : kPl15 w43 := h15.fr (fun j q1 q2 => (hf43 j (by omega)).trans ((hf40 j (by omega)).trans ((hf25 j (by omega)).trans ((hf23 j (by omega)).trans ((hf21 j (by omega)).trans ((hf19 j (by omega)).trans ((hf18 j (by omega)).trans ((hf16 j (by omega)).trans ((hf15 j (by omega)).trans ((hf12 j (by omega)).trans ((hf9 j (by omega)).trans ((hf6 j (by omega)).trans (hf2 j (by omega))))))))))))))
    have h_50 : w43 10 = .inr (0, [.ref (kad G 11), .ref (kad G 12), .ref (kad G 13), .ref (kad G 14), .ref (kad G 15), .ref (kad G 16)]) := (hf43 10 (by decide)).trans ((hf40 10 (by decide)).trans ((hf25 10 (by decide)).trans ((hf23 10 (by decide)).trans ((hf21 10 (by decide)).trans ((hf19 10 (by decide)).trans ((hf18 10 (by decide)).trans ((hf16 10 (by decide)).trans ((hf15 10 (by decide)).trans ((hf12 10 (by decide)).trans ((hf9 10 (by decide)).trans ((hf6 10 (by decide)).trans h_4)))))))))))
    have h_51 : w43 11 = rA G 4 12 (fun j => some (kad G (20 + j))) := (hf43 11 (by decide)).trans ((hf40 11 (by decide)).trans ((hf25 11 (by decide)).trans ((hf23 11 (by decide)).trans ((hf21 11 (by decide)).trans ((hf19 11 (by decide)).trans ((hf18 11 (by decide)).trans ((hf16 11 (by decide)).trans ((hf15 11 (by decide)).trans ((hf12 11 (by decide)).trans ((hf9 11 (by decide)).trans ((hf6 11 (by decide)).trans h_5)))))))))))
    have hB_52 : kLines w43 := hLn2.fr (fun j q1 q2 => (hf43 j (by omega)).trans ((hf40 j (by omega)).trans ((hf25 j (by omega)).trans ((hf23 j (by omega)).trans ((hf21 j (by omega)).trans ((hf19 j (by omega)).trans ((hf18 j (by omega)).trans ((hf16 j (by omega)).trans ((hf15 j (by omega)).trans ((hf12 j (by omega)).trans ((hf9 j (by omega)).trans (hf6 j (by omega)))))))))))))
    exact k_iretX hC hr ⟨by decide, by decide⟩ (⟨by omega, rfl, ⟨_, hsb43⟩, ⟨⟨h_50, h_51⟩, hB_52, ⟨_, _, _, _, h_46⟩, hB_47, hB_48, hB_49⟩, fun j hj => (hf43 j (by omega)).trans ((hf40 j (by omega)).trans ((hf25 j (by omega)).trans ((hf23 j (by omega)).trans ((hf21 j (by omega)).trans ((hf19 j (by omega)).trans ((hf18 j (by omega)).trans ((hf16 j (by omega)).trans ((hf15 j (by omega)).trans ((hf12 j (by omega)).trans ((hf9 j (by omega)).trans ((hf6 j (by omega)).trans (hf2 j (by omega)))))))))))))⟩) dX11_format_210

set_option maxRecDepth 100000 in
set_option maxHeartbeats 4000000 in
theorem c_X11_formattedByte (l : Launch) (hls : l.stackTraces = false) (G : kG) (hN : kN G = 150) (w : Nat → va_E) (fl : va_W) (sv : Int) (T : List Int) (cap : Nat) (b : Int) (hb : -2147483648 ≤ b ∧ b ≤ 2147483647) (h00 : w 0 = srO G sv) (hx : ∀ j, j < T.length → 0 ≤ T.getD j 0) (hsb : sbC G w fl T cap) : KM l G yX11_formattedByte cX11_formattedByte 2 (some (FieldType.int)) 4 0 0 [.ref (kad G 0), vI b] w fl (kPure (vI (if 0 ≤ b ∧ b < (T.length : Int) then T.getD b.toNat 0 else -1)) w fl) := by
  refine KM_of2 hls (by decide +kernel) rfl (lv0 := [(0, .ref (kad G 0)), (1, vI b)]) rfl (Nat.le_of_ble_eq_true rfl) (fun p e R s m args below meth c Q hC hr hQ => ?_)
  refine k_iload_n hC dX11_formattedByte_0 rfl 1 rfl ?_
  refine k_if_lt hC 15 dX11_formattedByte_1 rfl (by omega) (fun c_1 => ?_) (fun c_1 => ?_)
  · refine k_iconst hC dX11_formattedByte_15 ?_
    refine k_goto hC 27 dX11_formattedByte_16 rfl ?_
    subst hQ
    exact k_iret hC hr ⟨by decide, by decide⟩ (⟨congrArg (fun z => some (vI z)) (if_neg (by omega)), rfl, rfl⟩) dX11_formattedByte_27
  · refine k_iload_n hC dX11_formattedByte_4 rfl 1 rfl ?_
    refine k_aload_n hC dX11_formattedByte_5 rfl 0 rfl ?_
    refine k_get hC fd_X11_68 (kl hN (by decide)) h00 rfl dX11_formattedByte_6 ?_
    have hz1 := hsb
    obtain ⟨q1, f1, m1, -, hy1, hc1, hl1, -⟩ := hz1
    refine k_pureV hC (c_J4_length_8abf5 l hls G hN w fl T cap hsb) yy_J4_length_8abf5 wm_X11_423 (kl hN (by decide)) hy1 rfl rfl rfl rfl (Nat.le_of_ble_eq_true rfl) (by decide) (by decide) ⟨by decide, by decide⟩ dX11_formattedByte_9 ?_
    refine k_icmp_lt hC 19 dX11_formattedByte_12 rfl (by omega) (by omega) (fun c_12 => ?_) (fun c_12 => ?_)
    · obtain ⟨i9, ei9⟩ : ∃ zz : Nat, b = (zz : Int) := ⟨b.toNat, by omega⟩
      subst ei9
      refine k_aload_n hC dX11_formattedByte_19 rfl 0 rfl ?_
      refine k_get hC fd_X11_68 (kl hN (by decide)) h00 rfl dX11_formattedByte_20 ?_
      refine k_iload_n hC dX11_formattedByte_23 rfl 1 rfl ?_
      have hz2 := hsb
      obtain ⟨q2, f2, m2, -, hy2, hc2, hl2, -⟩ := hz2
      refine k_pureV hC (c_J4_charAt_5068e l hls G hN w fl T cap i9 hsb (by omega) (hx i9 (by omega))) yy_J4_charAt_5068e wm_X11_426 (kl hN (by decide)) hy2 rfl rfl rfl rfl (Nat.le_of_ble_eq_true rfl) (by decide) (by decide) ⟨by decide, by decide⟩ dX11_formattedByte_24 ?_
      subst hQ
      exact k_iret hC hr ⟨by decide, by decide⟩ (⟨congrArg (fun z => some (vI z)) ((if_pos (by omega)).trans (by rw [Int.toNat_natCast])), rfl, rfl⟩) dX11_formattedByte_27
    · refine k_iconst hC dX11_formattedByte_15 ?_
      refine k_goto hC 27 dX11_formattedByte_16 rfl ?_
      subst hQ
      exact k_iret hC hr ⟨by decide, by decide⟩ (⟨congrArg (fun z => some (vI z)) (if_neg (by omega)), rfl, rfl⟩) dX11_formattedByte_27

