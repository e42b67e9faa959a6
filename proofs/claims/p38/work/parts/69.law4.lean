theorem crs_E {g : Nat → Int} {i j : Nat} (T : Int) (h : crOK (crDet (sinM (aziM g i)) (cosM (aziM g i)) (sinM (aziM g j)) (cosM (aziM g j)))) : crsV g i j T 0 = cE g i j T := by unfold crsV; rw [if_pos h]; rfl
theorem crs_N {g : Nat → Int} {i j : Nat} (T : Int) (h : crOK (crDet (sinM (aziM g i)) (cosM (aziM g i)) (sinM (aziM g j)) (cosM (aziM g j)))) : crsV g i j T 1 = cN g i j T := by unfold crsV; rw [if_pos h]; rfl
theorem hat_0 {g : Nat → Int} {a b d : Nat} (T : Int) (h : hatP g a b d) : hatV g a b d T 0 = hatA g a b d T := selI_1 h
theorem hat_1 {g : Nat → Int} {a b d : Nat} (T : Int) (h : hatP g a b d) : hatV g a b d T 1 = (cE g a b T + cE g a d T + cE g b d T) / 3 := selI_1 h
theorem hat_2 {g : Nat → Int} {a b d : Nat} (T : Int) (h : hatP g a b d) : hatV g a b d T 2 = (cN g a b T + cN g a d T + cN g b d T) / 3 := selI_1 h
theorem hat_least {g : Nat → Int} {a b d n x y z : Nat} {T : Int} (hmin : ∀ x y z : Nat, x < y → y < z → z < n → hatP g x y z → hatA g a b d T ≤ hatA g x y z T) (h : 0 ≤ hatV g x y z T 0) (h1 : x < y) (h2 : y < z) (h3 : z < n) : hatA g a b d T ≤ hatV g x y z T 0 := by
  by_cases hp : hatP g x y z
  · rw [hat_0 T hp]; exact hmin x y z h1 h2 h3 hp
  · have e : hatV g x y z T 0 = -1000000000 := selI_0 hp
    omega
noncomputable def thinF (g : Nat → Int) (a b d : Nat) (T : Int) : Int := max (max 0 (((cE g a d T - cE g a b T).natAbs : Int) + ((cN g a d T - cN g a b T).natAbs : Int))) (((cE g b d T - cE g a b T).natAbs : Int) + ((cN g b d T - cN g a b T).natAbs : Int))
theorem hatV_b (g : Nat → Int) (a b d : Nat) (T q : Int) : -1000000000 ≤ hatV g a b d T q ∧ hatV g a b d T q ≤ 400000000 := by
  have h1 := hatA_b g a b d T
  have h2 := cE_b g a b T
  have h3 := cE_b g a d T
  have h4 := cE_b g b d T
  have h5 := cN_b g a b T
  have h6 := cN_b g a d T
  have h7 := cN_b g b d T
  unfold hatV
  by_cases hp : hatP g a b d
  · rw [selI_1 hp]
    repeat (first | omega | split)
  · rw [selI_0 hp]; omega
theorem leastM_b {g : Nat → Int} (hI : Inv g) (T : Int) : -1 ≤ leastM g T ∧ leastM g T ≤ 200000 := by
  have h0 := hI.c
  rcases least_ok g T (g 2).toNat rfl with h | ⟨a, b, d, h1, h2, h3, -, h4, -⟩
  · omega
  · omega
theorem ins_c {g : Nat → Int} {a b d : Nat} {T : Int} (h : hatP g a b d) : insV g a b d T (cE g a b T) (cN g a b T) = 1 := selI_1 ⟨h, hol_corner _ _ _ _ _ _⟩
theorem ins_m {g : Nat → Int} {a b d : Nat} {T : Int} (h : hatP g a b d) (ha : 400 ≤ hatA g a b d T) (ht : 100 * thinF g a b d T ≤ 20000 * hatA g a b d T) : insV g a b d T ((cE g a b T + cE g a d T + cE g b d T) / 3) ((cN g a b T + cN g a d T + cN g b d T) / 3) = 1 :=
  selI_1 ⟨h, hol_mid (F := thinF g a b d T) (by unfold thinF; omega) (by unfold thinF; omega) ha ht rfl rfl⟩
set_option maxRecDepth 100000 in
set_option maxHeartbeats 4000000 in
theorem c_L_isThin (l : Launch) (hls : l.stackTraces = false) (G : kG) (hN : 133 ≤ kN G) (w : Nat → va_E) (fl : va_W) (g nl : Nat → Int) (sv : Int) (a b d : Nat) (T : Int) (ha : (a : Int) < g 2) (hb : (b : Int) < g 2) (hd : (d : Int) < g 2) (ht : 0 ≤ T ∧ T ≤ 5000) (hok : hatP g a b d) (hI : Inv g) (h00 : w 0 = srO G sv) (hL : kLog G w 3 g) (hP : kPlan G w 32 g nl) (hCt : kCht G w) : KM l G yL_isThin cL_isThin 16 (some (FieldType.boolean)) 8 3 6 [.ref (kad G 0), vI (a : Int), vI (b : Int), vI (d : Int), vI T] w fl (fun v1 w1 fl1 => ∃ z : Int, some (vI z) = v1 ∧ fl = fl1 ∧ (z = 0 ∨ z = 1) ∧ (z = 0 → 100 * thinF g a b d T ≤ 20000 * hatA g a b d T) ∧ kCP G w w1) := by
  refine KM_of2 hls (by decide +kernel) rfl (lv0 := [(0, .ref (kad G 0)), (1, vI (a : Int)), (2, vI (b : Int)), (3, vI (d : Int)), (4, vI T)]) rfl (Nat.le_of_ble_eq_true rfl) (fun p e R s m args below meth c Q hC hr hQ => ?_)
  have e1 := cE_b g a b T
  have e2 := cE_b g a d T
  have e3 := cE_b g b d T
  have n1 := cN_b g a b T
  have n2 := cN_b g a d T
  have n3 := cN_b g b d T
  have hA9 := hatA_b g a b d T
  have h0 := hI.c
  refine k_aload_n hC dL_isThin_0 rfl 0 rfl ?_
  refine k_iload_n hC dL_isThin_1 rfl 1 rfl ?_
  refine k_iload_n hC dL_isThin_2 rfl 2 rfl ?_
  refine k_iload hC dL_isThin_3 4 rfl ?_
  refine k_iconst hC dL_isThin_5 ?_
  refine k_callV hC (n_X11_crossing l hls G hN w fl g nl sv (a : Int) (b : Int) T 0 (by omega) (by omega) (by omega) (by decide) hI h00 hL hP hCt (by omega)) yy_X11_crossing wm_L_173 (kl hN (by decide)) h00 rfl rfl rfl rfl (Nat.le_of_ble_eq_true rfl) (by decide) (by decide) ⟨by decide, by decide⟩ dL_isThin_6 (fun v1 w1 fl1 hp1 => ?_)
  obtain ⟨-, q1, q2, hp1⟩ := hp1
  subst q1
  subst q2
  obtain ⟨hCt1, hf1⟩ := hp1
  show KW p l e R s m args below meth c 16 G Q w1 fl 0 0 9 [(0, .ref (kad G 0)), (1, vI (a : Int)), (2, vI (b : Int)), (3, vI (d : Int)), (4, vI T)] [vI (crsV g (a : Int).toNat (b : Int).toNat T 0)]
  refine k_topv (vI (crsV g a b T 0)) rfl ?_
  refine k_topv (vI (cE g a b T)) (congrArg vI (crs_E T hok.1)) ?_
  refine k_i2l hC dL_isThin_9 (by omega) ?_
  refine k_lstore hC [(5, vL (cE g a b T)), (0, .ref (kad G 0)), (1, vI (a : Int)), (2, vI (b : Int)), (3, vI (d : Int)), (4, vI T)] dL_isThin_10 (by decide) rfl ?_
  refine k_aload_n hC dL_isThin_12 rfl 1 rfl ?_
  refine k_iload_n hC dL_isThin_13 rfl 2 rfl ?_
  refine k_iload_n hC dL_isThin_14 rfl 3 rfl ?_
  refine k_iload hC dL_isThin_15 5 rfl ?_
  refine k_iconst hC dL_isThin_17 ?_
  have h_2 : w1 0 = .inr (11, [.ref (kad G 1), .ref (kad G 32), .ref (kad G 3), .ref (kad G 37), vI sv, .ref (kad G 44), .ref (kad G 10), .ref (kad G 116), .ref (kad G 129), .ref (kad G 132)]) := (hf1 0 (by omega)).trans h00
  have hB_3 : kLog G w1 3 g := hL.fr (fun j q1 q2 => (hf1 j (by omega)))
  have hB_4 : kPlan G w1 32 g nl := hP.fr (fun j q1 q2 => (hf1 j (by omega)))
  refine k_callV hC (n_X11_crossing l hls G hN w1 fl g nl sv (a : Int) (b : Int) T 1 (by omega) (by omega) (by omega) (by decide) hI h_2 hB_3 hB_4 hCt1 (by omega)) yy_X11_crossing wm_L_173 (kl hN (by decide)) h_2 rfl rfl rfl rfl (Nat.le_of_ble_eq_true rfl) (by decide) (by decide) ⟨by decide, by decide⟩ dL_isThin_18 (fun v5 w5 fl5 hp5 => ?_)
  obtain ⟨-, q1, q2, hp5⟩ := hp5
  subst q1
  subst q2
  obtain ⟨hCt5, hf5⟩ := hp5
  show KW p l e R s m args below meth c 16 G Q w5 fl 0 0 21 [(5, vL (cE g a b T)), (0, .ref (kad G 0)), (1, vI (a : Int)), (2, vI (b : Int)), (3, vI (d : Int)), (4, vI T)] [vI (crsV g (a : Int).toNat (b : Int).toNat T 1)]
  refine k_topv (vI (crsV g a b T 1)) rfl ?_
  refine k_topv (vI (cN g a b T)) (congrArg vI (crs_N T hok.1)) ?_
  refine k_i2l hC dL_isThin_21 (by omega) ?_
  refine k_lstore hC [(7, vL (cN g a b T)), (5, vL (cE g a b T)), (0, .ref (kad G 0)), (1, vI (a : Int)), (2, vI (b : Int)), (3, vI (d : Int)), (4, vI T)] dL_isThin_22 (by decide) rfl ?_
  refine k_lconst (x := 0) hC dL_isThin_24 (by decide) ?_
  refine k_lstore hC [(9, vL 0), (7, vL (cN g a b T)), (5, vL (cE g a b T)), (0, .ref (kad G 0)), (1, vI (a : Int)), (2, vI (b : Int)), (3, vI (d : Int)), (4, vI T)] dL_isThin_25 (by decide) rfl ?_
  refine k_iconst hC dL_isThin_27 ?_
  refine k_newqA hC (n := 2) (by decide) wl_L_199 ⟨by decide, by decide⟩ dL_isThin_28 (fun x_6 => ?_)
  show KW p l e R s m args below meth c 16 G Q w5 (fl ++ [(x_6, rA G 6 2 (fun _ => none))]) 1 2 31 [(9, vL 0), (7, vL (cN g a b T)), (5, vL (cE g a b T)), (0, .ref (kad G 0)), (1, vI (a : Int)), (2, vI (b : Int)), (3, vI (d : Int)), (4, vI T)] [.ref x_6]
  refine k_dup hC dL_isThin_31 rfl ?_
  refine k_iconst hC dL_isThin_32 ?_
  refine k_iconst hC dL_isThin_33 ?_
  refine k_newi hC (n := 2) rfl (by decide) ⟨by decide, by decide⟩ dL_isThin_34 (fun x_7 => ?_)
  rw [List.append_assoc]
  show KW p l e R s m args below meth c 16 G Q w5 (fl ++ [(x_6, rA G 6 2 (fun _ => none)), (x_7, iA G 2 (fun _ => 0))]) 2 4 36 [(9, vL 0), (7, vL (cN g a b T)), (5, vL (cE g a b T)), (0, .ref (kad G 0)), (1, vI (a : Int)), (2, vI (b : Int)), (3, vI (d : Int)), (4, vI T)] [.ref x_7, vI 0, .ref x_6, .ref x_6]
  refine k_dup hC dL_isThin_36 rfl ?_
  refine k_iconst hC dL_isThin_37 ?_
  refine k_iload_n hC dL_isThin_38 rfl 4 rfl ?_
  refine k_iastL hC (n := 2) (f := (fun _ => 0)) 1 rfl [(x_6, rA G 6 2 (fun _ => none)), (x_7, iA G 2 (kup (fun _ => 0) 0 (a : Int)))] rfl (by decide) (by decide) dL_isThin_39 ?_
  refine k_dup hC dL_isThin_40 rfl ?_
  refine k_iconst hC dL_isThin_41 ?_
  refine k_iload_n hC dL_isThin_42 rfl 6 rfl ?_
  refine k_iastL hC (n := 2) (f := (kup (fun _ => 0) 0 (a : Int))) 1 rfl [(x_6, rA G 6 2 (fun _ => none)), (x_7, iA G 2 (kup (kup (fun _ => 0) 0 (a : Int)) 1 (d : Int)))] rfl (by decide) (by decide) dL_isThin_43 ?_
  refine k_aastL hC (n := 2) (f := (fun _ => none)) (m0 := 2) (fi := (kup (kup (fun _ => 0) 0 (a : Int)) 1 (d : Int))) 0 1 rfl rfl [(x_6, rA G 6 2 (va_up (fun _ => none) 0 (some x_7))), (x_7, iA G 2 (kup (kup (fun _ => 0) 0 (a : Int)) 1 (d : Int)))] rfl (by decide) (by decide) dL_isThin_44 ?_
  refine k_dup hC dL_isThin_45 rfl ?_
  refine k_iconst hC dL_isThin_46 ?_
  refine k_iconst hC dL_isThin_47 ?_
  refine k_newi hC (n := 2) rfl (by decide) ⟨by decide, by decide⟩ dL_isThin_48 (fun x_8 => ?_)
  rw [List.append_assoc]
  show KW p l e R s m args below meth c 16 G Q w5 (fl ++ [(x_6, rA G 6 2 (va_up (fun _ => none) 0 (some x_7))), (x_7, iA G 2 (kup (kup (fun _ => 0) 0 (a : Int)) 1 (d : Int))), (x_8, iA G 2 (fun _ => 0))]) 3 6 50 [(9, vL 0), (7, vL (cN g a b T)), (5, vL (cE g a b T)), (0, .ref (kad G 0)), (1, vI (a : Int)), (2, vI (b : Int)), (3, vI (d : Int)), (4, vI T)] [.ref x_8, vI 1, .ref x_6, .ref x_6]
  refine k_dup hC dL_isThin_50 rfl ?_
  refine k_iconst hC dL_isThin_51 ?_
  refine k_iload_n hC dL_isThin_52 rfl 5 rfl ?_
  refine k_iastL hC (n := 2) (f := (fun _ => 0)) 2 rfl [(x_6, rA G 6 2 (va_up (fun _ => none) 0 (some x_7))), (x_7, iA G 2 (kup (kup (fun _ => 0) 0 (a : Int)) 1 (d : Int))), (x_8, iA G 2 (kup (fun _ => 0) 0 (b : Int)))] rfl (by decide) (by decide) dL_isThin_53 ?_
  refine k_dup hC dL_isThin_54 rfl ?_
  refine k_iconst hC dL_isThin_55 ?_
  refine k_iload_n hC dL_isThin_56 rfl 6 rfl ?_
  refine k_iastL hC (n := 2) (f := (kup (fun _ => 0) 0 (b : Int))) 2 rfl [(x_6, rA G 6 2 (va_up (fun _ => none) 0 (some x_7))), (x_7, iA G 2 (kup (kup (fun _ => 0) 0 (a : Int)) 1 (d : Int))), (x_8, iA G 2 (kup (kup (fun _ => 0) 0 (b : Int)) 1 (d : Int)))] rfl (by decide) (by decide) dL_isThin_57 ?_
  refine k_aastL hC (n := 2) (f := (va_up (fun _ => none) 0 (some x_7))) (m0 := 2) (fi := (kup (kup (fun _ => 0) 0 (b : Int)) 1 (d : Int))) 0 2 rfl rfl [(x_6, rA G 6 2 (va_up (va_up (fun _ => none) 0 (some x_7)) 1 (some x_8))), (x_7, iA G 2 (kup (kup (fun _ => 0) 0 (a : Int)) 1 (d : Int))), (x_8, iA G 2 (kup (kup (fun _ => 0) 0 (b : Int)) 1 (d : Int)))] rfl (by decide) (by decide) dL_isThin_58 ?_
  refine k_astore hC [(11, .ref x_6), (9, vL 0), (7, vL (cN g a b T)), (5, vL (cE g a b T)), (0, .ref (kad G 0)), (1, vI (a : Int)), (2, vI (b : Int)), (3, vI (d : Int)), (4, vI T)] dL_isThin_59 (by decide) rfl ?_
  refine k_aload hC dL_isThin_61 0 rfl ?_
  refine k_astore hC [(12, .ref x_6), (11, .ref x_6), (9, vL 0), (7, vL (cN g a b T)), (5, vL (cE g a b T)), (0, .ref (kad G 0)), (1, vI (a : Int)), (2, vI (b : Int)), (3, vI (d : Int)), (4, vI T)] dL_isThin_63 (by decide) rfl ?_
  refine k_aload hC dL_isThin_65 0 rfl ?_
  refine k_alenL hC (n := 2) (f := (va_up (va_up (fun _ => none) 0 (some x_7)) 1 (some x_8))) 0 rfl dL_isThin_67 ?_
  refine k_istore hC [(13, vI 2), (12, .ref x_6), (11, .ref x_6), (9, vL 0), (7, vL (cN g a b T)), (5, vL (cE g a b T)), (0, .ref (kad G 0)), (1, vI (a : Int)), (2, vI (b : Int)), (3, vI (d : Int)), (4, vI T)] dL_isThin_68 (by decide) rfl ?_
  refine k_iconst hC dL_isThin_70 ?_
  refine k_istore hC [(14, vI 0), (13, vI 2), (12, .ref x_6), (11, .ref x_6), (9, vL 0), (7, vL (cN g a b T)), (5, vL (cE g a b T)), (0, .ref (kad G 0)), (1, vI (a : Int)), (2, vI (b : Int)), (3, vI (d : Int)), (4, vI T)] dL_isThin_71 (by decide) rfl ?_
  refine k_iload hC dL_isThin_73 0 rfl ?_
  refine k_iload hC dL_isThin_75 1 rfl ?_
  refine k_icmp_ge hC 145 dL_isThin_77 rfl (by omega) (by omega) (fun c_77 => absurd c_77 (by omega)) (fun c_77 => ?_)
  refine k_aload hC dL_isThin_80 2 rfl ?_
  refine k_iload hC dL_isThin_82 0 rfl ?_
  refine k_aaldL hC (n := 2) (f := (va_up (va_up (fun _ => none) 0 (some x_7)) 1 (some x_8))) (v := .ref x_7) 0 rfl (by decide) (by decide) rfl dL_isThin_84 ?_
  refine k_astore hC [(15, .ref x_7), (14, vI 0), (13, vI 2), (12, .ref x_6), (11, .ref x_6), (9, vL 0), (7, vL (cN g a b T)), (5, vL (cE g a b T)), (0, .ref (kad G 0)), (1, vI (a : Int)), (2, vI (b : Int)), (3, vI (d : Int)), (4, vI T)] dL_isThin_85 (by decide) rfl ?_
  refine k_lload hC dL_isThin_87 5 rfl ?_
  refine k_aload_n hC dL_isThin_89 rfl 8 rfl ?_
  refine k_aload hC dL_isThin_90 0 rfl ?_
  refine k_iconst hC dL_isThin_92 ?_
  refine k_ialdL hC (n := 2) (f := (kup (kup (fun _ => 0) 0 (a : Int)) 1 (d : Int))) 1 rfl (by decide) (by decide) dL_isThin_93 ?_
  refine k_topv (vI (a : Int)) rfl ?_
  refine k_aload hC dL_isThin_94 0 rfl ?_
  refine k_iconst hC dL_isThin_96 ?_
  refine k_ialdL hC (n := 2) (f := (kup (kup (fun _ => 0) 0 (a : Int)) 1 (d : Int))) 1 rfl (by decide) (by decide) dL_isThin_97 ?_
  refine k_topv (vI (d : Int)) rfl ?_
  refine k_iload hC dL_isThin_98 12 rfl ?_
  refine k_iconst hC dL_isThin_100 ?_
  have h_9 : w5 0 = .inr (11, [.ref (kad G 1), .ref (kad G 32), .ref (kad G 3), .ref (kad G 37), vI sv, .ref (kad G 44), .ref (kad G 10), .ref (kad G 116), .ref (kad G 129), .ref (kad G 132)]) := (hf5 0 (by omega)).trans h_2
  have hB_10 : kLog G w5 3 g := hB_3.fr (fun j q1 q2 => (hf5 j (by omega)))
  have hB_11 : kPlan G w5 32 g nl := hB_4.fr (fun j q1 q2 => (hf5 j (by omega)))
  refine k_callV hC (n_X11_crossing l hls G hN w5 (fl ++ [(x_6, rA G 6 2 (va_up (va_up (fun _ => none) 0 (some x_7)) 1 (some x_8))), (x_7, iA G 2 (kup (kup (fun _ => 0) 0 (a : Int)) 1 (d : Int))), (x_8, iA G 2 (kup (kup (fun _ => 0) 0 (b : Int)) 1 (d : Int)))]) g nl sv (a : Int) (d : Int) T 0 (by omega) (by omega) (by omega) (by decide) hI h_9 hB_10 hB_11 hCt5 (by omega)) yy_X11_crossing wm_L_173 (kl hN (by decide)) h_9 rfl rfl rfl rfl (Nat.le_of_ble_eq_true rfl) (by decide) (by decide) ⟨by decide, by decide⟩ dL_isThin_101 (fun v12 w12 fl12 hp12 => ?_)
  obtain ⟨-, q1, q2, hp12⟩ := hp12
  subst q1
  subst q2
  obtain ⟨hCt12, hf12⟩ := hp12
  show KW p l e R s m args below meth c 16 G Q w12 (fl ++ [(x_6, rA G 6 2 (va_up (va_up (fun _ => none) 0 (some x_7)) 1 (some x_8))), (x_7, iA G 2 (kup (kup (fun _ => 0) 0 (a : Int)) 1 (d : Int))), (x_8, iA G 2 (kup (kup (fun _ => 0) 0 (b : Int)) 1 (d : Int)))]) 3 6 104 [(15, .ref x_7), (14, vI 0), (13, vI 2), (12, .ref x_6), (11, .ref x_6), (9, vL 0), (7, vL (cN g a b T)), (5, vL (cE g a b T)), (0, .ref (kad G 0)), (1, vI (a : Int)), (2, vI (b : Int)), (3, vI (d : Int)), (4, vI T)] [vI (crsV g (a : Int).toNat (d : Int).toNat T 0), vL 0]
  refine k_topv (vI (crsV g a d T 0)) rfl ?_
  refine k_topv (vI (cE g a d T)) (congrArg vI (crs_E T hok.2.1)) ?_
  refine k_i2l hC dL_isThin_104 (by omega) ?_
  refine k_lload hC dL_isThin_105 7 rfl ?_
  refine k_lsub hC dL_isThin_107 ?_
  refine k_mabsL hC wm_L_170 wmath_mabsL (by omega) (by decide) (Nat.le_of_ble_eq_true rfl) ⟨by decide, by decide⟩ dL_isThin_108 ?_
  refine k_aload_n hC dL_isThin_111 rfl 8 rfl ?_
  refine k_aload hC dL_isThin_112 0 rfl ?_
  refine k_iconst hC dL_isThin_114 ?_
  refine k_ialdL hC (n := 2) (f := (kup (kup (fun _ => 0) 0 (a : Int)) 1 (d : Int))) 1 rfl (by decide) (by decide) dL_isThin_115 ?_
  refine k_topv (vI (a : Int)) rfl ?_
  refine k_aload hC dL_isThin_116 0 rfl ?_
  refine k_iconst hC dL_isThin_118 ?_
  refine k_ialdL hC (n := 2) (f := (kup (kup (fun _ => 0) 0 (a : Int)) 1 (d : Int))) 1 rfl (by decide) (by decide) dL_isThin_119 ?_
  refine k_topv (vI (d : Int)) rfl ?_
  refine k_iload hC dL_isThin_120 12 rfl ?_
  refine k_iconst hC dL_isThin_122 ?_
  have h_13 : w12 0 = .inr (11, [.ref (kad G 1), .ref (kad G 32), .ref (kad G 3), .ref (kad G 37), vI sv, .ref (kad G 44), .ref (kad G 10), .ref (kad G 116), .ref (kad G 129), .ref (kad G 132)]) := (hf12 0 (by omega)).trans h_9
  have hB_14 : kLog G w12 3 g := hB_10.fr (fun j q1 q2 => (hf12 j (by omega)))
  have hB_15 : kPlan G w12 32 g nl := hB_11.fr (fun j q1 q2 => (hf12 j (by omega)))
  refine k_callV hC (n_X11_crossing l hls G hN w12 (fl ++ [(x_6, rA G 6 2 (va_up (va_up (fun _ => none) 0 (some x_7)) 1 (some x_8))), (x_7, iA G 2 (kup (kup (fun _ => 0) 0 (a : Int)) 1 (d : Int))), (x_8, iA G 2 (kup (kup (fun _ => 0) 0 (b : Int)) 1 (d : Int)))]) g nl sv (a : Int) (d : Int) T 1 (by omega) (by omega) (by omega) (by decide) hI h_13 hB_14 hB_15 hCt12 (by omega)) yy_X11_crossing wm_L_173 (kl hN (by decide)) h_13 rfl rfl rfl rfl (Nat.le_of_ble_eq_true rfl) (by decide) (by decide) ⟨by decide, by decide⟩ dL_isThin_123 (fun v16 w16 fl16 hp16 => ?_)
  obtain ⟨-, q1, q2, hp16⟩ := hp16
  subst q1
  subst q2
  obtain ⟨hCt16, hf16⟩ := hp16
  show KW p l e R s m args below meth c 16 G Q w16 (fl ++ [(x_6, rA G 6 2 (va_up (va_up (fun _ => none) 0 (some x_7)) 1 (some x_8))), (x_7, iA G 2 (kup (kup (fun _ => 0) 0 (a : Int)) 1 (d : Int))), (x_8, iA G 2 (kup (kup (fun _ => 0) 0 (b : Int)) 1 (d : Int)))]) 3 6 126 [(15, .ref x_7), (14, vI 0), (13, vI 2), (12, .ref x_6), (11, .ref x_6), (9, vL 0), (7, vL (cN g a b T)), (5, vL (cE g a b T)), (0, .ref (kad G 0)), (1, vI (a : Int)), (2, vI (b : Int)), (3, vI (d : Int)), (4, vI T)] [vI (crsV g (a : Int).toNat (d : Int).toNat T 1), vL (((cE g a d T) - (cE g a b T)).natAbs : Int), vL 0]
  refine k_topv (vI (crsV g a d T 1)) rfl ?_
  refine k_topv (vI (cN g a d T)) (congrArg vI (crs_N T hok.2.1)) ?_
  refine k_i2l hC dL_isThin_126 (by omega) ?_
  refine k_lload hC dL_isThin_127 6 rfl ?_
  refine k_lsub hC dL_isThin_129 ?_
  refine k_mabsL hC wm_L_170 wmath_mabsL (by omega) (by decide) (Nat.le_of_ble_eq_true rfl) ⟨by decide, by decide⟩ dL_isThin_130 ?_
  refine k_ladd hC dL_isThin_133 ?_
  refine k_mmaxL hC wm_L_201 wmath_mmaxL (by omega) (by omega) (by decide) (Nat.le_of_ble_eq_true rfl) ⟨by decide, by decide⟩ dL_isThin_134 ?_
  refine k_lstore hC [(9, vL (max 0 ((((cE g a d T) - (cE g a b T)).natAbs : Int) + (((cN g a d T) - (cN g a b T)).natAbs : Int)))), (15, .ref x_7), (14, vI 0), (13, vI 2), (12, .ref x_6), (11, .ref x_6), (7, vL (cN g a b T)), (5, vL (cE g a b T)), (0, .ref (kad G 0)), (1, vI (a : Int)), (2, vI (b : Int)), (3, vI (d : Int)), (4, vI T)] dL_isThin_137 (by decide) rfl ?_
  refine k_iinc hC (y := 1) [(14, vI 1), (9, vL (max 0 ((((cE g a d T) - (cE g a b T)).natAbs : Int) + (((cN g a d T) - (cN g a b T)).natAbs : Int)))), (15, .ref x_7), (13, vI 2), (12, .ref x_6), (11, .ref x_6), (7, vL (cN g a b T)), (5, vL (cE g a b T)), (0, .ref (kad G 0)), (1, vI (a : Int)), (2, vI (b : Int)), (3, vI (d : Int)), (4, vI T)] (j := 2) dL_isThin_139 rfl (by decide) (by decide) rfl ?_
  refine k_goto hC 73 dL_isThin_142 rfl ?_
  refine k_iload hC dL_isThin_73 0 rfl ?_
  refine k_iload hC dL_isThin_75 3 rfl ?_
  refine k_icmp_ge hC 145 dL_isThin_77 rfl (by omega) (by omega) (fun c_77 => absurd c_77 (by omega)) (fun c_77 => ?_)
  refine k_aload hC dL_isThin_80 4 rfl ?_
  refine k_iload hC dL_isThin_82 0 rfl ?_
  refine k_aaldL hC (n := 2) (f := (va_up (va_up (fun _ => none) 0 (some x_7)) 1 (some x_8))) (v := .ref x_8) 0 rfl (by decide) (by decide) rfl dL_isThin_84 ?_
  refine k_astore hC [(15, .ref x_8), (14, vI 1), (9, vL (max 0 ((((cE g a d T) - (cE g a b T)).natAbs : Int) + (((cN g a d T) - (cN g a b T)).natAbs : Int)))), (13, vI 2), (12, .ref x_6), (11, .ref x_6), (7, vL (cN g a b T)), (5, vL (cE g a b T)), (0, .ref (kad G 0)), (1, vI (a : Int)), (2, vI (b : Int)), (3, vI (d : Int)), (4, vI T)] dL_isThin_85 (by decide) rfl ?_
  refine k_lload hC dL_isThin_87 2 rfl ?_
  refine k_aload_n hC dL_isThin_89 rfl 8 rfl ?_
  refine k_aload hC dL_isThin_90 0 rfl ?_
  refine k_iconst hC dL_isThin_92 ?_
  refine k_ialdL hC (n := 2) (f := (kup (kup (fun _ => 0) 0 (b : Int)) 1 (d : Int))) 2 rfl (by decide) (by decide) dL_isThin_93 ?_
  refine k_topv (vI (b : Int)) rfl ?_
  refine k_aload hC dL_isThin_94 0 rfl ?_
  refine k_iconst hC dL_isThin_96 ?_
  refine k_ialdL hC (n := 2) (f := (kup (kup (fun _ => 0) 0 (b : Int)) 1 (d : Int))) 2 rfl (by decide) (by decide) dL_isThin_97 ?_
  refine k_topv (vI (d : Int)) rfl ?_
  refine k_iload hC dL_isThin_98 12 rfl ?_
  refine k_iconst hC dL_isThin_100 ?_
  have h_17 : w16 0 = .inr (11, [.ref (kad G 1), .ref (kad G 32), .ref (kad G 3), .ref (kad G 37), vI sv, .ref (kad G 44), .ref (kad G 10), .ref (kad G 116), .ref (kad G 129), .ref (kad G 132)]) := (hf16 0 (by omega)).trans h_13
  have hB_18 : kLog G w16 3 g := hB_14.fr (fun j q1 q2 => (hf16 j (by omega)))
  have hB_19 : kPlan G w16 32 g nl := hB_15.fr (fun j q1 q2 => (hf16 j (by omega)))
  refine k_callV hC (n_X11_crossing l hls G hN w16 (fl ++ [(x_6, rA G 6 2 (va_up (va_up (fun _ => none) 0 (some x_7)) 1 (some x_8))), (x_7, iA G 2 (kup (kup (fun _ => 0) 0 (a : Int)) 1 (d : Int))), (x_8, iA G 2 (kup (kup (fun _ => 0) 0 (b : Int)) 1 (d : Int)))]) g nl sv (b : Int) (d : Int) T 0 (by omega) (by omega) (by omega) (by decide) hI h_17 hB_18 hB_19 hCt16 (by omega)) yy_X11_crossing wm_L_173 (kl hN (by decide)) h_17 rfl rfl rfl rfl (Nat.le_of_ble_eq_true rfl) (by decide) (by decide) ⟨by decide, by decide⟩ dL_isThin_101 (fun v20 w20 fl20 hp20 => ?_)
  obtain ⟨-, q1, q2, hp20⟩ := hp20
  subst q1
  subst q2
  obtain ⟨hCt20, hf20⟩ := hp20
  show KW p l e R s m args below meth c 16 G Q w20 (fl ++ [(x_6, rA G 6 2 (va_up (va_up (fun _ => none) 0 (some x_7)) 1 (some x_8))), (x_7, iA G 2 (kup (kup (fun _ => 0) 0 (a : Int)) 1 (d : Int))), (x_8, iA G 2 (kup (kup (fun _ => 0) 0 (b : Int)) 1 (d : Int)))]) 3 6 104 [(15, .ref x_8), (14, vI 1), (9, vL (max 0 ((((cE g a d T) - (cE g a b T)).natAbs : Int) + (((cN g a d T) - (cN g a b T)).natAbs : Int)))), (13, vI 2), (12, .ref x_6), (11, .ref x_6), (7, vL (cN g a b T)), (5, vL (cE g a b T)), (0, .ref (kad G 0)), (1, vI (a : Int)), (2, vI (b : Int)), (3, vI (d : Int)), (4, vI T)] [vI (crsV g (b : Int).toNat (d : Int).toNat T 0), vL (max 0 ((((cE g a d T) - (cE g a b T)).natAbs : Int) + (((cN g a d T) - (cN g a b T)).natAbs : Int)))]
  refine k_topv (vI (crsV g b d T 0)) rfl ?_
  refine k_topv (vI (cE g b d T)) (congrArg vI (crs_E T hok.2.2)) ?_
  refine k_i2l hC dL_isThin_104 (by omega) ?_
  refine k_lload hC dL_isThin_105 7 rfl ?_
  refine k_lsub hC dL_isThin_107 ?_
  refine k_mabsL hC wm_L_170 wmath_mabsL (by omega) (by decide) (Nat.le_of_ble_eq_true rfl) ⟨by decide, by decide⟩ dL_isThin_108 ?_
  refine k_aload_n hC dL_isThin_111 rfl 8 rfl ?_
  refine k_aload hC dL_isThin_112 0 rfl ?_
  refine k_iconst hC dL_isThin_114 ?_
  refine k_ialdL hC (n := 2) (f := (kup (kup (fun _ => 0) 0 (b : Int)) 1 (d : Int))) 2 rfl (by decide) (by decide) dL_isThin_115 ?_
  refine k_topv (vI (b : Int)) rfl ?_
  refine k_aload hC dL_isThin_116 0 rfl ?_
  refine k_iconst hC dL_isThin_118 ?_
  refine k_ialdL hC (n := 2) (f := (kup (kup (fun _ => 0) 0 (b : Int)) 1 (d : Int))) 2 rfl (by decide) (by decide) dL_isThin_119 ?_
  refine k_topv (vI (d : Int)) rfl ?_
  refine k_iload hC dL_isThin_120 12 rfl ?_
  refine k_iconst hC dL_isThin_122 ?_
  have h_21 : w20 0 = .inr (11, [.ref (kad G 1), .ref (kad G 32), .ref (kad G 3), .ref (kad G 37), vI sv, .ref (kad G 44), .ref (kad G 10), .ref (kad G 116), .ref (kad G 129), .ref (kad G 132)]) := (hf20 0 (by omega)).trans h_17
  have hB_22 : kLog G w20 3 g := hB_18.fr (fun j q1 q2 => (hf20 j (by omega)))
  have hB_23 : kPlan G w20 32 g nl := hB_19.fr (fun j q1 q2 => (hf20 j (by omega)))
  refine k_callV hC (n_X11_crossing l hls G hN w20 (fl ++ [(x_6, rA G 6 2 (va_up (va_up (fun _ => none) 0 (some x_7)) 1 (some x_8))), (x_7, iA G 2 (kup (kup (fun _ => 0) 0 (a : Int)) 1 (d : Int))), (x_8, iA G 2 (kup (kup (fun _ => 0) 0 (b : Int)) 1 (d : Int)))]) g nl sv (b : Int) (d : Int) T 1 (by omega) (by omega) (by omega) (by decide) hI h_21 hB_22 hB_23 hCt20 (by omega)) yy_X11_crossing wm_L_173 (kl hN (by decide)) h_21 rfl rfl rfl rfl (Nat.le_of_ble_eq_true rfl) (by decide) (by decide) ⟨by decide, by decide⟩ dL_isThin_123 (fun v24 w24 fl24 hp24 => ?_)
  obtain ⟨-, q1, q2, hp24⟩ := hp24
  subst q1
  subst q2
  obtain ⟨hCt24, hf24⟩ := hp24
  show KW p l e R s m args below meth c 16 G Q w24 (fl ++ [(x_6, rA G 6 2 (va_up (va_up (fun _ => none) 0 (some x_7)) 1 (some x_8))), (x_7, iA G 2 (kup (kup (fun _ => 0) 0 (a : Int)) 1 (d : Int))), (x_8, iA G 2 (kup (kup (fun _ => 0) 0 (b : Int)) 1 (d : Int)))]) 3 6 126 [(15, .ref x_8), (14, vI 1), (9, vL (max 0 ((((cE g a d T) - (cE g a b T)).natAbs : Int) + (((cN g a d T) - (cN g a b T)).natAbs : Int)))), (13, vI 2), (12, .ref x_6), (11, .ref x_6), (7, vL (cN g a b T)), (5, vL (cE g a b T)), (0, .ref (kad G 0)), (1, vI (a : Int)), (2, vI (b : Int)), (3, vI (d : Int)), (4, vI T)] [vI (crsV g (b : Int).toNat (d : Int).toNat T 1), vL (((cE g b d T) - (cE g a b T)).natAbs : Int), vL (max 0 ((((cE g a d T) - (cE g a b T)).natAbs : Int) + (((cN g a d T) - (cN g a b T)).natAbs : Int)))]
  refine k_topv (vI (crsV g b d T 1)) rfl ?_
  refine k_topv (vI (cN g b d T)) (congrArg vI (crs_N T hok.2.2)) ?_
  refine k_i2l hC dL_isThin_126 (by omega) ?_
  refine k_lload hC dL_isThin_127 6 rfl ?_
  refine k_lsub hC dL_isThin_129 ?_
  refine k_mabsL hC wm_L_170 wmath_mabsL (by omega) (by decide) (Nat.le_of_ble_eq_true rfl) ⟨by decide, by decide⟩ dL_isThin_130 ?_
  refine k_ladd hC dL_isThin_133 ?_
  refine k_mmaxL hC wm_L_201 wmath_mmaxL (by omega) (by omega) (by decide) (Nat.le_of_ble_eq_true rfl) ⟨by decide, by decide⟩ dL_isThin_134 ?_
  refine k_lstore hC [(9, vL (max (max 0 ((((cE g a d T) - (cE g a b T)).natAbs : Int) + (((cN g a d T) - (cN g a b T)).natAbs : Int))) ((((cE g b d T) - (cE g a b T)).natAbs : Int) + (((cN g b d T) - (cN g a b T)).natAbs : Int)))), (15, .ref x_8), (14, vI 1), (13, vI 2), (12, .ref x_6), (11, .ref x_6), (7, vL (cN g a b T)), (5, vL (cE g a b T)), (0, .ref (kad G 0)), (1, vI (a : Int)), (2, vI (b : Int)), (3, vI (d : Int)), (4, vI T)] dL_isThin_137 (by decide) rfl ?_
  refine k_iinc hC (y := 2) [(14, vI 2), (9, vL (max (max 0 ((((cE g a d T) - (cE g a b T)).natAbs : Int) + (((cN g a d T) - (cN g a b T)).natAbs : Int))) ((((cE g b d T) - (cE g a b T)).natAbs : Int) + (((cN g b d T) - (cN g a b T)).natAbs : Int)))), (15, .ref x_8), (13, vI 2), (12, .ref x_6), (11, .ref x_6), (7, vL (cN g a b T)), (5, vL (cE g a b T)), (0, .ref (kad G 0)), (1, vI (a : Int)), (2, vI (b : Int)), (3, vI (d : Int)), (4, vI T)] (j := 2) dL_isThin_139 rfl (by decide) (by decide) rfl ?_
  refine k_goto hC 73 dL_isThin_142 rfl ?_
  refine k_iload hC dL_isThin_73 0 rfl ?_
  refine k_iload hC dL_isThin_75 3 rfl ?_
  refine k_icmp_ge hC 145 dL_isThin_77 rfl (by omega) (by omega) (fun c_77 => ?_) (fun c_77 => absurd c_77 (by omega))
  refine k_ldc2 hC (x := 20000) (v := 20000) dL_isThin_145 (by decide) wk_L_204 ?_
  refine k_aload_n hC dL_isThin_148 rfl 8 rfl ?_
  refine k_iload_n hC dL_isThin_149 rfl 9 rfl ?_
  refine k_iload_n hC dL_isThin_150 rfl 10 rfl ?_
  refine k_iload_n hC dL_isThin_151 rfl 11 rfl ?_
  refine k_iload hC dL_isThin_152 12 rfl ?_
  refine k_iconst hC dL_isThin_154 ?_
  have h_25 : w24 0 = .inr (11, [.ref (kad G 1), .ref (kad G 32), .ref (kad G 3), .ref (kad G 37), vI sv, .ref (kad G 44), .ref (kad G 10), .ref (kad G 116), .ref (kad G 129), .ref (kad G 132)]) := (hf24 0 (by omega)).trans h_21
  have hB_26 : kLog G w24 3 g := hB_22.fr (fun j q1 q2 => (hf24 j (by omega)))
  have hB_27 : kPlan G w24 32 g nl := hB_23.fr (fun j q1 q2 => (hf24 j (by omega)))
  refine k_callV hC (n_X11_hat l hls G hN w24 (fl ++ [(x_6, rA G 6 2 (va_up (va_up (fun _ => none) 0 (some x_7)) 1 (some x_8))), (x_7, iA G 2 (kup (kup (fun _ => 0) 0 (a : Int)) 1 (d : Int))), (x_8, iA G 2 (kup (kup (fun _ => 0) 0 (b : Int)) 1 (d : Int)))]) g nl sv (a : Int) (b : Int) (d : Int) T 0 (by omega) (by omega) (by omega) (by omega) (by omega) hI h_25 hB_26 hB_27 hCt24 (by omega)) yy_X11_hat wm_L_188 (kl hN (by decide)) h_25 rfl rfl rfl rfl (Nat.le_of_ble_eq_true rfl) (by decide) (by decide) ⟨by decide, by decide⟩ dL_isThin_155 (fun v28 w28 fl28 hp28 => ?_)
  obtain ⟨-, q1, q2, hp28⟩ := hp28
  subst q1
  subst q2
  obtain ⟨hCt28, hf28⟩ := hp28
  show KW p l e R s m args below meth c 16 G Q w28 (fl ++ [(x_6, rA G 6 2 (va_up (va_up (fun _ => none) 0 (some x_7)) 1 (some x_8))), (x_7, iA G 2 (kup (kup (fun _ => 0) 0 (a : Int)) 1 (d : Int))), (x_8, iA G 2 (kup (kup (fun _ => 0) 0 (b : Int)) 1 (d : Int)))]) 3 6 158 [(14, vI 2), (9, vL (max (max 0 ((((cE g a d T) - (cE g a b T)).natAbs : Int) + (((cN g a d T) - (cN g a b T)).natAbs : Int))) ((((cE g b d T) - (cE g a b T)).natAbs : Int) + (((cN g b d T) - (cN g a b T)).natAbs : Int)))), (15, .ref x_8), (13, vI 2), (12, .ref x_6), (11, .ref x_6), (7, vL (cN g a b T)), (5, vL (cE g a b T)), (0, .ref (kad G 0)), (1, vI (a : Int)), (2, vI (b : Int)), (3, vI (d : Int)), (4, vI T)] [vI (hatV g (a : Int).toNat (b : Int).toNat (d : Int).toNat T 0), vL 20000]
  refine k_topv (vI (hatV g a b d T 0)) rfl ?_
  refine k_topv (vI (hatA g a b d T)) (congrArg vI (hat_0 T hok)) ?_
  refine k_i2l hC dL_isThin_158 (by omega) ?_
  refine k_lmul hC dL_isThin_159 ?_
  refine k_ldc2 hC (x := 100) (v := 100) dL_isThin_160 (by decide) wk_L_206 ?_
  refine k_lload hC dL_isThin_163 1 rfl ?_
  refine k_lmul hC dL_isThin_165 ?_
  refine k_lcmp_ge hC 174 dL_isThin_166 dL_isThin_167 rfl (by omega) (by omega) (fun c_166 => ?_) (fun c_166 => ?_)
  · refine k_iconst hC dL_isThin_174 ?_
    refine k_flend ?_
    subst hQ
    exact k_zret hC (by omega) hr ⟨by decide, by decide⟩ (⟨0, rfl, rfl, Or.inl rfl, fun _ => (by unfold thinF; omega), ⟨hCt28, fun j hj => (hf28 j (by omega)).trans ((hf24 j (by omega)).trans ((hf20 j (by omega)).trans ((hf16 j (by omega)).trans ((hf12 j (by omega)).trans ((hf5 j (by omega)).trans (hf1 j (by omega)))))))⟩⟩) dL_isThin_175
  · refine k_iconst hC dL_isThin_170 ?_
    refine k_goto hC 175 dL_isThin_171 rfl ?_
    refine k_flend ?_
    subst hQ
    exact k_zret hC (by omega) hr ⟨by decide, by decide⟩ (⟨1, rfl, rfl, Or.inr rfl, fun h => absurd h (by decide), ⟨hCt28, fun j hj => (hf28 j (by omega)).trans ((hf24 j (by omega)).trans ((hf20 j (by omega)).trans ((hf16 j (by omega)).trans ((hf12 j (by omega)).trans ((hf5 j (by omega)).trans (hf1 j (by omega)))))))⟩⟩) dL_isThin_175

set_option maxRecDepth 100000 in
set_option maxHeartbeats 4000000 in
theorem c_L_areHats (l : Launch) (hls : l.stackTraces = false) (G : kG) (hN : 133 ≤ kN G) (w : Nat → va_E) (fl : va_W) (g nl : Nat → Int) (sv : Int) (v : Int) (hI : Inv g) (h00 : w 0 = srO G sv) (hL : kLog G w 3 g) (hP : kPlan G w 32 g nl) (hCt : kCht G w) : KM l G yL_areHats cL_areHats 18 (some (FieldType.boolean)) 9 3 6 [.ref (kad G 0), vI v] w fl (kOk True (vI 1) fl (kCP G w)) := by
  refine KM_of2 hls (by decide +kernel) rfl (lv0 := [(0, .ref (kad G 0)), (1, vI v)]) rfl (Nat.le_of_ble_eq_true rfl) (fun p e R s m args below meth c Q hC hr hQ => ?_)
  have h0 := hI.c
  refine k_aload_n hC dL_areHats_0 rfl 0 rfl ?_
  refine k_iconst hC dL_areHats_1 ?_
  refine k_callV hC (n_X11_told l hls G hN w fl g nl sv 2 (by omega) hI h00 hL hP hCt (by omega)) yy_X11_told wm_L_126 (kl hN (by decide)) h00 rfl rfl rfl rfl (Nat.le_of_ble_eq_true rfl) (by decide) (by decide) ⟨by decide, by decide⟩ dL_areHats_2 (fun v1 w1 fl1 hp1 => ?_)
  obtain ⟨-, q1, q2, hp1⟩ := hp1
  subst q1
  subst q2
  obtain ⟨hCt1, hf1⟩ := hp1
  show KW p l e R s m args below meth c 18 G Q w1 fl 0 0 5 [(0, .ref (kad G 0)), (1, vI v)] [vI (g (2 : Int).toNat)]
  refine k_topv (vI (g 2)) rfl ?_
  refine k_istore_n hC [(2, vI (g 2)), (0, .ref (kad G 0)), (1, vI v)] dL_areHats_5 rfl (by decide) rfl ?_
  refine k_iload_n hC dL_areHats_6 rfl 2 rfl ?_
  refine k_iconst hC dL_areHats_7 ?_
  refine k_ishrA hC dL_areHats_8 (fun y_2 hy_2 => ?_)
  refine k_sipush hC dL_areHats_9 (by decide) ?_
  refine k_callS hC (c_L_most l hls G hN w1 fl y_2 1500 (by omega)) yy_L_most wm_L_27 rfl rfl (Nat.le_of_ble_eq_true rfl) (by decide) (by decide) ⟨by decide, by decide⟩ dL_areHats_12 (fun v3 w3 fl3 hp3 => ?_)
  obtain ⟨r3, hr3, hs3, q1, q2, q3⟩ := hp3
  subst q1
  subst q2
  subst q3
  show KW p l e R s m args below meth c 18 G Q w1 fl 0 0 15 [(2, vI (g 2)), (0, .ref (kad G 0)), (1, vI v)] [vI r3]
  refine k_istore_n hC [(3, vI r3), (2, vI (g 2)), (0, .ref (kad G 0)), (1, vI v)] dL_areHats_15 rfl (by decide) rfl ?_
  refine k_iload_n hC dL_areHats_16 rfl 1 rfl ?_
  refine k_iconst hC dL_areHats_17 ?_
  refine k_icmp_ge hC 36 dL_areHats_18 rfl (by omega) (by omega) (fun c_18 => ?_) (fun c_18 => ?_)
  · have hlo := least_ok g r3 (g 2).toNat rfl
    refine k_aload_n hC dL_areHats_36 rfl 2 rfl ?_
    refine k_iload_n hC dL_areHats_37 rfl 0 rfl ?_
    have h_4 : w1 0 = .inr (11, [.ref (kad G 1), .ref (kad G 32), .ref (kad G 3), .ref (kad G 37), vI sv, .ref (kad G 44), .ref (kad G 10), .ref (kad G 116), .ref (kad G 129), .ref (kad G 132)]) := (hf1 0 (by omega)).trans h00
    have hB_5 : kLog G w1 3 g := hL.fr (fun j q1 q2 => (hf1 j (by omega)))
    have hB_6 : kPlan G w1 32 g nl := hP.fr (fun j q1 q2 => (hf1 j (by omega)))
    refine k_callV hC (n_X11_smallestHat l hls G hN w1 fl g nl sv r3 (by omega) hI h_4 hB_5 hB_6 hCt1 (by omega)) yy_X11_smallestHat wm_L_185 (kl hN (by decide)) h_4 rfl rfl rfl rfl (Nat.le_of_ble_eq_true rfl) (by decide) (by decide) ⟨by decide, by decide⟩ dL_areHats_38 (fun v7 w7 fl7 hp7 => ?_)
    obtain ⟨-, q1, q2, hp7⟩ := hp7
    subst q1
    subst q2
    obtain ⟨hCt7, hf7⟩ := hp7
    show KW p l e R s m args below meth c 18 G Q w7 fl 0 0 41 [(3, vI r3), (2, vI (g 2)), (0, .ref (kad G 0)), (1, vI v)] [vI (leastM g r3)]
    refine k_topI (fun best ebest => ?_)
    have hbb : -1 ≤ best ∧ best ≤ 200000 := by rw [ebest]; exact leastM_b hI _
    refine k_istore hC [(4, vI best), (3, vI r3), (2, vI (g 2)), (0, .ref (kad G 0)), (1, vI v)] dL_areHats_41 (by decide) rfl ?_
    refine k_iload hC dL_areHats_43 0 rfl ?_
    refine k_if_ge hC 50 dL_areHats_45 rfl (by omega) (fun c_45 => ?_) (fun c_45 => ?_)
    · obtain ⟨a, b, d, hab, hbd, hdn, hok, hbe, hmin⟩ := hlo.resolve_left (by omega)
      have he0 := cE_b g a b r3
      have hn0 := cN_b g a b r3
      have he1 := cE_b g a d r3
      have hn1 := cN_b g a d r3
      have he2 := cE_b g b d r3
      have hn2 := cN_b g b d r3
      have hA9 := hatA_b g a b d r3
      refine k_iload hC dL_areHats_50 0 rfl ?_
      refine k_sipush hC dL_areHats_52 (by decide) ?_
      refine k_idiv hC dL_areHats_55 (by omega) (by omega) ?_
      refine k_topv (vI ((a : Int))) (congrArg vI (by rw [Int.tdiv_eq_ediv_of_nonneg (by omega)]; omega)) ?_
      refine k_istore hC [(5, vI (a : Int)), (4, vI best), (3, vI r3), (2, vI (g 2)), (0, .ref (kad G 0)), (1, vI v)] dL_areHats_56 (by decide) rfl ?_
      refine k_iload hC dL_areHats_58 1 rfl ?_
      refine k_bipush hC dL_areHats_60 (by decide) ?_
      refine k_idiv hC dL_areHats_62 (by omega) (by omega) ?_
      refine k_topv (vI (best / 100)) (congrArg vI (Int.tdiv_eq_ediv_of_nonneg (by omega))) ?_
      refine k_bipush hC dL_areHats_63 (by decide) ?_
      refine k_irem hC dL_areHats_65 (by omega) (by omega) ?_
      refine k_topv (vI ((b : Int))) (congrArg vI (by rw [Int.tmod_eq_emod_of_nonneg (by omega)]; omega)) ?_
      refine k_istore hC [(6, vI (b : Int)), (5, vI (a : Int)), (4, vI best), (3, vI r3), (2, vI (g 2)), (0, .ref (kad G 0)), (1, vI v)] dL_areHats_66 (by decide) rfl ?_
      refine k_iload hC dL_areHats_68 2 rfl ?_
      refine k_bipush hC dL_areHats_70 (by decide) ?_
      refine k_irem hC dL_areHats_72 (by omega) (by omega) ?_
      refine k_topv (vI ((d : Int))) (congrArg vI (by rw [Int.tmod_eq_emod_of_nonneg (by omega)]; omega)) ?_
      refine k_istore hC [(7, vI (d : Int)), (6, vI (b : Int)), (5, vI (a : Int)), (4, vI best), (3, vI r3), (2, vI (g 2)), (0, .ref (kad G 0)), (1, vI v)] dL_areHats_73 (by decide) rfl ?_
      refine k_aload_n hC dL_areHats_75 rfl 6 rfl ?_
      refine k_iload hC dL_areHats_76 2 rfl ?_
      refine k_iload hC dL_areHats_78 1 rfl ?_
      refine k_iload hC dL_areHats_80 0 rfl ?_
      refine k_iload_n hC dL_areHats_82 rfl 4 rfl ?_
      refine k_iconst hC dL_areHats_83 ?_
      have h_8 : w7 0 = .inr (11, [.ref (kad G 1), .ref (kad G 32), .ref (kad G 3), .ref (kad G 37), vI sv, .ref (kad G 44), .ref (kad G 10), .ref (kad G 116), .ref (kad G 129), .ref (kad G 132)]) := (hf7 0 (by omega)).trans h_4
      have hB_9 : kLog G w7 3 g := hB_5.fr (fun j q1 q2 => (hf7 j (by omega)))
      have hB_10 : kPlan G w7 32 g nl := hB_6.fr (fun j q1 q2 => (hf7 j (by omega)))
      refine k_callV hC (n_X11_hat l hls G hN w7 fl g nl sv (a : Int) (b : Int) (d : Int) r3 0 (by omega) (by omega) (by omega) (by omega) (by omega) hI h_8 hB_9 hB_10 hCt7 (by omega)) yy_X11_hat wm_L_188 (kl hN (by decide)) h_8 rfl rfl rfl rfl (Nat.le_of_ble_eq_true rfl) (by decide) (by decide) ⟨by decide, by decide⟩ dL_areHats_84 (fun v11 w11 fl11 hp11 => ?_)
      obtain ⟨-, q1, q2, hp11⟩ := hp11
      subst q1
      subst q2
      obtain ⟨hCt11, hf11⟩ := hp11
      show KW p l e R s m args below meth c 18 G Q w11 fl 0 0 87 [(7, vI (d : Int)), (6, vI (b : Int)), (5, vI (a : Int)), (4, vI best), (3, vI r3), (2, vI (g 2)), (0, .ref (kad G 0)), (1, vI v)] [vI (hatV g (a : Int).toNat (b : Int).toNat (d : Int).toNat r3 0)]
      refine k_topv (vI (hatV g a b d r3 0)) rfl ?_
      refine k_topv (vI (hatA g a b d r3)) (congrArg vI (hat_0 _ hok)) ?_
      refine k_istore hC [(8, vI (hatA g a b d r3)), (7, vI (d : Int)), (6, vI (b : Int)), (5, vI (a : Int)), (4, vI best), (3, vI r3), (2, vI (g 2)), (0, .ref (kad G 0)), (1, vI v)] dL_areHats_87 (by decide) rfl ?_
      refine k_aload_n hC dL_areHats_89 rfl 7 rfl ?_
      refine k_iload hC dL_areHats_90 3 rfl ?_
      refine k_iload hC dL_areHats_92 2 rfl ?_
      refine k_iload hC dL_areHats_94 1 rfl ?_
      refine k_iload_n hC dL_areHats_96 rfl 5 rfl ?_
      refine k_iconst hC dL_areHats_97 ?_
      have h_12 : w11 0 = .inr (11, [.ref (kad G 1), .ref (kad G 32), .ref (kad G 3), .ref (kad G 37), vI sv, .ref (kad G 44), .ref (kad G 10), .ref (kad G 116), .ref (kad G 129), .ref (kad G 132)]) := (hf11 0 (by omega)).trans h_8
      have hB_13 : kLog G w11 3 g := hB_9.fr (fun j q1 q2 => (hf11 j (by omega)))
      have hB_14 : kPlan G w11 32 g nl := hB_10.fr (fun j q1 q2 => (hf11 j (by omega)))
      refine k_callV hC (n_X11_hat l hls G hN w11 fl g nl sv (a : Int) (b : Int) (d : Int) r3 1 (by omega) (by omega) (by omega) (by omega) (by omega) hI h_12 hB_13 hB_14 hCt11 (by omega)) yy_X11_hat wm_L_188 (kl hN (by decide)) h_12 rfl rfl rfl rfl (Nat.le_of_ble_eq_true rfl) (by decide) (by decide) ⟨by decide, by decide⟩ dL_areHats_98 (fun v15 w15 fl15 hp15 => ?_)
      obtain ⟨-, q1, q2, hp15⟩ := hp15
      subst q1
      subst q2
      obtain ⟨hCt15, hf15⟩ := hp15
      show KW p l e R s m args below meth c 18 G Q w15 fl 0 0 101 [(8, vI (hatA g a b d r3)), (7, vI (d : Int)), (6, vI (b : Int)), (5, vI (a : Int)), (4, vI best), (3, vI r3), (2, vI (g 2)), (0, .ref (kad G 0)), (1, vI v)] [vI (hatV g (a : Int).toNat (b : Int).toNat (d : Int).toNat r3 1)]
      refine k_topv (vI (hatV g a b d r3 1)) rfl ?_
      refine k_topv (vI ((cE g a b r3 + cE g a d r3 + cE g b d r3) / 3)) (congrArg vI (hat_1 _ hok)) ?_
      refine k_istore hC [(9, vI ((cE g a b r3 + cE g a d r3 + cE g b d r3) / 3)), (8, vI (hatA g a b d r3)), (7, vI (d : Int)), (6, vI (b : Int)), (5, vI (a : Int)), (4, vI best), (3, vI r3), (2, vI (g 2)), (0, .ref (kad G 0)), (1, vI v)] dL_areHats_101 (by decide) rfl ?_
      refine k_aload_n hC dL_areHats_103 rfl 8 rfl ?_
      refine k_iload hC dL_areHats_104 4 rfl ?_
      refine k_iload hC dL_areHats_106 3 rfl ?_
      refine k_iload hC dL_areHats_108 2 rfl ?_
      refine k_iload_n hC dL_areHats_110 rfl 6 rfl ?_
      refine k_iconst hC dL_areHats_111 ?_
      have h_16 : w15 0 = .inr (11, [.ref (kad G 1), .ref (kad G 32), .ref (kad G 3), .ref (kad G 37), vI sv, .ref (kad G 44), .ref (kad G 10), .ref (kad G 116), .ref (kad G 129), .ref (kad G 132)]) := (hf15 0 (by omega)).trans h_12
      have hB_17 : kLog G w15 3 g := hB_13.fr (fun j q1 q2 => (hf15 j (by omega)))
      have hB_18 : kPlan G w15 32 g nl := hB_14.fr (fun j q1 q2 => (hf15 j (by omega)))
      refine k_callV hC (n_X11_hat l hls G hN w15 fl g nl sv (a : Int) (b : Int) (d : Int) r3 2 (by omega) (by omega) (by omega) (by omega) (by omega) hI h_16 hB_17 hB_18 hCt15 (by omega)) yy_X11_hat wm_L_188 (kl hN (by decide)) h_16 rfl rfl rfl rfl (Nat.le_of_ble_eq_true rfl) (by decide) (by decide) ⟨by decide, by decide⟩ dL_areHats_112 (fun v19 w19 fl19 hp19 => ?_)
      obtain ⟨-, q1, q2, hp19⟩ := hp19
      subst q1
      subst q2
      obtain ⟨hCt19, hf19⟩ := hp19
      show KW p l e R s m args below meth c 18 G Q w19 fl 0 0 115 [(9, vI ((cE g a b r3 + cE g a d r3 + cE g b d r3) / 3)), (8, vI (hatA g a b d r3)), (7, vI (d : Int)), (6, vI (b : Int)), (5, vI (a : Int)), (4, vI best), (3, vI r3), (2, vI (g 2)), (0, .ref (kad G 0)), (1, vI v)] [vI (hatV g (a : Int).toNat (b : Int).toNat (d : Int).toNat r3 2)]
      refine k_topv (vI (hatV g a b d r3 2)) rfl ?_
      refine k_topv (vI ((cN g a b r3 + cN g a d r3 + cN g b d r3) / 3)) (congrArg vI (hat_2 _ hok)) ?_
      refine k_istore hC [(10, vI ((cN g a b r3 + cN g a d r3 + cN g b d r3) / 3)), (9, vI ((cE g a b r3 + cE g a d r3 + cE g b d r3) / 3)), (8, vI (hatA g a b d r3)), (7, vI (d : Int)), (6, vI (b : Int)), (5, vI (a : Int)), (4, vI best), (3, vI r3), (2, vI (g 2)), (0, .ref (kad G 0)), (1, vI v)] dL_areHats_115 (by decide) rfl ?_
      refine k_iload hC dL_areHats_117 2 rfl ?_
      refine k_if_lt hC 153 dL_areHats_119 rfl (by omega) (fun c_119 => absurd c_119 (by omega)) (fun c_119 => ?_)
      refine k_iload hC dL_areHats_122 5 rfl ?_
      refine k_iload hC dL_areHats_124 4 rfl ?_
      refine k_icmp_ge hC 153 dL_areHats_126 rfl (by omega) (by omega) (fun c_126 => absurd c_126 (by omega)) (fun c_126 => ?_)
      refine k_iload hC dL_areHats_129 4 rfl ?_
      refine k_iload hC dL_areHats_131 3 rfl ?_
      refine k_icmp_ge hC 153 dL_areHats_133 rfl (by omega) (by omega) (fun c_133 => absurd c_133 (by omega)) (fun c_133 => ?_)
      refine k_aload_n hC dL_areHats_136 rfl 9 rfl ?_
      refine k_iload hC dL_areHats_137 3 rfl ?_
      refine k_iload hC dL_areHats_139 5 rfl ?_
      refine k_iload hC dL_areHats_141 4 rfl ?_
      refine k_iload_n hC dL_areHats_143 rfl 7 rfl ?_
      refine k_iconst hC dL_areHats_144 ?_
      have h_20 : w19 0 = .inr (11, [.ref (kad G 1), .ref (kad G 32), .ref (kad G 3), .ref (kad G 37), vI sv, .ref (kad G 44), .ref (kad G 10), .ref (kad G 116), .ref (kad G 129), .ref (kad G 132)]) := (hf19 0 (by omega)).trans h_16
      have hB_21 : kLog G w19 3 g := hB_17.fr (fun j q1 q2 => (hf19 j (by omega)))
      have hB_22 : kPlan G w19 32 g nl := hB_18.fr (fun j q1 q2 => (hf19 j (by omega)))
      refine k_callV hC (n_X11_hat l hls G hN w19 fl g nl sv (d : Int) (a : Int) (b : Int) r3 0 (by omega) (by omega) (by omega) (by omega) (by omega) hI h_20 hB_21 hB_22 hCt19 (by omega)) yy_X11_hat wm_L_188 (kl hN (by decide)) h_20 rfl rfl rfl rfl (Nat.le_of_ble_eq_true rfl) (by decide) (by decide) ⟨by decide, by decide⟩ dL_areHats_145 (fun v23 w23 fl23 hp23 => ?_)
      obtain ⟨-, q1, q2, hp23⟩ := hp23
      subst q1
      subst q2
      obtain ⟨hCt23, hf23⟩ := hp23
      show KW p l e R s m args below meth c 18 G Q w23 fl 0 0 148 [(10, vI ((cN g a b r3 + cN g a d r3 + cN g b d r3) / 3)), (9, vI ((cE g a b r3 + cE g a d r3 + cE g b d r3) / 3)), (8, vI (hatA g a b d r3)), (7, vI (d : Int)), (6, vI (b : Int)), (5, vI (a : Int)), (4, vI best), (3, vI r3), (2, vI (g 2)), (0, .ref (kad G 0)), (1, vI v)] [vI (hatV g (d : Int).toNat (a : Int).toNat (b : Int).toNat r3 0)]
      refine k_topv (vI (hatV g d a b r3 0)) rfl ?_
      refine k_topv (vI (hatA g a b d r3)) (congrArg vI ((hat_0 _ (hat_cyc hok r3).1).trans (hat_cyc hok r3).2)) ?_
      refine k_iload hC dL_areHats_148 2 rfl ?_
      refine k_icmp_eq hC 155 dL_areHats_150 rfl (by omega) (by omega) (fun c_150 => ?_) (fun c_150 => absurd rfl c_150)
      refine k_iload_n hC dL_areHats_155 rfl 10 rfl ?_
      refine k_iconst hC dL_areHats_156 ?_
      refine k_ishrA hC dL_areHats_157 (fun y_24 hy_24 => ?_)
      refine k_iload_n hC dL_areHats_158 rfl 8 rfl ?_
      refine k_callS hC (c_L_most l hls G hN w23 fl y_24 (g 2) (by omega)) yy_L_most wm_L_27 rfl rfl (Nat.le_of_ble_eq_true rfl) (by decide) (by decide) ⟨by decide, by decide⟩ dL_areHats_159 (fun v25 w25 fl25 hp25 => ?_)
      obtain ⟨r25, hr25, hs25, q1, q2, q3⟩ := hp25
      subst q1
      subst q2
      subst q3
      show KW p l e R s m args below meth c 18 G Q w23 fl 0 0 162 [(10, vI ((cN g a b r3 + cN g a d r3 + cN g b d r3) / 3)), (9, vI ((cE g a b r3 + cE g a d r3 + cE g b d r3) / 3)), (8, vI (hatA g a b d r3)), (7, vI (d : Int)), (6, vI (b : Int)), (5, vI (a : Int)), (4, vI best), (3, vI r3), (2, vI (g 2)), (0, .ref (kad G 0)), (1, vI v)] [vI r25]
      refine k_istore hC [(11, vI r25), (10, vI ((cN g a b r3 + cN g a d r3 + cN g b d r3) / 3)), (9, vI ((cE g a b r3 + cE g a d r3 + cE g b d r3) / 3)), (8, vI (hatA g a b d r3)), (7, vI (d : Int)), (6, vI (b : Int)), (5, vI (a : Int)), (4, vI best), (3, vI r3), (2, vI (g 2)), (0, .ref (kad G 0)), (1, vI v)] dL_areHats_162 (by decide) rfl ?_
      refine k_iload_n hC dL_areHats_164 rfl 11 rfl ?_
      refine k_bipush hC dL_areHats_165 (by decide) ?_
      refine k_ishrA hC dL_areHats_167 (fun y_26 hy_26 => ?_)
      refine k_iload_n hC dL_areHats_168 rfl 9 rfl ?_
      refine k_callS hC (c_L_most l hls G hN w23 fl y_26 (g 2) (by omega)) yy_L_most wm_L_27 rfl rfl (Nat.le_of_ble_eq_true rfl) (by decide) (by decide) ⟨by decide, by decide⟩ dL_areHats_169 (fun v27 w27 fl27 hp27 => ?_)
      obtain ⟨r27, hr27, hs27, q1, q2, q3⟩ := hp27
      subst q1
      subst q2
      subst q3
      show KW p l e R s m args below meth c 18 G Q w23 fl 0 0 172 [(11, vI r25), (10, vI ((cN g a b r3 + cN g a d r3 + cN g b d r3) / 3)), (9, vI ((cE g a b r3 + cE g a d r3 + cE g b d r3) / 3)), (8, vI (hatA g a b d r3)), (7, vI (d : Int)), (6, vI (b : Int)), (5, vI (a : Int)), (4, vI best), (3, vI r3), (2, vI (g 2)), (0, .ref (kad G 0)), (1, vI v)] [vI r27]
      refine k_istore hC [(12, vI r27), (11, vI r25), (10, vI ((cN g a b r3 + cN g a d r3 + cN g b d r3) / 3)), (9, vI ((cE g a b r3 + cE g a d r3 + cE g b d r3) / 3)), (8, vI (hatA g a b d r3)), (7, vI (d : Int)), (6, vI (b : Int)), (5, vI (a : Int)), (4, vI best), (3, vI r3), (2, vI (g 2)), (0, .ref (kad G 0)), (1, vI v)] dL_areHats_172 (by decide) rfl ?_
      refine k_iload_n hC dL_areHats_174 rfl 12 rfl ?_
      refine k_bipush hC dL_areHats_175 (by decide) ?_
      refine k_ishrA hC dL_areHats_177 (fun y_28 hy_28 => ?_)
      refine k_iload_n hC dL_areHats_178 rfl 10 rfl ?_
      refine k_callS hC (c_L_most l hls G hN w23 fl y_28 (g 2) (by omega)) yy_L_most wm_L_27 rfl rfl (Nat.le_of_ble_eq_true rfl) (by decide) (by decide) ⟨by decide, by decide⟩ dL_areHats_179 (fun v29 w29 fl29 hp29 => ?_)
      obtain ⟨r29, hr29, hs29, q1, q2, q3⟩ := hp29
      subst q1
      subst q2
      subst q3
      show KW p l e R s m args below meth c 18 G Q w23 fl 0 0 182 [(12, vI r27), (11, vI r25), (10, vI ((cN g a b r3 + cN g a d r3 + cN g b d r3) / 3)), (9, vI ((cE g a b r3 + cE g a d r3 + cE g b d r3) / 3)), (8, vI (hatA g a b d r3)), (7, vI (d : Int)), (6, vI (b : Int)), (5, vI (a : Int)), (4, vI best), (3, vI r3), (2, vI (g 2)), (0, .ref (kad G 0)), (1, vI v)] [vI r29]
      refine k_istore hC [(13, vI r29), (12, vI r27), (11, vI r25), (10, vI ((cN g a b r3 + cN g a d r3 + cN g b d r3) / 3)), (9, vI ((cE g a b r3 + cE g a d r3 + cE g b d r3) / 3)), (8, vI (hatA g a b d r3)), (7, vI (d : Int)), (6, vI (b : Int)), (5, vI (a : Int)), (4, vI best), (3, vI r3), (2, vI (g 2)), (0, .ref (kad G 0)), (1, vI v)] dL_areHats_182 (by decide) rfl ?_
      refine k_aload_n hC dL_areHats_184 rfl 12 rfl ?_
      refine k_iload hC dL_areHats_185 2 rfl ?_
      refine k_iload hC dL_areHats_187 1 rfl ?_
      refine k_iload hC dL_areHats_189 0 rfl ?_
      refine k_iload_n hC dL_areHats_191 rfl 10 rfl ?_
      refine k_iconst hC dL_areHats_192 ?_
      have h_30 : w23 0 = .inr (11, [.ref (kad G 1), .ref (kad G 32), .ref (kad G 3), .ref (kad G 37), vI sv, .ref (kad G 44), .ref (kad G 10), .ref (kad G 116), .ref (kad G 129), .ref (kad G 132)]) := (hf23 0 (by omega)).trans h_20
      have hB_31 : kLog G w23 3 g := hB_21.fr (fun j q1 q2 => (hf23 j (by omega)))
      have hB_32 : kPlan G w23 32 g nl := hB_22.fr (fun j q1 q2 => (hf23 j (by omega)))
      refine k_callV hC (n_X11_hat l hls G hN w23 fl g nl sv r25 r27 r29 r3 0 (by omega) (by omega) (by omega) (by omega) (by omega) hI h_30 hB_31 hB_32 hCt23 (by omega)) yy_X11_hat wm_L_188 (kl hN (by decide)) h_30 rfl rfl rfl rfl (Nat.le_of_ble_eq_true rfl) (by decide) (by decide) ⟨by decide, by decide⟩ dL_areHats_193 (fun v33 w33 fl33 hp33 => ?_)
      obtain ⟨-, q1, q2, hp33⟩ := hp33
      subst q1
      subst q2
      obtain ⟨hCt33, hf33⟩ := hp33
      show KW p l e R s m args below meth c 18 G Q w33 fl 0 0 196 [(13, vI r29), (12, vI r27), (11, vI r25), (10, vI ((cN g a b r3 + cN g a d r3 + cN g b d r3) / 3)), (9, vI ((cE g a b r3 + cE g a d r3 + cE g b d r3) / 3)), (8, vI (hatA g a b d r3)), (7, vI (d : Int)), (6, vI (b : Int)), (5, vI (a : Int)), (4, vI best), (3, vI r3), (2, vI (g 2)), (0, .ref (kad G 0)), (1, vI v)] [vI (hatV g r25.toNat r27.toNat r29.toNat r3 0)]
      refine k_topI (fun oth eoth => ?_)
      have hob : -1000000000 ≤ oth ∧ oth ≤ 400000000 := by rw [eoth]; exact hatV_b _ _ _ _ _ _
      refine k_istore hC [(14, vI oth), (13, vI r29), (12, vI r27), (11, vI r25), (10, vI ((cN g a b r3 + cN g a d r3 + cN g b d r3) / 3)), (9, vI ((cE g a b r3 + cE g a d r3 + cE g b d r3) / 3)), (8, vI (hatA g a b d r3)), (7, vI (d : Int)), (6, vI (b : Int)), (5, vI (a : Int)), (4, vI best), (3, vI r3), (2, vI (g 2)), (0, .ref (kad G 0)), (1, vI v)] dL_areHats_196 (by decide) rfl ?_
      refine k_iload hC dL_areHats_198 0 rfl ?_
      refine k_if_lt hC 226 dL_areHats_200 rfl (by omega) (fun c_200 => ?_) (fun c_200 => ?_)
      · refine k_aload_n hC dL_areHats_226 rfl 13 rfl ?_
        refine k_iload hC dL_areHats_227 9 rfl ?_
        refine k_iload hC dL_areHats_229 8 rfl ?_
        refine k_iload_n hC dL_areHats_231 rfl 11 rfl ?_
        refine k_iconst hC dL_areHats_232 ?_
        have h_34 : w33 0 = .inr (11, [.ref (kad G 1), .ref (kad G 32), .ref (kad G 3), .ref (kad G 37), vI sv, .ref (kad G 44), .ref (kad G 10), .ref (kad G 116), .ref (kad G 129), .ref (kad G 132)]) := (hf33 0 (by omega)).trans h_30
        have hB_35 : kLog G w33 3 g := hB_31.fr (fun j q1 q2 => (hf33 j (by omega)))
        have hB_36 : kPlan G w33 32 g nl := hB_32.fr (fun j q1 q2 => (hf33 j (by omega)))
        refine k_callV hC (n_X11_crossing l hls G hN w33 fl g nl sv (a : Int) (b : Int) r3 0 (by omega) (by omega) (by omega) (by decide) hI h_34 hB_35 hB_36 hCt33 (by omega)) yy_X11_crossing wm_L_173 (kl hN (by decide)) h_34 rfl rfl rfl rfl (Nat.le_of_ble_eq_true rfl) (by decide) (by decide) ⟨by decide, by decide⟩ dL_areHats_233 (fun v37 w37 fl37 hp37 => ?_)
        obtain ⟨-, q1, q2, hp37⟩ := hp37
        subst q1
        subst q2
        obtain ⟨hCt37, hf37⟩ := hp37
        show KW p l e R s m args below meth c 18 G Q w37 fl 0 0 236 [(14, vI oth), (13, vI r29), (12, vI r27), (11, vI r25), (10, vI ((cN g a b r3 + cN g a d r3 + cN g b d r3) / 3)), (9, vI ((cE g a b r3 + cE g a d r3 + cE g b d r3) / 3)), (8, vI (hatA g a b d r3)), (7, vI (d : Int)), (6, vI (b : Int)), (5, vI (a : Int)), (4, vI best), (3, vI r3), (2, vI (g 2)), (0, .ref (kad G 0)), (1, vI v)] [vI (crsV g (a : Int).toNat (b : Int).toNat r3 0)]
        refine k_topv (vI (crsV g a b r3 0)) rfl ?_
        refine k_topv (vI (cE g a b r3)) (congrArg vI (crs_E _ hok.1)) ?_
        refine k_istore hC [(15, vI (cE g a b r3)), (14, vI oth), (13, vI r29), (12, vI r27), (11, vI r25), (10, vI ((cN g a b r3 + cN g a d r3 + cN g b d r3) / 3)), (9, vI ((cE g a b r3 + cE g a d r3 + cE g b d r3) / 3)), (8, vI (hatA g a b d r3)), (7, vI (d : Int)), (6, vI (b : Int)), (5, vI (a : Int)), (4, vI best), (3, vI r3), (2, vI (g 2)), (0, .ref (kad G 0)), (1, vI v)] dL_areHats_236 (by decide) rfl ?_
        refine k_aload_n hC dL_areHats_238 rfl 14 rfl ?_
        refine k_iload hC dL_areHats_239 10 rfl ?_
        refine k_iload hC dL_areHats_241 9 rfl ?_
        refine k_iload_n hC dL_areHats_243 rfl 12 rfl ?_
        refine k_iconst hC dL_areHats_244 ?_
        have h_38 : w37 0 = .inr (11, [.ref (kad G 1), .ref (kad G 32), .ref (kad G 3), .ref (kad G 37), vI sv, .ref (kad G 44), .ref (kad G 10), .ref (kad G 116), .ref (kad G 129), .ref (kad G 132)]) := (hf37 0 (by omega)).trans h_34
        have hB_39 : kLog G w37 3 g := hB_35.fr (fun j q1 q2 => (hf37 j (by omega)))
        have hB_40 : kPlan G w37 32 g nl := hB_36.fr (fun j q1 q2 => (hf37 j (by omega)))
        refine k_callV hC (n_X11_crossing l hls G hN w37 fl g nl sv (a : Int) (b : Int) r3 1 (by omega) (by omega) (by omega) (by decide) hI h_38 hB_39 hB_40 hCt37 (by omega)) yy_X11_crossing wm_L_173 (kl hN (by decide)) h_38 rfl rfl rfl rfl (Nat.le_of_ble_eq_true rfl) (by decide) (by decide) ⟨by decide, by decide⟩ dL_areHats_245 (fun v41 w41 fl41 hp41 => ?_)
        obtain ⟨-, q1, q2, hp41⟩ := hp41
        subst q1
        subst q2
        obtain ⟨hCt41, hf41⟩ := hp41
        show KW p l e R s m args below meth c 18 G Q w41 fl 0 0 248 [(15, vI (cE g a b r3)), (14, vI oth), (13, vI r29), (12, vI r27), (11, vI r25), (10, vI ((cN g a b r3 + cN g a d r3 + cN g b d r3) / 3)), (9, vI ((cE g a b r3 + cE g a d r3 + cE g b d r3) / 3)), (8, vI (hatA g a b d r3)), (7, vI (d : Int)), (6, vI (b : Int)), (5, vI (a : Int)), (4, vI best), (3, vI r3), (2, vI (g 2)), (0, .ref (kad G 0)), (1, vI v)] [vI (crsV g (a : Int).toNat (b : Int).toNat r3 1)]
        refine k_topv (vI (crsV g a b r3 1)) rfl ?_
        refine k_topv (vI (cN g a b r3)) (congrArg vI (crs_N _ hok.1)) ?_
        refine k_istore hC [(16, vI (cN g a b r3)), (15, vI (cE g a b r3)), (14, vI oth), (13, vI r29), (12, vI r27), (11, vI r25), (10, vI ((cN g a b r3 + cN g a d r3 + cN g b d r3) / 3)), (9, vI ((cE g a b r3 + cE g a d r3 + cE g b d r3) / 3)), (8, vI (hatA g a b d r3)), (7, vI (d : Int)), (6, vI (b : Int)), (5, vI (a : Int)), (4, vI best), (3, vI r3), (2, vI (g 2)), (0, .ref (kad G 0)), (1, vI v)] dL_areHats_248 (by decide) rfl ?_
        refine k_aload_n hC dL_areHats_250 rfl 15 rfl ?_
        refine k_iload hC dL_areHats_251 11 rfl ?_
        refine k_iload hC dL_areHats_253 10 rfl ?_
        refine k_iload hC dL_areHats_255 9 rfl ?_
        refine k_iload_n hC dL_areHats_257 rfl 13 rfl ?_
        refine k_iload hC dL_areHats_258 1 rfl ?_
        refine k_iload hC dL_areHats_260 0 rfl ?_
        have h_42 : w41 0 = .inr (11, [.ref (kad G 1), .ref (kad G 32), .ref (kad G 3), .ref (kad G 37), vI sv, .ref (kad G 44), .ref (kad G 10), .ref (kad G 116), .ref (kad G 129), .ref (kad G 132)]) := (hf41 0 (by omega)).trans h_38
        have hB_43 : kLog G w41 3 g := hB_39.fr (fun j q1 q2 => (hf41 j (by omega)))
        have hB_44 : kPlan G w41 32 g nl := hB_40.fr (fun j q1 q2 => (hf41 j (by omega)))
        refine k_callV hC (n_X11_isInside l hls G hN w41 fl g nl sv (a : Int) (b : Int) (d : Int) r3 (cE g a b r3) (cN g a b r3) (by omega) (by omega) (by omega) (by omega) (by omega) (by omega) hI h_42 hB_43 hB_44 hCt41 (by omega)) yy_X11_isInside wm_L_191 (kl hN (by decide)) h_42 rfl rfl rfl rfl (Nat.le_of_ble_eq_true rfl) (by decide) (by decide) ⟨by decide, by decide⟩ dL_areHats_262 (fun v45 w45 fl45 hp45 => ?_)
        obtain ⟨-, q1, q2, hp45⟩ := hp45
        subst q1
        subst q2
        obtain ⟨hCt45, hf45⟩ := hp45
        show KW p l e R s m args below meth c 18 G Q w45 fl 0 0 265 [(16, vI (cN g a b r3)), (15, vI (cE g a b r3)), (14, vI oth), (13, vI r29), (12, vI r27), (11, vI r25), (10, vI ((cN g a b r3 + cN g a d r3 + cN g b d r3) / 3)), (9, vI ((cE g a b r3 + cE g a d r3 + cE g b d r3) / 3)), (8, vI (hatA g a b d r3)), (7, vI (d : Int)), (6, vI (b : Int)), (5, vI (a : Int)), (4, vI best), (3, vI r3), (2, vI (g 2)), (0, .ref (kad G 0)), (1, vI v)] [vI (insV g (a : Int).toNat (b : Int).toNat (d : Int).toNat r3 (cE g a b r3) (cN g a b r3))]
        refine k_topv (vI (insV g a b d r3 (cE g a b r3) (cN g a b r3))) rfl ?_
        refine k_topv (vI (1)) (congrArg vI (ins_c hok)) ?_
        refine k_istore hC [(17, vI 1), (16, vI (cN g a b r3)), (15, vI (cE g a b r3)), (14, vI oth), (13, vI r29), (12, vI r27), (11, vI r25), (10, vI ((cN g a b r3 + cN g a d r3 + cN g b d r3) / 3)), (9, vI ((cE g a b r3 + cE g a d r3 + cE g b d r3) / 3)), (8, vI (hatA g a b d r3)), (7, vI (d : Int)), (6, vI (b : Int)), (5, vI (a : Int)), (4, vI best), (3, vI r3), (2, vI (g 2)), (0, .ref (kad G 0)), (1, vI v)] dL_areHats_265 (by decide) rfl ?_
        refine k_iload hC dL_areHats_267 0 rfl ?_
        refine k_if_eq hC 316 dL_areHats_269 rfl (by omega) (fun c_269 => absurd c_269 (by omega)) (fun c_269 => ?_)
        refine k_iload hC dL_areHats_272 9 rfl ?_
        refine k_sipush hC dL_areHats_274 (by decide) ?_
        refine k_icmp_lt hC 312 dL_areHats_277 rfl (by omega) (by omega) (fun c_277 => ?_) (fun c_277 => ?_)
        · refine k_iconst hC dL_areHats_312 ?_
          refine k_goto hC 317 dL_areHats_313 rfl ?_
          subst hQ
          exact k_zret hC (by omega) hr ⟨by decide, by decide⟩ (⟨trivial, rfl, rfl, ⟨hCt45, fun j hj => (hf45 j (by omega)).trans ((hf41 j (by omega)).trans ((hf37 j (by omega)).trans ((hf33 j (by omega)).trans ((hf23 j (by omega)).trans ((hf19 j (by omega)).trans ((hf15 j (by omega)).trans ((hf11 j (by omega)).trans ((hf7 j (by omega)).trans (hf1 j (by omega))))))))))⟩⟩) dL_areHats_317
        · refine k_aload_n hC dL_areHats_280 rfl 16 rfl ?_
          refine k_iload hC dL_areHats_281 12 rfl ?_
          refine k_iload hC dL_areHats_283 11 rfl ?_
          refine k_iload hC dL_areHats_285 10 rfl ?_
          refine k_iload_n hC dL_areHats_287 rfl 14 rfl ?_
          have h_47 : w45 0 = .inr (11, [.ref (kad G 1), .ref (kad G 32), .ref (kad G 3), .ref (kad G 37), vI sv, .ref (kad G 44), .ref (kad G 10), .ref (kad G 116), .ref (kad G 129), .ref (kad G 132)]) := (hf45 0 (by omega)).trans h_42
          have hB_48 : kLog G w45 3 g := hB_43.fr (fun j q1 q2 => (hf45 j (by omega)))
          have hB_49 : kPlan G w45 32 g nl := hB_44.fr (fun j q1 q2 => (hf45 j (by omega)))
          refine k_callS hC (c_L_isThin l hls G hN w45 fl g nl sv a b d r3 (by omega) (by omega) (by omega) (by omega) hok hI h_47 hB_48 hB_49 hCt45) yy_L_isThin wm_L_195 rfl rfl (Nat.le_of_ble_eq_true rfl) (by decide) (by decide) ⟨by decide, by decide⟩ dL_areHats_288 (fun v46 w46 fl46 hp46 => ?_)
          obtain ⟨z46, q1, q2, hz46, ht46, hCt46, hf46⟩ := hp46
          subst q1
          subst q2
          show KW p l e R s m args below meth c 18 G Q w46 fl 3 6 291 [(17, vI 1), (16, vI (cN g a b r3)), (15, vI (cE g a b r3)), (14, vI oth), (13, vI r29), (12, vI r27), (11, vI r25), (10, vI ((cN g a b r3 + cN g a d r3 + cN g b d r3) / 3)), (9, vI ((cE g a b r3 + cE g a d r3 + cE g b d r3) / 3)), (8, vI (hatA g a b d r3)), (7, vI (d : Int)), (6, vI (b : Int)), (5, vI (a : Int)), (4, vI best), (3, vI r3), (2, vI (g 2)), (0, .ref (kad G 0)), (1, vI v)] [vI z46]
          refine k_if_ne hC 312 dL_areHats_291 rfl (by omega) (fun c_291 => ?_) (fun c_291 => ?_)
          · refine k_iconst hC dL_areHats_312 ?_
            refine k_goto hC 317 dL_areHats_313 rfl ?_
            subst hQ
            exact k_zret hC (by omega) hr ⟨by decide, by decide⟩ (⟨trivial, rfl, rfl, ⟨hCt46, fun j hj => (hf46 j (by omega)).trans ((hf45 j (by omega)).trans ((hf41 j (by omega)).trans ((hf37 j (by omega)).trans ((hf33 j (by omega)).trans ((hf23 j (by omega)).trans ((hf19 j (by omega)).trans ((hf15 j (by omega)).trans ((hf11 j (by omega)).trans ((hf7 j (by omega)).trans (hf1 j (by omega)))))))))))⟩⟩) dL_areHats_317
          · refine k_aload_n hC dL_areHats_294 rfl 16 rfl ?_
            refine k_iload hC dL_areHats_295 12 rfl ?_
            refine k_iload hC dL_areHats_297 11 rfl ?_
            refine k_iload hC dL_areHats_299 10 rfl ?_
            refine k_iload_n hC dL_areHats_301 rfl 14 rfl ?_
            refine k_iload hC dL_areHats_302 8 rfl ?_
            refine k_iload hC dL_areHats_304 7 rfl ?_
            have h_50 : w46 0 = .inr (11, [.ref (kad G 1), .ref (kad G 32), .ref (kad G 3), .ref (kad G 37), vI sv, .ref (kad G 44), .ref (kad G 10), .ref (kad G 116), .ref (kad G 129), .ref (kad G 132)]) := (hf46 0 (by omega)).trans h_47
            have hB_51 : kLog G w46 3 g := hB_48.fr (fun j q1 q2 => (hf46 j (by omega)))
            have hB_52 : kPlan G w46 32 g nl := hB_49.fr (fun j q1 q2 => (hf46 j (by omega)))
            refine k_callV hC (n_X11_isInside l hls G hN w46 fl g nl sv (a : Int) (b : Int) (d : Int) r3 ((cE g a b r3 + cE g a d r3 + cE g b d r3) / 3) ((cN g a b r3 + cN g a d r3 + cN g b d r3) / 3) (by omega) (by omega) (by omega) (by omega) (by omega) (by omega) hI h_50 hB_51 hB_52 hCt46 (by omega)) yy_X11_isInside wm_L_191 (kl hN (by decide)) h_50 rfl rfl rfl rfl (Nat.le_of_ble_eq_true rfl) (by decide) (by decide) ⟨by decide, by decide⟩ dL_areHats_306 (fun v53 w53 fl53 hp53 => ?_)
            obtain ⟨-, q1, q2, hp53⟩ := hp53
            subst q1
            subst q2
            obtain ⟨hCt53, hf53⟩ := hp53
            show KW p l e R s m args below meth c 18 G Q w53 fl 3 6 309 [(17, vI 1), (16, vI (cN g a b r3)), (15, vI (cE g a b r3)), (14, vI oth), (13, vI r29), (12, vI r27), (11, vI r25), (10, vI ((cN g a b r3 + cN g a d r3 + cN g b d r3) / 3)), (9, vI ((cE g a b r3 + cE g a d r3 + cE g b d r3) / 3)), (8, vI (hatA g a b d r3)), (7, vI (d : Int)), (6, vI (b : Int)), (5, vI (a : Int)), (4, vI best), (3, vI r3), (2, vI (g 2)), (0, .ref (kad G 0)), (1, vI v)] [vI (insV g (a : Int).toNat (b : Int).toNat (d : Int).toNat r3 ((cE g a b r3 + cE g a d r3 + cE g b d r3) / 3) ((cN g a b r3 + cN g a d r3 + cN g b d r3) / 3))]
            refine k_topv (vI (insV g a b d r3 ((cE g a b r3 + cE g a d r3 + cE g b d r3) / 3) ((cN g a b r3 + cN g a d r3 + cN g b d r3) / 3))) rfl ?_
            refine k_topv (vI (1)) (congrArg vI (ins_m hok (by omega) (ht46 (by omega)))) ?_
            refine k_if_eq hC 316 dL_areHats_309 rfl (by omega) (fun c_309 => absurd c_309 (by omega)) (fun c_309 => ?_)
            refine k_iconst hC dL_areHats_312 ?_
            refine k_goto hC 317 dL_areHats_313 rfl ?_
            subst hQ
            exact k_zret hC (by omega) hr ⟨by decide, by decide⟩ (⟨trivial, rfl, rfl, ⟨hCt53, fun j hj => (hf53 j (by omega)).trans ((hf46 j (by omega)).trans ((hf45 j (by omega)).trans ((hf41 j (by omega)).trans ((hf37 j (by omega)).trans ((hf33 j (by omega)).trans ((hf23 j (by omega)).trans ((hf19 j (by omega)).trans ((hf15 j (by omega)).trans ((hf11 j (by omega)).trans ((hf7 j (by omega)).trans (hf1 j (by omega))))))))))))⟩⟩) dL_areHats_317
      · refine k_iload hC dL_areHats_203 3 rfl ?_
        refine k_iload hC dL_areHats_205 2 rfl ?_
        refine k_icmp_ge hC 226 dL_areHats_207 rfl (by omega) (by omega) (fun c_207 => ?_) (fun c_207 => ?_)
        · refine k_aload_n hC dL_areHats_226 rfl 13 rfl ?_
          refine k_iload hC dL_areHats_227 9 rfl ?_
          refine k_iload hC dL_areHats_229 8 rfl ?_
          refine k_iload_n hC dL_areHats_231 rfl 11 rfl ?_
          refine k_iconst hC dL_areHats_232 ?_
          have h_54 : w33 0 = .inr (11, [.ref (kad G 1), .ref (kad G 32), .ref (kad G 3), .ref (kad G 37), vI sv, .ref (kad G 44), .ref (kad G 10), .ref (kad G 116), .ref (kad G 129), .ref (kad G 132)]) := (hf33 0 (by omega)).trans h_30
          have hB_55 : kLog G w33 3 g := hB_31.fr (fun j q1 q2 => (hf33 j (by omega)))
          have hB_56 : kPlan G w33 32 g nl := hB_32.fr (fun j q1 q2 => (hf33 j (by omega)))
          refine k_callV hC (n_X11_crossing l hls G hN w33 fl g nl sv (a : Int) (b : Int) r3 0 (by omega) (by omega) (by omega) (by decide) hI h_54 hB_55 hB_56 hCt33 (by omega)) yy_X11_crossing wm_L_173 (kl hN (by decide)) h_54 rfl rfl rfl rfl (Nat.le_of_ble_eq_true rfl) (by decide) (by decide) ⟨by decide, by decide⟩ dL_areHats_233 (fun v57 w57 fl57 hp57 => ?_)
          obtain ⟨-, q1, q2, hp57⟩ := hp57
          subst q1
          subst q2
          obtain ⟨hCt57, hf57⟩ := hp57
          show KW p l e R s m args below meth c 18 G Q w57 fl 0 0 236 [(14, vI oth), (13, vI r29), (12, vI r27), (11, vI r25), (10, vI ((cN g a b r3 + cN g a d r3 + cN g b d r3) / 3)), (9, vI ((cE g a b r3 + cE g a d r3 + cE g b d r3) / 3)), (8, vI (hatA g a b d r3)), (7, vI (d : Int)), (6, vI (b : Int)), (5, vI (a : Int)), (4, vI best), (3, vI r3), (2, vI (g 2)), (0, .ref (kad G 0)), (1, vI v)] [vI (crsV g (a : Int).toNat (b : Int).toNat r3 0)]
          refine k_topv (vI (crsV g a b r3 0)) rfl ?_
          refine k_topv (vI (cE g a b r3)) (congrArg vI (crs_E _ hok.1)) ?_
          refine k_istore hC [(15, vI (cE g a b r3)), (14, vI oth), (13, vI r29), (12, vI r27), (11, vI r25), (10, vI ((cN g a b r3 + cN g a d r3 + cN g b d r3) / 3)), (9, vI ((cE g a b r3 + cE g a d r3 + cE g b d r3) / 3)), (8, vI (hatA g a b d r3)), (7, vI (d : Int)), (6, vI (b : Int)), (5, vI (a : Int)), (4, vI best), (3, vI r3), (2, vI (g 2)), (0, .ref (kad G 0)), (1, vI v)] dL_areHats_236 (by decide) rfl ?_
          refine k_aload_n hC dL_areHats_238 rfl 14 rfl ?_
          refine k_iload hC dL_areHats_239 10 rfl ?_
          refine k_iload hC dL_areHats_241 9 rfl ?_
          refine k_iload_n hC dL_areHats_243 rfl 12 rfl ?_
          refine k_iconst hC dL_areHats_244 ?_
          have h_58 : w57 0 = .inr (11, [.ref (kad G 1), .ref (kad G 32), .ref (kad G 3), .ref (kad G 37), vI sv, .ref (kad G 44), .ref (kad G 10), .ref (kad G 116), .ref (kad G 129), .ref (kad G 132)]) := (hf57 0 (by omega)).trans h_54
          have hB_59 : kLog G w57 3 g := hB_55.fr (fun j q1 q2 => (hf57 j (by omega)))
          have hB_60 : kPlan G w57 32 g nl := hB_56.fr (fun j q1 q2 => (hf57 j (by omega)))
          refine k_callV hC (n_X11_crossing l hls G hN w57 fl g nl sv (a : Int) (b : Int) r3 1 (by omega) (by omega) (by omega) (by decide) hI h_58 hB_59 hB_60 hCt57 (by omega)) yy_X11_crossing wm_L_173 (kl hN (by decide)) h_58 rfl rfl rfl rfl (Nat.le_of_ble_eq_true rfl) (by decide) (by decide) ⟨by decide, by decide⟩ dL_areHats_245 (fun v61 w61 fl61 hp61 => ?_)
          obtain ⟨-, q1, q2, hp61⟩ := hp61
          subst q1
          subst q2
          obtain ⟨hCt61, hf61⟩ := hp61
          show KW p l e R s m args below meth c 18 G Q w61 fl 0 0 248 [(15, vI (cE g a b r3)), (14, vI oth), (13, vI r29), (12, vI r27), (11, vI r25), (10, vI ((cN g a b r3 + cN g a d r3 + cN g b d r3) / 3)), (9, vI ((cE g a b r3 + cE g a d r3 + cE g b d r3) / 3)), (8, vI (hatA g a b d r3)), (7, vI (d : Int)), (6, vI (b : Int)), (5, vI (a : Int)), (4, vI best), (3, vI r3), (2, vI (g 2)), (0, .ref (kad G 0)), (1, vI v)] [vI (crsV g (a : Int).toNat (b : Int).toNat r3 1)]
          refine k_topv (vI (crsV g a b r3 1)) rfl ?_
          refine k_topv (vI (cN g a b r3)) (congrArg vI (crs_N _ hok.1)) ?_
          refine k_istore hC [(16, vI (cN g a b r3)), (15, vI (cE g a b r3)), (14, vI oth), (13, vI r29), (12, vI r27), (11, vI r25), (10, vI ((cN g a b r3 + cN g a d r3 + cN g b d r3) / 3)), (9, vI ((cE g a b r3 + cE g a d r3 + cE g b d r3) / 3)), (8, vI (hatA g a b d r3)), (7, vI (d : Int)), (6, vI (b : Int)), (5, vI (a : Int)), (4, vI best), (3, vI r3), (2, vI (g 2)), (0, .ref (kad G 0)), (1, vI v)] dL_areHats_248 (by decide) rfl ?_
          refine k_aload_n hC dL_areHats_250 rfl 15 rfl ?_
          refine k_iload hC dL_areHats_251 11 rfl ?_
          refine k_iload hC dL_areHats_253 10 rfl ?_
          refine k_iload hC dL_areHats_255 9 rfl ?_
          refine k_iload_n hC dL_areHats_257 rfl 13 rfl ?_
          refine k_iload hC dL_areHats_258 1 rfl ?_
          refine k_iload hC dL_areHats_260 0 rfl ?_
          have h_62 : w61 0 = .inr (11, [.ref (kad G 1), .ref (kad G 32), .ref (kad G 3), .ref (kad G 37), vI sv, .ref (kad G 44), .ref (kad G 10), .ref (kad G 116), .ref (kad G 129), .ref (kad G 132)]) := (hf61 0 (by omega)).trans h_58
          have hB_63 : kLog G w61 3 g := hB_59.fr (fun j q1 q2 => (hf61 j (by omega)))
          have hB_64 : kPlan G w61 32 g nl := hB_60.fr (fun j q1 q2 => (hf61 j (by omega)))
          refine k_callV hC (n_X11_isInside l hls G hN w61 fl g nl sv (a : Int) (b : Int) (d : Int) r3 (cE g a b r3) (cN g a b r3) (by omega) (by omega) (by omega) (by omega) (by omega) (by omega) hI h_62 hB_63 hB_64 hCt61 (by omega)) yy_X11_isInside wm_L_191 (kl hN (by decide)) h_62 rfl rfl rfl rfl (Nat.le_of_ble_eq_true rfl) (by decide) (by decide) ⟨by decide, by decide⟩ dL_areHats_262 (fun v65 w65 fl65 hp65 => ?_)
          obtain ⟨-, q1, q2, hp65⟩ := hp65
          subst q1
          subst q2
          obtain ⟨hCt65, hf65⟩ := hp65
          show KW p l e R s m args below meth c 18 G Q w65 fl 0 0 265 [(16, vI (cN g a b r3)), (15, vI (cE g a b r3)), (14, vI oth), (13, vI r29), (12, vI r27), (11, vI r25), (10, vI ((cN g a b r3 + cN g a d r3 + cN g b d r3) / 3)), (9, vI ((cE g a b r3 + cE g a d r3 + cE g b d r3) / 3)), (8, vI (hatA g a b d r3)), (7, vI (d : Int)), (6, vI (b : Int)), (5, vI (a : Int)), (4, vI best), (3, vI r3), (2, vI (g 2)), (0, .ref (kad G 0)), (1, vI v)] [vI (insV g (a : Int).toNat (b : Int).toNat (d : Int).toNat r3 (cE g a b r3) (cN g a b r3))]
          refine k_topv (vI (insV g a b d r3 (cE g a b r3) (cN g a b r3))) rfl ?_
          refine k_topv (vI (1)) (congrArg vI (ins_c hok)) ?_
          refine k_istore hC [(17, vI 1), (16, vI (cN g a b r3)), (15, vI (cE g a b r3)), (14, vI oth), (13, vI r29), (12, vI r27), (11, vI r25), (10, vI ((cN g a b r3 + cN g a d r3 + cN g b d r3) / 3)), (9, vI ((cE g a b r3 + cE g a d r3 + cE g b d r3) / 3)), (8, vI (hatA g a b d r3)), (7, vI (d : Int)), (6, vI (b : Int)), (5, vI (a : Int)), (4, vI best), (3, vI r3), (2, vI (g 2)), (0, .ref (kad G 0)), (1, vI v)] dL_areHats_265 (by decide) rfl ?_
          refine k_iload hC dL_areHats_267 0 rfl ?_
          refine k_if_eq hC 316 dL_areHats_269 rfl (by omega) (fun c_269 => absurd c_269 (by omega)) (fun c_269 => ?_)
          refine k_iload hC dL_areHats_272 9 rfl ?_
          refine k_sipush hC dL_areHats_274 (by decide) ?_
          refine k_icmp_lt hC 312 dL_areHats_277 rfl (by omega) (by omega) (fun c_277 => ?_) (fun c_277 => ?_)
          · refine k_iconst hC dL_areHats_312 ?_
            refine k_goto hC 317 dL_areHats_313 rfl ?_
            subst hQ
            exact k_zret hC (by omega) hr ⟨by decide, by decide⟩ (⟨trivial, rfl, rfl, ⟨hCt65, fun j hj => (hf65 j (by omega)).trans ((hf61 j (by omega)).trans ((hf57 j (by omega)).trans ((hf33 j (by omega)).trans ((hf23 j (by omega)).trans ((hf19 j (by omega)).trans ((hf15 j (by omega)).trans ((hf11 j (by omega)).trans ((hf7 j (by omega)).trans (hf1 j (by omega))))))))))⟩⟩) dL_areHats_317
          · refine k_aload_n hC dL_areHats_280 rfl 16 rfl ?_
            refine k_iload hC dL_areHats_281 12 rfl ?_
            refine k_iload hC dL_areHats_283 11 rfl ?_
            refine k_iload hC dL_areHats_285 10 rfl ?_
            refine k_iload_n hC dL_areHats_287 rfl 14 rfl ?_
            have h_67 : w65 0 = .inr (11, [.ref (kad G 1), .ref (kad G 32), .ref (kad G 3), .ref (kad G 37), vI sv, .ref (kad G 44), .ref (kad G 10), .ref (kad G 116), .ref (kad G 129), .ref (kad G 132)]) := (hf65 0 (by omega)).trans h_62
            have hB_68 : kLog G w65 3 g := hB_63.fr (fun j q1 q2 => (hf65 j (by omega)))
            have hB_69 : kPlan G w65 32 g nl := hB_64.fr (fun j q1 q2 => (hf65 j (by omega)))
            refine k_callS hC (c_L_isThin l hls G hN w65 fl g nl sv a b d r3 (by omega) (by omega) (by omega) (by omega) hok hI h_67 hB_68 hB_69 hCt65) yy_L_isThin wm_L_195 rfl rfl (Nat.le_of_ble_eq_true rfl) (by decide) (by decide) ⟨by decide, by decide⟩ dL_areHats_288 (fun v66 w66 fl66 hp66 => ?_)
            obtain ⟨z66, q1, q2, hz66, ht66, hCt66, hf66⟩ := hp66
            subst q1
            subst q2
            show KW p l e R s m args below meth c 18 G Q w66 fl 3 6 291 [(17, vI 1), (16, vI (cN g a b r3)), (15, vI (cE g a b r3)), (14, vI oth), (13, vI r29), (12, vI r27), (11, vI r25), (10, vI ((cN g a b r3 + cN g a d r3 + cN g b d r3) / 3)), (9, vI ((cE g a b r3 + cE g a d r3 + cE g b d r3) / 3)), (8, vI (hatA g a b d r3)), (7, vI (d : Int)), (6, vI (b : Int)), (5, vI (a : Int)), (4, vI best), (3, vI r3), (2, vI (g 2)), (0, .ref (kad G 0)), (1, vI v)] [vI z66]
            refine k_if_ne hC 312 dL_areHats_291 rfl (by omega) (fun c_291 => ?_) (fun c_291 => ?_)
            · refine k_iconst hC dL_areHats_312 ?_
              refine k_goto hC 317 dL_areHats_313 rfl ?_
              subst hQ
              exact k_zret hC (by omega) hr ⟨by decide, by decide⟩ (⟨trivial, rfl, rfl, ⟨hCt66, fun j hj => (hf66 j (by omega)).trans ((hf65 j (by omega)).trans ((hf61 j (by omega)).trans ((hf57 j (by omega)).trans ((hf33 j (by omega)).trans ((hf23 j (by omega)).trans ((hf19 j (by omega)).trans ((hf15 j (by omega)).trans ((hf11 j (by omega)).trans ((hf7 j (by omega)).trans (hf1 j (by omega)))))))))))⟩⟩) dL_areHats_317
            · refine k_aload_n hC dL_areHats_294 rfl 16 rfl ?_
              refine k_iload hC dL_areHats_295 12 rfl ?_
              refine k_iload hC dL_areHats_297 11 rfl ?_
              refine k_iload hC dL_areHats_299 10 rfl ?_
              refine k_iload_n hC dL_areHats_301 rfl 14 rfl ?_
              refine k_iload hC dL_areHats_302 8 rfl ?_
              refine k_iload hC dL_areHats_304 7 rfl ?_
              have h_70 : w66 0 = .inr (11, [.ref (kad G 1), .ref (kad G 32), .ref (kad G 3), .ref (kad G 37), vI sv, .ref (kad G 44), .ref (kad G 10), .ref (kad G 116), .ref (kad G 129), .ref (kad G 132)]) := (hf66 0 (by omega)).trans h_67
              have hB_71 : kLog G w66 3 g := hB_68.fr (fun j q1 q2 => (hf66 j (by omega)))
              have hB_72 : kPlan G w66 32 g nl := hB_69.fr (fun j q1 q2 => (hf66 j (by omega)))
              refine k_callV hC (n_X11_isInside l hls G hN w66 fl g nl sv (a : Int) (b : Int) (d : Int) r3 ((cE g a b r3 + cE g a d r3 + cE g b d r3) / 3) ((cN g a b r3 + cN g a d r3 + cN g b d r3) / 3) (by omega) (by omega) (by omega) (by omega) (by omega) (by omega) hI h_70 hB_71 hB_72 hCt66 (by omega)) yy_X11_isInside wm_L_191 (kl hN (by decide)) h_70 rfl rfl rfl rfl (Nat.le_of_ble_eq_true rfl) (by decide) (by decide) ⟨by decide, by decide⟩ dL_areHats_306 (fun v73 w73 fl73 hp73 => ?_)
              obtain ⟨-, q1, q2, hp73⟩ := hp73
              subst q1
              subst q2
              obtain ⟨hCt73, hf73⟩ := hp73
              show KW p l e R s m args below meth c 18 G Q w73 fl 3 6 309 [(17, vI 1), (16, vI (cN g a b r3)), (15, vI (cE g a b r3)), (14, vI oth), (13, vI r29), (12, vI r27), (11, vI r25), (10, vI ((cN g a b r3 + cN g a d r3 + cN g b d r3) / 3)), (9, vI ((cE g a b r3 + cE g a d r3 + cE g b d r3) / 3)), (8, vI (hatA g a b d r3)), (7, vI (d : Int)), (6, vI (b : Int)), (5, vI (a : Int)), (4, vI best), (3, vI r3), (2, vI (g 2)), (0, .ref (kad G 0)), (1, vI v)] [vI (insV g (a : Int).toNat (b : Int).toNat (d : Int).toNat r3 ((cE g a b r3 + cE g a d r3 + cE g b d r3) / 3) ((cN g a b r3 + cN g a d r3 + cN g b d r3) / 3))]
              refine k_topv (vI (insV g a b d r3 ((cE g a b r3 + cE g a d r3 + cE g b d r3) / 3) ((cN g a b r3 + cN g a d r3 + cN g b d r3) / 3))) rfl ?_
              refine k_topv (vI (1)) (congrArg vI (ins_m hok (by omega) (ht66 (by omega)))) ?_
              refine k_if_eq hC 316 dL_areHats_309 rfl (by omega) (fun c_309 => absurd c_309 (by omega)) (fun c_309 => ?_)
              refine k_iconst hC dL_areHats_312 ?_
              refine k_goto hC 317 dL_areHats_313 rfl ?_
              subst hQ
              exact k_zret hC (by omega) hr ⟨by decide, by decide⟩ (⟨trivial, rfl, rfl, ⟨hCt73, fun j hj => (hf73 j (by omega)).trans ((hf66 j (by omega)).trans ((hf65 j (by omega)).trans ((hf61 j (by omega)).trans ((hf57 j (by omega)).trans ((hf33 j (by omega)).trans ((hf23 j (by omega)).trans ((hf19 j (by omega)).trans ((hf15 j (by omega)).trans ((hf11 j (by omega)).trans ((hf7 j (by omega)).trans (hf1 j (by omega))))))))))))⟩⟩) dL_areHats_317
        · refine k_iload hC dL_areHats_210 2 rfl ?_
          refine k_iload hC dL_areHats_212 1 rfl ?_
          refine k_icmp_ge hC 226 dL_areHats_214 rfl (by omega) (by omega) (fun c_214 => ?_) (fun c_214 => ?_)
          · refine k_aload_n hC dL_areHats_226 rfl 13 rfl ?_
            refine k_iload hC dL_areHats_227 9 rfl ?_
            refine k_iload hC dL_areHats_229 8 rfl ?_
            refine k_iload_n hC dL_areHats_231 rfl 11 rfl ?_
            refine k_iconst hC dL_areHats_232 ?_
            have h_74 : w33 0 = .inr (11, [.ref (kad G 1), .ref (kad G 32), .ref (kad G 3), .ref (kad G 37), vI sv, .ref (kad G 44), .ref (kad G 10), .ref (kad G 116), .ref (kad G 129), .ref (kad G 132)]) := (hf33 0 (by omega)).trans h_30
            have hB_75 : kLog G w33 3 g := hB_31.fr (fun j q1 q2 => (hf33 j (by omega)))
            have hB_76 : kPlan G w33 32 g nl := hB_32.fr (fun j q1 q2 => (hf33 j (by omega)))
            refine k_callV hC (n_X11_crossing l hls G hN w33 fl g nl sv (a : Int) (b : Int) r3 0 (by omega) (by omega) (by omega) (by decide) hI h_74 hB_75 hB_76 hCt33 (by omega)) yy_X11_crossing wm_L_173 (kl hN (by decide)) h_74 rfl rfl rfl rfl (Nat.le_of_ble_eq_true rfl) (by decide) (by decide) ⟨by decide, by decide⟩ dL_areHats_233 (fun v77 w77 fl77 hp77 => ?_)
            obtain ⟨-, q1, q2, hp77⟩ := hp77
            subst q1
            subst q2
            obtain ⟨hCt77, hf77⟩ := hp77
            show KW p l e R s m args below meth c 18 G Q w77 fl 0 0 236 [(14, vI oth), (13, vI r29), (12, vI r27), (11, vI r25), (10, vI ((cN g a b r3 + cN g a d r3 + cN g b d r3) / 3)), (9, vI ((cE g a b r3 + cE g a d r3 + cE g b d r3) / 3)), (8, vI (hatA g a b d r3)), (7, vI (d : Int)), (6, vI (b : Int)), (5, vI (a : Int)), (4, vI best), (3, vI r3), (2, vI (g 2)), (0, .ref (kad G 0)), (1, vI v)] [vI (crsV g (a : Int).toNat (b : Int).toNat r3 0)]
            refine k_topv (vI (crsV g a b r3 0)) rfl ?_
            refine k_topv (vI (cE g a b r3)) (congrArg vI (crs_E _ hok.1)) ?_
            refine k_istore hC [(15, vI (cE g a b r3)), (14, vI oth), (13, vI r29), (12, vI r27), (11, vI r25), (10, vI ((cN g a b r3 + cN g a d r3 + cN g b d r3) / 3)), (9, vI ((cE g a b r3 + cE g a d r3 + cE g b d r3) / 3)), (8, vI (hatA g a b d r3)), (7, vI (d : Int)), (6, vI (b : Int)), (5, vI (a : Int)), (4, vI best), (3, vI r3), (2, vI (g 2)), (0, .ref (kad G 0)), (1, vI v)] dL_areHats_236 (by decide) rfl ?_
            refine k_aload_n hC dL_areHats_238 rfl 14 rfl ?_
            refine k_iload hC dL_areHats_239 10 rfl ?_
            refine k_iload hC dL_areHats_241 9 rfl ?_
            refine k_iload_n hC dL_areHats_243 rfl 12 rfl ?_
            refine k_iconst hC dL_areHats_244 ?_
            have h_78 : w77 0 = .inr (11, [.ref (kad G 1), .ref (kad G 32), .ref (kad G 3), .ref (kad G 37), vI sv, .ref (kad G 44), .ref (kad G 10), .ref (kad G 116), .ref (kad G 129), .ref (kad G 132)]) := (hf77 0 (by omega)).trans h_74
            have hB_79 : kLog G w77 3 g := hB_75.fr (fun j q1 q2 => (hf77 j (by omega)))
            have hB_80 : kPlan G w77 32 g nl := hB_76.fr (fun j q1 q2 => (hf77 j (by omega)))
            refine k_callV hC (n_X11_crossing l hls G hN w77 fl g nl sv (a : Int) (b : Int) r3 1 (by omega) (by omega) (by omega) (by decide) hI h_78 hB_79 hB_80 hCt77 (by omega)) yy_X11_crossing wm_L_173 (kl hN (by decide)) h_78 rfl rfl rfl rfl (Nat.le_of_ble_eq_true rfl) (by decide) (by decide) ⟨by decide, by decide⟩ dL_areHats_245 (fun v81 w81 fl81 hp81 => ?_)
            obtain ⟨-, q1, q2, hp81⟩ := hp81
            subst q1
            subst q2
            obtain ⟨hCt81, hf81⟩ := hp81
            show KW p l e R s m args below meth c 18 G Q w81 fl 0 0 248 [(15, vI (cE g a b r3)), (14, vI oth), (13, vI r29), (12, vI r27), (11, vI r25), (10, vI ((cN g a b r3 + cN g a d r3 + cN g b d r3) / 3)), (9, vI ((cE g a b r3 + cE g a d r3 + cE g b d r3) / 3)), (8, vI (hatA g a b d r3)), (7, vI (d : Int)), (6, vI (b : Int)), (5, vI (a : Int)), (4, vI best), (3, vI r3), (2, vI (g 2)), (0, .ref (kad G 0)), (1, vI v)] [vI (crsV g (a : Int).toNat (b : Int).toNat r3 1)]
            refine k_topv (vI (crsV g a b r3 1)) rfl ?_
            refine k_topv (vI (cN g a b r3)) (congrArg vI (crs_N _ hok.1)) ?_
            refine k_istore hC [(16, vI (cN g a b r3)), (15, vI (cE g a b r3)), (14, vI oth), (13, vI r29), (12, vI r27), (11, vI r25), (10, vI ((cN g a b r3 + cN g a d r3 + cN g b d r3) / 3)), (9, vI ((cE g a b r3 + cE g a d r3 + cE g b d r3) / 3)), (8, vI (hatA g a b d r3)), (7, vI (d : Int)), (6, vI (b : Int)), (5, vI (a : Int)), (4, vI best), (3, vI r3), (2, vI (g 2)), (0, .ref (kad G 0)), (1, vI v)] dL_areHats_248 (by decide) rfl ?_
            refine k_aload_n hC dL_areHats_250 rfl 15 rfl ?_
            refine k_iload hC dL_areHats_251 11 rfl ?_
            refine k_iload hC dL_areHats_253 10 rfl ?_
            refine k_iload hC dL_areHats_255 9 rfl ?_
            refine k_iload_n hC dL_areHats_257 rfl 13 rfl ?_
            refine k_iload hC dL_areHats_258 1 rfl ?_
            refine k_iload hC dL_areHats_260 0 rfl ?_
            have h_82 : w81 0 = .inr (11, [.ref (kad G 1), .ref (kad G 32), .ref (kad G 3), .ref (kad G 37), vI sv, .ref (kad G 44), .ref (kad G 10), .ref (kad G 116), .ref (kad G 129), .ref (kad G 132)]) := (hf81 0 (by omega)).trans h_78
            have hB_83 : kLog G w81 3 g := hB_79.fr (fun j q1 q2 => (hf81 j (by omega)))
            have hB_84 : kPlan G w81 32 g nl := hB_80.fr (fun j q1 q2 => (hf81 j (by omega)))
            refine k_callV hC (n_X11_isInside l hls G hN w81 fl g nl sv (a : Int) (b : Int) (d : Int) r3 (cE g a b r3) (cN g a b r3) (by omega) (by omega) (by omega) (by omega) (by omega) (by omega) hI h_82 hB_83 hB_84 hCt81 (by omega)) yy_X11_isInside wm_L_191 (kl hN (by decide)) h_82 rfl rfl rfl rfl (Nat.le_of_ble_eq_true rfl) (by decide) (by decide) ⟨by decide, by decide⟩ dL_areHats_262 (fun v85 w85 fl85 hp85 => ?_)
            obtain ⟨-, q1, q2, hp85⟩ := hp85
            subst q1
            subst q2
            obtain ⟨hCt85, hf85⟩ := hp85
            show KW p l e R s m args below meth c 18 G Q w85 fl 0 0 265 [(16, vI (cN g a b r3)), (15, vI (cE g a b r3)), (14, vI oth), (13, vI r29), (12, vI r27), (11, vI r25), (10, vI ((cN g a b r3 + cN g a d r3 + cN g b d r3) / 3)), (9, vI ((cE g a b r3 + cE g a d r3 + cE g b d r3) / 3)), (8, vI (hatA g a b d r3)), (7, vI (d : Int)), (6, vI (b : Int)), (5, vI (a : Int)), (4, vI best), (3, vI r3), (2, vI (g 2)), (0, .ref (kad G 0)), (1, vI v)] [vI (insV g (a : Int).toNat (b : Int).toNat (d : Int).toNat r3 (cE g a b r3) (cN g a b r3))]
            refine k_topv (vI (insV g a b d r3 (cE g a b r3) (cN g a b r3))) rfl ?_
            refine k_topv (vI (1)) (congrArg vI (ins_c hok)) ?_
            refine k_istore hC [(17, vI 1), (16, vI (cN g a b r3)), (15, vI (cE g a b r3)), (14, vI oth), (13, vI r29), (12, vI r27), (11, vI r25), (10, vI ((cN g a b r3 + cN g a d r3 + cN g b d r3) / 3)), (9, vI ((cE g a b r3 + cE g a d r3 + cE g b d r3) / 3)), (8, vI (hatA g a b d r3)), (7, vI (d : Int)), (6, vI (b : Int)), (5, vI (a : Int)), (4, vI best), (3, vI r3), (2, vI (g 2)), (0, .ref (kad G 0)), (1, vI v)] dL_areHats_265 (by decide) rfl ?_
            refine k_iload hC dL_areHats_267 0 rfl ?_
            refine k_if_eq hC 316 dL_areHats_269 rfl (by omega) (fun c_269 => absurd c_269 (by omega)) (fun c_269 => ?_)
            refine k_iload hC dL_areHats_272 9 rfl ?_
            refine k_sipush hC dL_areHats_274 (by decide) ?_
            refine k_icmp_lt hC 312 dL_areHats_277 rfl (by omega) (by omega) (fun c_277 => ?_) (fun c_277 => ?_)
            · refine k_iconst hC dL_areHats_312 ?_
              refine k_goto hC 317 dL_areHats_313 rfl ?_
              subst hQ
              exact k_zret hC (by omega) hr ⟨by decide, by decide⟩ (⟨trivial, rfl, rfl, ⟨hCt85, fun j hj => (hf85 j (by omega)).trans ((hf81 j (by omega)).trans ((hf77 j (by omega)).trans ((hf33 j (by omega)).trans ((hf23 j (by omega)).trans ((hf19 j (by omega)).trans ((hf15 j (by omega)).trans ((hf11 j (by omega)).trans ((hf7 j (by omega)).trans (hf1 j (by omega))))))))))⟩⟩) dL_areHats_317
            · refine k_aload_n hC dL_areHats_280 rfl 16 rfl ?_
              refine k_iload hC dL_areHats_281 12 rfl ?_
              refine k_iload hC dL_areHats_283 11 rfl ?_
              refine k_iload hC dL_areHats_285 10 rfl ?_
              refine k_iload_n hC dL_areHats_287 rfl 14 rfl ?_
              have h_87 : w85 0 = .inr (11, [.ref (kad G 1), .ref (kad G 32), .ref (kad G 3), .ref (kad G 37), vI sv, .ref (kad G 44), .ref (kad G 10), .ref (kad G 116), .ref (kad G 129), .ref (kad G 132)]) := (hf85 0 (by omega)).trans h_82
              have hB_88 : kLog G w85 3 g := hB_83.fr (fun j q1 q2 => (hf85 j (by omega)))
              have hB_89 : kPlan G w85 32 g nl := hB_84.fr (fun j q1 q2 => (hf85 j (by omega)))
              refine k_callS hC (c_L_isThin l hls G hN w85 fl g nl sv a b d r3 (by omega) (by omega) (by omega) (by omega) hok hI h_87 hB_88 hB_89 hCt85) yy_L_isThin wm_L_195 rfl rfl (Nat.le_of_ble_eq_true rfl) (by decide) (by decide) ⟨by decide, by decide⟩ dL_areHats_288 (fun v86 w86 fl86 hp86 => ?_)
              obtain ⟨z86, q1, q2, hz86, ht86, hCt86, hf86⟩ := hp86
              subst q1
              subst q2
              show KW p l e R s m args below meth c 18 G Q w86 fl 3 6 291 [(17, vI 1), (16, vI (cN g a b r3)), (15, vI (cE g a b r3)), (14, vI oth), (13, vI r29), (12, vI r27), (11, vI r25), (10, vI ((cN g a b r3 + cN g a d r3 + cN g b d r3) / 3)), (9, vI ((cE g a b r3 + cE g a d r3 + cE g b d r3) / 3)), (8, vI (hatA g a b d r3)), (7, vI (d : Int)), (6, vI (b : Int)), (5, vI (a : Int)), (4, vI best), (3, vI r3), (2, vI (g 2)), (0, .ref (kad G 0)), (1, vI v)] [vI z86]
              refine k_if_ne hC 312 dL_areHats_291 rfl (by omega) (fun c_291 => ?_) (fun c_291 => ?_)
              · refine k_iconst hC dL_areHats_312 ?_
                refine k_goto hC 317 dL_areHats_313 rfl ?_
                subst hQ
                exact k_zret hC (by omega) hr ⟨by decide, by decide⟩ (⟨trivial, rfl, rfl, ⟨hCt86, fun j hj => (hf86 j (by omega)).trans ((hf85 j (by omega)).trans ((hf81 j (by omega)).trans ((hf77 j (by omega)).trans ((hf33 j (by omega)).trans ((hf23 j (by omega)).trans ((hf19 j (by omega)).trans ((hf15 j (by omega)).trans ((hf11 j (by omega)).trans ((hf7 j (by omega)).trans (hf1 j (by omega)))))))))))⟩⟩) dL_areHats_317
              · refine k_aload_n hC dL_areHats_294 rfl 16 rfl ?_
                refine k_iload hC dL_areHats_295 12 rfl ?_
                refine k_iload hC dL_areHats_297 11 rfl ?_
                refine k_iload hC dL_areHats_299 10 rfl ?_
                refine k_iload_n hC dL_areHats_301 rfl 14 rfl ?_
                refine k_iload hC dL_areHats_302 8 rfl ?_
                refine k_iload hC dL_areHats_304 7 rfl ?_
                have h_90 : w86 0 = .inr (11, [.ref (kad G 1), .ref (kad G 32), .ref (kad G 3), .ref (kad G 37), vI sv, .ref (kad G 44), .ref (kad G 10), .ref (kad G 116), .ref (kad G 129), .ref (kad G 132)]) := (hf86 0 (by omega)).trans h_87
                have hB_91 : kLog G w86 3 g := hB_88.fr (fun j q1 q2 => (hf86 j (by omega)))
                have hB_92 : kPlan G w86 32 g nl := hB_89.fr (fun j q1 q2 => (hf86 j (by omega)))
                refine k_callV hC (n_X11_isInside l hls G hN w86 fl g nl sv (a : Int) (b : Int) (d : Int) r3 ((cE g a b r3 + cE g a d r3 + cE g b d r3) / 3) ((cN g a b r3 + cN g a d r3 + cN g b d r3) / 3) (by omega) (by omega) (by omega) (by omega) (by omega) (by omega) hI h_90 hB_91 hB_92 hCt86 (by omega)) yy_X11_isInside wm_L_191 (kl hN (by decide)) h_90 rfl rfl rfl rfl (Nat.le_of_ble_eq_true rfl) (by decide) (by decide) ⟨by decide, by decide⟩ dL_areHats_306 (fun v93 w93 fl93 hp93 => ?_)
                obtain ⟨-, q1, q2, hp93⟩ := hp93
                subst q1
                subst q2
                obtain ⟨hCt93, hf93⟩ := hp93
                show KW p l e R s m args below meth c 18 G Q w93 fl 3 6 309 [(17, vI 1), (16, vI (cN g a b r3)), (15, vI (cE g a b r3)), (14, vI oth), (13, vI r29), (12, vI r27), (11, vI r25), (10, vI ((cN g a b r3 + cN g a d r3 + cN g b d r3) / 3)), (9, vI ((cE g a b r3 + cE g a d r3 + cE g b d r3) / 3)), (8, vI (hatA g a b d r3)), (7, vI (d : Int)), (6, vI (b : Int)), (5, vI (a : Int)), (4, vI best), (3, vI r3), (2, vI (g 2)), (0, .ref (kad G 0)), (1, vI v)] [vI (insV g (a : Int).toNat (b : Int).toNat (d : Int).toNat r3 ((cE g a b r3 + cE g a d r3 + cE g b d r3) / 3) ((cN g a b r3 + cN g a d r3 + cN g b d r3) / 3))]
                refine k_topv (vI (insV g a b d r3 ((cE g a b r3 + cE g a d r3 + cE g b d r3) / 3) ((cN g a b r3 + cN g a d r3 + cN g b d r3) / 3))) rfl ?_
                refine k_topv (vI (1)) (congrArg vI (ins_m hok (by omega) (ht86 (by omega)))) ?_
                refine k_if_eq hC 316 dL_areHats_309 rfl (by omega) (fun c_309 => absurd c_309 (by omega)) (fun c_309 => ?_)
                refine k_iconst hC dL_areHats_312 ?_
                refine k_goto hC 317 dL_areHats_313 rfl ?_
                subst hQ
                exact k_zret hC (by omega) hr ⟨by decide, by decide⟩ (⟨trivial, rfl, rfl, ⟨hCt93, fun j hj => (hf93 j (by omega)).trans ((hf86 j (by omega)).trans ((hf85 j (by omega)).trans ((hf81 j (by omega)).trans ((hf77 j (by omega)).trans ((hf33 j (by omega)).trans ((hf23 j (by omega)).trans ((hf19 j (by omega)).trans ((hf15 j (by omega)).trans ((hf11 j (by omega)).trans ((hf7 j (by omega)).trans (hf1 j (by omega))))))))))))⟩⟩) dL_areHats_317
          · refine k_iload hC dL_areHats_217 0 rfl ?_
            refine k_iload hC dL_areHats_219 6 rfl ?_
            refine k_icmp_ge hC 226 dL_areHats_221 rfl (by omega) (by omega) (fun c_221 => ?_) (fun c_221 => absurd (hat_least hmin (by rw [← eoth]; omega) (show Int.toNat _ < Int.toNat _ by omega) (show Int.toNat _ < Int.toNat _ by omega) (by omega)) (by rw [← eoth]; omega))
            refine k_aload_n hC dL_areHats_226 rfl 13 rfl ?_
            refine k_iload hC dL_areHats_227 9 rfl ?_
            refine k_iload hC dL_areHats_229 8 rfl ?_
            refine k_iload_n hC dL_areHats_231 rfl 11 rfl ?_
            refine k_iconst hC dL_areHats_232 ?_
            have h_94 : w33 0 = .inr (11, [.ref (kad G 1), .ref (kad G 32), .ref (kad G 3), .ref (kad G 37), vI sv, .ref (kad G 44), .ref (kad G 10), .ref (kad G 116), .ref (kad G 129), .ref (kad G 132)]) := (hf33 0 (by omega)).trans h_30
            have hB_95 : kLog G w33 3 g := hB_31.fr (fun j q1 q2 => (hf33 j (by omega)))
            have hB_96 : kPlan G w33 32 g nl := hB_32.fr (fun j q1 q2 => (hf33 j (by omega)))
            refine k_callV hC (n_X11_crossing l hls G hN w33 fl g nl sv (a : Int) (b : Int) r3 0 (by omega) (by omega) (by omega) (by decide) hI h_94 hB_95 hB_96 hCt33 (by omega)) yy_X11_crossing wm_L_173 (kl hN (by decide)) h_94 rfl rfl rfl rfl (Nat.le_of_ble_eq_true rfl) (by decide) (by decide) ⟨by decide, by decide⟩ dL_areHats_233 (fun v97 w97 fl97 hp97 => ?_)
            obtain ⟨-, q1, q2, hp97⟩ := hp97
            subst q1
            subst q2
            obtain ⟨hCt97, hf97⟩ := hp97
            show KW p l e R s m args below meth c 18 G Q w97 fl 0 0 236 [(14, vI oth), (13, vI r29), (12, vI r27), (11, vI r25), (10, vI ((cN g a b r3 + cN g a d r3 + cN g b d r3) / 3)), (9, vI ((cE g a b r3 + cE g a d r3 + cE g b d r3) / 3)), (8, vI (hatA g a b d r3)), (7, vI (d : Int)), (6, vI (b : Int)), (5, vI (a : Int)), (4, vI best), (3, vI r3), (2, vI (g 2)), (0, .ref (kad G 0)), (1, vI v)] [vI (crsV g (a : Int).toNat (b : Int).toNat r3 0)]
            refine k_topv (vI (crsV g a b r3 0)) rfl ?_
            refine k_topv (vI (cE g a b r3)) (congrArg vI (crs_E _ hok.1)) ?_
            refine k_istore hC [(15, vI (cE g a b r3)), (14, vI oth), (13, vI r29), (12, vI r27), (11, vI r25), (10, vI ((cN g a b r3 + cN g a d r3 + cN g b d r3) / 3)), (9, vI ((cE g a b r3 + cE g a d r3 + cE g b d r3) / 3)), (8, vI (hatA g a b d r3)), (7, vI (d : Int)), (6, vI (b : Int)), (5, vI (a : Int)), (4, vI best), (3, vI r3), (2, vI (g 2)), (0, .ref (kad G 0)), (1, vI v)] dL_areHats_236 (by decide) rfl ?_
            refine k_aload_n hC dL_areHats_238 rfl 14 rfl ?_
            refine k_iload hC dL_areHats_239 10 rfl ?_
            refine k_iload hC dL_areHats_241 9 rfl ?_
            refine k_iload_n hC dL_areHats_243 rfl 12 rfl ?_
            refine k_iconst hC dL_areHats_244 ?_
            have h_98 : w97 0 = .inr (11, [.ref (kad G 1), .ref (kad G 32), .ref (kad G 3), .ref (kad G 37), vI sv, .ref (kad G 44), .ref (kad G 10), .ref (kad G 116), .ref (kad G 129), .ref (kad G 132)]) := (hf97 0 (by omega)).trans h_94
            have hB_99 : kLog G w97 3 g := hB_95.fr (fun j q1 q2 => (hf97 j (by omega)))
            have hB_100 : kPlan G w97 32 g nl := hB_96.fr (fun j q1 q2 => (hf97 j (by omega)))
            refine k_callV hC (n_X11_crossing l hls G hN w97 fl g nl sv (a : Int) (b : Int) r3 1 (by omega) (by omega) (by omega) (by decide) hI h_98 hB_99 hB_100 hCt97 (by omega)) yy_X11_crossing wm_L_173 (kl hN (by decide)) h_98 rfl rfl rfl rfl (Nat.le_of_ble_eq_true rfl) (by decide) (by decide) ⟨by decide, by decide⟩ dL_areHats_245 (fun v101 w101 fl101 hp101 => ?_)
            obtain ⟨-, q1, q2, hp101⟩ := hp101
            subst q1
            subst q2
            obtain ⟨hCt101, hf101⟩ := hp101
            show KW p l e R s m args below meth c 18 G Q w101 fl 0 0 248 [(15, vI (cE g a b r3)), (14, vI oth), (13, vI r29), (12, vI r27), (11, vI r25), (10, vI ((cN g a b r3 + cN g a d r3 + cN g b d r3) / 3)), (9, vI ((cE g a b r3 + cE g a d r3 + cE g b d r3) / 3)), (8, vI (hatA g a b d r3)), (7, vI (d : Int)), (6, vI (b : Int)), (5, vI (a : Int)), (4, vI best), (3, vI r3), (2, vI (g 2)), (0, .ref (kad G 0)), (1, vI v)] [vI (crsV g (a : Int).toNat (b : Int).toNat r3 1)]
            refine k_topv (vI (crsV g a b r3 1)) rfl ?_
            refine k_topv (vI (cN g a b r3)) (congrArg vI (crs_N _ hok.1)) ?_
            refine k_istore hC [(16, vI (cN g a b r3)), (15, vI (cE g a b r3)), (14, vI oth), (13, vI r29), (12, vI r27), (11, vI r25), (10, vI ((cN g a b r3 + cN g a d r3 + cN g b d r3) / 3)), (9, vI ((cE g a b r3 + cE g a d r3 + cE g b d r3) / 3)), (8, vI (hatA g a b d r3)), (7, vI (d : Int)), (6, vI (b : Int)), (5, vI (a : Int)), (4, vI best), (3, vI r3), (2, vI (g 2)), (0, .ref (kad G 0)), (1, vI v)] dL_areHats_248 (by decide) rfl ?_
            refine k_aload_n hC dL_areHats_250 rfl 15 rfl ?_
            refine k_iload hC dL_areHats_251 11 rfl ?_
            refine k_iload hC dL_areHats_253 10 rfl ?_
            refine k_iload hC dL_areHats_255 9 rfl ?_
            refine k_iload_n hC dL_areHats_257 rfl 13 rfl ?_
            refine k_iload hC dL_areHats_258 1 rfl ?_
            refine k_iload hC dL_areHats_260 0 rfl ?_
            have h_102 : w101 0 = .inr (11, [.ref (kad G 1), .ref (kad G 32), .ref (kad G 3), .ref (kad G 37), vI sv, .ref (kad G 44), .ref (kad G 10), .ref (kad G 116), .ref (kad G 129), .ref (kad G 132)]) := (hf101 0 (by omega)).trans h_98
            have hB_103 : kLog G w101 3 g := hB_99.fr (fun j q1 q2 => (hf101 j (by omega)))
            have hB_104 : kPlan G w101 32 g nl := hB_100.fr (fun j q1 q2 => (hf101 j (by omega)))
            refine k_callV hC (n_X11_isInside l hls G hN w101 fl g nl sv (a : Int) (b : Int) (d : Int) r3 (cE g a b r3) (cN g a b r3) (by omega) (by omega) (by omega) (by omega) (by omega) (by omega) hI h_102 hB_103 hB_104 hCt101 (by omega)) yy_X11_isInside wm_L_191 (kl hN (by decide)) h_102 rfl rfl rfl rfl (Nat.le_of_ble_eq_true rfl) (by decide) (by decide) ⟨by decide, by decide⟩ dL_areHats_262 (fun v105 w105 fl105 hp105 => ?_)
            obtain ⟨-, q1, q2, hp105⟩ := hp105
            subst q1
            subst q2
            obtain ⟨hCt105, hf105⟩ := hp105
            show KW p l e R s m args below meth c 18 G Q w105 fl 0 0 265 [(16, vI (cN g a b r3)), (15, vI (cE g a b r3)), (14, vI oth), (13, vI r29), (12, vI r27), (11, vI r25), (10, vI ((cN g a b r3 + cN g a d r3 + cN g b d r3) / 3)), (9, vI ((cE g a b r3 + cE g a d r3 + cE g b d r3) / 3)), (8, vI (hatA g a b d r3)), (7, vI (d : Int)), (6, vI (b : Int)), (5, vI (a : Int)), (4, vI best), (3, vI r3), (2, vI (g 2)), (0, .ref (kad G 0)), (1, vI v)] [vI (insV g (a : Int).toNat (b : Int).toNat (d : Int).toNat r3 (cE g a b r3) (cN g a b r3))]
            refine k_topv (vI (insV g a b d r3 (cE g a b r3) (cN g a b r3))) rfl ?_
            refine k_topv (vI (1)) (congrArg vI (ins_c hok)) ?_
            refine k_istore hC [(17, vI 1), (16, vI (cN g a b r3)), (15, vI (cE g a b r3)), (14, vI oth), (13, vI r29), (12, vI r27), (11, vI r25), (10, vI ((cN g a b r3 + cN g a d r3 + cN g b d r3) / 3)), (9, vI ((cE g a b r3 + cE g a d r3 + cE g b d r3) / 3)), (8, vI (hatA g a b d r3)), (7, vI (d : Int)), (6, vI (b : Int)), (5, vI (a : Int)), (4, vI best), (3, vI r3), (2, vI (g 2)), (0, .ref (kad G 0)), (1, vI v)] dL_areHats_265 (by decide) rfl ?_
            refine k_iload hC dL_areHats_267 0 rfl ?_
            refine k_if_eq hC 316 dL_areHats_269 rfl (by omega) (fun c_269 => absurd c_269 (by omega)) (fun c_269 => ?_)
            refine k_iload hC dL_areHats_272 9 rfl ?_
            refine k_sipush hC dL_areHats_274 (by decide) ?_
            refine k_icmp_lt hC 312 dL_areHats_277 rfl (by omega) (by omega) (fun c_277 => ?_) (fun c_277 => ?_)
            · refine k_iconst hC dL_areHats_312 ?_
              refine k_goto hC 317 dL_areHats_313 rfl ?_
              subst hQ
              exact k_zret hC (by omega) hr ⟨by decide, by decide⟩ (⟨trivial, rfl, rfl, ⟨hCt105, fun j hj => (hf105 j (by omega)).trans ((hf101 j (by omega)).trans ((hf97 j (by omega)).trans ((hf33 j (by omega)).trans ((hf23 j (by omega)).trans ((hf19 j (by omega)).trans ((hf15 j (by omega)).trans ((hf11 j (by omega)).trans ((hf7 j (by omega)).trans (hf1 j (by omega))))))))))⟩⟩) dL_areHats_317
            · refine k_aload_n hC dL_areHats_280 rfl 16 rfl ?_
              refine k_iload hC dL_areHats_281 12 rfl ?_
              refine k_iload hC dL_areHats_283 11 rfl ?_
              refine k_iload hC dL_areHats_285 10 rfl ?_
              refine k_iload_n hC dL_areHats_287 rfl 14 rfl ?_
              have h_107 : w105 0 = .inr (11, [.ref (kad G 1), .ref (kad G 32), .ref (kad G 3), .ref (kad G 37), vI sv, .ref (kad G 44), .ref (kad G 10), .ref (kad G 116), .ref (kad G 129), .ref (kad G 132)]) := (hf105 0 (by omega)).trans h_102
              have hB_108 : kLog G w105 3 g := hB_103.fr (fun j q1 q2 => (hf105 j (by omega)))
              have hB_109 : kPlan G w105 32 g nl := hB_104.fr (fun j q1 q2 => (hf105 j (by omega)))
              refine k_callS hC (c_L_isThin l hls G hN w105 fl g nl sv a b d r3 (by omega) (by omega) (by omega) (by omega) hok hI h_107 hB_108 hB_109 hCt105) yy_L_isThin wm_L_195 rfl rfl (Nat.le_of_ble_eq_true rfl) (by decide) (by decide) ⟨by decide, by decide⟩ dL_areHats_288 (fun v106 w106 fl106 hp106 => ?_)
              obtain ⟨z106, q1, q2, hz106, ht106, hCt106, hf106⟩ := hp106
              subst q1
              subst q2
              show KW p l e R s m args below meth c 18 G Q w106 fl 3 6 291 [(17, vI 1), (16, vI (cN g a b r3)), (15, vI (cE g a b r3)), (14, vI oth), (13, vI r29), (12, vI r27), (11, vI r25), (10, vI ((cN g a b r3 + cN g a d r3 + cN g b d r3) / 3)), (9, vI ((cE g a b r3 + cE g a d r3 + cE g b d r3) / 3)), (8, vI (hatA g a b d r3)), (7, vI (d : Int)), (6, vI (b : Int)), (5, vI (a : Int)), (4, vI best), (3, vI r3), (2, vI (g 2)), (0, .ref (kad G 0)), (1, vI v)] [vI z106]
              refine k_if_ne hC 312 dL_areHats_291 rfl (by omega) (fun c_291 => ?_) (fun c_291 => ?_)
              · refine k_iconst hC dL_areHats_312 ?_
                refine k_goto hC 317 dL_areHats_313 rfl ?_
                subst hQ
                exact k_zret hC (by omega) hr ⟨by decide, by decide⟩ (⟨trivial, rfl, rfl, ⟨hCt106, fun j hj => (hf106 j (by omega)).trans ((hf105 j (by omega)).trans ((hf101 j (by omega)).trans ((hf97 j (by omega)).trans ((hf33 j (by omega)).trans ((hf23 j (by omega)).trans ((hf19 j (by omega)).trans ((hf15 j (by omega)).trans ((hf11 j (by omega)).trans ((hf7 j (by omega)).trans (hf1 j (by omega)))))))))))⟩⟩) dL_areHats_317
              · refine k_aload_n hC dL_areHats_294 rfl 16 rfl ?_
                refine k_iload hC dL_areHats_295 12 rfl ?_
                refine k_iload hC dL_areHats_297 11 rfl ?_
                refine k_iload hC dL_areHats_299 10 rfl ?_
                refine k_iload_n hC dL_areHats_301 rfl 14 rfl ?_
                refine k_iload hC dL_areHats_302 8 rfl ?_
                refine k_iload hC dL_areHats_304 7 rfl ?_
                have h_110 : w106 0 = .inr (11, [.ref (kad G 1), .ref (kad G 32), .ref (kad G 3), .ref (kad G 37), vI sv, .ref (kad G 44), .ref (kad G 10), .ref (kad G 116), .ref (kad G 129), .ref (kad G 132)]) := (hf106 0 (by omega)).trans h_107
                have hB_111 : kLog G w106 3 g := hB_108.fr (fun j q1 q2 => (hf106 j (by omega)))
                have hB_112 : kPlan G w106 32 g nl := hB_109.fr (fun j q1 q2 => (hf106 j (by omega)))
                refine k_callV hC (n_X11_isInside l hls G hN w106 fl g nl sv (a : Int) (b : Int) (d : Int) r3 ((cE g a b r3 + cE g a d r3 + cE g b d r3) / 3) ((cN g a b r3 + cN g a d r3 + cN g b d r3) / 3) (by omega) (by omega) (by omega) (by omega) (by omega) (by omega) hI h_110 hB_111 hB_112 hCt106 (by omega)) yy_X11_isInside wm_L_191 (kl hN (by decide)) h_110 rfl rfl rfl rfl (Nat.le_of_ble_eq_true rfl) (by decide) (by decide) ⟨by decide, by decide⟩ dL_areHats_306 (fun v113 w113 fl113 hp113 => ?_)
                obtain ⟨-, q1, q2, hp113⟩ := hp113
                subst q1
                subst q2
                obtain ⟨hCt113, hf113⟩ := hp113
                show KW p l e R s m args below meth c 18 G Q w113 fl 3 6 309 [(17, vI 1), (16, vI (cN g a b r3)), (15, vI (cE g a b r3)), (14, vI oth), (13, vI r29), (12, vI r27), (11, vI r25), (10, vI ((cN g a b r3 + cN g a d r3 + cN g b d r3) / 3)), (9, vI ((cE g a b r3 + cE g a d r3 + cE g b d r3) / 3)), (8, vI (hatA g a b d r3)), (7, vI (d : Int)), (6, vI (b : Int)), (5, vI (a : Int)), (4, vI best), (3, vI r3), (2, vI (g 2)), (0, .ref (kad G 0)), (1, vI v)] [vI (insV g (a : Int).toNat (b : Int).toNat (d : Int).toNat r3 ((cE g a b r3 + cE g a d r3 + cE g b d r3) / 3) ((cN g a b r3 + cN g a d r3 + cN g b d r3) / 3))]
                refine k_topv (vI (insV g a b d r3 ((cE g a b r3 + cE g a d r3 + cE g b d r3) / 3) ((cN g a b r3 + cN g a d r3 + cN g b d r3) / 3))) rfl ?_
                refine k_topv (vI (1)) (congrArg vI (ins_m hok (by omega) (ht106 (by omega)))) ?_
                refine k_if_eq hC 316 dL_areHats_309 rfl (by omega) (fun c_309 => absurd c_309 (by omega)) (fun c_309 => ?_)
                refine k_iconst hC dL_areHats_312 ?_
                refine k_goto hC 317 dL_areHats_313 rfl ?_
                subst hQ
                exact k_zret hC (by omega) hr ⟨by decide, by decide⟩ (⟨trivial, rfl, rfl, ⟨hCt113, fun j hj => (hf113 j (by omega)).trans ((hf106 j (by omega)).trans ((hf105 j (by omega)).trans ((hf101 j (by omega)).trans ((hf97 j (by omega)).trans ((hf33 j (by omega)).trans ((hf23 j (by omega)).trans ((hf19 j (by omega)).trans ((hf15 j (by omega)).trans ((hf11 j (by omega)).trans ((hf7 j (by omega)).trans (hf1 j (by omega))))))))))))⟩⟩) dL_areHats_317
    · refine k_iconst hC dL_areHats_48 ?_
      subst hQ
      exact k_zret hC (by omega) hr ⟨by decide, by decide⟩ (⟨trivial, rfl, rfl, ⟨hCt7, fun j hj => (hf7 j (by omega)).trans (hf1 j (by omega))⟩⟩) dL_areHats_49
  · have hlo : leastM g r3 = -1 := by
      rcases least_ok g r3 (g 2).toNat rfl with h | ⟨a, b, d, h1, h2, h3, -⟩
      · exact h
      · omega
    refine k_aload_n hC dL_areHats_21 rfl 2 rfl ?_
    refine k_iload_n hC dL_areHats_22 rfl 0 rfl ?_
    have h_114 : w1 0 = .inr (11, [.ref (kad G 1), .ref (kad G 32), .ref (kad G 3), .ref (kad G 37), vI sv, .ref (kad G 44), .ref (kad G 10), .ref (kad G 116), .ref (kad G 129), .ref (kad G 132)]) := (hf1 0 (by omega)).trans h00
    have hB_115 : kLog G w1 3 g := hL.fr (fun j q1 q2 => (hf1 j (by omega)))
    have hB_116 : kPlan G w1 32 g nl := hP.fr (fun j q1 q2 => (hf1 j (by omega)))
    refine k_callV hC (n_X11_smallestHat l hls G hN w1 fl g nl sv r3 (by omega) hI h_114 hB_115 hB_116 hCt1 (by omega)) yy_X11_smallestHat wm_L_185 (kl hN (by decide)) h_114 rfl rfl rfl rfl (Nat.le_of_ble_eq_true rfl) (by decide) (by decide) ⟨by decide, by decide⟩ dL_areHats_23 (fun v117 w117 fl117 hp117 => ?_)
    obtain ⟨-, q1, q2, hp117⟩ := hp117
    subst q1
    subst q2
    obtain ⟨hCt117, hf117⟩ := hp117
    show KW p l e R s m args below meth c 18 G Q w117 fl 0 0 26 [(3, vI r3), (2, vI (g 2)), (0, .ref (kad G 0)), (1, vI v)] [vI (leastM g r3)]
    refine k_topI (fun bst ebst => ?_)
    have hbb : -1 ≤ bst ∧ bst ≤ 200000 := by rw [ebst]; exact leastM_b hI _
    refine k_iconst hC dL_areHats_26 ?_
    refine k_icmp_ne hC 34 dL_areHats_27 rfl (by omega) (by omega) (fun c_27 => absurd (ebst.trans hlo) c_27) (fun c_27 => ?_)
    refine k_iconst hC dL_areHats_30 ?_
    refine k_goto hC 35 dL_areHats_31 rfl ?_
    subst hQ
    exact k_zret hC (by omega) hr ⟨by decide, by decide⟩ (⟨trivial, rfl, rfl, ⟨hCt117, fun j hj => (hf117 j (by omega)).trans (hf1 j (by omega))⟩⟩) dL_areHats_35

