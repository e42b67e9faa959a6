theorem fix_0 {g : Nat → Int} (T : Int) (h : fixP g) : fixV g T 0 = fixE g T := selI_1 h
theorem fix_1 {g : Nat → Int} (T : Int) (h : fixP g) : fixV g T 1 = fixN g T := selI_1 h
theorem unk_1 {g : Nat → Int} {T : Int} (h : fixP g) : unkV g T 1 = (6 * dstM g T).fdiv T := selI_1 h
theorem unk_0 {g : Nat → Int} {T : Int} (h : fixP g) : unkV g T 0 = dirM (fixE g T - dispM g T false) (fixN g T - dispM g T true) (dstM g T) := selI_1 h
theorem mr_1 {g : Nat → Int} {T : Int} (h : fixP g) : mrV g T = FP.ddiv (dI (sumR g T (g 2).toNat)) (dI (g 2)) := by
  have := fixP_pos h
  unfold mrV
  exact if_neg (fun q => q.elim (fun q => by omega) (fun q => q h))
theorem mr_0 {g : Nat → Int} {T : Int} (h : ¬ fixP g) : mrV g T = 0 := if_pos (Or.inr h)
theorem dst_ok {g : Nat → Int} (T : Int) : 0 ≤ dstM g T ∧ dstM g T * dstM g T ≤ (fixE g T - dispM g T false) * (fixE g T - dispM g T false) + (fixN g T - dispM g T true) * (fixN g T - dispM g T true) ∧ (fixE g T - dispM g T false) * (fixE g T - dispM g T false) + (fixN g T - dispM g T true) * (fixN g T - dispM g T true) < (dstM g T + 1) * (dstM g T + 1) :=
  rootM_x _ (by have h1 := sq_nn (fixE g T - dispM g T false); have h2 := sq_nn (fixN g T - dispM g T true); omega)
theorem worV_b {g : Nat → Int} (hI : Inv g) (T : Int) : -1 ≤ worV g T ∧ worV g T ≤ 12 := by
  have h0 := hI.c
  rcases wor_c g T with ⟨-, h⟩ | ⟨-, k, h1, h2, -⟩ <;> omega
theorem dcmp00 : Op.cmpValue (FP.dcmp 0 0) .l = Int32.ofInt 0 := by decide +kernel
theorem dcmplt {x y : UInt64} (h : FP.dcmp x y = some .lt) : Op.cmpValue (FP.dcmp x y) .g = Int32.ofInt (-1) := by rw [h]; rfl
set_option maxRecDepth 100000 in
set_option maxHeartbeats 4000000 in
theorem c_L_isFix (l : Launch) (hls : l.stackTraces = false) (G : kG) (hN : 133 ≤ kN G) (w : Nat → va_E) (fl : va_W) (g nl : Nat → Int) (sv : Int) (v : Int) (hI : Inv g) (h00 : w 0 = srO G sv) (hL : kLog G w 3 g) (hP : kPlan G w 32 g nl) (hCt : kCht G w) : KM l G yL_isFix cL_isFix 14 (some (FieldType.boolean)) 8 0 0 [.ref (kad G 0), vI v] w fl (kOk True (vI 1) fl (kCP G w)) := by
  refine KM_of2 hls (by decide +kernel) rfl (lv0 := [(0, .ref (kad G 0)), (1, vI v)]) rfl (Nat.le_of_ble_eq_true rfl) (fun p e R s m args below meth c Q hC hr hQ => ?_)
  have h0 := hI.c
  refine k_iconst hC dL_isFix_0 ?_
  refine k_iload_n hC dL_isFix_1 rfl 1 rfl ?_
  refine k_iconst hC dL_isFix_2 ?_
  refine k_ishrA hC dL_isFix_3 (fun y_1 hy_1 => ?_)
  refine k_sipush hC dL_isFix_4 (by decide) ?_
  refine k_callS hC (c_L_most l hls G hN w fl y_1 1500 (by omega)) yy_L_most wm_L_27 rfl rfl (Nat.le_of_ble_eq_true rfl) (by decide) (by decide) ⟨by decide, by decide⟩ dL_isFix_7 (fun v2 w2 fl2 hp2 => ?_)
  obtain ⟨r2, hr2, hs2, q1, q2, q3⟩ := hp2
  subst q1
  subst q2
  subst q3
  show KW p l e R s m args below meth c 14 G Q w fl 0 0 10 [(0, .ref (kad G 0)), (1, vI v)] [vI r2, vI 1]
  refine k_iadd hC dL_isFix_10 ?_
  refine k_topI (fun T eT => ?_)
  refine k_istore_n hC [(2, vI T), (0, .ref (kad G 0)), (1, vI v)] dL_isFix_11 rfl (by decide) rfl ?_
  have ht : 0 ≤ T ∧ T ≤ 5000 := by omega
  refine k_aload_n hC dL_isFix_12 rfl 1 rfl ?_
  refine k_iload_n hC dL_isFix_13 rfl 0 rfl ?_
  refine k_callV hC (n_X11_worst l hls G hN w fl g nl sv T (by omega) hI h00 hL hP hCt (by omega)) yy_X11_worst wm_L_208 (kl hN (by decide)) h00 rfl rfl rfl rfl (Nat.le_of_ble_eq_true rfl) (by decide) (by decide) ⟨by decide, by decide⟩ dL_isFix_14 (fun v3 w3 fl3 hp3 => ?_)
  obtain ⟨-, q1, q2, hp3⟩ := hp3
  subst q1
  subst q2
  obtain ⟨hCt3, hf3⟩ := hp3
  show KW p l e R s m args below meth c 14 G Q w3 fl 0 0 17 [(2, vI T), (0, .ref (kad G 0)), (1, vI v)] [vI (worV g T)]
  refine k_topI (fun wo ewo => ?_)
  have hwb := worV_b hI T
  rw [← ewo] at hwb
  refine k_istore_n hC [(3, vI wo), (2, vI T), (0, .ref (kad G 0)), (1, vI v)] dL_isFix_17 rfl (by decide) rfl ?_
  refine k_iload_n hC dL_isFix_18 rfl 0 rfl ?_
  refine k_if_ge hC 59 dL_isFix_19 rfl (by omega) (fun c_19 => ?_) (fun c_19 => ?_)
  · obtain ⟨hfp, k, hk, hwk, hmax⟩ := (wor_c g T).resolve_left (fun q => by have := q.2; omega)
    have ewk : wo = (k : Int) := by rw [ewo, hwk]
    subst ewk
    have hrk := resM_b hI ht k hk
    have hfe := fixE_b g T
    have hfn := fixN_b g T
    have hd1 := dispM_b hI ht false
    have hd2 := dispM_b hI ht true
    have hdst := dstM_b hI ht
    obtain ⟨hq0, hq1, hq2⟩ := dst_ok (g := g) T
    have hdir := dirM_b (x := fixE g T - dispM g T false) (y := fixN g T - dispM g T true) (r := dstM g T) hq0
    have hpp := fixP_pos hfp
    have hn12 : 1 ≤ (g 2).toNat ∧ (g 2).toNat ≤ 12 := by omega
    have hm1 := mul_le_abs (a := fixE g T - dispM g T false) (b := fixE g T - dispM g T false) (A := 1420000) (B := 1420000) (by omega) (by omega)
    have hm2 := mul_le_abs (a := fixN g T - dispM g T true) (b := fixN g T - dispM g T true) (A := 1420000) (B := 1420000) (by omega) (by omega)
    have hm3 := mul_le_abs (a := dstM g T) (b := dstM g T) (A := 2100000) (B := 2100000) (by omega) (by omega)
    have hm4 := mul_le_abs (a := dstM g T + 1) (b := dstM g T + 1) (A := 2100001) (B := 2100001) (by omega) (by omega)
    have hfd := k_fdivb (a := 6 * dstM g T) (b := T) (by omega)
    have htd : (6 * dstM g T).tdiv T = (6 * dstM g T).fdiv T := by rw [Int.tdiv_eq_ediv_of_nonneg (by omega), Int.fdiv_eq_ediv_of_nonneg _ (by omega)]
    refine k_aload_n hC dL_isFix_59 rfl 2 rfl ?_
    refine k_iload_n hC dL_isFix_60 rfl 0 rfl ?_
    refine k_iload_n hC dL_isFix_61 rfl 1 rfl ?_
    have h_4 : w3 0 = .inr (11, [.ref (kad G 1), .ref (kad G 32), .ref (kad G 3), .ref (kad G 37), vI sv, .ref (kad G 44), .ref (kad G 10), .ref (kad G 116), .ref (kad G 129), .ref (kad G 132)]) := (hf3 0 (by omega)).trans h00
    have hB_5 : kLog G w3 3 g := hL.fr (fun j q1 q2 => (hf3 j (by omega)))
    have hB_6 : kPlan G w3 32 g nl := hP.fr (fun j q1 q2 => (hf3 j (by omega)))
    refine k_callV hC (n_X11_residual l hls G hN w3 fl g nl sv (k : Int) T (by omega) (by omega) hI h_4 hB_5 hB_6 hCt3 (by omega)) yy_X11_residual wm_L_222 (kl hN (by decide)) h_4 rfl rfl rfl rfl (Nat.le_of_ble_eq_true rfl) (by decide) (by decide) ⟨by decide, by decide⟩ dL_isFix_62 (fun v7 w7 fl7 hp7 => ?_)
    obtain ⟨-, q1, q2, hp7⟩ := hp7
    subst q1
    subst q2
    obtain ⟨hCt7, hf7⟩ := hp7
    show KW p l e R s m args below meth c 14 G Q w7 fl 0 0 65 [(3, vI (k : Int)), (2, vI T), (0, .ref (kad G 0)), (1, vI v)] [vI (resV g T (k : Int).toNat)]
    refine k_topv (vI (resV g T k)) rfl ?_
    refine k_topv (vI (resM g T k)) (congrArg vI (selI_1 hfp)) ?_
    refine k_mabs hC wm_L_86 wmath_mabs (by omega) (by decide) (Nat.le_of_ble_eq_true rfl) ⟨by decide, by decide⟩ dL_isFix_65 ?_
    refine k_i2l hC dL_isFix_68 (by omega) ?_
    refine k_lstore hC [(4, vL ((resM g T k).natAbs : Int)), (3, vI (k : Int)), (2, vI T), (0, .ref (kad G 0)), (1, vI v)] dL_isFix_69 (by decide) rfl ?_
    refine k_dconst0 hC dL_isFix_71 ?_
    refine k_dstore hC [(6, .double 0), (4, vL ((resM g T k).natAbs : Int)), (3, vI (k : Int)), (2, vI T), (0, .ref (kad G 0)), (1, vI v)] dL_isFix_72 (by decide) rfl ?_
    refine k_iconst hC dL_isFix_74 ?_
    refine k_istore hC [(8, vI 0), (6, .double 0), (4, vL ((resM g T k).natAbs : Int)), (3, vI (k : Int)), (2, vI T), (0, .ref (kad G 0)), (1, vI v)] dL_isFix_75 (by decide) rfl ?_
    obtain ⟨S9, hS9, hS9b⟩ := sumR_n hI ht (g 2).toNat (by omega)
    have loop1 : ∀ (n1 : Nat) (j : Nat) (sd : UInt64) (sm : Nat) (u1 : Nat → va_E), ((g 2).toNat < n1 + j) → ((j : Int) ≤ g 2) → (fl_N sd sm) → (sumR g T j = (sm : Int)) → (sm ≤ 6300000 * j) → (u1 0 = .inr (11, [.ref (kad G 1), .ref (kad G 32), .ref (kad G 3), .ref (kad G 37), vI sv, .ref (kad G 44), .ref (kad G 10), .ref (kad G 116), .ref (kad G 129), .ref (kad G 132)])) → (kLog G u1 3 g) → (kPlan G u1 32 g nl) → (kCht G u1) → ((∀ j, (j < 10 ∨ 31 < j) → u1 j = w j)) → KW p l e R s m args below meth c 14 G Q u1 fl 0 0 77 [(8, vI (j : Int)), (6, .double sd), (4, vL ((resM g T k).natAbs : Int)), (3, vI (k : Int)), (2, vI T), (0, .ref (kad G 0)), (1, vI v)] [] := by
      intro n1
      induction n1 with
      | zero =>
        intro j sd sm u1 hn_1 hj hsd hsm hsb h0x hLx hPx hCx hfr1
        exact absurd hn_1 (by omega)
      | succ n1 ih1 =>
        intro j sd sm u1 hn_1 hj hsd hsm hsb h0x hLx hPx hCx hfr1
        refine k_iload hC dL_isFix_77 0 rfl ?_
        refine k_aload_n hC dL_isFix_79 rfl 5 rfl ?_
        refine k_iconst hC dL_isFix_80 ?_
        refine k_callV hC (n_X11_told l hls G hN u1 fl g nl sv 2 (by omega) hI h0x hLx hPx hCx (by omega)) yy_X11_told wm_L_126 (kl hN (by decide)) h0x rfl rfl rfl rfl (Nat.le_of_ble_eq_true rfl) (by decide) (by decide) ⟨by decide, by decide⟩ dL_isFix_81 (fun v8 w8 fl8 hp8 => ?_)
        obtain ⟨-, q1, q2, hp8⟩ := hp8
        subst q1
        subst q2
        obtain ⟨hCt8, hf8⟩ := hp8
        show KW p l e R s m args below meth c 14 G Q w8 fl 0 0 84 [(8, vI (j : Int)), (6, .double sd), (4, vL ((resM g T k).natAbs : Int)), (3, vI (k : Int)), (2, vI T), (0, .ref (kad G 0)), (1, vI v)] [vI (g (2 : Int).toNat), vI (j : Int)]
        refine k_topv (vI (g 2)) rfl ?_
        refine k_icmp_ge hC 165 dL_isFix_84 rfl (by omega) (by omega) (fun c_84 => ?_) (fun c_84 => ?_)
        · have ej : j = (g 2).toNat := by omega
          have hsm2 : sumR g T (g 2).toNat = (sm : Int) := by rw [← ej]; exact hsm
          have hfin := fl_end (S := sm) (n := (g 2).toNat) (by omega) hn12 hsd (fl_Ni (i := sumR g T (g 2).toNat) hsm2 (by omega)) (fl_Ni (i := g 2) (n := (g 2).toNat) (by omega) (by omega))
          refine k_aload_n hC dL_isFix_165 rfl 5 rfl ?_
          refine k_iload_n hC dL_isFix_166 rfl 4 rfl ?_
          refine k_iconst hC dL_isFix_167 ?_
          have h_9 : w8 0 = .inr (11, [.ref (kad G 1), .ref (kad G 32), .ref (kad G 3), .ref (kad G 37), vI sv, .ref (kad G 44), .ref (kad G 10), .ref (kad G 116), .ref (kad G 129), .ref (kad G 132)]) := (hf8 0 (by omega)).trans h0x
          have hB_10 : kLog G w8 3 g := hLx.fr (fun j q1 q2 => (hf8 j (by omega)))
          have hB_11 : kPlan G w8 32 g nl := hPx.fr (fun j q1 q2 => (hf8 j (by omega)))
          refine k_callV hC (n_X11_fix l hls G hN w8 fl g nl sv T 0 (by omega) (by decide) hI h_9 hB_10 hB_11 hCt8 (by omega)) yy_X11_fix wm_L_211 (kl hN (by decide)) h_9 rfl rfl rfl rfl (Nat.le_of_ble_eq_true rfl) (by decide) (by decide) ⟨by decide, by decide⟩ dL_isFix_168 (fun v12 w12 fl12 hp12 => ?_)
          obtain ⟨-, q1, q2, hp12⟩ := hp12
          subst q1
          subst q2
          obtain ⟨hCt12, hf12⟩ := hp12
          show KW p l e R s m args below meth c 14 G Q w12 fl 0 0 171 [(8, vI (j : Int)), (6, .double sd), (4, vL ((resM g T k).natAbs : Int)), (3, vI (k : Int)), (2, vI T), (0, .ref (kad G 0)), (1, vI v)] [vI (fixV g T 0)]
          refine k_topv (vI (fixE g T)) (congrArg vI (fix_0 T hfp)) ?_
          refine k_aload_n hC dL_isFix_171 rfl 5 rfl ?_
          refine k_iload_n hC dL_isFix_172 rfl 4 rfl ?_
          refine k_iconst hC dL_isFix_173 ?_
          have h_13 : w12 0 = .inr (11, [.ref (kad G 1), .ref (kad G 32), .ref (kad G 3), .ref (kad G 37), vI sv, .ref (kad G 44), .ref (kad G 10), .ref (kad G 116), .ref (kad G 129), .ref (kad G 132)]) := (hf12 0 (by omega)).trans h_9
          have hB_14 : kLog G w12 3 g := hB_10.fr (fun j q1 q2 => (hf12 j (by omega)))
          have hB_15 : kPlan G w12 32 g nl := hB_11.fr (fun j q1 q2 => (hf12 j (by omega)))
          refine k_callV hC (n_X11_displacement l hls G hN w12 fl g nl sv T 0 (by omega) (by decide) hI h_13 hB_14 hB_15 hCt12 (by omega)) yy_X11_displacement wm_L_225 (kl hN (by decide)) h_13 rfl rfl rfl rfl (Nat.le_of_ble_eq_true rfl) (by decide) (by decide) ⟨by decide, by decide⟩ dL_isFix_174 (fun v16 w16 fl16 hp16 => ?_)
          obtain ⟨-, q1, q2, hp16⟩ := hp16
          subst q1
          subst q2
          obtain ⟨hCt16, hf16⟩ := hp16
          show KW p l e R s m args below meth c 14 G Q w16 fl 0 0 177 [(8, vI (j : Int)), (6, .double sd), (4, vL ((resM g T k).natAbs : Int)), (3, vI (k : Int)), (2, vI T), (0, .ref (kad G 0)), (1, vI v)] [vI (if 0 = 0 then dispM g T false else dispM g T true), vI (fixE g T)]
          refine k_topv (vI (dispM g T false)) rfl ?_
          refine k_isub hC dL_isFix_177 ?_
          refine k_i2l hC dL_isFix_178 (by omega) ?_
          refine k_lstore hC [(8, vL ((fixE g T) - (dispM g T false))), (6, .double sd), (4, vL ((resM g T k).natAbs : Int)), (3, vI (k : Int)), (2, vI T), (0, .ref (kad G 0)), (1, vI v)] dL_isFix_179 (by decide) rfl ?_
          refine k_aload_n hC dL_isFix_181 rfl 5 rfl ?_
          refine k_iload_n hC dL_isFix_182 rfl 4 rfl ?_
          refine k_iconst hC dL_isFix_183 ?_
          have h_17 : w16 0 = .inr (11, [.ref (kad G 1), .ref (kad G 32), .ref (kad G 3), .ref (kad G 37), vI sv, .ref (kad G 44), .ref (kad G 10), .ref (kad G 116), .ref (kad G 129), .ref (kad G 132)]) := (hf16 0 (by omega)).trans h_13
          have hB_18 : kLog G w16 3 g := hB_14.fr (fun j q1 q2 => (hf16 j (by omega)))
          have hB_19 : kPlan G w16 32 g nl := hB_15.fr (fun j q1 q2 => (hf16 j (by omega)))
          refine k_callV hC (n_X11_fix l hls G hN w16 fl g nl sv T 1 (by omega) (by decide) hI h_17 hB_18 hB_19 hCt16 (by omega)) yy_X11_fix wm_L_211 (kl hN (by decide)) h_17 rfl rfl rfl rfl (Nat.le_of_ble_eq_true rfl) (by decide) (by decide) ⟨by decide, by decide⟩ dL_isFix_184 (fun v20 w20 fl20 hp20 => ?_)
          obtain ⟨-, q1, q2, hp20⟩ := hp20
          subst q1
          subst q2
          obtain ⟨hCt20, hf20⟩ := hp20
          show KW p l e R s m args below meth c 14 G Q w20 fl 0 0 187 [(8, vL ((fixE g T) - (dispM g T false))), (6, .double sd), (4, vL ((resM g T k).natAbs : Int)), (3, vI (k : Int)), (2, vI T), (0, .ref (kad G 0)), (1, vI v)] [vI (fixV g T 1)]
          refine k_topv (vI (fixN g T)) (congrArg vI (fix_1 T hfp)) ?_
          refine k_aload_n hC dL_isFix_187 rfl 5 rfl ?_
          refine k_iload_n hC dL_isFix_188 rfl 4 rfl ?_
          refine k_iconst hC dL_isFix_189 ?_
          have h_21 : w20 0 = .inr (11, [.ref (kad G 1), .ref (kad G 32), .ref (kad G 3), .ref (kad G 37), vI sv, .ref (kad G 44), .ref (kad G 10), .ref (kad G 116), .ref (kad G 129), .ref (kad G 132)]) := (hf20 0 (by omega)).trans h_17
          have hB_22 : kLog G w20 3 g := hB_18.fr (fun j q1 q2 => (hf20 j (by omega)))
          have hB_23 : kPlan G w20 32 g nl := hB_19.fr (fun j q1 q2 => (hf20 j (by omega)))
          refine k_callV hC (n_X11_displacement l hls G hN w20 fl g nl sv T 1 (by omega) (by decide) hI h_21 hB_22 hB_23 hCt20 (by omega)) yy_X11_displacement wm_L_225 (kl hN (by decide)) h_21 rfl rfl rfl rfl (Nat.le_of_ble_eq_true rfl) (by decide) (by decide) ⟨by decide, by decide⟩ dL_isFix_190 (fun v24 w24 fl24 hp24 => ?_)
          obtain ⟨-, q1, q2, hp24⟩ := hp24
          subst q1
          subst q2
          obtain ⟨hCt24, hf24⟩ := hp24
          show KW p l e R s m args below meth c 14 G Q w24 fl 0 0 193 [(8, vL ((fixE g T) - (dispM g T false))), (6, .double sd), (4, vL ((resM g T k).natAbs : Int)), (3, vI (k : Int)), (2, vI T), (0, .ref (kad G 0)), (1, vI v)] [vI (if 1 = 0 then dispM g T false else dispM g T true), vI (fixN g T)]
          refine k_topv (vI (dispM g T true)) rfl ?_
          refine k_isub hC dL_isFix_193 ?_
          refine k_i2l hC dL_isFix_194 (by omega) ?_
          refine k_lstore hC [(10, vL ((fixN g T) - (dispM g T true))), (8, vL ((fixE g T) - (dispM g T false))), (6, .double sd), (4, vL ((resM g T k).natAbs : Int)), (3, vI (k : Int)), (2, vI T), (0, .ref (kad G 0)), (1, vI v)] dL_isFix_195 (by decide) rfl ?_
          refine k_aload_n hC dL_isFix_197 rfl 6 rfl ?_
          refine k_iload_n hC dL_isFix_198 rfl 5 rfl ?_
          have h_25 : w24 0 = .inr (11, [.ref (kad G 1), .ref (kad G 32), .ref (kad G 3), .ref (kad G 37), vI sv, .ref (kad G 44), .ref (kad G 10), .ref (kad G 116), .ref (kad G 129), .ref (kad G 132)]) := (hf24 0 (by omega)).trans h_21
          have hB_26 : kLog G w24 3 g := hB_22.fr (fun j q1 q2 => (hf24 j (by omega)))
          have hB_27 : kPlan G w24 32 g nl := hB_23.fr (fun j q1 q2 => (hf24 j (by omega)))
          refine k_callV hC (n_X11_offCourse l hls G hN w24 fl g nl sv T (by omega) hI h_25 hB_26 hB_27 hCt24 (by omega)) yy_X11_offCourse wm_L_215 (kl hN (by decide)) h_25 rfl rfl rfl rfl (Nat.le_of_ble_eq_true rfl) (by decide) (by decide) ⟨by decide, by decide⟩ dL_isFix_199 (fun v28 w28 fl28 hp28 => ?_)
          obtain ⟨-, q1, q2, hp28⟩ := hp28
          subst q1
          subst q2
          obtain ⟨hCt28, hf28⟩ := hp28
          show KW p l e R s m args below meth c 14 G Q w28 fl 0 0 202 [(10, vL ((fixN g T) - (dispM g T true))), (8, vL ((fixE g T) - (dispM g T false))), (6, .double sd), (4, vL ((resM g T k).natAbs : Int)), (3, vI (k : Int)), (2, vI T), (0, .ref (kad G 0)), (1, vI v)] [vI (offV g T)]
          refine k_topv (vI (dstM g T)) (congrArg vI (selI_1 hfp)) ?_
          refine k_i2l hC dL_isFix_202 (by omega) ?_
          refine k_lstore hC [(12, vL (dstM g T)), (10, vL ((fixN g T) - (dispM g T true))), (8, vL ((fixE g T) - (dispM g T false))), (6, .double sd), (4, vL ((resM g T k).natAbs : Int)), (3, vI (k : Int)), (2, vI T), (0, .ref (kad G 0)), (1, vI v)] dL_isFix_203 (by decide) rfl ?_
          refine k_lload hC dL_isFix_205 0 rfl ?_
          refine k_lload hC dL_isFix_207 0 rfl ?_
          refine k_lmul hC dL_isFix_209 ?_
          refine k_lload hC dL_isFix_210 2 rfl ?_
          refine k_lload hC dL_isFix_212 2 rfl ?_
          refine k_lmul hC dL_isFix_214 ?_
          refine k_lload hC dL_isFix_215 1 rfl ?_
          refine k_lload hC dL_isFix_217 1 rfl ?_
          refine k_lmul hC dL_isFix_219 ?_
          refine k_ladd hC dL_isFix_220 ?_
          refine k_lcmp_gt hC 269 dL_isFix_221 dL_isFix_222 rfl (by omega) (by omega) (fun c_221 => absurd c_221 (by omega)) (fun c_221 => ?_)
          refine k_lload hC dL_isFix_225 0 rfl ?_
          refine k_lconst (x := 1) hC dL_isFix_227 (by decide) ?_
          refine k_ladd hC dL_isFix_228 ?_
          refine k_lload hC dL_isFix_229 0 rfl ?_
          refine k_lconst (x := 1) hC dL_isFix_231 (by decide) ?_
          refine k_ladd hC dL_isFix_232 ?_
          refine k_lmul hC dL_isFix_233 ?_
          refine k_lload hC dL_isFix_234 2 rfl ?_
          refine k_lload hC dL_isFix_236 2 rfl ?_
          refine k_lmul hC dL_isFix_238 ?_
          refine k_lload hC dL_isFix_239 1 rfl ?_
          refine k_lload hC dL_isFix_241 1 rfl ?_
          refine k_lmul hC dL_isFix_243 ?_
          refine k_ladd hC dL_isFix_244 ?_
          refine k_lcmp_le hC 269 dL_isFix_245 dL_isFix_246 rfl (by omega) (by omega) (fun c_245 => absurd c_245 (by omega)) (fun c_245 => ?_)
          refine k_aload_n hC dL_isFix_249 rfl 7 rfl ?_
          refine k_iload_n hC dL_isFix_250 rfl 6 rfl ?_
          refine k_iconst hC dL_isFix_251 ?_
          have h_29 : w28 0 = .inr (11, [.ref (kad G 1), .ref (kad G 32), .ref (kad G 3), .ref (kad G 37), vI sv, .ref (kad G 44), .ref (kad G 10), .ref (kad G 116), .ref (kad G 129), .ref (kad G 132)]) := (hf28 0 (by omega)).trans h_25
          have hB_30 : kLog G w28 3 g := hB_26.fr (fun j q1 q2 => (hf28 j (by omega)))
          have hB_31 : kPlan G w28 32 g nl := hB_27.fr (fun j q1 q2 => (hf28 j (by omega)))
          refine k_callV hC (n_X11_unknownCurrent l hls G hN w28 fl g nl sv T 1 (by omega) (by decide) hI h_29 hB_30 hB_31 hCt28 (by omega)) yy_X11_unknownCurrent wm_L_228 (kl hN (by decide)) h_29 rfl rfl rfl rfl (Nat.le_of_ble_eq_true rfl) (by decide) (by decide) ⟨by decide, by decide⟩ dL_isFix_252 (fun v32 w32 fl32 hp32 => ?_)
          obtain ⟨-, q1, q2, hp32⟩ := hp32
          subst q1
          subst q2
          obtain ⟨hCt32, hf32⟩ := hp32
          show KW p l e R s m args below meth c 14 G Q w32 fl 0 0 255 [(12, vL (dstM g T)), (10, vL ((fixN g T) - (dispM g T true))), (8, vL ((fixE g T) - (dispM g T false))), (6, .double sd), (4, vL ((resM g T k).natAbs : Int)), (3, vI (k : Int)), (2, vI T), (0, .ref (kad G 0)), (1, vI v)] [vI (unkV g T 1)]
          refine k_topv (vI ((6 * dstM g T).fdiv T)) (congrArg vI (unk_1 hfp)) ?_
          refine k_i2l hC dL_isFix_255 (by omega) ?_
          refine k_ldc2 hC (x := 6) (v := 6) dL_isFix_256 (by decide) wk_L_231 ?_
          refine k_lload hC dL_isFix_259 0 rfl ?_
          refine k_lmul hC dL_isFix_261 ?_
          refine k_iload_n hC dL_isFix_262 rfl 6 rfl ?_
          refine k_i2l hC dL_isFix_263 (by omega) ?_
          refine k_ldiv hC dL_isFix_264 (by omega) (by omega) ?_
          refine k_lcmp_eq hC 271 dL_isFix_265 dL_isFix_266 rfl (by omega) (by omega) (fun c_265 => ?_) (fun c_265 => absurd htd.symm c_265)
          refine k_aload_n hC dL_isFix_271 rfl 7 rfl ?_
          refine k_iload_n hC dL_isFix_272 rfl 6 rfl ?_
          refine k_iconst hC dL_isFix_273 ?_
          have h_33 : w32 0 = .inr (11, [.ref (kad G 1), .ref (kad G 32), .ref (kad G 3), .ref (kad G 37), vI sv, .ref (kad G 44), .ref (kad G 10), .ref (kad G 116), .ref (kad G 129), .ref (kad G 132)]) := (hf32 0 (by omega)).trans h_29
          have hB_34 : kLog G w32 3 g := hB_30.fr (fun j q1 q2 => (hf32 j (by omega)))
          have hB_35 : kPlan G w32 32 g nl := hB_31.fr (fun j q1 q2 => (hf32 j (by omega)))
          refine k_callV hC (n_X11_unknownCurrent l hls G hN w32 fl g nl sv T 0 (by omega) (by decide) hI h_33 hB_34 hB_35 hCt32 (by omega)) yy_X11_unknownCurrent wm_L_228 (kl hN (by decide)) h_33 rfl rfl rfl rfl (Nat.le_of_ble_eq_true rfl) (by decide) (by decide) ⟨by decide, by decide⟩ dL_isFix_274 (fun v36 w36 fl36 hp36 => ?_)
          obtain ⟨-, q1, q2, hp36⟩ := hp36
          subst q1
          subst q2
          obtain ⟨hCt36, hf36⟩ := hp36
          show KW p l e R s m args below meth c 14 G Q w36 fl 0 0 277 [(12, vL (dstM g T)), (10, vL ((fixN g T) - (dispM g T true))), (8, vL ((fixE g T) - (dispM g T false))), (6, .double sd), (4, vL ((resM g T k).natAbs : Int)), (3, vI (k : Int)), (2, vI T), (0, .ref (kad G 0)), (1, vI v)] [vI (unkV g T 0)]
          refine k_topv (vI (dirM (fixE g T - dispM g T false) (fixN g T - dispM g T true) (dstM g T))) (congrArg vI (unk_0 hfp)) ?_
          refine k_if_lt hC 326 dL_isFix_277 rfl (by omega) (fun c_277 => absurd c_277 (by omega)) (fun c_277 => ?_)
          refine k_aload_n hC dL_isFix_280 rfl 7 rfl ?_
          refine k_iload_n hC dL_isFix_281 rfl 6 rfl ?_
          refine k_iconst hC dL_isFix_282 ?_
          have h_37 : w36 0 = .inr (11, [.ref (kad G 1), .ref (kad G 32), .ref (kad G 3), .ref (kad G 37), vI sv, .ref (kad G 44), .ref (kad G 10), .ref (kad G 116), .ref (kad G 129), .ref (kad G 132)]) := (hf36 0 (by omega)).trans h_33
          have hB_38 : kLog G w36 3 g := hB_34.fr (fun j q1 q2 => (hf36 j (by omega)))
          have hB_39 : kPlan G w36 32 g nl := hB_35.fr (fun j q1 q2 => (hf36 j (by omega)))
          refine k_callV hC (n_X11_unknownCurrent l hls G hN w36 fl g nl sv T 0 (by omega) (by decide) hI h_37 hB_38 hB_39 hCt36 (by omega)) yy_X11_unknownCurrent wm_L_228 (kl hN (by decide)) h_37 rfl rfl rfl rfl (Nat.le_of_ble_eq_true rfl) (by decide) (by decide) ⟨by decide, by decide⟩ dL_isFix_283 (fun v40 w40 fl40 hp40 => ?_)
          obtain ⟨-, q1, q2, hp40⟩ := hp40
          subst q1
          subst q2
          obtain ⟨hCt40, hf40⟩ := hp40
          show KW p l e R s m args below meth c 14 G Q w40 fl 0 0 286 [(12, vL (dstM g T)), (10, vL ((fixN g T) - (dispM g T true))), (8, vL ((fixE g T) - (dispM g T false))), (6, .double sd), (4, vL ((resM g T k).natAbs : Int)), (3, vI (k : Int)), (2, vI T), (0, .ref (kad G 0)), (1, vI v)] [vI (unkV g T 0)]
          refine k_topv (vI (dirM (fixE g T - dispM g T false) (fixN g T - dispM g T true) (dstM g T))) (congrArg vI (unk_0 hfp)) ?_
          refine k_sipush hC dL_isFix_286 (by decide) ?_
          refine k_icmp_gt hC 326 dL_isFix_289 rfl (by omega) (by omega) (fun c_289 => absurd c_289 (by omega)) (fun c_289 => ?_)
          refine k_aload_n hC dL_isFix_292 rfl 7 rfl ?_
          refine k_iload_n hC dL_isFix_293 rfl 6 rfl ?_
          have h_41 : w40 0 = .inr (11, [.ref (kad G 1), .ref (kad G 32), .ref (kad G 3), .ref (kad G 37), vI sv, .ref (kad G 44), .ref (kad G 10), .ref (kad G 116), .ref (kad G 129), .ref (kad G 132)]) := (hf40 0 (by omega)).trans h_37
          have hB_42 : kLog G w40 3 g := hB_38.fr (fun j q1 q2 => (hf40 j (by omega)))
          have hB_43 : kPlan G w40 32 g nl := hB_39.fr (fun j q1 q2 => (hf40 j (by omega)))
          refine k_callV hC (n_X11_meanResidual l hls G hN w40 fl g nl sv T (by omega) hI h_41 hB_42 hB_43 hCt40 (by omega)) yy_X11_meanResidual wm_L_218 (kl hN (by decide)) h_41 rfl rfl rfl rfl (Nat.le_of_ble_eq_true rfl) (by decide) (by decide) ⟨by decide, by decide⟩ dL_isFix_294 (fun v44 w44 fl44 hp44 => ?_)
          obtain ⟨-, q1, q2, hp44⟩ := hp44
          subst q1
          subst q2
          obtain ⟨hCt44, hf44⟩ := hp44
          show KW p l e R s m args below meth c 14 G Q w44 fl 0 0 297 [(12, vL (dstM g T)), (10, vL ((fixN g T) - (dispM g T true))), (8, vL ((fixE g T) - (dispM g T false))), (6, .double sd), (4, vL ((resM g T k).natAbs : Int)), (3, vI (k : Int)), (2, vI T), (0, .ref (kad G 0)), (1, vI v)] [.double (mrV g T)]
          refine k_topv (.double (FP.ddiv (dI (sumR g T (g 2).toNat)) (dI (g 2)))) (congrArg Value.double (mr_1 hfp)) ?_
          refine k_aload_n hC dL_isFix_297 rfl 7 rfl ?_
          refine k_iconst hC dL_isFix_298 ?_
          have h_45 : w44 0 = .inr (11, [.ref (kad G 1), .ref (kad G 32), .ref (kad G 3), .ref (kad G 37), vI sv, .ref (kad G 44), .ref (kad G 10), .ref (kad G 116), .ref (kad G 129), .ref (kad G 132)]) := (hf44 0 (by omega)).trans h_41
          have hB_46 : kLog G w44 3 g := hB_42.fr (fun j q1 q2 => (hf44 j (by omega)))
          have hB_47 : kPlan G w44 32 g nl := hB_43.fr (fun j q1 q2 => (hf44 j (by omega)))
          refine k_callV hC (n_X11_told l hls G hN w44 fl g nl sv 2 (by omega) hI h_45 hB_46 hB_47 hCt44 (by omega)) yy_X11_told wm_L_126 (kl hN (by decide)) h_45 rfl rfl rfl rfl (Nat.le_of_ble_eq_true rfl) (by decide) (by decide) ⟨by decide, by decide⟩ dL_isFix_299 (fun v48 w48 fl48 hp48 => ?_)
          obtain ⟨-, q1, q2, hp48⟩ := hp48
          subst q1
          subst q2
          obtain ⟨hCt48, hf48⟩ := hp48
          show KW p l e R s m args below meth c 14 G Q w48 fl 0 0 302 [(12, vL (dstM g T)), (10, vL ((fixN g T) - (dispM g T true))), (8, vL ((fixE g T) - (dispM g T false))), (6, .double sd), (4, vL ((resM g T k).natAbs : Int)), (3, vI (k : Int)), (2, vI T), (0, .ref (kad G 0)), (1, vI v)] [vI (g (2 : Int).toNat), .double (FP.ddiv (dI (sumR g T (g 2).toNat)) (dI (g 2)))]
          refine k_topv (vI (g 2)) rfl ?_
          refine k_i2d hC dL_isFix_302 (by omega) ?_
          refine k_dmul hC dL_isFix_303 hfin.1 ?_
          refine k_dload hC dL_isFix_304 3 rfl ?_
          refine k_dsub hC dL_isFix_306 hfin.2.1 ?_
          refine k_dabs hC hfin.2.1 wm_L_233 (by decide) ⟨by decide, by decide⟩ (Nat.le_of_ble_eq_true rfl) dL_isFix_307 ?_
          refine k_ldc2d hC wk_dc dL_isFix_310 ?_
          refine k_dconst1 hC dL_isFix_313 ?_
          refine k_dload hC dL_isFix_314 3 rfl ?_
          refine k_dadd hC dL_isFix_316 hfin.2.2.1 ?_
          refine k_dmul hC dL_isFix_317 hfin.2.2.2.1 ?_
          refine k_dcmp hC (-1) dL_isFix_318 (dcmplt hfin.2.2.2.2) ?_
          refine k_if_gt hC 326 dL_isFix_319 rfl (by omega) (fun c_319 => absurd c_319 (by omega)) (fun c_319 => ?_)
          refine k_iconst hC dL_isFix_322 ?_
          refine k_goto hC 327 dL_isFix_323 rfl ?_
          subst hQ
          exact k_zret hC (by omega) hr ⟨by decide, by decide⟩ (⟨trivial, rfl, rfl, ⟨hCt48, fun j hj => (hf48 j (by omega)).trans ((hf44 j (by omega)).trans ((hf40 j (by omega)).trans ((hf36 j (by omega)).trans ((hf32 j (by omega)).trans ((hf28 j (by omega)).trans ((hf24 j (by omega)).trans ((hf20 j (by omega)).trans ((hf16 j (by omega)).trans ((hf12 j (by omega)).trans ((hf8 j (by omega)).trans (hfr1 j (by omega))))))))))))⟩⟩) dL_isFix_327
        · have hmj := hmax j (by omega)
          have hfn9 : farM g j T (fixE g T) (fixN g T) = ((resM g T j).natAbs : Int) := rfl
          have hsd1 := fl_Na hsd (fl_Ni (i := ((resM g T j).natAbs : Int)) (n := (resM g T j).natAbs) rfl (by omega)) (by omega)
          refine k_aload_n hC dL_isFix_87 rfl 5 rfl ?_
          refine k_iload hC dL_isFix_88 0 rfl ?_
          refine k_iload_n hC dL_isFix_90 rfl 4 rfl ?_
          have h_49 : w8 0 = .inr (11, [.ref (kad G 1), .ref (kad G 32), .ref (kad G 3), .ref (kad G 37), vI sv, .ref (kad G 44), .ref (kad G 10), .ref (kad G 116), .ref (kad G 129), .ref (kad G 132)]) := (hf8 0 (by omega)).trans h0x
          have hB_50 : kLog G w8 3 g := hLx.fr (fun j q1 q2 => (hf8 j (by omega)))
          have hB_51 : kPlan G w8 32 g nl := hPx.fr (fun j q1 q2 => (hf8 j (by omega)))
          refine k_callV hC (n_X11_residual l hls G hN w8 fl g nl sv (j : Int) T (by omega) (by omega) hI h_49 hB_50 hB_51 hCt8 (by omega)) yy_X11_residual wm_L_222 (kl hN (by decide)) h_49 rfl rfl rfl rfl (Nat.le_of_ble_eq_true rfl) (by decide) (by decide) ⟨by decide, by decide⟩ dL_isFix_91 (fun v52 w52 fl52 hp52 => ?_)
          obtain ⟨-, q1, q2, hp52⟩ := hp52
          subst q1
          subst q2
          obtain ⟨hCt52, hf52⟩ := hp52
          show KW p l e R s m args below meth c 14 G Q w52 fl 0 0 94 [(8, vI (j : Int)), (6, .double sd), (4, vL ((resM g T k).natAbs : Int)), (3, vI (k : Int)), (2, vI T), (0, .ref (kad G 0)), (1, vI v)] [vI (resV g T (j : Int).toNat)]
          refine k_topv (vI (resV g T j)) rfl ?_
          refine k_topv (vI (resM g T j)) (congrArg vI (selI_1 hfp)) ?_
          have hrj := resM_b hI ht j (by omega)
          refine k_mabs hC wm_L_86 wmath_mabs (by omega) (by decide) (Nat.le_of_ble_eq_true rfl) ⟨by decide, by decide⟩ dL_isFix_94 ?_
          refine k_i2l hC dL_isFix_97 (by omega) ?_
          refine k_lstore hC [(9, vL ((resM g T j).natAbs : Int)), (8, vI (j : Int)), (6, .double sd), (4, vL ((resM g T k).natAbs : Int)), (3, vI (k : Int)), (2, vI T), (0, .ref (kad G 0)), (1, vI v)] dL_isFix_98 (by decide) rfl ?_
          refine k_lload hC dL_isFix_100 0 rfl ?_
          refine k_lload hC dL_isFix_102 3 rfl ?_
          refine k_lcmp_gt hC 149 dL_isFix_104 dL_isFix_105 rfl (by omega) (by omega) (fun c_104 => absurd c_104 (by omega)) (fun c_104 => ?_)
          refine k_lload hC dL_isFix_108 0 rfl ?_
          refine k_lload hC dL_isFix_110 3 rfl ?_
          refine k_lcmp_ne hC 122 dL_isFix_112 dL_isFix_113 rfl (by omega) (by omega) (fun c_112 => ?_) (fun c_112 => ?_)
          · refine k_lload hC dL_isFix_122 0 rfl ?_
            refine k_aload_n hC dL_isFix_124 rfl 6 rfl ?_
            refine k_iload hC dL_isFix_125 1 rfl ?_
            refine k_iload_n hC dL_isFix_127 rfl 5 rfl ?_
            refine k_aload_n hC dL_isFix_128 rfl 6 rfl ?_
            refine k_iload_n hC dL_isFix_129 rfl 5 rfl ?_
            refine k_iconst hC dL_isFix_130 ?_
            have h_53 : w52 0 = .inr (11, [.ref (kad G 1), .ref (kad G 32), .ref (kad G 3), .ref (kad G 37), vI sv, .ref (kad G 44), .ref (kad G 10), .ref (kad G 116), .ref (kad G 129), .ref (kad G 132)]) := (hf52 0 (by omega)).trans h_49
            have hB_54 : kLog G w52 3 g := hB_50.fr (fun j q1 q2 => (hf52 j (by omega)))
            have hB_55 : kPlan G w52 32 g nl := hB_51.fr (fun j q1 q2 => (hf52 j (by omega)))
            refine k_callV hC (n_X11_fix l hls G hN w52 fl g nl sv T 0 (by omega) (by decide) hI h_53 hB_54 hB_55 hCt52 (by omega)) yy_X11_fix wm_L_211 (kl hN (by decide)) h_53 rfl rfl rfl rfl (Nat.le_of_ble_eq_true rfl) (by decide) (by decide) ⟨by decide, by decide⟩ dL_isFix_131 (fun v56 w56 fl56 hp56 => ?_)
            obtain ⟨-, q1, q2, hp56⟩ := hp56
            subst q1
            subst q2
            obtain ⟨hCt56, hf56⟩ := hp56
            show KW p l e R s m args below meth c 14 G Q w56 fl 0 0 134 [(9, vL ((resM g T j).natAbs : Int)), (8, vI (j : Int)), (6, .double sd), (4, vL ((resM g T k).natAbs : Int)), (3, vI (k : Int)), (2, vI T), (0, .ref (kad G 0)), (1, vI v)] [vI (fixV g T 0), vI T, vI (j : Int), .ref (kad G 0), vL ((resM g T j).natAbs : Int)]
            refine k_topv (vI (fixE g T)) (congrArg vI (fix_0 T hfp)) ?_
            refine k_i2l hC dL_isFix_134 (by omega) ?_
            refine k_aload_n hC dL_isFix_135 rfl 6 rfl ?_
            refine k_iload_n hC dL_isFix_136 rfl 5 rfl ?_
            refine k_iconst hC dL_isFix_137 ?_
            have h_57 : w56 0 = .inr (11, [.ref (kad G 1), .ref (kad G 32), .ref (kad G 3), .ref (kad G 37), vI sv, .ref (kad G 44), .ref (kad G 10), .ref (kad G 116), .ref (kad G 129), .ref (kad G 132)]) := (hf56 0 (by omega)).trans h_53
            have hB_58 : kLog G w56 3 g := hB_54.fr (fun j q1 q2 => (hf56 j (by omega)))
            have hB_59 : kPlan G w56 32 g nl := hB_55.fr (fun j q1 q2 => (hf56 j (by omega)))
            refine k_callV hC (n_X11_fix l hls G hN w56 fl g nl sv T 1 (by omega) (by decide) hI h_57 hB_58 hB_59 hCt56 (by omega)) yy_X11_fix wm_L_211 (kl hN (by decide)) h_57 rfl rfl rfl rfl (Nat.le_of_ble_eq_true rfl) (by decide) (by decide) ⟨by decide, by decide⟩ dL_isFix_138 (fun v60 w60 fl60 hp60 => ?_)
            obtain ⟨-, q1, q2, hp60⟩ := hp60
            subst q1
            subst q2
            obtain ⟨hCt60, hf60⟩ := hp60
            show KW p l e R s m args below meth c 14 G Q w60 fl 0 0 141 [(9, vL ((resM g T j).natAbs : Int)), (8, vI (j : Int)), (6, .double sd), (4, vL ((resM g T k).natAbs : Int)), (3, vI (k : Int)), (2, vI T), (0, .ref (kad G 0)), (1, vI v)] [vI (fixV g T 1), vL (fixE g T), vI T, vI (j : Int), .ref (kad G 0), vL ((resM g T j).natAbs : Int)]
            refine k_topv (vI (fixN g T)) (congrArg vI (fix_1 T hfp)) ?_
            refine k_i2l hC dL_isFix_141 (by omega) ?_
            have h_62 : w60 0 = .inr (11, [.ref (kad G 1), .ref (kad G 32), .ref (kad G 3), .ref (kad G 37), vI sv, .ref (kad G 44), .ref (kad G 10), .ref (kad G 116), .ref (kad G 129), .ref (kad G 132)]) := (hf60 0 (by omega)).trans h_57
            have hB_63 : kLog G w60 3 g := hB_58.fr (fun j q1 q2 => (hf60 j (by omega)))
            have hB_64 : kPlan G w60 32 g nl := hB_59.fr (fun j q1 q2 => (hf60 j (by omega)))
            refine k_callS hC (c_L_far l hls G hN w60 fl g nl sv j T (fixE g T) (fixN g T) (by omega) (by omega) (by omega) (by omega) hI h_62 hB_63 hB_64 hCt60) yy_L_far wm_L_179 rfl rfl (Nat.le_of_ble_eq_true rfl) (by decide) (by decide) ⟨by decide, by decide⟩ dL_isFix_142 (fun v61 w61 fl61 hp61 => ?_)
            obtain ⟨-, q1, q2, hCt61, hf61⟩ := hp61
            subst q1
            subst q2
            show KW p l e R s m args below meth c 14 G Q w61 fl 0 0 145 [(9, vL ((resM g T j).natAbs : Int)), (8, vI (j : Int)), (6, .double sd), (4, vL ((resM g T k).natAbs : Int)), (3, vI (k : Int)), (2, vI T), (0, .ref (kad G 0)), (1, vI v)] [vL (farM g j T (fixE g T) (fixN g T)), vL ((resM g T j).natAbs : Int)]
            refine k_lcmp_eq hC 151 dL_isFix_145 dL_isFix_146 rfl (by omega) (by omega) (fun c_145 => ?_) (fun c_145 => absurd (rfl : ((resM g T j).natAbs : Int) = farM g j T (fixE g T) (fixN g T)) c_145)
            refine k_dload hC dL_isFix_151 2 rfl ?_
            refine k_lload hC dL_isFix_153 0 rfl ?_
            refine k_l2d hC dL_isFix_155 (by omega) ?_
            refine k_dadd hC dL_isFix_156 (fl_n64 hsd1) ?_
            refine k_dstore hC [(6, .double (FP.dadd sd (dI ((resM g T j).natAbs : Int)))), (9, vL ((resM g T j).natAbs : Int)), (8, vI (j : Int)), (4, vL ((resM g T k).natAbs : Int)), (3, vI (k : Int)), (2, vI T), (0, .ref (kad G 0)), (1, vI v)] dL_isFix_157 (by decide) rfl ?_
            refine k_iinc hC (y := (j : Int) + 1) [(8, vI ((j : Int) + 1)), (6, .double (FP.dadd sd (dI ((resM g T j).natAbs : Int)))), (9, vL ((resM g T j).natAbs : Int)), (4, vL ((resM g T k).natAbs : Int)), (3, vI (k : Int)), (2, vI T), (0, .ref (kad G 0)), (1, vI v)] (j := 2) dL_isFix_159 rfl (by omega) (by decide) rfl ?_
            refine k_goto hC 77 dL_isFix_162 rfl ?_
            refine k_lvs (ls := [0, 1, 3, 4, 5, 6, 7]) [(8, vI ((j : Int) + 1)), (6, .double (FP.dadd sd (dI ((resM g T j).natAbs : Int)))), (4, vL ((resM g T k).natAbs : Int)), (3, vI (k : Int)), (2, vI T), (0, .ref (kad G 0)), (1, vI v)] rfl ?_
            refine k_lvs (ls := [0, 1, 2, 3, 4, 5, 6]) [(8, vI ((j + 1 : Nat) : Int)), (6, .double (FP.dadd sd (dI ((resM g T j).natAbs : Int)))), (4, vL ((resM g T k).natAbs : Int)), (3, vI (k : Int)), (2, vI T), (0, .ref (kad G 0)), (1, vI v)] (by simp only [lv_pick]; rfl) ?_
            have h_65 : w61 0 = .inr (11, [.ref (kad G 1), .ref (kad G 32), .ref (kad G 3), .ref (kad G 37), vI sv, .ref (kad G 44), .ref (kad G 10), .ref (kad G 116), .ref (kad G 129), .ref (kad G 132)]) := (hf61 0 (by omega)).trans h_62
            have hB_66 : kLog G w61 3 g := hB_63.fr (fun j q1 q2 => (hf61 j (by omega)))
            have hB_67 : kPlan G w61 32 g nl := hB_64.fr (fun j q1 q2 => (hf61 j (by omega)))
            exact ih1 (j + 1) (FP.dadd sd (dI ((resM g T j).natAbs : Int))) (sm + (resM g T j).natAbs) w61 (by omega) (by omega) hsd1 (by show sumR g T j + ((resM g T j).natAbs : Int) = _; omega) (by omega) h_65 hB_66 hB_67 hCt61 (fun j hj => (hf61 j (by omega)).trans ((hf60 j (by omega)).trans ((hf56 j (by omega)).trans ((hf52 j (by omega)).trans ((hf8 j (by omega)).trans (hfr1 j (by omega)))))))
          · refine k_iload hC dL_isFix_116 1 rfl ?_
            refine k_iload_n hC dL_isFix_118 rfl 4 rfl ?_
            refine k_icmp_lt hC 149 dL_isFix_119 rfl (by omega) (by omega) (fun c_119 => absurd c_119 (by have := hmj.2 (by omega); omega)) (fun c_119 => ?_)
            refine k_lload hC dL_isFix_122 0 rfl ?_
            refine k_aload_n hC dL_isFix_124 rfl 6 rfl ?_
            refine k_iload hC dL_isFix_125 1 rfl ?_
            refine k_iload_n hC dL_isFix_127 rfl 5 rfl ?_
            refine k_aload_n hC dL_isFix_128 rfl 6 rfl ?_
            refine k_iload_n hC dL_isFix_129 rfl 5 rfl ?_
            refine k_iconst hC dL_isFix_130 ?_
            have h_68 : w52 0 = .inr (11, [.ref (kad G 1), .ref (kad G 32), .ref (kad G 3), .ref (kad G 37), vI sv, .ref (kad G 44), .ref (kad G 10), .ref (kad G 116), .ref (kad G 129), .ref (kad G 132)]) := (hf52 0 (by omega)).trans h_49
            have hB_69 : kLog G w52 3 g := hB_50.fr (fun j q1 q2 => (hf52 j (by omega)))
            have hB_70 : kPlan G w52 32 g nl := hB_51.fr (fun j q1 q2 => (hf52 j (by omega)))
            refine k_callV hC (n_X11_fix l hls G hN w52 fl g nl sv T 0 (by omega) (by decide) hI h_68 hB_69 hB_70 hCt52 (by omega)) yy_X11_fix wm_L_211 (kl hN (by decide)) h_68 rfl rfl rfl rfl (Nat.le_of_ble_eq_true rfl) (by decide) (by decide) ⟨by decide, by decide⟩ dL_isFix_131 (fun v71 w71 fl71 hp71 => ?_)
            obtain ⟨-, q1, q2, hp71⟩ := hp71
            subst q1
            subst q2
            obtain ⟨hCt71, hf71⟩ := hp71
            show KW p l e R s m args below meth c 14 G Q w71 fl 0 0 134 [(9, vL ((resM g T j).natAbs : Int)), (8, vI (j : Int)), (6, .double sd), (4, vL ((resM g T k).natAbs : Int)), (3, vI (k : Int)), (2, vI T), (0, .ref (kad G 0)), (1, vI v)] [vI (fixV g T 0), vI T, vI (j : Int), .ref (kad G 0), vL ((resM g T j).natAbs : Int)]
            refine k_topv (vI (fixE g T)) (congrArg vI (fix_0 T hfp)) ?_
            refine k_i2l hC dL_isFix_134 (by omega) ?_
            refine k_aload_n hC dL_isFix_135 rfl 6 rfl ?_
            refine k_iload_n hC dL_isFix_136 rfl 5 rfl ?_
            refine k_iconst hC dL_isFix_137 ?_
            have h_72 : w71 0 = .inr (11, [.ref (kad G 1), .ref (kad G 32), .ref (kad G 3), .ref (kad G 37), vI sv, .ref (kad G 44), .ref (kad G 10), .ref (kad G 116), .ref (kad G 129), .ref (kad G 132)]) := (hf71 0 (by omega)).trans h_68
            have hB_73 : kLog G w71 3 g := hB_69.fr (fun j q1 q2 => (hf71 j (by omega)))
            have hB_74 : kPlan G w71 32 g nl := hB_70.fr (fun j q1 q2 => (hf71 j (by omega)))
            refine k_callV hC (n_X11_fix l hls G hN w71 fl g nl sv T 1 (by omega) (by decide) hI h_72 hB_73 hB_74 hCt71 (by omega)) yy_X11_fix wm_L_211 (kl hN (by decide)) h_72 rfl rfl rfl rfl (Nat.le_of_ble_eq_true rfl) (by decide) (by decide) ⟨by decide, by decide⟩ dL_isFix_138 (fun v75 w75 fl75 hp75 => ?_)
            obtain ⟨-, q1, q2, hp75⟩ := hp75
            subst q1
            subst q2
            obtain ⟨hCt75, hf75⟩ := hp75
            show KW p l e R s m args below meth c 14 G Q w75 fl 0 0 141 [(9, vL ((resM g T j).natAbs : Int)), (8, vI (j : Int)), (6, .double sd), (4, vL ((resM g T k).natAbs : Int)), (3, vI (k : Int)), (2, vI T), (0, .ref (kad G 0)), (1, vI v)] [vI (fixV g T 1), vL (fixE g T), vI T, vI (j : Int), .ref (kad G 0), vL ((resM g T j).natAbs : Int)]
            refine k_topv (vI (fixN g T)) (congrArg vI (fix_1 T hfp)) ?_
            refine k_i2l hC dL_isFix_141 (by omega) ?_
            have h_77 : w75 0 = .inr (11, [.ref (kad G 1), .ref (kad G 32), .ref (kad G 3), .ref (kad G 37), vI sv, .ref (kad G 44), .ref (kad G 10), .ref (kad G 116), .ref (kad G 129), .ref (kad G 132)]) := (hf75 0 (by omega)).trans h_72
            have hB_78 : kLog G w75 3 g := hB_73.fr (fun j q1 q2 => (hf75 j (by omega)))
            have hB_79 : kPlan G w75 32 g nl := hB_74.fr (fun j q1 q2 => (hf75 j (by omega)))
            refine k_callS hC (c_L_far l hls G hN w75 fl g nl sv j T (fixE g T) (fixN g T) (by omega) (by omega) (by omega) (by omega) hI h_77 hB_78 hB_79 hCt75) yy_L_far wm_L_179 rfl rfl (Nat.le_of_ble_eq_true rfl) (by decide) (by decide) ⟨by decide, by decide⟩ dL_isFix_142 (fun v76 w76 fl76 hp76 => ?_)
            obtain ⟨-, q1, q2, hCt76, hf76⟩ := hp76
            subst q1
            subst q2
            show KW p l e R s m args below meth c 14 G Q w76 fl 0 0 145 [(9, vL ((resM g T j).natAbs : Int)), (8, vI (j : Int)), (6, .double sd), (4, vL ((resM g T k).natAbs : Int)), (3, vI (k : Int)), (2, vI T), (0, .ref (kad G 0)), (1, vI v)] [vL (farM g j T (fixE g T) (fixN g T)), vL ((resM g T j).natAbs : Int)]
            refine k_lcmp_eq hC 151 dL_isFix_145 dL_isFix_146 rfl (by omega) (by omega) (fun c_145 => ?_) (fun c_145 => absurd (rfl : ((resM g T j).natAbs : Int) = farM g j T (fixE g T) (fixN g T)) c_145)
            refine k_dload hC dL_isFix_151 2 rfl ?_
            refine k_lload hC dL_isFix_153 0 rfl ?_
            refine k_l2d hC dL_isFix_155 (by omega) ?_
            refine k_dadd hC dL_isFix_156 (fl_n64 hsd1) ?_
            refine k_dstore hC [(6, .double (FP.dadd sd (dI ((resM g T j).natAbs : Int)))), (9, vL ((resM g T j).natAbs : Int)), (8, vI (j : Int)), (4, vL ((resM g T k).natAbs : Int)), (3, vI (k : Int)), (2, vI T), (0, .ref (kad G 0)), (1, vI v)] dL_isFix_157 (by decide) rfl ?_
            refine k_iinc hC (y := (j : Int) + 1) [(8, vI ((j : Int) + 1)), (6, .double (FP.dadd sd (dI ((resM g T j).natAbs : Int)))), (9, vL ((resM g T j).natAbs : Int)), (4, vL ((resM g T k).natAbs : Int)), (3, vI (k : Int)), (2, vI T), (0, .ref (kad G 0)), (1, vI v)] (j := 2) dL_isFix_159 rfl (by omega) (by decide) rfl ?_
            refine k_goto hC 77 dL_isFix_162 rfl ?_
            refine k_lvs (ls := [0, 1, 3, 4, 5, 6, 7]) [(8, vI ((j : Int) + 1)), (6, .double (FP.dadd sd (dI ((resM g T j).natAbs : Int)))), (4, vL ((resM g T k).natAbs : Int)), (3, vI (k : Int)), (2, vI T), (0, .ref (kad G 0)), (1, vI v)] rfl ?_
            refine k_lvs (ls := [0, 1, 2, 3, 4, 5, 6]) [(8, vI ((j + 1 : Nat) : Int)), (6, .double (FP.dadd sd (dI ((resM g T j).natAbs : Int)))), (4, vL ((resM g T k).natAbs : Int)), (3, vI (k : Int)), (2, vI T), (0, .ref (kad G 0)), (1, vI v)] (by simp only [lv_pick]; rfl) ?_
            have h_80 : w76 0 = .inr (11, [.ref (kad G 1), .ref (kad G 32), .ref (kad G 3), .ref (kad G 37), vI sv, .ref (kad G 44), .ref (kad G 10), .ref (kad G 116), .ref (kad G 129), .ref (kad G 132)]) := (hf76 0 (by omega)).trans h_77
            have hB_81 : kLog G w76 3 g := hB_78.fr (fun j q1 q2 => (hf76 j (by omega)))
            have hB_82 : kPlan G w76 32 g nl := hB_79.fr (fun j q1 q2 => (hf76 j (by omega)))
            exact ih1 (j + 1) (FP.dadd sd (dI ((resM g T j).natAbs : Int))) (sm + (resM g T j).natAbs) w76 (by omega) (by omega) hsd1 (by show sumR g T j + ((resM g T j).natAbs : Int) = _; omega) (by omega) h_80 hB_81 hB_82 hCt76 (fun j hj => (hf76 j (by omega)).trans ((hf75 j (by omega)).trans ((hf71 j (by omega)).trans ((hf52 j (by omega)).trans ((hf8 j (by omega)).trans (hfr1 j (by omega)))))))
    refine k_lvs (ls := [0, 1, 2, 3, 4, 5, 6]) [(8, vI ((0 : Nat) : Int)), (6, .double 0), (4, vL ((resM g T k).natAbs : Int)), (3, vI (k : Int)), (2, vI T), (0, .ref (kad G 0)), (1, vI v)] (by simp only [lv_pick]; rfl) ?_
    have h_83 : w7 0 = .inr (11, [.ref (kad G 1), .ref (kad G 32), .ref (kad G 3), .ref (kad G 37), vI sv, .ref (kad G 44), .ref (kad G 10), .ref (kad G 116), .ref (kad G 129), .ref (kad G 132)]) := (hf7 0 (by omega)).trans h_4
    have hB_84 : kLog G w7 3 g := hB_5.fr (fun j q1 q2 => (hf7 j (by omega)))
    have hB_85 : kPlan G w7 32 g nl := hB_6.fr (fun j q1 q2 => (hf7 j (by omega)))
    exact loop1 13 0 0 0 w7 (by omega) (by omega) fl_N0 rfl (by omega) h_83 hB_84 hB_85 hCt7 (fun j hj => (hf7 j (by omega)).trans (hf3 j (by omega)))
  · have nfp : ¬ fixP g := ((wor_c g T).resolve_right (fun q => by obtain ⟨-, k, h1, h2, -⟩ := q; omega)).1
    refine k_aload_n hC dL_isFix_22 rfl 2 rfl ?_
    refine k_iload_n hC dL_isFix_23 rfl 1 rfl ?_
    refine k_iconst hC dL_isFix_24 ?_
    have h_86 : w3 0 = .inr (11, [.ref (kad G 1), .ref (kad G 32), .ref (kad G 3), .ref (kad G 37), vI sv, .ref (kad G 44), .ref (kad G 10), .ref (kad G 116), .ref (kad G 129), .ref (kad G 132)]) := (hf3 0 (by omega)).trans h00
    have hB_87 : kLog G w3 3 g := hL.fr (fun j q1 q2 => (hf3 j (by omega)))
    have hB_88 : kPlan G w3 32 g nl := hP.fr (fun j q1 q2 => (hf3 j (by omega)))
    refine k_callV hC (n_X11_fix l hls G hN w3 fl g nl sv T 0 (by omega) (by decide) hI h_86 hB_87 hB_88 hCt3 (by omega)) yy_X11_fix wm_L_211 (kl hN (by decide)) h_86 rfl rfl rfl rfl (Nat.le_of_ble_eq_true rfl) (by decide) (by decide) ⟨by decide, by decide⟩ dL_isFix_25 (fun v89 w89 fl89 hp89 => ?_)
    obtain ⟨-, q1, q2, hp89⟩ := hp89
    subst q1
    subst q2
    obtain ⟨hCt89, hf89⟩ := hp89
    show KW p l e R s m args below meth c 14 G Q w89 fl 0 0 28 [(3, vI wo), (2, vI T), (0, .ref (kad G 0)), (1, vI v)] [vI (fixV g T 0)]
    refine k_topv (vI (-1000000000)) (congrArg vI (selI_0 nfp)) ?_
    refine k_ldc hC (x := (-1000000000)) (v := (-1000000000)) dL_isFix_28 (by decide) wk_L_177 ?_
    refine k_icmp_ne hC 57 dL_isFix_30 rfl (by omega) (by omega) (fun c_30 => absurd rfl c_30) (fun c_30 => ?_)
    refine k_aload_n hC dL_isFix_33 rfl 2 rfl ?_
    refine k_iload_n hC dL_isFix_34 rfl 1 rfl ?_
    have h_90 : w89 0 = .inr (11, [.ref (kad G 1), .ref (kad G 32), .ref (kad G 3), .ref (kad G 37), vI sv, .ref (kad G 44), .ref (kad G 10), .ref (kad G 116), .ref (kad G 129), .ref (kad G 132)]) := (hf89 0 (by omega)).trans h_86
    have hB_91 : kLog G w89 3 g := hB_87.fr (fun j q1 q2 => (hf89 j (by omega)))
    have hB_92 : kPlan G w89 32 g nl := hB_88.fr (fun j q1 q2 => (hf89 j (by omega)))
    refine k_callV hC (n_X11_offCourse l hls G hN w89 fl g nl sv T (by omega) hI h_90 hB_91 hB_92 hCt89 (by omega)) yy_X11_offCourse wm_L_215 (kl hN (by decide)) h_90 rfl rfl rfl rfl (Nat.le_of_ble_eq_true rfl) (by decide) (by decide) ⟨by decide, by decide⟩ dL_isFix_35 (fun v93 w93 fl93 hp93 => ?_)
    obtain ⟨-, q1, q2, hp93⟩ := hp93
    subst q1
    subst q2
    obtain ⟨hCt93, hf93⟩ := hp93
    show KW p l e R s m args below meth c 14 G Q w93 fl 0 0 38 [(3, vI wo), (2, vI T), (0, .ref (kad G 0)), (1, vI v)] [vI (offV g T)]
    refine k_topv (vI (-1000000000)) (congrArg vI (selI_0 nfp)) ?_
    refine k_ldc hC (x := (-1000000000)) (v := (-1000000000)) dL_isFix_38 (by decide) wk_L_177 ?_
    refine k_icmp_ne hC 57 dL_isFix_40 rfl (by omega) (by omega) (fun c_40 => absurd rfl c_40) (fun c_40 => ?_)
    refine k_aload_n hC dL_isFix_43 rfl 2 rfl ?_
    refine k_iload_n hC dL_isFix_44 rfl 1 rfl ?_
    have h_94 : w93 0 = .inr (11, [.ref (kad G 1), .ref (kad G 32), .ref (kad G 3), .ref (kad G 37), vI sv, .ref (kad G 44), .ref (kad G 10), .ref (kad G 116), .ref (kad G 129), .ref (kad G 132)]) := (hf93 0 (by omega)).trans h_90
    have hB_95 : kLog G w93 3 g := hB_91.fr (fun j q1 q2 => (hf93 j (by omega)))
    have hB_96 : kPlan G w93 32 g nl := hB_92.fr (fun j q1 q2 => (hf93 j (by omega)))
    refine k_callV hC (n_X11_meanResidual l hls G hN w93 fl g nl sv T (by omega) hI h_94 hB_95 hB_96 hCt93 (by omega)) yy_X11_meanResidual wm_L_218 (kl hN (by decide)) h_94 rfl rfl rfl rfl (Nat.le_of_ble_eq_true rfl) (by decide) (by decide) ⟨by decide, by decide⟩ dL_isFix_45 (fun v97 w97 fl97 hp97 => ?_)
    obtain ⟨-, q1, q2, hp97⟩ := hp97
    subst q1
    subst q2
    obtain ⟨hCt97, hf97⟩ := hp97
    show KW p l e R s m args below meth c 14 G Q w97 fl 0 0 48 [(3, vI wo), (2, vI T), (0, .ref (kad G 0)), (1, vI v)] [.double (mrV g T)]
    refine k_topv (.double 0) (congrArg Value.double (mr_0 nfp)) ?_
    refine k_dconst0 hC dL_isFix_48 ?_
    refine k_dcmp hC (0) dL_isFix_49 dcmp00 ?_
    refine k_if_ne hC 57 dL_isFix_50 rfl (by omega) (fun c_50 => absurd c_50 (by omega)) (fun c_50 => ?_)
    refine k_iconst hC dL_isFix_53 ?_
    refine k_goto hC 58 dL_isFix_54 rfl ?_
    subst hQ
    exact k_zret hC (by omega) hr ⟨by decide, by decide⟩ (⟨trivial, rfl, rfl, ⟨hCt97, fun j hj => (hf97 j (by omega)).trans ((hf93 j (by omega)).trans ((hf89 j (by omega)).trans (hf3 j (by omega))))⟩⟩) dL_isFix_58

