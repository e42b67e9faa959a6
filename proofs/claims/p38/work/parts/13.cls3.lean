section KL3
variable {p : Program} {l : Launch} {e : Env} {R : Room} {s : State} {m : MethodId} {args : Array Value} {below : List Frame} {meth : Method} {c : Code} {Q : State → Prop} {cc : ByteArray} {own : String} {nL d0 mc0 ms0 : Nat} {G : kG} {w : Nat → va_E} {fl : va_W} {cells slots pc : Nat} {lv : List (Nat × Value)} {st : List Value}
theorem k_ifnonnull (hC : kC p l R s m args meth c cc own nL G d0 mc0 ms0) {x : Nat} {off : Int} (tgt : Nat) (d : decode cc pc = .ok (.ifnonnull off, 3)) (ht : (pc : Int) + off = (tgt : Int)) (k : KW p l e R s m args below meth c nL G Q w fl cells slots tgt lv st) : KW p l e R s m args below meth c nL G Q w fl cells slots pc lv (.ref x :: st) := fun H locs ls h1 h2 h3 h4 => lv_ifnonnull hC.1 hC.2.1 d ht (k H locs ls h1 h2 h3 h4)
theorem k_ifnull (hC : kC p l R s m args meth c cc own nL G d0 mc0 ms0) {x : Nat} {off : Int} (d : decode cc pc = .ok (.ifnull off, 3)) (k : KW p l e R s m args below meth c nL G Q w fl cells slots (pc + 3) lv st) : KW p l e R s m args below meth c nL G Q w fl cells slots pc lv (.ref x :: st) := fun H locs ls h1 h2 h3 h4 => lv_ifnull hC.1 hC.2.1 d (k H locs ls h1 h2 h3 h4)
end KL3
noncomputable abbrev lnO (g : Nat → Int) (i : Nat) (T : Int) : va_E := .inr (3, [vI (apM g i), vI (obsM g i), vI (expM g i), vI (aziM g i), vI (intM g i), vI (offM g i), vI (carM g i T), vI (sinM (aziM g i)), vI (cosM (aziM g i))])
theorem lonT_b (g : Nat → Int) (t : Int) : -10800 ≤ lonT g t ∧ lonT g t ≤ 10799 := lonM_b _
set_option maxRecDepth 100000 in
set_option maxHeartbeats 4000000 in
theorem c_X3_reduce (l : Launch) (hls : l.stackTraces = false) (G : kG) (hN : 133 ≤ kN G) (w : Nat → va_E) (fl : va_W) (g nl : Nat → Int) (k i : Nat) (a0 a1 a2 a3 a4 a5 a6 sa ca x y la lo : Int) (hk : 20 ≤ k ∧ k < 32) (hI : Inv g) (hi : (i : Int) < g 2) (hla : la = latM g (g (58 + 3 * i))) (hlo : lo = lonT g (g (58 + 3 * i))) (hL : kLog G w 3 g) (hP : kPlan G w 32 g nl) (hw : w k = .inr (3, [vI a0, vI a1, vI a2, vI a3, vI a4, vI a5, vI a6, vI sa, vI ca])) (hS : w 13 = .inr (8, [vI x, vI y, vI la, vI lo])) : KM l G yX3_reduce cX3_reduce 14 (none) 4 0 0 [.ref (kad G k), .ref (kad G 32), .ref (kad G 3), vI (i : Int), .ref (kad G 13)] w fl (kMuv fl (fun w1 => w1 k = .inr (3, [vI (apM g i), vI (obsM g i), vI (expM g i), vI (aziM g i), vI (intM g i), vI (offM g i), vI a6, vI (sinM (aziM g i)), vI (cosM (aziM g i))]) ∧ ∀ j, j ≠ k → w1 j = w j)) := by
  refine KM_of2 hls (by decide +kernel) rfl (lv0 := [(0, .ref (kad G k)), (1, .ref (kad G 32)), (2, .ref (kad G 3)), (3, vI (i : Int)), (4, .ref (kad G 13))]) rfl (Nat.le_of_ble_eq_true rfl) (fun p e R s m args below meth c Q hC hr hQ => ?_)
  have h0 := hI.c
  have hsi := hI.sight i hi
  have hlb := latM_b hI hsi.2.1
  have hob := lonT_b g (g (58 + 3 * i))
  rw [← hla] at hlb
  rw [← hlo] at hob
  refine k_aload_n hC dX3_reduce_0 rfl 2 rfl ?_
  refine k_get hC fd_X3_9 (kl hN (by decide)) hL.1 rfl dX3_reduce_1 ?_
  refine k_iload_n hC dX3_reduce_4 rfl 3 rfl ?_
  refine k_pureSN hC (c_X11_at l hls G hN w fl 7 (i : Int) 12 (fun j => g (57 + 3 * j)) (by decide) (by omega) (by decide) hL.2.2.2.2.1) yy_X11_at wm_X3_15 rfl rfl (Nat.le_of_ble_eq_true rfl) (by decide) (by decide) ⟨by decide, by decide⟩ dX3_reduce_5 ?_
  refine k_topv (vI (g (57 + 3 * i))) rfl ?_
  refine k_topI (fun bo ebo => ?_)
  refine k_istore hC [(5, vI bo), (0, .ref (kad G k)), (1, .ref (kad G 32)), (2, .ref (kad G 3)), (3, vI (i : Int)), (4, .ref (kad G 13))] dX3_reduce_8 (by decide) rfl ?_
  have hbd := hI.body bo.toNat (by omega)
  refine k_aload_n hC dX3_reduce_10 rfl 2 rfl ?_
  refine k_get hC fd_X3_19 (kl hN (by decide)) hP.1 rfl dX3_reduce_11 ?_
  refine k_iload hC dX3_reduce_14 0 rfl ?_
  refine k_pureSN hC (c_X11_at l hls G hN w fl 33 bo 6 (fun j => g (9 + 4 * j)) (by decide) (by omega) (by decide) hP.2.1) yy_X11_at wm_X3_15 rfl rfl (Nat.le_of_ble_eq_true rfl) (by decide) (by decide) ⟨by decide, by decide⟩ dX3_reduce_16 ?_
  refine k_topv (vI (g (9 + 4 * (bo.toNat)))) rfl ?_
  refine k_topI (fun de ede => ?_)
  refine k_istore hC [(6, vI de), (5, vI bo), (0, .ref (kad G k)), (1, .ref (kad G 32)), (2, .ref (kad G 3)), (3, vI (i : Int)), (4, .ref (kad G 13))] dX3_reduce_19 (by decide) rfl ?_
  have ede2 : de = decM g i := by rw [ede, ebo]; rfl
  refine k_aload_n hC dX3_reduce_21 rfl 3 rfl ?_
  refine k_get hC fd_X3_24 (kl hN (by decide)) hP.1 rfl dX3_reduce_22 ?_
  refine k_iload hC dX3_reduce_25 1 rfl ?_
  refine k_pureSN hC (c_X11_at l hls G hN w fl 34 bo 6 (fun j => g (10 + 4 * j)) (by decide) (by omega) (by decide) hP.2.2.1) yy_X11_at wm_X3_15 rfl rfl (Nat.le_of_ble_eq_true rfl) (by decide) (by decide) ⟨by decide, by decide⟩ dX3_reduce_27 ?_
  refine k_topv (vI (g (10 + 4 * (bo.toNat)))) rfl ?_
  refine k_bipush hC dX3_reduce_30 (by decide) ?_
  refine k_aload_n hC dX3_reduce_32 rfl 4 rfl ?_
  refine k_get hC fd_X3_27 (kl hN (by decide)) hL.1 rfl dX3_reduce_33 ?_
  refine k_iload_n hC dX3_reduce_36 rfl 5 rfl ?_
  refine k_pureSN hC (c_X11_at l hls G hN w fl 8 (i : Int) 12 (fun j => g (58 + 3 * j)) (by decide) (by omega) (by decide) hL.2.2.2.2.2.1) yy_X11_at wm_X3_15 rfl rfl (Nat.le_of_ble_eq_true rfl) (by decide) (by decide) ⟨by decide, by decide⟩ dX3_reduce_37 ?_
  refine k_topv (vI (g (58 + 3 * i))) rfl ?_
  refine k_imul hC dX3_reduce_40 ?_
  refine k_iadd hC dX3_reduce_41 ?_
  refine k_aload hC dX3_reduce_42 6 rfl ?_
  refine k_get hC fd_X3_30 (kl hN (by decide)) hS rfl dX3_reduce_44 ?_
  refine k_iadd hC dX3_reduce_47 ?_
  refine k_topI (fun an ean => ?_)
  refine k_istore hC [(7, vI an), (6, vI de), (5, vI bo), (0, .ref (kad G k)), (1, .ref (kad G 32)), (2, .ref (kad G 3)), (3, vI (i : Int)), (4, .ref (kad G 13))] dX3_reduce_48 (by decide) rfl ?_
  have ean2 : an = angM g i := by rw [ean, hlo, ebo]; rfl
  refine k_aload_n hC dX3_reduce_50 rfl 3 rfl ?_
  refine k_aload_n hC dX3_reduce_51 rfl 5 rfl ?_
  refine k_get hC fd_X3_36 (kl hN (by decide)) hL.1 rfl dX3_reduce_52 ?_
  refine k_iload_n hC dX3_reduce_55 rfl 6 rfl ?_
  refine k_pureSN hC (c_X11_at l hls G hN w fl 9 (i : Int) 12 (fun j => g (59 + 3 * j)) (by decide) (by omega) (by decide) hL.2.2.2.2.2.2) yy_X11_at wm_X3_15 rfl rfl (Nat.le_of_ble_eq_true rfl) (by decide) (by decide) ⟨by decide, by decide⟩ dX3_reduce_56 ?_
  refine k_topv (vI (g (59 + 3 * i))) rfl ?_
  refine k_aload_n hC dX3_reduce_59 rfl 5 rfl ?_
  refine k_get hC fd_X3_39 (kl hN (by decide)) hL.1 rfl dX3_reduce_60 ?_
  refine k_iadd hC dX3_reduce_63 ?_
  refine k_aload_n hC dX3_reduce_64 rfl 5 rfl ?_
  refine k_pureV hC (c_X4_dip l hls G hN w fl 3 g (by omega) (by omega) hL) yy_X4_dip wm_X3_42 (kl hN (by decide)) hL.1 rfl rfl rfl rfl (Nat.le_of_ble_eq_true rfl) (by decide) (by decide) ⟨by decide, by decide⟩ dX3_reduce_65 ?_
  refine k_isub hC dX3_reduce_68 ?_
  refine k_topI (fun ap eap => ?_)
  refine k_put hC fd_X3_46 (kl hN (by omega)) hw [vI ap, vI a1, vI a2, vI a3, vI a4, vI a5, vI a6, vI sa, vI ca] rfl (Nat.le_of_ble_eq_true rfl) rfl rfl dX3_reduce_69 (fun w1 hw1 hf1 => ?_)
  have eap2 : ap = apM g i := eap
  have hap := apM_b hI i hi
  rw [← eap2] at hap
  have hoo := obsO_b hap
  refine k_aload_n hC dX3_reduce_72 rfl 3 rfl ?_
  refine k_aload_n hC dX3_reduce_73 rfl 3 rfl ?_
  refine k_get hC fd_X3_46 (kl hN (by omega)) hw1 rfl dX3_reduce_74 ?_
  refine k_aload_n hC dX3_reduce_77 rfl 3 rfl ?_
  refine k_get hC fd_X3_46 (kl hN (by omega)) hw1 rfl dX3_reduce_78 ?_
  refine k_pureSN hC (c_X11_cosineOf l hls G hN w1 fl ap (by omega)) yy_X11_cosineOf wm_X3_51 rfl rfl (Nat.le_of_ble_eq_true rfl) (by decide) (by decide) ⟨by decide, by decide⟩ dX3_reduce_81 ?_
  have hb_2 := cosM_b ap
  refine k_i2l hC dX3_reduce_84 (by omega) ?_
  refine k_aload_n hC dX3_reduce_85 rfl 3 rfl ?_
  refine k_get hC fd_X3_46 (kl hN (by omega)) hw1 rfl dX3_reduce_86 ?_
  refine k_pureSN hC (c_X11_sineOf l hls G hN w1 fl ap (by omega)) yy_X11_sineOf wm_X3_55 rfl rfl (Nat.le_of_ble_eq_true rfl) (by decide) (by decide) ⟨by decide, by decide⟩ dX3_reduce_89 ?_
  have hb_3 := sinM_b ap
  refine k_i2l hC dX3_reduce_92 (by omega) ?_
  refine k_pureSN hC (c_X11_down l hls G hN w1 fl (cosM ap) (sinM ap) (by omega) (by omega)) yy_X11_down wm_X3_58 rfl rfl (Nat.le_of_ble_eq_true rfl) (by decide) (by decide) ⟨by decide, by decide⟩ dX3_reduce_93 ?_
  refine k_l2i hC dX3_reduce_96 ?_
  refine k_isub hC dX3_reduce_97 ?_
  refine k_topI (fun ob eob => ?_)
  refine k_put hC fd_X3_62 (kl hN (by omega)) hw1 [vI ap, vI ob, vI a2, vI a3, vI a4, vI a5, vI a6, vI sa, vI ca] rfl (Nat.le_of_ble_eq_true rfl) rfl rfl dX3_reduce_98 (fun w4 hw4 hf4 => ?_)
  have eob2 : ob = obsM g i := by rw [eob, eap2]; rfl
  have hob2 := obsM_b hI i hi
  rw [← eob2] at hob2
  refine k_aload_n hC dX3_reduce_101 rfl 3 rfl ?_
  refine k_aload hC dX3_reduce_102 7 rfl ?_
  have h_5 : w4 13 = .inr (8, [vI x, vI y, vI la, vI lo]) := (hf4 13 (by omega)).trans ((hf1 13 (by omega)).trans hS)
  refine k_get hC fd_X3_65 (kl hN (by decide)) h_5 rfl dX3_reduce_104 ?_
  refine k_iload hC dX3_reduce_107 1 rfl ?_
  refine k_iload hC dX3_reduce_109 0 rfl ?_
  refine k_pureS hC (c_X3_expectedAltitude l hls G hN w4 fl la de an (by omega) (by omega) (by omega)) yy_X3_expectedAltitude wm_X3_68 rfl rfl (Nat.le_of_ble_eq_true rfl) (by decide) (by decide) ⟨by decide, by decide⟩ dX3_reduce_111 ?_
  have hb_6 := expO_b la de an
  refine k_topI (fun ex eex => ?_)
  refine k_put hC fd_X3_72 (kl hN (by omega)) hw4 [vI ap, vI ob, vI ex, vI a3, vI a4, vI a5, vI a6, vI sa, vI ca] rfl (Nat.le_of_ble_eq_true rfl) rfl rfl dX3_reduce_114 (fun w7 hw7 hf7 => ?_)
  have eex2 : ex = expM g i := by rw [eex, ede2, ean2, hla]; rfl
  have hex := expO_b la de an
  rw [← eex] at hex
  refine k_aload_n hC dX3_reduce_117 rfl 3 rfl ?_
  refine k_aload hC dX3_reduce_118 7 rfl ?_
  have h_8 : w7 13 = .inr (8, [vI x, vI y, vI la, vI lo]) := (hf7 13 (by omega)).trans h_5
  refine k_get hC fd_X3_65 (kl hN (by decide)) h_8 rfl dX3_reduce_120 ?_
  refine k_iload hC dX3_reduce_123 1 rfl ?_
  refine k_iload hC dX3_reduce_125 0 rfl ?_
  refine k_aload_n hC dX3_reduce_127 rfl 3 rfl ?_
  refine k_get hC fd_X3_72 (kl hN (by omega)) hw7 rfl dX3_reduce_128 ?_
  refine k_pureS hC (c_X3_azimuthTo l hls G hN w7 fl la de an ex (by omega) (by omega) (by omega) (by omega)) yy_X3_azimuthTo wm_X3_75 rfl rfl (Nat.le_of_ble_eq_true rfl) (by decide) (by decide) ⟨by decide, by decide⟩ dX3_reduce_131 ?_
  have hb_9 := aziO_b la de an ex
  refine k_topI (fun az eaz => ?_)
  refine k_put hC fd_X3_79 (kl hN (by omega)) hw7 [vI ap, vI ob, vI ex, vI az, vI a4, vI a5, vI a6, vI sa, vI ca] rfl (Nat.le_of_ble_eq_true rfl) rfl rfl dX3_reduce_134 (fun w10 hw10 hf10 => ?_)
  have eaz2 : az = aziM g i := by rw [eaz, ede2, ean2, hla, eex2]; rfl
  have haz := aziO_b la de an ex
  rw [← eaz] at haz
  refine k_aload_n hC dX3_reduce_137 rfl 3 rfl ?_
  refine k_aload_n hC dX3_reduce_138 rfl 3 rfl ?_
  refine k_get hC fd_X3_62 (kl hN (by omega)) hw10 rfl dX3_reduce_139 ?_
  refine k_aload_n hC dX3_reduce_142 rfl 3 rfl ?_
  refine k_get hC fd_X3_72 (kl hN (by omega)) hw10 rfl dX3_reduce_143 ?_
  refine k_isub hC dX3_reduce_146 ?_
  refine k_topI (fun it eit => ?_)
  refine k_put hC fd_X3_82 (kl hN (by omega)) hw10 [vI ap, vI ob, vI ex, vI az, vI it, vI a5, vI a6, vI sa, vI ca] rfl (Nat.le_of_ble_eq_true rfl) rfl rfl dX3_reduce_147 (fun w11 hw11 hf11 => ?_)
  have eit2 : it = intM g i := by rw [eit, eob2, eex2]; rfl
  refine k_aload_n hC dX3_reduce_150 rfl 3 rfl ?_
  refine k_aload_n hC dX3_reduce_151 rfl 3 rfl ?_
  refine k_get hC fd_X3_79 (kl hN (by omega)) hw11 rfl dX3_reduce_152 ?_
  refine k_pureSN hC (c_X11_sineOf l hls G hN w11 fl az (by omega)) yy_X11_sineOf wm_X3_55 rfl rfl (Nat.le_of_ble_eq_true rfl) (by decide) (by decide) ⟨by decide, by decide⟩ dX3_reduce_155 ?_
  have hb_12 := sinM_b az
  refine k_topI (fun sz esz => ?_)
  refine k_put hC fd_X3_85 (kl hN (by omega)) hw11 [vI ap, vI ob, vI ex, vI az, vI it, vI a5, vI a6, vI sz, vI ca] rfl (Nat.le_of_ble_eq_true rfl) rfl rfl dX3_reduce_158 (fun w13 hw13 hf13 => ?_)
  have esz2 : sz = sinM (aziM g i) := by rw [esz, eaz2]
  have hsz := sinM_b az
  rw [← esz] at hsz
  refine k_aload_n hC dX3_reduce_161 rfl 3 rfl ?_
  refine k_aload_n hC dX3_reduce_162 rfl 3 rfl ?_
  refine k_get hC fd_X3_79 (kl hN (by omega)) hw13 rfl dX3_reduce_163 ?_
  refine k_pureSN hC (c_X11_cosineOf l hls G hN w13 fl az (by omega)) yy_X11_cosineOf wm_X3_51 rfl rfl (Nat.le_of_ble_eq_true rfl) (by decide) (by decide) ⟨by decide, by decide⟩ dX3_reduce_166 ?_
  have hb_14 := cosM_b az
  refine k_topI (fun cz ecz => ?_)
  refine k_put hC fd_X3_88 (kl hN (by omega)) hw13 [vI ap, vI ob, vI ex, vI az, vI it, vI a5, vI a6, vI sz, vI cz] rfl (Nat.le_of_ble_eq_true rfl) rfl rfl dX3_reduce_169 (fun w15 hw15 hf15 => ?_)
  have ecz2 : cz = cosM (aziM g i) := by rw [ecz, eaz2]
  have hcz := cosM_b az
  rw [← ecz] at hcz
  refine k_aload hC dX3_reduce_172 7 rfl ?_
  have h_16 : w15 13 = .inr (8, [vI x, vI y, vI la, vI lo]) := (hf15 13 (by omega)).trans ((hf13 13 (by omega)).trans ((hf11 13 (by omega)).trans ((hf10 13 (by omega)).trans h_8)))
  refine k_get hC fd_X3_30 (kl hN (by decide)) h_16 rfl dX3_reduce_174 ?_
  refine k_i2l hC dX3_reduce_177 (by omega) ?_
  refine k_aload_n hC dX3_reduce_178 rfl 4 rfl ?_
  have h_17 : w15 32 = .inr (6, [vI (g 3), vI (g 4), vI (g 0), .ref (kad G 33), .ref (kad G 34), .ref (kad G 35), .ref (kad G 36)]) := (hf15 32 (by omega)).trans ((hf13 32 (by omega)).trans ((hf11 32 (by omega)).trans ((hf10 32 (by omega)).trans ((hf7 32 (by omega)).trans ((hf4 32 (by omega)).trans ((hf1 32 (by omega)).trans hP.1))))))
  refine k_get hC fd_X3_91 (kl hN (by decide)) h_17 rfl dX3_reduce_179 ?_
  refine k_i2l hC dX3_reduce_182 (by omega) ?_
  refine k_lsub hC dX3_reduce_183 ?_
  refine k_pureSN hC (c_X11_longitudeOf l hls G hN w15 fl (lo - (g 4)) (by omega)) yy_X11_longitudeOf wm_X3_92 rfl rfl (Nat.le_of_ble_eq_true rfl) (by decide) (by decide) ⟨by decide, by decide⟩ dX3_reduce_184 ?_
  have hb_18 := k_lonb (lo - (g 4))
  refine k_i2l hC dX3_reduce_187 (by omega) ?_
  refine k_topL (fun df edf => ?_)
  refine k_lstore hC [(8, vL df), (7, vI an), (6, vI de), (5, vI bo), (0, .ref (kad G k)), (1, .ref (kad G 32)), (2, .ref (kad G 3)), (3, vI (i : Int)), (4, .ref (kad G 13))] dX3_reduce_188 (by decide) rfl ?_
  have edf2 : df = lonM (lonT g (g (58 + 3 * i)) - g 4) := by rw [edf, hlo]
  have hdf := lonM_b (lonT g (g (58 + 3 * i)) - g 4)
  rw [← edf2] at hdf
  have hcs := cosM_b (g 3)
  have hmd := mul_le_abs (a := df) (b := cosM (g 3)) (A := 10800) (B := 1000000) (by omega) (by omega)
  refine k_lload hC dX3_reduce_190 0 rfl ?_
  refine k_aload_n hC dX3_reduce_192 rfl 5 rfl ?_
  refine k_get hC fd_X3_96 (kl hN (by decide)) h_17 rfl dX3_reduce_193 ?_
  refine k_pureSN hC (c_X11_cosineOf l hls G hN w15 fl (g 3) (by omega)) yy_X11_cosineOf wm_X3_51 rfl rfl (Nat.le_of_ble_eq_true rfl) (by decide) (by decide) ⟨by decide, by decide⟩ dX3_reduce_196 ?_
  have hb_19 := cosM_b (g 3)
  refine k_i2l hC dX3_reduce_199 (by omega) ?_
  refine k_lmul hC dX3_reduce_200 ?_
  refine k_ldc2 hC (x := 10000) (v := 10000) dX3_reduce_201 (by decide) wk_X3_97 ?_
  refine k_pureSN hC (c_X11_down l hls G hN w15 fl (df * (cosM (g 3))) 10000 (by omega) (by omega)) yy_X11_down wm_X3_58 rfl rfl (Nat.le_of_ble_eq_true rfl) (by decide) (by decide) ⟨by decide, by decide⟩ dX3_reduce_204 ?_
  refine k_topL (fun ee eee => ?_)
  refine k_lstore hC [(10, vL ee), (8, vL df), (7, vI an), (6, vI de), (5, vI bo), (0, .ref (kad G k)), (1, .ref (kad G 32)), (2, .ref (kad G 3)), (3, vI (i : Int)), (4, .ref (kad G 13))] dX3_reduce_207 (by decide) rfl ?_
  have eee2 : ee = lonM (lonT g (g (58 + 3 * i)) - g 4) * cosM (g 3) / 10000 := by rw [eee, edf2, Int.fdiv_eq_ediv_of_nonneg _ (by decide)]
  have hee : -1080000 ≤ ee ∧ ee ≤ 1080000 := by rw [eee2]; exact offE_b _
  refine k_ldc2 hC (x := 100) (v := 100) dX3_reduce_209 (by decide) wk_X3_99 ?_
  refine k_aload hC dX3_reduce_212 9 rfl ?_
  refine k_get hC fd_X3_65 (kl hN (by decide)) h_16 rfl dX3_reduce_214 ?_
  refine k_aload_n hC dX3_reduce_217 rfl 6 rfl ?_
  refine k_get hC fd_X3_96 (kl hN (by decide)) h_17 rfl dX3_reduce_218 ?_
  refine k_isub hC dX3_reduce_221 ?_
  refine k_i2l hC dX3_reduce_222 (by omega) ?_
  refine k_lmul hC dX3_reduce_223 ?_
  refine k_topL (fun nn enn => ?_)
  refine k_lstore hC [(12, vL nn), (10, vL ee), (8, vL df), (7, vI an), (6, vI de), (5, vI bo), (0, .ref (kad G k)), (1, .ref (kad G 32)), (2, .ref (kad G 3)), (3, vI (i : Int)), (4, .ref (kad G 13))] dX3_reduce_224 (by decide) rfl ?_
  have enn2 : nn = 100 * (latM g (g (58 + 3 * i)) - g 3) := by rw [enn, hla]
  refine k_aload_n hC dX3_reduce_226 rfl 6 rfl ?_
  refine k_aload_n hC dX3_reduce_227 rfl 6 rfl ?_
  refine k_lload hC dX3_reduce_228 1 rfl ?_
  refine k_lload hC dX3_reduce_230 0 rfl ?_
  refine k_pureV hC (c_X3_along l hls G hN w15 fl k ap ob ex az it a5 a6 sz cz ee nn (by omega) (by omega) (by omega) (by omega) (by omega) hw15) yy_X3_along wm_X3_101 (kl hN (by omega)) hw15 rfl rfl rfl rfl (Nat.le_of_ble_eq_true rfl) (by decide) (by decide) ⟨by decide, by decide⟩ dX3_reduce_232 ?_
  have hb_20 := along_b 10000000 10000000 (e := ee) (n := nn) (s := sz) (c := cz) (by omega) (by omega) (by omega) (by omega)
  refine k_bipush hC dX3_reduce_235 (by decide) ?_
  refine k_aload_n hC dX3_reduce_237 rfl 6 rfl ?_
  refine k_get hC fd_X3_82 (kl hN (by omega)) hw15 rfl dX3_reduce_238 ?_
  refine k_imul hC dX3_reduce_241 ?_
  refine k_iadd hC dX3_reduce_242 ?_
  refine k_topI (fun of eof => ?_)
  refine k_put hC fd_X3_105 (kl hN (by omega)) hw15 [vI ap, vI ob, vI ex, vI az, vI it, vI of, vI a6, vI sz, vI cz] rfl (Nat.le_of_ble_eq_true rfl) rfl rfl dX3_reduce_243 (fun w21 hw21 hf21 => ?_)
  have eof2 : of = offM g i := by rw [eof, eee2, enn2, esz2, ecz2, eit2]; rfl
  subst hQ
  exact k_vret hC hr ⟨by decide, by decide⟩ (⟨rfl, rfl, by rw [hw21, eap2, eob2, eex2, eaz2, eit2, eof2, esz2, ecz2], fun j hj => (hf21 j (by omega)).trans ((hf15 j (by omega)).trans ((hf13 j (by omega)).trans ((hf11 j (by omega)).trans ((hf10 j (by omega)).trans ((hf7 j (by omega)).trans ((hf4 j (by omega)).trans (hf1 j (by omega))))))))⟩) dX3_reduce_246

set_option maxRecDepth 100000 in
set_option maxHeartbeats 4000000 in
theorem c_X5_putAt (l : Launch) (hls : l.stackTraces = false) (G : kG) (hN : 133 ≤ kN G) (w : Nat → va_E) (fl : va_W) (q : Nat) (z x y a b : Int) (hq : q < 133) (ha : -9223372036854775808 ≤ a ∧ a ≤ 9223372036854775807) (hb : -9223372036854775808 ≤ b ∧ b ≤ 9223372036854775807) (hw : w q = .inr (5, [vI z, vI x, vI y])) : KM l G yX5_putAt cX5_putAt 5 (none) 2 0 0 [.ref (kad G q), vL a, vL b] w fl (kMuv fl (fun w1 => w1 q = .inr (5, [vI 1, vI (limM a), vI (limM b)]) ∧ ∀ j, j ≠ q → w1 j = w j)) := by
  refine KM_of2 hls (by decide +kernel) rfl (lv0 := [(0, .ref (kad G q)), (1, vL a), (3, vL b)]) rfl (Nat.le_of_ble_eq_true rfl) (fun p e R s m args below meth c Q hC hr hQ => ?_)
  refine k_aload_n hC dX5_putAt_0 rfl 0 rfl ?_
  refine k_iconst hC dX5_putAt_1 ?_
  refine k_put hC fd_X5_9 (kl hN (by omega)) hw [vI 1, vI x, vI y] rfl (Nat.le_of_ble_eq_true rfl) rfl rfl dX5_putAt_2 (fun w1 hw1 hf1 => ?_)
  refine k_aload_n hC dX5_putAt_5 rfl 0 rfl ?_
  refine k_lload_n hC dX5_putAt_6 rfl 1 rfl ?_
  refine k_pureSN hC (c_X11_limited l hls G hN w1 fl a (by omega)) yy_X11_limited wm_X5_15 rfl rfl (Nat.le_of_ble_eq_true rfl) (by decide) (by decide) ⟨by decide, by decide⟩ dX5_putAt_7 ?_
  have hb_2 := limM_b a
  refine k_put hC fd_X5_19 (kl hN (by omega)) hw1 [vI 1, vI (limM a), vI y] rfl (Nat.le_of_ble_eq_true rfl) rfl rfl dX5_putAt_10 (fun w3 hw3 hf3 => ?_)
  refine k_aload_n hC dX5_putAt_13 rfl 0 rfl ?_
  refine k_lload_n hC dX5_putAt_14 rfl 2 rfl ?_
  refine k_pureSN hC (c_X11_limited l hls G hN w3 fl b (by omega)) yy_X11_limited wm_X5_15 rfl rfl (Nat.le_of_ble_eq_true rfl) (by decide) (by decide) ⟨by decide, by decide⟩ dX5_putAt_15 ?_
  have hb_4 := limM_b b
  refine k_put hC fd_X5_23 (kl hN (by omega)) hw3 [vI 1, vI (limM a), vI (limM b)] rfl (Nat.le_of_ble_eq_true rfl) rfl rfl dX5_putAt_18 (fun w5 hw5 hf5 => ?_)
  subst hQ
  exact k_vret hC hr ⟨by decide, by decide⟩ (⟨rfl, rfl, hw5, fun j hj => (hf5 j (by omega)).trans ((hf3 j (by omega)).trans (hf1 j (by omega)))⟩) dX5_putAt_21

def crDet (s c t d : Int) : Int := s * d - t * c
abbrev crOK (x : Int) : Prop := 100000000000 ≤ x ∨ x ≤ -100000000000
def crE (v s c u t d : Int) : Int := limM (((v * d - u * c) * 1000000).fdiv (crDet s c t d))
def crN (v s c u t d : Int) : Int := limM (((u * s - v * t) * 1000000).fdiv (crDet s c t d))
abbrev plO (v s c u t d z x y : Int) : va_E := .inr (5, [vI (if crOK (crDet s c t d) then 1 else 0), vI (if crOK (crDet s c t d) then crE v s c u t d else x), vI (if crOK (crDet s c t d) then crN v s c u t d else y)])
theorem crDet_b {s c t d : Int} (hs : -1000000 ≤ s ∧ s ≤ 1000000) (hc : -1000000 ≤ c ∧ c ≤ 1000000) (ht : -1000000 ≤ t ∧ t ≤ 1000000) (hd : -1000000 ≤ d ∧ d ≤ 1000000) : -2000000000000 ≤ crDet s c t d ∧ crDet s c t d ≤ 2000000000000 := by
  have h1 := mul_le_abs hs hd
  have h2 := mul_le_abs ht hc
  unfold crDet; omega
theorem cr_b {v u a b : Int} (hv : -4300000 ≤ v ∧ v ≤ 4300000) (hu : -4300000 ≤ u ∧ u ≤ 4300000) (ha : -1000000 ≤ a ∧ a ≤ 1000000) (hb : -1000000 ≤ b ∧ b ≤ 1000000) : -8600000000000 ≤ v * a - u * b ∧ v * a - u * b ≤ 8600000000000 := by
  have h1 := mul_le_abs hv ha
  have h2 := mul_le_abs hu hb
  omega
theorem fdiv_abs {a b : Int} (A : Int) (ha : -A ≤ a ∧ a ≤ A) (hA : 0 ≤ A) (hb : 1 ≤ b ∨ b ≤ -1) : -A - 1 ≤ a.fdiv b ∧ a.fdiv b ≤ A + 1 := by
  have h1 := k_tdivb a b
  have h2 : a.fdiv b = a.tdiv b ∨ a.fdiv b = a.tdiv b - 1 := by
    rw [Int.fdiv_eq_tdiv]
    have s1 : b < 0 → b.sign = -1 := Int.sign_eq_neg_one_of_neg
    have s2 : 0 < b → b.sign = 1 := Int.sign_eq_one_of_pos
    split
    · omega
    · split <;> split <;> omega
  omega
set_option maxRecDepth 100000 in
set_option maxHeartbeats 4000000 in
theorem c_X5_cross (l : Launch) (hls : l.stackTraces = false) (G : kG) (hN : 133 ≤ kN G) (w : Nat → va_E) (fl : va_W) (q k j : Nat) (z x y a0 a1 a2 a3 a4 a5 v sa ca b0 b1 b2 b3 b4 b5 u sb cb : Int) (hq : q < 20) (hk : 20 ≤ k ∧ k < 133) (hj : 20 ≤ j ∧ j < 133) (hv : -4300000 ≤ v ∧ v ≤ 4300000) (hu : -4300000 ≤ u ∧ u ≤ 4300000) (hsa : -1000000 ≤ sa ∧ sa ≤ 1000000) (hca : -1000000 ≤ ca ∧ ca ≤ 1000000) (hsb : -1000000 ≤ sb ∧ sb ≤ 1000000) (hcb : -1000000 ≤ cb ∧ cb ≤ 1000000) (hp : w q = .inr (5, [vI z, vI x, vI y])) (h1 : w k = .inr (3, [vI a0, vI a1, vI a2, vI a3, vI a4, vI a5, vI v, vI sa, vI ca])) (h2 : w j = .inr (3, [vI b0, vI b1, vI b2, vI b3, vI b4, vI b5, vI u, vI sb, vI cb])) : KM l G yX5_cross cX5_cross 9 (none) 3 0 0 [.ref (kad G q), .ref (kad G k), .ref (kad G j)] w fl (kMuv fl (fun w1 => w1 q = plO v sa ca u sb cb z x y ∧ ∀ j, j ≠ q → w1 j = w j)) := by
  refine KM_of2 hls (by decide +kernel) rfl (lv0 := [(0, .ref (kad G q)), (1, .ref (kad G k)), (2, .ref (kad G j))]) rfl (Nat.le_of_ble_eq_true rfl) (fun p e R s m args below meth c Q hC hr hQ => ?_)
  refine k_aload_n hC dX5_cross_0 rfl 1 rfl ?_
  refine k_getN hC fd_X5_26 (kl hN (by omega)) h1 rfl dX5_cross_1 ?_
  refine k_i2l hC dX5_cross_4 (by omega) ?_
  refine k_aload_n hC dX5_cross_5 rfl 2 rfl ?_
  refine k_getN hC fd_X5_31 (kl hN (by omega)) h2 rfl dX5_cross_6 ?_
  refine k_i2l hC dX5_cross_9 (by omega) ?_
  refine k_lmul hC dX5_cross_10 ?_
  refine k_aload_n hC dX5_cross_11 rfl 2 rfl ?_
  refine k_getN hC fd_X5_26 (kl hN (by omega)) h2 rfl dX5_cross_12 ?_
  refine k_i2l hC dX5_cross_15 (by omega) ?_
  refine k_aload_n hC dX5_cross_16 rfl 1 rfl ?_
  refine k_getN hC fd_X5_31 (kl hN (by omega)) h1 rfl dX5_cross_17 ?_
  refine k_i2l hC dX5_cross_20 (by omega) ?_
  refine k_lmul hC dX5_cross_21 ?_
  refine k_lsub hC dX5_cross_22 ?_
  refine k_topL (fun de ede => ?_)
  refine k_lstore_n hC [(3, vL de), (0, .ref (kad G q)), (1, .ref (kad G k)), (2, .ref (kad G j))] dX5_cross_23 rfl (by decide) rfl ?_
  have ede2 : de = crDet sa ca sb cb := ede
  have hde := crDet_b hsa hca hsb hcb
  rw [← ede2] at hde
  refine k_aload_n hC dX5_cross_24 rfl 1 rfl ?_
  refine k_iconst hC dX5_cross_25 ?_
  refine k_put hC fd_X5_9 (kl hN (by omega)) hp [vI 0, vI x, vI y] rfl (Nat.le_of_ble_eq_true rfl) rfl rfl dX5_cross_26 (fun w1 hw1 hf1 => ?_)
  refine k_lload_n hC dX5_cross_29 rfl 0 rfl ?_
  refine k_ldc2 hC (x := 100000000000) (v := 100000000000) dX5_cross_30 (by decide) wk_X5_34 ?_
  refine k_lcmp_ge hC 45 dX5_cross_33 dX5_cross_34 rfl (by omega) (by omega) (fun c_33 => ?_) (fun c_33 => ?_)
  · refine k_aload_n hC dX5_cross_45 rfl 2 rfl ?_
    have h_2 : w1 k = .inr (3, [vI a0, vI a1, vI a2, vI a3, vI a4, vI a5, vI v, vI sa, vI ca]) := (hf1 k (by omega)).trans h1
    refine k_get hC fd_X5_38 (kl hN (by omega)) h_2 rfl dX5_cross_46 ?_
    refine k_i2l hC dX5_cross_49 (by omega) ?_
    refine k_aload_n hC dX5_cross_50 rfl 3 rfl ?_
    have h_3 : w1 j = .inr (3, [vI b0, vI b1, vI b2, vI b3, vI b4, vI b5, vI u, vI sb, vI cb]) := (hf1 j (by omega)).trans h2
    refine k_getN hC fd_X5_31 (kl hN (by omega)) h_3 rfl dX5_cross_51 ?_
    refine k_i2l hC dX5_cross_54 (by omega) ?_
    refine k_lmul hC dX5_cross_55 ?_
    refine k_aload_n hC dX5_cross_56 rfl 3 rfl ?_
    refine k_get hC fd_X5_38 (kl hN (by omega)) h_3 rfl dX5_cross_57 ?_
    refine k_i2l hC dX5_cross_60 (by omega) ?_
    refine k_aload_n hC dX5_cross_61 rfl 2 rfl ?_
    refine k_getN hC fd_X5_31 (kl hN (by omega)) h_2 rfl dX5_cross_62 ?_
    refine k_i2l hC dX5_cross_65 (by omega) ?_
    refine k_lmul hC dX5_cross_66 ?_
    refine k_lsub hC dX5_cross_67 ?_
    refine k_topL (fun pe epe => ?_)
    refine k_lstore hC [(5, vL pe), (3, vL de), (0, .ref (kad G q)), (1, .ref (kad G k)), (2, .ref (kad G j))] dX5_cross_68 (by decide) rfl ?_
    have hpe := cr_b hv hu hcb hca
    rw [← epe] at hpe
    refine k_aload_n hC dX5_cross_70 rfl 4 rfl ?_
    refine k_get hC fd_X5_38 (kl hN (by omega)) h_3 rfl dX5_cross_71 ?_
    refine k_i2l hC dX5_cross_74 (by omega) ?_
    refine k_aload_n hC dX5_cross_75 rfl 3 rfl ?_
    refine k_getN hC fd_X5_26 (kl hN (by omega)) h_2 rfl dX5_cross_76 ?_
    refine k_i2l hC dX5_cross_79 (by omega) ?_
    refine k_lmul hC dX5_cross_80 ?_
    refine k_aload_n hC dX5_cross_81 rfl 3 rfl ?_
    refine k_get hC fd_X5_38 (kl hN (by omega)) h_2 rfl dX5_cross_82 ?_
    refine k_i2l hC dX5_cross_85 (by omega) ?_
    refine k_aload_n hC dX5_cross_86 rfl 4 rfl ?_
    refine k_getN hC fd_X5_26 (kl hN (by omega)) h_3 rfl dX5_cross_87 ?_
    refine k_i2l hC dX5_cross_90 (by omega) ?_
    refine k_lmul hC dX5_cross_91 ?_
    refine k_lsub hC dX5_cross_92 ?_
    refine k_topL (fun pn epn => ?_)
    refine k_lstore hC [(7, vL pn), (5, vL pe), (3, vL de), (0, .ref (kad G q)), (1, .ref (kad G k)), (2, .ref (kad G j))] dX5_cross_93 (by decide) rfl ?_
    have hpn := cr_b hu hv hsa hsb
    rw [← epn] at hpn
    have hfd1 := fdiv_abs (a := pe * 1000000) (b := de) 8600000000000000000 (by omega) (by decide) (by omega)
    have hfd2 := fdiv_abs (a := pn * 1000000) (b := de) 8600000000000000000 (by omega) (by decide) (by omega)
    refine k_aload_n hC dX5_cross_95 rfl 3 rfl ?_
    refine k_lload hC dX5_cross_96 1 rfl ?_
    refine k_ldc2 hC (x := 1000000) (v := 1000000) dX5_cross_98 (by decide) wk_X5_41 ?_
    refine k_lmul hC dX5_cross_101 ?_
    refine k_lload_n hC dX5_cross_102 rfl 2 rfl ?_
    refine k_pureSN hC (c_X11_down l hls G hN w1 fl (pe * 1000000) de (by omega) (by omega)) yy_X11_down wm_X5_43 rfl rfl (Nat.le_of_ble_eq_true rfl) (by decide) (by decide) ⟨by decide, by decide⟩ dX5_cross_103 ?_
    refine k_lload hC dX5_cross_106 0 rfl ?_
    refine k_ldc2 hC (x := 1000000) (v := 1000000) dX5_cross_108 (by decide) wk_X5_41 ?_
    refine k_lmul hC dX5_cross_111 ?_
    refine k_lload_n hC dX5_cross_112 rfl 2 rfl ?_
    refine k_pureSN hC (c_X11_down l hls G hN w1 fl (pn * 1000000) de (by omega) (by omega)) yy_X11_down wm_X5_43 rfl rfl (Nat.le_of_ble_eq_true rfl) (by decide) (by decide) ⟨by decide, by decide⟩ dX5_cross_113 ?_
    refine k_muvV hC (c_X5_putAt l hls G hN w1 fl q 0 x y ((pe * 1000000).fdiv de) ((pn * 1000000).fdiv de) (by omega) (by omega) (by omega) hw1) yy_X5_putAt wm_X5_47 (kl hN (by omega)) hw1 rfl rfl rfl rfl (Nat.le_of_ble_eq_true rfl) (by decide) (by decide) ⟨by decide, by decide⟩ dX5_cross_116 (fun w4 hp4 => ?_)
    obtain ⟨hs4, hf4⟩ := hp4
    subst hQ
    exact k_vret hC hr ⟨by decide, by decide⟩ (⟨rfl, rfl, by rw [hs4]; unfold plO crE crN; rw [← ede2, if_pos (by omega), if_pos (by omega), if_pos (by omega), epe, epn], fun j hj => (hf4 j (by omega)).trans (hf1 j (by omega))⟩) dX5_cross_119
  · refine k_lload_n hC dX5_cross_37 rfl 0 rfl ?_
    refine k_ldc2 hC (x := (-100000000000)) (v := (-100000000000)) dX5_cross_38 (by decide) wk_X5_36 ?_
    refine k_lcmp_gt hC 119 dX5_cross_41 dX5_cross_42 rfl (by omega) (by omega) (fun c_41 => ?_) (fun c_41 => ?_)
    · subst hQ
      exact k_vret hC hr ⟨by decide, by decide⟩ (⟨rfl, rfl, by rw [hw1]; unfold plO; rw [← ede2, if_neg (by omega), if_neg (by omega), if_neg (by omega)], fun j hj => hf1 j (by omega)⟩) dX5_cross_119
    · refine k_aload_n hC dX5_cross_45 rfl 2 rfl ?_
      have h_5 : w1 k = .inr (3, [vI a0, vI a1, vI a2, vI a3, vI a4, vI a5, vI v, vI sa, vI ca]) := (hf1 k (by omega)).trans h1
      refine k_get hC fd_X5_38 (kl hN (by omega)) h_5 rfl dX5_cross_46 ?_
      refine k_i2l hC dX5_cross_49 (by omega) ?_
      refine k_aload_n hC dX5_cross_50 rfl 3 rfl ?_
      have h_6 : w1 j = .inr (3, [vI b0, vI b1, vI b2, vI b3, vI b4, vI b5, vI u, vI sb, vI cb]) := (hf1 j (by omega)).trans h2
      refine k_getN hC fd_X5_31 (kl hN (by omega)) h_6 rfl dX5_cross_51 ?_
      refine k_i2l hC dX5_cross_54 (by omega) ?_
      refine k_lmul hC dX5_cross_55 ?_
      refine k_aload_n hC dX5_cross_56 rfl 3 rfl ?_
      refine k_get hC fd_X5_38 (kl hN (by omega)) h_6 rfl dX5_cross_57 ?_
      refine k_i2l hC dX5_cross_60 (by omega) ?_
      refine k_aload_n hC dX5_cross_61 rfl 2 rfl ?_
      refine k_getN hC fd_X5_31 (kl hN (by omega)) h_5 rfl dX5_cross_62 ?_
      refine k_i2l hC dX5_cross_65 (by omega) ?_
      refine k_lmul hC dX5_cross_66 ?_
      refine k_lsub hC dX5_cross_67 ?_
      refine k_topL (fun pe epe => ?_)
      refine k_lstore hC [(5, vL pe), (3, vL de), (0, .ref (kad G q)), (1, .ref (kad G k)), (2, .ref (kad G j))] dX5_cross_68 (by decide) rfl ?_
      have hpe := cr_b hv hu hcb hca
      rw [← epe] at hpe
      refine k_aload_n hC dX5_cross_70 rfl 4 rfl ?_
      refine k_get hC fd_X5_38 (kl hN (by omega)) h_6 rfl dX5_cross_71 ?_
      refine k_i2l hC dX5_cross_74 (by omega) ?_
      refine k_aload_n hC dX5_cross_75 rfl 3 rfl ?_
      refine k_getN hC fd_X5_26 (kl hN (by omega)) h_5 rfl dX5_cross_76 ?_
      refine k_i2l hC dX5_cross_79 (by omega) ?_
      refine k_lmul hC dX5_cross_80 ?_
      refine k_aload_n hC dX5_cross_81 rfl 3 rfl ?_
      refine k_get hC fd_X5_38 (kl hN (by omega)) h_5 rfl dX5_cross_82 ?_
      refine k_i2l hC dX5_cross_85 (by omega) ?_
      refine k_aload_n hC dX5_cross_86 rfl 4 rfl ?_
      refine k_getN hC fd_X5_26 (kl hN (by omega)) h_6 rfl dX5_cross_87 ?_
      refine k_i2l hC dX5_cross_90 (by omega) ?_
      refine k_lmul hC dX5_cross_91 ?_
      refine k_lsub hC dX5_cross_92 ?_
      refine k_topL (fun pn epn => ?_)
      refine k_lstore hC [(7, vL pn), (5, vL pe), (3, vL de), (0, .ref (kad G q)), (1, .ref (kad G k)), (2, .ref (kad G j))] dX5_cross_93 (by decide) rfl ?_
      have hpn := cr_b hu hv hsa hsb
      rw [← epn] at hpn
      have hfd1 := fdiv_abs (a := pe * 1000000) (b := de) 8600000000000000000 (by omega) (by decide) (by omega)
      have hfd2 := fdiv_abs (a := pn * 1000000) (b := de) 8600000000000000000 (by omega) (by decide) (by omega)
      refine k_aload_n hC dX5_cross_95 rfl 3 rfl ?_
      refine k_lload hC dX5_cross_96 1 rfl ?_
      refine k_ldc2 hC (x := 1000000) (v := 1000000) dX5_cross_98 (by decide) wk_X5_41 ?_
      refine k_lmul hC dX5_cross_101 ?_
      refine k_lload_n hC dX5_cross_102 rfl 2 rfl ?_
      refine k_pureSN hC (c_X11_down l hls G hN w1 fl (pe * 1000000) de (by omega) (by omega)) yy_X11_down wm_X5_43 rfl rfl (Nat.le_of_ble_eq_true rfl) (by decide) (by decide) ⟨by decide, by decide⟩ dX5_cross_103 ?_
      refine k_lload hC dX5_cross_106 0 rfl ?_
      refine k_ldc2 hC (x := 1000000) (v := 1000000) dX5_cross_108 (by decide) wk_X5_41 ?_
      refine k_lmul hC dX5_cross_111 ?_
      refine k_lload_n hC dX5_cross_112 rfl 2 rfl ?_
      refine k_pureSN hC (c_X11_down l hls G hN w1 fl (pn * 1000000) de (by omega) (by omega)) yy_X11_down wm_X5_43 rfl rfl (Nat.le_of_ble_eq_true rfl) (by decide) (by decide) ⟨by decide, by decide⟩ dX5_cross_113 ?_
      refine k_muvV hC (c_X5_putAt l hls G hN w1 fl q 0 x y ((pe * 1000000).fdiv de) ((pn * 1000000).fdiv de) (by omega) (by omega) (by omega) hw1) yy_X5_putAt wm_X5_47 (kl hN (by omega)) hw1 rfl rfl rfl rfl (Nat.le_of_ble_eq_true rfl) (by decide) (by decide) ⟨by decide, by decide⟩ dX5_cross_116 (fun w7 hp7 => ?_)
      obtain ⟨hs7, hf7⟩ := hp7
      subst hQ
      exact k_vret hC hr ⟨by decide, by decide⟩ (⟨rfl, rfl, by rw [hs7]; unfold plO crE crN; rw [← ede2, if_pos (by omega), if_pos (by omega), if_pos (by omega), epe, epn], fun j hj => (hf7 j (by omega)).trans (hf1 j (by omega))⟩) dX5_cross_119

