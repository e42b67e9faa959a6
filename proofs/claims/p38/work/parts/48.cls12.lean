abbrev qdO (G : kG) : va_E := .inr (7, [.ref (kad G 1), .ref (kad G 3), .ref (kad G 10), .ref (kad G 130), .ref (kad G 131)])
set_option maxRecDepth 100000 in
set_option maxHeartbeats 4000000 in
theorem c_X7_propertyOf (l : Launch) (hls : l.stackTraces = false) (G : kG) (hN : 133 ≤ kN G) (w : Nat → va_E) (fl : va_W) (g : Nat → Int) (i : Nat) (p9 : Int) (hi : (i : Int) < g 2) (hp : 0 ≤ p9 ∧ p9 ≤ 6) (h129 : w 129 = qdO G) (hI : Inv g) (hLg : kLog G w 3 g) (h10 : w 10 = chO G) (h11 : w 11 = liA G) (hD : kDrawn w g 0 (g 2).toNat) : KM l G yX7_propertyOf cX7_propertyOf 4 (some (FieldType.int)) 1 0 0 [.ref (kad G 129), vI (i : Int), vI p9] w fl (kPure (vI (pV g p9 i)) w fl) := by
  refine KM_of2 hls (by decide +kernel) rfl (lv0 := [(0, .ref (kad G 129)), (1, vI (i : Int)), (2, vI p9)]) rfl (Nat.le_of_ble_eq_true rfl) (fun p e R s m args below meth c Q hC hr hQ => ?_)
  have h0 := hI.c
  have hib := intM_b hI i hi
  have hln : w (20 + i) = lnO g i 0 := hD i (by omega) (by omega)
  refine k_aload_n hC dX7_propertyOf_0 rfl 0 rfl ?_
  refine k_get hC fd_X7_26 (kl hN (by decide)) h129 rfl dX7_propertyOf_1 ?_
  refine k_iload_n hC dX7_propertyOf_4 rfl 1 rfl ?_
  refine k_pureV hC (c_X0_lineOf l hls G hN w fl i (by omega) h10 h11) yy_X0_lineOf wm_X7_119 (kl hN (by decide)) h10 rfl rfl rfl rfl (Nat.le_of_ble_eq_true rfl) (by decide) (by decide) ⟨by decide, by decide⟩ dX7_propertyOf_5 ?_
  refine k_astore_n hC [(3, .ref (kad G (20 + i))), (0, .ref (kad G 129)), (1, vI (i : Int)), (2, vI p9)] dX7_propertyOf_8 rfl (by decide) rfl ?_
  refine k_iload_n hC dX7_propertyOf_9 rfl 3 rfl ?_
  by_cases c_10 : p9 < 0 ∨ 5 < p9
  · refine k_tswO hC (x := p9) 89 dX7_propertyOf_10 (by rw [k_t32 (by omega)]; exact c_10) rfl ?_
    refine k_aload_n hC dX7_propertyOf_89 rfl 0 rfl ?_
    refine k_get hC fd_X7_140 (kl hN (by omega)) hln rfl dX7_propertyOf_90 ?_
    refine k_mabs hC wm_X7_143 wmath_mabs (by omega) (by decide) (Nat.le_of_ble_eq_true rfl) ⟨by decide, by decide⟩ dX7_propertyOf_93 ?_
    subst hQ
    exact k_iret hC hr ⟨by decide, by decide⟩ (⟨congrArg (fun z => some (vI z)) (show (pV g p9 i : Int) = ((intM g i).natAbs : Int) from by unfold pV; first | (rw [if_pos (by omega)]; done) | (rw [if_neg (by omega), if_pos (by omega)]; done) | (rw [if_neg (by omega), if_neg (by omega), if_pos (by omega)]; done) | (rw [if_neg (by omega), if_neg (by omega), if_neg (by omega), if_pos (by omega)]; done) | (rw [if_neg (by omega), if_neg (by omega), if_neg (by omega), if_neg (by omega), if_pos (by omega)]; done) | (rw [if_neg (by omega), if_neg (by omega), if_neg (by omega), if_neg (by omega), if_neg (by omega), if_pos (by omega)]; done) | (rw [if_neg (by omega), if_neg (by omega), if_neg (by omega), if_neg (by omega), if_neg (by omega), if_neg (by omega)]; done)), rfl, rfl⟩) dX7_propertyOf_96
  · have h_10 : p9 = 0 ∨ p9 = 1 ∨ p9 = 2 ∨ p9 = 3 ∨ p9 = 4 ∨ p9 = 5 := by omega
    rcases h_10 with q_10 | q_10 | q_10 | q_10 | q_10 | q_10
    · refine k_tswI hC (x := p9) 48 (off := 38) dX7_propertyOf_10 (by rw [k_t32 (by omega)]; omega) (by rw [k_t32 (by omega)]; omega) (by rw [k_t32 (by omega), q_10]; rfl) rfl ?_
      refine k_iload_n hC dX7_propertyOf_48 rfl 2 rfl ?_
      subst hQ
      exact k_iret hC hr ⟨by decide, by decide⟩ (⟨congrArg (fun z => some (vI z)) (show (pV g p9 i : Int) = (i : Int) from by unfold pV; first | (rw [if_pos (by omega)]; done) | (rw [if_neg (by omega), if_pos (by omega)]; done) | (rw [if_neg (by omega), if_neg (by omega), if_pos (by omega)]; done) | (rw [if_neg (by omega), if_neg (by omega), if_neg (by omega), if_pos (by omega)]; done) | (rw [if_neg (by omega), if_neg (by omega), if_neg (by omega), if_neg (by omega), if_pos (by omega)]; done) | (rw [if_neg (by omega), if_neg (by omega), if_neg (by omega), if_neg (by omega), if_neg (by omega), if_pos (by omega)]; done) | (rw [if_neg (by omega), if_neg (by omega), if_neg (by omega), if_neg (by omega), if_neg (by omega), if_neg (by omega)]; done)), rfl, rfl⟩) dX7_propertyOf_49
    · refine k_tswI hC (x := p9) 50 (off := 40) dX7_propertyOf_10 (by rw [k_t32 (by omega)]; omega) (by rw [k_t32 (by omega)]; omega) (by rw [k_t32 (by omega), q_10]; rfl) rfl ?_
      refine k_aload_n hC dX7_propertyOf_50 rfl 1 rfl ?_
      refine k_get hC fd_X7_22 (kl hN (by decide)) h129 rfl dX7_propertyOf_51 ?_
      refine k_get hC fd_X7_125 (kl hN (by decide)) hLg.1 rfl dX7_propertyOf_54 ?_
      refine k_iload_n hC dX7_propertyOf_57 rfl 2 rfl ?_
      refine k_pureSN hC (c_X11_at l hls G hN w fl 7 (i : Int) 12 (fun j => g (57 + 3 * j)) (by decide) (by omega) (by decide) hLg.2.2.2.2.1) yy_X11_at wm_X7_84 rfl rfl (Nat.le_of_ble_eq_true rfl) (by decide) (by decide) ⟨by decide, by decide⟩ dX7_propertyOf_58 ?_
      refine k_topv (vI (g (57 + 3 * i))) rfl ?_
      subst hQ
      exact k_iret hC hr ⟨by decide, by decide⟩ (⟨congrArg (fun z => some (vI z)) (show (pV g p9 i : Int) = g (57 + 3 * i) from by unfold pV; first | (rw [if_pos (by omega)]; done) | (rw [if_neg (by omega), if_pos (by omega)]; done) | (rw [if_neg (by omega), if_neg (by omega), if_pos (by omega)]; done) | (rw [if_neg (by omega), if_neg (by omega), if_neg (by omega), if_pos (by omega)]; done) | (rw [if_neg (by omega), if_neg (by omega), if_neg (by omega), if_neg (by omega), if_pos (by omega)]; done) | (rw [if_neg (by omega), if_neg (by omega), if_neg (by omega), if_neg (by omega), if_neg (by omega), if_pos (by omega)]; done) | (rw [if_neg (by omega), if_neg (by omega), if_neg (by omega), if_neg (by omega), if_neg (by omega), if_neg (by omega)]; done)), rfl, rfl⟩) dX7_propertyOf_61
    · refine k_tswI hC (x := p9) 62 (off := 52) dX7_propertyOf_10 (by rw [k_t32 (by omega)]; omega) (by rw [k_t32 (by omega)]; omega) (by rw [k_t32 (by omega), q_10]; rfl) rfl ?_
      refine k_aload_n hC dX7_propertyOf_62 rfl 1 rfl ?_
      refine k_get hC fd_X7_22 (kl hN (by decide)) h129 rfl dX7_propertyOf_63 ?_
      refine k_get hC fd_X7_128 (kl hN (by decide)) hLg.1 rfl dX7_propertyOf_66 ?_
      refine k_iload_n hC dX7_propertyOf_69 rfl 2 rfl ?_
      refine k_pureSN hC (c_X11_at l hls G hN w fl 8 (i : Int) 12 (fun j => g (58 + 3 * j)) (by decide) (by omega) (by decide) hLg.2.2.2.2.2.1) yy_X11_at wm_X7_84 rfl rfl (Nat.le_of_ble_eq_true rfl) (by decide) (by decide) ⟨by decide, by decide⟩ dX7_propertyOf_70 ?_
      refine k_topv (vI (g (58 + 3 * i))) rfl ?_
      subst hQ
      exact k_iret hC hr ⟨by decide, by decide⟩ (⟨congrArg (fun z => some (vI z)) (show (pV g p9 i : Int) = g (58 + 3 * i) from by unfold pV; first | (rw [if_pos (by omega)]; done) | (rw [if_neg (by omega), if_pos (by omega)]; done) | (rw [if_neg (by omega), if_neg (by omega), if_pos (by omega)]; done) | (rw [if_neg (by omega), if_neg (by omega), if_neg (by omega), if_pos (by omega)]; done) | (rw [if_neg (by omega), if_neg (by omega), if_neg (by omega), if_neg (by omega), if_pos (by omega)]; done) | (rw [if_neg (by omega), if_neg (by omega), if_neg (by omega), if_neg (by omega), if_neg (by omega), if_pos (by omega)]; done) | (rw [if_neg (by omega), if_neg (by omega), if_neg (by omega), if_neg (by omega), if_neg (by omega), if_neg (by omega)]; done)), rfl, rfl⟩) dX7_propertyOf_73
    · refine k_tswI hC (x := p9) 74 (off := 64) dX7_propertyOf_10 (by rw [k_t32 (by omega)]; omega) (by rw [k_t32 (by omega)]; omega) (by rw [k_t32 (by omega), q_10]; rfl) rfl ?_
      refine k_aload_n hC dX7_propertyOf_74 rfl 0 rfl ?_
      refine k_get hC fd_X7_131 (kl hN (by omega)) hln rfl dX7_propertyOf_75 ?_
      subst hQ
      exact k_iret hC hr ⟨by decide, by decide⟩ (⟨congrArg (fun z => some (vI z)) (show (pV g p9 i : Int) = obsM g i from by unfold pV; first | (rw [if_pos (by omega)]; done) | (rw [if_neg (by omega), if_pos (by omega)]; done) | (rw [if_neg (by omega), if_neg (by omega), if_pos (by omega)]; done) | (rw [if_neg (by omega), if_neg (by omega), if_neg (by omega), if_pos (by omega)]; done) | (rw [if_neg (by omega), if_neg (by omega), if_neg (by omega), if_neg (by omega), if_pos (by omega)]; done) | (rw [if_neg (by omega), if_neg (by omega), if_neg (by omega), if_neg (by omega), if_neg (by omega), if_pos (by omega)]; done) | (rw [if_neg (by omega), if_neg (by omega), if_neg (by omega), if_neg (by omega), if_neg (by omega), if_neg (by omega)]; done)), rfl, rfl⟩) dX7_propertyOf_78
    · refine k_tswI hC (x := p9) 79 (off := 69) dX7_propertyOf_10 (by rw [k_t32 (by omega)]; omega) (by rw [k_t32 (by omega)]; omega) (by rw [k_t32 (by omega), q_10]; rfl) rfl ?_
      refine k_aload_n hC dX7_propertyOf_79 rfl 0 rfl ?_
      refine k_get hC fd_X7_136 (kl hN (by omega)) hln rfl dX7_propertyOf_80 ?_
      subst hQ
      exact k_iret hC hr ⟨by decide, by decide⟩ (⟨congrArg (fun z => some (vI z)) (show (pV g p9 i : Int) = expM g i from by unfold pV; first | (rw [if_pos (by omega)]; done) | (rw [if_neg (by omega), if_pos (by omega)]; done) | (rw [if_neg (by omega), if_neg (by omega), if_pos (by omega)]; done) | (rw [if_neg (by omega), if_neg (by omega), if_neg (by omega), if_pos (by omega)]; done) | (rw [if_neg (by omega), if_neg (by omega), if_neg (by omega), if_neg (by omega), if_pos (by omega)]; done) | (rw [if_neg (by omega), if_neg (by omega), if_neg (by omega), if_neg (by omega), if_neg (by omega), if_pos (by omega)]; done) | (rw [if_neg (by omega), if_neg (by omega), if_neg (by omega), if_neg (by omega), if_neg (by omega), if_neg (by omega)]; done)), rfl, rfl⟩) dX7_propertyOf_83
    · refine k_tswI hC (x := p9) 84 (off := 74) dX7_propertyOf_10 (by rw [k_t32 (by omega)]; omega) (by rw [k_t32 (by omega)]; omega) (by rw [k_t32 (by omega), q_10]; rfl) rfl ?_
      refine k_aload_n hC dX7_propertyOf_84 rfl 0 rfl ?_
      refine k_get hC fd_X7_138 (kl hN (by omega)) hln rfl dX7_propertyOf_85 ?_
      subst hQ
      exact k_iret hC hr ⟨by decide, by decide⟩ (⟨congrArg (fun z => some (vI z)) (show (pV g p9 i : Int) = aziM g i from by unfold pV; first | (rw [if_pos (by omega)]; done) | (rw [if_neg (by omega), if_pos (by omega)]; done) | (rw [if_neg (by omega), if_neg (by omega), if_pos (by omega)]; done) | (rw [if_neg (by omega), if_neg (by omega), if_neg (by omega), if_pos (by omega)]; done) | (rw [if_neg (by omega), if_neg (by omega), if_neg (by omega), if_neg (by omega), if_pos (by omega)]; done) | (rw [if_neg (by omega), if_neg (by omega), if_neg (by omega), if_neg (by omega), if_neg (by omega), if_pos (by omega)]; done) | (rw [if_neg (by omega), if_neg (by omega), if_neg (by omega), if_neg (by omega), if_neg (by omega), if_neg (by omega)]; done)), rfl, rfl⟩) dX7_propertyOf_88

set_option maxRecDepth 100000 in
set_option maxHeartbeats 4000000 in
theorem c_X7_propertyHere (l : Launch) (hls : l.stackTraces = false) (G : kG) (hN : 133 ≤ kN G) (w : Nat → va_E) (fl : va_W) (bt : Nat → Int) (n : Nat) (st : PS) (hn7 : n ≤ 700) (hb : btOK bt) (h2 : w 2 = byA G bt) (hT : tkR G w bt n st) (h129 : w 129 = qdO G) : KM l G yX7_propertyHere cX7_propertyHere 1 (some (FieldType.int)) 5 0 0 [.ref (kad G 129)] w fl (kPure (vI (pcM bt n st)) w fl) := by
  refine KM_of2 hls (by decide +kernel) rfl (lv0 := [(0, .ref (kad G 129))]) rfl (Nat.le_of_ble_eq_true rfl) (fun p e R s m args below meth c Q hC hr hQ => ?_)
  refine k_aload_n hC dX7_propertyHere_0 rfl 0 rfl ?_
  refine k_get hC fd_X7_18 (kl hN (by decide)) h129 rfl dX7_propertyHere_1 ?_
  refine k_ldcs hC (List.mem_of_getElem? (i := 32) rfl) dX7_propertyHere_4 ?_
  have hTco_1 := hT
  obtain ⟨cno_1, eao_1, kdo_1, nmo_1, sao_1, nxo_1, h1o_1, -⟩ := hTco_1
  refine k_pureV hC (c_X10_isWord l hls G hN w fl bt n st 7 (by decide) hn7 hb h2 hT) yy_X10_isWord wm_X7_36 (kl hN (by decide)) h1o_1 rfl rfl rfl rfl (Nat.le_of_ble_eq_true rfl) (by decide) (by decide) ⟨by decide, by decide⟩ dX7_propertyHere_6 ?_
  obtain ⟨z_2, ez_2, hz_2⟩ := selI_c (isW bt n 7 st)
  refine k_topv (vI z_2) (by rw [ez_2]) ?_
  refine k_if_eq hC 14 dX7_propertyHere_9 rfl (by omega) (fun c_9 => ?_) (fun c_9 => ?_)
  · refine k_aload_n hC dX7_propertyHere_14 rfl 0 rfl ?_
    refine k_get hC fd_X7_18 (kl hN (by decide)) h129 rfl dX7_propertyHere_15 ?_
    refine k_ldcs hC (List.mem_of_getElem? (i := 33) rfl) dX7_propertyHere_18 ?_
    refine k_pureV hC (c_X10_isWord l hls G hN w fl bt n st 5 (by decide) hn7 hb h2 hT) yy_X10_isWord wm_X7_36 (kl hN (by decide)) h1o_1 rfl rfl rfl rfl (Nat.le_of_ble_eq_true rfl) (by decide) (by decide) ⟨by decide, by decide⟩ dX7_propertyHere_20 ?_
    obtain ⟨z_3, ez_3, hz_3⟩ := selI_c (isW bt n 5 st)
    refine k_topv (vI z_3) (by rw [ez_3]) ?_
    refine k_if_eq hC 28 dX7_propertyHere_23 rfl (by omega) (fun c_23 => ?_) (fun c_23 => ?_)
    · refine k_aload_n hC dX7_propertyHere_28 rfl 0 rfl ?_
      refine k_get hC fd_X7_18 (kl hN (by decide)) h129 rfl dX7_propertyHere_29 ?_
      refine k_ldcs hC (List.mem_of_getElem? (i := 34) rfl) dX7_propertyHere_32 ?_
      refine k_pureV hC (c_X10_isWord l hls G hN w fl bt n st 32 (by decide) hn7 hb h2 hT) yy_X10_isWord wm_X7_36 (kl hN (by decide)) h1o_1 rfl rfl rfl rfl (Nat.le_of_ble_eq_true rfl) (by decide) (by decide) ⟨by decide, by decide⟩ dX7_propertyHere_34 ?_
      obtain ⟨z_4, ez_4, hz_4⟩ := selI_c (isW bt n 32 st)
      refine k_topv (vI z_4) (by rw [ez_4]) ?_
      refine k_if_eq hC 42 dX7_propertyHere_37 rfl (by omega) (fun c_37 => ?_) (fun c_37 => ?_)
      · refine k_aload_n hC dX7_propertyHere_42 rfl 0 rfl ?_
        refine k_get hC fd_X7_18 (kl hN (by decide)) h129 rfl dX7_propertyHere_43 ?_
        refine k_ldcs hC (List.mem_of_getElem? (i := 35) rfl) dX7_propertyHere_46 ?_
        refine k_pureV hC (c_X10_isWord l hls G hN w fl bt n st 33 (by decide) hn7 hb h2 hT) yy_X10_isWord wm_X7_36 (kl hN (by decide)) h1o_1 rfl rfl rfl rfl (Nat.le_of_ble_eq_true rfl) (by decide) (by decide) ⟨by decide, by decide⟩ dX7_propertyHere_48 ?_
        obtain ⟨z_5, ez_5, hz_5⟩ := selI_c (isW bt n 33 st)
        refine k_topv (vI z_5) (by rw [ez_5]) ?_
        refine k_if_eq hC 56 dX7_propertyHere_51 rfl (by omega) (fun c_51 => ?_) (fun c_51 => ?_)
        · refine k_aload_n hC dX7_propertyHere_56 rfl 0 rfl ?_
          refine k_get hC fd_X7_18 (kl hN (by decide)) h129 rfl dX7_propertyHere_57 ?_
          refine k_ldcs hC (List.mem_of_getElem? (i := 36) rfl) dX7_propertyHere_60 ?_
          refine k_pureV hC (c_X10_isWord l hls G hN w fl bt n st 34 (by decide) hn7 hb h2 hT) yy_X10_isWord wm_X7_36 (kl hN (by decide)) h1o_1 rfl rfl rfl rfl (Nat.le_of_ble_eq_true rfl) (by decide) (by decide) ⟨by decide, by decide⟩ dX7_propertyHere_62 ?_
          obtain ⟨z_6, ez_6, hz_6⟩ := selI_c (isW bt n 34 st)
          refine k_topv (vI z_6) (by rw [ez_6]) ?_
          refine k_if_eq hC 70 dX7_propertyHere_65 rfl (by omega) (fun c_65 => ?_) (fun c_65 => ?_)
          · refine k_aload_n hC dX7_propertyHere_70 rfl 0 rfl ?_
            refine k_get hC fd_X7_18 (kl hN (by decide)) h129 rfl dX7_propertyHere_71 ?_
            refine k_ldcs hC (List.mem_of_getElem? (i := 37) rfl) dX7_propertyHere_74 ?_
            refine k_pureV hC (c_X10_isWord l hls G hN w fl bt n st 35 (by decide) hn7 hb h2 hT) yy_X10_isWord wm_X7_36 (kl hN (by decide)) h1o_1 rfl rfl rfl rfl (Nat.le_of_ble_eq_true rfl) (by decide) (by decide) ⟨by decide, by decide⟩ dX7_propertyHere_76 ?_
            obtain ⟨z_7, ez_7, hz_7⟩ := selI_c (isW bt n 35 st)
            refine k_topv (vI z_7) (by rw [ez_7]) ?_
            refine k_if_eq hC 84 dX7_propertyHere_79 rfl (by omega) (fun c_79 => ?_) (fun c_79 => ?_)
            · refine k_aload_n hC dX7_propertyHere_84 rfl 0 rfl ?_
              refine k_get hC fd_X7_18 (kl hN (by decide)) h129 rfl dX7_propertyHere_85 ?_
              refine k_ldcs hC (List.mem_of_getElem? (i := 38) rfl) dX7_propertyHere_88 ?_
              refine k_pureV hC (c_X10_isWord l hls G hN w fl bt n st 36 (by decide) hn7 hb h2 hT) yy_X10_isWord wm_X7_36 (kl hN (by decide)) h1o_1 rfl rfl rfl rfl (Nat.le_of_ble_eq_true rfl) (by decide) (by decide) ⟨by decide, by decide⟩ dX7_propertyHere_90 ?_
              obtain ⟨z_8, ez_8, hz_8⟩ := selI_c (isW bt n 36 st)
              refine k_topv (vI z_8) (by rw [ez_8]) ?_
              refine k_if_eq hC 101 dX7_propertyHere_93 rfl (by omega) (fun c_93 => ?_) (fun c_93 => ?_)
              · refine k_iconst hC dX7_propertyHere_101 ?_
                subst hQ
                exact k_iret hC hr ⟨by decide, by decide⟩ (⟨congrArg (fun z => some (vI z)) (show (pcM bt n st : Int) = -1 from by unfold pcM; rw [selI_0 (hz_2.resolve_left (fun q1 => by omega)).2, selI_0 (hz_3.resolve_left (fun q1 => by omega)).2, selI_0 (hz_4.resolve_left (fun q1 => by omega)).2, selI_0 (hz_5.resolve_left (fun q1 => by omega)).2, selI_0 (hz_6.resolve_left (fun q1 => by omega)).2, selI_0 (hz_7.resolve_left (fun q1 => by omega)).2, selI_0 (hz_8.resolve_left (fun q1 => by omega)).2]), rfl, rfl⟩) dX7_propertyHere_102
              · refine k_bipush hC dX7_propertyHere_96 (by decide) ?_
                refine k_goto hC 102 dX7_propertyHere_98 rfl ?_
                subst hQ
                exact k_iret hC hr ⟨by decide, by decide⟩ (⟨congrArg (fun z => some (vI z)) (show (pcM bt n st : Int) = 6 from by unfold pcM; rw [selI_0 (hz_2.resolve_left (fun q1 => by omega)).2, selI_0 (hz_3.resolve_left (fun q1 => by omega)).2, selI_0 (hz_4.resolve_left (fun q1 => by omega)).2, selI_0 (hz_5.resolve_left (fun q1 => by omega)).2, selI_0 (hz_6.resolve_left (fun q1 => by omega)).2, selI_0 (hz_7.resolve_left (fun q1 => by omega)).2, selI_1 (hz_8.resolve_right (fun q1 => by omega)).2]), rfl, rfl⟩) dX7_propertyHere_102
            · refine k_iconst hC dX7_propertyHere_82 ?_
              subst hQ
              exact k_iret hC hr ⟨by decide, by decide⟩ (⟨congrArg (fun z => some (vI z)) (show (pcM bt n st : Int) = 5 from by unfold pcM; rw [selI_0 (hz_2.resolve_left (fun q1 => by omega)).2, selI_0 (hz_3.resolve_left (fun q1 => by omega)).2, selI_0 (hz_4.resolve_left (fun q1 => by omega)).2, selI_0 (hz_5.resolve_left (fun q1 => by omega)).2, selI_0 (hz_6.resolve_left (fun q1 => by omega)).2, selI_1 (hz_7.resolve_right (fun q1 => by omega)).2]), rfl, rfl⟩) dX7_propertyHere_83
          · refine k_iconst hC dX7_propertyHere_68 ?_
            subst hQ
            exact k_iret hC hr ⟨by decide, by decide⟩ (⟨congrArg (fun z => some (vI z)) (show (pcM bt n st : Int) = 4 from by unfold pcM; rw [selI_0 (hz_2.resolve_left (fun q1 => by omega)).2, selI_0 (hz_3.resolve_left (fun q1 => by omega)).2, selI_0 (hz_4.resolve_left (fun q1 => by omega)).2, selI_0 (hz_5.resolve_left (fun q1 => by omega)).2, selI_1 (hz_6.resolve_right (fun q1 => by omega)).2]), rfl, rfl⟩) dX7_propertyHere_69
        · refine k_iconst hC dX7_propertyHere_54 ?_
          subst hQ
          exact k_iret hC hr ⟨by decide, by decide⟩ (⟨congrArg (fun z => some (vI z)) (show (pcM bt n st : Int) = 3 from by unfold pcM; rw [selI_0 (hz_2.resolve_left (fun q1 => by omega)).2, selI_0 (hz_3.resolve_left (fun q1 => by omega)).2, selI_0 (hz_4.resolve_left (fun q1 => by omega)).2, selI_1 (hz_5.resolve_right (fun q1 => by omega)).2]), rfl, rfl⟩) dX7_propertyHere_55
      · refine k_iconst hC dX7_propertyHere_40 ?_
        subst hQ
        exact k_iret hC hr ⟨by decide, by decide⟩ (⟨congrArg (fun z => some (vI z)) (show (pcM bt n st : Int) = 2 from by unfold pcM; rw [selI_0 (hz_2.resolve_left (fun q1 => by omega)).2, selI_0 (hz_3.resolve_left (fun q1 => by omega)).2, selI_1 (hz_4.resolve_right (fun q1 => by omega)).2]), rfl, rfl⟩) dX7_propertyHere_41
    · refine k_iconst hC dX7_propertyHere_26 ?_
      subst hQ
      exact k_iret hC hr ⟨by decide, by decide⟩ (⟨congrArg (fun z => some (vI z)) (show (pcM bt n st : Int) = 1 from by unfold pcM; rw [selI_0 (hz_2.resolve_left (fun q1 => by omega)).2, selI_1 (hz_3.resolve_right (fun q1 => by omega)).2]), rfl, rfl⟩) dX7_propertyHere_27
  · refine k_iconst hC dX7_propertyHere_12 ?_
    subst hQ
    exact k_iret hC hr ⟨by decide, by decide⟩ (⟨congrArg (fun z => some (vI z)) (show (pcM bt n st : Int) = 0 from by unfold pcM; rw [selI_1 (hz_2.resolve_right (fun q1 => by omega)).2]), rfl, rfl⟩) dX7_propertyHere_13

set_option maxRecDepth 100000 in
set_option maxHeartbeats 4000000 in
theorem c_X7_readValue130 (l : Launch) (hls : l.stackTraces = false) (G : kG) (hN : 133 ≤ kN G) (w : Nat → va_E) (fl : va_W) (bt : Nat → Int) (n : Nat) (st : PS) (g : Nat → Int) (p9 : Int) (lf : Nat → Int) (hp9 : p9 = pcM bt n st) (hn7 : n ≤ 700) (hb : btOK bt) (h2 : w 2 = byA G bt) (hT : tkR G w bt n st) (h129 : w 129 = qdO G) (hI : Inv g) (hLg : kLog G w 3 g) (h10 : w 10 = chO G) (h11 : w 11 = liA G) (hD : kDrawn w g 0 (g 2).toNat) (ha : w 130 = iA G 12 lf) : KM l G yX7_readValue cX7_readValue 5 (none) 2 0 0 [.ref (kad G 129), .ref (kad G 130), vI p9] w fl (kMuv fl (fun w1 => tkR G w1 bt n (vlS bt n st) ∧ (∃ lf1, w1 130 = iA G 12 lf1 ∧ ∀ i : Nat, (i : Int) < g 2 → lf1 i = vlW (pV g) bt n st i) ∧ ∀ j, (j ≠ 1 ∧ j ≠ 130) → w1 j = w j)) := by
  refine KM_of2 hls (by decide +kernel) rfl (lv0 := [(0, .ref (kad G 129)), (1, .ref (kad G 130)), (2, vI p9)]) rfl (Nat.le_of_ble_eq_true rfl) (fun p e R s m args below meth c Q hC hr hQ => ?_)
  have h0 := hI.c
  have hpc := pcM_c bt n st
  rw [← hp9] at hpc
  refine k_iload_n hC dX7_readValue_0 rfl 2 rfl ?_
  refine k_iconst hC dX7_readValue_1 ?_
  refine k_icmp_ne hC 18 dX7_readValue_2 rfl (by omega) (by omega) (fun c_2 => ?_) (fun c_2 => ?_)
  · refine k_iconst hC dX7_readValue_18 ?_
    refine k_istore_n hC [(3, vI 0), (0, .ref (kad G 129)), (1, .ref (kad G 130)), (2, vI p9)] dX7_readValue_19 rfl (by decide) rfl ?_
    refine k_iconst hC dX7_readValue_20 ?_
    refine k_istore hC [(4, vI 0), (3, vI 0), (0, .ref (kad G 129)), (1, .ref (kad G 130)), (2, vI p9)] dX7_readValue_21 (by decide) rfl ?_
    have hnum : ∀ i : Nat, vlW (pV g) bt n st i = (if p9 = -1 then 0 else pV g p9 i) := fun i => by unfold vlW; rw [← hp9]; by_cases q : p9 = -1; (case pos => rw [selI_1 q, if_pos q]; first | done | rfl | (exfalso; omega)); (case neg => rw [selI_0 q, if_neg q])
    have loop0 : ∀ (nw : Nat) (k : Nat) (lf2 : Nat → Int) (wvw : Nat → va_E), ((g 2).toNat < nw + k) → ((k : Int) ≤ g 2) → (∀ i, i < k → lf2 i = vlW (pV g) bt n st i) → (wvw 2 = bA G 700 (fun j => sb8 (bt j))) → (wvw 129 = .inr (7, [.ref (kad G 1), .ref (kad G 3), .ref (kad G 10), .ref (kad G 130), .ref (kad G 131)])) → (wvw 130 = iA G 12 lf2) → (tkR G wvw bt n st) → (kLog G wvw 3 g) → (kDrawn wvw g 0 ((g 2).toNat)) → ((∀ j, (j ≠ 1 ∧ j ≠ 130) → wvw j = w j)) → KW p l e R s m args below meth c 5 G Q wvw fl 0 0 23 [(4, vI (k : Int)), (3, vI 0), (0, .ref (kad G 129)), (1, .ref (kad G 130)), (2, vI p9)] [] := by
      intro nw
      induction nw with
      | zero =>
        intro k lf2 wvw hn_w hk hlf hb9 h129q ha2 hTq hLq hDq hfrw
        exact absurd hn_w (by omega)
      | succ nw ihw =>
        intro k lf2 wvw hn_w hk hlf hb9 h129q ha2 hTq hLq hDq hfrw
        have h10q := (hfrw 10 (by omega)).trans h10
        have h11q := (hfrw 11 (by omega)).trans h11
        refine k_iload hC dX7_readValue_23 0 rfl ?_
        refine k_aload_n hC dX7_readValue_25 rfl 2 rfl ?_
        refine k_get hC fd_X7_22 (kl hN (by decide)) h129q rfl dX7_readValue_26 ?_
        refine k_get hC fd_X7_64 (kl hN (by decide)) hLq.1 rfl dX7_readValue_29 ?_
        refine k_icmp_ge hC 63 dX7_readValue_32 rfl (by omega) (by omega) (fun c_32 => ?_) (fun c_32 => ?_)
        · refine k_aload_n hC dX7_readValue_63 rfl 2 rfl ?_
          refine k_get hC fd_X7_18 (kl hN (by decide)) h129q rfl dX7_readValue_64 ?_
          obtain ⟨cn1, ea1, kd1, nm1, sa1, p91, hp91, h11, hadv1⟩ := tk_open hTq
          refine k_muvV hC (c_X10_advance l hls G hN wvw fl bt n p91 cn1 st.1 ea1 kd1 nm1 sa1 hn7 hp91 hb hb9 h11) yy_X10_advance wm_X7_42 (kl hN (by decide)) h11 rfl rfl rfl rfl (Nat.le_of_ble_eq_true rfl) (by decide) (by decide) ⟨by decide, by decide⟩ dX7_readValue_67 (fun w1 hp1 => ?_)
          obtain ⟨hq1, hf1⟩ := hp1
          have hT1 := hadv1 _ hq1
          obtain ⟨st_2, est_2⟩ : ∃ z : PS, z = adP bt n st := ⟨_, rfl⟩
          rw [← est_2] at hT1
          have h_3 : w1 130 = iA G 12 lf2 := (hf1 130 (by decide)).trans ha2
          subst hQ
          exact k_vret hC hr ⟨by decide, by decide⟩ (⟨rfl, rfl, (by have e : st_2 = vlS bt n st := (by unfold vlS; rw [← hp9, selP_0 (by omega)]; exact est_2); rw [← e]; exact hT1), ⟨_, h_3, fun i hi => hlf i (by omega)⟩, fun j hj => (hf1 j (by omega)).trans (hfrw j (by omega))⟩) dX7_readValue_70
        · refine k_aload_n hC dX7_readValue_35 rfl 3 rfl ?_
          refine k_iload hC dX7_readValue_36 0 rfl ?_
          refine k_iload_n hC dX7_readValue_38 rfl 4 rfl ?_
          refine k_iconst hC dX7_readValue_39 ?_
          refine k_icmp_ne hC 47 dX7_readValue_40 rfl (by omega) (by omega) (fun c_40 => ?_) (fun c_40 => ?_)
          · refine k_aload_n hC dX7_readValue_47 rfl 2 rfl ?_
            refine k_iload hC dX7_readValue_48 0 rfl ?_
            refine k_iload_n hC dX7_readValue_50 rfl 4 rfl ?_
            refine k_pureV hC (c_X7_propertyOf l hls G hN wvw fl g k p9 (by omega) (by omega) h129q hI hLq h10q h11q hDq) yy_X7_propertyOf wm_X7_98 (kl hN (by decide)) h129q rfl rfl rfl rfl (Nat.le_of_ble_eq_true rfl) (by decide) (by decide) ⟨by decide, by decide⟩ dX7_readValue_51 ?_
            have hpv_4 := pV_b hI (p := p9) (i := k) (by omega)
            refine k_muvSN hC (c_X11_put l hls G hN wvw fl 130 (k : Int) (pV g p9 k) 12 lf2 (by decide) (by omega) (by decide) ha2) yy_X11_put wm_X7_101 rfl rfl (Nat.le_of_ble_eq_true rfl) (by decide) (by decide) ⟨by decide, by decide⟩ dX7_readValue_54 (fun w5 hp5 => ?_)
            obtain ⟨hw5, hf5⟩ := hp5
            refine k_iinc hC (y := (k : Int) + 1) [(4, vI ((k : Int) + 1)), (3, vI 0), (0, .ref (kad G 129)), (1, .ref (kad G 130)), (2, vI p9)] (j := 0) dX7_readValue_57 rfl (by omega) (by decide) rfl ?_
            refine k_goto hC 23 dX7_readValue_60 rfl ?_
            refine k_lvs (ls := [0, 1, 2, 3, 4]) [(4, vI ((k + 1 : Nat) : Int)), (3, vI 0), (0, .ref (kad G 129)), (1, .ref (kad G 130)), (2, vI p9)] (by simp only [lv_pick]; rfl) ?_
            have h_6 : w5 2 = bA G 700 (fun j => sb8 (bt j)) := (hf5 2 (by decide)).trans hb9
            have h_7 : w5 129 = .inr (7, [.ref (kad G 1), .ref (kad G 3), .ref (kad G 10), .ref (kad G 130), .ref (kad G 131)]) := (hf5 129 (by decide)).trans h129q
            have hB_8 : tkR G w5 bt n st := hTq.fr (fun j q1 q2 => (hf5 j (by omega)))
            have hB_9 : kLog G w5 3 g := hLq.fr (fun j q1 q2 => (hf5 j (by omega)))
            have hB_10 : kDrawn w5 g 0 ((g 2).toNat) := hDq.fr (fun j q1 q2 => (hf5 j (by omega)))
            exact ihw (k + 1) (kup lf2 ((k : Int)).toNat (pV g p9 k)) w5 (by omega) (by omega) (fun i hi => by unfold kup; by_cases e : i = k; (case pos => rw [if_pos (by omega), hnum, e]; first | done | (rw [if_pos (by omega)]; done) | (rw [if_neg (by omega)]; done)); (case neg => rw [if_neg (by omega)]; exact hlf i (by omega))) h_6 h_7 hw5 hB_8 hB_9 hB_10 (fun j hj => (hf5 j (by omega)).trans (hfrw j (by omega)))
          · refine k_iload_n hC dX7_readValue_43 rfl 1 rfl ?_
            refine k_goto hC 54 dX7_readValue_44 rfl ?_
            refine k_muvSN hC (c_X11_put l hls G hN wvw fl 130 (k : Int) 0 12 lf2 (by decide) (by omega) (by decide) ha2) yy_X11_put wm_X7_101 rfl rfl (Nat.le_of_ble_eq_true rfl) (by decide) (by decide) ⟨by decide, by decide⟩ dX7_readValue_54 (fun w11 hp11 => ?_)
            obtain ⟨hw11, hf11⟩ := hp11
            refine k_iinc hC (y := (k : Int) + 1) [(4, vI ((k : Int) + 1)), (3, vI 0), (0, .ref (kad G 129)), (1, .ref (kad G 130)), (2, vI p9)] (j := 0) dX7_readValue_57 rfl (by omega) (by decide) rfl ?_
            refine k_goto hC 23 dX7_readValue_60 rfl ?_
            refine k_lvs (ls := [0, 1, 2, 3, 4]) [(4, vI ((k + 1 : Nat) : Int)), (3, vI 0), (0, .ref (kad G 129)), (1, .ref (kad G 130)), (2, vI p9)] (by simp only [lv_pick]; rfl) ?_
            have h_12 : w11 2 = bA G 700 (fun j => sb8 (bt j)) := (hf11 2 (by decide)).trans hb9
            have h_13 : w11 129 = .inr (7, [.ref (kad G 1), .ref (kad G 3), .ref (kad G 10), .ref (kad G 130), .ref (kad G 131)]) := (hf11 129 (by decide)).trans h129q
            have hB_14 : tkR G w11 bt n st := hTq.fr (fun j q1 q2 => (hf11 j (by omega)))
            have hB_15 : kLog G w11 3 g := hLq.fr (fun j q1 q2 => (hf11 j (by omega)))
            have hB_16 : kDrawn w11 g 0 ((g 2).toNat) := hDq.fr (fun j q1 q2 => (hf11 j (by omega)))
            exact ihw (k + 1) (kup lf2 ((k : Int)).toNat 0) w11 (by omega) (by omega) (fun i hi => by unfold kup; by_cases e : i = k; (case pos => rw [if_pos (by omega), hnum, e]; first | done | (rw [if_pos (by omega)]; done) | (rw [if_neg (by omega)]; done)); (case neg => rw [if_neg (by omega)]; exact hlf i (by omega))) h_12 h_13 hw11 hB_14 hB_15 hB_16 (fun j hj => (hf11 j (by omega)).trans (hfrw j (by omega)))
    refine k_lvs (ls := [0, 1, 2, 3, 4]) [(4, vI ((0 : Nat) : Int)), (3, vI 0), (0, .ref (kad G 129)), (1, .ref (kad G 130)), (2, vI p9)] (by simp only [lv_pick]; rfl) ?_
    exact loop0 ((g 2).toNat + 1) 0 lf w (by omega) (by omega) (fun i hi => absurd hi (Nat.not_lt_zero i)) h2 h129 ha hT hLg hD (fun j hj => rfl)
  · refine k_aload_n hC dX7_readValue_5 rfl 0 rfl ?_
    refine k_get hC fd_X7_18 (kl hN (by decide)) h129 rfl dX7_readValue_6 ?_
    refine k_iconst hC dX7_readValue_9 ?_
    refine k_ldc hC (x := 99999) (v := 99999) dX7_readValue_10 (by decide) wk_X7_94 ?_
    have hTco_18 := hT
    obtain ⟨cno_18, eao_18, kdo_18, nmo_18, sao_18, nxo_18, h1o_18, -⟩ := hTco_18
    refine k_mutV hC (c_X10_numberHere l hls G hN w fl bt n st 0 99999 (by omega) (by omega) hn7 hb h2 hT) yy_X10_numberHere wm_X7_95 (kl hN (by decide)) h1o_18 rfl rfl rfl rfl (Nat.le_of_ble_eq_true rfl) (by decide) (by decide) ⟨by decide, by decide⟩ dX7_readValue_12 (fun w17 hp17 => ?_)
    obtain ⟨hT17, hf17⟩ := hp17
    obtain ⟨st_19, est_19⟩ : ∃ z : PS, z = nhP bt n 0 99999 st := ⟨_, rfl⟩
    rw [← est_19] at hT17
    have hnv_20 := nhV_b (bt := bt) (n := n) (lo := 0) (hi := 99999) (st := st) (by omega) (by omega)
    refine k_goto hC 19 dX7_readValue_15 rfl ?_
    refine k_istore_n hC [(3, vI (nhV bt n 0 99999 st)), (0, .ref (kad G 129)), (1, .ref (kad G 130)), (2, vI p9)] dX7_readValue_19 rfl (by decide) rfl ?_
    refine k_iconst hC dX7_readValue_20 ?_
    refine k_istore hC [(4, vI 0), (3, vI (nhV bt n 0 99999 st)), (0, .ref (kad G 129)), (1, .ref (kad G 130)), (2, vI p9)] dX7_readValue_21 (by decide) rfl ?_
    have hnum : ∀ i : Nat, vlW (pV g) bt n st i = (if p9 = -1 then nhV bt n 0 99999 st else pV g p9 i) := fun i => by unfold vlW; rw [← hp9]; by_cases q : p9 = -1; (case pos => rw [selI_1 q, if_pos q]; first | done | rfl | (exfalso; omega)); (case neg => rw [selI_0 q, if_neg q])
    have loop20 : ∀ (nw : Nat) (k : Nat) (lf2 : Nat → Int) (wvw : Nat → va_E), ((g 2).toNat < nw + k) → ((k : Int) ≤ g 2) → (∀ i, i < k → lf2 i = vlW (pV g) bt n st i) → (wvw 2 = bA G 700 (fun j => sb8 (bt j))) → (wvw 129 = .inr (7, [.ref (kad G 1), .ref (kad G 3), .ref (kad G 10), .ref (kad G 130), .ref (kad G 131)])) → (wvw 130 = iA G 12 lf2) → (tkR G wvw bt n st_19) → (kLog G wvw 3 g) → (kDrawn wvw g 0 ((g 2).toNat)) → ((∀ j, (j ≠ 1 ∧ j ≠ 130) → wvw j = w j)) → KW p l e R s m args below meth c 5 G Q wvw fl 0 0 23 [(4, vI (k : Int)), (3, vI (nhV bt n 0 99999 st)), (0, .ref (kad G 129)), (1, .ref (kad G 130)), (2, vI p9)] [] := by
      intro nw
      induction nw with
      | zero =>
        intro k lf2 wvw hn_w hk hlf hb9 h129q ha2 hTq hLq hDq hfrw
        exact absurd hn_w (by omega)
      | succ nw ihw =>
        intro k lf2 wvw hn_w hk hlf hb9 h129q ha2 hTq hLq hDq hfrw
        have h10q := (hfrw 10 (by omega)).trans h10
        have h11q := (hfrw 11 (by omega)).trans h11
        refine k_iload hC dX7_readValue_23 0 rfl ?_
        refine k_aload_n hC dX7_readValue_25 rfl 2 rfl ?_
        refine k_get hC fd_X7_22 (kl hN (by decide)) h129q rfl dX7_readValue_26 ?_
        refine k_get hC fd_X7_64 (kl hN (by decide)) hLq.1 rfl dX7_readValue_29 ?_
        refine k_icmp_ge hC 63 dX7_readValue_32 rfl (by omega) (by omega) (fun c_32 => ?_) (fun c_32 => ?_)
        · refine k_aload_n hC dX7_readValue_63 rfl 2 rfl ?_
          refine k_get hC fd_X7_18 (kl hN (by decide)) h129q rfl dX7_readValue_64 ?_
          obtain ⟨cn21, ea21, kd21, nm21, sa21, p921, hp921, h121, hadv21⟩ := tk_open hTq
          refine k_muvV hC (c_X10_advance l hls G hN wvw fl bt n p921 cn21 st_19.1 ea21 kd21 nm21 sa21 hn7 hp921 hb hb9 h121) yy_X10_advance wm_X7_42 (kl hN (by decide)) h121 rfl rfl rfl rfl (Nat.le_of_ble_eq_true rfl) (by decide) (by decide) ⟨by decide, by decide⟩ dX7_readValue_67 (fun w21 hp21 => ?_)
          obtain ⟨hq21, hf21⟩ := hp21
          have hT21 := hadv21 _ hq21
          obtain ⟨st_22, est_22⟩ : ∃ z : PS, z = adP bt n st_19 := ⟨_, rfl⟩
          rw [← est_22] at hT21
          have h_23 : w21 130 = iA G 12 lf2 := (hf21 130 (by decide)).trans ha2
          subst hQ
          exact k_vret hC hr ⟨by decide, by decide⟩ (⟨rfl, rfl, (by have e : st_22 = vlS bt n st := (by unfold vlS; rw [← hp9, selP_1 (by omega), ← est_19]; exact est_22); rw [← e]; exact hT21), ⟨_, h_23, fun i hi => hlf i (by omega)⟩, fun j hj => (hf21 j (by omega)).trans (hfrw j (by omega))⟩) dX7_readValue_70
        · refine k_aload_n hC dX7_readValue_35 rfl 3 rfl ?_
          refine k_iload hC dX7_readValue_36 0 rfl ?_
          refine k_iload_n hC dX7_readValue_38 rfl 4 rfl ?_
          refine k_iconst hC dX7_readValue_39 ?_
          refine k_icmp_ne hC 47 dX7_readValue_40 rfl (by omega) (by omega) (fun c_40 => ?_) (fun c_40 => ?_)
          · refine k_aload_n hC dX7_readValue_47 rfl 2 rfl ?_
            refine k_iload hC dX7_readValue_48 0 rfl ?_
            refine k_iload_n hC dX7_readValue_50 rfl 4 rfl ?_
            refine k_pureV hC (c_X7_propertyOf l hls G hN wvw fl g k p9 (by omega) (by omega) h129q hI hLq h10q h11q hDq) yy_X7_propertyOf wm_X7_98 (kl hN (by decide)) h129q rfl rfl rfl rfl (Nat.le_of_ble_eq_true rfl) (by decide) (by decide) ⟨by decide, by decide⟩ dX7_readValue_51 ?_
            have hpv_24 := pV_b hI (p := p9) (i := k) (by omega)
            refine k_muvSN hC (c_X11_put l hls G hN wvw fl 130 (k : Int) (pV g p9 k) 12 lf2 (by decide) (by omega) (by decide) ha2) yy_X11_put wm_X7_101 rfl rfl (Nat.le_of_ble_eq_true rfl) (by decide) (by decide) ⟨by decide, by decide⟩ dX7_readValue_54 (fun w25 hp25 => ?_)
            obtain ⟨hw25, hf25⟩ := hp25
            refine k_iinc hC (y := (k : Int) + 1) [(4, vI ((k : Int) + 1)), (3, vI (nhV bt n 0 99999 st)), (0, .ref (kad G 129)), (1, .ref (kad G 130)), (2, vI p9)] (j := 0) dX7_readValue_57 rfl (by omega) (by decide) rfl ?_
            refine k_goto hC 23 dX7_readValue_60 rfl ?_
            refine k_lvs (ls := [0, 1, 2, 3, 4]) [(4, vI ((k + 1 : Nat) : Int)), (3, vI (nhV bt n 0 99999 st)), (0, .ref (kad G 129)), (1, .ref (kad G 130)), (2, vI p9)] (by simp only [lv_pick]; rfl) ?_
            have h_26 : w25 2 = bA G 700 (fun j => sb8 (bt j)) := (hf25 2 (by decide)).trans hb9
            have h_27 : w25 129 = .inr (7, [.ref (kad G 1), .ref (kad G 3), .ref (kad G 10), .ref (kad G 130), .ref (kad G 131)]) := (hf25 129 (by decide)).trans h129q
            have hB_28 : tkR G w25 bt n st_19 := hTq.fr (fun j q1 q2 => (hf25 j (by omega)))
            have hB_29 : kLog G w25 3 g := hLq.fr (fun j q1 q2 => (hf25 j (by omega)))
            have hB_30 : kDrawn w25 g 0 ((g 2).toNat) := hDq.fr (fun j q1 q2 => (hf25 j (by omega)))
            exact ihw (k + 1) (kup lf2 ((k : Int)).toNat (pV g p9 k)) w25 (by omega) (by omega) (fun i hi => by unfold kup; by_cases e : i = k; (case pos => rw [if_pos (by omega), hnum, e]; first | done | (rw [if_pos (by omega)]; done) | (rw [if_neg (by omega)]; done)); (case neg => rw [if_neg (by omega)]; exact hlf i (by omega))) h_26 h_27 hw25 hB_28 hB_29 hB_30 (fun j hj => (hf25 j (by omega)).trans (hfrw j (by omega)))
          · refine k_iload_n hC dX7_readValue_43 rfl 1 rfl ?_
            refine k_goto hC 54 dX7_readValue_44 rfl ?_
            refine k_muvSN hC (c_X11_put l hls G hN wvw fl 130 (k : Int) (nhV bt n 0 99999 st) 12 lf2 (by decide) (by omega) (by decide) ha2) yy_X11_put wm_X7_101 rfl rfl (Nat.le_of_ble_eq_true rfl) (by decide) (by decide) ⟨by decide, by decide⟩ dX7_readValue_54 (fun w31 hp31 => ?_)
            obtain ⟨hw31, hf31⟩ := hp31
            refine k_iinc hC (y := (k : Int) + 1) [(4, vI ((k : Int) + 1)), (3, vI (nhV bt n 0 99999 st)), (0, .ref (kad G 129)), (1, .ref (kad G 130)), (2, vI p9)] (j := 0) dX7_readValue_57 rfl (by omega) (by decide) rfl ?_
            refine k_goto hC 23 dX7_readValue_60 rfl ?_
            refine k_lvs (ls := [0, 1, 2, 3, 4]) [(4, vI ((k + 1 : Nat) : Int)), (3, vI (nhV bt n 0 99999 st)), (0, .ref (kad G 129)), (1, .ref (kad G 130)), (2, vI p9)] (by simp only [lv_pick]; rfl) ?_
            have h_32 : w31 2 = bA G 700 (fun j => sb8 (bt j)) := (hf31 2 (by decide)).trans hb9
            have h_33 : w31 129 = .inr (7, [.ref (kad G 1), .ref (kad G 3), .ref (kad G 10), .ref (kad G 130), .ref (kad G 131)]) := (hf31 129 (by decide)).trans h129q
            have hB_34 : tkR G w31 bt n st_19 := hTq.fr (fun j q1 q2 => (hf31 j (by omega)))
            have hB_35 : kLog G w31 3 g := hLq.fr (fun j q1 q2 => (hf31 j (by omega)))
            have hB_36 : kDrawn w31 g 0 ((g 2).toNat) := hDq.fr (fun j q1 q2 => (hf31 j (by omega)))
            exact ihw (k + 1) (kup lf2 ((k : Int)).toNat (nhV bt n 0 99999 st)) w31 (by omega) (by omega) (fun i hi => by unfold kup; by_cases e : i = k; (case pos => rw [if_pos (by omega), hnum, e]; first | done | (rw [if_pos (by omega)]; done) | (rw [if_neg (by omega)]; done)); (case neg => rw [if_neg (by omega)]; exact hlf i (by omega))) h_32 h_33 hw31 hB_34 hB_35 hB_36 (fun j hj => (hf31 j (by omega)).trans (hfrw j (by omega)))
    refine k_lvs (ls := [0, 1, 2, 3, 4]) [(4, vI ((0 : Nat) : Int)), (3, vI (nhV bt n 0 99999 st)), (0, .ref (kad G 129)), (1, .ref (kad G 130)), (2, vI p9)] (by simp only [lv_pick]; rfl) ?_
    have h_37 : w17 2 = bA G 700 (fun j => sb8 (bt j)) := (hf17 2 (by decide)).trans h2
    have h_38 : w17 129 = .inr (7, [.ref (kad G 1), .ref (kad G 3), .ref (kad G 10), .ref (kad G 130), .ref (kad G 131)]) := (hf17 129 (by decide)).trans h129
    have h_39 : w17 130 = iA G 12 lf := (hf17 130 (by decide)).trans ha
    have hB_40 : kLog G w17 3 g := hLg.fr (fun j q1 q2 => (hf17 j (by omega)))
    have hB_41 : kDrawn w17 g 0 ((g 2).toNat) := hD.fr (fun j q1 q2 => (hf17 j (by omega)))
    exact loop20 ((g 2).toNat + 1) 0 lf w17 (by omega) (by omega) (fun i hi => absurd hi (Nat.not_lt_zero i)) h_37 h_38 h_39 hT17 hB_40 hB_41 (fun j hj => hf17 j (by omega))

set_option maxRecDepth 100000 in
set_option maxHeartbeats 4000000 in
theorem c_X7_readValue131 (l : Launch) (hls : l.stackTraces = false) (G : kG) (hN : 133 ≤ kN G) (w : Nat → va_E) (fl : va_W) (bt : Nat → Int) (n : Nat) (st : PS) (g : Nat → Int) (p9 : Int) (lf : Nat → Int) (hp9 : p9 = pcM bt n st) (hn7 : n ≤ 700) (hb : btOK bt) (h2 : w 2 = byA G bt) (hT : tkR G w bt n st) (h129 : w 129 = qdO G) (hI : Inv g) (hLg : kLog G w 3 g) (h10 : w 10 = chO G) (h11 : w 11 = liA G) (hD : kDrawn w g 0 (g 2).toNat) (ha : w 131 = iA G 12 lf) : KM l G yX7_readValue cX7_readValue 5 (none) 2 0 0 [.ref (kad G 129), .ref (kad G 131), vI p9] w fl (kMuv fl (fun w1 => tkR G w1 bt n (vlS bt n st) ∧ (∃ lf1, w1 131 = iA G 12 lf1 ∧ ∀ i : Nat, (i : Int) < g 2 → lf1 i = vlW (pV g) bt n st i) ∧ ∀ j, (j ≠ 1 ∧ j ≠ 131) → w1 j = w j)) := by
  refine KM_of2 hls (by decide +kernel) rfl (lv0 := [(0, .ref (kad G 129)), (1, .ref (kad G 131)), (2, vI p9)]) rfl (Nat.le_of_ble_eq_true rfl) (fun p e R s m args below meth c Q hC hr hQ => ?_)
  have h0 := hI.c
  have hpc := pcM_c bt n st
  rw [← hp9] at hpc
  refine k_iload_n hC dX7_readValue_0 rfl 2 rfl ?_
  refine k_iconst hC dX7_readValue_1 ?_
  refine k_icmp_ne hC 18 dX7_readValue_2 rfl (by omega) (by omega) (fun c_2 => ?_) (fun c_2 => ?_)
  · refine k_iconst hC dX7_readValue_18 ?_
    refine k_istore_n hC [(3, vI 0), (0, .ref (kad G 129)), (1, .ref (kad G 131)), (2, vI p9)] dX7_readValue_19 rfl (by decide) rfl ?_
    refine k_iconst hC dX7_readValue_20 ?_
    refine k_istore hC [(4, vI 0), (3, vI 0), (0, .ref (kad G 129)), (1, .ref (kad G 131)), (2, vI p9)] dX7_readValue_21 (by decide) rfl ?_
    have hnum : ∀ i : Nat, vlW (pV g) bt n st i = (if p9 = -1 then 0 else pV g p9 i) := fun i => by unfold vlW; rw [← hp9]; by_cases q : p9 = -1; (case pos => rw [selI_1 q, if_pos q]; first | done | rfl | (exfalso; omega)); (case neg => rw [selI_0 q, if_neg q])
    have loop0 : ∀ (nw : Nat) (k : Nat) (lf2 : Nat → Int) (wvw : Nat → va_E), ((g 2).toNat < nw + k) → ((k : Int) ≤ g 2) → (∀ i, i < k → lf2 i = vlW (pV g) bt n st i) → (wvw 2 = bA G 700 (fun j => sb8 (bt j))) → (wvw 129 = .inr (7, [.ref (kad G 1), .ref (kad G 3), .ref (kad G 10), .ref (kad G 130), .ref (kad G 131)])) → (wvw 131 = iA G 12 lf2) → (tkR G wvw bt n st) → (kLog G wvw 3 g) → (kDrawn wvw g 0 ((g 2).toNat)) → ((∀ j, (j ≠ 1 ∧ j ≠ 131) → wvw j = w j)) → KW p l e R s m args below meth c 5 G Q wvw fl 0 0 23 [(4, vI (k : Int)), (3, vI 0), (0, .ref (kad G 129)), (1, .ref (kad G 131)), (2, vI p9)] [] := by
      intro nw
      induction nw with
      | zero =>
        intro k lf2 wvw hn_w hk hlf hb9 h129q ha2 hTq hLq hDq hfrw
        exact absurd hn_w (by omega)
      | succ nw ihw =>
        intro k lf2 wvw hn_w hk hlf hb9 h129q ha2 hTq hLq hDq hfrw
        have h10q := (hfrw 10 (by omega)).trans h10
        have h11q := (hfrw 11 (by omega)).trans h11
        refine k_iload hC dX7_readValue_23 0 rfl ?_
        refine k_aload_n hC dX7_readValue_25 rfl 2 rfl ?_
        refine k_get hC fd_X7_22 (kl hN (by decide)) h129q rfl dX7_readValue_26 ?_
        refine k_get hC fd_X7_64 (kl hN (by decide)) hLq.1 rfl dX7_readValue_29 ?_
        refine k_icmp_ge hC 63 dX7_readValue_32 rfl (by omega) (by omega) (fun c_32 => ?_) (fun c_32 => ?_)
        · refine k_aload_n hC dX7_readValue_63 rfl 2 rfl ?_
          refine k_get hC fd_X7_18 (kl hN (by decide)) h129q rfl dX7_readValue_64 ?_
          obtain ⟨cn1, ea1, kd1, nm1, sa1, p91, hp91, h11, hadv1⟩ := tk_open hTq
          refine k_muvV hC (c_X10_advance l hls G hN wvw fl bt n p91 cn1 st.1 ea1 kd1 nm1 sa1 hn7 hp91 hb hb9 h11) yy_X10_advance wm_X7_42 (kl hN (by decide)) h11 rfl rfl rfl rfl (Nat.le_of_ble_eq_true rfl) (by decide) (by decide) ⟨by decide, by decide⟩ dX7_readValue_67 (fun w1 hp1 => ?_)
          obtain ⟨hq1, hf1⟩ := hp1
          have hT1 := hadv1 _ hq1
          obtain ⟨st_2, est_2⟩ : ∃ z : PS, z = adP bt n st := ⟨_, rfl⟩
          rw [← est_2] at hT1
          have h_3 : w1 131 = iA G 12 lf2 := (hf1 131 (by decide)).trans ha2
          subst hQ
          exact k_vret hC hr ⟨by decide, by decide⟩ (⟨rfl, rfl, (by have e : st_2 = vlS bt n st := (by unfold vlS; rw [← hp9, selP_0 (by omega)]; exact est_2); rw [← e]; exact hT1), ⟨_, h_3, fun i hi => hlf i (by omega)⟩, fun j hj => (hf1 j (by omega)).trans (hfrw j (by omega))⟩) dX7_readValue_70
        · refine k_aload_n hC dX7_readValue_35 rfl 3 rfl ?_
          refine k_iload hC dX7_readValue_36 0 rfl ?_
          refine k_iload_n hC dX7_readValue_38 rfl 4 rfl ?_
          refine k_iconst hC dX7_readValue_39 ?_
          refine k_icmp_ne hC 47 dX7_readValue_40 rfl (by omega) (by omega) (fun c_40 => ?_) (fun c_40 => ?_)
          · refine k_aload_n hC dX7_readValue_47 rfl 2 rfl ?_
            refine k_iload hC dX7_readValue_48 0 rfl ?_
            refine k_iload_n hC dX7_readValue_50 rfl 4 rfl ?_
            refine k_pureV hC (c_X7_propertyOf l hls G hN wvw fl g k p9 (by omega) (by omega) h129q hI hLq h10q h11q hDq) yy_X7_propertyOf wm_X7_98 (kl hN (by decide)) h129q rfl rfl rfl rfl (Nat.le_of_ble_eq_true rfl) (by decide) (by decide) ⟨by decide, by decide⟩ dX7_readValue_51 ?_
            have hpv_4 := pV_b hI (p := p9) (i := k) (by omega)
            refine k_muvSN hC (c_X11_put l hls G hN wvw fl 131 (k : Int) (pV g p9 k) 12 lf2 (by decide) (by omega) (by decide) ha2) yy_X11_put wm_X7_101 rfl rfl (Nat.le_of_ble_eq_true rfl) (by decide) (by decide) ⟨by decide, by decide⟩ dX7_readValue_54 (fun w5 hp5 => ?_)
            obtain ⟨hw5, hf5⟩ := hp5
            refine k_iinc hC (y := (k : Int) + 1) [(4, vI ((k : Int) + 1)), (3, vI 0), (0, .ref (kad G 129)), (1, .ref (kad G 131)), (2, vI p9)] (j := 0) dX7_readValue_57 rfl (by omega) (by decide) rfl ?_
            refine k_goto hC 23 dX7_readValue_60 rfl ?_
            refine k_lvs (ls := [0, 1, 2, 3, 4]) [(4, vI ((k + 1 : Nat) : Int)), (3, vI 0), (0, .ref (kad G 129)), (1, .ref (kad G 131)), (2, vI p9)] (by simp only [lv_pick]; rfl) ?_
            have h_6 : w5 2 = bA G 700 (fun j => sb8 (bt j)) := (hf5 2 (by decide)).trans hb9
            have h_7 : w5 129 = .inr (7, [.ref (kad G 1), .ref (kad G 3), .ref (kad G 10), .ref (kad G 130), .ref (kad G 131)]) := (hf5 129 (by decide)).trans h129q
            have hB_8 : tkR G w5 bt n st := hTq.fr (fun j q1 q2 => (hf5 j (by omega)))
            have hB_9 : kLog G w5 3 g := hLq.fr (fun j q1 q2 => (hf5 j (by omega)))
            have hB_10 : kDrawn w5 g 0 ((g 2).toNat) := hDq.fr (fun j q1 q2 => (hf5 j (by omega)))
            exact ihw (k + 1) (kup lf2 ((k : Int)).toNat (pV g p9 k)) w5 (by omega) (by omega) (fun i hi => by unfold kup; by_cases e : i = k; (case pos => rw [if_pos (by omega), hnum, e]; first | done | (rw [if_pos (by omega)]; done) | (rw [if_neg (by omega)]; done)); (case neg => rw [if_neg (by omega)]; exact hlf i (by omega))) h_6 h_7 hw5 hB_8 hB_9 hB_10 (fun j hj => (hf5 j (by omega)).trans (hfrw j (by omega)))
          · refine k_iload_n hC dX7_readValue_43 rfl 1 rfl ?_
            refine k_goto hC 54 dX7_readValue_44 rfl ?_
            refine k_muvSN hC (c_X11_put l hls G hN wvw fl 131 (k : Int) 0 12 lf2 (by decide) (by omega) (by decide) ha2) yy_X11_put wm_X7_101 rfl rfl (Nat.le_of_ble_eq_true rfl) (by decide) (by decide) ⟨by decide, by decide⟩ dX7_readValue_54 (fun w11 hp11 => ?_)
            obtain ⟨hw11, hf11⟩ := hp11
            refine k_iinc hC (y := (k : Int) + 1) [(4, vI ((k : Int) + 1)), (3, vI 0), (0, .ref (kad G 129)), (1, .ref (kad G 131)), (2, vI p9)] (j := 0) dX7_readValue_57 rfl (by omega) (by decide) rfl ?_
            refine k_goto hC 23 dX7_readValue_60 rfl ?_
            refine k_lvs (ls := [0, 1, 2, 3, 4]) [(4, vI ((k + 1 : Nat) : Int)), (3, vI 0), (0, .ref (kad G 129)), (1, .ref (kad G 131)), (2, vI p9)] (by simp only [lv_pick]; rfl) ?_
            have h_12 : w11 2 = bA G 700 (fun j => sb8 (bt j)) := (hf11 2 (by decide)).trans hb9
            have h_13 : w11 129 = .inr (7, [.ref (kad G 1), .ref (kad G 3), .ref (kad G 10), .ref (kad G 130), .ref (kad G 131)]) := (hf11 129 (by decide)).trans h129q
            have hB_14 : tkR G w11 bt n st := hTq.fr (fun j q1 q2 => (hf11 j (by omega)))
            have hB_15 : kLog G w11 3 g := hLq.fr (fun j q1 q2 => (hf11 j (by omega)))
            have hB_16 : kDrawn w11 g 0 ((g 2).toNat) := hDq.fr (fun j q1 q2 => (hf11 j (by omega)))
            exact ihw (k + 1) (kup lf2 ((k : Int)).toNat 0) w11 (by omega) (by omega) (fun i hi => by unfold kup; by_cases e : i = k; (case pos => rw [if_pos (by omega), hnum, e]; first | done | (rw [if_pos (by omega)]; done) | (rw [if_neg (by omega)]; done)); (case neg => rw [if_neg (by omega)]; exact hlf i (by omega))) h_12 h_13 hw11 hB_14 hB_15 hB_16 (fun j hj => (hf11 j (by omega)).trans (hfrw j (by omega)))
    refine k_lvs (ls := [0, 1, 2, 3, 4]) [(4, vI ((0 : Nat) : Int)), (3, vI 0), (0, .ref (kad G 129)), (1, .ref (kad G 131)), (2, vI p9)] (by simp only [lv_pick]; rfl) ?_
    exact loop0 ((g 2).toNat + 1) 0 lf w (by omega) (by omega) (fun i hi => absurd hi (Nat.not_lt_zero i)) h2 h129 ha hT hLg hD (fun j hj => rfl)
  · refine k_aload_n hC dX7_readValue_5 rfl 0 rfl ?_
    refine k_get hC fd_X7_18 (kl hN (by decide)) h129 rfl dX7_readValue_6 ?_
    refine k_iconst hC dX7_readValue_9 ?_
    refine k_ldc hC (x := 99999) (v := 99999) dX7_readValue_10 (by decide) wk_X7_94 ?_
    have hTco_18 := hT
    obtain ⟨cno_18, eao_18, kdo_18, nmo_18, sao_18, nxo_18, h1o_18, -⟩ := hTco_18
    refine k_mutV hC (c_X10_numberHere l hls G hN w fl bt n st 0 99999 (by omega) (by omega) hn7 hb h2 hT) yy_X10_numberHere wm_X7_95 (kl hN (by decide)) h1o_18 rfl rfl rfl rfl (Nat.le_of_ble_eq_true rfl) (by decide) (by decide) ⟨by decide, by decide⟩ dX7_readValue_12 (fun w17 hp17 => ?_)
    obtain ⟨hT17, hf17⟩ := hp17
    obtain ⟨st_19, est_19⟩ : ∃ z : PS, z = nhP bt n 0 99999 st := ⟨_, rfl⟩
    rw [← est_19] at hT17
    have hnv_20 := nhV_b (bt := bt) (n := n) (lo := 0) (hi := 99999) (st := st) (by omega) (by omega)
    refine k_goto hC 19 dX7_readValue_15 rfl ?_
    refine k_istore_n hC [(3, vI (nhV bt n 0 99999 st)), (0, .ref (kad G 129)), (1, .ref (kad G 131)), (2, vI p9)] dX7_readValue_19 rfl (by decide) rfl ?_
    refine k_iconst hC dX7_readValue_20 ?_
    refine k_istore hC [(4, vI 0), (3, vI (nhV bt n 0 99999 st)), (0, .ref (kad G 129)), (1, .ref (kad G 131)), (2, vI p9)] dX7_readValue_21 (by decide) rfl ?_
    have hnum : ∀ i : Nat, vlW (pV g) bt n st i = (if p9 = -1 then nhV bt n 0 99999 st else pV g p9 i) := fun i => by unfold vlW; rw [← hp9]; by_cases q : p9 = -1; (case pos => rw [selI_1 q, if_pos q]; first | done | rfl | (exfalso; omega)); (case neg => rw [selI_0 q, if_neg q])
    have loop20 : ∀ (nw : Nat) (k : Nat) (lf2 : Nat → Int) (wvw : Nat → va_E), ((g 2).toNat < nw + k) → ((k : Int) ≤ g 2) → (∀ i, i < k → lf2 i = vlW (pV g) bt n st i) → (wvw 2 = bA G 700 (fun j => sb8 (bt j))) → (wvw 129 = .inr (7, [.ref (kad G 1), .ref (kad G 3), .ref (kad G 10), .ref (kad G 130), .ref (kad G 131)])) → (wvw 131 = iA G 12 lf2) → (tkR G wvw bt n st_19) → (kLog G wvw 3 g) → (kDrawn wvw g 0 ((g 2).toNat)) → ((∀ j, (j ≠ 1 ∧ j ≠ 131) → wvw j = w j)) → KW p l e R s m args below meth c 5 G Q wvw fl 0 0 23 [(4, vI (k : Int)), (3, vI (nhV bt n 0 99999 st)), (0, .ref (kad G 129)), (1, .ref (kad G 131)), (2, vI p9)] [] := by
      intro nw
      induction nw with
      | zero =>
        intro k lf2 wvw hn_w hk hlf hb9 h129q ha2 hTq hLq hDq hfrw
        exact absurd hn_w (by omega)
      | succ nw ihw =>
        intro k lf2 wvw hn_w hk hlf hb9 h129q ha2 hTq hLq hDq hfrw
        have h10q := (hfrw 10 (by omega)).trans h10
        have h11q := (hfrw 11 (by omega)).trans h11
        refine k_iload hC dX7_readValue_23 0 rfl ?_
        refine k_aload_n hC dX7_readValue_25 rfl 2 rfl ?_
        refine k_get hC fd_X7_22 (kl hN (by decide)) h129q rfl dX7_readValue_26 ?_
        refine k_get hC fd_X7_64 (kl hN (by decide)) hLq.1 rfl dX7_readValue_29 ?_
        refine k_icmp_ge hC 63 dX7_readValue_32 rfl (by omega) (by omega) (fun c_32 => ?_) (fun c_32 => ?_)
        · refine k_aload_n hC dX7_readValue_63 rfl 2 rfl ?_
          refine k_get hC fd_X7_18 (kl hN (by decide)) h129q rfl dX7_readValue_64 ?_
          obtain ⟨cn21, ea21, kd21, nm21, sa21, p921, hp921, h121, hadv21⟩ := tk_open hTq
          refine k_muvV hC (c_X10_advance l hls G hN wvw fl bt n p921 cn21 st_19.1 ea21 kd21 nm21 sa21 hn7 hp921 hb hb9 h121) yy_X10_advance wm_X7_42 (kl hN (by decide)) h121 rfl rfl rfl rfl (Nat.le_of_ble_eq_true rfl) (by decide) (by decide) ⟨by decide, by decide⟩ dX7_readValue_67 (fun w21 hp21 => ?_)
          obtain ⟨hq21, hf21⟩ := hp21
          have hT21 := hadv21 _ hq21
          obtain ⟨st_22, est_22⟩ : ∃ z : PS, z = adP bt n st_19 := ⟨_, rfl⟩
          rw [← est_22] at hT21
          have h_23 : w21 131 = iA G 12 lf2 := (hf21 131 (by decide)).trans ha2
          subst hQ
          exact k_vret hC hr ⟨by decide, by decide⟩ (⟨rfl, rfl, (by have e : st_22 = vlS bt n st := (by unfold vlS; rw [← hp9, selP_1 (by omega), ← est_19]; exact est_22); rw [← e]; exact hT21), ⟨_, h_23, fun i hi => hlf i (by omega)⟩, fun j hj => (hf21 j (by omega)).trans (hfrw j (by omega))⟩) dX7_readValue_70
        · refine k_aload_n hC dX7_readValue_35 rfl 3 rfl ?_
          refine k_iload hC dX7_readValue_36 0 rfl ?_
          refine k_iload_n hC dX7_readValue_38 rfl 4 rfl ?_
          refine k_iconst hC dX7_readValue_39 ?_
          refine k_icmp_ne hC 47 dX7_readValue_40 rfl (by omega) (by omega) (fun c_40 => ?_) (fun c_40 => ?_)
          · refine k_aload_n hC dX7_readValue_47 rfl 2 rfl ?_
            refine k_iload hC dX7_readValue_48 0 rfl ?_
            refine k_iload_n hC dX7_readValue_50 rfl 4 rfl ?_
            refine k_pureV hC (c_X7_propertyOf l hls G hN wvw fl g k p9 (by omega) (by omega) h129q hI hLq h10q h11q hDq) yy_X7_propertyOf wm_X7_98 (kl hN (by decide)) h129q rfl rfl rfl rfl (Nat.le_of_ble_eq_true rfl) (by decide) (by decide) ⟨by decide, by decide⟩ dX7_readValue_51 ?_
            have hpv_24 := pV_b hI (p := p9) (i := k) (by omega)
            refine k_muvSN hC (c_X11_put l hls G hN wvw fl 131 (k : Int) (pV g p9 k) 12 lf2 (by decide) (by omega) (by decide) ha2) yy_X11_put wm_X7_101 rfl rfl (Nat.le_of_ble_eq_true rfl) (by decide) (by decide) ⟨by decide, by decide⟩ dX7_readValue_54 (fun w25 hp25 => ?_)
            obtain ⟨hw25, hf25⟩ := hp25
            refine k_iinc hC (y := (k : Int) + 1) [(4, vI ((k : Int) + 1)), (3, vI (nhV bt n 0 99999 st)), (0, .ref (kad G 129)), (1, .ref (kad G 131)), (2, vI p9)] (j := 0) dX7_readValue_57 rfl (by omega) (by decide) rfl ?_
            refine k_goto hC 23 dX7_readValue_60 rfl ?_
            refine k_lvs (ls := [0, 1, 2, 3, 4]) [(4, vI ((k + 1 : Nat) : Int)), (3, vI (nhV bt n 0 99999 st)), (0, .ref (kad G 129)), (1, .ref (kad G 131)), (2, vI p9)] (by simp only [lv_pick]; rfl) ?_
            have h_26 : w25 2 = bA G 700 (fun j => sb8 (bt j)) := (hf25 2 (by decide)).trans hb9
            have h_27 : w25 129 = .inr (7, [.ref (kad G 1), .ref (kad G 3), .ref (kad G 10), .ref (kad G 130), .ref (kad G 131)]) := (hf25 129 (by decide)).trans h129q
            have hB_28 : tkR G w25 bt n st_19 := hTq.fr (fun j q1 q2 => (hf25 j (by omega)))
            have hB_29 : kLog G w25 3 g := hLq.fr (fun j q1 q2 => (hf25 j (by omega)))
            have hB_30 : kDrawn w25 g 0 ((g 2).toNat) := hDq.fr (fun j q1 q2 => (hf25 j (by omega)))
            exact ihw (k + 1) (kup lf2 ((k : Int)).toNat (pV g p9 k)) w25 (by omega) (by omega) (fun i hi => by unfold kup; by_cases e : i = k; (case pos => rw [if_pos (by omega), hnum, e]; first | done | (rw [if_pos (by omega)]; done) | (rw [if_neg (by omega)]; done)); (case neg => rw [if_neg (by omega)]; exact hlf i (by omega))) h_26 h_27 hw25 hB_28 hB_29 hB_30 (fun j hj => (hf25 j (by omega)).trans (hfrw j (by omega)))
          · refine k_iload_n hC dX7_readValue_43 rfl 1 rfl ?_
            refine k_goto hC 54 dX7_readValue_44 rfl ?_
            refine k_muvSN hC (c_X11_put l hls G hN wvw fl 131 (k : Int) (nhV bt n 0 99999 st) 12 lf2 (by decide) (by omega) (by decide) ha2) yy_X11_put wm_X7_101 rfl rfl (Nat.le_of_ble_eq_true rfl) (by decide) (by decide) ⟨by decide, by decide⟩ dX7_readValue_54 (fun w31 hp31 => ?_)
            obtain ⟨hw31, hf31⟩ := hp31
            refine k_iinc hC (y := (k : Int) + 1) [(4, vI ((k : Int) + 1)), (3, vI (nhV bt n 0 99999 st)), (0, .ref (kad G 129)), (1, .ref (kad G 131)), (2, vI p9)] (j := 0) dX7_readValue_57 rfl (by omega) (by decide) rfl ?_
            refine k_goto hC 23 dX7_readValue_60 rfl ?_
            refine k_lvs (ls := [0, 1, 2, 3, 4]) [(4, vI ((k + 1 : Nat) : Int)), (3, vI (nhV bt n 0 99999 st)), (0, .ref (kad G 129)), (1, .ref (kad G 131)), (2, vI p9)] (by simp only [lv_pick]; rfl) ?_
            have h_32 : w31 2 = bA G 700 (fun j => sb8 (bt j)) := (hf31 2 (by decide)).trans hb9
            have h_33 : w31 129 = .inr (7, [.ref (kad G 1), .ref (kad G 3), .ref (kad G 10), .ref (kad G 130), .ref (kad G 131)]) := (hf31 129 (by decide)).trans h129q
            have hB_34 : tkR G w31 bt n st_19 := hTq.fr (fun j q1 q2 => (hf31 j (by omega)))
            have hB_35 : kLog G w31 3 g := hLq.fr (fun j q1 q2 => (hf31 j (by omega)))
            have hB_36 : kDrawn w31 g 0 ((g 2).toNat) := hDq.fr (fun j q1 q2 => (hf31 j (by omega)))
            exact ihw (k + 1) (kup lf2 ((k : Int)).toNat (nhV bt n 0 99999 st)) w31 (by omega) (by omega) (fun i hi => by unfold kup; by_cases e : i = k; (case pos => rw [if_pos (by omega), hnum, e]; first | done | (rw [if_pos (by omega)]; done) | (rw [if_neg (by omega)]; done)); (case neg => rw [if_neg (by omega)]; exact hlf i (by omega))) h_32 h_33 hw31 hB_34 hB_35 hB_36 (fun j hj => (hf31 j (by omega)).trans (hfrw j (by omega)))
    refine k_lvs (ls := [0, 1, 2, 3, 4]) [(4, vI ((0 : Nat) : Int)), (3, vI (nhV bt n 0 99999 st)), (0, .ref (kad G 129)), (1, .ref (kad G 131)), (2, vI p9)] (by simp only [lv_pick]; rfl) ?_
    have h_37 : w17 2 = bA G 700 (fun j => sb8 (bt j)) := (hf17 2 (by decide)).trans h2
    have h_38 : w17 129 = .inr (7, [.ref (kad G 1), .ref (kad G 3), .ref (kad G 10), .ref (kad G 130), .ref (kad G 131)]) := (hf17 129 (by decide)).trans h129
    have h_39 : w17 131 = iA G 12 lf := (hf17 131 (by decide)).trans ha
    have hB_40 : kLog G w17 3 g := hLg.fr (fun j q1 q2 => (hf17 j (by omega)))
    have hB_41 : kDrawn w17 g 0 ((g 2).toNat) := hD.fr (fun j q1 q2 => (hf17 j (by omega)))
    exact loop20 ((g 2).toNat + 1) 0 lf w17 (by omega) (by omega) (fun i hi => absurd hi (Nat.not_lt_zero i)) h_37 h_38 h_39 hT17 hB_40 hB_41 (fun j hj => hf17 j (by omega))

