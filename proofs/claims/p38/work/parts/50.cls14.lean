theorem endG {V : Int → Nat → Int} {bt : Nat → Int} {n w : Nat} {c : Int} {F F1 : PS → QR} {st : PS} {r0 r1 : QR} (hn : n ≤ 200) (hs : st.1 = 0 → st.2.2 ≤ n) (hc : c = -24 ∨ c = -25) (hf : ∀ x, gq V n x (F1 x)) (hr : ∀ x, relR (F x) (F1 x)) (hg : gq V n st r1) (h0 : relR r0 r1) : (¬ isW bt n w (cjN bt n w c F 201 r0).1) ∧ ∀ k, isW bt n w (cjN bt n w c F k r0).1 → k < 200 := by
  have e : ∀ k, (cjN bt n w c F k r0).1 = (cjN bt n w c F1 k r1).1 := fun k => (rel_cjN hr k _ _ h0).1
  refine ⟨by rw [e]; exact cjN_end hn hs hc hf hg, fun k hk => ?_⟩
  rw [e] at hk
  have h1 := cjN_pos hs hc hf k _ hg hk
  have h2 := enM_lt9 (bt := bt) (n := n) (s := (cjN bt n w c F1 k r1).1.2.2) (by rw [hk.2.1]; decide)
  omega
theorem qG_n {V : Int → Nat → Int} {bt : Nat → Int} {n d : Nat} {st : PS} (h : isW bt n 31 st) : qG V bt n (d + 1) st = notR (qG V bt n d (adP bt n st)) := selP_1 h
theorem qG_p {V : Int → Nat → Int} {bt : Nat → Int} {n d : Nat} {st : PS} (h : ¬ isW bt n 31 st) (h2 : isS bt n 40 st) : qG V bt n (d + 1) st = parR bt n (tstM bt n (qG V bt n d) (adP bt n st)) := (selP_0 h).trans (selP_1 h2)
theorem qG_c {V : Int → Nat → Int} {bt : Nat → Int} {n : Nat} (d : Nat) {st : PS} (h : ¬ isW bt n 31 st) (h2 : ¬ isS bt n 40 st) : qG V bt n d st = cmpG V bt n st := by
  cases d with
  | zero => exact selP_0 (fun q => q.elim h h2)
  | succ d => exact (selP_0 h).trans (selP_0 h2)
theorem qG_z {V : Int → Nat → Int} {bt : Nat → Int} {n : Nat} {st : PS} (h : isW bt n 31 st ∨ isS bt n 40 st) : qG V bt n 0 st = (flP 3 st, [], fun _ => false) := selP_1 h
theorem mkN_z (k : Nat) : mkN (fun _ => false) k = 0 := by
  induction k with
  | zero => rfl
  | succ k ih => exact (if_neg (fun q => absurd q (show ¬ (false = true) by decide))).trans ih
set_option maxRecDepth 100000 in
set_option maxHeartbeats 4000000 in
theorem c_X7_readFactor_0 (l : Launch) (hls : l.stackTraces = false) (G : kG) (hN : 133 ≤ kN G) (w : Nat → va_E) (fl : va_W) (bt : Nat → Int) (n : Nat) (st : PS) (g : Nat → Int) (hn2 : n ≤ 200) (hn7 : n ≤ 700) (hb : btOK bt) (h2 : w 2 = byA G bt) (hT : tkR G w bt n st) (h129 : w 129 = qdO G) (hI : Inv g) (hLg : kLog G w 3 g) (h10 : w 10 = chO G) (h11 : w 11 = liA G) (hD : kDrawn w g 0 (g 2).toNat) (hl0 : ∃ lf, w 130 = iA G 12 lf) (hr0 : ∃ rf, w 131 = iA G 12 rf) : KM l G yX7_readFactor cX7_readFactor 4 (some (FieldType.int)) 7 0 0 [.ref (kad G 129), vI 6] w fl (kMut (vI ((mkN ((qG (pV g) bt n 0 st).2.2) (g 2).toNat : Nat) : Int)) fl (fun w1 => tkR G w1 bt n ((qG (pV g) bt n 0 st).1) ∧ ((∃ lf, w1 130 = iA G 12 lf) ∧ ∃ rf, w1 131 = iA G 12 rf) ∧ ∀ j, (j ≠ 1 ∧ j ≠ 130 ∧ j ≠ 131) → w1 j = w j)) := by
  refine KM_of2 hls (by decide +kernel) rfl (lv0 := [(0, .ref (kad G 129)), (1, vI 6)]) rfl (Nat.le_of_ble_eq_true rfl) (fun p e R s m args below meth c Q hC hr hQ => ?_)
  have h0 := hI.c
  obtain ⟨lf0, hlf0⟩ := hl0
  obtain ⟨rf0, hrf0⟩ := hr0
  have hle0 := hT.le
  refine k_aload_n hC dX7_readFactor_0 rfl 0 rfl ?_
  refine k_get hC fd_X7_18 (kl hN (by decide)) h129 rfl dX7_readFactor_1 ?_
  refine k_ldcs hC (List.mem_of_getElem? (i := 31) rfl) dX7_readFactor_4 ?_
  have hTco_1 := hT
  obtain ⟨cno_1, eao_1, kdo_1, nmo_1, sao_1, nxo_1, h1o_1, -⟩ := hTco_1
  refine k_pureV hC (c_X10_isWord l hls G hN w fl bt n st 31 (by decide) hn7 hb h2 hT) yy_X10_isWord wm_X7_36 (kl hN (by decide)) h1o_1 rfl rfl rfl rfl (Nat.le_of_ble_eq_true rfl) (by decide) (by decide) ⟨by decide, by decide⟩ dX7_readFactor_6 ?_
  obtain ⟨z_2, ez_2, hz_2⟩ := selI_c (isW bt n 31 st)
  refine k_topv (vI z_2) (by rw [ez_2]) ?_
  refine k_istore_n hC [(2, vI z_2), (0, .ref (kad G 129)), (1, vI 6)] dX7_readFactor_9 rfl (by decide) rfl ?_
  refine k_iload_n hC dX7_readFactor_10 rfl 0 rfl ?_
  refine k_if_ne hC 31 dX7_readFactor_11 rfl (by omega) (fun c_11 => ?_) (fun c_11 => ?_)
  · have hw31 : isW bt n 31 st := (hz_2.resolve_right (fun q1 => by omega)).2
    refine k_iload_n hC dX7_readFactor_31 rfl 2 rfl ?_
    refine k_bipush hC dX7_readFactor_32 (by decide) ?_
    refine k_icmp_lt hC 47 dX7_readFactor_34 rfl (by omega) (by omega) (fun c_34 => absurd c_34 (by omega)) (fun c_34 => ?_)
    refine k_aload_n hC dX7_readFactor_37 rfl 1 rfl ?_
    refine k_get hC fd_X7_18 (kl hN (by decide)) h129 rfl dX7_readFactor_38 ?_
    refine k_iconst hC dX7_readFactor_41 ?_
    refine k_muvV hC (c_X10_fail l hls G hN w fl bt n st 3 (by omega) hn7 hb h2 hT) yy_X10_fail wm_X7_60 (kl hN (by decide)) h1o_1 rfl rfl rfl rfl (Nat.le_of_ble_eq_true rfl) (by decide) (by decide) ⟨by decide, by decide⟩ dX7_readFactor_42 (fun w3 hp3 => ?_)
    obtain ⟨hT3, hf3⟩ := hp3
    obtain ⟨st_4, est_4⟩ : ∃ z : PS, z = flP 3 st := ⟨_, rfl⟩
    rw [← est_4] at hT3
    refine k_iconst hC dX7_readFactor_45 ?_
    have h_5 : w3 130 = iA G 12 lf0 := (hf3 130 (by decide)).trans hlf0
    have h_6 : w3 131 = iA G 12 rf0 := (hf3 131 (by decide)).trans hrf0
    subst hQ
    exact k_iret hC hr ⟨by decide, by decide⟩ (⟨congrArg (fun z => some (vI z)) (show (((mkN (qG (pV g) bt n 0 st).2.2 (g 2).toNat : Nat) : Int) = 0) from by rw [qG_z (Or.inl hw31)]; exact congrArg (fun z : Nat => (z : Int)) (mkN_z _)), rfl, (by have e : st_4 = (qG (pV g) bt n 0 st).1 := (by rw [qG_z (Or.inl hw31)]; exact est_4); rw [← e]; exact hT3), ⟨⟨_, h_5⟩, _, h_6⟩, fun j hj => hf3 j (by omega)⟩) dX7_readFactor_46
  · have hw31 : ¬ isW bt n 31 st := (hz_2.resolve_left (fun q1 => by omega)).2
    refine k_aload_n hC dX7_readFactor_14 rfl 1 rfl ?_
    refine k_get hC fd_X7_18 (kl hN (by decide)) h129 rfl dX7_readFactor_15 ?_
    refine k_bipush hC dX7_readFactor_18 (by decide) ?_
    refine k_pureV hC (c_X10_isSign l hls G hN w fl bt n st 40 (by omega) hn7 hb h2 hT) yy_X10_isSign wm_X7_52 (kl hN (by decide)) h1o_1 rfl rfl rfl rfl (Nat.le_of_ble_eq_true rfl) (by decide) (by decide) ⟨by decide, by decide⟩ dX7_readFactor_20 ?_
    obtain ⟨z_7, ez_7, hz_7⟩ := selI_c (isS bt n 40 st)
    refine k_topv (vI z_7) (by rw [ez_7]) ?_
    refine k_if_ne hC 31 dX7_readFactor_23 rfl (by omega) (fun c_23 => ?_) (fun c_23 => ?_)
    · have hw40 : isS bt n 40 st := (hz_7.resolve_right (fun q1 => by omega)).2
      refine k_iload_n hC dX7_readFactor_31 rfl 2 rfl ?_
      refine k_bipush hC dX7_readFactor_32 (by decide) ?_
      refine k_icmp_lt hC 47 dX7_readFactor_34 rfl (by omega) (by omega) (fun c_34 => absurd c_34 (by omega)) (fun c_34 => ?_)
      refine k_aload_n hC dX7_readFactor_37 rfl 1 rfl ?_
      refine k_get hC fd_X7_18 (kl hN (by decide)) h129 rfl dX7_readFactor_38 ?_
      refine k_iconst hC dX7_readFactor_41 ?_
      refine k_muvV hC (c_X10_fail l hls G hN w fl bt n st 3 (by omega) hn7 hb h2 hT) yy_X10_fail wm_X7_60 (kl hN (by decide)) h1o_1 rfl rfl rfl rfl (Nat.le_of_ble_eq_true rfl) (by decide) (by decide) ⟨by decide, by decide⟩ dX7_readFactor_42 (fun w8 hp8 => ?_)
      obtain ⟨hT8, hf8⟩ := hp8
      obtain ⟨st_9, est_9⟩ : ∃ z : PS, z = flP 3 st := ⟨_, rfl⟩
      rw [← est_9] at hT8
      refine k_iconst hC dX7_readFactor_45 ?_
      have h_10 : w8 130 = iA G 12 lf0 := (hf8 130 (by decide)).trans hlf0
      have h_11 : w8 131 = iA G 12 rf0 := (hf8 131 (by decide)).trans hrf0
      subst hQ
      exact k_iret hC hr ⟨by decide, by decide⟩ (⟨congrArg (fun z => some (vI z)) (show (((mkN (qG (pV g) bt n 0 st).2.2 (g 2).toNat : Nat) : Int) = 0) from by rw [qG_z (Or.inr hw40)]; exact congrArg (fun z : Nat => (z : Int)) (mkN_z _)), rfl, (by have e : st_9 = (qG (pV g) bt n 0 st).1 := (by rw [qG_z (Or.inr hw40)]; exact est_9); rw [← e]; exact hT8), ⟨⟨_, h_10⟩, _, h_11⟩, fun j hj => hf8 j (by omega)⟩) dX7_readFactor_46
    · have hw40 : ¬ isS bt n 40 st := (hz_7.resolve_left (fun q1 => by omega)).2
      have hqG := qG_c (V := pV g) 0 hw31 hw40
      refine k_aload_n hC dX7_readFactor_26 rfl 1 rfl ?_
      refine k_mutV hC (c_X7_readComparison l hls G hN w fl bt n st g hn7 hb h2 hT h129 hI hLg h10 h11 hD ⟨_, hlf0⟩ ⟨_, hrf0⟩) yy_X7_readComparison wm_X7_56 (kl hN (by decide)) h129 rfl rfl rfl rfl (Nat.le_of_ble_eq_true rfl) (by decide) (by decide) ⟨by decide, by decide⟩ dX7_readFactor_27 (fun w12 hp12 => ?_)
      obtain ⟨hT12, ⟨⟨lf12, hlf12⟩, rf12, hrf12⟩, hf12⟩ := hp12
      obtain ⟨st_13, est_13⟩ : ∃ z : PS, z = (cmpG (pV g) bt n st).1 := ⟨_, rfl⟩
      rw [← est_13] at hT12
      subst hQ
      exact k_iret hC hr ⟨by decide, by decide⟩ (⟨congrArg (fun z => some (vI ((z : Nat) : Int))) (by rw [hqG]; rfl), rfl, (by have e : st_13 = (qG (pV g) bt n 0 st).1 := (by rw [hqG]; exact est_13); rw [← e]; exact hT12), ⟨⟨_, hlf12⟩, _, hrf12⟩, fun j hj => hf12 j (by omega)⟩) dX7_readFactor_30

set_option maxRecDepth 100000 in
set_option maxHeartbeats 4000000 in
theorem c_X7_readConjunction_0 (l : Launch) (hls : l.stackTraces = false) (G : kG) (hN : 133 ≤ kN G) (w : Nat → va_E) (fl : va_W) (bt : Nat → Int) (n : Nat) (st : PS) (g : Nat → Int) (hn2 : n ≤ 200) (hn7 : n ≤ 700) (hb : btOK bt) (h2 : w 2 = byA G bt) (hT : tkR G w bt n st) (h129 : w 129 = qdO G) (hI : Inv g) (hLg : kLog G w 3 g) (h10 : w 10 = chO G) (h11 : w 11 = liA G) (hD : kDrawn w g 0 (g 2).toNat) (hl0 : ∃ lf, w 130 = iA G 12 lf) (hr0 : ∃ rf, w 131 = iA G 12 rf) : KM l G yX7_readConjunction cX7_readConjunction 4 (some (FieldType.int)) 8 0 0 [.ref (kad G 129), vI 6] w fl (kMut (vI ((mkN ((conM bt n (qG (pV g) bt n 0) st).2.2) (g 2).toNat : Nat) : Int)) fl (fun w1 => tkR G w1 bt n ((conM bt n (qG (pV g) bt n 0) st).1) ∧ ((∃ lf, w1 130 = iA G 12 lf) ∧ ∃ rf, w1 131 = iA G 12 rf) ∧ ∀ j, (j ≠ 1 ∧ j ≠ 130 ∧ j ≠ 131) → w1 j = w j)) := by
  refine KM_of2 hls (by decide +kernel) rfl (lv0 := [(0, .ref (kad G 129)), (1, vI 6)]) rfl (Nat.le_of_ble_eq_true rfl) (fun p e R s m args below meth c Q hC hr hQ => ?_)
  have h0 := hI.c
  obtain ⟨lf0, hlf0⟩ := hl0
  obtain ⟨rf0, hrf0⟩ := hr0
  have hle0 := hT.le
  refine k_aload_n hC dX7_readConjunction_0 rfl 0 rfl ?_
  refine k_iload_n hC dX7_readConjunction_1 rfl 1 rfl ?_
  refine k_mutV hC (c_X7_readFactor_0 l hls G hN w fl bt n st g hn2 hn7 hb h2 hT h129 hI hLg h10 h11 hD ⟨_, hlf0⟩ ⟨_, hrf0⟩) yy_X7_readFactor wm_X7_45 (kl hN (by decide)) h129 rfl rfl rfl rfl (Nat.le_of_ble_eq_true rfl) (by decide) (by decide) ⟨by decide, by decide⟩ dX7_readConjunction_2 (fun w1 hp1 => ?_)
  obtain ⟨hT1, ⟨⟨lf1, hlf1⟩, rf1, hrf1⟩, hf1⟩ := hp1
  obtain ⟨st_2, est_2⟩ : ∃ z : PS, z = (qG (pV g) bt n 0 st).1 := ⟨_, rfl⟩
  rw [← est_2] at hT1
  refine k_istore_n hC [(2, vI ((mkN ((qG (pV g) bt n 0 st).2.2) (g 2).toNat : Nat) : Int)), (0, .ref (kad G 129)), (1, vI 6)] dX7_readConjunction_5 rfl (by decide) rfl ?_
  refine k_iconst hC dX7_readConjunction_6 ?_
  refine k_istore_n hC [(3, vI 0), (2, vI ((mkN ((qG (pV g) bt n 0 st).2.2) (g 2).toNat : Nat) : Int)), (0, .ref (kad G 129)), (1, vI 6)] dX7_readConjunction_7 rfl (by decide) rfl ?_
  have hG := endG (V := pV g) (bt := bt) (n := n) (w := 37) (c := -24) (F := qG (pV g) bt n 0) (F1 := qF (pV g) bt n 0) (r0 := qG (pV g) bt n 0 st) (r1 := qF (pV g) bt n 0 st) hn2 hle0 (Or.inl rfl) (gq_qF (V := pV g) (bt := bt) (n := n) 0) (rel_qF 0) (gq_qF (V := pV g) (bt := bt) (n := n) 0 st) (rel_qF 0 st)
  have loop2 : ∀ (nw : Nat) (k : Nat) (rr : QR) (st9 : PS) (lf : Nat → Int) (rf : Nat → Int) (wvw : Nat → va_E), (200 < nw + k) → (k ≤ 200) → (rr = cjN bt n 37 (-24) (qG (pV g) bt n 0) k (qG (pV g) bt n 0 st)) → (st9 = rr.1) → (wvw 2 = bA G 700 (fun j => sb8 (bt j))) → (wvw 129 = .inr (7, [.ref (kad G 1), .ref (kad G 3), .ref (kad G 10), .ref (kad G 130), .ref (kad G 131)])) → (wvw 130 = iA G 12 lf) → (wvw 131 = iA G 12 rf) → (tkR G wvw bt n st9) → (kLog G wvw 3 g) → (kDrawn wvw g 0 ((g 2).toNat)) → ((∀ j, (j ≠ 1 ∧ j ≠ 130 ∧ j ≠ 131) → wvw j = w j)) → KW p l e R s m args below meth c 4 G Q wvw fl 0 0 8 [(3, vI (k : Int)), (2, vI ((mkN rr.2.2 (g 2).toNat : Nat) : Int)), (0, .ref (kad G 129)), (1, vI 6)] [] := by
    intro nw
    induction nw with
    | zero =>
      intro k rr st9 lf rf wvw hn_w hk9 hx hst9 hb9 h129q hlq hrq hTq hLq hDq hfrw
      exact absurd hn_w (by omega)
    | succ nw ihw =>
      intro k rr st9 lf rf wvw hn_w hk9 hx hst9 hb9 h129q hlq hrq hTq hLq hDq hfrw
      have h10q := (hfrw 10 (by omega)).trans h10
      have h11q := (hfrw 11 (by omega)).trans h11
      refine k_iload_n hC dX7_readConjunction_8 rfl 0 rfl ?_
      refine k_sipush hC dX7_readConjunction_9 (by decide) ?_
      refine k_icmp_ge hC 48 dX7_readConjunction_12 rfl (by omega) (by omega) (fun c_12 => ?_) (fun c_12 => ?_)
      · have hwn : ¬ isW bt n 37 st9 := fun q => by have := hG.2 k (by rw [← hx, ← hst9]; exact q); omega
        refine k_iload_n hC dX7_readConjunction_48 rfl 1 rfl ?_
        have hfin : rr = conM bt n (qG (pV g) bt n 0) st := by rw [hx]; exact cjN_eq (by rw [← hx, ← hst9]; exact hwn) hG.1
        subst hQ
        exact k_iret hC hr ⟨by decide, by decide⟩ (⟨congrArg (fun z => some (vI ((z : Nat) : Int))) (by rw [← hfin]), rfl, (by have e : st9 = (conM bt n (qG (pV g) bt n 0) st).1 := (by rw [← hfin]; exact hst9); rw [← e]; exact hTq), ⟨⟨_, hlq⟩, _, hrq⟩, fun j hj => hfrw j (by omega)⟩) dX7_readConjunction_49
      · refine k_aload_n hC dX7_readConjunction_15 rfl 2 rfl ?_
        refine k_get hC fd_X7_18 (kl hN (by decide)) h129q rfl dX7_readConjunction_16 ?_
        refine k_ldcs hC (List.mem_of_getElem? (i := 39) rfl) dX7_readConjunction_19 ?_
        have hTco_3 := hTq
        obtain ⟨cno_3, eao_3, kdo_3, nmo_3, sao_3, nxo_3, h1o_3, -⟩ := hTco_3
        refine k_pureV hC (c_X10_isWord l hls G hN wvw fl bt n st9 37 (by decide) hn7 hb hb9 hTq) yy_X10_isWord wm_X7_36 (kl hN (by decide)) h1o_3 rfl rfl rfl rfl (Nat.le_of_ble_eq_true rfl) (by decide) (by decide) ⟨by decide, by decide⟩ dX7_readConjunction_21 ?_
        obtain ⟨z_4, ez_4, hz_4⟩ := selI_c (isW bt n 37 st9)
        refine k_topv (vI z_4) (by rw [ez_4]) ?_
        refine k_if_eq hC 48 dX7_readConjunction_24 rfl (by omega) (fun c_24 => ?_) (fun c_24 => ?_)
        · have hwn : ¬ isW bt n 37 st9 := (hz_4.resolve_left (fun q1 => by omega)).2
          refine k_iload_n hC dX7_readConjunction_48 rfl 1 rfl ?_
          have hfin : rr = conM bt n (qG (pV g) bt n 0) st := by rw [hx]; exact cjN_eq (by rw [← hx, ← hst9]; exact hwn) hG.1
          subst hQ
          exact k_iret hC hr ⟨by decide, by decide⟩ (⟨congrArg (fun z => some (vI ((z : Nat) : Int))) (by rw [← hfin]), rfl, (by have e : st9 = (conM bt n (qG (pV g) bt n 0) st).1 := (by rw [← hfin]; exact hst9); rw [← e]; exact hTq), ⟨⟨_, hlq⟩, _, hrq⟩, fun j hj => hfrw j (by omega)⟩) dX7_readConjunction_49
        · have hwr : isW bt n 37 rr.1 := by rw [← hst9]; exact (hz_4.resolve_right (fun q1 => by omega)).2
          refine k_aload_n hC dX7_readConjunction_27 rfl 2 rfl ?_
          refine k_get hC fd_X7_18 (kl hN (by decide)) h129q rfl dX7_readConjunction_28 ?_
          obtain ⟨cn5, ea5, kd5, nm5, sa5, p95, hp95, h15, hadv5⟩ := tk_open hTq
          refine k_muvV hC (c_X10_advance l hls G hN wvw fl bt n p95 cn5 st9.1 ea5 kd5 nm5 sa5 hn7 hp95 hb hb9 h15) yy_X10_advance wm_X7_42 (kl hN (by decide)) h15 rfl rfl rfl rfl (Nat.le_of_ble_eq_true rfl) (by decide) (by decide) ⟨by decide, by decide⟩ dX7_readConjunction_31 (fun w5 hp5 => ?_)
          obtain ⟨hq5, hf5⟩ := hp5
          have hT5 := hadv5 _ hq5
          obtain ⟨st_6, est_6⟩ : ∃ z : PS, z = adP bt n st9 := ⟨_, rfl⟩
          rw [← est_6] at hT5
          refine k_iload_n hC dX7_readConjunction_34 rfl 1 rfl ?_
          refine k_aload_n hC dX7_readConjunction_35 rfl 2 rfl ?_
          refine k_iload_n hC dX7_readConjunction_36 rfl 3 rfl ?_
          have h_8 : w5 130 = iA G 12 lf := (hf5 130 (by decide)).trans hlq
          have h_9 : w5 131 = iA G 12 rf := (hf5 131 (by decide)).trans hrq
          have h_10 : w5 2 = bA G 700 (fun j => sb8 (bt j)) := (hf5 2 (by decide)).trans hb9
          have h_11 : w5 129 = .inr (7, [.ref (kad G 1), .ref (kad G 3), .ref (kad G 10), .ref (kad G 130), .ref (kad G 131)]) := (hf5 129 (by decide)).trans h129q
          have hB_12 : kLog G w5 3 g := hLq.fr (fun j q1 q2 => (hf5 j (by omega)))
          have h_13 : w5 10 = .inr (0, [.ref (kad G 11), .ref (kad G 12), .ref (kad G 13), .ref (kad G 14), .ref (kad G 15), .ref (kad G 16)]) := (hf5 10 (by decide)).trans h10q
          have h_14 : w5 11 = rA G 4 12 (fun j => some (kad G (20 + j))) := (hf5 11 (by decide)).trans h11q
          have hB_15 : kDrawn w5 g 0 ((g 2).toNat) := hDq.fr (fun j q1 q2 => (hf5 j (by omega)))
          refine k_mutV hC (c_X7_readFactor_0 l hls G hN w5 fl bt n st_6 g hn2 hn7 hb h_10 hT5 h_11 hI hB_12 h_13 h_14 hB_15 ⟨_, h_8⟩ ⟨_, h_9⟩) yy_X7_readFactor wm_X7_45 (kl hN (by decide)) h_11 rfl rfl rfl rfl (Nat.le_of_ble_eq_true rfl) (by decide) (by decide) ⟨by decide, by decide⟩ dX7_readConjunction_37 (fun w7 hp7 => ?_)
          obtain ⟨hT7, ⟨⟨lf7, hlf7⟩, rf7, hrf7⟩, hf7⟩ := hp7
          obtain ⟨st_16, est_16⟩ : ∃ z : PS, z = (qG (pV g) bt n 0 st_6).1 := ⟨_, rfl⟩
          rw [← est_16] at hT7
          refine k_iandN hC (a := mkN rr.2.2 (g 2).toNat) (b := mkN ((qG (pV g) bt n 0 st_6).2.2) (g 2).toNat) dX7_readConjunction_40 ?_
          refine k_topv (vI ((mkN ((and2 (-24) rr (qG (pV g) bt n 0 st_6)).2.2) (g 2).toNat : Nat) : Int)) (congrArg (fun q : Nat => vI (q : Int)) ((mkN_and _ _ _).trans (mkN_c _ (fun i _ => (if_pos rfl).symm)))) ?_
          refine k_istore_n hC [(2, vI ((mkN ((and2 (-24) rr (qG (pV g) bt n 0 st_6)).2.2) (g 2).toNat : Nat) : Int)), (3, vI (k : Int)), (0, .ref (kad G 129)), (1, vI 6)] dX7_readConjunction_41 rfl (by decide) rfl ?_
          refine k_iinc hC (y := (k : Int) + 1) [(3, vI ((k : Int) + 1)), (2, vI ((mkN ((and2 (-24) rr (qG (pV g) bt n 0 st_6)).2.2) (g 2).toNat : Nat) : Int)), (0, .ref (kad G 129)), (1, vI 6)] (j := 1) dX7_readConjunction_42 rfl (by omega) (by decide) rfl ?_
          refine k_goto hC 8 dX7_readConjunction_45 rfl ?_
          refine k_lvs (ls := [0, 1, 2, 3]) [(3, vI ((k + 1 : Nat) : Int)), (2, vI ((mkN ((and2 (-24) rr (qG (pV g) bt n 0 st_6)).2.2) (g 2).toNat : Nat) : Int)), (0, .ref (kad G 129)), (1, vI 6)] (by simp only [lv_pick]; rfl) ?_
          have h_17 : w7 2 = bA G 700 (fun j => sb8 (bt j)) := (hf7 2 (by decide)).trans h_10
          have h_18 : w7 129 = .inr (7, [.ref (kad G 1), .ref (kad G 3), .ref (kad G 10), .ref (kad G 130), .ref (kad G 131)]) := (hf7 129 (by decide)).trans h_11
          have hB_19 : kLog G w7 3 g := hB_12.fr (fun j q1 q2 => (hf7 j (by omega)))
          have hB_20 : kDrawn w7 g 0 ((g 2).toNat) := hB_15.fr (fun j q1 q2 => (hf7 j (by omega)))
          exact ihw (k + 1) (and2 (-24) rr (qG (pV g) bt n 0 st_6)) st_16 lf7 rf7 w7 (by omega) (by omega) (by rw [cjN_go k _ (by rw [← hx]; exact hwr), ← hx, est_6, hst9]) est_16 h_17 h_18 hlf7 hrf7 hT7 hB_19 hB_20 (fun j hj => (hf7 j (by omega)).trans ((hf5 j (by omega)).trans (hfrw j (by omega))))
  refine k_lvs (ls := [0, 1, 2, 3]) [(3, vI ((0 : Nat) : Int)), (2, vI ((mkN ((qG (pV g) bt n 0 st).2.2) (g 2).toNat : Nat) : Int)), (0, .ref (kad G 129)), (1, vI 6)] (by simp only [lv_pick]; rfl) ?_
  have h_21 : w1 2 = bA G 700 (fun j => sb8 (bt j)) := (hf1 2 (by decide)).trans h2
  have h_22 : w1 129 = .inr (7, [.ref (kad G 1), .ref (kad G 3), .ref (kad G 10), .ref (kad G 130), .ref (kad G 131)]) := (hf1 129 (by decide)).trans h129
  have hB_23 : kLog G w1 3 g := hLg.fr (fun j q1 q2 => (hf1 j (by omega)))
  have hB_24 : kDrawn w1 g 0 ((g 2).toNat) := hD.fr (fun j q1 q2 => (hf1 j (by omega)))
  exact loop2 201 0 (qG (pV g) bt n 0 st) st_2 lf1 rf1 w1 (by omega) (by omega) rfl est_2 h_21 h_22 hlf1 hrf1 hT1 hB_23 hB_24 (fun j hj => hf1 j (by omega))

set_option maxRecDepth 100000 in
set_option maxHeartbeats 4000000 in
theorem c_X7_readTest_0 (l : Launch) (hls : l.stackTraces = false) (G : kG) (hN : 133 ≤ kN G) (w : Nat → va_E) (fl : va_W) (bt : Nat → Int) (n : Nat) (st : PS) (g : Nat → Int) (hn2 : n ≤ 200) (hn7 : n ≤ 700) (hb : btOK bt) (h2 : w 2 = byA G bt) (hT : tkR G w bt n st) (h129 : w 129 = qdO G) (hI : Inv g) (hLg : kLog G w 3 g) (h10 : w 10 = chO G) (h11 : w 11 = liA G) (hD : kDrawn w g 0 (g 2).toNat) (hl0 : ∃ lf, w 130 = iA G 12 lf) (hr0 : ∃ rf, w 131 = iA G 12 rf) : KM l G yX7_readTest cX7_readTest 4 (some (FieldType.int)) 9 0 0 [.ref (kad G 129), vI 6] w fl (kMut (vI ((mkN ((tstM bt n (qG (pV g) bt n 0) st).2.2) (g 2).toNat : Nat) : Int)) fl (fun w1 => tkR G w1 bt n ((tstM bt n (qG (pV g) bt n 0) st).1) ∧ ((∃ lf, w1 130 = iA G 12 lf) ∧ ∃ rf, w1 131 = iA G 12 rf) ∧ ∀ j, (j ≠ 1 ∧ j ≠ 130 ∧ j ≠ 131) → w1 j = w j)) := by
  refine KM_of2 hls (by decide +kernel) rfl (lv0 := [(0, .ref (kad G 129)), (1, vI 6)]) rfl (Nat.le_of_ble_eq_true rfl) (fun p e R s m args below meth c Q hC hr hQ => ?_)
  have h0 := hI.c
  obtain ⟨lf0, hlf0⟩ := hl0
  obtain ⟨rf0, hrf0⟩ := hr0
  have hle0 := hT.le
  refine k_aload_n hC dX7_readTest_0 rfl 0 rfl ?_
  refine k_iload_n hC dX7_readTest_1 rfl 1 rfl ?_
  refine k_mutV hC (c_X7_readConjunction_0 l hls G hN w fl bt n st g hn2 hn7 hb h2 hT h129 hI hLg h10 h11 hD ⟨_, hlf0⟩ ⟨_, hrf0⟩) yy_X7_readConjunction wm_X7_30 (kl hN (by decide)) h129 rfl rfl rfl rfl (Nat.le_of_ble_eq_true rfl) (by decide) (by decide) ⟨by decide, by decide⟩ dX7_readTest_2 (fun w1 hp1 => ?_)
  obtain ⟨hT1, ⟨⟨lf1, hlf1⟩, rf1, hrf1⟩, hf1⟩ := hp1
  obtain ⟨st_2, est_2⟩ : ∃ z : PS, z = (conM bt n (qG (pV g) bt n 0) st).1 := ⟨_, rfl⟩
  rw [← est_2] at hT1
  refine k_istore_n hC [(2, vI ((mkN ((conM bt n (qG (pV g) bt n 0) st).2.2) (g 2).toNat : Nat) : Int)), (0, .ref (kad G 129)), (1, vI 6)] dX7_readTest_5 rfl (by decide) rfl ?_
  refine k_iconst hC dX7_readTest_6 ?_
  refine k_istore_n hC [(3, vI 0), (2, vI ((mkN ((conM bt n (qG (pV g) bt n 0) st).2.2) (g 2).toNat : Nat) : Int)), (0, .ref (kad G 129)), (1, vI 6)] dX7_readTest_7 rfl (by decide) rfl ?_
  have hG := endG (V := pV g) (bt := bt) (n := n) (w := 38) (c := -25) (F := conM bt n (qG (pV g) bt n 0)) (F1 := conM bt n (qF (pV g) bt n 0)) (r0 := conM bt n (qG (pV g) bt n 0) st) (r1 := conM bt n (qF (pV g) bt n 0) st) hn2 hle0 (Or.inr rfl) (gq_con (gq_qF (V := pV g) (bt := bt) (n := n) 0)) (rel_con (rel_qF 0)) (gq_con (gq_qF (V := pV g) (bt := bt) (n := n) 0) st) (rel_con (rel_qF 0) st)
  have loop2 : ∀ (nw : Nat) (k : Nat) (rr : QR) (st9 : PS) (lf : Nat → Int) (rf : Nat → Int) (wvw : Nat → va_E), (200 < nw + k) → (k ≤ 200) → (rr = cjN bt n 38 (-25) (conM bt n (qG (pV g) bt n 0)) k (conM bt n (qG (pV g) bt n 0) st)) → (st9 = rr.1) → (wvw 2 = bA G 700 (fun j => sb8 (bt j))) → (wvw 129 = .inr (7, [.ref (kad G 1), .ref (kad G 3), .ref (kad G 10), .ref (kad G 130), .ref (kad G 131)])) → (wvw 130 = iA G 12 lf) → (wvw 131 = iA G 12 rf) → (tkR G wvw bt n st9) → (kLog G wvw 3 g) → (kDrawn wvw g 0 ((g 2).toNat)) → ((∀ j, (j ≠ 1 ∧ j ≠ 130 ∧ j ≠ 131) → wvw j = w j)) → KW p l e R s m args below meth c 4 G Q wvw fl 0 0 8 [(3, vI (k : Int)), (2, vI ((mkN rr.2.2 (g 2).toNat : Nat) : Int)), (0, .ref (kad G 129)), (1, vI 6)] [] := by
    intro nw
    induction nw with
    | zero =>
      intro k rr st9 lf rf wvw hn_w hk9 hx hst9 hb9 h129q hlq hrq hTq hLq hDq hfrw
      exact absurd hn_w (by omega)
    | succ nw ihw =>
      intro k rr st9 lf rf wvw hn_w hk9 hx hst9 hb9 h129q hlq hrq hTq hLq hDq hfrw
      have h10q := (hfrw 10 (by omega)).trans h10
      have h11q := (hfrw 11 (by omega)).trans h11
      refine k_iload_n hC dX7_readTest_8 rfl 0 rfl ?_
      refine k_sipush hC dX7_readTest_9 (by decide) ?_
      refine k_icmp_ge hC 48 dX7_readTest_12 rfl (by omega) (by omega) (fun c_12 => ?_) (fun c_12 => ?_)
      · have hwn : ¬ isW bt n 38 st9 := fun q => by have := hG.2 k (by rw [← hx, ← hst9]; exact q); omega
        refine k_iload_n hC dX7_readTest_48 rfl 1 rfl ?_
        have hfin : rr = tstM bt n (qG (pV g) bt n 0) st := by rw [hx]; exact cjN_eq (by rw [← hx, ← hst9]; exact hwn) hG.1
        subst hQ
        exact k_iret hC hr ⟨by decide, by decide⟩ (⟨congrArg (fun z => some (vI ((z : Nat) : Int))) (by rw [← hfin]), rfl, (by have e : st9 = (tstM bt n (qG (pV g) bt n 0) st).1 := (by rw [← hfin]; exact hst9); rw [← e]; exact hTq), ⟨⟨_, hlq⟩, _, hrq⟩, fun j hj => hfrw j (by omega)⟩) dX7_readTest_49
      · refine k_aload_n hC dX7_readTest_15 rfl 2 rfl ?_
        refine k_get hC fd_X7_18 (kl hN (by decide)) h129q rfl dX7_readTest_16 ?_
        refine k_ldcs hC (List.mem_of_getElem? (i := 40) rfl) dX7_readTest_19 ?_
        have hTco_3 := hTq
        obtain ⟨cno_3, eao_3, kdo_3, nmo_3, sao_3, nxo_3, h1o_3, -⟩ := hTco_3
        refine k_pureV hC (c_X10_isWord l hls G hN wvw fl bt n st9 38 (by decide) hn7 hb hb9 hTq) yy_X10_isWord wm_X7_36 (kl hN (by decide)) h1o_3 rfl rfl rfl rfl (Nat.le_of_ble_eq_true rfl) (by decide) (by decide) ⟨by decide, by decide⟩ dX7_readTest_21 ?_
        obtain ⟨z_4, ez_4, hz_4⟩ := selI_c (isW bt n 38 st9)
        refine k_topv (vI z_4) (by rw [ez_4]) ?_
        refine k_if_eq hC 48 dX7_readTest_24 rfl (by omega) (fun c_24 => ?_) (fun c_24 => ?_)
        · have hwn : ¬ isW bt n 38 st9 := (hz_4.resolve_left (fun q1 => by omega)).2
          refine k_iload_n hC dX7_readTest_48 rfl 1 rfl ?_
          have hfin : rr = tstM bt n (qG (pV g) bt n 0) st := by rw [hx]; exact cjN_eq (by rw [← hx, ← hst9]; exact hwn) hG.1
          subst hQ
          exact k_iret hC hr ⟨by decide, by decide⟩ (⟨congrArg (fun z => some (vI ((z : Nat) : Int))) (by rw [← hfin]), rfl, (by have e : st9 = (tstM bt n (qG (pV g) bt n 0) st).1 := (by rw [← hfin]; exact hst9); rw [← e]; exact hTq), ⟨⟨_, hlq⟩, _, hrq⟩, fun j hj => hfrw j (by omega)⟩) dX7_readTest_49
        · have hwr : isW bt n 38 rr.1 := by rw [← hst9]; exact (hz_4.resolve_right (fun q1 => by omega)).2
          refine k_aload_n hC dX7_readTest_27 rfl 2 rfl ?_
          refine k_get hC fd_X7_18 (kl hN (by decide)) h129q rfl dX7_readTest_28 ?_
          obtain ⟨cn5, ea5, kd5, nm5, sa5, p95, hp95, h15, hadv5⟩ := tk_open hTq
          refine k_muvV hC (c_X10_advance l hls G hN wvw fl bt n p95 cn5 st9.1 ea5 kd5 nm5 sa5 hn7 hp95 hb hb9 h15) yy_X10_advance wm_X7_42 (kl hN (by decide)) h15 rfl rfl rfl rfl (Nat.le_of_ble_eq_true rfl) (by decide) (by decide) ⟨by decide, by decide⟩ dX7_readTest_31 (fun w5 hp5 => ?_)
          obtain ⟨hq5, hf5⟩ := hp5
          have hT5 := hadv5 _ hq5
          obtain ⟨st_6, est_6⟩ : ∃ z : PS, z = adP bt n st9 := ⟨_, rfl⟩
          rw [← est_6] at hT5
          refine k_iload_n hC dX7_readTest_34 rfl 1 rfl ?_
          refine k_aload_n hC dX7_readTest_35 rfl 2 rfl ?_
          refine k_iload_n hC dX7_readTest_36 rfl 3 rfl ?_
          have h_8 : w5 130 = iA G 12 lf := (hf5 130 (by decide)).trans hlq
          have h_9 : w5 131 = iA G 12 rf := (hf5 131 (by decide)).trans hrq
          have h_10 : w5 2 = bA G 700 (fun j => sb8 (bt j)) := (hf5 2 (by decide)).trans hb9
          have h_11 : w5 129 = .inr (7, [.ref (kad G 1), .ref (kad G 3), .ref (kad G 10), .ref (kad G 130), .ref (kad G 131)]) := (hf5 129 (by decide)).trans h129q
          have hB_12 : kLog G w5 3 g := hLq.fr (fun j q1 q2 => (hf5 j (by omega)))
          have h_13 : w5 10 = .inr (0, [.ref (kad G 11), .ref (kad G 12), .ref (kad G 13), .ref (kad G 14), .ref (kad G 15), .ref (kad G 16)]) := (hf5 10 (by decide)).trans h10q
          have h_14 : w5 11 = rA G 4 12 (fun j => some (kad G (20 + j))) := (hf5 11 (by decide)).trans h11q
          have hB_15 : kDrawn w5 g 0 ((g 2).toNat) := hDq.fr (fun j q1 q2 => (hf5 j (by omega)))
          refine k_mutV hC (c_X7_readConjunction_0 l hls G hN w5 fl bt n st_6 g hn2 hn7 hb h_10 hT5 h_11 hI hB_12 h_13 h_14 hB_15 ⟨_, h_8⟩ ⟨_, h_9⟩) yy_X7_readConjunction wm_X7_30 (kl hN (by decide)) h_11 rfl rfl rfl rfl (Nat.le_of_ble_eq_true rfl) (by decide) (by decide) ⟨by decide, by decide⟩ dX7_readTest_37 (fun w7 hp7 => ?_)
          obtain ⟨hT7, ⟨⟨lf7, hlf7⟩, rf7, hrf7⟩, hf7⟩ := hp7
          obtain ⟨st_16, est_16⟩ : ∃ z : PS, z = (conM bt n (qG (pV g) bt n 0) st_6).1 := ⟨_, rfl⟩
          rw [← est_16] at hT7
          refine k_iorN hC (a := mkN rr.2.2 (g 2).toNat) (b := mkN ((conM bt n (qG (pV g) bt n 0) st_6).2.2) (g 2).toNat) dX7_readTest_40 ?_
          refine k_topv (vI ((mkN ((and2 (-25) rr (conM bt n (qG (pV g) bt n 0) st_6)).2.2) (g 2).toNat : Nat) : Int)) (congrArg (fun q : Nat => vI (q : Int)) ((mkN_or _ _ _).trans (mkN_c _ (fun i _ => (if_neg (by decide)).symm)))) ?_
          refine k_istore_n hC [(2, vI ((mkN ((and2 (-25) rr (conM bt n (qG (pV g) bt n 0) st_6)).2.2) (g 2).toNat : Nat) : Int)), (3, vI (k : Int)), (0, .ref (kad G 129)), (1, vI 6)] dX7_readTest_41 rfl (by decide) rfl ?_
          refine k_iinc hC (y := (k : Int) + 1) [(3, vI ((k : Int) + 1)), (2, vI ((mkN ((and2 (-25) rr (conM bt n (qG (pV g) bt n 0) st_6)).2.2) (g 2).toNat : Nat) : Int)), (0, .ref (kad G 129)), (1, vI 6)] (j := 1) dX7_readTest_42 rfl (by omega) (by decide) rfl ?_
          refine k_goto hC 8 dX7_readTest_45 rfl ?_
          refine k_lvs (ls := [0, 1, 2, 3]) [(3, vI ((k + 1 : Nat) : Int)), (2, vI ((mkN ((and2 (-25) rr (conM bt n (qG (pV g) bt n 0) st_6)).2.2) (g 2).toNat : Nat) : Int)), (0, .ref (kad G 129)), (1, vI 6)] (by simp only [lv_pick]; rfl) ?_
          have h_17 : w7 2 = bA G 700 (fun j => sb8 (bt j)) := (hf7 2 (by decide)).trans h_10
          have h_18 : w7 129 = .inr (7, [.ref (kad G 1), .ref (kad G 3), .ref (kad G 10), .ref (kad G 130), .ref (kad G 131)]) := (hf7 129 (by decide)).trans h_11
          have hB_19 : kLog G w7 3 g := hB_12.fr (fun j q1 q2 => (hf7 j (by omega)))
          have hB_20 : kDrawn w7 g 0 ((g 2).toNat) := hB_15.fr (fun j q1 q2 => (hf7 j (by omega)))
          exact ihw (k + 1) (and2 (-25) rr (conM bt n (qG (pV g) bt n 0) st_6)) st_16 lf7 rf7 w7 (by omega) (by omega) (by rw [cjN_go k _ (by rw [← hx]; exact hwr), ← hx, est_6, hst9]) est_16 h_17 h_18 hlf7 hrf7 hT7 hB_19 hB_20 (fun j hj => (hf7 j (by omega)).trans ((hf5 j (by omega)).trans (hfrw j (by omega))))
  refine k_lvs (ls := [0, 1, 2, 3]) [(3, vI ((0 : Nat) : Int)), (2, vI ((mkN ((conM bt n (qG (pV g) bt n 0) st).2.2) (g 2).toNat : Nat) : Int)), (0, .ref (kad G 129)), (1, vI 6)] (by simp only [lv_pick]; rfl) ?_
  have h_21 : w1 2 = bA G 700 (fun j => sb8 (bt j)) := (hf1 2 (by decide)).trans h2
  have h_22 : w1 129 = .inr (7, [.ref (kad G 1), .ref (kad G 3), .ref (kad G 10), .ref (kad G 130), .ref (kad G 131)]) := (hf1 129 (by decide)).trans h129
  have hB_23 : kLog G w1 3 g := hLg.fr (fun j q1 q2 => (hf1 j (by omega)))
  have hB_24 : kDrawn w1 g 0 ((g 2).toNat) := hD.fr (fun j q1 q2 => (hf1 j (by omega)))
  exact loop2 201 0 (conM bt n (qG (pV g) bt n 0) st) st_2 lf1 rf1 w1 (by omega) (by omega) rfl est_2 h_21 h_22 hlf1 hrf1 hT1 hB_23 hB_24 (fun j hj => hf1 j (by omega))

set_option maxRecDepth 100000 in
set_option maxHeartbeats 4000000 in
theorem c_X7_readFactor_1 (l : Launch) (hls : l.stackTraces = false) (G : kG) (hN : 133 ≤ kN G) (w : Nat → va_E) (fl : va_W) (bt : Nat → Int) (n : Nat) (st : PS) (g : Nat → Int) (hn2 : n ≤ 200) (hn7 : n ≤ 700) (hb : btOK bt) (h2 : w 2 = byA G bt) (hT : tkR G w bt n st) (h129 : w 129 = qdO G) (hI : Inv g) (hLg : kLog G w 3 g) (h10 : w 10 = chO G) (h11 : w 11 = liA G) (hD : kDrawn w g 0 (g 2).toNat) (hl0 : ∃ lf, w 130 = iA G 12 lf) (hr0 : ∃ rf, w 131 = iA G 12 rf) : KM l G yX7_readFactor cX7_readFactor 4 (some (FieldType.int)) 10 0 0 [.ref (kad G 129), vI 5] w fl (kMut (vI ((mkN ((qG (pV g) bt n 1 st).2.2) (g 2).toNat : Nat) : Int)) fl (fun w1 => tkR G w1 bt n ((qG (pV g) bt n 1 st).1) ∧ ((∃ lf, w1 130 = iA G 12 lf) ∧ ∃ rf, w1 131 = iA G 12 rf) ∧ ∀ j, (j ≠ 1 ∧ j ≠ 130 ∧ j ≠ 131) → w1 j = w j)) := by
  refine KM_of2 hls (by decide +kernel) rfl (lv0 := [(0, .ref (kad G 129)), (1, vI 5)]) rfl (Nat.le_of_ble_eq_true rfl) (fun p e R s m args below meth c Q hC hr hQ => ?_)
  have h0 := hI.c
  obtain ⟨lf0, hlf0⟩ := hl0
  obtain ⟨rf0, hrf0⟩ := hr0
  have hle0 := hT.le
  refine k_aload_n hC dX7_readFactor_0 rfl 0 rfl ?_
  refine k_get hC fd_X7_18 (kl hN (by decide)) h129 rfl dX7_readFactor_1 ?_
  refine k_ldcs hC (List.mem_of_getElem? (i := 31) rfl) dX7_readFactor_4 ?_
  have hTco_1 := hT
  obtain ⟨cno_1, eao_1, kdo_1, nmo_1, sao_1, nxo_1, h1o_1, -⟩ := hTco_1
  refine k_pureV hC (c_X10_isWord l hls G hN w fl bt n st 31 (by decide) hn7 hb h2 hT) yy_X10_isWord wm_X7_36 (kl hN (by decide)) h1o_1 rfl rfl rfl rfl (Nat.le_of_ble_eq_true rfl) (by decide) (by decide) ⟨by decide, by decide⟩ dX7_readFactor_6 ?_
  obtain ⟨z_2, ez_2, hz_2⟩ := selI_c (isW bt n 31 st)
  refine k_topv (vI z_2) (by rw [ez_2]) ?_
  refine k_istore_n hC [(2, vI z_2), (0, .ref (kad G 129)), (1, vI 5)] dX7_readFactor_9 rfl (by decide) rfl ?_
  refine k_iload_n hC dX7_readFactor_10 rfl 0 rfl ?_
  refine k_if_ne hC 31 dX7_readFactor_11 rfl (by omega) (fun c_11 => ?_) (fun c_11 => ?_)
  · have hw31 : isW bt n 31 st := (hz_2.resolve_right (fun q1 => by omega)).2
    refine k_iload_n hC dX7_readFactor_31 rfl 2 rfl ?_
    refine k_bipush hC dX7_readFactor_32 (by decide) ?_
    refine k_icmp_lt hC 47 dX7_readFactor_34 rfl (by omega) (by omega) (fun c_34 => ?_) (fun c_34 => absurd c_34 (by omega))
    refine k_aload_n hC dX7_readFactor_47 rfl 1 rfl ?_
    refine k_get hC fd_X7_18 (kl hN (by decide)) h129 rfl dX7_readFactor_48 ?_
    obtain ⟨cn3, ea3, kd3, nm3, sa3, p93, hp93, h13, hadv3⟩ := tk_open hT
    refine k_muvV hC (c_X10_advance l hls G hN w fl bt n p93 cn3 st.1 ea3 kd3 nm3 sa3 hn7 hp93 hb h2 h13) yy_X10_advance wm_X7_42 (kl hN (by decide)) h13 rfl rfl rfl rfl (Nat.le_of_ble_eq_true rfl) (by decide) (by decide) ⟨by decide, by decide⟩ dX7_readFactor_51 (fun w3 hp3 => ?_)
    obtain ⟨hq3, hf3⟩ := hp3
    have hT3 := hadv3 _ hq3
    obtain ⟨st_4, est_4⟩ : ∃ z : PS, z = adP bt n st := ⟨_, rfl⟩
    rw [← est_4] at hT3
    refine k_iload_n hC dX7_readFactor_54 rfl 0 rfl ?_
    refine k_if_eq hC 82 dX7_readFactor_55 rfl (by omega) (fun c_55 => absurd c_55 (by omega)) (fun c_55 => ?_)
    refine k_iconst hC dX7_readFactor_58 ?_
    refine k_aload_n hC dX7_readFactor_59 rfl 1 rfl ?_
    have h_5 : w3 129 = .inr (7, [.ref (kad G 1), .ref (kad G 3), .ref (kad G 10), .ref (kad G 130), .ref (kad G 131)]) := (hf3 129 (by decide)).trans h129
    refine k_get hC fd_X7_22 (kl hN (by decide)) h_5 rfl dX7_readFactor_60 ?_
    have hB_6 : kLog G w3 3 g := hLg.fr (fun j q1 q2 => (hf3 j (by omega)))
    refine k_get hC fd_X7_64 (kl hN (by decide)) hB_6.1 rfl dX7_readFactor_63 ?_
    refine k_topv (vI (((g 2).toNat : Int))) (congrArg vI (by omega)) ?_
    refine k_ishl1 hC (n := (((g 2).toNat : Int)).toNat) (by omega) dX7_readFactor_66 ?_
    refine k_iconst hC dX7_readFactor_67 ?_
    refine k_isub hC dX7_readFactor_68 ?_
    refine k_istore_n hC [(3, vI (((2 ^ ((((g 2).toNat : Int)).toNat) : Nat) : Int) - 1)), (2, vI z_2), (0, .ref (kad G 129)), (1, vI 5)] dX7_readFactor_69 rfl (by decide) rfl ?_
    refine k_iload_n hC dX7_readFactor_70 rfl 0 rfl ?_
    refine k_aload_n hC dX7_readFactor_71 rfl 2 rfl ?_
    refine k_iload_n hC dX7_readFactor_72 rfl 3 rfl ?_
    refine k_iconst hC dX7_readFactor_73 ?_
    refine k_iadd hC dX7_readFactor_74 ?_
    refine k_topv (vI 6) (congrArg vI (by decide)) ?_
    have h_8 : w3 130 = iA G 12 lf0 := (hf3 130 (by decide)).trans hlf0
    have h_9 : w3 131 = iA G 12 rf0 := (hf3 131 (by decide)).trans hrf0
    have h_10 : w3 2 = bA G 700 (fun j => sb8 (bt j)) := (hf3 2 (by decide)).trans h2
    have h_11 : w3 10 = .inr (0, [.ref (kad G 11), .ref (kad G 12), .ref (kad G 13), .ref (kad G 14), .ref (kad G 15), .ref (kad G 16)]) := (hf3 10 (by decide)).trans h10
    have h_12 : w3 11 = rA G 4 12 (fun j => some (kad G (20 + j))) := (hf3 11 (by decide)).trans h11
    have hB_13 : kDrawn w3 g 0 ((g 2).toNat) := hD.fr (fun j q1 q2 => (hf3 j (by omega)))
    refine k_mutV hC (c_X7_readFactor_0 l hls G hN w3 fl bt n st_4 g hn2 hn7 hb h_10 hT3 h_5 hI hB_6 h_11 h_12 hB_13 ⟨_, h_8⟩ ⟨_, h_9⟩) yy_X7_readFactor wm_X7_45 (kl hN (by decide)) h_5 rfl rfl rfl rfl (Nat.le_of_ble_eq_true rfl) (by decide) (by decide) ⟨by decide, by decide⟩ dX7_readFactor_75 (fun w7 hp7 => ?_)
    obtain ⟨hT7, ⟨⟨lf7, hlf7⟩, rf7, hrf7⟩, hf7⟩ := hp7
    obtain ⟨st_14, est_14⟩ : ∃ z : PS, z = (qG (pV g) bt n 0 st_4).1 := ⟨_, rfl⟩
    rw [← est_14] at hT7
    refine k_iconst hC dX7_readFactor_78 ?_
    refine k_inotN hC (a := mkN ((qG (pV g) bt n 0 st_4).2.2) (g 2).toNat) (mkN_12 _ (by omega)) dX7_readFactor_79 ?_
    refine k_iallN hC (a := mkN ((qG (pV g) bt n 0 st_4).2.2) (g 2).toNat) (n := (g 2).toNat) (by omega) (mkN_12 _ (by omega)) (mkN_b _ _) dX7_readFactor_80 ?_
    subst hQ
    exact k_iret hC hr ⟨by decide, by decide⟩ (⟨congrArg (fun z => some (vI ((z : Nat) : Int))) (by rw [qG_n hw31, ← est_4]; have h9 := mkN_not (qG (pV g) bt n 0 st_4).2.2 (g 2).toNat; show mkN (fun i => !(qG (pV g) bt n 0 st_4).2.2 i) (g 2).toNat = _; omega), rfl, (by have e : st_14 = (qG (pV g) bt n 1 st).1 := (by rw [qG_n hw31]; show st_14 = (qG (pV g) bt n 0 (adP bt n st)).1; rw [← est_4]; exact est_14); rw [← e]; exact hT7), ⟨⟨_, hlf7⟩, _, hrf7⟩, fun j hj => (hf7 j (by omega)).trans (hf3 j (by omega))⟩) dX7_readFactor_81
  · have hw31 : ¬ isW bt n 31 st := (hz_2.resolve_left (fun q1 => by omega)).2
    refine k_aload_n hC dX7_readFactor_14 rfl 1 rfl ?_
    refine k_get hC fd_X7_18 (kl hN (by decide)) h129 rfl dX7_readFactor_15 ?_
    refine k_bipush hC dX7_readFactor_18 (by decide) ?_
    refine k_pureV hC (c_X10_isSign l hls G hN w fl bt n st 40 (by omega) hn7 hb h2 hT) yy_X10_isSign wm_X7_52 (kl hN (by decide)) h1o_1 rfl rfl rfl rfl (Nat.le_of_ble_eq_true rfl) (by decide) (by decide) ⟨by decide, by decide⟩ dX7_readFactor_20 ?_
    obtain ⟨z_15, ez_15, hz_15⟩ := selI_c (isS bt n 40 st)
    refine k_topv (vI z_15) (by rw [ez_15]) ?_
    refine k_if_ne hC 31 dX7_readFactor_23 rfl (by omega) (fun c_23 => ?_) (fun c_23 => ?_)
    · have hw40 : isS bt n 40 st := (hz_15.resolve_right (fun q1 => by omega)).2
      refine k_iload_n hC dX7_readFactor_31 rfl 2 rfl ?_
      refine k_bipush hC dX7_readFactor_32 (by decide) ?_
      refine k_icmp_lt hC 47 dX7_readFactor_34 rfl (by omega) (by omega) (fun c_34 => ?_) (fun c_34 => absurd c_34 (by omega))
      refine k_aload_n hC dX7_readFactor_47 rfl 1 rfl ?_
      refine k_get hC fd_X7_18 (kl hN (by decide)) h129 rfl dX7_readFactor_48 ?_
      obtain ⟨cn16, ea16, kd16, nm16, sa16, p916, hp916, h116, hadv16⟩ := tk_open hT
      refine k_muvV hC (c_X10_advance l hls G hN w fl bt n p916 cn16 st.1 ea16 kd16 nm16 sa16 hn7 hp916 hb h2 h116) yy_X10_advance wm_X7_42 (kl hN (by decide)) h116 rfl rfl rfl rfl (Nat.le_of_ble_eq_true rfl) (by decide) (by decide) ⟨by decide, by decide⟩ dX7_readFactor_51 (fun w16 hp16 => ?_)
      obtain ⟨hq16, hf16⟩ := hp16
      have hT16 := hadv16 _ hq16
      obtain ⟨st_17, est_17⟩ : ∃ z : PS, z = adP bt n st := ⟨_, rfl⟩
      rw [← est_17] at hT16
      refine k_iload_n hC dX7_readFactor_54 rfl 0 rfl ?_
      refine k_if_eq hC 82 dX7_readFactor_55 rfl (by omega) (fun c_55 => ?_) (fun c_55 => absurd c_55 (by omega))
      refine k_aload_n hC dX7_readFactor_82 rfl 1 rfl ?_
      refine k_iload_n hC dX7_readFactor_83 rfl 2 rfl ?_
      refine k_iconst hC dX7_readFactor_84 ?_
      refine k_iadd hC dX7_readFactor_85 ?_
      refine k_topv (vI 6) (congrArg vI (by decide)) ?_
      have h_19 : w16 130 = iA G 12 lf0 := (hf16 130 (by decide)).trans hlf0
      have h_20 : w16 131 = iA G 12 rf0 := (hf16 131 (by decide)).trans hrf0
      have h_21 : w16 2 = bA G 700 (fun j => sb8 (bt j)) := (hf16 2 (by decide)).trans h2
      have h_22 : w16 129 = .inr (7, [.ref (kad G 1), .ref (kad G 3), .ref (kad G 10), .ref (kad G 130), .ref (kad G 131)]) := (hf16 129 (by decide)).trans h129
      have hB_23 : kLog G w16 3 g := hLg.fr (fun j q1 q2 => (hf16 j (by omega)))
      have h_24 : w16 10 = .inr (0, [.ref (kad G 11), .ref (kad G 12), .ref (kad G 13), .ref (kad G 14), .ref (kad G 15), .ref (kad G 16)]) := (hf16 10 (by decide)).trans h10
      have h_25 : w16 11 = rA G 4 12 (fun j => some (kad G (20 + j))) := (hf16 11 (by decide)).trans h11
      have hB_26 : kDrawn w16 g 0 ((g 2).toNat) := hD.fr (fun j q1 q2 => (hf16 j (by omega)))
      refine k_mutV hC (c_X7_readTest_0 l hls G hN w16 fl bt n st_17 g hn2 hn7 hb h_21 hT16 h_22 hI hB_23 h_24 h_25 hB_26 ⟨_, h_19⟩ ⟨_, h_20⟩) yy_X7_readTest wm_X7_70 (kl hN (by decide)) h_22 rfl rfl rfl rfl (Nat.le_of_ble_eq_true rfl) (by decide) (by decide) ⟨by decide, by decide⟩ dX7_readFactor_86 (fun w18 hp18 => ?_)
      obtain ⟨hT18, ⟨⟨lf18, hlf18⟩, rf18, hrf18⟩, hf18⟩ := hp18
      obtain ⟨st_27, est_27⟩ : ∃ z : PS, z = (tstM bt n (qG (pV g) bt n 0) st_17).1 := ⟨_, rfl⟩
      rw [← est_27] at hT18
      refine k_istore_n hC [(3, vI ((mkN ((tstM bt n (qG (pV g) bt n 0) st_17).2.2) (g 2).toNat : Nat) : Int)), (2, vI z_2), (0, .ref (kad G 129)), (1, vI 5)] dX7_readFactor_89 rfl (by decide) rfl ?_
      refine k_aload_n hC dX7_readFactor_90 rfl 2 rfl ?_
      have h_28 : w18 129 = .inr (7, [.ref (kad G 1), .ref (kad G 3), .ref (kad G 10), .ref (kad G 130), .ref (kad G 131)]) := (hf18 129 (by decide)).trans h_22
      refine k_get hC fd_X7_18 (kl hN (by decide)) h_28 rfl dX7_readFactor_91 ?_
      refine k_bipush hC dX7_readFactor_94 (by decide) ?_
      have hTco_30 := hT18
      obtain ⟨cno_30, eao_30, kdo_30, nmo_30, sao_30, nxo_30, h1o_30, -⟩ := hTco_30
      have h_31 : w18 2 = bA G 700 (fun j => sb8 (bt j)) := (hf18 2 (by decide)).trans h_21
      refine k_muvV hC (c_X10_needSign l hls G hN w18 fl bt n st_27 41 (by omega) hn7 hb h_31 hT18) yy_X10_needSign wm_X7_73 (kl hN (by decide)) h1o_30 rfl rfl rfl rfl (Nat.le_of_ble_eq_true rfl) (by decide) (by decide) ⟨by decide, by decide⟩ dX7_readFactor_96 (fun w29 hp29 => ?_)
      obtain ⟨hT29, hf29⟩ := hp29
      obtain ⟨st_32, est_32⟩ : ∃ z : PS, z = nsP bt n 41 st_27 := ⟨_, rfl⟩
      rw [← est_32] at hT29
      refine k_iload_n hC dX7_readFactor_99 rfl 0 rfl ?_
      have h_33 : w29 130 = iA G 12 lf18 := (hf29 130 (by decide)).trans hlf18
      have h_34 : w29 131 = iA G 12 rf18 := (hf29 131 (by decide)).trans hrf18
      subst hQ
      exact k_iret hC hr ⟨by decide, by decide⟩ (⟨congrArg (fun z => some (vI ((z : Nat) : Int))) (by rw [qG_p hw31 hw40, ← est_17]; rfl), rfl, (by have e : st_32 = (qG (pV g) bt n 1 st).1 := (by rw [qG_p hw31 hw40]; show st_32 = nsP bt n 41 (tstM bt n (qG (pV g) bt n 0) (adP bt n st)).1; rw [← est_17, ← est_27]; exact est_32); rw [← e]; exact hT29), ⟨⟨_, h_33⟩, _, h_34⟩, fun j hj => (hf29 j (by omega)).trans ((hf18 j (by omega)).trans (hf16 j (by omega)))⟩) dX7_readFactor_100
    · have hw40 : ¬ isS bt n 40 st := (hz_15.resolve_left (fun q1 => by omega)).2
      have hqG := qG_c (V := pV g) 1 hw31 hw40
      refine k_aload_n hC dX7_readFactor_26 rfl 1 rfl ?_
      refine k_mutV hC (c_X7_readComparison l hls G hN w fl bt n st g hn7 hb h2 hT h129 hI hLg h10 h11 hD ⟨_, hlf0⟩ ⟨_, hrf0⟩) yy_X7_readComparison wm_X7_56 (kl hN (by decide)) h129 rfl rfl rfl rfl (Nat.le_of_ble_eq_true rfl) (by decide) (by decide) ⟨by decide, by decide⟩ dX7_readFactor_27 (fun w35 hp35 => ?_)
      obtain ⟨hT35, ⟨⟨lf35, hlf35⟩, rf35, hrf35⟩, hf35⟩ := hp35
      obtain ⟨st_36, est_36⟩ : ∃ z : PS, z = (cmpG (pV g) bt n st).1 := ⟨_, rfl⟩
      rw [← est_36] at hT35
      subst hQ
      exact k_iret hC hr ⟨by decide, by decide⟩ (⟨congrArg (fun z => some (vI ((z : Nat) : Int))) (by rw [hqG]; rfl), rfl, (by have e : st_36 = (qG (pV g) bt n 1 st).1 := (by rw [hqG]; exact est_36); rw [← e]; exact hT35), ⟨⟨_, hlf35⟩, _, hrf35⟩, fun j hj => hf35 j (by omega)⟩) dX7_readFactor_30

set_option maxRecDepth 100000 in
set_option maxHeartbeats 4000000 in
theorem c_X7_readConjunction_1 (l : Launch) (hls : l.stackTraces = false) (G : kG) (hN : 133 ≤ kN G) (w : Nat → va_E) (fl : va_W) (bt : Nat → Int) (n : Nat) (st : PS) (g : Nat → Int) (hn2 : n ≤ 200) (hn7 : n ≤ 700) (hb : btOK bt) (h2 : w 2 = byA G bt) (hT : tkR G w bt n st) (h129 : w 129 = qdO G) (hI : Inv g) (hLg : kLog G w 3 g) (h10 : w 10 = chO G) (h11 : w 11 = liA G) (hD : kDrawn w g 0 (g 2).toNat) (hl0 : ∃ lf, w 130 = iA G 12 lf) (hr0 : ∃ rf, w 131 = iA G 12 rf) : KM l G yX7_readConjunction cX7_readConjunction 4 (some (FieldType.int)) 11 0 0 [.ref (kad G 129), vI 5] w fl (kMut (vI ((mkN ((conM bt n (qG (pV g) bt n 1) st).2.2) (g 2).toNat : Nat) : Int)) fl (fun w1 => tkR G w1 bt n ((conM bt n (qG (pV g) bt n 1) st).1) ∧ ((∃ lf, w1 130 = iA G 12 lf) ∧ ∃ rf, w1 131 = iA G 12 rf) ∧ ∀ j, (j ≠ 1 ∧ j ≠ 130 ∧ j ≠ 131) → w1 j = w j)) := by
  refine KM_of2 hls (by decide +kernel) rfl (lv0 := [(0, .ref (kad G 129)), (1, vI 5)]) rfl (Nat.le_of_ble_eq_true rfl) (fun p e R s m args below meth c Q hC hr hQ => ?_)
  have h0 := hI.c
  obtain ⟨lf0, hlf0⟩ := hl0
  obtain ⟨rf0, hrf0⟩ := hr0
  have hle0 := hT.le
  refine k_aload_n hC dX7_readConjunction_0 rfl 0 rfl ?_
  refine k_iload_n hC dX7_readConjunction_1 rfl 1 rfl ?_
  refine k_mutV hC (c_X7_readFactor_1 l hls G hN w fl bt n st g hn2 hn7 hb h2 hT h129 hI hLg h10 h11 hD ⟨_, hlf0⟩ ⟨_, hrf0⟩) yy_X7_readFactor wm_X7_45 (kl hN (by decide)) h129 rfl rfl rfl rfl (Nat.le_of_ble_eq_true rfl) (by decide) (by decide) ⟨by decide, by decide⟩ dX7_readConjunction_2 (fun w1 hp1 => ?_)
  obtain ⟨hT1, ⟨⟨lf1, hlf1⟩, rf1, hrf1⟩, hf1⟩ := hp1
  obtain ⟨st_2, est_2⟩ : ∃ z : PS, z = (qG (pV g) bt n 1 st).1 := ⟨_, rfl⟩
  rw [← est_2] at hT1
  refine k_istore_n hC [(2, vI ((mkN ((qG (pV g) bt n 1 st).2.2) (g 2).toNat : Nat) : Int)), (0, .ref (kad G 129)), (1, vI 5)] dX7_readConjunction_5 rfl (by decide) rfl ?_
  refine k_iconst hC dX7_readConjunction_6 ?_
  refine k_istore_n hC [(3, vI 0), (2, vI ((mkN ((qG (pV g) bt n 1 st).2.2) (g 2).toNat : Nat) : Int)), (0, .ref (kad G 129)), (1, vI 5)] dX7_readConjunction_7 rfl (by decide) rfl ?_
  have hG := endG (V := pV g) (bt := bt) (n := n) (w := 37) (c := -24) (F := qG (pV g) bt n 1) (F1 := qF (pV g) bt n 1) (r0 := qG (pV g) bt n 1 st) (r1 := qF (pV g) bt n 1 st) hn2 hle0 (Or.inl rfl) (gq_qF (V := pV g) (bt := bt) (n := n) 1) (rel_qF 1) (gq_qF (V := pV g) (bt := bt) (n := n) 1 st) (rel_qF 1 st)
  have loop2 : ∀ (nw : Nat) (k : Nat) (rr : QR) (st9 : PS) (lf : Nat → Int) (rf : Nat → Int) (wvw : Nat → va_E), (200 < nw + k) → (k ≤ 200) → (rr = cjN bt n 37 (-24) (qG (pV g) bt n 1) k (qG (pV g) bt n 1 st)) → (st9 = rr.1) → (wvw 2 = bA G 700 (fun j => sb8 (bt j))) → (wvw 129 = .inr (7, [.ref (kad G 1), .ref (kad G 3), .ref (kad G 10), .ref (kad G 130), .ref (kad G 131)])) → (wvw 130 = iA G 12 lf) → (wvw 131 = iA G 12 rf) → (tkR G wvw bt n st9) → (kLog G wvw 3 g) → (kDrawn wvw g 0 ((g 2).toNat)) → ((∀ j, (j ≠ 1 ∧ j ≠ 130 ∧ j ≠ 131) → wvw j = w j)) → KW p l e R s m args below meth c 4 G Q wvw fl 0 0 8 [(3, vI (k : Int)), (2, vI ((mkN rr.2.2 (g 2).toNat : Nat) : Int)), (0, .ref (kad G 129)), (1, vI 5)] [] := by
    intro nw
    induction nw with
    | zero =>
      intro k rr st9 lf rf wvw hn_w hk9 hx hst9 hb9 h129q hlq hrq hTq hLq hDq hfrw
      exact absurd hn_w (by omega)
    | succ nw ihw =>
      intro k rr st9 lf rf wvw hn_w hk9 hx hst9 hb9 h129q hlq hrq hTq hLq hDq hfrw
      have h10q := (hfrw 10 (by omega)).trans h10
      have h11q := (hfrw 11 (by omega)).trans h11
      refine k_iload_n hC dX7_readConjunction_8 rfl 0 rfl ?_
      refine k_sipush hC dX7_readConjunction_9 (by decide) ?_
      refine k_icmp_ge hC 48 dX7_readConjunction_12 rfl (by omega) (by omega) (fun c_12 => ?_) (fun c_12 => ?_)
      · have hwn : ¬ isW bt n 37 st9 := fun q => by have := hG.2 k (by rw [← hx, ← hst9]; exact q); omega
        refine k_iload_n hC dX7_readConjunction_48 rfl 1 rfl ?_
        have hfin : rr = conM bt n (qG (pV g) bt n 1) st := by rw [hx]; exact cjN_eq (by rw [← hx, ← hst9]; exact hwn) hG.1
        subst hQ
        exact k_iret hC hr ⟨by decide, by decide⟩ (⟨congrArg (fun z => some (vI ((z : Nat) : Int))) (by rw [← hfin]), rfl, (by have e : st9 = (conM bt n (qG (pV g) bt n 1) st).1 := (by rw [← hfin]; exact hst9); rw [← e]; exact hTq), ⟨⟨_, hlq⟩, _, hrq⟩, fun j hj => hfrw j (by omega)⟩) dX7_readConjunction_49
      · refine k_aload_n hC dX7_readConjunction_15 rfl 2 rfl ?_
        refine k_get hC fd_X7_18 (kl hN (by decide)) h129q rfl dX7_readConjunction_16 ?_
        refine k_ldcs hC (List.mem_of_getElem? (i := 39) rfl) dX7_readConjunction_19 ?_
        have hTco_3 := hTq
        obtain ⟨cno_3, eao_3, kdo_3, nmo_3, sao_3, nxo_3, h1o_3, -⟩ := hTco_3
        refine k_pureV hC (c_X10_isWord l hls G hN wvw fl bt n st9 37 (by decide) hn7 hb hb9 hTq) yy_X10_isWord wm_X7_36 (kl hN (by decide)) h1o_3 rfl rfl rfl rfl (Nat.le_of_ble_eq_true rfl) (by decide) (by decide) ⟨by decide, by decide⟩ dX7_readConjunction_21 ?_
        obtain ⟨z_4, ez_4, hz_4⟩ := selI_c (isW bt n 37 st9)
        refine k_topv (vI z_4) (by rw [ez_4]) ?_
        refine k_if_eq hC 48 dX7_readConjunction_24 rfl (by omega) (fun c_24 => ?_) (fun c_24 => ?_)
        · have hwn : ¬ isW bt n 37 st9 := (hz_4.resolve_left (fun q1 => by omega)).2
          refine k_iload_n hC dX7_readConjunction_48 rfl 1 rfl ?_
          have hfin : rr = conM bt n (qG (pV g) bt n 1) st := by rw [hx]; exact cjN_eq (by rw [← hx, ← hst9]; exact hwn) hG.1
          subst hQ
          exact k_iret hC hr ⟨by decide, by decide⟩ (⟨congrArg (fun z => some (vI ((z : Nat) : Int))) (by rw [← hfin]), rfl, (by have e : st9 = (conM bt n (qG (pV g) bt n 1) st).1 := (by rw [← hfin]; exact hst9); rw [← e]; exact hTq), ⟨⟨_, hlq⟩, _, hrq⟩, fun j hj => hfrw j (by omega)⟩) dX7_readConjunction_49
        · have hwr : isW bt n 37 rr.1 := by rw [← hst9]; exact (hz_4.resolve_right (fun q1 => by omega)).2
          refine k_aload_n hC dX7_readConjunction_27 rfl 2 rfl ?_
          refine k_get hC fd_X7_18 (kl hN (by decide)) h129q rfl dX7_readConjunction_28 ?_
          obtain ⟨cn5, ea5, kd5, nm5, sa5, p95, hp95, h15, hadv5⟩ := tk_open hTq
          refine k_muvV hC (c_X10_advance l hls G hN wvw fl bt n p95 cn5 st9.1 ea5 kd5 nm5 sa5 hn7 hp95 hb hb9 h15) yy_X10_advance wm_X7_42 (kl hN (by decide)) h15 rfl rfl rfl rfl (Nat.le_of_ble_eq_true rfl) (by decide) (by decide) ⟨by decide, by decide⟩ dX7_readConjunction_31 (fun w5 hp5 => ?_)
          obtain ⟨hq5, hf5⟩ := hp5
          have hT5 := hadv5 _ hq5
          obtain ⟨st_6, est_6⟩ : ∃ z : PS, z = adP bt n st9 := ⟨_, rfl⟩
          rw [← est_6] at hT5
          refine k_iload_n hC dX7_readConjunction_34 rfl 1 rfl ?_
          refine k_aload_n hC dX7_readConjunction_35 rfl 2 rfl ?_
          refine k_iload_n hC dX7_readConjunction_36 rfl 3 rfl ?_
          have h_8 : w5 130 = iA G 12 lf := (hf5 130 (by decide)).trans hlq
          have h_9 : w5 131 = iA G 12 rf := (hf5 131 (by decide)).trans hrq
          have h_10 : w5 2 = bA G 700 (fun j => sb8 (bt j)) := (hf5 2 (by decide)).trans hb9
          have h_11 : w5 129 = .inr (7, [.ref (kad G 1), .ref (kad G 3), .ref (kad G 10), .ref (kad G 130), .ref (kad G 131)]) := (hf5 129 (by decide)).trans h129q
          have hB_12 : kLog G w5 3 g := hLq.fr (fun j q1 q2 => (hf5 j (by omega)))
          have h_13 : w5 10 = .inr (0, [.ref (kad G 11), .ref (kad G 12), .ref (kad G 13), .ref (kad G 14), .ref (kad G 15), .ref (kad G 16)]) := (hf5 10 (by decide)).trans h10q
          have h_14 : w5 11 = rA G 4 12 (fun j => some (kad G (20 + j))) := (hf5 11 (by decide)).trans h11q
          have hB_15 : kDrawn w5 g 0 ((g 2).toNat) := hDq.fr (fun j q1 q2 => (hf5 j (by omega)))
          refine k_mutV hC (c_X7_readFactor_1 l hls G hN w5 fl bt n st_6 g hn2 hn7 hb h_10 hT5 h_11 hI hB_12 h_13 h_14 hB_15 ⟨_, h_8⟩ ⟨_, h_9⟩) yy_X7_readFactor wm_X7_45 (kl hN (by decide)) h_11 rfl rfl rfl rfl (Nat.le_of_ble_eq_true rfl) (by decide) (by decide) ⟨by decide, by decide⟩ dX7_readConjunction_37 (fun w7 hp7 => ?_)
          obtain ⟨hT7, ⟨⟨lf7, hlf7⟩, rf7, hrf7⟩, hf7⟩ := hp7
          obtain ⟨st_16, est_16⟩ : ∃ z : PS, z = (qG (pV g) bt n 1 st_6).1 := ⟨_, rfl⟩
          rw [← est_16] at hT7
          refine k_iandN hC (a := mkN rr.2.2 (g 2).toNat) (b := mkN ((qG (pV g) bt n 1 st_6).2.2) (g 2).toNat) dX7_readConjunction_40 ?_
          refine k_topv (vI ((mkN ((and2 (-24) rr (qG (pV g) bt n 1 st_6)).2.2) (g 2).toNat : Nat) : Int)) (congrArg (fun q : Nat => vI (q : Int)) ((mkN_and _ _ _).trans (mkN_c _ (fun i _ => (if_pos rfl).symm)))) ?_
          refine k_istore_n hC [(2, vI ((mkN ((and2 (-24) rr (qG (pV g) bt n 1 st_6)).2.2) (g 2).toNat : Nat) : Int)), (3, vI (k : Int)), (0, .ref (kad G 129)), (1, vI 5)] dX7_readConjunction_41 rfl (by decide) rfl ?_
          refine k_iinc hC (y := (k : Int) + 1) [(3, vI ((k : Int) + 1)), (2, vI ((mkN ((and2 (-24) rr (qG (pV g) bt n 1 st_6)).2.2) (g 2).toNat : Nat) : Int)), (0, .ref (kad G 129)), (1, vI 5)] (j := 1) dX7_readConjunction_42 rfl (by omega) (by decide) rfl ?_
          refine k_goto hC 8 dX7_readConjunction_45 rfl ?_
          refine k_lvs (ls := [0, 1, 2, 3]) [(3, vI ((k + 1 : Nat) : Int)), (2, vI ((mkN ((and2 (-24) rr (qG (pV g) bt n 1 st_6)).2.2) (g 2).toNat : Nat) : Int)), (0, .ref (kad G 129)), (1, vI 5)] (by simp only [lv_pick]; rfl) ?_
          have h_17 : w7 2 = bA G 700 (fun j => sb8 (bt j)) := (hf7 2 (by decide)).trans h_10
          have h_18 : w7 129 = .inr (7, [.ref (kad G 1), .ref (kad G 3), .ref (kad G 10), .ref (kad G 130), .ref (kad G 131)]) := (hf7 129 (by decide)).trans h_11
          have hB_19 : kLog G w7 3 g := hB_12.fr (fun j q1 q2 => (hf7 j (by omega)))
          have hB_20 : kDrawn w7 g 0 ((g 2).toNat) := hB_15.fr (fun j q1 q2 => (hf7 j (by omega)))
          exact ihw (k + 1) (and2 (-24) rr (qG (pV g) bt n 1 st_6)) st_16 lf7 rf7 w7 (by omega) (by omega) (by rw [cjN_go k _ (by rw [← hx]; exact hwr), ← hx, est_6, hst9]) est_16 h_17 h_18 hlf7 hrf7 hT7 hB_19 hB_20 (fun j hj => (hf7 j (by omega)).trans ((hf5 j (by omega)).trans (hfrw j (by omega))))
  refine k_lvs (ls := [0, 1, 2, 3]) [(3, vI ((0 : Nat) : Int)), (2, vI ((mkN ((qG (pV g) bt n 1 st).2.2) (g 2).toNat : Nat) : Int)), (0, .ref (kad G 129)), (1, vI 5)] (by simp only [lv_pick]; rfl) ?_
  have h_21 : w1 2 = bA G 700 (fun j => sb8 (bt j)) := (hf1 2 (by decide)).trans h2
  have h_22 : w1 129 = .inr (7, [.ref (kad G 1), .ref (kad G 3), .ref (kad G 10), .ref (kad G 130), .ref (kad G 131)]) := (hf1 129 (by decide)).trans h129
  have hB_23 : kLog G w1 3 g := hLg.fr (fun j q1 q2 => (hf1 j (by omega)))
  have hB_24 : kDrawn w1 g 0 ((g 2).toNat) := hD.fr (fun j q1 q2 => (hf1 j (by omega)))
  exact loop2 201 0 (qG (pV g) bt n 1 st) st_2 lf1 rf1 w1 (by omega) (by omega) rfl est_2 h_21 h_22 hlf1 hrf1 hT1 hB_23 hB_24 (fun j hj => hf1 j (by omega))

set_option maxRecDepth 100000 in
set_option maxHeartbeats 4000000 in
theorem c_X7_readTest_1 (l : Launch) (hls : l.stackTraces = false) (G : kG) (hN : 133 ≤ kN G) (w : Nat → va_E) (fl : va_W) (bt : Nat → Int) (n : Nat) (st : PS) (g : Nat → Int) (hn2 : n ≤ 200) (hn7 : n ≤ 700) (hb : btOK bt) (h2 : w 2 = byA G bt) (hT : tkR G w bt n st) (h129 : w 129 = qdO G) (hI : Inv g) (hLg : kLog G w 3 g) (h10 : w 10 = chO G) (h11 : w 11 = liA G) (hD : kDrawn w g 0 (g 2).toNat) (hl0 : ∃ lf, w 130 = iA G 12 lf) (hr0 : ∃ rf, w 131 = iA G 12 rf) : KM l G yX7_readTest cX7_readTest 4 (some (FieldType.int)) 12 0 0 [.ref (kad G 129), vI 5] w fl (kMut (vI ((mkN ((tstM bt n (qG (pV g) bt n 1) st).2.2) (g 2).toNat : Nat) : Int)) fl (fun w1 => tkR G w1 bt n ((tstM bt n (qG (pV g) bt n 1) st).1) ∧ ((∃ lf, w1 130 = iA G 12 lf) ∧ ∃ rf, w1 131 = iA G 12 rf) ∧ ∀ j, (j ≠ 1 ∧ j ≠ 130 ∧ j ≠ 131) → w1 j = w j)) := by
  refine KM_of2 hls (by decide +kernel) rfl (lv0 := [(0, .ref (kad G 129)), (1, vI 5)]) rfl (Nat.le_of_ble_eq_true rfl) (fun p e R s m args below meth c Q hC hr hQ => ?_)
  have h0 := hI.c
  obtain ⟨lf0, hlf0⟩ := hl0
  obtain ⟨rf0, hrf0⟩ := hr0
  have hle0 := hT.le
  refine k_aload_n hC dX7_readTest_0 rfl 0 rfl ?_
  refine k_iload_n hC dX7_readTest_1 rfl 1 rfl ?_
  refine k_mutV hC (c_X7_readConjunction_1 l hls G hN w fl bt n st g hn2 hn7 hb h2 hT h129 hI hLg h10 h11 hD ⟨_, hlf0⟩ ⟨_, hrf0⟩) yy_X7_readConjunction wm_X7_30 (kl hN (by decide)) h129 rfl rfl rfl rfl (Nat.le_of_ble_eq_true rfl) (by decide) (by decide) ⟨by decide, by decide⟩ dX7_readTest_2 (fun w1 hp1 => ?_)
  obtain ⟨hT1, ⟨⟨lf1, hlf1⟩, rf1, hrf1⟩, hf1⟩ := hp1
  obtain ⟨st_2, est_2⟩ : ∃ z : PS, z = (conM bt n (qG (pV g) bt n 1) st).1 := ⟨_, rfl⟩
  rw [← est_2] at hT1
  refine k_istore_n hC [(2, vI ((mkN ((conM bt n (qG (pV g) bt n 1) st).2.2) (g 2).toNat : Nat) : Int)), (0, .ref (kad G 129)), (1, vI 5)] dX7_readTest_5 rfl (by decide) rfl ?_
  refine k_iconst hC dX7_readTest_6 ?_
  refine k_istore_n hC [(3, vI 0), (2, vI ((mkN ((conM bt n (qG (pV g) bt n 1) st).2.2) (g 2).toNat : Nat) : Int)), (0, .ref (kad G 129)), (1, vI 5)] dX7_readTest_7 rfl (by decide) rfl ?_
  have hG := endG (V := pV g) (bt := bt) (n := n) (w := 38) (c := -25) (F := conM bt n (qG (pV g) bt n 1)) (F1 := conM bt n (qF (pV g) bt n 1)) (r0 := conM bt n (qG (pV g) bt n 1) st) (r1 := conM bt n (qF (pV g) bt n 1) st) hn2 hle0 (Or.inr rfl) (gq_con (gq_qF (V := pV g) (bt := bt) (n := n) 1)) (rel_con (rel_qF 1)) (gq_con (gq_qF (V := pV g) (bt := bt) (n := n) 1) st) (rel_con (rel_qF 1) st)
  have loop2 : ∀ (nw : Nat) (k : Nat) (rr : QR) (st9 : PS) (lf : Nat → Int) (rf : Nat → Int) (wvw : Nat → va_E), (200 < nw + k) → (k ≤ 200) → (rr = cjN bt n 38 (-25) (conM bt n (qG (pV g) bt n 1)) k (conM bt n (qG (pV g) bt n 1) st)) → (st9 = rr.1) → (wvw 2 = bA G 700 (fun j => sb8 (bt j))) → (wvw 129 = .inr (7, [.ref (kad G 1), .ref (kad G 3), .ref (kad G 10), .ref (kad G 130), .ref (kad G 131)])) → (wvw 130 = iA G 12 lf) → (wvw 131 = iA G 12 rf) → (tkR G wvw bt n st9) → (kLog G wvw 3 g) → (kDrawn wvw g 0 ((g 2).toNat)) → ((∀ j, (j ≠ 1 ∧ j ≠ 130 ∧ j ≠ 131) → wvw j = w j)) → KW p l e R s m args below meth c 4 G Q wvw fl 0 0 8 [(3, vI (k : Int)), (2, vI ((mkN rr.2.2 (g 2).toNat : Nat) : Int)), (0, .ref (kad G 129)), (1, vI 5)] [] := by
    intro nw
    induction nw with
    | zero =>
      intro k rr st9 lf rf wvw hn_w hk9 hx hst9 hb9 h129q hlq hrq hTq hLq hDq hfrw
      exact absurd hn_w (by omega)
    | succ nw ihw =>
      intro k rr st9 lf rf wvw hn_w hk9 hx hst9 hb9 h129q hlq hrq hTq hLq hDq hfrw
      have h10q := (hfrw 10 (by omega)).trans h10
      have h11q := (hfrw 11 (by omega)).trans h11
      refine k_iload_n hC dX7_readTest_8 rfl 0 rfl ?_
      refine k_sipush hC dX7_readTest_9 (by decide) ?_
      refine k_icmp_ge hC 48 dX7_readTest_12 rfl (by omega) (by omega) (fun c_12 => ?_) (fun c_12 => ?_)
      · have hwn : ¬ isW bt n 38 st9 := fun q => by have := hG.2 k (by rw [← hx, ← hst9]; exact q); omega
        refine k_iload_n hC dX7_readTest_48 rfl 1 rfl ?_
        have hfin : rr = tstM bt n (qG (pV g) bt n 1) st := by rw [hx]; exact cjN_eq (by rw [← hx, ← hst9]; exact hwn) hG.1
        subst hQ
        exact k_iret hC hr ⟨by decide, by decide⟩ (⟨congrArg (fun z => some (vI ((z : Nat) : Int))) (by rw [← hfin]), rfl, (by have e : st9 = (tstM bt n (qG (pV g) bt n 1) st).1 := (by rw [← hfin]; exact hst9); rw [← e]; exact hTq), ⟨⟨_, hlq⟩, _, hrq⟩, fun j hj => hfrw j (by omega)⟩) dX7_readTest_49
      · refine k_aload_n hC dX7_readTest_15 rfl 2 rfl ?_
        refine k_get hC fd_X7_18 (kl hN (by decide)) h129q rfl dX7_readTest_16 ?_
        refine k_ldcs hC (List.mem_of_getElem? (i := 40) rfl) dX7_readTest_19 ?_
        have hTco_3 := hTq
        obtain ⟨cno_3, eao_3, kdo_3, nmo_3, sao_3, nxo_3, h1o_3, -⟩ := hTco_3
        refine k_pureV hC (c_X10_isWord l hls G hN wvw fl bt n st9 38 (by decide) hn7 hb hb9 hTq) yy_X10_isWord wm_X7_36 (kl hN (by decide)) h1o_3 rfl rfl rfl rfl (Nat.le_of_ble_eq_true rfl) (by decide) (by decide) ⟨by decide, by decide⟩ dX7_readTest_21 ?_
        obtain ⟨z_4, ez_4, hz_4⟩ := selI_c (isW bt n 38 st9)
        refine k_topv (vI z_4) (by rw [ez_4]) ?_
        refine k_if_eq hC 48 dX7_readTest_24 rfl (by omega) (fun c_24 => ?_) (fun c_24 => ?_)
        · have hwn : ¬ isW bt n 38 st9 := (hz_4.resolve_left (fun q1 => by omega)).2
          refine k_iload_n hC dX7_readTest_48 rfl 1 rfl ?_
          have hfin : rr = tstM bt n (qG (pV g) bt n 1) st := by rw [hx]; exact cjN_eq (by rw [← hx, ← hst9]; exact hwn) hG.1
          subst hQ
          exact k_iret hC hr ⟨by decide, by decide⟩ (⟨congrArg (fun z => some (vI ((z : Nat) : Int))) (by rw [← hfin]), rfl, (by have e : st9 = (tstM bt n (qG (pV g) bt n 1) st).1 := (by rw [← hfin]; exact hst9); rw [← e]; exact hTq), ⟨⟨_, hlq⟩, _, hrq⟩, fun j hj => hfrw j (by omega)⟩) dX7_readTest_49
        · have hwr : isW bt n 38 rr.1 := by rw [← hst9]; exact (hz_4.resolve_right (fun q1 => by omega)).2
          refine k_aload_n hC dX7_readTest_27 rfl 2 rfl ?_
          refine k_get hC fd_X7_18 (kl hN (by decide)) h129q rfl dX7_readTest_28 ?_
          obtain ⟨cn5, ea5, kd5, nm5, sa5, p95, hp95, h15, hadv5⟩ := tk_open hTq
          refine k_muvV hC (c_X10_advance l hls G hN wvw fl bt n p95 cn5 st9.1 ea5 kd5 nm5 sa5 hn7 hp95 hb hb9 h15) yy_X10_advance wm_X7_42 (kl hN (by decide)) h15 rfl rfl rfl rfl (Nat.le_of_ble_eq_true rfl) (by decide) (by decide) ⟨by decide, by decide⟩ dX7_readTest_31 (fun w5 hp5 => ?_)
          obtain ⟨hq5, hf5⟩ := hp5
          have hT5 := hadv5 _ hq5
          obtain ⟨st_6, est_6⟩ : ∃ z : PS, z = adP bt n st9 := ⟨_, rfl⟩
          rw [← est_6] at hT5
          refine k_iload_n hC dX7_readTest_34 rfl 1 rfl ?_
          refine k_aload_n hC dX7_readTest_35 rfl 2 rfl ?_
          refine k_iload_n hC dX7_readTest_36 rfl 3 rfl ?_
          have h_8 : w5 130 = iA G 12 lf := (hf5 130 (by decide)).trans hlq
          have h_9 : w5 131 = iA G 12 rf := (hf5 131 (by decide)).trans hrq
          have h_10 : w5 2 = bA G 700 (fun j => sb8 (bt j)) := (hf5 2 (by decide)).trans hb9
          have h_11 : w5 129 = .inr (7, [.ref (kad G 1), .ref (kad G 3), .ref (kad G 10), .ref (kad G 130), .ref (kad G 131)]) := (hf5 129 (by decide)).trans h129q
          have hB_12 : kLog G w5 3 g := hLq.fr (fun j q1 q2 => (hf5 j (by omega)))
          have h_13 : w5 10 = .inr (0, [.ref (kad G 11), .ref (kad G 12), .ref (kad G 13), .ref (kad G 14), .ref (kad G 15), .ref (kad G 16)]) := (hf5 10 (by decide)).trans h10q
          have h_14 : w5 11 = rA G 4 12 (fun j => some (kad G (20 + j))) := (hf5 11 (by decide)).trans h11q
          have hB_15 : kDrawn w5 g 0 ((g 2).toNat) := hDq.fr (fun j q1 q2 => (hf5 j (by omega)))
          refine k_mutV hC (c_X7_readConjunction_1 l hls G hN w5 fl bt n st_6 g hn2 hn7 hb h_10 hT5 h_11 hI hB_12 h_13 h_14 hB_15 ⟨_, h_8⟩ ⟨_, h_9⟩) yy_X7_readConjunction wm_X7_30 (kl hN (by decide)) h_11 rfl rfl rfl rfl (Nat.le_of_ble_eq_true rfl) (by decide) (by decide) ⟨by decide, by decide⟩ dX7_readTest_37 (fun w7 hp7 => ?_)
          obtain ⟨hT7, ⟨⟨lf7, hlf7⟩, rf7, hrf7⟩, hf7⟩ := hp7
          obtain ⟨st_16, est_16⟩ : ∃ z : PS, z = (conM bt n (qG (pV g) bt n 1) st_6).1 := ⟨_, rfl⟩
          rw [← est_16] at hT7
          refine k_iorN hC (a := mkN rr.2.2 (g 2).toNat) (b := mkN ((conM bt n (qG (pV g) bt n 1) st_6).2.2) (g 2).toNat) dX7_readTest_40 ?_
          refine k_topv (vI ((mkN ((and2 (-25) rr (conM bt n (qG (pV g) bt n 1) st_6)).2.2) (g 2).toNat : Nat) : Int)) (congrArg (fun q : Nat => vI (q : Int)) ((mkN_or _ _ _).trans (mkN_c _ (fun i _ => (if_neg (by decide)).symm)))) ?_
          refine k_istore_n hC [(2, vI ((mkN ((and2 (-25) rr (conM bt n (qG (pV g) bt n 1) st_6)).2.2) (g 2).toNat : Nat) : Int)), (3, vI (k : Int)), (0, .ref (kad G 129)), (1, vI 5)] dX7_readTest_41 rfl (by decide) rfl ?_
          refine k_iinc hC (y := (k : Int) + 1) [(3, vI ((k : Int) + 1)), (2, vI ((mkN ((and2 (-25) rr (conM bt n (qG (pV g) bt n 1) st_6)).2.2) (g 2).toNat : Nat) : Int)), (0, .ref (kad G 129)), (1, vI 5)] (j := 1) dX7_readTest_42 rfl (by omega) (by decide) rfl ?_
          refine k_goto hC 8 dX7_readTest_45 rfl ?_
          refine k_lvs (ls := [0, 1, 2, 3]) [(3, vI ((k + 1 : Nat) : Int)), (2, vI ((mkN ((and2 (-25) rr (conM bt n (qG (pV g) bt n 1) st_6)).2.2) (g 2).toNat : Nat) : Int)), (0, .ref (kad G 129)), (1, vI 5)] (by simp only [lv_pick]; rfl) ?_
          have h_17 : w7 2 = bA G 700 (fun j => sb8 (bt j)) := (hf7 2 (by decide)).trans h_10
          have h_18 : w7 129 = .inr (7, [.ref (kad G 1), .ref (kad G 3), .ref (kad G 10), .ref (kad G 130), .ref (kad G 131)]) := (hf7 129 (by decide)).trans h_11
          have hB_19 : kLog G w7 3 g := hB_12.fr (fun j q1 q2 => (hf7 j (by omega)))
          have hB_20 : kDrawn w7 g 0 ((g 2).toNat) := hB_15.fr (fun j q1 q2 => (hf7 j (by omega)))
          exact ihw (k + 1) (and2 (-25) rr (conM bt n (qG (pV g) bt n 1) st_6)) st_16 lf7 rf7 w7 (by omega) (by omega) (by rw [cjN_go k _ (by rw [← hx]; exact hwr), ← hx, est_6, hst9]) est_16 h_17 h_18 hlf7 hrf7 hT7 hB_19 hB_20 (fun j hj => (hf7 j (by omega)).trans ((hf5 j (by omega)).trans (hfrw j (by omega))))
  refine k_lvs (ls := [0, 1, 2, 3]) [(3, vI ((0 : Nat) : Int)), (2, vI ((mkN ((conM bt n (qG (pV g) bt n 1) st).2.2) (g 2).toNat : Nat) : Int)), (0, .ref (kad G 129)), (1, vI 5)] (by simp only [lv_pick]; rfl) ?_
  have h_21 : w1 2 = bA G 700 (fun j => sb8 (bt j)) := (hf1 2 (by decide)).trans h2
  have h_22 : w1 129 = .inr (7, [.ref (kad G 1), .ref (kad G 3), .ref (kad G 10), .ref (kad G 130), .ref (kad G 131)]) := (hf1 129 (by decide)).trans h129
  have hB_23 : kLog G w1 3 g := hLg.fr (fun j q1 q2 => (hf1 j (by omega)))
  have hB_24 : kDrawn w1 g 0 ((g 2).toNat) := hD.fr (fun j q1 q2 => (hf1 j (by omega)))
  exact loop2 201 0 (conM bt n (qG (pV g) bt n 1) st) st_2 lf1 rf1 w1 (by omega) (by omega) rfl est_2 h_21 h_22 hlf1 hrf1 hT1 hB_23 hB_24 (fun j hj => hf1 j (by omega))

set_option maxRecDepth 100000 in
set_option maxHeartbeats 4000000 in
theorem c_X7_readFactor_2 (l : Launch) (hls : l.stackTraces = false) (G : kG) (hN : 133 ≤ kN G) (w : Nat → va_E) (fl : va_W) (bt : Nat → Int) (n : Nat) (st : PS) (g : Nat → Int) (hn2 : n ≤ 200) (hn7 : n ≤ 700) (hb : btOK bt) (h2 : w 2 = byA G bt) (hT : tkR G w bt n st) (h129 : w 129 = qdO G) (hI : Inv g) (hLg : kLog G w 3 g) (h10 : w 10 = chO G) (h11 : w 11 = liA G) (hD : kDrawn w g 0 (g 2).toNat) (hl0 : ∃ lf, w 130 = iA G 12 lf) (hr0 : ∃ rf, w 131 = iA G 12 rf) : KM l G yX7_readFactor cX7_readFactor 4 (some (FieldType.int)) 13 0 0 [.ref (kad G 129), vI 4] w fl (kMut (vI ((mkN ((qG (pV g) bt n 2 st).2.2) (g 2).toNat : Nat) : Int)) fl (fun w1 => tkR G w1 bt n ((qG (pV g) bt n 2 st).1) ∧ ((∃ lf, w1 130 = iA G 12 lf) ∧ ∃ rf, w1 131 = iA G 12 rf) ∧ ∀ j, (j ≠ 1 ∧ j ≠ 130 ∧ j ≠ 131) → w1 j = w j)) := by
  refine KM_of2 hls (by decide +kernel) rfl (lv0 := [(0, .ref (kad G 129)), (1, vI 4)]) rfl (Nat.le_of_ble_eq_true rfl) (fun p e R s m args below meth c Q hC hr hQ => ?_)
  have h0 := hI.c
  obtain ⟨lf0, hlf0⟩ := hl0
  obtain ⟨rf0, hrf0⟩ := hr0
  have hle0 := hT.le
  refine k_aload_n hC dX7_readFactor_0 rfl 0 rfl ?_
  refine k_get hC fd_X7_18 (kl hN (by decide)) h129 rfl dX7_readFactor_1 ?_
  refine k_ldcs hC (List.mem_of_getElem? (i := 31) rfl) dX7_readFactor_4 ?_
  have hTco_1 := hT
  obtain ⟨cno_1, eao_1, kdo_1, nmo_1, sao_1, nxo_1, h1o_1, -⟩ := hTco_1
  refine k_pureV hC (c_X10_isWord l hls G hN w fl bt n st 31 (by decide) hn7 hb h2 hT) yy_X10_isWord wm_X7_36 (kl hN (by decide)) h1o_1 rfl rfl rfl rfl (Nat.le_of_ble_eq_true rfl) (by decide) (by decide) ⟨by decide, by decide⟩ dX7_readFactor_6 ?_
  obtain ⟨z_2, ez_2, hz_2⟩ := selI_c (isW bt n 31 st)
  refine k_topv (vI z_2) (by rw [ez_2]) ?_
  refine k_istore_n hC [(2, vI z_2), (0, .ref (kad G 129)), (1, vI 4)] dX7_readFactor_9 rfl (by decide) rfl ?_
  refine k_iload_n hC dX7_readFactor_10 rfl 0 rfl ?_
  refine k_if_ne hC 31 dX7_readFactor_11 rfl (by omega) (fun c_11 => ?_) (fun c_11 => ?_)
  · have hw31 : isW bt n 31 st := (hz_2.resolve_right (fun q1 => by omega)).2
    refine k_iload_n hC dX7_readFactor_31 rfl 2 rfl ?_
    refine k_bipush hC dX7_readFactor_32 (by decide) ?_
    refine k_icmp_lt hC 47 dX7_readFactor_34 rfl (by omega) (by omega) (fun c_34 => ?_) (fun c_34 => absurd c_34 (by omega))
    refine k_aload_n hC dX7_readFactor_47 rfl 1 rfl ?_
    refine k_get hC fd_X7_18 (kl hN (by decide)) h129 rfl dX7_readFactor_48 ?_
    obtain ⟨cn3, ea3, kd3, nm3, sa3, p93, hp93, h13, hadv3⟩ := tk_open hT
    refine k_muvV hC (c_X10_advance l hls G hN w fl bt n p93 cn3 st.1 ea3 kd3 nm3 sa3 hn7 hp93 hb h2 h13) yy_X10_advance wm_X7_42 (kl hN (by decide)) h13 rfl rfl rfl rfl (Nat.le_of_ble_eq_true rfl) (by decide) (by decide) ⟨by decide, by decide⟩ dX7_readFactor_51 (fun w3 hp3 => ?_)
    obtain ⟨hq3, hf3⟩ := hp3
    have hT3 := hadv3 _ hq3
    obtain ⟨st_4, est_4⟩ : ∃ z : PS, z = adP bt n st := ⟨_, rfl⟩
    rw [← est_4] at hT3
    refine k_iload_n hC dX7_readFactor_54 rfl 0 rfl ?_
    refine k_if_eq hC 82 dX7_readFactor_55 rfl (by omega) (fun c_55 => absurd c_55 (by omega)) (fun c_55 => ?_)
    refine k_iconst hC dX7_readFactor_58 ?_
    refine k_aload_n hC dX7_readFactor_59 rfl 1 rfl ?_
    have h_5 : w3 129 = .inr (7, [.ref (kad G 1), .ref (kad G 3), .ref (kad G 10), .ref (kad G 130), .ref (kad G 131)]) := (hf3 129 (by decide)).trans h129
    refine k_get hC fd_X7_22 (kl hN (by decide)) h_5 rfl dX7_readFactor_60 ?_
    have hB_6 : kLog G w3 3 g := hLg.fr (fun j q1 q2 => (hf3 j (by omega)))
    refine k_get hC fd_X7_64 (kl hN (by decide)) hB_6.1 rfl dX7_readFactor_63 ?_
    refine k_topv (vI (((g 2).toNat : Int))) (congrArg vI (by omega)) ?_
    refine k_ishl1 hC (n := (((g 2).toNat : Int)).toNat) (by omega) dX7_readFactor_66 ?_
    refine k_iconst hC dX7_readFactor_67 ?_
    refine k_isub hC dX7_readFactor_68 ?_
    refine k_istore_n hC [(3, vI (((2 ^ ((((g 2).toNat : Int)).toNat) : Nat) : Int) - 1)), (2, vI z_2), (0, .ref (kad G 129)), (1, vI 4)] dX7_readFactor_69 rfl (by decide) rfl ?_
    refine k_iload_n hC dX7_readFactor_70 rfl 0 rfl ?_
    refine k_aload_n hC dX7_readFactor_71 rfl 2 rfl ?_
    refine k_iload_n hC dX7_readFactor_72 rfl 3 rfl ?_
    refine k_iconst hC dX7_readFactor_73 ?_
    refine k_iadd hC dX7_readFactor_74 ?_
    refine k_topv (vI 5) (congrArg vI (by decide)) ?_
    have h_8 : w3 130 = iA G 12 lf0 := (hf3 130 (by decide)).trans hlf0
    have h_9 : w3 131 = iA G 12 rf0 := (hf3 131 (by decide)).trans hrf0
    have h_10 : w3 2 = bA G 700 (fun j => sb8 (bt j)) := (hf3 2 (by decide)).trans h2
    have h_11 : w3 10 = .inr (0, [.ref (kad G 11), .ref (kad G 12), .ref (kad G 13), .ref (kad G 14), .ref (kad G 15), .ref (kad G 16)]) := (hf3 10 (by decide)).trans h10
    have h_12 : w3 11 = rA G 4 12 (fun j => some (kad G (20 + j))) := (hf3 11 (by decide)).trans h11
    have hB_13 : kDrawn w3 g 0 ((g 2).toNat) := hD.fr (fun j q1 q2 => (hf3 j (by omega)))
    refine k_mutV hC (c_X7_readFactor_1 l hls G hN w3 fl bt n st_4 g hn2 hn7 hb h_10 hT3 h_5 hI hB_6 h_11 h_12 hB_13 ⟨_, h_8⟩ ⟨_, h_9⟩) yy_X7_readFactor wm_X7_45 (kl hN (by decide)) h_5 rfl rfl rfl rfl (Nat.le_of_ble_eq_true rfl) (by decide) (by decide) ⟨by decide, by decide⟩ dX7_readFactor_75 (fun w7 hp7 => ?_)
    obtain ⟨hT7, ⟨⟨lf7, hlf7⟩, rf7, hrf7⟩, hf7⟩ := hp7
    obtain ⟨st_14, est_14⟩ : ∃ z : PS, z = (qG (pV g) bt n 1 st_4).1 := ⟨_, rfl⟩
    rw [← est_14] at hT7
    refine k_iconst hC dX7_readFactor_78 ?_
    refine k_inotN hC (a := mkN ((qG (pV g) bt n 1 st_4).2.2) (g 2).toNat) (mkN_12 _ (by omega)) dX7_readFactor_79 ?_
    refine k_iallN hC (a := mkN ((qG (pV g) bt n 1 st_4).2.2) (g 2).toNat) (n := (g 2).toNat) (by omega) (mkN_12 _ (by omega)) (mkN_b _ _) dX7_readFactor_80 ?_
    subst hQ
    exact k_iret hC hr ⟨by decide, by decide⟩ (⟨congrArg (fun z => some (vI ((z : Nat) : Int))) (by rw [qG_n hw31, ← est_4]; have h9 := mkN_not (qG (pV g) bt n 1 st_4).2.2 (g 2).toNat; show mkN (fun i => !(qG (pV g) bt n 1 st_4).2.2 i) (g 2).toNat = _; omega), rfl, (by have e : st_14 = (qG (pV g) bt n 2 st).1 := (by rw [qG_n hw31]; show st_14 = (qG (pV g) bt n 1 (adP bt n st)).1; rw [← est_4]; exact est_14); rw [← e]; exact hT7), ⟨⟨_, hlf7⟩, _, hrf7⟩, fun j hj => (hf7 j (by omega)).trans (hf3 j (by omega))⟩) dX7_readFactor_81
  · have hw31 : ¬ isW bt n 31 st := (hz_2.resolve_left (fun q1 => by omega)).2
    refine k_aload_n hC dX7_readFactor_14 rfl 1 rfl ?_
    refine k_get hC fd_X7_18 (kl hN (by decide)) h129 rfl dX7_readFactor_15 ?_
    refine k_bipush hC dX7_readFactor_18 (by decide) ?_
    refine k_pureV hC (c_X10_isSign l hls G hN w fl bt n st 40 (by omega) hn7 hb h2 hT) yy_X10_isSign wm_X7_52 (kl hN (by decide)) h1o_1 rfl rfl rfl rfl (Nat.le_of_ble_eq_true rfl) (by decide) (by decide) ⟨by decide, by decide⟩ dX7_readFactor_20 ?_
    obtain ⟨z_15, ez_15, hz_15⟩ := selI_c (isS bt n 40 st)
    refine k_topv (vI z_15) (by rw [ez_15]) ?_
    refine k_if_ne hC 31 dX7_readFactor_23 rfl (by omega) (fun c_23 => ?_) (fun c_23 => ?_)
    · have hw40 : isS bt n 40 st := (hz_15.resolve_right (fun q1 => by omega)).2
      refine k_iload_n hC dX7_readFactor_31 rfl 2 rfl ?_
      refine k_bipush hC dX7_readFactor_32 (by decide) ?_
      refine k_icmp_lt hC 47 dX7_readFactor_34 rfl (by omega) (by omega) (fun c_34 => ?_) (fun c_34 => absurd c_34 (by omega))
      refine k_aload_n hC dX7_readFactor_47 rfl 1 rfl ?_
      refine k_get hC fd_X7_18 (kl hN (by decide)) h129 rfl dX7_readFactor_48 ?_
      obtain ⟨cn16, ea16, kd16, nm16, sa16, p916, hp916, h116, hadv16⟩ := tk_open hT
      refine k_muvV hC (c_X10_advance l hls G hN w fl bt n p916 cn16 st.1 ea16 kd16 nm16 sa16 hn7 hp916 hb h2 h116) yy_X10_advance wm_X7_42 (kl hN (by decide)) h116 rfl rfl rfl rfl (Nat.le_of_ble_eq_true rfl) (by decide) (by decide) ⟨by decide, by decide⟩ dX7_readFactor_51 (fun w16 hp16 => ?_)
      obtain ⟨hq16, hf16⟩ := hp16
      have hT16 := hadv16 _ hq16
      obtain ⟨st_17, est_17⟩ : ∃ z : PS, z = adP bt n st := ⟨_, rfl⟩
      rw [← est_17] at hT16
      refine k_iload_n hC dX7_readFactor_54 rfl 0 rfl ?_
      refine k_if_eq hC 82 dX7_readFactor_55 rfl (by omega) (fun c_55 => ?_) (fun c_55 => absurd c_55 (by omega))
      refine k_aload_n hC dX7_readFactor_82 rfl 1 rfl ?_
      refine k_iload_n hC dX7_readFactor_83 rfl 2 rfl ?_
      refine k_iconst hC dX7_readFactor_84 ?_
      refine k_iadd hC dX7_readFactor_85 ?_
      refine k_topv (vI 5) (congrArg vI (by decide)) ?_
      have h_19 : w16 130 = iA G 12 lf0 := (hf16 130 (by decide)).trans hlf0
      have h_20 : w16 131 = iA G 12 rf0 := (hf16 131 (by decide)).trans hrf0
      have h_21 : w16 2 = bA G 700 (fun j => sb8 (bt j)) := (hf16 2 (by decide)).trans h2
      have h_22 : w16 129 = .inr (7, [.ref (kad G 1), .ref (kad G 3), .ref (kad G 10), .ref (kad G 130), .ref (kad G 131)]) := (hf16 129 (by decide)).trans h129
      have hB_23 : kLog G w16 3 g := hLg.fr (fun j q1 q2 => (hf16 j (by omega)))
      have h_24 : w16 10 = .inr (0, [.ref (kad G 11), .ref (kad G 12), .ref (kad G 13), .ref (kad G 14), .ref (kad G 15), .ref (kad G 16)]) := (hf16 10 (by decide)).trans h10
      have h_25 : w16 11 = rA G 4 12 (fun j => some (kad G (20 + j))) := (hf16 11 (by decide)).trans h11
      have hB_26 : kDrawn w16 g 0 ((g 2).toNat) := hD.fr (fun j q1 q2 => (hf16 j (by omega)))
      refine k_mutV hC (c_X7_readTest_1 l hls G hN w16 fl bt n st_17 g hn2 hn7 hb h_21 hT16 h_22 hI hB_23 h_24 h_25 hB_26 ⟨_, h_19⟩ ⟨_, h_20⟩) yy_X7_readTest wm_X7_70 (kl hN (by decide)) h_22 rfl rfl rfl rfl (Nat.le_of_ble_eq_true rfl) (by decide) (by decide) ⟨by decide, by decide⟩ dX7_readFactor_86 (fun w18 hp18 => ?_)
      obtain ⟨hT18, ⟨⟨lf18, hlf18⟩, rf18, hrf18⟩, hf18⟩ := hp18
      obtain ⟨st_27, est_27⟩ : ∃ z : PS, z = (tstM bt n (qG (pV g) bt n 1) st_17).1 := ⟨_, rfl⟩
      rw [← est_27] at hT18
      refine k_istore_n hC [(3, vI ((mkN ((tstM bt n (qG (pV g) bt n 1) st_17).2.2) (g 2).toNat : Nat) : Int)), (2, vI z_2), (0, .ref (kad G 129)), (1, vI 4)] dX7_readFactor_89 rfl (by decide) rfl ?_
      refine k_aload_n hC dX7_readFactor_90 rfl 2 rfl ?_
      have h_28 : w18 129 = .inr (7, [.ref (kad G 1), .ref (kad G 3), .ref (kad G 10), .ref (kad G 130), .ref (kad G 131)]) := (hf18 129 (by decide)).trans h_22
      refine k_get hC fd_X7_18 (kl hN (by decide)) h_28 rfl dX7_readFactor_91 ?_
      refine k_bipush hC dX7_readFactor_94 (by decide) ?_
      have hTco_30 := hT18
      obtain ⟨cno_30, eao_30, kdo_30, nmo_30, sao_30, nxo_30, h1o_30, -⟩ := hTco_30
      have h_31 : w18 2 = bA G 700 (fun j => sb8 (bt j)) := (hf18 2 (by decide)).trans h_21
      refine k_muvV hC (c_X10_needSign l hls G hN w18 fl bt n st_27 41 (by omega) hn7 hb h_31 hT18) yy_X10_needSign wm_X7_73 (kl hN (by decide)) h1o_30 rfl rfl rfl rfl (Nat.le_of_ble_eq_true rfl) (by decide) (by decide) ⟨by decide, by decide⟩ dX7_readFactor_96 (fun w29 hp29 => ?_)
      obtain ⟨hT29, hf29⟩ := hp29
      obtain ⟨st_32, est_32⟩ : ∃ z : PS, z = nsP bt n 41 st_27 := ⟨_, rfl⟩
      rw [← est_32] at hT29
      refine k_iload_n hC dX7_readFactor_99 rfl 0 rfl ?_
      have h_33 : w29 130 = iA G 12 lf18 := (hf29 130 (by decide)).trans hlf18
      have h_34 : w29 131 = iA G 12 rf18 := (hf29 131 (by decide)).trans hrf18
      subst hQ
      exact k_iret hC hr ⟨by decide, by decide⟩ (⟨congrArg (fun z => some (vI ((z : Nat) : Int))) (by rw [qG_p hw31 hw40, ← est_17]; rfl), rfl, (by have e : st_32 = (qG (pV g) bt n 2 st).1 := (by rw [qG_p hw31 hw40]; show st_32 = nsP bt n 41 (tstM bt n (qG (pV g) bt n 1) (adP bt n st)).1; rw [← est_17, ← est_27]; exact est_32); rw [← e]; exact hT29), ⟨⟨_, h_33⟩, _, h_34⟩, fun j hj => (hf29 j (by omega)).trans ((hf18 j (by omega)).trans (hf16 j (by omega)))⟩) dX7_readFactor_100
    · have hw40 : ¬ isS bt n 40 st := (hz_15.resolve_left (fun q1 => by omega)).2
      have hqG := qG_c (V := pV g) 2 hw31 hw40
      refine k_aload_n hC dX7_readFactor_26 rfl 1 rfl ?_
      refine k_mutV hC (c_X7_readComparison l hls G hN w fl bt n st g hn7 hb h2 hT h129 hI hLg h10 h11 hD ⟨_, hlf0⟩ ⟨_, hrf0⟩) yy_X7_readComparison wm_X7_56 (kl hN (by decide)) h129 rfl rfl rfl rfl (Nat.le_of_ble_eq_true rfl) (by decide) (by decide) ⟨by decide, by decide⟩ dX7_readFactor_27 (fun w35 hp35 => ?_)
      obtain ⟨hT35, ⟨⟨lf35, hlf35⟩, rf35, hrf35⟩, hf35⟩ := hp35
      obtain ⟨st_36, est_36⟩ : ∃ z : PS, z = (cmpG (pV g) bt n st).1 := ⟨_, rfl⟩
      rw [← est_36] at hT35
      subst hQ
      exact k_iret hC hr ⟨by decide, by decide⟩ (⟨congrArg (fun z => some (vI ((z : Nat) : Int))) (by rw [hqG]; rfl), rfl, (by have e : st_36 = (qG (pV g) bt n 2 st).1 := (by rw [hqG]; exact est_36); rw [← e]; exact hT35), ⟨⟨_, hlf35⟩, _, hrf35⟩, fun j hj => hf35 j (by omega)⟩) dX7_readFactor_30

set_option maxRecDepth 100000 in
set_option maxHeartbeats 4000000 in
theorem c_X7_readConjunction_2 (l : Launch) (hls : l.stackTraces = false) (G : kG) (hN : 133 ≤ kN G) (w : Nat → va_E) (fl : va_W) (bt : Nat → Int) (n : Nat) (st : PS) (g : Nat → Int) (hn2 : n ≤ 200) (hn7 : n ≤ 700) (hb : btOK bt) (h2 : w 2 = byA G bt) (hT : tkR G w bt n st) (h129 : w 129 = qdO G) (hI : Inv g) (hLg : kLog G w 3 g) (h10 : w 10 = chO G) (h11 : w 11 = liA G) (hD : kDrawn w g 0 (g 2).toNat) (hl0 : ∃ lf, w 130 = iA G 12 lf) (hr0 : ∃ rf, w 131 = iA G 12 rf) : KM l G yX7_readConjunction cX7_readConjunction 4 (some (FieldType.int)) 14 0 0 [.ref (kad G 129), vI 4] w fl (kMut (vI ((mkN ((conM bt n (qG (pV g) bt n 2) st).2.2) (g 2).toNat : Nat) : Int)) fl (fun w1 => tkR G w1 bt n ((conM bt n (qG (pV g) bt n 2) st).1) ∧ ((∃ lf, w1 130 = iA G 12 lf) ∧ ∃ rf, w1 131 = iA G 12 rf) ∧ ∀ j, (j ≠ 1 ∧ j ≠ 130 ∧ j ≠ 131) → w1 j = w j)) := by
  refine KM_of2 hls (by decide +kernel) rfl (lv0 := [(0, .ref (kad G 129)), (1, vI 4)]) rfl (Nat.le_of_ble_eq_true rfl) (fun p e R s m args below meth c Q hC hr hQ => ?_)
  have h0 := hI.c
  obtain ⟨lf0, hlf0⟩ := hl0
  obtain ⟨rf0, hrf0⟩ := hr0
  have hle0 := hT.le
  refine k_aload_n hC dX7_readConjunction_0 rfl 0 rfl ?_
  refine k_iload_n hC dX7_readConjunction_1 rfl 1 rfl ?_
  refine k_mutV hC (c_X7_readFactor_2 l hls G hN w fl bt n st g hn2 hn7 hb h2 hT h129 hI hLg h10 h11 hD ⟨_, hlf0⟩ ⟨_, hrf0⟩) yy_X7_readFactor wm_X7_45 (kl hN (by decide)) h129 rfl rfl rfl rfl (Nat.le_of_ble_eq_true rfl) (by decide) (by decide) ⟨by decide, by decide⟩ dX7_readConjunction_2 (fun w1 hp1 => ?_)
  obtain ⟨hT1, ⟨⟨lf1, hlf1⟩, rf1, hrf1⟩, hf1⟩ := hp1
  obtain ⟨st_2, est_2⟩ : ∃ z : PS, z = (qG (pV g) bt n 2 st).1 := ⟨_, rfl⟩
  rw [← est_2] at hT1
  refine k_istore_n hC [(2, vI ((mkN ((qG (pV g) bt n 2 st).2.2) (g 2).toNat : Nat) : Int)), (0, .ref (kad G 129)), (1, vI 4)] dX7_readConjunction_5 rfl (by decide) rfl ?_
  refine k_iconst hC dX7_readConjunction_6 ?_
  refine k_istore_n hC [(3, vI 0), (2, vI ((mkN ((qG (pV g) bt n 2 st).2.2) (g 2).toNat : Nat) : Int)), (0, .ref (kad G 129)), (1, vI 4)] dX7_readConjunction_7 rfl (by decide) rfl ?_
  have hG := endG (V := pV g) (bt := bt) (n := n) (w := 37) (c := -24) (F := qG (pV g) bt n 2) (F1 := qF (pV g) bt n 2) (r0 := qG (pV g) bt n 2 st) (r1 := qF (pV g) bt n 2 st) hn2 hle0 (Or.inl rfl) (gq_qF (V := pV g) (bt := bt) (n := n) 2) (rel_qF 2) (gq_qF (V := pV g) (bt := bt) (n := n) 2 st) (rel_qF 2 st)
  have loop2 : ∀ (nw : Nat) (k : Nat) (rr : QR) (st9 : PS) (lf : Nat → Int) (rf : Nat → Int) (wvw : Nat → va_E), (200 < nw + k) → (k ≤ 200) → (rr = cjN bt n 37 (-24) (qG (pV g) bt n 2) k (qG (pV g) bt n 2 st)) → (st9 = rr.1) → (wvw 2 = bA G 700 (fun j => sb8 (bt j))) → (wvw 129 = .inr (7, [.ref (kad G 1), .ref (kad G 3), .ref (kad G 10), .ref (kad G 130), .ref (kad G 131)])) → (wvw 130 = iA G 12 lf) → (wvw 131 = iA G 12 rf) → (tkR G wvw bt n st9) → (kLog G wvw 3 g) → (kDrawn wvw g 0 ((g 2).toNat)) → ((∀ j, (j ≠ 1 ∧ j ≠ 130 ∧ j ≠ 131) → wvw j = w j)) → KW p l e R s m args below meth c 4 G Q wvw fl 0 0 8 [(3, vI (k : Int)), (2, vI ((mkN rr.2.2 (g 2).toNat : Nat) : Int)), (0, .ref (kad G 129)), (1, vI 4)] [] := by
    intro nw
    induction nw with
    | zero =>
      intro k rr st9 lf rf wvw hn_w hk9 hx hst9 hb9 h129q hlq hrq hTq hLq hDq hfrw
      exact absurd hn_w (by omega)
    | succ nw ihw =>
      intro k rr st9 lf rf wvw hn_w hk9 hx hst9 hb9 h129q hlq hrq hTq hLq hDq hfrw
      have h10q := (hfrw 10 (by omega)).trans h10
      have h11q := (hfrw 11 (by omega)).trans h11
      refine k_iload_n hC dX7_readConjunction_8 rfl 0 rfl ?_
      refine k_sipush hC dX7_readConjunction_9 (by decide) ?_
      refine k_icmp_ge hC 48 dX7_readConjunction_12 rfl (by omega) (by omega) (fun c_12 => ?_) (fun c_12 => ?_)
      · have hwn : ¬ isW bt n 37 st9 := fun q => by have := hG.2 k (by rw [← hx, ← hst9]; exact q); omega
        refine k_iload_n hC dX7_readConjunction_48 rfl 1 rfl ?_
        have hfin : rr = conM bt n (qG (pV g) bt n 2) st := by rw [hx]; exact cjN_eq (by rw [← hx, ← hst9]; exact hwn) hG.1
        subst hQ
        exact k_iret hC hr ⟨by decide, by decide⟩ (⟨congrArg (fun z => some (vI ((z : Nat) : Int))) (by rw [← hfin]), rfl, (by have e : st9 = (conM bt n (qG (pV g) bt n 2) st).1 := (by rw [← hfin]; exact hst9); rw [← e]; exact hTq), ⟨⟨_, hlq⟩, _, hrq⟩, fun j hj => hfrw j (by omega)⟩) dX7_readConjunction_49
      · refine k_aload_n hC dX7_readConjunction_15 rfl 2 rfl ?_
        refine k_get hC fd_X7_18 (kl hN (by decide)) h129q rfl dX7_readConjunction_16 ?_
        refine k_ldcs hC (List.mem_of_getElem? (i := 39) rfl) dX7_readConjunction_19 ?_
        have hTco_3 := hTq
        obtain ⟨cno_3, eao_3, kdo_3, nmo_3, sao_3, nxo_3, h1o_3, -⟩ := hTco_3
        refine k_pureV hC (c_X10_isWord l hls G hN wvw fl bt n st9 37 (by decide) hn7 hb hb9 hTq) yy_X10_isWord wm_X7_36 (kl hN (by decide)) h1o_3 rfl rfl rfl rfl (Nat.le_of_ble_eq_true rfl) (by decide) (by decide) ⟨by decide, by decide⟩ dX7_readConjunction_21 ?_
        obtain ⟨z_4, ez_4, hz_4⟩ := selI_c (isW bt n 37 st9)
        refine k_topv (vI z_4) (by rw [ez_4]) ?_
        refine k_if_eq hC 48 dX7_readConjunction_24 rfl (by omega) (fun c_24 => ?_) (fun c_24 => ?_)
        · have hwn : ¬ isW bt n 37 st9 := (hz_4.resolve_left (fun q1 => by omega)).2
          refine k_iload_n hC dX7_readConjunction_48 rfl 1 rfl ?_
          have hfin : rr = conM bt n (qG (pV g) bt n 2) st := by rw [hx]; exact cjN_eq (by rw [← hx, ← hst9]; exact hwn) hG.1
          subst hQ
          exact k_iret hC hr ⟨by decide, by decide⟩ (⟨congrArg (fun z => some (vI ((z : Nat) : Int))) (by rw [← hfin]), rfl, (by have e : st9 = (conM bt n (qG (pV g) bt n 2) st).1 := (by rw [← hfin]; exact hst9); rw [← e]; exact hTq), ⟨⟨_, hlq⟩, _, hrq⟩, fun j hj => hfrw j (by omega)⟩) dX7_readConjunction_49
        · have hwr : isW bt n 37 rr.1 := by rw [← hst9]; exact (hz_4.resolve_right (fun q1 => by omega)).2
          refine k_aload_n hC dX7_readConjunction_27 rfl 2 rfl ?_
          refine k_get hC fd_X7_18 (kl hN (by decide)) h129q rfl dX7_readConjunction_28 ?_
          obtain ⟨cn5, ea5, kd5, nm5, sa5, p95, hp95, h15, hadv5⟩ := tk_open hTq
          refine k_muvV hC (c_X10_advance l hls G hN wvw fl bt n p95 cn5 st9.1 ea5 kd5 nm5 sa5 hn7 hp95 hb hb9 h15) yy_X10_advance wm_X7_42 (kl hN (by decide)) h15 rfl rfl rfl rfl (Nat.le_of_ble_eq_true rfl) (by decide) (by decide) ⟨by decide, by decide⟩ dX7_readConjunction_31 (fun w5 hp5 => ?_)
          obtain ⟨hq5, hf5⟩ := hp5
          have hT5 := hadv5 _ hq5
          obtain ⟨st_6, est_6⟩ : ∃ z : PS, z = adP bt n st9 := ⟨_, rfl⟩
          rw [← est_6] at hT5
          refine k_iload_n hC dX7_readConjunction_34 rfl 1 rfl ?_
          refine k_aload_n hC dX7_readConjunction_35 rfl 2 rfl ?_
          refine k_iload_n hC dX7_readConjunction_36 rfl 3 rfl ?_
          have h_8 : w5 130 = iA G 12 lf := (hf5 130 (by decide)).trans hlq
          have h_9 : w5 131 = iA G 12 rf := (hf5 131 (by decide)).trans hrq
          have h_10 : w5 2 = bA G 700 (fun j => sb8 (bt j)) := (hf5 2 (by decide)).trans hb9
          have h_11 : w5 129 = .inr (7, [.ref (kad G 1), .ref (kad G 3), .ref (kad G 10), .ref (kad G 130), .ref (kad G 131)]) := (hf5 129 (by decide)).trans h129q
          have hB_12 : kLog G w5 3 g := hLq.fr (fun j q1 q2 => (hf5 j (by omega)))
          have h_13 : w5 10 = .inr (0, [.ref (kad G 11), .ref (kad G 12), .ref (kad G 13), .ref (kad G 14), .ref (kad G 15), .ref (kad G 16)]) := (hf5 10 (by decide)).trans h10q
          have h_14 : w5 11 = rA G 4 12 (fun j => some (kad G (20 + j))) := (hf5 11 (by decide)).trans h11q
          have hB_15 : kDrawn w5 g 0 ((g 2).toNat) := hDq.fr (fun j q1 q2 => (hf5 j (by omega)))
          refine k_mutV hC (c_X7_readFactor_2 l hls G hN w5 fl bt n st_6 g hn2 hn7 hb h_10 hT5 h_11 hI hB_12 h_13 h_14 hB_15 ⟨_, h_8⟩ ⟨_, h_9⟩) yy_X7_readFactor wm_X7_45 (kl hN (by decide)) h_11 rfl rfl rfl rfl (Nat.le_of_ble_eq_true rfl) (by decide) (by decide) ⟨by decide, by decide⟩ dX7_readConjunction_37 (fun w7 hp7 => ?_)
          obtain ⟨hT7, ⟨⟨lf7, hlf7⟩, rf7, hrf7⟩, hf7⟩ := hp7
          obtain ⟨st_16, est_16⟩ : ∃ z : PS, z = (qG (pV g) bt n 2 st_6).1 := ⟨_, rfl⟩
          rw [← est_16] at hT7
          refine k_iandN hC (a := mkN rr.2.2 (g 2).toNat) (b := mkN ((qG (pV g) bt n 2 st_6).2.2) (g 2).toNat) dX7_readConjunction_40 ?_
          refine k_topv (vI ((mkN ((and2 (-24) rr (qG (pV g) bt n 2 st_6)).2.2) (g 2).toNat : Nat) : Int)) (congrArg (fun q : Nat => vI (q : Int)) ((mkN_and _ _ _).trans (mkN_c _ (fun i _ => (if_pos rfl).symm)))) ?_
          refine k_istore_n hC [(2, vI ((mkN ((and2 (-24) rr (qG (pV g) bt n 2 st_6)).2.2) (g 2).toNat : Nat) : Int)), (3, vI (k : Int)), (0, .ref (kad G 129)), (1, vI 4)] dX7_readConjunction_41 rfl (by decide) rfl ?_
          refine k_iinc hC (y := (k : Int) + 1) [(3, vI ((k : Int) + 1)), (2, vI ((mkN ((and2 (-24) rr (qG (pV g) bt n 2 st_6)).2.2) (g 2).toNat : Nat) : Int)), (0, .ref (kad G 129)), (1, vI 4)] (j := 1) dX7_readConjunction_42 rfl (by omega) (by decide) rfl ?_
          refine k_goto hC 8 dX7_readConjunction_45 rfl ?_
          refine k_lvs (ls := [0, 1, 2, 3]) [(3, vI ((k + 1 : Nat) : Int)), (2, vI ((mkN ((and2 (-24) rr (qG (pV g) bt n 2 st_6)).2.2) (g 2).toNat : Nat) : Int)), (0, .ref (kad G 129)), (1, vI 4)] (by simp only [lv_pick]; rfl) ?_
          have h_17 : w7 2 = bA G 700 (fun j => sb8 (bt j)) := (hf7 2 (by decide)).trans h_10
          have h_18 : w7 129 = .inr (7, [.ref (kad G 1), .ref (kad G 3), .ref (kad G 10), .ref (kad G 130), .ref (kad G 131)]) := (hf7 129 (by decide)).trans h_11
          have hB_19 : kLog G w7 3 g := hB_12.fr (fun j q1 q2 => (hf7 j (by omega)))
          have hB_20 : kDrawn w7 g 0 ((g 2).toNat) := hB_15.fr (fun j q1 q2 => (hf7 j (by omega)))
          exact ihw (k + 1) (and2 (-24) rr (qG (pV g) bt n 2 st_6)) st_16 lf7 rf7 w7 (by omega) (by omega) (by rw [cjN_go k _ (by rw [← hx]; exact hwr), ← hx, est_6, hst9]) est_16 h_17 h_18 hlf7 hrf7 hT7 hB_19 hB_20 (fun j hj => (hf7 j (by omega)).trans ((hf5 j (by omega)).trans (hfrw j (by omega))))
  refine k_lvs (ls := [0, 1, 2, 3]) [(3, vI ((0 : Nat) : Int)), (2, vI ((mkN ((qG (pV g) bt n 2 st).2.2) (g 2).toNat : Nat) : Int)), (0, .ref (kad G 129)), (1, vI 4)] (by simp only [lv_pick]; rfl) ?_
  have h_21 : w1 2 = bA G 700 (fun j => sb8 (bt j)) := (hf1 2 (by decide)).trans h2
  have h_22 : w1 129 = .inr (7, [.ref (kad G 1), .ref (kad G 3), .ref (kad G 10), .ref (kad G 130), .ref (kad G 131)]) := (hf1 129 (by decide)).trans h129
  have hB_23 : kLog G w1 3 g := hLg.fr (fun j q1 q2 => (hf1 j (by omega)))
  have hB_24 : kDrawn w1 g 0 ((g 2).toNat) := hD.fr (fun j q1 q2 => (hf1 j (by omega)))
  exact loop2 201 0 (qG (pV g) bt n 2 st) st_2 lf1 rf1 w1 (by omega) (by omega) rfl est_2 h_21 h_22 hlf1 hrf1 hT1 hB_23 hB_24 (fun j hj => hf1 j (by omega))

set_option maxRecDepth 100000 in
set_option maxHeartbeats 4000000 in
theorem c_X7_readTest_2 (l : Launch) (hls : l.stackTraces = false) (G : kG) (hN : 133 ≤ kN G) (w : Nat → va_E) (fl : va_W) (bt : Nat → Int) (n : Nat) (st : PS) (g : Nat → Int) (hn2 : n ≤ 200) (hn7 : n ≤ 700) (hb : btOK bt) (h2 : w 2 = byA G bt) (hT : tkR G w bt n st) (h129 : w 129 = qdO G) (hI : Inv g) (hLg : kLog G w 3 g) (h10 : w 10 = chO G) (h11 : w 11 = liA G) (hD : kDrawn w g 0 (g 2).toNat) (hl0 : ∃ lf, w 130 = iA G 12 lf) (hr0 : ∃ rf, w 131 = iA G 12 rf) : KM l G yX7_readTest cX7_readTest 4 (some (FieldType.int)) 15 0 0 [.ref (kad G 129), vI 4] w fl (kMut (vI ((mkN ((tstM bt n (qG (pV g) bt n 2) st).2.2) (g 2).toNat : Nat) : Int)) fl (fun w1 => tkR G w1 bt n ((tstM bt n (qG (pV g) bt n 2) st).1) ∧ ((∃ lf, w1 130 = iA G 12 lf) ∧ ∃ rf, w1 131 = iA G 12 rf) ∧ ∀ j, (j ≠ 1 ∧ j ≠ 130 ∧ j ≠ 131) → w1 j = w j)) := by
  refine KM_of2 hls (by decide +kernel) rfl (lv0 := [(0, .ref (kad G 129)), (1, vI 4)]) rfl (Nat.le_of_ble_eq_true rfl) (fun p e R s m args below meth c Q hC hr hQ => ?_)
  have h0 := hI.c
  obtain ⟨lf0, hlf0⟩ := hl0
  obtain ⟨rf0, hrf0⟩ := hr0
  have hle0 := hT.le
  refine k_aload_n hC dX7_readTest_0 rfl 0 rfl ?_
  refine k_iload_n hC dX7_readTest_1 rfl 1 rfl ?_
  refine k_mutV hC (c_X7_readConjunction_2 l hls G hN w fl bt n st g hn2 hn7 hb h2 hT h129 hI hLg h10 h11 hD ⟨_, hlf0⟩ ⟨_, hrf0⟩) yy_X7_readConjunction wm_X7_30 (kl hN (by decide)) h129 rfl rfl rfl rfl (Nat.le_of_ble_eq_true rfl) (by decide) (by decide) ⟨by decide, by decide⟩ dX7_readTest_2 (fun w1 hp1 => ?_)
  obtain ⟨hT1, ⟨⟨lf1, hlf1⟩, rf1, hrf1⟩, hf1⟩ := hp1
  obtain ⟨st_2, est_2⟩ : ∃ z : PS, z = (conM bt n (qG (pV g) bt n 2) st).1 := ⟨_, rfl⟩
  rw [← est_2] at hT1
  refine k_istore_n hC [(2, vI ((mkN ((conM bt n (qG (pV g) bt n 2) st).2.2) (g 2).toNat : Nat) : Int)), (0, .ref (kad G 129)), (1, vI 4)] dX7_readTest_5 rfl (by decide) rfl ?_
  refine k_iconst hC dX7_readTest_6 ?_
  refine k_istore_n hC [(3, vI 0), (2, vI ((mkN ((conM bt n (qG (pV g) bt n 2) st).2.2) (g 2).toNat : Nat) : Int)), (0, .ref (kad G 129)), (1, vI 4)] dX7_readTest_7 rfl (by decide) rfl ?_
  have hG := endG (V := pV g) (bt := bt) (n := n) (w := 38) (c := -25) (F := conM bt n (qG (pV g) bt n 2)) (F1 := conM bt n (qF (pV g) bt n 2)) (r0 := conM bt n (qG (pV g) bt n 2) st) (r1 := conM bt n (qF (pV g) bt n 2) st) hn2 hle0 (Or.inr rfl) (gq_con (gq_qF (V := pV g) (bt := bt) (n := n) 2)) (rel_con (rel_qF 2)) (gq_con (gq_qF (V := pV g) (bt := bt) (n := n) 2) st) (rel_con (rel_qF 2) st)
  have loop2 : ∀ (nw : Nat) (k : Nat) (rr : QR) (st9 : PS) (lf : Nat → Int) (rf : Nat → Int) (wvw : Nat → va_E), (200 < nw + k) → (k ≤ 200) → (rr = cjN bt n 38 (-25) (conM bt n (qG (pV g) bt n 2)) k (conM bt n (qG (pV g) bt n 2) st)) → (st9 = rr.1) → (wvw 2 = bA G 700 (fun j => sb8 (bt j))) → (wvw 129 = .inr (7, [.ref (kad G 1), .ref (kad G 3), .ref (kad G 10), .ref (kad G 130), .ref (kad G 131)])) → (wvw 130 = iA G 12 lf) → (wvw 131 = iA G 12 rf) → (tkR G wvw bt n st9) → (kLog G wvw 3 g) → (kDrawn wvw g 0 ((g 2).toNat)) → ((∀ j, (j ≠ 1 ∧ j ≠ 130 ∧ j ≠ 131) → wvw j = w j)) → KW p l e R s m args below meth c 4 G Q wvw fl 0 0 8 [(3, vI (k : Int)), (2, vI ((mkN rr.2.2 (g 2).toNat : Nat) : Int)), (0, .ref (kad G 129)), (1, vI 4)] [] := by
    intro nw
    induction nw with
    | zero =>
      intro k rr st9 lf rf wvw hn_w hk9 hx hst9 hb9 h129q hlq hrq hTq hLq hDq hfrw
      exact absurd hn_w (by omega)
    | succ nw ihw =>
      intro k rr st9 lf rf wvw hn_w hk9 hx hst9 hb9 h129q hlq hrq hTq hLq hDq hfrw
      have h10q := (hfrw 10 (by omega)).trans h10
      have h11q := (hfrw 11 (by omega)).trans h11
      refine k_iload_n hC dX7_readTest_8 rfl 0 rfl ?_
      refine k_sipush hC dX7_readTest_9 (by decide) ?_
      refine k_icmp_ge hC 48 dX7_readTest_12 rfl (by omega) (by omega) (fun c_12 => ?_) (fun c_12 => ?_)
      · have hwn : ¬ isW bt n 38 st9 := fun q => by have := hG.2 k (by rw [← hx, ← hst9]; exact q); omega
        refine k_iload_n hC dX7_readTest_48 rfl 1 rfl ?_
        have hfin : rr = tstM bt n (qG (pV g) bt n 2) st := by rw [hx]; exact cjN_eq (by rw [← hx, ← hst9]; exact hwn) hG.1
        subst hQ
        exact k_iret hC hr ⟨by decide, by decide⟩ (⟨congrArg (fun z => some (vI ((z : Nat) : Int))) (by rw [← hfin]), rfl, (by have e : st9 = (tstM bt n (qG (pV g) bt n 2) st).1 := (by rw [← hfin]; exact hst9); rw [← e]; exact hTq), ⟨⟨_, hlq⟩, _, hrq⟩, fun j hj => hfrw j (by omega)⟩) dX7_readTest_49
      · refine k_aload_n hC dX7_readTest_15 rfl 2 rfl ?_
        refine k_get hC fd_X7_18 (kl hN (by decide)) h129q rfl dX7_readTest_16 ?_
        refine k_ldcs hC (List.mem_of_getElem? (i := 40) rfl) dX7_readTest_19 ?_
        have hTco_3 := hTq
        obtain ⟨cno_3, eao_3, kdo_3, nmo_3, sao_3, nxo_3, h1o_3, -⟩ := hTco_3
        refine k_pureV hC (c_X10_isWord l hls G hN wvw fl bt n st9 38 (by decide) hn7 hb hb9 hTq) yy_X10_isWord wm_X7_36 (kl hN (by decide)) h1o_3 rfl rfl rfl rfl (Nat.le_of_ble_eq_true rfl) (by decide) (by decide) ⟨by decide, by decide⟩ dX7_readTest_21 ?_
        obtain ⟨z_4, ez_4, hz_4⟩ := selI_c (isW bt n 38 st9)
        refine k_topv (vI z_4) (by rw [ez_4]) ?_
        refine k_if_eq hC 48 dX7_readTest_24 rfl (by omega) (fun c_24 => ?_) (fun c_24 => ?_)
        · have hwn : ¬ isW bt n 38 st9 := (hz_4.resolve_left (fun q1 => by omega)).2
          refine k_iload_n hC dX7_readTest_48 rfl 1 rfl ?_
          have hfin : rr = tstM bt n (qG (pV g) bt n 2) st := by rw [hx]; exact cjN_eq (by rw [← hx, ← hst9]; exact hwn) hG.1
          subst hQ
          exact k_iret hC hr ⟨by decide, by decide⟩ (⟨congrArg (fun z => some (vI ((z : Nat) : Int))) (by rw [← hfin]), rfl, (by have e : st9 = (tstM bt n (qG (pV g) bt n 2) st).1 := (by rw [← hfin]; exact hst9); rw [← e]; exact hTq), ⟨⟨_, hlq⟩, _, hrq⟩, fun j hj => hfrw j (by omega)⟩) dX7_readTest_49
        · have hwr : isW bt n 38 rr.1 := by rw [← hst9]; exact (hz_4.resolve_right (fun q1 => by omega)).2
          refine k_aload_n hC dX7_readTest_27 rfl 2 rfl ?_
          refine k_get hC fd_X7_18 (kl hN (by decide)) h129q rfl dX7_readTest_28 ?_
          obtain ⟨cn5, ea5, kd5, nm5, sa5, p95, hp95, h15, hadv5⟩ := tk_open hTq
          refine k_muvV hC (c_X10_advance l hls G hN wvw fl bt n p95 cn5 st9.1 ea5 kd5 nm5 sa5 hn7 hp95 hb hb9 h15) yy_X10_advance wm_X7_42 (kl hN (by decide)) h15 rfl rfl rfl rfl (Nat.le_of_ble_eq_true rfl) (by decide) (by decide) ⟨by decide, by decide⟩ dX7_readTest_31 (fun w5 hp5 => ?_)
          obtain ⟨hq5, hf5⟩ := hp5
          have hT5 := hadv5 _ hq5
          obtain ⟨st_6, est_6⟩ : ∃ z : PS, z = adP bt n st9 := ⟨_, rfl⟩
          rw [← est_6] at hT5
          refine k_iload_n hC dX7_readTest_34 rfl 1 rfl ?_
          refine k_aload_n hC dX7_readTest_35 rfl 2 rfl ?_
          refine k_iload_n hC dX7_readTest_36 rfl 3 rfl ?_
          have h_8 : w5 130 = iA G 12 lf := (hf5 130 (by decide)).trans hlq
          have h_9 : w5 131 = iA G 12 rf := (hf5 131 (by decide)).trans hrq
          have h_10 : w5 2 = bA G 700 (fun j => sb8 (bt j)) := (hf5 2 (by decide)).trans hb9
          have h_11 : w5 129 = .inr (7, [.ref (kad G 1), .ref (kad G 3), .ref (kad G 10), .ref (kad G 130), .ref (kad G 131)]) := (hf5 129 (by decide)).trans h129q
          have hB_12 : kLog G w5 3 g := hLq.fr (fun j q1 q2 => (hf5 j (by omega)))
          have h_13 : w5 10 = .inr (0, [.ref (kad G 11), .ref (kad G 12), .ref (kad G 13), .ref (kad G 14), .ref (kad G 15), .ref (kad G 16)]) := (hf5 10 (by decide)).trans h10q
          have h_14 : w5 11 = rA G 4 12 (fun j => some (kad G (20 + j))) := (hf5 11 (by decide)).trans h11q
          have hB_15 : kDrawn w5 g 0 ((g 2).toNat) := hDq.fr (fun j q1 q2 => (hf5 j (by omega)))
          refine k_mutV hC (c_X7_readConjunction_2 l hls G hN w5 fl bt n st_6 g hn2 hn7 hb h_10 hT5 h_11 hI hB_12 h_13 h_14 hB_15 ⟨_, h_8⟩ ⟨_, h_9⟩) yy_X7_readConjunction wm_X7_30 (kl hN (by decide)) h_11 rfl rfl rfl rfl (Nat.le_of_ble_eq_true rfl) (by decide) (by decide) ⟨by decide, by decide⟩ dX7_readTest_37 (fun w7 hp7 => ?_)
          obtain ⟨hT7, ⟨⟨lf7, hlf7⟩, rf7, hrf7⟩, hf7⟩ := hp7
          obtain ⟨st_16, est_16⟩ : ∃ z : PS, z = (conM bt n (qG (pV g) bt n 2) st_6).1 := ⟨_, rfl⟩
          rw [← est_16] at hT7
          refine k_iorN hC (a := mkN rr.2.2 (g 2).toNat) (b := mkN ((conM bt n (qG (pV g) bt n 2) st_6).2.2) (g 2).toNat) dX7_readTest_40 ?_
          refine k_topv (vI ((mkN ((and2 (-25) rr (conM bt n (qG (pV g) bt n 2) st_6)).2.2) (g 2).toNat : Nat) : Int)) (congrArg (fun q : Nat => vI (q : Int)) ((mkN_or _ _ _).trans (mkN_c _ (fun i _ => (if_neg (by decide)).symm)))) ?_
          refine k_istore_n hC [(2, vI ((mkN ((and2 (-25) rr (conM bt n (qG (pV g) bt n 2) st_6)).2.2) (g 2).toNat : Nat) : Int)), (3, vI (k : Int)), (0, .ref (kad G 129)), (1, vI 4)] dX7_readTest_41 rfl (by decide) rfl ?_
          refine k_iinc hC (y := (k : Int) + 1) [(3, vI ((k : Int) + 1)), (2, vI ((mkN ((and2 (-25) rr (conM bt n (qG (pV g) bt n 2) st_6)).2.2) (g 2).toNat : Nat) : Int)), (0, .ref (kad G 129)), (1, vI 4)] (j := 1) dX7_readTest_42 rfl (by omega) (by decide) rfl ?_
          refine k_goto hC 8 dX7_readTest_45 rfl ?_
          refine k_lvs (ls := [0, 1, 2, 3]) [(3, vI ((k + 1 : Nat) : Int)), (2, vI ((mkN ((and2 (-25) rr (conM bt n (qG (pV g) bt n 2) st_6)).2.2) (g 2).toNat : Nat) : Int)), (0, .ref (kad G 129)), (1, vI 4)] (by simp only [lv_pick]; rfl) ?_
          have h_17 : w7 2 = bA G 700 (fun j => sb8 (bt j)) := (hf7 2 (by decide)).trans h_10
          have h_18 : w7 129 = .inr (7, [.ref (kad G 1), .ref (kad G 3), .ref (kad G 10), .ref (kad G 130), .ref (kad G 131)]) := (hf7 129 (by decide)).trans h_11
          have hB_19 : kLog G w7 3 g := hB_12.fr (fun j q1 q2 => (hf7 j (by omega)))
          have hB_20 : kDrawn w7 g 0 ((g 2).toNat) := hB_15.fr (fun j q1 q2 => (hf7 j (by omega)))
          exact ihw (k + 1) (and2 (-25) rr (conM bt n (qG (pV g) bt n 2) st_6)) st_16 lf7 rf7 w7 (by omega) (by omega) (by rw [cjN_go k _ (by rw [← hx]; exact hwr), ← hx, est_6, hst9]) est_16 h_17 h_18 hlf7 hrf7 hT7 hB_19 hB_20 (fun j hj => (hf7 j (by omega)).trans ((hf5 j (by omega)).trans (hfrw j (by omega))))
  refine k_lvs (ls := [0, 1, 2, 3]) [(3, vI ((0 : Nat) : Int)), (2, vI ((mkN ((conM bt n (qG (pV g) bt n 2) st).2.2) (g 2).toNat : Nat) : Int)), (0, .ref (kad G 129)), (1, vI 4)] (by simp only [lv_pick]; rfl) ?_
  have h_21 : w1 2 = bA G 700 (fun j => sb8 (bt j)) := (hf1 2 (by decide)).trans h2
  have h_22 : w1 129 = .inr (7, [.ref (kad G 1), .ref (kad G 3), .ref (kad G 10), .ref (kad G 130), .ref (kad G 131)]) := (hf1 129 (by decide)).trans h129
  have hB_23 : kLog G w1 3 g := hLg.fr (fun j q1 q2 => (hf1 j (by omega)))
  have hB_24 : kDrawn w1 g 0 ((g 2).toNat) := hD.fr (fun j q1 q2 => (hf1 j (by omega)))
  exact loop2 201 0 (conM bt n (qG (pV g) bt n 2) st) st_2 lf1 rf1 w1 (by omega) (by omega) rfl est_2 h_21 h_22 hlf1 hrf1 hT1 hB_23 hB_24 (fun j hj => hf1 j (by omega))

set_option maxRecDepth 100000 in
set_option maxHeartbeats 4000000 in
theorem c_X7_readFactor_3 (l : Launch) (hls : l.stackTraces = false) (G : kG) (hN : 133 ≤ kN G) (w : Nat → va_E) (fl : va_W) (bt : Nat → Int) (n : Nat) (st : PS) (g : Nat → Int) (hn2 : n ≤ 200) (hn7 : n ≤ 700) (hb : btOK bt) (h2 : w 2 = byA G bt) (hT : tkR G w bt n st) (h129 : w 129 = qdO G) (hI : Inv g) (hLg : kLog G w 3 g) (h10 : w 10 = chO G) (h11 : w 11 = liA G) (hD : kDrawn w g 0 (g 2).toNat) (hl0 : ∃ lf, w 130 = iA G 12 lf) (hr0 : ∃ rf, w 131 = iA G 12 rf) : KM l G yX7_readFactor cX7_readFactor 4 (some (FieldType.int)) 16 0 0 [.ref (kad G 129), vI 3] w fl (kMut (vI ((mkN ((qG (pV g) bt n 3 st).2.2) (g 2).toNat : Nat) : Int)) fl (fun w1 => tkR G w1 bt n ((qG (pV g) bt n 3 st).1) ∧ ((∃ lf, w1 130 = iA G 12 lf) ∧ ∃ rf, w1 131 = iA G 12 rf) ∧ ∀ j, (j ≠ 1 ∧ j ≠ 130 ∧ j ≠ 131) → w1 j = w j)) := by
  refine KM_of2 hls (by decide +kernel) rfl (lv0 := [(0, .ref (kad G 129)), (1, vI 3)]) rfl (Nat.le_of_ble_eq_true rfl) (fun p e R s m args below meth c Q hC hr hQ => ?_)
  have h0 := hI.c
  obtain ⟨lf0, hlf0⟩ := hl0
  obtain ⟨rf0, hrf0⟩ := hr0
  have hle0 := hT.le
  refine k_aload_n hC dX7_readFactor_0 rfl 0 rfl ?_
  refine k_get hC fd_X7_18 (kl hN (by decide)) h129 rfl dX7_readFactor_1 ?_
  refine k_ldcs hC (List.mem_of_getElem? (i := 31) rfl) dX7_readFactor_4 ?_
  have hTco_1 := hT
  obtain ⟨cno_1, eao_1, kdo_1, nmo_1, sao_1, nxo_1, h1o_1, -⟩ := hTco_1
  refine k_pureV hC (c_X10_isWord l hls G hN w fl bt n st 31 (by decide) hn7 hb h2 hT) yy_X10_isWord wm_X7_36 (kl hN (by decide)) h1o_1 rfl rfl rfl rfl (Nat.le_of_ble_eq_true rfl) (by decide) (by decide) ⟨by decide, by decide⟩ dX7_readFactor_6 ?_
  obtain ⟨z_2, ez_2, hz_2⟩ := selI_c (isW bt n 31 st)
  refine k_topv (vI z_2) (by rw [ez_2]) ?_
  refine k_istore_n hC [(2, vI z_2), (0, .ref (kad G 129)), (1, vI 3)] dX7_readFactor_9 rfl (by decide) rfl ?_
  refine k_iload_n hC dX7_readFactor_10 rfl 0 rfl ?_
  refine k_if_ne hC 31 dX7_readFactor_11 rfl (by omega) (fun c_11 => ?_) (fun c_11 => ?_)
  · have hw31 : isW bt n 31 st := (hz_2.resolve_right (fun q1 => by omega)).2
    refine k_iload_n hC dX7_readFactor_31 rfl 2 rfl ?_
    refine k_bipush hC dX7_readFactor_32 (by decide) ?_
    refine k_icmp_lt hC 47 dX7_readFactor_34 rfl (by omega) (by omega) (fun c_34 => ?_) (fun c_34 => absurd c_34 (by omega))
    refine k_aload_n hC dX7_readFactor_47 rfl 1 rfl ?_
    refine k_get hC fd_X7_18 (kl hN (by decide)) h129 rfl dX7_readFactor_48 ?_
    obtain ⟨cn3, ea3, kd3, nm3, sa3, p93, hp93, h13, hadv3⟩ := tk_open hT
    refine k_muvV hC (c_X10_advance l hls G hN w fl bt n p93 cn3 st.1 ea3 kd3 nm3 sa3 hn7 hp93 hb h2 h13) yy_X10_advance wm_X7_42 (kl hN (by decide)) h13 rfl rfl rfl rfl (Nat.le_of_ble_eq_true rfl) (by decide) (by decide) ⟨by decide, by decide⟩ dX7_readFactor_51 (fun w3 hp3 => ?_)
    obtain ⟨hq3, hf3⟩ := hp3
    have hT3 := hadv3 _ hq3
    obtain ⟨st_4, est_4⟩ : ∃ z : PS, z = adP bt n st := ⟨_, rfl⟩
    rw [← est_4] at hT3
    refine k_iload_n hC dX7_readFactor_54 rfl 0 rfl ?_
    refine k_if_eq hC 82 dX7_readFactor_55 rfl (by omega) (fun c_55 => absurd c_55 (by omega)) (fun c_55 => ?_)
    refine k_iconst hC dX7_readFactor_58 ?_
    refine k_aload_n hC dX7_readFactor_59 rfl 1 rfl ?_
    have h_5 : w3 129 = .inr (7, [.ref (kad G 1), .ref (kad G 3), .ref (kad G 10), .ref (kad G 130), .ref (kad G 131)]) := (hf3 129 (by decide)).trans h129
    refine k_get hC fd_X7_22 (kl hN (by decide)) h_5 rfl dX7_readFactor_60 ?_
    have hB_6 : kLog G w3 3 g := hLg.fr (fun j q1 q2 => (hf3 j (by omega)))
    refine k_get hC fd_X7_64 (kl hN (by decide)) hB_6.1 rfl dX7_readFactor_63 ?_
    refine k_topv (vI (((g 2).toNat : Int))) (congrArg vI (by omega)) ?_
    refine k_ishl1 hC (n := (((g 2).toNat : Int)).toNat) (by omega) dX7_readFactor_66 ?_
    refine k_iconst hC dX7_readFactor_67 ?_
    refine k_isub hC dX7_readFactor_68 ?_
    refine k_istore_n hC [(3, vI (((2 ^ ((((g 2).toNat : Int)).toNat) : Nat) : Int) - 1)), (2, vI z_2), (0, .ref (kad G 129)), (1, vI 3)] dX7_readFactor_69 rfl (by decide) rfl ?_
    refine k_iload_n hC dX7_readFactor_70 rfl 0 rfl ?_
    refine k_aload_n hC dX7_readFactor_71 rfl 2 rfl ?_
    refine k_iload_n hC dX7_readFactor_72 rfl 3 rfl ?_
    refine k_iconst hC dX7_readFactor_73 ?_
    refine k_iadd hC dX7_readFactor_74 ?_
    refine k_topv (vI 4) (congrArg vI (by decide)) ?_
    have h_8 : w3 130 = iA G 12 lf0 := (hf3 130 (by decide)).trans hlf0
    have h_9 : w3 131 = iA G 12 rf0 := (hf3 131 (by decide)).trans hrf0
    have h_10 : w3 2 = bA G 700 (fun j => sb8 (bt j)) := (hf3 2 (by decide)).trans h2
    have h_11 : w3 10 = .inr (0, [.ref (kad G 11), .ref (kad G 12), .ref (kad G 13), .ref (kad G 14), .ref (kad G 15), .ref (kad G 16)]) := (hf3 10 (by decide)).trans h10
    have h_12 : w3 11 = rA G 4 12 (fun j => some (kad G (20 + j))) := (hf3 11 (by decide)).trans h11
    have hB_13 : kDrawn w3 g 0 ((g 2).toNat) := hD.fr (fun j q1 q2 => (hf3 j (by omega)))
    refine k_mutV hC (c_X7_readFactor_2 l hls G hN w3 fl bt n st_4 g hn2 hn7 hb h_10 hT3 h_5 hI hB_6 h_11 h_12 hB_13 ⟨_, h_8⟩ ⟨_, h_9⟩) yy_X7_readFactor wm_X7_45 (kl hN (by decide)) h_5 rfl rfl rfl rfl (Nat.le_of_ble_eq_true rfl) (by decide) (by decide) ⟨by decide, by decide⟩ dX7_readFactor_75 (fun w7 hp7 => ?_)
    obtain ⟨hT7, ⟨⟨lf7, hlf7⟩, rf7, hrf7⟩, hf7⟩ := hp7
    obtain ⟨st_14, est_14⟩ : ∃ z : PS, z = (qG (pV g) bt n 2 st_4).1 := ⟨_, rfl⟩
    rw [← est_14] at hT7
    refine k_iconst hC dX7_readFactor_78 ?_
    refine k_inotN hC (a := mkN ((qG (pV g) bt n 2 st_4).2.2) (g 2).toNat) (mkN_12 _ (by omega)) dX7_readFactor_79 ?_
    refine k_iallN hC (a := mkN ((qG (pV g) bt n 2 st_4).2.2) (g 2).toNat) (n := (g 2).toNat) (by omega) (mkN_12 _ (by omega)) (mkN_b _ _) dX7_readFactor_80 ?_
    subst hQ
    exact k_iret hC hr ⟨by decide, by decide⟩ (⟨congrArg (fun z => some (vI ((z : Nat) : Int))) (by rw [qG_n hw31, ← est_4]; have h9 := mkN_not (qG (pV g) bt n 2 st_4).2.2 (g 2).toNat; show mkN (fun i => !(qG (pV g) bt n 2 st_4).2.2 i) (g 2).toNat = _; omega), rfl, (by have e : st_14 = (qG (pV g) bt n 3 st).1 := (by rw [qG_n hw31]; show st_14 = (qG (pV g) bt n 2 (adP bt n st)).1; rw [← est_4]; exact est_14); rw [← e]; exact hT7), ⟨⟨_, hlf7⟩, _, hrf7⟩, fun j hj => (hf7 j (by omega)).trans (hf3 j (by omega))⟩) dX7_readFactor_81
  · have hw31 : ¬ isW bt n 31 st := (hz_2.resolve_left (fun q1 => by omega)).2
    refine k_aload_n hC dX7_readFactor_14 rfl 1 rfl ?_
    refine k_get hC fd_X7_18 (kl hN (by decide)) h129 rfl dX7_readFactor_15 ?_
    refine k_bipush hC dX7_readFactor_18 (by decide) ?_
    refine k_pureV hC (c_X10_isSign l hls G hN w fl bt n st 40 (by omega) hn7 hb h2 hT) yy_X10_isSign wm_X7_52 (kl hN (by decide)) h1o_1 rfl rfl rfl rfl (Nat.le_of_ble_eq_true rfl) (by decide) (by decide) ⟨by decide, by decide⟩ dX7_readFactor_20 ?_
    obtain ⟨z_15, ez_15, hz_15⟩ := selI_c (isS bt n 40 st)
    refine k_topv (vI z_15) (by rw [ez_15]) ?_
    refine k_if_ne hC 31 dX7_readFactor_23 rfl (by omega) (fun c_23 => ?_) (fun c_23 => ?_)
    · have hw40 : isS bt n 40 st := (hz_15.resolve_right (fun q1 => by omega)).2
      refine k_iload_n hC dX7_readFactor_31 rfl 2 rfl ?_
      refine k_bipush hC dX7_readFactor_32 (by decide) ?_
      refine k_icmp_lt hC 47 dX7_readFactor_34 rfl (by omega) (by omega) (fun c_34 => ?_) (fun c_34 => absurd c_34 (by omega))
      refine k_aload_n hC dX7_readFactor_47 rfl 1 rfl ?_
      refine k_get hC fd_X7_18 (kl hN (by decide)) h129 rfl dX7_readFactor_48 ?_
      obtain ⟨cn16, ea16, kd16, nm16, sa16, p916, hp916, h116, hadv16⟩ := tk_open hT
      refine k_muvV hC (c_X10_advance l hls G hN w fl bt n p916 cn16 st.1 ea16 kd16 nm16 sa16 hn7 hp916 hb h2 h116) yy_X10_advance wm_X7_42 (kl hN (by decide)) h116 rfl rfl rfl rfl (Nat.le_of_ble_eq_true rfl) (by decide) (by decide) ⟨by decide, by decide⟩ dX7_readFactor_51 (fun w16 hp16 => ?_)
      obtain ⟨hq16, hf16⟩ := hp16
      have hT16 := hadv16 _ hq16
      obtain ⟨st_17, est_17⟩ : ∃ z : PS, z = adP bt n st := ⟨_, rfl⟩
      rw [← est_17] at hT16
      refine k_iload_n hC dX7_readFactor_54 rfl 0 rfl ?_
      refine k_if_eq hC 82 dX7_readFactor_55 rfl (by omega) (fun c_55 => ?_) (fun c_55 => absurd c_55 (by omega))
      refine k_aload_n hC dX7_readFactor_82 rfl 1 rfl ?_
      refine k_iload_n hC dX7_readFactor_83 rfl 2 rfl ?_
      refine k_iconst hC dX7_readFactor_84 ?_
      refine k_iadd hC dX7_readFactor_85 ?_
      refine k_topv (vI 4) (congrArg vI (by decide)) ?_
      have h_19 : w16 130 = iA G 12 lf0 := (hf16 130 (by decide)).trans hlf0
      have h_20 : w16 131 = iA G 12 rf0 := (hf16 131 (by decide)).trans hrf0
      have h_21 : w16 2 = bA G 700 (fun j => sb8 (bt j)) := (hf16 2 (by decide)).trans h2
      have h_22 : w16 129 = .inr (7, [.ref (kad G 1), .ref (kad G 3), .ref (kad G 10), .ref (kad G 130), .ref (kad G 131)]) := (hf16 129 (by decide)).trans h129
      have hB_23 : kLog G w16 3 g := hLg.fr (fun j q1 q2 => (hf16 j (by omega)))
      have h_24 : w16 10 = .inr (0, [.ref (kad G 11), .ref (kad G 12), .ref (kad G 13), .ref (kad G 14), .ref (kad G 15), .ref (kad G 16)]) := (hf16 10 (by decide)).trans h10
      have h_25 : w16 11 = rA G 4 12 (fun j => some (kad G (20 + j))) := (hf16 11 (by decide)).trans h11
      have hB_26 : kDrawn w16 g 0 ((g 2).toNat) := hD.fr (fun j q1 q2 => (hf16 j (by omega)))
      refine k_mutV hC (c_X7_readTest_2 l hls G hN w16 fl bt n st_17 g hn2 hn7 hb h_21 hT16 h_22 hI hB_23 h_24 h_25 hB_26 ⟨_, h_19⟩ ⟨_, h_20⟩) yy_X7_readTest wm_X7_70 (kl hN (by decide)) h_22 rfl rfl rfl rfl (Nat.le_of_ble_eq_true rfl) (by decide) (by decide) ⟨by decide, by decide⟩ dX7_readFactor_86 (fun w18 hp18 => ?_)
      obtain ⟨hT18, ⟨⟨lf18, hlf18⟩, rf18, hrf18⟩, hf18⟩ := hp18
      obtain ⟨st_27, est_27⟩ : ∃ z : PS, z = (tstM bt n (qG (pV g) bt n 2) st_17).1 := ⟨_, rfl⟩
      rw [← est_27] at hT18
      refine k_istore_n hC [(3, vI ((mkN ((tstM bt n (qG (pV g) bt n 2) st_17).2.2) (g 2).toNat : Nat) : Int)), (2, vI z_2), (0, .ref (kad G 129)), (1, vI 3)] dX7_readFactor_89 rfl (by decide) rfl ?_
      refine k_aload_n hC dX7_readFactor_90 rfl 2 rfl ?_
      have h_28 : w18 129 = .inr (7, [.ref (kad G 1), .ref (kad G 3), .ref (kad G 10), .ref (kad G 130), .ref (kad G 131)]) := (hf18 129 (by decide)).trans h_22
      refine k_get hC fd_X7_18 (kl hN (by decide)) h_28 rfl dX7_readFactor_91 ?_
      refine k_bipush hC dX7_readFactor_94 (by decide) ?_
      have hTco_30 := hT18
      obtain ⟨cno_30, eao_30, kdo_30, nmo_30, sao_30, nxo_30, h1o_30, -⟩ := hTco_30
      have h_31 : w18 2 = bA G 700 (fun j => sb8 (bt j)) := (hf18 2 (by decide)).trans h_21
      refine k_muvV hC (c_X10_needSign l hls G hN w18 fl bt n st_27 41 (by omega) hn7 hb h_31 hT18) yy_X10_needSign wm_X7_73 (kl hN (by decide)) h1o_30 rfl rfl rfl rfl (Nat.le_of_ble_eq_true rfl) (by decide) (by decide) ⟨by decide, by decide⟩ dX7_readFactor_96 (fun w29 hp29 => ?_)
      obtain ⟨hT29, hf29⟩ := hp29
      obtain ⟨st_32, est_32⟩ : ∃ z : PS, z = nsP bt n 41 st_27 := ⟨_, rfl⟩
      rw [← est_32] at hT29
      refine k_iload_n hC dX7_readFactor_99 rfl 0 rfl ?_
      have h_33 : w29 130 = iA G 12 lf18 := (hf29 130 (by decide)).trans hlf18
      have h_34 : w29 131 = iA G 12 rf18 := (hf29 131 (by decide)).trans hrf18
      subst hQ
      exact k_iret hC hr ⟨by decide, by decide⟩ (⟨congrArg (fun z => some (vI ((z : Nat) : Int))) (by rw [qG_p hw31 hw40, ← est_17]; rfl), rfl, (by have e : st_32 = (qG (pV g) bt n 3 st).1 := (by rw [qG_p hw31 hw40]; show st_32 = nsP bt n 41 (tstM bt n (qG (pV g) bt n 2) (adP bt n st)).1; rw [← est_17, ← est_27]; exact est_32); rw [← e]; exact hT29), ⟨⟨_, h_33⟩, _, h_34⟩, fun j hj => (hf29 j (by omega)).trans ((hf18 j (by omega)).trans (hf16 j (by omega)))⟩) dX7_readFactor_100
    · have hw40 : ¬ isS bt n 40 st := (hz_15.resolve_left (fun q1 => by omega)).2
      have hqG := qG_c (V := pV g) 3 hw31 hw40
      refine k_aload_n hC dX7_readFactor_26 rfl 1 rfl ?_
      refine k_mutV hC (c_X7_readComparison l hls G hN w fl bt n st g hn7 hb h2 hT h129 hI hLg h10 h11 hD ⟨_, hlf0⟩ ⟨_, hrf0⟩) yy_X7_readComparison wm_X7_56 (kl hN (by decide)) h129 rfl rfl rfl rfl (Nat.le_of_ble_eq_true rfl) (by decide) (by decide) ⟨by decide, by decide⟩ dX7_readFactor_27 (fun w35 hp35 => ?_)
      obtain ⟨hT35, ⟨⟨lf35, hlf35⟩, rf35, hrf35⟩, hf35⟩ := hp35
      obtain ⟨st_36, est_36⟩ : ∃ z : PS, z = (cmpG (pV g) bt n st).1 := ⟨_, rfl⟩
      rw [← est_36] at hT35
      subst hQ
      exact k_iret hC hr ⟨by decide, by decide⟩ (⟨congrArg (fun z => some (vI ((z : Nat) : Int))) (by rw [hqG]; rfl), rfl, (by have e : st_36 = (qG (pV g) bt n 3 st).1 := (by rw [hqG]; exact est_36); rw [← e]; exact hT35), ⟨⟨_, hlf35⟩, _, hrf35⟩, fun j hj => hf35 j (by omega)⟩) dX7_readFactor_30

set_option maxRecDepth 100000 in
set_option maxHeartbeats 4000000 in
theorem c_X7_readConjunction_3 (l : Launch) (hls : l.stackTraces = false) (G : kG) (hN : 133 ≤ kN G) (w : Nat → va_E) (fl : va_W) (bt : Nat → Int) (n : Nat) (st : PS) (g : Nat → Int) (hn2 : n ≤ 200) (hn7 : n ≤ 700) (hb : btOK bt) (h2 : w 2 = byA G bt) (hT : tkR G w bt n st) (h129 : w 129 = qdO G) (hI : Inv g) (hLg : kLog G w 3 g) (h10 : w 10 = chO G) (h11 : w 11 = liA G) (hD : kDrawn w g 0 (g 2).toNat) (hl0 : ∃ lf, w 130 = iA G 12 lf) (hr0 : ∃ rf, w 131 = iA G 12 rf) : KM l G yX7_readConjunction cX7_readConjunction 4 (some (FieldType.int)) 17 0 0 [.ref (kad G 129), vI 3] w fl (kMut (vI ((mkN ((conM bt n (qG (pV g) bt n 3) st).2.2) (g 2).toNat : Nat) : Int)) fl (fun w1 => tkR G w1 bt n ((conM bt n (qG (pV g) bt n 3) st).1) ∧ ((∃ lf, w1 130 = iA G 12 lf) ∧ ∃ rf, w1 131 = iA G 12 rf) ∧ ∀ j, (j ≠ 1 ∧ j ≠ 130 ∧ j ≠ 131) → w1 j = w j)) := by
  refine KM_of2 hls (by decide +kernel) rfl (lv0 := [(0, .ref (kad G 129)), (1, vI 3)]) rfl (Nat.le_of_ble_eq_true rfl) (fun p e R s m args below meth c Q hC hr hQ => ?_)
  have h0 := hI.c
  obtain ⟨lf0, hlf0⟩ := hl0
  obtain ⟨rf0, hrf0⟩ := hr0
  have hle0 := hT.le
  refine k_aload_n hC dX7_readConjunction_0 rfl 0 rfl ?_
  refine k_iload_n hC dX7_readConjunction_1 rfl 1 rfl ?_
  refine k_mutV hC (c_X7_readFactor_3 l hls G hN w fl bt n st g hn2 hn7 hb h2 hT h129 hI hLg h10 h11 hD ⟨_, hlf0⟩ ⟨_, hrf0⟩) yy_X7_readFactor wm_X7_45 (kl hN (by decide)) h129 rfl rfl rfl rfl (Nat.le_of_ble_eq_true rfl) (by decide) (by decide) ⟨by decide, by decide⟩ dX7_readConjunction_2 (fun w1 hp1 => ?_)
  obtain ⟨hT1, ⟨⟨lf1, hlf1⟩, rf1, hrf1⟩, hf1⟩ := hp1
  obtain ⟨st_2, est_2⟩ : ∃ z : PS, z = (qG (pV g) bt n 3 st).1 := ⟨_, rfl⟩
  rw [← est_2] at hT1
  refine k_istore_n hC [(2, vI ((mkN ((qG (pV g) bt n 3 st).2.2) (g 2).toNat : Nat) : Int)), (0, .ref (kad G 129)), (1, vI 3)] dX7_readConjunction_5 rfl (by decide) rfl ?_
  refine k_iconst hC dX7_readConjunction_6 ?_
  refine k_istore_n hC [(3, vI 0), (2, vI ((mkN ((qG (pV g) bt n 3 st).2.2) (g 2).toNat : Nat) : Int)), (0, .ref (kad G 129)), (1, vI 3)] dX7_readConjunction_7 rfl (by decide) rfl ?_
  have hG := endG (V := pV g) (bt := bt) (n := n) (w := 37) (c := -24) (F := qG (pV g) bt n 3) (F1 := qF (pV g) bt n 3) (r0 := qG (pV g) bt n 3 st) (r1 := qF (pV g) bt n 3 st) hn2 hle0 (Or.inl rfl) (gq_qF (V := pV g) (bt := bt) (n := n) 3) (rel_qF 3) (gq_qF (V := pV g) (bt := bt) (n := n) 3 st) (rel_qF 3 st)
  have loop2 : ∀ (nw : Nat) (k : Nat) (rr : QR) (st9 : PS) (lf : Nat → Int) (rf : Nat → Int) (wvw : Nat → va_E), (200 < nw + k) → (k ≤ 200) → (rr = cjN bt n 37 (-24) (qG (pV g) bt n 3) k (qG (pV g) bt n 3 st)) → (st9 = rr.1) → (wvw 2 = bA G 700 (fun j => sb8 (bt j))) → (wvw 129 = .inr (7, [.ref (kad G 1), .ref (kad G 3), .ref (kad G 10), .ref (kad G 130), .ref (kad G 131)])) → (wvw 130 = iA G 12 lf) → (wvw 131 = iA G 12 rf) → (tkR G wvw bt n st9) → (kLog G wvw 3 g) → (kDrawn wvw g 0 ((g 2).toNat)) → ((∀ j, (j ≠ 1 ∧ j ≠ 130 ∧ j ≠ 131) → wvw j = w j)) → KW p l e R s m args below meth c 4 G Q wvw fl 0 0 8 [(3, vI (k : Int)), (2, vI ((mkN rr.2.2 (g 2).toNat : Nat) : Int)), (0, .ref (kad G 129)), (1, vI 3)] [] := by
    intro nw
    induction nw with
    | zero =>
      intro k rr st9 lf rf wvw hn_w hk9 hx hst9 hb9 h129q hlq hrq hTq hLq hDq hfrw
      exact absurd hn_w (by omega)
    | succ nw ihw =>
      intro k rr st9 lf rf wvw hn_w hk9 hx hst9 hb9 h129q hlq hrq hTq hLq hDq hfrw
      have h10q := (hfrw 10 (by omega)).trans h10
      have h11q := (hfrw 11 (by omega)).trans h11
      refine k_iload_n hC dX7_readConjunction_8 rfl 0 rfl ?_
      refine k_sipush hC dX7_readConjunction_9 (by decide) ?_
      refine k_icmp_ge hC 48 dX7_readConjunction_12 rfl (by omega) (by omega) (fun c_12 => ?_) (fun c_12 => ?_)
      · have hwn : ¬ isW bt n 37 st9 := fun q => by have := hG.2 k (by rw [← hx, ← hst9]; exact q); omega
        refine k_iload_n hC dX7_readConjunction_48 rfl 1 rfl ?_
        have hfin : rr = conM bt n (qG (pV g) bt n 3) st := by rw [hx]; exact cjN_eq (by rw [← hx, ← hst9]; exact hwn) hG.1
        subst hQ
        exact k_iret hC hr ⟨by decide, by decide⟩ (⟨congrArg (fun z => some (vI ((z : Nat) : Int))) (by rw [← hfin]), rfl, (by have e : st9 = (conM bt n (qG (pV g) bt n 3) st).1 := (by rw [← hfin]; exact hst9); rw [← e]; exact hTq), ⟨⟨_, hlq⟩, _, hrq⟩, fun j hj => hfrw j (by omega)⟩) dX7_readConjunction_49
      · refine k_aload_n hC dX7_readConjunction_15 rfl 2 rfl ?_
        refine k_get hC fd_X7_18 (kl hN (by decide)) h129q rfl dX7_readConjunction_16 ?_
        refine k_ldcs hC (List.mem_of_getElem? (i := 39) rfl) dX7_readConjunction_19 ?_
        have hTco_3 := hTq
        obtain ⟨cno_3, eao_3, kdo_3, nmo_3, sao_3, nxo_3, h1o_3, -⟩ := hTco_3
        refine k_pureV hC (c_X10_isWord l hls G hN wvw fl bt n st9 37 (by decide) hn7 hb hb9 hTq) yy_X10_isWord wm_X7_36 (kl hN (by decide)) h1o_3 rfl rfl rfl rfl (Nat.le_of_ble_eq_true rfl) (by decide) (by decide) ⟨by decide, by decide⟩ dX7_readConjunction_21 ?_
        obtain ⟨z_4, ez_4, hz_4⟩ := selI_c (isW bt n 37 st9)
        refine k_topv (vI z_4) (by rw [ez_4]) ?_
        refine k_if_eq hC 48 dX7_readConjunction_24 rfl (by omega) (fun c_24 => ?_) (fun c_24 => ?_)
        · have hwn : ¬ isW bt n 37 st9 := (hz_4.resolve_left (fun q1 => by omega)).2
          refine k_iload_n hC dX7_readConjunction_48 rfl 1 rfl ?_
          have hfin : rr = conM bt n (qG (pV g) bt n 3) st := by rw [hx]; exact cjN_eq (by rw [← hx, ← hst9]; exact hwn) hG.1
          subst hQ
          exact k_iret hC hr ⟨by decide, by decide⟩ (⟨congrArg (fun z => some (vI ((z : Nat) : Int))) (by rw [← hfin]), rfl, (by have e : st9 = (conM bt n (qG (pV g) bt n 3) st).1 := (by rw [← hfin]; exact hst9); rw [← e]; exact hTq), ⟨⟨_, hlq⟩, _, hrq⟩, fun j hj => hfrw j (by omega)⟩) dX7_readConjunction_49
        · have hwr : isW bt n 37 rr.1 := by rw [← hst9]; exact (hz_4.resolve_right (fun q1 => by omega)).2
          refine k_aload_n hC dX7_readConjunction_27 rfl 2 rfl ?_
          refine k_get hC fd_X7_18 (kl hN (by decide)) h129q rfl dX7_readConjunction_28 ?_
          obtain ⟨cn5, ea5, kd5, nm5, sa5, p95, hp95, h15, hadv5⟩ := tk_open hTq
          refine k_muvV hC (c_X10_advance l hls G hN wvw fl bt n p95 cn5 st9.1 ea5 kd5 nm5 sa5 hn7 hp95 hb hb9 h15) yy_X10_advance wm_X7_42 (kl hN (by decide)) h15 rfl rfl rfl rfl (Nat.le_of_ble_eq_true rfl) (by decide) (by decide) ⟨by decide, by decide⟩ dX7_readConjunction_31 (fun w5 hp5 => ?_)
          obtain ⟨hq5, hf5⟩ := hp5
          have hT5 := hadv5 _ hq5
          obtain ⟨st_6, est_6⟩ : ∃ z : PS, z = adP bt n st9 := ⟨_, rfl⟩
          rw [← est_6] at hT5
          refine k_iload_n hC dX7_readConjunction_34 rfl 1 rfl ?_
          refine k_aload_n hC dX7_readConjunction_35 rfl 2 rfl ?_
          refine k_iload_n hC dX7_readConjunction_36 rfl 3 rfl ?_
          have h_8 : w5 130 = iA G 12 lf := (hf5 130 (by decide)).trans hlq
          have h_9 : w5 131 = iA G 12 rf := (hf5 131 (by decide)).trans hrq
          have h_10 : w5 2 = bA G 700 (fun j => sb8 (bt j)) := (hf5 2 (by decide)).trans hb9
          have h_11 : w5 129 = .inr (7, [.ref (kad G 1), .ref (kad G 3), .ref (kad G 10), .ref (kad G 130), .ref (kad G 131)]) := (hf5 129 (by decide)).trans h129q
          have hB_12 : kLog G w5 3 g := hLq.fr (fun j q1 q2 => (hf5 j (by omega)))
          have h_13 : w5 10 = .inr (0, [.ref (kad G 11), .ref (kad G 12), .ref (kad G 13), .ref (kad G 14), .ref (kad G 15), .ref (kad G 16)]) := (hf5 10 (by decide)).trans h10q
          have h_14 : w5 11 = rA G 4 12 (fun j => some (kad G (20 + j))) := (hf5 11 (by decide)).trans h11q
          have hB_15 : kDrawn w5 g 0 ((g 2).toNat) := hDq.fr (fun j q1 q2 => (hf5 j (by omega)))
          refine k_mutV hC (c_X7_readFactor_3 l hls G hN w5 fl bt n st_6 g hn2 hn7 hb h_10 hT5 h_11 hI hB_12 h_13 h_14 hB_15 ⟨_, h_8⟩ ⟨_, h_9⟩) yy_X7_readFactor wm_X7_45 (kl hN (by decide)) h_11 rfl rfl rfl rfl (Nat.le_of_ble_eq_true rfl) (by decide) (by decide) ⟨by decide, by decide⟩ dX7_readConjunction_37 (fun w7 hp7 => ?_)
          obtain ⟨hT7, ⟨⟨lf7, hlf7⟩, rf7, hrf7⟩, hf7⟩ := hp7
          obtain ⟨st_16, est_16⟩ : ∃ z : PS, z = (qG (pV g) bt n 3 st_6).1 := ⟨_, rfl⟩
          rw [← est_16] at hT7
          refine k_iandN hC (a := mkN rr.2.2 (g 2).toNat) (b := mkN ((qG (pV g) bt n 3 st_6).2.2) (g 2).toNat) dX7_readConjunction_40 ?_
          refine k_topv (vI ((mkN ((and2 (-24) rr (qG (pV g) bt n 3 st_6)).2.2) (g 2).toNat : Nat) : Int)) (congrArg (fun q : Nat => vI (q : Int)) ((mkN_and _ _ _).trans (mkN_c _ (fun i _ => (if_pos rfl).symm)))) ?_
          refine k_istore_n hC [(2, vI ((mkN ((and2 (-24) rr (qG (pV g) bt n 3 st_6)).2.2) (g 2).toNat : Nat) : Int)), (3, vI (k : Int)), (0, .ref (kad G 129)), (1, vI 3)] dX7_readConjunction_41 rfl (by decide) rfl ?_
          refine k_iinc hC (y := (k : Int) + 1) [(3, vI ((k : Int) + 1)), (2, vI ((mkN ((and2 (-24) rr (qG (pV g) bt n 3 st_6)).2.2) (g 2).toNat : Nat) : Int)), (0, .ref (kad G 129)), (1, vI 3)] (j := 1) dX7_readConjunction_42 rfl (by omega) (by decide) rfl ?_
          refine k_goto hC 8 dX7_readConjunction_45 rfl ?_
          refine k_lvs (ls := [0, 1, 2, 3]) [(3, vI ((k + 1 : Nat) : Int)), (2, vI ((mkN ((and2 (-24) rr (qG (pV g) bt n 3 st_6)).2.2) (g 2).toNat : Nat) : Int)), (0, .ref (kad G 129)), (1, vI 3)] (by simp only [lv_pick]; rfl) ?_
          have h_17 : w7 2 = bA G 700 (fun j => sb8 (bt j)) := (hf7 2 (by decide)).trans h_10
          have h_18 : w7 129 = .inr (7, [.ref (kad G 1), .ref (kad G 3), .ref (kad G 10), .ref (kad G 130), .ref (kad G 131)]) := (hf7 129 (by decide)).trans h_11
          have hB_19 : kLog G w7 3 g := hB_12.fr (fun j q1 q2 => (hf7 j (by omega)))
          have hB_20 : kDrawn w7 g 0 ((g 2).toNat) := hB_15.fr (fun j q1 q2 => (hf7 j (by omega)))
          exact ihw (k + 1) (and2 (-24) rr (qG (pV g) bt n 3 st_6)) st_16 lf7 rf7 w7 (by omega) (by omega) (by rw [cjN_go k _ (by rw [← hx]; exact hwr), ← hx, est_6, hst9]) est_16 h_17 h_18 hlf7 hrf7 hT7 hB_19 hB_20 (fun j hj => (hf7 j (by omega)).trans ((hf5 j (by omega)).trans (hfrw j (by omega))))
  refine k_lvs (ls := [0, 1, 2, 3]) [(3, vI ((0 : Nat) : Int)), (2, vI ((mkN ((qG (pV g) bt n 3 st).2.2) (g 2).toNat : Nat) : Int)), (0, .ref (kad G 129)), (1, vI 3)] (by simp only [lv_pick]; rfl) ?_
  have h_21 : w1 2 = bA G 700 (fun j => sb8 (bt j)) := (hf1 2 (by decide)).trans h2
  have h_22 : w1 129 = .inr (7, [.ref (kad G 1), .ref (kad G 3), .ref (kad G 10), .ref (kad G 130), .ref (kad G 131)]) := (hf1 129 (by decide)).trans h129
  have hB_23 : kLog G w1 3 g := hLg.fr (fun j q1 q2 => (hf1 j (by omega)))
  have hB_24 : kDrawn w1 g 0 ((g 2).toNat) := hD.fr (fun j q1 q2 => (hf1 j (by omega)))
  exact loop2 201 0 (qG (pV g) bt n 3 st) st_2 lf1 rf1 w1 (by omega) (by omega) rfl est_2 h_21 h_22 hlf1 hrf1 hT1 hB_23 hB_24 (fun j hj => hf1 j (by omega))

set_option maxRecDepth 100000 in
set_option maxHeartbeats 4000000 in
theorem c_X7_readTest_3 (l : Launch) (hls : l.stackTraces = false) (G : kG) (hN : 133 ≤ kN G) (w : Nat → va_E) (fl : va_W) (bt : Nat → Int) (n : Nat) (st : PS) (g : Nat → Int) (hn2 : n ≤ 200) (hn7 : n ≤ 700) (hb : btOK bt) (h2 : w 2 = byA G bt) (hT : tkR G w bt n st) (h129 : w 129 = qdO G) (hI : Inv g) (hLg : kLog G w 3 g) (h10 : w 10 = chO G) (h11 : w 11 = liA G) (hD : kDrawn w g 0 (g 2).toNat) (hl0 : ∃ lf, w 130 = iA G 12 lf) (hr0 : ∃ rf, w 131 = iA G 12 rf) : KM l G yX7_readTest cX7_readTest 4 (some (FieldType.int)) 18 0 0 [.ref (kad G 129), vI 3] w fl (kMut (vI ((mkN ((tstM bt n (qG (pV g) bt n 3) st).2.2) (g 2).toNat : Nat) : Int)) fl (fun w1 => tkR G w1 bt n ((tstM bt n (qG (pV g) bt n 3) st).1) ∧ ((∃ lf, w1 130 = iA G 12 lf) ∧ ∃ rf, w1 131 = iA G 12 rf) ∧ ∀ j, (j ≠ 1 ∧ j ≠ 130 ∧ j ≠ 131) → w1 j = w j)) := by
  refine KM_of2 hls (by decide +kernel) rfl (lv0 := [(0, .ref (kad G 129)), (1, vI 3)]) rfl (Nat.le_of_ble_eq_true rfl) (fun p e R s m args below meth c Q hC hr hQ => ?_)
  have h0 := hI.c
  obtain ⟨lf0, hlf0⟩ := hl0
  obtain ⟨rf0, hrf0⟩ := hr0
  have hle0 := hT.le
  refine k_aload_n hC dX7_readTest_0 rfl 0 rfl ?_
  refine k_iload_n hC dX7_readTest_1 rfl 1 rfl ?_
  refine k_mutV hC (c_X7_readConjunction_3 l hls G hN w fl bt n st g hn2 hn7 hb h2 hT h129 hI hLg h10 h11 hD ⟨_, hlf0⟩ ⟨_, hrf0⟩) yy_X7_readConjunction wm_X7_30 (kl hN (by decide)) h129 rfl rfl rfl rfl (Nat.le_of_ble_eq_true rfl) (by decide) (by decide) ⟨by decide, by decide⟩ dX7_readTest_2 (fun w1 hp1 => ?_)
  obtain ⟨hT1, ⟨⟨lf1, hlf1⟩, rf1, hrf1⟩, hf1⟩ := hp1
  obtain ⟨st_2, est_2⟩ : ∃ z : PS, z = (conM bt n (qG (pV g) bt n 3) st).1 := ⟨_, rfl⟩
  rw [← est_2] at hT1
  refine k_istore_n hC [(2, vI ((mkN ((conM bt n (qG (pV g) bt n 3) st).2.2) (g 2).toNat : Nat) : Int)), (0, .ref (kad G 129)), (1, vI 3)] dX7_readTest_5 rfl (by decide) rfl ?_
  refine k_iconst hC dX7_readTest_6 ?_
  refine k_istore_n hC [(3, vI 0), (2, vI ((mkN ((conM bt n (qG (pV g) bt n 3) st).2.2) (g 2).toNat : Nat) : Int)), (0, .ref (kad G 129)), (1, vI 3)] dX7_readTest_7 rfl (by decide) rfl ?_
  have hG := endG (V := pV g) (bt := bt) (n := n) (w := 38) (c := -25) (F := conM bt n (qG (pV g) bt n 3)) (F1 := conM bt n (qF (pV g) bt n 3)) (r0 := conM bt n (qG (pV g) bt n 3) st) (r1 := conM bt n (qF (pV g) bt n 3) st) hn2 hle0 (Or.inr rfl) (gq_con (gq_qF (V := pV g) (bt := bt) (n := n) 3)) (rel_con (rel_qF 3)) (gq_con (gq_qF (V := pV g) (bt := bt) (n := n) 3) st) (rel_con (rel_qF 3) st)
  have loop2 : ∀ (nw : Nat) (k : Nat) (rr : QR) (st9 : PS) (lf : Nat → Int) (rf : Nat → Int) (wvw : Nat → va_E), (200 < nw + k) → (k ≤ 200) → (rr = cjN bt n 38 (-25) (conM bt n (qG (pV g) bt n 3)) k (conM bt n (qG (pV g) bt n 3) st)) → (st9 = rr.1) → (wvw 2 = bA G 700 (fun j => sb8 (bt j))) → (wvw 129 = .inr (7, [.ref (kad G 1), .ref (kad G 3), .ref (kad G 10), .ref (kad G 130), .ref (kad G 131)])) → (wvw 130 = iA G 12 lf) → (wvw 131 = iA G 12 rf) → (tkR G wvw bt n st9) → (kLog G wvw 3 g) → (kDrawn wvw g 0 ((g 2).toNat)) → ((∀ j, (j ≠ 1 ∧ j ≠ 130 ∧ j ≠ 131) → wvw j = w j)) → KW p l e R s m args below meth c 4 G Q wvw fl 0 0 8 [(3, vI (k : Int)), (2, vI ((mkN rr.2.2 (g 2).toNat : Nat) : Int)), (0, .ref (kad G 129)), (1, vI 3)] [] := by
    intro nw
    induction nw with
    | zero =>
      intro k rr st9 lf rf wvw hn_w hk9 hx hst9 hb9 h129q hlq hrq hTq hLq hDq hfrw
      exact absurd hn_w (by omega)
    | succ nw ihw =>
      intro k rr st9 lf rf wvw hn_w hk9 hx hst9 hb9 h129q hlq hrq hTq hLq hDq hfrw
      have h10q := (hfrw 10 (by omega)).trans h10
      have h11q := (hfrw 11 (by omega)).trans h11
      refine k_iload_n hC dX7_readTest_8 rfl 0 rfl ?_
      refine k_sipush hC dX7_readTest_9 (by decide) ?_
      refine k_icmp_ge hC 48 dX7_readTest_12 rfl (by omega) (by omega) (fun c_12 => ?_) (fun c_12 => ?_)
      · have hwn : ¬ isW bt n 38 st9 := fun q => by have := hG.2 k (by rw [← hx, ← hst9]; exact q); omega
        refine k_iload_n hC dX7_readTest_48 rfl 1 rfl ?_
        have hfin : rr = tstM bt n (qG (pV g) bt n 3) st := by rw [hx]; exact cjN_eq (by rw [← hx, ← hst9]; exact hwn) hG.1
        subst hQ
        exact k_iret hC hr ⟨by decide, by decide⟩ (⟨congrArg (fun z => some (vI ((z : Nat) : Int))) (by rw [← hfin]), rfl, (by have e : st9 = (tstM bt n (qG (pV g) bt n 3) st).1 := (by rw [← hfin]; exact hst9); rw [← e]; exact hTq), ⟨⟨_, hlq⟩, _, hrq⟩, fun j hj => hfrw j (by omega)⟩) dX7_readTest_49
      · refine k_aload_n hC dX7_readTest_15 rfl 2 rfl ?_
        refine k_get hC fd_X7_18 (kl hN (by decide)) h129q rfl dX7_readTest_16 ?_
        refine k_ldcs hC (List.mem_of_getElem? (i := 40) rfl) dX7_readTest_19 ?_
        have hTco_3 := hTq
        obtain ⟨cno_3, eao_3, kdo_3, nmo_3, sao_3, nxo_3, h1o_3, -⟩ := hTco_3
        refine k_pureV hC (c_X10_isWord l hls G hN wvw fl bt n st9 38 (by decide) hn7 hb hb9 hTq) yy_X10_isWord wm_X7_36 (kl hN (by decide)) h1o_3 rfl rfl rfl rfl (Nat.le_of_ble_eq_true rfl) (by decide) (by decide) ⟨by decide, by decide⟩ dX7_readTest_21 ?_
        obtain ⟨z_4, ez_4, hz_4⟩ := selI_c (isW bt n 38 st9)
        refine k_topv (vI z_4) (by rw [ez_4]) ?_
        refine k_if_eq hC 48 dX7_readTest_24 rfl (by omega) (fun c_24 => ?_) (fun c_24 => ?_)
        · have hwn : ¬ isW bt n 38 st9 := (hz_4.resolve_left (fun q1 => by omega)).2
          refine k_iload_n hC dX7_readTest_48 rfl 1 rfl ?_
          have hfin : rr = tstM bt n (qG (pV g) bt n 3) st := by rw [hx]; exact cjN_eq (by rw [← hx, ← hst9]; exact hwn) hG.1
          subst hQ
          exact k_iret hC hr ⟨by decide, by decide⟩ (⟨congrArg (fun z => some (vI ((z : Nat) : Int))) (by rw [← hfin]), rfl, (by have e : st9 = (tstM bt n (qG (pV g) bt n 3) st).1 := (by rw [← hfin]; exact hst9); rw [← e]; exact hTq), ⟨⟨_, hlq⟩, _, hrq⟩, fun j hj => hfrw j (by omega)⟩) dX7_readTest_49
        · have hwr : isW bt n 38 rr.1 := by rw [← hst9]; exact (hz_4.resolve_right (fun q1 => by omega)).2
          refine k_aload_n hC dX7_readTest_27 rfl 2 rfl ?_
          refine k_get hC fd_X7_18 (kl hN (by decide)) h129q rfl dX7_readTest_28 ?_
          obtain ⟨cn5, ea5, kd5, nm5, sa5, p95, hp95, h15, hadv5⟩ := tk_open hTq
          refine k_muvV hC (c_X10_advance l hls G hN wvw fl bt n p95 cn5 st9.1 ea5 kd5 nm5 sa5 hn7 hp95 hb hb9 h15) yy_X10_advance wm_X7_42 (kl hN (by decide)) h15 rfl rfl rfl rfl (Nat.le_of_ble_eq_true rfl) (by decide) (by decide) ⟨by decide, by decide⟩ dX7_readTest_31 (fun w5 hp5 => ?_)
          obtain ⟨hq5, hf5⟩ := hp5
          have hT5 := hadv5 _ hq5
          obtain ⟨st_6, est_6⟩ : ∃ z : PS, z = adP bt n st9 := ⟨_, rfl⟩
          rw [← est_6] at hT5
          refine k_iload_n hC dX7_readTest_34 rfl 1 rfl ?_
          refine k_aload_n hC dX7_readTest_35 rfl 2 rfl ?_
          refine k_iload_n hC dX7_readTest_36 rfl 3 rfl ?_
          have h_8 : w5 130 = iA G 12 lf := (hf5 130 (by decide)).trans hlq
          have h_9 : w5 131 = iA G 12 rf := (hf5 131 (by decide)).trans hrq
          have h_10 : w5 2 = bA G 700 (fun j => sb8 (bt j)) := (hf5 2 (by decide)).trans hb9
          have h_11 : w5 129 = .inr (7, [.ref (kad G 1), .ref (kad G 3), .ref (kad G 10), .ref (kad G 130), .ref (kad G 131)]) := (hf5 129 (by decide)).trans h129q
          have hB_12 : kLog G w5 3 g := hLq.fr (fun j q1 q2 => (hf5 j (by omega)))
          have h_13 : w5 10 = .inr (0, [.ref (kad G 11), .ref (kad G 12), .ref (kad G 13), .ref (kad G 14), .ref (kad G 15), .ref (kad G 16)]) := (hf5 10 (by decide)).trans h10q
          have h_14 : w5 11 = rA G 4 12 (fun j => some (kad G (20 + j))) := (hf5 11 (by decide)).trans h11q
          have hB_15 : kDrawn w5 g 0 ((g 2).toNat) := hDq.fr (fun j q1 q2 => (hf5 j (by omega)))
          refine k_mutV hC (c_X7_readConjunction_3 l hls G hN w5 fl bt n st_6 g hn2 hn7 hb h_10 hT5 h_11 hI hB_12 h_13 h_14 hB_15 ⟨_, h_8⟩ ⟨_, h_9⟩) yy_X7_readConjunction wm_X7_30 (kl hN (by decide)) h_11 rfl rfl rfl rfl (Nat.le_of_ble_eq_true rfl) (by decide) (by decide) ⟨by decide, by decide⟩ dX7_readTest_37 (fun w7 hp7 => ?_)
          obtain ⟨hT7, ⟨⟨lf7, hlf7⟩, rf7, hrf7⟩, hf7⟩ := hp7
          obtain ⟨st_16, est_16⟩ : ∃ z : PS, z = (conM bt n (qG (pV g) bt n 3) st_6).1 := ⟨_, rfl⟩
          rw [← est_16] at hT7
          refine k_iorN hC (a := mkN rr.2.2 (g 2).toNat) (b := mkN ((conM bt n (qG (pV g) bt n 3) st_6).2.2) (g 2).toNat) dX7_readTest_40 ?_
          refine k_topv (vI ((mkN ((and2 (-25) rr (conM bt n (qG (pV g) bt n 3) st_6)).2.2) (g 2).toNat : Nat) : Int)) (congrArg (fun q : Nat => vI (q : Int)) ((mkN_or _ _ _).trans (mkN_c _ (fun i _ => (if_neg (by decide)).symm)))) ?_
          refine k_istore_n hC [(2, vI ((mkN ((and2 (-25) rr (conM bt n (qG (pV g) bt n 3) st_6)).2.2) (g 2).toNat : Nat) : Int)), (3, vI (k : Int)), (0, .ref (kad G 129)), (1, vI 3)] dX7_readTest_41 rfl (by decide) rfl ?_
          refine k_iinc hC (y := (k : Int) + 1) [(3, vI ((k : Int) + 1)), (2, vI ((mkN ((and2 (-25) rr (conM bt n (qG (pV g) bt n 3) st_6)).2.2) (g 2).toNat : Nat) : Int)), (0, .ref (kad G 129)), (1, vI 3)] (j := 1) dX7_readTest_42 rfl (by omega) (by decide) rfl ?_
          refine k_goto hC 8 dX7_readTest_45 rfl ?_
          refine k_lvs (ls := [0, 1, 2, 3]) [(3, vI ((k + 1 : Nat) : Int)), (2, vI ((mkN ((and2 (-25) rr (conM bt n (qG (pV g) bt n 3) st_6)).2.2) (g 2).toNat : Nat) : Int)), (0, .ref (kad G 129)), (1, vI 3)] (by simp only [lv_pick]; rfl) ?_
          have h_17 : w7 2 = bA G 700 (fun j => sb8 (bt j)) := (hf7 2 (by decide)).trans h_10
          have h_18 : w7 129 = .inr (7, [.ref (kad G 1), .ref (kad G 3), .ref (kad G 10), .ref (kad G 130), .ref (kad G 131)]) := (hf7 129 (by decide)).trans h_11
          have hB_19 : kLog G w7 3 g := hB_12.fr (fun j q1 q2 => (hf7 j (by omega)))
          have hB_20 : kDrawn w7 g 0 ((g 2).toNat) := hB_15.fr (fun j q1 q2 => (hf7 j (by omega)))
          exact ihw (k + 1) (and2 (-25) rr (conM bt n (qG (pV g) bt n 3) st_6)) st_16 lf7 rf7 w7 (by omega) (by omega) (by rw [cjN_go k _ (by rw [← hx]; exact hwr), ← hx, est_6, hst9]) est_16 h_17 h_18 hlf7 hrf7 hT7 hB_19 hB_20 (fun j hj => (hf7 j (by omega)).trans ((hf5 j (by omega)).trans (hfrw j (by omega))))
  refine k_lvs (ls := [0, 1, 2, 3]) [(3, vI ((0 : Nat) : Int)), (2, vI ((mkN ((conM bt n (qG (pV g) bt n 3) st).2.2) (g 2).toNat : Nat) : Int)), (0, .ref (kad G 129)), (1, vI 3)] (by simp only [lv_pick]; rfl) ?_
  have h_21 : w1 2 = bA G 700 (fun j => sb8 (bt j)) := (hf1 2 (by decide)).trans h2
  have h_22 : w1 129 = .inr (7, [.ref (kad G 1), .ref (kad G 3), .ref (kad G 10), .ref (kad G 130), .ref (kad G 131)]) := (hf1 129 (by decide)).trans h129
  have hB_23 : kLog G w1 3 g := hLg.fr (fun j q1 q2 => (hf1 j (by omega)))
  have hB_24 : kDrawn w1 g 0 ((g 2).toNat) := hD.fr (fun j q1 q2 => (hf1 j (by omega)))
  exact loop2 201 0 (conM bt n (qG (pV g) bt n 3) st) st_2 lf1 rf1 w1 (by omega) (by omega) rfl est_2 h_21 h_22 hlf1 hrf1 hT1 hB_23 hB_24 (fun j hj => hf1 j (by omega))

set_option maxRecDepth 100000 in
set_option maxHeartbeats 4000000 in
theorem c_X7_readFactor_4 (l : Launch) (hls : l.stackTraces = false) (G : kG) (hN : 133 ≤ kN G) (w : Nat → va_E) (fl : va_W) (bt : Nat → Int) (n : Nat) (st : PS) (g : Nat → Int) (hn2 : n ≤ 200) (hn7 : n ≤ 700) (hb : btOK bt) (h2 : w 2 = byA G bt) (hT : tkR G w bt n st) (h129 : w 129 = qdO G) (hI : Inv g) (hLg : kLog G w 3 g) (h10 : w 10 = chO G) (h11 : w 11 = liA G) (hD : kDrawn w g 0 (g 2).toNat) (hl0 : ∃ lf, w 130 = iA G 12 lf) (hr0 : ∃ rf, w 131 = iA G 12 rf) : KM l G yX7_readFactor cX7_readFactor 4 (some (FieldType.int)) 19 0 0 [.ref (kad G 129), vI 2] w fl (kMut (vI ((mkN ((qG (pV g) bt n 4 st).2.2) (g 2).toNat : Nat) : Int)) fl (fun w1 => tkR G w1 bt n ((qG (pV g) bt n 4 st).1) ∧ ((∃ lf, w1 130 = iA G 12 lf) ∧ ∃ rf, w1 131 = iA G 12 rf) ∧ ∀ j, (j ≠ 1 ∧ j ≠ 130 ∧ j ≠ 131) → w1 j = w j)) := by
  refine KM_of2 hls (by decide +kernel) rfl (lv0 := [(0, .ref (kad G 129)), (1, vI 2)]) rfl (Nat.le_of_ble_eq_true rfl) (fun p e R s m args below meth c Q hC hr hQ => ?_)
  have h0 := hI.c
  obtain ⟨lf0, hlf0⟩ := hl0
  obtain ⟨rf0, hrf0⟩ := hr0
  have hle0 := hT.le
  refine k_aload_n hC dX7_readFactor_0 rfl 0 rfl ?_
  refine k_get hC fd_X7_18 (kl hN (by decide)) h129 rfl dX7_readFactor_1 ?_
  refine k_ldcs hC (List.mem_of_getElem? (i := 31) rfl) dX7_readFactor_4 ?_
  have hTco_1 := hT
  obtain ⟨cno_1, eao_1, kdo_1, nmo_1, sao_1, nxo_1, h1o_1, -⟩ := hTco_1
  refine k_pureV hC (c_X10_isWord l hls G hN w fl bt n st 31 (by decide) hn7 hb h2 hT) yy_X10_isWord wm_X7_36 (kl hN (by decide)) h1o_1 rfl rfl rfl rfl (Nat.le_of_ble_eq_true rfl) (by decide) (by decide) ⟨by decide, by decide⟩ dX7_readFactor_6 ?_
  obtain ⟨z_2, ez_2, hz_2⟩ := selI_c (isW bt n 31 st)
  refine k_topv (vI z_2) (by rw [ez_2]) ?_
  refine k_istore_n hC [(2, vI z_2), (0, .ref (kad G 129)), (1, vI 2)] dX7_readFactor_9 rfl (by decide) rfl ?_
  refine k_iload_n hC dX7_readFactor_10 rfl 0 rfl ?_
  refine k_if_ne hC 31 dX7_readFactor_11 rfl (by omega) (fun c_11 => ?_) (fun c_11 => ?_)
  · have hw31 : isW bt n 31 st := (hz_2.resolve_right (fun q1 => by omega)).2
    refine k_iload_n hC dX7_readFactor_31 rfl 2 rfl ?_
    refine k_bipush hC dX7_readFactor_32 (by decide) ?_
    refine k_icmp_lt hC 47 dX7_readFactor_34 rfl (by omega) (by omega) (fun c_34 => ?_) (fun c_34 => absurd c_34 (by omega))
    refine k_aload_n hC dX7_readFactor_47 rfl 1 rfl ?_
    refine k_get hC fd_X7_18 (kl hN (by decide)) h129 rfl dX7_readFactor_48 ?_
    obtain ⟨cn3, ea3, kd3, nm3, sa3, p93, hp93, h13, hadv3⟩ := tk_open hT
    refine k_muvV hC (c_X10_advance l hls G hN w fl bt n p93 cn3 st.1 ea3 kd3 nm3 sa3 hn7 hp93 hb h2 h13) yy_X10_advance wm_X7_42 (kl hN (by decide)) h13 rfl rfl rfl rfl (Nat.le_of_ble_eq_true rfl) (by decide) (by decide) ⟨by decide, by decide⟩ dX7_readFactor_51 (fun w3 hp3 => ?_)
    obtain ⟨hq3, hf3⟩ := hp3
    have hT3 := hadv3 _ hq3
    obtain ⟨st_4, est_4⟩ : ∃ z : PS, z = adP bt n st := ⟨_, rfl⟩
    rw [← est_4] at hT3
    refine k_iload_n hC dX7_readFactor_54 rfl 0 rfl ?_
    refine k_if_eq hC 82 dX7_readFactor_55 rfl (by omega) (fun c_55 => absurd c_55 (by omega)) (fun c_55 => ?_)
    refine k_iconst hC dX7_readFactor_58 ?_
    refine k_aload_n hC dX7_readFactor_59 rfl 1 rfl ?_
    have h_5 : w3 129 = .inr (7, [.ref (kad G 1), .ref (kad G 3), .ref (kad G 10), .ref (kad G 130), .ref (kad G 131)]) := (hf3 129 (by decide)).trans h129
    refine k_get hC fd_X7_22 (kl hN (by decide)) h_5 rfl dX7_readFactor_60 ?_
    have hB_6 : kLog G w3 3 g := hLg.fr (fun j q1 q2 => (hf3 j (by omega)))
    refine k_get hC fd_X7_64 (kl hN (by decide)) hB_6.1 rfl dX7_readFactor_63 ?_
    refine k_topv (vI (((g 2).toNat : Int))) (congrArg vI (by omega)) ?_
    refine k_ishl1 hC (n := (((g 2).toNat : Int)).toNat) (by omega) dX7_readFactor_66 ?_
    refine k_iconst hC dX7_readFactor_67 ?_
    refine k_isub hC dX7_readFactor_68 ?_
    refine k_istore_n hC [(3, vI (((2 ^ ((((g 2).toNat : Int)).toNat) : Nat) : Int) - 1)), (2, vI z_2), (0, .ref (kad G 129)), (1, vI 2)] dX7_readFactor_69 rfl (by decide) rfl ?_
    refine k_iload_n hC dX7_readFactor_70 rfl 0 rfl ?_
    refine k_aload_n hC dX7_readFactor_71 rfl 2 rfl ?_
    refine k_iload_n hC dX7_readFactor_72 rfl 3 rfl ?_
    refine k_iconst hC dX7_readFactor_73 ?_
    refine k_iadd hC dX7_readFactor_74 ?_
    refine k_topv (vI 3) (congrArg vI (by decide)) ?_
    have h_8 : w3 130 = iA G 12 lf0 := (hf3 130 (by decide)).trans hlf0
    have h_9 : w3 131 = iA G 12 rf0 := (hf3 131 (by decide)).trans hrf0
    have h_10 : w3 2 = bA G 700 (fun j => sb8 (bt j)) := (hf3 2 (by decide)).trans h2
    have h_11 : w3 10 = .inr (0, [.ref (kad G 11), .ref (kad G 12), .ref (kad G 13), .ref (kad G 14), .ref (kad G 15), .ref (kad G 16)]) := (hf3 10 (by decide)).trans h10
    have h_12 : w3 11 = rA G 4 12 (fun j => some (kad G (20 + j))) := (hf3 11 (by decide)).trans h11
    have hB_13 : kDrawn w3 g 0 ((g 2).toNat) := hD.fr (fun j q1 q2 => (hf3 j (by omega)))
    refine k_mutV hC (c_X7_readFactor_3 l hls G hN w3 fl bt n st_4 g hn2 hn7 hb h_10 hT3 h_5 hI hB_6 h_11 h_12 hB_13 ⟨_, h_8⟩ ⟨_, h_9⟩) yy_X7_readFactor wm_X7_45 (kl hN (by decide)) h_5 rfl rfl rfl rfl (Nat.le_of_ble_eq_true rfl) (by decide) (by decide) ⟨by decide, by decide⟩ dX7_readFactor_75 (fun w7 hp7 => ?_)
    obtain ⟨hT7, ⟨⟨lf7, hlf7⟩, rf7, hrf7⟩, hf7⟩ := hp7
    obtain ⟨st_14, est_14⟩ : ∃ z : PS, z = (qG (pV g) bt n 3 st_4).1 := ⟨_, rfl⟩
    rw [← est_14] at hT7
    refine k_iconst hC dX7_readFactor_78 ?_
    refine k_inotN hC (a := mkN ((qG (pV g) bt n 3 st_4).2.2) (g 2).toNat) (mkN_12 _ (by omega)) dX7_readFactor_79 ?_
    refine k_iallN hC (a := mkN ((qG (pV g) bt n 3 st_4).2.2) (g 2).toNat) (n := (g 2).toNat) (by omega) (mkN_12 _ (by omega)) (mkN_b _ _) dX7_readFactor_80 ?_
    subst hQ
    exact k_iret hC hr ⟨by decide, by decide⟩ (⟨congrArg (fun z => some (vI ((z : Nat) : Int))) (by rw [qG_n hw31, ← est_4]; have h9 := mkN_not (qG (pV g) bt n 3 st_4).2.2 (g 2).toNat; show mkN (fun i => !(qG (pV g) bt n 3 st_4).2.2 i) (g 2).toNat = _; omega), rfl, (by have e : st_14 = (qG (pV g) bt n 4 st).1 := (by rw [qG_n hw31]; show st_14 = (qG (pV g) bt n 3 (adP bt n st)).1; rw [← est_4]; exact est_14); rw [← e]; exact hT7), ⟨⟨_, hlf7⟩, _, hrf7⟩, fun j hj => (hf7 j (by omega)).trans (hf3 j (by omega))⟩) dX7_readFactor_81
  · have hw31 : ¬ isW bt n 31 st := (hz_2.resolve_left (fun q1 => by omega)).2
    refine k_aload_n hC dX7_readFactor_14 rfl 1 rfl ?_
    refine k_get hC fd_X7_18 (kl hN (by decide)) h129 rfl dX7_readFactor_15 ?_
    refine k_bipush hC dX7_readFactor_18 (by decide) ?_
    refine k_pureV hC (c_X10_isSign l hls G hN w fl bt n st 40 (by omega) hn7 hb h2 hT) yy_X10_isSign wm_X7_52 (kl hN (by decide)) h1o_1 rfl rfl rfl rfl (Nat.le_of_ble_eq_true rfl) (by decide) (by decide) ⟨by decide, by decide⟩ dX7_readFactor_20 ?_
    obtain ⟨z_15, ez_15, hz_15⟩ := selI_c (isS bt n 40 st)
    refine k_topv (vI z_15) (by rw [ez_15]) ?_
    refine k_if_ne hC 31 dX7_readFactor_23 rfl (by omega) (fun c_23 => ?_) (fun c_23 => ?_)
    · have hw40 : isS bt n 40 st := (hz_15.resolve_right (fun q1 => by omega)).2
      refine k_iload_n hC dX7_readFactor_31 rfl 2 rfl ?_
      refine k_bipush hC dX7_readFactor_32 (by decide) ?_
      refine k_icmp_lt hC 47 dX7_readFactor_34 rfl (by omega) (by omega) (fun c_34 => ?_) (fun c_34 => absurd c_34 (by omega))
      refine k_aload_n hC dX7_readFactor_47 rfl 1 rfl ?_
      refine k_get hC fd_X7_18 (kl hN (by decide)) h129 rfl dX7_readFactor_48 ?_
      obtain ⟨cn16, ea16, kd16, nm16, sa16, p916, hp916, h116, hadv16⟩ := tk_open hT
      refine k_muvV hC (c_X10_advance l hls G hN w fl bt n p916 cn16 st.1 ea16 kd16 nm16 sa16 hn7 hp916 hb h2 h116) yy_X10_advance wm_X7_42 (kl hN (by decide)) h116 rfl rfl rfl rfl (Nat.le_of_ble_eq_true rfl) (by decide) (by decide) ⟨by decide, by decide⟩ dX7_readFactor_51 (fun w16 hp16 => ?_)
      obtain ⟨hq16, hf16⟩ := hp16
      have hT16 := hadv16 _ hq16
      obtain ⟨st_17, est_17⟩ : ∃ z : PS, z = adP bt n st := ⟨_, rfl⟩
      rw [← est_17] at hT16
      refine k_iload_n hC dX7_readFactor_54 rfl 0 rfl ?_
      refine k_if_eq hC 82 dX7_readFactor_55 rfl (by omega) (fun c_55 => ?_) (fun c_55 => absurd c_55 (by omega))
      refine k_aload_n hC dX7_readFactor_82 rfl 1 rfl ?_
      refine k_iload_n hC dX7_readFactor_83 rfl 2 rfl ?_
      refine k_iconst hC dX7_readFactor_84 ?_
      refine k_iadd hC dX7_readFactor_85 ?_
      refine k_topv (vI 3) (congrArg vI (by decide)) ?_
      have h_19 : w16 130 = iA G 12 lf0 := (hf16 130 (by decide)).trans hlf0
      have h_20 : w16 131 = iA G 12 rf0 := (hf16 131 (by decide)).trans hrf0
      have h_21 : w16 2 = bA G 700 (fun j => sb8 (bt j)) := (hf16 2 (by decide)).trans h2
      have h_22 : w16 129 = .inr (7, [.ref (kad G 1), .ref (kad G 3), .ref (kad G 10), .ref (kad G 130), .ref (kad G 131)]) := (hf16 129 (by decide)).trans h129
      have hB_23 : kLog G w16 3 g := hLg.fr (fun j q1 q2 => (hf16 j (by omega)))
      have h_24 : w16 10 = .inr (0, [.ref (kad G 11), .ref (kad G 12), .ref (kad G 13), .ref (kad G 14), .ref (kad G 15), .ref (kad G 16)]) := (hf16 10 (by decide)).trans h10
      have h_25 : w16 11 = rA G 4 12 (fun j => some (kad G (20 + j))) := (hf16 11 (by decide)).trans h11
      have hB_26 : kDrawn w16 g 0 ((g 2).toNat) := hD.fr (fun j q1 q2 => (hf16 j (by omega)))
      refine k_mutV hC (c_X7_readTest_3 l hls G hN w16 fl bt n st_17 g hn2 hn7 hb h_21 hT16 h_22 hI hB_23 h_24 h_25 hB_26 ⟨_, h_19⟩ ⟨_, h_20⟩) yy_X7_readTest wm_X7_70 (kl hN (by decide)) h_22 rfl rfl rfl rfl (Nat.le_of_ble_eq_true rfl) (by decide) (by decide) ⟨by decide, by decide⟩ dX7_readFactor_86 (fun w18 hp18 => ?_)
      obtain ⟨hT18, ⟨⟨lf18, hlf18⟩, rf18, hrf18⟩, hf18⟩ := hp18
      obtain ⟨st_27, est_27⟩ : ∃ z : PS, z = (tstM bt n (qG (pV g) bt n 3) st_17).1 := ⟨_, rfl⟩
      rw [← est_27] at hT18
      refine k_istore_n hC [(3, vI ((mkN ((tstM bt n (qG (pV g) bt n 3) st_17).2.2) (g 2).toNat : Nat) : Int)), (2, vI z_2), (0, .ref (kad G 129)), (1, vI 2)] dX7_readFactor_89 rfl (by decide) rfl ?_
      refine k_aload_n hC dX7_readFactor_90 rfl 2 rfl ?_
      have h_28 : w18 129 = .inr (7, [.ref (kad G 1), .ref (kad G 3), .ref (kad G 10), .ref (kad G 130), .ref (kad G 131)]) := (hf18 129 (by decide)).trans h_22
      refine k_get hC fd_X7_18 (kl hN (by decide)) h_28 rfl dX7_readFactor_91 ?_
      refine k_bipush hC dX7_readFactor_94 (by decide) ?_
      have hTco_30 := hT18
      obtain ⟨cno_30, eao_30, kdo_30, nmo_30, sao_30, nxo_30, h1o_30, -⟩ := hTco_30
      have h_31 : w18 2 = bA G 700 (fun j => sb8 (bt j)) := (hf18 2 (by decide)).trans h_21
      refine k_muvV hC (c_X10_needSign l hls G hN w18 fl bt n st_27 41 (by omega) hn7 hb h_31 hT18) yy_X10_needSign wm_X7_73 (kl hN (by decide)) h1o_30 rfl rfl rfl rfl (Nat.le_of_ble_eq_true rfl) (by decide) (by decide) ⟨by decide, by decide⟩ dX7_readFactor_96 (fun w29 hp29 => ?_)
      obtain ⟨hT29, hf29⟩ := hp29
      obtain ⟨st_32, est_32⟩ : ∃ z : PS, z = nsP bt n 41 st_27 := ⟨_, rfl⟩
      rw [← est_32] at hT29
      refine k_iload_n hC dX7_readFactor_99 rfl 0 rfl ?_
      have h_33 : w29 130 = iA G 12 lf18 := (hf29 130 (by decide)).trans hlf18
      have h_34 : w29 131 = iA G 12 rf18 := (hf29 131 (by decide)).trans hrf18
      subst hQ
      exact k_iret hC hr ⟨by decide, by decide⟩ (⟨congrArg (fun z => some (vI ((z : Nat) : Int))) (by rw [qG_p hw31 hw40, ← est_17]; rfl), rfl, (by have e : st_32 = (qG (pV g) bt n 4 st).1 := (by rw [qG_p hw31 hw40]; show st_32 = nsP bt n 41 (tstM bt n (qG (pV g) bt n 3) (adP bt n st)).1; rw [← est_17, ← est_27]; exact est_32); rw [← e]; exact hT29), ⟨⟨_, h_33⟩, _, h_34⟩, fun j hj => (hf29 j (by omega)).trans ((hf18 j (by omega)).trans (hf16 j (by omega)))⟩) dX7_readFactor_100
    · have hw40 : ¬ isS bt n 40 st := (hz_15.resolve_left (fun q1 => by omega)).2
      have hqG := qG_c (V := pV g) 4 hw31 hw40
      refine k_aload_n hC dX7_readFactor_26 rfl 1 rfl ?_
      refine k_mutV hC (c_X7_readComparison l hls G hN w fl bt n st g hn7 hb h2 hT h129 hI hLg h10 h11 hD ⟨_, hlf0⟩ ⟨_, hrf0⟩) yy_X7_readComparison wm_X7_56 (kl hN (by decide)) h129 rfl rfl rfl rfl (Nat.le_of_ble_eq_true rfl) (by decide) (by decide) ⟨by decide, by decide⟩ dX7_readFactor_27 (fun w35 hp35 => ?_)
      obtain ⟨hT35, ⟨⟨lf35, hlf35⟩, rf35, hrf35⟩, hf35⟩ := hp35
      obtain ⟨st_36, est_36⟩ : ∃ z : PS, z = (cmpG (pV g) bt n st).1 := ⟨_, rfl⟩
      rw [← est_36] at hT35
      subst hQ
      exact k_iret hC hr ⟨by decide, by decide⟩ (⟨congrArg (fun z => some (vI ((z : Nat) : Int))) (by rw [hqG]; rfl), rfl, (by have e : st_36 = (qG (pV g) bt n 4 st).1 := (by rw [hqG]; exact est_36); rw [← e]; exact hT35), ⟨⟨_, hlf35⟩, _, hrf35⟩, fun j hj => hf35 j (by omega)⟩) dX7_readFactor_30

set_option maxRecDepth 100000 in
set_option maxHeartbeats 4000000 in
theorem c_X7_readConjunction_4 (l : Launch) (hls : l.stackTraces = false) (G : kG) (hN : 133 ≤ kN G) (w : Nat → va_E) (fl : va_W) (bt : Nat → Int) (n : Nat) (st : PS) (g : Nat → Int) (hn2 : n ≤ 200) (hn7 : n ≤ 700) (hb : btOK bt) (h2 : w 2 = byA G bt) (hT : tkR G w bt n st) (h129 : w 129 = qdO G) (hI : Inv g) (hLg : kLog G w 3 g) (h10 : w 10 = chO G) (h11 : w 11 = liA G) (hD : kDrawn w g 0 (g 2).toNat) (hl0 : ∃ lf, w 130 = iA G 12 lf) (hr0 : ∃ rf, w 131 = iA G 12 rf) : KM l G yX7_readConjunction cX7_readConjunction 4 (some (FieldType.int)) 20 0 0 [.ref (kad G 129), vI 2] w fl (kMut (vI ((mkN ((conM bt n (qG (pV g) bt n 4) st).2.2) (g 2).toNat : Nat) : Int)) fl (fun w1 => tkR G w1 bt n ((conM bt n (qG (pV g) bt n 4) st).1) ∧ ((∃ lf, w1 130 = iA G 12 lf) ∧ ∃ rf, w1 131 = iA G 12 rf) ∧ ∀ j, (j ≠ 1 ∧ j ≠ 130 ∧ j ≠ 131) → w1 j = w j)) := by
  refine KM_of2 hls (by decide +kernel) rfl (lv0 := [(0, .ref (kad G 129)), (1, vI 2)]) rfl (Nat.le_of_ble_eq_true rfl) (fun p e R s m args below meth c Q hC hr hQ => ?_)
  have h0 := hI.c
  obtain ⟨lf0, hlf0⟩ := hl0
  obtain ⟨rf0, hrf0⟩ := hr0
  have hle0 := hT.le
  refine k_aload_n hC dX7_readConjunction_0 rfl 0 rfl ?_
  refine k_iload_n hC dX7_readConjunction_1 rfl 1 rfl ?_
  refine k_mutV hC (c_X7_readFactor_4 l hls G hN w fl bt n st g hn2 hn7 hb h2 hT h129 hI hLg h10 h11 hD ⟨_, hlf0⟩ ⟨_, hrf0⟩) yy_X7_readFactor wm_X7_45 (kl hN (by decide)) h129 rfl rfl rfl rfl (Nat.le_of_ble_eq_true rfl) (by decide) (by decide) ⟨by decide, by decide⟩ dX7_readConjunction_2 (fun w1 hp1 => ?_)
  obtain ⟨hT1, ⟨⟨lf1, hlf1⟩, rf1, hrf1⟩, hf1⟩ := hp1
  obtain ⟨st_2, est_2⟩ : ∃ z : PS, z = (qG (pV g) bt n 4 st).1 := ⟨_, rfl⟩
  rw [← est_2] at hT1
  refine k_istore_n hC [(2, vI ((mkN ((qG (pV g) bt n 4 st).2.2) (g 2).toNat : Nat) : Int)), (0, .ref (kad G 129)), (1, vI 2)] dX7_readConjunction_5 rfl (by decide) rfl ?_
  refine k_iconst hC dX7_readConjunction_6 ?_
  refine k_istore_n hC [(3, vI 0), (2, vI ((mkN ((qG (pV g) bt n 4 st).2.2) (g 2).toNat : Nat) : Int)), (0, .ref (kad G 129)), (1, vI 2)] dX7_readConjunction_7 rfl (by decide) rfl ?_
  have hG := endG (V := pV g) (bt := bt) (n := n) (w := 37) (c := -24) (F := qG (pV g) bt n 4) (F1 := qF (pV g) bt n 4) (r0 := qG (pV g) bt n 4 st) (r1 := qF (pV g) bt n 4 st) hn2 hle0 (Or.inl rfl) (gq_qF (V := pV g) (bt := bt) (n := n) 4) (rel_qF 4) (gq_qF (V := pV g) (bt := bt) (n := n) 4 st) (rel_qF 4 st)
  have loop2 : ∀ (nw : Nat) (k : Nat) (rr : QR) (st9 : PS) (lf : Nat → Int) (rf : Nat → Int) (wvw : Nat → va_E), (200 < nw + k) → (k ≤ 200) → (rr = cjN bt n 37 (-24) (qG (pV g) bt n 4) k (qG (pV g) bt n 4 st)) → (st9 = rr.1) → (wvw 2 = bA G 700 (fun j => sb8 (bt j))) → (wvw 129 = .inr (7, [.ref (kad G 1), .ref (kad G 3), .ref (kad G 10), .ref (kad G 130), .ref (kad G 131)])) → (wvw 130 = iA G 12 lf) → (wvw 131 = iA G 12 rf) → (tkR G wvw bt n st9) → (kLog G wvw 3 g) → (kDrawn wvw g 0 ((g 2).toNat)) → ((∀ j, (j ≠ 1 ∧ j ≠ 130 ∧ j ≠ 131) → wvw j = w j)) → KW p l e R s m args below meth c 4 G Q wvw fl 0 0 8 [(3, vI (k : Int)), (2, vI ((mkN rr.2.2 (g 2).toNat : Nat) : Int)), (0, .ref (kad G 129)), (1, vI 2)] [] := by
    intro nw
    induction nw with
    | zero =>
      intro k rr st9 lf rf wvw hn_w hk9 hx hst9 hb9 h129q hlq hrq hTq hLq hDq hfrw
      exact absurd hn_w (by omega)
    | succ nw ihw =>
      intro k rr st9 lf rf wvw hn_w hk9 hx hst9 hb9 h129q hlq hrq hTq hLq hDq hfrw
      have h10q := (hfrw 10 (by omega)).trans h10
      have h11q := (hfrw 11 (by omega)).trans h11
      refine k_iload_n hC dX7_readConjunction_8 rfl 0 rfl ?_
      refine k_sipush hC dX7_readConjunction_9 (by decide) ?_
      refine k_icmp_ge hC 48 dX7_readConjunction_12 rfl (by omega) (by omega) (fun c_12 => ?_) (fun c_12 => ?_)
      · have hwn : ¬ isW bt n 37 st9 := fun q => by have := hG.2 k (by rw [← hx, ← hst9]; exact q); omega
        refine k_iload_n hC dX7_readConjunction_48 rfl 1 rfl ?_
        have hfin : rr = conM bt n (qG (pV g) bt n 4) st := by rw [hx]; exact cjN_eq (by rw [← hx, ← hst9]; exact hwn) hG.1
        subst hQ
        exact k_iret hC hr ⟨by decide, by decide⟩ (⟨congrArg (fun z => some (vI ((z : Nat) : Int))) (by rw [← hfin]), rfl, (by have e : st9 = (conM bt n (qG (pV g) bt n 4) st).1 := (by rw [← hfin]; exact hst9); rw [← e]; exact hTq), ⟨⟨_, hlq⟩, _, hrq⟩, fun j hj => hfrw j (by omega)⟩) dX7_readConjunction_49
      · refine k_aload_n hC dX7_readConjunction_15 rfl 2 rfl ?_
        refine k_get hC fd_X7_18 (kl hN (by decide)) h129q rfl dX7_readConjunction_16 ?_
        refine k_ldcs hC (List.mem_of_getElem? (i := 39) rfl) dX7_readConjunction_19 ?_
        have hTco_3 := hTq
        obtain ⟨cno_3, eao_3, kdo_3, nmo_3, sao_3, nxo_3, h1o_3, -⟩ := hTco_3
        refine k_pureV hC (c_X10_isWord l hls G hN wvw fl bt n st9 37 (by decide) hn7 hb hb9 hTq) yy_X10_isWord wm_X7_36 (kl hN (by decide)) h1o_3 rfl rfl rfl rfl (Nat.le_of_ble_eq_true rfl) (by decide) (by decide) ⟨by decide, by decide⟩ dX7_readConjunction_21 ?_
        obtain ⟨z_4, ez_4, hz_4⟩ := selI_c (isW bt n 37 st9)
        refine k_topv (vI z_4) (by rw [ez_4]) ?_
        refine k_if_eq hC 48 dX7_readConjunction_24 rfl (by omega) (fun c_24 => ?_) (fun c_24 => ?_)
        · have hwn : ¬ isW bt n 37 st9 := (hz_4.resolve_left (fun q1 => by omega)).2
          refine k_iload_n hC dX7_readConjunction_48 rfl 1 rfl ?_
          have hfin : rr = conM bt n (qG (pV g) bt n 4) st := by rw [hx]; exact cjN_eq (by rw [← hx, ← hst9]; exact hwn) hG.1
          subst hQ
          exact k_iret hC hr ⟨by decide, by decide⟩ (⟨congrArg (fun z => some (vI ((z : Nat) : Int))) (by rw [← hfin]), rfl, (by have e : st9 = (conM bt n (qG (pV g) bt n 4) st).1 := (by rw [← hfin]; exact hst9); rw [← e]; exact hTq), ⟨⟨_, hlq⟩, _, hrq⟩, fun j hj => hfrw j (by omega)⟩) dX7_readConjunction_49
        · have hwr : isW bt n 37 rr.1 := by rw [← hst9]; exact (hz_4.resolve_right (fun q1 => by omega)).2
          refine k_aload_n hC dX7_readConjunction_27 rfl 2 rfl ?_
          refine k_get hC fd_X7_18 (kl hN (by decide)) h129q rfl dX7_readConjunction_28 ?_
          obtain ⟨cn5, ea5, kd5, nm5, sa5, p95, hp95, h15, hadv5⟩ := tk_open hTq
          refine k_muvV hC (c_X10_advance l hls G hN wvw fl bt n p95 cn5 st9.1 ea5 kd5 nm5 sa5 hn7 hp95 hb hb9 h15) yy_X10_advance wm_X7_42 (kl hN (by decide)) h15 rfl rfl rfl rfl (Nat.le_of_ble_eq_true rfl) (by decide) (by decide) ⟨by decide, by decide⟩ dX7_readConjunction_31 (fun w5 hp5 => ?_)
          obtain ⟨hq5, hf5⟩ := hp5
          have hT5 := hadv5 _ hq5
          obtain ⟨st_6, est_6⟩ : ∃ z : PS, z = adP bt n st9 := ⟨_, rfl⟩
          rw [← est_6] at hT5
          refine k_iload_n hC dX7_readConjunction_34 rfl 1 rfl ?_
          refine k_aload_n hC dX7_readConjunction_35 rfl 2 rfl ?_
          refine k_iload_n hC dX7_readConjunction_36 rfl 3 rfl ?_
          have h_8 : w5 130 = iA G 12 lf := (hf5 130 (by decide)).trans hlq
          have h_9 : w5 131 = iA G 12 rf := (hf5 131 (by decide)).trans hrq
          have h_10 : w5 2 = bA G 700 (fun j => sb8 (bt j)) := (hf5 2 (by decide)).trans hb9
          have h_11 : w5 129 = .inr (7, [.ref (kad G 1), .ref (kad G 3), .ref (kad G 10), .ref (kad G 130), .ref (kad G 131)]) := (hf5 129 (by decide)).trans h129q
          have hB_12 : kLog G w5 3 g := hLq.fr (fun j q1 q2 => (hf5 j (by omega)))
          have h_13 : w5 10 = .inr (0, [.ref (kad G 11), .ref (kad G 12), .ref (kad G 13), .ref (kad G 14), .ref (kad G 15), .ref (kad G 16)]) := (hf5 10 (by decide)).trans h10q
          have h_14 : w5 11 = rA G 4 12 (fun j => some (kad G (20 + j))) := (hf5 11 (by decide)).trans h11q
          have hB_15 : kDrawn w5 g 0 ((g 2).toNat) := hDq.fr (fun j q1 q2 => (hf5 j (by omega)))
          refine k_mutV hC (c_X7_readFactor_4 l hls G hN w5 fl bt n st_6 g hn2 hn7 hb h_10 hT5 h_11 hI hB_12 h_13 h_14 hB_15 ⟨_, h_8⟩ ⟨_, h_9⟩) yy_X7_readFactor wm_X7_45 (kl hN (by decide)) h_11 rfl rfl rfl rfl (Nat.le_of_ble_eq_true rfl) (by decide) (by decide) ⟨by decide, by decide⟩ dX7_readConjunction_37 (fun w7 hp7 => ?_)
          obtain ⟨hT7, ⟨⟨lf7, hlf7⟩, rf7, hrf7⟩, hf7⟩ := hp7
          obtain ⟨st_16, est_16⟩ : ∃ z : PS, z = (qG (pV g) bt n 4 st_6).1 := ⟨_, rfl⟩
          rw [← est_16] at hT7
          refine k_iandN hC (a := mkN rr.2.2 (g 2).toNat) (b := mkN ((qG (pV g) bt n 4 st_6).2.2) (g 2).toNat) dX7_readConjunction_40 ?_
          refine k_topv (vI ((mkN ((and2 (-24) rr (qG (pV g) bt n 4 st_6)).2.2) (g 2).toNat : Nat) : Int)) (congrArg (fun q : Nat => vI (q : Int)) ((mkN_and _ _ _).trans (mkN_c _ (fun i _ => (if_pos rfl).symm)))) ?_
          refine k_istore_n hC [(2, vI ((mkN ((and2 (-24) rr (qG (pV g) bt n 4 st_6)).2.2) (g 2).toNat : Nat) : Int)), (3, vI (k : Int)), (0, .ref (kad G 129)), (1, vI 2)] dX7_readConjunction_41 rfl (by decide) rfl ?_
          refine k_iinc hC (y := (k : Int) + 1) [(3, vI ((k : Int) + 1)), (2, vI ((mkN ((and2 (-24) rr (qG (pV g) bt n 4 st_6)).2.2) (g 2).toNat : Nat) : Int)), (0, .ref (kad G 129)), (1, vI 2)] (j := 1) dX7_readConjunction_42 rfl (by omega) (by decide) rfl ?_
          refine k_goto hC 8 dX7_readConjunction_45 rfl ?_
          refine k_lvs (ls := [0, 1, 2, 3]) [(3, vI ((k + 1 : Nat) : Int)), (2, vI ((mkN ((and2 (-24) rr (qG (pV g) bt n 4 st_6)).2.2) (g 2).toNat : Nat) : Int)), (0, .ref (kad G 129)), (1, vI 2)] (by simp only [lv_pick]; rfl) ?_
          have h_17 : w7 2 = bA G 700 (fun j => sb8 (bt j)) := (hf7 2 (by decide)).trans h_10
          have h_18 : w7 129 = .inr (7, [.ref (kad G 1), .ref (kad G 3), .ref (kad G 10), .ref (kad G 130), .ref (kad G 131)]) := (hf7 129 (by decide)).trans h_11
          have hB_19 : kLog G w7 3 g := hB_12.fr (fun j q1 q2 => (hf7 j (by omega)))
          have hB_20 : kDrawn w7 g 0 ((g 2).toNat) := hB_15.fr (fun j q1 q2 => (hf7 j (by omega)))
          exact ihw (k + 1) (and2 (-24) rr (qG (pV g) bt n 4 st_6)) st_16 lf7 rf7 w7 (by omega) (by omega) (by rw [cjN_go k _ (by rw [← hx]; exact hwr), ← hx, est_6, hst9]) est_16 h_17 h_18 hlf7 hrf7 hT7 hB_19 hB_20 (fun j hj => (hf7 j (by omega)).trans ((hf5 j (by omega)).trans (hfrw j (by omega))))
  refine k_lvs (ls := [0, 1, 2, 3]) [(3, vI ((0 : Nat) : Int)), (2, vI ((mkN ((qG (pV g) bt n 4 st).2.2) (g 2).toNat : Nat) : Int)), (0, .ref (kad G 129)), (1, vI 2)] (by simp only [lv_pick]; rfl) ?_
  have h_21 : w1 2 = bA G 700 (fun j => sb8 (bt j)) := (hf1 2 (by decide)).trans h2
  have h_22 : w1 129 = .inr (7, [.ref (kad G 1), .ref (kad G 3), .ref (kad G 10), .ref (kad G 130), .ref (kad G 131)]) := (hf1 129 (by decide)).trans h129
  have hB_23 : kLog G w1 3 g := hLg.fr (fun j q1 q2 => (hf1 j (by omega)))
  have hB_24 : kDrawn w1 g 0 ((g 2).toNat) := hD.fr (fun j q1 q2 => (hf1 j (by omega)))
  exact loop2 201 0 (qG (pV g) bt n 4 st) st_2 lf1 rf1 w1 (by omega) (by omega) rfl est_2 h_21 h_22 hlf1 hrf1 hT1 hB_23 hB_24 (fun j hj => hf1 j (by omega))

set_option maxRecDepth 100000 in
set_option maxHeartbeats 4000000 in
theorem c_X7_readTest_4 (l : Launch) (hls : l.stackTraces = false) (G : kG) (hN : 133 ≤ kN G) (w : Nat → va_E) (fl : va_W) (bt : Nat → Int) (n : Nat) (st : PS) (g : Nat → Int) (hn2 : n ≤ 200) (hn7 : n ≤ 700) (hb : btOK bt) (h2 : w 2 = byA G bt) (hT : tkR G w bt n st) (h129 : w 129 = qdO G) (hI : Inv g) (hLg : kLog G w 3 g) (h10 : w 10 = chO G) (h11 : w 11 = liA G) (hD : kDrawn w g 0 (g 2).toNat) (hl0 : ∃ lf, w 130 = iA G 12 lf) (hr0 : ∃ rf, w 131 = iA G 12 rf) : KM l G yX7_readTest cX7_readTest 4 (some (FieldType.int)) 21 0 0 [.ref (kad G 129), vI 2] w fl (kMut (vI ((mkN ((tstM bt n (qG (pV g) bt n 4) st).2.2) (g 2).toNat : Nat) : Int)) fl (fun w1 => tkR G w1 bt n ((tstM bt n (qG (pV g) bt n 4) st).1) ∧ ((∃ lf, w1 130 = iA G 12 lf) ∧ ∃ rf, w1 131 = iA G 12 rf) ∧ ∀ j, (j ≠ 1 ∧ j ≠ 130 ∧ j ≠ 131) → w1 j = w j)) := by
  refine KM_of2 hls (by decide +kernel) rfl (lv0 := [(0, .ref (kad G 129)), (1, vI 2)]) rfl (Nat.le_of_ble_eq_true rfl) (fun p e R s m args below meth c Q hC hr hQ => ?_)
  have h0 := hI.c
  obtain ⟨lf0, hlf0⟩ := hl0
  obtain ⟨rf0, hrf0⟩ := hr0
  have hle0 := hT.le
  refine k_aload_n hC dX7_readTest_0 rfl 0 rfl ?_
  refine k_iload_n hC dX7_readTest_1 rfl 1 rfl ?_
  refine k_mutV hC (c_X7_readConjunction_4 l hls G hN w fl bt n st g hn2 hn7 hb h2 hT h129 hI hLg h10 h11 hD ⟨_, hlf0⟩ ⟨_, hrf0⟩) yy_X7_readConjunction wm_X7_30 (kl hN (by decide)) h129 rfl rfl rfl rfl (Nat.le_of_ble_eq_true rfl) (by decide) (by decide) ⟨by decide, by decide⟩ dX7_readTest_2 (fun w1 hp1 => ?_)
  obtain ⟨hT1, ⟨⟨lf1, hlf1⟩, rf1, hrf1⟩, hf1⟩ := hp1
  obtain ⟨st_2, est_2⟩ : ∃ z : PS, z = (conM bt n (qG (pV g) bt n 4) st).1 := ⟨_, rfl⟩
  rw [← est_2] at hT1
  refine k_istore_n hC [(2, vI ((mkN ((conM bt n (qG (pV g) bt n 4) st).2.2) (g 2).toNat : Nat) : Int)), (0, .ref (kad G 129)), (1, vI 2)] dX7_readTest_5 rfl (by decide) rfl ?_
  refine k_iconst hC dX7_readTest_6 ?_
  refine k_istore_n hC [(3, vI 0), (2, vI ((mkN ((conM bt n (qG (pV g) bt n 4) st).2.2) (g 2).toNat : Nat) : Int)), (0, .ref (kad G 129)), (1, vI 2)] dX7_readTest_7 rfl (by decide) rfl ?_
  have hG := endG (V := pV g) (bt := bt) (n := n) (w := 38) (c := -25) (F := conM bt n (qG (pV g) bt n 4)) (F1 := conM bt n (qF (pV g) bt n 4)) (r0 := conM bt n (qG (pV g) bt n 4) st) (r1 := conM bt n (qF (pV g) bt n 4) st) hn2 hle0 (Or.inr rfl) (gq_con (gq_qF (V := pV g) (bt := bt) (n := n) 4)) (rel_con (rel_qF 4)) (gq_con (gq_qF (V := pV g) (bt := bt) (n := n) 4) st) (rel_con (rel_qF 4) st)
  have loop2 : ∀ (nw : Nat) (k : Nat) (rr : QR) (st9 : PS) (lf : Nat → Int) (rf : Nat → Int) (wvw : Nat → va_E), (200 < nw + k) → (k ≤ 200) → (rr = cjN bt n 38 (-25) (conM bt n (qG (pV g) bt n 4)) k (conM bt n (qG (pV g) bt n 4) st)) → (st9 = rr.1) → (wvw 2 = bA G 700 (fun j => sb8 (bt j))) → (wvw 129 = .inr (7, [.ref (kad G 1), .ref (kad G 3), .ref (kad G 10), .ref (kad G 130), .ref (kad G 131)])) → (wvw 130 = iA G 12 lf) → (wvw 131 = iA G 12 rf) → (tkR G wvw bt n st9) → (kLog G wvw 3 g) → (kDrawn wvw g 0 ((g 2).toNat)) → ((∀ j, (j ≠ 1 ∧ j ≠ 130 ∧ j ≠ 131) → wvw j = w j)) → KW p l e R s m args below meth c 4 G Q wvw fl 0 0 8 [(3, vI (k : Int)), (2, vI ((mkN rr.2.2 (g 2).toNat : Nat) : Int)), (0, .ref (kad G 129)), (1, vI 2)] [] := by
    intro nw
    induction nw with
    | zero =>
      intro k rr st9 lf rf wvw hn_w hk9 hx hst9 hb9 h129q hlq hrq hTq hLq hDq hfrw
      exact absurd hn_w (by omega)
    | succ nw ihw =>
      intro k rr st9 lf rf wvw hn_w hk9 hx hst9 hb9 h129q hlq hrq hTq hLq hDq hfrw
      have h10q := (hfrw 10 (by omega)).trans h10
      have h11q := (hfrw 11 (by omega)).trans h11
      refine k_iload_n hC dX7_readTest_8 rfl 0 rfl ?_
      refine k_sipush hC dX7_readTest_9 (by decide) ?_
      refine k_icmp_ge hC 48 dX7_readTest_12 rfl (by omega) (by omega) (fun c_12 => ?_) (fun c_12 => ?_)
      · have hwn : ¬ isW bt n 38 st9 := fun q => by have := hG.2 k (by rw [← hx, ← hst9]; exact q); omega
        refine k_iload_n hC dX7_readTest_48 rfl 1 rfl ?_
        have hfin : rr = tstM bt n (qG (pV g) bt n 4) st := by rw [hx]; exact cjN_eq (by rw [← hx, ← hst9]; exact hwn) hG.1
        subst hQ
        exact k_iret hC hr ⟨by decide, by decide⟩ (⟨congrArg (fun z => some (vI ((z : Nat) : Int))) (by rw [← hfin]), rfl, (by have e : st9 = (tstM bt n (qG (pV g) bt n 4) st).1 := (by rw [← hfin]; exact hst9); rw [← e]; exact hTq), ⟨⟨_, hlq⟩, _, hrq⟩, fun j hj => hfrw j (by omega)⟩) dX7_readTest_49
      · refine k_aload_n hC dX7_readTest_15 rfl 2 rfl ?_
        refine k_get hC fd_X7_18 (kl hN (by decide)) h129q rfl dX7_readTest_16 ?_
        refine k_ldcs hC (List.mem_of_getElem? (i := 40) rfl) dX7_readTest_19 ?_
        have hTco_3 := hTq
        obtain ⟨cno_3, eao_3, kdo_3, nmo_3, sao_3, nxo_3, h1o_3, -⟩ := hTco_3
        refine k_pureV hC (c_X10_isWord l hls G hN wvw fl bt n st9 38 (by decide) hn7 hb hb9 hTq) yy_X10_isWord wm_X7_36 (kl hN (by decide)) h1o_3 rfl rfl rfl rfl (Nat.le_of_ble_eq_true rfl) (by decide) (by decide) ⟨by decide, by decide⟩ dX7_readTest_21 ?_
        obtain ⟨z_4, ez_4, hz_4⟩ := selI_c (isW bt n 38 st9)
        refine k_topv (vI z_4) (by rw [ez_4]) ?_
        refine k_if_eq hC 48 dX7_readTest_24 rfl (by omega) (fun c_24 => ?_) (fun c_24 => ?_)
        · have hwn : ¬ isW bt n 38 st9 := (hz_4.resolve_left (fun q1 => by omega)).2
          refine k_iload_n hC dX7_readTest_48 rfl 1 rfl ?_
          have hfin : rr = tstM bt n (qG (pV g) bt n 4) st := by rw [hx]; exact cjN_eq (by rw [← hx, ← hst9]; exact hwn) hG.1
          subst hQ
          exact k_iret hC hr ⟨by decide, by decide⟩ (⟨congrArg (fun z => some (vI ((z : Nat) : Int))) (by rw [← hfin]), rfl, (by have e : st9 = (tstM bt n (qG (pV g) bt n 4) st).1 := (by rw [← hfin]; exact hst9); rw [← e]; exact hTq), ⟨⟨_, hlq⟩, _, hrq⟩, fun j hj => hfrw j (by omega)⟩) dX7_readTest_49
        · have hwr : isW bt n 38 rr.1 := by rw [← hst9]; exact (hz_4.resolve_right (fun q1 => by omega)).2
          refine k_aload_n hC dX7_readTest_27 rfl 2 rfl ?_
          refine k_get hC fd_X7_18 (kl hN (by decide)) h129q rfl dX7_readTest_28 ?_
          obtain ⟨cn5, ea5, kd5, nm5, sa5, p95, hp95, h15, hadv5⟩ := tk_open hTq
          refine k_muvV hC (c_X10_advance l hls G hN wvw fl bt n p95 cn5 st9.1 ea5 kd5 nm5 sa5 hn7 hp95 hb hb9 h15) yy_X10_advance wm_X7_42 (kl hN (by decide)) h15 rfl rfl rfl rfl (Nat.le_of_ble_eq_true rfl) (by decide) (by decide) ⟨by decide, by decide⟩ dX7_readTest_31 (fun w5 hp5 => ?_)
          obtain ⟨hq5, hf5⟩ := hp5
          have hT5 := hadv5 _ hq5
          obtain ⟨st_6, est_6⟩ : ∃ z : PS, z = adP bt n st9 := ⟨_, rfl⟩
          rw [← est_6] at hT5
          refine k_iload_n hC dX7_readTest_34 rfl 1 rfl ?_
          refine k_aload_n hC dX7_readTest_35 rfl 2 rfl ?_
          refine k_iload_n hC dX7_readTest_36 rfl 3 rfl ?_
          have h_8 : w5 130 = iA G 12 lf := (hf5 130 (by decide)).trans hlq
          have h_9 : w5 131 = iA G 12 rf := (hf5 131 (by decide)).trans hrq
          have h_10 : w5 2 = bA G 700 (fun j => sb8 (bt j)) := (hf5 2 (by decide)).trans hb9
          have h_11 : w5 129 = .inr (7, [.ref (kad G 1), .ref (kad G 3), .ref (kad G 10), .ref (kad G 130), .ref (kad G 131)]) := (hf5 129 (by decide)).trans h129q
          have hB_12 : kLog G w5 3 g := hLq.fr (fun j q1 q2 => (hf5 j (by omega)))
          have h_13 : w5 10 = .inr (0, [.ref (kad G 11), .ref (kad G 12), .ref (kad G 13), .ref (kad G 14), .ref (kad G 15), .ref (kad G 16)]) := (hf5 10 (by decide)).trans h10q
          have h_14 : w5 11 = rA G 4 12 (fun j => some (kad G (20 + j))) := (hf5 11 (by decide)).trans h11q
          have hB_15 : kDrawn w5 g 0 ((g 2).toNat) := hDq.fr (fun j q1 q2 => (hf5 j (by omega)))
          refine k_mutV hC (c_X7_readConjunction_4 l hls G hN w5 fl bt n st_6 g hn2 hn7 hb h_10 hT5 h_11 hI hB_12 h_13 h_14 hB_15 ⟨_, h_8⟩ ⟨_, h_9⟩) yy_X7_readConjunction wm_X7_30 (kl hN (by decide)) h_11 rfl rfl rfl rfl (Nat.le_of_ble_eq_true rfl) (by decide) (by decide) ⟨by decide, by decide⟩ dX7_readTest_37 (fun w7 hp7 => ?_)
          obtain ⟨hT7, ⟨⟨lf7, hlf7⟩, rf7, hrf7⟩, hf7⟩ := hp7
          obtain ⟨st_16, est_16⟩ : ∃ z : PS, z = (conM bt n (qG (pV g) bt n 4) st_6).1 := ⟨_, rfl⟩
          rw [← est_16] at hT7
          refine k_iorN hC (a := mkN rr.2.2 (g 2).toNat) (b := mkN ((conM bt n (qG (pV g) bt n 4) st_6).2.2) (g 2).toNat) dX7_readTest_40 ?_
          refine k_topv (vI ((mkN ((and2 (-25) rr (conM bt n (qG (pV g) bt n 4) st_6)).2.2) (g 2).toNat : Nat) : Int)) (congrArg (fun q : Nat => vI (q : Int)) ((mkN_or _ _ _).trans (mkN_c _ (fun i _ => (if_neg (by decide)).symm)))) ?_
          refine k_istore_n hC [(2, vI ((mkN ((and2 (-25) rr (conM bt n (qG (pV g) bt n 4) st_6)).2.2) (g 2).toNat : Nat) : Int)), (3, vI (k : Int)), (0, .ref (kad G 129)), (1, vI 2)] dX7_readTest_41 rfl (by decide) rfl ?_
          refine k_iinc hC (y := (k : Int) + 1) [(3, vI ((k : Int) + 1)), (2, vI ((mkN ((and2 (-25) rr (conM bt n (qG (pV g) bt n 4) st_6)).2.2) (g 2).toNat : Nat) : Int)), (0, .ref (kad G 129)), (1, vI 2)] (j := 1) dX7_readTest_42 rfl (by omega) (by decide) rfl ?_
          refine k_goto hC 8 dX7_readTest_45 rfl ?_
          refine k_lvs (ls := [0, 1, 2, 3]) [(3, vI ((k + 1 : Nat) : Int)), (2, vI ((mkN ((and2 (-25) rr (conM bt n (qG (pV g) bt n 4) st_6)).2.2) (g 2).toNat : Nat) : Int)), (0, .ref (kad G 129)), (1, vI 2)] (by simp only [lv_pick]; rfl) ?_
          have h_17 : w7 2 = bA G 700 (fun j => sb8 (bt j)) := (hf7 2 (by decide)).trans h_10
          have h_18 : w7 129 = .inr (7, [.ref (kad G 1), .ref (kad G 3), .ref (kad G 10), .ref (kad G 130), .ref (kad G 131)]) := (hf7 129 (by decide)).trans h_11
          have hB_19 : kLog G w7 3 g := hB_12.fr (fun j q1 q2 => (hf7 j (by omega)))
          have hB_20 : kDrawn w7 g 0 ((g 2).toNat) := hB_15.fr (fun j q1 q2 => (hf7 j (by omega)))
          exact ihw (k + 1) (and2 (-25) rr (conM bt n (qG (pV g) bt n 4) st_6)) st_16 lf7 rf7 w7 (by omega) (by omega) (by rw [cjN_go k _ (by rw [← hx]; exact hwr), ← hx, est_6, hst9]) est_16 h_17 h_18 hlf7 hrf7 hT7 hB_19 hB_20 (fun j hj => (hf7 j (by omega)).trans ((hf5 j (by omega)).trans (hfrw j (by omega))))
  refine k_lvs (ls := [0, 1, 2, 3]) [(3, vI ((0 : Nat) : Int)), (2, vI ((mkN ((conM bt n (qG (pV g) bt n 4) st).2.2) (g 2).toNat : Nat) : Int)), (0, .ref (kad G 129)), (1, vI 2)] (by simp only [lv_pick]; rfl) ?_
  have h_21 : w1 2 = bA G 700 (fun j => sb8 (bt j)) := (hf1 2 (by decide)).trans h2
  have h_22 : w1 129 = .inr (7, [.ref (kad G 1), .ref (kad G 3), .ref (kad G 10), .ref (kad G 130), .ref (kad G 131)]) := (hf1 129 (by decide)).trans h129
  have hB_23 : kLog G w1 3 g := hLg.fr (fun j q1 q2 => (hf1 j (by omega)))
  have hB_24 : kDrawn w1 g 0 ((g 2).toNat) := hD.fr (fun j q1 q2 => (hf1 j (by omega)))
  exact loop2 201 0 (conM bt n (qG (pV g) bt n 4) st) st_2 lf1 rf1 w1 (by omega) (by omega) rfl est_2 h_21 h_22 hlf1 hrf1 hT1 hB_23 hB_24 (fun j hj => hf1 j (by omega))

set_option maxRecDepth 100000 in
set_option maxHeartbeats 4000000 in
theorem c_X7_readFactor_5 (l : Launch) (hls : l.stackTraces = false) (G : kG) (hN : 133 ≤ kN G) (w : Nat → va_E) (fl : va_W) (bt : Nat → Int) (n : Nat) (st : PS) (g : Nat → Int) (hn2 : n ≤ 200) (hn7 : n ≤ 700) (hb : btOK bt) (h2 : w 2 = byA G bt) (hT : tkR G w bt n st) (h129 : w 129 = qdO G) (hI : Inv g) (hLg : kLog G w 3 g) (h10 : w 10 = chO G) (h11 : w 11 = liA G) (hD : kDrawn w g 0 (g 2).toNat) (hl0 : ∃ lf, w 130 = iA G 12 lf) (hr0 : ∃ rf, w 131 = iA G 12 rf) : KM l G yX7_readFactor cX7_readFactor 4 (some (FieldType.int)) 22 0 0 [.ref (kad G 129), vI 1] w fl (kMut (vI ((mkN ((qG (pV g) bt n 5 st).2.2) (g 2).toNat : Nat) : Int)) fl (fun w1 => tkR G w1 bt n ((qG (pV g) bt n 5 st).1) ∧ ((∃ lf, w1 130 = iA G 12 lf) ∧ ∃ rf, w1 131 = iA G 12 rf) ∧ ∀ j, (j ≠ 1 ∧ j ≠ 130 ∧ j ≠ 131) → w1 j = w j)) := by
  refine KM_of2 hls (by decide +kernel) rfl (lv0 := [(0, .ref (kad G 129)), (1, vI 1)]) rfl (Nat.le_of_ble_eq_true rfl) (fun p e R s m args below meth c Q hC hr hQ => ?_)
  have h0 := hI.c
  obtain ⟨lf0, hlf0⟩ := hl0
  obtain ⟨rf0, hrf0⟩ := hr0
  have hle0 := hT.le
  refine k_aload_n hC dX7_readFactor_0 rfl 0 rfl ?_
  refine k_get hC fd_X7_18 (kl hN (by decide)) h129 rfl dX7_readFactor_1 ?_
  refine k_ldcs hC (List.mem_of_getElem? (i := 31) rfl) dX7_readFactor_4 ?_
  have hTco_1 := hT
  obtain ⟨cno_1, eao_1, kdo_1, nmo_1, sao_1, nxo_1, h1o_1, -⟩ := hTco_1
  refine k_pureV hC (c_X10_isWord l hls G hN w fl bt n st 31 (by decide) hn7 hb h2 hT) yy_X10_isWord wm_X7_36 (kl hN (by decide)) h1o_1 rfl rfl rfl rfl (Nat.le_of_ble_eq_true rfl) (by decide) (by decide) ⟨by decide, by decide⟩ dX7_readFactor_6 ?_
  obtain ⟨z_2, ez_2, hz_2⟩ := selI_c (isW bt n 31 st)
  refine k_topv (vI z_2) (by rw [ez_2]) ?_
  refine k_istore_n hC [(2, vI z_2), (0, .ref (kad G 129)), (1, vI 1)] dX7_readFactor_9 rfl (by decide) rfl ?_
  refine k_iload_n hC dX7_readFactor_10 rfl 0 rfl ?_
  refine k_if_ne hC 31 dX7_readFactor_11 rfl (by omega) (fun c_11 => ?_) (fun c_11 => ?_)
  · have hw31 : isW bt n 31 st := (hz_2.resolve_right (fun q1 => by omega)).2
    refine k_iload_n hC dX7_readFactor_31 rfl 2 rfl ?_
    refine k_bipush hC dX7_readFactor_32 (by decide) ?_
    refine k_icmp_lt hC 47 dX7_readFactor_34 rfl (by omega) (by omega) (fun c_34 => ?_) (fun c_34 => absurd c_34 (by omega))
    refine k_aload_n hC dX7_readFactor_47 rfl 1 rfl ?_
    refine k_get hC fd_X7_18 (kl hN (by decide)) h129 rfl dX7_readFactor_48 ?_
    obtain ⟨cn3, ea3, kd3, nm3, sa3, p93, hp93, h13, hadv3⟩ := tk_open hT
    refine k_muvV hC (c_X10_advance l hls G hN w fl bt n p93 cn3 st.1 ea3 kd3 nm3 sa3 hn7 hp93 hb h2 h13) yy_X10_advance wm_X7_42 (kl hN (by decide)) h13 rfl rfl rfl rfl (Nat.le_of_ble_eq_true rfl) (by decide) (by decide) ⟨by decide, by decide⟩ dX7_readFactor_51 (fun w3 hp3 => ?_)
    obtain ⟨hq3, hf3⟩ := hp3
    have hT3 := hadv3 _ hq3
    obtain ⟨st_4, est_4⟩ : ∃ z : PS, z = adP bt n st := ⟨_, rfl⟩
    rw [← est_4] at hT3
    refine k_iload_n hC dX7_readFactor_54 rfl 0 rfl ?_
    refine k_if_eq hC 82 dX7_readFactor_55 rfl (by omega) (fun c_55 => absurd c_55 (by omega)) (fun c_55 => ?_)
    refine k_iconst hC dX7_readFactor_58 ?_
    refine k_aload_n hC dX7_readFactor_59 rfl 1 rfl ?_
    have h_5 : w3 129 = .inr (7, [.ref (kad G 1), .ref (kad G 3), .ref (kad G 10), .ref (kad G 130), .ref (kad G 131)]) := (hf3 129 (by decide)).trans h129
    refine k_get hC fd_X7_22 (kl hN (by decide)) h_5 rfl dX7_readFactor_60 ?_
    have hB_6 : kLog G w3 3 g := hLg.fr (fun j q1 q2 => (hf3 j (by omega)))
    refine k_get hC fd_X7_64 (kl hN (by decide)) hB_6.1 rfl dX7_readFactor_63 ?_
    refine k_topv (vI (((g 2).toNat : Int))) (congrArg vI (by omega)) ?_
    refine k_ishl1 hC (n := (((g 2).toNat : Int)).toNat) (by omega) dX7_readFactor_66 ?_
    refine k_iconst hC dX7_readFactor_67 ?_
    refine k_isub hC dX7_readFactor_68 ?_
    refine k_istore_n hC [(3, vI (((2 ^ ((((g 2).toNat : Int)).toNat) : Nat) : Int) - 1)), (2, vI z_2), (0, .ref (kad G 129)), (1, vI 1)] dX7_readFactor_69 rfl (by decide) rfl ?_
    refine k_iload_n hC dX7_readFactor_70 rfl 0 rfl ?_
    refine k_aload_n hC dX7_readFactor_71 rfl 2 rfl ?_
    refine k_iload_n hC dX7_readFactor_72 rfl 3 rfl ?_
    refine k_iconst hC dX7_readFactor_73 ?_
    refine k_iadd hC dX7_readFactor_74 ?_
    refine k_topv (vI 2) (congrArg vI (by decide)) ?_
    have h_8 : w3 130 = iA G 12 lf0 := (hf3 130 (by decide)).trans hlf0
    have h_9 : w3 131 = iA G 12 rf0 := (hf3 131 (by decide)).trans hrf0
    have h_10 : w3 2 = bA G 700 (fun j => sb8 (bt j)) := (hf3 2 (by decide)).trans h2
    have h_11 : w3 10 = .inr (0, [.ref (kad G 11), .ref (kad G 12), .ref (kad G 13), .ref (kad G 14), .ref (kad G 15), .ref (kad G 16)]) := (hf3 10 (by decide)).trans h10
    have h_12 : w3 11 = rA G 4 12 (fun j => some (kad G (20 + j))) := (hf3 11 (by decide)).trans h11
    have hB_13 : kDrawn w3 g 0 ((g 2).toNat) := hD.fr (fun j q1 q2 => (hf3 j (by omega)))
    refine k_mutV hC (c_X7_readFactor_4 l hls G hN w3 fl bt n st_4 g hn2 hn7 hb h_10 hT3 h_5 hI hB_6 h_11 h_12 hB_13 ⟨_, h_8⟩ ⟨_, h_9⟩) yy_X7_readFactor wm_X7_45 (kl hN (by decide)) h_5 rfl rfl rfl rfl (Nat.le_of_ble_eq_true rfl) (by decide) (by decide) ⟨by decide, by decide⟩ dX7_readFactor_75 (fun w7 hp7 => ?_)
    obtain ⟨hT7, ⟨⟨lf7, hlf7⟩, rf7, hrf7⟩, hf7⟩ := hp7
    obtain ⟨st_14, est_14⟩ : ∃ z : PS, z = (qG (pV g) bt n 4 st_4).1 := ⟨_, rfl⟩
    rw [← est_14] at hT7
    refine k_iconst hC dX7_readFactor_78 ?_
    refine k_inotN hC (a := mkN ((qG (pV g) bt n 4 st_4).2.2) (g 2).toNat) (mkN_12 _ (by omega)) dX7_readFactor_79 ?_
    refine k_iallN hC (a := mkN ((qG (pV g) bt n 4 st_4).2.2) (g 2).toNat) (n := (g 2).toNat) (by omega) (mkN_12 _ (by omega)) (mkN_b _ _) dX7_readFactor_80 ?_
    subst hQ
    exact k_iret hC hr ⟨by decide, by decide⟩ (⟨congrArg (fun z => some (vI ((z : Nat) : Int))) (by rw [qG_n hw31, ← est_4]; have h9 := mkN_not (qG (pV g) bt n 4 st_4).2.2 (g 2).toNat; show mkN (fun i => !(qG (pV g) bt n 4 st_4).2.2 i) (g 2).toNat = _; omega), rfl, (by have e : st_14 = (qG (pV g) bt n 5 st).1 := (by rw [qG_n hw31]; show st_14 = (qG (pV g) bt n 4 (adP bt n st)).1; rw [← est_4]; exact est_14); rw [← e]; exact hT7), ⟨⟨_, hlf7⟩, _, hrf7⟩, fun j hj => (hf7 j (by omega)).trans (hf3 j (by omega))⟩) dX7_readFactor_81
  · have hw31 : ¬ isW bt n 31 st := (hz_2.resolve_left (fun q1 => by omega)).2
    refine k_aload_n hC dX7_readFactor_14 rfl 1 rfl ?_
    refine k_get hC fd_X7_18 (kl hN (by decide)) h129 rfl dX7_readFactor_15 ?_
    refine k_bipush hC dX7_readFactor_18 (by decide) ?_
    refine k_pureV hC (c_X10_isSign l hls G hN w fl bt n st 40 (by omega) hn7 hb h2 hT) yy_X10_isSign wm_X7_52 (kl hN (by decide)) h1o_1 rfl rfl rfl rfl (Nat.le_of_ble_eq_true rfl) (by decide) (by decide) ⟨by decide, by decide⟩ dX7_readFactor_20 ?_
    obtain ⟨z_15, ez_15, hz_15⟩ := selI_c (isS bt n 40 st)
    refine k_topv (vI z_15) (by rw [ez_15]) ?_
    refine k_if_ne hC 31 dX7_readFactor_23 rfl (by omega) (fun c_23 => ?_) (fun c_23 => ?_)
    · have hw40 : isS bt n 40 st := (hz_15.resolve_right (fun q1 => by omega)).2
      refine k_iload_n hC dX7_readFactor_31 rfl 2 rfl ?_
      refine k_bipush hC dX7_readFactor_32 (by decide) ?_
      refine k_icmp_lt hC 47 dX7_readFactor_34 rfl (by omega) (by omega) (fun c_34 => ?_) (fun c_34 => absurd c_34 (by omega))
      refine k_aload_n hC dX7_readFactor_47 rfl 1 rfl ?_
      refine k_get hC fd_X7_18 (kl hN (by decide)) h129 rfl dX7_readFactor_48 ?_
      obtain ⟨cn16, ea16, kd16, nm16, sa16, p916, hp916, h116, hadv16⟩ := tk_open hT
      refine k_muvV hC (c_X10_advance l hls G hN w fl bt n p916 cn16 st.1 ea16 kd16 nm16 sa16 hn7 hp916 hb h2 h116) yy_X10_advance wm_X7_42 (kl hN (by decide)) h116 rfl rfl rfl rfl (Nat.le_of_ble_eq_true rfl) (by decide) (by decide) ⟨by decide, by decide⟩ dX7_readFactor_51 (fun w16 hp16 => ?_)
      obtain ⟨hq16, hf16⟩ := hp16
      have hT16 := hadv16 _ hq16
      obtain ⟨st_17, est_17⟩ : ∃ z : PS, z = adP bt n st := ⟨_, rfl⟩
      rw [← est_17] at hT16
      refine k_iload_n hC dX7_readFactor_54 rfl 0 rfl ?_
      refine k_if_eq hC 82 dX7_readFactor_55 rfl (by omega) (fun c_55 => ?_) (fun c_55 => absurd c_55 (by omega))
      refine k_aload_n hC dX7_readFactor_82 rfl 1 rfl ?_
      refine k_iload_n hC dX7_readFactor_83 rfl 2 rfl ?_
      refine k_iconst hC dX7_readFactor_84 ?_
      refine k_iadd hC dX7_readFactor_85 ?_
      refine k_topv (vI 2) (congrArg vI (by decide)) ?_
      have h_19 : w16 130 = iA G 12 lf0 := (hf16 130 (by decide)).trans hlf0
      have h_20 : w16 131 = iA G 12 rf0 := (hf16 131 (by decide)).trans hrf0
      have h_21 : w16 2 = bA G 700 (fun j => sb8 (bt j)) := (hf16 2 (by decide)).trans h2
      have h_22 : w16 129 = .inr (7, [.ref (kad G 1), .ref (kad G 3), .ref (kad G 10), .ref (kad G 130), .ref (kad G 131)]) := (hf16 129 (by decide)).trans h129
      have hB_23 : kLog G w16 3 g := hLg.fr (fun j q1 q2 => (hf16 j (by omega)))
      have h_24 : w16 10 = .inr (0, [.ref (kad G 11), .ref (kad G 12), .ref (kad G 13), .ref (kad G 14), .ref (kad G 15), .ref (kad G 16)]) := (hf16 10 (by decide)).trans h10
      have h_25 : w16 11 = rA G 4 12 (fun j => some (kad G (20 + j))) := (hf16 11 (by decide)).trans h11
      have hB_26 : kDrawn w16 g 0 ((g 2).toNat) := hD.fr (fun j q1 q2 => (hf16 j (by omega)))
      refine k_mutV hC (c_X7_readTest_4 l hls G hN w16 fl bt n st_17 g hn2 hn7 hb h_21 hT16 h_22 hI hB_23 h_24 h_25 hB_26 ⟨_, h_19⟩ ⟨_, h_20⟩) yy_X7_readTest wm_X7_70 (kl hN (by decide)) h_22 rfl rfl rfl rfl (Nat.le_of_ble_eq_true rfl) (by decide) (by decide) ⟨by decide, by decide⟩ dX7_readFactor_86 (fun w18 hp18 => ?_)
      obtain ⟨hT18, ⟨⟨lf18, hlf18⟩, rf18, hrf18⟩, hf18⟩ := hp18
      obtain ⟨st_27, est_27⟩ : ∃ z : PS, z = (tstM bt n (qG (pV g) bt n 4) st_17).1 := ⟨_, rfl⟩
      rw [← est_27] at hT18
      refine k_istore_n hC [(3, vI ((mkN ((tstM bt n (qG (pV g) bt n 4) st_17).2.2) (g 2).toNat : Nat) : Int)), (2, vI z_2), (0, .ref (kad G 129)), (1, vI 1)] dX7_readFactor_89 rfl (by decide) rfl ?_
      refine k_aload_n hC dX7_readFactor_90 rfl 2 rfl ?_
      have h_28 : w18 129 = .inr (7, [.ref (kad G 1), .ref (kad G 3), .ref (kad G 10), .ref (kad G 130), .ref (kad G 131)]) := (hf18 129 (by decide)).trans h_22
      refine k_get hC fd_X7_18 (kl hN (by decide)) h_28 rfl dX7_readFactor_91 ?_
      refine k_bipush hC dX7_readFactor_94 (by decide) ?_
      have hTco_30 := hT18
      obtain ⟨cno_30, eao_30, kdo_30, nmo_30, sao_30, nxo_30, h1o_30, -⟩ := hTco_30
      have h_31 : w18 2 = bA G 700 (fun j => sb8 (bt j)) := (hf18 2 (by decide)).trans h_21
      refine k_muvV hC (c_X10_needSign l hls G hN w18 fl bt n st_27 41 (by omega) hn7 hb h_31 hT18) yy_X10_needSign wm_X7_73 (kl hN (by decide)) h1o_30 rfl rfl rfl rfl (Nat.le_of_ble_eq_true rfl) (by decide) (by decide) ⟨by decide, by decide⟩ dX7_readFactor_96 (fun w29 hp29 => ?_)
      obtain ⟨hT29, hf29⟩ := hp29
      obtain ⟨st_32, est_32⟩ : ∃ z : PS, z = nsP bt n 41 st_27 := ⟨_, rfl⟩
      rw [← est_32] at hT29
      refine k_iload_n hC dX7_readFactor_99 rfl 0 rfl ?_
      have h_33 : w29 130 = iA G 12 lf18 := (hf29 130 (by decide)).trans hlf18
      have h_34 : w29 131 = iA G 12 rf18 := (hf29 131 (by decide)).trans hrf18
      subst hQ
      exact k_iret hC hr ⟨by decide, by decide⟩ (⟨congrArg (fun z => some (vI ((z : Nat) : Int))) (by rw [qG_p hw31 hw40, ← est_17]; rfl), rfl, (by have e : st_32 = (qG (pV g) bt n 5 st).1 := (by rw [qG_p hw31 hw40]; show st_32 = nsP bt n 41 (tstM bt n (qG (pV g) bt n 4) (adP bt n st)).1; rw [← est_17, ← est_27]; exact est_32); rw [← e]; exact hT29), ⟨⟨_, h_33⟩, _, h_34⟩, fun j hj => (hf29 j (by omega)).trans ((hf18 j (by omega)).trans (hf16 j (by omega)))⟩) dX7_readFactor_100
    · have hw40 : ¬ isS bt n 40 st := (hz_15.resolve_left (fun q1 => by omega)).2
      have hqG := qG_c (V := pV g) 5 hw31 hw40
      refine k_aload_n hC dX7_readFactor_26 rfl 1 rfl ?_
      refine k_mutV hC (c_X7_readComparison l hls G hN w fl bt n st g hn7 hb h2 hT h129 hI hLg h10 h11 hD ⟨_, hlf0⟩ ⟨_, hrf0⟩) yy_X7_readComparison wm_X7_56 (kl hN (by decide)) h129 rfl rfl rfl rfl (Nat.le_of_ble_eq_true rfl) (by decide) (by decide) ⟨by decide, by decide⟩ dX7_readFactor_27 (fun w35 hp35 => ?_)
      obtain ⟨hT35, ⟨⟨lf35, hlf35⟩, rf35, hrf35⟩, hf35⟩ := hp35
      obtain ⟨st_36, est_36⟩ : ∃ z : PS, z = (cmpG (pV g) bt n st).1 := ⟨_, rfl⟩
      rw [← est_36] at hT35
      subst hQ
      exact k_iret hC hr ⟨by decide, by decide⟩ (⟨congrArg (fun z => some (vI ((z : Nat) : Int))) (by rw [hqG]; rfl), rfl, (by have e : st_36 = (qG (pV g) bt n 5 st).1 := (by rw [hqG]; exact est_36); rw [← e]; exact hT35), ⟨⟨_, hlf35⟩, _, hrf35⟩, fun j hj => hf35 j (by omega)⟩) dX7_readFactor_30

set_option maxRecDepth 100000 in
set_option maxHeartbeats 4000000 in
theorem c_X7_readConjunction_5 (l : Launch) (hls : l.stackTraces = false) (G : kG) (hN : 133 ≤ kN G) (w : Nat → va_E) (fl : va_W) (bt : Nat → Int) (n : Nat) (st : PS) (g : Nat → Int) (hn2 : n ≤ 200) (hn7 : n ≤ 700) (hb : btOK bt) (h2 : w 2 = byA G bt) (hT : tkR G w bt n st) (h129 : w 129 = qdO G) (hI : Inv g) (hLg : kLog G w 3 g) (h10 : w 10 = chO G) (h11 : w 11 = liA G) (hD : kDrawn w g 0 (g 2).toNat) (hl0 : ∃ lf, w 130 = iA G 12 lf) (hr0 : ∃ rf, w 131 = iA G 12 rf) : KM l G yX7_readConjunction cX7_readConjunction 4 (some (FieldType.int)) 23 0 0 [.ref (kad G 129), vI 1] w fl (kMut (vI ((mkN ((conM bt n (qG (pV g) bt n 5) st).2.2) (g 2).toNat : Nat) : Int)) fl (fun w1 => tkR G w1 bt n ((conM bt n (qG (pV g) bt n 5) st).1) ∧ ((∃ lf, w1 130 = iA G 12 lf) ∧ ∃ rf, w1 131 = iA G 12 rf) ∧ ∀ j, (j ≠ 1 ∧ j ≠ 130 ∧ j ≠ 131) → w1 j = w j)) := by
  refine KM_of2 hls (by decide +kernel) rfl (lv0 := [(0, .ref (kad G 129)), (1, vI 1)]) rfl (Nat.le_of_ble_eq_true rfl) (fun p e R s m args below meth c Q hC hr hQ => ?_)
  have h0 := hI.c
  obtain ⟨lf0, hlf0⟩ := hl0
  obtain ⟨rf0, hrf0⟩ := hr0
  have hle0 := hT.le
  refine k_aload_n hC dX7_readConjunction_0 rfl 0 rfl ?_
  refine k_iload_n hC dX7_readConjunction_1 rfl 1 rfl ?_
  refine k_mutV hC (c_X7_readFactor_5 l hls G hN w fl bt n st g hn2 hn7 hb h2 hT h129 hI hLg h10 h11 hD ⟨_, hlf0⟩ ⟨_, hrf0⟩) yy_X7_readFactor wm_X7_45 (kl hN (by decide)) h129 rfl rfl rfl rfl (Nat.le_of_ble_eq_true rfl) (by decide) (by decide) ⟨by decide, by decide⟩ dX7_readConjunction_2 (fun w1 hp1 => ?_)
  obtain ⟨hT1, ⟨⟨lf1, hlf1⟩, rf1, hrf1⟩, hf1⟩ := hp1
  obtain ⟨st_2, est_2⟩ : ∃ z : PS, z = (qG (pV g) bt n 5 st).1 := ⟨_, rfl⟩
  rw [← est_2] at hT1
  refine k_istore_n hC [(2, vI ((mkN ((qG (pV g) bt n 5 st).2.2) (g 2).toNat : Nat) : Int)), (0, .ref (kad G 129)), (1, vI 1)] dX7_readConjunction_5 rfl (by decide) rfl ?_
  refine k_iconst hC dX7_readConjunction_6 ?_
  refine k_istore_n hC [(3, vI 0), (2, vI ((mkN ((qG (pV g) bt n 5 st).2.2) (g 2).toNat : Nat) : Int)), (0, .ref (kad G 129)), (1, vI 1)] dX7_readConjunction_7 rfl (by decide) rfl ?_
  have hG := endG (V := pV g) (bt := bt) (n := n) (w := 37) (c := -24) (F := qG (pV g) bt n 5) (F1 := qF (pV g) bt n 5) (r0 := qG (pV g) bt n 5 st) (r1 := qF (pV g) bt n 5 st) hn2 hle0 (Or.inl rfl) (gq_qF (V := pV g) (bt := bt) (n := n) 5) (rel_qF 5) (gq_qF (V := pV g) (bt := bt) (n := n) 5 st) (rel_qF 5 st)
  have loop2 : ∀ (nw : Nat) (k : Nat) (rr : QR) (st9 : PS) (lf : Nat → Int) (rf : Nat → Int) (wvw : Nat → va_E), (200 < nw + k) → (k ≤ 200) → (rr = cjN bt n 37 (-24) (qG (pV g) bt n 5) k (qG (pV g) bt n 5 st)) → (st9 = rr.1) → (wvw 2 = bA G 700 (fun j => sb8 (bt j))) → (wvw 129 = .inr (7, [.ref (kad G 1), .ref (kad G 3), .ref (kad G 10), .ref (kad G 130), .ref (kad G 131)])) → (wvw 130 = iA G 12 lf) → (wvw 131 = iA G 12 rf) → (tkR G wvw bt n st9) → (kLog G wvw 3 g) → (kDrawn wvw g 0 ((g 2).toNat)) → ((∀ j, (j ≠ 1 ∧ j ≠ 130 ∧ j ≠ 131) → wvw j = w j)) → KW p l e R s m args below meth c 4 G Q wvw fl 0 0 8 [(3, vI (k : Int)), (2, vI ((mkN rr.2.2 (g 2).toNat : Nat) : Int)), (0, .ref (kad G 129)), (1, vI 1)] [] := by
    intro nw
    induction nw with
    | zero =>
      intro k rr st9 lf rf wvw hn_w hk9 hx hst9 hb9 h129q hlq hrq hTq hLq hDq hfrw
      exact absurd hn_w (by omega)
    | succ nw ihw =>
      intro k rr st9 lf rf wvw hn_w hk9 hx hst9 hb9 h129q hlq hrq hTq hLq hDq hfrw
      have h10q := (hfrw 10 (by omega)).trans h10
      have h11q := (hfrw 11 (by omega)).trans h11
      refine k_iload_n hC dX7_readConjunction_8 rfl 0 rfl ?_
      refine k_sipush hC dX7_readConjunction_9 (by decide) ?_
      refine k_icmp_ge hC 48 dX7_readConjunction_12 rfl (by omega) (by omega) (fun c_12 => ?_) (fun c_12 => ?_)
      · have hwn : ¬ isW bt n 37 st9 := fun q => by have := hG.2 k (by rw [← hx, ← hst9]; exact q); omega
        refine k_iload_n hC dX7_readConjunction_48 rfl 1 rfl ?_
        have hfin : rr = conM bt n (qG (pV g) bt n 5) st := by rw [hx]; exact cjN_eq (by rw [← hx, ← hst9]; exact hwn) hG.1
        subst hQ
        exact k_iret hC hr ⟨by decide, by decide⟩ (⟨congrArg (fun z => some (vI ((z : Nat) : Int))) (by rw [← hfin]), rfl, (by have e : st9 = (conM bt n (qG (pV g) bt n 5) st).1 := (by rw [← hfin]; exact hst9); rw [← e]; exact hTq), ⟨⟨_, hlq⟩, _, hrq⟩, fun j hj => hfrw j (by omega)⟩) dX7_readConjunction_49
      · refine k_aload_n hC dX7_readConjunction_15 rfl 2 rfl ?_
        refine k_get hC fd_X7_18 (kl hN (by decide)) h129q rfl dX7_readConjunction_16 ?_
        refine k_ldcs hC (List.mem_of_getElem? (i := 39) rfl) dX7_readConjunction_19 ?_
        have hTco_3 := hTq
        obtain ⟨cno_3, eao_3, kdo_3, nmo_3, sao_3, nxo_3, h1o_3, -⟩ := hTco_3
        refine k_pureV hC (c_X10_isWord l hls G hN wvw fl bt n st9 37 (by decide) hn7 hb hb9 hTq) yy_X10_isWord wm_X7_36 (kl hN (by decide)) h1o_3 rfl rfl rfl rfl (Nat.le_of_ble_eq_true rfl) (by decide) (by decide) ⟨by decide, by decide⟩ dX7_readConjunction_21 ?_
        obtain ⟨z_4, ez_4, hz_4⟩ := selI_c (isW bt n 37 st9)
        refine k_topv (vI z_4) (by rw [ez_4]) ?_
        refine k_if_eq hC 48 dX7_readConjunction_24 rfl (by omega) (fun c_24 => ?_) (fun c_24 => ?_)
        · have hwn : ¬ isW bt n 37 st9 := (hz_4.resolve_left (fun q1 => by omega)).2
          refine k_iload_n hC dX7_readConjunction_48 rfl 1 rfl ?_
          have hfin : rr = conM bt n (qG (pV g) bt n 5) st := by rw [hx]; exact cjN_eq (by rw [← hx, ← hst9]; exact hwn) hG.1
          subst hQ
          exact k_iret hC hr ⟨by decide, by decide⟩ (⟨congrArg (fun z => some (vI ((z : Nat) : Int))) (by rw [← hfin]), rfl, (by have e : st9 = (conM bt n (qG (pV g) bt n 5) st).1 := (by rw [← hfin]; exact hst9); rw [← e]; exact hTq), ⟨⟨_, hlq⟩, _, hrq⟩, fun j hj => hfrw j (by omega)⟩) dX7_readConjunction_49
        · have hwr : isW bt n 37 rr.1 := by rw [← hst9]; exact (hz_4.resolve_right (fun q1 => by omega)).2
          refine k_aload_n hC dX7_readConjunction_27 rfl 2 rfl ?_
          refine k_get hC fd_X7_18 (kl hN (by decide)) h129q rfl dX7_readConjunction_28 ?_
          obtain ⟨cn5, ea5, kd5, nm5, sa5, p95, hp95, h15, hadv5⟩ := tk_open hTq
          refine k_muvV hC (c_X10_advance l hls G hN wvw fl bt n p95 cn5 st9.1 ea5 kd5 nm5 sa5 hn7 hp95 hb hb9 h15) yy_X10_advance wm_X7_42 (kl hN (by decide)) h15 rfl rfl rfl rfl (Nat.le_of_ble_eq_true rfl) (by decide) (by decide) ⟨by decide, by decide⟩ dX7_readConjunction_31 (fun w5 hp5 => ?_)
          obtain ⟨hq5, hf5⟩ := hp5
          have hT5 := hadv5 _ hq5
          obtain ⟨st_6, est_6⟩ : ∃ z : PS, z = adP bt n st9 := ⟨_, rfl⟩
          rw [← est_6] at hT5
          refine k_iload_n hC dX7_readConjunction_34 rfl 1 rfl ?_
          refine k_aload_n hC dX7_readConjunction_35 rfl 2 rfl ?_
          refine k_iload_n hC dX7_readConjunction_36 rfl 3 rfl ?_
          have h_8 : w5 130 = iA G 12 lf := (hf5 130 (by decide)).trans hlq
          have h_9 : w5 131 = iA G 12 rf := (hf5 131 (by decide)).trans hrq
          have h_10 : w5 2 = bA G 700 (fun j => sb8 (bt j)) := (hf5 2 (by decide)).trans hb9
          have h_11 : w5 129 = .inr (7, [.ref (kad G 1), .ref (kad G 3), .ref (kad G 10), .ref (kad G 130), .ref (kad G 131)]) := (hf5 129 (by decide)).trans h129q
          have hB_12 : kLog G w5 3 g := hLq.fr (fun j q1 q2 => (hf5 j (by omega)))
          have h_13 : w5 10 = .inr (0, [.ref (kad G 11), .ref (kad G 12), .ref (kad G 13), .ref (kad G 14), .ref (kad G 15), .ref (kad G 16)]) := (hf5 10 (by decide)).trans h10q
          have h_14 : w5 11 = rA G 4 12 (fun j => some (kad G (20 + j))) := (hf5 11 (by decide)).trans h11q
          have hB_15 : kDrawn w5 g 0 ((g 2).toNat) := hDq.fr (fun j q1 q2 => (hf5 j (by omega)))
          refine k_mutV hC (c_X7_readFactor_5 l hls G hN w5 fl bt n st_6 g hn2 hn7 hb h_10 hT5 h_11 hI hB_12 h_13 h_14 hB_15 ⟨_, h_8⟩ ⟨_, h_9⟩) yy_X7_readFactor wm_X7_45 (kl hN (by decide)) h_11 rfl rfl rfl rfl (Nat.le_of_ble_eq_true rfl) (by decide) (by decide) ⟨by decide, by decide⟩ dX7_readConjunction_37 (fun w7 hp7 => ?_)
          obtain ⟨hT7, ⟨⟨lf7, hlf7⟩, rf7, hrf7⟩, hf7⟩ := hp7
          obtain ⟨st_16, est_16⟩ : ∃ z : PS, z = (qG (pV g) bt n 5 st_6).1 := ⟨_, rfl⟩
          rw [← est_16] at hT7
          refine k_iandN hC (a := mkN rr.2.2 (g 2).toNat) (b := mkN ((qG (pV g) bt n 5 st_6).2.2) (g 2).toNat) dX7_readConjunction_40 ?_
          refine k_topv (vI ((mkN ((and2 (-24) rr (qG (pV g) bt n 5 st_6)).2.2) (g 2).toNat : Nat) : Int)) (congrArg (fun q : Nat => vI (q : Int)) ((mkN_and _ _ _).trans (mkN_c _ (fun i _ => (if_pos rfl).symm)))) ?_
          refine k_istore_n hC [(2, vI ((mkN ((and2 (-24) rr (qG (pV g) bt n 5 st_6)).2.2) (g 2).toNat : Nat) : Int)), (3, vI (k : Int)), (0, .ref (kad G 129)), (1, vI 1)] dX7_readConjunction_41 rfl (by decide) rfl ?_
          refine k_iinc hC (y := (k : Int) + 1) [(3, vI ((k : Int) + 1)), (2, vI ((mkN ((and2 (-24) rr (qG (pV g) bt n 5 st_6)).2.2) (g 2).toNat : Nat) : Int)), (0, .ref (kad G 129)), (1, vI 1)] (j := 1) dX7_readConjunction_42 rfl (by omega) (by decide) rfl ?_
          refine k_goto hC 8 dX7_readConjunction_45 rfl ?_
          refine k_lvs (ls := [0, 1, 2, 3]) [(3, vI ((k + 1 : Nat) : Int)), (2, vI ((mkN ((and2 (-24) rr (qG (pV g) bt n 5 st_6)).2.2) (g 2).toNat : Nat) : Int)), (0, .ref (kad G 129)), (1, vI 1)] (by simp only [lv_pick]; rfl) ?_
          have h_17 : w7 2 = bA G 700 (fun j => sb8 (bt j)) := (hf7 2 (by decide)).trans h_10
          have h_18 : w7 129 = .inr (7, [.ref (kad G 1), .ref (kad G 3), .ref (kad G 10), .ref (kad G 130), .ref (kad G 131)]) := (hf7 129 (by decide)).trans h_11
          have hB_19 : kLog G w7 3 g := hB_12.fr (fun j q1 q2 => (hf7 j (by omega)))
          have hB_20 : kDrawn w7 g 0 ((g 2).toNat) := hB_15.fr (fun j q1 q2 => (hf7 j (by omega)))
          exact ihw (k + 1) (and2 (-24) rr (qG (pV g) bt n 5 st_6)) st_16 lf7 rf7 w7 (by omega) (by omega) (by rw [cjN_go k _ (by rw [← hx]; exact hwr), ← hx, est_6, hst9]) est_16 h_17 h_18 hlf7 hrf7 hT7 hB_19 hB_20 (fun j hj => (hf7 j (by omega)).trans ((hf5 j (by omega)).trans (hfrw j (by omega))))
  refine k_lvs (ls := [0, 1, 2, 3]) [(3, vI ((0 : Nat) : Int)), (2, vI ((mkN ((qG (pV g) bt n 5 st).2.2) (g 2).toNat : Nat) : Int)), (0, .ref (kad G 129)), (1, vI 1)] (by simp only [lv_pick]; rfl) ?_
  have h_21 : w1 2 = bA G 700 (fun j => sb8 (bt j)) := (hf1 2 (by decide)).trans h2
  have h_22 : w1 129 = .inr (7, [.ref (kad G 1), .ref (kad G 3), .ref (kad G 10), .ref (kad G 130), .ref (kad G 131)]) := (hf1 129 (by decide)).trans h129
  have hB_23 : kLog G w1 3 g := hLg.fr (fun j q1 q2 => (hf1 j (by omega)))
  have hB_24 : kDrawn w1 g 0 ((g 2).toNat) := hD.fr (fun j q1 q2 => (hf1 j (by omega)))
  exact loop2 201 0 (qG (pV g) bt n 5 st) st_2 lf1 rf1 w1 (by omega) (by omega) rfl est_2 h_21 h_22 hlf1 hrf1 hT1 hB_23 hB_24 (fun j hj => hf1 j (by omega))

set_option maxRecDepth 100000 in
set_option maxHeartbeats 4000000 in
theorem c_X7_readTest_5 (l : Launch) (hls : l.stackTraces = false) (G : kG) (hN : 133 ≤ kN G) (w : Nat → va_E) (fl : va_W) (bt : Nat → Int) (n : Nat) (st : PS) (g : Nat → Int) (hn2 : n ≤ 200) (hn7 : n ≤ 700) (hb : btOK bt) (h2 : w 2 = byA G bt) (hT : tkR G w bt n st) (h129 : w 129 = qdO G) (hI : Inv g) (hLg : kLog G w 3 g) (h10 : w 10 = chO G) (h11 : w 11 = liA G) (hD : kDrawn w g 0 (g 2).toNat) (hl0 : ∃ lf, w 130 = iA G 12 lf) (hr0 : ∃ rf, w 131 = iA G 12 rf) : KM l G yX7_readTest cX7_readTest 4 (some (FieldType.int)) 24 0 0 [.ref (kad G 129), vI 1] w fl (kMut (vI ((mkN ((tstM bt n (qG (pV g) bt n 5) st).2.2) (g 2).toNat : Nat) : Int)) fl (fun w1 => tkR G w1 bt n ((tstM bt n (qG (pV g) bt n 5) st).1) ∧ ((∃ lf, w1 130 = iA G 12 lf) ∧ ∃ rf, w1 131 = iA G 12 rf) ∧ ∀ j, (j ≠ 1 ∧ j ≠ 130 ∧ j ≠ 131) → w1 j = w j)) := by
  refine KM_of2 hls (by decide +kernel) rfl (lv0 := [(0, .ref (kad G 129)), (1, vI 1)]) rfl (Nat.le_of_ble_eq_true rfl) (fun p e R s m args below meth c Q hC hr hQ => ?_)
  have h0 := hI.c
  obtain ⟨lf0, hlf0⟩ := hl0
  obtain ⟨rf0, hrf0⟩ := hr0
  have hle0 := hT.le
  refine k_aload_n hC dX7_readTest_0 rfl 0 rfl ?_
  refine k_iload_n hC dX7_readTest_1 rfl 1 rfl ?_
  refine k_mutV hC (c_X7_readConjunction_5 l hls G hN w fl bt n st g hn2 hn7 hb h2 hT h129 hI hLg h10 h11 hD ⟨_, hlf0⟩ ⟨_, hrf0⟩) yy_X7_readConjunction wm_X7_30 (kl hN (by decide)) h129 rfl rfl rfl rfl (Nat.le_of_ble_eq_true rfl) (by decide) (by decide) ⟨by decide, by decide⟩ dX7_readTest_2 (fun w1 hp1 => ?_)
  obtain ⟨hT1, ⟨⟨lf1, hlf1⟩, rf1, hrf1⟩, hf1⟩ := hp1
  obtain ⟨st_2, est_2⟩ : ∃ z : PS, z = (conM bt n (qG (pV g) bt n 5) st).1 := ⟨_, rfl⟩
  rw [← est_2] at hT1
  refine k_istore_n hC [(2, vI ((mkN ((conM bt n (qG (pV g) bt n 5) st).2.2) (g 2).toNat : Nat) : Int)), (0, .ref (kad G 129)), (1, vI 1)] dX7_readTest_5 rfl (by decide) rfl ?_
  refine k_iconst hC dX7_readTest_6 ?_
  refine k_istore_n hC [(3, vI 0), (2, vI ((mkN ((conM bt n (qG (pV g) bt n 5) st).2.2) (g 2).toNat : Nat) : Int)), (0, .ref (kad G 129)), (1, vI 1)] dX7_readTest_7 rfl (by decide) rfl ?_
  have hG := endG (V := pV g) (bt := bt) (n := n) (w := 38) (c := -25) (F := conM bt n (qG (pV g) bt n 5)) (F1 := conM bt n (qF (pV g) bt n 5)) (r0 := conM bt n (qG (pV g) bt n 5) st) (r1 := conM bt n (qF (pV g) bt n 5) st) hn2 hle0 (Or.inr rfl) (gq_con (gq_qF (V := pV g) (bt := bt) (n := n) 5)) (rel_con (rel_qF 5)) (gq_con (gq_qF (V := pV g) (bt := bt) (n := n) 5) st) (rel_con (rel_qF 5) st)
  have loop2 : ∀ (nw : Nat) (k : Nat) (rr : QR) (st9 : PS) (lf : Nat → Int) (rf : Nat → Int) (wvw : Nat → va_E), (200 < nw + k) → (k ≤ 200) → (rr = cjN bt n 38 (-25) (conM bt n (qG (pV g) bt n 5)) k (conM bt n (qG (pV g) bt n 5) st)) → (st9 = rr.1) → (wvw 2 = bA G 700 (fun j => sb8 (bt j))) → (wvw 129 = .inr (7, [.ref (kad G 1), .ref (kad G 3), .ref (kad G 10), .ref (kad G 130), .ref (kad G 131)])) → (wvw 130 = iA G 12 lf) → (wvw 131 = iA G 12 rf) → (tkR G wvw bt n st9) → (kLog G wvw 3 g) → (kDrawn wvw g 0 ((g 2).toNat)) → ((∀ j, (j ≠ 1 ∧ j ≠ 130 ∧ j ≠ 131) → wvw j = w j)) → KW p l e R s m args below meth c 4 G Q wvw fl 0 0 8 [(3, vI (k : Int)), (2, vI ((mkN rr.2.2 (g 2).toNat : Nat) : Int)), (0, .ref (kad G 129)), (1, vI 1)] [] := by
    intro nw
    induction nw with
    | zero =>
      intro k rr st9 lf rf wvw hn_w hk9 hx hst9 hb9 h129q hlq hrq hTq hLq hDq hfrw
      exact absurd hn_w (by omega)
    | succ nw ihw =>
      intro k rr st9 lf rf wvw hn_w hk9 hx hst9 hb9 h129q hlq hrq hTq hLq hDq hfrw
      have h10q := (hfrw 10 (by omega)).trans h10
      have h11q := (hfrw 11 (by omega)).trans h11
      refine k_iload_n hC dX7_readTest_8 rfl 0 rfl ?_
      refine k_sipush hC dX7_readTest_9 (by decide) ?_
      refine k_icmp_ge hC 48 dX7_readTest_12 rfl (by omega) (by omega) (fun c_12 => ?_) (fun c_12 => ?_)
      · have hwn : ¬ isW bt n 38 st9 := fun q => by have := hG.2 k (by rw [← hx, ← hst9]; exact q); omega
        refine k_iload_n hC dX7_readTest_48 rfl 1 rfl ?_
        have hfin : rr = tstM bt n (qG (pV g) bt n 5) st := by rw [hx]; exact cjN_eq (by rw [← hx, ← hst9]; exact hwn) hG.1
        subst hQ
        exact k_iret hC hr ⟨by decide, by decide⟩ (⟨congrArg (fun z => some (vI ((z : Nat) : Int))) (by rw [← hfin]), rfl, (by have e : st9 = (tstM bt n (qG (pV g) bt n 5) st).1 := (by rw [← hfin]; exact hst9); rw [← e]; exact hTq), ⟨⟨_, hlq⟩, _, hrq⟩, fun j hj => hfrw j (by omega)⟩) dX7_readTest_49
      · refine k_aload_n hC dX7_readTest_15 rfl 2 rfl ?_
        refine k_get hC fd_X7_18 (kl hN (by decide)) h129q rfl dX7_readTest_16 ?_
        refine k_ldcs hC (List.mem_of_getElem? (i := 40) rfl) dX7_readTest_19 ?_
        have hTco_3 := hTq
        obtain ⟨cno_3, eao_3, kdo_3, nmo_3, sao_3, nxo_3, h1o_3, -⟩ := hTco_3
        refine k_pureV hC (c_X10_isWord l hls G hN wvw fl bt n st9 38 (by decide) hn7 hb hb9 hTq) yy_X10_isWord wm_X7_36 (kl hN (by decide)) h1o_3 rfl rfl rfl rfl (Nat.le_of_ble_eq_true rfl) (by decide) (by decide) ⟨by decide, by decide⟩ dX7_readTest_21 ?_
        obtain ⟨z_4, ez_4, hz_4⟩ := selI_c (isW bt n 38 st9)
        refine k_topv (vI z_4) (by rw [ez_4]) ?_
        refine k_if_eq hC 48 dX7_readTest_24 rfl (by omega) (fun c_24 => ?_) (fun c_24 => ?_)
        · have hwn : ¬ isW bt n 38 st9 := (hz_4.resolve_left (fun q1 => by omega)).2
          refine k_iload_n hC dX7_readTest_48 rfl 1 rfl ?_
          have hfin : rr = tstM bt n (qG (pV g) bt n 5) st := by rw [hx]; exact cjN_eq (by rw [← hx, ← hst9]; exact hwn) hG.1
          subst hQ
          exact k_iret hC hr ⟨by decide, by decide⟩ (⟨congrArg (fun z => some (vI ((z : Nat) : Int))) (by rw [← hfin]), rfl, (by have e : st9 = (tstM bt n (qG (pV g) bt n 5) st).1 := (by rw [← hfin]; exact hst9); rw [← e]; exact hTq), ⟨⟨_, hlq⟩, _, hrq⟩, fun j hj => hfrw j (by omega)⟩) dX7_readTest_49
        · have hwr : isW bt n 38 rr.1 := by rw [← hst9]; exact (hz_4.resolve_right (fun q1 => by omega)).2
          refine k_aload_n hC dX7_readTest_27 rfl 2 rfl ?_
          refine k_get hC fd_X7_18 (kl hN (by decide)) h129q rfl dX7_readTest_28 ?_
          obtain ⟨cn5, ea5, kd5, nm5, sa5, p95, hp95, h15, hadv5⟩ := tk_open hTq
          refine k_muvV hC (c_X10_advance l hls G hN wvw fl bt n p95 cn5 st9.1 ea5 kd5 nm5 sa5 hn7 hp95 hb hb9 h15) yy_X10_advance wm_X7_42 (kl hN (by decide)) h15 rfl rfl rfl rfl (Nat.le_of_ble_eq_true rfl) (by decide) (by decide) ⟨by decide, by decide⟩ dX7_readTest_31 (fun w5 hp5 => ?_)
          obtain ⟨hq5, hf5⟩ := hp5
          have hT5 := hadv5 _ hq5
          obtain ⟨st_6, est_6⟩ : ∃ z : PS, z = adP bt n st9 := ⟨_, rfl⟩
          rw [← est_6] at hT5
          refine k_iload_n hC dX7_readTest_34 rfl 1 rfl ?_
          refine k_aload_n hC dX7_readTest_35 rfl 2 rfl ?_
          refine k_iload_n hC dX7_readTest_36 rfl 3 rfl ?_
          have h_8 : w5 130 = iA G 12 lf := (hf5 130 (by decide)).trans hlq
          have h_9 : w5 131 = iA G 12 rf := (hf5 131 (by decide)).trans hrq
          have h_10 : w5 2 = bA G 700 (fun j => sb8 (bt j)) := (hf5 2 (by decide)).trans hb9
          have h_11 : w5 129 = .inr (7, [.ref (kad G 1), .ref (kad G 3), .ref (kad G 10), .ref (kad G 130), .ref (kad G 131)]) := (hf5 129 (by decide)).trans h129q
          have hB_12 : kLog G w5 3 g := hLq.fr (fun j q1 q2 => (hf5 j (by omega)))
          have h_13 : w5 10 = .inr (0, [.ref (kad G 11), .ref (kad G 12), .ref (kad G 13), .ref (kad G 14), .ref (kad G 15), .ref (kad G 16)]) := (hf5 10 (by decide)).trans h10q
          have h_14 : w5 11 = rA G 4 12 (fun j => some (kad G (20 + j))) := (hf5 11 (by decide)).trans h11q
          have hB_15 : kDrawn w5 g 0 ((g 2).toNat) := hDq.fr (fun j q1 q2 => (hf5 j (by omega)))
          refine k_mutV hC (c_X7_readConjunction_5 l hls G hN w5 fl bt n st_6 g hn2 hn7 hb h_10 hT5 h_11 hI hB_12 h_13 h_14 hB_15 ⟨_, h_8⟩ ⟨_, h_9⟩) yy_X7_readConjunction wm_X7_30 (kl hN (by decide)) h_11 rfl rfl rfl rfl (Nat.le_of_ble_eq_true rfl) (by decide) (by decide) ⟨by decide, by decide⟩ dX7_readTest_37 (fun w7 hp7 => ?_)
          obtain ⟨hT7, ⟨⟨lf7, hlf7⟩, rf7, hrf7⟩, hf7⟩ := hp7
          obtain ⟨st_16, est_16⟩ : ∃ z : PS, z = (conM bt n (qG (pV g) bt n 5) st_6).1 := ⟨_, rfl⟩
          rw [← est_16] at hT7
          refine k_iorN hC (a := mkN rr.2.2 (g 2).toNat) (b := mkN ((conM bt n (qG (pV g) bt n 5) st_6).2.2) (g 2).toNat) dX7_readTest_40 ?_
          refine k_topv (vI ((mkN ((and2 (-25) rr (conM bt n (qG (pV g) bt n 5) st_6)).2.2) (g 2).toNat : Nat) : Int)) (congrArg (fun q : Nat => vI (q : Int)) ((mkN_or _ _ _).trans (mkN_c _ (fun i _ => (if_neg (by decide)).symm)))) ?_
          refine k_istore_n hC [(2, vI ((mkN ((and2 (-25) rr (conM bt n (qG (pV g) bt n 5) st_6)).2.2) (g 2).toNat : Nat) : Int)), (3, vI (k : Int)), (0, .ref (kad G 129)), (1, vI 1)] dX7_readTest_41 rfl (by decide) rfl ?_
          refine k_iinc hC (y := (k : Int) + 1) [(3, vI ((k : Int) + 1)), (2, vI ((mkN ((and2 (-25) rr (conM bt n (qG (pV g) bt n 5) st_6)).2.2) (g 2).toNat : Nat) : Int)), (0, .ref (kad G 129)), (1, vI 1)] (j := 1) dX7_readTest_42 rfl (by omega) (by decide) rfl ?_
          refine k_goto hC 8 dX7_readTest_45 rfl ?_
          refine k_lvs (ls := [0, 1, 2, 3]) [(3, vI ((k + 1 : Nat) : Int)), (2, vI ((mkN ((and2 (-25) rr (conM bt n (qG (pV g) bt n 5) st_6)).2.2) (g 2).toNat : Nat) : Int)), (0, .ref (kad G 129)), (1, vI 1)] (by simp only [lv_pick]; rfl) ?_
          have h_17 : w7 2 = bA G 700 (fun j => sb8 (bt j)) := (hf7 2 (by decide)).trans h_10
          have h_18 : w7 129 = .inr (7, [.ref (kad G 1), .ref (kad G 3), .ref (kad G 10), .ref (kad G 130), .ref (kad G 131)]) := (hf7 129 (by decide)).trans h_11
          have hB_19 : kLog G w7 3 g := hB_12.fr (fun j q1 q2 => (hf7 j (by omega)))
          have hB_20 : kDrawn w7 g 0 ((g 2).toNat) := hB_15.fr (fun j q1 q2 => (hf7 j (by omega)))
          exact ihw (k + 1) (and2 (-25) rr (conM bt n (qG (pV g) bt n 5) st_6)) st_16 lf7 rf7 w7 (by omega) (by omega) (by rw [cjN_go k _ (by rw [← hx]; exact hwr), ← hx, est_6, hst9]) est_16 h_17 h_18 hlf7 hrf7 hT7 hB_19 hB_20 (fun j hj => (hf7 j (by omega)).trans ((hf5 j (by omega)).trans (hfrw j (by omega))))
  refine k_lvs (ls := [0, 1, 2, 3]) [(3, vI ((0 : Nat) : Int)), (2, vI ((mkN ((conM bt n (qG (pV g) bt n 5) st).2.2) (g 2).toNat : Nat) : Int)), (0, .ref (kad G 129)), (1, vI 1)] (by simp only [lv_pick]; rfl) ?_
  have h_21 : w1 2 = bA G 700 (fun j => sb8 (bt j)) := (hf1 2 (by decide)).trans h2
  have h_22 : w1 129 = .inr (7, [.ref (kad G 1), .ref (kad G 3), .ref (kad G 10), .ref (kad G 130), .ref (kad G 131)]) := (hf1 129 (by decide)).trans h129
  have hB_23 : kLog G w1 3 g := hLg.fr (fun j q1 q2 => (hf1 j (by omega)))
  have hB_24 : kDrawn w1 g 0 ((g 2).toNat) := hD.fr (fun j q1 q2 => (hf1 j (by omega)))
  exact loop2 201 0 (conM bt n (qG (pV g) bt n 5) st) st_2 lf1 rf1 w1 (by omega) (by omega) rfl est_2 h_21 h_22 hlf1 hrf1 hT1 hB_23 hB_24 (fun j hj => hf1 j (by omega))

set_option maxRecDepth 100000 in
set_option maxHeartbeats 4000000 in
theorem c_X7_readFactor_6 (l : Launch) (hls : l.stackTraces = false) (G : kG) (hN : 133 ≤ kN G) (w : Nat → va_E) (fl : va_W) (bt : Nat → Int) (n : Nat) (st : PS) (g : Nat → Int) (hn2 : n ≤ 200) (hn7 : n ≤ 700) (hb : btOK bt) (h2 : w 2 = byA G bt) (hT : tkR G w bt n st) (h129 : w 129 = qdO G) (hI : Inv g) (hLg : kLog G w 3 g) (h10 : w 10 = chO G) (h11 : w 11 = liA G) (hD : kDrawn w g 0 (g 2).toNat) (hl0 : ∃ lf, w 130 = iA G 12 lf) (hr0 : ∃ rf, w 131 = iA G 12 rf) : KM l G yX7_readFactor cX7_readFactor 4 (some (FieldType.int)) 25 0 0 [.ref (kad G 129), vI 0] w fl (kMut (vI ((mkN ((qG (pV g) bt n 6 st).2.2) (g 2).toNat : Nat) : Int)) fl (fun w1 => tkR G w1 bt n ((qG (pV g) bt n 6 st).1) ∧ ((∃ lf, w1 130 = iA G 12 lf) ∧ ∃ rf, w1 131 = iA G 12 rf) ∧ ∀ j, (j ≠ 1 ∧ j ≠ 130 ∧ j ≠ 131) → w1 j = w j)) := by
  refine KM_of2 hls (by decide +kernel) rfl (lv0 := [(0, .ref (kad G 129)), (1, vI 0)]) rfl (Nat.le_of_ble_eq_true rfl) (fun p e R s m args below meth c Q hC hr hQ => ?_)
  have h0 := hI.c
  obtain ⟨lf0, hlf0⟩ := hl0
  obtain ⟨rf0, hrf0⟩ := hr0
  have hle0 := hT.le
  refine k_aload_n hC dX7_readFactor_0 rfl 0 rfl ?_
  refine k_get hC fd_X7_18 (kl hN (by decide)) h129 rfl dX7_readFactor_1 ?_
  refine k_ldcs hC (List.mem_of_getElem? (i := 31) rfl) dX7_readFactor_4 ?_
  have hTco_1 := hT
  obtain ⟨cno_1, eao_1, kdo_1, nmo_1, sao_1, nxo_1, h1o_1, -⟩ := hTco_1
  refine k_pureV hC (c_X10_isWord l hls G hN w fl bt n st 31 (by decide) hn7 hb h2 hT) yy_X10_isWord wm_X7_36 (kl hN (by decide)) h1o_1 rfl rfl rfl rfl (Nat.le_of_ble_eq_true rfl) (by decide) (by decide) ⟨by decide, by decide⟩ dX7_readFactor_6 ?_
  obtain ⟨z_2, ez_2, hz_2⟩ := selI_c (isW bt n 31 st)
  refine k_topv (vI z_2) (by rw [ez_2]) ?_
  refine k_istore_n hC [(2, vI z_2), (0, .ref (kad G 129)), (1, vI 0)] dX7_readFactor_9 rfl (by decide) rfl ?_
  refine k_iload_n hC dX7_readFactor_10 rfl 0 rfl ?_
  refine k_if_ne hC 31 dX7_readFactor_11 rfl (by omega) (fun c_11 => ?_) (fun c_11 => ?_)
  · have hw31 : isW bt n 31 st := (hz_2.resolve_right (fun q1 => by omega)).2
    refine k_iload_n hC dX7_readFactor_31 rfl 2 rfl ?_
    refine k_bipush hC dX7_readFactor_32 (by decide) ?_
    refine k_icmp_lt hC 47 dX7_readFactor_34 rfl (by omega) (by omega) (fun c_34 => ?_) (fun c_34 => absurd c_34 (by omega))
    refine k_aload_n hC dX7_readFactor_47 rfl 1 rfl ?_
    refine k_get hC fd_X7_18 (kl hN (by decide)) h129 rfl dX7_readFactor_48 ?_
    obtain ⟨cn3, ea3, kd3, nm3, sa3, p93, hp93, h13, hadv3⟩ := tk_open hT
    refine k_muvV hC (c_X10_advance l hls G hN w fl bt n p93 cn3 st.1 ea3 kd3 nm3 sa3 hn7 hp93 hb h2 h13) yy_X10_advance wm_X7_42 (kl hN (by decide)) h13 rfl rfl rfl rfl (Nat.le_of_ble_eq_true rfl) (by decide) (by decide) ⟨by decide, by decide⟩ dX7_readFactor_51 (fun w3 hp3 => ?_)
    obtain ⟨hq3, hf3⟩ := hp3
    have hT3 := hadv3 _ hq3
    obtain ⟨st_4, est_4⟩ : ∃ z : PS, z = adP bt n st := ⟨_, rfl⟩
    rw [← est_4] at hT3
    refine k_iload_n hC dX7_readFactor_54 rfl 0 rfl ?_
    refine k_if_eq hC 82 dX7_readFactor_55 rfl (by omega) (fun c_55 => absurd c_55 (by omega)) (fun c_55 => ?_)
    refine k_iconst hC dX7_readFactor_58 ?_
    refine k_aload_n hC dX7_readFactor_59 rfl 1 rfl ?_
    have h_5 : w3 129 = .inr (7, [.ref (kad G 1), .ref (kad G 3), .ref (kad G 10), .ref (kad G 130), .ref (kad G 131)]) := (hf3 129 (by decide)).trans h129
    refine k_get hC fd_X7_22 (kl hN (by decide)) h_5 rfl dX7_readFactor_60 ?_
    have hB_6 : kLog G w3 3 g := hLg.fr (fun j q1 q2 => (hf3 j (by omega)))
    refine k_get hC fd_X7_64 (kl hN (by decide)) hB_6.1 rfl dX7_readFactor_63 ?_
    refine k_topv (vI (((g 2).toNat : Int))) (congrArg vI (by omega)) ?_
    refine k_ishl1 hC (n := (((g 2).toNat : Int)).toNat) (by omega) dX7_readFactor_66 ?_
    refine k_iconst hC dX7_readFactor_67 ?_
    refine k_isub hC dX7_readFactor_68 ?_
    refine k_istore_n hC [(3, vI (((2 ^ ((((g 2).toNat : Int)).toNat) : Nat) : Int) - 1)), (2, vI z_2), (0, .ref (kad G 129)), (1, vI 0)] dX7_readFactor_69 rfl (by decide) rfl ?_
    refine k_iload_n hC dX7_readFactor_70 rfl 0 rfl ?_
    refine k_aload_n hC dX7_readFactor_71 rfl 2 rfl ?_
    refine k_iload_n hC dX7_readFactor_72 rfl 3 rfl ?_
    refine k_iconst hC dX7_readFactor_73 ?_
    refine k_iadd hC dX7_readFactor_74 ?_
    refine k_topv (vI 1) (congrArg vI (by decide)) ?_
    have h_8 : w3 130 = iA G 12 lf0 := (hf3 130 (by decide)).trans hlf0
    have h_9 : w3 131 = iA G 12 rf0 := (hf3 131 (by decide)).trans hrf0
    have h_10 : w3 2 = bA G 700 (fun j => sb8 (bt j)) := (hf3 2 (by decide)).trans h2
    have h_11 : w3 10 = .inr (0, [.ref (kad G 11), .ref (kad G 12), .ref (kad G 13), .ref (kad G 14), .ref (kad G 15), .ref (kad G 16)]) := (hf3 10 (by decide)).trans h10
    have h_12 : w3 11 = rA G 4 12 (fun j => some (kad G (20 + j))) := (hf3 11 (by decide)).trans h11
    have hB_13 : kDrawn w3 g 0 ((g 2).toNat) := hD.fr (fun j q1 q2 => (hf3 j (by omega)))
    refine k_mutV hC (c_X7_readFactor_5 l hls G hN w3 fl bt n st_4 g hn2 hn7 hb h_10 hT3 h_5 hI hB_6 h_11 h_12 hB_13 ⟨_, h_8⟩ ⟨_, h_9⟩) yy_X7_readFactor wm_X7_45 (kl hN (by decide)) h_5 rfl rfl rfl rfl (Nat.le_of_ble_eq_true rfl) (by decide) (by decide) ⟨by decide, by decide⟩ dX7_readFactor_75 (fun w7 hp7 => ?_)
    obtain ⟨hT7, ⟨⟨lf7, hlf7⟩, rf7, hrf7⟩, hf7⟩ := hp7
    obtain ⟨st_14, est_14⟩ : ∃ z : PS, z = (qG (pV g) bt n 5 st_4).1 := ⟨_, rfl⟩
    rw [← est_14] at hT7
    refine k_iconst hC dX7_readFactor_78 ?_
    refine k_inotN hC (a := mkN ((qG (pV g) bt n 5 st_4).2.2) (g 2).toNat) (mkN_12 _ (by omega)) dX7_readFactor_79 ?_
    refine k_iallN hC (a := mkN ((qG (pV g) bt n 5 st_4).2.2) (g 2).toNat) (n := (g 2).toNat) (by omega) (mkN_12 _ (by omega)) (mkN_b _ _) dX7_readFactor_80 ?_
    subst hQ
    exact k_iret hC hr ⟨by decide, by decide⟩ (⟨congrArg (fun z => some (vI ((z : Nat) : Int))) (by rw [qG_n hw31, ← est_4]; have h9 := mkN_not (qG (pV g) bt n 5 st_4).2.2 (g 2).toNat; show mkN (fun i => !(qG (pV g) bt n 5 st_4).2.2 i) (g 2).toNat = _; omega), rfl, (by have e : st_14 = (qG (pV g) bt n 6 st).1 := (by rw [qG_n hw31]; show st_14 = (qG (pV g) bt n 5 (adP bt n st)).1; rw [← est_4]; exact est_14); rw [← e]; exact hT7), ⟨⟨_, hlf7⟩, _, hrf7⟩, fun j hj => (hf7 j (by omega)).trans (hf3 j (by omega))⟩) dX7_readFactor_81
  · have hw31 : ¬ isW bt n 31 st := (hz_2.resolve_left (fun q1 => by omega)).2
    refine k_aload_n hC dX7_readFactor_14 rfl 1 rfl ?_
    refine k_get hC fd_X7_18 (kl hN (by decide)) h129 rfl dX7_readFactor_15 ?_
    refine k_bipush hC dX7_readFactor_18 (by decide) ?_
    refine k_pureV hC (c_X10_isSign l hls G hN w fl bt n st 40 (by omega) hn7 hb h2 hT) yy_X10_isSign wm_X7_52 (kl hN (by decide)) h1o_1 rfl rfl rfl rfl (Nat.le_of_ble_eq_true rfl) (by decide) (by decide) ⟨by decide, by decide⟩ dX7_readFactor_20 ?_
    obtain ⟨z_15, ez_15, hz_15⟩ := selI_c (isS bt n 40 st)
    refine k_topv (vI z_15) (by rw [ez_15]) ?_
    refine k_if_ne hC 31 dX7_readFactor_23 rfl (by omega) (fun c_23 => ?_) (fun c_23 => ?_)
    · have hw40 : isS bt n 40 st := (hz_15.resolve_right (fun q1 => by omega)).2
      refine k_iload_n hC dX7_readFactor_31 rfl 2 rfl ?_
      refine k_bipush hC dX7_readFactor_32 (by decide) ?_
      refine k_icmp_lt hC 47 dX7_readFactor_34 rfl (by omega) (by omega) (fun c_34 => ?_) (fun c_34 => absurd c_34 (by omega))
      refine k_aload_n hC dX7_readFactor_47 rfl 1 rfl ?_
      refine k_get hC fd_X7_18 (kl hN (by decide)) h129 rfl dX7_readFactor_48 ?_
      obtain ⟨cn16, ea16, kd16, nm16, sa16, p916, hp916, h116, hadv16⟩ := tk_open hT
      refine k_muvV hC (c_X10_advance l hls G hN w fl bt n p916 cn16 st.1 ea16 kd16 nm16 sa16 hn7 hp916 hb h2 h116) yy_X10_advance wm_X7_42 (kl hN (by decide)) h116 rfl rfl rfl rfl (Nat.le_of_ble_eq_true rfl) (by decide) (by decide) ⟨by decide, by decide⟩ dX7_readFactor_51 (fun w16 hp16 => ?_)
      obtain ⟨hq16, hf16⟩ := hp16
      have hT16 := hadv16 _ hq16
      obtain ⟨st_17, est_17⟩ : ∃ z : PS, z = adP bt n st := ⟨_, rfl⟩
      rw [← est_17] at hT16
      refine k_iload_n hC dX7_readFactor_54 rfl 0 rfl ?_
      refine k_if_eq hC 82 dX7_readFactor_55 rfl (by omega) (fun c_55 => ?_) (fun c_55 => absurd c_55 (by omega))
      refine k_aload_n hC dX7_readFactor_82 rfl 1 rfl ?_
      refine k_iload_n hC dX7_readFactor_83 rfl 2 rfl ?_
      refine k_iconst hC dX7_readFactor_84 ?_
      refine k_iadd hC dX7_readFactor_85 ?_
      refine k_topv (vI 1) (congrArg vI (by decide)) ?_
      have h_19 : w16 130 = iA G 12 lf0 := (hf16 130 (by decide)).trans hlf0
      have h_20 : w16 131 = iA G 12 rf0 := (hf16 131 (by decide)).trans hrf0
      have h_21 : w16 2 = bA G 700 (fun j => sb8 (bt j)) := (hf16 2 (by decide)).trans h2
      have h_22 : w16 129 = .inr (7, [.ref (kad G 1), .ref (kad G 3), .ref (kad G 10), .ref (kad G 130), .ref (kad G 131)]) := (hf16 129 (by decide)).trans h129
      have hB_23 : kLog G w16 3 g := hLg.fr (fun j q1 q2 => (hf16 j (by omega)))
      have h_24 : w16 10 = .inr (0, [.ref (kad G 11), .ref (kad G 12), .ref (kad G 13), .ref (kad G 14), .ref (kad G 15), .ref (kad G 16)]) := (hf16 10 (by decide)).trans h10
      have h_25 : w16 11 = rA G 4 12 (fun j => some (kad G (20 + j))) := (hf16 11 (by decide)).trans h11
      have hB_26 : kDrawn w16 g 0 ((g 2).toNat) := hD.fr (fun j q1 q2 => (hf16 j (by omega)))
      refine k_mutV hC (c_X7_readTest_5 l hls G hN w16 fl bt n st_17 g hn2 hn7 hb h_21 hT16 h_22 hI hB_23 h_24 h_25 hB_26 ⟨_, h_19⟩ ⟨_, h_20⟩) yy_X7_readTest wm_X7_70 (kl hN (by decide)) h_22 rfl rfl rfl rfl (Nat.le_of_ble_eq_true rfl) (by decide) (by decide) ⟨by decide, by decide⟩ dX7_readFactor_86 (fun w18 hp18 => ?_)
      obtain ⟨hT18, ⟨⟨lf18, hlf18⟩, rf18, hrf18⟩, hf18⟩ := hp18
      obtain ⟨st_27, est_27⟩ : ∃ z : PS, z = (tstM bt n (qG (pV g) bt n 5) st_17).1 := ⟨_, rfl⟩
      rw [← est_27] at hT18
      refine k_istore_n hC [(3, vI ((mkN ((tstM bt n (qG (pV g) bt n 5) st_17).2.2) (g 2).toNat : Nat) : Int)), (2, vI z_2), (0, .ref (kad G 129)), (1, vI 0)] dX7_readFactor_89 rfl (by decide) rfl ?_
      refine k_aload_n hC dX7_readFactor_90 rfl 2 rfl ?_
      have h_28 : w18 129 = .inr (7, [.ref (kad G 1), .ref (kad G 3), .ref (kad G 10), .ref (kad G 130), .ref (kad G 131)]) := (hf18 129 (by decide)).trans h_22
      refine k_get hC fd_X7_18 (kl hN (by decide)) h_28 rfl dX7_readFactor_91 ?_
      refine k_bipush hC dX7_readFactor_94 (by decide) ?_
      have hTco_30 := hT18
      obtain ⟨cno_30, eao_30, kdo_30, nmo_30, sao_30, nxo_30, h1o_30, -⟩ := hTco_30
      have h_31 : w18 2 = bA G 700 (fun j => sb8 (bt j)) := (hf18 2 (by decide)).trans h_21
      refine k_muvV hC (c_X10_needSign l hls G hN w18 fl bt n st_27 41 (by omega) hn7 hb h_31 hT18) yy_X10_needSign wm_X7_73 (kl hN (by decide)) h1o_30 rfl rfl rfl rfl (Nat.le_of_ble_eq_true rfl) (by decide) (by decide) ⟨by decide, by decide⟩ dX7_readFactor_96 (fun w29 hp29 => ?_)
      obtain ⟨hT29, hf29⟩ := hp29
      obtain ⟨st_32, est_32⟩ : ∃ z : PS, z = nsP bt n 41 st_27 := ⟨_, rfl⟩
      rw [← est_32] at hT29
      refine k_iload_n hC dX7_readFactor_99 rfl 0 rfl ?_
      have h_33 : w29 130 = iA G 12 lf18 := (hf29 130 (by decide)).trans hlf18
      have h_34 : w29 131 = iA G 12 rf18 := (hf29 131 (by decide)).trans hrf18
      subst hQ
      exact k_iret hC hr ⟨by decide, by decide⟩ (⟨congrArg (fun z => some (vI ((z : Nat) : Int))) (by rw [qG_p hw31 hw40, ← est_17]; rfl), rfl, (by have e : st_32 = (qG (pV g) bt n 6 st).1 := (by rw [qG_p hw31 hw40]; show st_32 = nsP bt n 41 (tstM bt n (qG (pV g) bt n 5) (adP bt n st)).1; rw [← est_17, ← est_27]; exact est_32); rw [← e]; exact hT29), ⟨⟨_, h_33⟩, _, h_34⟩, fun j hj => (hf29 j (by omega)).trans ((hf18 j (by omega)).trans (hf16 j (by omega)))⟩) dX7_readFactor_100
    · have hw40 : ¬ isS bt n 40 st := (hz_15.resolve_left (fun q1 => by omega)).2
      have hqG := qG_c (V := pV g) 6 hw31 hw40
      refine k_aload_n hC dX7_readFactor_26 rfl 1 rfl ?_
      refine k_mutV hC (c_X7_readComparison l hls G hN w fl bt n st g hn7 hb h2 hT h129 hI hLg h10 h11 hD ⟨_, hlf0⟩ ⟨_, hrf0⟩) yy_X7_readComparison wm_X7_56 (kl hN (by decide)) h129 rfl rfl rfl rfl (Nat.le_of_ble_eq_true rfl) (by decide) (by decide) ⟨by decide, by decide⟩ dX7_readFactor_27 (fun w35 hp35 => ?_)
      obtain ⟨hT35, ⟨⟨lf35, hlf35⟩, rf35, hrf35⟩, hf35⟩ := hp35
      obtain ⟨st_36, est_36⟩ : ∃ z : PS, z = (cmpG (pV g) bt n st).1 := ⟨_, rfl⟩
      rw [← est_36] at hT35
      subst hQ
      exact k_iret hC hr ⟨by decide, by decide⟩ (⟨congrArg (fun z => some (vI ((z : Nat) : Int))) (by rw [hqG]; rfl), rfl, (by have e : st_36 = (qG (pV g) bt n 6 st).1 := (by rw [hqG]; exact est_36); rw [← e]; exact hT35), ⟨⟨_, hlf35⟩, _, hrf35⟩, fun j hj => hf35 j (by omega)⟩) dX7_readFactor_30

set_option maxRecDepth 100000 in
set_option maxHeartbeats 4000000 in
theorem c_X7_readConjunction_6 (l : Launch) (hls : l.stackTraces = false) (G : kG) (hN : 133 ≤ kN G) (w : Nat → va_E) (fl : va_W) (bt : Nat → Int) (n : Nat) (st : PS) (g : Nat → Int) (hn2 : n ≤ 200) (hn7 : n ≤ 700) (hb : btOK bt) (h2 : w 2 = byA G bt) (hT : tkR G w bt n st) (h129 : w 129 = qdO G) (hI : Inv g) (hLg : kLog G w 3 g) (h10 : w 10 = chO G) (h11 : w 11 = liA G) (hD : kDrawn w g 0 (g 2).toNat) (hl0 : ∃ lf, w 130 = iA G 12 lf) (hr0 : ∃ rf, w 131 = iA G 12 rf) : KM l G yX7_readConjunction cX7_readConjunction 4 (some (FieldType.int)) 26 0 0 [.ref (kad G 129), vI 0] w fl (kMut (vI ((mkN ((conM bt n (qG (pV g) bt n 6) st).2.2) (g 2).toNat : Nat) : Int)) fl (fun w1 => tkR G w1 bt n ((conM bt n (qG (pV g) bt n 6) st).1) ∧ ((∃ lf, w1 130 = iA G 12 lf) ∧ ∃ rf, w1 131 = iA G 12 rf) ∧ ∀ j, (j ≠ 1 ∧ j ≠ 130 ∧ j ≠ 131) → w1 j = w j)) := by
  refine KM_of2 hls (by decide +kernel) rfl (lv0 := [(0, .ref (kad G 129)), (1, vI 0)]) rfl (Nat.le_of_ble_eq_true rfl) (fun p e R s m args below meth c Q hC hr hQ => ?_)
  have h0 := hI.c
  obtain ⟨lf0, hlf0⟩ := hl0
  obtain ⟨rf0, hrf0⟩ := hr0
  have hle0 := hT.le
  refine k_aload_n hC dX7_readConjunction_0 rfl 0 rfl ?_
  refine k_iload_n hC dX7_readConjunction_1 rfl 1 rfl ?_
  refine k_mutV hC (c_X7_readFactor_6 l hls G hN w fl bt n st g hn2 hn7 hb h2 hT h129 hI hLg h10 h11 hD ⟨_, hlf0⟩ ⟨_, hrf0⟩) yy_X7_readFactor wm_X7_45 (kl hN (by decide)) h129 rfl rfl rfl rfl (Nat.le_of_ble_eq_true rfl) (by decide) (by decide) ⟨by decide, by decide⟩ dX7_readConjunction_2 (fun w1 hp1 => ?_)
  obtain ⟨hT1, ⟨⟨lf1, hlf1⟩, rf1, hrf1⟩, hf1⟩ := hp1
  obtain ⟨st_2, est_2⟩ : ∃ z : PS, z = (qG (pV g) bt n 6 st).1 := ⟨_, rfl⟩
  rw [← est_2] at hT1
  refine k_istore_n hC [(2, vI ((mkN ((qG (pV g) bt n 6 st).2.2) (g 2).toNat : Nat) : Int)), (0, .ref (kad G 129)), (1, vI 0)] dX7_readConjunction_5 rfl (by decide) rfl ?_
  refine k_iconst hC dX7_readConjunction_6 ?_
  refine k_istore_n hC [(3, vI 0), (2, vI ((mkN ((qG (pV g) bt n 6 st).2.2) (g 2).toNat : Nat) : Int)), (0, .ref (kad G 129)), (1, vI 0)] dX7_readConjunction_7 rfl (by decide) rfl ?_
  have hG := endG (V := pV g) (bt := bt) (n := n) (w := 37) (c := -24) (F := qG (pV g) bt n 6) (F1 := qF (pV g) bt n 6) (r0 := qG (pV g) bt n 6 st) (r1 := qF (pV g) bt n 6 st) hn2 hle0 (Or.inl rfl) (gq_qF (V := pV g) (bt := bt) (n := n) 6) (rel_qF 6) (gq_qF (V := pV g) (bt := bt) (n := n) 6 st) (rel_qF 6 st)
  have loop2 : ∀ (nw : Nat) (k : Nat) (rr : QR) (st9 : PS) (lf : Nat → Int) (rf : Nat → Int) (wvw : Nat → va_E), (200 < nw + k) → (k ≤ 200) → (rr = cjN bt n 37 (-24) (qG (pV g) bt n 6) k (qG (pV g) bt n 6 st)) → (st9 = rr.1) → (wvw 2 = bA G 700 (fun j => sb8 (bt j))) → (wvw 129 = .inr (7, [.ref (kad G 1), .ref (kad G 3), .ref (kad G 10), .ref (kad G 130), .ref (kad G 131)])) → (wvw 130 = iA G 12 lf) → (wvw 131 = iA G 12 rf) → (tkR G wvw bt n st9) → (kLog G wvw 3 g) → (kDrawn wvw g 0 ((g 2).toNat)) → ((∀ j, (j ≠ 1 ∧ j ≠ 130 ∧ j ≠ 131) → wvw j = w j)) → KW p l e R s m args below meth c 4 G Q wvw fl 0 0 8 [(3, vI (k : Int)), (2, vI ((mkN rr.2.2 (g 2).toNat : Nat) : Int)), (0, .ref (kad G 129)), (1, vI 0)] [] := by
    intro nw
    induction nw with
    | zero =>
      intro k rr st9 lf rf wvw hn_w hk9 hx hst9 hb9 h129q hlq hrq hTq hLq hDq hfrw
      exact absurd hn_w (by omega)
    | succ nw ihw =>
      intro k rr st9 lf rf wvw hn_w hk9 hx hst9 hb9 h129q hlq hrq hTq hLq hDq hfrw
      have h10q := (hfrw 10 (by omega)).trans h10
      have h11q := (hfrw 11 (by omega)).trans h11
      refine k_iload_n hC dX7_readConjunction_8 rfl 0 rfl ?_
      refine k_sipush hC dX7_readConjunction_9 (by decide) ?_
      refine k_icmp_ge hC 48 dX7_readConjunction_12 rfl (by omega) (by omega) (fun c_12 => ?_) (fun c_12 => ?_)
      · have hwn : ¬ isW bt n 37 st9 := fun q => by have := hG.2 k (by rw [← hx, ← hst9]; exact q); omega
        refine k_iload_n hC dX7_readConjunction_48 rfl 1 rfl ?_
        have hfin : rr = conM bt n (qG (pV g) bt n 6) st := by rw [hx]; exact cjN_eq (by rw [← hx, ← hst9]; exact hwn) hG.1
        subst hQ
        exact k_iret hC hr ⟨by decide, by decide⟩ (⟨congrArg (fun z => some (vI ((z : Nat) : Int))) (by rw [← hfin]), rfl, (by have e : st9 = (conM bt n (qG (pV g) bt n 6) st).1 := (by rw [← hfin]; exact hst9); rw [← e]; exact hTq), ⟨⟨_, hlq⟩, _, hrq⟩, fun j hj => hfrw j (by omega)⟩) dX7_readConjunction_49
      · refine k_aload_n hC dX7_readConjunction_15 rfl 2 rfl ?_
        refine k_get hC fd_X7_18 (kl hN (by decide)) h129q rfl dX7_readConjunction_16 ?_
        refine k_ldcs hC (List.mem_of_getElem? (i := 39) rfl) dX7_readConjunction_19 ?_
        have hTco_3 := hTq
        obtain ⟨cno_3, eao_3, kdo_3, nmo_3, sao_3, nxo_3, h1o_3, -⟩ := hTco_3
        refine k_pureV hC (c_X10_isWord l hls G hN wvw fl bt n st9 37 (by decide) hn7 hb hb9 hTq) yy_X10_isWord wm_X7_36 (kl hN (by decide)) h1o_3 rfl rfl rfl rfl (Nat.le_of_ble_eq_true rfl) (by decide) (by decide) ⟨by decide, by decide⟩ dX7_readConjunction_21 ?_
        obtain ⟨z_4, ez_4, hz_4⟩ := selI_c (isW bt n 37 st9)
        refine k_topv (vI z_4) (by rw [ez_4]) ?_
        refine k_if_eq hC 48 dX7_readConjunction_24 rfl (by omega) (fun c_24 => ?_) (fun c_24 => ?_)
        · have hwn : ¬ isW bt n 37 st9 := (hz_4.resolve_left (fun q1 => by omega)).2
          refine k_iload_n hC dX7_readConjunction_48 rfl 1 rfl ?_
          have hfin : rr = conM bt n (qG (pV g) bt n 6) st := by rw [hx]; exact cjN_eq (by rw [← hx, ← hst9]; exact hwn) hG.1
          subst hQ
          exact k_iret hC hr ⟨by decide, by decide⟩ (⟨congrArg (fun z => some (vI ((z : Nat) : Int))) (by rw [← hfin]), rfl, (by have e : st9 = (conM bt n (qG (pV g) bt n 6) st).1 := (by rw [← hfin]; exact hst9); rw [← e]; exact hTq), ⟨⟨_, hlq⟩, _, hrq⟩, fun j hj => hfrw j (by omega)⟩) dX7_readConjunction_49
        · have hwr : isW bt n 37 rr.1 := by rw [← hst9]; exact (hz_4.resolve_right (fun q1 => by omega)).2
          refine k_aload_n hC dX7_readConjunction_27 rfl 2 rfl ?_
          refine k_get hC fd_X7_18 (kl hN (by decide)) h129q rfl dX7_readConjunction_28 ?_
          obtain ⟨cn5, ea5, kd5, nm5, sa5, p95, hp95, h15, hadv5⟩ := tk_open hTq
          refine k_muvV hC (c_X10_advance l hls G hN wvw fl bt n p95 cn5 st9.1 ea5 kd5 nm5 sa5 hn7 hp95 hb hb9 h15) yy_X10_advance wm_X7_42 (kl hN (by decide)) h15 rfl rfl rfl rfl (Nat.le_of_ble_eq_true rfl) (by decide) (by decide) ⟨by decide, by decide⟩ dX7_readConjunction_31 (fun w5 hp5 => ?_)
          obtain ⟨hq5, hf5⟩ := hp5
          have hT5 := hadv5 _ hq5
          obtain ⟨st_6, est_6⟩ : ∃ z : PS, z = adP bt n st9 := ⟨_, rfl⟩
          rw [← est_6] at hT5
          refine k_iload_n hC dX7_readConjunction_34 rfl 1 rfl ?_
          refine k_aload_n hC dX7_readConjunction_35 rfl 2 rfl ?_
          refine k_iload_n hC dX7_readConjunction_36 rfl 3 rfl ?_
          have h_8 : w5 130 = iA G 12 lf := (hf5 130 (by decide)).trans hlq
          have h_9 : w5 131 = iA G 12 rf := (hf5 131 (by decide)).trans hrq
          have h_10 : w5 2 = bA G 700 (fun j => sb8 (bt j)) := (hf5 2 (by decide)).trans hb9
          have h_11 : w5 129 = .inr (7, [.ref (kad G 1), .ref (kad G 3), .ref (kad G 10), .ref (kad G 130), .ref (kad G 131)]) := (hf5 129 (by decide)).trans h129q
          have hB_12 : kLog G w5 3 g := hLq.fr (fun j q1 q2 => (hf5 j (by omega)))
          have h_13 : w5 10 = .inr (0, [.ref (kad G 11), .ref (kad G 12), .ref (kad G 13), .ref (kad G 14), .ref (kad G 15), .ref (kad G 16)]) := (hf5 10 (by decide)).trans h10q
          have h_14 : w5 11 = rA G 4 12 (fun j => some (kad G (20 + j))) := (hf5 11 (by decide)).trans h11q
          have hB_15 : kDrawn w5 g 0 ((g 2).toNat) := hDq.fr (fun j q1 q2 => (hf5 j (by omega)))
          refine k_mutV hC (c_X7_readFactor_6 l hls G hN w5 fl bt n st_6 g hn2 hn7 hb h_10 hT5 h_11 hI hB_12 h_13 h_14 hB_15 ⟨_, h_8⟩ ⟨_, h_9⟩) yy_X7_readFactor wm_X7_45 (kl hN (by decide)) h_11 rfl rfl rfl rfl (Nat.le_of_ble_eq_true rfl) (by decide) (by decide) ⟨by decide, by decide⟩ dX7_readConjunction_37 (fun w7 hp7 => ?_)
          obtain ⟨hT7, ⟨⟨lf7, hlf7⟩, rf7, hrf7⟩, hf7⟩ := hp7
          obtain ⟨st_16, est_16⟩ : ∃ z : PS, z = (qG (pV g) bt n 6 st_6).1 := ⟨_, rfl⟩
          rw [← est_16] at hT7
          refine k_iandN hC (a := mkN rr.2.2 (g 2).toNat) (b := mkN ((qG (pV g) bt n 6 st_6).2.2) (g 2).toNat) dX7_readConjunction_40 ?_
          refine k_topv (vI ((mkN ((and2 (-24) rr (qG (pV g) bt n 6 st_6)).2.2) (g 2).toNat : Nat) : Int)) (congrArg (fun q : Nat => vI (q : Int)) ((mkN_and _ _ _).trans (mkN_c _ (fun i _ => (if_pos rfl).symm)))) ?_
          refine k_istore_n hC [(2, vI ((mkN ((and2 (-24) rr (qG (pV g) bt n 6 st_6)).2.2) (g 2).toNat : Nat) : Int)), (3, vI (k : Int)), (0, .ref (kad G 129)), (1, vI 0)] dX7_readConjunction_41 rfl (by decide) rfl ?_
          refine k_iinc hC (y := (k : Int) + 1) [(3, vI ((k : Int) + 1)), (2, vI ((mkN ((and2 (-24) rr (qG (pV g) bt n 6 st_6)).2.2) (g 2).toNat : Nat) : Int)), (0, .ref (kad G 129)), (1, vI 0)] (j := 1) dX7_readConjunction_42 rfl (by omega) (by decide) rfl ?_
          refine k_goto hC 8 dX7_readConjunction_45 rfl ?_
          refine k_lvs (ls := [0, 1, 2, 3]) [(3, vI ((k + 1 : Nat) : Int)), (2, vI ((mkN ((and2 (-24) rr (qG (pV g) bt n 6 st_6)).2.2) (g 2).toNat : Nat) : Int)), (0, .ref (kad G 129)), (1, vI 0)] (by simp only [lv_pick]; rfl) ?_
          have h_17 : w7 2 = bA G 700 (fun j => sb8 (bt j)) := (hf7 2 (by decide)).trans h_10
          have h_18 : w7 129 = .inr (7, [.ref (kad G 1), .ref (kad G 3), .ref (kad G 10), .ref (kad G 130), .ref (kad G 131)]) := (hf7 129 (by decide)).trans h_11
          have hB_19 : kLog G w7 3 g := hB_12.fr (fun j q1 q2 => (hf7 j (by omega)))
          have hB_20 : kDrawn w7 g 0 ((g 2).toNat) := hB_15.fr (fun j q1 q2 => (hf7 j (by omega)))
          exact ihw (k + 1) (and2 (-24) rr (qG (pV g) bt n 6 st_6)) st_16 lf7 rf7 w7 (by omega) (by omega) (by rw [cjN_go k _ (by rw [← hx]; exact hwr), ← hx, est_6, hst9]) est_16 h_17 h_18 hlf7 hrf7 hT7 hB_19 hB_20 (fun j hj => (hf7 j (by omega)).trans ((hf5 j (by omega)).trans (hfrw j (by omega))))
  refine k_lvs (ls := [0, 1, 2, 3]) [(3, vI ((0 : Nat) : Int)), (2, vI ((mkN ((qG (pV g) bt n 6 st).2.2) (g 2).toNat : Nat) : Int)), (0, .ref (kad G 129)), (1, vI 0)] (by simp only [lv_pick]; rfl) ?_
  have h_21 : w1 2 = bA G 700 (fun j => sb8 (bt j)) := (hf1 2 (by decide)).trans h2
  have h_22 : w1 129 = .inr (7, [.ref (kad G 1), .ref (kad G 3), .ref (kad G 10), .ref (kad G 130), .ref (kad G 131)]) := (hf1 129 (by decide)).trans h129
  have hB_23 : kLog G w1 3 g := hLg.fr (fun j q1 q2 => (hf1 j (by omega)))
  have hB_24 : kDrawn w1 g 0 ((g 2).toNat) := hD.fr (fun j q1 q2 => (hf1 j (by omega)))
  exact loop2 201 0 (qG (pV g) bt n 6 st) st_2 lf1 rf1 w1 (by omega) (by omega) rfl est_2 h_21 h_22 hlf1 hrf1 hT1 hB_23 hB_24 (fun j hj => hf1 j (by omega))

set_option maxRecDepth 100000 in
set_option maxHeartbeats 4000000 in
theorem c_X7_readTest_6 (l : Launch) (hls : l.stackTraces = false) (G : kG) (hN : 133 ≤ kN G) (w : Nat → va_E) (fl : va_W) (bt : Nat → Int) (n : Nat) (st : PS) (g : Nat → Int) (hn2 : n ≤ 200) (hn7 : n ≤ 700) (hb : btOK bt) (h2 : w 2 = byA G bt) (hT : tkR G w bt n st) (h129 : w 129 = qdO G) (hI : Inv g) (hLg : kLog G w 3 g) (h10 : w 10 = chO G) (h11 : w 11 = liA G) (hD : kDrawn w g 0 (g 2).toNat) (hl0 : ∃ lf, w 130 = iA G 12 lf) (hr0 : ∃ rf, w 131 = iA G 12 rf) : KM l G yX7_readTest cX7_readTest 4 (some (FieldType.int)) 27 0 0 [.ref (kad G 129), vI 0] w fl (kMut (vI ((mkN ((tstM bt n (qG (pV g) bt n 6) st).2.2) (g 2).toNat : Nat) : Int)) fl (fun w1 => tkR G w1 bt n ((tstM bt n (qG (pV g) bt n 6) st).1) ∧ ((∃ lf, w1 130 = iA G 12 lf) ∧ ∃ rf, w1 131 = iA G 12 rf) ∧ ∀ j, (j ≠ 1 ∧ j ≠ 130 ∧ j ≠ 131) → w1 j = w j)) := by
  refine KM_of2 hls (by decide +kernel) rfl (lv0 := [(0, .ref (kad G 129)), (1, vI 0)]) rfl (Nat.le_of_ble_eq_true rfl) (fun p e R s m args below meth c Q hC hr hQ => ?_)
  have h0 := hI.c
  obtain ⟨lf0, hlf0⟩ := hl0
  obtain ⟨rf0, hrf0⟩ := hr0
  have hle0 := hT.le
  refine k_aload_n hC dX7_readTest_0 rfl 0 rfl ?_
  refine k_iload_n hC dX7_readTest_1 rfl 1 rfl ?_
  refine k_mutV hC (c_X7_readConjunction_6 l hls G hN w fl bt n st g hn2 hn7 hb h2 hT h129 hI hLg h10 h11 hD ⟨_, hlf0⟩ ⟨_, hrf0⟩) yy_X7_readConjunction wm_X7_30 (kl hN (by decide)) h129 rfl rfl rfl rfl (Nat.le_of_ble_eq_true rfl) (by decide) (by decide) ⟨by decide, by decide⟩ dX7_readTest_2 (fun w1 hp1 => ?_)
  obtain ⟨hT1, ⟨⟨lf1, hlf1⟩, rf1, hrf1⟩, hf1⟩ := hp1
  obtain ⟨st_2, est_2⟩ : ∃ z : PS, z = (conM bt n (qG (pV g) bt n 6) st).1 := ⟨_, rfl⟩
  rw [← est_2] at hT1
  refine k_istore_n hC [(2, vI ((mkN ((conM bt n (qG (pV g) bt n 6) st).2.2) (g 2).toNat : Nat) : Int)), (0, .ref (kad G 129)), (1, vI 0)] dX7_readTest_5 rfl (by decide) rfl ?_
  refine k_iconst hC dX7_readTest_6 ?_
  refine k_istore_n hC [(3, vI 0), (2, vI ((mkN ((conM bt n (qG (pV g) bt n 6) st).2.2) (g 2).toNat : Nat) : Int)), (0, .ref (kad G 129)), (1, vI 0)] dX7_readTest_7 rfl (by decide) rfl ?_
  have hG := endG (V := pV g) (bt := bt) (n := n) (w := 38) (c := -25) (F := conM bt n (qG (pV g) bt n 6)) (F1 := conM bt n (qF (pV g) bt n 6)) (r0 := conM bt n (qG (pV g) bt n 6) st) (r1 := conM bt n (qF (pV g) bt n 6) st) hn2 hle0 (Or.inr rfl) (gq_con (gq_qF (V := pV g) (bt := bt) (n := n) 6)) (rel_con (rel_qF 6)) (gq_con (gq_qF (V := pV g) (bt := bt) (n := n) 6) st) (rel_con (rel_qF 6) st)
  have loop2 : ∀ (nw : Nat) (k : Nat) (rr : QR) (st9 : PS) (lf : Nat → Int) (rf : Nat → Int) (wvw : Nat → va_E), (200 < nw + k) → (k ≤ 200) → (rr = cjN bt n 38 (-25) (conM bt n (qG (pV g) bt n 6)) k (conM bt n (qG (pV g) bt n 6) st)) → (st9 = rr.1) → (wvw 2 = bA G 700 (fun j => sb8 (bt j))) → (wvw 129 = .inr (7, [.ref (kad G 1), .ref (kad G 3), .ref (kad G 10), .ref (kad G 130), .ref (kad G 131)])) → (wvw 130 = iA G 12 lf) → (wvw 131 = iA G 12 rf) → (tkR G wvw bt n st9) → (kLog G wvw 3 g) → (kDrawn wvw g 0 ((g 2).toNat)) → ((∀ j, (j ≠ 1 ∧ j ≠ 130 ∧ j ≠ 131) → wvw j = w j)) → KW p l e R s m args below meth c 4 G Q wvw fl 0 0 8 [(3, vI (k : Int)), (2, vI ((mkN rr.2.2 (g 2).toNat : Nat) : Int)), (0, .ref (kad G 129)), (1, vI 0)] [] := by
    intro nw
    induction nw with
    | zero =>
      intro k rr st9 lf rf wvw hn_w hk9 hx hst9 hb9 h129q hlq hrq hTq hLq hDq hfrw
      exact absurd hn_w (by omega)
    | succ nw ihw =>
      intro k rr st9 lf rf wvw hn_w hk9 hx hst9 hb9 h129q hlq hrq hTq hLq hDq hfrw
      have h10q := (hfrw 10 (by omega)).trans h10
      have h11q := (hfrw 11 (by omega)).trans h11
      refine k_iload_n hC dX7_readTest_8 rfl 0 rfl ?_
      refine k_sipush hC dX7_readTest_9 (by decide) ?_
      refine k_icmp_ge hC 48 dX7_readTest_12 rfl (by omega) (by omega) (fun c_12 => ?_) (fun c_12 => ?_)
      · have hwn : ¬ isW bt n 38 st9 := fun q => by have := hG.2 k (by rw [← hx, ← hst9]; exact q); omega
        refine k_iload_n hC dX7_readTest_48 rfl 1 rfl ?_
        have hfin : rr = tstM bt n (qG (pV g) bt n 6) st := by rw [hx]; exact cjN_eq (by rw [← hx, ← hst9]; exact hwn) hG.1
        subst hQ
        exact k_iret hC hr ⟨by decide, by decide⟩ (⟨congrArg (fun z => some (vI ((z : Nat) : Int))) (by rw [← hfin]), rfl, (by have e : st9 = (tstM bt n (qG (pV g) bt n 6) st).1 := (by rw [← hfin]; exact hst9); rw [← e]; exact hTq), ⟨⟨_, hlq⟩, _, hrq⟩, fun j hj => hfrw j (by omega)⟩) dX7_readTest_49
      · refine k_aload_n hC dX7_readTest_15 rfl 2 rfl ?_
        refine k_get hC fd_X7_18 (kl hN (by decide)) h129q rfl dX7_readTest_16 ?_
        refine k_ldcs hC (List.mem_of_getElem? (i := 40) rfl) dX7_readTest_19 ?_
        have hTco_3 := hTq
        obtain ⟨cno_3, eao_3, kdo_3, nmo_3, sao_3, nxo_3, h1o_3, -⟩ := hTco_3
        refine k_pureV hC (c_X10_isWord l hls G hN wvw fl bt n st9 38 (by decide) hn7 hb hb9 hTq) yy_X10_isWord wm_X7_36 (kl hN (by decide)) h1o_3 rfl rfl rfl rfl (Nat.le_of_ble_eq_true rfl) (by decide) (by decide) ⟨by decide, by decide⟩ dX7_readTest_21 ?_
        obtain ⟨z_4, ez_4, hz_4⟩ := selI_c (isW bt n 38 st9)
        refine k_topv (vI z_4) (by rw [ez_4]) ?_
        refine k_if_eq hC 48 dX7_readTest_24 rfl (by omega) (fun c_24 => ?_) (fun c_24 => ?_)
        · have hwn : ¬ isW bt n 38 st9 := (hz_4.resolve_left (fun q1 => by omega)).2
          refine k_iload_n hC dX7_readTest_48 rfl 1 rfl ?_
          have hfin : rr = tstM bt n (qG (pV g) bt n 6) st := by rw [hx]; exact cjN_eq (by rw [← hx, ← hst9]; exact hwn) hG.1
          subst hQ
          exact k_iret hC hr ⟨by decide, by decide⟩ (⟨congrArg (fun z => some (vI ((z : Nat) : Int))) (by rw [← hfin]), rfl, (by have e : st9 = (tstM bt n (qG (pV g) bt n 6) st).1 := (by rw [← hfin]; exact hst9); rw [← e]; exact hTq), ⟨⟨_, hlq⟩, _, hrq⟩, fun j hj => hfrw j (by omega)⟩) dX7_readTest_49
        · have hwr : isW bt n 38 rr.1 := by rw [← hst9]; exact (hz_4.resolve_right (fun q1 => by omega)).2
          refine k_aload_n hC dX7_readTest_27 rfl 2 rfl ?_
          refine k_get hC fd_X7_18 (kl hN (by decide)) h129q rfl dX7_readTest_28 ?_
          obtain ⟨cn5, ea5, kd5, nm5, sa5, p95, hp95, h15, hadv5⟩ := tk_open hTq
          refine k_muvV hC (c_X10_advance l hls G hN wvw fl bt n p95 cn5 st9.1 ea5 kd5 nm5 sa5 hn7 hp95 hb hb9 h15) yy_X10_advance wm_X7_42 (kl hN (by decide)) h15 rfl rfl rfl rfl (Nat.le_of_ble_eq_true rfl) (by decide) (by decide) ⟨by decide, by decide⟩ dX7_readTest_31 (fun w5 hp5 => ?_)
          obtain ⟨hq5, hf5⟩ := hp5
          have hT5 := hadv5 _ hq5
          obtain ⟨st_6, est_6⟩ : ∃ z : PS, z = adP bt n st9 := ⟨_, rfl⟩
          rw [← est_6] at hT5
          refine k_iload_n hC dX7_readTest_34 rfl 1 rfl ?_
          refine k_aload_n hC dX7_readTest_35 rfl 2 rfl ?_
          refine k_iload_n hC dX7_readTest_36 rfl 3 rfl ?_
          have h_8 : w5 130 = iA G 12 lf := (hf5 130 (by decide)).trans hlq
          have h_9 : w5 131 = iA G 12 rf := (hf5 131 (by decide)).trans hrq
          have h_10 : w5 2 = bA G 700 (fun j => sb8 (bt j)) := (hf5 2 (by decide)).trans hb9
          have h_11 : w5 129 = .inr (7, [.ref (kad G 1), .ref (kad G 3), .ref (kad G 10), .ref (kad G 130), .ref (kad G 131)]) := (hf5 129 (by decide)).trans h129q
          have hB_12 : kLog G w5 3 g := hLq.fr (fun j q1 q2 => (hf5 j (by omega)))
          have h_13 : w5 10 = .inr (0, [.ref (kad G 11), .ref (kad G 12), .ref (kad G 13), .ref (kad G 14), .ref (kad G 15), .ref (kad G 16)]) := (hf5 10 (by decide)).trans h10q
          have h_14 : w5 11 = rA G 4 12 (fun j => some (kad G (20 + j))) := (hf5 11 (by decide)).trans h11q
          have hB_15 : kDrawn w5 g 0 ((g 2).toNat) := hDq.fr (fun j q1 q2 => (hf5 j (by omega)))
          refine k_mutV hC (c_X7_readConjunction_6 l hls G hN w5 fl bt n st_6 g hn2 hn7 hb h_10 hT5 h_11 hI hB_12 h_13 h_14 hB_15 ⟨_, h_8⟩ ⟨_, h_9⟩) yy_X7_readConjunction wm_X7_30 (kl hN (by decide)) h_11 rfl rfl rfl rfl (Nat.le_of_ble_eq_true rfl) (by decide) (by decide) ⟨by decide, by decide⟩ dX7_readTest_37 (fun w7 hp7 => ?_)
          obtain ⟨hT7, ⟨⟨lf7, hlf7⟩, rf7, hrf7⟩, hf7⟩ := hp7
          obtain ⟨st_16, est_16⟩ : ∃ z : PS, z = (conM bt n (qG (pV g) bt n 6) st_6).1 := ⟨_, rfl⟩
          rw [← est_16] at hT7
          refine k_iorN hC (a := mkN rr.2.2 (g 2).toNat) (b := mkN ((conM bt n (qG (pV g) bt n 6) st_6).2.2) (g 2).toNat) dX7_readTest_40 ?_
          refine k_topv (vI ((mkN ((and2 (-25) rr (conM bt n (qG (pV g) bt n 6) st_6)).2.2) (g 2).toNat : Nat) : Int)) (congrArg (fun q : Nat => vI (q : Int)) ((mkN_or _ _ _).trans (mkN_c _ (fun i _ => (if_neg (by decide)).symm)))) ?_
          refine k_istore_n hC [(2, vI ((mkN ((and2 (-25) rr (conM bt n (qG (pV g) bt n 6) st_6)).2.2) (g 2).toNat : Nat) : Int)), (3, vI (k : Int)), (0, .ref (kad G 129)), (1, vI 0)] dX7_readTest_41 rfl (by decide) rfl ?_
          refine k_iinc hC (y := (k : Int) + 1) [(3, vI ((k : Int) + 1)), (2, vI ((mkN ((and2 (-25) rr (conM bt n (qG (pV g) bt n 6) st_6)).2.2) (g 2).toNat : Nat) : Int)), (0, .ref (kad G 129)), (1, vI 0)] (j := 1) dX7_readTest_42 rfl (by omega) (by decide) rfl ?_
          refine k_goto hC 8 dX7_readTest_45 rfl ?_
          refine k_lvs (ls := [0, 1, 2, 3]) [(3, vI ((k + 1 : Nat) : Int)), (2, vI ((mkN ((and2 (-25) rr (conM bt n (qG (pV g) bt n 6) st_6)).2.2) (g 2).toNat : Nat) : Int)), (0, .ref (kad G 129)), (1, vI 0)] (by simp only [lv_pick]; rfl) ?_
          have h_17 : w7 2 = bA G 700 (fun j => sb8 (bt j)) := (hf7 2 (by decide)).trans h_10
          have h_18 : w7 129 = .inr (7, [.ref (kad G 1), .ref (kad G 3), .ref (kad G 10), .ref (kad G 130), .ref (kad G 131)]) := (hf7 129 (by decide)).trans h_11
          have hB_19 : kLog G w7 3 g := hB_12.fr (fun j q1 q2 => (hf7 j (by omega)))
          have hB_20 : kDrawn w7 g 0 ((g 2).toNat) := hB_15.fr (fun j q1 q2 => (hf7 j (by omega)))
          exact ihw (k + 1) (and2 (-25) rr (conM bt n (qG (pV g) bt n 6) st_6)) st_16 lf7 rf7 w7 (by omega) (by omega) (by rw [cjN_go k _ (by rw [← hx]; exact hwr), ← hx, est_6, hst9]) est_16 h_17 h_18 hlf7 hrf7 hT7 hB_19 hB_20 (fun j hj => (hf7 j (by omega)).trans ((hf5 j (by omega)).trans (hfrw j (by omega))))
  refine k_lvs (ls := [0, 1, 2, 3]) [(3, vI ((0 : Nat) : Int)), (2, vI ((mkN ((conM bt n (qG (pV g) bt n 6) st).2.2) (g 2).toNat : Nat) : Int)), (0, .ref (kad G 129)), (1, vI 0)] (by simp only [lv_pick]; rfl) ?_
  have h_21 : w1 2 = bA G 700 (fun j => sb8 (bt j)) := (hf1 2 (by decide)).trans h2
  have h_22 : w1 129 = .inr (7, [.ref (kad G 1), .ref (kad G 3), .ref (kad G 10), .ref (kad G 130), .ref (kad G 131)]) := (hf1 129 (by decide)).trans h129
  have hB_23 : kLog G w1 3 g := hLg.fr (fun j q1 q2 => (hf1 j (by omega)))
  have hB_24 : kDrawn w1 g 0 ((g 2).toNat) := hD.fr (fun j q1 q2 => (hf1 j (by omega)))
  exact loop2 201 0 (conM bt n (qG (pV g) bt n 6) st) st_2 lf1 rf1 w1 (by omega) (by omega) rfl est_2 h_21 h_22 hlf1 hrf1 hT1 hB_23 hB_24 (fun j hj => hf1 j (by omega))

