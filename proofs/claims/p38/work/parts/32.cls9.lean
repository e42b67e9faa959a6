def NmR (D nl : Nat → Int) : Prop := ∀ k : Nat, (k : Int) < D 0 → D (12 + 4 * k) = nmG (fun i => nl (8 * k + i)) (D (11 + 4 * k)).toNat ∧ ∀ i : Nat, (i : Int) < D (11 + 4 * k) → 97 ≤ nl (8 * k + i) ∧ nl (8 * k + i) ≤ 122
theorem nm_eq {bt nl D : Nat → Int} {n b L : Nat} {st : PS} (hk : kdM bt n st.2.2 = 1) (he : enM bt n st.2.2 = st.2.2 + L) (hL : D (11 + 4 * b) = (L : Int)) (hb : (b : Int) < D 0) (hN : NmR D nl) : nmM bt n st.2.2 = D (12 + 4 * b) ↔ ∀ i, i < L → bt (st.2.2 + i) = nl (8 * b + i) := by
  obtain ⟨h1, h2⟩ := hN b hb
  have h3 := let_in hk
  rw [h1, hL]
  have e1 : nmM bt n st.2.2 = nmG (fun i => bt (st.2.2 + i)) L := by unfold nmM; rw [he, Nat.add_sub_cancel_left]
  rw [e1]
  show nmG _ L = nmG _ L ↔ _
  constructor
  · intro q; exact (nmG_inj L L (fun i hi => isLt_1.mp (h3 i (by omega))) (fun i hi => h2 i (by omega)) q).2
  · intro q; exact nmG_congr L q
theorem nm_len {bt nl D : Nat → Int} {n b : Nat} {st : PS} (hk : kdM bt n st.2.2 = 1) (hs : st.2.2 ≤ enM bt n st.2.2) (hL : ((enM bt n st.2.2 : Int) - (st.2.2 : Int)) ≠ D (11 + 4 * b)) (hp : 0 ≤ D (11 + 4 * b)) (hb : (b : Int) < D 0) (hN : NmR D nl) : nmM bt n st.2.2 ≠ D (12 + 4 * b) := by
  obtain ⟨h1, h2⟩ := hN b hb
  have h3 := let_in hk
  rw [h1]
  intro q
  have := (nmG_inj (enM bt n st.2.2 - st.2.2) (D (11 + 4 * b)).toNat (fun i hi => isLt_1.mp (h3 i (by omega))) (fun i hi => h2 i (by omega)) q).1
  omega
theorem copyLM_l {g h : Nat → Int} {j : Nat} (hj : j = 1 ∨ j = 2 ∨ (5 ≤ j ∧ j ≤ 8) ∨ 33 ≤ j) : copyLM g h j = h j := if_pos hj
theorem copyLM_p {g h : Nat → Int} {j : Nat} (hj : ¬ (j = 1 ∨ j = 2 ∨ (5 ≤ j ∧ j ≤ 8) ∨ 33 ≤ j)) : copyLM g h j = g j := if_neg hj
theorem cp_addLeg {g h : Nat → Int} (t c s : Int) : copyLM g (addLegM h t c s) = addLegM (copyLM g h) t c s := by
  funext j
  have e1 : copyLM g h 1 = h 1 := rfl
  by_cases hj : j = 1 ∨ j = 2 ∨ (5 ≤ j ∧ j ≤ 8) ∨ 33 ≤ j
  · rw [copyLM_l hj]; unfold addLegM; rw [e1, copyLM_l hj]
  · rw [copyLM_p hj]; unfold addLegM; rw [e1, if_neg (by omega), if_neg (by omega), if_neg (by omega), if_neg (by omega), copyLM_p hj]
theorem cp_addSight {g h : Nat → Int} (t c s : Int) : copyLM g (addSightM h t c s) = addSightM (copyLM g h) t c s := by
  funext j
  have e1 : copyLM g h 2 = h 2 := rfl
  by_cases hj : j = 1 ∨ j = 2 ∨ (5 ≤ j ∧ j ≤ 8) ∨ 33 ≤ j
  · rw [copyLM_l hj]; unfold addSightM; rw [e1, copyLM_l hj]
  · rw [copyLM_p hj]; unfold addSightM; rw [e1, if_neg (by omega), if_neg (by omega), if_neg (by omega), if_neg (by omega), copyLM_p hj]
theorem cp_kl {g h : Nat → Int} {i : Nat} (hi : 5 ≤ i ∧ i ≤ 8) (a : Int) : copyLM g (kup h i a) = kup (copyLM g h) i a := by
  funext j
  unfold kup
  by_cases hj : j = 1 ∨ j = 2 ∨ (5 ≤ j ∧ j ≤ 8) ∨ 33 ≤ j
  · rw [copyLM_l hj, copyLM_l hj]
  · rw [copyLM_p hj, copyLM_p hj, if_neg (by omega)]
theorem cp_kp {g h : Nat → Int} {i : Nat} (hi : ¬ (i = 1 ∨ i = 2 ∨ (5 ≤ i ∧ i ≤ 8) ∨ 33 ≤ i)) (a : Int) : copyLM (kup g i a) h = kup (copyLM g h) i a := by
  funext j
  unfold kup
  by_cases hj : j = 1 ∨ j = 2 ∨ (5 ≤ j ∧ j ≤ 8) ∨ 33 ≤ j
  · rw [copyLM_l hj, copyLM_l hj, if_neg (by omega)]
  · rw [copyLM_p hj, copyLM_p hj]
theorem setM_kk {g : Nat → Int} {i j : Nat} (hij : i ≠ j) (a b : Int) : kup (kup g i a) j b = setM g i a j b := by
  funext q; unfold kup setM
  by_cases z : q = i
  · simp only [if_pos z]; rw [if_neg (by omega)]
  · simp only [if_neg z]
theorem planO_of {G : kG} {w : Nat → va_E} {b : Nat} {g : Nat → Int} {a0 a3 a4 : Int} (h : w b = .inr (6, [vI a3, vI a4, vI a0, .ref (kad G (b + 1)), .ref (kad G (b + 2)), .ref (kad G (b + 3)), .ref (kad G (b + 4))])) (e3 : a3 = g 3) (e4 : a4 = g 4) (e0 : a0 = g 0) : w b = planO G b g := by
  subst e3; subst e4; subst e0; exact h
abbrev trO (G : kG) : va_E := .inr (9, [.ref (kad G 1), .ref (kad G 117), .ref (kad G 122)])
def nlP (nl bt : Nat → Int) (b z L : Nat) : Nat → Int := fun j => if 8 * b ≤ j ∧ j < 8 * b + L then bt (z + (j - 8 * b)) else nl j
set_option maxRecDepth 100000 in
set_option maxHeartbeats 4000000 in
theorem c_X6_nameLetter (l : Launch) (hls : l.stackTraces = false) (G : kG) (hN : 133 ≤ kN G) (w : Nat → va_E) (fl : va_W) (gp nl : Nat → Int) (b i : Nat) (hbi : 8 * b + i < 48) (hP2 : kPlan G w 117 gp nl) : KM l G yX6_nameLetter cX6_nameLetter 3 (some (FieldType.int)) 1 0 0 [.ref (kad G 117), vI (b : Int), vI (i : Int)] w fl (kPure (vI (nl (8 * b + i))) w fl) := by
  refine KM_of2 hls (by decide +kernel) rfl (lv0 := [(0, .ref (kad G 117)), (1, vI (b : Int)), (2, vI (i : Int))]) rfl (Nat.le_of_ble_eq_true rfl) (fun p e R s m args below meth c Q hC hr hQ => ?_)
  refine k_aload_n hC dX6_nameLetter_0 rfl 0 rfl ?_
  refine k_get hC fd_X6_21 (kl hN (by decide)) hP2.1 rfl dX6_nameLetter_1 ?_
  refine k_iload_n hC dX6_nameLetter_4 rfl 1 rfl ?_
  refine k_bipush hC dX6_nameLetter_5 (by decide) ?_
  refine k_imul hC dX6_nameLetter_7 ?_
  refine k_iload_n hC dX6_nameLetter_8 rfl 2 rfl ?_
  refine k_iadd hC dX6_nameLetter_9 ?_
  refine k_pureSN hC (c_X11_at l hls G hN w fl 121 (((b : Int) * 8) + (i : Int)) 48 nl (by decide) (by omega) (by decide) hP2.2.2.2.2) yy_X11_at wm_X6_38 rfl rfl (Nat.le_of_ble_eq_true rfl) (by decide) (by decide) ⟨by decide, by decide⟩ dX6_nameLetter_10 ?_
  refine k_topv (vI (nl ((((b : Int) * 8) + (i : Int)).toNat))) rfl ?_
  subst hQ
  exact k_iret hC hr ⟨by decide, by decide⟩ (⟨congrArg (fun z => some (vI z)) (show (nl (8 * b + i) : Int) = nl ((((b : Int) * 8) + (i : Int)).toNat) from congrArg nl (by omega)), rfl, rfl⟩) dX6_nameLetter_13

set_option maxRecDepth 100000 in
set_option maxHeartbeats 4000000 in
theorem c_X6_isNamed (l : Launch) (hls : l.stackTraces = false) (G : kG) (hN : 133 ≤ kN G) (w : Nat → va_E) (fl : va_W) (bt gp gl nl D : Nat → Int) (n : Nat) (st : PS) (b : Nat) (hbD : (b : Int) < D 0) (hn7 : n ≤ 700) (hb : btOK bt) (h2 : w 2 = byA G bt) (hT : tkR G w bt n st) (hE : gE (copyLM gp gl) D) (hI : Inv D) (hNm : NmR D nl) (hP2 : kPlan G w 117 gp nl) : KM l G yX6_isNamed cX6_isNamed 6 (some (FieldType.boolean)) 2 0 0 [.ref (kad G 117), vI (b : Int), .ref (kad G 1)] w fl (kPure (vI (selI (isNm bt n st ∧ nmM bt n st.2.2 = D (12 + 4 * b)) 1 0)) w fl) := by
  refine KM_of2 hls (by decide +kernel) rfl (lv0 := [(0, .ref (kad G 117)), (1, vI (b : Int)), (2, .ref (kad G 1))]) rfl (Nat.le_of_ble_eq_true rfl) (fun p e R s m args below meth c Q hC hr hQ => ?_)
  have h0 := hI.c
  have hd0 : gp 0 = D 0 := hE.1 0 (by decide)
  have hbd := hI.body b hbD
  have hle := hT.le
  have hgb : gp (11 + 4 * b) = D (11 + 4 * b) := (copyLM_p (by omega)).symm.trans (hE.body (k := b) (by show gp 0 > (b : Int); omega)).2.2
  obtain ⟨L, hL⟩ : ∃ z : Nat, D (11 + 4 * b) = (z : Int) := ⟨(D (11 + 4 * b)).toNat, by omega⟩
  have hen : st.1 = 0 → (st.2.2 ≤ enM bt n st.2.2 ∧ enM bt n st.2.2 ≤ n) := fun q => enM_b (hle q)
  refine k_aload_n hC dX6_isNamed_0 rfl 0 rfl ?_
  refine k_get hC fd_X6_18 (kl hN (by decide)) hP2.1 rfl dX6_isNamed_1 ?_
  refine k_iload_n hC dX6_isNamed_4 rfl 1 rfl ?_
  refine k_pureSN hC (c_X11_at l hls G hN w fl 120 (b : Int) 6 (fun j => gp (11 + 4 * j)) (by decide) (by omega) (by decide) hP2.2.2.2.1) yy_X11_at wm_X6_38 rfl rfl (Nat.le_of_ble_eq_true rfl) (by decide) (by decide) ⟨by decide, by decide⟩ dX6_isNamed_5 ?_
  refine k_topv (vI (gp (11 + 4 * b))) rfl ?_
  refine k_topv (vI ((L : Int))) (congrArg vI (by omega)) ?_
  refine k_istore_n hC [(3, vI (L : Int)), (0, .ref (kad G 117)), (1, vI (b : Int)), (2, .ref (kad G 1))] dX6_isNamed_8 rfl (by decide) rfl ?_
  refine k_aload_n hC dX6_isNamed_9 rfl 3 rfl ?_
  have hTco_1 := hT
  obtain ⟨cno_1, eao_1, kdo_1, nmo_1, sao_1, nxo_1, h1o_1, -⟩ := hTco_1
  refine k_pureV hC (c_X10_wordLength l hls G hN w fl bt n st hn7 hb h2 hT) yy_X10_wordLength wm_X6_42 (kl hN (by decide)) h1o_1 rfl rfl rfl rfl (Nat.le_of_ble_eq_true rfl) (by decide) (by decide) ⟨by decide, by decide⟩ dX6_isNamed_10 ?_
  have hwx_2 : (st.1 = 0 ∧ kdM bt n st.2.2 = 1) → wlM bt n st = (enM bt n st.2.2 : Int) - (st.2.2 : Int) := fun q => selI_1 q
  have hwx_3 : ¬ (st.1 = 0 ∧ kdM bt n st.2.2 = 1) → wlM bt n st = 0 := fun q => selI_0 q
  have hwl_4 := wlM_b (bt := bt) (n := n) (st := st) (by have := hT; obtain ⟨_, _, _, _, _, _, _, _, hz, _⟩ := this; exact fun q => (hz q).1)
  refine k_iload_n hC dX6_isNamed_13 rfl 0 rfl ?_
  refine k_icmp_ne hC 21 dX6_isNamed_14 rfl (by omega) (by omega) (fun c_14 => ?_) (fun c_14 => ?_)
  · refine k_iconst hC dX6_isNamed_21 ?_
    refine k_istore hC [(4, vI 0), (3, vI (L : Int)), (0, .ref (kad G 117)), (1, vI (b : Int)), (2, .ref (kad G 1))] dX6_isNamed_22 (by decide) rfl ?_
    refine k_iconst hC dX6_isNamed_24 ?_
    refine k_istore hC [(5, vI 0), (4, vI 0), (3, vI (L : Int)), (0, .ref (kad G 117)), (1, vI (b : Int)), (2, .ref (kad G 1))] dX6_isNamed_25 (by decide) rfl ?_
    have loop4 : ∀ (nw : Nat) (k : Nat) (sm : Int), (L < nw + k) → (k ≤ L) → ((sm = 1 ∧ (st.1 = 0 ∧ kdM bt n st.2.2 = 1 ∧ enM bt n st.2.2 = st.2.2 + L) ∧ ∀ i, i < k → bt (st.2.2 + i) = nl (8 * b + i)) ∨ (sm = 0 ∧ ¬ (isNm bt n st ∧ nmM bt n st.2.2 = D (12 + 4 * b)))) → KW p l e R s m args below meth c 6 G Q w fl 0 0 27 [(5, vI (k : Int)), (4, vI sm), (3, vI (L : Int)), (0, .ref (kad G 117)), (1, vI (b : Int)), (2, .ref (kad G 1))] [] := by
      intro nw
      induction nw with
      | zero =>
        intro k sm hn_w hk hsm
        exact absurd hn_w (by omega)
      | succ nw ihw =>
        intro k sm hn_w hk hsm
        have hsm1 : sm = 0 ∨ sm = 1 := hsm.elim (fun q => Or.inr q.1) (fun q => Or.inl q.1)
        refine k_iload hC dX6_isNamed_27 1 rfl ?_
        refine k_if_eq hC 67 dX6_isNamed_29 rfl (by omega) (fun c_29 => ?_) (fun c_29 => ?_)
        · refine k_iload hC dX6_isNamed_67 1 rfl ?_
          subst hQ
          exact k_zret hC (by omega) hr ⟨by decide, by decide⟩ (⟨congrArg (fun z => some (vI z)) (by rcases hsm with ⟨q1, q2, q3⟩ | ⟨q1, q2⟩; (first | omega | (rw [q1]; exact selI_1 ⟨⟨q2.1, q2.2.1, by omega⟩, (nm_eq q2.2.1 q2.2.2 hL hbD hNm).mpr (fun i hi => q3 i (by omega))⟩)); (rw [q1]; exact selI_0 q2)), rfl, rfl⟩) dX6_isNamed_69
        · have hs1 : st.1 = 0 ∧ kdM bt n st.2.2 = 1 ∧ enM bt n st.2.2 = st.2.2 + L := (hsm.resolve_right (fun q => by omega)).2.1
          refine k_iload hC dX6_isNamed_32 0 rfl ?_
          refine k_iload_n hC dX6_isNamed_34 rfl 2 rfl ?_
          refine k_icmp_ge hC 67 dX6_isNamed_35 rfl (by omega) (by omega) (fun c_35 => ?_) (fun c_35 => ?_)
          · refine k_iload hC dX6_isNamed_67 1 rfl ?_
            subst hQ
            exact k_zret hC (by omega) hr ⟨by decide, by decide⟩ (⟨congrArg (fun z => some (vI z)) (by rcases hsm with ⟨q1, q2, q3⟩ | ⟨q1, q2⟩; (first | omega | (rw [q1]; exact selI_1 ⟨⟨q2.1, q2.2.1, by omega⟩, (nm_eq q2.2.1 q2.2.2 hL hbD hNm).mpr (fun i hi => q3 i (by omega))⟩)); (rw [q1]; exact selI_0 q2)), rfl, rfl⟩) dX6_isNamed_69
          · have hen1 := hen hs1.1
            refine k_aload_n hC dX6_isNamed_38 rfl 5 rfl ?_
            refine k_iload hC dX6_isNamed_39 0 rfl ?_
            refine k_pureV hC (c_X10_wordLetter l hls G hN w fl bt n st k (by omega) (by omega) hn7 hb h2 hT) yy_X10_wordLetter wm_X6_52 (kl hN (by decide)) h1o_1 rfl rfl rfl rfl (Nat.le_of_ble_eq_true rfl) (by decide) (by decide) ⟨by decide, by decide⟩ dX6_isNamed_41 ?_
            have hbl_5 := hb (st.2.2 + k)
            refine k_aload_n hC dX6_isNamed_44 rfl 3 rfl ?_
            refine k_iload_n hC dX6_isNamed_45 rfl 4 rfl ?_
            refine k_iload hC dX6_isNamed_46 0 rfl ?_
            refine k_pureV hC (c_X6_nameLetter l hls G hN w fl gp nl b k (by omega) hP2) yy_X6_nameLetter wm_X6_60 (kl hN (by decide)) hP2.1 rfl rfl rfl rfl (Nat.le_of_ble_eq_true rfl) (by decide) (by decide) ⟨by decide, by decide⟩ dX6_isNamed_48 ?_
            have hnl_6 := (hNm b hbD).2 k (by omega)
            refine k_icmp_ne hC 58 dX6_isNamed_51 rfl (by omega) (by omega) (fun c_51 => ?_) (fun c_51 => ?_)
            · refine k_iconst hC dX6_isNamed_58 ?_
              refine k_istore hC [(4, vI 0), (5, vI (k : Int)), (3, vI (L : Int)), (0, .ref (kad G 117)), (1, vI (b : Int)), (2, .ref (kad G 1))] dX6_isNamed_59 (by decide) rfl ?_
              refine k_iinc hC (y := (k : Int) + 1) [(5, vI ((k : Int) + 1)), (4, vI 0), (3, vI (L : Int)), (0, .ref (kad G 117)), (1, vI (b : Int)), (2, .ref (kad G 1))] (j := 1) dX6_isNamed_61 rfl (by omega) (by decide) rfl ?_
              refine k_goto hC 27 dX6_isNamed_64 rfl ?_
              refine k_lvs (ls := [0, 1, 2, 3, 4, 5]) [(5, vI ((k + 1 : Nat) : Int)), (4, vI 0), (3, vI (L : Int)), (0, .ref (kad G 117)), (1, vI (b : Int)), (2, .ref (kad G 1))] (by simp only [lv_pick]; rfl) ?_
              exact ihw (k + 1) 0  (by omega) (by omega) (hsm.elim (fun q9 => Or.inr ⟨rfl, fun q => c_51 ((nm_eq q9.2.1.2.1 q9.2.1.2.2 hL hbD hNm).mp q.2 k (by omega))⟩) (fun q => absurd q.1 (by omega)))
            · refine k_iconst hC dX6_isNamed_54 ?_
              refine k_goto hC 59 dX6_isNamed_55 rfl ?_
              refine k_istore hC [(4, vI 1), (5, vI (k : Int)), (3, vI (L : Int)), (0, .ref (kad G 117)), (1, vI (b : Int)), (2, .ref (kad G 1))] dX6_isNamed_59 (by decide) rfl ?_
              refine k_iinc hC (y := (k : Int) + 1) [(5, vI ((k : Int) + 1)), (4, vI 1), (3, vI (L : Int)), (0, .ref (kad G 117)), (1, vI (b : Int)), (2, .ref (kad G 1))] (j := 1) dX6_isNamed_61 rfl (by omega) (by decide) rfl ?_
              refine k_goto hC 27 dX6_isNamed_64 rfl ?_
              refine k_lvs (ls := [0, 1, 2, 3, 4, 5]) [(5, vI ((k + 1 : Nat) : Int)), (4, vI 1), (3, vI (L : Int)), (0, .ref (kad G 117)), (1, vI (b : Int)), (2, .ref (kad G 1))] (by simp only [lv_pick]; rfl) ?_
              exact ihw (k + 1) 1  (by omega) (by omega) (hsm.elim (fun q => Or.inl ⟨rfl, q.2.1, fun i hi => by by_cases e : i = k; (subst e; exact c_51); (exact q.2.2 i (by omega))⟩) (fun q => absurd q.1 (by omega)))
    refine k_lvs (ls := [0, 1, 2, 3, 4, 5]) [(5, vI ((0 : Nat) : Int)), (4, vI 0), (3, vI (L : Int)), (0, .ref (kad G 117)), (1, vI (b : Int)), (2, .ref (kad G 1))] (by simp only [lv_pick]; rfl) ?_
    exact loop4 (L + 1) 0 0  (by omega) (by omega) (Or.inr ⟨rfl, fun q => by have q1 := q.1.1; have q2 := q.1.2.1; have q3 := hen q1; exact nm_len (nl := nl) q2 q3.1 (by omega) (by omega) hbD hNm q.2⟩)
  · refine k_iconst hC dX6_isNamed_17 ?_
    refine k_goto hC 22 dX6_isNamed_18 rfl ?_
    refine k_istore hC [(4, vI 1), (3, vI (L : Int)), (0, .ref (kad G 117)), (1, vI (b : Int)), (2, .ref (kad G 1))] dX6_isNamed_22 (by decide) rfl ?_
    refine k_iconst hC dX6_isNamed_24 ?_
    refine k_istore hC [(5, vI 0), (4, vI 1), (3, vI (L : Int)), (0, .ref (kad G 117)), (1, vI (b : Int)), (2, .ref (kad G 1))] dX6_isNamed_25 (by decide) rfl ?_
    have loop6 : ∀ (nw : Nat) (k : Nat) (sm : Int), (L < nw + k) → (k ≤ L) → ((sm = 1 ∧ (st.1 = 0 ∧ kdM bt n st.2.2 = 1 ∧ enM bt n st.2.2 = st.2.2 + L) ∧ ∀ i, i < k → bt (st.2.2 + i) = nl (8 * b + i)) ∨ (sm = 0 ∧ ¬ (isNm bt n st ∧ nmM bt n st.2.2 = D (12 + 4 * b)))) → KW p l e R s m args below meth c 6 G Q w fl 0 0 27 [(5, vI (k : Int)), (4, vI sm), (3, vI (L : Int)), (0, .ref (kad G 117)), (1, vI (b : Int)), (2, .ref (kad G 1))] [] := by
      intro nw
      induction nw with
      | zero =>
        intro k sm hn_w hk hsm
        exact absurd hn_w (by omega)
      | succ nw ihw =>
        intro k sm hn_w hk hsm
        have hsm1 : sm = 0 ∨ sm = 1 := hsm.elim (fun q => Or.inr q.1) (fun q => Or.inl q.1)
        refine k_iload hC dX6_isNamed_27 1 rfl ?_
        refine k_if_eq hC 67 dX6_isNamed_29 rfl (by omega) (fun c_29 => ?_) (fun c_29 => ?_)
        · refine k_iload hC dX6_isNamed_67 1 rfl ?_
          subst hQ
          exact k_zret hC (by omega) hr ⟨by decide, by decide⟩ (⟨congrArg (fun z => some (vI z)) (by rcases hsm with ⟨q1, q2, q3⟩ | ⟨q1, q2⟩; (first | omega | (rw [q1]; exact selI_1 ⟨⟨q2.1, q2.2.1, by omega⟩, (nm_eq q2.2.1 q2.2.2 hL hbD hNm).mpr (fun i hi => q3 i (by omega))⟩)); (rw [q1]; exact selI_0 q2)), rfl, rfl⟩) dX6_isNamed_69
        · have hs1 : st.1 = 0 ∧ kdM bt n st.2.2 = 1 ∧ enM bt n st.2.2 = st.2.2 + L := (hsm.resolve_right (fun q => by omega)).2.1
          refine k_iload hC dX6_isNamed_32 0 rfl ?_
          refine k_iload_n hC dX6_isNamed_34 rfl 2 rfl ?_
          refine k_icmp_ge hC 67 dX6_isNamed_35 rfl (by omega) (by omega) (fun c_35 => ?_) (fun c_35 => ?_)
          · refine k_iload hC dX6_isNamed_67 1 rfl ?_
            subst hQ
            exact k_zret hC (by omega) hr ⟨by decide, by decide⟩ (⟨congrArg (fun z => some (vI z)) (by rcases hsm with ⟨q1, q2, q3⟩ | ⟨q1, q2⟩; (first | omega | (rw [q1]; exact selI_1 ⟨⟨q2.1, q2.2.1, by omega⟩, (nm_eq q2.2.1 q2.2.2 hL hbD hNm).mpr (fun i hi => q3 i (by omega))⟩)); (rw [q1]; exact selI_0 q2)), rfl, rfl⟩) dX6_isNamed_69
          · have hen1 := hen hs1.1
            refine k_aload_n hC dX6_isNamed_38 rfl 5 rfl ?_
            refine k_iload hC dX6_isNamed_39 0 rfl ?_
            refine k_pureV hC (c_X10_wordLetter l hls G hN w fl bt n st k (by omega) (by omega) hn7 hb h2 hT) yy_X10_wordLetter wm_X6_52 (kl hN (by decide)) h1o_1 rfl rfl rfl rfl (Nat.le_of_ble_eq_true rfl) (by decide) (by decide) ⟨by decide, by decide⟩ dX6_isNamed_41 ?_
            have hbl_7 := hb (st.2.2 + k)
            refine k_aload_n hC dX6_isNamed_44 rfl 3 rfl ?_
            refine k_iload_n hC dX6_isNamed_45 rfl 4 rfl ?_
            refine k_iload hC dX6_isNamed_46 0 rfl ?_
            refine k_pureV hC (c_X6_nameLetter l hls G hN w fl gp nl b k (by omega) hP2) yy_X6_nameLetter wm_X6_60 (kl hN (by decide)) hP2.1 rfl rfl rfl rfl (Nat.le_of_ble_eq_true rfl) (by decide) (by decide) ⟨by decide, by decide⟩ dX6_isNamed_48 ?_
            have hnl_8 := (hNm b hbD).2 k (by omega)
            refine k_icmp_ne hC 58 dX6_isNamed_51 rfl (by omega) (by omega) (fun c_51 => ?_) (fun c_51 => ?_)
            · refine k_iconst hC dX6_isNamed_58 ?_
              refine k_istore hC [(4, vI 0), (5, vI (k : Int)), (3, vI (L : Int)), (0, .ref (kad G 117)), (1, vI (b : Int)), (2, .ref (kad G 1))] dX6_isNamed_59 (by decide) rfl ?_
              refine k_iinc hC (y := (k : Int) + 1) [(5, vI ((k : Int) + 1)), (4, vI 0), (3, vI (L : Int)), (0, .ref (kad G 117)), (1, vI (b : Int)), (2, .ref (kad G 1))] (j := 1) dX6_isNamed_61 rfl (by omega) (by decide) rfl ?_
              refine k_goto hC 27 dX6_isNamed_64 rfl ?_
              refine k_lvs (ls := [0, 1, 2, 3, 4, 5]) [(5, vI ((k + 1 : Nat) : Int)), (4, vI 0), (3, vI (L : Int)), (0, .ref (kad G 117)), (1, vI (b : Int)), (2, .ref (kad G 1))] (by simp only [lv_pick]; rfl) ?_
              exact ihw (k + 1) 0  (by omega) (by omega) (hsm.elim (fun q9 => Or.inr ⟨rfl, fun q => c_51 ((nm_eq q9.2.1.2.1 q9.2.1.2.2 hL hbD hNm).mp q.2 k (by omega))⟩) (fun q => absurd q.1 (by omega)))
            · refine k_iconst hC dX6_isNamed_54 ?_
              refine k_goto hC 59 dX6_isNamed_55 rfl ?_
              refine k_istore hC [(4, vI 1), (5, vI (k : Int)), (3, vI (L : Int)), (0, .ref (kad G 117)), (1, vI (b : Int)), (2, .ref (kad G 1))] dX6_isNamed_59 (by decide) rfl ?_
              refine k_iinc hC (y := (k : Int) + 1) [(5, vI ((k : Int) + 1)), (4, vI 1), (3, vI (L : Int)), (0, .ref (kad G 117)), (1, vI (b : Int)), (2, .ref (kad G 1))] (j := 1) dX6_isNamed_61 rfl (by omega) (by decide) rfl ?_
              refine k_goto hC 27 dX6_isNamed_64 rfl ?_
              refine k_lvs (ls := [0, 1, 2, 3, 4, 5]) [(5, vI ((k + 1 : Nat) : Int)), (4, vI 1), (3, vI (L : Int)), (0, .ref (kad G 117)), (1, vI (b : Int)), (2, .ref (kad G 1))] (by simp only [lv_pick]; rfl) ?_
              exact ihw (k + 1) 1  (by omega) (by omega) (hsm.elim (fun q => Or.inl ⟨rfl, q.2.1, fun i hi => by by_cases e : i = k; (subst e; exact c_51); (exact q.2.2 i (by omega))⟩) (fun q => absurd q.1 (by omega)))
    refine k_lvs (ls := [0, 1, 2, 3, 4, 5]) [(5, vI ((0 : Nat) : Int)), (4, vI 1), (3, vI (L : Int)), (0, .ref (kad G 117)), (1, vI (b : Int)), (2, .ref (kad G 1))] (by simp only [lv_pick]; rfl) ?_
    exact loop6 (L + 1) 0 1  (by omega) (by omega) (Or.inl ⟨rfl, ⟨by omega, by omega, by omega⟩, fun i hi => absurd hi (by omega)⟩)

theorem bdM_b {bt D : Nat → Int} {n : Nat} {st : PS} (hI : Inv D) : -1 ≤ bdM bt n D st ∧ bdM bt n D st < 6 := by
  have h0 := hI.c
  unfold bdM
  by_cases q : isNm bt n st
  · rw [selP_1 q]; have := bdF_b D (nmM bt n st.2.2) (D 0).toNat; omega
  · rw [selP_0 q]; omega
set_option maxRecDepth 100000 in
set_option maxHeartbeats 4000000 in
theorem c_X6_bodyNamed (l : Launch) (hls : l.stackTraces = false) (G : kG) (hN : 133 ≤ kN G) (w : Nat → va_E) (fl : va_W) (bt gp gl nl D : Nat → Int) (n : Nat) (st : PS) (hn7 : n ≤ 700) (hb : btOK bt) (h2 : w 2 = byA G bt) (hT : tkR G w bt n st) (hE : gE (copyLM gp gl) D) (hI : Inv D) (hNm : NmR D nl) (hP2 : kPlan G w 117 gp nl) : KM l G yX6_bodyNamed cX6_bodyNamed 3 (some (FieldType.int)) 3 0 0 [.ref (kad G 117), .ref (kad G 1)] w fl (kPure (vI (bdM bt n D st)) w fl) := by
  refine KM_of2 hls (by decide +kernel) rfl (lv0 := [(0, .ref (kad G 117)), (1, .ref (kad G 1))]) rfl (Nat.le_of_ble_eq_true rfl) (fun p e R s m args below meth c Q hC hr hQ => ?_)
  have h0 := hI.c
  have hd0 : gp 0 = D 0 := hE.1 0 (by decide)
  refine k_iconst hC dX6_bodyNamed_0 ?_
  refine k_istore_n hC [(2, vI 0), (0, .ref (kad G 117)), (1, .ref (kad G 1))] dX6_bodyNamed_1 rfl (by decide) rfl ?_
  have loop : ∀ (nw : Nat) (b : Nat), ((D 0).toNat < nw + b) → ((b : Int) ≤ D 0) → (isNm bt n st → bdF D (nmM bt n st.2.2) b = -1) → KW p l e R s m args below meth c 3 G Q w fl 0 0 2 [(2, vI (b : Int)), (0, .ref (kad G 117)), (1, .ref (kad G 1))] [] := by
    intro nw
    induction nw with
    | zero =>
      intro b hn_w hk hnone
      exact absurd hn_w (by omega)
    | succ nw ihw =>
      intro b hn_w hk hnone
      refine k_iload_n hC dX6_bodyNamed_2 rfl 0 rfl ?_
      refine k_aload_n hC dX6_bodyNamed_3 rfl 1 rfl ?_
      refine k_get hC fd_X6_31 (kl hN (by decide)) hP2.1 rfl dX6_bodyNamed_4 ?_
      refine k_icmp_ge hC 27 dX6_bodyNamed_7 rfl (by omega) (by omega) (fun c_7 => ?_) (fun c_7 => ?_)
      · refine k_iconst hC dX6_bodyNamed_27 ?_
        subst hQ
        exact k_iret hC hr ⟨by decide, by decide⟩ (⟨congrArg (fun z => some (vI z)) (by unfold bdM; by_cases q : isNm bt n st; (rw [selP_1 q, show (D 0).toNat = b by omega]; exact hnone q); exact selP_0 q), rfl, rfl⟩) dX6_bodyNamed_28
      · refine k_aload_n hC dX6_bodyNamed_10 rfl 1 rfl ?_
        refine k_iload_n hC dX6_bodyNamed_11 rfl 0 rfl ?_
        refine k_aload_n hC dX6_bodyNamed_12 rfl 2 rfl ?_
        refine k_pureV hC (c_X6_isNamed l hls G hN w fl bt gp gl nl D n st b (by omega) hn7 hb h2 hT hE hI hNm hP2) yy_X6_isNamed wm_X6_56 (kl hN (by decide)) hP2.1 rfl rfl rfl rfl (Nat.le_of_ble_eq_true rfl) (by decide) (by decide) ⟨by decide, by decide⟩ dX6_bodyNamed_13 ?_
        obtain ⟨z_1, ez_1, hz_1⟩ := selI_c (isNm bt n st ∧ nmM bt n st.2.2 = D (12 + 4 * b))
        refine k_topv (vI z_1) (by rw [ez_1]) ?_
        refine k_if_eq hC 21 dX6_bodyNamed_16 rfl (by omega) (fun c_16 => ?_) (fun c_16 => ?_)
        · refine k_iinc hC (y := (b : Int) + 1) [(2, vI ((b : Int) + 1)), (0, .ref (kad G 117)), (1, .ref (kad G 1))] (j := 0) dX6_bodyNamed_21 rfl (by omega) (by decide) rfl ?_
          refine k_goto hC 2 dX6_bodyNamed_24 rfl ?_
          refine k_lvs (ls := [0, 1, 2]) [(2, vI ((b + 1 : Nat) : Int)), (0, .ref (kad G 117)), (1, .ref (kad G 1))] (by simp only [lv_pick]; rfl) ?_
          exact ihw (b + 1)  (by omega) (by omega) (fun q => by show (if bdF D _ b = -1 ∧ D (12 + 4 * b) = _ then _ else bdF D _ b) = -1; rw [if_neg (fun q2 => (hz_1.resolve_left (fun q1 => by omega)).2 ⟨q, q2.2.symm⟩)]; exact hnone q)
        · refine k_iload_n hC dX6_bodyNamed_19 rfl 0 rfl ?_
          subst hQ
          exact k_iret hC hr ⟨by decide, by decide⟩ (⟨congrArg (fun z => some (vI z)) (by have hq := (hz_1.resolve_right (fun q1 => by omega)).2; unfold bdM; rw [selP_1 hq.1]; have e1 : bdF D (nmM bt n st.2.2) (b + 1) = (b : Int) := if_pos ⟨hnone hq.1, hq.2.symm⟩; have e2 := bdF_st (D := D) (x := nmM bt n st.2.2) (k := b + 1) (by rw [e1]; omega) ((D 0).toNat - (b + 1)); rw [show b + 1 + ((D 0).toNat - (b + 1)) = (D 0).toNat by omega] at e2; rw [e2, e1]), rfl, rfl⟩) dX6_bodyNamed_20
  refine k_lvs (ls := [0, 1, 2]) [(2, vI ((0 : Nat) : Int)), (0, .ref (kad G 117)), (1, .ref (kad G 1))] (by simp only [lv_pick]; rfl) ?_
  exact loop 7 0  (by omega) (by omega) (fun _ => rfl)

set_option maxRecDepth 100000 in
set_option maxHeartbeats 4000000 in
theorem c_X6_putName (l : Launch) (hls : l.stackTraces = false) (G : kG) (hN : 133 ≤ kN G) (w : Nat → va_E) (fl : va_W) (bt gp nl : Nat → Int) (n : Nat) (st : PS) (b : Nat) (hb6 : b < 6) (hnm : isNm bt n st) (hn7 : n ≤ 700) (hb : btOK bt) (h2 : w 2 = byA G bt) (hT : tkR G w bt n st) (hP2 : kPlan G w 117 gp nl) : KM l G yX6_putName cX6_putName 5 (none) 2 0 0 [.ref (kad G 117), vI (b : Int), .ref (kad G 1)] w fl (kMuv fl (fun w1 => kPlan G w1 117 (kup gp (11 + 4 * b) ((enM bt n st.2.2 : Int) - (st.2.2 : Int))) (nlP nl bt b st.2.2 (enM bt n st.2.2 - st.2.2)) ∧ ∀ j, (j < 117 ∨ 121 < j) → w1 j = w j)) := by
  refine KM_of2 hls (by decide +kernel) rfl (lv0 := [(0, .ref (kad G 117)), (1, vI (b : Int)), (2, .ref (kad G 1))]) rfl (Nat.le_of_ble_eq_true rfl) (fun p e R s m args below meth c Q hC hr hQ => ?_)
  have hle := hT.le hnm.1
  have hen := enM_b (bt := bt) hle
  have hn8 := hnm.2.2
  have hkd := hnm.2.1
  have hz := hnm.1
  obtain ⟨L, hL⟩ : ∃ z : Nat, enM bt n st.2.2 = st.2.2 + z := ⟨enM bt n st.2.2 - st.2.2, by omega⟩
  refine k_aload_n hC dX6_putName_0 rfl 2 rfl ?_
  have hTco_1 := hT
  obtain ⟨cno_1, eao_1, kdo_1, nmo_1, sao_1, nxo_1, h1o_1, -⟩ := hTco_1
  refine k_pureV hC (c_X10_wordLength l hls G hN w fl bt n st hn7 hb h2 hT) yy_X10_wordLength wm_X6_42 (kl hN (by decide)) h1o_1 rfl rfl rfl rfl (Nat.le_of_ble_eq_true rfl) (by decide) (by decide) ⟨by decide, by decide⟩ dX6_putName_1 ?_
  have hwx_2 : (st.1 = 0 ∧ kdM bt n st.2.2 = 1) → wlM bt n st = (enM bt n st.2.2 : Int) - (st.2.2 : Int) := fun q => selI_1 q
  have hwx_3 : ¬ (st.1 = 0 ∧ kdM bt n st.2.2 = 1) → wlM bt n st = 0 := fun q => selI_0 q
  have hwl_4 := wlM_b (bt := bt) (n := n) (st := st) (by have := hT; obtain ⟨_, _, _, _, _, _, _, _, hz, _⟩ := this; exact fun q => (hz q).1)
  refine k_topv (vI ((L : Int))) (congrArg vI (by omega)) ?_
  refine k_istore_n hC [(3, vI (L : Int)), (0, .ref (kad G 117)), (1, vI (b : Int)), (2, .ref (kad G 1))] dX6_putName_4 rfl (by decide) rfl ?_
  refine k_aload_n hC dX6_putName_5 rfl 1 rfl ?_
  refine k_get hC fd_X6_18 (kl hN (by decide)) hP2.1 rfl dX6_putName_6 ?_
  refine k_iload_n hC dX6_putName_9 rfl 2 rfl ?_
  refine k_iload_n hC dX6_putName_10 rfl 0 rfl ?_
  refine k_muvSN hC (c_X11_put l hls G hN w fl 120 (b : Int) (L : Int) 6 (fun j => gp (11 + 4 * j)) (by decide) (by omega) (by decide) hP2.2.2.2.1) yy_X11_put wm_X6_48 rfl rfl (Nat.le_of_ble_eq_true rfl) (by decide) (by decide) ⟨by decide, by decide⟩ dX6_putName_11 (fun w5 hp5 => ?_)
  obtain ⟨hw5, hf5⟩ := hp5
  refine k_iconst hC dX6_putName_14 ?_
  refine k_istore hC [(4, vI 0), (3, vI (L : Int)), (0, .ref (kad G 117)), (1, vI (b : Int)), (2, .ref (kad G 1))] dX6_putName_15 (by decide) rfl ?_
  have hx := 1
  have h_6 : w5 117 = .inr (6, [vI (gp 3), vI (gp 4), vI (gp 0), .ref (kad G 118), .ref (kad G 119), .ref (kad G 120), .ref (kad G 121)]) := (hf5 117 (by decide)).trans hP2.1
  have h_7 : w5 118 = iA G 6 (fun j => gp (9 + 4 * j)) := (hf5 118 (by decide)).trans hP2.2.1
  have h_8 : w5 119 = iA G 6 (fun j => gp (10 + 4 * j)) := (hf5 119 (by decide)).trans hP2.2.2.1
  have loop : ∀ (nw : Nat) (i : Nat) (f : Nat → Int) (wvw : Nat → va_E), (L < nw + i) → (i ≤ L) → (∀ j, f j = if 8 * b ≤ j ∧ j < 8 * b + i then bt (st.2.2 + (j - 8 * b)) else nl j) → (wvw 117 = .inr (6, [vI (gp 3), vI (gp 4), vI (gp 0), .ref (kad G 118), .ref (kad G 119), .ref (kad G 120), .ref (kad G 121)])) → (wvw 118 = iA G 6 (fun j => gp (9 + 4 * j))) → (wvw 119 = iA G 6 (fun j => gp (10 + 4 * j))) → (wvw 120 = iA G 6 (kup (fun j => gp (11 + 4 * j)) ((b : Int)).toNat (L : Int))) → (wvw 121 = iA G 48 f) → (wvw 2 = bA G 700 (fun j => sb8 (bt j))) → (tkR G wvw bt n st) → ((∀ j, (j < 117 ∨ 121 < j) → wvw j = w j)) → KW p l e R s m args below meth c 5 G Q wvw fl 0 0 17 [(4, vI (i : Int)), (3, vI (L : Int)), (0, .ref (kad G 117)), (1, vI (b : Int)), (2, .ref (kad G 1))] [] := by
    intro nw
    induction nw with
    | zero =>
      intro i f wvw hn_w hi hf g117 g118 g119 g120 g121 g2 hT_ hfrw
      exact absurd hn_w (by omega)
    | succ nw ihw =>
      intro i f wvw hn_w hi hf g117 g118 g119 g120 g121 g2 hT_ hfrw
      refine k_iload hC dX6_putName_17 0 rfl ?_
      refine k_iload_n hC dX6_putName_19 rfl 1 rfl ?_
      refine k_icmp_ge hC 56 dX6_putName_20 rfl (by omega) (by omega) (fun c_20 => ?_) (fun c_20 => ?_)
      · subst hQ
        exact k_vret hC hr ⟨by decide, by decide⟩ (⟨rfl, rfl, ⟨planO_of g117 (kup_n (by omega)).symm (kup_n (by omega)).symm (kup_n (by omega)).symm, g118.trans (iA_congr (fun j hj => by show _ = kup gp (11 + 4 * b) _ _; unfold kup; repeat (first | omega | rfl | split | (congr 1; omega)))), g119.trans (iA_congr (fun j hj => by show _ = kup gp (11 + 4 * b) _ _; unfold kup; repeat (first | omega | rfl | split | (congr 1; omega)))), g120.trans (iA_congr (fun j hj => by show _ = kup gp (11 + 4 * b) _ _; unfold kup; repeat (first | omega | rfl | split | (congr 1; omega)))), g121.trans (iA_congr (fun j hj => by rw [hf j]; unfold nlP; rw [show enM bt n st.2.2 - st.2.2 = i by omega]))⟩, fun j hj => hfrw j (by omega)⟩) dX6_putName_56
      · refine k_iload hC dX6_putName_23 0 rfl ?_
        refine k_bipush hC dX6_putName_25 (by decide) ?_
        refine k_icmp_ge hC 56 dX6_putName_27 rfl (by omega) (by omega) (fun c_27 => ?_) (fun c_27 => ?_)
        · subst hQ
          exact k_vret hC hr ⟨by decide, by decide⟩ (⟨rfl, rfl, ⟨planO_of g117 (kup_n (by omega)).symm (kup_n (by omega)).symm (kup_n (by omega)).symm, g118.trans (iA_congr (fun j hj => by show _ = kup gp (11 + 4 * b) _ _; unfold kup; repeat (first | omega | rfl | split | (congr 1; omega)))), g119.trans (iA_congr (fun j hj => by show _ = kup gp (11 + 4 * b) _ _; unfold kup; repeat (first | omega | rfl | split | (congr 1; omega)))), g120.trans (iA_congr (fun j hj => by show _ = kup gp (11 + 4 * b) _ _; unfold kup; repeat (first | omega | rfl | split | (congr 1; omega)))), g121.trans (iA_congr (fun j hj => by rw [hf j]; unfold nlP; rw [show enM bt n st.2.2 - st.2.2 = i by omega]))⟩, fun j hj => hfrw j (by omega)⟩) dX6_putName_56
        · refine k_aload_n hC dX6_putName_30 rfl 2 rfl ?_
          refine k_get hC fd_X6_21 (kl hN (by decide)) g117 rfl dX6_putName_31 ?_
          refine k_iload_n hC dX6_putName_34 rfl 3 rfl ?_
          refine k_bipush hC dX6_putName_35 (by decide) ?_
          refine k_imul hC dX6_putName_37 ?_
          refine k_iload hC dX6_putName_38 0 rfl ?_
          refine k_iadd hC dX6_putName_40 ?_
          refine k_aload_n hC dX6_putName_41 rfl 4 rfl ?_
          refine k_iload hC dX6_putName_42 0 rfl ?_
          have hTco_9 := hT_
          obtain ⟨cno_9, eao_9, kdo_9, nmo_9, sao_9, nxo_9, h1o_9, -⟩ := hTco_9
          refine k_pureV hC (c_X10_wordLetter l hls G hN wvw fl bt n st i (by omega) (by omega) hn7 hb g2 hT_) yy_X10_wordLetter wm_X6_52 (kl hN (by decide)) h1o_9 rfl rfl rfl rfl (Nat.le_of_ble_eq_true rfl) (by decide) (by decide) ⟨by decide, by decide⟩ dX6_putName_44 ?_
          have hbl_10 := hb (st.2.2 + i)
          refine k_muvSN hC (c_X11_put l hls G hN wvw fl 121 (((b : Int) * 8) + (i : Int)) (bt (st.2.2 + i)) 48 f (by decide) (by omega) (by decide) g121) yy_X11_put wm_X6_48 rfl rfl (Nat.le_of_ble_eq_true rfl) (by decide) (by decide) ⟨by decide, by decide⟩ dX6_putName_47 (fun w11 hp11 => ?_)
          obtain ⟨hw11, hf11⟩ := hp11
          refine k_iinc hC (y := (i : Int) + 1) [(4, vI ((i : Int) + 1)), (3, vI (L : Int)), (0, .ref (kad G 117)), (1, vI (b : Int)), (2, .ref (kad G 1))] (j := 0) dX6_putName_50 rfl (by omega) (by decide) rfl ?_
          refine k_goto hC 17 dX6_putName_53 rfl ?_
          refine k_lvs (ls := [0, 1, 2, 3, 4]) [(4, vI ((i + 1 : Nat) : Int)), (3, vI (L : Int)), (0, .ref (kad G 117)), (1, vI (b : Int)), (2, .ref (kad G 1))] (by simp only [lv_pick]; rfl) ?_
          have h_12 : w11 117 = .inr (6, [vI (gp 3), vI (gp 4), vI (gp 0), .ref (kad G 118), .ref (kad G 119), .ref (kad G 120), .ref (kad G 121)]) := (hf11 117 (by decide)).trans g117
          have h_13 : w11 118 = iA G 6 (fun j => gp (9 + 4 * j)) := (hf11 118 (by decide)).trans g118
          have h_14 : w11 119 = iA G 6 (fun j => gp (10 + 4 * j)) := (hf11 119 (by decide)).trans g119
          have h_15 : w11 120 = iA G 6 (kup (fun j => gp (11 + 4 * j)) ((b : Int)).toNat (L : Int)) := (hf11 120 (by decide)).trans g120
          have h_16 : w11 2 = bA G 700 (fun j => sb8 (bt j)) := (hf11 2 (by decide)).trans g2
          have hB_17 : tkR G w11 bt n st := hT_.fr (fun j q1 q2 => (hf11 j (by omega)))
          exact ihw (i + 1) (kup f (((b : Int) * 8) + (i : Int)).toNat (bt (st.2.2 + i))) w11 (by omega) (by omega) (fun j => by unfold kup; by_cases e : j = 8 * b + i; (rw [if_pos (by omega), if_pos (by omega)]; exact congrArg bt (by omega)); (rw [if_neg (by omega), hf j]; by_cases e2 : 8 * b ≤ j ∧ j < 8 * b + i; (rw [if_pos e2, if_pos (by omega)]); (rw [if_neg e2, if_neg (by omega)]))) h_12 h_13 h_14 h_15 hw11 h_16 hB_17 (fun j hj => (hf11 j (by omega)).trans (hfrw j (by omega)))
  refine k_lvs (ls := [0, 1, 2, 3, 4]) [(4, vI ((0 : Nat) : Int)), (3, vI (L : Int)), (0, .ref (kad G 117)), (1, vI (b : Int)), (2, .ref (kad G 1))] (by simp only [lv_pick]; rfl) ?_
  have h_18 : w5 121 = iA G 48 nl := (hf5 121 (by decide)).trans hP2.2.2.2.2
  have h_19 : w5 2 = bA G 700 (fun j => sb8 (bt j)) := (hf5 2 (by decide)).trans h2
  have hB_20 : tkR G w5 bt n st := hT.fr (fun j q1 q2 => (hf5 j (by omega)))
  exact loop (L + 1) 0 nl w5 (by omega) (by omega) (fun j => (if_neg (by omega)).symm) h_6 h_7 h_8 hw5 h_18 h_19 hB_20 (fun j hj => hf5 j (by omega))

theorem NmR.hd {D D1 nl : Nat → Int} (h : NmR D nl) (e : ∀ j, (j = 0 ∨ (9 ≤ j ∧ j < 33)) → D1 j = D j) (hI : Inv D) : NmR D1 nl := fun k hk => by
  have h0 := hI.c
  rw [e 0 (by omega)] at hk
  rw [e _ (by omega), e _ (by omega)]
  exact h k hk
theorem gE.pl {gp gl D : Nat → Int} (h : gE (copyLM gp gl) D) {i j : Nat} (hi : i = 3 ∨ i = 4) (hj : j = 3 ∨ j = 4) (hij : i ≠ j) (a b : Int) : gE (copyLM (kup (kup gp i a) j b) gl) (setM D i a j b) := by
  rw [cp_kp (by omega), cp_kp (by omega), setM_kk hij]
  exact h.set (by omega) (by omega) a b
theorem gE.ll {gp gl D : Nat → Int} (h : gE (copyLM gp gl) D) {i j : Nat} (hi : 5 ≤ i ∧ i ≤ 8) (hj : 5 ≤ j ∧ j ≤ 8) (hij : i ≠ j) (a b : Int) : gE (copyLM gp (kup (kup gl i a) j b)) (setM D i a j b) := by
  rw [cp_kl hj, cp_kl hi, setM_kk hij]
  exact h.set (by omega) (by omega) a b
theorem gE.l1 {gp gl D : Nat → Int} (h : gE (copyLM gp gl) D) {i : Nat} (hi : 5 ≤ i ∧ i ≤ 8) (a : Int) : gE (copyLM gp (kup gl i a)) (kup D i a) := by
  rw [cp_kl hi]
  exact h.kp (by omega) a
theorem ok1 {bt : Nat → Int} {n : Nat} {m : Int} {st : PS} (h : (sgP bt n m st).1 = 0) : st.1 = 0 := by
  by_cases q : st.1 = 0
  · exact q
  · rw [sgP_e q] at h; exact h
theorem ok2 {bt : Nat → Int} {n : Nat} {lo hi : Int} {st : PS} (h : (tkP bt n lo hi st).1 = 0) : st.1 = 0 := by
  by_cases q : st.1 = 0
  · exact q
  · rw [tkP_e q] at h; exact h
set_option maxRecDepth 100000 in
set_option maxHeartbeats 4000000 in
theorem c_X9_readStart (l : Launch) (hls : l.stackTraces = false) (G : kG) (hN : 133 ≤ kN G) (w : Nat → va_E) (fl : va_W) (bt gp gl nl D : Nat → Int) (n : Nat) (st : PS) (hn7 : n ≤ 700) (hb : btOK bt) (h2 : w 2 = byA G bt) (hT : tkR G w bt n st) (hz : st.1 = 0) (h116 : w 116 = trO G) (hE : gE (copyLM gp gl) D) (hI : Inv D) (hNm : NmR D nl) (hP2 : kPlan G w 117 gp nl) (hL2 : kLog G w 122 gl) : KM l G yX9_readStart cX9_readStart 1 (none) 4 0 0 [.ref (kad G 116)] w fl (kMuv fl (fun w1 => (∃ gp1 gl1 nl1 : Nat → Int, kPlan G w1 117 gp1 nl1 ∧ kLog G w1 122 gl1 ∧ ((sgP bt n 10799 (sgP bt n 3600 (adP bt n st))).1 = 0 → gE (copyLM gp1 gl1) (setM D 3 (sgV bt n (adP bt n st)) 4 (sgV bt n (sgP bt n 3600 (adP bt n st)))) ∧ NmR (setM D 3 (sgV bt n (adP bt n st)) 4 (sgV bt n (sgP bt n 3600 (adP bt n st)))) nl1)) ∧ tkR G w1 bt n (sgP bt n 10799 (sgP bt n 3600 (adP bt n st))) ∧ ∀ j, ((j < 117 ∨ 128 < j) ∧ j ≠ 1) → w1 j = w j)) := by
  refine KM_of2 hls (by decide +kernel) rfl (lv0 := [(0, .ref (kad G 116))]) rfl (Nat.le_of_ble_eq_true rfl) (fun p e R s m args below meth c Q hC hr hQ => ?_)
  have h0 := hI.c
  have hd0 : gp 0 = D 0 := hE.1 0 (by decide)
  have hd1 : gl 1 = D 1 := hE.1 1 (by decide)
  have hd2 : gl 2 = D 2 := hE.1 2 (by decide)
  refine k_aload_n hC dX9_readStart_0 rfl 0 rfl ?_
  refine k_get hC fd_X9_25 (kl hN (by decide)) h116 rfl dX9_readStart_1 ?_
  obtain ⟨cn1, ea1, kd1, nm1, sa1, p91, hp91, h11, hadv1⟩ := tk_open hT
  refine k_muvV hC (c_X10_advance l hls G hN w fl bt n p91 cn1 st.1 ea1 kd1 nm1 sa1 hn7 hp91 hb h2 h11) yy_X10_advance wm_X9_53 (kl hN (by decide)) h11 rfl rfl rfl rfl (Nat.le_of_ble_eq_true rfl) (by decide) (by decide) ⟨by decide, by decide⟩ dX9_readStart_4 (fun w1 hp1 => ?_)
  obtain ⟨hq1, hf1⟩ := hp1
  have hT1 := hadv1 _ hq1
  obtain ⟨st_2, est_2⟩ : ∃ z : PS, z = adP bt n st := ⟨_, rfl⟩
  rw [← est_2] at hT1
  refine k_aload_n hC dX9_readStart_7 rfl 0 rfl ?_
  have h_3 : w1 116 = .inr (9, [.ref (kad G 1), .ref (kad G 117), .ref (kad G 122)]) := (hf1 116 (by decide)).trans h116
  refine k_get hC fd_X9_12 (kl hN (by decide)) h_3 rfl dX9_readStart_8 ?_
  refine k_aload_n hC dX9_readStart_11 rfl 0 rfl ?_
  refine k_get hC fd_X9_25 (kl hN (by decide)) h_3 rfl dX9_readStart_12 ?_
  refine k_sipush hC dX9_readStart_15 (by decide) ?_
  have hTco_5 := hT1
  obtain ⟨cno_5, eao_5, kdo_5, nmo_5, sao_5, nxo_5, h1o_5, -⟩ := hTco_5
  have h_6 : w1 2 = bA G 700 (fun j => sb8 (bt j)) := (hf1 2 (by decide)).trans h2
  refine k_mutV hC (c_X10_takeSigned l hls G hN w1 fl bt n st_2 3600 (by omega) hn7 hb h_6 hT1) yy_X10_takeSigned wm_X9_66 (kl hN (by decide)) h1o_5 rfl rfl rfl rfl (Nat.le_of_ble_eq_true rfl) (by decide) (by decide) ⟨by decide, by decide⟩ dX9_readStart_18 (fun w4 hp4 => ?_)
  obtain ⟨hT4, hf4⟩ := hp4
  obtain ⟨st_7, est_7⟩ : ∃ z : PS, z = sgP bt n 3600 st_2 := ⟨_, rfl⟩
  rw [← est_7] at hT4
  have hnv_8 := sgW_b (bt := bt) (n := n) (m := 3600) (st := st_2) (by omega)
  have hB_9 : kPlan G w4 117 gp nl := hP2.fr (fun j q1 q2 => (hf4 j (by omega)).trans (hf1 j (by omega)))
  refine k_put hC fd_X9_103 (kl hN (by decide)) hB_9.1 [vI (sgW bt n 3600 st_2), vI (gp 4), vI (gp 0), .ref (kad G 118), .ref (kad G 119), .ref (kad G 120), .ref (kad G 121)] rfl (Nat.le_of_ble_eq_true rfl) rfl rfl dX9_readStart_21 (fun w10 hw10 hf10 => ?_)
  refine k_aload_n hC dX9_readStart_24 rfl 0 rfl ?_
  have h_11 : w10 116 = .inr (9, [.ref (kad G 1), .ref (kad G 117), .ref (kad G 122)]) := (hf10 116 (by decide)).trans ((hf4 116 (by decide)).trans h_3)
  refine k_get hC fd_X9_12 (kl hN (by decide)) h_11 rfl dX9_readStart_25 ?_
  refine k_aload_n hC dX9_readStart_28 rfl 0 rfl ?_
  refine k_get hC fd_X9_25 (kl hN (by decide)) h_11 rfl dX9_readStart_29 ?_
  refine k_sipush hC dX9_readStart_32 (by decide) ?_
  have hB_14 : tkR G w10 bt n st_7 := hT4.fr (fun j q1 q2 => (hf10 j (by omega)))
  have hTco_13 := hB_14
  obtain ⟨cno_13, eao_13, kdo_13, nmo_13, sao_13, nxo_13, h1o_13, -⟩ := hTco_13
  have h_15 : w10 2 = bA G 700 (fun j => sb8 (bt j)) := (hf10 2 (by decide)).trans ((hf4 2 (by decide)).trans h_6)
  refine k_mutV hC (c_X10_takeSigned l hls G hN w10 fl bt n st_7 10799 (by omega) hn7 hb h_15 hB_14) yy_X10_takeSigned wm_X9_66 (kl hN (by decide)) h1o_13 rfl rfl rfl rfl (Nat.le_of_ble_eq_true rfl) (by decide) (by decide) ⟨by decide, by decide⟩ dX9_readStart_35 (fun w12 hp12 => ?_)
  obtain ⟨hT12, hf12⟩ := hp12
  obtain ⟨st_16, est_16⟩ : ∃ z : PS, z = sgP bt n 10799 st_7 := ⟨_, rfl⟩
  rw [← est_16] at hT12
  have hnv_17 := sgW_b (bt := bt) (n := n) (m := 10799) (st := st_7) (by omega)
  have h_18 : w12 117 = .inr (6, [vI (sgW bt n 3600 st_2), vI (gp 4), vI (gp 0), .ref (kad G 118), .ref (kad G 119), .ref (kad G 120), .ref (kad G 121)]) := (hf12 117 (by decide)).trans hw10
  refine k_put hC fd_X9_106 (kl hN (by decide)) h_18 [vI (sgW bt n 3600 st_2), vI (sgW bt n 10799 st_7), vI (gp 0), .ref (kad G 118), .ref (kad G 119), .ref (kad G 120), .ref (kad G 121)] rfl (Nat.le_of_ble_eq_true rfl) rfl rfl dX9_readStart_38 (fun w19 hw19 hf19 => ?_)
  have h_20 : w19 118 = iA G 6 (fun j => gp (9 + 4 * j)) := (hf19 118 (by decide)).trans ((hf12 118 (by decide)).trans ((hf10 118 (by decide)).trans hB_9.2.1))
  have h_21 : w19 119 = iA G 6 (fun j => gp (10 + 4 * j)) := (hf19 119 (by decide)).trans ((hf12 119 (by decide)).trans ((hf10 119 (by decide)).trans hB_9.2.2.1))
  have h_22 : w19 120 = iA G 6 (fun j => gp (11 + 4 * j)) := (hf19 120 (by decide)).trans ((hf12 120 (by decide)).trans ((hf10 120 (by decide)).trans hB_9.2.2.2.1))
  have h_23 : w19 121 = iA G 48 nl := (hf19 121 (by decide)).trans ((hf12 121 (by decide)).trans ((hf10 121 (by decide)).trans hB_9.2.2.2.2))
  have hB_24 : kLog G w19 122 gl := hL2.fr (fun j q1 q2 => (hf19 j (by omega)).trans ((hf12 j (by omega)).trans ((hf10 j (by omega)).trans ((hf4 j (by omega)).trans (hf1 j (by omega))))))
  have hB_25 : tkR G w19 bt n st_16 := hT12.fr (fun j q1 q2 => (hf19 j (by omega)))
  subst hQ
  exact k_vret hC hr ⟨by decide, by decide⟩ (⟨rfl, rfl, ⟨kup (kup gp 3 (sgW bt n 3600 st_2)) 4 (sgW bt n 10799 st_7), gl, nl, ⟨planO_of hw19 rfl rfl rfl, h_20.trans (iA_congr (fun j hj => (by unfold kup; rw [if_neg (by omega), if_neg (by omega)]))), h_21.trans (iA_congr (fun j hj => (by unfold kup; rw [if_neg (by omega), if_neg (by omega)]))), h_22.trans (iA_congr (fun j hj => (by unfold kup; rw [if_neg (by omega), if_neg (by omega)]))), h_23⟩, hB_24, fun hc => by rw [← est_2, ← est_7] at hc ⊢; rw [← sgW_0 hc, ← sgW_0 (m := 3600) (st := st_2) (by rw [← est_7]; exact ok1 hc)]; exact ⟨hE.pl (Or.inl rfl) (Or.inr rfl) (by decide) _ _, hNm.hd (fun j hj => by unfold setM; rw [if_neg (by omega), if_neg (by omega)]) hI⟩⟩, (by have e : st_16 = sgP bt n 10799 (sgP bt n 3600 (adP bt n st)) := (by rw [est_16, est_7, est_2]); rw [← e]; exact hB_25), fun j hj => (hf19 j (by omega)).trans ((hf12 j (by omega)).trans ((hf10 j (by omega)).trans ((hf4 j (by omega)).trans (hf1 j (by omega)))))⟩) dX9_readStart_41

theorem bd_dat {bt gp gl nl D : Nat → Int} {n b : Nat} {a : PS} {x y : Int} (hE : gE (copyLM gp gl) D) (hI : Inv D) (hN : NmR D nl) (hb : D 0 = (b : Int)) (hb6 : b < 6) (hnm : isNm bt n a) (hs : a.2.2 ≤ enM bt n a.2.2) (gp1 : Nat → Int) (e0 : gp1 0 = gp 0 + 1) (ed : gp1 (9 + 4 * b) = x) (ea : gp1 (10 + 4 * b) = y) (el : gp1 (11 + 4 * b) = (enM bt n a.2.2 : Int) - (a.2.2 : Int)) (eo : ∀ j, j ≠ 0 → (j < 9 + 4 * b ∨ 12 + 4 * b ≤ j) → gp1 j = gp j) :
    gE (copyLM gp1 gl) (bodyD D x y ((enM bt n a.2.2 : Int) - (a.2.2 : Int)) (nmM bt n a.2.2)) ∧ NmR (bodyD D x y ((enM bt n a.2.2 : Int) - (a.2.2 : Int)) (nmM bt n a.2.2)) (nlP nl bt b a.2.2 (enM bt n a.2.2 - a.2.2)) := by
  have h0 := hI.c
  have hb2 : (D 0).toNat = b := by omega
  have hg0 : gp 0 = D 0 := hE.1 0 (by decide)
  have d0 : ∀ l nm, bodyD D x y l nm 0 = D 0 + 1 := fun _ _ => rfl
  have d9 : ∀ l nm, bodyD D x y l nm (9 + 4 * b) = x := fun l nm => by unfold bodyD; rw [hb2, if_neg (by omega), if_pos rfl]
  have d10 : ∀ l nm, bodyD D x y l nm (10 + 4 * b) = y := fun l nm => by unfold bodyD; rw [hb2, if_neg (by omega), if_neg (by omega), if_pos rfl]
  have d11 : ∀ l nm, bodyD D x y l nm (11 + 4 * b) = l := fun l nm => by unfold bodyD; rw [hb2, if_neg (by omega), if_neg (by omega), if_neg (by omega), if_pos rfl]
  have d12 : ∀ l nm, bodyD D x y l nm (12 + 4 * b) = nm := fun l nm => by unfold bodyD; rw [hb2, if_neg (by omega), if_neg (by omega), if_neg (by omega), if_neg (by omega), if_pos rfl]
  have dn : ∀ l nm j, j ≠ 0 → (j < 9 + 4 * b ∨ 13 + 4 * b ≤ j) → bodyD D x y l nm j = D j := fun l nm j q1 q2 => bodyD_o q1 (by omega)
  generalize hL : (enM bt n a.2.2 : Int) - (a.2.2 : Int) = L at *
  generalize hM : nmM bt n a.2.2 = N at *
  have c0 : copyLM gp1 gl 0 = gp 0 + 1 := e0
  refine ⟨⟨fun j hj => ?_, fun k q hk hq => ?_, fun k q hk hq => ?_, fun k q hk hq => ?_⟩, fun k hk => ?_⟩
  · by_cases hz : j = 0
    · subst hz; rw [c0, d0, hg0]
    · rw [dn _ _ _ hz (by omega), ← hE.1 j hj]
      by_cases hl : j = 1 ∨ j = 2 ∨ (5 ≤ j ∧ j ≤ 8) ∨ 33 ≤ j
      · rw [copyLM_l hl, copyLM_l hl]
      · rw [copyLM_p hl, copyLM_p hl]; exact eo j hz (by omega)
  · rw [c0] at hk
    rw [copyLM_p (by omega)]
    by_cases hkb : k = b
    · subst hkb
      have hq3 : q = 0 ∨ q = 1 ∨ q = 2 := by omega
      rcases hq3 with h | h | h
      · subst h; rw [show 9 + 0 + 4 * k = 9 + 4 * k by omega, ed, d9]
      · subst h; rw [show 9 + 1 + 4 * k = 10 + 4 * k by omega, ea, d10]
      · subst h; rw [show 9 + 2 + 4 * k = 11 + 4 * k by omega, el, d11]
    · rw [dn _ _ _ (by omega) (by omega), eo _ (by omega) (by omega), ← hE.2.1 k q (by show (k : Int) < gp 0; omega) hq, copyLM_p (by omega)]
  · have := hE.2.2.1 k q hk hq
    rw [dn _ _ _ (by omega) (by omega), ← this, copyLM_l (by omega), copyLM_l (by omega)]
  · have := hE.2.2.2 k q hk hq
    rw [dn _ _ _ (by omega) (by omega), ← this, copyLM_l (by omega), copyLM_l (by omega)]
  · rw [d0] at hk
    by_cases hkb : k = b
    · subst hkb
      rw [d12, d11]
      have hl := let_in hnm.2.1
      refine ⟨?_, fun i hi => ?_⟩
      · rw [← hM]; unfold nmM
        rw [show enM bt n a.2.2 - a.2.2 = L.toNat by omega]
        exact nmG_congr _ (fun i hi => by
          unfold nlP; rw [if_pos (by omega)]; exact congrArg bt (by omega))
      · unfold nlP; rw [if_pos (by omega), show a.2.2 + (8 * k + i - 8 * k) = a.2.2 + i by omega]; exact isLt_1.mp (hl i (by omega))
    · rw [dn _ _ _ (by omega) (by omega), dn _ _ _ (by omega) (by omega)]
      obtain ⟨q1, q2⟩ := hN k (by omega)
      have h9 := (hI.body k (by omega)).2.2
      have e : ∀ i : Nat, (i : Int) < D (11 + 4 * k) → nlP nl bt b a.2.2 (enM bt n a.2.2 - a.2.2) (8 * k + i) = nl (8 * k + i) := fun i hi => by
        unfold nlP; rw [if_neg (by omega)]
      exact ⟨by rw [q1]; exact nmG_congr _ (fun i hi => (e i (by omega)).symm), fun i hi => by rw [e i hi]; exact q2 i hi⟩
set_option maxRecDepth 100000 in
set_option maxHeartbeats 4000000 in
theorem c_X9_readBody (l : Launch) (hls : l.stackTraces = false) (G : kG) (hN : 133 ≤ kN G) (w : Nat → va_E) (fl : va_W) (bt gp gl nl D : Nat → Int) (n : Nat) (st : PS) (hn7 : n ≤ 700) (hb : btOK bt) (h2 : w 2 = byA G bt) (hT : tkR G w bt n st) (hz : st.1 = 0) (h116 : w 116 = trO G) (hE : gE (copyLM gp gl) D) (hI : Inv D) (hNm : NmR D nl) (hP2 : kPlan G w 117 gp nl) (hL2 : kLog G w 122 gl) : KM l G yX9_readBody cX9_readBody 2 (none) 4 0 0 [.ref (kad G 116)] w fl (kMuv fl (fun w1 => (∃ gp1 gl1 nl1 : Nat → Int, kPlan G w1 117 gp1 nl1 ∧ kLog G w1 122 gl1 ∧ ((clBodyS bt n D st).1 = 0 → gE (copyLM gp1 gl1) (clBodyD bt n D st) ∧ NmR (clBodyD bt n D st) nl1)) ∧ tkR G w1 bt n (clBodyS bt n D st) ∧ ∀ j, ((j < 117 ∨ 128 < j) ∧ j ≠ 1) → w1 j = w j)) := by
  refine KM_of2 hls (by decide +kernel) rfl (lv0 := [(0, .ref (kad G 116))]) rfl (Nat.le_of_ble_eq_true rfl) (fun p e R s m args below meth c Q hC hr hQ => ?_)
  have h0 := hI.c
  have hd0 : gp 0 = D 0 := hE.1 0 (by decide)
  have hd1 : gl 1 = D 1 := hE.1 1 (by decide)
  have hd2 : gl 2 = D 2 := hE.1 2 (by decide)
  obtain ⟨b, hb0⟩ : ∃ z : Nat, D 0 = (z : Int) := ⟨(D 0).toNat, by omega⟩
  refine k_aload_n hC dX9_readBody_0 rfl 0 rfl ?_
  refine k_get hC fd_X9_12 (kl hN (by decide)) h116 rfl dX9_readBody_1 ?_
  refine k_get hC fd_X9_109 (kl hN (by decide)) hP2.1 rfl dX9_readBody_4 ?_
  refine k_topv (vI ((b : Int))) (congrArg vI (by omega)) ?_
  refine k_istore_n hC [(1, vI (b : Int)), (0, .ref (kad G 116))] dX9_readBody_7 rfl (by decide) rfl ?_
  refine k_iload_n hC dX9_readBody_8 rfl 0 rfl ?_
  refine k_bipush hC dX9_readBody_9 (by decide) ?_
  refine k_icmp_lt hC 23 dX9_readBody_11 rfl (by omega) (by omega) (fun c_11 => ?_) (fun c_11 => ?_)
  · refine k_aload_n hC dX9_readBody_23 rfl 1 rfl ?_
    refine k_get hC fd_X9_25 (kl hN (by decide)) h116 rfl dX9_readBody_24 ?_
    obtain ⟨cn1, ea1, kd1, nm1, sa1, p91, hp91, h11, hadv1⟩ := tk_open hT
    refine k_muvV hC (c_X10_advance l hls G hN w fl bt n p91 cn1 st.1 ea1 kd1 nm1 sa1 hn7 hp91 hb h2 h11) yy_X10_advance wm_X9_53 (kl hN (by decide)) h11 rfl rfl rfl rfl (Nat.le_of_ble_eq_true rfl) (by decide) (by decide) ⟨by decide, by decide⟩ dX9_readBody_27 (fun w1 hp1 => ?_)
    obtain ⟨hq1, hf1⟩ := hp1
    have hT1 := hadv1 _ hq1
    obtain ⟨st_2, est_2⟩ : ∃ z : PS, z = adP bt n st := ⟨_, rfl⟩
    rw [← est_2] at hT1
    have hle1 := (hT1).le
    refine k_aload_n hC dX9_readBody_30 rfl 1 rfl ?_
    have h_3 : w1 116 = .inr (9, [.ref (kad G 1), .ref (kad G 117), .ref (kad G 122)]) := (hf1 116 (by decide)).trans h116
    refine k_get hC fd_X9_25 (kl hN (by decide)) h_3 rfl dX9_readBody_31 ?_
    have hTco_4 := hT1
    obtain ⟨cno_4, eao_4, kdo_4, nmo_4, sao_4, nxo_4, h1o_4, -⟩ := hTco_4
    have h_5 : w1 2 = bA G 700 (fun j => sb8 (bt j)) := (hf1 2 (by decide)).trans h2
    refine k_pureV hC (c_X10_isAnyWord l hls G hN w1 fl bt n st_2  hn7 hb h_5 hT1) yy_X10_isAnyWord wm_X9_112 (kl hN (by decide)) h1o_4 rfl rfl rfl rfl (Nat.le_of_ble_eq_true rfl) (by decide) (by decide) ⟨by decide, by decide⟩ dX9_readBody_34 ?_
    obtain ⟨z_6, ez_6, hz_6⟩ := selI_c (st_2.1 = 0 ∧ kdM bt n st_2.2.2 = 1)
    refine k_topv (vI z_6) (by rw [ez_6]) ?_
    refine k_if_eq hC 52 dX9_readBody_37 rfl (by omega) (fun c_37 => ?_) (fun c_37 => ?_)
    · have nnm : ¬ isNm bt n st_2 := fun q => (hz_6.resolve_left (fun q1 => by omega)).2 ⟨q.1, q.2.1⟩
      refine k_aload_n hC dX9_readBody_52 rfl 1 rfl ?_
      refine k_get hC fd_X9_25 (kl hN (by decide)) h_3 rfl dX9_readBody_53 ?_
      refine k_iconst hC dX9_readBody_56 ?_
      refine k_muvV hC (c_X10_fail l hls G hN w1 fl bt n st_2 1 (by omega) hn7 hb h_5 hT1) yy_X10_fail wm_X9_95 (kl hN (by decide)) h1o_4 rfl rfl rfl rfl (Nat.le_of_ble_eq_true rfl) (by decide) (by decide) ⟨by decide, by decide⟩ dX9_readBody_57 (fun w7 hp7 => ?_)
      obtain ⟨hT7, hf7⟩ := hp7
      obtain ⟨st_8, est_8⟩ : ∃ z : PS, z = flP 1 st_2 := ⟨_, rfl⟩
      rw [← est_8] at hT7
      refine k_goto hC 101 dX9_readBody_60 rfl ?_
      refine k_aload_n hC dX9_readBody_101 rfl 1 rfl ?_
      have h_9 : w7 116 = .inr (9, [.ref (kad G 1), .ref (kad G 117), .ref (kad G 122)]) := (hf7 116 (by decide)).trans h_3
      refine k_get hC fd_X9_25 (kl hN (by decide)) h_9 rfl dX9_readBody_102 ?_
      obtain ⟨cn10, ea10, kd10, nm10, sa10, p910, hp910, h110, hadv10⟩ := tk_open hT7
      have h_11 : w7 2 = bA G 700 (fun j => sb8 (bt j)) := (hf7 2 (by decide)).trans h_5
      refine k_muvV hC (c_X10_advance l hls G hN w7 fl bt n p910 cn10 st_8.1 ea10 kd10 nm10 sa10 hn7 hp910 hb h_11 h110) yy_X10_advance wm_X9_53 (kl hN (by decide)) h110 rfl rfl rfl rfl (Nat.le_of_ble_eq_true rfl) (by decide) (by decide) ⟨by decide, by decide⟩ dX9_readBody_105 (fun w10 hp10 => ?_)
      obtain ⟨hq10, hf10⟩ := hp10
      have hT10 := hadv10 _ hq10
      obtain ⟨st_12, est_12⟩ : ∃ z : PS, z = adP bt n st_8 := ⟨_, rfl⟩
      rw [← est_12] at hT10
      refine k_aload_n hC dX9_readBody_108 rfl 1 rfl ?_
      have h_13 : w10 116 = .inr (9, [.ref (kad G 1), .ref (kad G 117), .ref (kad G 122)]) := (hf10 116 (by decide)).trans h_9
      refine k_get hC fd_X9_12 (kl hN (by decide)) h_13 rfl dX9_readBody_109 ?_
      have h_14 : w10 117 = .inr (6, [vI (gp 3), vI (gp 4), vI (gp 0), .ref (kad G 118), .ref (kad G 119), .ref (kad G 120), .ref (kad G 121)]) := (hf10 117 (by decide)).trans ((hf7 117 (by decide)).trans ((hf1 117 (by decide)).trans hP2.1))
      refine k_get hC fd_X9_127 (kl hN (by decide)) h_14 rfl dX9_readBody_112 ?_
      refine k_iload_n hC dX9_readBody_115 rfl 0 rfl ?_
      refine k_aload_n hC dX9_readBody_116 rfl 1 rfl ?_
      refine k_get hC fd_X9_25 (kl hN (by decide)) h_13 rfl dX9_readBody_117 ?_
      refine k_sipush hC dX9_readBody_120 (by decide) ?_
      have hTco_16 := hT10
      obtain ⟨cno_16, eao_16, kdo_16, nmo_16, sao_16, nxo_16, h1o_16, -⟩ := hTco_16
      have h_17 : w10 2 = bA G 700 (fun j => sb8 (bt j)) := (hf10 2 (by decide)).trans h_11
      refine k_mutV hC (c_X10_takeSigned l hls G hN w10 fl bt n st_12 3600 (by omega) hn7 hb h_17 hT10) yy_X10_takeSigned wm_X9_66 (kl hN (by decide)) h1o_16 rfl rfl rfl rfl (Nat.le_of_ble_eq_true rfl) (by decide) (by decide) ⟨by decide, by decide⟩ dX9_readBody_123 (fun w15 hp15 => ?_)
      obtain ⟨hT15, hf15⟩ := hp15
      obtain ⟨st_18, est_18⟩ : ∃ z : PS, z = sgP bt n 3600 st_12 := ⟨_, rfl⟩
      rw [← est_18] at hT15
      have hnv_19 := sgW_b (bt := bt) (n := n) (m := 3600) (st := st_12) (by omega)
      have hB_20 : kPlan G w15 117 gp nl := hP2.fr (fun j q1 q2 => (hf15 j (by omega)).trans ((hf10 j (by omega)).trans ((hf7 j (by omega)).trans (hf1 j (by omega)))))
      refine k_muvSN hC (c_X11_put l hls G hN w15 fl 118 (b : Int) (sgW bt n 3600 st_12) 6 (fun j => gp (9 + 4 * j)) (by decide) (by omega) (by decide) hB_20.2.1) yy_X11_put wm_X9_131 rfl rfl (Nat.le_of_ble_eq_true rfl) (by decide) (by decide) ⟨by decide, by decide⟩ dX9_readBody_126 (fun w21 hp21 => ?_)
      obtain ⟨hw21, hf21⟩ := hp21
      refine k_aload_n hC dX9_readBody_129 rfl 1 rfl ?_
      have h_22 : w21 116 = .inr (9, [.ref (kad G 1), .ref (kad G 117), .ref (kad G 122)]) := (hf21 116 (by decide)).trans ((hf15 116 (by decide)).trans h_13)
      refine k_get hC fd_X9_12 (kl hN (by decide)) h_22 rfl dX9_readBody_130 ?_
      have h_23 : w21 117 = .inr (6, [vI (gp 3), vI (gp 4), vI (gp 0), .ref (kad G 118), .ref (kad G 119), .ref (kad G 120), .ref (kad G 121)]) := (hf21 117 (by decide)).trans ((hf15 117 (by decide)).trans h_14)
      refine k_get hC fd_X9_135 (kl hN (by decide)) h_23 rfl dX9_readBody_133 ?_
      refine k_iload_n hC dX9_readBody_136 rfl 0 rfl ?_
      refine k_aload_n hC dX9_readBody_137 rfl 1 rfl ?_
      refine k_get hC fd_X9_25 (kl hN (by decide)) h_22 rfl dX9_readBody_138 ?_
      refine k_iconst hC dX9_readBody_141 ?_
      refine k_sipush hC dX9_readBody_142 (by decide) ?_
      have hB_26 : tkR G w21 bt n st_18 := hT15.fr (fun j q1 q2 => (hf21 j (by omega)))
      have hTco_25 := hB_26
      obtain ⟨cno_25, eao_25, kdo_25, nmo_25, sao_25, nxo_25, h1o_25, -⟩ := hTco_25
      have h_27 : w21 2 = bA G 700 (fun j => sb8 (bt j)) := (hf21 2 (by decide)).trans ((hf15 2 (by decide)).trans h_17)
      refine k_mutV hC (c_X10_takeNumber l hls G hN w21 fl bt n st_18 0 21599 (by omega) (by omega) hn7 hb h_27 hB_26) yy_X10_takeNumber wm_X9_56 (kl hN (by decide)) h1o_25 rfl rfl rfl rfl (Nat.le_of_ble_eq_true rfl) (by decide) (by decide) ⟨by decide, by decide⟩ dX9_readBody_145 (fun w24 hp24 => ?_)
      obtain ⟨hT24, hf24⟩ := hp24
      obtain ⟨st_28, est_28⟩ : ∃ z : PS, z = tkP bt n 0 21599 st_18 := ⟨_, rfl⟩
      rw [← est_28] at hT24
      have hnv_29 := nhV_b (bt := bt) (n := n) (lo := 0) (hi := 21599) (st := st_18) (by omega) (by omega)
      have h_30 : w24 119 = iA G 6 (fun j => gp (10 + 4 * j)) := (hf24 119 (by decide)).trans ((hf21 119 (by decide)).trans hB_20.2.2.1)
      refine k_muvSN hC (c_X11_put l hls G hN w24 fl 119 (b : Int) (nhV bt n 0 21599 st_18) 6 (fun j => gp (10 + 4 * j)) (by decide) (by omega) (by decide) h_30) yy_X11_put wm_X9_131 rfl rfl (Nat.le_of_ble_eq_true rfl) (by decide) (by decide) ⟨by decide, by decide⟩ dX9_readBody_148 (fun w31 hp31 => ?_)
      obtain ⟨hw31, hf31⟩ := hp31
      refine k_aload_n hC dX9_readBody_151 rfl 1 rfl ?_
      have h_32 : w31 116 = .inr (9, [.ref (kad G 1), .ref (kad G 117), .ref (kad G 122)]) := (hf31 116 (by decide)).trans ((hf24 116 (by decide)).trans h_22)
      refine k_get hC fd_X9_12 (kl hN (by decide)) h_32 rfl dX9_readBody_152 ?_
      refine k_dup hC dX9_readBody_155 rfl ?_
      have h_33 : w31 117 = .inr (6, [vI (gp 3), vI (gp 4), vI (gp 0), .ref (kad G 118), .ref (kad G 119), .ref (kad G 120), .ref (kad G 121)]) := (hf31 117 (by decide)).trans ((hf24 117 (by decide)).trans h_23)
      refine k_get hC fd_X9_109 (kl hN (by decide)) h_33 rfl dX9_readBody_156 ?_
      refine k_iconst hC dX9_readBody_159 ?_
      refine k_iadd hC dX9_readBody_160 ?_
      refine k_put hC fd_X9_109 (kl hN (by decide)) h_33 [vI (gp 3), vI (gp 4), vI ((gp 0) + 1), .ref (kad G 118), .ref (kad G 119), .ref (kad G 120), .ref (kad G 121)] rfl (Nat.le_of_ble_eq_true rfl) rfl rfl dX9_readBody_161 (fun w34 hw34 hf34 => ?_)
      have h_35 : w34 118 = iA G 6 (kup (fun j => gp (9 + 4 * j)) ((b : Int)).toNat (sgW bt n 3600 st_12)) := (hf34 118 (by decide)).trans ((hf31 118 (by decide)).trans ((hf24 118 (by decide)).trans hw21))
      have h_36 : w34 119 = iA G 6 (kup (fun j => gp (10 + 4 * j)) ((b : Int)).toNat (nhV bt n 0 21599 st_18)) := (hf34 119 (by decide)).trans hw31
      have h_37 : w34 120 = iA G 6 (fun j => gp (11 + 4 * j)) := (hf34 120 (by decide)).trans ((hf31 120 (by decide)).trans ((hf24 120 (by decide)).trans ((hf21 120 (by decide)).trans hB_20.2.2.2.1)))
      have h_38 : w34 121 = iA G 48 nl := (hf34 121 (by decide)).trans ((hf31 121 (by decide)).trans ((hf24 121 (by decide)).trans ((hf21 121 (by decide)).trans hB_20.2.2.2.2)))
      have hB_39 : kLog G w34 122 gl := hL2.fr (fun j q1 q2 => (hf34 j (by omega)).trans ((hf31 j (by omega)).trans ((hf24 j (by omega)).trans ((hf21 j (by omega)).trans ((hf15 j (by omega)).trans ((hf10 j (by omega)).trans ((hf7 j (by omega)).trans (hf1 j (by omega)))))))))
      have hB_40 : tkR G w34 bt n st_28 := hT24.fr (fun j q1 q2 => (hf34 j (by omega)).trans (hf31 j (by omega)))
      subst hQ
      exact k_vret hC hr ⟨by decide, by decide⟩ (⟨rfl, rfl, ⟨kup (kup (kup (gp) (9 + 4 * b) (sgW bt n 3600 st_12)) (10 + 4 * b) (nhV bt n 0 21599 st_18)) 0 (gp 0 + 1), gl, nl, ⟨planO_of hw34 (by simp only [kup]; repeat (first | omega | rfl | split | (congr 1; omega))) (by simp only [kup]; repeat (first | omega | rfl | split | (congr 1; omega))) (by simp only [kup]; repeat (first | omega | rfl | split | (congr 1; omega))), h_35.trans (iA_congr (fun j hj => (by simp only [kup]; repeat (first | omega | rfl | split | (congr 1; omega))))), h_36.trans (iA_congr (fun j hj => (by simp only [kup]; repeat (first | omega | rfl | split | (congr 1; omega))))), h_37.trans (iA_congr (fun j hj => (by simp only [kup]; repeat (first | omega | rfl | split | (congr 1; omega))))), h_38⟩, hB_39, fun hc => absurd hc (by have hq : st_28 = clBodyS bt n D st := (by unfold clBodyS; rw [selP_0 (by omega), ← est_2]; have hbb : bdB bt n D st_2 = st_8 := (by rw [est_8]; unfold bdB; rw [selP_0 nnm]); rw [hbb, est_28, est_18, est_12]); rw [← hq, est_28, est_18, est_12, est_8, tkP_e (by rw [sgP_e (by rw [adP_e (fl_c (by decide))]; exact fl_c (by decide)), adP_e (fl_c (by decide))]; exact fl_c (by decide)), sgP_e (by rw [adP_e (fl_c (by decide))]; exact fl_c (by decide)), adP_e (fl_c (by decide))]; exact fl_c (by decide))⟩, (by have e : st_28 = clBodyS bt n D st := (by unfold clBodyS; rw [selP_0 (by omega), ← est_2]; have hbb : bdB bt n D st_2 = st_8 := (by rw [est_8]; unfold bdB; rw [selP_0 nnm]); rw [hbb, est_28, est_18, est_12]); rw [← e]; exact hB_40), fun j hj => (hf34 j (by omega)).trans ((hf31 j (by omega)).trans ((hf24 j (by omega)).trans ((hf21 j (by omega)).trans ((hf15 j (by omega)).trans ((hf10 j (by omega)).trans ((hf7 j (by omega)).trans (hf1 j (by omega))))))))⟩) dX9_readBody_164
    · refine k_aload_n hC dX9_readBody_40 rfl 1 rfl ?_
      refine k_get hC fd_X9_25 (kl hN (by decide)) h_3 rfl dX9_readBody_41 ?_
      refine k_pureV hC (c_X10_wordLength l hls G hN w1 fl bt n st_2 hn7 hb h_5 hT1) yy_X10_wordLength wm_X9_115 (kl hN (by decide)) h1o_4 rfl rfl rfl rfl (Nat.le_of_ble_eq_true rfl) (by decide) (by decide) ⟨by decide, by decide⟩ dX9_readBody_44 ?_
      have hwx_41 : (st_2.1 = 0 ∧ kdM bt n st_2.2.2 = 1) → wlM bt n st_2 = (enM bt n st_2.2.2 : Int) - (st_2.2.2 : Int) := fun q => selI_1 q
      have hwx_42 : ¬ (st_2.1 = 0 ∧ kdM bt n st_2.2.2 = 1) → wlM bt n st_2 = 0 := fun q => selI_0 q
      have hwl_43 := wlM_b (bt := bt) (n := n) (st := st_2) (by have := hT1; obtain ⟨_, _, _, _, _, _, _, _, hz, _⟩ := this; exact fun q => (hz q).1)
      refine k_bipush hC dX9_readBody_47 (by decide) ?_
      refine k_icmp_le hC 63 dX9_readBody_49 rfl (by omega) (by omega) (fun c_49 => ?_) (fun c_49 => ?_)
      · have hq9 := hz_6.resolve_right (fun q1 => by omega)
        have hnm : isNm bt n st_2 := ⟨hq9.2.1, hq9.2.2, by have := selI_1 (x := ((enM bt n st_2.2.2 : Int) - (st_2.2.2 : Int))) (y := 0) hq9.2; unfold wlM at c_49; rw [this] at c_49; omega⟩
        refine k_aload_n hC dX9_readBody_63 rfl 1 rfl ?_
        refine k_get hC fd_X9_12 (kl hN (by decide)) h_3 rfl dX9_readBody_64 ?_
        refine k_aload_n hC dX9_readBody_67 rfl 1 rfl ?_
        refine k_get hC fd_X9_25 (kl hN (by decide)) h_3 rfl dX9_readBody_68 ?_
        have h_44 : w1 117 = .inr (6, [vI (gp 3), vI (gp 4), vI (gp 0), .ref (kad G 118), .ref (kad G 119), .ref (kad G 120), .ref (kad G 121)]) := (hf1 117 (by decide)).trans hP2.1
        have hB_45 : kPlan G w1 117 gp nl := hP2.fr (fun j q1 q2 => (hf1 j (by omega)))
        refine k_pureV hC (c_X6_bodyNamed l hls G hN w1 fl bt gp gl nl D n st_2 hn7 hb h_5 hT1 hE hI hNm hB_45) yy_X6_bodyNamed wm_X9_119 (kl hN (by decide)) h_44 rfl rfl rfl rfl (Nat.le_of_ble_eq_true rfl) (by decide) (by decide) ⟨by decide, by decide⟩ dX9_readBody_71 ?_
        have hbm_46 := bdM_b (bt := bt) (n := n) (st := st_2) hI
        refine k_iconst hC dX9_readBody_74 ?_
        refine k_icmp_eq hC 89 dX9_readBody_75 rfl (by omega) (by omega) (fun c_75 => ?_) (fun c_75 => ?_)
        · refine k_aload_n hC dX9_readBody_89 rfl 1 rfl ?_
          refine k_get hC fd_X9_12 (kl hN (by decide)) h_3 rfl dX9_readBody_90 ?_
          refine k_iload_n hC dX9_readBody_93 rfl 0 rfl ?_
          refine k_aload_n hC dX9_readBody_94 rfl 1 rfl ?_
          refine k_get hC fd_X9_25 (kl hN (by decide)) h_3 rfl dX9_readBody_95 ?_
          refine k_muvV hC (c_X6_putName l hls G hN w1 fl bt gp nl n st_2 b (by omega) hnm hn7 hb h_5 hT1 hB_45) yy_X6_putName wm_X9_123 (kl hN (by decide)) h_44 rfl rfl rfl rfl (Nat.le_of_ble_eq_true rfl) (by decide) (by decide) ⟨by decide, by decide⟩ dX9_readBody_98 (fun w47 hp47 => ?_)
          obtain ⟨hP47, hf47⟩ := hp47
          refine k_aload_n hC dX9_readBody_101 rfl 1 rfl ?_
          have h_48 : w47 116 = .inr (9, [.ref (kad G 1), .ref (kad G 117), .ref (kad G 122)]) := (hf47 116 (by omega)).trans h_3
          refine k_get hC fd_X9_25 (kl hN (by decide)) h_48 rfl dX9_readBody_102 ?_
          have hB_50 : tkR G w47 bt n st_2 := hT1.fr (fun j q1 q2 => (hf47 j (by omega)))
          obtain ⟨cn49, ea49, kd49, nm49, sa49, p949, hp949, h149, hadv49⟩ := tk_open hB_50
          have h_51 : w47 2 = bA G 700 (fun j => sb8 (bt j)) := (hf47 2 (by omega)).trans h_5
          refine k_muvV hC (c_X10_advance l hls G hN w47 fl bt n p949 cn49 st_2.1 ea49 kd49 nm49 sa49 hn7 hp949 hb h_51 h149) yy_X10_advance wm_X9_53 (kl hN (by decide)) h149 rfl rfl rfl rfl (Nat.le_of_ble_eq_true rfl) (by decide) (by decide) ⟨by decide, by decide⟩ dX9_readBody_105 (fun w49 hp49 => ?_)
          obtain ⟨hq49, hf49⟩ := hp49
          have hT49 := hadv49 _ hq49
          obtain ⟨st_52, est_52⟩ : ∃ z : PS, z = adP bt n st_2 := ⟨_, rfl⟩
          rw [← est_52] at hT49
          refine k_aload_n hC dX9_readBody_108 rfl 1 rfl ?_
          have h_53 : w49 116 = .inr (9, [.ref (kad G 1), .ref (kad G 117), .ref (kad G 122)]) := (hf49 116 (by decide)).trans h_48
          refine k_get hC fd_X9_12 (kl hN (by decide)) h_53 rfl dX9_readBody_109 ?_
          have hB_54 : kPlan G w49 117 (kup gp (11 + 4 * b) ((enM bt n st_2.2.2 : Int) - (st_2.2.2 : Int))) (nlP nl bt b st_2.2.2 (enM bt n st_2.2.2 - st_2.2.2)) := hP47.fr (fun j q1 q2 => (hf49 j (by omega)))
          refine k_get hC fd_X9_127 (kl hN (by decide)) hB_54.1 rfl dX9_readBody_112 ?_
          refine k_iload_n hC dX9_readBody_115 rfl 0 rfl ?_
          refine k_aload_n hC dX9_readBody_116 rfl 1 rfl ?_
          refine k_get hC fd_X9_25 (kl hN (by decide)) h_53 rfl dX9_readBody_117 ?_
          refine k_sipush hC dX9_readBody_120 (by decide) ?_
          have hTco_56 := hT49
          obtain ⟨cno_56, eao_56, kdo_56, nmo_56, sao_56, nxo_56, h1o_56, -⟩ := hTco_56
          have h_57 : w49 2 = bA G 700 (fun j => sb8 (bt j)) := (hf49 2 (by decide)).trans h_51
          refine k_mutV hC (c_X10_takeSigned l hls G hN w49 fl bt n st_52 3600 (by omega) hn7 hb h_57 hT49) yy_X10_takeSigned wm_X9_66 (kl hN (by decide)) h1o_56 rfl rfl rfl rfl (Nat.le_of_ble_eq_true rfl) (by decide) (by decide) ⟨by decide, by decide⟩ dX9_readBody_123 (fun w55 hp55 => ?_)
          obtain ⟨hT55, hf55⟩ := hp55
          obtain ⟨st_58, est_58⟩ : ∃ z : PS, z = sgP bt n 3600 st_52 := ⟨_, rfl⟩
          rw [← est_58] at hT55
          have hnv_59 := sgW_b (bt := bt) (n := n) (m := 3600) (st := st_52) (by omega)
          have hB_60 : kPlan G w55 117 (kup gp (11 + 4 * b) ((enM bt n st_2.2.2 : Int) - (st_2.2.2 : Int))) (nlP nl bt b st_2.2.2 (enM bt n st_2.2.2 - st_2.2.2)) := hB_54.fr (fun j q1 q2 => (hf55 j (by omega)))
          refine k_muvSN hC (c_X11_put l hls G hN w55 fl 118 (b : Int) (sgW bt n 3600 st_52) 6 (fun j => (kup gp (11 + 4 * b) ((enM bt n st_2.2.2 : Int) - (st_2.2.2 : Int))) (9 + 4 * j)) (by decide) (by omega) (by decide) hB_60.2.1) yy_X11_put wm_X9_131 rfl rfl (Nat.le_of_ble_eq_true rfl) (by decide) (by decide) ⟨by decide, by decide⟩ dX9_readBody_126 (fun w61 hp61 => ?_)
          obtain ⟨hw61, hf61⟩ := hp61
          refine k_aload_n hC dX9_readBody_129 rfl 1 rfl ?_
          have h_62 : w61 116 = .inr (9, [.ref (kad G 1), .ref (kad G 117), .ref (kad G 122)]) := (hf61 116 (by decide)).trans ((hf55 116 (by decide)).trans h_53)
          refine k_get hC fd_X9_12 (kl hN (by decide)) h_62 rfl dX9_readBody_130 ?_
          have h_63 : w61 117 = .inr (6, [vI ((kup gp (11 + 4 * b) ((enM bt n st_2.2.2 : Int) - (st_2.2.2 : Int))) 3), vI ((kup gp (11 + 4 * b) ((enM bt n st_2.2.2 : Int) - (st_2.2.2 : Int))) 4), vI ((kup gp (11 + 4 * b) ((enM bt n st_2.2.2 : Int) - (st_2.2.2 : Int))) 0), .ref (kad G 118), .ref (kad G 119), .ref (kad G 120), .ref (kad G 121)]) := (hf61 117 (by decide)).trans ((hf55 117 (by decide)).trans hB_54.1)
          refine k_get hC fd_X9_135 (kl hN (by decide)) h_63 rfl dX9_readBody_133 ?_
          refine k_iload_n hC dX9_readBody_136 rfl 0 rfl ?_
          refine k_aload_n hC dX9_readBody_137 rfl 1 rfl ?_
          refine k_get hC fd_X9_25 (kl hN (by decide)) h_62 rfl dX9_readBody_138 ?_
          refine k_iconst hC dX9_readBody_141 ?_
          refine k_sipush hC dX9_readBody_142 (by decide) ?_
          have hB_66 : tkR G w61 bt n st_58 := hT55.fr (fun j q1 q2 => (hf61 j (by omega)))
          have hTco_65 := hB_66
          obtain ⟨cno_65, eao_65, kdo_65, nmo_65, sao_65, nxo_65, h1o_65, -⟩ := hTco_65
          have h_67 : w61 2 = bA G 700 (fun j => sb8 (bt j)) := (hf61 2 (by decide)).trans ((hf55 2 (by decide)).trans h_57)
          refine k_mutV hC (c_X10_takeNumber l hls G hN w61 fl bt n st_58 0 21599 (by omega) (by omega) hn7 hb h_67 hB_66) yy_X10_takeNumber wm_X9_56 (kl hN (by decide)) h1o_65 rfl rfl rfl rfl (Nat.le_of_ble_eq_true rfl) (by decide) (by decide) ⟨by decide, by decide⟩ dX9_readBody_145 (fun w64 hp64 => ?_)
          obtain ⟨hT64, hf64⟩ := hp64
          obtain ⟨st_68, est_68⟩ : ∃ z : PS, z = tkP bt n 0 21599 st_58 := ⟨_, rfl⟩
          rw [← est_68] at hT64
          have hnv_69 := nhV_b (bt := bt) (n := n) (lo := 0) (hi := 21599) (st := st_58) (by omega) (by omega)
          have h_70 : w64 119 = iA G 6 (fun j => (kup gp (11 + 4 * b) ((enM bt n st_2.2.2 : Int) - (st_2.2.2 : Int))) (10 + 4 * j)) := (hf64 119 (by decide)).trans ((hf61 119 (by decide)).trans hB_60.2.2.1)
          refine k_muvSN hC (c_X11_put l hls G hN w64 fl 119 (b : Int) (nhV bt n 0 21599 st_58) 6 (fun j => (kup gp (11 + 4 * b) ((enM bt n st_2.2.2 : Int) - (st_2.2.2 : Int))) (10 + 4 * j)) (by decide) (by omega) (by decide) h_70) yy_X11_put wm_X9_131 rfl rfl (Nat.le_of_ble_eq_true rfl) (by decide) (by decide) ⟨by decide, by decide⟩ dX9_readBody_148 (fun w71 hp71 => ?_)
          obtain ⟨hw71, hf71⟩ := hp71
          refine k_aload_n hC dX9_readBody_151 rfl 1 rfl ?_
          have h_72 : w71 116 = .inr (9, [.ref (kad G 1), .ref (kad G 117), .ref (kad G 122)]) := (hf71 116 (by decide)).trans ((hf64 116 (by decide)).trans h_62)
          refine k_get hC fd_X9_12 (kl hN (by decide)) h_72 rfl dX9_readBody_152 ?_
          refine k_dup hC dX9_readBody_155 rfl ?_
          have h_73 : w71 117 = .inr (6, [vI ((kup gp (11 + 4 * b) ((enM bt n st_2.2.2 : Int) - (st_2.2.2 : Int))) 3), vI ((kup gp (11 + 4 * b) ((enM bt n st_2.2.2 : Int) - (st_2.2.2 : Int))) 4), vI ((kup gp (11 + 4 * b) ((enM bt n st_2.2.2 : Int) - (st_2.2.2 : Int))) 0), .ref (kad G 118), .ref (kad G 119), .ref (kad G 120), .ref (kad G 121)]) := (hf71 117 (by decide)).trans ((hf64 117 (by decide)).trans h_63)
          refine k_get hC fd_X9_109 (kl hN (by decide)) h_73 rfl dX9_readBody_156 ?_
          refine k_iconst hC dX9_readBody_159 ?_
          refine k_iadd hC dX9_readBody_160 ?_
          refine k_put hC fd_X9_109 (kl hN (by decide)) h_73 [vI ((kup gp (11 + 4 * b) ((enM bt n st_2.2.2 : Int) - (st_2.2.2 : Int))) 3), vI ((kup gp (11 + 4 * b) ((enM bt n st_2.2.2 : Int) - (st_2.2.2 : Int))) 4), vI (((kup gp (11 + 4 * b) ((enM bt n st_2.2.2 : Int) - (st_2.2.2 : Int))) 0) + 1), .ref (kad G 118), .ref (kad G 119), .ref (kad G 120), .ref (kad G 121)] rfl (Nat.le_of_ble_eq_true rfl) rfl rfl dX9_readBody_161 (fun w74 hw74 hf74 => ?_)
          have h_75 : w74 118 = iA G 6 (kup (fun j => (kup gp (11 + 4 * b) ((enM bt n st_2.2.2 : Int) - (st_2.2.2 : Int))) (9 + 4 * j)) ((b : Int)).toNat (sgW bt n 3600 st_52)) := (hf74 118 (by decide)).trans ((hf71 118 (by decide)).trans ((hf64 118 (by decide)).trans hw61))
          have h_76 : w74 119 = iA G 6 (kup (fun j => (kup gp (11 + 4 * b) ((enM bt n st_2.2.2 : Int) - (st_2.2.2 : Int))) (10 + 4 * j)) ((b : Int)).toNat (nhV bt n 0 21599 st_58)) := (hf74 119 (by decide)).trans hw71
          have h_77 : w74 120 = iA G 6 (fun j => (kup gp (11 + 4 * b) ((enM bt n st_2.2.2 : Int) - (st_2.2.2 : Int))) (11 + 4 * j)) := (hf74 120 (by decide)).trans ((hf71 120 (by decide)).trans ((hf64 120 (by decide)).trans ((hf61 120 (by decide)).trans hB_60.2.2.2.1)))
          have h_78 : w74 121 = iA G 48 (nlP nl bt b st_2.2.2 (enM bt n st_2.2.2 - st_2.2.2)) := (hf74 121 (by decide)).trans ((hf71 121 (by decide)).trans ((hf64 121 (by decide)).trans ((hf61 121 (by decide)).trans hB_60.2.2.2.2)))
          have hB_79 : kLog G w74 122 gl := hL2.fr (fun j q1 q2 => (hf74 j (by omega)).trans ((hf71 j (by omega)).trans ((hf64 j (by omega)).trans ((hf61 j (by omega)).trans ((hf55 j (by omega)).trans ((hf49 j (by omega)).trans ((hf47 j (by omega)).trans (hf1 j (by omega)))))))))
          have hB_80 : tkR G w74 bt n st_68 := hT64.fr (fun j q1 q2 => (hf74 j (by omega)).trans (hf71 j (by omega)))
          subst hQ
          exact k_vret hC hr ⟨by decide, by decide⟩ (⟨rfl, rfl, ⟨kup (kup (kup (kup gp (11 + 4 * b) ((enM bt n st_2.2.2 : Int) - (st_2.2.2 : Int))) (9 + 4 * b) (sgW bt n 3600 st_52)) (10 + 4 * b) (nhV bt n 0 21599 st_58)) 0 (gp 0 + 1), gl, nlP nl bt b st_2.2.2 (enM bt n st_2.2.2 - st_2.2.2), ⟨planO_of hw74 (by simp only [kup]; repeat (first | omega | rfl | split | (congr 1; omega))) (by simp only [kup]; repeat (first | omega | rfl | split | (congr 1; omega))) (by simp only [kup]; repeat (first | omega | rfl | split | (congr 1; omega))), h_75.trans (iA_congr (fun j hj => (by simp only [kup]; repeat (first | omega | rfl | split | (congr 1; omega))))), h_76.trans (iA_congr (fun j hj => (by simp only [kup]; repeat (first | omega | rfl | split | (congr 1; omega))))), h_77.trans (iA_congr (fun j hj => (by simp only [kup]; repeat (first | omega | rfl | split | (congr 1; omega))))), h_78⟩, hB_79, fun hc => by have hbm1 : bdM bt n D st_2 = -1 := (by omega); have hq : st_68 = clBodyS bt n D st := (by unfold clBodyS; rw [selP_0 (by omega), ← est_2]; have hbb : bdB bt n D st_2 = st_2 := (by unfold bdB; rw [selP_1 hnm, selP_1 hbm1]); rw [hbb, est_68, est_58, est_52]); rw [← hq] at hc; unfold clBodyD; rw [← est_2]; have hbb : bdB bt n D st_2 = st_2 := (by unfold bdB; rw [selP_1 hnm, selP_1 hbm1]); have hx1 : st_58.1 = 0 := (by have h := hc; rw [est_68] at h; exact ok2 h); rw [hbb, ← est_52, ← est_58, ← sgW_0 (m := 3600) (st := st_52) (by rw [← est_58]; exact hx1), ← nhV_t (lo := 0) (hi := 21599) (st := st_58) (by rw [← est_68]; exact hc)]; exact bd_dat hE hI hNm hb0 (by omega) hnm (enM_b (hle1 hnm.1)).1 _ (by simp only [kup]; repeat (first | omega | rfl | split | (congr 1; omega))) (by simp only [kup]; repeat (first | omega | rfl | split | (congr 1; omega))) (by simp only [kup]; repeat (first | omega | rfl | split | (congr 1; omega))) (by simp only [kup]; repeat (first | omega | rfl | split | (congr 1; omega))) (fun j q1 q2 => (by simp only [kup]; repeat (first | omega | rfl | split | (congr 1; omega))))⟩, (by have e : st_68 = clBodyS bt n D st := (by have hbm1 : bdM bt n D st_2 = -1 := (by omega); unfold clBodyS; rw [selP_0 (by omega), ← est_2]; have hbb : bdB bt n D st_2 = st_2 := (by unfold bdB; rw [selP_1 hnm, selP_1 hbm1]); rw [hbb, est_68, est_58, est_52]); rw [← e]; exact hB_80), fun j hj => (hf74 j (by omega)).trans ((hf71 j (by omega)).trans ((hf64 j (by omega)).trans ((hf61 j (by omega)).trans ((hf55 j (by omega)).trans ((hf49 j (by omega)).trans ((hf47 j (by omega)).trans (hf1 j (by omega))))))))⟩) dX9_readBody_164
        · refine k_aload_n hC dX9_readBody_78 rfl 1 rfl ?_
          refine k_get hC fd_X9_25 (kl hN (by decide)) h_3 rfl dX9_readBody_79 ?_
          refine k_iconst hC dX9_readBody_82 ?_
          refine k_muvV hC (c_X10_fail l hls G hN w1 fl bt n st_2 4 (by omega) hn7 hb h_5 hT1) yy_X10_fail wm_X9_95 (kl hN (by decide)) h1o_4 rfl rfl rfl rfl (Nat.le_of_ble_eq_true rfl) (by decide) (by decide) ⟨by decide, by decide⟩ dX9_readBody_83 (fun w81 hp81 => ?_)
          obtain ⟨hT81, hf81⟩ := hp81
          obtain ⟨st_82, est_82⟩ : ∃ z : PS, z = flP 4 st_2 := ⟨_, rfl⟩
          rw [← est_82] at hT81
          refine k_goto hC 101 dX9_readBody_86 rfl ?_
          refine k_aload_n hC dX9_readBody_101 rfl 1 rfl ?_
          have h_83 : w81 116 = .inr (9, [.ref (kad G 1), .ref (kad G 117), .ref (kad G 122)]) := (hf81 116 (by decide)).trans h_3
          refine k_get hC fd_X9_25 (kl hN (by decide)) h_83 rfl dX9_readBody_102 ?_
          obtain ⟨cn84, ea84, kd84, nm84, sa84, p984, hp984, h184, hadv84⟩ := tk_open hT81
          have h_85 : w81 2 = bA G 700 (fun j => sb8 (bt j)) := (hf81 2 (by decide)).trans h_5
          refine k_muvV hC (c_X10_advance l hls G hN w81 fl bt n p984 cn84 st_82.1 ea84 kd84 nm84 sa84 hn7 hp984 hb h_85 h184) yy_X10_advance wm_X9_53 (kl hN (by decide)) h184 rfl rfl rfl rfl (Nat.le_of_ble_eq_true rfl) (by decide) (by decide) ⟨by decide, by decide⟩ dX9_readBody_105 (fun w84 hp84 => ?_)
          obtain ⟨hq84, hf84⟩ := hp84
          have hT84 := hadv84 _ hq84
          obtain ⟨st_86, est_86⟩ : ∃ z : PS, z = adP bt n st_82 := ⟨_, rfl⟩
          rw [← est_86] at hT84
          refine k_aload_n hC dX9_readBody_108 rfl 1 rfl ?_
          have h_87 : w84 116 = .inr (9, [.ref (kad G 1), .ref (kad G 117), .ref (kad G 122)]) := (hf84 116 (by decide)).trans h_83
          refine k_get hC fd_X9_12 (kl hN (by decide)) h_87 rfl dX9_readBody_109 ?_
          have h_88 : w84 117 = .inr (6, [vI (gp 3), vI (gp 4), vI (gp 0), .ref (kad G 118), .ref (kad G 119), .ref (kad G 120), .ref (kad G 121)]) := (hf84 117 (by decide)).trans ((hf81 117 (by decide)).trans h_44)
          refine k_get hC fd_X9_127 (kl hN (by decide)) h_88 rfl dX9_readBody_112 ?_
          refine k_iload_n hC dX9_readBody_115 rfl 0 rfl ?_
          refine k_aload_n hC dX9_readBody_116 rfl 1 rfl ?_
          refine k_get hC fd_X9_25 (kl hN (by decide)) h_87 rfl dX9_readBody_117 ?_
          refine k_sipush hC dX9_readBody_120 (by decide) ?_
          have hTco_90 := hT84
          obtain ⟨cno_90, eao_90, kdo_90, nmo_90, sao_90, nxo_90, h1o_90, -⟩ := hTco_90
          have h_91 : w84 2 = bA G 700 (fun j => sb8 (bt j)) := (hf84 2 (by decide)).trans h_85
          refine k_mutV hC (c_X10_takeSigned l hls G hN w84 fl bt n st_86 3600 (by omega) hn7 hb h_91 hT84) yy_X10_takeSigned wm_X9_66 (kl hN (by decide)) h1o_90 rfl rfl rfl rfl (Nat.le_of_ble_eq_true rfl) (by decide) (by decide) ⟨by decide, by decide⟩ dX9_readBody_123 (fun w89 hp89 => ?_)
          obtain ⟨hT89, hf89⟩ := hp89
          obtain ⟨st_92, est_92⟩ : ∃ z : PS, z = sgP bt n 3600 st_86 := ⟨_, rfl⟩
          rw [← est_92] at hT89
          have hnv_93 := sgW_b (bt := bt) (n := n) (m := 3600) (st := st_86) (by omega)
          have hB_94 : kPlan G w89 117 gp nl := hB_45.fr (fun j q1 q2 => (hf89 j (by omega)).trans ((hf84 j (by omega)).trans (hf81 j (by omega))))
          refine k_muvSN hC (c_X11_put l hls G hN w89 fl 118 (b : Int) (sgW bt n 3600 st_86) 6 (fun j => gp (9 + 4 * j)) (by decide) (by omega) (by decide) hB_94.2.1) yy_X11_put wm_X9_131 rfl rfl (Nat.le_of_ble_eq_true rfl) (by decide) (by decide) ⟨by decide, by decide⟩ dX9_readBody_126 (fun w95 hp95 => ?_)
          obtain ⟨hw95, hf95⟩ := hp95
          refine k_aload_n hC dX9_readBody_129 rfl 1 rfl ?_
          have h_96 : w95 116 = .inr (9, [.ref (kad G 1), .ref (kad G 117), .ref (kad G 122)]) := (hf95 116 (by decide)).trans ((hf89 116 (by decide)).trans h_87)
          refine k_get hC fd_X9_12 (kl hN (by decide)) h_96 rfl dX9_readBody_130 ?_
          have h_97 : w95 117 = .inr (6, [vI (gp 3), vI (gp 4), vI (gp 0), .ref (kad G 118), .ref (kad G 119), .ref (kad G 120), .ref (kad G 121)]) := (hf95 117 (by decide)).trans ((hf89 117 (by decide)).trans h_88)
          refine k_get hC fd_X9_135 (kl hN (by decide)) h_97 rfl dX9_readBody_133 ?_
          refine k_iload_n hC dX9_readBody_136 rfl 0 rfl ?_
          refine k_aload_n hC dX9_readBody_137 rfl 1 rfl ?_
          refine k_get hC fd_X9_25 (kl hN (by decide)) h_96 rfl dX9_readBody_138 ?_
          refine k_iconst hC dX9_readBody_141 ?_
          refine k_sipush hC dX9_readBody_142 (by decide) ?_
          have hB_100 : tkR G w95 bt n st_92 := hT89.fr (fun j q1 q2 => (hf95 j (by omega)))
          have hTco_99 := hB_100
          obtain ⟨cno_99, eao_99, kdo_99, nmo_99, sao_99, nxo_99, h1o_99, -⟩ := hTco_99
          have h_101 : w95 2 = bA G 700 (fun j => sb8 (bt j)) := (hf95 2 (by decide)).trans ((hf89 2 (by decide)).trans h_91)
          refine k_mutV hC (c_X10_takeNumber l hls G hN w95 fl bt n st_92 0 21599 (by omega) (by omega) hn7 hb h_101 hB_100) yy_X10_takeNumber wm_X9_56 (kl hN (by decide)) h1o_99 rfl rfl rfl rfl (Nat.le_of_ble_eq_true rfl) (by decide) (by decide) ⟨by decide, by decide⟩ dX9_readBody_145 (fun w98 hp98 => ?_)
          obtain ⟨hT98, hf98⟩ := hp98
          obtain ⟨st_102, est_102⟩ : ∃ z : PS, z = tkP bt n 0 21599 st_92 := ⟨_, rfl⟩
          rw [← est_102] at hT98
          have hnv_103 := nhV_b (bt := bt) (n := n) (lo := 0) (hi := 21599) (st := st_92) (by omega) (by omega)
          have h_104 : w98 119 = iA G 6 (fun j => gp (10 + 4 * j)) := (hf98 119 (by decide)).trans ((hf95 119 (by decide)).trans hB_94.2.2.1)
          refine k_muvSN hC (c_X11_put l hls G hN w98 fl 119 (b : Int) (nhV bt n 0 21599 st_92) 6 (fun j => gp (10 + 4 * j)) (by decide) (by omega) (by decide) h_104) yy_X11_put wm_X9_131 rfl rfl (Nat.le_of_ble_eq_true rfl) (by decide) (by decide) ⟨by decide, by decide⟩ dX9_readBody_148 (fun w105 hp105 => ?_)
          obtain ⟨hw105, hf105⟩ := hp105
          refine k_aload_n hC dX9_readBody_151 rfl 1 rfl ?_
          have h_106 : w105 116 = .inr (9, [.ref (kad G 1), .ref (kad G 117), .ref (kad G 122)]) := (hf105 116 (by decide)).trans ((hf98 116 (by decide)).trans h_96)
          refine k_get hC fd_X9_12 (kl hN (by decide)) h_106 rfl dX9_readBody_152 ?_
          refine k_dup hC dX9_readBody_155 rfl ?_
          have h_107 : w105 117 = .inr (6, [vI (gp 3), vI (gp 4), vI (gp 0), .ref (kad G 118), .ref (kad G 119), .ref (kad G 120), .ref (kad G 121)]) := (hf105 117 (by decide)).trans ((hf98 117 (by decide)).trans h_97)
          refine k_get hC fd_X9_109 (kl hN (by decide)) h_107 rfl dX9_readBody_156 ?_
          refine k_iconst hC dX9_readBody_159 ?_
          refine k_iadd hC dX9_readBody_160 ?_
          refine k_put hC fd_X9_109 (kl hN (by decide)) h_107 [vI (gp 3), vI (gp 4), vI ((gp 0) + 1), .ref (kad G 118), .ref (kad G 119), .ref (kad G 120), .ref (kad G 121)] rfl (Nat.le_of_ble_eq_true rfl) rfl rfl dX9_readBody_161 (fun w108 hw108 hf108 => ?_)
          have h_109 : w108 118 = iA G 6 (kup (fun j => gp (9 + 4 * j)) ((b : Int)).toNat (sgW bt n 3600 st_86)) := (hf108 118 (by decide)).trans ((hf105 118 (by decide)).trans ((hf98 118 (by decide)).trans hw95))
          have h_110 : w108 119 = iA G 6 (kup (fun j => gp (10 + 4 * j)) ((b : Int)).toNat (nhV bt n 0 21599 st_92)) := (hf108 119 (by decide)).trans hw105
          have h_111 : w108 120 = iA G 6 (fun j => gp (11 + 4 * j)) := (hf108 120 (by decide)).trans ((hf105 120 (by decide)).trans ((hf98 120 (by decide)).trans ((hf95 120 (by decide)).trans hB_94.2.2.2.1)))
          have h_112 : w108 121 = iA G 48 nl := (hf108 121 (by decide)).trans ((hf105 121 (by decide)).trans ((hf98 121 (by decide)).trans ((hf95 121 (by decide)).trans hB_94.2.2.2.2)))
          have hB_113 : kLog G w108 122 gl := hL2.fr (fun j q1 q2 => (hf108 j (by omega)).trans ((hf105 j (by omega)).trans ((hf98 j (by omega)).trans ((hf95 j (by omega)).trans ((hf89 j (by omega)).trans ((hf84 j (by omega)).trans ((hf81 j (by omega)).trans (hf1 j (by omega)))))))))
          have hB_114 : tkR G w108 bt n st_102 := hT98.fr (fun j q1 q2 => (hf108 j (by omega)).trans (hf105 j (by omega)))
          subst hQ
          exact k_vret hC hr ⟨by decide, by decide⟩ (⟨rfl, rfl, ⟨kup (kup (kup (gp) (9 + 4 * b) (sgW bt n 3600 st_86)) (10 + 4 * b) (nhV bt n 0 21599 st_92)) 0 (gp 0 + 1), gl, nl, ⟨planO_of hw108 (by simp only [kup]; repeat (first | omega | rfl | split | (congr 1; omega))) (by simp only [kup]; repeat (first | omega | rfl | split | (congr 1; omega))) (by simp only [kup]; repeat (first | omega | rfl | split | (congr 1; omega))), h_109.trans (iA_congr (fun j hj => (by simp only [kup]; repeat (first | omega | rfl | split | (congr 1; omega))))), h_110.trans (iA_congr (fun j hj => (by simp only [kup]; repeat (first | omega | rfl | split | (congr 1; omega))))), h_111.trans (iA_congr (fun j hj => (by simp only [kup]; repeat (first | omega | rfl | split | (congr 1; omega))))), h_112⟩, hB_113, fun hc => absurd hc (by have hq : st_102 = clBodyS bt n D st := (by unfold clBodyS; rw [selP_0 (by omega), ← est_2]; have hbb : bdB bt n D st_2 = st_82 := (by rw [est_82]; unfold bdB; rw [selP_1 hnm, selP_0 (fun q => by omega)]); rw [hbb, est_102, est_92, est_86]); rw [← hq, est_102, est_92, est_86, est_82, tkP_e (by rw [sgP_e (by rw [adP_e (fl_c (by decide))]; exact fl_c (by decide)), adP_e (fl_c (by decide))]; exact fl_c (by decide)), sgP_e (by rw [adP_e (fl_c (by decide))]; exact fl_c (by decide)), adP_e (fl_c (by decide))]; exact fl_c (by decide))⟩, (by have e : st_102 = clBodyS bt n D st := (by unfold clBodyS; rw [selP_0 (by omega), ← est_2]; have hbb : bdB bt n D st_2 = st_82 := (by rw [est_82]; unfold bdB; rw [selP_1 hnm, selP_0 (fun q => by omega)]); rw [hbb, est_102, est_92, est_86]); rw [← e]; exact hB_114), fun j hj => (hf108 j (by omega)).trans ((hf105 j (by omega)).trans ((hf98 j (by omega)).trans ((hf95 j (by omega)).trans ((hf89 j (by omega)).trans ((hf84 j (by omega)).trans ((hf81 j (by omega)).trans (hf1 j (by omega))))))))⟩) dX9_readBody_164
      · have nnm : ¬ isNm bt n st_2 := fun q => by have := selI_1 (x := ((enM bt n st_2.2.2 : Int) - (st_2.2.2 : Int))) (y := 0) (show st_2.1 = 0 ∧ kdM bt n st_2.2.2 = 1 from ⟨q.1, q.2.1⟩); unfold wlM at c_49; rw [this] at c_49; have := q.2.2; omega
        refine k_aload_n hC dX9_readBody_52 rfl 1 rfl ?_
        refine k_get hC fd_X9_25 (kl hN (by decide)) h_3 rfl dX9_readBody_53 ?_
        refine k_iconst hC dX9_readBody_56 ?_
        refine k_muvV hC (c_X10_fail l hls G hN w1 fl bt n st_2 1 (by omega) hn7 hb h_5 hT1) yy_X10_fail wm_X9_95 (kl hN (by decide)) h1o_4 rfl rfl rfl rfl (Nat.le_of_ble_eq_true rfl) (by decide) (by decide) ⟨by decide, by decide⟩ dX9_readBody_57 (fun w115 hp115 => ?_)
        obtain ⟨hT115, hf115⟩ := hp115
        obtain ⟨st_116, est_116⟩ : ∃ z : PS, z = flP 1 st_2 := ⟨_, rfl⟩
        rw [← est_116] at hT115
        refine k_goto hC 101 dX9_readBody_60 rfl ?_
        refine k_aload_n hC dX9_readBody_101 rfl 1 rfl ?_
        have h_117 : w115 116 = .inr (9, [.ref (kad G 1), .ref (kad G 117), .ref (kad G 122)]) := (hf115 116 (by decide)).trans h_3
        refine k_get hC fd_X9_25 (kl hN (by decide)) h_117 rfl dX9_readBody_102 ?_
        obtain ⟨cn118, ea118, kd118, nm118, sa118, p9118, hp9118, h1118, hadv118⟩ := tk_open hT115
        have h_119 : w115 2 = bA G 700 (fun j => sb8 (bt j)) := (hf115 2 (by decide)).trans h_5
        refine k_muvV hC (c_X10_advance l hls G hN w115 fl bt n p9118 cn118 st_116.1 ea118 kd118 nm118 sa118 hn7 hp9118 hb h_119 h1118) yy_X10_advance wm_X9_53 (kl hN (by decide)) h1118 rfl rfl rfl rfl (Nat.le_of_ble_eq_true rfl) (by decide) (by decide) ⟨by decide, by decide⟩ dX9_readBody_105 (fun w118 hp118 => ?_)
        obtain ⟨hq118, hf118⟩ := hp118
        have hT118 := hadv118 _ hq118
        obtain ⟨st_120, est_120⟩ : ∃ z : PS, z = adP bt n st_116 := ⟨_, rfl⟩
        rw [← est_120] at hT118
        refine k_aload_n hC dX9_readBody_108 rfl 1 rfl ?_
        have h_121 : w118 116 = .inr (9, [.ref (kad G 1), .ref (kad G 117), .ref (kad G 122)]) := (hf118 116 (by decide)).trans h_117
        refine k_get hC fd_X9_12 (kl hN (by decide)) h_121 rfl dX9_readBody_109 ?_
        have h_122 : w118 117 = .inr (6, [vI (gp 3), vI (gp 4), vI (gp 0), .ref (kad G 118), .ref (kad G 119), .ref (kad G 120), .ref (kad G 121)]) := (hf118 117 (by decide)).trans ((hf115 117 (by decide)).trans ((hf1 117 (by decide)).trans hP2.1))
        refine k_get hC fd_X9_127 (kl hN (by decide)) h_122 rfl dX9_readBody_112 ?_
        refine k_iload_n hC dX9_readBody_115 rfl 0 rfl ?_
        refine k_aload_n hC dX9_readBody_116 rfl 1 rfl ?_
        refine k_get hC fd_X9_25 (kl hN (by decide)) h_121 rfl dX9_readBody_117 ?_
        refine k_sipush hC dX9_readBody_120 (by decide) ?_
        have hTco_124 := hT118
        obtain ⟨cno_124, eao_124, kdo_124, nmo_124, sao_124, nxo_124, h1o_124, -⟩ := hTco_124
        have h_125 : w118 2 = bA G 700 (fun j => sb8 (bt j)) := (hf118 2 (by decide)).trans h_119
        refine k_mutV hC (c_X10_takeSigned l hls G hN w118 fl bt n st_120 3600 (by omega) hn7 hb h_125 hT118) yy_X10_takeSigned wm_X9_66 (kl hN (by decide)) h1o_124 rfl rfl rfl rfl (Nat.le_of_ble_eq_true rfl) (by decide) (by decide) ⟨by decide, by decide⟩ dX9_readBody_123 (fun w123 hp123 => ?_)
        obtain ⟨hT123, hf123⟩ := hp123
        obtain ⟨st_126, est_126⟩ : ∃ z : PS, z = sgP bt n 3600 st_120 := ⟨_, rfl⟩
        rw [← est_126] at hT123
        have hnv_127 := sgW_b (bt := bt) (n := n) (m := 3600) (st := st_120) (by omega)
        have hB_128 : kPlan G w123 117 gp nl := hP2.fr (fun j q1 q2 => (hf123 j (by omega)).trans ((hf118 j (by omega)).trans ((hf115 j (by omega)).trans (hf1 j (by omega)))))
        refine k_muvSN hC (c_X11_put l hls G hN w123 fl 118 (b : Int) (sgW bt n 3600 st_120) 6 (fun j => gp (9 + 4 * j)) (by decide) (by omega) (by decide) hB_128.2.1) yy_X11_put wm_X9_131 rfl rfl (Nat.le_of_ble_eq_true rfl) (by decide) (by decide) ⟨by decide, by decide⟩ dX9_readBody_126 (fun w129 hp129 => ?_)
        obtain ⟨hw129, hf129⟩ := hp129
        refine k_aload_n hC dX9_readBody_129 rfl 1 rfl ?_
        have h_130 : w129 116 = .inr (9, [.ref (kad G 1), .ref (kad G 117), .ref (kad G 122)]) := (hf129 116 (by decide)).trans ((hf123 116 (by decide)).trans h_121)
        refine k_get hC fd_X9_12 (kl hN (by decide)) h_130 rfl dX9_readBody_130 ?_
        have h_131 : w129 117 = .inr (6, [vI (gp 3), vI (gp 4), vI (gp 0), .ref (kad G 118), .ref (kad G 119), .ref (kad G 120), .ref (kad G 121)]) := (hf129 117 (by decide)).trans ((hf123 117 (by decide)).trans h_122)
        refine k_get hC fd_X9_135 (kl hN (by decide)) h_131 rfl dX9_readBody_133 ?_
        refine k_iload_n hC dX9_readBody_136 rfl 0 rfl ?_
        refine k_aload_n hC dX9_readBody_137 rfl 1 rfl ?_
        refine k_get hC fd_X9_25 (kl hN (by decide)) h_130 rfl dX9_readBody_138 ?_
        refine k_iconst hC dX9_readBody_141 ?_
        refine k_sipush hC dX9_readBody_142 (by decide) ?_
        have hB_134 : tkR G w129 bt n st_126 := hT123.fr (fun j q1 q2 => (hf129 j (by omega)))
        have hTco_133 := hB_134
        obtain ⟨cno_133, eao_133, kdo_133, nmo_133, sao_133, nxo_133, h1o_133, -⟩ := hTco_133
        have h_135 : w129 2 = bA G 700 (fun j => sb8 (bt j)) := (hf129 2 (by decide)).trans ((hf123 2 (by decide)).trans h_125)
        refine k_mutV hC (c_X10_takeNumber l hls G hN w129 fl bt n st_126 0 21599 (by omega) (by omega) hn7 hb h_135 hB_134) yy_X10_takeNumber wm_X9_56 (kl hN (by decide)) h1o_133 rfl rfl rfl rfl (Nat.le_of_ble_eq_true rfl) (by decide) (by decide) ⟨by decide, by decide⟩ dX9_readBody_145 (fun w132 hp132 => ?_)
        obtain ⟨hT132, hf132⟩ := hp132
        obtain ⟨st_136, est_136⟩ : ∃ z : PS, z = tkP bt n 0 21599 st_126 := ⟨_, rfl⟩
        rw [← est_136] at hT132
        have hnv_137 := nhV_b (bt := bt) (n := n) (lo := 0) (hi := 21599) (st := st_126) (by omega) (by omega)
        have h_138 : w132 119 = iA G 6 (fun j => gp (10 + 4 * j)) := (hf132 119 (by decide)).trans ((hf129 119 (by decide)).trans hB_128.2.2.1)
        refine k_muvSN hC (c_X11_put l hls G hN w132 fl 119 (b : Int) (nhV bt n 0 21599 st_126) 6 (fun j => gp (10 + 4 * j)) (by decide) (by omega) (by decide) h_138) yy_X11_put wm_X9_131 rfl rfl (Nat.le_of_ble_eq_true rfl) (by decide) (by decide) ⟨by decide, by decide⟩ dX9_readBody_148 (fun w139 hp139 => ?_)
        obtain ⟨hw139, hf139⟩ := hp139
        refine k_aload_n hC dX9_readBody_151 rfl 1 rfl ?_
        have h_140 : w139 116 = .inr (9, [.ref (kad G 1), .ref (kad G 117), .ref (kad G 122)]) := (hf139 116 (by decide)).trans ((hf132 116 (by decide)).trans h_130)
        refine k_get hC fd_X9_12 (kl hN (by decide)) h_140 rfl dX9_readBody_152 ?_
        refine k_dup hC dX9_readBody_155 rfl ?_
        have h_141 : w139 117 = .inr (6, [vI (gp 3), vI (gp 4), vI (gp 0), .ref (kad G 118), .ref (kad G 119), .ref (kad G 120), .ref (kad G 121)]) := (hf139 117 (by decide)).trans ((hf132 117 (by decide)).trans h_131)
        refine k_get hC fd_X9_109 (kl hN (by decide)) h_141 rfl dX9_readBody_156 ?_
        refine k_iconst hC dX9_readBody_159 ?_
        refine k_iadd hC dX9_readBody_160 ?_
        refine k_put hC fd_X9_109 (kl hN (by decide)) h_141 [vI (gp 3), vI (gp 4), vI ((gp 0) + 1), .ref (kad G 118), .ref (kad G 119), .ref (kad G 120), .ref (kad G 121)] rfl (Nat.le_of_ble_eq_true rfl) rfl rfl dX9_readBody_161 (fun w142 hw142 hf142 => ?_)
        have h_143 : w142 118 = iA G 6 (kup (fun j => gp (9 + 4 * j)) ((b : Int)).toNat (sgW bt n 3600 st_120)) := (hf142 118 (by decide)).trans ((hf139 118 (by decide)).trans ((hf132 118 (by decide)).trans hw129))
        have h_144 : w142 119 = iA G 6 (kup (fun j => gp (10 + 4 * j)) ((b : Int)).toNat (nhV bt n 0 21599 st_126)) := (hf142 119 (by decide)).trans hw139
        have h_145 : w142 120 = iA G 6 (fun j => gp (11 + 4 * j)) := (hf142 120 (by decide)).trans ((hf139 120 (by decide)).trans ((hf132 120 (by decide)).trans ((hf129 120 (by decide)).trans hB_128.2.2.2.1)))
        have h_146 : w142 121 = iA G 48 nl := (hf142 121 (by decide)).trans ((hf139 121 (by decide)).trans ((hf132 121 (by decide)).trans ((hf129 121 (by decide)).trans hB_128.2.2.2.2)))
        have hB_147 : kLog G w142 122 gl := hL2.fr (fun j q1 q2 => (hf142 j (by omega)).trans ((hf139 j (by omega)).trans ((hf132 j (by omega)).trans ((hf129 j (by omega)).trans ((hf123 j (by omega)).trans ((hf118 j (by omega)).trans ((hf115 j (by omega)).trans (hf1 j (by omega)))))))))
        have hB_148 : tkR G w142 bt n st_136 := hT132.fr (fun j q1 q2 => (hf142 j (by omega)).trans (hf139 j (by omega)))
        subst hQ
        exact k_vret hC hr ⟨by decide, by decide⟩ (⟨rfl, rfl, ⟨kup (kup (kup (gp) (9 + 4 * b) (sgW bt n 3600 st_120)) (10 + 4 * b) (nhV bt n 0 21599 st_126)) 0 (gp 0 + 1), gl, nl, ⟨planO_of hw142 (by simp only [kup]; repeat (first | omega | rfl | split | (congr 1; omega))) (by simp only [kup]; repeat (first | omega | rfl | split | (congr 1; omega))) (by simp only [kup]; repeat (first | omega | rfl | split | (congr 1; omega))), h_143.trans (iA_congr (fun j hj => (by simp only [kup]; repeat (first | omega | rfl | split | (congr 1; omega))))), h_144.trans (iA_congr (fun j hj => (by simp only [kup]; repeat (first | omega | rfl | split | (congr 1; omega))))), h_145.trans (iA_congr (fun j hj => (by simp only [kup]; repeat (first | omega | rfl | split | (congr 1; omega))))), h_146⟩, hB_147, fun hc => absurd hc (by have hq : st_136 = clBodyS bt n D st := (by unfold clBodyS; rw [selP_0 (by omega), ← est_2]; have hbb : bdB bt n D st_2 = st_116 := (by rw [est_116]; unfold bdB; rw [selP_0 nnm]); rw [hbb, est_136, est_126, est_120]); rw [← hq, est_136, est_126, est_120, est_116, tkP_e (by rw [sgP_e (by rw [adP_e (fl_c (by decide))]; exact fl_c (by decide)), adP_e (fl_c (by decide))]; exact fl_c (by decide)), sgP_e (by rw [adP_e (fl_c (by decide))]; exact fl_c (by decide)), adP_e (fl_c (by decide))]; exact fl_c (by decide))⟩, (by have e : st_136 = clBodyS bt n D st := (by unfold clBodyS; rw [selP_0 (by omega), ← est_2]; have hbb : bdB bt n D st_2 = st_116 := (by rw [est_116]; unfold bdB; rw [selP_0 nnm]); rw [hbb, est_136, est_126, est_120]); rw [← e]; exact hB_148), fun j hj => (hf142 j (by omega)).trans ((hf139 j (by omega)).trans ((hf132 j (by omega)).trans ((hf129 j (by omega)).trans ((hf123 j (by omega)).trans ((hf118 j (by omega)).trans ((hf115 j (by omega)).trans (hf1 j (by omega))))))))⟩) dX9_readBody_164
  · refine k_aload_n hC dX9_readBody_14 rfl 1 rfl ?_
    refine k_get hC fd_X9_25 (kl hN (by decide)) h116 rfl dX9_readBody_15 ?_
    refine k_iconst hC dX9_readBody_18 ?_
    have hTco_150 := hT
    obtain ⟨cno_150, eao_150, kdo_150, nmo_150, sao_150, nxo_150, h1o_150, -⟩ := hTco_150
    refine k_muvV hC (c_X10_fail l hls G hN w fl bt n st 3 (by omega) hn7 hb h2 hT) yy_X10_fail wm_X9_95 (kl hN (by decide)) h1o_150 rfl rfl rfl rfl (Nat.le_of_ble_eq_true rfl) (by decide) (by decide) ⟨by decide, by decide⟩ dX9_readBody_19 (fun w149 hp149 => ?_)
    obtain ⟨hT149, hf149⟩ := hp149
    obtain ⟨st_151, est_151⟩ : ∃ z : PS, z = flP 3 st := ⟨_, rfl⟩
    rw [← est_151] at hT149
    have hB_152 : kPlan G w149 117 gp nl := hP2.fr (fun j q1 q2 => (hf149 j (by omega)))
    have hB_153 : kLog G w149 122 gl := hL2.fr (fun j q1 q2 => (hf149 j (by omega)))
    subst hQ
    exact k_vret hC hr ⟨by decide, by decide⟩ (⟨rfl, rfl, ⟨gp, gl, nl, hB_152, hB_153, fun hc => absurd hc (by unfold clBodyS; rw [selP_1 (by omega)]; exact fl_c (by decide))⟩, (by have e : st_151 = clBodyS bt n D st := (by unfold clBodyS; rw [selP_1 (by omega), est_151]); rw [← e]; exact hT149), fun j hj => hf149 j (by omega)⟩) dX9_readBody_22

