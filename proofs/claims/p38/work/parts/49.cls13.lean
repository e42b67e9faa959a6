theorem mkN_add (h : Nat → Bool) (k : Nat) : mkN h k ||| 2 ^ k = 2 ^ k + mkN h k := by
  have e := Nat.two_pow_add_eq_or_of_lt (mkN_b h k) 1
  rw [Nat.mul_one] at e
  rw [Nat.or_comm, e]
theorem mkN_t1 {h : Nat → Bool} {k : Nat} (q : h k = true) : mkN h (k + 1) = mkN h k ||| 2 ^ k := by rw [mkN_add]; exact if_pos q
theorem mkN_f1 {h : Nat → Bool} {k : Nat} (q : h k = false) : mkN h (k + 1) = mkN h k := if_neg (by rw [q]; decide)
theorem vlW_b {bt g : Nat → Int} (hI : Inv g) {n : Nat} {st : PS} {i : Nat} (hi : (i : Int) < g 2) : -100000 ≤ vlW (pV g) bt n st i ∧ vlW (pV g) bt n st i ≤ 100000 := by
  unfold vlW
  by_cases q : pcM bt n st = -1
  · rw [selI_1 q]; have := nhV_b (bt := bt) (n := n) (lo := 0) (hi := 99999) (st := st) (by omega) (by omega); omega
  · rw [selI_0 q]; exact pV_b hI hi
set_option maxRecDepth 100000 in
set_option maxHeartbeats 4000000 in
theorem c_X7_readComparison (l : Launch) (hls : l.stackTraces = false) (G : kG) (hN : 133 ≤ kN G) (w : Nat → va_E) (fl : va_W) (bt : Nat → Int) (n : Nat) (st : PS) (g : Nat → Int) (hn7 : n ≤ 700) (hb : btOK bt) (h2 : w 2 = byA G bt) (hT : tkR G w bt n st) (h129 : w 129 = qdO G) (hI : Inv g) (hLg : kLog G w 3 g) (h10 : w 10 = chO G) (h11 : w 11 = liA G) (hD : kDrawn w g 0 (g 2).toNat) (hl0 : ∃ lf, w 130 = iA G 12 lf) (hr0 : ∃ rf, w 131 = iA G 12 rf) : KM l G yX7_readComparison cX7_readComparison 6 (some (FieldType.int)) 6 0 0 [.ref (kad G 129)] w fl (kMut (vI ((mkN (cmpW (pV g) bt n st) (g 2).toNat : Nat) : Int)) fl (fun w1 => tkR G w1 bt n ((cmpG (pV g) bt n st).1) ∧ ((∃ lf, w1 130 = iA G 12 lf) ∧ ∃ rf, w1 131 = iA G 12 rf) ∧ ∀ j, (j ≠ 1 ∧ j ≠ 130 ∧ j ≠ 131) → w1 j = w j)) := by
  refine KM_of2 hls (by decide +kernel) rfl (lv0 := [(0, .ref (kad G 129))]) rfl (Nat.le_of_ble_eq_true rfl) (fun p e R s m args below meth c Q hC hr hQ => ?_)
  have h0 := hI.c
  obtain ⟨lf0, hlf0⟩ := hl0
  obtain ⟨rf0, hrf0⟩ := hr0
  refine k_aload_n hC dX7_readComparison_0 rfl 0 rfl ?_
  refine k_aload_n hC dX7_readComparison_1 rfl 0 rfl ?_
  refine k_get hC fd_X7_9 (kl hN (by decide)) h129 rfl dX7_readComparison_2 ?_
  refine k_aload_n hC dX7_readComparison_5 rfl 0 rfl ?_
  refine k_pureV hC (c_X7_propertyHere l hls G hN w fl bt n st hn7 hb h2 hT h129) yy_X7_propertyHere wm_X7_77 (kl hN (by decide)) h129 rfl rfl rfl rfl (Nat.le_of_ble_eq_true rfl) (by decide) (by decide) ⟨by decide, by decide⟩ dX7_readComparison_6 ?_
  refine k_topI (fun pq_1 epq_1 => ?_)
  have hpq_1 := pcM_c bt n st
  rw [← epq_1] at hpq_1
  refine k_muvV hC (c_X7_readValue130 l hls G hN w fl bt n st g pq_1 lf0 epq_1 hn7 hb h2 hT h129 hI hLg h10 h11 hD hlf0) yy_X7_readValue wm_X7_80 (kl hN (by decide)) h129 rfl rfl rfl rfl (Nat.le_of_ble_eq_true rfl) (by decide) (by decide) ⟨by decide, by decide⟩ dX7_readComparison_9 (fun w2 hp2 => ?_)
  obtain ⟨hT2, ⟨lf2, hlf2, hlv2⟩, hf2⟩ := hp2
  obtain ⟨st_3, est_3⟩ : ∃ z : PS, z = vlS bt n st := ⟨_, rfl⟩
  rw [← est_3] at hT2
  refine k_aload_n hC dX7_readComparison_12 rfl 0 rfl ?_
  have h_4 : w2 129 = .inr (7, [.ref (kad G 1), .ref (kad G 3), .ref (kad G 10), .ref (kad G 130), .ref (kad G 131)]) := (hf2 129 (by decide)).trans h129
  refine k_get hC fd_X7_18 (kl hN (by decide)) h_4 rfl dX7_readComparison_13 ?_
  refine k_bipush hC dX7_readComparison_16 (by decide) ?_
  have hTco_5 := hT2
  obtain ⟨cno_5, eao_5, kdo_5, nmo_5, sao_5, nxo_5, h1o_5, -⟩ := hTco_5
  have h_6 : w2 2 = bA G 700 (fun j => sb8 (bt j)) := (hf2 2 (by decide)).trans h2
  refine k_pureV hC (c_X10_isSign l hls G hN w2 fl bt n st_3 60 (by omega) hn7 hb h_6 hT2) yy_X10_isSign wm_X7_52 (kl hN (by decide)) h1o_5 rfl rfl rfl rfl (Nat.le_of_ble_eq_true rfl) (by decide) (by decide) ⟨by decide, by decide⟩ dX7_readComparison_18 ?_
  obtain ⟨z_7, ez_7, hz_7⟩ := selI_c (isS bt n 60 st_3)
  refine k_topv (vI z_7) (by rw [ez_7]) ?_
  refine k_istore_n hC [(1, vI z_7), (0, .ref (kad G 129))] dX7_readComparison_21 rfl (by decide) rfl ?_
  refine k_aload_n hC dX7_readComparison_22 rfl 1 rfl ?_
  refine k_get hC fd_X7_18 (kl hN (by decide)) h_4 rfl dX7_readComparison_23 ?_
  refine k_bipush hC dX7_readComparison_26 (by decide) ?_
  refine k_pureV hC (c_X10_isSign l hls G hN w2 fl bt n st_3 62 (by omega) hn7 hb h_6 hT2) yy_X10_isSign wm_X7_52 (kl hN (by decide)) h1o_5 rfl rfl rfl rfl (Nat.le_of_ble_eq_true rfl) (by decide) (by decide) ⟨by decide, by decide⟩ dX7_readComparison_28 ?_
  obtain ⟨z_8, ez_8, hz_8⟩ := selI_c (isS bt n 62 st_3)
  refine k_topv (vI z_8) (by rw [ez_8]) ?_
  refine k_istore_n hC [(2, vI z_8), (1, vI z_7), (0, .ref (kad G 129))] dX7_readComparison_31 rfl (by decide) rfl ?_
  refine k_iload_n hC dX7_readComparison_32 rfl 1 rfl ?_
  refine k_if_ne hC 60 dX7_readComparison_33 rfl (by omega) (fun c_33 => ?_) (fun c_33 => ?_)
  · refine k_aload_n hC dX7_readComparison_60 rfl 2 rfl ?_
    refine k_get hC fd_X7_18 (kl hN (by decide)) h_4 rfl dX7_readComparison_61 ?_
    obtain ⟨cn9, ea9, kd9, nm9, sa9, p99, hp99, h19, hadv9⟩ := tk_open hT2
    refine k_muvV hC (c_X10_advance l hls G hN w2 fl bt n p99 cn9 st_3.1 ea9 kd9 nm9 sa9 hn7 hp99 hb h_6 h19) yy_X10_advance wm_X7_42 (kl hN (by decide)) h19 rfl rfl rfl rfl (Nat.le_of_ble_eq_true rfl) (by decide) (by decide) ⟨by decide, by decide⟩ dX7_readComparison_64 (fun w9 hp9 => ?_)
    obtain ⟨hq9, hf9⟩ := hp9
    have hT9 := hadv9 _ hq9
    obtain ⟨st_10, est_10⟩ : ∃ z : PS, z = adP bt n st_3 := ⟨_, rfl⟩
    rw [← est_10] at hT9
    have hob : st_10 = opS bt n st_3 := by unfold opS; rw [selP_1 (Or.inl (hz_7.resolve_right (fun q1 => by omega)).2)]; exact est_10
    refine k_aload_n hC dX7_readComparison_67 rfl 2 rfl ?_
    refine k_aload_n hC dX7_readComparison_68 rfl 2 rfl ?_
    have h_11 : w9 129 = .inr (7, [.ref (kad G 1), .ref (kad G 3), .ref (kad G 10), .ref (kad G 130), .ref (kad G 131)]) := (hf9 129 (by decide)).trans h_4
    refine k_get hC fd_X7_15 (kl hN (by decide)) h_11 rfl dX7_readComparison_69 ?_
    refine k_aload_n hC dX7_readComparison_72 rfl 2 rfl ?_
    have h_12 : w9 2 = bA G 700 (fun j => sb8 (bt j)) := (hf9 2 (by decide)).trans h_6
    refine k_pureV hC (c_X7_propertyHere l hls G hN w9 fl bt n st_10 hn7 hb h_12 hT9 h_11) yy_X7_propertyHere wm_X7_77 (kl hN (by decide)) h_11 rfl rfl rfl rfl (Nat.le_of_ble_eq_true rfl) (by decide) (by decide) ⟨by decide, by decide⟩ dX7_readComparison_73 ?_
    refine k_topI (fun pq_13 epq_13 => ?_)
    have hpq_13 := pcM_c bt n st_10
    rw [← epq_13] at hpq_13
    have h_15 : w9 131 = iA G 12 rf0 := (hf9 131 (by decide)).trans ((hf2 131 (by decide)).trans hrf0)
    have hB_16 : kLog G w9 3 g := hLg.fr (fun j q1 q2 => (hf9 j (by omega)).trans (hf2 j (by omega)))
    have h_17 : w9 10 = .inr (0, [.ref (kad G 11), .ref (kad G 12), .ref (kad G 13), .ref (kad G 14), .ref (kad G 15), .ref (kad G 16)]) := (hf9 10 (by decide)).trans ((hf2 10 (by decide)).trans h10)
    have h_18 : w9 11 = rA G 4 12 (fun j => some (kad G (20 + j))) := (hf9 11 (by decide)).trans ((hf2 11 (by decide)).trans h11)
    have hB_19 : kDrawn w9 g 0 ((g 2).toNat) := hD.fr (fun j q1 q2 => (hf9 j (by omega)).trans (hf2 j (by omega)))
    refine k_muvV hC (c_X7_readValue131 l hls G hN w9 fl bt n st_10 g pq_13 rf0 epq_13 hn7 hb h_12 hT9 h_11 hI hB_16 h_17 h_18 hB_19 h_15) yy_X7_readValue wm_X7_80 (kl hN (by decide)) h_11 rfl rfl rfl rfl (Nat.le_of_ble_eq_true rfl) (by decide) (by decide) ⟨by decide, by decide⟩ dX7_readComparison_76 (fun w14 hp14 => ?_)
    obtain ⟨hT14, ⟨lf14, hlf14, hlv14⟩, hf14⟩ := hp14
    obtain ⟨st_20, est_20⟩ : ∃ z : PS, z = vlS bt n st_10 := ⟨_, rfl⟩
    rw [← est_20] at hT14
    refine k_iconst hC dX7_readComparison_79 ?_
    refine k_istore_n hC [(3, vI 0), (2, vI z_8), (1, vI z_7), (0, .ref (kad G 129))] dX7_readComparison_80 rfl (by decide) rfl ?_
    refine k_iconst hC dX7_readComparison_81 ?_
    refine k_istore hC [(4, vI 0), (3, vI 0), (2, vI z_8), (1, vI z_7), (0, .ref (kad G 129))] dX7_readComparison_82 (by decide) rfl ?_
    have hz6 := hz_7
    have hz2 := hz_8
    have loop20 : ∀ (nw : Nat) (k : Nat) (mk : Nat), ((g 2).toNat < nw + k) → ((k : Int) ≤ g 2) → (mk = mkN (cmpW (pV g) bt n st) k) → KW p l e R s m args below meth c 6 G Q w14 fl 0 0 84 [(4, vI (k : Int)), (3, vI ((mk : Nat) : Int)), (2, vI z_8), (1, vI z_7), (0, .ref (kad G 129))] [] := by
      intro nw
      induction nw with
      | zero =>
        intro k mk hn_w hk hmk
        exact absurd hn_w (by omega)
      | succ nw ihw =>
        intro k mk hn_w hk hmk
        refine k_iload hC dX7_readComparison_84 0 rfl ?_
        refine k_aload_n hC dX7_readComparison_86 rfl 4 rfl ?_
        have h_21 : w14 129 = .inr (7, [.ref (kad G 1), .ref (kad G 3), .ref (kad G 10), .ref (kad G 130), .ref (kad G 131)]) := (hf14 129 (by decide)).trans h_11
        refine k_get hC fd_X7_22 (kl hN (by decide)) h_21 rfl dX7_readComparison_87 ?_
        have hB_22 : kLog G w14 3 g := hB_16.fr (fun j q1 q2 => (hf14 j (by omega)))
        refine k_get hC fd_X7_64 (kl hN (by decide)) hB_22.1 rfl dX7_readComparison_90 ?_
        refine k_icmp_ge hC 161 dX7_readComparison_93 rfl (by omega) (by omega) (fun c_93 => ?_) (fun c_93 => ?_)
        · refine k_iload_n hC dX7_readComparison_161 rfl 1 rfl ?_
          have h_23 : w14 130 = iA G 12 lf2 := (hf14 130 (by decide)).trans ((hf9 130 (by decide)).trans hlf2)
          subst hQ
          exact k_iret hC hr ⟨by decide, by decide⟩ (⟨congrArg (fun z => some (vI ((z : Nat) : Int))) (by rw [hmk, show k = (g 2).toNat by omega]), rfl, (by have e : st_20 = (cmpG (pV g) bt n st).1 := (by show st_20 = vlS bt n (opS bt n (vlS bt n st)); rw [← est_3, ← hob]; exact est_20); rw [← e]; exact hT14), ⟨⟨_, h_23⟩, _, hlf14⟩, fun j hj => (hf14 j (by omega)).trans ((hf9 j (by omega)).trans (hf2 j (by omega)))⟩) dX7_readComparison_162
        · have hkg : (k : Int) < g 2 := by omega
          have hl9 := hlv2 k hkg
          have hr9 := hlv14 k hkg
          have hlb := vlW_b (bt := bt) (n := n) (st := st) hI hkg
          have hrb := vlW_b (bt := bt) (n := n) (st := st_10) hI hkg
          refine k_aload_n hC dX7_readComparison_96 rfl 4 rfl ?_
          refine k_get hC fd_X7_9 (kl hN (by decide)) h_21 rfl dX7_readComparison_97 ?_
          refine k_iload hC dX7_readComparison_100 0 rfl ?_
          have h_24 : w14 130 = iA G 12 lf2 := (hf14 130 (by decide)).trans ((hf9 130 (by decide)).trans hlf2)
          refine k_pureSN hC (c_X11_at l hls G hN w14 fl 130 (k : Int) 12 lf2 (by decide) (by omega) (by decide) h_24) yy_X11_at wm_X7_84 rfl rfl (Nat.le_of_ble_eq_true rfl) (by decide) (by decide) ⟨by decide, by decide⟩ dX7_readComparison_102 ?_
          refine k_topv (vI (lf2 k)) rfl ?_
          refine k_aload_n hC dX7_readComparison_105 rfl 4 rfl ?_
          refine k_get hC fd_X7_15 (kl hN (by decide)) h_21 rfl dX7_readComparison_106 ?_
          refine k_iload hC dX7_readComparison_109 0 rfl ?_
          refine k_pureSN hC (c_X11_at l hls G hN w14 fl 131 (k : Int) 12 lf14 (by decide) (by omega) (by decide) hlf14) yy_X11_at wm_X7_84 rfl rfl (Nat.le_of_ble_eq_true rfl) (by decide) (by decide) ⟨by decide, by decide⟩ dX7_readComparison_111 ?_
          refine k_topv (vI (lf14 k)) rfl ?_
          refine k_pureS hC (c_J6_compare_7cf53 l hls G hN w14 fl (lf2 k) (lf14 k) (by omega) (by omega)) yy_J6_compare_7cf53 wm_X7_88 rfl rfl (Nat.le_of_ble_eq_true rfl) (by decide) (by decide) ⟨by decide, by decide⟩ dX7_readComparison_114 ?_
          refine k_topI (fun od eod => ?_)
          refine k_istore hC [(5, vI od), (4, vI (k : Int)), (3, vI ((mk : Nat) : Int)), (2, vI z_8), (1, vI z_7), (0, .ref (kad G 129))] dX7_readComparison_117 (by decide) rfl ?_
          have hod : (od = -1 ∧ lf2 k < lf14 k) ∨ (od = 0 ∧ lf2 k = lf14 k) ∨ (od = 1 ∧ lf14 k < lf2 k) := by rw [eod]; by_cases q1 : lf2 k < lf14 k; (case pos => rw [if_pos q1]; exact Or.inl ⟨rfl, q1⟩); (case neg => rw [if_neg q1]; by_cases q2 : lf2 k = lf14 k; (case pos => rw [if_pos q2]; exact Or.inr (Or.inl ⟨rfl, q2⟩)); (case neg => rw [if_neg q2]; exact Or.inr (Or.inr ⟨rfl, by omega⟩)))
          refine k_iload_n hC dX7_readComparison_119 rfl 4 rfl ?_
          refine k_if_eq hC 131 dX7_readComparison_120 rfl (by omega) (fun c_120 => ?_) (fun c_120 => ?_)
          · refine k_iload_n hC dX7_readComparison_131 rfl 3 rfl ?_
            refine k_if_eq hC 143 dX7_readComparison_132 rfl (by omega) (fun c_132 => ?_) (fun c_132 => ?_)
            · refine k_iload hC dX7_readComparison_143 0 rfl ?_
              refine k_if_ne hC 155 dX7_readComparison_145 rfl (by omega) (fun c_145 => ?_) (fun c_145 => ?_)
              · refine k_iinc hC (y := (k : Int) + 1) [(4, vI ((k : Int) + 1)), (5, vI od), (3, vI ((mk : Nat) : Int)), (2, vI z_8), (1, vI z_7), (0, .ref (kad G 129))] (j := 1) dX7_readComparison_155 rfl (by omega) (by decide) rfl ?_
                refine k_goto hC 84 dX7_readComparison_158 rfl ?_
                refine k_lvs (ls := [0, 2, 3, 4, 5]) [(4, vI ((k : Int) + 1)), (3, vI ((mk : Nat) : Int)), (2, vI z_8), (1, vI z_7), (0, .ref (kad G 129))] rfl ?_
                refine k_lvs (ls := [0, 1, 2, 3, 4]) [(4, vI ((k + 1 : Nat) : Int)), (3, vI ((mk : Nat) : Int)), (2, vI z_8), (1, vI z_7), (0, .ref (kad G 129))] (by simp only [lv_pick]; rfl) ?_
                exact ihw (k + 1) mk  (by omega) (by omega) (by rw [mkN_f1 (show cmpW (pV g) bt n st k = false from (by unfold cmpW; rw [← est_3, ← hob]; first | (rw [selI_1 (hz6.resolve_right (fun q1 => by omega)).2]; exact decide_eq_false (by omega)) | (rw [selI_0 (hz6.resolve_left (fun q1 => by omega)).2, selI_1 (hz2.resolve_right (fun q1 => by omega)).2]; exact decide_eq_false (by omega)) | (rw [selI_0 (hz6.resolve_left (fun q1 => by omega)).2, selI_0 (hz2.resolve_left (fun q1 => by omega)).2]; exact decide_eq_false (by omega)))), hmk])
              · refine k_iload_n hC dX7_readComparison_148 rfl 2 rfl ?_
                refine k_iconst hC dX7_readComparison_149 ?_
                refine k_iload hC dX7_readComparison_150 1 rfl ?_
                refine k_ishl1 hC (n := k) (by omega) dX7_readComparison_152 ?_
                refine k_iorN hC (a := mk) (b := 2 ^ k) dX7_readComparison_153 ?_
                refine k_istore_n hC [(3, vI ((mk ||| 2 ^ k : Nat) : Int)), (5, vI od), (4, vI (k : Int)), (2, vI z_8), (1, vI z_7), (0, .ref (kad G 129))] dX7_readComparison_154 rfl (by decide) rfl ?_
                refine k_iinc hC (y := (k : Int) + 1) [(4, vI ((k : Int) + 1)), (3, vI ((mk ||| 2 ^ k : Nat) : Int)), (5, vI od), (2, vI z_8), (1, vI z_7), (0, .ref (kad G 129))] (j := 2) dX7_readComparison_155 rfl (by omega) (by decide) rfl ?_
                refine k_goto hC 84 dX7_readComparison_158 rfl ?_
                refine k_lvs (ls := [0, 1, 3, 4, 5]) [(4, vI ((k : Int) + 1)), (3, vI ((mk ||| 2 ^ k : Nat) : Int)), (2, vI z_8), (1, vI z_7), (0, .ref (kad G 129))] rfl ?_
                refine k_lvs (ls := [0, 1, 2, 3, 4]) [(4, vI ((k + 1 : Nat) : Int)), (3, vI ((mk ||| 2 ^ k : Nat) : Int)), (2, vI z_8), (1, vI z_7), (0, .ref (kad G 129))] (by simp only [lv_pick]; rfl) ?_
                exact ihw (k + 1) (mk ||| 2 ^ k)  (by omega) (by omega) (by rw [mkN_t1 (show cmpW (pV g) bt n st k = true from (by unfold cmpW; rw [← est_3, ← hob]; first | (rw [selI_1 (hz6.resolve_right (fun q1 => by omega)).2]; exact decide_eq_true (by omega)) | (rw [selI_0 (hz6.resolve_left (fun q1 => by omega)).2, selI_1 (hz2.resolve_right (fun q1 => by omega)).2]; exact decide_eq_true (by omega)) | (rw [selI_0 (hz6.resolve_left (fun q1 => by omega)).2, selI_0 (hz2.resolve_left (fun q1 => by omega)).2]; exact decide_eq_true (by omega)))), hmk])
            · refine k_iload hC dX7_readComparison_135 0 rfl ?_
              refine k_if_le hC 155 dX7_readComparison_137 rfl (by omega) (fun c_137 => ?_) (fun c_137 => ?_)
              · refine k_iinc hC (y := (k : Int) + 1) [(4, vI ((k : Int) + 1)), (5, vI od), (3, vI ((mk : Nat) : Int)), (2, vI z_8), (1, vI z_7), (0, .ref (kad G 129))] (j := 1) dX7_readComparison_155 rfl (by omega) (by decide) rfl ?_
                refine k_goto hC 84 dX7_readComparison_158 rfl ?_
                refine k_lvs (ls := [0, 2, 3, 4, 5]) [(4, vI ((k : Int) + 1)), (3, vI ((mk : Nat) : Int)), (2, vI z_8), (1, vI z_7), (0, .ref (kad G 129))] rfl ?_
                refine k_lvs (ls := [0, 1, 2, 3, 4]) [(4, vI ((k + 1 : Nat) : Int)), (3, vI ((mk : Nat) : Int)), (2, vI z_8), (1, vI z_7), (0, .ref (kad G 129))] (by simp only [lv_pick]; rfl) ?_
                exact ihw (k + 1) mk  (by omega) (by omega) (by rw [mkN_f1 (show cmpW (pV g) bt n st k = false from (by unfold cmpW; rw [← est_3, ← hob]; first | (rw [selI_1 (hz6.resolve_right (fun q1 => by omega)).2]; exact decide_eq_false (by omega)) | (rw [selI_0 (hz6.resolve_left (fun q1 => by omega)).2, selI_1 (hz2.resolve_right (fun q1 => by omega)).2]; exact decide_eq_false (by omega)) | (rw [selI_0 (hz6.resolve_left (fun q1 => by omega)).2, selI_0 (hz2.resolve_left (fun q1 => by omega)).2]; exact decide_eq_false (by omega)))), hmk])
              · refine k_goto hC 148 dX7_readComparison_140 rfl ?_
                refine k_iload_n hC dX7_readComparison_148 rfl 2 rfl ?_
                refine k_iconst hC dX7_readComparison_149 ?_
                refine k_iload hC dX7_readComparison_150 1 rfl ?_
                refine k_ishl1 hC (n := k) (by omega) dX7_readComparison_152 ?_
                refine k_iorN hC (a := mk) (b := 2 ^ k) dX7_readComparison_153 ?_
                refine k_istore_n hC [(3, vI ((mk ||| 2 ^ k : Nat) : Int)), (5, vI od), (4, vI (k : Int)), (2, vI z_8), (1, vI z_7), (0, .ref (kad G 129))] dX7_readComparison_154 rfl (by decide) rfl ?_
                refine k_iinc hC (y := (k : Int) + 1) [(4, vI ((k : Int) + 1)), (3, vI ((mk ||| 2 ^ k : Nat) : Int)), (5, vI od), (2, vI z_8), (1, vI z_7), (0, .ref (kad G 129))] (j := 2) dX7_readComparison_155 rfl (by omega) (by decide) rfl ?_
                refine k_goto hC 84 dX7_readComparison_158 rfl ?_
                refine k_lvs (ls := [0, 1, 3, 4, 5]) [(4, vI ((k : Int) + 1)), (3, vI ((mk ||| 2 ^ k : Nat) : Int)), (2, vI z_8), (1, vI z_7), (0, .ref (kad G 129))] rfl ?_
                refine k_lvs (ls := [0, 1, 2, 3, 4]) [(4, vI ((k + 1 : Nat) : Int)), (3, vI ((mk ||| 2 ^ k : Nat) : Int)), (2, vI z_8), (1, vI z_7), (0, .ref (kad G 129))] (by simp only [lv_pick]; rfl) ?_
                exact ihw (k + 1) (mk ||| 2 ^ k)  (by omega) (by omega) (by rw [mkN_t1 (show cmpW (pV g) bt n st k = true from (by unfold cmpW; rw [← est_3, ← hob]; first | (rw [selI_1 (hz6.resolve_right (fun q1 => by omega)).2]; exact decide_eq_true (by omega)) | (rw [selI_0 (hz6.resolve_left (fun q1 => by omega)).2, selI_1 (hz2.resolve_right (fun q1 => by omega)).2]; exact decide_eq_true (by omega)) | (rw [selI_0 (hz6.resolve_left (fun q1 => by omega)).2, selI_0 (hz2.resolve_left (fun q1 => by omega)).2]; exact decide_eq_true (by omega)))), hmk])
          · refine k_iload hC dX7_readComparison_123 0 rfl ?_
            refine k_if_ge hC 155 dX7_readComparison_125 rfl (by omega) (fun c_125 => ?_) (fun c_125 => ?_)
            · refine k_iinc hC (y := (k : Int) + 1) [(4, vI ((k : Int) + 1)), (5, vI od), (3, vI ((mk : Nat) : Int)), (2, vI z_8), (1, vI z_7), (0, .ref (kad G 129))] (j := 1) dX7_readComparison_155 rfl (by omega) (by decide) rfl ?_
              refine k_goto hC 84 dX7_readComparison_158 rfl ?_
              refine k_lvs (ls := [0, 2, 3, 4, 5]) [(4, vI ((k : Int) + 1)), (3, vI ((mk : Nat) : Int)), (2, vI z_8), (1, vI z_7), (0, .ref (kad G 129))] rfl ?_
              refine k_lvs (ls := [0, 1, 2, 3, 4]) [(4, vI ((k + 1 : Nat) : Int)), (3, vI ((mk : Nat) : Int)), (2, vI z_8), (1, vI z_7), (0, .ref (kad G 129))] (by simp only [lv_pick]; rfl) ?_
              exact ihw (k + 1) mk  (by omega) (by omega) (by rw [mkN_f1 (show cmpW (pV g) bt n st k = false from (by unfold cmpW; rw [← est_3, ← hob]; first | (rw [selI_1 (hz6.resolve_right (fun q1 => by omega)).2]; exact decide_eq_false (by omega)) | (rw [selI_0 (hz6.resolve_left (fun q1 => by omega)).2, selI_1 (hz2.resolve_right (fun q1 => by omega)).2]; exact decide_eq_false (by omega)) | (rw [selI_0 (hz6.resolve_left (fun q1 => by omega)).2, selI_0 (hz2.resolve_left (fun q1 => by omega)).2]; exact decide_eq_false (by omega)))), hmk])
            · refine k_goto hC 148 dX7_readComparison_128 rfl ?_
              refine k_iload_n hC dX7_readComparison_148 rfl 2 rfl ?_
              refine k_iconst hC dX7_readComparison_149 ?_
              refine k_iload hC dX7_readComparison_150 1 rfl ?_
              refine k_ishl1 hC (n := k) (by omega) dX7_readComparison_152 ?_
              refine k_iorN hC (a := mk) (b := 2 ^ k) dX7_readComparison_153 ?_
              refine k_istore_n hC [(3, vI ((mk ||| 2 ^ k : Nat) : Int)), (5, vI od), (4, vI (k : Int)), (2, vI z_8), (1, vI z_7), (0, .ref (kad G 129))] dX7_readComparison_154 rfl (by decide) rfl ?_
              refine k_iinc hC (y := (k : Int) + 1) [(4, vI ((k : Int) + 1)), (3, vI ((mk ||| 2 ^ k : Nat) : Int)), (5, vI od), (2, vI z_8), (1, vI z_7), (0, .ref (kad G 129))] (j := 2) dX7_readComparison_155 rfl (by omega) (by decide) rfl ?_
              refine k_goto hC 84 dX7_readComparison_158 rfl ?_
              refine k_lvs (ls := [0, 1, 3, 4, 5]) [(4, vI ((k : Int) + 1)), (3, vI ((mk ||| 2 ^ k : Nat) : Int)), (2, vI z_8), (1, vI z_7), (0, .ref (kad G 129))] rfl ?_
              refine k_lvs (ls := [0, 1, 2, 3, 4]) [(4, vI ((k + 1 : Nat) : Int)), (3, vI ((mk ||| 2 ^ k : Nat) : Int)), (2, vI z_8), (1, vI z_7), (0, .ref (kad G 129))] (by simp only [lv_pick]; rfl) ?_
              exact ihw (k + 1) (mk ||| 2 ^ k)  (by omega) (by omega) (by rw [mkN_t1 (show cmpW (pV g) bt n st k = true from (by unfold cmpW; rw [← est_3, ← hob]; first | (rw [selI_1 (hz6.resolve_right (fun q1 => by omega)).2]; exact decide_eq_true (by omega)) | (rw [selI_0 (hz6.resolve_left (fun q1 => by omega)).2, selI_1 (hz2.resolve_right (fun q1 => by omega)).2]; exact decide_eq_true (by omega)) | (rw [selI_0 (hz6.resolve_left (fun q1 => by omega)).2, selI_0 (hz2.resolve_left (fun q1 => by omega)).2]; exact decide_eq_true (by omega)))), hmk])
    refine k_lvs (ls := [0, 1, 2, 3, 4]) [(4, vI ((0 : Nat) : Int)), (3, vI ((0 : Nat) : Int)), (2, vI z_8), (1, vI z_7), (0, .ref (kad G 129))] (by simp only [lv_pick]; rfl) ?_
    exact loop20 ((g 2).toNat + 1) 0 0  (by omega) (by omega) rfl
  · refine k_iload_n hC dX7_readComparison_36 rfl 0 rfl ?_
    refine k_if_ne hC 60 dX7_readComparison_37 rfl (by omega) (fun c_37 => ?_) (fun c_37 => ?_)
    · refine k_aload_n hC dX7_readComparison_60 rfl 2 rfl ?_
      refine k_get hC fd_X7_18 (kl hN (by decide)) h_4 rfl dX7_readComparison_61 ?_
      obtain ⟨cn25, ea25, kd25, nm25, sa25, p925, hp925, h125, hadv25⟩ := tk_open hT2
      refine k_muvV hC (c_X10_advance l hls G hN w2 fl bt n p925 cn25 st_3.1 ea25 kd25 nm25 sa25 hn7 hp925 hb h_6 h125) yy_X10_advance wm_X7_42 (kl hN (by decide)) h125 rfl rfl rfl rfl (Nat.le_of_ble_eq_true rfl) (by decide) (by decide) ⟨by decide, by decide⟩ dX7_readComparison_64 (fun w25 hp25 => ?_)
      obtain ⟨hq25, hf25⟩ := hp25
      have hT25 := hadv25 _ hq25
      obtain ⟨st_26, est_26⟩ : ∃ z : PS, z = adP bt n st_3 := ⟨_, rfl⟩
      rw [← est_26] at hT25
      have hob : st_26 = opS bt n st_3 := by unfold opS; rw [selP_1 (Or.inr (Or.inr (hz_8.resolve_right (fun q1 => by omega)).2))]; exact est_26
      refine k_aload_n hC dX7_readComparison_67 rfl 2 rfl ?_
      refine k_aload_n hC dX7_readComparison_68 rfl 2 rfl ?_
      have h_27 : w25 129 = .inr (7, [.ref (kad G 1), .ref (kad G 3), .ref (kad G 10), .ref (kad G 130), .ref (kad G 131)]) := (hf25 129 (by decide)).trans h_4
      refine k_get hC fd_X7_15 (kl hN (by decide)) h_27 rfl dX7_readComparison_69 ?_
      refine k_aload_n hC dX7_readComparison_72 rfl 2 rfl ?_
      have h_28 : w25 2 = bA G 700 (fun j => sb8 (bt j)) := (hf25 2 (by decide)).trans h_6
      refine k_pureV hC (c_X7_propertyHere l hls G hN w25 fl bt n st_26 hn7 hb h_28 hT25 h_27) yy_X7_propertyHere wm_X7_77 (kl hN (by decide)) h_27 rfl rfl rfl rfl (Nat.le_of_ble_eq_true rfl) (by decide) (by decide) ⟨by decide, by decide⟩ dX7_readComparison_73 ?_
      refine k_topI (fun pq_29 epq_29 => ?_)
      have hpq_29 := pcM_c bt n st_26
      rw [← epq_29] at hpq_29
      have h_31 : w25 131 = iA G 12 rf0 := (hf25 131 (by decide)).trans ((hf2 131 (by decide)).trans hrf0)
      have hB_32 : kLog G w25 3 g := hLg.fr (fun j q1 q2 => (hf25 j (by omega)).trans (hf2 j (by omega)))
      have h_33 : w25 10 = .inr (0, [.ref (kad G 11), .ref (kad G 12), .ref (kad G 13), .ref (kad G 14), .ref (kad G 15), .ref (kad G 16)]) := (hf25 10 (by decide)).trans ((hf2 10 (by decide)).trans h10)
      have h_34 : w25 11 = rA G 4 12 (fun j => some (kad G (20 + j))) := (hf25 11 (by decide)).trans ((hf2 11 (by decide)).trans h11)
      have hB_35 : kDrawn w25 g 0 ((g 2).toNat) := hD.fr (fun j q1 q2 => (hf25 j (by omega)).trans (hf2 j (by omega)))
      refine k_muvV hC (c_X7_readValue131 l hls G hN w25 fl bt n st_26 g pq_29 rf0 epq_29 hn7 hb h_28 hT25 h_27 hI hB_32 h_33 h_34 hB_35 h_31) yy_X7_readValue wm_X7_80 (kl hN (by decide)) h_27 rfl rfl rfl rfl (Nat.le_of_ble_eq_true rfl) (by decide) (by decide) ⟨by decide, by decide⟩ dX7_readComparison_76 (fun w30 hp30 => ?_)
      obtain ⟨hT30, ⟨lf30, hlf30, hlv30⟩, hf30⟩ := hp30
      obtain ⟨st_36, est_36⟩ : ∃ z : PS, z = vlS bt n st_26 := ⟨_, rfl⟩
      rw [← est_36] at hT30
      refine k_iconst hC dX7_readComparison_79 ?_
      refine k_istore_n hC [(3, vI 0), (2, vI z_8), (1, vI z_7), (0, .ref (kad G 129))] dX7_readComparison_80 rfl (by decide) rfl ?_
      refine k_iconst hC dX7_readComparison_81 ?_
      refine k_istore hC [(4, vI 0), (3, vI 0), (2, vI z_8), (1, vI z_7), (0, .ref (kad G 129))] dX7_readComparison_82 (by decide) rfl ?_
      have hz6 := hz_7
      have hz2 := hz_8
      have loop36 : ∀ (nw : Nat) (k : Nat) (mk : Nat), ((g 2).toNat < nw + k) → ((k : Int) ≤ g 2) → (mk = mkN (cmpW (pV g) bt n st) k) → KW p l e R s m args below meth c 6 G Q w30 fl 0 0 84 [(4, vI (k : Int)), (3, vI ((mk : Nat) : Int)), (2, vI z_8), (1, vI z_7), (0, .ref (kad G 129))] [] := by
        intro nw
        induction nw with
        | zero =>
          intro k mk hn_w hk hmk
          exact absurd hn_w (by omega)
        | succ nw ihw =>
          intro k mk hn_w hk hmk
          refine k_iload hC dX7_readComparison_84 0 rfl ?_
          refine k_aload_n hC dX7_readComparison_86 rfl 4 rfl ?_
          have h_37 : w30 129 = .inr (7, [.ref (kad G 1), .ref (kad G 3), .ref (kad G 10), .ref (kad G 130), .ref (kad G 131)]) := (hf30 129 (by decide)).trans h_27
          refine k_get hC fd_X7_22 (kl hN (by decide)) h_37 rfl dX7_readComparison_87 ?_
          have hB_38 : kLog G w30 3 g := hB_32.fr (fun j q1 q2 => (hf30 j (by omega)))
          refine k_get hC fd_X7_64 (kl hN (by decide)) hB_38.1 rfl dX7_readComparison_90 ?_
          refine k_icmp_ge hC 161 dX7_readComparison_93 rfl (by omega) (by omega) (fun c_93 => ?_) (fun c_93 => ?_)
          · refine k_iload_n hC dX7_readComparison_161 rfl 1 rfl ?_
            have h_39 : w30 130 = iA G 12 lf2 := (hf30 130 (by decide)).trans ((hf25 130 (by decide)).trans hlf2)
            subst hQ
            exact k_iret hC hr ⟨by decide, by decide⟩ (⟨congrArg (fun z => some (vI ((z : Nat) : Int))) (by rw [hmk, show k = (g 2).toNat by omega]), rfl, (by have e : st_36 = (cmpG (pV g) bt n st).1 := (by show st_36 = vlS bt n (opS bt n (vlS bt n st)); rw [← est_3, ← hob]; exact est_36); rw [← e]; exact hT30), ⟨⟨_, h_39⟩, _, hlf30⟩, fun j hj => (hf30 j (by omega)).trans ((hf25 j (by omega)).trans (hf2 j (by omega)))⟩) dX7_readComparison_162
          · have hkg : (k : Int) < g 2 := by omega
            have hl9 := hlv2 k hkg
            have hr9 := hlv30 k hkg
            have hlb := vlW_b (bt := bt) (n := n) (st := st) hI hkg
            have hrb := vlW_b (bt := bt) (n := n) (st := st_26) hI hkg
            refine k_aload_n hC dX7_readComparison_96 rfl 4 rfl ?_
            refine k_get hC fd_X7_9 (kl hN (by decide)) h_37 rfl dX7_readComparison_97 ?_
            refine k_iload hC dX7_readComparison_100 0 rfl ?_
            have h_40 : w30 130 = iA G 12 lf2 := (hf30 130 (by decide)).trans ((hf25 130 (by decide)).trans hlf2)
            refine k_pureSN hC (c_X11_at l hls G hN w30 fl 130 (k : Int) 12 lf2 (by decide) (by omega) (by decide) h_40) yy_X11_at wm_X7_84 rfl rfl (Nat.le_of_ble_eq_true rfl) (by decide) (by decide) ⟨by decide, by decide⟩ dX7_readComparison_102 ?_
            refine k_topv (vI (lf2 k)) rfl ?_
            refine k_aload_n hC dX7_readComparison_105 rfl 4 rfl ?_
            refine k_get hC fd_X7_15 (kl hN (by decide)) h_37 rfl dX7_readComparison_106 ?_
            refine k_iload hC dX7_readComparison_109 0 rfl ?_
            refine k_pureSN hC (c_X11_at l hls G hN w30 fl 131 (k : Int) 12 lf30 (by decide) (by omega) (by decide) hlf30) yy_X11_at wm_X7_84 rfl rfl (Nat.le_of_ble_eq_true rfl) (by decide) (by decide) ⟨by decide, by decide⟩ dX7_readComparison_111 ?_
            refine k_topv (vI (lf30 k)) rfl ?_
            refine k_pureS hC (c_J6_compare_7cf53 l hls G hN w30 fl (lf2 k) (lf30 k) (by omega) (by omega)) yy_J6_compare_7cf53 wm_X7_88 rfl rfl (Nat.le_of_ble_eq_true rfl) (by decide) (by decide) ⟨by decide, by decide⟩ dX7_readComparison_114 ?_
            refine k_topI (fun od eod => ?_)
            refine k_istore hC [(5, vI od), (4, vI (k : Int)), (3, vI ((mk : Nat) : Int)), (2, vI z_8), (1, vI z_7), (0, .ref (kad G 129))] dX7_readComparison_117 (by decide) rfl ?_
            have hod : (od = -1 ∧ lf2 k < lf30 k) ∨ (od = 0 ∧ lf2 k = lf30 k) ∨ (od = 1 ∧ lf30 k < lf2 k) := by rw [eod]; by_cases q1 : lf2 k < lf30 k; (case pos => rw [if_pos q1]; exact Or.inl ⟨rfl, q1⟩); (case neg => rw [if_neg q1]; by_cases q2 : lf2 k = lf30 k; (case pos => rw [if_pos q2]; exact Or.inr (Or.inl ⟨rfl, q2⟩)); (case neg => rw [if_neg q2]; exact Or.inr (Or.inr ⟨rfl, by omega⟩)))
            refine k_iload_n hC dX7_readComparison_119 rfl 4 rfl ?_
            refine k_if_eq hC 131 dX7_readComparison_120 rfl (by omega) (fun c_120 => ?_) (fun c_120 => ?_)
            · refine k_iload_n hC dX7_readComparison_131 rfl 3 rfl ?_
              refine k_if_eq hC 143 dX7_readComparison_132 rfl (by omega) (fun c_132 => ?_) (fun c_132 => ?_)
              · refine k_iload hC dX7_readComparison_143 0 rfl ?_
                refine k_if_ne hC 155 dX7_readComparison_145 rfl (by omega) (fun c_145 => ?_) (fun c_145 => ?_)
                · refine k_iinc hC (y := (k : Int) + 1) [(4, vI ((k : Int) + 1)), (5, vI od), (3, vI ((mk : Nat) : Int)), (2, vI z_8), (1, vI z_7), (0, .ref (kad G 129))] (j := 1) dX7_readComparison_155 rfl (by omega) (by decide) rfl ?_
                  refine k_goto hC 84 dX7_readComparison_158 rfl ?_
                  refine k_lvs (ls := [0, 2, 3, 4, 5]) [(4, vI ((k : Int) + 1)), (3, vI ((mk : Nat) : Int)), (2, vI z_8), (1, vI z_7), (0, .ref (kad G 129))] rfl ?_
                  refine k_lvs (ls := [0, 1, 2, 3, 4]) [(4, vI ((k + 1 : Nat) : Int)), (3, vI ((mk : Nat) : Int)), (2, vI z_8), (1, vI z_7), (0, .ref (kad G 129))] (by simp only [lv_pick]; rfl) ?_
                  exact ihw (k + 1) mk  (by omega) (by omega) (by rw [mkN_f1 (show cmpW (pV g) bt n st k = false from (by unfold cmpW; rw [← est_3, ← hob]; first | (rw [selI_1 (hz6.resolve_right (fun q1 => by omega)).2]; exact decide_eq_false (by omega)) | (rw [selI_0 (hz6.resolve_left (fun q1 => by omega)).2, selI_1 (hz2.resolve_right (fun q1 => by omega)).2]; exact decide_eq_false (by omega)) | (rw [selI_0 (hz6.resolve_left (fun q1 => by omega)).2, selI_0 (hz2.resolve_left (fun q1 => by omega)).2]; exact decide_eq_false (by omega)))), hmk])
                · refine k_iload_n hC dX7_readComparison_148 rfl 2 rfl ?_
                  refine k_iconst hC dX7_readComparison_149 ?_
                  refine k_iload hC dX7_readComparison_150 1 rfl ?_
                  refine k_ishl1 hC (n := k) (by omega) dX7_readComparison_152 ?_
                  refine k_iorN hC (a := mk) (b := 2 ^ k) dX7_readComparison_153 ?_
                  refine k_istore_n hC [(3, vI ((mk ||| 2 ^ k : Nat) : Int)), (5, vI od), (4, vI (k : Int)), (2, vI z_8), (1, vI z_7), (0, .ref (kad G 129))] dX7_readComparison_154 rfl (by decide) rfl ?_
                  refine k_iinc hC (y := (k : Int) + 1) [(4, vI ((k : Int) + 1)), (3, vI ((mk ||| 2 ^ k : Nat) : Int)), (5, vI od), (2, vI z_8), (1, vI z_7), (0, .ref (kad G 129))] (j := 2) dX7_readComparison_155 rfl (by omega) (by decide) rfl ?_
                  refine k_goto hC 84 dX7_readComparison_158 rfl ?_
                  refine k_lvs (ls := [0, 1, 3, 4, 5]) [(4, vI ((k : Int) + 1)), (3, vI ((mk ||| 2 ^ k : Nat) : Int)), (2, vI z_8), (1, vI z_7), (0, .ref (kad G 129))] rfl ?_
                  refine k_lvs (ls := [0, 1, 2, 3, 4]) [(4, vI ((k + 1 : Nat) : Int)), (3, vI ((mk ||| 2 ^ k : Nat) : Int)), (2, vI z_8), (1, vI z_7), (0, .ref (kad G 129))] (by simp only [lv_pick]; rfl) ?_
                  exact ihw (k + 1) (mk ||| 2 ^ k)  (by omega) (by omega) (by rw [mkN_t1 (show cmpW (pV g) bt n st k = true from (by unfold cmpW; rw [← est_3, ← hob]; first | (rw [selI_1 (hz6.resolve_right (fun q1 => by omega)).2]; exact decide_eq_true (by omega)) | (rw [selI_0 (hz6.resolve_left (fun q1 => by omega)).2, selI_1 (hz2.resolve_right (fun q1 => by omega)).2]; exact decide_eq_true (by omega)) | (rw [selI_0 (hz6.resolve_left (fun q1 => by omega)).2, selI_0 (hz2.resolve_left (fun q1 => by omega)).2]; exact decide_eq_true (by omega)))), hmk])
              · refine k_iload hC dX7_readComparison_135 0 rfl ?_
                refine k_if_le hC 155 dX7_readComparison_137 rfl (by omega) (fun c_137 => ?_) (fun c_137 => ?_)
                · refine k_iinc hC (y := (k : Int) + 1) [(4, vI ((k : Int) + 1)), (5, vI od), (3, vI ((mk : Nat) : Int)), (2, vI z_8), (1, vI z_7), (0, .ref (kad G 129))] (j := 1) dX7_readComparison_155 rfl (by omega) (by decide) rfl ?_
                  refine k_goto hC 84 dX7_readComparison_158 rfl ?_
                  refine k_lvs (ls := [0, 2, 3, 4, 5]) [(4, vI ((k : Int) + 1)), (3, vI ((mk : Nat) : Int)), (2, vI z_8), (1, vI z_7), (0, .ref (kad G 129))] rfl ?_
                  refine k_lvs (ls := [0, 1, 2, 3, 4]) [(4, vI ((k + 1 : Nat) : Int)), (3, vI ((mk : Nat) : Int)), (2, vI z_8), (1, vI z_7), (0, .ref (kad G 129))] (by simp only [lv_pick]; rfl) ?_
                  exact ihw (k + 1) mk  (by omega) (by omega) (by rw [mkN_f1 (show cmpW (pV g) bt n st k = false from (by unfold cmpW; rw [← est_3, ← hob]; first | (rw [selI_1 (hz6.resolve_right (fun q1 => by omega)).2]; exact decide_eq_false (by omega)) | (rw [selI_0 (hz6.resolve_left (fun q1 => by omega)).2, selI_1 (hz2.resolve_right (fun q1 => by omega)).2]; exact decide_eq_false (by omega)) | (rw [selI_0 (hz6.resolve_left (fun q1 => by omega)).2, selI_0 (hz2.resolve_left (fun q1 => by omega)).2]; exact decide_eq_false (by omega)))), hmk])
                · refine k_goto hC 148 dX7_readComparison_140 rfl ?_
                  refine k_iload_n hC dX7_readComparison_148 rfl 2 rfl ?_
                  refine k_iconst hC dX7_readComparison_149 ?_
                  refine k_iload hC dX7_readComparison_150 1 rfl ?_
                  refine k_ishl1 hC (n := k) (by omega) dX7_readComparison_152 ?_
                  refine k_iorN hC (a := mk) (b := 2 ^ k) dX7_readComparison_153 ?_
                  refine k_istore_n hC [(3, vI ((mk ||| 2 ^ k : Nat) : Int)), (5, vI od), (4, vI (k : Int)), (2, vI z_8), (1, vI z_7), (0, .ref (kad G 129))] dX7_readComparison_154 rfl (by decide) rfl ?_
                  refine k_iinc hC (y := (k : Int) + 1) [(4, vI ((k : Int) + 1)), (3, vI ((mk ||| 2 ^ k : Nat) : Int)), (5, vI od), (2, vI z_8), (1, vI z_7), (0, .ref (kad G 129))] (j := 2) dX7_readComparison_155 rfl (by omega) (by decide) rfl ?_
                  refine k_goto hC 84 dX7_readComparison_158 rfl ?_
                  refine k_lvs (ls := [0, 1, 3, 4, 5]) [(4, vI ((k : Int) + 1)), (3, vI ((mk ||| 2 ^ k : Nat) : Int)), (2, vI z_8), (1, vI z_7), (0, .ref (kad G 129))] rfl ?_
                  refine k_lvs (ls := [0, 1, 2, 3, 4]) [(4, vI ((k + 1 : Nat) : Int)), (3, vI ((mk ||| 2 ^ k : Nat) : Int)), (2, vI z_8), (1, vI z_7), (0, .ref (kad G 129))] (by simp only [lv_pick]; rfl) ?_
                  exact ihw (k + 1) (mk ||| 2 ^ k)  (by omega) (by omega) (by rw [mkN_t1 (show cmpW (pV g) bt n st k = true from (by unfold cmpW; rw [← est_3, ← hob]; first | (rw [selI_1 (hz6.resolve_right (fun q1 => by omega)).2]; exact decide_eq_true (by omega)) | (rw [selI_0 (hz6.resolve_left (fun q1 => by omega)).2, selI_1 (hz2.resolve_right (fun q1 => by omega)).2]; exact decide_eq_true (by omega)) | (rw [selI_0 (hz6.resolve_left (fun q1 => by omega)).2, selI_0 (hz2.resolve_left (fun q1 => by omega)).2]; exact decide_eq_true (by omega)))), hmk])
            · refine k_iload hC dX7_readComparison_123 0 rfl ?_
              refine k_if_ge hC 155 dX7_readComparison_125 rfl (by omega) (fun c_125 => ?_) (fun c_125 => ?_)
              · refine k_iinc hC (y := (k : Int) + 1) [(4, vI ((k : Int) + 1)), (5, vI od), (3, vI ((mk : Nat) : Int)), (2, vI z_8), (1, vI z_7), (0, .ref (kad G 129))] (j := 1) dX7_readComparison_155 rfl (by omega) (by decide) rfl ?_
                refine k_goto hC 84 dX7_readComparison_158 rfl ?_
                refine k_lvs (ls := [0, 2, 3, 4, 5]) [(4, vI ((k : Int) + 1)), (3, vI ((mk : Nat) : Int)), (2, vI z_8), (1, vI z_7), (0, .ref (kad G 129))] rfl ?_
                refine k_lvs (ls := [0, 1, 2, 3, 4]) [(4, vI ((k + 1 : Nat) : Int)), (3, vI ((mk : Nat) : Int)), (2, vI z_8), (1, vI z_7), (0, .ref (kad G 129))] (by simp only [lv_pick]; rfl) ?_
                exact ihw (k + 1) mk  (by omega) (by omega) (by rw [mkN_f1 (show cmpW (pV g) bt n st k = false from (by unfold cmpW; rw [← est_3, ← hob]; first | (rw [selI_1 (hz6.resolve_right (fun q1 => by omega)).2]; exact decide_eq_false (by omega)) | (rw [selI_0 (hz6.resolve_left (fun q1 => by omega)).2, selI_1 (hz2.resolve_right (fun q1 => by omega)).2]; exact decide_eq_false (by omega)) | (rw [selI_0 (hz6.resolve_left (fun q1 => by omega)).2, selI_0 (hz2.resolve_left (fun q1 => by omega)).2]; exact decide_eq_false (by omega)))), hmk])
              · refine k_goto hC 148 dX7_readComparison_128 rfl ?_
                refine k_iload_n hC dX7_readComparison_148 rfl 2 rfl ?_
                refine k_iconst hC dX7_readComparison_149 ?_
                refine k_iload hC dX7_readComparison_150 1 rfl ?_
                refine k_ishl1 hC (n := k) (by omega) dX7_readComparison_152 ?_
                refine k_iorN hC (a := mk) (b := 2 ^ k) dX7_readComparison_153 ?_
                refine k_istore_n hC [(3, vI ((mk ||| 2 ^ k : Nat) : Int)), (5, vI od), (4, vI (k : Int)), (2, vI z_8), (1, vI z_7), (0, .ref (kad G 129))] dX7_readComparison_154 rfl (by decide) rfl ?_
                refine k_iinc hC (y := (k : Int) + 1) [(4, vI ((k : Int) + 1)), (3, vI ((mk ||| 2 ^ k : Nat) : Int)), (5, vI od), (2, vI z_8), (1, vI z_7), (0, .ref (kad G 129))] (j := 2) dX7_readComparison_155 rfl (by omega) (by decide) rfl ?_
                refine k_goto hC 84 dX7_readComparison_158 rfl ?_
                refine k_lvs (ls := [0, 1, 3, 4, 5]) [(4, vI ((k : Int) + 1)), (3, vI ((mk ||| 2 ^ k : Nat) : Int)), (2, vI z_8), (1, vI z_7), (0, .ref (kad G 129))] rfl ?_
                refine k_lvs (ls := [0, 1, 2, 3, 4]) [(4, vI ((k + 1 : Nat) : Int)), (3, vI ((mk ||| 2 ^ k : Nat) : Int)), (2, vI z_8), (1, vI z_7), (0, .ref (kad G 129))] (by simp only [lv_pick]; rfl) ?_
                exact ihw (k + 1) (mk ||| 2 ^ k)  (by omega) (by omega) (by rw [mkN_t1 (show cmpW (pV g) bt n st k = true from (by unfold cmpW; rw [← est_3, ← hob]; first | (rw [selI_1 (hz6.resolve_right (fun q1 => by omega)).2]; exact decide_eq_true (by omega)) | (rw [selI_0 (hz6.resolve_left (fun q1 => by omega)).2, selI_1 (hz2.resolve_right (fun q1 => by omega)).2]; exact decide_eq_true (by omega)) | (rw [selI_0 (hz6.resolve_left (fun q1 => by omega)).2, selI_0 (hz2.resolve_left (fun q1 => by omega)).2]; exact decide_eq_true (by omega)))), hmk])
      refine k_lvs (ls := [0, 1, 2, 3, 4]) [(4, vI ((0 : Nat) : Int)), (3, vI ((0 : Nat) : Int)), (2, vI z_8), (1, vI z_7), (0, .ref (kad G 129))] (by simp only [lv_pick]; rfl) ?_
      exact loop36 ((g 2).toNat + 1) 0 0  (by omega) (by omega) rfl
    · refine k_aload_n hC dX7_readComparison_40 rfl 2 rfl ?_
      refine k_get hC fd_X7_18 (kl hN (by decide)) h_4 rfl dX7_readComparison_41 ?_
      refine k_bipush hC dX7_readComparison_44 (by decide) ?_
      refine k_pureV hC (c_X10_isSign l hls G hN w2 fl bt n st_3 61 (by omega) hn7 hb h_6 hT2) yy_X10_isSign wm_X7_52 (kl hN (by decide)) h1o_5 rfl rfl rfl rfl (Nat.le_of_ble_eq_true rfl) (by decide) (by decide) ⟨by decide, by decide⟩ dX7_readComparison_46 ?_
      obtain ⟨z_41, ez_41, hz_41⟩ := selI_c (isS bt n 61 st_3)
      refine k_topv (vI z_41) (by rw [ez_41]) ?_
      refine k_if_ne hC 60 dX7_readComparison_49 rfl (by omega) (fun c_49 => ?_) (fun c_49 => ?_)
      · refine k_aload_n hC dX7_readComparison_60 rfl 2 rfl ?_
        refine k_get hC fd_X7_18 (kl hN (by decide)) h_4 rfl dX7_readComparison_61 ?_
        obtain ⟨cn42, ea42, kd42, nm42, sa42, p942, hp942, h142, hadv42⟩ := tk_open hT2
        refine k_muvV hC (c_X10_advance l hls G hN w2 fl bt n p942 cn42 st_3.1 ea42 kd42 nm42 sa42 hn7 hp942 hb h_6 h142) yy_X10_advance wm_X7_42 (kl hN (by decide)) h142 rfl rfl rfl rfl (Nat.le_of_ble_eq_true rfl) (by decide) (by decide) ⟨by decide, by decide⟩ dX7_readComparison_64 (fun w42 hp42 => ?_)
        obtain ⟨hq42, hf42⟩ := hp42
        have hT42 := hadv42 _ hq42
        obtain ⟨st_43, est_43⟩ : ∃ z : PS, z = adP bt n st_3 := ⟨_, rfl⟩
        rw [← est_43] at hT42
        have hob : st_43 = opS bt n st_3 := by unfold opS; rw [selP_1 (Or.inr (Or.inl (hz_41.resolve_right (fun q1 => by omega)).2))]; exact est_43
        refine k_aload_n hC dX7_readComparison_67 rfl 2 rfl ?_
        refine k_aload_n hC dX7_readComparison_68 rfl 2 rfl ?_
        have h_44 : w42 129 = .inr (7, [.ref (kad G 1), .ref (kad G 3), .ref (kad G 10), .ref (kad G 130), .ref (kad G 131)]) := (hf42 129 (by decide)).trans h_4
        refine k_get hC fd_X7_15 (kl hN (by decide)) h_44 rfl dX7_readComparison_69 ?_
        refine k_aload_n hC dX7_readComparison_72 rfl 2 rfl ?_
        have h_45 : w42 2 = bA G 700 (fun j => sb8 (bt j)) := (hf42 2 (by decide)).trans h_6
        refine k_pureV hC (c_X7_propertyHere l hls G hN w42 fl bt n st_43 hn7 hb h_45 hT42 h_44) yy_X7_propertyHere wm_X7_77 (kl hN (by decide)) h_44 rfl rfl rfl rfl (Nat.le_of_ble_eq_true rfl) (by decide) (by decide) ⟨by decide, by decide⟩ dX7_readComparison_73 ?_
        refine k_topI (fun pq_46 epq_46 => ?_)
        have hpq_46 := pcM_c bt n st_43
        rw [← epq_46] at hpq_46
        have h_48 : w42 131 = iA G 12 rf0 := (hf42 131 (by decide)).trans ((hf2 131 (by decide)).trans hrf0)
        have hB_49 : kLog G w42 3 g := hLg.fr (fun j q1 q2 => (hf42 j (by omega)).trans (hf2 j (by omega)))
        have h_50 : w42 10 = .inr (0, [.ref (kad G 11), .ref (kad G 12), .ref (kad G 13), .ref (kad G 14), .ref (kad G 15), .ref (kad G 16)]) := (hf42 10 (by decide)).trans ((hf2 10 (by decide)).trans h10)
        have h_51 : w42 11 = rA G 4 12 (fun j => some (kad G (20 + j))) := (hf42 11 (by decide)).trans ((hf2 11 (by decide)).trans h11)
        have hB_52 : kDrawn w42 g 0 ((g 2).toNat) := hD.fr (fun j q1 q2 => (hf42 j (by omega)).trans (hf2 j (by omega)))
        refine k_muvV hC (c_X7_readValue131 l hls G hN w42 fl bt n st_43 g pq_46 rf0 epq_46 hn7 hb h_45 hT42 h_44 hI hB_49 h_50 h_51 hB_52 h_48) yy_X7_readValue wm_X7_80 (kl hN (by decide)) h_44 rfl rfl rfl rfl (Nat.le_of_ble_eq_true rfl) (by decide) (by decide) ⟨by decide, by decide⟩ dX7_readComparison_76 (fun w47 hp47 => ?_)
        obtain ⟨hT47, ⟨lf47, hlf47, hlv47⟩, hf47⟩ := hp47
        obtain ⟨st_53, est_53⟩ : ∃ z : PS, z = vlS bt n st_43 := ⟨_, rfl⟩
        rw [← est_53] at hT47
        refine k_iconst hC dX7_readComparison_79 ?_
        refine k_istore_n hC [(3, vI 0), (2, vI z_8), (1, vI z_7), (0, .ref (kad G 129))] dX7_readComparison_80 rfl (by decide) rfl ?_
        refine k_iconst hC dX7_readComparison_81 ?_
        refine k_istore hC [(4, vI 0), (3, vI 0), (2, vI z_8), (1, vI z_7), (0, .ref (kad G 129))] dX7_readComparison_82 (by decide) rfl ?_
        have hz6 := hz_7
        have hz2 := hz_8
        have loop53 : ∀ (nw : Nat) (k : Nat) (mk : Nat), ((g 2).toNat < nw + k) → ((k : Int) ≤ g 2) → (mk = mkN (cmpW (pV g) bt n st) k) → KW p l e R s m args below meth c 6 G Q w47 fl 0 0 84 [(4, vI (k : Int)), (3, vI ((mk : Nat) : Int)), (2, vI z_8), (1, vI z_7), (0, .ref (kad G 129))] [] := by
          intro nw
          induction nw with
          | zero =>
            intro k mk hn_w hk hmk
            exact absurd hn_w (by omega)
          | succ nw ihw =>
            intro k mk hn_w hk hmk
            refine k_iload hC dX7_readComparison_84 0 rfl ?_
            refine k_aload_n hC dX7_readComparison_86 rfl 4 rfl ?_
            have h_54 : w47 129 = .inr (7, [.ref (kad G 1), .ref (kad G 3), .ref (kad G 10), .ref (kad G 130), .ref (kad G 131)]) := (hf47 129 (by decide)).trans h_44
            refine k_get hC fd_X7_22 (kl hN (by decide)) h_54 rfl dX7_readComparison_87 ?_
            have hB_55 : kLog G w47 3 g := hB_49.fr (fun j q1 q2 => (hf47 j (by omega)))
            refine k_get hC fd_X7_64 (kl hN (by decide)) hB_55.1 rfl dX7_readComparison_90 ?_
            refine k_icmp_ge hC 161 dX7_readComparison_93 rfl (by omega) (by omega) (fun c_93 => ?_) (fun c_93 => ?_)
            · refine k_iload_n hC dX7_readComparison_161 rfl 1 rfl ?_
              have h_56 : w47 130 = iA G 12 lf2 := (hf47 130 (by decide)).trans ((hf42 130 (by decide)).trans hlf2)
              subst hQ
              exact k_iret hC hr ⟨by decide, by decide⟩ (⟨congrArg (fun z => some (vI ((z : Nat) : Int))) (by rw [hmk, show k = (g 2).toNat by omega]), rfl, (by have e : st_53 = (cmpG (pV g) bt n st).1 := (by show st_53 = vlS bt n (opS bt n (vlS bt n st)); rw [← est_3, ← hob]; exact est_53); rw [← e]; exact hT47), ⟨⟨_, h_56⟩, _, hlf47⟩, fun j hj => (hf47 j (by omega)).trans ((hf42 j (by omega)).trans (hf2 j (by omega)))⟩) dX7_readComparison_162
            · have hkg : (k : Int) < g 2 := by omega
              have hl9 := hlv2 k hkg
              have hr9 := hlv47 k hkg
              have hlb := vlW_b (bt := bt) (n := n) (st := st) hI hkg
              have hrb := vlW_b (bt := bt) (n := n) (st := st_43) hI hkg
              refine k_aload_n hC dX7_readComparison_96 rfl 4 rfl ?_
              refine k_get hC fd_X7_9 (kl hN (by decide)) h_54 rfl dX7_readComparison_97 ?_
              refine k_iload hC dX7_readComparison_100 0 rfl ?_
              have h_57 : w47 130 = iA G 12 lf2 := (hf47 130 (by decide)).trans ((hf42 130 (by decide)).trans hlf2)
              refine k_pureSN hC (c_X11_at l hls G hN w47 fl 130 (k : Int) 12 lf2 (by decide) (by omega) (by decide) h_57) yy_X11_at wm_X7_84 rfl rfl (Nat.le_of_ble_eq_true rfl) (by decide) (by decide) ⟨by decide, by decide⟩ dX7_readComparison_102 ?_
              refine k_topv (vI (lf2 k)) rfl ?_
              refine k_aload_n hC dX7_readComparison_105 rfl 4 rfl ?_
              refine k_get hC fd_X7_15 (kl hN (by decide)) h_54 rfl dX7_readComparison_106 ?_
              refine k_iload hC dX7_readComparison_109 0 rfl ?_
              refine k_pureSN hC (c_X11_at l hls G hN w47 fl 131 (k : Int) 12 lf47 (by decide) (by omega) (by decide) hlf47) yy_X11_at wm_X7_84 rfl rfl (Nat.le_of_ble_eq_true rfl) (by decide) (by decide) ⟨by decide, by decide⟩ dX7_readComparison_111 ?_
              refine k_topv (vI (lf47 k)) rfl ?_
              refine k_pureS hC (c_J6_compare_7cf53 l hls G hN w47 fl (lf2 k) (lf47 k) (by omega) (by omega)) yy_J6_compare_7cf53 wm_X7_88 rfl rfl (Nat.le_of_ble_eq_true rfl) (by decide) (by decide) ⟨by decide, by decide⟩ dX7_readComparison_114 ?_
              refine k_topI (fun od eod => ?_)
              refine k_istore hC [(5, vI od), (4, vI (k : Int)), (3, vI ((mk : Nat) : Int)), (2, vI z_8), (1, vI z_7), (0, .ref (kad G 129))] dX7_readComparison_117 (by decide) rfl ?_
              have hod : (od = -1 ∧ lf2 k < lf47 k) ∨ (od = 0 ∧ lf2 k = lf47 k) ∨ (od = 1 ∧ lf47 k < lf2 k) := by rw [eod]; by_cases q1 : lf2 k < lf47 k; (case pos => rw [if_pos q1]; exact Or.inl ⟨rfl, q1⟩); (case neg => rw [if_neg q1]; by_cases q2 : lf2 k = lf47 k; (case pos => rw [if_pos q2]; exact Or.inr (Or.inl ⟨rfl, q2⟩)); (case neg => rw [if_neg q2]; exact Or.inr (Or.inr ⟨rfl, by omega⟩)))
              refine k_iload_n hC dX7_readComparison_119 rfl 4 rfl ?_
              refine k_if_eq hC 131 dX7_readComparison_120 rfl (by omega) (fun c_120 => ?_) (fun c_120 => ?_)
              · refine k_iload_n hC dX7_readComparison_131 rfl 3 rfl ?_
                refine k_if_eq hC 143 dX7_readComparison_132 rfl (by omega) (fun c_132 => ?_) (fun c_132 => ?_)
                · refine k_iload hC dX7_readComparison_143 0 rfl ?_
                  refine k_if_ne hC 155 dX7_readComparison_145 rfl (by omega) (fun c_145 => ?_) (fun c_145 => ?_)
                  · refine k_iinc hC (y := (k : Int) + 1) [(4, vI ((k : Int) + 1)), (5, vI od), (3, vI ((mk : Nat) : Int)), (2, vI z_8), (1, vI z_7), (0, .ref (kad G 129))] (j := 1) dX7_readComparison_155 rfl (by omega) (by decide) rfl ?_
                    refine k_goto hC 84 dX7_readComparison_158 rfl ?_
                    refine k_lvs (ls := [0, 2, 3, 4, 5]) [(4, vI ((k : Int) + 1)), (3, vI ((mk : Nat) : Int)), (2, vI z_8), (1, vI z_7), (0, .ref (kad G 129))] rfl ?_
                    refine k_lvs (ls := [0, 1, 2, 3, 4]) [(4, vI ((k + 1 : Nat) : Int)), (3, vI ((mk : Nat) : Int)), (2, vI z_8), (1, vI z_7), (0, .ref (kad G 129))] (by simp only [lv_pick]; rfl) ?_
                    exact ihw (k + 1) mk  (by omega) (by omega) (by rw [mkN_f1 (show cmpW (pV g) bt n st k = false from (by unfold cmpW; rw [← est_3, ← hob]; first | (rw [selI_1 (hz6.resolve_right (fun q1 => by omega)).2]; exact decide_eq_false (by omega)) | (rw [selI_0 (hz6.resolve_left (fun q1 => by omega)).2, selI_1 (hz2.resolve_right (fun q1 => by omega)).2]; exact decide_eq_false (by omega)) | (rw [selI_0 (hz6.resolve_left (fun q1 => by omega)).2, selI_0 (hz2.resolve_left (fun q1 => by omega)).2]; exact decide_eq_false (by omega)))), hmk])
                  · refine k_iload_n hC dX7_readComparison_148 rfl 2 rfl ?_
                    refine k_iconst hC dX7_readComparison_149 ?_
                    refine k_iload hC dX7_readComparison_150 1 rfl ?_
                    refine k_ishl1 hC (n := k) (by omega) dX7_readComparison_152 ?_
                    refine k_iorN hC (a := mk) (b := 2 ^ k) dX7_readComparison_153 ?_
                    refine k_istore_n hC [(3, vI ((mk ||| 2 ^ k : Nat) : Int)), (5, vI od), (4, vI (k : Int)), (2, vI z_8), (1, vI z_7), (0, .ref (kad G 129))] dX7_readComparison_154 rfl (by decide) rfl ?_
                    refine k_iinc hC (y := (k : Int) + 1) [(4, vI ((k : Int) + 1)), (3, vI ((mk ||| 2 ^ k : Nat) : Int)), (5, vI od), (2, vI z_8), (1, vI z_7), (0, .ref (kad G 129))] (j := 2) dX7_readComparison_155 rfl (by omega) (by decide) rfl ?_
                    refine k_goto hC 84 dX7_readComparison_158 rfl ?_
                    refine k_lvs (ls := [0, 1, 3, 4, 5]) [(4, vI ((k : Int) + 1)), (3, vI ((mk ||| 2 ^ k : Nat) : Int)), (2, vI z_8), (1, vI z_7), (0, .ref (kad G 129))] rfl ?_
                    refine k_lvs (ls := [0, 1, 2, 3, 4]) [(4, vI ((k + 1 : Nat) : Int)), (3, vI ((mk ||| 2 ^ k : Nat) : Int)), (2, vI z_8), (1, vI z_7), (0, .ref (kad G 129))] (by simp only [lv_pick]; rfl) ?_
                    exact ihw (k + 1) (mk ||| 2 ^ k)  (by omega) (by omega) (by rw [mkN_t1 (show cmpW (pV g) bt n st k = true from (by unfold cmpW; rw [← est_3, ← hob]; first | (rw [selI_1 (hz6.resolve_right (fun q1 => by omega)).2]; exact decide_eq_true (by omega)) | (rw [selI_0 (hz6.resolve_left (fun q1 => by omega)).2, selI_1 (hz2.resolve_right (fun q1 => by omega)).2]; exact decide_eq_true (by omega)) | (rw [selI_0 (hz6.resolve_left (fun q1 => by omega)).2, selI_0 (hz2.resolve_left (fun q1 => by omega)).2]; exact decide_eq_true (by omega)))), hmk])
                · refine k_iload hC dX7_readComparison_135 0 rfl ?_
                  refine k_if_le hC 155 dX7_readComparison_137 rfl (by omega) (fun c_137 => ?_) (fun c_137 => ?_)
                  · refine k_iinc hC (y := (k : Int) + 1) [(4, vI ((k : Int) + 1)), (5, vI od), (3, vI ((mk : Nat) : Int)), (2, vI z_8), (1, vI z_7), (0, .ref (kad G 129))] (j := 1) dX7_readComparison_155 rfl (by omega) (by decide) rfl ?_
                    refine k_goto hC 84 dX7_readComparison_158 rfl ?_
                    refine k_lvs (ls := [0, 2, 3, 4, 5]) [(4, vI ((k : Int) + 1)), (3, vI ((mk : Nat) : Int)), (2, vI z_8), (1, vI z_7), (0, .ref (kad G 129))] rfl ?_
                    refine k_lvs (ls := [0, 1, 2, 3, 4]) [(4, vI ((k + 1 : Nat) : Int)), (3, vI ((mk : Nat) : Int)), (2, vI z_8), (1, vI z_7), (0, .ref (kad G 129))] (by simp only [lv_pick]; rfl) ?_
                    exact ihw (k + 1) mk  (by omega) (by omega) (by rw [mkN_f1 (show cmpW (pV g) bt n st k = false from (by unfold cmpW; rw [← est_3, ← hob]; first | (rw [selI_1 (hz6.resolve_right (fun q1 => by omega)).2]; exact decide_eq_false (by omega)) | (rw [selI_0 (hz6.resolve_left (fun q1 => by omega)).2, selI_1 (hz2.resolve_right (fun q1 => by omega)).2]; exact decide_eq_false (by omega)) | (rw [selI_0 (hz6.resolve_left (fun q1 => by omega)).2, selI_0 (hz2.resolve_left (fun q1 => by omega)).2]; exact decide_eq_false (by omega)))), hmk])
                  · refine k_goto hC 148 dX7_readComparison_140 rfl ?_
                    refine k_iload_n hC dX7_readComparison_148 rfl 2 rfl ?_
                    refine k_iconst hC dX7_readComparison_149 ?_
                    refine k_iload hC dX7_readComparison_150 1 rfl ?_
                    refine k_ishl1 hC (n := k) (by omega) dX7_readComparison_152 ?_
                    refine k_iorN hC (a := mk) (b := 2 ^ k) dX7_readComparison_153 ?_
                    refine k_istore_n hC [(3, vI ((mk ||| 2 ^ k : Nat) : Int)), (5, vI od), (4, vI (k : Int)), (2, vI z_8), (1, vI z_7), (0, .ref (kad G 129))] dX7_readComparison_154 rfl (by decide) rfl ?_
                    refine k_iinc hC (y := (k : Int) + 1) [(4, vI ((k : Int) + 1)), (3, vI ((mk ||| 2 ^ k : Nat) : Int)), (5, vI od), (2, vI z_8), (1, vI z_7), (0, .ref (kad G 129))] (j := 2) dX7_readComparison_155 rfl (by omega) (by decide) rfl ?_
                    refine k_goto hC 84 dX7_readComparison_158 rfl ?_
                    refine k_lvs (ls := [0, 1, 3, 4, 5]) [(4, vI ((k : Int) + 1)), (3, vI ((mk ||| 2 ^ k : Nat) : Int)), (2, vI z_8), (1, vI z_7), (0, .ref (kad G 129))] rfl ?_
                    refine k_lvs (ls := [0, 1, 2, 3, 4]) [(4, vI ((k + 1 : Nat) : Int)), (3, vI ((mk ||| 2 ^ k : Nat) : Int)), (2, vI z_8), (1, vI z_7), (0, .ref (kad G 129))] (by simp only [lv_pick]; rfl) ?_
                    exact ihw (k + 1) (mk ||| 2 ^ k)  (by omega) (by omega) (by rw [mkN_t1 (show cmpW (pV g) bt n st k = true from (by unfold cmpW; rw [← est_3, ← hob]; first | (rw [selI_1 (hz6.resolve_right (fun q1 => by omega)).2]; exact decide_eq_true (by omega)) | (rw [selI_0 (hz6.resolve_left (fun q1 => by omega)).2, selI_1 (hz2.resolve_right (fun q1 => by omega)).2]; exact decide_eq_true (by omega)) | (rw [selI_0 (hz6.resolve_left (fun q1 => by omega)).2, selI_0 (hz2.resolve_left (fun q1 => by omega)).2]; exact decide_eq_true (by omega)))), hmk])
              · refine k_iload hC dX7_readComparison_123 0 rfl ?_
                refine k_if_ge hC 155 dX7_readComparison_125 rfl (by omega) (fun c_125 => ?_) (fun c_125 => ?_)
                · refine k_iinc hC (y := (k : Int) + 1) [(4, vI ((k : Int) + 1)), (5, vI od), (3, vI ((mk : Nat) : Int)), (2, vI z_8), (1, vI z_7), (0, .ref (kad G 129))] (j := 1) dX7_readComparison_155 rfl (by omega) (by decide) rfl ?_
                  refine k_goto hC 84 dX7_readComparison_158 rfl ?_
                  refine k_lvs (ls := [0, 2, 3, 4, 5]) [(4, vI ((k : Int) + 1)), (3, vI ((mk : Nat) : Int)), (2, vI z_8), (1, vI z_7), (0, .ref (kad G 129))] rfl ?_
                  refine k_lvs (ls := [0, 1, 2, 3, 4]) [(4, vI ((k + 1 : Nat) : Int)), (3, vI ((mk : Nat) : Int)), (2, vI z_8), (1, vI z_7), (0, .ref (kad G 129))] (by simp only [lv_pick]; rfl) ?_
                  exact ihw (k + 1) mk  (by omega) (by omega) (by rw [mkN_f1 (show cmpW (pV g) bt n st k = false from (by unfold cmpW; rw [← est_3, ← hob]; first | (rw [selI_1 (hz6.resolve_right (fun q1 => by omega)).2]; exact decide_eq_false (by omega)) | (rw [selI_0 (hz6.resolve_left (fun q1 => by omega)).2, selI_1 (hz2.resolve_right (fun q1 => by omega)).2]; exact decide_eq_false (by omega)) | (rw [selI_0 (hz6.resolve_left (fun q1 => by omega)).2, selI_0 (hz2.resolve_left (fun q1 => by omega)).2]; exact decide_eq_false (by omega)))), hmk])
                · refine k_goto hC 148 dX7_readComparison_128 rfl ?_
                  refine k_iload_n hC dX7_readComparison_148 rfl 2 rfl ?_
                  refine k_iconst hC dX7_readComparison_149 ?_
                  refine k_iload hC dX7_readComparison_150 1 rfl ?_
                  refine k_ishl1 hC (n := k) (by omega) dX7_readComparison_152 ?_
                  refine k_iorN hC (a := mk) (b := 2 ^ k) dX7_readComparison_153 ?_
                  refine k_istore_n hC [(3, vI ((mk ||| 2 ^ k : Nat) : Int)), (5, vI od), (4, vI (k : Int)), (2, vI z_8), (1, vI z_7), (0, .ref (kad G 129))] dX7_readComparison_154 rfl (by decide) rfl ?_
                  refine k_iinc hC (y := (k : Int) + 1) [(4, vI ((k : Int) + 1)), (3, vI ((mk ||| 2 ^ k : Nat) : Int)), (5, vI od), (2, vI z_8), (1, vI z_7), (0, .ref (kad G 129))] (j := 2) dX7_readComparison_155 rfl (by omega) (by decide) rfl ?_
                  refine k_goto hC 84 dX7_readComparison_158 rfl ?_
                  refine k_lvs (ls := [0, 1, 3, 4, 5]) [(4, vI ((k : Int) + 1)), (3, vI ((mk ||| 2 ^ k : Nat) : Int)), (2, vI z_8), (1, vI z_7), (0, .ref (kad G 129))] rfl ?_
                  refine k_lvs (ls := [0, 1, 2, 3, 4]) [(4, vI ((k + 1 : Nat) : Int)), (3, vI ((mk ||| 2 ^ k : Nat) : Int)), (2, vI z_8), (1, vI z_7), (0, .ref (kad G 129))] (by simp only [lv_pick]; rfl) ?_
                  exact ihw (k + 1) (mk ||| 2 ^ k)  (by omega) (by omega) (by rw [mkN_t1 (show cmpW (pV g) bt n st k = true from (by unfold cmpW; rw [← est_3, ← hob]; first | (rw [selI_1 (hz6.resolve_right (fun q1 => by omega)).2]; exact decide_eq_true (by omega)) | (rw [selI_0 (hz6.resolve_left (fun q1 => by omega)).2, selI_1 (hz2.resolve_right (fun q1 => by omega)).2]; exact decide_eq_true (by omega)) | (rw [selI_0 (hz6.resolve_left (fun q1 => by omega)).2, selI_0 (hz2.resolve_left (fun q1 => by omega)).2]; exact decide_eq_true (by omega)))), hmk])
        refine k_lvs (ls := [0, 1, 2, 3, 4]) [(4, vI ((0 : Nat) : Int)), (3, vI ((0 : Nat) : Int)), (2, vI z_8), (1, vI z_7), (0, .ref (kad G 129))] (by simp only [lv_pick]; rfl) ?_
        exact loop53 ((g 2).toNat + 1) 0 0  (by omega) (by omega) rfl
      · refine k_aload_n hC dX7_readComparison_52 rfl 2 rfl ?_
        refine k_get hC fd_X7_18 (kl hN (by decide)) h_4 rfl dX7_readComparison_53 ?_
        refine k_iconst hC dX7_readComparison_56 ?_
        refine k_muvV hC (c_X10_fail l hls G hN w2 fl bt n st_3 1 (by omega) hn7 hb h_6 hT2) yy_X10_fail wm_X7_60 (kl hN (by decide)) h1o_5 rfl rfl rfl rfl (Nat.le_of_ble_eq_true rfl) (by decide) (by decide) ⟨by decide, by decide⟩ dX7_readComparison_57 (fun w58 hp58 => ?_)
        obtain ⟨hT58, hf58⟩ := hp58
        obtain ⟨st_59, est_59⟩ : ∃ z : PS, z = flP 1 st_3 := ⟨_, rfl⟩
        rw [← est_59] at hT58
        refine k_aload_n hC dX7_readComparison_60 rfl 2 rfl ?_
        have h_60 : w58 129 = .inr (7, [.ref (kad G 1), .ref (kad G 3), .ref (kad G 10), .ref (kad G 130), .ref (kad G 131)]) := (hf58 129 (by decide)).trans h_4
        refine k_get hC fd_X7_18 (kl hN (by decide)) h_60 rfl dX7_readComparison_61 ?_
        obtain ⟨cn61, ea61, kd61, nm61, sa61, p961, hp961, h161, hadv61⟩ := tk_open hT58
        have h_62 : w58 2 = bA G 700 (fun j => sb8 (bt j)) := (hf58 2 (by decide)).trans h_6
        refine k_muvV hC (c_X10_advance l hls G hN w58 fl bt n p961 cn61 st_59.1 ea61 kd61 nm61 sa61 hn7 hp961 hb h_62 h161) yy_X10_advance wm_X7_42 (kl hN (by decide)) h161 rfl rfl rfl rfl (Nat.le_of_ble_eq_true rfl) (by decide) (by decide) ⟨by decide, by decide⟩ dX7_readComparison_64 (fun w61 hp61 => ?_)
        obtain ⟨hq61, hf61⟩ := hp61
        have hT61 := hadv61 _ hq61
        obtain ⟨st_63, est_63⟩ : ∃ z : PS, z = adP bt n st_59 := ⟨_, rfl⟩
        rw [← est_63] at hT61
        have hob : st_63 = opS bt n st_3 := by unfold opS; rw [selP_0 (fun q => q.elim (hz_7.resolve_left (fun q1 => by omega)).2 (fun q => q.elim (hz_41.resolve_left (fun q1 => by omega)).2 (hz_8.resolve_left (fun q1 => by omega)).2)), ← est_59]; exact est_63
        refine k_aload_n hC dX7_readComparison_67 rfl 2 rfl ?_
        refine k_aload_n hC dX7_readComparison_68 rfl 2 rfl ?_
        have h_64 : w61 129 = .inr (7, [.ref (kad G 1), .ref (kad G 3), .ref (kad G 10), .ref (kad G 130), .ref (kad G 131)]) := (hf61 129 (by decide)).trans h_60
        refine k_get hC fd_X7_15 (kl hN (by decide)) h_64 rfl dX7_readComparison_69 ?_
        refine k_aload_n hC dX7_readComparison_72 rfl 2 rfl ?_
        have h_65 : w61 2 = bA G 700 (fun j => sb8 (bt j)) := (hf61 2 (by decide)).trans h_62
        refine k_pureV hC (c_X7_propertyHere l hls G hN w61 fl bt n st_63 hn7 hb h_65 hT61 h_64) yy_X7_propertyHere wm_X7_77 (kl hN (by decide)) h_64 rfl rfl rfl rfl (Nat.le_of_ble_eq_true rfl) (by decide) (by decide) ⟨by decide, by decide⟩ dX7_readComparison_73 ?_
        refine k_topI (fun pq_66 epq_66 => ?_)
        have hpq_66 := pcM_c bt n st_63
        rw [← epq_66] at hpq_66
        have h_68 : w61 131 = iA G 12 rf0 := (hf61 131 (by decide)).trans ((hf58 131 (by decide)).trans ((hf2 131 (by decide)).trans hrf0))
        have hB_69 : kLog G w61 3 g := hLg.fr (fun j q1 q2 => (hf61 j (by omega)).trans ((hf58 j (by omega)).trans (hf2 j (by omega))))
        have h_70 : w61 10 = .inr (0, [.ref (kad G 11), .ref (kad G 12), .ref (kad G 13), .ref (kad G 14), .ref (kad G 15), .ref (kad G 16)]) := (hf61 10 (by decide)).trans ((hf58 10 (by decide)).trans ((hf2 10 (by decide)).trans h10))
        have h_71 : w61 11 = rA G 4 12 (fun j => some (kad G (20 + j))) := (hf61 11 (by decide)).trans ((hf58 11 (by decide)).trans ((hf2 11 (by decide)).trans h11))
        have hB_72 : kDrawn w61 g 0 ((g 2).toNat) := hD.fr (fun j q1 q2 => (hf61 j (by omega)).trans ((hf58 j (by omega)).trans (hf2 j (by omega))))
        refine k_muvV hC (c_X7_readValue131 l hls G hN w61 fl bt n st_63 g pq_66 rf0 epq_66 hn7 hb h_65 hT61 h_64 hI hB_69 h_70 h_71 hB_72 h_68) yy_X7_readValue wm_X7_80 (kl hN (by decide)) h_64 rfl rfl rfl rfl (Nat.le_of_ble_eq_true rfl) (by decide) (by decide) ⟨by decide, by decide⟩ dX7_readComparison_76 (fun w67 hp67 => ?_)
        obtain ⟨hT67, ⟨lf67, hlf67, hlv67⟩, hf67⟩ := hp67
        obtain ⟨st_73, est_73⟩ : ∃ z : PS, z = vlS bt n st_63 := ⟨_, rfl⟩
        rw [← est_73] at hT67
        refine k_iconst hC dX7_readComparison_79 ?_
        refine k_istore_n hC [(3, vI 0), (2, vI z_8), (1, vI z_7), (0, .ref (kad G 129))] dX7_readComparison_80 rfl (by decide) rfl ?_
        refine k_iconst hC dX7_readComparison_81 ?_
        refine k_istore hC [(4, vI 0), (3, vI 0), (2, vI z_8), (1, vI z_7), (0, .ref (kad G 129))] dX7_readComparison_82 (by decide) rfl ?_
        have hz6 := hz_7
        have hz2 := hz_8
        have loop73 : ∀ (nw : Nat) (k : Nat) (mk : Nat), ((g 2).toNat < nw + k) → ((k : Int) ≤ g 2) → (mk = mkN (cmpW (pV g) bt n st) k) → KW p l e R s m args below meth c 6 G Q w67 fl 0 0 84 [(4, vI (k : Int)), (3, vI ((mk : Nat) : Int)), (2, vI z_8), (1, vI z_7), (0, .ref (kad G 129))] [] := by
          intro nw
          induction nw with
          | zero =>
            intro k mk hn_w hk hmk
            exact absurd hn_w (by omega)
          | succ nw ihw =>
            intro k mk hn_w hk hmk
            refine k_iload hC dX7_readComparison_84 0 rfl ?_
            refine k_aload_n hC dX7_readComparison_86 rfl 4 rfl ?_
            have h_74 : w67 129 = .inr (7, [.ref (kad G 1), .ref (kad G 3), .ref (kad G 10), .ref (kad G 130), .ref (kad G 131)]) := (hf67 129 (by decide)).trans h_64
            refine k_get hC fd_X7_22 (kl hN (by decide)) h_74 rfl dX7_readComparison_87 ?_
            have hB_75 : kLog G w67 3 g := hB_69.fr (fun j q1 q2 => (hf67 j (by omega)))
            refine k_get hC fd_X7_64 (kl hN (by decide)) hB_75.1 rfl dX7_readComparison_90 ?_
            refine k_icmp_ge hC 161 dX7_readComparison_93 rfl (by omega) (by omega) (fun c_93 => ?_) (fun c_93 => ?_)
            · refine k_iload_n hC dX7_readComparison_161 rfl 1 rfl ?_
              have h_76 : w67 130 = iA G 12 lf2 := (hf67 130 (by decide)).trans ((hf61 130 (by decide)).trans ((hf58 130 (by decide)).trans hlf2))
              subst hQ
              exact k_iret hC hr ⟨by decide, by decide⟩ (⟨congrArg (fun z => some (vI ((z : Nat) : Int))) (by rw [hmk, show k = (g 2).toNat by omega]), rfl, (by have e : st_73 = (cmpG (pV g) bt n st).1 := (by show st_73 = vlS bt n (opS bt n (vlS bt n st)); rw [← est_3, ← hob]; exact est_73); rw [← e]; exact hT67), ⟨⟨_, h_76⟩, _, hlf67⟩, fun j hj => (hf67 j (by omega)).trans ((hf61 j (by omega)).trans ((hf58 j (by omega)).trans (hf2 j (by omega))))⟩) dX7_readComparison_162
            · have hkg : (k : Int) < g 2 := by omega
              have hl9 := hlv2 k hkg
              have hr9 := hlv67 k hkg
              have hlb := vlW_b (bt := bt) (n := n) (st := st) hI hkg
              have hrb := vlW_b (bt := bt) (n := n) (st := st_63) hI hkg
              refine k_aload_n hC dX7_readComparison_96 rfl 4 rfl ?_
              refine k_get hC fd_X7_9 (kl hN (by decide)) h_74 rfl dX7_readComparison_97 ?_
              refine k_iload hC dX7_readComparison_100 0 rfl ?_
              have h_77 : w67 130 = iA G 12 lf2 := (hf67 130 (by decide)).trans ((hf61 130 (by decide)).trans ((hf58 130 (by decide)).trans hlf2))
              refine k_pureSN hC (c_X11_at l hls G hN w67 fl 130 (k : Int) 12 lf2 (by decide) (by omega) (by decide) h_77) yy_X11_at wm_X7_84 rfl rfl (Nat.le_of_ble_eq_true rfl) (by decide) (by decide) ⟨by decide, by decide⟩ dX7_readComparison_102 ?_
              refine k_topv (vI (lf2 k)) rfl ?_
              refine k_aload_n hC dX7_readComparison_105 rfl 4 rfl ?_
              refine k_get hC fd_X7_15 (kl hN (by decide)) h_74 rfl dX7_readComparison_106 ?_
              refine k_iload hC dX7_readComparison_109 0 rfl ?_
              refine k_pureSN hC (c_X11_at l hls G hN w67 fl 131 (k : Int) 12 lf67 (by decide) (by omega) (by decide) hlf67) yy_X11_at wm_X7_84 rfl rfl (Nat.le_of_ble_eq_true rfl) (by decide) (by decide) ⟨by decide, by decide⟩ dX7_readComparison_111 ?_
              refine k_topv (vI (lf67 k)) rfl ?_
              refine k_pureS hC (c_J6_compare_7cf53 l hls G hN w67 fl (lf2 k) (lf67 k) (by omega) (by omega)) yy_J6_compare_7cf53 wm_X7_88 rfl rfl (Nat.le_of_ble_eq_true rfl) (by decide) (by decide) ⟨by decide, by decide⟩ dX7_readComparison_114 ?_
              refine k_topI (fun od eod => ?_)
              refine k_istore hC [(5, vI od), (4, vI (k : Int)), (3, vI ((mk : Nat) : Int)), (2, vI z_8), (1, vI z_7), (0, .ref (kad G 129))] dX7_readComparison_117 (by decide) rfl ?_
              have hod : (od = -1 ∧ lf2 k < lf67 k) ∨ (od = 0 ∧ lf2 k = lf67 k) ∨ (od = 1 ∧ lf67 k < lf2 k) := by rw [eod]; by_cases q1 : lf2 k < lf67 k; (case pos => rw [if_pos q1]; exact Or.inl ⟨rfl, q1⟩); (case neg => rw [if_neg q1]; by_cases q2 : lf2 k = lf67 k; (case pos => rw [if_pos q2]; exact Or.inr (Or.inl ⟨rfl, q2⟩)); (case neg => rw [if_neg q2]; exact Or.inr (Or.inr ⟨rfl, by omega⟩)))
              refine k_iload_n hC dX7_readComparison_119 rfl 4 rfl ?_
              refine k_if_eq hC 131 dX7_readComparison_120 rfl (by omega) (fun c_120 => ?_) (fun c_120 => ?_)
              · refine k_iload_n hC dX7_readComparison_131 rfl 3 rfl ?_
                refine k_if_eq hC 143 dX7_readComparison_132 rfl (by omega) (fun c_132 => ?_) (fun c_132 => ?_)
                · refine k_iload hC dX7_readComparison_143 0 rfl ?_
                  refine k_if_ne hC 155 dX7_readComparison_145 rfl (by omega) (fun c_145 => ?_) (fun c_145 => ?_)
                  · refine k_iinc hC (y := (k : Int) + 1) [(4, vI ((k : Int) + 1)), (5, vI od), (3, vI ((mk : Nat) : Int)), (2, vI z_8), (1, vI z_7), (0, .ref (kad G 129))] (j := 1) dX7_readComparison_155 rfl (by omega) (by decide) rfl ?_
                    refine k_goto hC 84 dX7_readComparison_158 rfl ?_
                    refine k_lvs (ls := [0, 2, 3, 4, 5]) [(4, vI ((k : Int) + 1)), (3, vI ((mk : Nat) : Int)), (2, vI z_8), (1, vI z_7), (0, .ref (kad G 129))] rfl ?_
                    refine k_lvs (ls := [0, 1, 2, 3, 4]) [(4, vI ((k + 1 : Nat) : Int)), (3, vI ((mk : Nat) : Int)), (2, vI z_8), (1, vI z_7), (0, .ref (kad G 129))] (by simp only [lv_pick]; rfl) ?_
                    exact ihw (k + 1) mk  (by omega) (by omega) (by rw [mkN_f1 (show cmpW (pV g) bt n st k = false from (by unfold cmpW; rw [← est_3, ← hob]; first | (rw [selI_1 (hz6.resolve_right (fun q1 => by omega)).2]; exact decide_eq_false (by omega)) | (rw [selI_0 (hz6.resolve_left (fun q1 => by omega)).2, selI_1 (hz2.resolve_right (fun q1 => by omega)).2]; exact decide_eq_false (by omega)) | (rw [selI_0 (hz6.resolve_left (fun q1 => by omega)).2, selI_0 (hz2.resolve_left (fun q1 => by omega)).2]; exact decide_eq_false (by omega)))), hmk])
                  · refine k_iload_n hC dX7_readComparison_148 rfl 2 rfl ?_
                    refine k_iconst hC dX7_readComparison_149 ?_
                    refine k_iload hC dX7_readComparison_150 1 rfl ?_
                    refine k_ishl1 hC (n := k) (by omega) dX7_readComparison_152 ?_
                    refine k_iorN hC (a := mk) (b := 2 ^ k) dX7_readComparison_153 ?_
                    refine k_istore_n hC [(3, vI ((mk ||| 2 ^ k : Nat) : Int)), (5, vI od), (4, vI (k : Int)), (2, vI z_8), (1, vI z_7), (0, .ref (kad G 129))] dX7_readComparison_154 rfl (by decide) rfl ?_
                    refine k_iinc hC (y := (k : Int) + 1) [(4, vI ((k : Int) + 1)), (3, vI ((mk ||| 2 ^ k : Nat) : Int)), (5, vI od), (2, vI z_8), (1, vI z_7), (0, .ref (kad G 129))] (j := 2) dX7_readComparison_155 rfl (by omega) (by decide) rfl ?_
                    refine k_goto hC 84 dX7_readComparison_158 rfl ?_
                    refine k_lvs (ls := [0, 1, 3, 4, 5]) [(4, vI ((k : Int) + 1)), (3, vI ((mk ||| 2 ^ k : Nat) : Int)), (2, vI z_8), (1, vI z_7), (0, .ref (kad G 129))] rfl ?_
                    refine k_lvs (ls := [0, 1, 2, 3, 4]) [(4, vI ((k + 1 : Nat) : Int)), (3, vI ((mk ||| 2 ^ k : Nat) : Int)), (2, vI z_8), (1, vI z_7), (0, .ref (kad G 129))] (by simp only [lv_pick]; rfl) ?_
                    exact ihw (k + 1) (mk ||| 2 ^ k)  (by omega) (by omega) (by rw [mkN_t1 (show cmpW (pV g) bt n st k = true from (by unfold cmpW; rw [← est_3, ← hob]; first | (rw [selI_1 (hz6.resolve_right (fun q1 => by omega)).2]; exact decide_eq_true (by omega)) | (rw [selI_0 (hz6.resolve_left (fun q1 => by omega)).2, selI_1 (hz2.resolve_right (fun q1 => by omega)).2]; exact decide_eq_true (by omega)) | (rw [selI_0 (hz6.resolve_left (fun q1 => by omega)).2, selI_0 (hz2.resolve_left (fun q1 => by omega)).2]; exact decide_eq_true (by omega)))), hmk])
                · refine k_iload hC dX7_readComparison_135 0 rfl ?_
                  refine k_if_le hC 155 dX7_readComparison_137 rfl (by omega) (fun c_137 => ?_) (fun c_137 => ?_)
                  · refine k_iinc hC (y := (k : Int) + 1) [(4, vI ((k : Int) + 1)), (5, vI od), (3, vI ((mk : Nat) : Int)), (2, vI z_8), (1, vI z_7), (0, .ref (kad G 129))] (j := 1) dX7_readComparison_155 rfl (by omega) (by decide) rfl ?_
                    refine k_goto hC 84 dX7_readComparison_158 rfl ?_
                    refine k_lvs (ls := [0, 2, 3, 4, 5]) [(4, vI ((k : Int) + 1)), (3, vI ((mk : Nat) : Int)), (2, vI z_8), (1, vI z_7), (0, .ref (kad G 129))] rfl ?_
                    refine k_lvs (ls := [0, 1, 2, 3, 4]) [(4, vI ((k + 1 : Nat) : Int)), (3, vI ((mk : Nat) : Int)), (2, vI z_8), (1, vI z_7), (0, .ref (kad G 129))] (by simp only [lv_pick]; rfl) ?_
                    exact ihw (k + 1) mk  (by omega) (by omega) (by rw [mkN_f1 (show cmpW (pV g) bt n st k = false from (by unfold cmpW; rw [← est_3, ← hob]; first | (rw [selI_1 (hz6.resolve_right (fun q1 => by omega)).2]; exact decide_eq_false (by omega)) | (rw [selI_0 (hz6.resolve_left (fun q1 => by omega)).2, selI_1 (hz2.resolve_right (fun q1 => by omega)).2]; exact decide_eq_false (by omega)) | (rw [selI_0 (hz6.resolve_left (fun q1 => by omega)).2, selI_0 (hz2.resolve_left (fun q1 => by omega)).2]; exact decide_eq_false (by omega)))), hmk])
                  · refine k_goto hC 148 dX7_readComparison_140 rfl ?_
                    refine k_iload_n hC dX7_readComparison_148 rfl 2 rfl ?_
                    refine k_iconst hC dX7_readComparison_149 ?_
                    refine k_iload hC dX7_readComparison_150 1 rfl ?_
                    refine k_ishl1 hC (n := k) (by omega) dX7_readComparison_152 ?_
                    refine k_iorN hC (a := mk) (b := 2 ^ k) dX7_readComparison_153 ?_
                    refine k_istore_n hC [(3, vI ((mk ||| 2 ^ k : Nat) : Int)), (5, vI od), (4, vI (k : Int)), (2, vI z_8), (1, vI z_7), (0, .ref (kad G 129))] dX7_readComparison_154 rfl (by decide) rfl ?_
                    refine k_iinc hC (y := (k : Int) + 1) [(4, vI ((k : Int) + 1)), (3, vI ((mk ||| 2 ^ k : Nat) : Int)), (5, vI od), (2, vI z_8), (1, vI z_7), (0, .ref (kad G 129))] (j := 2) dX7_readComparison_155 rfl (by omega) (by decide) rfl ?_
                    refine k_goto hC 84 dX7_readComparison_158 rfl ?_
                    refine k_lvs (ls := [0, 1, 3, 4, 5]) [(4, vI ((k : Int) + 1)), (3, vI ((mk ||| 2 ^ k : Nat) : Int)), (2, vI z_8), (1, vI z_7), (0, .ref (kad G 129))] rfl ?_
                    refine k_lvs (ls := [0, 1, 2, 3, 4]) [(4, vI ((k + 1 : Nat) : Int)), (3, vI ((mk ||| 2 ^ k : Nat) : Int)), (2, vI z_8), (1, vI z_7), (0, .ref (kad G 129))] (by simp only [lv_pick]; rfl) ?_
                    exact ihw (k + 1) (mk ||| 2 ^ k)  (by omega) (by omega) (by rw [mkN_t1 (show cmpW (pV g) bt n st k = true from (by unfold cmpW; rw [← est_3, ← hob]; first | (rw [selI_1 (hz6.resolve_right (fun q1 => by omega)).2]; exact decide_eq_true (by omega)) | (rw [selI_0 (hz6.resolve_left (fun q1 => by omega)).2, selI_1 (hz2.resolve_right (fun q1 => by omega)).2]; exact decide_eq_true (by omega)) | (rw [selI_0 (hz6.resolve_left (fun q1 => by omega)).2, selI_0 (hz2.resolve_left (fun q1 => by omega)).2]; exact decide_eq_true (by omega)))), hmk])
              · refine k_iload hC dX7_readComparison_123 0 rfl ?_
                refine k_if_ge hC 155 dX7_readComparison_125 rfl (by omega) (fun c_125 => ?_) (fun c_125 => ?_)
                · refine k_iinc hC (y := (k : Int) + 1) [(4, vI ((k : Int) + 1)), (5, vI od), (3, vI ((mk : Nat) : Int)), (2, vI z_8), (1, vI z_7), (0, .ref (kad G 129))] (j := 1) dX7_readComparison_155 rfl (by omega) (by decide) rfl ?_
                  refine k_goto hC 84 dX7_readComparison_158 rfl ?_
                  refine k_lvs (ls := [0, 2, 3, 4, 5]) [(4, vI ((k : Int) + 1)), (3, vI ((mk : Nat) : Int)), (2, vI z_8), (1, vI z_7), (0, .ref (kad G 129))] rfl ?_
                  refine k_lvs (ls := [0, 1, 2, 3, 4]) [(4, vI ((k + 1 : Nat) : Int)), (3, vI ((mk : Nat) : Int)), (2, vI z_8), (1, vI z_7), (0, .ref (kad G 129))] (by simp only [lv_pick]; rfl) ?_
                  exact ihw (k + 1) mk  (by omega) (by omega) (by rw [mkN_f1 (show cmpW (pV g) bt n st k = false from (by unfold cmpW; rw [← est_3, ← hob]; first | (rw [selI_1 (hz6.resolve_right (fun q1 => by omega)).2]; exact decide_eq_false (by omega)) | (rw [selI_0 (hz6.resolve_left (fun q1 => by omega)).2, selI_1 (hz2.resolve_right (fun q1 => by omega)).2]; exact decide_eq_false (by omega)) | (rw [selI_0 (hz6.resolve_left (fun q1 => by omega)).2, selI_0 (hz2.resolve_left (fun q1 => by omega)).2]; exact decide_eq_false (by omega)))), hmk])
                · refine k_goto hC 148 dX7_readComparison_128 rfl ?_
                  refine k_iload_n hC dX7_readComparison_148 rfl 2 rfl ?_
                  refine k_iconst hC dX7_readComparison_149 ?_
                  refine k_iload hC dX7_readComparison_150 1 rfl ?_
                  refine k_ishl1 hC (n := k) (by omega) dX7_readComparison_152 ?_
                  refine k_iorN hC (a := mk) (b := 2 ^ k) dX7_readComparison_153 ?_
                  refine k_istore_n hC [(3, vI ((mk ||| 2 ^ k : Nat) : Int)), (5, vI od), (4, vI (k : Int)), (2, vI z_8), (1, vI z_7), (0, .ref (kad G 129))] dX7_readComparison_154 rfl (by decide) rfl ?_
                  refine k_iinc hC (y := (k : Int) + 1) [(4, vI ((k : Int) + 1)), (3, vI ((mk ||| 2 ^ k : Nat) : Int)), (5, vI od), (2, vI z_8), (1, vI z_7), (0, .ref (kad G 129))] (j := 2) dX7_readComparison_155 rfl (by omega) (by decide) rfl ?_
                  refine k_goto hC 84 dX7_readComparison_158 rfl ?_
                  refine k_lvs (ls := [0, 1, 3, 4, 5]) [(4, vI ((k : Int) + 1)), (3, vI ((mk ||| 2 ^ k : Nat) : Int)), (2, vI z_8), (1, vI z_7), (0, .ref (kad G 129))] rfl ?_
                  refine k_lvs (ls := [0, 1, 2, 3, 4]) [(4, vI ((k + 1 : Nat) : Int)), (3, vI ((mk ||| 2 ^ k : Nat) : Int)), (2, vI z_8), (1, vI z_7), (0, .ref (kad G 129))] (by simp only [lv_pick]; rfl) ?_
                  exact ihw (k + 1) (mk ||| 2 ^ k)  (by omega) (by omega) (by rw [mkN_t1 (show cmpW (pV g) bt n st k = true from (by unfold cmpW; rw [← est_3, ← hob]; first | (rw [selI_1 (hz6.resolve_right (fun q1 => by omega)).2]; exact decide_eq_true (by omega)) | (rw [selI_0 (hz6.resolve_left (fun q1 => by omega)).2, selI_1 (hz2.resolve_right (fun q1 => by omega)).2]; exact decide_eq_true (by omega)) | (rw [selI_0 (hz6.resolve_left (fun q1 => by omega)).2, selI_0 (hz2.resolve_left (fun q1 => by omega)).2]; exact decide_eq_true (by omega)))), hmk])
        refine k_lvs (ls := [0, 1, 2, 3, 4]) [(4, vI ((0 : Nat) : Int)), (3, vI ((0 : Nat) : Int)), (2, vI z_8), (1, vI z_7), (0, .ref (kad G 129))] (by simp only [lv_pick]; rfl) ?_
        exact loop73 ((g 2).toNat + 1) 0 0  (by omega) (by omega) rfl

