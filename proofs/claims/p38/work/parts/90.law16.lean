set_option maxRecDepth 100000 in
set_option maxHeartbeats 16000000 in
theorem law_start {p : Program} {l : Launch} {e : Env} {R : Room} {s : State} {m : MethodId} {args : Array Value} {below : List Frame} {meth : Method} {c : Code} {Q : State → Prop} (hls : l.stackTraces = false) (G : kG) (hM2 : 139 ≤ kN G) (hL9 : kL G ≤ 260) (hC : kC p l R s m args meth c cL_law RL 14 G 60 1000796 6099382) (gb nl : Nat → Int) (hIb : Inv gb) (cs ss : Nat) (hcs : cs ≤ 5000 ∧ ss ≤ 20000) (hfin : ∀ (w : Nat → va_E) (fl : va_W) (cs ss : Nat) (lv : List (Nat × Value)), cs ≤ 20000 → ss ≤ 100000 → KW p l e R s m args below meth c 14 G Q w fl cs ss 419 lv [vI 1])
    (a : Nat) (g : Nat → Int) (hs : Nat → Nat → Int) (nx : Nat) (F : Nat → Int) (w : Nat → va_E) (fl : va_W) (k8 : Int) (ha : a ≤ 10) (hnx : nx < 10) (hI : Inv g) (hpb : plE gb g) (hhi : hiR gb hs nx a F) (h00 : w 0 = srO G 1) (hL : kLog G w 3 g) (hP : kPlan G w 32 g nl) (hCt : kCht G w) (h138 : w 138 = lA G 10 F) (hHi : kHist G w hs ((nx : Nat) : Int) (a : Int)) (h37 : kLog G w 37 gb) : KW p l e R s m args below meth c 14 G Q w fl cs ss 328 [(8, vI k8), (7, vI (a : Int)), (6, .ref (kad G 138)), (4, vL (allM gb)), (3, .ref (kad G 134)), (2, .ref (kad G 133)), (1, .ref (kad G 0)), (0, .ref (kb G))] [] := by
  refine k_iload hC dL_law_328 1 rfl ?_
  refine k_iconst hC dL_law_330 ?_
  refine k_isub hC dL_law_331 ?_
  refine k_istore hC [(8, vI ((a : Int) - 1)), (7, vI (a : Int)), (6, .ref (kad G 138)), (4, vL (allM gb)), (3, .ref (kad G 134)), (2, .ref (kad G 133)), (1, .ref (kad G 0)), (0, .ref (kb G))] dL_law_332 (by decide) rfl ?_
  exact law_undo hls G hM2 hL9 hC gb nl hIb cs ss hcs hfin a g hs nx F w fl (a : Int) ha hnx hI hpb hhi h00 hL hP hCt h138 hHi h37
set_option maxRecDepth 100000 in
set_option maxHeartbeats 16000000 in
theorem law_s3 {p : Program} {l : Launch} {e : Env} {R : Room} {s : State} {m : MethodId} {args : Array Value} {below : List Frame} {meth : Method} {c : Code} {Q : State → Prop} (hls : l.stackTraces = false) (G : kG) (hG : kN G = 138) (hL9 : kL G ≤ 260) (hC : kC p l R s m args meth c cL_law RL 14 G 60 1000796 6099382) (hfin : ∀ (G1 : kG) (w : Nat → va_E) (fl : va_W) (cs ss : Nat) (lv : List (Nat × Value)), kD G1 = kD G → ksz G1 = ksz G → cs ≤ 20000 → ss ≤ 100000 → KW p l e R s m args below meth c 14 G1 Q w fl cs ss 419 lv [vI 1]) (w : Nat → va_E) (fl : va_W) (cs ss : Nat) (hcs : cs ≤ 1000 ∧ ss ≤ 10000) (g z nl0 gp nl9 gl0 gs : Nat → Int) (hs : Nat → Nat → Int) (nx : Nat) (cn : Int) (hg : drG g) (hE : owR G w fl g) (h00 : w 0 = srO G 0) (h116 : w 116 = trO G) (h129 : w 129 = qdO G) (hL : kLog G w 3 z) (hP : kPlan G w 32 z nl0) (hCt : kCht G w) (hHi : kHist G w hs (nx : Int) cn) (h37 : kLog G w 37 gs) (hP2 : kPlan G w 117 gp nl9) (hL2 : kLog G w 122 gl0) (hl0 : ∃ lf, w 130 = iA G 12 lf) (hr0 : ∃ rf, w 131 = iA G 12 rf) (hS : saR G w []) : KW p l e R s m args below meth c 14 G Q w fl cs ss 71 [(2, .ref (kad G 133)), (1, .ref (kad G 0)), (0, .ref (kb G))] [.ref (kad G 134)] := by
  have hM : 138 ≤ kN G := by omega
  have hN : 133 ≤ kN G := by omega
  refine k_astore_n hC [(3, .ref (kad G 134)), (2, .ref (kad G 133)), (1, .ref (kad G 0)), (0, .ref (kb G))] dL_law_71 rfl (by decide) rfl ?_
  refine k_aload_n hC dL_law_72 rfl 2 rfl ?_
  refine k_aload_n hC dL_law_73 rfl 1 rfl ?_
  refine k_aload_n hC dL_law_74 rfl 0 rfl ?_
  refine k_callS hC (c_L_tell l hls G hM w fl 0 g z nl0 gp nl9 gl0 hs nx cn hg.1 hg.2.2.1 hg.2.2.2.1 hg.2.2.2.2 hE hS h00 h116 hL hP hP2 hL2 hHi) yy_L_tell wm_L_251 rfl rfl (Nat.le_of_ble_eq_true rfl) (by decide) (by decide) ⟨by omega, by omega⟩ dL_law_75 (fun v1 w1 fl1 hp1 => ?_)
  obtain ⟨q1, q2, hS1, h001, -, ⟨g1, nl, hgE, hI1, hL1, hP1⟩, hHi1, hf1⟩ := hp1
  subst q1
  subst q2
  have hE1 : owR G w1 fl g1 := ow_gE hgE (hE.fr (fun j q1 q2 => hf1 j (by omega)))
  have hCt1 : kCht G w1 := hCt.fr (fun j q1 q2 => hf1 j (by omega))
  have h371 : kLog G w1 37 gs := h37.fr (fun j q1 q2 => hf1 j (by omega))
  have h1291 : w1 129 = qdO G := (hf1 129 (by decide)).trans h129
  have h451 : w1 45 = rngA G := (hHi1.1.2)
  have hl1 : (∃ lf, w1 130 = iA G 12 lf) := hl0.elim (fun z hz => ⟨z, (hf1 130 (by decide)).trans hz⟩)
  have hr1 : (∃ rf, w1 131 = iA G 12 rf) := hr0.elim (fun z hz => ⟨z, (hf1 131 (by decide)).trans hz⟩)
  refine k_topv (vI (g1 2)) (congrArg vI (hgE.1 2 (by decide)).symm) ?_
  show KW p l e R s m args below meth c 14 G Q w1 fl (cs + 8) (ss + 48) 78 [(3, .ref (kad G 134)), (2, .ref (kad G 133)), (1, .ref (kad G 0)), (0, .ref (kb G))] [vI (g1 2)]
  have h1c := hI1.c
  refine k_aload_n hC dL_law_78 rfl 0 rfl ?_
  refine k_getN hC fd_L_63 (kl2 hM (by decide)) hE1.1 rfl dL_law_79 ?_
  refine k_icmp_ne hC 95 dL_law_82 rfl (by omega) (by omega) (fun c_82 => absurd rfl c_82) (fun c_82 => ?_)
  refine k_aload_n hC dL_law_85 rfl 2 rfl ?_
  refine k_sipush hC dL_law_86 (by decide) ?_
  refine k_callS hC (c_L_areSound l hls G hN w1 fl g1 nl 0 500 hI1 h001 hL1 hP1 hCt1) yy_L_areSound wm_L_255 rfl rfl (Nat.le_of_ble_eq_true rfl) (by decide) (by decide) ⟨by omega, by omega⟩ dL_law_89 (fun v2 w2 fl2 hp2 => ?_)
  obtain ⟨-, q1, q2, hCt2, hf2⟩ := hp2
  subst q1
  subst q2
  show KW p l e R s m args below meth c 14 G Q w2 fl (cs + 8) (ss + 48) 92 [(3, .ref (kad G 134)), (2, .ref (kad G 133)), (1, .ref (kad G 0)), (0, .ref (kb G))] [vI 1]
  refine k_if_ne hC 97 dL_law_92 rfl (by omega) (fun c_92 => ?_) (fun c_92 => absurd c_92 (by omega))
  refine k_aload_n hC dL_law_97 rfl 2 rfl ?_
  have hc_4 : kLog G w2 37 gs := (h371.fr (fun j q1 q2 => (hf2 j (by omega))))
  have hc_5 : kHist G w2 hs ((0 : Nat) : Int) 0 := (hHi1.fr (fun j q1 q2 => (hf2 j (by omega))))
  have h_6 : w2 0 = .inr (11, [.ref (kad G 1), .ref (kad G 32), .ref (kad G 3), .ref (kad G 37), vI 0, .ref (kad G 44), .ref (kad G 10), .ref (kad G 116), .ref (kad G 129), .ref (kad G 132)]) := (hf2 0 (by omega)).trans h001
  have hB_7 : kLog G w2 3 g1 := hL1.fr (fun j q1 q2 => (hf2 j (by omega)))
  have hB_8 : kPlan G w2 32 g1 nl := hP1.fr (fun j q1 q2 => (hf2 j (by omega)))
  refine k_callV hC (c_X11_saveSnapshot l hls G hN w2 fl g1 nl 0 hs 0 0 gs hc_4 (by decide) (by omega) hc_5 hI1 h_6 hB_7 hB_8 hCt2) yy_X11_saveSnapshot wm_L_259 (kl hN (by decide)) h_6 rfl rfl rfl rfl (Nat.le_of_ble_eq_true rfl) (by decide) (by decide) ⟨by omega, by omega⟩ dL_law_98 (fun v3 w3 fl3 hp3 => ?_)
  obtain ⟨q1, q2, h00s, h37s, hfs⟩ := hp3
  subst q1
  subst q2
  show KW p l e R s m args below meth c 14 G Q w3 fl (cs + 8) (ss + 48) 101 [(3, .ref (kad G 134)), (2, .ref (kad G 133)), (1, .ref (kad G 0)), (0, .ref (kb G))] []
  refine k_aload_n hC dL_law_101 rfl 2 rfl ?_
  have hB_10 : kLog G w3 3 g1 := hB_7.fr (fun j q1 q2 => (hfs j (by omega)))
  have hB_11 : kPlan G w3 32 g1 nl := hB_8.fr (fun j q1 q2 => (hfs j (by omega)))
  have hB_12 : kCht G w3 := hCt2.fr (fun j q1 q2 => (hfs j (by omega)))
  refine k_callS hC (c_L_all l hls G hN w3 fl g1 nl 1 hI1 h00s hB_10 hB_11 hB_12) yy_L_all wm_L_262 rfl rfl (Nat.le_of_ble_eq_true rfl) (by decide) (by decide) ⟨by omega, by omega⟩ dL_law_102 (fun v9 w9 fl9 hp9 => ?_)
  obtain ⟨-, q1, q2, hCt9, hf9⟩ := hp9
  subst q1
  subst q2
  show KW p l e R s m args below meth c 14 G Q w9 fl (cs + 8) (ss + 48) 105 [(3, .ref (kad G 134)), (2, .ref (kad G 133)), (1, .ref (kad G 0)), (0, .ref (kb G))] [vL (allM g1)]
  refine k_lstore hC [(4, vL (allM g1)), (3, .ref (kad G 134)), (2, .ref (kad G 133)), (1, .ref (kad G 0)), (0, .ref (kb G))] dL_law_105 (by decide) rfl ?_
  refine k_bipush hC dL_law_107 (by decide) ?_
  refine c_newl hC (n := 10) (by decide) ⟨by omega, by omega⟩ dL_law_109 (fun x9 => ?_)
  show KW p l e R s m args below meth c 14 G Q w9 (fl ++ [(x9, lA G 10 (fun _ => 0))]) (cs + 8 + 1) (ss + 48 + 10) 111 [(4, vL (allM g1)), (3, .ref (kad G 134)), (2, .ref (kad G 133)), (1, .ref (kad G 0)), (0, .ref (kb G))] [.ref x9]
  refine k_astore hC [(6, .ref x9), (4, vL (allM g1)), (3, .ref (kad G 134)), (2, .ref (kad G 133)), (1, .ref (kad G 0)), (0, .ref (kb G))] dL_law_111 (by decide) rfl ?_
  refine k_iconst hC dL_law_113 ?_
  refine k_istore hC [(7, vI 0), (6, .ref x9), (4, vL (allM g1)), (3, .ref (kad G 134)), (2, .ref (kad G 133)), (1, .ref (kad G 0)), (0, .ref (kb G))] dL_law_114 (by decide) rfl ?_
  refine k_iconst hC dL_law_116 ?_
  refine k_istore hC [(8, vI 0), (7, vI 0), (6, .ref x9), (4, vL (allM g1)), (3, .ref (kad G 134)), (2, .ref (kad G 133)), (1, .ref (kad G 0)), (0, .ref (kb G))] dL_law_117 (by decide) rfl ?_
  have h_13 : w9 0 = .inr (11, [.ref (kad G 1), .ref (kad G 32), .ref (kad G 3), .ref (kad G 37), vI 1, .ref (kad G 44), .ref (kad G 10), .ref (kad G 116), .ref (kad G 129), .ref (kad G 132)]) := (hf9 0 (by omega)).trans h00s
  have h_14 : w9 129 = qdO G := (hf9 129 (by omega)).trans ((hfs 129 (by omega)).trans ((hf2 129 (by omega)).trans h1291))
  have hB_15 : kLog G w9 3 g1 := hB_10.fr (fun j q1 q2 => (hf9 j (by omega)))
  have hB_16 : kPlan G w9 32 g1 nl := hB_11.fr (fun j q1 q2 => (hf9 j (by omega)))
  have hc_17 : kHist G w9 hs ((0 : Nat) : Int) 0 := (hc_5.fr (fun j q1 q2 => (hf9 j (by omega)).trans (hfs j (by omega))))
  have hc_18 : kLog G w9 37 g1 := (h37s.fr (fun j q1 q2 => (hf9 j (by omega))))
  have hc_19 : owR G w9 fl g1 := (hE1.fr (fun j q1 q2 => (hf9 j (by omega)).trans ((hfs j (by omega)).trans (hf2 j (by omega)))))
  have hc_20 : saR G w9 [] := (hS1.fr (fun j hj => (hf9 j (by omega)).trans ((hfs j (by omega)).trans (hf2 j (by omega)))))
  have hc_21 : (∃ lf, w9 130 = iA G 12 lf) := (hl1.elim (fun z hz => ⟨z, ((hf9 130 (by omega)).trans ((hfs 130 (by omega)).trans (hf2 130 (by omega)))).trans hz⟩))
  have hc_22 : (∃ rf, w9 131 = iA G 12 rf) := (hr1.elim (fun z hz => ⟨z, ((hf9 131 (by omega)).trans ((hfs 131 (by omega)).trans (hf2 131 (by omega)))).trans hz⟩))
  obtain ⟨wv, hwv⟩ : ∃ wv : Nat → va_E, wv = va_up w9 138 (lA G 10 (fun _ => 0)) := ⟨_, rfl⟩
  have hv : ∀ j, j ≠ 138 → wv j = w9 j := fun j hj => by rw [hwv]; simp [va_up, hj]
  have hv8 : wv 138 = lA G 10 (fun _ => 0) := by rw [hwv]; exact va_up_self _ _ _
  obtain ⟨ad, had⟩ : ∃ ad : Nat → Nat, ad = fun _ => x9 := ⟨_, rfl⟩
  have hN9 : 133 ≤ kN G := by omega
  have e138 : kad (kgro G 1 ad) 138 = x9 := by have h := kgro_new (G := G) (n := 1) (ad := ad) 0; rw [hG, had] at h; rw [had]; exact h
  have e134 : kad (kgro G 1 ad) 134 = kad G 134 := kgro_ad (by omega)
  have e133 : kad (kgro G 1 ad) 133 = kad G 133 := kgro_ad (by omega)
  have e0 : kad (kgro G 1 ad) 0 = kad G 0 := kgro_ad (by omega)
  refine k_flby ([(x9, lA G 10 (fun _ => 0))] ++ fl) (fun k => if k < 1 then (fl).length + k else k - 1) (fun k x h => ?_) (fun i j hi hj h => ?_) ?_
  · by_cases hk : k < 1
    · rw [List.getElem?_append_left (by exact hk)] at h
      show (fl ++ _)[if k < 1 then _ else _]? = _
      rw [if_pos hk, List.getElem?_append_right (by omega), Nat.add_sub_cancel_left]; exact h
    · rw [List.getElem?_append_right (by show 1 ≤ k; omega)] at h
      have h2 : (fl)[k - 1]? = some x := h
      show (fl ++ _)[if k < 1 then _ else _]? = _
      rw [if_neg hk, List.getElem?_append_left (List.getElem?_eq_some_iff.mp h2).1]; exact h2
  · have h2 : (if i < 1 then (fl).length + i else i - 1) = (if j < 1 then (fl).length + j else j - 1) := h
    have li : i < 1 + (fl).length := by rw [List.length_append] at hi; exact hi
    have lj : j < 1 + (fl).length := by rw [List.length_append] at hj; exact hj
    split at h2 <;> split at h2 <;> omega
  refine k_sw (G1 := G) (w1 := wv) (fl1 := [(x9, lA G 10 (fun _ => 0))] ++ fl) rfl rfl (kws_w (fun k hk => hv k (by omega))) ?_
  refine k_grow (n := 1) (ad := ad) (fl2 := fl) hN9 ((hv 11 (by decide)).trans (hCt9).1.2) ((hv 45 (by decide)).trans (hc_17).1.2) (by show _ = [(ad 0, wv (kN G + 0))] ++ _; rw [hG, hv8, had]) ?_
  have hgw : ∀ j, (j ≠ 11 ∧ j ≠ 45 ∧ j ≠ 138) → grW (kgro G 1 ad) wv j = w9 j := fun j hj => (grW_n ⟨hj.1, hj.2.1⟩).trans (hv j hj.2.2)
  have key := law_loop (e := e) (p := p) (l := l) (R := R) (s := s) (m := m) (args := args) (below := below) (meth := meth) (c := c) (Q := Q) hls (kgro G 1 ad) (by show 139 ≤ kN G + 1; omega) hL9 (kC_gro hC 1 ad) g1 nl (by have h := hgE.1 0 (by decide); have h2 := hg.2.1; omega) (fun a g hs nx F w fl cs ss k8 q1 q2 q3 q4 q5 q6 q7 r1 r2 r3 r4 r5 r6 r7 r8 r9 r10 r11 r12 => law_start hls (kgro G 1 ad) (by show 139 ≤ kN G + 1; omega) hL9 (kC_gro hC 1 ad) g1 nl hI1 cs ss ⟨q3, q4⟩ (fun w fl cs ss lv t1 t2 => hfin _ w fl cs ss lv rfl rfl t1 t2) a g hs nx F w fl k8 q1 q2 q5 q6 q7 r1 r3 r4 r5 r6 r7 r8) 35 0 0 g1 hs 0 (fun _ => 0) (grW (kgro G 1 ad) wv) (fl) (cs + 8 + 1) (ss + 48 + 10) (by omega) (by omega) (by omega) (by omega) (by omega) hI1 (fun j hj => rfl) (fun r hr => absurd hr (by omega)) ((hgw 0 (by decide)).trans ((h_13).trans (gr_sr hN9))) ((hgw 129 (by decide)).trans ((h_14).trans (gr_qd hN9))) ((gr_log hN9 (by decide) hB_15).fr (fun j q1 q2 => hgw j (by omega))) ((gr_plan hN9 (by decide) hB_16).fr (fun j q1 q2 => hgw j (by omega))) (gr_cht hN9 (hCt9.fr (fun j q1 q2 => hv j (by omega)))) ((grW_n (by decide)).trans hv8) (gr_hist hN9 (hc_17.fr (fun j q1 q2 => hv j (by omega)))) ((gr_log hN9 (by decide) hc_18).fr (fun j q1 q2 => hgw j (by omega))) (gr_ow (by omega) (hc_19.fr (fun j q1 q2 => hv j (by omega)))) ((gr_sa hN9 hc_20).fr (fun j hj => hgw j (by omega))) (hc_21.elim (fun z hz => ⟨z, (hgw 130 (by decide)).trans hz⟩)) (hc_22.elim (fun z hz => ⟨z, (hgw 131 (by decide)).trans hz⟩))
  rw [e138, e134, e133, e0] at key
  exact key
