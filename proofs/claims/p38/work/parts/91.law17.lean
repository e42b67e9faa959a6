def z0 : Nat → Int := fun _ => 0
theorem lw_I0 : Inv z0 := Inv0
theorem lw_I1 : Inv (addLegM z0 0 0 60) := lw_I0.addLeg (by decide) (by decide) (by decide) (by decide) (by decide)
theorem lw_e : copyLM (addLegM z0 0 0 60) z0 = z0 := by
  have h : plE z0 (addLegM z0 0 0 60) := pl_leg z0 0 0 60
  exact cpl h
theorem lw_d1 : dispM (addLegM z0 0 0 60) 60 true = 600 := by decide +kernel
theorem lw_d2 : dispM (addLegM z0 0 0 60) 60 false = 0 := by decide +kernel
theorem lw_d3 : dispM z0 60 true = 0 := by decide +kernel
set_option maxRecDepth 100000 in
set_option maxHeartbeats 16000000 in
theorem law_s2 {p : Program} {l : Launch} {e : Env} {R : Room} {s : State} {m : MethodId} {args : Array Value} {below : List Frame} {meth : Method} {c : Code} {Q : State → Prop} (hls : l.stackTraces = false) (G : kG) (hG : kN G = 134) (hL9 : kL G ≤ 260) (hC : kC p l R s m args meth c cL_law RL 14 G 60 1000796 6099382) (hfin : ∀ (G1 : kG) (w : Nat → va_E) (fl : va_W) (cs ss : Nat) (lv : List (Nat × Value)), kD G1 = kD G → ksz G1 = ksz G → cs ≤ 20000 → ss ≤ 100000 → KW p l e R s m args below meth c 14 G1 Q w fl cs ss 419 lv [vI 1]) (w : Nat → va_E) (fl : va_W) (cs ss : Nat) (hcs : cs ≤ 500 ∧ ss ≤ 5000) (nl nl9 : Nat → Int) (hs : Nat → Nat → Int) (h00 : w 0 = srO G 0) (h116 : w 116 = trO G) (h129 : w 129 = qdO G) (hL : kLog G w 3 z0) (hP : kPlan G w 32 z0 nl) (hCt : kCht G w) (hHi : kHist G w hs ((0 : Nat) : Int) 0) (h37 : kLog G w 37 z0) (hP2 : kPlan G w 117 z0 nl9) (hL2 : kLog G w 122 z0) (hl0 : ∃ lf, w 130 = iA G 12 lf) (hr0 : ∃ rf, w 131 = iA G 12 rf) (hS : saR G w []) : KW p l e R s m args below meth c 14 G Q w fl cs ss 13 [(2, .ref (kad G 133)), (1, .ref (kad G 0)), (0, .ref (kb G))] [] := by
  have hN : 133 ≤ kN G := by omega
  refine k_aload_n hC dL_law_13 rfl 1 rfl ?_
  refine k_iconst hC dL_law_14 ?_
  refine k_iconst hC dL_law_15 ?_
  refine k_bipush hC dL_law_16 (by decide) ?_
  refine k_callV hC (n_X11_steer l hls G hN w fl z0 nl 0 hs 0 0 0 0 60 (by decide) (by decide) (by decide) (by decide) (by decide) hHi lw_I0 h00 hL hP hCt (by decide)) yy_X11_steer wm_L_142 (kl hN (by decide)) h00 rfl rfl rfl rfl (Nat.le_of_ble_eq_true rfl) (by decide) (by decide) ⟨by omega, by omega⟩ dL_law_18 (fun v1 w1 fl1 hp1 => ?_)
  obtain ⟨-, q1, q2, hp1⟩ := hp1
  subst q1
  subst q2
  obtain ⟨-, hLs, hHs, hfs⟩ := hp1.resolve_left (fun q => absurd q.1 (by decide))
  have hB_2 : kPlan G w1 32 z0 nl := hP.fr (fun j q1 q2 => (hfs j (by omega)))
  have hPs : kPlan G w1 32 (addLegM z0 0 0 60) nl := hB_2.cg (pl_leg z0 0 0 60)
  refine k_topv (vI 0) rfl ?_
  show KW p l e R s m args below meth c 14 G Q w1 fl cs ss 21 [(2, .ref (kad G 133)), (1, .ref (kad G 0)), (0, .ref (kb G))] [vI 0]
  refine k_if_ne hC 64 dL_law_21 rfl (by omega) (fun c_21 => absurd c_21 (by omega)) (fun c_21 => ?_)
  refine k_aload_n hC dL_law_24 rfl 1 rfl ?_
  refine k_bipush hC dL_law_25 (by decide) ?_
  refine k_iconst hC dL_law_27 ?_
  have h_3 : w1 0 = .inr (11, [.ref (kad G 1), .ref (kad G 32), .ref (kad G 3), .ref (kad G 37), vI 0, .ref (kad G 44), .ref (kad G 10), .ref (kad G 116), .ref (kad G 129), .ref (kad G 132)]) := (hfs 0 (by omega)).trans h00
  have hB_4 : kCht G w1 := hCt.fr (fun j q1 q2 => (hfs j (by omega)))
  refine k_callV hC (n_X11_displacement l hls G hN w1 fl (addLegM z0 0 0 60) nl 0 60 1 (by omega) (by decide) lw_I1 h_3 hLs hPs hB_4 (by omega)) yy_X11_displacement wm_L_225 (kl hN (by decide)) h_3 rfl rfl rfl rfl (Nat.le_of_ble_eq_true rfl) (by decide) (by decide) ⟨by omega, by omega⟩ dL_law_28 (fun v5 w5 fl5 hp5 => ?_)
  obtain ⟨-, q1, q2, hp5⟩ := hp5
  subst q1
  subst q2
  obtain ⟨hCt5, hf5⟩ := hp5
  show KW p l e R s m args below meth c 14 G Q w5 fl cs ss 31 [(2, .ref (kad G 133)), (1, .ref (kad G 0)), (0, .ref (kb G))] [vI (if 1 = 0 then dispM (addLegM z0 0 0 60) 60 false else dispM (addLegM z0 0 0 60) 60 true)]
  refine k_topv (vI (dispM (addLegM z0 0 0 60) 60 true)) rfl ?_
  refine k_topv (vI (600)) (congrArg vI (lw_d1)) ?_
  refine k_sipush hC dL_law_31 (by decide) ?_
  refine k_icmp_ne hC 64 dL_law_34 rfl (by omega) (by omega) (fun c_34 => absurd c_34 (by omega)) (fun c_34 => ?_)
  refine k_aload_n hC dL_law_37 rfl 1 rfl ?_
  refine k_bipush hC dL_law_38 (by decide) ?_
  refine k_iconst hC dL_law_40 ?_
  have h_6 : w5 0 = .inr (11, [.ref (kad G 1), .ref (kad G 32), .ref (kad G 3), .ref (kad G 37), vI 0, .ref (kad G 44), .ref (kad G 10), .ref (kad G 116), .ref (kad G 129), .ref (kad G 132)]) := (hf5 0 (by omega)).trans h_3
  have hB_7 : kLog G w5 3 (addLegM z0 0 0 60) := hLs.fr (fun j q1 q2 => (hf5 j (by omega)))
  have hB_8 : kPlan G w5 32 (addLegM z0 0 0 60) nl := hPs.fr (fun j q1 q2 => (hf5 j (by omega)))
  refine k_callV hC (n_X11_displacement l hls G hN w5 fl (addLegM z0 0 0 60) nl 0 60 0 (by omega) (by decide) lw_I1 h_6 hB_7 hB_8 hCt5 (by omega)) yy_X11_displacement wm_L_225 (kl hN (by decide)) h_6 rfl rfl rfl rfl (Nat.le_of_ble_eq_true rfl) (by decide) (by decide) ⟨by omega, by omega⟩ dL_law_41 (fun v9 w9 fl9 hp9 => ?_)
  obtain ⟨-, q1, q2, hp9⟩ := hp9
  subst q1
  subst q2
  obtain ⟨hCt9, hf9⟩ := hp9
  show KW p l e R s m args below meth c 14 G Q w9 fl cs ss 44 [(2, .ref (kad G 133)), (1, .ref (kad G 0)), (0, .ref (kb G))] [vI (if 0 = 0 then dispM (addLegM z0 0 0 60) 60 false else dispM (addLegM z0 0 0 60) 60 true)]
  refine k_topv (vI (dispM (addLegM z0 0 0 60) 60 false)) rfl ?_
  refine k_topv (vI (0)) (congrArg vI (lw_d2)) ?_
  refine k_if_ne hC 64 dL_law_44 rfl (by omega) (fun c_44 => absurd c_44 (by omega)) (fun c_44 => ?_)
  refine k_aload_n hC dL_law_47 rfl 1 rfl ?_
  have hHu : kHist G w9 (hsP hs 0 z0) ((1 : Nat) : Int) 1 := hHs.fr (fun j q1 q2 => (hf9 j (by omega)).trans (hf5 j (by omega)))
  have h_11 : w9 0 = .inr (11, [.ref (kad G 1), .ref (kad G 32), .ref (kad G 3), .ref (kad G 37), vI 0, .ref (kad G 44), .ref (kad G 10), .ref (kad G 116), .ref (kad G 129), .ref (kad G 132)]) := (hf9 0 (by omega)).trans h_6
  have hB_12 : kLog G w9 3 (addLegM z0 0 0 60) := hB_7.fr (fun j q1 q2 => (hf9 j (by omega)))
  have hB_13 : kPlan G w9 32 (addLegM z0 0 0 60) nl := hB_8.fr (fun j q1 q2 => (hf9 j (by omega)))
  refine k_callV hC (c_X11_undo l hls G hN w9 fl (addLegM z0 0 0 60) nl 0 (hsP hs 0 z0) 1 1 (by decide) (by decide) hHu lw_I1 h_11 hB_12 hB_13 hCt9) yy_X11_undo wm_L_244 (kl hN (by decide)) h_11 rfl rfl rfl rfl (Nat.le_of_ble_eq_true rfl) (by decide) (by decide) ⟨by omega, by omega⟩ dL_law_48 (fun v10 w10 fl10 hp10 => ?_)
  obtain ⟨-, q1, q2, hp10⟩ := hp10
  subst q1
  subst q2
  obtain ⟨-, hLu, hHv, hfu⟩ := hp10.resolve_left (fun q => absurd q.1 (by decide))
  have hLv : kLog G w10 3 z0 := by have h : kLog G w10 3 (copyLM (addLegM z0 0 0 60) z0) := hLu; rw [lw_e] at h; exact h
  have hB_14 : kPlan G w10 32 (addLegM z0 0 0 60) nl := hB_13.fr (fun j q1 q2 => (hfu j (by omega)))
  have hPv : kPlan G w10 32 z0 nl := hB_14.cg (pl_leg z0 0 0 60 : plE _ _).sy
  refine k_topv (vI 0) rfl ?_
  show KW p l e R s m args below meth c 14 G Q w10 fl cs ss 51 [(2, .ref (kad G 133)), (1, .ref (kad G 0)), (0, .ref (kb G))] [vI 0]
  refine k_if_ne hC 64 dL_law_51 rfl (by omega) (fun c_51 => absurd c_51 (by omega)) (fun c_51 => ?_)
  refine k_aload_n hC dL_law_54 rfl 1 rfl ?_
  refine k_bipush hC dL_law_55 (by decide) ?_
  refine k_iconst hC dL_law_57 ?_
  have h_15 : w10 0 = .inr (11, [.ref (kad G 1), .ref (kad G 32), .ref (kad G 3), .ref (kad G 37), vI 0, .ref (kad G 44), .ref (kad G 10), .ref (kad G 116), .ref (kad G 129), .ref (kad G 132)]) := (hfu 0 (by omega)).trans h_11
  have hB_16 : kCht G w10 := hCt9.fr (fun j q1 q2 => (hfu j (by omega)))
  refine k_callV hC (n_X11_displacement l hls G hN w10 fl z0 nl 0 60 1 (by omega) (by decide) lw_I0 h_15 hLv hPv hB_16 (by omega)) yy_X11_displacement wm_L_225 (kl hN (by decide)) h_15 rfl rfl rfl rfl (Nat.le_of_ble_eq_true rfl) (by decide) (by decide) ⟨by omega, by omega⟩ dL_law_58 (fun v17 w17 fl17 hp17 => ?_)
  obtain ⟨-, q1, q2, hp17⟩ := hp17
  subst q1
  subst q2
  obtain ⟨hCt17, hf17⟩ := hp17
  show KW p l e R s m args below meth c 14 G Q w17 fl cs ss 61 [(2, .ref (kad G 133)), (1, .ref (kad G 0)), (0, .ref (kb G))] [vI (if 1 = 0 then dispM z0 60 false else dispM z0 60 true)]
  refine k_topv (vI (dispM z0 60 true)) rfl ?_
  refine k_topv (vI (0)) (congrArg vI (lw_d3)) ?_
  refine k_if_eq hC 66 dL_law_61 rfl (by omega) (fun c_61 => ?_) (fun c_61 => absurd c_61 (by omega))
  refine k_aload_n hC dL_law_66 rfl 2 rfl ?_
  refine k_iconst hC dL_law_67 ?_
  have hfr9 : ∀ j, ((j < 3 ∨ 9 < j) ∧ (j < 44 ∨ 115 < j) ∧ (j < 10 ∨ 31 < j)) → w17 j = w j := fun j hj => (hf17 j (by omega)).trans ((hfu j (by omega)).trans ((hf9 j (by omega)).trans ((hf5 j (by omega)).trans (hfs j (by omega)))))
  have h_18 : w17 0 = .inr (11, [.ref (kad G 1), .ref (kad G 32), .ref (kad G 3), .ref (kad G 37), vI 0, .ref (kad G 44), .ref (kad G 10), .ref (kad G 116), .ref (kad G 129), .ref (kad G 132)]) := (hf17 0 (by omega)).trans h_15
  have hB_19 : kLog G w17 3 z0 := hLv.fr (fun j q1 q2 => (hf17 j (by omega)))
  have hB_20 : kPlan G w17 32 z0 nl := hPv.fr (fun j q1 q2 => (hf17 j (by omega)))
  have hHw : kHist G w17 (hsP hs 0 z0) ((0 : Nat) : Int) 0 := hHv.fr (fun j q1 q2 => (hf17 j (by omega)))
  refine k_callS hC (c_L_drawn l hls G hG hL9 w17 fl 0 (by decide)) yy_L_drawn wm_L_247 rfl rfl (Nat.le_of_ble_eq_true rfl) (by decide) (by decide) ⟨by omega, by omega⟩ dL_law_68 (fun v77 w77 fl77 hp77 => ?_)
  obtain ⟨ad, fl2, q1, q2, g, hg, hE, hf77⟩ := hp77
  subst q2
  have hN9 : 133 ≤ kN G := hN
  have hfr8 : ∀ j, ((j < 3 ∨ 9 < j) ∧ (j < 44 ∨ 115 < j) ∧ (j < 10 ∨ 31 < j) ∧ j < 134) → w77 j = w j := fun j hj => (hf77 j (by omega)).trans (hfr9 j (by omega))
  have hC8 := hCt17.fr (fun j q1 q2 => hf77 j (by omega))
  have hH8 := hHw.fr (fun j q1 q2 => hf77 j (by omega))
  refine k_grow (n := 4) (ad := ad) (fl2 := fl2) hN9 hC8.1.2 hH8.1.2 q1 ?_
  have e0 : kad (kgro G 4 ad) 0 = kad G 0 := kgro_ad (by omega)
  have e133 : kad (kgro G 4 ad) 133 = kad G 133 := kgro_ad (by omega)
  have key := law_s3 (e := e) (p := p) (l := l) (R := R) (s := s) (m := m) (args := args) (below := below) (meth := meth) (c := c) (Q := Q) hls (kgro G 4 ad) (by show kN G + 4 = 138; omega) hL9 (kC_gro hC 4 ad) (fun G1 w fl cs ss lv a1 a2 a3 a4 => hfin G1 w fl cs ss lv (a1.trans rfl) (a2.trans rfl) a3 a4) (grW (kgro G 4 ad) w77) fl2 (cs + 19) (ss + 83) ⟨by omega, by omega⟩ g z0 nl z0 nl9 z0 z0 (hsP hs 0 z0) 0 0 hg (hE.fr (fun j q1 q2 => grW_n (by omega))) ((grW_n (by decide)).trans ((hf77 0 (by decide)).trans (h_18.trans (gr_sr hN9)))) ((grW_n (by decide)).trans ((hfr8 116 (by decide)).trans (h116.trans (gr_tr hN9)))) ((grW_n (by decide)).trans ((hfr8 129 (by decide)).trans (h129.trans (gr_qd hN9)))) ((gr_log hN9 (by decide) (hB_19.fr (fun j q1 q2 => hf77 j (by omega)))).fr (fun j q1 q2 => grW_n (by omega))) ((gr_plan hN9 (by decide) (hB_20.fr (fun j q1 q2 => hf77 j (by omega)))).fr (fun j q1 q2 => grW_n (by omega))) (gr_cht hN9 hC8) (gr_hist hN9 hH8) ((gr_log hN9 (by decide) h37).fr (fun j q1 q2 => (grW_n (by omega)).trans (hfr8 j (by omega)))) ((gr_plan hN9 (by decide) hP2).fr (fun j q1 q2 => (grW_n (by omega)).trans (hfr8 j (by omega)))) ((gr_log hN9 (by decide) hL2).fr (fun j q1 q2 => (grW_n (by omega)).trans (hfr8 j (by omega)))) (hl0.elim (fun z hz => ⟨z, (grW_n (by decide)).trans ((hfr8 130 (by decide)).trans hz)⟩)) (hr0.elim (fun z hz => ⟨z, (grW_n (by decide)).trans ((hfr8 131 (by decide)).trans hz)⟩)) ((gr_sa hN9 hS).fr (fun j hj => (grW_n (by omega)).trans (hfr8 j (by omega))))
  rw [e0, e133] at key
  exact key
