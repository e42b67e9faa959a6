set_option maxRecDepth 100000 in
set_option maxHeartbeats 16000000 in
theorem law_undo {p : Program} {l : Launch} {e : Env} {R : Room} {s : State} {m : MethodId} {args : Array Value} {below : List Frame} {meth : Method} {c : Code} {Q : State → Prop} (hls : l.stackTraces = false) (G : kG) (hM2 : 139 ≤ kN G) (hL9 : kL G ≤ 260) (hC : kC p l R s m args meth c cL_law RL 14 G 60 1000796 6099382) (gb nl : Nat → Int) (hIb : Inv gb) (cs ss : Nat) (hcs : cs ≤ 5000 ∧ ss ≤ 20000) (hfin : ∀ (w : Nat → va_E) (fl : va_W) (cs ss : Nat) (lv : List (Nat × Value)), cs ≤ 20000 → ss ≤ 100000 → KW p l e R s m args below meth c 14 G Q w fl cs ss 419 lv [vI 1]) :
    ∀ (a : Nat) (g : Nat → Int) (hs : Nat → Nat → Int) (nx : Nat) (F : Nat → Int) (w : Nat → va_E) (fl : va_W) (x7 : Int), a ≤ 10 → nx < 10 → Inv g → plE gb g → hiR gb hs nx a F → (w 0 = srO G 1) → (kLog G w 3 g) → (kPlan G w 32 g nl) → (kCht G w) → (w 138 = lA G 10 F) → (kHist G w hs ((nx : Nat) : Int) (a : Int)) → (kLog G w 37 gb) → KW p l e R s m args below meth c 14 G Q w fl cs ss 334 [(8, vI ((a : Int) - 1)), (7, vI x7), (6, .ref (kad G 138)), (4, vL (allM gb)), (3, .ref (kad G 134)), (2, .ref (kad G 133)), (1, .ref (kad G 0)), (0, .ref (kb G))] [] := by
  have hM : 138 ≤ kN G := by omega
  have hN : 133 ≤ kN G := by omega
  intro a
  induction a with
  | zero =>
    intro g hs nx F w fl x7 ha hnx hI hpb hhi h00 hL hP hCt h138 hHi h37
    refine k_iload hC dL_law_334 0 rfl ?_
    refine k_if_lt hC 369 dL_law_336 rfl (by omega) (fun c_336 => ?_) (fun c_336 => (by omega : False).elim)
    refine k_aload_n hC dL_law_369 rfl 6 rfl ?_
    refine k_callV hC (c_X11_undo l hls G hN w fl g nl 1 hs nx ((0 : Nat) : Int) (by omega) (by omega) hHi hI h00 hL hP hCt) yy_X11_undo wm_L_244 (kl hN (by decide)) h00 rfl rfl rfl rfl (Nat.le_of_ble_eq_true rfl) (by decide) (by decide) ⟨by omega, by omega⟩ dL_law_370 (fun v1 w1 fl1 hp1 => ?_)
    obtain ⟨-, q1, q2, hp1⟩ := hp1
    subst q1
    subst q2
    obtain ⟨-, q3⟩ := hp1.resolve_right (fun q => q.1 rfl)
    have q4 := q3.symm
    subst q4
    refine k_topv (vI (-1)) rfl ?_
    show KW p l e R s m args below meth c 14 G Q w fl cs ss 373 [(8, vI (((0 : Nat) : Int) - 1)), (7, vI x7), (6, .ref (kad G 138)), (4, vL (allM gb)), (3, .ref (kad G 134)), (2, .ref (kad G 133)), (1, .ref (kad G 0)), (0, .ref (kb G))] [vI (-1)]
    refine k_iconst hC dL_law_373 ?_
    refine k_icmp_ne hC 418 dL_law_374 rfl (by omega) (by omega) (fun c_374 => absurd c_374 (by omega)) (fun c_374 => ?_)
    refine k_aload_n hC dL_law_377 rfl 6 rfl ?_
    refine k_aload_n hC dL_law_378 rfl 7 rfl ?_
    refine k_bipush hC dL_law_379 (by decide) ?_
    refine k_callS hC (c_L_cell l hls G hN w fl 35 hL9 (by omega)) yy_L_cell wm_L_23 rfl rfl (Nat.le_of_ble_eq_true rfl) (by decide) (by decide) ⟨by omega, by omega⟩ dL_law_381 (fun v2 w2 fl2 hp2 => ?_)
    obtain ⟨r2, hr2, q1, q2, q3⟩ := hp2
    subst q1
    subst q2
    subst q3
    show KW p l e R s m args below meth c 14 G Q w fl cs ss 384 [(8, vI (((0 : Nat) : Int) - 1)), (7, vI x7), (6, .ref (kad G 138)), (4, vL (allM gb)), (3, .ref (kad G 134)), (2, .ref (kad G 133)), (1, .ref (kad G 0)), (0, .ref (kb G))] [vI r2, .ref (kad G 0)]
    refine k_callS hC (c_L_areSound l hls G hN w fl g nl 1 r2 hI h00 hL hP hCt) yy_L_areSound wm_L_255 rfl rfl (Nat.le_of_ble_eq_true rfl) (by decide) (by decide) ⟨by omega, by omega⟩ dL_law_384 (fun v3 w3 fl3 hp3 => ?_)
    obtain ⟨-, q1, q2, hCt3, hf3⟩ := hp3
    subst q1
    subst q2
    show KW p l e R s m args below meth c 14 G Q w3 fl cs ss 387 [(8, vI (((0 : Nat) : Int) - 1)), (7, vI x7), (6, .ref (kad G 138)), (4, vL (allM gb)), (3, .ref (kad G 134)), (2, .ref (kad G 133)), (1, .ref (kad G 0)), (0, .ref (kb G))] [vI 1]
    refine k_if_eq hC 418 dL_law_387 rfl (by omega) (fun c_387 => absurd c_387 (by omega)) (fun c_387 => ?_)
    refine k_aload_n hC dL_law_390 rfl 6 rfl ?_
    have hc_5 : kLog G w3 37 gb := (h37.fr (fun j q1 q2 => (hf3 j (by omega))))
    have hc_6 : kHist G w3 hs ((nx : Nat) : Int) ((0 : Nat) : Int) := (hHi.fr (fun j q1 q2 => (hf3 j (by omega))))
    have h_7 : w3 0 = .inr (11, [.ref (kad G 1), .ref (kad G 32), .ref (kad G 3), .ref (kad G 37), vI 1, .ref (kad G 44), .ref (kad G 10), .ref (kad G 116), .ref (kad G 129), .ref (kad G 132)]) := (hf3 0 (by omega)).trans h00
    have hB_8 : kLog G w3 3 g := hL.fr (fun j q1 q2 => (hf3 j (by omega)))
    have hB_9 : kPlan G w3 32 g nl := hP.fr (fun j q1 q2 => (hf3 j (by omega)))
    refine k_callV hC (c_X11_restoreSnapshot l hls G hN w3 fl g nl 1 hs nx ((0 : Nat) : Int) gb hc_5 (Or.inr rfl) (by omega) (by omega) hc_6 hI h_7 hB_8 hB_9 hCt3) yy_X11_restoreSnapshot wm_L_283 (kl hN (by decide)) h_7 rfl rfl rfl rfl (Nat.le_of_ble_eq_true rfl) (by decide) (by decide) ⟨by omega, by omega⟩ dL_law_391 (fun v4 w4 fl4 hp4 => ?_)
    obtain ⟨-, q1, q2, hp4⟩ := hp4
    subst q1
    subst q2
    obtain ⟨-, hLr, hHr, hfr⟩ := hp4.resolve_left (fun q => absurd q.1 (by decide))
    rw [cpl hpb] at hLr
    have hB_10 : kPlan G w4 32 g nl := hB_9.fr (fun j q1 q2 => (hfr j (by omega)))
    have hPr := hB_10.cg hpb.sy
    have hc_11 : kLog G w4 37 gb := (hc_5.fr (fun j q1 q2 => (hfr j (by omega))))
    have hB_12 : kCht G w4 := hCt3.fr (fun j q1 q2 => (hfr j (by omega)))
    have h_13 : w4 0 = .inr (11, [.ref (kad G 1), .ref (kad G 32), .ref (kad G 3), .ref (kad G 37), vI 1, .ref (kad G 44), .ref (kad G 10), .ref (kad G 116), .ref (kad G 129), .ref (kad G 132)]) := (hfr 0 (by omega)).trans h_7
    have h_14 : w4 138 = lA G 10 F := (hfr 138 (by omega)).trans ((hf3 138 (by omega)).trans h138)
    show KW p l e R s m args below meth c 14 G Q w4 fl cs ss 394 [(8, vI (((0 : Nat) : Int) - 1)), (7, vI x7), (6, .ref (kad G 138)), (4, vL (allM gb)), (3, .ref (kad G 134)), (2, .ref (kad G 133)), (1, .ref (kad G 0)), (0, .ref (kb G))] [vI 1]
    refine k_if_eq hC 418 dL_law_394 rfl (by omega) (fun c_394 => absurd c_394 (by omega)) (fun c_394 => ?_)
    refine k_aload_n hC dL_law_397 rfl 6 rfl ?_
    refine k_callS hC (c_L_all l hls G hN w4 fl gb nl 1 hIb h_13 hLr hPr hB_12) yy_L_all wm_L_262 rfl rfl (Nat.le_of_ble_eq_true rfl) (by decide) (by decide) ⟨by omega, by omega⟩ dL_law_398 (fun v15 w15 fl15 hp15 => ?_)
    obtain ⟨-, q1, q2, hCt15, hf15⟩ := hp15
    subst q1
    subst q2
    show KW p l e R s m args below meth c 14 G Q w15 fl cs ss 401 [(8, vI (((0 : Nat) : Int) - 1)), (7, vI x7), (6, .ref (kad G 138)), (4, vL (allM gb)), (3, .ref (kad G 134)), (2, .ref (kad G 133)), (1, .ref (kad G 0)), (0, .ref (kb G))] [vL (allM gb)]
    refine k_lload hC dL_law_401 3 rfl ?_
    refine k_lcmpS hC dL_law_403 ?_
    refine k_if_ne hC 418 dL_law_404 rfl (by omega) (fun c_404 => absurd c_404 (by omega)) (fun c_404 => ?_)
    refine k_aload_n hC dL_law_407 rfl 6 rfl ?_
    have hc_17 : kHist G w15 hs ((0 : Nat) : Int) 0 := (hHr.fr (fun j q1 q2 => (hf15 j (by omega))))
    have h_18 : w15 0 = .inr (11, [.ref (kad G 1), .ref (kad G 32), .ref (kad G 3), .ref (kad G 37), vI 1, .ref (kad G 44), .ref (kad G 10), .ref (kad G 116), .ref (kad G 129), .ref (kad G 132)]) := (hf15 0 (by omega)).trans h_13
    have hB_19 : kLog G w15 3 gb := hLr.fr (fun j q1 q2 => (hf15 j (by omega)))
    have hB_20 : kPlan G w15 32 gb nl := hPr.fr (fun j q1 q2 => (hf15 j (by omega)))
    refine k_callV hC (c_X11_undoCount l hls G hN w15 fl gb nl 1 hs 0 0 (by omega) (by omega) hc_17 hIb h_18 hB_19 hB_20 hCt15) yy_X11_undoCount wm_L_270 (kl hN (by decide)) h_18 rfl rfl rfl rfl (Nat.le_of_ble_eq_true rfl) (by decide) (by decide) ⟨by omega, by omega⟩ dL_law_408 (fun v16 w16 fl16 hp16 => ?_)
    obtain ⟨-, q1, q2, q3⟩ := hp16
    subst q1
    subst q2
    have q4 := q3.symm
    subst q4
    show KW p l e R s m args below meth c 14 G Q w15 fl cs ss 411 [(8, vI (((0 : Nat) : Int) - 1)), (7, vI x7), (6, .ref (kad G 138)), (4, vL (allM gb)), (3, .ref (kad G 134)), (2, .ref (kad G 133)), (1, .ref (kad G 0)), (0, .ref (kb G))] [vI 0]
    refine k_if_ne hC 418 dL_law_411 rfl (by omega) (fun c_411 => absurd c_411 (by omega)) (fun c_411 => ?_)
    refine k_iconst hC dL_law_414 ?_
    refine k_goto hC 419 dL_law_415 rfl ?_
    exact hfin _ _ _ _ _ (by omega) (by omega)
  | succ a ih =>
    intro g hs nx F w fl x7 ha hnx hI hpb hhi h00 hL hP hCt h138 hHi h37
    refine k_iload hC dL_law_334 0 rfl ?_
    refine k_if_lt hC 369 dL_law_336 rfl (by omega) (fun c_336 => (by omega : False).elim) (fun c_336 => ?_)
    refine k_aload_n hC dL_law_339 rfl 6 rfl ?_
    refine k_callV hC (c_X11_undo l hls G hN w fl g nl 1 hs nx ((a + 1 : Nat) : Int) (by omega) (by omega) hHi hI h00 hL hP hCt) yy_X11_undo wm_L_244 (kl hN (by decide)) h00 rfl rfl rfl rfl (Nat.le_of_ble_eq_true rfl) (by decide) (by decide) ⟨by omega, by omega⟩ dL_law_340 (fun v501 w501 fl501 hp501 => ?_)
    obtain ⟨-, q1, q2, hp501⟩ := hp501
    subst q1
    subst q2
    obtain ⟨-, hLu, hHu, hfu⟩ := hp501.resolve_left (fun q => by omega)
    have hh := hhi a (by omega)
    rw [show (nx + 10 - (a + 1) + a) % 10 = (nx + 9) % 10 by omega] at hh
    obtain ⟨hIh, hph, hFh⟩ := hh
    have hpg : plE (hs ((nx + 9) % 10)) g := hph.sy.tr hpb
    rw [cpl hpg] at hLu
    rw [show (((a + 1 : Nat) : Int) - 1) = (a : Int) by omega] at hHu
    have hB_502 : kPlan G w501 32 g nl := hP.fr (fun j q1 q2 => (hfu j (by omega)))
    have hPu := hB_502.cg hpg.sy
    have hc_503 : kLog G w501 37 gb := (h37.fr (fun j q1 q2 => (hfu j (by omega))))
    have hB_504 : kCht G w501 := hCt.fr (fun j q1 q2 => (hfu j (by omega)))
    have h_505 : w501 0 = .inr (11, [.ref (kad G 1), .ref (kad G 32), .ref (kad G 3), .ref (kad G 37), vI 1, .ref (kad G 44), .ref (kad G 10), .ref (kad G 116), .ref (kad G 129), .ref (kad G 132)]) := (hfu 0 (by omega)).trans h00
    have h_506 : w501 138 = lA G 10 F := (hfu 138 (by omega)).trans h138
    refine k_topv (vI (a : Int)) (congrArg vI (by omega)) ?_
    show KW p l e R s m args below meth c 14 G Q w501 fl cs ss 343 [(8, vI (((a + 1 : Nat) : Int) - 1)), (7, vI x7), (6, .ref (kad G 138)), (4, vL (allM gb)), (3, .ref (kad G 134)), (2, .ref (kad G 133)), (1, .ref (kad G 0)), (0, .ref (kb G))] [vI (a : Int)]
    refine k_iload hC dL_law_343 0 rfl ?_
    refine k_icmp_ne hC 361 dL_law_345 rfl (by omega) (by omega) (fun c_345 => (by omega : False).elim) (fun c_345 => ?_)
    refine k_aload_n hC dL_law_348 rfl 6 rfl ?_
    refine k_callS hC (c_L_all l hls G hN w501 fl (hs ((nx + 9) % 10)) nl 1 hIh h_505 hLu hPu hB_504) yy_L_all wm_L_262 rfl rfl (Nat.le_of_ble_eq_true rfl) (by decide) (by decide) ⟨by omega, by omega⟩ dL_law_349 (fun v507 w507 fl507 hp507 => ?_)
    obtain ⟨-, q1, q2, hCt507, hf507⟩ := hp507
    subst q1
    subst q2
    show KW p l e R s m args below meth c 14 G Q w507 fl cs ss 352 [(8, vI (((a + 1 : Nat) : Int) - 1)), (7, vI x7), (6, .ref (kad G 138)), (4, vL (allM gb)), (3, .ref (kad G 134)), (2, .ref (kad G 133)), (1, .ref (kad G 0)), (0, .ref (kb G))] [vL (allM (hs ((nx + 9) % 10)))]
    refine k_aload hC dL_law_352 2 rfl ?_
    refine k_iload hC dL_law_354 0 rfl ?_
    have h_508 : w507 138 = lA G 10 F := (hf507 138 (by omega)).trans h_506
    refine k_lald hC (Nat.lt_of_lt_of_le (by decide) hM2) h_508 (by omega) (by decide) dL_law_356 ?_
    refine k_topv (vL (F ((((a + 1 : Nat) : Int) - 1).toNat))) rfl ?_
    refine k_topv (vL (allM (hs ((nx + 9) % 10)))) (congrArg vL (by rw [show (((a + 1 : Nat) : Int) - 1).toNat = a by omega]; exact hFh)) ?_
    skip
    refine k_lcmpS hC dL_law_357 ?_
    refine k_if_eq hC 363 dL_law_358 rfl (by omega) (fun c_358 => ?_) (fun c_358 => absurd c_358 (by omega))
    refine k_iinc hC (y := ((a + 1 : Nat) : Int) - 1 - 1) [(8, vI (((a + 1 : Nat) : Int) - 1 - 1)), (7, vI x7), (6, .ref (kad G 138)), (4, vL (allM gb)), (3, .ref (kad G 134)), (2, .ref (kad G 133)), (1, .ref (kad G 0)), (0, .ref (kb G))] (j := 0) dL_law_363 rfl (by omega) (by decide) rfl ?_
    refine k_goto hC 334 dL_law_366 rfl ?_
    refine k_lvs (ls := [0, 1, 2, 3, 4, 5, 6, 7]) [(8, vI ((a : Int) - 1)), (7, vI x7), (6, .ref (kad G 138)), (4, vL (allM gb)), (3, .ref (kad G 134)), (2, .ref (kad G 133)), (1, .ref (kad G 0)), (0, .ref (kb G))] (by simp only [lv_pick]; rw [show ((a + 1 : Nat) : Int) - 1 - 1 = (a : Int) - 1 by omega]; rfl) ?_
    have h_509 : w507 0 = .inr (11, [.ref (kad G 1), .ref (kad G 32), .ref (kad G 3), .ref (kad G 37), vI 1, .ref (kad G 44), .ref (kad G 10), .ref (kad G 116), .ref (kad G 129), .ref (kad G 132)]) := (hf507 0 (by omega)).trans h_505
    have hB_510 : kLog G w507 3 (hs ((nx + 9) % 10)) := hLu.fr (fun j q1 q2 => (hf507 j (by omega)))
    have hB_511 : kPlan G w507 32 (hs ((nx + 9) % 10)) nl := hPu.fr (fun j q1 q2 => (hf507 j (by omega)))
    have hc_512 : kHist G w507 hs ((((nx + 9) % 10) : Nat) : Int) (a : Int) := (hHu.fr (fun j q1 q2 => (hf507 j (by omega))))
    have hc_513 : kLog G w507 37 gb := (hc_503.fr (fun j q1 q2 => (hf507 j (by omega))))
    exact ih (hs ((nx + 9) % 10)) hs ((nx + 9) % 10) F w507 fl x7 (by omega) (by omega) hIh hph (fun r hr => by rw [show ((nx + 9) % 10 + 10 - a + r) % 10 = (nx + 10 - (a + 1) + r) % 10 by omega]; exact hhi r (by omega)) h_509 hB_510 hB_511 hCt507 h_508 hc_512 hc_513
