def xI (xs : Nat → Int32) (j : Nat) : Int := (xs j).toInt
theorem xI_r (xs : Nat → Int32) (j : Nat) : -2147483648 ≤ xI xs j ∧ xI xs j ≤ 2147483647 := ⟨by have := Int32.le_toInt (xs j); unfold xI; omega, by have := Int32.toInt_lt (xs j); unfold xI; omega⟩
section
variable {p : Program} {l : Launch} {e : Env} {R : Room} {s : State} {m : MethodId} {args : Array Value} {below : List Frame} {meth : Method} {c : Code} {cc : ByteArray} {own : String} {nL : Nat} {G : kG} {d0 mc0 ms0 : Nat} {Q : State → Prop} {w : Nat → va_E} {fl : va_W} {cells slots pc : Nat} {lv : List (Nat × Value)} {st : List Value}
theorem k_scr (hC : kC p l R s m args meth c cc own nL G d0 mc0 ms0) {b L : Nat} {xs : Nat → Int32} (hX : va_X b L xs s s.heap) (hbl : b < s.heap.size) (hbA : ¬ kA G b) (hL : L ≤ 3584) {j : Int} (k : Nat) (hj : j = (k : Int)) (hk : k < L) (d : decode cc pc = .ok (.iaload, 1)) (kk : KW p l e R s m args below meth c nL G Q w fl cells slots (pc + 1) lv (vI (xI xs k) :: st)) : KW p l e R s m args below meth c nL G Q w fl cells slots pc lv (vI j :: .ref b :: st) := fun H locs ls h1 h2 h3 h4 => va_sld hC.1 hC.2.1 hX hbl hbA h3 (k_in (a := j) (n := L) (by omega) (by omega)) d (by
  rw [k_nat (by omega), show j.toNat = k by omega, show xs k = Int32.ofInt (xI xs k) from (Int32.ofInt_toInt _).symm]
  exact kk H locs ls h1 h2 h3 h4)
theorem k_slen (hC : kC p l R s m args meth c cc own nL G d0 mc0 ms0) {b L : Nat} {xs : Nat → Int32} (hX : va_X b L xs s s.heap) (hbl : b < s.heap.size) (hbA : ¬ kA G b) (d : decode cc pc = .ok (.arraylength, 1)) (kk : KW p l e R s m args below meth c nL G Q w fl cells slots (pc + 1) lv (vI (L : Int) :: st)) : KW p l e R s m args below meth c nL G Q w fl cells slots pc lv (.ref b :: st) := fun H locs ls h1 h2 h3 h4 => va_slen hC.1 hC.2.1 hX hbl hbA h3 d (kk H locs ls h1 h2 h3 h4)
end
set_option maxRecDepth 100000 in
set_option maxHeartbeats 4000000 in
theorem lw_arc {p : Program} {l : Launch} {e : Env} {R : Room} {s : State} {m : MethodId} {args : Array Value} {below : List Frame} {meth : Method} {c : Code} {G : kG} {d0 mc0 ms0 : Nat} {Q : State → Prop} {b L : Nat} {xs : Nat → Int32} (hC : kC p l R s m args meth c cL_law RL 10 G d0 mc0 ms0) (hls : l.stackTraces = false) (hN : kN G = 150) (hNc : va_Nc "java/lang/IllegalArgumentException" "java/util/NoSuchElementException" s) (hX : va_X b L xs s s.heap) (hbl : b < s.heap.size) (hbA : ¬ kA G b) (hL : L ≤ 3584) (hd0 : 60 ≤ d0) {cs ss : Nat} (hcs : cs + 16 ≤ mc0 ∧ ss + 400 ≤ ms0) (i : Nat) (hi : i + 7 ≤ L) (w : Nat → va_E) (fl : va_W) (hLI : LI G w fl)
    (kk : ∀ (w' : Nat → va_E) (fl' : va_W) (cs' ss' : Nat), LI G w' fl' → cs' ≤ cs + 16 → ss' ≤ ss + 400 → KW p l e R s m args below meth c 10 G Q w' fl' cs' ss' 2319 [(5, vI (i : Int)), (4, .ref (kad G 149)), (3, .ref (kad G 148)), (2, .ref (kad G 133)), (1, .ref (kad G 0)), (0, .ref b)] []) : KW p l e R s m args below meth c 10 G Q w fl cs ss 367 [(5, vI (i : Int)), (4, .ref (kad G 149)), (3, .ref (kad G 148)), (2, .ref (kad G 133)), (1, .ref (kad G 0)), (0, .ref b)] [] := by
  obtain ⟨bt, gc, nl, gp0, nl9, gl0, gs, c0, nx, cn, cap, cd, ea, kd, nm, sa, nx9, en, sv, hs, T, u, gr, D0, sp, H, hc, hm, ho, hr, hw, hT⟩ := hLI
  have hc1 := hc
  have hm1 := hm
  have hr1 := hr
  have ho1 := ho
  obtain ⟨⟨a0, asv⟩, a1, ⟨a2, abt, ac7⟩, a3, a4, a5, a6, ⟨a7, anx, acn⟩, ⟨a8, a9, a10⟩, ⟨a11, a12, a13⟩, a14⟩ := hc1
  obtain ⟨b0, b1, b2, b3, b4, b5, b6, b7, ⟨cf, b8⟩, ⟨fq, b9⟩⟩ := hm1
  obtain ⟨⟨out, o1⟩, ⟨oD, o2⟩⟩ := ho1
  obtain ⟨r0, r1, r2, r3, r4, r5, r6⟩ := hr1
  have hI := r0.inv
  have hIr := r0.2.1
  have hE := r0.1
  have e0 := hE.n 0 (by decide)
  have e1 := hE.n 1 (by decide)
  have e2 := hE.n 2 (by decide)
  have hgc := hI.c
  refine k_aload_n hC dL_law_367 rfl 4 rfl ?_
  refine k_aload_n hC dL_law_368 rfl 5 rfl ?_
  refine k_iload hC dL_law_369 0 rfl ?_
  refine k_iconst hC dL_law_371 ?_
  refine k_iadd hC dL_law_372 ?_
  refine k_scr hC hX hbl hbA hL (i + 1) (by omega) (by omega) dL_law_373 ?_
  refine k_aload_n hC dL_law_374 rfl 2 rfl ?_
  refine k_callL hC hNc (n := 3) (c_L_arc l hls G hN w fl gc nl sv (xI xs (i + 1)) out (xI_r xs _) hI a0 a3 a4 a5 o1) wc_L_arc wz_L (by decide +kernel) wt_L_arc wm_L_125 rfl rfl (Nat.le_of_ble_eq_true rfl) (by omega) (by omega) ⟨by omega, by omega⟩ dL_law_375 (fun v1 w1 fl1 hp => ?_)
  rcases hp with ⟨hv, hcc, w2, hP, h148, hf2⟩ | ⟨hP, ⟨hcc, hv⟩ | ⟨hcc, hv⟩⟩
  · subst hv
    obtain ⟨hfl, hP⟩ := hP
    subst hfl
    obtain ⟨hCh, hfP⟩ := hP
    have hCh1 : kCht G w1 := hCh.fr (fun j q1 q2 => hf2 j (by omega))
    have hSc1 : kScr G w1 := b5.fr (fun j q1 q2 => (hf2 j (by omega)).trans (hfP j (by omega)))
    show KW p l e R s m args below meth c 10 G Q w1 fl (cs + 8) (ss + 48) 378 [(5, vI (i : Int)), (4, .ref (kad G 149)), (3, .ref (kad G 148)), (2, .ref (kad G 133)), (1, .ref (kad G 0)), (0, .ref b)] [vI 0]
    refine k_istore hC [(6, vI 0), (5, vI (i : Int)), (4, .ref (kad G 149)), (3, .ref (kad G 148)), (2, .ref (kad G 133)), (1, .ref (kad G 0)), (0, .ref b)] dL_law_378 (by decide) rfl ?_
    refine k_aload_n hC dL_law_380 rfl 4 rfl ?_
    refine k_aload_n hC dL_law_381 rfl 6 rfl ?_
    refine k_iload hC dL_law_382 1 rfl ?_
    refine k_iconst hC dL_law_384 ?_
    refine k_iadd hC dL_law_385 ?_
    refine k_scr hC hX hbl hbA hL (i + 1) (by omega) (by omega) dL_law_386 ?_
    have h_1 : w1 133 = mdO G u := (hf2 133 (by decide)).trans ((hfP 133 (by decide)).trans b0)
    have h_2 : w1 134 = lA G 93 gr := (hf2 134 (by decide)).trans ((hfP 134 (by decide)).trans b1)
    refine k_callV hC (c_X12_arc l hls G hN w1 fl u gr (xI xs (i + 1)) (xI_r xs _) hIr h_1 h_2 hSc1) yy_X12_arc wm_L_127 (kl hN (by decide)) h_1 rfl rfl rfl rfl (Nat.le_of_ble_eq_true rfl) (by omega) (by omega) ⟨by omega, by omega⟩ dL_law_387 (fun v3 w3 fl3 hp3 => ?_)
    obtain ⟨b3, th3, hv3, hfl3, hR3, hP3⟩ := hp3
    subst hv3
    subst hfl3
    obtain ⟨⟨fe, fn, hm3⟩, hS3, hf3⟩ := hP3
    rcases hR3 with ⟨q1, q2, q3⟩ | ⟨q1, q2⟩ | ⟨q1, q2⟩
    · subst q2
      show KW p l e R s m args below meth c 10 G Q w3 fl (cs + 8) (ss + 48) 390 [(6, vI 0), (5, vI (i : Int)), (4, .ref (kad G 149)), (3, .ref (kad G 148)), (2, .ref (kad G 133)), (1, .ref (kad G 0)), (0, .ref b)] [vI b3]
      refine k_istore hC [(7, vI b3), (6, vI 0), (5, vI (i : Int)), (4, .ref (kad G 149)), (3, .ref (kad G 148)), (2, .ref (kad G 133)), (1, .ref (kad G 0)), (0, .ref b)] dL_law_390 (by decide) rfl ?_
      refine k_aload_n hC dL_law_392 rfl 5 rfl ?_
      refine k_pureV hC (c_X12_thrown l hls G hN w3 fl (kup (kup (kup u 5 0) 12 fe) 13 fn) hm3) yy_X12_thrown wm_L_113 (kl hN (by decide)) hm3 rfl rfl rfl rfl (Nat.le_of_ble_eq_true rfl) (by omega) (by omega) ⟨by omega, by omega⟩ dL_law_393 ?_
      refine k_topv (vI 0) rfl ?_
      refine k_iload hC dL_law_396 1 rfl ?_
      refine k_icmp_eq hC 403 dL_law_398 rfl (by omega) (by omega) (fun c_398 => ?_) (fun c_398 => absurd c_398 (by omega))
      refine k_iload hC dL_law_403 1 rfl ?_
      refine k_if_ne hC 420 dL_law_405 rfl (by omega) (fun c_405 => absurd c_405 (by omega)) (fun c_405 => ?_)
      refine k_aload_n hC dL_law_408 rfl 4 rfl ?_
      refine k_iconst hC dL_law_409 ?_
      have h_3 : w3 148 = lA G 1 (fun _ => i32 (arcM (xI xs (i + 1)))) := (hf3 148 (by decide)).trans h148
      refine k_lald hC (kl hN (by decide)) h_3 (by omega) (by decide) dL_law_410 ?_
      refine k_topv (vL (i32 (arcM (xI xs (i + 1))))) rfl ?_
      refine k_iload hC dL_law_411 0 rfl ?_
      refine k_topv (vI (i32 b3)) (vI_32 _) ?_
      refine k_i2l hC dL_law_413 (i32_r _) ?_
      refine k_lcmp_eq hC 420 dL_law_414 dL_law_415 rfl (i32_l _) (i32_l _) (fun c_414 => ?_) (fun c_414 => absurd (congrArg i32 (show (arcM (xI xs (i + 1))) = b3 from (rfl).trans q3.symm)) c_414)
      refine k_goto hC 2319 dL_law_420 rfl ?_
      refine k_lvs (ls := [2, 3, 4, 5, 6, 7]) [(5, vI (i : Int)), (4, .ref (kad G 149)), (3, .ref (kad G 148)), (2, .ref (kad G 133)), (1, .ref (kad G 0)), (0, .ref b)] rfl ?_
      have h_4 : w3 149 = dA G 1 oD := (hf3 149 (by decide)).trans ((hf2 149 (by decide)).trans ((hfP 149 (by decide)).trans o2))
      exact kk w3 fl _ _ (LI.rd hc hm hr hw hT (hCh1.fr (fun j q1 q2 => hf3 j (by omega))) hS3 hm3 ⟨rfl, rfl, rfl, rfl, rfl⟩ ⟨⟨_, h_3⟩, ⟨_, h_4⟩⟩ (fun j hj => (hf3 j (by omega)).trans ((hf2 j (by omega)).trans (hfP j (by omega))))) (by omega) (by omega)
    · exact q1.elim
    · exfalso; omega
  · exact hcc.elim
  · subst hv
    obtain ⟨hfl, hP⟩ := hP
    subst hfl
    obtain ⟨hCh, hfP⟩ := hP
    have hCh1 := hCh
    have hSc1 : kScr G w1 := b5.fr (fun j q1 q2 => hfP j (by omega))
    show KW p l e R s m args below meth c 10 G Q w1 fl (cs + 8) (ss + 48) 378 [(5, vI (i : Int)), (4, .ref (kad G 149)), (3, .ref (kad G 148)), (2, .ref (kad G 133)), (1, .ref (kad G 0)), (0, .ref b)] [vI 1]
    refine k_istore hC [(6, vI 1), (5, vI (i : Int)), (4, .ref (kad G 149)), (3, .ref (kad G 148)), (2, .ref (kad G 133)), (1, .ref (kad G 0)), (0, .ref b)] dL_law_378 (by decide) rfl ?_
    refine k_aload_n hC dL_law_380 rfl 4 rfl ?_
    refine k_aload_n hC dL_law_381 rfl 6 rfl ?_
    refine k_iload hC dL_law_382 1 rfl ?_
    refine k_iconst hC dL_law_384 ?_
    refine k_iadd hC dL_law_385 ?_
    refine k_scr hC hX hbl hbA hL (i + 1) (by omega) (by omega) dL_law_386 ?_
    have h_5 : w1 133 = mdO G u := (hfP 133 (by decide)).trans b0
    have h_6 : w1 134 = lA G 93 gr := (hfP 134 (by decide)).trans b1
    refine k_callV hC (c_X12_arc l hls G hN w1 fl u gr (xI xs (i + 1)) (xI_r xs _) hIr h_5 h_6 hSc1) yy_X12_arc wm_L_127 (kl hN (by decide)) h_5 rfl rfl rfl rfl (Nat.le_of_ble_eq_true rfl) (by omega) (by omega) ⟨by omega, by omega⟩ dL_law_387 (fun v3 w3 fl3 hp3 => ?_)
    obtain ⟨b3, th3, hv3, hfl3, hR3, hP3⟩ := hp3
    subst hv3
    subst hfl3
    obtain ⟨⟨fe, fn, hm3⟩, hS3, hf3⟩ := hP3
    rcases hR3 with ⟨q1, q2, q3⟩ | ⟨q1, q2⟩ | ⟨q1, q2⟩
    · exfalso; omega
    · exact q1.elim
    · subst q2
      show KW p l e R s m args below meth c 10 G Q w3 fl (cs + 8) (ss + 48) 390 [(6, vI 1), (5, vI (i : Int)), (4, .ref (kad G 149)), (3, .ref (kad G 148)), (2, .ref (kad G 133)), (1, .ref (kad G 0)), (0, .ref b)] [vI b3]
      refine k_istore hC [(7, vI b3), (6, vI 1), (5, vI (i : Int)), (4, .ref (kad G 149)), (3, .ref (kad G 148)), (2, .ref (kad G 133)), (1, .ref (kad G 0)), (0, .ref b)] dL_law_390 (by decide) rfl ?_
      refine k_aload_n hC dL_law_392 rfl 5 rfl ?_
      refine k_pureV hC (c_X12_thrown l hls G hN w3 fl (kup (kup (kup u 5 1) 12 fe) 13 fn) hm3) yy_X12_thrown wm_L_113 (kl hN (by decide)) hm3 rfl rfl rfl rfl (Nat.le_of_ble_eq_true rfl) (by omega) (by omega) ⟨by omega, by omega⟩ dL_law_393 ?_
      refine k_topv (vI 1) rfl ?_
      refine k_iload hC dL_law_396 1 rfl ?_
      refine k_icmp_eq hC 403 dL_law_398 rfl (by omega) (by omega) (fun c_398 => ?_) (fun c_398 => absurd c_398 (by omega))
      refine k_iload hC dL_law_403 1 rfl ?_
      refine k_if_ne hC 420 dL_law_405 rfl (by omega) (fun c_405 => ?_) (fun c_405 => absurd c_405 (by omega))
      refine k_goto hC 2319 dL_law_420 rfl ?_
      refine k_lvs (ls := [2, 3, 4, 5, 6, 7]) [(5, vI (i : Int)), (4, .ref (kad G 149)), (3, .ref (kad G 148)), (2, .ref (kad G 133)), (1, .ref (kad G 0)), (0, .ref b)] rfl ?_
      have h_7 : w3 148 = lA G 1 out := (hf3 148 (by decide)).trans ((hfP 148 (by decide)).trans o1)
      have h_8 : w3 149 = dA G 1 oD := (hf3 149 (by decide)).trans ((hfP 149 (by decide)).trans o2)
      exact kk w3 fl _ _ (LI.rd hc hm hr hw hT (hCh1.fr (fun j q1 q2 => hf3 j (by omega))) hS3 hm3 ⟨rfl, rfl, rfl, rfl, rfl⟩ ⟨⟨_, h_7⟩, ⟨_, h_8⟩⟩ (fun j hj => (hf3 j (by omega)).trans (hfP j (by omega)))) (by omega) (by omega)

set_option maxRecDepth 100000 in
set_option maxHeartbeats 4000000 in
theorem lw_told {p : Program} {l : Launch} {e : Env} {R : Room} {s : State} {m : MethodId} {args : Array Value} {below : List Frame} {meth : Method} {c : Code} {G : kG} {d0 mc0 ms0 : Nat} {Q : State → Prop} {b L : Nat} {xs : Nat → Int32} (hC : kC p l R s m args meth c cL_law RL 10 G d0 mc0 ms0) (hls : l.stackTraces = false) (hN : kN G = 150) (hNc : va_Nc "java/lang/IllegalArgumentException" "java/util/NoSuchElementException" s) (hX : va_X b L xs s s.heap) (hbl : b < s.heap.size) (hbA : ¬ kA G b) (hL : L ≤ 3584) (hd0 : 60 ≤ d0) {cs ss : Nat} (hcs : cs + 16 ≤ mc0 ∧ ss + 400 ≤ ms0) (i : Nat) (hi : i + 7 ≤ L) (w : Nat → va_E) (fl : va_W) (hLI : LI G w fl)
    (kk : ∀ (w' : Nat → va_E) (fl' : va_W) (cs' ss' : Nat), LI G w' fl' → cs' ≤ cs + 16 → ss' ≤ ss + 400 → KW p l e R s m args below meth c 10 G Q w' fl' cs' ss' 2319 [(5, vI (i : Int)), (4, .ref (kad G 149)), (3, .ref (kad G 148)), (2, .ref (kad G 133)), (1, .ref (kad G 0)), (0, .ref b)] []) : KW p l e R s m args below meth c 10 G Q w fl cs ss 423 [(5, vI (i : Int)), (4, .ref (kad G 149)), (3, .ref (kad G 148)), (2, .ref (kad G 133)), (1, .ref (kad G 0)), (0, .ref b)] [] := by
  obtain ⟨bt, gc, nl, gp0, nl9, gl0, gs, c0, nx, cn, cap, cd, ea, kd, nm, sa, nx9, en, sv, hs, T, u, gr, D0, sp, H, hc, hm, ho, hr, hw, hT⟩ := hLI
  have hc1 := hc
  have hm1 := hm
  have hr1 := hr
  have ho1 := ho
  obtain ⟨⟨a0, asv⟩, a1, ⟨a2, abt, ac7⟩, a3, a4, a5, a6, ⟨a7, anx, acn⟩, ⟨a8, a9, a10⟩, ⟨a11, a12, a13⟩, a14⟩ := hc1
  obtain ⟨b0, b1, b2, b3, b4, b5, b6, b7, ⟨cf, b8⟩, ⟨fq, b9⟩⟩ := hm1
  obtain ⟨⟨out, o1⟩, ⟨oD, o2⟩⟩ := ho1
  obtain ⟨r0, r1, r2, r3, r4, r5, r6⟩ := hr1
  have hI := r0.inv
  have hIr := r0.2.1
  have hE := r0.1
  have e0 := hE.n 0 (by decide)
  have e1 := hE.n 1 (by decide)
  have e2 := hE.n 2 (by decide)
  have hgc := hI.c
  refine k_aload_n hC dL_law_423 rfl 4 rfl ?_
  refine k_aload_n hC dL_law_424 rfl 5 rfl ?_
  refine k_iload hC dL_law_425 0 rfl ?_
  refine k_iconst hC dL_law_427 ?_
  refine k_iadd hC dL_law_428 ?_
  refine k_scr hC hX hbl hbA hL (i + 1) (by omega) (by omega) dL_law_429 ?_
  refine k_aload_n hC dL_law_430 rfl 2 rfl ?_
  refine k_callL hC hNc (n := 3) (c_L_told l hls G hN w fl gc nl sv (xI xs (i + 1)) out (xI_r xs _) hI a0 a3 a4 a5 o1) wc_L_told wz_L (by decide +kernel) wt_L_told wm_L_128 rfl rfl (Nat.le_of_ble_eq_true rfl) (by omega) (by omega) ⟨by omega, by omega⟩ dL_law_431 (fun v1 w1 fl1 hp => ?_)
  rcases hp with ⟨hv, hcc, w2, hP, h148, hf2⟩ | ⟨hP, ⟨hcc, hv⟩ | ⟨hcc, hv⟩⟩
  · subst hv
    obtain ⟨hfl, hP⟩ := hP
    subst hfl
    obtain ⟨hCh, hfP⟩ := hP
    have hCh1 : kCht G w1 := hCh.fr (fun j q1 q2 => hf2 j (by omega))
    have hSc1 : kScr G w1 := b5.fr (fun j q1 q2 => (hf2 j (by omega)).trans (hfP j (by omega)))
    show KW p l e R s m args below meth c 10 G Q w1 fl (cs + 8) (ss + 48) 434 [(5, vI (i : Int)), (4, .ref (kad G 149)), (3, .ref (kad G 148)), (2, .ref (kad G 133)), (1, .ref (kad G 0)), (0, .ref b)] [vI 0]
    refine k_istore hC [(6, vI 0), (5, vI (i : Int)), (4, .ref (kad G 149)), (3, .ref (kad G 148)), (2, .ref (kad G 133)), (1, .ref (kad G 0)), (0, .ref b)] dL_law_434 (by decide) rfl ?_
    refine k_aload_n hC dL_law_436 rfl 4 rfl ?_
    refine k_aload_n hC dL_law_437 rfl 6 rfl ?_
    refine k_iload hC dL_law_438 1 rfl ?_
    refine k_iconst hC dL_law_440 ?_
    refine k_iadd hC dL_law_441 ?_
    refine k_scr hC hX hbl hbA hL (i + 1) (by omega) (by omega) dL_law_442 ?_
    have h_1 : w1 133 = mdO G u := (hf2 133 (by decide)).trans ((hfP 133 (by decide)).trans b0)
    have h_2 : w1 134 = lA G 93 gr := (hf2 134 (by decide)).trans ((hfP 134 (by decide)).trans b1)
    refine k_callV hC (c_X12_told l hls G hN w1 fl u gr (xI xs (i + 1)) (xI_r xs _) hIr h_1 h_2 hSc1) yy_X12_told wm_L_130 (kl hN (by decide)) h_1 rfl rfl rfl rfl (Nat.le_of_ble_eq_true rfl) (by omega) (by omega) ⟨by omega, by omega⟩ dL_law_443 (fun v3 w3 fl3 hp3 => ?_)
    obtain ⟨b3, th3, hv3, hfl3, hR3, hP3⟩ := hp3
    subst hv3
    subst hfl3
    obtain ⟨⟨fe, fn, hm3⟩, hS3, hf3⟩ := hP3
    rcases hR3 with ⟨q1, q2, q3⟩ | ⟨q1, q2⟩ | ⟨q1, q2⟩
    · subst q2
      show KW p l e R s m args below meth c 10 G Q w3 fl (cs + 8) (ss + 48) 446 [(6, vI 0), (5, vI (i : Int)), (4, .ref (kad G 149)), (3, .ref (kad G 148)), (2, .ref (kad G 133)), (1, .ref (kad G 0)), (0, .ref b)] [vI b3]
      refine k_istore hC [(7, vI b3), (6, vI 0), (5, vI (i : Int)), (4, .ref (kad G 149)), (3, .ref (kad G 148)), (2, .ref (kad G 133)), (1, .ref (kad G 0)), (0, .ref b)] dL_law_446 (by decide) rfl ?_
      refine k_aload_n hC dL_law_448 rfl 5 rfl ?_
      refine k_pureV hC (c_X12_thrown l hls G hN w3 fl (kup (kup (kup u 5 0) 12 fe) 13 fn) hm3) yy_X12_thrown wm_L_113 (kl hN (by decide)) hm3 rfl rfl rfl rfl (Nat.le_of_ble_eq_true rfl) (by omega) (by omega) ⟨by omega, by omega⟩ dL_law_449 ?_
      refine k_topv (vI 0) rfl ?_
      refine k_iload hC dL_law_452 1 rfl ?_
      refine k_icmp_eq hC 459 dL_law_454 rfl (by omega) (by omega) (fun c_454 => ?_) (fun c_454 => absurd c_454 (by omega))
      refine k_iload hC dL_law_459 1 rfl ?_
      refine k_if_ne hC 476 dL_law_461 rfl (by omega) (fun c_461 => absurd c_461 (by omega)) (fun c_461 => ?_)
      refine k_aload_n hC dL_law_464 rfl 4 rfl ?_
      refine k_iconst hC dL_law_465 ?_
      have h_3 : w3 148 = lA G 1 (fun _ => i32 (gc (xI xs (i + 1)).toNat)) := (hf3 148 (by decide)).trans h148
      refine k_lald hC (kl hN (by decide)) h_3 (by omega) (by decide) dL_law_466 ?_
      refine k_topv (vL (i32 (gc (xI xs (i + 1)).toNat))) rfl ?_
      refine k_iload hC dL_law_467 0 rfl ?_
      refine k_topv (vI (i32 b3)) (vI_32 _) ?_
      refine k_i2l hC dL_law_469 (i32_r _) ?_
      refine k_lcmp_eq hC 476 dL_law_470 dL_law_471 rfl (i32_l _) (i32_l _) (fun c_470 => ?_) (fun c_470 => absurd (congrArg i32 (show (gc (xI xs (i + 1)).toNat) = b3 from (hE.n _ (by omega)).trans q3.symm)) c_470)
      refine k_goto hC 2319 dL_law_476 rfl ?_
      refine k_lvs (ls := [2, 3, 4, 5, 6, 7]) [(5, vI (i : Int)), (4, .ref (kad G 149)), (3, .ref (kad G 148)), (2, .ref (kad G 133)), (1, .ref (kad G 0)), (0, .ref b)] rfl ?_
      have h_4 : w3 149 = dA G 1 oD := (hf3 149 (by decide)).trans ((hf2 149 (by decide)).trans ((hfP 149 (by decide)).trans o2))
      exact kk w3 fl _ _ (LI.rd hc hm hr hw hT (hCh1.fr (fun j q1 q2 => hf3 j (by omega))) hS3 hm3 ⟨rfl, rfl, rfl, rfl, rfl⟩ ⟨⟨_, h_3⟩, ⟨_, h_4⟩⟩ (fun j hj => (hf3 j (by omega)).trans ((hf2 j (by omega)).trans (hfP j (by omega))))) (by omega) (by omega)
    · exfalso; omega
    · exact q1.elim
  · subst hv
    obtain ⟨hfl, hP⟩ := hP
    subst hfl
    obtain ⟨hCh, hfP⟩ := hP
    have hCh1 := hCh
    have hSc1 : kScr G w1 := b5.fr (fun j q1 q2 => hfP j (by omega))
    show KW p l e R s m args below meth c 10 G Q w1 fl (cs + 8) (ss + 48) 434 [(5, vI (i : Int)), (4, .ref (kad G 149)), (3, .ref (kad G 148)), (2, .ref (kad G 133)), (1, .ref (kad G 0)), (0, .ref b)] [vI 1]
    refine k_istore hC [(6, vI 1), (5, vI (i : Int)), (4, .ref (kad G 149)), (3, .ref (kad G 148)), (2, .ref (kad G 133)), (1, .ref (kad G 0)), (0, .ref b)] dL_law_434 (by decide) rfl ?_
    refine k_aload_n hC dL_law_436 rfl 4 rfl ?_
    refine k_aload_n hC dL_law_437 rfl 6 rfl ?_
    refine k_iload hC dL_law_438 1 rfl ?_
    refine k_iconst hC dL_law_440 ?_
    refine k_iadd hC dL_law_441 ?_
    refine k_scr hC hX hbl hbA hL (i + 1) (by omega) (by omega) dL_law_442 ?_
    have h_5 : w1 133 = mdO G u := (hfP 133 (by decide)).trans b0
    have h_6 : w1 134 = lA G 93 gr := (hfP 134 (by decide)).trans b1
    refine k_callV hC (c_X12_told l hls G hN w1 fl u gr (xI xs (i + 1)) (xI_r xs _) hIr h_5 h_6 hSc1) yy_X12_told wm_L_130 (kl hN (by decide)) h_5 rfl rfl rfl rfl (Nat.le_of_ble_eq_true rfl) (by omega) (by omega) ⟨by omega, by omega⟩ dL_law_443 (fun v3 w3 fl3 hp3 => ?_)
    obtain ⟨b3, th3, hv3, hfl3, hR3, hP3⟩ := hp3
    subst hv3
    subst hfl3
    obtain ⟨⟨fe, fn, hm3⟩, hS3, hf3⟩ := hP3
    rcases hR3 with ⟨q1, q2, q3⟩ | ⟨q1, q2⟩ | ⟨q1, q2⟩
    · exfalso; omega
    · subst q2
      show KW p l e R s m args below meth c 10 G Q w3 fl (cs + 8) (ss + 48) 446 [(6, vI 1), (5, vI (i : Int)), (4, .ref (kad G 149)), (3, .ref (kad G 148)), (2, .ref (kad G 133)), (1, .ref (kad G 0)), (0, .ref b)] [vI b3]
      refine k_istore hC [(7, vI b3), (6, vI 1), (5, vI (i : Int)), (4, .ref (kad G 149)), (3, .ref (kad G 148)), (2, .ref (kad G 133)), (1, .ref (kad G 0)), (0, .ref b)] dL_law_446 (by decide) rfl ?_
      refine k_aload_n hC dL_law_448 rfl 5 rfl ?_
      refine k_pureV hC (c_X12_thrown l hls G hN w3 fl (kup (kup (kup u 5 1) 12 fe) 13 fn) hm3) yy_X12_thrown wm_L_113 (kl hN (by decide)) hm3 rfl rfl rfl rfl (Nat.le_of_ble_eq_true rfl) (by omega) (by omega) ⟨by omega, by omega⟩ dL_law_449 ?_
      refine k_topv (vI 1) rfl ?_
      refine k_iload hC dL_law_452 1 rfl ?_
      refine k_icmp_eq hC 459 dL_law_454 rfl (by omega) (by omega) (fun c_454 => ?_) (fun c_454 => absurd c_454 (by omega))
      refine k_iload hC dL_law_459 1 rfl ?_
      refine k_if_ne hC 476 dL_law_461 rfl (by omega) (fun c_461 => ?_) (fun c_461 => absurd c_461 (by omega))
      refine k_goto hC 2319 dL_law_476 rfl ?_
      refine k_lvs (ls := [2, 3, 4, 5, 6, 7]) [(5, vI (i : Int)), (4, .ref (kad G 149)), (3, .ref (kad G 148)), (2, .ref (kad G 133)), (1, .ref (kad G 0)), (0, .ref b)] rfl ?_
      have h_7 : w3 148 = lA G 1 out := (hf3 148 (by decide)).trans ((hfP 148 (by decide)).trans o1)
      have h_8 : w3 149 = dA G 1 oD := (hf3 149 (by decide)).trans ((hfP 149 (by decide)).trans o2)
      exact kk w3 fl _ _ (LI.rd hc hm hr hw hT (hCh1.fr (fun j q1 q2 => hf3 j (by omega))) hS3 hm3 ⟨rfl, rfl, rfl, rfl, rfl⟩ ⟨⟨_, h_7⟩, ⟨_, h_8⟩⟩ (fun j hj => (hf3 j (by omega)).trans (hfP j (by omega)))) (by omega) (by omega)
    · exact q1.elim
  · exact hcc.elim

set_option maxRecDepth 100000 in
set_option maxHeartbeats 4000000 in
theorem lw_body {p : Program} {l : Launch} {e : Env} {R : Room} {s : State} {m : MethodId} {args : Array Value} {below : List Frame} {meth : Method} {c : Code} {G : kG} {d0 mc0 ms0 : Nat} {Q : State → Prop} {b L : Nat} {xs : Nat → Int32} (hC : kC p l R s m args meth c cL_law RL 10 G d0 mc0 ms0) (hls : l.stackTraces = false) (hN : kN G = 150) (hNc : va_Nc "java/lang/IllegalArgumentException" "java/util/NoSuchElementException" s) (hX : va_X b L xs s s.heap) (hbl : b < s.heap.size) (hbA : ¬ kA G b) (hL : L ≤ 3584) (hd0 : 60 ≤ d0) {cs ss : Nat} (hcs : cs + 16 ≤ mc0 ∧ ss + 400 ≤ ms0) (i : Nat) (hi : i + 7 ≤ L) (w : Nat → va_E) (fl : va_W) (hLI : LI G w fl)
    (kk : ∀ (w' : Nat → va_E) (fl' : va_W) (cs' ss' : Nat), LI G w' fl' → cs' ≤ cs + 16 → ss' ≤ ss + 400 → KW p l e R s m args below meth c 10 G Q w' fl' cs' ss' 2319 [(5, vI (i : Int)), (4, .ref (kad G 149)), (3, .ref (kad G 148)), (2, .ref (kad G 133)), (1, .ref (kad G 0)), (0, .ref b)] []) : KW p l e R s m args below meth c 10 G Q w fl cs ss 479 [(5, vI (i : Int)), (4, .ref (kad G 149)), (3, .ref (kad G 148)), (2, .ref (kad G 133)), (1, .ref (kad G 0)), (0, .ref b)] [] := by
  obtain ⟨bt, gc, nl, gp0, nl9, gl0, gs, c0, nx, cn, cap, cd, ea, kd, nm, sa, nx9, en, sv, hs, T, u, gr, D0, sp, H, hc, hm, ho, hr, hw, hT⟩ := hLI
  have hc1 := hc
  have hm1 := hm
  have hr1 := hr
  have ho1 := ho
  obtain ⟨⟨a0, asv⟩, a1, ⟨a2, abt, ac7⟩, a3, a4, a5, a6, ⟨a7, anx, acn⟩, ⟨a8, a9, a10⟩, ⟨a11, a12, a13⟩, a14⟩ := hc1
  obtain ⟨b0, b1, b2, b3, b4, b5, b6, b7, ⟨cf, b8⟩, ⟨fq, b9⟩⟩ := hm1
  obtain ⟨⟨out, o1⟩, ⟨oD, o2⟩⟩ := ho1
  obtain ⟨r0, r1, r2, r3, r4, r5, r6⟩ := hr1
  have hI := r0.inv
  have hIr := r0.2.1
  have hE := r0.1
  have e0 := hE.n 0 (by decide)
  have e1 := hE.n 1 (by decide)
  have e2 := hE.n 2 (by decide)
  have hgc := hI.c
  refine k_aload_n hC dL_law_479 rfl 4 rfl ?_
  refine k_aload_n hC dL_law_480 rfl 5 rfl ?_
  refine k_iload hC dL_law_481 0 rfl ?_
  refine k_iconst hC dL_law_483 ?_
  refine k_iadd hC dL_law_484 ?_
  refine k_scr hC hX hbl hbA hL (i + 1) (by omega) (by omega) dL_law_485 ?_
  refine k_aload_n hC dL_law_486 rfl 5 rfl ?_
  refine k_iload hC dL_law_487 0 rfl ?_
  refine k_iconst hC dL_law_489 ?_
  refine k_iadd hC dL_law_490 ?_
  refine k_scr hC hX hbl hbA hL (i + 2) (by omega) (by omega) dL_law_491 ?_
  refine k_aload_n hC dL_law_492 rfl 2 rfl ?_
  refine k_callL hC hNc (n := 4) (c_L_body l hls G hN w fl gc nl sv (xI xs (i + 1)) (xI xs (i + 2)) out (xI_r xs _) (xI_r xs _) hI a0 a3 a4 a5 o1) wc_L_body wz_L (by decide +kernel) wt_L_body wm_L_131 rfl rfl (Nat.le_of_ble_eq_true rfl) (by omega) (by omega) ⟨by omega, by omega⟩ dL_law_493 (fun v1 w1 fl1 hp => ?_)
  rcases hp with ⟨hv, hcc, w2, hP, h148, hf2⟩ | ⟨hP, ⟨hcc, hv⟩ | ⟨hcc, hv⟩⟩
  · subst hv
    obtain ⟨hfl, hP⟩ := hP
    subst hfl
    obtain ⟨hCh, hfP⟩ := hP
    have hCh1 : kCht G w1 := hCh.fr (fun j q1 q2 => hf2 j (by omega))
    have hSc1 : kScr G w1 := b5.fr (fun j q1 q2 => (hf2 j (by omega)).trans (hfP j (by omega)))
    show KW p l e R s m args below meth c 10 G Q w1 fl (cs + 8) (ss + 48) 496 [(5, vI (i : Int)), (4, .ref (kad G 149)), (3, .ref (kad G 148)), (2, .ref (kad G 133)), (1, .ref (kad G 0)), (0, .ref b)] [vI 0]
    refine k_istore hC [(6, vI 0), (5, vI (i : Int)), (4, .ref (kad G 149)), (3, .ref (kad G 148)), (2, .ref (kad G 133)), (1, .ref (kad G 0)), (0, .ref b)] dL_law_496 (by decide) rfl ?_
    refine k_aload_n hC dL_law_498 rfl 4 rfl ?_
    refine k_aload_n hC dL_law_499 rfl 6 rfl ?_
    refine k_iload hC dL_law_500 1 rfl ?_
    refine k_iconst hC dL_law_502 ?_
    refine k_iadd hC dL_law_503 ?_
    refine k_scr hC hX hbl hbA hL (i + 1) (by omega) (by omega) dL_law_504 ?_
    refine k_aload_n hC dL_law_505 rfl 6 rfl ?_
    refine k_iload hC dL_law_506 1 rfl ?_
    refine k_iconst hC dL_law_508 ?_
    refine k_iadd hC dL_law_509 ?_
    refine k_scr hC hX hbl hbA hL (i + 2) (by omega) (by omega) dL_law_510 ?_
    have h_1 : w1 133 = mdO G u := (hf2 133 (by decide)).trans ((hfP 133 (by decide)).trans b0)
    have h_2 : w1 134 = lA G 93 gr := (hf2 134 (by decide)).trans ((hfP 134 (by decide)).trans b1)
    refine k_callV hC (c_X12_body l hls G hN w1 fl u gr (xI xs (i + 1)) (xI xs (i + 2)) (xI_r xs _) (xI_r xs _) hIr h_1 h_2 hSc1) yy_X12_body wm_L_134 (kl hN (by decide)) h_1 rfl rfl rfl rfl (Nat.le_of_ble_eq_true rfl) (by omega) (by omega) ⟨by omega, by omega⟩ dL_law_511 (fun v3 w3 fl3 hp3 => ?_)
    obtain ⟨b3, th3, hv3, hfl3, hR3, hP3⟩ := hp3
    subst hv3
    subst hfl3
    obtain ⟨⟨fe, fn, hm3⟩, hS3, hf3⟩ := hP3
    rcases hR3 with ⟨q1, q2, q3⟩ | ⟨q1, q2⟩ | ⟨q1, q2⟩
    · subst q2
      show KW p l e R s m args below meth c 10 G Q w3 fl (cs + 8) (ss + 48) 514 [(6, vI 0), (5, vI (i : Int)), (4, .ref (kad G 149)), (3, .ref (kad G 148)), (2, .ref (kad G 133)), (1, .ref (kad G 0)), (0, .ref b)] [vI b3]
      refine k_istore hC [(7, vI b3), (6, vI 0), (5, vI (i : Int)), (4, .ref (kad G 149)), (3, .ref (kad G 148)), (2, .ref (kad G 133)), (1, .ref (kad G 0)), (0, .ref b)] dL_law_514 (by decide) rfl ?_
      refine k_aload_n hC dL_law_516 rfl 5 rfl ?_
      refine k_pureV hC (c_X12_thrown l hls G hN w3 fl (kup (kup (kup u 5 0) 12 fe) 13 fn) hm3) yy_X12_thrown wm_L_113 (kl hN (by decide)) hm3 rfl rfl rfl rfl (Nat.le_of_ble_eq_true rfl) (by omega) (by omega) ⟨by omega, by omega⟩ dL_law_517 ?_
      refine k_topv (vI 0) rfl ?_
      refine k_iload hC dL_law_520 1 rfl ?_
      refine k_icmp_eq hC 527 dL_law_522 rfl (by omega) (by omega) (fun c_522 => ?_) (fun c_522 => absurd c_522 (by omega))
      refine k_iload hC dL_law_527 1 rfl ?_
      refine k_if_ne hC 544 dL_law_529 rfl (by omega) (fun c_529 => absurd c_529 (by omega)) (fun c_529 => ?_)
      refine k_aload_n hC dL_law_532 rfl 4 rfl ?_
      refine k_iconst hC dL_law_533 ?_
      have h_3 : w3 148 = lA G 1 (fun _ => i32 (bodyV gc (xI xs (i + 1)).toNat (xI xs (i + 2)))) := (hf3 148 (by decide)).trans h148
      refine k_lald hC (kl hN (by decide)) h_3 (by omega) (by decide) dL_law_534 ?_
      refine k_topv (vL (i32 (bodyV gc (xI xs (i + 1)).toNat (xI xs (i + 2))))) rfl ?_
      refine k_iload hC dL_law_535 0 rfl ?_
      refine k_topv (vI (i32 b3)) (vI_32 _) ?_
      refine k_i2l hC dL_law_537 (i32_r _) ?_
      refine k_lcmp_eq hC 544 dL_law_538 dL_law_539 rfl (i32_l _) (i32_l _) (fun c_538 => ?_) (fun c_538 => absurd (congrArg i32 (show (bodyV gc (xI xs (i + 1)).toNat (xI xs (i + 2))) = b3 from (gE_bodyV hE hI (by omega) _).trans q3.symm)) c_538)
      refine k_goto hC 2319 dL_law_544 rfl ?_
      refine k_lvs (ls := [2, 3, 4, 5, 6, 7]) [(5, vI (i : Int)), (4, .ref (kad G 149)), (3, .ref (kad G 148)), (2, .ref (kad G 133)), (1, .ref (kad G 0)), (0, .ref b)] rfl ?_
      have h_4 : w3 149 = dA G 1 oD := (hf3 149 (by decide)).trans ((hf2 149 (by decide)).trans ((hfP 149 (by decide)).trans o2))
      exact kk w3 fl _ _ (LI.rd hc hm hr hw hT (hCh1.fr (fun j q1 q2 => hf3 j (by omega))) hS3 hm3 ⟨rfl, rfl, rfl, rfl, rfl⟩ ⟨⟨_, h_3⟩, ⟨_, h_4⟩⟩ (fun j hj => (hf3 j (by omega)).trans ((hf2 j (by omega)).trans (hfP j (by omega))))) (by omega) (by omega)
    · exfalso; omega
    · exact q1.elim
  · subst hv
    obtain ⟨hfl, hP⟩ := hP
    subst hfl
    obtain ⟨hCh, hfP⟩ := hP
    have hCh1 := hCh
    have hSc1 : kScr G w1 := b5.fr (fun j q1 q2 => hfP j (by omega))
    show KW p l e R s m args below meth c 10 G Q w1 fl (cs + 8) (ss + 48) 496 [(5, vI (i : Int)), (4, .ref (kad G 149)), (3, .ref (kad G 148)), (2, .ref (kad G 133)), (1, .ref (kad G 0)), (0, .ref b)] [vI 1]
    refine k_istore hC [(6, vI 1), (5, vI (i : Int)), (4, .ref (kad G 149)), (3, .ref (kad G 148)), (2, .ref (kad G 133)), (1, .ref (kad G 0)), (0, .ref b)] dL_law_496 (by decide) rfl ?_
    refine k_aload_n hC dL_law_498 rfl 4 rfl ?_
    refine k_aload_n hC dL_law_499 rfl 6 rfl ?_
    refine k_iload hC dL_law_500 1 rfl ?_
    refine k_iconst hC dL_law_502 ?_
    refine k_iadd hC dL_law_503 ?_
    refine k_scr hC hX hbl hbA hL (i + 1) (by omega) (by omega) dL_law_504 ?_
    refine k_aload_n hC dL_law_505 rfl 6 rfl ?_
    refine k_iload hC dL_law_506 1 rfl ?_
    refine k_iconst hC dL_law_508 ?_
    refine k_iadd hC dL_law_509 ?_
    refine k_scr hC hX hbl hbA hL (i + 2) (by omega) (by omega) dL_law_510 ?_
    have h_5 : w1 133 = mdO G u := (hfP 133 (by decide)).trans b0
    have h_6 : w1 134 = lA G 93 gr := (hfP 134 (by decide)).trans b1
    refine k_callV hC (c_X12_body l hls G hN w1 fl u gr (xI xs (i + 1)) (xI xs (i + 2)) (xI_r xs _) (xI_r xs _) hIr h_5 h_6 hSc1) yy_X12_body wm_L_134 (kl hN (by decide)) h_5 rfl rfl rfl rfl (Nat.le_of_ble_eq_true rfl) (by omega) (by omega) ⟨by omega, by omega⟩ dL_law_511 (fun v3 w3 fl3 hp3 => ?_)
    obtain ⟨b3, th3, hv3, hfl3, hR3, hP3⟩ := hp3
    subst hv3
    subst hfl3
    obtain ⟨⟨fe, fn, hm3⟩, hS3, hf3⟩ := hP3
    rcases hR3 with ⟨q1, q2, q3⟩ | ⟨q1, q2⟩ | ⟨q1, q2⟩
    · exfalso; omega
    · subst q2
      show KW p l e R s m args below meth c 10 G Q w3 fl (cs + 8) (ss + 48) 514 [(6, vI 1), (5, vI (i : Int)), (4, .ref (kad G 149)), (3, .ref (kad G 148)), (2, .ref (kad G 133)), (1, .ref (kad G 0)), (0, .ref b)] [vI b3]
      refine k_istore hC [(7, vI b3), (6, vI 1), (5, vI (i : Int)), (4, .ref (kad G 149)), (3, .ref (kad G 148)), (2, .ref (kad G 133)), (1, .ref (kad G 0)), (0, .ref b)] dL_law_514 (by decide) rfl ?_
      refine k_aload_n hC dL_law_516 rfl 5 rfl ?_
      refine k_pureV hC (c_X12_thrown l hls G hN w3 fl (kup (kup (kup u 5 1) 12 fe) 13 fn) hm3) yy_X12_thrown wm_L_113 (kl hN (by decide)) hm3 rfl rfl rfl rfl (Nat.le_of_ble_eq_true rfl) (by omega) (by omega) ⟨by omega, by omega⟩ dL_law_517 ?_
      refine k_topv (vI 1) rfl ?_
      refine k_iload hC dL_law_520 1 rfl ?_
      refine k_icmp_eq hC 527 dL_law_522 rfl (by omega) (by omega) (fun c_522 => ?_) (fun c_522 => absurd c_522 (by omega))
      refine k_iload hC dL_law_527 1 rfl ?_
      refine k_if_ne hC 544 dL_law_529 rfl (by omega) (fun c_529 => ?_) (fun c_529 => absurd c_529 (by omega))
      refine k_goto hC 2319 dL_law_544 rfl ?_
      refine k_lvs (ls := [2, 3, 4, 5, 6, 7]) [(5, vI (i : Int)), (4, .ref (kad G 149)), (3, .ref (kad G 148)), (2, .ref (kad G 133)), (1, .ref (kad G 0)), (0, .ref b)] rfl ?_
      have h_7 : w3 148 = lA G 1 out := (hf3 148 (by decide)).trans ((hfP 148 (by decide)).trans o1)
      have h_8 : w3 149 = dA G 1 oD := (hf3 149 (by decide)).trans ((hfP 149 (by decide)).trans o2)
      exact kk w3 fl _ _ (LI.rd hc hm hr hw hT (hCh1.fr (fun j q1 q2 => hf3 j (by omega))) hS3 hm3 ⟨rfl, rfl, rfl, rfl, rfl⟩ ⟨⟨_, h_7⟩, ⟨_, h_8⟩⟩ (fun j hj => (hf3 j (by omega)).trans (hfP j (by omega)))) (by omega) (by omega)
    · exact q1.elim
  · exact hcc.elim

set_option maxRecDepth 100000 in
set_option maxHeartbeats 4000000 in
theorem lw_leg {p : Program} {l : Launch} {e : Env} {R : Room} {s : State} {m : MethodId} {args : Array Value} {below : List Frame} {meth : Method} {c : Code} {G : kG} {d0 mc0 ms0 : Nat} {Q : State → Prop} {b L : Nat} {xs : Nat → Int32} (hC : kC p l R s m args meth c cL_law RL 10 G d0 mc0 ms0) (hls : l.stackTraces = false) (hN : kN G = 150) (hNc : va_Nc "java/lang/IllegalArgumentException" "java/util/NoSuchElementException" s) (hX : va_X b L xs s s.heap) (hbl : b < s.heap.size) (hbA : ¬ kA G b) (hL : L ≤ 3584) (hd0 : 60 ≤ d0) {cs ss : Nat} (hcs : cs + 16 ≤ mc0 ∧ ss + 400 ≤ ms0) (i : Nat) (hi : i + 7 ≤ L) (w : Nat → va_E) (fl : va_W) (hLI : LI G w fl)
    (kk : ∀ (w' : Nat → va_E) (fl' : va_W) (cs' ss' : Nat), LI G w' fl' → cs' ≤ cs + 16 → ss' ≤ ss + 400 → KW p l e R s m args below meth c 10 G Q w' fl' cs' ss' 2319 [(5, vI (i : Int)), (4, .ref (kad G 149)), (3, .ref (kad G 148)), (2, .ref (kad G 133)), (1, .ref (kad G 0)), (0, .ref b)] []) : KW p l e R s m args below meth c 10 G Q w fl cs ss 547 [(5, vI (i : Int)), (4, .ref (kad G 149)), (3, .ref (kad G 148)), (2, .ref (kad G 133)), (1, .ref (kad G 0)), (0, .ref b)] [] := by
  obtain ⟨bt, gc, nl, gp0, nl9, gl0, gs, c0, nx, cn, cap, cd, ea, kd, nm, sa, nx9, en, sv, hs, T, u, gr, D0, sp, H, hc, hm, ho, hr, hw, hT⟩ := hLI
  have hc1 := hc
  have hm1 := hm
  have hr1 := hr
  have ho1 := ho
  obtain ⟨⟨a0, asv⟩, a1, ⟨a2, abt, ac7⟩, a3, a4, a5, a6, ⟨a7, anx, acn⟩, ⟨a8, a9, a10⟩, ⟨a11, a12, a13⟩, a14⟩ := hc1
  obtain ⟨b0, b1, b2, b3, b4, b5, b6, b7, ⟨cf, b8⟩, ⟨fq, b9⟩⟩ := hm1
  obtain ⟨⟨out, o1⟩, ⟨oD, o2⟩⟩ := ho1
  obtain ⟨r0, r1, r2, r3, r4, r5, r6⟩ := hr1
  have hI := r0.inv
  have hIr := r0.2.1
  have hE := r0.1
  have e0 := hE.n 0 (by decide)
  have e1 := hE.n 1 (by decide)
  have e2 := hE.n 2 (by decide)
  have hgc := hI.c
  refine k_aload_n hC dL_law_547 rfl 4 rfl ?_
  refine k_aload_n hC dL_law_548 rfl 5 rfl ?_
  refine k_iload hC dL_law_549 0 rfl ?_
  refine k_iconst hC dL_law_551 ?_
  refine k_iadd hC dL_law_552 ?_
  refine k_scr hC hX hbl hbA hL (i + 1) (by omega) (by omega) dL_law_553 ?_
  refine k_aload_n hC dL_law_554 rfl 5 rfl ?_
  refine k_iload hC dL_law_555 0 rfl ?_
  refine k_iconst hC dL_law_557 ?_
  refine k_iadd hC dL_law_558 ?_
  refine k_scr hC hX hbl hbA hL (i + 2) (by omega) (by omega) dL_law_559 ?_
  refine k_aload_n hC dL_law_560 rfl 2 rfl ?_
  refine k_callL hC hNc (n := 4) (c_L_leg l hls G hN w fl gc nl sv (xI xs (i + 1)) (xI xs (i + 2)) out (xI_r xs _) (xI_r xs _) hI a0 a3 a4 a5 o1) wc_L_leg wz_L (by decide +kernel) wt_L_leg wm_L_135 rfl rfl (Nat.le_of_ble_eq_true rfl) (by omega) (by omega) ⟨by omega, by omega⟩ dL_law_561 (fun v1 w1 fl1 hp => ?_)
  rcases hp with ⟨hv, hcc, w2, hP, h148, hf2⟩ | ⟨hP, ⟨hcc, hv⟩ | ⟨hcc, hv⟩⟩
  · subst hv
    obtain ⟨hfl, hP⟩ := hP
    subst hfl
    obtain ⟨hCh, hfP⟩ := hP
    have hCh1 : kCht G w1 := hCh.fr (fun j q1 q2 => hf2 j (by omega))
    have hSc1 : kScr G w1 := b5.fr (fun j q1 q2 => (hf2 j (by omega)).trans (hfP j (by omega)))
    show KW p l e R s m args below meth c 10 G Q w1 fl (cs + 8) (ss + 48) 564 [(5, vI (i : Int)), (4, .ref (kad G 149)), (3, .ref (kad G 148)), (2, .ref (kad G 133)), (1, .ref (kad G 0)), (0, .ref b)] [vI 0]
    refine k_istore hC [(6, vI 0), (5, vI (i : Int)), (4, .ref (kad G 149)), (3, .ref (kad G 148)), (2, .ref (kad G 133)), (1, .ref (kad G 0)), (0, .ref b)] dL_law_564 (by decide) rfl ?_
    refine k_aload_n hC dL_law_566 rfl 4 rfl ?_
    refine k_aload_n hC dL_law_567 rfl 6 rfl ?_
    refine k_iload hC dL_law_568 1 rfl ?_
    refine k_iconst hC dL_law_570 ?_
    refine k_iadd hC dL_law_571 ?_
    refine k_scr hC hX hbl hbA hL (i + 1) (by omega) (by omega) dL_law_572 ?_
    refine k_aload_n hC dL_law_573 rfl 6 rfl ?_
    refine k_iload hC dL_law_574 1 rfl ?_
    refine k_iconst hC dL_law_576 ?_
    refine k_iadd hC dL_law_577 ?_
    refine k_scr hC hX hbl hbA hL (i + 2) (by omega) (by omega) dL_law_578 ?_
    have h_1 : w1 133 = mdO G u := (hf2 133 (by decide)).trans ((hfP 133 (by decide)).trans b0)
    have h_2 : w1 134 = lA G 93 gr := (hf2 134 (by decide)).trans ((hfP 134 (by decide)).trans b1)
    refine k_callV hC (c_X12_leg l hls G hN w1 fl u gr (xI xs (i + 1)) (xI xs (i + 2)) (xI_r xs _) (xI_r xs _) hIr h_1 h_2 hSc1) yy_X12_leg wm_L_137 (kl hN (by decide)) h_1 rfl rfl rfl rfl (Nat.le_of_ble_eq_true rfl) (by omega) (by omega) ⟨by omega, by omega⟩ dL_law_579 (fun v3 w3 fl3 hp3 => ?_)
    obtain ⟨b3, th3, hv3, hfl3, hR3, hP3⟩ := hp3
    subst hv3
    subst hfl3
    obtain ⟨⟨fe, fn, hm3⟩, hS3, hf3⟩ := hP3
    rcases hR3 with ⟨q1, q2, q3⟩ | ⟨q1, q2⟩ | ⟨q1, q2⟩
    · subst q2
      show KW p l e R s m args below meth c 10 G Q w3 fl (cs + 8) (ss + 48) 582 [(6, vI 0), (5, vI (i : Int)), (4, .ref (kad G 149)), (3, .ref (kad G 148)), (2, .ref (kad G 133)), (1, .ref (kad G 0)), (0, .ref b)] [vI b3]
      refine k_istore hC [(7, vI b3), (6, vI 0), (5, vI (i : Int)), (4, .ref (kad G 149)), (3, .ref (kad G 148)), (2, .ref (kad G 133)), (1, .ref (kad G 0)), (0, .ref b)] dL_law_582 (by decide) rfl ?_
      refine k_aload_n hC dL_law_584 rfl 5 rfl ?_
      refine k_pureV hC (c_X12_thrown l hls G hN w3 fl (kup (kup (kup u 5 0) 12 fe) 13 fn) hm3) yy_X12_thrown wm_L_113 (kl hN (by decide)) hm3 rfl rfl rfl rfl (Nat.le_of_ble_eq_true rfl) (by omega) (by omega) ⟨by omega, by omega⟩ dL_law_585 ?_
      refine k_topv (vI 0) rfl ?_
      refine k_iload hC dL_law_588 1 rfl ?_
      refine k_icmp_eq hC 595 dL_law_590 rfl (by omega) (by omega) (fun c_590 => ?_) (fun c_590 => absurd c_590 (by omega))
      refine k_iload hC dL_law_595 1 rfl ?_
      refine k_if_ne hC 612 dL_law_597 rfl (by omega) (fun c_597 => absurd c_597 (by omega)) (fun c_597 => ?_)
      refine k_aload_n hC dL_law_600 rfl 4 rfl ?_
      refine k_iconst hC dL_law_601 ?_
      have h_3 : w3 148 = lA G 1 (fun _ => i32 (legV gc (xI xs (i + 1)).toNat (xI xs (i + 2)))) := (hf3 148 (by decide)).trans h148
      refine k_lald hC (kl hN (by decide)) h_3 (by omega) (by decide) dL_law_602 ?_
      refine k_topv (vL (i32 (legV gc (xI xs (i + 1)).toNat (xI xs (i + 2))))) rfl ?_
      refine k_iload hC dL_law_603 0 rfl ?_
      refine k_topv (vI (i32 b3)) (vI_32 _) ?_
      refine k_i2l hC dL_law_605 (i32_r _) ?_
      refine k_lcmp_eq hC 612 dL_law_606 dL_law_607 rfl (i32_l _) (i32_l _) (fun c_606 => ?_) (fun c_606 => absurd (congrArg i32 (show (legV gc (xI xs (i + 1)).toNat (xI xs (i + 2))) = b3 from (gE_legV hE (by omega) _).trans q3.symm)) c_606)
      refine k_goto hC 2319 dL_law_612 rfl ?_
      refine k_lvs (ls := [2, 3, 4, 5, 6, 7]) [(5, vI (i : Int)), (4, .ref (kad G 149)), (3, .ref (kad G 148)), (2, .ref (kad G 133)), (1, .ref (kad G 0)), (0, .ref b)] rfl ?_
      have h_4 : w3 149 = dA G 1 oD := (hf3 149 (by decide)).trans ((hf2 149 (by decide)).trans ((hfP 149 (by decide)).trans o2))
      exact kk w3 fl _ _ (LI.rd hc hm hr hw hT (hCh1.fr (fun j q1 q2 => hf3 j (by omega))) hS3 hm3 ⟨rfl, rfl, rfl, rfl, rfl⟩ ⟨⟨_, h_3⟩, ⟨_, h_4⟩⟩ (fun j hj => (hf3 j (by omega)).trans ((hf2 j (by omega)).trans (hfP j (by omega))))) (by omega) (by omega)
    · exfalso; omega
    · exact q1.elim
  · subst hv
    obtain ⟨hfl, hP⟩ := hP
    subst hfl
    obtain ⟨hCh, hfP⟩ := hP
    have hCh1 := hCh
    have hSc1 : kScr G w1 := b5.fr (fun j q1 q2 => hfP j (by omega))
    show KW p l e R s m args below meth c 10 G Q w1 fl (cs + 8) (ss + 48) 564 [(5, vI (i : Int)), (4, .ref (kad G 149)), (3, .ref (kad G 148)), (2, .ref (kad G 133)), (1, .ref (kad G 0)), (0, .ref b)] [vI 1]
    refine k_istore hC [(6, vI 1), (5, vI (i : Int)), (4, .ref (kad G 149)), (3, .ref (kad G 148)), (2, .ref (kad G 133)), (1, .ref (kad G 0)), (0, .ref b)] dL_law_564 (by decide) rfl ?_
    refine k_aload_n hC dL_law_566 rfl 4 rfl ?_
    refine k_aload_n hC dL_law_567 rfl 6 rfl ?_
    refine k_iload hC dL_law_568 1 rfl ?_
    refine k_iconst hC dL_law_570 ?_
    refine k_iadd hC dL_law_571 ?_
    refine k_scr hC hX hbl hbA hL (i + 1) (by omega) (by omega) dL_law_572 ?_
    refine k_aload_n hC dL_law_573 rfl 6 rfl ?_
    refine k_iload hC dL_law_574 1 rfl ?_
    refine k_iconst hC dL_law_576 ?_
    refine k_iadd hC dL_law_577 ?_
    refine k_scr hC hX hbl hbA hL (i + 2) (by omega) (by omega) dL_law_578 ?_
    have h_5 : w1 133 = mdO G u := (hfP 133 (by decide)).trans b0
    have h_6 : w1 134 = lA G 93 gr := (hfP 134 (by decide)).trans b1
    refine k_callV hC (c_X12_leg l hls G hN w1 fl u gr (xI xs (i + 1)) (xI xs (i + 2)) (xI_r xs _) (xI_r xs _) hIr h_5 h_6 hSc1) yy_X12_leg wm_L_137 (kl hN (by decide)) h_5 rfl rfl rfl rfl (Nat.le_of_ble_eq_true rfl) (by omega) (by omega) ⟨by omega, by omega⟩ dL_law_579 (fun v3 w3 fl3 hp3 => ?_)
    obtain ⟨b3, th3, hv3, hfl3, hR3, hP3⟩ := hp3
    subst hv3
    subst hfl3
    obtain ⟨⟨fe, fn, hm3⟩, hS3, hf3⟩ := hP3
    rcases hR3 with ⟨q1, q2, q3⟩ | ⟨q1, q2⟩ | ⟨q1, q2⟩
    · exfalso; omega
    · subst q2
      show KW p l e R s m args below meth c 10 G Q w3 fl (cs + 8) (ss + 48) 582 [(6, vI 1), (5, vI (i : Int)), (4, .ref (kad G 149)), (3, .ref (kad G 148)), (2, .ref (kad G 133)), (1, .ref (kad G 0)), (0, .ref b)] [vI b3]
      refine k_istore hC [(7, vI b3), (6, vI 1), (5, vI (i : Int)), (4, .ref (kad G 149)), (3, .ref (kad G 148)), (2, .ref (kad G 133)), (1, .ref (kad G 0)), (0, .ref b)] dL_law_582 (by decide) rfl ?_
      refine k_aload_n hC dL_law_584 rfl 5 rfl ?_
      refine k_pureV hC (c_X12_thrown l hls G hN w3 fl (kup (kup (kup u 5 1) 12 fe) 13 fn) hm3) yy_X12_thrown wm_L_113 (kl hN (by decide)) hm3 rfl rfl rfl rfl (Nat.le_of_ble_eq_true rfl) (by omega) (by omega) ⟨by omega, by omega⟩ dL_law_585 ?_
      refine k_topv (vI 1) rfl ?_
      refine k_iload hC dL_law_588 1 rfl ?_
      refine k_icmp_eq hC 595 dL_law_590 rfl (by omega) (by omega) (fun c_590 => ?_) (fun c_590 => absurd c_590 (by omega))
      refine k_iload hC dL_law_595 1 rfl ?_
      refine k_if_ne hC 612 dL_law_597 rfl (by omega) (fun c_597 => ?_) (fun c_597 => absurd c_597 (by omega))
      refine k_goto hC 2319 dL_law_612 rfl ?_
      refine k_lvs (ls := [2, 3, 4, 5, 6, 7]) [(5, vI (i : Int)), (4, .ref (kad G 149)), (3, .ref (kad G 148)), (2, .ref (kad G 133)), (1, .ref (kad G 0)), (0, .ref b)] rfl ?_
      have h_7 : w3 148 = lA G 1 out := (hf3 148 (by decide)).trans ((hfP 148 (by decide)).trans o1)
      have h_8 : w3 149 = dA G 1 oD := (hf3 149 (by decide)).trans ((hfP 149 (by decide)).trans o2)
      exact kk w3 fl _ _ (LI.rd hc hm hr hw hT (hCh1.fr (fun j q1 q2 => hf3 j (by omega))) hS3 hm3 ⟨rfl, rfl, rfl, rfl, rfl⟩ ⟨⟨_, h_7⟩, ⟨_, h_8⟩⟩ (fun j hj => (hf3 j (by omega)).trans (hfP j (by omega)))) (by omega) (by omega)
    · exact q1.elim
  · exact hcc.elim

set_option maxRecDepth 100000 in
set_option maxHeartbeats 4000000 in
theorem lw_displacement {p : Program} {l : Launch} {e : Env} {R : Room} {s : State} {m : MethodId} {args : Array Value} {below : List Frame} {meth : Method} {c : Code} {G : kG} {d0 mc0 ms0 : Nat} {Q : State → Prop} {b L : Nat} {xs : Nat → Int32} (hC : kC p l R s m args meth c cL_law RL 10 G d0 mc0 ms0) (hls : l.stackTraces = false) (hN : kN G = 150) (hNc : va_Nc "java/lang/IllegalArgumentException" "java/util/NoSuchElementException" s) (hX : va_X b L xs s s.heap) (hbl : b < s.heap.size) (hbA : ¬ kA G b) (hL : L ≤ 3584) (hd0 : 60 ≤ d0) {cs ss : Nat} (hcs : cs + 16 ≤ mc0 ∧ ss + 400 ≤ ms0) (i : Nat) (hi : i + 7 ≤ L) (w : Nat → va_E) (fl : va_W) (hLI : LI G w fl)
    (kk : ∀ (w' : Nat → va_E) (fl' : va_W) (cs' ss' : Nat), LI G w' fl' → cs' ≤ cs + 16 → ss' ≤ ss + 400 → KW p l e R s m args below meth c 10 G Q w' fl' cs' ss' 2319 [(5, vI (i : Int)), (4, .ref (kad G 149)), (3, .ref (kad G 148)), (2, .ref (kad G 133)), (1, .ref (kad G 0)), (0, .ref b)] []) : KW p l e R s m args below meth c 10 G Q w fl cs ss 615 [(5, vI (i : Int)), (4, .ref (kad G 149)), (3, .ref (kad G 148)), (2, .ref (kad G 133)), (1, .ref (kad G 0)), (0, .ref b)] [] := by
  obtain ⟨bt, gc, nl, gp0, nl9, gl0, gs, c0, nx, cn, cap, cd, ea, kd, nm, sa, nx9, en, sv, hs, T, u, gr, D0, sp, H, hc, hm, ho, hr, hw, hT⟩ := hLI
  have hc1 := hc
  have hm1 := hm
  have hr1 := hr
  have ho1 := ho
  obtain ⟨⟨a0, asv⟩, a1, ⟨a2, abt, ac7⟩, a3, a4, a5, a6, ⟨a7, anx, acn⟩, ⟨a8, a9, a10⟩, ⟨a11, a12, a13⟩, a14⟩ := hc1
  obtain ⟨b0, b1, b2, b3, b4, b5, b6, b7, ⟨cf, b8⟩, ⟨fq, b9⟩⟩ := hm1
  obtain ⟨⟨out, o1⟩, ⟨oD, o2⟩⟩ := ho1
  obtain ⟨r0, r1, r2, r3, r4, r5, r6⟩ := hr1
  have hI := r0.inv
  have hIr := r0.2.1
  have hE := r0.1
  have e0 := hE.n 0 (by decide)
  have e1 := hE.n 1 (by decide)
  have e2 := hE.n 2 (by decide)
  have hgc := hI.c
  by_cases hq : xI xs (i + 2) = 0
  · refine k_aload_n hC dL_law_615 rfl 4 rfl ?_
    refine k_aload_n hC dL_law_616 rfl 5 rfl ?_
    refine k_iload hC dL_law_617 0 rfl ?_
    refine k_iconst hC dL_law_619 ?_
    refine k_iadd hC dL_law_620 ?_
    refine k_scr hC hX hbl hbA hL (i + 1) (by omega) (by omega) dL_law_621 ?_
    refine k_aload_n hC dL_law_622 rfl 5 rfl ?_
    refine k_iload hC dL_law_623 0 rfl ?_
    refine k_iconst hC dL_law_625 ?_
    refine k_iadd hC dL_law_626 ?_
    refine k_scr hC hX hbl hbA hL (i + 2) (by omega) (by omega) dL_law_627 ?_
    refine k_if_eq hC 635 dL_law_628 rfl (xI_r xs _) (fun c_628 => ?_) (fun c_628 => absurd hq c_628)
    refine k_iconst hC dL_law_635 ?_
    refine k_aload_n hC dL_law_636 rfl 2 rfl ?_
    refine k_callL hC hNc (n := 4) (c_L_displacement l hls G hN w fl gc nl sv (xI xs (i + 1)) 0 out (xI_r xs _) (by decide) hI a0 a3 a4 a5 o1) wc_L_displacement wz_L (by decide +kernel) wt_L_displacement wm_L_138 rfl rfl (Nat.le_of_ble_eq_true rfl) (by omega) (by omega) ⟨by omega, by omega⟩ dL_law_637 (fun v1 w1 fl1 hp => ?_)
    rcases hp with ⟨hv, hcc, w2, hP, h148, hf2⟩ | ⟨hP, ⟨hcc, hv⟩ | ⟨hcc, hv⟩⟩
    · subst hv
      obtain ⟨hfl, hP⟩ := hP
      subst hfl
      obtain ⟨hCh, hfP⟩ := hP
      have hCh1 : kCht G w1 := hCh.fr (fun j q1 q2 => hf2 j (by omega))
      have hSc1 : kScr G w1 := b5.fr (fun j q1 q2 => (hf2 j (by omega)).trans (hfP j (by omega)))
      show KW p l e R s m args below meth c 10 G Q w1 fl (cs + 8) (ss + 48) 640 [(5, vI (i : Int)), (4, .ref (kad G 149)), (3, .ref (kad G 148)), (2, .ref (kad G 133)), (1, .ref (kad G 0)), (0, .ref b)] [vI 0]
      refine k_istore hC [(6, vI 0), (5, vI (i : Int)), (4, .ref (kad G 149)), (3, .ref (kad G 148)), (2, .ref (kad G 133)), (1, .ref (kad G 0)), (0, .ref b)] dL_law_640 (by decide) rfl ?_
      refine k_aload_n hC dL_law_642 rfl 4 rfl ?_
      refine k_aload_n hC dL_law_643 rfl 6 rfl ?_
      refine k_iload hC dL_law_644 1 rfl ?_
      refine k_iconst hC dL_law_646 ?_
      refine k_iadd hC dL_law_647 ?_
      refine k_scr hC hX hbl hbA hL (i + 1) (by omega) (by omega) dL_law_648 ?_
      refine k_aload_n hC dL_law_649 rfl 6 rfl ?_
      refine k_iload hC dL_law_650 1 rfl ?_
      refine k_iconst hC dL_law_652 ?_
      refine k_iadd hC dL_law_653 ?_
      refine k_scr hC hX hbl hbA hL (i + 2) (by omega) (by omega) dL_law_654 ?_
      refine k_if_eq hC 662 dL_law_655 rfl (xI_r xs _) (fun c_655 => ?_) (fun c_655 => absurd hq c_655)
      refine k_iconst hC dL_law_662 ?_
      have h_1 : w1 133 = mdO G u := (hf2 133 (by decide)).trans ((hfP 133 (by decide)).trans b0)
      have h_2 : w1 134 = lA G 93 gr := (hf2 134 (by decide)).trans ((hfP 134 (by decide)).trans b1)
      refine k_callV hC (c_X12_displacement l hls G hN w1 fl u gr (xI xs (i + 1)) 0 (xI_r xs _) (by decide) hIr h_1 h_2 hSc1) yy_X12_displacement wm_L_141 (kl hN (by decide)) h_1 rfl rfl rfl rfl (Nat.le_of_ble_eq_true rfl) (by omega) (by omega) ⟨by omega, by omega⟩ dL_law_663 (fun v3 w3 fl3 hp3 => ?_)
      obtain ⟨b3, th3, hv3, hfl3, hR3, hP3⟩ := hp3
      subst hv3
      subst hfl3
      obtain ⟨⟨fe, fn, hm3⟩, hS3, hf3⟩ := hP3
      rcases hR3 with ⟨q1, q2, q3⟩ | ⟨q1, q2⟩ | ⟨q1, q2⟩
      · subst q2
        show KW p l e R s m args below meth c 10 G Q w3 fl (cs + 8) (ss + 48) 666 [(6, vI 0), (5, vI (i : Int)), (4, .ref (kad G 149)), (3, .ref (kad G 148)), (2, .ref (kad G 133)), (1, .ref (kad G 0)), (0, .ref b)] [vI b3]
        refine k_istore hC [(7, vI b3), (6, vI 0), (5, vI (i : Int)), (4, .ref (kad G 149)), (3, .ref (kad G 148)), (2, .ref (kad G 133)), (1, .ref (kad G 0)), (0, .ref b)] dL_law_666 (by decide) rfl ?_
        refine k_aload_n hC dL_law_668 rfl 5 rfl ?_
        refine k_pureV hC (c_X12_thrown l hls G hN w3 fl (kup (kup (kup u 5 0) 12 fe) 13 fn) hm3) yy_X12_thrown wm_L_113 (kl hN (by decide)) hm3 rfl rfl rfl rfl (Nat.le_of_ble_eq_true rfl) (by omega) (by omega) ⟨by omega, by omega⟩ dL_law_669 ?_
        refine k_topv (vI 0) rfl ?_
        refine k_iload hC dL_law_672 1 rfl ?_
        refine k_icmp_eq hC 679 dL_law_674 rfl (by omega) (by omega) (fun c_674 => ?_) (fun c_674 => absurd c_674 (by omega))
        refine k_iload hC dL_law_679 1 rfl ?_
        refine k_if_ne hC 696 dL_law_681 rfl (by omega) (fun c_681 => absurd c_681 (by omega)) (fun c_681 => ?_)
        refine k_aload_n hC dL_law_684 rfl 4 rfl ?_
        refine k_iconst hC dL_law_685 ?_
        have h_3 : w3 148 = lA G 1 (fun _ => i32 (if 0 = 0 then dispM gc (xI xs (i + 1)) false else dispM gc (xI xs (i + 1)) true)) := (hf3 148 (by decide)).trans h148
        refine k_lald hC (kl hN (by decide)) h_3 (by omega) (by decide) dL_law_686 ?_
        refine k_topv (vL (i32 (if 0 = 0 then dispM gc (xI xs (i + 1)) false else dispM gc (xI xs (i + 1)) true))) rfl ?_
        refine k_iload hC dL_law_687 0 rfl ?_
        refine k_topv (vI (i32 b3)) (vI_32 _) ?_
        refine k_i2l hC dL_law_689 (i32_r _) ?_
        refine k_lcmp_eq hC 696 dL_law_690 dL_law_691 rfl (i32_l _) (i32_l _) (fun c_690 => ?_) (fun c_690 => absurd (congrArg i32 (show (if 0 = 0 then dispM gc (xI xs (i + 1)) false else dispM gc (xI xs (i + 1)) true) = b3 from (by rw [hE.disp hI _ false, hE.disp hI _ true]; exact q3.symm))) c_690)
        refine k_goto hC 2319 dL_law_696 rfl ?_
        refine k_lvs (ls := [2, 3, 4, 5, 6, 7]) [(5, vI (i : Int)), (4, .ref (kad G 149)), (3, .ref (kad G 148)), (2, .ref (kad G 133)), (1, .ref (kad G 0)), (0, .ref b)] rfl ?_
        have h_4 : w3 149 = dA G 1 oD := (hf3 149 (by decide)).trans ((hf2 149 (by decide)).trans ((hfP 149 (by decide)).trans o2))
        exact kk w3 fl _ _ (LI.rd hc hm hr hw hT (hCh1.fr (fun j q1 q2 => hf3 j (by omega))) hS3 hm3 ⟨rfl, rfl, rfl, rfl, rfl⟩ ⟨⟨_, h_3⟩, ⟨_, h_4⟩⟩ (fun j hj => (hf3 j (by omega)).trans ((hf2 j (by omega)).trans (hfP j (by omega))))) (by omega) (by omega)
      · exact q1.elim
      · exfalso; omega
    · exact hcc.elim
    · subst hv
      obtain ⟨hfl, hP⟩ := hP
      subst hfl
      obtain ⟨hCh, hfP⟩ := hP
      have hCh1 := hCh
      have hSc1 : kScr G w1 := b5.fr (fun j q1 q2 => hfP j (by omega))
      show KW p l e R s m args below meth c 10 G Q w1 fl (cs + 8) (ss + 48) 640 [(5, vI (i : Int)), (4, .ref (kad G 149)), (3, .ref (kad G 148)), (2, .ref (kad G 133)), (1, .ref (kad G 0)), (0, .ref b)] [vI 1]
      refine k_istore hC [(6, vI 1), (5, vI (i : Int)), (4, .ref (kad G 149)), (3, .ref (kad G 148)), (2, .ref (kad G 133)), (1, .ref (kad G 0)), (0, .ref b)] dL_law_640 (by decide) rfl ?_
      refine k_aload_n hC dL_law_642 rfl 4 rfl ?_
      refine k_aload_n hC dL_law_643 rfl 6 rfl ?_
      refine k_iload hC dL_law_644 1 rfl ?_
      refine k_iconst hC dL_law_646 ?_
      refine k_iadd hC dL_law_647 ?_
      refine k_scr hC hX hbl hbA hL (i + 1) (by omega) (by omega) dL_law_648 ?_
      refine k_aload_n hC dL_law_649 rfl 6 rfl ?_
      refine k_iload hC dL_law_650 1 rfl ?_
      refine k_iconst hC dL_law_652 ?_
      refine k_iadd hC dL_law_653 ?_
      refine k_scr hC hX hbl hbA hL (i + 2) (by omega) (by omega) dL_law_654 ?_
      refine k_if_eq hC 662 dL_law_655 rfl (xI_r xs _) (fun c_655 => ?_) (fun c_655 => absurd hq c_655)
      refine k_iconst hC dL_law_662 ?_
      have h_5 : w1 133 = mdO G u := (hfP 133 (by decide)).trans b0
      have h_6 : w1 134 = lA G 93 gr := (hfP 134 (by decide)).trans b1
      refine k_callV hC (c_X12_displacement l hls G hN w1 fl u gr (xI xs (i + 1)) 0 (xI_r xs _) (by decide) hIr h_5 h_6 hSc1) yy_X12_displacement wm_L_141 (kl hN (by decide)) h_5 rfl rfl rfl rfl (Nat.le_of_ble_eq_true rfl) (by omega) (by omega) ⟨by omega, by omega⟩ dL_law_663 (fun v3 w3 fl3 hp3 => ?_)
      obtain ⟨b3, th3, hv3, hfl3, hR3, hP3⟩ := hp3
      subst hv3
      subst hfl3
      obtain ⟨⟨fe, fn, hm3⟩, hS3, hf3⟩ := hP3
      rcases hR3 with ⟨q1, q2, q3⟩ | ⟨q1, q2⟩ | ⟨q1, q2⟩
      · exfalso; omega
      · exact q1.elim
      · subst q2
        show KW p l e R s m args below meth c 10 G Q w3 fl (cs + 8) (ss + 48) 666 [(6, vI 1), (5, vI (i : Int)), (4, .ref (kad G 149)), (3, .ref (kad G 148)), (2, .ref (kad G 133)), (1, .ref (kad G 0)), (0, .ref b)] [vI b3]
        refine k_istore hC [(7, vI b3), (6, vI 1), (5, vI (i : Int)), (4, .ref (kad G 149)), (3, .ref (kad G 148)), (2, .ref (kad G 133)), (1, .ref (kad G 0)), (0, .ref b)] dL_law_666 (by decide) rfl ?_
        refine k_aload_n hC dL_law_668 rfl 5 rfl ?_
        refine k_pureV hC (c_X12_thrown l hls G hN w3 fl (kup (kup (kup u 5 1) 12 fe) 13 fn) hm3) yy_X12_thrown wm_L_113 (kl hN (by decide)) hm3 rfl rfl rfl rfl (Nat.le_of_ble_eq_true rfl) (by omega) (by omega) ⟨by omega, by omega⟩ dL_law_669 ?_
        refine k_topv (vI 1) rfl ?_
        refine k_iload hC dL_law_672 1 rfl ?_
        refine k_icmp_eq hC 679 dL_law_674 rfl (by omega) (by omega) (fun c_674 => ?_) (fun c_674 => absurd c_674 (by omega))
        refine k_iload hC dL_law_679 1 rfl ?_
        refine k_if_ne hC 696 dL_law_681 rfl (by omega) (fun c_681 => ?_) (fun c_681 => absurd c_681 (by omega))
        refine k_goto hC 2319 dL_law_696 rfl ?_
        refine k_lvs (ls := [2, 3, 4, 5, 6, 7]) [(5, vI (i : Int)), (4, .ref (kad G 149)), (3, .ref (kad G 148)), (2, .ref (kad G 133)), (1, .ref (kad G 0)), (0, .ref b)] rfl ?_
        have h_7 : w3 148 = lA G 1 out := (hf3 148 (by decide)).trans ((hfP 148 (by decide)).trans o1)
        have h_8 : w3 149 = dA G 1 oD := (hf3 149 (by decide)).trans ((hfP 149 (by decide)).trans o2)
        exact kk w3 fl _ _ (LI.rd hc hm hr hw hT (hCh1.fr (fun j q1 q2 => hf3 j (by omega))) hS3 hm3 ⟨rfl, rfl, rfl, rfl, rfl⟩ ⟨⟨_, h_7⟩, ⟨_, h_8⟩⟩ (fun j hj => (hf3 j (by omega)).trans (hfP j (by omega)))) (by omega) (by omega)
  · refine k_aload_n hC dL_law_615 rfl 4 rfl ?_
    refine k_aload_n hC dL_law_616 rfl 5 rfl ?_
    refine k_iload hC dL_law_617 0 rfl ?_
    refine k_iconst hC dL_law_619 ?_
    refine k_iadd hC dL_law_620 ?_
    refine k_scr hC hX hbl hbA hL (i + 1) (by omega) (by omega) dL_law_621 ?_
    refine k_aload_n hC dL_law_622 rfl 5 rfl ?_
    refine k_iload hC dL_law_623 0 rfl ?_
    refine k_iconst hC dL_law_625 ?_
    refine k_iadd hC dL_law_626 ?_
    refine k_scr hC hX hbl hbA hL (i + 2) (by omega) (by omega) dL_law_627 ?_
    refine k_if_eq hC 635 dL_law_628 rfl (xI_r xs _) (fun c_628 => absurd c_628 hq) (fun c_628 => ?_)
    refine k_iconst hC dL_law_631 ?_
    refine k_goto hC 636 dL_law_632 rfl ?_
    refine k_aload_n hC dL_law_636 rfl 2 rfl ?_
    refine k_callL hC hNc (n := 4) (c_L_displacement l hls G hN w fl gc nl sv (xI xs (i + 1)) 1 out (xI_r xs _) (by decide) hI a0 a3 a4 a5 o1) wc_L_displacement wz_L (by decide +kernel) wt_L_displacement wm_L_138 rfl rfl (Nat.le_of_ble_eq_true rfl) (by omega) (by omega) ⟨by omega, by omega⟩ dL_law_637 (fun v1 w1 fl1 hp => ?_)
    rcases hp with ⟨hv, hcc, w2, hP, h148, hf2⟩ | ⟨hP, ⟨hcc, hv⟩ | ⟨hcc, hv⟩⟩
    · subst hv
      obtain ⟨hfl, hP⟩ := hP
      subst hfl
      obtain ⟨hCh, hfP⟩ := hP
      have hCh1 : kCht G w1 := hCh.fr (fun j q1 q2 => hf2 j (by omega))
      have hSc1 : kScr G w1 := b5.fr (fun j q1 q2 => (hf2 j (by omega)).trans (hfP j (by omega)))
      show KW p l e R s m args below meth c 10 G Q w1 fl (cs + 8) (ss + 48) 640 [(5, vI (i : Int)), (4, .ref (kad G 149)), (3, .ref (kad G 148)), (2, .ref (kad G 133)), (1, .ref (kad G 0)), (0, .ref b)] [vI 0]
      refine k_istore hC [(6, vI 0), (5, vI (i : Int)), (4, .ref (kad G 149)), (3, .ref (kad G 148)), (2, .ref (kad G 133)), (1, .ref (kad G 0)), (0, .ref b)] dL_law_640 (by decide) rfl ?_
      refine k_aload_n hC dL_law_642 rfl 4 rfl ?_
      refine k_aload_n hC dL_law_643 rfl 6 rfl ?_
      refine k_iload hC dL_law_644 1 rfl ?_
      refine k_iconst hC dL_law_646 ?_
      refine k_iadd hC dL_law_647 ?_
      refine k_scr hC hX hbl hbA hL (i + 1) (by omega) (by omega) dL_law_648 ?_
      refine k_aload_n hC dL_law_649 rfl 6 rfl ?_
      refine k_iload hC dL_law_650 1 rfl ?_
      refine k_iconst hC dL_law_652 ?_
      refine k_iadd hC dL_law_653 ?_
      refine k_scr hC hX hbl hbA hL (i + 2) (by omega) (by omega) dL_law_654 ?_
      refine k_if_eq hC 662 dL_law_655 rfl (xI_r xs _) (fun c_655 => absurd c_655 hq) (fun c_655 => ?_)
      refine k_iconst hC dL_law_658 ?_
      refine k_goto hC 663 dL_law_659 rfl ?_
      have h_9 : w1 133 = mdO G u := (hf2 133 (by decide)).trans ((hfP 133 (by decide)).trans b0)
      have h_10 : w1 134 = lA G 93 gr := (hf2 134 (by decide)).trans ((hfP 134 (by decide)).trans b1)
      refine k_callV hC (c_X12_displacement l hls G hN w1 fl u gr (xI xs (i + 1)) 1 (xI_r xs _) (by decide) hIr h_9 h_10 hSc1) yy_X12_displacement wm_L_141 (kl hN (by decide)) h_9 rfl rfl rfl rfl (Nat.le_of_ble_eq_true rfl) (by omega) (by omega) ⟨by omega, by omega⟩ dL_law_663 (fun v3 w3 fl3 hp3 => ?_)
      obtain ⟨b3, th3, hv3, hfl3, hR3, hP3⟩ := hp3
      subst hv3
      subst hfl3
      obtain ⟨⟨fe, fn, hm3⟩, hS3, hf3⟩ := hP3
      rcases hR3 with ⟨q1, q2, q3⟩ | ⟨q1, q2⟩ | ⟨q1, q2⟩
      · subst q2
        show KW p l e R s m args below meth c 10 G Q w3 fl (cs + 8) (ss + 48) 666 [(6, vI 0), (5, vI (i : Int)), (4, .ref (kad G 149)), (3, .ref (kad G 148)), (2, .ref (kad G 133)), (1, .ref (kad G 0)), (0, .ref b)] [vI b3]
        refine k_istore hC [(7, vI b3), (6, vI 0), (5, vI (i : Int)), (4, .ref (kad G 149)), (3, .ref (kad G 148)), (2, .ref (kad G 133)), (1, .ref (kad G 0)), (0, .ref b)] dL_law_666 (by decide) rfl ?_
        refine k_aload_n hC dL_law_668 rfl 5 rfl ?_
        refine k_pureV hC (c_X12_thrown l hls G hN w3 fl (kup (kup (kup u 5 0) 12 fe) 13 fn) hm3) yy_X12_thrown wm_L_113 (kl hN (by decide)) hm3 rfl rfl rfl rfl (Nat.le_of_ble_eq_true rfl) (by omega) (by omega) ⟨by omega, by omega⟩ dL_law_669 ?_
        refine k_topv (vI 0) rfl ?_
        refine k_iload hC dL_law_672 1 rfl ?_
        refine k_icmp_eq hC 679 dL_law_674 rfl (by omega) (by omega) (fun c_674 => ?_) (fun c_674 => absurd c_674 (by omega))
        refine k_iload hC dL_law_679 1 rfl ?_
        refine k_if_ne hC 696 dL_law_681 rfl (by omega) (fun c_681 => absurd c_681 (by omega)) (fun c_681 => ?_)
        refine k_aload_n hC dL_law_684 rfl 4 rfl ?_
        refine k_iconst hC dL_law_685 ?_
        have h_11 : w3 148 = lA G 1 (fun _ => i32 (if 1 = 0 then dispM gc (xI xs (i + 1)) false else dispM gc (xI xs (i + 1)) true)) := (hf3 148 (by decide)).trans h148
        refine k_lald hC (kl hN (by decide)) h_11 (by omega) (by decide) dL_law_686 ?_
        refine k_topv (vL (i32 (if 1 = 0 then dispM gc (xI xs (i + 1)) false else dispM gc (xI xs (i + 1)) true))) rfl ?_
        refine k_iload hC dL_law_687 0 rfl ?_
        refine k_topv (vI (i32 b3)) (vI_32 _) ?_
        refine k_i2l hC dL_law_689 (i32_r _) ?_
        refine k_lcmp_eq hC 696 dL_law_690 dL_law_691 rfl (i32_l _) (i32_l _) (fun c_690 => ?_) (fun c_690 => absurd (congrArg i32 (show (if 1 = 0 then dispM gc (xI xs (i + 1)) false else dispM gc (xI xs (i + 1)) true) = b3 from (by rw [hE.disp hI _ false, hE.disp hI _ true]; exact q3.symm))) c_690)
        refine k_goto hC 2319 dL_law_696 rfl ?_
        refine k_lvs (ls := [2, 3, 4, 5, 6, 7]) [(5, vI (i : Int)), (4, .ref (kad G 149)), (3, .ref (kad G 148)), (2, .ref (kad G 133)), (1, .ref (kad G 0)), (0, .ref b)] rfl ?_
        have h_12 : w3 149 = dA G 1 oD := (hf3 149 (by decide)).trans ((hf2 149 (by decide)).trans ((hfP 149 (by decide)).trans o2))
        exact kk w3 fl _ _ (LI.rd hc hm hr hw hT (hCh1.fr (fun j q1 q2 => hf3 j (by omega))) hS3 hm3 ⟨rfl, rfl, rfl, rfl, rfl⟩ ⟨⟨_, h_11⟩, ⟨_, h_12⟩⟩ (fun j hj => (hf3 j (by omega)).trans ((hf2 j (by omega)).trans (hfP j (by omega))))) (by omega) (by omega)
      · exact q1.elim
      · exfalso; omega
    · exact hcc.elim
    · subst hv
      obtain ⟨hfl, hP⟩ := hP
      subst hfl
      obtain ⟨hCh, hfP⟩ := hP
      have hCh1 := hCh
      have hSc1 : kScr G w1 := b5.fr (fun j q1 q2 => hfP j (by omega))
      show KW p l e R s m args below meth c 10 G Q w1 fl (cs + 8) (ss + 48) 640 [(5, vI (i : Int)), (4, .ref (kad G 149)), (3, .ref (kad G 148)), (2, .ref (kad G 133)), (1, .ref (kad G 0)), (0, .ref b)] [vI 1]
      refine k_istore hC [(6, vI 1), (5, vI (i : Int)), (4, .ref (kad G 149)), (3, .ref (kad G 148)), (2, .ref (kad G 133)), (1, .ref (kad G 0)), (0, .ref b)] dL_law_640 (by decide) rfl ?_
      refine k_aload_n hC dL_law_642 rfl 4 rfl ?_
      refine k_aload_n hC dL_law_643 rfl 6 rfl ?_
      refine k_iload hC dL_law_644 1 rfl ?_
      refine k_iconst hC dL_law_646 ?_
      refine k_iadd hC dL_law_647 ?_
      refine k_scr hC hX hbl hbA hL (i + 1) (by omega) (by omega) dL_law_648 ?_
      refine k_aload_n hC dL_law_649 rfl 6 rfl ?_
      refine k_iload hC dL_law_650 1 rfl ?_
      refine k_iconst hC dL_law_652 ?_
      refine k_iadd hC dL_law_653 ?_
      refine k_scr hC hX hbl hbA hL (i + 2) (by omega) (by omega) dL_law_654 ?_
      refine k_if_eq hC 662 dL_law_655 rfl (xI_r xs _) (fun c_655 => absurd c_655 hq) (fun c_655 => ?_)
      refine k_iconst hC dL_law_658 ?_
      refine k_goto hC 663 dL_law_659 rfl ?_
      have h_13 : w1 133 = mdO G u := (hfP 133 (by decide)).trans b0
      have h_14 : w1 134 = lA G 93 gr := (hfP 134 (by decide)).trans b1
      refine k_callV hC (c_X12_displacement l hls G hN w1 fl u gr (xI xs (i + 1)) 1 (xI_r xs _) (by decide) hIr h_13 h_14 hSc1) yy_X12_displacement wm_L_141 (kl hN (by decide)) h_13 rfl rfl rfl rfl (Nat.le_of_ble_eq_true rfl) (by omega) (by omega) ⟨by omega, by omega⟩ dL_law_663 (fun v3 w3 fl3 hp3 => ?_)
      obtain ⟨b3, th3, hv3, hfl3, hR3, hP3⟩ := hp3
      subst hv3
      subst hfl3
      obtain ⟨⟨fe, fn, hm3⟩, hS3, hf3⟩ := hP3
      rcases hR3 with ⟨q1, q2, q3⟩ | ⟨q1, q2⟩ | ⟨q1, q2⟩
      · exfalso; omega
      · exact q1.elim
      · subst q2
        show KW p l e R s m args below meth c 10 G Q w3 fl (cs + 8) (ss + 48) 666 [(6, vI 1), (5, vI (i : Int)), (4, .ref (kad G 149)), (3, .ref (kad G 148)), (2, .ref (kad G 133)), (1, .ref (kad G 0)), (0, .ref b)] [vI b3]
        refine k_istore hC [(7, vI b3), (6, vI 1), (5, vI (i : Int)), (4, .ref (kad G 149)), (3, .ref (kad G 148)), (2, .ref (kad G 133)), (1, .ref (kad G 0)), (0, .ref b)] dL_law_666 (by decide) rfl ?_
        refine k_aload_n hC dL_law_668 rfl 5 rfl ?_
        refine k_pureV hC (c_X12_thrown l hls G hN w3 fl (kup (kup (kup u 5 1) 12 fe) 13 fn) hm3) yy_X12_thrown wm_L_113 (kl hN (by decide)) hm3 rfl rfl rfl rfl (Nat.le_of_ble_eq_true rfl) (by omega) (by omega) ⟨by omega, by omega⟩ dL_law_669 ?_
        refine k_topv (vI 1) rfl ?_
        refine k_iload hC dL_law_672 1 rfl ?_
        refine k_icmp_eq hC 679 dL_law_674 rfl (by omega) (by omega) (fun c_674 => ?_) (fun c_674 => absurd c_674 (by omega))
        refine k_iload hC dL_law_679 1 rfl ?_
        refine k_if_ne hC 696 dL_law_681 rfl (by omega) (fun c_681 => ?_) (fun c_681 => absurd c_681 (by omega))
        refine k_goto hC 2319 dL_law_696 rfl ?_
        refine k_lvs (ls := [2, 3, 4, 5, 6, 7]) [(5, vI (i : Int)), (4, .ref (kad G 149)), (3, .ref (kad G 148)), (2, .ref (kad G 133)), (1, .ref (kad G 0)), (0, .ref b)] rfl ?_
        have h_15 : w3 148 = lA G 1 out := (hf3 148 (by decide)).trans ((hfP 148 (by decide)).trans o1)
        have h_16 : w3 149 = dA G 1 oD := (hf3 149 (by decide)).trans ((hfP 149 (by decide)).trans o2)
        exact kk w3 fl _ _ (LI.rd hc hm hr hw hT (hCh1.fr (fun j q1 q2 => hf3 j (by omega))) hS3 hm3 ⟨rfl, rfl, rfl, rfl, rfl⟩ ⟨⟨_, h_15⟩, ⟨_, h_16⟩⟩ (fun j hj => (hf3 j (by omega)).trans (hfP j (by omega)))) (by omega) (by omega)

set_option maxRecDepth 100000 in
set_option maxHeartbeats 4000000 in
theorem lw_reckoned {p : Program} {l : Launch} {e : Env} {R : Room} {s : State} {m : MethodId} {args : Array Value} {below : List Frame} {meth : Method} {c : Code} {G : kG} {d0 mc0 ms0 : Nat} {Q : State → Prop} {b L : Nat} {xs : Nat → Int32} (hC : kC p l R s m args meth c cL_law RL 10 G d0 mc0 ms0) (hls : l.stackTraces = false) (hN : kN G = 150) (hNc : va_Nc "java/lang/IllegalArgumentException" "java/util/NoSuchElementException" s) (hX : va_X b L xs s s.heap) (hbl : b < s.heap.size) (hbA : ¬ kA G b) (hL : L ≤ 3584) (hd0 : 60 ≤ d0) {cs ss : Nat} (hcs : cs + 16 ≤ mc0 ∧ ss + 400 ≤ ms0) (i : Nat) (hi : i + 7 ≤ L) (w : Nat → va_E) (fl : va_W) (hLI : LI G w fl)
    (kk : ∀ (w' : Nat → va_E) (fl' : va_W) (cs' ss' : Nat), LI G w' fl' → cs' ≤ cs + 16 → ss' ≤ ss + 400 → KW p l e R s m args below meth c 10 G Q w' fl' cs' ss' 2319 [(5, vI (i : Int)), (4, .ref (kad G 149)), (3, .ref (kad G 148)), (2, .ref (kad G 133)), (1, .ref (kad G 0)), (0, .ref b)] []) : KW p l e R s m args below meth c 10 G Q w fl cs ss 699 [(5, vI (i : Int)), (4, .ref (kad G 149)), (3, .ref (kad G 148)), (2, .ref (kad G 133)), (1, .ref (kad G 0)), (0, .ref b)] [] := by
  obtain ⟨bt, gc, nl, gp0, nl9, gl0, gs, c0, nx, cn, cap, cd, ea, kd, nm, sa, nx9, en, sv, hs, T, u, gr, D0, sp, H, hc, hm, ho, hr, hw, hT⟩ := hLI
  have hc1 := hc
  have hm1 := hm
  have hr1 := hr
  have ho1 := ho
  obtain ⟨⟨a0, asv⟩, a1, ⟨a2, abt, ac7⟩, a3, a4, a5, a6, ⟨a7, anx, acn⟩, ⟨a8, a9, a10⟩, ⟨a11, a12, a13⟩, a14⟩ := hc1
  obtain ⟨b0, b1, b2, b3, b4, b5, b6, b7, ⟨cf, b8⟩, ⟨fq, b9⟩⟩ := hm1
  obtain ⟨⟨out, o1⟩, ⟨oD, o2⟩⟩ := ho1
  obtain ⟨r0, r1, r2, r3, r4, r5, r6⟩ := hr1
  have hI := r0.inv
  have hIr := r0.2.1
  have hE := r0.1
  have e0 := hE.n 0 (by decide)
  have e1 := hE.n 1 (by decide)
  have e2 := hE.n 2 (by decide)
  have hgc := hI.c
  by_cases hq : xI xs (i + 2) = 0
  · refine k_aload_n hC dL_law_699 rfl 4 rfl ?_
    refine k_aload_n hC dL_law_700 rfl 5 rfl ?_
    refine k_iload hC dL_law_701 0 rfl ?_
    refine k_iconst hC dL_law_703 ?_
    refine k_iadd hC dL_law_704 ?_
    refine k_scr hC hX hbl hbA hL (i + 1) (by omega) (by omega) dL_law_705 ?_
    refine k_aload_n hC dL_law_706 rfl 5 rfl ?_
    refine k_iload hC dL_law_707 0 rfl ?_
    refine k_iconst hC dL_law_709 ?_
    refine k_iadd hC dL_law_710 ?_
    refine k_scr hC hX hbl hbA hL (i + 2) (by omega) (by omega) dL_law_711 ?_
    refine k_if_eq hC 719 dL_law_712 rfl (xI_r xs _) (fun c_712 => ?_) (fun c_712 => absurd hq c_712)
    refine k_iconst hC dL_law_719 ?_
    refine k_aload_n hC dL_law_720 rfl 2 rfl ?_
    refine k_callL hC hNc (n := 4) (c_L_reckoned l hls G hN w fl gc nl sv (xI xs (i + 1)) 0 out (xI_r xs _) (by decide) hI a0 a3 a4 a5 o1) wc_L_reckoned wz_L (by decide +kernel) wt_L_reckoned wm_L_142 rfl rfl (Nat.le_of_ble_eq_true rfl) (by omega) (by omega) ⟨by omega, by omega⟩ dL_law_721 (fun v1 w1 fl1 hp => ?_)
    rcases hp with ⟨hv, hcc, w2, hP, h148, hf2⟩ | ⟨hP, ⟨hcc, hv⟩ | ⟨hcc, hv⟩⟩
    · subst hv
      obtain ⟨hfl, hP⟩ := hP
      subst hfl
      obtain ⟨hCh, hfP⟩ := hP
      have hCh1 : kCht G w1 := hCh.fr (fun j q1 q2 => hf2 j (by omega))
      have hSc1 : kScr G w1 := b5.fr (fun j q1 q2 => (hf2 j (by omega)).trans (hfP j (by omega)))
      show KW p l e R s m args below meth c 10 G Q w1 fl (cs + 8) (ss + 48) 724 [(5, vI (i : Int)), (4, .ref (kad G 149)), (3, .ref (kad G 148)), (2, .ref (kad G 133)), (1, .ref (kad G 0)), (0, .ref b)] [vI 0]
      refine k_istore hC [(6, vI 0), (5, vI (i : Int)), (4, .ref (kad G 149)), (3, .ref (kad G 148)), (2, .ref (kad G 133)), (1, .ref (kad G 0)), (0, .ref b)] dL_law_724 (by decide) rfl ?_
      refine k_aload_n hC dL_law_726 rfl 4 rfl ?_
      refine k_aload_n hC dL_law_727 rfl 6 rfl ?_
      refine k_iload hC dL_law_728 1 rfl ?_
      refine k_iconst hC dL_law_730 ?_
      refine k_iadd hC dL_law_731 ?_
      refine k_scr hC hX hbl hbA hL (i + 1) (by omega) (by omega) dL_law_732 ?_
      refine k_aload_n hC dL_law_733 rfl 6 rfl ?_
      refine k_iload hC dL_law_734 1 rfl ?_
      refine k_iconst hC dL_law_736 ?_
      refine k_iadd hC dL_law_737 ?_
      refine k_scr hC hX hbl hbA hL (i + 2) (by omega) (by omega) dL_law_738 ?_
      refine k_if_eq hC 746 dL_law_739 rfl (xI_r xs _) (fun c_739 => ?_) (fun c_739 => absurd hq c_739)
      refine k_iconst hC dL_law_746 ?_
      have h_1 : w1 133 = mdO G u := (hf2 133 (by decide)).trans ((hfP 133 (by decide)).trans b0)
      have h_2 : w1 134 = lA G 93 gr := (hf2 134 (by decide)).trans ((hfP 134 (by decide)).trans b1)
      refine k_callV hC (c_X12_reckoned l hls G hN w1 fl u gr (xI xs (i + 1)) 0 (xI_r xs _) (by decide) hIr h_1 h_2 hSc1) yy_X12_reckoned wm_L_144 (kl hN (by decide)) h_1 rfl rfl rfl rfl (Nat.le_of_ble_eq_true rfl) (by omega) (by omega) ⟨by omega, by omega⟩ dL_law_747 (fun v3 w3 fl3 hp3 => ?_)
      obtain ⟨b3, th3, hv3, hfl3, hR3, hP3⟩ := hp3
      subst hv3
      subst hfl3
      obtain ⟨⟨fe, fn, hm3⟩, hS3, hf3⟩ := hP3
      rcases hR3 with ⟨q1, q2, q3⟩ | ⟨q1, q2⟩ | ⟨q1, q2⟩
      · subst q2
        show KW p l e R s m args below meth c 10 G Q w3 fl (cs + 8) (ss + 48) 750 [(6, vI 0), (5, vI (i : Int)), (4, .ref (kad G 149)), (3, .ref (kad G 148)), (2, .ref (kad G 133)), (1, .ref (kad G 0)), (0, .ref b)] [vI b3]
        refine k_istore hC [(7, vI b3), (6, vI 0), (5, vI (i : Int)), (4, .ref (kad G 149)), (3, .ref (kad G 148)), (2, .ref (kad G 133)), (1, .ref (kad G 0)), (0, .ref b)] dL_law_750 (by decide) rfl ?_
        refine k_aload_n hC dL_law_752 rfl 5 rfl ?_
        refine k_pureV hC (c_X12_thrown l hls G hN w3 fl (kup (kup (kup u 5 0) 12 fe) 13 fn) hm3) yy_X12_thrown wm_L_113 (kl hN (by decide)) hm3 rfl rfl rfl rfl (Nat.le_of_ble_eq_true rfl) (by omega) (by omega) ⟨by omega, by omega⟩ dL_law_753 ?_
        refine k_topv (vI 0) rfl ?_
        refine k_iload hC dL_law_756 1 rfl ?_
        refine k_icmp_eq hC 763 dL_law_758 rfl (by omega) (by omega) (fun c_758 => ?_) (fun c_758 => absurd c_758 (by omega))
        refine k_iload hC dL_law_763 1 rfl ?_
        refine k_if_ne hC 780 dL_law_765 rfl (by omega) (fun c_765 => absurd c_765 (by omega)) (fun c_765 => ?_)
        refine k_aload_n hC dL_law_768 rfl 4 rfl ?_
        refine k_iconst hC dL_law_769 ?_
        have h_3 : w3 148 = lA G 1 (fun _ => i32 (if 0 = 0 then latM gc (xI xs (i + 1)) else lonT gc (xI xs (i + 1)))) := (hf3 148 (by decide)).trans h148
        refine k_lald hC (kl hN (by decide)) h_3 (by omega) (by decide) dL_law_770 ?_
        refine k_topv (vL (i32 (if 0 = 0 then latM gc (xI xs (i + 1)) else lonT gc (xI xs (i + 1))))) rfl ?_
        refine k_iload hC dL_law_771 0 rfl ?_
        refine k_topv (vI (i32 b3)) (vI_32 _) ?_
        refine k_i2l hC dL_law_773 (i32_r _) ?_
        refine k_lcmp_eq hC 780 dL_law_774 dL_law_775 rfl (i32_l _) (i32_l _) (fun c_774 => ?_) (fun c_774 => absurd (congrArg i32 (show (if 0 = 0 then latM gc (xI xs (i + 1)) else lonT gc (xI xs (i + 1))) = b3 from (by rw [hE.lat hI, hE.lon hI]; exact q3.symm))) c_774)
        refine k_goto hC 2319 dL_law_780 rfl ?_
        refine k_lvs (ls := [2, 3, 4, 5, 6, 7]) [(5, vI (i : Int)), (4, .ref (kad G 149)), (3, .ref (kad G 148)), (2, .ref (kad G 133)), (1, .ref (kad G 0)), (0, .ref b)] rfl ?_
        have h_4 : w3 149 = dA G 1 oD := (hf3 149 (by decide)).trans ((hf2 149 (by decide)).trans ((hfP 149 (by decide)).trans o2))
        exact kk w3 fl _ _ (LI.rd hc hm hr hw hT (hCh1.fr (fun j q1 q2 => hf3 j (by omega))) hS3 hm3 ⟨rfl, rfl, rfl, rfl, rfl⟩ ⟨⟨_, h_3⟩, ⟨_, h_4⟩⟩ (fun j hj => (hf3 j (by omega)).trans ((hf2 j (by omega)).trans (hfP j (by omega))))) (by omega) (by omega)
      · exact q1.elim
      · exfalso; omega
    · exact hcc.elim
    · subst hv
      obtain ⟨hfl, hP⟩ := hP
      subst hfl
      obtain ⟨hCh, hfP⟩ := hP
      have hCh1 := hCh
      have hSc1 : kScr G w1 := b5.fr (fun j q1 q2 => hfP j (by omega))
      show KW p l e R s m args below meth c 10 G Q w1 fl (cs + 8) (ss + 48) 724 [(5, vI (i : Int)), (4, .ref (kad G 149)), (3, .ref (kad G 148)), (2, .ref (kad G 133)), (1, .ref (kad G 0)), (0, .ref b)] [vI 1]
      refine k_istore hC [(6, vI 1), (5, vI (i : Int)), (4, .ref (kad G 149)), (3, .ref (kad G 148)), (2, .ref (kad G 133)), (1, .ref (kad G 0)), (0, .ref b)] dL_law_724 (by decide) rfl ?_
      refine k_aload_n hC dL_law_726 rfl 4 rfl ?_
      refine k_aload_n hC dL_law_727 rfl 6 rfl ?_
      refine k_iload hC dL_law_728 1 rfl ?_
      refine k_iconst hC dL_law_730 ?_
      refine k_iadd hC dL_law_731 ?_
      refine k_scr hC hX hbl hbA hL (i + 1) (by omega) (by omega) dL_law_732 ?_
      refine k_aload_n hC dL_law_733 rfl 6 rfl ?_
      refine k_iload hC dL_law_734 1 rfl ?_
      refine k_iconst hC dL_law_736 ?_
      refine k_iadd hC dL_law_737 ?_
      refine k_scr hC hX hbl hbA hL (i + 2) (by omega) (by omega) dL_law_738 ?_
      refine k_if_eq hC 746 dL_law_739 rfl (xI_r xs _) (fun c_739 => ?_) (fun c_739 => absurd hq c_739)
      refine k_iconst hC dL_law_746 ?_
      have h_5 : w1 133 = mdO G u := (hfP 133 (by decide)).trans b0
      have h_6 : w1 134 = lA G 93 gr := (hfP 134 (by decide)).trans b1
      refine k_callV hC (c_X12_reckoned l hls G hN w1 fl u gr (xI xs (i + 1)) 0 (xI_r xs _) (by decide) hIr h_5 h_6 hSc1) yy_X12_reckoned wm_L_144 (kl hN (by decide)) h_5 rfl rfl rfl rfl (Nat.le_of_ble_eq_true rfl) (by omega) (by omega) ⟨by omega, by omega⟩ dL_law_747 (fun v3 w3 fl3 hp3 => ?_)
      obtain ⟨b3, th3, hv3, hfl3, hR3, hP3⟩ := hp3
      subst hv3
      subst hfl3
      obtain ⟨⟨fe, fn, hm3⟩, hS3, hf3⟩ := hP3
      rcases hR3 with ⟨q1, q2, q3⟩ | ⟨q1, q2⟩ | ⟨q1, q2⟩
      · exfalso; omega
      · exact q1.elim
      · subst q2
        show KW p l e R s m args below meth c 10 G Q w3 fl (cs + 8) (ss + 48) 750 [(6, vI 1), (5, vI (i : Int)), (4, .ref (kad G 149)), (3, .ref (kad G 148)), (2, .ref (kad G 133)), (1, .ref (kad G 0)), (0, .ref b)] [vI b3]
        refine k_istore hC [(7, vI b3), (6, vI 1), (5, vI (i : Int)), (4, .ref (kad G 149)), (3, .ref (kad G 148)), (2, .ref (kad G 133)), (1, .ref (kad G 0)), (0, .ref b)] dL_law_750 (by decide) rfl ?_
        refine k_aload_n hC dL_law_752 rfl 5 rfl ?_
        refine k_pureV hC (c_X12_thrown l hls G hN w3 fl (kup (kup (kup u 5 1) 12 fe) 13 fn) hm3) yy_X12_thrown wm_L_113 (kl hN (by decide)) hm3 rfl rfl rfl rfl (Nat.le_of_ble_eq_true rfl) (by omega) (by omega) ⟨by omega, by omega⟩ dL_law_753 ?_
        refine k_topv (vI 1) rfl ?_
        refine k_iload hC dL_law_756 1 rfl ?_
        refine k_icmp_eq hC 763 dL_law_758 rfl (by omega) (by omega) (fun c_758 => ?_) (fun c_758 => absurd c_758 (by omega))
        refine k_iload hC dL_law_763 1 rfl ?_
        refine k_if_ne hC 780 dL_law_765 rfl (by omega) (fun c_765 => ?_) (fun c_765 => absurd c_765 (by omega))
        refine k_goto hC 2319 dL_law_780 rfl ?_
        refine k_lvs (ls := [2, 3, 4, 5, 6, 7]) [(5, vI (i : Int)), (4, .ref (kad G 149)), (3, .ref (kad G 148)), (2, .ref (kad G 133)), (1, .ref (kad G 0)), (0, .ref b)] rfl ?_
        have h_7 : w3 148 = lA G 1 out := (hf3 148 (by decide)).trans ((hfP 148 (by decide)).trans o1)
        have h_8 : w3 149 = dA G 1 oD := (hf3 149 (by decide)).trans ((hfP 149 (by decide)).trans o2)
        exact kk w3 fl _ _ (LI.rd hc hm hr hw hT (hCh1.fr (fun j q1 q2 => hf3 j (by omega))) hS3 hm3 ⟨rfl, rfl, rfl, rfl, rfl⟩ ⟨⟨_, h_7⟩, ⟨_, h_8⟩⟩ (fun j hj => (hf3 j (by omega)).trans (hfP j (by omega)))) (by omega) (by omega)
  · refine k_aload_n hC dL_law_699 rfl 4 rfl ?_
    refine k_aload_n hC dL_law_700 rfl 5 rfl ?_
    refine k_iload hC dL_law_701 0 rfl ?_
    refine k_iconst hC dL_law_703 ?_
    refine k_iadd hC dL_law_704 ?_
    refine k_scr hC hX hbl hbA hL (i + 1) (by omega) (by omega) dL_law_705 ?_
    refine k_aload_n hC dL_law_706 rfl 5 rfl ?_
    refine k_iload hC dL_law_707 0 rfl ?_
    refine k_iconst hC dL_law_709 ?_
    refine k_iadd hC dL_law_710 ?_
    refine k_scr hC hX hbl hbA hL (i + 2) (by omega) (by omega) dL_law_711 ?_
    refine k_if_eq hC 719 dL_law_712 rfl (xI_r xs _) (fun c_712 => absurd c_712 hq) (fun c_712 => ?_)
    refine k_iconst hC dL_law_715 ?_
    refine k_goto hC 720 dL_law_716 rfl ?_
    refine k_aload_n hC dL_law_720 rfl 2 rfl ?_
    refine k_callL hC hNc (n := 4) (c_L_reckoned l hls G hN w fl gc nl sv (xI xs (i + 1)) 1 out (xI_r xs _) (by decide) hI a0 a3 a4 a5 o1) wc_L_reckoned wz_L (by decide +kernel) wt_L_reckoned wm_L_142 rfl rfl (Nat.le_of_ble_eq_true rfl) (by omega) (by omega) ⟨by omega, by omega⟩ dL_law_721 (fun v1 w1 fl1 hp => ?_)
    rcases hp with ⟨hv, hcc, w2, hP, h148, hf2⟩ | ⟨hP, ⟨hcc, hv⟩ | ⟨hcc, hv⟩⟩
    · subst hv
      obtain ⟨hfl, hP⟩ := hP
      subst hfl
      obtain ⟨hCh, hfP⟩ := hP
      have hCh1 : kCht G w1 := hCh.fr (fun j q1 q2 => hf2 j (by omega))
      have hSc1 : kScr G w1 := b5.fr (fun j q1 q2 => (hf2 j (by omega)).trans (hfP j (by omega)))
      show KW p l e R s m args below meth c 10 G Q w1 fl (cs + 8) (ss + 48) 724 [(5, vI (i : Int)), (4, .ref (kad G 149)), (3, .ref (kad G 148)), (2, .ref (kad G 133)), (1, .ref (kad G 0)), (0, .ref b)] [vI 0]
      refine k_istore hC [(6, vI 0), (5, vI (i : Int)), (4, .ref (kad G 149)), (3, .ref (kad G 148)), (2, .ref (kad G 133)), (1, .ref (kad G 0)), (0, .ref b)] dL_law_724 (by decide) rfl ?_
      refine k_aload_n hC dL_law_726 rfl 4 rfl ?_
      refine k_aload_n hC dL_law_727 rfl 6 rfl ?_
      refine k_iload hC dL_law_728 1 rfl ?_
      refine k_iconst hC dL_law_730 ?_
      refine k_iadd hC dL_law_731 ?_
      refine k_scr hC hX hbl hbA hL (i + 1) (by omega) (by omega) dL_law_732 ?_
      refine k_aload_n hC dL_law_733 rfl 6 rfl ?_
      refine k_iload hC dL_law_734 1 rfl ?_
      refine k_iconst hC dL_law_736 ?_
      refine k_iadd hC dL_law_737 ?_
      refine k_scr hC hX hbl hbA hL (i + 2) (by omega) (by omega) dL_law_738 ?_
      refine k_if_eq hC 746 dL_law_739 rfl (xI_r xs _) (fun c_739 => absurd c_739 hq) (fun c_739 => ?_)
      refine k_iconst hC dL_law_742 ?_
      refine k_goto hC 747 dL_law_743 rfl ?_
      have h_9 : w1 133 = mdO G u := (hf2 133 (by decide)).trans ((hfP 133 (by decide)).trans b0)
      have h_10 : w1 134 = lA G 93 gr := (hf2 134 (by decide)).trans ((hfP 134 (by decide)).trans b1)
      refine k_callV hC (c_X12_reckoned l hls G hN w1 fl u gr (xI xs (i + 1)) 1 (xI_r xs _) (by decide) hIr h_9 h_10 hSc1) yy_X12_reckoned wm_L_144 (kl hN (by decide)) h_9 rfl rfl rfl rfl (Nat.le_of_ble_eq_true rfl) (by omega) (by omega) ⟨by omega, by omega⟩ dL_law_747 (fun v3 w3 fl3 hp3 => ?_)
      obtain ⟨b3, th3, hv3, hfl3, hR3, hP3⟩ := hp3
      subst hv3
      subst hfl3
      obtain ⟨⟨fe, fn, hm3⟩, hS3, hf3⟩ := hP3
      rcases hR3 with ⟨q1, q2, q3⟩ | ⟨q1, q2⟩ | ⟨q1, q2⟩
      · subst q2
        show KW p l e R s m args below meth c 10 G Q w3 fl (cs + 8) (ss + 48) 750 [(6, vI 0), (5, vI (i : Int)), (4, .ref (kad G 149)), (3, .ref (kad G 148)), (2, .ref (kad G 133)), (1, .ref (kad G 0)), (0, .ref b)] [vI b3]
        refine k_istore hC [(7, vI b3), (6, vI 0), (5, vI (i : Int)), (4, .ref (kad G 149)), (3, .ref (kad G 148)), (2, .ref (kad G 133)), (1, .ref (kad G 0)), (0, .ref b)] dL_law_750 (by decide) rfl ?_
        refine k_aload_n hC dL_law_752 rfl 5 rfl ?_
        refine k_pureV hC (c_X12_thrown l hls G hN w3 fl (kup (kup (kup u 5 0) 12 fe) 13 fn) hm3) yy_X12_thrown wm_L_113 (kl hN (by decide)) hm3 rfl rfl rfl rfl (Nat.le_of_ble_eq_true rfl) (by omega) (by omega) ⟨by omega, by omega⟩ dL_law_753 ?_
        refine k_topv (vI 0) rfl ?_
        refine k_iload hC dL_law_756 1 rfl ?_
        refine k_icmp_eq hC 763 dL_law_758 rfl (by omega) (by omega) (fun c_758 => ?_) (fun c_758 => absurd c_758 (by omega))
        refine k_iload hC dL_law_763 1 rfl ?_
        refine k_if_ne hC 780 dL_law_765 rfl (by omega) (fun c_765 => absurd c_765 (by omega)) (fun c_765 => ?_)
        refine k_aload_n hC dL_law_768 rfl 4 rfl ?_
        refine k_iconst hC dL_law_769 ?_
        have h_11 : w3 148 = lA G 1 (fun _ => i32 (if 1 = 0 then latM gc (xI xs (i + 1)) else lonT gc (xI xs (i + 1)))) := (hf3 148 (by decide)).trans h148
        refine k_lald hC (kl hN (by decide)) h_11 (by omega) (by decide) dL_law_770 ?_
        refine k_topv (vL (i32 (if 1 = 0 then latM gc (xI xs (i + 1)) else lonT gc (xI xs (i + 1))))) rfl ?_
        refine k_iload hC dL_law_771 0 rfl ?_
        refine k_topv (vI (i32 b3)) (vI_32 _) ?_
        refine k_i2l hC dL_law_773 (i32_r _) ?_
        refine k_lcmp_eq hC 780 dL_law_774 dL_law_775 rfl (i32_l _) (i32_l _) (fun c_774 => ?_) (fun c_774 => absurd (congrArg i32 (show (if 1 = 0 then latM gc (xI xs (i + 1)) else lonT gc (xI xs (i + 1))) = b3 from (by rw [hE.lat hI, hE.lon hI]; exact q3.symm))) c_774)
        refine k_goto hC 2319 dL_law_780 rfl ?_
        refine k_lvs (ls := [2, 3, 4, 5, 6, 7]) [(5, vI (i : Int)), (4, .ref (kad G 149)), (3, .ref (kad G 148)), (2, .ref (kad G 133)), (1, .ref (kad G 0)), (0, .ref b)] rfl ?_
        have h_12 : w3 149 = dA G 1 oD := (hf3 149 (by decide)).trans ((hf2 149 (by decide)).trans ((hfP 149 (by decide)).trans o2))
        exact kk w3 fl _ _ (LI.rd hc hm hr hw hT (hCh1.fr (fun j q1 q2 => hf3 j (by omega))) hS3 hm3 ⟨rfl, rfl, rfl, rfl, rfl⟩ ⟨⟨_, h_11⟩, ⟨_, h_12⟩⟩ (fun j hj => (hf3 j (by omega)).trans ((hf2 j (by omega)).trans (hfP j (by omega))))) (by omega) (by omega)
      · exact q1.elim
      · exfalso; omega
    · exact hcc.elim
    · subst hv
      obtain ⟨hfl, hP⟩ := hP
      subst hfl
      obtain ⟨hCh, hfP⟩ := hP
      have hCh1 := hCh
      have hSc1 : kScr G w1 := b5.fr (fun j q1 q2 => hfP j (by omega))
      show KW p l e R s m args below meth c 10 G Q w1 fl (cs + 8) (ss + 48) 724 [(5, vI (i : Int)), (4, .ref (kad G 149)), (3, .ref (kad G 148)), (2, .ref (kad G 133)), (1, .ref (kad G 0)), (0, .ref b)] [vI 1]
      refine k_istore hC [(6, vI 1), (5, vI (i : Int)), (4, .ref (kad G 149)), (3, .ref (kad G 148)), (2, .ref (kad G 133)), (1, .ref (kad G 0)), (0, .ref b)] dL_law_724 (by decide) rfl ?_
      refine k_aload_n hC dL_law_726 rfl 4 rfl ?_
      refine k_aload_n hC dL_law_727 rfl 6 rfl ?_
      refine k_iload hC dL_law_728 1 rfl ?_
      refine k_iconst hC dL_law_730 ?_
      refine k_iadd hC dL_law_731 ?_
      refine k_scr hC hX hbl hbA hL (i + 1) (by omega) (by omega) dL_law_732 ?_
      refine k_aload_n hC dL_law_733 rfl 6 rfl ?_
      refine k_iload hC dL_law_734 1 rfl ?_
      refine k_iconst hC dL_law_736 ?_
      refine k_iadd hC dL_law_737 ?_
      refine k_scr hC hX hbl hbA hL (i + 2) (by omega) (by omega) dL_law_738 ?_
      refine k_if_eq hC 746 dL_law_739 rfl (xI_r xs _) (fun c_739 => absurd c_739 hq) (fun c_739 => ?_)
      refine k_iconst hC dL_law_742 ?_
      refine k_goto hC 747 dL_law_743 rfl ?_
      have h_13 : w1 133 = mdO G u := (hfP 133 (by decide)).trans b0
      have h_14 : w1 134 = lA G 93 gr := (hfP 134 (by decide)).trans b1
      refine k_callV hC (c_X12_reckoned l hls G hN w1 fl u gr (xI xs (i + 1)) 1 (xI_r xs _) (by decide) hIr h_13 h_14 hSc1) yy_X12_reckoned wm_L_144 (kl hN (by decide)) h_13 rfl rfl rfl rfl (Nat.le_of_ble_eq_true rfl) (by omega) (by omega) ⟨by omega, by omega⟩ dL_law_747 (fun v3 w3 fl3 hp3 => ?_)
      obtain ⟨b3, th3, hv3, hfl3, hR3, hP3⟩ := hp3
      subst hv3
      subst hfl3
      obtain ⟨⟨fe, fn, hm3⟩, hS3, hf3⟩ := hP3
      rcases hR3 with ⟨q1, q2, q3⟩ | ⟨q1, q2⟩ | ⟨q1, q2⟩
      · exfalso; omega
      · exact q1.elim
      · subst q2
        show KW p l e R s m args below meth c 10 G Q w3 fl (cs + 8) (ss + 48) 750 [(6, vI 1), (5, vI (i : Int)), (4, .ref (kad G 149)), (3, .ref (kad G 148)), (2, .ref (kad G 133)), (1, .ref (kad G 0)), (0, .ref b)] [vI b3]
        refine k_istore hC [(7, vI b3), (6, vI 1), (5, vI (i : Int)), (4, .ref (kad G 149)), (3, .ref (kad G 148)), (2, .ref (kad G 133)), (1, .ref (kad G 0)), (0, .ref b)] dL_law_750 (by decide) rfl ?_
        refine k_aload_n hC dL_law_752 rfl 5 rfl ?_
        refine k_pureV hC (c_X12_thrown l hls G hN w3 fl (kup (kup (kup u 5 1) 12 fe) 13 fn) hm3) yy_X12_thrown wm_L_113 (kl hN (by decide)) hm3 rfl rfl rfl rfl (Nat.le_of_ble_eq_true rfl) (by omega) (by omega) ⟨by omega, by omega⟩ dL_law_753 ?_
        refine k_topv (vI 1) rfl ?_
        refine k_iload hC dL_law_756 1 rfl ?_
        refine k_icmp_eq hC 763 dL_law_758 rfl (by omega) (by omega) (fun c_758 => ?_) (fun c_758 => absurd c_758 (by omega))
        refine k_iload hC dL_law_763 1 rfl ?_
        refine k_if_ne hC 780 dL_law_765 rfl (by omega) (fun c_765 => ?_) (fun c_765 => absurd c_765 (by omega))
        refine k_goto hC 2319 dL_law_780 rfl ?_
        refine k_lvs (ls := [2, 3, 4, 5, 6, 7]) [(5, vI (i : Int)), (4, .ref (kad G 149)), (3, .ref (kad G 148)), (2, .ref (kad G 133)), (1, .ref (kad G 0)), (0, .ref b)] rfl ?_
        have h_15 : w3 148 = lA G 1 out := (hf3 148 (by decide)).trans ((hfP 148 (by decide)).trans o1)
        have h_16 : w3 149 = dA G 1 oD := (hf3 149 (by decide)).trans ((hfP 149 (by decide)).trans o2)
        exact kk w3 fl _ _ (LI.rd hc hm hr hw hT (hCh1.fr (fun j q1 q2 => hf3 j (by omega))) hS3 hm3 ⟨rfl, rfl, rfl, rfl, rfl⟩ ⟨⟨_, h_15⟩, ⟨_, h_16⟩⟩ (fun j hj => (hf3 j (by omega)).trans (hfP j (by omega)))) (by omega) (by omega)

set_option maxRecDepth 100000 in
set_option maxHeartbeats 4000000 in
theorem lw_sight {p : Program} {l : Launch} {e : Env} {R : Room} {s : State} {m : MethodId} {args : Array Value} {below : List Frame} {meth : Method} {c : Code} {G : kG} {d0 mc0 ms0 : Nat} {Q : State → Prop} {b L : Nat} {xs : Nat → Int32} (hC : kC p l R s m args meth c cL_law RL 10 G d0 mc0 ms0) (hls : l.stackTraces = false) (hN : kN G = 150) (hNc : va_Nc "java/lang/IllegalArgumentException" "java/util/NoSuchElementException" s) (hX : va_X b L xs s s.heap) (hbl : b < s.heap.size) (hbA : ¬ kA G b) (hL : L ≤ 3584) (hd0 : 60 ≤ d0) {cs ss : Nat} (hcs : cs + 16 ≤ mc0 ∧ ss + 400 ≤ ms0) (i : Nat) (hi : i + 7 ≤ L) (w : Nat → va_E) (fl : va_W) (hLI : LI G w fl)
    (kk : ∀ (w' : Nat → va_E) (fl' : va_W) (cs' ss' : Nat), LI G w' fl' → cs' ≤ cs + 16 → ss' ≤ ss + 400 → KW p l e R s m args below meth c 10 G Q w' fl' cs' ss' 2319 [(5, vI (i : Int)), (4, .ref (kad G 149)), (3, .ref (kad G 148)), (2, .ref (kad G 133)), (1, .ref (kad G 0)), (0, .ref b)] []) : KW p l e R s m args below meth c 10 G Q w fl cs ss 783 [(5, vI (i : Int)), (4, .ref (kad G 149)), (3, .ref (kad G 148)), (2, .ref (kad G 133)), (1, .ref (kad G 0)), (0, .ref b)] [] := by
  obtain ⟨bt, gc, nl, gp0, nl9, gl0, gs, c0, nx, cn, cap, cd, ea, kd, nm, sa, nx9, en, sv, hs, T, u, gr, D0, sp, H, hc, hm, ho, hr, hw, hT⟩ := hLI
  have hc1 := hc
  have hm1 := hm
  have hr1 := hr
  have ho1 := ho
  obtain ⟨⟨a0, asv⟩, a1, ⟨a2, abt, ac7⟩, a3, a4, a5, a6, ⟨a7, anx, acn⟩, ⟨a8, a9, a10⟩, ⟨a11, a12, a13⟩, a14⟩ := hc1
  obtain ⟨b0, b1, b2, b3, b4, b5, b6, b7, ⟨cf, b8⟩, ⟨fq, b9⟩⟩ := hm1
  obtain ⟨⟨out, o1⟩, ⟨oD, o2⟩⟩ := ho1
  obtain ⟨r0, r1, r2, r3, r4, r5, r6⟩ := hr1
  have hI := r0.inv
  have hIr := r0.2.1
  have hE := r0.1
  have e0 := hE.n 0 (by decide)
  have e1 := hE.n 1 (by decide)
  have e2 := hE.n 2 (by decide)
  have hgc := hI.c
  refine k_aload_n hC dL_law_783 rfl 4 rfl ?_
  refine k_aload_n hC dL_law_784 rfl 5 rfl ?_
  refine k_iload hC dL_law_785 0 rfl ?_
  refine k_iconst hC dL_law_787 ?_
  refine k_iadd hC dL_law_788 ?_
  refine k_scr hC hX hbl hbA hL (i + 1) (by omega) (by omega) dL_law_789 ?_
  refine k_aload_n hC dL_law_790 rfl 5 rfl ?_
  refine k_iload hC dL_law_791 0 rfl ?_
  refine k_iconst hC dL_law_793 ?_
  refine k_iadd hC dL_law_794 ?_
  refine k_scr hC hX hbl hbA hL (i + 2) (by omega) (by omega) dL_law_795 ?_
  refine k_aload_n hC dL_law_796 rfl 2 rfl ?_
  refine k_callL hC hNc (n := 4) (c_L_sight l hls G hN w fl gc nl sv (xI xs (i + 1)) (xI xs (i + 2)) out (xI_r xs _) (xI_r xs _) hI a0 a3 a4 a5 o1) wc_L_sight wz_L (by decide +kernel) wt_L_sight wm_L_145 rfl rfl (Nat.le_of_ble_eq_true rfl) (by omega) (by omega) ⟨by omega, by omega⟩ dL_law_797 (fun v1 w1 fl1 hp => ?_)
  rcases hp with ⟨hv, hcc, w2, hP, h148, hf2⟩ | ⟨hP, ⟨hcc, hv⟩ | ⟨hcc, hv⟩⟩
  · subst hv
    obtain ⟨hfl, hP⟩ := hP
    subst hfl
    obtain ⟨hCh, hfP⟩ := hP
    have hCh1 : kCht G w1 := hCh.fr (fun j q1 q2 => hf2 j (by omega))
    have hSc1 : kScr G w1 := b5.fr (fun j q1 q2 => (hf2 j (by omega)).trans (hfP j (by omega)))
    show KW p l e R s m args below meth c 10 G Q w1 fl (cs + 8) (ss + 48) 800 [(5, vI (i : Int)), (4, .ref (kad G 149)), (3, .ref (kad G 148)), (2, .ref (kad G 133)), (1, .ref (kad G 0)), (0, .ref b)] [vI 0]
    refine k_istore hC [(6, vI 0), (5, vI (i : Int)), (4, .ref (kad G 149)), (3, .ref (kad G 148)), (2, .ref (kad G 133)), (1, .ref (kad G 0)), (0, .ref b)] dL_law_800 (by decide) rfl ?_
    refine k_aload_n hC dL_law_802 rfl 4 rfl ?_
    refine k_aload_n hC dL_law_803 rfl 6 rfl ?_
    refine k_iload hC dL_law_804 1 rfl ?_
    refine k_iconst hC dL_law_806 ?_
    refine k_iadd hC dL_law_807 ?_
    refine k_scr hC hX hbl hbA hL (i + 1) (by omega) (by omega) dL_law_808 ?_
    refine k_aload_n hC dL_law_809 rfl 6 rfl ?_
    refine k_iload hC dL_law_810 1 rfl ?_
    refine k_iconst hC dL_law_812 ?_
    refine k_iadd hC dL_law_813 ?_
    refine k_scr hC hX hbl hbA hL (i + 2) (by omega) (by omega) dL_law_814 ?_
    have h_1 : w1 133 = mdO G u := (hf2 133 (by decide)).trans ((hfP 133 (by decide)).trans b0)
    have h_2 : w1 134 = lA G 93 gr := (hf2 134 (by decide)).trans ((hfP 134 (by decide)).trans b1)
    refine k_callV hC (c_X12_sight l hls G hN w1 fl u gr (xI xs (i + 1)) (xI xs (i + 2)) (xI_r xs _) (xI_r xs _) hIr h_1 h_2 hSc1) yy_X12_sight wm_L_147 (kl hN (by decide)) h_1 rfl rfl rfl rfl (Nat.le_of_ble_eq_true rfl) (by omega) (by omega) ⟨by omega, by omega⟩ dL_law_815 (fun v3 w3 fl3 hp3 => ?_)
    obtain ⟨b3, th3, hv3, hfl3, hR3, hP3⟩ := hp3
    subst hv3
    subst hfl3
    obtain ⟨⟨fe, fn, hm3⟩, hS3, hf3⟩ := hP3
    rcases hR3 with ⟨q1, q2, q3⟩ | ⟨q1, q2⟩ | ⟨q1, q2⟩
    · subst q2
      show KW p l e R s m args below meth c 10 G Q w3 fl (cs + 8) (ss + 48) 818 [(6, vI 0), (5, vI (i : Int)), (4, .ref (kad G 149)), (3, .ref (kad G 148)), (2, .ref (kad G 133)), (1, .ref (kad G 0)), (0, .ref b)] [vI b3]
      refine k_istore hC [(7, vI b3), (6, vI 0), (5, vI (i : Int)), (4, .ref (kad G 149)), (3, .ref (kad G 148)), (2, .ref (kad G 133)), (1, .ref (kad G 0)), (0, .ref b)] dL_law_818 (by decide) rfl ?_
      refine k_aload_n hC dL_law_820 rfl 5 rfl ?_
      refine k_pureV hC (c_X12_thrown l hls G hN w3 fl (kup (kup (kup u 5 0) 12 fe) 13 fn) hm3) yy_X12_thrown wm_L_113 (kl hN (by decide)) hm3 rfl rfl rfl rfl (Nat.le_of_ble_eq_true rfl) (by omega) (by omega) ⟨by omega, by omega⟩ dL_law_821 ?_
      refine k_topv (vI 0) rfl ?_
      refine k_iload hC dL_law_824 1 rfl ?_
      refine k_icmp_eq hC 831 dL_law_826 rfl (by omega) (by omega) (fun c_826 => ?_) (fun c_826 => absurd c_826 (by omega))
      refine k_iload hC dL_law_831 1 rfl ?_
      refine k_if_ne hC 848 dL_law_833 rfl (by omega) (fun c_833 => absurd c_833 (by omega)) (fun c_833 => ?_)
      refine k_aload_n hC dL_law_836 rfl 4 rfl ?_
      refine k_iconst hC dL_law_837 ?_
      have h_3 : w3 148 = lA G 1 (fun _ => i32 (sightV gc (xI xs (i + 1)).toNat (xI xs (i + 2)))) := (hf3 148 (by decide)).trans h148
      refine k_lald hC (kl hN (by decide)) h_3 (by omega) (by decide) dL_law_838 ?_
      refine k_topv (vL (i32 (sightV gc (xI xs (i + 1)).toNat (xI xs (i + 2))))) rfl ?_
      refine k_iload hC dL_law_839 0 rfl ?_
      refine k_topv (vI (i32 b3)) (vI_32 _) ?_
      refine k_i2l hC dL_law_841 (i32_r _) ?_
      refine k_lcmp_eq hC 848 dL_law_842 dL_law_843 rfl (i32_l _) (i32_l _) (fun c_842 => ?_) (fun c_842 => absurd (congrArg i32 (show (sightV gc (xI xs (i + 1)).toNat (xI xs (i + 2))) = b3 from (gE_sightV hE hI (by omega) _).trans q3.symm)) c_842)
      refine k_goto hC 2319 dL_law_848 rfl ?_
      refine k_lvs (ls := [2, 3, 4, 5, 6, 7]) [(5, vI (i : Int)), (4, .ref (kad G 149)), (3, .ref (kad G 148)), (2, .ref (kad G 133)), (1, .ref (kad G 0)), (0, .ref b)] rfl ?_
      have h_4 : w3 149 = dA G 1 oD := (hf3 149 (by decide)).trans ((hf2 149 (by decide)).trans ((hfP 149 (by decide)).trans o2))
      exact kk w3 fl _ _ (LI.rd hc hm hr hw hT (hCh1.fr (fun j q1 q2 => hf3 j (by omega))) hS3 hm3 ⟨rfl, rfl, rfl, rfl, rfl⟩ ⟨⟨_, h_3⟩, ⟨_, h_4⟩⟩ (fun j hj => (hf3 j (by omega)).trans ((hf2 j (by omega)).trans (hfP j (by omega))))) (by omega) (by omega)
    · exfalso; omega
    · exact q1.elim
  · subst hv
    obtain ⟨hfl, hP⟩ := hP
    subst hfl
    obtain ⟨hCh, hfP⟩ := hP
    have hCh1 := hCh
    have hSc1 : kScr G w1 := b5.fr (fun j q1 q2 => hfP j (by omega))
    show KW p l e R s m args below meth c 10 G Q w1 fl (cs + 8) (ss + 48) 800 [(5, vI (i : Int)), (4, .ref (kad G 149)), (3, .ref (kad G 148)), (2, .ref (kad G 133)), (1, .ref (kad G 0)), (0, .ref b)] [vI 1]
    refine k_istore hC [(6, vI 1), (5, vI (i : Int)), (4, .ref (kad G 149)), (3, .ref (kad G 148)), (2, .ref (kad G 133)), (1, .ref (kad G 0)), (0, .ref b)] dL_law_800 (by decide) rfl ?_
    refine k_aload_n hC dL_law_802 rfl 4 rfl ?_
    refine k_aload_n hC dL_law_803 rfl 6 rfl ?_
    refine k_iload hC dL_law_804 1 rfl ?_
    refine k_iconst hC dL_law_806 ?_
    refine k_iadd hC dL_law_807 ?_
    refine k_scr hC hX hbl hbA hL (i + 1) (by omega) (by omega) dL_law_808 ?_
    refine k_aload_n hC dL_law_809 rfl 6 rfl ?_
    refine k_iload hC dL_law_810 1 rfl ?_
    refine k_iconst hC dL_law_812 ?_
    refine k_iadd hC dL_law_813 ?_
    refine k_scr hC hX hbl hbA hL (i + 2) (by omega) (by omega) dL_law_814 ?_
    have h_5 : w1 133 = mdO G u := (hfP 133 (by decide)).trans b0
    have h_6 : w1 134 = lA G 93 gr := (hfP 134 (by decide)).trans b1
    refine k_callV hC (c_X12_sight l hls G hN w1 fl u gr (xI xs (i + 1)) (xI xs (i + 2)) (xI_r xs _) (xI_r xs _) hIr h_5 h_6 hSc1) yy_X12_sight wm_L_147 (kl hN (by decide)) h_5 rfl rfl rfl rfl (Nat.le_of_ble_eq_true rfl) (by omega) (by omega) ⟨by omega, by omega⟩ dL_law_815 (fun v3 w3 fl3 hp3 => ?_)
    obtain ⟨b3, th3, hv3, hfl3, hR3, hP3⟩ := hp3
    subst hv3
    subst hfl3
    obtain ⟨⟨fe, fn, hm3⟩, hS3, hf3⟩ := hP3
    rcases hR3 with ⟨q1, q2, q3⟩ | ⟨q1, q2⟩ | ⟨q1, q2⟩
    · exfalso; omega
    · subst q2
      show KW p l e R s m args below meth c 10 G Q w3 fl (cs + 8) (ss + 48) 818 [(6, vI 1), (5, vI (i : Int)), (4, .ref (kad G 149)), (3, .ref (kad G 148)), (2, .ref (kad G 133)), (1, .ref (kad G 0)), (0, .ref b)] [vI b3]
      refine k_istore hC [(7, vI b3), (6, vI 1), (5, vI (i : Int)), (4, .ref (kad G 149)), (3, .ref (kad G 148)), (2, .ref (kad G 133)), (1, .ref (kad G 0)), (0, .ref b)] dL_law_818 (by decide) rfl ?_
      refine k_aload_n hC dL_law_820 rfl 5 rfl ?_
      refine k_pureV hC (c_X12_thrown l hls G hN w3 fl (kup (kup (kup u 5 1) 12 fe) 13 fn) hm3) yy_X12_thrown wm_L_113 (kl hN (by decide)) hm3 rfl rfl rfl rfl (Nat.le_of_ble_eq_true rfl) (by omega) (by omega) ⟨by omega, by omega⟩ dL_law_821 ?_
      refine k_topv (vI 1) rfl ?_
      refine k_iload hC dL_law_824 1 rfl ?_
      refine k_icmp_eq hC 831 dL_law_826 rfl (by omega) (by omega) (fun c_826 => ?_) (fun c_826 => absurd c_826 (by omega))
      refine k_iload hC dL_law_831 1 rfl ?_
      refine k_if_ne hC 848 dL_law_833 rfl (by omega) (fun c_833 => ?_) (fun c_833 => absurd c_833 (by omega))
      refine k_goto hC 2319 dL_law_848 rfl ?_
      refine k_lvs (ls := [2, 3, 4, 5, 6, 7]) [(5, vI (i : Int)), (4, .ref (kad G 149)), (3, .ref (kad G 148)), (2, .ref (kad G 133)), (1, .ref (kad G 0)), (0, .ref b)] rfl ?_
      have h_7 : w3 148 = lA G 1 out := (hf3 148 (by decide)).trans ((hfP 148 (by decide)).trans o1)
      have h_8 : w3 149 = dA G 1 oD := (hf3 149 (by decide)).trans ((hfP 149 (by decide)).trans o2)
      exact kk w3 fl _ _ (LI.rd hc hm hr hw hT (hCh1.fr (fun j q1 q2 => hf3 j (by omega))) hS3 hm3 ⟨rfl, rfl, rfl, rfl, rfl⟩ ⟨⟨_, h_7⟩, ⟨_, h_8⟩⟩ (fun j hj => (hf3 j (by omega)).trans (hfP j (by omega)))) (by omega) (by omega)
    · exact q1.elim
  · exact hcc.elim

set_option maxRecDepth 100000 in
set_option maxHeartbeats 4000000 in
theorem lw_carried {p : Program} {l : Launch} {e : Env} {R : Room} {s : State} {m : MethodId} {args : Array Value} {below : List Frame} {meth : Method} {c : Code} {G : kG} {d0 mc0 ms0 : Nat} {Q : State → Prop} {b L : Nat} {xs : Nat → Int32} (hC : kC p l R s m args meth c cL_law RL 10 G d0 mc0 ms0) (hls : l.stackTraces = false) (hN : kN G = 150) (hNc : va_Nc "java/lang/IllegalArgumentException" "java/util/NoSuchElementException" s) (hX : va_X b L xs s s.heap) (hbl : b < s.heap.size) (hbA : ¬ kA G b) (hL : L ≤ 3584) (hd0 : 60 ≤ d0) {cs ss : Nat} (hcs : cs + 16 ≤ mc0 ∧ ss + 400 ≤ ms0) (i : Nat) (hi : i + 7 ≤ L) (w : Nat → va_E) (fl : va_W) (hLI : LI G w fl)
    (kk : ∀ (w' : Nat → va_E) (fl' : va_W) (cs' ss' : Nat), LI G w' fl' → cs' ≤ cs + 16 → ss' ≤ ss + 400 → KW p l e R s m args below meth c 10 G Q w' fl' cs' ss' 2319 [(5, vI (i : Int)), (4, .ref (kad G 149)), (3, .ref (kad G 148)), (2, .ref (kad G 133)), (1, .ref (kad G 0)), (0, .ref b)] []) : KW p l e R s m args below meth c 10 G Q w fl cs ss 851 [(5, vI (i : Int)), (4, .ref (kad G 149)), (3, .ref (kad G 148)), (2, .ref (kad G 133)), (1, .ref (kad G 0)), (0, .ref b)] [] := by
  obtain ⟨bt, gc, nl, gp0, nl9, gl0, gs, c0, nx, cn, cap, cd, ea, kd, nm, sa, nx9, en, sv, hs, T, u, gr, D0, sp, H, hc, hm, ho, hr, hw, hT⟩ := hLI
  have hc1 := hc
  have hm1 := hm
  have hr1 := hr
  have ho1 := ho
  obtain ⟨⟨a0, asv⟩, a1, ⟨a2, abt, ac7⟩, a3, a4, a5, a6, ⟨a7, anx, acn⟩, ⟨a8, a9, a10⟩, ⟨a11, a12, a13⟩, a14⟩ := hc1
  obtain ⟨b0, b1, b2, b3, b4, b5, b6, b7, ⟨cf, b8⟩, ⟨fq, b9⟩⟩ := hm1
  obtain ⟨⟨out, o1⟩, ⟨oD, o2⟩⟩ := ho1
  obtain ⟨r0, r1, r2, r3, r4, r5, r6⟩ := hr1
  have hI := r0.inv
  have hIr := r0.2.1
  have hE := r0.1
  have e0 := hE.n 0 (by decide)
  have e1 := hE.n 1 (by decide)
  have e2 := hE.n 2 (by decide)
  have hgc := hI.c
  refine k_aload_n hC dL_law_851 rfl 4 rfl ?_
  refine k_aload_n hC dL_law_852 rfl 5 rfl ?_
  refine k_iload hC dL_law_853 0 rfl ?_
  refine k_iconst hC dL_law_855 ?_
  refine k_iadd hC dL_law_856 ?_
  refine k_scr hC hX hbl hbA hL (i + 1) (by omega) (by omega) dL_law_857 ?_
  refine k_aload_n hC dL_law_858 rfl 5 rfl ?_
  refine k_iload hC dL_law_859 0 rfl ?_
  refine k_iconst hC dL_law_861 ?_
  refine k_iadd hC dL_law_862 ?_
  refine k_scr hC hX hbl hbA hL (i + 2) (by omega) (by omega) dL_law_863 ?_
  refine k_aload_n hC dL_law_864 rfl 2 rfl ?_
  refine k_callL hC hNc (n := 4) (c_L_carried l hls G hN w fl gc nl sv (xI xs (i + 1)) (xI xs (i + 2)) out (xI_r xs _) (xI_r xs _) hI a0 a3 a4 a5 o1) wc_L_carried wz_L (by decide +kernel) wt_L_carried wm_L_148 rfl rfl (Nat.le_of_ble_eq_true rfl) (by omega) (by omega) ⟨by omega, by omega⟩ dL_law_865 (fun v1 w1 fl1 hp => ?_)
  rcases hp with ⟨hv, hcc, w2, hP, h148, hf2⟩ | ⟨hP, ⟨hcc, hv⟩ | ⟨hcc, hv⟩⟩
  · subst hv
    obtain ⟨hfl, hP⟩ := hP
    subst hfl
    obtain ⟨hCh, hfP⟩ := hP
    have hCh1 : kCht G w1 := hCh.fr (fun j q1 q2 => hf2 j (by omega))
    have hSc1 : kScr G w1 := b5.fr (fun j q1 q2 => (hf2 j (by omega)).trans (hfP j (by omega)))
    show KW p l e R s m args below meth c 10 G Q w1 fl (cs + 8) (ss + 48) 868 [(5, vI (i : Int)), (4, .ref (kad G 149)), (3, .ref (kad G 148)), (2, .ref (kad G 133)), (1, .ref (kad G 0)), (0, .ref b)] [vI 0]
    refine k_istore hC [(6, vI 0), (5, vI (i : Int)), (4, .ref (kad G 149)), (3, .ref (kad G 148)), (2, .ref (kad G 133)), (1, .ref (kad G 0)), (0, .ref b)] dL_law_868 (by decide) rfl ?_
    refine k_aload_n hC dL_law_870 rfl 4 rfl ?_
    refine k_aload_n hC dL_law_871 rfl 6 rfl ?_
    refine k_iload hC dL_law_872 1 rfl ?_
    refine k_iconst hC dL_law_874 ?_
    refine k_iadd hC dL_law_875 ?_
    refine k_scr hC hX hbl hbA hL (i + 1) (by omega) (by omega) dL_law_876 ?_
    refine k_aload_n hC dL_law_877 rfl 6 rfl ?_
    refine k_iload hC dL_law_878 1 rfl ?_
    refine k_iconst hC dL_law_880 ?_
    refine k_iadd hC dL_law_881 ?_
    refine k_scr hC hX hbl hbA hL (i + 2) (by omega) (by omega) dL_law_882 ?_
    have h_1 : w1 133 = mdO G u := (hf2 133 (by decide)).trans ((hfP 133 (by decide)).trans b0)
    have h_2 : w1 134 = lA G 93 gr := (hf2 134 (by decide)).trans ((hfP 134 (by decide)).trans b1)
    refine k_callV hC (c_X12_carried l hls G hN w1 fl u gr (xI xs (i + 1)) (xI xs (i + 2)) (xI_r xs _) (xI_r xs _) hIr h_1 h_2 hSc1) yy_X12_carried wm_L_150 (kl hN (by decide)) h_1 rfl rfl rfl rfl (Nat.le_of_ble_eq_true rfl) (by omega) (by omega) ⟨by omega, by omega⟩ dL_law_883 (fun v3 w3 fl3 hp3 => ?_)
    obtain ⟨b3, th3, hv3, hfl3, hR3, hP3⟩ := hp3
    subst hv3
    subst hfl3
    obtain ⟨⟨fe, fn, hm3⟩, hS3, hf3⟩ := hP3
    rcases hR3 with ⟨q1, q2, q3⟩ | ⟨q1, q2⟩ | ⟨q1, q2⟩
    · subst q2
      show KW p l e R s m args below meth c 10 G Q w3 fl (cs + 8) (ss + 48) 886 [(6, vI 0), (5, vI (i : Int)), (4, .ref (kad G 149)), (3, .ref (kad G 148)), (2, .ref (kad G 133)), (1, .ref (kad G 0)), (0, .ref b)] [vI b3]
      refine k_istore hC [(7, vI b3), (6, vI 0), (5, vI (i : Int)), (4, .ref (kad G 149)), (3, .ref (kad G 148)), (2, .ref (kad G 133)), (1, .ref (kad G 0)), (0, .ref b)] dL_law_886 (by decide) rfl ?_
      refine k_aload_n hC dL_law_888 rfl 5 rfl ?_
      refine k_pureV hC (c_X12_thrown l hls G hN w3 fl (kup (kup (kup u 5 0) 12 fe) 13 fn) hm3) yy_X12_thrown wm_L_113 (kl hN (by decide)) hm3 rfl rfl rfl rfl (Nat.le_of_ble_eq_true rfl) (by omega) (by omega) ⟨by omega, by omega⟩ dL_law_889 ?_
      refine k_topv (vI 0) rfl ?_
      refine k_iload hC dL_law_892 1 rfl ?_
      refine k_icmp_eq hC 899 dL_law_894 rfl (by omega) (by omega) (fun c_894 => ?_) (fun c_894 => absurd c_894 (by omega))
      refine k_iload hC dL_law_899 1 rfl ?_
      refine k_if_ne hC 916 dL_law_901 rfl (by omega) (fun c_901 => absurd c_901 (by omega)) (fun c_901 => ?_)
      refine k_aload_n hC dL_law_904 rfl 4 rfl ?_
      refine k_iconst hC dL_law_905 ?_
      have h_3 : w3 148 = lA G 1 (fun _ => i32 (carM gc (xI xs (i + 1)).toNat (xI xs (i + 2)))) := (hf3 148 (by decide)).trans h148
      refine k_lald hC (kl hN (by decide)) h_3 (by omega) (by decide) dL_law_906 ?_
      refine k_topv (vL (i32 (carM gc (xI xs (i + 1)).toNat (xI xs (i + 2))))) rfl ?_
      refine k_iload hC dL_law_907 0 rfl ?_
      refine k_topv (vI (i32 b3)) (vI_32 _) ?_
      refine k_i2l hC dL_law_909 (i32_r _) ?_
      refine k_lcmp_eq hC 916 dL_law_910 dL_law_911 rfl (i32_l _) (i32_l _) (fun c_910 => ?_) (fun c_910 => absurd (congrArg i32 (show (carM gc (xI xs (i + 1)).toNat (xI xs (i + 2))) = b3 from (hE.car hI (by omega) _).trans q3.symm)) c_910)
      refine k_goto hC 2319 dL_law_916 rfl ?_
      refine k_lvs (ls := [2, 3, 4, 5, 6, 7]) [(5, vI (i : Int)), (4, .ref (kad G 149)), (3, .ref (kad G 148)), (2, .ref (kad G 133)), (1, .ref (kad G 0)), (0, .ref b)] rfl ?_
      have h_4 : w3 149 = dA G 1 oD := (hf3 149 (by decide)).trans ((hf2 149 (by decide)).trans ((hfP 149 (by decide)).trans o2))
      exact kk w3 fl _ _ (LI.rd hc hm hr hw hT (hCh1.fr (fun j q1 q2 => hf3 j (by omega))) hS3 hm3 ⟨rfl, rfl, rfl, rfl, rfl⟩ ⟨⟨_, h_3⟩, ⟨_, h_4⟩⟩ (fun j hj => (hf3 j (by omega)).trans ((hf2 j (by omega)).trans (hfP j (by omega))))) (by omega) (by omega)
    · exfalso; omega
    · exfalso; omega
  · subst hv
    obtain ⟨hfl, hP⟩ := hP
    subst hfl
    obtain ⟨hCh, hfP⟩ := hP
    have hCh1 := hCh
    have hSc1 : kScr G w1 := b5.fr (fun j q1 q2 => hfP j (by omega))
    show KW p l e R s m args below meth c 10 G Q w1 fl (cs + 8) (ss + 48) 868 [(5, vI (i : Int)), (4, .ref (kad G 149)), (3, .ref (kad G 148)), (2, .ref (kad G 133)), (1, .ref (kad G 0)), (0, .ref b)] [vI 1]
    refine k_istore hC [(6, vI 1), (5, vI (i : Int)), (4, .ref (kad G 149)), (3, .ref (kad G 148)), (2, .ref (kad G 133)), (1, .ref (kad G 0)), (0, .ref b)] dL_law_868 (by decide) rfl ?_
    refine k_aload_n hC dL_law_870 rfl 4 rfl ?_
    refine k_aload_n hC dL_law_871 rfl 6 rfl ?_
    refine k_iload hC dL_law_872 1 rfl ?_
    refine k_iconst hC dL_law_874 ?_
    refine k_iadd hC dL_law_875 ?_
    refine k_scr hC hX hbl hbA hL (i + 1) (by omega) (by omega) dL_law_876 ?_
    refine k_aload_n hC dL_law_877 rfl 6 rfl ?_
    refine k_iload hC dL_law_878 1 rfl ?_
    refine k_iconst hC dL_law_880 ?_
    refine k_iadd hC dL_law_881 ?_
    refine k_scr hC hX hbl hbA hL (i + 2) (by omega) (by omega) dL_law_882 ?_
    have h_5 : w1 133 = mdO G u := (hfP 133 (by decide)).trans b0
    have h_6 : w1 134 = lA G 93 gr := (hfP 134 (by decide)).trans b1
    refine k_callV hC (c_X12_carried l hls G hN w1 fl u gr (xI xs (i + 1)) (xI xs (i + 2)) (xI_r xs _) (xI_r xs _) hIr h_5 h_6 hSc1) yy_X12_carried wm_L_150 (kl hN (by decide)) h_5 rfl rfl rfl rfl (Nat.le_of_ble_eq_true rfl) (by omega) (by omega) ⟨by omega, by omega⟩ dL_law_883 (fun v3 w3 fl3 hp3 => ?_)
    obtain ⟨b3, th3, hv3, hfl3, hR3, hP3⟩ := hp3
    subst hv3
    subst hfl3
    obtain ⟨⟨fe, fn, hm3⟩, hS3, hf3⟩ := hP3
    rcases hR3 with ⟨q1, q2, q3⟩ | ⟨q1, q2⟩ | ⟨q1, q2⟩
    · exfalso; omega
    · subst q2
      show KW p l e R s m args below meth c 10 G Q w3 fl (cs + 8) (ss + 48) 886 [(6, vI 1), (5, vI (i : Int)), (4, .ref (kad G 149)), (3, .ref (kad G 148)), (2, .ref (kad G 133)), (1, .ref (kad G 0)), (0, .ref b)] [vI b3]
      refine k_istore hC [(7, vI b3), (6, vI 1), (5, vI (i : Int)), (4, .ref (kad G 149)), (3, .ref (kad G 148)), (2, .ref (kad G 133)), (1, .ref (kad G 0)), (0, .ref b)] dL_law_886 (by decide) rfl ?_
      refine k_aload_n hC dL_law_888 rfl 5 rfl ?_
      refine k_pureV hC (c_X12_thrown l hls G hN w3 fl (kup (kup (kup u 5 1) 12 fe) 13 fn) hm3) yy_X12_thrown wm_L_113 (kl hN (by decide)) hm3 rfl rfl rfl rfl (Nat.le_of_ble_eq_true rfl) (by omega) (by omega) ⟨by omega, by omega⟩ dL_law_889 ?_
      refine k_topv (vI 1) rfl ?_
      refine k_iload hC dL_law_892 1 rfl ?_
      refine k_icmp_eq hC 899 dL_law_894 rfl (by omega) (by omega) (fun c_894 => ?_) (fun c_894 => absurd c_894 (by omega))
      refine k_iload hC dL_law_899 1 rfl ?_
      refine k_if_ne hC 916 dL_law_901 rfl (by omega) (fun c_901 => ?_) (fun c_901 => absurd c_901 (by omega))
      refine k_goto hC 2319 dL_law_916 rfl ?_
      refine k_lvs (ls := [2, 3, 4, 5, 6, 7]) [(5, vI (i : Int)), (4, .ref (kad G 149)), (3, .ref (kad G 148)), (2, .ref (kad G 133)), (1, .ref (kad G 0)), (0, .ref b)] rfl ?_
      have h_7 : w3 148 = lA G 1 out := (hf3 148 (by decide)).trans ((hfP 148 (by decide)).trans o1)
      have h_8 : w3 149 = dA G 1 oD := (hf3 149 (by decide)).trans ((hfP 149 (by decide)).trans o2)
      exact kk w3 fl _ _ (LI.rd hc hm hr hw hT (hCh1.fr (fun j q1 q2 => hf3 j (by omega))) hS3 hm3 ⟨rfl, rfl, rfl, rfl, rfl⟩ ⟨⟨_, h_7⟩, ⟨_, h_8⟩⟩ (fun j hj => (hf3 j (by omega)).trans (hfP j (by omega)))) (by omega) (by omega)
    · exfalso; omega
  · subst hv
    obtain ⟨hfl, hP⟩ := hP
    subst hfl
    obtain ⟨hCh, hfP⟩ := hP
    have hCh1 := hCh
    have hSc1 : kScr G w1 := b5.fr (fun j q1 q2 => hfP j (by omega))
    show KW p l e R s m args below meth c 10 G Q w1 fl (cs + 8) (ss + 48) 868 [(5, vI (i : Int)), (4, .ref (kad G 149)), (3, .ref (kad G 148)), (2, .ref (kad G 133)), (1, .ref (kad G 0)), (0, .ref b)] [vI 2]
    refine k_istore hC [(6, vI 2), (5, vI (i : Int)), (4, .ref (kad G 149)), (3, .ref (kad G 148)), (2, .ref (kad G 133)), (1, .ref (kad G 0)), (0, .ref b)] dL_law_868 (by decide) rfl ?_
    refine k_aload_n hC dL_law_870 rfl 4 rfl ?_
    refine k_aload_n hC dL_law_871 rfl 6 rfl ?_
    refine k_iload hC dL_law_872 1 rfl ?_
    refine k_iconst hC dL_law_874 ?_
    refine k_iadd hC dL_law_875 ?_
    refine k_scr hC hX hbl hbA hL (i + 1) (by omega) (by omega) dL_law_876 ?_
    refine k_aload_n hC dL_law_877 rfl 6 rfl ?_
    refine k_iload hC dL_law_878 1 rfl ?_
    refine k_iconst hC dL_law_880 ?_
    refine k_iadd hC dL_law_881 ?_
    refine k_scr hC hX hbl hbA hL (i + 2) (by omega) (by omega) dL_law_882 ?_
    have h_9 : w1 133 = mdO G u := (hfP 133 (by decide)).trans b0
    have h_10 : w1 134 = lA G 93 gr := (hfP 134 (by decide)).trans b1
    refine k_callV hC (c_X12_carried l hls G hN w1 fl u gr (xI xs (i + 1)) (xI xs (i + 2)) (xI_r xs _) (xI_r xs _) hIr h_9 h_10 hSc1) yy_X12_carried wm_L_150 (kl hN (by decide)) h_9 rfl rfl rfl rfl (Nat.le_of_ble_eq_true rfl) (by omega) (by omega) ⟨by omega, by omega⟩ dL_law_883 (fun v3 w3 fl3 hp3 => ?_)
    obtain ⟨b3, th3, hv3, hfl3, hR3, hP3⟩ := hp3
    subst hv3
    subst hfl3
    obtain ⟨⟨fe, fn, hm3⟩, hS3, hf3⟩ := hP3
    rcases hR3 with ⟨q1, q2, q3⟩ | ⟨q1, q2⟩ | ⟨q1, q2⟩
    · exfalso; omega
    · exfalso; omega
    · subst q2
      show KW p l e R s m args below meth c 10 G Q w3 fl (cs + 8) (ss + 48) 886 [(6, vI 2), (5, vI (i : Int)), (4, .ref (kad G 149)), (3, .ref (kad G 148)), (2, .ref (kad G 133)), (1, .ref (kad G 0)), (0, .ref b)] [vI b3]
      refine k_istore hC [(7, vI b3), (6, vI 2), (5, vI (i : Int)), (4, .ref (kad G 149)), (3, .ref (kad G 148)), (2, .ref (kad G 133)), (1, .ref (kad G 0)), (0, .ref b)] dL_law_886 (by decide) rfl ?_
      refine k_aload_n hC dL_law_888 rfl 5 rfl ?_
      refine k_pureV hC (c_X12_thrown l hls G hN w3 fl (kup (kup (kup u 5 2) 12 fe) 13 fn) hm3) yy_X12_thrown wm_L_113 (kl hN (by decide)) hm3 rfl rfl rfl rfl (Nat.le_of_ble_eq_true rfl) (by omega) (by omega) ⟨by omega, by omega⟩ dL_law_889 ?_
      refine k_topv (vI 2) rfl ?_
      refine k_iload hC dL_law_892 1 rfl ?_
      refine k_icmp_eq hC 899 dL_law_894 rfl (by omega) (by omega) (fun c_894 => ?_) (fun c_894 => absurd c_894 (by omega))
      refine k_iload hC dL_law_899 1 rfl ?_
      refine k_if_ne hC 916 dL_law_901 rfl (by omega) (fun c_901 => ?_) (fun c_901 => absurd c_901 (by omega))
      refine k_goto hC 2319 dL_law_916 rfl ?_
      refine k_lvs (ls := [2, 3, 4, 5, 6, 7]) [(5, vI (i : Int)), (4, .ref (kad G 149)), (3, .ref (kad G 148)), (2, .ref (kad G 133)), (1, .ref (kad G 0)), (0, .ref b)] rfl ?_
      have h_11 : w3 148 = lA G 1 out := (hf3 148 (by decide)).trans ((hfP 148 (by decide)).trans o1)
      have h_12 : w3 149 = dA G 1 oD := (hf3 149 (by decide)).trans ((hfP 149 (by decide)).trans o2)
      exact kk w3 fl _ _ (LI.rd hc hm hr hw hT (hCh1.fr (fun j q1 q2 => hf3 j (by omega))) hS3 hm3 ⟨rfl, rfl, rfl, rfl, rfl⟩ ⟨⟨_, h_11⟩, ⟨_, h_12⟩⟩ (fun j hj => (hf3 j (by omega)).trans (hfP j (by omega)))) (by omega) (by omega)

set_option maxRecDepth 100000 in
set_option maxHeartbeats 4000000 in
theorem lw_crossing {p : Program} {l : Launch} {e : Env} {R : Room} {s : State} {m : MethodId} {args : Array Value} {below : List Frame} {meth : Method} {c : Code} {G : kG} {d0 mc0 ms0 : Nat} {Q : State → Prop} {b L : Nat} {xs : Nat → Int32} (hC : kC p l R s m args meth c cL_law RL 10 G d0 mc0 ms0) (hls : l.stackTraces = false) (hN : kN G = 150) (hNc : va_Nc "java/lang/IllegalArgumentException" "java/util/NoSuchElementException" s) (hX : va_X b L xs s s.heap) (hbl : b < s.heap.size) (hbA : ¬ kA G b) (hL : L ≤ 3584) (hd0 : 60 ≤ d0) {cs ss : Nat} (hcs : cs + 16 ≤ mc0 ∧ ss + 400 ≤ ms0) (i : Nat) (hi : i + 7 ≤ L) (w : Nat → va_E) (fl : va_W) (hLI : LI G w fl)
    (kk : ∀ (w' : Nat → va_E) (fl' : va_W) (cs' ss' : Nat), LI G w' fl' → cs' ≤ cs + 16 → ss' ≤ ss + 400 → KW p l e R s m args below meth c 10 G Q w' fl' cs' ss' 2319 [(5, vI (i : Int)), (4, .ref (kad G 149)), (3, .ref (kad G 148)), (2, .ref (kad G 133)), (1, .ref (kad G 0)), (0, .ref b)] []) : KW p l e R s m args below meth c 10 G Q w fl cs ss 919 [(5, vI (i : Int)), (4, .ref (kad G 149)), (3, .ref (kad G 148)), (2, .ref (kad G 133)), (1, .ref (kad G 0)), (0, .ref b)] [] := by
  obtain ⟨bt, gc, nl, gp0, nl9, gl0, gs, c0, nx, cn, cap, cd, ea, kd, nm, sa, nx9, en, sv, hs, T, u, gr, D0, sp, H, hc, hm, ho, hr, hw, hT⟩ := hLI
  have hc1 := hc
  have hm1 := hm
  have hr1 := hr
  have ho1 := ho
  obtain ⟨⟨a0, asv⟩, a1, ⟨a2, abt, ac7⟩, a3, a4, a5, a6, ⟨a7, anx, acn⟩, ⟨a8, a9, a10⟩, ⟨a11, a12, a13⟩, a14⟩ := hc1
  obtain ⟨b0, b1, b2, b3, b4, b5, b6, b7, ⟨cf, b8⟩, ⟨fq, b9⟩⟩ := hm1
  obtain ⟨⟨out, o1⟩, ⟨oD, o2⟩⟩ := ho1
  obtain ⟨r0, r1, r2, r3, r4, r5, r6⟩ := hr1
  have hI := r0.inv
  have hIr := r0.2.1
  have hE := r0.1
  have e0 := hE.n 0 (by decide)
  have e1 := hE.n 1 (by decide)
  have e2 := hE.n 2 (by decide)
  have hgc := hI.c
  by_cases hq : xI xs (i + 4) = 0
  · refine k_aload_n hC dL_law_919 rfl 4 rfl ?_
    refine k_aload_n hC dL_law_920 rfl 5 rfl ?_
    refine k_iload hC dL_law_921 0 rfl ?_
    refine k_iconst hC dL_law_923 ?_
    refine k_iadd hC dL_law_924 ?_
    refine k_scr hC hX hbl hbA hL (i + 1) (by omega) (by omega) dL_law_925 ?_
    refine k_aload_n hC dL_law_926 rfl 5 rfl ?_
    refine k_iload hC dL_law_927 0 rfl ?_
    refine k_iconst hC dL_law_929 ?_
    refine k_iadd hC dL_law_930 ?_
    refine k_scr hC hX hbl hbA hL (i + 2) (by omega) (by omega) dL_law_931 ?_
    refine k_aload_n hC dL_law_932 rfl 5 rfl ?_
    refine k_iload hC dL_law_933 0 rfl ?_
    refine k_iconst hC dL_law_935 ?_
    refine k_iadd hC dL_law_936 ?_
    refine k_scr hC hX hbl hbA hL (i + 3) (by omega) (by omega) dL_law_937 ?_
    refine k_aload_n hC dL_law_938 rfl 5 rfl ?_
    refine k_iload hC dL_law_939 0 rfl ?_
    refine k_iconst hC dL_law_941 ?_
    refine k_iadd hC dL_law_942 ?_
    refine k_scr hC hX hbl hbA hL (i + 4) (by omega) (by omega) dL_law_943 ?_
    refine k_if_eq hC 951 dL_law_944 rfl (xI_r xs _) (fun c_944 => ?_) (fun c_944 => absurd hq c_944)
    refine k_iconst hC dL_law_951 ?_
    refine k_aload_n hC dL_law_952 rfl 2 rfl ?_
    refine k_callL hC hNc (n := 6) (c_L_crossing l hls G hN w fl gc nl sv (xI xs (i + 1)) (xI xs (i + 2)) (xI xs (i + 3)) 0 out (xI_r xs _) (xI_r xs _) (xI_r xs _) (by decide) hI a0 a3 a4 a5 o1) wc_L_crossing wz_L (by decide +kernel) wt_L_crossing wm_L_151 rfl rfl (Nat.le_of_ble_eq_true rfl) (by omega) (by omega) ⟨by omega, by omega⟩ dL_law_953 (fun v1 w1 fl1 hp => ?_)
    rcases hp with ⟨hv, hcc, w2, hP, h148, hf2⟩ | ⟨hP, ⟨hcc, hv⟩ | ⟨hcc, hv⟩⟩
    · subst hv
      obtain ⟨hfl, hP⟩ := hP
      subst hfl
      obtain ⟨hCh, hfP⟩ := hP
      have hCh1 : kCht G w1 := hCh.fr (fun j q1 q2 => hf2 j (by omega))
      have hSc1 : kScr G w1 := b5.fr (fun j q1 q2 => (hf2 j (by omega)).trans (hfP j (by omega)))
      show KW p l e R s m args below meth c 10 G Q w1 fl (cs + 8) (ss + 48) 956 [(5, vI (i : Int)), (4, .ref (kad G 149)), (3, .ref (kad G 148)), (2, .ref (kad G 133)), (1, .ref (kad G 0)), (0, .ref b)] [vI 0]
      refine k_istore hC [(6, vI 0), (5, vI (i : Int)), (4, .ref (kad G 149)), (3, .ref (kad G 148)), (2, .ref (kad G 133)), (1, .ref (kad G 0)), (0, .ref b)] dL_law_956 (by decide) rfl ?_
      refine k_aload_n hC dL_law_958 rfl 4 rfl ?_
      refine k_aload_n hC dL_law_959 rfl 6 rfl ?_
      refine k_iload hC dL_law_960 1 rfl ?_
      refine k_iconst hC dL_law_962 ?_
      refine k_iadd hC dL_law_963 ?_
      refine k_scr hC hX hbl hbA hL (i + 1) (by omega) (by omega) dL_law_964 ?_
      refine k_aload_n hC dL_law_965 rfl 6 rfl ?_
      refine k_iload hC dL_law_966 1 rfl ?_
      refine k_iconst hC dL_law_968 ?_
      refine k_iadd hC dL_law_969 ?_
      refine k_scr hC hX hbl hbA hL (i + 2) (by omega) (by omega) dL_law_970 ?_
      refine k_aload_n hC dL_law_971 rfl 6 rfl ?_
      refine k_iload hC dL_law_972 1 rfl ?_
      refine k_iconst hC dL_law_974 ?_
      refine k_iadd hC dL_law_975 ?_
      refine k_scr hC hX hbl hbA hL (i + 3) (by omega) (by omega) dL_law_976 ?_
      refine k_aload_n hC dL_law_977 rfl 6 rfl ?_
      refine k_iload hC dL_law_978 1 rfl ?_
      refine k_iconst hC dL_law_980 ?_
      refine k_iadd hC dL_law_981 ?_
      refine k_scr hC hX hbl hbA hL (i + 4) (by omega) (by omega) dL_law_982 ?_
      refine k_if_eq hC 990 dL_law_983 rfl (xI_r xs _) (fun c_983 => ?_) (fun c_983 => absurd hq c_983)
      refine k_iconst hC dL_law_990 ?_
      have h_1 : w1 133 = mdO G u := (hf2 133 (by decide)).trans ((hfP 133 (by decide)).trans b0)
      have h_2 : w1 134 = lA G 93 gr := (hf2 134 (by decide)).trans ((hfP 134 (by decide)).trans b1)
      refine k_callV hC (c_X12_crossing l hls G hN w1 fl u gr (xI xs (i + 1)) (xI xs (i + 2)) (xI xs (i + 3)) 0 (xI_r xs _) (xI_r xs _) (xI_r xs _) (by decide) hIr h_1 h_2 hSc1) yy_X12_crossing wm_L_154 (kl hN (by decide)) h_1 rfl rfl rfl rfl (Nat.le_of_ble_eq_true rfl) (by omega) (by omega) ⟨by omega, by omega⟩ dL_law_991 (fun v3 w3 fl3 hp3 => ?_)
      obtain ⟨b3, th3, hv3, hfl3, hR3, hP3⟩ := hp3
      subst hv3
      subst hfl3
      obtain ⟨⟨fe, fn, hm3⟩, hS3, hf3⟩ := hP3
      rcases hR3 with ⟨q1, q2, q3⟩ | ⟨q1, q2⟩ | ⟨q1, q2⟩
      · subst q2
        show KW p l e R s m args below meth c 10 G Q w3 fl (cs + 8) (ss + 48) 994 [(6, vI 0), (5, vI (i : Int)), (4, .ref (kad G 149)), (3, .ref (kad G 148)), (2, .ref (kad G 133)), (1, .ref (kad G 0)), (0, .ref b)] [vI b3]
        refine k_istore hC [(7, vI b3), (6, vI 0), (5, vI (i : Int)), (4, .ref (kad G 149)), (3, .ref (kad G 148)), (2, .ref (kad G 133)), (1, .ref (kad G 0)), (0, .ref b)] dL_law_994 (by decide) rfl ?_
        refine k_aload_n hC dL_law_996 rfl 5 rfl ?_
        refine k_pureV hC (c_X12_thrown l hls G hN w3 fl (kup (kup (kup u 5 0) 12 fe) 13 fn) hm3) yy_X12_thrown wm_L_113 (kl hN (by decide)) hm3 rfl rfl rfl rfl (Nat.le_of_ble_eq_true rfl) (by omega) (by omega) ⟨by omega, by omega⟩ dL_law_997 ?_
        refine k_topv (vI 0) rfl ?_
        refine k_iload hC dL_law_1000 1 rfl ?_
        refine k_icmp_eq hC 1007 dL_law_1002 rfl (by omega) (by omega) (fun c_1002 => ?_) (fun c_1002 => absurd c_1002 (by omega))
        refine k_iload hC dL_law_1007 1 rfl ?_
        refine k_if_ne hC 1024 dL_law_1009 rfl (by omega) (fun c_1009 => absurd c_1009 (by omega)) (fun c_1009 => ?_)
        refine k_aload_n hC dL_law_1012 rfl 4 rfl ?_
        refine k_iconst hC dL_law_1013 ?_
        have h_3 : w3 148 = lA G 1 (fun _ => i32 (crsV gc (xI xs (i + 1)).toNat (xI xs (i + 2)).toNat (xI xs (i + 3)) 0)) := (hf3 148 (by decide)).trans h148
        refine k_lald hC (kl hN (by decide)) h_3 (by omega) (by decide) dL_law_1014 ?_
        refine k_topv (vL (i32 (crsV gc (xI xs (i + 1)).toNat (xI xs (i + 2)).toNat (xI xs (i + 3)) 0))) rfl ?_
        refine k_iload hC dL_law_1015 0 rfl ?_
        refine k_topv (vI (i32 b3)) (vI_32 _) ?_
        refine k_i2l hC dL_law_1017 (i32_r _) ?_
        refine k_lcmp_eq hC 1024 dL_law_1018 dL_law_1019 rfl (i32_l _) (i32_l _) (fun c_1018 => ?_) (fun c_1018 => absurd (congrArg i32 (show (crsV gc (xI xs (i + 1)).toNat (xI xs (i + 2)).toNat (xI xs (i + 3)) 0) = b3 from (gE_crsV hE hI (by omega) (by omega) _ _).trans q3.symm)) c_1018)
        refine k_goto hC 2319 dL_law_1024 rfl ?_
        refine k_lvs (ls := [2, 3, 4, 5, 6, 7]) [(5, vI (i : Int)), (4, .ref (kad G 149)), (3, .ref (kad G 148)), (2, .ref (kad G 133)), (1, .ref (kad G 0)), (0, .ref b)] rfl ?_
        have h_4 : w3 149 = dA G 1 oD := (hf3 149 (by decide)).trans ((hf2 149 (by decide)).trans ((hfP 149 (by decide)).trans o2))
        exact kk w3 fl _ _ (LI.rd hc hm hr hw hT (hCh1.fr (fun j q1 q2 => hf3 j (by omega))) hS3 hm3 ⟨rfl, rfl, rfl, rfl, rfl⟩ ⟨⟨_, h_3⟩, ⟨_, h_4⟩⟩ (fun j hj => (hf3 j (by omega)).trans ((hf2 j (by omega)).trans (hfP j (by omega))))) (by omega) (by omega)
      · exfalso; omega
      · exfalso; omega
    · subst hv
      obtain ⟨hfl, hP⟩ := hP
      subst hfl
      obtain ⟨hCh, hfP⟩ := hP
      have hCh1 := hCh
      have hSc1 : kScr G w1 := b5.fr (fun j q1 q2 => hfP j (by omega))
      show KW p l e R s m args below meth c 10 G Q w1 fl (cs + 8) (ss + 48) 956 [(5, vI (i : Int)), (4, .ref (kad G 149)), (3, .ref (kad G 148)), (2, .ref (kad G 133)), (1, .ref (kad G 0)), (0, .ref b)] [vI 1]
      refine k_istore hC [(6, vI 1), (5, vI (i : Int)), (4, .ref (kad G 149)), (3, .ref (kad G 148)), (2, .ref (kad G 133)), (1, .ref (kad G 0)), (0, .ref b)] dL_law_956 (by decide) rfl ?_
      refine k_aload_n hC dL_law_958 rfl 4 rfl ?_
      refine k_aload_n hC dL_law_959 rfl 6 rfl ?_
      refine k_iload hC dL_law_960 1 rfl ?_
      refine k_iconst hC dL_law_962 ?_
      refine k_iadd hC dL_law_963 ?_
      refine k_scr hC hX hbl hbA hL (i + 1) (by omega) (by omega) dL_law_964 ?_
      refine k_aload_n hC dL_law_965 rfl 6 rfl ?_
      refine k_iload hC dL_law_966 1 rfl ?_
      refine k_iconst hC dL_law_968 ?_
      refine k_iadd hC dL_law_969 ?_
      refine k_scr hC hX hbl hbA hL (i + 2) (by omega) (by omega) dL_law_970 ?_
      refine k_aload_n hC dL_law_971 rfl 6 rfl ?_
      refine k_iload hC dL_law_972 1 rfl ?_
      refine k_iconst hC dL_law_974 ?_
      refine k_iadd hC dL_law_975 ?_
      refine k_scr hC hX hbl hbA hL (i + 3) (by omega) (by omega) dL_law_976 ?_
      refine k_aload_n hC dL_law_977 rfl 6 rfl ?_
      refine k_iload hC dL_law_978 1 rfl ?_
      refine k_iconst hC dL_law_980 ?_
      refine k_iadd hC dL_law_981 ?_
      refine k_scr hC hX hbl hbA hL (i + 4) (by omega) (by omega) dL_law_982 ?_
      refine k_if_eq hC 990 dL_law_983 rfl (xI_r xs _) (fun c_983 => ?_) (fun c_983 => absurd hq c_983)
      refine k_iconst hC dL_law_990 ?_
      have h_5 : w1 133 = mdO G u := (hfP 133 (by decide)).trans b0
      have h_6 : w1 134 = lA G 93 gr := (hfP 134 (by decide)).trans b1
      refine k_callV hC (c_X12_crossing l hls G hN w1 fl u gr (xI xs (i + 1)) (xI xs (i + 2)) (xI xs (i + 3)) 0 (xI_r xs _) (xI_r xs _) (xI_r xs _) (by decide) hIr h_5 h_6 hSc1) yy_X12_crossing wm_L_154 (kl hN (by decide)) h_5 rfl rfl rfl rfl (Nat.le_of_ble_eq_true rfl) (by omega) (by omega) ⟨by omega, by omega⟩ dL_law_991 (fun v3 w3 fl3 hp3 => ?_)
      obtain ⟨b3, th3, hv3, hfl3, hR3, hP3⟩ := hp3
      subst hv3
      subst hfl3
      obtain ⟨⟨fe, fn, hm3⟩, hS3, hf3⟩ := hP3
      rcases hR3 with ⟨q1, q2, q3⟩ | ⟨q1, q2⟩ | ⟨q1, q2⟩
      · exfalso; omega
      · subst q2
        show KW p l e R s m args below meth c 10 G Q w3 fl (cs + 8) (ss + 48) 994 [(6, vI 1), (5, vI (i : Int)), (4, .ref (kad G 149)), (3, .ref (kad G 148)), (2, .ref (kad G 133)), (1, .ref (kad G 0)), (0, .ref b)] [vI b3]
        refine k_istore hC [(7, vI b3), (6, vI 1), (5, vI (i : Int)), (4, .ref (kad G 149)), (3, .ref (kad G 148)), (2, .ref (kad G 133)), (1, .ref (kad G 0)), (0, .ref b)] dL_law_994 (by decide) rfl ?_
        refine k_aload_n hC dL_law_996 rfl 5 rfl ?_
        refine k_pureV hC (c_X12_thrown l hls G hN w3 fl (kup (kup (kup u 5 1) 12 fe) 13 fn) hm3) yy_X12_thrown wm_L_113 (kl hN (by decide)) hm3 rfl rfl rfl rfl (Nat.le_of_ble_eq_true rfl) (by omega) (by omega) ⟨by omega, by omega⟩ dL_law_997 ?_
        refine k_topv (vI 1) rfl ?_
        refine k_iload hC dL_law_1000 1 rfl ?_
        refine k_icmp_eq hC 1007 dL_law_1002 rfl (by omega) (by omega) (fun c_1002 => ?_) (fun c_1002 => absurd c_1002 (by omega))
        refine k_iload hC dL_law_1007 1 rfl ?_
        refine k_if_ne hC 1024 dL_law_1009 rfl (by omega) (fun c_1009 => ?_) (fun c_1009 => absurd c_1009 (by omega))
        refine k_goto hC 2319 dL_law_1024 rfl ?_
        refine k_lvs (ls := [2, 3, 4, 5, 6, 7]) [(5, vI (i : Int)), (4, .ref (kad G 149)), (3, .ref (kad G 148)), (2, .ref (kad G 133)), (1, .ref (kad G 0)), (0, .ref b)] rfl ?_
        have h_7 : w3 148 = lA G 1 out := (hf3 148 (by decide)).trans ((hfP 148 (by decide)).trans o1)
        have h_8 : w3 149 = dA G 1 oD := (hf3 149 (by decide)).trans ((hfP 149 (by decide)).trans o2)
        exact kk w3 fl _ _ (LI.rd hc hm hr hw hT (hCh1.fr (fun j q1 q2 => hf3 j (by omega))) hS3 hm3 ⟨rfl, rfl, rfl, rfl, rfl⟩ ⟨⟨_, h_7⟩, ⟨_, h_8⟩⟩ (fun j hj => (hf3 j (by omega)).trans (hfP j (by omega)))) (by omega) (by omega)
      · exfalso; omega
    · subst hv
      obtain ⟨hfl, hP⟩ := hP
      subst hfl
      obtain ⟨hCh, hfP⟩ := hP
      have hCh1 := hCh
      have hSc1 : kScr G w1 := b5.fr (fun j q1 q2 => hfP j (by omega))
      show KW p l e R s m args below meth c 10 G Q w1 fl (cs + 8) (ss + 48) 956 [(5, vI (i : Int)), (4, .ref (kad G 149)), (3, .ref (kad G 148)), (2, .ref (kad G 133)), (1, .ref (kad G 0)), (0, .ref b)] [vI 2]
      refine k_istore hC [(6, vI 2), (5, vI (i : Int)), (4, .ref (kad G 149)), (3, .ref (kad G 148)), (2, .ref (kad G 133)), (1, .ref (kad G 0)), (0, .ref b)] dL_law_956 (by decide) rfl ?_
      refine k_aload_n hC dL_law_958 rfl 4 rfl ?_
      refine k_aload_n hC dL_law_959 rfl 6 rfl ?_
      refine k_iload hC dL_law_960 1 rfl ?_
      refine k_iconst hC dL_law_962 ?_
      refine k_iadd hC dL_law_963 ?_
      refine k_scr hC hX hbl hbA hL (i + 1) (by omega) (by omega) dL_law_964 ?_
      refine k_aload_n hC dL_law_965 rfl 6 rfl ?_
      refine k_iload hC dL_law_966 1 rfl ?_
      refine k_iconst hC dL_law_968 ?_
      refine k_iadd hC dL_law_969 ?_
      refine k_scr hC hX hbl hbA hL (i + 2) (by omega) (by omega) dL_law_970 ?_
      refine k_aload_n hC dL_law_971 rfl 6 rfl ?_
      refine k_iload hC dL_law_972 1 rfl ?_
      refine k_iconst hC dL_law_974 ?_
      refine k_iadd hC dL_law_975 ?_
      refine k_scr hC hX hbl hbA hL (i + 3) (by omega) (by omega) dL_law_976 ?_
      refine k_aload_n hC dL_law_977 rfl 6 rfl ?_
      refine k_iload hC dL_law_978 1 rfl ?_
      refine k_iconst hC dL_law_980 ?_
      refine k_iadd hC dL_law_981 ?_
      refine k_scr hC hX hbl hbA hL (i + 4) (by omega) (by omega) dL_law_982 ?_
      refine k_if_eq hC 990 dL_law_983 rfl (xI_r xs _) (fun c_983 => ?_) (fun c_983 => absurd hq c_983)
      refine k_iconst hC dL_law_990 ?_
      have h_9 : w1 133 = mdO G u := (hfP 133 (by decide)).trans b0
      have h_10 : w1 134 = lA G 93 gr := (hfP 134 (by decide)).trans b1
      refine k_callV hC (c_X12_crossing l hls G hN w1 fl u gr (xI xs (i + 1)) (xI xs (i + 2)) (xI xs (i + 3)) 0 (xI_r xs _) (xI_r xs _) (xI_r xs _) (by decide) hIr h_9 h_10 hSc1) yy_X12_crossing wm_L_154 (kl hN (by decide)) h_9 rfl rfl rfl rfl (Nat.le_of_ble_eq_true rfl) (by omega) (by omega) ⟨by omega, by omega⟩ dL_law_991 (fun v3 w3 fl3 hp3 => ?_)
      obtain ⟨b3, th3, hv3, hfl3, hR3, hP3⟩ := hp3
      subst hv3
      subst hfl3
      obtain ⟨⟨fe, fn, hm3⟩, hS3, hf3⟩ := hP3
      rcases hR3 with ⟨q1, q2, q3⟩ | ⟨q1, q2⟩ | ⟨q1, q2⟩
      · exfalso; omega
      · exfalso; omega
      · subst q2
        show KW p l e R s m args below meth c 10 G Q w3 fl (cs + 8) (ss + 48) 994 [(6, vI 2), (5, vI (i : Int)), (4, .ref (kad G 149)), (3, .ref (kad G 148)), (2, .ref (kad G 133)), (1, .ref (kad G 0)), (0, .ref b)] [vI b3]
        refine k_istore hC [(7, vI b3), (6, vI 2), (5, vI (i : Int)), (4, .ref (kad G 149)), (3, .ref (kad G 148)), (2, .ref (kad G 133)), (1, .ref (kad G 0)), (0, .ref b)] dL_law_994 (by decide) rfl ?_
        refine k_aload_n hC dL_law_996 rfl 5 rfl ?_
        refine k_pureV hC (c_X12_thrown l hls G hN w3 fl (kup (kup (kup u 5 2) 12 fe) 13 fn) hm3) yy_X12_thrown wm_L_113 (kl hN (by decide)) hm3 rfl rfl rfl rfl (Nat.le_of_ble_eq_true rfl) (by omega) (by omega) ⟨by omega, by omega⟩ dL_law_997 ?_
        refine k_topv (vI 2) rfl ?_
        refine k_iload hC dL_law_1000 1 rfl ?_
        refine k_icmp_eq hC 1007 dL_law_1002 rfl (by omega) (by omega) (fun c_1002 => ?_) (fun c_1002 => absurd c_1002 (by omega))
        refine k_iload hC dL_law_1007 1 rfl ?_
        refine k_if_ne hC 1024 dL_law_1009 rfl (by omega) (fun c_1009 => ?_) (fun c_1009 => absurd c_1009 (by omega))
        refine k_goto hC 2319 dL_law_1024 rfl ?_
        refine k_lvs (ls := [2, 3, 4, 5, 6, 7]) [(5, vI (i : Int)), (4, .ref (kad G 149)), (3, .ref (kad G 148)), (2, .ref (kad G 133)), (1, .ref (kad G 0)), (0, .ref b)] rfl ?_
        have h_11 : w3 148 = lA G 1 out := (hf3 148 (by decide)).trans ((hfP 148 (by decide)).trans o1)
        have h_12 : w3 149 = dA G 1 oD := (hf3 149 (by decide)).trans ((hfP 149 (by decide)).trans o2)
        exact kk w3 fl _ _ (LI.rd hc hm hr hw hT (hCh1.fr (fun j q1 q2 => hf3 j (by omega))) hS3 hm3 ⟨rfl, rfl, rfl, rfl, rfl⟩ ⟨⟨_, h_11⟩, ⟨_, h_12⟩⟩ (fun j hj => (hf3 j (by omega)).trans (hfP j (by omega)))) (by omega) (by omega)
  · refine k_aload_n hC dL_law_919 rfl 4 rfl ?_
    refine k_aload_n hC dL_law_920 rfl 5 rfl ?_
    refine k_iload hC dL_law_921 0 rfl ?_
    refine k_iconst hC dL_law_923 ?_
    refine k_iadd hC dL_law_924 ?_
    refine k_scr hC hX hbl hbA hL (i + 1) (by omega) (by omega) dL_law_925 ?_
    refine k_aload_n hC dL_law_926 rfl 5 rfl ?_
    refine k_iload hC dL_law_927 0 rfl ?_
    refine k_iconst hC dL_law_929 ?_
    refine k_iadd hC dL_law_930 ?_
    refine k_scr hC hX hbl hbA hL (i + 2) (by omega) (by omega) dL_law_931 ?_
    refine k_aload_n hC dL_law_932 rfl 5 rfl ?_
    refine k_iload hC dL_law_933 0 rfl ?_
    refine k_iconst hC dL_law_935 ?_
    refine k_iadd hC dL_law_936 ?_
    refine k_scr hC hX hbl hbA hL (i + 3) (by omega) (by omega) dL_law_937 ?_
    refine k_aload_n hC dL_law_938 rfl 5 rfl ?_
    refine k_iload hC dL_law_939 0 rfl ?_
    refine k_iconst hC dL_law_941 ?_
    refine k_iadd hC dL_law_942 ?_
    refine k_scr hC hX hbl hbA hL (i + 4) (by omega) (by omega) dL_law_943 ?_
    refine k_if_eq hC 951 dL_law_944 rfl (xI_r xs _) (fun c_944 => absurd c_944 hq) (fun c_944 => ?_)
    refine k_iconst hC dL_law_947 ?_
    refine k_goto hC 952 dL_law_948 rfl ?_
    refine k_aload_n hC dL_law_952 rfl 2 rfl ?_
    refine k_callL hC hNc (n := 6) (c_L_crossing l hls G hN w fl gc nl sv (xI xs (i + 1)) (xI xs (i + 2)) (xI xs (i + 3)) 1 out (xI_r xs _) (xI_r xs _) (xI_r xs _) (by decide) hI a0 a3 a4 a5 o1) wc_L_crossing wz_L (by decide +kernel) wt_L_crossing wm_L_151 rfl rfl (Nat.le_of_ble_eq_true rfl) (by omega) (by omega) ⟨by omega, by omega⟩ dL_law_953 (fun v1 w1 fl1 hp => ?_)
    rcases hp with ⟨hv, hcc, w2, hP, h148, hf2⟩ | ⟨hP, ⟨hcc, hv⟩ | ⟨hcc, hv⟩⟩
    · subst hv
      obtain ⟨hfl, hP⟩ := hP
      subst hfl
      obtain ⟨hCh, hfP⟩ := hP
      have hCh1 : kCht G w1 := hCh.fr (fun j q1 q2 => hf2 j (by omega))
      have hSc1 : kScr G w1 := b5.fr (fun j q1 q2 => (hf2 j (by omega)).trans (hfP j (by omega)))
      show KW p l e R s m args below meth c 10 G Q w1 fl (cs + 8) (ss + 48) 956 [(5, vI (i : Int)), (4, .ref (kad G 149)), (3, .ref (kad G 148)), (2, .ref (kad G 133)), (1, .ref (kad G 0)), (0, .ref b)] [vI 0]
      refine k_istore hC [(6, vI 0), (5, vI (i : Int)), (4, .ref (kad G 149)), (3, .ref (kad G 148)), (2, .ref (kad G 133)), (1, .ref (kad G 0)), (0, .ref b)] dL_law_956 (by decide) rfl ?_
      refine k_aload_n hC dL_law_958 rfl 4 rfl ?_
      refine k_aload_n hC dL_law_959 rfl 6 rfl ?_
      refine k_iload hC dL_law_960 1 rfl ?_
      refine k_iconst hC dL_law_962 ?_
      refine k_iadd hC dL_law_963 ?_
      refine k_scr hC hX hbl hbA hL (i + 1) (by omega) (by omega) dL_law_964 ?_
      refine k_aload_n hC dL_law_965 rfl 6 rfl ?_
      refine k_iload hC dL_law_966 1 rfl ?_
      refine k_iconst hC dL_law_968 ?_
      refine k_iadd hC dL_law_969 ?_
      refine k_scr hC hX hbl hbA hL (i + 2) (by omega) (by omega) dL_law_970 ?_
      refine k_aload_n hC dL_law_971 rfl 6 rfl ?_
      refine k_iload hC dL_law_972 1 rfl ?_
      refine k_iconst hC dL_law_974 ?_
      refine k_iadd hC dL_law_975 ?_
      refine k_scr hC hX hbl hbA hL (i + 3) (by omega) (by omega) dL_law_976 ?_
      refine k_aload_n hC dL_law_977 rfl 6 rfl ?_
      refine k_iload hC dL_law_978 1 rfl ?_
      refine k_iconst hC dL_law_980 ?_
      refine k_iadd hC dL_law_981 ?_
      refine k_scr hC hX hbl hbA hL (i + 4) (by omega) (by omega) dL_law_982 ?_
      refine k_if_eq hC 990 dL_law_983 rfl (xI_r xs _) (fun c_983 => absurd c_983 hq) (fun c_983 => ?_)
      refine k_iconst hC dL_law_986 ?_
      refine k_goto hC 991 dL_law_987 rfl ?_
      have h_13 : w1 133 = mdO G u := (hf2 133 (by decide)).trans ((hfP 133 (by decide)).trans b0)
      have h_14 : w1 134 = lA G 93 gr := (hf2 134 (by decide)).trans ((hfP 134 (by decide)).trans b1)
      refine k_callV hC (c_X12_crossing l hls G hN w1 fl u gr (xI xs (i + 1)) (xI xs (i + 2)) (xI xs (i + 3)) 1 (xI_r xs _) (xI_r xs _) (xI_r xs _) (by decide) hIr h_13 h_14 hSc1) yy_X12_crossing wm_L_154 (kl hN (by decide)) h_13 rfl rfl rfl rfl (Nat.le_of_ble_eq_true rfl) (by omega) (by omega) ⟨by omega, by omega⟩ dL_law_991 (fun v3 w3 fl3 hp3 => ?_)
      obtain ⟨b3, th3, hv3, hfl3, hR3, hP3⟩ := hp3
      subst hv3
      subst hfl3
      obtain ⟨⟨fe, fn, hm3⟩, hS3, hf3⟩ := hP3
      rcases hR3 with ⟨q1, q2, q3⟩ | ⟨q1, q2⟩ | ⟨q1, q2⟩
      · subst q2
        show KW p l e R s m args below meth c 10 G Q w3 fl (cs + 8) (ss + 48) 994 [(6, vI 0), (5, vI (i : Int)), (4, .ref (kad G 149)), (3, .ref (kad G 148)), (2, .ref (kad G 133)), (1, .ref (kad G 0)), (0, .ref b)] [vI b3]
        refine k_istore hC [(7, vI b3), (6, vI 0), (5, vI (i : Int)), (4, .ref (kad G 149)), (3, .ref (kad G 148)), (2, .ref (kad G 133)), (1, .ref (kad G 0)), (0, .ref b)] dL_law_994 (by decide) rfl ?_
        refine k_aload_n hC dL_law_996 rfl 5 rfl ?_
        refine k_pureV hC (c_X12_thrown l hls G hN w3 fl (kup (kup (kup u 5 0) 12 fe) 13 fn) hm3) yy_X12_thrown wm_L_113 (kl hN (by decide)) hm3 rfl rfl rfl rfl (Nat.le_of_ble_eq_true rfl) (by omega) (by omega) ⟨by omega, by omega⟩ dL_law_997 ?_
        refine k_topv (vI 0) rfl ?_
        refine k_iload hC dL_law_1000 1 rfl ?_
        refine k_icmp_eq hC 1007 dL_law_1002 rfl (by omega) (by omega) (fun c_1002 => ?_) (fun c_1002 => absurd c_1002 (by omega))
        refine k_iload hC dL_law_1007 1 rfl ?_
        refine k_if_ne hC 1024 dL_law_1009 rfl (by omega) (fun c_1009 => absurd c_1009 (by omega)) (fun c_1009 => ?_)
        refine k_aload_n hC dL_law_1012 rfl 4 rfl ?_
        refine k_iconst hC dL_law_1013 ?_
        have h_15 : w3 148 = lA G 1 (fun _ => i32 (crsV gc (xI xs (i + 1)).toNat (xI xs (i + 2)).toNat (xI xs (i + 3)) 1)) := (hf3 148 (by decide)).trans h148
        refine k_lald hC (kl hN (by decide)) h_15 (by omega) (by decide) dL_law_1014 ?_
        refine k_topv (vL (i32 (crsV gc (xI xs (i + 1)).toNat (xI xs (i + 2)).toNat (xI xs (i + 3)) 1))) rfl ?_
        refine k_iload hC dL_law_1015 0 rfl ?_
        refine k_topv (vI (i32 b3)) (vI_32 _) ?_
        refine k_i2l hC dL_law_1017 (i32_r _) ?_
        refine k_lcmp_eq hC 1024 dL_law_1018 dL_law_1019 rfl (i32_l _) (i32_l _) (fun c_1018 => ?_) (fun c_1018 => absurd (congrArg i32 (show (crsV gc (xI xs (i + 1)).toNat (xI xs (i + 2)).toNat (xI xs (i + 3)) 1) = b3 from (gE_crsV hE hI (by omega) (by omega) _ _).trans q3.symm)) c_1018)
        refine k_goto hC 2319 dL_law_1024 rfl ?_
        refine k_lvs (ls := [2, 3, 4, 5, 6, 7]) [(5, vI (i : Int)), (4, .ref (kad G 149)), (3, .ref (kad G 148)), (2, .ref (kad G 133)), (1, .ref (kad G 0)), (0, .ref b)] rfl ?_
        have h_16 : w3 149 = dA G 1 oD := (hf3 149 (by decide)).trans ((hf2 149 (by decide)).trans ((hfP 149 (by decide)).trans o2))
        exact kk w3 fl _ _ (LI.rd hc hm hr hw hT (hCh1.fr (fun j q1 q2 => hf3 j (by omega))) hS3 hm3 ⟨rfl, rfl, rfl, rfl, rfl⟩ ⟨⟨_, h_15⟩, ⟨_, h_16⟩⟩ (fun j hj => (hf3 j (by omega)).trans ((hf2 j (by omega)).trans (hfP j (by omega))))) (by omega) (by omega)
      · exfalso; omega
      · exfalso; omega
    · subst hv
      obtain ⟨hfl, hP⟩ := hP
      subst hfl
      obtain ⟨hCh, hfP⟩ := hP
      have hCh1 := hCh
      have hSc1 : kScr G w1 := b5.fr (fun j q1 q2 => hfP j (by omega))
      show KW p l e R s m args below meth c 10 G Q w1 fl (cs + 8) (ss + 48) 956 [(5, vI (i : Int)), (4, .ref (kad G 149)), (3, .ref (kad G 148)), (2, .ref (kad G 133)), (1, .ref (kad G 0)), (0, .ref b)] [vI 1]
      refine k_istore hC [(6, vI 1), (5, vI (i : Int)), (4, .ref (kad G 149)), (3, .ref (kad G 148)), (2, .ref (kad G 133)), (1, .ref (kad G 0)), (0, .ref b)] dL_law_956 (by decide) rfl ?_
      refine k_aload_n hC dL_law_958 rfl 4 rfl ?_
      refine k_aload_n hC dL_law_959 rfl 6 rfl ?_
      refine k_iload hC dL_law_960 1 rfl ?_
      refine k_iconst hC dL_law_962 ?_
      refine k_iadd hC dL_law_963 ?_
      refine k_scr hC hX hbl hbA hL (i + 1) (by omega) (by omega) dL_law_964 ?_
      refine k_aload_n hC dL_law_965 rfl 6 rfl ?_
      refine k_iload hC dL_law_966 1 rfl ?_
      refine k_iconst hC dL_law_968 ?_
      refine k_iadd hC dL_law_969 ?_
      refine k_scr hC hX hbl hbA hL (i + 2) (by omega) (by omega) dL_law_970 ?_
      refine k_aload_n hC dL_law_971 rfl 6 rfl ?_
      refine k_iload hC dL_law_972 1 rfl ?_
      refine k_iconst hC dL_law_974 ?_
      refine k_iadd hC dL_law_975 ?_
      refine k_scr hC hX hbl hbA hL (i + 3) (by omega) (by omega) dL_law_976 ?_
      refine k_aload_n hC dL_law_977 rfl 6 rfl ?_
      refine k_iload hC dL_law_978 1 rfl ?_
      refine k_iconst hC dL_law_980 ?_
      refine k_iadd hC dL_law_981 ?_
      refine k_scr hC hX hbl hbA hL (i + 4) (by omega) (by omega) dL_law_982 ?_
      refine k_if_eq hC 990 dL_law_983 rfl (xI_r xs _) (fun c_983 => absurd c_983 hq) (fun c_983 => ?_)
      refine k_iconst hC dL_law_986 ?_
      refine k_goto hC 991 dL_law_987 rfl ?_
      have h_17 : w1 133 = mdO G u := (hfP 133 (by decide)).trans b0
      have h_18 : w1 134 = lA G 93 gr := (hfP 134 (by decide)).trans b1
      refine k_callV hC (c_X12_crossing l hls G hN w1 fl u gr (xI xs (i + 1)) (xI xs (i + 2)) (xI xs (i + 3)) 1 (xI_r xs _) (xI_r xs _) (xI_r xs _) (by decide) hIr h_17 h_18 hSc1) yy_X12_crossing wm_L_154 (kl hN (by decide)) h_17 rfl rfl rfl rfl (Nat.le_of_ble_eq_true rfl) (by omega) (by omega) ⟨by omega, by omega⟩ dL_law_991 (fun v3 w3 fl3 hp3 => ?_)
      obtain ⟨b3, th3, hv3, hfl3, hR3, hP3⟩ := hp3
      subst hv3
      subst hfl3
      obtain ⟨⟨fe, fn, hm3⟩, hS3, hf3⟩ := hP3
      rcases hR3 with ⟨q1, q2, q3⟩ | ⟨q1, q2⟩ | ⟨q1, q2⟩
      · exfalso; omega
      · subst q2
        show KW p l e R s m args below meth c 10 G Q w3 fl (cs + 8) (ss + 48) 994 [(6, vI 1), (5, vI (i : Int)), (4, .ref (kad G 149)), (3, .ref (kad G 148)), (2, .ref (kad G 133)), (1, .ref (kad G 0)), (0, .ref b)] [vI b3]
        refine k_istore hC [(7, vI b3), (6, vI 1), (5, vI (i : Int)), (4, .ref (kad G 149)), (3, .ref (kad G 148)), (2, .ref (kad G 133)), (1, .ref (kad G 0)), (0, .ref b)] dL_law_994 (by decide) rfl ?_
        refine k_aload_n hC dL_law_996 rfl 5 rfl ?_
        refine k_pureV hC (c_X12_thrown l hls G hN w3 fl (kup (kup (kup u 5 1) 12 fe) 13 fn) hm3) yy_X12_thrown wm_L_113 (kl hN (by decide)) hm3 rfl rfl rfl rfl (Nat.le_of_ble_eq_true rfl) (by omega) (by omega) ⟨by omega, by omega⟩ dL_law_997 ?_
        refine k_topv (vI 1) rfl ?_
        refine k_iload hC dL_law_1000 1 rfl ?_
        refine k_icmp_eq hC 1007 dL_law_1002 rfl (by omega) (by omega) (fun c_1002 => ?_) (fun c_1002 => absurd c_1002 (by omega))
        refine k_iload hC dL_law_1007 1 rfl ?_
        refine k_if_ne hC 1024 dL_law_1009 rfl (by omega) (fun c_1009 => ?_) (fun c_1009 => absurd c_1009 (by omega))
        refine k_goto hC 2319 dL_law_1024 rfl ?_
        refine k_lvs (ls := [2, 3, 4, 5, 6, 7]) [(5, vI (i : Int)), (4, .ref (kad G 149)), (3, .ref (kad G 148)), (2, .ref (kad G 133)), (1, .ref (kad G 0)), (0, .ref b)] rfl ?_
        have h_19 : w3 148 = lA G 1 out := (hf3 148 (by decide)).trans ((hfP 148 (by decide)).trans o1)
        have h_20 : w3 149 = dA G 1 oD := (hf3 149 (by decide)).trans ((hfP 149 (by decide)).trans o2)
        exact kk w3 fl _ _ (LI.rd hc hm hr hw hT (hCh1.fr (fun j q1 q2 => hf3 j (by omega))) hS3 hm3 ⟨rfl, rfl, rfl, rfl, rfl⟩ ⟨⟨_, h_19⟩, ⟨_, h_20⟩⟩ (fun j hj => (hf3 j (by omega)).trans (hfP j (by omega)))) (by omega) (by omega)
      · exfalso; omega
    · subst hv
      obtain ⟨hfl, hP⟩ := hP
      subst hfl
      obtain ⟨hCh, hfP⟩ := hP
      have hCh1 := hCh
      have hSc1 : kScr G w1 := b5.fr (fun j q1 q2 => hfP j (by omega))
      show KW p l e R s m args below meth c 10 G Q w1 fl (cs + 8) (ss + 48) 956 [(5, vI (i : Int)), (4, .ref (kad G 149)), (3, .ref (kad G 148)), (2, .ref (kad G 133)), (1, .ref (kad G 0)), (0, .ref b)] [vI 2]
      refine k_istore hC [(6, vI 2), (5, vI (i : Int)), (4, .ref (kad G 149)), (3, .ref (kad G 148)), (2, .ref (kad G 133)), (1, .ref (kad G 0)), (0, .ref b)] dL_law_956 (by decide) rfl ?_
      refine k_aload_n hC dL_law_958 rfl 4 rfl ?_
      refine k_aload_n hC dL_law_959 rfl 6 rfl ?_
      refine k_iload hC dL_law_960 1 rfl ?_
      refine k_iconst hC dL_law_962 ?_
      refine k_iadd hC dL_law_963 ?_
      refine k_scr hC hX hbl hbA hL (i + 1) (by omega) (by omega) dL_law_964 ?_
      refine k_aload_n hC dL_law_965 rfl 6 rfl ?_
      refine k_iload hC dL_law_966 1 rfl ?_
      refine k_iconst hC dL_law_968 ?_
      refine k_iadd hC dL_law_969 ?_
      refine k_scr hC hX hbl hbA hL (i + 2) (by omega) (by omega) dL_law_970 ?_
      refine k_aload_n hC dL_law_971 rfl 6 rfl ?_
      refine k_iload hC dL_law_972 1 rfl ?_
      refine k_iconst hC dL_law_974 ?_
      refine k_iadd hC dL_law_975 ?_
      refine k_scr hC hX hbl hbA hL (i + 3) (by omega) (by omega) dL_law_976 ?_
      refine k_aload_n hC dL_law_977 rfl 6 rfl ?_
      refine k_iload hC dL_law_978 1 rfl ?_
      refine k_iconst hC dL_law_980 ?_
      refine k_iadd hC dL_law_981 ?_
      refine k_scr hC hX hbl hbA hL (i + 4) (by omega) (by omega) dL_law_982 ?_
      refine k_if_eq hC 990 dL_law_983 rfl (xI_r xs _) (fun c_983 => absurd c_983 hq) (fun c_983 => ?_)
      refine k_iconst hC dL_law_986 ?_
      refine k_goto hC 991 dL_law_987 rfl ?_
      have h_21 : w1 133 = mdO G u := (hfP 133 (by decide)).trans b0
      have h_22 : w1 134 = lA G 93 gr := (hfP 134 (by decide)).trans b1
      refine k_callV hC (c_X12_crossing l hls G hN w1 fl u gr (xI xs (i + 1)) (xI xs (i + 2)) (xI xs (i + 3)) 1 (xI_r xs _) (xI_r xs _) (xI_r xs _) (by decide) hIr h_21 h_22 hSc1) yy_X12_crossing wm_L_154 (kl hN (by decide)) h_21 rfl rfl rfl rfl (Nat.le_of_ble_eq_true rfl) (by omega) (by omega) ⟨by omega, by omega⟩ dL_law_991 (fun v3 w3 fl3 hp3 => ?_)
      obtain ⟨b3, th3, hv3, hfl3, hR3, hP3⟩ := hp3
      subst hv3
      subst hfl3
      obtain ⟨⟨fe, fn, hm3⟩, hS3, hf3⟩ := hP3
      rcases hR3 with ⟨q1, q2, q3⟩ | ⟨q1, q2⟩ | ⟨q1, q2⟩
      · exfalso; omega
      · exfalso; omega
      · subst q2
        show KW p l e R s m args below meth c 10 G Q w3 fl (cs + 8) (ss + 48) 994 [(6, vI 2), (5, vI (i : Int)), (4, .ref (kad G 149)), (3, .ref (kad G 148)), (2, .ref (kad G 133)), (1, .ref (kad G 0)), (0, .ref b)] [vI b3]
        refine k_istore hC [(7, vI b3), (6, vI 2), (5, vI (i : Int)), (4, .ref (kad G 149)), (3, .ref (kad G 148)), (2, .ref (kad G 133)), (1, .ref (kad G 0)), (0, .ref b)] dL_law_994 (by decide) rfl ?_
        refine k_aload_n hC dL_law_996 rfl 5 rfl ?_
        refine k_pureV hC (c_X12_thrown l hls G hN w3 fl (kup (kup (kup u 5 2) 12 fe) 13 fn) hm3) yy_X12_thrown wm_L_113 (kl hN (by decide)) hm3 rfl rfl rfl rfl (Nat.le_of_ble_eq_true rfl) (by omega) (by omega) ⟨by omega, by omega⟩ dL_law_997 ?_
        refine k_topv (vI 2) rfl ?_
        refine k_iload hC dL_law_1000 1 rfl ?_
        refine k_icmp_eq hC 1007 dL_law_1002 rfl (by omega) (by omega) (fun c_1002 => ?_) (fun c_1002 => absurd c_1002 (by omega))
        refine k_iload hC dL_law_1007 1 rfl ?_
        refine k_if_ne hC 1024 dL_law_1009 rfl (by omega) (fun c_1009 => ?_) (fun c_1009 => absurd c_1009 (by omega))
        refine k_goto hC 2319 dL_law_1024 rfl ?_
        refine k_lvs (ls := [2, 3, 4, 5, 6, 7]) [(5, vI (i : Int)), (4, .ref (kad G 149)), (3, .ref (kad G 148)), (2, .ref (kad G 133)), (1, .ref (kad G 0)), (0, .ref b)] rfl ?_
        have h_23 : w3 148 = lA G 1 out := (hf3 148 (by decide)).trans ((hfP 148 (by decide)).trans o1)
        have h_24 : w3 149 = dA G 1 oD := (hf3 149 (by decide)).trans ((hfP 149 (by decide)).trans o2)
        exact kk w3 fl _ _ (LI.rd hc hm hr hw hT (hCh1.fr (fun j q1 q2 => hf3 j (by omega))) hS3 hm3 ⟨rfl, rfl, rfl, rfl, rfl⟩ ⟨⟨_, h_23⟩, ⟨_, h_24⟩⟩ (fun j hj => (hf3 j (by omega)).trans (hfP j (by omega)))) (by omega) (by omega)

set_option maxRecDepth 100000 in
set_option maxHeartbeats 4000000 in
theorem lw_hat {p : Program} {l : Launch} {e : Env} {R : Room} {s : State} {m : MethodId} {args : Array Value} {below : List Frame} {meth : Method} {c : Code} {G : kG} {d0 mc0 ms0 : Nat} {Q : State → Prop} {b L : Nat} {xs : Nat → Int32} (hC : kC p l R s m args meth c cL_law RL 10 G d0 mc0 ms0) (hls : l.stackTraces = false) (hN : kN G = 150) (hNc : va_Nc "java/lang/IllegalArgumentException" "java/util/NoSuchElementException" s) (hX : va_X b L xs s s.heap) (hbl : b < s.heap.size) (hbA : ¬ kA G b) (hL : L ≤ 3584) (hd0 : 60 ≤ d0) {cs ss : Nat} (hcs : cs + 16 ≤ mc0 ∧ ss + 400 ≤ ms0) (i : Nat) (hi : i + 7 ≤ L) (w : Nat → va_E) (fl : va_W) (hLI : LI G w fl)
    (kk : ∀ (w' : Nat → va_E) (fl' : va_W) (cs' ss' : Nat), LI G w' fl' → cs' ≤ cs + 16 → ss' ≤ ss + 400 → KW p l e R s m args below meth c 10 G Q w' fl' cs' ss' 2319 [(5, vI (i : Int)), (4, .ref (kad G 149)), (3, .ref (kad G 148)), (2, .ref (kad G 133)), (1, .ref (kad G 0)), (0, .ref b)] []) : KW p l e R s m args below meth c 10 G Q w fl cs ss 1027 [(5, vI (i : Int)), (4, .ref (kad G 149)), (3, .ref (kad G 148)), (2, .ref (kad G 133)), (1, .ref (kad G 0)), (0, .ref b)] [] := by
  obtain ⟨bt, gc, nl, gp0, nl9, gl0, gs, c0, nx, cn, cap, cd, ea, kd, nm, sa, nx9, en, sv, hs, T, u, gr, D0, sp, H, hc, hm, ho, hr, hw, hT⟩ := hLI
  have hc1 := hc
  have hm1 := hm
  have hr1 := hr
  have ho1 := ho
  obtain ⟨⟨a0, asv⟩, a1, ⟨a2, abt, ac7⟩, a3, a4, a5, a6, ⟨a7, anx, acn⟩, ⟨a8, a9, a10⟩, ⟨a11, a12, a13⟩, a14⟩ := hc1
  obtain ⟨b0, b1, b2, b3, b4, b5, b6, b7, ⟨cf, b8⟩, ⟨fq, b9⟩⟩ := hm1
  obtain ⟨⟨out, o1⟩, ⟨oD, o2⟩⟩ := ho1
  obtain ⟨r0, r1, r2, r3, r4, r5, r6⟩ := hr1
  have hI := r0.inv
  have hIr := r0.2.1
  have hE := r0.1
  have e0 := hE.n 0 (by decide)
  have e1 := hE.n 1 (by decide)
  have e2 := hE.n 2 (by decide)
  have hgc := hI.c
  refine k_aload_n hC dL_law_1027 rfl 4 rfl ?_
  refine k_aload_n hC dL_law_1028 rfl 5 rfl ?_
  refine k_iload hC dL_law_1029 0 rfl ?_
  refine k_iconst hC dL_law_1031 ?_
  refine k_iadd hC dL_law_1032 ?_
  refine k_scr hC hX hbl hbA hL (i + 1) (by omega) (by omega) dL_law_1033 ?_
  refine k_aload_n hC dL_law_1034 rfl 5 rfl ?_
  refine k_iload hC dL_law_1035 0 rfl ?_
  refine k_iconst hC dL_law_1037 ?_
  refine k_iadd hC dL_law_1038 ?_
  refine k_scr hC hX hbl hbA hL (i + 2) (by omega) (by omega) dL_law_1039 ?_
  refine k_aload_n hC dL_law_1040 rfl 5 rfl ?_
  refine k_iload hC dL_law_1041 0 rfl ?_
  refine k_iconst hC dL_law_1043 ?_
  refine k_iadd hC dL_law_1044 ?_
  refine k_scr hC hX hbl hbA hL (i + 3) (by omega) (by omega) dL_law_1045 ?_
  refine k_aload_n hC dL_law_1046 rfl 5 rfl ?_
  refine k_iload hC dL_law_1047 0 rfl ?_
  refine k_iconst hC dL_law_1049 ?_
  refine k_iadd hC dL_law_1050 ?_
  refine k_scr hC hX hbl hbA hL (i + 4) (by omega) (by omega) dL_law_1051 ?_
  refine k_aload_n hC dL_law_1052 rfl 5 rfl ?_
  refine k_iload hC dL_law_1053 0 rfl ?_
  refine k_iconst hC dL_law_1055 ?_
  refine k_iadd hC dL_law_1056 ?_
  refine k_scr hC hX hbl hbA hL (i + 5) (by omega) (by omega) dL_law_1057 ?_
  refine k_aload_n hC dL_law_1058 rfl 2 rfl ?_
  refine k_callL hC hNc (n := 7) (c_L_hat l hls G hN w fl gc nl sv (xI xs (i + 1)) (xI xs (i + 2)) (xI xs (i + 3)) (xI xs (i + 4)) (xI xs (i + 5)) out (xI_r xs _) (xI_r xs _) (xI_r xs _) (xI_r xs _) (xI_r xs _) hI a0 a3 a4 a5 o1) wc_L_hat wz_L (by decide +kernel) wt_L_hat wm_L_155 rfl rfl (Nat.le_of_ble_eq_true rfl) (by omega) (by omega) ⟨by omega, by omega⟩ dL_law_1059 (fun v1 w1 fl1 hp => ?_)
  rcases hp with ⟨hv, hcc, w2, hP, h148, hf2⟩ | ⟨hP, ⟨hcc, hv⟩ | ⟨hcc, hv⟩⟩
  · subst hv
    obtain ⟨hfl, hP⟩ := hP
    subst hfl
    obtain ⟨hCh, hfP⟩ := hP
    have hCh1 : kCht G w1 := hCh.fr (fun j q1 q2 => hf2 j (by omega))
    have hSc1 : kScr G w1 := b5.fr (fun j q1 q2 => (hf2 j (by omega)).trans (hfP j (by omega)))
    show KW p l e R s m args below meth c 10 G Q w1 fl (cs + 8) (ss + 48) 1062 [(5, vI (i : Int)), (4, .ref (kad G 149)), (3, .ref (kad G 148)), (2, .ref (kad G 133)), (1, .ref (kad G 0)), (0, .ref b)] [vI 0]
    refine k_istore hC [(6, vI 0), (5, vI (i : Int)), (4, .ref (kad G 149)), (3, .ref (kad G 148)), (2, .ref (kad G 133)), (1, .ref (kad G 0)), (0, .ref b)] dL_law_1062 (by decide) rfl ?_
    refine k_aload_n hC dL_law_1064 rfl 4 rfl ?_
    refine k_aload_n hC dL_law_1065 rfl 6 rfl ?_
    refine k_iload hC dL_law_1066 1 rfl ?_
    refine k_iconst hC dL_law_1068 ?_
    refine k_iadd hC dL_law_1069 ?_
    refine k_scr hC hX hbl hbA hL (i + 1) (by omega) (by omega) dL_law_1070 ?_
    refine k_aload_n hC dL_law_1071 rfl 6 rfl ?_
    refine k_iload hC dL_law_1072 1 rfl ?_
    refine k_iconst hC dL_law_1074 ?_
    refine k_iadd hC dL_law_1075 ?_
    refine k_scr hC hX hbl hbA hL (i + 2) (by omega) (by omega) dL_law_1076 ?_
    refine k_aload_n hC dL_law_1077 rfl 6 rfl ?_
    refine k_iload hC dL_law_1078 1 rfl ?_
    refine k_iconst hC dL_law_1080 ?_
    refine k_iadd hC dL_law_1081 ?_
    refine k_scr hC hX hbl hbA hL (i + 3) (by omega) (by omega) dL_law_1082 ?_
    refine k_aload_n hC dL_law_1083 rfl 6 rfl ?_
    refine k_iload hC dL_law_1084 1 rfl ?_
    refine k_iconst hC dL_law_1086 ?_
    refine k_iadd hC dL_law_1087 ?_
    refine k_scr hC hX hbl hbA hL (i + 4) (by omega) (by omega) dL_law_1088 ?_
    refine k_aload_n hC dL_law_1089 rfl 6 rfl ?_
    refine k_iload hC dL_law_1090 1 rfl ?_
    refine k_iconst hC dL_law_1092 ?_
    refine k_iadd hC dL_law_1093 ?_
    refine k_scr hC hX hbl hbA hL (i + 5) (by omega) (by omega) dL_law_1094 ?_
    have h_1 : w1 133 = mdO G u := (hf2 133 (by decide)).trans ((hfP 133 (by decide)).trans b0)
    have h_2 : w1 134 = lA G 93 gr := (hf2 134 (by decide)).trans ((hfP 134 (by decide)).trans b1)
    refine k_callV hC (c_X12_hat l hls G hN w1 fl u gr (xI xs (i + 1)) (xI xs (i + 2)) (xI xs (i + 3)) (xI xs (i + 4)) (xI xs (i + 5)) (xI_r xs _) (xI_r xs _) (xI_r xs _) (xI_r xs _) (xI_r xs _) hIr h_1 h_2 hSc1) yy_X12_hat wm_L_158 (kl hN (by decide)) h_1 rfl rfl rfl rfl (Nat.le_of_ble_eq_true rfl) (by omega) (by omega) ⟨by omega, by omega⟩ dL_law_1095 (fun v3 w3 fl3 hp3 => ?_)
    obtain ⟨b3, th3, hv3, hfl3, hR3, hP3⟩ := hp3
    subst hv3
    subst hfl3
    obtain ⟨⟨fe, fn, hm3⟩, hS3, hf3⟩ := hP3
    rcases hR3 with ⟨q1, q2, q3⟩ | ⟨q1, q2⟩ | ⟨q1, q2⟩
    · subst q2
      show KW p l e R s m args below meth c 10 G Q w3 fl (cs + 8) (ss + 48) 1098 [(6, vI 0), (5, vI (i : Int)), (4, .ref (kad G 149)), (3, .ref (kad G 148)), (2, .ref (kad G 133)), (1, .ref (kad G 0)), (0, .ref b)] [vI b3]
      refine k_istore hC [(7, vI b3), (6, vI 0), (5, vI (i : Int)), (4, .ref (kad G 149)), (3, .ref (kad G 148)), (2, .ref (kad G 133)), (1, .ref (kad G 0)), (0, .ref b)] dL_law_1098 (by decide) rfl ?_
      refine k_aload_n hC dL_law_1100 rfl 5 rfl ?_
      refine k_pureV hC (c_X12_thrown l hls G hN w3 fl (kup (kup (kup u 5 0) 12 fe) 13 fn) hm3) yy_X12_thrown wm_L_113 (kl hN (by decide)) hm3 rfl rfl rfl rfl (Nat.le_of_ble_eq_true rfl) (by omega) (by omega) ⟨by omega, by omega⟩ dL_law_1101 ?_
      refine k_topv (vI 0) rfl ?_
      refine k_iload hC dL_law_1104 1 rfl ?_
      refine k_icmp_eq hC 1111 dL_law_1106 rfl (by omega) (by omega) (fun c_1106 => ?_) (fun c_1106 => absurd c_1106 (by omega))
      refine k_iload hC dL_law_1111 1 rfl ?_
      refine k_if_ne hC 1128 dL_law_1113 rfl (by omega) (fun c_1113 => absurd c_1113 (by omega)) (fun c_1113 => ?_)
      refine k_aload_n hC dL_law_1116 rfl 4 rfl ?_
      refine k_iconst hC dL_law_1117 ?_
      have h_3 : w3 148 = lA G 1 (fun _ => i32 (hatV gc (xI xs (i + 1)).toNat (xI xs (i + 2)).toNat (xI xs (i + 3)).toNat (xI xs (i + 4)) (xI xs (i + 5)))) := (hf3 148 (by decide)).trans h148
      refine k_lald hC (kl hN (by decide)) h_3 (by omega) (by decide) dL_law_1118 ?_
      refine k_topv (vL (i32 (hatV gc (xI xs (i + 1)).toNat (xI xs (i + 2)).toNat (xI xs (i + 3)).toNat (xI xs (i + 4)) (xI xs (i + 5))))) rfl ?_
      refine k_iload hC dL_law_1119 0 rfl ?_
      refine k_topv (vI (i32 b3)) (vI_32 _) ?_
      refine k_i2l hC dL_law_1121 (i32_r _) ?_
      refine k_lcmp_eq hC 1128 dL_law_1122 dL_law_1123 rfl (i32_l _) (i32_l _) (fun c_1122 => ?_) (fun c_1122 => absurd (congrArg i32 (show (hatV gc (xI xs (i + 1)).toNat (xI xs (i + 2)).toNat (xI xs (i + 3)).toNat (xI xs (i + 4)) (xI xs (i + 5))) = b3 from (gE_hatV hE hI (by omega) (by omega) (by omega) _ _).trans q3.symm)) c_1122)
      refine k_goto hC 2319 dL_law_1128 rfl ?_
      refine k_lvs (ls := [2, 3, 4, 5, 6, 7]) [(5, vI (i : Int)), (4, .ref (kad G 149)), (3, .ref (kad G 148)), (2, .ref (kad G 133)), (1, .ref (kad G 0)), (0, .ref b)] rfl ?_
      have h_4 : w3 149 = dA G 1 oD := (hf3 149 (by decide)).trans ((hf2 149 (by decide)).trans ((hfP 149 (by decide)).trans o2))
      exact kk w3 fl _ _ (LI.rd hc hm hr hw hT (hCh1.fr (fun j q1 q2 => hf3 j (by omega))) hS3 hm3 ⟨rfl, rfl, rfl, rfl, rfl⟩ ⟨⟨_, h_3⟩, ⟨_, h_4⟩⟩ (fun j hj => (hf3 j (by omega)).trans ((hf2 j (by omega)).trans (hfP j (by omega))))) (by omega) (by omega)
    · exfalso; omega
    · exfalso; omega
  · subst hv
    obtain ⟨hfl, hP⟩ := hP
    subst hfl
    obtain ⟨hCh, hfP⟩ := hP
    have hCh1 := hCh
    have hSc1 : kScr G w1 := b5.fr (fun j q1 q2 => hfP j (by omega))
    show KW p l e R s m args below meth c 10 G Q w1 fl (cs + 8) (ss + 48) 1062 [(5, vI (i : Int)), (4, .ref (kad G 149)), (3, .ref (kad G 148)), (2, .ref (kad G 133)), (1, .ref (kad G 0)), (0, .ref b)] [vI 1]
    refine k_istore hC [(6, vI 1), (5, vI (i : Int)), (4, .ref (kad G 149)), (3, .ref (kad G 148)), (2, .ref (kad G 133)), (1, .ref (kad G 0)), (0, .ref b)] dL_law_1062 (by decide) rfl ?_
    refine k_aload_n hC dL_law_1064 rfl 4 rfl ?_
    refine k_aload_n hC dL_law_1065 rfl 6 rfl ?_
    refine k_iload hC dL_law_1066 1 rfl ?_
    refine k_iconst hC dL_law_1068 ?_
    refine k_iadd hC dL_law_1069 ?_
    refine k_scr hC hX hbl hbA hL (i + 1) (by omega) (by omega) dL_law_1070 ?_
    refine k_aload_n hC dL_law_1071 rfl 6 rfl ?_
    refine k_iload hC dL_law_1072 1 rfl ?_
    refine k_iconst hC dL_law_1074 ?_
    refine k_iadd hC dL_law_1075 ?_
    refine k_scr hC hX hbl hbA hL (i + 2) (by omega) (by omega) dL_law_1076 ?_
    refine k_aload_n hC dL_law_1077 rfl 6 rfl ?_
    refine k_iload hC dL_law_1078 1 rfl ?_
    refine k_iconst hC dL_law_1080 ?_
    refine k_iadd hC dL_law_1081 ?_
    refine k_scr hC hX hbl hbA hL (i + 3) (by omega) (by omega) dL_law_1082 ?_
    refine k_aload_n hC dL_law_1083 rfl 6 rfl ?_
    refine k_iload hC dL_law_1084 1 rfl ?_
    refine k_iconst hC dL_law_1086 ?_
    refine k_iadd hC dL_law_1087 ?_
    refine k_scr hC hX hbl hbA hL (i + 4) (by omega) (by omega) dL_law_1088 ?_
    refine k_aload_n hC dL_law_1089 rfl 6 rfl ?_
    refine k_iload hC dL_law_1090 1 rfl ?_
    refine k_iconst hC dL_law_1092 ?_
    refine k_iadd hC dL_law_1093 ?_
    refine k_scr hC hX hbl hbA hL (i + 5) (by omega) (by omega) dL_law_1094 ?_
    have h_5 : w1 133 = mdO G u := (hfP 133 (by decide)).trans b0
    have h_6 : w1 134 = lA G 93 gr := (hfP 134 (by decide)).trans b1
    refine k_callV hC (c_X12_hat l hls G hN w1 fl u gr (xI xs (i + 1)) (xI xs (i + 2)) (xI xs (i + 3)) (xI xs (i + 4)) (xI xs (i + 5)) (xI_r xs _) (xI_r xs _) (xI_r xs _) (xI_r xs _) (xI_r xs _) hIr h_5 h_6 hSc1) yy_X12_hat wm_L_158 (kl hN (by decide)) h_5 rfl rfl rfl rfl (Nat.le_of_ble_eq_true rfl) (by omega) (by omega) ⟨by omega, by omega⟩ dL_law_1095 (fun v3 w3 fl3 hp3 => ?_)
    obtain ⟨b3, th3, hv3, hfl3, hR3, hP3⟩ := hp3
    subst hv3
    subst hfl3
    obtain ⟨⟨fe, fn, hm3⟩, hS3, hf3⟩ := hP3
    rcases hR3 with ⟨q1, q2, q3⟩ | ⟨q1, q2⟩ | ⟨q1, q2⟩
    · exfalso; omega
    · subst q2
      show KW p l e R s m args below meth c 10 G Q w3 fl (cs + 8) (ss + 48) 1098 [(6, vI 1), (5, vI (i : Int)), (4, .ref (kad G 149)), (3, .ref (kad G 148)), (2, .ref (kad G 133)), (1, .ref (kad G 0)), (0, .ref b)] [vI b3]
      refine k_istore hC [(7, vI b3), (6, vI 1), (5, vI (i : Int)), (4, .ref (kad G 149)), (3, .ref (kad G 148)), (2, .ref (kad G 133)), (1, .ref (kad G 0)), (0, .ref b)] dL_law_1098 (by decide) rfl ?_
      refine k_aload_n hC dL_law_1100 rfl 5 rfl ?_
      refine k_pureV hC (c_X12_thrown l hls G hN w3 fl (kup (kup (kup u 5 1) 12 fe) 13 fn) hm3) yy_X12_thrown wm_L_113 (kl hN (by decide)) hm3 rfl rfl rfl rfl (Nat.le_of_ble_eq_true rfl) (by omega) (by omega) ⟨by omega, by omega⟩ dL_law_1101 ?_
      refine k_topv (vI 1) rfl ?_
      refine k_iload hC dL_law_1104 1 rfl ?_
      refine k_icmp_eq hC 1111 dL_law_1106 rfl (by omega) (by omega) (fun c_1106 => ?_) (fun c_1106 => absurd c_1106 (by omega))
      refine k_iload hC dL_law_1111 1 rfl ?_
      refine k_if_ne hC 1128 dL_law_1113 rfl (by omega) (fun c_1113 => ?_) (fun c_1113 => absurd c_1113 (by omega))
      refine k_goto hC 2319 dL_law_1128 rfl ?_
      refine k_lvs (ls := [2, 3, 4, 5, 6, 7]) [(5, vI (i : Int)), (4, .ref (kad G 149)), (3, .ref (kad G 148)), (2, .ref (kad G 133)), (1, .ref (kad G 0)), (0, .ref b)] rfl ?_
      have h_7 : w3 148 = lA G 1 out := (hf3 148 (by decide)).trans ((hfP 148 (by decide)).trans o1)
      have h_8 : w3 149 = dA G 1 oD := (hf3 149 (by decide)).trans ((hfP 149 (by decide)).trans o2)
      exact kk w3 fl _ _ (LI.rd hc hm hr hw hT (hCh1.fr (fun j q1 q2 => hf3 j (by omega))) hS3 hm3 ⟨rfl, rfl, rfl, rfl, rfl⟩ ⟨⟨_, h_7⟩, ⟨_, h_8⟩⟩ (fun j hj => (hf3 j (by omega)).trans (hfP j (by omega)))) (by omega) (by omega)
    · exfalso; omega
  · subst hv
    obtain ⟨hfl, hP⟩ := hP
    subst hfl
    obtain ⟨hCh, hfP⟩ := hP
    have hCh1 := hCh
    have hSc1 : kScr G w1 := b5.fr (fun j q1 q2 => hfP j (by omega))
    show KW p l e R s m args below meth c 10 G Q w1 fl (cs + 8) (ss + 48) 1062 [(5, vI (i : Int)), (4, .ref (kad G 149)), (3, .ref (kad G 148)), (2, .ref (kad G 133)), (1, .ref (kad G 0)), (0, .ref b)] [vI 2]
    refine k_istore hC [(6, vI 2), (5, vI (i : Int)), (4, .ref (kad G 149)), (3, .ref (kad G 148)), (2, .ref (kad G 133)), (1, .ref (kad G 0)), (0, .ref b)] dL_law_1062 (by decide) rfl ?_
    refine k_aload_n hC dL_law_1064 rfl 4 rfl ?_
    refine k_aload_n hC dL_law_1065 rfl 6 rfl ?_
    refine k_iload hC dL_law_1066 1 rfl ?_
    refine k_iconst hC dL_law_1068 ?_
    refine k_iadd hC dL_law_1069 ?_
    refine k_scr hC hX hbl hbA hL (i + 1) (by omega) (by omega) dL_law_1070 ?_
    refine k_aload_n hC dL_law_1071 rfl 6 rfl ?_
    refine k_iload hC dL_law_1072 1 rfl ?_
    refine k_iconst hC dL_law_1074 ?_
    refine k_iadd hC dL_law_1075 ?_
    refine k_scr hC hX hbl hbA hL (i + 2) (by omega) (by omega) dL_law_1076 ?_
    refine k_aload_n hC dL_law_1077 rfl 6 rfl ?_
    refine k_iload hC dL_law_1078 1 rfl ?_
    refine k_iconst hC dL_law_1080 ?_
    refine k_iadd hC dL_law_1081 ?_
    refine k_scr hC hX hbl hbA hL (i + 3) (by omega) (by omega) dL_law_1082 ?_
    refine k_aload_n hC dL_law_1083 rfl 6 rfl ?_
    refine k_iload hC dL_law_1084 1 rfl ?_
    refine k_iconst hC dL_law_1086 ?_
    refine k_iadd hC dL_law_1087 ?_
    refine k_scr hC hX hbl hbA hL (i + 4) (by omega) (by omega) dL_law_1088 ?_
    refine k_aload_n hC dL_law_1089 rfl 6 rfl ?_
    refine k_iload hC dL_law_1090 1 rfl ?_
    refine k_iconst hC dL_law_1092 ?_
    refine k_iadd hC dL_law_1093 ?_
    refine k_scr hC hX hbl hbA hL (i + 5) (by omega) (by omega) dL_law_1094 ?_
    have h_9 : w1 133 = mdO G u := (hfP 133 (by decide)).trans b0
    have h_10 : w1 134 = lA G 93 gr := (hfP 134 (by decide)).trans b1
    refine k_callV hC (c_X12_hat l hls G hN w1 fl u gr (xI xs (i + 1)) (xI xs (i + 2)) (xI xs (i + 3)) (xI xs (i + 4)) (xI xs (i + 5)) (xI_r xs _) (xI_r xs _) (xI_r xs _) (xI_r xs _) (xI_r xs _) hIr h_9 h_10 hSc1) yy_X12_hat wm_L_158 (kl hN (by decide)) h_9 rfl rfl rfl rfl (Nat.le_of_ble_eq_true rfl) (by omega) (by omega) ⟨by omega, by omega⟩ dL_law_1095 (fun v3 w3 fl3 hp3 => ?_)
    obtain ⟨b3, th3, hv3, hfl3, hR3, hP3⟩ := hp3
    subst hv3
    subst hfl3
    obtain ⟨⟨fe, fn, hm3⟩, hS3, hf3⟩ := hP3
    rcases hR3 with ⟨q1, q2, q3⟩ | ⟨q1, q2⟩ | ⟨q1, q2⟩
    · exfalso; omega
    · exfalso; omega
    · subst q2
      show KW p l e R s m args below meth c 10 G Q w3 fl (cs + 8) (ss + 48) 1098 [(6, vI 2), (5, vI (i : Int)), (4, .ref (kad G 149)), (3, .ref (kad G 148)), (2, .ref (kad G 133)), (1, .ref (kad G 0)), (0, .ref b)] [vI b3]
      refine k_istore hC [(7, vI b3), (6, vI 2), (5, vI (i : Int)), (4, .ref (kad G 149)), (3, .ref (kad G 148)), (2, .ref (kad G 133)), (1, .ref (kad G 0)), (0, .ref b)] dL_law_1098 (by decide) rfl ?_
      refine k_aload_n hC dL_law_1100 rfl 5 rfl ?_
      refine k_pureV hC (c_X12_thrown l hls G hN w3 fl (kup (kup (kup u 5 2) 12 fe) 13 fn) hm3) yy_X12_thrown wm_L_113 (kl hN (by decide)) hm3 rfl rfl rfl rfl (Nat.le_of_ble_eq_true rfl) (by omega) (by omega) ⟨by omega, by omega⟩ dL_law_1101 ?_
      refine k_topv (vI 2) rfl ?_
      refine k_iload hC dL_law_1104 1 rfl ?_
      refine k_icmp_eq hC 1111 dL_law_1106 rfl (by omega) (by omega) (fun c_1106 => ?_) (fun c_1106 => absurd c_1106 (by omega))
      refine k_iload hC dL_law_1111 1 rfl ?_
      refine k_if_ne hC 1128 dL_law_1113 rfl (by omega) (fun c_1113 => ?_) (fun c_1113 => absurd c_1113 (by omega))
      refine k_goto hC 2319 dL_law_1128 rfl ?_
      refine k_lvs (ls := [2, 3, 4, 5, 6, 7]) [(5, vI (i : Int)), (4, .ref (kad G 149)), (3, .ref (kad G 148)), (2, .ref (kad G 133)), (1, .ref (kad G 0)), (0, .ref b)] rfl ?_
      have h_11 : w3 148 = lA G 1 out := (hf3 148 (by decide)).trans ((hfP 148 (by decide)).trans o1)
      have h_12 : w3 149 = dA G 1 oD := (hf3 149 (by decide)).trans ((hfP 149 (by decide)).trans o2)
      exact kk w3 fl _ _ (LI.rd hc hm hr hw hT (hCh1.fr (fun j q1 q2 => hf3 j (by omega))) hS3 hm3 ⟨rfl, rfl, rfl, rfl, rfl⟩ ⟨⟨_, h_11⟩, ⟨_, h_12⟩⟩ (fun j hj => (hf3 j (by omega)).trans (hfP j (by omega)))) (by omega) (by omega)

set_option maxRecDepth 100000 in
set_option maxHeartbeats 4000000 in
theorem lw_smallestHat {p : Program} {l : Launch} {e : Env} {R : Room} {s : State} {m : MethodId} {args : Array Value} {below : List Frame} {meth : Method} {c : Code} {G : kG} {d0 mc0 ms0 : Nat} {Q : State → Prop} {b L : Nat} {xs : Nat → Int32} (hC : kC p l R s m args meth c cL_law RL 10 G d0 mc0 ms0) (hls : l.stackTraces = false) (hN : kN G = 150) (hNc : va_Nc "java/lang/IllegalArgumentException" "java/util/NoSuchElementException" s) (hX : va_X b L xs s s.heap) (hbl : b < s.heap.size) (hbA : ¬ kA G b) (hL : L ≤ 3584) (hd0 : 60 ≤ d0) {cs ss : Nat} (hcs : cs + 16 ≤ mc0 ∧ ss + 400 ≤ ms0) (i : Nat) (hi : i + 7 ≤ L) (w : Nat → va_E) (fl : va_W) (hLI : LI G w fl)
    (kk : ∀ (w' : Nat → va_E) (fl' : va_W) (cs' ss' : Nat), LI G w' fl' → cs' ≤ cs + 16 → ss' ≤ ss + 400 → KW p l e R s m args below meth c 10 G Q w' fl' cs' ss' 2319 [(5, vI (i : Int)), (4, .ref (kad G 149)), (3, .ref (kad G 148)), (2, .ref (kad G 133)), (1, .ref (kad G 0)), (0, .ref b)] []) : KW p l e R s m args below meth c 10 G Q w fl cs ss 1131 [(5, vI (i : Int)), (4, .ref (kad G 149)), (3, .ref (kad G 148)), (2, .ref (kad G 133)), (1, .ref (kad G 0)), (0, .ref b)] [] := by
  obtain ⟨bt, gc, nl, gp0, nl9, gl0, gs, c0, nx, cn, cap, cd, ea, kd, nm, sa, nx9, en, sv, hs, T, u, gr, D0, sp, H, hc, hm, ho, hr, hw, hT⟩ := hLI
  have hc1 := hc
  have hm1 := hm
  have hr1 := hr
  have ho1 := ho
  obtain ⟨⟨a0, asv⟩, a1, ⟨a2, abt, ac7⟩, a3, a4, a5, a6, ⟨a7, anx, acn⟩, ⟨a8, a9, a10⟩, ⟨a11, a12, a13⟩, a14⟩ := hc1
  obtain ⟨b0, b1, b2, b3, b4, b5, b6, b7, ⟨cf, b8⟩, ⟨fq, b9⟩⟩ := hm1
  obtain ⟨⟨out, o1⟩, ⟨oD, o2⟩⟩ := ho1
  obtain ⟨r0, r1, r2, r3, r4, r5, r6⟩ := hr1
  have hI := r0.inv
  have hIr := r0.2.1
  have hE := r0.1
  have e0 := hE.n 0 (by decide)
  have e1 := hE.n 1 (by decide)
  have e2 := hE.n 2 (by decide)
  have hgc := hI.c
  refine k_aload_n hC dL_law_1131 rfl 4 rfl ?_
  refine k_aload_n hC dL_law_1132 rfl 5 rfl ?_
  refine k_iload hC dL_law_1133 0 rfl ?_
  refine k_iconst hC dL_law_1135 ?_
  refine k_iadd hC dL_law_1136 ?_
  refine k_scr hC hX hbl hbA hL (i + 1) (by omega) (by omega) dL_law_1137 ?_
  refine k_aload_n hC dL_law_1138 rfl 2 rfl ?_
  refine k_callL hC hNc (n := 3) (c_L_smallestHat l hls G hN w fl gc nl sv (xI xs (i + 1)) out (xI_r xs _) hI a0 a3 a4 a5 o1) wc_L_smallestHat wz_L (by decide +kernel) wt_L_smallestHat wm_L_159 rfl rfl (Nat.le_of_ble_eq_true rfl) (by omega) (by omega) ⟨by omega, by omega⟩ dL_law_1139 (fun v1 w1 fl1 hp => ?_)
  rcases hp with ⟨hv, hcc, w2, hP, h148, hf2⟩ | ⟨hP, ⟨hcc, hv⟩ | ⟨hcc, hv⟩⟩
  · subst hv
    obtain ⟨hfl, hP⟩ := hP
    subst hfl
    obtain ⟨hCh, hfP⟩ := hP
    have hCh1 : kCht G w1 := hCh.fr (fun j q1 q2 => hf2 j (by omega))
    have hSc1 : kScr G w1 := b5.fr (fun j q1 q2 => (hf2 j (by omega)).trans (hfP j (by omega)))
    show KW p l e R s m args below meth c 10 G Q w1 fl (cs + 8) (ss + 48) 1142 [(5, vI (i : Int)), (4, .ref (kad G 149)), (3, .ref (kad G 148)), (2, .ref (kad G 133)), (1, .ref (kad G 0)), (0, .ref b)] [vI 0]
    refine k_istore hC [(6, vI 0), (5, vI (i : Int)), (4, .ref (kad G 149)), (3, .ref (kad G 148)), (2, .ref (kad G 133)), (1, .ref (kad G 0)), (0, .ref b)] dL_law_1142 (by decide) rfl ?_
    refine k_aload_n hC dL_law_1144 rfl 4 rfl ?_
    refine k_aload_n hC dL_law_1145 rfl 6 rfl ?_
    refine k_iload hC dL_law_1146 1 rfl ?_
    refine k_iconst hC dL_law_1148 ?_
    refine k_iadd hC dL_law_1149 ?_
    refine k_scr hC hX hbl hbA hL (i + 1) (by omega) (by omega) dL_law_1150 ?_
    have h_1 : w1 133 = mdO G u := (hf2 133 (by decide)).trans ((hfP 133 (by decide)).trans b0)
    have h_2 : w1 134 = lA G 93 gr := (hf2 134 (by decide)).trans ((hfP 134 (by decide)).trans b1)
    refine k_callV hC (c_X12_smallestHat l hls G hN w1 fl u gr (xI xs (i + 1)) (xI_r xs _) hIr h_1 h_2 hSc1) yy_X12_smallestHat wm_L_161 (kl hN (by decide)) h_1 rfl rfl rfl rfl (Nat.le_of_ble_eq_true rfl) (by omega) (by omega) ⟨by omega, by omega⟩ dL_law_1151 (fun v3 w3 fl3 hp3 => ?_)
    obtain ⟨b3, th3, hv3, hfl3, hR3, hP3⟩ := hp3
    subst hv3
    subst hfl3
    obtain ⟨⟨fe, fn, hm3⟩, hS3, hf3⟩ := hP3
    rcases hR3 with ⟨q1, q2, q3⟩ | ⟨q1, q2⟩ | ⟨q1, q2⟩
    · subst q2
      show KW p l e R s m args below meth c 10 G Q w3 fl (cs + 8) (ss + 48) 1154 [(6, vI 0), (5, vI (i : Int)), (4, .ref (kad G 149)), (3, .ref (kad G 148)), (2, .ref (kad G 133)), (1, .ref (kad G 0)), (0, .ref b)] [vI b3]
      refine k_istore hC [(7, vI b3), (6, vI 0), (5, vI (i : Int)), (4, .ref (kad G 149)), (3, .ref (kad G 148)), (2, .ref (kad G 133)), (1, .ref (kad G 0)), (0, .ref b)] dL_law_1154 (by decide) rfl ?_
      refine k_aload_n hC dL_law_1156 rfl 5 rfl ?_
      refine k_pureV hC (c_X12_thrown l hls G hN w3 fl (kup (kup (kup u 5 0) 12 fe) 13 fn) hm3) yy_X12_thrown wm_L_113 (kl hN (by decide)) hm3 rfl rfl rfl rfl (Nat.le_of_ble_eq_true rfl) (by omega) (by omega) ⟨by omega, by omega⟩ dL_law_1157 ?_
      refine k_topv (vI 0) rfl ?_
      refine k_iload hC dL_law_1160 1 rfl ?_
      refine k_icmp_eq hC 1167 dL_law_1162 rfl (by omega) (by omega) (fun c_1162 => ?_) (fun c_1162 => absurd c_1162 (by omega))
      refine k_iload hC dL_law_1167 1 rfl ?_
      refine k_if_ne hC 1184 dL_law_1169 rfl (by omega) (fun c_1169 => absurd c_1169 (by omega)) (fun c_1169 => ?_)
      refine k_aload_n hC dL_law_1172 rfl 4 rfl ?_
      refine k_iconst hC dL_law_1173 ?_
      have h_3 : w3 148 = lA G 1 (fun _ => i32 (leastM gc (xI xs (i + 1)))) := (hf3 148 (by decide)).trans h148
      refine k_lald hC (kl hN (by decide)) h_3 (by omega) (by decide) dL_law_1174 ?_
      refine k_topv (vL (i32 (leastM gc (xI xs (i + 1))))) rfl ?_
      refine k_iload hC dL_law_1175 0 rfl ?_
      refine k_topv (vI (i32 b3)) (vI_32 _) ?_
      refine k_i2l hC dL_law_1177 (i32_r _) ?_
      refine k_lcmp_eq hC 1184 dL_law_1178 dL_law_1179 rfl (i32_l _) (i32_l _) (fun c_1178 => ?_) (fun c_1178 => absurd (congrArg i32 (show (leastM gc (xI xs (i + 1))) = b3 from (gE_leastM hE hI _).trans q3.symm)) c_1178)
      refine k_goto hC 2319 dL_law_1184 rfl ?_
      refine k_lvs (ls := [2, 3, 4, 5, 6, 7]) [(5, vI (i : Int)), (4, .ref (kad G 149)), (3, .ref (kad G 148)), (2, .ref (kad G 133)), (1, .ref (kad G 0)), (0, .ref b)] rfl ?_
      have h_4 : w3 149 = dA G 1 oD := (hf3 149 (by decide)).trans ((hf2 149 (by decide)).trans ((hfP 149 (by decide)).trans o2))
      exact kk w3 fl _ _ (LI.rd hc hm hr hw hT (hCh1.fr (fun j q1 q2 => hf3 j (by omega))) hS3 hm3 ⟨rfl, rfl, rfl, rfl, rfl⟩ ⟨⟨_, h_3⟩, ⟨_, h_4⟩⟩ (fun j hj => (hf3 j (by omega)).trans ((hf2 j (by omega)).trans (hfP j (by omega))))) (by omega) (by omega)
    · exact q1.elim
    · exfalso; omega
  · exact hcc.elim
  · subst hv
    obtain ⟨hfl, hP⟩ := hP
    subst hfl
    obtain ⟨hCh, hfP⟩ := hP
    have hCh1 := hCh
    have hSc1 : kScr G w1 := b5.fr (fun j q1 q2 => hfP j (by omega))
    show KW p l e R s m args below meth c 10 G Q w1 fl (cs + 8) (ss + 48) 1142 [(5, vI (i : Int)), (4, .ref (kad G 149)), (3, .ref (kad G 148)), (2, .ref (kad G 133)), (1, .ref (kad G 0)), (0, .ref b)] [vI 1]
    refine k_istore hC [(6, vI 1), (5, vI (i : Int)), (4, .ref (kad G 149)), (3, .ref (kad G 148)), (2, .ref (kad G 133)), (1, .ref (kad G 0)), (0, .ref b)] dL_law_1142 (by decide) rfl ?_
    refine k_aload_n hC dL_law_1144 rfl 4 rfl ?_
    refine k_aload_n hC dL_law_1145 rfl 6 rfl ?_
    refine k_iload hC dL_law_1146 1 rfl ?_
    refine k_iconst hC dL_law_1148 ?_
    refine k_iadd hC dL_law_1149 ?_
    refine k_scr hC hX hbl hbA hL (i + 1) (by omega) (by omega) dL_law_1150 ?_
    have h_5 : w1 133 = mdO G u := (hfP 133 (by decide)).trans b0
    have h_6 : w1 134 = lA G 93 gr := (hfP 134 (by decide)).trans b1
    refine k_callV hC (c_X12_smallestHat l hls G hN w1 fl u gr (xI xs (i + 1)) (xI_r xs _) hIr h_5 h_6 hSc1) yy_X12_smallestHat wm_L_161 (kl hN (by decide)) h_5 rfl rfl rfl rfl (Nat.le_of_ble_eq_true rfl) (by omega) (by omega) ⟨by omega, by omega⟩ dL_law_1151 (fun v3 w3 fl3 hp3 => ?_)
    obtain ⟨b3, th3, hv3, hfl3, hR3, hP3⟩ := hp3
    subst hv3
    subst hfl3
    obtain ⟨⟨fe, fn, hm3⟩, hS3, hf3⟩ := hP3
    rcases hR3 with ⟨q1, q2, q3⟩ | ⟨q1, q2⟩ | ⟨q1, q2⟩
    · exfalso; omega
    · exact q1.elim
    · subst q2
      show KW p l e R s m args below meth c 10 G Q w3 fl (cs + 8) (ss + 48) 1154 [(6, vI 1), (5, vI (i : Int)), (4, .ref (kad G 149)), (3, .ref (kad G 148)), (2, .ref (kad G 133)), (1, .ref (kad G 0)), (0, .ref b)] [vI b3]
      refine k_istore hC [(7, vI b3), (6, vI 1), (5, vI (i : Int)), (4, .ref (kad G 149)), (3, .ref (kad G 148)), (2, .ref (kad G 133)), (1, .ref (kad G 0)), (0, .ref b)] dL_law_1154 (by decide) rfl ?_
      refine k_aload_n hC dL_law_1156 rfl 5 rfl ?_
      refine k_pureV hC (c_X12_thrown l hls G hN w3 fl (kup (kup (kup u 5 1) 12 fe) 13 fn) hm3) yy_X12_thrown wm_L_113 (kl hN (by decide)) hm3 rfl rfl rfl rfl (Nat.le_of_ble_eq_true rfl) (by omega) (by omega) ⟨by omega, by omega⟩ dL_law_1157 ?_
      refine k_topv (vI 1) rfl ?_
      refine k_iload hC dL_law_1160 1 rfl ?_
      refine k_icmp_eq hC 1167 dL_law_1162 rfl (by omega) (by omega) (fun c_1162 => ?_) (fun c_1162 => absurd c_1162 (by omega))
      refine k_iload hC dL_law_1167 1 rfl ?_
      refine k_if_ne hC 1184 dL_law_1169 rfl (by omega) (fun c_1169 => ?_) (fun c_1169 => absurd c_1169 (by omega))
      refine k_goto hC 2319 dL_law_1184 rfl ?_
      refine k_lvs (ls := [2, 3, 4, 5, 6, 7]) [(5, vI (i : Int)), (4, .ref (kad G 149)), (3, .ref (kad G 148)), (2, .ref (kad G 133)), (1, .ref (kad G 0)), (0, .ref b)] rfl ?_
      have h_7 : w3 148 = lA G 1 out := (hf3 148 (by decide)).trans ((hfP 148 (by decide)).trans o1)
      have h_8 : w3 149 = dA G 1 oD := (hf3 149 (by decide)).trans ((hfP 149 (by decide)).trans o2)
      exact kk w3 fl _ _ (LI.rd hc hm hr hw hT (hCh1.fr (fun j q1 q2 => hf3 j (by omega))) hS3 hm3 ⟨rfl, rfl, rfl, rfl, rfl⟩ ⟨⟨_, h_7⟩, ⟨_, h_8⟩⟩ (fun j hj => (hf3 j (by omega)).trans (hfP j (by omega)))) (by omega) (by omega)

set_option maxRecDepth 100000 in
set_option maxHeartbeats 4000000 in
theorem lw_fix {p : Program} {l : Launch} {e : Env} {R : Room} {s : State} {m : MethodId} {args : Array Value} {below : List Frame} {meth : Method} {c : Code} {G : kG} {d0 mc0 ms0 : Nat} {Q : State → Prop} {b L : Nat} {xs : Nat → Int32} (hC : kC p l R s m args meth c cL_law RL 10 G d0 mc0 ms0) (hls : l.stackTraces = false) (hN : kN G = 150) (hNc : va_Nc "java/lang/IllegalArgumentException" "java/util/NoSuchElementException" s) (hX : va_X b L xs s s.heap) (hbl : b < s.heap.size) (hbA : ¬ kA G b) (hL : L ≤ 3584) (hd0 : 60 ≤ d0) {cs ss : Nat} (hcs : cs + 16 ≤ mc0 ∧ ss + 400 ≤ ms0) (i : Nat) (hi : i + 7 ≤ L) (w : Nat → va_E) (fl : va_W) (hLI : LI G w fl)
    (kk : ∀ (w' : Nat → va_E) (fl' : va_W) (cs' ss' : Nat), LI G w' fl' → cs' ≤ cs + 16 → ss' ≤ ss + 400 → KW p l e R s m args below meth c 10 G Q w' fl' cs' ss' 2319 [(5, vI (i : Int)), (4, .ref (kad G 149)), (3, .ref (kad G 148)), (2, .ref (kad G 133)), (1, .ref (kad G 0)), (0, .ref b)] []) : KW p l e R s m args below meth c 10 G Q w fl cs ss 1312 [(5, vI (i : Int)), (4, .ref (kad G 149)), (3, .ref (kad G 148)), (2, .ref (kad G 133)), (1, .ref (kad G 0)), (0, .ref b)] [] := by
  obtain ⟨bt, gc, nl, gp0, nl9, gl0, gs, c0, nx, cn, cap, cd, ea, kd, nm, sa, nx9, en, sv, hs, T, u, gr, D0, sp, H, hc, hm, ho, hr, hw, hT⟩ := hLI
  have hc1 := hc
  have hm1 := hm
  have hr1 := hr
  have ho1 := ho
  obtain ⟨⟨a0, asv⟩, a1, ⟨a2, abt, ac7⟩, a3, a4, a5, a6, ⟨a7, anx, acn⟩, ⟨a8, a9, a10⟩, ⟨a11, a12, a13⟩, a14⟩ := hc1
  obtain ⟨b0, b1, b2, b3, b4, b5, b6, b7, ⟨cf, b8⟩, ⟨fq, b9⟩⟩ := hm1
  obtain ⟨⟨out, o1⟩, ⟨oD, o2⟩⟩ := ho1
  obtain ⟨r0, r1, r2, r3, r4, r5, r6⟩ := hr1
  have hI := r0.inv
  have hIr := r0.2.1
  have hE := r0.1
  have e0 := hE.n 0 (by decide)
  have e1 := hE.n 1 (by decide)
  have e2 := hE.n 2 (by decide)
  have hgc := hI.c
  by_cases hq : xI xs (i + 2) = 0
  · refine k_aload_n hC dL_law_1312 rfl 4 rfl ?_
    refine k_aload_n hC dL_law_1313 rfl 5 rfl ?_
    refine k_iload hC dL_law_1314 0 rfl ?_
    refine k_iconst hC dL_law_1316 ?_
    refine k_iadd hC dL_law_1317 ?_
    refine k_scr hC hX hbl hbA hL (i + 1) (by omega) (by omega) dL_law_1318 ?_
    refine k_aload_n hC dL_law_1319 rfl 5 rfl ?_
    refine k_iload hC dL_law_1320 0 rfl ?_
    refine k_iconst hC dL_law_1322 ?_
    refine k_iadd hC dL_law_1323 ?_
    refine k_scr hC hX hbl hbA hL (i + 2) (by omega) (by omega) dL_law_1324 ?_
    refine k_if_eq hC 1332 dL_law_1325 rfl (xI_r xs _) (fun c_1325 => ?_) (fun c_1325 => absurd hq c_1325)
    refine k_iconst hC dL_law_1332 ?_
    refine k_aload_n hC dL_law_1333 rfl 2 rfl ?_
    refine k_callL hC hNc (n := 4) (c_L_fix l hls G hN w fl gc nl sv (xI xs (i + 1)) 0 out (xI_r xs _) (by decide) hI a0 a3 a4 a5 o1) wc_L_fix wz_L (by decide +kernel) wt_L_fix wm_L_166 rfl rfl (Nat.le_of_ble_eq_true rfl) (by omega) (by omega) ⟨by omega, by omega⟩ dL_law_1334 (fun v1 w1 fl1 hp => ?_)
    rcases hp with ⟨hv, hcc, w2, hP, h148, hf2⟩ | ⟨hP, ⟨hcc, hv⟩ | ⟨hcc, hv⟩⟩
    · subst hv
      obtain ⟨hfl, hP⟩ := hP
      subst hfl
      obtain ⟨hCh, hfP⟩ := hP
      have hCh1 : kCht G w1 := hCh.fr (fun j q1 q2 => hf2 j (by omega))
      have hSc1 : kScr G w1 := b5.fr (fun j q1 q2 => (hf2 j (by omega)).trans (hfP j (by omega)))
      show KW p l e R s m args below meth c 10 G Q w1 fl (cs + 8) (ss + 48) 1337 [(5, vI (i : Int)), (4, .ref (kad G 149)), (3, .ref (kad G 148)), (2, .ref (kad G 133)), (1, .ref (kad G 0)), (0, .ref b)] [vI 0]
      refine k_istore hC [(6, vI 0), (5, vI (i : Int)), (4, .ref (kad G 149)), (3, .ref (kad G 148)), (2, .ref (kad G 133)), (1, .ref (kad G 0)), (0, .ref b)] dL_law_1337 (by decide) rfl ?_
      refine k_aload_n hC dL_law_1339 rfl 4 rfl ?_
      refine k_aload_n hC dL_law_1340 rfl 6 rfl ?_
      refine k_iload hC dL_law_1341 1 rfl ?_
      refine k_iconst hC dL_law_1343 ?_
      refine k_iadd hC dL_law_1344 ?_
      refine k_scr hC hX hbl hbA hL (i + 1) (by omega) (by omega) dL_law_1345 ?_
      refine k_aload_n hC dL_law_1346 rfl 6 rfl ?_
      refine k_iload hC dL_law_1347 1 rfl ?_
      refine k_iconst hC dL_law_1349 ?_
      refine k_iadd hC dL_law_1350 ?_
      refine k_scr hC hX hbl hbA hL (i + 2) (by omega) (by omega) dL_law_1351 ?_
      refine k_if_eq hC 1359 dL_law_1352 rfl (xI_r xs _) (fun c_1352 => ?_) (fun c_1352 => absurd hq c_1352)
      refine k_iconst hC dL_law_1359 ?_
      have h_1 : w1 133 = mdO G u := (hf2 133 (by decide)).trans ((hfP 133 (by decide)).trans b0)
      have h_2 : w1 134 = lA G 93 gr := (hf2 134 (by decide)).trans ((hfP 134 (by decide)).trans b1)
      refine k_callV hC (c_X12_fix l hls G hN w1 fl u gr (xI xs (i + 1)) 0 (xI_r xs _) (by decide) hIr h_1 h_2 hSc1) yy_X12_fix wm_L_168 (kl hN (by decide)) h_1 rfl rfl rfl rfl (Nat.le_of_ble_eq_true rfl) (by omega) (by omega) ⟨by omega, by omega⟩ dL_law_1360 (fun v3 w3 fl3 hp3 => ?_)
      obtain ⟨b3, th3, hv3, hfl3, hR3, hP3⟩ := hp3
      subst hv3
      subst hfl3
      obtain ⟨⟨fe, fn, hm3⟩, hS3, hf3⟩ := hP3
      rcases hR3 with ⟨q1, q2, q3⟩ | ⟨q1, q2⟩ | ⟨q1, q2⟩
      · subst q2
        show KW p l e R s m args below meth c 10 G Q w3 fl (cs + 8) (ss + 48) 1363 [(6, vI 0), (5, vI (i : Int)), (4, .ref (kad G 149)), (3, .ref (kad G 148)), (2, .ref (kad G 133)), (1, .ref (kad G 0)), (0, .ref b)] [vI b3]
        refine k_istore hC [(7, vI b3), (6, vI 0), (5, vI (i : Int)), (4, .ref (kad G 149)), (3, .ref (kad G 148)), (2, .ref (kad G 133)), (1, .ref (kad G 0)), (0, .ref b)] dL_law_1363 (by decide) rfl ?_
        refine k_aload_n hC dL_law_1365 rfl 5 rfl ?_
        refine k_pureV hC (c_X12_thrown l hls G hN w3 fl (kup (kup (kup u 5 0) 12 fe) 13 fn) hm3) yy_X12_thrown wm_L_113 (kl hN (by decide)) hm3 rfl rfl rfl rfl (Nat.le_of_ble_eq_true rfl) (by omega) (by omega) ⟨by omega, by omega⟩ dL_law_1366 ?_
        refine k_topv (vI 0) rfl ?_
        refine k_iload hC dL_law_1369 1 rfl ?_
        refine k_icmp_eq hC 1376 dL_law_1371 rfl (by omega) (by omega) (fun c_1371 => ?_) (fun c_1371 => absurd c_1371 (by omega))
        refine k_iload hC dL_law_1376 1 rfl ?_
        refine k_if_ne hC 1393 dL_law_1378 rfl (by omega) (fun c_1378 => absurd c_1378 (by omega)) (fun c_1378 => ?_)
        refine k_aload_n hC dL_law_1381 rfl 4 rfl ?_
        refine k_iconst hC dL_law_1382 ?_
        have h_3 : w3 148 = lA G 1 (fun _ => i32 (fixV gc (xI xs (i + 1)) 0)) := (hf3 148 (by decide)).trans h148
        refine k_lald hC (kl hN (by decide)) h_3 (by omega) (by decide) dL_law_1383 ?_
        refine k_topv (vL (i32 (fixV gc (xI xs (i + 1)) 0))) rfl ?_
        refine k_iload hC dL_law_1384 0 rfl ?_
        refine k_topv (vI (i32 b3)) (vI_32 _) ?_
        refine k_i2l hC dL_law_1386 (i32_r _) ?_
        refine k_lcmp_eq hC 1393 dL_law_1387 dL_law_1388 rfl (i32_l _) (i32_l _) (fun c_1387 => ?_) (fun c_1387 => absurd (congrArg i32 (show (fixV gc (xI xs (i + 1)) 0) = b3 from (gE_fixV hE hI _ _).trans q3.symm)) c_1387)
        refine k_goto hC 2319 dL_law_1393 rfl ?_
        refine k_lvs (ls := [2, 3, 4, 5, 6, 7]) [(5, vI (i : Int)), (4, .ref (kad G 149)), (3, .ref (kad G 148)), (2, .ref (kad G 133)), (1, .ref (kad G 0)), (0, .ref b)] rfl ?_
        have h_4 : w3 149 = dA G 1 oD := (hf3 149 (by decide)).trans ((hf2 149 (by decide)).trans ((hfP 149 (by decide)).trans o2))
        exact kk w3 fl _ _ (LI.rd hc hm hr hw hT (hCh1.fr (fun j q1 q2 => hf3 j (by omega))) hS3 hm3 ⟨rfl, rfl, rfl, rfl, rfl⟩ ⟨⟨_, h_3⟩, ⟨_, h_4⟩⟩ (fun j hj => (hf3 j (by omega)).trans ((hf2 j (by omega)).trans (hfP j (by omega))))) (by omega) (by omega)
      · exact q1.elim
      · exfalso; omega
    · exact hcc.elim
    · subst hv
      obtain ⟨hfl, hP⟩ := hP
      subst hfl
      obtain ⟨hCh, hfP⟩ := hP
      have hCh1 := hCh
      have hSc1 : kScr G w1 := b5.fr (fun j q1 q2 => hfP j (by omega))
      show KW p l e R s m args below meth c 10 G Q w1 fl (cs + 8) (ss + 48) 1337 [(5, vI (i : Int)), (4, .ref (kad G 149)), (3, .ref (kad G 148)), (2, .ref (kad G 133)), (1, .ref (kad G 0)), (0, .ref b)] [vI 1]
      refine k_istore hC [(6, vI 1), (5, vI (i : Int)), (4, .ref (kad G 149)), (3, .ref (kad G 148)), (2, .ref (kad G 133)), (1, .ref (kad G 0)), (0, .ref b)] dL_law_1337 (by decide) rfl ?_
      refine k_aload_n hC dL_law_1339 rfl 4 rfl ?_
      refine k_aload_n hC dL_law_1340 rfl 6 rfl ?_
      refine k_iload hC dL_law_1341 1 rfl ?_
      refine k_iconst hC dL_law_1343 ?_
      refine k_iadd hC dL_law_1344 ?_
      refine k_scr hC hX hbl hbA hL (i + 1) (by omega) (by omega) dL_law_1345 ?_
      refine k_aload_n hC dL_law_1346 rfl 6 rfl ?_
      refine k_iload hC dL_law_1347 1 rfl ?_
      refine k_iconst hC dL_law_1349 ?_
      refine k_iadd hC dL_law_1350 ?_
      refine k_scr hC hX hbl hbA hL (i + 2) (by omega) (by omega) dL_law_1351 ?_
      refine k_if_eq hC 1359 dL_law_1352 rfl (xI_r xs _) (fun c_1352 => ?_) (fun c_1352 => absurd hq c_1352)
      refine k_iconst hC dL_law_1359 ?_
      have h_5 : w1 133 = mdO G u := (hfP 133 (by decide)).trans b0
      have h_6 : w1 134 = lA G 93 gr := (hfP 134 (by decide)).trans b1
      refine k_callV hC (c_X12_fix l hls G hN w1 fl u gr (xI xs (i + 1)) 0 (xI_r xs _) (by decide) hIr h_5 h_6 hSc1) yy_X12_fix wm_L_168 (kl hN (by decide)) h_5 rfl rfl rfl rfl (Nat.le_of_ble_eq_true rfl) (by omega) (by omega) ⟨by omega, by omega⟩ dL_law_1360 (fun v3 w3 fl3 hp3 => ?_)
      obtain ⟨b3, th3, hv3, hfl3, hR3, hP3⟩ := hp3
      subst hv3
      subst hfl3
      obtain ⟨⟨fe, fn, hm3⟩, hS3, hf3⟩ := hP3
      rcases hR3 with ⟨q1, q2, q3⟩ | ⟨q1, q2⟩ | ⟨q1, q2⟩
      · exfalso; omega
      · exact q1.elim
      · subst q2
        show KW p l e R s m args below meth c 10 G Q w3 fl (cs + 8) (ss + 48) 1363 [(6, vI 1), (5, vI (i : Int)), (4, .ref (kad G 149)), (3, .ref (kad G 148)), (2, .ref (kad G 133)), (1, .ref (kad G 0)), (0, .ref b)] [vI b3]
        refine k_istore hC [(7, vI b3), (6, vI 1), (5, vI (i : Int)), (4, .ref (kad G 149)), (3, .ref (kad G 148)), (2, .ref (kad G 133)), (1, .ref (kad G 0)), (0, .ref b)] dL_law_1363 (by decide) rfl ?_
        refine k_aload_n hC dL_law_1365 rfl 5 rfl ?_
        refine k_pureV hC (c_X12_thrown l hls G hN w3 fl (kup (kup (kup u 5 1) 12 fe) 13 fn) hm3) yy_X12_thrown wm_L_113 (kl hN (by decide)) hm3 rfl rfl rfl rfl (Nat.le_of_ble_eq_true rfl) (by omega) (by omega) ⟨by omega, by omega⟩ dL_law_1366 ?_
        refine k_topv (vI 1) rfl ?_
        refine k_iload hC dL_law_1369 1 rfl ?_
        refine k_icmp_eq hC 1376 dL_law_1371 rfl (by omega) (by omega) (fun c_1371 => ?_) (fun c_1371 => absurd c_1371 (by omega))
        refine k_iload hC dL_law_1376 1 rfl ?_
        refine k_if_ne hC 1393 dL_law_1378 rfl (by omega) (fun c_1378 => ?_) (fun c_1378 => absurd c_1378 (by omega))
        refine k_goto hC 2319 dL_law_1393 rfl ?_
        refine k_lvs (ls := [2, 3, 4, 5, 6, 7]) [(5, vI (i : Int)), (4, .ref (kad G 149)), (3, .ref (kad G 148)), (2, .ref (kad G 133)), (1, .ref (kad G 0)), (0, .ref b)] rfl ?_
        have h_7 : w3 148 = lA G 1 out := (hf3 148 (by decide)).trans ((hfP 148 (by decide)).trans o1)
        have h_8 : w3 149 = dA G 1 oD := (hf3 149 (by decide)).trans ((hfP 149 (by decide)).trans o2)
        exact kk w3 fl _ _ (LI.rd hc hm hr hw hT (hCh1.fr (fun j q1 q2 => hf3 j (by omega))) hS3 hm3 ⟨rfl, rfl, rfl, rfl, rfl⟩ ⟨⟨_, h_7⟩, ⟨_, h_8⟩⟩ (fun j hj => (hf3 j (by omega)).trans (hfP j (by omega)))) (by omega) (by omega)
  · refine k_aload_n hC dL_law_1312 rfl 4 rfl ?_
    refine k_aload_n hC dL_law_1313 rfl 5 rfl ?_
    refine k_iload hC dL_law_1314 0 rfl ?_
    refine k_iconst hC dL_law_1316 ?_
    refine k_iadd hC dL_law_1317 ?_
    refine k_scr hC hX hbl hbA hL (i + 1) (by omega) (by omega) dL_law_1318 ?_
    refine k_aload_n hC dL_law_1319 rfl 5 rfl ?_
    refine k_iload hC dL_law_1320 0 rfl ?_
    refine k_iconst hC dL_law_1322 ?_
    refine k_iadd hC dL_law_1323 ?_
    refine k_scr hC hX hbl hbA hL (i + 2) (by omega) (by omega) dL_law_1324 ?_
    refine k_if_eq hC 1332 dL_law_1325 rfl (xI_r xs _) (fun c_1325 => absurd c_1325 hq) (fun c_1325 => ?_)
    refine k_iconst hC dL_law_1328 ?_
    refine k_goto hC 1333 dL_law_1329 rfl ?_
    refine k_aload_n hC dL_law_1333 rfl 2 rfl ?_
    refine k_callL hC hNc (n := 4) (c_L_fix l hls G hN w fl gc nl sv (xI xs (i + 1)) 1 out (xI_r xs _) (by decide) hI a0 a3 a4 a5 o1) wc_L_fix wz_L (by decide +kernel) wt_L_fix wm_L_166 rfl rfl (Nat.le_of_ble_eq_true rfl) (by omega) (by omega) ⟨by omega, by omega⟩ dL_law_1334 (fun v1 w1 fl1 hp => ?_)
    rcases hp with ⟨hv, hcc, w2, hP, h148, hf2⟩ | ⟨hP, ⟨hcc, hv⟩ | ⟨hcc, hv⟩⟩
    · subst hv
      obtain ⟨hfl, hP⟩ := hP
      subst hfl
      obtain ⟨hCh, hfP⟩ := hP
      have hCh1 : kCht G w1 := hCh.fr (fun j q1 q2 => hf2 j (by omega))
      have hSc1 : kScr G w1 := b5.fr (fun j q1 q2 => (hf2 j (by omega)).trans (hfP j (by omega)))
      show KW p l e R s m args below meth c 10 G Q w1 fl (cs + 8) (ss + 48) 1337 [(5, vI (i : Int)), (4, .ref (kad G 149)), (3, .ref (kad G 148)), (2, .ref (kad G 133)), (1, .ref (kad G 0)), (0, .ref b)] [vI 0]
      refine k_istore hC [(6, vI 0), (5, vI (i : Int)), (4, .ref (kad G 149)), (3, .ref (kad G 148)), (2, .ref (kad G 133)), (1, .ref (kad G 0)), (0, .ref b)] dL_law_1337 (by decide) rfl ?_
      refine k_aload_n hC dL_law_1339 rfl 4 rfl ?_
      refine k_aload_n hC dL_law_1340 rfl 6 rfl ?_
      refine k_iload hC dL_law_1341 1 rfl ?_
      refine k_iconst hC dL_law_1343 ?_
      refine k_iadd hC dL_law_1344 ?_
      refine k_scr hC hX hbl hbA hL (i + 1) (by omega) (by omega) dL_law_1345 ?_
      refine k_aload_n hC dL_law_1346 rfl 6 rfl ?_
      refine k_iload hC dL_law_1347 1 rfl ?_
      refine k_iconst hC dL_law_1349 ?_
      refine k_iadd hC dL_law_1350 ?_
      refine k_scr hC hX hbl hbA hL (i + 2) (by omega) (by omega) dL_law_1351 ?_
      refine k_if_eq hC 1359 dL_law_1352 rfl (xI_r xs _) (fun c_1352 => absurd c_1352 hq) (fun c_1352 => ?_)
      refine k_iconst hC dL_law_1355 ?_
      refine k_goto hC 1360 dL_law_1356 rfl ?_
      have h_9 : w1 133 = mdO G u := (hf2 133 (by decide)).trans ((hfP 133 (by decide)).trans b0)
      have h_10 : w1 134 = lA G 93 gr := (hf2 134 (by decide)).trans ((hfP 134 (by decide)).trans b1)
      refine k_callV hC (c_X12_fix l hls G hN w1 fl u gr (xI xs (i + 1)) 1 (xI_r xs _) (by decide) hIr h_9 h_10 hSc1) yy_X12_fix wm_L_168 (kl hN (by decide)) h_9 rfl rfl rfl rfl (Nat.le_of_ble_eq_true rfl) (by omega) (by omega) ⟨by omega, by omega⟩ dL_law_1360 (fun v3 w3 fl3 hp3 => ?_)
      obtain ⟨b3, th3, hv3, hfl3, hR3, hP3⟩ := hp3
      subst hv3
      subst hfl3
      obtain ⟨⟨fe, fn, hm3⟩, hS3, hf3⟩ := hP3
      rcases hR3 with ⟨q1, q2, q3⟩ | ⟨q1, q2⟩ | ⟨q1, q2⟩
      · subst q2
        show KW p l e R s m args below meth c 10 G Q w3 fl (cs + 8) (ss + 48) 1363 [(6, vI 0), (5, vI (i : Int)), (4, .ref (kad G 149)), (3, .ref (kad G 148)), (2, .ref (kad G 133)), (1, .ref (kad G 0)), (0, .ref b)] [vI b3]
        refine k_istore hC [(7, vI b3), (6, vI 0), (5, vI (i : Int)), (4, .ref (kad G 149)), (3, .ref (kad G 148)), (2, .ref (kad G 133)), (1, .ref (kad G 0)), (0, .ref b)] dL_law_1363 (by decide) rfl ?_
        refine k_aload_n hC dL_law_1365 rfl 5 rfl ?_
        refine k_pureV hC (c_X12_thrown l hls G hN w3 fl (kup (kup (kup u 5 0) 12 fe) 13 fn) hm3) yy_X12_thrown wm_L_113 (kl hN (by decide)) hm3 rfl rfl rfl rfl (Nat.le_of_ble_eq_true rfl) (by omega) (by omega) ⟨by omega, by omega⟩ dL_law_1366 ?_
        refine k_topv (vI 0) rfl ?_
        refine k_iload hC dL_law_1369 1 rfl ?_
        refine k_icmp_eq hC 1376 dL_law_1371 rfl (by omega) (by omega) (fun c_1371 => ?_) (fun c_1371 => absurd c_1371 (by omega))
        refine k_iload hC dL_law_1376 1 rfl ?_
        refine k_if_ne hC 1393 dL_law_1378 rfl (by omega) (fun c_1378 => absurd c_1378 (by omega)) (fun c_1378 => ?_)
        refine k_aload_n hC dL_law_1381 rfl 4 rfl ?_
        refine k_iconst hC dL_law_1382 ?_
        have h_11 : w3 148 = lA G 1 (fun _ => i32 (fixV gc (xI xs (i + 1)) 1)) := (hf3 148 (by decide)).trans h148
        refine k_lald hC (kl hN (by decide)) h_11 (by omega) (by decide) dL_law_1383 ?_
        refine k_topv (vL (i32 (fixV gc (xI xs (i + 1)) 1))) rfl ?_
        refine k_iload hC dL_law_1384 0 rfl ?_
        refine k_topv (vI (i32 b3)) (vI_32 _) ?_
        refine k_i2l hC dL_law_1386 (i32_r _) ?_
        refine k_lcmp_eq hC 1393 dL_law_1387 dL_law_1388 rfl (i32_l _) (i32_l _) (fun c_1387 => ?_) (fun c_1387 => absurd (congrArg i32 (show (fixV gc (xI xs (i + 1)) 1) = b3 from (gE_fixV hE hI _ _).trans q3.symm)) c_1387)
        refine k_goto hC 2319 dL_law_1393 rfl ?_
        refine k_lvs (ls := [2, 3, 4, 5, 6, 7]) [(5, vI (i : Int)), (4, .ref (kad G 149)), (3, .ref (kad G 148)), (2, .ref (kad G 133)), (1, .ref (kad G 0)), (0, .ref b)] rfl ?_
        have h_12 : w3 149 = dA G 1 oD := (hf3 149 (by decide)).trans ((hf2 149 (by decide)).trans ((hfP 149 (by decide)).trans o2))
        exact kk w3 fl _ _ (LI.rd hc hm hr hw hT (hCh1.fr (fun j q1 q2 => hf3 j (by omega))) hS3 hm3 ⟨rfl, rfl, rfl, rfl, rfl⟩ ⟨⟨_, h_11⟩, ⟨_, h_12⟩⟩ (fun j hj => (hf3 j (by omega)).trans ((hf2 j (by omega)).trans (hfP j (by omega))))) (by omega) (by omega)
      · exact q1.elim
      · exfalso; omega
    · exact hcc.elim
    · subst hv
      obtain ⟨hfl, hP⟩ := hP
      subst hfl
      obtain ⟨hCh, hfP⟩ := hP
      have hCh1 := hCh
      have hSc1 : kScr G w1 := b5.fr (fun j q1 q2 => hfP j (by omega))
      show KW p l e R s m args below meth c 10 G Q w1 fl (cs + 8) (ss + 48) 1337 [(5, vI (i : Int)), (4, .ref (kad G 149)), (3, .ref (kad G 148)), (2, .ref (kad G 133)), (1, .ref (kad G 0)), (0, .ref b)] [vI 1]
      refine k_istore hC [(6, vI 1), (5, vI (i : Int)), (4, .ref (kad G 149)), (3, .ref (kad G 148)), (2, .ref (kad G 133)), (1, .ref (kad G 0)), (0, .ref b)] dL_law_1337 (by decide) rfl ?_
      refine k_aload_n hC dL_law_1339 rfl 4 rfl ?_
      refine k_aload_n hC dL_law_1340 rfl 6 rfl ?_
      refine k_iload hC dL_law_1341 1 rfl ?_
      refine k_iconst hC dL_law_1343 ?_
      refine k_iadd hC dL_law_1344 ?_
      refine k_scr hC hX hbl hbA hL (i + 1) (by omega) (by omega) dL_law_1345 ?_
      refine k_aload_n hC dL_law_1346 rfl 6 rfl ?_
      refine k_iload hC dL_law_1347 1 rfl ?_
      refine k_iconst hC dL_law_1349 ?_
      refine k_iadd hC dL_law_1350 ?_
      refine k_scr hC hX hbl hbA hL (i + 2) (by omega) (by omega) dL_law_1351 ?_
      refine k_if_eq hC 1359 dL_law_1352 rfl (xI_r xs _) (fun c_1352 => absurd c_1352 hq) (fun c_1352 => ?_)
      refine k_iconst hC dL_law_1355 ?_
      refine k_goto hC 1360 dL_law_1356 rfl ?_
      have h_13 : w1 133 = mdO G u := (hfP 133 (by decide)).trans b0
      have h_14 : w1 134 = lA G 93 gr := (hfP 134 (by decide)).trans b1
      refine k_callV hC (c_X12_fix l hls G hN w1 fl u gr (xI xs (i + 1)) 1 (xI_r xs _) (by decide) hIr h_13 h_14 hSc1) yy_X12_fix wm_L_168 (kl hN (by decide)) h_13 rfl rfl rfl rfl (Nat.le_of_ble_eq_true rfl) (by omega) (by omega) ⟨by omega, by omega⟩ dL_law_1360 (fun v3 w3 fl3 hp3 => ?_)
      obtain ⟨b3, th3, hv3, hfl3, hR3, hP3⟩ := hp3
      subst hv3
      subst hfl3
      obtain ⟨⟨fe, fn, hm3⟩, hS3, hf3⟩ := hP3
      rcases hR3 with ⟨q1, q2, q3⟩ | ⟨q1, q2⟩ | ⟨q1, q2⟩
      · exfalso; omega
      · exact q1.elim
      · subst q2
        show KW p l e R s m args below meth c 10 G Q w3 fl (cs + 8) (ss + 48) 1363 [(6, vI 1), (5, vI (i : Int)), (4, .ref (kad G 149)), (3, .ref (kad G 148)), (2, .ref (kad G 133)), (1, .ref (kad G 0)), (0, .ref b)] [vI b3]
        refine k_istore hC [(7, vI b3), (6, vI 1), (5, vI (i : Int)), (4, .ref (kad G 149)), (3, .ref (kad G 148)), (2, .ref (kad G 133)), (1, .ref (kad G 0)), (0, .ref b)] dL_law_1363 (by decide) rfl ?_
        refine k_aload_n hC dL_law_1365 rfl 5 rfl ?_
        refine k_pureV hC (c_X12_thrown l hls G hN w3 fl (kup (kup (kup u 5 1) 12 fe) 13 fn) hm3) yy_X12_thrown wm_L_113 (kl hN (by decide)) hm3 rfl rfl rfl rfl (Nat.le_of_ble_eq_true rfl) (by omega) (by omega) ⟨by omega, by omega⟩ dL_law_1366 ?_
        refine k_topv (vI 1) rfl ?_
        refine k_iload hC dL_law_1369 1 rfl ?_
        refine k_icmp_eq hC 1376 dL_law_1371 rfl (by omega) (by omega) (fun c_1371 => ?_) (fun c_1371 => absurd c_1371 (by omega))
        refine k_iload hC dL_law_1376 1 rfl ?_
        refine k_if_ne hC 1393 dL_law_1378 rfl (by omega) (fun c_1378 => ?_) (fun c_1378 => absurd c_1378 (by omega))
        refine k_goto hC 2319 dL_law_1393 rfl ?_
        refine k_lvs (ls := [2, 3, 4, 5, 6, 7]) [(5, vI (i : Int)), (4, .ref (kad G 149)), (3, .ref (kad G 148)), (2, .ref (kad G 133)), (1, .ref (kad G 0)), (0, .ref b)] rfl ?_
        have h_15 : w3 148 = lA G 1 out := (hf3 148 (by decide)).trans ((hfP 148 (by decide)).trans o1)
        have h_16 : w3 149 = dA G 1 oD := (hf3 149 (by decide)).trans ((hfP 149 (by decide)).trans o2)
        exact kk w3 fl _ _ (LI.rd hc hm hr hw hT (hCh1.fr (fun j q1 q2 => hf3 j (by omega))) hS3 hm3 ⟨rfl, rfl, rfl, rfl, rfl⟩ ⟨⟨_, h_15⟩, ⟨_, h_16⟩⟩ (fun j hj => (hf3 j (by omega)).trans (hfP j (by omega)))) (by omega) (by omega)

set_option maxRecDepth 100000 in
set_option maxHeartbeats 4000000 in
theorem lw_residual {p : Program} {l : Launch} {e : Env} {R : Room} {s : State} {m : MethodId} {args : Array Value} {below : List Frame} {meth : Method} {c : Code} {G : kG} {d0 mc0 ms0 : Nat} {Q : State → Prop} {b L : Nat} {xs : Nat → Int32} (hC : kC p l R s m args meth c cL_law RL 10 G d0 mc0 ms0) (hls : l.stackTraces = false) (hN : kN G = 150) (hNc : va_Nc "java/lang/IllegalArgumentException" "java/util/NoSuchElementException" s) (hX : va_X b L xs s s.heap) (hbl : b < s.heap.size) (hbA : ¬ kA G b) (hL : L ≤ 3584) (hd0 : 60 ≤ d0) {cs ss : Nat} (hcs : cs + 16 ≤ mc0 ∧ ss + 400 ≤ ms0) (i : Nat) (hi : i + 7 ≤ L) (w : Nat → va_E) (fl : va_W) (hLI : LI G w fl)
    (kk : ∀ (w' : Nat → va_E) (fl' : va_W) (cs' ss' : Nat), LI G w' fl' → cs' ≤ cs + 16 → ss' ≤ ss + 400 → KW p l e R s m args below meth c 10 G Q w' fl' cs' ss' 2319 [(5, vI (i : Int)), (4, .ref (kad G 149)), (3, .ref (kad G 148)), (2, .ref (kad G 133)), (1, .ref (kad G 0)), (0, .ref b)] []) : KW p l e R s m args below meth c 10 G Q w fl cs ss 1396 [(5, vI (i : Int)), (4, .ref (kad G 149)), (3, .ref (kad G 148)), (2, .ref (kad G 133)), (1, .ref (kad G 0)), (0, .ref b)] [] := by
  obtain ⟨bt, gc, nl, gp0, nl9, gl0, gs, c0, nx, cn, cap, cd, ea, kd, nm, sa, nx9, en, sv, hs, T, u, gr, D0, sp, H, hc, hm, ho, hr, hw, hT⟩ := hLI
  have hc1 := hc
  have hm1 := hm
  have hr1 := hr
  have ho1 := ho
  obtain ⟨⟨a0, asv⟩, a1, ⟨a2, abt, ac7⟩, a3, a4, a5, a6, ⟨a7, anx, acn⟩, ⟨a8, a9, a10⟩, ⟨a11, a12, a13⟩, a14⟩ := hc1
  obtain ⟨b0, b1, b2, b3, b4, b5, b6, b7, ⟨cf, b8⟩, ⟨fq, b9⟩⟩ := hm1
  obtain ⟨⟨out, o1⟩, ⟨oD, o2⟩⟩ := ho1
  obtain ⟨r0, r1, r2, r3, r4, r5, r6⟩ := hr1
  have hI := r0.inv
  have hIr := r0.2.1
  have hE := r0.1
  have e0 := hE.n 0 (by decide)
  have e1 := hE.n 1 (by decide)
  have e2 := hE.n 2 (by decide)
  have hgc := hI.c
  refine k_aload_n hC dL_law_1396 rfl 4 rfl ?_
  refine k_aload_n hC dL_law_1397 rfl 5 rfl ?_
  refine k_iload hC dL_law_1398 0 rfl ?_
  refine k_iconst hC dL_law_1400 ?_
  refine k_iadd hC dL_law_1401 ?_
  refine k_scr hC hX hbl hbA hL (i + 1) (by omega) (by omega) dL_law_1402 ?_
  refine k_aload_n hC dL_law_1403 rfl 5 rfl ?_
  refine k_iload hC dL_law_1404 0 rfl ?_
  refine k_iconst hC dL_law_1406 ?_
  refine k_iadd hC dL_law_1407 ?_
  refine k_scr hC hX hbl hbA hL (i + 2) (by omega) (by omega) dL_law_1408 ?_
  refine k_aload_n hC dL_law_1409 rfl 2 rfl ?_
  refine k_callL hC hNc (n := 4) (c_L_residual l hls G hN w fl gc nl sv (xI xs (i + 1)) (xI xs (i + 2)) out (xI_r xs _) (xI_r xs _) hI a0 a3 a4 a5 o1) wc_L_residual wz_L (by decide +kernel) wt_L_residual wm_L_169 rfl rfl (Nat.le_of_ble_eq_true rfl) (by omega) (by omega) ⟨by omega, by omega⟩ dL_law_1410 (fun v1 w1 fl1 hp => ?_)
  rcases hp with ⟨hv, hcc, w2, hP, h148, hf2⟩ | ⟨hP, ⟨hcc, hv⟩ | ⟨hcc, hv⟩⟩
  · subst hv
    obtain ⟨hfl, hP⟩ := hP
    subst hfl
    obtain ⟨hCh, hfP⟩ := hP
    have hCh1 : kCht G w1 := hCh.fr (fun j q1 q2 => hf2 j (by omega))
    have hSc1 : kScr G w1 := b5.fr (fun j q1 q2 => (hf2 j (by omega)).trans (hfP j (by omega)))
    show KW p l e R s m args below meth c 10 G Q w1 fl (cs + 8) (ss + 48) 1413 [(5, vI (i : Int)), (4, .ref (kad G 149)), (3, .ref (kad G 148)), (2, .ref (kad G 133)), (1, .ref (kad G 0)), (0, .ref b)] [vI 0]
    refine k_istore hC [(6, vI 0), (5, vI (i : Int)), (4, .ref (kad G 149)), (3, .ref (kad G 148)), (2, .ref (kad G 133)), (1, .ref (kad G 0)), (0, .ref b)] dL_law_1413 (by decide) rfl ?_
    refine k_aload_n hC dL_law_1415 rfl 4 rfl ?_
    refine k_aload_n hC dL_law_1416 rfl 6 rfl ?_
    refine k_iload hC dL_law_1417 1 rfl ?_
    refine k_iconst hC dL_law_1419 ?_
    refine k_iadd hC dL_law_1420 ?_
    refine k_scr hC hX hbl hbA hL (i + 1) (by omega) (by omega) dL_law_1421 ?_
    refine k_aload_n hC dL_law_1422 rfl 6 rfl ?_
    refine k_iload hC dL_law_1423 1 rfl ?_
    refine k_iconst hC dL_law_1425 ?_
    refine k_iadd hC dL_law_1426 ?_
    refine k_scr hC hX hbl hbA hL (i + 2) (by omega) (by omega) dL_law_1427 ?_
    have h_1 : w1 133 = mdO G u := (hf2 133 (by decide)).trans ((hfP 133 (by decide)).trans b0)
    have h_2 : w1 134 = lA G 93 gr := (hf2 134 (by decide)).trans ((hfP 134 (by decide)).trans b1)
    refine k_callV hC (c_X12_residual l hls G hN w1 fl u gr (xI xs (i + 1)) (xI xs (i + 2)) (xI_r xs _) (xI_r xs _) hIr h_1 h_2 hSc1) yy_X12_residual wm_L_171 (kl hN (by decide)) h_1 rfl rfl rfl rfl (Nat.le_of_ble_eq_true rfl) (by omega) (by omega) ⟨by omega, by omega⟩ dL_law_1428 (fun v3 w3 fl3 hp3 => ?_)
    obtain ⟨b3, th3, hv3, hfl3, hR3, hP3⟩ := hp3
    subst hv3
    subst hfl3
    obtain ⟨⟨fe, fn, hm3⟩, hS3, hf3⟩ := hP3
    rcases hR3 with ⟨q1, q2, q3⟩ | ⟨q1, q2⟩ | ⟨q1, q2⟩
    · subst q2
      show KW p l e R s m args below meth c 10 G Q w3 fl (cs + 8) (ss + 48) 1431 [(6, vI 0), (5, vI (i : Int)), (4, .ref (kad G 149)), (3, .ref (kad G 148)), (2, .ref (kad G 133)), (1, .ref (kad G 0)), (0, .ref b)] [vI b3]
      refine k_istore hC [(7, vI b3), (6, vI 0), (5, vI (i : Int)), (4, .ref (kad G 149)), (3, .ref (kad G 148)), (2, .ref (kad G 133)), (1, .ref (kad G 0)), (0, .ref b)] dL_law_1431 (by decide) rfl ?_
      refine k_aload_n hC dL_law_1433 rfl 5 rfl ?_
      refine k_pureV hC (c_X12_thrown l hls G hN w3 fl (kup (kup (kup u 5 0) 12 fe) 13 fn) hm3) yy_X12_thrown wm_L_113 (kl hN (by decide)) hm3 rfl rfl rfl rfl (Nat.le_of_ble_eq_true rfl) (by omega) (by omega) ⟨by omega, by omega⟩ dL_law_1434 ?_
      refine k_topv (vI 0) rfl ?_
      refine k_iload hC dL_law_1437 1 rfl ?_
      refine k_icmp_eq hC 1444 dL_law_1439 rfl (by omega) (by omega) (fun c_1439 => ?_) (fun c_1439 => absurd c_1439 (by omega))
      refine k_iload hC dL_law_1444 1 rfl ?_
      refine k_if_ne hC 1461 dL_law_1446 rfl (by omega) (fun c_1446 => absurd c_1446 (by omega)) (fun c_1446 => ?_)
      refine k_aload_n hC dL_law_1449 rfl 4 rfl ?_
      refine k_iconst hC dL_law_1450 ?_
      have h_3 : w3 148 = lA G 1 (fun _ => i32 (resV gc (xI xs (i + 2)) (xI xs (i + 1)).toNat)) := (hf3 148 (by decide)).trans h148
      refine k_lald hC (kl hN (by decide)) h_3 (by omega) (by decide) dL_law_1451 ?_
      refine k_topv (vL (i32 (resV gc (xI xs (i + 2)) (xI xs (i + 1)).toNat))) rfl ?_
      refine k_iload hC dL_law_1452 0 rfl ?_
      refine k_topv (vI (i32 b3)) (vI_32 _) ?_
      refine k_i2l hC dL_law_1454 (i32_r _) ?_
      refine k_lcmp_eq hC 1461 dL_law_1455 dL_law_1456 rfl (i32_l _) (i32_l _) (fun c_1455 => ?_) (fun c_1455 => absurd (congrArg i32 (show (resV gc (xI xs (i + 2)) (xI xs (i + 1)).toNat) = b3 from (gE_resV hE hI _ (by omega)).trans q3.symm)) c_1455)
      refine k_goto hC 2319 dL_law_1461 rfl ?_
      refine k_lvs (ls := [2, 3, 4, 5, 6, 7]) [(5, vI (i : Int)), (4, .ref (kad G 149)), (3, .ref (kad G 148)), (2, .ref (kad G 133)), (1, .ref (kad G 0)), (0, .ref b)] rfl ?_
      have h_4 : w3 149 = dA G 1 oD := (hf3 149 (by decide)).trans ((hf2 149 (by decide)).trans ((hfP 149 (by decide)).trans o2))
      exact kk w3 fl _ _ (LI.rd hc hm hr hw hT (hCh1.fr (fun j q1 q2 => hf3 j (by omega))) hS3 hm3 ⟨rfl, rfl, rfl, rfl, rfl⟩ ⟨⟨_, h_3⟩, ⟨_, h_4⟩⟩ (fun j hj => (hf3 j (by omega)).trans ((hf2 j (by omega)).trans (hfP j (by omega))))) (by omega) (by omega)
    · exfalso; omega
    · exfalso; omega
  · subst hv
    obtain ⟨hfl, hP⟩ := hP
    subst hfl
    obtain ⟨hCh, hfP⟩ := hP
    have hCh1 := hCh
    have hSc1 : kScr G w1 := b5.fr (fun j q1 q2 => hfP j (by omega))
    show KW p l e R s m args below meth c 10 G Q w1 fl (cs + 8) (ss + 48) 1413 [(5, vI (i : Int)), (4, .ref (kad G 149)), (3, .ref (kad G 148)), (2, .ref (kad G 133)), (1, .ref (kad G 0)), (0, .ref b)] [vI 1]
    refine k_istore hC [(6, vI 1), (5, vI (i : Int)), (4, .ref (kad G 149)), (3, .ref (kad G 148)), (2, .ref (kad G 133)), (1, .ref (kad G 0)), (0, .ref b)] dL_law_1413 (by decide) rfl ?_
    refine k_aload_n hC dL_law_1415 rfl 4 rfl ?_
    refine k_aload_n hC dL_law_1416 rfl 6 rfl ?_
    refine k_iload hC dL_law_1417 1 rfl ?_
    refine k_iconst hC dL_law_1419 ?_
    refine k_iadd hC dL_law_1420 ?_
    refine k_scr hC hX hbl hbA hL (i + 1) (by omega) (by omega) dL_law_1421 ?_
    refine k_aload_n hC dL_law_1422 rfl 6 rfl ?_
    refine k_iload hC dL_law_1423 1 rfl ?_
    refine k_iconst hC dL_law_1425 ?_
    refine k_iadd hC dL_law_1426 ?_
    refine k_scr hC hX hbl hbA hL (i + 2) (by omega) (by omega) dL_law_1427 ?_
    have h_5 : w1 133 = mdO G u := (hfP 133 (by decide)).trans b0
    have h_6 : w1 134 = lA G 93 gr := (hfP 134 (by decide)).trans b1
    refine k_callV hC (c_X12_residual l hls G hN w1 fl u gr (xI xs (i + 1)) (xI xs (i + 2)) (xI_r xs _) (xI_r xs _) hIr h_5 h_6 hSc1) yy_X12_residual wm_L_171 (kl hN (by decide)) h_5 rfl rfl rfl rfl (Nat.le_of_ble_eq_true rfl) (by omega) (by omega) ⟨by omega, by omega⟩ dL_law_1428 (fun v3 w3 fl3 hp3 => ?_)
    obtain ⟨b3, th3, hv3, hfl3, hR3, hP3⟩ := hp3
    subst hv3
    subst hfl3
    obtain ⟨⟨fe, fn, hm3⟩, hS3, hf3⟩ := hP3
    rcases hR3 with ⟨q1, q2, q3⟩ | ⟨q1, q2⟩ | ⟨q1, q2⟩
    · exfalso; omega
    · subst q2
      show KW p l e R s m args below meth c 10 G Q w3 fl (cs + 8) (ss + 48) 1431 [(6, vI 1), (5, vI (i : Int)), (4, .ref (kad G 149)), (3, .ref (kad G 148)), (2, .ref (kad G 133)), (1, .ref (kad G 0)), (0, .ref b)] [vI b3]
      refine k_istore hC [(7, vI b3), (6, vI 1), (5, vI (i : Int)), (4, .ref (kad G 149)), (3, .ref (kad G 148)), (2, .ref (kad G 133)), (1, .ref (kad G 0)), (0, .ref b)] dL_law_1431 (by decide) rfl ?_
      refine k_aload_n hC dL_law_1433 rfl 5 rfl ?_
      refine k_pureV hC (c_X12_thrown l hls G hN w3 fl (kup (kup (kup u 5 1) 12 fe) 13 fn) hm3) yy_X12_thrown wm_L_113 (kl hN (by decide)) hm3 rfl rfl rfl rfl (Nat.le_of_ble_eq_true rfl) (by omega) (by omega) ⟨by omega, by omega⟩ dL_law_1434 ?_
      refine k_topv (vI 1) rfl ?_
      refine k_iload hC dL_law_1437 1 rfl ?_
      refine k_icmp_eq hC 1444 dL_law_1439 rfl (by omega) (by omega) (fun c_1439 => ?_) (fun c_1439 => absurd c_1439 (by omega))
      refine k_iload hC dL_law_1444 1 rfl ?_
      refine k_if_ne hC 1461 dL_law_1446 rfl (by omega) (fun c_1446 => ?_) (fun c_1446 => absurd c_1446 (by omega))
      refine k_goto hC 2319 dL_law_1461 rfl ?_
      refine k_lvs (ls := [2, 3, 4, 5, 6, 7]) [(5, vI (i : Int)), (4, .ref (kad G 149)), (3, .ref (kad G 148)), (2, .ref (kad G 133)), (1, .ref (kad G 0)), (0, .ref b)] rfl ?_
      have h_7 : w3 148 = lA G 1 out := (hf3 148 (by decide)).trans ((hfP 148 (by decide)).trans o1)
      have h_8 : w3 149 = dA G 1 oD := (hf3 149 (by decide)).trans ((hfP 149 (by decide)).trans o2)
      exact kk w3 fl _ _ (LI.rd hc hm hr hw hT (hCh1.fr (fun j q1 q2 => hf3 j (by omega))) hS3 hm3 ⟨rfl, rfl, rfl, rfl, rfl⟩ ⟨⟨_, h_7⟩, ⟨_, h_8⟩⟩ (fun j hj => (hf3 j (by omega)).trans (hfP j (by omega)))) (by omega) (by omega)
    · exfalso; omega
  · subst hv
    obtain ⟨hfl, hP⟩ := hP
    subst hfl
    obtain ⟨hCh, hfP⟩ := hP
    have hCh1 := hCh
    have hSc1 : kScr G w1 := b5.fr (fun j q1 q2 => hfP j (by omega))
    show KW p l e R s m args below meth c 10 G Q w1 fl (cs + 8) (ss + 48) 1413 [(5, vI (i : Int)), (4, .ref (kad G 149)), (3, .ref (kad G 148)), (2, .ref (kad G 133)), (1, .ref (kad G 0)), (0, .ref b)] [vI 2]
    refine k_istore hC [(6, vI 2), (5, vI (i : Int)), (4, .ref (kad G 149)), (3, .ref (kad G 148)), (2, .ref (kad G 133)), (1, .ref (kad G 0)), (0, .ref b)] dL_law_1413 (by decide) rfl ?_
    refine k_aload_n hC dL_law_1415 rfl 4 rfl ?_
    refine k_aload_n hC dL_law_1416 rfl 6 rfl ?_
    refine k_iload hC dL_law_1417 1 rfl ?_
    refine k_iconst hC dL_law_1419 ?_
    refine k_iadd hC dL_law_1420 ?_
    refine k_scr hC hX hbl hbA hL (i + 1) (by omega) (by omega) dL_law_1421 ?_
    refine k_aload_n hC dL_law_1422 rfl 6 rfl ?_
    refine k_iload hC dL_law_1423 1 rfl ?_
    refine k_iconst hC dL_law_1425 ?_
    refine k_iadd hC dL_law_1426 ?_
    refine k_scr hC hX hbl hbA hL (i + 2) (by omega) (by omega) dL_law_1427 ?_
    have h_9 : w1 133 = mdO G u := (hfP 133 (by decide)).trans b0
    have h_10 : w1 134 = lA G 93 gr := (hfP 134 (by decide)).trans b1
    refine k_callV hC (c_X12_residual l hls G hN w1 fl u gr (xI xs (i + 1)) (xI xs (i + 2)) (xI_r xs _) (xI_r xs _) hIr h_9 h_10 hSc1) yy_X12_residual wm_L_171 (kl hN (by decide)) h_9 rfl rfl rfl rfl (Nat.le_of_ble_eq_true rfl) (by omega) (by omega) ⟨by omega, by omega⟩ dL_law_1428 (fun v3 w3 fl3 hp3 => ?_)
    obtain ⟨b3, th3, hv3, hfl3, hR3, hP3⟩ := hp3
    subst hv3
    subst hfl3
    obtain ⟨⟨fe, fn, hm3⟩, hS3, hf3⟩ := hP3
    rcases hR3 with ⟨q1, q2, q3⟩ | ⟨q1, q2⟩ | ⟨q1, q2⟩
    · exfalso; omega
    · exfalso; omega
    · subst q2
      show KW p l e R s m args below meth c 10 G Q w3 fl (cs + 8) (ss + 48) 1431 [(6, vI 2), (5, vI (i : Int)), (4, .ref (kad G 149)), (3, .ref (kad G 148)), (2, .ref (kad G 133)), (1, .ref (kad G 0)), (0, .ref b)] [vI b3]
      refine k_istore hC [(7, vI b3), (6, vI 2), (5, vI (i : Int)), (4, .ref (kad G 149)), (3, .ref (kad G 148)), (2, .ref (kad G 133)), (1, .ref (kad G 0)), (0, .ref b)] dL_law_1431 (by decide) rfl ?_
      refine k_aload_n hC dL_law_1433 rfl 5 rfl ?_
      refine k_pureV hC (c_X12_thrown l hls G hN w3 fl (kup (kup (kup u 5 2) 12 fe) 13 fn) hm3) yy_X12_thrown wm_L_113 (kl hN (by decide)) hm3 rfl rfl rfl rfl (Nat.le_of_ble_eq_true rfl) (by omega) (by omega) ⟨by omega, by omega⟩ dL_law_1434 ?_
      refine k_topv (vI 2) rfl ?_
      refine k_iload hC dL_law_1437 1 rfl ?_
      refine k_icmp_eq hC 1444 dL_law_1439 rfl (by omega) (by omega) (fun c_1439 => ?_) (fun c_1439 => absurd c_1439 (by omega))
      refine k_iload hC dL_law_1444 1 rfl ?_
      refine k_if_ne hC 1461 dL_law_1446 rfl (by omega) (fun c_1446 => ?_) (fun c_1446 => absurd c_1446 (by omega))
      refine k_goto hC 2319 dL_law_1461 rfl ?_
      refine k_lvs (ls := [2, 3, 4, 5, 6, 7]) [(5, vI (i : Int)), (4, .ref (kad G 149)), (3, .ref (kad G 148)), (2, .ref (kad G 133)), (1, .ref (kad G 0)), (0, .ref b)] rfl ?_
      have h_11 : w3 148 = lA G 1 out := (hf3 148 (by decide)).trans ((hfP 148 (by decide)).trans o1)
      have h_12 : w3 149 = dA G 1 oD := (hf3 149 (by decide)).trans ((hfP 149 (by decide)).trans o2)
      exact kk w3 fl _ _ (LI.rd hc hm hr hw hT (hCh1.fr (fun j q1 q2 => hf3 j (by omega))) hS3 hm3 ⟨rfl, rfl, rfl, rfl, rfl⟩ ⟨⟨_, h_11⟩, ⟨_, h_12⟩⟩ (fun j hj => (hf3 j (by omega)).trans (hfP j (by omega)))) (by omega) (by omega)

set_option maxRecDepth 100000 in
set_option maxHeartbeats 4000000 in
theorem lw_worst {p : Program} {l : Launch} {e : Env} {R : Room} {s : State} {m : MethodId} {args : Array Value} {below : List Frame} {meth : Method} {c : Code} {G : kG} {d0 mc0 ms0 : Nat} {Q : State → Prop} {b L : Nat} {xs : Nat → Int32} (hC : kC p l R s m args meth c cL_law RL 10 G d0 mc0 ms0) (hls : l.stackTraces = false) (hN : kN G = 150) (hNc : va_Nc "java/lang/IllegalArgumentException" "java/util/NoSuchElementException" s) (hX : va_X b L xs s s.heap) (hbl : b < s.heap.size) (hbA : ¬ kA G b) (hL : L ≤ 3584) (hd0 : 60 ≤ d0) {cs ss : Nat} (hcs : cs + 16 ≤ mc0 ∧ ss + 400 ≤ ms0) (i : Nat) (hi : i + 7 ≤ L) (w : Nat → va_E) (fl : va_W) (hLI : LI G w fl)
    (kk : ∀ (w' : Nat → va_E) (fl' : va_W) (cs' ss' : Nat), LI G w' fl' → cs' ≤ cs + 16 → ss' ≤ ss + 400 → KW p l e R s m args below meth c 10 G Q w' fl' cs' ss' 2319 [(5, vI (i : Int)), (4, .ref (kad G 149)), (3, .ref (kad G 148)), (2, .ref (kad G 133)), (1, .ref (kad G 0)), (0, .ref b)] []) : KW p l e R s m args below meth c 10 G Q w fl cs ss 1464 [(5, vI (i : Int)), (4, .ref (kad G 149)), (3, .ref (kad G 148)), (2, .ref (kad G 133)), (1, .ref (kad G 0)), (0, .ref b)] [] := by
  obtain ⟨bt, gc, nl, gp0, nl9, gl0, gs, c0, nx, cn, cap, cd, ea, kd, nm, sa, nx9, en, sv, hs, T, u, gr, D0, sp, H, hc, hm, ho, hr, hw, hT⟩ := hLI
  have hc1 := hc
  have hm1 := hm
  have hr1 := hr
  have ho1 := ho
  obtain ⟨⟨a0, asv⟩, a1, ⟨a2, abt, ac7⟩, a3, a4, a5, a6, ⟨a7, anx, acn⟩, ⟨a8, a9, a10⟩, ⟨a11, a12, a13⟩, a14⟩ := hc1
  obtain ⟨b0, b1, b2, b3, b4, b5, b6, b7, ⟨cf, b8⟩, ⟨fq, b9⟩⟩ := hm1
  obtain ⟨⟨out, o1⟩, ⟨oD, o2⟩⟩ := ho1
  obtain ⟨r0, r1, r2, r3, r4, r5, r6⟩ := hr1
  have hI := r0.inv
  have hIr := r0.2.1
  have hE := r0.1
  have e0 := hE.n 0 (by decide)
  have e1 := hE.n 1 (by decide)
  have e2 := hE.n 2 (by decide)
  have hgc := hI.c
  refine k_aload_n hC dL_law_1464 rfl 4 rfl ?_
  refine k_aload_n hC dL_law_1465 rfl 5 rfl ?_
  refine k_iload hC dL_law_1466 0 rfl ?_
  refine k_iconst hC dL_law_1468 ?_
  refine k_iadd hC dL_law_1469 ?_
  refine k_scr hC hX hbl hbA hL (i + 1) (by omega) (by omega) dL_law_1470 ?_
  refine k_aload_n hC dL_law_1471 rfl 2 rfl ?_
  refine k_callL hC hNc (n := 3) (c_L_worst l hls G hN w fl gc nl sv (xI xs (i + 1)) out (xI_r xs _) hI a0 a3 a4 a5 o1) wc_L_worst wz_L (by decide +kernel) wt_L_worst wm_L_172 rfl rfl (Nat.le_of_ble_eq_true rfl) (by omega) (by omega) ⟨by omega, by omega⟩ dL_law_1472 (fun v1 w1 fl1 hp => ?_)
  rcases hp with ⟨hv, hcc, w2, hP, h148, hf2⟩ | ⟨hP, ⟨hcc, hv⟩ | ⟨hcc, hv⟩⟩
  · subst hv
    obtain ⟨hfl, hP⟩ := hP
    subst hfl
    obtain ⟨hCh, hfP⟩ := hP
    have hCh1 : kCht G w1 := hCh.fr (fun j q1 q2 => hf2 j (by omega))
    have hSc1 : kScr G w1 := b5.fr (fun j q1 q2 => (hf2 j (by omega)).trans (hfP j (by omega)))
    show KW p l e R s m args below meth c 10 G Q w1 fl (cs + 8) (ss + 48) 1475 [(5, vI (i : Int)), (4, .ref (kad G 149)), (3, .ref (kad G 148)), (2, .ref (kad G 133)), (1, .ref (kad G 0)), (0, .ref b)] [vI 0]
    refine k_istore hC [(6, vI 0), (5, vI (i : Int)), (4, .ref (kad G 149)), (3, .ref (kad G 148)), (2, .ref (kad G 133)), (1, .ref (kad G 0)), (0, .ref b)] dL_law_1475 (by decide) rfl ?_
    refine k_aload_n hC dL_law_1477 rfl 4 rfl ?_
    refine k_aload_n hC dL_law_1478 rfl 6 rfl ?_
    refine k_iload hC dL_law_1479 1 rfl ?_
    refine k_iconst hC dL_law_1481 ?_
    refine k_iadd hC dL_law_1482 ?_
    refine k_scr hC hX hbl hbA hL (i + 1) (by omega) (by omega) dL_law_1483 ?_
    have h_1 : w1 133 = mdO G u := (hf2 133 (by decide)).trans ((hfP 133 (by decide)).trans b0)
    have h_2 : w1 134 = lA G 93 gr := (hf2 134 (by decide)).trans ((hfP 134 (by decide)).trans b1)
    refine k_callV hC (c_X12_worst l hls G hN w1 fl u gr (xI xs (i + 1)) (xI_r xs _) hIr h_1 h_2 hSc1) yy_X12_worst wm_L_174 (kl hN (by decide)) h_1 rfl rfl rfl rfl (Nat.le_of_ble_eq_true rfl) (by omega) (by omega) ⟨by omega, by omega⟩ dL_law_1484 (fun v3 w3 fl3 hp3 => ?_)
    obtain ⟨b3, th3, hv3, hfl3, hR3, hP3⟩ := hp3
    subst hv3
    subst hfl3
    obtain ⟨⟨fe, fn, hm3⟩, hS3, hf3⟩ := hP3
    rcases hR3 with ⟨q1, q2, q3⟩ | ⟨q1, q2⟩ | ⟨q1, q2⟩
    · subst q2
      show KW p l e R s m args below meth c 10 G Q w3 fl (cs + 8) (ss + 48) 1487 [(6, vI 0), (5, vI (i : Int)), (4, .ref (kad G 149)), (3, .ref (kad G 148)), (2, .ref (kad G 133)), (1, .ref (kad G 0)), (0, .ref b)] [vI b3]
      refine k_istore hC [(7, vI b3), (6, vI 0), (5, vI (i : Int)), (4, .ref (kad G 149)), (3, .ref (kad G 148)), (2, .ref (kad G 133)), (1, .ref (kad G 0)), (0, .ref b)] dL_law_1487 (by decide) rfl ?_
      refine k_aload_n hC dL_law_1489 rfl 5 rfl ?_
      refine k_pureV hC (c_X12_thrown l hls G hN w3 fl (kup (kup (kup u 5 0) 12 fe) 13 fn) hm3) yy_X12_thrown wm_L_113 (kl hN (by decide)) hm3 rfl rfl rfl rfl (Nat.le_of_ble_eq_true rfl) (by omega) (by omega) ⟨by omega, by omega⟩ dL_law_1490 ?_
      refine k_topv (vI 0) rfl ?_
      refine k_iload hC dL_law_1493 1 rfl ?_
      refine k_icmp_eq hC 1500 dL_law_1495 rfl (by omega) (by omega) (fun c_1495 => ?_) (fun c_1495 => absurd c_1495 (by omega))
      refine k_iload hC dL_law_1500 1 rfl ?_
      refine k_if_ne hC 1517 dL_law_1502 rfl (by omega) (fun c_1502 => absurd c_1502 (by omega)) (fun c_1502 => ?_)
      refine k_aload_n hC dL_law_1505 rfl 4 rfl ?_
      refine k_iconst hC dL_law_1506 ?_
      have h_3 : w3 148 = lA G 1 (fun _ => i32 (worV gc (xI xs (i + 1)))) := (hf3 148 (by decide)).trans h148
      refine k_lald hC (kl hN (by decide)) h_3 (by omega) (by decide) dL_law_1507 ?_
      refine k_topv (vL (i32 (worV gc (xI xs (i + 1))))) rfl ?_
      refine k_iload hC dL_law_1508 0 rfl ?_
      refine k_topv (vI (i32 b3)) (vI_32 _) ?_
      refine k_i2l hC dL_law_1510 (i32_r _) ?_
      refine k_lcmp_eq hC 1517 dL_law_1511 dL_law_1512 rfl (i32_l _) (i32_l _) (fun c_1511 => ?_) (fun c_1511 => absurd (congrArg i32 (show (worV gc (xI xs (i + 1))) = b3 from (gE_worV hE hI _).trans q3.symm)) c_1511)
      refine k_goto hC 2319 dL_law_1517 rfl ?_
      refine k_lvs (ls := [2, 3, 4, 5, 6, 7]) [(5, vI (i : Int)), (4, .ref (kad G 149)), (3, .ref (kad G 148)), (2, .ref (kad G 133)), (1, .ref (kad G 0)), (0, .ref b)] rfl ?_
      have h_4 : w3 149 = dA G 1 oD := (hf3 149 (by decide)).trans ((hf2 149 (by decide)).trans ((hfP 149 (by decide)).trans o2))
      exact kk w3 fl _ _ (LI.rd hc hm hr hw hT (hCh1.fr (fun j q1 q2 => hf3 j (by omega))) hS3 hm3 ⟨rfl, rfl, rfl, rfl, rfl⟩ ⟨⟨_, h_3⟩, ⟨_, h_4⟩⟩ (fun j hj => (hf3 j (by omega)).trans ((hf2 j (by omega)).trans (hfP j (by omega))))) (by omega) (by omega)
    · exact q1.elim
    · exfalso; omega
  · exact hcc.elim
  · subst hv
    obtain ⟨hfl, hP⟩ := hP
    subst hfl
    obtain ⟨hCh, hfP⟩ := hP
    have hCh1 := hCh
    have hSc1 : kScr G w1 := b5.fr (fun j q1 q2 => hfP j (by omega))
    show KW p l e R s m args below meth c 10 G Q w1 fl (cs + 8) (ss + 48) 1475 [(5, vI (i : Int)), (4, .ref (kad G 149)), (3, .ref (kad G 148)), (2, .ref (kad G 133)), (1, .ref (kad G 0)), (0, .ref b)] [vI 1]
    refine k_istore hC [(6, vI 1), (5, vI (i : Int)), (4, .ref (kad G 149)), (3, .ref (kad G 148)), (2, .ref (kad G 133)), (1, .ref (kad G 0)), (0, .ref b)] dL_law_1475 (by decide) rfl ?_
    refine k_aload_n hC dL_law_1477 rfl 4 rfl ?_
    refine k_aload_n hC dL_law_1478 rfl 6 rfl ?_
    refine k_iload hC dL_law_1479 1 rfl ?_
    refine k_iconst hC dL_law_1481 ?_
    refine k_iadd hC dL_law_1482 ?_
    refine k_scr hC hX hbl hbA hL (i + 1) (by omega) (by omega) dL_law_1483 ?_
    have h_5 : w1 133 = mdO G u := (hfP 133 (by decide)).trans b0
    have h_6 : w1 134 = lA G 93 gr := (hfP 134 (by decide)).trans b1
    refine k_callV hC (c_X12_worst l hls G hN w1 fl u gr (xI xs (i + 1)) (xI_r xs _) hIr h_5 h_6 hSc1) yy_X12_worst wm_L_174 (kl hN (by decide)) h_5 rfl rfl rfl rfl (Nat.le_of_ble_eq_true rfl) (by omega) (by omega) ⟨by omega, by omega⟩ dL_law_1484 (fun v3 w3 fl3 hp3 => ?_)
    obtain ⟨b3, th3, hv3, hfl3, hR3, hP3⟩ := hp3
    subst hv3
    subst hfl3
    obtain ⟨⟨fe, fn, hm3⟩, hS3, hf3⟩ := hP3
    rcases hR3 with ⟨q1, q2, q3⟩ | ⟨q1, q2⟩ | ⟨q1, q2⟩
    · exfalso; omega
    · exact q1.elim
    · subst q2
      show KW p l e R s m args below meth c 10 G Q w3 fl (cs + 8) (ss + 48) 1487 [(6, vI 1), (5, vI (i : Int)), (4, .ref (kad G 149)), (3, .ref (kad G 148)), (2, .ref (kad G 133)), (1, .ref (kad G 0)), (0, .ref b)] [vI b3]
      refine k_istore hC [(7, vI b3), (6, vI 1), (5, vI (i : Int)), (4, .ref (kad G 149)), (3, .ref (kad G 148)), (2, .ref (kad G 133)), (1, .ref (kad G 0)), (0, .ref b)] dL_law_1487 (by decide) rfl ?_
      refine k_aload_n hC dL_law_1489 rfl 5 rfl ?_
      refine k_pureV hC (c_X12_thrown l hls G hN w3 fl (kup (kup (kup u 5 1) 12 fe) 13 fn) hm3) yy_X12_thrown wm_L_113 (kl hN (by decide)) hm3 rfl rfl rfl rfl (Nat.le_of_ble_eq_true rfl) (by omega) (by omega) ⟨by omega, by omega⟩ dL_law_1490 ?_
      refine k_topv (vI 1) rfl ?_
      refine k_iload hC dL_law_1493 1 rfl ?_
      refine k_icmp_eq hC 1500 dL_law_1495 rfl (by omega) (by omega) (fun c_1495 => ?_) (fun c_1495 => absurd c_1495 (by omega))
      refine k_iload hC dL_law_1500 1 rfl ?_
      refine k_if_ne hC 1517 dL_law_1502 rfl (by omega) (fun c_1502 => ?_) (fun c_1502 => absurd c_1502 (by omega))
      refine k_goto hC 2319 dL_law_1517 rfl ?_
      refine k_lvs (ls := [2, 3, 4, 5, 6, 7]) [(5, vI (i : Int)), (4, .ref (kad G 149)), (3, .ref (kad G 148)), (2, .ref (kad G 133)), (1, .ref (kad G 0)), (0, .ref b)] rfl ?_
      have h_7 : w3 148 = lA G 1 out := (hf3 148 (by decide)).trans ((hfP 148 (by decide)).trans o1)
      have h_8 : w3 149 = dA G 1 oD := (hf3 149 (by decide)).trans ((hfP 149 (by decide)).trans o2)
      exact kk w3 fl _ _ (LI.rd hc hm hr hw hT (hCh1.fr (fun j q1 q2 => hf3 j (by omega))) hS3 hm3 ⟨rfl, rfl, rfl, rfl, rfl⟩ ⟨⟨_, h_7⟩, ⟨_, h_8⟩⟩ (fun j hj => (hf3 j (by omega)).trans (hfP j (by omega)))) (by omega) (by omega)

set_option maxRecDepth 100000 in
set_option maxHeartbeats 4000000 in
theorem lw_offCourse {p : Program} {l : Launch} {e : Env} {R : Room} {s : State} {m : MethodId} {args : Array Value} {below : List Frame} {meth : Method} {c : Code} {G : kG} {d0 mc0 ms0 : Nat} {Q : State → Prop} {b L : Nat} {xs : Nat → Int32} (hC : kC p l R s m args meth c cL_law RL 10 G d0 mc0 ms0) (hls : l.stackTraces = false) (hN : kN G = 150) (hNc : va_Nc "java/lang/IllegalArgumentException" "java/util/NoSuchElementException" s) (hX : va_X b L xs s s.heap) (hbl : b < s.heap.size) (hbA : ¬ kA G b) (hL : L ≤ 3584) (hd0 : 60 ≤ d0) {cs ss : Nat} (hcs : cs + 16 ≤ mc0 ∧ ss + 400 ≤ ms0) (i : Nat) (hi : i + 7 ≤ L) (w : Nat → va_E) (fl : va_W) (hLI : LI G w fl)
    (kk : ∀ (w' : Nat → va_E) (fl' : va_W) (cs' ss' : Nat), LI G w' fl' → cs' ≤ cs + 16 → ss' ≤ ss + 400 → KW p l e R s m args below meth c 10 G Q w' fl' cs' ss' 2319 [(5, vI (i : Int)), (4, .ref (kad G 149)), (3, .ref (kad G 148)), (2, .ref (kad G 133)), (1, .ref (kad G 0)), (0, .ref b)] []) : KW p l e R s m args below meth c 10 G Q w fl cs ss 1520 [(5, vI (i : Int)), (4, .ref (kad G 149)), (3, .ref (kad G 148)), (2, .ref (kad G 133)), (1, .ref (kad G 0)), (0, .ref b)] [] := by
  obtain ⟨bt, gc, nl, gp0, nl9, gl0, gs, c0, nx, cn, cap, cd, ea, kd, nm, sa, nx9, en, sv, hs, T, u, gr, D0, sp, H, hc, hm, ho, hr, hw, hT⟩ := hLI
  have hc1 := hc
  have hm1 := hm
  have hr1 := hr
  have ho1 := ho
  obtain ⟨⟨a0, asv⟩, a1, ⟨a2, abt, ac7⟩, a3, a4, a5, a6, ⟨a7, anx, acn⟩, ⟨a8, a9, a10⟩, ⟨a11, a12, a13⟩, a14⟩ := hc1
  obtain ⟨b0, b1, b2, b3, b4, b5, b6, b7, ⟨cf, b8⟩, ⟨fq, b9⟩⟩ := hm1
  obtain ⟨⟨out, o1⟩, ⟨oD, o2⟩⟩ := ho1
  obtain ⟨r0, r1, r2, r3, r4, r5, r6⟩ := hr1
  have hI := r0.inv
  have hIr := r0.2.1
  have hE := r0.1
  have e0 := hE.n 0 (by decide)
  have e1 := hE.n 1 (by decide)
  have e2 := hE.n 2 (by decide)
  have hgc := hI.c
  refine k_aload_n hC dL_law_1520 rfl 4 rfl ?_
  refine k_aload_n hC dL_law_1521 rfl 5 rfl ?_
  refine k_iload hC dL_law_1522 0 rfl ?_
  refine k_iconst hC dL_law_1524 ?_
  refine k_iadd hC dL_law_1525 ?_
  refine k_scr hC hX hbl hbA hL (i + 1) (by omega) (by omega) dL_law_1526 ?_
  refine k_aload_n hC dL_law_1527 rfl 2 rfl ?_
  refine k_callL hC hNc (n := 3) (c_L_offCourse l hls G hN w fl gc nl sv (xI xs (i + 1)) out (xI_r xs _) hI a0 a3 a4 a5 o1) wc_L_offCourse wz_L (by decide +kernel) wt_L_offCourse wm_L_175 rfl rfl (Nat.le_of_ble_eq_true rfl) (by omega) (by omega) ⟨by omega, by omega⟩ dL_law_1528 (fun v1 w1 fl1 hp => ?_)
  rcases hp with ⟨hv, hcc, w2, hP, h148, hf2⟩ | ⟨hP, ⟨hcc, hv⟩ | ⟨hcc, hv⟩⟩
  · subst hv
    obtain ⟨hfl, hP⟩ := hP
    subst hfl
    obtain ⟨hCh, hfP⟩ := hP
    have hCh1 : kCht G w1 := hCh.fr (fun j q1 q2 => hf2 j (by omega))
    have hSc1 : kScr G w1 := b5.fr (fun j q1 q2 => (hf2 j (by omega)).trans (hfP j (by omega)))
    show KW p l e R s m args below meth c 10 G Q w1 fl (cs + 8) (ss + 48) 1531 [(5, vI (i : Int)), (4, .ref (kad G 149)), (3, .ref (kad G 148)), (2, .ref (kad G 133)), (1, .ref (kad G 0)), (0, .ref b)] [vI 0]
    refine k_istore hC [(6, vI 0), (5, vI (i : Int)), (4, .ref (kad G 149)), (3, .ref (kad G 148)), (2, .ref (kad G 133)), (1, .ref (kad G 0)), (0, .ref b)] dL_law_1531 (by decide) rfl ?_
    refine k_aload_n hC dL_law_1533 rfl 4 rfl ?_
    refine k_aload_n hC dL_law_1534 rfl 6 rfl ?_
    refine k_iload hC dL_law_1535 1 rfl ?_
    refine k_iconst hC dL_law_1537 ?_
    refine k_iadd hC dL_law_1538 ?_
    refine k_scr hC hX hbl hbA hL (i + 1) (by omega) (by omega) dL_law_1539 ?_
    have h_1 : w1 133 = mdO G u := (hf2 133 (by decide)).trans ((hfP 133 (by decide)).trans b0)
    have h_2 : w1 134 = lA G 93 gr := (hf2 134 (by decide)).trans ((hfP 134 (by decide)).trans b1)
    refine k_callV hC (c_X12_offCourse l hls G hN w1 fl u gr (xI xs (i + 1)) (xI_r xs _) hIr h_1 h_2 hSc1) yy_X12_offCourse wm_L_177 (kl hN (by decide)) h_1 rfl rfl rfl rfl (Nat.le_of_ble_eq_true rfl) (by omega) (by omega) ⟨by omega, by omega⟩ dL_law_1540 (fun v3 w3 fl3 hp3 => ?_)
    obtain ⟨b3, th3, hv3, hfl3, hR3, hP3⟩ := hp3
    subst hv3
    subst hfl3
    obtain ⟨⟨fe, fn, hm3⟩, hS3, hf3⟩ := hP3
    rcases hR3 with ⟨q1, q2, q3⟩ | ⟨q1, q2⟩ | ⟨q1, q2⟩
    · subst q2
      show KW p l e R s m args below meth c 10 G Q w3 fl (cs + 8) (ss + 48) 1543 [(6, vI 0), (5, vI (i : Int)), (4, .ref (kad G 149)), (3, .ref (kad G 148)), (2, .ref (kad G 133)), (1, .ref (kad G 0)), (0, .ref b)] [vI b3]
      refine k_istore hC [(7, vI b3), (6, vI 0), (5, vI (i : Int)), (4, .ref (kad G 149)), (3, .ref (kad G 148)), (2, .ref (kad G 133)), (1, .ref (kad G 0)), (0, .ref b)] dL_law_1543 (by decide) rfl ?_
      refine k_aload_n hC dL_law_1545 rfl 5 rfl ?_
      refine k_pureV hC (c_X12_thrown l hls G hN w3 fl (kup (kup (kup u 5 0) 12 fe) 13 fn) hm3) yy_X12_thrown wm_L_113 (kl hN (by decide)) hm3 rfl rfl rfl rfl (Nat.le_of_ble_eq_true rfl) (by omega) (by omega) ⟨by omega, by omega⟩ dL_law_1546 ?_
      refine k_topv (vI 0) rfl ?_
      refine k_iload hC dL_law_1549 1 rfl ?_
      refine k_icmp_eq hC 1556 dL_law_1551 rfl (by omega) (by omega) (fun c_1551 => ?_) (fun c_1551 => absurd c_1551 (by omega))
      refine k_iload hC dL_law_1556 1 rfl ?_
      refine k_if_ne hC 1573 dL_law_1558 rfl (by omega) (fun c_1558 => absurd c_1558 (by omega)) (fun c_1558 => ?_)
      refine k_aload_n hC dL_law_1561 rfl 4 rfl ?_
      refine k_iconst hC dL_law_1562 ?_
      have h_3 : w3 148 = lA G 1 (fun _ => i32 (offV gc (xI xs (i + 1)))) := (hf3 148 (by decide)).trans h148
      refine k_lald hC (kl hN (by decide)) h_3 (by omega) (by decide) dL_law_1563 ?_
      refine k_topv (vL (i32 (offV gc (xI xs (i + 1))))) rfl ?_
      refine k_iload hC dL_law_1564 0 rfl ?_
      refine k_topv (vI (i32 b3)) (vI_32 _) ?_
      refine k_i2l hC dL_law_1566 (i32_r _) ?_
      refine k_lcmp_eq hC 1573 dL_law_1567 dL_law_1568 rfl (i32_l _) (i32_l _) (fun c_1567 => ?_) (fun c_1567 => absurd (congrArg i32 (show (offV gc (xI xs (i + 1))) = b3 from (gE_offV hE hI _).trans q3.symm)) c_1567)
      refine k_goto hC 2319 dL_law_1573 rfl ?_
      refine k_lvs (ls := [2, 3, 4, 5, 6, 7]) [(5, vI (i : Int)), (4, .ref (kad G 149)), (3, .ref (kad G 148)), (2, .ref (kad G 133)), (1, .ref (kad G 0)), (0, .ref b)] rfl ?_
      have h_4 : w3 149 = dA G 1 oD := (hf3 149 (by decide)).trans ((hf2 149 (by decide)).trans ((hfP 149 (by decide)).trans o2))
      exact kk w3 fl _ _ (LI.rd hc hm hr hw hT (hCh1.fr (fun j q1 q2 => hf3 j (by omega))) hS3 hm3 ⟨rfl, rfl, rfl, rfl, rfl⟩ ⟨⟨_, h_3⟩, ⟨_, h_4⟩⟩ (fun j hj => (hf3 j (by omega)).trans ((hf2 j (by omega)).trans (hfP j (by omega))))) (by omega) (by omega)
    · exact q1.elim
    · exfalso; omega
  · exact hcc.elim
  · subst hv
    obtain ⟨hfl, hP⟩ := hP
    subst hfl
    obtain ⟨hCh, hfP⟩ := hP
    have hCh1 := hCh
    have hSc1 : kScr G w1 := b5.fr (fun j q1 q2 => hfP j (by omega))
    show KW p l e R s m args below meth c 10 G Q w1 fl (cs + 8) (ss + 48) 1531 [(5, vI (i : Int)), (4, .ref (kad G 149)), (3, .ref (kad G 148)), (2, .ref (kad G 133)), (1, .ref (kad G 0)), (0, .ref b)] [vI 1]
    refine k_istore hC [(6, vI 1), (5, vI (i : Int)), (4, .ref (kad G 149)), (3, .ref (kad G 148)), (2, .ref (kad G 133)), (1, .ref (kad G 0)), (0, .ref b)] dL_law_1531 (by decide) rfl ?_
    refine k_aload_n hC dL_law_1533 rfl 4 rfl ?_
    refine k_aload_n hC dL_law_1534 rfl 6 rfl ?_
    refine k_iload hC dL_law_1535 1 rfl ?_
    refine k_iconst hC dL_law_1537 ?_
    refine k_iadd hC dL_law_1538 ?_
    refine k_scr hC hX hbl hbA hL (i + 1) (by omega) (by omega) dL_law_1539 ?_
    have h_5 : w1 133 = mdO G u := (hfP 133 (by decide)).trans b0
    have h_6 : w1 134 = lA G 93 gr := (hfP 134 (by decide)).trans b1
    refine k_callV hC (c_X12_offCourse l hls G hN w1 fl u gr (xI xs (i + 1)) (xI_r xs _) hIr h_5 h_6 hSc1) yy_X12_offCourse wm_L_177 (kl hN (by decide)) h_5 rfl rfl rfl rfl (Nat.le_of_ble_eq_true rfl) (by omega) (by omega) ⟨by omega, by omega⟩ dL_law_1540 (fun v3 w3 fl3 hp3 => ?_)
    obtain ⟨b3, th3, hv3, hfl3, hR3, hP3⟩ := hp3
    subst hv3
    subst hfl3
    obtain ⟨⟨fe, fn, hm3⟩, hS3, hf3⟩ := hP3
    rcases hR3 with ⟨q1, q2, q3⟩ | ⟨q1, q2⟩ | ⟨q1, q2⟩
    · exfalso; omega
    · exact q1.elim
    · subst q2
      show KW p l e R s m args below meth c 10 G Q w3 fl (cs + 8) (ss + 48) 1543 [(6, vI 1), (5, vI (i : Int)), (4, .ref (kad G 149)), (3, .ref (kad G 148)), (2, .ref (kad G 133)), (1, .ref (kad G 0)), (0, .ref b)] [vI b3]
      refine k_istore hC [(7, vI b3), (6, vI 1), (5, vI (i : Int)), (4, .ref (kad G 149)), (3, .ref (kad G 148)), (2, .ref (kad G 133)), (1, .ref (kad G 0)), (0, .ref b)] dL_law_1543 (by decide) rfl ?_
      refine k_aload_n hC dL_law_1545 rfl 5 rfl ?_
      refine k_pureV hC (c_X12_thrown l hls G hN w3 fl (kup (kup (kup u 5 1) 12 fe) 13 fn) hm3) yy_X12_thrown wm_L_113 (kl hN (by decide)) hm3 rfl rfl rfl rfl (Nat.le_of_ble_eq_true rfl) (by omega) (by omega) ⟨by omega, by omega⟩ dL_law_1546 ?_
      refine k_topv (vI 1) rfl ?_
      refine k_iload hC dL_law_1549 1 rfl ?_
      refine k_icmp_eq hC 1556 dL_law_1551 rfl (by omega) (by omega) (fun c_1551 => ?_) (fun c_1551 => absurd c_1551 (by omega))
      refine k_iload hC dL_law_1556 1 rfl ?_
      refine k_if_ne hC 1573 dL_law_1558 rfl (by omega) (fun c_1558 => ?_) (fun c_1558 => absurd c_1558 (by omega))
      refine k_goto hC 2319 dL_law_1573 rfl ?_
      refine k_lvs (ls := [2, 3, 4, 5, 6, 7]) [(5, vI (i : Int)), (4, .ref (kad G 149)), (3, .ref (kad G 148)), (2, .ref (kad G 133)), (1, .ref (kad G 0)), (0, .ref b)] rfl ?_
      have h_7 : w3 148 = lA G 1 out := (hf3 148 (by decide)).trans ((hfP 148 (by decide)).trans o1)
      have h_8 : w3 149 = dA G 1 oD := (hf3 149 (by decide)).trans ((hfP 149 (by decide)).trans o2)
      exact kk w3 fl _ _ (LI.rd hc hm hr hw hT (hCh1.fr (fun j q1 q2 => hf3 j (by omega))) hS3 hm3 ⟨rfl, rfl, rfl, rfl, rfl⟩ ⟨⟨_, h_7⟩, ⟨_, h_8⟩⟩ (fun j hj => (hf3 j (by omega)).trans (hfP j (by omega)))) (by omega) (by omega)

set_option maxRecDepth 100000 in
set_option maxHeartbeats 4000000 in
theorem lw_unknownCurrent {p : Program} {l : Launch} {e : Env} {R : Room} {s : State} {m : MethodId} {args : Array Value} {below : List Frame} {meth : Method} {c : Code} {G : kG} {d0 mc0 ms0 : Nat} {Q : State → Prop} {b L : Nat} {xs : Nat → Int32} (hC : kC p l R s m args meth c cL_law RL 10 G d0 mc0 ms0) (hls : l.stackTraces = false) (hN : kN G = 150) (hNc : va_Nc "java/lang/IllegalArgumentException" "java/util/NoSuchElementException" s) (hX : va_X b L xs s s.heap) (hbl : b < s.heap.size) (hbA : ¬ kA G b) (hL : L ≤ 3584) (hd0 : 60 ≤ d0) {cs ss : Nat} (hcs : cs + 16 ≤ mc0 ∧ ss + 400 ≤ ms0) (i : Nat) (hi : i + 7 ≤ L) (w : Nat → va_E) (fl : va_W) (hLI : LI G w fl)
    (kk : ∀ (w' : Nat → va_E) (fl' : va_W) (cs' ss' : Nat), LI G w' fl' → cs' ≤ cs + 16 → ss' ≤ ss + 400 → KW p l e R s m args below meth c 10 G Q w' fl' cs' ss' 2319 [(5, vI (i : Int)), (4, .ref (kad G 149)), (3, .ref (kad G 148)), (2, .ref (kad G 133)), (1, .ref (kad G 0)), (0, .ref b)] []) : KW p l e R s m args below meth c 10 G Q w fl cs ss 1576 [(5, vI (i : Int)), (4, .ref (kad G 149)), (3, .ref (kad G 148)), (2, .ref (kad G 133)), (1, .ref (kad G 0)), (0, .ref b)] [] := by
  obtain ⟨bt, gc, nl, gp0, nl9, gl0, gs, c0, nx, cn, cap, cd, ea, kd, nm, sa, nx9, en, sv, hs, T, u, gr, D0, sp, H, hc, hm, ho, hr, hw, hT⟩ := hLI
  have hc1 := hc
  have hm1 := hm
  have hr1 := hr
  have ho1 := ho
  obtain ⟨⟨a0, asv⟩, a1, ⟨a2, abt, ac7⟩, a3, a4, a5, a6, ⟨a7, anx, acn⟩, ⟨a8, a9, a10⟩, ⟨a11, a12, a13⟩, a14⟩ := hc1
  obtain ⟨b0, b1, b2, b3, b4, b5, b6, b7, ⟨cf, b8⟩, ⟨fq, b9⟩⟩ := hm1
  obtain ⟨⟨out, o1⟩, ⟨oD, o2⟩⟩ := ho1
  obtain ⟨r0, r1, r2, r3, r4, r5, r6⟩ := hr1
  have hI := r0.inv
  have hIr := r0.2.1
  have hE := r0.1
  have e0 := hE.n 0 (by decide)
  have e1 := hE.n 1 (by decide)
  have e2 := hE.n 2 (by decide)
  have hgc := hI.c
  by_cases hq : xI xs (i + 2) = 0
  · refine k_aload_n hC dL_law_1576 rfl 4 rfl ?_
    refine k_aload_n hC dL_law_1577 rfl 5 rfl ?_
    refine k_iload hC dL_law_1578 0 rfl ?_
    refine k_iconst hC dL_law_1580 ?_
    refine k_iadd hC dL_law_1581 ?_
    refine k_scr hC hX hbl hbA hL (i + 1) (by omega) (by omega) dL_law_1582 ?_
    refine k_aload_n hC dL_law_1583 rfl 5 rfl ?_
    refine k_iload hC dL_law_1584 0 rfl ?_
    refine k_iconst hC dL_law_1586 ?_
    refine k_iadd hC dL_law_1587 ?_
    refine k_scr hC hX hbl hbA hL (i + 2) (by omega) (by omega) dL_law_1588 ?_
    refine k_if_eq hC 1596 dL_law_1589 rfl (xI_r xs _) (fun c_1589 => ?_) (fun c_1589 => absurd hq c_1589)
    refine k_iconst hC dL_law_1596 ?_
    refine k_aload_n hC dL_law_1597 rfl 2 rfl ?_
    refine k_callL hC hNc (n := 4) (c_L_unknownCurrent l hls G hN w fl gc nl sv (xI xs (i + 1)) 0 out (xI_r xs _) (by decide) hI a0 a3 a4 a5 o1) wc_L_unknownCurrent wz_L (by decide +kernel) wt_L_unknownCurrent wm_L_178 rfl rfl (Nat.le_of_ble_eq_true rfl) (by omega) (by omega) ⟨by omega, by omega⟩ dL_law_1598 (fun v1 w1 fl1 hp => ?_)
    rcases hp with ⟨hv, hcc, w2, hP, h148, hf2⟩ | ⟨hP, ⟨hcc, hv⟩ | ⟨hcc, hv⟩⟩
    · subst hv
      obtain ⟨hfl, hP⟩ := hP
      subst hfl
      obtain ⟨hCh, hfP⟩ := hP
      have hCh1 : kCht G w1 := hCh.fr (fun j q1 q2 => hf2 j (by omega))
      have hSc1 : kScr G w1 := b5.fr (fun j q1 q2 => (hf2 j (by omega)).trans (hfP j (by omega)))
      show KW p l e R s m args below meth c 10 G Q w1 fl (cs + 8) (ss + 48) 1601 [(5, vI (i : Int)), (4, .ref (kad G 149)), (3, .ref (kad G 148)), (2, .ref (kad G 133)), (1, .ref (kad G 0)), (0, .ref b)] [vI 0]
      refine k_istore hC [(6, vI 0), (5, vI (i : Int)), (4, .ref (kad G 149)), (3, .ref (kad G 148)), (2, .ref (kad G 133)), (1, .ref (kad G 0)), (0, .ref b)] dL_law_1601 (by decide) rfl ?_
      refine k_aload_n hC dL_law_1603 rfl 4 rfl ?_
      refine k_aload_n hC dL_law_1604 rfl 6 rfl ?_
      refine k_iload hC dL_law_1605 1 rfl ?_
      refine k_iconst hC dL_law_1607 ?_
      refine k_iadd hC dL_law_1608 ?_
      refine k_scr hC hX hbl hbA hL (i + 1) (by omega) (by omega) dL_law_1609 ?_
      refine k_aload_n hC dL_law_1610 rfl 6 rfl ?_
      refine k_iload hC dL_law_1611 1 rfl ?_
      refine k_iconst hC dL_law_1613 ?_
      refine k_iadd hC dL_law_1614 ?_
      refine k_scr hC hX hbl hbA hL (i + 2) (by omega) (by omega) dL_law_1615 ?_
      refine k_if_eq hC 1623 dL_law_1616 rfl (xI_r xs _) (fun c_1616 => ?_) (fun c_1616 => absurd hq c_1616)
      refine k_iconst hC dL_law_1623 ?_
      have h_1 : w1 133 = mdO G u := (hf2 133 (by decide)).trans ((hfP 133 (by decide)).trans b0)
      have h_2 : w1 134 = lA G 93 gr := (hf2 134 (by decide)).trans ((hfP 134 (by decide)).trans b1)
      refine k_callV hC (c_X12_unknownCurrent l hls G hN w1 fl u gr (xI xs (i + 1)) 0 (xI_r xs _) (by decide) hIr h_1 h_2 hSc1) yy_X12_unknownCurrent wm_L_180 (kl hN (by decide)) h_1 rfl rfl rfl rfl (Nat.le_of_ble_eq_true rfl) (by omega) (by omega) ⟨by omega, by omega⟩ dL_law_1624 (fun v3 w3 fl3 hp3 => ?_)
      obtain ⟨b3, th3, hv3, hfl3, hR3, hP3⟩ := hp3
      subst hv3
      subst hfl3
      obtain ⟨⟨fe, fn, hm3⟩, hS3, hf3⟩ := hP3
      rcases hR3 with ⟨q1, q2, q3⟩ | ⟨q1, q2⟩ | ⟨q1, q2⟩
      · subst q2
        show KW p l e R s m args below meth c 10 G Q w3 fl (cs + 8) (ss + 48) 1627 [(6, vI 0), (5, vI (i : Int)), (4, .ref (kad G 149)), (3, .ref (kad G 148)), (2, .ref (kad G 133)), (1, .ref (kad G 0)), (0, .ref b)] [vI b3]
        refine k_istore hC [(7, vI b3), (6, vI 0), (5, vI (i : Int)), (4, .ref (kad G 149)), (3, .ref (kad G 148)), (2, .ref (kad G 133)), (1, .ref (kad G 0)), (0, .ref b)] dL_law_1627 (by decide) rfl ?_
        refine k_aload_n hC dL_law_1629 rfl 5 rfl ?_
        refine k_pureV hC (c_X12_thrown l hls G hN w3 fl (kup (kup (kup u 5 0) 12 fe) 13 fn) hm3) yy_X12_thrown wm_L_113 (kl hN (by decide)) hm3 rfl rfl rfl rfl (Nat.le_of_ble_eq_true rfl) (by omega) (by omega) ⟨by omega, by omega⟩ dL_law_1630 ?_
        refine k_topv (vI 0) rfl ?_
        refine k_iload hC dL_law_1633 1 rfl ?_
        refine k_icmp_eq hC 1640 dL_law_1635 rfl (by omega) (by omega) (fun c_1635 => ?_) (fun c_1635 => absurd c_1635 (by omega))
        refine k_iload hC dL_law_1640 1 rfl ?_
        refine k_if_ne hC 1657 dL_law_1642 rfl (by omega) (fun c_1642 => absurd c_1642 (by omega)) (fun c_1642 => ?_)
        refine k_aload_n hC dL_law_1645 rfl 4 rfl ?_
        refine k_iconst hC dL_law_1646 ?_
        have h_3 : w3 148 = lA G 1 (fun _ => i32 (unkV gc (xI xs (i + 1)) 0)) := (hf3 148 (by decide)).trans h148
        refine k_lald hC (kl hN (by decide)) h_3 (by omega) (by decide) dL_law_1647 ?_
        refine k_topv (vL (i32 (unkV gc (xI xs (i + 1)) 0))) rfl ?_
        refine k_iload hC dL_law_1648 0 rfl ?_
        refine k_topv (vI (i32 b3)) (vI_32 _) ?_
        refine k_i2l hC dL_law_1650 (i32_r _) ?_
        refine k_lcmp_eq hC 1657 dL_law_1651 dL_law_1652 rfl (i32_l _) (i32_l _) (fun c_1651 => ?_) (fun c_1651 => absurd (congrArg i32 (show (unkV gc (xI xs (i + 1)) 0) = b3 from (gE_unkV hE hI _ _).trans q3.symm)) c_1651)
        refine k_goto hC 2319 dL_law_1657 rfl ?_
        refine k_lvs (ls := [2, 3, 4, 5, 6, 7]) [(5, vI (i : Int)), (4, .ref (kad G 149)), (3, .ref (kad G 148)), (2, .ref (kad G 133)), (1, .ref (kad G 0)), (0, .ref b)] rfl ?_
        have h_4 : w3 149 = dA G 1 oD := (hf3 149 (by decide)).trans ((hf2 149 (by decide)).trans ((hfP 149 (by decide)).trans o2))
        exact kk w3 fl _ _ (LI.rd hc hm hr hw hT (hCh1.fr (fun j q1 q2 => hf3 j (by omega))) hS3 hm3 ⟨rfl, rfl, rfl, rfl, rfl⟩ ⟨⟨_, h_3⟩, ⟨_, h_4⟩⟩ (fun j hj => (hf3 j (by omega)).trans ((hf2 j (by omega)).trans (hfP j (by omega))))) (by omega) (by omega)
      · exact q1.elim
      · exfalso; omega
    · exact hcc.elim
    · subst hv
      obtain ⟨hfl, hP⟩ := hP
      subst hfl
      obtain ⟨hCh, hfP⟩ := hP
      have hCh1 := hCh
      have hSc1 : kScr G w1 := b5.fr (fun j q1 q2 => hfP j (by omega))
      show KW p l e R s m args below meth c 10 G Q w1 fl (cs + 8) (ss + 48) 1601 [(5, vI (i : Int)), (4, .ref (kad G 149)), (3, .ref (kad G 148)), (2, .ref (kad G 133)), (1, .ref (kad G 0)), (0, .ref b)] [vI 1]
      refine k_istore hC [(6, vI 1), (5, vI (i : Int)), (4, .ref (kad G 149)), (3, .ref (kad G 148)), (2, .ref (kad G 133)), (1, .ref (kad G 0)), (0, .ref b)] dL_law_1601 (by decide) rfl ?_
      refine k_aload_n hC dL_law_1603 rfl 4 rfl ?_
      refine k_aload_n hC dL_law_1604 rfl 6 rfl ?_
      refine k_iload hC dL_law_1605 1 rfl ?_
      refine k_iconst hC dL_law_1607 ?_
      refine k_iadd hC dL_law_1608 ?_
      refine k_scr hC hX hbl hbA hL (i + 1) (by omega) (by omega) dL_law_1609 ?_
      refine k_aload_n hC dL_law_1610 rfl 6 rfl ?_
      refine k_iload hC dL_law_1611 1 rfl ?_
      refine k_iconst hC dL_law_1613 ?_
      refine k_iadd hC dL_law_1614 ?_
      refine k_scr hC hX hbl hbA hL (i + 2) (by omega) (by omega) dL_law_1615 ?_
      refine k_if_eq hC 1623 dL_law_1616 rfl (xI_r xs _) (fun c_1616 => ?_) (fun c_1616 => absurd hq c_1616)
      refine k_iconst hC dL_law_1623 ?_
      have h_5 : w1 133 = mdO G u := (hfP 133 (by decide)).trans b0
      have h_6 : w1 134 = lA G 93 gr := (hfP 134 (by decide)).trans b1
      refine k_callV hC (c_X12_unknownCurrent l hls G hN w1 fl u gr (xI xs (i + 1)) 0 (xI_r xs _) (by decide) hIr h_5 h_6 hSc1) yy_X12_unknownCurrent wm_L_180 (kl hN (by decide)) h_5 rfl rfl rfl rfl (Nat.le_of_ble_eq_true rfl) (by omega) (by omega) ⟨by omega, by omega⟩ dL_law_1624 (fun v3 w3 fl3 hp3 => ?_)
      obtain ⟨b3, th3, hv3, hfl3, hR3, hP3⟩ := hp3
      subst hv3
      subst hfl3
      obtain ⟨⟨fe, fn, hm3⟩, hS3, hf3⟩ := hP3
      rcases hR3 with ⟨q1, q2, q3⟩ | ⟨q1, q2⟩ | ⟨q1, q2⟩
      · exfalso; omega
      · exact q1.elim
      · subst q2
        show KW p l e R s m args below meth c 10 G Q w3 fl (cs + 8) (ss + 48) 1627 [(6, vI 1), (5, vI (i : Int)), (4, .ref (kad G 149)), (3, .ref (kad G 148)), (2, .ref (kad G 133)), (1, .ref (kad G 0)), (0, .ref b)] [vI b3]
        refine k_istore hC [(7, vI b3), (6, vI 1), (5, vI (i : Int)), (4, .ref (kad G 149)), (3, .ref (kad G 148)), (2, .ref (kad G 133)), (1, .ref (kad G 0)), (0, .ref b)] dL_law_1627 (by decide) rfl ?_
        refine k_aload_n hC dL_law_1629 rfl 5 rfl ?_
        refine k_pureV hC (c_X12_thrown l hls G hN w3 fl (kup (kup (kup u 5 1) 12 fe) 13 fn) hm3) yy_X12_thrown wm_L_113 (kl hN (by decide)) hm3 rfl rfl rfl rfl (Nat.le_of_ble_eq_true rfl) (by omega) (by omega) ⟨by omega, by omega⟩ dL_law_1630 ?_
        refine k_topv (vI 1) rfl ?_
        refine k_iload hC dL_law_1633 1 rfl ?_
        refine k_icmp_eq hC 1640 dL_law_1635 rfl (by omega) (by omega) (fun c_1635 => ?_) (fun c_1635 => absurd c_1635 (by omega))
        refine k_iload hC dL_law_1640 1 rfl ?_
        refine k_if_ne hC 1657 dL_law_1642 rfl (by omega) (fun c_1642 => ?_) (fun c_1642 => absurd c_1642 (by omega))
        refine k_goto hC 2319 dL_law_1657 rfl ?_
        refine k_lvs (ls := [2, 3, 4, 5, 6, 7]) [(5, vI (i : Int)), (4, .ref (kad G 149)), (3, .ref (kad G 148)), (2, .ref (kad G 133)), (1, .ref (kad G 0)), (0, .ref b)] rfl ?_
        have h_7 : w3 148 = lA G 1 out := (hf3 148 (by decide)).trans ((hfP 148 (by decide)).trans o1)
        have h_8 : w3 149 = dA G 1 oD := (hf3 149 (by decide)).trans ((hfP 149 (by decide)).trans o2)
        exact kk w3 fl _ _ (LI.rd hc hm hr hw hT (hCh1.fr (fun j q1 q2 => hf3 j (by omega))) hS3 hm3 ⟨rfl, rfl, rfl, rfl, rfl⟩ ⟨⟨_, h_7⟩, ⟨_, h_8⟩⟩ (fun j hj => (hf3 j (by omega)).trans (hfP j (by omega)))) (by omega) (by omega)
  · refine k_aload_n hC dL_law_1576 rfl 4 rfl ?_
    refine k_aload_n hC dL_law_1577 rfl 5 rfl ?_
    refine k_iload hC dL_law_1578 0 rfl ?_
    refine k_iconst hC dL_law_1580 ?_
    refine k_iadd hC dL_law_1581 ?_
    refine k_scr hC hX hbl hbA hL (i + 1) (by omega) (by omega) dL_law_1582 ?_
    refine k_aload_n hC dL_law_1583 rfl 5 rfl ?_
    refine k_iload hC dL_law_1584 0 rfl ?_
    refine k_iconst hC dL_law_1586 ?_
    refine k_iadd hC dL_law_1587 ?_
    refine k_scr hC hX hbl hbA hL (i + 2) (by omega) (by omega) dL_law_1588 ?_
    refine k_if_eq hC 1596 dL_law_1589 rfl (xI_r xs _) (fun c_1589 => absurd c_1589 hq) (fun c_1589 => ?_)
    refine k_iconst hC dL_law_1592 ?_
    refine k_goto hC 1597 dL_law_1593 rfl ?_
    refine k_aload_n hC dL_law_1597 rfl 2 rfl ?_
    refine k_callL hC hNc (n := 4) (c_L_unknownCurrent l hls G hN w fl gc nl sv (xI xs (i + 1)) 1 out (xI_r xs _) (by decide) hI a0 a3 a4 a5 o1) wc_L_unknownCurrent wz_L (by decide +kernel) wt_L_unknownCurrent wm_L_178 rfl rfl (Nat.le_of_ble_eq_true rfl) (by omega) (by omega) ⟨by omega, by omega⟩ dL_law_1598 (fun v1 w1 fl1 hp => ?_)
    rcases hp with ⟨hv, hcc, w2, hP, h148, hf2⟩ | ⟨hP, ⟨hcc, hv⟩ | ⟨hcc, hv⟩⟩
    · subst hv
      obtain ⟨hfl, hP⟩ := hP
      subst hfl
      obtain ⟨hCh, hfP⟩ := hP
      have hCh1 : kCht G w1 := hCh.fr (fun j q1 q2 => hf2 j (by omega))
      have hSc1 : kScr G w1 := b5.fr (fun j q1 q2 => (hf2 j (by omega)).trans (hfP j (by omega)))
      show KW p l e R s m args below meth c 10 G Q w1 fl (cs + 8) (ss + 48) 1601 [(5, vI (i : Int)), (4, .ref (kad G 149)), (3, .ref (kad G 148)), (2, .ref (kad G 133)), (1, .ref (kad G 0)), (0, .ref b)] [vI 0]
      refine k_istore hC [(6, vI 0), (5, vI (i : Int)), (4, .ref (kad G 149)), (3, .ref (kad G 148)), (2, .ref (kad G 133)), (1, .ref (kad G 0)), (0, .ref b)] dL_law_1601 (by decide) rfl ?_
      refine k_aload_n hC dL_law_1603 rfl 4 rfl ?_
      refine k_aload_n hC dL_law_1604 rfl 6 rfl ?_
      refine k_iload hC dL_law_1605 1 rfl ?_
      refine k_iconst hC dL_law_1607 ?_
      refine k_iadd hC dL_law_1608 ?_
      refine k_scr hC hX hbl hbA hL (i + 1) (by omega) (by omega) dL_law_1609 ?_
      refine k_aload_n hC dL_law_1610 rfl 6 rfl ?_
      refine k_iload hC dL_law_1611 1 rfl ?_
      refine k_iconst hC dL_law_1613 ?_
      refine k_iadd hC dL_law_1614 ?_
      refine k_scr hC hX hbl hbA hL (i + 2) (by omega) (by omega) dL_law_1615 ?_
      refine k_if_eq hC 1623 dL_law_1616 rfl (xI_r xs _) (fun c_1616 => absurd c_1616 hq) (fun c_1616 => ?_)
      refine k_iconst hC dL_law_1619 ?_
      refine k_goto hC 1624 dL_law_1620 rfl ?_
      have h_9 : w1 133 = mdO G u := (hf2 133 (by decide)).trans ((hfP 133 (by decide)).trans b0)
      have h_10 : w1 134 = lA G 93 gr := (hf2 134 (by decide)).trans ((hfP 134 (by decide)).trans b1)
      refine k_callV hC (c_X12_unknownCurrent l hls G hN w1 fl u gr (xI xs (i + 1)) 1 (xI_r xs _) (by decide) hIr h_9 h_10 hSc1) yy_X12_unknownCurrent wm_L_180 (kl hN (by decide)) h_9 rfl rfl rfl rfl (Nat.le_of_ble_eq_true rfl) (by omega) (by omega) ⟨by omega, by omega⟩ dL_law_1624 (fun v3 w3 fl3 hp3 => ?_)
      obtain ⟨b3, th3, hv3, hfl3, hR3, hP3⟩ := hp3
      subst hv3
      subst hfl3
      obtain ⟨⟨fe, fn, hm3⟩, hS3, hf3⟩ := hP3
      rcases hR3 with ⟨q1, q2, q3⟩ | ⟨q1, q2⟩ | ⟨q1, q2⟩
      · subst q2
        show KW p l e R s m args below meth c 10 G Q w3 fl (cs + 8) (ss + 48) 1627 [(6, vI 0), (5, vI (i : Int)), (4, .ref (kad G 149)), (3, .ref (kad G 148)), (2, .ref (kad G 133)), (1, .ref (kad G 0)), (0, .ref b)] [vI b3]
        refine k_istore hC [(7, vI b3), (6, vI 0), (5, vI (i : Int)), (4, .ref (kad G 149)), (3, .ref (kad G 148)), (2, .ref (kad G 133)), (1, .ref (kad G 0)), (0, .ref b)] dL_law_1627 (by decide) rfl ?_
        refine k_aload_n hC dL_law_1629 rfl 5 rfl ?_
        refine k_pureV hC (c_X12_thrown l hls G hN w3 fl (kup (kup (kup u 5 0) 12 fe) 13 fn) hm3) yy_X12_thrown wm_L_113 (kl hN (by decide)) hm3 rfl rfl rfl rfl (Nat.le_of_ble_eq_true rfl) (by omega) (by omega) ⟨by omega, by omega⟩ dL_law_1630 ?_
        refine k_topv (vI 0) rfl ?_
        refine k_iload hC dL_law_1633 1 rfl ?_
        refine k_icmp_eq hC 1640 dL_law_1635 rfl (by omega) (by omega) (fun c_1635 => ?_) (fun c_1635 => absurd c_1635 (by omega))
        refine k_iload hC dL_law_1640 1 rfl ?_
        refine k_if_ne hC 1657 dL_law_1642 rfl (by omega) (fun c_1642 => absurd c_1642 (by omega)) (fun c_1642 => ?_)
        refine k_aload_n hC dL_law_1645 rfl 4 rfl ?_
        refine k_iconst hC dL_law_1646 ?_
        have h_11 : w3 148 = lA G 1 (fun _ => i32 (unkV gc (xI xs (i + 1)) 1)) := (hf3 148 (by decide)).trans h148
        refine k_lald hC (kl hN (by decide)) h_11 (by omega) (by decide) dL_law_1647 ?_
        refine k_topv (vL (i32 (unkV gc (xI xs (i + 1)) 1))) rfl ?_
        refine k_iload hC dL_law_1648 0 rfl ?_
        refine k_topv (vI (i32 b3)) (vI_32 _) ?_
        refine k_i2l hC dL_law_1650 (i32_r _) ?_
        refine k_lcmp_eq hC 1657 dL_law_1651 dL_law_1652 rfl (i32_l _) (i32_l _) (fun c_1651 => ?_) (fun c_1651 => absurd (congrArg i32 (show (unkV gc (xI xs (i + 1)) 1) = b3 from (gE_unkV hE hI _ _).trans q3.symm)) c_1651)
        refine k_goto hC 2319 dL_law_1657 rfl ?_
        refine k_lvs (ls := [2, 3, 4, 5, 6, 7]) [(5, vI (i : Int)), (4, .ref (kad G 149)), (3, .ref (kad G 148)), (2, .ref (kad G 133)), (1, .ref (kad G 0)), (0, .ref b)] rfl ?_
        have h_12 : w3 149 = dA G 1 oD := (hf3 149 (by decide)).trans ((hf2 149 (by decide)).trans ((hfP 149 (by decide)).trans o2))
        exact kk w3 fl _ _ (LI.rd hc hm hr hw hT (hCh1.fr (fun j q1 q2 => hf3 j (by omega))) hS3 hm3 ⟨rfl, rfl, rfl, rfl, rfl⟩ ⟨⟨_, h_11⟩, ⟨_, h_12⟩⟩ (fun j hj => (hf3 j (by omega)).trans ((hf2 j (by omega)).trans (hfP j (by omega))))) (by omega) (by omega)
      · exact q1.elim
      · exfalso; omega
    · exact hcc.elim
    · subst hv
      obtain ⟨hfl, hP⟩ := hP
      subst hfl
      obtain ⟨hCh, hfP⟩ := hP
      have hCh1 := hCh
      have hSc1 : kScr G w1 := b5.fr (fun j q1 q2 => hfP j (by omega))
      show KW p l e R s m args below meth c 10 G Q w1 fl (cs + 8) (ss + 48) 1601 [(5, vI (i : Int)), (4, .ref (kad G 149)), (3, .ref (kad G 148)), (2, .ref (kad G 133)), (1, .ref (kad G 0)), (0, .ref b)] [vI 1]
      refine k_istore hC [(6, vI 1), (5, vI (i : Int)), (4, .ref (kad G 149)), (3, .ref (kad G 148)), (2, .ref (kad G 133)), (1, .ref (kad G 0)), (0, .ref b)] dL_law_1601 (by decide) rfl ?_
      refine k_aload_n hC dL_law_1603 rfl 4 rfl ?_
      refine k_aload_n hC dL_law_1604 rfl 6 rfl ?_
      refine k_iload hC dL_law_1605 1 rfl ?_
      refine k_iconst hC dL_law_1607 ?_
      refine k_iadd hC dL_law_1608 ?_
      refine k_scr hC hX hbl hbA hL (i + 1) (by omega) (by omega) dL_law_1609 ?_
      refine k_aload_n hC dL_law_1610 rfl 6 rfl ?_
      refine k_iload hC dL_law_1611 1 rfl ?_
      refine k_iconst hC dL_law_1613 ?_
      refine k_iadd hC dL_law_1614 ?_
      refine k_scr hC hX hbl hbA hL (i + 2) (by omega) (by omega) dL_law_1615 ?_
      refine k_if_eq hC 1623 dL_law_1616 rfl (xI_r xs _) (fun c_1616 => absurd c_1616 hq) (fun c_1616 => ?_)
      refine k_iconst hC dL_law_1619 ?_
      refine k_goto hC 1624 dL_law_1620 rfl ?_
      have h_13 : w1 133 = mdO G u := (hfP 133 (by decide)).trans b0
      have h_14 : w1 134 = lA G 93 gr := (hfP 134 (by decide)).trans b1
      refine k_callV hC (c_X12_unknownCurrent l hls G hN w1 fl u gr (xI xs (i + 1)) 1 (xI_r xs _) (by decide) hIr h_13 h_14 hSc1) yy_X12_unknownCurrent wm_L_180 (kl hN (by decide)) h_13 rfl rfl rfl rfl (Nat.le_of_ble_eq_true rfl) (by omega) (by omega) ⟨by omega, by omega⟩ dL_law_1624 (fun v3 w3 fl3 hp3 => ?_)
      obtain ⟨b3, th3, hv3, hfl3, hR3, hP3⟩ := hp3
      subst hv3
      subst hfl3
      obtain ⟨⟨fe, fn, hm3⟩, hS3, hf3⟩ := hP3
      rcases hR3 with ⟨q1, q2, q3⟩ | ⟨q1, q2⟩ | ⟨q1, q2⟩
      · exfalso; omega
      · exact q1.elim
      · subst q2
        show KW p l e R s m args below meth c 10 G Q w3 fl (cs + 8) (ss + 48) 1627 [(6, vI 1), (5, vI (i : Int)), (4, .ref (kad G 149)), (3, .ref (kad G 148)), (2, .ref (kad G 133)), (1, .ref (kad G 0)), (0, .ref b)] [vI b3]
        refine k_istore hC [(7, vI b3), (6, vI 1), (5, vI (i : Int)), (4, .ref (kad G 149)), (3, .ref (kad G 148)), (2, .ref (kad G 133)), (1, .ref (kad G 0)), (0, .ref b)] dL_law_1627 (by decide) rfl ?_
        refine k_aload_n hC dL_law_1629 rfl 5 rfl ?_
        refine k_pureV hC (c_X12_thrown l hls G hN w3 fl (kup (kup (kup u 5 1) 12 fe) 13 fn) hm3) yy_X12_thrown wm_L_113 (kl hN (by decide)) hm3 rfl rfl rfl rfl (Nat.le_of_ble_eq_true rfl) (by omega) (by omega) ⟨by omega, by omega⟩ dL_law_1630 ?_
        refine k_topv (vI 1) rfl ?_
        refine k_iload hC dL_law_1633 1 rfl ?_
        refine k_icmp_eq hC 1640 dL_law_1635 rfl (by omega) (by omega) (fun c_1635 => ?_) (fun c_1635 => absurd c_1635 (by omega))
        refine k_iload hC dL_law_1640 1 rfl ?_
        refine k_if_ne hC 1657 dL_law_1642 rfl (by omega) (fun c_1642 => ?_) (fun c_1642 => absurd c_1642 (by omega))
        refine k_goto hC 2319 dL_law_1657 rfl ?_
        refine k_lvs (ls := [2, 3, 4, 5, 6, 7]) [(5, vI (i : Int)), (4, .ref (kad G 149)), (3, .ref (kad G 148)), (2, .ref (kad G 133)), (1, .ref (kad G 0)), (0, .ref b)] rfl ?_
        have h_15 : w3 148 = lA G 1 out := (hf3 148 (by decide)).trans ((hfP 148 (by decide)).trans o1)
        have h_16 : w3 149 = dA G 1 oD := (hf3 149 (by decide)).trans ((hfP 149 (by decide)).trans o2)
        exact kk w3 fl _ _ (LI.rd hc hm hr hw hT (hCh1.fr (fun j q1 q2 => hf3 j (by omega))) hS3 hm3 ⟨rfl, rfl, rfl, rfl, rfl⟩ ⟨⟨_, h_15⟩, ⟨_, h_16⟩⟩ (fun j hj => (hf3 j (by omega)).trans (hfP j (by omega)))) (by omega) (by omega)

