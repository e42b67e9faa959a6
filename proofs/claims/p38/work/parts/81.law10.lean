section
variable {p : Program} {l : Launch} {e : Env} {R : Room} {s : State} {m : MethodId} {args : Array Value} {below : List Frame} {meth : Method} {c : Code} {cc : ByteArray} {own : String} {nL : Nat} {G : kG} {d0 mc0 ms0 : Nat} {Q : State → Prop} {w : Nat → va_E} {fl : va_W} {cells slots pc : Nat} {lv : List (Nat × Value)} {st : List Value}
variable {cc1 : ByteArray} {maxL d mc ms n ix : Nat} {As : List Value} {y : MethodName} {post : Option Value → (Nat → va_E) → va_W → Prop} {st0 : List Value}
/-- a number written into what the law keeps itself -/
theorem k_putO (hC : kC p l R s m args meth c cc own nL G d0 mc0 ms0) {k i : Nat} {fs : List Value} {v : Value} {host : String} (hl : Cond.fieldLinkNest own ix RX12 (TX12 i).2.1 (TX12 i).2.2.1 host ∈ kwords) (hi : i < 12) (hfin : (TX12 i).2.2.2 = false) (href : (TX12 i).1 = RX12) (hk : k < kN G) (hw : w k = .inr (12, fs)) (fs1 : List Value) (hfs : fs.set i v = fs1) (hlt : i < fs.length) (hn : narrow (tyX12 i) v = v) (hfit : fits (tyX12 i) v = true) (dc : decode cc pc = .ok (.putfield ix, 3))
    (kk : ∀ w1 : Nat → va_E, w1 k = .inr (12, fs1) → (∀ j, j ≠ k → w1 j = w j) → KW p l e R s m args below meth c nL G Q w1 fl cells slots (pc + 3) lv st) : KW p l e R s m args below meth c nL G Q w fl cells slots pc lv (v :: .ref (kad G k) :: st) := by
  intro H locs ls h1 h2 h3 h4
  refine va_putN (C := RX12) (T := TX12) (N := 12) (ref := RX12) (ci := 12) hC.1 hC.2.1 hC.2.2.2.2.1 uu_X12 tyX12 tyX12_ok nmX12 hC.2.2.2.1 hC.2.2.2.2.2.1 h1 h2 h3 k (by rw [kws_at hk, hw]) rfl i hi (hC.2.2.2.2.1 _ hl) (fun x hx => by rw [← href]; exact hx) hfin (tyX12_ok i hi) hn hfit hlt dc (fun H1 locs1 g1 g2 g3 => ?_)
  rw [kws_set hk, hfs] at g1 g2
  exact kk _ (va_up_self _ _ _) (fun j hj => by simp [va_up, hj]) H1 locs1 ls g1 g2 g3 h4
/-- a constructor that asks no more than a method -/
theorem k_callIN (hC : kC p l R s m args meth c cc own nL G d0 mc0 ms0) {q : Nat} {host : String} (hM : KM l G y cc1 maxL none d mc ms (.ref q :: As) w fl post) (hy : kYI y cc1 maxL n) (hl : Cond.methodLinkNest own ix y host ∈ kwords) (hst : st0 = As.reverse ++ .ref q :: st) (hn : As.length = n) (hcat : (st.map fun v => v.category).sum ≤ 8) (hd : d + 1 ≤ d0) (hm : maxL ≤ 45) (hr : cells + mc ≤ mc0 ∧ slots + ms ≤ ms0) (dc : decode cc pc = .ok (.invokespecial ix, 3))
    (kk : ∀ (v : Option Value) (w1 : Nat → va_E) (fl1 : va_W), post v w1 fl1 → KW p l e R s m args below meth c nL G Q w1 fl1 (cells + mc) (slots + ms) (pc + 3) lv (v.toList ++ st)) : KW p l e R s m args below meth c nL G Q w fl cells slots pc lv st0 := by
  intro H locs ls h1 h2 h3 h4
  have hR := hC.2.2.2.2.2.2.2.2.2.1
  have hw8 := hC.2.2.2.2.1
  have hrun := va_runIN (p := p) (e := e) (below := below) (meth := meth) (As := As) (rest := st) (g := F0 m pc ls st0) (locs := locs) (cells := cells) (slots := slots) (kC_fix hC) hM ⟨⟨⟨rfl, rfl, (by show d + 1 ≤ R.frames; omega), (by show 8 + (maxL + 11) + 64 * d ≤ R.locals; omega), kwo_pay hy.1.1 hw8, List.mem_cons_self⟩, hw8 _ hy.1.1, hw8 _ hy.1.2, ⟨hy.2.1.1, hy.2.1.2.1⟩, k_lenOf hy.2.1.2.2, hw8 _ hl⟩, hy.2.2.1, hw8 _ hy.2.2.2⟩ ⟨kS_blind, fun U hU hW => hC.pre h1 h2 h3 hU hW⟩ rfl hn h4.1 hst (lv_room hcat) dc ⟨by omega, by omega⟩
  exact k_run hrun h3 h4 kk
theorem KW_Q {Q1 : State → Prop} (h : ∀ t, Q1 t → Q t) (k : KW p l e R s m args below meth c nL G Q1 w fl cells slots pc lv st) : KW p l e R s m args below meth c nL G Q w fl cells slots pc lv st := fun H locs ls h1 h2 h3 h4 T hT X => by
  obtain ⟨t, a1, a2⟩ := k H locs ls h1 h2 h3 h4 T hT X
  exact ⟨t, a1, h t a2⟩
/-- what holds in the grown world holds in the one before -/
theorem k_ungro {n9 : Nat} {ad : Nat → Nat} {post1 : Option Value → (Nat → va_E) → va_W → Prop} (hp : ∀ v w1 fl1, post1 v w1 fl1 → post v w1 ((List.range n9).map (fun i => (ad i, w1 (kN G + i))) ++ fl1)) (k : KW p l e R s m args below meth c nL (kgro G n9 ad) (MQ below (kQ (kgro G n9 ad) post1) args s mc ms (kA (kgro G n9 ad))) w fl cells slots pc lv st) : KW p l e R s m args below meth c nL (kgro G n9 ad) (MQ below (kQ G post) args s mc ms (kA G)) w fl cells slots pc lv st := by
  refine KW_Q (fun t h => ?_) k
  obtain ⟨o, a1, a2, ⟨v, w1, fl1, b1, b2, ⟨b3, b5⟩, b4⟩, a4⟩ := h
  refine ⟨o, a1, a2, ⟨v, w1, _, b1, hp _ _ _ b2, ⟨?_, ?_⟩, b4⟩, a4⟩
  · rw [kgro_ws] at b3; exact b3
  · rw [kgro_ws] at b5; exact b5
end
theorem yi_X12_init : kYI yX12_init cX12_init 1 0 := ⟨⟨wc_X12_init, wz_X12⟩, by decide +kernel, rfl, wi_X12_init⟩
abbrev ow0 : List Value := [vI 0, vI 0, vI 0, vI 0, vI 0, vI 0, vI 0, vI 0, vI 0, .null, .null, .null]
set_option maxRecDepth 100000 in
theorem c_X12_init (l : Launch) (hls : l.stackTraces = false) (G : kG) (w : Nat → va_E) (fl : va_W) (j q : Nat) (hq : fl[j]? = some (q, .inr (12, ow0))) : KM l G yX12_init cX12_init 1 (none) 1 3 26 [.ref q] w fl (fun v w1 fl1 => none = v ∧ w = w1 ∧ ∃ a0 a1 a2 : Nat, fl1 = fl.set j (q, .inr (12, [vI 0, vI 0, vI 0, vI 0, vI 0, vI 0, vI 0, vI 0, vI 0, .ref a0, .ref a1, .ref a2])) ++ [(a0, rA G 6 6 (fun _ => none)), (a1, rA G 6 8 (fun _ => none)), (a2, rA G 6 12 (fun _ => none))]) := by
  have hj := (List.getElem?_eq_some_iff.mp hq).1
  have hfx := fx_0 hq
  refine KM_of2 hls (by decide +kernel) rfl (lv0 := [(0, .ref q)]) rfl (Nat.le_of_ble_eq_true rfl) (fun p e R s m args below meth c Q hC hr hQ => ?_)
  refine c_eqf hfx ?_
  refine k_aload_n hC dX12_init_0 rfl 0 rfl ?_
  refine c_obj hC wm_X12_1 (by decide) (Nat.le_of_ble_eq_true rfl) dX12_init_1 ?_
  refine k_aload_n hC dX12_init_4 rfl 0 rfl ?_
  refine k_bipush hC dX12_init_5 (by decide) ?_
  refine k_newqA hC (n := 6) (by decide) wl_X12_7 ⟨by decide, by decide⟩ dX12_init_7 (fun a0 => ?_)
  rw [fx_a]
  refine c_put hC hj fd_X12_9 [vI 0, vI 0, vI 0, vI 0, vI 0, vI 0, vI 0, vI 0, vI 0, .ref a0, .null, .null] rfl (Nat.le_of_ble_eq_true rfl) rfl rfl dX12_init_10 ?_
  refine k_aload_n hC dX12_init_13 rfl 0 rfl ?_
  refine k_bipush hC dX12_init_14 (by decide) ?_
  refine k_newqA hC (n := 8) (by decide) wl_X12_7 ⟨by decide, by decide⟩ dX12_init_16 (fun a1 => ?_)
  rw [fx_a]
  refine c_put hC hj fd_X12_15 [vI 0, vI 0, vI 0, vI 0, vI 0, vI 0, vI 0, vI 0, vI 0, .ref a0, .ref a1, .null] rfl (Nat.le_of_ble_eq_true rfl) rfl rfl dX12_init_19 ?_
  refine k_aload_n hC dX12_init_22 rfl 0 rfl ?_
  refine k_bipush hC dX12_init_23 (by decide) ?_
  refine k_newqA hC (n := 12) (by decide) wl_X12_7 ⟨by decide, by decide⟩ dX12_init_25 (fun a2 => ?_)
  rw [fx_a]
  refine c_put hC hj fd_X12_18 [vI 0, vI 0, vI 0, vI 0, vI 0, vI 0, vI 0, vI 0, vI 0, .ref a0, .ref a1, .ref a2] rfl (Nat.le_of_ble_eq_true rfl) rfl rfl dX12_init_28 ?_
  subst hQ
  exact k_vret hC hr ⟨by decide, by decide⟩ ⟨rfl, rfl, a0, a1, a2, rfl⟩ dX12_init_31
theorem dip12 {k : Nat} {x : Int} (hx : x ≤ 150) (hk : k ≤ 12) (q : ((k : Int) + 1) * ((k : Int) + 1) ≤ x) : k + 1 ≤ 12 := by
  by_cases z : k < 12
  · omega
  · have e : k = 12 := by omega
    subst e
    have e9 : (((12 : Nat) : Int) + 1) * (((12 : Nat) : Int) + 1) = 169 := by decide
    omega
set_option maxRecDepth 100000 in
set_option maxHeartbeats 4000000 in
theorem c_X12_dip (l : Launch) (hls : l.stackTraces = false) (G : kG) (hM : 138 ≤ kN G) (w : Nat → va_E) (fl : va_W) (g : Nat → Int) (h5 : 0 ≤ g 5 ∧ g 5 ≤ 50) (h134 : w 134 = owO G g) : KM l G yX12_dip cX12_dip 2 (some (FieldType.int)) 0 0 0 [.ref (kad G 134)] w fl (kPure (vI (dipM g)) w fl) := by
  refine KM_of2 hls (by decide +kernel) rfl (lv0 := [(0, .ref (kad G 134))]) rfl (Nat.le_of_ble_eq_true rfl) (fun p e R s m args below meth c Q hC hr hQ => ?_)
  have hN : 133 ≤ kN G := by omega
  refine k_iconst hC dX12_dip_0 ?_
  refine k_istore_n hC [(1, vI 0), (0, .ref (kad G 134))] dX12_dip_1 rfl (by decide) rfl ?_
  have loop1 : ∀ (n1 : Nat) (k : Nat), (13 ≤ n1 + k) → (k ≤ 12) → ((k : Int) * (k : Int) ≤ 3 * g 5) → KW p l e R s m args below meth c 2 G Q w fl 0 0 2 [(1, vI (k : Int)), (0, .ref (kad G 134))] [] := by
    intro n1
    induction n1 with
    | zero =>
      intro k hn_1 hk hkk
      exact absurd hn_1 (by omega)
    | succ n1 ih1 =>
      intro k hn_1 hk hkk
      have hm1 := mul_le_abs (a := (k : Int) + 1) (b := (k : Int) + 1) (A := 13) (B := 13) (by omega) (by omega)
      have hk12 : ((k : Int) + 1) * ((k : Int) + 1) ≤ 3 * g 5 → k + 1 ≤ 12 := fun q => dip12 (by omega) hk q
      refine k_iload_n hC dX12_dip_2 rfl 0 rfl ?_
      refine k_iconst hC dX12_dip_3 ?_
      refine k_iadd hC dX12_dip_4 ?_
      refine k_iload_n hC dX12_dip_5 rfl 0 rfl ?_
      refine k_iconst hC dX12_dip_6 ?_
      refine k_iadd hC dX12_dip_7 ?_
      refine k_imul hC dX12_dip_8 ?_
      refine k_iconst hC dX12_dip_9 ?_
      refine k_aload_n hC dX12_dip_10 rfl 1 rfl ?_
      refine k_get hC fd_X12_38 (kl2 hM (by decide)) h134 rfl dX12_dip_11 ?_
      refine k_imul hC dX12_dip_14 ?_
      refine k_icmp_gt hC 24 dX12_dip_15 rfl (by omega) (by omega) (fun c_15 => ?_) (fun c_15 => ?_)
      · refine k_iload_n hC dX12_dip_24 rfl 0 rfl ?_
        subst hQ
        exact k_iret hC hr ⟨by decide, by decide⟩ (⟨congrArg (fun z => some (vI z)) (show dipM g = (k : Int) from rootM_eq (by omega) hkk (by omega)), rfl, rfl⟩) dX12_dip_25
      · refine k_iinc hC (y := (k : Int) + 1) [(1, vI ((k : Int) + 1)), (0, .ref (kad G 134))] (j := 0) dX12_dip_18 rfl (by omega) (by decide) rfl ?_
        refine k_goto hC 2 dX12_dip_21 rfl ?_
        refine k_lvs (ls := [0, 1]) [(1, vI ((k + 1 : Nat) : Int)), (0, .ref (kad G 134))] (by simp only [lv_pick]; rfl) ?_
        exact ih1 (k + 1)  (by omega) (hk12 (by omega)) (by rw [show ((k + 1 : Nat) : Int) = (k : Int) + 1 by omega]; omega)
  refine k_lvs (ls := [0, 1]) [(1, vI ((0 : Nat) : Int)), (0, .ref (kad G 134))] (by simp only [lv_pick]; rfl) ?_
  exact loop1 13 0  (by omega) (by omega) (by show (0 : Int) * 0 ≤ _; omega)

set_option maxRecDepth 100000 in
set_option maxHeartbeats 4000000 in
theorem c_L_sight (l : Launch) (hls : l.stackTraces = false) (G : kG) (hM : 138 ≤ kN G) (w : Nat → va_E) (fl : va_W) (u : Int) (g : Nat → Int) (h0 : 1 ≤ g 0 ∧ g 0 ≤ 6) (h134 : w 134 = owO G g) : KM l G yL_sight cL_sight 2 (some ((FieldType.array FieldType.int))) 1 1 3 [.ref (kad G 134), vI u] w fl (fun v1 w1 fl1 => ∃ (q : Nat) (f : Nat → Int), some (.ref q) = v1 ∧ w = w1 ∧ fl1 = fl ++ [(q, iA G 3 f)] ∧ (0 ≤ f 0 ∧ f 0 < g 0) ∧ (0 ≤ f 1 ∧ f 1 < 1200) ∧ 300 ≤ f 2 ∧ f 2 ≤ 5100) := by
  refine KM_of2 hls (by decide +kernel) rfl (lv0 := [(0, .ref (kad G 134)), (1, vI u)]) rfl (Nat.le_of_ble_eq_true rfl) (fun p e R s m args below meth c Q hC hr hQ => ?_)
  have hN : 133 ≤ kN G := by omega
  refine k_iconst hC dL_sight_0 ?_
  refine k_newi hC (n := 3) rfl (by decide) ⟨by decide, by decide⟩ dL_sight_1 (fun x_1 => ?_)
  show KW p l e R s m args below meth c 2 G Q w (fl ++ [(x_1, iA G 3 (fun _ => 0))]) 1 3 3 [(0, .ref (kad G 134)), (1, vI u)] [.ref x_1]
  refine k_dup hC dL_sight_3 rfl ?_
  refine k_iconst hC dL_sight_4 ?_
  refine k_iload_n hC dL_sight_5 rfl 1 rfl ?_
  refine k_aload_n hC dL_sight_6 rfl 0 rfl ?_
  refine k_getN hC fd_L_50 (kl2 hM (by decide)) h134 rfl dL_sight_7 ?_
  refine k_callS hC (c_L_most l hls G hN w (fl ++ [(x_1, iA G 3 (fun _ => 0))]) u (g 0) (by omega)) yy_L_most wm_L_27 rfl rfl (Nat.le_of_ble_eq_true rfl) (by decide) (by decide) ⟨by decide, by decide⟩ dL_sight_10 (fun v2 w2 fl2 hp2 => ?_)
  obtain ⟨r2, hr2, hs2, q1, q2, q3⟩ := hp2
  subst q1
  subst q2
  subst q3
  show KW p l e R s m args below meth c 2 G Q w (fl ++ [(x_1, iA G 3 (fun _ => 0))]) 1 3 13 [(0, .ref (kad G 134)), (1, vI u)] [vI r2, vI 0, .ref x_1, .ref x_1]
  refine k_iastL hC (n := 3) (f := (fun _ => 0)) 0 rfl [(x_1, iA G 3 (kup (fun _ => 0) 0 r2))] rfl (by decide) (by decide) dL_sight_13 ?_
  refine k_dup hC dL_sight_14 rfl ?_
  refine k_iconst hC dL_sight_15 ?_
  refine k_iload_n hC dL_sight_16 rfl 1 rfl ?_
  refine k_iconst hC dL_sight_17 ?_
  refine k_ishrA hC dL_sight_18 (fun y_3 hy_3 => ?_)
  refine k_sipush hC dL_sight_19 (by decide) ?_
  refine k_callS hC (c_L_most l hls G hN w (fl ++ [(x_1, iA G 3 (kup (fun _ => 0) 0 r2))]) y_3 1200 (by omega)) yy_L_most wm_L_27 rfl rfl (Nat.le_of_ble_eq_true rfl) (by decide) (by decide) ⟨by decide, by decide⟩ dL_sight_22 (fun v4 w4 fl4 hp4 => ?_)
  obtain ⟨r4, hr4, hs4, q1, q2, q3⟩ := hp4
  subst q1
  subst q2
  subst q3
  show KW p l e R s m args below meth c 2 G Q w (fl ++ [(x_1, iA G 3 (kup (fun _ => 0) 0 r2))]) 1 3 25 [(0, .ref (kad G 134)), (1, vI u)] [vI r4, vI 1, .ref x_1, .ref x_1]
  refine k_iastL hC (n := 3) (f := (kup (fun _ => 0) 0 r2)) 0 rfl [(x_1, iA G 3 (kup (kup (fun _ => 0) 0 r2) 1 r4))] rfl (by decide) (by decide) dL_sight_25 ?_
  refine k_dup hC dL_sight_26 rfl ?_
  refine k_iconst hC dL_sight_27 ?_
  refine k_sipush hC dL_sight_28 (by decide) ?_
  refine k_iload_n hC dL_sight_31 rfl 1 rfl ?_
  refine k_iconst hC dL_sight_32 ?_
  refine k_ishrA hC dL_sight_33 (fun y_5 hy_5 => ?_)
  refine k_sipush hC dL_sight_34 (by decide) ?_
  refine k_callS hC (c_L_most l hls G hN w (fl ++ [(x_1, iA G 3 (kup (kup (fun _ => 0) 0 r2) 1 r4))]) y_5 4801 (by omega)) yy_L_most wm_L_27 rfl rfl (Nat.le_of_ble_eq_true rfl) (by decide) (by decide) ⟨by decide, by decide⟩ dL_sight_37 (fun v6 w6 fl6 hp6 => ?_)
  obtain ⟨r6, hr6, hs6, q1, q2, q3⟩ := hp6
  subst q1
  subst q2
  subst q3
  show KW p l e R s m args below meth c 2 G Q w (fl ++ [(x_1, iA G 3 (kup (kup (fun _ => 0) 0 r2) 1 r4))]) 1 3 40 [(0, .ref (kad G 134)), (1, vI u)] [vI r6, vI 300, vI 2, .ref x_1, .ref x_1]
  refine k_iadd hC dL_sight_40 ?_
  refine k_iastL hC (n := 3) (f := (kup (kup (fun _ => 0) 0 r2) 1 r4)) 0 rfl [(x_1, iA G 3 (kup (kup (kup (fun _ => 0) 0 r2) 1 r4) 2 (300 + r6)))] rfl (by decide) (by decide) dL_sight_41 ?_
  subst hQ
  exact k_aret hC hr (Or.inr ⟨_, rfl⟩) (Or.inr ⟨_, rfl⟩) ⟨by decide, by decide⟩ (⟨_, _, rfl, rfl, rfl, ⟨(show 0 ≤ r2 by omega), (show r2 < g 0 by omega)⟩, ⟨(show 0 ≤ r4 by omega), (show r4 < 1200 by omega)⟩, (show 300 ≤ 300 + r6 by omega), (show 300 + r6 ≤ 5100 by omega)⟩) dL_sight_42

