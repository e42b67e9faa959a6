section KL4
variable {p : Program} {l : Launch} {e : Env} {R : Room} {s : State} {m : MethodId} {args : Array Value} {below : List Frame} {meth : Method} {c : Code} {Q : State → Prop} {cc : ByteArray} {own : String} {nL d0 mc0 ms0 : Nat} {G : kG} {w : Nat → va_E} {fl : va_W} {cells slots pc : Nat} {lv : List (Nat × Value)} {st : List Value}
theorem k_tswO (hC : kC p l R s m args meth c cc own nL G d0 mc0 ms0) {dflt lo hi : Int} {offs : Array Int} {len : Nat} {x : Int} (tgt : Nat) (d : decode cc pc = .ok (.tableswitch dflt lo hi offs, len)) (h : (Int32.ofInt x).toInt < lo ∨ hi < (Int32.ofInt x).toInt) (ht : (pc : Int) + dflt = (tgt : Int)) (k : KW p l e R s m args below meth c nL G Q w fl cells slots tgt lv st) : KW p l e R s m args below meth c nL G Q w fl cells slots pc lv (vI x :: st) := fun H locs ls h1 h2 h3 h4 => lv_tableOut hC.1 hC.2.1 d h ht (k H locs ls h1 h2 h3 h4)
theorem k_tswI (hC : kC p l R s m args meth c cc own nL G d0 mc0 ms0) {dflt lo hi off : Int} {offs : Array Int} {len : Nat} {x : Int} (tgt : Nat) (d : decode cc pc = .ok (.tableswitch dflt lo hi offs, len)) (h1 : ¬ (Int32.ofInt x).toInt < lo) (h2 : ¬ hi < (Int32.ofInt x).toInt) (ho : offs[((Int32.ofInt x).toInt - lo).toNat]? = some off) (ht : (pc : Int) + off = (tgt : Int)) (k : KW p l e R s m args below meth c nL G Q w fl cells slots tgt lv st) : KW p l e R s m args below meth c nL G Q w fl cells slots pc lv (vI x :: st) := fun H locs ls g1 g2 g3 g4 => lv_tableIn hC.1 hC.2.1 d h1 h2 ho ht (k H locs ls g1 g2 g3 g4)
end KL4
def kPl14 (w : Nat → va_E) : Prop := ∃ z x y : Int, w 14 = .inr (5, [vI z, vI x, vI y])
theorem kPl14.fr {w w1 : Nat → va_E} (h : kPl14 w) (hf : ∀ j, 14 ≤ j → j ≤ 14 → w1 j = w j) : kPl14 w1 := by
  unfold kPl14; rw [hf 14 (by omega) (by omega)]; exact h
def kCht (G : kG) (w : Nat → va_E) : Prop := (w 10 = chO G ∧ w 11 = liA G) ∧ kLines w ∧ kShip w ∧ kHat G w ∧ kPl14 w ∧ kPl15 w
theorem kCht.fr {G : kG} {w w1 : Nat → va_E} (h : kCht G w) (hf : ∀ j, 10 ≤ j → j ≤ 31 → w1 j = w j) : kCht G w1 := by
  obtain ⟨⟨h0, h1⟩, h2, h3, h4, h5, h6⟩ := h
  exact ⟨⟨(hf 10 (by omega) (by omega)).trans h0, (hf 11 (by omega) (by omega)).trans h1⟩, h2.fr (fun j q1 q2 => hf j (by omega) (by omega)), h3.fr (fun j q1 q2 => hf j (by omega) (by omega)), h4.fr (fun j q1 q2 => hf j (by omega) (by omega)), h5.fr (fun j q1 q2 => hf j (by omega) (by omega)), h6.fr (fun j q1 q2 => hf j (by omega) (by omega))⟩
abbrev srO (G : kG) (sv : Int) : va_E := .inr (11, [.ref (kad G 1), .ref (kad G 32), .ref (kad G 3), .ref (kad G 37), vI sv, .ref (kad G 44), .ref (kad G 10), .ref (kad G 116), .ref (kad G 129), .ref (kad G 132)])
abbrev sNSE : String := "java/util/NoSuchElementException"
abbrev sIAE : String := "java/lang/IllegalArgumentException"
def kOk (c : Prop) (v : Value) (fl : va_W) (P : (Nat → va_E) → Prop) : Option Value → (Nat → va_E) → va_W → Prop := fun v1 w1 fl1 => c ∧ some v = v1 ∧ fl = fl1 ∧ P w1
def kTh (cn ci : Prop) (fl : va_W) (P : (Nat → va_E) → Prop) : String → (Nat → va_E) → va_W → Prop := fun E w1 fl1 => ((E = sNSE ∧ cn) ∨ (E = sIAE ∧ ci)) ∧ fl = fl1 ∧ P w1
def kNd (c : Prop) (w : Nat → va_E) (fl : va_W) : Option Value → (Nat → va_E) → va_W → Prop := fun v1 w1 fl1 => c ∧ none = v1 ∧ w = w1 ∧ fl = fl1
def kNx (E0 : String) (c : Prop) (w : Nat → va_E) (fl : va_W) : String → (Nat → va_E) → va_W → Prop := fun E w1 fl1 => E = E0 ∧ c ∧ w = w1 ∧ fl = fl1
def kCP (G : kG) (w w1 : Nat → va_E) : Prop := kCht G w1 ∧ ∀ j, (j < 10 ∨ 31 < j) → w1 j = w j
theorem w_ini : Cond.initialized RX11 ∈ kwords := wz_X11
set_option maxRecDepth 100000 in
set_option maxHeartbeats 4000000 in
theorem c_X11_needTime (l : Launch) (hls : l.stackTraces = false) (G : kG) (hN : 133 ≤ kN G) (w : Nat → va_E) (fl : va_W) (t : Int) (ht : -2147483648 ≤ t ∧ t ≤ 2147483647) : KX l G yX11_needTime cX11_needTime 1 (none) 8 1 6 [vI t] w fl (kNd (0 ≤ t ∧ t ≤ 5000) w fl) (kNx sIAE (¬ (0 ≤ t ∧ t ≤ 5000)) w fl) := by
  refine KX_of2 hls (by decide +kernel) rfl (lv0 := [(0, vI t)]) rfl (Nat.le_of_ble_eq_true rfl) (fun p e R s m args below meth c Q hC hr htb hQ => ?_)
  subst hQ
  refine k_iload_n hC dX11_needTime_0 rfl 0 rfl ?_
  refine k_if_lt hC 11 dX11_needTime_1 rfl (by omega) (fun c_1 => ?_) (fun c_1 => ?_)
  · exact k_thrIW hC htb (List.mem_of_getElem? (i := 14) rfl) (by decide) ⟨by decide, by decide⟩ (Nat.le_of_ble_eq_true rfl) dX11_needTime_11 dX11_needTime_14 dX11_needTime_15 dX11_needTime_18 dX11_needTime_21 (⟨rfl, by omega, rfl, rfl⟩)
  · refine k_iload_n hC dX11_needTime_4 rfl 0 rfl ?_
    refine k_sipush hC dX11_needTime_5 (by decide) ?_
    refine k_icmp_le hC 22 dX11_needTime_8 rfl (by omega) (by omega) (fun c_8 => ?_) (fun c_8 => ?_)
    · exact k_vretX hC hr ⟨by decide, by decide⟩ (⟨by omega, rfl, rfl, rfl⟩) dX11_needTime_22
    · exact k_thrIW hC htb (List.mem_of_getElem? (i := 14) rfl) (by decide) ⟨by decide, by decide⟩ (Nat.le_of_ble_eq_true rfl) dX11_needTime_11 dX11_needTime_14 dX11_needTime_15 dX11_needTime_18 dX11_needTime_21 (⟨rfl, by omega, rfl, rfl⟩)

set_option maxRecDepth 100000 in
set_option maxHeartbeats 4000000 in
theorem c_X11_needAngle (l : Launch) (hls : l.stackTraces = false) (G : kG) (hN : 133 ≤ kN G) (w : Nat → va_E) (fl : va_W) (t : Int) (ht : -2147483648 ≤ t ∧ t ≤ 2147483647) : KX l G yX11_needAngle cX11_needAngle 1 (none) 8 1 6 [vI t] w fl (kNd (0 ≤ t ∧ t ≤ 21599) w fl) (kNx sIAE (¬ (0 ≤ t ∧ t ≤ 21599)) w fl) := by
  refine KX_of2 hls (by decide +kernel) rfl (lv0 := [(0, vI t)]) rfl (Nat.le_of_ble_eq_true rfl) (fun p e R s m args below meth c Q hC hr htb hQ => ?_)
  subst hQ
  refine k_iload_n hC dX11_needAngle_0 rfl 0 rfl ?_
  refine k_if_lt hC 11 dX11_needAngle_1 rfl (by omega) (fun c_1 => ?_) (fun c_1 => ?_)
  · exact k_thrIW hC htb (List.mem_of_getElem? (i := 20) rfl) (by decide) ⟨by decide, by decide⟩ (Nat.le_of_ble_eq_true rfl) dX11_needAngle_11 dX11_needAngle_14 dX11_needAngle_15 dX11_needAngle_18 dX11_needAngle_21 (⟨rfl, by omega, rfl, rfl⟩)
  · refine k_iload_n hC dX11_needAngle_4 rfl 0 rfl ?_
    refine k_sipush hC dX11_needAngle_5 (by decide) ?_
    refine k_icmp_lt hC 22 dX11_needAngle_8 rfl (by omega) (by omega) (fun c_8 => ?_) (fun c_8 => ?_)
    · exact k_vretX hC hr ⟨by decide, by decide⟩ (⟨by omega, rfl, rfl, rfl⟩) dX11_needAngle_22
    · exact k_thrIW hC htb (List.mem_of_getElem? (i := 20) rfl) (by decide) ⟨by decide, by decide⟩ (Nat.le_of_ble_eq_true rfl) dX11_needAngle_11 dX11_needAngle_14 dX11_needAngle_15 dX11_needAngle_18 dX11_needAngle_21 (⟨rfl, by omega, rfl, rfl⟩)

set_option maxRecDepth 100000 in
set_option maxHeartbeats 4000000 in
theorem c_X11_needBody (l : Launch) (hls : l.stackTraces = false) (G : kG) (hN : 133 ≤ kN G) (w : Nat → va_E) (fl : va_W) (g nl : Nat → Int) (sv t : Int) (ht : -2147483648 ≤ t ∧ t ≤ 2147483647) (hI : Inv g) (h00 : w 0 = srO G sv) (hP : kPlan G w 32 g nl) : KX l G yX11_needBody cX11_needBody 2 (none) 8 1 6 [.ref (kad G 0), vI t] w fl (kNd (0 ≤ t ∧ t < g 0) w fl) (kNx sNSE (¬ (0 ≤ t ∧ t < g 0)) w fl) := by
  refine KX_of2 hls (by decide +kernel) rfl (lv0 := [(0, .ref (kad G 0)), (1, vI t)]) rfl (Nat.le_of_ble_eq_true rfl) (fun p e R s m args below meth c Q hC hr htb hQ => ?_)
  subst hQ
  have h0 := hI.c
  refine k_iload_n hC dX11_needBody_0 rfl 1 rfl ?_
  refine k_if_lt hC 15 dX11_needBody_1 rfl (by omega) (fun c_1 => ?_) (fun c_1 => ?_)
  · exact k_thrNW hC htb (List.mem_of_getElem? (i := 10) rfl) (by decide) ⟨by decide, by decide⟩ (Nat.le_of_ble_eq_true rfl) dX11_needBody_15 dX11_needBody_18 dX11_needBody_19 dX11_needBody_22 dX11_needBody_25 (⟨rfl, by omega, rfl, rfl⟩)
  · refine k_iload_n hC dX11_needBody_4 rfl 1 rfl ?_
    refine k_aload_n hC dX11_needBody_5 rfl 0 rfl ?_
    refine k_get hC fd_X11_25 (kl hN (by decide)) h00 rfl dX11_needBody_6 ?_
    refine k_get hC fd_X11_162 (kl hN (by decide)) hP.1 rfl dX11_needBody_9 ?_
    refine k_icmp_lt hC 26 dX11_needBody_12 rfl (by omega) (by omega) (fun c_12 => ?_) (fun c_12 => ?_)
    · exact k_vretX hC hr ⟨by decide, by decide⟩ (⟨by omega, rfl, rfl, rfl⟩) dX11_needBody_26
    · exact k_thrNW hC htb (List.mem_of_getElem? (i := 10) rfl) (by decide) ⟨by decide, by decide⟩ (Nat.le_of_ble_eq_true rfl) dX11_needBody_15 dX11_needBody_18 dX11_needBody_19 dX11_needBody_22 dX11_needBody_25 (⟨rfl, by omega, rfl, rfl⟩)

set_option maxRecDepth 100000 in
set_option maxHeartbeats 4000000 in
theorem c_X11_needSight (l : Launch) (hls : l.stackTraces = false) (G : kG) (hN : 133 ≤ kN G) (w : Nat → va_E) (fl : va_W) (g : Nat → Int) (sv t : Int) (ht : -2147483648 ≤ t ∧ t ≤ 2147483647) (hI : Inv g) (h00 : w 0 = srO G sv) (hL : kLog G w 3 g) : KX l G yX11_needSight cX11_needSight 2 (none) 8 1 6 [.ref (kad G 0), vI t] w fl (kNd (0 ≤ t ∧ t < g 2) w fl) (kNx sNSE (¬ (0 ≤ t ∧ t < g 2)) w fl) := by
  refine KX_of2 hls (by decide +kernel) rfl (lv0 := [(0, .ref (kad G 0)), (1, vI t)]) rfl (Nat.le_of_ble_eq_true rfl) (fun p e R s m args below meth c Q hC hr htb hQ => ?_)
  subst hQ
  have h0 := hI.c
  refine k_iload_n hC dX11_needSight_0 rfl 1 rfl ?_
  refine k_if_lt hC 15 dX11_needSight_1 rfl (by omega) (fun c_1 => ?_) (fun c_1 => ?_)
  · exact k_thrNW hC htb (List.mem_of_getElem? (i := 15) rfl) (by decide) ⟨by decide, by decide⟩ (Nat.le_of_ble_eq_true rfl) dX11_needSight_15 dX11_needSight_18 dX11_needSight_19 dX11_needSight_22 dX11_needSight_25 (⟨rfl, by omega, rfl, rfl⟩)
  · refine k_iload_n hC dX11_needSight_4 rfl 1 rfl ?_
    refine k_aload_n hC dX11_needSight_5 rfl 0 rfl ?_
    refine k_get hC fd_X11_29 (kl hN (by decide)) h00 rfl dX11_needSight_6 ?_
    refine k_get hC fd_X11_112 (kl hN (by decide)) hL.1 rfl dX11_needSight_9 ?_
    refine k_icmp_lt hC 26 dX11_needSight_12 rfl (by omega) (by omega) (fun c_12 => ?_) (fun c_12 => ?_)
    · exact k_vretX hC hr ⟨by decide, by decide⟩ (⟨by omega, rfl, rfl, rfl⟩) dX11_needSight_26
    · exact k_thrNW hC htb (List.mem_of_getElem? (i := 15) rfl) (by decide) ⟨by decide, by decide⟩ (Nat.le_of_ble_eq_true rfl) dX11_needSight_15 dX11_needSight_18 dX11_needSight_19 dX11_needSight_22 dX11_needSight_25 (⟨rfl, by omega, rfl, rfl⟩)

set_option maxRecDepth 100000 in
set_option maxHeartbeats 4000000 in
theorem c_X11_needThreeSights (l : Launch) (hls : l.stackTraces = false) (G : kG) (hN : 133 ≤ kN G) (w : Nat → va_E) (fl : va_W) (g : Nat → Int) (sv a b d : Int) (ha : -2147483648 ≤ a ∧ a ≤ 2147483647) (hb : -2147483648 ≤ b ∧ b ≤ 2147483647) (hd : -2147483648 ≤ d ∧ d ≤ 2147483647) (hI : Inv g) (h00 : w 0 = srO G sv) (hL : kLog G w 3 g) : KX l G yX11_needThreeSights cX11_needThreeSights 4 (none) 9 3 18 [.ref (kad G 0), vI a, vI b, vI d] w fl (kNd ((0 ≤ a ∧ a < g 2) ∧ (0 ≤ b ∧ b < g 2) ∧ (0 ≤ d ∧ d < g 2)) w fl) (kNx sNSE (¬ ((0 ≤ a ∧ a < g 2) ∧ (0 ≤ b ∧ b < g 2) ∧ (0 ≤ d ∧ d < g 2))) w fl) := by
  refine KX_of2 hls (by decide +kernel) rfl (lv0 := [(0, .ref (kad G 0)), (1, vI a), (2, vI b), (3, vI d)]) rfl (Nat.le_of_ble_eq_true rfl) (fun p e R s m args below meth c Q hC hr htb hQ => ?_)
  subst hQ
  refine k_aload_n hC dX11_needThreeSights_0 rfl 0 rfl ?_
  refine k_iload_n hC dX11_needThreeSights_1 rfl 1 rfl ?_
  refine k_callVX hC (c_X11_needSight l hls G hN w fl g sv a (by omega) hI h00 hL) yy_X11_needSight wm_X11_250 (kl hN (by decide)) h00 rfl rfl rfl rfl (Nat.le_of_ble_eq_true rfl) (by decide) (by decide) ⟨by decide, by decide⟩ dX11_needThreeSights_2 htb ⟨by decide, by decide⟩ (fun E1 w9 fl9 hx1 => by obtain ⟨q1, q2, q3, q4⟩ := hx1; subst q1; subst q3; subst q4; exact ⟨rfl, by omega, rfl, rfl⟩) (fun v9 w9 fl9 hp1 => ?_)
  obtain ⟨hc2_1, q1, q2, q3⟩ := hp1; subst q1; subst q2; subst q3
  refine k_aload_n hC dX11_needThreeSights_5 rfl 0 rfl ?_
  refine k_iload_n hC dX11_needThreeSights_6 rfl 2 rfl ?_
  refine k_callVX hC (c_X11_needSight l hls G hN w fl g sv b (by omega) hI h00 hL) yy_X11_needSight wm_X11_250 (kl hN (by decide)) h00 rfl rfl rfl rfl (Nat.le_of_ble_eq_true rfl) (by decide) (by decide) ⟨by decide, by decide⟩ dX11_needThreeSights_7 htb ⟨by decide, by decide⟩ (fun E1 w9 fl9 hx2 => by obtain ⟨q1, q2, q3, q4⟩ := hx2; subst q1; subst q3; subst q4; exact ⟨rfl, by omega, rfl, rfl⟩) (fun v9 w9 fl9 hp2 => ?_)
  obtain ⟨hc7_2, q1, q2, q3⟩ := hp2; subst q1; subst q2; subst q3
  refine k_aload_n hC dX11_needThreeSights_10 rfl 0 rfl ?_
  refine k_iload_n hC dX11_needThreeSights_11 rfl 3 rfl ?_
  refine k_callVX hC (c_X11_needSight l hls G hN w fl g sv d (by omega) hI h00 hL) yy_X11_needSight wm_X11_250 (kl hN (by decide)) h00 rfl rfl rfl rfl (Nat.le_of_ble_eq_true rfl) (by decide) (by decide) ⟨by decide, by decide⟩ dX11_needThreeSights_12 htb ⟨by decide, by decide⟩ (fun E1 w9 fl9 hx3 => by obtain ⟨q1, q2, q3, q4⟩ := hx3; subst q1; subst q3; subst q4; exact ⟨rfl, by omega, rfl, rfl⟩) (fun v9 w9 fl9 hp3 => ?_)
  obtain ⟨hc12_3, q1, q2, q3⟩ := hp3; subst q1; subst q2; subst q3
  exact k_vretX hC hr ⟨by decide, by decide⟩ (⟨by omega, rfl, rfl, rfl⟩) dX11_needThreeSights_15

