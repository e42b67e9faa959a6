set_option maxRecDepth 100000 in
set_option maxHeartbeats 4000000 in
theorem n_X11_needTime (l : Launch) (hls : l.stackTraces = false) (G : kG) (hN : 133 ≤ kN G) (w : Nat → va_E) (fl : va_W) (t : Int) (ht : -2147483648 ≤ t ∧ t ≤ 2147483647) (hcn : 0 ≤ t ∧ t ≤ 5000) : KM l G yX11_needTime cX11_needTime 1 (none) 0 0 0 [vI t] w fl (kNd (0 ≤ t ∧ t ≤ 5000) w fl) := by
  refine KM_of2 hls (by decide +kernel) rfl (lv0 := [(0, vI t)]) rfl (Nat.le_of_ble_eq_true rfl) (fun p e R s m args below meth c Q hC hr hQ => ?_)
  refine k_iload_n hC dX11_needTime_0 rfl 0 rfl ?_
  refine k_if_lt hC 11 dX11_needTime_1 rfl (by omega) (fun c_1 => ?_) (fun c_1 => ?_)
  · exact (by omega : False).elim
  · refine k_iload_n hC dX11_needTime_4 rfl 0 rfl ?_
    refine k_sipush hC dX11_needTime_5 (by decide) ?_
    refine k_icmp_le hC 22 dX11_needTime_8 rfl (by omega) (by omega) (fun c_8 => ?_) (fun c_8 => ?_)
    · subst hQ
      exact k_vret hC hr ⟨by decide, by decide⟩ (⟨by omega, rfl, rfl, rfl⟩) dX11_needTime_22
    · exact (by omega : False).elim

set_option maxRecDepth 100000 in
set_option maxHeartbeats 4000000 in
theorem n_X11_needAngle (l : Launch) (hls : l.stackTraces = false) (G : kG) (hN : 133 ≤ kN G) (w : Nat → va_E) (fl : va_W) (t : Int) (ht : -2147483648 ≤ t ∧ t ≤ 2147483647) (hcn : 0 ≤ t ∧ t ≤ 21599) : KM l G yX11_needAngle cX11_needAngle 1 (none) 0 0 0 [vI t] w fl (kNd (0 ≤ t ∧ t ≤ 21599) w fl) := by
  refine KM_of2 hls (by decide +kernel) rfl (lv0 := [(0, vI t)]) rfl (Nat.le_of_ble_eq_true rfl) (fun p e R s m args below meth c Q hC hr hQ => ?_)
  refine k_iload_n hC dX11_needAngle_0 rfl 0 rfl ?_
  refine k_if_lt hC 11 dX11_needAngle_1 rfl (by omega) (fun c_1 => ?_) (fun c_1 => ?_)
  · exact (by omega : False).elim
  · refine k_iload_n hC dX11_needAngle_4 rfl 0 rfl ?_
    refine k_sipush hC dX11_needAngle_5 (by decide) ?_
    refine k_icmp_lt hC 22 dX11_needAngle_8 rfl (by omega) (by omega) (fun c_8 => ?_) (fun c_8 => ?_)
    · subst hQ
      exact k_vret hC hr ⟨by decide, by decide⟩ (⟨by omega, rfl, rfl, rfl⟩) dX11_needAngle_22
    · exact (by omega : False).elim

set_option maxRecDepth 100000 in
set_option maxHeartbeats 4000000 in
theorem n_X11_needBody (l : Launch) (hls : l.stackTraces = false) (G : kG) (hN : 133 ≤ kN G) (w : Nat → va_E) (fl : va_W) (g nl : Nat → Int) (sv t : Int) (ht : -2147483648 ≤ t ∧ t ≤ 2147483647) (hI : Inv g) (h00 : w 0 = srO G sv) (hP : kPlan G w 32 g nl) (hcn : 0 ≤ t ∧ t < g 0) : KM l G yX11_needBody cX11_needBody 2 (none) 0 0 0 [.ref (kad G 0), vI t] w fl (kNd (0 ≤ t ∧ t < g 0) w fl) := by
  refine KM_of2 hls (by decide +kernel) rfl (lv0 := [(0, .ref (kad G 0)), (1, vI t)]) rfl (Nat.le_of_ble_eq_true rfl) (fun p e R s m args below meth c Q hC hr hQ => ?_)
  have h0 := hI.c
  refine k_iload_n hC dX11_needBody_0 rfl 1 rfl ?_
  refine k_if_lt hC 15 dX11_needBody_1 rfl (by omega) (fun c_1 => ?_) (fun c_1 => ?_)
  · exact (by omega : False).elim
  · refine k_iload_n hC dX11_needBody_4 rfl 1 rfl ?_
    refine k_aload_n hC dX11_needBody_5 rfl 0 rfl ?_
    refine k_get hC fd_X11_25 (kl hN (by decide)) h00 rfl dX11_needBody_6 ?_
    refine k_get hC fd_X11_162 (kl hN (by decide)) hP.1 rfl dX11_needBody_9 ?_
    refine k_icmp_lt hC 26 dX11_needBody_12 rfl (by omega) (by omega) (fun c_12 => ?_) (fun c_12 => ?_)
    · subst hQ
      exact k_vret hC hr ⟨by decide, by decide⟩ (⟨by omega, rfl, rfl, rfl⟩) dX11_needBody_26
    · exact (by omega : False).elim

set_option maxRecDepth 100000 in
set_option maxHeartbeats 4000000 in
theorem n_X11_needSight (l : Launch) (hls : l.stackTraces = false) (G : kG) (hN : 133 ≤ kN G) (w : Nat → va_E) (fl : va_W) (g : Nat → Int) (sv t : Int) (ht : -2147483648 ≤ t ∧ t ≤ 2147483647) (hI : Inv g) (h00 : w 0 = srO G sv) (hL : kLog G w 3 g) (hcn : 0 ≤ t ∧ t < g 2) : KM l G yX11_needSight cX11_needSight 2 (none) 0 0 0 [.ref (kad G 0), vI t] w fl (kNd (0 ≤ t ∧ t < g 2) w fl) := by
  refine KM_of2 hls (by decide +kernel) rfl (lv0 := [(0, .ref (kad G 0)), (1, vI t)]) rfl (Nat.le_of_ble_eq_true rfl) (fun p e R s m args below meth c Q hC hr hQ => ?_)
  have h0 := hI.c
  refine k_iload_n hC dX11_needSight_0 rfl 1 rfl ?_
  refine k_if_lt hC 15 dX11_needSight_1 rfl (by omega) (fun c_1 => ?_) (fun c_1 => ?_)
  · exact (by omega : False).elim
  · refine k_iload_n hC dX11_needSight_4 rfl 1 rfl ?_
    refine k_aload_n hC dX11_needSight_5 rfl 0 rfl ?_
    refine k_get hC fd_X11_29 (kl hN (by decide)) h00 rfl dX11_needSight_6 ?_
    refine k_get hC fd_X11_112 (kl hN (by decide)) hL.1 rfl dX11_needSight_9 ?_
    refine k_icmp_lt hC 26 dX11_needSight_12 rfl (by omega) (by omega) (fun c_12 => ?_) (fun c_12 => ?_)
    · subst hQ
      exact k_vret hC hr ⟨by decide, by decide⟩ (⟨by omega, rfl, rfl, rfl⟩) dX11_needSight_26
    · exact (by omega : False).elim

set_option maxRecDepth 100000 in
set_option maxHeartbeats 4000000 in
theorem n_X11_needThreeSights (l : Launch) (hls : l.stackTraces = false) (G : kG) (hN : 133 ≤ kN G) (w : Nat → va_E) (fl : va_W) (g : Nat → Int) (sv a b d : Int) (ha : -2147483648 ≤ a ∧ a ≤ 2147483647) (hb : -2147483648 ≤ b ∧ b ≤ 2147483647) (hd : -2147483648 ≤ d ∧ d ≤ 2147483647) (hI : Inv g) (h00 : w 0 = srO G sv) (hL : kLog G w 3 g) (hcn : (0 ≤ a ∧ a < g 2) ∧ (0 ≤ b ∧ b < g 2) ∧ (0 ≤ d ∧ d < g 2)) : KM l G yX11_needThreeSights cX11_needThreeSights 4 (none) 1 0 0 [.ref (kad G 0), vI a, vI b, vI d] w fl (kNd ((0 ≤ a ∧ a < g 2) ∧ (0 ≤ b ∧ b < g 2) ∧ (0 ≤ d ∧ d < g 2)) w fl) := by
  refine KM_of2 hls (by decide +kernel) rfl (lv0 := [(0, .ref (kad G 0)), (1, vI a), (2, vI b), (3, vI d)]) rfl (Nat.le_of_ble_eq_true rfl) (fun p e R s m args below meth c Q hC hr hQ => ?_)
  refine k_aload_n hC dX11_needThreeSights_0 rfl 0 rfl ?_
  refine k_iload_n hC dX11_needThreeSights_1 rfl 1 rfl ?_
  refine k_callV hC (n_X11_needSight l hls G hN w fl g sv a (by omega) hI h00 hL (by omega)) yy_X11_needSight wm_X11_250 (kl hN (by decide)) h00 rfl rfl rfl rfl (Nat.le_of_ble_eq_true rfl) (by decide) (by decide) ⟨by decide, by decide⟩ dX11_needThreeSights_2 (fun v9 w9 fl9 hp1 => ?_)
  obtain ⟨hc2_1, q1, q2, q3⟩ := hp1; subst q1; subst q2; subst q3
  refine k_aload_n hC dX11_needThreeSights_5 rfl 0 rfl ?_
  refine k_iload_n hC dX11_needThreeSights_6 rfl 2 rfl ?_
  refine k_callV hC (n_X11_needSight l hls G hN w fl g sv b (by omega) hI h00 hL (by omega)) yy_X11_needSight wm_X11_250 (kl hN (by decide)) h00 rfl rfl rfl rfl (Nat.le_of_ble_eq_true rfl) (by decide) (by decide) ⟨by decide, by decide⟩ dX11_needThreeSights_7 (fun v9 w9 fl9 hp2 => ?_)
  obtain ⟨hc7_2, q1, q2, q3⟩ := hp2; subst q1; subst q2; subst q3
  refine k_aload_n hC dX11_needThreeSights_10 rfl 0 rfl ?_
  refine k_iload_n hC dX11_needThreeSights_11 rfl 3 rfl ?_
  refine k_callV hC (n_X11_needSight l hls G hN w fl g sv d (by omega) hI h00 hL (by omega)) yy_X11_needSight wm_X11_250 (kl hN (by decide)) h00 rfl rfl rfl rfl (Nat.le_of_ble_eq_true rfl) (by decide) (by decide) ⟨by decide, by decide⟩ dX11_needThreeSights_12 (fun v9 w9 fl9 hp3 => ?_)
  obtain ⟨hc12_3, q1, q2, q3⟩ := hp3; subst q1; subst q2; subst q3
  subst hQ
  exact k_vret hC hr ⟨by decide, by decide⟩ (⟨by omega, rfl, rfl, rfl⟩) dX11_needThreeSights_15

