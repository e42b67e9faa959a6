set_option maxRecDepth 100000 in
set_option maxHeartbeats 4000000 in
theorem n_X11_told (l : Launch) (hls : l.stackTraces = false) (G : kG) (hN : 133 ≤ kN G) (w : Nat → va_E) (fl : va_W) (g nl : Nat → Int) (sv : Int) (q : Int) (hq : -2147483648 ≤ q ∧ q ≤ 2147483647) (hI : Inv g) (h00 : w 0 = srO G sv) (hL : kLog G w 3 g) (hP : kPlan G w 32 g nl) (hCt : kCht G w) (hcd : 0 ≤ q ∧ q ≤ 8) : KM l G yX11_told cX11_told 2 (some (FieldType.int)) 0 0 0 [.ref (kad G 0), vI q] w fl (kOk (0 ≤ q ∧ q ≤ 8) (vI (g q.toNat)) fl (kCP G w)) := by
  refine KM_of2 hls (by decide +kernel) rfl (lv0 := [(0, .ref (kad G 0)), (1, vI q)]) rfl (Nat.le_of_ble_eq_true rfl) (fun p e R s m args below meth c Q hC hr hQ => ?_)
  obtain ⟨⟨h10, h11⟩, hLn, hSh, hH, h14, h15⟩ := hCt
  have h0 := hI.c
  refine k_iload_n hC dX11_told_0 rfl 1 rfl ?_
  by_cases c_1 : q < 0 ∨ 8 < q
  · refine k_tswO hC (x := q) 124 dX11_told_1 (by rw [k_t32 (by omega)]; exact c_1) rfl ?_
    exact (by omega : False).elim
  · have h_1 : q = 0 ∨ q = 1 ∨ q = 2 ∨ q = 3 ∨ q = 4 ∨ q = 5 ∨ q = 6 ∨ q = 7 ∨ q = 8 := by omega
    rcases h_1 with q_1 | q_1 | q_1 | q_1 | q_1 | q_1 | q_1 | q_1 | q_1
    · refine k_tswI hC (x := q) 52 (off := 51) dX11_told_1 (by rw [k_t32 (by omega)]; omega) (by rw [k_t32 (by omega)]; omega) (by rw [k_t32 (by omega), q_1]; rfl) rfl ?_
      refine k_aload_n hC dX11_told_52 rfl 0 rfl ?_
      refine k_get hC fd_X11_25 (kl hN (by decide)) h00 rfl dX11_told_53 ?_
      refine k_get hC fd_X11_162 (kl hN (by decide)) hP.1 rfl dX11_told_56 ?_
      subst hQ
      exact k_iret hC hr ⟨by decide, by decide⟩ (⟨(by omega), congrArg (fun z => some (vI z)) (show ((g q.toNat : _) = g 0) from (by rw [q_1]; rfl)), rfl, ⟨⟨⟨h10, h11⟩, hLn, hSh, hH, h14, h15⟩, fun j hj => rfl⟩⟩) dX11_told_59
    · refine k_tswI hC (x := q) 60 (off := 59) dX11_told_1 (by rw [k_t32 (by omega)]; omega) (by rw [k_t32 (by omega)]; omega) (by rw [k_t32 (by omega), q_1]; rfl) rfl ?_
      refine k_aload_n hC dX11_told_60 rfl 0 rfl ?_
      refine k_get hC fd_X11_29 (kl hN (by decide)) h00 rfl dX11_told_61 ?_
      refine k_get hC fd_X11_165 (kl hN (by decide)) hL.1 rfl dX11_told_64 ?_
      subst hQ
      exact k_iret hC hr ⟨by decide, by decide⟩ (⟨(by omega), congrArg (fun z => some (vI z)) (show ((g q.toNat : _) = g 1) from (by rw [q_1]; rfl)), rfl, ⟨⟨⟨h10, h11⟩, hLn, hSh, hH, h14, h15⟩, fun j hj => rfl⟩⟩) dX11_told_67
    · refine k_tswI hC (x := q) 68 (off := 67) dX11_told_1 (by rw [k_t32 (by omega)]; omega) (by rw [k_t32 (by omega)]; omega) (by rw [k_t32 (by omega), q_1]; rfl) rfl ?_
      refine k_aload_n hC dX11_told_68 rfl 0 rfl ?_
      refine k_get hC fd_X11_29 (kl hN (by decide)) h00 rfl dX11_told_69 ?_
      refine k_get hC fd_X11_112 (kl hN (by decide)) hL.1 rfl dX11_told_72 ?_
      subst hQ
      exact k_iret hC hr ⟨by decide, by decide⟩ (⟨(by omega), congrArg (fun z => some (vI z)) (show ((g q.toNat : _) = g 2) from (by rw [q_1]; rfl)), rfl, ⟨⟨⟨h10, h11⟩, hLn, hSh, hH, h14, h15⟩, fun j hj => rfl⟩⟩) dX11_told_75
    · refine k_tswI hC (x := q) 76 (off := 75) dX11_told_1 (by rw [k_t32 (by omega)]; omega) (by rw [k_t32 (by omega)]; omega) (by rw [k_t32 (by omega), q_1]; rfl) rfl ?_
      refine k_aload_n hC dX11_told_76 rfl 0 rfl ?_
      refine k_get hC fd_X11_25 (kl hN (by decide)) h00 rfl dX11_told_77 ?_
      refine k_get hC fd_X11_168 (kl hN (by decide)) hP.1 rfl dX11_told_80 ?_
      subst hQ
      exact k_iret hC hr ⟨by decide, by decide⟩ (⟨(by omega), congrArg (fun z => some (vI z)) (show ((g q.toNat : _) = g 3) from (by rw [q_1]; rfl)), rfl, ⟨⟨⟨h10, h11⟩, hLn, hSh, hH, h14, h15⟩, fun j hj => rfl⟩⟩) dX11_told_83
    · refine k_tswI hC (x := q) 84 (off := 83) dX11_told_1 (by rw [k_t32 (by omega)]; omega) (by rw [k_t32 (by omega)]; omega) (by rw [k_t32 (by omega), q_1]; rfl) rfl ?_
      refine k_aload_n hC dX11_told_84 rfl 0 rfl ?_
      refine k_get hC fd_X11_25 (kl hN (by decide)) h00 rfl dX11_told_85 ?_
      refine k_get hC fd_X11_171 (kl hN (by decide)) hP.1 rfl dX11_told_88 ?_
      subst hQ
      exact k_iret hC hr ⟨by decide, by decide⟩ (⟨(by omega), congrArg (fun z => some (vI z)) (show ((g q.toNat : _) = g 4) from (by rw [q_1]; rfl)), rfl, ⟨⟨⟨h10, h11⟩, hLn, hSh, hH, h14, h15⟩, fun j hj => rfl⟩⟩) dX11_told_91
    · refine k_tswI hC (x := q) 92 (off := 91) dX11_told_1 (by rw [k_t32 (by omega)]; omega) (by rw [k_t32 (by omega)]; omega) (by rw [k_t32 (by omega), q_1]; rfl) rfl ?_
      refine k_aload_n hC dX11_told_92 rfl 0 rfl ?_
      refine k_get hC fd_X11_29 (kl hN (by decide)) h00 rfl dX11_told_93 ?_
      refine k_get hC fd_X11_174 (kl hN (by decide)) hL.1 rfl dX11_told_96 ?_
      subst hQ
      exact k_iret hC hr ⟨by decide, by decide⟩ (⟨(by omega), congrArg (fun z => some (vI z)) (show ((g q.toNat : _) = g 5) from (by rw [q_1]; rfl)), rfl, ⟨⟨⟨h10, h11⟩, hLn, hSh, hH, h14, h15⟩, fun j hj => rfl⟩⟩) dX11_told_99
    · refine k_tswI hC (x := q) 100 (off := 99) dX11_told_1 (by rw [k_t32 (by omega)]; omega) (by rw [k_t32 (by omega)]; omega) (by rw [k_t32 (by omega), q_1]; rfl) rfl ?_
      refine k_aload_n hC dX11_told_100 rfl 0 rfl ?_
      refine k_get hC fd_X11_29 (kl hN (by decide)) h00 rfl dX11_told_101 ?_
      refine k_get hC fd_X11_177 (kl hN (by decide)) hL.1 rfl dX11_told_104 ?_
      subst hQ
      exact k_iret hC hr ⟨by decide, by decide⟩ (⟨(by omega), congrArg (fun z => some (vI z)) (show ((g q.toNat : _) = g 6) from (by rw [q_1]; rfl)), rfl, ⟨⟨⟨h10, h11⟩, hLn, hSh, hH, h14, h15⟩, fun j hj => rfl⟩⟩) dX11_told_107
    · refine k_tswI hC (x := q) 108 (off := 107) dX11_told_1 (by rw [k_t32 (by omega)]; omega) (by rw [k_t32 (by omega)]; omega) (by rw [k_t32 (by omega), q_1]; rfl) rfl ?_
      refine k_aload_n hC dX11_told_108 rfl 0 rfl ?_
      refine k_get hC fd_X11_29 (kl hN (by decide)) h00 rfl dX11_told_109 ?_
      refine k_get hC fd_X11_180 (kl hN (by decide)) hL.1 rfl dX11_told_112 ?_
      subst hQ
      exact k_iret hC hr ⟨by decide, by decide⟩ (⟨(by omega), congrArg (fun z => some (vI z)) (show ((g q.toNat : _) = g 7) from (by rw [q_1]; rfl)), rfl, ⟨⟨⟨h10, h11⟩, hLn, hSh, hH, h14, h15⟩, fun j hj => rfl⟩⟩) dX11_told_115
    · refine k_tswI hC (x := q) 116 (off := 115) dX11_told_1 (by rw [k_t32 (by omega)]; omega) (by rw [k_t32 (by omega)]; omega) (by rw [k_t32 (by omega), q_1]; rfl) rfl ?_
      refine k_aload_n hC dX11_told_116 rfl 0 rfl ?_
      refine k_get hC fd_X11_29 (kl hN (by decide)) h00 rfl dX11_told_117 ?_
      refine k_get hC fd_X11_183 (kl hN (by decide)) hL.1 rfl dX11_told_120 ?_
      subst hQ
      exact k_iret hC hr ⟨by decide, by decide⟩ (⟨(by omega), congrArg (fun z => some (vI z)) (show ((g q.toNat : _) = g 8) from (by rw [q_1]; rfl)), rfl, ⟨⟨⟨h10, h11⟩, hLn, hSh, hH, h14, h15⟩, fun j hj => rfl⟩⟩) dX11_told_123

set_option maxRecDepth 100000 in
set_option maxHeartbeats 4000000 in
theorem n_X11_body (l : Launch) (hls : l.stackTraces = false) (G : kG) (hN : 133 ≤ kN G) (w : Nat → va_E) (fl : va_W) (g nl : Nat → Int) (sv : Int) (b q : Int) (hb : -2147483648 ≤ b ∧ b ≤ 2147483647) (hq : -2147483648 ≤ q ∧ q ≤ 2147483647) (hI : Inv g) (h00 : w 0 = srO G sv) (hL : kLog G w 3 g) (hP : kPlan G w 32 g nl) (hCt : kCht G w) (hcd : (0 ≤ b ∧ b < g 0) ∧ (0 ≤ q ∧ q ≤ 3)) : KM l G yX11_body cX11_body 3 (some (FieldType.int)) 2 0 0 [.ref (kad G 0), vI b, vI q] w fl (kOk ((0 ≤ b ∧ b < g 0) ∧ (0 ≤ q ∧ q ≤ 3)) (vI (bodyV g b.toNat q)) fl (kCP G w)) := by
  refine KM_of2 hls (by decide +kernel) rfl (lv0 := [(0, .ref (kad G 0)), (1, vI b), (2, vI q)]) rfl (Nat.le_of_ble_eq_true rfl) (fun p e R s m args below meth c Q hC hr hQ => ?_)
  obtain ⟨⟨h10, h11⟩, hLn, hSh, hH, h14, h15⟩ := hCt
  have h0 := hI.c
  refine k_aload_n hC dX11_body_0 rfl 0 rfl ?_
  refine k_iload_n hC dX11_body_1 rfl 1 rfl ?_
  refine k_callV hC (n_X11_needBody l hls G hN w fl g nl sv b (by omega) hI h00 hP (by omega)) yy_X11_needBody wm_X11_191 (kl hN (by decide)) h00 rfl rfl rfl rfl (Nat.le_of_ble_eq_true rfl) (by decide) (by decide) ⟨by decide, by decide⟩ dX11_body_2 (fun v9 w9 fl9 hp1 => ?_)
  obtain ⟨hc2_1, q1, q2, q3⟩ := hp1; subst q1; subst q2; subst q3
  refine k_iload_n hC dX11_body_5 rfl 2 rfl ?_
  by_cases c_6 : q < 0 ∨ 3 < q
  · refine k_tswO hC (x := q) 81 dX11_body_6 (by rw [k_t32 (by omega)]; exact c_6) rfl ?_
    exact (by omega : False).elim
  · have h_6 : q = 0 ∨ q = 1 ∨ q = 2 ∨ q = 3 := by omega
    rcases h_6 with q_6 | q_6 | q_6 | q_6
    · refine k_tswI hC (x := q) 36 (off := 30) dX11_body_6 (by rw [k_t32 (by omega)]; omega) (by rw [k_t32 (by omega)]; omega) (by rw [k_t32 (by omega), q_6]; rfl) rfl ?_
      refine k_aload_n hC dX11_body_36 rfl 0 rfl ?_
      refine k_get hC fd_X11_25 (kl hN (by decide)) h00 rfl dX11_body_37 ?_
      refine k_get hC fd_X11_194 (kl hN (by decide)) hP.1 rfl dX11_body_40 ?_
      refine k_iload_n hC dX11_body_43 rfl 1 rfl ?_
      refine k_pureS hC (c_X11_at l hls G hN w fl 33 b 6 (fun j => g (9 + 4 * j)) (by decide) (by omega) (by decide) hP.2.1) yy_X11_at wm_X11_198 rfl rfl (Nat.le_of_ble_eq_true rfl) (by decide) (by decide) ⟨by decide, by decide⟩ dX11_body_44 ?_
      refine k_topv (vI (g (9 + 4 * (b.toNat)))) rfl ?_
      subst hQ
      exact k_iret hC hr ⟨by decide, by decide⟩ (⟨(by omega), congrArg (fun z => some (vI z)) (show ((bodyV g b.toNat q : _) = g (9 + 4 * (b.toNat))) from (by subst q_6; rfl)), rfl, ⟨⟨⟨h10, h11⟩, hLn, hSh, hH, h14, h15⟩, fun j hj => rfl⟩⟩) dX11_body_47
    · refine k_tswI hC (x := q) 48 (off := 42) dX11_body_6 (by rw [k_t32 (by omega)]; omega) (by rw [k_t32 (by omega)]; omega) (by rw [k_t32 (by omega), q_6]; rfl) rfl ?_
      refine k_aload_n hC dX11_body_48 rfl 0 rfl ?_
      refine k_get hC fd_X11_25 (kl hN (by decide)) h00 rfl dX11_body_49 ?_
      refine k_get hC fd_X11_202 (kl hN (by decide)) hP.1 rfl dX11_body_52 ?_
      refine k_iload_n hC dX11_body_55 rfl 1 rfl ?_
      refine k_pureS hC (c_X11_at l hls G hN w fl 34 b 6 (fun j => g (10 + 4 * j)) (by decide) (by omega) (by decide) hP.2.2.1) yy_X11_at wm_X11_198 rfl rfl (Nat.le_of_ble_eq_true rfl) (by decide) (by decide) ⟨by decide, by decide⟩ dX11_body_56 ?_
      refine k_topv (vI (g (10 + 4 * (b.toNat)))) rfl ?_
      subst hQ
      exact k_iret hC hr ⟨by decide, by decide⟩ (⟨(by omega), congrArg (fun z => some (vI z)) (show ((bodyV g b.toNat q : _) = g (10 + 4 * (b.toNat))) from (by subst q_6; rfl)), rfl, ⟨⟨⟨h10, h11⟩, hLn, hSh, hH, h14, h15⟩, fun j hj => rfl⟩⟩) dX11_body_59
    · refine k_tswI hC (x := q) 60 (off := 54) dX11_body_6 (by rw [k_t32 (by omega)]; omega) (by rw [k_t32 (by omega)]; omega) (by rw [k_t32 (by omega), q_6]; rfl) rfl ?_
      refine k_aload_n hC dX11_body_60 rfl 0 rfl ?_
      refine k_get hC fd_X11_25 (kl hN (by decide)) h00 rfl dX11_body_61 ?_
      refine k_get hC fd_X11_205 (kl hN (by decide)) hP.1 rfl dX11_body_64 ?_
      refine k_iload_n hC dX11_body_67 rfl 1 rfl ?_
      refine k_pureS hC (c_X11_at l hls G hN w fl 35 b 6 (fun j => g (11 + 4 * j)) (by decide) (by omega) (by decide) hP.2.2.2.1) yy_X11_at wm_X11_198 rfl rfl (Nat.le_of_ble_eq_true rfl) (by decide) (by decide) ⟨by decide, by decide⟩ dX11_body_68 ?_
      refine k_topv (vI (g (11 + 4 * (b.toNat)))) rfl ?_
      subst hQ
      exact k_iret hC hr ⟨by decide, by decide⟩ (⟨(by omega), congrArg (fun z => some (vI z)) (show ((bodyV g b.toNat q : _) = g (11 + 4 * (b.toNat))) from (by subst q_6; rfl)), rfl, ⟨⟨⟨h10, h11⟩, hLn, hSh, hH, h14, h15⟩, fun j hj => rfl⟩⟩) dX11_body_71
    · refine k_tswI hC (x := q) 72 (off := 66) dX11_body_6 (by rw [k_t32 (by omega)]; omega) (by rw [k_t32 (by omega)]; omega) (by rw [k_t32 (by omega), q_6]; rfl) rfl ?_
      refine k_aload_n hC dX11_body_72 rfl 0 rfl ?_
      refine k_get hC fd_X11_29 (kl hN (by decide)) h00 rfl dX11_body_73 ?_
      refine k_iload_n hC dX11_body_76 rfl 1 rfl ?_
      refine k_pureV hC (c_X4_sightsOf l hls G hN w fl 3 g b (by omega) (by omega) (by omega) (fun k hk => by have := hI.sight k hk; omega) hL) yy_X4_sightsOf wm_X11_208 (kl hN (by decide)) hL.1 rfl rfl rfl rfl (Nat.le_of_ble_eq_true rfl) (by decide) (by decide) ⟨by decide, by decide⟩ dX11_body_77 ?_
      subst hQ
      exact k_iret hC hr ⟨by decide, by decide⟩ (⟨(by omega), congrArg (fun z => some (vI z)) (show ((bodyV g b.toNat q : _) = cntM g b (g 2).toNat) from (by subst q_6; show cntM g ((b.toNat : Nat) : Int) _ = _; rw [show ((b.toNat : Nat) : Int) = b by omega])), rfl, ⟨⟨⟨h10, h11⟩, hLn, hSh, hH, h14, h15⟩, fun j hj => rfl⟩⟩) dX11_body_80

set_option maxRecDepth 100000 in
set_option maxHeartbeats 4000000 in
theorem n_X11_leg (l : Launch) (hls : l.stackTraces = false) (G : kG) (hN : 133 ≤ kN G) (w : Nat → va_E) (fl : va_W) (g nl : Nat → Int) (sv : Int) (b q : Int) (hb : -2147483648 ≤ b ∧ b ≤ 2147483647) (hq : -2147483648 ≤ q ∧ q ≤ 2147483647) (hI : Inv g) (h00 : w 0 = srO G sv) (hL : kLog G w 3 g) (hP : kPlan G w 32 g nl) (hCt : kCht G w) (hcd : (0 ≤ b ∧ b < g 1) ∧ (0 ≤ q ∧ q ≤ 2)) : KM l G yX11_leg cX11_leg 3 (some (FieldType.int)) 1 0 0 [.ref (kad G 0), vI b, vI q] w fl (kOk ((0 ≤ b ∧ b < g 1) ∧ (0 ≤ q ∧ q ≤ 2)) (vI (legV g b.toNat q)) fl (kCP G w)) := by
  refine KM_of2 hls (by decide +kernel) rfl (lv0 := [(0, .ref (kad G 0)), (1, vI b), (2, vI q)]) rfl (Nat.le_of_ble_eq_true rfl) (fun p e R s m args below meth c Q hC hr hQ => ?_)
  obtain ⟨⟨h10, h11⟩, hLn, hSh, hH, h14, h15⟩ := hCt
  have h0 := hI.c
  refine k_iload_n hC dX11_leg_0 rfl 1 rfl ?_
  refine k_if_lt hC 15 dX11_leg_1 rfl (by omega) (fun c_1 => ?_) (fun c_1 => ?_)
  · exact (by omega : False).elim
  · refine k_iload_n hC dX11_leg_4 rfl 1 rfl ?_
    refine k_aload_n hC dX11_leg_5 rfl 0 rfl ?_
    refine k_get hC fd_X11_29 (kl hN (by decide)) h00 rfl dX11_leg_6 ?_
    refine k_get hC fd_X11_165 (kl hN (by decide)) hL.1 rfl dX11_leg_9 ?_
    refine k_icmp_lt hC 25 dX11_leg_12 rfl (by omega) (by omega) (fun c_12 => ?_) (fun c_12 => ?_)
    · refine k_iload_n hC dX11_leg_25 rfl 2 rfl ?_
      by_cases c_26 : q < 0 ∨ 2 < q
      · refine k_tswO hC (x := q) 88 dX11_leg_26 (by rw [k_t32 (by omega)]; exact c_26) rfl ?_
        exact (by omega : False).elim
      · have h_26 : q = 0 ∨ q = 1 ∨ q = 2 := by omega
        rcases h_26 with q_26 | q_26 | q_26
        · refine k_tswI hC (x := q) 52 (off := 26) dX11_leg_26 (by rw [k_t32 (by omega)]; omega) (by rw [k_t32 (by omega)]; omega) (by rw [k_t32 (by omega), q_26]; rfl) rfl ?_
          refine k_aload_n hC dX11_leg_52 rfl 0 rfl ?_
          refine k_get hC fd_X11_29 (kl hN (by decide)) h00 rfl dX11_leg_53 ?_
          refine k_get hC fd_X11_215 (kl hN (by decide)) hL.1 rfl dX11_leg_56 ?_
          refine k_iload_n hC dX11_leg_59 rfl 1 rfl ?_
          refine k_pureS hC (c_X11_at l hls G hN w fl 4 b 8 (fun j => g (33 + 3 * j)) (by decide) (by omega) (by decide) hL.2.1) yy_X11_at wm_X11_198 rfl rfl (Nat.le_of_ble_eq_true rfl) (by decide) (by decide) ⟨by decide, by decide⟩ dX11_leg_60 ?_
          refine k_topv (vI (g (33 + 3 * (b.toNat)))) rfl ?_
          subst hQ
          exact k_iret hC hr ⟨by decide, by decide⟩ (⟨(by omega), congrArg (fun z => some (vI z)) (show ((legV g b.toNat q : _) = g (33 + 3 * (b.toNat))) from (by subst q_26; rfl)), rfl, ⟨⟨⟨h10, h11⟩, hLn, hSh, hH, h14, h15⟩, fun j hj => rfl⟩⟩) dX11_leg_63
        · refine k_tswI hC (x := q) 64 (off := 38) dX11_leg_26 (by rw [k_t32 (by omega)]; omega) (by rw [k_t32 (by omega)]; omega) (by rw [k_t32 (by omega), q_26]; rfl) rfl ?_
          refine k_aload_n hC dX11_leg_64 rfl 0 rfl ?_
          refine k_get hC fd_X11_29 (kl hN (by decide)) h00 rfl dX11_leg_65 ?_
          refine k_get hC fd_X11_218 (kl hN (by decide)) hL.1 rfl dX11_leg_68 ?_
          refine k_iload_n hC dX11_leg_71 rfl 1 rfl ?_
          refine k_pureS hC (c_X11_at l hls G hN w fl 5 b 8 (fun j => g (34 + 3 * j)) (by decide) (by omega) (by decide) hL.2.2.1) yy_X11_at wm_X11_198 rfl rfl (Nat.le_of_ble_eq_true rfl) (by decide) (by decide) ⟨by decide, by decide⟩ dX11_leg_72 ?_
          refine k_topv (vI (g (34 + 3 * (b.toNat)))) rfl ?_
          subst hQ
          exact k_iret hC hr ⟨by decide, by decide⟩ (⟨(by omega), congrArg (fun z => some (vI z)) (show ((legV g b.toNat q : _) = g (34 + 3 * (b.toNat))) from (by subst q_26; rfl)), rfl, ⟨⟨⟨h10, h11⟩, hLn, hSh, hH, h14, h15⟩, fun j hj => rfl⟩⟩) dX11_leg_75
        · refine k_tswI hC (x := q) 76 (off := 50) dX11_leg_26 (by rw [k_t32 (by omega)]; omega) (by rw [k_t32 (by omega)]; omega) (by rw [k_t32 (by omega), q_26]; rfl) rfl ?_
          refine k_aload_n hC dX11_leg_76 rfl 0 rfl ?_
          refine k_get hC fd_X11_29 (kl hN (by decide)) h00 rfl dX11_leg_77 ?_
          refine k_get hC fd_X11_221 (kl hN (by decide)) hL.1 rfl dX11_leg_80 ?_
          refine k_iload_n hC dX11_leg_83 rfl 1 rfl ?_
          refine k_pureS hC (c_X11_at l hls G hN w fl 6 b 8 (fun j => g (35 + 3 * j)) (by decide) (by omega) (by decide) hL.2.2.2.1) yy_X11_at wm_X11_198 rfl rfl (Nat.le_of_ble_eq_true rfl) (by decide) (by decide) ⟨by decide, by decide⟩ dX11_leg_84 ?_
          refine k_topv (vI (g (35 + 3 * (b.toNat)))) rfl ?_
          subst hQ
          exact k_iret hC hr ⟨by decide, by decide⟩ (⟨(by omega), congrArg (fun z => some (vI z)) (show ((legV g b.toNat q : _) = g (35 + 3 * (b.toNat))) from (by subst q_26; rfl)), rfl, ⟨⟨⟨h10, h11⟩, hLn, hSh, hH, h14, h15⟩, fun j hj => rfl⟩⟩) dX11_leg_87
    · exact (by omega : False).elim

set_option maxRecDepth 100000 in
set_option maxHeartbeats 4000000 in
theorem n_X11_displacement (l : Launch) (hls : l.stackTraces = false) (G : kG) (hN : 133 ≤ kN G) (w : Nat → va_E) (fl : va_W) (g nl : Nat → Int) (sv : Int) (T no : Int) (hT : -2147483648 ≤ T ∧ T ≤ 2147483647) (hno : no = 0 ∨ no = 1) (hI : Inv g) (h00 : w 0 = srO G sv) (hL : kLog G w 3 g) (hP : kPlan G w 32 g nl) (hCt : kCht G w) (hcd : (0 ≤ T ∧ T ≤ 5000)) : KM l G yX11_displacement cX11_displacement 4 (some (FieldType.int)) 5 0 0 [.ref (kad G 0), vI T, vI no] w fl (kOk ((0 ≤ T ∧ T ≤ 5000)) (vI (if no = 0 then dispM g T false else dispM g T true)) fl (kCP G w)) := by
  refine KM_of2 hls (by decide +kernel) rfl (lv0 := [(0, .ref (kad G 0)), (1, vI T), (2, vI no)]) rfl (Nat.le_of_ble_eq_true rfl) (fun p e R s m args below meth c Q hC hr hQ => ?_)
  obtain ⟨⟨h10, h11⟩, hLn, hSh, hH, h14, h15⟩ := hCt
  have h0 := hI.c
  refine k_iload_n hC dX11_displacement_0 rfl 1 rfl ?_
  refine k_callS hC (n_X11_needTime l hls G hN w fl T (by omega) (by omega)) yy_X11_needTime wm_X11_226 rfl rfl (Nat.le_of_ble_eq_true rfl) (by decide) (by decide) ⟨by decide, by decide⟩ dX11_displacement_1 (fun v9 w9 fl9 hp1 => ?_)
  obtain ⟨hc1_1, q1, q2, q3⟩ := hp1; subst q1; subst q2; subst q3
  refine k_aload_n hC dX11_displacement_4 rfl 0 rfl ?_
  refine k_get hC fd_X11_43 (kl hN (by decide)) h00 rfl dX11_displacement_5 ?_
  refine k_get hC fd_X11_229 (kl hN (by decide)) h10 rfl dX11_displacement_8 ?_
  refine k_astore_n hC [(3, .ref (kad G 13)), (0, .ref (kad G 0)), (1, vI T), (2, vI no)] dX11_displacement_11 rfl (by decide) rfl ?_
  refine k_aload_n hC dX11_displacement_12 rfl 0 rfl ?_
  refine k_aload_n hC dX11_displacement_13 rfl 1 rfl ?_
  refine k_get hC fd_X11_29 (kl hN (by decide)) h00 rfl dX11_displacement_14 ?_
  refine k_iload_n hC dX11_displacement_17 rfl 2 rfl ?_
  obtain ⟨xq_2, yq_2, laq_2, loq_2, hSq_2⟩ := hSh
  refine k_muvV hC (c_X8_sailTo l hls G hN w fl g xq_2 yq_2 laq_2 loq_2 T hI (by omega) hL hSq_2) yy_X8_sailTo wm_X11_233 (kl hN (by decide)) hSq_2 rfl rfl rfl rfl (Nat.le_of_ble_eq_true rfl) (by decide) (by decide) ⟨by decide, by decide⟩ dX11_displacement_18 (fun w3 hp3 => ?_)
  obtain ⟨hs3, hf3⟩ := hp3
  refine k_iload_n hC dX11_displacement_21 rfl 3 rfl ?_
  refine k_if_eq hC 32 dX11_displacement_22 rfl (by omega) (fun c_22 => ?_) (fun c_22 => ?_)
  · refine k_aload_n hC dX11_displacement_32 rfl 0 rfl ?_
    refine k_get hC fd_X11_242 (kl hN (by decide)) hs3 rfl dX11_displacement_33 ?_
    have hB_4 : kHat G w3 := hH.fr (fun j q1 q2 => (hf3 j (by omega)))
    have hB_5 : kPl14 w3 := h14.fr (fun j q1 q2 => (hf3 j (by omega)))
    have hB_6 : kPl15 w3 := h15.fr (fun j q1 q2 => (hf3 j (by omega)))
    have h_7 : w3 10 = .inr (0, [.ref (kad G 11), .ref (kad G 12), .ref (kad G 13), .ref (kad G 14), .ref (kad G 15), .ref (kad G 16)]) := (hf3 10 (by decide)).trans h10
    have h_8 : w3 11 = rA G 4 12 (fun j => some (kad G (20 + j))) := (hf3 11 (by decide)).trans h11
    have hB_9 : kLines w3 := hLn.fr (fun j q1 q2 => (hf3 j (by omega)))
    subst hQ
    exact k_iret hC hr ⟨by decide, by decide⟩ (⟨(by omega), congrArg (fun z => some (vI z)) (show ((if no = 0 then dispM g T false else dispM g T true : _) = dispM g T false) from (by first | rw [if_pos (by omega)] | rw [if_neg (by omega)])), rfl, ⟨⟨⟨h_7, h_8⟩, hB_9, ⟨_, _, _, _, hs3⟩, hB_4, hB_5, hB_6⟩, fun j hj => hf3 j (by omega)⟩⟩) dX11_displacement_36
  · refine k_aload_n hC dX11_displacement_25 rfl 0 rfl ?_
    refine k_get hC fd_X11_239 (kl hN (by decide)) hs3 rfl dX11_displacement_26 ?_
    refine k_goto hC 36 dX11_displacement_29 rfl ?_
    have hB_10 : kHat G w3 := hH.fr (fun j q1 q2 => (hf3 j (by omega)))
    have hB_11 : kPl14 w3 := h14.fr (fun j q1 q2 => (hf3 j (by omega)))
    have hB_12 : kPl15 w3 := h15.fr (fun j q1 q2 => (hf3 j (by omega)))
    have h_13 : w3 10 = .inr (0, [.ref (kad G 11), .ref (kad G 12), .ref (kad G 13), .ref (kad G 14), .ref (kad G 15), .ref (kad G 16)]) := (hf3 10 (by decide)).trans h10
    have h_14 : w3 11 = rA G 4 12 (fun j => some (kad G (20 + j))) := (hf3 11 (by decide)).trans h11
    have hB_15 : kLines w3 := hLn.fr (fun j q1 q2 => (hf3 j (by omega)))
    subst hQ
    exact k_iret hC hr ⟨by decide, by decide⟩ (⟨(by omega), congrArg (fun z => some (vI z)) (show ((if no = 0 then dispM g T false else dispM g T true : _) = dispM g T true) from (by first | rw [if_pos (by omega)] | rw [if_neg (by omega)])), rfl, ⟨⟨⟨h_13, h_14⟩, hB_15, ⟨_, _, _, _, hs3⟩, hB_10, hB_11, hB_12⟩, fun j hj => hf3 j (by omega)⟩⟩) dX11_displacement_36

set_option maxRecDepth 100000 in
set_option maxHeartbeats 4000000 in
theorem n_X11_sight (l : Launch) (hls : l.stackTraces = false) (G : kG) (hN : 133 ≤ kN G) (w : Nat → va_E) (fl : va_W) (g nl : Nat → Int) (sv : Int) (i q : Int) (hi : -2147483648 ≤ i ∧ i ≤ 2147483647) (hq : -2147483648 ≤ q ∧ q ≤ 2147483647) (hI : Inv g) (h00 : w 0 = srO G sv) (hL : kLog G w 3 g) (hP : kPlan G w 32 g nl) (hCt : kCht G w) (hcd : (0 ≤ i ∧ i < g 2) ∧ (0 ≤ q ∧ q ≤ 8)) : KM l G yX11_sight cX11_sight 4 (some (FieldType.int)) 6 0 0 [.ref (kad G 0), vI i, vI q] w fl (kOk ((0 ≤ i ∧ i < g 2) ∧ (0 ≤ q ∧ q ≤ 8)) (vI (sightV g i.toNat q)) fl (kCP G w)) := by
  refine KM_of2 hls (by decide +kernel) rfl (lv0 := [(0, .ref (kad G 0)), (1, vI i), (2, vI q)]) rfl (Nat.le_of_ble_eq_true rfl) (fun p e R s m args below meth c Q hC hr hQ => ?_)
  obtain ⟨⟨h10, h11⟩, hLn, hSh, hH, h14, h15⟩ := hCt
  have h0 := hI.c
  refine k_aload_n hC dX11_sight_0 rfl 0 rfl ?_
  refine k_iload_n hC dX11_sight_1 rfl 1 rfl ?_
  refine k_callV hC (n_X11_needSight l hls G hN w fl g sv i (by omega) hI h00 hL (by omega)) yy_X11_needSight wm_X11_250 (kl hN (by decide)) h00 rfl rfl rfl rfl (Nat.le_of_ble_eq_true rfl) (by decide) (by decide) ⟨by decide, by decide⟩ dX11_sight_2 (fun v9 w9 fl9 hp1 => ?_)
  obtain ⟨hc2_1, q1, q2, q3⟩ := hp1; subst q1; subst q2; subst q3
  obtain ⟨k, ek⟩ : ∃ zz : Nat, i = (zz : Int) := ⟨i.toNat, by omega⟩
  subst ek
  refine k_aload_n hC dX11_sight_5 rfl 0 rfl ?_
  refine k_get hC fd_X11_43 (kl hN (by decide)) h00 rfl dX11_sight_6 ?_
  refine k_aload_n hC dX11_sight_9 rfl 0 rfl ?_
  refine k_get hC fd_X11_25 (kl hN (by decide)) h00 rfl dX11_sight_10 ?_
  refine k_aload_n hC dX11_sight_13 rfl 0 rfl ?_
  refine k_get hC fd_X11_29 (kl hN (by decide)) h00 rfl dX11_sight_14 ?_
  refine k_iload_n hC dX11_sight_17 rfl 1 rfl ?_
  refine k_iconst hC dX11_sight_18 ?_
  refine k_muvV hC (c_X0_drawLine l hls G hN w fl g nl k 0 (by omega) hI (by omega) hL hP h10 h11 hLn hSh) yy_X0_drawLine wm_X11_253 (kl hN (by decide)) h10 rfl rfl rfl rfl (Nat.le_of_ble_eq_true rfl) (by decide) (by decide) ⟨by decide, by decide⟩ dX11_sight_19 (fun w2 hp2 => ?_)
  obtain ⟨hs2, ⟨la2, lo2, hq2⟩, hf2⟩ := hp2
  have hLn2 : kLines w2 := hLn.put (fun j q1 q2 q3 => hf2 j (by omega)) hs2
  refine k_aload_n hC dX11_sight_22 rfl 0 rfl ?_
  have h_3 : w2 0 = .inr (11, [.ref (kad G 1), .ref (kad G 32), .ref (kad G 3), .ref (kad G 37), vI sv, .ref (kad G 44), .ref (kad G 10), .ref (kad G 116), .ref (kad G 129), .ref (kad G 132)]) := (hf2 0 (by omega)).trans h00
  refine k_get hC fd_X11_43 (kl hN (by decide)) h_3 rfl dX11_sight_23 ?_
  refine k_iload_n hC dX11_sight_26 rfl 1 rfl ?_
  have h_4 : w2 10 = .inr (0, [.ref (kad G 11), .ref (kad G 12), .ref (kad G 13), .ref (kad G 14), .ref (kad G 15), .ref (kad G 16)]) := (hf2 10 (by omega)).trans h10
  have h_5 : w2 11 = rA G 4 12 (fun j => some (kad G (20 + j))) := (hf2 11 (by omega)).trans h11
  refine k_pureV hC (c_X0_lineOf l hls G hN w2 fl k (by omega) h_4 h_5) yy_X0_lineOf wm_X11_257 (kl hN (by decide)) h_4 rfl rfl rfl rfl (Nat.le_of_ble_eq_true rfl) (by decide) (by decide) ⟨by decide, by decide⟩ dX11_sight_27 ?_
  refine k_astore_n hC [(3, .ref (kad G (20 + k))), (0, .ref (kad G 0)), (1, vI (k : Int)), (2, vI q)] dX11_sight_30 rfl (by decide) rfl ?_
  refine k_iload_n hC dX11_sight_31 rfl 3 rfl ?_
  by_cases c_32 : q < 0 ∨ 8 < q
  · refine k_tswO hC (x := q) 150 dX11_sight_32 (by rw [k_t32 (by omega)]; exact c_32) rfl ?_
    exact (by omega : False).elim
  · have h_32 : q = 0 ∨ q = 1 ∨ q = 2 ∨ q = 3 ∨ q = 4 ∨ q = 5 ∨ q = 6 ∨ q = 7 ∨ q = 8 := by omega
    rcases h_32 with q_32 | q_32 | q_32 | q_32 | q_32 | q_32 | q_32 | q_32 | q_32
    · refine k_tswI hC (x := q) 84 (off := 52) dX11_sight_32 (by rw [k_t32 (by omega)]; omega) (by rw [k_t32 (by omega)]; omega) (by rw [k_t32 (by omega), q_32]; rfl) rfl ?_
      refine k_aload_n hC dX11_sight_84 rfl 1 rfl ?_
      refine k_get hC fd_X11_29 (kl hN (by decide)) h_3 rfl dX11_sight_85 ?_
      have hB_6 : kLog G w2 3 g := hL.fr (fun j q1 q2 => (hf2 j (by omega)))
      refine k_get hC fd_X11_261 (kl hN (by decide)) hB_6.1 rfl dX11_sight_88 ?_
      refine k_iload_n hC dX11_sight_91 rfl 2 rfl ?_
      refine k_pureS hC (c_X11_at l hls G hN w2 fl 7 (k : Int) 12 (fun j => g (57 + 3 * j)) (by decide) (by omega) (by decide) hB_6.2.2.2.2.1) yy_X11_at wm_X11_198 rfl rfl (Nat.le_of_ble_eq_true rfl) (by decide) (by decide) ⟨by decide, by decide⟩ dX11_sight_92 ?_
      refine k_topv (vI (g (57 + 3 * k))) rfl ?_
      have hB_7 : kHat G w2 := hH.fr (fun j q1 q2 => (hf2 j (by omega)))
      have hB_8 : kPl14 w2 := h14.fr (fun j q1 q2 => (hf2 j (by omega)))
      have hB_9 : kPl15 w2 := h15.fr (fun j q1 q2 => (hf2 j (by omega)))
      subst hQ
      exact k_iret hC hr ⟨by decide, by decide⟩ (⟨(by omega), congrArg (fun z => some (vI z)) (show ((sightV g k q : _) = g (57 + 3 * k)) from (by subst q_32; rfl)), rfl, ⟨⟨⟨h_4, h_5⟩, hLn2, ⟨_, _, _, _, hq2⟩, hB_7, hB_8, hB_9⟩, fun j hj => hf2 j (by omega)⟩⟩) dX11_sight_95
    · refine k_tswI hC (x := q) 96 (off := 64) dX11_sight_32 (by rw [k_t32 (by omega)]; omega) (by rw [k_t32 (by omega)]; omega) (by rw [k_t32 (by omega), q_32]; rfl) rfl ?_
      refine k_aload_n hC dX11_sight_96 rfl 1 rfl ?_
      refine k_get hC fd_X11_29 (kl hN (by decide)) h_3 rfl dX11_sight_97 ?_
      have hB_10 : kLog G w2 3 g := hL.fr (fun j q1 q2 => (hf2 j (by omega)))
      refine k_get hC fd_X11_264 (kl hN (by decide)) hB_10.1 rfl dX11_sight_100 ?_
      refine k_iload_n hC dX11_sight_103 rfl 2 rfl ?_
      refine k_pureS hC (c_X11_at l hls G hN w2 fl 8 (k : Int) 12 (fun j => g (58 + 3 * j)) (by decide) (by omega) (by decide) hB_10.2.2.2.2.2.1) yy_X11_at wm_X11_198 rfl rfl (Nat.le_of_ble_eq_true rfl) (by decide) (by decide) ⟨by decide, by decide⟩ dX11_sight_104 ?_
      refine k_topv (vI (g (58 + 3 * k))) rfl ?_
      have hB_11 : kHat G w2 := hH.fr (fun j q1 q2 => (hf2 j (by omega)))
      have hB_12 : kPl14 w2 := h14.fr (fun j q1 q2 => (hf2 j (by omega)))
      have hB_13 : kPl15 w2 := h15.fr (fun j q1 q2 => (hf2 j (by omega)))
      subst hQ
      exact k_iret hC hr ⟨by decide, by decide⟩ (⟨(by omega), congrArg (fun z => some (vI z)) (show ((sightV g k q : _) = g (58 + 3 * k)) from (by subst q_32; rfl)), rfl, ⟨⟨⟨h_4, h_5⟩, hLn2, ⟨_, _, _, _, hq2⟩, hB_11, hB_12, hB_13⟩, fun j hj => hf2 j (by omega)⟩⟩) dX11_sight_107
    · refine k_tswI hC (x := q) 108 (off := 76) dX11_sight_32 (by rw [k_t32 (by omega)]; omega) (by rw [k_t32 (by omega)]; omega) (by rw [k_t32 (by omega), q_32]; rfl) rfl ?_
      refine k_aload_n hC dX11_sight_108 rfl 1 rfl ?_
      refine k_get hC fd_X11_29 (kl hN (by decide)) h_3 rfl dX11_sight_109 ?_
      have hB_14 : kLog G w2 3 g := hL.fr (fun j q1 q2 => (hf2 j (by omega)))
      refine k_get hC fd_X11_267 (kl hN (by decide)) hB_14.1 rfl dX11_sight_112 ?_
      refine k_iload_n hC dX11_sight_115 rfl 2 rfl ?_
      refine k_pureS hC (c_X11_at l hls G hN w2 fl 9 (k : Int) 12 (fun j => g (59 + 3 * j)) (by decide) (by omega) (by decide) hB_14.2.2.2.2.2.2) yy_X11_at wm_X11_198 rfl rfl (Nat.le_of_ble_eq_true rfl) (by decide) (by decide) ⟨by decide, by decide⟩ dX11_sight_116 ?_
      refine k_topv (vI (g (59 + 3 * k))) rfl ?_
      have hB_15 : kHat G w2 := hH.fr (fun j q1 q2 => (hf2 j (by omega)))
      have hB_16 : kPl14 w2 := h14.fr (fun j q1 q2 => (hf2 j (by omega)))
      have hB_17 : kPl15 w2 := h15.fr (fun j q1 q2 => (hf2 j (by omega)))
      subst hQ
      exact k_iret hC hr ⟨by decide, by decide⟩ (⟨(by omega), congrArg (fun z => some (vI z)) (show ((sightV g k q : _) = g (59 + 3 * k)) from (by subst q_32; rfl)), rfl, ⟨⟨⟨h_4, h_5⟩, hLn2, ⟨_, _, _, _, hq2⟩, hB_15, hB_16, hB_17⟩, fun j hj => hf2 j (by omega)⟩⟩) dX11_sight_119
    · refine k_tswI hC (x := q) 120 (off := 88) dX11_sight_32 (by rw [k_t32 (by omega)]; omega) (by rw [k_t32 (by omega)]; omega) (by rw [k_t32 (by omega), q_32]; rfl) rfl ?_
      refine k_aload_n hC dX11_sight_120 rfl 0 rfl ?_
      refine k_get hC fd_X11_270 (kl hN (by omega)) hs2 rfl dX11_sight_121 ?_
      have hB_18 : kHat G w2 := hH.fr (fun j q1 q2 => (hf2 j (by omega)))
      have hB_19 : kPl14 w2 := h14.fr (fun j q1 q2 => (hf2 j (by omega)))
      have hB_20 : kPl15 w2 := h15.fr (fun j q1 q2 => (hf2 j (by omega)))
      subst hQ
      exact k_iret hC hr ⟨by decide, by decide⟩ (⟨(by omega), congrArg (fun z => some (vI z)) (show ((sightV g k q : _) = apM g k) from (by subst q_32; rfl)), rfl, ⟨⟨⟨h_4, h_5⟩, hLn2, ⟨_, _, _, _, hq2⟩, hB_18, hB_19, hB_20⟩, fun j hj => hf2 j (by omega)⟩⟩) dX11_sight_124
    · refine k_tswI hC (x := q) 125 (off := 93) dX11_sight_32 (by rw [k_t32 (by omega)]; omega) (by rw [k_t32 (by omega)]; omega) (by rw [k_t32 (by omega), q_32]; rfl) rfl ?_
      refine k_aload_n hC dX11_sight_125 rfl 0 rfl ?_
      refine k_get hC fd_X11_275 (kl hN (by omega)) hs2 rfl dX11_sight_126 ?_
      have hB_21 : kHat G w2 := hH.fr (fun j q1 q2 => (hf2 j (by omega)))
      have hB_22 : kPl14 w2 := h14.fr (fun j q1 q2 => (hf2 j (by omega)))
      have hB_23 : kPl15 w2 := h15.fr (fun j q1 q2 => (hf2 j (by omega)))
      subst hQ
      exact k_iret hC hr ⟨by decide, by decide⟩ (⟨(by omega), congrArg (fun z => some (vI z)) (show ((sightV g k q : _) = obsM g k) from (by subst q_32; rfl)), rfl, ⟨⟨⟨h_4, h_5⟩, hLn2, ⟨_, _, _, _, hq2⟩, hB_21, hB_22, hB_23⟩, fun j hj => hf2 j (by omega)⟩⟩) dX11_sight_129
    · refine k_tswI hC (x := q) 130 (off := 98) dX11_sight_32 (by rw [k_t32 (by omega)]; omega) (by rw [k_t32 (by omega)]; omega) (by rw [k_t32 (by omega), q_32]; rfl) rfl ?_
      refine k_aload_n hC dX11_sight_130 rfl 0 rfl ?_
      refine k_get hC fd_X11_278 (kl hN (by omega)) hs2 rfl dX11_sight_131 ?_
      have hB_24 : kHat G w2 := hH.fr (fun j q1 q2 => (hf2 j (by omega)))
      have hB_25 : kPl14 w2 := h14.fr (fun j q1 q2 => (hf2 j (by omega)))
      have hB_26 : kPl15 w2 := h15.fr (fun j q1 q2 => (hf2 j (by omega)))
      subst hQ
      exact k_iret hC hr ⟨by decide, by decide⟩ (⟨(by omega), congrArg (fun z => some (vI z)) (show ((sightV g k q : _) = expM g k) from (by subst q_32; rfl)), rfl, ⟨⟨⟨h_4, h_5⟩, hLn2, ⟨_, _, _, _, hq2⟩, hB_24, hB_25, hB_26⟩, fun j hj => hf2 j (by omega)⟩⟩) dX11_sight_134
    · refine k_tswI hC (x := q) 135 (off := 103) dX11_sight_32 (by rw [k_t32 (by omega)]; omega) (by rw [k_t32 (by omega)]; omega) (by rw [k_t32 (by omega), q_32]; rfl) rfl ?_
      refine k_aload_n hC dX11_sight_135 rfl 0 rfl ?_
      refine k_get hC fd_X11_281 (kl hN (by omega)) hs2 rfl dX11_sight_136 ?_
      have hB_27 : kHat G w2 := hH.fr (fun j q1 q2 => (hf2 j (by omega)))
      have hB_28 : kPl14 w2 := h14.fr (fun j q1 q2 => (hf2 j (by omega)))
      have hB_29 : kPl15 w2 := h15.fr (fun j q1 q2 => (hf2 j (by omega)))
      subst hQ
      exact k_iret hC hr ⟨by decide, by decide⟩ (⟨(by omega), congrArg (fun z => some (vI z)) (show ((sightV g k q : _) = aziM g k) from (by subst q_32; rfl)), rfl, ⟨⟨⟨h_4, h_5⟩, hLn2, ⟨_, _, _, _, hq2⟩, hB_27, hB_28, hB_29⟩, fun j hj => hf2 j (by omega)⟩⟩) dX11_sight_139
    · refine k_tswI hC (x := q) 140 (off := 108) dX11_sight_32 (by rw [k_t32 (by omega)]; omega) (by rw [k_t32 (by omega)]; omega) (by rw [k_t32 (by omega), q_32]; rfl) rfl ?_
      refine k_aload_n hC dX11_sight_140 rfl 0 rfl ?_
      refine k_get hC fd_X11_284 (kl hN (by omega)) hs2 rfl dX11_sight_141 ?_
      have hB_30 : kHat G w2 := hH.fr (fun j q1 q2 => (hf2 j (by omega)))
      have hB_31 : kPl14 w2 := h14.fr (fun j q1 q2 => (hf2 j (by omega)))
      have hB_32 : kPl15 w2 := h15.fr (fun j q1 q2 => (hf2 j (by omega)))
      subst hQ
      exact k_iret hC hr ⟨by decide, by decide⟩ (⟨(by omega), congrArg (fun z => some (vI z)) (show ((sightV g k q : _) = intM g k) from (by subst q_32; rfl)), rfl, ⟨⟨⟨h_4, h_5⟩, hLn2, ⟨_, _, _, _, hq2⟩, hB_30, hB_31, hB_32⟩, fun j hj => hf2 j (by omega)⟩⟩) dX11_sight_144
    · refine k_tswI hC (x := q) 145 (off := 113) dX11_sight_32 (by rw [k_t32 (by omega)]; omega) (by rw [k_t32 (by omega)]; omega) (by rw [k_t32 (by omega), q_32]; rfl) rfl ?_
      refine k_aload_n hC dX11_sight_145 rfl 0 rfl ?_
      refine k_get hC fd_X11_287 (kl hN (by omega)) hs2 rfl dX11_sight_146 ?_
      have hB_33 : kHat G w2 := hH.fr (fun j q1 q2 => (hf2 j (by omega)))
      have hB_34 : kPl14 w2 := h14.fr (fun j q1 q2 => (hf2 j (by omega)))
      have hB_35 : kPl15 w2 := h15.fr (fun j q1 q2 => (hf2 j (by omega)))
      subst hQ
      exact k_iret hC hr ⟨by decide, by decide⟩ (⟨(by omega), congrArg (fun z => some (vI z)) (show ((sightV g k q : _) = offM g k) from (by subst q_32; rfl)), rfl, ⟨⟨⟨h_4, h_5⟩, hLn2, ⟨_, _, _, _, hq2⟩, hB_33, hB_34, hB_35⟩, fun j hj => hf2 j (by omega)⟩⟩) dX11_sight_149

set_option maxRecDepth 100000 in
set_option maxHeartbeats 4000000 in
theorem n_X11_carried (l : Launch) (hls : l.stackTraces = false) (G : kG) (hN : 133 ≤ kN G) (w : Nat → va_E) (fl : va_W) (g nl : Nat → Int) (sv : Int) (i T : Int) (hi : -2147483648 ≤ i ∧ i ≤ 2147483647) (hT : -2147483648 ≤ T ∧ T ≤ 2147483647) (hI : Inv g) (h00 : w 0 = srO G sv) (hL : kLog G w 3 g) (hP : kPlan G w 32 g nl) (hCt : kCht G w) (hcd : (0 ≤ i ∧ i < g 2) ∧ (0 ≤ T ∧ T ≤ 5000)) : KM l G yX11_carried cX11_carried 3 (some (FieldType.int)) 6 0 0 [.ref (kad G 0), vI i, vI T] w fl (kOk ((0 ≤ i ∧ i < g 2) ∧ (0 ≤ T ∧ T ≤ 5000)) (vI (carM g i.toNat T)) fl (kCP G w)) := by
  refine KM_of2 hls (by decide +kernel) rfl (lv0 := [(0, .ref (kad G 0)), (1, vI i), (2, vI T)]) rfl (Nat.le_of_ble_eq_true rfl) (fun p e R s m args below meth c Q hC hr hQ => ?_)
  obtain ⟨⟨h10, h11⟩, hLn, hSh, hH, h14, h15⟩ := hCt
  have h0 := hI.c
  refine k_aload_n hC dX11_carried_0 rfl 0 rfl ?_
  refine k_iload_n hC dX11_carried_1 rfl 1 rfl ?_
  refine k_callV hC (n_X11_needSight l hls G hN w fl g sv i (by omega) hI h00 hL (by omega)) yy_X11_needSight wm_X11_250 (kl hN (by decide)) h00 rfl rfl rfl rfl (Nat.le_of_ble_eq_true rfl) (by decide) (by decide) ⟨by decide, by decide⟩ dX11_carried_2 (fun v9 w9 fl9 hp1 => ?_)
  obtain ⟨hc2_1, q1, q2, q3⟩ := hp1; subst q1; subst q2; subst q3
  refine k_iload_n hC dX11_carried_5 rfl 2 rfl ?_
  refine k_callS hC (n_X11_needTime l hls G hN w fl T (by omega) (by omega)) yy_X11_needTime wm_X11_226 rfl rfl (Nat.le_of_ble_eq_true rfl) (by decide) (by decide) ⟨by decide, by decide⟩ dX11_carried_6 (fun v9 w9 fl9 hp2 => ?_)
  obtain ⟨hc6_2, q1, q2, q3⟩ := hp2; subst q1; subst q2; subst q3
  obtain ⟨k, ek⟩ : ∃ zz : Nat, i = (zz : Int) := ⟨i.toNat, by omega⟩
  subst ek
  refine k_aload_n hC dX11_carried_9 rfl 0 rfl ?_
  refine k_get hC fd_X11_43 (kl hN (by decide)) h00 rfl dX11_carried_10 ?_
  refine k_aload_n hC dX11_carried_13 rfl 0 rfl ?_
  refine k_get hC fd_X11_25 (kl hN (by decide)) h00 rfl dX11_carried_14 ?_
  refine k_aload_n hC dX11_carried_17 rfl 0 rfl ?_
  refine k_get hC fd_X11_29 (kl hN (by decide)) h00 rfl dX11_carried_18 ?_
  refine k_iload_n hC dX11_carried_21 rfl 1 rfl ?_
  refine k_iload_n hC dX11_carried_22 rfl 2 rfl ?_
  refine k_muvV hC (c_X0_drawLine l hls G hN w fl g nl k T (by omega) hI (by omega) hL hP h10 h11 hLn hSh) yy_X0_drawLine wm_X11_253 (kl hN (by decide)) h10 rfl rfl rfl rfl (Nat.le_of_ble_eq_true rfl) (by decide) (by decide) ⟨by decide, by decide⟩ dX11_carried_23 (fun w3 hp3 => ?_)
  obtain ⟨hs3, ⟨la3, lo3, hq3⟩, hf3⟩ := hp3
  have hLn3 : kLines w3 := hLn.put (fun j q1 q2 q3 => hf3 j (by omega)) hs3
  refine k_aload_n hC dX11_carried_26 rfl 0 rfl ?_
  have h_4 : w3 0 = .inr (11, [.ref (kad G 1), .ref (kad G 32), .ref (kad G 3), .ref (kad G 37), vI sv, .ref (kad G 44), .ref (kad G 10), .ref (kad G 116), .ref (kad G 129), .ref (kad G 132)]) := (hf3 0 (by omega)).trans h00
  refine k_get hC fd_X11_43 (kl hN (by decide)) h_4 rfl dX11_carried_27 ?_
  refine k_iload_n hC dX11_carried_30 rfl 1 rfl ?_
  have h_5 : w3 10 = .inr (0, [.ref (kad G 11), .ref (kad G 12), .ref (kad G 13), .ref (kad G 14), .ref (kad G 15), .ref (kad G 16)]) := (hf3 10 (by omega)).trans h10
  have h_6 : w3 11 = rA G 4 12 (fun j => some (kad G (20 + j))) := (hf3 11 (by omega)).trans h11
  refine k_pureV hC (c_X0_lineOf l hls G hN w3 fl k (by omega) h_5 h_6) yy_X0_lineOf wm_X11_257 (kl hN (by decide)) h_5 rfl rfl rfl rfl (Nat.le_of_ble_eq_true rfl) (by decide) (by decide) ⟨by decide, by decide⟩ dX11_carried_31 ?_
  refine k_get hC fd_X11_292 (kl hN (by omega)) hs3 rfl dX11_carried_34 ?_
  have hB_7 : kHat G w3 := hH.fr (fun j q1 q2 => (hf3 j (by omega)))
  have hB_8 : kPl14 w3 := h14.fr (fun j q1 q2 => (hf3 j (by omega)))
  have hB_9 : kPl15 w3 := h15.fr (fun j q1 q2 => (hf3 j (by omega)))
  subst hQ
  exact k_iret hC hr ⟨by decide, by decide⟩ (⟨(by omega), congrArg (fun z => some (vI z)) (show ((carM g k T : _) = carM g k T) from rfl), rfl, ⟨⟨⟨h_5, h_6⟩, hLn3, ⟨_, _, _, _, hq3⟩, hB_7, hB_8, hB_9⟩, fun j hj => hf3 j (by omega)⟩⟩) dX11_carried_37

set_option maxRecDepth 100000 in
set_option maxHeartbeats 4000000 in
theorem n_X11_crossing (l : Launch) (hls : l.stackTraces = false) (G : kG) (hN : 133 ≤ kN G) (w : Nat → va_E) (fl : va_W) (g nl : Nat → Int) (sv : Int) (i j T no : Int) (hi : -2147483648 ≤ i ∧ i ≤ 2147483647) (hj : -2147483648 ≤ j ∧ j ≤ 2147483647) (hT : -2147483648 ≤ T ∧ T ≤ 2147483647) (hno : no = 0 ∨ no = 1) (hI : Inv g) (h00 : w 0 = srO G sv) (hL : kLog G w 3 g) (hP : kPlan G w 32 g nl) (hCt : kCht G w) (hcd : ((0 ≤ i ∧ i < g 2) ∧ (0 ≤ j ∧ j < g 2)) ∧ (0 ≤ T ∧ T ≤ 5000)) : KM l G yX11_crossing cX11_crossing 6 (some (FieldType.int)) 6 0 0 [.ref (kad G 0), vI i, vI j, vI T, vI no] w fl (kOk (((0 ≤ i ∧ i < g 2) ∧ (0 ≤ j ∧ j < g 2)) ∧ (0 ≤ T ∧ T ≤ 5000)) (vI (crsV g i.toNat j.toNat T no)) fl (kCP G w)) := by
  refine KM_of2 hls (by decide +kernel) rfl (lv0 := [(0, .ref (kad G 0)), (1, vI i), (2, vI j), (3, vI T), (4, vI no)]) rfl (Nat.le_of_ble_eq_true rfl) (fun p e R s m args below meth c Q hC hr hQ => ?_)
  obtain ⟨⟨h10, h11⟩, hLn, hSh, hH, h14, h15⟩ := hCt
  have h0 := hI.c
  refine k_aload_n hC dX11_crossing_0 rfl 0 rfl ?_
  refine k_iload_n hC dX11_crossing_1 rfl 1 rfl ?_
  refine k_callV hC (n_X11_needSight l hls G hN w fl g sv i (by omega) hI h00 hL (by omega)) yy_X11_needSight wm_X11_250 (kl hN (by decide)) h00 rfl rfl rfl rfl (Nat.le_of_ble_eq_true rfl) (by decide) (by decide) ⟨by decide, by decide⟩ dX11_crossing_2 (fun v9 w9 fl9 hp1 => ?_)
  obtain ⟨hc2_1, q1, q2, q3⟩ := hp1; subst q1; subst q2; subst q3
  refine k_aload_n hC dX11_crossing_5 rfl 0 rfl ?_
  refine k_iload_n hC dX11_crossing_6 rfl 2 rfl ?_
  refine k_callV hC (n_X11_needSight l hls G hN w fl g sv j (by omega) hI h00 hL (by omega)) yy_X11_needSight wm_X11_250 (kl hN (by decide)) h00 rfl rfl rfl rfl (Nat.le_of_ble_eq_true rfl) (by decide) (by decide) ⟨by decide, by decide⟩ dX11_crossing_7 (fun v9 w9 fl9 hp2 => ?_)
  obtain ⟨hc7_2, q1, q2, q3⟩ := hp2; subst q1; subst q2; subst q3
  refine k_iload_n hC dX11_crossing_10 rfl 3 rfl ?_
  refine k_callS hC (n_X11_needTime l hls G hN w fl T (by omega) (by omega)) yy_X11_needTime wm_X11_226 rfl rfl (Nat.le_of_ble_eq_true rfl) (by decide) (by decide) ⟨by decide, by decide⟩ dX11_crossing_11 (fun v9 w9 fl9 hp3 => ?_)
  obtain ⟨hc11_3, q1, q2, q3⟩ := hp3; subst q1; subst q2; subst q3
  obtain ⟨k, ek⟩ : ∃ zz : Nat, i = (zz : Int) := ⟨i.toNat, by omega⟩
  subst ek
  obtain ⟨n, en⟩ : ∃ zz : Nat, j = (zz : Int) := ⟨j.toNat, by omega⟩
  subst en
  have ht : 0 ≤ T ∧ T ≤ 5000 := by omega
  have hc1 := carM_b hI k (by omega) ht
  have hc2 := carM_b hI n (by omega) ht
  have hs1 := sinM_b (aziM g k)
  have hs2 := sinM_b (aziM g n)
  have hs3 := cosM_b (aziM g k)
  have hs4 := cosM_b (aziM g n)
  refine k_aload_n hC dX11_crossing_14 rfl 0 rfl ?_
  refine k_get hC fd_X11_43 (kl hN (by decide)) h00 rfl dX11_crossing_15 ?_
  refine k_aload_n hC dX11_crossing_18 rfl 0 rfl ?_
  refine k_get hC fd_X11_25 (kl hN (by decide)) h00 rfl dX11_crossing_19 ?_
  refine k_aload_n hC dX11_crossing_22 rfl 0 rfl ?_
  refine k_get hC fd_X11_29 (kl hN (by decide)) h00 rfl dX11_crossing_23 ?_
  refine k_iload_n hC dX11_crossing_26 rfl 1 rfl ?_
  refine k_iload_n hC dX11_crossing_27 rfl 3 rfl ?_
  refine k_muvV hC (c_X0_drawLine l hls G hN w fl g nl k T (by omega) hI (by omega) hL hP h10 h11 hLn hSh) yy_X0_drawLine wm_X11_253 (kl hN (by decide)) h10 rfl rfl rfl rfl (Nat.le_of_ble_eq_true rfl) (by decide) (by decide) ⟨by decide, by decide⟩ dX11_crossing_28 (fun w4 hp4 => ?_)
  obtain ⟨hs4, ⟨la4, lo4, hq4⟩, hf4⟩ := hp4
  have hLn4 : kLines w4 := hLn.put (fun j q1 q2 q3 => hf4 j (by omega)) hs4
  refine k_aload_n hC dX11_crossing_31 rfl 0 rfl ?_
  have h_5 : w4 0 = .inr (11, [.ref (kad G 1), .ref (kad G 32), .ref (kad G 3), .ref (kad G 37), vI sv, .ref (kad G 44), .ref (kad G 10), .ref (kad G 116), .ref (kad G 129), .ref (kad G 132)]) := (hf4 0 (by omega)).trans h00
  refine k_get hC fd_X11_43 (kl hN (by decide)) h_5 rfl dX11_crossing_32 ?_
  refine k_aload_n hC dX11_crossing_35 rfl 0 rfl ?_
  refine k_get hC fd_X11_25 (kl hN (by decide)) h_5 rfl dX11_crossing_36 ?_
  refine k_aload_n hC dX11_crossing_39 rfl 0 rfl ?_
  refine k_get hC fd_X11_29 (kl hN (by decide)) h_5 rfl dX11_crossing_40 ?_
  refine k_iload_n hC dX11_crossing_43 rfl 2 rfl ?_
  refine k_iload_n hC dX11_crossing_44 rfl 3 rfl ?_
  have hB_6 : kLog G w4 3 g := hL.fr (fun j q1 q2 => (hf4 j (by omega)))
  have hB_7 : kPlan G w4 32 g nl := hP.fr (fun j q1 q2 => (hf4 j (by omega)))
  have h_8 : w4 10 = .inr (0, [.ref (kad G 11), .ref (kad G 12), .ref (kad G 13), .ref (kad G 14), .ref (kad G 15), .ref (kad G 16)]) := (hf4 10 (by omega)).trans h10
  have h_9 : w4 11 = rA G 4 12 (fun j => some (kad G (20 + j))) := (hf4 11 (by omega)).trans h11
  refine k_muvV hC (c_X0_drawLine l hls G hN w4 fl g nl n T (by omega) hI (by omega) hB_6 hB_7 h_8 h_9 hLn4 ⟨_, _, _, _, hq4⟩) yy_X0_drawLine wm_X11_253 (kl hN (by decide)) h_8 rfl rfl rfl rfl (Nat.le_of_ble_eq_true rfl) (by decide) (by decide) ⟨by decide, by decide⟩ dX11_crossing_45 (fun w10 hp10 => ?_)
  obtain ⟨hs10, ⟨la10, lo10, hq10⟩, hf10⟩ := hp10
  have hLn10 : kLines w10 := hLn4.put (fun j q1 q2 q3 => hf10 j (by omega)) hs10
  have hov_11 : w10 (20 + k) = .inr (3, [vI (apM g k), vI (obsM g k), vI (expM g k), vI (aziM g k), vI (intM g k), vI (offM g k), vI (carM g k T), vI (sinM (aziM g k)), vI (cosM (aziM g k))]) := by
    rcases Decidable.em (k = n) with q | q
    · rw [q]; exact hs10
    · exact (hf10 (20 + k) (by omega)).trans hs4
  refine k_aload_n hC dX11_crossing_48 rfl 0 rfl ?_
  have h_12 : w10 0 = .inr (11, [.ref (kad G 1), .ref (kad G 32), .ref (kad G 3), .ref (kad G 37), vI sv, .ref (kad G 44), .ref (kad G 10), .ref (kad G 116), .ref (kad G 129), .ref (kad G 132)]) := (hf10 0 (by omega)).trans h_5
  refine k_get hC fd_X11_43 (kl hN (by decide)) h_12 rfl dX11_crossing_49 ?_
  have h_13 : w10 10 = .inr (0, [.ref (kad G 11), .ref (kad G 12), .ref (kad G 13), .ref (kad G 14), .ref (kad G 15), .ref (kad G 16)]) := (hf10 10 (by omega)).trans h_8
  refine k_get hC fd_X11_295 (kl hN (by decide)) h_13 rfl dX11_crossing_52 ?_
  refine k_astore hC [(5, .ref (kad G 14)), (0, .ref (kad G 0)), (1, vI (k : Int)), (2, vI (n : Int)), (3, vI T), (4, vI no)] dX11_crossing_55 (by decide) rfl ?_
  refine k_aload hC dX11_crossing_57 0 rfl ?_
  refine k_aload_n hC dX11_crossing_59 rfl 1 rfl ?_
  refine k_get hC fd_X11_43 (kl hN (by decide)) h_12 rfl dX11_crossing_60 ?_
  refine k_iload_n hC dX11_crossing_63 rfl 2 rfl ?_
  have h_14 : w10 11 = rA G 4 12 (fun j => some (kad G (20 + j))) := (hf10 11 (by omega)).trans h_9
  refine k_pureV hC (c_X0_lineOf l hls G hN w10 fl k (by omega) h_13 h_14) yy_X0_lineOf wm_X11_257 (kl hN (by decide)) h_13 rfl rfl rfl rfl (Nat.le_of_ble_eq_true rfl) (by decide) (by decide) ⟨by decide, by decide⟩ dX11_crossing_64 ?_
  refine k_aload_n hC dX11_crossing_67 rfl 1 rfl ?_
  refine k_get hC fd_X11_43 (kl hN (by decide)) h_12 rfl dX11_crossing_68 ?_
  refine k_iload_n hC dX11_crossing_71 rfl 3 rfl ?_
  refine k_pureV hC (c_X0_lineOf l hls G hN w10 fl n (by omega) h_13 h_14) yy_X0_lineOf wm_X11_257 (kl hN (by decide)) h_13 rfl rfl rfl rfl (Nat.le_of_ble_eq_true rfl) (by decide) (by decide) ⟨by decide, by decide⟩ dX11_crossing_72 ?_
  have hB_16 : kPl14 w10 := h14.fr (fun j q1 q2 => (hf10 j (by omega)).trans (hf4 j (by omega)))
  obtain ⟨zq_15, xq_15, yq_15, hpq_15⟩ := hB_16
  refine k_muvV hC (c_X5_cross l hls G hN w10 fl 14 (20 + k) (20 + n) zq_15 xq_15 yq_15 (apM g k) (obsM g k) (expM g k) (aziM g k) (intM g k) (offM g k) (carM g k T) (sinM (aziM g k)) (cosM (aziM g k)) (apM g n) (obsM g n) (expM g n) (aziM g n) (intM g n) (offM g n) (carM g n T) (sinM (aziM g n)) (cosM (aziM g n)) (by decide) (by omega) (by omega) (by omega) (by omega) (by omega) (by omega) (by omega) (by omega) hpq_15 hov_11 hs10) yy_X5_cross wm_X11_299 (kl hN (by decide)) hpq_15 rfl rfl rfl rfl (Nat.le_of_ble_eq_true rfl) (by decide) (by decide) ⟨by decide, by decide⟩ dX11_crossing_75 (fun w17 hp17 => ?_)
  obtain ⟨hs17, hf17⟩ := hp17
  refine k_aload hC dX11_crossing_78 0 rfl ?_
  refine k_get hC fd_X11_305 (kl hN (by decide)) hs17 rfl dX11_crossing_80 ?_
  obtain ⟨z_18, ez_18, hz_18⟩ := k_bI (crOK (crDet (sinM (aziM g k)) (cosM (aziM g k)) (sinM (aziM g n)) (cosM (aziM g n))))
  refine k_topv (vI z_18) (by rw [ez_18]) ?_
  refine k_if_ne hC 89 dX11_crossing_83 rfl (by omega) (fun c_83 => ?_) (fun c_83 => ?_)
  · refine k_iload hC dX11_crossing_89 5 rfl ?_
    refine k_if_eq hC 102 dX11_crossing_91 rfl (by omega) (fun c_91 => ?_) (fun c_91 => ?_)
    · refine k_aload hC dX11_crossing_102 0 rfl ?_
      refine k_get hC fd_X11_309 (kl hN (by decide)) hs17 rfl dX11_crossing_104 ?_
      have h_19 : w17 13 = .inr (8, [vI (dispM g T false), vI (dispM g T true), vI la10, vI lo10]) := (hf17 13 (by decide)).trans hq10
      have hB_20 : kHat G w17 := hH.fr (fun j q1 q2 => (hf17 j (by omega)).trans ((hf10 j (by omega)).trans (hf4 j (by omega))))
      have hB_21 : kPl15 w17 := h15.fr (fun j q1 q2 => (hf17 j (by omega)).trans ((hf10 j (by omega)).trans (hf4 j (by omega))))
      have h_22 : w17 10 = .inr (0, [.ref (kad G 11), .ref (kad G 12), .ref (kad G 13), .ref (kad G 14), .ref (kad G 15), .ref (kad G 16)]) := (hf17 10 (by decide)).trans h_13
      have h_23 : w17 11 = rA G 4 12 (fun j => some (kad G (20 + j))) := (hf17 11 (by decide)).trans h_14
      have hB_24 : kLines w17 := hLn10.fr (fun j q1 q2 => (hf17 j (by omega)))
      subst hQ
      exact k_iret hC hr ⟨by decide, by decide⟩ (⟨(by omega), congrArg (fun z => some (vI z)) (show ((crsV g k n T no : _) = if crOK (crDet (sinM (aziM g k)) (cosM (aziM g k)) (sinM (aziM g n)) (cosM (aziM g n))) then crE (carM g k T) (sinM (aziM g k)) (cosM (aziM g k)) (carM g n T) (sinM (aziM g n)) (cosM (aziM g n)) else xq_15) from (by show crsV g k n T no = _; unfold crsV; rw [if_pos (hz_18.resolve_right (fun q1 => by omega)).2]; first | (rw [if_pos (by omega), if_pos (hz_18.resolve_right (fun q1 => by omega)).2]; rfl) | (rw [if_neg (by omega), if_pos (hz_18.resolve_right (fun q1 => by omega)).2]; rfl))), rfl, ⟨⟨⟨h_22, h_23⟩, hB_24, ⟨_, _, _, _, h_19⟩, hB_20, ⟨_, _, _, hs17⟩, hB_21⟩, fun j hj => (hf17 j (by omega)).trans ((hf10 j (by omega)).trans (hf4 j (by omega)))⟩⟩) dX11_crossing_107
    · refine k_aload hC dX11_crossing_94 0 rfl ?_
      refine k_get hC fd_X11_308 (kl hN (by decide)) hs17 rfl dX11_crossing_96 ?_
      refine k_goto hC 107 dX11_crossing_99 rfl ?_
      have h_25 : w17 13 = .inr (8, [vI (dispM g T false), vI (dispM g T true), vI la10, vI lo10]) := (hf17 13 (by decide)).trans hq10
      have hB_26 : kHat G w17 := hH.fr (fun j q1 q2 => (hf17 j (by omega)).trans ((hf10 j (by omega)).trans (hf4 j (by omega))))
      have hB_27 : kPl15 w17 := h15.fr (fun j q1 q2 => (hf17 j (by omega)).trans ((hf10 j (by omega)).trans (hf4 j (by omega))))
      have h_28 : w17 10 = .inr (0, [.ref (kad G 11), .ref (kad G 12), .ref (kad G 13), .ref (kad G 14), .ref (kad G 15), .ref (kad G 16)]) := (hf17 10 (by decide)).trans h_13
      have h_29 : w17 11 = rA G 4 12 (fun j => some (kad G (20 + j))) := (hf17 11 (by decide)).trans h_14
      have hB_30 : kLines w17 := hLn10.fr (fun j q1 q2 => (hf17 j (by omega)))
      subst hQ
      exact k_iret hC hr ⟨by decide, by decide⟩ (⟨(by omega), congrArg (fun z => some (vI z)) (show ((crsV g k n T no : _) = if crOK (crDet (sinM (aziM g k)) (cosM (aziM g k)) (sinM (aziM g n)) (cosM (aziM g n))) then crN (carM g k T) (sinM (aziM g k)) (cosM (aziM g k)) (carM g n T) (sinM (aziM g n)) (cosM (aziM g n)) else yq_15) from (by show crsV g k n T no = _; unfold crsV; rw [if_pos (hz_18.resolve_right (fun q1 => by omega)).2]; first | (rw [if_pos (by omega), if_pos (hz_18.resolve_right (fun q1 => by omega)).2]; rfl) | (rw [if_neg (by omega), if_pos (hz_18.resolve_right (fun q1 => by omega)).2]; rfl))), rfl, ⟨⟨⟨h_28, h_29⟩, hB_30, ⟨_, _, _, _, h_25⟩, hB_26, ⟨_, _, _, hs17⟩, hB_27⟩, fun j hj => (hf17 j (by omega)).trans ((hf10 j (by omega)).trans (hf4 j (by omega)))⟩⟩) dX11_crossing_107
  · refine k_ldc hC (x := (-1000000000)) (v := (-1000000000)) dX11_crossing_86 (by decide) wk_X11_143 ?_
    have h_31 : w17 13 = .inr (8, [vI (dispM g T false), vI (dispM g T true), vI la10, vI lo10]) := (hf17 13 (by decide)).trans hq10
    have hB_32 : kHat G w17 := hH.fr (fun j q1 q2 => (hf17 j (by omega)).trans ((hf10 j (by omega)).trans (hf4 j (by omega))))
    have hB_33 : kPl15 w17 := h15.fr (fun j q1 q2 => (hf17 j (by omega)).trans ((hf10 j (by omega)).trans (hf4 j (by omega))))
    have h_34 : w17 10 = .inr (0, [.ref (kad G 11), .ref (kad G 12), .ref (kad G 13), .ref (kad G 14), .ref (kad G 15), .ref (kad G 16)]) := (hf17 10 (by decide)).trans h_13
    have h_35 : w17 11 = rA G 4 12 (fun j => some (kad G (20 + j))) := (hf17 11 (by decide)).trans h_14
    have hB_36 : kLines w17 := hLn10.fr (fun j q1 q2 => (hf17 j (by omega)))
    subst hQ
    exact k_iret hC hr ⟨by decide, by decide⟩ (⟨(by omega), congrArg (fun z => some (vI z)) (show ((crsV g k n T no : _) = -1000000000) from (by show crsV g k n T no = _; unfold crsV; rw [if_neg (hz_18.resolve_left (fun q1 => by omega)).2])), rfl, ⟨⟨⟨h_34, h_35⟩, hB_36, ⟨_, _, _, _, h_31⟩, hB_32, ⟨_, _, _, hs17⟩, hB_33⟩, fun j hj => (hf17 j (by omega)).trans ((hf10 j (by omega)).trans (hf4 j (by omega)))⟩⟩) dX11_crossing_88

