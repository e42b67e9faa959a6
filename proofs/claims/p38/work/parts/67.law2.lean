theorem sightV_r {g : Nat → Int} (hI : Inv g) {k : Nat} (hk : (k : Int) < g 2) (q : Int) : -2147483648 ≤ sightV g k q ∧ sightV g k q ≤ 2147483647 := by
  have h1 := hI.sight k hk
  have h2 := apM_b hI k hk
  have h3 := obsM_b hI k hk
  have h4 := expM_b g k
  have h5 := aziM_b g k
  have h6 := intM_b hI k hk
  have h7 := offM_b hI k hk
  have h8 := hI.c
  unfold sightV
  repeat (first | omega | split)
theorem legV_r {g : Nat → Int} (hI : Inv g) {k : Nat} (hk : (k : Int) < g 1) (q : Int) : -2147483648 ≤ legV g k q ∧ legV g k q ≤ 2147483647 := by
  have h1 := hI.leg k hk
  unfold legV
  repeat (first | omega | split)
theorem told_r {g : Nat → Int} (hI : Inv g) {k : Nat} (hk : k < 9) : -2147483648 ≤ g k ∧ g k ≤ 2147483647 := by
  have h := hI.c
  match k, hk with
  | 0, _ => omega
  | 1, _ => omega
  | 2, _ => omega
  | 3, _ => omega
  | 4, _ => omega
  | 5, _ => omega
  | 6, _ => omega
  | 7, _ => omega
  | 8, _ => omega
  | n + 9, h => omega
set_option maxRecDepth 100000 in
set_option maxHeartbeats 4000000 in
theorem c_L_all (l : Launch) (hls : l.stackTraces = false) (G : kG) (hN : 133 ≤ kN G) (w : Nat → va_E) (fl : va_W) (g nl : Nat → Int) (sv : Int) (hI : Inv g) (h00 : w 0 = srO G sv) (hL : kLog G w 3 g) (hP : kPlan G w 32 g nl) (hCt : kCht G w) : KM l G yL_all cL_all 5 (some (FieldType.long)) 7 0 0 [.ref (kad G 0)] w fl (kOk True (vL (allM g)) fl (kCP G w)) := by
  refine KM_of2 hls (by decide +kernel) rfl (lv0 := [(0, .ref (kad G 0))]) rfl (Nat.le_of_ble_eq_true rfl) (fun p e R s m args below meth c Q hC hr hQ => ?_)
  have h0 := hI.c
  refine k_lconst (x := 0) hC dL_all_0 (by decide) ?_
  refine k_lstore_n hC [(1, vL 0), (0, .ref (kad G 0))] dL_all_1 rfl (by decide) rfl ?_
  refine k_iconst hC dL_all_2 ?_
  refine k_istore_n hC [(3, vI 0), (1, vL 0), (0, .ref (kad G 0))] dL_all_3 rfl (by decide) rfl ?_
  have loop1 : ∀ (n1 : Nat) (k : Nat) (v : Int) (u1 : Nat → va_E), (9 < n1 + k) → ((k : Int) ≤ 9) → (v = al1 g k) → (u1 0 = .inr (11, [.ref (kad G 1), .ref (kad G 32), .ref (kad G 3), .ref (kad G 37), vI sv, .ref (kad G 44), .ref (kad G 10), .ref (kad G 116), .ref (kad G 129), .ref (kad G 132)])) → (kLog G u1 3 g) → (kPlan G u1 32 g nl) → (kCht G u1) → ((∀ j, (j < 10 ∨ 31 < j) → u1 j = w j)) → KW p l e R s m args below meth c 5 G Q u1 fl 0 0 4 [(3, vI (k : Int)), (1, vL v), (0, .ref (kad G 0))] [] := by
    intro n1
    induction n1 with
    | zero =>
      intro k v u1 hn_1 hk hq h0x hLx hPx hCx hfr1
      exact absurd hn_1 (by omega)
    | succ n1 ih1 =>
      intro k v u1 hn_1 hk hq h0x hLx hPx hCx hfr1
      refine k_iload_n hC dL_all_4 rfl 0 rfl ?_
      refine k_bipush hC dL_all_5 (by decide) ?_
      refine k_icmp_ge hC 29 dL_all_7 rfl (by omega) (by omega) (fun c_7 => ?_) (fun c_7 => ?_)
      · refine k_iconst hC dL_all_29 ?_
        refine k_istore_n hC [(3, vI 0), (1, vL v), (0, .ref (kad G 0))] dL_all_30 rfl (by decide) rfl ?_
        have loop2 : ∀ (n2 : Nat) (k : Nat) (v : Int) (u2 : Nat → va_E), ((g 0).toNat < n2 + k) → ((k : Int) ≤ g 0) → (v = al2 g k) → (u2 0 = .inr (11, [.ref (kad G 1), .ref (kad G 32), .ref (kad G 3), .ref (kad G 37), vI sv, .ref (kad G 44), .ref (kad G 10), .ref (kad G 116), .ref (kad G 129), .ref (kad G 132)])) → (kLog G u2 3 g) → (kPlan G u2 32 g nl) → (kCht G u2) → ((∀ j, (j < 10 ∨ 31 < j) → u2 j = w j)) → KW p l e R s m args below meth c 5 G Q u2 fl 0 0 31 [(3, vI (k : Int)), (1, vL v), (0, .ref (kad G 0))] [] := by
          intro n2
          induction n2 with
          | zero =>
            intro k v u2 hn_2 hk hq h0x hLx hPx hCx hfr2
            exact absurd hn_2 (by omega)
          | succ n2 ih2 =>
            intro k v u2 hn_2 hk hq h0x hLx hPx hCx hfr2
            refine k_iload_n hC dL_all_31 rfl 0 rfl ?_
            refine k_aload_n hC dL_all_32 rfl 2 rfl ?_
            refine k_iconst hC dL_all_33 ?_
            refine k_callV hC (n_X11_told l hls G hN u2 fl g nl sv 0 (by omega) hI h0x hLx hPx hCx (by omega)) yy_X11_told wm_L_126 (kl hN (by decide)) h0x rfl rfl rfl rfl (Nat.le_of_ble_eq_true rfl) (by decide) (by decide) ⟨by decide, by decide⟩ dL_all_34 (fun v1 w1 fl1 hp1 => ?_)
            obtain ⟨-, q1, q2, hp1⟩ := hp1
            subst q1
            subst q2
            obtain ⟨hCt1, hf1⟩ := hp1
            show KW p l e R s m args below meth c 5 G Q w1 fl 0 0 37 [(3, vI (k : Int)), (1, vL v), (0, .ref (kad G 0))] [vI (g (0 : Int).toNat), vI (k : Int)]
            refine k_topv (vI (g 0)) rfl ?_
            refine k_icmp_ge hC 80 dL_all_37 rfl (by omega) (by omega) (fun c_37 => ?_) (fun c_37 => ?_)
            · refine k_iconst hC dL_all_80 ?_
              refine k_istore_n hC [(3, vI 0), (1, vL v), (0, .ref (kad G 0))] dL_all_81 rfl (by decide) rfl ?_
              have loop3 : ∀ (n3 : Nat) (k : Nat) (v : Int) (u3 : Nat → va_E), ((g 1).toNat < n3 + k) → ((k : Int) ≤ g 1) → (v = al3 g k) → (u3 0 = .inr (11, [.ref (kad G 1), .ref (kad G 32), .ref (kad G 3), .ref (kad G 37), vI sv, .ref (kad G 44), .ref (kad G 10), .ref (kad G 116), .ref (kad G 129), .ref (kad G 132)])) → (kLog G u3 3 g) → (kPlan G u3 32 g nl) → (kCht G u3) → ((∀ j, (j < 10 ∨ 31 < j) → u3 j = w j)) → KW p l e R s m args below meth c 5 G Q u3 fl 0 0 82 [(3, vI (k : Int)), (1, vL v), (0, .ref (kad G 0))] [] := by
                intro n3
                induction n3 with
                | zero =>
                  intro k v u3 hn_3 hk hq h0x hLx hPx hCx hfr3
                  exact absurd hn_3 (by omega)
                | succ n3 ih3 =>
                  intro k v u3 hn_3 hk hq h0x hLx hPx hCx hfr3
                  refine k_iload_n hC dL_all_82 rfl 0 rfl ?_
                  refine k_aload_n hC dL_all_83 rfl 2 rfl ?_
                  refine k_iconst hC dL_all_84 ?_
                  refine k_callV hC (n_X11_told l hls G hN u3 fl g nl sv 1 (by omega) hI h0x hLx hPx hCx (by omega)) yy_X11_told wm_L_126 (kl hN (by decide)) h0x rfl rfl rfl rfl (Nat.le_of_ble_eq_true rfl) (by decide) (by decide) ⟨by decide, by decide⟩ dL_all_85 (fun v2 w2 fl2 hp2 => ?_)
                  obtain ⟨-, q1, q2, hp2⟩ := hp2
                  subst q1
                  subst q2
                  obtain ⟨hCt2, hf2⟩ := hp2
                  show KW p l e R s m args below meth c 5 G Q w2 fl 0 0 88 [(3, vI (k : Int)), (1, vL v), (0, .ref (kad G 0))] [vI (g (1 : Int).toNat), vI (k : Int)]
                  refine k_topv (vI (g 1)) rfl ?_
                  refine k_icmp_ge hC 127 dL_all_88 rfl (by omega) (by omega) (fun c_88 => ?_) (fun c_88 => ?_)
                  · refine k_iconst hC dL_all_127 ?_
                    refine k_istore_n hC [(3, vI 0), (1, vL v), (0, .ref (kad G 0))] dL_all_128 rfl (by decide) rfl ?_
                    have loop4 : ∀ (n4 : Nat) (k : Nat) (v : Int) (u4 : Nat → va_E), ((g 2).toNat < n4 + k) → ((k : Int) ≤ g 2) → (v = al4 g k) → (u4 0 = .inr (11, [.ref (kad G 1), .ref (kad G 32), .ref (kad G 3), .ref (kad G 37), vI sv, .ref (kad G 44), .ref (kad G 10), .ref (kad G 116), .ref (kad G 129), .ref (kad G 132)])) → (kLog G u4 3 g) → (kPlan G u4 32 g nl) → (kCht G u4) → ((∀ j, (j < 10 ∨ 31 < j) → u4 j = w j)) → KW p l e R s m args below meth c 5 G Q u4 fl 0 0 129 [(3, vI (k : Int)), (1, vL v), (0, .ref (kad G 0))] [] := by
                      intro n4
                      induction n4 with
                      | zero =>
                        intro k v u4 hn_4 hk hq h0x hLx hPx hCx hfr4
                        exact absurd hn_4 (by omega)
                      | succ n4 ih4 =>
                        intro k v u4 hn_4 hk hq h0x hLx hPx hCx hfr4
                        refine k_iload_n hC dL_all_129 rfl 0 rfl ?_
                        refine k_aload_n hC dL_all_130 rfl 2 rfl ?_
                        refine k_iconst hC dL_all_131 ?_
                        refine k_callV hC (n_X11_told l hls G hN u4 fl g nl sv 2 (by omega) hI h0x hLx hPx hCx (by omega)) yy_X11_told wm_L_126 (kl hN (by decide)) h0x rfl rfl rfl rfl (Nat.le_of_ble_eq_true rfl) (by decide) (by decide) ⟨by decide, by decide⟩ dL_all_132 (fun v3 w3 fl3 hp3 => ?_)
                        obtain ⟨-, q1, q2, hp3⟩ := hp3
                        subst q1
                        subst q2
                        obtain ⟨hCt3, hf3⟩ := hp3
                        show KW p l e R s m args below meth c 5 G Q w3 fl 0 0 135 [(3, vI (k : Int)), (1, vL v), (0, .ref (kad G 0))] [vI (g (2 : Int).toNat), vI (k : Int)]
                        refine k_topv (vI (g 2)) rfl ?_
                        refine k_icmp_ge hC 175 dL_all_135 rfl (by omega) (by omega) (fun c_135 => ?_) (fun c_135 => ?_)
                        · refine k_lload_n hC dL_all_175 rfl 1 rfl ?_
                          subst hQ
                          exact k_lret hC hr ⟨by decide, by decide⟩ (⟨trivial, congrArg (fun z => some (vL z)) (show (allM g : Int) = v from by rw [hq, show (k : Nat) = (g 2).toNat by omega]; rfl), rfl, ⟨hCt3, fun j hj => (hf3 j (by omega)).trans (hfr4 j (by omega))⟩⟩) dL_all_176
                        · refine k_iconst hC dL_all_138 ?_
                          refine k_istore hC [(4, vI 0), (3, vI (k : Int)), (1, vL v), (0, .ref (kad G 0))] dL_all_139 (by decide) rfl ?_
                          have loop4i : ∀ (n4i : Nat) (i : Nat) (u : Int) (u4i : Nat → va_E), (9 < n4i + i) → (i ≤ 9) → (u = al4i g k v i) → (u4i 0 = .inr (11, [.ref (kad G 1), .ref (kad G 32), .ref (kad G 3), .ref (kad G 37), vI sv, .ref (kad G 44), .ref (kad G 10), .ref (kad G 116), .ref (kad G 129), .ref (kad G 132)])) → (kLog G u4i 3 g) → (kPlan G u4i 32 g nl) → (kCht G u4i) → ((∀ j, (j < 10 ∨ 31 < j) → u4i j = w j)) → KW p l e R s m args below meth c 5 G Q u4i fl 0 0 141 [(4, vI (i : Int)), (3, vI (k : Int)), (1, vL u), (0, .ref (kad G 0))] [] := by
                            intro n4i
                            induction n4i with
                            | zero =>
                              intro i u u4i hn_4i hi hq2 h0x hLx hPx hCx hfr4i
                              exact absurd hn_4i (by omega)
                            | succ n4i ih4i =>
                              intro i u u4i hn_4i hi hq2 h0x hLx hPx hCx hfr4i
                              refine k_iload hC dL_all_141 0 rfl ?_
                              refine k_bipush hC dL_all_143 (by decide) ?_
                              refine k_icmp_ge hC 169 dL_all_145 rfl (by omega) (by omega) (fun c_145 => ?_) (fun c_145 => ?_)
                              · refine k_iinc hC (y := (k : Int) + 1) [(3, vI ((k : Int) + 1)), (4, vI (i : Int)), (1, vL u), (0, .ref (kad G 0))] (j := 1) dL_all_169 rfl (by omega) (by decide) rfl ?_
                                refine k_goto hC 129 dL_all_172 rfl ?_
                                refine k_lvs (ls := [0, 2, 3]) [(3, vI ((k : Int) + 1)), (1, vL u), (0, .ref (kad G 0))] rfl ?_
                                refine k_lvs (ls := [0, 1, 2]) [(3, vI ((k + 1 : Nat) : Int)), (1, vL u), (0, .ref (kad G 0))] (by simp only [lv_pick]; rfl) ?_
                                exact ih4 (k + 1) u u4i (by omega) (by omega) (by rw [hq2, hq, show i = 9 by omega]; rfl) h0x hLx hPx hCx (fun j hj => hfr4i j (by omega))
                              · refine k_ldc2 hC (x := 31) (v := 31) dL_all_148 (by decide) wk_L_154 ?_
                                refine k_lload_n hC dL_all_151 rfl 2 rfl ?_
                                refine k_lmul hC dL_all_152 ?_
                                refine k_aload_n hC dL_all_153 rfl 3 rfl ?_
                                refine k_iload_n hC dL_all_154 rfl 1 rfl ?_
                                refine k_iload hC dL_all_155 0 rfl ?_
                                refine k_callV hC (n_X11_sight l hls G hN u4i fl g nl sv (k : Int) (i : Int) (by omega) (by omega) hI h0x hLx hPx hCx (by omega)) yy_X11_sight wm_L_133 (kl hN (by decide)) h0x rfl rfl rfl rfl (Nat.le_of_ble_eq_true rfl) (by decide) (by decide) ⟨by decide, by decide⟩ dL_all_157 (fun v4 w4 fl4 hp4 => ?_)
                                obtain ⟨-, q1, q2, hp4⟩ := hp4
                                subst q1
                                subst q2
                                obtain ⟨hCt4, hf4⟩ := hp4
                                show KW p l e R s m args below meth c 5 G Q w4 fl 0 0 160 [(4, vI (i : Int)), (3, vI (k : Int)), (1, vL u), (0, .ref (kad G 0))] [vI (sightV g (k : Int).toNat (i : Int)), vL (31 * u)]
                                refine k_topv (vI (sightV g k (i : Int))) rfl ?_
                                have hr9 := sightV_r hI (k := k) (by omega) i
                                refine k_i2l hC dL_all_160 (by omega) ?_
                                refine k_ladd hC dL_all_161 ?_
                                refine k_lstore_n hC [(1, vL ((31 * u) + (sightV g k (i : Int)))), (4, vI (i : Int)), (3, vI (k : Int)), (0, .ref (kad G 0))] dL_all_162 rfl (by decide) rfl ?_
                                refine k_iinc hC (y := (i : Int) + 1) [(4, vI ((i : Int) + 1)), (1, vL ((31 * u) + (sightV g k (i : Int)))), (3, vI (k : Int)), (0, .ref (kad G 0))] (j := 1) dL_all_163 rfl (by omega) (by decide) rfl ?_
                                refine k_goto hC 141 dL_all_166 rfl ?_
                                refine k_lvs (ls := [0, 2, 1, 3]) [(4, vI ((i : Int) + 1)), (3, vI (k : Int)), (1, vL ((31 * u) + (sightV g k (i : Int)))), (0, .ref (kad G 0))] rfl ?_
                                refine k_lvs (ls := [0, 1, 2, 3]) [(4, vI ((i + 1 : Nat) : Int)), (3, vI (k : Int)), (1, vL ((31 * u) + (sightV g k (i : Int)))), (0, .ref (kad G 0))] (by simp only [lv_pick]; rfl) ?_
                                have h_5 : w4 0 = .inr (11, [.ref (kad G 1), .ref (kad G 32), .ref (kad G 3), .ref (kad G 37), vI sv, .ref (kad G 44), .ref (kad G 10), .ref (kad G 116), .ref (kad G 129), .ref (kad G 132)]) := (hf4 0 (by omega)).trans h0x
                                have hB_6 : kLog G w4 3 g := hLx.fr (fun j q1 q2 => (hf4 j (by omega)))
                                have hB_7 : kPlan G w4 32 g nl := hPx.fr (fun j q1 q2 => (hf4 j (by omega)))
                                exact ih4i (i + 1) ((31 * u) + (sightV g k (i : Int))) w4 (by omega) (by omega) (by rw [hq2]; rfl) h_5 hB_6 hB_7 hCt4 (fun j hj => (hf4 j (by omega)).trans (hfr4i j (by omega)))
                          refine k_lvs (ls := [0, 1, 2, 3]) [(4, vI ((0 : Nat) : Int)), (3, vI (k : Int)), (1, vL v), (0, .ref (kad G 0))] (by simp only [lv_pick]; rfl) ?_
                          have h_8 : w3 0 = .inr (11, [.ref (kad G 1), .ref (kad G 32), .ref (kad G 3), .ref (kad G 37), vI sv, .ref (kad G 44), .ref (kad G 10), .ref (kad G 116), .ref (kad G 129), .ref (kad G 132)]) := (hf3 0 (by omega)).trans h0x
                          have hB_9 : kLog G w3 3 g := hLx.fr (fun j q1 q2 => (hf3 j (by omega)))
                          have hB_10 : kPlan G w3 32 g nl := hPx.fr (fun j q1 q2 => (hf3 j (by omega)))
                          exact loop4i 10 0 v w3 (by omega) (by omega) rfl h_8 hB_9 hB_10 hCt3 (fun j hj => (hf3 j (by omega)).trans (hfr4 j (by omega)))
                    refine k_lvs (ls := [0, 1, 2]) [(3, vI ((0 : Nat) : Int)), (1, vL v), (0, .ref (kad G 0))] (by simp only [lv_pick]; rfl) ?_
                    have h_11 : w2 0 = .inr (11, [.ref (kad G 1), .ref (kad G 32), .ref (kad G 3), .ref (kad G 37), vI sv, .ref (kad G 44), .ref (kad G 10), .ref (kad G 116), .ref (kad G 129), .ref (kad G 132)]) := (hf2 0 (by omega)).trans h0x
                    have hB_12 : kLog G w2 3 g := hLx.fr (fun j q1 q2 => (hf2 j (by omega)))
                    have hB_13 : kPlan G w2 32 g nl := hPx.fr (fun j q1 q2 => (hf2 j (by omega)))
                    exact loop4 13 0 v w2 (by omega) (by omega) (by rw [hq, show (k : Nat) = (g 1).toNat by omega]; rfl) h_11 hB_12 hB_13 hCt2 (fun j hj => (hf2 j (by omega)).trans (hfr3 j (by omega)))
                  · refine k_iconst hC dL_all_91 ?_
                    refine k_istore hC [(4, vI 0), (3, vI (k : Int)), (1, vL v), (0, .ref (kad G 0))] dL_all_92 (by decide) rfl ?_
                    have loop3i : ∀ (n3i : Nat) (i : Nat) (u : Int) (u3i : Nat → va_E), (3 < n3i + i) → (i ≤ 3) → (u = al3i g k v i) → (u3i 0 = .inr (11, [.ref (kad G 1), .ref (kad G 32), .ref (kad G 3), .ref (kad G 37), vI sv, .ref (kad G 44), .ref (kad G 10), .ref (kad G 116), .ref (kad G 129), .ref (kad G 132)])) → (kLog G u3i 3 g) → (kPlan G u3i 32 g nl) → (kCht G u3i) → ((∀ j, (j < 10 ∨ 31 < j) → u3i j = w j)) → KW p l e R s m args below meth c 5 G Q u3i fl 0 0 94 [(4, vI (i : Int)), (3, vI (k : Int)), (1, vL u), (0, .ref (kad G 0))] [] := by
                      intro n3i
                      induction n3i with
                      | zero =>
                        intro i u u3i hn_3i hi hq2 h0x hLx hPx hCx hfr3i
                        exact absurd hn_3i (by omega)
                      | succ n3i ih3i =>
                        intro i u u3i hn_3i hi hq2 h0x hLx hPx hCx hfr3i
                        refine k_iload hC dL_all_94 0 rfl ?_
                        refine k_iconst hC dL_all_96 ?_
                        refine k_icmp_ge hC 121 dL_all_97 rfl (by omega) (by omega) (fun c_97 => ?_) (fun c_97 => ?_)
                        · refine k_iinc hC (y := (k : Int) + 1) [(3, vI ((k : Int) + 1)), (4, vI (i : Int)), (1, vL u), (0, .ref (kad G 0))] (j := 1) dL_all_121 rfl (by omega) (by decide) rfl ?_
                          refine k_goto hC 82 dL_all_124 rfl ?_
                          refine k_lvs (ls := [0, 2, 3]) [(3, vI ((k : Int) + 1)), (1, vL u), (0, .ref (kad G 0))] rfl ?_
                          refine k_lvs (ls := [0, 1, 2]) [(3, vI ((k + 1 : Nat) : Int)), (1, vL u), (0, .ref (kad G 0))] (by simp only [lv_pick]; rfl) ?_
                          exact ih3 (k + 1) u u3i (by omega) (by omega) (by rw [hq2, hq, show i = 3 by omega]; rfl) h0x hLx hPx hCx (fun j hj => hfr3i j (by omega))
                        · refine k_ldc2 hC (x := 31) (v := 31) dL_all_100 (by decide) wk_L_154 ?_
                          refine k_lload_n hC dL_all_103 rfl 2 rfl ?_
                          refine k_lmul hC dL_all_104 ?_
                          refine k_aload_n hC dL_all_105 rfl 3 rfl ?_
                          refine k_iload_n hC dL_all_106 rfl 1 rfl ?_
                          refine k_iload hC dL_all_107 0 rfl ?_
                          refine k_callV hC (n_X11_leg l hls G hN u3i fl g nl sv (k : Int) (i : Int) (by omega) (by omega) hI h0x hLx hPx hCx (by omega)) yy_X11_leg wm_L_131 (kl hN (by decide)) h0x rfl rfl rfl rfl (Nat.le_of_ble_eq_true rfl) (by decide) (by decide) ⟨by decide, by decide⟩ dL_all_109 (fun v14 w14 fl14 hp14 => ?_)
                          obtain ⟨-, q1, q2, hp14⟩ := hp14
                          subst q1
                          subst q2
                          obtain ⟨hCt14, hf14⟩ := hp14
                          show KW p l e R s m args below meth c 5 G Q w14 fl 0 0 112 [(4, vI (i : Int)), (3, vI (k : Int)), (1, vL u), (0, .ref (kad G 0))] [vI (legV g (k : Int).toNat (i : Int)), vL (31 * u)]
                          refine k_topv (vI (legV g k (i : Int))) rfl ?_
                          have hr9 := legV_r hI (k := k) (by omega) i
                          refine k_i2l hC dL_all_112 (by omega) ?_
                          refine k_ladd hC dL_all_113 ?_
                          refine k_lstore_n hC [(1, vL ((31 * u) + (legV g k (i : Int)))), (4, vI (i : Int)), (3, vI (k : Int)), (0, .ref (kad G 0))] dL_all_114 rfl (by decide) rfl ?_
                          refine k_iinc hC (y := (i : Int) + 1) [(4, vI ((i : Int) + 1)), (1, vL ((31 * u) + (legV g k (i : Int)))), (3, vI (k : Int)), (0, .ref (kad G 0))] (j := 1) dL_all_115 rfl (by omega) (by decide) rfl ?_
                          refine k_goto hC 94 dL_all_118 rfl ?_
                          refine k_lvs (ls := [0, 2, 1, 3]) [(4, vI ((i : Int) + 1)), (3, vI (k : Int)), (1, vL ((31 * u) + (legV g k (i : Int)))), (0, .ref (kad G 0))] rfl ?_
                          refine k_lvs (ls := [0, 1, 2, 3]) [(4, vI ((i + 1 : Nat) : Int)), (3, vI (k : Int)), (1, vL ((31 * u) + (legV g k (i : Int)))), (0, .ref (kad G 0))] (by simp only [lv_pick]; rfl) ?_
                          have h_15 : w14 0 = .inr (11, [.ref (kad G 1), .ref (kad G 32), .ref (kad G 3), .ref (kad G 37), vI sv, .ref (kad G 44), .ref (kad G 10), .ref (kad G 116), .ref (kad G 129), .ref (kad G 132)]) := (hf14 0 (by omega)).trans h0x
                          have hB_16 : kLog G w14 3 g := hLx.fr (fun j q1 q2 => (hf14 j (by omega)))
                          have hB_17 : kPlan G w14 32 g nl := hPx.fr (fun j q1 q2 => (hf14 j (by omega)))
                          exact ih3i (i + 1) ((31 * u) + (legV g k (i : Int))) w14 (by omega) (by omega) (by rw [hq2]; rfl) h_15 hB_16 hB_17 hCt14 (fun j hj => (hf14 j (by omega)).trans (hfr3i j (by omega)))
                    refine k_lvs (ls := [0, 1, 2, 3]) [(4, vI ((0 : Nat) : Int)), (3, vI (k : Int)), (1, vL v), (0, .ref (kad G 0))] (by simp only [lv_pick]; rfl) ?_
                    have h_18 : w2 0 = .inr (11, [.ref (kad G 1), .ref (kad G 32), .ref (kad G 3), .ref (kad G 37), vI sv, .ref (kad G 44), .ref (kad G 10), .ref (kad G 116), .ref (kad G 129), .ref (kad G 132)]) := (hf2 0 (by omega)).trans h0x
                    have hB_19 : kLog G w2 3 g := hLx.fr (fun j q1 q2 => (hf2 j (by omega)))
                    have hB_20 : kPlan G w2 32 g nl := hPx.fr (fun j q1 q2 => (hf2 j (by omega)))
                    exact loop3i 4 0 v w2 (by omega) (by omega) rfl h_18 hB_19 hB_20 hCt2 (fun j hj => (hf2 j (by omega)).trans (hfr3 j (by omega)))
              refine k_lvs (ls := [0, 1, 2]) [(3, vI ((0 : Nat) : Int)), (1, vL v), (0, .ref (kad G 0))] (by simp only [lv_pick]; rfl) ?_
              have h_21 : w1 0 = .inr (11, [.ref (kad G 1), .ref (kad G 32), .ref (kad G 3), .ref (kad G 37), vI sv, .ref (kad G 44), .ref (kad G 10), .ref (kad G 116), .ref (kad G 129), .ref (kad G 132)]) := (hf1 0 (by omega)).trans h0x
              have hB_22 : kLog G w1 3 g := hLx.fr (fun j q1 q2 => (hf1 j (by omega)))
              have hB_23 : kPlan G w1 32 g nl := hPx.fr (fun j q1 q2 => (hf1 j (by omega)))
              exact loop3 9 0 v w1 (by omega) (by omega) (by rw [hq, show (k : Nat) = (g 0).toNat by omega]; rfl) h_21 hB_22 hB_23 hCt1 (fun j hj => (hf1 j (by omega)).trans (hfr2 j (by omega)))
            · refine k_ldc2 hC (x := 31) (v := 31) dL_all_40 (by decide) wk_L_154 ?_
              refine k_lload_n hC dL_all_43 rfl 1 rfl ?_
              refine k_lmul hC dL_all_44 ?_
              refine k_aload_n hC dL_all_45 rfl 2 rfl ?_
              refine k_iload_n hC dL_all_46 rfl 0 rfl ?_
              refine k_iconst hC dL_all_47 ?_
              have h_24 : w1 0 = .inr (11, [.ref (kad G 1), .ref (kad G 32), .ref (kad G 3), .ref (kad G 37), vI sv, .ref (kad G 44), .ref (kad G 10), .ref (kad G 116), .ref (kad G 129), .ref (kad G 132)]) := (hf1 0 (by omega)).trans h0x
              have hB_25 : kLog G w1 3 g := hLx.fr (fun j q1 q2 => (hf1 j (by omega)))
              have hB_26 : kPlan G w1 32 g nl := hPx.fr (fun j q1 q2 => (hf1 j (by omega)))
              refine k_callV hC (n_X11_body l hls G hN w1 fl g nl sv (k : Int) 0 (by omega) (by omega) hI h_24 hB_25 hB_26 hCt1 (by omega)) yy_X11_body wm_L_129 (kl hN (by decide)) h_24 rfl rfl rfl rfl (Nat.le_of_ble_eq_true rfl) (by decide) (by decide) ⟨by decide, by decide⟩ dL_all_48 (fun v27 w27 fl27 hp27 => ?_)
              obtain ⟨-, q1, q2, hp27⟩ := hp27
              subst q1
              subst q2
              obtain ⟨hCt27, hf27⟩ := hp27
              show KW p l e R s m args below meth c 5 G Q w27 fl 0 0 51 [(3, vI (k : Int)), (1, vL v), (0, .ref (kad G 0))] [vI (bodyV g (k : Int).toNat 0), vL (31 * v)]
              refine k_topv (vI (g (9 + 4 * k))) rfl ?_
              have hr9 := hI.body k (by omega)
              have hr8 := cntM_b g k (g 2).toNat
              refine k_i2l hC dL_all_51 (by omega) ?_
              refine k_ladd hC dL_all_52 ?_
              refine k_ldc2 hC (x := 7) (v := 7) dL_all_53 (by decide) wk_L_156 ?_
              refine k_aload_n hC dL_all_56 rfl 2 rfl ?_
              refine k_iload_n hC dL_all_57 rfl 0 rfl ?_
              refine k_iconst hC dL_all_58 ?_
              have h_28 : w27 0 = .inr (11, [.ref (kad G 1), .ref (kad G 32), .ref (kad G 3), .ref (kad G 37), vI sv, .ref (kad G 44), .ref (kad G 10), .ref (kad G 116), .ref (kad G 129), .ref (kad G 132)]) := (hf27 0 (by omega)).trans h_24
              have hB_29 : kLog G w27 3 g := hB_25.fr (fun j q1 q2 => (hf27 j (by omega)))
              have hB_30 : kPlan G w27 32 g nl := hB_26.fr (fun j q1 q2 => (hf27 j (by omega)))
              refine k_callV hC (n_X11_body l hls G hN w27 fl g nl sv (k : Int) 1 (by omega) (by omega) hI h_28 hB_29 hB_30 hCt27 (by omega)) yy_X11_body wm_L_129 (kl hN (by decide)) h_28 rfl rfl rfl rfl (Nat.le_of_ble_eq_true rfl) (by decide) (by decide) ⟨by decide, by decide⟩ dL_all_59 (fun v31 w31 fl31 hp31 => ?_)
              obtain ⟨-, q1, q2, hp31⟩ := hp31
              subst q1
              subst q2
              obtain ⟨hCt31, hf31⟩ := hp31
              show KW p l e R s m args below meth c 5 G Q w31 fl 0 0 62 [(3, vI (k : Int)), (1, vL v), (0, .ref (kad G 0))] [vI (bodyV g (k : Int).toNat 1), vL 7, vL ((31 * v) + (g (9 + 4 * k)))]
              refine k_topv (vI (g (10 + 4 * k))) rfl ?_
              refine k_i2l hC dL_all_62 (by omega) ?_
              refine k_lmul hC dL_all_63 ?_
              refine k_ladd hC dL_all_64 ?_
              refine k_aload_n hC dL_all_65 rfl 2 rfl ?_
              refine k_iload_n hC dL_all_66 rfl 0 rfl ?_
              refine k_iconst hC dL_all_67 ?_
              have h_32 : w31 0 = .inr (11, [.ref (kad G 1), .ref (kad G 32), .ref (kad G 3), .ref (kad G 37), vI sv, .ref (kad G 44), .ref (kad G 10), .ref (kad G 116), .ref (kad G 129), .ref (kad G 132)]) := (hf31 0 (by omega)).trans h_28
              have hB_33 : kLog G w31 3 g := hB_29.fr (fun j q1 q2 => (hf31 j (by omega)))
              have hB_34 : kPlan G w31 32 g nl := hB_30.fr (fun j q1 q2 => (hf31 j (by omega)))
              refine k_callV hC (n_X11_body l hls G hN w31 fl g nl sv (k : Int) 3 (by omega) (by omega) hI h_32 hB_33 hB_34 hCt31 (by omega)) yy_X11_body wm_L_129 (kl hN (by decide)) h_32 rfl rfl rfl rfl (Nat.le_of_ble_eq_true rfl) (by decide) (by decide) ⟨by decide, by decide⟩ dL_all_68 (fun v35 w35 fl35 hp35 => ?_)
              obtain ⟨-, q1, q2, hp35⟩ := hp35
              subst q1
              subst q2
              obtain ⟨hCt35, hf35⟩ := hp35
              show KW p l e R s m args below meth c 5 G Q w35 fl 0 0 71 [(3, vI (k : Int)), (1, vL v), (0, .ref (kad G 0))] [vI (bodyV g (k : Int).toNat 3), vL (((31 * v) + (g (9 + 4 * k))) + (7 * (g (10 + 4 * k))))]
              refine k_topv (vI (cntM g (k : Int) (g 2).toNat)) rfl ?_
              refine k_i2l hC dL_all_71 (by omega) ?_
              refine k_ladd hC dL_all_72 ?_
              refine k_lstore_n hC [(1, vL ((((31 * v) + (g (9 + 4 * k))) + (7 * (g (10 + 4 * k)))) + (cntM g (k : Int) (g 2).toNat))), (3, vI (k : Int)), (0, .ref (kad G 0))] dL_all_73 rfl (by decide) rfl ?_
              refine k_iinc hC (y := (k : Int) + 1) [(3, vI ((k : Int) + 1)), (1, vL ((((31 * v) + (g (9 + 4 * k))) + (7 * (g (10 + 4 * k)))) + (cntM g (k : Int) (g 2).toNat))), (0, .ref (kad G 0))] (j := 1) dL_all_74 rfl (by omega) (by decide) rfl ?_
              refine k_goto hC 31 dL_all_77 rfl ?_
              refine k_lvs (ls := [0, 1, 2]) [(3, vI ((k + 1 : Nat) : Int)), (1, vL ((((31 * v) + (g (9 + 4 * k))) + (7 * (g (10 + 4 * k)))) + (cntM g (k : Int) (g 2).toNat))), (0, .ref (kad G 0))] (by simp only [lv_pick]; rfl) ?_
              have h_36 : w35 0 = .inr (11, [.ref (kad G 1), .ref (kad G 32), .ref (kad G 3), .ref (kad G 37), vI sv, .ref (kad G 44), .ref (kad G 10), .ref (kad G 116), .ref (kad G 129), .ref (kad G 132)]) := (hf35 0 (by omega)).trans h_32
              have hB_37 : kLog G w35 3 g := hB_33.fr (fun j q1 q2 => (hf35 j (by omega)))
              have hB_38 : kPlan G w35 32 g nl := hB_34.fr (fun j q1 q2 => (hf35 j (by omega)))
              exact ih2 (k + 1) ((((31 * v) + (g (9 + 4 * k))) + (7 * (g (10 + 4 * k)))) + (cntM g (k : Int) (g 2).toNat)) w35 (by omega) (by omega) (by rw [hq]; rfl) h_36 hB_37 hB_38 hCt35 (fun j hj => (hf35 j (by omega)).trans ((hf31 j (by omega)).trans ((hf27 j (by omega)).trans ((hf1 j (by omega)).trans (hfr2 j (by omega))))))
        refine k_lvs (ls := [0, 1, 2]) [(3, vI ((0 : Nat) : Int)), (1, vL v), (0, .ref (kad G 0))] (by simp only [lv_pick]; rfl) ?_
        exact loop2 7 0 v u1 (by omega) (by omega) (by rw [hq, show (k : Nat) = 9 by omega]; rfl) h0x hLx hPx hCx (fun j hj => hfr1 j (by omega))
      · refine k_ldc2 hC (x := 31) (v := 31) dL_all_10 (by decide) wk_L_154 ?_
        refine k_lload_n hC dL_all_13 rfl 1 rfl ?_
        refine k_lmul hC dL_all_14 ?_
        refine k_aload_n hC dL_all_15 rfl 2 rfl ?_
        refine k_iload_n hC dL_all_16 rfl 0 rfl ?_
        refine k_callV hC (n_X11_told l hls G hN u1 fl g nl sv (k : Int) (by omega) hI h0x hLx hPx hCx (by omega)) yy_X11_told wm_L_126 (kl hN (by decide)) h0x rfl rfl rfl rfl (Nat.le_of_ble_eq_true rfl) (by decide) (by decide) ⟨by decide, by decide⟩ dL_all_17 (fun v39 w39 fl39 hp39 => ?_)
        obtain ⟨-, q1, q2, hp39⟩ := hp39
        subst q1
        subst q2
        obtain ⟨hCt39, hf39⟩ := hp39
        show KW p l e R s m args below meth c 5 G Q w39 fl 0 0 20 [(3, vI (k : Int)), (1, vL v), (0, .ref (kad G 0))] [vI (g (k : Int).toNat), vL (31 * v)]
        refine k_topv (vI (g k)) rfl ?_
        have hr9 := told_r hI (k := k) (by omega)
        refine k_i2l hC dL_all_20 (by omega) ?_
        refine k_ladd hC dL_all_21 ?_
        refine k_lstore_n hC [(1, vL ((31 * v) + (g k))), (3, vI (k : Int)), (0, .ref (kad G 0))] dL_all_22 rfl (by decide) rfl ?_
        refine k_iinc hC (y := (k : Int) + 1) [(3, vI ((k : Int) + 1)), (1, vL ((31 * v) + (g k))), (0, .ref (kad G 0))] (j := 1) dL_all_23 rfl (by omega) (by decide) rfl ?_
        refine k_goto hC 4 dL_all_26 rfl ?_
        refine k_lvs (ls := [0, 1, 2]) [(3, vI ((k + 1 : Nat) : Int)), (1, vL ((31 * v) + (g k))), (0, .ref (kad G 0))] (by simp only [lv_pick]; rfl) ?_
        have h_40 : w39 0 = .inr (11, [.ref (kad G 1), .ref (kad G 32), .ref (kad G 3), .ref (kad G 37), vI sv, .ref (kad G 44), .ref (kad G 10), .ref (kad G 116), .ref (kad G 129), .ref (kad G 132)]) := (hf39 0 (by omega)).trans h0x
        have hB_41 : kLog G w39 3 g := hLx.fr (fun j q1 q2 => (hf39 j (by omega)))
        have hB_42 : kPlan G w39 32 g nl := hPx.fr (fun j q1 q2 => (hf39 j (by omega)))
        exact ih1 (k + 1) ((31 * v) + (g k)) w39 (by omega) (by omega) (by rw [hq]; rfl) h_40 hB_41 hB_42 hCt39 (fun j hj => (hf39 j (by omega)).trans (hfr1 j (by omega)))
  refine k_lvs (ls := [0, 1, 2]) [(3, vI ((0 : Nat) : Int)), (1, vL 0), (0, .ref (kad G 0))] (by simp only [lv_pick]; rfl) ?_
  exact loop1 10 0 0 w (by omega) (by omega) rfl h00 hL hP hCt (fun j hj => rfl)

