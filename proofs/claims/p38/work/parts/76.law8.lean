/-! WHAT THE LAW KEEPS ITSELF: the same numbers, in its own cells -/
abbrev owO (G : kG) (g : Nat → Int) : va_E := .inr (12, [vI (g 0), vI (g 1), vI (g 2), vI (g 3), vI (g 4), vI (g 5), vI (g 6), vI (g 7), vI (g 8), .ref (kad G 135), .ref (kad G 136), .ref (kad G 137)])
def trI (G : kG) (fl : va_W) (F : Nat → Option Nat) (c : Int) (g : Nat → Int) (b s : Nat) : Prop := ∀ i : Nat, (i : Int) < c → ∃ (q j : Nat) (f : Nat → Int), F i = some q ∧ fl[j]? = some (q, iA G 3 f) ∧ f 0 = g (b + s * i) ∧ f 1 = g (b + 1 + s * i) ∧ f 2 = g (b + 2 + s * i)
def owR (G : kG) (w : Nat → va_E) (fl : va_W) (g : Nat → Int) : Prop := w 134 = owO G g ∧ (∃ F, w 135 = rA G 6 6 F ∧ trI G fl F (g 0) g 9 4) ∧ (∃ F, w 136 = rA G 6 8 F ∧ trI G fl F (g 1) g 33 3) ∧ ∃ F, w 137 = rA G 6 12 F ∧ trI G fl F (g 2) g 57 3
theorem trI.ap {G : kG} {fl L : va_W} {F : Nat → Option Nat} {c : Int} {g : Nat → Int} {b s : Nat} (h : trI G fl F c g b s) : trI G (fl ++ L) F c g b s := fun i hi => by
  obtain ⟨q, j, f, h1, h2, h3⟩ := h i hi
  exact ⟨q, j, f, h1, by rw [List.getElem?_append_left (List.getElem?_eq_some_iff.mp h2).1]; exact h2, h3⟩
theorem owR.fr {G : kG} {w w1 : Nat → va_E} {fl : va_W} {g : Nat → Int} (h : owR G w fl g) (hf : ∀ j, 134 ≤ j → j ≤ 137 → w1 j = w j) : owR G w1 fl g := by
  obtain ⟨h1, ⟨F, h2, h3⟩, ⟨F1, h4, h5⟩, F2, h6, h7⟩ := h
  exact ⟨(hf 134 (by omega) (by omega)).trans h1, ⟨F, (hf 135 (by omega) (by omega)).trans h2, h3⟩, ⟨F1, (hf 136 (by omega) (by omega)).trans h4, h5⟩, F2, (hf 137 (by omega) (by omega)).trans h6, h7⟩
theorem owR.ap {G : kG} {w : Nat → va_E} {fl L : va_W} {g : Nat → Int} (h : owR G w fl g) : owR G w (fl ++ L) g := by
  obtain ⟨h1, ⟨F, h2, h3⟩, ⟨F1, h4, h5⟩, F2, h6, h7⟩ := h
  exact ⟨h1, ⟨F, h2, h3.ap⟩, ⟨F1, h4, h5.ap⟩, F2, h6, h7.ap⟩
set_option maxRecDepth 100000 in
set_option maxHeartbeats 4000000 in
theorem c_L_name (l : Launch) (hls : l.stackTraces = false) (G : kG) (hM : 138 ≤ kN G) (w : Nat → va_E) (fl : va_W) (T : List Int) (sv : Int) (g : Nat → Int) (b : Nat) (hI : Inv g) (hb9 : (b : Int) < g 0) (hlt : T.length < 690) (hE : owR G w fl g) (hS : saR G w T) (h00 : w 0 = srO G sv) : KM l G yL_name cL_name 5 (none) 3 0 0 [.ref (kad G 0), .ref (kad G 133), .ref (kad G 134), vI (b : Int)] w fl (kMuv fl (fun w1 => saR G w1 (T ++ nmL b (g (11 + 4 * b)).toNat) ∧ ∀ j, (j ≠ 1 ∧ j ≠ 2 ∧ j ≠ 133) → w1 j = w j)) := by
  refine KM_of2 hls (by decide +kernel) rfl (lv0 := [(0, .ref (kad G 0)), (1, .ref (kad G 133)), (2, .ref (kad G 134)), (3, vI (b : Int))]) rfl (Nat.le_of_ble_eq_true rfl) (fun p e R s m args below meth c Q hC hr hQ => ?_)
  have hN : 133 ≤ kN G := by omega
  have hbd := hI.body b hb9
  have hI0 := hI.c
  obtain ⟨h134, ⟨F5, h135, hF5⟩, ⟨F6, h136, hF6⟩, F7, h137, hF7⟩ := hE
  refine k_iconst hC dL_name_0 ?_
  refine k_istore hC [(4, vI 0), (0, .ref (kad G 0)), (1, .ref (kad G 133)), (2, .ref (kad G 134)), (3, vI (b : Int))] dL_name_1 (by decide) rfl ?_
  have loop1 : ∀ (n1 : Nat) (k : Nat) (u1 : Nat → va_E), (8 < n1 + k) → ((k : Int) ≤ g (11 + 4 * b)) → (saR G u1 (T ++ nmL b k)) → (u1 0 = .inr (11, [.ref (kad G 1), .ref (kad G 32), .ref (kad G 3), .ref (kad G 37), vI sv, .ref (kad G 44), .ref (kad G 10), .ref (kad G 116), .ref (kad G 129), .ref (kad G 132)])) → (u1 134 = .inr (12, [vI (g 0), vI (g 1), vI (g 2), vI (g 3), vI (g 4), vI (g 5), vI (g 6), vI (g 7), vI (g 8), .ref (kad G 135), .ref (kad G 136), .ref (kad G 137)])) → (u1 135 = rA G 6 6 F5) → ((∀ j, (j ≠ 1 ∧ j ≠ 2 ∧ j ≠ 133) → u1 j = w j)) → KW p l e R s m args below meth c 5 G Q u1 fl 0 0 3 [(4, vI (k : Int)), (0, .ref (kad G 0)), (1, .ref (kad G 133)), (2, .ref (kad G 134)), (3, vI (b : Int))] [] := by
    intro n1
    induction n1 with
    | zero =>
      intro k u1 hn_1 hk hSx h0x h4x h5x hfr1
      exact absurd hn_1 (by omega)
    | succ n1 ih1 =>
      intro k u1 hn_1 hk hSx h0x h4x h5x hfr1
      refine k_iload hC dL_name_3 0 rfl ?_
      refine k_aload_n hC dL_name_5 rfl 3 rfl ?_
      refine k_getN hC fd_L_53 (kl2 hM (by decide)) h4x rfl dL_name_6 ?_
      refine k_iload_n hC dL_name_9 rfl 4 rfl ?_
      obtain ⟨q1, j1, f1, hq1, hj1, ha1, hb1, hc1⟩ := hF5 b (by omega)
      refine k_aaldA hC (v := .ref q1) (kl2 hM (by decide)) h5x (by omega) (by decide) (congrArg va_rf hq1) dL_name_10 ?_
      refine k_iconst hC dL_name_11 ?_
      refine k_ialdF hC j1 hj1 (by decide) (by decide) dL_name_12 ?_
      refine k_topv (vI (g (11 + 4 * b))) (congrArg vI hc1) ?_
      refine k_icmp_ge hC 37 dL_name_13 rfl (by omega) (by omega) (fun c_13 => ?_) (fun c_13 => ?_)
      · subst hQ
        exact k_vret hC hr ⟨by decide, by decide⟩ (⟨rfl, rfl, hSx.eq (by rw [show (g (11 + 4 * b)).toNat = k by omega]), fun j hj => hfr1 j (by omega)⟩) dL_name_37
      · refine k_aload_n hC dL_name_16 rfl 1 rfl ?_
        refine k_aload_n hC dL_name_17 rfl 2 rfl ?_
        refine k_bipush hC dL_name_18 (by decide) ?_
        refine k_iload_n hC dL_name_20 rfl 4 rfl ?_
        refine k_iload hC dL_name_21 0 rfl ?_
        refine k_iadd hC dL_name_23 ?_
        refine k_bipush hC dL_name_24 (by decide) ?_
        refine k_irem hC dL_name_26 (by omega) (by omega) ?_
        refine k_topv (vI (((b + k) % 6 : Nat))) (congrArg vI (by rw [Int.tmod_eq_emod_of_nonneg (by omega)]; omega)) ?_
        refine k_iadd hC dL_name_27 ?_
        refine k_topv (vI (((117 + (b + k) % 6 : Nat) : Int))) (congrArg vI (by omega)) ?_
        refine k_callS hC (c_L_add l hls G hM u1 fl (T ++ nmL b k) ((117 + (b + k) % 6 : Nat) : Int) sv hSx (by (try simp only [List.length_append, List.length_cons, List.length_nil, List.length_replicate, List.length_map, List.length_range, nmL_len]); omega) (by omega) h0x) yy_L_add wm_L_14 rfl rfl (Nat.le_of_ble_eq_true rfl) (by decide) (by decide) ⟨by decide, by decide⟩ dL_name_28 (fun v2 w2 fl2 hp2 => ?_)
        obtain ⟨q1, q2, hS2, hf2⟩ := hp2
        subst q1
        subst q2
        show KW p l e R s m args below meth c 5 G Q w2 fl 0 0 31 [(4, vI (k : Int)), (0, .ref (kad G 0)), (1, .ref (kad G 133)), (2, .ref (kad G 134)), (3, vI (b : Int))] []
        refine k_iinc hC (y := (k : Int) + 1) [(4, vI ((k : Int) + 1)), (0, .ref (kad G 0)), (1, .ref (kad G 133)), (2, .ref (kad G 134)), (3, vI (b : Int))] (j := 0) dL_name_31 rfl (by omega) (by decide) rfl ?_
        refine k_goto hC 3 dL_name_34 rfl ?_
        refine k_lvs (ls := [0, 1, 2, 3, 4]) [(4, vI ((k + 1 : Nat) : Int)), (0, .ref (kad G 0)), (1, .ref (kad G 133)), (2, .ref (kad G 134)), (3, vI (b : Int))] (by simp only [lv_pick]; rfl) ?_
        have h_3 : w2 0 = .inr (11, [.ref (kad G 1), .ref (kad G 32), .ref (kad G 3), .ref (kad G 37), vI sv, .ref (kad G 44), .ref (kad G 10), .ref (kad G 116), .ref (kad G 129), .ref (kad G 132)]) := (hf2 0 (by omega)).trans h0x
        have h_4 : w2 134 = .inr (12, [vI (g 0), vI (g 1), vI (g 2), vI (g 3), vI (g 4), vI (g 5), vI (g 6), vI (g 7), vI (g 8), .ref (kad G 135), .ref (kad G 136), .ref (kad G 137)]) := (hf2 134 (by omega)).trans h4x
        have h_5 : w2 135 = rA G 6 6 F5 := (hf2 135 (by omega)).trans h5x
        exact ih1 (k + 1) w2 (by omega) (by omega) (hS2.eq (by rw [nmL_s, List.append_assoc])) h_3 h_4 h_5 (fun j hj => (hf2 j (by omega)).trans (hfr1 j (by omega)))
  refine k_lvs (ls := [0, 1, 2, 3, 4]) [(4, vI ((0 : Nat) : Int)), (0, .ref (kad G 0)), (1, .ref (kad G 133)), (2, .ref (kad G 134)), (3, vI (b : Int))] (by simp only [lv_pick]; rfl) ?_
  exact loop1 9 0 w (by omega) (by omega) (hS.eq (List.append_nil T).symm) h00 h134 h135 (fun j hj => rfl)

