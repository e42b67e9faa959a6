theorem dipM_b13 {g : Nat → Int} (h : 0 ≤ g 5 ∧ g 5 ≤ 50) : 0 ≤ dipM g ∧ dipM g ≤ 200 := by
  obtain ⟨h1, h2, -⟩ := rootM_x (3 * g 5) (by omega)
  refine ⟨h1, ?_⟩
  unfold dipM
  generalize rootM (3 * g 5) = r at *
  rcases Int.lt_or_le 200 r with q | q
  · have h12 := Int.mul_le_mul (show 201 ≤ r by omega) (show 201 ≤ r by omega) (by omega) h1
    omega
  · exact q
section
variable {G : kG} {w1 : Nat → va_E} {fl : va_W} {g : Nat → Int} {F5 F6 F7 : Nat → Option Nat}
theorem ow_sight (h5 : trI G fl F5 (g 0) g 9 4) (h6 : trI G fl F6 (g 1) g 33 3) (h7 : trI G fl F7 (g 2) g 57 3) (hI : Inv g) (q : Nat) (f : Nat → Int) (h134 : w1 134 = .inr (12, [vI (g 0), vI (g 1), vI (g 2 + 1), vI (g 3), vI (g 4), vI (g 5), vI (g 6), vI (g 7), vI (g 8), .ref (kad G 135), .ref (kad G 136), .ref (kad G 137)])) (h135 : w1 135 = rA G 6 6 F5) (h136 : w1 136 = rA G 6 8 F6) (h137 : w1 137 = rA G 6 12 (va_up F7 (g 2).toNat (some q))) : owR G w1 (fl ++ [(q, iA G 3 f)]) (addSightM g (f 0) (f 1) (f 2)) := by
  have h0 := hI.c
  have en : ∀ j, (j ≠ 2 ∧ (j < 57 + 3 * (g 2).toNat ∨ 57 + 3 * (g 2).toNat + 2 < j)) → addSightM g (f 0) (f 1) (f 2) j = g j := fun j hj => by
    unfold addSightM; rw [if_neg (by omega), if_neg (by omega), if_neg (by omega), if_neg (by omega)]
  have e2 : addSightM g (f 0) (f 1) (f 2) 2 = g 2 + 1 := rfl
  refine ⟨?_, ⟨F5, h135, ?_⟩, ⟨F6, h136, ?_⟩, _, h137, ?_⟩
  · rw [h134]
    show _ = owO G _
    unfold owO
    rw [en 0 (by omega), en 1 (by omega), e2, en 3 (by omega), en 4 (by omega), en 5 (by omega), en 6 (by omega), en 7 (by omega), en 8 (by omega)]
  · rw [en 0 (by omega)]
    exact trI_cg h5.ap (fun i hi => ⟨en _ (by omega), en _ (by omega), en _ (by omega)⟩)
  · rw [en 1 (by omega)]
    exact trI_cg h6.ap (fun i hi => ⟨en _ (by omega), en _ (by omega), en _ (by omega)⟩)
  · rw [e2]
    have h8 := trI_up (k := (g 2).toNat) (by rw [show (((g 2).toNat : Nat) : Int) = g 2 by omega]; exact h7) q f (by decide)
    rw [show (((g 2).toNat + 1 : Nat) : Int) = g 2 + 1 by omega] at h8
    refine trI_cg h8 (fun i hi => ⟨?_, ?_, ?_⟩)
    · unfold up3 addSightM; rw [if_neg (show ¬ 57 + 3 * i = 2 by omega)]
      rw [show 57 + 3 * (g 2).toNat + 1 = 58 + 3 * (g 2).toNat by omega, show 57 + 3 * (g 2).toNat + 2 = 59 + 3 * (g 2).toNat by omega]
    · unfold up3 addSightM; rw [if_neg (show ¬ 57 + 1 + 3 * i = 2 by omega)]
      rw [show 57 + 3 * (g 2).toNat + 1 = 58 + 3 * (g 2).toNat by omega, show 57 + 3 * (g 2).toNat + 2 = 59 + 3 * (g 2).toNat by omega]
    · unfold up3 addSightM; rw [if_neg (show ¬ 57 + 2 + 3 * i = 2 by omega)]
      rw [show 57 + 3 * (g 2).toNat + 1 = 58 + 3 * (g 2).toNat by omega, show 57 + 3 * (g 2).toNat + 2 = 59 + 3 * (g 2).toNat by omega]
theorem ow_leg (h5 : trI G fl F5 (g 0) g 9 4) (h6 : trI G fl F6 (g 1) g 33 3) (h7 : trI G fl F7 (g 2) g 57 3) (hI : Inv g) (hn : g 1 < 8) (q : Nat) (f : Nat → Int) (h134 : w1 134 = .inr (12, [vI (g 0), vI (g 1 + 1), vI (g 2), vI (g 3), vI (g 4), vI (g 5), vI (g 6), vI (g 7), vI (g 8), .ref (kad G 135), .ref (kad G 136), .ref (kad G 137)])) (h135 : w1 135 = rA G 6 6 F5) (h136 : w1 136 = rA G 6 8 (va_up F6 (g 1).toNat (some q))) (h137 : w1 137 = rA G 6 12 F7) : owR G w1 (fl ++ [(q, iA G 3 f)]) (addLegM g (f 0) (f 1) (f 2)) := by
  have h0 := hI.c
  have en : ∀ j, (j ≠ 1 ∧ (j < 33 + 3 * (g 1).toNat ∨ 33 + 3 * (g 1).toNat + 2 < j)) → addLegM g (f 0) (f 1) (f 2) j = g j := fun j hj => by
    unfold addLegM; rw [if_neg (by omega), if_neg (by omega), if_neg (by omega), if_neg (by omega)]
  have e2 : addLegM g (f 0) (f 1) (f 2) 1 = g 1 + 1 := rfl
  refine ⟨?_, ⟨F5, h135, ?_⟩, ⟨_, h136, ?_⟩, F7, h137, ?_⟩
  · rw [h134]
    show _ = owO G _
    unfold owO
    rw [en 0 (by omega), e2, en 2 (by omega), en 3 (by omega), en 4 (by omega), en 5 (by omega), en 6 (by omega), en 7 (by omega), en 8 (by omega)]
  · rw [en 0 (by omega)]
    exact trI_cg h5.ap (fun i hi => ⟨en _ (by omega), en _ (by omega), en _ (by omega)⟩)
  · rw [e2]
    have h8 := trI_up (k := (g 1).toNat) (by rw [show (((g 1).toNat : Nat) : Int) = g 1 by omega]; exact h6) q f (by decide)
    rw [show (((g 1).toNat + 1 : Nat) : Int) = g 1 + 1 by omega] at h8
    refine trI_cg h8 (fun i hi => ⟨?_, ?_, ?_⟩)
    · unfold up3 addLegM; rw [if_neg (show ¬ 33 + 3 * i = 1 by omega)]
      rw [show 33 + 3 * (g 1).toNat + 1 = 34 + 3 * (g 1).toNat by omega, show 33 + 3 * (g 1).toNat + 2 = 35 + 3 * (g 1).toNat by omega]
    · unfold up3 addLegM; rw [if_neg (show ¬ 33 + 1 + 3 * i = 1 by omega)]
      rw [show 33 + 3 * (g 1).toNat + 1 = 34 + 3 * (g 1).toNat by omega, show 33 + 3 * (g 1).toNat + 2 = 35 + 3 * (g 1).toNat by omega]
    · unfold up3 addLegM; rw [if_neg (show ¬ 33 + 2 + 3 * i = 1 by omega)]
      rw [show 33 + 3 * (g 1).toNat + 1 = 34 + 3 * (g 1).toNat by omega, show 33 + 3 * (g 1).toNat + 2 = 35 + 3 * (g 1).toNat by omega]
  · rw [en 2 (by omega)]
    exact trI_cg h7.ap (fun i hi => ⟨en _ (by omega), en _ (by omega), en _ (by omega)⟩)
theorem ow_drop (h5 : trI G fl F5 (g 0) g 9 4) (h6 : trI G fl F6 (g 1) g 33 3) (h7 : trI G fl F7 (g 2) g 57 3) (hI : Inv g) (k : Nat) (F : Nat → Option Nat) (hF : ∀ j : Nat, (j < k → F j = F7 j) ∧ (k ≤ j → (j : Int) < g 2 - 1 → F j = F7 (j + 1))) (h134 : w1 134 = .inr (12, [vI (g 0), vI (g 1), vI (g 2 - 1), vI (g 3), vI (g 4), vI (g 5), vI (g 6), vI (g 7), vI (g 8), .ref (kad G 135), .ref (kad G 136), .ref (kad G 137)])) (h135 : w1 135 = rA G 6 6 F5) (h136 : w1 136 = rA G 6 8 F6) (h137 : w1 137 = rA G 6 12 F) : owR G w1 fl (dropM g k) := by
  have h0 := hI.c
  have en : ∀ j, (j ≠ 2 ∧ (j < 57 + 3 * k)) → dropM g k j = g j := fun j hj => by
    unfold dropM; rw [if_neg (by omega), if_neg (by omega)]
  have e2 : dropM g k 2 = g 2 - 1 := rfl
  refine ⟨?_, ⟨F5, h135, ?_⟩, ⟨F6, h136, ?_⟩, F, h137, ?_⟩
  · rw [h134]
    show _ = owO G _
    unfold owO
    rw [en 0 (by omega), en 1 (by omega), e2, en 3 (by omega), en 4 (by omega), en 5 (by omega), en 6 (by omega), en 7 (by omega), en 8 (by omega)]
  · rw [en 0 (by omega)]
    exact trI_cg h5 (fun i hi => ⟨en _ (by omega), en _ (by omega), en _ (by omega)⟩)
  · rw [en 1 (by omega)]
    exact trI_cg h6 (fun i hi => ⟨en _ (by omega), en _ (by omega), en _ (by omega)⟩)
  · rw [e2]
    intro i hi
    by_cases e : i < k
    · obtain ⟨q, j, f1, a1, a2, a3, a4, a5⟩ := h7 i (by omega)
      exact ⟨q, j, f1, ((hF i).1 e).trans a1, a2, a3.trans (en _ (by omega)).symm, a4.trans (en _ (by omega)).symm, a5.trans (en _ (by omega)).symm⟩
    · obtain ⟨q, j, f1, a1, a2, a3, a4, a5⟩ := h7 (i + 1) (by omega)
      have ed : ∀ x, 57 + 3 * i ≤ x → x < 60 + 3 * i → dropM g k x = g (x + 3) := fun x q1 q2 => by
        unfold dropM; rw [if_neg (by omega), if_pos (by omega)]
      refine ⟨q, j, f1, ((hF i).2 (by omega) hi).trans a1, a2, ?_, ?_, ?_⟩
      · rw [a3, ed _ (by omega) (by omega)]; congr 1
      · rw [a4, ed _ (by omega) (by omega)]; congr 1
      · rw [a5, ed _ (by omega) (by omega)]; congr 1
theorem ow_set (h5 : trI G fl F5 (g 0) g 9 4) (h6 : trI G fl F6 (g 1) g 33 3) (h7 : trI G fl F7 (g 2) g 57 3) {i j : Nat} {a b : Int} (hij : (i = 5 ∧ j = 6) ∨ (i = 7 ∧ j = 8)) (h134 : w1 134 = owO G (setM g i a j b)) (h135 : w1 135 = rA G 6 6 F5) (h136 : w1 136 = rA G 6 8 F6) (h137 : w1 137 = rA G 6 12 F7) : owR G w1 fl (setM g i a j b) := by
  have en : ∀ x, (x ≠ i ∧ x ≠ j) → setM g i a j b x = g x := fun x hx => by
    unfold setM; rw [if_neg hx.1, if_neg hx.2]
  refine ⟨h134, ⟨F5, h135, ?_⟩, ⟨F6, h136, ?_⟩, F7, h137, ?_⟩
  · rw [en 0 (by omega)]
    exact trI_cg h5 (fun x hx => ⟨en _ (by omega), en _ (by omega), en _ (by omega)⟩)
  · rw [en 1 (by omega)]
    exact trI_cg h6 (fun x hx => ⟨en _ (by omega), en _ (by omega), en _ (by omega)⟩)
  · rw [en 2 (by omega)]
    exact trI_cg h7 (fun x hx => ⟨en _ (by omega), en _ (by omega), en _ (by omega)⟩)
end
theorem last_c (g : Nat → Int) : (g 1 = 0 ∧ lastM g = -1) ∨ (g 1 ≠ 0 ∧ lastM g = g (33 + 3 * (g 1 - 1).toNat)) := by
  unfold lastM
  by_cases h : g 1 = 0
  · rw [if_pos h]; exact Or.inl ⟨h, rfl⟩
  · rw [if_neg h]; exact Or.inr ⟨h, rfl⟩
def plE (g g1 : Nat → Int) : Prop := ∀ j, (j = 0 ∨ j = 3 ∨ j = 4 ∨ (9 ≤ j ∧ j ≤ 32)) → g1 j = g j
theorem pl_sight (g : Nat → Int) (a b c : Int) : plE g (addSightM g a b c) := fun j hj => by unfold addSightM; rw [if_neg (by omega), if_neg (by omega), if_neg (by omega), if_neg (by omega)]
theorem pl_leg (g : Nat → Int) (a b c : Int) : plE g (addLegM g a b c) := fun j hj => by unfold addLegM; rw [if_neg (by omega), if_neg (by omega), if_neg (by omega), if_neg (by omega)]
theorem pl_drop (g : Nat → Int) (k : Nat) : plE g (dropM g k) := fun j hj => by unfold dropM; rw [if_neg (by omega), if_neg (by omega)]
theorem pl_set (g : Nat → Int) {i j : Nat} {a b : Int} (hij : (i = 5 ∧ j = 6) ∨ (i = 7 ∧ j = 8)) : plE g (setM g i a j b) := fun x hx => by unfold setM; rw [if_neg (by omega), if_neg (by omega)]
def actP (G : kG) (w : Nat → va_E) (g : Nat → Int) (hs : Nat → Nat → Int) (nx : Nat) (cn : Int) : Option Value → (Nat → va_E) → va_W → Prop := fun v1 w1 fl1 => ∃ z : Int, some (vI z) = v1 ∧ ((z = 0 ∧ w1 = w ∧ owR G w1 fl1 g) ∨ (z = 1 ∧ ∃ g1 : Nat → Int, Inv g1 ∧ plE g g1 ∧ owR G w1 fl1 g1 ∧ kLog G w1 3 g1 ∧ kHist G w1 (hsP hs nx g) (((nx + 1) % 10 : Nat) : Int) (min (cn + 1) 10) ∧ ∀ j, ((j < 3 ∨ 9 < j) ∧ (j < 44 ∨ 115 < j) ∧ (j < 134 ∨ 137 < j)) → w1 j = w j))
set_option maxRecDepth 100000 in
set_option maxHeartbeats 4000000 in
theorem c_L_act (l : Launch) (hls : l.stackTraces = false) (G : kG) (hM : 138 ≤ kN G) (w : Nat → va_E) (fl : va_W) (g nl : Nat → Int) (sv v : Int) (hs : Nat → Nat → Int) (nx : Nat) (cn : Int) (hI : Inv g) (h00 : w 0 = srO G sv) (hL : kLog G w 3 g) (hP : kPlan G w 32 g nl) (hCt : kCht G w) (h0p : 1 ≤ g 0) (hE : owR G w fl g) (hHi : kHist G w hs (nx : Int) cn) (hnx : nx < 10) (hcn : 0 ≤ cn ∧ cn ≤ 10) : KM l G yL_act cL_act 7 (some (FieldType.int)) 7 1 3 [.ref (kad G 0), .ref (kad G 134), vI v] w fl (actP G w g hs nx cn) := by
  refine KM_of2 hls (by decide +kernel) rfl (lv0 := [(0, .ref (kad G 0)), (1, .ref (kad G 134)), (2, vI v)]) rfl (Nat.le_of_ble_eq_true rfl) (fun p e R s m args below meth c Q hC hr hQ => ?_)
  have hN : 133 ≤ kN G := by omega
  have h0 := hI.c
  have hE0 := hE
  obtain ⟨h134, ⟨F5, h135, hF5⟩, ⟨F6, h136, hF6⟩, F7, h137, hF7⟩ := hE
  have hlc := last_c g
  have hlb := lastM_b hI
  refine k_iload_n hC dL_act_0 rfl 2 rfl ?_
  refine k_bipush hC dL_act_1 (by decide) ?_
  refine k_callS hC (c_L_most l hls G hN w fl v 10 (by omega)) yy_L_most wm_L_27 rfl rfl (Nat.le_of_ble_eq_true rfl) (by decide) (by decide) ⟨by decide, by decide⟩ dL_act_3 (fun v1 w1 fl1 hp1 => ?_)
  obtain ⟨r1, hr1, hs1, q1, q2, q3⟩ := hp1
  subst q1
  subst q2
  subst q3
  show KW p l e R s m args below meth c 7 G Q w fl 0 0 6 [(0, .ref (kad G 0)), (1, .ref (kad G 134)), (2, vI v)] [vI r1]
  refine k_istore_n hC [(3, vI r1), (0, .ref (kad G 0)), (1, .ref (kad G 134)), (2, vI v)] dL_act_6 rfl (by decide) rfl ?_
  refine k_iload_n hC dL_act_7 rfl 3 rfl ?_
  refine k_iconst hC dL_act_8 ?_
  refine k_ishrA hC dL_act_9 (fun y_2 hy_2 => ?_)
  refine k_istore hC [(4, vI y_2), (3, vI r1), (0, .ref (kad G 0)), (1, .ref (kad G 134)), (2, vI v)] dL_act_10 (by decide) rfl ?_
  refine k_iload_n hC dL_act_12 rfl 1 rfl ?_
  refine k_iconst hC dL_act_13 ?_
  refine k_icmp_ge hC 113 dL_act_14 rfl (by omega) (by omega) (fun c_14 => ?_) (fun c_14 => ?_)
  · refine k_iload_n hC dL_act_113 rfl 1 rfl ?_
    refine k_iconst hC dL_act_114 ?_
    refine k_icmp_ne hC 202 dL_act_115 rfl (by omega) (by omega) (fun c_115 => ?_) (fun c_115 => ?_)
    · refine k_iload_n hC dL_act_202 rfl 1 rfl ?_
      refine k_bipush hC dL_act_203 (by decide) ?_
      refine k_icmp_ge hC 364 dL_act_205 rfl (by omega) (by omega) (fun c_205 => ?_) (fun c_205 => ?_)
      · refine k_iload_n hC dL_act_364 rfl 1 rfl ?_
        refine k_bipush hC dL_act_365 (by decide) ?_
        refine k_icmp_ge hC 424 dL_act_367 rfl (by omega) (by omega) (fun c_367 => ?_) (fun c_367 => ?_)
        · refine k_aload_n hC dL_act_424 rfl 3 rfl ?_
          refine k_iload hC dL_act_425 0 rfl ?_
          refine k_bipush hC dL_act_427 (by decide) ?_
          refine k_callS hC (c_L_most l hls G hN w fl y_2 51 (by omega)) yy_L_most wm_L_27 rfl rfl (Nat.le_of_ble_eq_true rfl) (by decide) (by decide) ⟨by decide, by decide⟩ dL_act_429 (fun v3 w3 fl3 hp3 => ?_)
          obtain ⟨r3, hr3, hs3, q1, q2, q3⟩ := hp3
          subst q1
          subst q2
          subst q3
          show KW p l e R s m args below meth c 7 G Q w fl 0 0 432 [(4, vI y_2), (3, vI r1), (0, .ref (kad G 0)), (1, .ref (kad G 134)), (2, vI v)] [vI r3, .ref (kad G 134)]
          refine k_putO hC (i := 5) wf_L_38 (by decide) rfl rfl (kl2 hM (by decide)) h134 [vI (g 0), vI (g 1), vI (g 2), vI (g 3), vI (g 4), vI r3, vI (g 6), vI (g 7), vI (g 8), .ref (kad G 135), .ref (kad G 136), .ref (kad G 137)] rfl (Nat.le_of_ble_eq_true rfl) rfl rfl dL_act_432 (fun w4 hw4 hf4 => ?_)
          refine k_aload_n hC dL_act_435 rfl 3 rfl ?_
          refine k_iload hC dL_act_436 0 rfl ?_
          refine k_iconst hC dL_act_438 ?_
          refine k_ishrA hC dL_act_439 (fun y_5 hy_5 => ?_)
          refine k_bipush hC dL_act_440 (by decide) ?_
          refine k_callS hC (c_L_most l hls G hN w4 fl y_5 121 (by omega)) yy_L_most wm_L_27 rfl rfl (Nat.le_of_ble_eq_true rfl) (by decide) (by decide) ⟨by decide, by decide⟩ dL_act_442 (fun v6 w6 fl6 hp6 => ?_)
          obtain ⟨r6, hr6, hs6, q1, q2, q3⟩ := hp6
          subst q1
          subst q2
          subst q3
          show KW p l e R s m args below meth c 7 G Q w4 fl 0 0 445 [(4, vI y_2), (3, vI r1), (0, .ref (kad G 0)), (1, .ref (kad G 134)), (2, vI v)] [vI r6, .ref (kad G 134)]
          refine k_bipush hC dL_act_445 (by decide) ?_
          refine k_isub hC dL_act_447 ?_
          refine k_putO hC (i := 6) wf_L_41 (by decide) rfl rfl (kl2 hM (by decide)) hw4 [vI (g 0), vI (g 1), vI (g 2), vI (g 3), vI (g 4), vI r3, vI (r6 - 60), vI (g 7), vI (g 8), .ref (kad G 135), .ref (kad G 136), .ref (kad G 137)] rfl (Nat.le_of_ble_eq_true rfl) rfl rfl dL_act_448 (fun w7 hw7 hf7 => ?_)
          refine k_aload_n hC dL_act_451 rfl 2 rfl ?_
          refine k_aload_n hC dL_act_452 rfl 3 rfl ?_
          refine k_getN hC fd_L_38 (kl2 hM (by decide)) hw7 rfl dL_act_453 ?_
          refine k_aload_n hC dL_act_456 rfl 3 rfl ?_
          refine k_getN hC fd_L_41 (kl2 hM (by decide)) hw7 rfl dL_act_457 ?_
          have h_9 : w7 0 = .inr (11, [.ref (kad G 1), .ref (kad G 32), .ref (kad G 3), .ref (kad G 37), vI sv, .ref (kad G 44), .ref (kad G 10), .ref (kad G 116), .ref (kad G 129), .ref (kad G 132)]) := (hf7 0 (by decide)).trans ((hf4 0 (by decide)).trans h00)
          have hB_10 : kLog G w7 3 g := hL.fr (fun j q1 q2 => (hf7 j (by omega)).trans (hf4 j (by omega)))
          have hB_11 : kPlan G w7 32 g nl := hP.fr (fun j q1 q2 => (hf7 j (by omega)).trans (hf4 j (by omega)))
          have hB_12 : kCht G w7 := hCt.fr (fun j q1 q2 => (hf7 j (by omega)).trans (hf4 j (by omega)))
          refine k_callV hC (n_X11_correct l hls G hN w7 fl g nl sv hs nx cn r3 (r6 - 60) (by omega) (by omega) hnx hcn (hHi.fr (fun j q1 q2 => (hf7 j (by omega)).trans (hf4 j (by omega)))) hI h_9 hB_10 hB_11 hB_12 (by omega)) yy_X11_correct wm_L_148 (kl hN (by decide)) h_9 rfl rfl rfl rfl (Nat.le_of_ble_eq_true rfl) (by decide) (by decide) ⟨by decide, by decide⟩ dL_act_460 (fun v8 w8 fl8 hp8 => ?_)
          obtain ⟨-, q1, q2, hp8⟩ := hp8
          subst q1
          subst q2
          obtain ⟨hLg, hHg, hfg⟩ := hp8
          refine k_topv (vI (dipM (setM g 5 r3 6 (r6 - 60)))) (congrArg vI (rfl)) ?_
          show KW p l e R s m args below meth c 7 G Q w8 fl 0 0 463 [(4, vI y_2), (3, vI r1), (0, .ref (kad G 0)), (1, .ref (kad G 134)), (2, vI v)] [vI (dipM (setM g 5 r3 6 (r6 - 60)))]
          refine k_aload_n hC dL_act_463 rfl 3 rfl ?_
          have h_13 : w8 134 = .inr (12, [vI (g 0), vI (g 1), vI (g 2), vI (g 3), vI (g 4), vI r3, vI (r6 - 60), vI (g 7), vI (g 8), .ref (kad G 135), .ref (kad G 136), .ref (kad G 137)]) := (hfg 134 (by omega)).trans hw7
          have hdp := dipM_b13 (g := setM g 5 r3 6 (r6 - 60)) (show 0 ≤ r3 ∧ r3 ≤ 50 by omega)
          skip
          refine k_callVN hC (c_X12_dip l hls G hM w8 fl (setM g 5 r3 6 (r6 - 60)) (show 0 ≤ r3 ∧ r3 ≤ 50 by omega) h_13) yy_X12_dip wm_L_151 (kl2 hM (by decide)) h_13 rfl rfl rfl rfl (Nat.le_of_ble_eq_true rfl) (by decide) (by decide) ⟨by decide, by decide⟩ dL_act_464 (fun v14 w14 fl14 hp14 => ?_)
          obtain ⟨q1, q2, q3⟩ := hp14
          subst q1
          subst q2
          subst q3
          show KW p l e R s m args below meth c 7 G Q w8 fl 0 0 467 [(4, vI y_2), (3, vI r1), (0, .ref (kad G 0)), (1, .ref (kad G 134)), (2, vI v)] [vI (dipM (setM g 5 r3 6 (r6 - 60))), vI (dipM (setM g 5 r3 6 (r6 - 60)))]
          refine k_icmp_ne hC 474 dL_act_467 rfl (by omega) (by omega) (fun c_467 => absurd rfl c_467) (fun c_467 => ?_)
          refine k_iconst hC dL_act_470 ?_
          refine k_goto hC 475 dL_act_471 rfl ?_
          have h_15 : w8 135 = rA G 6 6 F5 := (hfg 135 (by omega)).trans ((hf7 135 (by decide)).trans ((hf4 135 (by decide)).trans h135))
          have h_16 : w8 136 = rA G 6 8 F6 := (hfg 136 (by omega)).trans ((hf7 136 (by decide)).trans ((hf4 136 (by decide)).trans h136))
          have h_17 : w8 137 = rA G 6 12 F7 := (hfg 137 (by omega)).trans ((hf7 137 (by decide)).trans ((hf4 137 (by decide)).trans h137))
          subst hQ
          exact k_iret hC hr ⟨by decide, by decide⟩ (⟨_, rfl, Or.inr ⟨rfl, setM g 5 r3 6 (r6 - 60), hI.set (Or.inl ⟨rfl, rfl, by omega, by omega⟩), pl_set g (Or.inl ⟨rfl, rfl⟩), ow_set hF5 hF6 hF7 (Or.inl ⟨rfl, rfl⟩) h_13 h_15 h_16 h_17, hLg, hHg, fun j hj => (hfg j (by omega)).trans ((hf7 j (by omega)).trans (hf4 j (by omega)))⟩⟩) dL_act_475
        · refine k_aload_n hC dL_act_370 rfl 3 rfl ?_
          refine k_getN hC fd_L_47 (kl2 hM (by decide)) h134 rfl dL_act_371 ?_
          refine k_istore hC [(5, vI (g 8)), (4, vI y_2), (3, vI r1), (0, .ref (kad G 0)), (1, .ref (kad G 134)), (2, vI v)] dL_act_374 (by decide) rfl ?_
          refine k_aload_n hC dL_act_376 rfl 4 rfl ?_
          refine k_iload hC dL_act_377 1 rfl ?_
          refine k_sipush hC dL_act_379 (by decide) ?_
          refine k_callS hC (c_L_most l hls G hN w fl y_2 21600 (by omega)) yy_L_most wm_L_27 rfl rfl (Nat.le_of_ble_eq_true rfl) (by decide) (by decide) ⟨by decide, by decide⟩ dL_act_382 (fun v18 w18 fl18 hp18 => ?_)
          obtain ⟨r18, hr18, hs18, q1, q2, q3⟩ := hp18
          subst q1
          subst q2
          subst q3
          show KW p l e R s m args below meth c 7 G Q w fl 0 0 385 [(5, vI (g 8)), (4, vI y_2), (3, vI r1), (0, .ref (kad G 0)), (1, .ref (kad G 134)), (2, vI v)] [vI r18, .ref (kad G 134)]
          refine k_putO hC (i := 7) wf_L_44 (by decide) rfl rfl (kl2 hM (by decide)) h134 [vI (g 0), vI (g 1), vI (g 2), vI (g 3), vI (g 4), vI (g 5), vI (g 6), vI r18, vI (g 8), .ref (kad G 135), .ref (kad G 136), .ref (kad G 137)] rfl (Nat.le_of_ble_eq_true rfl) rfl rfl dL_act_385 (fun w19 hw19 hf19 => ?_)
          refine k_aload_n hC dL_act_388 rfl 4 rfl ?_
          refine k_iload hC dL_act_389 1 rfl ?_
          refine k_iconst hC dL_act_391 ?_
          refine k_ishrA hC dL_act_392 (fun y_20 hy_20 => ?_)
          refine k_bipush hC dL_act_393 (by decide) ?_
          refine k_callS hC (c_L_most l hls G hN w19 fl y_20 101 (by omega)) yy_L_most wm_L_27 rfl rfl (Nat.le_of_ble_eq_true rfl) (by decide) (by decide) ⟨by decide, by decide⟩ dL_act_395 (fun v21 w21 fl21 hp21 => ?_)
          obtain ⟨r21, hr21, hs21, q1, q2, q3⟩ := hp21
          subst q1
          subst q2
          subst q3
          show KW p l e R s m args below meth c 7 G Q w19 fl 0 0 398 [(5, vI (g 8)), (4, vI y_2), (3, vI r1), (0, .ref (kad G 0)), (1, .ref (kad G 134)), (2, vI v)] [vI r21, .ref (kad G 134)]
          refine k_putO hC (i := 8) wf_L_47 (by decide) rfl rfl (kl2 hM (by decide)) hw19 [vI (g 0), vI (g 1), vI (g 2), vI (g 3), vI (g 4), vI (g 5), vI (g 6), vI r18, vI r21, .ref (kad G 135), .ref (kad G 136), .ref (kad G 137)] rfl (Nat.le_of_ble_eq_true rfl) rfl rfl dL_act_398 (fun w22 hw22 hf22 => ?_)
          refine k_aload_n hC dL_act_401 rfl 3 rfl ?_
          refine k_aload_n hC dL_act_402 rfl 4 rfl ?_
          refine k_getN hC fd_L_44 (kl2 hM (by decide)) hw22 rfl dL_act_403 ?_
          refine k_aload_n hC dL_act_406 rfl 4 rfl ?_
          refine k_getN hC fd_L_47 (kl2 hM (by decide)) hw22 rfl dL_act_407 ?_
          have h_24 : w22 0 = .inr (11, [.ref (kad G 1), .ref (kad G 32), .ref (kad G 3), .ref (kad G 37), vI sv, .ref (kad G 44), .ref (kad G 10), .ref (kad G 116), .ref (kad G 129), .ref (kad G 132)]) := (hf22 0 (by decide)).trans ((hf19 0 (by decide)).trans h00)
          have hB_25 : kLog G w22 3 g := hL.fr (fun j q1 q2 => (hf22 j (by omega)).trans (hf19 j (by omega)))
          have hB_26 : kPlan G w22 32 g nl := hP.fr (fun j q1 q2 => (hf22 j (by omega)).trans (hf19 j (by omega)))
          have hB_27 : kCht G w22 := hCt.fr (fun j q1 q2 => (hf22 j (by omega)).trans (hf19 j (by omega)))
          refine k_callV hC (n_X11_setCurrent l hls G hN w22 fl g nl sv hs nx cn r18 r21 (by omega) (by omega) hnx hcn (hHi.fr (fun j q1 q2 => (hf22 j (by omega)).trans (hf19 j (by omega)))) hI h_24 hB_25 hB_26 hB_27 (by omega)) yy_X11_setCurrent wm_L_145 (kl hN (by decide)) h_24 rfl rfl rfl rfl (Nat.le_of_ble_eq_true rfl) (by decide) (by decide) ⟨by decide, by decide⟩ dL_act_410 (fun v23 w23 fl23 hp23 => ?_)
          obtain ⟨-, q1, q2, hp23⟩ := hp23
          subst q1
          subst q2
          obtain ⟨hLg, hHg, hfg⟩ := hp23
          refine k_topv (vI (g 8)) (congrArg vI (rfl)) ?_
          show KW p l e R s m args below meth c 7 G Q w23 fl 0 0 413 [(5, vI (g 8)), (4, vI y_2), (3, vI r1), (0, .ref (kad G 0)), (1, .ref (kad G 134)), (2, vI v)] [vI (g 8)]
          refine k_iload hC dL_act_413 0 rfl ?_
          refine k_icmp_ne hC 422 dL_act_415 rfl (by omega) (by omega) (fun c_415 => absurd rfl c_415) (fun c_415 => ?_)
          refine k_iconst hC dL_act_418 ?_
          refine k_goto hC 423 dL_act_419 rfl ?_
          have h_28 : w23 134 = .inr (12, [vI (g 0), vI (g 1), vI (g 2), vI (g 3), vI (g 4), vI (g 5), vI (g 6), vI r18, vI r21, .ref (kad G 135), .ref (kad G 136), .ref (kad G 137)]) := (hfg 134 (by omega)).trans hw22
          have h_29 : w23 135 = rA G 6 6 F5 := (hfg 135 (by omega)).trans ((hf22 135 (by decide)).trans ((hf19 135 (by decide)).trans h135))
          have h_30 : w23 136 = rA G 6 8 F6 := (hfg 136 (by omega)).trans ((hf22 136 (by decide)).trans ((hf19 136 (by decide)).trans h136))
          have h_31 : w23 137 = rA G 6 12 F7 := (hfg 137 (by omega)).trans ((hf22 137 (by decide)).trans ((hf19 137 (by decide)).trans h137))
          subst hQ
          exact k_iret hC hr ⟨by decide, by decide⟩ (⟨_, rfl, Or.inr ⟨rfl, setM g 7 r18 8 r21, hI.set (Or.inr ⟨rfl, rfl, by omega, by omega⟩), pl_set g (Or.inr ⟨rfl, rfl⟩), ow_set hF5 hF6 hF7 (Or.inr ⟨rfl, rfl⟩) h_28 h_29 h_30 h_31, hLg, hHg, fun j hj => (hfg j (by omega)).trans ((hf22 j (by omega)).trans (hf19 j (by omega)))⟩⟩) dL_act_423
      · refine k_iconst hC dL_act_208 ?_
        refine k_newi hC (n := 3) rfl (by decide) ⟨by decide, by decide⟩ dL_act_209 (fun x_32 => ?_)
        show KW p l e R s m args below meth c 7 G Q w (fl ++ [(x_32, iA G 3 (fun _ => 0))]) 1 3 211 [(4, vI y_2), (3, vI r1), (0, .ref (kad G 0)), (1, .ref (kad G 134)), (2, vI v)] [.ref x_32]
        refine k_dup hC dL_act_211 rfl ?_
        refine k_iconst hC dL_act_212 ?_
        refine k_iload hC dL_act_213 0 rfl ?_
        refine k_sipush hC dL_act_215 (by decide) ?_
        refine k_callS hC (c_L_most l hls G hN w (fl ++ [(x_32, iA G 3 (fun _ => 0))]) y_2 1800 (by omega)) yy_L_most wm_L_27 rfl rfl (Nat.le_of_ble_eq_true rfl) (by decide) (by decide) ⟨by decide, by decide⟩ dL_act_218 (fun v33 w33 fl33 hp33 => ?_)
        obtain ⟨r33, hr33, hs33, q1, q2, q3⟩ := hp33
        subst q1
        subst q2
        subst q3
        show KW p l e R s m args below meth c 7 G Q w (fl ++ [(x_32, iA G 3 (fun _ => 0))]) 1 3 221 [(4, vI y_2), (3, vI r1), (0, .ref (kad G 0)), (1, .ref (kad G 134)), (2, vI v)] [vI r33, vI 0, .ref x_32, .ref x_32]
        refine k_iastL hC (n := 3) (f := (fun _ => 0)) 0 rfl [(x_32, iA G 3 (kup (fun _ => 0) 0 r33))] rfl (by decide) (by decide) dL_act_221 ?_
        refine k_dup hC dL_act_222 rfl ?_
        refine k_iconst hC dL_act_223 ?_
        refine k_iload hC dL_act_224 0 rfl ?_
        refine k_iconst hC dL_act_226 ?_
        refine k_ishrA hC dL_act_227 (fun y_34 hy_34 => ?_)
        refine k_sipush hC dL_act_228 (by decide) ?_
        refine k_callS hC (c_L_most l hls G hN w (fl ++ [(x_32, iA G 3 (kup (fun _ => 0) 0 r33))]) y_34 21600 (by omega)) yy_L_most wm_L_27 rfl rfl (Nat.le_of_ble_eq_true rfl) (by decide) (by decide) ⟨by decide, by decide⟩ dL_act_231 (fun v35 w35 fl35 hp35 => ?_)
        obtain ⟨r35, hr35, hs35, q1, q2, q3⟩ := hp35
        subst q1
        subst q2
        subst q3
        show KW p l e R s m args below meth c 7 G Q w (fl ++ [(x_32, iA G 3 (kup (fun _ => 0) 0 r33))]) 1 3 234 [(4, vI y_2), (3, vI r1), (0, .ref (kad G 0)), (1, .ref (kad G 134)), (2, vI v)] [vI r35, vI 1, .ref x_32, .ref x_32]
        refine k_iastL hC (n := 3) (f := (kup (fun _ => 0) 0 r33)) 0 rfl [(x_32, iA G 3 (kup (kup (fun _ => 0) 0 r33) 1 r35))] rfl (by decide) (by decide) dL_act_234 ?_
        refine k_dup hC dL_act_235 rfl ?_
        refine k_iconst hC dL_act_236 ?_
        refine k_iload hC dL_act_237 0 rfl ?_
        refine k_iconst hC dL_act_239 ?_
        refine k_ishrA hC dL_act_240 (fun y_36 hy_36 => ?_)
        refine k_sipush hC dL_act_241 (by decide) ?_
        refine k_callS hC (c_L_most l hls G hN w (fl ++ [(x_32, iA G 3 (kup (kup (fun _ => 0) 0 r33) 1 r35))]) y_36 401 (by omega)) yy_L_most wm_L_27 rfl rfl (Nat.le_of_ble_eq_true rfl) (by decide) (by decide) ⟨by decide, by decide⟩ dL_act_244 (fun v37 w37 fl37 hp37 => ?_)
        obtain ⟨r37, hr37, hs37, q1, q2, q3⟩ := hp37
        subst q1
        subst q2
        subst q3
        show KW p l e R s m args below meth c 7 G Q w (fl ++ [(x_32, iA G 3 (kup (kup (fun _ => 0) 0 r33) 1 r35))]) 1 3 247 [(4, vI y_2), (3, vI r1), (0, .ref (kad G 0)), (1, .ref (kad G 134)), (2, vI v)] [vI r37, vI 2, .ref x_32, .ref x_32]
        refine k_iastL hC (n := 3) (f := (kup (kup (fun _ => 0) 0 r33) 1 r35)) 0 rfl [(x_32, iA G 3 (kup (kup (kup (fun _ => 0) 0 r33) 1 r35) 2 r37))] rfl (by decide) (by decide) dL_act_247 ?_
        refine k_astore hC [(5, .ref x_32), (4, vI y_2), (3, vI r1), (0, .ref (kad G 0)), (1, .ref (kad G 134)), (2, vI v)] dL_act_248 (by decide) rfl ?_
        refine k_aload_n hC dL_act_250 rfl 4 rfl ?_
        refine k_getN hC fd_L_57 (kl2 hM (by decide)) h134 rfl dL_act_251 ?_
        refine k_bipush hC dL_act_254 (by decide) ?_
        refine k_icmp_ne hC 264 dL_act_256 rfl (by omega) (by omega) (fun c_256 => ?_) (fun c_256 => ?_)
        · refine k_aload_n hC dL_act_264 rfl 4 rfl ?_
          refine k_getN hC fd_L_57 (kl2 hM (by decide)) h134 rfl dL_act_265 ?_
          refine k_if_le hC 296 dL_act_268 rfl (by omega) (fun c_268 => ?_) (fun c_268 => ?_)
          · refine k_aload_n hC dL_act_296 rfl 4 rfl ?_
            refine k_getN hC fd_L_57 (kl2 hM (by decide)) h134 rfl dL_act_297 ?_
            refine k_istore hC [(6, vI (g 1)), (5, .ref x_32), (4, vI y_2), (3, vI r1), (0, .ref (kad G 0)), (1, .ref (kad G 134)), (2, vI v)] dL_act_300 (by decide) rfl ?_
            refine k_iload hC dL_act_302 0 rfl ?_
            skip
            refine k_if_lt hC 328 dL_act_304 rfl (by omega) (fun c_304 => absurd c_304 (by omega)) (fun c_304 => ?_)
            refine k_aload_n hC dL_act_307 rfl 5 rfl ?_
            refine k_getN hC fd_L_60 (kl2 hM (by decide)) h134 rfl dL_act_308 ?_
            refine k_aload_n hC dL_act_311 rfl 5 rfl ?_
            refine k_getN hC fd_L_57 (kl2 hM (by decide)) h134 rfl dL_act_312 ?_
            refine k_aload hC dL_act_315 1 rfl ?_
            refine k_aastA hC fl.length (kl2 hM (by decide)) h136 (by rw [List.getElem?_append_right (Nat.le_refl _), Nat.sub_self]; rfl) (by omega) (by decide) dL_act_317 (fun w38 hw38 hf38 => ?_)
            refine k_aload_n hC dL_act_318 rfl 5 rfl ?_
            refine k_dup hC dL_act_319 rfl ?_
            have h_39 : w38 134 = .inr (12, [vI (g 0), vI (g 1), vI (g 2), vI (g 3), vI (g 4), vI (g 5), vI (g 6), vI (g 7), vI (g 8), .ref (kad G 135), .ref (kad G 136), .ref (kad G 137)]) := (hf38 134 (by decide)).trans h134
            refine k_getN hC fd_L_57 (kl2 hM (by decide)) h_39 rfl dL_act_320 ?_
            refine k_iconst hC dL_act_323 ?_
            refine k_iadd hC dL_act_324 ?_
            refine k_putO hC (i := 1) wf_L_57 (by decide) rfl rfl (kl2 hM (by decide)) h_39 [vI (g 0), vI ((g 1) + 1), vI (g 2), vI (g 3), vI (g 4), vI (g 5), vI (g 6), vI (g 7), vI (g 8), .ref (kad G 135), .ref (kad G 136), .ref (kad G 137)] rfl (Nat.le_of_ble_eq_true rfl) rfl rfl dL_act_325 (fun w40 hw40 hf40 => ?_)
            refine k_aload_n hC dL_act_328 rfl 4 rfl ?_
            skip
            refine k_aload hC dL_act_329 1 rfl ?_
            refine k_iconst hC dL_act_331 ?_
            refine k_ialdL hC (n := 3) (f := (kup (kup (kup (fun _ => 0) 0 r33) 1 r35) 2 r37)) 0 rfl (by decide) (by decide) dL_act_332 ?_
            refine k_topv (vI r33) rfl ?_
            refine k_aload hC dL_act_333 1 rfl ?_
            refine k_iconst hC dL_act_335 ?_
            refine k_ialdL hC (n := 3) (f := (kup (kup (kup (fun _ => 0) 0 r33) 1 r35) 2 r37)) 0 rfl (by decide) (by decide) dL_act_336 ?_
            refine k_topv (vI r35) rfl ?_
            refine k_aload hC dL_act_337 1 rfl ?_
            refine k_iconst hC dL_act_339 ?_
            refine k_ialdL hC (n := 3) (f := (kup (kup (kup (fun _ => 0) 0 r33) 1 r35) 2 r37)) 0 rfl (by decide) (by decide) dL_act_340 ?_
            refine k_topv (vI r37) rfl ?_
            have h_42 : w40 0 = .inr (11, [.ref (kad G 1), .ref (kad G 32), .ref (kad G 3), .ref (kad G 37), vI sv, .ref (kad G 44), .ref (kad G 10), .ref (kad G 116), .ref (kad G 129), .ref (kad G 132)]) := (hf40 0 (by decide)).trans ((hf38 0 (by decide)).trans h00)
            have hB_43 : kLog G w40 3 g := hL.fr (fun j q1 q2 => (hf40 j (by omega)).trans (hf38 j (by omega)))
            have hB_44 : kPlan G w40 32 g nl := hP.fr (fun j q1 q2 => (hf40 j (by omega)).trans (hf38 j (by omega)))
            have hB_45 : kCht G w40 := hCt.fr (fun j q1 q2 => (hf40 j (by omega)).trans (hf38 j (by omega)))
            refine k_callV hC (n_X11_steer l hls G hN w40 (fl ++ [(x_32, iA G 3 (kup (kup (kup (fun _ => 0) 0 r33) 1 r35) 2 r37))]) g nl sv hs nx cn r33 r35 r37 (by omega) (by omega) (by omega) hnx hcn (hHi.fr (fun j q1 q2 => (hf40 j (by omega)).trans (hf38 j (by omega)))) hI h_42 hB_43 hB_44 hB_45 (by omega)) yy_X11_steer wm_L_142 (kl hN (by decide)) h_42 rfl rfl rfl rfl (Nat.le_of_ble_eq_true rfl) (by decide) (by decide) ⟨by decide, by decide⟩ dL_act_341 (fun v41 w41 fl41 hp41 => ?_)
            obtain ⟨-, q1, q2, hp41⟩ := hp41
            subst q1
            subst q2
            obtain ⟨-, hLg, hHg, hfg⟩ := hp41.resolve_left (fun q => by omega)
            refine k_topv (vI (g 1)) (congrArg vI ((if_neg (by omega)).trans (if_neg (by omega)))) ?_
            show KW p l e R s m args below meth c 7 G Q w41 (fl ++ [(x_32, iA G 3 (kup (kup (kup (fun _ => 0) 0 r33) 1 r35) 2 r37))]) 1 3 344 [(6, vI (g 1)), (5, .ref x_32), (4, vI y_2), (3, vI r1), (0, .ref (kad G 0)), (1, .ref (kad G 134)), (2, vI v)] [vI (g 1)]
            refine k_iload hC dL_act_344 0 rfl ?_
            refine k_icmp_eq hC 353 dL_act_346 rfl (by omega) (by omega) (fun c_346 => ?_) (fun c_346 => absurd rfl c_346)
            refine k_iload hC dL_act_353 0 rfl ?_
            refine k_if_ge hC 362 dL_act_355 rfl (by omega) (fun c_355 => ?_) (fun c_355 => (by omega : False).elim)
            refine k_iconst hC dL_act_362 ?_
            have h_46 : w41 134 = .inr (12, [vI (g 0), vI ((g 1) + 1), vI (g 2), vI (g 3), vI (g 4), vI (g 5), vI (g 6), vI (g 7), vI (g 8), .ref (kad G 135), .ref (kad G 136), .ref (kad G 137)]) := (hfg 134 (by omega)).trans hw40
            have h_47 : w41 135 = rA G 6 6 F5 := (hfg 135 (by omega)).trans ((hf40 135 (by decide)).trans ((hf38 135 (by decide)).trans h135))
            have h_48 : w41 136 = rA G 6 8 (va_up F6 (g 1).toNat (some x_32)) := (hfg 136 (by omega)).trans ((hf40 136 (by decide)).trans hw38)
            have h_49 : w41 137 = rA G 6 12 F7 := (hfg 137 (by omega)).trans ((hf40 137 (by decide)).trans ((hf38 137 (by decide)).trans h137))
            subst hQ
            exact k_iret hC hr ⟨by decide, by decide⟩ (⟨_, rfl, Or.inr ⟨rfl, addLegM g r33 r35 r37, hI.addLeg (by omega) (by omega) (by omega) (by omega) (by omega), pl_leg _ _ _ _, ow_leg hF5 hF6 hF7 hI (by omega) x_32 (kup (kup (kup (fun _ => 0) 0 r33) 1 r35) 2 r37) h_46 h_47 h_48 h_49, hLg, hHg, fun j hj => (hfg j (by omega)).trans ((hf40 j (by omega)).trans (hf38 j (by omega)))⟩⟩) dL_act_363
          · refine k_aload hC dL_act_271 0 rfl ?_
            refine k_iconst hC dL_act_273 ?_
            refine k_ialdL hC (n := 3) (f := (kup (kup (kup (fun _ => 0) 0 r33) 1 r35) 2 r37)) 0 rfl (by decide) (by decide) dL_act_274 ?_
            refine k_topv (vI r33) rfl ?_
            refine k_aload_n hC dL_act_275 rfl 4 rfl ?_
            refine k_getN hC fd_L_60 (kl2 hM (by decide)) h134 rfl dL_act_276 ?_
            refine k_aload_n hC dL_act_279 rfl 4 rfl ?_
            refine k_getN hC fd_L_57 (kl2 hM (by decide)) h134 rfl dL_act_280 ?_
            refine k_iconst hC dL_act_283 ?_
            refine k_isub hC dL_act_284 ?_
            obtain ⟨q50, j50, f50, hq50, hj50, ha50, hb50, hc50⟩ := hF6 (((g 1) - 1).toNat) (by omega)
            refine k_aaldA hC (v := .ref q50) (kl2 hM (by decide)) h136 (by omega) (by decide) (congrArg va_rf hq50) dL_act_285 ?_
            refine k_iconst hC dL_act_286 ?_
            refine k_ialdF hC (f := f50) j50 ((List.getElem?_append_left (List.getElem?_eq_some_iff.mp hj50).1).trans hj50) (by decide) (by decide) dL_act_287 ?_
            refine k_topv (vI (g (33 + 3 * ((g 1) - 1).toNat))) (congrArg vI ha50) ?_
            refine k_icmp_gt hC 296 dL_act_288 rfl (by omega) (by omega) (fun c_288 => ?_) (fun c_288 => ?_)
            · refine k_aload_n hC dL_act_296 rfl 4 rfl ?_
              refine k_getN hC fd_L_57 (kl2 hM (by decide)) h134 rfl dL_act_297 ?_
              refine k_istore hC [(6, vI (g 1)), (5, .ref x_32), (4, vI y_2), (3, vI r1), (0, .ref (kad G 0)), (1, .ref (kad G 134)), (2, vI v)] dL_act_300 (by decide) rfl ?_
              refine k_iload hC dL_act_302 0 rfl ?_
              skip
              refine k_if_lt hC 328 dL_act_304 rfl (by omega) (fun c_304 => absurd c_304 (by omega)) (fun c_304 => ?_)
              refine k_aload_n hC dL_act_307 rfl 5 rfl ?_
              refine k_getN hC fd_L_60 (kl2 hM (by decide)) h134 rfl dL_act_308 ?_
              refine k_aload_n hC dL_act_311 rfl 5 rfl ?_
              refine k_getN hC fd_L_57 (kl2 hM (by decide)) h134 rfl dL_act_312 ?_
              refine k_aload hC dL_act_315 1 rfl ?_
              refine k_aastA hC fl.length (kl2 hM (by decide)) h136 (by rw [List.getElem?_append_right (Nat.le_refl _), Nat.sub_self]; rfl) (by omega) (by decide) dL_act_317 (fun w51 hw51 hf51 => ?_)
              refine k_aload_n hC dL_act_318 rfl 5 rfl ?_
              refine k_dup hC dL_act_319 rfl ?_
              have h_52 : w51 134 = .inr (12, [vI (g 0), vI (g 1), vI (g 2), vI (g 3), vI (g 4), vI (g 5), vI (g 6), vI (g 7), vI (g 8), .ref (kad G 135), .ref (kad G 136), .ref (kad G 137)]) := (hf51 134 (by decide)).trans h134
              refine k_getN hC fd_L_57 (kl2 hM (by decide)) h_52 rfl dL_act_320 ?_
              refine k_iconst hC dL_act_323 ?_
              refine k_iadd hC dL_act_324 ?_
              refine k_putO hC (i := 1) wf_L_57 (by decide) rfl rfl (kl2 hM (by decide)) h_52 [vI (g 0), vI ((g 1) + 1), vI (g 2), vI (g 3), vI (g 4), vI (g 5), vI (g 6), vI (g 7), vI (g 8), .ref (kad G 135), .ref (kad G 136), .ref (kad G 137)] rfl (Nat.le_of_ble_eq_true rfl) rfl rfl dL_act_325 (fun w53 hw53 hf53 => ?_)
              refine k_aload_n hC dL_act_328 rfl 4 rfl ?_
              skip
              refine k_aload hC dL_act_329 1 rfl ?_
              refine k_iconst hC dL_act_331 ?_
              refine k_ialdL hC (n := 3) (f := (kup (kup (kup (fun _ => 0) 0 r33) 1 r35) 2 r37)) 0 rfl (by decide) (by decide) dL_act_332 ?_
              refine k_topv (vI r33) rfl ?_
              refine k_aload hC dL_act_333 1 rfl ?_
              refine k_iconst hC dL_act_335 ?_
              refine k_ialdL hC (n := 3) (f := (kup (kup (kup (fun _ => 0) 0 r33) 1 r35) 2 r37)) 0 rfl (by decide) (by decide) dL_act_336 ?_
              refine k_topv (vI r35) rfl ?_
              refine k_aload hC dL_act_337 1 rfl ?_
              refine k_iconst hC dL_act_339 ?_
              refine k_ialdL hC (n := 3) (f := (kup (kup (kup (fun _ => 0) 0 r33) 1 r35) 2 r37)) 0 rfl (by decide) (by decide) dL_act_340 ?_
              refine k_topv (vI r37) rfl ?_
              have h_55 : w53 0 = .inr (11, [.ref (kad G 1), .ref (kad G 32), .ref (kad G 3), .ref (kad G 37), vI sv, .ref (kad G 44), .ref (kad G 10), .ref (kad G 116), .ref (kad G 129), .ref (kad G 132)]) := (hf53 0 (by decide)).trans ((hf51 0 (by decide)).trans h00)
              have hB_56 : kLog G w53 3 g := hL.fr (fun j q1 q2 => (hf53 j (by omega)).trans (hf51 j (by omega)))
              have hB_57 : kPlan G w53 32 g nl := hP.fr (fun j q1 q2 => (hf53 j (by omega)).trans (hf51 j (by omega)))
              have hB_58 : kCht G w53 := hCt.fr (fun j q1 q2 => (hf53 j (by omega)).trans (hf51 j (by omega)))
              refine k_callV hC (n_X11_steer l hls G hN w53 (fl ++ [(x_32, iA G 3 (kup (kup (kup (fun _ => 0) 0 r33) 1 r35) 2 r37))]) g nl sv hs nx cn r33 r35 r37 (by omega) (by omega) (by omega) hnx hcn (hHi.fr (fun j q1 q2 => (hf53 j (by omega)).trans (hf51 j (by omega)))) hI h_55 hB_56 hB_57 hB_58 (by omega)) yy_X11_steer wm_L_142 (kl hN (by decide)) h_55 rfl rfl rfl rfl (Nat.le_of_ble_eq_true rfl) (by decide) (by decide) ⟨by decide, by decide⟩ dL_act_341 (fun v54 w54 fl54 hp54 => ?_)
              obtain ⟨-, q1, q2, hp54⟩ := hp54
              subst q1
              subst q2
              obtain ⟨-, hLg, hHg, hfg⟩ := hp54.resolve_left (fun q => by omega)
              refine k_topv (vI (g 1)) (congrArg vI ((if_neg (by omega)).trans (if_neg (by omega)))) ?_
              show KW p l e R s m args below meth c 7 G Q w54 (fl ++ [(x_32, iA G 3 (kup (kup (kup (fun _ => 0) 0 r33) 1 r35) 2 r37))]) 1 3 344 [(6, vI (g 1)), (5, .ref x_32), (4, vI y_2), (3, vI r1), (0, .ref (kad G 0)), (1, .ref (kad G 134)), (2, vI v)] [vI (g 1)]
              refine k_iload hC dL_act_344 0 rfl ?_
              refine k_icmp_eq hC 353 dL_act_346 rfl (by omega) (by omega) (fun c_346 => ?_) (fun c_346 => absurd rfl c_346)
              refine k_iload hC dL_act_353 0 rfl ?_
              refine k_if_ge hC 362 dL_act_355 rfl (by omega) (fun c_355 => ?_) (fun c_355 => (by omega : False).elim)
              refine k_iconst hC dL_act_362 ?_
              have h_59 : w54 134 = .inr (12, [vI (g 0), vI ((g 1) + 1), vI (g 2), vI (g 3), vI (g 4), vI (g 5), vI (g 6), vI (g 7), vI (g 8), .ref (kad G 135), .ref (kad G 136), .ref (kad G 137)]) := (hfg 134 (by omega)).trans hw53
              have h_60 : w54 135 = rA G 6 6 F5 := (hfg 135 (by omega)).trans ((hf53 135 (by decide)).trans ((hf51 135 (by decide)).trans h135))
              have h_61 : w54 136 = rA G 6 8 (va_up F6 (g 1).toNat (some x_32)) := (hfg 136 (by omega)).trans ((hf53 136 (by decide)).trans hw51)
              have h_62 : w54 137 = rA G 6 12 F7 := (hfg 137 (by omega)).trans ((hf53 137 (by decide)).trans ((hf51 137 (by decide)).trans h137))
              subst hQ
              exact k_iret hC hr ⟨by decide, by decide⟩ (⟨_, rfl, Or.inr ⟨rfl, addLegM g r33 r35 r37, hI.addLeg (by omega) (by omega) (by omega) (by omega) (by omega), pl_leg _ _ _ _, ow_leg hF5 hF6 hF7 hI (by omega) x_32 (kup (kup (kup (fun _ => 0) 0 r33) 1 r35) 2 r37) h_59 h_60 h_61 h_62, hLg, hHg, fun j hj => (hfg j (by omega)).trans ((hf53 j (by omega)).trans (hf51 j (by omega)))⟩⟩) dL_act_363
            · refine k_bipush hC dL_act_291 (by decide) ?_
              refine k_goto hC 300 dL_act_293 rfl ?_
              refine k_istore hC [(6, vI (-3)), (5, .ref x_32), (4, vI y_2), (3, vI r1), (0, .ref (kad G 0)), (1, .ref (kad G 134)), (2, vI v)] dL_act_300 (by decide) rfl ?_
              refine k_iload hC dL_act_302 0 rfl ?_
              skip
              refine k_if_lt hC 328 dL_act_304 rfl (by omega) (fun c_304 => ?_) (fun c_304 => absurd c_304 (by omega))
              refine k_aload_n hC dL_act_328 rfl 4 rfl ?_
              skip
              refine k_aload hC dL_act_329 1 rfl ?_
              refine k_iconst hC dL_act_331 ?_
              refine k_ialdL hC (n := 3) (f := (kup (kup (kup (fun _ => 0) 0 r33) 1 r35) 2 r37)) 0 rfl (by decide) (by decide) dL_act_332 ?_
              refine k_topv (vI r33) rfl ?_
              refine k_aload hC dL_act_333 1 rfl ?_
              refine k_iconst hC dL_act_335 ?_
              refine k_ialdL hC (n := 3) (f := (kup (kup (kup (fun _ => 0) 0 r33) 1 r35) 2 r37)) 0 rfl (by decide) (by decide) dL_act_336 ?_
              refine k_topv (vI r35) rfl ?_
              refine k_aload hC dL_act_337 1 rfl ?_
              refine k_iconst hC dL_act_339 ?_
              refine k_ialdL hC (n := 3) (f := (kup (kup (kup (fun _ => 0) 0 r33) 1 r35) 2 r37)) 0 rfl (by decide) (by decide) dL_act_340 ?_
              refine k_topv (vI r37) rfl ?_
              refine k_callV hC (n_X11_steer l hls G hN w (fl ++ [(x_32, iA G 3 (kup (kup (kup (fun _ => 0) 0 r33) 1 r35) 2 r37))]) g nl sv hs nx cn r33 r35 r37 (by omega) (by omega) (by omega) hnx hcn (hHi.fr (fun j q1 q2 => rfl)) hI h00 hL hP hCt (by omega)) yy_X11_steer wm_L_142 (kl hN (by decide)) h00 rfl rfl rfl rfl (Nat.le_of_ble_eq_true rfl) (by decide) (by decide) ⟨by decide, by decide⟩ dL_act_341 (fun v63 w63 fl63 hp63 => ?_)
              obtain ⟨-, q1, q2, hp63⟩ := hp63
              subst q1
              subst q2
              obtain ⟨-, q3⟩ := hp63.resolve_right (fun q => q.1 (by omega))
              have q4 := q3.symm
              subst q4
              refine k_topv (vI (-3)) (congrArg vI ((if_neg (by omega)).trans (if_pos (by omega)))) ?_
              show KW p l e R s m args below meth c 7 G Q w (fl ++ [(x_32, iA G 3 (kup (kup (kup (fun _ => 0) 0 r33) 1 r35) 2 r37))]) 1 3 344 [(6, vI (-3)), (5, .ref x_32), (4, vI y_2), (3, vI r1), (0, .ref (kad G 0)), (1, .ref (kad G 134)), (2, vI v)] [vI (-3)]
              refine k_iload hC dL_act_344 0 rfl ?_
              refine k_icmp_eq hC 353 dL_act_346 rfl (by omega) (by omega) (fun c_346 => ?_) (fun c_346 => absurd rfl c_346)
              refine k_iload hC dL_act_353 0 rfl ?_
              refine k_if_ge hC 362 dL_act_355 rfl (by omega) (fun c_355 => absurd c_355 (by omega)) (fun c_355 => ?_)
              refine k_iconst hC dL_act_358 ?_
              refine k_goto hC 363 dL_act_359 rfl ?_
              subst hQ
              exact k_iret hC hr ⟨by decide, by decide⟩ (⟨_, rfl, Or.inl ⟨rfl, rfl, hE0.ap⟩⟩) dL_act_363
        · refine k_bipush hC dL_act_259 (by decide) ?_
          refine k_goto hC 300 dL_act_261 rfl ?_
          refine k_istore hC [(6, vI (-2)), (5, .ref x_32), (4, vI y_2), (3, vI r1), (0, .ref (kad G 0)), (1, .ref (kad G 134)), (2, vI v)] dL_act_300 (by decide) rfl ?_
          refine k_iload hC dL_act_302 0 rfl ?_
          skip
          refine k_if_lt hC 328 dL_act_304 rfl (by omega) (fun c_304 => ?_) (fun c_304 => absurd c_304 (by omega))
          refine k_aload_n hC dL_act_328 rfl 4 rfl ?_
          skip
          refine k_aload hC dL_act_329 1 rfl ?_
          refine k_iconst hC dL_act_331 ?_
          refine k_ialdL hC (n := 3) (f := (kup (kup (kup (fun _ => 0) 0 r33) 1 r35) 2 r37)) 0 rfl (by decide) (by decide) dL_act_332 ?_
          refine k_topv (vI r33) rfl ?_
          refine k_aload hC dL_act_333 1 rfl ?_
          refine k_iconst hC dL_act_335 ?_
          refine k_ialdL hC (n := 3) (f := (kup (kup (kup (fun _ => 0) 0 r33) 1 r35) 2 r37)) 0 rfl (by decide) (by decide) dL_act_336 ?_
          refine k_topv (vI r35) rfl ?_
          refine k_aload hC dL_act_337 1 rfl ?_
          refine k_iconst hC dL_act_339 ?_
          refine k_ialdL hC (n := 3) (f := (kup (kup (kup (fun _ => 0) 0 r33) 1 r35) 2 r37)) 0 rfl (by decide) (by decide) dL_act_340 ?_
          refine k_topv (vI r37) rfl ?_
          refine k_callV hC (n_X11_steer l hls G hN w (fl ++ [(x_32, iA G 3 (kup (kup (kup (fun _ => 0) 0 r33) 1 r35) 2 r37))]) g nl sv hs nx cn r33 r35 r37 (by omega) (by omega) (by omega) hnx hcn (hHi.fr (fun j q1 q2 => rfl)) hI h00 hL hP hCt (by omega)) yy_X11_steer wm_L_142 (kl hN (by decide)) h00 rfl rfl rfl rfl (Nat.le_of_ble_eq_true rfl) (by decide) (by decide) ⟨by decide, by decide⟩ dL_act_341 (fun v64 w64 fl64 hp64 => ?_)
          obtain ⟨-, q1, q2, hp64⟩ := hp64
          subst q1
          subst q2
          obtain ⟨-, q3⟩ := hp64.resolve_right (fun q => q.1 (by omega))
          have q4 := q3.symm
          subst q4
          refine k_topv (vI (-2)) (congrArg vI (if_pos (by omega))) ?_
          show KW p l e R s m args below meth c 7 G Q w (fl ++ [(x_32, iA G 3 (kup (kup (kup (fun _ => 0) 0 r33) 1 r35) 2 r37))]) 1 3 344 [(6, vI (-2)), (5, .ref x_32), (4, vI y_2), (3, vI r1), (0, .ref (kad G 0)), (1, .ref (kad G 134)), (2, vI v)] [vI (-2)]
          refine k_iload hC dL_act_344 0 rfl ?_
          refine k_icmp_eq hC 353 dL_act_346 rfl (by omega) (by omega) (fun c_346 => ?_) (fun c_346 => absurd rfl c_346)
          refine k_iload hC dL_act_353 0 rfl ?_
          refine k_if_ge hC 362 dL_act_355 rfl (by omega) (fun c_355 => absurd c_355 (by omega)) (fun c_355 => ?_)
          refine k_iconst hC dL_act_358 ?_
          refine k_goto hC 363 dL_act_359 rfl ?_
          subst hQ
          exact k_iret hC hr ⟨by decide, by decide⟩ (⟨_, rfl, Or.inl ⟨rfl, rfl, hE0.ap⟩⟩) dL_act_363
    · refine k_aload_n hC dL_act_118 rfl 3 rfl ?_
      refine k_getN hC fd_L_63 (kl2 hM (by decide)) h134 rfl dL_act_119 ?_
      refine k_if_ne hC 127 dL_act_122 rfl (by omega) (fun c_122 => ?_) (fun c_122 => ?_)
      · refine k_iload hC dL_act_127 0 rfl ?_
        refine k_aload_n hC dL_act_129 rfl 3 rfl ?_
        refine k_getN hC fd_L_63 (kl2 hM (by decide)) h134 rfl dL_act_130 ?_
        refine k_callS hC (c_L_most l hls G hN w fl y_2 (g 2) (by omega)) yy_L_most wm_L_27 rfl rfl (Nat.le_of_ble_eq_true rfl) (by decide) (by decide) ⟨by decide, by decide⟩ dL_act_133 (fun v65 w65 fl65 hp65 => ?_)
        obtain ⟨r65, hr65, hs65, q1, q2, q3⟩ := hp65
        subst q1
        subst q2
        subst q3
        show KW p l e R s m args below meth c 7 G Q w fl 0 0 136 [(4, vI y_2), (3, vI r1), (0, .ref (kad G 0)), (1, .ref (kad G 134)), (2, vI v)] [vI r65]
        refine k_istore hC [(5, vI r65), (4, vI y_2), (3, vI r1), (0, .ref (kad G 0)), (1, .ref (kad G 134)), (2, vI v)] dL_act_136 (by decide) rfl ?_
        refine k_aload_n hC dL_act_138 rfl 4 rfl ?_
        refine k_dup hC dL_act_139 rfl ?_
        refine k_getN hC fd_L_63 (kl2 hM (by decide)) h134 rfl dL_act_140 ?_
        refine k_iconst hC dL_act_143 ?_
        refine k_isub hC dL_act_144 ?_
        refine k_putO hC (i := 2) wf_L_63 (by decide) rfl rfl (kl2 hM (by decide)) h134 [vI (g 0), vI (g 1), vI ((g 2) - 1), vI (g 3), vI (g 4), vI (g 5), vI (g 6), vI (g 7), vI (g 8), .ref (kad G 135), .ref (kad G 136), .ref (kad G 137)] rfl (Nat.le_of_ble_eq_true rfl) rfl rfl dL_act_145 (fun w66 hw66 hf66 => ?_)
        refine k_iload hC dL_act_148 0 rfl ?_
        refine k_istore hC [(6, vI r65), (5, vI r65), (4, vI y_2), (3, vI r1), (0, .ref (kad G 0)), (1, .ref (kad G 134)), (2, vI v)] dL_act_150 (by decide) rfl ?_
        have h_67 : w66 137 = rA G 6 12 F7 := (hf66 137 (by decide)).trans h137
        obtain ⟨kd, hkd⟩ : ∃ z : Nat, r65 = (z : Int) := ⟨(r65).toNat, by omega⟩
        have loop1 : ∀ (n1 : Nat) (i : Nat) (F : Nat → Option Nat) (u1 : Nat → va_E), (13 < n1 + i) → (kd ≤ i) → ((i : Int) ≤ g 2 - 1 ∨ i = kd) → (∀ j : Nat, (j < kd → F j = F7 j) ∧ (kd ≤ j → j < i → F j = F7 (j + 1)) ∧ (i ≤ j → F j = F7 j)) → (u1 0 = .inr (11, [.ref (kad G 1), .ref (kad G 32), .ref (kad G 3), .ref (kad G 37), vI sv, .ref (kad G 44), .ref (kad G 10), .ref (kad G 116), .ref (kad G 129), .ref (kad G 132)])) → (u1 134 = .inr (12, [vI (g 0), vI (g 1), vI (g 2 - 1), vI (g 3), vI (g 4), vI (g 5), vI (g 6), vI (g 7), vI (g 8), .ref (kad G 135), .ref (kad G 136), .ref (kad G 137)])) → (u1 135 = rA G 6 6 F5) → (u1 136 = rA G 6 8 F6) → (u1 137 = rA G 6 12 F) → (kLog G u1 3 g) → (kPlan G u1 32 g nl) → (kCht G u1) → ((∀ j, (j ≠ 134 ∧ j ≠ 137) → u1 j = w j)) → KW p l e R s m args below meth c 7 G Q u1 fl 0 0 152 [(6, vI (i : Int)), (5, vI r65), (4, vI y_2), (3, vI r1), (0, .ref (kad G 0)), (1, .ref (kad G 134)), (2, vI v)] [] := by
          intro n1
          induction n1 with
          | zero =>
            intro i F u1 hn_1 hi hi2 hFi h0x h4x h5x h6x h7x hLx hPx hCx hfr1
            exact absurd hn_1 (by omega)
          | succ n1 ih1 =>
            intro i F u1 hn_1 hi hi2 hFi h0x h4x h5x h6x h7x hLx hPx hCx hfr1
            refine k_iload hC dL_act_152 0 rfl ?_
            refine k_aload_n hC dL_act_154 rfl 5 rfl ?_
            refine k_getN hC fd_L_63 (kl2 hM (by decide)) h4x rfl dL_act_155 ?_
            refine k_icmp_ge hC 183 dL_act_158 rfl (by omega) (by omega) (fun c_158 => ?_) (fun c_158 => ?_)
            · refine k_aload_n hC dL_act_183 rfl 4 rfl ?_
              refine k_iload hC dL_act_184 1 rfl ?_
              refine k_callV hC (n_X11_drop l hls G hN u1 fl g nl sv hs nx cn r65 (by omega) hnx hcn (hHi.fr (fun j q1 q2 => hfr1 j (by omega))) hI h0x hLx hPx hCx (by omega)) yy_X11_drop wm_L_139 (kl hN (by decide)) h0x rfl rfl rfl rfl (Nat.le_of_ble_eq_true rfl) (by decide) (by decide) ⟨by decide, by decide⟩ dL_act_186 (fun v68 w68 fl68 hp68 => ?_)
              obtain ⟨-, q1, q2, hp68⟩ := hp68
              subst q1
              subst q2
              obtain ⟨hLg, hHg, hfg⟩ := hp68
              refine k_topv (vI (g 2 - 1)) (congrArg vI (rfl)) ?_
              show KW p l e R s m args below meth c 7 G Q w68 fl 0 0 189 [(6, vI (i : Int)), (5, vI r65), (4, vI y_2), (3, vI r1), (0, .ref (kad G 0)), (1, .ref (kad G 134)), (2, vI v)] [vI (g 2 - 1)]
              refine k_aload_n hC dL_act_189 rfl 5 rfl ?_
              have h_69 : w68 134 = .inr (12, [vI (g 0), vI (g 1), vI (g 2 - 1), vI (g 3), vI (g 4), vI (g 5), vI (g 6), vI (g 7), vI (g 8), .ref (kad G 135), .ref (kad G 136), .ref (kad G 137)]) := (hfg 134 (by omega)).trans h4x
              refine k_getN hC fd_L_63 (kl2 hM (by decide)) h_69 rfl dL_act_190 ?_
              refine k_icmp_ne hC 200 dL_act_193 rfl (by omega) (by omega) (fun c_193 => absurd rfl c_193) (fun c_193 => ?_)
              refine k_iconst hC dL_act_196 ?_
              refine k_goto hC 201 dL_act_197 rfl ?_
              have h_70 : w68 135 = rA G 6 6 F5 := (hfg 135 (by omega)).trans h5x
              have h_71 : w68 136 = rA G 6 8 F6 := (hfg 136 (by omega)).trans h6x
              have h_72 : w68 137 = rA G 6 12 F := (hfg 137 (by omega)).trans h7x
              subst hQ
              exact k_iret hC hr ⟨by decide, by decide⟩ (⟨_, rfl, Or.inr ⟨rfl, dropM g kd, hI.drop (by omega), pl_drop _ _, ow_drop hF5 hF6 hF7 hI kd F (fun j => ⟨(hFi j).1, fun q1 q2 => (hFi j).2.1 q1 (by omega)⟩) h_69 h_70 h_71 h_72, (by rw [hkd] at hLg; exact hLg), hHg, fun j hj => (hfg j (by omega)).trans (hfr1 j (by omega))⟩⟩) dL_act_201
            · refine k_aload_n hC dL_act_161 rfl 5 rfl ?_
              refine k_getN hC fd_L_66 (kl2 hM (by decide)) h4x rfl dL_act_162 ?_
              refine k_iload hC dL_act_165 0 rfl ?_
              refine k_aload_n hC dL_act_167 rfl 5 rfl ?_
              refine k_getN hC fd_L_66 (kl2 hM (by decide)) h4x rfl dL_act_168 ?_
              refine k_iload hC dL_act_171 0 rfl ?_
              refine k_iconst hC dL_act_173 ?_
              refine k_iadd hC dL_act_174 ?_
              refine k_topv (vI (((i + 1 : Nat) : Int))) (congrArg vI (by omega)) ?_
              obtain ⟨qd, jd, fd, hqd, hjd, -⟩ := hF7 (i + 1) (by omega)
              refine k_aaldA hC (v := .ref qd) (kl2 hM (by decide)) h7x (by omega) (by decide) (congrArg va_rf (((hFi (i + 1)).2.2 (by omega)).trans hqd)) dL_act_175 ?_
              refine k_aastA hC jd (kl2 hM (by decide)) h7x hjd (by omega) (by decide) dL_act_176 (fun w73 hw73 hf73 => ?_)
              refine k_iinc hC (y := (i : Int) + 1) [(6, vI ((i : Int) + 1)), (5, vI r65), (4, vI y_2), (3, vI r1), (0, .ref (kad G 0)), (1, .ref (kad G 134)), (2, vI v)] (j := 0) dL_act_177 rfl (by omega) (by decide) rfl ?_
              refine k_goto hC 152 dL_act_180 rfl ?_
              refine k_lvs (ls := [0, 1, 2, 3, 4, 5, 6]) [(6, vI ((i + 1 : Nat) : Int)), (5, vI r65), (4, vI y_2), (3, vI r1), (0, .ref (kad G 0)), (1, .ref (kad G 134)), (2, vI v)] (by simp only [lv_pick]; rfl) ?_
              have h_74 : w73 0 = .inr (11, [.ref (kad G 1), .ref (kad G 32), .ref (kad G 3), .ref (kad G 37), vI sv, .ref (kad G 44), .ref (kad G 10), .ref (kad G 116), .ref (kad G 129), .ref (kad G 132)]) := (hf73 0 (by decide)).trans h0x
              have h_75 : w73 134 = .inr (12, [vI (g 0), vI (g 1), vI (g 2 - 1), vI (g 3), vI (g 4), vI (g 5), vI (g 6), vI (g 7), vI (g 8), .ref (kad G 135), .ref (kad G 136), .ref (kad G 137)]) := (hf73 134 (by decide)).trans h4x
              have h_76 : w73 135 = rA G 6 6 F5 := (hf73 135 (by decide)).trans h5x
              have h_77 : w73 136 = rA G 6 8 F6 := (hf73 136 (by decide)).trans h6x
              have hB_78 : kLog G w73 3 g := hLx.fr (fun j q1 q2 => (hf73 j (by omega)))
              have hB_79 : kPlan G w73 32 g nl := hPx.fr (fun j q1 q2 => (hf73 j (by omega)))
              have hB_80 : kCht G w73 := hCx.fr (fun j q1 q2 => (hf73 j (by omega)))
              exact ih1 (i + 1) (va_up F i (some qd)) w73 (by omega) (by omega) (by omega) (fun j => ⟨fun q => by rw [← (hFi j).1 q]; simp [va_up, show ¬ j = i by omega], fun q1 q2 => by by_cases e : j = i; (rw [e]; rw [← hqd] ; exact va_up_self _ _ _); (rw [← (hFi j).2.1 q1 (by omega)]; simp [va_up, e]), fun q => by rw [← (hFi j).2.2 (by omega)]; simp [va_up, show ¬ j = i by omega]⟩) h_74 h_75 h_76 h_77 hw73 hB_78 hB_79 hB_80 (fun j hj => (hf73 j (by omega)).trans (hfr1 j (by omega)))
        refine k_lvs (ls := [0, 1, 2, 3, 4, 5, 6]) [(6, vI (kd : Int)), (5, vI r65), (4, vI y_2), (3, vI r1), (0, .ref (kad G 0)), (1, .ref (kad G 134)), (2, vI v)] (by rw [hkd]; simp only [lv_pick]; rfl) ?_
        have h_81 : w66 0 = .inr (11, [.ref (kad G 1), .ref (kad G 32), .ref (kad G 3), .ref (kad G 37), vI sv, .ref (kad G 44), .ref (kad G 10), .ref (kad G 116), .ref (kad G 129), .ref (kad G 132)]) := (hf66 0 (by decide)).trans h00
        have h_82 : w66 135 = rA G 6 6 F5 := (hf66 135 (by decide)).trans h135
        have h_83 : w66 136 = rA G 6 8 F6 := (hf66 136 (by decide)).trans h136
        have hB_84 : kLog G w66 3 g := hL.fr (fun j q1 q2 => (hf66 j (by omega)))
        have hB_85 : kPlan G w66 32 g nl := hP.fr (fun j q1 q2 => (hf66 j (by omega)))
        have hB_86 : kCht G w66 := hCt.fr (fun j q1 q2 => (hf66 j (by omega)))
        exact loop1 14 kd F7 w66 (by omega) (by omega) (by omega) (fun j => ⟨fun _ => rfl, fun q1 q2 => absurd q2 (by omega), fun _ => rfl⟩) h_81 hw66 h_82 h_83 h_67 hB_84 hB_85 hB_86 (fun j hj => hf66 j (by omega))
      · refine k_iconst hC dL_act_125 ?_
        subst hQ
        exact k_iret hC hr ⟨by decide, by decide⟩ (⟨_, rfl, Or.inl ⟨rfl, rfl, hE0⟩⟩) dL_act_126
  · refine k_aload_n hC dL_act_17 rfl 3 rfl ?_
    refine k_iload hC dL_act_18 0 rfl ?_
    refine k_callS hC (c_L_sight l hls G hM w fl y_2 g (by omega) h134) yy_L_sight wm_L_69 rfl rfl (Nat.le_of_ble_eq_true rfl) (by decide) (by decide) ⟨by decide, by decide⟩ dL_act_20 (fun v87 w87 fl87 hp87 => ?_)
    obtain ⟨q87, f87, q1, q2, q3, hv87⟩ := hp87
    subst q1
    subst q2
    subst q3
    show KW p l e R s m args below meth c 7 G Q w (fl ++ [(q87, iA G 3 f87)]) 1 3 23 [(4, vI y_2), (3, vI r1), (0, .ref (kad G 0)), (1, .ref (kad G 134)), (2, vI v)] [.ref q87]
    refine k_astore hC [(5, .ref q87), (4, vI y_2), (3, vI r1), (0, .ref (kad G 0)), (1, .ref (kad G 134)), (2, vI v)] dL_act_23 (by decide) rfl ?_
    refine k_aload_n hC dL_act_25 rfl 4 rfl ?_
    refine k_getN hC fd_L_63 (kl2 hM (by decide)) h134 rfl dL_act_26 ?_
    refine k_bipush hC dL_act_29 (by decide) ?_
    refine k_icmp_ne hC 61 dL_act_31 rfl (by omega) (by omega) (fun c_31 => ?_) (fun c_31 => ?_)
    · refine k_aload_n hC dL_act_61 rfl 4 rfl ?_
      refine k_getN hC fd_L_66 (kl2 hM (by decide)) h134 rfl dL_act_62 ?_
      refine k_aload_n hC dL_act_65 rfl 4 rfl ?_
      refine k_getN hC fd_L_63 (kl2 hM (by decide)) h134 rfl dL_act_66 ?_
      refine k_aload hC dL_act_69 0 rfl ?_
      refine k_aastA hC fl.length (kl2 hM (by decide)) h137 (by rw [List.getElem?_append_right (Nat.le_refl _), Nat.sub_self]; rfl) (by omega) (by decide) dL_act_71 (fun w88 hw88 hf88 => ?_)
      refine k_aload_n hC dL_act_72 rfl 4 rfl ?_
      refine k_dup hC dL_act_73 rfl ?_
      have h_89 : w88 134 = .inr (12, [vI (g 0), vI (g 1), vI (g 2), vI (g 3), vI (g 4), vI (g 5), vI (g 6), vI (g 7), vI (g 8), .ref (kad G 135), .ref (kad G 136), .ref (kad G 137)]) := (hf88 134 (by decide)).trans h134
      refine k_getN hC fd_L_63 (kl2 hM (by decide)) h_89 rfl dL_act_74 ?_
      refine k_iconst hC dL_act_77 ?_
      refine k_iadd hC dL_act_78 ?_
      refine k_putO hC (i := 2) wf_L_63 (by decide) rfl rfl (kl2 hM (by decide)) h_89 [vI (g 0), vI (g 1), vI ((g 2) + 1), vI (g 3), vI (g 4), vI (g 5), vI (g 6), vI (g 7), vI (g 8), .ref (kad G 135), .ref (kad G 136), .ref (kad G 137)] rfl (Nat.le_of_ble_eq_true rfl) rfl rfl dL_act_79 (fun w90 hw90 hf90 => ?_)
      refine k_aload_n hC dL_act_82 rfl 3 rfl ?_
      refine k_aload hC dL_act_83 0 rfl ?_
      refine k_iconst hC dL_act_85 ?_
      refine k_ialdF hC (f := f87) fl.length (by rw [List.getElem?_append_right (Nat.le_refl _), Nat.sub_self]; rfl) (by decide) (by decide) dL_act_86 ?_
      refine k_topv (vI (f87 0)) rfl ?_
      refine k_aload hC dL_act_87 0 rfl ?_
      refine k_iconst hC dL_act_89 ?_
      refine k_ialdF hC (f := f87) fl.length (by rw [List.getElem?_append_right (Nat.le_refl _), Nat.sub_self]; rfl) (by decide) (by decide) dL_act_90 ?_
      refine k_topv (vI (f87 1)) rfl ?_
      refine k_aload hC dL_act_91 0 rfl ?_
      refine k_iconst hC dL_act_93 ?_
      refine k_ialdF hC (f := f87) fl.length (by rw [List.getElem?_append_right (Nat.le_refl _), Nat.sub_self]; rfl) (by decide) (by decide) dL_act_94 ?_
      refine k_topv (vI (f87 2)) rfl ?_
      have h_92 : w90 0 = .inr (11, [.ref (kad G 1), .ref (kad G 32), .ref (kad G 3), .ref (kad G 37), vI sv, .ref (kad G 44), .ref (kad G 10), .ref (kad G 116), .ref (kad G 129), .ref (kad G 132)]) := (hf90 0 (by decide)).trans ((hf88 0 (by decide)).trans h00)
      have hB_93 : kLog G w90 3 g := hL.fr (fun j q1 q2 => (hf90 j (by omega)).trans (hf88 j (by omega)))
      have hB_94 : kPlan G w90 32 g nl := hP.fr (fun j q1 q2 => (hf90 j (by omega)).trans (hf88 j (by omega)))
      have hB_95 : kCht G w90 := hCt.fr (fun j q1 q2 => (hf90 j (by omega)).trans (hf88 j (by omega)))
      refine k_callV hC (n_X11_observe l hls G hN w90 (fl ++ [(q87, iA G 3 f87)]) g nl sv hs nx cn (f87 0) (f87 1) (f87 2) (by omega) (by omega) (by omega) hnx hcn (hHi.fr (fun j q1 q2 => (hf90 j (by omega)).trans (hf88 j (by omega)))) hI h_92 hB_93 hB_94 hB_95 (by omega)) yy_X11_observe wm_L_135 (kl hN (by decide)) h_92 rfl rfl rfl rfl (Nat.le_of_ble_eq_true rfl) (by decide) (by decide) ⟨by decide, by decide⟩ dL_act_95 (fun v91 w91 fl91 hp91 => ?_)
      obtain ⟨-, q1, q2, hp91⟩ := hp91
      subst q1
      subst q2
      obtain ⟨-, hLg, hHg, hfg⟩ := hp91.resolve_left (fun q => by omega)
      refine k_topv (vI (g 2)) (congrArg vI (if_neg (by omega))) ?_
      show KW p l e R s m args below meth c 7 G Q w91 (fl ++ [(q87, iA G 3 f87)]) 1 3 98 [(5, .ref q87), (4, vI y_2), (3, vI r1), (0, .ref (kad G 0)), (1, .ref (kad G 134)), (2, vI v)] [vI (g 2)]
      refine k_aload_n hC dL_act_98 rfl 4 rfl ?_
      have h_96 : w91 134 = .inr (12, [vI (g 0), vI (g 1), vI ((g 2) + 1), vI (g 3), vI (g 4), vI (g 5), vI (g 6), vI (g 7), vI (g 8), .ref (kad G 135), .ref (kad G 136), .ref (kad G 137)]) := (hfg 134 (by omega)).trans hw90
      refine k_getN hC fd_L_63 (kl2 hM (by decide)) h_96 rfl dL_act_99 ?_
      refine k_iconst hC dL_act_102 ?_
      refine k_isub hC dL_act_103 ?_
      refine k_icmp_ne hC 111 dL_act_104 rfl (by omega) (by omega) (fun c_104 => absurd (show g 2 = g 2 + 1 - 1 by omega) c_104) (fun c_104 => ?_)
      refine k_iconst hC dL_act_107 ?_
      refine k_goto hC 112 dL_act_108 rfl ?_
      have h_97 : w91 135 = rA G 6 6 F5 := (hfg 135 (by omega)).trans ((hf90 135 (by decide)).trans ((hf88 135 (by decide)).trans h135))
      have h_98 : w91 136 = rA G 6 8 F6 := (hfg 136 (by omega)).trans ((hf90 136 (by decide)).trans ((hf88 136 (by decide)).trans h136))
      have h_99 : w91 137 = rA G 6 12 (va_up F7 (g 2).toNat (some q87)) := (hfg 137 (by omega)).trans ((hf90 137 (by decide)).trans hw88)
      subst hQ
      exact k_iret hC hr ⟨by decide, by decide⟩ (⟨_, rfl, Or.inr ⟨rfl, addSightM g (f87 0) (f87 1) (f87 2), hI.addSight (by omega) (by omega) (by omega) (by omega), pl_sight _ _ _ _, ow_sight hF5 hF6 hF7 hI q87 f87 h_96 h_97 h_98 h_99, hLg, hHg, fun j hj => (hfg j (by omega)).trans ((hf90 j (by omega)).trans (hf88 j (by omega)))⟩⟩) dL_act_112
    · refine k_aload_n hC dL_act_34 rfl 3 rfl ?_
      refine k_aload hC dL_act_35 0 rfl ?_
      refine k_iconst hC dL_act_37 ?_
      refine k_ialdF hC (f := f87) fl.length (by rw [List.getElem?_append_right (Nat.le_refl _), Nat.sub_self]; rfl) (by decide) (by decide) dL_act_38 ?_
      refine k_topv (vI (f87 0)) rfl ?_
      refine k_aload hC dL_act_39 0 rfl ?_
      refine k_iconst hC dL_act_41 ?_
      refine k_ialdF hC (f := f87) fl.length (by rw [List.getElem?_append_right (Nat.le_refl _), Nat.sub_self]; rfl) (by decide) (by decide) dL_act_42 ?_
      refine k_topv (vI (f87 1)) rfl ?_
      refine k_aload hC dL_act_43 0 rfl ?_
      refine k_iconst hC dL_act_45 ?_
      refine k_ialdF hC (f := f87) fl.length (by rw [List.getElem?_append_right (Nat.le_refl _), Nat.sub_self]; rfl) (by decide) (by decide) dL_act_46 ?_
      refine k_topv (vI (f87 2)) rfl ?_
      refine k_callV hC (n_X11_observe l hls G hN w (fl ++ [(q87, iA G 3 f87)]) g nl sv hs nx cn (f87 0) (f87 1) (f87 2) (by omega) (by omega) (by omega) hnx hcn (hHi.fr (fun j q1 q2 => rfl)) hI h00 hL hP hCt (by omega)) yy_X11_observe wm_L_135 (kl hN (by decide)) h00 rfl rfl rfl rfl (Nat.le_of_ble_eq_true rfl) (by decide) (by decide) ⟨by decide, by decide⟩ dL_act_47 (fun v100 w100 fl100 hp100 => ?_)
      obtain ⟨-, q1, q2, hp100⟩ := hp100
      subst q1
      subst q2
      obtain ⟨-, q3⟩ := hp100.resolve_right (fun q => q.1 (by omega))
      have q4 := q3.symm
      subst q4
      refine k_topv (vI (-2)) (congrArg vI (if_pos (by omega))) ?_
      show KW p l e R s m args below meth c 7 G Q w (fl ++ [(q87, iA G 3 f87)]) 1 3 50 [(5, .ref q87), (4, vI y_2), (3, vI r1), (0, .ref (kad G 0)), (1, .ref (kad G 134)), (2, vI v)] [vI (-2)]
      refine k_bipush hC dL_act_50 (by decide) ?_
      refine k_icmp_ne hC 59 dL_act_52 rfl (by omega) (by omega) (fun c_52 => absurd c_52 (by omega)) (fun c_52 => ?_)
      refine k_iconst hC dL_act_55 ?_
      refine k_goto hC 60 dL_act_56 rfl ?_
      subst hQ
      exact k_iret hC hr ⟨by decide, by decide⟩ (⟨_, rfl, Or.inl ⟨rfl, rfl, hE0.ap⟩⟩) dL_act_60

