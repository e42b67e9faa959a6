set_option maxRecDepth 100000 in
set_option maxHeartbeats 8000000 in
theorem c_L_drawn (l : Launch) (hls : l.stackTraces = false) (G : kG) (hG : kN G = 134) (hL9 : kL G ≤ 260) (w : Nat → va_E) (fl : va_W) (fr : Int) (hfr : 0 ≤ fr ∧ fr ≤ 100) : KM l G yL_drawn cL_drawn 7 (some ((FieldType.object "SightReducerLaw$Own"))) 2 19 83 [.ref (kb G), vI fr] w fl (fun v w1 fl1 => ∃ (ad : Nat → Nat) (fl2 : va_W), fl1 = (List.range 4).map (fun i => (ad i, w1 (kN G + i))) ++ fl2 ∧ drPo (kgro G 4 ad) w v w1 fl2) := by
  refine KM_of2 hls (by decide +kernel) rfl (lv0 := [(0, .ref (kb G)), (1, vI fr)]) rfl (Nat.le_of_ble_eq_true rfl) (fun p e R s m args below meth c Q hC hr hQ => ?_)
  refine c_new hC (T := TX12) (N := 12) (ci := 12) (ty := tyX12) (fs := ow0) rfl uu_X12 tyX12_ok ⟨wl_L_20, wb_X12, wz_X12⟩ (fun j hj => by match j, hj with | 0, _ => rfl | 1, _ => rfl | 2, _ => rfl | 3, _ => rfl | 4, _ => rfl | 5, _ => rfl | 6, _ => rfl | 7, _ => rfl | 8, _ => rfl | 9, _ => rfl | 10, _ => rfl | 11, _ => rfl | k + 12, h => exact absurd h (by omega)) ⟨by decide, by decide⟩ dL_drawn_0 (fun q => ?_)
  refine k_dup hC dL_drawn_3 rfl ?_
  refine k_callIN hC (c_X12_init l hls G w (fl ++ [(q, .inr (12, ow0))]) fl.length q (by rw [List.getElem?_append_right (Nat.le_refl _), Nat.sub_self]; rfl)) yi_X12_init wm_L_22 rfl rfl (Nat.le_of_ble_eq_true rfl) (by decide) (by decide) ⟨by decide, by decide⟩ dL_drawn_4 (fun v1 w1 fl1 hp => ?_)
  obtain ⟨q1, q2, a0, a1, a2, q3⟩ := hp
  subst q1
  subst q2
  have q4 : fl1 = fl ++ [(q, .inr (12, [vI 0, vI 0, vI 0, vI 0, vI 0, vI 0, vI 0, vI 0, vI 0, .ref a0, .ref a1, .ref a2])), (a0, rA G 6 6 (fun _ => none)), (a1, rA G 6 8 (fun _ => none)), (a2, rA G 6 12 (fun _ => none))] := by
    rw [q3, List.set_append_right _ _ (Nat.le_refl _), Nat.sub_self, List.append_assoc]; rfl
  subst q4
  have hW : ∃ W1 : Nat → va_E, W1 = fun k => if k = 134 then .inr (12, [vI 0, vI 0, vI 0, vI 0, vI 0, vI 0, vI 0, vI 0, vI 0, .ref a0, .ref a1, .ref a2]) else if k = 135 then rA G 6 6 (fun _ => none) else if k = 136 then rA G 6 8 (fun _ => none) else if k = 137 then rA G 6 12 (fun _ => none) else w k := ⟨_, rfl⟩
  obtain ⟨W1, hW1⟩ := hW
  have ha : ∃ ad : Nat → Nat, ad = fun i => ([q, a0, a1, a2] : List Nat).getD i 0 := ⟨_, rfl⟩
  obtain ⟨ad, had⟩ := ha
  have e0 : ∀ i, kad (kgro G 4 ad) (134 + i) = ad i := fun i => by have h := kgro_new (G := G) (n := 4) (ad := ad) i; rw [hG] at h; exact h
  have e134 : kad (kgro G 4 ad) 134 = q := (e0 0).trans (by rw [had]; rfl)
  have e135 : kad (kgro G 4 ad) 135 = a0 := (e0 1).trans (by rw [had]; rfl)
  have e136 : kad (kgro G 4 ad) 136 = a1 := (e0 2).trans (by rw [had]; rfl)
  have e137 : kad (kgro G 4 ad) 137 = a2 := (e0 3).trans (by rw [had]; rfl)
  have hw : ∀ j, (j < 134 ∨ 137 < j) → W1 j = w j := fun j hj => by rw [hW1]; show (if _ then _ else _) = _; rw [if_neg (by omega), if_neg (by omega), if_neg (by omega), if_neg (by omega)]
  have hL : (List.range 4).map (fun i => (ad i, W1 (kN G + i))) = [(q, .inr (12, [vI 0, vI 0, vI 0, vI 0, vI 0, vI 0, vI 0, vI 0, vI 0, .ref a0, .ref a1, .ref a2])), (a0, rA G 6 6 (fun _ => none)), (a1, rA G 6 8 (fun _ => none)), (a2, rA G 6 12 (fun _ => none))] := by
    rw [hG, had, hW1]; rfl
  refine k_flby ([(q, .inr (12, [vI 0, vI 0, vI 0, vI 0, vI 0, vI 0, vI 0, vI 0, vI 0, .ref a0, .ref a1, .ref a2])), (a0, rA G 6 6 (fun _ => none)), (a1, rA G 6 8 (fun _ => none)), (a2, rA G 6 12 (fun _ => none))] ++ fl) (fun k => if k < 4 then fl.length + k else k - 4) (fun k x h => ?_) (fun i j hi hj h => ?_) ?_
  · by_cases hk : k < 4
    · rw [List.getElem?_append_left (by exact hk)] at h
      show (fl ++ _)[if k < 4 then _ else _]? = _
      rw [if_pos hk, List.getElem?_append_right (by omega), Nat.add_sub_cancel_left]; exact h
    · rw [List.getElem?_append_right (by show 4 ≤ k; omega)] at h
      have h2 : fl[k - 4]? = some x := h
      show (fl ++ _)[if k < 4 then _ else _]? = _
      rw [if_neg hk, List.getElem?_append_left (List.getElem?_eq_some_iff.mp h2).1]; exact h2
  · have h2 : (if i < 4 then fl.length + i else i - 4) = (if j < 4 then fl.length + j else j - 4) := h
    have li : i < 4 + fl.length := by rw [List.length_append] at hi; exact hi
    have lj : j < 4 + fl.length := by rw [List.length_append] at hj; exact hj
    split at h2 <;> split at h2 <;> omega
  refine k_sw (G1 := kgro G 4 ad) (w1 := W1) (fl1 := fl) rfl rfl (by rw [kgro_ws, hL]; exact kws_w (fun k hk => hw k (by omega))) ?_
  subst hQ
  refine k_ungro (post1 := drPo (kgro G 4 ad) W1) (fun v w1 fl1 h => ⟨ad, fl1, rfl, ?_⟩) ?_
  · obtain ⟨h1, g, h2, h3, h4⟩ := h
    exact ⟨h1, g, h2, h3, fun j hj => (h4 j hj).trans (hw j hj)⟩
  have key := dr_body (e := e) (Q := MQ below (kQ (kgro G 4 ad) (drPo (kgro G 4 ad) W1)) args s 19 83 (kA (kgro G 4 ad))) hls (kgro G 4 ad) (by show 138 ≤ kN G + 4; omega) hL9 W1 fl fr hfr (by rw [e135, e136, e137, hW1]; rfl) (by rw [hW1]; rfl) (by rw [hW1]; rfl) (by rw [hW1]; rfl) (kC_gro hC 4 ad) hr rfl
  rw [e134] at key
  exact key
