theorem logO_of {G : kG} {w : Nat → va_E} {b : Nat} {g : Nat → Int} {a1 a2 a5 a6 a7 a8 : Int} (h : w b = .inr (4, [vI a5, vI a6, vI a7, vI a8, vI a1, .ref (kad G (b + 1)), .ref (kad G (b + 2)), .ref (kad G (b + 3)), vI a2, .ref (kad G (b + 4)), .ref (kad G (b + 5)), .ref (kad G (b + 6))])) (e5 : a5 = g 5) (e6 : a6 = g 6) (e7 : a7 = g 7) (e8 : a8 = g 8) (e1 : a1 = g 1) (e2 : a2 = g 2) : w b = logO G b g := by
  subst e1; subst e2; subst e5; subst e6; subst e7; subst e8; exact h
def addLegM (g : Nat → Int) (t co s : Int) : Nat → Int := fun j => if j = 1 then g 1 + 1 else if j = 33 + 3 * (g 1).toNat then t else if j = 34 + 3 * (g 1).toNat then co else if j = 35 + 3 * (g 1).toNat then s else g j
def addSightM (g : Nat → Int) (b t a : Int) : Nat → Int := fun j => if j = 2 then g 2 + 1 else if j = 57 + 3 * (g 2).toNat then b else if j = 58 + 3 * (g 2).toNat then t else if j = 59 + 3 * (g 2).toNat then a else g j
def dropM (g : Nat → Int) (i : Nat) : Nat → Int := fun j => if j = 2 then g 2 - 1 else if 57 + 3 * i ≤ j ∧ (j : Int) < 57 + 3 * (g 2 - 1) then g (j + 3) else g j
def clrLM (g : Nat → Int) : Nat → Int := fun j => if j = 1 ∨ j = 2 ∨ (5 ≤ j ∧ j ≤ 8) then 0 else g j
def copyLM (g h : Nat → Int) : Nat → Int := fun j => if j = 1 ∨ j = 2 ∨ (5 ≤ j ∧ j ≤ 8) ∨ 33 ≤ j then h j else g j
def cntM (g : Nat → Int) (b : Int) : Nat → Int
  | 0 => 0
  | n + 1 => cntM g b n + (if g (57 + 3 * n) = b then 1 else 0)
theorem cntM_b (g : Nat → Int) (b : Int) : ∀ n : Nat, 0 ≤ cntM g b n ∧ cntM g b n ≤ n := by
  intro n; induction n with
  | zero => exact ⟨by show (0 : Int) ≤ 0; omega, by show (0 : Int) ≤ 0; omega⟩
  | succ n ih => unfold cntM; split <;> omega
set_option maxRecDepth 100000 in
set_option maxHeartbeats 4000000 in
theorem c_X4_dip (l : Launch) (hls : l.stackTraces = false) (G : kG) (hN : 133 ≤ kN G) (w : Nat → va_E) (fl : va_W) (b : Nat) (g : Nat → Int) (hb : b + 6 < 133) (h5 : 0 ≤ g 5 ∧ g 5 ≤ 50) (hL : kLog G w b g) : KM l G yX4_dip cX4_dip 1 (some (FieldType.int)) 1 0 0 [.ref (kad G b)] w fl (kPure (vI (dipM g)) w fl) := by
  refine KM_of2 hls (by decide +kernel) rfl (lv0 := [(0, .ref (kad G b))]) rfl (Nat.le_of_ble_eq_true rfl) (fun p e R s m args below meth c Q hC hr hQ => ?_)
  refine k_ldc2 hC (x := 3) (v := 3) dX4_dip_0 (by decide) wk_X4_53 ?_
  refine k_aload_n hC dX4_dip_3 rfl 0 rfl ?_
  refine k_get hC fd_X4_30 (kl hN (by omega)) hL.1 rfl dX4_dip_4 ?_
  refine k_i2l hC dX4_dip_7 (by omega) ?_
  refine k_lmul hC dX4_dip_8 ?_
  refine k_pureSN hC (c_X11_rootOf l hls G hN w fl (3 * (g 5)) (by omega)) yy_X11_rootOf wm_X4_55 rfl rfl (Nat.le_of_ble_eq_true rfl) (by decide) (by decide) ⟨by decide, by decide⟩ dX4_dip_9 ?_
  subst hQ
  exact k_iret hC hr ⟨by decide, by decide⟩ (⟨congrArg (fun z => some (vI z)) (show (dipM g : Int) = rootM (3 * (g 5)) from rfl), rfl, rfl⟩) dX4_dip_12

set_option maxRecDepth 100000 in
set_option maxHeartbeats 4000000 in
theorem c_X4_lastLegTime (l : Launch) (hls : l.stackTraces = false) (G : kG) (hN : 133 ≤ kN G) (w : Nat → va_E) (fl : va_W) (b : Nat) (g : Nat → Int) (hb : b + 6 < 133) (h1 : 0 ≤ g 1 ∧ g 1 ≤ 8) (hL : kLog G w b g) : KM l G yX4_lastLegTime cX4_lastLegTime 1 (some (FieldType.int)) 1 0 0 [.ref (kad G b)] w fl (kPure (vI (if g 1 = 0 then -1 else g (33 + 3 * (g 1 - 1).toNat))) w fl) := by
  refine KM_of2 hls (by decide +kernel) rfl (lv0 := [(0, .ref (kad G b))]) rfl (Nat.le_of_ble_eq_true rfl) (fun p e R s m args below meth c Q hC hr hQ => ?_)
  refine k_aload_n hC dX4_lastLegTime_0 rfl 0 rfl ?_
  refine k_get hC fd_X4_43 (kl hN (by omega)) hL.1 rfl dX4_lastLegTime_1 ?_
  refine k_if_ne hC 11 dX4_lastLegTime_4 rfl (by omega) (fun c_4 => ?_) (fun c_4 => ?_)
  · refine k_aload_n hC dX4_lastLegTime_11 rfl 0 rfl ?_
    refine k_get hC fd_X4_9 (kl hN (by omega)) hL.1 rfl dX4_lastLegTime_12 ?_
    refine k_aload_n hC dX4_lastLegTime_15 rfl 0 rfl ?_
    refine k_get hC fd_X4_43 (kl hN (by omega)) hL.1 rfl dX4_lastLegTime_16 ?_
    refine k_iconst hC dX4_lastLegTime_19 ?_
    refine k_isub hC dX4_lastLegTime_20 ?_
    refine k_pureSN hC (c_X11_at l hls G hN w fl (b + 1) ((g 1) - 1) 8 (fun j => g (33 + 3 * j)) (by omega) (by omega) (by decide) hL.2.1) yy_X11_at wm_X4_59 rfl rfl (Nat.le_of_ble_eq_true rfl) (by decide) (by decide) ⟨by decide, by decide⟩ dX4_lastLegTime_21 ?_
    refine k_topv (vI (g (33 + 3 * (((g 1) - 1).toNat)))) rfl ?_
    subst hQ
    exact k_iret hC hr ⟨by decide, by decide⟩ (⟨congrArg (fun z => some (vI z)) (show (if g 1 = 0 then -1 else g (33 + 3 * (g 1 - 1).toNat) : Int) = g (33 + 3 * (((g 1) - 1).toNat)) from by first | rw [if_pos (by omega)] | rw [if_neg (by omega)]), rfl, rfl⟩) dX4_lastLegTime_24
  · refine k_iconst hC dX4_lastLegTime_7 ?_
    refine k_goto hC 24 dX4_lastLegTime_8 rfl ?_
    subst hQ
    exact k_iret hC hr ⟨by decide, by decide⟩ (⟨congrArg (fun z => some (vI z)) (show (if g 1 = 0 then -1 else g (33 + 3 * (g 1 - 1).toNat) : Int) = -1 from by first | rw [if_pos (by omega)] | rw [if_neg (by omega)]), rfl, rfl⟩) dX4_lastLegTime_24

set_option maxRecDepth 100000 in
set_option maxHeartbeats 4000000 in
theorem c_X4_addLeg (l : Launch) (hls : l.stackTraces = false) (G : kG) (hN : 133 ≤ kN G) (w : Nat → va_E) (fl : va_W) (b : Nat) (g : Nat → Int) (t co u : Int) (hb : b + 6 < 133) (h1 : 0 ≤ g 1 ∧ g 1 < 8) (hL : kLog G w b g) : KM l G yX4_addLeg cX4_addLeg 4 (none) 1 0 0 [.ref (kad G b), vI t, vI co, vI u] w fl (kMuv fl (fun w1 => kLog G w1 b (addLegM g t co u) ∧ ∀ j, (j < b ∨ b + 6 < j) → w1 j = w j)) := by
  refine KM_of2 hls (by decide +kernel) rfl (lv0 := [(0, .ref (kad G b)), (1, vI t), (2, vI co), (3, vI u)]) rfl (Nat.le_of_ble_eq_true rfl) (fun p e R s m args below meth c Q hC hr hQ => ?_)
  refine k_aload_n hC dX4_addLeg_0 rfl 0 rfl ?_
  refine k_get hC fd_X4_43 (kl hN (by omega)) hL.1 rfl dX4_addLeg_1 ?_
  refine k_bipush hC dX4_addLeg_4 (by decide) ?_
  refine k_icmp_ge hC 55 dX4_addLeg_6 rfl (by omega) (by omega) (fun c_6 => absurd c_6 (by omega)) (fun c_6 => ?_)
  refine k_aload_n hC dX4_addLeg_9 rfl 0 rfl ?_
  refine k_get hC fd_X4_9 (kl hN (by omega)) hL.1 rfl dX4_addLeg_10 ?_
  refine k_aload_n hC dX4_addLeg_13 rfl 0 rfl ?_
  refine k_get hC fd_X4_43 (kl hN (by omega)) hL.1 rfl dX4_addLeg_14 ?_
  refine k_iload_n hC dX4_addLeg_17 rfl 1 rfl ?_
  refine k_muvSN hC (c_X11_put l hls G hN w fl (b + 1) (g 1) t 8 (fun j => g (33 + 3 * j)) (by omega) (by omega) (by decide) hL.2.1) yy_X11_put wm_X4_63 rfl rfl (Nat.le_of_ble_eq_true rfl) (by decide) (by decide) ⟨by decide, by decide⟩ dX4_addLeg_18 (fun w1 hp1 => ?_)
  obtain ⟨hw1, hf1⟩ := hp1
  refine k_aload_n hC dX4_addLeg_21 rfl 0 rfl ?_
  have h_2 : w1 b = .inr (4, [vI (g 5), vI (g 6), vI (g 7), vI (g 8), vI (g 1), .ref (kad G (b + 1)), .ref (kad G (b + 2)), .ref (kad G (b + 3)), vI (g 2), .ref (kad G (b + 4)), .ref (kad G (b + 5)), .ref (kad G (b + 6))]) := (hf1 b (by omega)).trans hL.1
  refine k_get hC fd_X4_15 (kl hN (by omega)) h_2 rfl dX4_addLeg_22 ?_
  refine k_aload_n hC dX4_addLeg_25 rfl 0 rfl ?_
  refine k_get hC fd_X4_43 (kl hN (by omega)) h_2 rfl dX4_addLeg_26 ?_
  refine k_iload_n hC dX4_addLeg_29 rfl 2 rfl ?_
  have h_3 : w1 (b + 2) = iA G 8 (fun j => g (34 + 3 * j)) := (hf1 (b + 2) (by omega)).trans hL.2.2.1
  refine k_muvSN hC (c_X11_put l hls G hN w1 fl (b + 2) (g 1) co 8 (fun j => g (34 + 3 * j)) (by omega) (by omega) (by decide) h_3) yy_X11_put wm_X4_63 rfl rfl (Nat.le_of_ble_eq_true rfl) (by decide) (by decide) ⟨by decide, by decide⟩ dX4_addLeg_30 (fun w4 hp4 => ?_)
  obtain ⟨hw4, hf4⟩ := hp4
  refine k_aload_n hC dX4_addLeg_33 rfl 0 rfl ?_
  have h_5 : w4 b = .inr (4, [vI (g 5), vI (g 6), vI (g 7), vI (g 8), vI (g 1), .ref (kad G (b + 1)), .ref (kad G (b + 2)), .ref (kad G (b + 3)), vI (g 2), .ref (kad G (b + 4)), .ref (kad G (b + 5)), .ref (kad G (b + 6))]) := (hf4 b (by omega)).trans h_2
  refine k_get hC fd_X4_18 (kl hN (by omega)) h_5 rfl dX4_addLeg_34 ?_
  refine k_aload_n hC dX4_addLeg_37 rfl 0 rfl ?_
  refine k_get hC fd_X4_43 (kl hN (by omega)) h_5 rfl dX4_addLeg_38 ?_
  refine k_iload_n hC dX4_addLeg_41 rfl 3 rfl ?_
  have h_6 : w4 (b + 3) = iA G 8 (fun j => g (35 + 3 * j)) := (hf4 (b + 3) (by omega)).trans ((hf1 (b + 3) (by omega)).trans hL.2.2.2.1)
  refine k_muvSN hC (c_X11_put l hls G hN w4 fl (b + 3) (g 1) u 8 (fun j => g (35 + 3 * j)) (by omega) (by omega) (by decide) h_6) yy_X11_put wm_X4_63 rfl rfl (Nat.le_of_ble_eq_true rfl) (by decide) (by decide) ⟨by decide, by decide⟩ dX4_addLeg_42 (fun w7 hp7 => ?_)
  obtain ⟨hw7, hf7⟩ := hp7
  refine k_aload_n hC dX4_addLeg_45 rfl 0 rfl ?_
  refine k_dup hC dX4_addLeg_46 rfl ?_
  have h_8 : w7 b = .inr (4, [vI (g 5), vI (g 6), vI (g 7), vI (g 8), vI (g 1), .ref (kad G (b + 1)), .ref (kad G (b + 2)), .ref (kad G (b + 3)), vI (g 2), .ref (kad G (b + 4)), .ref (kad G (b + 5)), .ref (kad G (b + 6))]) := (hf7 b (by omega)).trans h_5
  refine k_get hC fd_X4_43 (kl hN (by omega)) h_8 rfl dX4_addLeg_47 ?_
  refine k_iconst hC dX4_addLeg_50 ?_
  refine k_iadd hC dX4_addLeg_51 ?_
  refine k_put hC fd_X4_43 (kl hN (by omega)) h_8 [vI (g 5), vI (g 6), vI (g 7), vI (g 8), vI ((g 1) + 1), .ref (kad G (b + 1)), .ref (kad G (b + 2)), .ref (kad G (b + 3)), vI (g 2), .ref (kad G (b + 4)), .ref (kad G (b + 5)), .ref (kad G (b + 6))] rfl (Nat.le_of_ble_eq_true rfl) rfl rfl dX4_addLeg_52 (fun w9 hw9 hf9 => ?_)
  have h_10 : w9 (b + 1) = iA G 8 (kup (fun j => g (33 + 3 * j)) (g 1).toNat t) := (hf9 (b + 1) (by omega)).trans ((hf7 (b + 1) (by omega)).trans ((hf4 (b + 1) (by omega)).trans hw1))
  have h_11 : w9 (b + 2) = iA G 8 (kup (fun j => g (34 + 3 * j)) (g 1).toNat co) := (hf9 (b + 2) (by omega)).trans ((hf7 (b + 2) (by omega)).trans hw4)
  have h_12 : w9 (b + 3) = iA G 8 (kup (fun j => g (35 + 3 * j)) (g 1).toNat u) := (hf9 (b + 3) (by omega)).trans hw7
  have h_13 : w9 (b + 4) = iA G 12 (fun j => g (57 + 3 * j)) := (hf9 (b + 4) (by omega)).trans ((hf7 (b + 4) (by omega)).trans ((hf4 (b + 4) (by omega)).trans ((hf1 (b + 4) (by omega)).trans hL.2.2.2.2.1)))
  have h_14 : w9 (b + 5) = iA G 12 (fun j => g (58 + 3 * j)) := (hf9 (b + 5) (by omega)).trans ((hf7 (b + 5) (by omega)).trans ((hf4 (b + 5) (by omega)).trans ((hf1 (b + 5) (by omega)).trans hL.2.2.2.2.2.1)))
  have h_15 : w9 (b + 6) = iA G 12 (fun j => g (59 + 3 * j)) := (hf9 (b + 6) (by omega)).trans ((hf7 (b + 6) (by omega)).trans ((hf4 (b + 6) (by omega)).trans ((hf1 (b + 6) (by omega)).trans hL.2.2.2.2.2.2)))
  subst hQ
  exact k_vret hC hr ⟨by decide, by decide⟩ (⟨rfl, rfl, ⟨logO_of hw9 (by simp only [addLegM, kup]; repeat (first | omega | rfl | split | (congr 1; omega))) (by simp only [addLegM, kup]; repeat (first | omega | rfl | split | (congr 1; omega))) (by simp only [addLegM, kup]; repeat (first | omega | rfl | split | (congr 1; omega))) (by simp only [addLegM, kup]; repeat (first | omega | rfl | split | (congr 1; omega))) (by simp only [addLegM, kup]; repeat (first | omega | rfl | split | (congr 1; omega))) (by simp only [addLegM, kup]; repeat (first | omega | rfl | split | (congr 1; omega))), h_10.trans (iA_congr (fun j hj => by simp only [addLegM, kup]; repeat (first | omega | rfl | split | (congr 1; omega)))), h_11.trans (iA_congr (fun j hj => by simp only [addLegM, kup]; repeat (first | omega | rfl | split | (congr 1; omega)))), h_12.trans (iA_congr (fun j hj => by simp only [addLegM, kup]; repeat (first | omega | rfl | split | (congr 1; omega)))), h_13.trans (iA_congr (fun j hj => by simp only [addLegM, kup]; repeat (first | omega | rfl | split | (congr 1; omega)))), h_14.trans (iA_congr (fun j hj => by simp only [addLegM, kup]; repeat (first | omega | rfl | split | (congr 1; omega)))), h_15.trans (iA_congr (fun j hj => by simp only [addLegM, kup]; repeat (first | omega | rfl | split | (congr 1; omega))))⟩, fun j hj => (hf9 j (by omega)).trans ((hf7 j (by omega)).trans ((hf4 j (by omega)).trans (hf1 j (by omega))))⟩) dX4_addLeg_55

set_option maxRecDepth 100000 in
set_option maxHeartbeats 4000000 in
theorem c_X4_addSight (l : Launch) (hls : l.stackTraces = false) (G : kG) (hN : 133 ≤ kN G) (w : Nat → va_E) (fl : va_W) (b : Nat) (g : Nat → Int) (t co u : Int) (hb : b + 6 < 133) (h1 : 0 ≤ g 2 ∧ g 2 < 12) (hL : kLog G w b g) : KM l G yX4_addSight cX4_addSight 4 (none) 1 0 0 [.ref (kad G b), vI t, vI co, vI u] w fl (kMuv fl (fun w1 => kLog G w1 b (addSightM g t co u) ∧ ∀ j, (j < b ∨ b + 6 < j) → w1 j = w j)) := by
  refine KM_of2 hls (by decide +kernel) rfl (lv0 := [(0, .ref (kad G b)), (1, vI t), (2, vI co), (3, vI u)]) rfl (Nat.le_of_ble_eq_true rfl) (fun p e R s m args below meth c Q hC hr hQ => ?_)
  refine k_aload_n hC dX4_addSight_0 rfl 0 rfl ?_
  refine k_get hC fd_X4_46 (kl hN (by omega)) hL.1 rfl dX4_addSight_1 ?_
  refine k_bipush hC dX4_addSight_4 (by decide) ?_
  refine k_icmp_ge hC 55 dX4_addSight_6 rfl (by omega) (by omega) (fun c_6 => absurd c_6 (by omega)) (fun c_6 => ?_)
  refine k_aload_n hC dX4_addSight_9 rfl 0 rfl ?_
  refine k_get hC fd_X4_21 (kl hN (by omega)) hL.1 rfl dX4_addSight_10 ?_
  refine k_aload_n hC dX4_addSight_13 rfl 0 rfl ?_
  refine k_get hC fd_X4_46 (kl hN (by omega)) hL.1 rfl dX4_addSight_14 ?_
  refine k_iload_n hC dX4_addSight_17 rfl 1 rfl ?_
  refine k_muvSN hC (c_X11_put l hls G hN w fl (b + 4) (g 2) t 12 (fun j => g (57 + 3 * j)) (by omega) (by omega) (by decide) hL.2.2.2.2.1) yy_X11_put wm_X4_63 rfl rfl (Nat.le_of_ble_eq_true rfl) (by decide) (by decide) ⟨by decide, by decide⟩ dX4_addSight_18 (fun w1 hp1 => ?_)
  obtain ⟨hw1, hf1⟩ := hp1
  refine k_aload_n hC dX4_addSight_21 rfl 0 rfl ?_
  have h_2 : w1 b = .inr (4, [vI (g 5), vI (g 6), vI (g 7), vI (g 8), vI (g 1), .ref (kad G (b + 1)), .ref (kad G (b + 2)), .ref (kad G (b + 3)), vI (g 2), .ref (kad G (b + 4)), .ref (kad G (b + 5)), .ref (kad G (b + 6))]) := (hf1 b (by omega)).trans hL.1
  refine k_get hC fd_X4_24 (kl hN (by omega)) h_2 rfl dX4_addSight_22 ?_
  refine k_aload_n hC dX4_addSight_25 rfl 0 rfl ?_
  refine k_get hC fd_X4_46 (kl hN (by omega)) h_2 rfl dX4_addSight_26 ?_
  refine k_iload_n hC dX4_addSight_29 rfl 2 rfl ?_
  have h_3 : w1 (b + 5) = iA G 12 (fun j => g (58 + 3 * j)) := (hf1 (b + 5) (by omega)).trans hL.2.2.2.2.2.1
  refine k_muvSN hC (c_X11_put l hls G hN w1 fl (b + 5) (g 2) co 12 (fun j => g (58 + 3 * j)) (by omega) (by omega) (by decide) h_3) yy_X11_put wm_X4_63 rfl rfl (Nat.le_of_ble_eq_true rfl) (by decide) (by decide) ⟨by decide, by decide⟩ dX4_addSight_30 (fun w4 hp4 => ?_)
  obtain ⟨hw4, hf4⟩ := hp4
  refine k_aload_n hC dX4_addSight_33 rfl 0 rfl ?_
  have h_5 : w4 b = .inr (4, [vI (g 5), vI (g 6), vI (g 7), vI (g 8), vI (g 1), .ref (kad G (b + 1)), .ref (kad G (b + 2)), .ref (kad G (b + 3)), vI (g 2), .ref (kad G (b + 4)), .ref (kad G (b + 5)), .ref (kad G (b + 6))]) := (hf4 b (by omega)).trans h_2
  refine k_get hC fd_X4_27 (kl hN (by omega)) h_5 rfl dX4_addSight_34 ?_
  refine k_aload_n hC dX4_addSight_37 rfl 0 rfl ?_
  refine k_get hC fd_X4_46 (kl hN (by omega)) h_5 rfl dX4_addSight_38 ?_
  refine k_iload_n hC dX4_addSight_41 rfl 3 rfl ?_
  have h_6 : w4 (b + 6) = iA G 12 (fun j => g (59 + 3 * j)) := (hf4 (b + 6) (by omega)).trans ((hf1 (b + 6) (by omega)).trans hL.2.2.2.2.2.2)
  refine k_muvSN hC (c_X11_put l hls G hN w4 fl (b + 6) (g 2) u 12 (fun j => g (59 + 3 * j)) (by omega) (by omega) (by decide) h_6) yy_X11_put wm_X4_63 rfl rfl (Nat.le_of_ble_eq_true rfl) (by decide) (by decide) ⟨by decide, by decide⟩ dX4_addSight_42 (fun w7 hp7 => ?_)
  obtain ⟨hw7, hf7⟩ := hp7
  refine k_aload_n hC dX4_addSight_45 rfl 0 rfl ?_
  refine k_dup hC dX4_addSight_46 rfl ?_
  have h_8 : w7 b = .inr (4, [vI (g 5), vI (g 6), vI (g 7), vI (g 8), vI (g 1), .ref (kad G (b + 1)), .ref (kad G (b + 2)), .ref (kad G (b + 3)), vI (g 2), .ref (kad G (b + 4)), .ref (kad G (b + 5)), .ref (kad G (b + 6))]) := (hf7 b (by omega)).trans h_5
  refine k_get hC fd_X4_46 (kl hN (by omega)) h_8 rfl dX4_addSight_47 ?_
  refine k_iconst hC dX4_addSight_50 ?_
  refine k_iadd hC dX4_addSight_51 ?_
  refine k_put hC fd_X4_46 (kl hN (by omega)) h_8 [vI (g 5), vI (g 6), vI (g 7), vI (g 8), vI (g 1), .ref (kad G (b + 1)), .ref (kad G (b + 2)), .ref (kad G (b + 3)), vI ((g 2) + 1), .ref (kad G (b + 4)), .ref (kad G (b + 5)), .ref (kad G (b + 6))] rfl (Nat.le_of_ble_eq_true rfl) rfl rfl dX4_addSight_52 (fun w9 hw9 hf9 => ?_)
  have h_10 : w9 (b + 1) = iA G 8 (fun j => g (33 + 3 * j)) := (hf9 (b + 1) (by omega)).trans ((hf7 (b + 1) (by omega)).trans ((hf4 (b + 1) (by omega)).trans ((hf1 (b + 1) (by omega)).trans hL.2.1)))
  have h_11 : w9 (b + 2) = iA G 8 (fun j => g (34 + 3 * j)) := (hf9 (b + 2) (by omega)).trans ((hf7 (b + 2) (by omega)).trans ((hf4 (b + 2) (by omega)).trans ((hf1 (b + 2) (by omega)).trans hL.2.2.1)))
  have h_12 : w9 (b + 3) = iA G 8 (fun j => g (35 + 3 * j)) := (hf9 (b + 3) (by omega)).trans ((hf7 (b + 3) (by omega)).trans ((hf4 (b + 3) (by omega)).trans ((hf1 (b + 3) (by omega)).trans hL.2.2.2.1)))
  have h_13 : w9 (b + 4) = iA G 12 (kup (fun j => g (57 + 3 * j)) (g 2).toNat t) := (hf9 (b + 4) (by omega)).trans ((hf7 (b + 4) (by omega)).trans ((hf4 (b + 4) (by omega)).trans hw1))
  have h_14 : w9 (b + 5) = iA G 12 (kup (fun j => g (58 + 3 * j)) (g 2).toNat co) := (hf9 (b + 5) (by omega)).trans ((hf7 (b + 5) (by omega)).trans hw4)
  have h_15 : w9 (b + 6) = iA G 12 (kup (fun j => g (59 + 3 * j)) (g 2).toNat u) := (hf9 (b + 6) (by omega)).trans hw7
  subst hQ
  exact k_vret hC hr ⟨by decide, by decide⟩ (⟨rfl, rfl, ⟨logO_of hw9 (by simp only [addSightM, kup]; repeat (first | omega | rfl | split | (congr 1; omega))) (by simp only [addSightM, kup]; repeat (first | omega | rfl | split | (congr 1; omega))) (by simp only [addSightM, kup]; repeat (first | omega | rfl | split | (congr 1; omega))) (by simp only [addSightM, kup]; repeat (first | omega | rfl | split | (congr 1; omega))) (by simp only [addSightM, kup]; repeat (first | omega | rfl | split | (congr 1; omega))) (by simp only [addSightM, kup]; repeat (first | omega | rfl | split | (congr 1; omega))), h_10.trans (iA_congr (fun j hj => by simp only [addSightM, kup]; repeat (first | omega | rfl | split | (congr 1; omega)))), h_11.trans (iA_congr (fun j hj => by simp only [addSightM, kup]; repeat (first | omega | rfl | split | (congr 1; omega)))), h_12.trans (iA_congr (fun j hj => by simp only [addSightM, kup]; repeat (first | omega | rfl | split | (congr 1; omega)))), h_13.trans (iA_congr (fun j hj => by simp only [addSightM, kup]; repeat (first | omega | rfl | split | (congr 1; omega)))), h_14.trans (iA_congr (fun j hj => by simp only [addSightM, kup]; repeat (first | omega | rfl | split | (congr 1; omega)))), h_15.trans (iA_congr (fun j hj => by simp only [addSightM, kup]; repeat (first | omega | rfl | split | (congr 1; omega))))⟩, fun j hj => (hf9 j (by omega)).trans ((hf7 j (by omega)).trans ((hf4 j (by omega)).trans (hf1 j (by omega))))⟩) dX4_addSight_55

set_option maxRecDepth 100000 in
set_option maxHeartbeats 4000000 in
theorem c_X4_clear (l : Launch) (hls : l.stackTraces = false) (G : kG) (hN : 133 ≤ kN G) (w : Nat → va_E) (fl : va_W) (b : Nat) (g : Nat → Int) (hb : b + 6 < 133) (hL : kLog G w b g) : KM l G yX4_clear cX4_clear 1 (none) 0 0 0 [.ref (kad G b)] w fl (kMuv fl (fun w1 => kLog G w1 b (clrLM g) ∧ ∀ j, (j < b ∨ b + 6 < j) → w1 j = w j)) := by
  refine KM_of2 hls (by decide +kernel) rfl (lv0 := [(0, .ref (kad G b))]) rfl (Nat.le_of_ble_eq_true rfl) (fun p e R s m args below meth c Q hC hr hQ => ?_)
  refine k_aload_n hC dX4_clear_0 rfl 0 rfl ?_
  refine k_iconst hC dX4_clear_1 ?_
  refine k_put hC fd_X4_30 (kl hN (by omega)) hL.1 [vI 0, vI (g 6), vI (g 7), vI (g 8), vI (g 1), .ref (kad G (b + 1)), .ref (kad G (b + 2)), .ref (kad G (b + 3)), vI (g 2), .ref (kad G (b + 4)), .ref (kad G (b + 5)), .ref (kad G (b + 6))] rfl (Nat.le_of_ble_eq_true rfl) rfl rfl dX4_clear_2 (fun w1 hw1 hf1 => ?_)
  refine k_aload_n hC dX4_clear_5 rfl 0 rfl ?_
  refine k_iconst hC dX4_clear_6 ?_
  refine k_put hC fd_X4_34 (kl hN (by omega)) hw1 [vI 0, vI 0, vI (g 7), vI (g 8), vI (g 1), .ref (kad G (b + 1)), .ref (kad G (b + 2)), .ref (kad G (b + 3)), vI (g 2), .ref (kad G (b + 4)), .ref (kad G (b + 5)), .ref (kad G (b + 6))] rfl (Nat.le_of_ble_eq_true rfl) rfl rfl dX4_clear_7 (fun w2 hw2 hf2 => ?_)
  refine k_aload_n hC dX4_clear_10 rfl 0 rfl ?_
  refine k_iconst hC dX4_clear_11 ?_
  refine k_put hC fd_X4_37 (kl hN (by omega)) hw2 [vI 0, vI 0, vI 0, vI (g 8), vI (g 1), .ref (kad G (b + 1)), .ref (kad G (b + 2)), .ref (kad G (b + 3)), vI (g 2), .ref (kad G (b + 4)), .ref (kad G (b + 5)), .ref (kad G (b + 6))] rfl (Nat.le_of_ble_eq_true rfl) rfl rfl dX4_clear_12 (fun w3 hw3 hf3 => ?_)
  refine k_aload_n hC dX4_clear_15 rfl 0 rfl ?_
  refine k_iconst hC dX4_clear_16 ?_
  refine k_put hC fd_X4_40 (kl hN (by omega)) hw3 [vI 0, vI 0, vI 0, vI 0, vI (g 1), .ref (kad G (b + 1)), .ref (kad G (b + 2)), .ref (kad G (b + 3)), vI (g 2), .ref (kad G (b + 4)), .ref (kad G (b + 5)), .ref (kad G (b + 6))] rfl (Nat.le_of_ble_eq_true rfl) rfl rfl dX4_clear_17 (fun w4 hw4 hf4 => ?_)
  refine k_aload_n hC dX4_clear_20 rfl 0 rfl ?_
  refine k_iconst hC dX4_clear_21 ?_
  refine k_put hC fd_X4_43 (kl hN (by omega)) hw4 [vI 0, vI 0, vI 0, vI 0, vI 0, .ref (kad G (b + 1)), .ref (kad G (b + 2)), .ref (kad G (b + 3)), vI (g 2), .ref (kad G (b + 4)), .ref (kad G (b + 5)), .ref (kad G (b + 6))] rfl (Nat.le_of_ble_eq_true rfl) rfl rfl dX4_clear_22 (fun w5 hw5 hf5 => ?_)
  refine k_aload_n hC dX4_clear_25 rfl 0 rfl ?_
  refine k_iconst hC dX4_clear_26 ?_
  refine k_put hC fd_X4_46 (kl hN (by omega)) hw5 [vI 0, vI 0, vI 0, vI 0, vI 0, .ref (kad G (b + 1)), .ref (kad G (b + 2)), .ref (kad G (b + 3)), vI 0, .ref (kad G (b + 4)), .ref (kad G (b + 5)), .ref (kad G (b + 6))] rfl (Nat.le_of_ble_eq_true rfl) rfl rfl dX4_clear_27 (fun w6 hw6 hf6 => ?_)
  have h_7 : w6 (b + 1) = iA G 8 (fun j => g (33 + 3 * j)) := (hf6 (b + 1) (by omega)).trans ((hf5 (b + 1) (by omega)).trans ((hf4 (b + 1) (by omega)).trans ((hf3 (b + 1) (by omega)).trans ((hf2 (b + 1) (by omega)).trans ((hf1 (b + 1) (by omega)).trans hL.2.1)))))
  have h_8 : w6 (b + 2) = iA G 8 (fun j => g (34 + 3 * j)) := (hf6 (b + 2) (by omega)).trans ((hf5 (b + 2) (by omega)).trans ((hf4 (b + 2) (by omega)).trans ((hf3 (b + 2) (by omega)).trans ((hf2 (b + 2) (by omega)).trans ((hf1 (b + 2) (by omega)).trans hL.2.2.1)))))
  have h_9 : w6 (b + 3) = iA G 8 (fun j => g (35 + 3 * j)) := (hf6 (b + 3) (by omega)).trans ((hf5 (b + 3) (by omega)).trans ((hf4 (b + 3) (by omega)).trans ((hf3 (b + 3) (by omega)).trans ((hf2 (b + 3) (by omega)).trans ((hf1 (b + 3) (by omega)).trans hL.2.2.2.1)))))
  have h_10 : w6 (b + 4) = iA G 12 (fun j => g (57 + 3 * j)) := (hf6 (b + 4) (by omega)).trans ((hf5 (b + 4) (by omega)).trans ((hf4 (b + 4) (by omega)).trans ((hf3 (b + 4) (by omega)).trans ((hf2 (b + 4) (by omega)).trans ((hf1 (b + 4) (by omega)).trans hL.2.2.2.2.1)))))
  have h_11 : w6 (b + 5) = iA G 12 (fun j => g (58 + 3 * j)) := (hf6 (b + 5) (by omega)).trans ((hf5 (b + 5) (by omega)).trans ((hf4 (b + 5) (by omega)).trans ((hf3 (b + 5) (by omega)).trans ((hf2 (b + 5) (by omega)).trans ((hf1 (b + 5) (by omega)).trans hL.2.2.2.2.2.1)))))
  have h_12 : w6 (b + 6) = iA G 12 (fun j => g (59 + 3 * j)) := (hf6 (b + 6) (by omega)).trans ((hf5 (b + 6) (by omega)).trans ((hf4 (b + 6) (by omega)).trans ((hf3 (b + 6) (by omega)).trans ((hf2 (b + 6) (by omega)).trans ((hf1 (b + 6) (by omega)).trans hL.2.2.2.2.2.2)))))
  subst hQ
  exact k_vret hC hr ⟨by decide, by decide⟩ (⟨rfl, rfl, ⟨logO_of hw6 (by simp only [clrLM, kup]; repeat (first | omega | rfl | split | (congr 1; omega))) (by simp only [clrLM, kup]; repeat (first | omega | rfl | split | (congr 1; omega))) (by simp only [clrLM, kup]; repeat (first | omega | rfl | split | (congr 1; omega))) (by simp only [clrLM, kup]; repeat (first | omega | rfl | split | (congr 1; omega))) (by simp only [clrLM, kup]; repeat (first | omega | rfl | split | (congr 1; omega))) (by simp only [clrLM, kup]; repeat (first | omega | rfl | split | (congr 1; omega))), h_7.trans (iA_congr (fun j hj => by simp only [clrLM, kup]; repeat (first | omega | rfl | split | (congr 1; omega)))), h_8.trans (iA_congr (fun j hj => by simp only [clrLM, kup]; repeat (first | omega | rfl | split | (congr 1; omega)))), h_9.trans (iA_congr (fun j hj => by simp only [clrLM, kup]; repeat (first | omega | rfl | split | (congr 1; omega)))), h_10.trans (iA_congr (fun j hj => by simp only [clrLM, kup]; repeat (first | omega | rfl | split | (congr 1; omega)))), h_11.trans (iA_congr (fun j hj => by simp only [clrLM, kup]; repeat (first | omega | rfl | split | (congr 1; omega)))), h_12.trans (iA_congr (fun j hj => by simp only [clrLM, kup]; repeat (first | omega | rfl | split | (congr 1; omega))))⟩, fun j hj => (hf6 j (by omega)).trans ((hf5 j (by omega)).trans ((hf4 j (by omega)).trans ((hf3 j (by omega)).trans ((hf2 j (by omega)).trans (hf1 j (by omega))))))⟩) dX4_clear_30

set_option maxRecDepth 100000 in
set_option maxHeartbeats 4000000 in
theorem c_X4_copyFrom (l : Launch) (hls : l.stackTraces = false) (G : kG) (hN : 133 ≤ kN G) (w : Nat → va_E) (fl : va_W) (b d : Nat) (g h : Nat → Int) (hb : b + 6 < 133) (hd : d + 6 < 133) (hbd : b + 6 < d ∨ d + 6 < b) (hL : kLog G w b g) (hL2 : kLog G w d h) : KM l G yX4_copyFrom cX4_copyFrom 2 (none) 3 0 0 [.ref (kad G b), .ref (kad G d)] w fl (kMuv fl (fun w1 => kLog G w1 b (copyLM g h) ∧ ∀ j, (j < b ∨ b + 6 < j) → w1 j = w j)) := by
  refine KM_of2 hls (by decide +kernel) rfl (lv0 := [(0, .ref (kad G b)), (1, .ref (kad G d))]) rfl (Nat.le_of_ble_eq_true rfl) (fun p e R s m args below meth c Q hC hr hQ => ?_)
  refine k_aload_n hC dX4_copyFrom_0 rfl 0 rfl ?_
  refine k_aload_n hC dX4_copyFrom_1 rfl 1 rfl ?_
  refine k_get hC fd_X4_30 (kl hN (by omega)) hL2.1 rfl dX4_copyFrom_2 ?_
  refine k_put hC fd_X4_30 (kl hN (by omega)) hL.1 [vI (h 5), vI (g 6), vI (g 7), vI (g 8), vI (g 1), .ref (kad G (b + 1)), .ref (kad G (b + 2)), .ref (kad G (b + 3)), vI (g 2), .ref (kad G (b + 4)), .ref (kad G (b + 5)), .ref (kad G (b + 6))] rfl (Nat.le_of_ble_eq_true rfl) rfl rfl dX4_copyFrom_5 (fun w1 hw1 hf1 => ?_)
  refine k_aload_n hC dX4_copyFrom_8 rfl 0 rfl ?_
  refine k_aload_n hC dX4_copyFrom_9 rfl 1 rfl ?_
  have h_2 : w1 d = .inr (4, [vI (h 5), vI (h 6), vI (h 7), vI (h 8), vI (h 1), .ref (kad G (d + 1)), .ref (kad G (d + 2)), .ref (kad G (d + 3)), vI (h 2), .ref (kad G (d + 4)), .ref (kad G (d + 5)), .ref (kad G (d + 6))]) := (hf1 d (by omega)).trans hL2.1
  refine k_get hC fd_X4_34 (kl hN (by omega)) h_2 rfl dX4_copyFrom_10 ?_
  refine k_put hC fd_X4_34 (kl hN (by omega)) hw1 [vI (h 5), vI (h 6), vI (g 7), vI (g 8), vI (g 1), .ref (kad G (b + 1)), .ref (kad G (b + 2)), .ref (kad G (b + 3)), vI (g 2), .ref (kad G (b + 4)), .ref (kad G (b + 5)), .ref (kad G (b + 6))] rfl (Nat.le_of_ble_eq_true rfl) rfl rfl dX4_copyFrom_13 (fun w3 hw3 hf3 => ?_)
  refine k_aload_n hC dX4_copyFrom_16 rfl 0 rfl ?_
  refine k_aload_n hC dX4_copyFrom_17 rfl 1 rfl ?_
  have h_4 : w3 d = .inr (4, [vI (h 5), vI (h 6), vI (h 7), vI (h 8), vI (h 1), .ref (kad G (d + 1)), .ref (kad G (d + 2)), .ref (kad G (d + 3)), vI (h 2), .ref (kad G (d + 4)), .ref (kad G (d + 5)), .ref (kad G (d + 6))]) := (hf3 d (by omega)).trans h_2
  refine k_get hC fd_X4_37 (kl hN (by omega)) h_4 rfl dX4_copyFrom_18 ?_
  refine k_put hC fd_X4_37 (kl hN (by omega)) hw3 [vI (h 5), vI (h 6), vI (h 7), vI (g 8), vI (g 1), .ref (kad G (b + 1)), .ref (kad G (b + 2)), .ref (kad G (b + 3)), vI (g 2), .ref (kad G (b + 4)), .ref (kad G (b + 5)), .ref (kad G (b + 6))] rfl (Nat.le_of_ble_eq_true rfl) rfl rfl dX4_copyFrom_21 (fun w5 hw5 hf5 => ?_)
  refine k_aload_n hC dX4_copyFrom_24 rfl 0 rfl ?_
  refine k_aload_n hC dX4_copyFrom_25 rfl 1 rfl ?_
  have h_6 : w5 d = .inr (4, [vI (h 5), vI (h 6), vI (h 7), vI (h 8), vI (h 1), .ref (kad G (d + 1)), .ref (kad G (d + 2)), .ref (kad G (d + 3)), vI (h 2), .ref (kad G (d + 4)), .ref (kad G (d + 5)), .ref (kad G (d + 6))]) := (hf5 d (by omega)).trans h_4
  refine k_get hC fd_X4_40 (kl hN (by omega)) h_6 rfl dX4_copyFrom_26 ?_
  refine k_put hC fd_X4_40 (kl hN (by omega)) hw5 [vI (h 5), vI (h 6), vI (h 7), vI (h 8), vI (g 1), .ref (kad G (b + 1)), .ref (kad G (b + 2)), .ref (kad G (b + 3)), vI (g 2), .ref (kad G (b + 4)), .ref (kad G (b + 5)), .ref (kad G (b + 6))] rfl (Nat.le_of_ble_eq_true rfl) rfl rfl dX4_copyFrom_29 (fun w7 hw7 hf7 => ?_)
  refine k_aload_n hC dX4_copyFrom_32 rfl 0 rfl ?_
  refine k_aload_n hC dX4_copyFrom_33 rfl 1 rfl ?_
  have h_8 : w7 d = .inr (4, [vI (h 5), vI (h 6), vI (h 7), vI (h 8), vI (h 1), .ref (kad G (d + 1)), .ref (kad G (d + 2)), .ref (kad G (d + 3)), vI (h 2), .ref (kad G (d + 4)), .ref (kad G (d + 5)), .ref (kad G (d + 6))]) := (hf7 d (by omega)).trans h_6
  refine k_get hC fd_X4_43 (kl hN (by omega)) h_8 rfl dX4_copyFrom_34 ?_
  refine k_put hC fd_X4_43 (kl hN (by omega)) hw7 [vI (h 5), vI (h 6), vI (h 7), vI (h 8), vI (h 1), .ref (kad G (b + 1)), .ref (kad G (b + 2)), .ref (kad G (b + 3)), vI (g 2), .ref (kad G (b + 4)), .ref (kad G (b + 5)), .ref (kad G (b + 6))] rfl (Nat.le_of_ble_eq_true rfl) rfl rfl dX4_copyFrom_37 (fun w9 hw9 hf9 => ?_)
  refine k_aload_n hC dX4_copyFrom_40 rfl 1 rfl ?_
  have h_10 : w9 d = .inr (4, [vI (h 5), vI (h 6), vI (h 7), vI (h 8), vI (h 1), .ref (kad G (d + 1)), .ref (kad G (d + 2)), .ref (kad G (d + 3)), vI (h 2), .ref (kad G (d + 4)), .ref (kad G (d + 5)), .ref (kad G (d + 6))]) := (hf9 d (by omega)).trans h_8
  refine k_get hC fd_X4_9 (kl hN (by omega)) h_10 rfl dX4_copyFrom_41 ?_
  refine k_aload_n hC dX4_copyFrom_44 rfl 0 rfl ?_
  refine k_get hC fd_X4_9 (kl hN (by omega)) hw9 rfl dX4_copyFrom_45 ?_
  have hB_11 : kLog G w9 d h := hL2.fr (fun j q1 q2 => (hf9 j (by omega)).trans ((hf7 j (by omega)).trans ((hf5 j (by omega)).trans ((hf3 j (by omega)).trans (hf1 j (by omega))))))
  have h_12 : w9 (b + 1) = iA G 8 (fun j => g (33 + 3 * j)) := (hf9 (b + 1) (by omega)).trans ((hf7 (b + 1) (by omega)).trans ((hf5 (b + 1) (by omega)).trans ((hf3 (b + 1) (by omega)).trans ((hf1 (b + 1) (by omega)).trans hL.2.1))))
  refine k_muvSN hC (c_X11_copyRow l hls G hN w9 fl (d + 1) (b + 1) 8 (fun j => h (33 + 3 * j)) (fun j => g (33 + 3 * j)) (by omega) (by omega) (by decide) hB_11.2.1 h_12) yy_X11_copyRow wm_X4_49 rfl rfl (Nat.le_of_ble_eq_true rfl) (by decide) (by decide) ⟨by decide, by decide⟩ dX4_copyFrom_48 (fun w13 hp13 => ?_)
  obtain ⟨hw13, hf13⟩ := hp13
  refine k_aload_n hC dX4_copyFrom_51 rfl 1 rfl ?_
  have h_14 : w13 d = .inr (4, [vI (h 5), vI (h 6), vI (h 7), vI (h 8), vI (h 1), .ref (kad G (d + 1)), .ref (kad G (d + 2)), .ref (kad G (d + 3)), vI (h 2), .ref (kad G (d + 4)), .ref (kad G (d + 5)), .ref (kad G (d + 6))]) := (hf13 d (by omega)).trans h_10
  refine k_get hC fd_X4_15 (kl hN (by omega)) h_14 rfl dX4_copyFrom_52 ?_
  refine k_aload_n hC dX4_copyFrom_55 rfl 0 rfl ?_
  have h_15 : w13 b = .inr (4, [vI (h 5), vI (h 6), vI (h 7), vI (h 8), vI (h 1), .ref (kad G (b + 1)), .ref (kad G (b + 2)), .ref (kad G (b + 3)), vI (g 2), .ref (kad G (b + 4)), .ref (kad G (b + 5)), .ref (kad G (b + 6))]) := (hf13 b (by omega)).trans hw9
  refine k_get hC fd_X4_15 (kl hN (by omega)) h_15 rfl dX4_copyFrom_56 ?_
  have hB_16 : kLog G w13 d h := hB_11.fr (fun j q1 q2 => (hf13 j (by omega)))
  have h_17 : w13 (b + 2) = iA G 8 (fun j => g (34 + 3 * j)) := (hf13 (b + 2) (by omega)).trans ((hf9 (b + 2) (by omega)).trans ((hf7 (b + 2) (by omega)).trans ((hf5 (b + 2) (by omega)).trans ((hf3 (b + 2) (by omega)).trans ((hf1 (b + 2) (by omega)).trans hL.2.2.1)))))
  refine k_muvSN hC (c_X11_copyRow l hls G hN w13 fl (d + 2) (b + 2) 8 (fun j => h (34 + 3 * j)) (fun j => g (34 + 3 * j)) (by omega) (by omega) (by decide) hB_16.2.2.1 h_17) yy_X11_copyRow wm_X4_49 rfl rfl (Nat.le_of_ble_eq_true rfl) (by decide) (by decide) ⟨by decide, by decide⟩ dX4_copyFrom_59 (fun w18 hp18 => ?_)
  obtain ⟨hw18, hf18⟩ := hp18
  refine k_aload_n hC dX4_copyFrom_62 rfl 1 rfl ?_
  have h_19 : w18 d = .inr (4, [vI (h 5), vI (h 6), vI (h 7), vI (h 8), vI (h 1), .ref (kad G (d + 1)), .ref (kad G (d + 2)), .ref (kad G (d + 3)), vI (h 2), .ref (kad G (d + 4)), .ref (kad G (d + 5)), .ref (kad G (d + 6))]) := (hf18 d (by omega)).trans h_14
  refine k_get hC fd_X4_18 (kl hN (by omega)) h_19 rfl dX4_copyFrom_63 ?_
  refine k_aload_n hC dX4_copyFrom_66 rfl 0 rfl ?_
  have h_20 : w18 b = .inr (4, [vI (h 5), vI (h 6), vI (h 7), vI (h 8), vI (h 1), .ref (kad G (b + 1)), .ref (kad G (b + 2)), .ref (kad G (b + 3)), vI (g 2), .ref (kad G (b + 4)), .ref (kad G (b + 5)), .ref (kad G (b + 6))]) := (hf18 b (by omega)).trans h_15
  refine k_get hC fd_X4_18 (kl hN (by omega)) h_20 rfl dX4_copyFrom_67 ?_
  have hB_21 : kLog G w18 d h := hB_16.fr (fun j q1 q2 => (hf18 j (by omega)))
  have h_22 : w18 (b + 3) = iA G 8 (fun j => g (35 + 3 * j)) := (hf18 (b + 3) (by omega)).trans ((hf13 (b + 3) (by omega)).trans ((hf9 (b + 3) (by omega)).trans ((hf7 (b + 3) (by omega)).trans ((hf5 (b + 3) (by omega)).trans ((hf3 (b + 3) (by omega)).trans ((hf1 (b + 3) (by omega)).trans hL.2.2.2.1))))))
  refine k_muvSN hC (c_X11_copyRow l hls G hN w18 fl (d + 3) (b + 3) 8 (fun j => h (35 + 3 * j)) (fun j => g (35 + 3 * j)) (by omega) (by omega) (by decide) hB_21.2.2.2.1 h_22) yy_X11_copyRow wm_X4_49 rfl rfl (Nat.le_of_ble_eq_true rfl) (by decide) (by decide) ⟨by decide, by decide⟩ dX4_copyFrom_70 (fun w23 hp23 => ?_)
  obtain ⟨hw23, hf23⟩ := hp23
  refine k_aload_n hC dX4_copyFrom_73 rfl 0 rfl ?_
  refine k_aload_n hC dX4_copyFrom_74 rfl 1 rfl ?_
  have h_24 : w23 d = .inr (4, [vI (h 5), vI (h 6), vI (h 7), vI (h 8), vI (h 1), .ref (kad G (d + 1)), .ref (kad G (d + 2)), .ref (kad G (d + 3)), vI (h 2), .ref (kad G (d + 4)), .ref (kad G (d + 5)), .ref (kad G (d + 6))]) := (hf23 d (by omega)).trans h_19
  refine k_get hC fd_X4_46 (kl hN (by omega)) h_24 rfl dX4_copyFrom_75 ?_
  have h_25 : w23 b = .inr (4, [vI (h 5), vI (h 6), vI (h 7), vI (h 8), vI (h 1), .ref (kad G (b + 1)), .ref (kad G (b + 2)), .ref (kad G (b + 3)), vI (g 2), .ref (kad G (b + 4)), .ref (kad G (b + 5)), .ref (kad G (b + 6))]) := (hf23 b (by omega)).trans h_20
  refine k_put hC fd_X4_46 (kl hN (by omega)) h_25 [vI (h 5), vI (h 6), vI (h 7), vI (h 8), vI (h 1), .ref (kad G (b + 1)), .ref (kad G (b + 2)), .ref (kad G (b + 3)), vI (h 2), .ref (kad G (b + 4)), .ref (kad G (b + 5)), .ref (kad G (b + 6))] rfl (Nat.le_of_ble_eq_true rfl) rfl rfl dX4_copyFrom_78 (fun w26 hw26 hf26 => ?_)
  refine k_aload_n hC dX4_copyFrom_81 rfl 1 rfl ?_
  have h_27 : w26 d = .inr (4, [vI (h 5), vI (h 6), vI (h 7), vI (h 8), vI (h 1), .ref (kad G (d + 1)), .ref (kad G (d + 2)), .ref (kad G (d + 3)), vI (h 2), .ref (kad G (d + 4)), .ref (kad G (d + 5)), .ref (kad G (d + 6))]) := (hf26 d (by omega)).trans h_24
  refine k_get hC fd_X4_21 (kl hN (by omega)) h_27 rfl dX4_copyFrom_82 ?_
  refine k_aload_n hC dX4_copyFrom_85 rfl 0 rfl ?_
  refine k_get hC fd_X4_21 (kl hN (by omega)) hw26 rfl dX4_copyFrom_86 ?_
  have hB_28 : kLog G w26 d h := hB_21.fr (fun j q1 q2 => (hf26 j (by omega)).trans (hf23 j (by omega)))
  have h_29 : w26 (b + 4) = iA G 12 (fun j => g (57 + 3 * j)) := (hf26 (b + 4) (by omega)).trans ((hf23 (b + 4) (by omega)).trans ((hf18 (b + 4) (by omega)).trans ((hf13 (b + 4) (by omega)).trans ((hf9 (b + 4) (by omega)).trans ((hf7 (b + 4) (by omega)).trans ((hf5 (b + 4) (by omega)).trans ((hf3 (b + 4) (by omega)).trans ((hf1 (b + 4) (by omega)).trans hL.2.2.2.2.1))))))))
  refine k_muvSN hC (c_X11_copyRow l hls G hN w26 fl (d + 4) (b + 4) 12 (fun j => h (57 + 3 * j)) (fun j => g (57 + 3 * j)) (by omega) (by omega) (by decide) hB_28.2.2.2.2.1 h_29) yy_X11_copyRow wm_X4_49 rfl rfl (Nat.le_of_ble_eq_true rfl) (by decide) (by decide) ⟨by decide, by decide⟩ dX4_copyFrom_89 (fun w30 hp30 => ?_)
  obtain ⟨hw30, hf30⟩ := hp30
  refine k_aload_n hC dX4_copyFrom_92 rfl 1 rfl ?_
  have h_31 : w30 d = .inr (4, [vI (h 5), vI (h 6), vI (h 7), vI (h 8), vI (h 1), .ref (kad G (d + 1)), .ref (kad G (d + 2)), .ref (kad G (d + 3)), vI (h 2), .ref (kad G (d + 4)), .ref (kad G (d + 5)), .ref (kad G (d + 6))]) := (hf30 d (by omega)).trans h_27
  refine k_get hC fd_X4_24 (kl hN (by omega)) h_31 rfl dX4_copyFrom_93 ?_
  refine k_aload_n hC dX4_copyFrom_96 rfl 0 rfl ?_
  have h_32 : w30 b = .inr (4, [vI (h 5), vI (h 6), vI (h 7), vI (h 8), vI (h 1), .ref (kad G (b + 1)), .ref (kad G (b + 2)), .ref (kad G (b + 3)), vI (h 2), .ref (kad G (b + 4)), .ref (kad G (b + 5)), .ref (kad G (b + 6))]) := (hf30 b (by omega)).trans hw26
  refine k_get hC fd_X4_24 (kl hN (by omega)) h_32 rfl dX4_copyFrom_97 ?_
  have hB_33 : kLog G w30 d h := hB_28.fr (fun j q1 q2 => (hf30 j (by omega)))
  have h_34 : w30 (b + 5) = iA G 12 (fun j => g (58 + 3 * j)) := (hf30 (b + 5) (by omega)).trans ((hf26 (b + 5) (by omega)).trans ((hf23 (b + 5) (by omega)).trans ((hf18 (b + 5) (by omega)).trans ((hf13 (b + 5) (by omega)).trans ((hf9 (b + 5) (by omega)).trans ((hf7 (b + 5) (by omega)).trans ((hf5 (b + 5) (by omega)).trans ((hf3 (b + 5) (by omega)).trans ((hf1 (b + 5) (by omega)).trans hL.2.2.2.2.2.1)))))))))
  refine k_muvSN hC (c_X11_copyRow l hls G hN w30 fl (d + 5) (b + 5) 12 (fun j => h (58 + 3 * j)) (fun j => g (58 + 3 * j)) (by omega) (by omega) (by decide) hB_33.2.2.2.2.2.1 h_34) yy_X11_copyRow wm_X4_49 rfl rfl (Nat.le_of_ble_eq_true rfl) (by decide) (by decide) ⟨by decide, by decide⟩ dX4_copyFrom_100 (fun w35 hp35 => ?_)
  obtain ⟨hw35, hf35⟩ := hp35
  refine k_aload_n hC dX4_copyFrom_103 rfl 1 rfl ?_
  have h_36 : w35 d = .inr (4, [vI (h 5), vI (h 6), vI (h 7), vI (h 8), vI (h 1), .ref (kad G (d + 1)), .ref (kad G (d + 2)), .ref (kad G (d + 3)), vI (h 2), .ref (kad G (d + 4)), .ref (kad G (d + 5)), .ref (kad G (d + 6))]) := (hf35 d (by omega)).trans h_31
  refine k_get hC fd_X4_27 (kl hN (by omega)) h_36 rfl dX4_copyFrom_104 ?_
  refine k_aload_n hC dX4_copyFrom_107 rfl 0 rfl ?_
  have h_37 : w35 b = .inr (4, [vI (h 5), vI (h 6), vI (h 7), vI (h 8), vI (h 1), .ref (kad G (b + 1)), .ref (kad G (b + 2)), .ref (kad G (b + 3)), vI (h 2), .ref (kad G (b + 4)), .ref (kad G (b + 5)), .ref (kad G (b + 6))]) := (hf35 b (by omega)).trans h_32
  refine k_get hC fd_X4_27 (kl hN (by omega)) h_37 rfl dX4_copyFrom_108 ?_
  have hB_38 : kLog G w35 d h := hB_33.fr (fun j q1 q2 => (hf35 j (by omega)))
  have h_39 : w35 (b + 6) = iA G 12 (fun j => g (59 + 3 * j)) := (hf35 (b + 6) (by omega)).trans ((hf30 (b + 6) (by omega)).trans ((hf26 (b + 6) (by omega)).trans ((hf23 (b + 6) (by omega)).trans ((hf18 (b + 6) (by omega)).trans ((hf13 (b + 6) (by omega)).trans ((hf9 (b + 6) (by omega)).trans ((hf7 (b + 6) (by omega)).trans ((hf5 (b + 6) (by omega)).trans ((hf3 (b + 6) (by omega)).trans ((hf1 (b + 6) (by omega)).trans hL.2.2.2.2.2.2))))))))))
  refine k_muvSN hC (c_X11_copyRow l hls G hN w35 fl (d + 6) (b + 6) 12 (fun j => h (59 + 3 * j)) (fun j => g (59 + 3 * j)) (by omega) (by omega) (by decide) hB_38.2.2.2.2.2.2 h_39) yy_X11_copyRow wm_X4_49 rfl rfl (Nat.le_of_ble_eq_true rfl) (by decide) (by decide) ⟨by decide, by decide⟩ dX4_copyFrom_111 (fun w40 hp40 => ?_)
  obtain ⟨hw40, hf40⟩ := hp40
  have h_41 : w40 b = .inr (4, [vI (h 5), vI (h 6), vI (h 7), vI (h 8), vI (h 1), .ref (kad G (b + 1)), .ref (kad G (b + 2)), .ref (kad G (b + 3)), vI (h 2), .ref (kad G (b + 4)), .ref (kad G (b + 5)), .ref (kad G (b + 6))]) := (hf40 b (by omega)).trans h_37
  have h_42 : w40 (b + 1) = iA G 8 (fun j => h (33 + 3 * j)) := (hf40 (b + 1) (by omega)).trans ((hf35 (b + 1) (by omega)).trans ((hf30 (b + 1) (by omega)).trans ((hf26 (b + 1) (by omega)).trans ((hf23 (b + 1) (by omega)).trans ((hf18 (b + 1) (by omega)).trans hw13)))))
  have h_43 : w40 (b + 2) = iA G 8 (fun j => h (34 + 3 * j)) := (hf40 (b + 2) (by omega)).trans ((hf35 (b + 2) (by omega)).trans ((hf30 (b + 2) (by omega)).trans ((hf26 (b + 2) (by omega)).trans ((hf23 (b + 2) (by omega)).trans hw18))))
  have h_44 : w40 (b + 3) = iA G 8 (fun j => h (35 + 3 * j)) := (hf40 (b + 3) (by omega)).trans ((hf35 (b + 3) (by omega)).trans ((hf30 (b + 3) (by omega)).trans ((hf26 (b + 3) (by omega)).trans hw23)))
  have h_45 : w40 (b + 4) = iA G 12 (fun j => h (57 + 3 * j)) := (hf40 (b + 4) (by omega)).trans ((hf35 (b + 4) (by omega)).trans hw30)
  have h_46 : w40 (b + 5) = iA G 12 (fun j => h (58 + 3 * j)) := (hf40 (b + 5) (by omega)).trans hw35
  subst hQ
  exact k_vret hC hr ⟨by decide, by decide⟩ (⟨rfl, rfl, ⟨logO_of h_41 (by simp only [copyLM, kup]; repeat (first | omega | rfl | split | (congr 1; omega))) (by simp only [copyLM, kup]; repeat (first | omega | rfl | split | (congr 1; omega))) (by simp only [copyLM, kup]; repeat (first | omega | rfl | split | (congr 1; omega))) (by simp only [copyLM, kup]; repeat (first | omega | rfl | split | (congr 1; omega))) (by simp only [copyLM, kup]; repeat (first | omega | rfl | split | (congr 1; omega))) (by simp only [copyLM, kup]; repeat (first | omega | rfl | split | (congr 1; omega))), h_42.trans (iA_congr (fun j hj => by simp only [copyLM, kup]; repeat (first | omega | rfl | split | (congr 1; omega)))), h_43.trans (iA_congr (fun j hj => by simp only [copyLM, kup]; repeat (first | omega | rfl | split | (congr 1; omega)))), h_44.trans (iA_congr (fun j hj => by simp only [copyLM, kup]; repeat (first | omega | rfl | split | (congr 1; omega)))), h_45.trans (iA_congr (fun j hj => by simp only [copyLM, kup]; repeat (first | omega | rfl | split | (congr 1; omega)))), h_46.trans (iA_congr (fun j hj => by simp only [copyLM, kup]; repeat (first | omega | rfl | split | (congr 1; omega)))), hw40.trans (iA_congr (fun j hj => by simp only [copyLM, kup]; repeat (first | omega | rfl | split | (congr 1; omega))))⟩, fun j hj => (hf40 j (by omega)).trans ((hf35 j (by omega)).trans ((hf30 j (by omega)).trans ((hf26 j (by omega)).trans ((hf23 j (by omega)).trans ((hf18 j (by omega)).trans ((hf13 j (by omega)).trans ((hf9 j (by omega)).trans ((hf7 j (by omega)).trans ((hf5 j (by omega)).trans ((hf3 j (by omega)).trans (hf1 j (by omega))))))))))))⟩) dX4_copyFrom_114

def shF (f : Nat → Int) (i k : Nat) : Nat → Int := fun j => if i ≤ j ∧ j + 1 < k then f (j + 1) else f j
set_option maxRecDepth 100000 in
set_option maxHeartbeats 4000000 in
theorem c_X4_removeSight (l : Launch) (hls : l.stackTraces = false) (G : kG) (hN : 133 ≤ kN G) (w : Nat → va_E) (fl : va_W) (b : Nat) (g : Nat → Int) (i : Nat) (hb : b + 6 < 133) (h2 : 0 ≤ g 2 ∧ g 2 ≤ 12) (hi : (i : Int) < g 2) (hL : kLog G w b g) : KM l G yX4_removeSight cX4_removeSight 3 (none) 1 0 0 [.ref (kad G b), vI (i : Int)] w fl (kMuv fl (fun w1 => kLog G w1 b (dropM g i) ∧ ∀ j, (j < b ∨ b + 6 < j) → w1 j = w j)) := by
  refine KM_of2 hls (by decide +kernel) rfl (lv0 := [(0, .ref (kad G b)), (1, vI (i : Int))]) rfl (Nat.le_of_ble_eq_true rfl) (fun p e R s m args below meth c Q hC hr hQ => ?_)
  refine k_iload_n hC dX4_removeSight_0 rfl 1 rfl ?_
  refine k_iconst hC dX4_removeSight_1 ?_
  refine k_iadd hC dX4_removeSight_2 ?_
  refine k_istore_n hC [(2, vI ((i : Int) + 1)), (0, .ref (kad G b)), (1, vI (i : Int))] dX4_removeSight_3 rfl (by decide) rfl ?_
  have loop : ∀ (n : Nat) (k : Nat) (u : Nat → va_E), ((g 2).toNat ≤ n + k) → (i + 1 ≤ k ∧ (k : Int) ≤ g 2) → (u b = .inr (4, [vI (g 5), vI (g 6), vI (g 7), vI (g 8), vI (g 1), .ref (kad G (b + 1)), .ref (kad G (b + 2)), .ref (kad G (b + 3)), vI (g 2), .ref (kad G (b + 4)), .ref (kad G (b + 5)), .ref (kad G (b + 6))])) → (u (b + 4) = iA G 12 (shF (fun j => g (57 + 3 * j)) i k)) → (u (b + 5) = iA G 12 (shF (fun j => g (58 + 3 * j)) i k)) → (u (b + 6) = iA G 12 (shF (fun j => g (59 + 3 * j)) i k)) → (u (b + 1) = iA G 8 (fun j => g (33 + 3 * j))) → (u (b + 2) = iA G 8 (fun j => g (34 + 3 * j))) → (u (b + 3) = iA G 8 (fun j => g (35 + 3 * j))) → ((∀ j, (j < b ∨ b + 6 < j) → u j = w j)) → KW p l e R s m args below meth c 3 G Q u fl 0 0 4 [(2, vI (k : Int)), (0, .ref (kad G b)), (1, vI (i : Int))] [] := by
    intro n
    induction n with
    | zero =>
      intro k u hn_ hk f0 f4 f5 f6 f1 f2 f3 hfr
      refine k_iload_n hC dX4_removeSight_4 rfl 0 rfl ?_
      refine k_aload_n hC dX4_removeSight_5 rfl 1 rfl ?_
      refine k_get hC fd_X4_46 (kl hN (by omega)) f0 rfl dX4_removeSight_6 ?_
      refine k_icmp_ge hC 72 dX4_removeSight_9 rfl (by omega) (by omega) (fun c_9 => ?_) (fun c_9 => absurd c_9 (by omega))
      refine k_aload_n hC dX4_removeSight_72 rfl 1 rfl ?_
      refine k_dup hC dX4_removeSight_73 rfl ?_
      refine k_get hC fd_X4_46 (kl hN (by omega)) f0 rfl dX4_removeSight_74 ?_
      refine k_iconst hC dX4_removeSight_77 ?_
      refine k_isub hC dX4_removeSight_78 ?_
      refine k_put hC fd_X4_46 (kl hN (by omega)) f0 [vI (g 5), vI (g 6), vI (g 7), vI (g 8), vI (g 1), .ref (kad G (b + 1)), .ref (kad G (b + 2)), .ref (kad G (b + 3)), vI ((g 2) - 1), .ref (kad G (b + 4)), .ref (kad G (b + 5)), .ref (kad G (b + 6))] rfl (Nat.le_of_ble_eq_true rfl) rfl rfl dX4_removeSight_79 (fun w1 hw1 hf1 => ?_)
      have h_2 : w1 (b + 1) = iA G 8 (fun j => g (33 + 3 * j)) := (hf1 (b + 1) (by omega)).trans f1
      have h_3 : w1 (b + 2) = iA G 8 (fun j => g (34 + 3 * j)) := (hf1 (b + 2) (by omega)).trans f2
      have h_4 : w1 (b + 3) = iA G 8 (fun j => g (35 + 3 * j)) := (hf1 (b + 3) (by omega)).trans f3
      have h_5 : w1 (b + 4) = iA G 12 (shF (fun j => g (57 + 3 * j)) i k) := (hf1 (b + 4) (by omega)).trans f4
      have h_6 : w1 (b + 5) = iA G 12 (shF (fun j => g (58 + 3 * j)) i k) := (hf1 (b + 5) (by omega)).trans f5
      have h_7 : w1 (b + 6) = iA G 12 (shF (fun j => g (59 + 3 * j)) i k) := (hf1 (b + 6) (by omega)).trans f6
      subst hQ
      exact k_vret hC hr ⟨by decide, by decide⟩ (⟨rfl, rfl, ⟨logO_of hw1 (by simp only [dropM, shF]; repeat (first | omega | rfl | split | (congr 1; omega))) (by simp only [dropM, shF]; repeat (first | omega | rfl | split | (congr 1; omega))) (by simp only [dropM, shF]; repeat (first | omega | rfl | split | (congr 1; omega))) (by simp only [dropM, shF]; repeat (first | omega | rfl | split | (congr 1; omega))) (by simp only [dropM, shF]; repeat (first | omega | rfl | split | (congr 1; omega))) (by simp only [dropM, shF]; repeat (first | omega | rfl | split | (congr 1; omega))), h_2.trans (iA_congr (fun j hj => by simp only [dropM, shF]; repeat (first | omega | rfl | split | (congr 1; omega)))), h_3.trans (iA_congr (fun j hj => by simp only [dropM, shF]; repeat (first | omega | rfl | split | (congr 1; omega)))), h_4.trans (iA_congr (fun j hj => by simp only [dropM, shF]; repeat (first | omega | rfl | split | (congr 1; omega)))), h_5.trans (iA_congr (fun j hj => by simp only [dropM, shF]; repeat (first | omega | rfl | split | (congr 1; omega)))), h_6.trans (iA_congr (fun j hj => by simp only [dropM, shF]; repeat (first | omega | rfl | split | (congr 1; omega)))), h_7.trans (iA_congr (fun j hj => by simp only [dropM, shF]; repeat (first | omega | rfl | split | (congr 1; omega))))⟩, fun j hj => (hf1 j (by omega)).trans (hfr j (by omega))⟩) dX4_removeSight_82
    | succ n ih =>
      intro k u hn_ hk f0 f4 f5 f6 f1 f2 f3 hfr
      refine k_iload_n hC dX4_removeSight_4 rfl 0 rfl ?_
      refine k_aload_n hC dX4_removeSight_5 rfl 1 rfl ?_
      refine k_get hC fd_X4_46 (kl hN (by omega)) f0 rfl dX4_removeSight_6 ?_
      refine k_icmp_ge hC 72 dX4_removeSight_9 rfl (by omega) (by omega) (fun c_9 => ?_) (fun c_9 => ?_)
      · refine k_aload_n hC dX4_removeSight_72 rfl 1 rfl ?_
        refine k_dup hC dX4_removeSight_73 rfl ?_
        refine k_get hC fd_X4_46 (kl hN (by omega)) f0 rfl dX4_removeSight_74 ?_
        refine k_iconst hC dX4_removeSight_77 ?_
        refine k_isub hC dX4_removeSight_78 ?_
        refine k_put hC fd_X4_46 (kl hN (by omega)) f0 [vI (g 5), vI (g 6), vI (g 7), vI (g 8), vI (g 1), .ref (kad G (b + 1)), .ref (kad G (b + 2)), .ref (kad G (b + 3)), vI ((g 2) - 1), .ref (kad G (b + 4)), .ref (kad G (b + 5)), .ref (kad G (b + 6))] rfl (Nat.le_of_ble_eq_true rfl) rfl rfl dX4_removeSight_79 (fun w8 hw8 hf8 => ?_)
        have h_9 : w8 (b + 1) = iA G 8 (fun j => g (33 + 3 * j)) := (hf8 (b + 1) (by omega)).trans f1
        have h_10 : w8 (b + 2) = iA G 8 (fun j => g (34 + 3 * j)) := (hf8 (b + 2) (by omega)).trans f2
        have h_11 : w8 (b + 3) = iA G 8 (fun j => g (35 + 3 * j)) := (hf8 (b + 3) (by omega)).trans f3
        have h_12 : w8 (b + 4) = iA G 12 (shF (fun j => g (57 + 3 * j)) i k) := (hf8 (b + 4) (by omega)).trans f4
        have h_13 : w8 (b + 5) = iA G 12 (shF (fun j => g (58 + 3 * j)) i k) := (hf8 (b + 5) (by omega)).trans f5
        have h_14 : w8 (b + 6) = iA G 12 (shF (fun j => g (59 + 3 * j)) i k) := (hf8 (b + 6) (by omega)).trans f6
        subst hQ
        exact k_vret hC hr ⟨by decide, by decide⟩ (⟨rfl, rfl, ⟨logO_of hw8 (by simp only [dropM, shF]; repeat (first | omega | rfl | split | (congr 1; omega))) (by simp only [dropM, shF]; repeat (first | omega | rfl | split | (congr 1; omega))) (by simp only [dropM, shF]; repeat (first | omega | rfl | split | (congr 1; omega))) (by simp only [dropM, shF]; repeat (first | omega | rfl | split | (congr 1; omega))) (by simp only [dropM, shF]; repeat (first | omega | rfl | split | (congr 1; omega))) (by simp only [dropM, shF]; repeat (first | omega | rfl | split | (congr 1; omega))), h_9.trans (iA_congr (fun j hj => by simp only [dropM, shF]; repeat (first | omega | rfl | split | (congr 1; omega)))), h_10.trans (iA_congr (fun j hj => by simp only [dropM, shF]; repeat (first | omega | rfl | split | (congr 1; omega)))), h_11.trans (iA_congr (fun j hj => by simp only [dropM, shF]; repeat (first | omega | rfl | split | (congr 1; omega)))), h_12.trans (iA_congr (fun j hj => by simp only [dropM, shF]; repeat (first | omega | rfl | split | (congr 1; omega)))), h_13.trans (iA_congr (fun j hj => by simp only [dropM, shF]; repeat (first | omega | rfl | split | (congr 1; omega)))), h_14.trans (iA_congr (fun j hj => by simp only [dropM, shF]; repeat (first | omega | rfl | split | (congr 1; omega))))⟩, fun j hj => (hf8 j (by omega)).trans (hfr j (by omega))⟩) dX4_removeSight_82
      · refine k_aload_n hC dX4_removeSight_12 rfl 1 rfl ?_
        refine k_get hC fd_X4_21 (kl hN (by omega)) f0 rfl dX4_removeSight_13 ?_
        refine k_iload_n hC dX4_removeSight_16 rfl 0 rfl ?_
        refine k_iconst hC dX4_removeSight_17 ?_
        refine k_isub hC dX4_removeSight_18 ?_
        refine k_aload_n hC dX4_removeSight_19 rfl 1 rfl ?_
        refine k_get hC fd_X4_21 (kl hN (by omega)) f0 rfl dX4_removeSight_20 ?_
        refine k_iload_n hC dX4_removeSight_23 rfl 0 rfl ?_
        refine k_pureSN hC (c_X11_at l hls G hN u fl (b + 4) (k : Int) 12 (shF (fun j => g (57 + 3 * j)) i k) (by omega) (by omega) (by decide) f4) yy_X11_at wm_X4_59 rfl rfl (Nat.le_of_ble_eq_true rfl) (by decide) (by decide) ⟨by decide, by decide⟩ dX4_removeSight_24 ?_
        refine k_topv (vI ((shF (fun j => g (57 + 3 * j)) i k) k)) rfl ?_
        refine k_muvSN hC (c_X11_put l hls G hN u fl (b + 4) ((k : Int) - 1) ((shF (fun j => g (57 + 3 * j)) i k) k) 12 (shF (fun j => g (57 + 3 * j)) i k) (by omega) (by omega) (by decide) f4) yy_X11_put wm_X4_63 rfl rfl (Nat.le_of_ble_eq_true rfl) (by decide) (by decide) ⟨by decide, by decide⟩ dX4_removeSight_27 (fun w15 hp15 => ?_)
        obtain ⟨hw15, hf15⟩ := hp15
        refine k_aload_n hC dX4_removeSight_30 rfl 1 rfl ?_
        have h_16 : w15 b = .inr (4, [vI (g 5), vI (g 6), vI (g 7), vI (g 8), vI (g 1), .ref (kad G (b + 1)), .ref (kad G (b + 2)), .ref (kad G (b + 3)), vI (g 2), .ref (kad G (b + 4)), .ref (kad G (b + 5)), .ref (kad G (b + 6))]) := (hf15 b (by omega)).trans f0
        refine k_get hC fd_X4_24 (kl hN (by omega)) h_16 rfl dX4_removeSight_31 ?_
        refine k_iload_n hC dX4_removeSight_34 rfl 0 rfl ?_
        refine k_iconst hC dX4_removeSight_35 ?_
        refine k_isub hC dX4_removeSight_36 ?_
        refine k_aload_n hC dX4_removeSight_37 rfl 1 rfl ?_
        refine k_get hC fd_X4_24 (kl hN (by omega)) h_16 rfl dX4_removeSight_38 ?_
        refine k_iload_n hC dX4_removeSight_41 rfl 0 rfl ?_
        have h_17 : w15 (b + 5) = iA G 12 (shF (fun j => g (58 + 3 * j)) i k) := (hf15 (b + 5) (by omega)).trans f5
        refine k_pureSN hC (c_X11_at l hls G hN w15 fl (b + 5) (k : Int) 12 (shF (fun j => g (58 + 3 * j)) i k) (by omega) (by omega) (by decide) h_17) yy_X11_at wm_X4_59 rfl rfl (Nat.le_of_ble_eq_true rfl) (by decide) (by decide) ⟨by decide, by decide⟩ dX4_removeSight_42 ?_
        refine k_topv (vI ((shF (fun j => g (58 + 3 * j)) i k) k)) rfl ?_
        refine k_muvSN hC (c_X11_put l hls G hN w15 fl (b + 5) ((k : Int) - 1) ((shF (fun j => g (58 + 3 * j)) i k) k) 12 (shF (fun j => g (58 + 3 * j)) i k) (by omega) (by omega) (by decide) h_17) yy_X11_put wm_X4_63 rfl rfl (Nat.le_of_ble_eq_true rfl) (by decide) (by decide) ⟨by decide, by decide⟩ dX4_removeSight_45 (fun w18 hp18 => ?_)
        obtain ⟨hw18, hf18⟩ := hp18
        refine k_aload_n hC dX4_removeSight_48 rfl 1 rfl ?_
        have h_19 : w18 b = .inr (4, [vI (g 5), vI (g 6), vI (g 7), vI (g 8), vI (g 1), .ref (kad G (b + 1)), .ref (kad G (b + 2)), .ref (kad G (b + 3)), vI (g 2), .ref (kad G (b + 4)), .ref (kad G (b + 5)), .ref (kad G (b + 6))]) := (hf18 b (by omega)).trans h_16
        refine k_get hC fd_X4_27 (kl hN (by omega)) h_19 rfl dX4_removeSight_49 ?_
        refine k_iload_n hC dX4_removeSight_52 rfl 0 rfl ?_
        refine k_iconst hC dX4_removeSight_53 ?_
        refine k_isub hC dX4_removeSight_54 ?_
        refine k_aload_n hC dX4_removeSight_55 rfl 1 rfl ?_
        refine k_get hC fd_X4_27 (kl hN (by omega)) h_19 rfl dX4_removeSight_56 ?_
        refine k_iload_n hC dX4_removeSight_59 rfl 0 rfl ?_
        have h_20 : w18 (b + 6) = iA G 12 (shF (fun j => g (59 + 3 * j)) i k) := (hf18 (b + 6) (by omega)).trans ((hf15 (b + 6) (by omega)).trans f6)
        refine k_pureSN hC (c_X11_at l hls G hN w18 fl (b + 6) (k : Int) 12 (shF (fun j => g (59 + 3 * j)) i k) (by omega) (by omega) (by decide) h_20) yy_X11_at wm_X4_59 rfl rfl (Nat.le_of_ble_eq_true rfl) (by decide) (by decide) ⟨by decide, by decide⟩ dX4_removeSight_60 ?_
        refine k_topv (vI ((shF (fun j => g (59 + 3 * j)) i k) k)) rfl ?_
        refine k_muvSN hC (c_X11_put l hls G hN w18 fl (b + 6) ((k : Int) - 1) ((shF (fun j => g (59 + 3 * j)) i k) k) 12 (shF (fun j => g (59 + 3 * j)) i k) (by omega) (by omega) (by decide) h_20) yy_X11_put wm_X4_63 rfl rfl (Nat.le_of_ble_eq_true rfl) (by decide) (by decide) ⟨by decide, by decide⟩ dX4_removeSight_63 (fun w21 hp21 => ?_)
        obtain ⟨hw21, hf21⟩ := hp21
        refine k_iinc hC (y := (k : Int) + 1) [(2, vI ((k : Int) + 1)), (0, .ref (kad G b)), (1, vI (i : Int))] (j := 0) dX4_removeSight_66 rfl (by omega) (by decide) rfl ?_
        refine k_goto hC 4 dX4_removeSight_69 rfl ?_
        refine k_lvs (ls := [0, 1, 2]) [(2, vI ((k + 1 : Nat) : Int)), (0, .ref (kad G b)), (1, vI (i : Int))] (by simp only [lv_pick]; rfl) ?_
        have h_22 : w21 b = .inr (4, [vI (g 5), vI (g 6), vI (g 7), vI (g 8), vI (g 1), .ref (kad G (b + 1)), .ref (kad G (b + 2)), .ref (kad G (b + 3)), vI (g 2), .ref (kad G (b + 4)), .ref (kad G (b + 5)), .ref (kad G (b + 6))]) := (hf21 b (by omega)).trans h_19
        have h_23 : w21 (b + 4) = iA G 12 (kup (shF (fun j => g (57 + 3 * j)) i k) ((k : Int) - 1).toNat ((shF (fun j => g (57 + 3 * j)) i k) k)) := (hf21 (b + 4) (by omega)).trans ((hf18 (b + 4) (by omega)).trans hw15)
        have h_24 : w21 (b + 5) = iA G 12 (kup (shF (fun j => g (58 + 3 * j)) i k) ((k : Int) - 1).toNat ((shF (fun j => g (58 + 3 * j)) i k) k)) := (hf21 (b + 5) (by omega)).trans hw18
        have h_25 : w21 (b + 1) = iA G 8 (fun j => g (33 + 3 * j)) := (hf21 (b + 1) (by omega)).trans ((hf18 (b + 1) (by omega)).trans ((hf15 (b + 1) (by omega)).trans f1))
        have h_26 : w21 (b + 2) = iA G 8 (fun j => g (34 + 3 * j)) := (hf21 (b + 2) (by omega)).trans ((hf18 (b + 2) (by omega)).trans ((hf15 (b + 2) (by omega)).trans f2))
        have h_27 : w21 (b + 3) = iA G 8 (fun j => g (35 + 3 * j)) := (hf21 (b + 3) (by omega)).trans ((hf18 (b + 3) (by omega)).trans ((hf15 (b + 3) (by omega)).trans f3))
        exact ih (k + 1) w21 (by omega) (by omega) h_22 (h_23.trans (iA_congr (fun j hj => by simp only [kup, shF]; repeat (first | omega | rfl | split | (congr 1; omega))))) (h_24.trans (iA_congr (fun j hj => by simp only [kup, shF]; repeat (first | omega | rfl | split | (congr 1; omega))))) (hw21.trans (iA_congr (fun j hj => by simp only [kup, shF]; repeat (first | omega | rfl | split | (congr 1; omega))))) h_25 h_26 h_27 (fun j hj => (hf21 j (by omega)).trans ((hf18 j (by omega)).trans ((hf15 j (by omega)).trans (hfr j (by omega)))))
  refine k_lvs (ls := [0, 1, 2]) [(2, vI ((i + 1 : Nat) : Int)), (0, .ref (kad G b)), (1, vI (i : Int))] (by simp only [lv_pick]; rfl) ?_
  exact loop 12 (i + 1) w (by omega) (by omega) hL.1 (hL.2.2.2.2.1.trans (iA_congr (fun j hj => by unfold shF; rw [if_neg (by omega)]))) (hL.2.2.2.2.2.1.trans (iA_congr (fun j hj => by unfold shF; rw [if_neg (by omega)]))) (hL.2.2.2.2.2.2.trans (iA_congr (fun j hj => by unfold shF; rw [if_neg (by omega)]))) hL.2.1 hL.2.2.1 hL.2.2.2.1 (fun j hj => rfl)

set_option maxRecDepth 100000 in
set_option maxHeartbeats 4000000 in
theorem c_X4_sightsOf (l : Launch) (hls : l.stackTraces = false) (G : kG) (hN : 133 ≤ kN G) (w : Nat → va_E) (fl : va_W) (b : Nat) (g : Nat → Int) (x : Int) (hb : b + 6 < 133) (h2 : 0 ≤ g 2 ∧ g 2 ≤ 12) (hx : 0 ≤ x ∧ x ≤ 100) (hs : ∀ k : Nat, (k : Int) < g 2 → 0 ≤ g (57 + 3 * k) ∧ g (57 + 3 * k) ≤ 100) (hL : kLog G w b g) : KM l G yX4_sightsOf cX4_sightsOf 4 (some (FieldType.int)) 1 0 0 [.ref (kad G b), vI x] w fl (kPure (vI (cntM g x (g 2).toNat)) w fl) := by
  refine KM_of2 hls (by decide +kernel) rfl (lv0 := [(0, .ref (kad G b)), (1, vI x)]) rfl (Nat.le_of_ble_eq_true rfl) (fun p e R s m args below meth c Q hC hr hQ => ?_)
  refine k_iconst hC dX4_sightsOf_0 ?_
  refine k_istore_n hC [(2, vI 0), (0, .ref (kad G b)), (1, vI x)] dX4_sightsOf_1 rfl (by decide) rfl ?_
  refine k_iconst hC dX4_sightsOf_2 ?_
  refine k_istore_n hC [(3, vI 0), (2, vI 0), (0, .ref (kad G b)), (1, vI x)] dX4_sightsOf_3 rfl (by decide) rfl ?_
  have loop : ∀ (n : Nat) (k : Nat) (v : Int), ((g 2).toNat ≤ n + k) → ((k : Int) ≤ g 2) → (v = cntM g x k) → KW p l e R s m args below meth c 4 G Q w fl 0 0 4 [(3, vI (k : Int)), (2, vI v), (0, .ref (kad G b)), (1, vI x)] [] := by
    intro n
    induction n with
    | zero =>
      intro k v hn_ hk hv
      refine k_iload_n hC dX4_sightsOf_4 rfl 0 rfl ?_
      refine k_aload_n hC dX4_sightsOf_5 rfl 2 rfl ?_
      refine k_get hC fd_X4_46 (kl hN (by omega)) hL.1 rfl dX4_sightsOf_6 ?_
      refine k_icmp_ge hC 33 dX4_sightsOf_9 rfl (by omega) (by omega) (fun c_9 => ?_) (fun c_9 => absurd c_9 (by omega))
      refine k_iload_n hC dX4_sightsOf_33 rfl 1 rfl ?_
      subst hQ
      exact k_iret hC hr ⟨by decide, by decide⟩ (⟨congrArg (fun z => some (vI z)) (show (cntM g x (g 2).toNat : Int) = v from (by rw [hv, show (g 2).toNat = k by omega])), rfl, rfl⟩) dX4_sightsOf_34
    | succ n ih =>
      intro k v hn_ hk hv
      have hb9 := cntM_b g x k
      refine k_iload_n hC dX4_sightsOf_4 rfl 0 rfl ?_
      refine k_aload_n hC dX4_sightsOf_5 rfl 2 rfl ?_
      refine k_get hC fd_X4_46 (kl hN (by omega)) hL.1 rfl dX4_sightsOf_6 ?_
      refine k_icmp_ge hC 33 dX4_sightsOf_9 rfl (by omega) (by omega) (fun c_9 => ?_) (fun c_9 => ?_)
      · refine k_iload_n hC dX4_sightsOf_33 rfl 1 rfl ?_
        subst hQ
        exact k_iret hC hr ⟨by decide, by decide⟩ (⟨congrArg (fun z => some (vI z)) (show (cntM g x (g 2).toNat : Int) = v from (by rw [hv, show (g 2).toNat = k by omega])), rfl, rfl⟩) dX4_sightsOf_34
      · refine k_aload_n hC dX4_sightsOf_12 rfl 2 rfl ?_
        refine k_get hC fd_X4_21 (kl hN (by omega)) hL.1 rfl dX4_sightsOf_13 ?_
        refine k_iload_n hC dX4_sightsOf_16 rfl 0 rfl ?_
        refine k_pureSN hC (c_X11_at l hls G hN w fl (b + 4) (k : Int) 12 (fun j => g (57 + 3 * j)) (by omega) (by omega) (by decide) hL.2.2.2.2.1) yy_X11_at wm_X4_59 rfl rfl (Nat.le_of_ble_eq_true rfl) (by decide) (by decide) ⟨by decide, by decide⟩ dX4_sightsOf_17 ?_
        refine k_topv (vI (g (57 + 3 * k))) rfl ?_
        refine k_iload_n hC dX4_sightsOf_20 rfl 3 rfl ?_
        refine k_icmp_ne hC 27 dX4_sightsOf_21 rfl (by have h9 := hs k (by omega); omega) (by omega) (fun c_21 => ?_) (fun c_21 => ?_)
        · refine k_iinc hC (y := (k : Int) + 1) [(3, vI ((k : Int) + 1)), (2, vI v), (0, .ref (kad G b)), (1, vI x)] (j := 0) dX4_sightsOf_27 rfl (by omega) (by decide) rfl ?_
          refine k_goto hC 4 dX4_sightsOf_30 rfl ?_
          refine k_lvs (ls := [0, 1, 2, 3]) [(3, vI ((k + 1 : Nat) : Int)), (2, vI v), (0, .ref (kad G b)), (1, vI x)] (by simp only [lv_pick]; rfl) ?_
          exact ih (k + 1) v  (by omega) (by omega) (by show _ = cntM g x k + _; first | (rw [if_pos (by omega)]; omega) | (rw [if_neg (by omega)]; omega))
        · refine k_iinc hC (y := v + 1) [(2, vI (v + 1)), (3, vI (k : Int)), (0, .ref (kad G b)), (1, vI x)] (j := 1) dX4_sightsOf_24 rfl (by omega) (by decide) rfl ?_
          refine k_iinc hC (y := (k : Int) + 1) [(3, vI ((k : Int) + 1)), (2, vI (v + 1)), (0, .ref (kad G b)), (1, vI x)] (j := 1) dX4_sightsOf_27 rfl (by omega) (by decide) rfl ?_
          refine k_goto hC 4 dX4_sightsOf_30 rfl ?_
          refine k_lvs (ls := [0, 1, 2, 3]) [(3, vI ((k + 1 : Nat) : Int)), (2, vI (v + 1)), (0, .ref (kad G b)), (1, vI x)] (by simp only [lv_pick]; rfl) ?_
          exact ih (k + 1) (v + 1)  (by omega) (by omega) (by show _ = cntM g x k + _; first | (rw [if_pos (by omega)]; omega) | (rw [if_neg (by omega)]; omega))
  refine k_lvs (ls := [0, 1, 2, 3]) [(3, vI ((0 : Nat) : Int)), (2, vI 0), (0, .ref (kad G b)), (1, vI x)] (by simp only [lv_pick]; rfl) ?_
  exact loop 12 0 0  (by omega) (by omega) rfl

