theorem mdO_4 {G : kG} {u : Nat → Int} {c : Int} (h : u 4 = c) : mdO G u = mdO G (kup u 4 c) := by subst h; rfl
theorem Inv.addSight {g : Nat → Int} (h : Inv g) {b t a : Int} (hb : 0 ≤ b ∧ b < g 0) (ht : 0 ≤ t ∧ t ≤ 5000) (ha : 300 ≤ a ∧ a ≤ 5100) (hn : g 2 < 12) : Inv (addSightM g b t a) := by
  obtain ⟨h1, h2, h3, h4, h5, h6, h7, h8, h9, h10, h11, h12, h13⟩ := h
  have e : ∀ j, j ≠ 2 → j < 57 → addSightM g b t a j = g j := fun j q1 q2 => by unfold addSightM; rw [if_neg q1, if_neg (by omega), if_neg (by omega), if_neg (by omega)]
  have e2 : addSightM g b t a 2 = g 2 + 1 := rfl
  refine ⟨?_, ?_, ?_, ?_, ?_, ?_, ?_, ?_, ?_, ?_, ?_, ?_, ?_⟩
  · rw [e 0 (by decide) (by decide)]; exact h1
  · rw [e 1 (by decide) (by decide)]; exact h2
  · rw [e2]; omega
  · rw [e 3 (by decide) (by decide)]; exact h4
  · rw [e 4 (by decide) (by decide)]; exact h5
  · rw [e 5 (by decide) (by decide)]; exact h6
  · rw [e 6 (by decide) (by decide)]; exact h7
  · rw [e 7 (by decide) (by decide)]; exact h8
  · rw [e 8 (by decide) (by decide)]; exact h9
  · intro k hk; rw [e 0 (by decide) (by decide)] at hk; rw [e _ (by omega) (by omega), e _ (by omega) (by omega), e _ (by omega) (by omega)]; exact h10 k hk
  · intro k hk; rw [e 1 (by decide) (by decide)] at hk; rw [e _ (by omega) (by omega), e _ (by omega) (by omega), e _ (by omega) (by omega)]; exact h11 k hk
  · intro k hk; rw [e 1 (by decide) (by decide)] at hk; rw [e _ (by omega) (by omega), e _ (by omega) (by omega)]; exact h12 k hk
  · intro k hk; rw [e2] at hk; rw [e 0 (by decide) (by decide)]
    by_cases hq : (k : Int) = g 2
    · have e3 : addSightM g b t a (57 + 3 * k) = b := by unfold addSightM; rw [if_neg (by omega), if_pos (by omega)]
      have e4 : addSightM g b t a (58 + 3 * k) = t := by unfold addSightM; rw [if_neg (by omega), if_neg (by omega), if_pos (by omega)]
      have e5 : addSightM g b t a (59 + 3 * k) = a := by unfold addSightM; rw [if_neg (by omega), if_neg (by omega), if_neg (by omega), if_pos (by omega)]
      rw [e3, e4, e5]; exact ⟨hb, ht, ha⟩
    · have e3 : addSightM g b t a (57 + 3 * k) = g (57 + 3 * k) := by unfold addSightM; rw [if_neg (by omega), if_neg (by omega), if_neg (by omega), if_neg (by omega)]
      have e4 : addSightM g b t a (58 + 3 * k) = g (58 + 3 * k) := by unfold addSightM; rw [if_neg (by omega), if_neg (by omega), if_neg (by omega), if_neg (by omega)]
      have e5 : addSightM g b t a (59 + 3 * k) = g (59 + 3 * k) := by unfold addSightM; rw [if_neg (by omega), if_neg (by omega), if_neg (by omega), if_neg (by omega)]
      rw [e3, e4, e5]; exact h13 k (by omega)
theorem Inv.addLeg {g : Nat → Int} (h : Inv g) {t co s : Int} (ht : 0 ≤ t ∧ t ≤ 5000) (hc : 0 ≤ co ∧ co ≤ 21599) (hs : 0 ≤ s ∧ s ≤ 400) (hn : g 1 < 8) (hl : lastM g < t) : Inv (addLegM g t co s) := by
  obtain ⟨h1, h2, h3, h4, h5, h6, h7, h8, h9, h10, h11, h12, h13⟩ := h
  have e : ∀ j, j ≠ 1 → (j < 33 ∨ 57 ≤ j) → addLegM g t co s j = g j := fun j q1 q2 => by unfold addLegM; rw [if_neg q1, if_neg (by omega), if_neg (by omega), if_neg (by omega)]
  have e2 : addLegM g t co s 1 = g 1 + 1 := rfl
  have eo : ∀ k : Nat, (k : Int) < g 1 → addLegM g t co s (33 + 3 * k) = g (33 + 3 * k) ∧ addLegM g t co s (34 + 3 * k) = g (34 + 3 * k) ∧ addLegM g t co s (35 + 3 * k) = g (35 + 3 * k) := fun k hk => by
    unfold addLegM
    rw [if_neg (by omega), if_neg (by omega), if_neg (by omega), if_neg (by omega), if_neg (by omega), if_neg (by omega), if_neg (by omega), if_neg (by omega), if_neg (by omega), if_neg (by omega), if_neg (by omega), if_neg (by omega)]
    exact ⟨rfl, rfl, rfl⟩
  have en : ∀ k : Nat, (k : Int) = g 1 → addLegM g t co s (33 + 3 * k) = t ∧ addLegM g t co s (34 + 3 * k) = co ∧ addLegM g t co s (35 + 3 * k) = s := fun k hk => by
    refine ⟨?_, ?_, ?_⟩
    · unfold addLegM; rw [if_neg (by omega), if_pos (by omega)]
    · unfold addLegM; rw [if_neg (by omega), if_neg (by omega), if_pos (by omega)]
    · unfold addLegM; rw [if_neg (by omega), if_neg (by omega), if_neg (by omega), if_pos (by omega)]
  refine ⟨?_, ?_, ?_, ?_, ?_, ?_, ?_, ?_, ?_, ?_, ?_, ?_, ?_⟩
  · rw [e 0 (by decide) (by decide)]; exact h1
  · rw [e2]; omega
  · rw [e 2 (by decide) (by decide)]; exact h3
  · rw [e 3 (by decide) (by decide)]; exact h4
  · rw [e 4 (by decide) (by decide)]; exact h5
  · rw [e 5 (by decide) (by decide)]; exact h6
  · rw [e 6 (by decide) (by decide)]; exact h7
  · rw [e 7 (by decide) (by decide)]; exact h8
  · rw [e 8 (by decide) (by decide)]; exact h9
  · intro k hk; rw [e 0 (by decide) (by decide)] at hk; rw [e _ (by omega) (by omega), e _ (by omega) (by omega), e _ (by omega) (by omega)]; exact h10 k hk
  · intro k hk; rw [e2] at hk
    by_cases hq : (k : Int) = g 1
    · obtain ⟨q1, q2, q3⟩ := en k hq; rw [q1, q2, q3]; exact ⟨ht, hc, hs⟩
    · obtain ⟨q1, q2, q3⟩ := eo k (by omega); rw [q1, q2, q3]; exact h11 k (by omega)
  · intro k hk; rw [e2] at hk
    rw [(eo k (by omega)).1, show 36 + 3 * k = 33 + 3 * (k + 1) by omega]
    by_cases hq : ((k + 1 : Nat) : Int) = g 1
    · rw [(en (k + 1) hq).1]
      have hl2 : lastM g = g (33 + 3 * k) := by unfold lastM; rw [if_neg (by omega), show (g 1 - 1).toNat = k by omega]
      omega
    · rw [(eo (k + 1) (by omega)).1]
      have := h12 k (by omega)
      rw [show 36 + 3 * k = 33 + 3 * (k + 1) by omega] at this
      exact this
  · intro k hk; rw [e 2 (by decide) (by decide)] at hk; rw [e 0 (by decide) (by decide), e _ (by omega) (by omega), e _ (by omega) (by omega), e _ (by omega) (by omega)]; exact h13 k hk
theorem Inv.drop {g : Nat → Int} (h : Inv g) {i : Nat} (hi : (i : Int) < g 2) : Inv (dropM g i) := by
  obtain ⟨h1, h2, h3, h4, h5, h6, h7, h8, h9, h10, h11, h12, h13⟩ := h
  have e : ∀ j, j ≠ 2 → j < 57 → dropM g i j = g j := fun j q1 q2 => by unfold dropM; rw [if_neg q1, if_neg (by omega)]
  have e2 : dropM g i 2 = g 2 - 1 := rfl
  refine ⟨?_, ?_, ?_, ?_, ?_, ?_, ?_, ?_, ?_, ?_, ?_, ?_, ?_⟩
  · rw [e 0 (by decide) (by decide)]; exact h1
  · rw [e 1 (by decide) (by decide)]; exact h2
  · rw [e2]; omega
  · rw [e 3 (by decide) (by decide)]; exact h4
  · rw [e 4 (by decide) (by decide)]; exact h5
  · rw [e 5 (by decide) (by decide)]; exact h6
  · rw [e 6 (by decide) (by decide)]; exact h7
  · rw [e 7 (by decide) (by decide)]; exact h8
  · rw [e 8 (by decide) (by decide)]; exact h9
  · intro k hk; rw [e 0 (by decide) (by decide)] at hk; rw [e _ (by omega) (by omega), e _ (by omega) (by omega), e _ (by omega) (by omega)]; exact h10 k hk
  · intro k hk; rw [e 1 (by decide) (by decide)] at hk; rw [e _ (by omega) (by omega), e _ (by omega) (by omega), e _ (by omega) (by omega)]; exact h11 k hk
  · intro k hk; rw [e 1 (by decide) (by decide)] at hk; rw [e _ (by omega) (by omega), e _ (by omega) (by omega)]; exact h12 k hk
  · intro k hk; rw [e2] at hk; rw [e 0 (by decide) (by decide)]
    by_cases hq : i ≤ k
    · have e3 : ∀ q : Nat, q < 3 → dropM g i (57 + q + 3 * k) = g (57 + q + 3 * (k + 1)) := fun q hq3 => by unfold dropM; rw [if_neg (by omega), if_pos (by omega)]; exact congrArg g (by omega)
      have q0 := e3 0 (by decide); have q1 := e3 1 (by decide); have q2 := e3 2 (by decide)
      rw [show 57 + 3 * k = 57 + 0 + 3 * k by omega, show 58 + 3 * k = 57 + 1 + 3 * k by omega, show 59 + 3 * k = 57 + 2 + 3 * k by omega, q0, q1, q2]
      exact h13 (k + 1) (by omega)
    · have e3 : ∀ j, 57 + 3 * k ≤ j → j < 60 + 3 * k → dropM g i j = g j := fun j a1 a2 => by unfold dropM; rw [if_neg (by omega), if_neg (by omega)]
      rw [e3 _ (by omega) (by omega), e3 _ (by omega) (by omega), e3 _ (by omega) (by omega)]
      exact h13 k (by omega)
theorem Inv.set {g : Nat → Int} (h : Inv g) {i j : Nat} {a b : Int} (hij : (i = 5 ∧ j = 6 ∧ (0 ≤ a ∧ a ≤ 50) ∧ (-60 ≤ b ∧ b ≤ 60)) ∨ (i = 7 ∧ j = 8 ∧ (0 ≤ a ∧ a ≤ 21599) ∧ (0 ≤ b ∧ b ≤ 100))) : Inv (setM g i a j b) := by
  obtain ⟨h1, h2, h3, h4, h5, h6, h7, h8, h9, h10, h11, h12, h13⟩ := h
  have e : ∀ q, q ≠ 5 → q ≠ 6 → q ≠ 7 → q ≠ 8 → setM g i a j b q = g q := fun q q1 q2 q3 q4 => by unfold setM; rw [if_neg (by omega), if_neg (by omega)]
  refine ⟨?_, ?_, ?_, ?_, ?_, ?_, ?_, ?_, ?_, ?_, ?_, ?_, ?_⟩
  · rw [e 0 (by decide) (by decide) (by decide) (by decide)]; exact h1
  · rw [e 1 (by decide) (by decide) (by decide) (by decide)]; exact h2
  · rw [e 2 (by decide) (by decide) (by decide) (by decide)]; exact h3
  · rw [e 3 (by decide) (by decide) (by decide) (by decide)]; exact h4
  · rw [e 4 (by decide) (by decide) (by decide) (by decide)]; exact h5
  · rcases hij with ⟨rfl, rfl, ha, hb⟩ | ⟨rfl, rfl, ha, hb⟩
    · exact ha
    · exact h6
  · rcases hij with ⟨rfl, rfl, ha, hb⟩ | ⟨rfl, rfl, ha, hb⟩
    · exact hb
    · exact h7
  · rcases hij with ⟨rfl, rfl, ha, hb⟩ | ⟨rfl, rfl, ha, hb⟩
    · exact h8
    · exact ha
  · rcases hij with ⟨rfl, rfl, ha, hb⟩ | ⟨rfl, rfl, ha, hb⟩
    · exact h9
    · exact hb
  · intro k hk; rw [e 0 (by decide) (by decide) (by decide) (by decide)] at hk; rw [e _ (by omega) (by omega) (by omega) (by omega), e _ (by omega) (by omega) (by omega) (by omega), e _ (by omega) (by omega) (by omega) (by omega)]; exact h10 k hk
  · intro k hk; rw [e 1 (by decide) (by decide) (by decide) (by decide)] at hk; rw [e _ (by omega) (by omega) (by omega) (by omega), e _ (by omega) (by omega) (by omega) (by omega), e _ (by omega) (by omega) (by omega) (by omega)]; exact h11 k hk
  · intro k hk; rw [e 1 (by decide) (by decide) (by decide) (by decide)] at hk; rw [e _ (by omega) (by omega) (by omega) (by omega), e _ (by omega) (by omega) (by omega) (by omega)]; exact h12 k hk
  · intro k hk; rw [e 2 (by decide) (by decide) (by decide) (by decide)] at hk; rw [e 0 (by decide) (by decide) (by decide) (by decide), e _ (by omega) (by omega) (by omega) (by omega), e _ (by omega) (by omega) (by omega) (by omega), e _ (by omega) (by omega) (by omega) (by omega)]; exact h13 k hk
def cpR (f t : Nat → Int) (fr tr : Nat) : Nat → Int := fun j => if 93 * tr ≤ j ∧ j < 93 * tr + 93 then f (93 * fr + (j - 93 * tr)) else t j
def hisP (H g : Nat → Int) (cn : Nat) (H1 : Nat → Int) : Prop := (∀ r j : Nat, j < 93 → r < min cn 9 → H1 (93 * r + j) = if cn = 10 then H (93 * (r + 1) + j) else H (93 * r + j)) ∧ ∀ j, j < 93 → H1 (93 * (min cn 9) + j) = g j
def mOp (G : kG) (w w1 : Nat → va_E) (u g H : Nat → Int) (cn : Nat) (th : Int) (no : Prop) (gn : Nat → Int) : Prop :=
  ((th ≠ 0 ∨ no) ∧ w1 133 = mdO G (kup u 5 th) ∧ ∀ j, j ≠ 133 → w1 j = w j) ∨
  ((th = 0 ∧ ¬ no) ∧ w1 133 = mdO G (kup (kup u 4 (min ((cn : Int) + 1) 10)) 5 th) ∧ w1 134 = lA G 93 gn ∧ (∃ H1, w1 137 = lA G 930 H1 ∧ hisP H g cn H1) ∧ ∀ j, (j ≠ 133 ∧ j ≠ 134 ∧ j ≠ 137) → w1 j = w j)
set_option maxRecDepth 100000 in
set_option maxHeartbeats 4000000 in
theorem c_X12_addSight (l : Launch) (hls : l.stackTraces = false) (G : kG) (hN : kN G = 150) (w : Nat → va_E) (fl : va_W) (b : Nat) (f : Nat → Int) (x y z : Int) (hb : b < 150) (hf : 0 ≤ f 2 ∧ f 2 < 12) (hw : w b = lA G 93 f) : KM l G yX12_addSight cX12_addSight 8 (none) 0 0 0 [.ref (kad G b), vL x, vL y, vL z] w fl (kMuv fl (fun w1 => w1 b = lA G 93 (addSightM f x y z) ∧ ∀ j, j ≠ b → w1 j = w j)) := by
  refine KM_of2 hls (by decide +kernel) rfl (lv0 := [(0, .ref (kad G b)), (1, vL x), (3, vL y), (5, vL z)]) rfl (Nat.le_of_ble_eq_true rfl) (fun p e R s m args below meth c Q hC hr hQ => ?_)
  refine k_bipush hC dX12_addSight_0 (by decide) ?_
  refine k_iconst hC dX12_addSight_2 ?_
  refine k_aload_n hC dX12_addSight_3 rfl 0 rfl ?_
  refine k_iconst hC dX12_addSight_4 ?_
  refine k_lald hC (kl hN (by omega)) hw (by omega) (by decide) dX12_addSight_5 ?_
  refine k_topv (vL (f 2)) rfl ?_
  refine k_l2i hC dX12_addSight_6 ?_
  refine k_imul hC dX12_addSight_7 ?_
  refine k_iadd hC dX12_addSight_8 ?_
  refine k_topI (fun at0 eat0 => ?_)
  refine k_istore hC [(7, vI at0), (0, .ref (kad G b)), (1, vL x), (3, vL y), (5, vL z)] dX12_addSight_9 (by decide) rfl ?_
  refine k_aload_n hC dX12_addSight_11 rfl 1 rfl ?_
  refine k_iload hC dX12_addSight_12 0 rfl ?_
  refine k_iconst hC dX12_addSight_14 ?_
  refine k_iadd hC dX12_addSight_15 ?_
  refine k_lload_n hC dX12_addSight_16 rfl 2 rfl ?_
  refine k_last hC (kl hN (by omega)) hw (by omega) (by decide) dX12_addSight_17 (fun w1 hw1 hf1 => ?_)
  refine k_aload_n hC dX12_addSight_18 rfl 1 rfl ?_
  refine k_iload hC dX12_addSight_19 0 rfl ?_
  refine k_iconst hC dX12_addSight_21 ?_
  refine k_iadd hC dX12_addSight_22 ?_
  refine k_lload_n hC dX12_addSight_23 rfl 3 rfl ?_
  refine k_last hC (kl hN (by omega)) hw1 (by omega) (by decide) dX12_addSight_24 (fun w2 hw2 hf2 => ?_)
  refine k_aload_n hC dX12_addSight_25 rfl 1 rfl ?_
  refine k_iload hC dX12_addSight_26 0 rfl ?_
  refine k_iconst hC dX12_addSight_28 ?_
  refine k_iadd hC dX12_addSight_29 ?_
  refine k_lload hC dX12_addSight_30 4 rfl ?_
  refine k_last hC (kl hN (by omega)) hw2 (by omega) (by decide) dX12_addSight_32 (fun w3 hw3 hf3 => ?_)
  refine k_aload_n hC dX12_addSight_33 rfl 1 rfl ?_
  refine k_iconst hC dX12_addSight_34 ?_
  refine k_dup2 hC dX12_addSight_35 rfl rfl ?_
  refine k_lald hC (kl hN (by omega)) hw3 (by omega) (by decide) dX12_addSight_36 ?_
  refine k_topv (vL ((kup (kup (kup f (at0 + 0).toNat x) (at0 + 1).toNat y) (at0 + 2).toNat z) (2 : Nat))) rfl ?_
  refine k_topv (vL (f 2)) (congrArg vL (by unfold kup; rw [if_neg (by omega), if_neg (by omega), if_neg (by omega)])) ?_
  refine k_lconst (x := 1) hC dX12_addSight_37 (by decide) ?_
  refine k_ladd hC dX12_addSight_38 ?_
  refine k_last hC (kl hN (by omega)) hw3 (by omega) (by decide) dX12_addSight_39 (fun w4 hw4 hf4 => ?_)
  subst hQ
  exact k_vret hC hr ⟨by decide, by decide⟩ (⟨rfl, rfl, (hw4).trans (lA_congr (fun j hj => by simp only [addSightM, kup]; repeat (first | omega | rfl | split | (congr 1; omega)))), fun j hj => (hf4 j (by omega)).trans ((hf3 j (by omega)).trans ((hf2 j (by omega)).trans (hf1 j (by omega))))⟩) dX12_addSight_40

set_option maxRecDepth 100000 in
set_option maxHeartbeats 4000000 in
theorem c_X12_addLeg (l : Launch) (hls : l.stackTraces = false) (G : kG) (hN : kN G = 150) (w : Nat → va_E) (fl : va_W) (b : Nat) (f : Nat → Int) (x y z : Int) (hb : b < 150) (hf : 0 ≤ f 1 ∧ f 1 < 8) (hw : w b = lA G 93 f) : KM l G yX12_addLeg cX12_addLeg 8 (none) 0 0 0 [.ref (kad G b), vL x, vL y, vL z] w fl (kMuv fl (fun w1 => w1 b = lA G 93 (addLegM f x y z) ∧ ∀ j, j ≠ b → w1 j = w j)) := by
  refine KM_of2 hls (by decide +kernel) rfl (lv0 := [(0, .ref (kad G b)), (1, vL x), (3, vL y), (5, vL z)]) rfl (Nat.le_of_ble_eq_true rfl) (fun p e R s m args below meth c Q hC hr hQ => ?_)
  refine k_bipush hC dX12_addLeg_0 (by decide) ?_
  refine k_iconst hC dX12_addLeg_2 ?_
  refine k_aload_n hC dX12_addLeg_3 rfl 0 rfl ?_
  refine k_iconst hC dX12_addLeg_4 ?_
  refine k_lald hC (kl hN (by omega)) hw (by omega) (by decide) dX12_addLeg_5 ?_
  refine k_topv (vL (f 1)) rfl ?_
  refine k_l2i hC dX12_addLeg_6 ?_
  refine k_imul hC dX12_addLeg_7 ?_
  refine k_iadd hC dX12_addLeg_8 ?_
  refine k_topI (fun at0 eat0 => ?_)
  refine k_istore hC [(7, vI at0), (0, .ref (kad G b)), (1, vL x), (3, vL y), (5, vL z)] dX12_addLeg_9 (by decide) rfl ?_
  refine k_aload_n hC dX12_addLeg_11 rfl 1 rfl ?_
  refine k_iload hC dX12_addLeg_12 0 rfl ?_
  refine k_iconst hC dX12_addLeg_14 ?_
  refine k_iadd hC dX12_addLeg_15 ?_
  refine k_lload_n hC dX12_addLeg_16 rfl 2 rfl ?_
  refine k_last hC (kl hN (by omega)) hw (by omega) (by decide) dX12_addLeg_17 (fun w1 hw1 hf1 => ?_)
  refine k_aload_n hC dX12_addLeg_18 rfl 1 rfl ?_
  refine k_iload hC dX12_addLeg_19 0 rfl ?_
  refine k_iconst hC dX12_addLeg_21 ?_
  refine k_iadd hC dX12_addLeg_22 ?_
  refine k_lload_n hC dX12_addLeg_23 rfl 3 rfl ?_
  refine k_last hC (kl hN (by omega)) hw1 (by omega) (by decide) dX12_addLeg_24 (fun w2 hw2 hf2 => ?_)
  refine k_aload_n hC dX12_addLeg_25 rfl 1 rfl ?_
  refine k_iload hC dX12_addLeg_26 0 rfl ?_
  refine k_iconst hC dX12_addLeg_28 ?_
  refine k_iadd hC dX12_addLeg_29 ?_
  refine k_lload hC dX12_addLeg_30 4 rfl ?_
  refine k_last hC (kl hN (by omega)) hw2 (by omega) (by decide) dX12_addLeg_32 (fun w3 hw3 hf3 => ?_)
  refine k_aload_n hC dX12_addLeg_33 rfl 1 rfl ?_
  refine k_iconst hC dX12_addLeg_34 ?_
  refine k_dup2 hC dX12_addLeg_35 rfl rfl ?_
  refine k_lald hC (kl hN (by omega)) hw3 (by omega) (by decide) dX12_addLeg_36 ?_
  refine k_topv (vL ((kup (kup (kup f (at0 + 0).toNat x) (at0 + 1).toNat y) (at0 + 2).toNat z) (1 : Nat))) rfl ?_
  refine k_topv (vL (f 1)) (congrArg vL (by unfold kup; rw [if_neg (by omega), if_neg (by omega), if_neg (by omega)])) ?_
  refine k_lconst (x := 1) hC dX12_addLeg_37 (by decide) ?_
  refine k_ladd hC dX12_addLeg_38 ?_
  refine k_last hC (kl hN (by omega)) hw3 (by omega) (by decide) dX12_addLeg_39 (fun w4 hw4 hf4 => ?_)
  subst hQ
  exact k_vret hC hr ⟨by decide, by decide⟩ (⟨rfl, rfl, (hw4).trans (lA_congr (fun j hj => by simp only [addLegM, kup]; repeat (first | omega | rfl | split | (congr 1; omega)))), fun j hj => (hf4 j (by omega)).trans ((hf3 j (by omega)).trans ((hf2 j (by omega)).trans (hf1 j (by omega))))⟩) dX12_addLeg_40

set_option maxRecDepth 100000 in
set_option maxHeartbeats 4000000 in
theorem c_X12_copy (l : Launch) (hls : l.stackTraces = false) (G : kG) (hN : kN G = 150) (w : Nat → va_E) (fl : va_W) (a b na nb fr tr : Nat) (f t : Nat → Int) (hab : a ≠ b) (ha : a < 150) (hna : na ≤ 1000) (hb : b < 150) (hnb : nb ≤ 1000) (hfr : 93 * fr + 93 ≤ na) (htr : 93 * tr + 93 ≤ nb) (hw : w a = lA G na f) (hv : w b = lA G nb t) : KM l G yX12_copy cX12_copy 5 (none) 0 0 0 [.ref (kad G a), vI (fr : Int), .ref (kad G b), vI (tr : Int)] w fl (kMuv fl (fun w1 => w1 b = lA G nb (cpR f t fr tr) ∧ ∀ j, j ≠ b → w1 j = w j)) := by
  refine KM_of2 hls (by decide +kernel) rfl (lv0 := [(0, .ref (kad G a)), (1, vI (fr : Int)), (2, .ref (kad G b)), (3, vI (tr : Int))]) rfl (Nat.le_of_ble_eq_true rfl) (fun p e R s m args below meth c Q hC hr hQ => ?_)
  refine k_iconst hC dX12_copy_0 ?_
  refine k_istore hC [(4, vI 0), (0, .ref (kad G a)), (1, vI (fr : Int)), (2, .ref (kad G b)), (3, vI (tr : Int))] dX12_copy_1 (by decide) rfl ?_
  have loop : ∀ (n : Nat) (k : Nat) (t2 : Nat → Int) (wv : Nat → va_E), (93 < n + k) → (k ≤ 93) → (∀ j, t2 j = if 93 * tr ≤ j ∧ j < 93 * tr + k then f (93 * fr + (j - 93 * tr)) else t j) → (wv a = lA G na f) → (wv b = lA G nb t2) → ((∀ j, j ≠ b → wv j = w j)) → KW p l e R s m args below meth c 5 G Q wv fl 0 0 3 [(4, vI (k : Int)), (0, .ref (kad G a)), (1, vI (fr : Int)), (2, .ref (kad G b)), (3, vI (tr : Int))] [] := by
    intro n
    induction n with
    | zero =>
      intro k t2 wv hn_ hk hq hw hv hfr
      exact absurd hn_ (by omega)
    | succ n ih =>
      intro k t2 wv hn_ hk hq hw hv hfr
      refine k_iload hC dX12_copy_3 0 rfl ?_
      refine k_bipush hC dX12_copy_5 (by decide) ?_
      refine k_icmp_ge hC 34 dX12_copy_7 rfl (by omega) (by omega) (fun c_7 => ?_) (fun c_7 => ?_)
      · subst hQ
        exact k_vret hC hr ⟨by decide, by decide⟩ (⟨rfl, rfl, (hv).trans (lA_congr (fun j hj => by rw [hq j, show k = 93 by omega]; rfl)), fun j hj => hfr j (by omega)⟩) dX12_copy_34
      · refine k_aload_n hC dX12_copy_10 rfl 3 rfl ?_
        refine k_bipush hC dX12_copy_11 (by decide) ?_
        refine k_iload_n hC dX12_copy_13 rfl 4 rfl ?_
        refine k_imul hC dX12_copy_14 ?_
        refine k_iload hC dX12_copy_15 0 rfl ?_
        refine k_iadd hC dX12_copy_17 ?_
        refine k_aload_n hC dX12_copy_18 rfl 1 rfl ?_
        refine k_bipush hC dX12_copy_19 (by decide) ?_
        refine k_iload_n hC dX12_copy_21 rfl 2 rfl ?_
        refine k_imul hC dX12_copy_22 ?_
        refine k_iload hC dX12_copy_23 0 rfl ?_
        refine k_iadd hC dX12_copy_25 ?_
        refine k_lald hC (kl hN (by omega)) hw (by omega) (by omega) dX12_copy_26 ?_
        refine k_topv (vL (f (((93 * (fr : Int)) + (k : Int)).toNat))) rfl ?_
        refine k_last hC (kl hN (by omega)) hv (by omega) (by omega) dX12_copy_27 (fun w1 hw1 hf1 => ?_)
        refine k_iinc hC (y := (k : Int) + 1) [(4, vI ((k : Int) + 1)), (0, .ref (kad G a)), (1, vI (fr : Int)), (2, .ref (kad G b)), (3, vI (tr : Int))] (j := 0) dX12_copy_28 rfl (by omega) (by decide) rfl ?_
        refine k_goto hC 3 dX12_copy_31 rfl ?_
        refine k_lvs (ls := [0, 1, 2, 3, 4]) [(4, vI ((k + 1 : Nat) : Int)), (0, .ref (kad G a)), (1, vI (fr : Int)), (2, .ref (kad G b)), (3, vI (tr : Int))] (by simp only [lv_pick]; rfl) ?_
        have h_2 : w1 a = lA G na f := (hf1 a (by omega)).trans hw
        exact ih (k + 1) (kup t2 ((93 * (tr : Int)) + (k : Int)).toNat (f (((93 * (fr : Int)) + (k : Int)).toNat))) w1 (by omega) (by omega) (fun j => by unfold kup; by_cases q : j = 93 * tr + k; (rw [if_pos (by omega), if_pos (by omega)]; exact congrArg f (by omega)); (rw [if_neg (by omega), hq j]; by_cases q2 : 93 * tr ≤ j ∧ j < 93 * tr + k; (rw [if_pos q2, if_pos (by omega)]); (rw [if_neg q2, if_neg (by omega)]))) h_2 hw1 (fun j hj => (hf1 j (by omega)).trans (hfr j (by omega)))
  refine k_lvs (ls := [0, 1, 2, 3, 4]) [(4, vI ((0 : Nat) : Int)), (0, .ref (kad G a)), (1, vI (fr : Int)), (2, .ref (kad G b)), (3, vI (tr : Int))] (by simp only [lv_pick]; rfl) ?_
  exact loop 94 0 t w (by omega) (by omega) (fun j => (if_neg (by omega)).symm) hw hv (fun j hj => rfl)

set_option maxRecDepth 100000 in
set_option maxHeartbeats 4000000 in
theorem c_X12_copyS (l : Launch) (hls : l.stackTraces = false) (G : kG) (hN : kN G = 150) (w : Nat → va_E) (fl : va_W) (b nb fr tr : Nat) (t : Nat → Int) (hfr2 : fr ≠ tr) (hb : b < 150) (hnb : nb ≤ 1000) (hfr : 93 * fr + 93 ≤ nb) (htr : 93 * tr + 93 ≤ nb) (hv : w b = lA G nb t) : KM l G yX12_copy cX12_copy 5 (none) 0 0 0 [.ref (kad G b), vI (fr : Int), .ref (kad G b), vI (tr : Int)] w fl (kMuv fl (fun w1 => w1 b = lA G nb (cpR t t fr tr) ∧ ∀ j, j ≠ b → w1 j = w j)) := by
  refine KM_of2 hls (by decide +kernel) rfl (lv0 := [(0, .ref (kad G b)), (1, vI (fr : Int)), (2, .ref (kad G b)), (3, vI (tr : Int))]) rfl (Nat.le_of_ble_eq_true rfl) (fun p e R s m args below meth c Q hC hr hQ => ?_)
  refine k_iconst hC dX12_copy_0 ?_
  refine k_istore hC [(4, vI 0), (0, .ref (kad G b)), (1, vI (fr : Int)), (2, .ref (kad G b)), (3, vI (tr : Int))] dX12_copy_1 (by decide) rfl ?_
  have loop : ∀ (n : Nat) (k : Nat) (t2 : Nat → Int) (wv : Nat → va_E), (93 < n + k) → (k ≤ 93) → (∀ j, t2 j = if 93 * tr ≤ j ∧ j < 93 * tr + k then t (93 * fr + (j - 93 * tr)) else t j) → (wv b = lA G nb t2) → ((∀ j, j ≠ b → wv j = w j)) → KW p l e R s m args below meth c 5 G Q wv fl 0 0 3 [(4, vI (k : Int)), (0, .ref (kad G b)), (1, vI (fr : Int)), (2, .ref (kad G b)), (3, vI (tr : Int))] [] := by
    intro n
    induction n with
    | zero =>
      intro k t2 wv hn_ hk hq hv hfr
      exact absurd hn_ (by omega)
    | succ n ih =>
      intro k t2 wv hn_ hk hq hv hfr
      refine k_iload hC dX12_copy_3 0 rfl ?_
      refine k_bipush hC dX12_copy_5 (by decide) ?_
      refine k_icmp_ge hC 34 dX12_copy_7 rfl (by omega) (by omega) (fun c_7 => ?_) (fun c_7 => ?_)
      · subst hQ
        exact k_vret hC hr ⟨by decide, by decide⟩ (⟨rfl, rfl, (hv).trans (lA_congr (fun j hj => by rw [hq j, show k = 93 by omega]; rfl)), fun j hj => hfr j (by omega)⟩) dX12_copy_34
      · refine k_aload_n hC dX12_copy_10 rfl 3 rfl ?_
        refine k_bipush hC dX12_copy_11 (by decide) ?_
        refine k_iload_n hC dX12_copy_13 rfl 4 rfl ?_
        refine k_imul hC dX12_copy_14 ?_
        refine k_iload hC dX12_copy_15 0 rfl ?_
        refine k_iadd hC dX12_copy_17 ?_
        refine k_aload_n hC dX12_copy_18 rfl 1 rfl ?_
        refine k_bipush hC dX12_copy_19 (by decide) ?_
        refine k_iload_n hC dX12_copy_21 rfl 2 rfl ?_
        refine k_imul hC dX12_copy_22 ?_
        refine k_iload hC dX12_copy_23 0 rfl ?_
        refine k_iadd hC dX12_copy_25 ?_
        refine k_lald hC (kl hN (by omega)) hv (by omega) (by omega) dX12_copy_26 ?_
        refine k_topv (vL (t2 (((93 * (fr : Int)) + (k : Int)).toNat))) rfl ?_
        refine k_topv (vL (t (93 * (fr : Int) + (k : Int)).toNat)) (congrArg vL (by rw [hq]; exact if_neg (by omega))) ?_
        refine k_last hC (kl hN (by omega)) hv (by omega) (by omega) dX12_copy_27 (fun w1 hw1 hf1 => ?_)
        refine k_iinc hC (y := (k : Int) + 1) [(4, vI ((k : Int) + 1)), (0, .ref (kad G b)), (1, vI (fr : Int)), (2, .ref (kad G b)), (3, vI (tr : Int))] (j := 0) dX12_copy_28 rfl (by omega) (by decide) rfl ?_
        refine k_goto hC 3 dX12_copy_31 rfl ?_
        refine k_lvs (ls := [0, 1, 2, 3, 4]) [(4, vI ((k + 1 : Nat) : Int)), (0, .ref (kad G b)), (1, vI (fr : Int)), (2, .ref (kad G b)), (3, vI (tr : Int))] (by simp only [lv_pick]; rfl) ?_
        exact ih (k + 1) (kup t2 ((93 * (tr : Int)) + (k : Int)).toNat (t (93 * (fr : Int) + (k : Int)).toNat)) w1 (by omega) (by omega) (fun j => by unfold kup; by_cases q : j = 93 * tr + k; (rw [if_pos (by omega), if_pos (by omega)]; exact congrArg t (by omega)); (rw [if_neg (by omega), hq j]; by_cases q2 : 93 * tr ≤ j ∧ j < 93 * tr + k; (rw [if_pos q2, if_pos (by omega)]); (rw [if_neg q2, if_neg (by omega)]))) hw1 (fun j hj => (hf1 j (by omega)).trans (hfr j (by omega)))
  refine k_lvs (ls := [0, 1, 2, 3, 4]) [(4, vI ((0 : Nat) : Int)), (0, .ref (kad G b)), (1, vI (fr : Int)), (2, .ref (kad G b)), (3, vI (tr : Int))] (by simp only [lv_pick]; rfl) ?_
  exact loop 94 0 t w (by omega) (by omega) (fun j => (if_neg (by omega)).symm) hv (fun j hj => rfl)

set_option maxRecDepth 100000 in
set_option maxHeartbeats 4000000 in
theorem c_X12_record (l : Launch) (hls : l.stackTraces = false) (G : kG) (hN : kN G = 150) (w : Nat → va_E) (fl : va_W) (u g H : Nat → Int) (cn : Nat) (hcn : u 4 = (cn : Int)) (hcn10 : cn ≤ 10) (hm0 : w 133 = mdO G u) (hn : w 134 = lA G 93 g) (hh : w 137 = lA G 930 H) : KM l G yX12_record cX12_record 2 (none) 1 0 0 [.ref (kad G 133)] w fl (kMuv fl (fun w1 => w1 133 = mdO G (kup u 4 (min ((cn : Int) + 1) 10)) ∧ (∃ H1, w1 137 = lA G 930 H1 ∧ hisP H g cn H1) ∧ ∀ j, (j ≠ 133 ∧ j ≠ 137) → w1 j = w j)) := by
  refine KM_of2 hls (by decide +kernel) rfl (lv0 := [(0, .ref (kad G 133))]) rfl (Nat.le_of_ble_eq_true rfl) (fun p e R s m args below meth c Q hC hr hQ => ?_)
  have hm : w 133 = mdO G (kup u 4 (cn : Int)) := hm0.trans (mdO_4 hcn)
  refine k_aload_n hC dX12_record_0 rfl 0 rfl ?_
  refine k_get hC fd_X12_351 (kl hN (by decide)) hm rfl dX12_record_1 ?_
  refine k_topv (vI (cn : Int)) rfl ?_
  refine k_bipush hC dX12_record_4 (by decide) ?_
  refine k_icmp_ne hC 48 dX12_record_6 rfl (by omega) (by omega) (fun c_6 => ?_) (fun c_6 => ?_)
  · refine k_aload_n hC dX12_record_48 rfl 0 rfl ?_
    refine k_get hC fd_X12_9 (kl hN (by decide)) hm rfl dX12_record_49 ?_
    refine k_iconst hC dX12_record_52 ?_
    refine k_aload_n hC dX12_record_53 rfl 0 rfl ?_
    refine k_get hC fd_X12_19 (kl hN (by decide)) hm rfl dX12_record_54 ?_
    refine k_aload_n hC dX12_record_57 rfl 0 rfl ?_
    refine k_get hC fd_X12_351 (kl hN (by decide)) hm rfl dX12_record_58 ?_
    refine k_topv (vI (cn : Int)) rfl ?_
    refine k_muvS hC (c_X12_copy l hls G hN w fl 134 137 93 930 0 cn g H (by decide) (by decide) (by decide) (by decide) (by decide) (by omega) (by omega) hn hh) yy_X12_copy wm_X12_354 rfl rfl (Nat.le_of_ble_eq_true rfl) (by decide) (by decide) ⟨by decide, by decide⟩ dX12_record_61 (fun w1 hp1 => ?_)
    obtain ⟨hr1, hf1⟩ := hp1
    refine k_aload_n hC dX12_record_64 rfl 0 rfl ?_
    refine k_dup hC dX12_record_65 rfl ?_
    have h_2 : w1 133 = .inr (12, [.ref (kad G 134), .ref (kad G 135), .ref (kad G 136), .ref (kad G 137), vI (cn : Int), vI (u 5), vI (u 6), .ref (kad G 138), .ref (kad G 139), .ref (kad G 140), .ref (kad G 141), .ref (kad G 142), vL (u 12), vL (u 13), .ref (kad G 143), vI (u 15), .ref (kad G 144), vI (u 17), vI (u 18), vI (u 19), vI (u 20), vI (u 21), vI (u 22), vI (u 23), vI (u 24), vI (u 25), .ref (kad G 145), .ref (kad G 146), .ref (kad G 147), vI (u 29)]) := (hf1 133 (by decide)).trans hm
    refine k_get hC fd_X12_351 (kl hN (by decide)) h_2 rfl dX12_record_66 ?_
    refine k_topv (vI (cn : Int)) rfl ?_
    refine k_iconst hC dX12_record_69 ?_
    refine k_iadd hC dX12_record_70 ?_
    refine k_put hC fd_X12_351 (kl hN (by decide)) h_2 [.ref (kad G 134), .ref (kad G 135), .ref (kad G 136), .ref (kad G 137), vI ((cn : Int) + 1), vI (u 5), vI (u 6), .ref (kad G 138), .ref (kad G 139), .ref (kad G 140), .ref (kad G 141), .ref (kad G 142), vL (u 12), vL (u 13), .ref (kad G 143), vI (u 15), .ref (kad G 144), vI (u 17), vI (u 18), vI (u 19), vI (u 20), vI (u 21), vI (u 22), vI (u 23), vI (u 24), vI (u 25), .ref (kad G 145), .ref (kad G 146), .ref (kad G 147), vI (u 29)] rfl (Nat.le_of_ble_eq_true rfl) rfl rfl dX12_record_71 (fun w3 hw3 hf3 => ?_)
    have h_4 : w3 137 = lA G 930 (cpR g H 0 cn) := (hf3 137 (by decide)).trans hr1
    subst hQ
    exact k_vret hC hr ⟨by decide, by decide⟩ (⟨rfl, rfl, (by have e9 : min ((cn : Int) + 1) 10 = (cn : Int) + 1 := (by omega); rw [e9]; exact hw3), ⟨_, h_4, ⟨fun r2 j hj hr2 => by rw [if_neg (by omega)]; unfold cpR; rw [if_neg (by omega)], fun j hj => by rw [show min cn 9 = cn by omega]; unfold cpR; rw [if_pos (by omega)]; exact congrArg g (by omega)⟩⟩, fun j hj => (hf3 j (by omega)).trans (hf1 j (by omega))⟩) dX12_record_74
  · refine k_iconst hC dX12_record_9 ?_
    refine k_istore_n hC [(1, vI 1), (0, .ref (kad G 133))] dX12_record_10 rfl (by decide) rfl ?_
    have loop : ∀ (n : Nat) (r : Nat) (H2 : Nat → Int) (wv : Nat → va_E), (9 < n + r) → (r ≤ 9) → (∀ q j : Nat, j < 93 → (q < r → H2 (93 * q + j) = H (93 * (q + 1) + j)) ∧ (r ≤ q → H2 (93 * q + j) = H (93 * q + j))) → (wv 133 = .inr (12, [.ref (kad G 134), .ref (kad G 135), .ref (kad G 136), .ref (kad G 137), vI (cn : Int), vI (u 5), vI (u 6), .ref (kad G 138), .ref (kad G 139), .ref (kad G 140), .ref (kad G 141), .ref (kad G 142), vL (u 12), vL (u 13), .ref (kad G 143), vI (u 15), .ref (kad G 144), vI (u 17), vI (u 18), vI (u 19), vI (u 20), vI (u 21), vI (u 22), vI (u 23), vI (u 24), vI (u 25), .ref (kad G 145), .ref (kad G 146), .ref (kad G 147), vI (u 29)])) → (wv 134 = lA G 93 g) → (wv 137 = lA G 930 H2) → ((∀ j, j ≠ 137 → wv j = w j)) → KW p l e R s m args below meth c 2 G Q wv fl 0 0 11 [(1, vI ((r + 1 : Nat) : Int)), (0, .ref (kad G 133))] [] := by
      intro n
      induction n with
      | zero =>
        intro r H2 wv hn_ hr9 hq hm hn hh hfr
        exact absurd hn_ (by omega)
      | succ n ih =>
        intro r H2 wv hn_ hr9 hq hm hn hh hfr
        refine k_iload_n hC dX12_record_11 rfl 0 rfl ?_
        refine k_bipush hC dX12_record_12 (by decide) ?_
        refine k_icmp_ge hC 38 dX12_record_14 rfl (by omega) (by omega) (fun c_14 => ?_) (fun c_14 => ?_)
        · refine k_aload_n hC dX12_record_38 rfl 1 rfl ?_
          refine k_dup hC dX12_record_39 rfl ?_
          refine k_get hC fd_X12_351 (kl hN (by decide)) hm rfl dX12_record_40 ?_
          refine k_topv (vI (cn : Int)) rfl ?_
          refine k_iconst hC dX12_record_43 ?_
          refine k_isub hC dX12_record_44 ?_
          refine k_topv (vI ((9 : Nat) : Int)) (congrArg vI (by omega)) ?_
          refine k_put hC fd_X12_351 (kl hN (by decide)) hm [.ref (kad G 134), .ref (kad G 135), .ref (kad G 136), .ref (kad G 137), vI ((9 : Nat) : Int), vI (u 5), vI (u 6), .ref (kad G 138), .ref (kad G 139), .ref (kad G 140), .ref (kad G 141), .ref (kad G 142), vL (u 12), vL (u 13), .ref (kad G 143), vI (u 15), .ref (kad G 144), vI (u 17), vI (u 18), vI (u 19), vI (u 20), vI (u 21), vI (u 22), vI (u 23), vI (u 24), vI (u 25), .ref (kad G 145), .ref (kad G 146), .ref (kad G 147), vI (u 29)] rfl (Nat.le_of_ble_eq_true rfl) rfl rfl dX12_record_45 (fun w5 hw5 hf5 => ?_)
          refine k_aload_n hC dX12_record_48 rfl 1 rfl ?_
          refine k_get hC fd_X12_9 (kl hN (by decide)) hw5 rfl dX12_record_49 ?_
          refine k_iconst hC dX12_record_52 ?_
          refine k_aload_n hC dX12_record_53 rfl 1 rfl ?_
          refine k_get hC fd_X12_19 (kl hN (by decide)) hw5 rfl dX12_record_54 ?_
          refine k_aload_n hC dX12_record_57 rfl 1 rfl ?_
          refine k_get hC fd_X12_351 (kl hN (by decide)) hw5 rfl dX12_record_58 ?_
          refine k_topv (vI ((9 : Nat) : Int)) rfl ?_
          have h_6 : w5 134 = lA G 93 g := (hf5 134 (by decide)).trans hn
          have h_7 : w5 137 = lA G 930 H2 := (hf5 137 (by decide)).trans hh
          refine k_muvS hC (c_X12_copy l hls G hN w5 fl 134 137 93 930 0 9 g H2 (by decide) (by decide) (by decide) (by decide) (by decide) (by omega) (by omega) h_6 h_7) yy_X12_copy wm_X12_354 rfl rfl (Nat.le_of_ble_eq_true rfl) (by decide) (by decide) ⟨by decide, by decide⟩ dX12_record_61 (fun w8 hp8 => ?_)
          obtain ⟨hr8, hf8⟩ := hp8
          refine k_aload_n hC dX12_record_64 rfl 1 rfl ?_
          refine k_dup hC dX12_record_65 rfl ?_
          have h_9 : w8 133 = .inr (12, [.ref (kad G 134), .ref (kad G 135), .ref (kad G 136), .ref (kad G 137), vI ((9 : Nat) : Int), vI (u 5), vI (u 6), .ref (kad G 138), .ref (kad G 139), .ref (kad G 140), .ref (kad G 141), .ref (kad G 142), vL (u 12), vL (u 13), .ref (kad G 143), vI (u 15), .ref (kad G 144), vI (u 17), vI (u 18), vI (u 19), vI (u 20), vI (u 21), vI (u 22), vI (u 23), vI (u 24), vI (u 25), .ref (kad G 145), .ref (kad G 146), .ref (kad G 147), vI (u 29)]) := (hf8 133 (by decide)).trans hw5
          refine k_get hC fd_X12_351 (kl hN (by decide)) h_9 rfl dX12_record_66 ?_
          refine k_topv (vI ((9 : Nat) : Int)) rfl ?_
          refine k_iconst hC dX12_record_69 ?_
          refine k_iadd hC dX12_record_70 ?_
          refine k_put hC fd_X12_351 (kl hN (by decide)) h_9 [.ref (kad G 134), .ref (kad G 135), .ref (kad G 136), .ref (kad G 137), vI (((9 : Nat) : Int) + 1), vI (u 5), vI (u 6), .ref (kad G 138), .ref (kad G 139), .ref (kad G 140), .ref (kad G 141), .ref (kad G 142), vL (u 12), vL (u 13), .ref (kad G 143), vI (u 15), .ref (kad G 144), vI (u 17), vI (u 18), vI (u 19), vI (u 20), vI (u 21), vI (u 22), vI (u 23), vI (u 24), vI (u 25), .ref (kad G 145), .ref (kad G 146), .ref (kad G 147), vI (u 29)] rfl (Nat.le_of_ble_eq_true rfl) rfl rfl dX12_record_71 (fun w10 hw10 hf10 => ?_)
          have h_11 : w10 137 = lA G 930 (cpR g H2 0 9) := (hf10 137 (by decide)).trans hr8
          subst hQ
          exact k_vret hC hr ⟨by decide, by decide⟩ (⟨rfl, rfl, (by have e9 : min ((cn : Int) + 1) 10 = ((9 : Nat) : Int) + 1 := (by omega); rw [e9]; exact hw10), ⟨_, h_11, ⟨fun r2 j hj hr2 => by rw [if_pos (by omega)]; unfold cpR; rw [if_neg (by omega)]; exact (hq r2 j hj).1 (by omega), fun j hj => by rw [show min cn 9 = 9 by omega]; unfold cpR; rw [if_pos (by omega)]; exact congrArg g (by omega)⟩⟩, fun j hj => (hf10 j (by omega)).trans ((hf8 j (by omega)).trans ((hf5 j (by omega)).trans (hfr j (by omega))))⟩) dX12_record_74
        · refine k_aload_n hC dX12_record_17 rfl 1 rfl ?_
          refine k_get hC fd_X12_19 (kl hN (by decide)) hm rfl dX12_record_18 ?_
          refine k_iload_n hC dX12_record_21 rfl 0 rfl ?_
          refine k_aload_n hC dX12_record_22 rfl 1 rfl ?_
          refine k_get hC fd_X12_19 (kl hN (by decide)) hm rfl dX12_record_23 ?_
          refine k_iload_n hC dX12_record_26 rfl 0 rfl ?_
          refine k_iconst hC dX12_record_27 ?_
          refine k_isub hC dX12_record_28 ?_
          refine k_topv (vI (r : Int)) (congrArg vI (by omega)) ?_
          refine k_muvS hC (c_X12_copyS l hls G hN wv fl 137 930 (r + 1) r H2 (by omega) (by decide) (by decide) (by omega) (by omega) hh) yy_X12_copy wm_X12_354 rfl rfl (Nat.le_of_ble_eq_true rfl) (by decide) (by decide) ⟨by decide, by decide⟩ dX12_record_29 (fun w12 hp12 => ?_)
          obtain ⟨hr12, hf12⟩ := hp12
          refine k_iinc hC (y := ((r + 1 : Nat) : Int) + 1) [(1, vI (((r + 1 : Nat) : Int) + 1)), (0, .ref (kad G 133))] (j := 0) dX12_record_32 rfl (by omega) (by decide) rfl ?_
          refine k_goto hC 11 dX12_record_35 rfl ?_
          refine k_lvs (ls := [0, 1]) [(1, vI ((r + 1 + 1 : Nat) : Int)), (0, .ref (kad G 133))] (by simp only [lv_pick]; rfl) ?_
          have h_13 : w12 133 = .inr (12, [.ref (kad G 134), .ref (kad G 135), .ref (kad G 136), .ref (kad G 137), vI (cn : Int), vI (u 5), vI (u 6), .ref (kad G 138), .ref (kad G 139), .ref (kad G 140), .ref (kad G 141), .ref (kad G 142), vL (u 12), vL (u 13), .ref (kad G 143), vI (u 15), .ref (kad G 144), vI (u 17), vI (u 18), vI (u 19), vI (u 20), vI (u 21), vI (u 22), vI (u 23), vI (u 24), vI (u 25), .ref (kad G 145), .ref (kad G 146), .ref (kad G 147), vI (u 29)]) := (hf12 133 (by decide)).trans hm
          have h_14 : w12 134 = lA G 93 g := (hf12 134 (by decide)).trans hn
          exact ih (r + 1) (cpR H2 H2 (r + 1) r) w12 (by omega) (by omega) (fun q j hj => by unfold cpR; by_cases e : q = r; (subst e; rw [if_pos (by omega), show 93 * (q + 1) + (93 * q + j - 93 * q) = 93 * (q + 1) + j by omega]; exact ⟨fun _ => (hq (q + 1) j hj).2 (by omega), fun h => absurd h (by omega)⟩); (rw [if_neg (by omega)]; exact ⟨fun h => (hq q j hj).1 (by omega), fun h => (hq q j hj).2 (by omega)⟩)) h_13 h_14 hr12 (fun j hj => (hf12 j (by omega)).trans (hfr j (by omega)))
    refine k_lvs (ls := [0, 1]) [(1, vI ((0 + 1 : Nat) : Int)), (0, .ref (kad G 133))] (by simp only [lv_pick]; rfl) ?_
    exact loop 10 0 H w (by omega) (by omega) (fun q j hj => ⟨fun h => absurd h (by omega), fun _ => rfl⟩) hm hn hh (fun j hj => rfl)

theorem mdO_4x {G : kG} {u : Nat → Int} {c th : Int} (h : u 4 = c) : mdO G (kup (kup u 4 c) 5 th) = mdO G (kup u 5 th) := by subst h; rfl
set_option maxRecDepth 100000 in
set_option maxHeartbeats 4000000 in
theorem c_X12_observe (l : Launch) (hls : l.stackTraces = false) (G : kG) (hN : kN G = 150) (w : Nat → va_E) (fl : va_W) (u g : Nat → Int) (H : Nat → Int) (cn : Nat) (b T a : Int) (hb : -2147483648 ≤ b ∧ b ≤ 2147483647) (hT : -2147483648 ≤ T ∧ T ≤ 2147483647) (ha : -2147483648 ≤ a ∧ a ≤ 2147483647) (hI : Inv g) (hcn : u 4 = (cn : Int)) (hcn10 : cn ≤ 10) (hm0 : w 133 = mdO G u) (hn : w 134 = lA G 93 g) (hh : w 137 = lA G 930 H) : KM l G yX12_observe cX12_observe 4 (some (FieldType.int)) 2 0 0 [.ref (kad G 133), vI b, vI T, vI a] w fl (kRt (thR (((0 ≤ b ∧ b < g 0) ∧ (0 ≤ T ∧ T ≤ 5000)) ∧ (300 ≤ a ∧ a ≤ 5100)) (if 12 ≤ g 2 then -2 else g 2) (¬ (0 ≤ b ∧ b < g 0)) 1 ((0 ≤ b ∧ b < g 0) ∧ ¬ ((0 ≤ T ∧ T ≤ 5000) ∧ (300 ≤ a ∧ a ≤ 5100))) 2) fl (fun th w1 => mOp G w w1 u g H cn th (12 ≤ g 2) (addSightM g b T a))) := by
  refine KM_of2 hls (by decide +kernel) rfl (lv0 := [(0, .ref (kad G 133)), (1, vI b), (2, vI T), (3, vI a)]) rfl (Nat.le_of_ble_eq_true rfl) (fun p e R s m args below meth c Q hC hr hQ => ?_)
  have hm : w 133 = mdO G (kup u 4 (cn : Int)) := hm0.trans (mdO_4 hcn)
  have h0 := hI.c
  refine k_aload_n hC dX12_observe_0 rfl 0 rfl ?_
  refine k_aload_n hC dX12_observe_1 rfl 0 rfl ?_
  refine k_iload_n hC dX12_observe_2 rfl 1 rfl ?_
  refine k_pureV hC (c_X12_isBody l hls G hN w fl (kup u 4 (cn : Int)) g b (by omega) hI hm hn) yy_X12_isBody wm_X12_253 (kl hN (by decide)) hm rfl rfl rfl rfl (Nat.le_of_ble_eq_true rfl) (by decide) (by decide) ⟨by decide, by decide⟩ dX12_observe_3 ?_
  obtain ⟨z_1, ez_1, hz_1⟩ := k_bI (0 ≤ b ∧ b ≤ g 0 - 1)
  refine k_topv (vI z_1) (by rw [ez_1]) ?_
  refine k_if_ne hC 13 dX12_observe_6 rfl (by omega) (fun c_6 => ?_) (fun c_6 => ?_)
  · refine k_aload_n hC dX12_observe_13 rfl 0 rfl ?_
    refine k_iload_n hC dX12_observe_14 rfl 2 rfl ?_
    refine k_pureV hC (c_X12_isTime l hls G hN w fl (kup u 4 (cn : Int)) g T (by omega) hI hm hn) yy_X12_isTime wm_X12_262 (kl hN (by decide)) hm rfl rfl rfl rfl (Nat.le_of_ble_eq_true rfl) (by decide) (by decide) ⟨by decide, by decide⟩ dX12_observe_15 ?_
    obtain ⟨z_2, ez_2, hz_2⟩ := k_bI (0 ≤ T ∧ T ≤ 5000)
    refine k_topv (vI z_2) (by rw [ez_2]) ?_
    refine k_if_eq hC 39 dX12_observe_18 rfl (by omega) (fun c_18 => ?_) (fun c_18 => ?_)
    · refine k_iconst hC dX12_observe_39 ?_
      refine k_put hC fd_X12_74 (kl hN (by decide)) hm [.ref (kad G 134), .ref (kad G 135), .ref (kad G 136), .ref (kad G 137), vI (cn : Int), vI 2, vI (u 6), .ref (kad G 138), .ref (kad G 139), .ref (kad G 140), .ref (kad G 141), .ref (kad G 142), vL (u 12), vL (u 13), .ref (kad G 143), vI (u 15), .ref (kad G 144), vI (u 17), vI (u 18), vI (u 19), vI (u 20), vI (u 21), vI (u 22), vI (u 23), vI (u 24), vI (u 25), .ref (kad G 145), .ref (kad G 146), .ref (kad G 147), vI (u 29)] rfl (Nat.le_of_ble_eq_true rfl) rfl rfl dX12_observe_40 (fun w3 hw3 hf3 => ?_)
      refine k_aload_n hC dX12_observe_43 rfl 0 rfl ?_
      refine k_get hC fd_X12_74 (kl hN (by decide)) hw3 rfl dX12_observe_44 ?_
      refine k_topv (vI 2) rfl ?_
      refine k_if_eq hC 52 dX12_observe_47 rfl (by omega) (fun c_47 => absurd c_47 (by omega)) (fun c_47 => ?_)
      refine k_iconst hC dX12_observe_50 ?_
      subst hQ
      exact k_iret hC hr ⟨by decide, by decide⟩ (⟨_, 2, rfl, rfl, Or.inr (Or.inr ⟨by omega, rfl⟩), Or.inl ⟨Or.inl (by decide), (hw3).trans (mdO_4x hcn), fun j hj => hf3 j (by omega)⟩⟩) dX12_observe_51
    · refine k_iload_n hC dX12_observe_21 rfl 3 rfl ?_
      refine k_i2l hC dX12_observe_22 (by omega) ?_
      refine k_ldc2 hC (x := 300) (v := 300) dX12_observe_23 (by decide) wk_X12_303 ?_
      refine k_ldc2 hC (x := 5100) (v := 5100) dX12_observe_26 (by decide) wk_X12_305 ?_
      refine k_pureS hC (c_X12_inRange l hls G hN w fl a 300 5100 (by omega) (by omega) (by omega)) yy_X12_inRange wm_X12_243 rfl rfl (Nat.le_of_ble_eq_true rfl) (by decide) (by decide) ⟨by decide, by decide⟩ dX12_observe_29 ?_
      refine k_topv (vI (if 300 ≤ a ∧ a ≤ 5100 then 1 else 0)) rfl ?_
      obtain ⟨z_4, ez_4, hz_4⟩ := k_bI (300 ≤ a ∧ a ≤ 5100)
      refine k_topv (vI z_4) (by rw [ez_4]) ?_
      refine k_if_eq hC 39 dX12_observe_32 rfl (by omega) (fun c_32 => ?_) (fun c_32 => ?_)
      · refine k_iconst hC dX12_observe_39 ?_
        refine k_put hC fd_X12_74 (kl hN (by decide)) hm [.ref (kad G 134), .ref (kad G 135), .ref (kad G 136), .ref (kad G 137), vI (cn : Int), vI 2, vI (u 6), .ref (kad G 138), .ref (kad G 139), .ref (kad G 140), .ref (kad G 141), .ref (kad G 142), vL (u 12), vL (u 13), .ref (kad G 143), vI (u 15), .ref (kad G 144), vI (u 17), vI (u 18), vI (u 19), vI (u 20), vI (u 21), vI (u 22), vI (u 23), vI (u 24), vI (u 25), .ref (kad G 145), .ref (kad G 146), .ref (kad G 147), vI (u 29)] rfl (Nat.le_of_ble_eq_true rfl) rfl rfl dX12_observe_40 (fun w5 hw5 hf5 => ?_)
        refine k_aload_n hC dX12_observe_43 rfl 0 rfl ?_
        refine k_get hC fd_X12_74 (kl hN (by decide)) hw5 rfl dX12_observe_44 ?_
        refine k_topv (vI 2) rfl ?_
        refine k_if_eq hC 52 dX12_observe_47 rfl (by omega) (fun c_47 => absurd c_47 (by omega)) (fun c_47 => ?_)
        refine k_iconst hC dX12_observe_50 ?_
        subst hQ
        exact k_iret hC hr ⟨by decide, by decide⟩ (⟨_, 2, rfl, rfl, Or.inr (Or.inr ⟨by omega, rfl⟩), Or.inl ⟨Or.inl (by decide), (hw5).trans (mdO_4x hcn), fun j hj => hf5 j (by omega)⟩⟩) dX12_observe_51
      · refine k_iconst hC dX12_observe_35 ?_
        refine k_goto hC 40 dX12_observe_36 rfl ?_
        refine k_put hC fd_X12_74 (kl hN (by decide)) hm [.ref (kad G 134), .ref (kad G 135), .ref (kad G 136), .ref (kad G 137), vI (cn : Int), vI 0, vI (u 6), .ref (kad G 138), .ref (kad G 139), .ref (kad G 140), .ref (kad G 141), .ref (kad G 142), vL (u 12), vL (u 13), .ref (kad G 143), vI (u 15), .ref (kad G 144), vI (u 17), vI (u 18), vI (u 19), vI (u 20), vI (u 21), vI (u 22), vI (u 23), vI (u 24), vI (u 25), .ref (kad G 145), .ref (kad G 146), .ref (kad G 147), vI (u 29)] rfl (Nat.le_of_ble_eq_true rfl) rfl rfl dX12_observe_40 (fun w6 hw6 hf6 => ?_)
        refine k_aload_n hC dX12_observe_43 rfl 0 rfl ?_
        refine k_get hC fd_X12_74 (kl hN (by decide)) hw6 rfl dX12_observe_44 ?_
        refine k_topv (vI 0) rfl ?_
        refine k_if_eq hC 52 dX12_observe_47 rfl (by omega) (fun c_47 => ?_) (fun c_47 => absurd c_47 (by omega))
        refine k_aload_n hC dX12_observe_52 rfl 0 rfl ?_
        refine k_get hC fd_X12_9 (kl hN (by decide)) hw6 rfl dX12_observe_53 ?_
        refine k_iconst hC dX12_observe_56 ?_
        have h_7 : w6 134 = lA G 93 g := (hf6 134 (by decide)).trans hn
        refine k_lald hC (kl hN (by decide)) h_7 (by omega) (by decide) dX12_observe_57 ?_
        refine k_topv (vL (g 2)) rfl ?_
        refine k_ldc2 hC (x := 12) (v := 12) dX12_observe_58 (by decide) wk_X12_307 ?_
        refine k_lcmp_ne hC 68 dX12_observe_61 dX12_observe_62 rfl (by omega) (by omega) (fun c_61 => ?_) (fun c_61 => ?_)
        · refine k_aload_n hC dX12_observe_68 rfl 0 rfl ?_
          have h_9 : w6 137 = lA G 930 H := (hf6 137 (by decide)).trans hh
          refine k_muvV hC (c_X12_record l hls G hN w6 fl (kup (kup u 4 (cn : Int)) 5 0) g H cn rfl hcn10 hw6 h_7 h_9) yy_X12_record wm_X12_309 (kl hN (by decide)) hw6 rfl rfl rfl rfl (Nat.le_of_ble_eq_true rfl) (by decide) (by decide) ⟨by decide, by decide⟩ dX12_observe_69 (fun w8 hp8 => ?_)
          obtain ⟨hu8, ⟨H1, hH8, hHp⟩, hf8⟩ := hp8
          refine k_aload_n hC dX12_observe_72 rfl 0 rfl ?_
          refine k_get hC fd_X12_9 (kl hN (by decide)) hu8 rfl dX12_observe_73 ?_
          refine k_iload_n hC dX12_observe_76 rfl 1 rfl ?_
          refine k_i2l hC dX12_observe_77 (by omega) ?_
          refine k_iload_n hC dX12_observe_78 rfl 2 rfl ?_
          refine k_i2l hC dX12_observe_79 (by omega) ?_
          refine k_iload_n hC dX12_observe_80 rfl 3 rfl ?_
          refine k_i2l hC dX12_observe_81 (by omega) ?_
          have h_10 : w8 134 = lA G 93 g := (hf8 134 (by decide)).trans h_7
          refine k_muvS hC (c_X12_addSight l hls G hN w8 fl 134 g b T a (by decide) (by omega) h_10) yy_X12_addSight wm_X12_312 rfl rfl (Nat.le_of_ble_eq_true rfl) (by decide) (by decide) ⟨by decide, by decide⟩ dX12_observe_82 (fun w11 hp11 => ?_)
          obtain ⟨hr11, hf11⟩ := hp11
          refine k_aload_n hC dX12_observe_85 rfl 0 rfl ?_
          have h_12 : w11 133 = .inr (12, [.ref (kad G 134), .ref (kad G 135), .ref (kad G 136), .ref (kad G 137), vI (min ((cn : Int) + 1) 10), vI 0, vI (u 6), .ref (kad G 138), .ref (kad G 139), .ref (kad G 140), .ref (kad G 141), .ref (kad G 142), vL (u 12), vL (u 13), .ref (kad G 143), vI (u 15), .ref (kad G 144), vI (u 17), vI (u 18), vI (u 19), vI (u 20), vI (u 21), vI (u 22), vI (u 23), vI (u 24), vI (u 25), .ref (kad G 145), .ref (kad G 146), .ref (kad G 147), vI (u 29)]) := (hf11 133 (by decide)).trans hu8
          refine k_get hC fd_X12_9 (kl hN (by decide)) h_12 rfl dX12_observe_86 ?_
          refine k_iconst hC dX12_observe_89 ?_
          refine k_lald hC (kl hN (by decide)) hr11 (by omega) (by decide) dX12_observe_90 ?_
          refine k_topv (vL ((addSightM g b T a) 2)) rfl ?_
          refine k_l2i hC dX12_observe_91 ?_
          refine k_iconst hC dX12_observe_92 ?_
          refine k_isub hC dX12_observe_93 ?_
          have h_13 : w11 137 = lA G 930 H1 := (hf11 137 (by decide)).trans hH8
          subst hQ
          exact k_iret hC hr ⟨by decide, by decide⟩ (⟨_, 0, rfl, rfl, Or.inl ⟨by omega, rfl, (show ((((addSightM g b T a) 2) - 1 : Int) = if 12 ≤ g 2 then -2 else g 2) from (by rw [if_neg (by omega)]; show g 2 + 1 - 1 = g 2; omega))⟩, Or.inr ⟨⟨rfl, by omega⟩, h_12, hr11, ⟨_, h_13, hHp⟩, fun j hj => (hf11 j (by omega)).trans ((hf8 j (by omega)).trans (hf6 j (by omega)))⟩⟩) dX12_observe_94
        · refine k_bipush hC dX12_observe_65 (by decide) ?_
          subst hQ
          exact k_iret hC hr ⟨by decide, by decide⟩ (⟨_, 0, rfl, rfl, Or.inl ⟨by omega, rfl, (show ((-2 : Int) = if 12 ≤ g 2 then -2 else g 2) from (by exact (if_pos (by omega)).symm))⟩, Or.inl ⟨Or.inr (by omega), (hw6).trans (mdO_4x hcn), fun j hj => hf6 j (by omega)⟩⟩) dX12_observe_67
  · refine k_iconst hC dX12_observe_9 ?_
    refine k_goto hC 40 dX12_observe_10 rfl ?_
    refine k_put hC fd_X12_74 (kl hN (by decide)) hm [.ref (kad G 134), .ref (kad G 135), .ref (kad G 136), .ref (kad G 137), vI (cn : Int), vI 1, vI (u 6), .ref (kad G 138), .ref (kad G 139), .ref (kad G 140), .ref (kad G 141), .ref (kad G 142), vL (u 12), vL (u 13), .ref (kad G 143), vI (u 15), .ref (kad G 144), vI (u 17), vI (u 18), vI (u 19), vI (u 20), vI (u 21), vI (u 22), vI (u 23), vI (u 24), vI (u 25), .ref (kad G 145), .ref (kad G 146), .ref (kad G 147), vI (u 29)] rfl (Nat.le_of_ble_eq_true rfl) rfl rfl dX12_observe_40 (fun w14 hw14 hf14 => ?_)
    refine k_aload_n hC dX12_observe_43 rfl 0 rfl ?_
    refine k_get hC fd_X12_74 (kl hN (by decide)) hw14 rfl dX12_observe_44 ?_
    refine k_topv (vI 1) rfl ?_
    refine k_if_eq hC 52 dX12_observe_47 rfl (by omega) (fun c_47 => absurd c_47 (by omega)) (fun c_47 => ?_)
    refine k_iconst hC dX12_observe_50 ?_
    subst hQ
    exact k_iret hC hr ⟨by decide, by decide⟩ (⟨_, 1, rfl, rfl, Or.inr (Or.inl ⟨by omega, rfl⟩), Or.inl ⟨Or.inl (by decide), (hw14).trans (mdO_4x hcn), fun j hj => hf14 j (by omega)⟩⟩) dX12_observe_51

set_option maxRecDepth 100000 in
set_option maxHeartbeats 4000000 in
theorem c_X12_drop (l : Launch) (hls : l.stackTraces = false) (G : kG) (hN : kN G = 150) (w : Nat → va_E) (fl : va_W) (u g : Nat → Int) (H : Nat → Int) (cn : Nat) (i : Int) (hi : -2147483648 ≤ i ∧ i ≤ 2147483647) (hI : Inv g) (hcn : u 4 = (cn : Int)) (hcn10 : cn ≤ 10) (hm0 : w 133 = mdO G u) (hn : w 134 = lA G 93 g) (hh : w 137 = lA G 930 H) : KM l G yX12_drop cX12_drop 3 (some (FieldType.int)) 2 0 0 [.ref (kad G 133), vI i] w fl (kRt (thR ((0 ≤ i ∧ i < g 2)) (g 2 - 1) (¬ (0 ≤ i ∧ i < g 2)) 1 (False) 2) fl (fun th w1 => mOp G w w1 u g H cn th (False) (dropM g i.toNat))) := by
  refine KM_of2 hls (by decide +kernel) rfl (lv0 := [(0, .ref (kad G 133)), (1, vI i)]) rfl (Nat.le_of_ble_eq_true rfl) (fun p e R s m args below meth c Q hC hr hQ => ?_)
  have hm : w 133 = mdO G (kup u 4 (cn : Int)) := hm0.trans (mdO_4 hcn)
  have h0 := hI.c
  refine k_aload_n hC dX12_drop_0 rfl 0 rfl ?_
  refine k_iconst hC dX12_drop_1 ?_
  refine k_put hC fd_X12_74 (kl hN (by decide)) hm [.ref (kad G 134), .ref (kad G 135), .ref (kad G 136), .ref (kad G 137), vI (cn : Int), vI 0, vI (u 6), .ref (kad G 138), .ref (kad G 139), .ref (kad G 140), .ref (kad G 141), .ref (kad G 142), vL (u 12), vL (u 13), .ref (kad G 143), vI (u 15), .ref (kad G 144), vI (u 17), vI (u 18), vI (u 19), vI (u 20), vI (u 21), vI (u 22), vI (u 23), vI (u 24), vI (u 25), .ref (kad G 145), .ref (kad G 146), .ref (kad G 147), vI (u 29)] rfl (Nat.le_of_ble_eq_true rfl) rfl rfl dX12_drop_2 (fun w1 hw1 hf1 => ?_)
  refine k_aload_n hC dX12_drop_5 rfl 0 rfl ?_
  refine k_iload_n hC dX12_drop_6 rfl 1 rfl ?_
  have h_2 : w1 134 = lA G 93 g := (hf1 134 (by decide)).trans hn
  refine k_pureV hC (c_X12_isSight l hls G hN w1 fl (kup (kup u 4 (cn : Int)) 5 0) g i (by omega) hI hw1 h_2) yy_X12_isSight wm_X12_265 (kl hN (by decide)) hw1 rfl rfl rfl rfl (Nat.le_of_ble_eq_true rfl) (by decide) (by decide) ⟨by decide, by decide⟩ dX12_drop_7 ?_
  obtain ⟨z_3, ez_3, hz_3⟩ := k_bI (0 ≤ i ∧ i ≤ g 2 - 1)
  refine k_topv (vI z_3) (by rw [ez_3]) ?_
  refine k_if_ne hC 19 dX12_drop_10 rfl (by omega) (fun c_10 => ?_) (fun c_10 => ?_)
  · obtain ⟨k, ek⟩ : ∃ zz : Nat, i = (zz : Int) := ⟨i.toNat, by omega⟩
    subst ek
    refine k_aload_n hC dX12_drop_19 rfl 0 rfl ?_
    have h_5 : w1 137 = lA G 930 H := (hf1 137 (by decide)).trans hh
    refine k_muvV hC (c_X12_record l hls G hN w1 fl (kup (kup u 4 (cn : Int)) 5 0) g H cn rfl hcn10 hw1 h_2 h_5) yy_X12_record wm_X12_309 (kl hN (by decide)) hw1 rfl rfl rfl rfl (Nat.le_of_ble_eq_true rfl) (by decide) (by decide) ⟨by decide, by decide⟩ dX12_drop_20 (fun w4 hp4 => ?_)
    obtain ⟨hu4, ⟨H1, hH4, hHp⟩, hf4⟩ := hp4
    refine k_aload_n hC dX12_drop_23 rfl 0 rfl ?_
    refine k_get hC fd_X12_9 (kl hN (by decide)) hu4 rfl dX12_drop_24 ?_
    refine k_iconst hC dX12_drop_27 ?_
    refine k_dup2 hC dX12_drop_28 rfl rfl ?_
    have h_6 : w4 134 = lA G 93 g := (hf4 134 (by decide)).trans h_2
    refine k_lald hC (kl hN (by decide)) h_6 (by omega) (by decide) dX12_drop_29 ?_
    refine k_topv (vL (g 2)) rfl ?_
    refine k_lconst (x := 1) hC dX12_drop_30 (by decide) ?_
    refine k_lsub hC dX12_drop_31 ?_
    refine k_last hC (kl hN (by decide)) h_6 (by omega) (by decide) dX12_drop_32 (fun w7 hw7 hf7 => ?_)
    refine k_bipush hC dX12_drop_33 (by decide) ?_
    refine k_iconst hC dX12_drop_35 ?_
    refine k_iload_n hC dX12_drop_36 rfl 1 rfl ?_
    refine k_imul hC dX12_drop_37 ?_
    refine k_iadd hC dX12_drop_38 ?_
    refine k_istore_n hC [(2, vI (57 + (3 * (k : Int)))), (0, .ref (kad G 133)), (1, vI (k : Int))] dX12_drop_39 rfl (by decide) rfl ?_
    have loop : ∀ (n : Nat) (q : Nat) (f2 : Nat → Int) (wv : Nat → va_E), ((57 + 3 * (g 2 - 1)).toNat < n + q) → (57 + 3 * k ≤ q ∧ (q : Int) ≤ 57 + 3 * (g 2 - 1)) → (∀ j, f2 j = if j = 2 then g 2 - 1 else if 57 + 3 * k ≤ j ∧ j < q then g (j + 3) else g j) → (wv 133 = .inr (12, [.ref (kad G 134), .ref (kad G 135), .ref (kad G 136), .ref (kad G 137), vI (min ((cn : Int) + 1) 10), vI 0, vI (u 6), .ref (kad G 138), .ref (kad G 139), .ref (kad G 140), .ref (kad G 141), .ref (kad G 142), vL (u 12), vL (u 13), .ref (kad G 143), vI (u 15), .ref (kad G 144), vI (u 17), vI (u 18), vI (u 19), vI (u 20), vI (u 21), vI (u 22), vI (u 23), vI (u 24), vI (u 25), .ref (kad G 145), .ref (kad G 146), .ref (kad G 147), vI (u 29)])) → (wv 134 = lA G 93 f2) → (wv 137 = lA G 930 H1) → ((∀ j, (j ≠ 133 ∧ j ≠ 134 ∧ j ≠ 137) → wv j = w j)) → KW p l e R s m args below meth c 3 G Q wv fl 0 0 40 [(2, vI (q : Int)), (0, .ref (kad G 133))] [] := by
      intro n
      induction n with
      | zero =>
        intro q f2 wv hn_ hq hf2 hm hn hh hfr
        exact absurd hn_ (by omega)
      | succ n ih =>
        intro q f2 wv hn_ hq hf2 hm hn hh hfr
        have hf22 : f2 2 = g 2 - 1 := hf2 2
        refine k_iload_n hC dX12_drop_40 rfl 0 rfl ?_
        refine k_i2l hC dX12_drop_41 (by omega) ?_
        refine k_ldc2 hC (x := 57) (v := 57) dX12_drop_42 (by decide) wk_X12_316 ?_
        refine k_ldc2 hC (x := 3) (v := 3) dX12_drop_45 (by decide) wk_X12_142 ?_
        refine k_aload_n hC dX12_drop_48 rfl 1 rfl ?_
        refine k_get hC fd_X12_9 (kl hN (by decide)) hm rfl dX12_drop_49 ?_
        refine k_iconst hC dX12_drop_52 ?_
        refine k_lald hC (kl hN (by decide)) hn (by omega) (by decide) dX12_drop_53 ?_
        refine k_topv (vL (f2 2)) rfl ?_
        refine k_lmul hC dX12_drop_54 ?_
        refine k_ladd hC dX12_drop_55 ?_
        refine k_lcmp_ge hC 80 dX12_drop_56 dX12_drop_57 rfl (by omega) (by omega) (fun c_56 => ?_) (fun c_56 => ?_)
        · refine k_aload_n hC dX12_drop_80 rfl 1 rfl ?_
          refine k_get hC fd_X12_9 (kl hN (by decide)) hm rfl dX12_drop_81 ?_
          refine k_iconst hC dX12_drop_84 ?_
          refine k_lald hC (kl hN (by decide)) hn (by omega) (by decide) dX12_drop_85 ?_
          refine k_topv (vL (f2 2)) rfl ?_
          refine k_l2i hC dX12_drop_86 ?_
          subst hQ
          exact k_iret hC hr ⟨by decide, by decide⟩ (⟨_, 0, rfl, rfl, Or.inl ⟨by omega, rfl, (show ((f2 2 : Int) = g 2 - 1) from hf22)⟩, Or.inr ⟨⟨rfl, not_false⟩, hm, (hn).trans (lA_congr (fun j hj => by rw [hf2 j]; show _ = dropM g k j; unfold dropM; by_cases e2 : j = 2; (rw [if_pos e2, if_pos e2]); (rw [if_neg e2, if_neg e2]; by_cases e3 : 57 + 3 * k ≤ j ∧ j < q; (rw [if_pos e3, if_pos (by omega)]); (rw [if_neg e3, if_neg (by omega)])))), ⟨_, hh, hHp⟩, fun j hj => hfr j (by omega)⟩⟩) dX12_drop_87
        · refine k_aload_n hC dX12_drop_60 rfl 1 rfl ?_
          refine k_get hC fd_X12_9 (kl hN (by decide)) hm rfl dX12_drop_61 ?_
          refine k_iload_n hC dX12_drop_64 rfl 0 rfl ?_
          refine k_aload_n hC dX12_drop_65 rfl 1 rfl ?_
          refine k_get hC fd_X12_9 (kl hN (by decide)) hm rfl dX12_drop_66 ?_
          refine k_iload_n hC dX12_drop_69 rfl 0 rfl ?_
          refine k_iconst hC dX12_drop_70 ?_
          refine k_iadd hC dX12_drop_71 ?_
          refine k_lald hC (kl hN (by decide)) hn (by omega) (by decide) dX12_drop_72 ?_
          refine k_topv (vL (f2 (q + 3))) rfl ?_
          refine k_last hC (kl hN (by decide)) hn (by omega) (by decide) dX12_drop_73 (fun w8 hw8 hf8 => ?_)
          refine k_iinc hC (y := (q : Int) + 1) [(2, vI ((q : Int) + 1)), (0, .ref (kad G 133))] (j := 0) dX12_drop_74 rfl (by omega) (by decide) rfl ?_
          refine k_goto hC 40 dX12_drop_77 rfl ?_
          refine k_lvs (ls := [0, 1]) [(2, vI ((q + 1 : Nat) : Int)), (0, .ref (kad G 133))] (by simp only [lv_pick]; rfl) ?_
          have h_9 : w8 133 = .inr (12, [.ref (kad G 134), .ref (kad G 135), .ref (kad G 136), .ref (kad G 137), vI (min ((cn : Int) + 1) 10), vI 0, vI (u 6), .ref (kad G 138), .ref (kad G 139), .ref (kad G 140), .ref (kad G 141), .ref (kad G 142), vL (u 12), vL (u 13), .ref (kad G 143), vI (u 15), .ref (kad G 144), vI (u 17), vI (u 18), vI (u 19), vI (u 20), vI (u 21), vI (u 22), vI (u 23), vI (u 24), vI (u 25), .ref (kad G 145), .ref (kad G 146), .ref (kad G 147), vI (u 29)]) := (hf8 133 (by decide)).trans hm
          have h_10 : w8 137 = lA G 930 H1 := (hf8 137 (by decide)).trans hh
          exact ih (q + 1) (kup f2 ((q : Int)).toNat (f2 (q + 3))) w8 (by omega) (by omega) (fun j => by unfold kup; by_cases e : j = q; (rw [if_pos (by omega), if_neg (by omega), if_pos (by omega), hf2, if_neg (by omega), if_neg (by omega)]; exact congrArg g (by omega)); (rw [if_neg (by omega), hf2 j]; by_cases e2 : j = 2; (rw [if_pos e2, if_pos e2]); (rw [if_neg e2, if_neg e2]; by_cases e3 : 57 + 3 * k ≤ j ∧ j < q; (rw [if_pos e3, if_pos (by omega)]); (rw [if_neg e3, if_neg (by omega)])))) h_9 hw8 h_10 (fun j hj => (hf8 j (by omega)).trans (hfr j (by omega)))
    refine k_lvs (ls := [0, 1]) [(2, vI (57 + (3 * (k : Int)))), (0, .ref (kad G 133))] rfl ?_
    refine k_lvs (ls := [0, 1]) [(2, vI ((57 + 3 * k : Nat) : Int)), (0, .ref (kad G 133))] (by simp only [lv_pick]; rfl) ?_
    have h_11 : w7 133 = .inr (12, [.ref (kad G 134), .ref (kad G 135), .ref (kad G 136), .ref (kad G 137), vI (min ((cn : Int) + 1) 10), vI 0, vI (u 6), .ref (kad G 138), .ref (kad G 139), .ref (kad G 140), .ref (kad G 141), .ref (kad G 142), vL (u 12), vL (u 13), .ref (kad G 143), vI (u 15), .ref (kad G 144), vI (u 17), vI (u 18), vI (u 19), vI (u 20), vI (u 21), vI (u 22), vI (u 23), vI (u 24), vI (u 25), .ref (kad G 145), .ref (kad G 146), .ref (kad G 147), vI (u 29)]) := (hf7 133 (by decide)).trans hu4
    have h_12 : w7 137 = lA G 930 H1 := (hf7 137 (by decide)).trans hH4
    exact loop 100 (57 + 3 * k) (kup g 2 ((g 2) - 1)) w7 (by omega) (by omega) (fun j => by unfold kup; by_cases e : j = 2; (rw [if_pos e, if_pos e]); (rw [if_neg e, if_neg e, if_neg (by omega)])) h_11 hw7 h_12 (fun j hj => (hf7 j (by omega)).trans ((hf4 j (by omega)).trans (hf1 j (by omega))))
  · refine k_aload_n hC dX12_drop_13 rfl 0 rfl ?_
    refine k_iconst hC dX12_drop_14 ?_
    refine k_mutV hC (c_X12_raise l hls G hN w1 fl (kup (kup u 4 (cn : Int)) 5 0) 1 hw1) yy_X12_raise wm_X12_247 (kl hN (by decide)) hw1 rfl rfl rfl rfl (Nat.le_of_ble_eq_true rfl) (by decide) (by decide) ⟨by decide, by decide⟩ dX12_drop_15 (fun w13 hp13 => ?_)
    obtain ⟨hu13, hf13⟩ := hp13
    subst hQ
    exact k_iret hC hr ⟨by decide, by decide⟩ (⟨_, 1, rfl, rfl, Or.inr (Or.inl ⟨by omega, rfl⟩), Or.inl ⟨Or.inl (by decide), (hu13).trans (mdO_4x hcn), fun j hj => (hf13 j (by omega)).trans (hf1 j (by omega))⟩⟩) dX12_drop_18

set_option maxRecDepth 100000 in
set_option maxHeartbeats 4000000 in
theorem c_X12_steer (l : Launch) (hls : l.stackTraces = false) (G : kG) (hN : kN G = 150) (w : Nat → va_E) (fl : va_W) (u g : Nat → Int) (H : Nat → Int) (cn : Nat) (T d v : Int) (hT : -2147483648 ≤ T ∧ T ≤ 2147483647) (hd : -2147483648 ≤ d ∧ d ≤ 2147483647) (hv : -2147483648 ≤ v ∧ v ≤ 2147483647) (hI : Inv g) (hcn : u 4 = (cn : Int)) (hcn10 : cn ≤ 10) (hm0 : w 133 = mdO G u) (hn : w 134 = lA G 93 g) (hh : w 137 = lA G 930 H) : KM l G yX12_steer cX12_steer 4 (some (FieldType.int)) 2 0 0 [.ref (kad G 133), vI T, vI d, vI v] w fl (kRt (thR (((0 ≤ T ∧ T ≤ 5000) ∧ (0 ≤ d ∧ d ≤ 21599)) ∧ (0 ≤ v ∧ v ≤ 400)) (if 8 ≤ g 1 then -2 else if T ≤ lastM g then -3 else g 1) (False) 1 (¬ (((0 ≤ T ∧ T ≤ 5000) ∧ (0 ≤ d ∧ d ≤ 21599)) ∧ (0 ≤ v ∧ v ≤ 400))) 1) fl (fun th w1 => mOp G w w1 u g H cn th ((8 ≤ g 1 ∨ T ≤ lastM g)) (addLegM g T d v))) := by
  refine KM_of2 hls (by decide +kernel) rfl (lv0 := [(0, .ref (kad G 133)), (1, vI T), (2, vI d), (3, vI v)]) rfl (Nat.le_of_ble_eq_true rfl) (fun p e R s m args below meth c Q hC hr hQ => ?_)
  have hm : w 133 = mdO G (kup u 4 (cn : Int)) := hm0.trans (mdO_4 hcn)
  have h0 := hI.c
  refine k_aload_n hC dX12_steer_0 rfl 0 rfl ?_
  refine k_iconst hC dX12_steer_1 ?_
  refine k_put hC fd_X12_74 (kl hN (by decide)) hm [.ref (kad G 134), .ref (kad G 135), .ref (kad G 136), .ref (kad G 137), vI (cn : Int), vI 0, vI (u 6), .ref (kad G 138), .ref (kad G 139), .ref (kad G 140), .ref (kad G 141), .ref (kad G 142), vL (u 12), vL (u 13), .ref (kad G 143), vI (u 15), .ref (kad G 144), vI (u 17), vI (u 18), vI (u 19), vI (u 20), vI (u 21), vI (u 22), vI (u 23), vI (u 24), vI (u 25), .ref (kad G 145), .ref (kad G 146), .ref (kad G 147), vI (u 29)] rfl (Nat.le_of_ble_eq_true rfl) rfl rfl dX12_steer_2 (fun w1 hw1 hf1 => ?_)
  refine k_aload_n hC dX12_steer_5 rfl 0 rfl ?_
  refine k_iload_n hC dX12_steer_6 rfl 1 rfl ?_
  have h_2 : w1 134 = lA G 93 g := (hf1 134 (by decide)).trans hn
  refine k_pureV hC (c_X12_isTime l hls G hN w1 fl (kup (kup u 4 (cn : Int)) 5 0) g T (by omega) hI hw1 h_2) yy_X12_isTime wm_X12_262 (kl hN (by decide)) hw1 rfl rfl rfl rfl (Nat.le_of_ble_eq_true rfl) (by decide) (by decide) ⟨by decide, by decide⟩ dX12_steer_7 ?_
  obtain ⟨z_3, ez_3, hz_3⟩ := k_bI (0 ≤ T ∧ T ≤ 5000)
  refine k_topv (vI z_3) (by rw [ez_3]) ?_
  refine k_if_eq hC 37 dX12_steer_10 rfl (by omega) (fun c_10 => ?_) (fun c_10 => ?_)
  · refine k_aload_n hC dX12_steer_37 rfl 0 rfl ?_
    refine k_iconst hC dX12_steer_38 ?_
    refine k_mutV hC (c_X12_raise l hls G hN w1 fl (kup (kup u 4 (cn : Int)) 5 0) 1 hw1) yy_X12_raise wm_X12_247 (kl hN (by decide)) hw1 rfl rfl rfl rfl (Nat.le_of_ble_eq_true rfl) (by decide) (by decide) ⟨by decide, by decide⟩ dX12_steer_39 (fun w4 hp4 => ?_)
    obtain ⟨hu4, hf4⟩ := hp4
    subst hQ
    exact k_iret hC hr ⟨by decide, by decide⟩ (⟨_, 1, rfl, rfl, Or.inr (Or.inr ⟨by omega, rfl⟩), Or.inl ⟨Or.inl (by decide), (hu4).trans (mdO_4x hcn), fun j hj => (hf4 j (by omega)).trans (hf1 j (by omega))⟩⟩) dX12_steer_42
  · refine k_iload_n hC dX12_steer_13 rfl 2 rfl ?_
    refine k_i2l hC dX12_steer_14 (by omega) ?_
    refine k_lconst (x := 0) hC dX12_steer_15 (by decide) ?_
    refine k_ldc2 hC (x := 21599) (v := 21599) dX12_steer_16 (by decide) wk_X12_318 ?_
    refine k_pureS hC (c_X12_inRange l hls G hN w1 fl d 0 21599 (by omega) (by omega) (by omega)) yy_X12_inRange wm_X12_243 rfl rfl (Nat.le_of_ble_eq_true rfl) (by decide) (by decide) ⟨by decide, by decide⟩ dX12_steer_19 ?_
    refine k_topv (vI (if 0 ≤ d ∧ d ≤ 21599 then 1 else 0)) rfl ?_
    obtain ⟨z_5, ez_5, hz_5⟩ := k_bI (0 ≤ d ∧ d ≤ 21599)
    refine k_topv (vI z_5) (by rw [ez_5]) ?_
    refine k_if_eq hC 37 dX12_steer_22 rfl (by omega) (fun c_22 => ?_) (fun c_22 => ?_)
    · refine k_aload_n hC dX12_steer_37 rfl 0 rfl ?_
      refine k_iconst hC dX12_steer_38 ?_
      refine k_mutV hC (c_X12_raise l hls G hN w1 fl (kup (kup u 4 (cn : Int)) 5 0) 1 hw1) yy_X12_raise wm_X12_247 (kl hN (by decide)) hw1 rfl rfl rfl rfl (Nat.le_of_ble_eq_true rfl) (by decide) (by decide) ⟨by decide, by decide⟩ dX12_steer_39 (fun w6 hp6 => ?_)
      obtain ⟨hu6, hf6⟩ := hp6
      subst hQ
      exact k_iret hC hr ⟨by decide, by decide⟩ (⟨_, 1, rfl, rfl, Or.inr (Or.inr ⟨by omega, rfl⟩), Or.inl ⟨Or.inl (by decide), (hu6).trans (mdO_4x hcn), fun j hj => (hf6 j (by omega)).trans (hf1 j (by omega))⟩⟩) dX12_steer_42
    · refine k_iload_n hC dX12_steer_25 rfl 3 rfl ?_
      refine k_i2l hC dX12_steer_26 (by omega) ?_
      refine k_lconst (x := 0) hC dX12_steer_27 (by decide) ?_
      refine k_ldc2 hC (x := 400) (v := 400) dX12_steer_28 (by decide) wk_X12_320 ?_
      refine k_pureS hC (c_X12_inRange l hls G hN w1 fl v 0 400 (by omega) (by omega) (by omega)) yy_X12_inRange wm_X12_243 rfl rfl (Nat.le_of_ble_eq_true rfl) (by decide) (by decide) ⟨by decide, by decide⟩ dX12_steer_31 ?_
      refine k_topv (vI (if 0 ≤ v ∧ v ≤ 400 then 1 else 0)) rfl ?_
      obtain ⟨z_7, ez_7, hz_7⟩ := k_bI (0 ≤ v ∧ v ≤ 400)
      refine k_topv (vI z_7) (by rw [ez_7]) ?_
      refine k_if_ne hC 43 dX12_steer_34 rfl (by omega) (fun c_34 => ?_) (fun c_34 => ?_)
      · refine k_aload_n hC dX12_steer_43 rfl 0 rfl ?_
        refine k_get hC fd_X12_9 (kl hN (by decide)) hw1 rfl dX12_steer_44 ?_
        refine k_iconst hC dX12_steer_47 ?_
        refine k_lald hC (kl hN (by decide)) h_2 (by omega) (by decide) dX12_steer_48 ?_
        refine k_topv (vL (g 1)) rfl ?_
        refine k_ldc2 hC (x := 8) (v := 8) dX12_steer_49 (by decide) wk_X12_251 ?_
        refine k_lcmp_ne hC 59 dX12_steer_52 dX12_steer_53 rfl (by omega) (by omega) (fun c_52 => ?_) (fun c_52 => ?_)
        · refine k_aload_n hC dX12_steer_59 rfl 0 rfl ?_
          refine k_get hC fd_X12_9 (kl hN (by decide)) hw1 rfl dX12_steer_60 ?_
          refine k_iconst hC dX12_steer_63 ?_
          refine k_lald hC (kl hN (by decide)) h_2 (by omega) (by decide) dX12_steer_64 ?_
          refine k_topv (vL (g 1)) rfl ?_
          refine k_lconst (x := 0) hC dX12_steer_65 (by decide) ?_
          refine k_lcmp_le hC 93 dX12_steer_66 dX12_steer_67 rfl (by omega) (by omega) (fun c_66 => ?_) (fun c_66 => ?_)
          · have elm : lastM g = -1 := by unfold lastM; rw [if_pos (by omega)]
            refine k_aload_n hC dX12_steer_93 rfl 0 rfl ?_
            have h_9 : w1 137 = lA G 930 H := (hf1 137 (by decide)).trans hh
            refine k_muvV hC (c_X12_record l hls G hN w1 fl (kup (kup u 4 (cn : Int)) 5 0) g H cn rfl hcn10 hw1 h_2 h_9) yy_X12_record wm_X12_309 (kl hN (by decide)) hw1 rfl rfl rfl rfl (Nat.le_of_ble_eq_true rfl) (by decide) (by decide) ⟨by decide, by decide⟩ dX12_steer_94 (fun w8 hp8 => ?_)
            obtain ⟨hu8, ⟨H1, hH8, hHp⟩, hf8⟩ := hp8
            refine k_aload_n hC dX12_steer_97 rfl 0 rfl ?_
            refine k_get hC fd_X12_9 (kl hN (by decide)) hu8 rfl dX12_steer_98 ?_
            refine k_iload_n hC dX12_steer_101 rfl 1 rfl ?_
            refine k_i2l hC dX12_steer_102 (by omega) ?_
            refine k_iload_n hC dX12_steer_103 rfl 2 rfl ?_
            refine k_i2l hC dX12_steer_104 (by omega) ?_
            refine k_iload_n hC dX12_steer_105 rfl 3 rfl ?_
            refine k_i2l hC dX12_steer_106 (by omega) ?_
            have h_10 : w8 134 = lA G 93 g := (hf8 134 (by decide)).trans h_2
            refine k_muvS hC (c_X12_addLeg l hls G hN w8 fl 134 g T d v (by decide) (by omega) h_10) yy_X12_addLeg wm_X12_322 rfl rfl (Nat.le_of_ble_eq_true rfl) (by decide) (by decide) ⟨by decide, by decide⟩ dX12_steer_107 (fun w11 hp11 => ?_)
            obtain ⟨hr11, hf11⟩ := hp11
            refine k_aload_n hC dX12_steer_110 rfl 0 rfl ?_
            have h_12 : w11 133 = .inr (12, [.ref (kad G 134), .ref (kad G 135), .ref (kad G 136), .ref (kad G 137), vI (min ((cn : Int) + 1) 10), vI 0, vI (u 6), .ref (kad G 138), .ref (kad G 139), .ref (kad G 140), .ref (kad G 141), .ref (kad G 142), vL (u 12), vL (u 13), .ref (kad G 143), vI (u 15), .ref (kad G 144), vI (u 17), vI (u 18), vI (u 19), vI (u 20), vI (u 21), vI (u 22), vI (u 23), vI (u 24), vI (u 25), .ref (kad G 145), .ref (kad G 146), .ref (kad G 147), vI (u 29)]) := (hf11 133 (by decide)).trans hu8
            refine k_get hC fd_X12_9 (kl hN (by decide)) h_12 rfl dX12_steer_111 ?_
            refine k_iconst hC dX12_steer_114 ?_
            refine k_lald hC (kl hN (by decide)) hr11 (by omega) (by decide) dX12_steer_115 ?_
            refine k_topv (vL ((addLegM g T d v) 1)) rfl ?_
            refine k_l2i hC dX12_steer_116 ?_
            refine k_iconst hC dX12_steer_117 ?_
            refine k_isub hC dX12_steer_118 ?_
            have h_13 : w11 137 = lA G 930 H1 := (hf11 137 (by decide)).trans hH8
            subst hQ
            exact k_iret hC hr ⟨by decide, by decide⟩ (⟨_, 0, rfl, rfl, Or.inl ⟨by omega, rfl, (show ((((addLegM g T d v) 1) - 1 : Int) = if 8 ≤ g 1 then -2 else if T ≤ lastM g then -3 else g 1) from (by rw [if_neg (by omega), if_neg (by omega)]; show g 1 + 1 - 1 = g 1; omega))⟩, Or.inr ⟨⟨rfl, by omega⟩, h_12, hr11, ⟨_, h_13, hHp⟩, fun j hj => (hf11 j (by omega)).trans ((hf8 j (by omega)).trans (hf1 j (by omega)))⟩⟩) dX12_steer_119
          · refine k_iload_n hC dX12_steer_70 rfl 1 rfl ?_
            refine k_i2l hC dX12_steer_71 (by omega) ?_
            refine k_aload_n hC dX12_steer_72 rfl 0 rfl ?_
            refine k_aload_n hC dX12_steer_73 rfl 0 rfl ?_
            refine k_get hC fd_X12_9 (kl hN (by decide)) hw1 rfl dX12_steer_74 ?_
            refine k_iconst hC dX12_steer_77 ?_
            refine k_lald hC (kl hN (by decide)) h_2 (by omega) (by decide) dX12_steer_78 ?_
            refine k_topv (vL (g 1)) rfl ?_
            refine k_l2i hC dX12_steer_79 ?_
            refine k_iconst hC dX12_steer_80 ?_
            refine k_isub hC dX12_steer_81 ?_
            obtain ⟨kz, ekl⟩ : ∃ z : Nat, g 1 - 1 = (z : Int) := ⟨(g 1 - 1).toNat, by omega⟩
            have elm : lastM g = g (33 + 3 * kz) := by unfold lastM; rw [if_neg (by omega), show (g 1 - 1).toNat = kz by omega]
            have hlk := hI.leg kz (by omega)
            refine k_topv (vI (kz : Int)) (congrArg vI ekl) ?_
            refine k_iconst hC dX12_steer_82 ?_
            refine k_pureV hC (c_X12_ofLeg l hls G hN w1 fl (kup (kup u 4 (cn : Int)) 5 0) g kz 0 (by omega) (by decide) hw1 h_2) yy_X12_ofLeg wm_X12_127 (kl hN (by decide)) hw1 rfl rfl rfl rfl (Nat.le_of_ble_eq_true rfl) (by decide) (by decide) ⟨by decide, by decide⟩ dX12_steer_83 ?_
            refine k_topv (vL (g (33 + 3 * kz))) rfl ?_
            refine k_lcmp_gt hC 93 dX12_steer_86 dX12_steer_87 rfl (by omega) (by omega) (fun c_86 => ?_) (fun c_86 => ?_)
            · refine k_aload_n hC dX12_steer_93 rfl 0 rfl ?_
              have h_15 : w1 137 = lA G 930 H := (hf1 137 (by decide)).trans hh
              refine k_muvV hC (c_X12_record l hls G hN w1 fl (kup (kup u 4 (cn : Int)) 5 0) g H cn rfl hcn10 hw1 h_2 h_15) yy_X12_record wm_X12_309 (kl hN (by decide)) hw1 rfl rfl rfl rfl (Nat.le_of_ble_eq_true rfl) (by decide) (by decide) ⟨by decide, by decide⟩ dX12_steer_94 (fun w14 hp14 => ?_)
              obtain ⟨hu14, ⟨H1, hH14, hHp⟩, hf14⟩ := hp14
              refine k_aload_n hC dX12_steer_97 rfl 0 rfl ?_
              refine k_get hC fd_X12_9 (kl hN (by decide)) hu14 rfl dX12_steer_98 ?_
              refine k_iload_n hC dX12_steer_101 rfl 1 rfl ?_
              refine k_i2l hC dX12_steer_102 (by omega) ?_
              refine k_iload_n hC dX12_steer_103 rfl 2 rfl ?_
              refine k_i2l hC dX12_steer_104 (by omega) ?_
              refine k_iload_n hC dX12_steer_105 rfl 3 rfl ?_
              refine k_i2l hC dX12_steer_106 (by omega) ?_
              have h_16 : w14 134 = lA G 93 g := (hf14 134 (by decide)).trans h_2
              refine k_muvS hC (c_X12_addLeg l hls G hN w14 fl 134 g T d v (by decide) (by omega) h_16) yy_X12_addLeg wm_X12_322 rfl rfl (Nat.le_of_ble_eq_true rfl) (by decide) (by decide) ⟨by decide, by decide⟩ dX12_steer_107 (fun w17 hp17 => ?_)
              obtain ⟨hr17, hf17⟩ := hp17
              refine k_aload_n hC dX12_steer_110 rfl 0 rfl ?_
              have h_18 : w17 133 = .inr (12, [.ref (kad G 134), .ref (kad G 135), .ref (kad G 136), .ref (kad G 137), vI (min ((cn : Int) + 1) 10), vI 0, vI (u 6), .ref (kad G 138), .ref (kad G 139), .ref (kad G 140), .ref (kad G 141), .ref (kad G 142), vL (u 12), vL (u 13), .ref (kad G 143), vI (u 15), .ref (kad G 144), vI (u 17), vI (u 18), vI (u 19), vI (u 20), vI (u 21), vI (u 22), vI (u 23), vI (u 24), vI (u 25), .ref (kad G 145), .ref (kad G 146), .ref (kad G 147), vI (u 29)]) := (hf17 133 (by decide)).trans hu14
              refine k_get hC fd_X12_9 (kl hN (by decide)) h_18 rfl dX12_steer_111 ?_
              refine k_iconst hC dX12_steer_114 ?_
              refine k_lald hC (kl hN (by decide)) hr17 (by omega) (by decide) dX12_steer_115 ?_
              refine k_topv (vL ((addLegM g T d v) 1)) rfl ?_
              refine k_l2i hC dX12_steer_116 ?_
              refine k_iconst hC dX12_steer_117 ?_
              refine k_isub hC dX12_steer_118 ?_
              have h_19 : w17 137 = lA G 930 H1 := (hf17 137 (by decide)).trans hH14
              subst hQ
              exact k_iret hC hr ⟨by decide, by decide⟩ (⟨_, 0, rfl, rfl, Or.inl ⟨by omega, rfl, (show ((((addLegM g T d v) 1) - 1 : Int) = if 8 ≤ g 1 then -2 else if T ≤ lastM g then -3 else g 1) from (by rw [if_neg (by omega), if_neg (by omega)]; show g 1 + 1 - 1 = g 1; omega))⟩, Or.inr ⟨⟨rfl, by omega⟩, h_18, hr17, ⟨_, h_19, hHp⟩, fun j hj => (hf17 j (by omega)).trans ((hf14 j (by omega)).trans (hf1 j (by omega)))⟩⟩) dX12_steer_119
            · refine k_bipush hC dX12_steer_90 (by decide) ?_
              subst hQ
              exact k_iret hC hr ⟨by decide, by decide⟩ (⟨_, 0, rfl, rfl, Or.inl ⟨by omega, rfl, (show ((-3 : Int) = if 8 ≤ g 1 then -2 else if T ≤ lastM g then -3 else g 1) from (by rw [if_neg (by omega), if_pos (by omega)]))⟩, Or.inl ⟨Or.inr (by omega), (hw1).trans (mdO_4x hcn), fun j hj => hf1 j (by omega)⟩⟩) dX12_steer_92
        · refine k_bipush hC dX12_steer_56 (by decide) ?_
          subst hQ
          exact k_iret hC hr ⟨by decide, by decide⟩ (⟨_, 0, rfl, rfl, Or.inl ⟨by omega, rfl, (show ((-2 : Int) = if 8 ≤ g 1 then -2 else if T ≤ lastM g then -3 else g 1) from (by exact (if_pos (by omega)).symm))⟩, Or.inl ⟨Or.inr (by omega), (hw1).trans (mdO_4x hcn), fun j hj => hf1 j (by omega)⟩⟩) dX12_steer_58
      · refine k_aload_n hC dX12_steer_37 rfl 0 rfl ?_
        refine k_iconst hC dX12_steer_38 ?_
        refine k_mutV hC (c_X12_raise l hls G hN w1 fl (kup (kup u 4 (cn : Int)) 5 0) 1 hw1) yy_X12_raise wm_X12_247 (kl hN (by decide)) hw1 rfl rfl rfl rfl (Nat.le_of_ble_eq_true rfl) (by decide) (by decide) ⟨by decide, by decide⟩ dX12_steer_39 (fun w20 hp20 => ?_)
        obtain ⟨hu20, hf20⟩ := hp20
        subst hQ
        exact k_iret hC hr ⟨by decide, by decide⟩ (⟨_, 1, rfl, rfl, Or.inr (Or.inr ⟨by omega, rfl⟩), Or.inl ⟨Or.inl (by decide), (hu20).trans (mdO_4x hcn), fun j hj => (hf20 j (by omega)).trans (hf1 j (by omega))⟩⟩) dX12_steer_42

set_option maxRecDepth 100000 in
set_option maxHeartbeats 4000000 in
theorem c_X12_setCurrent (l : Launch) (hls : l.stackTraces = false) (G : kG) (hN : kN G = 150) (w : Nat → va_E) (fl : va_W) (u g : Nat → Int) (H : Nat → Int) (cn : Nat) (a b : Int) (ha : -2147483648 ≤ a ∧ a ≤ 2147483647) (hb : -2147483648 ≤ b ∧ b ≤ 2147483647) (hI : Inv g) (hcn : u 4 = (cn : Int)) (hcn10 : cn ≤ 10) (hm0 : w 133 = mdO G u) (hn : w 134 = lA G 93 g) (hh : w 137 = lA G 930 H) : KM l G yX12_setCurrent cX12_setCurrent 4 (some (FieldType.int)) 2 0 0 [.ref (kad G 133), vI a, vI b] w fl (kRt (thR ((0 ≤ a ∧ a ≤ 21599) ∧ (0 ≤ b ∧ b ≤ 100)) (g 8) (False) 1 (¬ ((0 ≤ a ∧ a ≤ 21599) ∧ (0 ≤ b ∧ b ≤ 100))) 1) fl (fun th w1 => mOp G w w1 u g H cn th (False) (setM g 7 a 8 b))) := by
  refine KM_of2 hls (by decide +kernel) rfl (lv0 := [(0, .ref (kad G 133)), (1, vI a), (2, vI b)]) rfl (Nat.le_of_ble_eq_true rfl) (fun p e R s m args below meth c Q hC hr hQ => ?_)
  have hm : w 133 = mdO G (kup u 4 (cn : Int)) := hm0.trans (mdO_4 hcn)
  have h0 := hI.c
  refine k_aload_n hC dX12_setCurrent_0 rfl 0 rfl ?_
  refine k_iconst hC dX12_setCurrent_1 ?_
  refine k_put hC fd_X12_74 (kl hN (by decide)) hm [.ref (kad G 134), .ref (kad G 135), .ref (kad G 136), .ref (kad G 137), vI (cn : Int), vI 0, vI (u 6), .ref (kad G 138), .ref (kad G 139), .ref (kad G 140), .ref (kad G 141), .ref (kad G 142), vL (u 12), vL (u 13), .ref (kad G 143), vI (u 15), .ref (kad G 144), vI (u 17), vI (u 18), vI (u 19), vI (u 20), vI (u 21), vI (u 22), vI (u 23), vI (u 24), vI (u 25), .ref (kad G 145), .ref (kad G 146), .ref (kad G 147), vI (u 29)] rfl (Nat.le_of_ble_eq_true rfl) rfl rfl dX12_setCurrent_2 (fun w1 hw1 hf1 => ?_)
  refine k_iload_n hC dX12_setCurrent_5 rfl 1 rfl ?_
  refine k_i2l hC dX12_setCurrent_6 (by omega) ?_
  refine k_lconst (x := 0) hC dX12_setCurrent_7 (by decide) ?_
  refine k_ldc2 hC (x := 21599) (v := 21599) dX12_setCurrent_8 (by decide) wk_X12_318 ?_
  refine k_pureS hC (c_X12_inRange l hls G hN w1 fl a 0 21599 (by omega) (by omega) (by omega)) yy_X12_inRange wm_X12_243 rfl rfl (Nat.le_of_ble_eq_true rfl) (by decide) (by decide) ⟨by decide, by decide⟩ dX12_setCurrent_11 ?_
  refine k_topv (vI (if 0 ≤ a ∧ a ≤ 21599 then 1 else 0)) rfl ?_
  obtain ⟨z_2, ez_2, hz_2⟩ := k_bI (0 ≤ a ∧ a ≤ 21599)
  refine k_topv (vI z_2) (by rw [ez_2]) ?_
  refine k_if_eq hC 29 dX12_setCurrent_14 rfl (by omega) (fun c_14 => ?_) (fun c_14 => ?_)
  · refine k_aload_n hC dX12_setCurrent_29 rfl 0 rfl ?_
    refine k_iconst hC dX12_setCurrent_30 ?_
    refine k_mutV hC (c_X12_raise l hls G hN w1 fl (kup (kup u 4 (cn : Int)) 5 0) 1 hw1) yy_X12_raise wm_X12_247 (kl hN (by decide)) hw1 rfl rfl rfl rfl (Nat.le_of_ble_eq_true rfl) (by decide) (by decide) ⟨by decide, by decide⟩ dX12_setCurrent_31 (fun w3 hp3 => ?_)
    obtain ⟨hu3, hf3⟩ := hp3
    subst hQ
    exact k_iret hC hr ⟨by decide, by decide⟩ (⟨_, 1, rfl, rfl, Or.inr (Or.inr ⟨by omega, rfl⟩), Or.inl ⟨Or.inl (by decide), (hu3).trans (mdO_4x hcn), fun j hj => (hf3 j (by omega)).trans (hf1 j (by omega))⟩⟩) dX12_setCurrent_34
  · refine k_iload_n hC dX12_setCurrent_17 rfl 2 rfl ?_
    refine k_i2l hC dX12_setCurrent_18 (by omega) ?_
    refine k_lconst (x := 0) hC dX12_setCurrent_19 (by decide) ?_
    refine k_ldc2 hC (x := 100) (v := 100) dX12_setCurrent_20 (by decide) wk_X12_135 ?_
    refine k_pureS hC (c_X12_inRange l hls G hN w1 fl b 0 100 (by omega) (by omega) (by omega)) yy_X12_inRange wm_X12_243 rfl rfl (Nat.le_of_ble_eq_true rfl) (by decide) (by decide) ⟨by decide, by decide⟩ dX12_setCurrent_23 ?_
    refine k_topv (vI (if 0 ≤ b ∧ b ≤ 100 then 1 else 0)) rfl ?_
    obtain ⟨z_4, ez_4, hz_4⟩ := k_bI (0 ≤ b ∧ b ≤ 100)
    refine k_topv (vI z_4) (by rw [ez_4]) ?_
    refine k_if_ne hC 35 dX12_setCurrent_26 rfl (by omega) (fun c_26 => ?_) (fun c_26 => ?_)
    · refine k_aload_n hC dX12_setCurrent_35 rfl 0 rfl ?_
      have h_6 : w1 134 = lA G 93 g := (hf1 134 (by decide)).trans hn
      have h_7 : w1 137 = lA G 930 H := (hf1 137 (by decide)).trans hh
      refine k_muvV hC (c_X12_record l hls G hN w1 fl (kup (kup u 4 (cn : Int)) 5 0) g H cn rfl hcn10 hw1 h_6 h_7) yy_X12_record wm_X12_309 (kl hN (by decide)) hw1 rfl rfl rfl rfl (Nat.le_of_ble_eq_true rfl) (by decide) (by decide) ⟨by decide, by decide⟩ dX12_setCurrent_36 (fun w5 hp5 => ?_)
      obtain ⟨hu5, ⟨H1, hH5, hHp⟩, hf5⟩ := hp5
      refine k_aload_n hC dX12_setCurrent_39 rfl 0 rfl ?_
      refine k_get hC fd_X12_9 (kl hN (by decide)) hu5 rfl dX12_setCurrent_40 ?_
      refine k_bipush hC dX12_setCurrent_43 (by decide) ?_
      have h_8 : w5 134 = lA G 93 g := (hf5 134 (by decide)).trans h_6
      refine k_lald hC (kl hN (by decide)) h_8 (by omega) (by decide) dX12_setCurrent_45 ?_
      refine k_topv (vL (g 8)) rfl ?_
      refine k_l2i hC dX12_setCurrent_46 ?_
      refine k_istore_n hC [(3, vI (g 8)), (0, .ref (kad G 133)), (1, vI a), (2, vI b)] dX12_setCurrent_47 rfl (by decide) rfl ?_
      refine k_aload_n hC dX12_setCurrent_48 rfl 1 rfl ?_
      refine k_get hC fd_X12_9 (kl hN (by decide)) hu5 rfl dX12_setCurrent_49 ?_
      refine k_bipush hC dX12_setCurrent_52 (by decide) ?_
      refine k_iload_n hC dX12_setCurrent_54 rfl 2 rfl ?_
      refine k_i2l hC dX12_setCurrent_55 (by omega) ?_
      refine k_last hC (kl hN (by decide)) h_8 (by omega) (by decide) dX12_setCurrent_56 (fun w9 hw9 hf9 => ?_)
      refine k_aload_n hC dX12_setCurrent_57 rfl 1 rfl ?_
      have h_10 : w9 133 = .inr (12, [.ref (kad G 134), .ref (kad G 135), .ref (kad G 136), .ref (kad G 137), vI (min ((cn : Int) + 1) 10), vI 0, vI (u 6), .ref (kad G 138), .ref (kad G 139), .ref (kad G 140), .ref (kad G 141), .ref (kad G 142), vL (u 12), vL (u 13), .ref (kad G 143), vI (u 15), .ref (kad G 144), vI (u 17), vI (u 18), vI (u 19), vI (u 20), vI (u 21), vI (u 22), vI (u 23), vI (u 24), vI (u 25), .ref (kad G 145), .ref (kad G 146), .ref (kad G 147), vI (u 29)]) := (hf9 133 (by decide)).trans hu5
      refine k_get hC fd_X12_9 (kl hN (by decide)) h_10 rfl dX12_setCurrent_58 ?_
      refine k_bipush hC dX12_setCurrent_61 (by decide) ?_
      refine k_iload_n hC dX12_setCurrent_63 rfl 3 rfl ?_
      refine k_i2l hC dX12_setCurrent_64 (by omega) ?_
      refine k_last hC (kl hN (by decide)) hw9 (by omega) (by decide) dX12_setCurrent_65 (fun w11 hw11 hf11 => ?_)
      refine k_iload_n hC dX12_setCurrent_66 rfl 0 rfl ?_
      have h_12 : w11 133 = .inr (12, [.ref (kad G 134), .ref (kad G 135), .ref (kad G 136), .ref (kad G 137), vI (min ((cn : Int) + 1) 10), vI 0, vI (u 6), .ref (kad G 138), .ref (kad G 139), .ref (kad G 140), .ref (kad G 141), .ref (kad G 142), vL (u 12), vL (u 13), .ref (kad G 143), vI (u 15), .ref (kad G 144), vI (u 17), vI (u 18), vI (u 19), vI (u 20), vI (u 21), vI (u 22), vI (u 23), vI (u 24), vI (u 25), .ref (kad G 145), .ref (kad G 146), .ref (kad G 147), vI (u 29)]) := (hf11 133 (by decide)).trans h_10
      have h_13 : w11 137 = lA G 930 H1 := (hf11 137 (by decide)).trans ((hf9 137 (by decide)).trans hH5)
      subst hQ
      exact k_iret hC hr ⟨by decide, by decide⟩ (⟨_, 0, rfl, rfl, Or.inl ⟨by omega, rfl, (show ((g 8 : Int) = g 8) from rfl)⟩, Or.inr ⟨⟨rfl, not_false⟩, h_12, (hw11).trans (lA_congr (fun j hj => by simp only [setM, kup]; repeat (first | omega | rfl | split))), ⟨_, h_13, hHp⟩, fun j hj => (hf11 j (by omega)).trans ((hf9 j (by omega)).trans ((hf5 j (by omega)).trans (hf1 j (by omega))))⟩⟩) dX12_setCurrent_67
    · refine k_aload_n hC dX12_setCurrent_29 rfl 0 rfl ?_
      refine k_iconst hC dX12_setCurrent_30 ?_
      refine k_mutV hC (c_X12_raise l hls G hN w1 fl (kup (kup u 4 (cn : Int)) 5 0) 1 hw1) yy_X12_raise wm_X12_247 (kl hN (by decide)) hw1 rfl rfl rfl rfl (Nat.le_of_ble_eq_true rfl) (by decide) (by decide) ⟨by decide, by decide⟩ dX12_setCurrent_31 (fun w14 hp14 => ?_)
      obtain ⟨hu14, hf14⟩ := hp14
      subst hQ
      exact k_iret hC hr ⟨by decide, by decide⟩ (⟨_, 1, rfl, rfl, Or.inr (Or.inr ⟨by omega, rfl⟩), Or.inl ⟨Or.inl (by decide), (hu14).trans (mdO_4x hcn), fun j hj => (hf14 j (by omega)).trans (hf1 j (by omega))⟩⟩) dX12_setCurrent_34

set_option maxRecDepth 100000 in
set_option maxHeartbeats 4000000 in
theorem c_X12_correct (l : Launch) (hls : l.stackTraces = false) (G : kG) (hN : kN G = 150) (w : Nat → va_E) (fl : va_W) (u g : Nat → Int) (H : Nat → Int) (cn : Nat) (a b : Int) (ha : -2147483648 ≤ a ∧ a ≤ 2147483647) (hb : -2147483648 ≤ b ∧ b ≤ 2147483647) (hI : Inv g) (hcn : u 4 = (cn : Int)) (hcn10 : cn ≤ 10) (hm0 : w 133 = mdO G u) (hn : w 134 = lA G 93 g) (hh : w 137 = lA G 930 H) : KM l G yX12_correct cX12_correct 3 (some (FieldType.int)) 2 0 0 [.ref (kad G 133), vI a, vI b] w fl (kRt (thR ((0 ≤ a ∧ a ≤ 50) ∧ (-60 ≤ b ∧ b ≤ 60)) (dipM (setM g 5 a 6 b)) (False) 1 (¬ ((0 ≤ a ∧ a ≤ 50) ∧ (-60 ≤ b ∧ b ≤ 60))) 1) fl (fun th w1 => mOp G w w1 u g H cn th (False) (setM g 5 a 6 b))) := by
  refine KM_of2 hls (by decide +kernel) rfl (lv0 := [(0, .ref (kad G 133)), (1, vI a), (2, vI b)]) rfl (Nat.le_of_ble_eq_true rfl) (fun p e R s m args below meth c Q hC hr hQ => ?_)
  have hm : w 133 = mdO G (kup u 4 (cn : Int)) := hm0.trans (mdO_4 hcn)
  have h0 := hI.c
  refine k_aload_n hC dX12_correct_0 rfl 0 rfl ?_
  refine k_iconst hC dX12_correct_1 ?_
  refine k_put hC fd_X12_74 (kl hN (by decide)) hm [.ref (kad G 134), .ref (kad G 135), .ref (kad G 136), .ref (kad G 137), vI (cn : Int), vI 0, vI (u 6), .ref (kad G 138), .ref (kad G 139), .ref (kad G 140), .ref (kad G 141), .ref (kad G 142), vL (u 12), vL (u 13), .ref (kad G 143), vI (u 15), .ref (kad G 144), vI (u 17), vI (u 18), vI (u 19), vI (u 20), vI (u 21), vI (u 22), vI (u 23), vI (u 24), vI (u 25), .ref (kad G 145), .ref (kad G 146), .ref (kad G 147), vI (u 29)] rfl (Nat.le_of_ble_eq_true rfl) rfl rfl dX12_correct_2 (fun w1 hw1 hf1 => ?_)
  refine k_iload_n hC dX12_correct_5 rfl 1 rfl ?_
  refine k_i2l hC dX12_correct_6 (by omega) ?_
  refine k_lconst (x := 0) hC dX12_correct_7 (by decide) ?_
  refine k_ldc2 hC (x := 50) (v := 50) dX12_correct_8 (by decide) wk_X12_325 ?_
  refine k_pureS hC (c_X12_inRange l hls G hN w1 fl a 0 50 (by omega) (by omega) (by omega)) yy_X12_inRange wm_X12_243 rfl rfl (Nat.le_of_ble_eq_true rfl) (by decide) (by decide) ⟨by decide, by decide⟩ dX12_correct_11 ?_
  refine k_topv (vI (if 0 ≤ a ∧ a ≤ 50 then 1 else 0)) rfl ?_
  obtain ⟨z_2, ez_2, hz_2⟩ := k_bI (0 ≤ a ∧ a ≤ 50)
  refine k_topv (vI z_2) (by rw [ez_2]) ?_
  refine k_if_eq hC 31 dX12_correct_14 rfl (by omega) (fun c_14 => ?_) (fun c_14 => ?_)
  · refine k_aload_n hC dX12_correct_31 rfl 0 rfl ?_
    refine k_iconst hC dX12_correct_32 ?_
    refine k_mutV hC (c_X12_raise l hls G hN w1 fl (kup (kup u 4 (cn : Int)) 5 0) 1 hw1) yy_X12_raise wm_X12_247 (kl hN (by decide)) hw1 rfl rfl rfl rfl (Nat.le_of_ble_eq_true rfl) (by decide) (by decide) ⟨by decide, by decide⟩ dX12_correct_33 (fun w3 hp3 => ?_)
    obtain ⟨hu3, hf3⟩ := hp3
    subst hQ
    exact k_iret hC hr ⟨by decide, by decide⟩ (⟨_, 1, rfl, rfl, Or.inr (Or.inr ⟨by omega, rfl⟩), Or.inl ⟨Or.inl (by decide), (hu3).trans (mdO_4x hcn), fun j hj => (hf3 j (by omega)).trans (hf1 j (by omega))⟩⟩) dX12_correct_36
  · refine k_iload_n hC dX12_correct_17 rfl 2 rfl ?_
    refine k_i2l hC dX12_correct_18 (by omega) ?_
    refine k_ldc2 hC (x := (-60)) (v := (-60)) dX12_correct_19 (by decide) wk_X12_327 ?_
    refine k_ldc2 hC (x := 60) (v := 60) dX12_correct_22 (by decide) wk_X12_329 ?_
    refine k_pureS hC (c_X12_inRange l hls G hN w1 fl b (-60) 60 (by omega) (by omega) (by omega)) yy_X12_inRange wm_X12_243 rfl rfl (Nat.le_of_ble_eq_true rfl) (by decide) (by decide) ⟨by decide, by decide⟩ dX12_correct_25 ?_
    refine k_topv (vI (if -60 ≤ b ∧ b ≤ 60 then 1 else 0)) rfl ?_
    obtain ⟨z_4, ez_4, hz_4⟩ := k_bI (-60 ≤ b ∧ b ≤ 60)
    refine k_topv (vI z_4) (by rw [ez_4]) ?_
    refine k_if_ne hC 37 dX12_correct_28 rfl (by omega) (fun c_28 => ?_) (fun c_28 => ?_)
    · refine k_aload_n hC dX12_correct_37 rfl 0 rfl ?_
      have h_6 : w1 134 = lA G 93 g := (hf1 134 (by decide)).trans hn
      have h_7 : w1 137 = lA G 930 H := (hf1 137 (by decide)).trans hh
      refine k_muvV hC (c_X12_record l hls G hN w1 fl (kup (kup u 4 (cn : Int)) 5 0) g H cn rfl hcn10 hw1 h_6 h_7) yy_X12_record wm_X12_309 (kl hN (by decide)) hw1 rfl rfl rfl rfl (Nat.le_of_ble_eq_true rfl) (by decide) (by decide) ⟨by decide, by decide⟩ dX12_correct_38 (fun w5 hp5 => ?_)
      obtain ⟨hu5, ⟨H1, hH5, hHp⟩, hf5⟩ := hp5
      refine k_aload_n hC dX12_correct_41 rfl 0 rfl ?_
      refine k_get hC fd_X12_9 (kl hN (by decide)) hu5 rfl dX12_correct_42 ?_
      refine k_iconst hC dX12_correct_45 ?_
      refine k_iload_n hC dX12_correct_46 rfl 1 rfl ?_
      refine k_i2l hC dX12_correct_47 (by omega) ?_
      have h_8 : w5 134 = lA G 93 g := (hf5 134 (by decide)).trans h_6
      refine k_last hC (kl hN (by decide)) h_8 (by omega) (by decide) dX12_correct_48 (fun w9 hw9 hf9 => ?_)
      refine k_aload_n hC dX12_correct_49 rfl 0 rfl ?_
      have h_10 : w9 133 = .inr (12, [.ref (kad G 134), .ref (kad G 135), .ref (kad G 136), .ref (kad G 137), vI (min ((cn : Int) + 1) 10), vI 0, vI (u 6), .ref (kad G 138), .ref (kad G 139), .ref (kad G 140), .ref (kad G 141), .ref (kad G 142), vL (u 12), vL (u 13), .ref (kad G 143), vI (u 15), .ref (kad G 144), vI (u 17), vI (u 18), vI (u 19), vI (u 20), vI (u 21), vI (u 22), vI (u 23), vI (u 24), vI (u 25), .ref (kad G 145), .ref (kad G 146), .ref (kad G 147), vI (u 29)]) := (hf9 133 (by decide)).trans hu5
      refine k_get hC fd_X12_9 (kl hN (by decide)) h_10 rfl dX12_correct_50 ?_
      refine k_bipush hC dX12_correct_53 (by decide) ?_
      refine k_iload_n hC dX12_correct_55 rfl 2 rfl ?_
      refine k_i2l hC dX12_correct_56 (by omega) ?_
      refine k_last hC (kl hN (by decide)) hw9 (by omega) (by decide) dX12_correct_57 (fun w11 hw11 hf11 => ?_)
      have hng_12 : w11 134 = lA G 93 (setM g 5 a 6 b) := (hw11).trans (lA_congr (fun j hj => by simp only [setM, kup]; repeat (first | omega | rfl | split)))
      have hI2 := hI.set (i := 5) (j := 6) (a := a) (b := b) (Or.inl ⟨rfl, rfl, by omega, by omega⟩)
      have hdb := dipM_b hI2
      refine k_aload_n hC dX12_correct_58 rfl 0 rfl ?_
      have h_13 : w11 133 = .inr (12, [.ref (kad G 134), .ref (kad G 135), .ref (kad G 136), .ref (kad G 137), vI (min ((cn : Int) + 1) 10), vI 0, vI (u 6), .ref (kad G 138), .ref (kad G 139), .ref (kad G 140), .ref (kad G 141), .ref (kad G 142), vL (u 12), vL (u 13), .ref (kad G 143), vI (u 15), .ref (kad G 144), vI (u 17), vI (u 18), vI (u 19), vI (u 20), vI (u 21), vI (u 22), vI (u 23), vI (u 24), vI (u 25), .ref (kad G 145), .ref (kad G 146), .ref (kad G 147), vI (u 29)]) := (hf11 133 (by decide)).trans h_10
      refine k_pureV hC (c_X12_dip l hls G hN w11 fl (kup (kup (kup u 4 (cn : Int)) 5 0) 4 (min ((cn : Int) + 1) 10)) (setM g 5 a 6 b) hI2 h_13 hng_12) yy_X12_dip wm_X12_150 (kl hN (by decide)) h_13 rfl rfl rfl rfl (Nat.le_of_ble_eq_true rfl) (by decide) (by decide) ⟨by decide, by decide⟩ dX12_correct_59 ?_
      refine k_l2i hC dX12_correct_62 ?_
      have h_14 : w11 137 = lA G 930 H1 := (hf11 137 (by decide)).trans ((hf9 137 (by decide)).trans hH5)
      subst hQ
      exact k_iret hC hr ⟨by decide, by decide⟩ (⟨_, 0, rfl, rfl, Or.inl ⟨by omega, rfl, (show ((dipM (setM g 5 a 6 b) : Int) = dipM (setM g 5 a 6 b)) from rfl)⟩, Or.inr ⟨⟨rfl, not_false⟩, h_13, hng_12, ⟨_, h_14, hHp⟩, fun j hj => (hf11 j (by omega)).trans ((hf9 j (by omega)).trans ((hf5 j (by omega)).trans (hf1 j (by omega))))⟩⟩) dX12_correct_63
    · refine k_aload_n hC dX12_correct_31 rfl 0 rfl ?_
      refine k_iconst hC dX12_correct_32 ?_
      refine k_mutV hC (c_X12_raise l hls G hN w1 fl (kup (kup u 4 (cn : Int)) 5 0) 1 hw1) yy_X12_raise wm_X12_247 (kl hN (by decide)) hw1 rfl rfl rfl rfl (Nat.le_of_ble_eq_true rfl) (by decide) (by decide) ⟨by decide, by decide⟩ dX12_correct_33 (fun w15 hp15 => ?_)
      obtain ⟨hu15, hf15⟩ := hp15
      subst hQ
      exact k_iret hC hr ⟨by decide, by decide⟩ (⟨_, 1, rfl, rfl, Or.inr (Or.inr ⟨by omega, rfl⟩), Or.inl ⟨Or.inl (by decide), (hu15).trans (mdO_4x hcn), fun j hj => (hf15 j (by omega)).trans (hf1 j (by omega))⟩⟩) dX12_correct_36

set_option maxRecDepth 100000 in
set_option maxHeartbeats 4000000 in
theorem c_X12_undoCount (l : Launch) (hls : l.stackTraces = false) (G : kG) (hN : kN G = 150) (w : Nat → va_E) (fl : va_W) (u : Nat → Int) (hm : w 133 = mdO G u) : KM l G yX12_undoCount cX12_undoCount 1 (some (FieldType.int)) 0 0 0 [.ref (kad G 133)] w fl (kMut (vI (u 4)) fl (fun w1 => w1 133 = mdO G (kup u 5 0) ∧ ∀ j, j ≠ 133 → w1 j = w j)) := by
  refine KM_of2 hls (by decide +kernel) rfl (lv0 := [(0, .ref (kad G 133))]) rfl (Nat.le_of_ble_eq_true rfl) (fun p e R s m args below meth c Q hC hr hQ => ?_)
  refine k_aload_n hC dX12_undoCount_0 rfl 0 rfl ?_
  refine k_iconst hC dX12_undoCount_1 ?_
  refine k_put hC fd_X12_74 (kl hN (by decide)) hm [.ref (kad G 134), .ref (kad G 135), .ref (kad G 136), .ref (kad G 137), vI (u 4), vI 0, vI (u 6), .ref (kad G 138), .ref (kad G 139), .ref (kad G 140), .ref (kad G 141), .ref (kad G 142), vL (u 12), vL (u 13), .ref (kad G 143), vI (u 15), .ref (kad G 144), vI (u 17), vI (u 18), vI (u 19), vI (u 20), vI (u 21), vI (u 22), vI (u 23), vI (u 24), vI (u 25), .ref (kad G 145), .ref (kad G 146), .ref (kad G 147), vI (u 29)] rfl (Nat.le_of_ble_eq_true rfl) rfl rfl dX12_undoCount_2 (fun w1 hw1 hf1 => ?_)
  refine k_aload_n hC dX12_undoCount_5 rfl 0 rfl ?_
  refine k_get hC fd_X12_351 (kl hN (by decide)) hw1 rfl dX12_undoCount_6 ?_
  refine k_topv (vI (u 4)) rfl ?_
  subst hQ
  exact k_iret hC hr ⟨by decide, by decide⟩ (⟨rfl, rfl, hw1, fun j hj => hf1 j (by omega)⟩) dX12_undoCount_9

set_option maxRecDepth 100000 in
set_option maxHeartbeats 4000000 in
theorem c_X12_undo (l : Launch) (hls : l.stackTraces = false) (G : kG) (hN : kN G = 150) (w : Nat → va_E) (fl : va_W) (u g H : Nat → Int) (cn : Nat) (hcn : u 4 = (cn : Int)) (hcn10 : cn ≤ 10) (hm0 : w 133 = mdO G u) (hn : w 134 = lA G 93 g) (hh : w 137 = lA G 930 H) : KM l G yX12_undo cX12_undo 1 (some (FieldType.int)) 1 0 0 [.ref (kad G 133)] w fl (kMut (vI ((cn : Int) - 1)) fl (fun w1 => (cn = 0 ∧ w1 133 = mdO G (kup u 5 0) ∧ ∀ j, j ≠ 133 → w1 j = w j) ∨ (0 < cn ∧ w1 133 = mdO G (kup (kup u 4 ((cn : Int) - 1)) 5 0) ∧ w1 134 = lA G 93 (fun j => H (93 * (cn - 1) + j)) ∧ ∀ j, (j ≠ 133 ∧ j ≠ 134) → w1 j = w j))) := by
  refine KM_of2 hls (by decide +kernel) rfl (lv0 := [(0, .ref (kad G 133))]) rfl (Nat.le_of_ble_eq_true rfl) (fun p e R s m args below meth c Q hC hr hQ => ?_)
  have hm : w 133 = mdO G (kup u 4 (cn : Int)) := hm0.trans (mdO_4 hcn)
  refine k_aload_n hC dX12_undo_0 rfl 0 rfl ?_
  refine k_iconst hC dX12_undo_1 ?_
  refine k_put hC fd_X12_74 (kl hN (by decide)) hm [.ref (kad G 134), .ref (kad G 135), .ref (kad G 136), .ref (kad G 137), vI (cn : Int), vI 0, vI (u 6), .ref (kad G 138), .ref (kad G 139), .ref (kad G 140), .ref (kad G 141), .ref (kad G 142), vL (u 12), vL (u 13), .ref (kad G 143), vI (u 15), .ref (kad G 144), vI (u 17), vI (u 18), vI (u 19), vI (u 20), vI (u 21), vI (u 22), vI (u 23), vI (u 24), vI (u 25), .ref (kad G 145), .ref (kad G 146), .ref (kad G 147), vI (u 29)] rfl (Nat.le_of_ble_eq_true rfl) rfl rfl dX12_undo_2 (fun w1 hw1 hf1 => ?_)
  refine k_aload_n hC dX12_undo_5 rfl 0 rfl ?_
  refine k_get hC fd_X12_351 (kl hN (by decide)) hw1 rfl dX12_undo_6 ?_
  refine k_topv (vI (cn : Int)) rfl ?_
  refine k_if_ne hC 14 dX12_undo_9 rfl (by omega) (fun c_9 => ?_) (fun c_9 => ?_)
  · refine k_aload_n hC dX12_undo_14 rfl 0 rfl ?_
    refine k_dup hC dX12_undo_15 rfl ?_
    refine k_get hC fd_X12_351 (kl hN (by decide)) hw1 rfl dX12_undo_16 ?_
    refine k_topv (vI (cn : Int)) rfl ?_
    refine k_iconst hC dX12_undo_19 ?_
    refine k_isub hC dX12_undo_20 ?_
    refine k_put hC fd_X12_351 (kl hN (by decide)) hw1 [.ref (kad G 134), .ref (kad G 135), .ref (kad G 136), .ref (kad G 137), vI ((cn : Int) - 1), vI 0, vI (u 6), .ref (kad G 138), .ref (kad G 139), .ref (kad G 140), .ref (kad G 141), .ref (kad G 142), vL (u 12), vL (u 13), .ref (kad G 143), vI (u 15), .ref (kad G 144), vI (u 17), vI (u 18), vI (u 19), vI (u 20), vI (u 21), vI (u 22), vI (u 23), vI (u 24), vI (u 25), .ref (kad G 145), .ref (kad G 146), .ref (kad G 147), vI (u 29)] rfl (Nat.le_of_ble_eq_true rfl) rfl rfl dX12_undo_21 (fun w2 hw2 hf2 => ?_)
    refine k_aload_n hC dX12_undo_24 rfl 0 rfl ?_
    refine k_get hC fd_X12_19 (kl hN (by decide)) hw2 rfl dX12_undo_25 ?_
    refine k_aload_n hC dX12_undo_28 rfl 0 rfl ?_
    refine k_get hC fd_X12_351 (kl hN (by decide)) hw2 rfl dX12_undo_29 ?_
    refine k_topv (vI ((cn : Int) - 1)) rfl ?_
    refine k_topv (vI ((cn - 1 : Nat) : Int)) (congrArg vI (by omega)) ?_
    refine k_aload_n hC dX12_undo_32 rfl 0 rfl ?_
    refine k_get hC fd_X12_9 (kl hN (by decide)) hw2 rfl dX12_undo_33 ?_
    refine k_iconst hC dX12_undo_36 ?_
    have h_3 : w2 137 = lA G 930 H := (hf2 137 (by decide)).trans ((hf1 137 (by decide)).trans hh)
    have h_4 : w2 134 = lA G 93 g := (hf2 134 (by decide)).trans ((hf1 134 (by decide)).trans hn)
    refine k_muvS hC (c_X12_copy l hls G hN w2 fl 137 134 930 93 (cn - 1) 0 H g (by decide) (by decide) (by decide) (by decide) (by decide) (by omega) (by omega) h_3 h_4) yy_X12_copy wm_X12_354 rfl rfl (Nat.le_of_ble_eq_true rfl) (by decide) (by decide) ⟨by decide, by decide⟩ dX12_undo_37 (fun w5 hp5 => ?_)
    obtain ⟨hr5, hf5⟩ := hp5
    refine k_aload_n hC dX12_undo_40 rfl 0 rfl ?_
    have h_6 : w5 133 = .inr (12, [.ref (kad G 134), .ref (kad G 135), .ref (kad G 136), .ref (kad G 137), vI ((cn : Int) - 1), vI 0, vI (u 6), .ref (kad G 138), .ref (kad G 139), .ref (kad G 140), .ref (kad G 141), .ref (kad G 142), vL (u 12), vL (u 13), .ref (kad G 143), vI (u 15), .ref (kad G 144), vI (u 17), vI (u 18), vI (u 19), vI (u 20), vI (u 21), vI (u 22), vI (u 23), vI (u 24), vI (u 25), .ref (kad G 145), .ref (kad G 146), .ref (kad G 147), vI (u 29)]) := (hf5 133 (by decide)).trans hw2
    refine k_get hC fd_X12_351 (kl hN (by decide)) h_6 rfl dX12_undo_41 ?_
    refine k_topv (vI ((cn : Int) - 1)) rfl ?_
    subst hQ
    exact k_iret hC hr ⟨by decide, by decide⟩ (⟨rfl, rfl, Or.inr ⟨by omega, h_6, (hr5).trans (lA_congr (fun j hj => by unfold cpR; rw [if_pos (by omega)]; exact congrArg H (by omega))), fun j hj => (hf5 j (by omega)).trans ((hf2 j (by omega)).trans (hf1 j (by omega)))⟩⟩) dX12_undo_44
  · refine k_iconst hC dX12_undo_12 ?_
    subst hQ
    exact k_iret hC hr ⟨by decide, by decide⟩ (⟨congrArg (fun z => some (vI z)) (by omega), rfl, Or.inl ⟨by omega, (hw1).trans (mdO_4x hcn), fun j hj => hf1 j (by omega)⟩⟩) dX12_undo_13

set_option maxRecDepth 100000 in
set_option maxHeartbeats 4000000 in
theorem c_X12_saveSnapshot (l : Launch) (hls : l.stackTraces = false) (G : kG) (hN : kN G = 150) (w : Nat → va_E) (fl : va_W) (u g sp : Nat → Int) (hm : w 133 = mdO G u) (hn : w 134 = lA G 93 g) (hs : w 136 = lA G 93 sp) : KM l G yX12_saveSnapshot cX12_saveSnapshot 1 (none) 1 0 0 [.ref (kad G 133)] w fl (kMuv fl (fun w1 => w1 133 = mdO G (kup (kup u 5 0) 6 1) ∧ w1 136 = lA G 93 g ∧ ∀ j, (j ≠ 133 ∧ j ≠ 136) → w1 j = w j)) := by
  refine KM_of2 hls (by decide +kernel) rfl (lv0 := [(0, .ref (kad G 133))]) rfl (Nat.le_of_ble_eq_true rfl) (fun p e R s m args below meth c Q hC hr hQ => ?_)
  refine k_aload_n hC dX12_saveSnapshot_0 rfl 0 rfl ?_
  refine k_iconst hC dX12_saveSnapshot_1 ?_
  refine k_put hC fd_X12_74 (kl hN (by decide)) hm [.ref (kad G 134), .ref (kad G 135), .ref (kad G 136), .ref (kad G 137), vI (u 4), vI 0, vI (u 6), .ref (kad G 138), .ref (kad G 139), .ref (kad G 140), .ref (kad G 141), .ref (kad G 142), vL (u 12), vL (u 13), .ref (kad G 143), vI (u 15), .ref (kad G 144), vI (u 17), vI (u 18), vI (u 19), vI (u 20), vI (u 21), vI (u 22), vI (u 23), vI (u 24), vI (u 25), .ref (kad G 145), .ref (kad G 146), .ref (kad G 147), vI (u 29)] rfl (Nat.le_of_ble_eq_true rfl) rfl rfl dX12_saveSnapshot_2 (fun w1 hw1 hf1 => ?_)
  refine k_aload_n hC dX12_saveSnapshot_5 rfl 0 rfl ?_
  refine k_get hC fd_X12_9 (kl hN (by decide)) hw1 rfl dX12_saveSnapshot_6 ?_
  refine k_iconst hC dX12_saveSnapshot_9 ?_
  refine k_aload_n hC dX12_saveSnapshot_10 rfl 0 rfl ?_
  refine k_get hC fd_X12_16 (kl hN (by decide)) hw1 rfl dX12_saveSnapshot_11 ?_
  refine k_iconst hC dX12_saveSnapshot_14 ?_
  have h_2 : w1 134 = lA G 93 g := (hf1 134 (by decide)).trans hn
  have h_3 : w1 136 = lA G 93 sp := (hf1 136 (by decide)).trans hs
  refine k_muvS hC (c_X12_copy l hls G hN w1 fl 134 136 93 93 0 0 g sp (by decide) (by decide) (by decide) (by decide) (by decide) (by omega) (by omega) h_2 h_3) yy_X12_copy wm_X12_354 rfl rfl (Nat.le_of_ble_eq_true rfl) (by decide) (by decide) ⟨by decide, by decide⟩ dX12_saveSnapshot_15 (fun w4 hp4 => ?_)
  obtain ⟨hr4, hf4⟩ := hp4
  refine k_aload_n hC dX12_saveSnapshot_18 rfl 0 rfl ?_
  refine k_iconst hC dX12_saveSnapshot_19 ?_
  have h_5 : w4 133 = .inr (12, [.ref (kad G 134), .ref (kad G 135), .ref (kad G 136), .ref (kad G 137), vI (u 4), vI 0, vI (u 6), .ref (kad G 138), .ref (kad G 139), .ref (kad G 140), .ref (kad G 141), .ref (kad G 142), vL (u 12), vL (u 13), .ref (kad G 143), vI (u 15), .ref (kad G 144), vI (u 17), vI (u 18), vI (u 19), vI (u 20), vI (u 21), vI (u 22), vI (u 23), vI (u 24), vI (u 25), .ref (kad G 145), .ref (kad G 146), .ref (kad G 147), vI (u 29)]) := (hf4 133 (by decide)).trans hw1
  refine k_put hC fd_X12_358 (kl hN (by decide)) h_5 [.ref (kad G 134), .ref (kad G 135), .ref (kad G 136), .ref (kad G 137), vI (u 4), vI 0, vI 1, .ref (kad G 138), .ref (kad G 139), .ref (kad G 140), .ref (kad G 141), .ref (kad G 142), vL (u 12), vL (u 13), .ref (kad G 143), vI (u 15), .ref (kad G 144), vI (u 17), vI (u 18), vI (u 19), vI (u 20), vI (u 21), vI (u 22), vI (u 23), vI (u 24), vI (u 25), .ref (kad G 145), .ref (kad G 146), .ref (kad G 147), vI (u 29)] rfl (Nat.le_of_ble_eq_true rfl) rfl rfl dX12_saveSnapshot_20 (fun w6 hw6 hf6 => ?_)
  have h_7 : w6 136 = lA G 93 (cpR g sp 0 0) := (hf6 136 (by decide)).trans hr4
  subst hQ
  exact k_vret hC hr ⟨by decide, by decide⟩ (⟨rfl, rfl, hw6, (h_7).trans (lA_congr (fun j hj => by unfold cpR; rw [if_pos (by omega)]; exact congrArg g (by omega))), fun j hj => (hf6 j (by omega)).trans ((hf4 j (by omega)).trans (hf1 j (by omega)))⟩) dX12_saveSnapshot_23

set_option maxRecDepth 100000 in
set_option maxHeartbeats 4000000 in
theorem c_X12_restoreSnapshot (l : Launch) (hls : l.stackTraces = false) (G : kG) (hN : kN G = 150) (w : Nat → va_E) (fl : va_W) (u g sp : Nat → Int) (h6 : u 6 = 0 ∨ u 6 = 1) (hm : w 133 = mdO G u) (hn : w 134 = lA G 93 g) (hs : w 136 = lA G 93 sp) : KM l G yX12_restoreSnapshot cX12_restoreSnapshot 1 (some (FieldType.boolean)) 1 0 0 [.ref (kad G 133)] w fl (kMut (vI (u 6)) fl (fun w1 => (u 6 = 0 ∧ w1 133 = mdO G (kup u 5 0) ∧ ∀ j, j ≠ 133 → w1 j = w j) ∨ (u 6 = 1 ∧ w1 133 = mdO G (kup (kup u 4 0) 5 0) ∧ w1 134 = lA G 93 sp ∧ ∀ j, (j ≠ 133 ∧ j ≠ 134) → w1 j = w j))) := by
  refine KM_of2 hls (by decide +kernel) rfl (lv0 := [(0, .ref (kad G 133))]) rfl (Nat.le_of_ble_eq_true rfl) (fun p e R s m args below meth c Q hC hr hQ => ?_)
  refine k_aload_n hC dX12_restoreSnapshot_0 rfl 0 rfl ?_
  refine k_iconst hC dX12_restoreSnapshot_1 ?_
  refine k_put hC fd_X12_74 (kl hN (by decide)) hm [.ref (kad G 134), .ref (kad G 135), .ref (kad G 136), .ref (kad G 137), vI (u 4), vI 0, vI (u 6), .ref (kad G 138), .ref (kad G 139), .ref (kad G 140), .ref (kad G 141), .ref (kad G 142), vL (u 12), vL (u 13), .ref (kad G 143), vI (u 15), .ref (kad G 144), vI (u 17), vI (u 18), vI (u 19), vI (u 20), vI (u 21), vI (u 22), vI (u 23), vI (u 24), vI (u 25), .ref (kad G 145), .ref (kad G 146), .ref (kad G 147), vI (u 29)] rfl (Nat.le_of_ble_eq_true rfl) rfl rfl dX12_restoreSnapshot_2 (fun w1 hw1 hf1 => ?_)
  refine k_aload_n hC dX12_restoreSnapshot_5 rfl 0 rfl ?_
  refine k_get hC fd_X12_358 (kl hN (by decide)) hw1 rfl dX12_restoreSnapshot_6 ?_
  refine k_topv (vI (u 6)) rfl ?_
  refine k_if_ne hC 14 dX12_restoreSnapshot_9 rfl (by omega) (fun c_9 => ?_) (fun c_9 => ?_)
  · refine k_aload_n hC dX12_restoreSnapshot_14 rfl 0 rfl ?_
    refine k_get hC fd_X12_16 (kl hN (by decide)) hw1 rfl dX12_restoreSnapshot_15 ?_
    refine k_iconst hC dX12_restoreSnapshot_18 ?_
    refine k_aload_n hC dX12_restoreSnapshot_19 rfl 0 rfl ?_
    refine k_get hC fd_X12_9 (kl hN (by decide)) hw1 rfl dX12_restoreSnapshot_20 ?_
    refine k_iconst hC dX12_restoreSnapshot_23 ?_
    have h_2 : w1 136 = lA G 93 sp := (hf1 136 (by decide)).trans hs
    have h_3 : w1 134 = lA G 93 g := (hf1 134 (by decide)).trans hn
    refine k_muvS hC (c_X12_copy l hls G hN w1 fl 136 134 93 93 0 0 sp g (by decide) (by decide) (by decide) (by decide) (by decide) (by omega) (by omega) h_2 h_3) yy_X12_copy wm_X12_354 rfl rfl (Nat.le_of_ble_eq_true rfl) (by decide) (by decide) ⟨by decide, by decide⟩ dX12_restoreSnapshot_24 (fun w4 hp4 => ?_)
    obtain ⟨hr4, hf4⟩ := hp4
    refine k_aload_n hC dX12_restoreSnapshot_27 rfl 0 rfl ?_
    refine k_iconst hC dX12_restoreSnapshot_28 ?_
    have h_5 : w4 133 = .inr (12, [.ref (kad G 134), .ref (kad G 135), .ref (kad G 136), .ref (kad G 137), vI (u 4), vI 0, vI (u 6), .ref (kad G 138), .ref (kad G 139), .ref (kad G 140), .ref (kad G 141), .ref (kad G 142), vL (u 12), vL (u 13), .ref (kad G 143), vI (u 15), .ref (kad G 144), vI (u 17), vI (u 18), vI (u 19), vI (u 20), vI (u 21), vI (u 22), vI (u 23), vI (u 24), vI (u 25), .ref (kad G 145), .ref (kad G 146), .ref (kad G 147), vI (u 29)]) := (hf4 133 (by decide)).trans hw1
    refine k_put hC fd_X12_351 (kl hN (by decide)) h_5 [.ref (kad G 134), .ref (kad G 135), .ref (kad G 136), .ref (kad G 137), vI 0, vI 0, vI (u 6), .ref (kad G 138), .ref (kad G 139), .ref (kad G 140), .ref (kad G 141), .ref (kad G 142), vL (u 12), vL (u 13), .ref (kad G 143), vI (u 15), .ref (kad G 144), vI (u 17), vI (u 18), vI (u 19), vI (u 20), vI (u 21), vI (u 22), vI (u 23), vI (u 24), vI (u 25), .ref (kad G 145), .ref (kad G 146), .ref (kad G 147), vI (u 29)] rfl (Nat.le_of_ble_eq_true rfl) rfl rfl dX12_restoreSnapshot_29 (fun w6 hw6 hf6 => ?_)
    refine k_iconst hC dX12_restoreSnapshot_32 ?_
    have h_7 : w6 134 = lA G 93 (cpR sp g 0 0) := (hf6 134 (by decide)).trans hr4
    subst hQ
    exact k_zret hC (by omega) hr ⟨by decide, by decide⟩ (⟨congrArg (fun z => some (vI z)) (by omega), rfl, Or.inr ⟨by omega, hw6, (h_7).trans (lA_congr (fun j hj => by unfold cpR; rw [if_pos (by omega)]; exact congrArg sp (by omega))), fun j hj => (hf6 j (by omega)).trans ((hf4 j (by omega)).trans (hf1 j (by omega)))⟩⟩) dX12_restoreSnapshot_33
  · refine k_iconst hC dX12_restoreSnapshot_12 ?_
    subst hQ
    exact k_zret hC (by omega) hr ⟨by decide, by decide⟩ (⟨congrArg (fun z => some (vI z)) (by omega), rfl, Or.inl ⟨by omega, hw1, fun j hj => hf1 j (by omega)⟩⟩) dX12_restoreSnapshot_13

