theorem aziM_b (g : Nat → Int) (i : Nat) : 0 ≤ aziM g i ∧ aziM g i ≤ 21599 := aziO_b _ _ _ _
theorem expM_b (g : Nat → Int) (i : Nat) : -5400 ≤ expM g i ∧ expM g i ≤ 5400 := arcM_b _
theorem selI_c (P : Prop) : ∃ z : Int, selI P 1 0 = z ∧ ((z = 1 ∧ P) ∨ (z = 0 ∧ ¬ P)) := by
  by_cases h : P
  · exact ⟨1, selI_1 h, Or.inl ⟨rfl, h⟩⟩
  · exact ⟨0, selI_0 h, Or.inr ⟨rfl, h⟩⟩
theorem Inv.addSight {g : Nat → Int} (h : Inv g) {b t a : Int} (hb : 0 ≤ b ∧ b < g 0) (ht : 0 ≤ t ∧ t ≤ 5000) (ha : 300 ≤ a ∧ a ≤ 5100) (hn : g 2 < 12) : Inv (addSightM g b t a) := by
  obtain ⟨h1, h2, h3, h4, h5, h6, h7, h8, h9, h10, h11, h12, h13⟩ := h
  have e : ∀ j, j ≠ 2 → j < 57 → addSightM g b t a j = g j := fun j q1 q2 => by unfold addSightM; rw [if_neg q1, if_neg (by omega), if_neg (by omega), if_neg (by omega)]
  have e2 : addSightM g b t a 2 = g 2 + 1 := rfl
  refine ⟨?_, ?_, ?_, ?_, ?_, ?_, ?_, ?_, ?_, ?_, ?_, ?_, ?_⟩
  · rw [e 0 (by decide) (by decide)]; exact h1
  · rw [e 1 (by decide) (by decide)]; exact h2
  · rw [e2]; omega
  · rw [e 3 (by decide) (by decide)]; exact h4
  · rw [e 4 (by decide) (by decide)]; exact h5
  · rw [e 5 (by decide) (by decide)]; exact h6
  · rw [e 6 (by decide) (by decide)]; exact h7
  · rw [e 7 (by decide) (by decide)]; exact h8
  · rw [e 8 (by decide) (by decide)]; exact h9
  · intro k hk; rw [e 0 (by decide) (by decide)] at hk; rw [e _ (by omega) (by omega), e _ (by omega) (by omega), e _ (by omega) (by omega)]; exact h10 k hk
  · intro k hk; rw [e 1 (by decide) (by decide)] at hk; rw [e _ (by omega) (by omega), e _ (by omega) (by omega), e _ (by omega) (by omega)]; exact h11 k hk
  · intro k hk; rw [e 1 (by decide) (by decide)] at hk; rw [e _ (by omega) (by omega), e _ (by omega) (by omega)]; exact h12 k hk
  · intro k hk; rw [e2] at hk; rw [e 0 (by decide) (by decide)]
    by_cases hq : (k : Int) = g 2
    · have e3 : addSightM g b t a (57 + 3 * k) = b := by unfold addSightM; rw [if_neg (by omega), if_pos (by omega)]
      have e4 : addSightM g b t a (58 + 3 * k) = t := by unfold addSightM; rw [if_neg (by omega), if_neg (by omega), if_pos (by omega)]
      have e5 : addSightM g b t a (59 + 3 * k) = a := by unfold addSightM; rw [if_neg (by omega), if_neg (by omega), if_neg (by omega), if_pos (by omega)]
      rw [e3, e4, e5]; exact ⟨hb, ht, ha⟩
    · have e3 : addSightM g b t a (57 + 3 * k) = g (57 + 3 * k) := by unfold addSightM; rw [if_neg (by omega), if_neg (by omega), if_neg (by omega), if_neg (by omega)]
      have e4 : addSightM g b t a (58 + 3 * k) = g (58 + 3 * k) := by unfold addSightM; rw [if_neg (by omega), if_neg (by omega), if_neg (by omega), if_neg (by omega)]
      have e5 : addSightM g b t a (59 + 3 * k) = g (59 + 3 * k) := by unfold addSightM; rw [if_neg (by omega), if_neg (by omega), if_neg (by omega), if_neg (by omega)]
      rw [e3, e4, e5]; exact h13 k (by omega)
theorem Inv.addLeg {g : Nat → Int} (h : Inv g) {t co s : Int} (ht : 0 ≤ t ∧ t ≤ 5000) (hc : 0 ≤ co ∧ co ≤ 21599) (hs : 0 ≤ s ∧ s ≤ 400) (hn : g 1 < 8) (hl : lastM g < t) : Inv (addLegM g t co s) := by
  obtain ⟨h1, h2, h3, h4, h5, h6, h7, h8, h9, h10, h11, h12, h13⟩ := h
  have e : ∀ j, j ≠ 1 → (j < 33 ∨ 57 ≤ j) → addLegM g t co s j = g j := fun j q1 q2 => by unfold addLegM; rw [if_neg q1, if_neg (by omega), if_neg (by omega), if_neg (by omega)]
  have e2 : addLegM g t co s 1 = g 1 + 1 := rfl
  have eo : ∀ k : Nat, (k : Int) < g 1 → addLegM g t co s (33 + 3 * k) = g (33 + 3 * k) ∧ addLegM g t co s (34 + 3 * k) = g (34 + 3 * k) ∧ addLegM g t co s (35 + 3 * k) = g (35 + 3 * k) := fun k hk => by
    unfold addLegM
    rw [if_neg (by omega), if_neg (by omega), if_neg (by omega), if_neg (by omega), if_neg (by omega), if_neg (by omega), if_neg (by omega), if_neg (by omega), if_neg (by omega), if_neg (by omega), if_neg (by omega), if_neg (by omega)]
    exact ⟨rfl, rfl, rfl⟩
  have en : ∀ k : Nat, (k : Int) = g 1 → addLegM g t co s (33 + 3 * k) = t ∧ addLegM g t co s (34 + 3 * k) = co ∧ addLegM g t co s (35 + 3 * k) = s := fun k hk => by
    refine ⟨?_, ?_, ?_⟩
    · unfold addLegM; rw [if_neg (by omega), if_pos (by omega)]
    · unfold addLegM; rw [if_neg (by omega), if_neg (by omega), if_pos (by omega)]
    · unfold addLegM; rw [if_neg (by omega), if_neg (by omega), if_neg (by omega), if_pos (by omega)]
  refine ⟨?_, ?_, ?_, ?_, ?_, ?_, ?_, ?_, ?_, ?_, ?_, ?_, ?_⟩
  · rw [e 0 (by decide) (by decide)]; exact h1
  · rw [e2]; omega
  · rw [e 2 (by decide) (by decide)]; exact h3
  · rw [e 3 (by decide) (by decide)]; exact h4
  · rw [e 4 (by decide) (by decide)]; exact h5
  · rw [e 5 (by decide) (by decide)]; exact h6
  · rw [e 6 (by decide) (by decide)]; exact h7
  · rw [e 7 (by decide) (by decide)]; exact h8
  · rw [e 8 (by decide) (by decide)]; exact h9
  · intro k hk; rw [e 0 (by decide) (by decide)] at hk; rw [e _ (by omega) (by omega), e _ (by omega) (by omega), e _ (by omega) (by omega)]; exact h10 k hk
  · intro k hk; rw [e2] at hk
    by_cases hq : (k : Int) = g 1
    · obtain ⟨q1, q2, q3⟩ := en k hq; rw [q1, q2, q3]; exact ⟨ht, hc, hs⟩
    · obtain ⟨q1, q2, q3⟩ := eo k (by omega); rw [q1, q2, q3]; exact h11 k (by omega)
  · intro k hk; rw [e2] at hk
    rw [(eo k (by omega)).1, show 36 + 3 * k = 33 + 3 * (k + 1) by omega]
    by_cases hq : ((k + 1 : Nat) : Int) = g 1
    · rw [(en (k + 1) hq).1]
      have hl2 : lastM g = g (33 + 3 * k) := by unfold lastM; rw [if_neg (by omega), show (g 1 - 1).toNat = k by omega]
      omega
    · rw [(eo (k + 1) (by omega)).1]
      have := h12 k (by omega)
      rw [show 36 + 3 * k = 33 + 3 * (k + 1) by omega] at this
      exact this
  · intro k hk; rw [e 2 (by decide) (by decide)] at hk; rw [e 0 (by decide) (by decide), e _ (by omega) (by omega), e _ (by omega) (by omega), e _ (by omega) (by omega)]; exact h13 k hk
theorem Inv.drop {g : Nat → Int} (h : Inv g) {i : Nat} (hi : (i : Int) < g 2) : Inv (dropM g i) := by
  obtain ⟨h1, h2, h3, h4, h5, h6, h7, h8, h9, h10, h11, h12, h13⟩ := h
  have e : ∀ j, j ≠ 2 → j < 57 → dropM g i j = g j := fun j q1 q2 => by unfold dropM; rw [if_neg q1, if_neg (by omega)]
  have e2 : dropM g i 2 = g 2 - 1 := rfl
  refine ⟨?_, ?_, ?_, ?_, ?_, ?_, ?_, ?_, ?_, ?_, ?_, ?_, ?_⟩
  · rw [e 0 (by decide) (by decide)]; exact h1
  · rw [e 1 (by decide) (by decide)]; exact h2
  · rw [e2]; omega
  · rw [e 3 (by decide) (by decide)]; exact h4
  · rw [e 4 (by decide) (by decide)]; exact h5
  · rw [e 5 (by decide) (by decide)]; exact h6
  · rw [e 6 (by decide) (by decide)]; exact h7
  · rw [e 7 (by decide) (by decide)]; exact h8
  · rw [e 8 (by decide) (by decide)]; exact h9
  · intro k hk; rw [e 0 (by decide) (by decide)] at hk; rw [e _ (by omega) (by omega), e _ (by omega) (by omega), e _ (by omega) (by omega)]; exact h10 k hk
  · intro k hk; rw [e 1 (by decide) (by decide)] at hk; rw [e _ (by omega) (by omega), e _ (by omega) (by omega), e _ (by omega) (by omega)]; exact h11 k hk
  · intro k hk; rw [e 1 (by decide) (by decide)] at hk; rw [e _ (by omega) (by omega), e _ (by omega) (by omega)]; exact h12 k hk
  · intro k hk; rw [e2] at hk; rw [e 0 (by decide) (by decide)]
    by_cases hq : i ≤ k
    · have e3 : ∀ q : Nat, q < 3 → dropM g i (57 + q + 3 * k) = g (57 + q + 3 * (k + 1)) := fun q hq3 => by unfold dropM; rw [if_neg (by omega), if_pos (by omega)]; exact congrArg g (by omega)
      have q0 := e3 0 (by decide); have q1 := e3 1 (by decide); have q2 := e3 2 (by decide)
      rw [show 57 + 3 * k = 57 + 0 + 3 * k by omega, show 58 + 3 * k = 57 + 1 + 3 * k by omega, show 59 + 3 * k = 57 + 2 + 3 * k by omega, q0, q1, q2]
      exact h13 (k + 1) (by omega)
    · have e3 : ∀ j, 57 + 3 * k ≤ j → j < 60 + 3 * k → dropM g i j = g j := fun j a1 a2 => by unfold dropM; rw [if_neg (by omega), if_neg (by omega)]
      rw [e3 _ (by omega) (by omega), e3 _ (by omega) (by omega), e3 _ (by omega) (by omega)]
      exact h13 k (by omega)
theorem Inv.set {g : Nat → Int} (h : Inv g) {i j : Nat} {a b : Int} (hij : (i = 5 ∧ j = 6 ∧ (0 ≤ a ∧ a ≤ 50) ∧ (-60 ≤ b ∧ b ≤ 60)) ∨ (i = 7 ∧ j = 8 ∧ (0 ≤ a ∧ a ≤ 21599) ∧ (0 ≤ b ∧ b ≤ 100))) : Inv (setM g i a j b) := by
  obtain ⟨h1, h2, h3, h4, h5, h6, h7, h8, h9, h10, h11, h12, h13⟩ := h
  have e : ∀ q, q ≠ 5 → q ≠ 6 → q ≠ 7 → q ≠ 8 → setM g i a j b q = g q := fun q q1 q2 q3 q4 => by unfold setM; rw [if_neg (by omega), if_neg (by omega)]
  refine ⟨?_, ?_, ?_, ?_, ?_, ?_, ?_, ?_, ?_, ?_, ?_, ?_, ?_⟩
  · rw [e 0 (by decide) (by decide) (by decide) (by decide)]; exact h1
  · rw [e 1 (by decide) (by decide) (by decide) (by decide)]; exact h2
  · rw [e 2 (by decide) (by decide) (by decide) (by decide)]; exact h3
  · rw [e 3 (by decide) (by decide) (by decide) (by decide)]; exact h4
  · rw [e 4 (by decide) (by decide) (by decide) (by decide)]; exact h5
  · rcases hij with ⟨rfl, rfl, ha, hb⟩ | ⟨rfl, rfl, ha, hb⟩
    · exact ha
    · exact h6
  · rcases hij with ⟨rfl, rfl, ha, hb⟩ | ⟨rfl, rfl, ha, hb⟩
    · exact hb
    · exact h7
  · rcases hij with ⟨rfl, rfl, ha, hb⟩ | ⟨rfl, rfl, ha, hb⟩
    · exact h8
    · exact ha
  · rcases hij with ⟨rfl, rfl, ha, hb⟩ | ⟨rfl, rfl, ha, hb⟩
    · exact h9
    · exact hb
  · intro k hk; rw [e 0 (by decide) (by decide) (by decide) (by decide)] at hk; rw [e _ (by omega) (by omega) (by omega) (by omega), e _ (by omega) (by omega) (by omega) (by omega), e _ (by omega) (by omega) (by omega) (by omega)]; exact h10 k hk
  · intro k hk; rw [e 1 (by decide) (by decide) (by decide) (by decide)] at hk; rw [e _ (by omega) (by omega) (by omega) (by omega), e _ (by omega) (by omega) (by omega) (by omega), e _ (by omega) (by omega) (by omega) (by omega)]; exact h11 k hk
  · intro k hk; rw [e 1 (by decide) (by decide) (by decide) (by decide)] at hk; rw [e _ (by omega) (by omega) (by omega) (by omega), e _ (by omega) (by omega) (by omega) (by omega)]; exact h12 k hk
  · intro k hk; rw [e 2 (by decide) (by decide) (by decide) (by decide)] at hk; rw [e 0 (by decide) (by decide) (by decide) (by decide), e _ (by omega) (by omega) (by omega) (by omega), e _ (by omega) (by omega) (by omega) (by omega), e _ (by omega) (by omega) (by omega) (by omega)]; exact h13 k hk
