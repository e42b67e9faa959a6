/-! what is told alike: the class's numbers and the reference's, as far as they count -/
theorem Inv.hd {g h : Nat → Int} (hI : Inv g) (e : ∀ j, (j < 3 ∨ 9 ≤ j) → h j = g j) (h3 : -3600 ≤ h 3 ∧ h 3 ≤ 3600) (h4 : -10800 ≤ h 4 ∧ h 4 ≤ 10799) (h5 : 0 ≤ h 5 ∧ h 5 ≤ 50) (h6 : -60 ≤ h 6 ∧ h 6 ≤ 60) (h7 : 0 ≤ h 7 ∧ h 7 ≤ 21599) (h8 : 0 ≤ h 8 ∧ h 8 ≤ 100) : Inv h := by
  obtain ⟨a0, a1, a2, -, -, -, -, -, -, a9, a10, a11, a12⟩ := hI
  have e0 := e 0 (by omega); have e1 := e 1 (by omega); have e2 := e 2 (by omega)
  refine ⟨by rw [e0]; exact a0, by rw [e1]; exact a1, by rw [e2]; exact a2, h3, h4, h5, h6, h7, h8, ?_, ?_, ?_, ?_⟩
  · intro k hk; rw [e0] at hk; rw [e _ (by omega), e _ (by omega), e _ (by omega)]; exact a9 k hk
  · intro k hk; rw [e1] at hk; rw [e _ (by omega), e _ (by omega), e _ (by omega)]; exact a10 k hk
  · intro k hk; rw [e1] at hk; rw [e _ (by omega), e _ (by omega)]; exact a11 k hk
  · intro k hk; rw [e2] at hk; rw [e0, e _ (by omega), e _ (by omega), e _ (by omega)]; exact a12 k hk
theorem bodyD_o {D : Nat → Int} {decl ang len nm : Int} {j : Nat} (h0 : j ≠ 0) (h : j < 9 + 4 * (D 0).toNat ∨ 13 + 4 * (D 0).toNat ≤ j) : bodyD D decl ang len nm j = D j := by
  unfold bodyD; rw [if_neg h0, if_neg (by omega), if_neg (by omega), if_neg (by omega), if_neg (by omega)]
theorem Inv.addBody {D : Nat → Int} (hI : Inv D) {decl ang len nm : Int} (hd : -3600 ≤ decl ∧ decl ≤ 3600) (ha : 0 ≤ ang ∧ ang ≤ 21599) (hl : 1 ≤ len ∧ len ≤ 8) (hn : D 0 < 6) : Inv (bodyD D decl ang len nm) := by
  obtain ⟨a0, a1, a2, a3, a4, a5, a6, a7, a8, a9, a10, a11, a12⟩ := hI
  have e0 : bodyD D decl ang len nm 0 = D 0 + 1 := rfl
  have e : ∀ j, j ≠ 0 → (j < 9 ∨ 33 ≤ j) → bodyD D decl ang len nm j = D j := fun j q1 q2 => bodyD_o q1 (by omega)
  refine ⟨by rw [e0]; omega, by rw [e 1 (by decide) (by omega)]; exact a1, by rw [e 2 (by decide) (by omega)]; exact a2, by rw [e 3 (by decide) (by omega)]; exact a3, by rw [e 4 (by decide) (by omega)]; exact a4, by rw [e 5 (by decide) (by omega)]; exact a5, by rw [e 6 (by decide) (by omega)]; exact a6, by rw [e 7 (by decide) (by omega)]; exact a7, by rw [e 8 (by decide) (by omega)]; exact a8, ?_, ?_, ?_, ?_⟩
  · intro k hk; rw [e0] at hk
    by_cases hq : (k : Int) = D 0
    · have q1 : bodyD D decl ang len nm (9 + 4 * k) = decl := by unfold bodyD; rw [if_neg (by omega), if_pos (by omega)]
      have q2 : bodyD D decl ang len nm (10 + 4 * k) = ang := by unfold bodyD; rw [if_neg (by omega), if_neg (by omega), if_pos (by omega)]
      have q3 : bodyD D decl ang len nm (11 + 4 * k) = len := by unfold bodyD; rw [if_neg (by omega), if_neg (by omega), if_neg (by omega), if_pos (by omega)]
      rw [q1, q2, q3]; exact ⟨hd, ha, hl⟩
    · rw [bodyD_o (by omega) (by omega), bodyD_o (by omega) (by omega), bodyD_o (by omega) (by omega)]; exact a9 k (by omega)
  · intro k hk; rw [e 1 (by decide) (by omega)] at hk; rw [e _ (by omega) (by omega), e _ (by omega) (by omega), e _ (by omega) (by omega)]; exact a10 k hk
  · intro k hk; rw [e 1 (by decide) (by omega)] at hk; rw [e _ (by omega) (by omega), e _ (by omega) (by omega)]; exact a11 k hk
  · intro k hk; rw [e 2 (by decide) (by omega)] at hk; rw [e0, e _ (by omega) (by omega), e _ (by omega) (by omega), e _ (by omega) (by omega)]
    have := a12 k hk; exact ⟨⟨this.1.1, by omega⟩, this.2⟩
theorem cl_inv {bt : Nat → Int} {n : Nat} {D : Nat → Int} {st : PS} (hI : Inv D) (h : (clS0 bt n D st).1 = 0) : Inv (clD bt n D st) := by
  have hc := hI.c
  unfold clS0 at h
  unfold clD
  by_cases w1 : isW bt n 1 st
  · rw [selP_1 w1] at h ⊢
    have h1 := sg_0 h
    have h2 : (sgP bt n 3600 (adP bt n st)).1 = 0 := by
      by_cases q : (sgP bt n 3600 (adP bt n st)).1 = 0
      · exact q
      · rw [sgP_e q] at h; exact h
    have h3 := sg_0 h2
    exact hI.hd (fun j hj => by unfold setM; rw [if_neg (by omega), if_neg (by omega)]) h3 ⟨by have := h1.1; show -10800 ≤ sgV _ _ _; omega, h1.2⟩ hc.2.2.2.2.2.1 hc.2.2.2.2.2.2.1 hc.2.2.2.2.2.2.2.1 hc.2.2.2.2.2.2.2.2
  rw [selP_0 w1] at h ⊢
  by_cases w2 : isW bt n 2 st
  · rw [selP_1 w2] at h ⊢
    exact hI.hd (fun j hj => kup_n (by omega)) hc.2.2.2.1 hc.2.2.2.2.1 (tk_0 h) hc.2.2.2.2.2.2.1 hc.2.2.2.2.2.2.2.1 hc.2.2.2.2.2.2.2.2
  rw [selP_0 w2] at h ⊢
  by_cases w3 : isW bt n 3 st
  · rw [selP_1 w3] at h ⊢
    exact hI.hd (fun j hj => kup_n (by omega)) hc.2.2.2.1 hc.2.2.2.2.1 hc.2.2.2.2.2.1 (sg_0 h) hc.2.2.2.2.2.2.2.1 hc.2.2.2.2.2.2.2.2
  rw [selP_0 w3] at h ⊢
  by_cases w4 : isW bt n 4 st
  · rw [selP_1 w4] at h ⊢
    have h2 : (tkP bt n 0 21599 (adP bt n st)).1 = 0 := by
      by_cases q : (tkP bt n 0 21599 (adP bt n st)).1 = 0
      · exact q
      · rw [tkP_e q] at h; exact h
    exact hI.hd (fun j hj => by unfold setM; rw [if_neg (by omega), if_neg (by omega)]) hc.2.2.2.1 hc.2.2.2.2.1 hc.2.2.2.2.2.1 hc.2.2.2.2.2.2.1 (tk_0 h2) (tk_0 h)
  rw [selP_0 w4] at h ⊢
  by_cases w5 : isW bt n 5 st
  · rw [selP_1 w5] at h ⊢
    unfold clBodyS at h
    unfold clBodyD
    by_cases q : 6 ≤ D 0
    · rw [selP_1 q] at h; exact absurd h (fl_c (by decide))
    rw [selP_0 q] at h
    have h1 := tk_0 h
    generalize hb : bdB bt n D (adP bt n st) = b at *
    have h2 : (sgP bt n 3600 (adP bt n b)).1 = 0 := by
      by_cases q : (sgP bt n 3600 (adP bt n b)).1 = 0
      · exact q
      · rw [tkP_e q] at h; exact h
    have h3 := sg_0 h2
    have h4 : b.1 = 0 := by
      by_cases q : b.1 = 0
      · exact q
      · rw [adP_e q, sgP_e q] at h2; exact h2
    have h5 : isNm bt n (adP bt n st) := by
      by_cases q5 : isNm bt n (adP bt n st)
      · exact q5
      · unfold bdB at hb; rw [selP_0 q5] at hb; rw [← hb] at h4; exact absurd h4 (fl_c (by decide))
    have h6 : (adP bt n st).2.2 < n := by
      rcases kd_c bt n (adP bt n st).2.2 with ⟨e, -⟩ | ⟨-, e, -⟩ | ⟨e, -⟩ | ⟨e, -⟩
      · have := h5.2.1; omega
      · exact e
      · have := h5.2.1; omega
      · have := h5.2.1; omega
    have h7 := enM_lt (bt := bt) h6
    have h8 := h5.2.2
    exact hI.addBody h3 h1 ⟨by omega, by omega⟩ (by omega)
  rw [selP_0 w5] at h ⊢
  by_cases w6 : isW bt n 6 st
  · rw [selP_1 w6] at h ⊢
    unfold clLegS at h
    unfold clLegD
    by_cases q : 8 ≤ D 1
    · rw [selP_1 q] at h; exact absurd h (fl_c (by decide))
    rw [selP_0 q] at h
    generalize hb : lgB bt n D (adP bt n st) = b at *
    have h2 : (tkP bt n 0 21599 (adP bt n b)).1 = 0 := by
      by_cases q : (tkP bt n 0 21599 (adP bt n b)).1 = 0
      · exact q
      · rw [tkP_e q] at h; exact h
    have h4 : b.1 = 0 := by
      by_cases q : b.1 = 0
      · exact q
      · rw [adP_e q, tkP_e q] at h2; exact h2
    by_cases q3 : (nhP bt n 0 5000 (adP bt n st)).1 = 0 ∧ nv bt n (adP bt n st) ≤ lastM D
    · unfold lgB at hb; rw [selP_1 q3] at hb; rw [← hb] at h4; exact absurd h4 (fl_c (by decide))
    · unfold lgB at hb; rw [selP_0 q3] at hb
      have h5 : (nhP bt n 0 5000 (adP bt n st)).1 = 0 := by rw [hb]; exact h4
      have h6 := nh_0 h5
      exact hI.addLeg h6.2.1 (tk_0 h2) (tk_0 h) (by omega) (by have := h6.2.1; omega)
  rw [selP_0 w6] at h ⊢
  by_cases w7 : isW bt n 7 st
  · rw [selP_1 w7] at h ⊢
    unfold clSightS at h
    unfold clSightD
    by_cases q : 12 ≤ D 2
    · rw [selP_1 q] at h; exact absurd h (fl_c (by decide))
    rw [selP_0 q] at h
    generalize hb : sgB bt n D (adP bt n st) = b at *
    have h2 : (tkP bt n 0 5000 (adP bt n b)).1 = 0 := by
      by_cases q : (tkP bt n 0 5000 (adP bt n b)).1 = 0
      · exact q
      · rw [tkP_e q] at h; exact h
    have h4 : b.1 = 0 := by
      by_cases q : b.1 = 0
      · exact q
      · rw [adP_e q, tkP_e q] at h2; exact h2
    have h5 : bdM bt n D (adP bt n st) ≠ -1 := by
      intro q5
      unfold sgB at hb
      by_cases q6 : (adP bt n st).1 = 0 ∧ kdM bt n (adP bt n st).2.2 = 1
      · rw [selP_1 q6, selP_1 q5] at hb; rw [← hb] at h4; exact absurd h4 (fl_c (by decide))
      · rw [selP_0 q6] at hb; rw [← hb] at h4; exact absurd h4 (fl_c (by decide))
    have h6 : 0 ≤ bdM bt n D (adP bt n st) ∧ bdM bt n D (adP bt n st) < D 0 := by
      unfold bdM at h5 ⊢
      by_cases q7 : isNm bt n (adP bt n st)
      · rw [selP_1 q7] at h5 ⊢
        have := bdF_b D (nmM bt n (adP bt n st).2.2) (D 0).toNat
        omega
      · rw [selP_0 q7] at h5; exact absurd rfl h5
    exact hI.addSight h6 (tk_0 h2) (tk_0 h) (by omega)
  rw [selP_0 w7] at h
  exact absurd h (fl_c (by decide))
/-- alike, as far as it counts -/
def gE (g h : Nat → Int) : Prop := (∀ j, j < 9 → g j = h j) ∧ (∀ k q : Nat, (k : Int) < g 0 → q < 3 → g (9 + q + 4 * k) = h (9 + q + 4 * k)) ∧ (∀ k q : Nat, (k : Int) < g 1 → q < 3 → g (33 + q + 3 * k) = h (33 + q + 3 * k)) ∧ (∀ k q : Nat, (k : Int) < g 2 → q < 3 → g (57 + q + 3 * k) = h (57 + q + 3 * k))
theorem gE.rf {g : Nat → Int} : gE g g := ⟨fun _ _ => rfl, fun _ _ _ _ => rfl, fun _ _ _ _ => rfl, fun _ _ _ _ => rfl⟩
theorem gE.sy {g h : Nat → Int} (e : gE g h) : gE h g := by
  obtain ⟨a, b, c, d⟩ := e
  exact ⟨fun j hj => (a j hj).symm, fun k q hk hq => (b k q (by rw [a 0 (by decide)]; exact hk) hq).symm, fun k q hk hq => (c k q (by rw [a 1 (by decide)]; exact hk) hq).symm, fun k q hk hq => (d k q (by rw [a 2 (by decide)]; exact hk) hq).symm⟩
theorem gE.tr {g h f : Nat → Int} (e : gE g h) (e1 : gE h f) : gE g f := by
  obtain ⟨a, b, c, d⟩ := e
  obtain ⟨a1, b1, c1, d1⟩ := e1
  exact ⟨fun j hj => (a j hj).trans (a1 j hj), fun k q hk hq => (b k q hk hq).trans (b1 k q (by rw [← a 0 (by decide)]; exact hk) hq), fun k q hk hq => (c k q hk hq).trans (c1 k q (by rw [← a 1 (by decide)]; exact hk) hq), fun k q hk hq => (d k q hk hq).trans (d1 k q (by rw [← a 2 (by decide)]; exact hk) hq)⟩
theorem gE.body {g h : Nat → Int} (e : gE g h) {k : Nat} (hk : (k : Int) < g 0) : g (9 + 4 * k) = h (9 + 4 * k) ∧ g (10 + 4 * k) = h (10 + 4 * k) ∧ g (11 + 4 * k) = h (11 + 4 * k) := ⟨e.2.1 k 0 hk (by decide), e.2.1 k 1 hk (by decide), e.2.1 k 2 hk (by decide)⟩
theorem gE.leg {g h : Nat → Int} (e : gE g h) {k : Nat} (hk : (k : Int) < g 1) : g (33 + 3 * k) = h (33 + 3 * k) ∧ g (34 + 3 * k) = h (34 + 3 * k) ∧ g (35 + 3 * k) = h (35 + 3 * k) := ⟨e.2.2.1 k 0 hk (by decide), e.2.2.1 k 1 hk (by decide), e.2.2.1 k 2 hk (by decide)⟩
theorem gE.sight {g h : Nat → Int} (e : gE g h) {k : Nat} (hk : (k : Int) < g 2) : g (57 + 3 * k) = h (57 + 3 * k) ∧ g (58 + 3 * k) = h (58 + 3 * k) ∧ g (59 + 3 * k) = h (59 + 3 * k) := ⟨e.2.2.2 k 0 hk (by decide), e.2.2.2 k 1 hk (by decide), e.2.2.2 k 2 hk (by decide)⟩
theorem gE.inv {g h : Nat → Int} (e : gE g h) (hI : Inv g) : Inv h := by
  obtain ⟨a0, a1, a2, a3, a4, a5, a6, a7, a8, a9, a10, a11, a12⟩ := hI
  have c := fun j hj => e.1 j hj
  have c0 := c 0 (by decide); have c1 := c 1 (by decide); have c2 := c 2 (by decide)
  refine ⟨by rw [← c0]; exact a0, by rw [← c1]; exact a1, by rw [← c2]; exact a2, by rw [← c 3 (by decide)]; exact a3, by rw [← c 4 (by decide)]; exact a4, by rw [← c 5 (by decide)]; exact a5, by rw [← c 6 (by decide)]; exact a6, by rw [← c 7 (by decide)]; exact a7, by rw [← c 8 (by decide)]; exact a8, ?_, ?_, ?_, ?_⟩
  · intro k hk; rw [← c0] at hk; obtain ⟨q1, q2, q3⟩ := e.body hk; rw [← q1, ← q2, ← q3]; exact a9 k hk
  · intro k hk; rw [← c1] at hk; obtain ⟨q1, q2, q3⟩ := e.leg hk; rw [← q1, ← q2, ← q3]; exact a10 k hk
  · intro k hk; rw [← c1] at hk; have q1 := (e.leg (k := k) (by omega)).1; have q2 := (e.leg (k := k + 1) (by omega)).1
    rw [show 33 + 3 * (k + 1) = 36 + 3 * k by omega] at q2; rw [← q1, ← q2]; exact a11 k hk
  · intro k hk; rw [← c2] at hk; obtain ⟨q1, q2, q3⟩ := e.sight hk; rw [← q1, ← q2, ← q3, ← c0]; exact a12 k hk
theorem aS_c {g h : Nat → Int} (c2 : g 2 = h 2) (b t a : Int) {j : Nat} (hj : g j = h j ∨ j = 57 + 3 * (h 2).toNat ∨ j = 58 + 3 * (h 2).toNat ∨ j = 59 + 3 * (h 2).toNat) : addSightM g b t a j = addSightM h b t a j := by
  unfold addSightM
  rw [c2]
  by_cases z0 : j = 2
  · simp only [if_pos z0]
  simp only [if_neg z0]
  by_cases z1 : j = 57 + 3 * (h 2).toNat
  · simp only [if_pos z1]
  simp only [if_neg z1]
  by_cases z2 : j = 58 + 3 * (h 2).toNat
  · simp only [if_pos z2]
  simp only [if_neg z2]
  by_cases z3 : j = 59 + 3 * (h 2).toNat
  · simp only [if_pos z3]
  simp only [if_neg z3]
  omega
theorem aL_c {g h : Nat → Int} (c1 : g 1 = h 1) (b t a : Int) {j : Nat} (hj : g j = h j ∨ j = 33 + 3 * (h 1).toNat ∨ j = 34 + 3 * (h 1).toNat ∨ j = 35 + 3 * (h 1).toNat) : addLegM g b t a j = addLegM h b t a j := by
  unfold addLegM
  rw [c1]
  by_cases z0 : j = 1
  · simp only [if_pos z0]
  simp only [if_neg z0]
  by_cases z1 : j = 33 + 3 * (h 1).toNat
  · simp only [if_pos z1]
  simp only [if_neg z1]
  by_cases z2 : j = 34 + 3 * (h 1).toNat
  · simp only [if_pos z2]
  simp only [if_neg z2]
  by_cases z3 : j = 35 + 3 * (h 1).toNat
  · simp only [if_pos z3]
  simp only [if_neg z3]
  omega
theorem gE.addSight {g h : Nat → Int} (e : gE g h) (hn : 0 ≤ g 2) (b t a : Int) : gE (addSightM g b t a) (addSightM h b t a) := by
  have c2 := e.1 2 (by decide)
  have o : ∀ j, j ≠ 2 → j < 57 → addSightM g b t a j = g j := fun j q1 q2 => by unfold addSightM; rw [if_neg q1, if_neg (by omega), if_neg (by omega), if_neg (by omega)]
  refine ⟨fun j hj => aS_c c2 b t a (Or.inl (e.1 j hj)), fun k q hk hq => ?_, fun k q hk hq => ?_, fun k q hk hq => ?_⟩
  · rw [o 0 (by decide) (by decide)] at hk; exact aS_c c2 b t a (Or.inl (e.2.1 k q hk hq))
  · rw [o 1 (by decide) (by decide)] at hk; exact aS_c c2 b t a (Or.inl (e.2.2.1 k q hk hq))
  · have hk2 : (k : Int) < g 2 + 1 := hk
    by_cases hl : (k : Int) < g 2
    · exact aS_c c2 b t a (Or.inl (e.2.2.2 k q hl hq))
    · exact aS_c c2 b t a (Or.inr (by omega))
theorem gE.addLeg {g h : Nat → Int} (e : gE g h) (hn : 0 ≤ g 1) (t c s : Int) : gE (addLegM g t c s) (addLegM h t c s) := by
  have c1 := e.1 1 (by decide)
  have o0 : addLegM g t c s 0 = g 0 := by unfold addLegM; rw [if_neg (by decide), if_neg (by omega), if_neg (by omega), if_neg (by omega)]
  have o2 : addLegM g t c s 2 = g 2 := by unfold addLegM; rw [if_neg (by decide), if_neg (by omega), if_neg (by omega), if_neg (by omega)]
  refine ⟨fun j hj => aL_c c1 t c s (Or.inl (e.1 j hj)), fun k q hk hq => ?_, fun k q hk hq => ?_, fun k q hk hq => ?_⟩
  · rw [o0] at hk; exact aL_c c1 t c s (Or.inl (e.2.1 k q hk hq))
  · have hk2 : (k : Int) < g 1 + 1 := hk
    by_cases hl : (k : Int) < g 1
    · exact aL_c c1 t c s (Or.inl (e.2.2.1 k q hl hq))
    · exact aL_c c1 t c s (Or.inr (by omega))
  · rw [o2] at hk; exact aL_c c1 t c s (Or.inl (e.2.2.2 k q hk hq))
theorem dr_c {g h : Nat → Int} (e : gE g h) {i j : Nat} (hj : g j = h j) : dropM g i j = dropM h i j := by
  have c2 := e.1 2 (by decide)
  unfold dropM
  rw [c2]
  by_cases z0 : j = 2
  · simp only [if_pos z0]
  simp only [if_neg z0]
  by_cases z1 : 57 + 3 * i ≤ j ∧ (j : Int) < 57 + 3 * (h 2 - 1)
  · simp only [if_pos z1]
    obtain ⟨k2, q2, hk2, hq2⟩ : ∃ k2 q2 : Nat, j + 3 = 57 + q2 + 3 * k2 ∧ q2 < 3 := ⟨(j + 3 - 57) / 3, (j + 3 - 57) % 3, by omega, by omega⟩
    rw [hk2]; exact e.2.2.2 k2 q2 (by omega) hq2
  · simp only [if_neg z1]; exact hj
theorem gE.drop {g h : Nat → Int} (e : gE g h) {i : Nat} (hi : (i : Int) < g 2) : gE (dropM g i) (dropM h i) := by
  have o : ∀ j, j ≠ 2 → j < 57 → dropM g i j = g j := fun j q1 q2 => by unfold dropM; rw [if_neg q1, if_neg (by omega)]
  refine ⟨fun j hj => dr_c e (e.1 j hj), fun k q hk hq => ?_, fun k q hk hq => ?_, fun k q hk hq => ?_⟩
  · rw [o 0 (by decide) (by decide)] at hk; exact dr_c e (e.2.1 k q hk hq)
  · rw [o 1 (by decide) (by decide)] at hk; exact dr_c e (e.2.2.1 k q hk hq)
  · have hk2 : (k : Int) < g 2 - 1 := hk
    exact dr_c e (e.2.2.2 k q (by omega) hq)
theorem gE.set {g h : Nat → Int} (e : gE g h) {i j : Nat} (hi : 3 ≤ i ∧ i < 9) (hj : 3 ≤ j ∧ j < 9) (a b : Int) : gE (setM g i a j b) (setM h i a j b) := by
  have o : ∀ (f : Nat → Int) q, (q < 3 ∨ 9 ≤ q) → setM f i a j b q = f q := fun f q hq => by unfold setM; rw [if_neg (by omega), if_neg (by omega)]
  refine ⟨fun q hq => ?_, fun k q hk hq => ?_, fun k q hk hq => ?_, fun k q hk hq => ?_⟩
  · unfold setM
    by_cases z1 : q = i
    · simp only [if_pos z1]
    · simp only [if_neg z1]
      by_cases z2 : q = j
      · simp only [if_pos z2]
      · simp only [if_neg z2]; exact e.1 q hq
  · rw [o g 0 (by omega)] at hk; rw [o g _ (by omega), o h _ (by omega)]; exact e.2.1 k q hk hq
  · rw [o g 1 (by omega)] at hk; rw [o g _ (by omega), o h _ (by omega)]; exact e.2.2.1 k q hk hq
  · rw [o g 2 (by omega)] at hk; rw [o g _ (by omega), o h _ (by omega)]; exact e.2.2.2 k q hk hq
theorem gE.kp {g h : Nat → Int} (e : gE g h) {i : Nat} (hi : 3 ≤ i ∧ i < 9) (a : Int) : gE (kup g i a) (kup h i a) := by
  have e1 := e.set hi hi a a
  have e2 : ∀ f : Nat → Int, setM f i a i a = kup f i a := fun f => by
    funext q; unfold setM kup
    by_cases z : q = i
    · simp only [if_pos z]
    · simp only [if_neg z]
  rw [e2, e2] at e1; exact e1
