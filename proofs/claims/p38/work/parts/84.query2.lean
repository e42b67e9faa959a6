/-! THE LAW'S QUERY: many altitude>a -/
theorem ctF_c {h h1 : Nat → Bool} (e : ∀ i, h i = h1 i) : ∀ k : Nat, ctF h k = ctF h1 k := by
  intro k
  induction k with
  | zero => rfl
  | succ k ih => show (if h k = true then ctF h k + 1 else ctF h k) = if h1 k = true then ctF h1 k + 1 else ctF h1 k; rw [ih, e k]
theorem isW_0 {bt : Nat → Int} {n t p : Nat} {k : Int} (h : kdM bt n p = k) (hk : k ≠ 1) : ¬ isW bt n t (0, 0, p) := fun q => hk (h.symm.trans q.2.1)
theorem isS_0 {bt : Nat → Int} {n p : Nat} {c k : Int} (h : kdM bt n p = k) (hk : k ≠ 3) : ¬ isS bt n c (0, 0, p) := fun q => hk (h.symm.trans q.2.1)
theorem q_all {g bt : Nat → Int} {n : Nat} {a : Int} (N : Nat) (ha : 0 ≤ a ∧ a < 100000) (h : atT bt n 0 (stW 41 ++ sgL a)) : qyV (pV g) bt n N = ctF (fun i => decide (a < obsM g i)) N := by
  rw [wd41, sgL_nn ha.1] at h
  have h0 : atT bt n 0 (stW 29 ++ ([32] ++ (stW 33 ++ ([] ++ (62 :: (dgL a ++ ([] ++ [])))))))  := by
    simp only [List.append_assoc, List.cons_append, List.nil_append, List.append_nil] at h ⊢
    exact h
  have hn1 : nbL (stW 33 ++ ([] ++ (62 :: (dgL a ++ ([] ++ []))))) := nb_wd (by decide)
  obtain ⟨w1, a1, t1⟩ := is_w h0 (sp32 hn1) (by decide)
  obtain ⟨w2, a2, t2⟩ := is_w t1 (Or.inr ⟨rfl, Or.inr ⟨62, _, rfl, Or.inr rfl⟩⟩) (by decide)
  obtain ⟨k3, b3, a3, t3⟩ := tok_y t2 (by decide) (by decide) (nb_dg ha)
  obtain ⟨-, v4, h4, n4, a4, t4⟩ := tk_p (lo := 0) (hi := 99999) t3 (Or.inr ⟨rfl, Or.inl rfl⟩) ha (by omega)
  have e0 : tx0 bt n = (0, 0, 0) := by
    show (0, 0, skM bt n 0) = _
    rw [sk_nb h0 (nb_wd (by decide))]
  generalize 0 + (stW 29).length + [(32 : Int)].length = p1 at *
  generalize p1 + (stW 33).length + ([] : List Int).length = p2 at *
  generalize p2 + 1 + (dgL a).length + ([] : List Int).length = p4 at *
  have hp4 : p4 = n := t4.1
  have eq0 : qy0 bt n = (0, 0, p1) := by
    unfold qy0
    rw [e0, selP_1 (Or.inl w1), a1]
  have hk2 : kdM bt n p1 = 1 := w2.2.1
  have hpc : pcM bt n (0, 0, p1) = 3 := by
    unfold pcM
    rw [selI_0 (isW_ne w2 (by decide)), selI_0 (isW_ne w2 (by decide)), selI_0 (isW_ne w2 (by decide)), selI_1 w2]
  have hk4 : kdM bt n (p2 + 1) = 2 := n4.2
  have hpc2 : pcM bt n (0, 0, p2 + 1) = -1 := by
    unfold pcM
    rw [selI_0 (isW_0 hk4 (by decide)), selI_0 (isW_0 hk4 (by decide)), selI_0 (isW_0 hk4 (by decide)), selI_0 (isW_0 hk4 (by decide)), selI_0 (isW_0 hk4 (by decide)), selI_0 (isW_0 hk4 (by decide)), selI_0 (isW_0 hk4 (by decide))]
  have hv1 : vlS bt n (0, 0, p1) = (0, 0, p2) := by
    unfold vlS
    rw [selP_0 (by rw [hpc]; decide), a2]
  have s62 : isS bt n 62 (0, 0, p2) := ⟨rfl, k3, b3⟩
  have ho : opS bt n (0, 0, p2) = (0, 0, p2 + 1) := by
    unfold opS
    rw [selP_1 (Or.inr (Or.inr s62)), a3]
  have hom : opM bt n (0, 0, p2) = -22 := by
    unfold opM
    rw [selI_0 (fun q => by have h1 := q.2.2; have h2 := s62.2.2; omega), selI_0 (fun q => by have h1 := q.2.2; have h2 := s62.2.2; omega)]
  have hv2 : vlS bt n (0, 0, p2 + 1) = (0, 0, p4) := by
    unfold vlS
    rw [selP_1 hpc2, h4, a4]
  have hend : kdM bt n p4 = 0 := by unfold kdM; rw [if_pos (by omega)]
  have hf : qF (pV g) bt n 6 (0, 0, p1) = cmpM (pV g) bt n (0, 0, p1) := qF_c 6 (isW_ne w2 (by decide)) (isS_0 hk2 (by decide))
  have hc1 : (cmpM (pV g) bt n (0, 0, p1)).1 = (0, 0, p4) := by
    show vlS bt n (opS bt n (vlS bt n (0, 0, p1))) = _
    rw [hv1, ho, hv2]
  have hcon : conM bt n (qF (pV g) bt n 6) (0, 0, p1) = cmpM (pV g) bt n (0, 0, p1) := by
    unfold conM
    rw [hf]
    exact cjN_st (by rw [hc1]; exact isW_0 hend (by decide)) _
  have hR : qyR (pV g) bt n = cmpM (pV g) bt n (0, 0, p1) := by
    unfold qyR tstM
    rw [eq0, hcon]
    exact cjN_st (by rw [hc1]; exact isW_0 hend (by decide)) _
  have hS : (qyS (pV g) bt n).1 = 0 := by
    unfold qyS
    rw [hR, hc1]
    unfold neP
    rw [selP_0 (fun q => q.2 hend)]
  unfold qyV
  rw [selI_1 hS, selI_0 (by rw [e0]; exact isW_ne w1 (by decide)), hR]
  refine ctF_c (fun i => ?_) N
  show cmpH (opM bt n (vlS bt n (0, 0, p1))) (vlV (pV g) bt n (0, 0, p1) i) (vlV (pV g) bt n (opS bt n (vlS bt n (0, 0, p1))) i) = _
  rw [hv1, ho, hom]
  have hl : vlV (pV g) bt n (0, 0, p1) i = obsM g i := by
    unfold vlV
    rw [selI_0 (by rw [hpc]; decide), hpc]
    rfl
  have hr : vlV (pV g) bt n (0, 0, p2 + 1) i = a := by
    unfold vlV
    rw [selI_1 hpc2, v4]
  rw [hl, hr]
  rfl
