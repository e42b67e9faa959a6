theorem txN_add {bt : Nat → Int} {n : Nat} : ∀ (a b : Nat) (x : PS × (Nat → Int)), txN bt n (a + b) x = txN bt n b (txN bt n a x) := by
  intro a
  induction a with
  | zero => intro b x; rw [Nat.zero_add]; rfl
  | succ a ih =>
    intro b x
    by_cases hg : goP bt n x.1
    · have e : ∀ i, txN bt n (i + 1) x = txN bt n i (clS bt n x.2 x.1, clD bt n x.2 x.1) := fun i => selP_1 hg
      rw [show a + 1 + b = (a + b) + 1 by omega, e, e, ih]
    · rw [txN_st hg, txN_st hg, txN_st hg]
theorem txN_1 {bt : Nat → Int} {n : Nat} {st : PS} {D : Nat → Int} (k : Nat) (h : goP bt n st) : txN bt n (k + 1) (st, D) = txN bt n k (clS bt n D st, clD bt n D st) := selP_1 h
/-- so many bodies, legs and sights of g have been read -/
def LD (g D : Nat → Int) (a b c : Nat) : Prop := (D 0 = (a : Int) ∧ D 1 = (b : Int) ∧ D 2 = (c : Int)) ∧ (∀ j, 3 ≤ j → j < 9 → D j = g j) ∧
  (∀ i, i < a → D (9 + 4 * i) = g (9 + 4 * i) ∧ D (10 + 4 * i) = g (10 + 4 * i) ∧ D (11 + 4 * i) = g (11 + 4 * i) ∧ D (12 + 4 * i) = nmG (nmf i) (g (11 + 4 * i)).toNat) ∧
  (∀ i, i < b → D (33 + 3 * i) = g (33 + 3 * i) ∧ D (34 + 3 * i) = g (34 + 3 * i) ∧ D (35 + 3 * i) = g (35 + 3 * i)) ∧
  (∀ i, i < c → D (57 + 3 * i) = g (57 + 3 * i) ∧ D (58 + 3 * i) = g (58 + 3 * i) ∧ D (59 + 3 * i) = g (59 + 3 * i))
section
variable {bt : Nat → Int} {n p : Nat} {R : List Int} {g D : Nat → Int}
theorem nb59 {R : List Int} : nbL (59 :: R) := Or.inr ⟨59, R, rfl, by decide⟩
theorem nb_bT (hI : Inv g) (k : Nat) (R : List Int) : nbL (bT g k ++ R) := by
  unfold bT; rw [wd28]; simp only [List.append_assoc]; exact nb_wd (by decide)
theorem nb_lT (k : Nat) (R : List Int) : nbL (lT g k ++ R) := by
  unfold lT; rw [wd39]; simp only [List.append_assoc]; exact nb_wd (by decide)
theorem nb_sT (k : Nat) (R : List Int) : nbL (sT g k ++ R) := by
  unfold sT; rw [wd40]; simp only [List.append_assoc]; exact nb_wd (by decide)
theorem bT_e (k : Nat) (X : List Int) : bT g k ++ X = stW 5 ++ ([32] ++ (nmL k (g (11 + 4 * k)).toNat ++ ([32] ++ (sgL (g (9 + 4 * k)) ++ ([32] ++ (sgL (g (10 + 4 * k)) ++ ([] ++ 59 :: X))))))) := by
  unfold bT; rw [wd28, wd24]; simp only [List.append_assoc, List.cons_append, List.nil_append]
theorem lT_e (k : Nat) (X : List Int) : lT g k ++ X = stW 6 ++ ([32] ++ (sgL (g (33 + 3 * k)) ++ ([32] ++ (sgL (g (34 + 3 * k)) ++ ([32] ++ (sgL (g (35 + 3 * k)) ++ ([] ++ 59 :: X))))))) := by
  unfold lT; rw [wd39, wd24]; simp only [List.append_assoc, List.cons_append, List.nil_append]
theorem sT_e (k : Nat) (X : List Int) : sT g k ++ X = stW 7 ++ ([32] ++ (nmL (g (57 + 3 * k)).toNat (g (11 + 4 * (g (57 + 3 * k)).toNat)).toNat ++ ([32] ++ (sgL (g (58 + 3 * k)) ++ ([32] ++ (sgL (g (59 + 3 * k)) ++ ([] ++ 59 :: X))))))) := by
  unfold sT; rw [wd40, wd24]; simp only [List.append_assoc, List.cons_append, List.nil_append]
theorem ld_head (hI : Inv g) (h4 : -10799 ≤ g 4) (h : atT bt n 0 (hdT g ++ R)) (hR : nbL R) : ∃ p1 D, txN bt n 4 (tx0 bt n, fun _ => 0) = ((0, 0, p1), D) ∧ atT bt n p1 R ∧ LD g D 0 0 0 := by
  have h0 := hI.c
  unfold hdT at h
  rw [wd8, wd24, wd25, wd26, wd27] at h
  simp only [List.append_assoc, List.cons_append, List.nil_append] at h
  have e0 : tx0 bt n = (0, 0, 0) := by
    show (0, 0, skM bt n 0) = _
    rw [sk_nb h (nb_wd (by decide))]
  obtain ⟨p1, x1, t1, d1, g1⟩ := cl_start (D := fun _ => 0) (R := stW 2 ++ ([32] ++ (sgL (g 5) ++ ([] ++ 59 :: (stW 3 ++ ([32] ++ (sgL (g 6) ++ ([] ++ 59 :: (stW 4 ++ ([32] ++ (sgL (g 7) ++ ([32] ++ (sgL (g 8) ++ ([] ++ 59 :: R)))))))))))))) h (by omega) (by omega) (nb_wd (by decide))
  obtain ⟨p2, x2, t2, d2, g2⟩ := cl_eye (D := setM (fun _ => 0) 3 (g 3) 4 (g 4)) t1 (by omega) (nb_wd (by decide))
  obtain ⟨p3, x3, t3, d3, g3⟩ := cl_index (D := kup (setM (fun _ => 0) 3 (g 3) 4 (g 4)) 5 (g 5)) t2 (by omega) (nb_wd (by decide))
  obtain ⟨p4, x4, t4, d4, g4⟩ := cl_current (D := kup (kup (setM (fun _ => 0) 3 (g 3) 4 (g 4)) 5 (g 5)) 6 (g 6)) t3 (by omega) (by omega) hR
  refine ⟨p4, setM (kup (kup (setM (fun _ => 0) 3 (g 3) 4 (g 4)) 5 (g 5)) 6 (g 6)) 7 (g 7) 8 (g 8), ?_, t4, ⟨⟨rfl, rfl, rfl⟩, fun j a b => ?_, fun i hi => absurd hi (by omega), fun i hi => absurd hi (by omega), fun i hi => absurd hi (by omega)⟩⟩
  · rw [e0, txN_1 3 g1, x1, d1, txN_1 2 g2, x2, d2, txN_1 1 g3, x3, d3, txN_1 0 g4, x4, d4]
    rfl
  · rcases (show j = 3 ∨ j = 4 ∨ j = 5 ∨ j = 6 ∨ j = 7 ∨ j = 8 by omega) with rfl | rfl | rfl | rfl | rfl | rfl <;> rfl
theorem ld_bodies (hI : Inv g) (hR : nbL R) : ∀ (j k p : Nat) (D : Nat → Int), ((k + j : Nat) : Int) = g 0 → atT bt n p (clR (bT g) k j ++ R) → LD g D k 0 0 → ∃ p1 D1, txN bt n j ((0, 0, p), D) = ((0, 0, p1), D1) ∧ atT bt n p1 R ∧ LD g D1 (k + j) 0 0 := by
  intro j
  have h0 := hI.c
  induction j with
  | zero => intro k p D _ h hD; exact ⟨p, D, rfl, h, hD⟩
  | succ j ih =>
    intro k p D hk h hD
    obtain ⟨⟨q0, q1, q2⟩, q3, q4, q5, q6⟩ := hD
    have hb := hI.body k (by omega)
    have hR1 : nbL (clR (bT g) (k + 1) j ++ R) := nb_cl (nb_bT hI) hR (k + 1) j
    have h1 : atT bt n p ((bT g k ++ clR (bT g) (k + 1) j) ++ R) := h
    rw [List.append_assoc, bT_e] at h1
    obtain ⟨p1, x1, t1, d1, g1⟩ := cl_body (D := D) (k := k) (L := (g (11 + 4 * k)).toNat) (a := g (9 + 4 * k)) (b := g (10 + 4 * k)) (R := clR (bT g) (k + 1) j ++ R) h1 (by omega) (by omega) (by omega) hR1 (by omega) (fun i hi e => by
      have hi2 : i < k := by omega
      rw [(q4 i hi2).2.2.2] at e
      have hbi := hI.body i (by omega)
      have := nm_ne (by omega) (by omega) (by omega) e
      omega)
    have ek : (D 0).toNat = k := by omega
    obtain ⟨p2, D2, y1, y2, y3⟩ := ih (k + 1) p1 _ (by omega) t1 (by
      show LD g (bodyD D (g (9 + 4 * k)) (g (10 + 4 * k)) ((g (11 + 4 * k)).toNat : Int) (nmG (nmf k) (g (11 + 4 * k)).toNat)) (k + 1) 0 0
      have en : ∀ i, (i ≠ 0 ∧ (i < 9 + 4 * k ∨ 12 + 4 * k < i)) → bodyD D (g (9 + 4 * k)) (g (10 + 4 * k)) ((g (11 + 4 * k)).toNat : Int) (nmG (nmf k) (g (11 + 4 * k)).toNat) i = D i := fun i hi => by
        unfold bodyD
        rw [ek, if_neg (by omega), if_neg (by omega), if_neg (by omega), if_neg (by omega), if_neg (by omega)]
      refine ⟨⟨?_, ?_, ?_⟩, fun i a b => ?_, fun i hi => ?_, fun i hi => absurd hi (by omega), fun i hi => absurd hi (by omega)⟩
      · show D 0 + 1 = _; omega
      · rw [en 1 (by omega)]; exact q1
      · rw [en 2 (by omega)]; exact q2
      · rw [en i (by omega)]; exact q3 i a b
      · by_cases e : i = k
        · subst e
          unfold bodyD
          rw [ek]
          refine ⟨?_, ?_, ?_, ?_⟩
          · rw [if_neg (by omega), if_pos rfl]
          · rw [if_neg (by omega), if_neg (by omega), if_pos rfl]
          · rw [if_neg (by omega), if_neg (by omega), if_neg (by omega), if_pos rfl]; omega
          · rw [if_neg (by omega), if_neg (by omega), if_neg (by omega), if_neg (by omega), if_pos rfl]
        · rw [en _ (by omega), en _ (by omega), en _ (by omega), en _ (by omega)]
          exact q4 i (by omega))
    rw [show k + (j + 1) = k + 1 + j by omega]
    refine ⟨p2, D2, ?_, y2, y3⟩
    rw [txN_1 j g1, x1, d1]
    exact y1
theorem ld_legs (hI : Inv g) (hR : nbL R) (a : Nat) (haN : (a : Int) = g 0) : ∀ (j k p : Nat) (D : Nat → Int), ((k + j : Nat) : Int) = g 1 → atT bt n p (clR (lT g) k j ++ R) → LD g D a k 0 → ∃ p1 D1, txN bt n j ((0, 0, p), D) = ((0, 0, p1), D1) ∧ atT bt n p1 R ∧ LD g D1 a (k + j) 0 := by
  intro j
  have h0 := hI.c
  induction j with
  | zero => intro k p D _ h hD; exact ⟨p, D, rfl, h, hD⟩
  | succ j ih =>
    intro k p D hk h hD
    obtain ⟨⟨q0, q1, q2⟩, q3, q4, q5, q6⟩ := hD
    have hb := hI.leg k (by omega)
    have hR1 : nbL (clR (lT g) (k + 1) j ++ R) := nb_cl nb_lT hR (k + 1) j
    have h1 : atT bt n p ((lT g k ++ clR (lT g) (k + 1) j) ++ R) := h
    rw [List.append_assoc, lT_e] at h1
    have ek : (D 1).toNat = k := by omega
    have hlast : lastM D < g (33 + 3 * k) := by
      unfold lastM
      by_cases e : k = 0
      · rw [if_pos (by omega)]; omega
      · obtain ⟨m, rfl⟩ : ∃ m, k = m + 1 := ⟨k - 1, by omega⟩
        rw [if_neg (by omega), show (D 1 - 1).toNat = m by omega, (q5 m (by omega)).1]
        have := hI.ord m (by omega)
        rw [show 33 + 3 * (m + 1) = 36 + 3 * m by omega]
        exact this
    obtain ⟨p1, x1, t1, d1, g1⟩ := cl_leg (D := D) (a := g (33 + 3 * k)) (b := g (34 + 3 * k)) (c := g (35 + 3 * k)) (R := clR (lT g) (k + 1) j ++ R) h1 (by omega) (by omega) (by omega) hR1 (by omega) hlast
    obtain ⟨p2, D2, y1, y2, y3⟩ := ih (k + 1) p1 _ (by omega) t1 (by
      show LD g (addLegM D (g (33 + 3 * k)) (g (34 + 3 * k)) (g (35 + 3 * k))) a (k + 1) 0
      have en : ∀ i, (i ≠ 1 ∧ (i < 33 + 3 * k ∨ 35 + 3 * k < i)) → addLegM D (g (33 + 3 * k)) (g (34 + 3 * k)) (g (35 + 3 * k)) i = D i := fun i hi => by
        unfold addLegM
        rw [ek, if_neg (by omega), if_neg (by omega), if_neg (by omega), if_neg (by omega)]
      refine ⟨⟨?_, ?_, ?_⟩, fun i a b => ?_, fun i hi => ?_, fun i hi => ?_, fun i hi => absurd hi (by omega)⟩
      · rw [en 0 (by omega)]; exact q0
      · show D 1 + 1 = _; omega
      · rw [en 2 (by omega)]; exact q2
      · rw [en i (by omega)]; exact q3 i a b
      · rw [en _ (by omega), en _ (by omega), en _ (by omega), en _ (by omega)]
        exact q4 i hi
      · by_cases e : i = k
        · subst e
          unfold addLegM
          rw [ek]
          refine ⟨?_, ?_, ?_⟩
          · rw [if_neg (by omega), if_pos rfl]
          · rw [if_neg (by omega), if_neg (by omega), if_pos rfl]
          · rw [if_neg (by omega), if_neg (by omega), if_neg (by omega), if_pos rfl]
        · rw [en _ (by omega), en _ (by omega), en _ (by omega)]
          exact q5 i (by omega))
    rw [show k + (j + 1) = k + 1 + j by omega]
    refine ⟨p2, D2, ?_, y2, y3⟩
    rw [txN_1 j g1, x1, d1]
    exact y1
theorem ld_sights (hI : Inv g) (hR : nbL R) (a b : Nat) (haN : (a : Int) = g 0) (hbN : (b : Int) = g 1) : ∀ (j k p : Nat) (D : Nat → Int), ((k + j : Nat) : Int) = g 2 → atT bt n p (clR (sT g) k j ++ R) → LD g D a b k → ∃ p1 D1, txN bt n j ((0, 0, p), D) = ((0, 0, p1), D1) ∧ atT bt n p1 R ∧ LD g D1 a b (k + j) := by
  intro j
  have h0 := hI.c
  induction j with
  | zero => intro k p D _ h hD; exact ⟨p, D, rfl, h, hD⟩
  | succ j ih =>
    intro k p D hk h hD
    obtain ⟨⟨q0, q1, q2⟩, q3, q4, q5, q6⟩ := hD
    have hb := hI.sight k (by omega)
    have hbb := hI.body (g (57 + 3 * k)).toNat (by omega)
    have hR1 : nbL (clR (sT g) (k + 1) j ++ R) := nb_cl nb_sT hR (k + 1) j
    have h1 : atT bt n p ((sT g k ++ clR (sT g) (k + 1) j) ++ R) := h
    rw [List.append_assoc, sT_e] at h1
    have ek : (D 2).toNat = k := by omega
    obtain ⟨p1, x1, t1, d1, g1⟩ := cl_sight (D := D) (k := (g (57 + 3 * k)).toNat) (L := (g (11 + 4 * (g (57 + 3 * k)).toNat)).toNat) (b := g (58 + 3 * k)) (c := g (59 + 3 * k)) (R := clR (sT g) (k + 1) j ++ R) h1 (by omega) (by omega) (by omega) hR1 (by omega) (by omega) (q4 _ (by omega)).2.2.2 (fun i hi e => by
      have hi2 : i < a := by omega
      rw [(q4 i hi2).2.2.2] at e
      have hbi := hI.body i (by omega)
      have := nm_ne (by omega) (by omega) (by omega) e
      omega)
    rw [show (((g (57 + 3 * k)).toNat : Nat) : Int) = g (57 + 3 * k) by omega] at d1
    obtain ⟨p2, D2, y1, y2, y3⟩ := ih (k + 1) p1 _ (by omega) t1 (by
      show LD g (addSightM D (g (57 + 3 * k)) (g (58 + 3 * k)) (g (59 + 3 * k))) a b (k + 1)
      have en : ∀ i, (i ≠ 2 ∧ (i < 57 + 3 * k ∨ 59 + 3 * k < i)) → addSightM D (g (57 + 3 * k)) (g (58 + 3 * k)) (g (59 + 3 * k)) i = D i := fun i hi => by
        unfold addSightM
        rw [ek, if_neg (by omega), if_neg (by omega), if_neg (by omega), if_neg (by omega)]
      refine ⟨⟨?_, ?_, ?_⟩, fun i a b => ?_, fun i hi => ?_, fun i hi => ?_, fun i hi => ?_⟩
      · rw [en 0 (by omega)]; exact q0
      · rw [en 1 (by omega)]; exact q1
      · show D 2 + 1 = _; omega
      · rw [en i (by omega)]; exact q3 i a b
      · rw [en _ (by omega), en _ (by omega), en _ (by omega), en _ (by omega)]
        exact q4 i hi
      · rw [en _ (by omega), en _ (by omega), en _ (by omega)]
        exact q5 i hi
      · by_cases e : i = k
        · subst e
          unfold addSightM
          rw [ek]
          refine ⟨?_, ?_, ?_⟩
          · rw [if_neg (by omega), if_pos rfl]
          · rw [if_neg (by omega), if_neg (by omega), if_pos rfl]
          · rw [if_neg (by omega), if_neg (by omega), if_neg (by omega), if_pos rfl]
        · rw [en _ (by omega), en _ (by omega), en _ (by omega)]
          exact q6 i (by omega))
    rw [show k + (j + 1) = k + 1 + j by omega]
    refine ⟨p2, D2, ?_, y2, y3⟩
    rw [txN_1 j g1, x1, d1]
    exact y1
/-- the text of g is read without an error, and gives g -/
theorem ld_all (hI : Inv g) (h4 : -10799 ≤ g 4) (hn : n ≤ 700) (h : atT bt n 0 (tlT g)) : (txF bt n).1.1 = 0 ∧ gE (txF bt n).2 g := by
  have h0 := hI.c
  have hnil : nbL ([] : List Int) := Or.inl rfl
  have h1 : atT bt n 0 (hdT g ++ (clR (bT g) 0 (g 0).toNat ++ (clR (lT g) 0 (g 1).toNat ++ (clR (sT g) 0 (g 2).toNat ++ [])))) := by
    rw [List.append_nil, ← clN_R, ← clN_R, ← clN_R, ← List.append_assoc, ← List.append_assoc]
    exact h
  have n3 := nb_cl (nb_sT (g := g)) hnil 0 (g 2).toNat
  have n2 := nb_cl (nb_lT (g := g)) n3 0 (g 1).toNat
  have n1 := nb_cl (nb_bT hI) n2 0 (g 0).toNat
  obtain ⟨p1, D1, x1, t1, l1⟩ := ld_head hI h4 h1 n1
  obtain ⟨p2, D2, x2, t2, l2⟩ := ld_bodies hI n2 _ 0 p1 D1 (by omega) t1 l1
  rw [Nat.zero_add] at l2
  obtain ⟨p3, D3, x3, t3, l3⟩ := ld_legs hI n3 _ (by omega) _ 0 p2 D2 (by omega) t2 l2
  rw [Nat.zero_add] at l3
  obtain ⟨p4, D4, x4, t4, l4⟩ := ld_sights hI hnil _ _ (by omega) (by omega) _ 0 p3 D3 (by omega) t3 l3
  rw [Nat.zero_add] at l4
  have hend : p4 = n := t4.1
  have hx : ((0, 0, p4), D4) = txN bt n (4 + (g 0).toNat + (g 1).toNat + (g 2).toNat) (tx0 bt n, fun _ => 0) := by
    rw [txN_add, txN_add, txN_add, x1, x2, x3, x4]
  have hs : ¬ goP bt n (0, 0, p4) := fun q => q.2 (by show kdM bt n p4 = 0; unfold kdM; rw [if_pos (by omega)])
  have e := txF_eq hn hx hs
  rw [← e]
  obtain ⟨⟨q0, q1, q2⟩, q3, q4, q5, q6⟩ := l4
  refine ⟨rfl, fun j hj => ?_, fun k q hk hq => ?_, fun k q hk hq => ?_, fun k q hk hq => ?_⟩
  · rcases (show j = 0 ∨ j = 1 ∨ j = 2 ∨ 3 ≤ j by omega) with rfl | rfl | rfl | h3
    · show D4 0 = g 0; omega
    · show D4 1 = g 1; omega
    · show D4 2 = g 2; omega
    · exact q3 j h3 hj
  · have := q4 k (by have : (k : Int) < D4 0 := hk; omega)
    rcases (show q = 0 ∨ q = 1 ∨ q = 2 by omega) with rfl | rfl | rfl
    · exact this.1
    · exact this.2.1
    · exact this.2.2.1
  · have := q5 k (by have : (k : Int) < D4 1 := hk; omega)
    rcases (show q = 0 ∨ q = 1 ∨ q = 2 by omega) with rfl | rfl | rfl
    · exact this.1
    · exact this.2.1
    · exact this.2.2
  · have := q6 k (by have : (k : Int) < D4 2 := hk; omega)
    rcases (show q = 0 ∨ q = 1 ∨ q = 2 by omega) with rfl | rfl | rfl
    · exact this.1
    · exact this.2.1
    · exact this.2.2
end
