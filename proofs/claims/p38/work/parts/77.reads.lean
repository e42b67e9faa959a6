/-! READING WHAT THE LAW SAYS -/
def atT (bt : Nat → Int) (n p : Nat) (B : List Int) : Prop := p + B.length = n ∧ ∀ j, j < B.length → bt (p + j) = B.getD j 0
def nbL (R : List Int) : Prop := R = [] ∨ ∃ c R', R = c :: R' ∧ c ≠ 32 ∧ c ≠ 10
def spO (s R : List Int) : Prop := (s = [32] ∧ nbL R) ∨ (s = [] ∧ (R = [] ∨ ∃ c R', R = c :: R' ∧ (c = 59 ∨ c = 62)))
section
variable {bt : Nat → Int} {n p : Nat} {A B R s W : List Int} {c : Int}
theorem atT.ap (h : atT bt n p (A ++ B)) : atT bt n (p + A.length) B := by
  obtain ⟨h1, h2⟩ := h
  rw [List.length_append] at h1 h2
  refine ⟨by omega, fun j hj => ?_⟩
  rw [Nat.add_assoc, h2 _ (by omega), gD_ge (by omega)]
  congr 1; omega
theorem atT.at (h : atT bt n p (A ++ B)) {j : Nat} (hj : j < A.length) : bt (p + j) = A.getD j 0 := by
  rw [h.2 j (by rw [List.length_append]; omega), gD_lt hj]
theorem atT.hd (h : atT bt n p (c :: B)) : bt p = c ∧ p < n := by
  have h1 := h.1
  have h2 := h.2 0 (by rw [List.length_cons]; omega)
  rw [List.length_cons] at h1
  exact ⟨h2, by omega⟩
theorem runM_q {P : Int → Bool} {q : Nat} : ∀ k p : Nat, p + k = q → q ≤ n → (∀ i, p ≤ i → i < q → P (bt i) = true) → (q = n ∨ P (bt q) = false) → runM P bt n p = q := by
  intro k
  induction k with
  | zero =>
    intro p h1 h2 h3 h4
    rw [Nat.add_zero] at h1
    subst h1
    exact runM_e (h4.imp (fun q => by omega) id)
  | succ k ih =>
    intro p h1 h2 h3 h4
    rw [← runM_s (by omega) (h3 p (by omega) (by omega))]
    exact ih (p + 1) (by omega) h2 (fun i a b => h3 i (by omega) b) h4
theorem sk_nb (h : atT bt n p R) (hR : nbL R) : skM bt n p = p := by
  refine runM_e ?_
  rcases hR with rfl | ⟨c, R', rfl, h1, h2⟩
  · exact Or.inl (Nat.le_of_eq h.1.symm)
  · exact Or.inr (by rw [h.hd.1]; exact isBl_0.mpr (by omega))
theorem sk_sp (h : atT bt n p (s ++ R)) (hs : spO s R) : skM bt n p = p + s.length := by
  rcases hs with ⟨rfl, hR⟩ | ⟨rfl, hR⟩
  · have h0 := (show atT bt n p (32 :: R) from h).hd
    show runM isBl bt n p = _
    rw [← runM_s h0.2 (by rw [h0.1]; decide)]
    exact sk_nb h.ap hR
  · exact sk_nb (R := R) h (by rcases hR with h | ⟨c, R', h, q⟩; exact Or.inl h; exact Or.inr ⟨c, R', h, by omega, by omega⟩)
theorem sp_end {P : Int → Bool} (hP : P 32 = false ∧ P 59 = false ∧ P 62 = false) (h : atT bt n p (s ++ R)) (hs : spO s R) : p = n ∨ P (bt p) = false := by
  rcases hs with ⟨rfl, -⟩ | ⟨rfl, rfl | ⟨c, R', rfl, hc⟩⟩
  · exact Or.inr (by rw [(show atT bt n p (32 :: R) from h).hd.1]; exact hP.1)
  · exact Or.inl h.1
  · refine Or.inr ?_
    rw [(show atT bt n p (c :: R') from h).hd.1]
    rcases hc with rfl | rfl
    · exact hP.2.1
    · exact hP.2.2
theorem tok_run {P : Int → Bool} (hP : P 32 = false ∧ P 59 = false ∧ P 62 = false) (h : atT bt n p (W ++ (s ++ R))) (hs : spO s R) (hW : ∀ j, j < W.length → P (W.getD j 0) = true) : runM P bt n p = p + W.length := by
  have hl := h.1
  rw [List.length_append] at hl
  refine runM_q W.length p rfl (by omega) (fun i a b => ?_) (sp_end hP h.ap hs)
  have h1 := h.at (j := i - p) (by omega)
  rw [show p + (i - p) = i by omega] at h1
  rw [h1]
  exact hW _ (by omega)
theorem tok_l (h : atT bt n p (W ++ (s ++ R))) (hs : spO s R) (hW : ∀ j, j < W.length → isLt (W.getD j 0) = true) (h0 : 0 < W.length) : kdM bt n p = 1 ∧ enM bt n p = p + W.length ∧ adP bt n (0, 0, p) = (0, 0, p + W.length + s.length) ∧ atT bt n (p + W.length + s.length) R := by
  have hl := h.1
  rw [List.length_append] at hl
  have hr := tok_run (P := isLt) (by decide) h hs hW
  have hb : isLt (bt p) = true := by have h1 := h.at (j := 0) h0; rw [Nat.add_zero] at h1; rw [h1]; exact hW 0 h0
  have he : enM bt n p = p + W.length := by unfold enM; rw [if_neg (by omega), if_pos hb, hr]
  refine ⟨by unfold kdM; rw [if_neg (by omega), if_pos hb], he, ?_, h.ap.ap⟩
  rw [adP_0 rfl]
  show (0, 0, skM bt n (enM bt n p)) = _
  rw [he, sk_sp h.ap hs]
theorem dg_lt {x : Int} (h : isDg x = true) : isLt x = false := isLt_0.mpr (by have := isDg_1.mp h; omega)
theorem tok_d (h : atT bt n p (W ++ (s ++ R))) (hs : spO s R) (hW : ∀ j, j < W.length → isDg (W.getD j 0) = true) (h0 : 0 < W.length) : kdM bt n p = 2 ∧ enM bt n p = p + W.length ∧ adP bt n (0, 0, p) = (0, 0, p + W.length + s.length) ∧ atT bt n (p + W.length + s.length) R := by
  have hl := h.1
  rw [List.length_append] at hl
  have hr := tok_run (P := isDg) (by decide) h hs hW
  have hb : isDg (bt p) = true := by have h1 := h.at (j := 0) h0; rw [Nat.add_zero] at h1; rw [h1]; exact hW 0 h0
  have hb2 : ¬ isLt (bt p) = true := by rw [dg_lt hb]; decide
  have he : enM bt n p = p + W.length := by unfold enM; rw [if_neg (by omega), if_neg hb2, if_pos hb, hr]
  refine ⟨by unfold kdM; rw [if_neg (by omega), if_neg hb2, if_pos hb], he, ?_, h.ap.ap⟩
  rw [adP_0 rfl]
  show (0, 0, skM bt n (enM bt n p)) = _
  rw [he, sk_sp h.ap hs]
theorem tok_y (h : atT bt n p (c :: R)) (h1 : isLt c = false) (h2 : isDg c = false) (hR : nbL R) : kdM bt n p = 3 ∧ bt p = c ∧ adP bt n (0, 0, p) = (0, 0, p + 1) ∧ atT bt n (p + 1) R := by
  have h0 := h.hd
  have b1 : ¬ isLt (bt p) = true := by rw [h0.1, h1]; decide
  have b2 : ¬ isDg (bt p) = true := by rw [h0.1, h2]; decide
  have ht : atT bt n (p + 1) R := atT.ap (A := [c]) h
  refine ⟨by unfold kdM; rw [if_neg (by omega), if_neg b1, if_neg b2], h0.1, ?_, ht⟩
  rw [adP_0 rfl]
  show (0, 0, skM bt n (enM bt n p)) = _
  have he : enM bt n p = p + 1 := by unfold enM; rw [if_neg (by omega), if_neg b1, if_neg b2]
  rw [he, sk_nb ht hR]
theorem numF_c {f : Nat → Int} {q : Nat} : ∀ k : Nat, (∀ i, i < k → bt (q + i) = f i) → numF bt q k = numF f 0 k := by
  intro k
  induction k with
  | zero => intro _; rfl
  | succ k ih =>
    intro h
    show 10 * numF bt q k + (bt (q + k) - 48) = 10 * numF f 0 k + (f (0 + k) - 48)
    rw [ih (fun i hi => h i (by omega)), h k (by omega), Nat.zero_add]
theorem dg_ok {v : Int} (hv : 0 ≤ v ∧ v < 100000) : (∀ j, j < (dgL v).length → isDg ((dgL v).getD j 0) = true) ∧ numF (fun i => (dgL v).getD i 0) 0 (dgL v).length = v := by
  rcases (show v < 10 ∨ (10 ≤ v ∧ v < 100) ∨ (100 ≤ v ∧ v < 1000) ∨ (1000 ≤ v ∧ v < 10000) ∨ 10000 ≤ v by omega) with h | h | h | h | h
  · rw [dgL_1 h]
    refine ⟨fun j hj => ?_, by show 10 * 0 + (48 + v / 1 % 10 - 48) = v; omega⟩
    have hj2 : j < 1 := hj
    rw [show j = 0 by omega]
    exact isDg_1.mpr (by show 48 ≤ 48 + v / 1 % 10 ∧ 48 + v / 1 % 10 ≤ 57; omega)
  · rw [dgL_2 h]
    refine ⟨fun j hj => ?_, by show 10 * (10 * 0 + (48 + v / 10 % 10 - 48)) + (48 + v / 1 % 10 - 48) = v; omega⟩
    have hj2 : j < 2 := hj
    rcases (show j = 0 ∨ j = 1 by omega) with rfl | rfl
    · exact isDg_1.mpr (by show 48 ≤ 48 + v / 10 % 10 ∧ 48 + v / 10 % 10 ≤ 57; omega)
    · exact isDg_1.mpr (by show 48 ≤ 48 + v / 1 % 10 ∧ 48 + v / 1 % 10 ≤ 57; omega)
  · rw [dgL_3 h]
    refine ⟨fun j hj => ?_, by show 10 * (10 * (10 * 0 + (48 + v / 100 % 10 - 48)) + (48 + v / 10 % 10 - 48)) + (48 + v / 1 % 10 - 48) = v; omega⟩
    have hj2 : j < 3 := hj
    rcases (show j = 0 ∨ j = 1 ∨ j = 2 by omega) with rfl | rfl | rfl
    · exact isDg_1.mpr (by show 48 ≤ 48 + v / 100 % 10 ∧ 48 + v / 100 % 10 ≤ 57; omega)
    · exact isDg_1.mpr (by show 48 ≤ 48 + v / 10 % 10 ∧ 48 + v / 10 % 10 ≤ 57; omega)
    · exact isDg_1.mpr (by show 48 ≤ 48 + v / 1 % 10 ∧ 48 + v / 1 % 10 ≤ 57; omega)
  · rw [dgL_4 h]
    refine ⟨fun j hj => ?_, by show 10 * (10 * (10 * (10 * 0 + (48 + v / 1000 % 10 - 48)) + (48 + v / 100 % 10 - 48)) + (48 + v / 10 % 10 - 48)) + (48 + v / 1 % 10 - 48) = v; omega⟩
    have hj2 : j < 4 := hj
    rcases (show j = 0 ∨ j = 1 ∨ j = 2 ∨ j = 3 by omega) with rfl | rfl | rfl | rfl
    · exact isDg_1.mpr (by show 48 ≤ 48 + v / 1000 % 10 ∧ 48 + v / 1000 % 10 ≤ 57; omega)
    · exact isDg_1.mpr (by show 48 ≤ 48 + v / 100 % 10 ∧ 48 + v / 100 % 10 ≤ 57; omega)
    · exact isDg_1.mpr (by show 48 ≤ 48 + v / 10 % 10 ∧ 48 + v / 10 % 10 ≤ 57; omega)
    · exact isDg_1.mpr (by show 48 ≤ 48 + v / 1 % 10 ∧ 48 + v / 1 % 10 ≤ 57; omega)
  · rw [dgL_5 h]
    refine ⟨fun j hj => ?_, by show 10 * (10 * (10 * (10 * (10 * 0 + (48 + v / 10000 % 10 - 48)) + (48 + v / 1000 % 10 - 48)) + (48 + v / 100 % 10 - 48)) + (48 + v / 10 % 10 - 48)) + (48 + v / 1 % 10 - 48) = v; omega⟩
    have hj2 : j < 5 := hj
    rcases (show j = 0 ∨ j = 1 ∨ j = 2 ∨ j = 3 ∨ j = 4 by omega) with rfl | rfl | rfl | rfl | rfl
    · exact isDg_1.mpr (by show 48 ≤ 48 + v / 10000 % 10 ∧ 48 + v / 10000 % 10 ≤ 57; omega)
    · exact isDg_1.mpr (by show 48 ≤ 48 + v / 1000 % 10 ∧ 48 + v / 1000 % 10 ≤ 57; omega)
    · exact isDg_1.mpr (by show 48 ≤ 48 + v / 100 % 10 ∧ 48 + v / 100 % 10 ≤ 57; omega)
    · exact isDg_1.mpr (by show 48 ≤ 48 + v / 10 % 10 ∧ 48 + v / 10 % 10 ≤ 57; omega)
    · exact isDg_1.mpr (by show 48 ≤ 48 + v / 1 % 10 ∧ 48 + v / 1 % 10 ≤ 57; omega)
theorem nb_ap {c : Int} (h1 : 0 < A.length) (h2 : A.getD 0 0 = c) (hc : c ≠ 32 ∧ c ≠ 10) : nbL (A ++ B) := by
  cases A with
  | nil => exact absurd h1 (by decide)
  | cons x A => exact Or.inr ⟨x, A ++ B, rfl, (show x = c from h2) ▸ hc⟩
theorem nb_dg {v : Int} (hv : 0 ≤ v ∧ v < 100000) : nbL (dgL v ++ B) := by
  have h1 := dgL_len v
  have h2 := isDg_1.mp ((dg_ok hv).1 0 (by omega))
  exact nb_ap (by omega) rfl (by omega)
theorem sgL_nn {v : Int} (h : 0 ≤ v) : sgL v = dgL v := by unfold sgL; rw [if_neg (by omega), show ((v.natAbs : Nat) : Int) = v by omega]
theorem sgL_ng {v : Int} (h : v < 0) : sgL v = 45 :: dgL (-v) := by unfold sgL; rw [if_pos h, show ((v.natAbs : Nat) : Int) = -v by omega]
theorem nb_sg {v : Int} (hv : -100000 < v ∧ v < 100000) : nbL (sgL v ++ B) := by
  by_cases h : v < 0
  · rw [sgL_ng h]; exact Or.inr ⟨45, _, rfl, by decide⟩
  · rw [sgL_nn (by omega)]; exact nb_dg (by omega)
theorem tk_p {v lo hi : Int} (h : atT bt n p (dgL v ++ (s ++ R))) (hs : spO s R) (hv : 0 ≤ v ∧ v < 100000) (hb : lo ≤ v ∧ v ≤ hi) : tkP bt n lo hi (0, 0, p) = (0, 0, p + (dgL v).length + s.length) ∧ nv bt n (0, 0, p) = v ∧ nhP bt n lo hi (0, 0, p) = (0, 0, p) ∧ isN bt n (0, 0, p) ∧ adP bt n (0, 0, p) = (0, 0, p + (dgL v).length + s.length) ∧ atT bt n (p + (dgL v).length + s.length) R := by
  obtain ⟨d1, d2⟩ := dg_ok hv
  obtain ⟨k1, e1, a1, t1⟩ := tok_d h hs d1 (by have := dgL_len v; omega)
  have hn : nv bt n (0, 0, p) = v := by
    show numF bt p (enM bt n p - p) = v
    rw [e1, Nat.add_sub_cancel_left, numF_c (f := fun i => (dgL v).getD i 0) _ (fun i hi => h.at hi), d2]
  have hN : isN bt n (0, 0, p) := ⟨rfl, k1⟩
  have hh : nhP bt n lo hi (0, 0, p) = (0, 0, p) := by unfold nhP; rw [selP_1 hN, hn, selP_1 hb]
  exact ⟨by unfold tkP; rw [hh, a1], hn, hh, hN, a1, t1⟩
theorem sg_p {v m : Int} (h : atT bt n p (sgL v ++ (s ++ R))) (hs : spO s R) (hv : -m ≤ v ∧ v ≤ m) (hm : m < 100000) : sgP bt n m (0, 0, p) = (0, 0, p + (sgL v).length + s.length) ∧ sgV bt n (0, 0, p) = v ∧ atT bt n (p + (sgL v).length + s.length) R := by
  by_cases hn : v < 0
  · rw [sgL_ng hn] at h ⊢
    obtain ⟨k1, b1, a1, t1⟩ := tok_y (R := dgL (-v) ++ (s ++ R)) h (by decide) (by decide) (nb_dg (by omega))
    obtain ⟨x1, x2, -, -, -, x3⟩ := tk_p (lo := 0) (hi := m) t1 hs (by omega) (by omega)
    have hS : isS bt n 45 (0, 0, p) := ⟨rfl, k1, b1⟩
    have e0 : sg0 bt n (0, 0, p) = (0, 0, p + 1) := by unfold sg0; rw [selP_1 hS, a1]
    have el : p + 1 + (dgL (-v)).length + s.length = p + (45 :: dgL (-v)).length + s.length := by rw [List.length_cons]; omega
    rw [el] at x1 x3
    refine ⟨by unfold sgP; rw [e0, x1], ?_, x3⟩
    unfold sgV
    rw [selP_1 hS, e0, x2]; omega
  · rw [sgL_nn (by omega)] at h ⊢
    obtain ⟨x1, x2, -, x4, -, x3⟩ := tk_p (lo := 0) (hi := m) h hs (by omega) (by omega)
    have hS : ¬ isS bt n 45 (0, 0, p) := fun q => by have h1 := q.2.1; have h2 := x4.2; omega
    have e0 : sg0 bt n (0, 0, p) = (0, 0, p) := by unfold sg0; rw [selP_0 hS]
    refine ⟨by unfold sgP; rw [e0, x1], ?_, x3⟩
    unfold sgV
    rw [selP_0 hS, e0, x2]
theorem ns_p (h : atT bt n p (59 :: R)) (hR : nbL R) : nsP bt n 59 (0, 0, p) = (0, 0, p + 1) ∧ atT bt n (p + 1) R := by
  obtain ⟨k1, b1, a1, t1⟩ := tok_y h (by decide) (by decide) hR
  have hS : isS bt n 59 (0, 0, p) := ⟨rfl, k1, b1⟩
  exact ⟨by unfold nsP; rw [selP_1 hS, a1], t1⟩
theorem stW_at {t j : Nat} (h : j < stL t) : (stW t).getD j 0 = stC t j := by
  unfold stW
  rw [List.getD_eq_getElem?_getD, List.getElem?_map, List.getElem?_range h]
  rfl
def wds : List Nat := [1, 2, 3, 4, 5, 6, 7, 29, 33]
theorem wd_lt : ∀ t ∈ wds, 0 < stL t ∧ ∀ j : Fin 40, j.val < stL t → isLt (stC t j.val) = true := by decide +kernel
theorem wd_l {t : Nat} (ht : t ∈ wds) : 0 < (stW t).length ∧ ∀ j, j < (stW t).length → isLt ((stW t).getD j 0) = true := by
  obtain ⟨h1, h2⟩ := wd_lt t ht
  have h3 : ∀ t ∈ wds, stL t < 40 := by decide +kernel
  have h4 := h3 t ht
  rw [stW_len]
  exact ⟨h1, fun j hj => by rw [stW_at hj]; exact h2 ⟨j, by omega⟩ hj⟩
theorem is_w {t : Nat} (h : atT bt n p (stW t ++ (s ++ R))) (hs : spO s R) (ht : t ∈ wds) : isW bt n t (0, 0, p) ∧ adP bt n (0, 0, p) = (0, 0, p + (stW t).length + s.length) ∧ atT bt n (p + (stW t).length + s.length) R := by
  obtain ⟨l1, l2⟩ := wd_l ht
  obtain ⟨k1, e1, a1, t1⟩ := tok_l h hs l2 l1
  refine ⟨⟨rfl, k1, by rw [← stW_len]; exact e1, fun i hi => ?_⟩, a1, t1⟩
  rw [← stW_at hi]
  exact h.at (by rw [stW_len]; exact hi)
theorem nb_wd {t : Nat} (ht : t ∈ wds) : nbL (stW t ++ B) := by
  obtain ⟨l1, l2⟩ := wd_l ht
  have h := isLt_1.mp (l2 0 l1)
  exact nb_ap l1 rfl (by omega)
/-! names -/
def nmf (b : Nat) : Nat → Int := fun i => ((117 + (b + i) % 6 : Nat) : Int)
theorem nmL_at {b L j : Nat} (h : j < L) : (nmL b L).getD j 0 = nmf b j := by
  unfold nmL
  rw [List.getD_eq_getElem?_getD, List.getElem?_map, List.getElem?_range h]
  rfl
theorem nmf_b (b i : Nat) : 97 ≤ nmf b i ∧ nmf b i ≤ 122 := by unfold nmf; omega
theorem nb_nm {b L : Nat} (hL : 1 ≤ L) : nbL (nmL b L ++ B) := by
  have h := nmf_b b 0
  exact nb_ap (by rw [nmL_len]; omega) (nmL_at (by omega)) (by omega)
theorem nm_p {b L : Nat} (h : atT bt n p (nmL b L ++ (s ++ R))) (hs : spO s R) (hL : 1 ≤ L ∧ L ≤ 8) : isNm bt n (0, 0, p) ∧ nmM bt n p = nmG (nmf b) L ∧ enM bt n p = p + L ∧ adP bt n (0, 0, p) = (0, 0, p + L + s.length) ∧ atT bt n (p + L + s.length) R := by
  obtain ⟨k1, e1, a1, t1⟩ := tok_l h hs (fun j hj => by rw [nmL_len] at hj; rw [nmL_at hj]; exact isLt_1.mpr (nmf_b b j)) (by rw [nmL_len]; omega)
  rw [nmL_len] at e1 a1 t1
  refine ⟨⟨rfl, k1, by show enM bt n p ≤ p + 8; omega⟩, ?_, e1, a1, t1⟩
  unfold nmM
  rw [e1, Nat.add_sub_cancel_left]
  exact nmG_congr L (fun i hi => by have := h.at (j := i) (by rw [nmL_len]; exact hi); rw [nmL_at hi] at this; exact this)
theorem nm_ne {a b L M : Nat} (ha : a < 6) (hb : b < 6) (hL : 1 ≤ L) (h : nmG (nmf a) L = nmG (nmf b) M) : a = b := by
  obtain ⟨h1, h2⟩ := nmG_inj L M (fun i _ => nmf_b a i) (fun i _ => nmf_b b i) h
  have h3 := h2 0 (by omega)
  unfold nmf at h3
  omega
theorem bdF_no {D : Nat → Int} {x : Int} : ∀ k : Nat, (∀ i, i < k → D (12 + 4 * i) ≠ x) → bdF D x k = -1 := by
  intro k
  induction k with
  | zero => intro _; rfl
  | succ k ih =>
    intro h
    show (if bdF D x k = -1 ∧ D (12 + 4 * k) = x then (k : Int) else bdF D x k) = -1
    rw [if_neg (fun q => h k (by omega) q.2), ih (fun i hi => h i (by omega))]
theorem bdF_at {D : Nat → Int} {x : Int} {b k : Nat} (hb : b < k) (h : D (12 + 4 * b) = x) (hn : ∀ i, i < b → D (12 + 4 * i) ≠ x) : bdF D x k = (b : Int) := by
  have h1 : bdF D x (b + 1) = (b : Int) := by
    show (if bdF D x b = -1 ∧ D (12 + 4 * b) = x then (b : Int) else bdF D x b) = (b : Int)
    rw [if_pos ⟨bdF_no b hn, h⟩]
  have h2 := bdF_st (D := D) (x := x) (k := b + 1) (by rw [h1]; omega) (k - (b + 1))
  rw [show b + 1 + (k - (b + 1)) = k by omega] at h2
  rw [h2, h1]
end
