/-! THE LAW'S NUMBERS -/
theorem fdiv_r {a d : Int} (hd : d ≠ 0) : ∃ r : Int, a.fdiv d * d = a - r ∧ -(d.natAbs : Int) ≤ r ∧ r ≤ (d.natAbs : Int) := by
  refine ⟨a.fmod d, ?_, ?_⟩
  · have := Int.fdiv_mul_add_fmod a d; omega
  · rcases Int.lt_or_gt_of_ne hd with h | h
    · have e : a.fmod d = -((-a).fmod (-d)) := by
        have h1 := Int.fdiv_mul_add_fmod a d
        have h2 := Int.fdiv_mul_add_fmod (-a) (-d)
        rw [Int.neg_fdiv_neg] at h2
        have h3 : a.fdiv d * -d = -(a.fdiv d * d) := Int.mul_neg _ _
        omega
      have h1 := Int.fmod_nonneg_of_pos (-a) (show 0 < -d by omega)
      have h2 := Int.fmod_lt_of_pos (-a) (show 0 < -d by omega)
      omega
    · have h1 := Int.fmod_nonneg_of_pos a h
      have h2 := Int.fmod_lt_of_pos a h
      omega
theorem far_core {v s c u t d e n : Int} (hD : s * d - t * c ≠ 0) (hs : -1000000 ≤ s ∧ s ≤ 1000000) (hc : -1000000 ≤ c ∧ c ≤ 1000000) (he : e = ((v * d - u * c) * 1000000).fdiv (s * d - t * c)) (hn : n = ((u * s - v * t) * 1000000).fdiv (s * d - t * c)) :
    -2000000 ≤ e * s + n * c - 1000000 * v ∧ e * s + n * c - 1000000 * v ≤ 2000000 := by
  obtain ⟨r1, a1, a2⟩ := fdiv_r (a := (v * d - u * c) * 1000000) hD
  obtain ⟨r2, b1, b2⟩ := fdiv_r (a := (u * s - v * t) * 1000000) hD
  rw [← he] at a1
  rw [← hn] at b1
  have key : (e * s + n * c - 1000000 * v) * (s * d - t * c) = -(r1 * s + r2 * c) := by grind
  generalize s * d - t * c = D at *
  generalize e * s + n * c - 1000000 * v = X at *
  have m1 := mul_le_abs a2 hs
  have m2 := mul_le_abs b2 hc
  have habs : (X * D).natAbs = X.natAbs * D.natAbs := Int.natAbs_mul X D
  have hD1 : 0 < D.natAbs := by omega
  have hx : X.natAbs * D.natAbs ≤ 2000000 * D.natAbs := by rw [← habs, key]; omega
  have hy : X.natAbs ≤ 2000000 := Nat.le_of_mul_le_mul_right hx hD1
  omega
theorem far_core2 {v s c u t d e n : Int} (hD : s * d - t * c ≠ 0) (ht : -1000000 ≤ t ∧ t ≤ 1000000) (hd : -1000000 ≤ d ∧ d ≤ 1000000) (he : e = ((v * d - u * c) * 1000000).fdiv (s * d - t * c)) (hn : n = ((u * s - v * t) * 1000000).fdiv (s * d - t * c)) :
    -2000000 ≤ e * t + n * d - 1000000 * u ∧ e * t + n * d - 1000000 * u ≤ 2000000 := by
  obtain ⟨r1, a1, a2⟩ := fdiv_r (a := (v * d - u * c) * 1000000) hD
  obtain ⟨r2, b1, b2⟩ := fdiv_r (a := (u * s - v * t) * 1000000) hD
  rw [← he] at a1
  rw [← hn] at b1
  have key : (e * t + n * d - 1000000 * u) * (s * d - t * c) = -(r1 * t + r2 * d) := by grind
  generalize s * d - t * c = D at *
  generalize e * t + n * d - 1000000 * u = X at *
  have m1 := mul_le_abs a2 ht
  have m2 := mul_le_abs b2 hd
  have habs : (X * D).natAbs = X.natAbs * D.natAbs := Int.natAbs_mul X D
  have hD1 : 0 < D.natAbs := by omega
  have hx : X.natAbs * D.natAbs ≤ 2000000 * D.natAbs := by rw [← habs, key]; omega
  have hy : X.natAbs ≤ 2000000 := Nat.le_of_mul_le_mul_right hx hD1
  omega
theorem turn_cyc (x0 y0 x1 y1 x2 y2 : Int) : turnM x1 y1 x2 y2 x0 y0 = turnM x0 y0 x1 y1 x2 y2 := by unfold turnM; grind
theorem area_cyc (x0 y0 x1 y1 x2 y2 : Int) : areaM x1 y1 x2 y2 x0 y0 = areaM x0 y0 x1 y1 x2 y2 := by unfold areaM; rw [turn_cyc]
theorem hol_corner (x0 y0 x1 y1 x2 y2 : Int) : holP x0 y0 x1 y1 x2 y2 x0 y0 := by
  refine ⟨Or.inl (by unfold turnM; grind), Or.inl (by unfold turnM; grind), Or.inr (Or.inr Iff.rfl)⟩
/-- one edge of the hat: the middle m of p, q, r (times 3: M with |3 m - (p+q+r)| <= 2) lies on r's side where the hat is not thin -/
theorem bes_mid {fx fy tx ty lx ly x y F : Int} (hF : (((tx - fx).natAbs + (ty - fy).natAbs : Nat) : Int) ≤ 2 * F) (hT : 4 * F < ((turnM fx fy tx ty lx ly).natAbs : Int)) (hx : x = (fx + tx + lx) / 3) (hy : y = (fy + ty + ly) / 3) : besP fx fy tx ty lx ly x y := by
  have key : 3 * turnM fx fy tx ty x y = turnM fx fy tx ty lx ly + ((tx - fx) * (3 * y - (fy + ty + ly)) - (3 * x - (fx + tx + lx)) * (ty - fy)) := by unfold turnM; grind
  have e1 : -2 ≤ 3 * y - (fy + ty + ly) ∧ 3 * y - (fy + ty + ly) ≤ 2 := by omega
  have e2 : -2 ≤ 3 * x - (fx + tx + lx) ∧ 3 * x - (fx + tx + lx) ≤ 2 := by omega
  have m1 := mul_le_abs (a := tx - fx) (b := 3 * y - (fy + ty + ly)) (A := ((tx - fx).natAbs : Int)) (B := 2) (by omega) e1
  have m2 := mul_le_abs (a := 3 * x - (fx + tx + lx)) (b := ty - fy) (A := 2) (B := ((ty - fy).natAbs : Int)) e2 (by omega)
  refine Or.inr (Or.inr ?_)
  generalize turnM fx fy tx ty lx ly = Z at *
  generalize turnM fx fy tx ty x y = Y at *
  omega
theorem hol_mid {x0 y0 x1 y1 x2 y2 x y F : Int} (h1 : (((x1 - x0).natAbs + (y1 - y0).natAbs : Nat) : Int) ≤ F) (h2 : (((x2 - x0).natAbs + (y2 - y0).natAbs : Nat) : Int) ≤ F) (ha : 400 ≤ areaM x0 y0 x1 y1 x2 y2) (hT : 100 * F ≤ 20000 * areaM x0 y0 x1 y1 x2 y2) (hx : x = (x0 + x1 + x2) / 3) (hy : y = (y0 + y1 + y2) / 3) : holP x0 y0 x1 y1 x2 y2 x y := by
  have hA : 4 * F < ((turnM x0 y0 x1 y1 x2 y2).natAbs : Int) := by unfold areaM at ha hT; omega
  have s1 : turnM x0 y0 x2 y2 x1 y1 = -turnM x0 y0 x1 y1 x2 y2 := by unfold turnM; grind
  refine ⟨bes_mid (F := F) (by omega) hA hx hy, bes_mid (F := F) (by omega) (by rw [s1]; omega) (by omega) (by omega), bes_mid (F := F) (by omega) (by rw [turn_cyc]; exact hA) (by omega) (by omega)⟩
/-- what is known of the least hat so far: of all hats that V says -/
def lhG (g : Nat → Int) (T : Int) (n : Nat) (V : Nat → Nat → Nat → Prop) (q : Int × Int) : Prop :=
  (q.1 = -1 ∧ ∀ x y z, V x y z → ¬ hatP g x y z) ∨ (∃ a b d : Nat, a < b ∧ b < d ∧ d < n ∧ hatP g a b d ∧ q = (10000 * (a : Int) + 100 * (b : Int) + (d : Int), hatA g a b d T) ∧ ∀ x y z, V x y z → hatP g x y z → q.2 ≤ hatA g x y z T)
theorem lhG_cg {g : Nat → Int} {T : Int} {n : Nat} {V V1 : Nat → Nat → Nat → Prop} {q : Int × Int} (h : lhG g T n V q) (hV : ∀ x y z, V1 x y z → V x y z) : lhG g T n V1 q := by
  rcases h with ⟨h1, h2⟩ | ⟨a, b, d, h1, h2, h3, h4, h5, h6⟩
  · exact Or.inl ⟨h1, fun x y z hv => h2 x y z (hV x y z hv)⟩
  · exact Or.inr ⟨a, b, d, h1, h2, h3, h4, h5, fun x y z hv => h6 x y z (hV x y z hv)⟩
theorem lhG_S {g : Nat → Int} {T : Int} {n i j k : Nat} {V : Nat → Nat → Nat → Prop} {q : Int × Int} (h : lhG g T n V q) (hij : i < j) (hjk : j < k) (hk : k < n) : lhG g T n (fun x y z => V x y z ∨ (x = i ∧ y = j ∧ z = k)) (lhS g T i j k q) := by
  unfold lhS
  by_cases hc : hatP g i j k ∧ (q.1 = -1 ∨ hatA g i j k T < q.2)
  · rw [if_pos hc]
    refine Or.inr ⟨i, j, k, hij, hjk, hk, hc.1, rfl, fun x y z hv hp => ?_⟩
    rcases hv with hv | ⟨rfl, rfl, rfl⟩
    · rcases h with ⟨h1, h2⟩ | ⟨a, b, d, h1, h2, h3, h4, h5, h6⟩
      · exact absurd hp (h2 x y z hv)
      · have h7 := h6 x y z hv hp
        rcases hc.2 with h8 | h8
        · rw [h5] at h8; exfalso; have : 10000 * (a : Int) + 100 * (b : Int) + (d : Int) = -1 := h8; omega
        · exact Int.le_trans (Int.le_of_lt h8) h7
    · exact Int.le_refl _
  · rw [if_neg hc]
    rcases h with ⟨h1, h2⟩ | ⟨a, b, d, h1, h2, h3, h4, h5, h6⟩
    · refine Or.inl ⟨h1, fun x y z hv => ?_⟩
      rcases hv with hv | ⟨rfl, rfl, rfl⟩
      · exact h2 x y z hv
      · exact fun hp => hc ⟨hp, Or.inl h1⟩
    · refine Or.inr ⟨a, b, d, h1, h2, h3, h4, h5, fun x y z hv hp => ?_⟩
      rcases hv with hv | ⟨rfl, rfl, rfl⟩
      · exact h6 x y z hv hp
      · exact Int.not_lt.mp (fun hq => hc ⟨hp, Or.inr hq⟩)
theorem lhG_3 {g : Nat → Int} {T : Int} {n i j k0 : Nat} {V : Nat → Nat → Nat → Prop} {q : Int × Int} (h : lhG g T n V q) (hij : i < j) (hjk : j < k0) : ∀ m : Nat, k0 + m ≤ n → lhG g T n (fun x y z => V x y z ∨ (x = i ∧ y = j ∧ k0 ≤ z ∧ z < k0 + m)) (lh3 g T i j k0 m q) := by
  intro m
  induction m with
  | zero => intro _; exact lhG_cg h (fun x y z hv => hv.elim id (fun h => by omega))
  | succ m ih =>
    intro hm
    exact lhG_cg (lhG_S (ih (by omega)) hij (by omega) (by omega)) (fun x y z hv => by
      rcases hv with hv | ⟨h1, h2, h3, h4⟩
      · exact Or.inl (Or.inl hv)
      · by_cases h5 : z = k0 + m
        · exact Or.inr ⟨h1, h2, h5⟩
        · exact Or.inl (Or.inr ⟨h1, h2, h3, by omega⟩))
theorem lhG_2 {g : Nat → Int} {T : Int} {n i j0 : Nat} {V : Nat → Nat → Nat → Prop} {q : Int × Int} (h : lhG g T n V q) (hij : i < j0) : ∀ m : Nat, j0 + m ≤ n → lhG g T n (fun x y z => V x y z ∨ (x = i ∧ j0 ≤ y ∧ y < j0 + m ∧ y < z ∧ z < n)) (lh2 g T n i j0 m q) := by
  intro m
  induction m with
  | zero => intro _; exact lhG_cg h (fun x y z hv => hv.elim id (fun h => by omega))
  | succ m ih =>
    intro hm
    exact lhG_cg (lhG_3 (ih (by omega)) (i := i) (j := j0 + m) (k0 := j0 + m + 1) (by omega) (by omega) (n - (j0 + m + 1)) (by omega)) (fun x y z hv => by
      rcases hv with hv | ⟨h1, h2, h3, h4, h5⟩
      · exact Or.inl (Or.inl hv)
      · by_cases h6 : y = j0 + m
        · exact Or.inr ⟨h1, h6, by omega, by omega⟩
        · exact Or.inl (Or.inr ⟨h1, h2, by omega, h4, h5⟩))
theorem lhG_1 {g : Nat → Int} {T : Int} {n : Nat} {V : Nat → Nat → Nat → Prop} {q : Int × Int} (h : lhG g T n V q) : ∀ m : Nat, m ≤ n → lhG g T n (fun x y z => V x y z ∨ (x < m ∧ x < y ∧ y < z ∧ z < n)) (lh1 g T n m q) := by
  intro m
  induction m with
  | zero => intro _; exact lhG_cg h (fun x y z hv => hv.elim id (fun h => by omega))
  | succ m ih =>
    intro hm
    exact lhG_cg (lhG_2 (ih (by omega)) (i := m) (j0 := m + 1) (by omega) (n - (m + 1)) (by omega)) (fun x y z hv => by
      rcases hv with hv | ⟨h1, h2, h3, h4⟩
      · exact Or.inl (Or.inl hv)
      · by_cases h6 : x = m
        · exact Or.inr ⟨h6, by omega, by omega, h3, h4⟩
        · exact Or.inl (Or.inr ⟨by omega, h2, h3, h4⟩))
theorem least_ok (g : Nat → Int) (T : Int) (n : Nat) (hn : n = (g 2).toNat) : leastM g T = -1 ∨ ∃ a b d : Nat, a < b ∧ b < d ∧ d < n ∧ hatP g a b d ∧ leastM g T = 10000 * (a : Int) + 100 * (b : Int) + (d : Int) ∧ ∀ x y z : Nat, x < y → y < z → z < n → hatP g x y z → hatA g a b d T ≤ hatA g x y z T := by
  have h := lhG_1 (g := g) (T := T) (n := n) (V := fun _ _ _ => False) (q := (-1, 0)) (Or.inl ⟨rfl, fun _ _ _ h => h.elim⟩) n (Nat.le_refl _)
  unfold leastM
  rw [← hn]
  rcases h with ⟨h1, -⟩ | ⟨a, b, d, h1, h2, h3, h4, h5, h6⟩
  · exact Or.inl h1
  · refine Or.inr ⟨a, b, d, h1, h2, h3, h4, by rw [h5], fun x y z q1 q2 q3 q4 => ?_⟩
    have := h6 x y z (Or.inr ⟨by omega, q1, q2, q3⟩) q4
    rw [h5] at this
    exact this
noncomputable def farM (g : Nat → Int) (k : Nat) (T e n : Int) : Int := ((along e n (sinM (aziM g k)) (cosM (aziM g k)) - carM g k T).natAbs : Int)
theorem along_near {X v : Int} (h : -2000000 ≤ X - 1000000 * v ∧ X - 1000000 * v ≤ 2000000) : -2 ≤ X / 1000000 - v ∧ X / 1000000 - v ≤ 2 := by omega
theorem limM_in {x : Int} (h : -999999 ≤ limM x ∧ limM x ≤ 999999) : limM x = x := by unfold limM at h ⊢; omega
theorem far_ok {g : Nat → Int} {i j : Nat} {T : Int} (hok : crOK (crDet (sinM (aziM g i)) (cosM (aziM g i)) (sinM (aziM g j)) (cosM (aziM g j)))) (hE : -999999 ≤ cE g i j T ∧ cE g i j T ≤ 999999) (hN : -999999 ≤ cN g i j T ∧ cN g i j T ≤ 999999) : farM g i T (cE g i j T) (cN g i j T) ≤ 4 ∧ farM g j T (cE g i j T) (cN g i j T) ≤ 4 := by
  have e1 : cE g i j T = ((carM g i T * cosM (aziM g j) - carM g j T * cosM (aziM g i)) * 1000000).fdiv (sinM (aziM g i) * cosM (aziM g j) - sinM (aziM g j) * cosM (aziM g i)) := limM_in hE
  have e2 : cN g i j T = ((carM g j T * sinM (aziM g i) - carM g i T * sinM (aziM g j)) * 1000000).fdiv (sinM (aziM g i) * cosM (aziM g j) - sinM (aziM g j) * cosM (aziM g i)) := limM_in hN
  have hD : sinM (aziM g i) * cosM (aziM g j) - sinM (aziM g j) * cosM (aziM g i) ≠ 0 := by
    have h0 : crOK (sinM (aziM g i) * cosM (aziM g j) - sinM (aziM g j) * cosM (aziM g i)) := hok
    omega
  have a1 := along_near (far_core hD (sinM_b _) (cosM_b _) e1 e2)
  have a2 := along_near (far_core2 hD (sinM_b _) (cosM_b _) e1 e2)
  unfold farM along
  constructor <;> omega
theorem crs_self (g : Nat → Int) (k : Nat) (T no : Int) : crsV g k k T no = -1000000000 := by
  unfold crsV
  rw [if_neg]
  unfold crDet
  rw [Int.sub_self]
  omega
theorem car_self (g : Nat → Int) (k : Nat) : carM g k (g (58 + 3 * k)) = offM g k := by
  unfold carM
  rw [Int.sub_self, Int.sub_self]
  unfold along
  rw [Int.zero_mul, Int.zero_mul]
  omega
theorem crs_c (g : Nat → Int) (i j : Nat) (T : Int) : (crsV g i j T 0 = -1000000000 ∧ crsV g i j T 1 = -1000000000) ∨ (crOK (crDet (sinM (aziM g i)) (cosM (aziM g i)) (sinM (aziM g j)) (cosM (aziM g j))) ∧ crsV g i j T 0 = cE g i j T ∧ crsV g i j T 1 = cN g i j T) := by
  unfold crsV
  by_cases h : crOK (crDet (sinM (aziM g i)) (cosM (aziM g i)) (sinM (aziM g j)) (cosM (aziM g j)))
  · rw [if_pos h, if_pos h]; exact Or.inr ⟨h, rfl, rfl⟩
  · rw [if_neg h, if_neg h]; exact Or.inl ⟨rfl, rfl⟩
theorem det_sym (s c t d : Int) : crDet t d s c = -crDet s c t d := by unfold crDet; grind
theorem crE_sym (v s c u t d : Int) : crE u t d v s c = crE v s c u t d := by
  unfold crE
  rw [det_sym s c t d, show (u * c - v * d) * 1000000 = -((v * d - u * c) * 1000000) by grind, Int.neg_fdiv_neg]
theorem crN_sym (v s c u t d : Int) : crN u t d v s c = crN v s c u t d := by
  unfold crN
  rw [det_sym s c t d, show (v * t - u * s) * 1000000 = -((u * s - v * t) * 1000000) by grind, Int.neg_fdiv_neg]
theorem cE_sym (g : Nat → Int) (i j : Nat) (T : Int) : cE g j i T = cE g i j T := crE_sym _ _ _ _ _ _
theorem cN_sym (g : Nat → Int) (i j : Nat) (T : Int) : cN g j i T = cN g i j T := crN_sym _ _ _ _ _ _
theorem ok_sym {g : Nat → Int} {i j : Nat} (h : crOK (crDet (sinM (aziM g i)) (cosM (aziM g i)) (sinM (aziM g j)) (cosM (aziM g j)))) : crOK (crDet (sinM (aziM g j)) (cosM (aziM g j)) (sinM (aziM g i)) (cosM (aziM g i))) := by
  rw [det_sym]
  unfold crOK at h ⊢
  omega
theorem hat_cyc {g : Nat → Int} {a b d : Nat} (h : hatP g a b d) (T : Int) : hatP g d a b ∧ hatA g d a b T = hatA g a b d T := by
  obtain ⟨h1, h2, h3⟩ := h
  refine ⟨⟨ok_sym h2, ok_sym h3, h1⟩, ?_⟩
  unfold hatA
  rw [cE_sym g a d, cN_sym g a d, cE_sym g b d, cN_sym g b d]
  exact area_cyc _ _ _ _ _ _
