section
variable {bt : Nat → Int} {n p : Nat} {R : List Int} {D : Nat → Int}
theorem sp32 {R : List Int} (h : nbL R) : spO [32] R := Or.inl ⟨rfl, h⟩
theorem sp59 {R : List Int} : spO [] (59 :: R) := Or.inr ⟨rfl, Or.inr ⟨59, R, rfl, Or.inl rfl⟩⟩
theorem cl_start {a b : Int} (h : atT bt n p (stW 1 ++ ([32] ++ (sgL a ++ ([32] ++ (sgL b ++ ([] ++ 59 :: R))))))) (ha : -3600 ≤ a ∧ a ≤ 3600) (hb : -10799 ≤ b ∧ b ≤ 10799) (hR : nbL R) : ∃ p1, clS bt n D (0, 0, p) = (0, 0, p1) ∧ atT bt n p1 R ∧ clD bt n D (0, 0, p) = setM D 3 a 4 b ∧ goP bt n (0, 0, p) := by
  obtain ⟨w, a1, t1⟩ := is_w h (sp32 (nb_sg (by omega))) (by decide)
  obtain ⟨s1, v1, t2⟩ := sg_p t1 (sp32 (nb_sg (by omega))) ha (by decide)
  obtain ⟨s2, v2, t3⟩ := sg_p t2 sp59 hb (by decide)
  obtain ⟨y1, t4⟩ := ns_p t3 hR
  refine ⟨_, ?_, t4, ?_, isW_go w⟩
  · unfold clS clS0; rw [selP_1 w, a1, s1, s2, y1]
  · unfold clD; rw [selP_1 w, a1, v1, s1, v2]
theorem cl_eye {a : Int} (h : atT bt n p (stW 2 ++ ([32] ++ (sgL a ++ ([] ++ 59 :: R))))) (ha : 0 ≤ a ∧ a ≤ 50) (hR : nbL R) : ∃ p1, clS bt n D (0, 0, p) = (0, 0, p1) ∧ atT bt n p1 R ∧ clD bt n D (0, 0, p) = kup D 5 a ∧ goP bt n (0, 0, p) := by
  rw [sgL_nn ha.1] at h
  obtain ⟨w, a1, t1⟩ := is_w h (sp32 (nb_dg (by omega))) (by decide)
  obtain ⟨s1, v1, -, -, -, t2⟩ := tk_p (lo := 0) (hi := 50) t1 sp59 (by omega) ha
  obtain ⟨y1, t4⟩ := ns_p t2 hR
  refine ⟨_, ?_, t4, ?_, isW_go w⟩
  · unfold clS clS0; rw [selP_0 (isW_ne w (by decide)), selP_1 w, a1, s1, y1]
  · unfold clD; rw [selP_0 (isW_ne w (by decide)), selP_1 w, a1, v1]
theorem cl_index {a : Int} (h : atT bt n p (stW 3 ++ ([32] ++ (sgL a ++ ([] ++ 59 :: R))))) (ha : -60 ≤ a ∧ a ≤ 60) (hR : nbL R) : ∃ p1, clS bt n D (0, 0, p) = (0, 0, p1) ∧ atT bt n p1 R ∧ clD bt n D (0, 0, p) = kup D 6 a ∧ goP bt n (0, 0, p) := by
  obtain ⟨w, a1, t1⟩ := is_w h (sp32 (nb_sg (by omega))) (by decide)
  obtain ⟨s1, v1, t2⟩ := sg_p t1 sp59 ha (by decide)
  obtain ⟨y1, t4⟩ := ns_p t2 hR
  refine ⟨_, ?_, t4, ?_, isW_go w⟩
  · unfold clS clS0; rw [selP_0 (isW_ne w (by decide)), selP_0 (isW_ne w (by decide)), selP_1 w, a1, s1, y1]
  · unfold clD; rw [selP_0 (isW_ne w (by decide)), selP_0 (isW_ne w (by decide)), selP_1 w, a1, v1]
theorem cl_current {a b : Int} (h : atT bt n p (stW 4 ++ ([32] ++ (sgL a ++ ([32] ++ (sgL b ++ ([] ++ 59 :: R))))))) (ha : 0 ≤ a ∧ a ≤ 21599) (hb : 0 ≤ b ∧ b ≤ 100) (hR : nbL R) : ∃ p1, clS bt n D (0, 0, p) = (0, 0, p1) ∧ atT bt n p1 R ∧ clD bt n D (0, 0, p) = setM D 7 a 8 b ∧ goP bt n (0, 0, p) := by
  rw [sgL_nn ha.1, sgL_nn hb.1] at h
  obtain ⟨w, a1, t1⟩ := is_w h (sp32 (nb_dg (by omega))) (by decide)
  obtain ⟨s1, v1, -, -, -, t2⟩ := tk_p (lo := 0) (hi := 21599) t1 (sp32 (nb_dg (by omega))) (by omega) ha
  obtain ⟨s2, v2, -, -, -, t3⟩ := tk_p (lo := 0) (hi := 100) t2 sp59 (by omega) hb
  obtain ⟨y1, t4⟩ := ns_p t3 hR
  refine ⟨_, ?_, t4, ?_, isW_go w⟩
  · unfold clS clS0; rw [selP_0 (isW_ne w (by decide)), selP_0 (isW_ne w (by decide)), selP_0 (isW_ne w (by decide)), selP_1 w, a1, s1, s2, y1]
  · unfold clD; rw [selP_0 (isW_ne w (by decide)), selP_0 (isW_ne w (by decide)), selP_0 (isW_ne w (by decide)), selP_1 w, a1, v1, s1, v2]
theorem cl_body {k L : Nat} {a b : Int} (h : atT bt n p (stW 5 ++ ([32] ++ (nmL k L ++ ([32] ++ (sgL a ++ ([32] ++ (sgL b ++ ([] ++ 59 :: R))))))))) (hL : 1 ≤ L ∧ L ≤ 8) (ha : -3600 ≤ a ∧ a ≤ 3600) (hb : 0 ≤ b ∧ b ≤ 21599) (hR : nbL R) (hD : D 0 < 6) (hno : ∀ i : Nat, (i : Int) < D 0 → D (12 + 4 * i) ≠ nmG (nmf k) L) : ∃ p1, clS bt n D (0, 0, p) = (0, 0, p1) ∧ atT bt n p1 R ∧ clD bt n D (0, 0, p) = bodyD D a b (L : Int) (nmG (nmf k) L) ∧ goP bt n (0, 0, p) := by
  rw [sgL_nn hb.1] at h
  obtain ⟨w, a1, t1⟩ := is_w h (sp32 (nb_nm hL.1)) (by decide)
  obtain ⟨i1, m1, e1, a2, t2⟩ := nm_p t1 (sp32 (nb_sg (by omega))) hL
  obtain ⟨s1, v1, t3⟩ := sg_p t2 (sp32 (nb_dg (by omega))) ha (by decide)
  obtain ⟨s2, v2, -, -, -, t4⟩ := tk_p (lo := 0) (hi := 21599) t3 sp59 (by omega) hb
  obtain ⟨y1, t5⟩ := ns_p t4 hR
  have hbd : bdM bt n D (0, 0, p + (stW 5).length + [(32 : Int)].length) = -1 := by
    unfold bdM
    rw [selP_1 i1]
    exact bdF_no _ (fun i hi => by rw [m1]; exact hno i (by omega))
  have hB : bdB bt n D (0, 0, p + (stW 5).length + [(32 : Int)].length) = (0, 0, p + (stW 5).length + [(32 : Int)].length) := by
    unfold bdB
    rw [selP_1 i1, selP_1 hbd]
  refine ⟨_, ?_, t5, ?_, isW_go w⟩
  · unfold clS clS0 clBodyS; rw [selP_0 (isW_ne w (by decide)), selP_0 (isW_ne w (by decide)), selP_0 (isW_ne w (by decide)), selP_0 (isW_ne w (by decide)), selP_1 w, selP_0 (by omega), a1, hB, a2, s1, s2, y1]
  · unfold clD clBodyD; rw [selP_0 (isW_ne w (by decide)), selP_0 (isW_ne w (by decide)), selP_0 (isW_ne w (by decide)), selP_0 (isW_ne w (by decide)), selP_1 w, a1, hB, a2, v1, s1, v2]
    rw [m1, e1, show ((p + (stW 5).length + [(32 : Int)].length + L : Nat) : Int) - ((p + (stW 5).length + [(32 : Int)].length : Nat) : Int) = (L : Int) by omega]
theorem cl_leg {a b c : Int} (h : atT bt n p (stW 6 ++ ([32] ++ (sgL a ++ ([32] ++ (sgL b ++ ([32] ++ (sgL c ++ ([] ++ 59 :: R))))))))) (ha : 0 ≤ a ∧ a ≤ 5000) (hb : 0 ≤ b ∧ b ≤ 21599) (hc : 0 ≤ c ∧ c ≤ 400) (hR : nbL R) (hD : D 1 < 8) (hl : lastM D < a) : ∃ p1, clS bt n D (0, 0, p) = (0, 0, p1) ∧ atT bt n p1 R ∧ clD bt n D (0, 0, p) = addLegM D a b c ∧ goP bt n (0, 0, p) := by
  rw [sgL_nn ha.1, sgL_nn hb.1, sgL_nn hc.1] at h
  obtain ⟨w, a1, t1⟩ := is_w h (sp32 (nb_dg (by omega))) (by decide)
  obtain ⟨s1, v1, n1, -, a2, t2⟩ := tk_p (lo := 0) (hi := 5000) t1 (sp32 (nb_dg (by omega))) (by omega) ha
  obtain ⟨s2, v2, -, -, -, t3⟩ := tk_p (lo := 0) (hi := 21599) t2 (sp32 (nb_dg (by omega))) (by omega) hb
  obtain ⟨s3, v3, -, -, -, t4⟩ := tk_p (lo := 0) (hi := 400) t3 sp59 (by omega) hc
  obtain ⟨y1, t5⟩ := ns_p t4 hR
  have hB : lgB bt n D (0, 0, p + (stW 6).length + [(32 : Int)].length) = (0, 0, p + (stW 6).length + [(32 : Int)].length) := by
    unfold lgB
    rw [n1, v1, selP_0 (fun q => by omega)]
  refine ⟨_, ?_, t5, ?_, isW_go w⟩
  · unfold clS clS0 clLegS; rw [selP_0 (isW_ne w (by decide)), selP_0 (isW_ne w (by decide)), selP_0 (isW_ne w (by decide)), selP_0 (isW_ne w (by decide)), selP_0 (isW_ne w (by decide)), selP_1 w, selP_0 (by omega), a1, hB, a2, s2, s3, y1]
  · unfold clD clLegD; rw [selP_0 (isW_ne w (by decide)), selP_0 (isW_ne w (by decide)), selP_0 (isW_ne w (by decide)), selP_0 (isW_ne w (by decide)), selP_0 (isW_ne w (by decide)), selP_1 w, a1, hB, a2, v1, v2, s2, v3]
theorem cl_sight {k L : Nat} {b c : Int} (h : atT bt n p (stW 7 ++ ([32] ++ (nmL k L ++ ([32] ++ (sgL b ++ ([32] ++ (sgL c ++ ([] ++ 59 :: R))))))))) (hL : 1 ≤ L ∧ L ≤ 8) (hb : 0 ≤ b ∧ b ≤ 5000) (hc : 300 ≤ c ∧ c ≤ 5100) (hR : nbL R) (hD : D 2 < 12) (hk : (k : Int) < D 0) (hat : D (12 + 4 * k) = nmG (nmf k) L) (hno : ∀ i : Nat, i < k → D (12 + 4 * i) ≠ nmG (nmf k) L) : ∃ p1, clS bt n D (0, 0, p) = (0, 0, p1) ∧ atT bt n p1 R ∧ clD bt n D (0, 0, p) = addSightM D (k : Int) b c ∧ goP bt n (0, 0, p) := by
  rw [sgL_nn hb.1, sgL_nn (show 0 ≤ c by omega)] at h
  obtain ⟨w, a1, t1⟩ := is_w h (sp32 (nb_nm hL.1)) (by decide)
  obtain ⟨i1, m1, e1, a2, t2⟩ := nm_p t1 (sp32 (nb_dg (by omega))) hL
  obtain ⟨s2, v2, -, -, -, t3⟩ := tk_p (lo := 0) (hi := 5000) t2 (sp32 (nb_dg (by omega))) (by omega) hb
  obtain ⟨s3, v3, -, -, -, t4⟩ := tk_p (lo := 300) (hi := 5100) t3 sp59 (by omega) hc
  obtain ⟨y1, t5⟩ := ns_p t4 hR
  have hbd : bdM bt n D (0, 0, p + (stW 7).length + [(32 : Int)].length) = (k : Int) := by
    unfold bdM
    rw [selP_1 i1]
    exact bdF_at (by omega) (by rw [m1]; exact hat) (fun i hi => by rw [m1]; exact hno i hi)
  have hB : sgB bt n D (0, 0, p + (stW 7).length + [(32 : Int)].length) = (0, 0, p + (stW 7).length + [(32 : Int)].length) := by
    unfold sgB
    rw [selP_1 ⟨i1.1, i1.2.1⟩, selP_0 (by rw [hbd]; omega)]
  refine ⟨_, ?_, t5, ?_, isW_go w⟩
  · unfold clS clS0 clSightS; rw [selP_0 (isW_ne w (by decide)), selP_0 (isW_ne w (by decide)), selP_0 (isW_ne w (by decide)), selP_0 (isW_ne w (by decide)), selP_0 (isW_ne w (by decide)), selP_0 (isW_ne w (by decide)), selP_1 w, selP_0 (by omega), a1, hB, a2, s2, s3, y1]
  · unfold clD clSightD; rw [selP_0 (isW_ne w (by decide)), selP_0 (isW_ne w (by decide)), selP_0 (isW_ne w (by decide)), selP_0 (isW_ne w (by decide)), selP_0 (isW_ne w (by decide)), selP_0 (isW_ne w (by decide)), selP_1 w, a1, hbd, hB, a2, v2, s2, v3]
end
/-! the whole text -/
def hdT (g : Nat → Int) : List Int := [] ++ stW 8 ++ sgL (g 3) ++ stW 24 ++ sgL (g 4) ++ stW 25 ++ sgL (g 5) ++ stW 26 ++ sgL (g 6) ++ stW 27 ++ sgL (g 7) ++ stW 24 ++ sgL (g 8) ++ [59]
def bT (g : Nat → Int) (k : Nat) : List Int := stW 28 ++ nmL k (g (11 + 4 * k)).toNat ++ stW 24 ++ sgL (g (9 + 4 * k)) ++ stW 24 ++ sgL (g (10 + 4 * k)) ++ [59]
def lT (g : Nat → Int) (k : Nat) : List Int := stW 39 ++ sgL (g (33 + 3 * k)) ++ stW 24 ++ sgL (g (34 + 3 * k)) ++ stW 24 ++ sgL (g (35 + 3 * k)) ++ [59]
def sT (g : Nat → Int) (k : Nat) : List Int := stW 40 ++ nmL (g (57 + 3 * k)).toNat (g (11 + 4 * (g (57 + 3 * k)).toNat)).toNat ++ stW 24 ++ sgL (g (58 + 3 * k)) ++ stW 24 ++ sgL (g (59 + 3 * k)) ++ [59]
def clN (f : Nat → List Int) : Nat → List Int
  | 0 => []
  | k + 1 => clN f k ++ f k
def clR (f : Nat → List Int) (k : Nat) : Nat → List Int
  | 0 => []
  | j + 1 => f k ++ clR f (k + 1) j
theorem clR_s (f : Nat → List Int) : ∀ j k : Nat, clR f k (j + 1) = clR f k j ++ f (k + j) := by
  intro j
  induction j with
  | zero => intro k; show f k ++ [] = [] ++ f (k + 0); rw [List.append_nil]; rfl
  | succ j ih =>
    intro k
    show f k ++ clR f (k + 1) (j + 1) = (f k ++ clR f (k + 1) j) ++ f (k + (j + 1))
    rw [ih (k + 1), List.append_assoc, show k + 1 + j = k + (j + 1) by omega]
theorem clN_R (f : Nat → List Int) : ∀ k : Nat, clN f k = clR f 0 k := by
  intro k
  induction k with
  | zero => rfl
  | succ k ih => show clN f k ++ f k = _; rw [clR_s, ih, Nat.zero_add]
def tlT (g : Nat → Int) : List Int := hdT g ++ clN (bT g) (g 0).toNat ++ clN (lT g) (g 1).toNat ++ clN (sT g) (g 2).toNat
theorem wd8 : stW 8 = stW 1 ++ [32] := by decide +kernel
theorem wd24 : stW 24 = [32] := by decide +kernel
theorem wd25 : stW 25 = 59 :: (stW 2 ++ [32]) := by decide +kernel
theorem wd26 : stW 26 = 59 :: (stW 3 ++ [32]) := by decide +kernel
theorem wd27 : stW 27 = 59 :: (stW 4 ++ [32]) := by decide +kernel
theorem wd28 : stW 28 = stW 5 ++ [32] := by decide +kernel
theorem wd39 : stW 39 = stW 6 ++ [32] := by decide +kernel
theorem wd40 : stW 40 = stW 7 ++ [32] := by decide +kernel
theorem wd41 : stW 41 = stW 29 ++ ([32] ++ (stW 33 ++ [62])) := by decide +kernel
theorem nb_cl {f : Nat → List Int} {R : List Int} (hf : ∀ k B, nbL (f k ++ B)) (hR : nbL R) (k : Nat) : ∀ j : Nat, nbL (clR f k j ++ R) := by
  intro j
  cases j with
  | zero => exact hR
  | succ j => show nbL ((f k ++ clR f (k + 1) j) ++ R); rw [List.append_assoc]; exact hf k _
