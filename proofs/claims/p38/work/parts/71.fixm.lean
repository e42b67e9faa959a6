/-! the doubles of the law's sum -/
theorem fl_cst : fl_D 4517329193108106637 false (67 * 2 ^ 2974) (68 * 2 ^ 2974) := by
  have e : ∀ k : Nat, k * 2 ^ 2974 = k * 2 ^ 46 * 2 ^ 2928 := fun k => by rw [Nat.mul_assoc, ← Nat.pow_add]
  refine ⟨4722366482869645, -72, by decide +kernel, by decide, by decide, by decide, ?_, ?_⟩
  · rw [e]
    unfold fl_u
    rw [show ((-72 : Int) + 3000).toNat = 2928 by decide]
    exact Nat.mul_le_mul_right _ (by decide)
  · rw [e]
    unfold fl_u
    rw [show ((-72 : Int) + 3000).toNat = 2928 by decide]
    exact Nat.mul_le_mul_right _ (by decide)
theorem fl_1 : fl_D 4607182418800017408 false (1 * 2 ^ 26 * 2 ^ 2974) (1 * 2 ^ 26 * 2 ^ 2974) := by
  have e : fl_u (2 ^ 52) (-52) = 1 * 2 ^ 26 * 2 ^ 2974 := by
    unfold fl_u
    rw [show ((-52 : Int) + 3000).toNat = 2948 by decide, Nat.one_mul, ← Nat.pow_add, ← Nat.pow_add]
  exact ⟨2 ^ 52, -52, by decide +kernel, by decide, by decide, by decide, by rw [e]; exact Nat.le_refl _, by rw [e]; exact Nat.le_refl _⟩
def fl_N (a : UInt64) (n : Nat) : Prop := fl_D a false (n * 2 ^ 26 * 2 ^ 2974) (n * 2 ^ 26 * 2 ^ 2974)
theorem fl_N0 : fl_N 0 0 := by
  refine ⟨0, -1074, by decide +kernel, by decide, by decide, by decide, ?_, ?_⟩
  · rw [show 0 * 2 ^ 26 * 2 ^ 2974 = 0 by rw [Nat.zero_mul]]; exact Nat.zero_le _
  · unfold fl_u; rw [Nat.zero_mul]; exact Nat.zero_le _
theorem fl_Ni {i : Int} {n : Nat} (h : i = (n : Int)) (hn : n < 2 ^ 27) : fl_N (dI i) n := by
  subst h
  have := fl_int (i := (n : Int)) (by omega)
  rw [show decide ((n : Int) < 0) = false from decide_eq_false (by omega)] at this
  exact this
theorem fl_Na {x y : UInt64} {a b : Nat} (hx : fl_N x a) (hy : fl_N y b) (h : a + b < 2 ^ 27) : fl_N (FP.dadd x y) (a + b) := by
  have e : (a + b) * 2 ^ 26 * 2 ^ 2974 = a * 2 ^ 26 * 2 ^ 2974 + b * 2 ^ 26 * 2 ^ 2974 := by rw [Nat.add_mul, Nat.add_mul]
  exact fl_add (M := (a + b) * 2 ^ 26) (N := (a + b) * 2 ^ 26) hx hy (by rw [e]; exact Nat.le_refl _) (by rw [e]; exact Nat.le_refl _) (by omega)
theorem fl_end {S n : Nat} (hS : S < 2 ^ 26 + 2 ^ 25) (hn : 1 ≤ n ∧ n ≤ 12) {sd x y : UInt64} (hsd : fl_N sd S) (hx : fl_N x S) (hy : fl_N y n) :
    vf_n64 (FP.dmul (FP.ddiv x y) y) ∧ vf_n64 (FP.dsub (FP.dmul (FP.ddiv x y) y) sd) ∧ vf_n64 (FP.dadd 4607182418800017408 sd) ∧ vf_n64 (FP.dmul 4517329193108106637 (FP.dadd 4607182418800017408 sd)) ∧
      FP.dcmp (FP.dsub (FP.dmul (FP.ddiv x y) y) sd &&& 0x7fffffffffffffff) (FP.dmul 4517329193108106637 (FP.dadd 4607182418800017408 sd)) = some .lt := by
  obtain ⟨a1, a2⟩ := fl_mean hS hn hx hy (z := FP.ddiv x y) rfl
  have a2 : fl_D (FP.dmul (FP.ddiv x y) y) false ((S * 2 ^ 26 - 12) * 2 ^ 2974) ((S * 2 ^ 26 + 12) * 2 ^ 2974) := a2
  obtain ⟨sg, a3⟩ := fl_sub (N := 12) a2 hsd (by rw [← Nat.add_mul]; exact Nat.mul_le_mul_right _ (by omega)) (by rw [← Nat.add_mul]; exact Nat.le_refl _) (by decide)
  have a3 : fl_D (FP.dsub (FP.dmul (FP.ddiv x y) y) sd) sg (0 * 2 ^ 2974) (12 * 2 ^ 2974) := a3
  have a4 : fl_N (FP.dadd 4607182418800017408 sd) (1 + S) := fl_Na fl_1 hsd (by omega)
  have a5 : fl_D (FP.dmul 4517329193108106637 (FP.dadd 4607182418800017408 sd)) false (67 * 2 ^ 2974) (68 * (1 + S) * 2 ^ 2974) := by
    refine fl_mul fl_cst a4 ?_ ?_ (by omega)
    · rw [fl_z]
      have e : 67 * 2 ^ 2974 * ((1 + S) * 2 ^ 26 * 2 ^ 2974) = (1 + S) * (67 * 2 ^ 2974 * (2 ^ 26 * 2 ^ 2974)) := by simp only [Nat.mul_assoc, Nat.mul_comm, Nat.mul_left_comm]
      rw [e]
      exact Nat.le_mul_of_pos_left _ (by omega)
    · rw [fl_z]
      have e : 68 * 2 ^ 2974 * ((1 + S) * 2 ^ 26 * 2 ^ 2974) = 68 * (1 + S) * 2 ^ 2974 * (2 ^ 26 * 2 ^ 2974) := by simp only [Nat.mul_assoc, Nat.mul_comm, Nat.mul_left_comm]
      rw [e]
      exact Nat.le_refl _
  exact ⟨fl_n64 a2, fl_n64 a3, fl_n64 a4, fl_n64 a5, fl_lt (fl_abs a3) a5 (Nat.mul_lt_mul_of_pos_right (by decide) (Nat.two_pow_pos _))⟩
/-! the worst sight -/
theorem fixP_pos {g : Nat → Int} (h : fixP g) : 0 < g 2 := by
  apply Decidable.byContradiction
  intro hc
  have e : (g 2).toNat = 0 := by omega
  unfold fixP fixD fxA fxB fxC at h
  rw [e] at h
  have h9 : (100000000000 : Int) ≤ 0 * 0 - 0 * 0 := h
  omega
theorem worS_ok (g : Nat → Int) (T : Int) : ∀ n : Nat, ∃ k : Nat, k < n + 1 ∧ worS g T (n + 1) = ((k : Int), ((resM g T k).natAbs : Int)) ∧ ∀ j : Nat, j < n + 1 → (resM g T j).natAbs ≤ (resM g T k).natAbs ∧ ((resM g T j).natAbs = (resM g T k).natAbs → k ≤ j) := by
  intro n
  induction n with
  | zero =>
    refine ⟨0, by omega, ?_, fun j hj => ?_⟩
    · show (if (-1 : Int) < ((resM g T 0).natAbs : Int) then (((0 : Nat) : Int), ((resM g T 0).natAbs : Int)) else worS g T 0) = _
      rw [if_pos (by omega)]
    · rw [show j = 0 by omega]; exact ⟨Nat.le_refl _, fun _ => Nat.le_refl _⟩
  | succ n ih =>
    obtain ⟨k, h1, h2, h3⟩ := ih
    by_cases hc : (resM g T k).natAbs < (resM g T (n + 1)).natAbs
    · refine ⟨n + 1, by omega, ?_, fun j hj => ?_⟩
      · show (if (worS g T (n + 1)).2 < ((resM g T (n + 1)).natAbs : Int) then (((n + 1 : Nat) : Int), ((resM g T (n + 1)).natAbs : Int)) else worS g T (n + 1)) = _
        rw [h2, if_pos (by show ((resM g T k).natAbs : Int) < _; omega)]
      · by_cases e : j = n + 1
        · rw [e]; exact ⟨Nat.le_refl _, fun _ => Nat.le_refl _⟩
        · have := h3 j (by omega); exact ⟨by omega, fun h => by omega⟩
    · refine ⟨k, by omega, ?_, fun j hj => ?_⟩
      · show (if (worS g T (n + 1)).2 < ((resM g T (n + 1)).natAbs : Int) then (((n + 1 : Nat) : Int), ((resM g T (n + 1)).natAbs : Int)) else worS g T (n + 1)) = _
        rw [h2, if_neg (by show ¬ ((resM g T k).natAbs : Int) < _; omega)]
      · by_cases e : j = n + 1
        · rw [e]; exact ⟨by omega, fun _ => by omega⟩
        · exact h3 j (by omega)
theorem wor_c (g : Nat → Int) (T : Int) : (¬ fixP g ∧ worV g T = -1) ∨ (fixP g ∧ ∃ k : Nat, (k : Int) < g 2 ∧ worV g T = (k : Int) ∧ ∀ j : Nat, (j : Int) < g 2 → (resM g T j).natAbs ≤ (resM g T k).natAbs ∧ ((resM g T j).natAbs = (resM g T k).natAbs → k ≤ j)) := by
  by_cases h : fixP g
  · have hp := fixP_pos h
    obtain ⟨n, hn⟩ : ∃ n : Nat, (g 2).toNat = n + 1 := ⟨(g 2).toNat - 1, by omega⟩
    obtain ⟨k, h1, h2, h3⟩ := worS_ok g T n
    refine Or.inr ⟨h, k, by omega, ?_, fun j hj => h3 j (by omega)⟩
    unfold worV
    rw [selI_1 h, hn, h2]
  · exact Or.inl ⟨h, selI_0 h⟩
theorem sumR_n {g : Nat → Int} (hI : Inv g) {T : Int} (ht : 0 ≤ T ∧ T ≤ 5000) : ∀ n : Nat, (n : Int) ≤ g 2 → ∃ S : Nat, sumR g T n = (S : Int) ∧ S ≤ 6300000 * n := by
  intro n
  induction n with
  | zero => intro _; exact ⟨0, rfl, by omega⟩
  | succ n ih =>
    intro hn
    obtain ⟨S, h1, h2⟩ := ih (by omega)
    have hb := resM_b hI ht n (by omega)
    refine ⟨S + (resM g T n).natAbs, ?_, by omega⟩
    show sumR g T n + ((resM g T n).natAbs : Int) = _
    rw [h1]
    omega
theorem arcM_nn {v : Int} (h : 0 ≤ v) : 0 ≤ arcM v ∧ arcM v ≤ 5400 := by
  unfold arcM
  rw [if_neg (by omega)]
  obtain ⟨a, h1, h2, h3⟩ := arcN_x v h
  omega
theorem dirM_b {x y r : Int} (hr : 0 ≤ r) : 0 ≤ dirM x y r ∧ dirM x y r ≤ 21599 := by
  unfold dirM
  by_cases h0 : r = 0
  · rw [if_pos h0]; omega
  · rw [if_neg h0]
    have h1 : 0 ≤ ((x.natAbs : Int) * 1000000).fdiv r := (k_fdivb (a := (x.natAbs : Int) * 1000000) (b := r) (by omega)).1 (by omega) |>.1
    have h2 : 0 ≤ limM (((x.natAbs : Int) * 1000000).fdiv r) := by unfold limM; omega
    have h3 := arcM_nn h2
    repeat (first | omega | split)
