section
/-! DOUBLES: what rounding does to numbers below 2^27, in units of 2^-3000 -/
theorem fl_fin {s : Bool} {c c1 : Nat} {q q1 : Int} (h : c = c1) (h2 : q = q1) : Jvm.FP.Core.Datum.fin s c q = .fin s c1 q1 := by rw [h, h2]
set_option maxRecDepth 100000 in
theorem fl_den {s : Bool} {c : Nat} {q : Int} (hc : c < 2 ^ 53) (h1 : -1074 ≤ q) (h2 : q ≤ 0) (h3 : q = -1074 ∨ 2 ^ 52 ≤ c) : Jvm.FP.Core.decode Jvm.FP.Core.b64 (UInt64.ofNat (Jvm.FP.Core.encode Jvm.FP.Core.b64 (.fin s c q))).toNat = .fin s c q := by
  have ht : Jvm.FP.Core.b64.tails = 4503599627370496 := by decide
  have he : Jvm.FP.Core.b64.exps = 2048 := by decide
  have hq : Jvm.FP.Core.b64.qmin = -1074 := by decide
  have hs : s.toNat = 0 ∨ s.toNat = 1 := by cases s <;> simp
  have hn : ∀ n : Nat, n < 2 ^ 64 → (UInt64.ofNat n).toNat = n := fun n hn => by
    show n % 2 ^ 64 = n
    exact Nat.mod_eq_of_lt hn
  have hsb : ∀ m : Nat, m = s.toNat → (m == 1) = s := by intro m hm; subst hm; cases s <;> rfl
  by_cases h : c < 4503599627370496
  · have e1 : Jvm.FP.Core.encode Jvm.FP.Core.b64 (.fin s c q) = (s.toNat * 2048 + 0) * 4503599627370496 + c := by
      show (if c < Jvm.FP.Core.b64.tails then Jvm.FP.Core.assemble Jvm.FP.Core.b64 s 0 c else _) = _
      rw [ht, if_pos h]
      unfold Jvm.FP.Core.assemble
      rw [ht, he]
    rw [e1, hn _ (by omega)]
    have hqq : q = -1074 := by omega
    unfold Jvm.FP.Core.decode Jvm.FP.Core.fieldE Jvm.FP.Core.fieldT Jvm.FP.Core.fieldS
    rw [ht, he, hq]
    rw [if_neg (by omega), if_pos (by omega), hsb _ (by omega), hqq]
    exact fl_fin (by omega) rfl
  · have e1 : Jvm.FP.Core.encode Jvm.FP.Core.b64 (.fin s c q) = (s.toNat * 2048 + ((q - -1074).toNat + 1)) * 4503599627370496 + (c - 4503599627370496) := by
      show (if c < Jvm.FP.Core.b64.tails then _ else Jvm.FP.Core.assemble Jvm.FP.Core.b64 s ((q - Jvm.FP.Core.b64.qmin).toNat + 1) (c - Jvm.FP.Core.b64.tails)) = _
      rw [ht, hq, if_neg h]
      unfold Jvm.FP.Core.assemble
      rw [ht, he]
    rw [e1, hn _ (by omega)]
    unfold Jvm.FP.Core.decode Jvm.FP.Core.fieldE Jvm.FP.Core.fieldT Jvm.FP.Core.fieldS
    rw [ht, he, hq]
    rw [if_neg (by omega), if_neg (by omega), hsb _ (by omega)]
    exact fl_fin (by omega) (by omega)
theorem fl_near {A B M : Nat} (hB : 0 < B) : (M * B ≤ A → M ≤ Jvm.FP.Core.nearest A B) ∧ (A ≤ M * B → Jvm.FP.Core.nearest A B ≤ M) := by
  have hd : B * (A / B) + A % B = A := Nat.div_add_mod A B
  have hm : A % B < B := Nat.mod_lt A hB
  have h1 : M * B ≤ A → M ≤ A / B := fun h => (Nat.le_div_iff_mul_le hB).mpr h
  have h2 : A ≤ M * B → A / B ≤ M ∧ (A / B = M → A % B = 0) := fun h => by
    have h3 : A / B ≤ M := by
      have := Nat.div_le_div_right (c := B) h
      rwa [Nat.mul_div_cancel _ hB] at this
    refine ⟨h3, fun h4 => ?_⟩
    rw [h4, Nat.mul_comm] at hd
    omega
  unfold Jvm.FP.Core.nearest
  constructor
  · intro h
    have := h1 h
    split
    · exact this
    · split <;> omega
  · intro h
    obtain ⟨h3, h4⟩ := h2 h
    by_cases e : A / B = M
    · have := h4 e
      rw [if_pos (by omega)]
      exact h3
    · split
      · exact h3
      · split
        · omega
        · have : A / B % 2 < 2 := Nat.mod_lt _ (by decide)
          omega
theorem fl_lead {A B : Nat} (hA : 0 < A) : B * 2 ^ (Jvm.FP.Core.leading A B).toNat ≤ A * 2 ^ (-(Jvm.FP.Core.leading A B)).toNat := by
  unfold Jvm.FP.Core.leading
  show B * 2 ^ (if B * 2 ^ ((A.log2 : Int) - (B.log2 : Int)).toNat ≤ A * 2 ^ (-((A.log2 : Int) - (B.log2 : Int))).toNat then ((A.log2 : Int) - (B.log2 : Int)) else ((A.log2 : Int) - (B.log2 : Int)) - 1).toNat ≤ A * 2 ^ (-(if B * 2 ^ ((A.log2 : Int) - (B.log2 : Int)).toNat ≤ A * 2 ^ (-((A.log2 : Int) - (B.log2 : Int))).toNat then ((A.log2 : Int) - (B.log2 : Int)) else ((A.log2 : Int) - (B.log2 : Int)) - 1)).toNat
  split
  · assumption
  · have a1 : 2 ^ A.log2 ≤ A := Nat.log2_self_le (by omega)
    have b1 : B < 2 ^ (B.log2 + 1) := Nat.lt_log2_self
    generalize A.log2 = x at *
    generalize B.log2 = y at *
    by_cases h : y + 1 ≤ x
    · rw [show ((x : Int) - (y : Int) - 1).toNat = x - (y + 1) by omega, show (-((x : Int) - (y : Int) - 1)).toNat = 0 by omega]
      have h2 : B * 2 ^ (x - (y + 1)) ≤ 2 ^ (y + 1) * 2 ^ (x - (y + 1)) := Nat.mul_le_mul_right _ (Nat.le_of_lt b1)
      rw [← Nat.pow_add, show y + 1 + (x - (y + 1)) = x by omega] at h2
      simp only [Nat.pow_zero, Nat.mul_one]
      exact Nat.le_trans h2 a1
    · rw [show ((x : Int) - (y : Int) - 1).toNat = 0 by omega, show (-((x : Int) - (y : Int) - 1)).toNat = y + 1 - x by omega]
      simp only [Nat.pow_zero, Nat.mul_one]
      have h2 : 2 ^ x * 2 ^ (y + 1 - x) ≤ A * 2 ^ (y + 1 - x) := Nat.mul_le_mul_right _ a1
      rw [← Nat.pow_add, show x + (y + 1 - x) = y + 1 by omega] at h2
      exact Nat.le_trans (Nat.le_of_lt b1) h2
theorem fl_lead2 {A B : Nat} (hB : 0 < B) : A * 2 ^ (-(Jvm.FP.Core.leading A B + 1)).toNat < B * 2 ^ (Jvm.FP.Core.leading A B + 1).toNat := by
  have key : ∀ k : Int, k = (A.log2 : Int) - (B.log2 : Int) → A * 2 ^ (-((if B * 2 ^ k.toNat ≤ A * 2 ^ (-k).toNat then k else k - 1) + 1)).toNat < B * 2 ^ ((if B * 2 ^ k.toNat ≤ A * 2 ^ (-k).toNat then k else k - 1) + 1).toNat := by
    intro k hk
    split
    · have a1 : A < 2 ^ (A.log2 + 1) := Nat.lt_log2_self
      have b1 : 2 ^ B.log2 ≤ B := Nat.log2_self_le (by omega)
      generalize A.log2 = x at *
      generalize B.log2 = y at *
      by_cases h : y ≤ x + 1
      · rw [show (k + 1).toNat = x + 1 - y by omega, show (-(k + 1)).toNat = 0 by omega]
        have h2 : 2 ^ y * 2 ^ (x + 1 - y) ≤ B * 2 ^ (x + 1 - y) := Nat.mul_le_mul_right _ b1
        rw [← Nat.pow_add, show y + (x + 1 - y) = x + 1 by omega] at h2
        simp only [Nat.pow_zero, Nat.mul_one]
        exact Nat.lt_of_lt_of_le a1 h2
      · rw [show (k + 1).toNat = 0 by omega, show (-(k + 1)).toNat = y - (x + 1) by omega]
        simp only [Nat.pow_zero, Nat.mul_one]
        have h2 : A * 2 ^ (y - (x + 1)) < 2 ^ (x + 1) * 2 ^ (y - (x + 1)) := Nat.mul_lt_mul_of_pos_right a1 (Nat.two_pow_pos _)
        rw [← Nat.pow_add, show x + 1 + (y - (x + 1)) = y by omega] at h2
        exact Nat.lt_of_lt_of_le h2 b1
    · rename_i h
      rw [show k - 1 + 1 = k by omega]
      exact Nat.not_le.mp h
  exact key _ rfl
/-- the units: 2^-3000 -/
def fl_u (c : Nat) (q : Int) : Nat := c * 2 ^ (q + 3000).toNat
/-- rounding keeps bounds that are multiples of 2^-26 -/
theorem fl_rr (s : Bool) (A B : Nat) (e : Int) (M N : Nat) (hB : 0 < B) (he : -3000 ≤ e) (hN : N < 2 ^ 53) (h1 : M * 2 ^ 2974 * B ≤ fl_u A e) (h2 : fl_u A e ≤ N * 2 ^ 2974 * B) :
    ∃ (c : Nat) (q : Int), Jvm.FP.Core.roundRatio Jvm.FP.Core.b64 s A B e = .fin s c q ∧ c < 2 ^ 53 ∧ -1074 ≤ q ∧ q ≤ -25 ∧ (q = -1074 ∨ 2 ^ 52 ≤ c) ∧ M * 2 ^ 2974 ≤ fl_u c q ∧ fl_u c q ≤ N * 2 ^ 2974 := by
  have hqm : Jvm.FP.Core.b64.qmin = -1074 := by decide
  have hqx : Jvm.FP.Core.b64.qmax = 971 := by decide
  have hp : ((Jvm.FP.Core.b64.p : Nat) : Int) - 1 = 52 := by decide
  unfold Jvm.FP.Core.roundRatio
  by_cases hA : A = 0
  · rw [if_pos hA, hqm]
    subst hA
    refine ⟨0, -1074, rfl, by decide, by omega, by omega, Or.inl rfl, ?_, Nat.le_trans (by unfold fl_u; rw [Nat.zero_mul]; exact Nat.zero_le _) (Nat.zero_le _)⟩
    unfold fl_u at h1 ⊢
    rw [Nat.zero_mul] at h1 ⊢
    have : M * 2 ^ 2974 = 0 := by
      rcases Nat.mul_eq_zero.mp (Nat.le_zero.mp h1) with h | h
      · exact h
      · omega
    rw [this]
    exact Nat.le_refl _
  · rw [if_neg hA]
    have hA1 : 0 < A := Nat.pos_of_ne_zero hA
    have hl := fl_lead (B := B) hA1
    have hlk : Jvm.FP.Core.leading A B + e ≤ 26 := by
      apply Decidable.byContradiction
      intro hc
      generalize Jvm.FP.Core.leading A B = k at *
      have c1 : B * 2 ^ k.toNat * 2 ^ (e + 3000).toNat ≤ A * 2 ^ (-k).toNat * 2 ^ (e + 3000).toNat := Nat.mul_le_mul_right _ hl
      have c2 : A * 2 ^ (-k).toNat * 2 ^ (e + 3000).toNat = fl_u A e * 2 ^ (-k).toNat := by unfold fl_u; rw [Nat.mul_assoc, Nat.mul_comm (2 ^ (-k).toNat), ← Nat.mul_assoc]
      have c3 : fl_u A e * 2 ^ (-k).toNat ≤ N * 2 ^ 2974 * B * 2 ^ (-k).toNat := Nat.mul_le_mul_right _ h2
      have c4 : N * 2 ^ 2974 * B * 2 ^ (-k).toNat < 2 ^ 53 * 2 ^ 2974 * B * 2 ^ (-k).toNat := Nat.mul_lt_mul_of_pos_right (Nat.mul_lt_mul_of_pos_right (Nat.mul_lt_mul_of_pos_right hN (Nat.two_pow_pos _)) hB) (Nat.two_pow_pos _)
      have c5 : 2 ^ 53 * 2 ^ 2974 * B * 2 ^ (-k).toNat = B * 2 ^ (53 + 2974 + (-k).toNat) := by rw [Nat.pow_add, Nat.pow_add, Nat.mul_comm B, Nat.mul_assoc _ B, Nat.mul_comm B, ← Nat.mul_assoc]
      have c6 : B * 2 ^ k.toNat * 2 ^ (e + 3000).toNat = B * 2 ^ (k.toNat + (e + 3000).toNat) := by rw [Nat.pow_add, Nat.mul_assoc]
      have c7 : B * 2 ^ (53 + 2974 + (-k).toNat) ≤ B * 2 ^ (k.toNat + (e + 3000).toNat) := Nat.mul_le_mul_left _ (Nat.pow_le_pow_right (by decide) (by omega))
      rw [c6, c2] at c1
      rw [c5] at c4
      exact absurd (Nat.lt_of_lt_of_le (Nat.lt_of_le_of_lt c3 c4) c7) (Nat.not_lt.mpr c1)
    unfold Jvm.FP.Core.roundAt Jvm.FP.Core.quantum
    rw [hqm, hp]
    generalize hq : max (-1074) (Jvm.FP.Core.leading A B + e - 52) = q
    have hq1 : -1074 ≤ q ∧ q ≤ -26 := by omega
    have hd : 0 < Jvm.FP.Core.unitsDen B e q := Nat.mul_pos hB (Nat.two_pow_pos _)
    -- the two measures
    have key : ∀ X : Nat, (X * 2 ^ 2974 * B ≤ fl_u A e → X * 2 ^ (-26 - q).toNat * Jvm.FP.Core.unitsDen B e q ≤ Jvm.FP.Core.unitsNum A e q) ∧ (fl_u A e ≤ X * 2 ^ 2974 * B → Jvm.FP.Core.unitsNum A e q ≤ X * 2 ^ (-26 - q).toNat * Jvm.FP.Core.unitsDen B e q) := by
      intro X
      unfold Jvm.FP.Core.unitsDen Jvm.FP.Core.unitsNum fl_u
      by_cases hqe : q ≤ e
      · rw [show (q - e).toNat = 0 by omega, Nat.pow_zero, Nat.mul_one]
        have d1 : X * 2 ^ 2974 * B = X * 2 ^ (-26 - q).toNat * B * 2 ^ (q + 3000).toNat := by
          rw [show 2974 = (-26 - q).toNat + (q + 3000).toNat by omega, Nat.pow_add, ← Nat.mul_assoc, Nat.mul_assoc _ _ B, Nat.mul_comm _ B, ← Nat.mul_assoc]
        have d2 : A * 2 ^ (e + 3000).toNat = A * 2 ^ (e - q).toNat * 2 ^ (q + 3000).toNat := by rw [show (e + 3000).toNat = (e - q).toNat + (q + 3000).toNat by omega, Nat.pow_add, ← Nat.mul_assoc]
        rw [d1, d2]
        exact ⟨fun h => Nat.le_of_mul_le_mul_right h (Nat.two_pow_pos _), fun h => Nat.le_of_mul_le_mul_right h (Nat.two_pow_pos _)⟩
      · rw [show (e - q).toNat = 0 by omega, Nat.pow_zero, Nat.mul_one]
        have d1 : X * 2 ^ 2974 * B = X * 2 ^ (-26 - q).toNat * (B * 2 ^ (q - e).toNat) * 2 ^ (e + 3000).toNat := by
          rw [show 2974 = (-26 - q).toNat + ((q - e).toNat + (e + 3000).toNat) by omega, Nat.pow_add, Nat.pow_add, Nat.mul_assoc, Nat.mul_comm _ B]
          simp only [Nat.mul_assoc, Nat.mul_comm, Nat.mul_left_comm]
        rw [d1]
        exact ⟨fun h => Nat.le_of_mul_le_mul_right h (Nat.two_pow_pos _), fun h => Nat.le_of_mul_le_mul_right h (Nat.two_pow_pos _)⟩
    have n1 := (fl_near (A := Jvm.FP.Core.unitsNum A e q) (M := M * 2 ^ (-26 - q).toNat) hd).1 ((key M).1 h1)
    have n2 := (fl_near (A := Jvm.FP.Core.unitsNum A e q) (M := N * 2 ^ (-26 - q).toNat) hd).2 ((key N).2 h2)
    have u1 : Jvm.FP.Core.unitsNum A e q ≤ 2 ^ 53 * Jvm.FP.Core.unitsDen B e q := by
      have hl2 := fl_lead2 (A := A) hB
      unfold Jvm.FP.Core.unitsNum Jvm.FP.Core.unitsDen
      generalize Jvm.FP.Core.leading A B = k at *
      -- q - e >= k - 52
      have g1 : A * 2 ^ (-(k + 1)).toNat * 2 ^ ((e - q).toNat + (k + 1).toNat) ≤ B * 2 ^ (k + 1).toNat * 2 ^ ((e - q).toNat + (k + 1).toNat) := Nat.mul_le_mul_right _ (Nat.le_of_lt hl2)
      have g2 : A * 2 ^ (-(k + 1)).toNat * 2 ^ ((e - q).toNat + (k + 1).toNat) = A * 2 ^ (e - q).toNat * 2 ^ ((-(k + 1)).toNat + (k + 1).toNat) := by
        rw [Nat.mul_assoc, Nat.mul_assoc, ← Nat.pow_add, ← Nat.pow_add]
        congr 2
        omega
      have g3 : B * 2 ^ (k + 1).toNat * 2 ^ ((e - q).toNat + (k + 1).toNat) ≤ 2 ^ 53 * (B * 2 ^ (q - e).toNat) * 2 ^ ((-(k + 1)).toNat + (k + 1).toNat) := by
        rw [Nat.mul_comm (2 ^ 53), Nat.mul_assoc, Nat.mul_assoc, Nat.mul_assoc, ← Nat.pow_add, ← Nat.pow_add, ← Nat.pow_add]
        exact Nat.mul_le_mul_left _ (Nat.pow_le_pow_right (by decide) (by omega))
      rw [g2] at g1
      exact Nat.le_of_mul_le_mul_right (Nat.le_trans g1 g3) (Nat.two_pow_pos _)
    have u2 : q = -1074 ∨ 2 ^ 52 * Jvm.FP.Core.unitsDen B e q ≤ Jvm.FP.Core.unitsNum A e q := by
      by_cases hq2 : q = -1074
      · exact Or.inl hq2
      · refine Or.inr ?_
        unfold Jvm.FP.Core.unitsNum Jvm.FP.Core.unitsDen
        generalize Jvm.FP.Core.leading A B = k at *
        have g1 : B * 2 ^ k.toNat * 2 ^ ((e - q).toNat + k.toNat) ≤ A * 2 ^ (-k).toNat * 2 ^ ((e - q).toNat + k.toNat) := Nat.mul_le_mul_right _ hl
        have g2 : A * 2 ^ (-k).toNat * 2 ^ ((e - q).toNat + k.toNat) = A * 2 ^ (e - q).toNat * 2 ^ ((-k).toNat + k.toNat) := by
          rw [Nat.mul_assoc, Nat.mul_assoc, ← Nat.pow_add, ← Nat.pow_add]
          congr 2
          omega
        have g3 : 2 ^ 52 * (B * 2 ^ (q - e).toNat) * 2 ^ ((-k).toNat + k.toNat) ≤ B * 2 ^ k.toNat * 2 ^ ((e - q).toNat + k.toNat) := by
          rw [Nat.mul_comm (2 ^ 52), Nat.mul_assoc, Nat.mul_assoc, Nat.mul_assoc, ← Nat.pow_add, ← Nat.pow_add, ← Nat.pow_add]
          exact Nat.mul_le_mul_left _ (Nat.pow_le_pow_right (by decide) (by omega))
        rw [g2] at g1
        exact Nat.le_of_mul_le_mul_right (Nat.le_trans g3 g1) (Nat.two_pow_pos _)
    have w1 := (fl_near (A := Jvm.FP.Core.unitsNum A e q) (M := 2 ^ 53) hd).2 u1
    have w2 : q = -1074 ∨ 2 ^ 52 ≤ Jvm.FP.Core.nearest (Jvm.FP.Core.unitsNum A e q) (Jvm.FP.Core.unitsDen B e q) := u2.imp id (fun h => (fl_near hd).1 h)
    have up : ∀ X Y : Nat, (X * 2 ^ (-26 - q).toNat ≤ Y → X * 2 ^ 2974 ≤ fl_u Y q) ∧ (Y ≤ X * 2 ^ (-26 - q).toNat → fl_u Y q ≤ X * 2 ^ 2974) := by
      intro X Y
      have d1 : X * 2 ^ 2974 = X * 2 ^ (-26 - q).toNat * 2 ^ (q + 3000).toNat := by rw [Nat.mul_assoc, ← Nat.pow_add]; congr 2; omega
      rw [d1]
      exact ⟨fun h => Nat.mul_le_mul_right _ h, fun h => Nat.mul_le_mul_right _ h⟩
    generalize Jvm.FP.Core.nearest (Jvm.FP.Core.unitsNum A e q) (Jvm.FP.Core.unitsDen B e q) = c at *
    unfold Jvm.FP.Core.settle Jvm.FP.Core.bound
    have hpp : Jvm.FP.Core.b64.p = 53 := rfl
    have htt : Jvm.FP.Core.b64.tails = 2 ^ 52 := by decide
    rw [hqx, hpp, htt]
    by_cases hc : c < 2 ^ 53
    · rw [if_pos hc, if_pos (by omega)]
      exact ⟨c, q, rfl, hc, hq1.1, by omega, w2, (up M c).1 n1, (up N c).2 n2⟩
    · rw [if_neg hc, if_pos (by omega)]
      have hc2 : c = 2 ^ 53 := Nat.le_antisymm w1 (Nat.not_lt.mp hc)
      have e1 : fl_u (2 ^ 52) (q + 1) = fl_u c q := by
        unfold fl_u
        rw [hc2, show (q + 1 + 3000).toNat = 1 + (q + 3000).toNat by omega, Nat.pow_add, ← Nat.mul_assoc]
      refine ⟨2 ^ 52, q + 1, rfl, by decide, by omega, by omega, Or.inr (Nat.le_refl _), ?_, ?_⟩
      · rw [e1]; exact (up M c).1 n1
      · rw [e1]; exact (up N c).2 n2
/-- a double of known sign, its size in units -/
def fl_D (a : UInt64) (s : Bool) (lo hi : Nat) : Prop := ∃ (c : Nat) (q : Int), Jvm.FP.Core.decode Jvm.FP.Core.b64 a.toNat = .fin s c q ∧ c < 2 ^ 53 ∧ -1074 ≤ q ∧ q ≤ -25 ∧ lo ≤ fl_u c q ∧ fl_u c q ≤ hi
theorem fl_D_rr (s : Bool) (A B : Nat) (e : Int) (M N : Nat) (hB : 0 < B) (he : -3000 ≤ e) (hN : N < 2 ^ 53) (h1 : M * 2 ^ 2974 * B ≤ fl_u A e) (h2 : fl_u A e ≤ N * 2 ^ 2974 * B) :
    fl_D (UInt64.ofNat (Jvm.FP.Core.encode Jvm.FP.Core.b64 (Jvm.FP.Core.roundRatio Jvm.FP.Core.b64 s A B e))) s (M * 2 ^ 2974) (N * 2 ^ 2974) := by
  obtain ⟨c, q, e1, e2, e3, e4, e5, e6, e7⟩ := fl_rr s A B e M N hB he hN h1 h2
  rw [e1]
  exact ⟨c, q, fl_den e2 e3 (by omega) e5, e2, e3, e4, e6, e7⟩
theorem fl_z : 2 ^ 3000 = 2 ^ 26 * 2 ^ 2974 := by rw [← Nat.pow_add]
/-- whole numbers -/
theorem fl_int {i : Int} (h : i.natAbs < 2 ^ 27) : fl_D (UInt64.ofNat (Jvm.FP.Core.fromInt Jvm.FP.Core.b64 i)) (decide (i < 0)) (i.natAbs * 2 ^ 26 * 2 ^ 2974) (i.natAbs * 2 ^ 26 * 2 ^ 2974) := by
  have hu : fl_u i.natAbs 0 = i.natAbs * 2 ^ 26 * 2 ^ 2974 * 1 := by
    unfold fl_u
    rw [show ((0 : Int) + 3000).toNat = 26 + 2974 by decide, Nat.pow_add, Nat.mul_one, Nat.mul_assoc]
  exact fl_D_rr _ i.natAbs 1 0 (i.natAbs * 2 ^ 26) (i.natAbs * 2 ^ 26) (by decide) (by decide) (by omega) (by rw [hu]; exact Nat.le_refl _) (by rw [hu]; exact Nat.le_refl _)
theorem fl_u_mul {c d : Nat} {q r : Int} (hq : -1074 ≤ q) (hr : -1074 ≤ r) : fl_u (c * d) (q + r) * 2 ^ 3000 = fl_u c q * fl_u d r := by
  unfold fl_u
  have e : (q + r + 3000).toNat + 3000 = (q + 3000).toNat + (r + 3000).toNat := by omega
  rw [Nat.mul_assoc, ← Nat.pow_add, e, Nat.pow_add]
  simp only [Nat.mul_assoc, Nat.mul_comm, Nat.mul_left_comm]
theorem fl_mul {x y : UInt64} {s : Bool} {X0 X1 Y0 Y1 M N : Nat} (hx : fl_D x s X0 X1) (hy : fl_D y false Y0 Y1) (h1 : M * 2 ^ 2974 * 2 ^ 3000 ≤ X0 * Y0) (h2 : X1 * Y1 ≤ N * 2 ^ 2974 * 2 ^ 3000) (hN : N < 2 ^ 53) : fl_D (UInt64.ofNat (Jvm.FP.Core.mul Jvm.FP.Core.b64 x.toNat y.toNat)) s (M * 2 ^ 2974) (N * 2 ^ 2974) := by
  obtain ⟨c, q, e1, e2, e3, e4, e5, e6⟩ := hx
  obtain ⟨d, r, f1, f2, f3, f4, f5, f6⟩ := hy
  have hm := fl_u_mul (c := c) (d := d) e3 f3
  have a1 : X0 * Y0 ≤ fl_u c q * fl_u d r := Nat.mul_le_mul e5 f5
  have a2 : fl_u c q * fl_u d r ≤ X1 * Y1 := Nat.mul_le_mul e6 f6
  rw [← hm] at a1 a2
  have := fl_D_rr s (c * d) 1 (q + r) M N (by decide) (by omega) hN (by rw [Nat.mul_one]; exact Nat.le_of_mul_le_mul_right (Nat.le_trans h1 a1) (Nat.two_pow_pos _)) (by rw [Nat.mul_one]; exact Nat.le_of_mul_le_mul_right (Nat.le_trans a2 h2) (Nat.two_pow_pos _))
  unfold Jvm.FP.Core.mul
  rw [e1, f1]
  show fl_D (UInt64.ofNat (Jvm.FP.Core.encode Jvm.FP.Core.b64 (Jvm.FP.Core.roundRatio Jvm.FP.Core.b64 (s != false) (c * d) 1 (q + r)))) s _ _
  rw [Bool.bne_false]
  exact this
theorem fl_div {x y : UInt64} {X Y M N : Nat} (hx : fl_D x false X X) (hy : fl_D y false Y Y) (hY : 0 < Y) (h1 : M * 2 ^ 2974 * Y ≤ X * 2 ^ 3000) (h2 : X * 2 ^ 3000 ≤ N * 2 ^ 2974 * Y) (hN : N < 2 ^ 53) : fl_D (UInt64.ofNat (Jvm.FP.Core.div Jvm.FP.Core.b64 x.toNat y.toNat)) false (M * 2 ^ 2974) (N * 2 ^ 2974) := by
  obtain ⟨c, q, e1, e2, e3, e4, e5, e6⟩ := hx
  obtain ⟨d, r, f1, f2, f3, f4, f5, f6⟩ := hy
  have eX : fl_u c q = X := Nat.le_antisymm e6 e5
  have eY : fl_u d r = Y := Nat.le_antisymm f6 f5
  have hd : 0 < d := by
    apply Nat.pos_of_ne_zero
    intro h
    rw [h] at eY
    unfold fl_u at eY
    omega
  have k1 : fl_u c (q - r) * 2 ^ (r + 3000).toNat = X * 2 ^ 3000 := by
    rw [← eX]
    unfold fl_u
    rw [Nat.mul_assoc, Nat.mul_assoc, ← Nat.pow_add, ← Nat.pow_add]
    congr 2
    omega
  have k2 : ∀ Z : Nat, Z * d * 2 ^ (r + 3000).toNat = Z * Y := by
    intro Z
    rw [← eY]
    unfold fl_u
    rw [Nat.mul_assoc]
  have := fl_D_rr false c d (q - r) M N hd (by omega) hN (by
    apply Nat.le_of_mul_le_mul_right (c := 2 ^ (r + 3000).toNat) _ (Nat.two_pow_pos _)
    rw [k1, k2]; exact h1) (by
    apply Nat.le_of_mul_le_mul_right (c := 2 ^ (r + 3000).toNat) _ (Nat.two_pow_pos _)
    rw [k1, k2]; exact h2)
  unfold Jvm.FP.Core.div
  rw [e1, f1]
  show fl_D (UInt64.ofNat (Jvm.FP.Core.encode Jvm.FP.Core.b64 (if d = 0 then _ else Jvm.FP.Core.roundRatio Jvm.FP.Core.b64 (false != false) c d (q - r)))) false _ _
  rw [if_neg (by omega)]
  exact this
theorem fl_in {c : Nat} {q e : Int} (he : e ≤ q) (h0 : -1074 ≤ e) : Jvm.FP.Core.inUnits c q e * 2 ^ (e + 3000).toNat = fl_u c q := by
  unfold Jvm.FP.Core.inUnits fl_u
  rw [Nat.mul_assoc, ← Nat.pow_add]
  congr 2
  omega
theorem fl_sumu {c d : Nat} {q r : Int} (t : Bool) (hq : -1074 ≤ q) (hr : -1074 ≤ r) : ((fl_u (Jvm.FP.Core.sumUnits false c q t d r (min q r)).natAbs (min q r) : Nat) : Int) = (((fl_u c q : Nat) : Int) + Jvm.FP.Core.signed t (fl_u d r)).natAbs := by
  have a1 := fl_in (c := c) (show min q r ≤ q by omega) (by omega)
  have a2 := fl_in (c := d) (show min q r ≤ r by omega) (by omega)
  show (((Jvm.FP.Core.sumUnits false c q t d r (min q r)).natAbs * 2 ^ (min q r + 3000).toNat : Nat) : Int) = _
  unfold Jvm.FP.Core.sumUnits
  generalize Jvm.FP.Core.inUnits c q (min q r) = x at *
  generalize Jvm.FP.Core.inUnits d r (min q r) = y at *
  rw [← a1, ← a2]
  generalize 2 ^ (min q r + 3000).toNat = P at *
  have e : ∀ u : Int, ((u.natAbs * P : Nat) : Int) = ((u * (P : Int)).natAbs : Int) := fun u => by rw [Int.natAbs_mul, Int.natAbs_natCast]
  rw [e]
  congr 2
  unfold Jvm.FP.Core.signed
  cases t
  · show ((x : Int) + (y : Int)) * (P : Int) = ((x * P : Nat) : Int) + ((y * P : Nat) : Int)
    rw [Int.add_mul, Int.natCast_mul, Int.natCast_mul]
  · show ((x : Int) + -(y : Int)) * (P : Int) = ((x * P : Nat) : Int) + -((y * P : Nat) : Int)
    rw [Int.add_mul, Int.natCast_mul, Int.natCast_mul, Int.neg_mul]
theorem fl_add {x y : UInt64} {X Y M N : Nat} (hx : fl_D x false X X) (hy : fl_D y false Y Y) (h1 : M * 2 ^ 2974 ≤ X + Y) (h2 : X + Y ≤ N * 2 ^ 2974) (hN : N < 2 ^ 53) : fl_D (UInt64.ofNat (Jvm.FP.Core.add Jvm.FP.Core.b64 x.toNat y.toNat)) false (M * 2 ^ 2974) (N * 2 ^ 2974) := by
  obtain ⟨c, q, e1, e2, e3, e4, e5, e6⟩ := hx
  obtain ⟨d, r, f1, f2, f3, f4, f5, f6⟩ := hy
  have eX : fl_u c q = X := Nat.le_antisymm e6 e5
  have eY : fl_u d r = Y := Nat.le_antisymm f6 f5
  have hs := fl_sumu (c := c) (d := d) false e3 f3
  rw [eX, eY] at hs
  have hs2 : fl_u (Jvm.FP.Core.sumUnits false c q false d r (min q r)).natAbs (min q r) = X + Y := by
    have : Jvm.FP.Core.signed false Y = (Y : Int) := rfl
    rw [this] at hs
    generalize fl_u (Jvm.FP.Core.sumUnits false c q false d r (min q r)).natAbs (min q r) = Z at *
    omega
  have := fl_D_rr false _ 1 (min q r) M N (by decide) (by omega) hN (by rw [Nat.mul_one, hs2]; exact h1) (by rw [Nat.mul_one, hs2]; exact h2)
  unfold Jvm.FP.Core.add
  rw [e1, f1]
  have hsg : Jvm.FP.Core.sumSign false false (Jvm.FP.Core.sumUnits false c q false d r (min q r)) = false := by
    unfold Jvm.FP.Core.sumSign
    split
    · rfl
    · apply decide_eq_false
      unfold Jvm.FP.Core.sumUnits Jvm.FP.Core.signed
      simp only [Bool.false_eq_true, if_false]
      omega
  show fl_D (UInt64.ofNat (Jvm.FP.Core.encode Jvm.FP.Core.b64 (Jvm.FP.Core.roundRatio Jvm.FP.Core.b64 (Jvm.FP.Core.sumSign false false (Jvm.FP.Core.sumUnits false c q false d r (min q r))) (Jvm.FP.Core.sumUnits false c q false d r (min q r)).natAbs 1 (min q r)))) false _ _
  rw [hsg]
  exact this
theorem fl_sub {x y : UInt64} {X0 X1 Y N : Nat} (hx : fl_D x false X0 X1) (hy : fl_D y false Y Y) (h1 : Y ≤ X0 + N * 2 ^ 2974) (h2 : X1 ≤ Y + N * 2 ^ 2974) (hN : N < 2 ^ 53) : ∃ s : Bool, fl_D (UInt64.ofNat (Jvm.FP.Core.sub Jvm.FP.Core.b64 x.toNat y.toNat)) s (0 * 2 ^ 2974) (N * 2 ^ 2974) := by
  obtain ⟨c, q, e1, e2, e3, e4, e5, e6⟩ := hx
  obtain ⟨d, r, f1, f2, f3, f4, f5, f6⟩ := hy
  have eY : fl_u d r = Y := Nat.le_antisymm f6 f5
  have hs := fl_sumu (c := c) (d := d) true e3 f3
  rw [eY] at hs
  have hs2 : fl_u (Jvm.FP.Core.sumUnits false c q true d r (min q r)).natAbs (min q r) ≤ N * 2 ^ 2974 := by
    have : Jvm.FP.Core.signed true Y = -(Y : Int) := rfl
    rw [this] at hs
    generalize N * 2 ^ 2974 = K at *
    generalize fl_u (Jvm.FP.Core.sumUnits false c q true d r (min q r)).natAbs (min q r) = Z at *
    generalize fl_u c q = X at *
    omega
  refine ⟨Jvm.FP.Core.sumSign false true (Jvm.FP.Core.sumUnits false c q true d r (min q r)), ?_⟩
  have := fl_D_rr (Jvm.FP.Core.sumSign false true (Jvm.FP.Core.sumUnits false c q true d r (min q r))) _ 1 (min q r) 0 N (by decide) (by omega) hN (by rw [Nat.zero_mul, Nat.zero_mul]; exact Nat.zero_le _) (by rw [Nat.mul_one]; exact hs2)
  unfold Jvm.FP.Core.sub
  rw [e1, f1]
  exact this
theorem fl_lt {x y : UInt64} {X0 X1 Y0 Y1 : Nat} (hx : fl_D x false X0 X1) (hy : fl_D y false Y0 Y1) (h : X1 < Y0) : Jvm.FP.Core.dcmp x y = some .lt := by
  obtain ⟨c, q, e1, e2, e3, e4, e5, e6⟩ := hx
  obtain ⟨d, r, f1, f2, f3, f4, f5, f6⟩ := hy
  unfold Jvm.FP.Core.dcmp Jvm.FP.Core.cmp
  rw [e1, f1]
  show some (compare ((Jvm.FP.Core.inUnits c q (min q r) : Nat) : Int) ((Jvm.FP.Core.inUnits d r (min q r) : Nat) : Int)) = _
  have a1 := fl_in (c := c) (show min q r ≤ q by omega) (by omega)
  have a2 := fl_in (c := d) (show min q r ≤ r by omega) (by omega)
  have hl : fl_u c q < fl_u d r := by omega
  rw [← a1, ← a2] at hl
  have hl2 := Nat.lt_of_mul_lt_mul_right hl
  congr 1
  exact Int.compare_eq_lt.mpr (by omega)
theorem fl_nn {x : UInt64} {s : Bool} {X0 X1 : Nat} (hx : fl_D x s X0 X1) : Jvm.FP.Core.decode Jvm.FP.Core.b64 x.toNat ≠ .nan := by
  obtain ⟨c, q, e1, -⟩ := hx
  rw [e1]
  exact fun h => by cases h
/-- the mean times the number, less the sum, is small -/
theorem fl_mean {S n : Nat} (hS : S < 2 ^ 26 + 2 ^ 25) (hn : 1 ≤ n ∧ n ≤ 12) {x y z : UInt64} (hx : fl_D x false (S * 2 ^ 26 * 2 ^ 2974) (S * 2 ^ 26 * 2 ^ 2974)) (hy : fl_D y false (n * 2 ^ 26 * 2 ^ 2974) (n * 2 ^ 26 * 2 ^ 2974)) (hz : z = UInt64.ofNat (Jvm.FP.Core.div Jvm.FP.Core.b64 x.toNat y.toNat)) :
    fl_D z false (S * 2 ^ 26 / n * 2 ^ 2974) ((S * 2 ^ 26 / n + 1) * 2 ^ 2974) ∧ fl_D (UInt64.ofNat (Jvm.FP.Core.mul Jvm.FP.Core.b64 z.toNat y.toNat)) false ((S * 2 ^ 26 - 12) * 2 ^ 2974) ((S * 2 ^ 26 + 12) * 2 ^ 2974) := by
  have hd := Nat.div_add_mod (S * 2 ^ 26) n
  have hm := Nat.mod_lt (S * 2 ^ 26) (show n > 0 by omega)
  have hD : S * 2 ^ 26 / n ≤ S * 2 ^ 26 := Nat.div_le_self _ _
  have a : fl_D z false (S * 2 ^ 26 / n * 2 ^ 2974) ((S * 2 ^ 26 / n + 1) * 2 ^ 2974) := by
    rw [hz]
    refine fl_div hx hy (Nat.mul_pos (by omega) (Nat.two_pow_pos _)) ?_ ?_ (by omega)
    · rw [fl_z]
      have e : S * 2 ^ 26 / n * 2 ^ 2974 * (n * 2 ^ 26 * 2 ^ 2974) = n * (S * 2 ^ 26 / n) * (2 ^ 26 * 2 ^ 2974 * 2 ^ 2974) := by simp only [Nat.mul_assoc, Nat.mul_comm, Nat.mul_left_comm]
      have e2 : S * 2 ^ 26 * 2 ^ 2974 * (2 ^ 26 * 2 ^ 2974) = S * 2 ^ 26 * (2 ^ 26 * 2 ^ 2974 * 2 ^ 2974) := by simp only [Nat.mul_assoc, Nat.mul_comm, Nat.mul_left_comm]
      rw [e, e2]
      exact Nat.mul_le_mul_right _ (by omega)
    · rw [fl_z]
      have e : (S * 2 ^ 26 / n + 1) * 2 ^ 2974 * (n * 2 ^ 26 * 2 ^ 2974) = n * (S * 2 ^ 26 / n + 1) * (2 ^ 26 * 2 ^ 2974 * 2 ^ 2974) := by simp only [Nat.mul_assoc, Nat.mul_comm, Nat.mul_left_comm]
      have e2 : S * 2 ^ 26 * 2 ^ 2974 * (2 ^ 26 * 2 ^ 2974) = S * 2 ^ 26 * (2 ^ 26 * 2 ^ 2974 * 2 ^ 2974) := by simp only [Nat.mul_assoc, Nat.mul_comm, Nat.mul_left_comm]
      rw [e, e2]
      exact Nat.mul_le_mul_right _ (by rw [Nat.mul_add, Nat.mul_one]; omega)
  refine ⟨a, fl_mul a hy ?_ ?_ (by omega)⟩
  · rw [fl_z]
    have e : S * 2 ^ 26 / n * 2 ^ 2974 * (n * 2 ^ 26 * 2 ^ 2974) = n * (S * 2 ^ 26 / n) * (2 ^ 26 * 2 ^ 2974 * 2 ^ 2974) := by simp only [Nat.mul_assoc, Nat.mul_comm, Nat.mul_left_comm]
    have e2 : (S * 2 ^ 26 - 12) * 2 ^ 2974 * (2 ^ 26 * 2 ^ 2974) = (S * 2 ^ 26 - 12) * (2 ^ 26 * 2 ^ 2974 * 2 ^ 2974) := by simp only [Nat.mul_assoc, Nat.mul_comm, Nat.mul_left_comm]
    rw [e, e2]
    exact Nat.mul_le_mul_right _ (by omega)
  · rw [fl_z]
    have e : (S * 2 ^ 26 / n + 1) * 2 ^ 2974 * (n * 2 ^ 26 * 2 ^ 2974) = n * (S * 2 ^ 26 / n + 1) * (2 ^ 26 * 2 ^ 2974 * 2 ^ 2974) := by simp only [Nat.mul_assoc, Nat.mul_comm, Nat.mul_left_comm]
    have e2 : (S * 2 ^ 26 + 12) * 2 ^ 2974 * (2 ^ 26 * 2 ^ 2974) = (S * 2 ^ 26 + 12) * (2 ^ 26 * 2 ^ 2974 * 2 ^ 2974) := by simp only [Nat.mul_assoc, Nat.mul_comm, Nat.mul_left_comm]
    rw [e, e2]
    exact Nat.mul_le_mul_right _ (by rw [Nat.mul_add, Nat.mul_one]; omega)
end
