/-! THE STATE: g holds what is told, in the order of the reference's row (counts, start, eye, index error, current; bodies from 9, legs from 33, sights from 57) -/
abbrev logO (G : kG) (b : Nat) (g : Nat → Int) : va_E := .inr (4, [vI (g 5), vI (g 6), vI (g 7), vI (g 8), vI (g 1), .ref (kad G (b + 1)), .ref (kad G (b + 2)), .ref (kad G (b + 3)), vI (g 2), .ref (kad G (b + 4)), .ref (kad G (b + 5)), .ref (kad G (b + 6))])
def kLog (G : kG) (w : Nat → va_E) (b : Nat) (g : Nat → Int) : Prop :=
  w b = logO G b g ∧ w (b + 1) = iA G 8 (fun j => g (33 + 3 * j)) ∧ w (b + 2) = iA G 8 (fun j => g (34 + 3 * j)) ∧ w (b + 3) = iA G 8 (fun j => g (35 + 3 * j)) ∧
  w (b + 4) = iA G 12 (fun j => g (57 + 3 * j)) ∧ w (b + 5) = iA G 12 (fun j => g (58 + 3 * j)) ∧ w (b + 6) = iA G 12 (fun j => g (59 + 3 * j))
theorem kLog.fr {G : kG} {w w1 : Nat → va_E} {b : Nat} {g : Nat → Int} (h : kLog G w b g) (hf : ∀ j, b ≤ j → j ≤ b + 6 → w1 j = w j) : kLog G w1 b g := by
  obtain ⟨h0, h1, h2, h3, h4, h5, h6⟩ := h
  exact ⟨(hf _ (by omega) (by omega)).trans h0, (hf _ (by omega) (by omega)).trans h1, (hf _ (by omega) (by omega)).trans h2, (hf _ (by omega) (by omega)).trans h3, (hf _ (by omega) (by omega)).trans h4, (hf _ (by omega) (by omega)).trans h5, (hf _ (by omega) (by omega)).trans h6⟩
abbrev planO (G : kG) (b : Nat) (g : Nat → Int) : va_E := .inr (6, [vI (g 3), vI (g 4), vI (g 0), .ref (kad G (b + 1)), .ref (kad G (b + 2)), .ref (kad G (b + 3)), .ref (kad G (b + 4))])
def kPlan (G : kG) (w : Nat → va_E) (b : Nat) (g nl : Nat → Int) : Prop :=
  w b = planO G b g ∧ w (b + 1) = iA G 6 (fun j => g (9 + 4 * j)) ∧ w (b + 2) = iA G 6 (fun j => g (10 + 4 * j)) ∧ w (b + 3) = iA G 6 (fun j => g (11 + 4 * j)) ∧ w (b + 4) = iA G 48 nl
theorem kPlan.fr {G : kG} {w w1 : Nat → va_E} {b : Nat} {g nl : Nat → Int} (h : kPlan G w b g nl) (hf : ∀ j, b ≤ j → j ≤ b + 4 → w1 j = w j) : kPlan G w1 b g nl := by
  obtain ⟨h0, h1, h2, h3, h4⟩ := h
  exact ⟨(hf _ (by omega) (by omega)).trans h0, (hf _ (by omega) (by omega)).trans h1, (hf _ (by omega) (by omega)).trans h2, (hf _ (by omega) (by omega)).trans h3, (hf _ (by omega) (by omega)).trans h4⟩
/-- what is told keeps its ranges -/
def Inv (g : Nat → Int) : Prop :=
  (0 ≤ g 0 ∧ g 0 ≤ 6) ∧ (0 ≤ g 1 ∧ g 1 ≤ 8) ∧ (0 ≤ g 2 ∧ g 2 ≤ 12) ∧ (-3600 ≤ g 3 ∧ g 3 ≤ 3600) ∧ (-10800 ≤ g 4 ∧ g 4 ≤ 10799) ∧ (0 ≤ g 5 ∧ g 5 ≤ 50) ∧ (-60 ≤ g 6 ∧ g 6 ≤ 60) ∧ (0 ≤ g 7 ∧ g 7 ≤ 21599) ∧ (0 ≤ g 8 ∧ g 8 ≤ 100) ∧
  (∀ k : Nat, (k : Int) < g 0 → (-3600 ≤ g (9 + 4 * k) ∧ g (9 + 4 * k) ≤ 3600) ∧ (0 ≤ g (10 + 4 * k) ∧ g (10 + 4 * k) ≤ 21599) ∧ (1 ≤ g (11 + 4 * k) ∧ g (11 + 4 * k) ≤ 8)) ∧
  (∀ k : Nat, (k : Int) < g 1 → (0 ≤ g (33 + 3 * k) ∧ g (33 + 3 * k) ≤ 5000) ∧ (0 ≤ g (34 + 3 * k) ∧ g (34 + 3 * k) ≤ 21599) ∧ (0 ≤ g (35 + 3 * k) ∧ g (35 + 3 * k) ≤ 400)) ∧
  (∀ k : Nat, (k : Int) + 1 < g 1 → g (33 + 3 * k) < g (36 + 3 * k)) ∧
  (∀ k : Nat, (k : Int) < g 2 → (0 ≤ g (57 + 3 * k) ∧ g (57 + 3 * k) < g 0) ∧ (0 ≤ g (58 + 3 * k) ∧ g (58 + 3 * k) ≤ 5000) ∧ (300 ≤ g (59 + 3 * k) ∧ g (59 + 3 * k) ≤ 5100))
theorem Inv.c {g : Nat → Int} (h : Inv g) : (0 ≤ g 0 ∧ g 0 ≤ 6) ∧ (0 ≤ g 1 ∧ g 1 ≤ 8) ∧ (0 ≤ g 2 ∧ g 2 ≤ 12) ∧ (-3600 ≤ g 3 ∧ g 3 ≤ 3600) ∧ (-10800 ≤ g 4 ∧ g 4 ≤ 10799) ∧ (0 ≤ g 5 ∧ g 5 ≤ 50) ∧ (-60 ≤ g 6 ∧ g 6 ≤ 60) ∧ (0 ≤ g 7 ∧ g 7 ≤ 21599) ∧ (0 ≤ g 8 ∧ g 8 ≤ 100) := by
  obtain ⟨h1, h2, h3, h4, h5, h6, h7, h8, h9, -⟩ := h
  exact ⟨h1, h2, h3, h4, h5, h6, h7, h8, h9⟩
theorem Inv.body {g : Nat → Int} (h : Inv g) (k : Nat) (hk : (k : Int) < g 0) : (-3600 ≤ g (9 + 4 * k) ∧ g (9 + 4 * k) ≤ 3600) ∧ (0 ≤ g (10 + 4 * k) ∧ g (10 + 4 * k) ≤ 21599) ∧ (1 ≤ g (11 + 4 * k) ∧ g (11 + 4 * k) ≤ 8) := h.2.2.2.2.2.2.2.2.2.1 k hk
theorem Inv.leg {g : Nat → Int} (h : Inv g) (k : Nat) (hk : (k : Int) < g 1) : (0 ≤ g (33 + 3 * k) ∧ g (33 + 3 * k) ≤ 5000) ∧ (0 ≤ g (34 + 3 * k) ∧ g (34 + 3 * k) ≤ 21599) ∧ (0 ≤ g (35 + 3 * k) ∧ g (35 + 3 * k) ≤ 400) := h.2.2.2.2.2.2.2.2.2.2.1 k hk
theorem Inv.ord {g : Nat → Int} (h : Inv g) (k : Nat) (hk : (k : Int) + 1 < g 1) : g (33 + 3 * k) < g (36 + 3 * k) := h.2.2.2.2.2.2.2.2.2.2.2.1 k hk
theorem Inv.sight {g : Nat → Int} (h : Inv g) (k : Nat) (hk : (k : Int) < g 2) : (0 ≤ g (57 + 3 * k) ∧ g (57 + 3 * k) < g 0) ∧ (0 ≤ g (58 + 3 * k) ∧ g (58 + 3 * k) ≤ 5000) ∧ (300 ≤ g (59 + 3 * k) ∧ g (59 + 3 * k) ≤ 5100) := h.2.2.2.2.2.2.2.2.2.2.2.2 k hk
/-! the ship -/
def scM (co : Int) (no : Bool) : Int := if no then cosM co else sinM co
theorem scM_b (co : Int) (no : Bool) : -1000000 ≤ scM co no ∧ scM co no ≤ 1000000 := by unfold scM; split; exact cosM_b _; exact sinM_b _
def partM (sp mi co : Int) (no : Bool) : Int := prodM (sp * mi / 6) (scM co no)
def legU (g : Nat → Int) (t : Int) (k : Nat) : Int := if (k : Int) + 1 < g 1 then min t (g (36 + 3 * k)) else t
def legP (g : Nat → Int) (t : Int) (no : Bool) (k : Nat) : Int := if g (33 + 3 * k) < legU g t k then partM (g (35 + 3 * k)) (legU g t k - g (33 + 3 * k)) (g (34 + 3 * k)) no else 0
def legS (g : Nat → Int) (t : Int) (no : Bool) : Nat → Int
  | 0 => 0
  | n + 1 => legS g t no n + legP g t no n
def dispM (g : Nat → Int) (t : Int) (no : Bool) : Int := legS g t no (g 1).toNat + partM (g 8) t (g 7) no
theorem prodM_b {a s : Int} (ha : 0 ≤ a) (hs : -1000000 ≤ s ∧ s ≤ 1000000) : -a ≤ prodM a s ∧ prodM a s ≤ a := by
  have h := mul_le_abs (a := a) (b := s) (A := a) (B := 1000000) (by omega) hs
  unfold prodM
  omega
theorem prodM_u {a s : Int} (A : Int) (ha : -A ≤ a ∧ a ≤ A) (hs : -1000000 ≤ s ∧ s ≤ 1000000) : -A ≤ prodM a s ∧ prodM a s ≤ A := by
  have h := mul_le_abs (a := a) (b := s) (A := A) (B := 1000000) ha hs
  unfold prodM
  omega
theorem way_b {sp mi : Int} (h : 0 ≤ sp ∧ sp ≤ 400) (hm : 0 ≤ mi ∧ mi ≤ 5000) : 0 ≤ sp * mi ∧ sp * mi ≤ 400 * mi := ⟨Int.mul_nonneg h.1 hm.1, Int.mul_le_mul_of_nonneg_right h.2 hm.1⟩
theorem partM_b {sp mi co : Int} (no : Bool) (h : 0 ≤ sp ∧ sp ≤ 400) (hm : 0 ≤ mi ∧ mi ≤ 5000) : -(67 * mi) ≤ partM sp mi co no ∧ partM sp mi co no ≤ 67 * mi := by
  have h1 := way_b h hm
  have h2 := prodM_b (a := sp * mi / 6) (by omega) (scM_b co no)
  unfold partM
  omega
theorem partM_c {sp mi co : Int} (no : Bool) (h : 0 ≤ sp ∧ sp ≤ 100) (hm : 0 ≤ mi ∧ mi ≤ 5000) : -(17 * mi) ≤ partM sp mi co no ∧ partM sp mi co no ≤ 17 * mi := by
  have h1 : 0 ≤ sp * mi ∧ sp * mi ≤ 100 * mi := ⟨Int.mul_nonneg h.1 hm.1, Int.mul_le_mul_of_nonneg_right h.2 hm.1⟩
  have h2 := prodM_b (a := sp * mi / 6) (by omega) (scM_b co no)
  unfold partM
  omega
def legC (g : Nat → Int) (t : Int) (n : Nat) : Int := if (n : Int) < g 1 then max 0 (min t (g (33 + 3 * n))) else t
theorem legS_b {g : Nat → Int} (hI : Inv g) {t : Int} (ht : 0 ≤ t ∧ t ≤ 5000) (no : Bool) : ∀ n : Nat, (n : Int) ≤ g 1 → -(67 * legC g t n) ≤ legS g t no n ∧ legS g t no n ≤ 67 * legC g t n := by
  intro n
  induction n with
  | zero =>
    intro _
    unfold legS legC
    split
    · omega
    · omega
  | succ n ih =>
    intro hn
    have h1 := ih (by omega)
    have h2 := hI.leg n (by omega)
    show -(67 * legC g t (n + 1)) ≤ legS g t no n + legP g t no n ∧ legS g t no n + legP g t no n ≤ 67 * legC g t (n + 1)
    have h3 : legC g t n = max 0 (min t (g (33 + 3 * n))) := if_pos (by omega)
    rw [h3] at h1
    have h4 : legU g t n = legC g t (n + 1) ∨ (legU g t n < 0) := by
      unfold legU legC
      by_cases h5 : (n : Int) + 1 < g 1
      · rw [if_pos h5, if_pos (by omega)]
        have h6 := hI.leg (n + 1) (by omega)
        rw [show 36 + 3 * n = 33 + 3 * (n + 1) by omega]
        omega
      · rw [if_neg h5, if_neg (by omega)]; omega
    have h7 : 0 ≤ legC g t (n + 1) ∧ legC g t (n + 1) ≤ 5000 := by
      unfold legC; split <;> omega
    have h8 : max 0 (min t (g (33 + 3 * n))) ≤ legC g t (n + 1) := by
      unfold legC
      by_cases h5 : (n : Int) + 1 < g 1
      · rw [if_pos (by omega)]
        have h6 := hI.ord n h5
        rw [show 36 + 3 * n = 33 + 3 * (n + 1) by omega] at h6
        omega
      · rw [if_neg (by omega)]; omega
    unfold legP
    split
    · rename_i h9
      rcases h4 with h4 | h4
      · have h10 := partM_b (sp := g (35 + 3 * n)) (mi := legU g t n - g (33 + 3 * n)) (co := g (34 + 3 * n)) no h2.2.2 (by omega)
        omega
      · omega
    · omega
theorem dispM_b {g : Nat → Int} (hI : Inv g) {t : Int} (ht : 0 ≤ t ∧ t ≤ 5000) (no : Bool) : -420000 ≤ dispM g t no ∧ dispM g t no ≤ 420000 := by
  have h0 := hI.c
  have h1 := legS_b hI ht no (g 1).toNat (by omega)
  have h2 := partM_c (sp := g 8) (mi := t) (co := g 7) no (by omega) ht
  have h3 : legC g t (g 1).toNat = t := if_neg (by omega)
  rw [h3] at h1
  unfold dispM
  omega
theorem legS_bn {g : Nat → Int} (hI : Inv g) {t : Int} (ht : 0 ≤ t ∧ t ≤ 5000) (no : Bool) (n : Nat) (hn : (n : Int) ≤ g 1) : -335000 ≤ legS g t no n ∧ legS g t no n ≤ 335000 := by
  have h1 := legS_b hI ht no n hn
  have h7 : 0 ≤ legC g t n ∧ legC g t n ≤ 5000 := by unfold legC; split <;> omega
  omega
/-! a sight and its line -/
def latM (g : Nat → Int) (t : Int) : Int := g 3 + dispM g t true / 100
def lonT (g : Nat → Int) (t : Int) : Int := lonM (g 4 + (dispM g t false * 10000).fdiv (cosM (g 3)))
noncomputable def dipM (g : Nat → Int) : Int := rootM (3 * g 5)
noncomputable def apM (g : Nat → Int) (i : Nat) : Int := g (59 + 3 * i) + g 6 - dipM g
def obsO (a : Int) : Int := a - (cosM a).fdiv (sinM a)
noncomputable def obsM (g : Nat → Int) (i : Nat) : Int := obsO (apM g i)
noncomputable def expO (p d t : Int) : Int := arcM (limM (prodM (sinM p) (sinM d) + prodM (prodM (cosM p) (cosM d)) (cosM t)))
def decM (g : Nat → Int) (i : Nat) : Int := g (9 + 4 * (g (57 + 3 * i)).toNat)
def angM (g : Nat → Int) (i : Nat) : Int := g (10 + 4 * (g (57 + 3 * i)).toNat) + 15 * g (58 + 3 * i) + lonT g (g (58 + 3 * i))
noncomputable def expM (g : Nat → Int) (i : Nat) : Int := expO (latM g (g (58 + 3 * i))) (decM g i) (angM g i)
noncomputable def aziC (p d h : Int) : Int := if 0 < prodM (cosM p) (cosM h) then limM (((sinM d - prodM (sinM p) (sinM h)) * 1000000).fdiv (prodM (cosM p) (cosM h))) else 1000000
noncomputable def aziO (p d t h : Int) : Int := if sinM t ≤ 0 then 5400 - arcM (aziC p d h) else if 5400 - arcM (aziC p d h) = 0 then 0 else 21600 - (5400 - arcM (aziC p d h))
noncomputable def aziM (g : Nat → Int) (i : Nat) : Int := aziO (latM g (g (58 + 3 * i))) (decM g i) (angM g i) (expM g i)
noncomputable def intM (g : Nat → Int) (i : Nat) : Int := obsM g i - expM g i
def along (e n s c : Int) : Int := (e * s + n * c) / 1000000
noncomputable def offM (g : Nat → Int) (i : Nat) : Int := along (lonM (lonT g (g (58 + 3 * i)) - g 4) * cosM (g 3) / 10000) (100 * (latM g (g (58 + 3 * i)) - g 3)) (sinM (aziM g i)) (cosM (aziM g i)) + 100 * intM g i
noncomputable def carM (g : Nat → Int) (i : Nat) (t : Int) : Int := offM g i + along (dispM g t false - dispM g (g (58 + 3 * i)) false) (dispM g t true - dispM g (g (58 + 3 * i)) true) (sinM (aziM g i)) (cosM (aziM g i))
theorem lonM_b (a : Int) : -10800 ≤ lonM a ∧ lonM a ≤ 10799 := by unfold lonM; omega
theorem limM_b (a : Int) : -1000000 ≤ limM a ∧ limM a ≤ 1000000 := by unfold limM; omega
theorem cosM_pos {p : Int} (h : -3600 ≤ p ∧ p ≤ 3600) : 500000 ≤ cosM p := by
  have h1 : cosM p = sinQ (p + 5400) := by
    unfold cosM sinM
    rw [show (p + 5400) % 21600 = p + 5400 by omega, if_pos (by omega)]
  rw [h1]
  unfold sinQ
  have h2 := sinX (t := p + 5400) (by omega)
  have h3 : 16200000 ≤ (p + 5400) * (10800 - (p + 5400)) := by
    have h4 := Int.mul_nonneg (by omega : 0 ≤ p + 3600) (by omega : 0 ≤ 3600 - p)
    simp only [Int.sub_mul, Int.mul_sub, Int.add_mul, Int.mul_add] at h4 ⊢
    omega
  rw [Int.le_ediv_iff_mul_le (by omega)]
  omega
theorem arcN_x (v : Int) (hv : 0 ≤ v) : ∃ a : Int, arcN v = a ∧ 0 ≤ a ∧ a ≤ 5400 := by
  have h : ∀ n : Nat, n ≤ 5400 → (∃ a : Int, (0 ≤ a ∧ a ≤ n) ∧ sinM a ≤ v ∧ (a = n ∨ v < sinM (a + 1))) := by
    intro n
    induction n with
    | zero => intro _; exact ⟨0, by omega, by rw [sinM_0]; exact hv, Or.inl rfl⟩
    | succ n ih =>
      intro hn
      obtain ⟨a, h1, h2, h3⟩ := ih (by omega)
      rcases h3 with h3 | h3
      · by_cases h4 : sinM (a + 1) ≤ v
        · exact ⟨a + 1, by omega, h4, Or.inl (by omega)⟩
        · exact ⟨a, by omega, h2, Or.inr (by omega)⟩
      · exact ⟨a, by omega, h2, Or.inr h3⟩
  obtain ⟨a, h1, h2, h3⟩ := h 5400 (by omega)
  exact ⟨a, arcN_eq (by omega) h2 (by omega), by omega, by omega⟩
theorem arcM_b (v : Int) : -5400 ≤ arcM v ∧ arcM v ≤ 5400 := by
  unfold arcM
  split
  · obtain ⟨a, h1, h2, h3⟩ := arcN_x (-v) (by omega); omega
  · obtain ⟨a, h1, h2, h3⟩ := arcN_x v (by omega); omega
theorem rootM_x (n : Int) (hn : 0 ≤ n) : 0 ≤ rootM n ∧ rootM n * rootM n ≤ n ∧ n < (rootM n + 1) * (rootM n + 1) := by
  have h : ∀ k : Nat, ∃ r : Int, 0 ≤ r ∧ r * r ≤ n ∧ (r = k ∨ n < (r + 1) * (r + 1)) := by
    intro k
    induction k with
    | zero => exact ⟨0, by omega, by omega, Or.inl rfl⟩
    | succ k ih =>
      obtain ⟨r, h1, h2, h3⟩ := ih
      rcases h3 with h3 | h3
      · by_cases h4 : (r + 1) * (r + 1) ≤ n
        · exact ⟨r + 1, by omega, h4, Or.inl (by omega)⟩
        · exact ⟨r, h1, h2, Or.inr (by omega)⟩
      · exact ⟨r, h1, h2, Or.inr h3⟩
  obtain ⟨r, h1, h2, h3⟩ := h n.toNat
  have h4 : n < (r + 1) * (r + 1) := by
    rcases h3 with h3 | h3
    · have h5 := Int.mul_nonneg h1 h1
      have h6 : r = n := by omega
      simp only [Int.add_mul, Int.mul_add]
      omega
    · exact h3
  rw [rootM_eq h1 h2 h4]
  exact ⟨h1, h2, h4⟩
theorem dipM_b {g : Nat → Int} (hI : Inv g) : 0 ≤ dipM g ∧ dipM g ≤ 12 := by
  have h0 := hI.c
  obtain ⟨h1, h2, h3⟩ := rootM_x (3 * g 5) (by omega)
  unfold dipM
  refine ⟨h1, ?_⟩
  rcases Int.lt_or_le 12 (rootM (3 * g 5)) with h | h
  · have h4 := Int.mul_le_mul (show 13 ≤ rootM (3 * g 5) by omega) (show 13 ≤ rootM (3 * g 5) by omega) (by omega) h1
    omega
  · exact h
theorem apM_b {g : Nat → Int} (hI : Inv g) (i : Nat) (hi : (i : Int) < g 2) : 228 ≤ apM g i ∧ apM g i ≤ 5160 := by
  have h0 := hI.c
  have h1 := dipM_b hI
  have h2 := hI.sight i hi
  unfold apM
  omega
theorem obsO_b {a : Int} (h : 228 ≤ a ∧ a ≤ 5160) : 0 < sinM a ∧ 0 ≤ (cosM a).fdiv (sinM a) ∧ (cosM a).fdiv (sinM a) ≤ 15 := by
  have h1 : 67000 ≤ sinM a := by
    have h2 := sinM_mono (t := 228) (u := a) (by omega)
    have h3 : sinM 228 = 67241 ∨ 67000 ≤ sinM 228 := Or.inr (by decide)
    rcases h3 with h3 | h3 <;> omega
  have h4 : 0 ≤ cosM a := by
    have h5 : cosM a = sinQ (a + 5400) := by
      unfold cosM sinM
      rw [show (a + 5400) % 21600 = a + 5400 by omega, if_pos (by omega)]
    rw [h5]; exact (sinQ_b (by omega)).1
  have h6 := cosM_b a
  rw [Int.fdiv_eq_ediv_of_nonneg _ (by omega)]
  refine ⟨by omega, Int.ediv_nonneg h4 (by omega), ?_⟩
  have : cosM a / sinM a < 16 := Int.ediv_lt_of_lt_mul (by omega) (by omega)
  omega
theorem obsM_b {g : Nat → Int} (hI : Inv g) (i : Nat) (hi : (i : Int) < g 2) : 213 ≤ obsM g i ∧ obsM g i ≤ 5160 := by
  have h1 := apM_b hI i hi
  have h2 := obsO_b h1
  unfold obsM obsO
  omega
theorem expO_b (p d t : Int) : -5400 ≤ expO p d t ∧ expO p d t ≤ 5400 := arcM_b _
theorem aziO_b (p d t h : Int) : 0 ≤ aziO p d t h ∧ aziO p d t h ≤ 21599 := by
  have h1 := arcM_b (aziC p d h)
  unfold aziO
  split
  · omega
  · split <;> omega
theorem intM_b {g : Nat → Int} (hI : Inv g) (i : Nat) (hi : (i : Int) < g 2) : -5187 ≤ intM g i ∧ intM g i ≤ 10560 := by
  have h1 := obsM_b hI i hi
  have h2 := expO_b (latM g (g (58 + 3 * i))) (decM g i) (angM g i)
  unfold intM expM
  omega
theorem along_b {e n s c : Int} (E N : Int) (he : -E ≤ e ∧ e ≤ E) (hn : -N ≤ n ∧ n ≤ N) (hs : -1000000 ≤ s ∧ s ≤ 1000000) (hc : -1000000 ≤ c ∧ c ≤ 1000000) : -(E + N) ≤ along e n s c ∧ along e n s c ≤ E + N := by
  have h1 := mul_le_abs he hs
  have h2 := mul_le_abs hn hc
  unfold along
  omega
theorem latM_b {g : Nat → Int} (hI : Inv g) {t : Int} (ht : 0 ≤ t ∧ t ≤ 5000) : -7800 ≤ latM g t ∧ latM g t ≤ 7800 ∧ -420100 ≤ 100 * (latM g t - g 3) ∧ 100 * (latM g t - g 3) ≤ 420100 := by
  have h0 := hI.c
  have h1 := dispM_b hI ht true
  unfold latM
  omega
theorem offE_b {g : Nat → Int} (q : Int) : -1080000 ≤ lonM q * cosM (g 3) / 10000 ∧ lonM q * cosM (g 3) / 10000 ≤ 1080000 := by
  have h1 := lonM_b q
  have h2 := mul_le_abs (a := lonM q) (b := cosM (g 3)) (A := 10800) (B := 1000000) (by omega) (cosM_b _)
  omega
theorem offM_b {g : Nat → Int} (hI : Inv g) (i : Nat) (hi : (i : Int) < g 2) : -2556200 ≤ offM g i ∧ offM g i ≤ 2556200 := by
  have h1 := intM_b hI i hi
  have h2 := latM_b hI (hI.sight i hi).2.1
  have h3 := along_b 1080000 420100 (offE_b (g := g) (lonT g (g (58 + 3 * i)) - g 4)) ⟨h2.2.2.1, h2.2.2.2⟩ (sinM_b (aziM g i)) (cosM_b (aziM g i))
  unfold offM
  omega
theorem carM_b {g : Nat → Int} (hI : Inv g) (i : Nat) (hi : (i : Int) < g 2) {t : Int} (ht : 0 ≤ t ∧ t ≤ 5000) : -4236200 ≤ carM g i t ∧ carM g i t ≤ 4236200 := by
  have h1 := offM_b hI i hi
  have h2 := dispM_b hI ht false
  have h3 := dispM_b hI ht true
  have h4 := dispM_b hI (hI.sight i hi).2.1 false
  have h5 := dispM_b hI (hI.sight i hi).2.1 true
  have h6 := along_b 840000 840000 (e := dispM g t false - dispM g (g (58 + 3 * i)) false) (n := dispM g t true - dispM g (g (58 + 3 * i)) true) (by omega) (by omega) (sinM_b (aziM g i)) (cosM_b (aziM g i))
  unfold carM
  omega
