/-! THE TEXT: bytes, tokens, clauses, as numbers -/
abbrev PS : Type := Int × Int × Nat
noncomputable def selP {α : Type} (P : Prop) (x y : α) : α := @ite α P (Classical.propDecidable P) x y
theorem selP_1 {α : Type} {P : Prop} {x y : α} (h : P) : selP P x y = x := by unfold selP; exact if_pos h
theorem selP_0 {α : Type} {P : Prop} {x y : α} (h : ¬ P) : selP P x y = y := by unfold selP; exact if_neg h
def isBl (x : Int) : Bool := decide (x = 32 ∨ x = 10)
def isLt (x : Int) : Bool := decide (97 ≤ x ∧ x ≤ 122)
def isDg (x : Int) : Bool := decide (48 ≤ x ∧ x ≤ 57)
theorem isBl_1 {x : Int} : isBl x = true ↔ (x = 32 ∨ x = 10) := by unfold isBl; exact decide_eq_true_iff
theorem isLt_1 {x : Int} : isLt x = true ↔ (97 ≤ x ∧ x ≤ 122) := by unfold isLt; exact decide_eq_true_iff
theorem isDg_1 {x : Int} : isDg x = true ↔ (48 ≤ x ∧ x ≤ 57) := by unfold isDg; exact decide_eq_true_iff
theorem isBl_0 {x : Int} : isBl x = false ↔ ¬ (x = 32 ∨ x = 10) := by unfold isBl; exact decide_eq_false_iff_not
theorem isLt_0 {x : Int} : isLt x = false ↔ ¬ (97 ≤ x ∧ x ≤ 122) := by unfold isLt; exact decide_eq_false_iff_not
theorem isDg_0 {x : Int} : isDg x = false ↔ ¬ (48 ≤ x ∧ x ≤ 57) := by unfold isDg; exact decide_eq_false_iff_not
def runF (P : Int → Bool) (bt : Nat → Int) : Nat → Nat → Nat
  | 0, p => p
  | k + 1, p => if P (bt p) = true then runF P bt k (p + 1) else p
def runM (P : Int → Bool) (bt : Nat → Int) (n p : Nat) : Nat := runF P bt (n - p) p
theorem runM_s {P : Int → Bool} {bt : Nat → Int} {n p : Nat} (h : p < n) (hp : P (bt p) = true) : runM P bt n (p + 1) = runM P bt n p := by
  unfold runM
  obtain ⟨k, hk⟩ : ∃ k, n - p = k + 1 := ⟨n - p - 1, by omega⟩
  rw [hk, show n - (p + 1) = k by omega]
  show _ = (if P (bt p) = true then _ else _)
  rw [if_pos hp]
theorem runM_e {P : Int → Bool} {bt : Nat → Int} {n p : Nat} (h : n ≤ p ∨ P (bt p) = false) : runM P bt n p = p := by
  unfold runM
  cases hk : n - p with
  | zero => rfl
  | succ k =>
    rcases h with h | h
    · omega
    · show (if P (bt p) = true then _ else _) = _
      rw [if_neg (by rw [h]; decide)]
theorem runF_b {P : Int → Bool} {bt : Nat → Int} : ∀ k p : Nat, p ≤ runF P bt k p ∧ runF P bt k p ≤ p + k := by
  intro k
  induction k with
  | zero => intro p; exact ⟨Nat.le_refl _, Nat.le_refl _⟩
  | succ k ih =>
    intro p
    show p ≤ (if P (bt p) = true then _ else _) ∧ (if P (bt p) = true then _ else _) ≤ _
    split
    · have := ih (p + 1); omega
    · omega
theorem runM_b {P : Int → Bool} {bt : Nat → Int} {n p : Nat} (h : p ≤ n) : p ≤ runM P bt n p ∧ runM P bt n p ≤ n := by
  have := runF_b (P := P) (bt := bt) (n - p) p
  unfold runM; omega
theorem runF_in {P : Int → Bool} {bt : Nat → Int} : ∀ k p q : Nat, p ≤ q → q < runF P bt k p → P (bt q) = true := by
  intro k
  induction k with
  | zero => intro p q h1 h2; exact absurd h2 (by show ¬ q < p; omega)
  | succ k ih =>
    intro p q h1 h2
    by_cases hp : P (bt p) = true
    · by_cases e : q = p
      · subst e; exact hp
      · refine ih (p + 1) q (by omega) ?_
        have e2 : runF P bt (k + 1) p = runF P bt k (p + 1) := if_pos hp
        omega
    · have e2 : runF P bt (k + 1) p = p := if_neg hp
      omega
theorem runM_in {P : Int → Bool} {bt : Nat → Int} {n p q : Nat} (h1 : p ≤ q) (h2 : q < runM P bt n p) : P (bt q) = true := runF_in _ _ _ h1 h2
def kdM (bt : Nat → Int) (n s : Nat) : Int := if n ≤ s then 0 else if isLt (bt s) = true then 1 else if isDg (bt s) = true then 2 else 3
def enM (bt : Nat → Int) (n s : Nat) : Nat := if n ≤ s then n else if isLt (bt s) = true then runM isLt bt n s else if isDg (bt s) = true then runM isDg bt n s else s + 1
def skM (bt : Nat → Int) (n p : Nat) : Nat := runM isBl bt n p
theorem kd_c (bt : Nat → Int) (n s : Nat) : (kdM bt n s = 0 ∧ n ≤ s ∧ enM bt n s = n) ∨ (kdM bt n s = 1 ∧ s < n ∧ isLt (bt s) = true ∧ enM bt n s = runM isLt bt n s) ∨ (kdM bt n s = 2 ∧ s < n ∧ isDg (bt s) = true ∧ enM bt n s = runM isDg bt n s) ∨ (kdM bt n s = 3 ∧ s < n ∧ isLt (bt s) = false ∧ isDg (bt s) = false ∧ enM bt n s = s + 1) := by
  unfold kdM enM
  by_cases h1 : n ≤ s
  · rw [if_pos h1, if_pos h1]; exact Or.inl ⟨rfl, h1, rfl⟩
  · rw [if_neg h1, if_neg h1]
    by_cases h2 : isLt (bt s) = true
    · rw [if_pos h2, if_pos h2]; exact Or.inr (Or.inl ⟨rfl, by omega, h2, rfl⟩)
    · rw [if_neg h2, if_neg h2]
      by_cases h3 : isDg (bt s) = true
      · rw [if_pos h3, if_pos h3]; exact Or.inr (Or.inr (Or.inl ⟨rfl, by omega, h3, rfl⟩))
      · rw [if_neg h3, if_neg h3]; exact Or.inr (Or.inr (Or.inr ⟨rfl, by omega, by simpa using h2, by simpa using h3, rfl⟩))
theorem enM_b {bt : Nat → Int} {n s : Nat} (h : s ≤ n) : s ≤ enM bt n s ∧ enM bt n s ≤ n := by
  rcases kd_c bt n s with ⟨-, h1, e⟩ | ⟨-, h1, -, e⟩ | ⟨-, h1, -, e⟩ | ⟨-, h1, -, -, e⟩
  · omega
  · rw [e]; exact runM_b h
  · rw [e]; exact runM_b h
  · omega
theorem enM_lt {bt : Nat → Int} {n s : Nat} (h : s < n) : s < enM bt n s := by
  rcases kd_c bt n s with ⟨-, h1, e⟩ | ⟨-, h1, h2, e⟩ | ⟨-, h1, h2, e⟩ | ⟨-, h1, -, -, e⟩
  · omega
  · rw [e, ← runM_s h h2]; have := runM_b (P := isLt) (bt := bt) (n := n) (p := s + 1) (by omega); omega
  · rw [e, ← runM_s h h2]; have := runM_b (P := isDg) (bt := bt) (n := n) (p := s + 1) (by omega); omega
  · omega
theorem skM_b {bt : Nat → Int} {n p : Nat} (h : p ≤ n) : p ≤ skM bt n p ∧ skM bt n p ≤ n := runM_b h
def numF (bt : Nat → Int) (s : Nat) : Nat → Int
  | 0 => 0
  | k + 1 => 10 * numF bt s k + (bt (s + k) - 48)
def numM (bt : Nat → Int) (n s : Nat) : Int := numF bt s (enM bt n s - s)
theorem numF_b {bt : Nat → Int} {s : Nat} : ∀ k : Nat, (∀ i, i < k → isDg (bt (s + i)) = true) → 0 ≤ numF bt s k := by
  intro k
  induction k with
  | zero => intro _; show (0 : Int) ≤ 0; omega
  | succ k ih =>
    intro h
    have h1 := ih (fun i hi => h i (by omega))
    have h2 := isDg_1.mp (h k (by omega))
    show 0 ≤ 10 * numF bt s k + (bt (s + k) - 48)
    omega
theorem num_in {bt : Nat → Int} {n s : Nat} (hk : kdM bt n s = 2) : ∀ i, s + i < enM bt n s → isDg (bt (s + i)) = true := by
  intro i hi
  rcases kd_c bt n s with ⟨e, -⟩ | ⟨e, -⟩ | ⟨-, h1, h2, e⟩ | ⟨e, -⟩
  · omega
  · omega
  · rw [e] at hi; exact runM_in (by omega) hi
  · omega
theorem let_in {bt : Nat → Int} {n s : Nat} (hk : kdM bt n s = 1) : ∀ i, s + i < enM bt n s → isLt (bt (s + i)) = true := by
  intro i hi
  rcases kd_c bt n s with ⟨e, -⟩ | ⟨-, h1, h2, e⟩ | ⟨e, -⟩ | ⟨e, -⟩
  · omega
  · rw [e] at hi; exact runM_in (by omega) hi
  · omega
  · omega
theorem numM_b {bt : Nat → Int} {n s : Nat} (hk : kdM bt n s = 2) : 0 ≤ numM bt n s := numF_b _ (fun i hi => num_in hk i (by omega))
/-! words -/
def wdP (bt : Nat → Int) (n t s : Nat) : Prop := kdM bt n s = 1 ∧ enM bt n s = s + stL t ∧ ∀ i, i < stL t → bt (s + i) = stC t i
def wdD (t t1 : Nat) : Bool := decide (stL t ≠ stL t1) || (List.range (stL t)).any (fun i => decide (stC t i ≠ stC t1 i))
theorem wd_ne {bt : Nat → Int} {n s t t1 : Nat} (h : wdP bt n t s) (hd : wdD t t1 = true) : ¬ wdP bt n t1 s := by
  rintro ⟨-, h2, h3⟩
  obtain ⟨-, h5, h6⟩ := h
  unfold wdD at hd
  rw [Bool.or_eq_true] at hd
  rcases hd with hd | hd
  · have := of_decide_eq_true hd; omega
  · rw [List.any_eq_true] at hd
    obtain ⟨i, hi, hq⟩ := hd
    have h7 := of_decide_eq_true hq
    have h8 := List.mem_range.mp hi
    exact h7 ((h6 i h8).symm.trans (h3 i (by omega)))
/-! states: (code, place of the error, where the token begins) -/
def flP (c : Int) (st : PS) : PS := if st.1 = 0 then (c, (st.2.2 : Int), st.2.2) else st
def adP (bt : Nat → Int) (n : Nat) (st : PS) : PS := if st.1 = 0 then (0, 0, skM bt n (enM bt n st.2.2)) else st
def isW (bt : Nat → Int) (n t : Nat) (st : PS) : Prop := st.1 = 0 ∧ wdP bt n t st.2.2
def isS (bt : Nat → Int) (n : Nat) (c : Int) (st : PS) : Prop := st.1 = 0 ∧ kdM bt n st.2.2 = 3 ∧ bt st.2.2 = c
noncomputable def nsP (bt : Nat → Int) (n : Nat) (c : Int) (st : PS) : PS := adP bt n (selP (isS bt n c st) st (flP 1 st))
def nv (bt : Nat → Int) (n : Nat) (st : PS) : Int := numM bt n st.2.2
def isN (bt : Nat → Int) (n : Nat) (st : PS) : Prop := st.1 = 0 ∧ kdM bt n st.2.2 = 2
noncomputable def nhP (bt : Nat → Int) (n : Nat) (lo hi : Int) (st : PS) : PS := selP (isN bt n st) (selP (lo ≤ nv bt n st ∧ nv bt n st ≤ hi) st (flP 2 st)) (flP 1 st)
noncomputable def tkP (bt : Nat → Int) (n : Nat) (lo hi : Int) (st : PS) : PS := adP bt n (nhP bt n lo hi st)
noncomputable def sg0 (bt : Nat → Int) (n : Nat) (st : PS) : PS := selP (isS bt n 45 st) (adP bt n st) st
noncomputable def sgP (bt : Nat → Int) (n : Nat) (m : Int) (st : PS) : PS := tkP bt n 0 m (sg0 bt n st)
noncomputable def sgV (bt : Nat → Int) (n : Nat) (st : PS) : Int := selP (isS bt n 45 st) (-(nv bt n (sg0 bt n st))) (nv bt n (sg0 bt n st))
theorem flP_e {c : Int} {st : PS} (h : st.1 ≠ 0) : flP c st = st := if_neg h
theorem flP_0 {c : Int} {st : PS} (h : st.1 = 0) : flP c st = (c, (st.2.2 : Int), st.2.2) := if_pos h
theorem adP_e {bt : Nat → Int} {n : Nat} {st : PS} (h : st.1 ≠ 0) : adP bt n st = st := if_neg h
theorem adP_0 {bt : Nat → Int} {n : Nat} {st : PS} (h : st.1 = 0) : adP bt n st = (0, 0, skM bt n (enM bt n st.2.2)) := if_pos h
theorem isW_e {bt : Nat → Int} {n t : Nat} {st : PS} (h : st.1 ≠ 0) : ¬ isW bt n t st := fun q => h q.1
theorem isS_e {bt : Nat → Int} {n : Nat} {c : Int} {st : PS} (h : st.1 ≠ 0) : ¬ isS bt n c st := fun q => h q.1
theorem isN_e {bt : Nat → Int} {n : Nat} {st : PS} (h : st.1 ≠ 0) : ¬ isN bt n st := fun q => h q.1
theorem nsP_e {bt : Nat → Int} {n : Nat} {c : Int} {st : PS} (h : st.1 ≠ 0) : nsP bt n c st = st := by
  unfold nsP; rw [selP_0 (isS_e h), flP_e h, adP_e h]
theorem nhP_e {bt : Nat → Int} {n : Nat} {lo hi : Int} {st : PS} (h : st.1 ≠ 0) : nhP bt n lo hi st = st := by
  unfold nhP; rw [selP_0 (isN_e h), flP_e h]
theorem tkP_e {bt : Nat → Int} {n : Nat} {lo hi : Int} {st : PS} (h : st.1 ≠ 0) : tkP bt n lo hi st = st := by
  unfold tkP; rw [nhP_e h, adP_e h]
theorem sg0_e {bt : Nat → Int} {n : Nat} {st : PS} (h : st.1 ≠ 0) : sg0 bt n st = st := by
  unfold sg0; rw [selP_0 (isS_e h)]
theorem sgP_e {bt : Nat → Int} {n : Nat} {m : Int} {st : PS} (h : st.1 ≠ 0) : sgP bt n m st = st := by
  unfold sgP; rw [sg0_e h, tkP_e h]
/-- what a state that is without an error says of the one before -/
def okL (n : Nat) (st st1 : PS) : Prop := (st.1 = 0 → st.2.2 ≤ n) → (st1.1 = 0 → st.1 = 0 ∧ st.2.2 ≤ st1.2.2 ∧ st1.2.2 ≤ n)
theorem okL.tr {n : Nat} {a b c : PS} (h1 : okL n a b) (h2 : okL n b c) : okL n a c := fun h h3 => by
  have h4 := h2 (fun q => (h1 h q).2.2) h3
  have h5 := h1 h h4.1
  exact ⟨h5.1, by omega, h4.2.2⟩
theorem okL.rf {n : Nat} {a : PS} : okL n a a := fun h h3 => ⟨h3, Nat.le_refl _, h h3⟩
theorem fl_ok {n : Nat} {c : Int} (hc : c ≠ 0) {st : PS} : okL n st (flP c st) := fun h h3 => by
  by_cases e : st.1 = 0
  · rw [flP_0 e] at h3; exact absurd h3 hc
  · rw [flP_e e] at h3; exact absurd h3 e
theorem ad_ok {bt : Nat → Int} {n : Nat} {st : PS} : okL n st (adP bt n st) := fun h h3 => by
  by_cases e : st.1 = 0
  · have h4 := enM_b (bt := bt) (h e)
    have h5 := skM_b (bt := bt) (p := enM bt n st.2.2) h4.2
    rw [adP_0 e]
    exact ⟨e, by show st.2.2 ≤ skM _ _ _; omega, h5.2⟩
  · rw [adP_e e] at h3; exact absurd h3 e
theorem ad_lt {bt : Nat → Int} {n : Nat} {st : PS} (h : st.1 = 0) (hs : st.2.2 < n) : st.2.2 < (adP bt n st).2.2 := by
  have h4 := enM_lt (bt := bt) hs
  have h6 := enM_b (bt := bt) (n := n) (s := st.2.2) (by omega)
  have h5 := skM_b (bt := bt) (p := enM bt n st.2.2) h6.2
  rw [adP_0 h]
  show st.2.2 < skM _ _ _
  omega
theorem sel_ok {n : Nat} {P : Prop} {st a b : PS} (h1 : P → okL n st a) (h2 : ¬ P → okL n st b) : okL n st (selP P a b) := by
  by_cases h : P
  · rw [selP_1 h]; exact h1 h
  · rw [selP_0 h]; exact h2 h
theorem ns_ok {bt : Nat → Int} {n : Nat} {c : Int} {st : PS} : okL n st (nsP bt n c st) := okL.tr (sel_ok (fun _ => okL.rf) (fun _ => fl_ok (by decide))) ad_ok
theorem nh_ok {bt : Nat → Int} {n : Nat} {lo hi : Int} {st : PS} : okL n st (nhP bt n lo hi st) := sel_ok (fun _ => sel_ok (fun _ => okL.rf) (fun _ => fl_ok (by decide))) (fun _ => fl_ok (by decide))
theorem tk_ok {bt : Nat → Int} {n : Nat} {lo hi : Int} {st : PS} : okL n st (tkP bt n lo hi st) := okL.tr nh_ok ad_ok
theorem sg0_ok {bt : Nat → Int} {n : Nat} {st : PS} : okL n st (sg0 bt n st) := sel_ok (fun _ => ad_ok) (fun _ => okL.rf)
theorem sg_ok {bt : Nat → Int} {n : Nat} {m : Int} {st : PS} : okL n st (sgP bt n m st) := okL.tr sg0_ok tk_ok
theorem fl_c {c : Int} {st : PS} (hc : c ≠ 0) : (flP c st).1 ≠ 0 := by
  by_cases e : st.1 = 0
  · rw [flP_0 e]; exact hc
  · rw [flP_e e]; exact e
theorem ad_c {bt : Nat → Int} {n : Nat} {st : PS} : (adP bt n st).1 = 0 ↔ st.1 = 0 := by
  by_cases e : st.1 = 0
  · rw [adP_0 e]; exact ⟨fun _ => e, fun _ => rfl⟩
  · rw [adP_e e]
theorem nh_0 {bt : Nat → Int} {n : Nat} {lo hi : Int} {st : PS} (h : (nhP bt n lo hi st).1 = 0) : isN bt n st ∧ (lo ≤ nv bt n st ∧ nv bt n st ≤ hi) ∧ nhP bt n lo hi st = st := by
  unfold nhP at h ⊢
  by_cases h1 : isN bt n st
  · rw [selP_1 h1] at h ⊢
    by_cases h2 : lo ≤ nv bt n st ∧ nv bt n st ≤ hi
    · rw [selP_1 h2] at h ⊢; exact ⟨h1, h2, rfl⟩
    · rw [selP_0 h2] at h; exact absurd h (fl_c (by decide))
  · rw [selP_0 h1] at h; exact absurd h (fl_c (by decide))
theorem tk_0 {bt : Nat → Int} {n : Nat} {lo hi : Int} {st : PS} (h : (tkP bt n lo hi st).1 = 0) : lo ≤ nv bt n st ∧ nv bt n st ≤ hi := (nh_0 (ad_c.mp h)).2.1
theorem sg_0 {bt : Nat → Int} {n : Nat} {m : Int} {st : PS} (h : (sgP bt n m st).1 = 0) : -m ≤ sgV bt n st ∧ sgV bt n st ≤ m := by
  have h1 := tk_0 h
  unfold sgV
  by_cases h2 : isS bt n 45 st
  · rw [selP_1 h2]; omega
  · rw [selP_0 h2]; omega
/-! names -/
def nmG (f : Nat → Int) : Nat → Int
  | 0 => 0
  | k + 1 => 27 * nmG f k + (f k - 96)
theorem nmG_b {f : Nat → Int} : ∀ k : Nat, (∀ i, i < k → 97 ≤ f i ∧ f i ≤ 122) → 0 ≤ nmG f k ∧ (0 < k → 0 < nmG f k) := by
  intro k
  induction k with
  | zero => intro _; exact ⟨by show (0 : Int) ≤ 0; omega, fun h => absurd h (by omega)⟩
  | succ k ih =>
    intro h
    have h1 := ih (fun i hi => h i (by omega))
    have h2 := h k (by omega)
    show 0 ≤ 27 * nmG f k + (f k - 96) ∧ (0 < k + 1 → 0 < 27 * nmG f k + (f k - 96))
    exact ⟨by omega, fun _ => by omega⟩
theorem nmG_inj {f h : Nat → Int} : ∀ k m : Nat, (∀ i, i < k → 97 ≤ f i ∧ f i ≤ 122) → (∀ i, i < m → 97 ≤ h i ∧ h i ≤ 122) → nmG f k = nmG h m → k = m ∧ ∀ i, i < k → f i = h i := by
  intro k
  induction k with
  | zero =>
    intro m _ hm e
    cases m with
    | zero => exact ⟨rfl, fun i hi => absurd hi (by omega)⟩
    | succ m => have := (nmG_b (f := h) (m + 1) hm).2 (by omega); rw [← e] at this; exact absurd this (by show ¬ (0 : Int) < 0; omega)
  | succ k ih =>
    intro m hk hm e
    cases m with
    | zero => have := (nmG_b (f := f) (k + 1) hk).2 (by omega); rw [e] at this; exact absurd this (by show ¬ (0 : Int) < 0; omega)
    | succ m =>
      have e2 : 27 * nmG f k + (f k - 96) = 27 * nmG h m + (h m - 96) := e
      have h1 := hk k (by omega)
      have h2 := hm m (by omega)
      obtain ⟨h3, h4⟩ := ih m (fun i hi => hk i (by omega)) (fun i hi => hm i (by omega)) (by omega)
      subst h3
      refine ⟨rfl, fun i hi => ?_⟩
      by_cases hq : i = k
      · subst hq; omega
      · exact h4 i (by omega)
theorem nmG_congr {f h : Nat → Int} : ∀ k : Nat, (∀ i, i < k → f i = h i) → nmG f k = nmG h k := by
  intro k
  induction k with
  | zero => intro _; rfl
  | succ k ih =>
    intro hq
    show 27 * nmG f k + (f k - 96) = 27 * nmG h k + (h k - 96)
    rw [ih (fun i hi => hq i (by omega)), hq k (by omega)]
theorem nmG_up {f : Nat → Int} : ∀ k : Nat, k ≤ 8 → (∀ i, i < k → 97 ≤ f i ∧ f i ≤ 122) → nmG f k ≤ 282429536480 ∧ (k < 8 → nmG f k ≤ 10460353202) ∧ (k < 7 → nmG f k ≤ 387420488) ∧ (k < 6 → nmG f k ≤ 14348906) ∧ (k < 5 → nmG f k ≤ 531440) ∧ (k < 4 → nmG f k ≤ 19682) ∧ (k < 3 → nmG f k ≤ 728) ∧ (k < 2 → nmG f k ≤ 26) ∧ (k < 1 → nmG f k ≤ 0) := by
  intro k
  induction k with
  | zero => intro _ _; have e : nmG f 0 = 0 := rfl; rw [e]; omega
  | succ k ih =>
    intro hk hq
    have h1 := ih (by omega) (fun i hi => hq i (by omega))
    have h2 := hq k (by omega)
    have e : nmG f (k + 1) = 27 * nmG f k + (f k - 96) := rfl
    rw [e]; omega
def nmM (bt : Nat → Int) (n s : Nat) : Int := nmG (fun i => bt (s + i)) (enM bt n s - s)
def bdF (D : Nat → Int) (x : Int) : Nat → Int
  | 0 => -1
  | k + 1 => if bdF D x k = -1 ∧ D (12 + 4 * k) = x then (k : Int) else bdF D x k
theorem bdF_b (D : Nat → Int) (x : Int) : ∀ k : Nat, -1 ≤ bdF D x k ∧ bdF D x k < k := by
  intro k
  induction k with
  | zero => show -1 ≤ (-1 : Int) ∧ (-1 : Int) < ((0 : Nat) : Int); omega
  | succ k ih =>
    show -1 ≤ (if _ then _ else _) ∧ (if bdF D x k = -1 ∧ D (12 + 4 * k) = x then (k : Int) else bdF D x k) < ((k + 1 : Nat) : Int)
    split <;> omega
theorem bdF_st {D : Nat → Int} {x : Int} {k : Nat} (h : bdF D x k ≠ -1) : ∀ j : Nat, bdF D x (k + j) = bdF D x k := by
  intro j
  induction j with
  | zero => rfl
  | succ j ih =>
    show (if bdF D x (k + j) = -1 ∧ _ then _ else bdF D x (k + j)) = _
    rw [if_neg (fun q => h (ih ▸ q.1)), ih]
def isNm (bt : Nat → Int) (n : Nat) (st : PS) : Prop := st.1 = 0 ∧ kdM bt n st.2.2 = 1 ∧ enM bt n st.2.2 ≤ st.2.2 + 8
noncomputable def bdM (bt : Nat → Int) (n : Nat) (D : Nat → Int) (st : PS) : Int := selP (isNm bt n st) (bdF D (nmM bt n st.2.2) (D 0).toNat) (-1)
/-! clauses -/
def bodyD (D : Nat → Int) (decl ang len nm : Int) : Nat → Int := fun j => if j = 0 then D 0 + 1 else if j = 9 + 4 * (D 0).toNat then decl else if j = 10 + 4 * (D 0).toNat then ang else if j = 11 + 4 * (D 0).toNat then len else if j = 12 + 4 * (D 0).toNat then nm else D j
noncomputable def bdB (bt : Nat → Int) (n : Nat) (D : Nat → Int) (a : PS) : PS := selP (isNm bt n a) (selP (bdM bt n D a = -1) a (flP 4 a)) (flP 1 a)
noncomputable def clBodyS (bt : Nat → Int) (n : Nat) (D : Nat → Int) (st : PS) : PS := selP (6 ≤ D 0) (flP 3 st) (tkP bt n 0 21599 (sgP bt n 3600 (adP bt n (bdB bt n D (adP bt n st)))))
noncomputable def clBodyD (bt : Nat → Int) (n : Nat) (D : Nat → Int) (st : PS) : Nat → Int := bodyD D (sgV bt n (adP bt n (bdB bt n D (adP bt n st)))) (nv bt n (sgP bt n 3600 (adP bt n (bdB bt n D (adP bt n st))))) ((enM bt n (adP bt n st).2.2 : Int) - ((adP bt n st).2.2 : Int)) (nmM bt n (adP bt n st).2.2)
noncomputable def lgB (bt : Nat → Int) (n : Nat) (D : Nat → Int) (a : PS) : PS := selP ((nhP bt n 0 5000 a).1 = 0 ∧ nv bt n a ≤ lastM D) (flP 5 (nhP bt n 0 5000 a)) (nhP bt n 0 5000 a)
noncomputable def clLegS (bt : Nat → Int) (n : Nat) (D : Nat → Int) (st : PS) : PS := selP (8 ≤ D 1) (flP 3 st) (tkP bt n 0 400 (tkP bt n 0 21599 (adP bt n (lgB bt n D (adP bt n st)))))
noncomputable def clLegD (bt : Nat → Int) (n : Nat) (D : Nat → Int) (st : PS) : Nat → Int := addLegM D (nv bt n (adP bt n st)) (nv bt n (adP bt n (lgB bt n D (adP bt n st)))) (nv bt n (tkP bt n 0 21599 (adP bt n (lgB bt n D (adP bt n st)))))
noncomputable def sgB (bt : Nat → Int) (n : Nat) (D : Nat → Int) (a : PS) : PS := selP (a.1 = 0 ∧ kdM bt n a.2.2 = 1) (selP (bdM bt n D a = -1) (flP 4 a) a) (flP 1 a)
noncomputable def clSightS (bt : Nat → Int) (n : Nat) (D : Nat → Int) (st : PS) : PS := selP (12 ≤ D 2) (flP 3 st) (tkP bt n 300 5100 (tkP bt n 0 5000 (adP bt n (sgB bt n D (adP bt n st)))))
noncomputable def clSightD (bt : Nat → Int) (n : Nat) (D : Nat → Int) (st : PS) : Nat → Int := addSightM D (bdM bt n D (adP bt n st)) (nv bt n (adP bt n (sgB bt n D (adP bt n st)))) (nv bt n (tkP bt n 0 5000 (adP bt n (sgB bt n D (adP bt n st)))))
noncomputable def clS0 (bt : Nat → Int) (n : Nat) (D : Nat → Int) (st : PS) : PS :=
  selP (isW bt n 1 st) (sgP bt n 10799 (sgP bt n 3600 (adP bt n st)))
  (selP (isW bt n 2 st) (tkP bt n 0 50 (adP bt n st))
  (selP (isW bt n 3 st) (sgP bt n 60 (adP bt n st))
  (selP (isW bt n 4 st) (tkP bt n 0 100 (tkP bt n 0 21599 (adP bt n st)))
  (selP (isW bt n 5 st) (clBodyS bt n D st)
  (selP (isW bt n 6 st) (clLegS bt n D st)
  (selP (isW bt n 7 st) (clSightS bt n D st) (flP 1 st)))))))
noncomputable def clS (bt : Nat → Int) (n : Nat) (D : Nat → Int) (st : PS) : PS := nsP bt n 59 (clS0 bt n D st)
noncomputable def clD (bt : Nat → Int) (n : Nat) (D : Nat → Int) (st : PS) : Nat → Int :=
  selP (isW bt n 1 st) (setM D 3 (sgV bt n (adP bt n st)) 4 (sgV bt n (sgP bt n 3600 (adP bt n st))))
  (selP (isW bt n 2 st) (kup D 5 (nv bt n (adP bt n st)))
  (selP (isW bt n 3 st) (kup D 6 (sgV bt n (adP bt n st)))
  (selP (isW bt n 4 st) (setM D 7 (nv bt n (adP bt n st)) 8 (nv bt n (tkP bt n 0 21599 (adP bt n st))))
  (selP (isW bt n 5 st) (clBodyD bt n D st)
  (selP (isW bt n 6 st) (clLegD bt n D st)
  (selP (isW bt n 7 st) (clSightD bt n D st) D))))))
def goP (bt : Nat → Int) (n : Nat) (st : PS) : Prop := st.1 = 0 ∧ kdM bt n st.2.2 ≠ 0
noncomputable def txN (bt : Nat → Int) (n : Nat) : Nat → PS × (Nat → Int) → PS × (Nat → Int)
  | 0, x => x
  | k + 1, x => selP (goP bt n x.1) (txN bt n k (clS bt n x.2 x.1, clD bt n x.2 x.1)) x
theorem txN_st {bt : Nat → Int} {n : Nat} {x : PS × (Nat → Int)} (h : ¬ goP bt n x.1) : ∀ k : Nat, txN bt n k x = x := by
  intro k
  cases k with
  | zero => rfl
  | succ k => exact selP_0 h
theorem txN_det {bt : Nat → Int} {n : Nat} : ∀ (k : Nat) (x : PS × (Nat → Int)), ¬ goP bt n (txN bt n k x).1 → ∀ j : Nat, txN bt n (k + j) x = txN bt n k x := by
  intro k
  induction k with
  | zero => intro x h j; rw [Nat.zero_add]; exact txN_st h j
  | succ k ih =>
    intro x h j
    by_cases hg : goP bt n x.1
    · have e : ∀ i, txN bt n (i + 1) x = txN bt n i (clS bt n x.2 x.1, clD bt n x.2 x.1) := fun i => selP_1 hg
      rw [show k + 1 + j = (k + j) + 1 by omega, e, e]
      rw [e] at h
      exact ih _ h j
    · rw [txN_st hg, txN_st hg]
theorem txN_eq {bt : Nat → Int} {n k m : Nat} {x : PS × (Nat → Int)} (h1 : ¬ goP bt n (txN bt n k x).1) (h2 : ¬ goP bt n (txN bt n m x).1) : txN bt n k x = txN bt n m x := by
  rw [← txN_det k x h1 m, ← txN_det m x h2 k, Nat.add_comm]
theorem txN_go {bt : Nat → Int} {n : Nat} : ∀ (k : Nat) (x : PS × (Nat → Int)), goP bt n (txN bt n k x).1 → txN bt n (k + 1) x = (clS bt n (txN bt n k x).2 (txN bt n k x).1, clD bt n (txN bt n k x).2 (txN bt n k x).1) := by
  intro k
  induction k with
  | zero => intro x h; exact selP_1 h
  | succ k ih =>
    intro x h
    by_cases hg : goP bt n x.1
    · have e : ∀ i, txN bt n (i + 1) x = txN bt n i (clS bt n x.2 x.1, clD bt n x.2 x.1) := fun i => selP_1 hg
      rw [e (k + 1), e k]
      rw [e k] at h
      exact ih _ h
    · rw [txN_st hg] at h; exact absurd h hg
theorem ad_go {bt : Nat → Int} {n : Nat} {st : PS} (h : goP bt n st) : st.2.2 < (adP bt n st).2.2 := by
  refine ad_lt h.1 ?_
  rcases kd_c bt n st.2.2 with ⟨e, -⟩ | ⟨-, e, -⟩ | ⟨-, e, -⟩ | ⟨-, e, -⟩
  · exact absurd e h.2
  · exact e
  · exact e
  · exact e
theorem isW_go {bt : Nat → Int} {n t : Nat} {st : PS} (h : isW bt n t st) : goP bt n st := ⟨h.1, by rw [h.2.1]; decide⟩
theorem bdB_ok {bt : Nat → Int} {n : Nat} {D : Nat → Int} {a : PS} : okL n a (bdB bt n D a) := sel_ok (fun _ => sel_ok (fun _ => okL.rf) (fun _ => fl_ok (by decide))) (fun _ => fl_ok (by decide))
theorem sgB_ok {bt : Nat → Int} {n : Nat} {D : Nat → Int} {a : PS} : okL n a (sgB bt n D a) := sel_ok (fun _ => sel_ok (fun _ => fl_ok (by decide)) (fun _ => okL.rf)) (fun _ => fl_ok (by decide))
theorem lgB_ok {bt : Nat → Int} {n : Nat} {D : Nat → Int} {a : PS} : okL n a (lgB bt n D a) := sel_ok (fun _ => nh_ok.tr (fl_ok (by decide))) (fun _ => nh_ok)
/-- a clause that goes well goes on -/
theorem cl0_ok {bt : Nat → Int} {n : Nat} {D : Nat → Int} {st : PS} (hs : st.1 = 0 → st.2.2 ≤ n) (h : (clS0 bt n D st).1 = 0) : st.1 = 0 ∧ st.2.2 < (clS0 bt n D st).2.2 ∧ (clS0 bt n D st).2.2 ≤ n := by
  have key : ∀ (t : Nat) (x : PS), isW bt n t st → okL n (adP bt n st) x → x.1 = 0 → st.1 = 0 ∧ st.2.2 < x.2.2 ∧ x.2.2 ≤ n := fun t x hw hx h1 => by
    have h2 := ad_go (isW_go hw)
    have h3 := ad_ok (bt := bt) (st := st) hs (ad_c.mpr hw.1)
    have h4 := hx (fun _ => h3.2.2) h1
    exact ⟨hw.1, by omega, h4.2.2⟩
  have bad : ∀ c : Int, c ≠ 0 → ¬ (flP c st).1 = 0 := fun c hc => fl_c hc
  unfold clS0 at h ⊢
  by_cases w1 : isW bt n 1 st
  · rw [selP_1 w1] at h ⊢; exact key 1 _ w1 (sg_ok.tr sg_ok) h
  rw [selP_0 w1] at h ⊢
  by_cases w2 : isW bt n 2 st
  · rw [selP_1 w2] at h ⊢; exact key 2 _ w2 tk_ok h
  rw [selP_0 w2] at h ⊢
  by_cases w3 : isW bt n 3 st
  · rw [selP_1 w3] at h ⊢; exact key 3 _ w3 sg_ok h
  rw [selP_0 w3] at h ⊢
  by_cases w4 : isW bt n 4 st
  · rw [selP_1 w4] at h ⊢; exact key 4 _ w4 (tk_ok.tr tk_ok) h
  rw [selP_0 w4] at h ⊢
  by_cases w5 : isW bt n 5 st
  · rw [selP_1 w5] at h ⊢
    unfold clBodyS at h ⊢
    by_cases q : 6 ≤ D 0
    · rw [selP_1 q] at h; exact absurd h (bad 3 (by decide))
    · rw [selP_0 q] at h ⊢; exact key 5 _ w5 (bdB_ok.tr (ad_ok.tr (sg_ok.tr tk_ok))) h
  rw [selP_0 w5] at h ⊢
  by_cases w6 : isW bt n 6 st
  · rw [selP_1 w6] at h ⊢
    unfold clLegS at h ⊢
    by_cases q : 8 ≤ D 1
    · rw [selP_1 q] at h; exact absurd h (bad 3 (by decide))
    · rw [selP_0 q] at h ⊢; exact key 6 _ w6 (lgB_ok.tr (ad_ok.tr (tk_ok.tr tk_ok))) h
  rw [selP_0 w6] at h ⊢
  by_cases w7 : isW bt n 7 st
  · rw [selP_1 w7] at h ⊢
    unfold clSightS at h ⊢
    by_cases q : 12 ≤ D 2
    · rw [selP_1 q] at h; exact absurd h (bad 3 (by decide))
    · rw [selP_0 q] at h ⊢; exact key 7 _ w7 (sgB_ok.tr (ad_ok.tr (tk_ok.tr tk_ok))) h
  rw [selP_0 w7] at h
  exact absurd h (bad 1 (by decide))
theorem cl_ok {bt : Nat → Int} {n : Nat} {D : Nat → Int} {st : PS} (hs : st.1 = 0 → st.2.2 ≤ n) (h : (clS bt n D st).1 = 0) : st.1 = 0 ∧ st.2.2 < (clS bt n D st).2.2 ∧ (clS bt n D st).2.2 ≤ n := by
  have h0 : (clS0 bt n D st).1 = 0 → st.1 = 0 ∧ st.2.2 < (clS0 bt n D st).2.2 ∧ (clS0 bt n D st).2.2 ≤ n := cl0_ok hs
  have h1 := ns_ok (bt := bt) (c := 59) (st := clS0 bt n D st) (fun q => (h0 q).2.2) h
  have h2 := h0 h1.1
  exact ⟨h2.1, by have := h1.2.1; unfold clS; omega, h1.2.2⟩
