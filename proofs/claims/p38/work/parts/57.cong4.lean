/-! alike gives alike: counts, hats, worst, means -/
theorem gE_cntM {g h : Nat → Int} (e : gE g h) (b : Int) : ∀ n : Nat, (n : Int) ≤ g 2 → cntM g b n = cntM h b n := by
  intro n
  induction n with
  | zero => intro _; rfl
  | succ n ih =>
    intro hn
    show cntM g b n + (if g (57 + 3 * n) = b then 1 else 0) = cntM h b n + (if h (57 + 3 * n) = b then 1 else 0)
    rw [ih (by omega), (e.sight (k := n) (by omega)).1]
theorem gE_bodyV {g h : Nat → Int} (e : gE g h) (hI : Inv g) {b : Nat} (hb : (b : Int) < g 0) (q : Int) : bodyV g b q = bodyV h b q := by
  have h0 := hI.c
  unfold bodyV
  rw [(e.body hb).1, (e.body hb).2.1, (e.body hb).2.2, gE_cntM e b _ (by omega), e.n 2 (by decide)]
theorem gE_crsV {g h : Nat → Int} (e : gE g h) (hI : Inv g) {i j : Nat} (hi : (i : Int) < g 2) (hj : (j : Int) < g 2) (T no : Int) : crsV g i j T no = crsV h i j T no := by
  unfold crsV; rw [(e.cr hI hi hj T).1, (e.cr hI hi hj T).2, e.azi hI hi, e.azi hI hj]
theorem gE_hatV {g h : Nat → Int} (e : gE g h) (hI : Inv g) {i j k : Nat} (hi : (i : Int) < g 2) (hj : (j : Int) < g 2) (hk : (k : Int) < g 2) (T q : Int) : hatV g i j k T q = hatV h i j k T q := by
  unfold hatV; rw [gE_hatP e hI hi hj hk, gE_hatA e hI hi hj hk T, (e.cr hI hi hj T).1, (e.cr hI hi hj T).2, (e.cr hI hi hk T).1, (e.cr hI hi hk T).2, (e.cr hI hj hk T).1, (e.cr hI hj hk T).2]
theorem gE_insV {g h : Nat → Int} (e : gE g h) (hI : Inv g) {i j k : Nat} (hi : (i : Int) < g 2) (hj : (j : Int) < g 2) (hk : (k : Int) < g 2) (T x y : Int) : insV g i j k T x y = insV h i j k T x y := by
  unfold insV; rw [gE_hatP e hI hi hj hk, (e.cr hI hi hj T).1, (e.cr hI hi hj T).2, (e.cr hI hi hk T).1, (e.cr hI hi hk T).2, (e.cr hI hj hk T).1, (e.cr hI hj hk T).2]
theorem gE_worS {g h : Nat → Int} (e : gE g h) (hI : Inv g) (T : Int) : ∀ n : Nat, (n : Int) ≤ g 2 → worS g T n = worS h T n := by
  intro n
  induction n with
  | zero => intro _; rfl
  | succ n ih =>
    intro hn
    show (if (worS g T n).2 < ((resM g T n).natAbs : Int) then ((n : Int), ((resM g T n).natAbs : Int)) else worS g T n) = (if (worS h T n).2 < ((resM h T n).natAbs : Int) then ((n : Int), ((resM h T n).natAbs : Int)) else worS h T n)
    rw [ih (by omega), e.res hI T (k := n) (by omega)]
theorem gE_worV {g h : Nat → Int} (e : gE g h) (hI : Inv g) (T : Int) : worV g T = worV h T := by
  have h0 := hI.c
  unfold worV; rw [gE_fixP e hI, gE_worS e hI T _ (by omega), e.n 2 (by decide)]
theorem gE_mrV {g h : Nat → Int} (e : gE g h) (hI : Inv g) (T : Int) : mrV g T = mrV h T := by
  have h0 := hI.c
  have s : sumR g T (g 2).toNat = sumR h T (g 2).toNat := sumF_c _ (fun k hk => by rw [e.res hI T (k := k) (by omega)])
  unfold mrV; rw [s, gE_fixP e hI, e.n 2 (by decide)]
theorem gE_miV {g h : Nat → Int} (e : gE g h) (hI : Inv g) : miV g = miV h := by
  have h0 := hI.c
  have s : sumI g (g 2).toNat = sumI h (g 2).toNat := sumF_c _ (fun k hk => by rw [e.int hI (i := k) (by omega)])
  unfold miV; rw [s, e.n 2 (by decide)]
theorem gE_lhS {g h : Nat → Int} (e : gE g h) (hI : Inv g) {i j k : Nat} (hi : (i : Int) < g 2) (hj : (j : Int) < g 2) (hk : (k : Int) < g 2) (T : Int) (q : Int × Int) : lhS g T i j k q = lhS h T i j k q := by
  unfold lhS; rw [gE_hatP e hI hi hj hk, gE_hatA e hI hi hj hk T]
theorem gE_lh3 {g h : Nat → Int} (e : gE g h) (hI : Inv g) {i j k0 : Nat} (hi : (i : Int) < g 2) (hj : (j : Int) < g 2) (T : Int) (q : Int × Int) : ∀ n : Nat, ((k0 + n : Nat) : Int) ≤ g 2 → lh3 g T i j k0 n q = lh3 h T i j k0 n q := by
  intro n
  induction n with
  | zero => intro _; rfl
  | succ n ih =>
    intro hn
    show lhS g T i j (k0 + n) (lh3 g T i j k0 n q) = lhS h T i j (k0 + n) (lh3 h T i j k0 n q)
    rw [ih (by omega), gE_lhS e hI hi hj (by omega)]
theorem gE_lh2 {g h : Nat → Int} (e : gE g h) (hI : Inv g) {cnt i j0 : Nat} (hc : (cnt : Int) ≤ g 2) (hi : (i : Int) < g 2) (T : Int) (q : Int × Int) : ∀ n : Nat, j0 + n ≤ cnt → lh2 g T cnt i j0 n q = lh2 h T cnt i j0 n q := by
  intro n
  induction n with
  | zero => intro _; rfl
  | succ n ih =>
    intro hn
    show lh3 g T i (j0 + n) (j0 + n + 1) (cnt - (j0 + n + 1)) (lh2 g T cnt i j0 n q) = lh3 h T i (j0 + n) (j0 + n + 1) (cnt - (j0 + n + 1)) (lh2 h T cnt i j0 n q)
    rw [ih (by omega), gE_lh3 e hI hi (by omega) T _ _ (by omega)]
theorem gE_lh1 {g h : Nat → Int} (e : gE g h) (hI : Inv g) {cnt : Nat} (hc : (cnt : Int) ≤ g 2) (T : Int) (q : Int × Int) : ∀ n : Nat, n ≤ cnt → lh1 g T cnt n q = lh1 h T cnt n q := by
  intro n
  induction n with
  | zero => intro _; rfl
  | succ n ih =>
    intro hn
    show lh2 g T cnt n (n + 1) (cnt - (n + 1)) (lh1 g T cnt n q) = lh2 h T cnt n (n + 1) (cnt - (n + 1)) (lh1 h T cnt n q)
    rw [ih (by omega), gE_lh2 e hI hc (by omega) T _ _ (by omega)]
theorem gE_leastM {g h : Nat → Int} (e : gE g h) (hI : Inv g) (T : Int) : leastM g T = leastM h T := by
  have h0 := hI.c
  unfold leastM; rw [gE_lh1 e hI (by omega) T _ _ (Nat.le_refl _), e.n 2 (by decide)]
