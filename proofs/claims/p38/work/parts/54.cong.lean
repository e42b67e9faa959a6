/-! what counts alike gives the same numbers -/
theorem gE.n {g h : Nat → Int} (e : gE g h) (j : Nat) (hj : j < 9) : g j = h j := e.1 j hj
theorem gE_legS {g h : Nat → Int} (e : gE g h) (t : Int) (no : Bool) : ∀ n : Nat, (n : Int) ≤ g 1 → legS g t no n = legS h t no n := by
  intro n
  induction n with
  | zero => intro _; rfl
  | succ n ih =>
    intro hn
    have h1 := e.leg (k := n) (by omega)
    have h0 := e.n 1 (by decide)
    have hu : legU g t n = legU h t n := by
      unfold legU
      rw [← h0]
      by_cases q : (n : Int) + 1 < g 1
      · have h2 := (e.leg (k := n + 1) (by omega)).1
        rw [show 33 + 3 * (n + 1) = 36 + 3 * n by omega] at h2
        rw [if_pos q, if_pos q, h2]
      · rw [if_neg q, if_neg q]
    show legS g t no n + legP g t no n = legS h t no n + legP h t no n
    rw [ih (by omega)]
    unfold legP
    rw [hu, h1.1, h1.2.1, h1.2.2]
theorem gE.disp {g h : Nat → Int} (e : gE g h) (hI : Inv g) (t : Int) (no : Bool) : dispM g t no = dispM h t no := by
  have h0 := hI.c
  unfold dispM
  rw [gE_legS e t no (g 1).toNat (by omega), e.n 1 (by decide), e.n 7 (by decide), e.n 8 (by decide)]
theorem gE.lat {g h : Nat → Int} (e : gE g h) (hI : Inv g) (t : Int) : latM g t = latM h t := by
  unfold latM; rw [e.n 3 (by decide), e.disp hI]
theorem gE.lon {g h : Nat → Int} (e : gE g h) (hI : Inv g) (t : Int) : lonT g t = lonT h t := by
  unfold lonT; rw [e.n 3 (by decide), e.n 4 (by decide), e.disp hI]
theorem gE.dip {g h : Nat → Int} (e : gE g h) : dipM g = dipM h := by unfold dipM; rw [e.n 5 (by decide)]
theorem gE.ap {g h : Nat → Int} (e : gE g h) {i : Nat} (hi : (i : Int) < g 2) : apM g i = apM h i := by
  unfold apM; rw [(e.sight hi).2.2, e.n 6 (by decide), e.dip]
theorem gE.obs {g h : Nat → Int} (e : gE g h) {i : Nat} (hi : (i : Int) < g 2) : obsM g i = obsM h i := by unfold obsM; rw [e.ap hi]
theorem gE.bodyOf {g h : Nat → Int} (e : gE g h) (hI : Inv g) {i : Nat} (hi : (i : Int) < g 2) : decM g i = decM h i ∧ angM g i = angM h i := by
  have h1 := e.sight hi
  have h2 := hI.sight i hi
  have h3 := e.body (k := (g (57 + 3 * i)).toNat) (by omega)
  unfold decM angM
  rw [← h1.1, ← h1.2.1, h3.1, h3.2.1, e.lon hI]
  exact ⟨rfl, rfl⟩
theorem gE.exp {g h : Nat → Int} (e : gE g h) (hI : Inv g) {i : Nat} (hi : (i : Int) < g 2) : expM g i = expM h i := by
  unfold expM; rw [(e.bodyOf hI hi).1, (e.bodyOf hI hi).2, (e.sight hi).2.1, e.lat hI]
theorem gE.azi {g h : Nat → Int} (e : gE g h) (hI : Inv g) {i : Nat} (hi : (i : Int) < g 2) : aziM g i = aziM h i := by
  unfold aziM; rw [(e.bodyOf hI hi).1, (e.bodyOf hI hi).2, e.exp hI hi, (e.sight hi).2.1, e.lat hI]
theorem gE.int {g h : Nat → Int} (e : gE g h) (hI : Inv g) {i : Nat} (hi : (i : Int) < g 2) : intM g i = intM h i := by
  unfold intM; rw [e.obs hi, e.exp hI hi]
theorem gE.off {g h : Nat → Int} (e : gE g h) (hI : Inv g) {i : Nat} (hi : (i : Int) < g 2) : offM g i = offM h i := by
  unfold offM; rw [(e.sight hi).2.1, e.lon hI, e.lat hI, e.azi hI hi, e.int hI hi, e.n 3 (by decide), e.n 4 (by decide)]
theorem gE.car {g h : Nat → Int} (e : gE g h) (hI : Inv g) {i : Nat} (hi : (i : Int) < g 2) (t : Int) : carM g i t = carM h i t := by
  unfold carM; rw [e.off hI hi, (e.sight hi).2.1, e.disp hI, e.disp hI, e.disp hI, e.disp hI, e.azi hI hi]
theorem gE_pV {g h : Nat → Int} (e : gE g h) (hI : Inv g) {i : Nat} (hi : (i : Int) < g 2) (p : Int) : pV g p i = pV h p i := by
  unfold pV; rw [(e.sight hi).1, (e.sight hi).2.1, e.obs hi, e.exp hI hi, e.azi hI hi, e.int hI hi]
