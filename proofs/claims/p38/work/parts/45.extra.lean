theorem isW_ne {bt : Nat → Int} {n t t1 : Nat} {st : PS} (h : isW bt n t st) (hd : wdD t t1 = true) : ¬ isW bt n t1 st := fun q => wd_ne h.2 hd q.2
theorem enM_lt9 {bt : Nat → Int} {n s : Nat} (h : kdM bt n s ≠ 0) : s < n := by
  rcases kd_c bt n s with ⟨e, -⟩ | ⟨-, e, -⟩ | ⟨-, e, -⟩ | ⟨-, e, -⟩
  · exact absurd e h
  · exact e
  · exact e
  · exact e
noncomputable def pV (g : Nat → Int) (p : Int) (i : Nat) : Int := if p = 0 then (i : Int) else if p = 1 then g (57 + 3 * i) else if p = 2 then g (58 + 3 * i) else if p = 3 then obsM g i else if p = 4 then expM g i else if p = 5 then aziM g i else ((intM g i).natAbs : Int)
theorem pV_b {g : Nat → Int} (hI : Inv g) {p : Int} {i : Nat} (hi : (i : Int) < g 2) : -100000 ≤ pV g p i ∧ pV g p i ≤ 100000 := by
  have h0 := hI.c
  have h1 := hI.sight i hi
  have h2 := obsM_b hI i hi
  have h3 := expM_b g i
  have h4 := aziM_b g i
  have h5 := intM_b hI i hi
  unfold pV; repeat (first | omega | split)
theorem qF_z {V : Int → Nat → Int} {bt : Nat → Int} {n : Nat} {st : PS} (h : isW bt n 31 st ∨ isS bt n 40 st) : qF V bt n 0 st = (flP 3 st, [], fun _ => false) := selP_1 h
theorem qF_n {V : Int → Nat → Int} {bt : Nat → Int} {n d : Nat} {st : PS} (h : isW bt n 31 st) : qF V bt n (d + 1) st = notR (qF V bt n d (adP bt n st)) := selP_1 h
theorem qF_p {V : Int → Nat → Int} {bt : Nat → Int} {n d : Nat} {st : PS} (h : ¬ isW bt n 31 st) (h2 : isS bt n 40 st) : qF V bt n (d + 1) st = parR bt n (tstM bt n (qF V bt n d) (adP bt n st)) := (selP_0 h).trans (selP_1 h2)
theorem qF_c {V : Int → Nat → Int} {bt : Nat → Int} {n : Nat} (d : Nat) {st : PS} (h : ¬ isW bt n 31 st) (h2 : ¬ isS bt n 40 st) : qF V bt n d st = cmpM V bt n st := by
  cases d with
  | zero => exact selP_0 (fun q => q.elim h h2)
  | succ d => exact (selP_0 h).trans (selP_0 h2)
def ctF (h : Nat → Bool) : Nat → Int
  | 0 => 0
  | k + 1 => if h k = true then ctF h k + 1 else ctF h k
def fiF (h : Nat → Bool) : Nat → Int
  | 0 => -1
  | k + 1 => if fiF h k = -1 ∧ h k = true then (k : Int) else fiF h k
noncomputable def qyV (V : Int → Nat → Int) (bt : Nat → Int) (n N : Nat) : Int := selI ((qyS V bt n).1 = 0) (selI (isW bt n 30 (tx0 bt n)) (fiF (qyR V bt n).2.2 N) (ctF (qyR V bt n).2.2 N)) (-1000000000 - (qyS V bt n).1)
