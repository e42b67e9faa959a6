/-! the class's reading of a query: the same states, masks instead of codes -/
noncomputable def vlW (V : Int → Nat → Int) (bt : Nat → Int) (n : Nat) (st : PS) (i : Nat) : Int := selI (pcM bt n st = -1) (nhV bt n 0 99999 st) (V (pcM bt n st) i)
noncomputable def cmpW (V : Int → Nat → Int) (bt : Nat → Int) (n : Nat) (st : PS) (i : Nat) : Bool := cmpH (selI (isS bt n 60 (vlS bt n st)) (-20) (selI (isS bt n 62 (vlS bt n st)) (-22) (-21))) (vlW V bt n st i) (vlW V bt n (opS bt n (vlS bt n st)) i)
noncomputable def cmpG (V : Int → Nat → Int) (bt : Nat → Int) (n : Nat) (st : PS) : QR := (vlS bt n (opS bt n (vlS bt n st)), [], cmpW V bt n st)
noncomputable def qG (V : Int → Nat → Int) (bt : Nat → Int) (n : Nat) : Nat → PS → QR
  | 0, st => selP (isW bt n 31 st ∨ isS bt n 40 st) (flP 3 st, [], fun _ => false) (cmpG V bt n st)
  | d + 1, st => selP (isW bt n 31 st) (notR (qG V bt n d (adP bt n st))) (selP (isS bt n 40 st) (parR bt n (tstM bt n (qG V bt n d) (adP bt n st))) (cmpG V bt n st))
/-- the same state, and the same sights where there is no error -/
def relR (r r1 : QR) : Prop := r.1 = r1.1 ∧ (r.1.1 = 0 → ∀ i, r.2.2 i = r1.2.2 i)
theorem vl_e0 {bt : Nat → Int} {n : Nat} {st : PS} (h : (vlS bt n st).1 = 0) : st.1 = 0 ∧ (pcM bt n st = -1 → (nhP bt n 0 99999 st).1 = 0) := by
  have h0 := ad_c.mp h
  by_cases q : pcM bt n st = -1
  · rw [selP_1 q] at h0; exact ⟨(nh_0 h0).1.1, fun _ => h0⟩
  · rw [selP_0 q] at h0; exact ⟨h0, fun z => absurd z q⟩
theorem vlW_0 {V : Int → Nat → Int} {bt : Nat → Int} {n : Nat} {st : PS} (h : (vlS bt n st).1 = 0) (i : Nat) : vlW V bt n st i = vlV V bt n st i := by
  unfold vlW vlV
  by_cases q : pcM bt n st = -1
  · rw [selI_1 q, selI_1 q]; exact nhV_0 ((vl_e0 h).2 q)
  · rw [selI_0 q, selI_0 q]
theorem op_e0 {bt : Nat → Int} {n : Nat} {a : PS} (h : (opS bt n a).1 = 0) : isS bt n 60 a ∨ isS bt n 61 a ∨ isS bt n 62 a := by
  unfold opS at h
  by_cases q : isS bt n 60 a ∨ isS bt n 61 a ∨ isS bt n 62 a
  · exact q
  · rw [selP_0 q] at h; exact absurd (ad_c.mp h) (fl_c (by decide))
theorem rel_cmp {V : Int → Nat → Int} {bt : Nat → Int} {n : Nat} {st : PS} : relR (cmpG V bt n st) (cmpM V bt n st) := by
  refine ⟨rfl, fun h i => ?_⟩
  have h1 := vl_e0 (st := opS bt n (vlS bt n st)) h
  have h2 := op_e0 h1.1
  have h3 : (vlS bt n st).1 = 0 := h2.elim (fun q => q.1) (fun q => q.elim (fun q => q.1) (fun q => q.1))
  show cmpH _ (vlW V bt n st i) (vlW V bt n (opS bt n (vlS bt n st)) i) = cmpH (opM bt n (vlS bt n st)) (vlV V bt n st i) (vlV V bt n (opS bt n (vlS bt n st)) i)
  rw [vlW_0 h3, vlW_0 h]
  have e : selI (isS bt n 60 (vlS bt n st)) (-20) (selI (isS bt n 62 (vlS bt n st)) (-22) (-21)) = opM bt n (vlS bt n st) := by
    unfold opM
    by_cases q1 : isS bt n 60 (vlS bt n st)
    · rw [selI_1 q1, selI_1 q1]
    · rw [selI_0 q1, selI_0 q1]
      by_cases q2 : isS bt n 61 (vlS bt n st)
      · rw [selI_1 q2, selI_0 (fun q => by have a1 := q2.2.2; have a2 := q.2.2; omega)]
      · have q3 : isS bt n 62 (vlS bt n st) := (h2.resolve_left q1).resolve_left q2
        rw [selI_0 q2, selI_1 q3]
  rw [e]
theorem rel_not {r r1 : QR} (h : relR r r1) : relR (notR r) (notR r1) := ⟨h.1, fun q i => by show (!r.2.2 i) = (!r1.2.2 i); rw [h.2 q i]⟩
theorem rel_par {bt : Nat → Int} {n : Nat} {r r1 : QR} (h : relR r r1) : relR (parR bt n r) (parR bt n r1) := ⟨by show nsP bt n 41 r.1 = nsP bt n 41 r1.1; rw [h.1], fun q i => h.2 (by
  by_cases z : r.1.1 = 0
  · exact z
  · have q2 : (nsP bt n 41 r.1).1 = 0 := q
    rw [nsP_e z] at q2; exact q2) i⟩
theorem rel_and2 {c : Int} {r r1 s s1 : QR} (h : relR r r1) (hs : relR s s1) (h0 : s.1.1 = 0 → r.1.1 = 0) : relR (and2 c r s) (and2 c r1 s1) := ⟨hs.1, fun q i => by
  have q2 : s.1.1 = 0 := q
  show (if c = -24 then r.2.2 i && s.2.2 i else r.2.2 i || s.2.2 i) = (if c = -24 then r1.2.2 i && s1.2.2 i else r1.2.2 i || s1.2.2 i)
  rw [h.2 (h0 q2) i, hs.2 q2 i]⟩
theorem rel_cjN {bt : Nat → Int} {n w : Nat} {c : Int} {f f1 : PS → QR} (hf : ∀ x, relR (f x) (f1 x)) : ∀ (k : Nat) (r r1 : QR), relR r r1 → relR (cjN bt n w c f k r) (cjN bt n w c f1 k r1) := by
  intro k
  induction k with
  | zero => intro r r1 h; exact h
  | succ k ih =>
    intro r r1 h
    by_cases q : isW bt n w r.1
    · have q1 : isW bt n w r1.1 := h.1 ▸ q
      rw [cjN_s q, cjN_s q1]
      refine ih _ _ (rel_and2 h ?_ (fun _ => q.1))
      rw [← h.1]; exact hf _
    · have q1 : ¬ isW bt n w r1.1 := h.1 ▸ q
      rw [cjN_st q, cjN_st q1]; exact h
theorem rel_con {bt : Nat → Int} {n : Nat} {f f1 : PS → QR} (hf : ∀ x, relR (f x) (f1 x)) (st : PS) : relR (conM bt n f st) (conM bt n f1 st) := rel_cjN hf 201 _ _ (hf st)
theorem rel_tst {bt : Nat → Int} {n : Nat} {f f1 : PS → QR} (hf : ∀ x, relR (f x) (f1 x)) (st : PS) : relR (tstM bt n f st) (tstM bt n f1 st) := rel_cjN (rel_con hf) 201 _ _ (rel_con hf st)
theorem rel_qF {V : Int → Nat → Int} {bt : Nat → Int} {n : Nat} : ∀ (d : Nat) (st : PS), relR (qG V bt n d st) (qF V bt n d st) := by
  intro d
  induction d with
  | zero =>
    intro st
    by_cases q : isW bt n 31 st ∨ isS bt n 40 st
    · have e : qG V bt n 0 st = _ := selP_1 q
      have e1 : qF V bt n 0 st = _ := selP_1 q
      rw [e, e1]; exact ⟨rfl, fun _ _ => rfl⟩
    · have e : qG V bt n 0 st = _ := selP_0 q
      have e1 : qF V bt n 0 st = _ := selP_0 q
      rw [e, e1]; exact rel_cmp
  | succ d ih =>
    intro st
    by_cases q : isW bt n 31 st
    · have e : qG V bt n (d + 1) st = _ := selP_1 q
      have e1 : qF V bt n (d + 1) st = _ := selP_1 q
      rw [e, e1]; exact rel_not (ih _)
    · by_cases q2 : isS bt n 40 st
      · have e : qG V bt n (d + 1) st = _ := (selP_0 q).trans (selP_1 q2)
        have e1 : qF V bt n (d + 1) st = _ := (selP_0 q).trans (selP_1 q2)
        rw [e, e1]; exact rel_par (rel_tst ih _)
      · have e : qG V bt n (d + 1) st = _ := (selP_0 q).trans (selP_0 q2)
        have e1 : qF V bt n (d + 1) st = _ := (selP_0 q).trans (selP_0 q2)
        rw [e, e1]; exact rel_cmp
theorem fiF_c {h g : Nat → Bool} : ∀ k : Nat, (∀ i, i < k → h i = g i) → fiF h k = fiF g k ∧ ctF h k = ctF g k := by
  intro k
  induction k with
  | zero => intro _; exact ⟨rfl, rfl⟩
  | succ k ih =>
    intro q
    have h1 := ih (fun i hi => q i (by omega))
    have h2 := q k (by omega)
    constructor
    · show (if fiF h k = -1 ∧ h k = true then (k : Int) else fiF h k) = (if fiF g k = -1 ∧ g k = true then (k : Int) else fiF g k)
      rw [h1.1, h2]
    · show (if h k = true then ctF h k + 1 else ctF h k) = (if g k = true then ctF g k + 1 else ctF g k)
      rw [h1.2, h2]
