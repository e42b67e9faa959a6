/-! QUERIES: the document's tests, as states, codes and what holds -/
noncomputable def pcM (bt : Nat → Int) (n : Nat) (st : PS) : Int := selI (isW bt n 7 st) 0 (selI (isW bt n 5 st) 1 (selI (isW bt n 32 st) 2 (selI (isW bt n 33 st) 3 (selI (isW bt n 34 st) 4 (selI (isW bt n 35 st) 5 (selI (isW bt n 36 st) 6 (-1)))))))
theorem isW_k {bt : Nat → Int} {n t : Nat} {st : PS} (h : isW bt n t st) : st.1 = 0 ∧ kdM bt n st.2.2 = 1 := ⟨h.1, h.2.1⟩
theorem pcM_c (bt : Nat → Int) (n : Nat) (st : PS) : (pcM bt n st = -1) ∨ ((0 ≤ pcM bt n st ∧ pcM bt n st ≤ 6) ∧ st.1 = 0 ∧ kdM bt n st.2.2 = 1) := by
  unfold pcM
  by_cases w1 : isW bt n 7 st
  · rw [selI_1 w1]; exact Or.inr ⟨by omega, isW_k w1⟩
  rw [selI_0 w1]
  by_cases w2 : isW bt n 5 st
  · rw [selI_1 w2]; exact Or.inr ⟨by omega, isW_k w2⟩
  rw [selI_0 w2]
  by_cases w3 : isW bt n 32 st
  · rw [selI_1 w3]; exact Or.inr ⟨by omega, isW_k w3⟩
  rw [selI_0 w3]
  by_cases w4 : isW bt n 33 st
  · rw [selI_1 w4]; exact Or.inr ⟨by omega, isW_k w4⟩
  rw [selI_0 w4]
  by_cases w5 : isW bt n 34 st
  · rw [selI_1 w5]; exact Or.inr ⟨by omega, isW_k w5⟩
  rw [selI_0 w5]
  by_cases w6 : isW bt n 35 st
  · rw [selI_1 w6]; exact Or.inr ⟨by omega, isW_k w6⟩
  rw [selI_0 w6]
  by_cases w7 : isW bt n 36 st
  · rw [selI_1 w7]; exact Or.inr ⟨by omega, isW_k w7⟩
  rw [selI_0 w7]; exact Or.inl rfl
noncomputable def vlS (bt : Nat → Int) (n : Nat) (st : PS) : PS := adP bt n (selP (pcM bt n st = -1) (nhP bt n 0 99999 st) st)
noncomputable def vlC (bt : Nat → Int) (n : Nat) (st : PS) : Int := selI (pcM bt n st = -1) (nv bt n st) (-1 - pcM bt n st)
noncomputable def vlV (V : Int → Nat → Int) (bt : Nat → Int) (n : Nat) (st : PS) (i : Nat) : Int := selI (pcM bt n st = -1) (nv bt n st) (V (pcM bt n st) i)
theorem vl_0 {bt : Nat → Int} {n : Nat} {st : PS} (hs : st.1 = 0 → st.2.2 ≤ n) (h : (vlS bt n st).1 = 0) : st.1 = 0 ∧ st.2.2 < (vlS bt n st).2.2 ∧ (vlS bt n st).2.2 ≤ n ∧ (pcM bt n st = -1 → isN bt n st ∧ 0 ≤ nv bt n st ∧ nv bt n st ≤ 99999) := by
  have h0 : (selP (pcM bt n st = -1) (nhP bt n 0 99999 st) st).1 = 0 := ad_c.mp h
  have key : goP bt n st ∧ selP (pcM bt n st = -1) (nhP bt n 0 99999 st) st = st ∧ (pcM bt n st = -1 → isN bt n st ∧ 0 ≤ nv bt n st ∧ nv bt n st ≤ 99999) := by
    by_cases q : pcM bt n st = -1
    · rw [selP_1 q] at h0 ⊢
      have h1 := nh_0 h0
      exact ⟨⟨h1.1.1, by rw [h1.1.2]; decide⟩, h1.2.2, fun _ => ⟨h1.1, h1.2.1⟩⟩
    · rw [selP_0 q] at h0 ⊢
      rcases pcM_c bt n st with p | ⟨-, p1, p2⟩
      · exact absurd p q
      · exact ⟨⟨p1, by rw [p2]; decide⟩, rfl, fun z => absurd z q⟩
  obtain ⟨hg, e, hv⟩ := key
  have h2 := ad_go hg
  have h3 := ad_ok (bt := bt) (st := st) hs (ad_c.mpr hg.1)
  have e2 : vlS bt n st = adP bt n st := by unfold vlS; rw [e]
  rw [e2]
  exact ⟨hg.1, h2, h3.2.2, hv⟩
noncomputable def opS (bt : Nat → Int) (n : Nat) (a : PS) : PS := adP bt n (selP (isS bt n 60 a ∨ isS bt n 61 a ∨ isS bt n 62 a) a (flP 1 a))
noncomputable def opM (bt : Nat → Int) (n : Nat) (a : PS) : Int := selI (isS bt n 60 a) (-20) (selI (isS bt n 61 a) (-21) (-22))
theorem op_c (bt : Nat → Int) (n : Nat) (a : PS) : opM bt n a = -20 ∨ opM bt n a = -21 ∨ opM bt n a = -22 := by
  unfold opM
  by_cases q : isS bt n 60 a
  · rw [selI_1 q]; exact Or.inl rfl
  · rw [selI_0 q]
    by_cases q : isS bt n 61 a
    · rw [selI_1 q]; exact Or.inr (Or.inl rfl)
    · rw [selI_0 q]; exact Or.inr (Or.inr rfl)
theorem isS_go {bt : Nat → Int} {n : Nat} {c : Int} {st : PS} (h : isS bt n c st) : goP bt n st := ⟨h.1, by rw [h.2.1]; decide⟩
theorem op_0 {bt : Nat → Int} {n : Nat} {a : PS} (hs : a.1 = 0 → a.2.2 ≤ n) (h : (opS bt n a).1 = 0) : a.1 = 0 ∧ a.2.2 < (opS bt n a).2.2 ∧ (opS bt n a).2.2 ≤ n ∧ (isS bt n 60 a ∨ isS bt n 61 a ∨ isS bt n 62 a) := by
  unfold opS at h ⊢
  by_cases q : isS bt n 60 a ∨ isS bt n 61 a ∨ isS bt n 62 a
  · rw [selP_1 q] at h ⊢
    have hg : goP bt n a := q.elim isS_go (fun q => q.elim isS_go isS_go)
    exact ⟨hg.1, ad_go hg, (ad_ok (bt := bt) (st := a) hs h).2.2, q⟩
  · rw [selP_0 q] at h; exact absurd (ad_c.mp h) (fl_c (by decide))
def cmpH (o x y : Int) : Bool := if o = -20 then decide (x < y) else if o = -21 then decide (x = y) else decide (y < x)
abbrev QR : Type := PS × List Int × (Nat → Bool)
noncomputable def cmpM (V : Int → Nat → Int) (bt : Nat → Int) (n : Nat) (st : PS) : QR := (vlS bt n (opS bt n (vlS bt n st)), [vlC bt n st, vlC bt n (opS bt n (vlS bt n st)), opM bt n (vlS bt n st)], fun i => cmpH (opM bt n (vlS bt n st)) (vlV V bt n st i) (vlV V bt n (opS bt n (vlS bt n st)) i))
def opr (c x y : Int) : Int := if c = -24 then (if x = 1 ∧ y = 1 then 1 else 0) else if c = -25 then (if x = 1 ∨ y = 1 then 1 else 0) else if cmpH c x y = true then 1 else 0
def bI (h : Bool) : Int := if h = true then 1 else 0
theorem bI_c (h : Bool) : bI h = 0 ∨ bI h = 1 := by cases h <;> decide
def okr (V : Int → Nat → Int) (i : Nat) (b : Int) : List Int → List Int → Prop
  | [], s => s = [b]
  | c :: cs, s => (c = -23 ∧ ∃ x t, s = x :: t ∧ (x = 0 ∨ x = 1) ∧ okr V i b cs ((1 - x) :: t)) ∨ ((-7 ≤ c ∧ c ≤ 99999) ∧ okr V i b cs ((if 0 ≤ c then c else V (-1 - c) i) :: s)) ∨ (((c = -20 ∨ c = -21 ∨ c = -22) ∨ (c = -24 ∨ c = -25)) ∧ ∃ x y t, s = y :: x :: t ∧ ((c = -24 ∨ c = -25) → (x = 0 ∨ x = 1) ∧ (y = 0 ∨ y = 1)) ∧ okr V i b cs (opr c x y :: t))
def gq (V : Int → Nat → Int) (n : Nat) (st : PS) (r : QR) : Prop := (st.1 = 0 → st.2.2 ≤ n) → r.1.1 = 0 → st.1 = 0 ∧ st.2.2 + r.2.1.length ≤ r.1.2.2 ∧ st.2.2 < r.1.2.2 ∧ r.1.2.2 ≤ n ∧ ∀ (i : Nat) (b : Int) (rest s : List Int), okr V i b rest (bI (r.2.2 i) :: s) → okr V i b (r.2.1 ++ rest) s
theorem gq_err {V : Int → Nat → Int} {n : Nat} {st : PS} {r : QR} (h : r.1.1 ≠ 0) : gq V n st r := fun _ q => absurd q h
theorem vlC_ok {V : Int → Nat → Int} {bt : Nat → Int} {n : Nat} {st : PS} {i : Nat} {b : Int} {rest s : List Int} (h : pcM bt n st = -1 → isN bt n st ∧ 0 ≤ nv bt n st ∧ nv bt n st ≤ 99999) (hk : okr V i b rest (vlV V bt n st i :: s)) : okr V i b (vlC bt n st :: rest) s := by
  refine Or.inr (Or.inl ?_)
  unfold vlV at hk
  unfold vlC
  by_cases q : pcM bt n st = -1
  · rw [selI_1 q] at hk ⊢
    have h1 := h q
    exact ⟨by omega, by rw [if_pos h1.2.1]; exact hk⟩
  · rw [selI_0 q] at hk ⊢
    rcases pcM_c bt n st with p | ⟨p, -⟩
    · exact absurd p q
    · exact ⟨by omega, by rw [if_neg (by omega), show -1 - (-1 - pcM bt n st) = pcM bt n st by omega]; exact hk⟩
theorem gq_cmp {V : Int → Nat → Int} {bt : Nat → Int} {n : Nat} {st : PS} : gq V n st (cmpM V bt n st) := by
  intro hs h
  have ha : (opS bt n (vlS bt n st)).1 = 0 := by
    by_cases q : (opS bt n (vlS bt n st)).1 = 0
    · exact q
    · have h2 : (vlS bt n (opS bt n (vlS bt n st))).1 = 0 := h
      unfold vlS at h2
      have h3 := ad_c.mp h2
      by_cases q2 : pcM bt n (opS bt n (vlS bt n st)) = -1
      · unfold vlS at q2 q; rw [selP_1 q2] at h3; exact absurd (nh_0 h3).1.1 q
      · unfold vlS at q2 q; rw [selP_0 q2] at h3; exact absurd h3 q
  have hb : (vlS bt n st).1 = 0 := by
    unfold opS at ha
    by_cases q : isS bt n 60 (vlS bt n st) ∨ isS bt n 61 (vlS bt n st) ∨ isS bt n 62 (vlS bt n st)
    · exact q.elim (fun q => q.1) (fun q => q.elim (fun q => q.1) (fun q => q.1))
    · rw [selP_0 q] at ha; exact absurd (ad_c.mp ha) (fl_c (by decide))
  have h1 := vl_0 hs hb
  have h2 := op_0 (fun _ => h1.2.2.1) ha
  have h3 := vl_0 (fun _ => h2.2.2.1) h
  refine ⟨h1.1, by show _ + 3 ≤ (vlS bt n (opS bt n (vlS bt n st))).2.2; omega, by show _ < (vlS bt n (opS bt n (vlS bt n st))).2.2; omega, h3.2.2.1, fun i b rest s hk => ?_⟩
  refine vlC_ok h1.2.2.2 (vlC_ok h3.2.2.2 (Or.inr (Or.inr ⟨Or.inl (op_c _ _ _), _, _, _, rfl, fun q => ?_, ?_⟩)))
  · have := op_c bt n (vlS bt n st); omega
  · have e : opr (opM bt n (vlS bt n st)) (vlV V bt n st i) (vlV V bt n (opS bt n (vlS bt n st)) i) = bI (cmpH (opM bt n (vlS bt n st)) (vlV V bt n st i) (vlV V bt n (opS bt n (vlS bt n st)) i)) := by
      have := op_c bt n (vlS bt n st)
      unfold opr bI
      rw [if_neg (by omega), if_neg (by omega)]
    rw [e]; exact hk
def notR (r : QR) : QR := (r.1, r.2.1 ++ [-23], fun i => !r.2.2 i)
noncomputable def parR (bt : Nat → Int) (n : Nat) (r : QR) : QR := (nsP bt n 41 r.1, r.2.1, r.2.2)
def and2 (c : Int) (r r1 : QR) : QR := (r1.1, r.2.1 ++ r1.2.1 ++ [c], fun i => if c = -24 then r.2.2 i && r1.2.2 i else r.2.2 i || r1.2.2 i)
theorem gq_not {V : Int → Nat → Int} {bt : Nat → Int} {n : Nat} {st : PS} {r : QR} (hg : goP bt n st) (h : gq V n (adP bt n st) r) : gq V n st (notR r) := by
  intro hs h1
  have h2 := ad_go hg
  have h3 := ad_ok (bt := bt) (st := st) hs (ad_c.mpr hg.1)
  obtain ⟨a1, a2, a3, a4, a5⟩ := h (fun _ => h3.2.2) h1
  refine ⟨hg.1, by show _ + (r.2.1 ++ [-23]).length ≤ r.1.2.2; rw [List.length_append]; show _ + (_ + 1) ≤ _; omega, by show _ < r.1.2.2; omega, a4, fun i b rest s hk => ?_⟩
  show okr V i b ((r.2.1 ++ [-23]) ++ rest) s
  rw [List.append_assoc]
  refine a5 i b _ s (Or.inl ⟨rfl, _, _, rfl, bI_c _, ?_⟩)
  have e : 1 - bI (r.2.2 i) = bI (!r.2.2 i) := by cases r.2.2 i <;> decide
  rw [e]; exact hk
theorem gq_par {V : Int → Nat → Int} {bt : Nat → Int} {n : Nat} {st : PS} {r : QR} (hg : goP bt n st) (h : gq V n (adP bt n st) r) : gq V n st (parR bt n r) := by
  intro hs h1
  have h2 := ad_go hg
  have h3 := ad_ok (bt := bt) (st := st) hs (ad_c.mpr hg.1)
  have hr : r.1.1 = 0 := by
    by_cases q : r.1.1 = 0
    · exact q
    · have h4 : (nsP bt n 41 r.1).1 = 0 := h1
      rw [nsP_e q] at h4; exact h4
  obtain ⟨a1, a2, a3, a4, a5⟩ := h (fun _ => h3.2.2) hr
  have h5 := ns_ok (bt := bt) (c := 41) (st := r.1) (fun _ => a4) h1
  exact ⟨hg.1, by show _ + r.2.1.length ≤ (nsP bt n 41 r.1).2.2; omega, by show _ < (nsP bt n 41 r.1).2.2; omega, h5.2.2, a5⟩
theorem gq_and2 {V : Int → Nat → Int} {bt : Nat → Int} {n : Nat} {st : PS} {r r1 : QR} {c : Int} (hc : c = -24 ∨ c = -25) (hg : goP bt n r.1) (h : gq V n st r) (h1 : gq V n (adP bt n r.1) r1) : gq V n st (and2 c r r1) := by
  intro hs h2
  obtain ⟨a1, a2, a3, a4, a5⟩ := h hs hg.1
  have h3 := ad_go hg
  have h4 := ad_ok (bt := bt) (st := r.1) (fun _ => a4) (ad_c.mpr hg.1)
  obtain ⟨b1, b2, b3, b4, b5⟩ := h1 (fun _ => h4.2.2) h2
  refine ⟨a1, by show _ + (r.2.1 ++ r1.2.1 ++ [c]).length ≤ r1.1.2.2; rw [List.length_append, List.length_append]; show _ + (_ + _ + 1) ≤ _; omega, by show _ < r1.1.2.2; omega, b4, fun i b rest s hk => ?_⟩
  show okr V i b ((r.2.1 ++ r1.2.1 ++ [c]) ++ rest) s
  rw [List.append_assoc, List.append_assoc]
  refine a5 i b _ s (b5 i b _ _ (Or.inr (Or.inr ⟨Or.inr hc, _, _, _, rfl, fun _ => ⟨bI_c _, bI_c _⟩, ?_⟩)))
  have e : opr c (bI (r.2.2 i)) (bI (r1.2.2 i)) = bI (if c = -24 then r.2.2 i && r1.2.2 i else r.2.2 i || r1.2.2 i) := by
    rcases hc with rfl | rfl <;> cases r.2.2 i <;> cases r1.2.2 i <;> decide
  rw [e]; exact hk
noncomputable def cjN (bt : Nat → Int) (n w : Nat) (c : Int) (f : PS → QR) : Nat → QR → QR
  | 0, r => r
  | k + 1, r => selP (isW bt n w r.1) (cjN bt n w c f k (and2 c r (f (adP bt n r.1)))) r
theorem cjN_s {bt : Nat → Int} {n w : Nat} {c : Int} {f : PS → QR} {r : QR} (h : isW bt n w r.1) (k : Nat) : cjN bt n w c f (k + 1) r = cjN bt n w c f k (and2 c r (f (adP bt n r.1))) := selP_1 h
theorem cjN_st {bt : Nat → Int} {n w : Nat} {c : Int} {f : PS → QR} {r : QR} (h : ¬ isW bt n w r.1) : ∀ k : Nat, cjN bt n w c f k r = r := by
  intro k
  cases k with
  | zero => rfl
  | succ k => exact selP_0 h
theorem cjN_det {bt : Nat → Int} {n w : Nat} {c : Int} {f : PS → QR} : ∀ (k : Nat) (r : QR), ¬ isW bt n w (cjN bt n w c f k r).1 → ∀ j : Nat, cjN bt n w c f (k + j) r = cjN bt n w c f k r := by
  intro k
  induction k with
  | zero => intro r h j; rw [Nat.zero_add]; exact cjN_st h j
  | succ k ih =>
    intro r h j
    by_cases hg : isW bt n w r.1
    · rw [show k + 1 + j = (k + j) + 1 by omega, cjN_s hg, cjN_s hg]
      rw [cjN_s hg] at h
      exact ih _ h j
    · rw [cjN_st hg, cjN_st hg]
theorem cjN_eq {bt : Nat → Int} {n w k m : Nat} {c : Int} {f : PS → QR} {r : QR} (h1 : ¬ isW bt n w (cjN bt n w c f k r).1) (h2 : ¬ isW bt n w (cjN bt n w c f m r).1) : cjN bt n w c f k r = cjN bt n w c f m r := by
  rw [← cjN_det k r h1 m, ← cjN_det m r h2 k, Nat.add_comm]
theorem cjN_go {bt : Nat → Int} {n w : Nat} {c : Int} {f : PS → QR} : ∀ (k : Nat) (r : QR), isW bt n w (cjN bt n w c f k r).1 → cjN bt n w c f (k + 1) r = and2 c (cjN bt n w c f k r) (f (adP bt n (cjN bt n w c f k r).1)) := by
  intro k
  induction k with
  | zero => intro r h; exact selP_1 h
  | succ k ih =>
    intro r h
    by_cases hg : isW bt n w r.1
    · rw [cjN_s hg (k + 1), cjN_s hg k]
      rw [cjN_s hg k] at h
      exact ih _ h
    · rw [cjN_st hg] at h; exact absurd h hg
theorem gq_cjN {V : Int → Nat → Int} {bt : Nat → Int} {n w : Nat} {c : Int} {f : PS → QR} {st : PS} (hc : c = -24 ∨ c = -25) (hf : ∀ x, gq V n x (f x)) : ∀ (k : Nat) (r : QR), gq V n st r → gq V n st (cjN bt n w c f k r) := by
  intro k
  induction k with
  | zero => intro r h; exact h
  | succ k ih =>
    intro r h
    by_cases hg : isW bt n w r.1
    · rw [cjN_s hg]; exact ih _ (gq_and2 hc (isW_go hg) h (hf _))
    · rw [cjN_st hg]; exact h
theorem cjN_pos {V : Int → Nat → Int} {bt : Nat → Int} {n w : Nat} {c : Int} {f : PS → QR} {st : PS} (hs : st.1 = 0 → st.2.2 ≤ n) (hc : c = -24 ∨ c = -25) (hf : ∀ x, gq V n x (f x)) : ∀ (k : Nat) (r : QR), gq V n st r → isW bt n w (cjN bt n w c f k r).1 → r.1.2.2 + k ≤ (cjN bt n w c f k r).1.2.2 ∧ (cjN bt n w c f k r).1.2.2 ≤ n := by
  intro k
  induction k with
  | zero => intro r h hw; exact ⟨Nat.le_refl _, (h hs hw.1).2.2.2.1⟩
  | succ k ih =>
    intro r h hw
    by_cases hg : isW bt n w r.1
    · rw [cjN_s hg] at hw ⊢
      have h1 := gq_and2 hc (isW_go hg) h (hf (adP bt n r.1))
      have h2 := ih _ h1 hw
      have hz : (and2 c r (f (adP bt n r.1))).1.1 = 0 := by
        by_cases q : (and2 c r (f (adP bt n r.1))).1.1 = 0
        · exact q
        · have hw2 := hw; rw [cjN_st (isW_e q)] at hw2; exact absurd hw2.1 q
      have h5 := (h hs hg.1).2.2.2.1
      have h3 := ad_go (isW_go hg)
      have h4 := ad_ok (bt := bt) (st := r.1) (fun _ => h5) (ad_c.mpr hg.1)
      have h6 := hf (adP bt n r.1) (fun _ => h4.2.2) hz
      have e : (and2 c r (f (adP bt n r.1))).1 = (f (adP bt n r.1)).1 := rfl
      rw [e] at h2
      omega
    · rw [cjN_st hg] at hw; exact absurd hw hg
theorem cjN_end {V : Int → Nat → Int} {bt : Nat → Int} {n w : Nat} {c : Int} {f : PS → QR} {st : PS} {r : QR} (hn : n ≤ 200) (hs : st.1 = 0 → st.2.2 ≤ n) (hc : c = -24 ∨ c = -25) (hf : ∀ x, gq V n x (f x)) (h : gq V n st r) : ¬ isW bt n w (cjN bt n w c f 201 r).1 := fun hw => by
  have := cjN_pos hs hc hf 201 r h hw
  omega
noncomputable def conM (bt : Nat → Int) (n : Nat) (f : PS → QR) (st : PS) : QR := cjN bt n 37 (-24) f 201 (f st)
noncomputable def tstM (bt : Nat → Int) (n : Nat) (f : PS → QR) (st : PS) : QR := cjN bt n 38 (-25) (conM bt n f) 201 (conM bt n f st)
noncomputable def qF (V : Int → Nat → Int) (bt : Nat → Int) (n : Nat) : Nat → PS → QR
  | 0, st => selP (isW bt n 31 st ∨ isS bt n 40 st) (flP 3 st, [], fun _ => false) (cmpM V bt n st)
  | d + 1, st => selP (isW bt n 31 st) (notR (qF V bt n d (adP bt n st))) (selP (isS bt n 40 st) (parR bt n (tstM bt n (qF V bt n d) (adP bt n st))) (cmpM V bt n st))
theorem gq_con {V : Int → Nat → Int} {bt : Nat → Int} {n : Nat} {f : PS → QR} (hf : ∀ x, gq V n x (f x)) (st : PS) : gq V n st (conM bt n f st) := gq_cjN (Or.inl rfl) hf 201 _ (hf st)
theorem gq_tst {V : Int → Nat → Int} {bt : Nat → Int} {n : Nat} {f : PS → QR} (hf : ∀ x, gq V n x (f x)) (st : PS) : gq V n st (tstM bt n f st) := gq_cjN (Or.inr rfl) (gq_con hf) 201 _ (gq_con hf st)
theorem gq_qF {V : Int → Nat → Int} {bt : Nat → Int} {n : Nat} : ∀ (d : Nat) (st : PS), gq V n st (qF V bt n d st) := by
  intro d
  induction d with
  | zero =>
    intro st
    by_cases q : isW bt n 31 st ∨ isS bt n 40 st
    · have e : qF V bt n 0 st = _ := selP_1 q
      rw [e]; exact gq_err (fl_c (by decide))
    · have e : qF V bt n 0 st = _ := selP_0 q
      rw [e]; exact gq_cmp
  | succ d ih =>
    intro st
    by_cases q : isW bt n 31 st
    · have e : qF V bt n (d + 1) st = _ := selP_1 q
      rw [e]; exact gq_not (isW_go q) (ih _)
    · by_cases q2 : isS bt n 40 st
      · have e : qF V bt n (d + 1) st = _ := (selP_0 q).trans (selP_1 q2)
        rw [e]; exact gq_par (isS_go q2) (gq_tst ih _)
      · have e : qF V bt n (d + 1) st = _ := (selP_0 q).trans (selP_0 q2)
        rw [e]; exact gq_cmp
noncomputable def qy0 (bt : Nat → Int) (n : Nat) : PS := adP bt n (selP (isW bt n 29 (tx0 bt n) ∨ isW bt n 30 (tx0 bt n)) (tx0 bt n) (flP 1 (tx0 bt n)))
noncomputable def qyR (V : Int → Nat → Int) (bt : Nat → Int) (n : Nat) : QR := tstM bt n (qF V bt n 6) (qy0 bt n)
noncomputable def qyS (V : Int → Nat → Int) (bt : Nat → Int) (n : Nat) : PS := neP bt n (qyR V bt n).1
