/-! queries asked of what is alike -/
def relN (N : Nat) (r r1 : QR) : Prop := r.1 = r1.1 ∧ ∀ i, i < N → r.2.2 i = r1.2.2 i
def vEq (N : Nat) (V V1 : Int → Nat → Int) : Prop := ∀ (p : Int) (i : Nat), i < N → V p i = V1 p i
theorem reN_cmp {N : Nat} {V V1 : Int → Nat → Int} (hV : vEq N V V1) {bt : Nat → Int} {n : Nat} {st : PS} : relN N (cmpM V bt n st) (cmpM V1 bt n st) := ⟨rfl, fun i hi => by
  have e : ∀ x : PS, vlV V bt n x i = vlV V1 bt n x i := fun x => by unfold vlV; rw [hV _ i hi]
  show cmpH _ (vlV V bt n st i) (vlV V bt n (opS bt n (vlS bt n st)) i) = cmpH _ (vlV V1 bt n st i) (vlV V1 bt n (opS bt n (vlS bt n st)) i)
  rw [e, e]⟩
theorem reN_and2 {N : Nat} {c : Int} {r r1 s s1 : QR} (h : relN N r r1) (hs : relN N s s1) : relN N (and2 c r s) (and2 c r1 s1) := ⟨hs.1, fun i hi => by
  show (if c = -24 then r.2.2 i && s.2.2 i else r.2.2 i || s.2.2 i) = (if c = -24 then r1.2.2 i && s1.2.2 i else r1.2.2 i || s1.2.2 i)
  rw [h.2 i hi, hs.2 i hi]⟩
theorem reN_cjN {N : Nat} {bt : Nat → Int} {n w : Nat} {c : Int} {f f1 : PS → QR} (hf : ∀ x, relN N (f x) (f1 x)) : ∀ (k : Nat) (r r1 : QR), relN N r r1 → relN N (cjN bt n w c f k r) (cjN bt n w c f1 k r1) := by
  intro k
  induction k with
  | zero => intro r r1 h; exact h
  | succ k ih =>
    intro r r1 h
    by_cases q : isW bt n w r.1
    · have q1 : isW bt n w r1.1 := h.1 ▸ q
      rw [cjN_s q, cjN_s q1]
      refine ih _ _ (reN_and2 h ?_)
      rw [← h.1]; exact hf _
    · have q1 : ¬ isW bt n w r1.1 := h.1 ▸ q
      rw [cjN_st q, cjN_st q1]; exact h
theorem reN_con {N : Nat} {bt : Nat → Int} {n : Nat} {f f1 : PS → QR} (hf : ∀ x, relN N (f x) (f1 x)) (st : PS) : relN N (conM bt n f st) (conM bt n f1 st) := reN_cjN hf 201 _ _ (hf st)
theorem reN_tst {N : Nat} {bt : Nat → Int} {n : Nat} {f f1 : PS → QR} (hf : ∀ x, relN N (f x) (f1 x)) (st : PS) : relN N (tstM bt n f st) (tstM bt n f1 st) := reN_cjN (reN_con hf) 201 _ _ (reN_con hf st)
theorem reN_qF {N : Nat} {V V1 : Int → Nat → Int} (hV : vEq N V V1) {bt : Nat → Int} {n : Nat} : ∀ (d : Nat) (st : PS), relN N (qF V bt n d st) (qF V1 bt n d st) := by
  intro d
  induction d with
  | zero =>
    intro st
    by_cases q : isW bt n 31 st ∨ isS bt n 40 st
    · rw [qF_z q, qF_z q]; exact ⟨rfl, fun _ _ => rfl⟩
    · rw [qF_c 0 (fun z => q (Or.inl z)) (fun z => q (Or.inr z)), qF_c 0 (fun z => q (Or.inl z)) (fun z => q (Or.inr z))]; exact reN_cmp hV
  | succ d ih =>
    intro st
    by_cases q : isW bt n 31 st
    · rw [qF_n q, qF_n q]; exact ⟨(ih _).1, fun i hi => by show (!_) = (!_); rw [(ih _).2 i hi]⟩
    · by_cases q2 : isS bt n 40 st
      · rw [qF_p q q2, qF_p q q2]; exact ⟨by show nsP bt n 41 _ = nsP bt n 41 _; rw [(reN_tst ih _).1], (reN_tst ih _).2⟩
      · rw [qF_c (d + 1) q q2, qF_c (d + 1) q q2]; exact reN_cmp hV
theorem qy_c {N : Nat} {V V1 : Int → Nat → Int} (hV : vEq N V V1) {bt : Nat → Int} {n : Nat} : qyS V bt n = qyS V1 bt n ∧ qyV V bt n N = qyV V1 bt n N := by
  have h := reN_tst (N := N) (bt := bt) (n := n) (reN_qF hV (bt := bt) (n := n) 6) (qy0 bt n)
  have e : qyS V bt n = qyS V1 bt n := by unfold qyS qyR; rw [h.1]
  have h2 := fiF_c (h := (qyR V bt n).2.2) (g := (qyR V1 bt n).2.2) N h.2
  refine ⟨e, ?_⟩
  unfold qyV
  rw [e, h2.1, h2.2]
theorem gE.qy {g h : Nat → Int} (e : gE g h) (hI : Inv g) {bt : Nat → Int} {n : Nat} : qyS (pV g) bt n = qyS (pV h) bt n ∧ qyV (pV g) bt n (g 2).toNat = qyV (pV h) bt n (h 2).toNat := by
  have h0 := hI.c
  have h1 := qy_c (N := (g 2).toNat) (V := pV g) (V1 := pV h) (bt := bt) (n := n) (fun p i hi => gE_pV e hI (by omega) p)
  rw [← e.n 2 (by decide)]
  exact h1
