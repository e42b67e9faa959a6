/-! WHAT THE LAW SAYS TO THE BUFFER: bytes, four to a number -/
theorem sa_shl {a s : Int} (ha : 0 ≤ a ∧ a < 128) (hs : s = 0 ∨ s = 8 ∨ s = 16 ∨ s = 24) : Int32.ofInt a <<< (Int32.ofInt s &&& 31) = Int32.ofInt (a * 2 ^ s.toNat) := by
  have h0 : ∀ i : Fin 128, (Int32.ofInt (i.val : Int) <<< (Int32.ofInt 0 &&& 31) = Int32.ofInt ((i.val : Int) * 2 ^ (0 : Int).toNat)) ∧ (Int32.ofInt (i.val : Int) <<< (Int32.ofInt 8 &&& 31) = Int32.ofInt ((i.val : Int) * 2 ^ (8 : Int).toNat)) ∧ (Int32.ofInt (i.val : Int) <<< (Int32.ofInt 16 &&& 31) = Int32.ofInt ((i.val : Int) * 2 ^ (16 : Int).toNat)) ∧ (Int32.ofInt (i.val : Int) <<< (Int32.ofInt 24 &&& 31) = Int32.ofInt ((i.val : Int) * 2 ^ (24 : Int).toNat)) := by decide +kernel
  have h1 := h0 ⟨a.toNat, by omega⟩
  rw [show ((⟨a.toNat, by omega⟩ : Fin 128).val : Int) = a by show ((a.toNat : Nat) : Int) = a; omega] at h1
  rcases hs with rfl | rfl | rfl | rfl
  · exact h1.1
  · exact h1.2.1
  · exact h1.2.2.1
  · exact h1.2.2.2
theorem sa_or {a b k : Nat} (hb : b < 2 ^ k) (ha : a % 2 ^ k = 0) : a ||| b = a + b := by
  have h1 : 2 ^ k * (a / 2 ^ k) = a := Nat.mul_div_cancel' (Nat.dvd_of_mod_eq_zero ha)
  have h2 := Nat.two_pow_add_eq_or_of_lt hb (a / 2 ^ k)
  rw [h1] at h2
  exact h2.symm
section
variable {p : Program} {l : Launch} {e : Env} {R : Room} {s : State} {m : MethodId} {args : Array Value} {below : List Frame} {meth : Method} {c : Code} {cc : ByteArray} {own : String} {nL : Nat} {G : kG} {d0 mc0 ms0 : Nat} {Q : State → Prop} {w : Nat → va_E} {fl : va_W} {cells slots pc : Nat} {lv : List (Nat × Value)} {st : List Value}
theorem k_ishlB (hC : kC p l R s m args meth c cc own nL G d0 mc0 ms0) {a b : Int} (ha : 0 ≤ a ∧ a < 128) (hs : b = 0 ∨ b = 8 ∨ b = 16 ∨ b = 24) (d : decode cc pc = .ok (.ishl, 1)) (k : KW p l e R s m args below meth c nL G Q w fl cells slots (pc + 1) lv (vI (a * 2 ^ b.toNat) :: st)) : KW p l e R s m args below meth c nL G Q w fl cells slots pc lv (vI b :: vI a :: st) := fun H locs ls h1 h2 h3 h4 => lv_ishl hC.1 hC.2.1 d (by rw [sa_shl ha hs]; exact k H locs ls h1 h2 h3 h4)
theorem k_iorB (hC : kC p l R s m args meth c cc own nL G d0 mc0 ms0) {a b v : Int} (hv : ∃ (x y : Nat) (n : Nat), a = (x : Int) ∧ b = (y : Int) ∧ y < 2 ^ n ∧ x % 2 ^ n = 0 ∧ v = a + b) (d : decode cc pc = .ok (.ior, 1)) (k : KW p l e R s m args below meth c nL G Q w fl cells slots (pc + 1) lv (vI v :: st)) : KW p l e R s m args below meth c nL G Q w fl cells slots pc lv (vI b :: vI a :: st) := by
  obtain ⟨x, y, n, h1, h2, h3, h4, h5⟩ := hv
  subst h1
  subst h2
  refine k_iorN hC d ?_
  rw [sa_or h3 h4]
  rw [h5] at k
  exact k
end
/-- four bytes of a text as one number -/
def W4 (t : Nat → Int) (p : Nat) : Int := t p * 16777216 + t (p + 1) * 65536 + t (p + 2) * 256 + t (p + 3)
def saF (T : List Int) : Nat → Int := fun q => if q = 5 then (T.length : Int) else W4 (fun j => T.getD j 0) (20 * (T.length / 20) + 4 * q)
/-- the text T has been said, its whole feeds lie in the buffer -/
def saR (G : kG) (w : Nat → va_E) (T : List Int) : Prop :=
  (∀ j, 0 ≤ T.getD j 0 ∧ T.getD j 0 < 128) ∧ T.length ≤ 700 ∧ w 133 = iA G 6 (saF T) ∧
    (∃ cd ea kd nm sa nx en : Int, w 1 = tkO G ((20 * (T.length / 20) : Nat) : Int) cd ea kd nm sa nx en) ∧ ∃ bt : Nat → Int, w 2 = byA G bt ∧ btOK bt ∧ ∀ j, j < 20 * (T.length / 20) → bt j = T.getD j 0
theorem saR.fr {G : kG} {w w1 : Nat → va_E} {T : List Int} (h : saR G w T) (hf : ∀ j, (j = 1 ∨ j = 2 ∨ j = 133) → w1 j = w j) : saR G w1 T := by
  obtain ⟨h1, h2, h3, ⟨cd, ea, kd, nm, sa, nx, en, h4⟩, bt, h5, h6⟩ := h
  exact ⟨h1, h2, (hf 133 (by omega)).trans h3, ⟨cd, ea, kd, nm, sa, nx, en, (hf 1 (by omega)).trans h4⟩, bt, (hf 2 (by omega)).trans h5, h6⟩
theorem gD_lt {T L : List Int} {j : Nat} (h : j < T.length) : (T ++ L).getD j 0 = T.getD j 0 := by
  rw [List.getD_eq_getElem?_getD, List.getElem?_append_left h, ← List.getD_eq_getElem?_getD]
theorem gD_ge {T L : List Int} {j : Nat} (h : T.length ≤ j) : (T ++ L).getD j 0 = L.getD (j - T.length) 0 := by
  rw [List.getD_eq_getElem?_getD, List.getElem?_append_right h, ← List.getD_eq_getElem?_getD]
theorem gD_out {T : List Int} {j : Nat} (h : T.length ≤ j) : T.getD j 0 = 0 := by
  rw [List.getD_eq_getElem?_getD, List.getElem?_eq_none h]; rfl
theorem gD_1 {T : List Int} {b : Int} (j : Nat) : (T ++ [b]).getD j 0 = if j = T.length then b else T.getD j 0 := by
  by_cases h : j < T.length
  · rw [gD_lt h, if_neg (by omega)]
  · rw [gD_ge (by omega)]
    by_cases e : j = T.length
    · rw [if_pos e, show j - T.length = 0 by omega]; rfl
    · rw [if_neg e, gD_out (T := T) (by omega)]
      obtain ⟨k, hk⟩ : ∃ k, j - T.length = k + 1 := ⟨j - T.length - 1, by omega⟩
      rw [hk]; rfl
theorem W4_by {t : Nat → Int} {p : Nat} (h : ∀ j, 0 ≤ t j ∧ t j < 128) {k : Nat} (hk : k < 4) : byOf (W4 t p) k = t (p + k) := by
  have h0 := h p
  have h1 := h (p + 1)
  have h2 := h (p + 2)
  have h3 := h (p + 3)
  unfold byOf W4
  rcases (show k = 0 ∨ k = 1 ∨ k = 2 ∨ k = 3 by omega) with rfl | rfl | rfl | rfl
  · rw [if_pos rfl]; show (t p * 16777216 + t (p + 1) * 65536 + t (p + 2) * 256 + t (p + 3)) / 16777216 % 256 = t p; omega
  · rw [if_neg (by decide), if_pos rfl]; omega
  · rw [if_neg (by decide), if_neg (by decide), if_pos rfl]; omega
  · rw [if_neg (by decide), if_neg (by decide), if_neg (by decide)]; omega
theorem W4_b {t : Nat → Int} {p : Nat} (h : ∀ j, 0 ≤ t j ∧ t j < 128) : 0 ≤ W4 t p ∧ W4 t p ≤ 2147483647 := by
  have h0 := h p
  have h1 := h (p + 1)
  have h2 := h (p + 2)
  have h3 := h (p + 3)
  unfold W4
  omega
/-- one byte more in the number that is being filled -/
theorem W4_put {T : List Int} {b : Int} (h : ∀ j, 0 ≤ T.getD j 0 ∧ T.getD j 0 < 128) (hb : 0 ≤ b ∧ b < 128) (q : Nat) (hq : q = T.length % 20 / 4) :
    ∃ (x y : Nat) (n : Nat), W4 (fun j => T.getD j 0) (20 * (T.length / 20) + 4 * q) = (x : Int) ∧ b * 2 ^ (24 - 8 * ((T.length : Int) % 4)).toNat = (y : Int) ∧ y < 2 ^ n ∧ x % 2 ^ n = 0 ∧ W4 (fun j => (T ++ [b]).getD j 0) (20 * (T.length / 20) + 4 * q) = W4 (fun j => T.getD j 0) (20 * (T.length / 20) + 4 * q) + b * 2 ^ (24 - 8 * ((T.length : Int) % 4)).toNat := by
  have hw := W4_b (p := 20 * (T.length / 20) + 4 * q) h
  generalize hn : T.length = n at *
  have hp : 20 * (n / 20) + 4 * q = n - n % 4 := by omega
  rw [hp] at hw ⊢
  have g0 := h (n - n % 4)
  have g1 := h (n - n % 4 + 1)
  have g2 := h (n - n % 4 + 2)
  have g3 := h (n - n % 4 + 3)
  have z : ∀ j, n ≤ j → T.getD j 0 = 0 := fun j hj => gD_out (by omega)
  have e : ∀ j, (T ++ [b]).getD j 0 = if j = n then b else T.getD j 0 := fun j => by rw [gD_1, hn]
  rcases (show n % 4 = 0 ∨ n % 4 = 1 ∨ n % 4 = 2 ∨ n % 4 = 3 by omega) with r | r | r | r
  · rw [show (24 - 8 * ((n : Int) % 4)).toNat = 24 by omega]
    refine ⟨(W4 (fun j => T.getD j 0) (n - n % 4)).toNat, (b * 2 ^ 24).toNat, 32, by omega, by omega, by omega, ?_, ?_⟩
    · unfold W4
      simp only [z (n - n % 4) (by omega), z (n - n % 4 + 1) (by omega), z (n - n % 4 + 2) (by omega), z (n - n % 4 + 3) (by omega)]
      rfl
    · unfold W4
      simp only [e, z (n - n % 4) (by omega), z (n - n % 4 + 1) (by omega), z (n - n % 4 + 2) (by omega), z (n - n % 4 + 3) (by omega)]
      rw [if_pos (by omega), if_neg (by omega), if_neg (by omega), if_neg (by omega)]
      omega
  · rw [show (24 - 8 * ((n : Int) % 4)).toNat = 16 by omega]
    refine ⟨(W4 (fun j => T.getD j 0) (n - n % 4)).toNat, (b * 2 ^ 16).toNat, 24, by omega, by omega, by omega, ?_, ?_⟩
    · unfold W4
      simp only [z (n - n % 4 + 1) (by omega), z (n - n % 4 + 2) (by omega), z (n - n % 4 + 3) (by omega)]
      omega
    · unfold W4
      simp only [e, z (n - n % 4 + 1) (by omega), z (n - n % 4 + 2) (by omega), z (n - n % 4 + 3) (by omega)]
      rw [if_neg (by omega), if_pos (by omega), if_neg (by omega), if_neg (by omega)]
      omega
  · rw [show (24 - 8 * ((n : Int) % 4)).toNat = 8 by omega]
    refine ⟨(W4 (fun j => T.getD j 0) (n - n % 4)).toNat, (b * 2 ^ 8).toNat, 16, by omega, by omega, by omega, ?_, ?_⟩
    · unfold W4
      simp only [z (n - n % 4 + 2) (by omega), z (n - n % 4 + 3) (by omega)]
      omega
    · unfold W4
      simp only [e, z (n - n % 4 + 2) (by omega), z (n - n % 4 + 3) (by omega)]
      rw [if_neg (by omega), if_neg (by omega), if_pos (by omega), if_neg (by omega)]
      omega
  · rw [show (24 - 8 * ((n : Int) % 4)).toNat = 0 by omega]
    refine ⟨(W4 (fun j => T.getD j 0) (n - n % 4)).toNat, (b * 2 ^ 0).toNat, 8, by omega, by omega, by omega, ?_, ?_⟩
    · unfold W4
      simp only [z (n - n % 4 + 3) (by omega)]
      omega
    · unfold W4
      simp only [e, z (n - n % 4 + 3) (by omega)]
      rw [if_neg (by omega), if_neg (by omega), if_neg (by omega), if_pos (by omega)]
      omega
theorem W4_ne {T : List Int} {b : Int} {p : Nat} (h : T.length < p ∨ p + 4 ≤ T.length) : W4 (fun j => (T ++ [b]).getD j 0) p = W4 (fun j => T.getD j 0) p := by
  unfold W4
  simp only [gD_1]
  rw [if_neg (by omega), if_neg (by omega), if_neg (by omega), if_neg (by omega)]
theorem W4_out {T : List Int} {p : Nat} (h : T.length ≤ p) : W4 (fun j => T.getD j 0) p = 0 := by
  unfold W4
  simp only [gD_out (T := T) (j := p) (by omega), gD_out (T := T) (j := p + 1) (by omega), gD_out (T := T) (j := p + 2) (by omega), gD_out (T := T) (j := p + 3) (by omega)]
  rfl
theorem saF_lt (T : List Int) : saF T (T.length % 20 / 4) = W4 (fun j => T.getD j 0) (20 * (T.length / 20) + 4 * (T.length % 20 / 4)) := if_neg (by omega)
theorem sa_len {T : List Int} {b : Int} : (T ++ [b]).length = T.length + 1 := by rw [List.length_append]; rfl
theorem sa_mid {T : List Int} {b y : Int} (j : Nat) (hj : j < 5) : kup (kup (saF T) (T.length % 20 / 4) (W4 (fun j => (T ++ [b]).getD j 0) (20 * (T.length / 20) + 4 * (T.length % 20 / 4)))) 5 y j = W4 (fun j => (T ++ [b]).getD j 0) (20 * (T.length / 20) + 4 * j) := by
  rw [kup_n (by omega)]
  by_cases e : j = T.length % 20 / 4
  · rw [e, kup_s]
  · rw [kup_n e]
    show (if j = 5 then _ else _) = _
    rw [if_neg (by omega), W4_ne (by omega)]
theorem sa_fin1 {T : List Int} {b : Int} (hn : (T.length + 1) % 20 ≠ 0) (j : Nat) (hj : j < 6) : kup (kup (saF T) (T.length % 20 / 4) (W4 (fun j => (T ++ [b]).getD j 0) (20 * (T.length / 20) + 4 * (T.length % 20 / 4)))) 5 ((T.length : Int) + 1) j = saF (T ++ [b]) j := by
  by_cases e : j = 5
  · rw [e, kup_s]
    show _ = (((T ++ [b]).length : Nat) : Int)
    rw [sa_len]; rfl
  · rw [sa_mid j (by omega)]
    show _ = (if j = 5 then _ else _)
    rw [if_neg e, sa_len, show (T.length + 1) / 20 = T.length / 20 by omega]
theorem sa_fin2 {T : List Int} {b : Int} {f : Nat → Int} (hn : (T.length + 1) % 20 = 0) (h5 : f 5 = (T.length : Int) + 1) (j : Nat) (hj : j < 6) (h : ∀ j, j < 5 → f j = 0) : f j = saF (T ++ [b]) j := by
  by_cases e : j = 5
  · rw [e, h5]
    show _ = (((T ++ [b]).length : Nat) : Int)
    rw [sa_len]; rfl
  · rw [h j (by omega)]
    show _ = (if j = 5 then _ else _)
    rw [if_neg e, W4_out (by rw [sa_len]; omega)]
theorem sa_buf {T : List Int} {b : Int} {bt : Nat → Int} (h : ∀ j, 0 ≤ (T ++ [b]).getD j 0 ∧ (T ++ [b]).getD j 0 < 128) (hn : (T.length + 1) % 20 = 0) (hb : ∀ j, j < 20 * (T.length / 20) → bt j = T.getD j 0) (j : Nat) (hj : j < 20 * ((T ++ [b]).length / 20)) :
    bput5 bt (20 * (T.length / 20)) (W4 (fun j => (T ++ [b]).getD j 0) (20 * (T.length / 20) + 4 * 0)) (W4 (fun j => (T ++ [b]).getD j 0) (20 * (T.length / 20) + 4 * 1)) (W4 (fun j => (T ++ [b]).getD j 0) (20 * (T.length / 20) + 4 * 2)) (W4 (fun j => (T ++ [b]).getD j 0) (20 * (T.length / 20) + 4 * 3)) (W4 (fun j => (T ++ [b]).getD j 0) (20 * (T.length / 20) + 4 * 4)) j = (T ++ [b]).getD j 0 := by
  rw [sa_len] at hj
  generalize hc : 20 * (T.length / 20) = c at *
  have by4 : ∀ q r : Nat, r < 4 → byOf (W4 (fun j => (T ++ [b]).getD j 0) (c + 4 * q)) r = (T ++ [b]).getD (c + 4 * q + r) 0 := fun q r hr => W4_by h hr
  unfold bput5 bput
  by_cases e : j < c
  · rw [if_neg (by omega), if_neg (by omega), if_neg (by omega), if_neg (by omega), if_neg (by omega), hb j e, gD_lt (by omega)]
  · by_cases e4 : c + 16 ≤ j
    · rw [if_pos (by omega), by4 4 _ (by omega)]; congr 1; omega
    · by_cases e3 : c + 12 ≤ j
      · rw [if_neg (by omega), if_pos (by omega), by4 3 _ (by omega)]; congr 1; omega
      · by_cases e2 : c + 8 ≤ j
        · rw [if_neg (by omega), if_neg (by omega), if_pos (by omega), by4 2 _ (by omega)]; congr 1; omega
        · by_cases e1 : c + 4 ≤ j
          · rw [if_neg (by omega), if_neg (by omega), if_neg (by omega), if_pos (by omega), by4 1 _ (by omega)]; congr 1; omega
          · rw [if_neg (by omega), if_neg (by omega), if_neg (by omega), if_neg (by omega), if_pos (by omega), by4 0 _ (by omega)]; congr 1; omega
theorem sa_all {T : List Int} {b : Int} (h : ∀ j, 0 ≤ T.getD j 0 ∧ T.getD j 0 < 128) (hb : 0 ≤ b ∧ b < 128) (j : Nat) : 0 ≤ (T ++ [b]).getD j 0 ∧ (T ++ [b]).getD j 0 < 128 := by
  rw [gD_1]
  split
  · exact hb
  · exact h j
theorem bput5_ok {bt : Nat → Int} (h : btOK bt) (c : Nat) (a b d e f : Int) : btOK (bput5 bt c a b d e f) := bput_ok (bput_ok (bput_ok (bput_ok (bput_ok h _ _) _ _) _ _) _ _) _ _
