/-! the builder: its text, its room -/
def sbC (G : kG) (w : Nat → va_E) (fl : va_W) (T : List Int) (cap : Nat) : Prop := ∃ (q : Nat) (f : Nat → Int) (ml : Value), fl = [(q, bA G cap f)] ∧ w 132 = .inr (13, [.ref q, vI 0, ml, vI (T.length : Int)]) ∧ (cap = 16 ∨ cap = 34) ∧ T.length ≤ cap ∧ (∀ j, -128 ≤ f j ∧ f j < 128) ∧ cdR f T.length T
theorem cdR_app {f f1 : Nat → Int} {T L : List Int} (h : cdR f T.length T) (h0 : ∀ j, j < T.length → f1 j = f j) (h1 : ∀ i, i < L.length → f1 (T.length + i) = L.getD i 0) : cdR f1 (T ++ L).length (T ++ L) := by
  refine ⟨rfl, fun j hj => ?_⟩
  rw [List.length_append] at hj
  rw [List.getD_eq_getElem?_getD]
  by_cases hq : j < T.length
  · rw [List.getElem?_append_left hq, ← List.getD_eq_getElem?_getD, h0 j hq]
    exact h.2 j hq
  · rw [List.getElem?_append_right (by omega), ← List.getD_eq_getElem?_getD]
    have := h1 (j - T.length) (by omega)
    rw [show T.length + (j - T.length) = j by omega] at this
    exact this
theorem kup_8 {f : Nat → Int} {i : Nat} {x : Int} (h : ∀ j, -128 ≤ f j ∧ f j < 128) (hx : -128 ≤ x ∧ x < 128) : ∀ j, -128 ≤ kup f i x j ∧ kup f i x j < 128 := fun j => by
  unfold kup; split
  · exact hx
  · exact h j
theorem cpy_8 {f g : Nat → Int} {a b n : Nat} (h : ∀ j, -128 ≤ f j ∧ f j < 128) (h1 : ∀ j, -128 ≤ g j ∧ g j < 128) : ∀ j, -128 ≤ va_cpy f g a b n j ∧ va_cpy f g a b n j < 128 := fun j => by
  unfold va_cpy; split
  · exact h _
  · exact h1 j
theorem dg_more (b k0 : Int) (hb : b = 10) : ∀ (k : Nat) (n : Int), 0 ≤ n → n < 10 ^ (k + 1) → dgN b k0 (k + 1) n = dgN b k0 k n := by
  subst hb
  intro k
  induction k with
  | zero =>
    intro n h0 h1
    show (if (10 : Int) - 1 < n then _ else []) ++ _ = _
    rw [if_neg (by have : (10 : Int) ^ (0 + 1) = 10 := rfl; omega)]
    rfl
  | succ k ih =>
    intro n h0 h1
    have e : (10 : Int) ^ (k + 1 + 1) = 10 ^ (k + 1) * 10 := Int.pow_succ _ _
    have := ih (n / 10) (by omega) (by omega)
    show (if (10 : Int) - 1 < n then dgN 10 k0 (k + 1) (n / 10) else []) ++ _ = (if (10 : Int) - 1 < n then dgN 10 k0 k (n / 10) else []) ++ _
    rw [this]
theorem dg4_1 {x : Int} (h : 0 ≤ x ∧ x < 10) : dgN 10 48 4 x = [48 + x] := by
  rw [dg_more 10 48 rfl 3 x h.1 (by have : (10 : Int) ^ (3 + 1) = 10000 := rfl; omega), dg_more 10 48 rfl 2 x h.1 (by have : (10 : Int) ^ (2 + 1) = 1000 := rfl; omega), dg_more 10 48 rfl 1 x h.1 (by have : (10 : Int) ^ (1 + 1) = 100 := rfl; omega), dg_more 10 48 rfl 0 x h.1 (by have : (10 : Int) ^ (0 + 1) = 10 := rfl; omega)]
  show [48 + x % 10] = _
  rw [show x % 10 = x by omega]
theorem dg4_s {k : Nat} {x : Int} (h : 9 < x) : dgN 10 48 (k + 1) x = dgN 10 48 k (x / 10) ++ [48 + x % 10] := by
  show (if (10 : Int) - 1 < x then _ else []) ++ _ = _
  rw [if_pos (by omega)]
theorem dg3_1 {x : Int} (h : 0 ≤ x ∧ x < 10) : dgN 10 48 3 x = [48 + x] := by
  rw [← dg_more 10 48 rfl 3 x h.1 (by have : (10 : Int) ^ (3 + 1) = 10000 := rfl; omega)]; exact dg4_1 h
theorem dg2_1 {x : Int} (h : 0 ≤ x ∧ x < 10) : dgN 10 48 2 x = [48 + x] := by
  rw [← dg_more 10 48 rfl 2 x h.1 (by have : (10 : Int) ^ (2 + 1) = 1000 := rfl; omega)]; exact dg3_1 h
theorem dg1_1 {x : Int} (h : 0 ≤ x ∧ x < 10) : dgN 10 48 1 x = [48 + x] := by
  rw [← dg_more 10 48 rfl 1 x h.1 (by have : (10 : Int) ^ (1 + 1) = 100 := rfl; omega)]; exact dg2_1 h
theorem dg0_1 {x : Int} (h : 0 ≤ x ∧ x < 10) : dgN 10 48 0 x = [48 + x] := by
  show [48 + x % 10] = _
  rw [show x % 10 = x by omega]
theorem dg4_2 {x : Int} (h : 10 ≤ x ∧ x < 100) : dgN 10 48 4 x = [48 + x / 10, 48 + x % 10] := by
  rw [dg4_s (by omega), dg3_1 (by omega)]; rfl
theorem dg4_3 {x : Int} (h : 100 ≤ x ∧ x < 1000) : dgN 10 48 4 x = [48 + x / 100, 48 + x / 10 % 10, 48 + x % 10] := by
  rw [dg4_s (by omega), dg4_s (by omega), dg2_1 (by omega), show x / 10 / 10 = x / 100 by omega]; rfl
theorem dg4_4 {x : Int} (h : 1000 ≤ x ∧ x < 10000) : dgN 10 48 4 x = [48 + x / 1000, 48 + x / 100 % 10, 48 + x / 10 % 10, 48 + x % 10] := by
  rw [dg4_s (by omega), dg4_s (by omega), dg4_s (by omega), dg1_1 (by omega), show x / 10 / 10 / 10 = x / 1000 by omega, show x / 10 / 10 = x / 100 by omega]; rfl
theorem dg4_5 {x : Int} (h : 10000 ≤ x ∧ x < 100000) : dgN 10 48 4 x = [48 + x / 10000, 48 + x / 1000 % 10, 48 + x / 100 % 10, 48 + x / 10 % 10, 48 + x % 10] := by
  rw [dg4_s (by omega), dg4_s (by omega), dg4_s (by omega), dg4_s (by omega), dg0_1 (by omega), show x / 10 / 10 / 10 / 10 = x / 10000 by omega, show x / 10 / 10 / 10 = x / 1000 by omega, show x / 10 / 10 = x / 100 by omega]; rfl
theorem dg4_1' {x : Int} (h : 0 ≤ x ∧ x < 100) : dgN 10 48 4 x = dgN 10 48 1 x := by
  rw [dg_more 10 48 rfl 3 x h.1 (by have : (10 : Int) ^ (3 + 1) = 10000 := rfl; omega), dg_more 10 48 rfl 2 x h.1 (by have : (10 : Int) ^ (2 + 1) = 1000 := rfl; omega), dg_more 10 48 rfl 1 x h.1 (by have : (10 : Int) ^ (1 + 1) = 100 := rfl; omega)]
theorem dg4_2' {x : Int} (h : 0 ≤ x ∧ x < 1000) : dgN 10 48 4 x = dgN 10 48 2 x := by
  rw [dg_more 10 48 rfl 3 x h.1 (by have : (10 : Int) ^ (3 + 1) = 10000 := rfl; omega), dg_more 10 48 rfl 2 x h.1 (by have : (10 : Int) ^ (2 + 1) = 1000 := rfl; omega)]
theorem nm_dg {f : Nat → Int} : ∀ k : Nat, (∀ i, i < k + 1 → 97 ≤ f i ∧ f i ≤ 122) → dgN 27 96 k (nmG f (k + 1)) = (List.range (k + 1)).map f := by
  intro k
  induction k with
  | zero =>
    intro h
    have h0 := h 0 (by omega)
    show [96 + (27 * 0 + (f 0 - 96)) % 27] = [f 0]
    rw [show (96 : Int) + (27 * 0 + (f 0 - 96)) % 27 = f 0 by omega]
  | succ k ih =>
    intro h
    have h0 := h (k + 1) (by omega)
    have hb := nmG_b (f := f) (k + 1) (fun i hi => h i (by omega))
    have hp := hb.2 (by omega)
    have e : nmG f (k + 1 + 1) = 27 * nmG f (k + 1) + (f (k + 1) - 96) := rfl
    rw [List.range_succ, List.map_append, ← ih (fun i hi => h i (by omega)), e]
    show (if (27 : Int) - 1 < _ then _ else []) ++ _ = _
    rw [if_pos (by omega), show (27 * nmG f (k + 1) + (f (k + 1) - 96)) / 27 = nmG f (k + 1) by omega, show (96 : Int) + (27 * nmG f (k + 1) + (f (k + 1) - 96)) % 27 = f (k + 1) by omega]
    rfl
theorem dg27_more (k0 : Int) : ∀ (k : Nat) (n : Int), 0 ≤ n → n < 27 ^ (k + 1) → dgN 27 k0 (k + 1) n = dgN 27 k0 k n := by
  intro k
  induction k with
  | zero =>
    intro n h0 h1
    show (if (27 : Int) - 1 < n then _ else []) ++ _ = _
    rw [if_neg (by have : (27 : Int) ^ (0 + 1) = 27 := rfl; omega)]
    rfl
  | succ k ih =>
    intro n h0 h1
    have e : (27 : Int) ^ (k + 1 + 1) = 27 ^ (k + 1) * 27 := Int.pow_succ _ _
    have := ih (n / 27) (by omega) (by omega)
    show (if (27 : Int) - 1 < n then dgN 27 k0 (k + 1) (n / 27) else []) ++ _ = (if (27 : Int) - 1 < n then dgN 27 k0 k (n / 27) else []) ++ _
    rw [this]
theorem p27_le (k : Nat) : ∀ d : Nat, 0 < (27 : Int) ^ k ∧ (27 : Int) ^ k ≤ 27 ^ (k + d) := by
  have h0 : 0 < (27 : Int) ^ k := by
    induction k with
    | zero => decide
    | succ k ih => rw [Int.pow_succ]; omega
  intro d
  induction d with
  | zero => exact ⟨h0, Int.le_refl _⟩
  | succ d ih =>
    refine ⟨h0, ?_⟩
    have e : (27 : Int) ^ (k + (d + 1)) = 27 ^ (k + d) * 27 := Int.pow_succ _ _
    omega
theorem dg27_up (k0 : Int) {k : Nat} {n : Int} (h0 : 0 ≤ n) (h : n < 27 ^ (k + 1)) : ∀ d : Nat, dgN 27 k0 (k + d) n = dgN 27 k0 k n := by
  intro d
  induction d with
  | zero => rfl
  | succ d ih =>
    have h2 : (27 : Int) ^ (k + 1) ≤ 27 ^ (k + d + 1) := by have z := (p27_le (k + 1) d).2; rw [show k + 1 + d = k + d + 1 by omega] at z; exact z
    rw [show k + (d + 1) = k + d + 1 by omega, dg27_more k0 (k + d) n h0 (Int.lt_of_lt_of_le h h2), ih]
theorem nmG_lt {f : Nat → Int} : ∀ k : Nat, (∀ i, i < k → 97 ≤ f i ∧ f i ≤ 122) → nmG f k < 27 ^ k := by
  intro k
  induction k with
  | zero => intro _; show (0 : Int) < 1; decide
  | succ k ih =>
    intro h
    have h0 := h k (by omega)
    have h1 := ih (fun i hi => h i (by omega))
    have e : (27 : Int) ^ (k + 1) = 27 ^ k * 27 := Int.pow_succ _ _
    show 27 * nmG f k + (f k - 96) < _
    omega
theorem nm_dg7 {f : Nat → Int} {k : Nat} (hk : 1 ≤ k ∧ k ≤ 8) (h : ∀ i, i < k → 97 ≤ f i ∧ f i ≤ 122) : dgN 27 96 7 (nmG f k) = (List.range k).map f := by
  obtain ⟨m, rfl⟩ : ∃ m, k = m + 1 := ⟨k - 1, by omega⟩
  have h1 := dg27_up 96 (k := m) (nmG_b (m + 1) h).1 (nmG_lt (m + 1) h) (7 - m)
  rw [show m + (7 - m) = 7 by omega] at h1
  rw [h1]
  exact nm_dg m h
section
variable {p : Program} {l : Launch} {e : Env} {R : Room} {s : State} {m : MethodId} {args : Array Value} {below : List Frame} {meth : Method} {c : Code} {cc : ByteArray} {own : String} {nL : Nat} {G : kG} {d0 mc0 ms0 : Nat} {Q : State → Prop} {w : Nat → va_E} {fl : va_W} {cells slots pc : Nat} {lv : List (Nat × Value)} {st : List Value}
theorem k_dgs1 (hC : kC p l R s m args meth c cc own nL G d0 mc0 ms0) {i : Nat} (hw : Cond.fieldLink own i RJ6 "DigitOnes" "[B" ∈ kwords) (d : decode cc pc = .ok (.getstatic i, 3)) (k : KW p l e R s m args below meth c nL G Q w fl cells slots (pc + 3) lv (.ref (kt1 G) :: st)) : KW p l e R s m args below meth c nL G Q w fl cells slots pc lv st := fun H locs ls h1 h2 h3 h4 => va_gets hC.1 hC.2.1 hC.2.2.2.2.2.2.1.2.2.1.1 h3 hC.2.2.2.1 (hC.2.2.2.2.1 _ hw) (fun x hx => hx) d (k H locs ls h1 h2 h3 h4)
theorem k_dgs2 (hC : kC p l R s m args meth c cc own nL G d0 mc0 ms0) {i : Nat} (hw : Cond.fieldLink own i RJ6 "DigitTens" "[B" ∈ kwords) (d : decode cc pc = .ok (.getstatic i, 3)) (k : KW p l e R s m args below meth c nL G Q w fl cells slots (pc + 3) lv (.ref (kt2 G) :: st)) : KW p l e R s m args below meth c nL G Q w fl cells slots pc lv st := fun H locs ls h1 h2 h3 h4 => va_gets hC.1 hC.2.1 hC.2.2.2.2.2.2.1.2.2.2.1.1 h3 hC.2.2.2.1 (hC.2.2.2.2.1 _ hw) (fun x hx => hx) d (k H locs ls h1 h2 h3 h4)
theorem k_bald1 (hC : kC p l R s m args meth c cc own nL G d0 mc0 ms0) {i : Int} (hi : 0 ≤ i ∧ i < 100) (d : decode cc pc = .ok (.baload, 1)) (k : KW p l e R s m args below meth c nL G Q w fl cells slots (pc + 1) lv (vI (48 + i % 10) :: st)) : KW p l e R s m args below meth c nL G Q w fl cells slots pc lv (vI i :: .ref (kt1 G) :: st) := fun H locs ls h1 h2 h3 h4 => va_tb hC.1 hC.2.1 hC.2.2.2.2.2.2.1.2.2.1.2 h3 (k_in (n := 100) hi (by omega)) (v := vI (48 + i % 10)) (by
  rw [k_nat (by omega)]
  show Value.int (Int32.ofInt ((48 + i.toNat % 10 : Nat) : Int)) = .int (Int32.ofInt (48 + i % 10))
  rw [show ((48 + i.toNat % 10 : Nat) : Int) = 48 + i % 10 by omega]) d (k H locs ls h1 h2 h3 h4)
theorem k_bald2 (hC : kC p l R s m args meth c cc own nL G d0 mc0 ms0) {i : Int} (hi : 0 ≤ i ∧ i < 100) (d : decode cc pc = .ok (.baload, 1)) (k : KW p l e R s m args below meth c nL G Q w fl cells slots (pc + 1) lv (vI (48 + i / 10) :: st)) : KW p l e R s m args below meth c nL G Q w fl cells slots pc lv (vI i :: .ref (kt2 G) :: st) := fun H locs ls h1 h2 h3 h4 => va_tb hC.1 hC.2.1 hC.2.2.2.2.2.2.1.2.2.2.1.2 h3 (k_in (n := 100) hi (by omega)) (v := vI (48 + i / 10)) (by
  rw [k_nat (by omega)]
  show Value.int (Int32.ofInt ((48 + i.toNat / 10 : Nat) : Int)) = .int (Int32.ofInt (48 + i / 10))
  rw [show ((48 + i.toNat / 10 : Nat) : Int) = 48 + i / 10 by omega]) d (k H locs ls h1 h2 h3 h4)
theorem k_ishr0 (hC : kC p l R s m args meth c cc own nL G d0 mc0 ms0) {a : Int} (d : decode cc pc = .ok (.ishr, 1)) (k : KW p l e R s m args below meth c nL G Q w fl cells slots (pc + 1) lv (vI a :: st)) : KW p l e R s m args below meth c nL G Q w fl cells slots pc lv (vI 0 :: vI a :: st) := fun H locs ls h1 h2 h3 h4 => lv_ishr hC.1 hC.2.1 d (by rw [show Int32.ofInt 0 = 0 from rfl, sb_shr0]; exact k H locs ls h1 h2 h3 h4)
theorem k_copyS (hC : kC p l R s m args meth c cc own nL G d0 mc0 ms0) {q t n1 ix : Nat} {g : Nat → Int} {b n : Int} (ht : t < kNs) (hl : Cond.methodLink own ix arraycopyName ∈ kwords) (hz : Cond.native arraycopyName ∈ kwords ∧ Cond.static arraycopyName ∈ kwords ∧ Cond.initialized "java/lang/System" ∈ kwords)
    (hn : n = (stL t : Int)) (hb : 0 ≤ b) (h1 : b + n ≤ n1) (hs : n1 ≤ 1000) (hd : 2 ≤ d0) (hcat : (st.map fun v => v.category).sum ≤ 8) (d : decode cc pc = .ok (.invokestatic ix, 3))
    (kk : KW p l e R s m args below meth c nL G Q w [(q, bA G n1 (va_cpy (stC t) g 0 b.toNat n.toNat))] cells slots (pc + 3) lv st) : KW p l e R s m args below meth c nL G Q w [(q, bA G n1 g)] cells slots pc lv (vI n :: vI b :: .ref q :: vI 0 :: .ref (kadV G t) :: st) := by
  intro H locs ls g1 g2 g3 g4 T hT X
  obtain ⟨z1, z2, z3⟩ := hz
  have hx := hC.2.2.2.2.2.2.2.2.2.1
  have h9 : nativeFrameWords "java/lang/System" "arraycopy" 5 + 11 ≤ 100 := by decide
  have hL := stL_b ht
  obtain ⟨cS, s1, ⟨s2, kS0, s3, s4, s5⟩, s6, s7, s8, s9, s10⟩ := (hC.2.2.2.2.2.2.1.2.2.2.2.1 t ht).2.2.2
  have hc0 : H[kadV G t]? = some cS := (g3.2.1 _ (Array.getElem?_eq_some_iff.mp s1).1 s10).trans s1
  have ha1 : (kws G w [(q, bA G n1 g)])[kN G + 0]? = some (q, bA G n1 g) := by rw [kws_fl]; rfl
  have hc1 : H[q]? = some (vp_cell (kTT G 2) (n1, .inl (fun j => if j < n1 then Int32.ofInt (g j) else 0))) := g1 _ _ ha1
  obtain ⟨-, kD1, d1, d2, d3⟩ := (hC.2.2.2.2.2.1.2 2 (kTT G 2, .byte) rfl).1 n1 (fun j => .int (if j < n1 then Int32.ofInt (g j) else 0))
  have hbt : ∀ j, j < stL t → cS.slots[j]? = some (.int (Int32.ofInt (stC t j))) := fun j hj => by
    rw [s9 j hj]
    show some (Value.int ((kByt.getD t []).getD j 0)) = some (.int (Int32.ofInt ((kByt.getD t []).getD j 0).toInt))
    rw [Int32.ofInt_toInt]
  have e0 : (Int32.ofInt 0).toNatClampNeg = 0 := k_nat (a := 0) (by omega)
  have eb : (Int32.ofInt b).toNatClampNeg = b.toNat := k_nat (by omega)
  have en : (Int32.ofInt n).toNatClampNeg = n.toNat := k_nat (by omega)
  have i0 : (Int32.ofInt 0).toInt = 0 := rfl
  have ib : (Int32.ofInt b).toInt = b := k_t32 (by omega)
  have inn : (Int32.ofInt n).toInt = n := k_t32 (by omega)
  obtain ⟨vm', X', step⟩ := X.arraycopy hC.1 hC.2.2.2.1 (hC.2.2.2.2.1 _ hl) (hC.2.2.2.2.1 _ z1) (hC.2.2.2.2.1 _ z2) (hC.2.2.2.2.1 _ z3) (src := kadV G t) (dst := q) (cs := cS) (cd := vp_cell (kTT G 2) (n1, .inl (fun j => if j < n1 then Int32.ofInt (g j) else 0))) (srcPos := Int32.ofInt 0) (destPos := Int32.ofInt b) (n := Int32.ofInt n) (by rw [hT]; exact hc0) (by rw [hT]; exact hc1)
    s2 (fun _ h => by cases h) s6 (fun h => by cases h) s3 d1 s5 d3 (by simp [refKind]) (k_nn (a := 0) (by omega)) (k_nn (by omega)) (k_nn (by omega))
    (by rw [i0, inn]; show ¬ _ > (cS.slots.size : Int); have : stL t ≤ cS.slots.size := s7; omega)
    (by rw [ib, inn]; show ¬ _ > ((arrV _ n1 (fun j => .int (if j < n1 then Int32.ofInt (g j) else 0))).slots.size : Int); rw [arrV_size]; omega)
    (fun vm₁ _ i hi => by
      rw [en] at hi
      have e : cS.slots.getD ((Int32.ofInt 0).toNatClampNeg + i) .null = .int (Int32.ofInt (stC t i)) := by
        rw [e0, Nat.zero_add, Array.getD_eq_getD_getElem?, hbt i (by omega)]; rfl
      have hr := stC_r ht (i := i) (by omega)
      refine ⟨?_, ?_⟩
      · rw [e]; exact k_fit8 (by omega)
      · rw [e]; exact trivial)
    (g := F0 m pc ls (vI n :: vI b :: .ref q :: vI 0 :: .ref (kadV G t) :: st)) rfl (by rw [hC.2.2.1]; exact g4.1) (rest := st) rfl (by rw [hC.2.1]; exact d) (by omega) (by show 2 * 0 + _ + _ ≤ _; omega)
  have e1 : copied cS (vp_cell (kTT G 2) (n1, .inl (fun j => if j < n1 then Int32.ofInt (g j) else 0))) (Int32.ofInt 0) (Int32.ofInt b) (Int32.ofInt n) = vp_cell (kTT G 2) (n1, .inl (fun j => if j < n1 then Int32.ofInt (va_cpy (stC t) g 0 b.toNat n.toNat j) else 0)) := by
    have := va_copiedX (fun z => Value.int z) cS (kTT G 2) (n0 := stL t) (n1 := n1) (sp := (Int32.ofInt 0).toNatClampNeg) (dp := (Int32.ofInt b).toNatClampNeg) (n := (Int32.ofInt n).toNatClampNeg) (fun j => if j < stL t then Int32.ofInt (stC t j) else 0) (fun j => if j < n1 then Int32.ofInt (g j) else 0) (fun j hj => by rw [if_pos hj]; exact hbt j hj) (by rw [e0, en]; omega)
    rw [e0, eb, en, k_cpy_eq (stC t) g (by omega) (by omega)] at this
    refine Eq.trans ?_ this
    rw [← e0, ← eb, ← en]
    rfl
  rw [e1] at X' step
  have hl8 : q < H.size := (Array.getElem?_eq_some_iff.mp hc1).1
  have hheap : ((T.setVm vm').setCell q (vp_cell (kTT G 2) (n1, .inl (fun j => if j < n1 then Int32.ofInt (va_cpy (stC t) g 0 b.toNat n.toNat j) else 0)))).heap = H.setIfInBounds q (vp_cell (kTT G 2) (n1, .inl (fun j => if j < n1 then Int32.ofInt (va_cpy (stC t) g 0 b.toNat n.toNat j) else 0))) := by rw [← hT]; rfl
  have oq : ∀ a : Nat, a ≠ q → (H.setIfInBounds q (vp_cell (kTT G 2) (n1, .inl (fun j => if j < n1 then Int32.ofInt (va_cpy (stC t) g 0 b.toNat n.toNat j) else 0))))[a]? = H[a]? := fun a ha => by simp [Array.getElem?_setIfInBounds, Ne.symm ha]
  have gP := g1.set g2 ha1 (e := bA G n1 (va_cpy (stC t) g 0 b.toNat n.toNat)) (H1 := H.setIfInBounds q (vp_cell (kTT G 2) (n1, .inl (fun j => if j < n1 then Int32.ofInt (va_cpy (stC t) g 0 b.toNat n.toNat j) else 0)))) (show (H.setIfInBounds q _)[q]? = some _ by simp [Array.getElem?_setIfInBounds, hl8]) oq
  have gD := g2.set (e := bA G n1 (va_cpy (stC t) g 0 b.toNat n.toNat)) ha1
  rw [kws_setfl] at gP gD
  obtain ⟨t9, a9, b9⟩ := kk _ _ ls gP gD ⟨by simp; exact g3.1, fun a h5 h6 => by
      rw [oq a (fun e => h6 (by rw [e]; exact g2.2 _ _ ha1))]
      exact g3.2.1 a h5 h6, fun a ha => by
      rcases List.mem_append.mp ha with h | h
      · exact g3.2.2 a h
      · obtain ⟨z, -, hz⟩ := List.mem_map.mp h
        rw [← hz]
        exact g2.2 _ _ ha1⟩ g4 _ hheap X'
  exact ⟨t9, step t9 a9, b9⟩
end
