def mkN (h : Nat → Bool) : Nat → Nat
  | 0 => 0
  | k + 1 => if h k = true then 2 ^ k + mkN h k else mkN h k
theorem mkN_b (h : Nat → Bool) : ∀ k : Nat, mkN h k < 2 ^ k := by
  intro k
  induction k with
  | zero => exact Nat.one_pos
  | succ k ih =>
    have e : (2 : Nat) ^ (k + 1) = 2 ^ k + 2 ^ k := by rw [Nat.pow_succ]; omega
    show (if h k = true then 2 ^ k + mkN h k else mkN h k) < _
    split <;> omega
theorem mkN_12 (h : Nat → Bool) {k : Nat} (hk : k ≤ 12) : mkN h k < 4096 := by
  have h1 := mkN_b h k
  have h2 : (2 : Nat) ^ k ≤ 2 ^ 12 := Nat.pow_le_pow_right (by decide) hk
  have h3 : (2 : Nat) ^ 12 = 4096 := by decide
  omega
theorem mkN_t (h : Nat → Bool) : ∀ k i : Nat, (mkN h k).testBit i = (decide (i < k) && h i) := by
  intro k
  induction k with
  | zero => intro i; show Nat.testBit 0 i = _; rw [Nat.zero_testBit]; simp
  | succ k ih =>
    intro i
    have hb := mkN_b h k
    show (if h k = true then 2 ^ k + mkN h k else mkN h k).testBit i = _
    by_cases hk : h k = true
    · rw [if_pos hk]
      have e := Nat.testBit_two_pow_mul_add 1 hb i
      rw [Nat.mul_one] at e
      rw [e]
      by_cases q : i < k
      · rw [if_pos q, ih, decide_eq_true q, decide_eq_true (show i < k + 1 by omega)]
      · rw [if_neg q]
        by_cases q2 : i = k
        · subst q2; rw [Nat.sub_self, decide_eq_true (Nat.lt_succ_self i), hk]; rfl
        · rw [decide_eq_false (show ¬ i < k + 1 by omega), Bool.false_and]
          obtain ⟨m, hm⟩ : ∃ m, i - k = m + 1 := ⟨i - k - 1, by omega⟩
          rw [hm, Nat.testBit_succ]; show Nat.testBit 0 m = false; exact Nat.zero_testBit m
    · rw [if_neg hk, ih]
      by_cases q2 : i = k
      · subst q2; rw [decide_eq_false (Nat.lt_irrefl i), Bool.false_and]; simp [hk]
      · by_cases q : i < k
        · rw [decide_eq_true q, decide_eq_true (show i < k + 1 by omega)]
        · rw [decide_eq_false q, decide_eq_false (show ¬ i < k + 1 by omega)]
theorem mkN_or (h g : Nat → Bool) (k : Nat) : mkN h k ||| mkN g k = mkN (fun i => h i || g i) k := Nat.eq_of_testBit_eq (fun i => by
  rw [Nat.testBit_or, mkN_t, mkN_t, mkN_t]; cases decide (i < k) <;> simp)
theorem mkN_and (h g : Nat → Bool) (k : Nat) : mkN h k &&& mkN g k = mkN (fun i => h i && g i) k := Nat.eq_of_testBit_eq (fun i => by
  rw [Nat.testBit_and, mkN_t, mkN_t, mkN_t]; cases decide (i < k) <;> simp)
theorem mkN_not (h : Nat → Bool) : ∀ k : Nat, mkN (fun i => !h i) k + mkN h k + 1 = 2 ^ k := by
  intro k
  induction k with
  | zero => rfl
  | succ k ih =>
    show (if (!h k) = true then 2 ^ k + mkN (fun i => !h i) k else mkN (fun i => !h i) k) + (if h k = true then 2 ^ k + mkN h k else mkN h k) + 1 = _
    have e : (2 : Nat) ^ (k + 1) = 2 ^ k + 2 ^ k := by rw [Nat.pow_succ]; omega
    cases hk : h k
    · rw [if_pos (show (!false) = true from rfl), if_neg (show ¬ false = true by decide)]; omega
    · rw [if_neg (show ¬ (!true) = true by decide), if_pos (show true = true from rfl)]; omega
theorem mkN_c {h g : Nat → Bool} : ∀ k : Nat, (∀ i, i < k → h i = g i) → mkN h k = mkN g k := by
  intro k
  induction k with
  | zero => intro _; rfl
  | succ k ih =>
    intro q
    show (if h k = true then _ else _) = (if g k = true then _ else _)
    rw [ih (fun i hi => q i (by omega)), q k (by omega)]
theorem i32_or (a b : Nat) : Int32.ofInt (a : Int) ||| Int32.ofInt (b : Int) = Int32.ofInt ((a ||| b : Nat) : Int) := by
  apply Int32.toBitVec_inj.mp
  show BitVec.ofInt 32 (a : Int) ||| BitVec.ofInt 32 (b : Int) = BitVec.ofInt 32 ((a ||| b : Nat) : Int)
  rw [BitVec.ofInt_natCast, BitVec.ofInt_natCast, BitVec.ofInt_natCast, BitVec.ofNat_or]
theorem i32_and (a b : Nat) : Int32.ofInt (a : Int) &&& Int32.ofInt (b : Int) = Int32.ofInt ((a &&& b : Nat) : Int) := by
  apply Int32.toBitVec_inj.mp
  show BitVec.ofInt 32 (a : Int) &&& BitVec.ofInt 32 (b : Int) = BitVec.ofInt 32 ((a &&& b : Nat) : Int)
  rw [BitVec.ofInt_natCast, BitVec.ofInt_natCast, BitVec.ofInt_natCast, BitVec.ofNat_and]
theorem i32_not0 : ∀ x y : Fin 64, Int32.ofInt ((64 * x.val + y.val : Nat) : Int) ^^^ Int32.ofInt (-1) = Int32.ofInt (-1 - ((64 * x.val + y.val : Nat) : Int)) := by decide +kernel
theorem i32_not {a : Nat} (ha : a < 4096) : Int32.ofInt (a : Int) ^^^ Int32.ofInt (-1) = Int32.ofInt (-1 - (a : Int)) := by
  have h := i32_not0 ⟨a / 64, by omega⟩ ⟨a % 64, by omega⟩
  rw [show 64 * (a / 64) + a % 64 = a by omega] at h
  exact h
theorem i32_shl : ∀ k : Fin 13, Int32.ofInt 1 <<< (Int32.ofInt ((k.val : Nat) : Int) &&& 31) = Int32.ofInt ((2 ^ k.val : Nat) : Int) := by decide +kernel
theorem i32_all0 : ∀ k : Fin 13, ∀ x y : Fin 64, 64 * x.val + y.val < 2 ^ k.val → Int32.ofInt ((2 ^ k.val : Nat) - 1 : Int) &&& Int32.ofInt (-1 - ((64 * x.val + y.val : Nat) : Int)) = Int32.ofInt ((2 ^ k.val - 1 - (64 * x.val + y.val) : Nat) : Int) := by decide +kernel
theorem i32_all {k a : Nat} (hk : k < 13) (ha : a < 4096) (hab : a < 2 ^ k) : Int32.ofInt ((2 ^ k : Nat) - 1 : Int) &&& Int32.ofInt (-1 - (a : Int)) = Int32.ofInt ((2 ^ k - 1 - a : Nat) : Int) := by
  have h := i32_all0 ⟨k, hk⟩ ⟨a / 64, by omega⟩ ⟨a % 64, by omega⟩
  rw [show 64 * (a / 64) + a % 64 = a by omega] at h
  exact h hab
section KL8
variable {p : Program} {l : Launch} {e : Env} {R : Room} {s : State} {m : MethodId} {args : Array Value} {below : List Frame} {meth : Method} {c : Code} {Q : State → Prop} {cc : ByteArray} {own : String} {nL d0 mc0 ms0 : Nat} {G : kG} {w : Nat → va_E} {fl : va_W} {cells slots pc : Nat} {lv : List (Nat × Value)} {st : List Value}
theorem k_iorN (hC : kC p l R s m args meth c cc own nL G d0 mc0 ms0) {a b : Nat} (d : decode cc pc = .ok (.ior, 1)) (k : KW p l e R s m args below meth c nL G Q w fl cells slots (pc + 1) lv (vI ((a ||| b : Nat) : Int) :: st)) : KW p l e R s m args below meth c nL G Q w fl cells slots pc lv (vI (b : Int) :: vI (a : Int) :: st) := fun H locs ls h1 h2 h3 h4 => lv_ior hC.1 hC.2.1 d (by rw [i32_or]; exact k H locs ls h1 h2 h3 h4)
theorem k_iandN (hC : kC p l R s m args meth c cc own nL G d0 mc0 ms0) {a b : Nat} (d : decode cc pc = .ok (.iand, 1)) (k : KW p l e R s m args below meth c nL G Q w fl cells slots (pc + 1) lv (vI ((a &&& b : Nat) : Int) :: st)) : KW p l e R s m args below meth c nL G Q w fl cells slots pc lv (vI (b : Int) :: vI (a : Int) :: st) := fun H locs ls h1 h2 h3 h4 => lv_iand hC.1 hC.2.1 d (by rw [i32_and]; exact k H locs ls h1 h2 h3 h4)
theorem k_inotN (hC : kC p l R s m args meth c cc own nL G d0 mc0 ms0) {a : Nat} (ha : a < 4096) (d : decode cc pc = .ok (.ixor, 1)) (k : KW p l e R s m args below meth c nL G Q w fl cells slots (pc + 1) lv (vI (-1 - (a : Int)) :: st)) : KW p l e R s m args below meth c nL G Q w fl cells slots pc lv (vI (-1) :: vI (a : Int) :: st) := fun H locs ls h1 h2 h3 h4 => lv_ixor hC.1 hC.2.1 d (by rw [i32_not ha]; exact k H locs ls h1 h2 h3 h4)
theorem k_iallN (hC : kC p l R s m args meth c cc own nL G d0 mc0 ms0) {a n : Nat} (hn : n < 13) (ha : a < 4096) (hab : a < 2 ^ n) (d : decode cc pc = .ok (.iand, 1)) (k : KW p l e R s m args below meth c nL G Q w fl cells slots (pc + 1) lv (vI ((2 ^ n - 1 - a : Nat) : Int) :: st)) : KW p l e R s m args below meth c nL G Q w fl cells slots pc lv (vI (-1 - (a : Int)) :: vI ((2 ^ n : Nat) - 1 : Int) :: st) := fun H locs ls h1 h2 h3 h4 => lv_iand hC.1 hC.2.1 d (by rw [i32_all hn ha hab]; exact k H locs ls h1 h2 h3 h4)
theorem k_ishl1 (hC : kC p l R s m args meth c cc own nL G d0 mc0 ms0) {n : Nat} (hn : n < 13) (d : decode cc pc = .ok (.ishl, 1)) (k : KW p l e R s m args below meth c nL G Q w fl cells slots (pc + 1) lv (vI ((2 ^ n : Nat) : Int) :: st)) : KW p l e R s m args below meth c nL G Q w fl cells slots pc lv (vI (n : Int) :: vI 1 :: st) := fun H locs ls h1 h2 h3 h4 => lv_ishl hC.1 hC.2.1 d (by rw [i32_shl ⟨n, hn⟩]; exact k H locs ls h1 h2 h3 h4)
end KL8
