def bc1 (a : Nat) : Nat := a - (a / 2 ^ 1 &&& 1431655765)
def bc2 (a : Nat) : Nat := (a &&& 858993459) + (a / 2 ^ 2 &&& 858993459)
def bc3 (a : Nat) : Nat := (a + a / 2 ^ 4) &&& 252645135
def bc4 (a : Nat) : Nat := a + a / 2 ^ 8
def bc5 (a : Nat) : Nat := a + a / 2 ^ 16
theorem bc_0 : ∀ x y : Fin 64, (bc1 (64 * x.val + y.val) < 4096 ∧ bc2 (bc1 (64 * x.val + y.val)) < 4096 ∧ bc3 (bc2 (bc1 (64 * x.val + y.val))) < 4000) ∧ (((bc5 (bc4 (bc3 (bc2 (bc1 (64 * x.val + y.val))))) &&& 63 : Nat) : Int) = ctF (fun i => (64 * x.val + y.val).testBit i) 12) := by decide +kernel
theorem bc_a {a : Nat} (ha : a < 4096) : (bc1 a < 4096 ∧ bc2 (bc1 a) < 4096 ∧ bc3 (bc2 (bc1 a)) < 4000) ∧ (((bc5 (bc4 (bc3 (bc2 (bc1 a)))) &&& 63 : Nat) : Int) = ctF (fun i => a.testBit i) 12) := by
  have h := bc_0 ⟨a / 64, by omega⟩ ⟨a % 64, by omega⟩
  rw [show 64 * (a / 64) + a % 64 = a by omega] at h
  exact h
theorem i32_ushr0 : ∀ x y : Fin 64, ∀ q : Fin 5, ((Int32.ofInt ((64 * x.val + y.val : Nat) : Int)).toUInt32 >>> ((Int32.ofInt ((2 ^ q.val : Nat) : Int)).toUInt32 &&& Int32.toUInt32 31)).toInt32 = Int32.ofInt (((64 * x.val + y.val) / 2 ^ (2 ^ q.val) : Nat) : Int) := by decide +kernel
theorem i32_ushr {a q : Nat} (ha : a < 4096) (hq : q < 5) : ((Int32.ofInt (a : Int)).toUInt32 >>> ((Int32.ofInt ((2 ^ q : Nat) : Int)).toUInt32 &&& Int32.toUInt32 31)).toInt32 = Int32.ofInt ((a / 2 ^ (2 ^ q) : Nat) : Int) := by
  have h := i32_ushr0 ⟨a / 64, by omega⟩ ⟨a % 64, by omega⟩ ⟨q, hq⟩
  rw [show 64 * (a / 64) + a % 64 = a by omega] at h
  exact h
theorem ctF_m (h : Nat → Bool) (N : Nat) : ∀ j : Nat, ctF (fun i => (mkN h N).testBit i) (N + j) = ctF h N := by
  intro j
  induction j with
  | zero => exact (fiF_c N (fun i hi => by rw [mkN_t, decide_eq_true hi, Bool.true_and])).2
  | succ j ih =>
    show (if (mkN h N).testBit (N + j) = true then _ else _) = _
    rw [if_neg (by rw [mkN_t, decide_eq_false (by omega), Bool.false_and]; decide)]
    exact ih
theorem fiF_m (h : Nat → Bool) (N : Nat) : ∀ j : Nat, fiF (fun i => (mkN h N).testBit i) (N + j) = fiF h N := by
  intro j
  induction j with
  | zero => exact (fiF_c N (fun i hi => by rw [mkN_t, decide_eq_true hi, Bool.true_and])).1
  | succ j ih =>
    show (if _ ∧ (mkN h N).testBit (N + j) = true then _ else _) = _
    rw [if_neg (fun q => by have q2 := q.2; rw [mkN_t, decide_eq_false (by omega), Bool.false_and] at q2; exact absurd q2 (by decide))]
    exact ih
section KL9
variable {p : Program} {l : Launch} {e : Env} {R : Room} {s : State} {m : MethodId} {args : Array Value} {below : List Frame} {meth : Method} {c : Code} {Q : State → Prop} {cc : ByteArray} {own : String} {nL d0 mc0 ms0 : Nat} {G : kG} {w : Nat → va_E} {fl : va_W} {cells slots pc : Nat} {lv : List (Nat × Value)} {st : List Value}
theorem k_iushrN (hC : kC p l R s m args meth c cc own nL G d0 mc0 ms0) {a q : Nat} {b : Int} (ha : a < 4096) (hq : q < 5) (hb : b = ((2 ^ q : Nat) : Int)) (d : decode cc pc = .ok (.iushr, 1)) (k : KW p l e R s m args below meth c nL G Q w fl cells slots (pc + 1) lv (vI ((a / 2 ^ (2 ^ q) : Nat) : Int) :: st)) : KW p l e R s m args below meth c nL G Q w fl cells slots pc lv (vI b :: vI (a : Int) :: st) := by
  subst hb
  exact fun H locs ls h1 h2 h3 h4 => lv_iushr hC.1 hC.2.1 d (i32_ushr ha hq) (k H locs ls h1 h2 h3 h4)
end KL9
set_option maxRecDepth 100000 in
set_option maxHeartbeats 4000000 in
theorem c_J6_bitCount_0f7a4 (l : Launch) (hls : l.stackTraces = false) (G : kG) (hN : 133 ≤ kN G) (w : Nat → va_E) (fl : va_W) (a : Nat) (ha : a < 4096) : KM l G yJ6_bitCount_0f7a4 cJ6_bitCount_0f7a4 1 (some (FieldType.int)) 0 0 0 [vI (a : Int)] w fl (kPure (vI (ctF (fun i => a.testBit i) 12)) w fl) := by
  refine KM_ofF hls (by decide +kernel) rfl (lv0 := [(0, vI (a : Int))]) rfl (Nat.le_of_ble_eq_true rfl) (fun p e R s m args below meth c Q hC hr hQ => ?_)
  obtain ⟨⟨hb1, hb2, hb3⟩, hbe⟩ := bc_a ha
  have hle1 : (a / 2 ^ 1 &&& 1431655765) ≤ a / 2 ^ 1 := Nat.and_le_left
  have hd4 : bc4 (bc3 (bc2 (bc1 a))) < 4096 := by unfold bc4; omega
  refine k_iload_n hC dJ6_bitCount_0f7a4_0 rfl 0 rfl ?_
  refine k_iload_n hC dJ6_bitCount_0f7a4_1 rfl 0 rfl ?_
  refine k_iconst hC dJ6_bitCount_0f7a4_2 ?_
  refine k_iushrN hC (a := a) (q := 0) (by omega) (by decide) rfl dJ6_bitCount_0f7a4_3 ?_
  refine k_topv (vI ((a / 2 ^ 1 : Nat) : Int)) rfl ?_
  refine k_ldcw hC (x := 1431655765) (v := 1431655765) dJ6_bitCount_0f7a4_4 (by decide) wk_J6_265 ?_
  refine k_topv (vI ((1431655765 : Nat) : Int)) rfl ?_
  refine k_iandN hC (a := a / 2 ^ 1) (b := 1431655765) dJ6_bitCount_0f7a4_7 ?_
  refine k_isub hC dJ6_bitCount_0f7a4_8 ?_
  refine k_topv (vI ((bc1 a : Nat) : Int)) (congrArg vI (by unfold bc1; omega)) ?_
  refine k_istore_n hC [(0, vI ((bc1 a : Nat) : Int))] dJ6_bitCount_0f7a4_9 rfl (by decide) rfl ?_
  refine k_iload_n hC dJ6_bitCount_0f7a4_10 rfl 0 rfl ?_
  refine k_ldcw hC (x := 858993459) (v := 858993459) dJ6_bitCount_0f7a4_11 (by decide) wk_J6_266 ?_
  refine k_topv (vI ((858993459 : Nat) : Int)) rfl ?_
  refine k_iandN hC (a := bc1 a) (b := 858993459) dJ6_bitCount_0f7a4_14 ?_
  refine k_iload_n hC dJ6_bitCount_0f7a4_15 rfl 0 rfl ?_
  refine k_iconst hC dJ6_bitCount_0f7a4_16 ?_
  refine k_iushrN hC (a := bc1 a) (q := 1) (by omega) (by decide) rfl dJ6_bitCount_0f7a4_17 ?_
  refine k_topv (vI (((bc1 a) / 2 ^ 2 : Nat) : Int)) rfl ?_
  refine k_ldcw hC (x := 858993459) (v := 858993459) dJ6_bitCount_0f7a4_18 (by decide) wk_J6_266 ?_
  refine k_topv (vI ((858993459 : Nat) : Int)) rfl ?_
  refine k_iandN hC (a := (bc1 a) / 2 ^ 2) (b := 858993459) dJ6_bitCount_0f7a4_21 ?_
  refine k_iadd hC dJ6_bitCount_0f7a4_22 ?_
  refine k_topv (vI ((bc2 (bc1 a) : Nat) : Int)) (congrArg vI (by unfold bc2; omega)) ?_
  refine k_istore_n hC [(0, vI ((bc2 (bc1 a) : Nat) : Int))] dJ6_bitCount_0f7a4_23 rfl (by decide) rfl ?_
  refine k_iload_n hC dJ6_bitCount_0f7a4_24 rfl 0 rfl ?_
  refine k_iload_n hC dJ6_bitCount_0f7a4_25 rfl 0 rfl ?_
  refine k_iconst hC dJ6_bitCount_0f7a4_26 ?_
  refine k_iushrN hC (a := bc2 (bc1 a)) (q := 2) (by omega) (by decide) rfl dJ6_bitCount_0f7a4_27 ?_
  refine k_topv (vI (((bc2 (bc1 a)) / 2 ^ 4 : Nat) : Int)) rfl ?_
  refine k_iadd hC dJ6_bitCount_0f7a4_28 ?_
  refine k_topv (vI ((bc2 (bc1 a) + bc2 (bc1 a) / 2 ^ 4 : Nat) : Int)) (congrArg vI (by omega)) ?_
  refine k_ldcw hC (x := 252645135) (v := 252645135) dJ6_bitCount_0f7a4_29 (by decide) wk_J6_267 ?_
  refine k_topv (vI ((252645135 : Nat) : Int)) rfl ?_
  refine k_iandN hC (a := bc2 (bc1 a) + bc2 (bc1 a) / 2 ^ 4) (b := 252645135) dJ6_bitCount_0f7a4_32 ?_
  refine k_topv (vI ((bc3 (bc2 (bc1 a)) : Nat) : Int)) (congrArg vI (rfl)) ?_
  refine k_istore_n hC [(0, vI ((bc3 (bc2 (bc1 a)) : Nat) : Int))] dJ6_bitCount_0f7a4_33 rfl (by decide) rfl ?_
  refine k_iload_n hC dJ6_bitCount_0f7a4_34 rfl 0 rfl ?_
  refine k_iload_n hC dJ6_bitCount_0f7a4_35 rfl 0 rfl ?_
  refine k_bipush hC dJ6_bitCount_0f7a4_36 (by decide) ?_
  refine k_iushrN hC (a := bc3 (bc2 (bc1 a))) (q := 3) (by omega) (by decide) rfl dJ6_bitCount_0f7a4_38 ?_
  refine k_topv (vI (((bc3 (bc2 (bc1 a))) / 2 ^ 8 : Nat) : Int)) rfl ?_
  refine k_iadd hC dJ6_bitCount_0f7a4_39 ?_
  refine k_topv (vI ((bc4 (bc3 (bc2 (bc1 a))) : Nat) : Int)) (congrArg vI (by show _ = (((bc3 (bc2 (bc1 a)) + bc3 (bc2 (bc1 a)) / 2 ^ 8 : Nat)) : Int); omega)) ?_
  refine k_istore_n hC [(0, vI ((bc4 (bc3 (bc2 (bc1 a))) : Nat) : Int))] dJ6_bitCount_0f7a4_40 rfl (by decide) rfl ?_
  refine k_iload_n hC dJ6_bitCount_0f7a4_41 rfl 0 rfl ?_
  refine k_iload_n hC dJ6_bitCount_0f7a4_42 rfl 0 rfl ?_
  refine k_bipush hC dJ6_bitCount_0f7a4_43 (by decide) ?_
  refine k_iushrN hC (a := bc4 (bc3 (bc2 (bc1 a)))) (q := 4) (by omega) (by decide) rfl dJ6_bitCount_0f7a4_45 ?_
  refine k_topv (vI (((bc4 (bc3 (bc2 (bc1 a)))) / 2 ^ 16 : Nat) : Int)) rfl ?_
  refine k_iadd hC dJ6_bitCount_0f7a4_46 ?_
  refine k_topv (vI ((bc5 (bc4 (bc3 (bc2 (bc1 a)))) : Nat) : Int)) (congrArg vI (by show _ = (((bc4 (bc3 (bc2 (bc1 a))) + bc4 (bc3 (bc2 (bc1 a))) / 2 ^ 16 : Nat)) : Int); omega)) ?_
  refine k_istore_n hC [(0, vI ((bc5 (bc4 (bc3 (bc2 (bc1 a)))) : Nat) : Int))] dJ6_bitCount_0f7a4_47 rfl (by decide) rfl ?_
  refine k_iload_n hC dJ6_bitCount_0f7a4_48 rfl 0 rfl ?_
  refine k_bipush hC dJ6_bitCount_0f7a4_49 (by decide) ?_
  refine k_topv (vI ((63 : Nat) : Int)) rfl ?_
  refine k_iandN hC (a := bc5 (bc4 (bc3 (bc2 (bc1 a))))) (b := 63) dJ6_bitCount_0f7a4_51 ?_
  subst hQ
  exact k_iret hC hr ⟨by decide, by decide⟩ (⟨congrArg (fun z => some (vI z)) (show (ctF (fun i => a.testBit i) 12 : Int) = ((bc5 (bc4 (bc3 (bc2 (bc1 a)))) &&& 63 : Nat) : Int) from hbe.symm), rfl, rfl⟩) dJ6_bitCount_0f7a4_52

