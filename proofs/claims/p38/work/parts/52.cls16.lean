theorem low_0 : ∀ x y : Fin 64, 1 ≤ 64 * x.val + y.val → (Int32.ofInt (-1 - ((64 * x.val + y.val : Nat) : Int)) &&& Int32.ofInt (((64 * x.val + y.val : Nat) : Int) - 1) = Int32.ofInt ((2 ^ (fiF (fun i => (64 * x.val + y.val).testBit i) 12).toNat - 1 : Nat) : Int)) ∧ 0 ≤ fiF (fun i => (64 * x.val + y.val).testBit i) 12 ∧ fiF (fun i => (64 * x.val + y.val).testBit i) 12 ≤ 11 := by decide +kernel
theorem low_a {a : Nat} (ha : a < 4096) (h1 : 1 ≤ a) : (Int32.ofInt (-1 - (a : Int)) &&& Int32.ofInt ((a : Int) - 1) = Int32.ofInt ((2 ^ (fiF (fun i => a.testBit i) 12).toNat - 1 : Nat) : Int)) ∧ 0 ≤ fiF (fun i => a.testBit i) 12 ∧ fiF (fun i => a.testBit i) 12 ≤ 11 := by
  have h := low_0 ⟨a / 64, by omega⟩ ⟨a % 64, by omega⟩
  rw [show 64 * (a / 64) + a % 64 = a by omega] at h
  exact h h1
section KL10
variable {p : Program} {l : Launch} {e : Env} {R : Room} {s : State} {m : MethodId} {args : Array Value} {below : List Frame} {meth : Method} {c : Code} {Q : State → Prop} {cc : ByteArray} {own : String} {nL d0 mc0 ms0 : Nat} {G : kG} {w : Nat → va_E} {fl : va_W} {cells slots pc : Nat} {lv : List (Nat × Value)} {st : List Value}
theorem k_ilow (hC : kC p l R s m args meth c cc own nL G d0 mc0 ms0) {a t : Nat} (ha : a < 4096) (h1 : 1 ≤ a) (ht : fiF (fun i => a.testBit i) 12 = (t : Int)) (d : decode cc pc = .ok (.iand, 1)) (k : KW p l e R s m args below meth c nL G Q w fl cells slots (pc + 1) lv (vI ((2 ^ t - 1 : Nat) : Int) :: st)) : KW p l e R s m args below meth c nL G Q w fl cells slots pc lv (vI ((a : Int) - 1) :: vI (-1 - (a : Int)) :: st) := fun H locs ls h1' h2 h3 h4 => lv_iand hC.1 hC.2.1 d (by
  have e := (low_a ha h1).1
  rw [show (fiF (fun i => a.testBit i) 12).toNat = t by omega] at e
  rw [e]; exact k H locs ls h1' h2 h3 h4)
end KL10
set_option maxRecDepth 100000 in
set_option maxHeartbeats 4000000 in
theorem c_J6_numberOfTrailingZeros_0f7a4 (l : Launch) (hls : l.stackTraces = false) (G : kG) (hN : 133 ≤ kN G) (w : Nat → va_E) (fl : va_W) (a : Nat) (ha : a < 4096) (h1a : 1 ≤ a) : KM l G yJ6_numberOfTrailingZeros_0f7a4 cJ6_numberOfTrailingZeros_0f7a4 2 (some (FieldType.int)) 0 0 0 [vI (a : Int)] w fl (kPure (vI (fiF (fun i => a.testBit i) 12)) w fl) := by
  refine KM_ofF hls (by decide +kernel) rfl (lv0 := [(0, vI (a : Int))]) rfl (Nat.le_of_ble_eq_true rfl) (fun p e R s m args below meth c Q hC hr hQ => ?_)
  obtain ⟨t, ht, ht11⟩ : ∃ t : Nat, fiF (fun i => a.testBit i) 12 = (t : Int) ∧ t ≤ 11 := ⟨(fiF (fun i => a.testBit i) 12).toNat, by have := (low_a ha h1a).2; omega, by have := (low_a ha h1a).2; omega⟩
  have ht12 : t = 0 ∨ t = 1 ∨ t = 2 ∨ t = 3 ∨ t = 4 ∨ t = 5 ∨ t = 6 ∨ t = 7 ∨ t = 8 ∨ t = 9 ∨ t = 10 ∨ t = 11 := by omega
  refine k_iload_n hC dJ6_numberOfTrailingZeros_0f7a4_0 rfl 0 rfl ?_
  refine k_iconst hC dJ6_numberOfTrailingZeros_0f7a4_1 ?_
  refine k_inotN hC (a := a) ha dJ6_numberOfTrailingZeros_0f7a4_2 ?_
  refine k_iload_n hC dJ6_numberOfTrailingZeros_0f7a4_3 rfl 0 rfl ?_
  refine k_iconst hC dJ6_numberOfTrailingZeros_0f7a4_4 ?_
  refine k_isub hC dJ6_numberOfTrailingZeros_0f7a4_5 ?_
  refine k_ilow hC (a := a) (t := t) ha h1a ht dJ6_numberOfTrailingZeros_0f7a4_6 ?_
  rcases ht12 with et | et | et | et | et | et | et | et | et | et | et | et
  · subst et
    refine k_topv (vI 0) (congrArg vI (by decide)) ?_
    refine k_istore_n hC [(0, vI 0)] dJ6_numberOfTrailingZeros_0f7a4_7 rfl (by decide) rfl ?_
    refine k_iload_n hC dJ6_numberOfTrailingZeros_0f7a4_8 rfl 0 rfl ?_
    refine k_if_gt hC 17 dJ6_numberOfTrailingZeros_0f7a4_9 rfl (by omega) (fun c_9 => absurd c_9 (by omega)) (fun c_9 => ?_)
    refine k_iload_n hC dJ6_numberOfTrailingZeros_0f7a4_12 rfl 0 rfl ?_
    refine k_bipush hC dJ6_numberOfTrailingZeros_0f7a4_13 (by decide) ?_
    refine k_iandN hC (a := 0) (b := 32) dJ6_numberOfTrailingZeros_0f7a4_15 ?_
    refine k_topv (vI 0) (congrArg vI (by decide)) ?_
    subst hQ
    exact k_iret hC hr ⟨by decide, by decide⟩ (⟨congrArg (fun z => some (vI z)) (show (fiF (fun i => a.testBit i) 12 : Int) = 0 from by rw [ht]; rfl), rfl, rfl⟩) dJ6_numberOfTrailingZeros_0f7a4_16
  · subst et
    refine k_topv (vI 1) (congrArg vI (by decide)) ?_
    refine k_istore_n hC [(0, vI 1)] dJ6_numberOfTrailingZeros_0f7a4_7 rfl (by decide) rfl ?_
    refine k_iload_n hC dJ6_numberOfTrailingZeros_0f7a4_8 rfl 0 rfl ?_
    refine k_if_gt hC 17 dJ6_numberOfTrailingZeros_0f7a4_9 rfl (by omega) (fun c_9 => ?_) (fun c_9 => absurd c_9 (by omega))
    refine k_iconst hC dJ6_numberOfTrailingZeros_0f7a4_17 ?_
    refine k_istore_n hC [(1, vI 1), (0, vI 1)] dJ6_numberOfTrailingZeros_0f7a4_18 rfl (by decide) rfl ?_
    refine k_iload_n hC dJ6_numberOfTrailingZeros_0f7a4_19 rfl 1 rfl ?_
    refine k_ldcw hC (x := 65536) (v := 65536) dJ6_numberOfTrailingZeros_0f7a4_20 (by decide) wk_J6_264 ?_
    refine k_icmp_le hC 34 dJ6_numberOfTrailingZeros_0f7a4_23 rfl (by omega) (by omega) (fun c_23 => ?_) (fun c_23 => absurd c_23 (by omega))
    refine k_iload_n hC dJ6_numberOfTrailingZeros_0f7a4_34 rfl 1 rfl ?_
    refine k_sipush hC dJ6_numberOfTrailingZeros_0f7a4_35 (by decide) ?_
    refine k_icmp_le hC 49 dJ6_numberOfTrailingZeros_0f7a4_38 rfl (by omega) (by omega) (fun c_38 => ?_) (fun c_38 => absurd c_38 (by omega))
    refine k_iload_n hC dJ6_numberOfTrailingZeros_0f7a4_49 rfl 1 rfl ?_
    refine k_bipush hC dJ6_numberOfTrailingZeros_0f7a4_50 (by decide) ?_
    refine k_icmp_le hC 62 dJ6_numberOfTrailingZeros_0f7a4_52 rfl (by omega) (by omega) (fun c_52 => ?_) (fun c_52 => absurd c_52 (by omega))
    refine k_iload_n hC dJ6_numberOfTrailingZeros_0f7a4_62 rfl 1 rfl ?_
    refine k_iconst hC dJ6_numberOfTrailingZeros_0f7a4_63 ?_
    refine k_icmp_le hC 74 dJ6_numberOfTrailingZeros_0f7a4_64 rfl (by omega) (by omega) (fun c_64 => ?_) (fun c_64 => absurd c_64 (by omega))
    refine k_iload_n hC dJ6_numberOfTrailingZeros_0f7a4_74 rfl 0 rfl ?_
    refine k_iload_n hC dJ6_numberOfTrailingZeros_0f7a4_75 rfl 1 rfl ?_
    refine k_iconst hC dJ6_numberOfTrailingZeros_0f7a4_76 ?_
    refine k_iushrN hC (a := 1) (q := 0) (by decide) (by decide) rfl dJ6_numberOfTrailingZeros_0f7a4_77 ?_
    refine k_topv (vI 0) (congrArg vI (by decide)) ?_
    refine k_iadd hC dJ6_numberOfTrailingZeros_0f7a4_78 ?_
    refine k_topv (vI 1) (congrArg vI (by decide)) ?_
    subst hQ
    exact k_iret hC hr ⟨by decide, by decide⟩ (⟨congrArg (fun z => some (vI z)) (show (fiF (fun i => a.testBit i) 12 : Int) = 1 from by rw [ht]; rfl), rfl, rfl⟩) dJ6_numberOfTrailingZeros_0f7a4_79
  · subst et
    refine k_topv (vI 3) (congrArg vI (by decide)) ?_
    refine k_istore_n hC [(0, vI 3)] dJ6_numberOfTrailingZeros_0f7a4_7 rfl (by decide) rfl ?_
    refine k_iload_n hC dJ6_numberOfTrailingZeros_0f7a4_8 rfl 0 rfl ?_
    refine k_if_gt hC 17 dJ6_numberOfTrailingZeros_0f7a4_9 rfl (by omega) (fun c_9 => ?_) (fun c_9 => absurd c_9 (by omega))
    refine k_iconst hC dJ6_numberOfTrailingZeros_0f7a4_17 ?_
    refine k_istore_n hC [(1, vI 1), (0, vI 3)] dJ6_numberOfTrailingZeros_0f7a4_18 rfl (by decide) rfl ?_
    refine k_iload_n hC dJ6_numberOfTrailingZeros_0f7a4_19 rfl 1 rfl ?_
    refine k_ldcw hC (x := 65536) (v := 65536) dJ6_numberOfTrailingZeros_0f7a4_20 (by decide) wk_J6_264 ?_
    refine k_icmp_le hC 34 dJ6_numberOfTrailingZeros_0f7a4_23 rfl (by omega) (by omega) (fun c_23 => ?_) (fun c_23 => absurd c_23 (by omega))
    refine k_iload_n hC dJ6_numberOfTrailingZeros_0f7a4_34 rfl 1 rfl ?_
    refine k_sipush hC dJ6_numberOfTrailingZeros_0f7a4_35 (by decide) ?_
    refine k_icmp_le hC 49 dJ6_numberOfTrailingZeros_0f7a4_38 rfl (by omega) (by omega) (fun c_38 => ?_) (fun c_38 => absurd c_38 (by omega))
    refine k_iload_n hC dJ6_numberOfTrailingZeros_0f7a4_49 rfl 1 rfl ?_
    refine k_bipush hC dJ6_numberOfTrailingZeros_0f7a4_50 (by decide) ?_
    refine k_icmp_le hC 62 dJ6_numberOfTrailingZeros_0f7a4_52 rfl (by omega) (by omega) (fun c_52 => ?_) (fun c_52 => absurd c_52 (by omega))
    refine k_iload_n hC dJ6_numberOfTrailingZeros_0f7a4_62 rfl 1 rfl ?_
    refine k_iconst hC dJ6_numberOfTrailingZeros_0f7a4_63 ?_
    refine k_icmp_le hC 74 dJ6_numberOfTrailingZeros_0f7a4_64 rfl (by omega) (by omega) (fun c_64 => ?_) (fun c_64 => absurd c_64 (by omega))
    refine k_iload_n hC dJ6_numberOfTrailingZeros_0f7a4_74 rfl 0 rfl ?_
    refine k_iload_n hC dJ6_numberOfTrailingZeros_0f7a4_75 rfl 1 rfl ?_
    refine k_iconst hC dJ6_numberOfTrailingZeros_0f7a4_76 ?_
    refine k_iushrN hC (a := 3) (q := 0) (by decide) (by decide) rfl dJ6_numberOfTrailingZeros_0f7a4_77 ?_
    refine k_topv (vI 1) (congrArg vI (by decide)) ?_
    refine k_iadd hC dJ6_numberOfTrailingZeros_0f7a4_78 ?_
    refine k_topv (vI 2) (congrArg vI (by decide)) ?_
    subst hQ
    exact k_iret hC hr ⟨by decide, by decide⟩ (⟨congrArg (fun z => some (vI z)) (show (fiF (fun i => a.testBit i) 12 : Int) = 2 from by rw [ht]; rfl), rfl, rfl⟩) dJ6_numberOfTrailingZeros_0f7a4_79
  · subst et
    refine k_topv (vI 7) (congrArg vI (by decide)) ?_
    refine k_istore_n hC [(0, vI 7)] dJ6_numberOfTrailingZeros_0f7a4_7 rfl (by decide) rfl ?_
    refine k_iload_n hC dJ6_numberOfTrailingZeros_0f7a4_8 rfl 0 rfl ?_
    refine k_if_gt hC 17 dJ6_numberOfTrailingZeros_0f7a4_9 rfl (by omega) (fun c_9 => ?_) (fun c_9 => absurd c_9 (by omega))
    refine k_iconst hC dJ6_numberOfTrailingZeros_0f7a4_17 ?_
    refine k_istore_n hC [(1, vI 1), (0, vI 7)] dJ6_numberOfTrailingZeros_0f7a4_18 rfl (by decide) rfl ?_
    refine k_iload_n hC dJ6_numberOfTrailingZeros_0f7a4_19 rfl 1 rfl ?_
    refine k_ldcw hC (x := 65536) (v := 65536) dJ6_numberOfTrailingZeros_0f7a4_20 (by decide) wk_J6_264 ?_
    refine k_icmp_le hC 34 dJ6_numberOfTrailingZeros_0f7a4_23 rfl (by omega) (by omega) (fun c_23 => ?_) (fun c_23 => absurd c_23 (by omega))
    refine k_iload_n hC dJ6_numberOfTrailingZeros_0f7a4_34 rfl 1 rfl ?_
    refine k_sipush hC dJ6_numberOfTrailingZeros_0f7a4_35 (by decide) ?_
    refine k_icmp_le hC 49 dJ6_numberOfTrailingZeros_0f7a4_38 rfl (by omega) (by omega) (fun c_38 => ?_) (fun c_38 => absurd c_38 (by omega))
    refine k_iload_n hC dJ6_numberOfTrailingZeros_0f7a4_49 rfl 1 rfl ?_
    refine k_bipush hC dJ6_numberOfTrailingZeros_0f7a4_50 (by decide) ?_
    refine k_icmp_le hC 62 dJ6_numberOfTrailingZeros_0f7a4_52 rfl (by omega) (by omega) (fun c_52 => ?_) (fun c_52 => absurd c_52 (by omega))
    refine k_iload_n hC dJ6_numberOfTrailingZeros_0f7a4_62 rfl 1 rfl ?_
    refine k_iconst hC dJ6_numberOfTrailingZeros_0f7a4_63 ?_
    refine k_icmp_le hC 74 dJ6_numberOfTrailingZeros_0f7a4_64 rfl (by omega) (by omega) (fun c_64 => absurd c_64 (by omega)) (fun c_64 => ?_)
    refine k_iinc hC (y := 3) [(1, vI 3), (0, vI 7)] (j := 0) dJ6_numberOfTrailingZeros_0f7a4_67 rfl (by decide) (by decide) rfl ?_
    refine k_iload_n hC dJ6_numberOfTrailingZeros_0f7a4_70 rfl 1 rfl ?_
    refine k_iconst hC dJ6_numberOfTrailingZeros_0f7a4_71 ?_
    refine k_iushrN hC (a := 7) (q := 1) (by decide) (by decide) rfl dJ6_numberOfTrailingZeros_0f7a4_72 ?_
    refine k_topv (vI 1) (congrArg vI (by decide)) ?_
    refine k_istore_n hC [(0, vI 1), (1, vI 3)] dJ6_numberOfTrailingZeros_0f7a4_73 rfl (by decide) rfl ?_
    refine k_iload_n hC dJ6_numberOfTrailingZeros_0f7a4_74 rfl 1 rfl ?_
    refine k_iload_n hC dJ6_numberOfTrailingZeros_0f7a4_75 rfl 0 rfl ?_
    refine k_iconst hC dJ6_numberOfTrailingZeros_0f7a4_76 ?_
    refine k_iushrN hC (a := 1) (q := 0) (by decide) (by decide) rfl dJ6_numberOfTrailingZeros_0f7a4_77 ?_
    refine k_topv (vI 0) (congrArg vI (by decide)) ?_
    refine k_iadd hC dJ6_numberOfTrailingZeros_0f7a4_78 ?_
    refine k_topv (vI 3) (congrArg vI (by decide)) ?_
    subst hQ
    exact k_iret hC hr ⟨by decide, by decide⟩ (⟨congrArg (fun z => some (vI z)) (show (fiF (fun i => a.testBit i) 12 : Int) = 3 from by rw [ht]; rfl), rfl, rfl⟩) dJ6_numberOfTrailingZeros_0f7a4_79
  · subst et
    refine k_topv (vI 15) (congrArg vI (by decide)) ?_
    refine k_istore_n hC [(0, vI 15)] dJ6_numberOfTrailingZeros_0f7a4_7 rfl (by decide) rfl ?_
    refine k_iload_n hC dJ6_numberOfTrailingZeros_0f7a4_8 rfl 0 rfl ?_
    refine k_if_gt hC 17 dJ6_numberOfTrailingZeros_0f7a4_9 rfl (by omega) (fun c_9 => ?_) (fun c_9 => absurd c_9 (by omega))
    refine k_iconst hC dJ6_numberOfTrailingZeros_0f7a4_17 ?_
    refine k_istore_n hC [(1, vI 1), (0, vI 15)] dJ6_numberOfTrailingZeros_0f7a4_18 rfl (by decide) rfl ?_
    refine k_iload_n hC dJ6_numberOfTrailingZeros_0f7a4_19 rfl 1 rfl ?_
    refine k_ldcw hC (x := 65536) (v := 65536) dJ6_numberOfTrailingZeros_0f7a4_20 (by decide) wk_J6_264 ?_
    refine k_icmp_le hC 34 dJ6_numberOfTrailingZeros_0f7a4_23 rfl (by omega) (by omega) (fun c_23 => ?_) (fun c_23 => absurd c_23 (by omega))
    refine k_iload_n hC dJ6_numberOfTrailingZeros_0f7a4_34 rfl 1 rfl ?_
    refine k_sipush hC dJ6_numberOfTrailingZeros_0f7a4_35 (by decide) ?_
    refine k_icmp_le hC 49 dJ6_numberOfTrailingZeros_0f7a4_38 rfl (by omega) (by omega) (fun c_38 => ?_) (fun c_38 => absurd c_38 (by omega))
    refine k_iload_n hC dJ6_numberOfTrailingZeros_0f7a4_49 rfl 1 rfl ?_
    refine k_bipush hC dJ6_numberOfTrailingZeros_0f7a4_50 (by decide) ?_
    refine k_icmp_le hC 62 dJ6_numberOfTrailingZeros_0f7a4_52 rfl (by omega) (by omega) (fun c_52 => ?_) (fun c_52 => absurd c_52 (by omega))
    refine k_iload_n hC dJ6_numberOfTrailingZeros_0f7a4_62 rfl 1 rfl ?_
    refine k_iconst hC dJ6_numberOfTrailingZeros_0f7a4_63 ?_
    refine k_icmp_le hC 74 dJ6_numberOfTrailingZeros_0f7a4_64 rfl (by omega) (by omega) (fun c_64 => absurd c_64 (by omega)) (fun c_64 => ?_)
    refine k_iinc hC (y := 3) [(1, vI 3), (0, vI 15)] (j := 0) dJ6_numberOfTrailingZeros_0f7a4_67 rfl (by decide) (by decide) rfl ?_
    refine k_iload_n hC dJ6_numberOfTrailingZeros_0f7a4_70 rfl 1 rfl ?_
    refine k_iconst hC dJ6_numberOfTrailingZeros_0f7a4_71 ?_
    refine k_iushrN hC (a := 15) (q := 1) (by decide) (by decide) rfl dJ6_numberOfTrailingZeros_0f7a4_72 ?_
    refine k_topv (vI 3) (congrArg vI (by decide)) ?_
    refine k_istore_n hC [(0, vI 3), (1, vI 3)] dJ6_numberOfTrailingZeros_0f7a4_73 rfl (by decide) rfl ?_
    refine k_iload_n hC dJ6_numberOfTrailingZeros_0f7a4_74 rfl 1 rfl ?_
    refine k_iload_n hC dJ6_numberOfTrailingZeros_0f7a4_75 rfl 0 rfl ?_
    refine k_iconst hC dJ6_numberOfTrailingZeros_0f7a4_76 ?_
    refine k_iushrN hC (a := 3) (q := 0) (by decide) (by decide) rfl dJ6_numberOfTrailingZeros_0f7a4_77 ?_
    refine k_topv (vI 1) (congrArg vI (by decide)) ?_
    refine k_iadd hC dJ6_numberOfTrailingZeros_0f7a4_78 ?_
    refine k_topv (vI 4) (congrArg vI (by decide)) ?_
    subst hQ
    exact k_iret hC hr ⟨by decide, by decide⟩ (⟨congrArg (fun z => some (vI z)) (show (fiF (fun i => a.testBit i) 12 : Int) = 4 from by rw [ht]; rfl), rfl, rfl⟩) dJ6_numberOfTrailingZeros_0f7a4_79
  · subst et
    refine k_topv (vI 31) (congrArg vI (by decide)) ?_
    refine k_istore_n hC [(0, vI 31)] dJ6_numberOfTrailingZeros_0f7a4_7 rfl (by decide) rfl ?_
    refine k_iload_n hC dJ6_numberOfTrailingZeros_0f7a4_8 rfl 0 rfl ?_
    refine k_if_gt hC 17 dJ6_numberOfTrailingZeros_0f7a4_9 rfl (by omega) (fun c_9 => ?_) (fun c_9 => absurd c_9 (by omega))
    refine k_iconst hC dJ6_numberOfTrailingZeros_0f7a4_17 ?_
    refine k_istore_n hC [(1, vI 1), (0, vI 31)] dJ6_numberOfTrailingZeros_0f7a4_18 rfl (by decide) rfl ?_
    refine k_iload_n hC dJ6_numberOfTrailingZeros_0f7a4_19 rfl 1 rfl ?_
    refine k_ldcw hC (x := 65536) (v := 65536) dJ6_numberOfTrailingZeros_0f7a4_20 (by decide) wk_J6_264 ?_
    refine k_icmp_le hC 34 dJ6_numberOfTrailingZeros_0f7a4_23 rfl (by omega) (by omega) (fun c_23 => ?_) (fun c_23 => absurd c_23 (by omega))
    refine k_iload_n hC dJ6_numberOfTrailingZeros_0f7a4_34 rfl 1 rfl ?_
    refine k_sipush hC dJ6_numberOfTrailingZeros_0f7a4_35 (by decide) ?_
    refine k_icmp_le hC 49 dJ6_numberOfTrailingZeros_0f7a4_38 rfl (by omega) (by omega) (fun c_38 => ?_) (fun c_38 => absurd c_38 (by omega))
    refine k_iload_n hC dJ6_numberOfTrailingZeros_0f7a4_49 rfl 1 rfl ?_
    refine k_bipush hC dJ6_numberOfTrailingZeros_0f7a4_50 (by decide) ?_
    refine k_icmp_le hC 62 dJ6_numberOfTrailingZeros_0f7a4_52 rfl (by omega) (by omega) (fun c_52 => absurd c_52 (by omega)) (fun c_52 => ?_)
    refine k_iinc hC (y := 5) [(1, vI 5), (0, vI 31)] (j := 0) dJ6_numberOfTrailingZeros_0f7a4_55 rfl (by decide) (by decide) rfl ?_
    refine k_iload_n hC dJ6_numberOfTrailingZeros_0f7a4_58 rfl 1 rfl ?_
    refine k_iconst hC dJ6_numberOfTrailingZeros_0f7a4_59 ?_
    refine k_iushrN hC (a := 31) (q := 2) (by decide) (by decide) rfl dJ6_numberOfTrailingZeros_0f7a4_60 ?_
    refine k_topv (vI 1) (congrArg vI (by decide)) ?_
    refine k_istore_n hC [(0, vI 1), (1, vI 5)] dJ6_numberOfTrailingZeros_0f7a4_61 rfl (by decide) rfl ?_
    refine k_iload_n hC dJ6_numberOfTrailingZeros_0f7a4_62 rfl 0 rfl ?_
    refine k_iconst hC dJ6_numberOfTrailingZeros_0f7a4_63 ?_
    refine k_icmp_le hC 74 dJ6_numberOfTrailingZeros_0f7a4_64 rfl (by omega) (by omega) (fun c_64 => ?_) (fun c_64 => absurd c_64 (by omega))
    refine k_iload_n hC dJ6_numberOfTrailingZeros_0f7a4_74 rfl 1 rfl ?_
    refine k_iload_n hC dJ6_numberOfTrailingZeros_0f7a4_75 rfl 0 rfl ?_
    refine k_iconst hC dJ6_numberOfTrailingZeros_0f7a4_76 ?_
    refine k_iushrN hC (a := 1) (q := 0) (by decide) (by decide) rfl dJ6_numberOfTrailingZeros_0f7a4_77 ?_
    refine k_topv (vI 0) (congrArg vI (by decide)) ?_
    refine k_iadd hC dJ6_numberOfTrailingZeros_0f7a4_78 ?_
    refine k_topv (vI 5) (congrArg vI (by decide)) ?_
    subst hQ
    exact k_iret hC hr ⟨by decide, by decide⟩ (⟨congrArg (fun z => some (vI z)) (show (fiF (fun i => a.testBit i) 12 : Int) = 5 from by rw [ht]; rfl), rfl, rfl⟩) dJ6_numberOfTrailingZeros_0f7a4_79
  · subst et
    refine k_topv (vI 63) (congrArg vI (by decide)) ?_
    refine k_istore_n hC [(0, vI 63)] dJ6_numberOfTrailingZeros_0f7a4_7 rfl (by decide) rfl ?_
    refine k_iload_n hC dJ6_numberOfTrailingZeros_0f7a4_8 rfl 0 rfl ?_
    refine k_if_gt hC 17 dJ6_numberOfTrailingZeros_0f7a4_9 rfl (by omega) (fun c_9 => ?_) (fun c_9 => absurd c_9 (by omega))
    refine k_iconst hC dJ6_numberOfTrailingZeros_0f7a4_17 ?_
    refine k_istore_n hC [(1, vI 1), (0, vI 63)] dJ6_numberOfTrailingZeros_0f7a4_18 rfl (by decide) rfl ?_
    refine k_iload_n hC dJ6_numberOfTrailingZeros_0f7a4_19 rfl 1 rfl ?_
    refine k_ldcw hC (x := 65536) (v := 65536) dJ6_numberOfTrailingZeros_0f7a4_20 (by decide) wk_J6_264 ?_
    refine k_icmp_le hC 34 dJ6_numberOfTrailingZeros_0f7a4_23 rfl (by omega) (by omega) (fun c_23 => ?_) (fun c_23 => absurd c_23 (by omega))
    refine k_iload_n hC dJ6_numberOfTrailingZeros_0f7a4_34 rfl 1 rfl ?_
    refine k_sipush hC dJ6_numberOfTrailingZeros_0f7a4_35 (by decide) ?_
    refine k_icmp_le hC 49 dJ6_numberOfTrailingZeros_0f7a4_38 rfl (by omega) (by omega) (fun c_38 => ?_) (fun c_38 => absurd c_38 (by omega))
    refine k_iload_n hC dJ6_numberOfTrailingZeros_0f7a4_49 rfl 1 rfl ?_
    refine k_bipush hC dJ6_numberOfTrailingZeros_0f7a4_50 (by decide) ?_
    refine k_icmp_le hC 62 dJ6_numberOfTrailingZeros_0f7a4_52 rfl (by omega) (by omega) (fun c_52 => absurd c_52 (by omega)) (fun c_52 => ?_)
    refine k_iinc hC (y := 5) [(1, vI 5), (0, vI 63)] (j := 0) dJ6_numberOfTrailingZeros_0f7a4_55 rfl (by decide) (by decide) rfl ?_
    refine k_iload_n hC dJ6_numberOfTrailingZeros_0f7a4_58 rfl 1 rfl ?_
    refine k_iconst hC dJ6_numberOfTrailingZeros_0f7a4_59 ?_
    refine k_iushrN hC (a := 63) (q := 2) (by decide) (by decide) rfl dJ6_numberOfTrailingZeros_0f7a4_60 ?_
    refine k_topv (vI 3) (congrArg vI (by decide)) ?_
    refine k_istore_n hC [(0, vI 3), (1, vI 5)] dJ6_numberOfTrailingZeros_0f7a4_61 rfl (by decide) rfl ?_
    refine k_iload_n hC dJ6_numberOfTrailingZeros_0f7a4_62 rfl 0 rfl ?_
    refine k_iconst hC dJ6_numberOfTrailingZeros_0f7a4_63 ?_
    refine k_icmp_le hC 74 dJ6_numberOfTrailingZeros_0f7a4_64 rfl (by omega) (by omega) (fun c_64 => ?_) (fun c_64 => absurd c_64 (by omega))
    refine k_iload_n hC dJ6_numberOfTrailingZeros_0f7a4_74 rfl 1 rfl ?_
    refine k_iload_n hC dJ6_numberOfTrailingZeros_0f7a4_75 rfl 0 rfl ?_
    refine k_iconst hC dJ6_numberOfTrailingZeros_0f7a4_76 ?_
    refine k_iushrN hC (a := 3) (q := 0) (by decide) (by decide) rfl dJ6_numberOfTrailingZeros_0f7a4_77 ?_
    refine k_topv (vI 1) (congrArg vI (by decide)) ?_
    refine k_iadd hC dJ6_numberOfTrailingZeros_0f7a4_78 ?_
    refine k_topv (vI 6) (congrArg vI (by decide)) ?_
    subst hQ
    exact k_iret hC hr ⟨by decide, by decide⟩ (⟨congrArg (fun z => some (vI z)) (show (fiF (fun i => a.testBit i) 12 : Int) = 6 from by rw [ht]; rfl), rfl, rfl⟩) dJ6_numberOfTrailingZeros_0f7a4_79
  · subst et
    refine k_topv (vI 127) (congrArg vI (by decide)) ?_
    refine k_istore_n hC [(0, vI 127)] dJ6_numberOfTrailingZeros_0f7a4_7 rfl (by decide) rfl ?_
    refine k_iload_n hC dJ6_numberOfTrailingZeros_0f7a4_8 rfl 0 rfl ?_
    refine k_if_gt hC 17 dJ6_numberOfTrailingZeros_0f7a4_9 rfl (by omega) (fun c_9 => ?_) (fun c_9 => absurd c_9 (by omega))
    refine k_iconst hC dJ6_numberOfTrailingZeros_0f7a4_17 ?_
    refine k_istore_n hC [(1, vI 1), (0, vI 127)] dJ6_numberOfTrailingZeros_0f7a4_18 rfl (by decide) rfl ?_
    refine k_iload_n hC dJ6_numberOfTrailingZeros_0f7a4_19 rfl 1 rfl ?_
    refine k_ldcw hC (x := 65536) (v := 65536) dJ6_numberOfTrailingZeros_0f7a4_20 (by decide) wk_J6_264 ?_
    refine k_icmp_le hC 34 dJ6_numberOfTrailingZeros_0f7a4_23 rfl (by omega) (by omega) (fun c_23 => ?_) (fun c_23 => absurd c_23 (by omega))
    refine k_iload_n hC dJ6_numberOfTrailingZeros_0f7a4_34 rfl 1 rfl ?_
    refine k_sipush hC dJ6_numberOfTrailingZeros_0f7a4_35 (by decide) ?_
    refine k_icmp_le hC 49 dJ6_numberOfTrailingZeros_0f7a4_38 rfl (by omega) (by omega) (fun c_38 => ?_) (fun c_38 => absurd c_38 (by omega))
    refine k_iload_n hC dJ6_numberOfTrailingZeros_0f7a4_49 rfl 1 rfl ?_
    refine k_bipush hC dJ6_numberOfTrailingZeros_0f7a4_50 (by decide) ?_
    refine k_icmp_le hC 62 dJ6_numberOfTrailingZeros_0f7a4_52 rfl (by omega) (by omega) (fun c_52 => absurd c_52 (by omega)) (fun c_52 => ?_)
    refine k_iinc hC (y := 5) [(1, vI 5), (0, vI 127)] (j := 0) dJ6_numberOfTrailingZeros_0f7a4_55 rfl (by decide) (by decide) rfl ?_
    refine k_iload_n hC dJ6_numberOfTrailingZeros_0f7a4_58 rfl 1 rfl ?_
    refine k_iconst hC dJ6_numberOfTrailingZeros_0f7a4_59 ?_
    refine k_iushrN hC (a := 127) (q := 2) (by decide) (by decide) rfl dJ6_numberOfTrailingZeros_0f7a4_60 ?_
    refine k_topv (vI 7) (congrArg vI (by decide)) ?_
    refine k_istore_n hC [(0, vI 7), (1, vI 5)] dJ6_numberOfTrailingZeros_0f7a4_61 rfl (by decide) rfl ?_
    refine k_iload_n hC dJ6_numberOfTrailingZeros_0f7a4_62 rfl 0 rfl ?_
    refine k_iconst hC dJ6_numberOfTrailingZeros_0f7a4_63 ?_
    refine k_icmp_le hC 74 dJ6_numberOfTrailingZeros_0f7a4_64 rfl (by omega) (by omega) (fun c_64 => absurd c_64 (by omega)) (fun c_64 => ?_)
    refine k_iinc hC (y := 7) [(1, vI 7), (0, vI 7)] (j := 1) dJ6_numberOfTrailingZeros_0f7a4_67 rfl (by decide) (by decide) rfl ?_
    refine k_iload_n hC dJ6_numberOfTrailingZeros_0f7a4_70 rfl 1 rfl ?_
    refine k_iconst hC dJ6_numberOfTrailingZeros_0f7a4_71 ?_
    refine k_iushrN hC (a := 7) (q := 1) (by decide) (by decide) rfl dJ6_numberOfTrailingZeros_0f7a4_72 ?_
    refine k_topv (vI 1) (congrArg vI (by decide)) ?_
    refine k_istore_n hC [(0, vI 1), (1, vI 7)] dJ6_numberOfTrailingZeros_0f7a4_73 rfl (by decide) rfl ?_
    refine k_iload_n hC dJ6_numberOfTrailingZeros_0f7a4_74 rfl 1 rfl ?_
    refine k_iload_n hC dJ6_numberOfTrailingZeros_0f7a4_75 rfl 0 rfl ?_
    refine k_iconst hC dJ6_numberOfTrailingZeros_0f7a4_76 ?_
    refine k_iushrN hC (a := 1) (q := 0) (by decide) (by decide) rfl dJ6_numberOfTrailingZeros_0f7a4_77 ?_
    refine k_topv (vI 0) (congrArg vI (by decide)) ?_
    refine k_iadd hC dJ6_numberOfTrailingZeros_0f7a4_78 ?_
    refine k_topv (vI 7) (congrArg vI (by decide)) ?_
    subst hQ
    exact k_iret hC hr ⟨by decide, by decide⟩ (⟨congrArg (fun z => some (vI z)) (show (fiF (fun i => a.testBit i) 12 : Int) = 7 from by rw [ht]; rfl), rfl, rfl⟩) dJ6_numberOfTrailingZeros_0f7a4_79
  · subst et
    refine k_topv (vI 255) (congrArg vI (by decide)) ?_
    refine k_istore_n hC [(0, vI 255)] dJ6_numberOfTrailingZeros_0f7a4_7 rfl (by decide) rfl ?_
    refine k_iload_n hC dJ6_numberOfTrailingZeros_0f7a4_8 rfl 0 rfl ?_
    refine k_if_gt hC 17 dJ6_numberOfTrailingZeros_0f7a4_9 rfl (by omega) (fun c_9 => ?_) (fun c_9 => absurd c_9 (by omega))
    refine k_iconst hC dJ6_numberOfTrailingZeros_0f7a4_17 ?_
    refine k_istore_n hC [(1, vI 1), (0, vI 255)] dJ6_numberOfTrailingZeros_0f7a4_18 rfl (by decide) rfl ?_
    refine k_iload_n hC dJ6_numberOfTrailingZeros_0f7a4_19 rfl 1 rfl ?_
    refine k_ldcw hC (x := 65536) (v := 65536) dJ6_numberOfTrailingZeros_0f7a4_20 (by decide) wk_J6_264 ?_
    refine k_icmp_le hC 34 dJ6_numberOfTrailingZeros_0f7a4_23 rfl (by omega) (by omega) (fun c_23 => ?_) (fun c_23 => absurd c_23 (by omega))
    refine k_iload_n hC dJ6_numberOfTrailingZeros_0f7a4_34 rfl 1 rfl ?_
    refine k_sipush hC dJ6_numberOfTrailingZeros_0f7a4_35 (by decide) ?_
    refine k_icmp_le hC 49 dJ6_numberOfTrailingZeros_0f7a4_38 rfl (by omega) (by omega) (fun c_38 => ?_) (fun c_38 => absurd c_38 (by omega))
    refine k_iload_n hC dJ6_numberOfTrailingZeros_0f7a4_49 rfl 1 rfl ?_
    refine k_bipush hC dJ6_numberOfTrailingZeros_0f7a4_50 (by decide) ?_
    refine k_icmp_le hC 62 dJ6_numberOfTrailingZeros_0f7a4_52 rfl (by omega) (by omega) (fun c_52 => absurd c_52 (by omega)) (fun c_52 => ?_)
    refine k_iinc hC (y := 5) [(1, vI 5), (0, vI 255)] (j := 0) dJ6_numberOfTrailingZeros_0f7a4_55 rfl (by decide) (by decide) rfl ?_
    refine k_iload_n hC dJ6_numberOfTrailingZeros_0f7a4_58 rfl 1 rfl ?_
    refine k_iconst hC dJ6_numberOfTrailingZeros_0f7a4_59 ?_
    refine k_iushrN hC (a := 255) (q := 2) (by decide) (by decide) rfl dJ6_numberOfTrailingZeros_0f7a4_60 ?_
    refine k_topv (vI 15) (congrArg vI (by decide)) ?_
    refine k_istore_n hC [(0, vI 15), (1, vI 5)] dJ6_numberOfTrailingZeros_0f7a4_61 rfl (by decide) rfl ?_
    refine k_iload_n hC dJ6_numberOfTrailingZeros_0f7a4_62 rfl 0 rfl ?_
    refine k_iconst hC dJ6_numberOfTrailingZeros_0f7a4_63 ?_
    refine k_icmp_le hC 74 dJ6_numberOfTrailingZeros_0f7a4_64 rfl (by omega) (by omega) (fun c_64 => absurd c_64 (by omega)) (fun c_64 => ?_)
    refine k_iinc hC (y := 7) [(1, vI 7), (0, vI 15)] (j := 1) dJ6_numberOfTrailingZeros_0f7a4_67 rfl (by decide) (by decide) rfl ?_
    refine k_iload_n hC dJ6_numberOfTrailingZeros_0f7a4_70 rfl 1 rfl ?_
    refine k_iconst hC dJ6_numberOfTrailingZeros_0f7a4_71 ?_
    refine k_iushrN hC (a := 15) (q := 1) (by decide) (by decide) rfl dJ6_numberOfTrailingZeros_0f7a4_72 ?_
    refine k_topv (vI 3) (congrArg vI (by decide)) ?_
    refine k_istore_n hC [(0, vI 3), (1, vI 7)] dJ6_numberOfTrailingZeros_0f7a4_73 rfl (by decide) rfl ?_
    refine k_iload_n hC dJ6_numberOfTrailingZeros_0f7a4_74 rfl 1 rfl ?_
    refine k_iload_n hC dJ6_numberOfTrailingZeros_0f7a4_75 rfl 0 rfl ?_
    refine k_iconst hC dJ6_numberOfTrailingZeros_0f7a4_76 ?_
    refine k_iushrN hC (a := 3) (q := 0) (by decide) (by decide) rfl dJ6_numberOfTrailingZeros_0f7a4_77 ?_
    refine k_topv (vI 1) (congrArg vI (by decide)) ?_
    refine k_iadd hC dJ6_numberOfTrailingZeros_0f7a4_78 ?_
    refine k_topv (vI 8) (congrArg vI (by decide)) ?_
    subst hQ
    exact k_iret hC hr ⟨by decide, by decide⟩ (⟨congrArg (fun z => some (vI z)) (show (fiF (fun i => a.testBit i) 12 : Int) = 8 from by rw [ht]; rfl), rfl, rfl⟩) dJ6_numberOfTrailingZeros_0f7a4_79
  · subst et
    refine k_topv (vI 511) (congrArg vI (by decide)) ?_
    refine k_istore_n hC [(0, vI 511)] dJ6_numberOfTrailingZeros_0f7a4_7 rfl (by decide) rfl ?_
    refine k_iload_n hC dJ6_numberOfTrailingZeros_0f7a4_8 rfl 0 rfl ?_
    refine k_if_gt hC 17 dJ6_numberOfTrailingZeros_0f7a4_9 rfl (by omega) (fun c_9 => ?_) (fun c_9 => absurd c_9 (by omega))
    refine k_iconst hC dJ6_numberOfTrailingZeros_0f7a4_17 ?_
    refine k_istore_n hC [(1, vI 1), (0, vI 511)] dJ6_numberOfTrailingZeros_0f7a4_18 rfl (by decide) rfl ?_
    refine k_iload_n hC dJ6_numberOfTrailingZeros_0f7a4_19 rfl 1 rfl ?_
    refine k_ldcw hC (x := 65536) (v := 65536) dJ6_numberOfTrailingZeros_0f7a4_20 (by decide) wk_J6_264 ?_
    refine k_icmp_le hC 34 dJ6_numberOfTrailingZeros_0f7a4_23 rfl (by omega) (by omega) (fun c_23 => ?_) (fun c_23 => absurd c_23 (by omega))
    refine k_iload_n hC dJ6_numberOfTrailingZeros_0f7a4_34 rfl 1 rfl ?_
    refine k_sipush hC dJ6_numberOfTrailingZeros_0f7a4_35 (by decide) ?_
    refine k_icmp_le hC 49 dJ6_numberOfTrailingZeros_0f7a4_38 rfl (by omega) (by omega) (fun c_38 => absurd c_38 (by omega)) (fun c_38 => ?_)
    refine k_iinc hC (y := 9) [(1, vI 9), (0, vI 511)] (j := 0) dJ6_numberOfTrailingZeros_0f7a4_41 rfl (by decide) (by decide) rfl ?_
    refine k_iload_n hC dJ6_numberOfTrailingZeros_0f7a4_44 rfl 1 rfl ?_
    refine k_bipush hC dJ6_numberOfTrailingZeros_0f7a4_45 (by decide) ?_
    refine k_iushrN hC (a := 511) (q := 3) (by decide) (by decide) rfl dJ6_numberOfTrailingZeros_0f7a4_47 ?_
    refine k_topv (vI 1) (congrArg vI (by decide)) ?_
    refine k_istore_n hC [(0, vI 1), (1, vI 9)] dJ6_numberOfTrailingZeros_0f7a4_48 rfl (by decide) rfl ?_
    refine k_iload_n hC dJ6_numberOfTrailingZeros_0f7a4_49 rfl 0 rfl ?_
    refine k_bipush hC dJ6_numberOfTrailingZeros_0f7a4_50 (by decide) ?_
    refine k_icmp_le hC 62 dJ6_numberOfTrailingZeros_0f7a4_52 rfl (by omega) (by omega) (fun c_52 => ?_) (fun c_52 => absurd c_52 (by omega))
    refine k_iload_n hC dJ6_numberOfTrailingZeros_0f7a4_62 rfl 0 rfl ?_
    refine k_iconst hC dJ6_numberOfTrailingZeros_0f7a4_63 ?_
    refine k_icmp_le hC 74 dJ6_numberOfTrailingZeros_0f7a4_64 rfl (by omega) (by omega) (fun c_64 => ?_) (fun c_64 => absurd c_64 (by omega))
    refine k_iload_n hC dJ6_numberOfTrailingZeros_0f7a4_74 rfl 1 rfl ?_
    refine k_iload_n hC dJ6_numberOfTrailingZeros_0f7a4_75 rfl 0 rfl ?_
    refine k_iconst hC dJ6_numberOfTrailingZeros_0f7a4_76 ?_
    refine k_iushrN hC (a := 1) (q := 0) (by decide) (by decide) rfl dJ6_numberOfTrailingZeros_0f7a4_77 ?_
    refine k_topv (vI 0) (congrArg vI (by decide)) ?_
    refine k_iadd hC dJ6_numberOfTrailingZeros_0f7a4_78 ?_
    refine k_topv (vI 9) (congrArg vI (by decide)) ?_
    subst hQ
    exact k_iret hC hr ⟨by decide, by decide⟩ (⟨congrArg (fun z => some (vI z)) (show (fiF (fun i => a.testBit i) 12 : Int) = 9 from by rw [ht]; rfl), rfl, rfl⟩) dJ6_numberOfTrailingZeros_0f7a4_79
  · subst et
    refine k_topv (vI 1023) (congrArg vI (by decide)) ?_
    refine k_istore_n hC [(0, vI 1023)] dJ6_numberOfTrailingZeros_0f7a4_7 rfl (by decide) rfl ?_
    refine k_iload_n hC dJ6_numberOfTrailingZeros_0f7a4_8 rfl 0 rfl ?_
    refine k_if_gt hC 17 dJ6_numberOfTrailingZeros_0f7a4_9 rfl (by omega) (fun c_9 => ?_) (fun c_9 => absurd c_9 (by omega))
    refine k_iconst hC dJ6_numberOfTrailingZeros_0f7a4_17 ?_
    refine k_istore_n hC [(1, vI 1), (0, vI 1023)] dJ6_numberOfTrailingZeros_0f7a4_18 rfl (by decide) rfl ?_
    refine k_iload_n hC dJ6_numberOfTrailingZeros_0f7a4_19 rfl 1 rfl ?_
    refine k_ldcw hC (x := 65536) (v := 65536) dJ6_numberOfTrailingZeros_0f7a4_20 (by decide) wk_J6_264 ?_
    refine k_icmp_le hC 34 dJ6_numberOfTrailingZeros_0f7a4_23 rfl (by omega) (by omega) (fun c_23 => ?_) (fun c_23 => absurd c_23 (by omega))
    refine k_iload_n hC dJ6_numberOfTrailingZeros_0f7a4_34 rfl 1 rfl ?_
    refine k_sipush hC dJ6_numberOfTrailingZeros_0f7a4_35 (by decide) ?_
    refine k_icmp_le hC 49 dJ6_numberOfTrailingZeros_0f7a4_38 rfl (by omega) (by omega) (fun c_38 => absurd c_38 (by omega)) (fun c_38 => ?_)
    refine k_iinc hC (y := 9) [(1, vI 9), (0, vI 1023)] (j := 0) dJ6_numberOfTrailingZeros_0f7a4_41 rfl (by decide) (by decide) rfl ?_
    refine k_iload_n hC dJ6_numberOfTrailingZeros_0f7a4_44 rfl 1 rfl ?_
    refine k_bipush hC dJ6_numberOfTrailingZeros_0f7a4_45 (by decide) ?_
    refine k_iushrN hC (a := 1023) (q := 3) (by decide) (by decide) rfl dJ6_numberOfTrailingZeros_0f7a4_47 ?_
    refine k_topv (vI 3) (congrArg vI (by decide)) ?_
    refine k_istore_n hC [(0, vI 3), (1, vI 9)] dJ6_numberOfTrailingZeros_0f7a4_48 rfl (by decide) rfl ?_
    refine k_iload_n hC dJ6_numberOfTrailingZeros_0f7a4_49 rfl 0 rfl ?_
    refine k_bipush hC dJ6_numberOfTrailingZeros_0f7a4_50 (by decide) ?_
    refine k_icmp_le hC 62 dJ6_numberOfTrailingZeros_0f7a4_52 rfl (by omega) (by omega) (fun c_52 => ?_) (fun c_52 => absurd c_52 (by omega))
    refine k_iload_n hC dJ6_numberOfTrailingZeros_0f7a4_62 rfl 0 rfl ?_
    refine k_iconst hC dJ6_numberOfTrailingZeros_0f7a4_63 ?_
    refine k_icmp_le hC 74 dJ6_numberOfTrailingZeros_0f7a4_64 rfl (by omega) (by omega) (fun c_64 => ?_) (fun c_64 => absurd c_64 (by omega))
    refine k_iload_n hC dJ6_numberOfTrailingZeros_0f7a4_74 rfl 1 rfl ?_
    refine k_iload_n hC dJ6_numberOfTrailingZeros_0f7a4_75 rfl 0 rfl ?_
    refine k_iconst hC dJ6_numberOfTrailingZeros_0f7a4_76 ?_
    refine k_iushrN hC (a := 3) (q := 0) (by decide) (by decide) rfl dJ6_numberOfTrailingZeros_0f7a4_77 ?_
    refine k_topv (vI 1) (congrArg vI (by decide)) ?_
    refine k_iadd hC dJ6_numberOfTrailingZeros_0f7a4_78 ?_
    refine k_topv (vI 10) (congrArg vI (by decide)) ?_
    subst hQ
    exact k_iret hC hr ⟨by decide, by decide⟩ (⟨congrArg (fun z => some (vI z)) (show (fiF (fun i => a.testBit i) 12 : Int) = 10 from by rw [ht]; rfl), rfl, rfl⟩) dJ6_numberOfTrailingZeros_0f7a4_79
  · subst et
    refine k_topv (vI 2047) (congrArg vI (by decide)) ?_
    refine k_istore_n hC [(0, vI 2047)] dJ6_numberOfTrailingZeros_0f7a4_7 rfl (by decide) rfl ?_
    refine k_iload_n hC dJ6_numberOfTrailingZeros_0f7a4_8 rfl 0 rfl ?_
    refine k_if_gt hC 17 dJ6_numberOfTrailingZeros_0f7a4_9 rfl (by omega) (fun c_9 => ?_) (fun c_9 => absurd c_9 (by omega))
    refine k_iconst hC dJ6_numberOfTrailingZeros_0f7a4_17 ?_
    refine k_istore_n hC [(1, vI 1), (0, vI 2047)] dJ6_numberOfTrailingZeros_0f7a4_18 rfl (by decide) rfl ?_
    refine k_iload_n hC dJ6_numberOfTrailingZeros_0f7a4_19 rfl 1 rfl ?_
    refine k_ldcw hC (x := 65536) (v := 65536) dJ6_numberOfTrailingZeros_0f7a4_20 (by decide) wk_J6_264 ?_
    refine k_icmp_le hC 34 dJ6_numberOfTrailingZeros_0f7a4_23 rfl (by omega) (by omega) (fun c_23 => ?_) (fun c_23 => absurd c_23 (by omega))
    refine k_iload_n hC dJ6_numberOfTrailingZeros_0f7a4_34 rfl 1 rfl ?_
    refine k_sipush hC dJ6_numberOfTrailingZeros_0f7a4_35 (by decide) ?_
    refine k_icmp_le hC 49 dJ6_numberOfTrailingZeros_0f7a4_38 rfl (by omega) (by omega) (fun c_38 => absurd c_38 (by omega)) (fun c_38 => ?_)
    refine k_iinc hC (y := 9) [(1, vI 9), (0, vI 2047)] (j := 0) dJ6_numberOfTrailingZeros_0f7a4_41 rfl (by decide) (by decide) rfl ?_
    refine k_iload_n hC dJ6_numberOfTrailingZeros_0f7a4_44 rfl 1 rfl ?_
    refine k_bipush hC dJ6_numberOfTrailingZeros_0f7a4_45 (by decide) ?_
    refine k_iushrN hC (a := 2047) (q := 3) (by decide) (by decide) rfl dJ6_numberOfTrailingZeros_0f7a4_47 ?_
    refine k_topv (vI 7) (congrArg vI (by decide)) ?_
    refine k_istore_n hC [(0, vI 7), (1, vI 9)] dJ6_numberOfTrailingZeros_0f7a4_48 rfl (by decide) rfl ?_
    refine k_iload_n hC dJ6_numberOfTrailingZeros_0f7a4_49 rfl 0 rfl ?_
    refine k_bipush hC dJ6_numberOfTrailingZeros_0f7a4_50 (by decide) ?_
    refine k_icmp_le hC 62 dJ6_numberOfTrailingZeros_0f7a4_52 rfl (by omega) (by omega) (fun c_52 => ?_) (fun c_52 => absurd c_52 (by omega))
    refine k_iload_n hC dJ6_numberOfTrailingZeros_0f7a4_62 rfl 0 rfl ?_
    refine k_iconst hC dJ6_numberOfTrailingZeros_0f7a4_63 ?_
    refine k_icmp_le hC 74 dJ6_numberOfTrailingZeros_0f7a4_64 rfl (by omega) (by omega) (fun c_64 => absurd c_64 (by omega)) (fun c_64 => ?_)
    refine k_iinc hC (y := 11) [(1, vI 11), (0, vI 7)] (j := 1) dJ6_numberOfTrailingZeros_0f7a4_67 rfl (by decide) (by decide) rfl ?_
    refine k_iload_n hC dJ6_numberOfTrailingZeros_0f7a4_70 rfl 1 rfl ?_
    refine k_iconst hC dJ6_numberOfTrailingZeros_0f7a4_71 ?_
    refine k_iushrN hC (a := 7) (q := 1) (by decide) (by decide) rfl dJ6_numberOfTrailingZeros_0f7a4_72 ?_
    refine k_topv (vI 1) (congrArg vI (by decide)) ?_
    refine k_istore_n hC [(0, vI 1), (1, vI 11)] dJ6_numberOfTrailingZeros_0f7a4_73 rfl (by decide) rfl ?_
    refine k_iload_n hC dJ6_numberOfTrailingZeros_0f7a4_74 rfl 1 rfl ?_
    refine k_iload_n hC dJ6_numberOfTrailingZeros_0f7a4_75 rfl 0 rfl ?_
    refine k_iconst hC dJ6_numberOfTrailingZeros_0f7a4_76 ?_
    refine k_iushrN hC (a := 1) (q := 0) (by decide) (by decide) rfl dJ6_numberOfTrailingZeros_0f7a4_77 ?_
    refine k_topv (vI 0) (congrArg vI (by decide)) ?_
    refine k_iadd hC dJ6_numberOfTrailingZeros_0f7a4_78 ?_
    refine k_topv (vI 11) (congrArg vI (by decide)) ?_
    subst hQ
    exact k_iret hC hr ⟨by decide, by decide⟩ (⟨congrArg (fun z => some (vI z)) (show (fiF (fun i => a.testBit i) 12 : Int) = 11 from by rw [ht]; rfl), rfl, rfl⟩) dJ6_numberOfTrailingZeros_0f7a4_79

