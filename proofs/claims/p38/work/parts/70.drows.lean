theorem wz_Double : Cond.initialized "java/lang/Double" ∈ kwords := kw_mem 28 (by decide +kernel) rfl
theorem wk_dc : Cond.constantDouble RL 236 (4517329193108106637 : UInt64) ∈ kwords := kw_mem 1299 (by decide +kernel) rfl
/-- bits of a finite double -/
theorem fl_bits {n : Nat} {s : Bool} {c : Nat} {q : Int} (hn : n < 2 ^ 64) (h : Jvm.FP.Core.decode Jvm.FP.Core.b64 n = .fin s c q) : n % 2 ^ 63 ≤ 0x7ff0000000000000 ∧ Jvm.FP.Core.decode Jvm.FP.Core.b64 (n % 2 ^ 63) = .fin false c q := by
  have ht : Jvm.FP.Core.b64.tails = 4503599627370496 := by decide
  have he : Jvm.FP.Core.b64.exps = 2048 := by decide
  unfold Jvm.FP.Core.decode Jvm.FP.Core.fieldE Jvm.FP.Core.fieldT Jvm.FP.Core.fieldS at h ⊢
  rw [ht, he] at h ⊢
  have e1 : n % 2 ^ 63 / 4503599627370496 % 2048 = n / 4503599627370496 % 2048 := by omega
  have e2 : n % 2 ^ 63 % 4503599627370496 = n % 4503599627370496 := by omega
  have e3 : n % 2 ^ 63 / 4503599627370496 / 2048 % 2 = 0 := by omega
  rw [e1, e2, e3]
  by_cases h1 : n / 4503599627370496 % 2048 = 2048 - 1
  · rw [if_pos h1] at h
    split at h <;> cases h
  · rw [if_neg h1] at h ⊢
    refine ⟨by omega, ?_⟩
    by_cases h2 : n / 4503599627370496 % 2048 = 0
    · rw [if_pos h2] at h ⊢
      cases h
      rfl
    · rw [if_neg h2] at h ⊢
      cases h
      rfl
theorem fl_n64 {a : UInt64} {s : Bool} {lo hi : Nat} (h : fl_D a s lo hi) : vf_n64 a := by
  obtain ⟨c, q, h1, -⟩ := h
  have h2 := (fl_bits (UInt64.toNat_lt a) h1).1
  have h3 : vf_n64 (UInt64.ofNat a.toNat) := n64_of (by rw [Nat.mod_eq_of_lt (UInt64.toNat_lt a)]; exact h2)
  rwa [UInt64.ofNat_toNat] at h3
theorem fl_abs {a : UInt64} {s : Bool} {lo hi : Nat} (h : fl_D a s lo hi) : fl_D (a &&& 0x7fffffffffffffff) false lo hi := by
  obtain ⟨c, q, h1, h2⟩ := h
  have e : (a &&& 0x7fffffffffffffff).toNat = a.toNat % 2 ^ 63 := by
    rw [UInt64.toNat_and]
    show a.toNat &&& (2 ^ 63 - 1) = _
    rw [Nat.and_two_pow_sub_one_eq_mod]
  exact ⟨c, q, by rw [e]; exact (fl_bits (UInt64.toNat_lt a) h1).2, h2⟩
section
variable {p : Program} {l : Launch} {e : Env} {R : Room} {s : State} {m : MethodId} {args : Array Value} {below : List Frame} {meth : Method} {c : Code} {cc : ByteArray} {own : String} {nL : Nat} {G : kG} {d0 mc0 ms0 : Nat} {Q : State → Prop} {w : Nat → va_E} {fl : va_W} {cells slots pc : Nat} {lv : List (Nat × Value)} {st : List Value}
theorem k_dadd (hC : kC p l R s m args meth c cc own nL G d0 mc0 ms0) {x y : UInt64} (d : decode cc pc = .ok (.dadd, 1)) (hn : vf_n64 (FP.dadd x y)) (k : KW p l e R s m args below meth c nL G Q w fl cells slots (pc + 1) lv (.double (FP.dadd x y) :: st)) : KW p l e R s m args below meth c nL G Q w fl cells slots pc lv (.double y :: .double x :: st) := fun H locs ls h1 h2 h3 h4 => lv_dadd hC.1 hC.2.1 d hn (k H locs ls h1 h2 h3 h4)
theorem k_dsub (hC : kC p l R s m args meth c cc own nL G d0 mc0 ms0) {x y : UInt64} (d : decode cc pc = .ok (.dsub, 1)) (hn : vf_n64 (FP.dsub x y)) (k : KW p l e R s m args below meth c nL G Q w fl cells slots (pc + 1) lv (.double (FP.dsub x y) :: st)) : KW p l e R s m args below meth c nL G Q w fl cells slots pc lv (.double y :: .double x :: st) := fun H locs ls h1 h2 h3 h4 => lv_dsub hC.1 hC.2.1 d hn (k H locs ls h1 h2 h3 h4)
theorem k_dmul (hC : kC p l R s m args meth c cc own nL G d0 mc0 ms0) {x y : UInt64} (d : decode cc pc = .ok (.dmul, 1)) (hn : vf_n64 (FP.dmul x y)) (k : KW p l e R s m args below meth c nL G Q w fl cells slots (pc + 1) lv (.double (FP.dmul x y) :: st)) : KW p l e R s m args below meth c nL G Q w fl cells slots pc lv (.double y :: .double x :: st) := fun H locs ls h1 h2 h3 h4 => lv_dmul hC.1 hC.2.1 d hn (k H locs ls h1 h2 h3 h4)
theorem k_dconst1 (hC : kC p l R s m args meth c cc own nL G d0 mc0 ms0) (d : decode cc pc = .ok (.dconst 1, 1)) (k : KW p l e R s m args below meth c nL G Q w fl cells slots (pc + 1) lv (.double 4607182418800017408 :: st)) : KW p l e R s m args below meth c nL G Q w fl cells slots pc lv st := fun H locs ls h1 h2 h3 h4 => lv_dconst1 hC.1 hC.2.1 d (k H locs ls h1 h2 h3 h4)
theorem k_dcmp (hC : kC p l R s m args meth c cc own nL G d0 mc0 ms0) {x y : UInt64} {op : CmpOp} (v : Int) (d : decode cc pc = .ok (.dcmp op, 1)) (hv : Op.cmpValue (FP.dcmp x y) op = Int32.ofInt v) (k : KW p l e R s m args below meth c nL G Q w fl cells slots (pc + 1) lv (vI v :: st)) : KW p l e R s m args below meth c nL G Q w fl cells slots pc lv (.double y :: .double x :: st) := fun H locs ls h1 h2 h3 h4 => lv_dcmp hC.1 hC.2.1 d (by rw [hv]; exact k H locs ls h1 h2 h3 h4)
theorem k_ldc2d (hC : kC p l R s m args meth c cc own nL G d0 mc0 ms0) {i : Nat} {v : UInt64} (hw : Cond.constantDouble own i v ∈ kwords) (d : decode cc pc = .ok (.ldc2_w i, 3)) (k : KW p l e R s m args below meth c nL G Q w fl cells slots (pc + 3) lv (.double v :: st)) : KW p l e R s m args below meth c nL G Q w fl cells slots pc lv st := fun H locs ls h1 h2 h3 h4 => lv_ldc2d hC.1 hC.2.1 hC.2.2.2.1 (hC.2.2.2.2.1 _ hw) d (k H locs ls h1 h2 h3 h4)
theorem k_topD {x : UInt64} (k : ∀ y : UInt64, y = x → KW p l e R s m args below meth c nL G Q w fl cells slots pc lv (.double y :: st)) : KW p l e R s m args below meth c nL G Q w fl cells slots pc lv (.double x :: st) := k x rfl
end
section
variable {p : Program} {l : Launch} {e : Env} {R : Room} {s : State} {m : MethodId} {args : Array Value} {below : List Frame} {meth : Method} {c : Code} {cc : ByteArray} {own : String} {nL : Nat} {G : kG} {d0 mc0 ms0 : Nat} {Q : State → Prop} {w : Nat → va_E} {fl : va_W} {cells slots pc : Nat} {lv : List (Nat × Value)} {st : List Value}
theorem k_dabs (hC : kC p l R s m args meth c cc own nL G d0 mc0 ms0) {x : UInt64} {ix : Nat} (hn : vf_n64 x) (hl : Cond.methodLink own ix yJ9_abs_294c1 ∈ kwords) (hd : 1 ≤ d0) (hcs : cells ≤ mc0 ∧ slots ≤ ms0) (hcat : (st.map fun v => v.category).sum ≤ 8) (d : decode cc pc = .ok (.invokestatic ix, 3)) (k : KW p l e R s m args below meth c nL G Q w fl cells slots (pc + 3) lv (.double (x &&& 0x7fffffffffffffff) :: st)) : KW p l e R s m args below meth c nL G Q w fl cells slots pc lv (.double x :: st) := by
  intro H locs ls h1 h2 h3 h4 T hT X
  have hw := hC.2.2.2.2.1
  have hR := hC.2.2.2.2.2.2.2.2.2.1
  have hcode : (Cond.code Jvm.Free.Fl.Abs.absDN Jvm.Free.Fl.Abs.absDCode 2 (some .double)).before args s = true := hw _ wc_J9_abs_294c1
  obtain ⟨v, vm1, B, hW1, X1, ⟨hv, hB⟩, hst⟩ := callS (bytes := Jvm.Free.Fl.Abs.absDCode) (maxL := 2) (ret := some .double) (y := yJ9_abs_294c1) X hC.1 hC.2.2.2.1 (hw _ hl) (hw _ wt_J9_abs_294c1) (hw _ wz_J9) hcode (by decide) (Jvm.Free.Fl.Abs.absD_pays (W := 8) x hcode (by omega) (by omega)) (g := F0 m pc ls (.double x :: st)) rfl (by rw [hC.2.2.1]; exact h4.1) (argsL := [.double x]) (rest := st)
    (fun sig hs => by rw [show parseMethodDescriptor yJ9_abs_294c1.desc = some ⟨[.double], some .double⟩ from by decide +kernel] at hs; rw [← Option.some.inj hs]; rfl) rfl (by show 2 * 0 + _ ≤ 8; omega) (by rw [hC.2.1]; exact d)
    (fun vmx hWx => ⟨(by show cells ≤ R.cells; omega), (by show slots ≤ R.slots; omega), rfl, hn⟩)
  subst hB
  subst hv
  obtain ⟨t, a1, b1⟩ := k H locs ls h1 h2 h3 h4 (T.setVm vm1) hT X1
  exact ⟨t, hst t a1, b1⟩
end
