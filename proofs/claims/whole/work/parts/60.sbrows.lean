theorem w_isL : Cond.selects RJ4 yJ5_isLatin1_aae02 yJ5_isLatin1_aae02 ∈ kwords := kw_mem 1326 (by decide +kernel) rfl
theorem w_sup : Cond.superclass RJ4 RJ5 ∈ kwords := kw_mem 452 (by decide +kernel) rfl
theorem w_arb : Cond.arrayClass .byte ∈ kwords := kw_mem 76 (by decide +kernel) rfl
theorem k_fit8 {x : Int} (h : -128 ≤ x ∧ x < 128) : fits .byte (.int (Int32.ofInt x)) = true := by
  have h0 : ∀ i : Fin 256, fits .byte (.int (Int32.ofInt ((i.val : Int) - 128))) = true := by decide +kernel
  have := h0 ⟨(x + 128).toNat, by omega⟩
  rw [show (((x + 128).toNat : Nat) : Int) - 128 = x by omega] at this
  exact this
section
variable {p : Program} {l : Launch} {e : Env} {R : Room} {s : State} {m : MethodId} {args : Array Value} {below : List Frame} {meth : Method} {c : Code} {cc : ByteArray} {own : String} {nL : Nat} {G : kG} {d0 mc0 ms0 : Nat} {Q : State → Prop} {w : Nat → va_E} {fl : va_W} {cells slots pc : Nat} {lv : List (Nat × Value)} {st : List Value}
/-! floating cells -/
theorem k_baldF (hC : kC p l R s m args meth c cc own nL G d0 mc0 ms0) {q n : Nat} {f : Nat → Int} {i : Int} (j : Nat) (hq : fl[j]? = some (q, bA G n f)) (hi : 0 ≤ i ∧ i < (n : Int)) (hn : n ≤ 2147483647) (d : decode cc pc = .ok (.baload, 1)) (kk : KW p l e R s m args below meth c nL G Q w fl cells slots (pc + 1) lv (vI (f i.toNat) :: st)) : KW p l e R s m args below meth c nL G Q w fl cells slots pc lv (vI i :: .ref q :: st) := fun H locs ls h1 h2 h3 h4 => va_bald hC.1 hC.2.1 hC.2.2.2.2.2.1 h1 (kN G + j) 2 (by rw [kws_fl, hq]; rfl) rfl (k_in hi hn) d (by rw [k_nat (by omega), if_pos (show i.toNat < n by omega)]; exact kk H locs ls h1 h2 h3 h4)
theorem k_alenF (hC : kC p l R s m args meth c cc own nL G d0 mc0 ms0) {q n : Nat} {f : Nat → Int} (j : Nat) (hq : fl[j]? = some (q, bA G n f)) (d : decode cc pc = .ok (.arraylength, 1)) (kk : KW p l e R s m args below meth c nL G Q w fl cells slots (pc + 1) lv (vI n :: st)) : KW p l e R s m args below meth c nL G Q w fl cells slots pc lv (.ref q :: st) := fun H locs ls h1 h2 h3 h4 => va_alen (v := Int32.ofInt (n : Int)) hC.1 hC.2.1 hC.2.2.2.2.2.1 h1 (kN G + j) 2 (by rw [kws_fl, hq]; rfl) rfl rfl d (kk H locs ls h1 h2 h3 h4)
theorem k_bastF (hC : kC p l R s m args meth c cc own nL G d0 mc0 ms0) {q n : Nat} {f : Nat → Int} {i x : Int} (j : Nat) (fl1 : va_W) (hq : fl[j]? = some (q, bA G n f)) (hf : fl.set j (q, bA G n (kup f i.toNat x)) = fl1) (hi : 0 ≤ i ∧ i < (n : Int)) (hn : n ≤ 2147483647) (hx : -128 ≤ x ∧ x < 128) (d : decode cc pc = .ok (.bastore, 1))
    (kk : KW p l e R s m args below meth c nL G Q w fl1 cells slots (pc + 1) lv st) : KW p l e R s m args below meth c nL G Q w fl cells slots pc lv (vI x :: vI i :: .ref q :: st) := by
  intro H locs ls h1 h2 h3 h4
  refine va_bast hC.1 hC.2.1 hC.2.2.2.2.2.1 h1 h2 h3 (kN G + j) 2 (by rw [kws_fl, hq]; rfl) rfl (k_in hi hn) d (fun H1 locs1 g1 g2 g3 => ?_)
  rw [k_nat (by omega), kup_b f x (show i.toNat < n by omega) hx, kws_setfl] at g1 g2
  subst hf
  exact kk H1 locs1 ls g1 g2 g3 h4
theorem kA_out (hC : kC p l R s m args meth c cc own nL G d0 mc0 ms0) : ∀ q, s.heap.size ≤ q → kA G q := fun q hq => Nat.le_trans hC.2.2.2.2.2.2.2.1 hq
theorem k_newb (hC : kC p l R s m args meth c cc own nL G d0 mc0 ms0) {n : Nat} (hn : n ≤ 1000) (hw : Cond.arrayClass .byte ∈ kwords) (hcs : cells + 1 ≤ mc0 ∧ slots + n ≤ ms0) (d : decode cc pc = .ok (.newarray .byte, 2))
    (kk : ∀ q : Nat, KW p l e R s m args below meth c nL G Q w (fl ++ [(q, bA G n (fun _ => 0))]) (cells + 1) (slots + n) (pc + 2) lv (.ref q :: st)) : KW p l e R s m args below meth c nL G Q w fl cells slots pc lv (vI n :: st) := by
  intro H locs ls h1 h2 h3 h4
  have hx := hC.2.2.2.2.2.2.2.2.2.1
  refine va_newa (atype := .byte) (N' := n) (a0 := (n, .inl (fun j => if j < n then Int32.ofInt 0 else 0))) hC.1 hC.2.1 (hC.2.2.2.2.1 _ hw) (ty := .byte) rfl hC.2.2.2.2.2.1 h1 h2 h3 (kA_out hC) (fun cA => by
      rw [vp_cell_i]
      congr 1
      funext j
      show Value.int (if j < n then Int32.ofInt 0 else 0) = .int 0
      split <;> rfl) (k_nn (by omega)) (by rw [k_nat (by omega)]; rfl) (by show n * 1 ≤ _; omega) (by omega) (by omega) d (fun q cA H1 g0 g1 g2 g3 => ?_)
  have e : cA = kTT G 2 := by
    have a1 := (g0.2 7 (cA, .byte) rfl).2
    have a2 := (hC.2.2.2.2.2.1.2 2 (kTT G 2, .byte) rfl).2
    exact Option.some.inj (a1.symm.trans a2)
  subst e
  have e2 : kws G w fl ++ [(q, Sum.inl (kTT G 2, n, Sum.inl (fun j => if j < n then Int32.ofInt 0 else 0)))] = kws G w (fl ++ [(q, bA G n (fun _ => 0))]) := by
    unfold kws bA; rw [List.append_assoc]
  rw [e2] at g1 g2
  exact kk q H1 locs ls g1 g2 g3 h4
theorem k_flby (fl1 : va_W) (g : Nat → Nat) (hg : ∀ (k : Nat) (q : Nat × va_E), fl1[k]? = some q → fl[g k]? = some q) (hi : ∀ i j : Nat, i < fl1.length → j < fl1.length → g i = g j → i = j) (k : KW p l e R s m args below meth c nL G Q w fl1 cells slots pc lv st) : KW p l e R s m args below meth c nL G Q w fl cells slots pc lv st := by
  intro H locs ls h1 h2 h3 h4
  have hk : ∀ (i : Nat) (q : Nat × va_E), (kws G w fl1)[i]? = some q → (kws G w fl)[if i < kN G then i else kN G + g (i - kN G)]? = some q := by
    intro i q hq
    by_cases hi : i < kN G
    · rw [if_pos hi, kws_at hi]; rw [kws_at hi] at hq; exact hq
    · rw [if_neg hi, kws_fl]
      apply hg
      rw [show i = kN G + (i - kN G) by omega, kws_fl] at hq
      exact hq
  have hl : (kws G w fl1).length = kN G + fl1.length := by unfold kws; simp
  refine k H locs ls (h1.by _ hk) (h2.by _ hk (fun i j hi' hj' e => ?_)) h3 h4
  rw [hl] at hi' hj'
  by_cases a : i < kN G
  · rw [if_pos a] at e
    by_cases b : j < kN G
    · rw [if_pos b] at e; exact e
    · rw [if_neg b] at e; omega
  · rw [if_neg a] at e
    by_cases b : j < kN G
    · rw [if_pos b] at e; omega
    · rw [if_neg b] at e
      have := hi (i - kN G) (j - kN G) (by omega) (by omega) (by omega)
      omega
theorem k_fldrop {a b : Nat × va_E} (k : KW p l e R s m args below meth c nL G Q w [b] cells slots pc lv st) : KW p l e R s m args below meth c nL G Q w [a, b] cells slots pc lv st := k_flby [b] (fun _ => 1) (fun k q h => by
  match k, h with
  | 0, h => exact h
  | k + 1, h => exact absurd h (by simp)) (fun i j hi hj _ => by simp at hi hj; omega) k
theorem k_copyF (hC : kC p l R s m args meth c cc own nL G d0 mc0 ms0) {q0 q1 n0 n1 ix : Nat} {f g : Nat → Int} {n : Int} (hl : Cond.methodLink own ix arraycopyName ∈ kwords) (hz : Cond.native arraycopyName ∈ kwords ∧ Cond.static arraycopyName ∈ kwords ∧ Cond.initialized "java/lang/System" ∈ kwords)
    (hn : 0 ≤ n) (h0 : n ≤ n0) (h1 : n ≤ n1) (hs : n0 ≤ 1000 ∧ n1 ≤ 1000) (hb : ∀ j : Nat, (j : Int) < n → -128 ≤ f j ∧ f j < 128) (hd : 2 ≤ d0) (hcat : (st.map fun v => v.category).sum ≤ 8) (d : decode cc pc = .ok (.invokestatic ix, 3))
    (kk : KW p l e R s m args below meth c nL G Q w [(q0, bA G n0 f), (q1, bA G n1 (va_cpy f g 0 0 n.toNat))] cells slots (pc + 3) lv st) : KW p l e R s m args below meth c nL G Q w [(q0, bA G n0 f), (q1, bA G n1 g)] cells slots pc lv (vI n :: vI 0 :: .ref q1 :: vI 0 :: .ref q0 :: st) := by
  intro H locs ls g1 g2 g3 g4
  obtain ⟨z1, z2, z3⟩ := hz
  have hx := hC.2.2.2.2.2.2.2.2.2.1
  have h9 : nativeFrameWords "java/lang/System" "arraycopy" 5 + 11 ≤ 100 := by decide
  refine va_copyi hC.1 hC.2.1 (by rw [hC.2.2.1]; exact g4.1.symm) hC.2.2.2.1 (hC.2.2.2.2.1 _ hl) (hC.2.2.2.2.1 _ z1) (hC.2.2.2.2.1 _ z2) (hC.2.2.2.2.1 _ z3) hC.2.2.2.2.2.1 g1 g2 g3 (kN G + 0) (kN G + 1) 2 2 (by rw [kws_fl]; rfl) (by rw [kws_fl]; rfl) rfl rfl rfl (k_nn (a := 0) (by omega)) (k_nn (a := 0) (by omega)) (k_nn (a := n) (by omega)) (by rw [k_nat (by omega), k_nat (by omega)]; omega) (by rw [k_nat (by omega), k_nat (by omega)]; omega) (fun i hi => by
      rw [k_nat (by omega)] at hi
      rw [k_nat (a := 0) (by omega), if_pos (show (0 : Int).toNat + i < n0 by omega)]
      have hv := hb i (by omega)
      rw [show (0 : Int).toNat + i = i from Nat.zero_add i]
      exact k_fit8 hv) (by omega) (by omega) d (fun H1 locs1 f1 f2 f3 => ?_)
  rw [k_nat (by omega), k_nat (by omega), k_cpy_eq f g (by omega) (by omega), kws_setfl] at f1 f2
  exact kk H1 locs1 ls f1 f2 f3 g4
theorem k_ishl0 (hC : kC p l R s m args meth c cc own nL G d0 mc0 ms0) {a : Int} (d : decode cc pc = .ok (.ishl, 1)) (k : KW p l e R s m args below meth c nL G Q w fl cells slots (pc + 1) lv (vI a :: st)) : KW p l e R s m args below meth c nL G Q w fl cells slots pc lv (vI 0 :: vI a :: st) := fun H locs ls h1 h2 h3 h4 => lv_ishl hC.1 hC.2.1 d (by rw [show Int32.ofInt 0 = 0 from rfl, sb_shl0]; exact k H locs ls h1 h2 h3 h4)
theorem k_dupx1 (hC : kC p l R s m args meth c cc own nL G d0 mc0 ms0) {va vb : Value} (d : decode cc pc = .ok (.dup_x1, 1)) (ha : va.category = 1) (hb : vb.category = 1) (k : KW p l e R s m args below meth c nL G Q w fl cells slots (pc + 1) lv (va :: vb :: va :: st)) : KW p l e R s m args below meth c nL G Q w fl cells slots pc lv (va :: vb :: st) := fun H locs ls h1 h2 h3 h4 => lv_dup_x1 hC.1 hC.2.1 d ha hb (k H locs ls h1 h2 h3 h4)
theorem k_ifnn (hC : kC p l R s m args meth c cc own nL G d0 mc0 ms0) {x : Nat} {off : Int} (tgt : Nat) (d : decode cc pc = .ok (.ifnonnull off, 3)) (ht : (pc : Int) + off = (tgt : Int)) (k : KW p l e R s m args below meth c nL G Q w fl cells slots tgt lv st) : KW p l e R s m args below meth c nL G Q w fl cells slots pc lv (.ref x :: st) := fun H locs ls h1 h2 h3 h4 => lv_ifnonnull hC.1 hC.2.1 d ht (k H locs ls h1 h2 h3 h4)
/-! calls within the builder -/
def kYU (y : MethodName) (cc : ByteArray) (maxL : Nat) (ret : Option FieldType) (n : Nat) : Prop := (Cond.code y cc maxL ret ∈ kwords ∧ Cond.initialized y.cls ∈ kwords) ∧ (y.cls ≠ "java/lang/invoke/MethodHandle" ∧ y.cls ≠ "java/lang/invoke/VarHandle" ∧ (parseMethodDescriptor y.desc).map (fun d => d.parameters.length) = some n) ∧ Cond.instanceMethod y ∈ kwords ∧ Cond.sameMethod y.cls y.cls y.name y.desc ∈ kwords ∧ (Cond.selects RJ4 y y ∈ kwords ∨ (Cond.privateMethod y ∈ kwords ∧ y.cls = RJ5))
def kYP (y : MethodName) (cc : ByteArray) (maxL : Nat) (ret : Option FieldType) (n : Nat) : Prop := (Cond.code y cc maxL ret ∈ kwords ∧ Cond.initialized y.cls ∈ kwords) ∧ (y.name ≠ "<init>" ∧ (parseMethodDescriptor y.desc).map (fun d => d.parameters.length) = some n) ∧ Cond.instanceMethod y ∈ kwords ∧ Cond.sameMethod y.cls y.cls y.name y.desc ∈ kwords ∧ Cond.superclass RJ4 y.cls ∈ kwords
theorem sel_up {C : String} {y y2 : MethodName} {args : Array Value} {s : State} (hy : y.cls ≠ "java/lang/invoke/MethodHandle" ∧ y.cls ≠ "java/lang/invoke/VarHandle") (hp : (Cond.privateMethod y).before args s = true) (hi : (Cond.instanceMethod y).before args s = true) (h2 : (Cond.selects C y2 y2).before args s = true) (hc : y2.cls = y.cls) : (Cond.selects C y y).before args s = true := by
  obtain ⟨c0, r, m2, e1, e2, e3, e4, mk2, e5, e6⟩ := Cond.selects_spec h2
  obtain ⟨mk, methM, hnamed, hmethM, -, -⟩ := Cond.instanceMethod_spec hi
  have hfound : s.methodFound? y.cls y.name y.desc = some mk := State.methodFound?_of_named hnamed hy
  have hcls : m2.cls = mk.cls := Option.some.inj ((findClass_of_methodNamed e3).symm.trans ((congrArg s.vm.findClass hc).trans (findClass_of_methodNamed hnamed)))
  have hsel : selectMethod {} s.vm c0 mk = .method mk := selectMethod_private hmethM (Cond.privateMethod_at hp mk methM hnamed hmethM)
  rw [hcls] at e5
  simp only [Cond.before, Cond.holds, Cond.value, e1, hfound, hnamed, hsel, e5]
  simp; exact e6
end
section
variable {p : Program} {l : Launch} {e : Env} {R : Room} {s : State} {m : MethodId} {args : Array Value} {below : List Frame} {meth : Method} {c : Code} {cc : ByteArray} {own : String} {nL : Nat} {G : kG} {d0 mc0 ms0 : Nat} {Q : State → Prop} {w : Nat → va_E} {fl : va_W} {cells slots pc : Nat} {lv : List (Nat × Value)} {st : List Value}
variable {cc1 : ByteArray} {maxL d mc ms n ix : Nat} {ret : Option FieldType} {As : List Value} {y : MethodName} {post : Option Value → (Nat → va_E) → va_W → Prop} {st0 : List Value}
theorem k_callU (hC : kC p l R s m args meth c cc own nL G d0 mc0 ms0) {k : Nat} {fs : List Value} (hM : KM l G y cc1 maxL ret d mc ms (.ref (kad G k) :: As) w fl post) (hy : kYU y cc1 maxL ret n) (hl : Cond.methodLink own ix y ∈ kwords) (hk : k < kN G) (hw : w k = .inr (13, fs)) (hst : st0 = As.reverse ++ .ref (kad G k) :: st) (hn : As.length = n) (hcat : (st.map fun v => v.category).sum ≤ 8) (hd : d + 1 ≤ d0) (hm : maxL ≤ 45) (hr : cells + mc ≤ mc0 ∧ slots + ms ≤ ms0) (dc : decode cc pc = .ok (.invokevirtual ix, 3))
    (kk : ∀ (v : Option Value) (w1 : Nat → va_E) (fl1 : va_W), post v w1 fl1 → KW p l e R s m args below meth c nL G Q w1 fl1 (cells + mc) (slots + ms) (pc + 3) lv (v.toList ++ st)) : KW p l e R s m args below meth c nL G Q w fl cells slots pc lv st0 := by
  intro H locs ls h1 h2 h3 h4
  have hR := hC.2.2.2.2.2.2.2.2.2.1
  have hw8 := hC.2.2.2.2.1
  have hsel : (Cond.selects RJ4 y y).before args s = true := by
    rcases hy.2.2.2.2 with h | ⟨h, h'⟩
    · exact hw8 _ h
    · exact sel_up ⟨hy.2.1.1, hy.2.1.2.1⟩ (hw8 _ h) (hw8 _ hy.2.2.1) (hw8 _ w_isL) h'.symm
  have hrun := va_runU (p := p) (e := e) (below := below) (meth := meth) (As := As) (rest := st) (C := RJ4) (owner := y.cls) (x := y) (g := F0 m pc ls st0) (locs := locs) (cells := cells) (slots := slots) (kC_fix hC) hM ⟨⟨rfl, rfl, (by show d + 1 ≤ R.frames; omega), (by show 8 + (maxL + 11) + 64 * d ≤ R.locals; omega), kwo_pay hy.1.1 hw8, List.mem_cons_self⟩, hw8 _ hy.1.1, hw8 _ hy.1.2, ⟨hy.2.1.1, hy.2.1.2.1⟩, k_lenOf hy.2.1.2.2, hw8 _ hl, hw8 _ hy.2.2.2.1, va_Decl.of (hw8 _ hy.2.2.1) (hw8 _ hy.1.1), hsel, hw8 _ hy.2.2.1⟩ ⟨kS_blind, va_recv hC.2.2.2.2.2.1 h1 (ci := 13) (q0 := k) rfl (by rw [kws_at hk, hw]), fun U hU hW => hC.pre h1 h2 h3 hU hW⟩ rfl hn h4.1 hst (lv_room hcat) dc ⟨by omega, by omega⟩
  exact k_run hrun h3 h4 kk
theorem k_callP (hC : kC p l R s m args meth c cc RJ4 nL G d0 mc0 ms0) {k : Nat} {fs : List Value} (hM : KM l G y cc1 maxL ret d mc ms (.ref (kad G k) :: As) w fl post) (hy : kYP y cc1 maxL ret n) (hl : Cond.methodLink RJ4 ix y ∈ kwords) (hk : k < kN G) (hw : w k = .inr (13, fs)) (hst : st0 = As.reverse ++ .ref (kad G k) :: st) (hn : As.length = n) (hcat : (st.map fun v => v.category).sum ≤ 8) (hd : d + 1 ≤ d0) (hm : maxL ≤ 45) (hr : cells + mc ≤ mc0 ∧ slots + ms ≤ ms0) (dc : decode cc pc = .ok (.invokespecial ix, 3))
    (kk : ∀ (v : Option Value) (w1 : Nat → va_E) (fl1 : va_W), post v w1 fl1 → KW p l e R s m args below meth c nL G Q w1 fl1 (cells + mc) (slots + ms) (pc + 3) lv (v.toList ++ st)) : KW p l e R s m args below meth c nL G Q w fl cells slots pc lv st0 := by
  intro H locs ls h1 h2 h3 h4
  have hR := hC.2.2.2.2.2.2.2.2.2.1
  have hw8 := hC.2.2.2.2.1
  have hrun := va_runSU (p := p) (e := e) (below := below) (meth := meth) (As := As) (rest := st) (C := RJ4) (g := F0 m pc ls st0) (locs := locs) (cells := cells) (slots := slots) (hC.2.2.2.2.2.1.1 13 _ rfl).2 (kC_fix hC) hM ⟨⟨rfl, rfl, (by show d + 1 ≤ R.frames; omega), (by show 8 + (maxL + 11) + 64 * d ≤ R.locals; omega), kwo_pay hy.1.1 hw8, List.mem_cons_self⟩, hw8 _ hl, hw8 _ hy.2.2.2.1, hw8 _ hy.2.2.2.2, hw8 _ hy.2.2.1, hw8 _ hy.1.2, hw8 _ hy.1.1, hy.2.1.1, k_lenOf hy.2.1.2⟩ ⟨kS_blind, va_recv hC.2.2.2.2.2.1 h1 (ci := 13) (q0 := k) rfl (by rw [kws_at hk, hw]), fun U hU hW => hC.pre h1 h2 h3 hU hW⟩ rfl hn h4.1 hst (lv_room hcat) dc ⟨by omega, by omega⟩
  exact k_run hrun h3 h4 kk
end
theorem yu_J5_isLatin1_aae02 : kYU yJ5_isLatin1_aae02 cJ5_isLatin1_aae02 1 (some (FieldType.boolean)) 0 := ⟨⟨wc_J5_isLatin1_aae02, wz_J5⟩, by decide +kernel, wi_J5_isLatin1_aae02, kw_mem 1325 (by decide +kernel) rfl, Or.inl w_isL⟩
theorem yu_J5_ensureCapacityInternal_d00df : kYU yJ5_ensureCapacityInternal_d00df cJ5_ensureCapacityInternal_d00df 3 (none) 1 := ⟨⟨wc_J5_ensureCapacityInternal_d00df, wz_J5⟩, by decide +kernel, wi_J5_ensureCapacityInternal_d00df, kw_mem 2226 (by decide +kernel) rfl, Or.inr ⟨kw_mem 1293 (by decide +kernel) rfl, rfl⟩⟩
theorem yu_J5_newCapacity_0f7a4 : kYU yJ5_newCapacity_0f7a4 cJ5_newCapacity_0f7a4 6 (some (FieldType.int)) 1 := ⟨⟨wc_J5_newCapacity_0f7a4, wz_J5⟩, by decide +kernel, wi_J5_newCapacity_0f7a4, kw_mem 2227 (by decide +kernel) rfl, Or.inr ⟨kw_mem 1297 (by decide +kernel) rfl, rfl⟩⟩
theorem yu_J5_putStringAt_47b60 : kYU yJ5_putStringAt_47b60 cJ5_putStringAt_47b60 3 (none) 2 := ⟨⟨wc_J5_putStringAt_47b60, wz_J5⟩, by decide +kernel, wi_J5_putStringAt_47b60, kw_mem 2230 (by decide +kernel) rfl, Or.inr ⟨kw_mem 1369 (by decide +kernel) rfl, rfl⟩⟩
theorem yu_J5_inflateIfNeededFor_a7421 : kYU yJ5_inflateIfNeededFor_a7421 cJ5_inflateIfNeededFor_a7421 2 (none) 1 := ⟨⟨wc_J5_inflateIfNeededFor_a7421, wz_J5⟩, by decide +kernel, wi_J5_inflateIfNeededFor_a7421, kw_mem 2231 (by decide +kernel) rfl, Or.inr ⟨kw_mem 1373 (by decide +kernel) rfl, rfl⟩⟩
theorem yp_J5_append_3fe6f : kYP yJ5_append_3fe6f cJ5_append_3fe6f 2 (some ((FieldType.object "java/lang/AbstractStringBuilder"))) 1 := ⟨⟨wc_J5_append_3fe6f, wz_J5⟩, by decide +kernel, wi_J5_append_3fe6f, kw_mem 2235 (by decide +kernel) rfl, w_sup⟩
theorem yp_J5_append_c97b9 : kYP yJ5_append_c97b9 cJ5_append_c97b9 4 (some ((FieldType.object "java/lang/AbstractStringBuilder"))) 1 := ⟨⟨wc_J5_append_c97b9, wz_J5⟩, by decide +kernel, wi_J5_append_c97b9, kw_mem 2233 (by decide +kernel) rfl, w_sup⟩
theorem yp_J5_append_cf1ce : kYP yJ5_append_cf1ce cJ5_append_cf1ce 3 (some ((FieldType.object "java/lang/AbstractStringBuilder"))) 1 := ⟨⟨wc_J5_append_cf1ce, wz_J5⟩, by decide +kernel, wi_J5_append_cf1ce, kw_mem 2228 (by decide +kernel) rfl, w_sup⟩
theorem yp_J5_setLength_d00df : kYP yJ5_setLength_d00df cJ5_setLength_d00df 2 (none) 1 := ⟨⟨wc_J5_setLength_d00df, wz_J5⟩, by decide +kernel, wi_J5_setLength_d00df, kw_mem 2225 (by decide +kernel) rfl, w_sup⟩
theorem yp_J5_length_8abf5 : kYP yJ5_length_8abf5 cJ5_length_8abf5 1 (some (FieldType.int)) 0 := ⟨⟨wc_J5_length_8abf5, wz_J5⟩, by decide +kernel, wi_J5_length_8abf5, kw_mem 2222 (by decide +kernel) rfl, w_sup⟩
theorem yp_J5_charAt_5068e : kYP yJ5_charAt_5068e cJ5_charAt_5068e 5 (some (FieldType.char)) 1 := ⟨⟨wc_J5_charAt_5068e, wz_J5⟩, by decide +kernel, wi_J5_charAt_5068e, kw_mem 2223 (by decide +kernel) rfl, w_sup⟩
