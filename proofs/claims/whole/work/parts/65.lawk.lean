/-! the law's own methods: a call under a handler, and methods with a table -/
abbrev sIA : String := "java/lang/IllegalArgumentException"
abbrev sNS : String := "java/util/NoSuchElementException"
def kSN (G : kG) (w : Nat → va_E) (fl : va_W) (U : State) : Prop := kS G w fl U ∧ va_Nc "java/lang/IllegalArgumentException" "java/util/NoSuchElementException" U
theorem kSN_blind {G : kG} {w : Nat → va_E} {fl : va_W} {av : List Value} : FrameBlind (va_Pc av (kSN G w fl)) := by
  intro a U g mk q
  obtain ⟨h0, h1, h2⟩ := q
  have h3 := kS_blind (G := G) (w := w) (fl := fl) (av := av) a U g mk ⟨h0, h1⟩
  exact ⟨h3.1, h3.2, h2.moved (u := U) (U := U.calling g mk a) (Vm.Alike.refl U.vm)⟩
def kwoW (y : MethodName) (cc : ByteArray) (maxL : Nat) (ret : Option FieldType) (hh : List (Nat × Nat × Nat × Nat)) : List Cond := Cond.codeWith y cc maxL ret hh :: kwords
theorem kwoW_pay {y : MethodName} {cc : ByteArray} {maxL : Nat} {ret : Option FieldType} {hh : List (Nat × Nat × Nat × Nat)} {s : State} {args : Array Value} (hc : Cond.codeWith y cc maxL ret hh ∈ kwords) (hts : ∀ w ∈ kwords, w.before args s = true) :
    ∀ w ∈ kwoW y cc maxL ret hh, ∀ (a' : Array Value) (U : State), s.WarmedH U.vm → w.before a' U = true := by
  intro w hw a' U hW
  rcases List.mem_cons.mp hw with rfl | h
  · exact kGood_ok (List.mem_filter.mp hc).2 hW (hts _ hc)
  · exact kGood_ok (List.mem_filter.mp h).2 hW (hts _ h)
/-- a method of the law: it returns always -/
def KL (l : Launch) (G : kG) (y : MethodName) (cc : ByteArray) (maxL : Nat) (ret : Option FieldType) (hh : List (Nat × Nat × Nat × Nat)) (d mc ms : Nat) (av : List Value) (w : Nat → va_E) (fl : va_W) (post : Option Value → (Nat → va_E) → va_W → Prop) : Prop :=
  vx_Met l y (kwoW y cc maxL ret hh) ({ frames := d, cells := mc, slots := ms, locals := 64 * d }) (va_Pc av (kSN G w fl)) (kQ G post) (kXC G (fun _ _ _ => False)) mc ms (kA G)
section
variable {p : Program} {l : Launch} {e : Env} {R : Room} {s : State} {m : MethodId} {args : Array Value} {below : List Frame} {meth : Method} {c : Code} {cc : ByteArray} {own : String} {nL : Nat} {G : kG} {d0 mc0 ms0 : Nat} {Q : State → Prop} {w : Nat → va_E} {fl : va_W} {cells slots pc : Nat} {lv : List (Nat × Value)} {st : List Value}
variable {cc1 : ByteArray} {maxL d mc ms n ix : Nat} {ret : Option FieldType} {As : List Value} {y : MethodName} {post : Option Value → (Nat → va_E) → va_W → Prop} {st0 : List Value}
theorem KL_of {hh : List (Nat × Nat × Nat × Nat)} {av : List Value} {lv0 : List (Nat × Value)} (hls : l.stackTraces = false) (hy : plainName y.cls = true) (ho : y.cls = own) (hlv : lv_args 0 av = lv0) (hlen : (lg_sl av).length ≤ maxL)
    (body : ∀ (p : Program) (e : Env) (R : Room) (s : State) (m : MethodId) (args : Array Value) (below : List Frame) (meth : Method) (c : Code) (Q : State → Prop), kC p l R s m args meth c cc own maxL G d mc ms → meth.sig.returnType = ret → c.exceptionTable.toList = tableOf hh → va_Nc "java/lang/IllegalArgumentException" "java/util/NoSuchElementException" s → vx_MQ below (kQ G post) (kXC G (fun _ _ _ => False)) args s mc ms (kA G) = Q → KW p l e R s m args below meth c maxL G Q w fl 0 0 0 lv0 []) : KL l G y cc maxL ret hh d mc ms av w fl post := by
  refine vx_ofWH (cc := cc) (maxL := maxL) (ret := ret) (hh := hh) hy rfl ?_
  intro p e s m args below meth c s₁ B hml hv
  obtain ⟨rfl, ⟨hP, hD, hK, hE, hz⟩, hNc⟩ := hv
  have hts := atoms_spec (ws := kwoW y cc maxL ret hh) B.pre
  have hown : s.vm.findClass own = some m.cls := by rw [← ho]; exact findClass_of_methodNamed B.named
  have hl := lv_entry av (n := maxL) hlen
  rw [lg_entry_eq]
  generalize (lg_sl av ++ List.replicate (maxL - (lg_sl av).length) Slot.unset).toArray = ls at hl ⊢
  rw [hlv] at hl
  exact body p e _ s m _ below meth c _ ⟨B.exec, B.bytes, hml, hown, fun w hw => hts w (List.mem_cons_of_mem _ hw), hK, hE, hz, B.notSynchronized, ⟨Nat.le_refl _, Nat.le_refl _, Nat.le_refl _, Nat.le_refl _⟩, hls⟩ B.returns (vx_table (x := y) B (hts _ List.mem_cons_self)) hNc rfl s.heap [] ls hP hD va_S.rf hl
/-- an exception of the class E, at q, stands to be caught -/
def KT (p : Program) (l : Launch) (e : Env) (R : Room) (s : State) (m : MethodId) (args : Array Value) (below : List Frame) (meth : Method) (c : Code) (nL : Nat) (G : kG) (Q : State → Prop) (E : String) (w : Nat → va_E) (fl : va_W) (cells slots pc : Nat) (lv : List (Nat × Value)) : Prop :=
  ∀ (H : Heap) (locs : List Loc) (ls : Array Slot) (rest : List Value) (q : Nat) (ce : Cell), va_P (kD G) kcl (kws G w fl) H → va_D (kA G) (kws G w fl) → va_S (kA G) s.heap H locs → lv_has ls nL lv → H[q]? = some ce → ce.vm = .none → s.vm.findClass E = some ce.cls → vx_W p l e R s m args below meth c H locs cells slots Q (F0 m pc ls rest) q
theorem k_callVT (hC : kC p l R s m args meth c cc own nL G d0 mc0 ms0) {k ci : Nat} {fs : List Value} {qc : vw_C} {px1 : String → (Nat → va_E) → va_W → Prop} (hM : KX l G y cc1 maxL ret d mc ms (.ref (kad G k) :: As) w fl post px1) (hy : kYV y cc1 maxL ret n) (hl : Cond.methodLink own ix y ∈ kwords) (hk : k < kN G) (hw : w k = .inr (ci, fs)) (hci : kcl[ci]? = some qc) (hcl : qc.1 = y.cls) (hst : st0 = As.reverse ++ .ref (kad G k) :: st) (hn : As.length = n) (hcat : (st.map fun v => v.category).sum ≤ 8) (hd : d + 1 ≤ d0) (hm : maxL ≤ 45) (hr : cells + mc ≤ mc0 ∧ slots + ms ≤ ms0) (dc : decode cc pc = .ok (.invokevirtual ix, 3))
    (kx : ∀ (E : String) (w1 : Nat → va_E) (fl1 : va_W), px1 E w1 fl1 → KT p l e R s m args below meth c nL G Q E w1 fl1 (cells + mc) (slots + ms) pc lv)
    (kk : ∀ (v : Option Value) (w1 : Nat → va_E) (fl1 : va_W), post v w1 fl1 → KW p l e R s m args below meth c nL G Q w1 fl1 (cells + mc) (slots + ms) (pc + 3) lv (v.toList ++ st)) : KW p l e R s m args below meth c nL G Q w fl cells slots pc lv st0 := by
  intro H locs ls h1 h2 h3 h4
  have hR := hC.2.2.2.2.2.2.2.2.2.1
  have hw8 := hC.2.2.2.2.1
  have hrun := vx_runV (p := p) (e := e) (below := below) (meth := meth) (As := As) (rest := st) (C := y.cls) (g := F0 m pc ls st0) (locs := locs) (cells := cells) (slots := slots) (kC_fix hC) hM ⟨⟨rfl, rfl, (by show d + 1 ≤ R.frames; omega), (by show 8 + (maxL + 11) + 64 * d ≤ R.locals; omega), kwo_pay hy.1.1 hw8, List.mem_cons_self, hw8 _ hy.1.1, hw8 _ hy.1.2, ⟨hy.2.1.1, hy.2.1.2.1⟩, k_lenOf hy.2.1.2.2, hw8 _ hl⟩, hw8 _ hy.2.2.1, hw8 _ hy.2.2.2⟩ ⟨kS_blind, (by rw [← hcl]; exact va_recv hC.2.2.2.2.2.1 h1 (ci := ci) (q0 := k) hci (by rw [kws_at hk, hw])), fun U hU hW => hC.pre h1 h2 h3 hU hW⟩ rfl hn h4.1 hst (lv_room hcat) dc ⟨by omega, by omega⟩
  intro T hT X
  rcases hrun T hT X with ⟨v, st₀, t, T', L, e0, X', hL, e1, e2, ⟨v1, w1, fl1, hv, hp, ⟨hP, hD⟩, hz, hk9⟩, stp⟩ | ⟨q, st₀, t, T', L, E, ce, e0, X', hL, e1, e2, ⟨w1, fl1, hp, ⟨hP, hD⟩, hz, hk9⟩, hce, hcv, hcl9, stp⟩
  · cases hv
    rw [e0] at hz hk9
    obtain ⟨t2, a1, b1⟩ := kk v w1 fl1 hp T'.heap (locs ++ L) ls (by rw [e1]; exact hP) hD
      ⟨Nat.le_trans h3.1 (by rw [e1]; exact hz), fun q f1 f2 => by rw [e1, hk9 q (Nat.lt_of_lt_of_le f1 h3.1) f2]; exact h3.2.1 q f1 f2, fun q hq => by
        rcases List.mem_append.mp hq with h | h
        · exact h3.2.2 q h
        · exact hL q h⟩ h4 T' rfl X'
    exact ⟨t2, stp t2 a1, b1⟩
  · rw [e0] at hz hk9
    have hS9 : va_S (kA G) s.heap T'.heap (locs ++ L) := ⟨Nat.le_trans h3.1 (by rw [e1]; exact hz), fun q f1 f2 => by rw [e1, hk9 q (Nat.lt_of_lt_of_le f1 h3.1) f2]; exact h3.2.1 q f1 f2, fun q hq => by
        rcases List.mem_append.mp hq with h | h
        · exact h3.2.2 q h
        · exact hL q h⟩
    have ho := kx E w1 fl1 hp T'.heap (locs ++ L) ls st q ce (by rw [e1]; exact hP) hD hS9 h4 (by rw [e1]; exact hce) hcv hcl9
    obtain ⟨t2, a1, b1⟩ := ho T' rfl X'
    exact ⟨t2, stp.trans a1, b1⟩
/-- the first row of the table catches it -/
theorem k_catch1 (hC : kC p l R s m args meth c cc own nL G d0 mc0 ms0) {E : String} {a b t i : Nat} {suf : List (Nat × Nat × Nat × Nat)} (hT : c.exceptionTable.toList = tableOf ((a, b, t, i) :: suf)) (hcv : a ≤ pc ∧ pc < b) (hi : i ≠ 0) (hl : Cond.classLink own i E ∈ kwords) (hca : Cond.castable E E ∈ kwords)
    (kk : ∀ q : Nat, KW p l e R s m args below meth c nL G Q w fl cells slots t lv [.ref q]) : KT p l e R s m args below meth c nL G Q E w fl cells slots pc lv := fun H locs ls rest q ce h1 h2 h3 h4 h5 h6 h7 =>
  vx_catch (own := own) (name := E) hC.2.2.2.1 [] ⟨a, b, t, i⟩ (tableOf suf) hT (fun z hz => absurd hz List.not_mem_nil) (by simp [covers, hcv.1, hcv.2]) hi (hC.2.2.2.2.1 _ hl) (hC.2.2.2.2.1 _ hca) h5 h6 h7 (kk q H locs ls h1 h2 h3 h4)
/-- the second row catches it, the first names a class that it isn't of -/
theorem k_catch2 (hC : kC p l R s m args meth c cc own nL G d0 mc0 ms0) {E E0 : String} {a b t i a0 b0 t0 i0 : Nat} {suf : List (Nat × Nat × Nat × Nat)} (hT : c.exceptionTable.toList = tableOf ((a0, b0, t0, i0) :: (a, b, t, i) :: suf)) (hcv : a ≤ pc ∧ pc < b) (hi : i ≠ 0) (hi0 : i0 ≠ 0) (hl0 : Cond.classLink own i0 E0 ∈ kwords) (hNc : va_Nc E E0 s) (hl : Cond.classLink own i E ∈ kwords) (hca : Cond.castable E E ∈ kwords)
    (kk : ∀ q : Nat, KW p l e R s m args below meth c nL G Q w fl cells slots t lv [.ref q]) : KT p l e R s m args below meth c nL G Q E w fl cells slots pc lv := fun H locs ls rest q ce h1 h2 h3 h4 h5 h6 h7 =>
  vx_catch (own := own) (name := E) hC.2.2.2.1 [⟨a0, b0, t0, i0⟩] ⟨a, b, t, i⟩ (tableOf suf) hT (fun z hz => by
    rcases List.mem_cons.mp hz with rfl | h
    · exact Or.inr ⟨hi0, E0, hC.2.2.2.2.1 _ hl0, hNc⟩
    · exact absurd h List.not_mem_nil) (by simp [covers, hcv.1, hcv.2]) hi (hC.2.2.2.2.1 _ hl) (hC.2.2.2.2.1 _ hca) h5 h6 h7 (kk q H locs ls h1 h2 h3 h4)
/-- a call of a method of the law -/
theorem k_callL (hC : kC p l R s m args meth c cc own nL G d0 mc0 ms0) (hNc : va_Nc "java/lang/IllegalArgumentException" "java/util/NoSuchElementException" s) {hh : List (Nat × Nat × Nat × Nat)} (hM : KL l G y cc1 maxL ret hh d mc ms As w fl post) (hw1 : Cond.codeWith y cc1 maxL ret hh ∈ kwords) (hin : Cond.initialized y.cls ∈ kwords) (hny : y.cls ≠ "java/lang/invoke/MethodHandle" ∧ y.cls ≠ "java/lang/invoke/VarHandle" ∧ (parseMethodDescriptor y.desc).map (fun d => d.parameters.length) = some n) (hstt : Cond.static y ∈ kwords) (hl : Cond.methodLink own ix y ∈ kwords) (hst : st0 = As.reverse ++ st) (hn : As.length = n) (hcat : (st.map fun v => v.category).sum ≤ 8) (hd : d + 1 ≤ d0) (hm : maxL ≤ 45) (hr : cells + mc ≤ mc0 ∧ slots + ms ≤ ms0) (dc : decode cc pc = .ok (.invokestatic ix, 3))
    (kk : ∀ (v : Option Value) (w1 : Nat → va_E) (fl1 : va_W), post v w1 fl1 → KW p l e R s m args below meth c nL G Q w1 fl1 (cells + mc) (slots + ms) (pc + 3) lv (v.toList ++ st)) : KW p l e R s m args below meth c nL G Q w fl cells slots pc lv st0 := by
  intro H locs ls h1 h2 h3 h4
  have hR := hC.2.2.2.2.2.2.2.2.2.1
  have hw8 := hC.2.2.2.2.1
  have hrun := vx_runSX (p := p) (e := e) (below := below) (meth := meth) (As := As) (rest := st) (g := F0 m pc ls st0) (locs := locs) (cells := cells) (slots := slots) (hh := hh) (kC_fix hC) hM ⟨⟨rfl, rfl, (by show d + 1 ≤ R.frames; omega), (by show 8 + (maxL + 11) + 64 * d ≤ R.locals; omega), kwoW_pay hw1 hw8, List.mem_cons_self⟩, hw8 _ hw1, hw8 _ hin, ⟨hny.1, hny.2.1⟩, k_lenOf hny.2.2, hw8 _ hl, hw8 _ hstt⟩ ⟨kSN_blind, fun U hU hW => ⟨(hC.pre h1 h2 h3 hU hW).1, (hC.pre (av := As) h1 h2 h3 hU hW).2, hNc.moved hW.alike⟩⟩ rfl hn h4.1 hst (lv_room hcat) dc ⟨by omega, by omega⟩
  intro T hT X
  rcases hrun T hT X with ⟨v, st₀, t, T', L, e0, X', hL, e1, e2, ⟨v1, w1, fl1, hv, hp, ⟨hP, hD⟩, hz, hk9⟩, stp⟩ | ⟨q, st₀, t, T', L, E, ce, e0, X', hL, e1, e2, ⟨w1, fl1, hp, -⟩, -⟩
  · cases hv
    rw [e0] at hz hk9
    obtain ⟨t2, a1, b1⟩ := kk v w1 fl1 hp T'.heap (locs ++ L) ls (by rw [e1]; exact hP) hD
      ⟨Nat.le_trans h3.1 (by rw [e1]; exact hz), fun q f1 f2 => by rw [e1, hk9 q (Nat.lt_of_lt_of_le f1 h3.1) f2]; exact h3.2.1 q f1 f2, fun q hq => by
        rcases List.mem_append.mp hq with h | h
        · exact h3.2.2 q h
        · exact hL q h⟩ h4 T' rfl X'
    exact ⟨t2, stp t2 a1, b1⟩
  · exact hp.elim
end
