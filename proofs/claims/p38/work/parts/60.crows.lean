theorem self_ok (vm : Vm) (c : ClassId) : vm.assignable c c = true := by
  show vm.assignableAux (255 + 1) c c = true
  rw [Vm.assignableAux]
  simp only [beq_self_eq_true, Bool.true_or]
/-! constructors: this is the cell at place j of the list fl, what is made comes behind it -/
abbrev FX (fl : va_W) (j : Nat) (e : Nat × va_E) (L : va_W) : va_W := fl.set j e ++ L
theorem fx_j {fl L : va_W} {j : Nat} {e : Nat × va_E} (h : j < fl.length) : (FX fl j e L)[j]? = some e := by
  unfold FX; rw [List.getElem?_append_left (by rw [List.length_set]; exact h), List.getElem?_set_self h]
theorem fx_n {fl L : va_W} {j i : Nat} {e : Nat × va_E} : (FX fl j e L)[fl.length + i]? = L[i]? := by
  unfold FX; rw [List.getElem?_append_right (by rw [List.length_set]; omega), List.length_set, Nat.add_sub_cancel_left]
theorem fx_sj {fl L : va_W} {j : Nat} {e e1 : Nat × va_E} (h : j < fl.length) : (FX fl j e L).set j e1 = FX fl j e1 L := by
  unfold FX; rw [List.set_append_left _ _ (by rw [List.length_set]; exact h), List.set_set]
theorem fx_sn {fl L : va_W} {j i : Nat} {e x : Nat × va_E} : (FX fl j e L).set (fl.length + i) x = FX fl j e (L.set i x) := by
  unfold FX; rw [List.set_append_right _ _ (by rw [List.length_set]; omega), List.length_set, Nat.add_sub_cancel_left]
theorem fx_a {fl L L1 : va_W} {j : Nat} {e : Nat × va_E} : FX fl j e L ++ L1 = FX fl j e (L ++ L1) := by unfold FX; rw [List.append_assoc]
theorem fx_0 {fl : va_W} {j : Nat} {e : Nat × va_E} (h : fl[j]? = some e) : fl = FX fl j e [] := by
  unfold FX
  rw [List.append_nil]
  obtain ⟨h1, h2⟩ := List.getElem?_eq_some_iff.mp h
  rw [← h2, List.set_getElem_self]
theorem fx_l {fl L : va_W} {j : Nat} {e : Nat × va_E} : (FX fl j e L).length = fl.length + L.length := by unfold FX; rw [List.length_append, List.length_set]
theorem kws_ap {G : kG} {w : Nat → va_E} {fl L : va_W} : kws G w fl ++ L = kws G w (fl ++ L) := by unfold kws; rw [List.append_assoc]
def aoL (U : State) : Prop := va_AO "SightReducer$Line" U ∧ va_AO "SightReducer$Log" U ∧ True
def kSC (G : kG) (w : Nat → va_E) (fl : va_W) (U : State) : Prop := kS G w fl U ∧ aoL U
theorem aoL.moved {u U : State} (hvm : u.vm.Alike U.vm) (h : aoL u) : aoL U := ⟨h.1.moved hvm, h.2.1.moved hvm, trivial⟩
theorem kSC_blind {G : kG} {w : Nat → va_E} {fl : va_W} {av : List Value} : FrameBlind (va_Pc av (kSC G w fl)) := by
  intro a U g mk q
  obtain ⟨h0, h1, h2⟩ := q
  have h3 := kS_blind (G := G) (w := w) (fl := fl) (av := av) a U g mk ⟨h0, h1⟩
  exact ⟨h3.1, h3.2, h2.moved (u := U) (U := U.calling g mk a) (Vm.Alike.refl U.vm)⟩
/-- a constructor -/
def KI (l : Launch) (G : kG) (y : MethodName) (cc : ByteArray) (maxL d mc ms : Nat) (av : List Value) (w : Nat → va_E) (fl : va_W) (post : va_W → Prop) : Prop :=
  Met l y (kwo y cc maxL none) ({ frames := d, cells := mc, slots := ms, locals := 64 * d }) (va_Pc av (kSC G w fl)) (kQ G (fun v w1 fl1 => none = v ∧ w1 = w ∧ post fl1)) mc ms (kA G)
def kYI (y : MethodName) (cc : ByteArray) (maxL n : Nat) : Prop := (Cond.code y cc maxL none ∈ kwords ∧ Cond.initialized y.cls ∈ kwords) ∧ (y.cls ≠ "java/lang/invoke/MethodHandle" ∧ y.cls ≠ "java/lang/invoke/VarHandle" ∧ (parseMethodDescriptor y.desc).map (fun d => d.parameters.length) = some n) ∧ y.name = "<init>" ∧ Cond.instanceMethod y ∈ kwords
section
variable {p : Program} {l : Launch} {e : Env} {R : Room} {s : State} {m : MethodId} {args : Array Value} {below : List Frame} {meth : Method} {c : Code} {cc : ByteArray} {own : String} {nL : Nat} {G : kG} {d0 mc0 ms0 : Nat} {Q : State → Prop} {w : Nat → va_E} {fl L : va_W} {cells slots pc : Nat} {lv : List (Nat × Value)} {st : List Value} {j : Nat} {e0 : Nat × va_E}
theorem KI_of {y : MethodName} {maxL d mc ms : Nat} {post : va_W → Prop} {av : List Value} {lv0 : List (Nat × Value)} (hls : l.stackTraces = false) (hy : plainFor y = true) (ho : y.cls = own) (hnm : y.name = "<init>") (hlv : lv_args 0 av = lv0) (hlen : (lg_sl av).length ≤ maxL)
    (body : ∀ (p : Program) (e : Env) (R : Room) (s : State) (m : MethodId) (args : Array Value) (below : List Frame) (meth : Method) (c : Code) (Q : State → Prop), kC p l R s m args meth c cc own maxL G d mc ms → meth.sig.returnType = none → meth.name = "<init>" → aoL s → MQ below (kQ G (fun v w1 fl1 => none = v ∧ w1 = w ∧ post fl1)) args s mc ms (kA G) = Q → KW p l e R s m args below meth c maxL G Q w fl 0 0 0 lv0 []) : KI l G y cc maxL d mc ms av w fl post := by
  refine va_MetF (cc := cc) (maxL := maxL) (ret := none) hy rfl ?_
  intro p e s m args below meth c s₁ B hml hv
  obtain ⟨rfl, ⟨hP, hD, hK, hE, hz⟩, hAO⟩ := hv
  have hts := atoms_spec (ws := kwo y cc maxL none) B.pre
  have hown : s.vm.findClass own = some m.cls := by rw [← ho]; exact findClass_of_methodNamed B.named
  have hl := lv_entry av (n := maxL) hlen
  rw [lg_entry_eq]
  generalize (lg_sl av ++ List.replicate (maxL - (lg_sl av).length) Slot.unset).toArray = ls at hl ⊢
  rw [hlv] at hl
  exact body p e _ s m _ below meth c _ ⟨B.exec, B.bytes, hml, hown, fun w hw => hts w (List.mem_cons_of_mem _ hw), hK, hE, hz, B.notSynchronized, ⟨Nat.le_refl _, Nat.le_refl _, Nat.le_refl _, Nat.le_refl _⟩, hls⟩ B.returns ((name_of_methodNamed B.named B.method).1.trans hnm) hAO rfl s.heap [] ls hP hD va_S.rf hl
theorem c_obj (hC : kC p l R s m args meth c cc own nL G d0 mc0 ms0) {q ix : Nat} (hl : Cond.methodLink own ix Lib.objectInit ∈ kwords) (hd : 1 ≤ d0) (hcat : (st.map fun v => v.category).sum ≤ 8) (d : decode cc pc = .ok (.invokespecial ix, 3)) (kk : KW p l e R s m args below meth c nL G Q w fl cells slots (pc + 3) lv st) : KW p l e R s m args below meth c nL G Q w fl cells slots pc lv (.ref q :: st) := fun H locs ls h1 h2 h3 h4 =>
  W.objInit hC.1 hC.2.1 hC.2.2.2.1 (hC.2.2.2.2.1 _ hl) (hC.2.2.2.2.1 _ wi_java_lang_Object_init___V) (hC.2.2.2.2.1 _ wc__java_lang_Object__init____V) (g := F0 m pc ls (.ref q :: st)) rfl (by rw [hC.2.2.1]; exact h4.1) rfl d (by have := hC.2.2.2.2.2.2.2.2.2.1; omega) (by have := hC.2.2.2.2.2.2.2.2.2.1; show 2 * 0 + _ + 12 ≤ _; omega) (kk H locs ls h1 h2 h3 h4)
theorem c_put (hC : kC p l R s m args meth c cc own nL G d0 mc0 ms0) (hj : j < fl.length) {q ci i ix : Nat} {fs : List Value} {v : Value} {ty : FieldType} (hF : kFld own ix ci i ty false) (fs1 : List Value) (hfs : fs.set i v = fs1) (hl : i < fs.length) (hn : narrow ty v = v) (hfit : fits ty v = true) (d : decode cc pc = .ok (.putfield ix, 3))
    (kk : KW p l e R s m args below meth c nL G Q w (FX fl j (q, .inr (ci, fs1)) L) cells slots (pc + 3) lv st) : KW p l e R s m args below meth c nL G Q w (FX fl j (q, .inr (ci, fs)) L) cells slots pc lv (v :: .ref q :: st) := by
  obtain ⟨C, T, n, ref, ty0, f1, f2, f3, f4, f5, f6, f7, f8, f9⟩ := hF
  intro H locs ls h1 h2 h3 h4
  refine va_put (C := C) (T := T) (N := n) (ref := ref) hC.1 hC.2.1 hC.2.2.2.2.1 f2 ty0 f8 f9 hC.2.2.2.1 hC.2.2.2.2.2.1 h1 h2 h3 (kN G + j) (by rw [kws_fl, fx_j hj]) f1 i f3 (hC.2.2.2.2.1 _ f4) (fun x hx => by rw [← f5]; exact hx) f7 f6 hn hfit hl d (fun H1 locs1 g1 g2 g3 => ?_)
  rw [kws_setfl, fx_sj hj, hfs] at g1 g2
  exact kk H1 locs1 ls g1 g2 g3 h4
theorem c_putF (hC : kC p l R s m args meth c cc own nL G d0 mc0 ms0) (hin : meth.name = "<init>") (hj : j < fl.length) {q ci i ix : Nat} {fs : List Value} {v : Value} {ty : FieldType} (hF : kFld own ix ci i ty true) (hdc : ∀ (C : String) (T : u_T) (n : Nat), kcl[ci]? = some (C, T, n) → (T i).1 = own) (fs1 : List Value) (hfs : fs.set i v = fs1) (hl : i < fs.length) (hn : narrow ty v = v) (hfit : fits ty v = true) (d : decode cc pc = .ok (.putfield ix, 3))
    (kk : KW p l e R s m args below meth c nL G Q w (FX fl j (q, .inr (ci, fs1)) L) cells slots (pc + 3) lv st) : KW p l e R s m args below meth c nL G Q w (FX fl j (q, .inr (ci, fs)) L) cells slots pc lv (v :: .ref q :: st) := by
  obtain ⟨C, T, n, ref, ty0, f1, f2, f3, f4, f5, f6, f7, f8, f9⟩ := hF
  intro H locs ls h1 h2 h3 h4
  refine va_putF (C := C) (T := T) (N := n) (ref := ref) hC.1 hC.2.1 hC.2.2.2.2.1 f2 ty0 f8 f9 hC.2.2.2.1 hC.2.2.2.2.2.1 h1 h2 h3 (kN G + j) (by rw [kws_fl, fx_j hj]) f1 i f3 (hC.2.2.2.2.1 _ f4) (fun x hx => by rw [← f5]; exact hx) f7 hin (hdc _ _ _ f1) f6 hn hfit hl d (fun H1 locs1 g1 g2 g3 => ?_)
  rw [kws_setfl, fx_sj hj, hfs] at g1 g2
  exact kk H1 locs1 ls g1 g2 g3 h4
theorem c_get (hC : kC p l R s m args meth c cc own nL G d0 mc0 ms0) (hj : j < fl.length) {q ci i ix : Nat} {fs : List Value} {v : Value} {ty : FieldType} {fin : Bool} (hF : kFld own ix ci i ty fin) (hv : fs[i]? = some v) (d : decode cc pc = .ok (.getfield ix, 3)) (kk : KW p l e R s m args below meth c nL G Q w (FX fl j (q, .inr (ci, fs)) L) cells slots (pc + 3) lv (v :: st)) : KW p l e R s m args below meth c nL G Q w (FX fl j (q, .inr (ci, fs)) L) cells slots pc lv (.ref q :: st) := by
  obtain ⟨C, T, n, ref, ty0, f1, f2, f3, f4, f5, f6, f7, f8, f9⟩ := hF
  intro H locs ls h1 h2 h3 h4
  exact va_get (C := C) (T := T) (N := n) (ref := ref) hC.1 hC.2.1 hC.2.2.2.2.1 f2 hC.2.2.2.1 hC.2.2.2.2.2.1 h1 (kN G + j) (by rw [kws_fl, fx_j hj]) f1 i f3 (hC.2.2.2.2.1 _ f4) (fun x hx => by rw [← f5]; exact hx) hv d (kk H locs ls h1 h2 h3 h4)
theorem c_alen (hC : kC p l R s m args meth c cc own nL G d0 mc0 ms0) {a n t : Nat} {E : String} {f : Nat → Option Nat} (i : Nat) (hi : L[i]? = some (a, rA G t n f)) (ht : (kT G)[t]? = some (kTT G t, .object E)) (d : decode cc pc = .ok (.arraylength, 1)) (kk : KW p l e R s m args below meth c nL G Q w (FX fl j e0 L) cells slots (pc + 1) lv (vI n :: st)) : KW p l e R s m args below meth c nL G Q w (FX fl j e0 L) cells slots pc lv (.ref a :: st) := fun H locs ls h1 h2 h3 h4 => va_alen (v := Int32.ofInt (n : Int)) hC.1 hC.2.1 hC.2.2.2.2.2.1 h1 (kN G + (fl.length + i)) t (by rw [kws_fl, fx_n, hi]; rfl) ht rfl d (kk H locs ls h1 h2 h3 h4)
theorem c_new (hC : kC p l R s m args meth c cc own nL G d0 mc0 ms0) {C : String} {T : u_T} {N ci ix : Nat} {ty : Nat → FieldType} (hc : kcl[ci]? = some (C, T, N)) (hin : ∀ x ∈ u_ws C T N, x ∈ kwords) (hty : ∀ k, k < N → parseFieldDescriptor (T k).2.2.1 = some (ty k)) (hw : Cond.classLink own ix C ∈ kwords ∧ Cond.instantiable C N ∈ kwords ∧ Cond.initialized C ∈ kwords) {fs : List Value} (hfs : ∀ j, j < N → defaultValue (ty j) = vp_V fs j) (hcs : cells + 1 ≤ mc0 ∧ slots + N ≤ ms0) (d : decode cc pc = .ok (.new ix, 3))
    (kk : ∀ q : Nat, KW p l e R s m args below meth c nL G Q w (fl ++ [(q, .inr (ci, fs))]) (cells + 1) (slots + N) (pc + 3) lv (.ref q :: st)) : KW p l e R s m args below meth c nL G Q w fl cells slots pc lv st := by
  intro H locs ls h1 h2 h3 h4
  have hx := hC.2.2.2.2.2.2.2.2.2.1
  refine va_new (T := T) hC.1 hC.2.1 hC.2.2.2.2.1 hin ty hty hC.2.2.2.1 (hC.2.2.2.2.1 _ hw.1) (hC.2.2.2.2.1 _ hw.2.1) (hC.2.2.2.2.1 _ hw.2.2) hC.2.2.2.2.2.1 h1 h2 h3 (kA_out hC) hc hfs (by omega) (by omega) d (fun q H1 g1 g2 g3 => ?_)
  rw [kws_ap] at g1 g2
  exact kk q H1 locs ls g1 g2 g3 h4
theorem c_newq (hC : kC p l R s m args meth c cc own nL G d0 mc0 ms0) {n t ix : Nat} {E : String} (hn : n ≤ 1000) (ht : (kT G)[t]? = some (kTT G t, .object E)) (hl : Cond.classLink own ix E ∈ kwords) (hao : va_AO E s) (hcs : cells + 1 ≤ mc0 ∧ slots + n ≤ ms0) (d : decode cc pc = .ok (.anewarray ix, 3))
    (kk : ∀ q : Nat, KW p l e R s m args below meth c nL G Q w (fl ++ [(q, rA G t n (fun _ => none))]) (cells + 1) (slots + n) (pc + 3) lv (.ref q :: st)) : KW p l e R s m args below meth c nL G Q w fl cells slots pc lv (vI n :: st) := by
  intro H locs ls h1 h2 h3 h4
  have hx := hC.2.2.2.2.2.2.2.2.2.1
  refine va_newq (N' := n) hC.1 hC.2.1 hC.2.2.2.1 (hC.2.2.2.2.1 _ hl) hao hC.2.2.2.2.2.1 h1 h2 h3 (kA_out hC) (k_nn (by omega)) (by rw [k_nat (by omega)]; rfl) (by omega) (by omega) (by omega) d (fun q cA H1 g0 g1 g2 g3 => ?_)
  have e : cA = kTT G t := by
    obtain ⟨k1, c1, -, -, -, a1⟩ := (g0.2 7 (cA, .object E) rfl).2
    obtain ⟨k2, c2, -, -, -, a2⟩ := (hC.2.2.2.2.2.1.2 t (kTT G t, .object E) ht).2
    exact Option.some.inj (a1.symm.trans a2)
  subst e
  rw [kws_ap] at g1 g2
  exact kk q H1 locs ls g1 g2 g3 h4
theorem c_ast (hC : kC p l R s m args meth c cc own nL G d0 mc0 ms0) {a n t ka v : Nat} {E : String} {f : Nat → Option Nat} {i : Int} (hi : L[ka]? = some (a, rA G t n f)) (ht : (kT G)[t]? = some (kTT G t, .object E)) (hr : ∀ (H : Heap) (locs : List Loc), va_P (kD G) kcl (kws G w (FX fl j e0 L)) H → va_S (kA G) s.heap H locs → ∃ cellV : Cell, H[v]? = some cellV ∧ cellV.vm.isStatics = false ∧ s.vm.findClass E = some cellV.cls) (hi2 : 0 ≤ i ∧ i < (n : Int)) (hn : n ≤ 1000) (L1 : va_W) (hL1 : L.set ka (a, rA G t n (va_up f i.toNat (some v))) = L1) (d : decode cc pc = .ok (.aastore, 1))
    (kk : KW p l e R s m args below meth c nL G Q w (FX fl j e0 L1) cells slots (pc + 1) lv st) : KW p l e R s m args below meth c nL G Q w (FX fl j e0 L) cells slots pc lv (.ref v :: vI i :: .ref a :: st) := by
  intro H locs ls h1 h2 h3 h4
  refine vb_astq (C := E) hC.1 hC.2.1 hC.2.2.2.2.2.1 h1 h2 h3 (kN G + (fl.length + ka)) t (by rw [kws_fl, fx_n, hi]; rfl) ht (hr H locs h1 h3) (fun c1 c2 x1 x2 => by cases Option.some.inj (x1.symm.trans x2); exact self_ok _ _) (k_in (n := n) hi2 (by omega)) d (fun H1 locs1 g1 g2 g3 => ?_)
  rw [kws_setfl, fx_sn, k_nat (by omega)] at g1 g2
  subst hL1
  exact kk H1 locs1 ls g1 g2 g3 h4
theorem c_rc {a n t : Nat} {f g : Nat → Option Nat} (i : Nat) (hi : L[i]? = some (a, rA G t n f)) (hfg : ∀ k, k < n → f k = g k) (L1 : va_W) (hL1 : L.set i (a, rA G t n g) = L1) (kk : KW p l e R s m args below meth c nL G Q w (FX fl j e0 L1) cells slots pc lv st) : KW p l e R s m args below meth c nL G Q w (FX fl j e0 L) cells slots pc lv st := by
  intro H locs ls h1 h2 h3 h4
  have hx : (kws G w (FX fl j e0 L))[kN G + (fl.length + i)]? = some (a, rA G t n f) := by rw [kws_fl, fx_n, hi]
  have g1 := h1.set h2 hx (e := rA G t n g) (H1 := H) (by
    have z := h1 _ _ hx
    show H[a]? = some (arrV _ n (fun j => va_rf (g j)))
    have z2 : H[a]? = some (arrV (kTT G t) n (fun j => va_rf (f j))) := z
    rw [z2]
    congr 1
    unfold arrV
    congr 1
    apply Array.ext
    · simp
    · intro k k1 k2
      simp only [Array.getElem_ofFn]
      rw [hfg k (by simpa using k1)]) (fun q _ => rfl)
  have g2 := h2.set (e := rA G t n g) hx
  rw [kws_setfl, fx_sn] at g1 g2
  subst hL1
  exact kk H locs ls g1 g2 h3 h4
end
section
variable {p : Program} {l : Launch} {e : Env} {R : Room} {s : State} {m : MethodId} {args : Array Value} {below : List Frame} {meth : Method} {c : Code} {cc : ByteArray} {own : String} {nL : Nat} {G : kG} {d0 mc0 ms0 : Nat} {Q : State → Prop} {w : Nat → va_E} {fl L : va_W} {cells slots pc : Nat} {lv : List (Nat × Value)} {st : List Value} {j : Nat} {e0 : Nat × va_E}
variable {cc1 : ByteArray} {maxL d mc ms n ix : Nat} {As : List Value} {y : MethodName} {post : va_W → Prop} {st0 : List Value}
theorem c_run {a : Array Value} {H : Heap} {locs : List Loc} {ls : Array Slot} (hr : va_Run p l e R s m args below meth c H locs cells slots mc ms (F0 m pc ls st0) st (kQ G (fun v w1 fl1 => none = v ∧ w1 = w ∧ post fl1) a) (kA G)) (hS : va_S (kA G) s.heap H locs) (h4 : lv_has ls nL lv)
    (kk : ∀ fl1 : va_W, post fl1 → KW p l e R s m args below meth c nL G Q w fl1 (cells + mc) (slots + ms) (pc + 3) lv st) : W p l e R s m args below meth c H locs cells slots Q (F0 m pc ls st0) := k_run hr hS h4 (fun v w1 fl1 hp => by obtain ⟨rfl, rfl, h⟩ := hp; exact kk fl1 h)
theorem c_callI (hC : kC p l R s m args meth c cc own nL G d0 mc0 ms0) (hao : aoL s) {q : Nat} (hM : KI l G y cc1 maxL d mc ms (.ref q :: As) w fl post) (hy : kYI y cc1 maxL n) (hl : Cond.methodLink own ix y ∈ kwords) (hst : st0 = As.reverse ++ .ref q :: st) (hn : As.length = n) (hcat : (st.map fun v => v.category).sum ≤ 8) (hd : d + 1 ≤ d0) (hm : maxL ≤ 45) (hr : cells + mc ≤ mc0 ∧ slots + ms ≤ ms0) (dc : decode cc pc = .ok (.invokespecial ix, 3))
    (kk : ∀ fl1 : va_W, post fl1 → KW p l e R s m args below meth c nL G Q w fl1 (cells + mc) (slots + ms) (pc + 3) lv st) : KW p l e R s m args below meth c nL G Q w fl cells slots pc lv st0 := by
  intro H locs ls h1 h2 h3 h4
  have hR := hC.2.2.2.2.2.2.2.2.2.1
  have hw8 := hC.2.2.2.2.1
  have hrun := va_runI (p := p) (e := e) (below := below) (meth := meth) (As := As) (rest := st) (g := F0 m pc ls st0) (locs := locs) (cells := cells) (slots := slots) (kC_fix hC) hM ⟨⟨rfl, rfl, (by show d + 1 ≤ R.frames; omega), (by show 8 + (maxL + 11) + 64 * d ≤ R.locals; omega), kwo_pay hy.1.1 hw8, List.mem_cons_self, hw8 _ hy.1.1, hw8 _ hy.1.2, ⟨hy.2.1.1, hy.2.1.2.1⟩, k_lenOf hy.2.1.2.2, hw8 _ hl⟩, hy.2.2.1, hw8 _ hy.2.2.2⟩ ⟨kSC_blind, fun U hU hW => ⟨(hC.pre h1 h2 h3 hU hW).1, (hC.pre (av := .ref q :: As) h1 h2 h3 hU hW).2, hao.moved hW.alike⟩⟩ rfl hn h4.1 hst (lv_room hcat) dc ⟨by omega, by omega⟩
  exact c_run hrun h3 h4 kk
theorem c_callIN (hC : kC p l R s m args meth c cc own nL G d0 mc0 ms0) (hao : aoL s) {q : Nat} {host : String} (hM : KI l G y cc1 maxL d mc ms (.ref q :: As) w fl post) (hy : kYI y cc1 maxL n) (hl : Cond.methodLinkNest own ix y host ∈ kwords) (hst : st0 = As.reverse ++ .ref q :: st) (hn : As.length = n) (hcat : (st.map fun v => v.category).sum ≤ 8) (hd : d + 1 ≤ d0) (hm : maxL ≤ 45) (hr : cells + mc ≤ mc0 ∧ slots + ms ≤ ms0) (dc : decode cc pc = .ok (.invokespecial ix, 3))
    (kk : ∀ fl1 : va_W, post fl1 → KW p l e R s m args below meth c nL G Q w fl1 (cells + mc) (slots + ms) (pc + 3) lv st) : KW p l e R s m args below meth c nL G Q w fl cells slots pc lv st0 := by
  intro H locs ls h1 h2 h3 h4
  have hR := hC.2.2.2.2.2.2.2.2.2.1
  have hw8 := hC.2.2.2.2.1
  have hrun := va_runIN (p := p) (e := e) (below := below) (meth := meth) (As := As) (rest := st) (g := F0 m pc ls st0) (locs := locs) (cells := cells) (slots := slots) (kC_fix hC) hM ⟨⟨⟨rfl, rfl, (by show d + 1 ≤ R.frames; omega), (by show 8 + (maxL + 11) + 64 * d ≤ R.locals; omega), kwo_pay hy.1.1 hw8, List.mem_cons_self⟩, hw8 _ hy.1.1, hw8 _ hy.1.2, ⟨hy.2.1.1, hy.2.1.2.1⟩, k_lenOf hy.2.1.2.2, hw8 _ hl⟩, hy.2.2.1, hw8 _ hy.2.2.2⟩ ⟨kSC_blind, fun U hU hW => ⟨(hC.pre h1 h2 h3 hU hW).1, (hC.pre (av := .ref q :: As) h1 h2 h3 hU hW).2, hao.moved hW.alike⟩⟩ rfl hn h4.1 hst (lv_room hcat) dc ⟨by omega, by omega⟩
  exact c_run hrun h3 h4 kk
theorem c_newi (hC : kC p l R s m args meth c cc own nL G d0 mc0 ms0) {n : Nat} (hn : n ≤ 1000) (hcs : cells + 1 ≤ mc0 ∧ slots + n ≤ ms0) (d : decode cc pc = .ok (.newarray .int, 2))
    (kk : ∀ q : Nat, KW p l e R s m args below meth c nL G Q w (fl ++ [(q, iA G n (fun _ => 0))]) (cells + 1) (slots + n) (pc + 2) lv (.ref q :: st)) : KW p l e R s m args below meth c nL G Q w fl cells slots pc lv (vI n :: st) := by
  intro H locs ls h1 h2 h3 h4
  have hx := hC.2.2.2.2.2.2.2.2.2.1
  refine va_newa (atype := .int) (N' := n) (a0 := (n, .inl (fun j => if j < n then Int32.ofInt 0 else 0))) hC.1 hC.2.1 (hC.2.2.2.2.1 _ wa_int) (ty := .int) rfl hC.2.2.2.2.2.1 h1 h2 h3 (kA_out hC) (fun cA => by
      rw [vp_cell_i]
      congr 1
      funext j
      show Value.int (if j < n then Int32.ofInt 0 else 0) = .int 0
      split <;> rfl) (k_nn (by omega)) (by rw [k_nat (by omega)]; rfl) (by show n * 4 ≤ _; omega) (by omega) (by omega) d (fun q cA H1 g0 g1 g2 g3 => ?_)
  have e : cA = kTT G 0 := by
    have a1 := (g0.2 7 (cA, .int) rfl).2
    have a2 := (hC.2.2.2.2.2.1.2 0 (kTT G 0, .int) rfl).2
    exact Option.some.inj (a1.symm.trans a2)
  subst e
  rw [kws_ap] at g1 g2
  exact kk q H1 locs ls g1 g2 g3 h4
theorem c_newl (hC : kC p l R s m args meth c cc own nL G d0 mc0 ms0) {n : Nat} (hn : n ≤ 1000) (hcs : cells + 1 ≤ mc0 ∧ slots + n ≤ ms0) (d : decode cc pc = .ok (.newarray .long, 2))
    (kk : ∀ q : Nat, KW p l e R s m args below meth c nL G Q w (fl ++ [(q, lA G n (fun _ => 0))]) (cells + 1) (slots + n) (pc + 2) lv (.ref q :: st)) : KW p l e R s m args below meth c nL G Q w fl cells slots pc lv (vI n :: st) := by
  intro H locs ls h1 h2 h3 h4
  have hx := hC.2.2.2.2.2.2.2.2.2.1
  refine va_newa (atype := .long) (N' := n) (a0 := (n, .inr (.inl (fun j => if j < n then Int64.ofInt 0 else 0)))) hC.1 hC.2.1 (hC.2.2.2.2.1 _ wa_long) (ty := .long) rfl hC.2.2.2.2.2.1 h1 h2 h3 (kA_out hC) (fun cA => by
      rw [vp_cell_l]
      congr 1
      funext j
      show Value.long (if j < n then Int64.ofInt 0 else 0) = .long 0
      split <;> rfl) (k_nn (by omega)) (by rw [k_nat (by omega)]; rfl) (by show n * 8 ≤ _; omega) (by omega) (by omega) d (fun q cA H1 g0 g1 g2 g3 => ?_)
  have e : cA = kTT G 1 := by
    have a1 := (g0.2 7 (cA, .long) rfl).2
    have a2 := (hC.2.2.2.2.2.1.2 1 (kTT G 1, .long) rfl).2
    exact Option.some.inj (a1.symm.trans a2)
  subst e
  rw [kws_ap] at g1 g2
  exact kk q H1 locs ls g1 g2 g3 h4
end
