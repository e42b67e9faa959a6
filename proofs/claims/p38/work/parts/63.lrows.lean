/-! THE LAW'S ROWS: the script, floating cells of numbers, arrays of arrays, room, a world that grows -/
def xI (G : kG) (j : Nat) : Int := (kxs G j).toInt
theorem xI_r (G : kG) (j : Nat) : -2147483648 ≤ xI G j ∧ xI G j ≤ 2147483647 := ⟨by have := Int32.le_toInt (kxs G j); unfold xI; omega, by have := Int32.toInt_lt (kxs G j); unfold xI; omega⟩
theorem kl2 {G : kG} {k : Nat} (hM : 138 ≤ kN G) (hk : k < 138) : k < kN G := Nat.lt_of_lt_of_le hk hM
def kgro (G : kG) (n : Nat) (ad : Nat → Nat) : kG := (G.1, (ksz G, kN G + n, fun k => if k < kN G then kad G k else ad (k - kN G)), G.2.2)
theorem kgro_ad {G : kG} {n : Nat} {ad : Nat → Nat} {k : Nat} (h : k < kN G) : kad (kgro G n ad) k = kad G k := if_pos h
theorem kgro_new {G : kG} {n : Nat} {ad : Nat → Nat} (k : Nat) : kad (kgro G n ad) (kN G + k) = ad k := by
  show (if kN G + k < kN G then _ else _) = _
  rw [if_neg (by omega), Nat.add_sub_cancel_left]
theorem kgro_ws {G : kG} {n : Nat} {ad : Nat → Nat} {w : Nat → va_E} {fl : va_W} : kws (kgro G n ad) w fl = kws G w ((List.range n).map (fun i => (ad i, w (kN G + i))) ++ fl) := by
  unfold kws
  rw [← List.append_assoc]
  congr 1
  show (List.range (kN G + n)).map _ = _
  rw [List.range_add, List.map_append]
  congr 1
  · apply List.map_congr_left
    intro k hk
    rw [kgro_ad (List.mem_range.mp hk)]
  · rw [List.map_map]
    apply List.map_congr_left
    intro k hk
    show (kad (kgro G n ad) (kN G + k), w (kN G + k)) = _
    rw [kgro_new]
theorem kws_w {G : kG} {w w1 : Nat → va_E} {fl : va_W} (h : ∀ k, k < kN G → w k = w1 k) : kws G w fl = kws G w1 fl := by
  unfold kws
  congr 1
  apply List.map_congr_left
  intro k hk
  rw [h k (List.mem_range.mp hk)]
section
variable {p : Program} {l : Launch} {e : Env} {R : Room} {s : State} {m : MethodId} {args : Array Value} {below : List Frame} {meth : Method} {c : Code} {cc : ByteArray} {own : String} {nL : Nat} {G : kG} {d0 mc0 ms0 : Nat} {Q : State → Prop} {w : Nat → va_E} {fl : va_W} {cells slots pc : Nat} {lv : List (Nat × Value)} {st : List Value}
theorem k_sw {G1 : kG} {w1 : Nat → va_E} {fl1 : va_W} (hD : kD G1 = kD G) (hz : ksz G1 = ksz G) (he : kws G1 w1 fl1 = kws G w fl) (k : KW p l e R s m args below meth c nL G1 Q w1 fl1 cells slots pc lv st) : KW p l e R s m args below meth c nL G Q w fl cells slots pc lv st := by
  intro H locs ls h1 h2 h3 h4
  have hA : kA G1 = kA G := by unfold kA; rw [hz]
  exact k H locs ls (by rw [hD, he]; exact h1) (by rw [hA, he]; exact h2) (by rw [hA]; exact h3) h4
theorem kC_gro (hC : kC p l R s m args meth c cc own nL G d0 mc0 ms0) (n : Nat) (ad : Nat → Nat) : kC p l R s m args meth c cc own nL (kgro G n ad) d0 mc0 ms0 := hC
theorem k_wid {c1 s1 : Nat} (h : cells ≤ c1 ∧ slots ≤ s1) (k : KW p l e R s m args below meth c nL G Q w fl c1 s1 pc lv st) : KW p l e R s m args below meth c nL G Q w fl cells slots pc lv st := fun H locs ls h1 h2 h3 h4 T hT X => k H locs ls h1 h2 h3 h4 T hT (stand_widen X h.1 h.2)
theorem k_scr (hC : kC p l R s m args meth c cc own nL G d0 mc0 ms0) {j : Int} (hL : kL G ≤ 260) (hj : 0 ≤ j ∧ j < (kL G : Int)) (d : decode cc pc = .ok (.iaload, 1)) (kk : KW p l e R s m args below meth c nL G Q w fl cells slots (pc + 1) lv (vI (xI G j.toNat) :: st)) : KW p l e R s m args below meth c nL G Q w fl cells slots pc lv (vI j :: .ref (kb G) :: st) := fun H locs ls h1 h2 h3 h4 =>
  have hX : kScr G s s.heap := hC.2.2.2.2.2.2.1.2.2.1
  va_sld hC.1 hC.2.1 hX.1 hX.2.1 hX.2.2 h3 (k_in (a := j) (n := kL G) hj (by omega)) d (by
    rw [k_nat (by omega), show kxs G j.toNat = Int32.ofInt (xI G j.toNat) from (Int32.ofInt_toInt _).symm]
    exact kk H locs ls h1 h2 h3 h4)
theorem k_slen (hC : kC p l R s m args meth c cc own nL G d0 mc0 ms0) (d : decode cc pc = .ok (.arraylength, 1)) (kk : KW p l e R s m args below meth c nL G Q w fl cells slots (pc + 1) lv (vI (kL G : Int) :: st)) : KW p l e R s m args below meth c nL G Q w fl cells slots pc lv (.ref (kb G) :: st) := fun H locs ls h1 h2 h3 h4 =>
  have hX : kScr G s s.heap := hC.2.2.2.2.2.2.1.2.2.1
  va_slen hC.1 hC.2.1 hX.1 hX.2.1 hX.2.2 h3 d (kk H locs ls h1 h2 h3 h4)
/-! what shifts and masks give is not said, but that it is a number -/
theorem k_any32 {z : Int32} (k : ∀ y : Int, -2147483648 ≤ y ∧ y ≤ 2147483647 → KW p l e R s m args below meth c nL G Q w fl cells slots pc lv (vI y :: st)) : KW p l e R s m args below meth c nL G Q w fl cells slots pc lv (.int z :: st) := by
  have h := k z.toInt ⟨by have := Int32.le_toInt z; omega, by have := Int32.toInt_lt z; omega⟩
  unfold vI at h
  rw [Int32.ofInt_toInt] at h
  exact h
theorem k_ishrA (hC : kC p l R s m args meth c cc own nL G d0 mc0 ms0) {a b : Int} (d : decode cc pc = .ok (.ishr, 1)) (kk : ∀ y : Int, -2147483648 ≤ y ∧ y ≤ 2147483647 → KW p l e R s m args below meth c nL G Q w fl cells slots (pc + 1) lv (vI y :: st)) : KW p l e R s m args below meth c nL G Q w fl cells slots pc lv (vI b :: vI a :: st) := fun H locs ls h1 h2 h3 h4 => lv_ishr hC.1 hC.2.1 d (k_any32 kk H locs ls h1 h2 h3 h4)
theorem k_iandA (hC : kC p l R s m args meth c cc own nL G d0 mc0 ms0) {a : Int} (d : decode cc pc = .ok (.iand, 1)) (kk : ∀ y : Int, 0 ≤ y ∧ y ≤ 2147483647 → KW p l e R s m args below meth c nL G Q w fl cells slots (pc + 1) lv (vI y :: st)) : KW p l e R s m args below meth c nL G Q w fl cells slots pc lv (vI 2147483647 :: vI a :: st) := fun H locs ls h1 h2 h3 h4 => lv_iand hC.1 hC.2.1 d (by
  have e : Int32.ofInt a &&& Int32.ofInt 2147483647 = Int32.ofInt (Int32.ofInt a &&& Int32.ofInt 2147483647).toInt := (Int32.ofInt_toInt _).symm
  rw [e]
  refine kk _ ⟨?_, by have := Int32.toInt_lt (Int32.ofInt a &&& Int32.ofInt 2147483647); omega⟩ H locs ls h1 h2 h3 h4
  have h5 : ¬ ((Int32.ofInt a &&& Int32.ofInt 2147483647).toBitVec.toInt < 0) := by
    have h6 : (Int32.ofInt a &&& Int32.ofInt 2147483647).toBitVec.msb = false := by
      rw [Int32.toBitVec_and, BitVec.msb_and]
      rw [show (Int32.ofInt 2147483647).toBitVec.msb = false from by decide]
      exact Bool.and_false _
    rw [BitVec.msb_eq_toInt] at h6
    exact of_decide_eq_false h6
  exact Int.not_lt.mp h5)
/-! floating cells of numbers -/
theorem k_ialdF (hC : kC p l R s m args meth c cc own nL G d0 mc0 ms0) {q n : Nat} {f : Nat → Int} {i : Int} (j : Nat) (hq : fl[j]? = some (q, iA G n f)) (hi : 0 ≤ i ∧ i < (n : Int)) (hn : n ≤ 2147483647) (d : decode cc pc = .ok (.iaload, 1)) (kk : KW p l e R s m args below meth c nL G Q w fl cells slots (pc + 1) lv (vI (f i.toNat) :: st)) : KW p l e R s m args below meth c nL G Q w fl cells slots pc lv (vI i :: .ref q :: st) := fun H locs ls h1 h2 h3 h4 => va_iald hC.1 hC.2.1 hC.2.2.2.2.2.1 h1 (kN G + j) 0 (by rw [kws_fl, hq]; rfl) rfl (k_in hi hn) d (by rw [k_nat (by omega), if_pos (show i.toNat < n by omega)]; exact kk H locs ls h1 h2 h3 h4)
theorem k_newi (hC : kC p l R s m args meth c cc own nL G d0 mc0 ms0) {n : Nat} {n1 : Int} (hn1 : n1 = (n : Int)) (hn : n ≤ 1000) (hcs : cells + 1 ≤ mc0 ∧ slots + n ≤ ms0) (d : decode cc pc = .ok (.newarray .int, 2)) (kk : ∀ q : Nat, KW p l e R s m args below meth c nL G Q w (fl ++ [(q, iA G n (fun _ => 0))]) (cells + 1) (slots + n) (pc + 2) lv (.ref q :: st)) : KW p l e R s m args below meth c nL G Q w fl cells slots pc lv (vI n1 :: st) := by subst hn1; exact c_newi hC hn hcs d kk
/-! arrays of arrays of numbers -/
theorem k_arA (hC : kC p l R s m args meth c cc own nL G d0 mc0 ms0) : ∃ (kA kE : Class), s.vm.classes[kTT G 6]? = some kA ∧ kA.kind = .array (kTT G 0) (.array .int) ∧ s.vm.classes[kTT G 0]? = some kE := by
  have hAO : va_AOA .int s := hC.2.2.2.2.2.2.1.2.2.2.1
  obtain ⟨comp, c1, k1, f1, -, f3, f4, f5⟩ := arrayOverA_spec hAO
  have a1 : s.vm.findClass ("[" ++ (FieldType.array .int).toString) = some (kTT G 6) := (hC.2.2.2.2.2.1.2 6 (kTT G 6, .array .int) rfl).2
  have a2 : s.vm.findClass "[I" = some (kTT G 0) := va_nm_int (hC.2.2.2.2.2.1.2 0 (kTT G 0, .int) rfl).2
  have e1 : c1 = kTT G 6 := Option.some.inj (f5.symm.trans a1)
  have e2 : comp = kTT G 0 := Option.some.inj (f1.symm.trans a2)
  subst e1
  subst e2
  obtain ⟨kE, g1, -⟩ := Vm.findClass_spec a2
  exact ⟨k1, kE, f3, f4, g1⟩
theorem k_aaldA (hC : kC p l R s m args meth c cc own nL G d0 mc0 ms0) {k n : Nat} {f : Nat → Option Nat} {i : Int} {v : Value} (hk : k < kN G) (hw : w k = rA G 6 n f) (hi : 0 ≤ i ∧ i < (n : Int)) (hn : n ≤ 2147483647) (hv : va_rf (f i.toNat) = v) (d : decode cc pc = .ok (.aaload, 1)) (kk : KW p l e R s m args below meth c nL G Q w fl cells slots (pc + 1) lv (v :: st)) : KW p l e R s m args below meth c nL G Q w fl cells slots pc lv (vI i :: .ref (kad G k) :: st) := fun H locs ls h1 h2 h3 h4 => by
  have hin : vp_in (Int32.ofInt i) n := k_in hi hn
  have hlt : (Int32.ofInt i).toNatClampNeg < n := Nat.not_le.mp fun q => hin (Or.inr q)
  have ha : (kws G w fl)[k]? = some (kad G k, .inl (kTT G 6, n, .inr (.inr (.inr (.inr f))))) := by rw [kws_at hk, hw]; rfl
  exact W.aald (v := va_rf (f (Int32.ofInt i).toNatClampNeg)) (ty := .array .int) hC.1 hC.2.1 (h1 k _ ha) ((hC.2.2.2.2.2.1.2 6 (kTT G 6, .array .int) rfl).1 n (fun j => va_rf (f j))) rfl (fun q => by cases q) (by show ¬ (_ < 0 ∨ (arrV _ _ _).slots.size ≤ _); rw [arrV_size]; exact hin) (by show (arrV _ _ _).slots[_]? = _; rw [arrV_read _ _ hlt]) rfl rfl d (by rw [k_nat (by omega), hv]; exact kk H locs ls h1 h2 h3 h4)
theorem k_aastA (hC : kC p l R s m args meth c cc own nL G d0 mc0 ms0) {k n v m0 : Nat} {f : Nat → Option Nat} {fi : Nat → Int} {i : Int} (j : Nat) (hk : k < kN G) (hw : w k = rA G 6 n f) (hj : fl[j]? = some (v, iA G m0 fi)) (hi : 0 ≤ i ∧ i < (n : Int)) (hn : n ≤ 2147483647) (d : decode cc pc = .ok (.aastore, 1))
    (kk : ∀ w1 : Nat → va_E, w1 k = rA G 6 n (va_up f i.toNat (some v)) → (∀ j, j ≠ k → w1 j = w j) → KW p l e R s m args below meth c nL G Q w1 fl cells slots (pc + 1) lv st) : KW p l e R s m args below meth c nL G Q w fl cells slots pc lv (.ref v :: vI i :: .ref (kad G k) :: st) := by
  intro H locs ls h1 h2 h3 h4
  obtain ⟨kA9, kE9, k1, k2, k3⟩ := k_arA hC
  have hin : vp_in (Int32.ofInt i) n := k_in hi hn
  have hlt : (Int32.ofInt i).toNatClampNeg < n := Nat.not_le.mp fun q => hin (Or.inr q)
  have ha : (kws G w fl)[k]? = some (kad G k, .inl (kTT G 6, n, .inr (.inr (.inr (.inr f))))) := by rw [kws_at hk, hw]; rfl
  have hv0 : va_at (kD G) kcl (v, iA G m0 fi) H := h1 (kN G + j) (v, iA G m0 fi) (by rw [kws_fl, hj])
  have hv : H[v]? = some (vp_cell (kTT G 0) (m0, .inl (fun j => if j < m0 then Int32.ofInt (fi j) else 0))) := hv0
  refine W.aast hC.1 hC.2.1 (h1 k _ ha) (fun q h => by cases h) (fun h => by cases h) k1 k2 rfl k3 ⟨fun q => hin (Or.inl q), by show _ < (arrV _ _ _).slots.size; rw [arrV_size]; exact hlt⟩ hv (fun q h => by cases h) k3 (self_ok _ _) rfl rfl d fun H1 e9 z oq => ?_
  have g1 := h1.set h2 ha (e := rA G 6 n (va_up f i.toNat (some v))) (H1 := H1) (by
    show H1[kad G k]? = some (vp_cell _ _)
    rw [e9]
    rw [vp_cell_q, vp_cell_q, arrV_store, k_nat (by omega)]
    congr 2
    funext q
    by_cases hq : q = i.toNat
    · subst hq
      simp [updV, va_up, va_rf]
    · simp [updV, va_up, hq]) oq
  have g2 := h2.set (e := rA G 6 n (va_up f i.toNat (some v))) ha
  rw [kws_set hk] at g1 g2
  exact kk _ (va_up_self _ _ _) (fun j hj => by simp [va_up, hj]) H1 _ ls g1 g2 (h3.put z oq (h2.2 k _ ha)) h4
theorem k_newqA (hC : kC p l R s m args meth c cc own nL G d0 mc0 ms0) {n ix : Nat} (hn : n ≤ 1000) (hl : Cond.classLink own ix "[I" ∈ kwords) (hcs : cells + 1 ≤ mc0 ∧ slots + n ≤ ms0) (d : decode cc pc = .ok (.anewarray ix, 3))
    (kk : ∀ q : Nat, KW p l e R s m args below meth c nL G Q w (fl ++ [(q, rA G 6 n (fun _ => none))]) (cells + 1) (slots + n) (pc + 3) lv (.ref q :: st)) : KW p l e R s m args below meth c nL G Q w fl cells slots pc lv (vI n :: st) := by
  intro H locs ls h1 h2 h3 h4
  have hx := hC.2.2.2.2.2.2.2.2.2.1
  have hAO : va_AOA .int s := hC.2.2.2.2.2.2.1.2.2.2.1
  have hnn : (Int32.ofInt (n : Int)).toNatClampNeg = n := by rw [k_nat (by omega)]; rfl
  refine W.anewA (t := .int) hC.1 hC.2.1 hC.2.2.2.1 (hC.2.2.2.2.1 _ hl) hAO rfl d rfl (k_nn (by omega)) (by rw [hnn]; omega) (by omega) (by rw [hnn]; omega) fun cA kA9 comp f1 f2 f3 f4 => ?_
  have a1 : s.vm.findClass ("[" ++ (FieldType.array .int).toString) = some (kTT G 6) := (hC.2.2.2.2.2.1.2 6 (kTT G 6, .array .int) rfl).2
  have e1 : cA = kTT G 6 := Option.some.inj (f1.symm.trans a1)
  subst e1
  rw [hnn]
  generalize hH1 : H.push ({ cls := kTT G 6, slots := Array.replicate n .null, vm := .none } : Cell) = H1
  have z1 : H1.size = H.size + 1 := by rw [← hH1, Array.size_push]
  have e2 : H1[H.size]? = some (arrV (kTT G 6) n (fun _ => .null)) := by rw [← hH1, Array.getElem?_push_size, ← arrV_new]
  have o1 : ∀ q : Nat, q < H.size → H1[q]? = H[q]? := fun q hq => by rw [← hH1, Array.getElem?_push, if_neg (Nat.ne_of_lt hq)]
  have hk : ∀ (k : Nat) (x : Nat × va_E), (kws G w fl)[k]? = some x → H1[x.1]? = H[x.1]? := fun k x hx => o1 x.1 ((h1 k x hx).lt)
  have g1 : va_P (kD G) kcl (kws G w fl ++ [(H.size, rA G 6 n (fun _ => none))]) H1 := (h1.kept hk).app (fun k x hx => by
    have hz : k < 1 := (List.getElem?_eq_some_iff.mp hx).1
    rw [show k = 0 by omega] at hx
    cases hx
    show H1[H.size]? = some (vp_cell _ _)
    rw [vp_cell_q]
    exact e2)
  have g2 : va_D (kA G) (kws G w fl ++ [(H.size, rA G 6 n (fun _ => none))]) := h2.push h1 rfl (kA_out hC _ h3.1)
  rw [kws_ap] at g1 g2
  exact kk H.size H1 locs ls g1 g2 ⟨Nat.le_trans h3.1 (by omega), fun x q1 q2 => (o1 x (Nat.lt_of_lt_of_le q1 h3.1)).trans (h3.2.1 x q1 q2), h3.2.2⟩ h4
/-! lists of new cells behind the list fl -/
theorem fl_ix {fl L : va_W} {i : Nat} : (fl ++ L)[fl.length + i]? = L[i]? := by rw [List.getElem?_append_right (by omega), Nat.add_sub_cancel_left]
theorem fl_sx {fl L : va_W} {i : Nat} {x : Nat × va_E} : (fl ++ L).set (fl.length + i) x = fl ++ L.set i x := by rw [List.set_append_right _ _ (by omega), Nat.add_sub_cancel_left]
theorem k_ialdL (hC : kC p l R s m args meth c cc own nL G d0 mc0 ms0) {L : va_W} {q n : Nat} {f : Nat → Int} {i : Int} (j : Nat) (hq : L[j]? = some (q, iA G n f)) (hi : 0 ≤ i ∧ i < (n : Int)) (hn : n ≤ 2147483647) (d : decode cc pc = .ok (.iaload, 1)) (kk : KW p l e R s m args below meth c nL G Q w (fl ++ L) cells slots (pc + 1) lv (vI (f i.toNat) :: st)) : KW p l e R s m args below meth c nL G Q w (fl ++ L) cells slots pc lv (vI i :: .ref q :: st) := k_ialdF hC (fl.length + j) (by rw [fl_ix, hq]) hi hn d kk
theorem k_iastL (hC : kC p l R s m args meth c cc own nL G d0 mc0 ms0) {L : va_W} {q n : Nat} {f : Nat → Int} {i x : Int} (j : Nat) (hq : L[j]? = some (q, iA G n f)) (L1 : va_W) (hL : L.set j (q, iA G n (kup f i.toNat x)) = L1) (hi : 0 ≤ i ∧ i < (n : Int)) (hn : n ≤ 2147483647) (d : decode cc pc = .ok (.iastore, 1))
    (kk : KW p l e R s m args below meth c nL G Q w (fl ++ L1) cells slots (pc + 1) lv st) : KW p l e R s m args below meth c nL G Q w (fl ++ L) cells slots pc lv (vI x :: vI i :: .ref q :: st) := by
  intro H locs ls h1 h2 h3 h4
  refine va_iast hC.1 hC.2.1 hC.2.2.2.2.2.1 h1 h2 h3 (kN G + (fl.length + j)) 0 (by rw [kws_fl, fl_ix, hq]; rfl) rfl (k_in hi hn) d (fun H1 locs1 g1 g2 g3 => ?_)
  rw [k_nat (by omega), kup_32 f x (show i.toNat < n by omega), kws_setfl, fl_sx] at g1 g2
  subst hL
  exact kk H1 locs1 ls g1 g2 g3 h4
theorem k_aaldL (hC : kC p l R s m args meth c cc own nL G d0 mc0 ms0) {L : va_W} {q n : Nat} {f : Nat → Option Nat} {i : Int} {v : Value} (j : Nat) (hq : L[j]? = some (q, rA G 6 n f)) (hi : 0 ≤ i ∧ i < (n : Int)) (hn : n ≤ 2147483647) (hv : va_rf (f i.toNat) = v) (d : decode cc pc = .ok (.aaload, 1)) (kk : KW p l e R s m args below meth c nL G Q w (fl ++ L) cells slots (pc + 1) lv (v :: st)) : KW p l e R s m args below meth c nL G Q w (fl ++ L) cells slots pc lv (vI i :: .ref q :: st) := fun H locs ls h1 h2 h3 h4 => by
  have hin : vp_in (Int32.ofInt i) n := k_in hi hn
  have hlt : (Int32.ofInt i).toNatClampNeg < n := Nat.not_le.mp fun q => hin (Or.inr q)
  have ha : (kws G w (fl ++ L))[kN G + (fl.length + j)]? = some (q, .inl (kTT G 6, n, .inr (.inr (.inr (.inr f))))) := by rw [kws_fl, fl_ix, hq]; rfl
  exact W.aald (v := va_rf (f (Int32.ofInt i).toNatClampNeg)) (ty := .array .int) hC.1 hC.2.1 (h1 _ _ ha) ((hC.2.2.2.2.2.1.2 6 (kTT G 6, .array .int) rfl).1 n (fun j => va_rf (f j))) rfl (fun q => by cases q) (by show ¬ (_ < 0 ∨ (arrV _ _ _).slots.size ≤ _); rw [arrV_size]; exact hin) (by show (arrV _ _ _).slots[_]? = _; rw [arrV_read _ _ hlt]) rfl rfl d (by rw [k_nat (by omega), hv]; exact kk H locs ls h1 h2 h3 h4)
theorem k_aastL (hC : kC p l R s m args meth c cc own nL G d0 mc0 ms0) {L : va_W} {q n v m0 : Nat} {f : Nat → Option Nat} {fi : Nat → Int} {i : Int} (j0 j : Nat) (hq : L[j0]? = some (q, rA G 6 n f)) (hj : L[j]? = some (v, iA G m0 fi)) (L1 : va_W) (hL : L.set j0 (q, rA G 6 n (va_up f i.toNat (some v))) = L1) (hi : 0 ≤ i ∧ i < (n : Int)) (hn : n ≤ 2147483647) (d : decode cc pc = .ok (.aastore, 1))
    (kk : KW p l e R s m args below meth c nL G Q w (fl ++ L1) cells slots (pc + 1) lv st) : KW p l e R s m args below meth c nL G Q w (fl ++ L) cells slots pc lv (.ref v :: vI i :: .ref q :: st) := by
  intro H locs ls h1 h2 h3 h4
  obtain ⟨kA9, kE9, k1, k2, k3⟩ := k_arA hC
  have hin : vp_in (Int32.ofInt i) n := k_in hi hn
  have hlt : (Int32.ofInt i).toNatClampNeg < n := Nat.not_le.mp fun q => hin (Or.inr q)
  have ha : (kws G w (fl ++ L))[kN G + (fl.length + j0)]? = some (q, .inl (kTT G 6, n, .inr (.inr (.inr (.inr f))))) := by rw [kws_fl, fl_ix, hq]; rfl
  have hv0 : va_at (kD G) kcl (v, iA G m0 fi) H := h1 (kN G + (fl.length + j)) (v, iA G m0 fi) (by rw [kws_fl, fl_ix, hj])
  have hv : H[v]? = some (vp_cell (kTT G 0) (m0, .inl (fun j => if j < m0 then Int32.ofInt (fi j) else 0))) := hv0
  refine W.aast hC.1 hC.2.1 (h1 _ _ ha) (fun q h => by cases h) (fun h => by cases h) k1 k2 rfl k3 ⟨fun q => hin (Or.inl q), by show _ < (arrV _ _ _).slots.size; rw [arrV_size]; exact hlt⟩ hv (fun q h => by cases h) k3 (self_ok _ _) rfl rfl d fun H1 e9 z oq => ?_
  have g1 := h1.set h2 ha (e := rA G 6 n (va_up f i.toNat (some v))) (H1 := H1) (by
    show H1[q]? = some (vp_cell _ _)
    rw [e9]
    rw [vp_cell_q, vp_cell_q, arrV_store, k_nat (by omega)]
    congr 2
    funext q
    by_cases hq : q = i.toNat
    · subst hq
      simp [updV, va_up, va_rf]
    · simp [updV, va_up, hq]) oq
  have g2 := h2.set (e := rA G 6 n (va_up f i.toNat (some v))) ha
  rw [kws_setfl, fl_sx] at g1 g2
  subst hL
  exact kk H1 _ ls g1 g2 (h3.put z oq (h2.2 _ _ ha)) h4
theorem k_flend {L : va_W} (k : KW p l e R s m args below meth c nL G Q w fl cells slots pc lv st) : KW p l e R s m args below meth c nL G Q w (fl ++ L) cells slots pc lv st := k_flby fl (fun k => k) (fun k q h => by rw [List.getElem?_append_left (List.getElem?_eq_some_iff.mp h).1]; exact h) (fun i j _ _ e => e) k
theorem k_fleq {fl1 : va_W} (h : fl1 = fl) (k : KW p l e R s m args below meth c nL G Q w fl1 cells slots pc lv st) : KW p l e R s m args below meth c nL G Q w fl cells slots pc lv st := by subst h; exact k
theorem k_alenL (hC : kC p l R s m args meth c cc own nL G d0 mc0 ms0) {L : va_W} {q n : Nat} {f : Nat → Option Nat} (j : Nat) (hq : L[j]? = some (q, rA G 6 n f)) (d : decode cc pc = .ok (.arraylength, 1)) (kk : KW p l e R s m args below meth c nL G Q w (fl ++ L) cells slots (pc + 1) lv (vI n :: st)) : KW p l e R s m args below meth c nL G Q w (fl ++ L) cells slots pc lv (.ref q :: st) := fun H locs ls h1 h2 h3 h4 => va_alen (v := Int32.ofInt (n : Int)) hC.1 hC.2.1 hC.2.2.2.2.2.1 h1 (kN G + (fl.length + j)) 6 (by rw [kws_fl, fl_ix, hq]; rfl) rfl rfl d (kk H locs ls h1 h2 h3 h4)
end
