theorem w_arb : Cond.arrayClass .byte ∈ kwords := kw_mem 74 (by decide +kernel) rfl
section
variable {p : Program} {l : Launch} {e : Env} {R : Room} {s : State} {m : MethodId} {args : Array Value} {below : List Frame} {meth : Method} {c : Code} {cc : ByteArray} {own : String} {nL : Nat} {G : kG} {d0 mc0 ms0 : Nat} {Q : State → Prop} {w : Nat → va_E} {fl : va_W} {cells slots pc : Nat} {lv : List (Nat × Value)} {st : List Value}
/-! floating cells -/
theorem kA_out (hC : kC p l R s m args meth c cc own nL G d0 mc0 ms0) : ∀ q, s.heap.size ≤ q → kA G q := fun q hq => Nat.le_trans hC.2.2.2.2.2.2.2.1 hq
theorem k_newb (hC : kC p l R s m args meth c cc own nL G d0 mc0 ms0) {n : Nat} (hn : n ≤ 1000) (hw : Cond.arrayClass .byte ∈ kwords) (hcs : cells + 1 ≤ mc0 ∧ slots + n ≤ ms0) (d : decode cc pc = .ok (.newarray .byte, 2))
    (kk : ∀ q : Nat, KW p l e R s m args below meth c nL G Q w (fl ++ [(q, bA G n (fun _ => 0))]) (cells + 1) (slots + n) (pc + 2) lv (.ref q :: st)) : KW p l e R s m args below meth c nL G Q w fl cells slots pc lv (vI n :: st) := by
  intro H locs ls h1 h2 h3 h4
  have hx := hC.2.2.2.2.2.2.2.2.2.1
  refine va_newa (atype := .byte) (N' := n) (a0 := (n, .inl (fun j => if j < n then Int32.ofInt 0 else 0))) hC.1 hC.2.1 (hC.2.2.2.2.1 _ hw) (ty := .byte) rfl hC.2.2.2.2.2.1 h1 h2 h3 (kA_out hC) (fun cA => by
      rw [vp_cell_i]
      congr 1
      funext j
      show Value.int (if j < n then Int32.ofInt 0 else 0) = .int 0
      split <;> rfl) (k_nn (by omega)) (by rw [k_nat (by omega)]; rfl) (by show n * 1 ≤ _; omega) (by omega) (by omega) d (fun q cA H1 g0 g1 g2 g3 => ?_)
  have e : cA = kTT G 2 := by
    have a1 := (g0.2 7 (cA, .byte) rfl).2
    have a2 := (hC.2.2.2.2.2.1.2 2 (kTT G 2, .byte) rfl).2
    exact Option.some.inj (a1.symm.trans a2)
  subst e
  have e2 : kws G w fl ++ [(q, Sum.inl (kTT G 2, n, Sum.inl (fun j => if j < n then Int32.ofInt 0 else 0)))] = kws G w (fl ++ [(q, bA G n (fun _ => 0))]) := by
    unfold kws bA; rw [List.append_assoc]
  rw [e2] at g1 g2
  exact kk q H1 locs ls g1 g2 g3 h4
theorem k_flby (fl1 : va_W) (g : Nat → Nat) (hg : ∀ (k : Nat) (q : Nat × va_E), fl1[k]? = some q → fl[g k]? = some q) (hi : ∀ i j : Nat, i < fl1.length → j < fl1.length → g i = g j → i = j) (k : KW p l e R s m args below meth c nL G Q w fl1 cells slots pc lv st) : KW p l e R s m args below meth c nL G Q w fl cells slots pc lv st := by
  intro H locs ls h1 h2 h3 h4
  have hk : ∀ (i : Nat) (q : Nat × va_E), (kws G w fl1)[i]? = some q → (kws G w fl)[if i < kN G then i else kN G + g (i - kN G)]? = some q := by
    intro i q hq
    by_cases hi : i < kN G
    · rw [if_pos hi, kws_at hi]; rw [kws_at hi] at hq; exact hq
    · rw [if_neg hi, kws_fl]
      apply hg
      rw [show i = kN G + (i - kN G) by omega, kws_fl] at hq
      exact hq
  have hl : (kws G w fl1).length = kN G + fl1.length := by unfold kws; simp
  refine k H locs ls (h1.by _ hk) (h2.by _ hk (fun i j hi' hj' e => ?_)) h3 h4
  rw [hl] at hi' hj'
  by_cases a : i < kN G
  · rw [if_pos a] at e
    by_cases b : j < kN G
    · rw [if_pos b] at e; exact e
    · rw [if_neg b] at e; omega
  · rw [if_neg a] at e
    by_cases b : j < kN G
    · rw [if_pos b] at e; omega
    · rw [if_neg b] at e
      have := hi (i - kN G) (j - kN G) (by omega) (by omega) (by omega)
      omega
end
