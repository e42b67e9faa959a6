/-! what the start gives: arrays' classes, strings, statics -/
theorem st_arr {A : Array Value} {s : State} {ty : FieldType} (h : (Cond.arrayClass ty).before A s = true) (hr : ∀ cA, s.vm.findClass ("[" ++ ty.toString) = some cA → va_RA s cA ty) : ∃ cA, ArrOfT s cA ty ∧ va_RA s cA ty := by
  obtain ⟨cA, kA, comp, h1, h2, h3⟩ := Cond.arrayClass_spec h
  exact ⟨cA, fun n z => ⟨(fun k h => by cases h), kA, h2, comp, h3⟩, hr cA h1⟩
theorem st_arA {A : Array Value} {s : State} {C : FieldType} (h : (Cond.arrayOver (.array C)).before A s = true) : ∃ cA, ArrOfT s cA (.array C) ∧ va_RA s cA (.array C) := by
  obtain ⟨comp, c, k, h1, h2, h3, h4, h5⟩ := arrayOverA_spec h
  exact ⟨c, fun n z => ⟨(fun k h => by cases h), k, h3, comp, h4⟩, h5⟩
theorem st_arO {A : Array Value} {s : State} {C : String} (h : (Cond.arrayOver (.object C)).before A s = true) : ∃ cA, ArrOfT s cA (.object C) ∧ va_RA s cA (.object C) := by
  obtain ⟨comp, c, k, h1, h2, h3, h4, h5⟩ := Cond.arrayOver_spec h
  exact ⟨c, fun n z => ⟨(fun k h => by cases h), k, h3, comp, h4⟩, ⟨k, comp, h3, h4, h1, h5⟩⟩
abbrev st_L : List Cond := flatC (Jvm.Cond.and given_1 narrow_1)
def st_ks : Term → Nat
  | .string _ k => k
  | _ => 0
def st_kf : Term → Nat
  | .field t _ _ _ => st_ks t
  | .static _ _ _ => 9999
  | _ => 0
def st_ke : Term → Nat
  | .elem (.static _ _ _) (.int j) => 10000 + j.toNatClampNeg
  | .elem t _ => st_kf t
  | .length t => st_kf t
  | .field t _ _ _ => st_ks t
  | .string _ k => k
  | _ => 0
def st_key : Cond → Nat
  | .eq t _ => st_ke t
  | .exactly t _ => st_ke t
  | .arrayOf t _ => st_kf t
  | _ => 0
def st_q (i : Nat) : String × Nat × String × Nat := (kRefs.find? (fun q => q.2.2.2 == i)).getD ("", 0, "", 0)
def st_tm (i : Nat) : Term := .string (st_q i).1 (st_q i).2.1
abbrev st_F (k : Nat) : List Cond := st_L.filter (fun w => st_key w == k)
theorem st_in {k : Nat} {w : Cond} (h : w ∈ st_F k) : w ∈ st_L := (List.mem_filter.mp h).1
set_option maxRecDepth 100000 in
theorem st_c1 : ∀ i : Nat, i < 42 → Cond.exactly (st_tm i) "java/lang/String" ∈ st_F (st_q i).2.1 := by decide +kernel
set_option maxRecDepth 100000 in
theorem st_c2 : ∀ i : Nat, i < 42 → Cond.eq (.field (st_tm i) "java/lang/String" "coder" "B") (.int 0) ∈ st_F (st_q i).2.1 := by decide +kernel
set_option maxRecDepth 100000 in
theorem st_c3 : ∀ i : Nat, i < 42 → Cond.arrayOf (.field (st_tm i) "java/lang/String" "value" "[B") .byte ∈ st_F (st_q i).2.1 := by decide +kernel
set_option maxRecDepth 100000 in
theorem st_c4 : ∀ i : Nat, i < 42 → Cond.eq (.length (.field (st_tm i) "java/lang/String" "value" "[B")) (.int (Int32.ofNat (kLen.getD i 0))) ∈ st_F (st_q i).2.1 := by decide +kernel
set_option maxRecDepth 100000 in
theorem st_c5 : ∀ i : Nat, i < 42 → ∀ j : Nat, j < kLen.getD i 0 → Cond.eq (.elem (.field (st_tm i) "java/lang/String" "value" "[B") (.int (Int32.ofNat j))) (.int ((kByt.getD i []).getD j 0)) ∈ st_F (st_q i).2.1 := by decide +kernel
set_option maxRecDepth 100000 in
theorem st_c6 : ∀ q ∈ kRefs, (q.1 = (st_q q.2.2.2).1 ∧ q.2.1 = (st_q q.2.2.2).2.1) ∨ Cond.eq (st_tm q.2.2.2) (.string q.1 q.2.1) ∈ st_F (st_q q.2.2.2).2.1 := by decide +kernel
theorem st_c9 : ∀ q ∈ kRefs, Cond.stringRef q.1 q.2.1 q.2.2.1 ∈ lw_tbl := by decide +kernel
theorem st_c10 : ∀ q ∈ kRefs, q.2.2.2 < 42 := by decide +kernel
theorem st_c11 : ∀ i : Nat, i < 42 → kLen.getD i 0 < 2 ^ 31 := by decide +kernel
theorem st_S {args : Array Value} {s : State} {A : Nat → Prop} (hs : ∀ w ∈ st_L, w.before args s = true) (hA : ∀ a : Nat, a < s.heap.size → ¬ A a) :
    ∃ adK adV : Nat → Nat, kStr adK adV A s s.heap ∧ ∀ i : Nat, i < 42 → (st_tm i).eval args s none [] s = some (.ref (adK i)) := by
  have h0 : ∀ i : Nat, ∃ q : Nat × Nat, i < 42 → (st_tm i).eval args s none [] s = some (.ref q.1) ∧ va_O "java/lang/String" q.1 A s s.heap ∧ va_OF "java/lang/String" "coder" "B" (.int 0) q.1 A s s.heap ∧ va_OF "java/lang/String" "value" "[B" (.ref q.2) q.1 A s s.heap ∧ va_T .byte q.2 (kLen.getD i 0) (fun j => .int ((kByt.getD i []).getD j 0)) A s s.heap := by
    intro i
    by_cases hi : i < 42
    · obtain ⟨a, c, cA, kA, q1, q2, q3, q4, q5, q6, -⟩ := Cond.exactly_spec (args := args) (first := s) (o := none) (s := s) (idx := []) (t := st_tm i) (cls := "java/lang/String") (hs _ (st_in (st_c1 i hi)))
      obtain ⟨t, ht, hT⟩ := va_Tof (f := fun j => .int ((kByt.getD i []).getD j 0)) (A := A) (st_c11 i hi) (hs _ (st_in (st_c3 i hi))) (va_eqt (hs _ (st_in (st_c4 i hi)))) (fun j hj => va_eqt (hs _ (st_in (st_c5 i hi j hj)))) hA
      exact ⟨(a, t), fun _ => ⟨q1, ⟨cA, q3, q5, by rw [q6]; exact q2, hA a (Array.getElem?_eq_some_iff.mp q3).1⟩, vk_OFof q1 (va_eqt (hs _ (st_in (st_c2 i hi)))) hA, vk_OFof q1 ht hA, hT⟩⟩
    · exact ⟨(0, 0), fun h => absurd h hi⟩
  obtain ⟨ad, had⟩ := Classical.axiomOfChoice h0
  exact ⟨fun i => (ad i).1, fun i => (ad i).2, fun i hi => (had i hi).2, fun i hi => (had i hi).1⟩
theorem st_kE {b L : Nat} {xs : Nat → Int32} {s : State} (hts : ∀ w ∈ lw_tbl, w.before #[Value.ref b] s = true) (hgv : (Jvm.Cond.and given_1 narrow_1).before #[Value.ref b] s = true) (hX : va_X b L xs s s.heap) (hbl : b < s.heap.size) :
    ∃ (adK adV : Nat → Nat), ∀ (D : va_G) (TT : Nat → ClassId) (k : Nat) (ad : Nat → Nat), kE ((D, TT), (s.heap.size, k, ad), (adK, adV), (b, L, xs)) s s.heap := by
  have hs : ∀ w ∈ st_L, w.before #[Value.ref b] s = true := flat_of_before _ hgv
  have hA : ∀ a : Nat, a < s.heap.size → ¬ (fun q : Nat => s.heap.size ≤ q) a := fun a h => Nat.not_le.mpr h
  obtain ⟨adK, adV, hS, hE⟩ := st_S (A := fun q : Nat => s.heap.size ≤ q) hs hA
  refine ⟨adK, adV, fun D TT k ad => ⟨⟨vx_Zqof (hts _ (by decide +kernel)) (hts _ (by decide +kernel)) (hs _ (by decide +kernel)) hA, vx_Zqof (hts _ (by decide +kernel)) (hts _ (by decide +kernel)) (hs _ (by decide +kernel)) hA⟩, ⟨va_Zof (hts _ (by decide +kernel)) (hts _ (by decide +kernel)) (va_eqi (hs _ (by decide +kernel))) hA, va_Zqof (hts _ (by decide +kernel)) (hts _ (by decide +kernel)) (hs _ (by decide +kernel)) hA⟩, ⟨hX, hbl, hA b hbl⟩, (show (Cond.arrayOver (.array .int)).before #[Value.ref b] s = true from hts _ (by decide +kernel)), hS, fun q hq => ?_⟩⟩
  refine (show vk_R q.1 q.2.1 q.2.2.1 (adK q.2.2.2) s from ?_)
  have h39 := st_c10 q hq
  have h1 : (Cond.stringRef q.1 q.2.1 q.2.2.1).before #[Value.ref b] s = true := hts _ (st_c9 q hq)
  have h2 : (Term.string q.1 q.2.1).eval #[Value.ref b] s none [] s = some (.ref (adK q.2.2.2)) := by
    rcases st_c6 q hq with ⟨g1, g2⟩ | g
    · have := hE _ h39
      rw [g1, g2]
      exact this
    · exact va_eqR (hs _ (st_in g)) (hE _ h39)
  exact vk_R.of h1 h2
