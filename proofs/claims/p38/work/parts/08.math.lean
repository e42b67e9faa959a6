/-! more rows -/
section KL1
variable {p : Program} {l : Launch} {e : Env} {R : Room} {s : State} {m : MethodId} {args : Array Value} {below : List Frame} {meth : Method} {c : Code} {Q : State → Prop} {cc : ByteArray} {own : String} {nL d0 mc0 ms0 : Nat} {G : kG} {w : Nat → va_E} {fl : va_W} {cells slots pc : Nat} {lv : List (Nat × Value)} {st : List Value}
theorem k_topI {x : Int} (k : ∀ y : Int, y = x → KW p l e R s m args below meth c nL G Q w fl cells slots pc lv (vI y :: st)) : KW p l e R s m args below meth c nL G Q w fl cells slots pc lv (vI x :: st) := k x rfl
theorem k_topL {x : Int} (k : ∀ y : Int, y = x → KW p l e R s m args below meth c nL G Q w fl cells slots pc lv (vL y :: st)) : KW p l e R s m args below meth c nL G Q w fl cells slots pc lv (vL x :: st) := k x rfl
theorem k_topv {u : Value} (v : Value) (h : u = v) (k : KW p l e R s m args below meth c nL G Q w fl cells slots pc lv (v :: st)) : KW p l e R s m args below meth c nL G Q w fl cells slots pc lv (u :: st) := by subst h; exact k
theorem k_lxor (hC : kC p l R s m args meth c cc own nL G d0 mc0 ms0) {a b : Int} (d : decode cc pc = .ok (.lxor, 1)) (ha : -9223372036854775808 ≤ a ∧ a ≤ 9223372036854775807) (hb : -9223372036854775808 ≤ b ∧ b ≤ 9223372036854775807) (k : ∀ z : Int, (-9223372036854775808 ≤ z ∧ z ≤ 9223372036854775807) → (z < 0 ↔ (a < 0 ↔ 0 ≤ b)) → KW p l e R s m args below meth c nL G Q w fl cells slots (pc + 1) lv (vL z :: st)) : KW p l e R s m args below meth c nL G Q w fl cells slots pc lv (vL b :: vL a :: st) := fun H locs ls h1 h2 h3 h4 => by
  refine lv_lxor hC.1 hC.2.1 d ?_
  have h5 : Int64.ofInt (Int64.ofInt a ^^^ Int64.ofInt b).toInt = Int64.ofInt a ^^^ Int64.ofInt b := Int64.ofInt_toInt _
  rw [← h5]
  refine k _ ⟨Int64.le_toInt _, by have := Int64.toInt_lt (Int64.ofInt a ^^^ Int64.ofInt b); omega⟩ ?_ H locs ls h1 h2 h3 h4
  have e1 : (Int64.ofInt a ^^^ Int64.ofInt b).toInt < 0 ↔ (Int64.ofInt a ^^^ Int64.ofInt b).toBitVec.msb = true := by
    rw [BitVec.msb_eq_toInt]; simp only [decide_eq_true_eq]; exact Iff.rfl
  have e2 : a < 0 ↔ (Int64.ofInt a).toBitVec.msb = true := by
    rw [BitVec.msb_eq_toInt]; simp only [decide_eq_true_eq]; rw [show (Int64.ofInt a).toBitVec.toInt = (Int64.ofInt a).toInt from rfl, k_t64 ha]
  have e3 : b < 0 ↔ (Int64.ofInt b).toBitVec.msb = true := by
    rw [BitVec.msb_eq_toInt]; simp only [decide_eq_true_eq]; rw [show (Int64.ofInt b).toBitVec.toInt = (Int64.ofInt b).toInt from rfl, k_t64 hb]
  rw [e1, Int64.toBitVec_xor, BitVec.msb_xor, e2]
  have e4 : 0 ≤ b ↔ ¬ (Int64.ofInt b).toBitVec.msb = true := by rw [← e3]; omega
  rw [e4]
  cases (Int64.ofInt a).toBitVec.msb <;> cases (Int64.ofInt b).toBitVec.msb <;> simp
theorem k_ixor (hC : kC p l R s m args meth c cc own nL G d0 mc0 ms0) {a b : Int} (d : decode cc pc = .ok (.ixor, 1)) (ha : -2147483648 ≤ a ∧ a ≤ 2147483647) (hb : -2147483648 ≤ b ∧ b ≤ 2147483647) (k : ∀ z : Int, (-2147483648 ≤ z ∧ z ≤ 2147483647) → (z < 0 ↔ (a < 0 ↔ 0 ≤ b)) → KW p l e R s m args below meth c nL G Q w fl cells slots (pc + 1) lv (vI z :: st)) : KW p l e R s m args below meth c nL G Q w fl cells slots pc lv (vI b :: vI a :: st) := fun H locs ls h1 h2 h3 h4 => by
  refine lv_ixor hC.1 hC.2.1 d ?_
  have h5 : Int32.ofInt (Int32.ofInt a ^^^ Int32.ofInt b).toInt = Int32.ofInt a ^^^ Int32.ofInt b := Int32.ofInt_toInt _
  rw [← h5]
  refine k _ ⟨Int32.le_toInt _, by have := Int32.toInt_lt (Int32.ofInt a ^^^ Int32.ofInt b); omega⟩ ?_ H locs ls h1 h2 h3 h4
  have e1 : (Int32.ofInt a ^^^ Int32.ofInt b).toInt < 0 ↔ (Int32.ofInt a ^^^ Int32.ofInt b).toBitVec.msb = true := by
    rw [BitVec.msb_eq_toInt]; simp only [decide_eq_true_eq]; exact Iff.rfl
  have e2 : a < 0 ↔ (Int32.ofInt a).toBitVec.msb = true := by
    rw [BitVec.msb_eq_toInt]; simp only [decide_eq_true_eq]; rw [show (Int32.ofInt a).toBitVec.toInt = (Int32.ofInt a).toInt from rfl, k_t32 ha]
  have e3 : b < 0 ↔ (Int32.ofInt b).toBitVec.msb = true := by
    rw [BitVec.msb_eq_toInt]; simp only [decide_eq_true_eq]; rw [show (Int32.ofInt b).toBitVec.toInt = (Int32.ofInt b).toInt from rfl, k_t32 hb]
  rw [e1, Int32.toBitVec_xor, BitVec.msb_xor, e2]
  have e4 : 0 ≤ b ↔ ¬ (Int32.ofInt b).toBitVec.msb = true := by rw [← e3]; omega
  rw [e4]
  cases (Int32.ofInt a).toBitVec.msb <;> cases (Int32.ofInt b).toBitVec.msb <;> simp
theorem k_shlv64 {i : Int} (h : 0 ≤ i ∧ i ≤ 62) : (1 : Int64) <<< ((Int32.ofInt i).toInt64 &&& 63) = Int64.ofInt (2 ^ i.toNat) := by
  obtain ⟨n, rfl⟩ : ∃ n : Nat, i = (n : Int) := ⟨i.toNat, by omega⟩
  have hn : n < 63 := by omega
  have key : ∀ n : Fin 63, (1 : Int64) <<< ((Int32.ofInt (n.val : Int)).toInt64 &&& 63) = Int64.ofInt (2 ^ n.val) := by decide +kernel
  exact key ⟨n, hn⟩
theorem k_lshl1 (hC : kC p l R s m args meth c cc own nL G d0 mc0 ms0) {i : Int} (d : decode cc pc = .ok (.lshl, 1)) (hi : 0 ≤ i ∧ i ≤ 62) (k : KW p l e R s m args below meth c nL G Q w fl cells slots (pc + 1) lv (vL (2 ^ i.toNat) :: st)) : KW p l e R s m args below meth c nL G Q w fl cells slots pc lv (vI i :: vL 1 :: st) := fun H locs ls h1 h2 h3 h4 => lv_lshl hC.1 hC.2.1 d (k_shlv64 hi) (k H locs ls h1 h2 h3 h4)
theorem KM_of2 {y : MethodName} {maxL d mc ms : Nat} {ret : Option FieldType} {post : Option Value → (Nat → va_E) → va_W → Prop} {own : String} {av : List Value} {lv0 : List (Nat × Value)} (hls : l.stackTraces = false) (hy : plainName y.cls = true) (ho : y.cls = own) (hlv : lv_args 0 av = lv0) (hlen : (lg_sl av).length ≤ maxL)
    (body : ∀ (p : Program) (e : Env) (R : Room) (s : State) (m : MethodId) (args : Array Value) (below : List Frame) (meth : Method) (c : Code) (Q : State → Prop), kC p l R s m args meth c cc own maxL G d mc ms → meth.sig.returnType = ret → MQ below (kQ G post) args s mc ms (kA G) = Q → KW p l e R s m args below meth c maxL G Q w fl 0 0 0 lv0 []) : KM l G y cc maxL ret d mc ms av w fl post :=
  KM_of hls hy ho hlv hlen (fun p e R s m args below meth c hC hr => body p e R s m args below meth c _ hC hr rfl)
theorem KM_ofF {y : MethodName} {maxL d mc ms : Nat} {ret : Option FieldType} {post : Option Value → (Nat → va_E) → va_W → Prop} {own : String} {av : List Value} {lv0 : List (Nat × Value)} (hls : l.stackTraces = false) (hy : plainFor y = true) (ho : y.cls = own) (hlv : lv_args 0 av = lv0) (hlen : (lg_sl av).length ≤ maxL)
    (body : ∀ (p : Program) (e : Env) (R : Room) (s : State) (m : MethodId) (args : Array Value) (below : List Frame) (meth : Method) (c : Code) (Q : State → Prop), kC p l R s m args meth c cc own maxL G d mc ms → meth.sig.returnType = ret → MQ below (kQ G post) args s mc ms (kA G) = Q → KW p l e R s m args below meth c maxL G Q w fl 0 0 0 lv0 []) : KM l G y cc maxL ret d mc ms av w fl post := by
  refine va_MetF (cc := cc) (maxL := maxL) (ret := ret) hy rfl ?_
  intro p e s m args below meth c s₁ B hml hv
  obtain ⟨rfl, hP, hD, hK, hE, hz⟩ := hv
  have hts := atoms_spec (ws := kwo y cc maxL ret) B.pre
  have hown : s.vm.findClass own = some m.cls := by rw [← ho]; exact findClass_of_methodNamed B.named
  have hl := lv_entry av (n := maxL) hlen
  rw [lg_entry_eq]
  generalize (lg_sl av ++ List.replicate (maxL - (lg_sl av).length) Slot.unset).toArray = ls at hl ⊢
  rw [hlv] at hl
  exact body p e _ s m _ below meth c _ ⟨B.exec, B.bytes, hml, hown, fun w hw => hts w (List.mem_cons_of_mem _ hw), hK, hE, hz, B.notSynchronized, ⟨Nat.le_refl _, Nat.le_refl _, Nat.le_refl _, Nat.le_refl _⟩, hls⟩ B.returns rfl s.heap [] ls hP hD va_S.rf hl
theorem KX_of2 {y : MethodName} {maxL d mc ms : Nat} {ret : Option FieldType} {post : Option Value → (Nat → va_E) → va_W → Prop} {px : String → (Nat → va_E) → va_W → Prop} {own : String} {av : List Value} {lv0 : List (Nat × Value)} (hls : l.stackTraces = false) (hy : plainName y.cls = true) (ho : y.cls = own) (hlv : lv_args 0 av = lv0) (hlen : (lg_sl av).length ≤ maxL)
    (body : ∀ (p : Program) (e : Env) (R : Room) (s : State) (m : MethodId) (args : Array Value) (below : List Frame) (meth : Method) (c : Code) (Q : State → Prop), kC p l R s m args meth c cc own maxL G d mc ms → meth.sig.returnType = ret → (∀ x ∈ c.exceptionTable.toList, False) → vx_MQ below (kQ G post) (kXC G px) args s mc ms (kA G) = Q → KW p l e R s m args below meth c maxL G Q w fl 0 0 0 lv0 []) : KX l G y cc maxL ret d mc ms av w fl post px :=
  KX_of hls hy ho hlv hlen (fun p e R s m args below meth c hC hr ht => body p e R s m args below meth c _ hC hr ht rfl)
theorem kl {k : Nat} (hN : 133 ≤ kN G) (hk : k < 133) : k < kN G := Nat.lt_of_lt_of_le hk hN
end KL1
/-! the document's numbers -/
theorem sq_nn (x : Int) : 0 ≤ x * x := by
  rcases Int.le_total 0 x with h | h
  · exact Int.mul_nonneg h h
  · have := Int.mul_nonneg (by omega : 0 ≤ -x) (by omega : 0 ≤ -x)
    rwa [Int.neg_mul_neg] at this
theorem mul_le_abs {a b A B : Int} (ha : -A ≤ a ∧ a ≤ A) (hb : -B ≤ b ∧ b ≤ B) : -(A * B) ≤ a * b ∧ a * b ≤ A * B := by
  have h1 := Int.mul_nonneg (by omega : 0 ≤ A - a) (by omega : 0 ≤ B - b)
  have h2 := Int.mul_nonneg (by omega : 0 ≤ A + a) (by omega : 0 ≤ B + b)
  have h3 := Int.mul_nonneg (by omega : 0 ≤ A - a) (by omega : 0 ≤ B + b)
  have h4 := Int.mul_nonneg (by omega : 0 ≤ A + a) (by omega : 0 ≤ B - b)
  simp only [Int.sub_mul, Int.add_mul, Int.mul_sub, Int.mul_add] at h1 h2 h3 h4
  omega
def prodM (a b : Int) : Int := a * b / 1000000
def limM (v : Int) : Int := max (-1000000) (min 1000000 v)
def sinQ (t : Int) : Int := 4000000 * (t * (10800 - t)) / (145800000 - t * (10800 - t))
def sinM (d : Int) : Int := if d % 21600 < 10800 then sinQ (d % 21600) else -sinQ (d % 21600 - 10800)
def cosM (d : Int) : Int := sinM (d + 5400)
theorem sinX {t : Int} (h : 0 ≤ t ∧ t ≤ 10800) : 0 ≤ t * (10800 - t) ∧ t * (10800 - t) ≤ 29160000 := by
  have h1 := Int.mul_nonneg h.1 (by omega : 0 ≤ 10800 - t)
  have h2 := sq_nn (t - 5400)
  simp only [Int.sub_mul, Int.mul_sub] at h1 h2 ⊢
  omega
theorem sinQ_b {t : Int} (h : 0 ≤ t ∧ t ≤ 10800) : 0 ≤ sinQ t ∧ sinQ t ≤ 1000000 := by
  obtain ⟨h1, h2⟩ := sinX h
  unfold sinQ
  refine ⟨Int.ediv_nonneg (by omega) (by omega), ?_⟩
  have : 4000000 * (t * (10800 - t)) / (145800000 - t * (10800 - t)) < 1000001 := Int.ediv_lt_of_lt_mul (by omega) (by omega)
  omega
theorem sinM_b (d : Int) : -1000000 ≤ sinM d ∧ sinM d ≤ 1000000 := by
  unfold sinM
  split
  · have := sinQ_b (t := d % 21600) (by omega); omega
  · have := sinQ_b (t := d % 21600 - 10800) (by omega); omega
theorem cosM_b (d : Int) : -1000000 ≤ cosM d ∧ cosM d ≤ 1000000 := sinM_b _
theorem sinQ_mono {t u : Int} (h : 0 ≤ t ∧ t ≤ u ∧ u ≤ 5400) : sinQ t ≤ sinQ u := by
  obtain ⟨h1, h2⟩ := sinX (t := t) (by omega)
  obtain ⟨h3, h4⟩ := sinX (t := u) (by omega)
  have h5 : t * (10800 - t) ≤ u * (10800 - u) := by
    have h6 := Int.mul_nonneg (by omega : 0 ≤ u - t) (by omega : 0 ≤ 10800 - u - t)
    simp only [Int.sub_mul, Int.mul_sub] at h6 ⊢
    rw [Int.mul_comm t u] at h6
    omega
  unfold sinQ
  generalize t * (10800 - t) = x at *
  generalize u * (10800 - u) = y at *
  rw [Int.le_ediv_iff_mul_le (by omega)]
  have h7 : 4000000 * x / (145800000 - x) * (145800000 - x) ≤ 4000000 * x := Int.ediv_mul_le _ (by omega)
  have h8 : 0 ≤ 4000000 * x / (145800000 - x) := Int.ediv_nonneg (by omega) (by omega)
  have h9 := Int.mul_le_mul_of_nonneg_left (show 145800000 - y ≤ 145800000 - x by omega) h8
  omega
theorem sinM_q {t : Int} (h : 0 ≤ t ∧ t ≤ 5400) : sinM t = sinQ t := by
  unfold sinM
  rw [show t % 21600 = t by omega, if_pos (by omega)]
theorem sinM_mono {t u : Int} (h : 0 ≤ t ∧ t ≤ u ∧ u ≤ 5400) : sinM t ≤ sinM u := by
  rw [sinM_q (by omega), sinM_q (by omega)]; exact sinQ_mono h
theorem sinM_0 : sinM 0 = 0 := by decide
noncomputable def arcN (v : Int) : Int := Classical.epsilon (fun a : Int => 0 ≤ a ∧ a ≤ 5400 ∧ sinM a ≤ v ∧ ∀ b : Int, a < b → b ≤ 5400 → v < sinM b)
noncomputable def arcM (v : Int) : Int := if v < 0 then -arcN (-v) else arcN v
theorem arcN_eq {v a : Int} (h : 0 ≤ a ∧ a ≤ 5400) (h1 : sinM a ≤ v) (h2 : a = 5400 ∨ v < sinM (a + 1)) : arcN v = a := by
  have hP : 0 ≤ a ∧ a ≤ 5400 ∧ sinM a ≤ v ∧ ∀ b : Int, a < b → b ≤ 5400 → v < sinM b := ⟨h.1, h.2, h1, fun b hb hb2 => by
    rcases h2 with h2 | h2
    · omega
    · have := sinM_mono (t := a + 1) (u := b) (by omega); omega⟩
  have hs := Classical.epsilon_spec (p := fun a : Int => 0 ≤ a ∧ a ≤ 5400 ∧ sinM a ≤ v ∧ ∀ b : Int, a < b → b ≤ 5400 → v < sinM b) ⟨a, hP⟩
  change 0 ≤ arcN v ∧ arcN v ≤ 5400 ∧ sinM (arcN v) ≤ v ∧ ∀ b : Int, arcN v < b → b ≤ 5400 → v < sinM b at hs
  obtain ⟨q1, q2, q3, q4⟩ := hs
  rcases Int.lt_trichotomy a (arcN v) with q | q | q
  · have := hP.2.2.2 _ q q2; omega
  · exact q.symm
  · have := q4 _ q h.2; omega
noncomputable def rootM (n : Int) : Int := Classical.epsilon (fun r : Int => 0 ≤ r ∧ r * r ≤ n ∧ n < (r + 1) * (r + 1))
theorem rootM_eq {n r : Int} (h : 0 ≤ r) (h1 : r * r ≤ n) (h2 : n < (r + 1) * (r + 1)) : rootM n = r := by
  have hs := Classical.epsilon_spec (p := fun r : Int => 0 ≤ r ∧ r * r ≤ n ∧ n < (r + 1) * (r + 1)) ⟨r, h, h1, h2⟩
  change 0 ≤ rootM n ∧ rootM n * rootM n ≤ n ∧ n < (rootM n + 1) * (rootM n + 1) at hs
  obtain ⟨q1, q2, q3⟩ := hs
  rcases Int.lt_trichotomy r (rootM n) with q | q | q
  · have := Int.mul_le_mul (show r + 1 ≤ rootM n by omega) (show r + 1 ≤ rootM n by omega) (by omega) q1; omega
  · exact q.symm
  · have := Int.mul_le_mul (show rootM n + 1 ≤ r by omega) (show rootM n + 1 ≤ r by omega) (by omega) h; omega
