def okD (f : Jvm.FP.Core.Fmt) : Jvm.FP.Core.Datum → Prop
  | .nan => False
  | .inf _ => True
  | .fin _ c q => c < 2 ^ f.p ∧ q ≤ f.qmax
theorem okD_ratio (f : Jvm.FP.Core.Fmt) (h1 : f.qmin ≤ f.qmax) (h2 : f.tails < 2 ^ f.p) (s : Bool) (n d : Nat) (e : Int) : okD f (Jvm.FP.Core.roundRatio f s n d e) := by
  unfold Jvm.FP.Core.roundRatio
  split
  · exact ⟨Nat.lt_of_lt_of_le (by unfold Jvm.FP.Core.Fmt.tails; exact Nat.two_pow_pos _) (Nat.le_of_lt h2), h1⟩
  · unfold Jvm.FP.Core.roundAt Jvm.FP.Core.settle
    split
    · rename_i h
      unfold Jvm.FP.Core.bound
      split
      · rename_i h3; exact ⟨h, h3⟩
      · trivial
    · unfold Jvm.FP.Core.bound
      split
      · rename_i h3; exact ⟨h2, h3⟩
      · trivial
theorem okD_round (f : Jvm.FP.Core.Fmt) (h1 : f.qmin ≤ f.qmax) (h2 : f.tails < 2 ^ f.p) (d : Jvm.FP.Core.Datum) (hd : d ≠ .nan) : okD f (Jvm.FP.Core.round f d) := by
  cases d with
  | nan => exact absurd rfl hd
  | inf s => trivial
  | fin s c q => exact okD_ratio f h1 h2 s c 1 q
theorem okD_quot (f : Jvm.FP.Core.Fmt) (h1 : f.qmin ≤ f.qmax) (h2 : f.tails < 2 ^ f.p) (d : Jvm.FP.Core.Datum) (hd : d ≠ .nan) (t : Bool) (c : Nat) (q : Int) (hc : c ≠ 0) : okD f (Jvm.FP.Core.quotient f d (.fin t c q)) := by
  cases d with
  | nan => exact absurd rfl hd
  | inf s => trivial
  | fin s c1 q1 =>
    show okD f (if c = 0 then _ else _)
    rw [if_neg hc]
    exact okD_ratio f h1 h2 _ _ _ _
theorem enc64 (d : Jvm.FP.Core.Datum) (h : okD Jvm.FP.Core.b64 d) : Jvm.FP.Core.encode Jvm.FP.Core.b64 d % 2 ^ 64 % 2 ^ 63 ≤ 0x7ff0000000000000 := by
  have ht : Jvm.FP.Core.b64.tails = 2 ^ 52 := by decide
  have he : Jvm.FP.Core.b64.exps = 2 ^ 11 := by decide
  have hq : Jvm.FP.Core.b64.qmax = Jvm.FP.Core.b64.qmin + 2045 := by decide
  cases d with
  | nan => exact h.elim
  | inf s =>
    show Jvm.FP.Core.assemble Jvm.FP.Core.b64 s (Jvm.FP.Core.b64.exps - 1) 0 % 2 ^ 64 % 2 ^ 63 ≤ _
    unfold Jvm.FP.Core.assemble
    rw [ht, he]
    cases s <;> decide
  | fin s c q =>
    obtain ⟨h1, h2⟩ := h
    have h1 : c < 2 ^ 53 := h1
    show (if c < Jvm.FP.Core.b64.tails then Jvm.FP.Core.assemble Jvm.FP.Core.b64 s 0 c else Jvm.FP.Core.assemble Jvm.FP.Core.b64 s ((q - Jvm.FP.Core.b64.qmin).toNat + 1) (c - Jvm.FP.Core.b64.tails)) % 2 ^ 64 % 2 ^ 63 ≤ _
    rw [hq] at h2
    generalize Jvm.FP.Core.b64.qmin = m at *
    unfold Jvm.FP.Core.assemble
    rw [ht, he]
    have hs : s.toNat = 0 ∨ s.toNat = 1 := by cases s <;> simp
    split
    · rcases hs with hs | hs <;> rw [hs] <;> omega
    · rcases hs with hs | hs <;> rw [hs] <;> omega
theorem enc32 (d : Jvm.FP.Core.Datum) (h : okD Jvm.FP.Core.b32 d) : Jvm.FP.Core.encode Jvm.FP.Core.b32 d % 2 ^ 32 % 2 ^ 31 ≤ 0x7f800000 := by
  have ht : Jvm.FP.Core.b32.tails = 2 ^ 23 := by decide
  have he : Jvm.FP.Core.b32.exps = 2 ^ 8 := by decide
  have hq : Jvm.FP.Core.b32.qmax = Jvm.FP.Core.b32.qmin + 253 := by decide
  cases d with
  | nan => exact h.elim
  | inf s =>
    show Jvm.FP.Core.assemble Jvm.FP.Core.b32 s (Jvm.FP.Core.b32.exps - 1) 0 % 2 ^ 32 % 2 ^ 31 ≤ _
    unfold Jvm.FP.Core.assemble
    rw [ht, he]
    cases s <;> decide
  | fin s c q =>
    obtain ⟨h1, h2⟩ := h
    have h1 : c < 2 ^ 24 := h1
    show (if c < Jvm.FP.Core.b32.tails then Jvm.FP.Core.assemble Jvm.FP.Core.b32 s 0 c else Jvm.FP.Core.assemble Jvm.FP.Core.b32 s ((q - Jvm.FP.Core.b32.qmin).toNat + 1) (c - Jvm.FP.Core.b32.tails)) % 2 ^ 32 % 2 ^ 31 ≤ _
    rw [hq] at h2
    generalize Jvm.FP.Core.b32.qmin = m at *
    unfold Jvm.FP.Core.assemble
    rw [ht, he]
    have hs : s.toNat = 0 ∨ s.toNat = 1 := by cases s <;> simp
    split
    · rcases hs with hs | hs <;> rw [hs] <;> omega
    · rcases hs with hs | hs <;> rw [hs] <;> omega
theorem dec64 {n : Nat} (h : n % 2 ^ 63 ≤ 0x7ff0000000000000) : Jvm.FP.Core.decode Jvm.FP.Core.b64 n ≠ .nan := by
  have ht : Jvm.FP.Core.b64.tails = 2 ^ 52 := by decide
  have he : Jvm.FP.Core.b64.exps = 2 ^ 11 := by decide
  unfold Jvm.FP.Core.decode Jvm.FP.Core.fieldE Jvm.FP.Core.fieldT
  rw [ht, he]
  split
  · rw [if_pos (by omega)]; intro q; cases q
  · split <;> (intro q; cases q)
theorem dec32 {n : Nat} (h : n % 2 ^ 31 ≤ 0x7f800000) : Jvm.FP.Core.decode Jvm.FP.Core.b32 n ≠ .nan := by
  have ht : Jvm.FP.Core.b32.tails = 2 ^ 23 := by decide
  have he : Jvm.FP.Core.b32.exps = 2 ^ 8 := by decide
  unfold Jvm.FP.Core.decode Jvm.FP.Core.fieldE Jvm.FP.Core.fieldT
  rw [ht, he]
  split
  · rw [if_pos (by omega)]; intro q; cases q
  · split <;> (intro q; cases q)
theorem n64_of {n : Nat} (h : n % 2 ^ 64 % 2 ^ 63 ≤ 0x7ff0000000000000) : vf_n64 (UInt64.ofNat n) := by
  unfold vf_n64
  rw [UInt64.le_iff_toNat_le, UInt64.toNat_and]
  show (n % 2 ^ 64) &&& (2 ^ 63 - 1) ≤ _
  rw [Nat.and_two_pow_sub_one_eq_mod]
  exact h
theorem n32_of {n : Nat} (h : n % 2 ^ 32 % 2 ^ 31 ≤ 0x7f800000) : vf_n32 (UInt32.ofNat n) := by
  unfold vf_n32
  rw [UInt32.le_iff_toNat_le, UInt32.toNat_and]
  show (n % 2 ^ 32) &&& (2 ^ 31 - 1) ≤ _
  rw [Nat.and_two_pow_sub_one_eq_mod]
  exact h
def dI (x : Int) : UInt64 := .ofNat (Jvm.FP.Core.fromInt Jvm.FP.Core.b64 x)
def fI (x : Int) : UInt32 := .ofNat (Jvm.FP.Core.fromInt Jvm.FP.Core.b32 x)
theorem dI_nn (x : Int) : Jvm.FP.Core.decode Jvm.FP.Core.b64 (dI x).toNat ≠ .nan := by
  apply dec64
  show Jvm.FP.Core.fromInt Jvm.FP.Core.b64 x % 2 ^ 64 % 2 ^ 63 ≤ _
  exact enc64 _ (okD_round _ (by decide) (by decide) _ (by intro q; cases q))
theorem fI_nn (x : Int) : Jvm.FP.Core.decode Jvm.FP.Core.b32 (fI x).toNat ≠ .nan := by
  apply dec32
  show Jvm.FP.Core.fromInt Jvm.FP.Core.b32 x % 2 ^ 32 % 2 ^ 31 ≤ _
  exact enc32 _ (okD_round _ (by decide) (by decide) _ (by intro q; cases q))
theorem dI_fin {y : Int} (h : 1 ≤ y ∧ y ≤ 12) : ∃ t c q, Jvm.FP.Core.decode Jvm.FP.Core.b64 (dI y).toNat = .fin t c q ∧ c ≠ 0 := by
  have h1 : y = 1 ∨ y = 2 ∨ y = 3 ∨ y = 4 ∨ y = 5 ∨ y = 6 ∨ y = 7 ∨ y = 8 ∨ y = 9 ∨ y = 10 ∨ y = 11 ∨ y = 12 := by omega
  rcases h1 with h1 | h1 | h1 | h1 | h1 | h1 | h1 | h1 | h1 | h1 | h1 | h1 <;> subst h1 <;> exact ⟨_, _, _, rfl, by decide⟩
theorem fI_fin {y : Int} (h : 1 ≤ y ∧ y ≤ 12) : ∃ t c q, Jvm.FP.Core.decode Jvm.FP.Core.b32 (fI y).toNat = .fin t c q ∧ c ≠ 0 := by
  have h1 : y = 1 ∨ y = 2 ∨ y = 3 ∨ y = 4 ∨ y = 5 ∨ y = 6 ∨ y = 7 ∨ y = 8 ∨ y = 9 ∨ y = 10 ∨ y = 11 ∨ y = 12 := by omega
  rcases h1 with h1 | h1 | h1 | h1 | h1 | h1 | h1 | h1 | h1 | h1 | h1 | h1 <;> subst h1 <;> exact ⟨_, _, _, rfl, by decide⟩
theorem ddiv_x (x : Int) {y : Int} (h : 1 ≤ y ∧ y ≤ 12) : Jvm.FP.Core.encode Jvm.FP.Core.b64 (Jvm.FP.Core.quotient Jvm.FP.Core.b64 (Jvm.FP.Core.decode Jvm.FP.Core.b64 (dI x).toNat) (Jvm.FP.Core.decode Jvm.FP.Core.b64 (dI y).toNat)) % 2 ^ 64 % 2 ^ 63 ≤ 0x7ff0000000000000 := by
  obtain ⟨t, c, q, h1, h2⟩ := dI_fin h
  rw [h1]
  exact enc64 _ (okD_quot _ (by decide) (by decide) _ (dI_nn x) t c q h2)
theorem ddiv_n (x : Int) {y : Int} (h : 1 ≤ y ∧ y ≤ 12) : vf_n64 (FP.ddiv (dI x) (dI y)) := n64_of (ddiv_x x h)
theorem fdiv_x (x : Int) {y : Int} (h : 1 ≤ y ∧ y ≤ 12) : Jvm.FP.Core.encode Jvm.FP.Core.b32 (Jvm.FP.Core.quotient Jvm.FP.Core.b32 (Jvm.FP.Core.decode Jvm.FP.Core.b32 (fI x).toNat) (Jvm.FP.Core.decode Jvm.FP.Core.b32 (fI y).toNat)) % 2 ^ 32 % 2 ^ 31 ≤ 0x7f800000 := by
  obtain ⟨t, c, q, h1, h2⟩ := fI_fin h
  rw [h1]
  exact enc32 _ (okD_quot _ (by decide) (by decide) _ (fI_nn x) t c q h2)
theorem fdiv_n (x : Int) {y : Int} (h : 1 ≤ y ∧ y ≤ 12) : vf_n32 (FP.fdiv (fI x) (fI y)) := n32_of (fdiv_x x h)
theorem f2d_n {r : UInt32} (h : r.toNat % 2 ^ 31 ≤ 0x7f800000) : vf_n64 (FP.f2d r) := by
  have h1 : Jvm.FP.Core.fIsNaN r = false := decide_eq_false (dec32 h)
  unfold FP.f2d
  rw [h1]
  show vf_n64 (UInt64.ofNat _)
  exact n64_of (enc64 _ (okD_round _ (by decide) (by decide) _ (dec32 h)))
theorem i2d_I {x : Int} (h : -2147483648 ≤ x ∧ x ≤ 2147483647) : FP.i2d (Int32.ofInt x) = dI x := by
  unfold FP.i2d Jvm.FP.Core.i2d dI; rw [k_t32 h]
theorem l2d_I {x : Int} (h : -9223372036854775808 ≤ x ∧ x ≤ 9223372036854775807) : FP.l2d (Int64.ofInt x) = dI x := by
  unfold FP.l2d Jvm.FP.Core.l2d dI; rw [k_t64 h]
theorem i2f_I {x : Int} (h : -2147483648 ≤ x ∧ x ≤ 2147483647) : FP.i2f (Int32.ofInt x) = fI x := by
  unfold FP.i2f Jvm.FP.Core.i2f fI; rw [k_t32 h]
theorem l2f_I {x : Int} (h : -9223372036854775808 ≤ x ∧ x ≤ 9223372036854775807) : FP.l2f (Int64.ofInt x) = fI x := by
  unfold FP.l2f Jvm.FP.Core.l2f fI; rw [k_t64 h]
section KLD
variable {p : Program} {l : Launch} {e : Env} {R : Room} {s : State} {m : MethodId} {args : Array Value} {below : List Frame} {meth : Method} {c : Code} {Q : State → Prop} {cc : ByteArray} {own : String} {nL d0 mc0 ms0 : Nat} {G : kG} {w : Nat → va_E} {fl : va_W} {cells slots pc : Nat} {lv : List (Nat × Value)} {st : List Value}
theorem k_dconst0 (hC : kC p l R s m args meth c cc own nL G d0 mc0 ms0) (d : decode cc pc = .ok (.dconst 0, 1)) (k : KW p l e R s m args below meth c nL G Q w fl cells slots (pc + 1) lv (.double 0 :: st)) : KW p l e R s m args below meth c nL G Q w fl cells slots pc lv st := fun H locs ls h1 h2 h3 h4 => lv_dconst0 hC.1 hC.2.1 d (k H locs ls h1 h2 h3 h4)
theorem k_fconst0 (hC : kC p l R s m args meth c cc own nL G d0 mc0 ms0) (d : decode cc pc = .ok (.fconst 0, 1)) (k : KW p l e R s m args below meth c nL G Q w fl cells slots (pc + 1) lv (.float 0 :: st)) : KW p l e R s m args below meth c nL G Q w fl cells slots pc lv st := fun H locs ls h1 h2 h3 h4 => lv_fconst0 hC.1 hC.2.1 d (k H locs ls h1 h2 h3 h4)
theorem k_i2d (hC : kC p l R s m args meth c cc own nL G d0 mc0 ms0) {x : Int} (d : decode cc pc = .ok (.i2d, 1)) (hx : -2147483648 ≤ x ∧ x ≤ 2147483647) (k : KW p l e R s m args below meth c nL G Q w fl cells slots (pc + 1) lv (.double (dI x) :: st)) : KW p l e R s m args below meth c nL G Q w fl cells slots pc lv (vI x :: st) := fun H locs ls h1 h2 h3 h4 => lv_i2d hC.1 hC.2.1 d (by rw [i2d_I hx]; exact k H locs ls h1 h2 h3 h4)
theorem k_l2d (hC : kC p l R s m args meth c cc own nL G d0 mc0 ms0) {x : Int} (d : decode cc pc = .ok (.l2d, 1)) (hx : -9223372036854775808 ≤ x ∧ x ≤ 9223372036854775807) (k : KW p l e R s m args below meth c nL G Q w fl cells slots (pc + 1) lv (.double (dI x) :: st)) : KW p l e R s m args below meth c nL G Q w fl cells slots pc lv (vL x :: st) := fun H locs ls h1 h2 h3 h4 => lv_l2d hC.1 hC.2.1 d (by rw [l2d_I hx]; exact k H locs ls h1 h2 h3 h4)
theorem k_i2f (hC : kC p l R s m args meth c cc own nL G d0 mc0 ms0) {x : Int} (d : decode cc pc = .ok (.i2f, 1)) (hx : -2147483648 ≤ x ∧ x ≤ 2147483647) (k : KW p l e R s m args below meth c nL G Q w fl cells slots (pc + 1) lv (.float (fI x) :: st)) : KW p l e R s m args below meth c nL G Q w fl cells slots pc lv (vI x :: st) := fun H locs ls h1 h2 h3 h4 => lv_i2f hC.1 hC.2.1 d (by rw [i2f_I hx]; exact k H locs ls h1 h2 h3 h4)
theorem k_l2f (hC : kC p l R s m args meth c cc own nL G d0 mc0 ms0) {x : Int} (d : decode cc pc = .ok (.l2f, 1)) (hx : -9223372036854775808 ≤ x ∧ x ≤ 9223372036854775807) (k : KW p l e R s m args below meth c nL G Q w fl cells slots (pc + 1) lv (.float (fI x) :: st)) : KW p l e R s m args below meth c nL G Q w fl cells slots pc lv (vL x :: st) := fun H locs ls h1 h2 h3 h4 => lv_l2f hC.1 hC.2.1 d (by rw [l2f_I hx]; exact k H locs ls h1 h2 h3 h4)
theorem k_ddiv (hC : kC p l R s m args meth c cc own nL G d0 mc0 ms0) {x y : UInt64} (d : decode cc pc = .ok (.ddiv, 1)) (hn : vf_n64 (FP.ddiv x y)) (k : KW p l e R s m args below meth c nL G Q w fl cells slots (pc + 1) lv (.double (FP.ddiv x y) :: st)) : KW p l e R s m args below meth c nL G Q w fl cells slots pc lv (.double y :: .double x :: st) := fun H locs ls h1 h2 h3 h4 => lv_ddiv hC.1 hC.2.1 d hn (k H locs ls h1 h2 h3 h4)
theorem k_fdiv (hC : kC p l R s m args meth c cc own nL G d0 mc0 ms0) {x y : UInt32} (d : decode cc pc = .ok (.fdiv, 1)) (hn : vf_n32 (FP.fdiv x y)) (k : KW p l e R s m args below meth c nL G Q w fl cells slots (pc + 1) lv (.float (FP.fdiv x y) :: st)) : KW p l e R s m args below meth c nL G Q w fl cells slots pc lv (.float y :: .float x :: st) := fun H locs ls h1 h2 h3 h4 => lv_fdiv hC.1 hC.2.1 d hn (k H locs ls h1 h2 h3 h4)
end KLD
theorem k_bI2 (P : Prop) [Decidable P] : ((if P then (1 : Int) else 0) = 1 ∧ P) ∨ ((if P then (1 : Int) else 0) = 0 ∧ ¬ P) := by
  by_cases h : P
  · exact Or.inl ⟨if_pos h, h⟩
  · exact Or.inr ⟨if_neg h, h⟩
set_option maxRecDepth 100000 in
set_option maxHeartbeats 4000000 in
theorem c_X11_drawHat (l : Launch) (hls : l.stackTraces = false) (G : kG) (hN : 133 ≤ kN G) (w : Nat → va_E) (fl : va_W) (g nl : Nat → Int) (sv : Int) (i j k : Nat) (T : Int) (hijk : (i : Int) < g 2 ∧ (j : Int) < g 2 ∧ (k : Int) < g 2) (ht : 0 ≤ T ∧ T ≤ 5000) (hI : Inv g) (h00 : w 0 = srO G sv) (hL : kLog G w 3 g) (hP : kPlan G w 32 g nl) (hCt : kCht G w) : KM l G yX11_drawHat cX11_drawHat 5 (none) 6 0 0 [.ref (kad G 0), vI (i : Int), vI (j : Int), vI (k : Int), vI T] w fl (kMuv fl (fun w1 => (∃ z : Int, w1 16 = hatO G z ∧ ((z = 1 ∧ hatP g i j k) ∨ (z = 0 ∧ ¬ hatP g i j k))) ∧ (hatP g i j k → w1 17 = .inr (5, [vI 1, vI (cE g i j T), vI (cN g i j T)]) ∧ w1 18 = .inr (5, [vI 1, vI (cE g i k T), vI (cN g i k T)]) ∧ w1 19 = .inr (5, [vI 1, vI (cE g j k T), vI (cN g j k T)])) ∧ kCP G w w1)) := by
  refine KM_of2 hls (by decide +kernel) rfl (lv0 := [(0, .ref (kad G 0)), (1, vI (i : Int)), (2, vI (j : Int)), (3, vI (k : Int)), (4, vI T)]) rfl (Nat.le_of_ble_eq_true rfl) (fun p e R s m args below meth c Q hC hr hQ => ?_)
  obtain ⟨⟨h10, h11⟩, hLn, hSh, hH, h14, h15⟩ := hCt
  have h0 := hI.c
  refine k_aload_n hC dX11_drawHat_0 rfl 0 rfl ?_
  refine k_get hC fd_X11_43 (kl hN (by decide)) h00 rfl dX11_drawHat_1 ?_
  refine k_aload_n hC dX11_drawHat_4 rfl 0 rfl ?_
  refine k_get hC fd_X11_25 (kl hN (by decide)) h00 rfl dX11_drawHat_5 ?_
  refine k_aload_n hC dX11_drawHat_8 rfl 0 rfl ?_
  refine k_get hC fd_X11_29 (kl hN (by decide)) h00 rfl dX11_drawHat_9 ?_
  refine k_iload_n hC dX11_drawHat_12 rfl 1 rfl ?_
  refine k_iload hC dX11_drawHat_13 4 rfl ?_
  refine k_muvV hC (c_X0_drawLine l hls G hN w fl g nl i T (by omega) hI (by omega) hL hP h10 h11 hLn hSh) yy_X0_drawLine wm_X11_253 (kl hN (by decide)) h10 rfl rfl rfl rfl (Nat.le_of_ble_eq_true rfl) (by decide) (by decide) ⟨by decide, by decide⟩ dX11_drawHat_15 (fun w1 hp1 => ?_)
  obtain ⟨hs1, ⟨la1, lo1, hq1⟩, hf1⟩ := hp1
  have hLn1 : kLines w1 := hLn.put (fun j q1 q2 q3 => hf1 j (by omega)) hs1
  refine k_aload_n hC dX11_drawHat_18 rfl 0 rfl ?_
  have h_2 : w1 0 = .inr (11, [.ref (kad G 1), .ref (kad G 32), .ref (kad G 3), .ref (kad G 37), vI sv, .ref (kad G 44), .ref (kad G 10), .ref (kad G 116), .ref (kad G 129), .ref (kad G 132)]) := (hf1 0 (by omega)).trans h00
  refine k_get hC fd_X11_43 (kl hN (by decide)) h_2 rfl dX11_drawHat_19 ?_
  refine k_aload_n hC dX11_drawHat_22 rfl 0 rfl ?_
  refine k_get hC fd_X11_25 (kl hN (by decide)) h_2 rfl dX11_drawHat_23 ?_
  refine k_aload_n hC dX11_drawHat_26 rfl 0 rfl ?_
  refine k_get hC fd_X11_29 (kl hN (by decide)) h_2 rfl dX11_drawHat_27 ?_
  refine k_iload_n hC dX11_drawHat_30 rfl 2 rfl ?_
  refine k_iload hC dX11_drawHat_31 4 rfl ?_
  have hB_3 : kLog G w1 3 g := hL.fr (fun j q1 q2 => (hf1 j (by omega)))
  have hB_4 : kPlan G w1 32 g nl := hP.fr (fun j q1 q2 => (hf1 j (by omega)))
  have h_5 : w1 10 = .inr (0, [.ref (kad G 11), .ref (kad G 12), .ref (kad G 13), .ref (kad G 14), .ref (kad G 15), .ref (kad G 16)]) := (hf1 10 (by omega)).trans h10
  have h_6 : w1 11 = rA G 4 12 (fun j => some (kad G (20 + j))) := (hf1 11 (by omega)).trans h11
  refine k_muvV hC (c_X0_drawLine l hls G hN w1 fl g nl j T (by omega) hI (by omega) hB_3 hB_4 h_5 h_6 hLn1 ⟨_, _, _, _, hq1⟩) yy_X0_drawLine wm_X11_253 (kl hN (by decide)) h_5 rfl rfl rfl rfl (Nat.le_of_ble_eq_true rfl) (by decide) (by decide) ⟨by decide, by decide⟩ dX11_drawHat_33 (fun w7 hp7 => ?_)
  obtain ⟨hs7, ⟨la7, lo7, hq7⟩, hf7⟩ := hp7
  have hLn7 : kLines w7 := hLn1.put (fun j q1 q2 q3 => hf7 j (by omega)) hs7
  have hov_8 : w7 (20 + i) = .inr (3, [vI (apM g i), vI (obsM g i), vI (expM g i), vI (aziM g i), vI (intM g i), vI (offM g i), vI (carM g i T), vI (sinM (aziM g i)), vI (cosM (aziM g i))]) := by
    rcases Decidable.em (i = j) with q | q
    · rw [q]; exact hs7
    · exact (hf7 (20 + i) (by omega)).trans hs1
  refine k_aload_n hC dX11_drawHat_36 rfl 0 rfl ?_
  have h_9 : w7 0 = .inr (11, [.ref (kad G 1), .ref (kad G 32), .ref (kad G 3), .ref (kad G 37), vI sv, .ref (kad G 44), .ref (kad G 10), .ref (kad G 116), .ref (kad G 129), .ref (kad G 132)]) := (hf7 0 (by omega)).trans h_2
  refine k_get hC fd_X11_43 (kl hN (by decide)) h_9 rfl dX11_drawHat_37 ?_
  refine k_aload_n hC dX11_drawHat_40 rfl 0 rfl ?_
  refine k_get hC fd_X11_25 (kl hN (by decide)) h_9 rfl dX11_drawHat_41 ?_
  refine k_aload_n hC dX11_drawHat_44 rfl 0 rfl ?_
  refine k_get hC fd_X11_29 (kl hN (by decide)) h_9 rfl dX11_drawHat_45 ?_
  refine k_iload_n hC dX11_drawHat_48 rfl 3 rfl ?_
  refine k_iload hC dX11_drawHat_49 4 rfl ?_
  have hB_10 : kLog G w7 3 g := hB_3.fr (fun j q1 q2 => (hf7 j (by omega)))
  have hB_11 : kPlan G w7 32 g nl := hB_4.fr (fun j q1 q2 => (hf7 j (by omega)))
  have h_12 : w7 10 = .inr (0, [.ref (kad G 11), .ref (kad G 12), .ref (kad G 13), .ref (kad G 14), .ref (kad G 15), .ref (kad G 16)]) := (hf7 10 (by omega)).trans h_5
  have h_13 : w7 11 = rA G 4 12 (fun j => some (kad G (20 + j))) := (hf7 11 (by omega)).trans h_6
  refine k_muvV hC (c_X0_drawLine l hls G hN w7 fl g nl k T (by omega) hI (by omega) hB_10 hB_11 h_12 h_13 hLn7 ⟨_, _, _, _, hq7⟩) yy_X0_drawLine wm_X11_253 (kl hN (by decide)) h_12 rfl rfl rfl rfl (Nat.le_of_ble_eq_true rfl) (by decide) (by decide) ⟨by decide, by decide⟩ dX11_drawHat_51 (fun w14 hp14 => ?_)
  obtain ⟨hs14, ⟨la14, lo14, hq14⟩, hf14⟩ := hp14
  have hLn14 : kLines w14 := hLn7.put (fun j q1 q2 q3 => hf14 j (by omega)) hs14
  have hov_15 : w14 (20 + i) = .inr (3, [vI (apM g i), vI (obsM g i), vI (expM g i), vI (aziM g i), vI (intM g i), vI (offM g i), vI (carM g i T), vI (sinM (aziM g i)), vI (cosM (aziM g i))]) := by
    rcases Decidable.em (i = k) with q | q
    · rw [q]; exact hs14
    · exact (hf14 (20 + i) (by omega)).trans hov_8
  have hov_16 : w14 (20 + j) = .inr (3, [vI (apM g j), vI (obsM g j), vI (expM g j), vI (aziM g j), vI (intM g j), vI (offM g j), vI (carM g j T), vI (sinM (aziM g j)), vI (cosM (aziM g j))]) := by
    rcases Decidable.em (j = k) with q | q
    · rw [q]; exact hs14
    · exact (hf14 (20 + j) (by omega)).trans hs7
  have hci := carM_b hI i (by omega) ht
  have hsi := sinM_b (aziM g i)
  have hoi := cosM_b (aziM g i)
  have hcj := carM_b hI j (by omega) ht
  have hsj := sinM_b (aziM g j)
  have hoj := cosM_b (aziM g j)
  have hck := carM_b hI k (by omega) ht
  have hsk := sinM_b (aziM g k)
  have hok := cosM_b (aziM g k)
  refine k_aload_n hC dX11_drawHat_54 rfl 0 rfl ?_
  have h_17 : w14 0 = .inr (11, [.ref (kad G 1), .ref (kad G 32), .ref (kad G 3), .ref (kad G 37), vI sv, .ref (kad G 44), .ref (kad G 10), .ref (kad G 116), .ref (kad G 129), .ref (kad G 132)]) := (hf14 0 (by omega)).trans h_9
  refine k_get hC fd_X11_43 (kl hN (by decide)) h_17 rfl dX11_drawHat_55 ?_
  have h_18 : w14 10 = .inr (0, [.ref (kad G 11), .ref (kad G 12), .ref (kad G 13), .ref (kad G 14), .ref (kad G 15), .ref (kad G 16)]) := (hf14 10 (by omega)).trans h_12
  refine k_get hC fd_X11_320 (kl hN (by decide)) h_18 rfl dX11_drawHat_58 ?_
  refine k_aload_n hC dX11_drawHat_61 rfl 0 rfl ?_
  refine k_get hC fd_X11_43 (kl hN (by decide)) h_17 rfl dX11_drawHat_62 ?_
  refine k_iload_n hC dX11_drawHat_65 rfl 1 rfl ?_
  have h_19 : w14 11 = rA G 4 12 (fun j => some (kad G (20 + j))) := (hf14 11 (by omega)).trans h_13
  refine k_pureV hC (c_X0_lineOf l hls G hN w14 fl i (by omega) h_18 h_19) yy_X0_lineOf wm_X11_257 (kl hN (by decide)) h_18 rfl rfl rfl rfl (Nat.le_of_ble_eq_true rfl) (by decide) (by decide) ⟨by decide, by decide⟩ dX11_drawHat_66 ?_
  refine k_aload_n hC dX11_drawHat_69 rfl 0 rfl ?_
  refine k_get hC fd_X11_43 (kl hN (by decide)) h_17 rfl dX11_drawHat_70 ?_
  refine k_iload_n hC dX11_drawHat_73 rfl 2 rfl ?_
  refine k_pureV hC (c_X0_lineOf l hls G hN w14 fl j (by omega) h_18 h_19) yy_X0_lineOf wm_X11_257 (kl hN (by decide)) h_18 rfl rfl rfl rfl (Nat.le_of_ble_eq_true rfl) (by decide) (by decide) ⟨by decide, by decide⟩ dX11_drawHat_74 ?_
  refine k_aload_n hC dX11_drawHat_77 rfl 0 rfl ?_
  refine k_get hC fd_X11_43 (kl hN (by decide)) h_17 rfl dX11_drawHat_78 ?_
  refine k_iload_n hC dX11_drawHat_81 rfl 3 rfl ?_
  refine k_pureV hC (c_X0_lineOf l hls G hN w14 fl k (by omega) h_18 h_19) yy_X0_lineOf wm_X11_257 (kl hN (by decide)) h_18 rfl rfl rfl rfl (Nat.le_of_ble_eq_true rfl) (by decide) (by decide) ⟨by decide, by decide⟩ dX11_drawHat_82 ?_
  have hB_21 : kHat G w14 := hH.fr (fun j q1 q2 => (hf14 j (by omega)).trans ((hf7 j (by omega)).trans (hf1 j (by omega))))
  obtain ⟨hzt_20, p0t_20, px0t_20, py0t_20, p1t_20, px1t_20, py1t_20, p2t_20, px2t_20, py2t_20, hh16t_20, hh17t_20, hh18t_20, hh19t_20⟩ := hB_21
  refine k_muvV hC (c_X1_span l hls G hN w14 fl (20 + i) (20 + j) (20 + k) hzt_20 p0t_20 px0t_20 py0t_20 p1t_20 px1t_20 py1t_20 p2t_20 px2t_20 py2t_20 (apM g i) (obsM g i) (expM g i) (aziM g i) (intM g i) (offM g i) (carM g i T) (sinM (aziM g i)) (cosM (aziM g i)) (apM g j) (obsM g j) (expM g j) (aziM g j) (intM g j) (offM g j) (carM g j T) (sinM (aziM g j)) (cosM (aziM g j)) (apM g k) (obsM g k) (expM g k) (aziM g k) (intM g k) (offM g k) (carM g k T) (sinM (aziM g k)) (cosM (aziM g k)) (by omega) (by omega) (by omega) (by omega) (by omega) (by omega) (by omega) (by omega) (by omega) (by omega) (by omega) (by omega) hh16t_20 hh17t_20 hh18t_20 hh19t_20 hov_15 hov_16 hs14) yy_X1_span wm_X11_440 (kl hN (by decide)) hh16t_20 rfl rfl rfl rfl (Nat.le_of_ble_eq_true rfl) (by decide) (by decide) ⟨by decide, by decide⟩ dX11_drawHat_85 (fun w22 hp22 => ?_)
  obtain ⟨hs22a, hs22b, hs22c, hs22d, hf22⟩ := hp22
  have h_23 : w22 13 = .inr (8, [vI (dispM g T false), vI (dispM g T true), vI la14, vI lo14]) := (hf22 13 (by decide)).trans hq14
  have hB_24 : kPl14 w22 := h14.fr (fun j q1 q2 => (hf22 j (by omega)).trans ((hf14 j (by omega)).trans ((hf7 j (by omega)).trans (hf1 j (by omega)))))
  have hB_25 : kPl15 w22 := h15.fr (fun j q1 q2 => (hf22 j (by omega)).trans ((hf14 j (by omega)).trans ((hf7 j (by omega)).trans (hf1 j (by omega)))))
  have h_26 : w22 10 = .inr (0, [.ref (kad G 11), .ref (kad G 12), .ref (kad G 13), .ref (kad G 14), .ref (kad G 15), .ref (kad G 16)]) := (hf22 10 (by decide)).trans h_18
  have h_27 : w22 11 = rA G 4 12 (fun j => some (kad G (20 + j))) := (hf22 11 (by decide)).trans h_19
  have hB_28 : kLines w22 := hLn14.fr (fun j q1 q2 => (hf22 j (by omega)))
  subst hQ
  exact k_vret hC hr ⟨by decide, by decide⟩ (⟨rfl, rfl, ⟨_, hs22a, by first | exact k_bI2 _⟩, fun hok => ⟨by rw [hs22b]; unfold plO; rw [if_pos hok.1, if_pos hok.1, if_pos hok.1]; rfl, by rw [hs22c]; unfold plO; rw [if_pos hok.2.1, if_pos hok.2.1, if_pos hok.2.1]; rfl, by rw [hs22d]; unfold plO; rw [if_pos hok.2.2, if_pos hok.2.2, if_pos hok.2.2]; rfl⟩, ⟨⟨⟨h_26, h_27⟩, hB_28, ⟨_, _, _, _, h_23⟩, ⟨_, _, _, _, _, _, _, _, _, _, hs22a, hs22b, hs22c, hs22d⟩, hB_24, hB_25⟩, fun j hj => (hf22 j (by omega)).trans ((hf14 j (by omega)).trans ((hf7 j (by omega)).trans (hf1 j (by omega))))⟩⟩) dX11_drawHat_88

set_option maxRecDepth 100000 in
set_option maxHeartbeats 4000000 in
theorem c_X11_hat (l : Launch) (hls : l.stackTraces = false) (G : kG) (hN : 133 ≤ kN G) (w : Nat → va_E) (fl : va_W) (g nl : Nat → Int) (sv : Int) (i j k T q : Int) (hi : -2147483648 ≤ i ∧ i ≤ 2147483647) (hj : -2147483648 ≤ j ∧ j ≤ 2147483647) (hk : -2147483648 ≤ k ∧ k ≤ 2147483647) (hT : -2147483648 ≤ T ∧ T ≤ 2147483647) (hq : -2147483648 ≤ q ∧ q ≤ 2147483647) (hI : Inv g) (h00 : w 0 = srO G sv) (hL : kLog G w 3 g) (hP : kPlan G w 32 g nl) (hCt : kCht G w) : KX l G yX11_hat cX11_hat 6 (some (FieldType.int)) 10 8 48 [.ref (kad G 0), vI i, vI j, vI k, vI T, vI q] w fl (kOk ((((0 ≤ i ∧ i < g 2) ∧ (0 ≤ j ∧ j < g 2) ∧ (0 ≤ k ∧ k < g 2)) ∧ (0 ≤ T ∧ T ≤ 5000)) ∧ (0 ≤ q ∧ q ≤ 2)) (vI (hatV g i.toNat j.toNat k.toNat T q)) fl (kCP G w)) (kTh (¬ ((0 ≤ i ∧ i < g 2) ∧ (0 ≤ j ∧ j < g 2) ∧ (0 ≤ k ∧ k < g 2))) (((0 ≤ i ∧ i < g 2) ∧ (0 ≤ j ∧ j < g 2) ∧ (0 ≤ k ∧ k < g 2)) ∧ ¬ ((0 ≤ T ∧ T ≤ 5000) ∧ (0 ≤ q ∧ q ≤ 2))) fl (kCP G w)) := by
  refine KX_of2 hls (by decide +kernel) rfl (lv0 := [(0, .ref (kad G 0)), (1, vI i), (2, vI j), (3, vI k), (4, vI T), (5, vI q)]) rfl (Nat.le_of_ble_eq_true rfl) (fun p e R s m args below meth c Q hC hr htb hQ => ?_)
  subst hQ
  obtain ⟨⟨h10, h11⟩, hLn, hSh, hH, h14, h15⟩ := hCt
  have h0 := hI.c
  refine k_aload_n hC dX11_hat_0 rfl 0 rfl ?_
  refine k_iload_n hC dX11_hat_1 rfl 1 rfl ?_
  refine k_iload_n hC dX11_hat_2 rfl 2 rfl ?_
  refine k_iload_n hC dX11_hat_3 rfl 3 rfl ?_
  refine k_callVX hC (c_X11_needThreeSights l hls G hN w fl g sv i j k (by omega) (by omega) (by omega) hI h00 hL) yy_X11_needThreeSights wm_X11_310 (kl hN (by decide)) h00 rfl rfl rfl rfl (Nat.le_of_ble_eq_true rfl) (by decide) (by decide) ⟨by decide, by decide⟩ dX11_hat_4 htb ⟨by decide, by decide⟩ (fun E1 w9 fl9 hx1 => by obtain ⟨q1, q2, q3, q4⟩ := hx1; subst q1; subst q3; subst q4; exact ⟨Or.inl ⟨rfl, by omega⟩, rfl, ⟨⟨⟨h10, h11⟩, hLn, hSh, hH, h14, h15⟩, fun j hj => rfl⟩⟩) (fun v9 w9 fl9 hp1 => ?_)
  obtain ⟨hc4_1, q1, q2, q3⟩ := hp1; subst q1; subst q2; subst q3
  refine k_iload hC dX11_hat_7 4 rfl ?_
  refine k_callSX hC (c_X11_needTime l hls G hN w fl T (by omega)) yy_X11_needTime wm_X11_226 rfl rfl (Nat.le_of_ble_eq_true rfl) (by decide) (by decide) ⟨by decide, by decide⟩ dX11_hat_9 htb ⟨by decide, by decide⟩ (fun E1 w9 fl9 hx2 => by obtain ⟨q1, q2, q3, q4⟩ := hx2; subst q1; subst q3; subst q4; exact ⟨Or.inr ⟨rfl, by omega⟩, rfl, ⟨⟨⟨h10, h11⟩, hLn, hSh, hH, h14, h15⟩, fun j hj => rfl⟩⟩) (fun v9 w9 fl9 hp2 => ?_)
  obtain ⟨hc9_2, q1, q2, q3⟩ := hp2; subst q1; subst q2; subst q3
  obtain ⟨i1, ei1⟩ : ∃ zz : Nat, i = (zz : Int) := ⟨i.toNat, by omega⟩
  subst ei1
  obtain ⟨j1, ej1⟩ : ∃ zz : Nat, j = (zz : Int) := ⟨j.toNat, by omega⟩
  subst ej1
  obtain ⟨k1, ek1⟩ : ∃ zz : Nat, k = (zz : Int) := ⟨k.toNat, by omega⟩
  subst ek1
  refine k_iload hC dX11_hat_12 5 rfl ?_
  refine k_if_lt hC 23 dX11_hat_14 rfl (by omega) (fun c_14 => ?_) (fun c_14 => ?_)
  · exact k_thrIW hC htb (List.mem_of_getElem? (i := 17) rfl) (by decide) ⟨by decide, by decide⟩ (Nat.le_of_ble_eq_true rfl) dX11_hat_23 dX11_hat_26 dX11_hat_27 dX11_hat_30 dX11_hat_33 (⟨Or.inr ⟨rfl, by omega⟩, rfl, ⟨⟨⟨h10, h11⟩, hLn, hSh, hH, h14, h15⟩, fun j hj => rfl⟩⟩)
  · refine k_iload hC dX11_hat_17 5 rfl ?_
    refine k_iconst hC dX11_hat_19 ?_
    refine k_icmp_le hC 34 dX11_hat_20 rfl (by omega) (by omega) (fun c_20 => ?_) (fun c_20 => ?_)
    · refine k_aload_n hC dX11_hat_34 rfl 0 rfl ?_
      refine k_iload_n hC dX11_hat_35 rfl 1 rfl ?_
      refine k_iload_n hC dX11_hat_36 rfl 2 rfl ?_
      refine k_iload_n hC dX11_hat_37 rfl 3 rfl ?_
      refine k_iload hC dX11_hat_38 4 rfl ?_
      refine k_muvV hC (c_X11_drawHat l hls G hN w fl g nl sv i1 j1 k1 T (by omega) (by omega) hI h00 hL hP ⟨⟨h10, h11⟩, hLn, hSh, hH, h14, h15⟩) yy_X11_drawHat wm_X11_316 (kl hN (by decide)) h00 rfl rfl rfl rfl (Nat.le_of_ble_eq_true rfl) (by decide) (by decide) ⟨by decide, by decide⟩ dX11_hat_40 (fun w3 hp3 => ?_)
      obtain ⟨⟨hz, hs16_3, hzz⟩, hpl, hct3, hf3⟩ := hp3
      obtain ⟨⟨h10k_4, h11k_4⟩, hLnk_4, hShk_4, hHk_4, h14k_4, h15k_4⟩ := hct3
      refine k_aload_n hC dX11_hat_43 rfl 0 rfl ?_
      have h_5 : w3 0 = .inr (11, [.ref (kad G 1), .ref (kad G 32), .ref (kad G 3), .ref (kad G 37), vI sv, .ref (kad G 44), .ref (kad G 10), .ref (kad G 116), .ref (kad G 129), .ref (kad G 132)]) := (hf3 0 (by omega)).trans h00
      refine k_get hC fd_X11_43 (kl hN (by decide)) h_5 rfl dX11_hat_44 ?_
      refine k_get hC fd_X11_320 (kl hN (by decide)) h10k_4 rfl dX11_hat_47 ?_
      refine k_get hC fd_X11_324 (kl hN (by decide)) hs16_3 rfl dX11_hat_50 ?_
      refine k_if_ne hC 59 dX11_hat_53 rfl (by omega) (fun c_53 => ?_) (fun c_53 => ?_)
      · have hok := (hzz.resolve_right (fun q1 => by omega)).2
        have hp3 := hpl hok
        have hcE17 := cE_b g i1 j1 T
        have hcN17 := cN_b g i1 j1 T
        have hcE18 := cE_b g i1 k1 T
        have hcN18 := cN_b g i1 k1 T
        have hcE19 := cE_b g j1 k1 T
        have hcN19 := cN_b g j1 k1 T
        refine k_iload hC dX11_hat_59 5 rfl ?_
        refine k_if_ne hC 75 dX11_hat_61 rfl (by omega) (fun c_61 => ?_) (fun c_61 => ?_)
        · refine k_iload hC dX11_hat_75 5 rfl ?_
          refine k_iconst hC dX11_hat_77 ?_
          refine k_icmp_ne hC 94 dX11_hat_78 rfl (by omega) (by omega) (fun c_78 => ?_) (fun c_78 => ?_)
          · refine k_aload_n hC dX11_hat_94 rfl 0 rfl ?_
            refine k_get hC fd_X11_43 (kl hN (by decide)) h_5 rfl dX11_hat_95 ?_
            refine k_get hC fd_X11_320 (kl hN (by decide)) h10k_4 rfl dX11_hat_98 ?_
            refine k_pureV hC (c_X1_middleNorth l hls G hN w3 fl hz 1 (cE g i1 j1 T) (cN g i1 j1 T) 1 (cE g i1 k1 T) (cN g i1 k1 T) 1 (cE g j1 k1 T) (cN g j1 k1 T) (by omega) (by omega) (by omega) (by omega) (by omega) (by omega) hs16_3 hp3.1 hp3.2.1 hp3.2.2) yy_X1_middleNorth wm_X11_334 (kl hN (by decide)) hs16_3 rfl rfl rfl rfl (Nat.le_of_ble_eq_true rfl) (by decide) (by decide) ⟨by decide, by decide⟩ dX11_hat_101 ?_
            exact k_iretX hC hr ⟨by decide, by decide⟩ (⟨(by omega), congrArg (fun z => some (vI z)) (show ((hatV g i1 j1 k1 T q : _) = (cN g i1 j1 T + cN g i1 k1 T + cN g j1 k1 T) / 3) from (by unfold hatV; rw [selI_1 hok]; first | exact if_pos (by omega) | (rw [if_neg (by omega)]; first | exact if_pos (by omega) | exact if_neg (by omega)))), rfl, ⟨⟨⟨h10k_4, h11k_4⟩, hLnk_4, hShk_4, hHk_4, h14k_4, h15k_4⟩, fun j hj => hf3 j (by omega)⟩⟩) dX11_hat_104
          · refine k_aload_n hC dX11_hat_81 rfl 0 rfl ?_
            refine k_get hC fd_X11_43 (kl hN (by decide)) h_5 rfl dX11_hat_82 ?_
            refine k_get hC fd_X11_320 (kl hN (by decide)) h10k_4 rfl dX11_hat_85 ?_
            refine k_pureV hC (c_X1_middleEast l hls G hN w3 fl hz 1 (cE g i1 j1 T) (cN g i1 j1 T) 1 (cE g i1 k1 T) (cN g i1 k1 T) 1 (cE g j1 k1 T) (cN g j1 k1 T) (by omega) (by omega) (by omega) (by omega) (by omega) (by omega) hs16_3 hp3.1 hp3.2.1 hp3.2.2) yy_X1_middleEast wm_X11_331 (kl hN (by decide)) hs16_3 rfl rfl rfl rfl (Nat.le_of_ble_eq_true rfl) (by decide) (by decide) ⟨by decide, by decide⟩ dX11_hat_88 ?_
            refine k_goto hC 104 dX11_hat_91 rfl ?_
            exact k_iretX hC hr ⟨by decide, by decide⟩ (⟨(by omega), congrArg (fun z => some (vI z)) (show ((hatV g i1 j1 k1 T q : _) = (cE g i1 j1 T + cE g i1 k1 T + cE g j1 k1 T) / 3) from (by unfold hatV; rw [selI_1 hok]; first | exact if_pos (by omega) | (rw [if_neg (by omega)]; first | exact if_pos (by omega) | exact if_neg (by omega)))), rfl, ⟨⟨⟨h10k_4, h11k_4⟩, hLnk_4, hShk_4, hHk_4, h14k_4, h15k_4⟩, fun j hj => hf3 j (by omega)⟩⟩) dX11_hat_104
        · refine k_aload_n hC dX11_hat_64 rfl 0 rfl ?_
          refine k_get hC fd_X11_43 (kl hN (by decide)) h_5 rfl dX11_hat_65 ?_
          refine k_get hC fd_X11_320 (kl hN (by decide)) h10k_4 rfl dX11_hat_68 ?_
          refine k_pureV hC (c_X1_squareMiles l hls G hN w3 fl hz 1 (cE g i1 j1 T) (cN g i1 j1 T) 1 (cE g i1 k1 T) (cN g i1 k1 T) 1 (cE g j1 k1 T) (cN g j1 k1 T) (by omega) (by omega) (by omega) (by omega) (by omega) (by omega) hs16_3 hp3.1 hp3.2.1 hp3.2.2) yy_X1_squareMiles wm_X11_327 (kl hN (by decide)) hs16_3 rfl rfl rfl rfl (Nat.le_of_ble_eq_true rfl) (by decide) (by decide) ⟨by decide, by decide⟩ dX11_hat_71 ?_
          exact k_iretX hC hr ⟨by decide, by decide⟩ (⟨(by omega), congrArg (fun z => some (vI z)) (show ((hatV g i1 j1 k1 T q : _) = areaM (cE g i1 j1 T) (cN g i1 j1 T) (cE g i1 k1 T) (cN g i1 k1 T) (cE g j1 k1 T) (cN g j1 k1 T)) from (by unfold hatV; rw [selI_1 hok]; first | exact if_pos (by omega) | (rw [if_neg (by omega)]; first | exact if_pos (by omega) | exact if_neg (by omega)))), rfl, ⟨⟨⟨h10k_4, h11k_4⟩, hLnk_4, hShk_4, hHk_4, h14k_4, h15k_4⟩, fun j hj => hf3 j (by omega)⟩⟩) dX11_hat_74
      · have nok := (hzz.resolve_left (fun q1 => by omega)).2
        refine k_ldc hC (x := (-1000000000)) (v := (-1000000000)) dX11_hat_56 (by decide) wk_X11_143 ?_
        exact k_iretX hC hr ⟨by decide, by decide⟩ (⟨(by omega), congrArg (fun z => some (vI z)) (show ((hatV g i1 j1 k1 T q : _) = -1000000000) from (by unfold hatV; exact selI_0 nok)), rfl, ⟨⟨⟨h10k_4, h11k_4⟩, hLnk_4, hShk_4, hHk_4, h14k_4, h15k_4⟩, fun j hj => hf3 j (by omega)⟩⟩) dX11_hat_58
    · exact k_thrIW hC htb (List.mem_of_getElem? (i := 17) rfl) (by decide) ⟨by decide, by decide⟩ (Nat.le_of_ble_eq_true rfl) dX11_hat_23 dX11_hat_26 dX11_hat_27 dX11_hat_30 dX11_hat_33 (⟨Or.inr ⟨rfl, by omega⟩, rfl, ⟨⟨⟨h10, h11⟩, hLn, hSh, hH, h14, h15⟩, fun j hj => rfl⟩⟩)

set_option maxRecDepth 100000 in
set_option maxHeartbeats 4000000 in
theorem c_X11_isInside (l : Launch) (hls : l.stackTraces = false) (G : kG) (hN : 133 ≤ kN G) (w : Nat → va_E) (fl : va_W) (g nl : Nat → Int) (sv : Int) (i j k T x y : Int) (hi : -2147483648 ≤ i ∧ i ≤ 2147483647) (hj : -2147483648 ≤ j ∧ j ≤ 2147483647) (hk : -2147483648 ≤ k ∧ k ≤ 2147483647) (hT : -2147483648 ≤ T ∧ T ≤ 2147483647) (hx : -2147483648 ≤ x ∧ x ≤ 2147483647) (hy : -2147483648 ≤ y ∧ y ≤ 2147483647) (hI : Inv g) (h00 : w 0 = srO G sv) (hL : kLog G w 3 g) (hP : kPlan G w 32 g nl) (hCt : kCht G w) : KX l G yX11_isInside cX11_isInside 7 (some (FieldType.boolean)) 10 8 48 [.ref (kad G 0), vI i, vI j, vI k, vI T, vI x, vI y] w fl (kOk ((((0 ≤ i ∧ i < g 2) ∧ (0 ≤ j ∧ j < g 2) ∧ (0 ≤ k ∧ k < g 2)) ∧ (0 ≤ T ∧ T ≤ 5000)) ∧ ((-1000000 ≤ x ∧ x ≤ 1000000) ∧ (-1000000 ≤ y ∧ y ≤ 1000000))) (vI (insV g i.toNat j.toNat k.toNat T x y)) fl (kCP G w)) (kTh (¬ ((0 ≤ i ∧ i < g 2) ∧ (0 ≤ j ∧ j < g 2) ∧ (0 ≤ k ∧ k < g 2))) (((0 ≤ i ∧ i < g 2) ∧ (0 ≤ j ∧ j < g 2) ∧ (0 ≤ k ∧ k < g 2)) ∧ ¬ ((0 ≤ T ∧ T ≤ 5000) ∧ ((-1000000 ≤ x ∧ x ≤ 1000000) ∧ (-1000000 ≤ y ∧ y ≤ 1000000)))) fl (kCP G w)) := by
  refine KX_of2 hls (by decide +kernel) rfl (lv0 := [(0, .ref (kad G 0)), (1, vI i), (2, vI j), (3, vI k), (4, vI T), (5, vI x), (6, vI y)]) rfl (Nat.le_of_ble_eq_true rfl) (fun p e R s m args below meth c Q hC hr htb hQ => ?_)
  subst hQ
  obtain ⟨⟨h10, h11⟩, hLn, hSh, hH, h14, h15⟩ := hCt
  have h0 := hI.c
  refine k_aload_n hC dX11_isInside_0 rfl 0 rfl ?_
  refine k_iload_n hC dX11_isInside_1 rfl 1 rfl ?_
  refine k_iload_n hC dX11_isInside_2 rfl 2 rfl ?_
  refine k_iload_n hC dX11_isInside_3 rfl 3 rfl ?_
  refine k_callVX hC (c_X11_needThreeSights l hls G hN w fl g sv i j k (by omega) (by omega) (by omega) hI h00 hL) yy_X11_needThreeSights wm_X11_310 (kl hN (by decide)) h00 rfl rfl rfl rfl (Nat.le_of_ble_eq_true rfl) (by decide) (by decide) ⟨by decide, by decide⟩ dX11_isInside_4 htb ⟨by decide, by decide⟩ (fun E1 w9 fl9 hx1 => by obtain ⟨q1, q2, q3, q4⟩ := hx1; subst q1; subst q3; subst q4; exact ⟨Or.inl ⟨rfl, by omega⟩, rfl, ⟨⟨⟨h10, h11⟩, hLn, hSh, hH, h14, h15⟩, fun j hj => rfl⟩⟩) (fun v9 w9 fl9 hp1 => ?_)
  obtain ⟨hc4_1, q1, q2, q3⟩ := hp1; subst q1; subst q2; subst q3
  refine k_iload hC dX11_isInside_7 4 rfl ?_
  refine k_callSX hC (c_X11_needTime l hls G hN w fl T (by omega)) yy_X11_needTime wm_X11_226 rfl rfl (Nat.le_of_ble_eq_true rfl) (by decide) (by decide) ⟨by decide, by decide⟩ dX11_isInside_9 htb ⟨by decide, by decide⟩ (fun E1 w9 fl9 hx2 => by obtain ⟨q1, q2, q3, q4⟩ := hx2; subst q1; subst q3; subst q4; exact ⟨Or.inr ⟨rfl, by omega⟩, rfl, ⟨⟨⟨h10, h11⟩, hLn, hSh, hH, h14, h15⟩, fun j hj => rfl⟩⟩) (fun v9 w9 fl9 hp2 => ?_)
  obtain ⟨hc9_2, q1, q2, q3⟩ := hp2; subst q1; subst q2; subst q3
  obtain ⟨i1, ei1⟩ : ∃ zz : Nat, i = (zz : Int) := ⟨i.toNat, by omega⟩
  subst ei1
  obtain ⟨j1, ej1⟩ : ∃ zz : Nat, j = (zz : Int) := ⟨j.toNat, by omega⟩
  subst ej1
  obtain ⟨k1, ek1⟩ : ∃ zz : Nat, k = (zz : Int) := ⟨k.toNat, by omega⟩
  subst ek1
  refine k_iload hC dX11_isInside_12 5 rfl ?_
  refine k_ldc hC (x := (-1000000)) (v := (-1000000)) dX11_isInside_14 (by decide) wk_X11_155 ?_
  refine k_icmp_lt hC 40 dX11_isInside_16 rfl (by omega) (by omega) (fun c_16 => ?_) (fun c_16 => ?_)
  · exact k_thrIW hC htb (List.mem_of_getElem? (i := 18) rfl) (by decide) ⟨by decide, by decide⟩ (Nat.le_of_ble_eq_true rfl) dX11_isInside_40 dX11_isInside_43 dX11_isInside_44 dX11_isInside_47 dX11_isInside_50 (⟨Or.inr ⟨rfl, by omega⟩, rfl, ⟨⟨⟨h10, h11⟩, hLn, hSh, hH, h14, h15⟩, fun j hj => rfl⟩⟩)
  · refine k_iload hC dX11_isInside_19 5 rfl ?_
    refine k_ldc hC (x := 1000000) (v := 1000000) dX11_isInside_21 (by decide) wk_X11_156 ?_
    refine k_icmp_gt hC 40 dX11_isInside_23 rfl (by omega) (by omega) (fun c_23 => ?_) (fun c_23 => ?_)
    · exact k_thrIW hC htb (List.mem_of_getElem? (i := 18) rfl) (by decide) ⟨by decide, by decide⟩ (Nat.le_of_ble_eq_true rfl) dX11_isInside_40 dX11_isInside_43 dX11_isInside_44 dX11_isInside_47 dX11_isInside_50 (⟨Or.inr ⟨rfl, by omega⟩, rfl, ⟨⟨⟨h10, h11⟩, hLn, hSh, hH, h14, h15⟩, fun j hj => rfl⟩⟩)
    · refine k_iload hC dX11_isInside_26 6 rfl ?_
      refine k_ldc hC (x := (-1000000)) (v := (-1000000)) dX11_isInside_28 (by decide) wk_X11_155 ?_
      refine k_icmp_lt hC 40 dX11_isInside_30 rfl (by omega) (by omega) (fun c_30 => ?_) (fun c_30 => ?_)
      · exact k_thrIW hC htb (List.mem_of_getElem? (i := 18) rfl) (by decide) ⟨by decide, by decide⟩ (Nat.le_of_ble_eq_true rfl) dX11_isInside_40 dX11_isInside_43 dX11_isInside_44 dX11_isInside_47 dX11_isInside_50 (⟨Or.inr ⟨rfl, by omega⟩, rfl, ⟨⟨⟨h10, h11⟩, hLn, hSh, hH, h14, h15⟩, fun j hj => rfl⟩⟩)
      · refine k_iload hC dX11_isInside_33 6 rfl ?_
        refine k_ldc hC (x := 1000000) (v := 1000000) dX11_isInside_35 (by decide) wk_X11_156 ?_
        refine k_icmp_le hC 51 dX11_isInside_37 rfl (by omega) (by omega) (fun c_37 => ?_) (fun c_37 => ?_)
        · refine k_aload_n hC dX11_isInside_51 rfl 0 rfl ?_
          refine k_iload_n hC dX11_isInside_52 rfl 1 rfl ?_
          refine k_iload_n hC dX11_isInside_53 rfl 2 rfl ?_
          refine k_iload_n hC dX11_isInside_54 rfl 3 rfl ?_
          refine k_iload hC dX11_isInside_55 4 rfl ?_
          refine k_muvV hC (c_X11_drawHat l hls G hN w fl g nl sv i1 j1 k1 T (by omega) (by omega) hI h00 hL hP ⟨⟨h10, h11⟩, hLn, hSh, hH, h14, h15⟩) yy_X11_drawHat wm_X11_316 (kl hN (by decide)) h00 rfl rfl rfl rfl (Nat.le_of_ble_eq_true rfl) (by decide) (by decide) ⟨by decide, by decide⟩ dX11_isInside_57 (fun w3 hp3 => ?_)
          obtain ⟨⟨hz, hs16_3, hzz⟩, hpl, hct3, hf3⟩ := hp3
          obtain ⟨⟨h10k_4, h11k_4⟩, hLnk_4, hShk_4, hHk_4, h14k_4, h15k_4⟩ := hct3
          refine k_aload_n hC dX11_isInside_60 rfl 0 rfl ?_
          have h_5 : w3 0 = .inr (11, [.ref (kad G 1), .ref (kad G 32), .ref (kad G 3), .ref (kad G 37), vI sv, .ref (kad G 44), .ref (kad G 10), .ref (kad G 116), .ref (kad G 129), .ref (kad G 132)]) := (hf3 0 (by omega)).trans h00
          refine k_get hC fd_X11_43 (kl hN (by decide)) h_5 rfl dX11_isInside_61 ?_
          refine k_get hC fd_X11_320 (kl hN (by decide)) h10k_4 rfl dX11_isInside_64 ?_
          refine k_get hC fd_X11_324 (kl hN (by decide)) hs16_3 rfl dX11_isInside_67 ?_
          refine k_if_eq hC 94 dX11_isInside_70 rfl (by omega) (fun c_70 => ?_) (fun c_70 => ?_)
          · have nok := (hzz.resolve_left (fun q1 => by omega)).2
            refine k_iconst hC dX11_isInside_94 ?_
            exact k_zretX hC (by omega) hr ⟨by decide, by decide⟩ (⟨(by omega), congrArg (fun z => some (vI z)) (show ((insV g i1 j1 k1 T x y : _) = 0) from (by unfold insV; first | exact selI_1 ⟨hok, hol⟩ | exact selI_0 (fun q1 => nhol q1.2) | exact selI_0 (fun q1 => nok q1.1))), rfl, ⟨⟨⟨h10k_4, h11k_4⟩, hLnk_4, hShk_4, hHk_4, h14k_4, h15k_4⟩, fun j hj => hf3 j (by omega)⟩⟩) dX11_isInside_95
          · have hok := (hzz.resolve_right (fun q1 => by omega)).2
            have hp3 := hpl hok
            have hcE17 := cE_b g i1 j1 T
            have hcN17 := cN_b g i1 j1 T
            have hcE18 := cE_b g i1 k1 T
            have hcN18 := cN_b g i1 k1 T
            have hcE19 := cE_b g j1 k1 T
            have hcN19 := cN_b g j1 k1 T
            refine k_aload_n hC dX11_isInside_73 rfl 0 rfl ?_
            refine k_get hC fd_X11_43 (kl hN (by decide)) h_5 rfl dX11_isInside_74 ?_
            refine k_get hC fd_X11_320 (kl hN (by decide)) h10k_4 rfl dX11_isInside_77 ?_
            refine k_iload hC dX11_isInside_80 5 rfl ?_
            refine k_iload hC dX11_isInside_82 6 rfl ?_
            refine k_pureV hC (c_X1_holds l hls G hN w3 fl hz 1 (cE g i1 j1 T) (cN g i1 j1 T) 1 (cE g i1 k1 T) (cN g i1 k1 T) 1 (cE g j1 k1 T) (cN g j1 k1 T) x y (by omega) (by omega) (by omega) (by omega) (by omega) (by omega) (by omega) (by omega) hs16_3 hp3.1 hp3.2.1 hp3.2.2) yy_X1_holds wm_X11_342 (kl hN (by decide)) hs16_3 rfl rfl rfl rfl (Nat.le_of_ble_eq_true rfl) (by decide) (by decide) ⟨by decide, by decide⟩ dX11_isInside_84 ?_
            obtain ⟨z_6, ez_6, hz_6⟩ := k_bI (holP (cE g i1 j1 T) (cN g i1 j1 T) (cE g i1 k1 T) (cN g i1 k1 T) (cE g j1 k1 T) (cN g j1 k1 T) x y)
            refine k_topv (vI z_6) (by rw [ez_6]) ?_
            refine k_if_eq hC 94 dX11_isInside_87 rfl (by omega) (fun c_87 => ?_) (fun c_87 => ?_)
            · have nhol := (hz_6.resolve_left (fun q1 => by omega)).2
              refine k_iconst hC dX11_isInside_94 ?_
              exact k_zretX hC (by omega) hr ⟨by decide, by decide⟩ (⟨(by omega), congrArg (fun z => some (vI z)) (show ((insV g i1 j1 k1 T x y : _) = 0) from (by unfold insV; first | exact selI_1 ⟨hok, hol⟩ | exact selI_0 (fun q1 => nhol q1.2) | exact selI_0 (fun q1 => nok q1.1))), rfl, ⟨⟨⟨h10k_4, h11k_4⟩, hLnk_4, hShk_4, hHk_4, h14k_4, h15k_4⟩, fun j hj => hf3 j (by omega)⟩⟩) dX11_isInside_95
            · have hol := (hz_6.resolve_right (fun q1 => by omega)).2
              refine k_iconst hC dX11_isInside_90 ?_
              refine k_goto hC 95 dX11_isInside_91 rfl ?_
              exact k_zretX hC (by omega) hr ⟨by decide, by decide⟩ (⟨(by omega), congrArg (fun z => some (vI z)) (show ((insV g i1 j1 k1 T x y : _) = 1) from (by unfold insV; first | exact selI_1 ⟨hok, hol⟩ | exact selI_0 (fun q1 => nhol q1.2) | exact selI_0 (fun q1 => nok q1.1))), rfl, ⟨⟨⟨h10k_4, h11k_4⟩, hLnk_4, hShk_4, hHk_4, h14k_4, h15k_4⟩, fun j hj => hf3 j (by omega)⟩⟩) dX11_isInside_95
        · exact k_thrIW hC htb (List.mem_of_getElem? (i := 18) rfl) (by decide) ⟨by decide, by decide⟩ (Nat.le_of_ble_eq_true rfl) dX11_isInside_40 dX11_isInside_43 dX11_isInside_44 dX11_isInside_47 dX11_isInside_50 (⟨Or.inr ⟨rfl, by omega⟩, rfl, ⟨⟨⟨h10, h11⟩, hLn, hSh, hH, h14, h15⟩, fun j hj => rfl⟩⟩)

set_option maxRecDepth 100000 in
set_option maxHeartbeats 4000000 in
theorem c_X11_smallestHat (l : Launch) (hls : l.stackTraces = false) (G : kG) (hN : 133 ≤ kN G) (w : Nat → va_E) (fl : va_W) (g nl : Nat → Int) (sv : Int) (T : Int) (hT : -2147483648 ≤ T ∧ T ≤ 2147483647) (hI : Inv g) (h00 : w 0 = srO G sv) (hL : kLog G w 3 g) (hP : kPlan G w 32 g nl) (hCt : kCht G w) : KX l G yX11_smallestHat cX11_smallestHat 2 (some (FieldType.int)) 9 8 48 [.ref (kad G 0), vI T] w fl (kOk ((0 ≤ T ∧ T ≤ 5000)) (vI (leastM g T)) fl (kCP G w)) (kTh (False) (¬ (0 ≤ T ∧ T ≤ 5000)) fl (kCP G w)) := by
  refine KX_of2 hls (by decide +kernel) rfl (lv0 := [(0, .ref (kad G 0)), (1, vI T)]) rfl (Nat.le_of_ble_eq_true rfl) (fun p e R s m args below meth c Q hC hr htb hQ => ?_)
  subst hQ
  obtain ⟨⟨h10, h11⟩, hLn, hSh, hH, h14, h15⟩ := hCt
  have h0 := hI.c
  refine k_iload_n hC dX11_smallestHat_0 rfl 1 rfl ?_
  refine k_callSX hC (c_X11_needTime l hls G hN w fl T (by omega)) yy_X11_needTime wm_X11_226 rfl rfl (Nat.le_of_ble_eq_true rfl) (by decide) (by decide) ⟨by decide, by decide⟩ dX11_smallestHat_1 htb ⟨by decide, by decide⟩ (fun E1 w9 fl9 hx1 => by obtain ⟨q1, q2, q3, q4⟩ := hx1; subst q1; subst q3; subst q4; exact ⟨Or.inr ⟨rfl, by omega⟩, rfl, ⟨⟨⟨h10, h11⟩, hLn, hSh, hH, h14, h15⟩, fun j hj => rfl⟩⟩) (fun v9 w9 fl9 hp1 => ?_)
  obtain ⟨hc1_1, q1, q2, q3⟩ := hp1; subst q1; subst q2; subst q3
  have ht : 0 ≤ T ∧ T ≤ 5000 := by omega
  refine k_aload_n hC dX11_smallestHat_4 rfl 0 rfl ?_
  refine k_get hC fd_X11_43 (kl hN (by decide)) h00 rfl dX11_smallestHat_5 ?_
  refine k_aload_n hC dX11_smallestHat_8 rfl 0 rfl ?_
  refine k_get hC fd_X11_25 (kl hN (by decide)) h00 rfl dX11_smallestHat_9 ?_
  refine k_aload_n hC dX11_smallestHat_12 rfl 0 rfl ?_
  refine k_get hC fd_X11_29 (kl hN (by decide)) h00 rfl dX11_smallestHat_13 ?_
  refine k_iload_n hC dX11_smallestHat_16 rfl 1 rfl ?_
  refine k_muvV hC (c_X0_drawAll l hls G hN w fl g nl T hI (by omega) hL hP h10 h11 hLn hSh) yy_X0_drawAll wm_X11_118 (kl hN (by decide)) h10 rfl rfl rfl rfl (Nat.le_of_ble_eq_true rfl) (by decide) (by decide) ⟨by decide, by decide⟩ dX11_smallestHat_17 (fun w2 hp2 => ?_)
  obtain ⟨hD2, hLn2, hSh2, hf2⟩ := hp2
  refine k_aload_n hC dX11_smallestHat_20 rfl 0 rfl ?_
  have h_3 : w2 0 = .inr (11, [.ref (kad G 1), .ref (kad G 32), .ref (kad G 3), .ref (kad G 37), vI sv, .ref (kad G 44), .ref (kad G 10), .ref (kad G 116), .ref (kad G 129), .ref (kad G 132)]) := (hf2 0 (by omega)).trans h00
  refine k_get hC fd_X11_43 (kl hN (by decide)) h_3 rfl dX11_smallestHat_21 ?_
  refine k_aload_n hC dX11_smallestHat_24 rfl 0 rfl ?_
  refine k_get hC fd_X11_29 (kl hN (by decide)) h_3 rfl dX11_smallestHat_25 ?_
  have hB_4 : kLog G w2 3 g := hL.fr (fun j q1 q2 => (hf2 j (by omega)))
  refine k_get hC fd_X11_112 (kl hN (by decide)) hB_4.1 rfl dX11_smallestHat_28 ?_
  have h_5 : w2 10 = .inr (0, [.ref (kad G 11), .ref (kad G 12), .ref (kad G 13), .ref (kad G 14), .ref (kad G 15), .ref (kad G 16)]) := (hf2 10 (by omega)).trans h10
  have h_6 : w2 11 = rA G 4 12 (fun j => some (kad G (20 + j))) := (hf2 11 (by omega)).trans h11
  have hB_7 : kHat G w2 := hH.fr (fun j q1 q2 => (hf2 j (by omega)))
  refine k_mutV hC (c_X0_findLeastHat l hls G hN w2 fl g T hI ht h_5 h_6 hD2 hB_7) yy_X0_findLeastHat wm_X11_337 (kl hN (by decide)) h_5 rfl rfl rfl rfl (Nat.le_of_ble_eq_true rfl) (by decide) (by decide) ⟨by decide, by decide⟩ dX11_smallestHat_31 (fun w8 hp8 => ?_)
  obtain ⟨hH8, hf8⟩ := hp8
  have hB_9 : kShip w8 := hSh2.fr (fun j q1 q2 => (hf8 j (by omega)))
  have hB_10 : kPl14 w8 := h14.fr (fun j q1 q2 => (hf8 j (by omega)).trans (hf2 j (by omega)))
  have hB_11 : kPl15 w8 := h15.fr (fun j q1 q2 => (hf8 j (by omega)).trans (hf2 j (by omega)))
  have h_12 : w8 10 = .inr (0, [.ref (kad G 11), .ref (kad G 12), .ref (kad G 13), .ref (kad G 14), .ref (kad G 15), .ref (kad G 16)]) := (hf8 10 (by omega)).trans h_5
  have h_13 : w8 11 = rA G 4 12 (fun j => some (kad G (20 + j))) := (hf8 11 (by omega)).trans h_6
  have hB_14 : kLines w8 := hLn2.fr (fun j q1 q2 => (hf8 j (by omega)))
  exact k_iretX hC hr ⟨by decide, by decide⟩ (⟨(by omega), congrArg (fun z => some (vI z)) (show ((leastM g T : _) = leastM g T) from rfl), rfl, ⟨⟨⟨h_12, h_13⟩, hB_14, hB_9, hH8, hB_10, hB_11⟩, fun j hj => (hf8 j (by omega)).trans (hf2 j (by omega))⟩⟩) dX11_smallestHat_34

noncomputable def fixV (g : Nat → Int) (T no : Int) : Int := selI (fixP g) (if no = 0 then fixE g T else fixN g T) (-1000000000)
noncomputable def resV (g : Nat → Int) (T : Int) (k : Nat) : Int := selI (fixP g) (resM g T k) (-1000000000)
noncomputable def worV (g : Nat → Int) (T : Int) : Int := selI (fixP g) (worS g T (g 2).toNat).1 (-1)
noncomputable def offV (g : Nat → Int) (T : Int) : Int := selI (fixP g) (dstM g T) (-1000000000)
noncomputable def unkV (g : Nat → Int) (T dr : Int) : Int := selI (fixP g) (if dr = 0 then dirM (fixE g T - dispM g T false) (fixN g T - dispM g T true) (dstM g T) else (6 * dstM g T).fdiv T) (-1000000000)
noncomputable def sumR (g : Nat → Int) (T : Int) : Nat → Int := sumF (fun k => ((resM g T k).natAbs : Int))
noncomputable def sumI (g : Nat → Int) : Nat → Int := sumF (fun k => intM g k)
noncomputable def mrV (g : Nat → Int) (T : Int) : UInt64 := @ite UInt64 (g 2 = 0 ∨ ¬ fixP g) (Classical.propDecidable _) 0 (FP.ddiv (dI (sumR g T (g 2).toNat)) (dI (g 2)))
noncomputable def miV (g : Nat → Int) : UInt32 := if g 2 = 0 then 0 else FP.fdiv (fI (sumI g (g 2).toNat)) (fI (g 2))
set_option maxRecDepth 100000 in
set_option maxHeartbeats 4000000 in
theorem c_X11_fix (l : Launch) (hls : l.stackTraces = false) (G : kG) (hN : 133 ≤ kN G) (w : Nat → va_E) (fl : va_W) (g nl : Nat → Int) (sv : Int) (T no : Int) (hT : -2147483648 ≤ T ∧ T ≤ 2147483647) (hno : no = 0 ∨ no = 1) (hI : Inv g) (h00 : w 0 = srO G sv) (hL : kLog G w 3 g) (hP : kPlan G w 32 g nl) (hCt : kCht G w) : KX l G yX11_fix cX11_fix 3 (some (FieldType.int)) 9 8 48 [.ref (kad G 0), vI T, vI no] w fl (kOk ((0 ≤ T ∧ T ≤ 5000)) (vI (fixV g T no)) fl (kCP G w)) (kTh (False) (¬ (0 ≤ T ∧ T ≤ 5000)) fl (kCP G w)) := by
  refine KX_of2 hls (by decide +kernel) rfl (lv0 := [(0, .ref (kad G 0)), (1, vI T), (2, vI no)]) rfl (Nat.le_of_ble_eq_true rfl) (fun p e R s m args below meth c Q hC hr htb hQ => ?_)
  subst hQ
  obtain ⟨⟨h10, h11⟩, hLn, hSh, hH, h14, h15⟩ := hCt
  have h0 := hI.c
  refine k_iload_n hC dX11_fix_0 rfl 1 rfl ?_
  refine k_callSX hC (c_X11_needTime l hls G hN w fl T (by omega)) yy_X11_needTime wm_X11_226 rfl rfl (Nat.le_of_ble_eq_true rfl) (by decide) (by decide) ⟨by decide, by decide⟩ dX11_fix_1 htb ⟨by decide, by decide⟩ (fun E1 w9 fl9 hx1 => by obtain ⟨q1, q2, q3, q4⟩ := hx1; subst q1; subst q3; subst q4; exact ⟨Or.inr ⟨rfl, by omega⟩, rfl, ⟨⟨⟨h10, h11⟩, hLn, hSh, hH, h14, h15⟩, fun j hj => rfl⟩⟩) (fun v9 w9 fl9 hp1 => ?_)
  obtain ⟨hc1_1, q1, q2, q3⟩ := hp1; subst q1; subst q2; subst q3
  have ht : 0 ≤ T ∧ T ≤ 5000 := by omega
  refine k_aload_n hC dX11_fix_4 rfl 0 rfl ?_
  refine k_get hC fd_X11_43 (kl hN (by decide)) h00 rfl dX11_fix_5 ?_
  refine k_aload_n hC dX11_fix_8 rfl 0 rfl ?_
  refine k_get hC fd_X11_25 (kl hN (by decide)) h00 rfl dX11_fix_9 ?_
  refine k_aload_n hC dX11_fix_12 rfl 0 rfl ?_
  refine k_get hC fd_X11_29 (kl hN (by decide)) h00 rfl dX11_fix_13 ?_
  refine k_iload_n hC dX11_fix_16 rfl 1 rfl ?_
  refine k_mutV hC (c_X0_findFix l hls G hN w fl g nl T hI (by omega) hL hP h10 h11 hLn hSh h15) yy_X0_findFix wm_X11_346 (kl hN (by decide)) h10 rfl rfl rfl rfl (Nat.le_of_ble_eq_true rfl) (by decide) (by decide) ⟨by decide, by decide⟩ dX11_fix_17 (fun w2 hp2 => ?_)
  obtain ⟨⟨fz, fx, fy, h15_2, hfx⟩, hD2, hLn2, ⟨fla, flo, hsh2⟩, hf2⟩ := hp2
  have hfi := fixI_c g
  refine k_if_ne hC 26 dX11_fix_20 rfl (by omega) (fun c_20 => ?_) (fun c_20 => ?_)
  · have hfp : fixP g := ((fixI_c g).resolve_right (fun q1 => by omega)).2
    obtain ⟨efx, efy⟩ := hfx hfp
    subst efx
    subst efy
    have hfe := fixE_b g T
    have hfn := fixN_b g T
    have hd1 := dispM_b hI ht false
    have hd2 := dispM_b hI ht true
    have hdst := dstM_b hI ht
    refine k_iload_n hC dX11_fix_26 rfl 2 rfl ?_
    refine k_if_eq hC 43 dX11_fix_27 rfl (by omega) (fun c_27 => ?_) (fun c_27 => ?_)
    · refine k_aload_n hC dX11_fix_43 rfl 0 rfl ?_
      have h_3 : w2 0 = .inr (11, [.ref (kad G 1), .ref (kad G 32), .ref (kad G 3), .ref (kad G 37), vI sv, .ref (kad G 44), .ref (kad G 10), .ref (kad G 116), .ref (kad G 129), .ref (kad G 132)]) := (hf2 0 (by omega)).trans h00
      refine k_get hC fd_X11_43 (kl hN (by decide)) h_3 rfl dX11_fix_44 ?_
      have h_4 : w2 10 = .inr (0, [.ref (kad G 11), .ref (kad G 12), .ref (kad G 13), .ref (kad G 14), .ref (kad G 15), .ref (kad G 16)]) := (hf2 10 (by omega)).trans h10
      refine k_get hC fd_X11_350 (kl hN (by decide)) h_4 rfl dX11_fix_47 ?_
      refine k_get hC fd_X11_309 (kl hN (by decide)) h15_2 rfl dX11_fix_50 ?_
      have hB_5 : kHat G w2 := hH.fr (fun j q1 q2 => (hf2 j (by omega)))
      have hB_6 : kPl14 w2 := h14.fr (fun j q1 q2 => (hf2 j (by omega)))
      have h_7 : w2 11 = rA G 4 12 (fun j => some (kad G (20 + j))) := (hf2 11 (by omega)).trans h11
      exact k_iretX hC hr ⟨by decide, by decide⟩ (⟨(by omega), congrArg (fun z => some (vI z)) (show ((fixV g T no : _) = fixE g T) from (by unfold fixV; first | exact selI_0 nfp | (rw [selI_1 hfp]; first | rw [if_pos (by omega)] | rw [if_neg (by omega)]))), rfl, ⟨⟨⟨h_4, h_7⟩, hLn2, ⟨_, _, _, _, hsh2⟩, hB_5, hB_6, ⟨_, _, _, h15_2⟩⟩, fun j hj => hf2 j (by omega)⟩⟩) dX11_fix_53
    · refine k_aload_n hC dX11_fix_30 rfl 0 rfl ?_
      have h_8 : w2 0 = .inr (11, [.ref (kad G 1), .ref (kad G 32), .ref (kad G 3), .ref (kad G 37), vI sv, .ref (kad G 44), .ref (kad G 10), .ref (kad G 116), .ref (kad G 129), .ref (kad G 132)]) := (hf2 0 (by omega)).trans h00
      refine k_get hC fd_X11_43 (kl hN (by decide)) h_8 rfl dX11_fix_31 ?_
      have h_9 : w2 10 = .inr (0, [.ref (kad G 11), .ref (kad G 12), .ref (kad G 13), .ref (kad G 14), .ref (kad G 15), .ref (kad G 16)]) := (hf2 10 (by omega)).trans h10
      refine k_get hC fd_X11_350 (kl hN (by decide)) h_9 rfl dX11_fix_34 ?_
      refine k_get hC fd_X11_308 (kl hN (by decide)) h15_2 rfl dX11_fix_37 ?_
      refine k_goto hC 53 dX11_fix_40 rfl ?_
      have hB_10 : kHat G w2 := hH.fr (fun j q1 q2 => (hf2 j (by omega)))
      have hB_11 : kPl14 w2 := h14.fr (fun j q1 q2 => (hf2 j (by omega)))
      have h_12 : w2 11 = rA G 4 12 (fun j => some (kad G (20 + j))) := (hf2 11 (by omega)).trans h11
      exact k_iretX hC hr ⟨by decide, by decide⟩ (⟨(by omega), congrArg (fun z => some (vI z)) (show ((fixV g T no : _) = fixN g T) from (by unfold fixV; first | exact selI_0 nfp | (rw [selI_1 hfp]; first | rw [if_pos (by omega)] | rw [if_neg (by omega)]))), rfl, ⟨⟨⟨h_9, h_12⟩, hLn2, ⟨_, _, _, _, hsh2⟩, hB_10, hB_11, ⟨_, _, _, h15_2⟩⟩, fun j hj => hf2 j (by omega)⟩⟩) dX11_fix_53
  · have nfp : ¬ fixP g := ((fixI_c g).resolve_left (fun q1 => by omega)).2
    refine k_ldc hC (x := (-1000000000)) (v := (-1000000000)) dX11_fix_23 (by decide) wk_X11_143 ?_
    have hB_13 : kHat G w2 := hH.fr (fun j q1 q2 => (hf2 j (by omega)))
    have hB_14 : kPl14 w2 := h14.fr (fun j q1 q2 => (hf2 j (by omega)))
    have h_15 : w2 10 = .inr (0, [.ref (kad G 11), .ref (kad G 12), .ref (kad G 13), .ref (kad G 14), .ref (kad G 15), .ref (kad G 16)]) := (hf2 10 (by omega)).trans h10
    have h_16 : w2 11 = rA G 4 12 (fun j => some (kad G (20 + j))) := (hf2 11 (by omega)).trans h11
    exact k_iretX hC hr ⟨by decide, by decide⟩ (⟨(by omega), congrArg (fun z => some (vI z)) (show ((fixV g T no : _) = -1000000000) from (by unfold fixV; first | exact selI_0 nfp | (rw [selI_1 hfp]; first | rw [if_pos (by omega)] | rw [if_neg (by omega)]))), rfl, ⟨⟨⟨h_15, h_16⟩, hLn2, ⟨_, _, _, _, hsh2⟩, hB_13, hB_14, ⟨_, _, _, h15_2⟩⟩, fun j hj => hf2 j (by omega)⟩⟩) dX11_fix_25

set_option maxRecDepth 100000 in
set_option maxHeartbeats 4000000 in
theorem c_X11_residual (l : Launch) (hls : l.stackTraces = false) (G : kG) (hN : 133 ≤ kN G) (w : Nat → va_E) (fl : va_W) (g nl : Nat → Int) (sv : Int) (i T : Int) (hi : -2147483648 ≤ i ∧ i ≤ 2147483647) (hT : -2147483648 ≤ T ∧ T ≤ 2147483647) (hI : Inv g) (h00 : w 0 = srO G sv) (hL : kLog G w 3 g) (hP : kPlan G w 32 g nl) (hCt : kCht G w) : KX l G yX11_residual cX11_residual 3 (some (FieldType.int)) 9 8 48 [.ref (kad G 0), vI i, vI T] w fl (kOk ((0 ≤ i ∧ i < g 2) ∧ (0 ≤ T ∧ T ≤ 5000)) (vI (resV g T i.toNat)) fl (kCP G w)) (kTh (¬ (0 ≤ i ∧ i < g 2)) ((0 ≤ i ∧ i < g 2) ∧ ¬ (0 ≤ T ∧ T ≤ 5000)) fl (kCP G w)) := by
  refine KX_of2 hls (by decide +kernel) rfl (lv0 := [(0, .ref (kad G 0)), (1, vI i), (2, vI T)]) rfl (Nat.le_of_ble_eq_true rfl) (fun p e R s m args below meth c Q hC hr htb hQ => ?_)
  subst hQ
  obtain ⟨⟨h10, h11⟩, hLn, hSh, hH, h14, h15⟩ := hCt
  have h0 := hI.c
  refine k_aload_n hC dX11_residual_0 rfl 0 rfl ?_
  refine k_iload_n hC dX11_residual_1 rfl 1 rfl ?_
  refine k_callVX hC (c_X11_needSight l hls G hN w fl g sv i (by omega) hI h00 hL) yy_X11_needSight wm_X11_250 (kl hN (by decide)) h00 rfl rfl rfl rfl (Nat.le_of_ble_eq_true rfl) (by decide) (by decide) ⟨by decide, by decide⟩ dX11_residual_2 htb ⟨by decide, by decide⟩ (fun E1 w9 fl9 hx1 => by obtain ⟨q1, q2, q3, q4⟩ := hx1; subst q1; subst q3; subst q4; exact ⟨Or.inl ⟨rfl, by omega⟩, rfl, ⟨⟨⟨h10, h11⟩, hLn, hSh, hH, h14, h15⟩, fun j hj => rfl⟩⟩) (fun v9 w9 fl9 hp1 => ?_)
  obtain ⟨hc2_1, q1, q2, q3⟩ := hp1; subst q1; subst q2; subst q3
  refine k_iload_n hC dX11_residual_5 rfl 2 rfl ?_
  refine k_callSX hC (c_X11_needTime l hls G hN w fl T (by omega)) yy_X11_needTime wm_X11_226 rfl rfl (Nat.le_of_ble_eq_true rfl) (by decide) (by decide) ⟨by decide, by decide⟩ dX11_residual_6 htb ⟨by decide, by decide⟩ (fun E1 w9 fl9 hx2 => by obtain ⟨q1, q2, q3, q4⟩ := hx2; subst q1; subst q3; subst q4; exact ⟨Or.inr ⟨rfl, by omega⟩, rfl, ⟨⟨⟨h10, h11⟩, hLn, hSh, hH, h14, h15⟩, fun j hj => rfl⟩⟩) (fun v9 w9 fl9 hp2 => ?_)
  obtain ⟨hc6_2, q1, q2, q3⟩ := hp2; subst q1; subst q2; subst q3
  obtain ⟨k, ek⟩ : ∃ zz : Nat, i = (zz : Int) := ⟨i.toNat, by omega⟩
  subst ek
  have ht : 0 ≤ T ∧ T ≤ 5000 := by omega
  refine k_aload_n hC dX11_residual_9 rfl 0 rfl ?_
  refine k_get hC fd_X11_43 (kl hN (by decide)) h00 rfl dX11_residual_10 ?_
  refine k_aload_n hC dX11_residual_13 rfl 0 rfl ?_
  refine k_get hC fd_X11_25 (kl hN (by decide)) h00 rfl dX11_residual_14 ?_
  refine k_aload_n hC dX11_residual_17 rfl 0 rfl ?_
  refine k_get hC fd_X11_29 (kl hN (by decide)) h00 rfl dX11_residual_18 ?_
  refine k_iload_n hC dX11_residual_21 rfl 2 rfl ?_
  refine k_mutV hC (c_X0_findFix l hls G hN w fl g nl T hI (by omega) hL hP h10 h11 hLn hSh h15) yy_X0_findFix wm_X11_346 (kl hN (by decide)) h10 rfl rfl rfl rfl (Nat.le_of_ble_eq_true rfl) (by decide) (by decide) ⟨by decide, by decide⟩ dX11_residual_22 (fun w3 hp3 => ?_)
  obtain ⟨⟨fz, fx, fy, h15_3, hfx⟩, hD3, hLn3, ⟨fla, flo, hsh3⟩, hf3⟩ := hp3
  have hfi := fixI_c g
  refine k_if_ne hC 31 dX11_residual_25 rfl (by omega) (fun c_25 => ?_) (fun c_25 => ?_)
  · have hfp : fixP g := ((fixI_c g).resolve_right (fun q1 => by omega)).2
    obtain ⟨efx, efy⟩ := hfx hfp
    subst efx
    subst efy
    have hfe := fixE_b g T
    have hfn := fixN_b g T
    have hd1 := dispM_b hI ht false
    have hd2 := dispM_b hI ht true
    have hdst := dstM_b hI ht
    have hln_4 := hD3 k (by omega) (by omega)
    have hcb_5 := carM_b hI k (by omega) ht
    have hsb_6 := sinM_b (aziM g k)
    have hcb_7 := cosM_b (aziM g k)
    refine k_aload_n hC dX11_residual_31 rfl 0 rfl ?_
    have h_8 : w3 0 = .inr (11, [.ref (kad G 1), .ref (kad G 32), .ref (kad G 3), .ref (kad G 37), vI sv, .ref (kad G 44), .ref (kad G 10), .ref (kad G 116), .ref (kad G 129), .ref (kad G 132)]) := (hf3 0 (by omega)).trans h00
    refine k_get hC fd_X11_43 (kl hN (by decide)) h_8 rfl dX11_residual_32 ?_
    refine k_iload_n hC dX11_residual_35 rfl 1 rfl ?_
    have h_9 : w3 10 = .inr (0, [.ref (kad G 11), .ref (kad G 12), .ref (kad G 13), .ref (kad G 14), .ref (kad G 15), .ref (kad G 16)]) := (hf3 10 (by omega)).trans h10
    have h_10 : w3 11 = rA G 4 12 (fun j => some (kad G (20 + j))) := (hf3 11 (by omega)).trans h11
    refine k_pureV hC (c_X0_lineOf l hls G hN w3 fl k (by omega) h_9 h_10) yy_X0_lineOf wm_X11_257 (kl hN (by decide)) h_9 rfl rfl rfl rfl (Nat.le_of_ble_eq_true rfl) (by decide) (by decide) ⟨by decide, by decide⟩ dX11_residual_36 ?_
    refine k_aload_n hC dX11_residual_39 rfl 0 rfl ?_
    refine k_get hC fd_X11_43 (kl hN (by decide)) h_8 rfl dX11_residual_40 ?_
    refine k_get hC fd_X11_350 (kl hN (by decide)) h_9 rfl dX11_residual_43 ?_
    refine k_pureV hC (c_X3_missedBy l hls G hN w3 fl (20 + k) 15 (apM g k) (obsM g k) (expM g k) (aziM g k) (intM g k) (offM g k) (carM g k T) (sinM (aziM g k)) (cosM (aziM g k)) fz (fixE g T) (fixN g T) (by omega) (by omega) (by omega) (by omega) (by omega) (by omega) hln_4 h15_3) yy_X3_missedBy wm_X11_353 (kl hN (by omega)) hln_4 rfl rfl rfl rfl (Nat.le_of_ble_eq_true rfl) (by decide) (by decide) ⟨by decide, by decide⟩ dX11_residual_46 ?_
    have hB_11 : kHat G w3 := hH.fr (fun j q1 q2 => (hf3 j (by omega)))
    have hB_12 : kPl14 w3 := h14.fr (fun j q1 q2 => (hf3 j (by omega)))
    exact k_iretX hC hr ⟨by decide, by decide⟩ (⟨(by omega), congrArg (fun z => some (vI z)) (show ((resV g T k : _) = along (fixE g T) (fixN g T) (sinM (aziM g k)) (cosM (aziM g k)) - (carM g k T)) from (by unfold resV; first | exact selI_0 nfp | (rw [selI_1 hfp]; rfl))), rfl, ⟨⟨⟨h_9, h_10⟩, hLn3, ⟨_, _, _, _, hsh3⟩, hB_11, hB_12, ⟨_, _, _, h15_3⟩⟩, fun j hj => hf3 j (by omega)⟩⟩) dX11_residual_49
  · have nfp : ¬ fixP g := ((fixI_c g).resolve_left (fun q1 => by omega)).2
    refine k_ldc hC (x := (-1000000000)) (v := (-1000000000)) dX11_residual_28 (by decide) wk_X11_143 ?_
    have hB_13 : kHat G w3 := hH.fr (fun j q1 q2 => (hf3 j (by omega)))
    have hB_14 : kPl14 w3 := h14.fr (fun j q1 q2 => (hf3 j (by omega)))
    have h_15 : w3 10 = .inr (0, [.ref (kad G 11), .ref (kad G 12), .ref (kad G 13), .ref (kad G 14), .ref (kad G 15), .ref (kad G 16)]) := (hf3 10 (by omega)).trans h10
    have h_16 : w3 11 = rA G 4 12 (fun j => some (kad G (20 + j))) := (hf3 11 (by omega)).trans h11
    exact k_iretX hC hr ⟨by decide, by decide⟩ (⟨(by omega), congrArg (fun z => some (vI z)) (show ((resV g T k : _) = -1000000000) from (by unfold resV; first | exact selI_0 nfp | (rw [selI_1 hfp]; rfl))), rfl, ⟨⟨⟨h_15, h_16⟩, hLn3, ⟨_, _, _, _, hsh3⟩, hB_13, hB_14, ⟨_, _, _, h15_3⟩⟩, fun j hj => hf3 j (by omega)⟩⟩) dX11_residual_30

set_option maxRecDepth 100000 in
set_option maxHeartbeats 4000000 in
theorem c_X11_offCourse (l : Launch) (hls : l.stackTraces = false) (G : kG) (hN : 133 ≤ kN G) (w : Nat → va_E) (fl : va_W) (g nl : Nat → Int) (sv : Int) (T : Int) (hT : -2147483648 ≤ T ∧ T ≤ 2147483647) (hI : Inv g) (h00 : w 0 = srO G sv) (hL : kLog G w 3 g) (hP : kPlan G w 32 g nl) (hCt : kCht G w) : KX l G yX11_offCourse cX11_offCourse 2 (some (FieldType.int)) 9 8 48 [.ref (kad G 0), vI T] w fl (kOk ((0 ≤ T ∧ T ≤ 5000)) (vI (offV g T)) fl (kCP G w)) (kTh (False) (¬ (0 ≤ T ∧ T ≤ 5000)) fl (kCP G w)) := by
  refine KX_of2 hls (by decide +kernel) rfl (lv0 := [(0, .ref (kad G 0)), (1, vI T)]) rfl (Nat.le_of_ble_eq_true rfl) (fun p e R s m args below meth c Q hC hr htb hQ => ?_)
  subst hQ
  obtain ⟨⟨h10, h11⟩, hLn, hSh, hH, h14, h15⟩ := hCt
  have h0 := hI.c
  refine k_iload_n hC dX11_offCourse_0 rfl 1 rfl ?_
  refine k_callSX hC (c_X11_needTime l hls G hN w fl T (by omega)) yy_X11_needTime wm_X11_226 rfl rfl (Nat.le_of_ble_eq_true rfl) (by decide) (by decide) ⟨by decide, by decide⟩ dX11_offCourse_1 htb ⟨by decide, by decide⟩ (fun E1 w9 fl9 hx1 => by obtain ⟨q1, q2, q3, q4⟩ := hx1; subst q1; subst q3; subst q4; exact ⟨Or.inr ⟨rfl, by omega⟩, rfl, ⟨⟨⟨h10, h11⟩, hLn, hSh, hH, h14, h15⟩, fun j hj => rfl⟩⟩) (fun v9 w9 fl9 hp1 => ?_)
  obtain ⟨hc1_1, q1, q2, q3⟩ := hp1; subst q1; subst q2; subst q3
  have ht : 0 ≤ T ∧ T ≤ 5000 := by omega
  refine k_aload_n hC dX11_offCourse_4 rfl 0 rfl ?_
  refine k_get hC fd_X11_43 (kl hN (by decide)) h00 rfl dX11_offCourse_5 ?_
  refine k_aload_n hC dX11_offCourse_8 rfl 0 rfl ?_
  refine k_get hC fd_X11_25 (kl hN (by decide)) h00 rfl dX11_offCourse_9 ?_
  refine k_aload_n hC dX11_offCourse_12 rfl 0 rfl ?_
  refine k_get hC fd_X11_29 (kl hN (by decide)) h00 rfl dX11_offCourse_13 ?_
  refine k_iload_n hC dX11_offCourse_16 rfl 1 rfl ?_
  refine k_mutV hC (c_X0_findFix l hls G hN w fl g nl T hI (by omega) hL hP h10 h11 hLn hSh h15) yy_X0_findFix wm_X11_346 (kl hN (by decide)) h10 rfl rfl rfl rfl (Nat.le_of_ble_eq_true rfl) (by decide) (by decide) ⟨by decide, by decide⟩ dX11_offCourse_17 (fun w2 hp2 => ?_)
  obtain ⟨⟨fz, fx, fy, h15_2, hfx⟩, hD2, hLn2, ⟨fla, flo, hsh2⟩, hf2⟩ := hp2
  have hfi := fixI_c g
  refine k_if_eq hC 33 dX11_offCourse_20 rfl (by omega) (fun c_20 => ?_) (fun c_20 => ?_)
  · have nfp : ¬ fixP g := ((fixI_c g).resolve_left (fun q1 => by omega)).2
    refine k_ldc hC (x := (-1000000000)) (v := (-1000000000)) dX11_offCourse_33 (by decide) wk_X11_143 ?_
    have hB_3 : kHat G w2 := hH.fr (fun j q1 q2 => (hf2 j (by omega)))
    have hB_4 : kPl14 w2 := h14.fr (fun j q1 q2 => (hf2 j (by omega)))
    have h_5 : w2 10 = .inr (0, [.ref (kad G 11), .ref (kad G 12), .ref (kad G 13), .ref (kad G 14), .ref (kad G 15), .ref (kad G 16)]) := (hf2 10 (by omega)).trans h10
    have h_6 : w2 11 = rA G 4 12 (fun j => some (kad G (20 + j))) := (hf2 11 (by omega)).trans h11
    exact k_iretX hC hr ⟨by decide, by decide⟩ (⟨(by omega), congrArg (fun z => some (vI z)) (show ((offV g T : _) = -1000000000) from (by unfold offV; first | exact selI_0 nfp | (rw [selI_1 hfp]; rfl))), rfl, ⟨⟨⟨h_5, h_6⟩, hLn2, ⟨_, _, _, _, hsh2⟩, hB_3, hB_4, ⟨_, _, _, h15_2⟩⟩, fun j hj => hf2 j (by omega)⟩⟩) dX11_offCourse_35
  · have hfp : fixP g := ((fixI_c g).resolve_right (fun q1 => by omega)).2
    obtain ⟨efx, efy⟩ := hfx hfp
    subst efx
    subst efy
    have hfe := fixE_b g T
    have hfn := fixN_b g T
    have hd1 := dispM_b hI ht false
    have hd2 := dispM_b hI ht true
    have hdst := dstM_b hI ht
    refine k_aload_n hC dX11_offCourse_23 rfl 0 rfl ?_
    have h_7 : w2 0 = .inr (11, [.ref (kad G 1), .ref (kad G 32), .ref (kad G 3), .ref (kad G 37), vI sv, .ref (kad G 44), .ref (kad G 10), .ref (kad G 116), .ref (kad G 129), .ref (kad G 132)]) := (hf2 0 (by omega)).trans h00
    refine k_get hC fd_X11_43 (kl hN (by decide)) h_7 rfl dX11_offCourse_24 ?_
    have h_8 : w2 10 = .inr (0, [.ref (kad G 11), .ref (kad G 12), .ref (kad G 13), .ref (kad G 14), .ref (kad G 15), .ref (kad G 16)]) := (hf2 10 (by omega)).trans h10
    have h_9 : w2 11 = rA G 4 12 (fun j => some (kad G (20 + j))) := (hf2 11 (by omega)).trans h11
    refine k_pureV hC (c_X0_distanceOff l hls G hN w2 fl fz (fixE g T) (fixN g T) (dispM g T false) (dispM g T true) fla flo h_8 h_9 (by omega) (by omega) (by omega) (by omega) h15_2 hsh2) yy_X0_distanceOff wm_X11_362 (kl hN (by decide)) h_8 rfl rfl rfl rfl (Nat.le_of_ble_eq_true rfl) (by decide) (by decide) ⟨by decide, by decide⟩ dX11_offCourse_27 ?_
    refine k_goto hC 35 dX11_offCourse_30 rfl ?_
    have hB_10 : kHat G w2 := hH.fr (fun j q1 q2 => (hf2 j (by omega)))
    have hB_11 : kPl14 w2 := h14.fr (fun j q1 q2 => (hf2 j (by omega)))
    exact k_iretX hC hr ⟨by decide, by decide⟩ (⟨(by omega), congrArg (fun z => some (vI z)) (show ((offV g T : _) = rootM (((fixE g T) - (dispM g T false)) * ((fixE g T) - (dispM g T false)) + ((fixN g T) - (dispM g T true)) * ((fixN g T) - (dispM g T true)))) from (by unfold offV; first | exact selI_0 nfp | (rw [selI_1 hfp]; rfl))), rfl, ⟨⟨⟨h_8, h_9⟩, hLn2, ⟨_, _, _, _, hsh2⟩, hB_10, hB_11, ⟨_, _, _, h15_2⟩⟩, fun j hj => hf2 j (by omega)⟩⟩) dX11_offCourse_35

set_option maxRecDepth 100000 in
set_option maxHeartbeats 4000000 in
theorem c_X11_unknownCurrent (l : Launch) (hls : l.stackTraces = false) (G : kG) (hN : 133 ≤ kN G) (w : Nat → va_E) (fl : va_W) (g nl : Nat → Int) (sv : Int) (T dr : Int) (hT : -2147483648 ≤ T ∧ T ≤ 2147483647) (hdr : dr = 0 ∨ dr = 1) (hI : Inv g) (h00 : w 0 = srO G sv) (hL : kLog G w 3 g) (hP : kPlan G w 32 g nl) (hCt : kCht G w) : KX l G yX11_unknownCurrent cX11_unknownCurrent 4 (some (FieldType.int)) 8 8 48 [.ref (kad G 0), vI T, vI dr] w fl (kOk (1 ≤ T ∧ T ≤ 5000) (vI (unkV g T dr)) fl (kCP G w)) (kTh (False) (¬ (1 ≤ T ∧ T ≤ 5000)) fl (kCP G w)) := by
  refine KX_of2 hls (by decide +kernel) rfl (lv0 := [(0, .ref (kad G 0)), (1, vI T), (2, vI dr)]) rfl (Nat.le_of_ble_eq_true rfl) (fun p e R s m args below meth c Q hC hr htb hQ => ?_)
  subst hQ
  obtain ⟨⟨h10, h11⟩, hLn, hSh, hH, h14, h15⟩ := hCt
  have h0 := hI.c
  refine k_iload_n hC dX11_unknownCurrent_0 rfl 1 rfl ?_
  refine k_iconst hC dX11_unknownCurrent_1 ?_
  refine k_icmp_lt hC 12 dX11_unknownCurrent_2 rfl (by omega) (by omega) (fun c_2 => ?_) (fun c_2 => ?_)
  · exact k_thrIW hC htb (List.mem_of_getElem? (i := 14) rfl) (by decide) ⟨by decide, by decide⟩ (Nat.le_of_ble_eq_true rfl) dX11_unknownCurrent_12 dX11_unknownCurrent_15 dX11_unknownCurrent_16 dX11_unknownCurrent_19 dX11_unknownCurrent_22 (⟨Or.inr ⟨rfl, by omega⟩, rfl, ⟨⟨⟨h10, h11⟩, hLn, hSh, hH, h14, h15⟩, fun j hj => rfl⟩⟩)
  · refine k_iload_n hC dX11_unknownCurrent_5 rfl 1 rfl ?_
    refine k_sipush hC dX11_unknownCurrent_6 (by decide) ?_
    refine k_icmp_le hC 23 dX11_unknownCurrent_9 rfl (by omega) (by omega) (fun c_9 => ?_) (fun c_9 => ?_)
    · refine k_aload_n hC dX11_unknownCurrent_23 rfl 0 rfl ?_
      refine k_get hC fd_X11_43 (kl hN (by decide)) h00 rfl dX11_unknownCurrent_24 ?_
      refine k_aload_n hC dX11_unknownCurrent_27 rfl 0 rfl ?_
      refine k_get hC fd_X11_25 (kl hN (by decide)) h00 rfl dX11_unknownCurrent_28 ?_
      refine k_aload_n hC dX11_unknownCurrent_31 rfl 0 rfl ?_
      refine k_get hC fd_X11_29 (kl hN (by decide)) h00 rfl dX11_unknownCurrent_32 ?_
      refine k_iload_n hC dX11_unknownCurrent_35 rfl 1 rfl ?_
      refine k_mutV hC (c_X0_findFix l hls G hN w fl g nl T hI (by omega) hL hP h10 h11 hLn hSh h15) yy_X0_findFix wm_X11_346 (kl hN (by decide)) h10 rfl rfl rfl rfl (Nat.le_of_ble_eq_true rfl) (by decide) (by decide) ⟨by decide, by decide⟩ dX11_unknownCurrent_36 (fun w1 hp1 => ?_)
      obtain ⟨⟨fz, fx, fy, h15_1, hfx⟩, hD1, hLn1, ⟨fla, flo, hsh1⟩, hf1⟩ := hp1
      have hfi := fixI_c g
      refine k_if_ne hC 45 dX11_unknownCurrent_39 rfl (by omega) (fun c_39 => ?_) (fun c_39 => ?_)
      · have ht : 0 ≤ T ∧ T ≤ 5000 := by omega
        have hfp : fixP g := ((fixI_c g).resolve_right (fun q1 => by omega)).2
        obtain ⟨efx, efy⟩ := hfx hfp
        subst efx
        subst efy
        have hfe := fixE_b g T
        have hfn := fixN_b g T
        have hd1 := dispM_b hI ht false
        have hd2 := dispM_b hI ht true
        have hdst := dstM_b hI ht
        refine k_aload_n hC dX11_unknownCurrent_45 rfl 0 rfl ?_
        have h_2 : w1 0 = .inr (11, [.ref (kad G 1), .ref (kad G 32), .ref (kad G 3), .ref (kad G 37), vI sv, .ref (kad G 44), .ref (kad G 10), .ref (kad G 116), .ref (kad G 129), .ref (kad G 132)]) := (hf1 0 (by omega)).trans h00
        refine k_get hC fd_X11_43 (kl hN (by decide)) h_2 rfl dX11_unknownCurrent_46 ?_
        have h_3 : w1 10 = .inr (0, [.ref (kad G 11), .ref (kad G 12), .ref (kad G 13), .ref (kad G 14), .ref (kad G 15), .ref (kad G 16)]) := (hf1 10 (by omega)).trans h10
        have h_4 : w1 11 = rA G 4 12 (fun j => some (kad G (20 + j))) := (hf1 11 (by omega)).trans h11
        refine k_pureV hC (c_X0_distanceOff l hls G hN w1 fl fz (fixE g T) (fixN g T) (dispM g T false) (dispM g T true) fla flo h_3 h_4 (by omega) (by omega) (by omega) (by omega) h15_1 hsh1) yy_X0_distanceOff wm_X11_362 (kl hN (by decide)) h_3 rfl rfl rfl rfl (Nat.le_of_ble_eq_true rfl) (by decide) (by decide) ⟨by decide, by decide⟩ dX11_unknownCurrent_49 ?_
        refine k_topI (fun di edi => ?_)
        refine k_istore_n hC [(3, vI di), (0, .ref (kad G 0)), (1, vI T), (2, vI dr)] dX11_unknownCurrent_52 rfl (by decide) rfl ?_
        rw [show rootM _ = dstM g T from rfl] at edi
        have hfd := k_fdivb (a := 6 * dstM g T) (b := T) (by omega)
        refine k_iload_n hC dX11_unknownCurrent_53 rfl 3 rfl ?_
        refine k_if_eq hC 72 dX11_unknownCurrent_54 rfl (by omega) (fun c_54 => ?_) (fun c_54 => ?_)
        · refine k_aload_n hC dX11_unknownCurrent_72 rfl 1 rfl ?_
          refine k_get hC fd_X11_43 (kl hN (by decide)) h_2 rfl dX11_unknownCurrent_73 ?_
          refine k_iload_n hC dX11_unknownCurrent_76 rfl 0 rfl ?_
          refine k_pureV hC (c_X0_directionOff l hls G hN w1 fl fz (fixE g T) (fixN g T) (dispM g T false) (dispM g T true) fla flo di h_3 h_4 (by omega) (by omega) (by omega) (by omega) (by omega) h15_1 hsh1) yy_X0_directionOff wm_X11_373 (kl hN (by decide)) h_3 rfl rfl rfl rfl (Nat.le_of_ble_eq_true rfl) (by decide) (by decide) ⟨by decide, by decide⟩ dX11_unknownCurrent_77 ?_
          have hB_5 : kHat G w1 := hH.fr (fun j q1 q2 => (hf1 j (by omega)))
          have hB_6 : kPl14 w1 := h14.fr (fun j q1 q2 => (hf1 j (by omega)))
          exact k_iretX hC hr ⟨by decide, by decide⟩ (⟨(by omega), congrArg (fun z => some (vI z)) (show ((unkV g T dr : _) = dirM ((fixE g T) - (dispM g T false)) ((fixN g T) - (dispM g T true)) di) from (by unfold unkV; first | exact selI_0 nfp | (rw [selI_1 hfp]; first | (rw [if_neg (by omega), edi]) | (rw [if_pos (by omega), edi])))), rfl, ⟨⟨⟨h_3, h_4⟩, hLn1, ⟨_, _, _, _, hsh1⟩, hB_5, hB_6, ⟨_, _, _, h15_1⟩⟩, fun j hj => hf1 j (by omega)⟩⟩) dX11_unknownCurrent_80
        · refine k_ldc2 hC (x := 6) (v := 6) dX11_unknownCurrent_57 (by decide) wk_X11_367 ?_
          refine k_iload_n hC dX11_unknownCurrent_60 rfl 0 rfl ?_
          refine k_i2l hC dX11_unknownCurrent_61 (by omega) ?_
          refine k_lmul hC dX11_unknownCurrent_62 ?_
          refine k_iload_n hC dX11_unknownCurrent_63 rfl 2 rfl ?_
          refine k_i2l hC dX11_unknownCurrent_64 (by omega) ?_
          refine k_pureS hC (c_X11_down l hls G hN w1 fl (6 * di) T (by omega) (by omega)) yy_X11_down wm_X11_369 rfl rfl (Nat.le_of_ble_eq_true rfl) (by decide) (by decide) ⟨by decide, by decide⟩ dX11_unknownCurrent_65 ?_
          refine k_l2i hC dX11_unknownCurrent_68 ?_
          refine k_goto hC 80 dX11_unknownCurrent_69 rfl ?_
          have hB_7 : kHat G w1 := hH.fr (fun j q1 q2 => (hf1 j (by omega)))
          have hB_8 : kPl14 w1 := h14.fr (fun j q1 q2 => (hf1 j (by omega)))
          exact k_iretX hC hr ⟨by decide, by decide⟩ (⟨(by omega), congrArg (fun z => some (vI z)) (show ((unkV g T dr : _) = (6 * di).fdiv T) from (by unfold unkV; first | exact selI_0 nfp | (rw [selI_1 hfp]; first | (rw [if_neg (by omega), edi]) | (rw [if_pos (by omega), edi])))), rfl, ⟨⟨⟨h_3, h_4⟩, hLn1, ⟨_, _, _, _, hsh1⟩, hB_7, hB_8, ⟨_, _, _, h15_1⟩⟩, fun j hj => hf1 j (by omega)⟩⟩) dX11_unknownCurrent_80
      · have nfp : ¬ fixP g := ((fixI_c g).resolve_left (fun q1 => by omega)).2
        refine k_ldc hC (x := (-1000000000)) (v := (-1000000000)) dX11_unknownCurrent_42 (by decide) wk_X11_143 ?_
        have hB_9 : kHat G w1 := hH.fr (fun j q1 q2 => (hf1 j (by omega)))
        have hB_10 : kPl14 w1 := h14.fr (fun j q1 q2 => (hf1 j (by omega)))
        have h_11 : w1 10 = .inr (0, [.ref (kad G 11), .ref (kad G 12), .ref (kad G 13), .ref (kad G 14), .ref (kad G 15), .ref (kad G 16)]) := (hf1 10 (by omega)).trans h10
        have h_12 : w1 11 = rA G 4 12 (fun j => some (kad G (20 + j))) := (hf1 11 (by omega)).trans h11
        exact k_iretX hC hr ⟨by decide, by decide⟩ (⟨(by omega), congrArg (fun z => some (vI z)) (show ((unkV g T dr : _) = -1000000000) from (by unfold unkV; first | exact selI_0 nfp | (rw [selI_1 hfp]; first | (rw [if_neg (by omega), edi]) | (rw [if_pos (by omega), edi])))), rfl, ⟨⟨⟨h_11, h_12⟩, hLn1, ⟨_, _, _, _, hsh1⟩, hB_9, hB_10, ⟨_, _, _, h15_1⟩⟩, fun j hj => hf1 j (by omega)⟩⟩) dX11_unknownCurrent_44
    · exact k_thrIW hC htb (List.mem_of_getElem? (i := 14) rfl) (by decide) ⟨by decide, by decide⟩ (Nat.le_of_ble_eq_true rfl) dX11_unknownCurrent_12 dX11_unknownCurrent_15 dX11_unknownCurrent_16 dX11_unknownCurrent_19 dX11_unknownCurrent_22 (⟨Or.inr ⟨rfl, by omega⟩, rfl, ⟨⟨⟨h10, h11⟩, hLn, hSh, hH, h14, h15⟩, fun j hj => rfl⟩⟩)

set_option maxRecDepth 100000 in
set_option maxHeartbeats 4000000 in
theorem c_X11_worst (l : Launch) (hls : l.stackTraces = false) (G : kG) (hN : 133 ≤ kN G) (w : Nat → va_E) (fl : va_W) (g nl : Nat → Int) (sv : Int) (T : Int) (hT : -2147483648 ≤ T ∧ T ≤ 2147483647) (hI : Inv g) (h00 : w 0 = srO G sv) (hL : kLog G w 3 g) (hP : kPlan G w 32 g nl) (hCt : kCht G w) : KX l G yX11_worst cX11_worst 6 (some (FieldType.int)) 9 8 48 [.ref (kad G 0), vI T] w fl (kOk ((0 ≤ T ∧ T ≤ 5000)) (vI (worV g T)) fl (kCP G w)) (kTh (False) (¬ (0 ≤ T ∧ T ≤ 5000)) fl (kCP G w)) := by
  refine KX_of2 hls (by decide +kernel) rfl (lv0 := [(0, .ref (kad G 0)), (1, vI T)]) rfl (Nat.le_of_ble_eq_true rfl) (fun p e R s m args below meth c Q hC hr htb hQ => ?_)
  subst hQ
  obtain ⟨⟨h10, h11⟩, hLn, hSh, hH, h14, h15⟩ := hCt
  have h0 := hI.c
  refine k_iload_n hC dX11_worst_0 rfl 1 rfl ?_
  refine k_callSX hC (c_X11_needTime l hls G hN w fl T (by omega)) yy_X11_needTime wm_X11_226 rfl rfl (Nat.le_of_ble_eq_true rfl) (by decide) (by decide) ⟨by decide, by decide⟩ dX11_worst_1 htb ⟨by decide, by decide⟩ (fun E1 w9 fl9 hx1 => by obtain ⟨q1, q2, q3, q4⟩ := hx1; subst q1; subst q3; subst q4; exact ⟨Or.inr ⟨rfl, by omega⟩, rfl, ⟨⟨⟨h10, h11⟩, hLn, hSh, hH, h14, h15⟩, fun j hj => rfl⟩⟩) (fun v9 w9 fl9 hp1 => ?_)
  obtain ⟨hc1_1, q1, q2, q3⟩ := hp1; subst q1; subst q2; subst q3
  have ht : 0 ≤ T ∧ T ≤ 5000 := by omega
  refine k_aload_n hC dX11_worst_4 rfl 0 rfl ?_
  refine k_get hC fd_X11_43 (kl hN (by decide)) h00 rfl dX11_worst_5 ?_
  refine k_aload_n hC dX11_worst_8 rfl 0 rfl ?_
  refine k_get hC fd_X11_25 (kl hN (by decide)) h00 rfl dX11_worst_9 ?_
  refine k_aload_n hC dX11_worst_12 rfl 0 rfl ?_
  refine k_get hC fd_X11_29 (kl hN (by decide)) h00 rfl dX11_worst_13 ?_
  refine k_iload_n hC dX11_worst_16 rfl 1 rfl ?_
  refine k_mutV hC (c_X0_findFix l hls G hN w fl g nl T hI (by omega) hL hP h10 h11 hLn hSh h15) yy_X0_findFix wm_X11_346 (kl hN (by decide)) h10 rfl rfl rfl rfl (Nat.le_of_ble_eq_true rfl) (by decide) (by decide) ⟨by decide, by decide⟩ dX11_worst_17 (fun w2 hp2 => ?_)
  obtain ⟨⟨fz, fx, fy, h15_2, hfx⟩, hD2, hLn2, ⟨fla, flo, hsh2⟩, hf2⟩ := hp2
  have hfi := fixI_c g
  refine k_if_ne hC 25 dX11_worst_20 rfl (by omega) (fun c_20 => ?_) (fun c_20 => ?_)
  · have hfp : fixP g := ((fixI_c g).resolve_right (fun q1 => by omega)).2
    obtain ⟨efx, efy⟩ := hfx hfp
    subst efx
    subst efy
    have hfe := fixE_b g T
    have hfn := fixN_b g T
    have hd1 := dispM_b hI ht false
    have hd2 := dispM_b hI ht true
    have hdst := dstM_b hI ht
    refine k_iconst hC dX11_worst_25 ?_
    refine k_istore_n hC [(2, vI (-1)), (0, .ref (kad G 0)), (1, vI T)] dX11_worst_26 rfl (by decide) rfl ?_
    refine k_iconst hC dX11_worst_27 ?_
    refine k_istore_n hC [(3, vI (-1)), (2, vI (-1)), (0, .ref (kad G 0)), (1, vI T)] dX11_worst_28 rfl (by decide) rfl ?_
    refine k_iconst hC dX11_worst_29 ?_
    refine k_istore hC [(4, vI 0), (3, vI (-1)), (2, vI (-1)), (0, .ref (kad G 0)), (1, vI T)] dX11_worst_30 (by decide) rfl ?_
    have loop : ∀ (n : Nat) (k : Nat) (f : Int) (b : Int), ((g 2).toNat < n + k) → ((k : Int) ≤ g 2) → ((-1 ≤ f ∧ f ≤ 12) ∧ (-1 ≤ b ∧ b ≤ 6300000)) → ((f, b) = worS g T k) → KW p l e R s m args below meth c 6 G (vx_MQ below (kQ G (kOk ((0 ≤ T ∧ T ≤ 5000)) (vI (worV g T)) fl (kCP G w))) (kXC G (kTh (False) (¬ (0 ≤ T ∧ T ≤ 5000)) fl (kCP G w))) args s 8 48 (kA G)) w2 fl 1 6 32 [(4, vI (k : Int)), (3, vI b), (2, vI f), (0, .ref (kad G 0)), (1, vI T)] [] := by
      intro n
      induction n with
      | zero =>
        intro k f b hn_ hk hst hq
        exact absurd hn_ (by omega)
      | succ n ih =>
        intro k f b hn_ hk hst hq
        refine k_iload hC dX11_worst_32 0 rfl ?_
        refine k_aload_n hC dX11_worst_34 rfl 3 rfl ?_
        have h_3 : w2 0 = .inr (11, [.ref (kad G 1), .ref (kad G 32), .ref (kad G 3), .ref (kad G 37), vI sv, .ref (kad G 44), .ref (kad G 10), .ref (kad G 116), .ref (kad G 129), .ref (kad G 132)]) := (hf2 0 (by omega)).trans h00
        refine k_get hC fd_X11_29 (kl hN (by decide)) h_3 rfl dX11_worst_35 ?_
        have hB_4 : kLog G w2 3 g := hL.fr (fun j q1 q2 => (hf2 j (by omega)))
        refine k_get hC fd_X11_112 (kl hN (by decide)) hB_4.1 rfl dX11_worst_38 ?_
        refine k_icmp_ge hC 86 dX11_worst_41 rfl (by omega) (by omega) (fun c_41 => ?_) (fun c_41 => ?_)
        · have ek : (g 2).toNat = k := by omega
          refine k_iload_n hC dX11_worst_86 rfl 2 rfl ?_
          have hB_5 : kHat G w2 := hH.fr (fun j q1 q2 => (hf2 j (by omega)))
          have hB_6 : kPl14 w2 := h14.fr (fun j q1 q2 => (hf2 j (by omega)))
          have h_7 : w2 10 = .inr (0, [.ref (kad G 11), .ref (kad G 12), .ref (kad G 13), .ref (kad G 14), .ref (kad G 15), .ref (kad G 16)]) := (hf2 10 (by omega)).trans h10
          have h_8 : w2 11 = rA G 4 12 (fun j => some (kad G (20 + j))) := (hf2 11 (by omega)).trans h11
          exact k_iretX hC hr ⟨by decide, by decide⟩ (⟨(by omega), congrArg (fun z => some (vI z)) (show ((worV g T : _) = f) from (by unfold worV; first | exact selI_0 nfp | (rw [selI_1 hfp, ek, ← hq]))), rfl, ⟨⟨⟨h_7, h_8⟩, hLn2, ⟨_, _, _, _, hsh2⟩, hB_5, hB_6, ⟨_, _, _, h15_2⟩⟩, fun j hj => hf2 j (by omega)⟩⟩) dX11_worst_87
        · have hrb := resM_b hI ht k (by omega)
          have hcr := carM_b hI k (by omega) ht
          have hal := along_b 1000000 1000000 (fixE_b g T) (fixN_b g T) (sinM_b (aziM g k)) (cosM_b (aziM g k))
          have hln_9 := hD2 k (by omega) (by omega)
          have hcb_10 := carM_b hI k (by omega) ht
          have hsb_11 := sinM_b (aziM g k)
          have hcb_12 := cosM_b (aziM g k)
          refine k_aload_n hC dX11_worst_44 rfl 3 rfl ?_
          refine k_get hC fd_X11_43 (kl hN (by decide)) h_3 rfl dX11_worst_45 ?_
          refine k_iload hC dX11_worst_48 0 rfl ?_
          have h_13 : w2 10 = .inr (0, [.ref (kad G 11), .ref (kad G 12), .ref (kad G 13), .ref (kad G 14), .ref (kad G 15), .ref (kad G 16)]) := (hf2 10 (by omega)).trans h10
          have h_14 : w2 11 = rA G 4 12 (fun j => some (kad G (20 + j))) := (hf2 11 (by omega)).trans h11
          refine k_pureV hC (c_X0_lineOf l hls G hN w2 fl k (by omega) h_13 h_14) yy_X0_lineOf wm_X11_257 (kl hN (by decide)) h_13 rfl rfl rfl rfl (Nat.le_of_ble_eq_true rfl) (by decide) (by decide) ⟨by decide, by decide⟩ dX11_worst_50 ?_
          refine k_aload_n hC dX11_worst_53 rfl 3 rfl ?_
          refine k_get hC fd_X11_43 (kl hN (by decide)) h_3 rfl dX11_worst_54 ?_
          refine k_get hC fd_X11_350 (kl hN (by decide)) h_13 rfl dX11_worst_57 ?_
          refine k_pureV hC (c_X3_missedBy l hls G hN w2 fl (20 + k) 15 (apM g k) (obsM g k) (expM g k) (aziM g k) (intM g k) (offM g k) (carM g k T) (sinM (aziM g k)) (cosM (aziM g k)) fz (fixE g T) (fixN g T) (by omega) (by omega) (by omega) (by omega) (by omega) (by omega) hln_9 h15_2) yy_X3_missedBy wm_X11_353 (kl hN (by omega)) hln_9 rfl rfl rfl rfl (Nat.le_of_ble_eq_true rfl) (by decide) (by decide) ⟨by decide, by decide⟩ dX11_worst_60 ?_
          refine k_mabs hC wm_X11_357 wmath_mabs (by omega) (by decide) (Nat.le_of_ble_eq_true rfl) ⟨by decide, by decide⟩ dX11_worst_63 ?_
          refine k_istore hC [(5, vI ((along (fixE g T) (fixN g T) (sinM (aziM g k)) (cosM (aziM g k)) - (carM g k T)).natAbs : Int)), (4, vI (k : Int)), (3, vI b), (2, vI f), (0, .ref (kad G 0)), (1, vI T)] dX11_worst_66 (by decide) rfl ?_
          refine k_iload hC dX11_worst_68 0 rfl ?_
          refine k_iload_n hC dX11_worst_70 rfl 2 rfl ?_
          refine k_icmp_le hC 80 dX11_worst_71 rfl (by omega) (by omega) (fun c_71 => ?_) (fun c_71 => ?_)
          · refine k_iinc hC (y := (k : Int) + 1) [(4, vI ((k : Int) + 1)), (5, vI ((along (fixE g T) (fixN g T) (sinM (aziM g k)) (cosM (aziM g k)) - (carM g k T)).natAbs : Int)), (3, vI b), (2, vI f), (0, .ref (kad G 0)), (1, vI T)] (j := 1) dX11_worst_80 rfl (by omega) (by decide) rfl ?_
            refine k_goto hC 32 dX11_worst_83 rfl ?_
            refine k_lvs (ls := [0, 2, 3, 4, 5]) [(4, vI ((k : Int) + 1)), (3, vI b), (2, vI f), (0, .ref (kad G 0)), (1, vI T)] rfl ?_
            refine k_lvs (ls := [0, 1, 2, 3, 4]) [(4, vI ((k + 1 : Nat) : Int)), (3, vI b), (2, vI f), (0, .ref (kad G 0)), (1, vI T)] (by simp only [lv_pick]; rfl) ?_
            exact ih (k + 1) f b  (by omega) (by omega) (by omega) (by show _ = @ite (Int × Int) _ _ _ _; rw [← hq]; first | exact (if_pos (show b < ((resM g T k).natAbs : Int) by unfold resM; omega)).symm | exact (if_neg (show ¬ b < ((resM g T k).natAbs : Int) by unfold resM; omega)).symm)
          · refine k_iload hC dX11_worst_74 1 rfl ?_
            refine k_istore_n hC [(2, vI (k : Int)), (5, vI ((along (fixE g T) (fixN g T) (sinM (aziM g k)) (cosM (aziM g k)) - (carM g k T)).natAbs : Int)), (4, vI (k : Int)), (3, vI b), (0, .ref (kad G 0)), (1, vI T)] dX11_worst_76 rfl (by decide) rfl ?_
            refine k_iload hC dX11_worst_77 1 rfl ?_
            refine k_istore_n hC [(3, vI ((along (fixE g T) (fixN g T) (sinM (aziM g k)) (cosM (aziM g k)) - (carM g k T)).natAbs : Int)), (2, vI (k : Int)), (5, vI ((along (fixE g T) (fixN g T) (sinM (aziM g k)) (cosM (aziM g k)) - (carM g k T)).natAbs : Int)), (4, vI (k : Int)), (0, .ref (kad G 0)), (1, vI T)] dX11_worst_79 rfl (by decide) rfl ?_
            refine k_iinc hC (y := (k : Int) + 1) [(4, vI ((k : Int) + 1)), (3, vI ((along (fixE g T) (fixN g T) (sinM (aziM g k)) (cosM (aziM g k)) - (carM g k T)).natAbs : Int)), (2, vI (k : Int)), (5, vI ((along (fixE g T) (fixN g T) (sinM (aziM g k)) (cosM (aziM g k)) - (carM g k T)).natAbs : Int)), (0, .ref (kad G 0)), (1, vI T)] (j := 3) dX11_worst_80 rfl (by omega) (by decide) rfl ?_
            refine k_goto hC 32 dX11_worst_83 rfl ?_
            refine k_lvs (ls := [0, 1, 2, 4, 5]) [(4, vI ((k : Int) + 1)), (3, vI ((along (fixE g T) (fixN g T) (sinM (aziM g k)) (cosM (aziM g k)) - (carM g k T)).natAbs : Int)), (2, vI (k : Int)), (0, .ref (kad G 0)), (1, vI T)] rfl ?_
            refine k_lvs (ls := [0, 1, 2, 3, 4]) [(4, vI ((k + 1 : Nat) : Int)), (3, vI ((along (fixE g T) (fixN g T) (sinM (aziM g k)) (cosM (aziM g k)) - (carM g k T)).natAbs : Int)), (2, vI (k : Int)), (0, .ref (kad G 0)), (1, vI T)] (by simp only [lv_pick]; rfl) ?_
            exact ih (k + 1) (k : Int) ((along (fixE g T) (fixN g T) (sinM (aziM g k)) (cosM (aziM g k)) - (carM g k T)).natAbs : Int)  (by omega) (by omega) (by omega) (by show _ = @ite (Int × Int) _ _ _ _; rw [← hq]; first | exact (if_pos (show b < ((resM g T k).natAbs : Int) by unfold resM; omega)).symm | exact (if_neg (show ¬ b < ((resM g T k).natAbs : Int) by unfold resM; omega)).symm)
    refine k_lvs (ls := [0, 1, 2, 3, 4]) [(4, vI ((0 : Nat) : Int)), (3, vI (-1)), (2, vI (-1)), (0, .ref (kad G 0)), (1, vI T)] (by simp only [lv_pick]; rfl) ?_
    exact loop 13 0 (-1) (-1)  (by omega) (by omega) (by omega) rfl
  · have nfp : ¬ fixP g := ((fixI_c g).resolve_left (fun q1 => by omega)).2
    refine k_iconst hC dX11_worst_23 ?_
    have hB_15 : kHat G w2 := hH.fr (fun j q1 q2 => (hf2 j (by omega)))
    have hB_16 : kPl14 w2 := h14.fr (fun j q1 q2 => (hf2 j (by omega)))
    have h_17 : w2 10 = .inr (0, [.ref (kad G 11), .ref (kad G 12), .ref (kad G 13), .ref (kad G 14), .ref (kad G 15), .ref (kad G 16)]) := (hf2 10 (by omega)).trans h10
    have h_18 : w2 11 = rA G 4 12 (fun j => some (kad G (20 + j))) := (hf2 11 (by omega)).trans h11
    exact k_iretX hC hr ⟨by decide, by decide⟩ (⟨(by omega), congrArg (fun z => some (vI z)) (show ((worV g T : _) = -1) from (by unfold worV; first | exact selI_0 nfp | (rw [selI_1 hfp, ek, ← hq]))), rfl, ⟨⟨⟨h_17, h_18⟩, hLn2, ⟨_, _, _, _, hsh2⟩, hB_15, hB_16, ⟨_, _, _, h15_2⟩⟩, fun j hj => hf2 j (by omega)⟩⟩) dX11_worst_24

set_option maxRecDepth 100000 in
set_option maxHeartbeats 4000000 in
theorem c_X11_meanResidual (l : Launch) (hls : l.stackTraces = false) (G : kG) (hN : 133 ≤ kN G) (w : Nat → va_E) (fl : va_W) (g nl : Nat → Int) (sv : Int) (T : Int) (hT : -2147483648 ≤ T ∧ T ≤ 2147483647) (hI : Inv g) (h00 : w 0 = srO G sv) (hL : kLog G w 3 g) (hP : kPlan G w 32 g nl) (hCt : kCht G w) : KX l G yX11_meanResidual cX11_meanResidual 5 (some (FieldType.double)) 9 8 48 [.ref (kad G 0), vI T] w fl (kOk ((0 ≤ T ∧ T ≤ 5000)) (Value.double (mrV g T)) fl (kCP G w)) (kTh (False) (¬ (0 ≤ T ∧ T ≤ 5000)) fl (kCP G w)) := by
  refine KX_of2 hls (by decide +kernel) rfl (lv0 := [(0, .ref (kad G 0)), (1, vI T)]) rfl (Nat.le_of_ble_eq_true rfl) (fun p e R s m args below meth c Q hC hr htb hQ => ?_)
  subst hQ
  obtain ⟨⟨h10, h11⟩, hLn, hSh, hH, h14, h15⟩ := hCt
  have h0 := hI.c
  refine k_iload_n hC dX11_meanResidual_0 rfl 1 rfl ?_
  refine k_callSX hC (c_X11_needTime l hls G hN w fl T (by omega)) yy_X11_needTime wm_X11_226 rfl rfl (Nat.le_of_ble_eq_true rfl) (by decide) (by decide) ⟨by decide, by decide⟩ dX11_meanResidual_1 htb ⟨by decide, by decide⟩ (fun E1 w9 fl9 hx1 => by obtain ⟨q1, q2, q3, q4⟩ := hx1; subst q1; subst q3; subst q4; exact ⟨Or.inr ⟨rfl, by omega⟩, rfl, ⟨⟨⟨h10, h11⟩, hLn, hSh, hH, h14, h15⟩, fun j hj => rfl⟩⟩) (fun v9 w9 fl9 hp1 => ?_)
  obtain ⟨hc1_1, q1, q2, q3⟩ := hp1; subst q1; subst q2; subst q3
  have ht : 0 ≤ T ∧ T ≤ 5000 := by omega
  refine k_aload_n hC dX11_meanResidual_4 rfl 0 rfl ?_
  refine k_get hC fd_X11_29 (kl hN (by decide)) h00 rfl dX11_meanResidual_5 ?_
  refine k_get hC fd_X11_112 (kl hN (by decide)) hL.1 rfl dX11_meanResidual_8 ?_
  refine k_if_eq hC 33 dX11_meanResidual_11 rfl (by omega) (fun c_11 => ?_) (fun c_11 => ?_)
  · refine k_dconst0 hC dX11_meanResidual_33 ?_
    exact k_dretX hC hr ⟨by decide, by decide⟩ (⟨(by omega), congrArg (fun z => some (Value.double z)) (show ((mrV g T : _) = 0) from (by unfold mrV; first | exact if_pos (Or.inl (by omega)) | exact if_pos (Or.inr nfp) | (rw [if_neg (fun q1 => q1.elim (fun q2 => by omega) (fun q2 => q2 hfp)), ek, ← hq]))), rfl, ⟨⟨⟨h10, h11⟩, hLn, hSh, hH, h14, h15⟩, fun j hj => rfl⟩⟩) dX11_meanResidual_34
  · refine k_aload_n hC dX11_meanResidual_14 rfl 0 rfl ?_
    refine k_get hC fd_X11_43 (kl hN (by decide)) h00 rfl dX11_meanResidual_15 ?_
    refine k_aload_n hC dX11_meanResidual_18 rfl 0 rfl ?_
    refine k_get hC fd_X11_25 (kl hN (by decide)) h00 rfl dX11_meanResidual_19 ?_
    refine k_aload_n hC dX11_meanResidual_22 rfl 0 rfl ?_
    refine k_get hC fd_X11_29 (kl hN (by decide)) h00 rfl dX11_meanResidual_23 ?_
    refine k_iload_n hC dX11_meanResidual_26 rfl 1 rfl ?_
    refine k_mutV hC (c_X0_findFix l hls G hN w fl g nl T hI (by omega) hL hP h10 h11 hLn hSh h15) yy_X0_findFix wm_X11_346 (kl hN (by decide)) h10 rfl rfl rfl rfl (Nat.le_of_ble_eq_true rfl) (by decide) (by decide) ⟨by decide, by decide⟩ dX11_meanResidual_27 (fun w2 hp2 => ?_)
    obtain ⟨⟨fz, fx, fy, h15_2, hfx⟩, hD2, hLn2, ⟨fla, flo, hsh2⟩, hf2⟩ := hp2
    have hfi := fixI_c g
    refine k_if_ne hC 35 dX11_meanResidual_30 rfl (by omega) (fun c_30 => ?_) (fun c_30 => ?_)
    · have hfp : fixP g := ((fixI_c g).resolve_right (fun q1 => by omega)).2
      obtain ⟨efx, efy⟩ := hfx hfp
      subst efx
      subst efy
      have hfe := fixE_b g T
      have hfn := fixN_b g T
      have hd1 := dispM_b hI ht false
      have hd2 := dispM_b hI ht true
      have hdst := dstM_b hI ht
      refine k_lconst (x := 0) hC dX11_meanResidual_35 (by decide) ?_
      refine k_lstore_n hC [(2, vL 0), (0, .ref (kad G 0)), (1, vI T)] dX11_meanResidual_36 rfl (by decide) rfl ?_
      refine k_iconst hC dX11_meanResidual_37 ?_
      refine k_istore hC [(4, vI 0), (2, vL 0), (0, .ref (kad G 0)), (1, vI T)] dX11_meanResidual_38 (by decide) rfl ?_
      have loop : ∀ (n : Nat) (k : Nat) (sm : Int), ((g 2).toNat < n + k) → ((k : Int) ≤ g 2) → (0 ≤ sm ∧ sm ≤ 6300000 * (k : Int)) → (sm = sumR g T k) → KW p l e R s m args below meth c 5 G (vx_MQ below (kQ G (kOk ((0 ≤ T ∧ T ≤ 5000)) (Value.double (mrV g T)) fl (kCP G w))) (kXC G (kTh (False) (¬ (0 ≤ T ∧ T ≤ 5000)) fl (kCP G w))) args s 8 48 (kA G)) w2 fl 1 6 40 [(4, vI (k : Int)), (2, vL sm), (0, .ref (kad G 0)), (1, vI T)] [] := by
        intro n
        induction n with
        | zero =>
          intro k sm hn_ hk hst hq
          exact absurd hn_ (by omega)
        | succ n ih =>
          intro k sm hn_ hk hst hq
          refine k_iload hC dX11_meanResidual_40 0 rfl ?_
          refine k_aload_n hC dX11_meanResidual_42 rfl 2 rfl ?_
          have h_3 : w2 0 = .inr (11, [.ref (kad G 1), .ref (kad G 32), .ref (kad G 3), .ref (kad G 37), vI sv, .ref (kad G 44), .ref (kad G 10), .ref (kad G 116), .ref (kad G 129), .ref (kad G 132)]) := (hf2 0 (by omega)).trans h00
          refine k_get hC fd_X11_29 (kl hN (by decide)) h_3 rfl dX11_meanResidual_43 ?_
          have h_4 : w2 3 = .inr (4, [vI (g 5), vI (g 6), vI (g 7), vI (g 8), vI (g 1), .ref (kad G 4), .ref (kad G 5), .ref (kad G 6), vI (g 2), .ref (kad G 7), .ref (kad G 8), .ref (kad G 9)]) := (hf2 3 (by omega)).trans hL.1
          refine k_get hC fd_X11_112 (kl hN (by decide)) h_4 rfl dX11_meanResidual_46 ?_
          refine k_icmp_ge hC 84 dX11_meanResidual_49 rfl (by omega) (by omega) (fun c_49 => ?_) (fun c_49 => ?_)
          · have ek : (g 2).toNat = k := by omega
            refine k_lload_n hC dX11_meanResidual_84 rfl 1 rfl ?_
            refine k_l2d hC dX11_meanResidual_85 (by omega) ?_
            refine k_aload_n hC dX11_meanResidual_86 rfl 2 rfl ?_
            refine k_get hC fd_X11_29 (kl hN (by decide)) h_3 rfl dX11_meanResidual_87 ?_
            refine k_get hC fd_X11_112 (kl hN (by decide)) h_4 rfl dX11_meanResidual_90 ?_
            refine k_i2d hC dX11_meanResidual_93 (by omega) ?_
            refine k_ddiv hC dX11_meanResidual_94 (ddiv_n _ (by omega)) ?_
            have hB_5 : kHat G w2 := hH.fr (fun j q1 q2 => (hf2 j (by omega)))
            have hB_6 : kPl14 w2 := h14.fr (fun j q1 q2 => (hf2 j (by omega)))
            have h_7 : w2 10 = .inr (0, [.ref (kad G 11), .ref (kad G 12), .ref (kad G 13), .ref (kad G 14), .ref (kad G 15), .ref (kad G 16)]) := (hf2 10 (by omega)).trans h10
            have h_8 : w2 11 = rA G 4 12 (fun j => some (kad G (20 + j))) := (hf2 11 (by omega)).trans h11
            exact k_dretX hC hr ⟨by decide, by decide⟩ (⟨(by omega), congrArg (fun z => some (Value.double z)) (show ((mrV g T : _) = FP.ddiv (dI sm) (dI (g 2))) from (by unfold mrV; first | exact if_pos (Or.inl (by omega)) | exact if_pos (Or.inr nfp) | (rw [if_neg (fun q1 => q1.elim (fun q2 => by omega) (fun q2 => q2 hfp)), ek, ← hq]))), rfl, ⟨⟨⟨h_7, h_8⟩, hLn2, ⟨_, _, _, _, hsh2⟩, hB_5, hB_6, ⟨_, _, _, h15_2⟩⟩, fun j hj => hf2 j (by omega)⟩⟩) dX11_meanResidual_95
          · have hrb := resM_b hI ht k (by omega)
            have hcr := carM_b hI k (by omega) ht
            have hal := along_b 1000000 1000000 (fixE_b g T) (fixN_b g T) (sinM_b (aziM g k)) (cosM_b (aziM g k))
            have hrm : resM g T k = along (fixE g T) (fixN g T) (sinM (aziM g k)) (cosM (aziM g k)) - carM g k T := rfl
            have hln_9 := hD2 k (by omega) (by omega)
            have hcb_10 := carM_b hI k (by omega) ht
            have hsb_11 := sinM_b (aziM g k)
            have hcb_12 := cosM_b (aziM g k)
            refine k_lload_n hC dX11_meanResidual_52 rfl 1 rfl ?_
            refine k_aload_n hC dX11_meanResidual_53 rfl 2 rfl ?_
            refine k_get hC fd_X11_43 (kl hN (by decide)) h_3 rfl dX11_meanResidual_54 ?_
            refine k_iload hC dX11_meanResidual_57 0 rfl ?_
            have h_13 : w2 10 = .inr (0, [.ref (kad G 11), .ref (kad G 12), .ref (kad G 13), .ref (kad G 14), .ref (kad G 15), .ref (kad G 16)]) := (hf2 10 (by omega)).trans h10
            have h_14 : w2 11 = rA G 4 12 (fun j => some (kad G (20 + j))) := (hf2 11 (by omega)).trans h11
            refine k_pureV hC (c_X0_lineOf l hls G hN w2 fl k (by omega) h_13 h_14) yy_X0_lineOf wm_X11_257 (kl hN (by decide)) h_13 rfl rfl rfl rfl (Nat.le_of_ble_eq_true rfl) (by decide) (by decide) ⟨by decide, by decide⟩ dX11_meanResidual_59 ?_
            refine k_aload_n hC dX11_meanResidual_62 rfl 2 rfl ?_
            refine k_get hC fd_X11_43 (kl hN (by decide)) h_3 rfl dX11_meanResidual_63 ?_
            refine k_get hC fd_X11_350 (kl hN (by decide)) h_13 rfl dX11_meanResidual_66 ?_
            refine k_pureV hC (c_X3_missedBy l hls G hN w2 fl (20 + k) 15 (apM g k) (obsM g k) (expM g k) (aziM g k) (intM g k) (offM g k) (carM g k T) (sinM (aziM g k)) (cosM (aziM g k)) fz (fixE g T) (fixN g T) (by omega) (by omega) (by omega) (by omega) (by omega) (by omega) hln_9 h15_2) yy_X3_missedBy wm_X11_353 (kl hN (by omega)) hln_9 rfl rfl rfl rfl (Nat.le_of_ble_eq_true rfl) (by decide) (by decide) ⟨by decide, by decide⟩ dX11_meanResidual_69 ?_
            refine k_mabs hC wm_X11_357 wmath_mabs (by omega) (by decide) (Nat.le_of_ble_eq_true rfl) ⟨by decide, by decide⟩ dX11_meanResidual_72 ?_
            refine k_i2l hC dX11_meanResidual_75 (by omega) ?_
            refine k_ladd hC dX11_meanResidual_76 ?_
            refine k_lstore_n hC [(2, vL (sm + ((along (fixE g T) (fixN g T) (sinM (aziM g k)) (cosM (aziM g k)) - (carM g k T)).natAbs : Int))), (4, vI (k : Int)), (0, .ref (kad G 0)), (1, vI T)] dX11_meanResidual_77 rfl (by decide) rfl ?_
            refine k_iinc hC (y := (k : Int) + 1) [(4, vI ((k : Int) + 1)), (2, vL (sm + ((along (fixE g T) (fixN g T) (sinM (aziM g k)) (cosM (aziM g k)) - (carM g k T)).natAbs : Int))), (0, .ref (kad G 0)), (1, vI T)] (j := 1) dX11_meanResidual_78 rfl (by omega) (by decide) rfl ?_
            refine k_goto hC 40 dX11_meanResidual_81 rfl ?_
            refine k_lvs (ls := [0, 1, 2, 3]) [(4, vI ((k + 1 : Nat) : Int)), (2, vL (sm + ((along (fixE g T) (fixN g T) (sinM (aziM g k)) (cosM (aziM g k)) - (carM g k T)).natAbs : Int))), (0, .ref (kad G 0)), (1, vI T)] (by simp only [lv_pick]; rfl) ?_
            exact ih (k + 1) (sm + ((along (fixE g T) (fixN g T) (sinM (aziM g k)) (cosM (aziM g k)) - (carM g k T)).natAbs : Int))  (by omega) (by omega) (by omega) (by rw [hq]; rfl)
      refine k_lvs (ls := [0, 1, 2, 3]) [(4, vI ((0 : Nat) : Int)), (2, vL 0), (0, .ref (kad G 0)), (1, vI T)] (by simp only [lv_pick]; rfl) ?_
      exact loop 13 0 0  (by omega) (by omega) (by omega) rfl
    · have nfp : ¬ fixP g := ((fixI_c g).resolve_left (fun q1 => by omega)).2
      refine k_dconst0 hC dX11_meanResidual_33 ?_
      have hB_15 : kHat G w2 := hH.fr (fun j q1 q2 => (hf2 j (by omega)))
      have hB_16 : kPl14 w2 := h14.fr (fun j q1 q2 => (hf2 j (by omega)))
      have h_17 : w2 10 = .inr (0, [.ref (kad G 11), .ref (kad G 12), .ref (kad G 13), .ref (kad G 14), .ref (kad G 15), .ref (kad G 16)]) := (hf2 10 (by omega)).trans h10
      have h_18 : w2 11 = rA G 4 12 (fun j => some (kad G (20 + j))) := (hf2 11 (by omega)).trans h11
      exact k_dretX hC hr ⟨by decide, by decide⟩ (⟨(by omega), congrArg (fun z => some (Value.double z)) (show ((mrV g T : _) = 0) from (by unfold mrV; first | exact if_pos (Or.inl (by omega)) | exact if_pos (Or.inr nfp) | (rw [if_neg (fun q1 => q1.elim (fun q2 => by omega) (fun q2 => q2 hfp)), ek, ← hq]))), rfl, ⟨⟨⟨h_17, h_18⟩, hLn2, ⟨_, _, _, _, hsh2⟩, hB_15, hB_16, ⟨_, _, _, h15_2⟩⟩, fun j hj => hf2 j (by omega)⟩⟩) dX11_meanResidual_34
