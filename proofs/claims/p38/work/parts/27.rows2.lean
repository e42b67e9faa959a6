def stL (t : Nat) : Nat := kLen.getD t 0
def stC (t i : Nat) : Int := ((kByt.getD t []).getD i 0).toInt
theorem st_b : ∀ t : Fin kNs, stL t.val < 40 ∧ ∀ i : Fin 40, 0 ≤ stC t.val i.val ∧ stC t.val i.val ≤ 127 := by decide +kernel
theorem stL_b {t : Nat} (ht : t < kNs) : stL t < 40 := (st_b ⟨t, ht⟩).1
theorem stC_r {t i : Nat} (ht : t < kNs) (hi : i < stL t) : 0 ≤ stC t i ∧ stC t i ≤ 127 := (st_b ⟨t, ht⟩).2 ⟨i, Nat.lt_trans hi (stL_b ht)⟩
theorem k_and255 (a : Int) : Int32.ofInt a &&& 255 = Int32.ofInt (a % 256) := by
  apply Int32.toBitVec_inj.mp
  show BitVec.ofInt 32 a &&& 255#32 = BitVec.ofInt 32 (a % 256)
  apply BitVec.eq_of_toNat_eq
  rw [BitVec.toNat_and, BitVec.toNat_ofInt, BitVec.toNat_ofInt]
  show (a % 4294967296).toNat &&& (2 ^ 8 - 1) = (a % 256 % 4294967296).toNat
  rw [Nat.and_two_pow_sub_one_eq_mod]
  omega
def sb8 (x : Int) : Int := if x < 128 then x else x - 256
theorem k_i2bv (a : Int) : (Int32.ofInt a).toInt8.toInt32 = Int32.ofInt (sb8 (a % 256)) := by
  have h : -128 ≤ sb8 (a % 256) ∧ sb8 (a % 256) < 128 := by unfold sb8; split <;> omega
  rw [← k_i8 h, Int32.toInt8_ofInt]
  congr 1
  apply Int8.toInt_inj.mp
  have hs : ((Int8.size : Nat) : Int) = 256 := rfl
  rw [Int8.toInt_ofInt, Int8.toInt_ofInt, Int.bmod_def, Int.bmod_def, hs]
  unfold sb8
  split <;> split <;> split <;> omega
theorem k_i2cv {a : Int} (h : 0 ≤ a ∧ a ≤ 65535) : ((Int32.ofInt a).toUInt32 % 65536).toInt32 = Int32.ofInt a := by
  apply Int32.toBitVec_inj.mp
  show BitVec.ofInt 32 a % 65536#32 = BitVec.ofInt 32 a
  apply BitVec.eq_of_toNat_eq
  rw [BitVec.toNat_umod, BitVec.toNat_ofInt]
  show (a % 4294967296).toNat % 65536 = (a % 4294967296).toNat
  omega
theorem k_shrv (a : Int) (s : Nat) (hs : s = 0 ∨ s = 8 ∨ s = 16 ∨ s = 24) (ha : -2147483648 ≤ a ∧ a ≤ 2147483647) : Int32.ofInt a >>> (Int32.ofInt (s : Int) &&& 31) = Int32.ofInt (a / 2 ^ s) := by
  have key : ∀ (x : BitVec 32) (k : Nat), k < 32 → (Int32.ofBitVec x >>> (Int32.ofInt (k : Int) &&& 31)).toBitVec = x.sshiftRight k := by
    intro x k hk
    have h2 : ∀ n : Fin 32, ((Int32.ofInt (n.val : Int) &&& 31).toBitVec.smod 32#32).toNat = n.val := by decide +kernel
    show x.sshiftRight' ((Int32.ofInt (k : Int) &&& 31).toBitVec.smod 32#32) = _
    unfold BitVec.sshiftRight'
    rw [h2 ⟨k, hk⟩]
  apply Int32.toBitVec_inj.mp
  have h1 := key (BitVec.ofInt 32 a) s (by omega)
  rw [show Int32.ofInt a = Int32.ofBitVec (BitVec.ofInt 32 a) from rfl, h1]
  apply BitVec.eq_of_toInt_eq
  rw [BitVec.toInt_sshiftRight, Int.shiftRight_eq_div_pow]
  have h3 : (BitVec.ofInt 32 a).toInt = a := k_t32 ha
  have h4 : (BitVec.ofInt 32 (a / 2 ^ s)).toInt = a / 2 ^ s := k_t32 (a := a / 2 ^ s) (by rcases hs with h | h | h | h <;> subst h <;> omega)
  rw [h3]
  show _ = (BitVec.ofInt 32 (a / 2 ^ s)).toInt
  rw [h4, Int.natCast_pow]
  rfl
theorem kup_b {n i : Nat} (f : Nat → Int) (x : Int) (hi : i < n) (hx : -128 ≤ x ∧ x < 128) : upd (fun j => if j < n then Int32.ofInt (f j) else 0) i (vp_nar .byte (Int32.ofInt x)) = fun j => if j < n then Int32.ofInt (kup f i x j) else 0 := by
  have e : vp_nar .byte (Int32.ofInt x) = Int32.ofInt x := by
    rw [vp_nar_byte, k_i2bv]
    congr 1
    unfold sb8; split <;> omega
  rw [e]; exact kup_32 f x hi
theorem nar_c {x : Int} (h : 0 ≤ x ∧ x ≤ 255) : narrow .char (vI x) = vI x := by
  have key : ∀ n : Fin 256, (Int32.ofInt (n.val : Int)).toUInt32.toUInt16.toUInt32.toInt32 = Int32.ofInt (n.val : Int) := by decide +kernel
  obtain ⟨n, rfl⟩ : ∃ n : Nat, x = (n : Int) := ⟨x.toNat, by omega⟩
  exact congrArg Value.int (key ⟨n, by omega⟩)
section KL6
variable {p : Program} {l : Launch} {e : Env} {R : Room} {s : State} {m : MethodId} {args : Array Value} {below : List Frame} {meth : Method} {c : Code} {Q : State → Prop} {cc : ByteArray} {own : String} {nL d0 mc0 ms0 : Nat} {G : kG} {w : Nat → va_E} {fl : va_W} {cells slots pc : Nat} {lv : List (Nat × Value)} {st : List Value}
theorem k_iand255 (hC : kC p l R s m args meth c cc own nL G d0 mc0 ms0) {a : Int} (d : decode cc pc = .ok (.iand, 1)) (k : KW p l e R s m args below meth c nL G Q w fl cells slots (pc + 1) lv (vI (a % 256) :: st)) : KW p l e R s m args below meth c nL G Q w fl cells slots pc lv (vI 255 :: vI a :: st) := fun H locs ls h1 h2 h3 h4 => lv_iand hC.1 hC.2.1 d (by rw [show Int32.ofInt 255 = 255 from rfl, k_and255]; exact k H locs ls h1 h2 h3 h4)
theorem k_i2b (hC : kC p l R s m args meth c cc own nL G d0 mc0 ms0) {a : Int} (d : decode cc pc = .ok (.i2b, 1)) (k : KW p l e R s m args below meth c nL G Q w fl cells slots (pc + 1) lv (vI (sb8 (a % 256)) :: st)) : KW p l e R s m args below meth c nL G Q w fl cells slots pc lv (vI a :: st) := fun H locs ls h1 h2 h3 h4 => lv_i2b hC.1 hC.2.1 d (k_i2bv a) (k H locs ls h1 h2 h3 h4)
theorem k_i2c (hC : kC p l R s m args meth c cc own nL G d0 mc0 ms0) {a : Int} (d : decode cc pc = .ok (.i2c, 1)) (ha : 0 ≤ a ∧ a ≤ 65535) (k : KW p l e R s m args below meth c nL G Q w fl cells slots (pc + 1) lv (vI a :: st)) : KW p l e R s m args below meth c nL G Q w fl cells slots pc lv (vI a :: st) := fun H locs ls h1 h2 h3 h4 => lv_i2c hC.1 hC.2.1 d (k_i2cv ha) (k H locs ls h1 h2 h3 h4)
theorem k_ishr (hC : kC p l R s m args meth c cc own nL G d0 mc0 ms0) {a b : Int} (s0 : Nat) (d : decode cc pc = .ok (.ishr, 1)) (hb : b = (s0 : Int)) (hs : s0 = 0 ∨ s0 = 8 ∨ s0 = 16 ∨ s0 = 24) (ha : -2147483648 ≤ a ∧ a ≤ 2147483647) (k : KW p l e R s m args below meth c nL G Q w fl cells slots (pc + 1) lv (vI (a / 2 ^ s0) :: st)) : KW p l e R s m args below meth c nL G Q w fl cells slots pc lv (vI b :: vI a :: st) := fun H locs ls h1 h2 h3 h4 => lv_ishr hC.1 hC.2.1 d (by rw [hb, k_shrv a s0 hs ha]; exact k H locs ls h1 h2 h3 h4)
theorem k_bast (hC : kC p l R s m args meth c cc own nL G d0 mc0 ms0) {k n : Nat} {f : Nat → Int} {i x : Int} (hk : k < kN G) (hw : w k = bA G n f) (hi : 0 ≤ i ∧ i < (n : Int)) (hn : n ≤ 2147483647) (hx : -128 ≤ x ∧ x < 128) (d : decode cc pc = .ok (.bastore, 1))
    (kk : ∀ w1 : Nat → va_E, w1 k = bA G n (kup f i.toNat x) → (∀ j, j ≠ k → w1 j = w j) → KW p l e R s m args below meth c nL G Q w1 fl cells slots (pc + 1) lv st) : KW p l e R s m args below meth c nL G Q w fl cells slots pc lv (vI x :: vI i :: .ref (kad G k) :: st) := by
  intro H locs ls h1 h2 h3 h4
  refine va_bast hC.1 hC.2.1 hC.2.2.2.2.2.1 h1 h2 h3 k 2 (by rw [kws_at hk, hw]; rfl) rfl (k_in hi hn) d (fun H1 locs1 g1 g2 g3 => ?_)
  rw [kws_set hk, k_nat (by omega), kup_b f x (show i.toNat < n by omega) hx] at g1 g2
  exact kk _ (va_up_self _ _ _) (fun j hj => by simp [va_up, hj]) H1 locs1 ls g1 g2 g3 h4
theorem k_ldcs (hC : kC p l R s m args meth c cc own nL G d0 mc0 ms0) {i t : Nat} {tx : String} (hm : (own, i, tx, t) ∈ kRefs) (d : decode cc pc = .ok (.ldc i, 2)) (k : KW p l e R s m args below meth c nL G Q w fl cells slots (pc + 2) lv (.ref (kadK G t) :: st)) : KW p l e R s m args below meth c nL G Q w fl cells slots pc lv st := fun H locs ls h1 h2 h3 h4 => va_ldcS hC.1 hC.2.1 hC.2.2.2.1 (hC.2.2.2.2.2.2.1.2.2.2.2.2 _ hm) d (k H locs ls h1 h2 h3 h4)
theorem k_ldcsw (hC : kC p l R s m args meth c cc own nL G d0 mc0 ms0) {i t : Nat} {tx : String} (hm : (own, i, tx, t) ∈ kRefs) (d : decode cc pc = .ok (.ldc_w i, 3)) (k : KW p l e R s m args below meth c nL G Q w fl cells slots (pc + 3) lv (.ref (kadK G t) :: st)) : KW p l e R s m args below meth c nL G Q w fl cells slots pc lv st := fun H locs ls h1 h2 h3 h4 => by
  intro T hT X
  have hZ := hC.2.2.2.2.2.2.1.2.2.2.2.2 _ hm
  obtain ⟨t1, a1, b1⟩ := k H locs ls h1 h2 h3 h4 T hT X
  exact ⟨t1, X.ldcStringW hC.1 hC.2.2.2.1 (text := tx) (a := kadK G t) hZ.1 hZ.2 (g := F0 m pc ls st) rfl (by rw [hC.2.1]; exact d) t1 a1, b1⟩
theorem k_compact (hC : kC p l R s m args meth c cc own nL G d0 mc0 ms0) {i : Nat} (hw : Cond.fieldLink own i "java/lang/String" "COMPACT_STRINGS" "Z" ∈ kwords) (d : decode cc pc = .ok (.getstatic i, 3)) (k : KW p l e R s m args below meth c nL G Q w fl cells slots (pc + 3) lv (vI 1 :: st)) : KW p l e R s m args below meth c nL G Q w fl cells slots pc lv st := fun H locs ls h1 h2 h3 h4 => va_gets hC.1 hC.2.1 hC.2.2.2.2.2.2.1.2.1.1 h3 hC.2.2.2.1 (hC.2.2.2.2.1 _ hw) (fun x hx => hx) d (k H locs ls h1 h2 h3 h4)
theorem k_sioobe (hC : kC p l R s m args meth c cc own nL G d0 mc0 ms0) {i : Nat} (hw : Cond.fieldLink own i "jdk/internal/util/Preconditions" "SIOOBE_FORMATTER" "Ljava/util/function/BiFunction;" ∈ kwords) (d : decode cc pc = .ok (.getstatic i, 3)) (k : ∀ v : Value, (v = .null ∨ ∃ q, v = .ref q) → KW p l e R s m args below meth c nL G Q w fl cells slots (pc + 3) lv (v :: st)) : KW p l e R s m args below meth c nL G Q w fl cells slots pc lv st := fun H locs ls h1 h2 h3 h4 => by
  rcases hC.2.2.2.2.2.2.1.2.1.2 with hz | ⟨q, hz⟩
  · exact va_gets hC.1 hC.2.1 hz h3 hC.2.2.2.1 (hC.2.2.2.2.1 _ hw) (fun x hx => hx) d (k _ (Or.inl rfl) H locs ls h1 h2 h3 h4)
  · exact va_gets hC.1 hC.2.1 hz h3 hC.2.2.2.1 (hC.2.2.2.2.1 _ hw) (fun x hx => hx) d (k _ (Or.inr ⟨q, rfl⟩) H locs ls h1 h2 h3 h4)
theorem k_getSv (hC : kC p l R s m args meth c cc own nL G d0 mc0 ms0) {i t : Nat} (ht : t < kNs) (hw : Cond.fieldLink own i "java/lang/String" "value" "[B" ∈ kwords) (d : decode cc pc = .ok (.getfield i, 3)) (k : KW p l e R s m args below meth c nL G Q w fl cells slots (pc + 3) lv (.ref (kadV G t) :: st)) : KW p l e R s m args below meth c nL G Q w fl cells slots pc lv (.ref (kadK G t) :: st) := fun H locs ls h1 h2 h3 h4 => vk_getf hC.1 hC.2.1 (hC.2.2.2.2.2.2.1.2.2.2.2.1 t ht).2.2.1 h3 hC.2.2.2.1 (hC.2.2.2.2.1 _ hw) (fun x hx => hx) d (k H locs ls h1 h2 h3 h4)
theorem k_getSc (hC : kC p l R s m args meth c cc own nL G d0 mc0 ms0) {i t : Nat} (ht : t < kNs) (hw : Cond.fieldLink own i "java/lang/String" "coder" "B" ∈ kwords) (d : decode cc pc = .ok (.getfield i, 3)) (k : KW p l e R s m args below meth c nL G Q w fl cells slots (pc + 3) lv (vI 0 :: st)) : KW p l e R s m args below meth c nL G Q w fl cells slots pc lv (.ref (kadK G t) :: st) := fun H locs ls h1 h2 h3 h4 => vk_getf hC.1 hC.2.1 (hC.2.2.2.2.2.2.1.2.2.2.2.1 t ht).2.1 h3 hC.2.2.2.1 (hC.2.2.2.2.1 _ hw) (fun x hx => hx) d (k H locs ls h1 h2 h3 h4)
theorem k_alenS (hC : kC p l R s m args meth c cc own nL G d0 mc0 ms0) {t : Nat} (ht : t < kNs) (d : decode cc pc = .ok (.arraylength, 1)) (k : KW p l e R s m args below meth c nL G Q w fl cells slots (pc + 1) lv (vI (stL t : Int) :: st)) : KW p l e R s m args below meth c nL G Q w fl cells slots pc lv (.ref (kadV G t) :: st) := fun H locs ls h1 h2 h3 h4 => va_tlen (v := Int32.ofInt (stL t : Int)) hC.1 hC.2.1 (hC.2.2.2.2.2.2.1.2.2.2.2.1 t ht).2.2.2 h3 rfl d (k H locs ls h1 h2 h3 h4)
theorem k_baldS (hC : kC p l R s m args meth c cc own nL G d0 mc0 ms0) {t : Nat} {i : Int} (ht : t < kNs) (hi : 0 ≤ i ∧ i < (stL t : Int)) (d : decode cc pc = .ok (.baload, 1)) (k : KW p l e R s m args below meth c nL G Q w fl cells slots (pc + 1) lv (vI (stC t i.toNat) :: st)) : KW p l e R s m args below meth c nL G Q w fl cells slots pc lv (vI i :: .ref (kadV G t) :: st) := fun H locs ls h1 h2 h3 h4 => va_tb hC.1 hC.2.1 (hC.2.2.2.2.2.2.1.2.2.2.2.1 t ht).2.2.2 h3 (k_in (n := kLen.getD t 0) hi (by have := stL_b ht; unfold stL at this; omega)) (v := vI (stC t i.toNat)) (by
    show Value.int _ = Value.int (Int32.ofInt (stC t i.toNat))
    have hb := stL_b ht
    rw [k_nat (by omega)]; congr 1; exact (Int32.ofInt_toInt _).symm) d (k H locs ls h1 h2 h3 h4)
theorem k_strecv {t : Nat} (ht : t < kNs) (hE : kE G s s.heap) {H : Heap} {locs : List Loc} (h3 : va_S (kA G) s.heap H locs) : ∃ cell : Cell, H[kadK G t]? = some cell ∧ cell.vm.isStatics = false ∧ s.vm.findClass "java/lang/String" = some cell.cls := by
  obtain ⟨cell, h1, h2, h3, -⟩ := (hE.2.2.2.2.1 t ht).1.kept h3.2.1
  exact ⟨cell, h1, h2, h3⟩
theorem k_pureVK (hC : kC p l R s m args meth c cc own nL G d0 mc0 ms0) {t ix maxL d n : Nat} {v : Value} {y : MethodName} {cc1 : ByteArray} {ret : Option FieldType} {As st0 : List Value} (hM : KM l G y cc1 maxL ret d 0 0 (.ref (kadK G t) :: As) w fl (kPure v w fl)) (hy : kYV y cc1 maxL ret n) (hl : Cond.methodLink own ix y ∈ kwords) (ht : t < kNs) (hcl : y.cls = "java/lang/String") (hst : st0 = As.reverse ++ .ref (kadK G t) :: st) (hn : As.length = n) (hcat : (st.map fun v => v.category).sum ≤ 8) (hd : d + 1 ≤ d0) (hm : maxL ≤ 45) (hr : cells ≤ mc0 ∧ slots ≤ ms0) (dc : decode cc pc = .ok (.invokevirtual ix, 3)) (kk : KW p l e R s m args below meth c nL G Q w fl cells slots (pc + 3) lv (v :: st)) : KW p l e R s m args below meth c nL G Q w fl cells slots pc lv st0 := by
  intro H locs ls h1 h2 h3 h4
  have hR := hC.2.2.2.2.2.2.2.2.2.1
  have hw8 := hC.2.2.2.2.1
  have hrun := va_runV (p := p) (e := e) (below := below) (meth := meth) (As := As) (rest := st) (C := y.cls) (g := F0 m pc ls st0) (locs := locs) (cells := cells) (slots := slots) (kC_fix hC) hM ⟨⟨rfl, rfl, (by show d + 1 ≤ R.frames; omega), (by show 8 + (maxL + 11) + 64 * d ≤ R.locals; omega), kwo_pay hy.1.1 hw8, List.mem_cons_self, hw8 _ hy.1.1, hw8 _ hy.1.2, ⟨hy.2.1.1, hy.2.1.2.1⟩, k_lenOf hy.2.1.2.2, hw8 _ hl⟩, hw8 _ hy.2.2.1, hw8 _ hy.2.2.2⟩ ⟨kS_blind, (by rw [hcl]; exact k_strecv ht hC.2.2.2.2.2.2.1 h3), fun U hU hW => hC.pre h1 h2 h3 hU hW⟩ rfl hn h4.1 hst (lv_room hcat) dc ⟨by omega, by omega⟩
  exact k_run hrun h3 h4 (fun v1 w1 fl1 hp => by obtain ⟨q1, q2, q3⟩ := hp; subst q1; subst q2; subst q3; exact kk)
theorem k_zret8 (hC : kC p l R s m args meth c cc own nL G d0 mc0 ms0) {x : Int} {rt : FieldType} {post : Option Value → (Nat → va_E) → va_W → Prop} {mc ms : Nat} (hx : narrow rt (vI x) = vI x) (hr : meth.sig.returnType = some rt) (hrt : rt = .byte ∨ rt = .char) (hcs : cells ≤ mc ∧ slots ≤ ms) (hp : post (some (vI x)) w fl) (dc : decode cc pc = .ok (.ireturn, 1)) : KW p l e R s m args below meth c nL G (MQ below (kQ G post) args s mc ms (kA G)) w fl cells slots pc lv [vI x] := fun H locs ls h1 h2 h3 h4 => W.widen hcs.1 hcs.2 (W.zret hC.1 hC.2.1 hr hx (fun t ht hW => ⟨_, w, fl, rfl, hp, ⟨by rw [ht]; exact h1, h2⟩, h3.F ht⟩) h3.2.2 dc hC.2.2.2.2.2.2.2.2.1)
end KL6
set_option maxRecDepth 100000 in
set_option maxHeartbeats 4000000 in
theorem c_J3_checkIndexN (l : Launch) (hls : l.stackTraces = false) (G : kG) (hN : 133 ≤ kN G) (w : Nat → va_E) (fl : va_W) (a b : Int) (ha : -2147483648 ≤ a ∧ a ≤ 2147483647) (hb : -2147483648 ≤ b ∧ b ≤ 2147483647) (hab : 0 ≤ a ∧ a < b) : KM l G yJ3_checkIndex_8e157 cJ3_checkIndex_8e157 3 (some (FieldType.int)) 0 0 0 [vI a, vI b, .null] w fl (kPure (vI a) w fl) := by
  refine KM_ofF hls (by decide +kernel) rfl (lv0 := [(0, vI a), (1, vI b), (2, .null)]) rfl (Nat.le_of_ble_eq_true rfl) (fun p e R s m args below meth c Q hC hr hQ => ?_)
  refine k_iload_n hC dJ3_checkIndex_8e157_0 rfl 0 rfl ?_
  refine k_if_lt hC 9 dJ3_checkIndex_8e157_1 rfl (by omega) (fun c_1 => absurd c_1 (by omega)) (fun c_1 => ?_)
  refine k_iload_n hC dJ3_checkIndex_8e157_4 rfl 0 rfl ?_
  refine k_iload_n hC dJ3_checkIndex_8e157_5 rfl 1 rfl ?_
  refine k_icmp_lt hC 16 dJ3_checkIndex_8e157_6 rfl (by omega) (by omega) (fun c_6 => ?_) (fun c_6 => absurd c_6 (by omega))
  refine k_iload_n hC dJ3_checkIndex_8e157_16 rfl 0 rfl ?_
  subst hQ
  exact k_iret hC hr ⟨by decide, by decide⟩ (⟨rfl, rfl, rfl⟩) dJ3_checkIndex_8e157_17

set_option maxRecDepth 100000 in
set_option maxHeartbeats 4000000 in
theorem c_J3_checkIndexR (l : Launch) (hls : l.stackTraces = false) (G : kG) (hN : 133 ≤ kN G) (w : Nat → va_E) (fl : va_W) (q : Nat) (a b : Int) (ha : -2147483648 ≤ a ∧ a ≤ 2147483647) (hb : -2147483648 ≤ b ∧ b ≤ 2147483647) (hab : 0 ≤ a ∧ a < b) : KM l G yJ3_checkIndex_8e157 cJ3_checkIndex_8e157 3 (some (FieldType.int)) 0 0 0 [vI a, vI b, .ref q] w fl (kPure (vI a) w fl) := by
  refine KM_ofF hls (by decide +kernel) rfl (lv0 := [(0, vI a), (1, vI b), (2, .ref q)]) rfl (Nat.le_of_ble_eq_true rfl) (fun p e R s m args below meth c Q hC hr hQ => ?_)
  refine k_iload_n hC dJ3_checkIndex_8e157_0 rfl 0 rfl ?_
  refine k_if_lt hC 9 dJ3_checkIndex_8e157_1 rfl (by omega) (fun c_1 => absurd c_1 (by omega)) (fun c_1 => ?_)
  refine k_iload_n hC dJ3_checkIndex_8e157_4 rfl 0 rfl ?_
  refine k_iload_n hC dJ3_checkIndex_8e157_5 rfl 1 rfl ?_
  refine k_icmp_lt hC 16 dJ3_checkIndex_8e157_6 rfl (by omega) (by omega) (fun c_6 => ?_) (fun c_6 => absurd c_6 (by omega))
  refine k_iload_n hC dJ3_checkIndex_8e157_16 rfl 0 rfl ?_
  subst hQ
  exact k_iret hC hr ⟨by decide, by decide⟩ (⟨rfl, rfl, rfl⟩) dJ3_checkIndex_8e157_17

set_option maxRecDepth 100000 in
set_option maxHeartbeats 4000000 in
theorem c_J0_checkIndex_df160 (l : Launch) (hls : l.stackTraces = false) (G : kG) (hN : 133 ≤ kN G) (w : Nat → va_E) (fl : va_W) (a b : Int) (ha : -2147483648 ≤ a ∧ a ≤ 2147483647) (hb : -2147483648 ≤ b ∧ b ≤ 2147483647) (hab : 0 ≤ a ∧ a < b) : KM l G yJ0_checkIndex_df160 cJ0_checkIndex_df160 2 (none) 1 0 0 [vI a, vI b] w fl (kMuv fl (fun w1 => w1 = w)) := by
  refine KM_ofF hls (by decide +kernel) rfl (lv0 := [(0, vI a), (1, vI b)]) rfl (Nat.le_of_ble_eq_true rfl) (fun p e R s m args below meth c Q hC hr hQ => ?_)
  refine k_iload_n hC dJ0_checkIndex_df160_0 rfl 0 rfl ?_
  refine k_iload_n hC dJ0_checkIndex_df160_1 rfl 1 rfl ?_
  refine k_sioobe hC wf_J0_1053 dJ0_checkIndex_df160_2 (fun vz hvz => ?_)
  rcases hvz with evz | ⟨qz, evz⟩
  · subst evz
    refine k_pureS hC (c_J3_checkIndexN l hls G hN w fl a b (by omega) (by omega) (by omega)) yy_J3_checkIndex_8e157 wm_J0_1059 rfl rfl (Nat.le_of_ble_eq_true rfl) (by decide) (by decide) ⟨by decide, by decide⟩ dJ0_checkIndex_df160_5 ?_
    refine k_pop hC dJ0_checkIndex_df160_8 rfl ?_
    subst hQ
    exact k_vret hC hr ⟨by decide, by decide⟩ (⟨rfl, rfl, rfl⟩) dJ0_checkIndex_df160_9
  · subst evz
    refine k_pureS hC (c_J3_checkIndexR l hls G hN w fl qz a b (by omega) (by omega) (by omega)) yy_J3_checkIndex_8e157 wm_J0_1059 rfl rfl (Nat.le_of_ble_eq_true rfl) (by decide) (by decide) ⟨by decide, by decide⟩ dJ0_checkIndex_df160_5 ?_
    refine k_pop hC dJ0_checkIndex_df160_8 rfl ?_
    subst hQ
    exact k_vret hC hr ⟨by decide, by decide⟩ (⟨rfl, rfl, rfl⟩) dJ0_checkIndex_df160_9

set_option maxRecDepth 100000 in
set_option maxHeartbeats 4000000 in
theorem c_J0_coder_7d493 (l : Launch) (hls : l.stackTraces = false) (G : kG) (hN : 133 ≤ kN G) (w : Nat → va_E) (fl : va_W) (t : Nat) (ht : t < kNs) : KM l G yJ0_coder_7d493 cJ0_coder_7d493 1 (some (FieldType.byte)) 0 0 0 [.ref (kadK G t)] w fl (kPure (vI 0) w fl) := by
  refine KM_ofF hls (by decide +kernel) rfl (lv0 := [(0, .ref (kadK G t))]) rfl (Nat.le_of_ble_eq_true rfl) (fun p e R s m args below meth c Q hC hr hQ => ?_)
  refine k_compact hC wf_J0_38 dJ0_coder_7d493_0 ?_
  refine k_if_eq hC 13 dJ0_coder_7d493_3 rfl (by omega) (fun c_3 => absurd c_3 (by omega)) (fun c_3 => ?_)
  refine k_aload_n hC dJ0_coder_7d493_6 rfl 0 rfl ?_
  refine k_getSc hC ht wf_J0_15 dJ0_coder_7d493_7 ?_
  refine k_goto hC 14 dJ0_coder_7d493_10 rfl ?_
  subst hQ
  exact k_zret8 hC (rt := .byte) rfl hr (Or.inl rfl) ⟨by decide, by decide⟩ (⟨congrArg (fun z => some (vI z)) (show (0 : Int) = 0 from rfl), rfl, rfl⟩) dJ0_coder_7d493_14

set_option maxRecDepth 100000 in
set_option maxHeartbeats 4000000 in
theorem c_J0_isLatin1_aae02 (l : Launch) (hls : l.stackTraces = false) (G : kG) (hN : 133 ≤ kN G) (w : Nat → va_E) (fl : va_W) (t : Nat) (ht : t < kNs) : KM l G yJ0_isLatin1_aae02 cJ0_isLatin1_aae02 1 (some (FieldType.boolean)) 0 0 0 [.ref (kadK G t)] w fl (kPure (vI 1) w fl) := by
  refine KM_ofF hls (by decide +kernel) rfl (lv0 := [(0, .ref (kadK G t))]) rfl (Nat.le_of_ble_eq_true rfl) (fun p e R s m args below meth c Q hC hr hQ => ?_)
  refine k_compact hC wf_J0_38 dJ0_isLatin1_aae02_0 ?_
  refine k_if_eq hC 17 dJ0_isLatin1_aae02_3 rfl (by omega) (fun c_3 => absurd c_3 (by omega)) (fun c_3 => ?_)
  refine k_aload_n hC dJ0_isLatin1_aae02_6 rfl 0 rfl ?_
  refine k_getSc hC ht wf_J0_15 dJ0_isLatin1_aae02_7 ?_
  refine k_if_ne hC 17 dJ0_isLatin1_aae02_10 rfl (by omega) (fun c_10 => absurd c_10 (by omega)) (fun c_10 => ?_)
  refine k_iconst hC dJ0_isLatin1_aae02_13 ?_
  refine k_goto hC 18 dJ0_isLatin1_aae02_14 rfl ?_
  subst hQ
  exact k_zret hC (by omega) hr ⟨by decide, by decide⟩ (⟨rfl, rfl, rfl⟩) dJ0_isLatin1_aae02_18

set_option maxRecDepth 100000 in
set_option maxHeartbeats 4000000 in
theorem c_J0_length_8abf5 (l : Launch) (hls : l.stackTraces = false) (G : kG) (hN : 133 ≤ kN G) (w : Nat → va_E) (fl : va_W) (t : Nat) (ht : t < kNs) : KM l G yJ0_length_8abf5 cJ0_length_8abf5 1 (some (FieldType.int)) 1 0 0 [.ref (kadK G t)] w fl (kPure (vI (stL t : Int)) w fl) := by
  refine KM_ofF hls (by decide +kernel) rfl (lv0 := [(0, .ref (kadK G t))]) rfl (Nat.le_of_ble_eq_true rfl) (fun p e R s m args below meth c Q hC hr hQ => ?_)
  have hb := stL_b ht
  refine k_aload_n hC dJ0_length_8abf5_0 rfl 0 rfl ?_
  refine k_getSv hC ht wf_J0_9 dJ0_length_8abf5_1 ?_
  refine k_alenS hC ht dJ0_length_8abf5_4 ?_
  refine k_aload_n hC dJ0_length_8abf5_5 rfl 0 rfl ?_
  refine k_pureVK hC (c_J0_coder_7d493 l hls G hN w fl t ht) yy_J0_coder_7d493 wm_J0_335 ht rfl rfl rfl (Nat.le_of_ble_eq_true rfl) (by decide) (by decide) ⟨by decide, by decide⟩ dJ0_length_8abf5_6 ?_
  refine k_ishr hC 0 dJ0_length_8abf5_9 rfl (Or.inl rfl) (by omega) ?_
  refine k_topv (vI ((stL t : Int))) (congrArg vI (by omega)) ?_
  subst hQ
  exact k_iret hC hr ⟨by decide, by decide⟩ (⟨rfl, rfl, rfl⟩) dJ0_length_8abf5_10

set_option maxRecDepth 100000 in
set_option maxHeartbeats 4000000 in
theorem c_J1_charAt_3b067 (l : Launch) (hls : l.stackTraces = false) (G : kG) (hN : 133 ≤ kN G) (w : Nat → va_E) (fl : va_W) (t i : Nat) (ht : t < kNs) (hi : i < stL t) : KM l G yJ1_charAt_3b067 cJ1_charAt_3b067 2 (some (FieldType.char)) 2 0 0 [.ref (kadV G t), vI (i : Int)] w fl (kPure (vI (stC t i)) w fl) := by
  refine KM_ofF hls (by decide +kernel) rfl (lv0 := [(0, .ref (kadV G t)), (1, vI (i : Int))]) rfl (Nat.le_of_ble_eq_true rfl) (fun p e R s m args below meth c Q hC hr hQ => ?_)
  have hb := stL_b ht
  have hc := stC_r ht hi
  refine k_iload_n hC dJ1_charAt_3b067_0 rfl 1 rfl ?_
  refine k_aload_n hC dJ1_charAt_3b067_1 rfl 0 rfl ?_
  refine k_alenS hC ht dJ1_charAt_3b067_2 ?_
  refine k_muvS hC (c_J0_checkIndex_df160 l hls G hN w fl (i : Int) (stL t : Int) (by omega) (by omega) (by omega)) yy_J0_checkIndex_df160 wm_J1_9 rfl rfl (Nat.le_of_ble_eq_true rfl) (by decide) (by decide) ⟨by decide, by decide⟩ dJ1_charAt_3b067_3 (fun w_1 hp1 => ?_)
  subst hp1
  refine k_aload_n hC dJ1_charAt_3b067_6 rfl 0 rfl ?_
  refine k_iload_n hC dJ1_charAt_3b067_7 rfl 1 rfl ?_
  refine k_baldS hC ht (by omega) dJ1_charAt_3b067_8 ?_
  refine k_sipush hC dJ1_charAt_3b067_9 (by decide) ?_
  refine k_iand255 hC dJ1_charAt_3b067_12 ?_
  refine k_i2c hC dJ1_charAt_3b067_13 (by omega) ?_
  subst hQ
  exact k_zret8 hC (rt := .char) (nar_c (by omega)) hr (Or.inr rfl) ⟨by decide, by decide⟩ (⟨congrArg (fun z => some (vI z)) (show (stC t i : Int) = (stC t i) % 256 from by omega), rfl, rfl⟩) dJ1_charAt_3b067_14

set_option maxRecDepth 100000 in
set_option maxHeartbeats 4000000 in
theorem c_J0_charAt_5068e (l : Launch) (hls : l.stackTraces = false) (G : kG) (hN : 133 ≤ kN G) (w : Nat → va_E) (fl : va_W) (t i : Nat) (ht : t < kNs) (hi : i < stL t) : KM l G yJ0_charAt_5068e cJ0_charAt_5068e 2 (some (FieldType.char)) 3 0 0 [.ref (kadK G t), vI (i : Int)] w fl (kPure (vI (stC t i)) w fl) := by
  refine KM_ofF hls (by decide +kernel) rfl (lv0 := [(0, .ref (kadK G t)), (1, vI (i : Int))]) rfl (Nat.le_of_ble_eq_true rfl) (fun p e R s m args below meth c Q hC hr hQ => ?_)
  have hc := stC_r ht hi
  refine k_aload_n hC dJ0_charAt_5068e_0 rfl 0 rfl ?_
  refine k_pureVK hC (c_J0_isLatin1_aae02 l hls G hN w fl t ht) yy_J0_isLatin1_aae02 wm_J0_492 ht rfl rfl rfl (Nat.le_of_ble_eq_true rfl) (by decide) (by decide) ⟨by decide, by decide⟩ dJ0_charAt_5068e_1 ?_
  refine k_if_eq hC 16 dJ0_charAt_5068e_4 rfl (by omega) (fun c_4 => absurd c_4 (by omega)) (fun c_4 => ?_)
  refine k_aload_n hC dJ0_charAt_5068e_7 rfl 0 rfl ?_
  refine k_getSv hC ht wf_J0_9 dJ0_charAt_5068e_8 ?_
  refine k_iload_n hC dJ0_charAt_5068e_11 rfl 1 rfl ?_
  refine k_pureS hC (c_J1_charAt_3b067 l hls G hN w fl t i ht hi) yy_J1_charAt_3b067 wm_J0_495 rfl rfl (Nat.le_of_ble_eq_true rfl) (by decide) (by decide) ⟨by decide, by decide⟩ dJ0_charAt_5068e_12 ?_
  subst hQ
  exact k_zret8 hC (rt := .char) (nar_c (by omega)) hr (Or.inr rfl) ⟨by decide, by decide⟩ (⟨congrArg (fun z => some (vI z)) (show (stC t i : Int) = stC t i from rfl), rfl, rfl⟩) dJ0_charAt_5068e_15

set_option maxRecDepth 100000 in
set_option maxHeartbeats 4000000 in
theorem c_J6_compare_7cf53 (l : Launch) (hls : l.stackTraces = false) (G : kG) (hN : 133 ≤ kN G) (w : Nat → va_E) (fl : va_W) (a b : Int) (ha : -2147483648 ≤ a ∧ a ≤ 2147483647) (hb : -2147483648 ≤ b ∧ b ≤ 2147483647) : KM l G yJ6_compare_7cf53 cJ6_compare_7cf53 2 (some (FieldType.int)) 0 0 0 [vI a, vI b] w fl (kPure (vI (if a < b then -1 else if a = b then 0 else 1)) w fl) := by
  refine KM_ofF hls (by decide +kernel) rfl (lv0 := [(0, vI a), (1, vI b)]) rfl (Nat.le_of_ble_eq_true rfl) (fun p e R s m args below meth c Q hC hr hQ => ?_)
  refine k_iload_n hC dJ6_compare_7cf53_0 rfl 0 rfl ?_
  refine k_iload_n hC dJ6_compare_7cf53_1 rfl 1 rfl ?_
  refine k_icmp_ge hC 9 dJ6_compare_7cf53_2 rfl (by omega) (by omega) (fun c_2 => ?_) (fun c_2 => ?_)
  · refine k_iload_n hC dJ6_compare_7cf53_9 rfl 0 rfl ?_
    refine k_iload_n hC dJ6_compare_7cf53_10 rfl 1 rfl ?_
    refine k_icmp_ne hC 18 dJ6_compare_7cf53_11 rfl (by omega) (by omega) (fun c_11 => ?_) (fun c_11 => ?_)
    · refine k_iconst hC dJ6_compare_7cf53_18 ?_
      subst hQ
      exact k_iret hC hr ⟨by decide, by decide⟩ (⟨congrArg (fun z => some (vI z)) (show (if a < b then -1 else if a = b then 0 else 1 : Int) = 1 from by first | (rw [if_pos (by omega)]; done) | (rw [if_neg (by omega), if_pos (by omega)]; done) | (rw [if_neg (by omega), if_neg (by omega)]; done)), rfl, rfl⟩) dJ6_compare_7cf53_19
    · refine k_iconst hC dJ6_compare_7cf53_14 ?_
      refine k_goto hC 19 dJ6_compare_7cf53_15 rfl ?_
      subst hQ
      exact k_iret hC hr ⟨by decide, by decide⟩ (⟨congrArg (fun z => some (vI z)) (show (if a < b then -1 else if a = b then 0 else 1 : Int) = 0 from by first | (rw [if_pos (by omega)]; done) | (rw [if_neg (by omega), if_pos (by omega)]; done) | (rw [if_neg (by omega), if_neg (by omega)]; done)), rfl, rfl⟩) dJ6_compare_7cf53_19
  · refine k_iconst hC dJ6_compare_7cf53_5 ?_
    refine k_goto hC 19 dJ6_compare_7cf53_6 rfl ?_
    subst hQ
    exact k_iret hC hr ⟨by decide, by decide⟩ (⟨congrArg (fun z => some (vI z)) (show (if a < b then -1 else if a = b then 0 else 1 : Int) = -1 from by first | (rw [if_pos (by omega)]; done) | (rw [if_neg (by omega), if_pos (by omega)]; done) | (rw [if_neg (by omega), if_neg (by omega)]; done)), rfl, rfl⟩) dJ6_compare_7cf53_19

