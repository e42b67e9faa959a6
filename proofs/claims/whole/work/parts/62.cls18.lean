def sbP (G : kG) (w : Nat → va_E) (T : List Int) (P : Nat → Prop) : (Nat → va_E) → va_W → Prop := fun w1 fl1 => ∃ cap1, sbC G w1 fl1 T cap1 ∧ P cap1 ∧ ∀ j, j ≠ 132 → w1 j = w j
section
variable {p : Program} {l : Launch} {e : Env} {R : Room} {s : State} {m : MethodId} {args : Array Value} {below : List Frame} {meth : Method} {c : Code} {cc : ByteArray} {own : String} {nL : Nat} {G : kG} {d0 mc0 ms0 : Nat} {Q : State → Prop} {w : Nat → va_E} {fl : va_W} {cells slots pc : Nat} {lv : List (Nat × Value)} {st : List Value}
theorem k_callVK (hC : kC p l R s m args meth c cc own nL G d0 mc0 ms0) {t ix maxL d n : Nat} {y : MethodName} {cc1 : ByteArray} {ret : Option FieldType} {As st0 : List Value} {post : Option Value → (Nat → va_E) → va_W → Prop} (hM : KM l G y cc1 maxL ret d 0 0 (.ref (kadK G t) :: As) w fl post) (hy : kYV y cc1 maxL ret n) (hl : Cond.methodLink own ix y ∈ kwords) (ht : t < kNs) (hcl : y.cls = "java/lang/String") (hst : st0 = As.reverse ++ .ref (kadK G t) :: st) (hn : As.length = n) (hcat : (st.map fun v => v.category).sum ≤ 8) (hd : d + 1 ≤ d0) (hm : maxL ≤ 45) (hr : cells ≤ mc0 ∧ slots ≤ ms0) (dc : decode cc pc = .ok (.invokevirtual ix, 3)) (kk : ∀ (v : Option Value) (w1 : Nat → va_E) (fl1 : va_W), post v w1 fl1 → KW p l e R s m args below meth c nL G Q w1 fl1 cells slots (pc + 3) lv (v.toList ++ st)) : KW p l e R s m args below meth c nL G Q w fl cells slots pc lv st0 := by
  intro H locs ls h1 h2 h3 h4
  have hR := hC.2.2.2.2.2.2.2.2.2.1
  have hw8 := hC.2.2.2.2.1
  have hrun := va_runV (p := p) (e := e) (below := below) (meth := meth) (As := As) (rest := st) (C := y.cls) (g := F0 m pc ls st0) (locs := locs) (cells := cells) (slots := slots) (kC_fix hC) hM ⟨⟨rfl, rfl, (by show d + 1 ≤ R.frames; omega), (by show 8 + (maxL + 11) + 64 * d ≤ R.locals; omega), kwo_pay hy.1.1 hw8, List.mem_cons_self, hw8 _ hy.1.1, hw8 _ hy.1.2, ⟨hy.2.1.1, hy.2.1.2.1⟩, k_lenOf hy.2.1.2.2, hw8 _ hl⟩, hw8 _ hy.2.2.1, hw8 _ hy.2.2.2⟩ ⟨kS_blind, (by rw [hcl]; exact k_strecv ht hC.2.2.2.2.2.2.1 h3), fun U hU hW => hC.pre h1 h2 h3 hU hW⟩ rfl hn h4.1 hst (lv_room hcat) dc ⟨by omega, by omega⟩
  exact k_run hrun h3 h4 kk
end
set_option maxRecDepth 100000 in
set_option maxHeartbeats 4000000 in
theorem c_J5_isLatin1_aae02 (l : Launch) (hls : l.stackTraces = false) (G : kG) (hN : kN G = 150) (w : Nat → va_E) (fl : va_W) (q : Nat) (ml : Value) (cnt : Int) (h132 : w 132 = .inr (13, [.ref q, vI 0, ml, vI cnt])) : KM l G yJ5_isLatin1_aae02 cJ5_isLatin1_aae02 1 (some (FieldType.boolean)) 0 0 0 [.ref (kad G 132)] w fl (kPure (vI 1) w fl) := by
  refine KM_ofF hls (by decide +kernel) rfl (lv0 := [(0, .ref (kad G 132))]) rfl (Nat.le_of_ble_eq_true rfl) (fun p e R s m args below meth c Q hC hr hQ => ?_)
  refine k_compact hC wf_J5_18 dJ5_isLatin1_aae02_0 ?_
  refine k_if_eq hC 17 dJ5_isLatin1_aae02_3 rfl (by omega) (fun c_3 => absurd c_3 (by omega)) (fun c_3 => ?_)
  refine k_aload_n hC dJ5_isLatin1_aae02_6 rfl 0 rfl ?_
  refine k_get hC fd_J5_22 (kl hN (by decide)) h132 rfl dJ5_isLatin1_aae02_7 ?_
  refine k_if_ne hC 17 dJ5_isLatin1_aae02_10 rfl (by omega) (fun c_10 => absurd c_10 (by omega)) (fun c_10 => ?_)
  refine k_iconst hC dJ5_isLatin1_aae02_13 ?_
  refine k_goto hC 18 dJ5_isLatin1_aae02_14 rfl ?_
  subst hQ
  exact k_zret hC (by omega) hr ⟨by decide, by decide⟩ (⟨rfl, rfl, rfl⟩) dJ5_isLatin1_aae02_18

set_option maxRecDepth 100000 in
set_option maxHeartbeats 4000000 in
theorem c_J5_length_8abf5 (l : Launch) (hls : l.stackTraces = false) (G : kG) (hN : kN G = 150) (w : Nat → va_E) (fl : va_W) (q : Nat) (ml : Value) (cnt : Int) (h132 : w 132 = .inr (13, [.ref q, vI 0, ml, vI cnt])) : KM l G yJ5_length_8abf5 cJ5_length_8abf5 1 (some (FieldType.int)) 0 0 0 [.ref (kad G 132)] w fl (kPure (vI cnt) w fl) := by
  refine KM_ofF hls (by decide +kernel) rfl (lv0 := [(0, .ref (kad G 132))]) rfl (Nat.le_of_ble_eq_true rfl) (fun p e R s m args below meth c Q hC hr hQ => ?_)
  refine k_aload_n hC dJ5_length_8abf5_0 rfl 0 rfl ?_
  refine k_get hC fd_J5_79 (kl hN (by decide)) h132 rfl dJ5_length_8abf5_1 ?_
  subst hQ
  exact k_iret hC hr ⟨by decide, by decide⟩ (⟨rfl, rfl, rfl⟩) dJ5_length_8abf5_4

set_option maxRecDepth 100000 in
set_option maxHeartbeats 4000000 in
theorem c_J1_canEncode_fc78d (l : Launch) (hls : l.stackTraces = false) (G : kG) (hN : kN G = 150) (w : Nat → va_E) (fl : va_W) (x : Int) (hx : 0 ≤ x ∧ x ≤ 255) : KM l G yJ1_canEncode_fc78d cJ1_canEncode_fc78d 1 (some (FieldType.boolean)) 0 0 0 [vI x] w fl (kPure (vI 1) w fl) := by
  refine KM_ofF hls (by decide +kernel) rfl (lv0 := [(0, vI x)]) rfl (Nat.le_of_ble_eq_true rfl) (fun p e R s m args below meth c Q hC hr hQ => ?_)
  refine k_iload_n hC dJ1_canEncode_fc78d_0 rfl 0 rfl ?_
  refine k_sipush hC dJ1_canEncode_fc78d_1 (by decide) ?_
  refine k_icmp_gt hC 11 dJ1_canEncode_fc78d_4 rfl (by omega) (by omega) (fun c_4 => absurd c_4 (by omega)) (fun c_4 => ?_)
  refine k_iconst hC dJ1_canEncode_fc78d_7 ?_
  refine k_goto hC 12 dJ1_canEncode_fc78d_8 rfl ?_
  subst hQ
  exact k_zret hC (by omega) hr ⟨by decide, by decide⟩ (⟨rfl, rfl, rfl⟩) dJ1_canEncode_fc78d_12

set_option maxRecDepth 100000 in
set_option maxHeartbeats 4000000 in
theorem c_J8_newLength_cabcc (l : Launch) (hls : l.stackTraces = false) (G : kG) (hN : kN G = 150) (w : Nat → va_E) (fl : va_W) (b : Int) (hb : 0 < b ∧ b ≤ 18) : KM l G yJ8_newLength_cabcc cJ8_newLength_cabcc 4 (some (FieldType.int)) 1 0 0 [vI 16, vI b, vI 18] w fl (kPure (vI 34) w fl) := by
  refine KM_ofF hls (by decide +kernel) rfl (lv0 := [(0, vI 16), (1, vI b), (2, vI 18)]) rfl (Nat.le_of_ble_eq_true rfl) (fun p e R s m args below meth c Q hC hr hQ => ?_)
  refine k_iload_n hC dJ8_newLength_cabcc_0 rfl 0 rfl ?_
  refine k_iload_n hC dJ8_newLength_cabcc_1 rfl 1 rfl ?_
  refine k_iload_n hC dJ8_newLength_cabcc_2 rfl 2 rfl ?_
  refine k_mmax hC wm_J8_194 wmath_mmax (by omega) (by omega) (by decide) (Nat.le_of_ble_eq_true rfl) ⟨by decide, by decide⟩ dJ8_newLength_cabcc_3 ?_
  refine k_iadd hC dJ8_newLength_cabcc_6 ?_
  refine k_istore_n hC [(3, vI (16 + (max b 18))), (0, vI 16), (1, vI b), (2, vI 18)] dJ8_newLength_cabcc_7 rfl (by decide) rfl ?_
  refine k_iconst hC dJ8_newLength_cabcc_8 ?_
  refine k_iload_n hC dJ8_newLength_cabcc_9 rfl 0 rfl ?_
  refine k_icmp_ge hC 21 dJ8_newLength_cabcc_10 rfl (by omega) (by omega) (fun c_10 => absurd c_10 (by omega)) (fun c_10 => ?_)
  refine k_iload_n hC dJ8_newLength_cabcc_13 rfl 0 rfl ?_
  refine k_ldc hC (x := 2147483639) (v := 2147483639) dJ8_newLength_cabcc_14 (by decide) wk_J8_200 ?_
  refine k_icmp_gt hC 21 dJ8_newLength_cabcc_16 rfl (by omega) (by omega) (fun c_16 => absurd c_16 (by omega)) (fun c_16 => ?_)
  refine k_iload_n hC dJ8_newLength_cabcc_19 rfl 0 rfl ?_
  subst hQ
  exact k_iret hC hr ⟨by decide, by decide⟩ (⟨congrArg (fun z => some (vI z)) (show (34 : Int) = 16 + (max b 18) from by omega), rfl, rfl⟩) dJ8_newLength_cabcc_20

set_option maxRecDepth 100000 in
set_option maxHeartbeats 4000000 in
theorem c_J5_newCapacity_0f7a4 (l : Launch) (hls : l.stackTraces = false) (G : kG) (hN : kN G = 150) (w : Nat → va_E) (fl : va_W) (q : Nat) (f : Nat → Int) (ml : Value) (cnt mn : Int) (hfl : fl = [(q, bA G 16 f)]) (hmn : 16 < mn ∧ mn ≤ 34) (h132 : w 132 = .inr (13, [.ref q, vI 0, ml, vI cnt])) : KM l G yJ5_newCapacity_0f7a4 cJ5_newCapacity_0f7a4 6 (some (FieldType.int)) 2 0 0 [.ref (kad G 132), vI mn] w fl (kPure (vI 34) w fl) := by
  refine KM_ofF hls (by decide +kernel) rfl (lv0 := [(0, .ref (kad G 132)), (1, vI mn)]) rfl (Nat.le_of_ble_eq_true rfl) (fun p e R s m args below meth c Q hC hr hQ => ?_)
  subst hfl
  refine k_aload_n hC dJ5_newCapacity_0f7a4_0 rfl 0 rfl ?_
  refine k_get hC fd_J5_15 (kl hN (by decide)) h132 rfl dJ5_newCapacity_0f7a4_1 ?_
  refine k_alenF hC 0 rfl dJ5_newCapacity_0f7a4_4 ?_
  refine k_istore_n hC [(2, vI 16), (0, .ref (kad G 132)), (1, vI mn)] dJ5_newCapacity_0f7a4_5 rfl (by decide) rfl ?_
  refine k_iload_n hC dJ5_newCapacity_0f7a4_6 rfl 2 rfl ?_
  refine k_aload_n hC dJ5_newCapacity_0f7a4_7 rfl 1 rfl ?_
  refine k_get hC fd_J5_22 (kl hN (by decide)) h132 rfl dJ5_newCapacity_0f7a4_8 ?_
  refine k_ishl0 hC dJ5_newCapacity_0f7a4_11 ?_
  refine k_istore_n hC [(3, vI mn), (2, vI 16), (0, .ref (kad G 132)), (1, vI mn)] dJ5_newCapacity_0f7a4_12 rfl (by decide) rfl ?_
  refine k_iload_n hC dJ5_newCapacity_0f7a4_13 rfl 0 rfl ?_
  refine k_iload_n hC dJ5_newCapacity_0f7a4_14 rfl 1 rfl ?_
  refine k_isub hC dJ5_newCapacity_0f7a4_15 ?_
  refine k_istore hC [(4, vI (mn - 16)), (3, vI mn), (2, vI 16), (0, .ref (kad G 132)), (1, vI mn)] dJ5_newCapacity_0f7a4_16 (by decide) rfl ?_
  refine k_iload_n hC dJ5_newCapacity_0f7a4_18 rfl 2 rfl ?_
  refine k_iload hC dJ5_newCapacity_0f7a4_19 0 rfl ?_
  refine k_iload_n hC dJ5_newCapacity_0f7a4_21 rfl 2 rfl ?_
  refine k_iconst hC dJ5_newCapacity_0f7a4_22 ?_
  refine k_aload_n hC dJ5_newCapacity_0f7a4_23 rfl 3 rfl ?_
  refine k_get hC fd_J5_22 (kl hN (by decide)) h132 rfl dJ5_newCapacity_0f7a4_24 ?_
  refine k_ishl0 hC dJ5_newCapacity_0f7a4_27 ?_
  refine k_iadd hC dJ5_newCapacity_0f7a4_28 ?_
  refine k_topv (vI 18) rfl ?_
  refine k_pureS hC (c_J8_newLength_cabcc l hls G hN w [(q, bA G 16 f)] (mn - 16) (by omega)) yy_J8_newLength_cabcc wm_J5_114 rfl rfl (Nat.le_of_ble_eq_true rfl) (by decide) (by decide) ⟨by decide, by decide⟩ dJ5_newCapacity_0f7a4_29 ?_
  refine k_istore hC [(5, vI 34), (4, vI (mn - 16)), (3, vI mn), (2, vI 16), (0, .ref (kad G 132)), (1, vI mn)] dJ5_newCapacity_0f7a4_32 (by decide) rfl ?_
  refine k_iload hC dJ5_newCapacity_0f7a4_34 0 rfl ?_
  refine k_ldc hC (x := 2147483647) (v := 2147483647) dJ5_newCapacity_0f7a4_36 (by decide) wk_J5_39 ?_
  refine k_icmp_ne hC 51 dJ5_newCapacity_0f7a4_38 rfl (by omega) (by omega) (fun c_38 => ?_) (fun c_38 => absurd c_38 (by omega))
  refine k_iload hC dJ5_newCapacity_0f7a4_51 0 rfl ?_
  refine k_aload_n hC dJ5_newCapacity_0f7a4_53 rfl 4 rfl ?_
  refine k_get hC fd_J5_22 (kl hN (by decide)) h132 rfl dJ5_newCapacity_0f7a4_54 ?_
  refine k_ishr0 hC dJ5_newCapacity_0f7a4_57 ?_
  subst hQ
  exact k_iret hC hr ⟨by decide, by decide⟩ (⟨rfl, rfl, rfl⟩) dJ5_newCapacity_0f7a4_58

set_option maxRecDepth 100000 in
set_option maxHeartbeats 4000000 in
theorem c_J7_copyOf_9075b (l : Launch) (hls : l.stackTraces = false) (G : kG) (hN : kN G = 150) (w : Nat → va_E) (fl : va_W) (q : Nat) (f : Nat → Int) (hfl : fl = [(q, bA G 16 f)]) (h8 : ∀ j, -128 ≤ f j ∧ f j < 128) : KM l G yJ7_copyOf_9075b cJ7_copyOf_9075b 3 (some ((FieldType.array FieldType.byte))) 2 1 34 [.ref q, vI 34] w fl (fun v1 w1 fl1 => ∃ q1, some (.ref q1) = v1 ∧ w = w1 ∧ fl1 = [(q, bA G 16 f), (q1, bA G 34 (va_cpy f (fun _ => 0) 0 0 16))]) := by
  refine KM_ofF hls (by decide +kernel) rfl (lv0 := [(0, .ref q), (1, vI 34)]) rfl (Nat.le_of_ble_eq_true rfl) (fun p e R s m args below meth c Q hC hr hQ => ?_)
  subst hfl
  refine k_iload_n hC dJ7_copyOf_9075b_0 rfl 1 rfl ?_
  refine k_aload_n hC dJ7_copyOf_9075b_1 rfl 0 rfl ?_
  refine k_alenF hC 0 rfl dJ7_copyOf_9075b_2 ?_
  refine k_icmp_ne hC 14 dJ7_copyOf_9075b_3 rfl (by omega) (by omega) (fun c_3 => ?_) (fun c_3 => absurd c_3 (by omega))
  refine k_iload_n hC dJ7_copyOf_9075b_14 rfl 1 rfl ?_
  refine k_newb hC (n := 34) (by decide) w_arb ⟨by decide, by decide⟩ dJ7_copyOf_9075b_15 (fun q1 => ?_)
  show KW p l e R s m args below meth c 3 G Q w [(q, bA G 16 f), (q1, bA G 34 (fun _ => 0))] 1 34 17 [(0, .ref q), (1, vI 34)] [.ref q1]
  refine k_astore_n hC [(2, .ref q1), (0, .ref q), (1, vI 34)] dJ7_copyOf_9075b_17 rfl (by decide) rfl ?_
  refine k_aload_n hC dJ7_copyOf_9075b_18 rfl 1 rfl ?_
  refine k_iconst hC dJ7_copyOf_9075b_19 ?_
  refine k_aload_n hC dJ7_copyOf_9075b_20 rfl 0 rfl ?_
  refine k_iconst hC dJ7_copyOf_9075b_21 ?_
  refine k_aload_n hC dJ7_copyOf_9075b_22 rfl 1 rfl ?_
  refine k_alenF hC 0 rfl dJ7_copyOf_9075b_23 ?_
  refine k_iload_n hC dJ7_copyOf_9075b_24 rfl 2 rfl ?_
  refine k_mmin hC wm_J7_304 wmath_mmin (by omega) (by omega) (by decide) (Nat.le_of_ble_eq_true rfl) ⟨by decide, by decide⟩ dJ7_copyOf_9075b_25 ?_
  refine k_topv (vI 16) rfl ?_
  refine k_copyF hC wm_J7_150 wcopy (by omega) (by omega) (by omega) ⟨by omega, by omega⟩ (fun j _ => h8 j) (by decide) (Nat.le_of_ble_eq_true rfl) dJ7_copyOf_9075b_28 ?_
  refine k_aload_n hC dJ7_copyOf_9075b_31 rfl 0 rfl ?_
  subst hQ
  exact k_aret hC hr (Or.inr ⟨_, rfl⟩) (Or.inr ⟨_, rfl⟩) ⟨by decide, by decide⟩ (⟨_, rfl, rfl, rfl⟩) dJ7_copyOf_9075b_32

set_option maxRecDepth 100000 in
set_option maxHeartbeats 4000000 in
theorem c_J5_ensure_in (l : Launch) (hls : l.stackTraces = false) (G : kG) (hN : kN G = 150) (w : Nat → va_E) (fl : va_W) (T : List Int) (cap : Nat) (mn : Int) (hsb : sbC G w fl T cap) (hmn : 0 ≤ mn ∧ mn ≤ (cap : Int)) : KM l G yJ5_ensureCapacityInternal_d00df cJ5_ensureCapacityInternal_d00df 3 (none) 0 0 0 [.ref (kad G 132), vI mn] w fl (kMuv fl (fun w1 => w = w1)) := by
  refine KM_ofF hls (by decide +kernel) rfl (lv0 := [(0, .ref (kad G 132)), (1, vI mn)]) rfl (Nat.le_of_ble_eq_true rfl) (fun p e R s m args below meth c Q hC hr hQ => ?_)
  have hsb0 := hsb
  obtain ⟨q, f, ml, hfl, h132, hcap, hlen, h8, hcd⟩ := hsb
  subst hfl
  refine k_aload_n hC dJ5_ensureCapacityInternal_d00df_0 rfl 0 rfl ?_
  refine k_get hC fd_J5_15 (kl hN (by decide)) h132 rfl dJ5_ensureCapacityInternal_d00df_1 ?_
  refine k_alenF hC 0 rfl dJ5_ensureCapacityInternal_d00df_4 ?_
  refine k_aload_n hC dJ5_ensureCapacityInternal_d00df_5 rfl 0 rfl ?_
  refine k_get hC fd_J5_22 (kl hN (by decide)) h132 rfl dJ5_ensureCapacityInternal_d00df_6 ?_
  refine k_ishr0 hC dJ5_ensureCapacityInternal_d00df_9 ?_
  refine k_istore_n hC [(2, vI (cap : Int)), (0, .ref (kad G 132)), (1, vI mn)] dJ5_ensureCapacityInternal_d00df_10 rfl (by decide) rfl ?_
  refine k_iload_n hC dJ5_ensureCapacityInternal_d00df_11 rfl 2 rfl ?_
  refine k_iload_n hC dJ5_ensureCapacityInternal_d00df_12 rfl 0 rfl ?_
  refine k_isub hC dJ5_ensureCapacityInternal_d00df_13 ?_
  refine k_if_le hC 38 dJ5_ensureCapacityInternal_d00df_14 rfl (by omega) (fun c_14 => ?_) (fun c_14 => absurd c_14 (by omega))
  subst hQ
  exact k_vret hC hr ⟨by decide, by decide⟩ (⟨rfl, rfl, rfl⟩) dJ5_ensureCapacityInternal_d00df_38

set_option maxRecDepth 100000 in
set_option maxHeartbeats 4000000 in
theorem c_J5_ensure_any (l : Launch) (hls : l.stackTraces = false) (G : kG) (hN : kN G = 150) (w : Nat → va_E) (fl : va_W) (T : List Int) (cap : Nat) (mn : Int) (hsb : sbC G w fl T cap) (hmn : 0 ≤ mn ∧ mn ≤ 34) : KM l G yJ5_ensureCapacityInternal_d00df cJ5_ensureCapacityInternal_d00df 3 (none) 3 1 34 [.ref (kad G 132), vI mn] w fl (fun v1 w1 fl1 => none = v1 ∧ sbP G w T (fun z => mn ≤ (z : Int) ∧ cap ≤ z) w1 fl1) := by
  refine KM_ofF hls (by decide +kernel) rfl (lv0 := [(0, .ref (kad G 132)), (1, vI mn)]) rfl (Nat.le_of_ble_eq_true rfl) (fun p e R s m args below meth c Q hC hr hQ => ?_)
  have hsb0 := hsb
  obtain ⟨q, f, ml, hfl, h132, hcap, hlen, h8, hcd⟩ := hsb
  subst hfl
  refine k_aload_n hC dJ5_ensureCapacityInternal_d00df_0 rfl 0 rfl ?_
  refine k_get hC fd_J5_15 (kl hN (by decide)) h132 rfl dJ5_ensureCapacityInternal_d00df_1 ?_
  refine k_alenF hC 0 rfl dJ5_ensureCapacityInternal_d00df_4 ?_
  refine k_aload_n hC dJ5_ensureCapacityInternal_d00df_5 rfl 0 rfl ?_
  refine k_get hC fd_J5_22 (kl hN (by decide)) h132 rfl dJ5_ensureCapacityInternal_d00df_6 ?_
  refine k_ishr0 hC dJ5_ensureCapacityInternal_d00df_9 ?_
  refine k_istore_n hC [(2, vI (cap : Int)), (0, .ref (kad G 132)), (1, vI mn)] dJ5_ensureCapacityInternal_d00df_10 rfl (by decide) rfl ?_
  refine k_iload_n hC dJ5_ensureCapacityInternal_d00df_11 rfl 2 rfl ?_
  refine k_iload_n hC dJ5_ensureCapacityInternal_d00df_12 rfl 0 rfl ?_
  refine k_isub hC dJ5_ensureCapacityInternal_d00df_13 ?_
  refine k_if_le hC 38 dJ5_ensureCapacityInternal_d00df_14 rfl (by omega) (fun c_14 => ?_) (fun c_14 => ?_)
  · subst hQ
    exact k_vret hC hr ⟨by decide, by decide⟩ (⟨rfl, cap, hsb0, ⟨by omega, by omega⟩, fun j _ => rfl⟩) dJ5_ensureCapacityInternal_d00df_38
  · obtain rfl : cap = 16 := by omega
    refine k_aload_n hC dJ5_ensureCapacityInternal_d00df_17 rfl 1 rfl ?_
    refine k_aload_n hC dJ5_ensureCapacityInternal_d00df_18 rfl 1 rfl ?_
    refine k_get hC fd_J5_15 (kl hN (by decide)) h132 rfl dJ5_ensureCapacityInternal_d00df_19 ?_
    refine k_aload_n hC dJ5_ensureCapacityInternal_d00df_22 rfl 1 rfl ?_
    refine k_iload_n hC dJ5_ensureCapacityInternal_d00df_23 rfl 2 rfl ?_
    refine k_callU hC (c_J5_newCapacity_0f7a4 l hls G hN w [(q, bA G 16 f)] q f ml (T.length : Int) mn rfl (by omega) h132) yu_J5_newCapacity_0f7a4 wm_J5_104 (kl hN (by decide)) h132 rfl rfl (Nat.le_of_ble_eq_true rfl) (by decide) (by decide) ⟨by decide, by decide⟩ dJ5_ensureCapacityInternal_d00df_24 (fun v1 w1 fl1 hp1 => ?_)
    obtain ⟨hp1a, hp1b, hp1c⟩ := hp1; subst hp1a; subst hp1b; subst hp1c
    show KW p l e R s m args below meth c 3 G Q w [(q, bA G 16 f)] 0 0 27 [(2, vI ((16 : Nat) : Int)), (0, .ref (kad G 132)), (1, vI mn)] [vI 34, .ref q, .ref (kad G 132)]
    refine k_aload_n hC dJ5_ensureCapacityInternal_d00df_27 rfl 1 rfl ?_
    refine k_get hC fd_J5_22 (kl hN (by decide)) h132 rfl dJ5_ensureCapacityInternal_d00df_28 ?_
    refine k_ishl0 hC dJ5_ensureCapacityInternal_d00df_31 ?_
    refine k_callS hC (c_J7_copyOf_9075b l hls G hN w [(q, bA G 16 f)] q f rfl h8) yy_J7_copyOf_9075b wm_J5_108 rfl rfl (Nat.le_of_ble_eq_true rfl) (by decide) (by decide) ⟨by decide, by decide⟩ dJ5_ensureCapacityInternal_d00df_32 (fun v2 w2 fl2 hp2 => ?_)
    obtain ⟨q2, hp2a, hp2b, hp2c⟩ := hp2; subst hp2a; subst hp2b; subst hp2c
    show KW p l e R s m args below meth c 3 G Q w [(q, bA G 16 f), (q2, bA G 34 (va_cpy f (fun _ => 0) 0 0 16))] 1 34 35 [(2, vI ((16 : Nat) : Int)), (0, .ref (kad G 132)), (1, vI mn)] [.ref q2, .ref (kad G 132)]
    refine k_put hC fd_J5_15 (kl hN (by decide)) h132 [.ref q2, vI 0, ml, vI (T.length : Int)] rfl (Nat.le_of_ble_eq_true rfl) rfl rfl dJ5_ensureCapacityInternal_d00df_35 (fun w3 hw3 hf3 => ?_)
    refine k_fldrop ?_
    subst hQ
    exact k_vret hC hr ⟨by decide, by decide⟩ (⟨rfl, 34, ⟨q2, _, ml, rfl, hw3, Or.inr rfl, by omega, cpy_8 h8 (fun _ => by decide), ⟨rfl, fun j hj => Eq.trans (if_pos (by omega)) (Eq.trans (congrArg f (by omega)) (hcd.2 j hj))⟩⟩, ⟨by omega, by omega⟩, fun j hj => hf3 j (by omega)⟩) dJ5_ensureCapacityInternal_d00df_38

set_option maxRecDepth 100000 in
set_option maxHeartbeats 4000000 in
theorem c_J5_append_C_in (l : Launch) (hls : l.stackTraces = false) (G : kG) (hN : kN G = 150) (w : Nat → va_E) (fl : va_W) (T : List Int) (cap : Nat) (x : Int) (hsb : sbC G w fl T cap) (hx : 0 ≤ x ∧ x ≤ 127) (hlt : (T.length : Int) + 1 ≤ (cap : Int)) : KM l G yJ5_append_3fe6f cJ5_append_3fe6f 2 (some ((FieldType.object "java/lang/AbstractStringBuilder"))) 1 0 0 [.ref (kad G 132), vI x] w fl (fun v1 w1 fl1 => some (.ref (kad G 132)) = v1 ∧ sbP G w (T ++ [x]) (fun z => z = cap) w1 fl1) := by
  refine KM_ofF hls (by decide +kernel) rfl (lv0 := [(0, .ref (kad G 132)), (1, vI x)]) rfl (Nat.le_of_ble_eq_true rfl) (fun p e R s m args below meth c Q hC hr hQ => ?_)
  have hsb0 := hsb
  obtain ⟨q, f, ml, hfl, h132, hcap, hlen, h8, hcd⟩ := hsb
  subst hfl
  refine k_aload_n hC dJ5_append_3fe6f_0 rfl 0 rfl ?_
  refine k_aload_n hC dJ5_append_3fe6f_1 rfl 0 rfl ?_
  refine k_get hC fd_J5_79 (kl hN (by decide)) h132 rfl dJ5_append_3fe6f_2 ?_
  refine k_iconst hC dJ5_append_3fe6f_5 ?_
  refine k_iadd hC dJ5_append_3fe6f_6 ?_
  refine k_callU hC (c_J5_ensure_in l hls G hN w [(q, bA G cap f)] T cap ((T.length : Int) + 1) hsb0 (by omega)) yu_J5_ensureCapacityInternal_d00df wm_J5_100 (kl hN (by decide)) h132 rfl rfl (Nat.le_of_ble_eq_true rfl) (by decide) (by decide) ⟨by decide, by decide⟩ dJ5_append_3fe6f_7 (fun v1 w1 fl1 hp1 => ?_)
  obtain ⟨hp1a, hp1b, hp1c⟩ := hp1; subst hp1a; subst hp1b; subst hp1c
  show KW p l e R s m args below meth c 2 G Q w [(q, bA G cap f)] 0 0 10 [(0, .ref (kad G 132)), (1, vI x)] []
  refine k_aload_n hC dJ5_append_3fe6f_10 rfl 0 rfl ?_
  refine k_callU hC (c_J5_isLatin1_aae02 l hls G hN w [(q, bA G cap f)] q ml (T.length : Int) h132) yu_J5_isLatin1_aae02 wm_J5_83 (kl hN (by decide)) h132 rfl rfl (Nat.le_of_ble_eq_true rfl) (by decide) (by decide) ⟨by decide, by decide⟩ dJ5_append_3fe6f_11 (fun v2 w2 fl2 hp2 => ?_)
  obtain ⟨hp2a, hp2b, hp2c⟩ := hp2; subst hp2a; subst hp2b; subst hp2c
  show KW p l e R s m args below meth c 2 G Q w [(q, bA G cap f)] 0 0 14 [(0, .ref (kad G 132)), (1, vI x)] [vI 1]
  refine k_if_eq hC 45 dJ5_append_3fe6f_14 rfl (by omega) (fun c_14 => absurd c_14 (by omega)) (fun c_14 => ?_)
  refine k_iload_n hC dJ5_append_3fe6f_17 rfl 1 rfl ?_
  refine k_pureS hC (c_J1_canEncode_fc78d l hls G hN w [(q, bA G cap f)] x (by omega)) yy_J1_canEncode_fc78d wm_J5_191 rfl rfl (Nat.le_of_ble_eq_true rfl) (by decide) (by decide) ⟨by decide, by decide⟩ dJ5_append_3fe6f_18 ?_
  refine k_if_eq hC 45 dJ5_append_3fe6f_21 rfl (by omega) (fun c_21 => absurd c_21 (by omega)) (fun c_21 => ?_)
  refine k_aload_n hC dJ5_append_3fe6f_24 rfl 0 rfl ?_
  refine k_get hC fd_J5_15 (kl hN (by decide)) h132 rfl dJ5_append_3fe6f_25 ?_
  refine k_aload_n hC dJ5_append_3fe6f_28 rfl 0 rfl ?_
  refine k_dup hC dJ5_append_3fe6f_29 rfl ?_
  refine k_get hC fd_J5_79 (kl hN (by decide)) h132 rfl dJ5_append_3fe6f_30 ?_
  refine k_dupx1 hC dJ5_append_3fe6f_33 rfl rfl ?_
  refine k_iconst hC dJ5_append_3fe6f_34 ?_
  refine k_iadd hC dJ5_append_3fe6f_35 ?_
  refine k_topv (vI ((T ++ [x]).length : Int)) (congrArg vI (by rw [List.length_append]; rfl)) ?_
  refine k_put hC fd_J5_79 (kl hN (by decide)) h132 [.ref q, vI 0, ml, vI ((T ++ [x]).length : Int)] rfl (Nat.le_of_ble_eq_true rfl) rfl rfl dJ5_append_3fe6f_36 (fun w3 hw3 hf3 => ?_)
  refine k_iload_n hC dJ5_append_3fe6f_39 rfl 1 rfl ?_
  refine k_i2b hC dJ5_append_3fe6f_40 ?_
  refine k_topv (vI x) (congrArg vI (by unfold sb8; rw [if_pos (by omega)]; omega)) ?_
  refine k_bastF hC 0 [(q, bA G cap (kup f T.length x))] rfl (by rw [show ((T.length : Int)).toNat = T.length by omega]; rfl) (by omega) (by omega) (by omega) dJ5_append_3fe6f_41 ?_
  refine k_goto hC 75 dJ5_append_3fe6f_42 rfl ?_
  refine k_aload_n hC dJ5_append_3fe6f_75 rfl 0 rfl ?_
  subst hQ
  exact k_aret hC hr (Or.inl ⟨_, rfl⟩) (Or.inr ⟨_, rfl⟩) ⟨by decide, by decide⟩ (⟨rfl, cap, ⟨q, _, ml, rfl, hw3, hcap, by rw [List.length_append]; show T.length + 1 ≤ _; omega, kup_8 h8 (by omega), by rw [List.length_append]; exact cd_put hcd⟩, rfl, fun j hj => hf3 j (by omega)⟩) dJ5_append_3fe6f_76

set_option maxRecDepth 100000 in
set_option maxHeartbeats 4000000 in
theorem c_J4_append_C_in (l : Launch) (hls : l.stackTraces = false) (G : kG) (hN : kN G = 150) (w : Nat → va_E) (fl : va_W) (T : List Int) (cap : Nat) (x : Int) (hsb : sbC G w fl T cap) (hx : 0 ≤ x ∧ x ≤ 127) (hlt : (T.length : Int) + 1 ≤ (cap : Int)) : KM l G yJ4_append_cf468 cJ4_append_cf468 2 (some ((FieldType.object "java/lang/StringBuilder"))) 2 0 0 [.ref (kad G 132), vI x] w fl (fun v1 w1 fl1 => some (.ref (kad G 132)) = v1 ∧ sbP G w (T ++ [x]) (fun z => z = cap) w1 fl1) := by
  refine KM_ofF hls (by decide +kernel) rfl (lv0 := [(0, .ref (kad G 132)), (1, vI x)]) rfl (Nat.le_of_ble_eq_true rfl) (fun p e R s m args below meth c Q hC hr hQ => ?_)
  have hsb0 := hsb
  obtain ⟨q, f, ml, hfl, h132, hcap, hlen, h8, hcd⟩ := hsb
  subst hfl
  refine k_aload_n hC dJ4_append_cf468_0 rfl 0 rfl ?_
  refine k_iload_n hC dJ4_append_cf468_1 rfl 1 rfl ?_
  refine k_callP hC (c_J5_append_C_in l hls G hN w [(q, bA G cap f)] T cap x hsb0 hx hlt) yp_J5_append_3fe6f wm_J4_50 (kl hN (by decide)) h132 rfl rfl (Nat.le_of_ble_eq_true rfl) (by decide) (by decide) ⟨by decide, by decide⟩ dJ4_append_cf468_2 (fun v1 w1 fl1 hp1 => ?_)
  obtain ⟨hp1a, hp1b⟩ := hp1; subst hp1a
  show KW p l e R s m args below meth c 2 G Q w1 fl1 0 0 5 [(0, .ref (kad G 132)), (1, vI x)] [.ref (kad G 132)]
  refine k_pop hC dJ4_append_cf468_5 rfl ?_
  refine k_aload_n hC dJ4_append_cf468_6 rfl 0 rfl ?_
  subst hQ
  exact k_aret hC hr (Or.inl ⟨_, rfl⟩) (Or.inr ⟨_, rfl⟩) ⟨by decide, by decide⟩ (⟨rfl, hp1b⟩) dJ4_append_cf468_7

set_option maxRecDepth 100000 in
set_option maxHeartbeats 4000000 in
theorem c_J5_append_C_any (l : Launch) (hls : l.stackTraces = false) (G : kG) (hN : kN G = 150) (w : Nat → va_E) (fl : va_W) (T : List Int) (cap : Nat) (x : Int) (hsb : sbC G w fl T cap) (hx : 0 ≤ x ∧ x ≤ 127) (hlt : (T.length : Int) + 1 ≤ 34) : KM l G yJ5_append_3fe6f cJ5_append_3fe6f 2 (some ((FieldType.object "java/lang/AbstractStringBuilder"))) 4 1 34 [.ref (kad G 132), vI x] w fl (fun v1 w1 fl1 => some (.ref (kad G 132)) = v1 ∧ sbP G w (T ++ [x]) (fun z => cap ≤ z) w1 fl1) := by
  refine KM_ofF hls (by decide +kernel) rfl (lv0 := [(0, .ref (kad G 132)), (1, vI x)]) rfl (Nat.le_of_ble_eq_true rfl) (fun p e R s m args below meth c Q hC hr hQ => ?_)
  have hsb0 := hsb
  obtain ⟨q, f, ml, hfl, h132, hcap, hlen, h8, hcd⟩ := hsb
  subst hfl
  refine k_aload_n hC dJ5_append_3fe6f_0 rfl 0 rfl ?_
  refine k_aload_n hC dJ5_append_3fe6f_1 rfl 0 rfl ?_
  refine k_get hC fd_J5_79 (kl hN (by decide)) h132 rfl dJ5_append_3fe6f_2 ?_
  refine k_iconst hC dJ5_append_3fe6f_5 ?_
  refine k_iadd hC dJ5_append_3fe6f_6 ?_
  refine k_callU hC (c_J5_ensure_any l hls G hN w [(q, bA G cap f)] T cap ((T.length : Int) + 1) hsb0 (by omega)) yu_J5_ensureCapacityInternal_d00df wm_J5_100 (kl hN (by decide)) h132 rfl rfl (Nat.le_of_ble_eq_true rfl) (by decide) (by decide) ⟨by decide, by decide⟩ dJ5_append_3fe6f_7 (fun v1 w1 fl1 hp1 => ?_)
  obtain ⟨hp1a, cap1, hsb1, hcp1, hf1⟩ := hp1; subst hp1a
  have hsb0 := hsb1
  obtain ⟨q, f, ml, hfl, h132, hcap, hlen, h8, hcd⟩ := hsb1
  subst hfl
  show KW p l e R s m args below meth c 2 G Q w1 [(q, bA G cap1 f)] 1 34 10 [(0, .ref (kad G 132)), (1, vI x)] []
  refine k_aload_n hC dJ5_append_3fe6f_10 rfl 0 rfl ?_
  refine k_callU hC (c_J5_isLatin1_aae02 l hls G hN w1 [(q, bA G cap1 f)] q ml (T.length : Int) h132) yu_J5_isLatin1_aae02 wm_J5_83 (kl hN (by decide)) h132 rfl rfl (Nat.le_of_ble_eq_true rfl) (by decide) (by decide) ⟨by decide, by decide⟩ dJ5_append_3fe6f_11 (fun v2 w2 fl2 hp2 => ?_)
  obtain ⟨hp2a, hp2b, hp2c⟩ := hp2; subst hp2a; subst hp2b; subst hp2c
  show KW p l e R s m args below meth c 2 G Q w1 [(q, bA G cap1 f)] 1 34 14 [(0, .ref (kad G 132)), (1, vI x)] [vI 1]
  refine k_if_eq hC 45 dJ5_append_3fe6f_14 rfl (by omega) (fun c_14 => absurd c_14 (by omega)) (fun c_14 => ?_)
  refine k_iload_n hC dJ5_append_3fe6f_17 rfl 1 rfl ?_
  refine k_pureS hC (c_J1_canEncode_fc78d l hls G hN w1 [(q, bA G cap1 f)] x (by omega)) yy_J1_canEncode_fc78d wm_J5_191 rfl rfl (Nat.le_of_ble_eq_true rfl) (by decide) (by decide) ⟨by decide, by decide⟩ dJ5_append_3fe6f_18 ?_
  refine k_if_eq hC 45 dJ5_append_3fe6f_21 rfl (by omega) (fun c_21 => absurd c_21 (by omega)) (fun c_21 => ?_)
  refine k_aload_n hC dJ5_append_3fe6f_24 rfl 0 rfl ?_
  refine k_get hC fd_J5_15 (kl hN (by decide)) h132 rfl dJ5_append_3fe6f_25 ?_
  refine k_aload_n hC dJ5_append_3fe6f_28 rfl 0 rfl ?_
  refine k_dup hC dJ5_append_3fe6f_29 rfl ?_
  refine k_get hC fd_J5_79 (kl hN (by decide)) h132 rfl dJ5_append_3fe6f_30 ?_
  refine k_dupx1 hC dJ5_append_3fe6f_33 rfl rfl ?_
  refine k_iconst hC dJ5_append_3fe6f_34 ?_
  refine k_iadd hC dJ5_append_3fe6f_35 ?_
  refine k_topv (vI ((T ++ [x]).length : Int)) (congrArg vI (by rw [List.length_append]; rfl)) ?_
  refine k_put hC fd_J5_79 (kl hN (by decide)) h132 [.ref q, vI 0, ml, vI ((T ++ [x]).length : Int)] rfl (Nat.le_of_ble_eq_true rfl) rfl rfl dJ5_append_3fe6f_36 (fun w3 hw3 hf3 => ?_)
  refine k_iload_n hC dJ5_append_3fe6f_39 rfl 1 rfl ?_
  refine k_i2b hC dJ5_append_3fe6f_40 ?_
  refine k_topv (vI x) (congrArg vI (by unfold sb8; rw [if_pos (by omega)]; omega)) ?_
  refine k_bastF hC 0 [(q, bA G cap1 (kup f T.length x))] rfl (by rw [show ((T.length : Int)).toNat = T.length by omega]; rfl) (by omega) (by omega) (by omega) dJ5_append_3fe6f_41 ?_
  refine k_goto hC 75 dJ5_append_3fe6f_42 rfl ?_
  refine k_aload_n hC dJ5_append_3fe6f_75 rfl 0 rfl ?_
  subst hQ
  exact k_aret hC hr (Or.inl ⟨_, rfl⟩) (Or.inr ⟨_, rfl⟩) ⟨by decide, by decide⟩ (⟨rfl, cap1, ⟨q, _, ml, rfl, hw3, hcap, by rw [List.length_append]; show T.length + 1 ≤ _; omega, kup_8 h8 (by omega), by rw [List.length_append]; exact cd_put hcd⟩, by omega, fun j hj => (hf3 j (by omega)).trans (hf1 j (by omega))⟩) dJ5_append_3fe6f_76

set_option maxRecDepth 100000 in
set_option maxHeartbeats 4000000 in
theorem c_J4_append_C_any (l : Launch) (hls : l.stackTraces = false) (G : kG) (hN : kN G = 150) (w : Nat → va_E) (fl : va_W) (T : List Int) (cap : Nat) (x : Int) (hsb : sbC G w fl T cap) (hx : 0 ≤ x ∧ x ≤ 127) (hlt : (T.length : Int) + 1 ≤ 34) : KM l G yJ4_append_cf468 cJ4_append_cf468 2 (some ((FieldType.object "java/lang/StringBuilder"))) 5 1 34 [.ref (kad G 132), vI x] w fl (fun v1 w1 fl1 => some (.ref (kad G 132)) = v1 ∧ sbP G w (T ++ [x]) (fun z => cap ≤ z) w1 fl1) := by
  refine KM_ofF hls (by decide +kernel) rfl (lv0 := [(0, .ref (kad G 132)), (1, vI x)]) rfl (Nat.le_of_ble_eq_true rfl) (fun p e R s m args below meth c Q hC hr hQ => ?_)
  have hsb0 := hsb
  obtain ⟨q, f, ml, hfl, h132, hcap, hlen, h8, hcd⟩ := hsb
  subst hfl
  refine k_aload_n hC dJ4_append_cf468_0 rfl 0 rfl ?_
  refine k_iload_n hC dJ4_append_cf468_1 rfl 1 rfl ?_
  refine k_callP hC (c_J5_append_C_any l hls G hN w [(q, bA G cap f)] T cap x hsb0 hx hlt) yp_J5_append_3fe6f wm_J4_50 (kl hN (by decide)) h132 rfl rfl (Nat.le_of_ble_eq_true rfl) (by decide) (by decide) ⟨by decide, by decide⟩ dJ4_append_cf468_2 (fun v1 w1 fl1 hp1 => ?_)
  obtain ⟨hp1a, hp1b⟩ := hp1; subst hp1a
  show KW p l e R s m args below meth c 2 G Q w1 fl1 1 34 5 [(0, .ref (kad G 132)), (1, vI x)] [.ref (kad G 132)]
  refine k_pop hC dJ4_append_cf468_5 rfl ?_
  refine k_aload_n hC dJ4_append_cf468_6 rfl 0 rfl ?_
  subst hQ
  exact k_aret hC hr (Or.inl ⟨_, rfl⟩) (Or.inr ⟨_, rfl⟩) ⟨by decide, by decide⟩ (⟨rfl, hp1b⟩) dJ4_append_cf468_7

set_option maxRecDepth 100000 in
set_option maxHeartbeats 4000000 in
theorem c_J5_setLength_d00df (l : Launch) (hls : l.stackTraces = false) (G : kG) (hN : kN G = 150) (w : Nat → va_E) (fl : va_W) (T : List Int) (cap : Nat)  (hsb : sbC G w fl T cap) : KM l G yJ5_setLength_d00df cJ5_setLength_d00df 2 (none) 1 0 0 [.ref (kad G 132), vI 0] w fl (kMuv fl (fun w1 => sbC G w1 fl [] cap ∧ ∀ j, j ≠ 132 → w1 j = w j)) := by
  refine KM_ofF hls (by decide +kernel) rfl (lv0 := [(0, .ref (kad G 132)), (1, vI 0)]) rfl (Nat.le_of_ble_eq_true rfl) (fun p e R s m args below meth c Q hC hr hQ => ?_)
  have hsb0 := hsb
  obtain ⟨q, f, ml, hfl, h132, hcap, hlen, h8, hcd⟩ := hsb
  subst hfl
  refine k_iload_n hC dJ5_setLength_d00df_0 rfl 1 rfl ?_
  refine k_if_ge hC 13 dJ5_setLength_d00df_1 rfl (by omega) (fun c_1 => ?_) (fun c_1 => absurd c_1 (by omega))
  refine k_aload_n hC dJ5_setLength_d00df_13 rfl 0 rfl ?_
  refine k_iload_n hC dJ5_setLength_d00df_14 rfl 1 rfl ?_
  refine k_callU hC (c_J5_ensure_in l hls G hN w [(q, bA G cap f)] T cap 0 hsb0 (by omega)) yu_J5_ensureCapacityInternal_d00df wm_J5_100 (kl hN (by decide)) h132 rfl rfl (Nat.le_of_ble_eq_true rfl) (by decide) (by decide) ⟨by decide, by decide⟩ dJ5_setLength_d00df_15 (fun v1 w1 fl1 hp1 => ?_)
  obtain ⟨hp1a, hp1b, hp1c⟩ := hp1; subst hp1a; subst hp1b; subst hp1c
  show KW p l e R s m args below meth c 2 G Q w [(q, bA G cap f)] 0 0 18 [(0, .ref (kad G 132)), (1, vI 0)] []
  refine k_aload_n hC dJ5_setLength_d00df_18 rfl 0 rfl ?_
  refine k_get hC fd_J5_79 (kl hN (by decide)) h132 rfl dJ5_setLength_d00df_19 ?_
  refine k_iload_n hC dJ5_setLength_d00df_22 rfl 1 rfl ?_
  refine k_icmp_ge hC 63 dJ5_setLength_d00df_23 rfl (by omega) (by omega) (fun c_23 => ?_) (fun c_23 => absurd c_23 (by omega))
  refine k_aload_n hC dJ5_setLength_d00df_63 rfl 0 rfl ?_
  refine k_get hC fd_J5_79 (kl hN (by decide)) h132 rfl dJ5_setLength_d00df_64 ?_
  refine k_iload_n hC dJ5_setLength_d00df_67 rfl 1 rfl ?_
  refine k_icmp_le hC 76 dJ5_setLength_d00df_68 rfl (by omega) (by omega) (fun c_68 => ?_) (fun c_68 => ?_)
  · refine k_aload_n hC dJ5_setLength_d00df_76 rfl 0 rfl ?_
    refine k_iload_n hC dJ5_setLength_d00df_77 rfl 1 rfl ?_
    refine k_put hC fd_J5_79 (kl hN (by decide)) h132 [.ref q, vI 0, ml, vI 0] rfl (Nat.le_of_ble_eq_true rfl) rfl rfl dJ5_setLength_d00df_78 (fun w2 hw2 hf2 => ?_)
    subst hQ
    exact k_vret hC hr ⟨by decide, by decide⟩ (⟨rfl, rfl, ⟨q, f, ml, rfl, hw2, hcap, Nat.zero_le _, h8, ⟨rfl, fun j hj => absurd hj (Nat.not_lt_zero j)⟩⟩, fun j hj => hf2 j (by omega)⟩) dJ5_setLength_d00df_81
  · refine k_aload_n hC dJ5_setLength_d00df_71 rfl 0 rfl ?_
    refine k_iconst hC dJ5_setLength_d00df_72 ?_
    refine k_put hC fd_J5_73 (kl hN (by decide)) h132 [.ref q, vI 0, vI 1, vI (T.length : Int)] rfl (Nat.le_of_ble_eq_true rfl) rfl rfl dJ5_setLength_d00df_73 (fun w3 hw3 hf3 => ?_)
    refine k_aload_n hC dJ5_setLength_d00df_76 rfl 0 rfl ?_
    refine k_iload_n hC dJ5_setLength_d00df_77 rfl 1 rfl ?_
    refine k_put hC fd_J5_79 (kl hN (by decide)) hw3 [.ref q, vI 0, vI 1, vI 0] rfl (Nat.le_of_ble_eq_true rfl) rfl rfl dJ5_setLength_d00df_78 (fun w4 hw4 hf4 => ?_)
    subst hQ
    exact k_vret hC hr ⟨by decide, by decide⟩ (⟨rfl, rfl, ⟨q, f, vI 1, rfl, hw4, hcap, Nat.zero_le _, h8, ⟨rfl, fun j hj => absurd hj (Nat.not_lt_zero j)⟩⟩, fun j hj => (hf4 j (by omega)).trans (hf3 j (by omega))⟩) dJ5_setLength_d00df_81

set_option maxRecDepth 100000 in
set_option maxHeartbeats 4000000 in
theorem c_J4_setLength_d00df (l : Launch) (hls : l.stackTraces = false) (G : kG) (hN : kN G = 150) (w : Nat → va_E) (fl : va_W) (T : List Int) (cap : Nat)  (hsb : sbC G w fl T cap) : KM l G yJ4_setLength_d00df cJ4_setLength_d00df 2 (none) 2 0 0 [.ref (kad G 132), vI 0] w fl (kMuv fl (fun w1 => sbC G w1 fl [] cap ∧ ∀ j, j ≠ 132 → w1 j = w j)) := by
  refine KM_ofF hls (by decide +kernel) rfl (lv0 := [(0, .ref (kad G 132)), (1, vI 0)]) rfl (Nat.le_of_ble_eq_true rfl) (fun p e R s m args below meth c Q hC hr hQ => ?_)
  have hsb0 := hsb
  obtain ⟨q, f, ml, hfl, h132, hcap, hlen, h8, hcd⟩ := hsb
  subst hfl
  refine k_aload_n hC dJ4_setLength_d00df_0 rfl 0 rfl ?_
  refine k_iload_n hC dJ4_setLength_d00df_1 rfl 1 rfl ?_
  refine k_callP hC (c_J5_setLength_d00df l hls G hN w [(q, bA G cap f)] T cap hsb0) yp_J5_setLength_d00df wm_J4_333 (kl hN (by decide)) h132 rfl rfl (Nat.le_of_ble_eq_true rfl) (by decide) (by decide) ⟨by decide, by decide⟩ dJ4_setLength_d00df_2 (fun v1 w1 fl1 hp1 => ?_)
  obtain ⟨hp1a, hp1b, hp1c⟩ := hp1; subst hp1a; subst hp1b
  show KW p l e R s m args below meth c 2 G Q w1 [(q, bA G cap f)] 0 0 5 [(0, .ref (kad G 132)), (1, vI 0)] []
  subst hQ
  exact k_vret hC hr ⟨by decide, by decide⟩ (⟨rfl, rfl, hp1c⟩) dJ4_setLength_d00df_5

set_option maxRecDepth 100000 in
set_option maxHeartbeats 4000000 in
theorem c_J4_length_8abf5 (l : Launch) (hls : l.stackTraces = false) (G : kG) (hN : kN G = 150) (w : Nat → va_E) (fl : va_W) (T : List Int) (cap : Nat)  (hsb : sbC G w fl T cap) : KM l G yJ4_length_8abf5 cJ4_length_8abf5 1 (some (FieldType.int)) 1 0 0 [.ref (kad G 132)] w fl (kPure (vI (T.length : Int)) w fl) := by
  refine KM_ofF hls (by decide +kernel) rfl (lv0 := [(0, .ref (kad G 132))]) rfl (Nat.le_of_ble_eq_true rfl) (fun p e R s m args below meth c Q hC hr hQ => ?_)
  have hsb0 := hsb
  obtain ⟨q, f, ml, hfl, h132, hcap, hlen, h8, hcd⟩ := hsb
  subst hfl
  refine k_aload_n hC dJ4_length_8abf5_0 rfl 0 rfl ?_
  refine k_callP hC (c_J5_length_8abf5 l hls G hN w [(q, bA G cap f)] q ml (T.length : Int) h132) yp_J5_length_8abf5 wm_J4_343 (kl hN (by decide)) h132 rfl rfl (Nat.le_of_ble_eq_true rfl) (by decide) (by decide) ⟨by decide, by decide⟩ dJ4_length_8abf5_1 (fun v1 w1 fl1 hp1 => ?_)
  obtain ⟨hp1a, hp1b, hp1c⟩ := hp1; subst hp1a; subst hp1b; subst hp1c
  show KW p l e R s m args below meth c 1 G Q w [(q, bA G cap f)] 0 0 4 [(0, .ref (kad G 132))] [vI (T.length : Int)]
  subst hQ
  exact k_iret hC hr ⟨by decide, by decide⟩ (⟨rfl, rfl, rfl⟩) dJ4_length_8abf5_4

set_option maxRecDepth 100000 in
set_option maxHeartbeats 4000000 in
theorem c_J5_charAt_5068e (l : Launch) (hls : l.stackTraces = false) (G : kG) (hN : kN G = 150) (w : Nat → va_E) (fl : va_W) (T : List Int) (cap : Nat) (i : Nat) (hsb : sbC G w fl T cap) (hi : i < T.length) (hx : 0 ≤ T.getD i 0) : KM l G yJ5_charAt_5068e cJ5_charAt_5068e 5 (some (FieldType.char)) 2 0 0 [.ref (kad G 132), vI (i : Int)] w fl (kPure (vI (T.getD i 0)) w fl) := by
  refine KM_ofF hls (by decide +kernel) rfl (lv0 := [(0, .ref (kad G 132)), (1, vI (i : Int))]) rfl (Nat.le_of_ble_eq_true rfl) (fun p e R s m args below meth c Q hC hr hQ => ?_)
  have hsb0 := hsb
  obtain ⟨q, f, ml, hfl, h132, hcap, hlen, h8, hcd⟩ := hsb
  subst hfl
  refine k_aload_n hC dJ5_charAt_5068e_0 rfl 0 rfl ?_
  refine k_get hC fd_J5_22 (kl hN (by decide)) h132 rfl dJ5_charAt_5068e_1 ?_
  refine k_istore_n hC [(2, vI 0), (0, .ref (kad G 132)), (1, vI (i : Int))] dJ5_charAt_5068e_4 rfl (by decide) rfl ?_
  refine k_aload_n hC dJ5_charAt_5068e_5 rfl 1 rfl ?_
  refine k_get hC fd_J5_15 (kl hN (by decide)) h132 rfl dJ5_charAt_5068e_6 ?_
  refine k_astore_n hC [(3, .ref q), (2, vI 0), (0, .ref (kad G 132)), (1, vI (i : Int))] dJ5_charAt_5068e_9 rfl (by decide) rfl ?_
  refine k_aload_n hC dJ5_charAt_5068e_10 rfl 2 rfl ?_
  refine k_get hC fd_J5_79 (kl hN (by decide)) h132 rfl dJ5_charAt_5068e_11 ?_
  refine k_aload_n hC dJ5_charAt_5068e_14 rfl 0 rfl ?_
  refine k_alenF hC 0 rfl dJ5_charAt_5068e_15 ?_
  refine k_iload_n hC dJ5_charAt_5068e_16 rfl 1 rfl ?_
  refine k_ishr0 hC dJ5_charAt_5068e_17 ?_
  refine k_mmin hC wm_J5_138 wmath_mmin (by omega) (by omega) (by decide) (Nat.le_of_ble_eq_true rfl) ⟨by decide, by decide⟩ dJ5_charAt_5068e_18 ?_
  refine k_istore hC [(4, vI (min (T.length : Int) (cap : Int))), (3, .ref q), (2, vI 0), (0, .ref (kad G 132)), (1, vI (i : Int))] dJ5_charAt_5068e_21 (by decide) rfl ?_
  refine k_iload_n hC dJ5_charAt_5068e_23 rfl 4 rfl ?_
  refine k_iload hC dJ5_charAt_5068e_24 0 rfl ?_
  refine k_muvS hC (c_J0_checkIndex_df160 l hls G hN w [(q, bA G cap f)] (i : Int) (min (T.length : Int) (cap : Int)) (by omega) (by omega) (by omega)) yy_J0_checkIndex_df160 wm_J5_144 rfl rfl (Nat.le_of_ble_eq_true rfl) (by decide) (by decide) ⟨by decide, by decide⟩ dJ5_charAt_5068e_26 (fun w_1 hp1 => ?_)
  subst hp1
  refine k_iload_n hC dJ5_charAt_5068e_29 rfl 2 rfl ?_
  refine k_if_ne hC 42 dJ5_charAt_5068e_30 rfl (by omega) (fun c_30 => absurd c_30 (by omega)) (fun c_30 => ?_)
  refine k_aload_n hC dJ5_charAt_5068e_33 rfl 1 rfl ?_
  refine k_iload_n hC dJ5_charAt_5068e_34 rfl 4 rfl ?_
  refine k_baldF hC 0 rfl (by omega) (by omega) dJ5_charAt_5068e_35 ?_
  refine k_topv (vI (f i)) rfl ?_
  have hfi := hcd.2 i hi
  have hf8 := h8 i
  refine k_sipush hC dJ5_charAt_5068e_36 (by decide) ?_
  refine k_iand255 hC dJ5_charAt_5068e_39 ?_
  refine k_i2c hC dJ5_charAt_5068e_40 (by omega) ?_
  subst hQ
  exact k_zret8 hC (rt := .char) (nar_c (by omega)) hr (Or.inr rfl) ⟨by decide, by decide⟩ (⟨congrArg (fun z => some (vI z)) (show (T.getD i 0 : Int) = (f i) % 256 from by omega), rfl, rfl⟩) dJ5_charAt_5068e_41

set_option maxRecDepth 100000 in
set_option maxHeartbeats 4000000 in
theorem c_J4_charAt_5068e (l : Launch) (hls : l.stackTraces = false) (G : kG) (hN : kN G = 150) (w : Nat → va_E) (fl : va_W) (T : List Int) (cap : Nat) (i : Nat) (hsb : sbC G w fl T cap) (hi : i < T.length) (hx : 0 ≤ T.getD i 0) : KM l G yJ4_charAt_5068e cJ4_charAt_5068e 2 (some (FieldType.char)) 3 0 0 [.ref (kad G 132), vI (i : Int)] w fl (kPure (vI (T.getD i 0)) w fl) := by
  refine KM_ofF hls (by decide +kernel) rfl (lv0 := [(0, .ref (kad G 132)), (1, vI (i : Int))]) rfl (Nat.le_of_ble_eq_true rfl) (fun p e R s m args below meth c Q hC hr hQ => ?_)
  have hsb0 := hsb
  obtain ⟨q, f, ml, hfl, h132, hcap, hlen, h8, hcd⟩ := hsb
  subst hfl
  refine k_aload_n hC dJ4_charAt_5068e_0 rfl 0 rfl ?_
  refine k_iload_n hC dJ4_charAt_5068e_1 rfl 1 rfl ?_
  have hfi := hcd.2 i hi
  have hf8 := h8 i
  refine k_callP hC (c_J5_charAt_5068e l hls G hN w [(q, bA G cap f)] T cap i hsb0 hi hx) yp_J5_charAt_5068e wm_J4_329 (kl hN (by decide)) h132 rfl rfl (Nat.le_of_ble_eq_true rfl) (by decide) (by decide) ⟨by decide, by decide⟩ dJ4_charAt_5068e_2 (fun v1 w1 fl1 hp1 => ?_)
  obtain ⟨hp1a, hp1b, hp1c⟩ := hp1; subst hp1a; subst hp1b; subst hp1c
  show KW p l e R s m args below meth c 2 G Q w [(q, bA G cap f)] 0 0 5 [(0, .ref (kad G 132)), (1, vI (i : Int))] [vI (T.getD i 0)]
  skip
  subst hQ
  exact k_zret8 hC (rt := .char) (nar_c (by omega)) hr (Or.inr rfl) ⟨by decide, by decide⟩ (⟨congrArg (fun z => some (vI z)) (show (T.getD i 0 : Int) = T.getD i 0 from rfl), rfl, rfl⟩) dJ4_charAt_5068e_5

