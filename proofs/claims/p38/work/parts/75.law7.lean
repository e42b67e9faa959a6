/-! texts that the law says -/
def stW (t : Nat) : List Int := (List.range (stL t)).map (fun i => stC t i)
theorem stW_len (t : Nat) : (stW t).length = stL t := by unfold stW; rw [List.length_map, List.length_range]
theorem stW_s {t k : Nat} : (List.range (k + 1)).map (fun i => stC t i) = (List.range k).map (fun i => stC t i) ++ [stC t k] := by rw [List.range_succ, List.map_append]; rfl
def dgL (v : Int) : List Int := if v < 10 then [48 + v / 1 % 10] else if v < 100 then [48 + v / 10 % 10, 48 + v / 1 % 10] else if v < 1000 then [48 + v / 100 % 10, 48 + v / 10 % 10, 48 + v / 1 % 10] else if v < 10000 then [48 + v / 1000 % 10, 48 + v / 100 % 10, 48 + v / 10 % 10, 48 + v / 1 % 10] else [48 + v / 10000 % 10, 48 + v / 1000 % 10, 48 + v / 100 % 10, 48 + v / 10 % 10, 48 + v / 1 % 10]
theorem dgL_1 {v : Int} (h : v < 10) : dgL v = [48 + v / 1 % 10] := if_pos h
theorem dgL_2 {v : Int} (h : 10 ≤ v ∧ v < 100) : dgL v = [48 + v / 10 % 10, 48 + v / 1 % 10] := by unfold dgL; rw [if_neg (by omega), if_pos h.2]
theorem dgL_3 {v : Int} (h : 100 ≤ v ∧ v < 1000) : dgL v = [48 + v / 100 % 10, 48 + v / 10 % 10, 48 + v / 1 % 10] := by unfold dgL; rw [if_neg (by omega), if_neg (by omega), if_pos h.2]
theorem dgL_4 {v : Int} (h : 1000 ≤ v ∧ v < 10000) : dgL v = [48 + v / 1000 % 10, 48 + v / 100 % 10, 48 + v / 10 % 10, 48 + v / 1 % 10] := by unfold dgL; rw [if_neg (by omega), if_neg (by omega), if_neg (by omega), if_pos h.2]
theorem dgL_5 {v : Int} (h : 10000 ≤ v) : dgL v = [48 + v / 10000 % 10, 48 + v / 1000 % 10, 48 + v / 100 % 10, 48 + v / 10 % 10, 48 + v / 1 % 10] := by unfold dgL; rw [if_neg (by omega), if_neg (by omega), if_neg (by omega), if_neg (by omega)]
theorem dgL_len (v : Int) : 1 ≤ (dgL v).length ∧ (dgL v).length ≤ 5 := by
  unfold dgL
  by_cases h1 : v < 10
  · rw [if_pos h1]; exact (by decide : (1 : Nat) ≤ 1 ∧ (1 : Nat) ≤ 5)
  rw [if_neg h1]
  by_cases h2 : v < 100
  · rw [if_pos h2]; exact (by decide : (1 : Nat) ≤ 2 ∧ (2 : Nat) ≤ 5)
  rw [if_neg h2]
  by_cases h3 : v < 1000
  · rw [if_pos h3]; exact (by decide : (1 : Nat) ≤ 3 ∧ (3 : Nat) ≤ 5)
  rw [if_neg h3]
  by_cases h4 : v < 10000
  · rw [if_pos h4]; exact (by decide : (1 : Nat) ≤ 4 ∧ (4 : Nat) ≤ 5)
  rw [if_neg h4]; exact (by decide : (1 : Nat) ≤ 5 ∧ (5 : Nat) ≤ 5)
def sgL (v : Int) : List Int := if v < 0 then 45 :: dgL (v.natAbs : Int) else dgL (v.natAbs : Int)
theorem sgL_len (v : Int) : 1 ≤ (sgL v).length ∧ (sgL v).length ≤ 6 := by
  have h := dgL_len (v.natAbs : Int)
  unfold sgL
  by_cases h1 : v < 0
  · rw [if_pos h1, List.length_cons]; omega
  · rw [if_neg h1]; omega
def nmL (b n : Nat) : List Int := (List.range n).map (fun i => ((117 + (b + i) % 6 : Nat) : Int))
theorem nmL_len (b n : Nat) : (nmL b n).length = n := by unfold nmL; rw [List.length_map, List.length_range]
theorem nmL_s {b k : Nat} : nmL b (k + 1) = nmL b k ++ [((117 + (b + k) % 6 : Nat) : Int)] := by unfold nmL; rw [List.range_succ, List.map_append]; rfl
theorem saR.eq {G : kG} {w : Nat → va_E} {T U : List Int} (h : saR G w T) (e : T = U) : saR G w U := e ▸ h
/-- what was said is whole: it lies in the buffer, nothing is being said -/
def saE (G : kG) (w : Nat → va_E) (T : List Int) : Prop :=
  w 133 = iA G 6 (fun _ => 0) ∧ ∃ (c0 : Nat) (bt : Nat → Int) (cd ea kd nm sa nx en : Int), T.length ≤ c0 ∧ c0 ≤ 700 ∧ w 1 = tkO G (c0 : Int) cd ea kd nm sa nx en ∧ w 2 = byA G bt ∧ btOK bt ∧ ∀ j, j < T.length → bt j = T.getD j 0
theorem sa_new {G : kG} {w : Nat → va_E} (h133 : w 133 = iA G 6 (fun _ => 0)) {cd ea kd nm sa nx en : Int} (h1 : w 1 = tkO G 0 cd ea kd nm sa nx en) {bt : Nat → Int} (h2 : w 2 = byA G bt) (hb : btOK bt) : saR G w [] := by
  refine ⟨fun j => by rw [gD_out (Nat.zero_le _)]; omega, by decide, h133.trans (iA_congr fun j hj => ?_), ⟨cd, ea, kd, nm, sa, nx, en, h1⟩, bt, h2, hb, fun j hj => absurd hj (by show ¬ j < 20 * (0 / 20); omega)⟩
  unfold saF
  by_cases e : j = 5
  · rw [if_pos e]; rfl
  · rw [if_neg e, W4_out (Nat.zero_le _)]
set_option maxRecDepth 100000 in
set_option maxHeartbeats 4000000 in
theorem c_L_number (l : Launch) (hls : l.stackTraces = false) (G : kG) (hM : 138 ≤ kN G) (w : Nat → va_E) (fl : va_W) (T : List Int) (sv : Int) (v : Int) (hv : 0 ≤ v ∧ v < 100000) (hlt : T.length < 695) (hS : saR G w T) (h00 : w 0 = srO G sv) : KM l G yL_number cL_number 4 (none) 3 0 0 [.ref (kad G 0), .ref (kad G 133), vI v] w fl (kMuv fl (fun w1 => saR G w1 (T ++ dgL v) ∧ ∀ j, (j ≠ 1 ∧ j ≠ 2 ∧ j ≠ 133) → w1 j = w j)) := by
  refine KM_of2 hls (by decide +kernel) rfl (lv0 := [(0, .ref (kad G 0)), (1, .ref (kad G 133)), (2, vI v)]) rfl (Nat.le_of_ble_eq_true rfl) (fun p e R s m args below meth c Q hC hr hQ => ?_)
  have hN : 133 ≤ kN G := by omega
  refine k_iconst hC dL_number_0 ?_
  refine k_istore_n hC [(3, vI 1), (0, .ref (kad G 0)), (1, .ref (kad G 133)), (2, vI v)] dL_number_1 rfl (by decide) rfl ?_
  refine k_iload_n hC dL_number_2 rfl 0 rfl ?_
  refine k_iload_n hC dL_number_3 rfl 3 rfl ?_
  refine k_bipush hC dL_number_4 (by decide) ?_
  refine k_idiv hC dL_number_6 (by omega) (by omega) ?_
  refine k_topv (vI (v / 10)) (congrArg vI (Int.tdiv_eq_ediv_of_nonneg (by omega))) ?_
  have hlim := hv
  refine k_icmp_gt hC 18 dL_number_7 rfl (by omega) (by omega) (fun c_7 => ?_) (fun c_7 => ?_)
  · refine k_iload_n hC dL_number_18 rfl 0 rfl ?_
    refine k_if_le hC 44 dL_number_19 rfl (by omega) (fun c_19 => absurd c_19 (by omega)) (fun c_19 => ?_)
    refine k_aload_n hC dL_number_22 rfl 1 rfl ?_
    refine k_aload_n hC dL_number_23 rfl 2 rfl ?_
    refine k_bipush hC dL_number_24 (by decide) ?_
    refine k_iload_n hC dL_number_26 rfl 3 rfl ?_
    refine k_iload_n hC dL_number_27 rfl 0 rfl ?_
    refine k_idiv hC dL_number_28 (by omega) (by omega) ?_
    refine k_topv (vI (v / 1)) (congrArg vI (Int.tdiv_eq_ediv_of_nonneg (by omega))) ?_
    refine k_bipush hC dL_number_29 (by decide) ?_
    refine k_irem hC dL_number_31 (by omega) (by omega) ?_
    refine k_topv (vI (v / 1 % 10)) (congrArg vI (Int.tmod_eq_emod_of_nonneg (by omega))) ?_
    refine k_iadd hC dL_number_32 ?_
    refine k_callS hC (c_L_add l hls G hM w fl T (48 + (v / 1 % 10)) sv hS (by (try simp only [List.length_append, List.length_cons, List.length_nil, List.length_replicate, List.length_map, List.length_range]); omega) (by omega) h00) yy_L_add wm_L_14 rfl rfl (Nat.le_of_ble_eq_true rfl) (by decide) (by decide) ⟨by decide, by decide⟩ dL_number_33 (fun v1 w1 fl1 hp1 => ?_)
    obtain ⟨q1, q2, hS1, hf1⟩ := hp1
    subst q1
    subst q2
    show KW p l e R s m args below meth c 4 G Q w1 fl 0 0 36 [(3, vI 1), (0, .ref (kad G 0)), (1, .ref (kad G 133)), (2, vI v)] []
    refine k_iload_n hC dL_number_36 rfl 0 rfl ?_
    refine k_bipush hC dL_number_37 (by decide) ?_
    refine k_idiv hC dL_number_39 (by omega) (by omega) ?_
    refine k_topv (vI 0) (congrArg vI (by decide)) ?_
    refine k_istore_n hC [(3, vI 0), (0, .ref (kad G 0)), (1, .ref (kad G 133)), (2, vI v)] dL_number_40 rfl (by decide) rfl ?_
    refine k_goto hC 18 dL_number_41 rfl ?_
    refine k_iload_n hC dL_number_18 rfl 0 rfl ?_
    refine k_if_le hC 44 dL_number_19 rfl (by omega) (fun c_19 => ?_) (fun c_19 => absurd c_19 (by omega))
    subst hQ
    exact k_vret hC hr ⟨by decide, by decide⟩ (⟨rfl, rfl, hS1.eq (by rw [dgL_1 (by omega)]; try simp only [List.append_assoc, List.cons_append, List.nil_append]), fun j hj => hf1 j (by omega)⟩) dL_number_44
  · refine k_iload_n hC dL_number_10 rfl 0 rfl ?_
    refine k_bipush hC dL_number_11 (by decide) ?_
    refine k_imul hC dL_number_13 ?_
    refine k_topv (vI 10) (congrArg vI (by decide)) ?_
    refine k_istore_n hC [(3, vI 10), (0, .ref (kad G 0)), (1, .ref (kad G 133)), (2, vI v)] dL_number_14 rfl (by decide) rfl ?_
    refine k_goto hC 2 dL_number_15 rfl ?_
    refine k_iload_n hC dL_number_2 rfl 0 rfl ?_
    refine k_iload_n hC dL_number_3 rfl 3 rfl ?_
    refine k_bipush hC dL_number_4 (by decide) ?_
    refine k_idiv hC dL_number_6 (by omega) (by omega) ?_
    refine k_topv (vI (v / 10)) (congrArg vI (Int.tdiv_eq_ediv_of_nonneg (by omega))) ?_
    have hlim := hv
    refine k_icmp_gt hC 18 dL_number_7 rfl (by omega) (by omega) (fun c_7 => ?_) (fun c_7 => ?_)
    · refine k_iload_n hC dL_number_18 rfl 0 rfl ?_
      refine k_if_le hC 44 dL_number_19 rfl (by omega) (fun c_19 => absurd c_19 (by omega)) (fun c_19 => ?_)
      refine k_aload_n hC dL_number_22 rfl 1 rfl ?_
      refine k_aload_n hC dL_number_23 rfl 2 rfl ?_
      refine k_bipush hC dL_number_24 (by decide) ?_
      refine k_iload_n hC dL_number_26 rfl 3 rfl ?_
      refine k_iload_n hC dL_number_27 rfl 0 rfl ?_
      refine k_idiv hC dL_number_28 (by omega) (by omega) ?_
      refine k_topv (vI (v / 10)) (congrArg vI (Int.tdiv_eq_ediv_of_nonneg (by omega))) ?_
      refine k_bipush hC dL_number_29 (by decide) ?_
      refine k_irem hC dL_number_31 (by omega) (by omega) ?_
      refine k_topv (vI (v / 10 % 10)) (congrArg vI (Int.tmod_eq_emod_of_nonneg (by omega))) ?_
      refine k_iadd hC dL_number_32 ?_
      refine k_callS hC (c_L_add l hls G hM w fl T (48 + (v / 10 % 10)) sv hS (by (try simp only [List.length_append, List.length_cons, List.length_nil, List.length_replicate, List.length_map, List.length_range]); omega) (by omega) h00) yy_L_add wm_L_14 rfl rfl (Nat.le_of_ble_eq_true rfl) (by decide) (by decide) ⟨by decide, by decide⟩ dL_number_33 (fun v2 w2 fl2 hp2 => ?_)
      obtain ⟨q1, q2, hS2, hf2⟩ := hp2
      subst q1
      subst q2
      show KW p l e R s m args below meth c 4 G Q w2 fl 0 0 36 [(3, vI 10), (0, .ref (kad G 0)), (1, .ref (kad G 133)), (2, vI v)] []
      refine k_iload_n hC dL_number_36 rfl 0 rfl ?_
      refine k_bipush hC dL_number_37 (by decide) ?_
      refine k_idiv hC dL_number_39 (by omega) (by omega) ?_
      refine k_topv (vI 1) (congrArg vI (by decide)) ?_
      refine k_istore_n hC [(3, vI 1), (0, .ref (kad G 0)), (1, .ref (kad G 133)), (2, vI v)] dL_number_40 rfl (by decide) rfl ?_
      refine k_goto hC 18 dL_number_41 rfl ?_
      refine k_iload_n hC dL_number_18 rfl 0 rfl ?_
      refine k_if_le hC 44 dL_number_19 rfl (by omega) (fun c_19 => absurd c_19 (by omega)) (fun c_19 => ?_)
      refine k_aload_n hC dL_number_22 rfl 1 rfl ?_
      refine k_aload_n hC dL_number_23 rfl 2 rfl ?_
      refine k_bipush hC dL_number_24 (by decide) ?_
      refine k_iload_n hC dL_number_26 rfl 3 rfl ?_
      refine k_iload_n hC dL_number_27 rfl 0 rfl ?_
      refine k_idiv hC dL_number_28 (by omega) (by omega) ?_
      refine k_topv (vI (v / 1)) (congrArg vI (Int.tdiv_eq_ediv_of_nonneg (by omega))) ?_
      refine k_bipush hC dL_number_29 (by decide) ?_
      refine k_irem hC dL_number_31 (by omega) (by omega) ?_
      refine k_topv (vI (v / 1 % 10)) (congrArg vI (Int.tmod_eq_emod_of_nonneg (by omega))) ?_
      refine k_iadd hC dL_number_32 ?_
      have h_4 : w2 0 = .inr (11, [.ref (kad G 1), .ref (kad G 32), .ref (kad G 3), .ref (kad G 37), vI sv, .ref (kad G 44), .ref (kad G 10), .ref (kad G 116), .ref (kad G 129), .ref (kad G 132)]) := (hf2 0 (by omega)).trans h00
      refine k_callS hC (c_L_add l hls G hM w2 fl (T ++ [48 + (v / 10 % 10)]) (48 + (v / 1 % 10)) sv hS2 (by (try simp only [List.length_append, List.length_cons, List.length_nil, List.length_replicate, List.length_map, List.length_range]); omega) (by omega) h_4) yy_L_add wm_L_14 rfl rfl (Nat.le_of_ble_eq_true rfl) (by decide) (by decide) ⟨by decide, by decide⟩ dL_number_33 (fun v3 w3 fl3 hp3 => ?_)
      obtain ⟨q1, q2, hS3, hf3⟩ := hp3
      subst q1
      subst q2
      show KW p l e R s m args below meth c 4 G Q w3 fl 0 0 36 [(3, vI 1), (0, .ref (kad G 0)), (1, .ref (kad G 133)), (2, vI v)] []
      refine k_iload_n hC dL_number_36 rfl 0 rfl ?_
      refine k_bipush hC dL_number_37 (by decide) ?_
      refine k_idiv hC dL_number_39 (by omega) (by omega) ?_
      refine k_topv (vI 0) (congrArg vI (by decide)) ?_
      refine k_istore_n hC [(3, vI 0), (0, .ref (kad G 0)), (1, .ref (kad G 133)), (2, vI v)] dL_number_40 rfl (by decide) rfl ?_
      refine k_goto hC 18 dL_number_41 rfl ?_
      refine k_iload_n hC dL_number_18 rfl 0 rfl ?_
      refine k_if_le hC 44 dL_number_19 rfl (by omega) (fun c_19 => ?_) (fun c_19 => absurd c_19 (by omega))
      subst hQ
      exact k_vret hC hr ⟨by decide, by decide⟩ (⟨rfl, rfl, hS3.eq (by rw [dgL_2 (by omega)]; try simp only [List.append_assoc, List.cons_append, List.nil_append]), fun j hj => (hf3 j (by omega)).trans (hf2 j (by omega))⟩) dL_number_44
    · refine k_iload_n hC dL_number_10 rfl 0 rfl ?_
      refine k_bipush hC dL_number_11 (by decide) ?_
      refine k_imul hC dL_number_13 ?_
      refine k_topv (vI 100) (congrArg vI (by decide)) ?_
      refine k_istore_n hC [(3, vI 100), (0, .ref (kad G 0)), (1, .ref (kad G 133)), (2, vI v)] dL_number_14 rfl (by decide) rfl ?_
      refine k_goto hC 2 dL_number_15 rfl ?_
      refine k_iload_n hC dL_number_2 rfl 0 rfl ?_
      refine k_iload_n hC dL_number_3 rfl 3 rfl ?_
      refine k_bipush hC dL_number_4 (by decide) ?_
      refine k_idiv hC dL_number_6 (by omega) (by omega) ?_
      refine k_topv (vI (v / 10)) (congrArg vI (Int.tdiv_eq_ediv_of_nonneg (by omega))) ?_
      have hlim := hv
      refine k_icmp_gt hC 18 dL_number_7 rfl (by omega) (by omega) (fun c_7 => ?_) (fun c_7 => ?_)
      · refine k_iload_n hC dL_number_18 rfl 0 rfl ?_
        refine k_if_le hC 44 dL_number_19 rfl (by omega) (fun c_19 => absurd c_19 (by omega)) (fun c_19 => ?_)
        refine k_aload_n hC dL_number_22 rfl 1 rfl ?_
        refine k_aload_n hC dL_number_23 rfl 2 rfl ?_
        refine k_bipush hC dL_number_24 (by decide) ?_
        refine k_iload_n hC dL_number_26 rfl 3 rfl ?_
        refine k_iload_n hC dL_number_27 rfl 0 rfl ?_
        refine k_idiv hC dL_number_28 (by omega) (by omega) ?_
        refine k_topv (vI (v / 100)) (congrArg vI (Int.tdiv_eq_ediv_of_nonneg (by omega))) ?_
        refine k_bipush hC dL_number_29 (by decide) ?_
        refine k_irem hC dL_number_31 (by omega) (by omega) ?_
        refine k_topv (vI (v / 100 % 10)) (congrArg vI (Int.tmod_eq_emod_of_nonneg (by omega))) ?_
        refine k_iadd hC dL_number_32 ?_
        refine k_callS hC (c_L_add l hls G hM w fl T (48 + (v / 100 % 10)) sv hS (by (try simp only [List.length_append, List.length_cons, List.length_nil, List.length_replicate, List.length_map, List.length_range]); omega) (by omega) h00) yy_L_add wm_L_14 rfl rfl (Nat.le_of_ble_eq_true rfl) (by decide) (by decide) ⟨by decide, by decide⟩ dL_number_33 (fun v5 w5 fl5 hp5 => ?_)
        obtain ⟨q1, q2, hS5, hf5⟩ := hp5
        subst q1
        subst q2
        show KW p l e R s m args below meth c 4 G Q w5 fl 0 0 36 [(3, vI 100), (0, .ref (kad G 0)), (1, .ref (kad G 133)), (2, vI v)] []
        refine k_iload_n hC dL_number_36 rfl 0 rfl ?_
        refine k_bipush hC dL_number_37 (by decide) ?_
        refine k_idiv hC dL_number_39 (by omega) (by omega) ?_
        refine k_topv (vI 10) (congrArg vI (by decide)) ?_
        refine k_istore_n hC [(3, vI 10), (0, .ref (kad G 0)), (1, .ref (kad G 133)), (2, vI v)] dL_number_40 rfl (by decide) rfl ?_
        refine k_goto hC 18 dL_number_41 rfl ?_
        refine k_iload_n hC dL_number_18 rfl 0 rfl ?_
        refine k_if_le hC 44 dL_number_19 rfl (by omega) (fun c_19 => absurd c_19 (by omega)) (fun c_19 => ?_)
        refine k_aload_n hC dL_number_22 rfl 1 rfl ?_
        refine k_aload_n hC dL_number_23 rfl 2 rfl ?_
        refine k_bipush hC dL_number_24 (by decide) ?_
        refine k_iload_n hC dL_number_26 rfl 3 rfl ?_
        refine k_iload_n hC dL_number_27 rfl 0 rfl ?_
        refine k_idiv hC dL_number_28 (by omega) (by omega) ?_
        refine k_topv (vI (v / 10)) (congrArg vI (Int.tdiv_eq_ediv_of_nonneg (by omega))) ?_
        refine k_bipush hC dL_number_29 (by decide) ?_
        refine k_irem hC dL_number_31 (by omega) (by omega) ?_
        refine k_topv (vI (v / 10 % 10)) (congrArg vI (Int.tmod_eq_emod_of_nonneg (by omega))) ?_
        refine k_iadd hC dL_number_32 ?_
        have h_7 : w5 0 = .inr (11, [.ref (kad G 1), .ref (kad G 32), .ref (kad G 3), .ref (kad G 37), vI sv, .ref (kad G 44), .ref (kad G 10), .ref (kad G 116), .ref (kad G 129), .ref (kad G 132)]) := (hf5 0 (by omega)).trans h00
        refine k_callS hC (c_L_add l hls G hM w5 fl (T ++ [48 + (v / 100 % 10)]) (48 + (v / 10 % 10)) sv hS5 (by (try simp only [List.length_append, List.length_cons, List.length_nil, List.length_replicate, List.length_map, List.length_range]); omega) (by omega) h_7) yy_L_add wm_L_14 rfl rfl (Nat.le_of_ble_eq_true rfl) (by decide) (by decide) ⟨by decide, by decide⟩ dL_number_33 (fun v6 w6 fl6 hp6 => ?_)
        obtain ⟨q1, q2, hS6, hf6⟩ := hp6
        subst q1
        subst q2
        show KW p l e R s m args below meth c 4 G Q w6 fl 0 0 36 [(3, vI 10), (0, .ref (kad G 0)), (1, .ref (kad G 133)), (2, vI v)] []
        refine k_iload_n hC dL_number_36 rfl 0 rfl ?_
        refine k_bipush hC dL_number_37 (by decide) ?_
        refine k_idiv hC dL_number_39 (by omega) (by omega) ?_
        refine k_topv (vI 1) (congrArg vI (by decide)) ?_
        refine k_istore_n hC [(3, vI 1), (0, .ref (kad G 0)), (1, .ref (kad G 133)), (2, vI v)] dL_number_40 rfl (by decide) rfl ?_
        refine k_goto hC 18 dL_number_41 rfl ?_
        refine k_iload_n hC dL_number_18 rfl 0 rfl ?_
        refine k_if_le hC 44 dL_number_19 rfl (by omega) (fun c_19 => absurd c_19 (by omega)) (fun c_19 => ?_)
        refine k_aload_n hC dL_number_22 rfl 1 rfl ?_
        refine k_aload_n hC dL_number_23 rfl 2 rfl ?_
        refine k_bipush hC dL_number_24 (by decide) ?_
        refine k_iload_n hC dL_number_26 rfl 3 rfl ?_
        refine k_iload_n hC dL_number_27 rfl 0 rfl ?_
        refine k_idiv hC dL_number_28 (by omega) (by omega) ?_
        refine k_topv (vI (v / 1)) (congrArg vI (Int.tdiv_eq_ediv_of_nonneg (by omega))) ?_
        refine k_bipush hC dL_number_29 (by decide) ?_
        refine k_irem hC dL_number_31 (by omega) (by omega) ?_
        refine k_topv (vI (v / 1 % 10)) (congrArg vI (Int.tmod_eq_emod_of_nonneg (by omega))) ?_
        refine k_iadd hC dL_number_32 ?_
        have h_9 : w6 0 = .inr (11, [.ref (kad G 1), .ref (kad G 32), .ref (kad G 3), .ref (kad G 37), vI sv, .ref (kad G 44), .ref (kad G 10), .ref (kad G 116), .ref (kad G 129), .ref (kad G 132)]) := (hf6 0 (by omega)).trans h_7
        refine k_callS hC (c_L_add l hls G hM w6 fl (T ++ [48 + (v / 100 % 10)] ++ [48 + (v / 10 % 10)]) (48 + (v / 1 % 10)) sv hS6 (by (try simp only [List.length_append, List.length_cons, List.length_nil, List.length_replicate, List.length_map, List.length_range]); omega) (by omega) h_9) yy_L_add wm_L_14 rfl rfl (Nat.le_of_ble_eq_true rfl) (by decide) (by decide) ⟨by decide, by decide⟩ dL_number_33 (fun v8 w8 fl8 hp8 => ?_)
        obtain ⟨q1, q2, hS8, hf8⟩ := hp8
        subst q1
        subst q2
        show KW p l e R s m args below meth c 4 G Q w8 fl 0 0 36 [(3, vI 1), (0, .ref (kad G 0)), (1, .ref (kad G 133)), (2, vI v)] []
        refine k_iload_n hC dL_number_36 rfl 0 rfl ?_
        refine k_bipush hC dL_number_37 (by decide) ?_
        refine k_idiv hC dL_number_39 (by omega) (by omega) ?_
        refine k_topv (vI 0) (congrArg vI (by decide)) ?_
        refine k_istore_n hC [(3, vI 0), (0, .ref (kad G 0)), (1, .ref (kad G 133)), (2, vI v)] dL_number_40 rfl (by decide) rfl ?_
        refine k_goto hC 18 dL_number_41 rfl ?_
        refine k_iload_n hC dL_number_18 rfl 0 rfl ?_
        refine k_if_le hC 44 dL_number_19 rfl (by omega) (fun c_19 => ?_) (fun c_19 => absurd c_19 (by omega))
        subst hQ
        exact k_vret hC hr ⟨by decide, by decide⟩ (⟨rfl, rfl, hS8.eq (by rw [dgL_3 (by omega)]; try simp only [List.append_assoc, List.cons_append, List.nil_append]), fun j hj => (hf8 j (by omega)).trans ((hf6 j (by omega)).trans (hf5 j (by omega)))⟩) dL_number_44
      · refine k_iload_n hC dL_number_10 rfl 0 rfl ?_
        refine k_bipush hC dL_number_11 (by decide) ?_
        refine k_imul hC dL_number_13 ?_
        refine k_topv (vI 1000) (congrArg vI (by decide)) ?_
        refine k_istore_n hC [(3, vI 1000), (0, .ref (kad G 0)), (1, .ref (kad G 133)), (2, vI v)] dL_number_14 rfl (by decide) rfl ?_
        refine k_goto hC 2 dL_number_15 rfl ?_
        refine k_iload_n hC dL_number_2 rfl 0 rfl ?_
        refine k_iload_n hC dL_number_3 rfl 3 rfl ?_
        refine k_bipush hC dL_number_4 (by decide) ?_
        refine k_idiv hC dL_number_6 (by omega) (by omega) ?_
        refine k_topv (vI (v / 10)) (congrArg vI (Int.tdiv_eq_ediv_of_nonneg (by omega))) ?_
        have hlim := hv
        refine k_icmp_gt hC 18 dL_number_7 rfl (by omega) (by omega) (fun c_7 => ?_) (fun c_7 => ?_)
        · refine k_iload_n hC dL_number_18 rfl 0 rfl ?_
          refine k_if_le hC 44 dL_number_19 rfl (by omega) (fun c_19 => absurd c_19 (by omega)) (fun c_19 => ?_)
          refine k_aload_n hC dL_number_22 rfl 1 rfl ?_
          refine k_aload_n hC dL_number_23 rfl 2 rfl ?_
          refine k_bipush hC dL_number_24 (by decide) ?_
          refine k_iload_n hC dL_number_26 rfl 3 rfl ?_
          refine k_iload_n hC dL_number_27 rfl 0 rfl ?_
          refine k_idiv hC dL_number_28 (by omega) (by omega) ?_
          refine k_topv (vI (v / 1000)) (congrArg vI (Int.tdiv_eq_ediv_of_nonneg (by omega))) ?_
          refine k_bipush hC dL_number_29 (by decide) ?_
          refine k_irem hC dL_number_31 (by omega) (by omega) ?_
          refine k_topv (vI (v / 1000 % 10)) (congrArg vI (Int.tmod_eq_emod_of_nonneg (by omega))) ?_
          refine k_iadd hC dL_number_32 ?_
          refine k_callS hC (c_L_add l hls G hM w fl T (48 + (v / 1000 % 10)) sv hS (by (try simp only [List.length_append, List.length_cons, List.length_nil, List.length_replicate, List.length_map, List.length_range]); omega) (by omega) h00) yy_L_add wm_L_14 rfl rfl (Nat.le_of_ble_eq_true rfl) (by decide) (by decide) ⟨by decide, by decide⟩ dL_number_33 (fun v10 w10 fl10 hp10 => ?_)
          obtain ⟨q1, q2, hS10, hf10⟩ := hp10
          subst q1
          subst q2
          show KW p l e R s m args below meth c 4 G Q w10 fl 0 0 36 [(3, vI 1000), (0, .ref (kad G 0)), (1, .ref (kad G 133)), (2, vI v)] []
          refine k_iload_n hC dL_number_36 rfl 0 rfl ?_
          refine k_bipush hC dL_number_37 (by decide) ?_
          refine k_idiv hC dL_number_39 (by omega) (by omega) ?_
          refine k_topv (vI 100) (congrArg vI (by decide)) ?_
          refine k_istore_n hC [(3, vI 100), (0, .ref (kad G 0)), (1, .ref (kad G 133)), (2, vI v)] dL_number_40 rfl (by decide) rfl ?_
          refine k_goto hC 18 dL_number_41 rfl ?_
          refine k_iload_n hC dL_number_18 rfl 0 rfl ?_
          refine k_if_le hC 44 dL_number_19 rfl (by omega) (fun c_19 => absurd c_19 (by omega)) (fun c_19 => ?_)
          refine k_aload_n hC dL_number_22 rfl 1 rfl ?_
          refine k_aload_n hC dL_number_23 rfl 2 rfl ?_
          refine k_bipush hC dL_number_24 (by decide) ?_
          refine k_iload_n hC dL_number_26 rfl 3 rfl ?_
          refine k_iload_n hC dL_number_27 rfl 0 rfl ?_
          refine k_idiv hC dL_number_28 (by omega) (by omega) ?_
          refine k_topv (vI (v / 100)) (congrArg vI (Int.tdiv_eq_ediv_of_nonneg (by omega))) ?_
          refine k_bipush hC dL_number_29 (by decide) ?_
          refine k_irem hC dL_number_31 (by omega) (by omega) ?_
          refine k_topv (vI (v / 100 % 10)) (congrArg vI (Int.tmod_eq_emod_of_nonneg (by omega))) ?_
          refine k_iadd hC dL_number_32 ?_
          have h_12 : w10 0 = .inr (11, [.ref (kad G 1), .ref (kad G 32), .ref (kad G 3), .ref (kad G 37), vI sv, .ref (kad G 44), .ref (kad G 10), .ref (kad G 116), .ref (kad G 129), .ref (kad G 132)]) := (hf10 0 (by omega)).trans h00
          refine k_callS hC (c_L_add l hls G hM w10 fl (T ++ [48 + (v / 1000 % 10)]) (48 + (v / 100 % 10)) sv hS10 (by (try simp only [List.length_append, List.length_cons, List.length_nil, List.length_replicate, List.length_map, List.length_range]); omega) (by omega) h_12) yy_L_add wm_L_14 rfl rfl (Nat.le_of_ble_eq_true rfl) (by decide) (by decide) ⟨by decide, by decide⟩ dL_number_33 (fun v11 w11 fl11 hp11 => ?_)
          obtain ⟨q1, q2, hS11, hf11⟩ := hp11
          subst q1
          subst q2
          show KW p l e R s m args below meth c 4 G Q w11 fl 0 0 36 [(3, vI 100), (0, .ref (kad G 0)), (1, .ref (kad G 133)), (2, vI v)] []
          refine k_iload_n hC dL_number_36 rfl 0 rfl ?_
          refine k_bipush hC dL_number_37 (by decide) ?_
          refine k_idiv hC dL_number_39 (by omega) (by omega) ?_
          refine k_topv (vI 10) (congrArg vI (by decide)) ?_
          refine k_istore_n hC [(3, vI 10), (0, .ref (kad G 0)), (1, .ref (kad G 133)), (2, vI v)] dL_number_40 rfl (by decide) rfl ?_
          refine k_goto hC 18 dL_number_41 rfl ?_
          refine k_iload_n hC dL_number_18 rfl 0 rfl ?_
          refine k_if_le hC 44 dL_number_19 rfl (by omega) (fun c_19 => absurd c_19 (by omega)) (fun c_19 => ?_)
          refine k_aload_n hC dL_number_22 rfl 1 rfl ?_
          refine k_aload_n hC dL_number_23 rfl 2 rfl ?_
          refine k_bipush hC dL_number_24 (by decide) ?_
          refine k_iload_n hC dL_number_26 rfl 3 rfl ?_
          refine k_iload_n hC dL_number_27 rfl 0 rfl ?_
          refine k_idiv hC dL_number_28 (by omega) (by omega) ?_
          refine k_topv (vI (v / 10)) (congrArg vI (Int.tdiv_eq_ediv_of_nonneg (by omega))) ?_
          refine k_bipush hC dL_number_29 (by decide) ?_
          refine k_irem hC dL_number_31 (by omega) (by omega) ?_
          refine k_topv (vI (v / 10 % 10)) (congrArg vI (Int.tmod_eq_emod_of_nonneg (by omega))) ?_
          refine k_iadd hC dL_number_32 ?_
          have h_14 : w11 0 = .inr (11, [.ref (kad G 1), .ref (kad G 32), .ref (kad G 3), .ref (kad G 37), vI sv, .ref (kad G 44), .ref (kad G 10), .ref (kad G 116), .ref (kad G 129), .ref (kad G 132)]) := (hf11 0 (by omega)).trans h_12
          refine k_callS hC (c_L_add l hls G hM w11 fl (T ++ [48 + (v / 1000 % 10)] ++ [48 + (v / 100 % 10)]) (48 + (v / 10 % 10)) sv hS11 (by (try simp only [List.length_append, List.length_cons, List.length_nil, List.length_replicate, List.length_map, List.length_range]); omega) (by omega) h_14) yy_L_add wm_L_14 rfl rfl (Nat.le_of_ble_eq_true rfl) (by decide) (by decide) ⟨by decide, by decide⟩ dL_number_33 (fun v13 w13 fl13 hp13 => ?_)
          obtain ⟨q1, q2, hS13, hf13⟩ := hp13
          subst q1
          subst q2
          show KW p l e R s m args below meth c 4 G Q w13 fl 0 0 36 [(3, vI 10), (0, .ref (kad G 0)), (1, .ref (kad G 133)), (2, vI v)] []
          refine k_iload_n hC dL_number_36 rfl 0 rfl ?_
          refine k_bipush hC dL_number_37 (by decide) ?_
          refine k_idiv hC dL_number_39 (by omega) (by omega) ?_
          refine k_topv (vI 1) (congrArg vI (by decide)) ?_
          refine k_istore_n hC [(3, vI 1), (0, .ref (kad G 0)), (1, .ref (kad G 133)), (2, vI v)] dL_number_40 rfl (by decide) rfl ?_
          refine k_goto hC 18 dL_number_41 rfl ?_
          refine k_iload_n hC dL_number_18 rfl 0 rfl ?_
          refine k_if_le hC 44 dL_number_19 rfl (by omega) (fun c_19 => absurd c_19 (by omega)) (fun c_19 => ?_)
          refine k_aload_n hC dL_number_22 rfl 1 rfl ?_
          refine k_aload_n hC dL_number_23 rfl 2 rfl ?_
          refine k_bipush hC dL_number_24 (by decide) ?_
          refine k_iload_n hC dL_number_26 rfl 3 rfl ?_
          refine k_iload_n hC dL_number_27 rfl 0 rfl ?_
          refine k_idiv hC dL_number_28 (by omega) (by omega) ?_
          refine k_topv (vI (v / 1)) (congrArg vI (Int.tdiv_eq_ediv_of_nonneg (by omega))) ?_
          refine k_bipush hC dL_number_29 (by decide) ?_
          refine k_irem hC dL_number_31 (by omega) (by omega) ?_
          refine k_topv (vI (v / 1 % 10)) (congrArg vI (Int.tmod_eq_emod_of_nonneg (by omega))) ?_
          refine k_iadd hC dL_number_32 ?_
          have h_16 : w13 0 = .inr (11, [.ref (kad G 1), .ref (kad G 32), .ref (kad G 3), .ref (kad G 37), vI sv, .ref (kad G 44), .ref (kad G 10), .ref (kad G 116), .ref (kad G 129), .ref (kad G 132)]) := (hf13 0 (by omega)).trans h_14
          refine k_callS hC (c_L_add l hls G hM w13 fl (T ++ [48 + (v / 1000 % 10)] ++ [48 + (v / 100 % 10)] ++ [48 + (v / 10 % 10)]) (48 + (v / 1 % 10)) sv hS13 (by (try simp only [List.length_append, List.length_cons, List.length_nil, List.length_replicate, List.length_map, List.length_range]); omega) (by omega) h_16) yy_L_add wm_L_14 rfl rfl (Nat.le_of_ble_eq_true rfl) (by decide) (by decide) ⟨by decide, by decide⟩ dL_number_33 (fun v15 w15 fl15 hp15 => ?_)
          obtain ⟨q1, q2, hS15, hf15⟩ := hp15
          subst q1
          subst q2
          show KW p l e R s m args below meth c 4 G Q w15 fl 0 0 36 [(3, vI 1), (0, .ref (kad G 0)), (1, .ref (kad G 133)), (2, vI v)] []
          refine k_iload_n hC dL_number_36 rfl 0 rfl ?_
          refine k_bipush hC dL_number_37 (by decide) ?_
          refine k_idiv hC dL_number_39 (by omega) (by omega) ?_
          refine k_topv (vI 0) (congrArg vI (by decide)) ?_
          refine k_istore_n hC [(3, vI 0), (0, .ref (kad G 0)), (1, .ref (kad G 133)), (2, vI v)] dL_number_40 rfl (by decide) rfl ?_
          refine k_goto hC 18 dL_number_41 rfl ?_
          refine k_iload_n hC dL_number_18 rfl 0 rfl ?_
          refine k_if_le hC 44 dL_number_19 rfl (by omega) (fun c_19 => ?_) (fun c_19 => absurd c_19 (by omega))
          subst hQ
          exact k_vret hC hr ⟨by decide, by decide⟩ (⟨rfl, rfl, hS15.eq (by rw [dgL_4 (by omega)]; try simp only [List.append_assoc, List.cons_append, List.nil_append]), fun j hj => (hf15 j (by omega)).trans ((hf13 j (by omega)).trans ((hf11 j (by omega)).trans (hf10 j (by omega))))⟩) dL_number_44
        · refine k_iload_n hC dL_number_10 rfl 0 rfl ?_
          refine k_bipush hC dL_number_11 (by decide) ?_
          refine k_imul hC dL_number_13 ?_
          refine k_topv (vI 10000) (congrArg vI (by decide)) ?_
          refine k_istore_n hC [(3, vI 10000), (0, .ref (kad G 0)), (1, .ref (kad G 133)), (2, vI v)] dL_number_14 rfl (by decide) rfl ?_
          refine k_goto hC 2 dL_number_15 rfl ?_
          refine k_iload_n hC dL_number_2 rfl 0 rfl ?_
          refine k_iload_n hC dL_number_3 rfl 3 rfl ?_
          refine k_bipush hC dL_number_4 (by decide) ?_
          refine k_idiv hC dL_number_6 (by omega) (by omega) ?_
          refine k_topv (vI (v / 10)) (congrArg vI (Int.tdiv_eq_ediv_of_nonneg (by omega))) ?_
          have hlim := hv
          refine k_icmp_gt hC 18 dL_number_7 rfl (by omega) (by omega) (fun c_7 => ?_) (fun c_7 => absurd c_7 (by omega))
          refine k_iload_n hC dL_number_18 rfl 0 rfl ?_
          refine k_if_le hC 44 dL_number_19 rfl (by omega) (fun c_19 => absurd c_19 (by omega)) (fun c_19 => ?_)
          refine k_aload_n hC dL_number_22 rfl 1 rfl ?_
          refine k_aload_n hC dL_number_23 rfl 2 rfl ?_
          refine k_bipush hC dL_number_24 (by decide) ?_
          refine k_iload_n hC dL_number_26 rfl 3 rfl ?_
          refine k_iload_n hC dL_number_27 rfl 0 rfl ?_
          refine k_idiv hC dL_number_28 (by omega) (by omega) ?_
          refine k_topv (vI (v / 10000)) (congrArg vI (Int.tdiv_eq_ediv_of_nonneg (by omega))) ?_
          refine k_bipush hC dL_number_29 (by decide) ?_
          refine k_irem hC dL_number_31 (by omega) (by omega) ?_
          refine k_topv (vI (v / 10000 % 10)) (congrArg vI (Int.tmod_eq_emod_of_nonneg (by omega))) ?_
          refine k_iadd hC dL_number_32 ?_
          refine k_callS hC (c_L_add l hls G hM w fl T (48 + (v / 10000 % 10)) sv hS (by (try simp only [List.length_append, List.length_cons, List.length_nil, List.length_replicate, List.length_map, List.length_range]); omega) (by omega) h00) yy_L_add wm_L_14 rfl rfl (Nat.le_of_ble_eq_true rfl) (by decide) (by decide) ⟨by decide, by decide⟩ dL_number_33 (fun v17 w17 fl17 hp17 => ?_)
          obtain ⟨q1, q2, hS17, hf17⟩ := hp17
          subst q1
          subst q2
          show KW p l e R s m args below meth c 4 G Q w17 fl 0 0 36 [(3, vI 10000), (0, .ref (kad G 0)), (1, .ref (kad G 133)), (2, vI v)] []
          refine k_iload_n hC dL_number_36 rfl 0 rfl ?_
          refine k_bipush hC dL_number_37 (by decide) ?_
          refine k_idiv hC dL_number_39 (by omega) (by omega) ?_
          refine k_topv (vI 1000) (congrArg vI (by decide)) ?_
          refine k_istore_n hC [(3, vI 1000), (0, .ref (kad G 0)), (1, .ref (kad G 133)), (2, vI v)] dL_number_40 rfl (by decide) rfl ?_
          refine k_goto hC 18 dL_number_41 rfl ?_
          refine k_iload_n hC dL_number_18 rfl 0 rfl ?_
          refine k_if_le hC 44 dL_number_19 rfl (by omega) (fun c_19 => absurd c_19 (by omega)) (fun c_19 => ?_)
          refine k_aload_n hC dL_number_22 rfl 1 rfl ?_
          refine k_aload_n hC dL_number_23 rfl 2 rfl ?_
          refine k_bipush hC dL_number_24 (by decide) ?_
          refine k_iload_n hC dL_number_26 rfl 3 rfl ?_
          refine k_iload_n hC dL_number_27 rfl 0 rfl ?_
          refine k_idiv hC dL_number_28 (by omega) (by omega) ?_
          refine k_topv (vI (v / 1000)) (congrArg vI (Int.tdiv_eq_ediv_of_nonneg (by omega))) ?_
          refine k_bipush hC dL_number_29 (by decide) ?_
          refine k_irem hC dL_number_31 (by omega) (by omega) ?_
          refine k_topv (vI (v / 1000 % 10)) (congrArg vI (Int.tmod_eq_emod_of_nonneg (by omega))) ?_
          refine k_iadd hC dL_number_32 ?_
          have h_19 : w17 0 = .inr (11, [.ref (kad G 1), .ref (kad G 32), .ref (kad G 3), .ref (kad G 37), vI sv, .ref (kad G 44), .ref (kad G 10), .ref (kad G 116), .ref (kad G 129), .ref (kad G 132)]) := (hf17 0 (by omega)).trans h00
          refine k_callS hC (c_L_add l hls G hM w17 fl (T ++ [48 + (v / 10000 % 10)]) (48 + (v / 1000 % 10)) sv hS17 (by (try simp only [List.length_append, List.length_cons, List.length_nil, List.length_replicate, List.length_map, List.length_range]); omega) (by omega) h_19) yy_L_add wm_L_14 rfl rfl (Nat.le_of_ble_eq_true rfl) (by decide) (by decide) ⟨by decide, by decide⟩ dL_number_33 (fun v18 w18 fl18 hp18 => ?_)
          obtain ⟨q1, q2, hS18, hf18⟩ := hp18
          subst q1
          subst q2
          show KW p l e R s m args below meth c 4 G Q w18 fl 0 0 36 [(3, vI 1000), (0, .ref (kad G 0)), (1, .ref (kad G 133)), (2, vI v)] []
          refine k_iload_n hC dL_number_36 rfl 0 rfl ?_
          refine k_bipush hC dL_number_37 (by decide) ?_
          refine k_idiv hC dL_number_39 (by omega) (by omega) ?_
          refine k_topv (vI 100) (congrArg vI (by decide)) ?_
          refine k_istore_n hC [(3, vI 100), (0, .ref (kad G 0)), (1, .ref (kad G 133)), (2, vI v)] dL_number_40 rfl (by decide) rfl ?_
          refine k_goto hC 18 dL_number_41 rfl ?_
          refine k_iload_n hC dL_number_18 rfl 0 rfl ?_
          refine k_if_le hC 44 dL_number_19 rfl (by omega) (fun c_19 => absurd c_19 (by omega)) (fun c_19 => ?_)
          refine k_aload_n hC dL_number_22 rfl 1 rfl ?_
          refine k_aload_n hC dL_number_23 rfl 2 rfl ?_
          refine k_bipush hC dL_number_24 (by decide) ?_
          refine k_iload_n hC dL_number_26 rfl 3 rfl ?_
          refine k_iload_n hC dL_number_27 rfl 0 rfl ?_
          refine k_idiv hC dL_number_28 (by omega) (by omega) ?_
          refine k_topv (vI (v / 100)) (congrArg vI (Int.tdiv_eq_ediv_of_nonneg (by omega))) ?_
          refine k_bipush hC dL_number_29 (by decide) ?_
          refine k_irem hC dL_number_31 (by omega) (by omega) ?_
          refine k_topv (vI (v / 100 % 10)) (congrArg vI (Int.tmod_eq_emod_of_nonneg (by omega))) ?_
          refine k_iadd hC dL_number_32 ?_
          have h_21 : w18 0 = .inr (11, [.ref (kad G 1), .ref (kad G 32), .ref (kad G 3), .ref (kad G 37), vI sv, .ref (kad G 44), .ref (kad G 10), .ref (kad G 116), .ref (kad G 129), .ref (kad G 132)]) := (hf18 0 (by omega)).trans h_19
          refine k_callS hC (c_L_add l hls G hM w18 fl (T ++ [48 + (v / 10000 % 10)] ++ [48 + (v / 1000 % 10)]) (48 + (v / 100 % 10)) sv hS18 (by (try simp only [List.length_append, List.length_cons, List.length_nil, List.length_replicate, List.length_map, List.length_range]); omega) (by omega) h_21) yy_L_add wm_L_14 rfl rfl (Nat.le_of_ble_eq_true rfl) (by decide) (by decide) ⟨by decide, by decide⟩ dL_number_33 (fun v20 w20 fl20 hp20 => ?_)
          obtain ⟨q1, q2, hS20, hf20⟩ := hp20
          subst q1
          subst q2
          show KW p l e R s m args below meth c 4 G Q w20 fl 0 0 36 [(3, vI 100), (0, .ref (kad G 0)), (1, .ref (kad G 133)), (2, vI v)] []
          refine k_iload_n hC dL_number_36 rfl 0 rfl ?_
          refine k_bipush hC dL_number_37 (by decide) ?_
          refine k_idiv hC dL_number_39 (by omega) (by omega) ?_
          refine k_topv (vI 10) (congrArg vI (by decide)) ?_
          refine k_istore_n hC [(3, vI 10), (0, .ref (kad G 0)), (1, .ref (kad G 133)), (2, vI v)] dL_number_40 rfl (by decide) rfl ?_
          refine k_goto hC 18 dL_number_41 rfl ?_
          refine k_iload_n hC dL_number_18 rfl 0 rfl ?_
          refine k_if_le hC 44 dL_number_19 rfl (by omega) (fun c_19 => absurd c_19 (by omega)) (fun c_19 => ?_)
          refine k_aload_n hC dL_number_22 rfl 1 rfl ?_
          refine k_aload_n hC dL_number_23 rfl 2 rfl ?_
          refine k_bipush hC dL_number_24 (by decide) ?_
          refine k_iload_n hC dL_number_26 rfl 3 rfl ?_
          refine k_iload_n hC dL_number_27 rfl 0 rfl ?_
          refine k_idiv hC dL_number_28 (by omega) (by omega) ?_
          refine k_topv (vI (v / 10)) (congrArg vI (Int.tdiv_eq_ediv_of_nonneg (by omega))) ?_
          refine k_bipush hC dL_number_29 (by decide) ?_
          refine k_irem hC dL_number_31 (by omega) (by omega) ?_
          refine k_topv (vI (v / 10 % 10)) (congrArg vI (Int.tmod_eq_emod_of_nonneg (by omega))) ?_
          refine k_iadd hC dL_number_32 ?_
          have h_23 : w20 0 = .inr (11, [.ref (kad G 1), .ref (kad G 32), .ref (kad G 3), .ref (kad G 37), vI sv, .ref (kad G 44), .ref (kad G 10), .ref (kad G 116), .ref (kad G 129), .ref (kad G 132)]) := (hf20 0 (by omega)).trans h_21
          refine k_callS hC (c_L_add l hls G hM w20 fl (T ++ [48 + (v / 10000 % 10)] ++ [48 + (v / 1000 % 10)] ++ [48 + (v / 100 % 10)]) (48 + (v / 10 % 10)) sv hS20 (by (try simp only [List.length_append, List.length_cons, List.length_nil, List.length_replicate, List.length_map, List.length_range]); omega) (by omega) h_23) yy_L_add wm_L_14 rfl rfl (Nat.le_of_ble_eq_true rfl) (by decide) (by decide) ⟨by decide, by decide⟩ dL_number_33 (fun v22 w22 fl22 hp22 => ?_)
          obtain ⟨q1, q2, hS22, hf22⟩ := hp22
          subst q1
          subst q2
          show KW p l e R s m args below meth c 4 G Q w22 fl 0 0 36 [(3, vI 10), (0, .ref (kad G 0)), (1, .ref (kad G 133)), (2, vI v)] []
          refine k_iload_n hC dL_number_36 rfl 0 rfl ?_
          refine k_bipush hC dL_number_37 (by decide) ?_
          refine k_idiv hC dL_number_39 (by omega) (by omega) ?_
          refine k_topv (vI 1) (congrArg vI (by decide)) ?_
          refine k_istore_n hC [(3, vI 1), (0, .ref (kad G 0)), (1, .ref (kad G 133)), (2, vI v)] dL_number_40 rfl (by decide) rfl ?_
          refine k_goto hC 18 dL_number_41 rfl ?_
          refine k_iload_n hC dL_number_18 rfl 0 rfl ?_
          refine k_if_le hC 44 dL_number_19 rfl (by omega) (fun c_19 => absurd c_19 (by omega)) (fun c_19 => ?_)
          refine k_aload_n hC dL_number_22 rfl 1 rfl ?_
          refine k_aload_n hC dL_number_23 rfl 2 rfl ?_
          refine k_bipush hC dL_number_24 (by decide) ?_
          refine k_iload_n hC dL_number_26 rfl 3 rfl ?_
          refine k_iload_n hC dL_number_27 rfl 0 rfl ?_
          refine k_idiv hC dL_number_28 (by omega) (by omega) ?_
          refine k_topv (vI (v / 1)) (congrArg vI (Int.tdiv_eq_ediv_of_nonneg (by omega))) ?_
          refine k_bipush hC dL_number_29 (by decide) ?_
          refine k_irem hC dL_number_31 (by omega) (by omega) ?_
          refine k_topv (vI (v / 1 % 10)) (congrArg vI (Int.tmod_eq_emod_of_nonneg (by omega))) ?_
          refine k_iadd hC dL_number_32 ?_
          have h_25 : w22 0 = .inr (11, [.ref (kad G 1), .ref (kad G 32), .ref (kad G 3), .ref (kad G 37), vI sv, .ref (kad G 44), .ref (kad G 10), .ref (kad G 116), .ref (kad G 129), .ref (kad G 132)]) := (hf22 0 (by omega)).trans h_23
          refine k_callS hC (c_L_add l hls G hM w22 fl (T ++ [48 + (v / 10000 % 10)] ++ [48 + (v / 1000 % 10)] ++ [48 + (v / 100 % 10)] ++ [48 + (v / 10 % 10)]) (48 + (v / 1 % 10)) sv hS22 (by (try simp only [List.length_append, List.length_cons, List.length_nil, List.length_replicate, List.length_map, List.length_range]); omega) (by omega) h_25) yy_L_add wm_L_14 rfl rfl (Nat.le_of_ble_eq_true rfl) (by decide) (by decide) ⟨by decide, by decide⟩ dL_number_33 (fun v24 w24 fl24 hp24 => ?_)
          obtain ⟨q1, q2, hS24, hf24⟩ := hp24
          subst q1
          subst q2
          show KW p l e R s m args below meth c 4 G Q w24 fl 0 0 36 [(3, vI 1), (0, .ref (kad G 0)), (1, .ref (kad G 133)), (2, vI v)] []
          refine k_iload_n hC dL_number_36 rfl 0 rfl ?_
          refine k_bipush hC dL_number_37 (by decide) ?_
          refine k_idiv hC dL_number_39 (by omega) (by omega) ?_
          refine k_topv (vI 0) (congrArg vI (by decide)) ?_
          refine k_istore_n hC [(3, vI 0), (0, .ref (kad G 0)), (1, .ref (kad G 133)), (2, vI v)] dL_number_40 rfl (by decide) rfl ?_
          refine k_goto hC 18 dL_number_41 rfl ?_
          refine k_iload_n hC dL_number_18 rfl 0 rfl ?_
          refine k_if_le hC 44 dL_number_19 rfl (by omega) (fun c_19 => ?_) (fun c_19 => absurd c_19 (by omega))
          subst hQ
          exact k_vret hC hr ⟨by decide, by decide⟩ (⟨rfl, rfl, hS24.eq (by rw [dgL_5 (by omega)]; try simp only [List.append_assoc, List.cons_append, List.nil_append]), fun j hj => (hf24 j (by omega)).trans ((hf22 j (by omega)).trans ((hf20 j (by omega)).trans ((hf18 j (by omega)).trans (hf17 j (by omega)))))⟩) dL_number_44

set_option maxRecDepth 100000 in
set_option maxHeartbeats 4000000 in
theorem c_L_end (l : Launch) (hls : l.stackTraces = false) (G : kG) (hM : 138 ≤ kN G) (w : Nat → va_E) (fl : va_W) (T : List Int) (sv : Int) (hlt : T.length ≤ 680) (hS : saR G w T) (h00 : w 0 = srO G sv) : KM l G yL_end cL_end 3 (some (FieldType.int)) 3 0 0 [.ref (kad G 0), .ref (kad G 133)] w fl (kMut (vI (T.length : Int)) fl (fun w1 => saE G w1 T ∧ ∀ j, (j ≠ 1 ∧ j ≠ 2 ∧ j ≠ 133) → w1 j = w j)) := by
  refine KM_of2 hls (by decide +kernel) rfl (lv0 := [(0, .ref (kad G 0)), (1, .ref (kad G 133))]) rfl (Nat.le_of_ble_eq_true rfl) (fun p e R s m args below meth c Q hC hr hQ => ?_)
  have hN : 133 ≤ kN G := by omega
  refine k_aload_n hC dL_end_0 rfl 1 rfl ?_
  refine k_iconst hC dL_end_1 ?_
  refine k_iald hC (kl2 hM (by decide)) hS.2.2.1 (by omega) (by decide) dL_end_2 ?_
  refine k_topv (vI ((saF T) 5)) rfl ?_
  refine k_topv (vI ((T.length : Int))) (congrArg vI (rfl)) ?_
  refine k_istore_n hC [(2, vI (T.length : Int)), (0, .ref (kad G 0)), (1, .ref (kad G 133))] dL_end_3 rfl (by decide) rfl ?_
  have loop1 : ∀ (n1 : Nat) (k : Nat) (u1 : Nat → va_E), (20 < n1 + k) → (T.length + k ≤ 20 * ((T.length + 19) / 20)) → (saR G u1 (T ++ List.replicate k 32)) → (u1 0 = .inr (11, [.ref (kad G 1), .ref (kad G 32), .ref (kad G 3), .ref (kad G 37), vI sv, .ref (kad G 44), .ref (kad G 10), .ref (kad G 116), .ref (kad G 129), .ref (kad G 132)])) → ((∀ j, (j ≠ 1 ∧ j ≠ 2 ∧ j ≠ 133) → u1 j = w j)) → KW p l e R s m args below meth c 3 G Q u1 fl 0 0 4 [(2, vI (T.length : Int)), (0, .ref (kad G 0)), (1, .ref (kad G 133))] [] := by
    intro n1
    induction n1 with
    | zero =>
      intro k u1 hn_1 hk hSx h0x hfr1
      exact absurd hn_1 (by omega)
    | succ n1 ih1 =>
      intro k u1 hn_1 hk hSx h0x hfr1
      refine k_aload_n hC dL_end_4 rfl 2 rfl ?_
      refine k_iconst hC dL_end_5 ?_
      refine k_iald hC (kl2 hM (by decide)) hSx.2.2.1 (by omega) (by decide) dL_end_6 ?_
      refine k_topv (vI ((saF (T ++ List.replicate k 32)) 5)) rfl ?_
      refine k_topv (vI (((T.length + k : Nat) : Int))) (congrArg vI ((show ((T ++ List.replicate k 32).length : Int) = _ by rw [List.length_append, List.length_replicate]))) ?_
      refine k_bipush hC dL_end_7 (by decide) ?_
      refine k_irem hC dL_end_9 (by omega) (by omega) ?_
      refine k_topv (vI (((T.length + k) % 20 : Nat))) (congrArg vI (by rw [Int.tmod_eq_emod_of_nonneg (by omega)]; omega)) ?_
      refine k_if_eq hC 23 dL_end_10 rfl (by omega) (fun c_10 => ?_) (fun c_10 => ?_)
      · refine k_aload_n hC dL_end_23 rfl 2 rfl ?_
        refine k_iconst hC dL_end_24 ?_
        refine k_iconst hC dL_end_25 ?_
        refine k_iast hC (kl2 hM (by decide)) hSx.2.2.1 (by omega) (by decide) dL_end_26 (fun w1 hw1 hf1 => ?_)
        refine k_iload_n hC dL_end_27 rfl 0 rfl ?_
        obtain ⟨hal, -, -, ⟨cd, ea, kd, nm, sa, nx, en, h1⟩, bt, h2, hbk, hbt⟩ := hSx
        have hln : (T ++ List.replicate k 32).length = T.length + k := by rw [List.length_append, List.length_replicate]
        rw [hln] at h1 hbt
        have hz : w1 133 = iA G 6 (fun _ => 0) := hw1.trans (iA_congr (fun j hj => (by by_cases e : j = 5; (rw [e]; exact kup_s); (refine (kup_n (i := 5) e).trans ?_; show (if j = 5 then _ else _) = _; rw [if_neg e, W4_out (by rw [hln]; omega)]))))
        subst hQ
        exact k_iret hC hr ⟨by decide, by decide⟩ (⟨rfl, rfl, ⟨hz, 20 * ((T.length + k) / 20), bt, cd, ea, kd, nm, sa, nx, en, by omega, by omega, (hf1 1 (by decide)).trans h1, (hf1 2 (by decide)).trans h2, hbk, fun j hj => by rw [hbt j (by omega), gD_lt hj]⟩, fun j hj => (hf1 j (by omega)).trans (hfr1 j (by omega))⟩) dL_end_28
      · refine k_aload_n hC dL_end_13 rfl 1 rfl ?_
        refine k_aload_n hC dL_end_14 rfl 2 rfl ?_
        refine k_bipush hC dL_end_15 (by decide) ?_
        refine k_callS hC (c_L_add l hls G hM u1 fl (T ++ List.replicate k 32) 32 sv hSx (by (try simp only [List.length_append, List.length_cons, List.length_nil, List.length_replicate, List.length_map, List.length_range]); omega) (by decide) h0x) yy_L_add wm_L_14 rfl rfl (Nat.le_of_ble_eq_true rfl) (by decide) (by decide) ⟨by decide, by decide⟩ dL_end_17 (fun v2 w2 fl2 hp2 => ?_)
        obtain ⟨q1, q2, hS2, hf2⟩ := hp2
        subst q1
        subst q2
        show KW p l e R s m args below meth c 3 G Q w2 fl 0 0 20 [(2, vI (T.length : Int)), (0, .ref (kad G 0)), (1, .ref (kad G 133))] []
        refine k_goto hC 4 dL_end_20 rfl ?_
        have h_3 : w2 0 = .inr (11, [.ref (kad G 1), .ref (kad G 32), .ref (kad G 3), .ref (kad G 37), vI sv, .ref (kad G 44), .ref (kad G 10), .ref (kad G 116), .ref (kad G 129), .ref (kad G 132)]) := (hf2 0 (by omega)).trans h0x
        exact ih1 (k + 1) w2 (by omega) (by omega) (hS2.eq (by rw [List.append_assoc, List.replicate_succ'])) h_3 (fun j hj => (hf2 j (by omega)).trans (hfr1 j (by omega)))
  exact loop1 21 0 w (by omega) (by omega) (hS.eq (List.append_nil T).symm) h00 (fun j hj => rfl)

set_option maxRecDepth 100000 in
set_option maxHeartbeats 4000000 in
theorem c_L_word (l : Launch) (hls : l.stackTraces = false) (G : kG) (hM : 138 ≤ kN G) (w : Nat → va_E) (fl : va_W) (T : List Int) (sv : Int) (t : Nat) (ht : t < kNs) (hlt : T.length < 660) (hS : saR G w T) (h00 : w 0 = srO G sv) : KM l G yL_word cL_word 4 (none) 4 0 0 [.ref (kad G 0), .ref (kad G 133), .ref (kadK G t)] w fl (kMuv fl (fun w1 => saR G w1 (T ++ stW t) ∧ ∀ j, (j ≠ 1 ∧ j ≠ 2 ∧ j ≠ 133) → w1 j = w j)) := by
  refine KM_of2 hls (by decide +kernel) rfl (lv0 := [(0, .ref (kad G 0)), (1, .ref (kad G 133)), (2, .ref (kadK G t))]) rfl (Nat.le_of_ble_eq_true rfl) (fun p e R s m args below meth c Q hC hr hQ => ?_)
  have hN : 133 ≤ kN G := by omega
  have hb := stL_b ht
  refine k_iconst hC dL_word_0 ?_
  refine k_istore_n hC [(3, vI 0), (0, .ref (kad G 0)), (1, .ref (kad G 133)), (2, .ref (kadK G t))] dL_word_1 rfl (by decide) rfl ?_
  have loop1 : ∀ (n1 : Nat) (k : Nat) (u1 : Nat → va_E), (stL t < n1 + k) → (k ≤ stL t) → (saR G u1 (T ++ (List.range k).map (fun i => stC t i))) → (u1 0 = .inr (11, [.ref (kad G 1), .ref (kad G 32), .ref (kad G 3), .ref (kad G 37), vI sv, .ref (kad G 44), .ref (kad G 10), .ref (kad G 116), .ref (kad G 129), .ref (kad G 132)])) → ((∀ j, (j ≠ 1 ∧ j ≠ 2 ∧ j ≠ 133) → u1 j = w j)) → KW p l e R s m args below meth c 4 G Q u1 fl 0 0 2 [(3, vI (k : Int)), (0, .ref (kad G 0)), (1, .ref (kad G 133)), (2, .ref (kadK G t))] [] := by
    intro n1
    induction n1 with
    | zero =>
      intro k u1 hn_1 hk hSx h0x hfr1
      exact absurd hn_1 (by omega)
    | succ n1 ih1 =>
      intro k u1 hn_1 hk hSx h0x hfr1
      refine k_iload_n hC dL_word_2 rfl 0 rfl ?_
      refine k_aload_n hC dL_word_3 rfl 3 rfl ?_
      refine k_pureVK hC (c_J0_length_8abf5 l hls G hN u1 fl t ht) yy_J0_length_8abf5 wm_L_72 ht rfl rfl rfl (Nat.le_of_ble_eq_true rfl) (by decide) (by decide) ⟨by decide, by decide⟩ dL_word_4 ?_
      refine k_icmp_ge hC 26 dL_word_7 rfl (by omega) (by omega) (fun c_7 => ?_) (fun c_7 => ?_)
      · subst hQ
        exact k_vret hC hr ⟨by decide, by decide⟩ (⟨rfl, rfl, hSx.eq (by unfold stW; rw [show k = stL t by omega]), fun j hj => hfr1 j (by omega)⟩) dL_word_26
      · refine k_aload_n hC dL_word_10 rfl 1 rfl ?_
        refine k_aload_n hC dL_word_11 rfl 2 rfl ?_
        refine k_aload_n hC dL_word_12 rfl 3 rfl ?_
        refine k_iload_n hC dL_word_13 rfl 0 rfl ?_
        refine k_pureVK hC (c_J0_charAt_5068e l hls G hN u1 fl t k ht (by omega)) yy_J0_charAt_5068e wm_L_78 ht rfl rfl rfl (Nat.le_of_ble_eq_true rfl) (by decide) (by decide) ⟨by decide, by decide⟩ dL_word_14 ?_
        refine k_callS hC (c_L_add l hls G hM u1 fl (T ++ (List.range k).map (fun i => stC t i)) (stC t k) sv hSx (by (try simp only [List.length_append, List.length_cons, List.length_nil, List.length_replicate, List.length_map, List.length_range]); omega) (by have := stC_r ht (show k < stL t by omega); omega) h0x) yy_L_add wm_L_14 rfl rfl (Nat.le_of_ble_eq_true rfl) (by decide) (by decide) ⟨by decide, by decide⟩ dL_word_17 (fun v1 w1 fl1 hp1 => ?_)
        obtain ⟨q1, q2, hS1, hf1⟩ := hp1
        subst q1
        subst q2
        show KW p l e R s m args below meth c 4 G Q w1 fl 0 0 20 [(3, vI (k : Int)), (0, .ref (kad G 0)), (1, .ref (kad G 133)), (2, .ref (kadK G t))] []
        refine k_iinc hC (y := (k : Int) + 1) [(3, vI ((k : Int) + 1)), (0, .ref (kad G 0)), (1, .ref (kad G 133)), (2, .ref (kadK G t))] (j := 0) dL_word_20 rfl (by omega) (by decide) rfl ?_
        refine k_goto hC 2 dL_word_23 rfl ?_
        refine k_lvs (ls := [0, 1, 2, 3]) [(3, vI ((k + 1 : Nat) : Int)), (0, .ref (kad G 0)), (1, .ref (kad G 133)), (2, .ref (kadK G t))] (by simp only [lv_pick]; rfl) ?_
        have h_2 : w1 0 = .inr (11, [.ref (kad G 1), .ref (kad G 32), .ref (kad G 3), .ref (kad G 37), vI sv, .ref (kad G 44), .ref (kad G 10), .ref (kad G 116), .ref (kad G 129), .ref (kad G 132)]) := (hf1 0 (by omega)).trans h0x
        exact ih1 (k + 1) w1 (by omega) (by omega) (hS1.eq (by rw [stW_s, List.append_assoc])) h_2 (fun j hj => (hf1 j (by omega)).trans (hfr1 j (by omega)))
  refine k_lvs (ls := [0, 1, 2, 3]) [(3, vI ((0 : Nat) : Int)), (0, .ref (kad G 0)), (1, .ref (kad G 133)), (2, .ref (kadK G t))] (by simp only [lv_pick]; rfl) ?_
  exact loop1 40 0 w (by omega) (by omega) (hS.eq (List.append_nil T).symm) h00 (fun j hj => rfl)

set_option maxRecDepth 100000 in
set_option maxHeartbeats 4000000 in
theorem c_L_with (l : Launch) (hls : l.stackTraces = false) (G : kG) (hM : 138 ≤ kN G) (w : Nat → va_E) (fl : va_W) (T : List Int) (sv : Int) (t : Nat) (v : Int) (ht : t < kNs) (hv : -100000 < v ∧ v < 100000) (hlt : T.length < 640) (hS : saR G w T) (h00 : w 0 = srO G sv) : KM l G yL_with cL_with 4 (none) 5 0 0 [.ref (kad G 0), .ref (kad G 133), .ref (kadK G t), vI v] w fl (kMuv fl (fun w1 => saR G w1 ((T ++ stW t) ++ sgL v) ∧ ∀ j, (j ≠ 1 ∧ j ≠ 2 ∧ j ≠ 133) → w1 j = w j)) := by
  refine KM_of2 hls (by decide +kernel) rfl (lv0 := [(0, .ref (kad G 0)), (1, .ref (kad G 133)), (2, .ref (kadK G t)), (3, vI v)]) rfl (Nat.le_of_ble_eq_true rfl) (fun p e R s m args below meth c Q hC hr hQ => ?_)
  have hN : 133 ≤ kN G := by omega
  have hb := stL_b ht
  have hw := stW_len t
  refine k_aload_n hC dL_with_0 rfl 0 rfl ?_
  refine k_aload_n hC dL_with_1 rfl 1 rfl ?_
  refine k_aload_n hC dL_with_2 rfl 2 rfl ?_
  refine k_callS hC (c_L_word l hls G hM w fl T sv t ht (by (try simp only [List.length_append, List.length_cons, List.length_nil, List.length_replicate, List.length_map, List.length_range, stW_len]); omega) hS h00) yy_L_word wm_L_82 rfl rfl (Nat.le_of_ble_eq_true rfl) (by decide) (by decide) ⟨by decide, by decide⟩ dL_with_3 (fun v1 w1 fl1 hp1 => ?_)
  obtain ⟨q1, q2, hS1, hf1⟩ := hp1
  subst q1
  subst q2
  show KW p l e R s m args below meth c 4 G Q w1 fl 0 0 6 [(0, .ref (kad G 0)), (1, .ref (kad G 133)), (2, .ref (kadK G t)), (3, vI v)] []
  refine k_iload_n hC dL_with_6 rfl 3 rfl ?_
  refine k_if_ge hC 17 dL_with_7 rfl (by omega) (fun c_7 => ?_) (fun c_7 => ?_)
  · refine k_aload_n hC dL_with_17 rfl 0 rfl ?_
    refine k_aload_n hC dL_with_18 rfl 1 rfl ?_
    refine k_iload_n hC dL_with_19 rfl 3 rfl ?_
    refine k_mabs hC wm_L_86 wmath_mabs (by omega) (by decide) (Nat.le_of_ble_eq_true rfl) ⟨by decide, by decide⟩ dL_with_20 ?_
    have h_3 : w1 0 = .inr (11, [.ref (kad G 1), .ref (kad G 32), .ref (kad G 3), .ref (kad G 37), vI sv, .ref (kad G 44), .ref (kad G 10), .ref (kad G 116), .ref (kad G 129), .ref (kad G 132)]) := (hf1 0 (by omega)).trans h00
    refine k_callS hC (c_L_number l hls G hM w1 fl (T ++ stW t) sv ((v).natAbs : Int) (by omega) (by (try simp only [List.length_append, List.length_cons, List.length_nil, List.length_replicate, List.length_map, List.length_range, stW_len]); omega) hS1 h_3) yy_L_number wm_L_92 rfl rfl (Nat.le_of_ble_eq_true rfl) (by decide) (by decide) ⟨by decide, by decide⟩ dL_with_23 (fun v2 w2 fl2 hp2 => ?_)
    obtain ⟨q1, q2, hS2, hf2⟩ := hp2
    subst q1
    subst q2
    show KW p l e R s m args below meth c 4 G Q w2 fl 0 0 26 [(0, .ref (kad G 0)), (1, .ref (kad G 133)), (2, .ref (kadK G t)), (3, vI v)] []
    subst hQ
    exact k_vret hC hr ⟨by decide, by decide⟩ (⟨rfl, rfl, hS2.eq (by unfold sgL; rw [if_neg (by omega)]), fun j hj => (hf2 j (by omega)).trans (hf1 j (by omega))⟩) dL_with_26
  · refine k_aload_n hC dL_with_10 rfl 0 rfl ?_
    refine k_aload_n hC dL_with_11 rfl 1 rfl ?_
    refine k_bipush hC dL_with_12 (by decide) ?_
    have h_5 : w1 0 = .inr (11, [.ref (kad G 1), .ref (kad G 32), .ref (kad G 3), .ref (kad G 37), vI sv, .ref (kad G 44), .ref (kad G 10), .ref (kad G 116), .ref (kad G 129), .ref (kad G 132)]) := (hf1 0 (by omega)).trans h00
    refine k_callS hC (c_L_add l hls G hM w1 fl (T ++ stW t) 45 sv hS1 (by (try simp only [List.length_append, List.length_cons, List.length_nil, List.length_replicate, List.length_map, List.length_range, stW_len]); omega) (by decide) h_5) yy_L_add wm_L_14 rfl rfl (Nat.le_of_ble_eq_true rfl) (by decide) (by decide) ⟨by decide, by decide⟩ dL_with_14 (fun v4 w4 fl4 hp4 => ?_)
    obtain ⟨q1, q2, hS4, hf4⟩ := hp4
    subst q1
    subst q2
    show KW p l e R s m args below meth c 4 G Q w4 fl 0 0 17 [(0, .ref (kad G 0)), (1, .ref (kad G 133)), (2, .ref (kadK G t)), (3, vI v)] []
    refine k_aload_n hC dL_with_17 rfl 0 rfl ?_
    refine k_aload_n hC dL_with_18 rfl 1 rfl ?_
    refine k_iload_n hC dL_with_19 rfl 3 rfl ?_
    refine k_mabs hC wm_L_86 wmath_mabs (by omega) (by decide) (Nat.le_of_ble_eq_true rfl) ⟨by decide, by decide⟩ dL_with_20 ?_
    have h_7 : w4 0 = .inr (11, [.ref (kad G 1), .ref (kad G 32), .ref (kad G 3), .ref (kad G 37), vI sv, .ref (kad G 44), .ref (kad G 10), .ref (kad G 116), .ref (kad G 129), .ref (kad G 132)]) := (hf4 0 (by omega)).trans h_5
    refine k_callS hC (c_L_number l hls G hM w4 fl (T ++ stW t ++ [45]) sv ((v).natAbs : Int) (by omega) (by (try simp only [List.length_append, List.length_cons, List.length_nil, List.length_replicate, List.length_map, List.length_range, stW_len]); omega) hS4 h_7) yy_L_number wm_L_92 rfl rfl (Nat.le_of_ble_eq_true rfl) (by decide) (by decide) ⟨by decide, by decide⟩ dL_with_23 (fun v6 w6 fl6 hp6 => ?_)
    obtain ⟨q1, q2, hS6, hf6⟩ := hp6
    subst q1
    subst q2
    show KW p l e R s m args below meth c 4 G Q w6 fl 0 0 26 [(0, .ref (kad G 0)), (1, .ref (kad G 133)), (2, .ref (kadK G t)), (3, vI v)] []
    subst hQ
    exact k_vret hC hr ⟨by decide, by decide⟩ (⟨rfl, rfl, hS6.eq (by unfold sgL; rw [if_pos (by omega)]; simp only [List.append_assoc, List.cons_append, List.nil_append]), fun j hj => (hf6 j (by omega)).trans ((hf4 j (by omega)).trans (hf1 j (by omega)))⟩) dL_with_26

