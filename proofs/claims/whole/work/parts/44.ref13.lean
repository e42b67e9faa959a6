section KL7
variable {p : Program} {l : Launch} {e : Env} {R : Room} {s : State} {m : MethodId} {args : Array Value} {below : List Frame} {meth : Method} {c : Code} {Q : State → Prop} {cc : ByteArray} {own : String} {nL d0 mc0 ms0 : Nat} {G : kG} {w : Nat → va_E} {fl : va_W} {cells slots pc : Nat} {lv : List (Nat × Value)} {st : List Value}
theorem k_land01 (hC : kC p l R s m args meth c cc own nL G d0 mc0 ms0) {a b : Int} (ha : a = 0 ∨ a = 1) (hb : b = 0 ∨ b = 1) (d : decode cc pc = .ok (.land, 1)) (k : KW p l e R s m args below meth c nL G Q w fl cells slots (pc + 1) lv (vL (if a = 1 ∧ b = 1 then 1 else 0) :: st)) : KW p l e R s m args below meth c nL G Q w fl cells slots pc lv (vL b :: vL a :: st) := fun H locs ls h1 h2 h3 h4 => lv_land hC.1 hC.2.1 d (by
  have e : Int64.ofInt a &&& Int64.ofInt b = Int64.ofInt (if a = 1 ∧ b = 1 then 1 else 0) := by rcases ha with rfl | rfl <;> rcases hb with rfl | rfl <;> decide
  rw [e]; exact k H locs ls h1 h2 h3 h4)
theorem k_lor01 (hC : kC p l R s m args meth c cc own nL G d0 mc0 ms0) {a b : Int} (ha : a = 0 ∨ a = 1) (hb : b = 0 ∨ b = 1) (d : decode cc pc = .ok (.lor, 1)) (k : KW p l e R s m args below meth c nL G Q w fl cells slots (pc + 1) lv (vL (if a = 1 ∨ b = 1 then 1 else 0) :: st)) : KW p l e R s m args below meth c nL G Q w fl cells slots pc lv (vL b :: vL a :: st) := fun H locs ls h1 h2 h3 h4 => lv_lor hC.1 hC.2.1 d (by
  have e : Int64.ofInt a ||| Int64.ofInt b = Int64.ofInt (if a = 1 ∨ b = 1 then 1 else 0) := by rcases ha with rfl | rfl <;> rcases hb with rfl | rfl <;> decide
  rw [e]; exact k H locs ls h1 h2 h3 h4)
end KL7
theorem opr_20 {x y : Int} : opr (-20) x y = if x < y then 1 else 0 := by
  unfold opr; rw [if_neg (by decide), if_neg (by decide), show cmpH (-20) x y = decide (x < y) from rfl]
  by_cases h : x < y
  · rw [if_pos (decide_eq_true h), if_pos h]
  · rw [if_neg (by rw [decide_eq_false h]; decide), if_neg h]
theorem opr_21 {x y : Int} : opr (-21) x y = if x = y then 1 else 0 := by
  unfold opr; rw [if_neg (by decide), if_neg (by decide), show cmpH (-21) x y = decide (x = y) from rfl]
  by_cases h : x = y
  · rw [if_pos (decide_eq_true h), if_pos h]
  · rw [if_neg (by rw [decide_eq_false h]; decide), if_neg h]
theorem opr_22 {x y : Int} : opr (-22) x y = if y < x then 1 else 0 := by
  unfold opr; rw [if_neg (by decide), if_neg (by decide), show cmpH (-22) x y = decide (y < x) from rfl]
  by_cases h : y < x
  · rw [if_pos (decide_eq_true h), if_pos h]
  · rw [if_neg (by rw [decide_eq_false h]; decide), if_neg h]
theorem opr_24 {x y : Int} : opr (-24) x y = if x = 1 ∧ y = 1 then 1 else 0 := by unfold opr; rw [if_pos rfl]
theorem opr_25 {x y : Int} : opr (-25) x y = if x = 1 ∨ y = 1 then 1 else 0 := by unfold opr; rw [if_neg (by decide), if_pos rfl]
theorem opr_b (c x y : Int) : 0 ≤ opr c x y ∧ opr c x y ≤ 1 := by
  unfold opr; repeat (first | omega | split)
noncomputable def pV (g : Nat → Int) (p : Int) (i : Nat) : Int := if p = 0 then (i : Int) else if p = 1 then g (57 + 3 * i) else if p = 2 then g (58 + 3 * i) else if p = 3 then obsM g i else if p = 4 then expM g i else if p = 5 then aziM g i else ((intM g i).natAbs : Int)
theorem pV_b {g : Nat → Int} (hI : Inv g) {p : Int} {i : Nat} (hi : (i : Int) < g 2) : -100000 ≤ pV g p i ∧ pV g p i ≤ 100000 := by
  have h0 := hI.c
  have h1 := hI.sight i hi
  have h2 := obsM_b hI i hi
  have h3 := expM_b g i
  have h4 := aziM_b g i
  have h5 := intM_b hI i hi
  unfold pV; repeat (first | omega | split)
set_option maxRecDepth 100000 in
set_option maxHeartbeats 4000000 in
theorem c_X12_operate (l : Launch) (hls : l.stackTraces = false) (G : kG) (hN : kN G = 150) (w : Nat → va_E) (fl : va_W) (q x y : Int) (hq : (q = -20 ∨ q = -21 ∨ q = -22) ∨ (q = -24 ∨ q = -25)) (hx : -9223372036854775808 ≤ x ∧ x ≤ 9223372036854775807) (hy : -9223372036854775808 ≤ y ∧ y ≤ 9223372036854775807) (h01 : (q = -24 ∨ q = -25) → (x = 0 ∨ x = 1) ∧ (y = 0 ∨ y = 1)) : KM l G yX12_operate cX12_operate 5 (some (FieldType.long)) 0 0 0 [vI q, vL x, vL y] w fl (kPure (vL (opr q x y)) w fl) := by
  refine KM_of2 hls (by decide +kernel) rfl (lv0 := [(0, vI q), (1, vL x), (3, vL y)]) rfl (Nat.le_of_ble_eq_true rfl) (fun p e R s m args below meth c Q hC hr hQ => ?_)
  refine k_iload_n hC dX12_operate_0 rfl 0 rfl ?_
  by_cases c_1 : q < -24 ∨ -20 < q
  · refine k_tswO hC (x := q) 76 dX12_operate_1 (by rw [k_t32 (by omega)]; exact c_1) rfl ?_
    refine k_lload_n hC dX12_operate_76 rfl 1 rfl ?_
    refine k_lload_n hC dX12_operate_77 rfl 2 rfl ?_
    refine k_lor01 hC (by omega) (by omega) dX12_operate_78 ?_
    subst hQ
    exact k_lret hC hr ⟨by decide, by decide⟩ (⟨congrArg (fun z => some (vL z)) (show (opr q x y : Int) = if x = 1 ∨ y = 1 then 1 else 0 from by first | (exfalso; omega) | (rw [show q = -25 by omega, opr_25])), rfl, rfl⟩) dX12_operate_79
  · have h_1 : q = -24 ∨ q = -23 ∨ q = -22 ∨ q = -21 ∨ q = -20 := by omega
    rcases h_1 with q_1 | q_1 | q_1 | q_1 | q_1
    · refine k_tswI hC (x := q) 72 (off := 71) dX12_operate_1 (by rw [k_t32 (by omega)]; omega) (by rw [k_t32 (by omega)]; omega) (by rw [k_t32 (by omega), q_1]; rfl) rfl ?_
      refine k_lload_n hC dX12_operate_72 rfl 1 rfl ?_
      refine k_lload_n hC dX12_operate_73 rfl 2 rfl ?_
      refine k_land01 hC (by omega) (by omega) dX12_operate_74 ?_
      subst hQ
      exact k_lret hC hr ⟨by decide, by decide⟩ (⟨congrArg (fun z => some (vL z)) (show (opr q x y : Int) = if x = 1 ∧ y = 1 then 1 else 0 from by rw [show q = -24 by omega, opr_24]), rfl, rfl⟩) dX12_operate_75
    · refine k_tswI hC (x := q) 76 (off := 75) dX12_operate_1 (by rw [k_t32 (by omega)]; omega) (by rw [k_t32 (by omega)]; omega) (by rw [k_t32 (by omega), q_1]; rfl) rfl ?_
      refine k_lload_n hC dX12_operate_76 rfl 1 rfl ?_
      refine k_lload_n hC dX12_operate_77 rfl 2 rfl ?_
      refine k_lor01 hC (by omega) (by omega) dX12_operate_78 ?_
      subst hQ
      exact k_lret hC hr ⟨by decide, by decide⟩ (⟨congrArg (fun z => some (vL z)) (show (opr q x y : Int) = if x = 1 ∨ y = 1 then 1 else 0 from by first | (exfalso; omega) | (rw [show q = -25 by omega, opr_25])), rfl, rfl⟩) dX12_operate_79
    · refine k_tswI hC (x := q) 60 (off := 59) dX12_operate_1 (by rw [k_t32 (by omega)]; omega) (by rw [k_t32 (by omega)]; omega) (by rw [k_t32 (by omega), q_1]; rfl) rfl ?_
      refine k_lload_n hC dX12_operate_60 rfl 1 rfl ?_
      refine k_lload_n hC dX12_operate_61 rfl 2 rfl ?_
      refine k_lcmp_le hC 70 dX12_operate_62 dX12_operate_63 rfl (by omega) (by omega) (fun c_62 => ?_) (fun c_62 => ?_)
      · refine k_lconst (x := 0) hC dX12_operate_70 (by decide) ?_
        subst hQ
        exact k_lret hC hr ⟨by decide, by decide⟩ (⟨congrArg (fun z => some (vL z)) (show (opr q x y : Int) = 0 from by first | (rw [show q = -20 by omega, opr_20]; exact if_neg (by omega)) | (rw [show q = -21 by omega, opr_21]; exact if_neg (by omega)) | (rw [show q = -22 by omega, opr_22]; exact if_neg (by omega))), rfl, rfl⟩) dX12_operate_71
      · refine k_lconst (x := 1) hC dX12_operate_66 (by decide) ?_
        refine k_goto hC 71 dX12_operate_67 rfl ?_
        subst hQ
        exact k_lret hC hr ⟨by decide, by decide⟩ (⟨congrArg (fun z => some (vL z)) (show (opr q x y : Int) = 1 from by first | (rw [show q = -20 by omega, opr_20]; exact if_pos (by omega)) | (rw [show q = -21 by omega, opr_21]; exact if_pos (by omega)) | (rw [show q = -22 by omega, opr_22]; exact if_pos (by omega))), rfl, rfl⟩) dX12_operate_71
    · refine k_tswI hC (x := q) 48 (off := 47) dX12_operate_1 (by rw [k_t32 (by omega)]; omega) (by rw [k_t32 (by omega)]; omega) (by rw [k_t32 (by omega), q_1]; rfl) rfl ?_
      refine k_lload_n hC dX12_operate_48 rfl 1 rfl ?_
      refine k_lload_n hC dX12_operate_49 rfl 2 rfl ?_
      refine k_lcmp_ne hC 58 dX12_operate_50 dX12_operate_51 rfl (by omega) (by omega) (fun c_50 => ?_) (fun c_50 => ?_)
      · refine k_lconst (x := 0) hC dX12_operate_58 (by decide) ?_
        subst hQ
        exact k_lret hC hr ⟨by decide, by decide⟩ (⟨congrArg (fun z => some (vL z)) (show (opr q x y : Int) = 0 from by first | (rw [show q = -20 by omega, opr_20]; exact if_neg (by omega)) | (rw [show q = -21 by omega, opr_21]; exact if_neg (by omega)) | (rw [show q = -22 by omega, opr_22]; exact if_neg (by omega))), rfl, rfl⟩) dX12_operate_59
      · refine k_lconst (x := 1) hC dX12_operate_54 (by decide) ?_
        refine k_goto hC 59 dX12_operate_55 rfl ?_
        subst hQ
        exact k_lret hC hr ⟨by decide, by decide⟩ (⟨congrArg (fun z => some (vL z)) (show (opr q x y : Int) = 1 from by first | (rw [show q = -20 by omega, opr_20]; exact if_pos (by omega)) | (rw [show q = -21 by omega, opr_21]; exact if_pos (by omega)) | (rw [show q = -22 by omega, opr_22]; exact if_pos (by omega))), rfl, rfl⟩) dX12_operate_59
    · refine k_tswI hC (x := q) 36 (off := 35) dX12_operate_1 (by rw [k_t32 (by omega)]; omega) (by rw [k_t32 (by omega)]; omega) (by rw [k_t32 (by omega), q_1]; rfl) rfl ?_
      refine k_lload_n hC dX12_operate_36 rfl 1 rfl ?_
      refine k_lload_n hC dX12_operate_37 rfl 2 rfl ?_
      refine k_lcmp_ge hC 46 dX12_operate_38 dX12_operate_39 rfl (by omega) (by omega) (fun c_38 => ?_) (fun c_38 => ?_)
      · refine k_lconst (x := 0) hC dX12_operate_46 (by decide) ?_
        subst hQ
        exact k_lret hC hr ⟨by decide, by decide⟩ (⟨congrArg (fun z => some (vL z)) (show (opr q x y : Int) = 0 from by first | (rw [show q = -20 by omega, opr_20]; exact if_neg (by omega)) | (rw [show q = -21 by omega, opr_21]; exact if_neg (by omega)) | (rw [show q = -22 by omega, opr_22]; exact if_neg (by omega))), rfl, rfl⟩) dX12_operate_47
      · refine k_lconst (x := 1) hC dX12_operate_42 (by decide) ?_
        refine k_goto hC 47 dX12_operate_43 rfl ?_
        subst hQ
        exact k_lret hC hr ⟨by decide, by decide⟩ (⟨congrArg (fun z => some (vL z)) (show (opr q x y : Int) = 1 from by first | (rw [show q = -20 by omega, opr_20]; exact if_pos (by omega)) | (rw [show q = -21 by omega, opr_21]; exact if_pos (by omega)) | (rw [show q = -22 by omega, opr_22]; exact if_pos (by omega))), rfl, rfl⟩) dX12_operate_47

set_option maxRecDepth 100000 in
set_option maxHeartbeats 4000000 in
theorem c_X12_property (l : Launch) (hls : l.stackTraces = false) (G : kG) (hN : kN G = 150) (w : Nat → va_E) (fl : va_W) (u g : Nat → Int) (i : Nat) (p9 : Int) (hI : Inv g) (hi : (i : Int) < g 2) (hp : 0 ≤ p9 ∧ p9 ≤ 6) (hm : w 133 = mdO G u) (hn : w 134 = lA G 93 g) : KM l G yX12_property cX12_property 3 (some (FieldType.long)) 11 0 0 [.ref (kad G 133), vI (i : Int), vI p9] w fl (kPure (vL (pV g p9 i)) w fl) := by
  refine KM_of2 hls (by decide +kernel) rfl (lv0 := [(0, .ref (kad G 133)), (1, vI (i : Int)), (2, vI p9)]) rfl (Nat.le_of_ble_eq_true rfl) (fun p e R s m args below meth c Q hC hr hQ => ?_)
  have h0 := hI.c
  have hib := intM_b hI i hi
  refine k_iload_n hC dX12_property_0 rfl 2 rfl ?_
  by_cases c_1 : p9 < 0 ∨ 5 < p9
  · refine k_tswO hC (x := p9) 75 dX12_property_1 (by rw [k_t32 (by omega)]; exact c_1) rfl ?_
    refine k_aload_n hC dX12_property_75 rfl 0 rfl ?_
    refine k_iload_n hC dX12_property_76 rfl 1 rfl ?_
    refine k_pureV hC (c_X12_intercept l hls G hN w fl u g i hI (by omega) hm hn) yy_X12_intercept wm_X12_190 (kl hN (by decide)) hm rfl rfl rfl rfl (Nat.le_of_ble_eq_true rfl) (by decide) (by decide) ⟨by decide, by decide⟩ dX12_property_77 ?_
    refine k_topv (vL (intM g i)) rfl ?_
    have hb_1 := intM_b hI i (by omega)
    refine k_mabsL hC wm_X12_204 wmath_mabsL (by omega) (by decide) (Nat.le_of_ble_eq_true rfl) ⟨by decide, by decide⟩ dX12_property_80 ?_
    subst hQ
    exact k_lret hC hr ⟨by decide, by decide⟩ (⟨congrArg (fun z => some (vL z)) (show (pV g p9 i : Int) = ((intM g i).natAbs : Int) from by unfold pV; first | (rw [if_pos (by omega)]; done) | (rw [if_neg (by omega), if_pos (by omega)]; done) | (rw [if_neg (by omega), if_neg (by omega), if_pos (by omega)]; done) | (rw [if_neg (by omega), if_neg (by omega), if_neg (by omega), if_pos (by omega)]; done) | (rw [if_neg (by omega), if_neg (by omega), if_neg (by omega), if_neg (by omega), if_pos (by omega)]; done) | (rw [if_neg (by omega), if_neg (by omega), if_neg (by omega), if_neg (by omega), if_neg (by omega), if_pos (by omega)]; done) | (rw [if_neg (by omega), if_neg (by omega), if_neg (by omega), if_neg (by omega), if_neg (by omega), if_neg (by omega)]; done)), rfl, rfl⟩) dX12_property_83
  · have h_1 : p9 = 0 ∨ p9 = 1 ∨ p9 = 2 ∨ p9 = 3 ∨ p9 = 4 ∨ p9 = 5 := by omega
    rcases h_1 with q_1 | q_1 | q_1 | q_1 | q_1 | q_1
    · refine k_tswI hC (x := p9) 40 (off := 39) dX12_property_1 (by rw [k_t32 (by omega)]; omega) (by rw [k_t32 (by omega)]; omega) (by rw [k_t32 (by omega), q_1]; rfl) rfl ?_
      refine k_iload_n hC dX12_property_40 rfl 1 rfl ?_
      refine k_i2l hC dX12_property_41 (by omega) ?_
      subst hQ
      exact k_lret hC hr ⟨by decide, by decide⟩ (⟨congrArg (fun z => some (vL z)) (show (pV g p9 i : Int) = (i : Int) from by unfold pV; first | (rw [if_pos (by omega)]; done) | (rw [if_neg (by omega), if_pos (by omega)]; done) | (rw [if_neg (by omega), if_neg (by omega), if_pos (by omega)]; done) | (rw [if_neg (by omega), if_neg (by omega), if_neg (by omega), if_pos (by omega)]; done) | (rw [if_neg (by omega), if_neg (by omega), if_neg (by omega), if_neg (by omega), if_pos (by omega)]; done) | (rw [if_neg (by omega), if_neg (by omega), if_neg (by omega), if_neg (by omega), if_neg (by omega), if_pos (by omega)]; done) | (rw [if_neg (by omega), if_neg (by omega), if_neg (by omega), if_neg (by omega), if_neg (by omega), if_neg (by omega)]; done)), rfl, rfl⟩) dX12_property_42
    · refine k_tswI hC (x := p9) 43 (off := 42) dX12_property_1 (by rw [k_t32 (by omega)]; omega) (by rw [k_t32 (by omega)]; omega) (by rw [k_t32 (by omega), q_1]; rfl) rfl ?_
      refine k_aload_n hC dX12_property_43 rfl 0 rfl ?_
      refine k_iload_n hC dX12_property_44 rfl 1 rfl ?_
      refine k_iconst hC dX12_property_45 ?_
      refine k_pureV hC (c_X12_ofSight l hls G hN w fl u g i 0 (by omega) (by decide) hm hn) yy_X12_ofSight wm_X12_147 (kl hN (by decide)) hm rfl rfl rfl rfl (Nat.le_of_ble_eq_true rfl) (by decide) (by decide) ⟨by decide, by decide⟩ dX12_property_46 ?_
      refine k_topv (vL (g (57 + 3 * i))) rfl ?_
      subst hQ
      exact k_lret hC hr ⟨by decide, by decide⟩ (⟨congrArg (fun z => some (vL z)) (show (pV g p9 i : Int) = g (57 + 3 * i) from by unfold pV; first | (rw [if_pos (by omega)]; done) | (rw [if_neg (by omega), if_pos (by omega)]; done) | (rw [if_neg (by omega), if_neg (by omega), if_pos (by omega)]; done) | (rw [if_neg (by omega), if_neg (by omega), if_neg (by omega), if_pos (by omega)]; done) | (rw [if_neg (by omega), if_neg (by omega), if_neg (by omega), if_neg (by omega), if_pos (by omega)]; done) | (rw [if_neg (by omega), if_neg (by omega), if_neg (by omega), if_neg (by omega), if_neg (by omega), if_pos (by omega)]; done) | (rw [if_neg (by omega), if_neg (by omega), if_neg (by omega), if_neg (by omega), if_neg (by omega), if_neg (by omega)]; done)), rfl, rfl⟩) dX12_property_49
    · refine k_tswI hC (x := p9) 50 (off := 49) dX12_property_1 (by rw [k_t32 (by omega)]; omega) (by rw [k_t32 (by omega)]; omega) (by rw [k_t32 (by omega), q_1]; rfl) rfl ?_
      refine k_aload_n hC dX12_property_50 rfl 0 rfl ?_
      refine k_iload_n hC dX12_property_51 rfl 1 rfl ?_
      refine k_iconst hC dX12_property_52 ?_
      refine k_pureV hC (c_X12_ofSight l hls G hN w fl u g i 1 (by omega) (by decide) hm hn) yy_X12_ofSight wm_X12_147 (kl hN (by decide)) hm rfl rfl rfl rfl (Nat.le_of_ble_eq_true rfl) (by decide) (by decide) ⟨by decide, by decide⟩ dX12_property_53 ?_
      refine k_topv (vL (g (58 + 3 * i))) rfl ?_
      subst hQ
      exact k_lret hC hr ⟨by decide, by decide⟩ (⟨congrArg (fun z => some (vL z)) (show (pV g p9 i : Int) = g (58 + 3 * i) from by unfold pV; first | (rw [if_pos (by omega)]; done) | (rw [if_neg (by omega), if_pos (by omega)]; done) | (rw [if_neg (by omega), if_neg (by omega), if_pos (by omega)]; done) | (rw [if_neg (by omega), if_neg (by omega), if_neg (by omega), if_pos (by omega)]; done) | (rw [if_neg (by omega), if_neg (by omega), if_neg (by omega), if_neg (by omega), if_pos (by omega)]; done) | (rw [if_neg (by omega), if_neg (by omega), if_neg (by omega), if_neg (by omega), if_neg (by omega), if_pos (by omega)]; done) | (rw [if_neg (by omega), if_neg (by omega), if_neg (by omega), if_neg (by omega), if_neg (by omega), if_neg (by omega)]; done)), rfl, rfl⟩) dX12_property_56
    · refine k_tswI hC (x := p9) 57 (off := 56) dX12_property_1 (by rw [k_t32 (by omega)]; omega) (by rw [k_t32 (by omega)]; omega) (by rw [k_t32 (by omega), q_1]; rfl) rfl ?_
      refine k_aload_n hC dX12_property_57 rfl 0 rfl ?_
      refine k_iload_n hC dX12_property_58 rfl 1 rfl ?_
      refine k_pureV hC (c_X12_observed l hls G hN w fl u g i hI (by omega) hm hn) yy_X12_observed wm_X12_181 (kl hN (by decide)) hm rfl rfl rfl rfl (Nat.le_of_ble_eq_true rfl) (by decide) (by decide) ⟨by decide, by decide⟩ dX12_property_59 ?_
      refine k_topv (vL (obsM g i)) rfl ?_
      have hb_2 := obsM_b hI i (by omega)
      subst hQ
      exact k_lret hC hr ⟨by decide, by decide⟩ (⟨congrArg (fun z => some (vL z)) (show (pV g p9 i : Int) = obsM g i from by unfold pV; first | (rw [if_pos (by omega)]; done) | (rw [if_neg (by omega), if_pos (by omega)]; done) | (rw [if_neg (by omega), if_neg (by omega), if_pos (by omega)]; done) | (rw [if_neg (by omega), if_neg (by omega), if_neg (by omega), if_pos (by omega)]; done) | (rw [if_neg (by omega), if_neg (by omega), if_neg (by omega), if_neg (by omega), if_pos (by omega)]; done) | (rw [if_neg (by omega), if_neg (by omega), if_neg (by omega), if_neg (by omega), if_neg (by omega), if_pos (by omega)]; done) | (rw [if_neg (by omega), if_neg (by omega), if_neg (by omega), if_neg (by omega), if_neg (by omega), if_neg (by omega)]; done)), rfl, rfl⟩) dX12_property_62
    · refine k_tswI hC (x := p9) 63 (off := 62) dX12_property_1 (by rw [k_t32 (by omega)]; omega) (by rw [k_t32 (by omega)]; omega) (by rw [k_t32 (by omega), q_1]; rfl) rfl ?_
      refine k_aload_n hC dX12_property_63 rfl 0 rfl ?_
      refine k_iload_n hC dX12_property_64 rfl 1 rfl ?_
      refine k_pureV hC (c_X12_expected l hls G hN w fl u g i hI (by omega) hm hn) yy_X12_expected wm_X12_179 (kl hN (by decide)) hm rfl rfl rfl rfl (Nat.le_of_ble_eq_true rfl) (by decide) (by decide) ⟨by decide, by decide⟩ dX12_property_65 ?_
      refine k_topv (vL (expM g i)) rfl ?_
      have hb_3 := expM_b g i
      subst hQ
      exact k_lret hC hr ⟨by decide, by decide⟩ (⟨congrArg (fun z => some (vL z)) (show (pV g p9 i : Int) = expM g i from by unfold pV; first | (rw [if_pos (by omega)]; done) | (rw [if_neg (by omega), if_pos (by omega)]; done) | (rw [if_neg (by omega), if_neg (by omega), if_pos (by omega)]; done) | (rw [if_neg (by omega), if_neg (by omega), if_neg (by omega), if_pos (by omega)]; done) | (rw [if_neg (by omega), if_neg (by omega), if_neg (by omega), if_neg (by omega), if_pos (by omega)]; done) | (rw [if_neg (by omega), if_neg (by omega), if_neg (by omega), if_neg (by omega), if_neg (by omega), if_pos (by omega)]; done) | (rw [if_neg (by omega), if_neg (by omega), if_neg (by omega), if_neg (by omega), if_neg (by omega), if_neg (by omega)]; done)), rfl, rfl⟩) dX12_property_68
    · refine k_tswI hC (x := p9) 69 (off := 68) dX12_property_1 (by rw [k_t32 (by omega)]; omega) (by rw [k_t32 (by omega)]; omega) (by rw [k_t32 (by omega), q_1]; rfl) rfl ?_
      refine k_aload_n hC dX12_property_69 rfl 0 rfl ?_
      refine k_iload_n hC dX12_property_70 rfl 1 rfl ?_
      refine k_pureV hC (c_X12_azimuth l hls G hN w fl u g i hI (by omega) hm hn) yy_X12_azimuth wm_X12_184 (kl hN (by decide)) hm rfl rfl rfl rfl (Nat.le_of_ble_eq_true rfl) (by decide) (by decide) ⟨by decide, by decide⟩ dX12_property_71 ?_
      refine k_topv (vL (aziM g i)) rfl ?_
      have hb_4 := aziM_b g i
      subst hQ
      exact k_lret hC hr ⟨by decide, by decide⟩ (⟨congrArg (fun z => some (vL z)) (show (pV g p9 i : Int) = aziM g i from by unfold pV; first | (rw [if_pos (by omega)]; done) | (rw [if_neg (by omega), if_pos (by omega)]; done) | (rw [if_neg (by omega), if_neg (by omega), if_pos (by omega)]; done) | (rw [if_neg (by omega), if_neg (by omega), if_neg (by omega), if_pos (by omega)]; done) | (rw [if_neg (by omega), if_neg (by omega), if_neg (by omega), if_neg (by omega), if_pos (by omega)]; done) | (rw [if_neg (by omega), if_neg (by omega), if_neg (by omega), if_neg (by omega), if_neg (by omega), if_pos (by omega)]; done) | (rw [if_neg (by omega), if_neg (by omega), if_neg (by omega), if_neg (by omega), if_neg (by omega), if_neg (by omega)]; done)), rfl, rfl⟩) dX12_property_74

theorem drop_c {L : List Int} {k : Nat} (h : k < L.length) : L.drop k = L.getD k 0 :: L.drop (k + 1) := by
  rw [List.drop_eq_getElem_cons h, List.getD_eq_getElem?_getD, List.getElem?_eq_getElem h]; rfl
def stkR (f : Nat → Int) (s : List Int) : Prop := ∀ j, j < s.length → f j = s.getD (s.length - 1 - j) 0 ∧ -100000 ≤ f j ∧ f j ≤ 100000
theorem stkR.push {f : Nat → Int} {s : List Int} {x : Int} (h : stkR f s) (hx : -100000 ≤ x ∧ x ≤ 100000) : stkR (kup f s.length x) (x :: s) := fun j hj => by
  have hl : (x :: s).length = s.length + 1 := rfl
  unfold kup
  by_cases e : j = s.length
  · rw [if_pos e, hl, show s.length + 1 - 1 - j = 0 by omega]; exact ⟨rfl, hx⟩
  · rw [if_neg e, hl, show s.length + 1 - 1 - j = (s.length - 1 - j) + 1 by omega]
    exact h j (by omega)
theorem stkR.top {f : Nat → Int} {x : Int} {t : List Int} (h : stkR f (x :: t)) : f t.length = x ∧ -100000 ≤ x ∧ x ≤ 100000 := by
  have h1 := h t.length (Nat.lt_succ_self _)
  have hl : (x :: t).length = t.length + 1 := rfl
  rw [hl, show t.length + 1 - 1 - t.length = 0 by omega] at h1
  have e : (x :: t).getD 0 0 = x := rfl
  rw [e] at h1; rw [← h1.1]; exact ⟨rfl, h1.2⟩
theorem stkR.pop {f : Nat → Int} {x : Int} {t : List Int} (h : stkR f (x :: t)) : stkR f t := fun j hj => by
  have h1 := h j (Nat.lt_succ_of_lt hj)
  have hl : (x :: t).length = t.length + 1 := rfl
  rw [hl, show t.length + 1 - 1 - j = (t.length - 1 - j) + 1 by omega] at h1
  exact h1
set_option maxRecDepth 100000 in
set_option maxHeartbeats 4000000 in
theorem c_X12_holdsFor (l : Launch) (hls : l.stackTraces = false) (G : kG) (hN : kN G = 150) (w : Nat → va_E) (fl : va_W) (u g cf f0 : Nat → Int) (i c9 : Nat) (cs : List Int) (b : Int) (hI : Inv g) (hi : (i : Int) < g 2) (hc9 : c9 ≤ 200) (h29 : u 29 = (c9 : Int)) (hcd : cdR cf c9 cs) (hb01 : b = 0 ∨ b = 1) (hok0 : okr (pV g) i b cs []) (hm : w 133 = mdO G u) (hn : w 134 = lA G 93 g) (h146 : w 146 = iA G 200 cf) (h147 : w 147 = lA G 200 f0) : KM l G yX12_holdsFor cX12_holdsFor 5 (some (FieldType.boolean)) 12 0 0 [.ref (kad G 133), vI (i : Int)] w fl (kMut (vI b) fl (fun w1 => (∃ f1, w1 147 = lA G 200 f1) ∧ ∀ j, j ≠ 147 → w1 j = w j)) := by
  refine KM_of2 hls (by decide +kernel) rfl (lv0 := [(0, .ref (kad G 133)), (1, vI (i : Int))]) rfl (Nat.le_of_ble_eq_true rfl) (fun p e R s m args below meth c Q hC hr hQ => ?_)
  have h0 := hI.c
  refine k_iconst hC dX12_holdsFor_0 ?_
  refine k_istore_n hC [(2, vI 0), (0, .ref (kad G 133)), (1, vI (i : Int))] dX12_holdsFor_1 rfl (by decide) rfl ?_
  refine k_iconst hC dX12_holdsFor_2 ?_
  refine k_istore_n hC [(3, vI 0), (2, vI 0), (0, .ref (kad G 133)), (1, vI (i : Int))] dX12_holdsFor_3 rfl (by decide) rfl ?_
  have loopw : ∀ (nw : Nat) (k : Nat) (tp : Nat) (f : Nat → Int) (sv : List Int) (wvw : Nat → va_E), (c9 < nw + k) → (k ≤ c9) → (sv.length = tp) → (tp ≤ k) → (stkR f sv) → (okr (pV g) i b (cs.drop k) sv) → (wvw 133 = .inr (12, [.ref (kad G 134), .ref (kad G 135), .ref (kad G 136), .ref (kad G 137), vI (u 4), vI (u 5), vI (u 6), .ref (kad G 138), .ref (kad G 139), .ref (kad G 140), .ref (kad G 141), .ref (kad G 142), vL (u 12), vL (u 13), .ref (kad G 143), vI (u 15), .ref (kad G 144), vI (u 17), vI (u 18), vI (u 19), vI (u 20), vI (u 21), vI (u 22), vI (u 23), vI (u 24), vI (u 25), .ref (kad G 145), .ref (kad G 146), .ref (kad G 147), vI (u 29)])) → (wvw 134 = lA G 93 g) → (wvw 146 = iA G 200 cf) → (wvw 147 = lA G 200 f) → ((∀ j, j ≠ 147 → wvw j = w j)) → KW p l e R s m args below meth c 5 G Q wvw fl 0 0 4 [(3, vI (k : Int)), (2, vI (tp : Int)), (0, .ref (kad G 133)), (1, vI (i : Int))] [] := by
    intro nw
    induction nw with
    | zero =>
      intro k tp f sv wvw hn_w hk htp htk hst hok hm hn h146 h147 hfrw
      exact absurd hn_w (by omega)
    | succ nw ihw =>
      intro k tp f sv wvw hn_w hk htp htk hst hok hm hn h146 h147 hfrw
      refine k_iload_n hC dX12_holdsFor_4 rfl 0 rfl ?_
      refine k_aload_n hC dX12_holdsFor_5 rfl 2 rfl ?_
      refine k_get hC fd_X12_483 (kl hN (by decide)) hm rfl dX12_holdsFor_6 ?_
      refine k_icmp_ge hC 123 dX12_holdsFor_9 rfl (by omega) (by omega) (fun c_9 => ?_) (fun c_9 => ?_)
      · have hlast : sv = [b] := by have := hcd.1; rw [List.drop_eq_nil_of_le (by omega)] at hok; exact hok
        have htop := stkR.top (t := []) (x := b) (hlast ▸ hst)
        refine k_aload_n hC dX12_holdsFor_123 rfl 2 rfl ?_
        refine k_get hC fd_X12_71 (kl hN (by decide)) hm rfl dX12_holdsFor_124 ?_
        refine k_iconst hC dX12_holdsFor_127 ?_
        refine k_lald hC (kl hN (by decide)) h147 (by omega) (by decide) dX12_holdsFor_128 ?_
        refine k_topv (vL (f 0)) rfl ?_
        refine k_topv (vL b) (congrArg vL htop.1) ?_
        refine k_lconst (x := 1) hC dX12_holdsFor_129 (by decide) ?_
        refine k_lcmp_ne hC 138 dX12_holdsFor_130 dX12_holdsFor_131 rfl (by omega) (by omega) (fun c_130 => ?_) (fun c_130 => ?_)
        · refine k_iconst hC dX12_holdsFor_138 ?_
          subst hQ
          exact k_zret hC (by omega) hr ⟨by decide, by decide⟩ (⟨congrArg (fun z => some (vI z)) (by omega), rfl, ⟨_, h147⟩, fun j hj => hfrw j (by omega)⟩) dX12_holdsFor_139
        · refine k_iconst hC dX12_holdsFor_134 ?_
          refine k_goto hC 139 dX12_holdsFor_135 rfl ?_
          subst hQ
          exact k_zret hC (by omega) hr ⟨by decide, by decide⟩ (⟨congrArg (fun z => some (vI z)) (by omega), rfl, ⟨_, h147⟩, fun j hj => hfrw j (by omega)⟩) dX12_holdsFor_139
      · refine k_aload_n hC dX12_holdsFor_12 rfl 2 rfl ?_
        refine k_get hC fd_X12_68 (kl hN (by decide)) hm rfl dX12_holdsFor_13 ?_
        refine k_iload_n hC dX12_holdsFor_16 rfl 0 rfl ?_
        refine k_iald hC (kl hN (by decide)) h146 (by omega) (by decide) dX12_holdsFor_17 ?_
        refine k_topv (vI (cf k)) rfl ?_
        refine k_istore hC [(4, vI (cf k)), (3, vI (k : Int)), (2, vI (tp : Int)), (0, .ref (kad G 133)), (1, vI (i : Int))] dX12_holdsFor_18 (by decide) rfl ?_
        have hkc9 : k < c9 := by omega
        have hcl := hcd.1
        have hcf := hcd.2 k hkc9
        rw [drop_c (by omega), ← hcf] at hok
        rcases hok with ⟨e1, x, t, hs, hx01, hok⟩ | ⟨e1, hok⟩ | ⟨e1, x, y, t, hs, h01, hok⟩
        · have htl : sv.length = t.length + 1 := congrArg List.length hs
          have htp1 := stkR.top (hs ▸ hst)
          refine k_iload hC dX12_holdsFor_20 0 rfl ?_
          refine k_bipush hC dX12_holdsFor_22 (by decide) ?_
          refine k_icmp_ne hC 48 dX12_holdsFor_24 rfl (by omega) (by omega) (fun c_24 => absurd c_24 (by omega)) (fun c_24 => ?_)
          refine k_aload_n hC dX12_holdsFor_27 rfl 3 rfl ?_
          refine k_get hC fd_X12_71 (kl hN (by decide)) hm rfl dX12_holdsFor_28 ?_
          refine k_iload_n hC dX12_holdsFor_31 rfl 2 rfl ?_
          refine k_iconst hC dX12_holdsFor_32 ?_
          refine k_isub hC dX12_holdsFor_33 ?_
          refine k_topv (vI ((t.length : Nat) : Int)) (congrArg vI (by omega)) ?_
          refine k_lconst (x := 1) hC dX12_holdsFor_34 (by decide) ?_
          refine k_aload_n hC dX12_holdsFor_35 rfl 3 rfl ?_
          refine k_get hC fd_X12_71 (kl hN (by decide)) hm rfl dX12_holdsFor_36 ?_
          refine k_iload_n hC dX12_holdsFor_39 rfl 2 rfl ?_
          refine k_iconst hC dX12_holdsFor_40 ?_
          refine k_isub hC dX12_holdsFor_41 ?_
          refine k_topv (vI ((t.length : Nat) : Int)) (congrArg vI (by omega)) ?_
          refine k_lald hC (kl hN (by decide)) h147 (by omega) (by decide) dX12_holdsFor_42 ?_
          refine k_topv (vL (f t.length)) rfl ?_
          refine k_topv (vL x) (congrArg vL (by omega)) ?_
          refine k_lsub hC dX12_holdsFor_43 ?_
          refine k_last hC (kl hN (by decide)) h147 (by omega) (by decide) dX12_holdsFor_44 (fun w1 hw1 hf1 => ?_)
          refine k_goto hC 117 dX12_holdsFor_45 rfl ?_
          refine k_iinc hC (y := (k : Int) + 1) [(3, vI ((k : Int) + 1)), (4, vI (cf k)), (2, vI (tp : Int)), (0, .ref (kad G 133)), (1, vI (i : Int))] (j := 1) dX12_holdsFor_117 rfl (by omega) (by decide) rfl ?_
          refine k_goto hC 4 dX12_holdsFor_120 rfl ?_
          refine k_lvs (ls := [0, 2, 3, 4]) [(3, vI ((k : Int) + 1)), (2, vI (tp : Int)), (0, .ref (kad G 133)), (1, vI (i : Int))] rfl ?_
          refine k_lvs (ls := [0, 1, 2, 3]) [(3, vI ((k + 1 : Nat) : Int)), (2, vI ((t.length + 1 : Nat) : Int)), (0, .ref (kad G 133)), (1, vI (i : Int))] (by rw [show ((t.length + 1 : Nat) : Int) = (tp : Int) by omega]; simp only [lv_pick]; rfl) ?_
          have h_2 : w1 133 = .inr (12, [.ref (kad G 134), .ref (kad G 135), .ref (kad G 136), .ref (kad G 137), vI (u 4), vI (u 5), vI (u 6), .ref (kad G 138), .ref (kad G 139), .ref (kad G 140), .ref (kad G 141), .ref (kad G 142), vL (u 12), vL (u 13), .ref (kad G 143), vI (u 15), .ref (kad G 144), vI (u 17), vI (u 18), vI (u 19), vI (u 20), vI (u 21), vI (u 22), vI (u 23), vI (u 24), vI (u 25), .ref (kad G 145), .ref (kad G 146), .ref (kad G 147), vI (u 29)]) := (hf1 133 (by decide)).trans hm
          have h_3 : w1 134 = lA G 93 g := (hf1 134 (by decide)).trans hn
          have h_4 : w1 146 = iA G 200 cf := (hf1 146 (by decide)).trans h146
          exact ihw (k + 1) (t.length + 1) (kup f t.length (1 - x)) ((1 - x) :: t) w1 (by omega) (by omega) rfl (by have hsl : sv.length = t.length + 1 := congrArg List.length hs; omega) ((stkR.pop (hs ▸ hst)).push (x := 1 - x) (by omega)) (by first | exact hok | (rw [hcf] at hok; exact hok)) h_2 h_3 h_4 (hw1.trans (lA_congr (fun j hj => by simp only [kup]; repeat (first | omega | rfl | split)))) (fun j hj => (hf1 j (by omega)).trans (hfrw j (by omega)))
        · refine k_iload hC dX12_holdsFor_20 0 rfl ?_
          refine k_bipush hC dX12_holdsFor_22 (by decide) ?_
          refine k_icmp_ne hC 48 dX12_holdsFor_24 rfl (by omega) (by omega) (fun c_24 => ?_) (fun c_24 => absurd c_24 (by omega))
          refine k_iload hC dX12_holdsFor_48 0 rfl ?_
          refine k_bipush hC dX12_holdsFor_50 (by decide) ?_
          refine k_icmp_le hC 87 dX12_holdsFor_52 rfl (by omega) (by omega) (fun c_52 => absurd c_52 (by omega)) (fun c_52 => ?_)
          refine k_aload_n hC dX12_holdsFor_55 rfl 3 rfl ?_
          refine k_get hC fd_X12_71 (kl hN (by decide)) hm rfl dX12_holdsFor_56 ?_
          refine k_iload_n hC dX12_holdsFor_59 rfl 2 rfl ?_
          refine k_topv (vI ((sv.length : Nat) : Int)) (congrArg vI (by omega)) ?_
          refine k_iload hC dX12_holdsFor_60 0 rfl ?_
          refine k_if_lt hC 71 dX12_holdsFor_62 rfl (by omega) (fun c_62 => ?_) (fun c_62 => ?_)
          · refine k_aload_n hC dX12_holdsFor_71 rfl 3 rfl ?_
            refine k_iload_n hC dX12_holdsFor_72 rfl 4 rfl ?_
            refine k_iconst hC dX12_holdsFor_73 ?_
            refine k_iload hC dX12_holdsFor_74 0 rfl ?_
            refine k_isub hC dX12_holdsFor_76 ?_
            refine k_pureV hC (c_X12_property l hls G hN wvw fl u g i ((-1) - (cf k)) hI hi (by omega) hm hn) yy_X12_property wm_X12_511 (kl hN (by decide)) hm rfl rfl rfl rfl (Nat.le_of_ble_eq_true rfl) (by decide) (by decide) ⟨by decide, by decide⟩ dX12_holdsFor_77 ?_
            have hpv_5 := pV_b hI (p := (-1) - (cf k)) hi
            refine k_last hC (kl hN (by decide)) h147 (by omega) (by decide) dX12_holdsFor_80 (fun w6 hw6 hf6 => ?_)
            refine k_iinc hC (y := (tp : Int) + 1) [(2, vI ((tp : Int) + 1)), (4, vI (cf k)), (3, vI (k : Int)), (0, .ref (kad G 133)), (1, vI (i : Int))] (j := 2) dX12_holdsFor_81 rfl (by omega) (by decide) rfl ?_
            refine k_goto hC 117 dX12_holdsFor_84 rfl ?_
            refine k_iinc hC (y := (k : Int) + 1) [(3, vI ((k : Int) + 1)), (2, vI ((tp : Int) + 1)), (4, vI (cf k)), (0, .ref (kad G 133)), (1, vI (i : Int))] (j := 2) dX12_holdsFor_117 rfl (by omega) (by decide) rfl ?_
            refine k_goto hC 4 dX12_holdsFor_120 rfl ?_
            refine k_lvs (ls := [0, 1, 3, 4]) [(3, vI ((k : Int) + 1)), (2, vI ((tp : Int) + 1)), (0, .ref (kad G 133)), (1, vI (i : Int))] rfl ?_
            refine k_lvs (ls := [0, 1, 2, 3]) [(3, vI ((k + 1 : Nat) : Int)), (2, vI ((tp + 1 : Nat) : Int)), (0, .ref (kad G 133)), (1, vI (i : Int))] (by simp only [lv_pick]; rfl) ?_
            have h_7 : w6 133 = .inr (12, [.ref (kad G 134), .ref (kad G 135), .ref (kad G 136), .ref (kad G 137), vI (u 4), vI (u 5), vI (u 6), .ref (kad G 138), .ref (kad G 139), .ref (kad G 140), .ref (kad G 141), .ref (kad G 142), vL (u 12), vL (u 13), .ref (kad G 143), vI (u 15), .ref (kad G 144), vI (u 17), vI (u 18), vI (u 19), vI (u 20), vI (u 21), vI (u 22), vI (u 23), vI (u 24), vI (u 25), .ref (kad G 145), .ref (kad G 146), .ref (kad G 147), vI (u 29)]) := (hf6 133 (by decide)).trans hm
            have h_8 : w6 134 = lA G 93 g := (hf6 134 (by decide)).trans hn
            have h_9 : w6 146 = iA G 200 cf := (hf6 146 (by decide)).trans h146
            exact ihw (k + 1) (tp + 1) (kup f sv.length (pV g ((-1) - (cf k)) i)) (pV g ((-1) - (cf k)) i :: sv) w6 (by omega) (by omega) (by rw [← htp]; rfl) (by have hsl : sv.length = tp := htp; omega) (hst.push (x := pV g ((-1) - (cf k)) i) (by omega)) (by first | exact hok | (rw [if_neg (show ¬ 0 ≤ cf k by omega)] at hok; exact hok)) h_7 h_8 h_9 (hw6.trans (lA_congr (fun j hj => by simp only [kup]; repeat (first | omega | rfl | split)))) (fun j hj => (hf6 j (by omega)).trans (hfrw j (by omega)))
          · refine k_iload hC dX12_holdsFor_65 0 rfl ?_
            refine k_i2l hC dX12_holdsFor_67 (by omega) ?_
            refine k_goto hC 80 dX12_holdsFor_68 rfl ?_
            refine k_last hC (kl hN (by decide)) h147 (by omega) (by decide) dX12_holdsFor_80 (fun w10 hw10 hf10 => ?_)
            refine k_iinc hC (y := (tp : Int) + 1) [(2, vI ((tp : Int) + 1)), (4, vI (cf k)), (3, vI (k : Int)), (0, .ref (kad G 133)), (1, vI (i : Int))] (j := 2) dX12_holdsFor_81 rfl (by omega) (by decide) rfl ?_
            refine k_goto hC 117 dX12_holdsFor_84 rfl ?_
            refine k_iinc hC (y := (k : Int) + 1) [(3, vI ((k : Int) + 1)), (2, vI ((tp : Int) + 1)), (4, vI (cf k)), (0, .ref (kad G 133)), (1, vI (i : Int))] (j := 2) dX12_holdsFor_117 rfl (by omega) (by decide) rfl ?_
            refine k_goto hC 4 dX12_holdsFor_120 rfl ?_
            refine k_lvs (ls := [0, 1, 3, 4]) [(3, vI ((k : Int) + 1)), (2, vI ((tp : Int) + 1)), (0, .ref (kad G 133)), (1, vI (i : Int))] rfl ?_
            refine k_lvs (ls := [0, 1, 2, 3]) [(3, vI ((k + 1 : Nat) : Int)), (2, vI ((tp + 1 : Nat) : Int)), (0, .ref (kad G 133)), (1, vI (i : Int))] (by simp only [lv_pick]; rfl) ?_
            have h_11 : w10 133 = .inr (12, [.ref (kad G 134), .ref (kad G 135), .ref (kad G 136), .ref (kad G 137), vI (u 4), vI (u 5), vI (u 6), .ref (kad G 138), .ref (kad G 139), .ref (kad G 140), .ref (kad G 141), .ref (kad G 142), vL (u 12), vL (u 13), .ref (kad G 143), vI (u 15), .ref (kad G 144), vI (u 17), vI (u 18), vI (u 19), vI (u 20), vI (u 21), vI (u 22), vI (u 23), vI (u 24), vI (u 25), .ref (kad G 145), .ref (kad G 146), .ref (kad G 147), vI (u 29)]) := (hf10 133 (by decide)).trans hm
            have h_12 : w10 134 = lA G 93 g := (hf10 134 (by decide)).trans hn
            have h_13 : w10 146 = iA G 200 cf := (hf10 146 (by decide)).trans h146
            exact ihw (k + 1) (tp + 1) (kup f sv.length (cf k)) (cf k :: sv) w10 (by omega) (by omega) (by rw [← htp]; rfl) (by have hsl : sv.length = tp := htp; omega) (hst.push (x := cf k) (by omega)) (by first | exact hok | (rw [if_pos (show 0 ≤ cf k by omega)] at hok; exact hok)) h_11 h_12 h_13 (hw10.trans (lA_congr (fun j hj => by simp only [kup]; repeat (first | omega | rfl | split)))) (fun j hj => (hf10 j (by omega)).trans (hfrw j (by omega)))
        · have htl : sv.length = t.length + 1 + 1 := congrArg List.length hs
          have htp1 := stkR.top (hs ▸ hst)
          have htp2 := stkR.top (stkR.pop (hs ▸ hst))
          have hyl : (x :: t).length = t.length + 1 := rfl
          rw [hyl] at htp1
          refine k_iload hC dX12_holdsFor_20 0 rfl ?_
          refine k_bipush hC dX12_holdsFor_22 (by decide) ?_
          refine k_icmp_ne hC 48 dX12_holdsFor_24 rfl (by omega) (by omega) (fun c_24 => ?_) (fun c_24 => absurd c_24 (by omega))
          refine k_iload hC dX12_holdsFor_48 0 rfl ?_
          refine k_bipush hC dX12_holdsFor_50 (by decide) ?_
          refine k_icmp_le hC 87 dX12_holdsFor_52 rfl (by omega) (by omega) (fun c_52 => ?_) (fun c_52 => absurd c_52 (by omega))
          refine k_iinc hC (y := (tp : Int) - 1) [(2, vI ((tp : Int) - 1)), (4, vI (cf k)), (3, vI (k : Int)), (0, .ref (kad G 133)), (1, vI (i : Int))] (j := 2) dX12_holdsFor_87 rfl (by omega) (by decide) rfl ?_
          refine k_aload_n hC dX12_holdsFor_90 rfl 3 rfl ?_
          refine k_get hC fd_X12_71 (kl hN (by decide)) hm rfl dX12_holdsFor_91 ?_
          refine k_iload_n hC dX12_holdsFor_94 rfl 0 rfl ?_
          refine k_iconst hC dX12_holdsFor_95 ?_
          refine k_isub hC dX12_holdsFor_96 ?_
          refine k_topv (vI ((t.length : Nat) : Int)) (congrArg vI (by omega)) ?_
          refine k_iload hC dX12_holdsFor_97 1 rfl ?_
          refine k_aload_n hC dX12_holdsFor_99 rfl 3 rfl ?_
          refine k_get hC fd_X12_71 (kl hN (by decide)) hm rfl dX12_holdsFor_100 ?_
          refine k_iload_n hC dX12_holdsFor_103 rfl 0 rfl ?_
          refine k_iconst hC dX12_holdsFor_104 ?_
          refine k_isub hC dX12_holdsFor_105 ?_
          refine k_topv (vI ((t.length : Nat) : Int)) (congrArg vI (by omega)) ?_
          refine k_lald hC (kl hN (by decide)) h147 (by omega) (by decide) dX12_holdsFor_106 ?_
          refine k_topv (vL (f t.length)) rfl ?_
          refine k_topv (vL x) (congrArg vL (by omega)) ?_
          refine k_aload_n hC dX12_holdsFor_107 rfl 3 rfl ?_
          refine k_get hC fd_X12_71 (kl hN (by decide)) hm rfl dX12_holdsFor_108 ?_
          refine k_iload_n hC dX12_holdsFor_111 rfl 0 rfl ?_
          refine k_topv (vI ((t.length + 1 : Nat) : Int)) (congrArg vI (by omega)) ?_
          refine k_lald hC (kl hN (by decide)) h147 (by omega) (by decide) dX12_holdsFor_112 ?_
          refine k_topv (vL (f (t.length + 1))) rfl ?_
          refine k_topv (vL y) (congrArg vL (by omega)) ?_
          refine k_pureS hC (c_X12_operate l hls G hN wvw fl (cf k) x y (by omega) (by omega) (by omega) (by omega)) yy_X12_operate wm_X12_514 rfl rfl (Nat.le_of_ble_eq_true rfl) (by decide) (by decide) ⟨by decide, by decide⟩ dX12_holdsFor_113 ?_
          refine k_last hC (kl hN (by decide)) h147 (by omega) (by decide) dX12_holdsFor_116 (fun w14 hw14 hf14 => ?_)
          refine k_iinc hC (y := (k : Int) + 1) [(3, vI ((k : Int) + 1)), (2, vI ((tp : Int) - 1)), (4, vI (cf k)), (0, .ref (kad G 133)), (1, vI (i : Int))] (j := 2) dX12_holdsFor_117 rfl (by omega) (by decide) rfl ?_
          refine k_goto hC 4 dX12_holdsFor_120 rfl ?_
          refine k_lvs (ls := [0, 1, 3, 4]) [(3, vI ((k : Int) + 1)), (2, vI ((tp : Int) - 1)), (0, .ref (kad G 133)), (1, vI (i : Int))] rfl ?_
          refine k_lvs (ls := [0, 1, 2, 3]) [(3, vI ((k + 1 : Nat) : Int)), (2, vI ((t.length + 1 : Nat) : Int)), (0, .ref (kad G 133)), (1, vI (i : Int))] (by rw [show ((t.length + 1 : Nat) : Int) = (tp : Int) - 1 by omega]; simp only [lv_pick]; rfl) ?_
          have h_15 : w14 133 = .inr (12, [.ref (kad G 134), .ref (kad G 135), .ref (kad G 136), .ref (kad G 137), vI (u 4), vI (u 5), vI (u 6), .ref (kad G 138), .ref (kad G 139), .ref (kad G 140), .ref (kad G 141), .ref (kad G 142), vL (u 12), vL (u 13), .ref (kad G 143), vI (u 15), .ref (kad G 144), vI (u 17), vI (u 18), vI (u 19), vI (u 20), vI (u 21), vI (u 22), vI (u 23), vI (u 24), vI (u 25), .ref (kad G 145), .ref (kad G 146), .ref (kad G 147), vI (u 29)]) := (hf14 133 (by decide)).trans hm
          have h_16 : w14 134 = lA G 93 g := (hf14 134 (by decide)).trans hn
          have h_17 : w14 146 = iA G 200 cf := (hf14 146 (by decide)).trans h146
          exact ihw (k + 1) (t.length + 1) (kup f t.length (opr (cf k) x y)) (opr (cf k) x y :: t) w14 (by omega) (by omega) rfl (by have hsl : sv.length = t.length + 1 + 1 := congrArg List.length hs; omega) ((stkR.pop (stkR.pop (hs ▸ hst))).push (x := opr (cf k) x y) (by have := opr_b (cf k) x y; omega)) (by first | exact hok | (rw [hcf] at hok; exact hok)) h_15 h_16 h_17 (hw14.trans (lA_congr (fun j hj => by simp only [kup]; repeat (first | omega | rfl | split)))) (fun j hj => (hf14 j (by omega)).trans (hfrw j (by omega)))
  refine k_lvs (ls := [0, 1, 2, 3]) [(3, vI ((0 : Nat) : Int)), (2, vI ((0 : Nat) : Int)), (0, .ref (kad G 133)), (1, vI (i : Int))] (by simp only [lv_pick]; rfl) ?_
  exact loopw (c9 + 1) 0 0 f0 ([]) w (by omega) (by omega) rfl (by omega) (fun j hj => absurd hj (Nat.not_lt_zero j)) hok0 hm hn h146 h147 (fun j hj => rfl)

