def up3 (g : Nat → Int) (a : Nat) (x y z : Int) : Nat → Int := fun j => if j = a then x else if j = a + 1 then y else if j = a + 2 then z else g j
theorem up3_0 {g : Nat → Int} {a : Nat} {x y z : Int} : up3 g a x y z a = x := if_pos rfl
theorem up3_1 {g : Nat → Int} {a : Nat} {x y z : Int} : up3 g a x y z (a + 1) = y := by unfold up3; rw [if_neg (by omega), if_pos rfl]
theorem up3_2 {g : Nat → Int} {a : Nat} {x y z : Int} : up3 g a x y z (a + 2) = z := by unfold up3; rw [if_neg (by omega), if_neg (by omega), if_pos rfl]
theorem up3_n {g : Nat → Int} {a j : Nat} {x y z : Int} (h : j < a ∨ a + 2 < j) : up3 g a x y z j = g j := by unfold up3; rw [if_neg (by omega), if_neg (by omega), if_neg (by omega)]
theorem trI_up {G : kG} {fl : va_W} {F : Nat → Option Nat} {g : Nat → Int} {b s k : Nat} (h : trI G fl F (k : Int) g b s) (x : Nat) (f : Nat → Int) (hs : 3 ≤ s) : trI G (fl ++ [(x, iA G 3 f)]) (va_up F k (some x)) ((k + 1 : Nat) : Int) (up3 g (b + s * k) (f 0) (f 1) (f 2)) b s := fun i hi => by
  by_cases e : i = k
  · subst e
    refine ⟨x, fl.length, f, va_up_self _ _ _, by rw [List.getElem?_append_right (Nat.le_refl _), Nat.sub_self]; rfl, up3_0.symm, ?_, ?_⟩
    · rw [show b + 1 + s * i = b + s * i + 1 by omega]; exact up3_1.symm
    · rw [show b + 2 + s * i = b + s * i + 2 by omega]; exact up3_2.symm
  · obtain ⟨q, j, f1, h1, h2, h3, h4, h5⟩ := h.ap (L := [(x, iA G 3 f)]) i (by omega)
    have hm : s * (i + 1) ≤ s * k := Nat.mul_le_mul_left s (by omega)
    rw [Nat.mul_succ] at hm
    refine ⟨q, j, f1, ?_, h2, ?_, ?_, ?_⟩
    · rw [← h1]; simp [va_up, e]
    · rw [up3_n (by omega)]; exact h3
    · rw [up3_n (by omega)]; exact h4
    · rw [up3_n (by omega)]; exact h5
theorem trI_cg {G : kG} {fl : va_W} {F : Nat → Option Nat} {g g1 : Nat → Int} {c : Int} {b s : Nat} (h : trI G fl F c g b s) (e : ∀ i : Nat, (i : Int) < c → g1 (b + s * i) = g (b + s * i) ∧ g1 (b + 1 + s * i) = g (b + 1 + s * i) ∧ g1 (b + 2 + s * i) = g (b + 2 + s * i)) : trI G fl F c g1 b s := fun i hi => by
  obtain ⟨q, j, f1, h1, h2, h3, h4, h5⟩ := h i hi
  obtain ⟨e1, e2, e3⟩ := e i hi
  exact ⟨q, j, f1, h1, h2, h3.trans e1.symm, h4.trans e2.symm, h5.trans e3.symm⟩
theorem trI_0 {G : kG} {fl : va_W} {F : Nat → Option Nat} {g : Nat → Int} {c : Int} {b s : Nat} (h : c ≤ 0) : trI G fl F c g b s := fun i hi => absurd hi (by omega)
def drB (g : Nat → Int) : Prop := (1 ≤ g 0 ∧ g 0 ≤ 6) ∧ (0 ≤ g 1 ∧ g 1 ≤ 4) ∧ (0 ≤ g 2 ∧ g 2 ≤ 5) ∧ (-3600 ≤ g 3 ∧ g 3 ≤ 3600) ∧ (-10799 ≤ g 4 ∧ g 4 ≤ 10799) ∧ (0 ≤ g 5 ∧ g 5 ≤ 50) ∧ (-60 ≤ g 6 ∧ g 6 ≤ 60) ∧ (0 ≤ g 7 ∧ g 7 ≤ 21599) ∧ (0 ≤ g 8 ∧ g 8 ≤ 100)
def drb (g : Nat → Int) (a : Nat) : Prop := ∀ k, k < a → (-3600 ≤ g (9 + 4 * k) ∧ g (9 + 4 * k) ≤ 3600) ∧ (0 ≤ g (10 + 4 * k) ∧ g (10 + 4 * k) ≤ 21599) ∧ (1 ≤ g (11 + 4 * k) ∧ g (11 + 4 * k) ≤ 8)
def drl (g : Nat → Int) (a : Nat) : Prop := (∀ k, k < a → (0 ≤ g (33 + 3 * k) ∧ g (33 + 3 * k) ≤ 5000) ∧ (0 ≤ g (34 + 3 * k) ∧ g (34 + 3 * k) ≤ 21599) ∧ (0 ≤ g (35 + 3 * k) ∧ g (35 + 3 * k) ≤ 400)) ∧ ∀ k, k + 1 < a → g (33 + 3 * k) < g (36 + 3 * k)
def drs (g : Nat → Int) (a : Nat) : Prop := ∀ k, k < a → (0 ≤ g (57 + 3 * k) ∧ g (57 + 3 * k) < g 0) ∧ (0 ≤ g (58 + 3 * k) ∧ g (58 + 3 * k) ≤ 5000) ∧ (300 ≤ g (59 + 3 * k) ∧ g (59 + 3 * k) ≤ 5100)
theorem dr_inv {g : Nat → Int} (h : drB g) (h1 : drb g (g 0).toNat) (h2 : drl g (g 1).toNat) (h3 : drs g (g 2).toNat) : Inv g := by
  obtain ⟨a0, a1, a2, a3, a4, a5, a6, a7, a8⟩ := h
  exact ⟨by omega, by omega, by omega, a3, by omega, a5, a6, a7, a8, fun k hk => h1 k (by omega), fun k hk => h2.1 k (by omega), fun k hk => h2.2 k (by omega), fun k hk => h3 k (by omega)⟩
theorem drb_up {g : Nat → Int} {k : Nat} {x y z : Int} (h : drb g k) (hx : -3600 ≤ x ∧ x ≤ 3600) (hy : 0 ≤ y ∧ y ≤ 21599) (hz : 1 ≤ z ∧ z ≤ 8) : drb (up3 g (9 + 4 * k) x y z) (k + 1) := fun i hi => by
  by_cases e : i = k
  · subst e
    rw [up3_0, show 10 + 4 * i = 9 + 4 * i + 1 by omega, up3_1, show 11 + 4 * i = 9 + 4 * i + 2 by omega, up3_2]
    exact ⟨hx, hy, hz⟩
  · rw [up3_n (by omega), up3_n (by omega), up3_n (by omega)]
    exact h i (by omega)
theorem drl_up {g : Nat → Int} {k : Nat} {x y z : Int} (h : drl g k) (hx : 0 ≤ x ∧ x ≤ 5000) (hy : 0 ≤ y ∧ y ≤ 21599) (hz : 0 ≤ z ∧ z ≤ 400) (hl : ∀ j, j + 1 = k → g (33 + 3 * j) < x) : drl (up3 g (33 + 3 * k) x y z) (k + 1) := by
  refine ⟨fun i hi => ?_, fun i hi => ?_⟩
  · by_cases e : i = k
    · subst e
      rw [up3_0, show 34 + 3 * i = 33 + 3 * i + 1 by omega, up3_1, show 35 + 3 * i = 33 + 3 * i + 2 by omega, up3_2]
      exact ⟨hx, hy, hz⟩
    · rw [up3_n (by omega), up3_n (by omega), up3_n (by omega)]
      exact h.1 i (by omega)
  · rw [up3_n (j := 33 + 3 * i) (by omega)]
    by_cases e : i + 1 = k
    · rw [show 36 + 3 * i = 33 + 3 * k by omega, up3_0]; exact hl i e
    · rw [up3_n (by omega)]; exact h.2 i (by omega)
theorem drs_up {g : Nat → Int} {k : Nat} {x y z : Int} (h : drs g k) (hx : 0 ≤ x ∧ x < g 0) (hy : 0 ≤ y ∧ y ≤ 5000) (hz : 300 ≤ z ∧ z ≤ 5100) : drs (up3 g (57 + 3 * k) x y z) (k + 1) := fun i hi => by
  have e0 : up3 g (57 + 3 * k) x y z 0 = g 0 := up3_n (by omega)
  rw [e0]
  by_cases e : i = k
  · subst e
    rw [up3_0, show 58 + 3 * i = 57 + 3 * i + 1 by omega, up3_1, show 59 + 3 * i = 57 + 3 * i + 2 by omega, up3_2]
    exact ⟨hx, hy, hz⟩
  · rw [up3_n (by omega), up3_n (by omega), up3_n (by omega)]
    exact h i (by omega)
theorem drB_cg {g g1 : Nat → Int} (h : drB g) (e : ∀ j, j < 9 → g1 j = g j) : drB g1 := by
  unfold drB
  rw [e 0 (by decide), e 1 (by decide), e 2 (by decide), e 3 (by decide), e 4 (by decide), e 5 (by decide), e 6 (by decide), e 7 (by decide), e 8 (by decide)]
  exact h
theorem drb_cg {g g1 : Nat → Int} {a : Nat} (h : drb g a) (e : ∀ j, 9 ≤ j → j < 9 + 4 * a → g1 j = g j) : drb g1 a := fun k hk => by
  rw [e _ (by omega) (by omega), e _ (by omega) (by omega), e _ (by omega) (by omega)]; exact h k hk
theorem drl_cg {g g1 : Nat → Int} {a : Nat} (h : drl g a) (e : ∀ j, 33 ≤ j → j < 33 + 3 * a → g1 j = g j) : drl g1 a := ⟨fun k hk => by
  rw [e _ (by omega) (by omega), e _ (by omega) (by omega), e _ (by omega) (by omega)]; exact h.1 k hk, fun k hk => by rw [e _ (by omega) (by omega), e _ (by omega) (by omega)]; exact h.2 k hk⟩
theorem owO_up {G : kG} {g : Nat → Int} {a : Nat} {x y z : Int} (ha : 9 ≤ a) : owO G g = owO G (up3 g a x y z) := by
  unfold owO
  rw [up3_n (by omega), up3_n (by omega), up3_n (by omega), up3_n (by omega), up3_n (by omega), up3_n (by omega), up3_n (by omega), up3_n (by omega), up3_n (by omega)]
def drG (g : Nat → Int) : Prop := Inv g ∧ 1 ≤ g 0 ∧ -10799 ≤ g 4 ∧ g 1 ≤ 4 ∧ g 2 ≤ 5
def drF (a b d e f h i j k : Int) : Nat → Int := fun q => ([a, b, d, e, f, h, i, j, k] : List Int).getD q 0
def drPo (G : kG) (w : Nat → va_E) : Option Value → (Nat → va_E) → va_W → Prop := fun v w1 fl1 => some (.ref (kad G 134)) = v ∧ ∃ g : Nat → Int, drG g ∧ owR G w1 fl1 g ∧ ∀ j, (j < 134 ∨ 137 < j) → w1 j = w j
set_option maxRecDepth 100000 in
set_option maxHeartbeats 8000000 in
theorem dr_body {p : Program} {l : Launch} {e : Env} {R : Room} {s : State} {m : MethodId} {args : Array Value} {below : List Frame} {meth : Method} {c : Code} {Q : State → Prop} (hls : l.stackTraces = false) (G : kG) (hM : 138 ≤ kN G) (hL9 : kL G ≤ 260) (w : Nat → va_E) (fl : va_W) (fr : Int) (hfr : 0 ≤ fr ∧ fr ≤ 100) (h134 : w 134 = .inr (12, [vI 0, vI 0, vI 0, vI 0, vI 0, vI 0, vI 0, vI 0, vI 0, .ref (kad G 135), .ref (kad G 136), .ref (kad G 137)])) (h135 : w 135 = rA G 6 6 (fun _ => none)) (h136 : w 136 = rA G 6 8 (fun _ => none)) (h137 : w 137 = rA G 6 12 (fun _ => none)) (hC : kC p l R s m args meth c cL_drawn RL 7 G 2 19 83) (hr : meth.sig.returnType = some ((FieldType.object "SightReducerLaw$Own"))) (hQ : MQ below (kQ G (drPo G w)) args s 19 83 (kA G) = Q) :
    KW p l e R s m args below meth c 7 G Q w fl 4 38 7 [(0, .ref (kb G)), (1, vI fr)] [.ref (kad G 134)] := by
  have hN : 133 ≤ kN G := by omega
  refine k_astore_n hC [(2, .ref (kad G 134)), (0, .ref (kb G)), (1, vI fr)] dL_drawn_7 rfl (by decide) rfl ?_
  refine k_aload_n hC dL_drawn_8 rfl 1 rfl ?_
  refine k_iload_n hC dL_drawn_9 rfl 2 rfl ?_
  refine k_callS hC (c_L_cell l hls G hN w fl fr hL9 (by omega)) yy_L_cell wm_L_23 rfl rfl (Nat.le_of_ble_eq_true rfl) (by decide) (by decide) ⟨by decide, by decide⟩ dL_drawn_10 (fun v1 w1 fl1 hp1 => ?_)
  obtain ⟨r1, hr1, q1, q2, q3⟩ := hp1
  subst q1
  subst q2
  subst q3
  show KW p l e R s m args below meth c 7 G Q w fl 4 38 13 [(2, .ref (kad G 134)), (0, .ref (kb G)), (1, vI fr)] [vI r1]
  refine k_topI (fun v9 ev9 => ?_)
  refine k_istore_n hC [(3, vI v9), (2, .ref (kad G 134)), (0, .ref (kb G)), (1, vI fr)] dL_drawn_13 rfl (by decide) rfl ?_
  refine k_aload_n hC dL_drawn_14 rfl 1 rfl ?_
  refine k_iload_n hC dL_drawn_15 rfl 0 rfl ?_
  refine k_sipush hC dL_drawn_16 (by decide) ?_
  refine k_callS hC (c_L_most l hls G hN w fl v9 7201 (by omega)) yy_L_most wm_L_27 rfl rfl (Nat.le_of_ble_eq_true rfl) (by decide) (by decide) ⟨by decide, by decide⟩ dL_drawn_19 (fun v2 w2 fl2 hp2 => ?_)
  obtain ⟨r2, hr2, hs2, q1, q2, q3⟩ := hp2
  subst q1
  subst q2
  subst q3
  show KW p l e R s m args below meth c 7 G Q w fl 4 38 22 [(3, vI v9), (2, .ref (kad G 134)), (0, .ref (kb G)), (1, vI fr)] [vI r2, .ref (kad G 134)]
  refine k_sipush hC dL_drawn_22 (by decide) ?_
  refine k_isub hC dL_drawn_25 ?_
  refine k_putO hC (i := 3) wf_L_31 (by decide) rfl rfl (kl2 hM (by decide)) h134 [vI 0, vI 0, vI 0, vI (r2 - 3600), vI 0, vI 0, vI 0, vI 0, vI 0, .ref (kad G 135), .ref (kad G 136), .ref (kad G 137)] rfl (Nat.le_of_ble_eq_true rfl) rfl rfl dL_drawn_26 (fun w3 hw3 hf3 => ?_)
  refine k_aload_n hC dL_drawn_29 rfl 1 rfl ?_
  refine k_iload_n hC dL_drawn_30 rfl 0 rfl ?_
  refine k_iconst hC dL_drawn_31 ?_
  refine k_ishrA hC dL_drawn_32 (fun y_4 hy_4 => ?_)
  refine k_sipush hC dL_drawn_33 (by decide) ?_
  refine k_callS hC (c_L_most l hls G hN w3 fl y_4 21599 (by omega)) yy_L_most wm_L_27 rfl rfl (Nat.le_of_ble_eq_true rfl) (by decide) (by decide) ⟨by decide, by decide⟩ dL_drawn_36 (fun v5 w5 fl5 hp5 => ?_)
  obtain ⟨r5, hr5, hs5, q1, q2, q3⟩ := hp5
  subst q1
  subst q2
  subst q3
  show KW p l e R s m args below meth c 7 G Q w3 fl 4 38 39 [(3, vI v9), (2, .ref (kad G 134)), (0, .ref (kb G)), (1, vI fr)] [vI r5, .ref (kad G 134)]
  refine k_sipush hC dL_drawn_39 (by decide) ?_
  refine k_isub hC dL_drawn_42 ?_
  refine k_putO hC (i := 4) wf_L_35 (by decide) rfl rfl (kl2 hM (by decide)) hw3 [vI 0, vI 0, vI 0, vI (r2 - 3600), vI (r5 - 10799), vI 0, vI 0, vI 0, vI 0, .ref (kad G 135), .ref (kad G 136), .ref (kad G 137)] rfl (Nat.le_of_ble_eq_true rfl) rfl rfl dL_drawn_43 (fun w6 hw6 hf6 => ?_)
  refine k_aload_n hC dL_drawn_46 rfl 1 rfl ?_
  refine k_iload_n hC dL_drawn_47 rfl 0 rfl ?_
  refine k_bipush hC dL_drawn_48 (by decide) ?_
  refine k_ishrA hC dL_drawn_50 (fun y_7 hy_7 => ?_)
  refine k_bipush hC dL_drawn_51 (by decide) ?_
  refine k_callS hC (c_L_most l hls G hN w6 fl y_7 51 (by omega)) yy_L_most wm_L_27 rfl rfl (Nat.le_of_ble_eq_true rfl) (by decide) (by decide) ⟨by decide, by decide⟩ dL_drawn_53 (fun v8 w8 fl8 hp8 => ?_)
  obtain ⟨r8, hr8, hs8, q1, q2, q3⟩ := hp8
  subst q1
  subst q2
  subst q3
  show KW p l e R s m args below meth c 7 G Q w6 fl 4 38 56 [(3, vI v9), (2, .ref (kad G 134)), (0, .ref (kb G)), (1, vI fr)] [vI r8, .ref (kad G 134)]
  refine k_putO hC (i := 5) wf_L_38 (by decide) rfl rfl (kl2 hM (by decide)) hw6 [vI 0, vI 0, vI 0, vI (r2 - 3600), vI (r5 - 10799), vI r8, vI 0, vI 0, vI 0, .ref (kad G 135), .ref (kad G 136), .ref (kad G 137)] rfl (Nat.le_of_ble_eq_true rfl) rfl rfl dL_drawn_56 (fun w9 hw9 hf9 => ?_)
  refine k_aload_n hC dL_drawn_59 rfl 1 rfl ?_
  refine k_iload_n hC dL_drawn_60 rfl 0 rfl ?_
  refine k_bipush hC dL_drawn_61 (by decide) ?_
  refine k_ishrA hC dL_drawn_63 (fun y_10 hy_10 => ?_)
  refine k_bipush hC dL_drawn_64 (by decide) ?_
  refine k_callS hC (c_L_most l hls G hN w9 fl y_10 121 (by omega)) yy_L_most wm_L_27 rfl rfl (Nat.le_of_ble_eq_true rfl) (by decide) (by decide) ⟨by decide, by decide⟩ dL_drawn_66 (fun v11 w11 fl11 hp11 => ?_)
  obtain ⟨r11, hr11, hs11, q1, q2, q3⟩ := hp11
  subst q1
  subst q2
  subst q3
  show KW p l e R s m args below meth c 7 G Q w9 fl 4 38 69 [(3, vI v9), (2, .ref (kad G 134)), (0, .ref (kb G)), (1, vI fr)] [vI r11, .ref (kad G 134)]
  refine k_bipush hC dL_drawn_69 (by decide) ?_
  refine k_isub hC dL_drawn_71 ?_
  refine k_putO hC (i := 6) wf_L_41 (by decide) rfl rfl (kl2 hM (by decide)) hw9 [vI 0, vI 0, vI 0, vI (r2 - 3600), vI (r5 - 10799), vI r8, vI (r11 - 60), vI 0, vI 0, .ref (kad G 135), .ref (kad G 136), .ref (kad G 137)] rfl (Nat.le_of_ble_eq_true rfl) rfl rfl dL_drawn_72 (fun w12 hw12 hf12 => ?_)
  refine k_iload_n hC dL_drawn_75 rfl 0 rfl ?_
  refine k_bipush hC dL_drawn_76 (by decide) ?_
  refine k_ishrA hC dL_drawn_78 (fun y_13 hy_13 => ?_)
  refine k_iconst hC dL_drawn_79 ?_
  refine k_callS hC (c_L_most l hls G hN w12 fl y_13 2 (by omega)) yy_L_most wm_L_27 rfl rfl (Nat.le_of_ble_eq_true rfl) (by decide) (by decide) ⟨by decide, by decide⟩ dL_drawn_80 (fun v14 w14 fl14 hp14 => ?_)
  obtain ⟨r14, hr14, hs14, q1, q2, q3⟩ := hp14
  subst q1
  subst q2
  subst q3
  show KW p l e R s m args below meth c 7 G Q w12 fl 4 38 83 [(3, vI v9), (2, .ref (kad G 134)), (0, .ref (kb G)), (1, vI fr)] [vI r14]
  refine k_if_ne hC 112 dL_drawn_83 rfl (by omega) (fun c_83 => ?_) (fun c_83 => ?_)
  · refine k_aload_n hC dL_drawn_112 rfl 1 rfl ?_
    refine k_iconst hC dL_drawn_113 ?_
    refine k_iload_n hC dL_drawn_114 rfl 0 rfl ?_
    refine k_bipush hC dL_drawn_115 (by decide) ?_
    refine k_ishrA hC dL_drawn_117 (fun y_15 hy_15 => ?_)
    refine k_bipush hC dL_drawn_118 (by decide) ?_
    refine k_callS hC (c_L_most l hls G hN w12 fl y_15 6 (by omega)) yy_L_most wm_L_27 rfl rfl (Nat.le_of_ble_eq_true rfl) (by decide) (by decide) ⟨by decide, by decide⟩ dL_drawn_120 (fun v16 w16 fl16 hp16 => ?_)
    obtain ⟨r16, hr16, hs16, q1, q2, q3⟩ := hp16
    subst q1
    subst q2
    subst q3
    show KW p l e R s m args below meth c 7 G Q w12 fl 4 38 123 [(3, vI v9), (2, .ref (kad G 134)), (0, .ref (kb G)), (1, vI fr)] [vI r16, vI 1, .ref (kad G 134)]
    refine k_iadd hC dL_drawn_123 ?_
    refine k_putO hC (i := 0) wf_L_50 (by decide) rfl rfl (kl2 hM (by decide)) hw12 [vI (1 + r16), vI 0, vI 0, vI (r2 - 3600), vI (r5 - 10799), vI r8, vI (r11 - 60), vI 0, vI 0, .ref (kad G 135), .ref (kad G 136), .ref (kad G 137)] rfl (Nat.le_of_ble_eq_true rfl) rfl rfl dL_drawn_124 (fun w17 hw17 hf17 => ?_)
    refine k_iconst hC dL_drawn_127 ?_
    refine k_istore hC [(4, vI 0), (3, vI v9), (2, .ref (kad G 134)), (0, .ref (kb G)), (1, vI fr)] dL_drawn_128 (by decide) rfl ?_
    have loop1 : ∀ (n1 : Nat) (k : Nat) (F : Nat → Option Nat) (g : Nat → Int) (flx : va_W) (u1 : Nat → va_E), (6 < n1 + k) → ((k : Int) ≤ g 0) → (k ≤ 6) → (drB g) → (drb g k) → (trI G flx F (k : Int) g 9 4) → (g 1 = 0) → (g 2 = 0) → (u1 134 = .inr (12, [vI (g 0), vI (g 1), vI (g 2), vI (g 3), vI (g 4), vI (g 5), vI (g 6), vI (g 7), vI (g 8), .ref (kad G 135), .ref (kad G 136), .ref (kad G 137)])) → (u1 135 = rA G 6 6 F) → (u1 136 = rA G 6 8 (fun _ => none)) → (u1 137 = rA G 6 12 (fun _ => none)) → ((∀ j, (j < 134 ∨ 137 < j) → u1 j = w j)) → KW p l e R s m args below meth c 7 G Q u1 flx (4 + k) (38 + 3 * k) 130 [(4, vI (k : Int)), (3, vI v9), (2, .ref (kad G 134)), (0, .ref (kb G)), (1, vI fr)] [] := by
      intro n1
      induction n1 with
      | zero =>
        intro k F g flx u1 hn_1 hk hk6 hB hb hT h1z h2z h4x h5x h6x h7x hfr1
        exact absurd hn_1 (by omega)
      | succ n1 ih1 =>
        intro k F g flx u1 hn_1 hk hk6 hB hb hT h1z h2z h4x h5x h6x h7x hfr1
        obtain ⟨a0, a1, a2, a3, a4, a5, a6, a7, a8⟩ := hB
        have hB : drB g := ⟨a0, a1, a2, a3, a4, a5, a6, a7, a8⟩
        refine k_iload hC dL_drawn_130 0 rfl ?_
        refine k_aload_n hC dL_drawn_132 rfl 2 rfl ?_
        refine k_getN hC fd_L_50 (kl2 hM (by decide)) h4x rfl dL_drawn_133 ?_
        refine k_icmp_ge hC 209 dL_drawn_136 rfl (by omega) (by omega) (fun c_136 => ?_) (fun c_136 => ?_)
        · refine k_aload_n hC dL_drawn_209 rfl 2 rfl ?_
          refine k_iload_n hC dL_drawn_210 rfl 1 rfl ?_
          refine k_bipush hC dL_drawn_211 (by decide) ?_
          refine k_ishrA hC dL_drawn_213 (fun y_18 hy_18 => ?_)
          refine k_iconst hC dL_drawn_214 ?_
          refine k_callS hC (c_L_most l hls G hN u1 flx y_18 5 (by omega)) yy_L_most wm_L_27 rfl rfl (Nat.le_of_ble_eq_true rfl) (by decide) (by decide) ⟨by omega, by omega⟩ dL_drawn_215 (fun v19 w19 fl19 hp19 => ?_)
          obtain ⟨r19, hr19, hs19, q1, q2, q3⟩ := hp19
          subst q1
          subst q2
          subst q3
          show KW p l e R s m args below meth c 7 G Q u1 flx (4 + k) (38 + 3 * k) 218 [(4, vI (k : Int)), (3, vI v9), (2, .ref (kad G 134)), (0, .ref (kb G)), (1, vI fr)] [vI r19, .ref (kad G 134)]
          refine k_putO hC (i := 1) wf_L_57 (by decide) rfl rfl (kl2 hM (by decide)) h4x [vI (g 0), vI r19, vI (g 2), vI (g 3), vI (g 4), vI (g 5), vI (g 6), vI (g 7), vI (g 8), .ref (kad G 135), .ref (kad G 136), .ref (kad G 137)] rfl (Nat.le_of_ble_eq_true rfl) rfl rfl dL_drawn_218 (fun w20 hw20 hf20 => ?_)
          refine k_iconst hC dL_drawn_221 ?_
          refine k_istore hC [(4, vI 0), (3, vI v9), (2, .ref (kad G 134)), (0, .ref (kb G)), (1, vI fr)] dL_drawn_222 (by decide) rfl ?_
          refine k_iconst hC dL_drawn_224 ?_
          refine k_istore hC [(5, vI 0), (4, vI 0), (3, vI v9), (2, .ref (kad G 134)), (0, .ref (kb G)), (1, vI fr)] dL_drawn_225 (by decide) rfl ?_
          refine k_wid (c1 := 10) (s1 := 56) ⟨by omega, by omega⟩ ?_
          have hgk : (g 0).toNat = k := by omega
          have loop2 : ∀ (n2 : Nat) (k2 : Nat) (F2 : Nat → Option Nat) (g2 : Nat → Int) (fly : va_W) (at2 : Int) (u2 : Nat → va_E), (4 < n2 + k2) → ((k2 : Int) ≤ g2 1) → (k2 ≤ 4) → (drB g2) → (drb g2 (g2 0).toNat) → (drl g2 k2) → (trI G fly F (g2 0) g2 9 4) → (trI G fly F2 (k2 : Int) g2 33 3) → (g2 2 = 0) → (0 ≤ at2 ∧ at2 ≤ 300 * (k2 : Int)) → (∀ j, j + 1 = k2 → g2 (33 + 3 * j) = at2) → (u2 134 = .inr (12, [vI (g2 0), vI (g2 1), vI (g2 2), vI (g2 3), vI (g2 4), vI (g2 5), vI (g2 6), vI (g2 7), vI (g2 8), .ref (kad G 135), .ref (kad G 136), .ref (kad G 137)])) → (u2 135 = rA G 6 6 F) → (u2 136 = rA G 6 8 F2) → (u2 137 = rA G 6 12 (fun _ => none)) → ((∀ j, (j < 134 ∨ 137 < j) → u2 j = w j)) → KW p l e R s m args below meth c 7 G Q u2 fly (10 + k2) (56 + 3 * k2) 227 [(5, vI (k2 : Int)), (4, vI at2), (3, vI v9), (2, .ref (kad G 134)), (0, .ref (kb G)), (1, vI fr)] [] := by
            intro n2
            induction n2 with
            | zero =>
              intro k2 F2 g2 fly at2 u2 hn_2 hk2 hk26 hB2 hb2 hl2 hT5 hT2 h2y hat hat2 h4y h5y h6y h7y hfr2
              exact absurd hn_2 (by omega)
            | succ n2 ih2 =>
              intro k2 F2 g2 fly at2 u2 hn_2 hk2 hk26 hB2 hb2 hl2 hT5 hT2 h2y hat hat2 h4y h5y h6y h7y hfr2
              obtain ⟨b0, b1, b2, b3, b4, b5, b6, b7, b8⟩ := hB2
              have hB2 : drB g2 := ⟨b0, b1, b2, b3, b4, b5, b6, b7, b8⟩
              refine k_iload hC dL_drawn_227 0 rfl ?_
              refine k_aload_n hC dL_drawn_229 rfl 3 rfl ?_
              refine k_getN hC fd_L_57 (kl2 hM (by decide)) h4y rfl dL_drawn_230 ?_
              refine k_icmp_ge hC 320 dL_drawn_233 rfl (by omega) (by omega) (fun c_233 => ?_) (fun c_233 => ?_)
              · refine k_aload_n hC dL_drawn_320 rfl 3 rfl ?_
                refine k_iload_n hC dL_drawn_321 rfl 2 rfl ?_
                refine k_bipush hC dL_drawn_322 (by decide) ?_
                refine k_ishrA hC dL_drawn_324 (fun y_21 hy_21 => ?_)
                refine k_bipush hC dL_drawn_325 (by decide) ?_
                refine k_callS hC (c_L_most l hls G hN u2 fly y_21 6 (by omega)) yy_L_most wm_L_27 rfl rfl (Nat.le_of_ble_eq_true rfl) (by decide) (by decide) ⟨by omega, by omega⟩ dL_drawn_327 (fun v22 w22 fl22 hp22 => ?_)
                obtain ⟨r22, hr22, hs22, q1, q2, q3⟩ := hp22
                subst q1
                subst q2
                subst q3
                show KW p l e R s m args below meth c 7 G Q u2 fly (10 + k2) (56 + 3 * k2) 330 [(5, vI (k2 : Int)), (4, vI at2), (3, vI v9), (2, .ref (kad G 134)), (0, .ref (kb G)), (1, vI fr)] [vI r22, .ref (kad G 134)]
                refine k_putO hC (i := 2) wf_L_63 (by decide) rfl rfl (kl2 hM (by decide)) h4y [vI (g2 0), vI (g2 1), vI r22, vI (g2 3), vI (g2 4), vI (g2 5), vI (g2 6), vI (g2 7), vI (g2 8), .ref (kad G 135), .ref (kad G 136), .ref (kad G 137)] rfl (Nat.le_of_ble_eq_true rfl) rfl rfl dL_drawn_330 (fun w23 hw23 hf23 => ?_)
                refine k_iconst hC dL_drawn_333 ?_
                refine k_istore hC [(5, vI 0), (4, vI at2), (3, vI v9), (2, .ref (kad G 134)), (0, .ref (kb G)), (1, vI fr)] dL_drawn_334 (by decide) rfl ?_
                refine k_wid (c1 := 14) (s1 := 68) ⟨by omega, by omega⟩ ?_
                have hgk2 : (g2 1).toNat = k2 := by omega
                have loop3 : ∀ (n3 : Nat) (k3 : Nat) (F3 : Nat → Option Nat) (g3 : Nat → Int) (flz : va_W) (u3 : Nat → va_E), (5 < n3 + k3) → ((k3 : Int) ≤ g3 2) → (k3 ≤ 5) → (drB g3) → (drb g3 (g3 0).toNat) → (drl g3 (g3 1).toNat) → (drs g3 k3) → (trI G flz F (g3 0) g3 9 4) → (trI G flz F2 (g3 1) g3 33 3) → (trI G flz F3 (k3 : Int) g3 57 3) → (u3 134 = .inr (12, [vI (g3 0), vI (g3 1), vI (g3 2), vI (g3 3), vI (g3 4), vI (g3 5), vI (g3 6), vI (g3 7), vI (g3 8), .ref (kad G 135), .ref (kad G 136), .ref (kad G 137)])) → (u3 135 = rA G 6 6 F) → (u3 136 = rA G 6 8 F2) → (u3 137 = rA G 6 12 F3) → ((∀ j, (j < 134 ∨ 137 < j) → u3 j = w j)) → KW p l e R s m args below meth c 7 G Q u3 flz (14 + k3) (68 + 3 * k3) 336 [(5, vI (k3 : Int)), (3, vI v9), (2, .ref (kad G 134)), (0, .ref (kb G)), (1, vI fr)] [] := by
                  intro n3
                  induction n3 with
                  | zero =>
                    intro k3 F3 g3 flz u3 hn_3 hk3 hk36 hB3 hb3 hl3 hs3 hT5z hT6z hT3 h4z h5z h6z h7z hfr3
                    exact absurd hn_3 (by omega)
                  | succ n3 ih3 =>
                    intro k3 F3 g3 flz u3 hn_3 hk3 hk36 hB3 hb3 hl3 hs3 hT5z hT6z hT3 h4z h5z h6z h7z hfr3
                    obtain ⟨d0, d1, d2, d3, d4, d5, d6, d7, d8⟩ := hB3
                    have hB3 : drB g3 := ⟨d0, d1, d2, d3, d4, d5, d6, d7, d8⟩
                    refine k_iload hC dL_drawn_336 0 rfl ?_
                    refine k_aload_n hC dL_drawn_338 rfl 2 rfl ?_
                    refine k_getN hC fd_L_63 (kl2 hM (by decide)) h4z rfl dL_drawn_339 ?_
                    refine k_icmp_ge hC 382 dL_drawn_342 rfl (by omega) (by omega) (fun c_342 => ?_) (fun c_342 => ?_)
                    · refine k_aload_n hC dL_drawn_382 rfl 2 rfl ?_
                      refine k_wid (c1 := 19) (s1 := 83) ⟨by omega, by omega⟩ ?_
                      have hgk3 : (g3 2).toNat = k3 := by omega
                      subst hQ
                      exact k_aret hC hr (Or.inl ⟨_, rfl⟩) (Or.inr ⟨_, rfl⟩) ⟨by decide, by decide⟩ (⟨rfl, g3, ⟨dr_inv hB3 hb3 hl3 (by rw [hgk3]; exact hs3), by omega, by omega, by omega, by omega⟩, ⟨h4z, ⟨F, h5z, hT5z⟩, ⟨F2, h6z, hT6z⟩, F3, h7z, by rw [show g3 2 = (k3 : Int) by omega]; exact hT3⟩, fun j hj => hfr3 j (by omega)⟩) dL_drawn_383
                    · refine k_aload_n hC dL_drawn_345 rfl 2 rfl ?_
                      refine k_getN hC fd_L_66 (kl2 hM (by decide)) h4z rfl dL_drawn_346 ?_
                      refine k_iload hC dL_drawn_349 0 rfl ?_
                      refine k_aload_n hC dL_drawn_351 rfl 2 rfl ?_
                      refine k_aload_n hC dL_drawn_352 rfl 3 rfl ?_
                      refine k_iload_n hC dL_drawn_353 rfl 4 rfl ?_
                      refine k_bipush hC dL_drawn_354 (by decide) ?_
                      refine k_iadd hC dL_drawn_356 ?_
                      refine k_iload hC dL_drawn_357 0 rfl ?_
                      refine k_iconst hC dL_drawn_359 ?_
                      refine k_irem hC dL_drawn_360 (by omega) (by omega) ?_
                      refine k_topv (vI ((k3 : Int) % 3)) (congrArg vI (Int.tmod_eq_emod_of_nonneg (by omega))) ?_
                      refine k_iadd hC dL_drawn_361 ?_
                      refine k_callS hC (c_L_cell l hls G hN u3 flz ((fr + 11) + ((k3 : Int) % 3)) hL9 (by omega)) yy_L_cell wm_L_23 rfl rfl (Nat.le_of_ble_eq_true rfl) (by decide) (by decide) ⟨by omega, by omega⟩ dL_drawn_362 (fun v24 w24 fl24 hp24 => ?_)
                      obtain ⟨r24, hr24, q1, q2, q3⟩ := hp24
                      subst q1
                      subst q2
                      subst q3
                      show KW p l e R s m args below meth c 7 G Q u3 flz (14 + k3) (68 + 3 * k3) 365 [(5, vI (k3 : Int)), (3, vI v9), (2, .ref (kad G 134)), (0, .ref (kb G)), (1, vI fr)] [vI r24, .ref (kad G 134), vI (k3 : Int), .ref (kad G 137)]
                      refine k_iload hC dL_drawn_365 0 rfl ?_
                      refine k_iconst hC dL_drawn_367 ?_
                      refine k_idiv hC dL_drawn_368 (by omega) (by omega) ?_
                      refine k_iconst hC dL_drawn_369 ?_
                      refine k_imul hC dL_drawn_370 ?_
                      refine k_ishrA hC dL_drawn_371 (fun y_25 hy_25 => ?_)
                      refine k_callS hC (c_L_sight l hls G hM u3 flz y_25 g3 (by omega) h4z) yy_L_sight wm_L_69 rfl rfl (Nat.le_of_ble_eq_true rfl) (by decide) (by decide) ⟨by omega, by omega⟩ dL_drawn_372 (fun v26 w26 fl26 hp26 => ?_)
                      obtain ⟨q26, f26, q1, q2, q3, hv26⟩ := hp26
                      subst q1
                      subst q2
                      subst q3
                      show KW p l e R s m args below meth c 7 G Q u3 (flz ++ [(q26, iA G 3 f26)]) (14 + k3 + 1) (68 + 3 * k3 + 3) 375 [(5, vI (k3 : Int)), (3, vI v9), (2, .ref (kad G 134)), (0, .ref (kb G)), (1, vI fr)] [.ref q26, vI (k3 : Int), .ref (kad G 137)]
                      refine k_aastA hC flz.length (kl2 hM (by decide)) h7z (by rw [List.getElem?_append_right (Nat.le_refl _), Nat.sub_self]; rfl) (by omega) (by decide) dL_drawn_375 (fun w27 hw27 hf27 => ?_)
                      refine k_iinc hC (y := (k3 : Int) + 1) [(5, vI ((k3 : Int) + 1)), (3, vI v9), (2, .ref (kad G 134)), (0, .ref (kb G)), (1, vI fr)] (j := 0) dL_drawn_376 rfl (by omega) (by decide) rfl ?_
                      refine k_goto hC 336 dL_drawn_379 rfl ?_
                      refine k_wid (c1 := 14 + (k3 + 1)) (s1 := 68 + 3 * (k3 + 1)) ⟨by omega, by omega⟩ ?_
                      refine k_lvs (ls := [0, 1, 2, 3, 4]) [(5, vI ((k3 + 1 : Nat) : Int)), (3, vI v9), (2, .ref (kad G 134)), (0, .ref (kb G)), (1, vI fr)] (by simp only [lv_pick]; rfl) ?_
                      have h_28 : w27 134 = .inr (12, [vI (g3 0), vI (g3 1), vI (g3 2), vI (g3 3), vI (g3 4), vI (g3 5), vI (g3 6), vI (g3 7), vI (g3 8), .ref (kad G 135), .ref (kad G 136), .ref (kad G 137)]) := (hf27 134 (by decide)).trans h4z
                      have h_29 : w27 135 = rA G 6 6 F := (hf27 135 (by decide)).trans h5z
                      have h_30 : w27 136 = rA G 6 8 F2 := (hf27 136 (by decide)).trans h6z
                      exact ih3 (k3 + 1) (va_up F3 k3 (some q26)) (up3 g3 (57 + 3 * k3) (f26 0) (f26 1) (f26 2)) (flz ++ [(q26, iA G 3 f26)]) w27 (by omega) (by rw [up3_n (by omega)]; omega) (by omega) (drB_cg hB3 (fun j hj => up3_n (by omega))) (by rw [up3_n (by omega)]; exact drb_cg hb3 (fun j q1 q2 => up3_n (by omega))) (by rw [up3_n (by omega)]; exact drl_cg hl3 (fun j q1 q2 => up3_n (by omega))) (drs_up hs3 (by omega) (by omega) (by omega)) (by rw [up3_n (by omega)]; exact trI_cg hT5z.ap (fun i hi => ⟨up3_n (by omega), up3_n (by omega), up3_n (by omega)⟩)) (by rw [up3_n (by omega)]; exact trI_cg hT6z.ap (fun i hi => ⟨up3_n (by omega), up3_n (by omega), up3_n (by omega)⟩)) (trI_up hT3 q26 f26 (by decide)) (h_28.trans (owO_up (by omega))) h_29 h_30 hw27 (fun j hj => (hf27 j (by omega)).trans (hfr3 j (by omega)))
                refine k_lvs (ls := [0, 2, 3, 4, 5]) [(5, vI 0), (3, vI v9), (2, .ref (kad G 134)), (0, .ref (kb G)), (1, vI fr)] rfl ?_
                refine k_lvs (ls := [0, 1, 2, 3, 4]) [(5, vI ((0 : Nat) : Int)), (3, vI v9), (2, .ref (kad G 134)), (0, .ref (kb G)), (1, vI fr)] (by simp only [lv_pick]; rfl) ?_
                have h_31 : w23 135 = rA G 6 6 F := (hf23 135 (by decide)).trans h5y
                have h_32 : w23 136 = rA G 6 8 F2 := (hf23 136 (by decide)).trans h6y
                have h_33 : w23 137 = rA G 6 12 (fun _ => none) := (hf23 137 (by decide)).trans h7y
                exact loop3 6 0 (fun _ => none) (kup g2 2 r22) fly w23 (by omega) (show (0 : Int) ≤ r22 by omega) (by omega) (show drB (kup g2 2 r22) from ⟨b0, b1, (show 0 ≤ r22 ∧ r22 ≤ 5 by omega), b3, b4, b5, b6, b7, b8⟩) (show drb (kup g2 2 r22) (g2 0).toNat from drb_cg hb2 (fun j q1 q2 => kup_n (by omega))) (show drl (kup g2 2 r22) (g2 1).toNat from drl_cg (by rw [hgk2]; exact hl2) (fun j q1 q2 => kup_n (by omega))) (fun i hi => absurd hi (by omega)) (show trI G fly F (g2 0) (kup g2 2 r22) 9 4 from trI_cg hT5 (fun i hi => ⟨kup_n (by omega), kup_n (by omega), kup_n (by omega)⟩)) (show trI G fly F2 (g2 1) (kup g2 2 r22) 33 3 from trI_cg (by rw [show g2 1 = (k2 : Int) by omega]; exact hT2) (fun i hi => ⟨kup_n (by omega), kup_n (by omega), kup_n (by omega)⟩)) (trI_0 (by omega)) hw23 h_31 h_32 h_33 (fun j hj => (hf23 j (by omega)).trans (hfr2 j (by omega)))
              · refine k_aload_n hC dL_drawn_236 rfl 4 rfl ?_
                refine k_iload_n hC dL_drawn_237 rfl 5 rfl ?_
                refine k_bipush hC dL_drawn_238 (by decide) ?_
                refine k_iadd hC dL_drawn_240 ?_
                refine k_iload hC dL_drawn_241 0 rfl ?_
                refine k_iadd hC dL_drawn_243 ?_
                refine k_callS hC (c_L_cell l hls G hN u2 fly ((fr + 7) + (k2 : Int)) hL9 (by omega)) yy_L_cell wm_L_23 rfl rfl (Nat.le_of_ble_eq_true rfl) (by decide) (by decide) ⟨by omega, by omega⟩ dL_drawn_244 (fun v34 w34 fl34 hp34 => ?_)
                obtain ⟨r34, hr34, q1, q2, q3⟩ := hp34
                subst q1
                subst q2
                subst q3
                show KW p l e R s m args below meth c 7 G Q u2 fly (10 + k2) (56 + 3 * k2) 247 [(5, vI (k2 : Int)), (4, vI at2), (3, vI v9), (2, .ref (kad G 134)), (0, .ref (kb G)), (1, vI fr)] [vI r34]
                refine k_topI (fun u9 eu9 => ?_)
                refine k_istore hC [(6, vI u9), (5, vI (k2 : Int)), (4, vI at2), (3, vI v9), (2, .ref (kad G 134)), (0, .ref (kb G)), (1, vI fr)] dL_drawn_247 (by decide) rfl ?_
                refine k_iload hC dL_drawn_249 2 rfl ?_
                refine k_iload hC dL_drawn_251 0 rfl ?_
                refine k_sipush hC dL_drawn_253 (by decide) ?_
                refine k_callS hC (c_L_most l hls G hN u2 fly u9 300 (by omega)) yy_L_most wm_L_27 rfl rfl (Nat.le_of_ble_eq_true rfl) (by decide) (by decide) ⟨by omega, by omega⟩ dL_drawn_256 (fun v35 w35 fl35 hp35 => ?_)
                obtain ⟨r35, hr35, hs35, q1, q2, q3⟩ := hp35
                subst q1
                subst q2
                subst q3
                show KW p l e R s m args below meth c 7 G Q u2 fly (10 + k2) (56 + 3 * k2) 259 [(6, vI u9), (5, vI (k2 : Int)), (4, vI at2), (3, vI v9), (2, .ref (kad G 134)), (0, .ref (kb G)), (1, vI fr)] [vI r35, vI at2]
                refine k_iload hC dL_drawn_259 1 rfl ?_
                refine k_if_le hC 268 dL_drawn_261 rfl (by omega) (fun c_261 => ?_) (fun c_261 => ?_)
                · refine k_iconst hC dL_drawn_268 ?_
                  refine k_iadd hC dL_drawn_269 ?_
                  refine k_iadd hC dL_drawn_270 ?_
                  refine k_topI (fun at9 eat9 => ?_)
                  refine k_istore hC [(4, vI at9), (6, vI u9), (5, vI (k2 : Int)), (3, vI v9), (2, .ref (kad G 134)), (0, .ref (kb G)), (1, vI fr)] dL_drawn_271 (by decide) rfl ?_
                  refine k_aload_n hC dL_drawn_273 rfl 4 rfl ?_
                  refine k_getN hC fd_L_60 (kl2 hM (by decide)) h4y rfl dL_drawn_274 ?_
                  refine k_iload hC dL_drawn_277 2 rfl ?_
                  refine k_iconst hC dL_drawn_279 ?_
                  refine k_newi hC (n := 3) rfl (by decide) ⟨by omega, by omega⟩ dL_drawn_280 (fun x_36 => ?_)
                  show KW p l e R s m args below meth c 7 G Q u2 (fly ++ [(x_36, iA G 3 (fun _ => 0))]) (10 + k2 + 1) (56 + 3 * k2 + 3) 282 [(4, vI at9), (6, vI u9), (5, vI (k2 : Int)), (3, vI v9), (2, .ref (kad G 134)), (0, .ref (kb G)), (1, vI fr)] [.ref x_36, vI (k2 : Int), .ref (kad G 136)]
                  refine k_dup hC dL_drawn_282 rfl ?_
                  refine k_iconst hC dL_drawn_283 ?_
                  refine k_iload hC dL_drawn_284 0 rfl ?_
                  refine k_iastL hC (n := 3) (f := (fun _ => 0)) 0 rfl [(x_36, iA G 3 (kup (fun _ => 0) 0 at9))] rfl (by decide) (by decide) dL_drawn_286 ?_
                  refine k_dup hC dL_drawn_287 rfl ?_
                  refine k_iconst hC dL_drawn_288 ?_
                  refine k_iload hC dL_drawn_289 1 rfl ?_
                  refine k_iconst hC dL_drawn_291 ?_
                  refine k_ishrA hC dL_drawn_292 (fun y_37 hy_37 => ?_)
                  refine k_sipush hC dL_drawn_293 (by decide) ?_
                  refine k_callS hC (c_L_most l hls G hN u2 (fly ++ [(x_36, iA G 3 (kup (fun _ => 0) 0 at9))]) y_37 21600 (by omega)) yy_L_most wm_L_27 rfl rfl (Nat.le_of_ble_eq_true rfl) (by decide) (by decide) ⟨by omega, by omega⟩ dL_drawn_296 (fun v38 w38 fl38 hp38 => ?_)
                  obtain ⟨r38, hr38, hs38, q1, q2, q3⟩ := hp38
                  subst q1
                  subst q2
                  subst q3
                  show KW p l e R s m args below meth c 7 G Q u2 (fly ++ [(x_36, iA G 3 (kup (fun _ => 0) 0 at9))]) (10 + k2 + 1) (56 + 3 * k2 + 3) 299 [(4, vI at9), (6, vI u9), (5, vI (k2 : Int)), (3, vI v9), (2, .ref (kad G 134)), (0, .ref (kb G)), (1, vI fr)] [vI r38, vI 1, .ref x_36, .ref x_36, vI (k2 : Int), .ref (kad G 136)]
                  refine k_iastL hC (n := 3) (f := (kup (fun _ => 0) 0 at9)) 0 rfl [(x_36, iA G 3 (kup (kup (fun _ => 0) 0 at9) 1 r38))] rfl (by decide) (by decide) dL_drawn_299 ?_
                  refine k_dup hC dL_drawn_300 rfl ?_
                  refine k_iconst hC dL_drawn_301 ?_
                  refine k_iload hC dL_drawn_302 1 rfl ?_
                  refine k_iconst hC dL_drawn_304 ?_
                  refine k_ishrA hC dL_drawn_305 (fun y_39 hy_39 => ?_)
                  refine k_sipush hC dL_drawn_306 (by decide) ?_
                  refine k_callS hC (c_L_most l hls G hN u2 (fly ++ [(x_36, iA G 3 (kup (kup (fun _ => 0) 0 at9) 1 r38))]) y_39 401 (by omega)) yy_L_most wm_L_27 rfl rfl (Nat.le_of_ble_eq_true rfl) (by decide) (by decide) ⟨by omega, by omega⟩ dL_drawn_309 (fun v40 w40 fl40 hp40 => ?_)
                  obtain ⟨r40, hr40, hs40, q1, q2, q3⟩ := hp40
                  subst q1
                  subst q2
                  subst q3
                  show KW p l e R s m args below meth c 7 G Q u2 (fly ++ [(x_36, iA G 3 (kup (kup (fun _ => 0) 0 at9) 1 r38))]) (10 + k2 + 1) (56 + 3 * k2 + 3) 312 [(4, vI at9), (6, vI u9), (5, vI (k2 : Int)), (3, vI v9), (2, .ref (kad G 134)), (0, .ref (kb G)), (1, vI fr)] [vI r40, vI 2, .ref x_36, .ref x_36, vI (k2 : Int), .ref (kad G 136)]
                  refine k_iastL hC (n := 3) (f := (kup (kup (fun _ => 0) 0 at9) 1 r38)) 0 rfl [(x_36, iA G 3 (kup (kup (kup (fun _ => 0) 0 at9) 1 r38) 2 r40))] rfl (by decide) (by decide) dL_drawn_312 ?_
                  refine k_aastA hC fly.length (kl2 hM (by decide)) h6y (by rw [List.getElem?_append_right (Nat.le_refl _), Nat.sub_self]; rfl) (by omega) (by decide) dL_drawn_313 (fun w41 hw41 hf41 => ?_)
                  refine k_iinc hC (y := (k2 : Int) + 1) [(5, vI ((k2 : Int) + 1)), (4, vI at9), (6, vI u9), (3, vI v9), (2, .ref (kad G 134)), (0, .ref (kb G)), (1, vI fr)] (j := 2) dL_drawn_314 rfl (by omega) (by decide) rfl ?_
                  refine k_goto hC 227 dL_drawn_317 rfl ?_
                  refine k_wid (c1 := 10 + (k2 + 1)) (s1 := 56 + 3 * (k2 + 1)) ⟨by omega, by omega⟩ ?_
                  refine k_lvs (ls := [0, 1, 3, 4, 5, 6]) [(5, vI ((k2 : Int) + 1)), (4, vI at9), (3, vI v9), (2, .ref (kad G 134)), (0, .ref (kb G)), (1, vI fr)] rfl ?_
                  refine k_lvs (ls := [0, 1, 2, 3, 4, 5]) [(5, vI ((k2 + 1 : Nat) : Int)), (4, vI at9), (3, vI v9), (2, .ref (kad G 134)), (0, .ref (kb G)), (1, vI fr)] (by simp only [lv_pick]; rfl) ?_
                  have h_42 : w41 134 = .inr (12, [vI (g2 0), vI (g2 1), vI (g2 2), vI (g2 3), vI (g2 4), vI (g2 5), vI (g2 6), vI (g2 7), vI (g2 8), .ref (kad G 135), .ref (kad G 136), .ref (kad G 137)]) := (hf41 134 (by decide)).trans h4y
                  have h_43 : w41 135 = rA G 6 6 F := (hf41 135 (by decide)).trans h5y
                  have h_44 : w41 137 = rA G 6 12 (fun _ => none) := (hf41 137 (by decide)).trans h7y
                  exact ih2 (k2 + 1) (va_up F2 k2 (some x_36)) (up3 g2 (33 + 3 * k2) at9 r38 r40) (fly ++ [(x_36, iA G 3 (kup (kup (kup (fun _ => 0) 0 at9) 1 r38) 2 r40))]) at9 w41 (by omega) (by rw [up3_n (by omega)]; omega) (by omega) (drB_cg hB2 (fun j hj => up3_n (by omega))) (by rw [up3_n (by omega)]; exact drb_cg hb2 (fun j q1 q2 => up3_n (by omega))) (drl_up hl2 (by omega) (by omega) (by omega) (fun j hj => by have := hat2 j hj; omega)) (by rw [up3_n (by omega)]; exact trI_cg hT5.ap (fun i hi => ⟨up3_n (by omega), up3_n (by omega), up3_n (by omega)⟩)) (trI_up hT2 x_36 (kup (kup (kup (fun _ => 0) 0 at9) 1 r38) 2 r40) (by decide)) ((up3_n (by omega)).trans h2y) (by omega) (fun j hj => by rw [show j = k2 by omega]; exact up3_0) (h_42.trans (owO_up (by omega))) h_43 hw41 h_44 (fun j hj => (hf41 j (by omega)).trans (hfr2 j (by omega)))
                · refine k_iconst hC dL_drawn_264 ?_
                  refine k_goto hC 269 dL_drawn_265 rfl ?_
                  refine k_iadd hC dL_drawn_269 ?_
                  refine k_iadd hC dL_drawn_270 ?_
                  refine k_topI (fun at9 eat9 => ?_)
                  refine k_istore hC [(4, vI at9), (6, vI u9), (5, vI (k2 : Int)), (3, vI v9), (2, .ref (kad G 134)), (0, .ref (kb G)), (1, vI fr)] dL_drawn_271 (by decide) rfl ?_
                  refine k_aload_n hC dL_drawn_273 rfl 4 rfl ?_
                  refine k_getN hC fd_L_60 (kl2 hM (by decide)) h4y rfl dL_drawn_274 ?_
                  refine k_iload hC dL_drawn_277 2 rfl ?_
                  refine k_iconst hC dL_drawn_279 ?_
                  refine k_newi hC (n := 3) rfl (by decide) ⟨by omega, by omega⟩ dL_drawn_280 (fun x_45 => ?_)
                  show KW p l e R s m args below meth c 7 G Q u2 (fly ++ [(x_45, iA G 3 (fun _ => 0))]) (10 + k2 + 1) (56 + 3 * k2 + 3) 282 [(4, vI at9), (6, vI u9), (5, vI (k2 : Int)), (3, vI v9), (2, .ref (kad G 134)), (0, .ref (kb G)), (1, vI fr)] [.ref x_45, vI (k2 : Int), .ref (kad G 136)]
                  refine k_dup hC dL_drawn_282 rfl ?_
                  refine k_iconst hC dL_drawn_283 ?_
                  refine k_iload hC dL_drawn_284 0 rfl ?_
                  refine k_iastL hC (n := 3) (f := (fun _ => 0)) 0 rfl [(x_45, iA G 3 (kup (fun _ => 0) 0 at9))] rfl (by decide) (by decide) dL_drawn_286 ?_
                  refine k_dup hC dL_drawn_287 rfl ?_
                  refine k_iconst hC dL_drawn_288 ?_
                  refine k_iload hC dL_drawn_289 1 rfl ?_
                  refine k_iconst hC dL_drawn_291 ?_
                  refine k_ishrA hC dL_drawn_292 (fun y_46 hy_46 => ?_)
                  refine k_sipush hC dL_drawn_293 (by decide) ?_
                  refine k_callS hC (c_L_most l hls G hN u2 (fly ++ [(x_45, iA G 3 (kup (fun _ => 0) 0 at9))]) y_46 21600 (by omega)) yy_L_most wm_L_27 rfl rfl (Nat.le_of_ble_eq_true rfl) (by decide) (by decide) ⟨by omega, by omega⟩ dL_drawn_296 (fun v47 w47 fl47 hp47 => ?_)
                  obtain ⟨r47, hr47, hs47, q1, q2, q3⟩ := hp47
                  subst q1
                  subst q2
                  subst q3
                  show KW p l e R s m args below meth c 7 G Q u2 (fly ++ [(x_45, iA G 3 (kup (fun _ => 0) 0 at9))]) (10 + k2 + 1) (56 + 3 * k2 + 3) 299 [(4, vI at9), (6, vI u9), (5, vI (k2 : Int)), (3, vI v9), (2, .ref (kad G 134)), (0, .ref (kb G)), (1, vI fr)] [vI r47, vI 1, .ref x_45, .ref x_45, vI (k2 : Int), .ref (kad G 136)]
                  refine k_iastL hC (n := 3) (f := (kup (fun _ => 0) 0 at9)) 0 rfl [(x_45, iA G 3 (kup (kup (fun _ => 0) 0 at9) 1 r47))] rfl (by decide) (by decide) dL_drawn_299 ?_
                  refine k_dup hC dL_drawn_300 rfl ?_
                  refine k_iconst hC dL_drawn_301 ?_
                  refine k_iload hC dL_drawn_302 1 rfl ?_
                  refine k_iconst hC dL_drawn_304 ?_
                  refine k_ishrA hC dL_drawn_305 (fun y_48 hy_48 => ?_)
                  refine k_sipush hC dL_drawn_306 (by decide) ?_
                  refine k_callS hC (c_L_most l hls G hN u2 (fly ++ [(x_45, iA G 3 (kup (kup (fun _ => 0) 0 at9) 1 r47))]) y_48 401 (by omega)) yy_L_most wm_L_27 rfl rfl (Nat.le_of_ble_eq_true rfl) (by decide) (by decide) ⟨by omega, by omega⟩ dL_drawn_309 (fun v49 w49 fl49 hp49 => ?_)
                  obtain ⟨r49, hr49, hs49, q1, q2, q3⟩ := hp49
                  subst q1
                  subst q2
                  subst q3
                  show KW p l e R s m args below meth c 7 G Q u2 (fly ++ [(x_45, iA G 3 (kup (kup (fun _ => 0) 0 at9) 1 r47))]) (10 + k2 + 1) (56 + 3 * k2 + 3) 312 [(4, vI at9), (6, vI u9), (5, vI (k2 : Int)), (3, vI v9), (2, .ref (kad G 134)), (0, .ref (kb G)), (1, vI fr)] [vI r49, vI 2, .ref x_45, .ref x_45, vI (k2 : Int), .ref (kad G 136)]
                  refine k_iastL hC (n := 3) (f := (kup (kup (fun _ => 0) 0 at9) 1 r47)) 0 rfl [(x_45, iA G 3 (kup (kup (kup (fun _ => 0) 0 at9) 1 r47) 2 r49))] rfl (by decide) (by decide) dL_drawn_312 ?_
                  refine k_aastA hC fly.length (kl2 hM (by decide)) h6y (by rw [List.getElem?_append_right (Nat.le_refl _), Nat.sub_self]; rfl) (by omega) (by decide) dL_drawn_313 (fun w50 hw50 hf50 => ?_)
                  refine k_iinc hC (y := (k2 : Int) + 1) [(5, vI ((k2 : Int) + 1)), (4, vI at9), (6, vI u9), (3, vI v9), (2, .ref (kad G 134)), (0, .ref (kb G)), (1, vI fr)] (j := 2) dL_drawn_314 rfl (by omega) (by decide) rfl ?_
                  refine k_goto hC 227 dL_drawn_317 rfl ?_
                  refine k_wid (c1 := 10 + (k2 + 1)) (s1 := 56 + 3 * (k2 + 1)) ⟨by omega, by omega⟩ ?_
                  refine k_lvs (ls := [0, 1, 3, 4, 5, 6]) [(5, vI ((k2 : Int) + 1)), (4, vI at9), (3, vI v9), (2, .ref (kad G 134)), (0, .ref (kb G)), (1, vI fr)] rfl ?_
                  refine k_lvs (ls := [0, 1, 2, 3, 4, 5]) [(5, vI ((k2 + 1 : Nat) : Int)), (4, vI at9), (3, vI v9), (2, .ref (kad G 134)), (0, .ref (kb G)), (1, vI fr)] (by simp only [lv_pick]; rfl) ?_
                  have h_51 : w50 134 = .inr (12, [vI (g2 0), vI (g2 1), vI (g2 2), vI (g2 3), vI (g2 4), vI (g2 5), vI (g2 6), vI (g2 7), vI (g2 8), .ref (kad G 135), .ref (kad G 136), .ref (kad G 137)]) := (hf50 134 (by decide)).trans h4y
                  have h_52 : w50 135 = rA G 6 6 F := (hf50 135 (by decide)).trans h5y
                  have h_53 : w50 137 = rA G 6 12 (fun _ => none) := (hf50 137 (by decide)).trans h7y
                  exact ih2 (k2 + 1) (va_up F2 k2 (some x_45)) (up3 g2 (33 + 3 * k2) at9 r47 r49) (fly ++ [(x_45, iA G 3 (kup (kup (kup (fun _ => 0) 0 at9) 1 r47) 2 r49))]) at9 w50 (by omega) (by rw [up3_n (by omega)]; omega) (by omega) (drB_cg hB2 (fun j hj => up3_n (by omega))) (by rw [up3_n (by omega)]; exact drb_cg hb2 (fun j q1 q2 => up3_n (by omega))) (drl_up hl2 (by omega) (by omega) (by omega) (fun j hj => by have := hat2 j hj; omega)) (by rw [up3_n (by omega)]; exact trI_cg hT5.ap (fun i hi => ⟨up3_n (by omega), up3_n (by omega), up3_n (by omega)⟩)) (trI_up hT2 x_45 (kup (kup (kup (fun _ => 0) 0 at9) 1 r47) 2 r49) (by decide)) ((up3_n (by omega)).trans h2y) (by omega) (fun j hj => by rw [show j = k2 by omega]; exact up3_0) (h_51.trans (owO_up (by omega))) h_52 hw50 h_53 (fun j hj => (hf50 j (by omega)).trans (hfr2 j (by omega)))
          refine k_lvs (ls := [0, 1, 2, 3, 4, 5]) [(5, vI ((0 : Nat) : Int)), (4, vI 0), (3, vI v9), (2, .ref (kad G 134)), (0, .ref (kb G)), (1, vI fr)] (by simp only [lv_pick]; rfl) ?_
          have h_54 : w20 135 = rA G 6 6 F := (hf20 135 (by decide)).trans h5x
          have h_55 : w20 136 = rA G 6 8 (fun _ => none) := (hf20 136 (by decide)).trans h6x
          have h_56 : w20 137 = rA G 6 12 (fun _ => none) := (hf20 137 (by decide)).trans h7x
          exact loop2 5 0 (fun _ => none) (kup g 1 r19) flx 0 w20 (by omega) (show (0 : Int) ≤ r19 by omega) (by omega) (show drB (kup g 1 r19) from ⟨a0, (show 0 ≤ r19 ∧ r19 ≤ 4 by omega), a2, a3, a4, a5, a6, a7, a8⟩) (show drb (kup g 1 r19) (g 0).toNat from drb_cg (by rw [hgk]; exact hb) (fun j q1 q2 => kup_n (by omega))) ⟨fun i hi => absurd hi (by omega), fun i hi => absurd hi (by omega)⟩ (show trI G flx F (g 0) (kup g 1 r19) 9 4 from trI_cg (by rw [show g 0 = (k : Int) by omega]; exact hT) (fun i hi => ⟨kup_n (by omega), kup_n (by omega), kup_n (by omega)⟩)) (trI_0 (by omega)) h2z (by omega) (fun j hj => absurd hj (by omega)) hw20 h_54 h_55 h_56 (fun j hj => (hf20 j (by omega)).trans (hfr1 j (by omega)))
        · refine k_aload_n hC dL_drawn_139 rfl 3 rfl ?_
          refine k_iload_n hC dL_drawn_140 rfl 4 rfl ?_
          refine k_iconst hC dL_drawn_141 ?_
          refine k_iadd hC dL_drawn_142 ?_
          refine k_iload hC dL_drawn_143 0 rfl ?_
          refine k_iadd hC dL_drawn_145 ?_
          refine k_callS hC (c_L_cell l hls G hN u1 flx ((fr + 1) + (k : Int)) hL9 (by omega)) yy_L_cell wm_L_23 rfl rfl (Nat.le_of_ble_eq_true rfl) (by decide) (by decide) ⟨by omega, by omega⟩ dL_drawn_146 (fun v57 w57 fl57 hp57 => ?_)
          obtain ⟨r57, hr57, q1, q2, q3⟩ := hp57
          subst q1
          subst q2
          subst q3
          show KW p l e R s m args below meth c 7 G Q u1 flx (4 + k) (38 + 3 * k) 149 [(4, vI (k : Int)), (3, vI v9), (2, .ref (kad G 134)), (0, .ref (kb G)), (1, vI fr)] [vI r57]
          refine k_topI (fun u9 eu9 => ?_)
          refine k_istore hC [(5, vI u9), (4, vI (k : Int)), (3, vI v9), (2, .ref (kad G 134)), (0, .ref (kb G)), (1, vI fr)] dL_drawn_149 (by decide) rfl ?_
          refine k_aload_n hC dL_drawn_151 rfl 3 rfl ?_
          refine k_getN hC fd_L_53 (kl2 hM (by decide)) h4x rfl dL_drawn_152 ?_
          refine k_iload hC dL_drawn_155 1 rfl ?_
          refine k_iconst hC dL_drawn_157 ?_
          refine k_newi hC (n := 3) rfl (by decide) ⟨by omega, by omega⟩ dL_drawn_158 (fun x_58 => ?_)
          show KW p l e R s m args below meth c 7 G Q u1 (flx ++ [(x_58, iA G 3 (fun _ => 0))]) (4 + k + 1) (38 + 3 * k + 3) 160 [(5, vI u9), (4, vI (k : Int)), (3, vI v9), (2, .ref (kad G 134)), (0, .ref (kb G)), (1, vI fr)] [.ref x_58, vI (k : Int), .ref (kad G 135)]
          refine k_dup hC dL_drawn_160 rfl ?_
          refine k_iconst hC dL_drawn_161 ?_
          refine k_iload hC dL_drawn_162 0 rfl ?_
          refine k_sipush hC dL_drawn_164 (by decide) ?_
          refine k_callS hC (c_L_most l hls G hN u1 (flx ++ [(x_58, iA G 3 (fun _ => 0))]) u9 7201 (by omega)) yy_L_most wm_L_27 rfl rfl (Nat.le_of_ble_eq_true rfl) (by decide) (by decide) ⟨by omega, by omega⟩ dL_drawn_167 (fun v59 w59 fl59 hp59 => ?_)
          obtain ⟨r59, hr59, hs59, q1, q2, q3⟩ := hp59
          subst q1
          subst q2
          subst q3
          show KW p l e R s m args below meth c 7 G Q u1 (flx ++ [(x_58, iA G 3 (fun _ => 0))]) (4 + k + 1) (38 + 3 * k + 3) 170 [(5, vI u9), (4, vI (k : Int)), (3, vI v9), (2, .ref (kad G 134)), (0, .ref (kb G)), (1, vI fr)] [vI r59, vI 0, .ref x_58, .ref x_58, vI (k : Int), .ref (kad G 135)]
          refine k_sipush hC dL_drawn_170 (by decide) ?_
          refine k_isub hC dL_drawn_173 ?_
          refine k_iastL hC (n := 3) (f := (fun _ => 0)) 0 rfl [(x_58, iA G 3 (kup (fun _ => 0) 0 (r59 - 3600)))] rfl (by decide) (by decide) dL_drawn_174 ?_
          refine k_dup hC dL_drawn_175 rfl ?_
          refine k_iconst hC dL_drawn_176 ?_
          refine k_iload hC dL_drawn_177 0 rfl ?_
          refine k_iconst hC dL_drawn_179 ?_
          refine k_ishrA hC dL_drawn_180 (fun y_60 hy_60 => ?_)
          refine k_sipush hC dL_drawn_181 (by decide) ?_
          refine k_callS hC (c_L_most l hls G hN u1 (flx ++ [(x_58, iA G 3 (kup (fun _ => 0) 0 (r59 - 3600)))]) y_60 21600 (by omega)) yy_L_most wm_L_27 rfl rfl (Nat.le_of_ble_eq_true rfl) (by decide) (by decide) ⟨by omega, by omega⟩ dL_drawn_184 (fun v61 w61 fl61 hp61 => ?_)
          obtain ⟨r61, hr61, hs61, q1, q2, q3⟩ := hp61
          subst q1
          subst q2
          subst q3
          show KW p l e R s m args below meth c 7 G Q u1 (flx ++ [(x_58, iA G 3 (kup (fun _ => 0) 0 (r59 - 3600)))]) (4 + k + 1) (38 + 3 * k + 3) 187 [(5, vI u9), (4, vI (k : Int)), (3, vI v9), (2, .ref (kad G 134)), (0, .ref (kb G)), (1, vI fr)] [vI r61, vI 1, .ref x_58, .ref x_58, vI (k : Int), .ref (kad G 135)]
          refine k_iastL hC (n := 3) (f := (kup (fun _ => 0) 0 (r59 - 3600))) 0 rfl [(x_58, iA G 3 (kup (kup (fun _ => 0) 0 (r59 - 3600)) 1 r61))] rfl (by decide) (by decide) dL_drawn_187 ?_
          refine k_dup hC dL_drawn_188 rfl ?_
          refine k_iconst hC dL_drawn_189 ?_
          refine k_iconst hC dL_drawn_190 ?_
          refine k_iload hC dL_drawn_191 0 rfl ?_
          refine k_iconst hC dL_drawn_193 ?_
          refine k_ishrA hC dL_drawn_194 (fun y_62 hy_62 => ?_)
          refine k_bipush hC dL_drawn_195 (by decide) ?_
          refine k_callS hC (c_L_most l hls G hN u1 (flx ++ [(x_58, iA G 3 (kup (kup (fun _ => 0) 0 (r59 - 3600)) 1 r61))]) y_62 7 (by omega)) yy_L_most wm_L_27 rfl rfl (Nat.le_of_ble_eq_true rfl) (by decide) (by decide) ⟨by omega, by omega⟩ dL_drawn_197 (fun v63 w63 fl63 hp63 => ?_)
          obtain ⟨r63, hr63, hs63, q1, q2, q3⟩ := hp63
          subst q1
          subst q2
          subst q3
          show KW p l e R s m args below meth c 7 G Q u1 (flx ++ [(x_58, iA G 3 (kup (kup (fun _ => 0) 0 (r59 - 3600)) 1 r61))]) (4 + k + 1) (38 + 3 * k + 3) 200 [(5, vI u9), (4, vI (k : Int)), (3, vI v9), (2, .ref (kad G 134)), (0, .ref (kb G)), (1, vI fr)] [vI r63, vI 1, vI 2, .ref x_58, .ref x_58, vI (k : Int), .ref (kad G 135)]
          refine k_iadd hC dL_drawn_200 ?_
          refine k_iastL hC (n := 3) (f := (kup (kup (fun _ => 0) 0 (r59 - 3600)) 1 r61)) 0 rfl [(x_58, iA G 3 (kup (kup (kup (fun _ => 0) 0 (r59 - 3600)) 1 r61) 2 (1 + r63)))] rfl (by decide) (by decide) dL_drawn_201 ?_
          refine k_aastA hC flx.length (kl2 hM (by decide)) h5x (by rw [List.getElem?_append_right (Nat.le_refl _), Nat.sub_self]; rfl) (by omega) (by decide) dL_drawn_202 (fun w64 hw64 hf64 => ?_)
          refine k_iinc hC (y := (k : Int) + 1) [(4, vI ((k : Int) + 1)), (5, vI u9), (3, vI v9), (2, .ref (kad G 134)), (0, .ref (kb G)), (1, vI fr)] (j := 1) dL_drawn_203 rfl (by omega) (by decide) rfl ?_
          refine k_goto hC 130 dL_drawn_206 rfl ?_
          refine k_wid (c1 := 4 + (k + 1)) (s1 := 38 + 3 * (k + 1)) ⟨by omega, by omega⟩ ?_
          refine k_lvs (ls := [0, 2, 3, 4, 5]) [(4, vI ((k : Int) + 1)), (3, vI v9), (2, .ref (kad G 134)), (0, .ref (kb G)), (1, vI fr)] rfl ?_
          refine k_lvs (ls := [0, 1, 2, 3, 4]) [(4, vI ((k + 1 : Nat) : Int)), (3, vI v9), (2, .ref (kad G 134)), (0, .ref (kb G)), (1, vI fr)] (by simp only [lv_pick]; rfl) ?_
          have h_65 : w64 134 = .inr (12, [vI (g 0), vI (g 1), vI (g 2), vI (g 3), vI (g 4), vI (g 5), vI (g 6), vI (g 7), vI (g 8), .ref (kad G 135), .ref (kad G 136), .ref (kad G 137)]) := (hf64 134 (by decide)).trans h4x
          have h_66 : w64 136 = rA G 6 8 (fun _ => none) := (hf64 136 (by decide)).trans h6x
          have h_67 : w64 137 = rA G 6 12 (fun _ => none) := (hf64 137 (by decide)).trans h7x
          exact ih1 (k + 1) (va_up F k (some x_58)) (up3 g (9 + 4 * k) (r59 - 3600) r61 (1 + r63)) (flx ++ [(x_58, iA G 3 (kup (kup (kup (fun _ => 0) 0 (r59 - 3600)) 1 r61) 2 (1 + r63)))]) w64 (by omega) (by rw [up3_n (by omega)]; omega) (by omega) (drB_cg hB (fun j hj => up3_n (by omega))) (drb_up hb (by omega) (by omega) (by omega)) (trI_up hT x_58 (kup (kup (kup (fun _ => 0) 0 (r59 - 3600)) 1 r61) 2 (1 + r63)) (by decide)) ((up3_n (by omega)).trans h1z) ((up3_n (by omega)).trans h2z) (h_65.trans (owO_up (by omega))) hw64 h_66 h_67 (fun j hj => (hf64 j (by omega)).trans (hfr1 j (by omega)))
    refine k_lvs (ls := [0, 1, 2, 3, 4]) [(4, vI ((0 : Nat) : Int)), (3, vI v9), (2, .ref (kad G 134)), (0, .ref (kb G)), (1, vI fr)] (by simp only [lv_pick]; rfl) ?_
    have h_68 : w17 135 = rA G 6 6 (fun _ => none) := (hf17 135 (by decide)).trans ((hf12 135 (by decide)).trans ((hf9 135 (by decide)).trans ((hf6 135 (by decide)).trans ((hf3 135 (by decide)).trans h135))))
    have h_69 : w17 136 = rA G 6 8 (fun _ => none) := (hf17 136 (by decide)).trans ((hf12 136 (by decide)).trans ((hf9 136 (by decide)).trans ((hf6 136 (by decide)).trans ((hf3 136 (by decide)).trans h136))))
    have h_70 : w17 137 = rA G 6 12 (fun _ => none) := (hf17 137 (by decide)).trans ((hf12 137 (by decide)).trans ((hf9 137 (by decide)).trans ((hf6 137 (by decide)).trans ((hf3 137 (by decide)).trans h137))))
    exact loop1 7 0 (fun _ => none) (drF (1 + r16) 0 0 (r2 - 3600) (r5 - 10799) r8 (r11 - 60) 0 0) fl w17 (by omega) (show (0 : Int) ≤ 1 + r16 by omega) (by omega) (show drB (drF (1 + r16) 0 0 (r2 - 3600) (r5 - 10799) r8 (r11 - 60) 0 0) from ⟨(show 1 ≤ 1 + r16 ∧ 1 + r16 ≤ 6 by omega), (show 0 ≤ 0 ∧ 0 ≤ 4 by omega), (show 0 ≤ 0 ∧ 0 ≤ 5 by omega), (show -3600 ≤ r2 - 3600 ∧ r2 - 3600 ≤ 3600 by omega), (show -10799 ≤ r5 - 10799 ∧ r5 - 10799 ≤ 10799 by omega), (show 0 ≤ r8 ∧ r8 ≤ 50 by omega), (show -60 ≤ r11 - 60 ∧ r11 - 60 ≤ 60 by omega), (show 0 ≤ 0 ∧ 0 ≤ 21599 by omega), (show 0 ≤ 0 ∧ 0 ≤ 100 by omega)⟩) (fun i hi => absurd hi (by omega)) (trI_0 (by omega)) rfl rfl hw17 h_68 h_69 h_70 (fun j hj => (hf17 j (by omega)).trans ((hf12 j (by omega)).trans ((hf9 j (by omega)).trans ((hf6 j (by omega)).trans (hf3 j (by omega))))))
  · refine k_aload_n hC dL_drawn_86 rfl 1 rfl ?_
    refine k_iload_n hC dL_drawn_87 rfl 0 rfl ?_
    refine k_iconst hC dL_drawn_88 ?_
    refine k_ishrA hC dL_drawn_89 (fun y_71 hy_71 => ?_)
    refine k_sipush hC dL_drawn_90 (by decide) ?_
    refine k_callS hC (c_L_most l hls G hN w12 fl y_71 21600 (by omega)) yy_L_most wm_L_27 rfl rfl (Nat.le_of_ble_eq_true rfl) (by decide) (by decide) ⟨by decide, by decide⟩ dL_drawn_93 (fun v72 w72 fl72 hp72 => ?_)
    obtain ⟨r72, hr72, hs72, q1, q2, q3⟩ := hp72
    subst q1
    subst q2
    subst q3
    show KW p l e R s m args below meth c 7 G Q w12 fl 4 38 96 [(3, vI v9), (2, .ref (kad G 134)), (0, .ref (kb G)), (1, vI fr)] [vI r72, .ref (kad G 134)]
    refine k_putO hC (i := 7) wf_L_44 (by decide) rfl rfl (kl2 hM (by decide)) hw12 [vI 0, vI 0, vI 0, vI (r2 - 3600), vI (r5 - 10799), vI r8, vI (r11 - 60), vI r72, vI 0, .ref (kad G 135), .ref (kad G 136), .ref (kad G 137)] rfl (Nat.le_of_ble_eq_true rfl) rfl rfl dL_drawn_96 (fun w73 hw73 hf73 => ?_)
    refine k_aload_n hC dL_drawn_99 rfl 1 rfl ?_
    refine k_iload_n hC dL_drawn_100 rfl 0 rfl ?_
    refine k_bipush hC dL_drawn_101 (by decide) ?_
    refine k_ishrA hC dL_drawn_103 (fun y_74 hy_74 => ?_)
    refine k_bipush hC dL_drawn_104 (by decide) ?_
    refine k_callS hC (c_L_most l hls G hN w73 fl y_74 101 (by omega)) yy_L_most wm_L_27 rfl rfl (Nat.le_of_ble_eq_true rfl) (by decide) (by decide) ⟨by decide, by decide⟩ dL_drawn_106 (fun v75 w75 fl75 hp75 => ?_)
    obtain ⟨r75, hr75, hs75, q1, q2, q3⟩ := hp75
    subst q1
    subst q2
    subst q3
    show KW p l e R s m args below meth c 7 G Q w73 fl 4 38 109 [(3, vI v9), (2, .ref (kad G 134)), (0, .ref (kb G)), (1, vI fr)] [vI r75, .ref (kad G 134)]
    refine k_putO hC (i := 8) wf_L_47 (by decide) rfl rfl (kl2 hM (by decide)) hw73 [vI 0, vI 0, vI 0, vI (r2 - 3600), vI (r5 - 10799), vI r8, vI (r11 - 60), vI r72, vI r75, .ref (kad G 135), .ref (kad G 136), .ref (kad G 137)] rfl (Nat.le_of_ble_eq_true rfl) rfl rfl dL_drawn_109 (fun w76 hw76 hf76 => ?_)
    refine k_aload_n hC dL_drawn_112 rfl 1 rfl ?_
    refine k_iconst hC dL_drawn_113 ?_
    refine k_iload_n hC dL_drawn_114 rfl 0 rfl ?_
    refine k_bipush hC dL_drawn_115 (by decide) ?_
    refine k_ishrA hC dL_drawn_117 (fun y_77 hy_77 => ?_)
    refine k_bipush hC dL_drawn_118 (by decide) ?_
    refine k_callS hC (c_L_most l hls G hN w76 fl y_77 6 (by omega)) yy_L_most wm_L_27 rfl rfl (Nat.le_of_ble_eq_true rfl) (by decide) (by decide) ⟨by decide, by decide⟩ dL_drawn_120 (fun v78 w78 fl78 hp78 => ?_)
    obtain ⟨r78, hr78, hs78, q1, q2, q3⟩ := hp78
    subst q1
    subst q2
    subst q3
    show KW p l e R s m args below meth c 7 G Q w76 fl 4 38 123 [(3, vI v9), (2, .ref (kad G 134)), (0, .ref (kb G)), (1, vI fr)] [vI r78, vI 1, .ref (kad G 134)]
    refine k_iadd hC dL_drawn_123 ?_
    refine k_putO hC (i := 0) wf_L_50 (by decide) rfl rfl (kl2 hM (by decide)) hw76 [vI (1 + r78), vI 0, vI 0, vI (r2 - 3600), vI (r5 - 10799), vI r8, vI (r11 - 60), vI r72, vI r75, .ref (kad G 135), .ref (kad G 136), .ref (kad G 137)] rfl (Nat.le_of_ble_eq_true rfl) rfl rfl dL_drawn_124 (fun w79 hw79 hf79 => ?_)
    refine k_iconst hC dL_drawn_127 ?_
    refine k_istore hC [(4, vI 0), (3, vI v9), (2, .ref (kad G 134)), (0, .ref (kb G)), (1, vI fr)] dL_drawn_128 (by decide) rfl ?_
    have loop1 : ∀ (n1 : Nat) (k : Nat) (F : Nat → Option Nat) (g : Nat → Int) (flx : va_W) (u1 : Nat → va_E), (6 < n1 + k) → ((k : Int) ≤ g 0) → (k ≤ 6) → (drB g) → (drb g k) → (trI G flx F (k : Int) g 9 4) → (g 1 = 0) → (g 2 = 0) → (u1 134 = .inr (12, [vI (g 0), vI (g 1), vI (g 2), vI (g 3), vI (g 4), vI (g 5), vI (g 6), vI (g 7), vI (g 8), .ref (kad G 135), .ref (kad G 136), .ref (kad G 137)])) → (u1 135 = rA G 6 6 F) → (u1 136 = rA G 6 8 (fun _ => none)) → (u1 137 = rA G 6 12 (fun _ => none)) → ((∀ j, (j < 134 ∨ 137 < j) → u1 j = w j)) → KW p l e R s m args below meth c 7 G Q u1 flx (4 + k) (38 + 3 * k) 130 [(4, vI (k : Int)), (3, vI v9), (2, .ref (kad G 134)), (0, .ref (kb G)), (1, vI fr)] [] := by
      intro n1
      induction n1 with
      | zero =>
        intro k F g flx u1 hn_1 hk hk6 hB hb hT h1z h2z h4x h5x h6x h7x hfr1
        exact absurd hn_1 (by omega)
      | succ n1 ih1 =>
        intro k F g flx u1 hn_1 hk hk6 hB hb hT h1z h2z h4x h5x h6x h7x hfr1
        obtain ⟨a0, a1, a2, a3, a4, a5, a6, a7, a8⟩ := hB
        have hB : drB g := ⟨a0, a1, a2, a3, a4, a5, a6, a7, a8⟩
        refine k_iload hC dL_drawn_130 0 rfl ?_
        refine k_aload_n hC dL_drawn_132 rfl 2 rfl ?_
        refine k_getN hC fd_L_50 (kl2 hM (by decide)) h4x rfl dL_drawn_133 ?_
        refine k_icmp_ge hC 209 dL_drawn_136 rfl (by omega) (by omega) (fun c_136 => ?_) (fun c_136 => ?_)
        · refine k_aload_n hC dL_drawn_209 rfl 2 rfl ?_
          refine k_iload_n hC dL_drawn_210 rfl 1 rfl ?_
          refine k_bipush hC dL_drawn_211 (by decide) ?_
          refine k_ishrA hC dL_drawn_213 (fun y_80 hy_80 => ?_)
          refine k_iconst hC dL_drawn_214 ?_
          refine k_callS hC (c_L_most l hls G hN u1 flx y_80 5 (by omega)) yy_L_most wm_L_27 rfl rfl (Nat.le_of_ble_eq_true rfl) (by decide) (by decide) ⟨by omega, by omega⟩ dL_drawn_215 (fun v81 w81 fl81 hp81 => ?_)
          obtain ⟨r81, hr81, hs81, q1, q2, q3⟩ := hp81
          subst q1
          subst q2
          subst q3
          show KW p l e R s m args below meth c 7 G Q u1 flx (4 + k) (38 + 3 * k) 218 [(4, vI (k : Int)), (3, vI v9), (2, .ref (kad G 134)), (0, .ref (kb G)), (1, vI fr)] [vI r81, .ref (kad G 134)]
          refine k_putO hC (i := 1) wf_L_57 (by decide) rfl rfl (kl2 hM (by decide)) h4x [vI (g 0), vI r81, vI (g 2), vI (g 3), vI (g 4), vI (g 5), vI (g 6), vI (g 7), vI (g 8), .ref (kad G 135), .ref (kad G 136), .ref (kad G 137)] rfl (Nat.le_of_ble_eq_true rfl) rfl rfl dL_drawn_218 (fun w82 hw82 hf82 => ?_)
          refine k_iconst hC dL_drawn_221 ?_
          refine k_istore hC [(4, vI 0), (3, vI v9), (2, .ref (kad G 134)), (0, .ref (kb G)), (1, vI fr)] dL_drawn_222 (by decide) rfl ?_
          refine k_iconst hC dL_drawn_224 ?_
          refine k_istore hC [(5, vI 0), (4, vI 0), (3, vI v9), (2, .ref (kad G 134)), (0, .ref (kb G)), (1, vI fr)] dL_drawn_225 (by decide) rfl ?_
          refine k_wid (c1 := 10) (s1 := 56) ⟨by omega, by omega⟩ ?_
          have hgk : (g 0).toNat = k := by omega
          have loop2 : ∀ (n2 : Nat) (k2 : Nat) (F2 : Nat → Option Nat) (g2 : Nat → Int) (fly : va_W) (at2 : Int) (u2 : Nat → va_E), (4 < n2 + k2) → ((k2 : Int) ≤ g2 1) → (k2 ≤ 4) → (drB g2) → (drb g2 (g2 0).toNat) → (drl g2 k2) → (trI G fly F (g2 0) g2 9 4) → (trI G fly F2 (k2 : Int) g2 33 3) → (g2 2 = 0) → (0 ≤ at2 ∧ at2 ≤ 300 * (k2 : Int)) → (∀ j, j + 1 = k2 → g2 (33 + 3 * j) = at2) → (u2 134 = .inr (12, [vI (g2 0), vI (g2 1), vI (g2 2), vI (g2 3), vI (g2 4), vI (g2 5), vI (g2 6), vI (g2 7), vI (g2 8), .ref (kad G 135), .ref (kad G 136), .ref (kad G 137)])) → (u2 135 = rA G 6 6 F) → (u2 136 = rA G 6 8 F2) → (u2 137 = rA G 6 12 (fun _ => none)) → ((∀ j, (j < 134 ∨ 137 < j) → u2 j = w j)) → KW p l e R s m args below meth c 7 G Q u2 fly (10 + k2) (56 + 3 * k2) 227 [(5, vI (k2 : Int)), (4, vI at2), (3, vI v9), (2, .ref (kad G 134)), (0, .ref (kb G)), (1, vI fr)] [] := by
            intro n2
            induction n2 with
            | zero =>
              intro k2 F2 g2 fly at2 u2 hn_2 hk2 hk26 hB2 hb2 hl2 hT5 hT2 h2y hat hat2 h4y h5y h6y h7y hfr2
              exact absurd hn_2 (by omega)
            | succ n2 ih2 =>
              intro k2 F2 g2 fly at2 u2 hn_2 hk2 hk26 hB2 hb2 hl2 hT5 hT2 h2y hat hat2 h4y h5y h6y h7y hfr2
              obtain ⟨b0, b1, b2, b3, b4, b5, b6, b7, b8⟩ := hB2
              have hB2 : drB g2 := ⟨b0, b1, b2, b3, b4, b5, b6, b7, b8⟩
              refine k_iload hC dL_drawn_227 0 rfl ?_
              refine k_aload_n hC dL_drawn_229 rfl 3 rfl ?_
              refine k_getN hC fd_L_57 (kl2 hM (by decide)) h4y rfl dL_drawn_230 ?_
              refine k_icmp_ge hC 320 dL_drawn_233 rfl (by omega) (by omega) (fun c_233 => ?_) (fun c_233 => ?_)
              · refine k_aload_n hC dL_drawn_320 rfl 3 rfl ?_
                refine k_iload_n hC dL_drawn_321 rfl 2 rfl ?_
                refine k_bipush hC dL_drawn_322 (by decide) ?_
                refine k_ishrA hC dL_drawn_324 (fun y_83 hy_83 => ?_)
                refine k_bipush hC dL_drawn_325 (by decide) ?_
                refine k_callS hC (c_L_most l hls G hN u2 fly y_83 6 (by omega)) yy_L_most wm_L_27 rfl rfl (Nat.le_of_ble_eq_true rfl) (by decide) (by decide) ⟨by omega, by omega⟩ dL_drawn_327 (fun v84 w84 fl84 hp84 => ?_)
                obtain ⟨r84, hr84, hs84, q1, q2, q3⟩ := hp84
                subst q1
                subst q2
                subst q3
                show KW p l e R s m args below meth c 7 G Q u2 fly (10 + k2) (56 + 3 * k2) 330 [(5, vI (k2 : Int)), (4, vI at2), (3, vI v9), (2, .ref (kad G 134)), (0, .ref (kb G)), (1, vI fr)] [vI r84, .ref (kad G 134)]
                refine k_putO hC (i := 2) wf_L_63 (by decide) rfl rfl (kl2 hM (by decide)) h4y [vI (g2 0), vI (g2 1), vI r84, vI (g2 3), vI (g2 4), vI (g2 5), vI (g2 6), vI (g2 7), vI (g2 8), .ref (kad G 135), .ref (kad G 136), .ref (kad G 137)] rfl (Nat.le_of_ble_eq_true rfl) rfl rfl dL_drawn_330 (fun w85 hw85 hf85 => ?_)
                refine k_iconst hC dL_drawn_333 ?_
                refine k_istore hC [(5, vI 0), (4, vI at2), (3, vI v9), (2, .ref (kad G 134)), (0, .ref (kb G)), (1, vI fr)] dL_drawn_334 (by decide) rfl ?_
                refine k_wid (c1 := 14) (s1 := 68) ⟨by omega, by omega⟩ ?_
                have hgk2 : (g2 1).toNat = k2 := by omega
                have loop3 : ∀ (n3 : Nat) (k3 : Nat) (F3 : Nat → Option Nat) (g3 : Nat → Int) (flz : va_W) (u3 : Nat → va_E), (5 < n3 + k3) → ((k3 : Int) ≤ g3 2) → (k3 ≤ 5) → (drB g3) → (drb g3 (g3 0).toNat) → (drl g3 (g3 1).toNat) → (drs g3 k3) → (trI G flz F (g3 0) g3 9 4) → (trI G flz F2 (g3 1) g3 33 3) → (trI G flz F3 (k3 : Int) g3 57 3) → (u3 134 = .inr (12, [vI (g3 0), vI (g3 1), vI (g3 2), vI (g3 3), vI (g3 4), vI (g3 5), vI (g3 6), vI (g3 7), vI (g3 8), .ref (kad G 135), .ref (kad G 136), .ref (kad G 137)])) → (u3 135 = rA G 6 6 F) → (u3 136 = rA G 6 8 F2) → (u3 137 = rA G 6 12 F3) → ((∀ j, (j < 134 ∨ 137 < j) → u3 j = w j)) → KW p l e R s m args below meth c 7 G Q u3 flz (14 + k3) (68 + 3 * k3) 336 [(5, vI (k3 : Int)), (3, vI v9), (2, .ref (kad G 134)), (0, .ref (kb G)), (1, vI fr)] [] := by
                  intro n3
                  induction n3 with
                  | zero =>
                    intro k3 F3 g3 flz u3 hn_3 hk3 hk36 hB3 hb3 hl3 hs3 hT5z hT6z hT3 h4z h5z h6z h7z hfr3
                    exact absurd hn_3 (by omega)
                  | succ n3 ih3 =>
                    intro k3 F3 g3 flz u3 hn_3 hk3 hk36 hB3 hb3 hl3 hs3 hT5z hT6z hT3 h4z h5z h6z h7z hfr3
                    obtain ⟨d0, d1, d2, d3, d4, d5, d6, d7, d8⟩ := hB3
                    have hB3 : drB g3 := ⟨d0, d1, d2, d3, d4, d5, d6, d7, d8⟩
                    refine k_iload hC dL_drawn_336 0 rfl ?_
                    refine k_aload_n hC dL_drawn_338 rfl 2 rfl ?_
                    refine k_getN hC fd_L_63 (kl2 hM (by decide)) h4z rfl dL_drawn_339 ?_
                    refine k_icmp_ge hC 382 dL_drawn_342 rfl (by omega) (by omega) (fun c_342 => ?_) (fun c_342 => ?_)
                    · refine k_aload_n hC dL_drawn_382 rfl 2 rfl ?_
                      refine k_wid (c1 := 19) (s1 := 83) ⟨by omega, by omega⟩ ?_
                      have hgk3 : (g3 2).toNat = k3 := by omega
                      subst hQ
                      exact k_aret hC hr (Or.inl ⟨_, rfl⟩) (Or.inr ⟨_, rfl⟩) ⟨by decide, by decide⟩ (⟨rfl, g3, ⟨dr_inv hB3 hb3 hl3 (by rw [hgk3]; exact hs3), by omega, by omega, by omega, by omega⟩, ⟨h4z, ⟨F, h5z, hT5z⟩, ⟨F2, h6z, hT6z⟩, F3, h7z, by rw [show g3 2 = (k3 : Int) by omega]; exact hT3⟩, fun j hj => hfr3 j (by omega)⟩) dL_drawn_383
                    · refine k_aload_n hC dL_drawn_345 rfl 2 rfl ?_
                      refine k_getN hC fd_L_66 (kl2 hM (by decide)) h4z rfl dL_drawn_346 ?_
                      refine k_iload hC dL_drawn_349 0 rfl ?_
                      refine k_aload_n hC dL_drawn_351 rfl 2 rfl ?_
                      refine k_aload_n hC dL_drawn_352 rfl 3 rfl ?_
                      refine k_iload_n hC dL_drawn_353 rfl 4 rfl ?_
                      refine k_bipush hC dL_drawn_354 (by decide) ?_
                      refine k_iadd hC dL_drawn_356 ?_
                      refine k_iload hC dL_drawn_357 0 rfl ?_
                      refine k_iconst hC dL_drawn_359 ?_
                      refine k_irem hC dL_drawn_360 (by omega) (by omega) ?_
                      refine k_topv (vI ((k3 : Int) % 3)) (congrArg vI (Int.tmod_eq_emod_of_nonneg (by omega))) ?_
                      refine k_iadd hC dL_drawn_361 ?_
                      refine k_callS hC (c_L_cell l hls G hN u3 flz ((fr + 11) + ((k3 : Int) % 3)) hL9 (by omega)) yy_L_cell wm_L_23 rfl rfl (Nat.le_of_ble_eq_true rfl) (by decide) (by decide) ⟨by omega, by omega⟩ dL_drawn_362 (fun v86 w86 fl86 hp86 => ?_)
                      obtain ⟨r86, hr86, q1, q2, q3⟩ := hp86
                      subst q1
                      subst q2
                      subst q3
                      show KW p l e R s m args below meth c 7 G Q u3 flz (14 + k3) (68 + 3 * k3) 365 [(5, vI (k3 : Int)), (3, vI v9), (2, .ref (kad G 134)), (0, .ref (kb G)), (1, vI fr)] [vI r86, .ref (kad G 134), vI (k3 : Int), .ref (kad G 137)]
                      refine k_iload hC dL_drawn_365 0 rfl ?_
                      refine k_iconst hC dL_drawn_367 ?_
                      refine k_idiv hC dL_drawn_368 (by omega) (by omega) ?_
                      refine k_iconst hC dL_drawn_369 ?_
                      refine k_imul hC dL_drawn_370 ?_
                      refine k_ishrA hC dL_drawn_371 (fun y_87 hy_87 => ?_)
                      refine k_callS hC (c_L_sight l hls G hM u3 flz y_87 g3 (by omega) h4z) yy_L_sight wm_L_69 rfl rfl (Nat.le_of_ble_eq_true rfl) (by decide) (by decide) ⟨by omega, by omega⟩ dL_drawn_372 (fun v88 w88 fl88 hp88 => ?_)
                      obtain ⟨q88, f88, q1, q2, q3, hv88⟩ := hp88
                      subst q1
                      subst q2
                      subst q3
                      show KW p l e R s m args below meth c 7 G Q u3 (flz ++ [(q88, iA G 3 f88)]) (14 + k3 + 1) (68 + 3 * k3 + 3) 375 [(5, vI (k3 : Int)), (3, vI v9), (2, .ref (kad G 134)), (0, .ref (kb G)), (1, vI fr)] [.ref q88, vI (k3 : Int), .ref (kad G 137)]
                      refine k_aastA hC flz.length (kl2 hM (by decide)) h7z (by rw [List.getElem?_append_right (Nat.le_refl _), Nat.sub_self]; rfl) (by omega) (by decide) dL_drawn_375 (fun w89 hw89 hf89 => ?_)
                      refine k_iinc hC (y := (k3 : Int) + 1) [(5, vI ((k3 : Int) + 1)), (3, vI v9), (2, .ref (kad G 134)), (0, .ref (kb G)), (1, vI fr)] (j := 0) dL_drawn_376 rfl (by omega) (by decide) rfl ?_
                      refine k_goto hC 336 dL_drawn_379 rfl ?_
                      refine k_wid (c1 := 14 + (k3 + 1)) (s1 := 68 + 3 * (k3 + 1)) ⟨by omega, by omega⟩ ?_
                      refine k_lvs (ls := [0, 1, 2, 3, 4]) [(5, vI ((k3 + 1 : Nat) : Int)), (3, vI v9), (2, .ref (kad G 134)), (0, .ref (kb G)), (1, vI fr)] (by simp only [lv_pick]; rfl) ?_
                      have h_90 : w89 134 = .inr (12, [vI (g3 0), vI (g3 1), vI (g3 2), vI (g3 3), vI (g3 4), vI (g3 5), vI (g3 6), vI (g3 7), vI (g3 8), .ref (kad G 135), .ref (kad G 136), .ref (kad G 137)]) := (hf89 134 (by decide)).trans h4z
                      have h_91 : w89 135 = rA G 6 6 F := (hf89 135 (by decide)).trans h5z
                      have h_92 : w89 136 = rA G 6 8 F2 := (hf89 136 (by decide)).trans h6z
                      exact ih3 (k3 + 1) (va_up F3 k3 (some q88)) (up3 g3 (57 + 3 * k3) (f88 0) (f88 1) (f88 2)) (flz ++ [(q88, iA G 3 f88)]) w89 (by omega) (by rw [up3_n (by omega)]; omega) (by omega) (drB_cg hB3 (fun j hj => up3_n (by omega))) (by rw [up3_n (by omega)]; exact drb_cg hb3 (fun j q1 q2 => up3_n (by omega))) (by rw [up3_n (by omega)]; exact drl_cg hl3 (fun j q1 q2 => up3_n (by omega))) (drs_up hs3 (by omega) (by omega) (by omega)) (by rw [up3_n (by omega)]; exact trI_cg hT5z.ap (fun i hi => ⟨up3_n (by omega), up3_n (by omega), up3_n (by omega)⟩)) (by rw [up3_n (by omega)]; exact trI_cg hT6z.ap (fun i hi => ⟨up3_n (by omega), up3_n (by omega), up3_n (by omega)⟩)) (trI_up hT3 q88 f88 (by decide)) (h_90.trans (owO_up (by omega))) h_91 h_92 hw89 (fun j hj => (hf89 j (by omega)).trans (hfr3 j (by omega)))
                refine k_lvs (ls := [0, 2, 3, 4, 5]) [(5, vI 0), (3, vI v9), (2, .ref (kad G 134)), (0, .ref (kb G)), (1, vI fr)] rfl ?_
                refine k_lvs (ls := [0, 1, 2, 3, 4]) [(5, vI ((0 : Nat) : Int)), (3, vI v9), (2, .ref (kad G 134)), (0, .ref (kb G)), (1, vI fr)] (by simp only [lv_pick]; rfl) ?_
                have h_93 : w85 135 = rA G 6 6 F := (hf85 135 (by decide)).trans h5y
                have h_94 : w85 136 = rA G 6 8 F2 := (hf85 136 (by decide)).trans h6y
                have h_95 : w85 137 = rA G 6 12 (fun _ => none) := (hf85 137 (by decide)).trans h7y
                exact loop3 6 0 (fun _ => none) (kup g2 2 r84) fly w85 (by omega) (show (0 : Int) ≤ r84 by omega) (by omega) (show drB (kup g2 2 r84) from ⟨b0, b1, (show 0 ≤ r84 ∧ r84 ≤ 5 by omega), b3, b4, b5, b6, b7, b8⟩) (show drb (kup g2 2 r84) (g2 0).toNat from drb_cg hb2 (fun j q1 q2 => kup_n (by omega))) (show drl (kup g2 2 r84) (g2 1).toNat from drl_cg (by rw [hgk2]; exact hl2) (fun j q1 q2 => kup_n (by omega))) (fun i hi => absurd hi (by omega)) (show trI G fly F (g2 0) (kup g2 2 r84) 9 4 from trI_cg hT5 (fun i hi => ⟨kup_n (by omega), kup_n (by omega), kup_n (by omega)⟩)) (show trI G fly F2 (g2 1) (kup g2 2 r84) 33 3 from trI_cg (by rw [show g2 1 = (k2 : Int) by omega]; exact hT2) (fun i hi => ⟨kup_n (by omega), kup_n (by omega), kup_n (by omega)⟩)) (trI_0 (by omega)) hw85 h_93 h_94 h_95 (fun j hj => (hf85 j (by omega)).trans (hfr2 j (by omega)))
              · refine k_aload_n hC dL_drawn_236 rfl 4 rfl ?_
                refine k_iload_n hC dL_drawn_237 rfl 5 rfl ?_
                refine k_bipush hC dL_drawn_238 (by decide) ?_
                refine k_iadd hC dL_drawn_240 ?_
                refine k_iload hC dL_drawn_241 0 rfl ?_
                refine k_iadd hC dL_drawn_243 ?_
                refine k_callS hC (c_L_cell l hls G hN u2 fly ((fr + 7) + (k2 : Int)) hL9 (by omega)) yy_L_cell wm_L_23 rfl rfl (Nat.le_of_ble_eq_true rfl) (by decide) (by decide) ⟨by omega, by omega⟩ dL_drawn_244 (fun v96 w96 fl96 hp96 => ?_)
                obtain ⟨r96, hr96, q1, q2, q3⟩ := hp96
                subst q1
                subst q2
                subst q3
                show KW p l e R s m args below meth c 7 G Q u2 fly (10 + k2) (56 + 3 * k2) 247 [(5, vI (k2 : Int)), (4, vI at2), (3, vI v9), (2, .ref (kad G 134)), (0, .ref (kb G)), (1, vI fr)] [vI r96]
                refine k_topI (fun u9 eu9 => ?_)
                refine k_istore hC [(6, vI u9), (5, vI (k2 : Int)), (4, vI at2), (3, vI v9), (2, .ref (kad G 134)), (0, .ref (kb G)), (1, vI fr)] dL_drawn_247 (by decide) rfl ?_
                refine k_iload hC dL_drawn_249 2 rfl ?_
                refine k_iload hC dL_drawn_251 0 rfl ?_
                refine k_sipush hC dL_drawn_253 (by decide) ?_
                refine k_callS hC (c_L_most l hls G hN u2 fly u9 300 (by omega)) yy_L_most wm_L_27 rfl rfl (Nat.le_of_ble_eq_true rfl) (by decide) (by decide) ⟨by omega, by omega⟩ dL_drawn_256 (fun v97 w97 fl97 hp97 => ?_)
                obtain ⟨r97, hr97, hs97, q1, q2, q3⟩ := hp97
                subst q1
                subst q2
                subst q3
                show KW p l e R s m args below meth c 7 G Q u2 fly (10 + k2) (56 + 3 * k2) 259 [(6, vI u9), (5, vI (k2 : Int)), (4, vI at2), (3, vI v9), (2, .ref (kad G 134)), (0, .ref (kb G)), (1, vI fr)] [vI r97, vI at2]
                refine k_iload hC dL_drawn_259 1 rfl ?_
                refine k_if_le hC 268 dL_drawn_261 rfl (by omega) (fun c_261 => ?_) (fun c_261 => ?_)
                · refine k_iconst hC dL_drawn_268 ?_
                  refine k_iadd hC dL_drawn_269 ?_
                  refine k_iadd hC dL_drawn_270 ?_
                  refine k_topI (fun at9 eat9 => ?_)
                  refine k_istore hC [(4, vI at9), (6, vI u9), (5, vI (k2 : Int)), (3, vI v9), (2, .ref (kad G 134)), (0, .ref (kb G)), (1, vI fr)] dL_drawn_271 (by decide) rfl ?_
                  refine k_aload_n hC dL_drawn_273 rfl 4 rfl ?_
                  refine k_getN hC fd_L_60 (kl2 hM (by decide)) h4y rfl dL_drawn_274 ?_
                  refine k_iload hC dL_drawn_277 2 rfl ?_
                  refine k_iconst hC dL_drawn_279 ?_
                  refine k_newi hC (n := 3) rfl (by decide) ⟨by omega, by omega⟩ dL_drawn_280 (fun x_98 => ?_)
                  show KW p l e R s m args below meth c 7 G Q u2 (fly ++ [(x_98, iA G 3 (fun _ => 0))]) (10 + k2 + 1) (56 + 3 * k2 + 3) 282 [(4, vI at9), (6, vI u9), (5, vI (k2 : Int)), (3, vI v9), (2, .ref (kad G 134)), (0, .ref (kb G)), (1, vI fr)] [.ref x_98, vI (k2 : Int), .ref (kad G 136)]
                  refine k_dup hC dL_drawn_282 rfl ?_
                  refine k_iconst hC dL_drawn_283 ?_
                  refine k_iload hC dL_drawn_284 0 rfl ?_
                  refine k_iastL hC (n := 3) (f := (fun _ => 0)) 0 rfl [(x_98, iA G 3 (kup (fun _ => 0) 0 at9))] rfl (by decide) (by decide) dL_drawn_286 ?_
                  refine k_dup hC dL_drawn_287 rfl ?_
                  refine k_iconst hC dL_drawn_288 ?_
                  refine k_iload hC dL_drawn_289 1 rfl ?_
                  refine k_iconst hC dL_drawn_291 ?_
                  refine k_ishrA hC dL_drawn_292 (fun y_99 hy_99 => ?_)
                  refine k_sipush hC dL_drawn_293 (by decide) ?_
                  refine k_callS hC (c_L_most l hls G hN u2 (fly ++ [(x_98, iA G 3 (kup (fun _ => 0) 0 at9))]) y_99 21600 (by omega)) yy_L_most wm_L_27 rfl rfl (Nat.le_of_ble_eq_true rfl) (by decide) (by decide) ⟨by omega, by omega⟩ dL_drawn_296 (fun v100 w100 fl100 hp100 => ?_)
                  obtain ⟨r100, hr100, hs100, q1, q2, q3⟩ := hp100
                  subst q1
                  subst q2
                  subst q3
                  show KW p l e R s m args below meth c 7 G Q u2 (fly ++ [(x_98, iA G 3 (kup (fun _ => 0) 0 at9))]) (10 + k2 + 1) (56 + 3 * k2 + 3) 299 [(4, vI at9), (6, vI u9), (5, vI (k2 : Int)), (3, vI v9), (2, .ref (kad G 134)), (0, .ref (kb G)), (1, vI fr)] [vI r100, vI 1, .ref x_98, .ref x_98, vI (k2 : Int), .ref (kad G 136)]
                  refine k_iastL hC (n := 3) (f := (kup (fun _ => 0) 0 at9)) 0 rfl [(x_98, iA G 3 (kup (kup (fun _ => 0) 0 at9) 1 r100))] rfl (by decide) (by decide) dL_drawn_299 ?_
                  refine k_dup hC dL_drawn_300 rfl ?_
                  refine k_iconst hC dL_drawn_301 ?_
                  refine k_iload hC dL_drawn_302 1 rfl ?_
                  refine k_iconst hC dL_drawn_304 ?_
                  refine k_ishrA hC dL_drawn_305 (fun y_101 hy_101 => ?_)
                  refine k_sipush hC dL_drawn_306 (by decide) ?_
                  refine k_callS hC (c_L_most l hls G hN u2 (fly ++ [(x_98, iA G 3 (kup (kup (fun _ => 0) 0 at9) 1 r100))]) y_101 401 (by omega)) yy_L_most wm_L_27 rfl rfl (Nat.le_of_ble_eq_true rfl) (by decide) (by decide) ⟨by omega, by omega⟩ dL_drawn_309 (fun v102 w102 fl102 hp102 => ?_)
                  obtain ⟨r102, hr102, hs102, q1, q2, q3⟩ := hp102
                  subst q1
                  subst q2
                  subst q3
                  show KW p l e R s m args below meth c 7 G Q u2 (fly ++ [(x_98, iA G 3 (kup (kup (fun _ => 0) 0 at9) 1 r100))]) (10 + k2 + 1) (56 + 3 * k2 + 3) 312 [(4, vI at9), (6, vI u9), (5, vI (k2 : Int)), (3, vI v9), (2, .ref (kad G 134)), (0, .ref (kb G)), (1, vI fr)] [vI r102, vI 2, .ref x_98, .ref x_98, vI (k2 : Int), .ref (kad G 136)]
                  refine k_iastL hC (n := 3) (f := (kup (kup (fun _ => 0) 0 at9) 1 r100)) 0 rfl [(x_98, iA G 3 (kup (kup (kup (fun _ => 0) 0 at9) 1 r100) 2 r102))] rfl (by decide) (by decide) dL_drawn_312 ?_
                  refine k_aastA hC fly.length (kl2 hM (by decide)) h6y (by rw [List.getElem?_append_right (Nat.le_refl _), Nat.sub_self]; rfl) (by omega) (by decide) dL_drawn_313 (fun w103 hw103 hf103 => ?_)
                  refine k_iinc hC (y := (k2 : Int) + 1) [(5, vI ((k2 : Int) + 1)), (4, vI at9), (6, vI u9), (3, vI v9), (2, .ref (kad G 134)), (0, .ref (kb G)), (1, vI fr)] (j := 2) dL_drawn_314 rfl (by omega) (by decide) rfl ?_
                  refine k_goto hC 227 dL_drawn_317 rfl ?_
                  refine k_wid (c1 := 10 + (k2 + 1)) (s1 := 56 + 3 * (k2 + 1)) ⟨by omega, by omega⟩ ?_
                  refine k_lvs (ls := [0, 1, 3, 4, 5, 6]) [(5, vI ((k2 : Int) + 1)), (4, vI at9), (3, vI v9), (2, .ref (kad G 134)), (0, .ref (kb G)), (1, vI fr)] rfl ?_
                  refine k_lvs (ls := [0, 1, 2, 3, 4, 5]) [(5, vI ((k2 + 1 : Nat) : Int)), (4, vI at9), (3, vI v9), (2, .ref (kad G 134)), (0, .ref (kb G)), (1, vI fr)] (by simp only [lv_pick]; rfl) ?_
                  have h_104 : w103 134 = .inr (12, [vI (g2 0), vI (g2 1), vI (g2 2), vI (g2 3), vI (g2 4), vI (g2 5), vI (g2 6), vI (g2 7), vI (g2 8), .ref (kad G 135), .ref (kad G 136), .ref (kad G 137)]) := (hf103 134 (by decide)).trans h4y
                  have h_105 : w103 135 = rA G 6 6 F := (hf103 135 (by decide)).trans h5y
                  have h_106 : w103 137 = rA G 6 12 (fun _ => none) := (hf103 137 (by decide)).trans h7y
                  exact ih2 (k2 + 1) (va_up F2 k2 (some x_98)) (up3 g2 (33 + 3 * k2) at9 r100 r102) (fly ++ [(x_98, iA G 3 (kup (kup (kup (fun _ => 0) 0 at9) 1 r100) 2 r102))]) at9 w103 (by omega) (by rw [up3_n (by omega)]; omega) (by omega) (drB_cg hB2 (fun j hj => up3_n (by omega))) (by rw [up3_n (by omega)]; exact drb_cg hb2 (fun j q1 q2 => up3_n (by omega))) (drl_up hl2 (by omega) (by omega) (by omega) (fun j hj => by have := hat2 j hj; omega)) (by rw [up3_n (by omega)]; exact trI_cg hT5.ap (fun i hi => ⟨up3_n (by omega), up3_n (by omega), up3_n (by omega)⟩)) (trI_up hT2 x_98 (kup (kup (kup (fun _ => 0) 0 at9) 1 r100) 2 r102) (by decide)) ((up3_n (by omega)).trans h2y) (by omega) (fun j hj => by rw [show j = k2 by omega]; exact up3_0) (h_104.trans (owO_up (by omega))) h_105 hw103 h_106 (fun j hj => (hf103 j (by omega)).trans (hfr2 j (by omega)))
                · refine k_iconst hC dL_drawn_264 ?_
                  refine k_goto hC 269 dL_drawn_265 rfl ?_
                  refine k_iadd hC dL_drawn_269 ?_
                  refine k_iadd hC dL_drawn_270 ?_
                  refine k_topI (fun at9 eat9 => ?_)
                  refine k_istore hC [(4, vI at9), (6, vI u9), (5, vI (k2 : Int)), (3, vI v9), (2, .ref (kad G 134)), (0, .ref (kb G)), (1, vI fr)] dL_drawn_271 (by decide) rfl ?_
                  refine k_aload_n hC dL_drawn_273 rfl 4 rfl ?_
                  refine k_getN hC fd_L_60 (kl2 hM (by decide)) h4y rfl dL_drawn_274 ?_
                  refine k_iload hC dL_drawn_277 2 rfl ?_
                  refine k_iconst hC dL_drawn_279 ?_
                  refine k_newi hC (n := 3) rfl (by decide) ⟨by omega, by omega⟩ dL_drawn_280 (fun x_107 => ?_)
                  show KW p l e R s m args below meth c 7 G Q u2 (fly ++ [(x_107, iA G 3 (fun _ => 0))]) (10 + k2 + 1) (56 + 3 * k2 + 3) 282 [(4, vI at9), (6, vI u9), (5, vI (k2 : Int)), (3, vI v9), (2, .ref (kad G 134)), (0, .ref (kb G)), (1, vI fr)] [.ref x_107, vI (k2 : Int), .ref (kad G 136)]
                  refine k_dup hC dL_drawn_282 rfl ?_
                  refine k_iconst hC dL_drawn_283 ?_
                  refine k_iload hC dL_drawn_284 0 rfl ?_
                  refine k_iastL hC (n := 3) (f := (fun _ => 0)) 0 rfl [(x_107, iA G 3 (kup (fun _ => 0) 0 at9))] rfl (by decide) (by decide) dL_drawn_286 ?_
                  refine k_dup hC dL_drawn_287 rfl ?_
                  refine k_iconst hC dL_drawn_288 ?_
                  refine k_iload hC dL_drawn_289 1 rfl ?_
                  refine k_iconst hC dL_drawn_291 ?_
                  refine k_ishrA hC dL_drawn_292 (fun y_108 hy_108 => ?_)
                  refine k_sipush hC dL_drawn_293 (by decide) ?_
                  refine k_callS hC (c_L_most l hls G hN u2 (fly ++ [(x_107, iA G 3 (kup (fun _ => 0) 0 at9))]) y_108 21600 (by omega)) yy_L_most wm_L_27 rfl rfl (Nat.le_of_ble_eq_true rfl) (by decide) (by decide) ⟨by omega, by omega⟩ dL_drawn_296 (fun v109 w109 fl109 hp109 => ?_)
                  obtain ⟨r109, hr109, hs109, q1, q2, q3⟩ := hp109
                  subst q1
                  subst q2
                  subst q3
                  show KW p l e R s m args below meth c 7 G Q u2 (fly ++ [(x_107, iA G 3 (kup (fun _ => 0) 0 at9))]) (10 + k2 + 1) (56 + 3 * k2 + 3) 299 [(4, vI at9), (6, vI u9), (5, vI (k2 : Int)), (3, vI v9), (2, .ref (kad G 134)), (0, .ref (kb G)), (1, vI fr)] [vI r109, vI 1, .ref x_107, .ref x_107, vI (k2 : Int), .ref (kad G 136)]
                  refine k_iastL hC (n := 3) (f := (kup (fun _ => 0) 0 at9)) 0 rfl [(x_107, iA G 3 (kup (kup (fun _ => 0) 0 at9) 1 r109))] rfl (by decide) (by decide) dL_drawn_299 ?_
                  refine k_dup hC dL_drawn_300 rfl ?_
                  refine k_iconst hC dL_drawn_301 ?_
                  refine k_iload hC dL_drawn_302 1 rfl ?_
                  refine k_iconst hC dL_drawn_304 ?_
                  refine k_ishrA hC dL_drawn_305 (fun y_110 hy_110 => ?_)
                  refine k_sipush hC dL_drawn_306 (by decide) ?_
                  refine k_callS hC (c_L_most l hls G hN u2 (fly ++ [(x_107, iA G 3 (kup (kup (fun _ => 0) 0 at9) 1 r109))]) y_110 401 (by omega)) yy_L_most wm_L_27 rfl rfl (Nat.le_of_ble_eq_true rfl) (by decide) (by decide) ⟨by omega, by omega⟩ dL_drawn_309 (fun v111 w111 fl111 hp111 => ?_)
                  obtain ⟨r111, hr111, hs111, q1, q2, q3⟩ := hp111
                  subst q1
                  subst q2
                  subst q3
                  show KW p l e R s m args below meth c 7 G Q u2 (fly ++ [(x_107, iA G 3 (kup (kup (fun _ => 0) 0 at9) 1 r109))]) (10 + k2 + 1) (56 + 3 * k2 + 3) 312 [(4, vI at9), (6, vI u9), (5, vI (k2 : Int)), (3, vI v9), (2, .ref (kad G 134)), (0, .ref (kb G)), (1, vI fr)] [vI r111, vI 2, .ref x_107, .ref x_107, vI (k2 : Int), .ref (kad G 136)]
                  refine k_iastL hC (n := 3) (f := (kup (kup (fun _ => 0) 0 at9) 1 r109)) 0 rfl [(x_107, iA G 3 (kup (kup (kup (fun _ => 0) 0 at9) 1 r109) 2 r111))] rfl (by decide) (by decide) dL_drawn_312 ?_
                  refine k_aastA hC fly.length (kl2 hM (by decide)) h6y (by rw [List.getElem?_append_right (Nat.le_refl _), Nat.sub_self]; rfl) (by omega) (by decide) dL_drawn_313 (fun w112 hw112 hf112 => ?_)
                  refine k_iinc hC (y := (k2 : Int) + 1) [(5, vI ((k2 : Int) + 1)), (4, vI at9), (6, vI u9), (3, vI v9), (2, .ref (kad G 134)), (0, .ref (kb G)), (1, vI fr)] (j := 2) dL_drawn_314 rfl (by omega) (by decide) rfl ?_
                  refine k_goto hC 227 dL_drawn_317 rfl ?_
                  refine k_wid (c1 := 10 + (k2 + 1)) (s1 := 56 + 3 * (k2 + 1)) ⟨by omega, by omega⟩ ?_
                  refine k_lvs (ls := [0, 1, 3, 4, 5, 6]) [(5, vI ((k2 : Int) + 1)), (4, vI at9), (3, vI v9), (2, .ref (kad G 134)), (0, .ref (kb G)), (1, vI fr)] rfl ?_
                  refine k_lvs (ls := [0, 1, 2, 3, 4, 5]) [(5, vI ((k2 + 1 : Nat) : Int)), (4, vI at9), (3, vI v9), (2, .ref (kad G 134)), (0, .ref (kb G)), (1, vI fr)] (by simp only [lv_pick]; rfl) ?_
                  have h_113 : w112 134 = .inr (12, [vI (g2 0), vI (g2 1), vI (g2 2), vI (g2 3), vI (g2 4), vI (g2 5), vI (g2 6), vI (g2 7), vI (g2 8), .ref (kad G 135), .ref (kad G 136), .ref (kad G 137)]) := (hf112 134 (by decide)).trans h4y
                  have h_114 : w112 135 = rA G 6 6 F := (hf112 135 (by decide)).trans h5y
                  have h_115 : w112 137 = rA G 6 12 (fun _ => none) := (hf112 137 (by decide)).trans h7y
                  exact ih2 (k2 + 1) (va_up F2 k2 (some x_107)) (up3 g2 (33 + 3 * k2) at9 r109 r111) (fly ++ [(x_107, iA G 3 (kup (kup (kup (fun _ => 0) 0 at9) 1 r109) 2 r111))]) at9 w112 (by omega) (by rw [up3_n (by omega)]; omega) (by omega) (drB_cg hB2 (fun j hj => up3_n (by omega))) (by rw [up3_n (by omega)]; exact drb_cg hb2 (fun j q1 q2 => up3_n (by omega))) (drl_up hl2 (by omega) (by omega) (by omega) (fun j hj => by have := hat2 j hj; omega)) (by rw [up3_n (by omega)]; exact trI_cg hT5.ap (fun i hi => ⟨up3_n (by omega), up3_n (by omega), up3_n (by omega)⟩)) (trI_up hT2 x_107 (kup (kup (kup (fun _ => 0) 0 at9) 1 r109) 2 r111) (by decide)) ((up3_n (by omega)).trans h2y) (by omega) (fun j hj => by rw [show j = k2 by omega]; exact up3_0) (h_113.trans (owO_up (by omega))) h_114 hw112 h_115 (fun j hj => (hf112 j (by omega)).trans (hfr2 j (by omega)))
          refine k_lvs (ls := [0, 1, 2, 3, 4, 5]) [(5, vI ((0 : Nat) : Int)), (4, vI 0), (3, vI v9), (2, .ref (kad G 134)), (0, .ref (kb G)), (1, vI fr)] (by simp only [lv_pick]; rfl) ?_
          have h_116 : w82 135 = rA G 6 6 F := (hf82 135 (by decide)).trans h5x
          have h_117 : w82 136 = rA G 6 8 (fun _ => none) := (hf82 136 (by decide)).trans h6x
          have h_118 : w82 137 = rA G 6 12 (fun _ => none) := (hf82 137 (by decide)).trans h7x
          exact loop2 5 0 (fun _ => none) (kup g 1 r81) flx 0 w82 (by omega) (show (0 : Int) ≤ r81 by omega) (by omega) (show drB (kup g 1 r81) from ⟨a0, (show 0 ≤ r81 ∧ r81 ≤ 4 by omega), a2, a3, a4, a5, a6, a7, a8⟩) (show drb (kup g 1 r81) (g 0).toNat from drb_cg (by rw [hgk]; exact hb) (fun j q1 q2 => kup_n (by omega))) ⟨fun i hi => absurd hi (by omega), fun i hi => absurd hi (by omega)⟩ (show trI G flx F (g 0) (kup g 1 r81) 9 4 from trI_cg (by rw [show g 0 = (k : Int) by omega]; exact hT) (fun i hi => ⟨kup_n (by omega), kup_n (by omega), kup_n (by omega)⟩)) (trI_0 (by omega)) h2z (by omega) (fun j hj => absurd hj (by omega)) hw82 h_116 h_117 h_118 (fun j hj => (hf82 j (by omega)).trans (hfr1 j (by omega)))
        · refine k_aload_n hC dL_drawn_139 rfl 3 rfl ?_
          refine k_iload_n hC dL_drawn_140 rfl 4 rfl ?_
          refine k_iconst hC dL_drawn_141 ?_
          refine k_iadd hC dL_drawn_142 ?_
          refine k_iload hC dL_drawn_143 0 rfl ?_
          refine k_iadd hC dL_drawn_145 ?_
          refine k_callS hC (c_L_cell l hls G hN u1 flx ((fr + 1) + (k : Int)) hL9 (by omega)) yy_L_cell wm_L_23 rfl rfl (Nat.le_of_ble_eq_true rfl) (by decide) (by decide) ⟨by omega, by omega⟩ dL_drawn_146 (fun v119 w119 fl119 hp119 => ?_)
          obtain ⟨r119, hr119, q1, q2, q3⟩ := hp119
          subst q1
          subst q2
          subst q3
          show KW p l e R s m args below meth c 7 G Q u1 flx (4 + k) (38 + 3 * k) 149 [(4, vI (k : Int)), (3, vI v9), (2, .ref (kad G 134)), (0, .ref (kb G)), (1, vI fr)] [vI r119]
          refine k_topI (fun u9 eu9 => ?_)
          refine k_istore hC [(5, vI u9), (4, vI (k : Int)), (3, vI v9), (2, .ref (kad G 134)), (0, .ref (kb G)), (1, vI fr)] dL_drawn_149 (by decide) rfl ?_
          refine k_aload_n hC dL_drawn_151 rfl 3 rfl ?_
          refine k_getN hC fd_L_53 (kl2 hM (by decide)) h4x rfl dL_drawn_152 ?_
          refine k_iload hC dL_drawn_155 1 rfl ?_
          refine k_iconst hC dL_drawn_157 ?_
          refine k_newi hC (n := 3) rfl (by decide) ⟨by omega, by omega⟩ dL_drawn_158 (fun x_120 => ?_)
          show KW p l e R s m args below meth c 7 G Q u1 (flx ++ [(x_120, iA G 3 (fun _ => 0))]) (4 + k + 1) (38 + 3 * k + 3) 160 [(5, vI u9), (4, vI (k : Int)), (3, vI v9), (2, .ref (kad G 134)), (0, .ref (kb G)), (1, vI fr)] [.ref x_120, vI (k : Int), .ref (kad G 135)]
          refine k_dup hC dL_drawn_160 rfl ?_
          refine k_iconst hC dL_drawn_161 ?_
          refine k_iload hC dL_drawn_162 0 rfl ?_
          refine k_sipush hC dL_drawn_164 (by decide) ?_
          refine k_callS hC (c_L_most l hls G hN u1 (flx ++ [(x_120, iA G 3 (fun _ => 0))]) u9 7201 (by omega)) yy_L_most wm_L_27 rfl rfl (Nat.le_of_ble_eq_true rfl) (by decide) (by decide) ⟨by omega, by omega⟩ dL_drawn_167 (fun v121 w121 fl121 hp121 => ?_)
          obtain ⟨r121, hr121, hs121, q1, q2, q3⟩ := hp121
          subst q1
          subst q2
          subst q3
          show KW p l e R s m args below meth c 7 G Q u1 (flx ++ [(x_120, iA G 3 (fun _ => 0))]) (4 + k + 1) (38 + 3 * k + 3) 170 [(5, vI u9), (4, vI (k : Int)), (3, vI v9), (2, .ref (kad G 134)), (0, .ref (kb G)), (1, vI fr)] [vI r121, vI 0, .ref x_120, .ref x_120, vI (k : Int), .ref (kad G 135)]
          refine k_sipush hC dL_drawn_170 (by decide) ?_
          refine k_isub hC dL_drawn_173 ?_
          refine k_iastL hC (n := 3) (f := (fun _ => 0)) 0 rfl [(x_120, iA G 3 (kup (fun _ => 0) 0 (r121 - 3600)))] rfl (by decide) (by decide) dL_drawn_174 ?_
          refine k_dup hC dL_drawn_175 rfl ?_
          refine k_iconst hC dL_drawn_176 ?_
          refine k_iload hC dL_drawn_177 0 rfl ?_
          refine k_iconst hC dL_drawn_179 ?_
          refine k_ishrA hC dL_drawn_180 (fun y_122 hy_122 => ?_)
          refine k_sipush hC dL_drawn_181 (by decide) ?_
          refine k_callS hC (c_L_most l hls G hN u1 (flx ++ [(x_120, iA G 3 (kup (fun _ => 0) 0 (r121 - 3600)))]) y_122 21600 (by omega)) yy_L_most wm_L_27 rfl rfl (Nat.le_of_ble_eq_true rfl) (by decide) (by decide) ⟨by omega, by omega⟩ dL_drawn_184 (fun v123 w123 fl123 hp123 => ?_)
          obtain ⟨r123, hr123, hs123, q1, q2, q3⟩ := hp123
          subst q1
          subst q2
          subst q3
          show KW p l e R s m args below meth c 7 G Q u1 (flx ++ [(x_120, iA G 3 (kup (fun _ => 0) 0 (r121 - 3600)))]) (4 + k + 1) (38 + 3 * k + 3) 187 [(5, vI u9), (4, vI (k : Int)), (3, vI v9), (2, .ref (kad G 134)), (0, .ref (kb G)), (1, vI fr)] [vI r123, vI 1, .ref x_120, .ref x_120, vI (k : Int), .ref (kad G 135)]
          refine k_iastL hC (n := 3) (f := (kup (fun _ => 0) 0 (r121 - 3600))) 0 rfl [(x_120, iA G 3 (kup (kup (fun _ => 0) 0 (r121 - 3600)) 1 r123))] rfl (by decide) (by decide) dL_drawn_187 ?_
          refine k_dup hC dL_drawn_188 rfl ?_
          refine k_iconst hC dL_drawn_189 ?_
          refine k_iconst hC dL_drawn_190 ?_
          refine k_iload hC dL_drawn_191 0 rfl ?_
          refine k_iconst hC dL_drawn_193 ?_
          refine k_ishrA hC dL_drawn_194 (fun y_124 hy_124 => ?_)
          refine k_bipush hC dL_drawn_195 (by decide) ?_
          refine k_callS hC (c_L_most l hls G hN u1 (flx ++ [(x_120, iA G 3 (kup (kup (fun _ => 0) 0 (r121 - 3600)) 1 r123))]) y_124 7 (by omega)) yy_L_most wm_L_27 rfl rfl (Nat.le_of_ble_eq_true rfl) (by decide) (by decide) ⟨by omega, by omega⟩ dL_drawn_197 (fun v125 w125 fl125 hp125 => ?_)
          obtain ⟨r125, hr125, hs125, q1, q2, q3⟩ := hp125
          subst q1
          subst q2
          subst q3
          show KW p l e R s m args below meth c 7 G Q u1 (flx ++ [(x_120, iA G 3 (kup (kup (fun _ => 0) 0 (r121 - 3600)) 1 r123))]) (4 + k + 1) (38 + 3 * k + 3) 200 [(5, vI u9), (4, vI (k : Int)), (3, vI v9), (2, .ref (kad G 134)), (0, .ref (kb G)), (1, vI fr)] [vI r125, vI 1, vI 2, .ref x_120, .ref x_120, vI (k : Int), .ref (kad G 135)]
          refine k_iadd hC dL_drawn_200 ?_
          refine k_iastL hC (n := 3) (f := (kup (kup (fun _ => 0) 0 (r121 - 3600)) 1 r123)) 0 rfl [(x_120, iA G 3 (kup (kup (kup (fun _ => 0) 0 (r121 - 3600)) 1 r123) 2 (1 + r125)))] rfl (by decide) (by decide) dL_drawn_201 ?_
          refine k_aastA hC flx.length (kl2 hM (by decide)) h5x (by rw [List.getElem?_append_right (Nat.le_refl _), Nat.sub_self]; rfl) (by omega) (by decide) dL_drawn_202 (fun w126 hw126 hf126 => ?_)
          refine k_iinc hC (y := (k : Int) + 1) [(4, vI ((k : Int) + 1)), (5, vI u9), (3, vI v9), (2, .ref (kad G 134)), (0, .ref (kb G)), (1, vI fr)] (j := 1) dL_drawn_203 rfl (by omega) (by decide) rfl ?_
          refine k_goto hC 130 dL_drawn_206 rfl ?_
          refine k_wid (c1 := 4 + (k + 1)) (s1 := 38 + 3 * (k + 1)) ⟨by omega, by omega⟩ ?_
          refine k_lvs (ls := [0, 2, 3, 4, 5]) [(4, vI ((k : Int) + 1)), (3, vI v9), (2, .ref (kad G 134)), (0, .ref (kb G)), (1, vI fr)] rfl ?_
          refine k_lvs (ls := [0, 1, 2, 3, 4]) [(4, vI ((k + 1 : Nat) : Int)), (3, vI v9), (2, .ref (kad G 134)), (0, .ref (kb G)), (1, vI fr)] (by simp only [lv_pick]; rfl) ?_
          have h_127 : w126 134 = .inr (12, [vI (g 0), vI (g 1), vI (g 2), vI (g 3), vI (g 4), vI (g 5), vI (g 6), vI (g 7), vI (g 8), .ref (kad G 135), .ref (kad G 136), .ref (kad G 137)]) := (hf126 134 (by decide)).trans h4x
          have h_128 : w126 136 = rA G 6 8 (fun _ => none) := (hf126 136 (by decide)).trans h6x
          have h_129 : w126 137 = rA G 6 12 (fun _ => none) := (hf126 137 (by decide)).trans h7x
          exact ih1 (k + 1) (va_up F k (some x_120)) (up3 g (9 + 4 * k) (r121 - 3600) r123 (1 + r125)) (flx ++ [(x_120, iA G 3 (kup (kup (kup (fun _ => 0) 0 (r121 - 3600)) 1 r123) 2 (1 + r125)))]) w126 (by omega) (by rw [up3_n (by omega)]; omega) (by omega) (drB_cg hB (fun j hj => up3_n (by omega))) (drb_up hb (by omega) (by omega) (by omega)) (trI_up hT x_120 (kup (kup (kup (fun _ => 0) 0 (r121 - 3600)) 1 r123) 2 (1 + r125)) (by decide)) ((up3_n (by omega)).trans h1z) ((up3_n (by omega)).trans h2z) (h_127.trans (owO_up (by omega))) hw126 h_128 h_129 (fun j hj => (hf126 j (by omega)).trans (hfr1 j (by omega)))
    refine k_lvs (ls := [0, 1, 2, 3, 4]) [(4, vI ((0 : Nat) : Int)), (3, vI v9), (2, .ref (kad G 134)), (0, .ref (kb G)), (1, vI fr)] (by simp only [lv_pick]; rfl) ?_
    have h_130 : w79 135 = rA G 6 6 (fun _ => none) := (hf79 135 (by decide)).trans ((hf76 135 (by decide)).trans ((hf73 135 (by decide)).trans ((hf12 135 (by decide)).trans ((hf9 135 (by decide)).trans ((hf6 135 (by decide)).trans ((hf3 135 (by decide)).trans h135))))))
    have h_131 : w79 136 = rA G 6 8 (fun _ => none) := (hf79 136 (by decide)).trans ((hf76 136 (by decide)).trans ((hf73 136 (by decide)).trans ((hf12 136 (by decide)).trans ((hf9 136 (by decide)).trans ((hf6 136 (by decide)).trans ((hf3 136 (by decide)).trans h136))))))
    have h_132 : w79 137 = rA G 6 12 (fun _ => none) := (hf79 137 (by decide)).trans ((hf76 137 (by decide)).trans ((hf73 137 (by decide)).trans ((hf12 137 (by decide)).trans ((hf9 137 (by decide)).trans ((hf6 137 (by decide)).trans ((hf3 137 (by decide)).trans h137))))))
    exact loop1 7 0 (fun _ => none) (drF (1 + r78) 0 0 (r2 - 3600) (r5 - 10799) r8 (r11 - 60) r72 r75) fl w79 (by omega) (show (0 : Int) ≤ 1 + r78 by omega) (by omega) (show drB (drF (1 + r78) 0 0 (r2 - 3600) (r5 - 10799) r8 (r11 - 60) r72 r75) from ⟨(show 1 ≤ 1 + r78 ∧ 1 + r78 ≤ 6 by omega), (show 0 ≤ 0 ∧ 0 ≤ 4 by omega), (show 0 ≤ 0 ∧ 0 ≤ 5 by omega), (show -3600 ≤ r2 - 3600 ∧ r2 - 3600 ≤ 3600 by omega), (show -10799 ≤ r5 - 10799 ∧ r5 - 10799 ≤ 10799 by omega), (show 0 ≤ r8 ∧ r8 ≤ 50 by omega), (show -60 ≤ r11 - 60 ∧ r11 - 60 ≤ 60 by omega), (show 0 ≤ r72 ∧ r72 ≤ 21599 by omega), (show 0 ≤ r75 ∧ r75 ≤ 100 by omega)⟩) (fun i hi => absurd hi (by omega)) (trI_0 (by omega)) rfl rfl hw79 h_130 h_131 h_132 (fun j hj => (hf79 j (by omega)).trans ((hf76 j (by omega)).trans ((hf73 j (by omega)).trans ((hf12 j (by omega)).trans ((hf9 j (by omega)).trans ((hf6 j (by omega)).trans (hf3 j (by omega))))))))

