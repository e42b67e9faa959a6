theorem k_lcmpS {p : Program} {l : Launch} {e : Env} {R : Room} {s : State} {m : MethodId} {args : Array Value} {below : List Frame} {meth : Method} {c : Code} {cc : ByteArray} {own : String} {nL : Nat} {G : kG} {d0 mc0 ms0 : Nat} {Q : State → Prop} {w : Nat → va_E} {fl : va_W} {cells slots pc : Nat} {lv : List (Nat × Value)} {st : List Value} (hC : kC p l R s m args meth c cc own nL G d0 mc0 ms0) {a : Int} (d : decode cc pc = .ok (.lcmp, 1)) (k : KW p l e R s m args below meth c nL G Q w fl cells slots (pc + 1) lv (vI 0 :: st)) : KW p l e R s m args below meth c nL G Q w fl cells slots pc lv (vL a :: vL a :: st) := by
  have e9 : vL a = vL (Int64.ofInt a).toInt := by unfold vL; rw [Int64.ofInt_toInt]
  rw [e9]
  have h1 := Int64.le_toInt (Int64.ofInt a)
  have h2 := Int64.toInt_lt (Int64.ofInt a)
  refine k_lcmp hC d (by omega) (by omega) ?_
  rw [show kcmp (Int64.ofInt a).toInt (Int64.ofInt a).toInt = 0 by have h := kcmp_c (Int64.ofInt a).toInt (Int64.ofInt a).toInt; omega]
  exact k
theorem mod_ix {nx a r : Nat} (hnx : nx < 10) (ha : a ≤ 10) (hr : r < a) : (nx + 10 - a + r) % 10 < 10 := Nat.mod_lt _ (by decide)
theorem cpl {g h : Nat → Int} (e : plE h g) : copyLM g h = h := by
  funext j
  by_cases hj : j = 1 ∨ j = 2 ∨ (5 ≤ j ∧ j ≤ 8) ∨ 33 ≤ j
  · exact copyLM_l hj
  · rw [copyLM_p hj]; exact e j (by omega)
theorem plE.tr {a b c : Nat → Int} (h : plE a b) (h1 : plE b c) : plE a c := fun j hj => (h1 j hj).trans (h j hj)
theorem plE.sy {a b : Nat → Int} (h : plE a b) : plE b a := fun j hj => (h j hj).symm
/-- the history: what was before each act that can be undone, and its sum */ -/
def hiR (gb : Nat → Int) (hs : Nat → Nat → Int) (nx a : Nat) (F : Nat → Int) : Prop := ∀ r, r < a → Inv (hs ((nx + 10 - a + r) % 10)) ∧ plE gb (hs ((nx + 10 - a + r) % 10)) ∧ F r = allM (hs ((nx + 10 - a + r) % 10))
theorem hiR_1 {gb g : Nat → Int} {hs : Nat → Nat → Int} {nx a : Nat} {F : Nat → Int} (h : hiR gb hs nx a F) (hnx : nx < 10) (ha : a < 10) (hI : Inv g) (hp : plE gb g) : hiR gb (hsP hs nx g) ((nx + 1) % 10) (a + 1) (kup F a (allM g)) := fun r hr => by
  have e : ((nx + 1) % 10 + 10 - (a + 1) + r) % 10 = (nx + 10 - a + r) % 10 := by omega
  rw [e]
  unfold hsP
  by_cases q : r = a
  · subst q
    rw [if_pos (by omega), kup_s]
    exact ⟨hI, hp, rfl⟩
  · rw [if_neg (by omega), kup_n q]
    exact h r (by omega)
theorem hiR_2 {gb g : Nat → Int} {hs : Nat → Nat → Int} {nx : Nat} {F F1 : Nat → Int} (h : hiR gb hs nx 10 F) (hnx : nx < 10) (hI : Inv g) (hp : plE gb g) (h1 : ∀ r, r < 9 → F1 r = F (r + 1)) (h2 : F1 9 = allM g) : hiR gb (hsP hs nx g) ((nx + 1) % 10) 10 F1 := fun r hr => by
  have e : ((nx + 1) % 10 + 10 - 10 + r) % 10 = (nx + 1 + r) % 10 := by omega
  rw [e]
  unfold hsP
  by_cases q : r = 9
  · subst q
    rw [if_pos (by omega), h2]
    exact ⟨hI, hp, rfl⟩
  · rw [if_neg (by omega), h1 r (by omega), show (nx + 1 + r) % 10 = (nx + 10 - 10 + (r + 1)) % 10 by omega]
    exact h (r + 1) (by omega)
theorem allM_b (g : Nat → Int) : True := trivial
set_option maxRecDepth 100000 in
set_option maxHeartbeats 16000000 in
theorem law_loop {p : Program} {l : Launch} {e : Env} {R : Room} {s : State} {m : MethodId} {args : Array Value} {below : List Frame} {meth : Method} {c : Code} {Q : State → Prop} (hls : l.stackTraces = false) (G : kG) (hM2 : 139 ≤ kN G) (hL9 : kL G ≤ 260) (hC : kC p l R s m args meth c cL_law RL 14 G 60 1000796 6099382) (gb nl : Nat → Int) (hb0 : 1 ≤ gb 0) (hend : ∀ (a : Nat) (g : Nat → Int) (hs : Nat → Nat → Int) (nx : Nat) (F : Nat → Int) (w : Nat → va_E) (fl : va_W) (cs ss : Nat) (k8 : Int), a ≤ 10 → nx < 10 → cs ≤ 5000 → ss ≤ 20000 → Inv g → plE gb g → hiR gb hs nx a F → (w 0 = srO G 1) → (w 129 = qdO G) → (kLog G w 3 g) → (kPlan G w 32 g nl) → (kCht G w) → (w 138 = lA G 10 F) → (kHist G w hs ((nx : Nat) : Int) (a : Int)) → (kLog G w 37 gb) → (owR G w fl g) → (saR G w []) → ((∃ lf, w 130 = iA G 12 lf)) → ((∃ rf, w 131 = iA G 12 rf)) → KW p l e R s m args below meth c 14 G Q w fl cs ss 328 [(8, vI k8), (7, vI (a : Int)), (6, .ref (kad G 138)), (4, vL (allM gb)), (3, .ref (kad G 134)), (2, .ref (kad G 133)), (1, .ref (kad G 0)), (0, .ref (kb G))] []) :
    ∀ (n k a : Nat) (g : Nat → Int) (hs : Nat → Nat → Int) (nx : Nat) (F : Nat → Int) (w : Nat → va_E) (fl : va_W) (cs ss : Nat), 34 < n + k → k ≤ 34 → a ≤ 10 → nx < 10 → (cs + 12 * (34 - k) ≤ 5000 ∧ ss + 57 * (34 - k) ≤ 20000) → Inv g → plE gb g → hiR gb hs nx a F → (w 0 = srO G 1) → (w 129 = qdO G) → (kLog G w 3 g) → (kPlan G w 32 g nl) → (kCht G w) → (w 138 = lA G 10 F) → (kHist G w hs ((nx : Nat) : Int) (a : Int)) → (kLog G w 37 gb) → (owR G w fl g) → (saR G w []) → ((∃ lf, w 130 = iA G 12 lf)) → ((∃ rf, w 131 = iA G 12 rf)) → KW p l e R s m args below meth c 14 G Q w fl cs ss 119 [(8, vI (k : Int)), (7, vI (a : Int)), (6, .ref (kad G 138)), (4, vL (allM gb)), (3, .ref (kad G 134)), (2, .ref (kad G 133)), (1, .ref (kad G 0)), (0, .ref (kb G))] [] := by
  have hM : 138 ≤ kN G := by omega
  have hN : 133 ≤ kN G := by omega
  intro n
  induction n with
  | zero => intro k a g hs nx F w fl cs ss hn hk; exact absurd hn (by omega)
  | succ n ih =>
    intro k a g hs nx F w fl cs ss hn hk ha hnx hcs hI hpb hhi h00 h129 hL hP hCt h138 hHi h37 hE hS hl0 hr0
    have h0g : g 0 = gb 0 := hpb 0 (Or.inl rfl)
    have h0 := hI.c
    refine k_iload hC dL_law_119 0 rfl ?_
    refine k_bipush hC dL_law_121 (by decide) ?_
    refine k_icmp_ge hC 328 dL_law_123 rfl (by omega) (by omega) (fun c_123 => ?_) (fun c_123 => ?_)
    · exact hend a g hs nx F w fl cs ss _ (by omega) (by omega) (by omega) (by omega) hI hpb hhi h00 h129 hL hP hCt h138 hHi h37 hE hS hl0 hr0
    · refine k_aload_n hC dL_law_126 rfl 7 rfl ?_
      refine k_bipush hC dL_law_127 (by decide) ?_
      refine k_iload hC dL_law_129 0 rfl ?_
      refine k_bipush hC dL_law_131 (by decide) ?_
      refine k_irem hC dL_law_133 (by omega) (by omega) ?_
      refine k_topv (vI ((k : Int) % 20)) (congrArg vI (Int.tmod_eq_emod_of_nonneg (by omega))) ?_
      skip
      refine k_iadd hC dL_law_134 ?_
      refine k_callS hC (c_L_cell l hls G hN w fl (14 + ((k : Int) % 20)) hL9 (by omega)) yy_L_cell wm_L_23 rfl rfl (Nat.le_of_ble_eq_true rfl) (by decide) (by decide) ⟨by omega, by omega⟩ dL_law_135 (fun v1 w1 fl1 hp1 => ?_)
      obtain ⟨r1, hr1, q1, q2, q3⟩ := hp1
      subst q1
      subst q2
      subst q3
      show KW p l e R s m args below meth c 14 G Q w fl cs ss 138 [(8, vI (k : Int)), (7, vI (a : Int)), (6, .ref (kad G 138)), (4, vL (allM gb)), (3, .ref (kad G 134)), (2, .ref (kad G 133)), (1, .ref (kad G 0)), (0, .ref (kb G))] [vI r1]
      refine k_iload hC dL_law_138 0 rfl ?_
      refine k_bipush hC dL_law_140 (by decide) ?_
      refine k_idiv hC dL_law_142 (by omega) (by omega) ?_
      refine k_iconst hC dL_law_143 ?_
      refine k_imul hC dL_law_144 ?_
      refine k_ishrA hC dL_law_145 (fun y_2 hy_2 => ?_)
      refine k_istore hC [(9, vI y_2), (8, vI (k : Int)), (7, vI (a : Int)), (6, .ref (kad G 138)), (4, vL (allM gb)), (3, .ref (kad G 134)), (2, .ref (kad G 133)), (1, .ref (kad G 0)), (0, .ref (kb G))] dL_law_146 (by decide) rfl ?_
      refine k_aload_n hC dL_law_148 rfl 7 rfl ?_
      refine k_callS hC (c_L_all l hls G hN w fl g nl 1 hI h00 hL hP hCt) yy_L_all wm_L_262 rfl rfl (Nat.le_of_ble_eq_true rfl) (by decide) (by decide) ⟨by omega, by omega⟩ dL_law_149 (fun v3 w3 fl3 hp3 => ?_)
      obtain ⟨-, q1, q2, hCt3, hf3⟩ := hp3
      subst q1
      subst q2
      show KW p l e R s m args below meth c 14 G Q w3 fl cs ss 152 [(9, vI y_2), (8, vI (k : Int)), (7, vI (a : Int)), (6, .ref (kad G 138)), (4, vL (allM gb)), (3, .ref (kad G 134)), (2, .ref (kad G 133)), (1, .ref (kad G 0)), (0, .ref (kb G))] [vL (allM g)]
      refine k_lstore hC [(10, vL (allM g)), (9, vI y_2), (8, vI (k : Int)), (7, vI (a : Int)), (6, .ref (kad G 138)), (4, vL (allM gb)), (3, .ref (kad G 134)), (2, .ref (kad G 133)), (1, .ref (kad G 0)), (0, .ref (kb G))] dL_law_152 (by decide) rfl ?_
      refine k_aload_n hC dL_law_154 rfl 8 rfl ?_
      refine k_aload_n hC dL_law_155 rfl 6 rfl ?_
      refine k_iload hC dL_law_156 1 rfl ?_
      have h_5 : w3 0 = .inr (11, [.ref (kad G 1), .ref (kad G 32), .ref (kad G 3), .ref (kad G 37), vI 1, .ref (kad G 44), .ref (kad G 10), .ref (kad G 116), .ref (kad G 129), .ref (kad G 132)]) := (hf3 0 (by omega)).trans h00
      have hB_6 : kLog G w3 3 g := hL.fr (fun j q1 q2 => (hf3 j (by omega)))
      have hB_7 : kPlan G w3 32 g nl := hP.fr (fun j q1 q2 => (hf3 j (by omega)))
      have hc_8 : owR G w3 fl g := (hE.fr (fun j q1 q2 => (hf3 j (by omega))))
      have hc_9 : kHist G w3 hs ((nx : Nat) : Int) (a : Int) := (hHi.fr (fun j q1 q2 => (hf3 j (by omega))))
      refine k_callS hC (c_L_act l hls G hM w3 fl g nl 1 y_2 hs nx (a : Int) hI h_5 hB_6 hB_7 hCt3 (by omega) hc_8 hc_9 (by omega) (by omega)) yy_L_act wm_L_266 rfl rfl (Nat.le_of_ble_eq_true rfl) (by decide) (by decide) ⟨by omega, by omega⟩ dL_law_158 (fun v4 w4 fl4 hp4 => ?_)
      obtain ⟨z4, q1, ha4⟩ := hp4
      subst q1
      rcases ha4 with ⟨q2, q3, hE4⟩ | ⟨q2, g4, hI4, hpl4, hE4, hL4, hHi4, hf4⟩
      · have q4 := q3.symm
        subst q2
        subst q4
        show KW p l e R s m args below meth c 14 G Q w3 fl4 (cs + 1) (ss + 3) 161 [(10, vL (allM g)), (9, vI y_2), (8, vI (k : Int)), (7, vI (a : Int)), (6, .ref (kad G 138)), (4, vL (allM gb)), (3, .ref (kad G 134)), (2, .ref (kad G 133)), (1, .ref (kad G 0)), (0, .ref (kb G))] [vI 0]
        refine k_istore hC [(12, vI 0), (10, vL (allM g)), (9, vI y_2), (8, vI (k : Int)), (7, vI (a : Int)), (6, .ref (kad G 138)), (4, vL (allM gb)), (3, .ref (kad G 134)), (2, .ref (kad G 133)), (1, .ref (kad G 0)), (0, .ref (kb G))] dL_law_161 (by decide) rfl ?_
        refine k_iload hC dL_law_163 0 rfl ?_
        refine k_if_lt hC 183 dL_law_165 rfl (by omega) (fun c_165 => absurd c_165 (by omega)) (fun c_165 => ?_)
        refine k_iload hC dL_law_168 0 rfl ?_
        refine k_if_ne hC 185 dL_law_170 rfl (by omega) (fun c_170 => absurd c_170 (by omega)) (fun c_170 => ?_)
        refine k_aload_n hC dL_law_173 rfl 9 rfl ?_
        refine k_callS hC (c_L_all l hls G hN w3 fl4 g nl 1 hI h_5 hB_6 hB_7 hCt3) yy_L_all wm_L_262 rfl rfl (Nat.le_of_ble_eq_true rfl) (by decide) (by decide) ⟨by omega, by omega⟩ dL_law_174 (fun v10 w10 fl10 hp10 => ?_)
        obtain ⟨-, q1, q2, hCt10, hf10⟩ := hp10
        subst q1
        subst q2
        show KW p l e R s m args below meth c 14 G Q w10 fl4 (cs + 1) (ss + 3) 177 [(12, vI 0), (10, vL (allM g)), (9, vI y_2), (8, vI (k : Int)), (7, vI (a : Int)), (6, .ref (kad G 138)), (4, vL (allM gb)), (3, .ref (kad G 134)), (2, .ref (kad G 133)), (1, .ref (kad G 0)), (0, .ref (kb G))] [vL (allM g)]
        refine k_lload hC dL_law_177 1 rfl ?_
        refine k_lcmpS hC dL_law_179 ?_
        refine k_if_eq hC 185 dL_law_180 rfl (by omega) (fun c_180 => ?_) (fun c_180 => (by omega : False).elim)
        refine k_iload hC dL_law_185 0 rfl ?_
        refine k_if_ne hC 193 dL_law_187 rfl (by omega) (fun c_187 => absurd c_187 (by omega)) (fun c_187 => ?_)
        refine k_goto hC 322 dL_law_190 rfl ?_
        refine k_iinc hC (y := (k : Int) + 1) [(8, vI ((k : Int) + 1)), (12, vI 0), (10, vL (allM g)), (9, vI y_2), (7, vI (a : Int)), (6, .ref (kad G 138)), (4, vL (allM gb)), (3, .ref (kad G 134)), (2, .ref (kad G 133)), (1, .ref (kad G 0)), (0, .ref (kb G))] (j := 3) dL_law_322 rfl (by omega) (by decide) rfl ?_
        refine k_goto hC 119 dL_law_325 rfl ?_
        refine k_lvs (ls := [0, 4, 5, 6, 7, 8, 9, 10]) [(8, vI ((k : Int) + 1)), (7, vI (a : Int)), (6, .ref (kad G 138)), (4, vL (allM gb)), (3, .ref (kad G 134)), (2, .ref (kad G 133)), (1, .ref (kad G 0)), (0, .ref (kb G))] rfl ?_
        refine k_lvs (ls := [0, 1, 2, 3, 4, 5, 6, 7]) [(8, vI ((k + 1 : Nat) : Int)), (7, vI ((a : Nat) : Int)), (6, .ref (kad G 138)), (4, vL (allM gb)), (3, .ref (kad G 134)), (2, .ref (kad G 133)), (1, .ref (kad G 0)), (0, .ref (kb G))] (by simp only [lv_pick]; rfl) ?_
        refine k_wid (c1 := cs + 12) (s1 := ss + 57) ⟨by omega, by omega⟩ ?_
        have h_11 : w10 0 = .inr (11, [.ref (kad G 1), .ref (kad G 32), .ref (kad G 3), .ref (kad G 37), vI 1, .ref (kad G 44), .ref (kad G 10), .ref (kad G 116), .ref (kad G 129), .ref (kad G 132)]) := (hf10 0 (by omega)).trans h_5
        have h_12 : w10 129 = qdO G := (hf10 129 (by omega)).trans ((hf3 129 (by omega)).trans h129)
        have hB_13 : kLog G w10 3 g := hB_6.fr (fun j q1 q2 => (hf10 j (by omega)))
        have hB_14 : kPlan G w10 32 g nl := hB_7.fr (fun j q1 q2 => (hf10 j (by omega)))
        have h_15 : w10 138 = lA G 10 F := (hf10 138 (by omega)).trans ((hf3 138 (by omega)).trans h138)
        have hc_16 : kHist G w10 hs ((nx : Nat) : Int) (a : Int) := (hc_9.fr (fun j q1 q2 => (hf10 j (by omega))))
        have hc_17 : kLog G w10 37 gb := (h37.fr (fun j q1 q2 => (hf10 j (by omega)).trans (hf3 j (by omega))))
        have hc_18 : owR G w10 fl4 g := (hE4.fr (fun j q1 q2 => (hf10 j (by omega))))
        have hc_19 : saR G w10 [] := (hS.fr (fun j hj => (hf10 j (by omega)).trans (hf3 j (by omega))))
        have hc_20 : (∃ lf, w10 130 = iA G 12 lf) := (hl0.elim (fun z hz => ⟨z, ((hf10 130 (by omega)).trans (hf3 130 (by omega))).trans hz⟩))
        have hc_21 : (∃ rf, w10 131 = iA G 12 rf) := (hr0.elim (fun z hz => ⟨z, ((hf10 131 (by omega)).trans (hf3 131 (by omega))).trans hz⟩))
        exact ih (k + 1) a g hs nx F w10 fl4 (cs + 12) (ss + 57) (by omega) (by omega) (by omega) (by omega) (by omega) hI hpb hhi h_11 h_12 hB_13 hB_14 hCt10 h_15 hc_16 hc_17 hc_18 hc_19 hc_20 hc_21
      · subst q2
        have hB_22 : kPlan G w4 32 g nl := hB_7.fr (fun j q1 q2 => (hf4 j (by omega)))
        have hPn : kPlan G w4 32 g4 nl := hB_22.cg hpl4
        have hc_23 : kLog G w4 37 gb := (h37.fr (fun j q1 q2 => (hf4 j (by omega)).trans (hf3 j (by omega))))
        have hc_24 : saR G w4 [] := (hS.fr (fun j hj => (hf4 j (by omega)).trans (hf3 j (by omega))))
        have hc_25 : (∃ lf, w4 130 = iA G 12 lf) := (hl0.elim (fun z hz => ⟨z, ((hf4 130 (by omega)).trans (hf3 130 (by omega))).trans hz⟩))
        have hc_26 : (∃ rf, w4 131 = iA G 12 rf) := (hr0.elim (fun z hz => ⟨z, ((hf4 131 (by omega)).trans (hf3 131 (by omega))).trans hz⟩))
        have hB_27 : kCht G w4 := hCt3.fr (fun j q1 q2 => (hf4 j (by omega)))
        have h_28 : w4 0 = .inr (11, [.ref (kad G 1), .ref (kad G 32), .ref (kad G 3), .ref (kad G 37), vI 1, .ref (kad G 44), .ref (kad G 10), .ref (kad G 116), .ref (kad G 129), .ref (kad G 132)]) := (hf4 0 (by omega)).trans h_5
        have h_29 : w4 129 = qdO G := (hf4 129 (by omega)).trans ((hf3 129 (by omega)).trans h129)
        have h_30 : w4 138 = lA G 10 F := (hf4 138 (by omega)).trans ((hf3 138 (by omega)).trans h138)
        show KW p l e R s m args below meth c 14 G Q w4 fl4 (cs + 1) (ss + 3) 161 [(10, vL (allM g)), (9, vI y_2), (8, vI (k : Int)), (7, vI (a : Int)), (6, .ref (kad G 138)), (4, vL (allM gb)), (3, .ref (kad G 134)), (2, .ref (kad G 133)), (1, .ref (kad G 0)), (0, .ref (kb G))] [vI 1]
        refine k_istore hC [(12, vI 1), (10, vL (allM g)), (9, vI y_2), (8, vI (k : Int)), (7, vI (a : Int)), (6, .ref (kad G 138)), (4, vL (allM gb)), (3, .ref (kad G 134)), (2, .ref (kad G 133)), (1, .ref (kad G 0)), (0, .ref (kb G))] dL_law_161 (by decide) rfl ?_
        refine k_iload hC dL_law_163 0 rfl ?_
        refine k_if_lt hC 183 dL_law_165 rfl (by omega) (fun c_165 => absurd c_165 (by omega)) (fun c_165 => ?_)
        refine k_iload hC dL_law_168 0 rfl ?_
        refine k_if_ne hC 185 dL_law_170 rfl (by omega) (fun c_170 => ?_) (fun c_170 => absurd c_170 (by omega))
        refine k_iload hC dL_law_185 0 rfl ?_
        refine k_if_ne hC 193 dL_law_187 rfl (by omega) (fun c_187 => ?_) (fun c_187 => absurd c_187 (by omega))
        refine k_iload hC dL_law_193 4 rfl ?_
        refine k_bipush hC dL_law_195 (by decide) ?_
        refine k_icmp_ne hC 231 dL_law_197 rfl (by omega) (by omega) (fun c_197 => ?_) (fun c_197 => ?_)
        · skip
          refine k_aload hC dL_law_231 5 rfl ?_
          refine k_iload hC dL_law_233 4 rfl ?_
          refine k_iinc hC (y := (a : Int) + 1) [(7, vI ((a : Int) + 1)), (12, vI 1), (10, vL (allM g)), (9, vI y_2), (8, vI (k : Int)), (6, .ref (kad G 138)), (4, vL (allM gb)), (3, .ref (kad G 134)), (2, .ref (kad G 133)), (1, .ref (kad G 0)), (0, .ref (kb G))] (j := 4) dL_law_235 rfl (by omega) (by decide) rfl ?_
          refine k_lload hC dL_law_238 2 rfl ?_
          refine k_last hC (Nat.lt_of_lt_of_le (by decide) hM2) h_30 (by omega) (by decide) dL_law_240 (fun w31 hw31 hf31 => ?_)
          refine k_aload_n hC dL_law_241 rfl 9 rfl ?_
          have hc_33 : kHist G w31 (hsP hs nx g) ((((nx + 1) % 10) : Nat) : Int) (min ((a : Int) + 1) 10) := (hHi4.fr (fun j q1 q2 => (hf31 j (by omega))))
          have h_34 : w31 0 = .inr (11, [.ref (kad G 1), .ref (kad G 32), .ref (kad G 3), .ref (kad G 37), vI 1, .ref (kad G 44), .ref (kad G 10), .ref (kad G 116), .ref (kad G 129), .ref (kad G 132)]) := (hf31 0 (by decide)).trans h_28
          have hB_35 : kLog G w31 3 g4 := hL4.fr (fun j q1 q2 => (hf31 j (by omega)))
          have hB_36 : kPlan G w31 32 g4 nl := hPn.fr (fun j q1 q2 => (hf31 j (by omega)))
          have hB_37 : kCht G w31 := hB_27.fr (fun j q1 q2 => (hf31 j (by omega)))
          refine k_callV hC (c_X11_undoCount l hls G hN w31 fl4 g4 nl 1 (hsP hs nx g) ((nx + 1) % 10) (min ((a : Int) + 1) 10) (by omega) (by omega) hc_33 hI4 h_34 hB_35 hB_36 hB_37) yy_X11_undoCount wm_L_270 (kl hN (by decide)) h_34 rfl rfl rfl rfl (Nat.le_of_ble_eq_true rfl) (by decide) (by decide) ⟨by omega, by omega⟩ dL_law_242 (fun v32 w32 fl32 hp32 => ?_)
          obtain ⟨-, q1, q2, q3⟩ := hp32
          subst q1
          subst q2
          have q4 := q3.symm
          subst q4
          show KW p l e R s m args below meth c 14 G Q w31 fl4 (cs + 1) (ss + 3) 245 [(7, vI ((a : Int) + 1)), (12, vI 1), (10, vL (allM g)), (9, vI y_2), (8, vI (k : Int)), (6, .ref (kad G 138)), (4, vL (allM gb)), (3, .ref (kad G 134)), (2, .ref (kad G 133)), (1, .ref (kad G 0)), (0, .ref (kb G))] [vI (min ((a : Int) + 1) 10)]
          refine k_iload hC dL_law_245 0 rfl ?_
          refine k_icmp_ne hC 320 dL_law_247 rfl (by omega) (by omega) (fun c_247 => (by omega : False).elim) (fun c_247 => ?_)
          have hp9 : plE gb g4 := hpb.tr hpl4
          have hh9 : hiR gb (hsP hs nx g) ((nx + 1) % 10) (a + 1) (kup F ((a : Int)).toNat (allM g)) := hiR_1 hhi hnx (by omega) hI hpb
          have hcn9 : (min ((a : Int) + 1) 10) = ((a + 1 : Nat) : Int) := by omega
          have h_38 : w31 129 = qdO G := (hf31 129 (by decide)).trans h_29
          have hc_39 : kLog G w31 37 gb := (hc_23.fr (fun j q1 q2 => (hf31 j (by omega))))
          have hc_40 : owR G w31 fl4 g4 := (hE4.fr (fun j q1 q2 => (hf31 j (by omega))))
          have hc_41 : saR G w31 [] := (hc_24.fr (fun j hj => (hf31 j (by omega))))
          have hc_42 : (∃ lf, w31 130 = iA G 12 lf) := (hc_25.elim (fun z hz => ⟨z, ((hf31 130 (by decide))).trans hz⟩))
          have hc_43 : (∃ rf, w31 131 = iA G 12 rf) := (hc_26.elim (fun z hz => ⟨z, ((hf31 131 (by decide))).trans hz⟩))
          have hHn_44 : kHist G w31 (hsP hs nx g) ((((nx + 1) % 10) : Nat) : Int) ((a + 1 : Nat) : Int) := by rw [← hcn9]; exact hc_33
          refine k_lvs (ls := [0, 1, 2, 3, 4, 5, 6, 7, 8, 9, 10]) [(7, vI ((a + 1 : Nat) : Int)), (12, vI 1), (10, vL (allM g)), (9, vI y_2), (8, vI (k : Int)), (6, .ref (kad G 138)), (4, vL (allM gb)), (3, .ref (kad G 134)), (2, .ref (kad G 133)), (1, .ref (kad G 0)), (0, .ref (kb G))] (by simp only [lv_pick]; rfl) ?_
          have J_45a : ∀ (xJ_45a : Nat → va_E), (xJ_45a 0 = srO G 1) → (xJ_45a 129 = qdO G) → (kLog G xJ_45a 3 g4) → (kPlan G xJ_45a 32 g4 nl) → (kCht G xJ_45a) → (xJ_45a 138 = lA G 10 (kup F ((a : Int)).toNat (allM g))) → (kHist G xJ_45a (hsP hs nx g) ((((nx + 1) % 10) : Nat) : Int) ((a + 1 : Nat) : Int)) → (kLog G xJ_45a 37 gb) → (owR G xJ_45a fl4 g4) → (saR G xJ_45a []) → ((∃ lf, xJ_45a 130 = iA G 12 lf)) → ((∃ rf, xJ_45a 131 = iA G 12 rf)) → KW p l e R s m args below meth c 14 G Q xJ_45a fl4 (cs + 12) (ss + 57) 322 [(7, vI ((a + 1 : Nat) : Int)), (8, vI (k : Int)), (6, .ref (kad G 138)), (4, vL (allM gb)), (3, .ref (kad G 134)), (2, .ref (kad G 133)), (1, .ref (kad G 0)), (0, .ref (kb G))] [] := by
            intro xJ_45a h00_J_45a h129_J_45a hL_J_45a hP_J_45a hCt_J_45a h138_J_45a hHi_J_45a h37_J_45a hE_J_45a hS_J_45a hl0_J_45a hr0_J_45a
            refine k_iinc hC (y := (k : Int) + 1) [(8, vI ((k : Int) + 1)), (7, vI ((a + 1 : Nat) : Int)), (6, .ref (kad G 138)), (4, vL (allM gb)), (3, .ref (kad G 134)), (2, .ref (kad G 133)), (1, .ref (kad G 0)), (0, .ref (kb G))] (j := 1) dL_law_322 rfl (by omega) (by decide) rfl ?_
            refine k_goto hC 119 dL_law_325 rfl ?_
            refine k_lvs (ls := [0, 1, 2, 3, 4, 5, 6, 7]) [(8, vI ((k + 1 : Nat) : Int)), (7, vI ((a + 1 : Nat) : Int)), (6, .ref (kad G 138)), (4, vL (allM gb)), (3, .ref (kad G 134)), (2, .ref (kad G 133)), (1, .ref (kad G 0)), (0, .ref (kb G))] (by simp only [lv_pick]; rfl) ?_
            refine k_wid (c1 := cs + 12) (s1 := ss + 57) ⟨by omega, by omega⟩ ?_
            exact ih (k + 1) (a + 1) g4 (hsP hs nx g) ((nx + 1) % 10) (kup F ((a : Int)).toNat (allM g)) xJ_45a fl4 (cs + 12) (ss + 57) (by omega) (by omega) (by omega) (by omega) (by omega) hI4 hp9 hh9 h00_J_45a h129_J_45a hL_J_45a hP_J_45a hCt_J_45a h138_J_45a hHi_J_45a h37_J_45a hE_J_45a hS_J_45a hl0_J_45a hr0_J_45a
          have J_45b : ∀ (xJ_45b : Nat → va_E), (xJ_45b 0 = srO G 1) → (xJ_45b 129 = qdO G) → (kLog G xJ_45b 3 g4) → (kPlan G xJ_45b 32 g4 nl) → (kCht G xJ_45b) → (xJ_45b 138 = lA G 10 (kup F ((a : Int)).toNat (allM g))) → (kHist G xJ_45b (hsP hs nx g) ((((nx + 1) % 10) : Nat) : Int) ((a + 1 : Nat) : Int)) → (kLog G xJ_45b 37 gb) → (owR G xJ_45b fl4 g4) → (saR G xJ_45b []) → ((∃ lf, xJ_45b 130 = iA G 12 lf)) → ((∃ rf, xJ_45b 131 = iA G 12 rf)) → KW p l e R s m args below meth c 14 G Q xJ_45b fl4 (cs + 4) (ss + 9) 300 [(9, vI y_2), (7, vI ((a + 1 : Nat) : Int)), (8, vI (k : Int)), (6, .ref (kad G 138)), (4, vL (allM gb)), (3, .ref (kad G 134)), (2, .ref (kad G 133)), (1, .ref (kad G 0)), (0, .ref (kb G))] [] := by
            intro xJ_45b h00_J_45b h129_J_45b hL_J_45b hP_J_45b hCt_J_45b h138_J_45b hHi_J_45b h37_J_45b hE_J_45b hS_J_45b hl0_J_45b hr0_J_45b
            refine k_iload hC dL_law_300 2 rfl ?_
            refine k_bipush hC dL_law_302 (by decide) ?_
            refine k_irem hC dL_law_304 (by omega) (by omega) ?_
            refine k_topv (vI ((k : Int) % 7)) (congrArg vI (Int.tmod_eq_emod_of_nonneg (by omega))) ?_
            skip
            refine k_bipush hC dL_law_305 (by decide) ?_
            refine k_icmp_ne hC 322 dL_law_307 rfl (by omega) (by omega) (fun c_307 => ?_) (fun c_307 => ?_)
            · refine k_lvs (ls := [1, 2, 3, 4, 5, 6, 7, 8]) [(7, vI ((a + 1 : Nat) : Int)), (8, vI (k : Int)), (6, .ref (kad G 138)), (4, vL (allM gb)), (3, .ref (kad G 134)), (2, .ref (kad G 133)), (1, .ref (kad G 0)), (0, .ref (kb G))] rfl ?_
              refine k_wid (c1 := cs + 12) (s1 := ss + 57) ⟨by omega, by omega⟩ ?_
              exact J_45a xJ_45b h00_J_45b h129_J_45b hL_J_45b hP_J_45b hCt_J_45b h138_J_45b hHi_J_45b h37_J_45b hE_J_45b hS_J_45b hl0_J_45b hr0_J_45b
            · refine k_aload_n hC dL_law_310 rfl 7 rfl ?_
              refine k_aload_n hC dL_law_311 rfl 6 rfl ?_
              refine k_iload hC dL_law_312 0 rfl ?_
              refine k_callS hC (c_L_isTold l hls G hM xJ_45b fl4 g4 nl 1 y_2 hI4 h00_J_45b hL_J_45b hP_J_45b hCt_J_45b hS_J_45b h129_J_45b hl0_J_45b hr0_J_45b) yy_L_isTold wm_L_279 rfl rfl (Nat.le_of_ble_eq_true rfl) (by decide) (by decide) ⟨by omega, by omega⟩ dL_law_314 (fun v46 w46 fl46 hp46 => ?_)
              obtain ⟨q1, q2, hS46, hCt46, hl46, hr46, hf46⟩ := hp46
              subst q1
              subst q2
              show KW p l e R s m args below meth c 14 G Q w46 fl4 (cs + 4 + 8) (ss + 9 + 48) 317 [(9, vI y_2), (7, vI ((a + 1 : Nat) : Int)), (8, vI (k : Int)), (6, .ref (kad G 138)), (4, vL (allM gb)), (3, .ref (kad G 134)), (2, .ref (kad G 133)), (1, .ref (kad G 0)), (0, .ref (kb G))] [vI 1]
              refine k_if_ne hC 322 dL_law_317 rfl (by omega) (fun c_317 => ?_) (fun c_317 => absurd c_317 (by omega))
              refine k_lvs (ls := [1, 2, 3, 4, 5, 6, 7, 8]) [(7, vI ((a + 1 : Nat) : Int)), (8, vI (k : Int)), (6, .ref (kad G 138)), (4, vL (allM gb)), (3, .ref (kad G 134)), (2, .ref (kad G 133)), (1, .ref (kad G 0)), (0, .ref (kb G))] rfl ?_
              refine k_wid (c1 := cs + 12) (s1 := ss + 57) ⟨by omega, by omega⟩ ?_
              have h_47 : w46 0 = .inr (11, [.ref (kad G 1), .ref (kad G 32), .ref (kad G 3), .ref (kad G 37), vI 1, .ref (kad G 44), .ref (kad G 10), .ref (kad G 116), .ref (kad G 129), .ref (kad G 132)]) := (hf46 0 (by omega)).trans h00_J_45b
              have h_48 : w46 129 = qdO G := (hf46 129 (by omega)).trans h129_J_45b
              have hB_49 : kLog G w46 3 g4 := hL_J_45b.fr (fun j q1 q2 => (hf46 j (by omega)))
              have hB_50 : kPlan G w46 32 g4 nl := hP_J_45b.fr (fun j q1 q2 => (hf46 j (by omega)))
              have h_51 : w46 138 = lA G 10 (kup F ((a : Int)).toNat (allM g)) := (hf46 138 (by omega)).trans h138_J_45b
              have hc_52 : kHist G w46 (hsP hs nx g) ((((nx + 1) % 10) : Nat) : Int) ((a + 1 : Nat) : Int) := (hHi_J_45b.fr (fun j q1 q2 => (hf46 j (by omega))))
              have hc_53 : kLog G w46 37 gb := (h37_J_45b.fr (fun j q1 q2 => (hf46 j (by omega))))
              have hc_54 : owR G w46 fl4 g4 := (hE_J_45b.fr (fun j q1 q2 => (hf46 j (by omega))))
              exact J_45a w46 h_47 h_48 hB_49 hB_50 hCt46 h_51 hc_52 hc_53 hc_54 hS46 hl46 hr46
          have J_45c : ∀ (xJ_45c : Nat → va_E), (xJ_45c 0 = srO G 1) → (xJ_45c 129 = qdO G) → (kLog G xJ_45c 3 g4) → (kPlan G xJ_45c 32 g4 nl) → (kCht G xJ_45c) → (xJ_45c 138 = lA G 10 (kup F ((a : Int)).toNat (allM g))) → (kHist G xJ_45c (hsP hs nx g) ((((nx + 1) % 10) : Nat) : Int) ((a + 1 : Nat) : Int)) → (kLog G xJ_45c 37 gb) → (owR G xJ_45c fl4 g4) → (saR G xJ_45c []) → ((∃ lf, xJ_45c 130 = iA G 12 lf)) → ((∃ rf, xJ_45c 131 = iA G 12 rf)) → KW p l e R s m args below meth c 14 G Q xJ_45c fl4 (cs + 4) (ss + 9) 283 [(9, vI y_2), (7, vI ((a + 1 : Nat) : Int)), (8, vI (k : Int)), (6, .ref (kad G 138)), (4, vL (allM gb)), (3, .ref (kad G 134)), (2, .ref (kad G 133)), (1, .ref (kad G 0)), (0, .ref (kb G))] [] := by
            intro xJ_45c h00_J_45c h129_J_45c hL_J_45c hP_J_45c hCt_J_45c h138_J_45c hHi_J_45c h37_J_45c hE_J_45c hS_J_45c hl0_J_45c hr0_J_45c
            refine k_iload hC dL_law_283 2 rfl ?_
            refine k_iconst hC dL_law_285 ?_
            refine k_irem hC dL_law_286 (by omega) (by omega) ?_
            refine k_topv (vI ((k : Int) % 4)) (congrArg vI (Int.tmod_eq_emod_of_nonneg (by omega))) ?_
            skip
            refine k_iconst hC dL_law_287 ?_
            refine k_icmp_ne hC 300 dL_law_288 rfl (by omega) (by omega) (fun c_288 => ?_) (fun c_288 => ?_)
            · refine k_wid (c1 := cs + 4) (s1 := ss + 9) ⟨by omega, by omega⟩ ?_
              exact J_45b xJ_45c h00_J_45c h129_J_45c hL_J_45c hP_J_45c hCt_J_45c h138_J_45c hHi_J_45c h37_J_45c hE_J_45c hS_J_45c hl0_J_45c hr0_J_45c
            · refine k_aload_n hC dL_law_291 rfl 7 rfl ?_
              refine k_iload hC dL_law_292 0 rfl ?_
              refine k_callS hC (c_L_isFix l hls G hN xJ_45c fl4 g4 nl 1 y_2 hI4 h00_J_45c hL_J_45c hP_J_45c hCt_J_45c) yy_L_isFix wm_L_276 rfl rfl (Nat.le_of_ble_eq_true rfl) (by decide) (by decide) ⟨by omega, by omega⟩ dL_law_294 (fun v55 w55 fl55 hp55 => ?_)
              obtain ⟨-, q1, q2, hCt55, hf55⟩ := hp55
              subst q1
              subst q2
              show KW p l e R s m args below meth c 14 G Q w55 fl4 (cs + 4) (ss + 9) 297 [(9, vI y_2), (7, vI ((a + 1 : Nat) : Int)), (8, vI (k : Int)), (6, .ref (kad G 138)), (4, vL (allM gb)), (3, .ref (kad G 134)), (2, .ref (kad G 133)), (1, .ref (kad G 0)), (0, .ref (kb G))] [vI 1]
              refine k_if_eq hC 320 dL_law_297 rfl (by omega) (fun c_297 => absurd c_297 (by omega)) (fun c_297 => ?_)
              refine k_wid (c1 := cs + 4) (s1 := ss + 9) ⟨by omega, by omega⟩ ?_
              have h_56 : w55 0 = .inr (11, [.ref (kad G 1), .ref (kad G 32), .ref (kad G 3), .ref (kad G 37), vI 1, .ref (kad G 44), .ref (kad G 10), .ref (kad G 116), .ref (kad G 129), .ref (kad G 132)]) := (hf55 0 (by omega)).trans h00_J_45c
              have h_57 : w55 129 = qdO G := (hf55 129 (by omega)).trans h129_J_45c
              have hB_58 : kLog G w55 3 g4 := hL_J_45c.fr (fun j q1 q2 => (hf55 j (by omega)))
              have hB_59 : kPlan G w55 32 g4 nl := hP_J_45c.fr (fun j q1 q2 => (hf55 j (by omega)))
              have h_60 : w55 138 = lA G 10 (kup F ((a : Int)).toNat (allM g)) := (hf55 138 (by omega)).trans h138_J_45c
              have hc_61 : kHist G w55 (hsP hs nx g) ((((nx + 1) % 10) : Nat) : Int) ((a + 1 : Nat) : Int) := (hHi_J_45c.fr (fun j q1 q2 => (hf55 j (by omega))))
              have hc_62 : kLog G w55 37 gb := (h37_J_45c.fr (fun j q1 q2 => (hf55 j (by omega))))
              have hc_63 : owR G w55 fl4 g4 := (hE_J_45c.fr (fun j q1 q2 => (hf55 j (by omega))))
              have hc_64 : saR G w55 [] := (hS_J_45c.fr (fun j hj => (hf55 j (by omega))))
              have hc_65 : (∃ lf, w55 130 = iA G 12 lf) := (hl0_J_45c.elim (fun z hz => ⟨z, ((hf55 130 (by omega))).trans hz⟩))
              have hc_66 : (∃ rf, w55 131 = iA G 12 rf) := (hr0_J_45c.elim (fun z hz => ⟨z, ((hf55 131 (by omega))).trans hz⟩))
              exact J_45b w55 h_56 h_57 hB_58 hB_59 hCt55 h_60 hc_61 hc_62 hc_63 hc_64 hc_65 hc_66
          have J_45d : ∀ (xJ_45d : Nat → va_E), (xJ_45d 0 = srO G 1) → (xJ_45d 129 = qdO G) → (kLog G xJ_45d 3 g4) → (kPlan G xJ_45d 32 g4 nl) → (kCht G xJ_45d) → (xJ_45d 138 = lA G 10 (kup F ((a : Int)).toNat (allM g))) → (kHist G xJ_45d (hsP hs nx g) ((((nx + 1) % 10) : Nat) : Int) ((a + 1 : Nat) : Int)) → (kLog G xJ_45d 37 gb) → (owR G xJ_45d fl4 g4) → (saR G xJ_45d []) → ((∃ lf, xJ_45d 130 = iA G 12 lf)) → ((∃ rf, xJ_45d 131 = iA G 12 rf)) → KW p l e R s m args below meth c 14 G Q xJ_45d fl4 (cs + 1) (ss + 3) 266 [(9, vI y_2), (7, vI ((a + 1 : Nat) : Int)), (8, vI (k : Int)), (6, .ref (kad G 138)), (4, vL (allM gb)), (3, .ref (kad G 134)), (2, .ref (kad G 133)), (1, .ref (kad G 0)), (0, .ref (kb G))] [] := by
            intro xJ_45d h00_J_45d h129_J_45d hL_J_45d hP_J_45d hCt_J_45d h138_J_45d hHi_J_45d h37_J_45d hE_J_45d hS_J_45d hl0_J_45d hr0_J_45d
            refine k_iload hC dL_law_266 2 rfl ?_
            refine k_iconst hC dL_law_268 ?_
            refine k_irem hC dL_law_269 (by omega) (by omega) ?_
            refine k_topv (vI ((k : Int) % 4)) (congrArg vI (Int.tmod_eq_emod_of_nonneg (by omega))) ?_
            skip
            refine k_iconst hC dL_law_270 ?_
            refine k_icmp_ne hC 283 dL_law_271 rfl (by omega) (by omega) (fun c_271 => ?_) (fun c_271 => ?_)
            · refine k_wid (c1 := cs + 4) (s1 := ss + 9) ⟨by omega, by omega⟩ ?_
              exact J_45c xJ_45d h00_J_45d h129_J_45d hL_J_45d hP_J_45d hCt_J_45d h138_J_45d hHi_J_45d h37_J_45d hE_J_45d hS_J_45d hl0_J_45d hr0_J_45d
            · refine k_aload_n hC dL_law_274 rfl 7 rfl ?_
              refine k_iload hC dL_law_275 0 rfl ?_
              refine k_callS hC (c_L_areHats l hls G hN xJ_45d fl4 g4 nl 1 y_2 hI4 h00_J_45d hL_J_45d hP_J_45d hCt_J_45d) yy_L_areHats wm_L_273 rfl rfl (Nat.le_of_ble_eq_true rfl) (by decide) (by decide) ⟨by omega, by omega⟩ dL_law_277 (fun v67 w67 fl67 hp67 => ?_)
              obtain ⟨-, q1, q2, hCt67, hf67⟩ := hp67
              subst q1
              subst q2
              show KW p l e R s m args below meth c 14 G Q w67 fl4 (cs + 1 + 3) (ss + 3 + 6) 280 [(9, vI y_2), (7, vI ((a + 1 : Nat) : Int)), (8, vI (k : Int)), (6, .ref (kad G 138)), (4, vL (allM gb)), (3, .ref (kad G 134)), (2, .ref (kad G 133)), (1, .ref (kad G 0)), (0, .ref (kb G))] [vI 1]
              refine k_if_eq hC 320 dL_law_280 rfl (by omega) (fun c_280 => absurd c_280 (by omega)) (fun c_280 => ?_)
              refine k_wid (c1 := cs + 4) (s1 := ss + 9) ⟨by omega, by omega⟩ ?_
              have h_68 : w67 0 = .inr (11, [.ref (kad G 1), .ref (kad G 32), .ref (kad G 3), .ref (kad G 37), vI 1, .ref (kad G 44), .ref (kad G 10), .ref (kad G 116), .ref (kad G 129), .ref (kad G 132)]) := (hf67 0 (by omega)).trans h00_J_45d
              have h_69 : w67 129 = qdO G := (hf67 129 (by omega)).trans h129_J_45d
              have hB_70 : kLog G w67 3 g4 := hL_J_45d.fr (fun j q1 q2 => (hf67 j (by omega)))
              have hB_71 : kPlan G w67 32 g4 nl := hP_J_45d.fr (fun j q1 q2 => (hf67 j (by omega)))
              have h_72 : w67 138 = lA G 10 (kup F ((a : Int)).toNat (allM g)) := (hf67 138 (by omega)).trans h138_J_45d
              have hc_73 : kHist G w67 (hsP hs nx g) ((((nx + 1) % 10) : Nat) : Int) ((a + 1 : Nat) : Int) := (hHi_J_45d.fr (fun j q1 q2 => (hf67 j (by omega))))
              have hc_74 : kLog G w67 37 gb := (h37_J_45d.fr (fun j q1 q2 => (hf67 j (by omega))))
              have hc_75 : owR G w67 fl4 g4 := (hE_J_45d.fr (fun j q1 q2 => (hf67 j (by omega))))
              have hc_76 : saR G w67 [] := (hS_J_45d.fr (fun j hj => (hf67 j (by omega))))
              have hc_77 : (∃ lf, w67 130 = iA G 12 lf) := (hl0_J_45d.elim (fun z hz => ⟨z, ((hf67 130 (by omega))).trans hz⟩))
              have hc_78 : (∃ rf, w67 131 = iA G 12 rf) := (hr0_J_45d.elim (fun z hz => ⟨z, ((hf67 131 (by omega))).trans hz⟩))
              exact J_45c w67 h_68 h_69 hB_70 hB_71 hCt67 h_72 hc_73 hc_74 hc_75 hc_76 hc_77 hc_78
          refine k_iload hC dL_law_250 4 rfl ?_
          refine k_iconst hC dL_law_252 ?_
          refine k_irem hC dL_law_253 (by omega) (by omega) ?_
          refine k_topv (vI ((k : Int) % 3)) (congrArg vI (Int.tmod_eq_emod_of_nonneg (by omega))) ?_
          skip
          refine k_if_ne hC 266 dL_law_254 rfl (by omega) (fun c_254 => ?_) (fun c_254 => ?_)
          · refine k_lvs (ls := [3, 0, 4, 5, 6, 7, 8, 9, 10]) [(9, vI y_2), (7, vI ((a + 1 : Nat) : Int)), (8, vI (k : Int)), (6, .ref (kad G 138)), (4, vL (allM gb)), (3, .ref (kad G 134)), (2, .ref (kad G 133)), (1, .ref (kad G 0)), (0, .ref (kb G))] rfl ?_
            refine k_wid (c1 := cs + 1) (s1 := ss + 3) ⟨by omega, by omega⟩ ?_
            exact J_45d w31 h_34 h_38 hB_35 hB_36 hB_37 hw31 hHn_44 hc_39 hc_40 hc_41 hc_42 hc_43
          · refine k_aload_n hC dL_law_257 rfl 9 rfl ?_
            refine k_iload hC dL_law_258 3 rfl ?_
            refine k_callS hC (c_L_areSound l hls G hN w31 fl4 g4 nl 1 y_2 hI4 h_34 hB_35 hB_36 hB_37) yy_L_areSound wm_L_255 rfl rfl (Nat.le_of_ble_eq_true rfl) (by decide) (by decide) ⟨by omega, by omega⟩ dL_law_260 (fun v79 w79 fl79 hp79 => ?_)
            obtain ⟨-, q1, q2, hCt79, hf79⟩ := hp79
            subst q1
            subst q2
            show KW p l e R s m args below meth c 14 G Q w79 fl4 (cs + 1) (ss + 3) 263 [(7, vI ((a + 1 : Nat) : Int)), (12, vI 1), (10, vL (allM g)), (9, vI y_2), (8, vI (k : Int)), (6, .ref (kad G 138)), (4, vL (allM gb)), (3, .ref (kad G 134)), (2, .ref (kad G 133)), (1, .ref (kad G 0)), (0, .ref (kb G))] [vI 1]
            refine k_if_eq hC 320 dL_law_263 rfl (by omega) (fun c_263 => absurd c_263 (by omega)) (fun c_263 => ?_)
            refine k_lvs (ls := [3, 0, 4, 5, 6, 7, 8, 9, 10]) [(9, vI y_2), (7, vI ((a + 1 : Nat) : Int)), (8, vI (k : Int)), (6, .ref (kad G 138)), (4, vL (allM gb)), (3, .ref (kad G 134)), (2, .ref (kad G 133)), (1, .ref (kad G 0)), (0, .ref (kb G))] rfl ?_
            refine k_wid (c1 := cs + 1) (s1 := ss + 3) ⟨by omega, by omega⟩ ?_
            have h_80 : w79 0 = .inr (11, [.ref (kad G 1), .ref (kad G 32), .ref (kad G 3), .ref (kad G 37), vI 1, .ref (kad G 44), .ref (kad G 10), .ref (kad G 116), .ref (kad G 129), .ref (kad G 132)]) := (hf79 0 (by omega)).trans h_34
            have h_81 : w79 129 = qdO G := (hf79 129 (by omega)).trans h_38
            have hB_82 : kLog G w79 3 g4 := hB_35.fr (fun j q1 q2 => (hf79 j (by omega)))
            have hB_83 : kPlan G w79 32 g4 nl := hB_36.fr (fun j q1 q2 => (hf79 j (by omega)))
            have h_84 : w79 138 = lA G 10 (kup F ((a : Int)).toNat (allM g)) := (hf79 138 (by omega)).trans hw31
            have hc_85 : kHist G w79 (hsP hs nx g) ((((nx + 1) % 10) : Nat) : Int) ((a + 1 : Nat) : Int) := (hHn_44.fr (fun j q1 q2 => (hf79 j (by omega))))
            have hc_86 : kLog G w79 37 gb := (hc_39.fr (fun j q1 q2 => (hf79 j (by omega))))
            have hc_87 : owR G w79 fl4 g4 := (hc_40.fr (fun j q1 q2 => (hf79 j (by omega))))
            have hc_88 : saR G w79 [] := (hc_41.fr (fun j hj => (hf79 j (by omega))))
            have hc_89 : (∃ lf, w79 130 = iA G 12 lf) := (hc_42.elim (fun z hz => ⟨z, ((hf79 130 (by omega))).trans hz⟩))
            have hc_90 : (∃ rf, w79 131 = iA G 12 rf) := (hc_43.elim (fun z hz => ⟨z, ((hf79 131 (by omega))).trans hz⟩))
            exact J_45d w79 h_80 h_81 hB_82 hB_83 hCt79 h_84 hc_85 hc_86 hc_87 hc_88 hc_89 hc_90
        · have ha9 : ((a : Int) - 1).toNat = 9 := by omega
          have ha10 : a = 10 := by omega
          refine k_iconst hC dL_law_200 ?_
          refine k_istore hC [(13, vI 1), (12, vI 1), (10, vL (allM g)), (9, vI y_2), (8, vI (k : Int)), (7, vI (a : Int)), (6, .ref (kad G 138)), (4, vL (allM gb)), (3, .ref (kad G 134)), (2, .ref (kad G 133)), (1, .ref (kad G 0)), (0, .ref (kb G))] dL_law_201 (by decide) rfl ?_
          refine k_iload hC dL_law_203 0 rfl ?_
          refine k_bipush hC dL_law_205 (by decide) ?_
          refine k_icmp_ge hC 228 dL_law_207 rfl (by omega) (by omega) (fun c_207 => absurd c_207 (by omega)) (fun c_207 => ?_)
          refine k_aload hC dL_law_210 6 rfl ?_
          refine k_iload hC dL_law_212 0 rfl ?_
          refine k_iconst hC dL_law_214 ?_
          refine k_isub hC dL_law_215 ?_
          refine k_topv (vI (0)) (congrArg vI (rfl)) ?_
          skip
          refine k_aload hC dL_law_216 6 rfl ?_
          refine k_iload hC dL_law_218 0 rfl ?_
          refine k_lald hC (Nat.lt_of_lt_of_le (by decide) hM2) h_30 (by omega) (by decide) dL_law_220 ?_
          refine k_topv (vL (F 1)) rfl ?_
          refine k_topv (vL (F 1)) rfl ?_
          skip
          refine k_last hC (Nat.lt_of_lt_of_le (by decide) hM2) h_30 (by omega) (by decide) dL_law_221 (fun w91 hw91 hf91 => ?_)
          refine k_iinc hC (y := 2) [(13, vI 2), (12, vI 1), (10, vL (allM g)), (9, vI y_2), (8, vI (k : Int)), (7, vI (a : Int)), (6, .ref (kad G 138)), (4, vL (allM gb)), (3, .ref (kad G 134)), (2, .ref (kad G 133)), (1, .ref (kad G 0)), (0, .ref (kb G))] (j := 0) dL_law_222 rfl (by decide) (by decide) rfl ?_
          refine k_goto hC 203 dL_law_225 rfl ?_
          refine k_iload hC dL_law_203 0 rfl ?_
          refine k_bipush hC dL_law_205 (by decide) ?_
          refine k_icmp_ge hC 228 dL_law_207 rfl (by omega) (by omega) (fun c_207 => absurd c_207 (by omega)) (fun c_207 => ?_)
          refine k_aload hC dL_law_210 6 rfl ?_
          refine k_iload hC dL_law_212 0 rfl ?_
          refine k_iconst hC dL_law_214 ?_
          refine k_isub hC dL_law_215 ?_
          refine k_topv (vI (1)) (congrArg vI (rfl)) ?_
          skip
          refine k_aload hC dL_law_216 6 rfl ?_
          refine k_iload hC dL_law_218 0 rfl ?_
          refine k_lald hC (Nat.lt_of_lt_of_le (by decide) hM2) hw91 (by omega) (by decide) dL_law_220 ?_
          refine k_topv (vL ((kup F 0 (F 1)) (2 : Nat))) rfl ?_
          refine k_topv (vL (F 2)) rfl ?_
          skip
          refine k_last hC (Nat.lt_of_lt_of_le (by decide) hM2) hw91 (by omega) (by decide) dL_law_221 (fun w92 hw92 hf92 => ?_)
          refine k_iinc hC (y := 3) [(13, vI 3), (12, vI 1), (10, vL (allM g)), (9, vI y_2), (8, vI (k : Int)), (7, vI (a : Int)), (6, .ref (kad G 138)), (4, vL (allM gb)), (3, .ref (kad G 134)), (2, .ref (kad G 133)), (1, .ref (kad G 0)), (0, .ref (kb G))] (j := 0) dL_law_222 rfl (by decide) (by decide) rfl ?_
          refine k_goto hC 203 dL_law_225 rfl ?_
          refine k_iload hC dL_law_203 0 rfl ?_
          refine k_bipush hC dL_law_205 (by decide) ?_
          refine k_icmp_ge hC 228 dL_law_207 rfl (by omega) (by omega) (fun c_207 => absurd c_207 (by omega)) (fun c_207 => ?_)
          refine k_aload hC dL_law_210 6 rfl ?_
          refine k_iload hC dL_law_212 0 rfl ?_
          refine k_iconst hC dL_law_214 ?_
          refine k_isub hC dL_law_215 ?_
          refine k_topv (vI (2)) (congrArg vI (rfl)) ?_
          skip
          refine k_aload hC dL_law_216 6 rfl ?_
          refine k_iload hC dL_law_218 0 rfl ?_
          refine k_lald hC (Nat.lt_of_lt_of_le (by decide) hM2) hw92 (by omega) (by decide) dL_law_220 ?_
          refine k_topv (vL ((kup (kup F 0 (F 1)) 1 (F 2)) (3 : Nat))) rfl ?_
          refine k_topv (vL (F 3)) rfl ?_
          skip
          refine k_last hC (Nat.lt_of_lt_of_le (by decide) hM2) hw92 (by omega) (by decide) dL_law_221 (fun w93 hw93 hf93 => ?_)
          refine k_iinc hC (y := 4) [(13, vI 4), (12, vI 1), (10, vL (allM g)), (9, vI y_2), (8, vI (k : Int)), (7, vI (a : Int)), (6, .ref (kad G 138)), (4, vL (allM gb)), (3, .ref (kad G 134)), (2, .ref (kad G 133)), (1, .ref (kad G 0)), (0, .ref (kb G))] (j := 0) dL_law_222 rfl (by decide) (by decide) rfl ?_
          refine k_goto hC 203 dL_law_225 rfl ?_
          refine k_iload hC dL_law_203 0 rfl ?_
          refine k_bipush hC dL_law_205 (by decide) ?_
          refine k_icmp_ge hC 228 dL_law_207 rfl (by omega) (by omega) (fun c_207 => absurd c_207 (by omega)) (fun c_207 => ?_)
          refine k_aload hC dL_law_210 6 rfl ?_
          refine k_iload hC dL_law_212 0 rfl ?_
          refine k_iconst hC dL_law_214 ?_
          refine k_isub hC dL_law_215 ?_
          refine k_topv (vI (3)) (congrArg vI (rfl)) ?_
          skip
          refine k_aload hC dL_law_216 6 rfl ?_
          refine k_iload hC dL_law_218 0 rfl ?_
          refine k_lald hC (Nat.lt_of_lt_of_le (by decide) hM2) hw93 (by omega) (by decide) dL_law_220 ?_
          refine k_topv (vL ((kup (kup (kup F 0 (F 1)) 1 (F 2)) 2 (F 3)) (4 : Nat))) rfl ?_
          refine k_topv (vL (F 4)) rfl ?_
          skip
          refine k_last hC (Nat.lt_of_lt_of_le (by decide) hM2) hw93 (by omega) (by decide) dL_law_221 (fun w94 hw94 hf94 => ?_)
          refine k_iinc hC (y := 5) [(13, vI 5), (12, vI 1), (10, vL (allM g)), (9, vI y_2), (8, vI (k : Int)), (7, vI (a : Int)), (6, .ref (kad G 138)), (4, vL (allM gb)), (3, .ref (kad G 134)), (2, .ref (kad G 133)), (1, .ref (kad G 0)), (0, .ref (kb G))] (j := 0) dL_law_222 rfl (by decide) (by decide) rfl ?_
          refine k_goto hC 203 dL_law_225 rfl ?_
          refine k_iload hC dL_law_203 0 rfl ?_
          refine k_bipush hC dL_law_205 (by decide) ?_
          refine k_icmp_ge hC 228 dL_law_207 rfl (by omega) (by omega) (fun c_207 => absurd c_207 (by omega)) (fun c_207 => ?_)
          refine k_aload hC dL_law_210 6 rfl ?_
          refine k_iload hC dL_law_212 0 rfl ?_
          refine k_iconst hC dL_law_214 ?_
          refine k_isub hC dL_law_215 ?_
          refine k_topv (vI (4)) (congrArg vI (rfl)) ?_
          skip
          refine k_aload hC dL_law_216 6 rfl ?_
          refine k_iload hC dL_law_218 0 rfl ?_
          refine k_lald hC (Nat.lt_of_lt_of_le (by decide) hM2) hw94 (by omega) (by decide) dL_law_220 ?_
          refine k_topv (vL ((kup (kup (kup (kup F 0 (F 1)) 1 (F 2)) 2 (F 3)) 3 (F 4)) (5 : Nat))) rfl ?_
          refine k_topv (vL (F 5)) rfl ?_
          skip
          refine k_last hC (Nat.lt_of_lt_of_le (by decide) hM2) hw94 (by omega) (by decide) dL_law_221 (fun w95 hw95 hf95 => ?_)
          refine k_iinc hC (y := 6) [(13, vI 6), (12, vI 1), (10, vL (allM g)), (9, vI y_2), (8, vI (k : Int)), (7, vI (a : Int)), (6, .ref (kad G 138)), (4, vL (allM gb)), (3, .ref (kad G 134)), (2, .ref (kad G 133)), (1, .ref (kad G 0)), (0, .ref (kb G))] (j := 0) dL_law_222 rfl (by decide) (by decide) rfl ?_
          refine k_goto hC 203 dL_law_225 rfl ?_
          refine k_iload hC dL_law_203 0 rfl ?_
          refine k_bipush hC dL_law_205 (by decide) ?_
          refine k_icmp_ge hC 228 dL_law_207 rfl (by omega) (by omega) (fun c_207 => absurd c_207 (by omega)) (fun c_207 => ?_)
          refine k_aload hC dL_law_210 6 rfl ?_
          refine k_iload hC dL_law_212 0 rfl ?_
          refine k_iconst hC dL_law_214 ?_
          refine k_isub hC dL_law_215 ?_
          refine k_topv (vI (5)) (congrArg vI (rfl)) ?_
          skip
          refine k_aload hC dL_law_216 6 rfl ?_
          refine k_iload hC dL_law_218 0 rfl ?_
          refine k_lald hC (Nat.lt_of_lt_of_le (by decide) hM2) hw95 (by omega) (by decide) dL_law_220 ?_
          refine k_topv (vL ((kup (kup (kup (kup (kup F 0 (F 1)) 1 (F 2)) 2 (F 3)) 3 (F 4)) 4 (F 5)) (6 : Nat))) rfl ?_
          refine k_topv (vL (F 6)) rfl ?_
          skip
          refine k_last hC (Nat.lt_of_lt_of_le (by decide) hM2) hw95 (by omega) (by decide) dL_law_221 (fun w96 hw96 hf96 => ?_)
          refine k_iinc hC (y := 7) [(13, vI 7), (12, vI 1), (10, vL (allM g)), (9, vI y_2), (8, vI (k : Int)), (7, vI (a : Int)), (6, .ref (kad G 138)), (4, vL (allM gb)), (3, .ref (kad G 134)), (2, .ref (kad G 133)), (1, .ref (kad G 0)), (0, .ref (kb G))] (j := 0) dL_law_222 rfl (by decide) (by decide) rfl ?_
          refine k_goto hC 203 dL_law_225 rfl ?_
          refine k_iload hC dL_law_203 0 rfl ?_
          refine k_bipush hC dL_law_205 (by decide) ?_
          refine k_icmp_ge hC 228 dL_law_207 rfl (by omega) (by omega) (fun c_207 => absurd c_207 (by omega)) (fun c_207 => ?_)
          refine k_aload hC dL_law_210 6 rfl ?_
          refine k_iload hC dL_law_212 0 rfl ?_
          refine k_iconst hC dL_law_214 ?_
          refine k_isub hC dL_law_215 ?_
          refine k_topv (vI (6)) (congrArg vI (rfl)) ?_
          skip
          refine k_aload hC dL_law_216 6 rfl ?_
          refine k_iload hC dL_law_218 0 rfl ?_
          refine k_lald hC (Nat.lt_of_lt_of_le (by decide) hM2) hw96 (by omega) (by decide) dL_law_220 ?_
          refine k_topv (vL ((kup (kup (kup (kup (kup (kup F 0 (F 1)) 1 (F 2)) 2 (F 3)) 3 (F 4)) 4 (F 5)) 5 (F 6)) (7 : Nat))) rfl ?_
          refine k_topv (vL (F 7)) rfl ?_
          skip
          refine k_last hC (Nat.lt_of_lt_of_le (by decide) hM2) hw96 (by omega) (by decide) dL_law_221 (fun w97 hw97 hf97 => ?_)
          refine k_iinc hC (y := 8) [(13, vI 8), (12, vI 1), (10, vL (allM g)), (9, vI y_2), (8, vI (k : Int)), (7, vI (a : Int)), (6, .ref (kad G 138)), (4, vL (allM gb)), (3, .ref (kad G 134)), (2, .ref (kad G 133)), (1, .ref (kad G 0)), (0, .ref (kb G))] (j := 0) dL_law_222 rfl (by decide) (by decide) rfl ?_
          refine k_goto hC 203 dL_law_225 rfl ?_
          refine k_iload hC dL_law_203 0 rfl ?_
          refine k_bipush hC dL_law_205 (by decide) ?_
          refine k_icmp_ge hC 228 dL_law_207 rfl (by omega) (by omega) (fun c_207 => absurd c_207 (by omega)) (fun c_207 => ?_)
          refine k_aload hC dL_law_210 6 rfl ?_
          refine k_iload hC dL_law_212 0 rfl ?_
          refine k_iconst hC dL_law_214 ?_
          refine k_isub hC dL_law_215 ?_
          refine k_topv (vI (7)) (congrArg vI (rfl)) ?_
          skip
          refine k_aload hC dL_law_216 6 rfl ?_
          refine k_iload hC dL_law_218 0 rfl ?_
          refine k_lald hC (Nat.lt_of_lt_of_le (by decide) hM2) hw97 (by omega) (by decide) dL_law_220 ?_
          refine k_topv (vL ((kup (kup (kup (kup (kup (kup (kup F 0 (F 1)) 1 (F 2)) 2 (F 3)) 3 (F 4)) 4 (F 5)) 5 (F 6)) 6 (F 7)) (8 : Nat))) rfl ?_
          refine k_topv (vL (F 8)) rfl ?_
          skip
          refine k_last hC (Nat.lt_of_lt_of_le (by decide) hM2) hw97 (by omega) (by decide) dL_law_221 (fun w98 hw98 hf98 => ?_)
          refine k_iinc hC (y := 9) [(13, vI 9), (12, vI 1), (10, vL (allM g)), (9, vI y_2), (8, vI (k : Int)), (7, vI (a : Int)), (6, .ref (kad G 138)), (4, vL (allM gb)), (3, .ref (kad G 134)), (2, .ref (kad G 133)), (1, .ref (kad G 0)), (0, .ref (kb G))] (j := 0) dL_law_222 rfl (by decide) (by decide) rfl ?_
          refine k_goto hC 203 dL_law_225 rfl ?_
          refine k_iload hC dL_law_203 0 rfl ?_
          refine k_bipush hC dL_law_205 (by decide) ?_
          refine k_icmp_ge hC 228 dL_law_207 rfl (by omega) (by omega) (fun c_207 => absurd c_207 (by omega)) (fun c_207 => ?_)
          refine k_aload hC dL_law_210 6 rfl ?_
          refine k_iload hC dL_law_212 0 rfl ?_
          refine k_iconst hC dL_law_214 ?_
          refine k_isub hC dL_law_215 ?_
          refine k_topv (vI (8)) (congrArg vI (rfl)) ?_
          skip
          refine k_aload hC dL_law_216 6 rfl ?_
          refine k_iload hC dL_law_218 0 rfl ?_
          refine k_lald hC (Nat.lt_of_lt_of_le (by decide) hM2) hw98 (by omega) (by decide) dL_law_220 ?_
          refine k_topv (vL ((kup (kup (kup (kup (kup (kup (kup (kup F 0 (F 1)) 1 (F 2)) 2 (F 3)) 3 (F 4)) 4 (F 5)) 5 (F 6)) 6 (F 7)) 7 (F 8)) (9 : Nat))) rfl ?_
          refine k_topv (vL (F 9)) rfl ?_
          skip
          refine k_last hC (Nat.lt_of_lt_of_le (by decide) hM2) hw98 (by omega) (by decide) dL_law_221 (fun w99 hw99 hf99 => ?_)
          refine k_iinc hC (y := 10) [(13, vI 10), (12, vI 1), (10, vL (allM g)), (9, vI y_2), (8, vI (k : Int)), (7, vI (a : Int)), (6, .ref (kad G 138)), (4, vL (allM gb)), (3, .ref (kad G 134)), (2, .ref (kad G 133)), (1, .ref (kad G 0)), (0, .ref (kb G))] (j := 0) dL_law_222 rfl (by decide) (by decide) rfl ?_
          refine k_goto hC 203 dL_law_225 rfl ?_
          refine k_iload hC dL_law_203 0 rfl ?_
          refine k_bipush hC dL_law_205 (by decide) ?_
          refine k_icmp_ge hC 228 dL_law_207 rfl (by omega) (by omega) (fun c_207 => ?_) (fun c_207 => absurd c_207 (by omega))
          refine k_iinc hC (y := (a : Int) - 1) [(7, vI ((a : Int) - 1)), (13, vI 10), (12, vI 1), (10, vL (allM g)), (9, vI y_2), (8, vI (k : Int)), (6, .ref (kad G 138)), (4, vL (allM gb)), (3, .ref (kad G 134)), (2, .ref (kad G 133)), (1, .ref (kad G 0)), (0, .ref (kb G))] (j := 5) dL_law_228 rfl (by omega) (by decide) rfl ?_
          refine k_aload hC dL_law_231 6 rfl ?_
          refine k_iload hC dL_law_233 0 rfl ?_
          refine k_iinc hC (y := (a : Int) - 1 + 1) [(7, vI ((a : Int) - 1 + 1)), (13, vI 10), (12, vI 1), (10, vL (allM g)), (9, vI y_2), (8, vI (k : Int)), (6, .ref (kad G 138)), (4, vL (allM gb)), (3, .ref (kad G 134)), (2, .ref (kad G 133)), (1, .ref (kad G 0)), (0, .ref (kb G))] (j := 0) dL_law_235 rfl (by omega) (by decide) rfl ?_
          refine k_lload hC dL_law_238 3 rfl ?_
          refine k_last hC (Nat.lt_of_lt_of_le (by decide) hM2) hw99 (by omega) (by decide) dL_law_240 (fun w100 hw100 hf100 => ?_)
          refine k_aload_n hC dL_law_241 rfl 10 rfl ?_
          have hc_102 : kHist G w100 (hsP hs nx g) ((((nx + 1) % 10) : Nat) : Int) (min ((a : Int) + 1) 10) := (hHi4.fr (fun j q1 q2 => (hf100 j (by omega)).trans ((hf99 j (by omega)).trans ((hf98 j (by omega)).trans ((hf97 j (by omega)).trans ((hf96 j (by omega)).trans ((hf95 j (by omega)).trans ((hf94 j (by omega)).trans ((hf93 j (by omega)).trans ((hf92 j (by omega)).trans (hf91 j (by omega))))))))))))
          have h_103 : w100 0 = .inr (11, [.ref (kad G 1), .ref (kad G 32), .ref (kad G 3), .ref (kad G 37), vI 1, .ref (kad G 44), .ref (kad G 10), .ref (kad G 116), .ref (kad G 129), .ref (kad G 132)]) := (hf100 0 (by decide)).trans ((hf99 0 (by decide)).trans ((hf98 0 (by decide)).trans ((hf97 0 (by decide)).trans ((hf96 0 (by decide)).trans ((hf95 0 (by decide)).trans ((hf94 0 (by decide)).trans ((hf93 0 (by decide)).trans ((hf92 0 (by decide)).trans ((hf91 0 (by decide)).trans h_28)))))))))
          have hB_104 : kLog G w100 3 g4 := hL4.fr (fun j q1 q2 => (hf100 j (by omega)).trans ((hf99 j (by omega)).trans ((hf98 j (by omega)).trans ((hf97 j (by omega)).trans ((hf96 j (by omega)).trans ((hf95 j (by omega)).trans ((hf94 j (by omega)).trans ((hf93 j (by omega)).trans ((hf92 j (by omega)).trans (hf91 j (by omega)))))))))))
          have hB_105 : kPlan G w100 32 g4 nl := hPn.fr (fun j q1 q2 => (hf100 j (by omega)).trans ((hf99 j (by omega)).trans ((hf98 j (by omega)).trans ((hf97 j (by omega)).trans ((hf96 j (by omega)).trans ((hf95 j (by omega)).trans ((hf94 j (by omega)).trans ((hf93 j (by omega)).trans ((hf92 j (by omega)).trans (hf91 j (by omega)))))))))))
          have hB_106 : kCht G w100 := hB_27.fr (fun j q1 q2 => (hf100 j (by omega)).trans ((hf99 j (by omega)).trans ((hf98 j (by omega)).trans ((hf97 j (by omega)).trans ((hf96 j (by omega)).trans ((hf95 j (by omega)).trans ((hf94 j (by omega)).trans ((hf93 j (by omega)).trans ((hf92 j (by omega)).trans (hf91 j (by omega)))))))))))
          refine k_callV hC (c_X11_undoCount l hls G hN w100 fl4 g4 nl 1 (hsP hs nx g) ((nx + 1) % 10) (min ((a : Int) + 1) 10) (by omega) (by omega) hc_102 hI4 h_103 hB_104 hB_105 hB_106) yy_X11_undoCount wm_L_270 (kl hN (by decide)) h_103 rfl rfl rfl rfl (Nat.le_of_ble_eq_true rfl) (by decide) (by decide) ⟨by omega, by omega⟩ dL_law_242 (fun v101 w101 fl101 hp101 => ?_)
          obtain ⟨-, q1, q2, q3⟩ := hp101
          subst q1
          subst q2
          have q4 := q3.symm
          subst q4
          show KW p l e R s m args below meth c 14 G Q w100 fl4 (cs + 1) (ss + 3) 245 [(7, vI ((a : Int) - 1 + 1)), (13, vI 10), (12, vI 1), (10, vL (allM g)), (9, vI y_2), (8, vI (k : Int)), (6, .ref (kad G 138)), (4, vL (allM gb)), (3, .ref (kad G 134)), (2, .ref (kad G 133)), (1, .ref (kad G 0)), (0, .ref (kb G))] [vI (min ((a : Int) + 1) 10)]
          refine k_iload hC dL_law_245 0 rfl ?_
          refine k_icmp_ne hC 320 dL_law_247 rfl (by omega) (by omega) (fun c_247 => (by omega : False).elim) (fun c_247 => ?_)
          have hp9 : plE gb g4 := hpb.tr hpl4
          have hh9 : hiR gb (hsP hs nx g) ((nx + 1) % 10) 10 (kup (kup (kup (kup (kup (kup (kup (kup (kup (kup F 0 (F 1)) 1 (F 2)) 2 (F 3)) 3 (F 4)) 4 (F 5)) 5 (F 6)) 6 (F 7)) 7 (F 8)) 8 (F 9)) ((a : Int) - 1).toNat (allM g)) := hiR_2 (by rw [← ha10]; exact hhi) hnx hI hpb (fun r hr => by rcases (show r = 0 ∨ r = 1 ∨ r = 2 ∨ r = 3 ∨ r = 4 ∨ r = 5 ∨ r = 6 ∨ r = 7 ∨ r = 8 by omega) with rfl | rfl | rfl | rfl | rfl | rfl | rfl | rfl | rfl <;> (rw [ha9]; rfl)) (by rw [ha9]; rfl)
          have hcn9 : (min ((a : Int) + 1) 10) = ((10 : Nat) : Int) := by omega
          have h_107 : w100 129 = qdO G := (hf100 129 (by decide)).trans ((hf99 129 (by decide)).trans ((hf98 129 (by decide)).trans ((hf97 129 (by decide)).trans ((hf96 129 (by decide)).trans ((hf95 129 (by decide)).trans ((hf94 129 (by decide)).trans ((hf93 129 (by decide)).trans ((hf92 129 (by decide)).trans ((hf91 129 (by decide)).trans h_29)))))))))
          have hc_108 : kLog G w100 37 gb := (hc_23.fr (fun j q1 q2 => (hf100 j (by omega)).trans ((hf99 j (by omega)).trans ((hf98 j (by omega)).trans ((hf97 j (by omega)).trans ((hf96 j (by omega)).trans ((hf95 j (by omega)).trans ((hf94 j (by omega)).trans ((hf93 j (by omega)).trans ((hf92 j (by omega)).trans (hf91 j (by omega))))))))))))
          have hc_109 : owR G w100 fl4 g4 := (hE4.fr (fun j q1 q2 => (hf100 j (by omega)).trans ((hf99 j (by omega)).trans ((hf98 j (by omega)).trans ((hf97 j (by omega)).trans ((hf96 j (by omega)).trans ((hf95 j (by omega)).trans ((hf94 j (by omega)).trans ((hf93 j (by omega)).trans ((hf92 j (by omega)).trans (hf91 j (by omega))))))))))))
          have hc_110 : saR G w100 [] := (hc_24.fr (fun j hj => (hf100 j (by omega)).trans ((hf99 j (by omega)).trans ((hf98 j (by omega)).trans ((hf97 j (by omega)).trans ((hf96 j (by omega)).trans ((hf95 j (by omega)).trans ((hf94 j (by omega)).trans ((hf93 j (by omega)).trans ((hf92 j (by omega)).trans (hf91 j (by omega))))))))))))
          have hc_111 : (∃ lf, w100 130 = iA G 12 lf) := (hc_25.elim (fun z hz => ⟨z, ((hf100 130 (by decide)).trans ((hf99 130 (by decide)).trans ((hf98 130 (by decide)).trans ((hf97 130 (by decide)).trans ((hf96 130 (by decide)).trans ((hf95 130 (by decide)).trans ((hf94 130 (by decide)).trans ((hf93 130 (by decide)).trans ((hf92 130 (by decide)).trans (hf91 130 (by decide))))))))))).trans hz⟩))
          have hc_112 : (∃ rf, w100 131 = iA G 12 rf) := (hc_26.elim (fun z hz => ⟨z, ((hf100 131 (by decide)).trans ((hf99 131 (by decide)).trans ((hf98 131 (by decide)).trans ((hf97 131 (by decide)).trans ((hf96 131 (by decide)).trans ((hf95 131 (by decide)).trans ((hf94 131 (by decide)).trans ((hf93 131 (by decide)).trans ((hf92 131 (by decide)).trans (hf91 131 (by decide))))))))))).trans hz⟩))
          have hHn_113 : kHist G w100 (hsP hs nx g) ((((nx + 1) % 10) : Nat) : Int) ((10 : Nat) : Int) := by rw [← hcn9]; exact hc_102
          refine k_lvs (ls := [0, 1, 2, 3, 4, 5, 6, 7, 8, 9, 10, 11]) [(7, vI ((10 : Nat) : Int)), (13, vI 10), (12, vI 1), (10, vL (allM g)), (9, vI y_2), (8, vI (k : Int)), (6, .ref (kad G 138)), (4, vL (allM gb)), (3, .ref (kad G 134)), (2, .ref (kad G 133)), (1, .ref (kad G 0)), (0, .ref (kb G))] (by simp only [lv_pick]; rw [show (a : Int) - 1 + 1 = ((10 : Nat) : Int) by omega]; rfl) ?_
          have J_114a : ∀ (xJ_114a : Nat → va_E), (xJ_114a 0 = srO G 1) → (xJ_114a 129 = qdO G) → (kLog G xJ_114a 3 g4) → (kPlan G xJ_114a 32 g4 nl) → (kCht G xJ_114a) → (xJ_114a 138 = lA G 10 (kup (kup (kup (kup (kup (kup (kup (kup (kup (kup F 0 (F 1)) 1 (F 2)) 2 (F 3)) 3 (F 4)) 4 (F 5)) 5 (F 6)) 6 (F 7)) 7 (F 8)) 8 (F 9)) ((a : Int) - 1).toNat (allM g))) → (kHist G xJ_114a (hsP hs nx g) ((((nx + 1) % 10) : Nat) : Int) ((10 : Nat) : Int)) → (kLog G xJ_114a 37 gb) → (owR G xJ_114a fl4 g4) → (saR G xJ_114a []) → ((∃ lf, xJ_114a 130 = iA G 12 lf)) → ((∃ rf, xJ_114a 131 = iA G 12 rf)) → KW p l e R s m args below meth c 14 G Q xJ_114a fl4 (cs + 12) (ss + 57) 322 [(7, vI ((10 : Nat) : Int)), (8, vI (k : Int)), (6, .ref (kad G 138)), (4, vL (allM gb)), (3, .ref (kad G 134)), (2, .ref (kad G 133)), (1, .ref (kad G 0)), (0, .ref (kb G))] [] := by
            intro xJ_114a h00_J_114a h129_J_114a hL_J_114a hP_J_114a hCt_J_114a h138_J_114a hHi_J_114a h37_J_114a hE_J_114a hS_J_114a hl0_J_114a hr0_J_114a
            refine k_iinc hC (y := (k : Int) + 1) [(8, vI ((k : Int) + 1)), (7, vI ((10 : Nat) : Int)), (6, .ref (kad G 138)), (4, vL (allM gb)), (3, .ref (kad G 134)), (2, .ref (kad G 133)), (1, .ref (kad G 0)), (0, .ref (kb G))] (j := 1) dL_law_322 rfl (by omega) (by decide) rfl ?_
            refine k_goto hC 119 dL_law_325 rfl ?_
            refine k_lvs (ls := [0, 1, 2, 3, 4, 5, 6, 7]) [(8, vI ((k + 1 : Nat) : Int)), (7, vI ((10 : Nat) : Int)), (6, .ref (kad G 138)), (4, vL (allM gb)), (3, .ref (kad G 134)), (2, .ref (kad G 133)), (1, .ref (kad G 0)), (0, .ref (kb G))] (by simp only [lv_pick]; rfl) ?_
            refine k_wid (c1 := cs + 12) (s1 := ss + 57) ⟨by omega, by omega⟩ ?_
            exact ih (k + 1) 10 g4 (hsP hs nx g) ((nx + 1) % 10) (kup (kup (kup (kup (kup (kup (kup (kup (kup (kup F 0 (F 1)) 1 (F 2)) 2 (F 3)) 3 (F 4)) 4 (F 5)) 5 (F 6)) 6 (F 7)) 7 (F 8)) 8 (F 9)) ((a : Int) - 1).toNat (allM g)) xJ_114a fl4 (cs + 12) (ss + 57) (by omega) (by omega) (by omega) (by omega) (by omega) hI4 hp9 hh9 h00_J_114a h129_J_114a hL_J_114a hP_J_114a hCt_J_114a h138_J_114a hHi_J_114a h37_J_114a hE_J_114a hS_J_114a hl0_J_114a hr0_J_114a
          have J_114b : ∀ (xJ_114b : Nat → va_E), (xJ_114b 0 = srO G 1) → (xJ_114b 129 = qdO G) → (kLog G xJ_114b 3 g4) → (kPlan G xJ_114b 32 g4 nl) → (kCht G xJ_114b) → (xJ_114b 138 = lA G 10 (kup (kup (kup (kup (kup (kup (kup (kup (kup (kup F 0 (F 1)) 1 (F 2)) 2 (F 3)) 3 (F 4)) 4 (F 5)) 5 (F 6)) 6 (F 7)) 7 (F 8)) 8 (F 9)) ((a : Int) - 1).toNat (allM g))) → (kHist G xJ_114b (hsP hs nx g) ((((nx + 1) % 10) : Nat) : Int) ((10 : Nat) : Int)) → (kLog G xJ_114b 37 gb) → (owR G xJ_114b fl4 g4) → (saR G xJ_114b []) → ((∃ lf, xJ_114b 130 = iA G 12 lf)) → ((∃ rf, xJ_114b 131 = iA G 12 rf)) → KW p l e R s m args below meth c 14 G Q xJ_114b fl4 (cs + 4) (ss + 9) 300 [(9, vI y_2), (7, vI ((10 : Nat) : Int)), (8, vI (k : Int)), (6, .ref (kad G 138)), (4, vL (allM gb)), (3, .ref (kad G 134)), (2, .ref (kad G 133)), (1, .ref (kad G 0)), (0, .ref (kb G))] [] := by
            intro xJ_114b h00_J_114b h129_J_114b hL_J_114b hP_J_114b hCt_J_114b h138_J_114b hHi_J_114b h37_J_114b hE_J_114b hS_J_114b hl0_J_114b hr0_J_114b
            refine k_iload hC dL_law_300 2 rfl ?_
            refine k_bipush hC dL_law_302 (by decide) ?_
            refine k_irem hC dL_law_304 (by omega) (by omega) ?_
            refine k_topv (vI ((k : Int) % 7)) (congrArg vI (Int.tmod_eq_emod_of_nonneg (by omega))) ?_
            skip
            refine k_bipush hC dL_law_305 (by decide) ?_
            refine k_icmp_ne hC 322 dL_law_307 rfl (by omega) (by omega) (fun c_307 => ?_) (fun c_307 => ?_)
            · refine k_lvs (ls := [1, 2, 3, 4, 5, 6, 7, 8]) [(7, vI ((10 : Nat) : Int)), (8, vI (k : Int)), (6, .ref (kad G 138)), (4, vL (allM gb)), (3, .ref (kad G 134)), (2, .ref (kad G 133)), (1, .ref (kad G 0)), (0, .ref (kb G))] rfl ?_
              refine k_wid (c1 := cs + 12) (s1 := ss + 57) ⟨by omega, by omega⟩ ?_
              exact J_114a xJ_114b h00_J_114b h129_J_114b hL_J_114b hP_J_114b hCt_J_114b h138_J_114b hHi_J_114b h37_J_114b hE_J_114b hS_J_114b hl0_J_114b hr0_J_114b
            · refine k_aload_n hC dL_law_310 rfl 7 rfl ?_
              refine k_aload_n hC dL_law_311 rfl 6 rfl ?_
              refine k_iload hC dL_law_312 0 rfl ?_
              refine k_callS hC (c_L_isTold l hls G hM xJ_114b fl4 g4 nl 1 y_2 hI4 h00_J_114b hL_J_114b hP_J_114b hCt_J_114b hS_J_114b h129_J_114b hl0_J_114b hr0_J_114b) yy_L_isTold wm_L_279 rfl rfl (Nat.le_of_ble_eq_true rfl) (by decide) (by decide) ⟨by omega, by omega⟩ dL_law_314 (fun v115 w115 fl115 hp115 => ?_)
              obtain ⟨q1, q2, hS115, hCt115, hl115, hr115, hf115⟩ := hp115
              subst q1
              subst q2
              show KW p l e R s m args below meth c 14 G Q w115 fl4 (cs + 4 + 8) (ss + 9 + 48) 317 [(9, vI y_2), (7, vI ((10 : Nat) : Int)), (8, vI (k : Int)), (6, .ref (kad G 138)), (4, vL (allM gb)), (3, .ref (kad G 134)), (2, .ref (kad G 133)), (1, .ref (kad G 0)), (0, .ref (kb G))] [vI 1]
              refine k_if_ne hC 322 dL_law_317 rfl (by omega) (fun c_317 => ?_) (fun c_317 => absurd c_317 (by omega))
              refine k_lvs (ls := [1, 2, 3, 4, 5, 6, 7, 8]) [(7, vI ((10 : Nat) : Int)), (8, vI (k : Int)), (6, .ref (kad G 138)), (4, vL (allM gb)), (3, .ref (kad G 134)), (2, .ref (kad G 133)), (1, .ref (kad G 0)), (0, .ref (kb G))] rfl ?_
              refine k_wid (c1 := cs + 12) (s1 := ss + 57) ⟨by omega, by omega⟩ ?_
              have h_116 : w115 0 = .inr (11, [.ref (kad G 1), .ref (kad G 32), .ref (kad G 3), .ref (kad G 37), vI 1, .ref (kad G 44), .ref (kad G 10), .ref (kad G 116), .ref (kad G 129), .ref (kad G 132)]) := (hf115 0 (by omega)).trans h00_J_114b
              have h_117 : w115 129 = qdO G := (hf115 129 (by omega)).trans h129_J_114b
              have hB_118 : kLog G w115 3 g4 := hL_J_114b.fr (fun j q1 q2 => (hf115 j (by omega)))
              have hB_119 : kPlan G w115 32 g4 nl := hP_J_114b.fr (fun j q1 q2 => (hf115 j (by omega)))
              have h_120 : w115 138 = lA G 10 (kup (kup (kup (kup (kup (kup (kup (kup (kup (kup F 0 (F 1)) 1 (F 2)) 2 (F 3)) 3 (F 4)) 4 (F 5)) 5 (F 6)) 6 (F 7)) 7 (F 8)) 8 (F 9)) ((a : Int) - 1).toNat (allM g)) := (hf115 138 (by omega)).trans h138_J_114b
              have hc_121 : kHist G w115 (hsP hs nx g) ((((nx + 1) % 10) : Nat) : Int) ((10 : Nat) : Int) := (hHi_J_114b.fr (fun j q1 q2 => (hf115 j (by omega))))
              have hc_122 : kLog G w115 37 gb := (h37_J_114b.fr (fun j q1 q2 => (hf115 j (by omega))))
              have hc_123 : owR G w115 fl4 g4 := (hE_J_114b.fr (fun j q1 q2 => (hf115 j (by omega))))
              exact J_114a w115 h_116 h_117 hB_118 hB_119 hCt115 h_120 hc_121 hc_122 hc_123 hS115 hl115 hr115
          have J_114c : ∀ (xJ_114c : Nat → va_E), (xJ_114c 0 = srO G 1) → (xJ_114c 129 = qdO G) → (kLog G xJ_114c 3 g4) → (kPlan G xJ_114c 32 g4 nl) → (kCht G xJ_114c) → (xJ_114c 138 = lA G 10 (kup (kup (kup (kup (kup (kup (kup (kup (kup (kup F 0 (F 1)) 1 (F 2)) 2 (F 3)) 3 (F 4)) 4 (F 5)) 5 (F 6)) 6 (F 7)) 7 (F 8)) 8 (F 9)) ((a : Int) - 1).toNat (allM g))) → (kHist G xJ_114c (hsP hs nx g) ((((nx + 1) % 10) : Nat) : Int) ((10 : Nat) : Int)) → (kLog G xJ_114c 37 gb) → (owR G xJ_114c fl4 g4) → (saR G xJ_114c []) → ((∃ lf, xJ_114c 130 = iA G 12 lf)) → ((∃ rf, xJ_114c 131 = iA G 12 rf)) → KW p l e R s m args below meth c 14 G Q xJ_114c fl4 (cs + 4) (ss + 9) 283 [(9, vI y_2), (7, vI ((10 : Nat) : Int)), (8, vI (k : Int)), (6, .ref (kad G 138)), (4, vL (allM gb)), (3, .ref (kad G 134)), (2, .ref (kad G 133)), (1, .ref (kad G 0)), (0, .ref (kb G))] [] := by
            intro xJ_114c h00_J_114c h129_J_114c hL_J_114c hP_J_114c hCt_J_114c h138_J_114c hHi_J_114c h37_J_114c hE_J_114c hS_J_114c hl0_J_114c hr0_J_114c
            refine k_iload hC dL_law_283 2 rfl ?_
            refine k_iconst hC dL_law_285 ?_
            refine k_irem hC dL_law_286 (by omega) (by omega) ?_
            refine k_topv (vI ((k : Int) % 4)) (congrArg vI (Int.tmod_eq_emod_of_nonneg (by omega))) ?_
            skip
            refine k_iconst hC dL_law_287 ?_
            refine k_icmp_ne hC 300 dL_law_288 rfl (by omega) (by omega) (fun c_288 => ?_) (fun c_288 => ?_)
            · refine k_wid (c1 := cs + 4) (s1 := ss + 9) ⟨by omega, by omega⟩ ?_
              exact J_114b xJ_114c h00_J_114c h129_J_114c hL_J_114c hP_J_114c hCt_J_114c h138_J_114c hHi_J_114c h37_J_114c hE_J_114c hS_J_114c hl0_J_114c hr0_J_114c
            · refine k_aload_n hC dL_law_291 rfl 7 rfl ?_
              refine k_iload hC dL_law_292 0 rfl ?_
              refine k_callS hC (c_L_isFix l hls G hN xJ_114c fl4 g4 nl 1 y_2 hI4 h00_J_114c hL_J_114c hP_J_114c hCt_J_114c) yy_L_isFix wm_L_276 rfl rfl (Nat.le_of_ble_eq_true rfl) (by decide) (by decide) ⟨by omega, by omega⟩ dL_law_294 (fun v124 w124 fl124 hp124 => ?_)
              obtain ⟨-, q1, q2, hCt124, hf124⟩ := hp124
              subst q1
              subst q2
              show KW p l e R s m args below meth c 14 G Q w124 fl4 (cs + 4) (ss + 9) 297 [(9, vI y_2), (7, vI ((10 : Nat) : Int)), (8, vI (k : Int)), (6, .ref (kad G 138)), (4, vL (allM gb)), (3, .ref (kad G 134)), (2, .ref (kad G 133)), (1, .ref (kad G 0)), (0, .ref (kb G))] [vI 1]
              refine k_if_eq hC 320 dL_law_297 rfl (by omega) (fun c_297 => absurd c_297 (by omega)) (fun c_297 => ?_)
              refine k_wid (c1 := cs + 4) (s1 := ss + 9) ⟨by omega, by omega⟩ ?_
              have h_125 : w124 0 = .inr (11, [.ref (kad G 1), .ref (kad G 32), .ref (kad G 3), .ref (kad G 37), vI 1, .ref (kad G 44), .ref (kad G 10), .ref (kad G 116), .ref (kad G 129), .ref (kad G 132)]) := (hf124 0 (by omega)).trans h00_J_114c
              have h_126 : w124 129 = qdO G := (hf124 129 (by omega)).trans h129_J_114c
              have hB_127 : kLog G w124 3 g4 := hL_J_114c.fr (fun j q1 q2 => (hf124 j (by omega)))
              have hB_128 : kPlan G w124 32 g4 nl := hP_J_114c.fr (fun j q1 q2 => (hf124 j (by omega)))
              have h_129 : w124 138 = lA G 10 (kup (kup (kup (kup (kup (kup (kup (kup (kup (kup F 0 (F 1)) 1 (F 2)) 2 (F 3)) 3 (F 4)) 4 (F 5)) 5 (F 6)) 6 (F 7)) 7 (F 8)) 8 (F 9)) ((a : Int) - 1).toNat (allM g)) := (hf124 138 (by omega)).trans h138_J_114c
              have hc_130 : kHist G w124 (hsP hs nx g) ((((nx + 1) % 10) : Nat) : Int) ((10 : Nat) : Int) := (hHi_J_114c.fr (fun j q1 q2 => (hf124 j (by omega))))
              have hc_131 : kLog G w124 37 gb := (h37_J_114c.fr (fun j q1 q2 => (hf124 j (by omega))))
              have hc_132 : owR G w124 fl4 g4 := (hE_J_114c.fr (fun j q1 q2 => (hf124 j (by omega))))
              have hc_133 : saR G w124 [] := (hS_J_114c.fr (fun j hj => (hf124 j (by omega))))
              have hc_134 : (∃ lf, w124 130 = iA G 12 lf) := (hl0_J_114c.elim (fun z hz => ⟨z, ((hf124 130 (by omega))).trans hz⟩))
              have hc_135 : (∃ rf, w124 131 = iA G 12 rf) := (hr0_J_114c.elim (fun z hz => ⟨z, ((hf124 131 (by omega))).trans hz⟩))
              exact J_114b w124 h_125 h_126 hB_127 hB_128 hCt124 h_129 hc_130 hc_131 hc_132 hc_133 hc_134 hc_135
          have J_114d : ∀ (xJ_114d : Nat → va_E), (xJ_114d 0 = srO G 1) → (xJ_114d 129 = qdO G) → (kLog G xJ_114d 3 g4) → (kPlan G xJ_114d 32 g4 nl) → (kCht G xJ_114d) → (xJ_114d 138 = lA G 10 (kup (kup (kup (kup (kup (kup (kup (kup (kup (kup F 0 (F 1)) 1 (F 2)) 2 (F 3)) 3 (F 4)) 4 (F 5)) 5 (F 6)) 6 (F 7)) 7 (F 8)) 8 (F 9)) ((a : Int) - 1).toNat (allM g))) → (kHist G xJ_114d (hsP hs nx g) ((((nx + 1) % 10) : Nat) : Int) ((10 : Nat) : Int)) → (kLog G xJ_114d 37 gb) → (owR G xJ_114d fl4 g4) → (saR G xJ_114d []) → ((∃ lf, xJ_114d 130 = iA G 12 lf)) → ((∃ rf, xJ_114d 131 = iA G 12 rf)) → KW p l e R s m args below meth c 14 G Q xJ_114d fl4 (cs + 1) (ss + 3) 266 [(9, vI y_2), (7, vI ((10 : Nat) : Int)), (8, vI (k : Int)), (6, .ref (kad G 138)), (4, vL (allM gb)), (3, .ref (kad G 134)), (2, .ref (kad G 133)), (1, .ref (kad G 0)), (0, .ref (kb G))] [] := by
            intro xJ_114d h00_J_114d h129_J_114d hL_J_114d hP_J_114d hCt_J_114d h138_J_114d hHi_J_114d h37_J_114d hE_J_114d hS_J_114d hl0_J_114d hr0_J_114d
            refine k_iload hC dL_law_266 2 rfl ?_
            refine k_iconst hC dL_law_268 ?_
            refine k_irem hC dL_law_269 (by omega) (by omega) ?_
            refine k_topv (vI ((k : Int) % 4)) (congrArg vI (Int.tmod_eq_emod_of_nonneg (by omega))) ?_
            skip
            refine k_iconst hC dL_law_270 ?_
            refine k_icmp_ne hC 283 dL_law_271 rfl (by omega) (by omega) (fun c_271 => ?_) (fun c_271 => ?_)
            · refine k_wid (c1 := cs + 4) (s1 := ss + 9) ⟨by omega, by omega⟩ ?_
              exact J_114c xJ_114d h00_J_114d h129_J_114d hL_J_114d hP_J_114d hCt_J_114d h138_J_114d hHi_J_114d h37_J_114d hE_J_114d hS_J_114d hl0_J_114d hr0_J_114d
            · refine k_aload_n hC dL_law_274 rfl 7 rfl ?_
              refine k_iload hC dL_law_275 0 rfl ?_
              refine k_callS hC (c_L_areHats l hls G hN xJ_114d fl4 g4 nl 1 y_2 hI4 h00_J_114d hL_J_114d hP_J_114d hCt_J_114d) yy_L_areHats wm_L_273 rfl rfl (Nat.le_of_ble_eq_true rfl) (by decide) (by decide) ⟨by omega, by omega⟩ dL_law_277 (fun v136 w136 fl136 hp136 => ?_)
              obtain ⟨-, q1, q2, hCt136, hf136⟩ := hp136
              subst q1
              subst q2
              show KW p l e R s m args below meth c 14 G Q w136 fl4 (cs + 1 + 3) (ss + 3 + 6) 280 [(9, vI y_2), (7, vI ((10 : Nat) : Int)), (8, vI (k : Int)), (6, .ref (kad G 138)), (4, vL (allM gb)), (3, .ref (kad G 134)), (2, .ref (kad G 133)), (1, .ref (kad G 0)), (0, .ref (kb G))] [vI 1]
              refine k_if_eq hC 320 dL_law_280 rfl (by omega) (fun c_280 => absurd c_280 (by omega)) (fun c_280 => ?_)
              refine k_wid (c1 := cs + 4) (s1 := ss + 9) ⟨by omega, by omega⟩ ?_
              have h_137 : w136 0 = .inr (11, [.ref (kad G 1), .ref (kad G 32), .ref (kad G 3), .ref (kad G 37), vI 1, .ref (kad G 44), .ref (kad G 10), .ref (kad G 116), .ref (kad G 129), .ref (kad G 132)]) := (hf136 0 (by omega)).trans h00_J_114d
              have h_138 : w136 129 = qdO G := (hf136 129 (by omega)).trans h129_J_114d
              have hB_139 : kLog G w136 3 g4 := hL_J_114d.fr (fun j q1 q2 => (hf136 j (by omega)))
              have hB_140 : kPlan G w136 32 g4 nl := hP_J_114d.fr (fun j q1 q2 => (hf136 j (by omega)))
              have h_141 : w136 138 = lA G 10 (kup (kup (kup (kup (kup (kup (kup (kup (kup (kup F 0 (F 1)) 1 (F 2)) 2 (F 3)) 3 (F 4)) 4 (F 5)) 5 (F 6)) 6 (F 7)) 7 (F 8)) 8 (F 9)) ((a : Int) - 1).toNat (allM g)) := (hf136 138 (by omega)).trans h138_J_114d
              have hc_142 : kHist G w136 (hsP hs nx g) ((((nx + 1) % 10) : Nat) : Int) ((10 : Nat) : Int) := (hHi_J_114d.fr (fun j q1 q2 => (hf136 j (by omega))))
              have hc_143 : kLog G w136 37 gb := (h37_J_114d.fr (fun j q1 q2 => (hf136 j (by omega))))
              have hc_144 : owR G w136 fl4 g4 := (hE_J_114d.fr (fun j q1 q2 => (hf136 j (by omega))))
              have hc_145 : saR G w136 [] := (hS_J_114d.fr (fun j hj => (hf136 j (by omega))))
              have hc_146 : (∃ lf, w136 130 = iA G 12 lf) := (hl0_J_114d.elim (fun z hz => ⟨z, ((hf136 130 (by omega))).trans hz⟩))
              have hc_147 : (∃ rf, w136 131 = iA G 12 rf) := (hr0_J_114d.elim (fun z hz => ⟨z, ((hf136 131 (by omega))).trans hz⟩))
              exact J_114c w136 h_137 h_138 hB_139 hB_140 hCt136 h_141 hc_142 hc_143 hc_144 hc_145 hc_146 hc_147
          refine k_iload hC dL_law_250 5 rfl ?_
          refine k_iconst hC dL_law_252 ?_
          refine k_irem hC dL_law_253 (by omega) (by omega) ?_
          refine k_topv (vI ((k : Int) % 3)) (congrArg vI (Int.tmod_eq_emod_of_nonneg (by omega))) ?_
          skip
          refine k_if_ne hC 266 dL_law_254 rfl (by omega) (fun c_254 => ?_) (fun c_254 => ?_)
          · refine k_lvs (ls := [4, 0, 5, 6, 7, 8, 9, 10, 11]) [(9, vI y_2), (7, vI ((10 : Nat) : Int)), (8, vI (k : Int)), (6, .ref (kad G 138)), (4, vL (allM gb)), (3, .ref (kad G 134)), (2, .ref (kad G 133)), (1, .ref (kad G 0)), (0, .ref (kb G))] rfl ?_
            refine k_wid (c1 := cs + 1) (s1 := ss + 3) ⟨by omega, by omega⟩ ?_
            exact J_114d w100 h_103 h_107 hB_104 hB_105 hB_106 hw100 hHn_113 hc_108 hc_109 hc_110 hc_111 hc_112
          · refine k_aload_n hC dL_law_257 rfl 10 rfl ?_
            refine k_iload hC dL_law_258 4 rfl ?_
            refine k_callS hC (c_L_areSound l hls G hN w100 fl4 g4 nl 1 y_2 hI4 h_103 hB_104 hB_105 hB_106) yy_L_areSound wm_L_255 rfl rfl (Nat.le_of_ble_eq_true rfl) (by decide) (by decide) ⟨by omega, by omega⟩ dL_law_260 (fun v148 w148 fl148 hp148 => ?_)
            obtain ⟨-, q1, q2, hCt148, hf148⟩ := hp148
            subst q1
            subst q2
            show KW p l e R s m args below meth c 14 G Q w148 fl4 (cs + 1) (ss + 3) 263 [(7, vI ((10 : Nat) : Int)), (13, vI 10), (12, vI 1), (10, vL (allM g)), (9, vI y_2), (8, vI (k : Int)), (6, .ref (kad G 138)), (4, vL (allM gb)), (3, .ref (kad G 134)), (2, .ref (kad G 133)), (1, .ref (kad G 0)), (0, .ref (kb G))] [vI 1]
            refine k_if_eq hC 320 dL_law_263 rfl (by omega) (fun c_263 => absurd c_263 (by omega)) (fun c_263 => ?_)
            refine k_lvs (ls := [4, 0, 5, 6, 7, 8, 9, 10, 11]) [(9, vI y_2), (7, vI ((10 : Nat) : Int)), (8, vI (k : Int)), (6, .ref (kad G 138)), (4, vL (allM gb)), (3, .ref (kad G 134)), (2, .ref (kad G 133)), (1, .ref (kad G 0)), (0, .ref (kb G))] rfl ?_
            refine k_wid (c1 := cs + 1) (s1 := ss + 3) ⟨by omega, by omega⟩ ?_
            have h_149 : w148 0 = .inr (11, [.ref (kad G 1), .ref (kad G 32), .ref (kad G 3), .ref (kad G 37), vI 1, .ref (kad G 44), .ref (kad G 10), .ref (kad G 116), .ref (kad G 129), .ref (kad G 132)]) := (hf148 0 (by omega)).trans h_103
            have h_150 : w148 129 = qdO G := (hf148 129 (by omega)).trans h_107
            have hB_151 : kLog G w148 3 g4 := hB_104.fr (fun j q1 q2 => (hf148 j (by omega)))
            have hB_152 : kPlan G w148 32 g4 nl := hB_105.fr (fun j q1 q2 => (hf148 j (by omega)))
            have h_153 : w148 138 = lA G 10 (kup (kup (kup (kup (kup (kup (kup (kup (kup (kup F 0 (F 1)) 1 (F 2)) 2 (F 3)) 3 (F 4)) 4 (F 5)) 5 (F 6)) 6 (F 7)) 7 (F 8)) 8 (F 9)) ((a : Int) - 1).toNat (allM g)) := (hf148 138 (by omega)).trans hw100
            have hc_154 : kHist G w148 (hsP hs nx g) ((((nx + 1) % 10) : Nat) : Int) ((10 : Nat) : Int) := (hHn_113.fr (fun j q1 q2 => (hf148 j (by omega))))
            have hc_155 : kLog G w148 37 gb := (hc_108.fr (fun j q1 q2 => (hf148 j (by omega))))
            have hc_156 : owR G w148 fl4 g4 := (hc_109.fr (fun j q1 q2 => (hf148 j (by omega))))
            have hc_157 : saR G w148 [] := (hc_110.fr (fun j hj => (hf148 j (by omega))))
            have hc_158 : (∃ lf, w148 130 = iA G 12 lf) := (hc_111.elim (fun z hz => ⟨z, ((hf148 130 (by omega))).trans hz⟩))
            have hc_159 : (∃ rf, w148 131 = iA G 12 rf) := (hc_112.elim (fun z hz => ⟨z, ((hf148 131 (by omega))).trans hz⟩))
            exact J_114d w148 h_149 h_150 hB_151 hB_152 hCt148 h_153 hc_154 hc_155 hc_156 hc_157 hc_158 hc_159
