def i32 (a : Int) : Int := (Int32.ofInt a).toInt
theorem i32_r (a : Int) : -2147483648 ≤ i32 a ∧ i32 a ≤ 2147483647 := ⟨by have := Int32.le_toInt (Int32.ofInt a); unfold i32; omega, by have := Int32.toInt_lt (Int32.ofInt a); unfold i32; omega⟩
theorem i32_l (a : Int) : -9223372036854775808 ≤ i32 a ∧ i32 a ≤ 9223372036854775807 := by have := i32_r a; omega
theorem vI_32 (a : Int) : vI a = vI (i32 a) := by unfold vI i32; rw [Int32.ofInt_toInt]
theorem i32_e {a : Int} (h : -2147483648 ≤ a ∧ a ≤ 2147483647) : i32 a = a := k_t32 h
def wrO (G : kG) (c cn ci : Prop) (val nI : Int) (P P' : (Nat → va_E) → va_W → Prop) : Option Value → (Nat → va_E) → va_W → Prop := fun v1 w1 fl1 => (some (vI 0) = v1 ∧ c ∧ ∃ w2, P w2 fl1 ∧ w1 148 = lA G 1 (fun _ => i32 val) ∧ ∀ j, j ≠ 148 → w1 j = w2 j) ∨ (P' w1 fl1 ∧ ((cn ∧ some (vI 1) = v1) ∨ (ci ∧ some (vI nI) = v1)))
def wrD (G : kG) (c cn ci : Prop) (val : UInt64) (nI : Int) (P P' : (Nat → va_E) → va_W → Prop) : Option Value → (Nat → va_E) → va_W → Prop := fun v1 w1 fl1 => (some (vI 0) = v1 ∧ c ∧ ∃ w2, P w2 fl1 ∧ (∃ gD : Nat → UInt64, w1 149 = dA G 1 gD ∧ gD 0 = val) ∧ ∀ j, j ≠ 149 → w1 j = w2 j) ∨ (P' w1 fl1 ∧ ((cn ∧ some (vI 1) = v1) ∨ (ci ∧ some (vI nI) = v1)))
theorem insV_01 {g : Nat → Int} {i j k : Nat} {T x y : Int} : insV g i j k T x y = 0 ∨ insV g i j k T x y = 1 := by
  unfold insV selI; split
  · exact Or.inr rfl
  · exact Or.inl rfl
theorem wq_I : Cond.castable "java/lang/IllegalArgumentException" "java/lang/IllegalArgumentException" ∈ kwords := kw_mem 713 (by decide +kernel) rfl
theorem wq_N : Cond.castable "java/util/NoSuchElementException" "java/util/NoSuchElementException" ∈ kwords := kw_mem 979 (by decide +kernel) rfl
section
variable {p : Program} {l : Launch} {e : Env} {R : Room} {s : State} {m : MethodId} {args : Array Value} {below : List Frame} {meth : Method} {c : Code} {cc : ByteArray} {own : String} {nL : Nat} {G : kG} {d0 mc0 ms0 : Nat} {Q : State → Prop} {w : Nat → va_E} {fl : va_W} {cells slots pc : Nat} {lv : List (Nat × Value)} {st : List Value}
theorem k_dast1 (hC : kC p l R s m args meth c cc own nL G d0 mc0 ms0) {k : Nat} {f : Nat → UInt64} {x : UInt64} (hk : k < kN G) (hw : w k = dA G 1 f) (d : decode cc pc = .ok (.dastore, 1))
    (kk : ∀ (w1 : Nat → va_E) (gD : Nat → UInt64), w1 k = dA G 1 gD → gD 0 = x → (∀ j, j ≠ k → w1 j = w j) → KW p l e R s m args below meth c nL G Q w1 fl cells slots (pc + 1) lv st) : KW p l e R s m args below meth c nL G Q w fl cells slots pc lv (.double x :: vI 0 :: .ref (kad G k) :: st) := by
  intro H locs ls h1 h2 h3 h4
  refine va_dast hC.1 hC.2.1 hC.2.2.2.2.2.1 h1 h2 h3 k 3 (by rw [kws_at hk, hw]; rfl) rfl (k_in (a := 0) (n := 1) (by omega) (by omega)) d (fun H1 locs1 g1 g2 g3 => ?_)
  rw [kws_set hk] at g1 g2
  exact kk _ (vf_upd f (Int32.ofInt 0).toNatClampNeg x) (va_up_self _ _ _) (by unfold vf_upd; exact if_pos rfl) (fun j hj => by simp [va_up, hj]) H1 locs1 ls g1 g2 g3 h4
theorem k_dald1 (hC : kC p l R s m args meth c cc own nL G d0 mc0 ms0) {k : Nat} {f : Nat → UInt64} (hk : k < kN G) (hw : w k = dA G 1 f) (d : decode cc pc = .ok (.daload, 1)) (kk : KW p l e R s m args below meth c nL G Q w fl cells slots (pc + 1) lv (.double (f 0) :: st)) : KW p l e R s m args below meth c nL G Q w fl cells slots pc lv (vI 0 :: .ref (kad G k) :: st) := fun H locs ls h1 h2 h3 h4 => va_dald hC.1 hC.2.1 hC.2.2.2.2.2.1 h1 k 3 (by rw [kws_at hk, hw]; rfl) rfl (k_in (a := 0) (n := 1) (by omega) (by omega)) d (by rw [k_nat (by omega)]; exact kk H locs ls h1 h2 h3 h4)
end
theorem k_topL0 {p : Program} {l : Launch} {e : Env} {R : Room} {s : State} {m : MethodId} {args : Array Value} {below : List Frame} {meth : Method} {c : Code} {nL : Nat} {G : kG} {Q : State → Prop} {w : Nat → va_E} {fl : va_W} {cells slots pc : Nat} {lv : List (Nat × Value)} {st : List Value} {u : Value} (v : Value) (h : u = v) (k : KW p l e R s m args below meth c nL G Q w fl cells slots pc lv (v :: st)) : KW p l e R s m args below meth c nL G Q w fl cells slots pc lv (u :: st) := by subst h; exact k
set_option maxRecDepth 100000 in
set_option maxHeartbeats 4000000 in
theorem c_L_load (l : Launch) (hls : l.stackTraces = false) (G : kG) (hN : kN G = 150) (w : Nat → va_E) (fl : va_W) (bt : Nat → Int) (c0 : Nat) (cd ea kd nm sa nx en sv : Int) (L : Int) (n : Nat) (g nl0 gp0 gl0 nl9 : Nat → Int) (hs : Nat → Nat → Int) (nx9 : Nat) (cn9 : Int) (out : Nat → Int) (hL : -2147483648 ≤ L ∧ L ≤ 2147483647) (hn : n = L.toNat) (hc7 : c0 ≤ 700) (hb : btOK bt) (h00 : w 0 = srO G sv) (h2 : w 2 = byA G bt) (h116 : w 116 = trO G) (hLg : kLog G w 3 g) (hP0 : kPlan G w 32 g nl0) (hP2 : kPlan G w 117 gp0 nl9) (hL2 : kLog G w 122 gl0) (hHi : kHist G w hs (nx9 : Int) cn9) (h1 : w 1 = .inr (10, [.ref (kad G 2), vI (c0 : Int), vI cd, vI ea, vI kd, vI nm, vI sa, vI nx, vI en])) (h148 : w 148 = lA G 1 out) : KL l G yL_load cL_load 4 (some .int) [(0, 9, 12, 13)] 9 8 48 [.ref (kad G 0), vI L, .ref (kad G 148)] w fl (wrO G (0 ≤ L ∧ L ≤ (c0 : Int)) False (¬ (0 ≤ L ∧ L ≤ (c0 : Int))) (selI ((txF bt n).1.1 = 0) ((txF bt n).2 2) (-10 - (txF bt n).1.1)) 1 (fun w2 fl2 => fl = fl2 ∧ (fun w1 => tkR G w1 bt n (txF bt n).1 ∧ ∃ gp1 gl1 nl1 : Nat → Int, kPlan G w1 117 gp1 nl1 ∧ kLog G w1 122 gl1 ∧ ((¬ (txF bt n).1.1 = 0 ∧ ∀ j, ((j < 117 ∨ 128 < j) ∧ j ≠ 1) → w1 j = w j) ∨ ((txF bt n).1.1 = 0 ∧ (gE (copyLM gp1 gl1) (txF bt n).2 ∧ NmR (txF bt n).2 nl1) ∧ w1 0 = srO G 0 ∧ kPlan G w1 32 gp1 nl1 ∧ kLog G w1 3 (copyLM g gl1) ∧ kHist G w1 hs 0 0 ∧ ∀ j, ((10 ≤ j ∧ (j < 32 ∨ 36 < j) ∧ (j < 117 ∨ 128 < j) ∧ j ≠ 44) ∨ j = 2) → w1 j = w j))) w2) (fun w2 fl2 => fl = fl2 ∧ (fun w1 => w1 = w) w2)) := by
  refine KL_of hls (by decide +kernel) rfl (lv0 := [(0, .ref (kad G 0)), (1, vI L), (2, .ref (kad G 148))]) rfl (Nat.le_of_ble_eq_true rfl) (fun p e R s m args below meth c Q hC hr hTb hNc hQ => ?_)
  refine k_aload_n hC dL_load_0 rfl 2 rfl ?_
  refine k_iconst hC dL_load_1 ?_
  refine k_aload_n hC dL_load_2 rfl 0 rfl ?_
  refine k_iload_n hC dL_load_3 rfl 1 rfl ?_
  refine k_callVT hC (c_X11_load l hls G hN w fl bt c0 cd ea kd nm sa nx en sv L n g nl0 gp0 gl0 nl9 hs nx9 cn9 hL hn hc7 hb h00 h2 h116 hLg hP0 hP2 hL2 hHi h1) yy_X11_load wm_L_7 (kl hN (by decide)) h00 rfl rfl rfl rfl (Nat.le_of_ble_eq_true rfl) (by decide) (by decide) ⟨by decide, by decide⟩ dL_load_4 (fun E w2 fl2 hx => ?_) (fun v9 w2 fl2 hp => ?_)
  · obtain ⟨hE, hfl, hP⟩ := hx
    rcases hE with ⟨hE, hcc⟩ | ⟨hE, hcc⟩
    · exact hcc.elim
    · subst hE
      refine k_catch1 hC hTb ⟨by decide, by decide⟩ (by decide) wl_L_13 wq_I (fun q9 => ?_)
      refine k_astore_n hC [(3, .ref q9), (0, .ref (kad G 0)), (1, vI L), (2, .ref (kad G 148))] dL_load_12 rfl (by decide) rfl ?_
      refine k_iconst hC dL_load_13 ?_
      subst hQ
      exact k_iretX hC hr ⟨by decide, by decide⟩ (Or.inr ⟨⟨hfl, hP⟩, Or.inr ⟨hcc, rfl⟩⟩) dL_load_14
  · obtain ⟨hcc, hv, hfl, hP⟩ := hp
    subst hv
    have h148b : w2 148 = lA G 1 out := (by first | exact (hP.2 148 (by decide)).trans h148 | exact (hP.2.2 148 (by decide)).trans h148 | exact (hP.2.2.2 148 (by decide)).trans h148 | (rcases hP with ⟨-, q9⟩ | ⟨-, -, -, q9⟩; (rw [q9]; exact h148); (exact (q9 148 (by decide)).trans h148)) | (obtain ⟨-, gp1, gl1, nl1, -, -, q9⟩ := hP; rcases q9 with ⟨-, q9⟩ | ⟨-, -, -, -, -, -, q9⟩; (exact (q9 148 (by decide)).trans h148); (exact (q9 148 (by decide)).trans h148)))
    show KW p l e R s m args below meth c 4 G Q w2 fl2 8 48 7 [(0, .ref (kad G 0)), (1, vI L), (2, .ref (kad G 148))] [vI (selI ((txF bt n).1.1 = 0) ((txF bt n).2 2) (-10 - (txF bt n).1.1)), vI 0, .ref (kad G 148)]
    refine k_topv (vI (i32 (selI ((txF bt n).1.1 = 0) ((txF bt n).2 2) (-10 - (txF bt n).1.1)))) (vI_32 _) ?_
    refine k_i2l hC dL_load_7 (i32_r _) ?_
    refine k_last hC (kl hN (by decide)) h148b (by omega) (by decide) dL_load_8 (fun w11 hw11 hf11 => ?_)
    refine k_goto hC 15 dL_load_9 rfl ?_
    refine k_iconst hC dL_load_15 ?_
    subst hQ
    exact k_iretX hC hr ⟨by decide, by decide⟩ (Or.inl ⟨rfl, hcc, w2, ⟨hfl, hP⟩, hw11.trans (lA_congr (fun j hj => by rw [show j = 0 by omega]; exact kup_s)), fun j hj => hf11 j (by omega)⟩) dL_load_16

set_option maxRecDepth 100000 in
set_option maxHeartbeats 4000000 in
theorem c_L_arc (l : Launch) (hls : l.stackTraces = false) (G : kG) (hN : kN G = 150) (w : Nat → va_E) (fl : va_W) (g nl : Nat → Int) (sv : Int) (a : Int) (out : Nat → Int) (ha : -2147483648 ≤ a ∧ a ≤ 2147483647) (hI : Inv g) (h00 : w 0 = srO G sv) (hL : kLog G w 3 g) (hP : kPlan G w 32 g nl) (hCt : kCht G w) (h148 : w 148 = lA G 1 out) : KL l G yL_arc cL_arc 4 (some .int) [(0, 9, 12, 13)] 9 8 48 [.ref (kad G 0), vI a, .ref (kad G 148)] w fl (wrO G (-1000000 ≤ a ∧ a ≤ 1000000) (False) (¬ (-1000000 ≤ a ∧ a ≤ 1000000)) (arcM a) 1 (fun w2 fl2 => fl = fl2 ∧ (kCP G w) w2) (fun w2 fl2 => fl = fl2 ∧ (kCP G w) w2)) := by
  refine KL_of hls (by decide +kernel) rfl (lv0 := [(0, .ref (kad G 0)), (1, vI a), (2, .ref (kad G 148))]) rfl (Nat.le_of_ble_eq_true rfl) (fun p e R s m args below meth c Q hC hr hTb hNc hQ => ?_)
  refine k_aload_n hC dL_arc_0 rfl 2 rfl ?_
  refine k_iconst hC dL_arc_1 ?_
  refine k_aload_n hC dL_arc_2 rfl 0 rfl ?_
  refine k_iload_n hC dL_arc_3 rfl 1 rfl ?_
  refine k_callVT hC (c_X11_arc l hls G hN w fl g nl sv a ha hI h00 hL hP hCt) yy_X11_arc wm_L_15 (kl hN (by decide)) h00 rfl rfl rfl rfl (Nat.le_of_ble_eq_true rfl) (by decide) (by decide) ⟨by decide, by decide⟩ dL_arc_4 (fun E w2 fl2 hx => ?_) (fun v9 w2 fl2 hp => ?_)
  · obtain ⟨hE, hfl, hP⟩ := hx
    rcases hE with ⟨hE, hcc⟩ | ⟨hE, hcc⟩
    · exact hcc.elim
    · subst hE
      refine k_catch1 hC hTb ⟨by decide, by decide⟩ (by decide) wl_L_13 wq_I (fun q9 => ?_)
      refine k_astore_n hC [(3, .ref q9), (0, .ref (kad G 0)), (1, vI a), (2, .ref (kad G 148))] dL_arc_12 rfl (by decide) rfl ?_
      refine k_iconst hC dL_arc_13 ?_
      subst hQ
      exact k_iretX hC hr ⟨by decide, by decide⟩ (Or.inr ⟨⟨hfl, hP⟩, Or.inr ⟨hcc, rfl⟩⟩) dL_arc_14
  · obtain ⟨hcc, hv, hfl, hP⟩ := hp
    subst hv
    have h148b : w2 148 = lA G 1 out := (by first | exact (hP.2 148 (by decide)).trans h148 | exact (hP.2.2 148 (by decide)).trans h148 | exact (hP.2.2.2 148 (by decide)).trans h148 | (rcases hP with ⟨-, q9⟩ | ⟨-, -, -, q9⟩; (rw [q9]; exact h148); (exact (q9 148 (by decide)).trans h148)) | (obtain ⟨-, gp1, gl1, nl1, -, -, q9⟩ := hP; rcases q9 with ⟨-, q9⟩ | ⟨-, -, -, -, -, -, q9⟩; (exact (q9 148 (by decide)).trans h148); (exact (q9 148 (by decide)).trans h148)))
    show KW p l e R s m args below meth c 4 G Q w2 fl2 8 48 7 [(0, .ref (kad G 0)), (1, vI a), (2, .ref (kad G 148))] [vI (arcM a), vI 0, .ref (kad G 148)]
    refine k_topv (vI (i32 (arcM a))) (vI_32 _) ?_
    refine k_i2l hC dL_arc_7 (i32_r _) ?_
    refine k_last hC (kl hN (by decide)) h148b (by omega) (by decide) dL_arc_8 (fun w11 hw11 hf11 => ?_)
    refine k_goto hC 15 dL_arc_9 rfl ?_
    refine k_iconst hC dL_arc_15 ?_
    subst hQ
    exact k_iretX hC hr ⟨by decide, by decide⟩ (Or.inl ⟨rfl, hcc, w2, ⟨hfl, hP⟩, hw11.trans (lA_congr (fun j hj => by rw [show j = 0 by omega]; exact kup_s)), fun j hj => hf11 j (by omega)⟩) dL_arc_16

set_option maxRecDepth 100000 in
set_option maxHeartbeats 4000000 in
theorem c_L_told (l : Launch) (hls : l.stackTraces = false) (G : kG) (hN : kN G = 150) (w : Nat → va_E) (fl : va_W) (g nl : Nat → Int) (sv : Int) (q : Int) (out : Nat → Int) (hq : -2147483648 ≤ q ∧ q ≤ 2147483647) (hI : Inv g) (h00 : w 0 = srO G sv) (hL : kLog G w 3 g) (hP : kPlan G w 32 g nl) (hCt : kCht G w) (h148 : w 148 = lA G 1 out) : KL l G yL_told cL_told 4 (some .int) [(0, 9, 12, 21)] 9 8 48 [.ref (kad G 0), vI q, .ref (kad G 148)] w fl (wrO G (0 ≤ q ∧ q ≤ 8) (¬ (0 ≤ q ∧ q ≤ 8)) (False) (g q.toNat) 1 (fun w2 fl2 => fl = fl2 ∧ (kCP G w) w2) (fun w2 fl2 => fl = fl2 ∧ (kCP G w) w2)) := by
  refine KL_of hls (by decide +kernel) rfl (lv0 := [(0, .ref (kad G 0)), (1, vI q), (2, .ref (kad G 148))]) rfl (Nat.le_of_ble_eq_true rfl) (fun p e R s m args below meth c Q hC hr hTb hNc hQ => ?_)
  refine k_aload_n hC dL_told_0 rfl 2 rfl ?_
  refine k_iconst hC dL_told_1 ?_
  refine k_aload_n hC dL_told_2 rfl 0 rfl ?_
  refine k_iload_n hC dL_told_3 rfl 1 rfl ?_
  refine k_callVT hC (c_X11_told l hls G hN w fl g nl sv q hq hI h00 hL hP hCt) yy_X11_told wm_L_18 (kl hN (by decide)) h00 rfl rfl rfl rfl (Nat.le_of_ble_eq_true rfl) (by decide) (by decide) ⟨by decide, by decide⟩ dL_told_4 (fun E w2 fl2 hx => ?_) (fun v9 w2 fl2 hp => ?_)
  · obtain ⟨hE, hfl, hP⟩ := hx
    rcases hE with ⟨hE, hcc⟩ | ⟨hE, hcc⟩
    · subst hE
      refine k_catch1 hC hTb ⟨by decide, by decide⟩ (by decide) wl_L_21 wq_N (fun q9 => ?_)
      refine k_astore_n hC [(3, .ref q9), (0, .ref (kad G 0)), (1, vI q), (2, .ref (kad G 148))] dL_told_12 rfl (by decide) rfl ?_
      refine k_iconst hC dL_told_13 ?_
      subst hQ
      exact k_iretX hC hr ⟨by decide, by decide⟩ (Or.inr ⟨⟨hfl, hP⟩, Or.inl ⟨hcc, rfl⟩⟩) dL_told_14
    · exact hcc.elim
  · obtain ⟨hcc, hv, hfl, hP⟩ := hp
    subst hv
    have h148b : w2 148 = lA G 1 out := (by first | exact (hP.2 148 (by decide)).trans h148 | exact (hP.2.2 148 (by decide)).trans h148 | exact (hP.2.2.2 148 (by decide)).trans h148 | (rcases hP with ⟨-, q9⟩ | ⟨-, -, -, q9⟩; (rw [q9]; exact h148); (exact (q9 148 (by decide)).trans h148)) | (obtain ⟨-, gp1, gl1, nl1, -, -, q9⟩ := hP; rcases q9 with ⟨-, q9⟩ | ⟨-, -, -, -, -, -, q9⟩; (exact (q9 148 (by decide)).trans h148); (exact (q9 148 (by decide)).trans h148)))
    show KW p l e R s m args below meth c 4 G Q w2 fl2 8 48 7 [(0, .ref (kad G 0)), (1, vI q), (2, .ref (kad G 148))] [vI (g q.toNat), vI 0, .ref (kad G 148)]
    refine k_topv (vI (i32 (g q.toNat))) (vI_32 _) ?_
    refine k_i2l hC dL_told_7 (i32_r _) ?_
    refine k_last hC (kl hN (by decide)) h148b (by omega) (by decide) dL_told_8 (fun w11 hw11 hf11 => ?_)
    refine k_goto hC 15 dL_told_9 rfl ?_
    refine k_iconst hC dL_told_15 ?_
    subst hQ
    exact k_iretX hC hr ⟨by decide, by decide⟩ (Or.inl ⟨rfl, hcc, w2, ⟨hfl, hP⟩, hw11.trans (lA_congr (fun j hj => by rw [show j = 0 by omega]; exact kup_s)), fun j hj => hf11 j (by omega)⟩) dL_told_16

set_option maxRecDepth 100000 in
set_option maxHeartbeats 4000000 in
theorem c_L_body (l : Launch) (hls : l.stackTraces = false) (G : kG) (hN : kN G = 150) (w : Nat → va_E) (fl : va_W) (g nl : Nat → Int) (sv : Int) (b q : Int) (out : Nat → Int) (hb : -2147483648 ≤ b ∧ b ≤ 2147483647) (hq : -2147483648 ≤ q ∧ q ≤ 2147483647) (hI : Inv g) (h00 : w 0 = srO G sv) (hL : kLog G w 3 g) (hP : kPlan G w 32 g nl) (hCt : kCht G w) (h148 : w 148 = lA G 1 out) : KL l G yL_body cL_body 5 (some .int) [(0, 10, 13, 21)] 10 8 48 [.ref (kad G 0), vI b, vI q, .ref (kad G 148)] w fl (wrO G ((0 ≤ b ∧ b < g 0) ∧ (0 ≤ q ∧ q ≤ 3)) (¬ ((0 ≤ b ∧ b < g 0) ∧ (0 ≤ q ∧ q ≤ 3))) (False) (bodyV g b.toNat q) 1 (fun w2 fl2 => fl = fl2 ∧ (kCP G w) w2) (fun w2 fl2 => fl = fl2 ∧ (kCP G w) w2)) := by
  refine KL_of hls (by decide +kernel) rfl (lv0 := [(0, .ref (kad G 0)), (1, vI b), (2, vI q), (3, .ref (kad G 148))]) rfl (Nat.le_of_ble_eq_true rfl) (fun p e R s m args below meth c Q hC hr hTb hNc hQ => ?_)
  refine k_aload_n hC dL_body_0 rfl 3 rfl ?_
  refine k_iconst hC dL_body_1 ?_
  refine k_aload_n hC dL_body_2 rfl 0 rfl ?_
  refine k_iload_n hC dL_body_3 rfl 1 rfl ?_
  refine k_iload_n hC dL_body_4 rfl 2 rfl ?_
  refine k_callVT hC (c_X11_body l hls G hN w fl g nl sv b q hb hq hI h00 hL hP hCt) yy_X11_body wm_L_23 (kl hN (by decide)) h00 rfl rfl rfl rfl (Nat.le_of_ble_eq_true rfl) (by decide) (by decide) ⟨by decide, by decide⟩ dL_body_5 (fun E w2 fl2 hx => ?_) (fun v9 w2 fl2 hp => ?_)
  · obtain ⟨hE, hfl, hP⟩ := hx
    rcases hE with ⟨hE, hcc⟩ | ⟨hE, hcc⟩
    · subst hE
      refine k_catch1 hC hTb ⟨by decide, by decide⟩ (by decide) wl_L_21 wq_N (fun q9 => ?_)
      refine k_astore hC [(4, .ref q9), (0, .ref (kad G 0)), (1, vI b), (2, vI q), (3, .ref (kad G 148))] dL_body_13 (by decide) rfl ?_
      refine k_iconst hC dL_body_15 ?_
      subst hQ
      exact k_iretX hC hr ⟨by decide, by decide⟩ (Or.inr ⟨⟨hfl, hP⟩, Or.inl ⟨hcc, rfl⟩⟩) dL_body_16
    · exact hcc.elim
  · obtain ⟨hcc, hv, hfl, hP⟩ := hp
    subst hv
    have h148b : w2 148 = lA G 1 out := (by first | exact (hP.2 148 (by decide)).trans h148 | exact (hP.2.2 148 (by decide)).trans h148 | exact (hP.2.2.2 148 (by decide)).trans h148 | (rcases hP with ⟨-, q9⟩ | ⟨-, -, -, q9⟩; (rw [q9]; exact h148); (exact (q9 148 (by decide)).trans h148)) | (obtain ⟨-, gp1, gl1, nl1, -, -, q9⟩ := hP; rcases q9 with ⟨-, q9⟩ | ⟨-, -, -, -, -, -, q9⟩; (exact (q9 148 (by decide)).trans h148); (exact (q9 148 (by decide)).trans h148)))
    show KW p l e R s m args below meth c 5 G Q w2 fl2 8 48 8 [(0, .ref (kad G 0)), (1, vI b), (2, vI q), (3, .ref (kad G 148))] [vI (bodyV g b.toNat q), vI 0, .ref (kad G 148)]
    refine k_topv (vI (i32 (bodyV g b.toNat q))) (vI_32 _) ?_
    refine k_i2l hC dL_body_8 (i32_r _) ?_
    refine k_last hC (kl hN (by decide)) h148b (by omega) (by decide) dL_body_9 (fun w11 hw11 hf11 => ?_)
    refine k_goto hC 17 dL_body_10 rfl ?_
    refine k_iconst hC dL_body_17 ?_
    subst hQ
    exact k_iretX hC hr ⟨by decide, by decide⟩ (Or.inl ⟨rfl, hcc, w2, ⟨hfl, hP⟩, hw11.trans (lA_congr (fun j hj => by rw [show j = 0 by omega]; exact kup_s)), fun j hj => hf11 j (by omega)⟩) dL_body_18

set_option maxRecDepth 100000 in
set_option maxHeartbeats 4000000 in
theorem c_L_leg (l : Launch) (hls : l.stackTraces = false) (G : kG) (hN : kN G = 150) (w : Nat → va_E) (fl : va_W) (g nl : Nat → Int) (sv : Int) (b q : Int) (out : Nat → Int) (hb : -2147483648 ≤ b ∧ b ≤ 2147483647) (hq : -2147483648 ≤ q ∧ q ≤ 2147483647) (hI : Inv g) (h00 : w 0 = srO G sv) (hL : kLog G w 3 g) (hP : kPlan G w 32 g nl) (hCt : kCht G w) (h148 : w 148 = lA G 1 out) : KL l G yL_leg cL_leg 5 (some .int) [(0, 10, 13, 21)] 9 8 48 [.ref (kad G 0), vI b, vI q, .ref (kad G 148)] w fl (wrO G ((0 ≤ b ∧ b < g 1) ∧ (0 ≤ q ∧ q ≤ 2)) (¬ ((0 ≤ b ∧ b < g 1) ∧ (0 ≤ q ∧ q ≤ 2))) (False) (legV g b.toNat q) 1 (fun w2 fl2 => fl = fl2 ∧ (kCP G w) w2) (fun w2 fl2 => fl = fl2 ∧ (kCP G w) w2)) := by
  refine KL_of hls (by decide +kernel) rfl (lv0 := [(0, .ref (kad G 0)), (1, vI b), (2, vI q), (3, .ref (kad G 148))]) rfl (Nat.le_of_ble_eq_true rfl) (fun p e R s m args below meth c Q hC hr hTb hNc hQ => ?_)
  refine k_aload_n hC dL_leg_0 rfl 3 rfl ?_
  refine k_iconst hC dL_leg_1 ?_
  refine k_aload_n hC dL_leg_2 rfl 0 rfl ?_
  refine k_iload_n hC dL_leg_3 rfl 1 rfl ?_
  refine k_iload_n hC dL_leg_4 rfl 2 rfl ?_
  refine k_callVT hC (c_X11_leg l hls G hN w fl g nl sv b q hb hq hI h00 hL hP hCt) yy_X11_leg wm_L_27 (kl hN (by decide)) h00 rfl rfl rfl rfl (Nat.le_of_ble_eq_true rfl) (by decide) (by decide) ⟨by decide, by decide⟩ dL_leg_5 (fun E w2 fl2 hx => ?_) (fun v9 w2 fl2 hp => ?_)
  · obtain ⟨hE, hfl, hP⟩ := hx
    rcases hE with ⟨hE, hcc⟩ | ⟨hE, hcc⟩
    · subst hE
      refine k_catch1 hC hTb ⟨by decide, by decide⟩ (by decide) wl_L_21 wq_N (fun q9 => ?_)
      refine k_astore hC [(4, .ref q9), (0, .ref (kad G 0)), (1, vI b), (2, vI q), (3, .ref (kad G 148))] dL_leg_13 (by decide) rfl ?_
      refine k_iconst hC dL_leg_15 ?_
      subst hQ
      exact k_iretX hC hr ⟨by decide, by decide⟩ (Or.inr ⟨⟨hfl, hP⟩, Or.inl ⟨hcc, rfl⟩⟩) dL_leg_16
    · exact hcc.elim
  · obtain ⟨hcc, hv, hfl, hP⟩ := hp
    subst hv
    have h148b : w2 148 = lA G 1 out := (by first | exact (hP.2 148 (by decide)).trans h148 | exact (hP.2.2 148 (by decide)).trans h148 | exact (hP.2.2.2 148 (by decide)).trans h148 | (rcases hP with ⟨-, q9⟩ | ⟨-, -, -, q9⟩; (rw [q9]; exact h148); (exact (q9 148 (by decide)).trans h148)) | (obtain ⟨-, gp1, gl1, nl1, -, -, q9⟩ := hP; rcases q9 with ⟨-, q9⟩ | ⟨-, -, -, -, -, -, q9⟩; (exact (q9 148 (by decide)).trans h148); (exact (q9 148 (by decide)).trans h148)))
    show KW p l e R s m args below meth c 5 G Q w2 fl2 8 48 8 [(0, .ref (kad G 0)), (1, vI b), (2, vI q), (3, .ref (kad G 148))] [vI (legV g b.toNat q), vI 0, .ref (kad G 148)]
    refine k_topv (vI (i32 (legV g b.toNat q))) (vI_32 _) ?_
    refine k_i2l hC dL_leg_8 (i32_r _) ?_
    refine k_last hC (kl hN (by decide)) h148b (by omega) (by decide) dL_leg_9 (fun w11 hw11 hf11 => ?_)
    refine k_goto hC 17 dL_leg_10 rfl ?_
    refine k_iconst hC dL_leg_17 ?_
    subst hQ
    exact k_iretX hC hr ⟨by decide, by decide⟩ (Or.inl ⟨rfl, hcc, w2, ⟨hfl, hP⟩, hw11.trans (lA_congr (fun j hj => by rw [show j = 0 by omega]; exact kup_s)), fun j hj => hf11 j (by omega)⟩) dL_leg_18

set_option maxRecDepth 100000 in
set_option maxHeartbeats 4000000 in
theorem c_L_displacement (l : Launch) (hls : l.stackTraces = false) (G : kG) (hN : kN G = 150) (w : Nat → va_E) (fl : va_W) (g nl : Nat → Int) (sv : Int) (T no : Int) (out : Nat → Int) (hT : -2147483648 ≤ T ∧ T ≤ 2147483647) (hno : no = 0 ∨ no = 1) (hI : Inv g) (h00 : w 0 = srO G sv) (hL : kLog G w 3 g) (hP : kPlan G w 32 g nl) (hCt : kCht G w) (h148 : w 148 = lA G 1 out) : KL l G yL_displacement cL_displacement 5 (some .int) [(0, 10, 13, 13)] 10 8 48 [.ref (kad G 0), vI T, vI no, .ref (kad G 148)] w fl (wrO G ((0 ≤ T ∧ T ≤ 5000)) (False) (¬ (0 ≤ T ∧ T ≤ 5000)) (if no = 0 then dispM g T false else dispM g T true) 1 (fun w2 fl2 => fl = fl2 ∧ (kCP G w) w2) (fun w2 fl2 => fl = fl2 ∧ (kCP G w) w2)) := by
  refine KL_of hls (by decide +kernel) rfl (lv0 := [(0, .ref (kad G 0)), (1, vI T), (2, vI no), (3, .ref (kad G 148))]) rfl (Nat.le_of_ble_eq_true rfl) (fun p e R s m args below meth c Q hC hr hTb hNc hQ => ?_)
  refine k_aload_n hC dL_displacement_0 rfl 3 rfl ?_
  refine k_iconst hC dL_displacement_1 ?_
  refine k_aload_n hC dL_displacement_2 rfl 0 rfl ?_
  refine k_iload_n hC dL_displacement_3 rfl 1 rfl ?_
  refine k_iload_n hC dL_displacement_4 rfl 2 rfl ?_
  refine k_callVT hC (c_X11_displacement l hls G hN w fl g nl sv T no hT hno hI h00 hL hP hCt) yy_X11_displacement wm_L_30 (kl hN (by decide)) h00 rfl rfl rfl rfl (Nat.le_of_ble_eq_true rfl) (by decide) (by decide) ⟨by decide, by decide⟩ dL_displacement_5 (fun E w2 fl2 hx => ?_) (fun v9 w2 fl2 hp => ?_)
  · obtain ⟨hE, hfl, hP⟩ := hx
    rcases hE with ⟨hE, hcc⟩ | ⟨hE, hcc⟩
    · exact hcc.elim
    · subst hE
      refine k_catch1 hC hTb ⟨by decide, by decide⟩ (by decide) wl_L_13 wq_I (fun q9 => ?_)
      refine k_astore hC [(4, .ref q9), (0, .ref (kad G 0)), (1, vI T), (2, vI no), (3, .ref (kad G 148))] dL_displacement_13 (by decide) rfl ?_
      refine k_iconst hC dL_displacement_15 ?_
      subst hQ
      exact k_iretX hC hr ⟨by decide, by decide⟩ (Or.inr ⟨⟨hfl, hP⟩, Or.inr ⟨hcc, rfl⟩⟩) dL_displacement_16
  · obtain ⟨hcc, hv, hfl, hP⟩ := hp
    subst hv
    have h148b : w2 148 = lA G 1 out := (by first | exact (hP.2 148 (by decide)).trans h148 | exact (hP.2.2 148 (by decide)).trans h148 | exact (hP.2.2.2 148 (by decide)).trans h148 | (rcases hP with ⟨-, q9⟩ | ⟨-, -, -, q9⟩; (rw [q9]; exact h148); (exact (q9 148 (by decide)).trans h148)) | (obtain ⟨-, gp1, gl1, nl1, -, -, q9⟩ := hP; rcases q9 with ⟨-, q9⟩ | ⟨-, -, -, -, -, -, q9⟩; (exact (q9 148 (by decide)).trans h148); (exact (q9 148 (by decide)).trans h148)))
    show KW p l e R s m args below meth c 5 G Q w2 fl2 8 48 8 [(0, .ref (kad G 0)), (1, vI T), (2, vI no), (3, .ref (kad G 148))] [vI (if no = 0 then dispM g T false else dispM g T true), vI 0, .ref (kad G 148)]
    refine k_topv (vI (i32 (if no = 0 then dispM g T false else dispM g T true))) (vI_32 _) ?_
    refine k_i2l hC dL_displacement_8 (i32_r _) ?_
    refine k_last hC (kl hN (by decide)) h148b (by omega) (by decide) dL_displacement_9 (fun w11 hw11 hf11 => ?_)
    refine k_goto hC 17 dL_displacement_10 rfl ?_
    refine k_iconst hC dL_displacement_17 ?_
    subst hQ
    exact k_iretX hC hr ⟨by decide, by decide⟩ (Or.inl ⟨rfl, hcc, w2, ⟨hfl, hP⟩, hw11.trans (lA_congr (fun j hj => by rw [show j = 0 by omega]; exact kup_s)), fun j hj => hf11 j (by omega)⟩) dL_displacement_18

set_option maxRecDepth 100000 in
set_option maxHeartbeats 4000000 in
theorem c_L_reckoned (l : Launch) (hls : l.stackTraces = false) (G : kG) (hN : kN G = 150) (w : Nat → va_E) (fl : va_W) (g nl : Nat → Int) (sv : Int) (T no : Int) (out : Nat → Int) (hT : -2147483648 ≤ T ∧ T ≤ 2147483647) (hno : no = 0 ∨ no = 1) (hI : Inv g) (h00 : w 0 = srO G sv) (hL : kLog G w 3 g) (hP : kPlan G w 32 g nl) (hCt : kCht G w) (h148 : w 148 = lA G 1 out) : KL l G yL_reckoned cL_reckoned 5 (some .int) [(0, 10, 13, 13)] 10 8 48 [.ref (kad G 0), vI T, vI no, .ref (kad G 148)] w fl (wrO G ((0 ≤ T ∧ T ≤ 5000)) (False) (¬ (0 ≤ T ∧ T ≤ 5000)) (if no = 0 then latM g T else lonT g T) 1 (fun w2 fl2 => fl = fl2 ∧ (kCP G w) w2) (fun w2 fl2 => fl = fl2 ∧ (kCP G w) w2)) := by
  refine KL_of hls (by decide +kernel) rfl (lv0 := [(0, .ref (kad G 0)), (1, vI T), (2, vI no), (3, .ref (kad G 148))]) rfl (Nat.le_of_ble_eq_true rfl) (fun p e R s m args below meth c Q hC hr hTb hNc hQ => ?_)
  refine k_aload_n hC dL_reckoned_0 rfl 3 rfl ?_
  refine k_iconst hC dL_reckoned_1 ?_
  refine k_aload_n hC dL_reckoned_2 rfl 0 rfl ?_
  refine k_iload_n hC dL_reckoned_3 rfl 1 rfl ?_
  refine k_iload_n hC dL_reckoned_4 rfl 2 rfl ?_
  refine k_callVT hC (c_X11_reckoned l hls G hN w fl g nl sv T no hT hno hI h00 hL hP hCt) yy_X11_reckoned wm_L_34 (kl hN (by decide)) h00 rfl rfl rfl rfl (Nat.le_of_ble_eq_true rfl) (by decide) (by decide) ⟨by decide, by decide⟩ dL_reckoned_5 (fun E w2 fl2 hx => ?_) (fun v9 w2 fl2 hp => ?_)
  · obtain ⟨hE, hfl, hP⟩ := hx
    rcases hE with ⟨hE, hcc⟩ | ⟨hE, hcc⟩
    · exact hcc.elim
    · subst hE
      refine k_catch1 hC hTb ⟨by decide, by decide⟩ (by decide) wl_L_13 wq_I (fun q9 => ?_)
      refine k_astore hC [(4, .ref q9), (0, .ref (kad G 0)), (1, vI T), (2, vI no), (3, .ref (kad G 148))] dL_reckoned_13 (by decide) rfl ?_
      refine k_iconst hC dL_reckoned_15 ?_
      subst hQ
      exact k_iretX hC hr ⟨by decide, by decide⟩ (Or.inr ⟨⟨hfl, hP⟩, Or.inr ⟨hcc, rfl⟩⟩) dL_reckoned_16
  · obtain ⟨hcc, hv, hfl, hP⟩ := hp
    subst hv
    have h148b : w2 148 = lA G 1 out := (by first | exact (hP.2 148 (by decide)).trans h148 | exact (hP.2.2 148 (by decide)).trans h148 | exact (hP.2.2.2 148 (by decide)).trans h148 | (rcases hP with ⟨-, q9⟩ | ⟨-, -, -, q9⟩; (rw [q9]; exact h148); (exact (q9 148 (by decide)).trans h148)) | (obtain ⟨-, gp1, gl1, nl1, -, -, q9⟩ := hP; rcases q9 with ⟨-, q9⟩ | ⟨-, -, -, -, -, -, q9⟩; (exact (q9 148 (by decide)).trans h148); (exact (q9 148 (by decide)).trans h148)))
    show KW p l e R s m args below meth c 5 G Q w2 fl2 8 48 8 [(0, .ref (kad G 0)), (1, vI T), (2, vI no), (3, .ref (kad G 148))] [vI (if no = 0 then latM g T else lonT g T), vI 0, .ref (kad G 148)]
    refine k_topv (vI (i32 (if no = 0 then latM g T else lonT g T))) (vI_32 _) ?_
    refine k_i2l hC dL_reckoned_8 (i32_r _) ?_
    refine k_last hC (kl hN (by decide)) h148b (by omega) (by decide) dL_reckoned_9 (fun w11 hw11 hf11 => ?_)
    refine k_goto hC 17 dL_reckoned_10 rfl ?_
    refine k_iconst hC dL_reckoned_17 ?_
    subst hQ
    exact k_iretX hC hr ⟨by decide, by decide⟩ (Or.inl ⟨rfl, hcc, w2, ⟨hfl, hP⟩, hw11.trans (lA_congr (fun j hj => by rw [show j = 0 by omega]; exact kup_s)), fun j hj => hf11 j (by omega)⟩) dL_reckoned_18

set_option maxRecDepth 100000 in
set_option maxHeartbeats 4000000 in
theorem c_L_sight (l : Launch) (hls : l.stackTraces = false) (G : kG) (hN : kN G = 150) (w : Nat → va_E) (fl : va_W) (g nl : Nat → Int) (sv : Int) (i q : Int) (out : Nat → Int) (hi : -2147483648 ≤ i ∧ i ≤ 2147483647) (hq : -2147483648 ≤ q ∧ q ≤ 2147483647) (hI : Inv g) (h00 : w 0 = srO G sv) (hL : kLog G w 3 g) (hP : kPlan G w 32 g nl) (hCt : kCht G w) (h148 : w 148 = lA G 1 out) : KL l G yL_sight cL_sight 5 (some .int) [(0, 10, 13, 21)] 10 8 48 [.ref (kad G 0), vI i, vI q, .ref (kad G 148)] w fl (wrO G ((0 ≤ i ∧ i < g 2) ∧ (0 ≤ q ∧ q ≤ 8)) (¬ ((0 ≤ i ∧ i < g 2) ∧ (0 ≤ q ∧ q ≤ 8))) (False) (sightV g i.toNat q) 1 (fun w2 fl2 => fl = fl2 ∧ (kCP G w) w2) (fun w2 fl2 => fl = fl2 ∧ (kCP G w) w2)) := by
  refine KL_of hls (by decide +kernel) rfl (lv0 := [(0, .ref (kad G 0)), (1, vI i), (2, vI q), (3, .ref (kad G 148))]) rfl (Nat.le_of_ble_eq_true rfl) (fun p e R s m args below meth c Q hC hr hTb hNc hQ => ?_)
  refine k_aload_n hC dL_sight_0 rfl 3 rfl ?_
  refine k_iconst hC dL_sight_1 ?_
  refine k_aload_n hC dL_sight_2 rfl 0 rfl ?_
  refine k_iload_n hC dL_sight_3 rfl 1 rfl ?_
  refine k_iload_n hC dL_sight_4 rfl 2 rfl ?_
  refine k_callVT hC (c_X11_sight l hls G hN w fl g nl sv i q hi hq hI h00 hL hP hCt) yy_X11_sight wm_L_37 (kl hN (by decide)) h00 rfl rfl rfl rfl (Nat.le_of_ble_eq_true rfl) (by decide) (by decide) ⟨by decide, by decide⟩ dL_sight_5 (fun E w2 fl2 hx => ?_) (fun v9 w2 fl2 hp => ?_)
  · obtain ⟨hE, hfl, hP⟩ := hx
    rcases hE with ⟨hE, hcc⟩ | ⟨hE, hcc⟩
    · subst hE
      refine k_catch1 hC hTb ⟨by decide, by decide⟩ (by decide) wl_L_21 wq_N (fun q9 => ?_)
      refine k_astore hC [(4, .ref q9), (0, .ref (kad G 0)), (1, vI i), (2, vI q), (3, .ref (kad G 148))] dL_sight_13 (by decide) rfl ?_
      refine k_iconst hC dL_sight_15 ?_
      subst hQ
      exact k_iretX hC hr ⟨by decide, by decide⟩ (Or.inr ⟨⟨hfl, hP⟩, Or.inl ⟨hcc, rfl⟩⟩) dL_sight_16
    · exact hcc.elim
  · obtain ⟨hcc, hv, hfl, hP⟩ := hp
    subst hv
    have h148b : w2 148 = lA G 1 out := (by first | exact (hP.2 148 (by decide)).trans h148 | exact (hP.2.2 148 (by decide)).trans h148 | exact (hP.2.2.2 148 (by decide)).trans h148 | (rcases hP with ⟨-, q9⟩ | ⟨-, -, -, q9⟩; (rw [q9]; exact h148); (exact (q9 148 (by decide)).trans h148)) | (obtain ⟨-, gp1, gl1, nl1, -, -, q9⟩ := hP; rcases q9 with ⟨-, q9⟩ | ⟨-, -, -, -, -, -, q9⟩; (exact (q9 148 (by decide)).trans h148); (exact (q9 148 (by decide)).trans h148)))
    show KW p l e R s m args below meth c 5 G Q w2 fl2 8 48 8 [(0, .ref (kad G 0)), (1, vI i), (2, vI q), (3, .ref (kad G 148))] [vI (sightV g i.toNat q), vI 0, .ref (kad G 148)]
    refine k_topv (vI (i32 (sightV g i.toNat q))) (vI_32 _) ?_
    refine k_i2l hC dL_sight_8 (i32_r _) ?_
    refine k_last hC (kl hN (by decide)) h148b (by omega) (by decide) dL_sight_9 (fun w11 hw11 hf11 => ?_)
    refine k_goto hC 17 dL_sight_10 rfl ?_
    refine k_iconst hC dL_sight_17 ?_
    subst hQ
    exact k_iretX hC hr ⟨by decide, by decide⟩ (Or.inl ⟨rfl, hcc, w2, ⟨hfl, hP⟩, hw11.trans (lA_congr (fun j hj => by rw [show j = 0 by omega]; exact kup_s)), fun j hj => hf11 j (by omega)⟩) dL_sight_18

set_option maxRecDepth 100000 in
set_option maxHeartbeats 4000000 in
theorem c_L_carried (l : Launch) (hls : l.stackTraces = false) (G : kG) (hN : kN G = 150) (w : Nat → va_E) (fl : va_W) (g nl : Nat → Int) (sv : Int) (i T : Int) (out : Nat → Int) (hi : -2147483648 ≤ i ∧ i ≤ 2147483647) (hT : -2147483648 ≤ T ∧ T ≤ 2147483647) (hI : Inv g) (h00 : w 0 = srO G sv) (hL : kLog G w 3 g) (hP : kPlan G w 32 g nl) (hCt : kCht G w) (h148 : w 148 = lA G 1 out) : KL l G yL_carried cL_carried 5 (some .int) [(0, 10, 13, 21), (0, 10, 17, 13)] 10 8 48 [.ref (kad G 0), vI i, vI T, .ref (kad G 148)] w fl (wrO G ((0 ≤ i ∧ i < g 2) ∧ (0 ≤ T ∧ T ≤ 5000)) (¬ (0 ≤ i ∧ i < g 2)) ((0 ≤ i ∧ i < g 2) ∧ ¬ (0 ≤ T ∧ T ≤ 5000)) (carM g i.toNat T) 2 (fun w2 fl2 => fl = fl2 ∧ (kCP G w) w2) (fun w2 fl2 => fl = fl2 ∧ (kCP G w) w2)) := by
  refine KL_of hls (by decide +kernel) rfl (lv0 := [(0, .ref (kad G 0)), (1, vI i), (2, vI T), (3, .ref (kad G 148))]) rfl (Nat.le_of_ble_eq_true rfl) (fun p e R s m args below meth c Q hC hr hTb hNc hQ => ?_)
  refine k_aload_n hC dL_carried_0 rfl 3 rfl ?_
  refine k_iconst hC dL_carried_1 ?_
  refine k_aload_n hC dL_carried_2 rfl 0 rfl ?_
  refine k_iload_n hC dL_carried_3 rfl 1 rfl ?_
  refine k_iload_n hC dL_carried_4 rfl 2 rfl ?_
  refine k_callVT hC (c_X11_carried l hls G hN w fl g nl sv i T hi hT hI h00 hL hP hCt) yy_X11_carried wm_L_40 (kl hN (by decide)) h00 rfl rfl rfl rfl (Nat.le_of_ble_eq_true rfl) (by decide) (by decide) ⟨by decide, by decide⟩ dL_carried_5 (fun E w2 fl2 hx => ?_) (fun v9 w2 fl2 hp => ?_)
  · obtain ⟨hE, hfl, hP⟩ := hx
    rcases hE with ⟨hE, hcc⟩ | ⟨hE, hcc⟩
    · subst hE
      refine k_catch1 hC hTb ⟨by decide, by decide⟩ (by decide) wl_L_21 wq_N (fun q9 => ?_)
      refine k_astore hC [(4, .ref q9), (0, .ref (kad G 0)), (1, vI i), (2, vI T), (3, .ref (kad G 148))] dL_carried_13 (by decide) rfl ?_
      refine k_iconst hC dL_carried_15 ?_
      subst hQ
      exact k_iretX hC hr ⟨by decide, by decide⟩ (Or.inr ⟨⟨hfl, hP⟩, Or.inl ⟨hcc, rfl⟩⟩) dL_carried_16
    · subst hE
      refine k_catch2 hC hTb ⟨by decide, by decide⟩ (by decide) (by decide) wl_L_21 hNc wl_L_13 wq_I (fun q9 => ?_)
      refine k_astore hC [(4, .ref q9), (0, .ref (kad G 0)), (1, vI i), (2, vI T), (3, .ref (kad G 148))] dL_carried_17 (by decide) rfl ?_
      refine k_iconst hC dL_carried_19 ?_
      subst hQ
      exact k_iretX hC hr ⟨by decide, by decide⟩ (Or.inr ⟨⟨hfl, hP⟩, Or.inr ⟨hcc, rfl⟩⟩) dL_carried_20
  · obtain ⟨hcc, hv, hfl, hP⟩ := hp
    subst hv
    have h148b : w2 148 = lA G 1 out := (by first | exact (hP.2 148 (by decide)).trans h148 | exact (hP.2.2 148 (by decide)).trans h148 | exact (hP.2.2.2 148 (by decide)).trans h148 | (rcases hP with ⟨-, q9⟩ | ⟨-, -, -, q9⟩; (rw [q9]; exact h148); (exact (q9 148 (by decide)).trans h148)) | (obtain ⟨-, gp1, gl1, nl1, -, -, q9⟩ := hP; rcases q9 with ⟨-, q9⟩ | ⟨-, -, -, -, -, -, q9⟩; (exact (q9 148 (by decide)).trans h148); (exact (q9 148 (by decide)).trans h148)))
    show KW p l e R s m args below meth c 5 G Q w2 fl2 8 48 8 [(0, .ref (kad G 0)), (1, vI i), (2, vI T), (3, .ref (kad G 148))] [vI (carM g i.toNat T), vI 0, .ref (kad G 148)]
    refine k_topv (vI (i32 (carM g i.toNat T))) (vI_32 _) ?_
    refine k_i2l hC dL_carried_8 (i32_r _) ?_
    refine k_last hC (kl hN (by decide)) h148b (by omega) (by decide) dL_carried_9 (fun w11 hw11 hf11 => ?_)
    refine k_goto hC 21 dL_carried_10 rfl ?_
    refine k_iconst hC dL_carried_21 ?_
    subst hQ
    exact k_iretX hC hr ⟨by decide, by decide⟩ (Or.inl ⟨rfl, hcc, w2, ⟨hfl, hP⟩, hw11.trans (lA_congr (fun j hj => by rw [show j = 0 by omega]; exact kup_s)), fun j hj => hf11 j (by omega)⟩) dL_carried_22

set_option maxRecDepth 100000 in
set_option maxHeartbeats 4000000 in
theorem c_L_crossing (l : Launch) (hls : l.stackTraces = false) (G : kG) (hN : kN G = 150) (w : Nat → va_E) (fl : va_W) (g nl : Nat → Int) (sv : Int) (i j T no : Int) (out : Nat → Int) (hi : -2147483648 ≤ i ∧ i ≤ 2147483647) (hj : -2147483648 ≤ j ∧ j ≤ 2147483647) (hT : -2147483648 ≤ T ∧ T ≤ 2147483647) (hno : no = 0 ∨ no = 1) (hI : Inv g) (h00 : w 0 = srO G sv) (hL : kLog G w 3 g) (hP : kPlan G w 32 g nl) (hCt : kCht G w) (h148 : w 148 = lA G 1 out) : KL l G yL_crossing cL_crossing 7 (some .int) [(0, 14, 17, 21), (0, 14, 21, 13)] 10 8 48 [.ref (kad G 0), vI i, vI j, vI T, vI no, .ref (kad G 148)] w fl (wrO G (((0 ≤ i ∧ i < g 2) ∧ (0 ≤ j ∧ j < g 2)) ∧ (0 ≤ T ∧ T ≤ 5000)) (¬ ((0 ≤ i ∧ i < g 2) ∧ (0 ≤ j ∧ j < g 2))) (((0 ≤ i ∧ i < g 2) ∧ (0 ≤ j ∧ j < g 2)) ∧ ¬ (0 ≤ T ∧ T ≤ 5000)) (crsV g i.toNat j.toNat T no) 2 (fun w2 fl2 => fl = fl2 ∧ (kCP G w) w2) (fun w2 fl2 => fl = fl2 ∧ (kCP G w) w2)) := by
  refine KL_of hls (by decide +kernel) rfl (lv0 := [(0, .ref (kad G 0)), (1, vI i), (2, vI j), (3, vI T), (4, vI no), (5, .ref (kad G 148))]) rfl (Nat.le_of_ble_eq_true rfl) (fun p e R s m args below meth c Q hC hr hTb hNc hQ => ?_)
  refine k_aload hC dL_crossing_0 5 rfl ?_
  refine k_iconst hC dL_crossing_2 ?_
  refine k_aload_n hC dL_crossing_3 rfl 0 rfl ?_
  refine k_iload_n hC dL_crossing_4 rfl 1 rfl ?_
  refine k_iload_n hC dL_crossing_5 rfl 2 rfl ?_
  refine k_iload_n hC dL_crossing_6 rfl 3 rfl ?_
  refine k_iload hC dL_crossing_7 4 rfl ?_
  refine k_callVT hC (c_X11_crossing l hls G hN w fl g nl sv i j T no hi hj hT hno hI h00 hL hP hCt) yy_X11_crossing wm_L_43 (kl hN (by decide)) h00 rfl rfl rfl rfl (Nat.le_of_ble_eq_true rfl) (by decide) (by decide) ⟨by decide, by decide⟩ dL_crossing_9 (fun E w2 fl2 hx => ?_) (fun v9 w2 fl2 hp => ?_)
  · obtain ⟨hE, hfl, hP⟩ := hx
    rcases hE with ⟨hE, hcc⟩ | ⟨hE, hcc⟩
    · subst hE
      refine k_catch1 hC hTb ⟨by decide, by decide⟩ (by decide) wl_L_21 wq_N (fun q9 => ?_)
      refine k_astore hC [(6, .ref q9), (0, .ref (kad G 0)), (1, vI i), (2, vI j), (3, vI T), (4, vI no), (5, .ref (kad G 148))] dL_crossing_17 (by decide) rfl ?_
      refine k_iconst hC dL_crossing_19 ?_
      subst hQ
      exact k_iretX hC hr ⟨by decide, by decide⟩ (Or.inr ⟨⟨hfl, hP⟩, Or.inl ⟨hcc, rfl⟩⟩) dL_crossing_20
    · subst hE
      refine k_catch2 hC hTb ⟨by decide, by decide⟩ (by decide) (by decide) wl_L_21 hNc wl_L_13 wq_I (fun q9 => ?_)
      refine k_astore hC [(6, .ref q9), (0, .ref (kad G 0)), (1, vI i), (2, vI j), (3, vI T), (4, vI no), (5, .ref (kad G 148))] dL_crossing_21 (by decide) rfl ?_
      refine k_iconst hC dL_crossing_23 ?_
      subst hQ
      exact k_iretX hC hr ⟨by decide, by decide⟩ (Or.inr ⟨⟨hfl, hP⟩, Or.inr ⟨hcc, rfl⟩⟩) dL_crossing_24
  · obtain ⟨hcc, hv, hfl, hP⟩ := hp
    subst hv
    have h148b : w2 148 = lA G 1 out := (by first | exact (hP.2 148 (by decide)).trans h148 | exact (hP.2.2 148 (by decide)).trans h148 | exact (hP.2.2.2 148 (by decide)).trans h148 | (rcases hP with ⟨-, q9⟩ | ⟨-, -, -, q9⟩; (rw [q9]; exact h148); (exact (q9 148 (by decide)).trans h148)) | (obtain ⟨-, gp1, gl1, nl1, -, -, q9⟩ := hP; rcases q9 with ⟨-, q9⟩ | ⟨-, -, -, -, -, -, q9⟩; (exact (q9 148 (by decide)).trans h148); (exact (q9 148 (by decide)).trans h148)))
    show KW p l e R s m args below meth c 7 G Q w2 fl2 8 48 12 [(0, .ref (kad G 0)), (1, vI i), (2, vI j), (3, vI T), (4, vI no), (5, .ref (kad G 148))] [vI (crsV g i.toNat j.toNat T no), vI 0, .ref (kad G 148)]
    refine k_topv (vI (i32 (crsV g i.toNat j.toNat T no))) (vI_32 _) ?_
    refine k_i2l hC dL_crossing_12 (i32_r _) ?_
    refine k_last hC (kl hN (by decide)) h148b (by omega) (by decide) dL_crossing_13 (fun w11 hw11 hf11 => ?_)
    refine k_goto hC 25 dL_crossing_14 rfl ?_
    refine k_iconst hC dL_crossing_25 ?_
    subst hQ
    exact k_iretX hC hr ⟨by decide, by decide⟩ (Or.inl ⟨rfl, hcc, w2, ⟨hfl, hP⟩, hw11.trans (lA_congr (fun j hj => by rw [show j = 0 by omega]; exact kup_s)), fun j hj => hf11 j (by omega)⟩) dL_crossing_26

set_option maxRecDepth 100000 in
set_option maxHeartbeats 4000000 in
theorem c_L_hat (l : Launch) (hls : l.stackTraces = false) (G : kG) (hN : kN G = 150) (w : Nat → va_E) (fl : va_W) (g nl : Nat → Int) (sv : Int) (i j k T q : Int) (out : Nat → Int) (hi : -2147483648 ≤ i ∧ i ≤ 2147483647) (hj : -2147483648 ≤ j ∧ j ≤ 2147483647) (hk : -2147483648 ≤ k ∧ k ≤ 2147483647) (hT : -2147483648 ≤ T ∧ T ≤ 2147483647) (hq : -2147483648 ≤ q ∧ q ≤ 2147483647) (hI : Inv g) (h00 : w 0 = srO G sv) (hL : kLog G w 3 g) (hP : kPlan G w 32 g nl) (hCt : kCht G w) (h148 : w 148 = lA G 1 out) : KL l G yL_hat cL_hat 8 (some .int) [(0, 16, 19, 21), (0, 16, 23, 13)] 11 8 48 [.ref (kad G 0), vI i, vI j, vI k, vI T, vI q, .ref (kad G 148)] w fl (wrO G ((((0 ≤ i ∧ i < g 2) ∧ (0 ≤ j ∧ j < g 2) ∧ (0 ≤ k ∧ k < g 2)) ∧ (0 ≤ T ∧ T ≤ 5000)) ∧ (0 ≤ q ∧ q ≤ 2)) (¬ ((0 ≤ i ∧ i < g 2) ∧ (0 ≤ j ∧ j < g 2) ∧ (0 ≤ k ∧ k < g 2))) (((0 ≤ i ∧ i < g 2) ∧ (0 ≤ j ∧ j < g 2) ∧ (0 ≤ k ∧ k < g 2)) ∧ ¬ ((0 ≤ T ∧ T ≤ 5000) ∧ (0 ≤ q ∧ q ≤ 2))) (hatV g i.toNat j.toNat k.toNat T q) 2 (fun w2 fl2 => fl = fl2 ∧ (kCP G w) w2) (fun w2 fl2 => fl = fl2 ∧ (kCP G w) w2)) := by
  refine KL_of hls (by decide +kernel) rfl (lv0 := [(0, .ref (kad G 0)), (1, vI i), (2, vI j), (3, vI k), (4, vI T), (5, vI q), (6, .ref (kad G 148))]) rfl (Nat.le_of_ble_eq_true rfl) (fun p e R s m args below meth c Q hC hr hTb hNc hQ => ?_)
  refine k_aload hC dL_hat_0 6 rfl ?_
  refine k_iconst hC dL_hat_2 ?_
  refine k_aload_n hC dL_hat_3 rfl 0 rfl ?_
  refine k_iload_n hC dL_hat_4 rfl 1 rfl ?_
  refine k_iload_n hC dL_hat_5 rfl 2 rfl ?_
  refine k_iload_n hC dL_hat_6 rfl 3 rfl ?_
  refine k_iload hC dL_hat_7 4 rfl ?_
  refine k_iload hC dL_hat_9 5 rfl ?_
  refine k_callVT hC (c_X11_hat l hls G hN w fl g nl sv i j k T q hi hj hk hT hq hI h00 hL hP hCt) yy_X11_hat wm_L_47 (kl hN (by decide)) h00 rfl rfl rfl rfl (Nat.le_of_ble_eq_true rfl) (by decide) (by decide) ⟨by decide, by decide⟩ dL_hat_11 (fun E w2 fl2 hx => ?_) (fun v9 w2 fl2 hp => ?_)
  · obtain ⟨hE, hfl, hP⟩ := hx
    rcases hE with ⟨hE, hcc⟩ | ⟨hE, hcc⟩
    · subst hE
      refine k_catch1 hC hTb ⟨by decide, by decide⟩ (by decide) wl_L_21 wq_N (fun q9 => ?_)
      refine k_astore hC [(7, .ref q9), (0, .ref (kad G 0)), (1, vI i), (2, vI j), (3, vI k), (4, vI T), (5, vI q), (6, .ref (kad G 148))] dL_hat_19 (by decide) rfl ?_
      refine k_iconst hC dL_hat_21 ?_
      subst hQ
      exact k_iretX hC hr ⟨by decide, by decide⟩ (Or.inr ⟨⟨hfl, hP⟩, Or.inl ⟨hcc, rfl⟩⟩) dL_hat_22
    · subst hE
      refine k_catch2 hC hTb ⟨by decide, by decide⟩ (by decide) (by decide) wl_L_21 hNc wl_L_13 wq_I (fun q9 => ?_)
      refine k_astore hC [(7, .ref q9), (0, .ref (kad G 0)), (1, vI i), (2, vI j), (3, vI k), (4, vI T), (5, vI q), (6, .ref (kad G 148))] dL_hat_23 (by decide) rfl ?_
      refine k_iconst hC dL_hat_25 ?_
      subst hQ
      exact k_iretX hC hr ⟨by decide, by decide⟩ (Or.inr ⟨⟨hfl, hP⟩, Or.inr ⟨hcc, rfl⟩⟩) dL_hat_26
  · obtain ⟨hcc, hv, hfl, hP⟩ := hp
    subst hv
    have h148b : w2 148 = lA G 1 out := (by first | exact (hP.2 148 (by decide)).trans h148 | exact (hP.2.2 148 (by decide)).trans h148 | exact (hP.2.2.2 148 (by decide)).trans h148 | (rcases hP with ⟨-, q9⟩ | ⟨-, -, -, q9⟩; (rw [q9]; exact h148); (exact (q9 148 (by decide)).trans h148)) | (obtain ⟨-, gp1, gl1, nl1, -, -, q9⟩ := hP; rcases q9 with ⟨-, q9⟩ | ⟨-, -, -, -, -, -, q9⟩; (exact (q9 148 (by decide)).trans h148); (exact (q9 148 (by decide)).trans h148)))
    show KW p l e R s m args below meth c 8 G Q w2 fl2 8 48 14 [(0, .ref (kad G 0)), (1, vI i), (2, vI j), (3, vI k), (4, vI T), (5, vI q), (6, .ref (kad G 148))] [vI (hatV g i.toNat j.toNat k.toNat T q), vI 0, .ref (kad G 148)]
    refine k_topv (vI (i32 (hatV g i.toNat j.toNat k.toNat T q))) (vI_32 _) ?_
    refine k_i2l hC dL_hat_14 (i32_r _) ?_
    refine k_last hC (kl hN (by decide)) h148b (by omega) (by decide) dL_hat_15 (fun w11 hw11 hf11 => ?_)
    refine k_goto hC 27 dL_hat_16 rfl ?_
    refine k_iconst hC dL_hat_27 ?_
    subst hQ
    exact k_iretX hC hr ⟨by decide, by decide⟩ (Or.inl ⟨rfl, hcc, w2, ⟨hfl, hP⟩, hw11.trans (lA_congr (fun j hj => by rw [show j = 0 by omega]; exact kup_s)), fun j hj => hf11 j (by omega)⟩) dL_hat_28

set_option maxRecDepth 100000 in
set_option maxHeartbeats 4000000 in
theorem c_L_smallestHat (l : Launch) (hls : l.stackTraces = false) (G : kG) (hN : kN G = 150) (w : Nat → va_E) (fl : va_W) (g nl : Nat → Int) (sv : Int) (T : Int) (out : Nat → Int) (hT : -2147483648 ≤ T ∧ T ≤ 2147483647) (hI : Inv g) (h00 : w 0 = srO G sv) (hL : kLog G w 3 g) (hP : kPlan G w 32 g nl) (hCt : kCht G w) (h148 : w 148 = lA G 1 out) : KL l G yL_smallestHat cL_smallestHat 4 (some .int) [(0, 9, 12, 13)] 10 8 48 [.ref (kad G 0), vI T, .ref (kad G 148)] w fl (wrO G ((0 ≤ T ∧ T ≤ 5000)) (False) (¬ (0 ≤ T ∧ T ≤ 5000)) (leastM g T) 1 (fun w2 fl2 => fl = fl2 ∧ (kCP G w) w2) (fun w2 fl2 => fl = fl2 ∧ (kCP G w) w2)) := by
  refine KL_of hls (by decide +kernel) rfl (lv0 := [(0, .ref (kad G 0)), (1, vI T), (2, .ref (kad G 148))]) rfl (Nat.le_of_ble_eq_true rfl) (fun p e R s m args below meth c Q hC hr hTb hNc hQ => ?_)
  refine k_aload_n hC dL_smallestHat_0 rfl 2 rfl ?_
  refine k_iconst hC dL_smallestHat_1 ?_
  refine k_aload_n hC dL_smallestHat_2 rfl 0 rfl ?_
  refine k_iload_n hC dL_smallestHat_3 rfl 1 rfl ?_
  refine k_callVT hC (c_X11_smallestHat l hls G hN w fl g nl sv T hT hI h00 hL hP hCt) yy_X11_smallestHat wm_L_51 (kl hN (by decide)) h00 rfl rfl rfl rfl (Nat.le_of_ble_eq_true rfl) (by decide) (by decide) ⟨by decide, by decide⟩ dL_smallestHat_4 (fun E w2 fl2 hx => ?_) (fun v9 w2 fl2 hp => ?_)
  · obtain ⟨hE, hfl, hP⟩ := hx
    rcases hE with ⟨hE, hcc⟩ | ⟨hE, hcc⟩
    · exact hcc.elim
    · subst hE
      refine k_catch1 hC hTb ⟨by decide, by decide⟩ (by decide) wl_L_13 wq_I (fun q9 => ?_)
      refine k_astore_n hC [(3, .ref q9), (0, .ref (kad G 0)), (1, vI T), (2, .ref (kad G 148))] dL_smallestHat_12 rfl (by decide) rfl ?_
      refine k_iconst hC dL_smallestHat_13 ?_
      subst hQ
      exact k_iretX hC hr ⟨by decide, by decide⟩ (Or.inr ⟨⟨hfl, hP⟩, Or.inr ⟨hcc, rfl⟩⟩) dL_smallestHat_14
  · obtain ⟨hcc, hv, hfl, hP⟩ := hp
    subst hv
    have h148b : w2 148 = lA G 1 out := (by first | exact (hP.2 148 (by decide)).trans h148 | exact (hP.2.2 148 (by decide)).trans h148 | exact (hP.2.2.2 148 (by decide)).trans h148 | (rcases hP with ⟨-, q9⟩ | ⟨-, -, -, q9⟩; (rw [q9]; exact h148); (exact (q9 148 (by decide)).trans h148)) | (obtain ⟨-, gp1, gl1, nl1, -, -, q9⟩ := hP; rcases q9 with ⟨-, q9⟩ | ⟨-, -, -, -, -, -, q9⟩; (exact (q9 148 (by decide)).trans h148); (exact (q9 148 (by decide)).trans h148)))
    show KW p l e R s m args below meth c 4 G Q w2 fl2 8 48 7 [(0, .ref (kad G 0)), (1, vI T), (2, .ref (kad G 148))] [vI (leastM g T), vI 0, .ref (kad G 148)]
    refine k_topv (vI (i32 (leastM g T))) (vI_32 _) ?_
    refine k_i2l hC dL_smallestHat_7 (i32_r _) ?_
    refine k_last hC (kl hN (by decide)) h148b (by omega) (by decide) dL_smallestHat_8 (fun w11 hw11 hf11 => ?_)
    refine k_goto hC 15 dL_smallestHat_9 rfl ?_
    refine k_iconst hC dL_smallestHat_15 ?_
    subst hQ
    exact k_iretX hC hr ⟨by decide, by decide⟩ (Or.inl ⟨rfl, hcc, w2, ⟨hfl, hP⟩, hw11.trans (lA_congr (fun j hj => by rw [show j = 0 by omega]; exact kup_s)), fun j hj => hf11 j (by omega)⟩) dL_smallestHat_16

set_option maxRecDepth 100000 in
set_option maxHeartbeats 4000000 in
theorem c_L_isInside (l : Launch) (hls : l.stackTraces = false) (G : kG) (hN : kN G = 150) (w : Nat → va_E) (fl : va_W) (g nl : Nat → Int) (sv : Int) (i j k T x y : Int) (out : Nat → Int) (hi : -2147483648 ≤ i ∧ i ≤ 2147483647) (hj : -2147483648 ≤ j ∧ j ≤ 2147483647) (hk : -2147483648 ≤ k ∧ k ≤ 2147483647) (hT : -2147483648 ≤ T ∧ T ≤ 2147483647) (hx : -2147483648 ≤ x ∧ x ≤ 2147483647) (hy : -2147483648 ≤ y ∧ y ≤ 2147483647) (hI : Inv g) (h00 : w 0 = srO G sv) (hL : kLog G w 3 g) (hP : kPlan G w 32 g nl) (hCt : kCht G w) (h148 : w 148 = lA G 1 out) : KL l G yL_isInside cL_isInside 9 (some .int) [(0, 25, 28, 21), (0, 25, 32, 13)] 11 8 48 [.ref (kad G 0), vI i, vI j, vI k, vI T, vI x, vI y, .ref (kad G 148)] w fl (wrO G ((((0 ≤ i ∧ i < g 2) ∧ (0 ≤ j ∧ j < g 2) ∧ (0 ≤ k ∧ k < g 2)) ∧ (0 ≤ T ∧ T ≤ 5000)) ∧ ((-1000000 ≤ x ∧ x ≤ 1000000) ∧ (-1000000 ≤ y ∧ y ≤ 1000000))) (¬ ((0 ≤ i ∧ i < g 2) ∧ (0 ≤ j ∧ j < g 2) ∧ (0 ≤ k ∧ k < g 2))) (((0 ≤ i ∧ i < g 2) ∧ (0 ≤ j ∧ j < g 2) ∧ (0 ≤ k ∧ k < g 2)) ∧ ¬ ((0 ≤ T ∧ T ≤ 5000) ∧ ((-1000000 ≤ x ∧ x ≤ 1000000) ∧ (-1000000 ≤ y ∧ y ≤ 1000000)))) (insV g i.toNat j.toNat k.toNat T x y) 2 (fun w2 fl2 => fl = fl2 ∧ (kCP G w) w2) (fun w2 fl2 => fl = fl2 ∧ (kCP G w) w2)) := by
  refine KL_of hls (by decide +kernel) rfl (lv0 := [(0, .ref (kad G 0)), (1, vI i), (2, vI j), (3, vI k), (4, vI T), (5, vI x), (6, vI y), (7, .ref (kad G 148))]) rfl (Nat.le_of_ble_eq_true rfl) (fun p e R s m args below meth c Q hC hr hTb hNc hQ => ?_)
  refine k_aload hC dL_isInside_0 7 rfl ?_
  refine k_iconst hC dL_isInside_2 ?_
  refine k_aload_n hC dL_isInside_3 rfl 0 rfl ?_
  refine k_iload_n hC dL_isInside_4 rfl 1 rfl ?_
  refine k_iload_n hC dL_isInside_5 rfl 2 rfl ?_
  refine k_iload_n hC dL_isInside_6 rfl 3 rfl ?_
  refine k_iload hC dL_isInside_7 4 rfl ?_
  refine k_iload hC dL_isInside_9 5 rfl ?_
  refine k_iload hC dL_isInside_11 6 rfl ?_
  refine k_callVT hC (c_X11_isInside l hls G hN w fl g nl sv i j k T x y hi hj hk hT hx hy hI h00 hL hP hCt) yy_X11_isInside wm_L_54 (kl hN (by decide)) h00 rfl rfl rfl rfl (Nat.le_of_ble_eq_true rfl) (by decide) (by decide) ⟨by decide, by decide⟩ dL_isInside_13 (fun E w2 fl2 hx => ?_) (fun v9 w2 fl2 hp => ?_)
  · obtain ⟨hE, hfl, hP⟩ := hx
    rcases hE with ⟨hE, hcc⟩ | ⟨hE, hcc⟩
    · subst hE
      refine k_catch1 hC hTb ⟨by decide, by decide⟩ (by decide) wl_L_21 wq_N (fun q9 => ?_)
      refine k_astore hC [(8, .ref q9), (0, .ref (kad G 0)), (1, vI i), (2, vI j), (3, vI k), (4, vI T), (5, vI x), (6, vI y), (7, .ref (kad G 148))] dL_isInside_28 (by decide) rfl ?_
      refine k_iconst hC dL_isInside_30 ?_
      subst hQ
      exact k_iretX hC hr ⟨by decide, by decide⟩ (Or.inr ⟨⟨hfl, hP⟩, Or.inl ⟨hcc, rfl⟩⟩) dL_isInside_31
    · subst hE
      refine k_catch2 hC hTb ⟨by decide, by decide⟩ (by decide) (by decide) wl_L_21 hNc wl_L_13 wq_I (fun q9 => ?_)
      refine k_astore hC [(8, .ref q9), (0, .ref (kad G 0)), (1, vI i), (2, vI j), (3, vI k), (4, vI T), (5, vI x), (6, vI y), (7, .ref (kad G 148))] dL_isInside_32 (by decide) rfl ?_
      refine k_iconst hC dL_isInside_34 ?_
      subst hQ
      exact k_iretX hC hr ⟨by decide, by decide⟩ (Or.inr ⟨⟨hfl, hP⟩, Or.inr ⟨hcc, rfl⟩⟩) dL_isInside_35
  · obtain ⟨hcc, hv, hfl, hP⟩ := hp
    subst hv
    have h148b : w2 148 = lA G 1 out := (by first | exact (hP.2 148 (by decide)).trans h148 | exact (hP.2.2 148 (by decide)).trans h148 | exact (hP.2.2.2 148 (by decide)).trans h148 | (rcases hP with ⟨-, q9⟩ | ⟨-, -, -, q9⟩; (rw [q9]; exact h148); (exact (q9 148 (by decide)).trans h148)) | (obtain ⟨-, gp1, gl1, nl1, -, -, q9⟩ := hP; rcases q9 with ⟨-, q9⟩ | ⟨-, -, -, -, -, -, q9⟩; (exact (q9 148 (by decide)).trans h148); (exact (q9 148 (by decide)).trans h148)))
    show KW p l e R s m args below meth c 9 G Q w2 fl2 8 48 16 [(0, .ref (kad G 0)), (1, vI i), (2, vI j), (3, vI k), (4, vI T), (5, vI x), (6, vI y), (7, .ref (kad G 148))] [vI (insV g i.toNat j.toNat k.toNat T x y), vI 0, .ref (kad G 148)]
    refine k_topv (vI (i32 (insV g i.toNat j.toNat k.toNat T x y))) (vI_32 _) ?_
    refine k_if_eq hC 23 dL_isInside_16 rfl (i32_r _) (fun c_16 => ?_) (fun c_16 => ?_)
    · refine k_lconst (x := 0) hC dL_isInside_23 (by decide) ?_
      refine k_topL0 (vL (i32 (insV g i.toNat j.toNat k.toNat T x y))) (congrArg vL c_16.symm) ?_
      refine k_last hC (kl hN (by decide)) h148b (by omega) (by decide) dL_isInside_24 (fun w11 hw11 hf11 => ?_)
      refine k_goto hC 36 dL_isInside_25 rfl ?_
      refine k_iconst hC dL_isInside_36 ?_
      subst hQ
      exact k_iretX hC hr ⟨by decide, by decide⟩ (Or.inl ⟨rfl, hcc, w2, ⟨hfl, hP⟩, hw11.trans (lA_congr (fun j hj => by rw [show j = 0 by omega]; exact kup_s)), fun j hj => hf11 j (by omega)⟩) dL_isInside_37
    · refine k_lconst (x := 1) hC dL_isInside_19 (by decide) ?_
      refine k_topL0 (vL (i32 (insV g i.toNat j.toNat k.toNat T x y))) (congrArg vL (by rcases (insV_01 : (insV g i.toNat j.toNat k.toNat T x y) = 0 ∨ (insV g i.toNat j.toNat k.toNat T x y) = 1) with q | q <;> (rw [q] at c_16 ⊢; first | rfl | exact absurd rfl c_16))) ?_
      refine k_goto hC 24 dL_isInside_20 rfl ?_
      refine k_last hC (kl hN (by decide)) h148b (by omega) (by decide) dL_isInside_24 (fun w12 hw12 hf12 => ?_)
      refine k_goto hC 36 dL_isInside_25 rfl ?_
      refine k_iconst hC dL_isInside_36 ?_
      subst hQ
      exact k_iretX hC hr ⟨by decide, by decide⟩ (Or.inl ⟨rfl, hcc, w2, ⟨hfl, hP⟩, hw12.trans (lA_congr (fun j hj => by rw [show j = 0 by omega]; exact kup_s)), fun j hj => hf12 j (by omega)⟩) dL_isInside_37

set_option maxRecDepth 100000 in
set_option maxHeartbeats 4000000 in
theorem c_L_fix (l : Launch) (hls : l.stackTraces = false) (G : kG) (hN : kN G = 150) (w : Nat → va_E) (fl : va_W) (g nl : Nat → Int) (sv : Int) (T no : Int) (out : Nat → Int) (hT : -2147483648 ≤ T ∧ T ≤ 2147483647) (hno : no = 0 ∨ no = 1) (hI : Inv g) (h00 : w 0 = srO G sv) (hL : kLog G w 3 g) (hP : kPlan G w 32 g nl) (hCt : kCht G w) (h148 : w 148 = lA G 1 out) : KL l G yL_fix cL_fix 5 (some .int) [(0, 10, 13, 13)] 10 8 48 [.ref (kad G 0), vI T, vI no, .ref (kad G 148)] w fl (wrO G ((0 ≤ T ∧ T ≤ 5000)) (False) (¬ (0 ≤ T ∧ T ≤ 5000)) (fixV g T no) 1 (fun w2 fl2 => fl = fl2 ∧ (kCP G w) w2) (fun w2 fl2 => fl = fl2 ∧ (kCP G w) w2)) := by
  refine KL_of hls (by decide +kernel) rfl (lv0 := [(0, .ref (kad G 0)), (1, vI T), (2, vI no), (3, .ref (kad G 148))]) rfl (Nat.le_of_ble_eq_true rfl) (fun p e R s m args below meth c Q hC hr hTb hNc hQ => ?_)
  refine k_aload_n hC dL_fix_0 rfl 3 rfl ?_
  refine k_iconst hC dL_fix_1 ?_
  refine k_aload_n hC dL_fix_2 rfl 0 rfl ?_
  refine k_iload_n hC dL_fix_3 rfl 1 rfl ?_
  refine k_iload_n hC dL_fix_4 rfl 2 rfl ?_
  refine k_callVT hC (c_X11_fix l hls G hN w fl g nl sv T no hT hno hI h00 hL hP hCt) yy_X11_fix wm_L_58 (kl hN (by decide)) h00 rfl rfl rfl rfl (Nat.le_of_ble_eq_true rfl) (by decide) (by decide) ⟨by decide, by decide⟩ dL_fix_5 (fun E w2 fl2 hx => ?_) (fun v9 w2 fl2 hp => ?_)
  · obtain ⟨hE, hfl, hP⟩ := hx
    rcases hE with ⟨hE, hcc⟩ | ⟨hE, hcc⟩
    · exact hcc.elim
    · subst hE
      refine k_catch1 hC hTb ⟨by decide, by decide⟩ (by decide) wl_L_13 wq_I (fun q9 => ?_)
      refine k_astore hC [(4, .ref q9), (0, .ref (kad G 0)), (1, vI T), (2, vI no), (3, .ref (kad G 148))] dL_fix_13 (by decide) rfl ?_
      refine k_iconst hC dL_fix_15 ?_
      subst hQ
      exact k_iretX hC hr ⟨by decide, by decide⟩ (Or.inr ⟨⟨hfl, hP⟩, Or.inr ⟨hcc, rfl⟩⟩) dL_fix_16
  · obtain ⟨hcc, hv, hfl, hP⟩ := hp
    subst hv
    have h148b : w2 148 = lA G 1 out := (by first | exact (hP.2 148 (by decide)).trans h148 | exact (hP.2.2 148 (by decide)).trans h148 | exact (hP.2.2.2 148 (by decide)).trans h148 | (rcases hP with ⟨-, q9⟩ | ⟨-, -, -, q9⟩; (rw [q9]; exact h148); (exact (q9 148 (by decide)).trans h148)) | (obtain ⟨-, gp1, gl1, nl1, -, -, q9⟩ := hP; rcases q9 with ⟨-, q9⟩ | ⟨-, -, -, -, -, -, q9⟩; (exact (q9 148 (by decide)).trans h148); (exact (q9 148 (by decide)).trans h148)))
    show KW p l e R s m args below meth c 5 G Q w2 fl2 8 48 8 [(0, .ref (kad G 0)), (1, vI T), (2, vI no), (3, .ref (kad G 148))] [vI (fixV g T no), vI 0, .ref (kad G 148)]
    refine k_topv (vI (i32 (fixV g T no))) (vI_32 _) ?_
    refine k_i2l hC dL_fix_8 (i32_r _) ?_
    refine k_last hC (kl hN (by decide)) h148b (by omega) (by decide) dL_fix_9 (fun w11 hw11 hf11 => ?_)
    refine k_goto hC 17 dL_fix_10 rfl ?_
    refine k_iconst hC dL_fix_17 ?_
    subst hQ
    exact k_iretX hC hr ⟨by decide, by decide⟩ (Or.inl ⟨rfl, hcc, w2, ⟨hfl, hP⟩, hw11.trans (lA_congr (fun j hj => by rw [show j = 0 by omega]; exact kup_s)), fun j hj => hf11 j (by omega)⟩) dL_fix_18

set_option maxRecDepth 100000 in
set_option maxHeartbeats 4000000 in
theorem c_L_residual (l : Launch) (hls : l.stackTraces = false) (G : kG) (hN : kN G = 150) (w : Nat → va_E) (fl : va_W) (g nl : Nat → Int) (sv : Int) (i T : Int) (out : Nat → Int) (hi : -2147483648 ≤ i ∧ i ≤ 2147483647) (hT : -2147483648 ≤ T ∧ T ≤ 2147483647) (hI : Inv g) (h00 : w 0 = srO G sv) (hL : kLog G w 3 g) (hP : kPlan G w 32 g nl) (hCt : kCht G w) (h148 : w 148 = lA G 1 out) : KL l G yL_residual cL_residual 5 (some .int) [(0, 10, 13, 21), (0, 10, 17, 13)] 10 8 48 [.ref (kad G 0), vI i, vI T, .ref (kad G 148)] w fl (wrO G ((0 ≤ i ∧ i < g 2) ∧ (0 ≤ T ∧ T ≤ 5000)) (¬ (0 ≤ i ∧ i < g 2)) ((0 ≤ i ∧ i < g 2) ∧ ¬ (0 ≤ T ∧ T ≤ 5000)) (resV g T i.toNat) 2 (fun w2 fl2 => fl = fl2 ∧ (kCP G w) w2) (fun w2 fl2 => fl = fl2 ∧ (kCP G w) w2)) := by
  refine KL_of hls (by decide +kernel) rfl (lv0 := [(0, .ref (kad G 0)), (1, vI i), (2, vI T), (3, .ref (kad G 148))]) rfl (Nat.le_of_ble_eq_true rfl) (fun p e R s m args below meth c Q hC hr hTb hNc hQ => ?_)
  refine k_aload_n hC dL_residual_0 rfl 3 rfl ?_
  refine k_iconst hC dL_residual_1 ?_
  refine k_aload_n hC dL_residual_2 rfl 0 rfl ?_
  refine k_iload_n hC dL_residual_3 rfl 1 rfl ?_
  refine k_iload_n hC dL_residual_4 rfl 2 rfl ?_
  refine k_callVT hC (c_X11_residual l hls G hN w fl g nl sv i T hi hT hI h00 hL hP hCt) yy_X11_residual wm_L_61 (kl hN (by decide)) h00 rfl rfl rfl rfl (Nat.le_of_ble_eq_true rfl) (by decide) (by decide) ⟨by decide, by decide⟩ dL_residual_5 (fun E w2 fl2 hx => ?_) (fun v9 w2 fl2 hp => ?_)
  · obtain ⟨hE, hfl, hP⟩ := hx
    rcases hE with ⟨hE, hcc⟩ | ⟨hE, hcc⟩
    · subst hE
      refine k_catch1 hC hTb ⟨by decide, by decide⟩ (by decide) wl_L_21 wq_N (fun q9 => ?_)
      refine k_astore hC [(4, .ref q9), (0, .ref (kad G 0)), (1, vI i), (2, vI T), (3, .ref (kad G 148))] dL_residual_13 (by decide) rfl ?_
      refine k_iconst hC dL_residual_15 ?_
      subst hQ
      exact k_iretX hC hr ⟨by decide, by decide⟩ (Or.inr ⟨⟨hfl, hP⟩, Or.inl ⟨hcc, rfl⟩⟩) dL_residual_16
    · subst hE
      refine k_catch2 hC hTb ⟨by decide, by decide⟩ (by decide) (by decide) wl_L_21 hNc wl_L_13 wq_I (fun q9 => ?_)
      refine k_astore hC [(4, .ref q9), (0, .ref (kad G 0)), (1, vI i), (2, vI T), (3, .ref (kad G 148))] dL_residual_17 (by decide) rfl ?_
      refine k_iconst hC dL_residual_19 ?_
      subst hQ
      exact k_iretX hC hr ⟨by decide, by decide⟩ (Or.inr ⟨⟨hfl, hP⟩, Or.inr ⟨hcc, rfl⟩⟩) dL_residual_20
  · obtain ⟨hcc, hv, hfl, hP⟩ := hp
    subst hv
    have h148b : w2 148 = lA G 1 out := (by first | exact (hP.2 148 (by decide)).trans h148 | exact (hP.2.2 148 (by decide)).trans h148 | exact (hP.2.2.2 148 (by decide)).trans h148 | (rcases hP with ⟨-, q9⟩ | ⟨-, -, -, q9⟩; (rw [q9]; exact h148); (exact (q9 148 (by decide)).trans h148)) | (obtain ⟨-, gp1, gl1, nl1, -, -, q9⟩ := hP; rcases q9 with ⟨-, q9⟩ | ⟨-, -, -, -, -, -, q9⟩; (exact (q9 148 (by decide)).trans h148); (exact (q9 148 (by decide)).trans h148)))
    show KW p l e R s m args below meth c 5 G Q w2 fl2 8 48 8 [(0, .ref (kad G 0)), (1, vI i), (2, vI T), (3, .ref (kad G 148))] [vI (resV g T i.toNat), vI 0, .ref (kad G 148)]
    refine k_topv (vI (i32 (resV g T i.toNat))) (vI_32 _) ?_
    refine k_i2l hC dL_residual_8 (i32_r _) ?_
    refine k_last hC (kl hN (by decide)) h148b (by omega) (by decide) dL_residual_9 (fun w11 hw11 hf11 => ?_)
    refine k_goto hC 21 dL_residual_10 rfl ?_
    refine k_iconst hC dL_residual_21 ?_
    subst hQ
    exact k_iretX hC hr ⟨by decide, by decide⟩ (Or.inl ⟨rfl, hcc, w2, ⟨hfl, hP⟩, hw11.trans (lA_congr (fun j hj => by rw [show j = 0 by omega]; exact kup_s)), fun j hj => hf11 j (by omega)⟩) dL_residual_22

set_option maxRecDepth 100000 in
set_option maxHeartbeats 4000000 in
theorem c_L_worst (l : Launch) (hls : l.stackTraces = false) (G : kG) (hN : kN G = 150) (w : Nat → va_E) (fl : va_W) (g nl : Nat → Int) (sv : Int) (T : Int) (out : Nat → Int) (hT : -2147483648 ≤ T ∧ T ≤ 2147483647) (hI : Inv g) (h00 : w 0 = srO G sv) (hL : kLog G w 3 g) (hP : kPlan G w 32 g nl) (hCt : kCht G w) (h148 : w 148 = lA G 1 out) : KL l G yL_worst cL_worst 4 (some .int) [(0, 9, 12, 13)] 10 8 48 [.ref (kad G 0), vI T, .ref (kad G 148)] w fl (wrO G ((0 ≤ T ∧ T ≤ 5000)) (False) (¬ (0 ≤ T ∧ T ≤ 5000)) (worV g T) 1 (fun w2 fl2 => fl = fl2 ∧ (kCP G w) w2) (fun w2 fl2 => fl = fl2 ∧ (kCP G w) w2)) := by
  refine KL_of hls (by decide +kernel) rfl (lv0 := [(0, .ref (kad G 0)), (1, vI T), (2, .ref (kad G 148))]) rfl (Nat.le_of_ble_eq_true rfl) (fun p e R s m args below meth c Q hC hr hTb hNc hQ => ?_)
  refine k_aload_n hC dL_worst_0 rfl 2 rfl ?_
  refine k_iconst hC dL_worst_1 ?_
  refine k_aload_n hC dL_worst_2 rfl 0 rfl ?_
  refine k_iload_n hC dL_worst_3 rfl 1 rfl ?_
  refine k_callVT hC (c_X11_worst l hls G hN w fl g nl sv T hT hI h00 hL hP hCt) yy_X11_worst wm_L_64 (kl hN (by decide)) h00 rfl rfl rfl rfl (Nat.le_of_ble_eq_true rfl) (by decide) (by decide) ⟨by decide, by decide⟩ dL_worst_4 (fun E w2 fl2 hx => ?_) (fun v9 w2 fl2 hp => ?_)
  · obtain ⟨hE, hfl, hP⟩ := hx
    rcases hE with ⟨hE, hcc⟩ | ⟨hE, hcc⟩
    · exact hcc.elim
    · subst hE
      refine k_catch1 hC hTb ⟨by decide, by decide⟩ (by decide) wl_L_13 wq_I (fun q9 => ?_)
      refine k_astore_n hC [(3, .ref q9), (0, .ref (kad G 0)), (1, vI T), (2, .ref (kad G 148))] dL_worst_12 rfl (by decide) rfl ?_
      refine k_iconst hC dL_worst_13 ?_
      subst hQ
      exact k_iretX hC hr ⟨by decide, by decide⟩ (Or.inr ⟨⟨hfl, hP⟩, Or.inr ⟨hcc, rfl⟩⟩) dL_worst_14
  · obtain ⟨hcc, hv, hfl, hP⟩ := hp
    subst hv
    have h148b : w2 148 = lA G 1 out := (by first | exact (hP.2 148 (by decide)).trans h148 | exact (hP.2.2 148 (by decide)).trans h148 | exact (hP.2.2.2 148 (by decide)).trans h148 | (rcases hP with ⟨-, q9⟩ | ⟨-, -, -, q9⟩; (rw [q9]; exact h148); (exact (q9 148 (by decide)).trans h148)) | (obtain ⟨-, gp1, gl1, nl1, -, -, q9⟩ := hP; rcases q9 with ⟨-, q9⟩ | ⟨-, -, -, -, -, -, q9⟩; (exact (q9 148 (by decide)).trans h148); (exact (q9 148 (by decide)).trans h148)))
    show KW p l e R s m args below meth c 4 G Q w2 fl2 8 48 7 [(0, .ref (kad G 0)), (1, vI T), (2, .ref (kad G 148))] [vI (worV g T), vI 0, .ref (kad G 148)]
    refine k_topv (vI (i32 (worV g T))) (vI_32 _) ?_
    refine k_i2l hC dL_worst_7 (i32_r _) ?_
    refine k_last hC (kl hN (by decide)) h148b (by omega) (by decide) dL_worst_8 (fun w11 hw11 hf11 => ?_)
    refine k_goto hC 15 dL_worst_9 rfl ?_
    refine k_iconst hC dL_worst_15 ?_
    subst hQ
    exact k_iretX hC hr ⟨by decide, by decide⟩ (Or.inl ⟨rfl, hcc, w2, ⟨hfl, hP⟩, hw11.trans (lA_congr (fun j hj => by rw [show j = 0 by omega]; exact kup_s)), fun j hj => hf11 j (by omega)⟩) dL_worst_16

set_option maxRecDepth 100000 in
set_option maxHeartbeats 4000000 in
theorem c_L_offCourse (l : Launch) (hls : l.stackTraces = false) (G : kG) (hN : kN G = 150) (w : Nat → va_E) (fl : va_W) (g nl : Nat → Int) (sv : Int) (T : Int) (out : Nat → Int) (hT : -2147483648 ≤ T ∧ T ≤ 2147483647) (hI : Inv g) (h00 : w 0 = srO G sv) (hL : kLog G w 3 g) (hP : kPlan G w 32 g nl) (hCt : kCht G w) (h148 : w 148 = lA G 1 out) : KL l G yL_offCourse cL_offCourse 4 (some .int) [(0, 9, 12, 13)] 10 8 48 [.ref (kad G 0), vI T, .ref (kad G 148)] w fl (wrO G ((0 ≤ T ∧ T ≤ 5000)) (False) (¬ (0 ≤ T ∧ T ≤ 5000)) (offV g T) 1 (fun w2 fl2 => fl = fl2 ∧ (kCP G w) w2) (fun w2 fl2 => fl = fl2 ∧ (kCP G w) w2)) := by
  refine KL_of hls (by decide +kernel) rfl (lv0 := [(0, .ref (kad G 0)), (1, vI T), (2, .ref (kad G 148))]) rfl (Nat.le_of_ble_eq_true rfl) (fun p e R s m args below meth c Q hC hr hTb hNc hQ => ?_)
  refine k_aload_n hC dL_offCourse_0 rfl 2 rfl ?_
  refine k_iconst hC dL_offCourse_1 ?_
  refine k_aload_n hC dL_offCourse_2 rfl 0 rfl ?_
  refine k_iload_n hC dL_offCourse_3 rfl 1 rfl ?_
  refine k_callVT hC (c_X11_offCourse l hls G hN w fl g nl sv T hT hI h00 hL hP hCt) yy_X11_offCourse wm_L_67 (kl hN (by decide)) h00 rfl rfl rfl rfl (Nat.le_of_ble_eq_true rfl) (by decide) (by decide) ⟨by decide, by decide⟩ dL_offCourse_4 (fun E w2 fl2 hx => ?_) (fun v9 w2 fl2 hp => ?_)
  · obtain ⟨hE, hfl, hP⟩ := hx
    rcases hE with ⟨hE, hcc⟩ | ⟨hE, hcc⟩
    · exact hcc.elim
    · subst hE
      refine k_catch1 hC hTb ⟨by decide, by decide⟩ (by decide) wl_L_13 wq_I (fun q9 => ?_)
      refine k_astore_n hC [(3, .ref q9), (0, .ref (kad G 0)), (1, vI T), (2, .ref (kad G 148))] dL_offCourse_12 rfl (by decide) rfl ?_
      refine k_iconst hC dL_offCourse_13 ?_
      subst hQ
      exact k_iretX hC hr ⟨by decide, by decide⟩ (Or.inr ⟨⟨hfl, hP⟩, Or.inr ⟨hcc, rfl⟩⟩) dL_offCourse_14
  · obtain ⟨hcc, hv, hfl, hP⟩ := hp
    subst hv
    have h148b : w2 148 = lA G 1 out := (by first | exact (hP.2 148 (by decide)).trans h148 | exact (hP.2.2 148 (by decide)).trans h148 | exact (hP.2.2.2 148 (by decide)).trans h148 | (rcases hP with ⟨-, q9⟩ | ⟨-, -, -, q9⟩; (rw [q9]; exact h148); (exact (q9 148 (by decide)).trans h148)) | (obtain ⟨-, gp1, gl1, nl1, -, -, q9⟩ := hP; rcases q9 with ⟨-, q9⟩ | ⟨-, -, -, -, -, -, q9⟩; (exact (q9 148 (by decide)).trans h148); (exact (q9 148 (by decide)).trans h148)))
    show KW p l e R s m args below meth c 4 G Q w2 fl2 8 48 7 [(0, .ref (kad G 0)), (1, vI T), (2, .ref (kad G 148))] [vI (offV g T), vI 0, .ref (kad G 148)]
    refine k_topv (vI (i32 (offV g T))) (vI_32 _) ?_
    refine k_i2l hC dL_offCourse_7 (i32_r _) ?_
    refine k_last hC (kl hN (by decide)) h148b (by omega) (by decide) dL_offCourse_8 (fun w11 hw11 hf11 => ?_)
    refine k_goto hC 15 dL_offCourse_9 rfl ?_
    refine k_iconst hC dL_offCourse_15 ?_
    subst hQ
    exact k_iretX hC hr ⟨by decide, by decide⟩ (Or.inl ⟨rfl, hcc, w2, ⟨hfl, hP⟩, hw11.trans (lA_congr (fun j hj => by rw [show j = 0 by omega]; exact kup_s)), fun j hj => hf11 j (by omega)⟩) dL_offCourse_16

set_option maxRecDepth 100000 in
set_option maxHeartbeats 4000000 in
theorem c_L_unknownCurrent (l : Launch) (hls : l.stackTraces = false) (G : kG) (hN : kN G = 150) (w : Nat → va_E) (fl : va_W) (g nl : Nat → Int) (sv : Int) (T dr : Int) (out : Nat → Int) (hT : -2147483648 ≤ T ∧ T ≤ 2147483647) (hdr : dr = 0 ∨ dr = 1) (hI : Inv g) (h00 : w 0 = srO G sv) (hL : kLog G w 3 g) (hP : kPlan G w 32 g nl) (hCt : kCht G w) (h148 : w 148 = lA G 1 out) : KL l G yL_unknownCurrent cL_unknownCurrent 5 (some .int) [(0, 10, 13, 13)] 9 8 48 [.ref (kad G 0), vI T, vI dr, .ref (kad G 148)] w fl (wrO G (1 ≤ T ∧ T ≤ 5000) (False) (¬ (1 ≤ T ∧ T ≤ 5000)) (unkV g T dr) 1 (fun w2 fl2 => fl = fl2 ∧ (kCP G w) w2) (fun w2 fl2 => fl = fl2 ∧ (kCP G w) w2)) := by
  refine KL_of hls (by decide +kernel) rfl (lv0 := [(0, .ref (kad G 0)), (1, vI T), (2, vI dr), (3, .ref (kad G 148))]) rfl (Nat.le_of_ble_eq_true rfl) (fun p e R s m args below meth c Q hC hr hTb hNc hQ => ?_)
  refine k_aload_n hC dL_unknownCurrent_0 rfl 3 rfl ?_
  refine k_iconst hC dL_unknownCurrent_1 ?_
  refine k_aload_n hC dL_unknownCurrent_2 rfl 0 rfl ?_
  refine k_iload_n hC dL_unknownCurrent_3 rfl 1 rfl ?_
  refine k_iload_n hC dL_unknownCurrent_4 rfl 2 rfl ?_
  refine k_callVT hC (c_X11_unknownCurrent l hls G hN w fl g nl sv T dr hT hdr hI h00 hL hP hCt) yy_X11_unknownCurrent wm_L_70 (kl hN (by decide)) h00 rfl rfl rfl rfl (Nat.le_of_ble_eq_true rfl) (by decide) (by decide) ⟨by decide, by decide⟩ dL_unknownCurrent_5 (fun E w2 fl2 hx => ?_) (fun v9 w2 fl2 hp => ?_)
  · obtain ⟨hE, hfl, hP⟩ := hx
    rcases hE with ⟨hE, hcc⟩ | ⟨hE, hcc⟩
    · exact hcc.elim
    · subst hE
      refine k_catch1 hC hTb ⟨by decide, by decide⟩ (by decide) wl_L_13 wq_I (fun q9 => ?_)
      refine k_astore hC [(4, .ref q9), (0, .ref (kad G 0)), (1, vI T), (2, vI dr), (3, .ref (kad G 148))] dL_unknownCurrent_13 (by decide) rfl ?_
      refine k_iconst hC dL_unknownCurrent_15 ?_
      subst hQ
      exact k_iretX hC hr ⟨by decide, by decide⟩ (Or.inr ⟨⟨hfl, hP⟩, Or.inr ⟨hcc, rfl⟩⟩) dL_unknownCurrent_16
  · obtain ⟨hcc, hv, hfl, hP⟩ := hp
    subst hv
    have h148b : w2 148 = lA G 1 out := (by first | exact (hP.2 148 (by decide)).trans h148 | exact (hP.2.2 148 (by decide)).trans h148 | exact (hP.2.2.2 148 (by decide)).trans h148 | (rcases hP with ⟨-, q9⟩ | ⟨-, -, -, q9⟩; (rw [q9]; exact h148); (exact (q9 148 (by decide)).trans h148)) | (obtain ⟨-, gp1, gl1, nl1, -, -, q9⟩ := hP; rcases q9 with ⟨-, q9⟩ | ⟨-, -, -, -, -, -, q9⟩; (exact (q9 148 (by decide)).trans h148); (exact (q9 148 (by decide)).trans h148)))
    show KW p l e R s m args below meth c 5 G Q w2 fl2 8 48 8 [(0, .ref (kad G 0)), (1, vI T), (2, vI dr), (3, .ref (kad G 148))] [vI (unkV g T dr), vI 0, .ref (kad G 148)]
    refine k_topv (vI (i32 (unkV g T dr))) (vI_32 _) ?_
    refine k_i2l hC dL_unknownCurrent_8 (i32_r _) ?_
    refine k_last hC (kl hN (by decide)) h148b (by omega) (by decide) dL_unknownCurrent_9 (fun w11 hw11 hf11 => ?_)
    refine k_goto hC 17 dL_unknownCurrent_10 rfl ?_
    refine k_iconst hC dL_unknownCurrent_17 ?_
    subst hQ
    exact k_iretX hC hr ⟨by decide, by decide⟩ (Or.inl ⟨rfl, hcc, w2, ⟨hfl, hP⟩, hw11.trans (lA_congr (fun j hj => by rw [show j = 0 by omega]; exact kup_s)), fun j hj => hf11 j (by omega)⟩) dL_unknownCurrent_18

set_option maxRecDepth 100000 in
set_option maxHeartbeats 4000000 in
theorem c_L_meanResidual (l : Launch) (hls : l.stackTraces = false) (G : kG) (hN : kN G = 150) (w : Nat → va_E) (fl : va_W) (g nl : Nat → Int) (sv : Int) (T : Int) (oD : Nat → UInt64) (hT : -2147483648 ≤ T ∧ T ≤ 2147483647) (hI : Inv g) (h00 : w 0 = srO G sv) (hL : kLog G w 3 g) (hP : kPlan G w 32 g nl) (hCt : kCht G w) (h149 : w 149 = dA G 1 oD) : KL l G yL_meanResidual cL_meanResidual 4 (some .int) [(0, 8, 11, 13)] 10 8 48 [.ref (kad G 0), vI T, .ref (kad G 149)] w fl (wrD G ((0 ≤ T ∧ T ≤ 5000)) (False) (¬ (0 ≤ T ∧ T ≤ 5000)) (mrV g T) 1 (fun w2 fl2 => fl = fl2 ∧ (kCP G w) w2) (fun w2 fl2 => fl = fl2 ∧ (kCP G w) w2)) := by
  refine KL_of hls (by decide +kernel) rfl (lv0 := [(0, .ref (kad G 0)), (1, vI T), (2, .ref (kad G 149))]) rfl (Nat.le_of_ble_eq_true rfl) (fun p e R s m args below meth c Q hC hr hTb hNc hQ => ?_)
  refine k_aload_n hC dL_meanResidual_0 rfl 2 rfl ?_
  refine k_iconst hC dL_meanResidual_1 ?_
  refine k_aload_n hC dL_meanResidual_2 rfl 0 rfl ?_
  refine k_iload_n hC dL_meanResidual_3 rfl 1 rfl ?_
  refine k_callVT hC (c_X11_meanResidual l hls G hN w fl g nl sv T hT hI h00 hL hP hCt) yy_X11_meanResidual wm_L_73 (kl hN (by decide)) h00 rfl rfl rfl rfl (Nat.le_of_ble_eq_true rfl) (by decide) (by decide) ⟨by decide, by decide⟩ dL_meanResidual_4 (fun E w2 fl2 hx => ?_) (fun v9 w2 fl2 hp => ?_)
  · obtain ⟨hE, hfl, hP⟩ := hx
    rcases hE with ⟨hE, hcc⟩ | ⟨hE, hcc⟩
    · exact hcc.elim
    · subst hE
      refine k_catch1 hC hTb ⟨by decide, by decide⟩ (by decide) wl_L_13 wq_I (fun q9 => ?_)
      refine k_astore_n hC [(3, .ref q9), (0, .ref (kad G 0)), (1, vI T), (2, .ref (kad G 149))] dL_meanResidual_11 rfl (by decide) rfl ?_
      refine k_iconst hC dL_meanResidual_12 ?_
      subst hQ
      exact k_iretX hC hr ⟨by decide, by decide⟩ (Or.inr ⟨⟨hfl, hP⟩, Or.inr ⟨hcc, rfl⟩⟩) dL_meanResidual_13
  · obtain ⟨hcc, hv, hfl, hP⟩ := hp
    subst hv
    have h149b : w2 149 = dA G 1 oD := (hP.2 149 (by decide)).trans h149
    show KW p l e R s m args below meth c 4 G Q w2 fl2 8 48 7 [(0, .ref (kad G 0)), (1, vI T), (2, .ref (kad G 149))] [.double (mrV g T), vI 0, .ref (kad G 149)]
    refine k_dast1 hC (kl hN (by decide)) h149b dL_meanResidual_7 (fun w61 gD hw11 hgD hf11 => ?_)
    refine k_goto hC 14 dL_meanResidual_8 rfl ?_
    refine k_iconst hC dL_meanResidual_14 ?_
    subst hQ
    exact k_iretX hC hr ⟨by decide, by decide⟩ (Or.inl ⟨rfl, hcc, w2, ⟨hfl, hP⟩, ⟨gD, hw11, hgD⟩, fun j hj => hf11 j (by omega)⟩) dL_meanResidual_15

set_option maxRecDepth 100000 in
set_option maxHeartbeats 4000000 in
theorem c_L_observe (l : Launch) (hls : l.stackTraces = false) (G : kG) (hN : kN G = 150) (w : Nat → va_E) (fl : va_W) (g nl : Nat → Int) (sv : Int) (hs : Nat → Nat → Int) (nx : Nat) (cn : Int) (b T a : Int) (out : Nat → Int) (hb : -2147483648 ≤ b ∧ b ≤ 2147483647) (hT : -2147483648 ≤ T ∧ T ≤ 2147483647) (ha : -2147483648 ≤ a ∧ a ≤ 2147483647) (hnx : nx < 10) (hcn : 0 ≤ cn ∧ cn ≤ 10) (hHi : kHist G w hs (nx : Int) cn) (hI : Inv g) (h00 : w 0 = srO G sv) (hL : kLog G w 3 g) (hP : kPlan G w 32 g nl) (hCt : kCht G w) (h148 : w 148 = lA G 1 out) : KL l G yL_observe cL_observe 6 (some .int) [(0, 12, 15, 21), (0, 12, 19, 13)] 10 8 48 [.ref (kad G 0), vI b, vI T, vI a, .ref (kad G 148)] w fl (wrO G (((0 ≤ b ∧ b < g 0) ∧ (0 ≤ T ∧ T ≤ 5000)) ∧ (300 ≤ a ∧ a ≤ 5100)) (¬ (0 ≤ b ∧ b < g 0)) ((0 ≤ b ∧ b < g 0) ∧ ¬ ((0 ≤ T ∧ T ≤ 5000) ∧ (300 ≤ a ∧ a ≤ 5100))) (if 12 ≤ g 2 then -2 else g 2) 2 (fun w2 fl2 => fl = fl2 ∧ (fun w1 => (12 ≤ g 2 ∧ w1 = w) ∨ (¬ 12 ≤ g 2 ∧ kLog G w1 3 (addSightM g b T a) ∧ kHist G w1 (hsP hs nx g) (((nx + 1) % 10 : Nat) : Int) (min (cn + 1) 10) ∧ ∀ j, ((j < 3 ∨ 9 < j) ∧ (j < 44 ∨ 115 < j)) → w1 j = w j)) w2) (fun w2 fl2 => fl = fl2 ∧ (fun w1 => w1 = w) w2)) := by
  refine KL_of hls (by decide +kernel) rfl (lv0 := [(0, .ref (kad G 0)), (1, vI b), (2, vI T), (3, vI a), (4, .ref (kad G 148))]) rfl (Nat.le_of_ble_eq_true rfl) (fun p e R s m args below meth c Q hC hr hTb hNc hQ => ?_)
  refine k_aload hC dL_observe_0 4 rfl ?_
  refine k_iconst hC dL_observe_2 ?_
  refine k_aload_n hC dL_observe_3 rfl 0 rfl ?_
  refine k_iload_n hC dL_observe_4 rfl 1 rfl ?_
  refine k_iload_n hC dL_observe_5 rfl 2 rfl ?_
  refine k_iload_n hC dL_observe_6 rfl 3 rfl ?_
  refine k_callVT hC (c_X11_observe l hls G hN w fl g nl sv hs nx cn b T a hb hT ha hnx hcn hHi hI h00 hL hP hCt) yy_X11_observe wm_L_77 (kl hN (by decide)) h00 rfl rfl rfl rfl (Nat.le_of_ble_eq_true rfl) (by decide) (by decide) ⟨by decide, by decide⟩ dL_observe_7 (fun E w2 fl2 hx => ?_) (fun v9 w2 fl2 hp => ?_)
  · obtain ⟨hE, hfl, hP⟩ := hx
    rcases hE with ⟨hE, hcc⟩ | ⟨hE, hcc⟩
    · subst hE
      refine k_catch1 hC hTb ⟨by decide, by decide⟩ (by decide) wl_L_21 wq_N (fun q9 => ?_)
      refine k_astore hC [(5, .ref q9), (0, .ref (kad G 0)), (1, vI b), (2, vI T), (3, vI a), (4, .ref (kad G 148))] dL_observe_15 (by decide) rfl ?_
      refine k_iconst hC dL_observe_17 ?_
      subst hQ
      exact k_iretX hC hr ⟨by decide, by decide⟩ (Or.inr ⟨⟨hfl, hP⟩, Or.inl ⟨hcc, rfl⟩⟩) dL_observe_18
    · subst hE
      refine k_catch2 hC hTb ⟨by decide, by decide⟩ (by decide) (by decide) wl_L_21 hNc wl_L_13 wq_I (fun q9 => ?_)
      refine k_astore hC [(5, .ref q9), (0, .ref (kad G 0)), (1, vI b), (2, vI T), (3, vI a), (4, .ref (kad G 148))] dL_observe_19 (by decide) rfl ?_
      refine k_iconst hC dL_observe_21 ?_
      subst hQ
      exact k_iretX hC hr ⟨by decide, by decide⟩ (Or.inr ⟨⟨hfl, hP⟩, Or.inr ⟨hcc, rfl⟩⟩) dL_observe_22
  · obtain ⟨hcc, hv, hfl, hP⟩ := hp
    subst hv
    have h148b : w2 148 = lA G 1 out := (by first | exact (hP.2 148 (by decide)).trans h148 | exact (hP.2.2 148 (by decide)).trans h148 | exact (hP.2.2.2 148 (by decide)).trans h148 | (rcases hP with ⟨-, q9⟩ | ⟨-, -, -, q9⟩; (rw [q9]; exact h148); (exact (q9 148 (by decide)).trans h148)) | (obtain ⟨-, gp1, gl1, nl1, -, -, q9⟩ := hP; rcases q9 with ⟨-, q9⟩ | ⟨-, -, -, -, -, -, q9⟩; (exact (q9 148 (by decide)).trans h148); (exact (q9 148 (by decide)).trans h148)))
    show KW p l e R s m args below meth c 6 G Q w2 fl2 8 48 10 [(0, .ref (kad G 0)), (1, vI b), (2, vI T), (3, vI a), (4, .ref (kad G 148))] [vI (if 12 ≤ g 2 then -2 else g 2), vI 0, .ref (kad G 148)]
    refine k_topv (vI (i32 (if 12 ≤ g 2 then -2 else g 2))) (vI_32 _) ?_
    refine k_i2l hC dL_observe_10 (i32_r _) ?_
    refine k_last hC (kl hN (by decide)) h148b (by omega) (by decide) dL_observe_11 (fun w11 hw11 hf11 => ?_)
    refine k_goto hC 23 dL_observe_12 rfl ?_
    refine k_iconst hC dL_observe_23 ?_
    subst hQ
    exact k_iretX hC hr ⟨by decide, by decide⟩ (Or.inl ⟨rfl, hcc, w2, ⟨hfl, hP⟩, hw11.trans (lA_congr (fun j hj => by rw [show j = 0 by omega]; exact kup_s)), fun j hj => hf11 j (by omega)⟩) dL_observe_24

set_option maxRecDepth 100000 in
set_option maxHeartbeats 4000000 in
theorem c_L_drop (l : Launch) (hls : l.stackTraces = false) (G : kG) (hN : kN G = 150) (w : Nat → va_E) (fl : va_W) (g nl : Nat → Int) (sv : Int) (hs : Nat → Nat → Int) (nx : Nat) (cn : Int) (i : Int) (out : Nat → Int) (hi : -2147483648 ≤ i ∧ i ≤ 2147483647) (hnx : nx < 10) (hcn : 0 ≤ cn ∧ cn ≤ 10) (hHi : kHist G w hs (nx : Int) cn) (hI : Inv g) (h00 : w 0 = srO G sv) (hL : kLog G w 3 g) (hP : kPlan G w 32 g nl) (hCt : kCht G w) (h148 : w 148 = lA G 1 out) : KL l G yL_drop cL_drop 4 (some .int) [(0, 9, 12, 21)] 10 8 48 [.ref (kad G 0), vI i, .ref (kad G 148)] w fl (wrO G ((0 ≤ i ∧ i < g 2)) (¬ (0 ≤ i ∧ i < g 2)) (False) (g 2 - 1) 1 (fun w2 fl2 => fl = fl2 ∧ (fun w1 => kLog G w1 3 (dropM g i.toNat) ∧ kHist G w1 (hsP hs nx g) (((nx + 1) % 10 : Nat) : Int) (min (cn + 1) 10) ∧ ∀ j, ((j < 3 ∨ 9 < j) ∧ (j < 44 ∨ 115 < j)) → w1 j = w j) w2) (fun w2 fl2 => fl = fl2 ∧ (fun w1 => w1 = w) w2)) := by
  refine KL_of hls (by decide +kernel) rfl (lv0 := [(0, .ref (kad G 0)), (1, vI i), (2, .ref (kad G 148))]) rfl (Nat.le_of_ble_eq_true rfl) (fun p e R s m args below meth c Q hC hr hTb hNc hQ => ?_)
  refine k_aload_n hC dL_drop_0 rfl 2 rfl ?_
  refine k_iconst hC dL_drop_1 ?_
  refine k_aload_n hC dL_drop_2 rfl 0 rfl ?_
  refine k_iload_n hC dL_drop_3 rfl 1 rfl ?_
  refine k_callVT hC (c_X11_drop l hls G hN w fl g nl sv hs nx cn i hi hnx hcn hHi hI h00 hL hP hCt) yy_X11_drop wm_L_81 (kl hN (by decide)) h00 rfl rfl rfl rfl (Nat.le_of_ble_eq_true rfl) (by decide) (by decide) ⟨by decide, by decide⟩ dL_drop_4 (fun E w2 fl2 hx => ?_) (fun v9 w2 fl2 hp => ?_)
  · obtain ⟨hE, hfl, hP⟩ := hx
    rcases hE with ⟨hE, hcc⟩ | ⟨hE, hcc⟩
    · subst hE
      refine k_catch1 hC hTb ⟨by decide, by decide⟩ (by decide) wl_L_21 wq_N (fun q9 => ?_)
      refine k_astore_n hC [(3, .ref q9), (0, .ref (kad G 0)), (1, vI i), (2, .ref (kad G 148))] dL_drop_12 rfl (by decide) rfl ?_
      refine k_iconst hC dL_drop_13 ?_
      subst hQ
      exact k_iretX hC hr ⟨by decide, by decide⟩ (Or.inr ⟨⟨hfl, hP⟩, Or.inl ⟨hcc, rfl⟩⟩) dL_drop_14
    · exact hcc.elim
  · obtain ⟨hcc, hv, hfl, hP⟩ := hp
    subst hv
    have h148b : w2 148 = lA G 1 out := (by first | exact (hP.2 148 (by decide)).trans h148 | exact (hP.2.2 148 (by decide)).trans h148 | exact (hP.2.2.2 148 (by decide)).trans h148 | (rcases hP with ⟨-, q9⟩ | ⟨-, -, -, q9⟩; (rw [q9]; exact h148); (exact (q9 148 (by decide)).trans h148)) | (obtain ⟨-, gp1, gl1, nl1, -, -, q9⟩ := hP; rcases q9 with ⟨-, q9⟩ | ⟨-, -, -, -, -, -, q9⟩; (exact (q9 148 (by decide)).trans h148); (exact (q9 148 (by decide)).trans h148)))
    show KW p l e R s m args below meth c 4 G Q w2 fl2 8 48 7 [(0, .ref (kad G 0)), (1, vI i), (2, .ref (kad G 148))] [vI (g 2 - 1), vI 0, .ref (kad G 148)]
    refine k_topv (vI (i32 (g 2 - 1))) (vI_32 _) ?_
    refine k_i2l hC dL_drop_7 (i32_r _) ?_
    refine k_last hC (kl hN (by decide)) h148b (by omega) (by decide) dL_drop_8 (fun w11 hw11 hf11 => ?_)
    refine k_goto hC 15 dL_drop_9 rfl ?_
    refine k_iconst hC dL_drop_15 ?_
    subst hQ
    exact k_iretX hC hr ⟨by decide, by decide⟩ (Or.inl ⟨rfl, hcc, w2, ⟨hfl, hP⟩, hw11.trans (lA_congr (fun j hj => by rw [show j = 0 by omega]; exact kup_s)), fun j hj => hf11 j (by omega)⟩) dL_drop_16

set_option maxRecDepth 100000 in
set_option maxHeartbeats 4000000 in
theorem c_L_steer (l : Launch) (hls : l.stackTraces = false) (G : kG) (hN : kN G = 150) (w : Nat → va_E) (fl : va_W) (g nl : Nat → Int) (sv : Int) (hs : Nat → Nat → Int) (nx : Nat) (cn : Int) (T d u : Int) (out : Nat → Int) (hT : -2147483648 ≤ T ∧ T ≤ 2147483647) (hd : -2147483648 ≤ d ∧ d ≤ 2147483647) (hu : -2147483648 ≤ u ∧ u ≤ 2147483647) (hnx : nx < 10) (hcn : 0 ≤ cn ∧ cn ≤ 10) (hHi : kHist G w hs (nx : Int) cn) (hI : Inv g) (h00 : w 0 = srO G sv) (hL : kLog G w 3 g) (hP : kPlan G w 32 g nl) (hCt : kCht G w) (h148 : w 148 = lA G 1 out) : KL l G yL_steer cL_steer 6 (some .int) [(0, 12, 15, 13)] 10 8 48 [.ref (kad G 0), vI T, vI d, vI u, .ref (kad G 148)] w fl (wrO G (((0 ≤ T ∧ T ≤ 5000) ∧ (0 ≤ d ∧ d ≤ 21599)) ∧ (0 ≤ u ∧ u ≤ 400)) (False) (¬ (((0 ≤ T ∧ T ≤ 5000) ∧ (0 ≤ d ∧ d ≤ 21599)) ∧ (0 ≤ u ∧ u ≤ 400))) (if 8 ≤ g 1 then -2 else if T ≤ lastM g then -3 else g 1) 1 (fun w2 fl2 => fl = fl2 ∧ (fun w1 => ((8 ≤ g 1 ∨ T ≤ lastM g) ∧ w1 = w) ∨ (¬ (8 ≤ g 1 ∨ T ≤ lastM g) ∧ kLog G w1 3 (addLegM g T d u) ∧ kHist G w1 (hsP hs nx g) (((nx + 1) % 10 : Nat) : Int) (min (cn + 1) 10) ∧ ∀ j, ((j < 3 ∨ 9 < j) ∧ (j < 44 ∨ 115 < j)) → w1 j = w j)) w2) (fun w2 fl2 => fl = fl2 ∧ (fun w1 => w1 = w) w2)) := by
  refine KL_of hls (by decide +kernel) rfl (lv0 := [(0, .ref (kad G 0)), (1, vI T), (2, vI d), (3, vI u), (4, .ref (kad G 148))]) rfl (Nat.le_of_ble_eq_true rfl) (fun p e R s m args below meth c Q hC hr hTb hNc hQ => ?_)
  refine k_aload hC dL_steer_0 4 rfl ?_
  refine k_iconst hC dL_steer_2 ?_
  refine k_aload_n hC dL_steer_3 rfl 0 rfl ?_
  refine k_iload_n hC dL_steer_4 rfl 1 rfl ?_
  refine k_iload_n hC dL_steer_5 rfl 2 rfl ?_
  refine k_iload_n hC dL_steer_6 rfl 3 rfl ?_
  refine k_callVT hC (c_X11_steer l hls G hN w fl g nl sv hs nx cn T d u hT hd hu hnx hcn hHi hI h00 hL hP hCt) yy_X11_steer wm_L_84 (kl hN (by decide)) h00 rfl rfl rfl rfl (Nat.le_of_ble_eq_true rfl) (by decide) (by decide) ⟨by decide, by decide⟩ dL_steer_7 (fun E w2 fl2 hx => ?_) (fun v9 w2 fl2 hp => ?_)
  · obtain ⟨hE, hfl, hP⟩ := hx
    rcases hE with ⟨hE, hcc⟩ | ⟨hE, hcc⟩
    · exact hcc.elim
    · subst hE
      refine k_catch1 hC hTb ⟨by decide, by decide⟩ (by decide) wl_L_13 wq_I (fun q9 => ?_)
      refine k_astore hC [(5, .ref q9), (0, .ref (kad G 0)), (1, vI T), (2, vI d), (3, vI u), (4, .ref (kad G 148))] dL_steer_15 (by decide) rfl ?_
      refine k_iconst hC dL_steer_17 ?_
      subst hQ
      exact k_iretX hC hr ⟨by decide, by decide⟩ (Or.inr ⟨⟨hfl, hP⟩, Or.inr ⟨hcc, rfl⟩⟩) dL_steer_18
  · obtain ⟨hcc, hv, hfl, hP⟩ := hp
    subst hv
    have h148b : w2 148 = lA G 1 out := (by first | exact (hP.2 148 (by decide)).trans h148 | exact (hP.2.2 148 (by decide)).trans h148 | exact (hP.2.2.2 148 (by decide)).trans h148 | (rcases hP with ⟨-, q9⟩ | ⟨-, -, -, q9⟩; (rw [q9]; exact h148); (exact (q9 148 (by decide)).trans h148)) | (obtain ⟨-, gp1, gl1, nl1, -, -, q9⟩ := hP; rcases q9 with ⟨-, q9⟩ | ⟨-, -, -, -, -, -, q9⟩; (exact (q9 148 (by decide)).trans h148); (exact (q9 148 (by decide)).trans h148)))
    show KW p l e R s m args below meth c 6 G Q w2 fl2 8 48 10 [(0, .ref (kad G 0)), (1, vI T), (2, vI d), (3, vI u), (4, .ref (kad G 148))] [vI (if 8 ≤ g 1 then -2 else if T ≤ lastM g then -3 else g 1), vI 0, .ref (kad G 148)]
    refine k_topv (vI (i32 (if 8 ≤ g 1 then -2 else if T ≤ lastM g then -3 else g 1))) (vI_32 _) ?_
    refine k_i2l hC dL_steer_10 (i32_r _) ?_
    refine k_last hC (kl hN (by decide)) h148b (by omega) (by decide) dL_steer_11 (fun w11 hw11 hf11 => ?_)
    refine k_goto hC 19 dL_steer_12 rfl ?_
    refine k_iconst hC dL_steer_19 ?_
    subst hQ
    exact k_iretX hC hr ⟨by decide, by decide⟩ (Or.inl ⟨rfl, hcc, w2, ⟨hfl, hP⟩, hw11.trans (lA_congr (fun j hj => by rw [show j = 0 by omega]; exact kup_s)), fun j hj => hf11 j (by omega)⟩) dL_steer_20

set_option maxRecDepth 100000 in
set_option maxHeartbeats 4000000 in
theorem c_L_setCurrent (l : Launch) (hls : l.stackTraces = false) (G : kG) (hN : kN G = 150) (w : Nat → va_E) (fl : va_W) (g nl : Nat → Int) (sv : Int) (hs : Nat → Nat → Int) (nx : Nat) (cn : Int) (a b : Int) (out : Nat → Int) (ha : -2147483648 ≤ a ∧ a ≤ 2147483647) (hb : -2147483648 ≤ b ∧ b ≤ 2147483647) (hnx : nx < 10) (hcn : 0 ≤ cn ∧ cn ≤ 10) (hHi : kHist G w hs (nx : Int) cn) (hI : Inv g) (h00 : w 0 = srO G sv) (hL : kLog G w 3 g) (hP : kPlan G w 32 g nl) (hCt : kCht G w) (h148 : w 148 = lA G 1 out) : KL l G yL_setCurrent cL_setCurrent 5 (some .int) [(0, 10, 13, 13)] 10 8 48 [.ref (kad G 0), vI a, vI b, .ref (kad G 148)] w fl (wrO G ((0 ≤ a ∧ a ≤ 21599) ∧ (0 ≤ b ∧ b ≤ 100)) (False) (¬ ((0 ≤ a ∧ a ≤ 21599) ∧ (0 ≤ b ∧ b ≤ 100))) (g 8) 1 (fun w2 fl2 => fl = fl2 ∧ (fun w1 => kLog G w1 3 (setM g 7 a 8 b) ∧ kHist G w1 (hsP hs nx g) (((nx + 1) % 10 : Nat) : Int) (min (cn + 1) 10) ∧ ∀ j, ((j < 3 ∨ 9 < j) ∧ (j < 44 ∨ 115 < j)) → w1 j = w j) w2) (fun w2 fl2 => fl = fl2 ∧ (fun w1 => w1 = w) w2)) := by
  refine KL_of hls (by decide +kernel) rfl (lv0 := [(0, .ref (kad G 0)), (1, vI a), (2, vI b), (3, .ref (kad G 148))]) rfl (Nat.le_of_ble_eq_true rfl) (fun p e R s m args below meth c Q hC hr hTb hNc hQ => ?_)
  refine k_aload_n hC dL_setCurrent_0 rfl 3 rfl ?_
  refine k_iconst hC dL_setCurrent_1 ?_
  refine k_aload_n hC dL_setCurrent_2 rfl 0 rfl ?_
  refine k_iload_n hC dL_setCurrent_3 rfl 1 rfl ?_
  refine k_iload_n hC dL_setCurrent_4 rfl 2 rfl ?_
  refine k_callVT hC (c_X11_setCurrent l hls G hN w fl g nl sv hs nx cn a b ha hb hnx hcn hHi hI h00 hL hP hCt) yy_X11_setCurrent wm_L_87 (kl hN (by decide)) h00 rfl rfl rfl rfl (Nat.le_of_ble_eq_true rfl) (by decide) (by decide) ⟨by decide, by decide⟩ dL_setCurrent_5 (fun E w2 fl2 hx => ?_) (fun v9 w2 fl2 hp => ?_)
  · obtain ⟨hE, hfl, hP⟩ := hx
    rcases hE with ⟨hE, hcc⟩ | ⟨hE, hcc⟩
    · exact hcc.elim
    · subst hE
      refine k_catch1 hC hTb ⟨by decide, by decide⟩ (by decide) wl_L_13 wq_I (fun q9 => ?_)
      refine k_astore hC [(4, .ref q9), (0, .ref (kad G 0)), (1, vI a), (2, vI b), (3, .ref (kad G 148))] dL_setCurrent_13 (by decide) rfl ?_
      refine k_iconst hC dL_setCurrent_15 ?_
      subst hQ
      exact k_iretX hC hr ⟨by decide, by decide⟩ (Or.inr ⟨⟨hfl, hP⟩, Or.inr ⟨hcc, rfl⟩⟩) dL_setCurrent_16
  · obtain ⟨hcc, hv, hfl, hP⟩ := hp
    subst hv
    have h148b : w2 148 = lA G 1 out := (by first | exact (hP.2 148 (by decide)).trans h148 | exact (hP.2.2 148 (by decide)).trans h148 | exact (hP.2.2.2 148 (by decide)).trans h148 | (rcases hP with ⟨-, q9⟩ | ⟨-, -, -, q9⟩; (rw [q9]; exact h148); (exact (q9 148 (by decide)).trans h148)) | (obtain ⟨-, gp1, gl1, nl1, -, -, q9⟩ := hP; rcases q9 with ⟨-, q9⟩ | ⟨-, -, -, -, -, -, q9⟩; (exact (q9 148 (by decide)).trans h148); (exact (q9 148 (by decide)).trans h148)))
    show KW p l e R s m args below meth c 5 G Q w2 fl2 8 48 8 [(0, .ref (kad G 0)), (1, vI a), (2, vI b), (3, .ref (kad G 148))] [vI (g 8), vI 0, .ref (kad G 148)]
    refine k_topv (vI (i32 (g 8))) (vI_32 _) ?_
    refine k_i2l hC dL_setCurrent_8 (i32_r _) ?_
    refine k_last hC (kl hN (by decide)) h148b (by omega) (by decide) dL_setCurrent_9 (fun w11 hw11 hf11 => ?_)
    refine k_goto hC 17 dL_setCurrent_10 rfl ?_
    refine k_iconst hC dL_setCurrent_17 ?_
    subst hQ
    exact k_iretX hC hr ⟨by decide, by decide⟩ (Or.inl ⟨rfl, hcc, w2, ⟨hfl, hP⟩, hw11.trans (lA_congr (fun j hj => by rw [show j = 0 by omega]; exact kup_s)), fun j hj => hf11 j (by omega)⟩) dL_setCurrent_18

set_option maxRecDepth 100000 in
set_option maxHeartbeats 4000000 in
theorem c_L_correct (l : Launch) (hls : l.stackTraces = false) (G : kG) (hN : kN G = 150) (w : Nat → va_E) (fl : va_W) (g nl : Nat → Int) (sv : Int) (hs : Nat → Nat → Int) (nx : Nat) (cn : Int) (a b : Int) (out : Nat → Int) (ha : -2147483648 ≤ a ∧ a ≤ 2147483647) (hb : -2147483648 ≤ b ∧ b ≤ 2147483647) (hnx : nx < 10) (hcn : 0 ≤ cn ∧ cn ≤ 10) (hHi : kHist G w hs (nx : Int) cn) (hI : Inv g) (h00 : w 0 = srO G sv) (hL : kLog G w 3 g) (hP : kPlan G w 32 g nl) (hCt : kCht G w) (h148 : w 148 = lA G 1 out) : KL l G yL_correct cL_correct 5 (some .int) [(0, 10, 13, 13)] 9 8 48 [.ref (kad G 0), vI a, vI b, .ref (kad G 148)] w fl (wrO G ((0 ≤ a ∧ a ≤ 50) ∧ (-60 ≤ b ∧ b ≤ 60)) (False) (¬ ((0 ≤ a ∧ a ≤ 50) ∧ (-60 ≤ b ∧ b ≤ 60))) (dipM (setM g 5 a 6 b)) 1 (fun w2 fl2 => fl = fl2 ∧ (fun w1 => kLog G w1 3 (setM g 5 a 6 b) ∧ kHist G w1 (hsP hs nx g) (((nx + 1) % 10 : Nat) : Int) (min (cn + 1) 10) ∧ ∀ j, ((j < 3 ∨ 9 < j) ∧ (j < 44 ∨ 115 < j)) → w1 j = w j) w2) (fun w2 fl2 => fl = fl2 ∧ (fun w1 => w1 = w) w2)) := by
  refine KL_of hls (by decide +kernel) rfl (lv0 := [(0, .ref (kad G 0)), (1, vI a), (2, vI b), (3, .ref (kad G 148))]) rfl (Nat.le_of_ble_eq_true rfl) (fun p e R s m args below meth c Q hC hr hTb hNc hQ => ?_)
  refine k_aload_n hC dL_correct_0 rfl 3 rfl ?_
  refine k_iconst hC dL_correct_1 ?_
  refine k_aload_n hC dL_correct_2 rfl 0 rfl ?_
  refine k_iload_n hC dL_correct_3 rfl 1 rfl ?_
  refine k_iload_n hC dL_correct_4 rfl 2 rfl ?_
  refine k_callVT hC (c_X11_correct l hls G hN w fl g nl sv hs nx cn a b ha hb hnx hcn hHi hI h00 hL hP hCt) yy_X11_correct wm_L_90 (kl hN (by decide)) h00 rfl rfl rfl rfl (Nat.le_of_ble_eq_true rfl) (by decide) (by decide) ⟨by decide, by decide⟩ dL_correct_5 (fun E w2 fl2 hx => ?_) (fun v9 w2 fl2 hp => ?_)
  · obtain ⟨hE, hfl, hP⟩ := hx
    rcases hE with ⟨hE, hcc⟩ | ⟨hE, hcc⟩
    · exact hcc.elim
    · subst hE
      refine k_catch1 hC hTb ⟨by decide, by decide⟩ (by decide) wl_L_13 wq_I (fun q9 => ?_)
      refine k_astore hC [(4, .ref q9), (0, .ref (kad G 0)), (1, vI a), (2, vI b), (3, .ref (kad G 148))] dL_correct_13 (by decide) rfl ?_
      refine k_iconst hC dL_correct_15 ?_
      subst hQ
      exact k_iretX hC hr ⟨by decide, by decide⟩ (Or.inr ⟨⟨hfl, hP⟩, Or.inr ⟨hcc, rfl⟩⟩) dL_correct_16
  · obtain ⟨hcc, hv, hfl, hP⟩ := hp
    subst hv
    have h148b : w2 148 = lA G 1 out := (by first | exact (hP.2 148 (by decide)).trans h148 | exact (hP.2.2 148 (by decide)).trans h148 | exact (hP.2.2.2 148 (by decide)).trans h148 | (rcases hP with ⟨-, q9⟩ | ⟨-, -, -, q9⟩; (rw [q9]; exact h148); (exact (q9 148 (by decide)).trans h148)) | (obtain ⟨-, gp1, gl1, nl1, -, -, q9⟩ := hP; rcases q9 with ⟨-, q9⟩ | ⟨-, -, -, -, -, -, q9⟩; (exact (q9 148 (by decide)).trans h148); (exact (q9 148 (by decide)).trans h148)))
    show KW p l e R s m args below meth c 5 G Q w2 fl2 8 48 8 [(0, .ref (kad G 0)), (1, vI a), (2, vI b), (3, .ref (kad G 148))] [vI (dipM (setM g 5 a 6 b)), vI 0, .ref (kad G 148)]
    refine k_topv (vI (i32 (dipM (setM g 5 a 6 b)))) (vI_32 _) ?_
    refine k_i2l hC dL_correct_8 (i32_r _) ?_
    refine k_last hC (kl hN (by decide)) h148b (by omega) (by decide) dL_correct_9 (fun w11 hw11 hf11 => ?_)
    refine k_goto hC 17 dL_correct_10 rfl ?_
    refine k_iconst hC dL_correct_17 ?_
    subst hQ
    exact k_iretX hC hr ⟨by decide, by decide⟩ (Or.inl ⟨rfl, hcc, w2, ⟨hfl, hP⟩, hw11.trans (lA_congr (fun j hj => by rw [show j = 0 by omega]; exact kup_s)), fun j hj => hf11 j (by omega)⟩) dL_correct_18

set_option maxRecDepth 100000 in
set_option maxHeartbeats 4000000 in
theorem c_L_format (l : Launch) (hls : l.stackTraces = false) (G : kG) (hN : kN G = 150) (w : Nat → va_E) (fl : va_W) (g nl : Nat → Int) (sv : Int) (T0 : List Int) (cap : Nat) (b : Int) (out : Nat → Int) (hb : -2147483648 ≤ b ∧ b ≤ 2147483647) (hI : Inv g) (h00 : w 0 = srO G sv) (hL : kLog G w 3 g) (hP : kPlan G w 32 g nl) (hCt : kCht G w) (hNl : ∀ k : Nat, (k : Int) < g 0 → ∀ i : Nat, (i : Int) < g (11 + 4 * k) → 97 ≤ nl (8 * k + i) ∧ nl (8 * k + i) ≤ 122) (hsb : sbC G w fl T0 cap) (h148 : w 148 = lA G 1 out) : KL l G yL_format cL_format 4 (some .int) [(0, 9, 12, 21)] 10 8 200 [.ref (kad G 0), vI b, .ref (kad G 148)] w fl (wrO G (0 ≤ b ∧ b < g 2) (¬ (0 ≤ b ∧ b < g 2)) (False) ((fmC g nl b.toNat).length : Int) 1 (fun w2 fl2 => (∃ cap1, sbC G w2 fl2 (fmC g nl b.toNat) cap1) ∧ kCht G w2 ∧ ∀ j, ((j < 10 ∨ 31 < j) ∧ j ≠ 132) → w2 j = w j) (fun w2 fl2 => fl = fl2 ∧ (kCP G w) w2)) := by
  refine KL_of hls (by decide +kernel) rfl (lv0 := [(0, .ref (kad G 0)), (1, vI b), (2, .ref (kad G 148))]) rfl (Nat.le_of_ble_eq_true rfl) (fun p e R s m args below meth c Q hC hr hTb hNc hQ => ?_)
  refine k_aload_n hC dL_format_0 rfl 2 rfl ?_
  refine k_iconst hC dL_format_1 ?_
  refine k_aload_n hC dL_format_2 rfl 0 rfl ?_
  refine k_iload_n hC dL_format_3 rfl 1 rfl ?_
  refine k_callVT hC (c_X11_format l hls G hN w fl g nl sv T0 cap b hb hI h00 hL hP hCt hNl hsb) yy_X11_format wm_L_93 (kl hN (by decide)) h00 rfl rfl rfl rfl (Nat.le_of_ble_eq_true rfl) (by decide) (by decide) ⟨by decide, by decide⟩ dL_format_4 (fun E w2 fl2 hx => ?_) (fun v9 w2 fl2 hp => ?_)
  · obtain ⟨hE, hfl, hP⟩ := hx
    rcases hE with ⟨hE, hcc⟩ | ⟨hE, hcc⟩
    · subst hE
      refine k_catch1 hC hTb ⟨by decide, by decide⟩ (by decide) wl_L_21 wq_N (fun q9 => ?_)
      refine k_astore_n hC [(3, .ref q9), (0, .ref (kad G 0)), (1, vI b), (2, .ref (kad G 148))] dL_format_12 rfl (by decide) rfl ?_
      refine k_iconst hC dL_format_13 ?_
      subst hQ
      exact k_iretX hC hr ⟨by decide, by decide⟩ (Or.inr ⟨⟨hfl, hP⟩, Or.inl ⟨hcc, rfl⟩⟩) dL_format_14
    · exact hcc.elim
  · obtain ⟨hcc, hv, hsb9, hP⟩ := hp
    subst hv
    have h148b : w2 148 = lA G 1 out := (hP.2 148 (by decide)).trans h148
    show KW p l e R s m args below meth c 4 G Q w2 fl2 8 200 7 [(0, .ref (kad G 0)), (1, vI b), (2, .ref (kad G 148))] [vI ((fmC g nl b.toNat).length : Int), vI 0, .ref (kad G 148)]
    refine k_topv (vI (i32 ((fmC g nl b.toNat).length : Int))) (vI_32 _) ?_
    refine k_i2l hC dL_format_7 (i32_r _) ?_
    refine k_last hC (kl hN (by decide)) h148b (by omega) (by decide) dL_format_8 (fun w11 hw11 hf11 => ?_)
    refine k_goto hC 15 dL_format_9 rfl ?_
    refine k_iconst hC dL_format_15 ?_
    subst hQ
    exact k_iretX hC hr ⟨by decide, by decide⟩ (Or.inl ⟨rfl, hcc, w2, ⟨hsb9, hP⟩, hw11.trans (lA_congr (fun j hj => by rw [show j = 0 by omega]; exact kup_s)), fun j hj => hf11 j (by omega)⟩) dL_format_16

set_option maxRecDepth 100000 in
set_option maxHeartbeats 4000000 in
theorem c_L_query (l : Launch) (hls : l.stackTraces = false) (G : kG) (hN : kN G = 150) (w : Nat → va_E) (fl : va_W) (g nl bt : Nat → Int) (sv : Int) (c0 n : Nat) (cd ea kd nm sa nx en L : Int) (out : Nat → Int) (hL9 : -2147483648 ≤ L ∧ L ≤ 2147483647) (hnL : n = L.toNat) (hc7 : c0 ≤ 700) (hb : btOK bt) (hI : Inv g) (h00 : w 0 = srO G sv) (hL : kLog G w 3 g) (hP : kPlan G w 32 g nl) (hCt : kCht G w) (h2 : w 2 = byA G bt) (h129 : w 129 = qdO G) (hl0 : ∃ lf, w 130 = iA G 12 lf) (hr0 : ∃ rf, w 131 = iA G 12 rf) (h1 : w 1 = .inr (10, [.ref (kad G 2), vI (c0 : Int), vI cd, vI ea, vI kd, vI nm, vI sa, vI nx, vI en])) (h148 : w 148 = lA G 1 out) : KL l G yL_query cL_query 4 (some .int) [(0, 9, 12, 13)] 29 8 48 [.ref (kad G 0), vI L, .ref (kad G 148)] w fl (wrO G ((0 ≤ L ∧ L ≤ 200) ∧ L ≤ (c0 : Int)) False (¬ ((0 ≤ L ∧ L ≤ 200) ∧ L ≤ (c0 : Int))) (qyV (pV g) bt n (g 2).toNat) 1 (fun w2 fl2 => fl = fl2 ∧ (fun w1 => tkR G w1 bt n (qyS (pV g) bt n) ∧ ((∃ lf, w1 130 = iA G 12 lf) ∧ ∃ rf, w1 131 = iA G 12 rf) ∧ kCht G w1 ∧ ∀ j, (j ≠ 1 ∧ j ≠ 130 ∧ j ≠ 131 ∧ (j < 10 ∨ 31 < j)) → w1 j = w j) w2) (fun w2 fl2 => fl = fl2 ∧ (fun w1 => w1 = w) w2)) := by
  refine KL_of hls (by decide +kernel) rfl (lv0 := [(0, .ref (kad G 0)), (1, vI L), (2, .ref (kad G 148))]) rfl (Nat.le_of_ble_eq_true rfl) (fun p e R s m args below meth c Q hC hr hTb hNc hQ => ?_)
  refine k_aload_n hC dL_query_0 rfl 2 rfl ?_
  refine k_iconst hC dL_query_1 ?_
  refine k_aload_n hC dL_query_2 rfl 0 rfl ?_
  refine k_iload_n hC dL_query_3 rfl 1 rfl ?_
  refine k_callVT hC (c_X11_query l hls G hN w fl g nl bt sv c0 n cd ea kd nm sa nx en L hL9 hnL hc7 hb hI h00 hL hP hCt h2 h129 hl0 hr0 h1) yy_X11_query wm_L_96 (kl hN (by decide)) h00 rfl rfl rfl rfl (Nat.le_of_ble_eq_true rfl) (by decide) (by decide) ⟨by decide, by decide⟩ dL_query_4 (fun E w2 fl2 hx => ?_) (fun v9 w2 fl2 hp => ?_)
  · obtain ⟨hE, hfl, hP⟩ := hx
    rcases hE with ⟨hE, hcc⟩ | ⟨hE, hcc⟩
    · exact hcc.elim
    · subst hE
      refine k_catch1 hC hTb ⟨by decide, by decide⟩ (by decide) wl_L_13 wq_I (fun q9 => ?_)
      refine k_astore_n hC [(3, .ref q9), (0, .ref (kad G 0)), (1, vI L), (2, .ref (kad G 148))] dL_query_12 rfl (by decide) rfl ?_
      refine k_iconst hC dL_query_13 ?_
      subst hQ
      exact k_iretX hC hr ⟨by decide, by decide⟩ (Or.inr ⟨⟨hfl, hP⟩, Or.inr ⟨hcc, rfl⟩⟩) dL_query_14
  · obtain ⟨hcc, hv, hfl, hP⟩ := hp
    subst hv
    have h148b : w2 148 = lA G 1 out := (by first | exact (hP.2 148 (by decide)).trans h148 | exact (hP.2.2 148 (by decide)).trans h148 | exact (hP.2.2.2 148 (by decide)).trans h148 | (rcases hP with ⟨-, q9⟩ | ⟨-, -, -, q9⟩; (rw [q9]; exact h148); (exact (q9 148 (by decide)).trans h148)) | (obtain ⟨-, gp1, gl1, nl1, -, -, q9⟩ := hP; rcases q9 with ⟨-, q9⟩ | ⟨-, -, -, -, -, -, q9⟩; (exact (q9 148 (by decide)).trans h148); (exact (q9 148 (by decide)).trans h148)))
    show KW p l e R s m args below meth c 4 G Q w2 fl2 8 48 7 [(0, .ref (kad G 0)), (1, vI L), (2, .ref (kad G 148))] [vI (qyV (pV g) bt n (g 2).toNat), vI 0, .ref (kad G 148)]
    refine k_topv (vI (i32 (qyV (pV g) bt n (g 2).toNat))) (vI_32 _) ?_
    refine k_i2l hC dL_query_7 (i32_r _) ?_
    refine k_last hC (kl hN (by decide)) h148b (by omega) (by decide) dL_query_8 (fun w11 hw11 hf11 => ?_)
    refine k_goto hC 15 dL_query_9 rfl ?_
    refine k_iconst hC dL_query_15 ?_
    subst hQ
    exact k_iretX hC hr ⟨by decide, by decide⟩ (Or.inl ⟨rfl, hcc, w2, ⟨hfl, hP⟩, hw11.trans (lA_congr (fun j hj => by rw [show j = 0 by omega]; exact kup_s)), fun j hj => hf11 j (by omega)⟩) dL_query_16

