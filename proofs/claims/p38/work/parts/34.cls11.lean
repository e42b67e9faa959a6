def tx0 (bt : Nat → Int) (n : Nat) : PS := (0, 0, skM bt n 0)
noncomputable def txF (bt : Nat → Int) (n : Nat) : PS × (Nat → Int) := txN bt n 701 (tx0 bt n, fun _ => 0)
theorem Inv0 : Inv (fun _ => 0) := by
  refine ⟨by decide, by decide, by decide, by decide, by decide, by decide, by decide, by decide, by decide, fun k hk => absurd (show (k : Int) < 0 from hk) (by omega), fun k hk => absurd (show (k : Int) < 0 from hk) (by omega), fun k hk => absurd (show (k : Int) + 1 < 0 from hk) (by omega), fun k hk => absurd (show (k : Int) < 0 from hk) (by omega)⟩
theorem txN_pos {bt : Nat → Int} {n : Nat} : ∀ (k : Nat) (x : PS × (Nat → Int)), (x.1.1 = 0 → x.1.2.2 ≤ n) → goP bt n (txN bt n k x).1 → x.1.2.2 + k ≤ (txN bt n k x).1.2.2 ∧ (txN bt n k x).1.2.2 ≤ n := by
  intro k
  induction k with
  | zero => intro x h hg; exact ⟨Nat.le_refl _, h hg.1⟩
  | succ k ih =>
    intro x h hg
    by_cases g : goP bt n x.1
    · have e : txN bt n (k + 1) x = txN bt n k (clS bt n x.2 x.1, clD bt n x.2 x.1) := selP_1 g
      rw [e] at hg ⊢
      by_cases q : (clS bt n x.2 x.1).1 = 0
      · have h1 := cl_ok (fun z => h z) q
        have h2 := ih _ (fun _ => h1.2.2) hg
        exact ⟨by have := h2.1; have := h1.2.1; show x.1.2.2 + (k + 1) ≤ _; dsimp only at *; omega, h2.2⟩
      · rw [txN_st (fun z => q z.1)] at hg; exact absurd hg.1 q
    · rw [txN_st g] at hg; exact absurd hg g
theorem txF_st {bt : Nat → Int} {n : Nat} (h : n ≤ 700) : ¬ goP bt n (txF bt n).1 := fun hg => by
  have h1 := txN_pos 701 (tx0 bt n, fun _ => 0) (fun _ => (skM_b (by omega)).2) hg
  have h2 := h1.1; have h3 := h1.2
  unfold txF at *
  dsimp only at *
  omega
theorem txF_eq {bt : Nat → Int} {n k : Nat} {x : PS × (Nat → Int)} (h : n ≤ 700) (hx : x = txN bt n k (tx0 bt n, fun _ => 0)) (hs : ¬ goP bt n x.1) : x = txF bt n := by
  rw [hx] at hs ⊢
  exact txN_eq hs (txF_st h)
theorem cl_c0 {bt : Nat → Int} {n : Nat} {D : Nat → Int} {st : PS} (h : (clS bt n D st).1 = 0) : (clS0 bt n D st).1 = 0 := by
  by_cases q : (clS0 bt n D st).1 = 0
  · exact q
  · unfold clS at h; rw [nsP_e q] at h; exact h
theorem txN_inv {bt : Nat → Int} {n : Nat} : ∀ (k : Nat) (x : PS × (Nat → Int)), Inv x.2 → (txN bt n k x).1.1 = 0 → Inv (txN bt n k x).2 := by
  intro k
  induction k with
  | zero => intro x h _; exact h
  | succ k ih =>
    intro x h h1
    by_cases g : goP bt n x.1
    · have e : txN bt n (k + 1) x = txN bt n k (clS bt n x.2 x.1, clD bt n x.2 x.1) := selP_1 g
      rw [e] at h1 ⊢
      by_cases q : (clS bt n x.2 x.1).1 = 0
      · exact ih _ (cl_inv h (cl_c0 q)) h1
      · rw [txN_st (fun z => q z.1)] at h1; exact absurd h1 q
    · rw [txN_st g]; exact h
theorem txF_inv {bt : Nat → Int} {n : Nat} (h : (txF bt n).1.1 = 0) : Inv (txF bt n).2 := txN_inv 701 _ Inv0 h
set_option maxRecDepth 100000 in
set_option maxHeartbeats 4000000 in
theorem c_X6_clear (l : Launch) (hls : l.stackTraces = false) (G : kG) (hN : 133 ≤ kN G) (w : Nat → va_E) (fl : va_W) (gp nl : Nat → Int) (hP2 : kPlan G w 117 gp nl) : KM l G yX6_clear cX6_clear 1 (none) 0 0 0 [.ref (kad G 117)] w fl (kMuv fl (fun w1 => kPlan G w1 117 (kup (kup (kup gp 3 0) 4 0) 0 0) nl ∧ ∀ j, j ≠ 117 → w1 j = w j)) := by
  refine KM_of2 hls (by decide +kernel) rfl (lv0 := [(0, .ref (kad G 117))]) rfl (Nat.le_of_ble_eq_true rfl) (fun p e R s m args below meth c Q hC hr hQ => ?_)
  refine k_aload_n hC dX6_clear_0 rfl 0 rfl ?_
  refine k_iconst hC dX6_clear_1 ?_
  refine k_put hC fd_X6_24 (kl hN (by decide)) hP2.1 [vI 0, vI (gp 4), vI (gp 0), .ref (kad G 118), .ref (kad G 119), .ref (kad G 120), .ref (kad G 121)] rfl (Nat.le_of_ble_eq_true rfl) rfl rfl dX6_clear_2 (fun w1 hw1 hf1 => ?_)
  refine k_aload_n hC dX6_clear_5 rfl 0 rfl ?_
  refine k_iconst hC dX6_clear_6 ?_
  refine k_put hC fd_X6_28 (kl hN (by decide)) hw1 [vI 0, vI 0, vI (gp 0), .ref (kad G 118), .ref (kad G 119), .ref (kad G 120), .ref (kad G 121)] rfl (Nat.le_of_ble_eq_true rfl) rfl rfl dX6_clear_7 (fun w2 hw2 hf2 => ?_)
  refine k_aload_n hC dX6_clear_10 rfl 0 rfl ?_
  refine k_iconst hC dX6_clear_11 ?_
  refine k_put hC fd_X6_31 (kl hN (by decide)) hw2 [vI 0, vI 0, vI 0, .ref (kad G 118), .ref (kad G 119), .ref (kad G 120), .ref (kad G 121)] rfl (Nat.le_of_ble_eq_true rfl) rfl rfl dX6_clear_12 (fun w3 hw3 hf3 => ?_)
  have h_4 : w3 118 = iA G 6 (fun j => gp (9 + 4 * j)) := (hf3 118 (by decide)).trans ((hf2 118 (by decide)).trans ((hf1 118 (by decide)).trans hP2.2.1))
  have h_5 : w3 119 = iA G 6 (fun j => gp (10 + 4 * j)) := (hf3 119 (by decide)).trans ((hf2 119 (by decide)).trans ((hf1 119 (by decide)).trans hP2.2.2.1))
  have h_6 : w3 120 = iA G 6 (fun j => gp (11 + 4 * j)) := (hf3 120 (by decide)).trans ((hf2 120 (by decide)).trans ((hf1 120 (by decide)).trans hP2.2.2.2.1))
  have h_7 : w3 121 = iA G 48 nl := (hf3 121 (by decide)).trans ((hf2 121 (by decide)).trans ((hf1 121 (by decide)).trans hP2.2.2.2.2))
  subst hQ
  exact k_vret hC hr ⟨by decide, by decide⟩ (⟨rfl, rfl, ⟨planO_of hw3 rfl rfl rfl, h_4.trans (iA_congr (fun j hj => (by unfold kup; rw [if_neg (by omega), if_neg (by omega), if_neg (by omega)]))), h_5.trans (iA_congr (fun j hj => (by unfold kup; rw [if_neg (by omega), if_neg (by omega), if_neg (by omega)]))), h_6.trans (iA_congr (fun j hj => (by unfold kup; rw [if_neg (by omega), if_neg (by omega), if_neg (by omega)]))), h_7⟩, fun j hj => (hf3 j (by omega)).trans ((hf2 j (by omega)).trans (hf1 j (by omega)))⟩) dX6_clear_15

set_option maxRecDepth 100000 in
set_option maxHeartbeats 4000000 in
theorem c_X6_copyFrom (l : Launch) (hls : l.stackTraces = false) (G : kG) (hN : 133 ≤ kN G) (w : Nat → va_E) (fl : va_W) (g nl0 gp nl : Nat → Int) (hP0 : kPlan G w 32 g nl0) (hP2 : kPlan G w 117 gp nl) : KM l G yX6_copyFrom cX6_copyFrom 2 (none) 3 0 0 [.ref (kad G 32), .ref (kad G 117)] w fl (kMuv fl (fun w1 => kPlan G w1 32 gp nl ∧ ∀ j, (j < 32 ∨ 36 < j) → w1 j = w j)) := by
  refine KM_of2 hls (by decide +kernel) rfl (lv0 := [(0, .ref (kad G 32)), (1, .ref (kad G 117))]) rfl (Nat.le_of_ble_eq_true rfl) (fun p e R s m args below meth c Q hC hr hQ => ?_)
  refine k_aload_n hC dX6_copyFrom_0 rfl 0 rfl ?_
  refine k_aload_n hC dX6_copyFrom_1 rfl 1 rfl ?_
  refine k_get hC fd_X6_24 (kl hN (by decide)) hP2.1 rfl dX6_copyFrom_2 ?_
  refine k_put hC fd_X6_24 (kl hN (by decide)) hP0.1 [vI (gp 3), vI (g 4), vI (g 0), .ref (kad G 33), .ref (kad G 34), .ref (kad G 35), .ref (kad G 36)] rfl (Nat.le_of_ble_eq_true rfl) rfl rfl dX6_copyFrom_5 (fun w1 hw1 hf1 => ?_)
  refine k_aload_n hC dX6_copyFrom_8 rfl 0 rfl ?_
  refine k_aload_n hC dX6_copyFrom_9 rfl 1 rfl ?_
  have h_2 : w1 117 = .inr (6, [vI (gp 3), vI (gp 4), vI (gp 0), .ref (kad G 118), .ref (kad G 119), .ref (kad G 120), .ref (kad G 121)]) := (hf1 117 (by decide)).trans hP2.1
  refine k_get hC fd_X6_28 (kl hN (by decide)) h_2 rfl dX6_copyFrom_10 ?_
  refine k_put hC fd_X6_28 (kl hN (by decide)) hw1 [vI (gp 3), vI (gp 4), vI (g 0), .ref (kad G 33), .ref (kad G 34), .ref (kad G 35), .ref (kad G 36)] rfl (Nat.le_of_ble_eq_true rfl) rfl rfl dX6_copyFrom_13 (fun w3 hw3 hf3 => ?_)
  refine k_aload_n hC dX6_copyFrom_16 rfl 0 rfl ?_
  refine k_aload_n hC dX6_copyFrom_17 rfl 1 rfl ?_
  have h_4 : w3 117 = .inr (6, [vI (gp 3), vI (gp 4), vI (gp 0), .ref (kad G 118), .ref (kad G 119), .ref (kad G 120), .ref (kad G 121)]) := (hf3 117 (by decide)).trans h_2
  refine k_get hC fd_X6_31 (kl hN (by decide)) h_4 rfl dX6_copyFrom_18 ?_
  refine k_put hC fd_X6_31 (kl hN (by decide)) hw3 [vI (gp 3), vI (gp 4), vI (gp 0), .ref (kad G 33), .ref (kad G 34), .ref (kad G 35), .ref (kad G 36)] rfl (Nat.le_of_ble_eq_true rfl) rfl rfl dX6_copyFrom_21 (fun w5 hw5 hf5 => ?_)
  refine k_aload_n hC dX6_copyFrom_24 rfl 1 rfl ?_
  have h_6 : w5 117 = .inr (6, [vI (gp 3), vI (gp 4), vI (gp 0), .ref (kad G 118), .ref (kad G 119), .ref (kad G 120), .ref (kad G 121)]) := (hf5 117 (by decide)).trans h_4
  refine k_get hC fd_X6_9 (kl hN (by decide)) h_6 rfl dX6_copyFrom_25 ?_
  refine k_aload_n hC dX6_copyFrom_28 rfl 0 rfl ?_
  refine k_get hC fd_X6_9 (kl hN (by decide)) hw5 rfl dX6_copyFrom_29 ?_
  have hB_7 : kPlan G w5 117 gp nl := hP2.fr (fun j q1 q2 => (hf5 j (by omega)).trans ((hf3 j (by omega)).trans (hf1 j (by omega))))
  have h_8 : w5 33 = iA G 6 (fun j => g (9 + 4 * j)) := (hf5 33 (by decide)).trans ((hf3 33 (by decide)).trans ((hf1 33 (by decide)).trans hP0.2.1))
  refine k_muvSN hC (c_X11_copyRow l hls G hN w5 fl 118 33 6 (fun j => gp (9 + 4 * j)) (fun j => g (9 + 4 * j)) (by decide) (by decide) (by decide) hB_7.2.1 h_8) yy_X11_copyRow wm_X6_34 rfl rfl (Nat.le_of_ble_eq_true rfl) (by decide) (by decide) ⟨by decide, by decide⟩ dX6_copyFrom_32 (fun w9 hp9 => ?_)
  obtain ⟨hw9, hf9⟩ := hp9
  refine k_aload_n hC dX6_copyFrom_35 rfl 1 rfl ?_
  have h_10 : w9 117 = .inr (6, [vI (gp 3), vI (gp 4), vI (gp 0), .ref (kad G 118), .ref (kad G 119), .ref (kad G 120), .ref (kad G 121)]) := (hf9 117 (by decide)).trans h_6
  refine k_get hC fd_X6_15 (kl hN (by decide)) h_10 rfl dX6_copyFrom_36 ?_
  refine k_aload_n hC dX6_copyFrom_39 rfl 0 rfl ?_
  have h_11 : w9 32 = .inr (6, [vI (gp 3), vI (gp 4), vI (gp 0), .ref (kad G 33), .ref (kad G 34), .ref (kad G 35), .ref (kad G 36)]) := (hf9 32 (by decide)).trans hw5
  refine k_get hC fd_X6_15 (kl hN (by decide)) h_11 rfl dX6_copyFrom_40 ?_
  have hB_12 : kPlan G w9 117 gp nl := hB_7.fr (fun j q1 q2 => (hf9 j (by omega)))
  have h_13 : w9 34 = iA G 6 (fun j => g (10 + 4 * j)) := (hf9 34 (by decide)).trans ((hf5 34 (by decide)).trans ((hf3 34 (by decide)).trans ((hf1 34 (by decide)).trans hP0.2.2.1)))
  refine k_muvSN hC (c_X11_copyRow l hls G hN w9 fl 119 34 6 (fun j => gp (10 + 4 * j)) (fun j => g (10 + 4 * j)) (by decide) (by decide) (by decide) hB_12.2.2.1 h_13) yy_X11_copyRow wm_X6_34 rfl rfl (Nat.le_of_ble_eq_true rfl) (by decide) (by decide) ⟨by decide, by decide⟩ dX6_copyFrom_43 (fun w14 hp14 => ?_)
  obtain ⟨hw14, hf14⟩ := hp14
  refine k_aload_n hC dX6_copyFrom_46 rfl 1 rfl ?_
  have h_15 : w14 117 = .inr (6, [vI (gp 3), vI (gp 4), vI (gp 0), .ref (kad G 118), .ref (kad G 119), .ref (kad G 120), .ref (kad G 121)]) := (hf14 117 (by decide)).trans h_10
  refine k_get hC fd_X6_18 (kl hN (by decide)) h_15 rfl dX6_copyFrom_47 ?_
  refine k_aload_n hC dX6_copyFrom_50 rfl 0 rfl ?_
  have h_16 : w14 32 = .inr (6, [vI (gp 3), vI (gp 4), vI (gp 0), .ref (kad G 33), .ref (kad G 34), .ref (kad G 35), .ref (kad G 36)]) := (hf14 32 (by decide)).trans h_11
  refine k_get hC fd_X6_18 (kl hN (by decide)) h_16 rfl dX6_copyFrom_51 ?_
  have hB_17 : kPlan G w14 117 gp nl := hB_12.fr (fun j q1 q2 => (hf14 j (by omega)))
  have h_18 : w14 35 = iA G 6 (fun j => g (11 + 4 * j)) := (hf14 35 (by decide)).trans ((hf9 35 (by decide)).trans ((hf5 35 (by decide)).trans ((hf3 35 (by decide)).trans ((hf1 35 (by decide)).trans hP0.2.2.2.1))))
  refine k_muvSN hC (c_X11_copyRow l hls G hN w14 fl 120 35 6 (fun j => gp (11 + 4 * j)) (fun j => g (11 + 4 * j)) (by decide) (by decide) (by decide) hB_17.2.2.2.1 h_18) yy_X11_copyRow wm_X6_34 rfl rfl (Nat.le_of_ble_eq_true rfl) (by decide) (by decide) ⟨by decide, by decide⟩ dX6_copyFrom_54 (fun w19 hp19 => ?_)
  obtain ⟨hw19, hf19⟩ := hp19
  refine k_aload_n hC dX6_copyFrom_57 rfl 1 rfl ?_
  have h_20 : w19 117 = .inr (6, [vI (gp 3), vI (gp 4), vI (gp 0), .ref (kad G 118), .ref (kad G 119), .ref (kad G 120), .ref (kad G 121)]) := (hf19 117 (by decide)).trans h_15
  refine k_get hC fd_X6_21 (kl hN (by decide)) h_20 rfl dX6_copyFrom_58 ?_
  refine k_aload_n hC dX6_copyFrom_61 rfl 0 rfl ?_
  have h_21 : w19 32 = .inr (6, [vI (gp 3), vI (gp 4), vI (gp 0), .ref (kad G 33), .ref (kad G 34), .ref (kad G 35), .ref (kad G 36)]) := (hf19 32 (by decide)).trans h_16
  refine k_get hC fd_X6_21 (kl hN (by decide)) h_21 rfl dX6_copyFrom_62 ?_
  have hB_22 : kPlan G w19 117 gp nl := hB_17.fr (fun j q1 q2 => (hf19 j (by omega)))
  have h_23 : w19 36 = iA G 48 nl0 := (hf19 36 (by decide)).trans ((hf14 36 (by decide)).trans ((hf9 36 (by decide)).trans ((hf5 36 (by decide)).trans ((hf3 36 (by decide)).trans ((hf1 36 (by decide)).trans hP0.2.2.2.2)))))
  refine k_muvSN hC (c_X11_copyRow l hls G hN w19 fl 121 36 48 nl nl0 (by decide) (by decide) (by decide) hB_22.2.2.2.2 h_23) yy_X11_copyRow wm_X6_34 rfl rfl (Nat.le_of_ble_eq_true rfl) (by decide) (by decide) ⟨by decide, by decide⟩ dX6_copyFrom_65 (fun w24 hp24 => ?_)
  obtain ⟨hw24, hf24⟩ := hp24
  have h_25 : w24 32 = .inr (6, [vI (gp 3), vI (gp 4), vI (gp 0), .ref (kad G 33), .ref (kad G 34), .ref (kad G 35), .ref (kad G 36)]) := (hf24 32 (by decide)).trans h_21
  have h_26 : w24 33 = iA G 6 (fun j => gp (9 + 4 * j)) := (hf24 33 (by decide)).trans ((hf19 33 (by decide)).trans ((hf14 33 (by decide)).trans hw9))
  have h_27 : w24 34 = iA G 6 (fun j => gp (10 + 4 * j)) := (hf24 34 (by decide)).trans ((hf19 34 (by decide)).trans hw14)
  have h_28 : w24 35 = iA G 6 (fun j => gp (11 + 4 * j)) := (hf24 35 (by decide)).trans hw19
  subst hQ
  exact k_vret hC hr ⟨by decide, by decide⟩ (⟨rfl, rfl, ⟨h_25, h_26, h_27, h_28, hw24⟩, fun j hj => (hf24 j (by omega)).trans ((hf19 j (by omega)).trans ((hf14 j (by omega)).trans ((hf9 j (by omega)).trans ((hf5 j (by omega)).trans ((hf3 j (by omega)).trans (hf1 j (by omega)))))))⟩) dX6_copyFrom_68

theorem gE_0 (g h : Nat → Int) : gE (copyLM (kup (kup (kup g 3 0) 4 0) 0 0) (clrLM h)) (fun _ => 0) := by
  refine ⟨fun j hj => ?_, fun k q hk _ => absurd hk (by show ¬ (k : Int) < 0; omega), fun k q hk _ => absurd hk (by show ¬ (k : Int) < 0; omega), fun k q hk _ => absurd hk (by show ¬ (k : Int) < 0; omega)⟩
  have h1 : j = 0 ∨ j = 1 ∨ j = 2 ∨ j = 3 ∨ j = 4 ∨ j = 5 ∨ j = 6 ∨ j = 7 ∨ j = 8 := by omega
  rcases h1 with h | h | h | h | h | h | h | h | h <;> subst h <;> rfl
set_option maxRecDepth 100000 in
set_option maxHeartbeats 4000000 in
theorem c_X9_readText (l : Launch) (hls : l.stackTraces = false) (G : kG) (hN : 133 ≤ kN G) (w : Nat → va_E) (fl : va_W) (bt gp0 gl0 nl0 : Nat → Int) (n : Nat) (hn7 : n ≤ 700) (hb : btOK bt) (h2 : w 2 = byA G bt) (hT : tkR G w bt n (tx0 bt n)) (h116 : w 116 = trO G) (hP2 : kPlan G w 117 gp0 nl0) (hL2 : kLog G w 122 gl0) : KM l G yX9_readText cX9_readText 2 (none) 6 0 0 [.ref (kad G 116)] w fl (kMuv fl (fun w1 => (∃ gp1 gl1 nl1 : Nat → Int, kPlan G w1 117 gp1 nl1 ∧ kLog G w1 122 gl1 ∧ ((txF bt n).1.1 = 0 → gE (copyLM gp1 gl1) (txF bt n).2 ∧ NmR (txF bt n).2 nl1)) ∧ tkR G w1 bt n (txF bt n).1 ∧ ∀ j, ((j < 117 ∨ 128 < j) ∧ j ≠ 1) → w1 j = w j)) := by
  refine KM_of2 hls (by decide +kernel) rfl (lv0 := [(0, .ref (kad G 116))]) rfl (Nat.le_of_ble_eq_true rfl) (fun p e R s m args below meth c Q hC hr hQ => ?_)
  refine k_aload_n hC dX9_readText_0 rfl 0 rfl ?_
  refine k_get hC fd_X9_12 (kl hN (by decide)) h116 rfl dX9_readText_1 ?_
  refine k_muvV hC (c_X6_clear l hls G hN w fl gp0 nl0 hP2) yy_X6_clear wm_X9_29 (kl hN (by decide)) hP2.1 rfl rfl rfl rfl (Nat.le_of_ble_eq_true rfl) (by decide) (by decide) ⟨by decide, by decide⟩ dX9_readText_4 (fun w1 hp1 => ?_)
  obtain ⟨hP1, hf1⟩ := hp1
  refine k_aload_n hC dX9_readText_7 rfl 0 rfl ?_
  have h_2 : w1 116 = .inr (9, [.ref (kad G 1), .ref (kad G 117), .ref (kad G 122)]) := (hf1 116 (by decide)).trans h116
  refine k_get hC fd_X9_21 (kl hN (by decide)) h_2 rfl dX9_readText_8 ?_
  have hB_3 : kLog G w1 122 gl0 := hL2.fr (fun j q1 q2 => (hf1 j (by omega)))
  refine k_muvV hC (c_X4_clear l hls G hN w1 fl 122 gl0 (by omega) hB_3) yy_X4_clear wm_X9_32 (kl hN (by decide)) hB_3.1 rfl rfl rfl rfl (Nat.le_of_ble_eq_true rfl) (by decide) (by decide) ⟨by decide, by decide⟩ dX9_readText_11 (fun w4 hp4 => ?_)
  obtain ⟨hl4, hf4⟩ := hp4
  refine k_iconst hC dX9_readText_14 ?_
  refine k_istore_n hC [(1, vI 0), (0, .ref (kad G 116))] dX9_readText_15 rfl (by decide) rfl ?_
  have loop : ∀ (nw : Nat) (k : Nat) (st : PS) (D : Nat → Int) (gp : Nat → Int) (gl : Nat → Int) (nl : Nat → Int) (wvw : Nat → va_E), (700 < nw + k) → (k ≤ 700) → ((st, D) = txN bt n k (tx0 bt n, fun _ => 0)) → (st.1 = 0 → k ≤ st.2.2 ∧ st.2.2 ≤ n) → (st.1 = 0 → gE (copyLM gp gl) D ∧ NmR D nl ∧ Inv D) → (wvw 116 = .inr (9, [.ref (kad G 1), .ref (kad G 117), .ref (kad G 122)])) → (wvw 2 = bA G 700 (fun j => sb8 (bt j))) → (tkR G wvw bt n st) → (kPlan G wvw 117 gp nl) → (kLog G wvw 122 gl) → ((∀ j, ((j < 117 ∨ 128 < j) ∧ j ≠ 1) → wvw j = w j)) → KW p l e R s m args below meth c 2 G Q wvw fl 0 0 16 [(1, vI (k : Int)), (0, .ref (kad G 116))] [] := by
    intro nw
    induction nw with
    | zero =>
      intro k st D gp gl nl wvw hn_w hk hx hpos hdd h116 h2 hT hP2 hL2 hfrw
      exact absurd hn_w (by omega)
    | succ nw ihw =>
      intro k st D gp gl nl wvw hn_w hk hx hpos hdd h116 h2 hT hP2 hL2 hfrw
      refine k_iload_n hC dX9_readText_16 rfl 0 rfl ?_
      refine k_sipush hC dX9_readText_17 (by decide) ?_
      refine k_icmp_ge hC 43 dX9_readText_20 rfl (by omega) (by omega) (fun c_20 => ?_) (fun c_20 => ?_)
      · have hng : ¬ goP bt n st := fun q => by have q1 := hpos q.1; have q2 := kd_c bt n st.2.2; have q3 := q.2; omega
        subst hQ
        exact k_vret hC hr ⟨by decide, by decide⟩ ((by have hfin := txF_eq hn7 hx hng; rw [← hfin]; exact ⟨rfl, rfl, ⟨gp, gl, nl, hP2, hL2, fun q => ⟨(hdd q).1, (hdd q).2.1⟩⟩, hT, fun j hj => hfrw j (by omega)⟩)) dX9_readText_43
      · refine k_aload_n hC dX9_readText_23 rfl 1 rfl ?_
        refine k_get hC fd_X9_25 (kl hN (by decide)) h116 rfl dX9_readText_24 ?_
        have hTco_5 := hT
        obtain ⟨cno_5, eao_5, kdo_5, nmo_5, sao_5, nxo_5, h1o_5, -⟩ := hTco_5
        refine k_pureV hC (c_X10_isEnd l hls G hN wvw fl bt n st  hn7 hb h2 hT) yy_X10_isEnd wm_X9_33 (kl hN (by decide)) h1o_5 rfl rfl rfl rfl (Nat.le_of_ble_eq_true rfl) (by decide) (by decide) ⟨by decide, by decide⟩ dX9_readText_27 ?_
        obtain ⟨z_6, ez_6, hz_6⟩ := selI_c (¬ goP bt n st)
        refine k_topv (vI z_6) (by rw [ez_6]) ?_
        refine k_if_ne hC 43 dX9_readText_30 rfl (by omega) (fun c_30 => ?_) (fun c_30 => ?_)
        · have hng : ¬ goP bt n st := (hz_6.resolve_right (fun q1 => by omega)).2
          subst hQ
          exact k_vret hC hr ⟨by decide, by decide⟩ ((by have hfin := txF_eq hn7 hx hng; rw [← hfin]; exact ⟨rfl, rfl, ⟨gp, gl, nl, hP2, hL2, fun q => ⟨(hdd q).1, (hdd q).2.1⟩⟩, hT, fun j hj => hfrw j (by omega)⟩)) dX9_readText_43
        · have hgo : goP bt n st := Classical.not_not.mp (hz_6.resolve_left (fun q1 => by omega)).2
          have hz : st.1 = 0 := hgo.1
          obtain ⟨hE, hNm, hI⟩ := hdd hz
          refine k_aload_n hC dX9_readText_33 rfl 1 rfl ?_
          refine k_muvV hC (c_X9_readClause l hls G hN wvw fl bt gp gl nl D n st hn7 hb h2 hT hz h116 hE hI hNm hP2 hL2) yy_X9_readClause wm_X9_39 (kl hN (by decide)) h116 rfl rfl rfl rfl (Nat.le_of_ble_eq_true rfl) (by decide) (by decide) ⟨by decide, by decide⟩ dX9_readText_34 (fun w7 hp7 => ?_)
          obtain ⟨⟨gp7, gl7, nl7, hP7, hL7, hdat7⟩, hT7, hf7⟩ := hp7
          obtain ⟨st_8, est_8⟩ : ∃ z : PS, z = clS bt n D st := ⟨_, rfl⟩
          rw [← est_8] at hT7
          refine k_iinc hC (y := (k : Int) + 1) [(1, vI ((k : Int) + 1)), (0, .ref (kad G 116))] (j := 0) dX9_readText_37 rfl (by omega) (by decide) rfl ?_
          refine k_goto hC 16 dX9_readText_40 rfl ?_
          refine k_lvs (ls := [0, 1]) [(1, vI ((k + 1 : Nat) : Int)), (0, .ref (kad G 116))] (by simp only [lv_pick]; rfl) ?_
          have h_9 : w7 116 = .inr (9, [.ref (kad G 1), .ref (kad G 117), .ref (kad G 122)]) := (hf7 116 (by omega)).trans h116
          have h_10 : w7 2 = bA G 700 (fun j => sb8 (bt j)) := (hf7 2 (by omega)).trans h2
          exact ihw (k + 1) st_8 (clD bt n D st) gp7 gl7 nl7 w7 (by omega) (by omega) (by rw [txN_go k _ (by rw [← hx]; exact hgo), ← hx, est_8]) (fun q => by have := cl_ok (D := D) (st := st) (fun z => (hpos z).2) (by rw [← est_8]; exact q); have := (hpos hz).1; rw [est_8]; omega) (fun q => by have q2 : (clS bt n D st).1 = 0 := (by rw [← est_8]; exact q); exact ⟨(hdat7 q2).1, (hdat7 q2).2, cl_inv hI (cl_c0 q2)⟩) h_9 h_10 hT7 hP7 hL7 (fun j hj => (hf7 j (by omega)).trans (hfrw j (by omega)))
  refine k_lvs (ls := [0, 1]) [(1, vI ((0 : Nat) : Int)), (0, .ref (kad G 116))] (by simp only [lv_pick]; rfl) ?_
  have h_11 : w4 116 = .inr (9, [.ref (kad G 1), .ref (kad G 117), .ref (kad G 122)]) := (hf4 116 (by omega)).trans h_2
  have h_12 : w4 2 = bA G 700 (fun j => sb8 (bt j)) := (hf4 2 (by omega)).trans ((hf1 2 (by decide)).trans h2)
  have hB_13 : tkR G w4 bt n (tx0 bt n) := hT.fr (fun j q1 q2 => (hf4 j (by omega)).trans (hf1 j (by omega)))
  have hB_14 : kPlan G w4 117 (kup (kup (kup gp0 3 0) 4 0) 0 0) nl0 := hP1.fr (fun j q1 q2 => (hf4 j (by omega)))
  exact loop 701 0 (tx0 bt n) (fun _ => 0) (kup (kup (kup gp0 3 0) 4 0) 0 0) (clrLM gl0) nl0 w4 (by omega) (by omega) rfl (fun _ => ⟨Nat.zero_le _, (skM_b (by omega)).2⟩) (fun _ => ⟨gE_0 _ _, fun k hk => absurd hk (by show ¬ (k : Int) < 0; omega), Inv0⟩) h_11 h_12 hB_13 hB_14 hl4 (fun j hj => (hf4 j (by omega)).trans (hf1 j (by omega)))

set_option maxRecDepth 100000 in
set_option maxHeartbeats 4000000 in
theorem c_X10_begin (l : Launch) (hls : l.stackTraces = false) (G : kG) (hN : 133 ≤ kN G) (w : Nat → va_E) (fl : va_W) (bt : Nat → Int) (n : Nat) (cn cd ea kd nm sa nx en : Int) (hn7 : n ≤ 700) (hb : btOK bt) (h2 : w 2 = byA G bt) (h1 : w 1 = .inr (10, [.ref (kad G 2), vI cn, vI cd, vI ea, vI kd, vI nm, vI sa, vI nx, vI en])) : KM l G yX10_begin cX10_begin 2 (none) 2 0 0 [.ref (kad G 1), vI (n : Int)] w fl (kMuv fl (fun w1 => tkR G w1 bt n (tx0 bt n) ∧ ∀ j, j ≠ 1 → w1 j = w j)) := by
  refine KM_of2 hls (by decide +kernel) rfl (lv0 := [(0, .ref (kad G 1)), (1, vI (n : Int))]) rfl (Nat.le_of_ble_eq_true rfl) (fun p e R s m args below meth c Q hC hr hQ => ?_)
  refine k_aload_n hC dX10_begin_0 rfl 0 rfl ?_
  refine k_iconst hC dX10_begin_1 ?_
  refine k_put hC fd_X10_19 (kl hN (by decide)) h1 [.ref (kad G 2), vI 0, vI cd, vI ea, vI kd, vI nm, vI sa, vI nx, vI en] rfl (Nat.le_of_ble_eq_true rfl) rfl rfl dX10_begin_2 (fun w1 hw1 hf1 => ?_)
  refine k_aload_n hC dX10_begin_5 rfl 0 rfl ?_
  refine k_iconst hC dX10_begin_6 ?_
  refine k_put hC fd_X10_22 (kl hN (by decide)) hw1 [.ref (kad G 2), vI 0, vI 0, vI ea, vI kd, vI nm, vI sa, vI nx, vI en] rfl (Nat.le_of_ble_eq_true rfl) rfl rfl dX10_begin_7 (fun w2 hw2 hf2 => ?_)
  refine k_aload_n hC dX10_begin_10 rfl 0 rfl ?_
  refine k_iconst hC dX10_begin_11 ?_
  refine k_put hC fd_X10_15 (kl hN (by decide)) hw2 [.ref (kad G 2), vI 0, vI 0, vI (-1), vI kd, vI nm, vI sa, vI nx, vI en] rfl (Nat.le_of_ble_eq_true rfl) rfl rfl dX10_begin_12 (fun w3 hw3 hf3 => ?_)
  refine k_aload_n hC dX10_begin_15 rfl 0 rfl ?_
  refine k_iconst hC dX10_begin_16 ?_
  refine k_put hC fd_X10_25 (kl hN (by decide)) hw3 [.ref (kad G 2), vI 0, vI 0, vI (-1), vI kd, vI nm, vI sa, vI 0, vI en] rfl (Nat.le_of_ble_eq_true rfl) rfl rfl dX10_begin_17 (fun w4 hw4 hf4 => ?_)
  refine k_aload_n hC dX10_begin_20 rfl 0 rfl ?_
  refine k_iload_n hC dX10_begin_21 rfl 1 rfl ?_
  refine k_aload_n hC dX10_begin_22 rfl 0 rfl ?_
  refine k_get hC fd_X10_9 (kl hN (by decide)) hw4 rfl dX10_begin_23 ?_
  have h_5 : w4 2 = bA G 700 (fun j => sb8 (bt j)) := (hf4 2 (by decide)).trans ((hf3 2 (by decide)).trans ((hf2 2 (by decide)).trans ((hf1 2 (by decide)).trans h2)))
  refine k_alen hC (n := 700) (kl hN (by decide)) h_5 2 rfl rfl rfl dX10_begin_26 ?_
  refine k_mmin hC wm_X10_28 wmath_mmin (by omega) (by omega) (by decide) (Nat.le_of_ble_eq_true rfl) ⟨by decide, by decide⟩ dX10_begin_27 ?_
  refine k_topv (vI ((n : Int))) (congrArg vI (by omega)) ?_
  refine k_put hC fd_X10_34 (kl hN (by decide)) hw4 [.ref (kad G 2), vI 0, vI 0, vI (-1), vI kd, vI nm, vI sa, vI 0, vI (n : Int)] rfl (Nat.le_of_ble_eq_true rfl) rfl rfl dX10_begin_30 (fun w6 hw6 hf6 => ?_)
  refine k_aload_n hC dX10_begin_33 rfl 0 rfl ?_
  have h_8 : w6 2 = bA G 700 (fun j => sb8 (bt j)) := (hf6 2 (by decide)).trans h_5
  refine k_muvV hC (c_X10_advance l hls G hN w6 fl bt n 0 0 0 (-1) kd nm sa hn7 (by omega) hb h_8 hw6) yy_X10_advance wm_X10_37 (kl hN (by decide)) hw6 rfl rfl rfl rfl (Nat.le_of_ble_eq_true rfl) (by decide) (by decide) ⟨by decide, by decide⟩ dX10_begin_34 (fun w7 hp7 => ?_)
  obtain ⟨⟨nm1, hq1, hq2⟩, hf7⟩ := hp7
  have hT7 : tkR G w7 bt n (tx0 bt n) := ⟨0, -1, _, nm1, _, _, hq1, rfl, fun _ => ⟨(skM_b (by omega)).2, rfl, rfl, rfl, rfl, hq2⟩, fun q => absurd rfl q⟩
  subst hQ
  exact k_vret hC hr ⟨by decide, by decide⟩ (⟨rfl, rfl, hT7, fun j hj => (hf7 j (by omega)).trans ((hf6 j (by omega)).trans ((hf4 j (by omega)).trans ((hf3 j (by omega)).trans ((hf2 j (by omega)).trans (hf1 j (by omega))))))⟩) dX10_begin_37

def bput5 (bt : Nat → Int) (c : Nat) (a b d e f : Int) : Nat → Int := bput (bput (bput (bput (bput bt c a) (c + 4) b) (c + 4 + 4) d) (c + 4 + 4 + 4) e) (c + 4 + 4 + 4 + 4) f
set_option maxRecDepth 100000 in
set_option maxHeartbeats 4000000 in
theorem c_X11_feed (l : Launch) (hls : l.stackTraces = false) (G : kG) (hN : 133 ≤ kN G) (w : Nat → va_E) (fl : va_W) (bt : Nat → Int) (c0 : Nat) (cd ea kd nm sa nx en sv : Int) (a b d e9 f : Int) (ha : -2147483648 ≤ a ∧ a ≤ 2147483647) (hb9 : -2147483648 ≤ b ∧ b ≤ 2147483647) (hd : -2147483648 ≤ d ∧ d ≤ 2147483647) (he : -2147483648 ≤ e9 ∧ e9 ≤ 2147483647) (hf : -2147483648 ≤ f ∧ f ≤ 2147483647) (hc7 : c0 ≤ 700) (h00 : w 0 = srO G sv) (h2 : w 2 = byA G bt) (h1 : w 1 = .inr (10, [.ref (kad G 2), vI (c0 : Int), vI cd, vI ea, vI kd, vI nm, vI sa, vI nx, vI en])) : KM l G yX11_feed cX11_feed 6 (some (FieldType.int)) 1 0 0 [.ref (kad G 0), vI a, vI b, vI d, vI e9, vI f] w fl (kMut (vI (if 700 < (c0 : Int) + 20 then -1 else (c0 : Int) + 20)) fl (fun w1 => (700 < c0 + 20 ∧ w1 = w) ∨ (c0 + 20 ≤ 700 ∧ w1 1 = tkO G ((c0 + 20 : Nat) : Int) cd ea kd nm sa nx en ∧ w1 2 = byA G (bput5 bt c0 a b d e9 f) ∧ ∀ j, (j ≠ 1 ∧ j ≠ 2) → w1 j = w j))) := by
  refine KM_of2 hls (by decide +kernel) rfl (lv0 := [(0, .ref (kad G 0)), (1, vI a), (2, vI b), (3, vI d), (4, vI e9), (5, vI f)]) rfl (Nat.le_of_ble_eq_true rfl) (fun p e R s m args below meth c Q hC hr hQ => ?_)
  refine k_aload_n hC dX11_feed_0 rfl 0 rfl ?_
  refine k_get hC fd_X11_16 (kl hN (by decide)) h00 rfl dX11_feed_1 ?_
  refine k_get hC fd_X11_72 (kl hN (by decide)) h1 rfl dX11_feed_4 ?_
  refine k_bipush hC dX11_feed_7 (by decide) ?_
  refine k_iadd hC dX11_feed_9 ?_
  refine k_sipush hC dX11_feed_10 (by decide) ?_
  refine k_icmp_le hC 18 dX11_feed_13 rfl (by omega) (by omega) (fun c_13 => ?_) (fun c_13 => ?_)
  · refine k_aload_n hC dX11_feed_18 rfl 0 rfl ?_
    refine k_get hC fd_X11_16 (kl hN (by decide)) h00 rfl dX11_feed_19 ?_
    refine k_iload_n hC dX11_feed_22 rfl 1 rfl ?_
    refine k_muvV hC (c_X10_append l hls G hN w fl bt c0 a cd ea kd nm sa nx en (by omega) (by omega) h2 h1) yy_X10_append wm_X11_76 (kl hN (by decide)) h1 rfl rfl rfl rfl (Nat.le_of_ble_eq_true rfl) (by decide) (by decide) ⟨by decide, by decide⟩ dX11_feed_23 (fun w1 hp1 => ?_)
    obtain ⟨hs1, hy1, hf1⟩ := hp1
    refine k_aload_n hC dX11_feed_26 rfl 0 rfl ?_
    have h_2 : w1 0 = .inr (11, [.ref (kad G 1), .ref (kad G 32), .ref (kad G 3), .ref (kad G 37), vI sv, .ref (kad G 44), .ref (kad G 10), .ref (kad G 116), .ref (kad G 129), .ref (kad G 132)]) := (hf1 0 (by decide)).trans h00
    refine k_get hC fd_X11_16 (kl hN (by decide)) h_2 rfl dX11_feed_27 ?_
    refine k_iload_n hC dX11_feed_30 rfl 2 rfl ?_
    refine k_muvV hC (c_X10_append l hls G hN w1 fl (bput bt c0 a) (c0 + 4) b cd ea kd nm sa nx en (by omega) (by omega) hy1 hs1) yy_X10_append wm_X11_76 (kl hN (by decide)) hs1 rfl rfl rfl rfl (Nat.le_of_ble_eq_true rfl) (by decide) (by decide) ⟨by decide, by decide⟩ dX11_feed_31 (fun w3 hp3 => ?_)
    obtain ⟨hs3, hy3, hf3⟩ := hp3
    refine k_aload_n hC dX11_feed_34 rfl 0 rfl ?_
    have h_4 : w3 0 = .inr (11, [.ref (kad G 1), .ref (kad G 32), .ref (kad G 3), .ref (kad G 37), vI sv, .ref (kad G 44), .ref (kad G 10), .ref (kad G 116), .ref (kad G 129), .ref (kad G 132)]) := (hf3 0 (by decide)).trans h_2
    refine k_get hC fd_X11_16 (kl hN (by decide)) h_4 rfl dX11_feed_35 ?_
    refine k_iload_n hC dX11_feed_38 rfl 3 rfl ?_
    refine k_muvV hC (c_X10_append l hls G hN w3 fl (bput (bput bt c0 a) (c0 + 4) b) (c0 + 4 + 4) d cd ea kd nm sa nx en (by omega) (by omega) hy3 hs3) yy_X10_append wm_X11_76 (kl hN (by decide)) hs3 rfl rfl rfl rfl (Nat.le_of_ble_eq_true rfl) (by decide) (by decide) ⟨by decide, by decide⟩ dX11_feed_39 (fun w5 hp5 => ?_)
    obtain ⟨hs5, hy5, hf5⟩ := hp5
    refine k_aload_n hC dX11_feed_42 rfl 0 rfl ?_
    have h_6 : w5 0 = .inr (11, [.ref (kad G 1), .ref (kad G 32), .ref (kad G 3), .ref (kad G 37), vI sv, .ref (kad G 44), .ref (kad G 10), .ref (kad G 116), .ref (kad G 129), .ref (kad G 132)]) := (hf5 0 (by decide)).trans h_4
    refine k_get hC fd_X11_16 (kl hN (by decide)) h_6 rfl dX11_feed_43 ?_
    refine k_iload hC dX11_feed_46 4 rfl ?_
    refine k_muvV hC (c_X10_append l hls G hN w5 fl (bput (bput (bput bt c0 a) (c0 + 4) b) (c0 + 4 + 4) d) (c0 + 4 + 4 + 4) e9 cd ea kd nm sa nx en (by omega) (by omega) hy5 hs5) yy_X10_append wm_X11_76 (kl hN (by decide)) hs5 rfl rfl rfl rfl (Nat.le_of_ble_eq_true rfl) (by decide) (by decide) ⟨by decide, by decide⟩ dX11_feed_48 (fun w7 hp7 => ?_)
    obtain ⟨hs7, hy7, hf7⟩ := hp7
    refine k_aload_n hC dX11_feed_51 rfl 0 rfl ?_
    have h_8 : w7 0 = .inr (11, [.ref (kad G 1), .ref (kad G 32), .ref (kad G 3), .ref (kad G 37), vI sv, .ref (kad G 44), .ref (kad G 10), .ref (kad G 116), .ref (kad G 129), .ref (kad G 132)]) := (hf7 0 (by decide)).trans h_6
    refine k_get hC fd_X11_16 (kl hN (by decide)) h_8 rfl dX11_feed_52 ?_
    refine k_iload hC dX11_feed_55 5 rfl ?_
    refine k_muvV hC (c_X10_append l hls G hN w7 fl (bput (bput (bput (bput bt c0 a) (c0 + 4) b) (c0 + 4 + 4) d) (c0 + 4 + 4 + 4) e9) (c0 + 4 + 4 + 4 + 4) f cd ea kd nm sa nx en (by omega) (by omega) hy7 hs7) yy_X10_append wm_X11_76 (kl hN (by decide)) hs7 rfl rfl rfl rfl (Nat.le_of_ble_eq_true rfl) (by decide) (by decide) ⟨by decide, by decide⟩ dX11_feed_57 (fun w9 hp9 => ?_)
    obtain ⟨hs9, hy9, hf9⟩ := hp9
    refine k_aload_n hC dX11_feed_60 rfl 0 rfl ?_
    have h_10 : w9 0 = .inr (11, [.ref (kad G 1), .ref (kad G 32), .ref (kad G 3), .ref (kad G 37), vI sv, .ref (kad G 44), .ref (kad G 10), .ref (kad G 116), .ref (kad G 129), .ref (kad G 132)]) := (hf9 0 (by decide)).trans h_8
    refine k_get hC fd_X11_16 (kl hN (by decide)) h_10 rfl dX11_feed_61 ?_
    refine k_get hC fd_X11_72 (kl hN (by decide)) hs9 rfl dX11_feed_64 ?_
    subst hQ
    exact k_iret hC hr ⟨by decide, by decide⟩ (⟨congrArg (fun z => some (vI z)) ((if_neg (by omega)).trans (by omega)), rfl, Or.inr ⟨by omega, hs9.trans (by rw [show c0 + 4 + 4 + 4 + 4 + 4 = c0 + 20 by omega]), hy9, fun j hj => (hf9 j (by omega)).trans ((hf7 j (by omega)).trans ((hf5 j (by omega)).trans ((hf3 j (by omega)).trans (hf1 j (by omega)))))⟩⟩) dX11_feed_67
  · refine k_iconst hC dX11_feed_16 ?_
    subst hQ
    exact k_iret hC hr ⟨by decide, by decide⟩ (⟨congrArg (fun z => some (vI z)) (if_pos (by omega)), rfl, Or.inl ⟨by omega, rfl⟩⟩) dX11_feed_17

set_option maxRecDepth 100000 in
set_option maxHeartbeats 4000000 in
theorem c_X11_load (l : Launch) (hls : l.stackTraces = false) (G : kG) (hN : 133 ≤ kN G) (w : Nat → va_E) (fl : va_W) (bt : Nat → Int) (c0 : Nat) (cd ea kd nm sa nx en sv : Int) (L : Int) (n : Nat) (g nl0 gp0 gl0 nl9 : Nat → Int) (hs : Nat → Nat → Int) (nx9 : Nat) (cn9 : Int) (hL : -2147483648 ≤ L ∧ L ≤ 2147483647) (hn : n = L.toNat) (hc7 : c0 ≤ 700) (hb : btOK bt) (h00 : w 0 = srO G sv) (h2 : w 2 = byA G bt) (h116 : w 116 = trO G) (hLg : kLog G w 3 g) (hP0 : kPlan G w 32 g nl0) (hP2 : kPlan G w 117 gp0 nl9) (hL2 : kLog G w 122 gl0) (hHi : kHist G w hs (nx9 : Int) cn9) (h1 : w 1 = .inr (10, [.ref (kad G 2), vI (c0 : Int), vI cd, vI ea, vI kd, vI nm, vI sa, vI nx, vI en])) : KX l G yX11_load cX11_load 2 (some (FieldType.int)) 8 8 48 [.ref (kad G 0), vI L] w fl (kOk (0 ≤ L ∧ L ≤ (c0 : Int)) (vI (selI ((txF bt n).1.1 = 0) ((txF bt n).2 2) (-10 - (txF bt n).1.1))) fl (fun w1 => tkR G w1 bt n (txF bt n).1 ∧ ∃ gp1 gl1 nl1 : Nat → Int, kPlan G w1 117 gp1 nl1 ∧ kLog G w1 122 gl1 ∧ ((¬ (txF bt n).1.1 = 0 ∧ ∀ j, ((j < 117 ∨ 128 < j) ∧ j ≠ 1) → w1 j = w j) ∨ ((txF bt n).1.1 = 0 ∧ (gE (copyLM gp1 gl1) (txF bt n).2 ∧ NmR (txF bt n).2 nl1) ∧ w1 0 = srO G 0 ∧ kPlan G w1 32 gp1 nl1 ∧ kLog G w1 3 (copyLM g gl1) ∧ kHist G w1 hs 0 0 ∧ ∀ j, ((10 ≤ j ∧ (j < 32 ∨ 36 < j) ∧ (j < 117 ∨ 128 < j) ∧ j ≠ 44) ∨ j = 2) → w1 j = w j)))) (kTh False (¬ (0 ≤ L ∧ L ≤ (c0 : Int))) fl (fun w1 => w1 = w)) := by
  refine KX_of2 hls (by decide +kernel) rfl (lv0 := [(0, .ref (kad G 0)), (1, vI L)]) rfl (Nat.le_of_ble_eq_true rfl) (fun p e R s m args below meth c Q hC hr htb hQ => ?_)
  subst hQ
  refine k_iload_n hC dX11_load_0 rfl 1 rfl ?_
  refine k_if_lt hC 15 dX11_load_1 rfl (by omega) (fun c_1 => ?_) (fun c_1 => ?_)
  · exact k_thrI hC htb (List.mem_of_getElem? (i := 0) rfl) (by decide) ⟨by decide, by decide⟩ (Nat.le_of_ble_eq_true rfl) dX11_load_15 dX11_load_18 dX11_load_19 dX11_load_21 dX11_load_24 (⟨Or.inr ⟨rfl, by omega⟩, rfl, rfl⟩)
  · refine k_iload_n hC dX11_load_4 rfl 1 rfl ?_
    refine k_aload_n hC dX11_load_5 rfl 0 rfl ?_
    refine k_get hC fd_X11_16 (kl hN (by decide)) h00 rfl dX11_load_6 ?_
    refine k_get hC fd_X11_72 (kl hN (by decide)) h1 rfl dX11_load_9 ?_
    refine k_icmp_le hC 25 dX11_load_12 rfl (by omega) (by omega) (fun c_12 => ?_) (fun c_12 => ?_)
    · refine k_aload_n hC dX11_load_25 rfl 0 rfl ?_
      refine k_get hC fd_X11_16 (kl hN (by decide)) h00 rfl dX11_load_26 ?_
      refine k_iload_n hC dX11_load_29 rfl 1 rfl ?_
      obtain ⟨n9, en9⟩ : ∃ z : Nat, L = (z : Int) := ⟨L.toNat, by omega⟩
      subst en9
      have en : n = n9 := by omega
      subst en
      have hn7 : n ≤ 700 := by omega
      refine k_muvV hC (c_X10_begin l hls G hN w fl bt n (c0 : Int) cd ea kd nm sa nx en hn7 hb h2 h1) yy_X10_begin wm_X11_87 (kl hN (by decide)) h1 rfl rfl rfl rfl (Nat.le_of_ble_eq_true rfl) (by decide) (by decide) ⟨by decide, by decide⟩ dX11_load_30 (fun w1 hp1 => ?_)
      obtain ⟨hT1, hf1⟩ := hp1
      refine k_aload_n hC dX11_load_33 rfl 0 rfl ?_
      have h_2 : w1 0 = .inr (11, [.ref (kad G 1), .ref (kad G 32), .ref (kad G 3), .ref (kad G 37), vI sv, .ref (kad G 44), .ref (kad G 10), .ref (kad G 116), .ref (kad G 129), .ref (kad G 132)]) := (hf1 0 (by decide)).trans h00
      refine k_get hC fd_X11_52 (kl hN (by decide)) h_2 rfl dX11_load_34 ?_
      have h_4 : w1 116 = .inr (9, [.ref (kad G 1), .ref (kad G 117), .ref (kad G 122)]) := (hf1 116 (by decide)).trans h116
      have h_5 : w1 2 = bA G 700 (fun j => sb8 (bt j)) := (hf1 2 (by decide)).trans h2
      have hB_6 : kPlan G w1 117 gp0 nl9 := hP2.fr (fun j q1 q2 => (hf1 j (by omega)))
      have hB_7 : kLog G w1 122 gl0 := hL2.fr (fun j q1 q2 => (hf1 j (by omega)))
      refine k_muvV hC (c_X9_readText l hls G hN w1 fl bt gp0 gl0 nl9 n hn7 hb h_5 hT1 h_4 hB_6 hB_7) yy_X9_readText wm_X11_90 (kl hN (by decide)) h_4 rfl rfl rfl rfl (Nat.le_of_ble_eq_true rfl) (by decide) (by decide) ⟨by decide, by decide⟩ dX11_load_37 (fun w3 hp3 => ?_)
      obtain ⟨⟨gp1, gl1, nl1, hP3, hL3, hdat⟩, hT3, hf3⟩ := hp3
      have hcb := hT3.c
      obtain ⟨tc, etc⟩ : ∃ z : Int, z = (txF bt n).1.1 := ⟨_, rfl⟩
      refine k_aload_n hC dX11_load_40 rfl 0 rfl ?_
      have h_8 : w3 0 = .inr (11, [.ref (kad G 1), .ref (kad G 32), .ref (kad G 3), .ref (kad G 37), vI sv, .ref (kad G 44), .ref (kad G 10), .ref (kad G 116), .ref (kad G 129), .ref (kad G 132)]) := (hf3 0 (by omega)).trans h_2
      refine k_get hC fd_X11_16 (kl hN (by decide)) h_8 rfl dX11_load_41 ?_
      have hTco_9 := hT3
      obtain ⟨cno_9, eao_9, kdo_9, nmo_9, sao_9, nxo_9, h1o_9, -⟩ := hTco_9
      refine k_get hC fd_X11_93 (kl hN (by decide)) h1o_9 rfl dX11_load_44 ?_
      refine k_if_eq hC 61 dX11_load_47 rfl (by omega) (fun c_47 => ?_) (fun c_47 => ?_)
      · have hc0 : (txF bt n).1.1 = 0 := by omega
        refine k_aload_n hC dX11_load_61 rfl 0 rfl ?_
        refine k_get hC fd_X11_25 (kl hN (by decide)) h_8 rfl dX11_load_62 ?_
        refine k_aload_n hC dX11_load_65 rfl 0 rfl ?_
        refine k_get hC fd_X11_52 (kl hN (by decide)) h_8 rfl dX11_load_66 ?_
        have h_10 : w3 116 = .inr (9, [.ref (kad G 1), .ref (kad G 117), .ref (kad G 122)]) := (hf3 116 (by omega)).trans h_4
        refine k_get hC fd_X11_96 (kl hN (by decide)) h_10 rfl dX11_load_69 ?_
        have hB_12 : kPlan G w3 32 g nl0 := hP0.fr (fun j q1 q2 => (hf3 j (by omega)).trans (hf1 j (by omega)))
        refine k_muvV hC (c_X6_copyFrom l hls G hN w3 fl g nl0 gp1 nl1 hB_12 hP3) yy_X6_copyFrom wm_X11_97 (kl hN (by decide)) hB_12.1 rfl rfl rfl rfl (Nat.le_of_ble_eq_true rfl) (by decide) (by decide) ⟨by decide, by decide⟩ dX11_load_72 (fun w11 hp11 => ?_)
        obtain ⟨hP11, hf11⟩ := hp11
        refine k_aload_n hC dX11_load_75 rfl 0 rfl ?_
        have h_13 : w11 0 = .inr (11, [.ref (kad G 1), .ref (kad G 32), .ref (kad G 3), .ref (kad G 37), vI sv, .ref (kad G 44), .ref (kad G 10), .ref (kad G 116), .ref (kad G 129), .ref (kad G 132)]) := (hf11 0 (by omega)).trans h_8
        refine k_get hC fd_X11_29 (kl hN (by decide)) h_13 rfl dX11_load_76 ?_
        refine k_aload_n hC dX11_load_79 rfl 0 rfl ?_
        refine k_get hC fd_X11_52 (kl hN (by decide)) h_13 rfl dX11_load_80 ?_
        have h_14 : w11 116 = .inr (9, [.ref (kad G 1), .ref (kad G 117), .ref (kad G 122)]) := (hf11 116 (by omega)).trans h_10
        refine k_get hC fd_X11_101 (kl hN (by decide)) h_14 rfl dX11_load_83 ?_
        have hB_15 : kLog G w11 3 g := hLg.fr (fun j q1 q2 => (hf11 j (by omega)).trans ((hf3 j (by omega)).trans (hf1 j (by omega))))
        have hB_16 : kLog G w11 122 gl1 := hL3.fr (fun j q1 q2 => (hf11 j (by omega)))
        refine k_muvV hC (c_X4_copyFrom l hls G hN w11 fl 3 122 g gl1 (by omega) (by omega) (by omega) hB_15 hB_16) yy_X4_copyFrom wm_X11_102 (kl hN (by decide)) hB_15.1 rfl rfl rfl rfl (Nat.le_of_ble_eq_true rfl) (by decide) (by decide) ⟨by decide, by decide⟩ dX11_load_86 (fun w17 hp17 => ?_)
        obtain ⟨hl17, hf17⟩ := hp17
        refine k_aload_n hC dX11_load_89 rfl 0 rfl ?_
        have h_18 : w17 0 = .inr (11, [.ref (kad G 1), .ref (kad G 32), .ref (kad G 3), .ref (kad G 37), vI sv, .ref (kad G 44), .ref (kad G 10), .ref (kad G 116), .ref (kad G 129), .ref (kad G 132)]) := (hf17 0 (by omega)).trans h_13
        refine k_get hC fd_X11_39 (kl hN (by decide)) h_18 rfl dX11_load_90 ?_
        have hB_19 : kHist G w17 hs (nx9 : Int) cn9 := hHi.fr (fun j q1 q2 => (hf17 j (by omega)).trans ((hf11 j (by omega)).trans ((hf3 j (by omega)).trans (hf1 j (by omega)))))
        refine k_muvV hC (c_X2_clear l hls G hN w17 fl hs (nx9 : Int) cn9 hB_19) yy_X2_clear wm_X11_105 (kl hN (by decide)) hB_19.1.1 rfl rfl rfl rfl (Nat.le_of_ble_eq_true rfl) (by decide) (by decide) ⟨by decide, by decide⟩ dX11_load_93 (fun w20 hp20 => ?_)
        obtain ⟨hHi20, hf20⟩ := hp20
        refine k_aload_n hC dX11_load_96 rfl 0 rfl ?_
        refine k_iconst hC dX11_load_97 ?_
        have h_21 : w20 0 = .inr (11, [.ref (kad G 1), .ref (kad G 32), .ref (kad G 3), .ref (kad G 37), vI sv, .ref (kad G 44), .ref (kad G 10), .ref (kad G 116), .ref (kad G 129), .ref (kad G 132)]) := (hf20 0 (by omega)).trans h_18
        refine k_put hC fd_X11_108 (kl hN (by decide)) h_21 [.ref (kad G 1), .ref (kad G 32), .ref (kad G 3), .ref (kad G 37), vI 0, .ref (kad G 44), .ref (kad G 10), .ref (kad G 116), .ref (kad G 129), .ref (kad G 132)] rfl (Nat.le_of_ble_eq_true rfl) rfl rfl dX11_load_98 (fun w22 hw22 hf22 => ?_)
        refine k_aload_n hC dX11_load_101 rfl 0 rfl ?_
        refine k_get hC fd_X11_29 (kl hN (by decide)) hw22 rfl dX11_load_102 ?_
        have hB_23 : kLog G w22 3 (copyLM g gl1) := hl17.fr (fun j q1 q2 => (hf22 j (by omega)).trans (hf20 j (by omega)))
        refine k_get hC fd_X11_112 (kl hN (by decide)) hB_23.1 rfl dX11_load_105 ?_
        have hB_24 : tkR G w22 bt n ((txF bt n).1) := hT3.fr (fun j q1 q2 => (hf22 j (by omega)).trans ((hf20 j (by omega)).trans ((hf17 j (by omega)).trans (hf11 j (by omega)))))
        have hB_25 : kPlan G w22 117 gp1 nl1 := hP3.fr (fun j q1 q2 => (hf22 j (by omega)).trans ((hf20 j (by omega)).trans ((hf17 j (by omega)).trans (hf11 j (by omega)))))
        have hB_26 : kLog G w22 122 gl1 := hB_16.fr (fun j q1 q2 => (hf22 j (by omega)).trans ((hf20 j (by omega)).trans (hf17 j (by omega))))
        have hB_27 : kPlan G w22 32 gp1 nl1 := hP11.fr (fun j q1 q2 => (hf22 j (by omega)).trans ((hf20 j (by omega)).trans (hf17 j (by omega))))
        have hB_28 : kHist G w22 hs 0 0 := hHi20.fr (fun j q1 q2 => (hf22 j (by omega)))
        exact k_iretX hC hr ⟨by decide, by decide⟩ (⟨by omega, congrArg (fun z => some (vI z)) ((selI_1 hc0).trans (((hdat hc0).1.1 2 (by decide)).symm)), rfl, hB_24, gp1, gl1, nl1, hB_25, hB_26, Or.inr ⟨hc0, hdat hc0, hw22, hB_27, hB_23, hB_28, fun j hj => (hf22 j (by omega)).trans ((hf20 j (by omega)).trans ((hf17 j (by omega)).trans ((hf11 j (by omega)).trans ((hf3 j (by omega)).trans (hf1 j (by omega))))))⟩⟩) dX11_load_108
      · have hc0 : ¬ (txF bt n).1.1 = 0 := by omega
        refine k_bipush hC dX11_load_50 (by decide) ?_
        refine k_aload_n hC dX11_load_52 rfl 0 rfl ?_
        refine k_get hC fd_X11_16 (kl hN (by decide)) h_8 rfl dX11_load_53 ?_
        refine k_get hC fd_X11_93 (kl hN (by decide)) h1o_9 rfl dX11_load_56 ?_
        refine k_isub hC dX11_load_59 ?_
        exact k_iretX hC hr ⟨by decide, by decide⟩ (⟨by omega, congrArg (fun z => some (vI z)) (selI_0 hc0), rfl, hT3, gp1, gl1, nl1, hP3, hL3, Or.inl ⟨hc0, fun j hj => (hf3 j (by omega)).trans (hf1 j (by omega))⟩⟩) dX11_load_60
    · exact k_thrI hC htb (List.mem_of_getElem? (i := 0) rfl) (by decide) ⟨by decide, by decide⟩ (Nat.le_of_ble_eq_true rfl) dX11_load_15 dX11_load_18 dX11_load_19 dX11_load_21 dX11_load_24 (⟨Or.inr ⟨rfl, by omega⟩, rfl, rfl⟩)

