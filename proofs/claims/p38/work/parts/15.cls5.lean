noncomputable def hatP (g : Nat → Int) (i j k : Nat) : Prop := crOK (crDet (sinM (aziM g i)) (cosM (aziM g i)) (sinM (aziM g j)) (cosM (aziM g j))) ∧ crOK (crDet (sinM (aziM g i)) (cosM (aziM g i)) (sinM (aziM g k)) (cosM (aziM g k))) ∧ crOK (crDet (sinM (aziM g j)) (cosM (aziM g j)) (sinM (aziM g k)) (cosM (aziM g k)))
noncomputable def cE (g : Nat → Int) (i j : Nat) (T : Int) : Int := crE (carM g i T) (sinM (aziM g i)) (cosM (aziM g i)) (carM g j T) (sinM (aziM g j)) (cosM (aziM g j))
noncomputable def cN (g : Nat → Int) (i j : Nat) (T : Int) : Int := crN (carM g i T) (sinM (aziM g i)) (cosM (aziM g i)) (carM g j T) (sinM (aziM g j)) (cosM (aziM g j))
noncomputable def hatA (g : Nat → Int) (i j k : Nat) (T : Int) : Int := areaM (cE g i j T) (cN g i j T) (cE g i k T) (cN g i k T) (cE g j k T) (cN g j k T)
theorem cE_b (g : Nat → Int) (i j : Nat) (T : Int) : -1000000 ≤ cE g i j T ∧ cE g i j T ≤ 1000000 := limM_b _
theorem cN_b (g : Nat → Int) (i j : Nat) (T : Int) : -1000000 ≤ cN g i j T ∧ cN g i j T ≤ 1000000 := limM_b _
theorem hatA_b (g : Nat → Int) (i j k : Nat) (T : Int) : 0 ≤ hatA g i j k T ∧ hatA g i j k T ≤ 400000000 := by
  have h := turnM_b (cE_b g i j T) (cN_b g i j T) (cE_b g i k T) (cN_b g i k T) (cE_b g j k T) (cN_b g j k T)
  unfold hatA areaM; omega
def kLines (w : Nat → va_E) : Prop := ∀ i : Nat, i < 12 → ∃ a0 a1 a2 a3 a4 a5 a6 sa ca : Int, w (20 + i) = .inr (3, [vI a0, vI a1, vI a2, vI a3, vI a4, vI a5, vI a6, vI sa, vI ca])
theorem kLines.fr {w w1 : Nat → va_E} (h : kLines w) (hf : ∀ j, 20 ≤ j → j ≤ 31 → w1 j = w j) : kLines w1 := fun i hi => by
  rw [hf (20 + i) (by omega) (by omega)]; exact h i hi
theorem kLines.put {w w1 : Nat → va_E} {n : Nat} {a0 a1 a2 a3 a4 a5 a6 sa ca : Int} (h : kLines w) (hf : ∀ j, 20 ≤ j → j ≤ 31 → j ≠ 20 + n → w1 j = w j) (hn : w1 (20 + n) = .inr (3, [vI a0, vI a1, vI a2, vI a3, vI a4, vI a5, vI a6, vI sa, vI ca])) : kLines w1 := fun i hi => by
  by_cases hin : i = n
  · subst hin; exact ⟨a0, a1, a2, a3, a4, a5, a6, sa, ca, hn⟩
  · rw [hf (20 + i) (by omega) (by omega) (by omega)]; exact h i hi
def kDrawn (w : Nat → va_E) (g : Nat → Int) (T : Int) (n : Nat) : Prop := ∀ i : Nat, i < n → i < 12 → w (20 + i) = lnO g i T
theorem kDrawn.fr {w w1 : Nat → va_E} {g : Nat → Int} {T : Int} {n : Nat} (h : kDrawn w g T n) (hf : ∀ j, 20 ≤ j → j ≤ 31 → w1 j = w j) : kDrawn w1 g T n := fun i h1 h2 => by
  rw [hf (20 + i) (by omega) (by omega)]; exact h i h1 h2
theorem kDrawn.zero {w : Nat → va_E} {g : Nat → Int} {T : Int} : kDrawn w g T 0 := fun i h1 => absurd h1 (by omega)
theorem kDrawn.put {w w1 : Nat → va_E} {g : Nat → Int} {T : Int} {n : Nat} (h : kDrawn w g T n) (hf : ∀ j, 20 ≤ j → j ≤ 31 → j ≠ 20 + n → w1 j = w j) (hn : w1 (20 + n) = lnO g n T) : kDrawn w1 g T (n + 1) := fun i h1 h2 => by
  by_cases hin : i = n
  · subst hin; exact hn
  · rw [hf (20 + i) (by omega) (by omega) (by omega)]; exact h i (by omega) h2
def kShip (w : Nat → va_E) : Prop := ∃ x y la lo : Int, w 13 = .inr (8, [vI x, vI y, vI la, vI lo])
theorem kShip.fr {w w1 : Nat → va_E} (h : kShip w) (hf : ∀ j, 13 ≤ j → j ≤ 13 → w1 j = w j) : kShip w1 := by
  unfold kShip; rw [hf 13 (by omega) (by omega)]; exact h
def kSh (w : Nat → va_E) (g : Nat → Int) (T : Int) : Prop := ∃ la lo : Int, w 13 = .inr (8, [vI (dispM g T false), vI (dispM g T true), vI la, vI lo])
abbrev chO (G : kG) : va_E := .inr (0, [.ref (kad G 11), .ref (kad G 12), .ref (kad G 13), .ref (kad G 14), .ref (kad G 15), .ref (kad G 16)])
abbrev liA (G : kG) : va_E := rA G 4 12 (fun j => some (kad G (20 + j)))
def sumF (f : Nat → Int) : Nat → Int
  | 0 => 0
  | n + 1 => sumF f n + f n
theorem sumF_b {f : Nat → Int} {B : Int} (hB : 0 ≤ B) : ∀ n : Nat, (∀ k, k < n → -B ≤ f k ∧ f k ≤ B) → -(B * n) ≤ sumF f n ∧ sumF f n ≤ B * n := by
  intro n
  induction n with
  | zero => intro _; show -(B * 0) ≤ (0 : Int) ∧ (0 : Int) ≤ B * 0; omega
  | succ n ih =>
    intro h
    have h1 := ih (fun k hk => h k (by omega))
    have h2 := h n (by omega)
    show -(B * ((n + 1 : Nat) : Int)) ≤ sumF f n + f n ∧ sumF f n + f n ≤ B * ((n + 1 : Nat) : Int)
    rw [show ((n + 1 : Nat) : Int) = (n : Int) + 1 by omega, Int.mul_add]
    omega
noncomputable def fxA (g : Nat → Int) : Nat → Int := sumF (fun k => prodM (sinM (aziM g k)) (sinM (aziM g k)))
noncomputable def fxB (g : Nat → Int) : Nat → Int := sumF (fun k => prodM (sinM (aziM g k)) (cosM (aziM g k)))
noncomputable def fxC (g : Nat → Int) : Nat → Int := sumF (fun k => prodM (cosM (aziM g k)) (cosM (aziM g k)))
noncomputable def fxP (g : Nat → Int) (T : Int) : Nat → Int := sumF (fun k => prodM (carM g k T) (sinM (aziM g k)))
noncomputable def fxQ (g : Nat → Int) (T : Int) : Nat → Int := sumF (fun k => prodM (carM g k T) (cosM (aziM g k)))
noncomputable def fixD (g : Nat → Int) : Int := fxA g (g 2).toNat * fxC g (g 2).toNat - fxB g (g 2).toNat * fxB g (g 2).toNat
def fixP (g : Nat → Int) : Prop := 100000000000 ≤ fixD g
noncomputable def fixE (g : Nat → Int) (T : Int) : Int := limM (((fxP g T (g 2).toNat * fxC g (g 2).toNat - fxQ g T (g 2).toNat * fxB g (g 2).toNat) * 1000).fdiv (fixD g / 1000))
noncomputable def fixN (g : Nat → Int) (T : Int) : Int := limM (((fxQ g T (g 2).toNat * fxA g (g 2).toNat - fxP g T (g 2).toNat * fxB g (g 2).toNat) * 1000).fdiv (fixD g / 1000))
theorem fx_b (g : Nat → Int) (n : Nat) (hn : n ≤ 12) : (-12000000 ≤ fxA g n ∧ fxA g n ≤ 12000000) ∧ (-12000000 ≤ fxB g n ∧ fxB g n ≤ 12000000) ∧ (-12000000 ≤ fxC g n ∧ fxC g n ≤ 12000000) := by
  have h1 := sumF_b (f := fun k => prodM (sinM (aziM g k)) (sinM (aziM g k))) (B := 1000000) (by decide) n (fun k _ => prodM_u 1000000 (sinM_b _) (sinM_b _))
  have h2 := sumF_b (f := fun k => prodM (sinM (aziM g k)) (cosM (aziM g k))) (B := 1000000) (by decide) n (fun k _ => prodM_u 1000000 (sinM_b _) (cosM_b _))
  have h3 := sumF_b (f := fun k => prodM (cosM (aziM g k)) (cosM (aziM g k))) (B := 1000000) (by decide) n (fun k _ => prodM_u 1000000 (cosM_b _) (cosM_b _))
  unfold fxA fxB fxC
  omega
theorem fxPQ_b {g : Nat → Int} (hI : Inv g) {T : Int} (ht : 0 ≤ T ∧ T ≤ 5000) (n : Nat) (hn : n ≤ 12) (hg : (n : Int) ≤ g 2) : (-52000000 ≤ fxP g T n ∧ fxP g T n ≤ 52000000) ∧ (-52000000 ≤ fxQ g T n ∧ fxQ g T n ≤ 52000000) := by
  have h1 := sumF_b (f := fun k => prodM (carM g k T) (sinM (aziM g k))) (B := 4300000) (by decide) n (fun k hk => by have h := carM_b hI k (by omega) ht; exact prodM_u 4300000 (by omega) (sinM_b _))
  have h2 := sumF_b (f := fun k => prodM (carM g k T) (cosM (aziM g k))) (B := 4300000) (by decide) n (fun k hk => by have h := carM_b hI k (by omega) ht; exact prodM_u 4300000 (by omega) (cosM_b _))
  unfold fxP fxQ
  omega
set_option maxRecDepth 100000 in
set_option maxHeartbeats 4000000 in
theorem c_X0_lineOf (l : Launch) (hls : l.stackTraces = false) (G : kG) (hN : 133 ≤ kN G) (w : Nat → va_E) (fl : va_W) (i : Nat) (hi : i < 12) (h10 : w 10 = chO G) (h11 : w 11 = liA G) : KM l G yX0_lineOf cX0_lineOf 3 (some ((FieldType.object "SightReducer$Line"))) 0 0 0 [.ref (kad G 10), vI (i : Int)] w fl (kPure (.ref (kad G (20 + i))) w fl) := by
  refine KM_of2 hls (by decide +kernel) rfl (lv0 := [(0, .ref (kad G 10)), (1, vI (i : Int))]) rfl (Nat.le_of_ble_eq_true rfl) (fun p e R s m args below meth c Q hC hr hQ => ?_)
  refine k_iload_n hC dX0_lineOf_0 rfl 1 rfl ?_
  refine k_if_lt hC 13 dX0_lineOf_1 rfl (by omega) (fun c_1 => absurd c_1 (by omega)) (fun c_1 => ?_)
  refine k_iload_n hC dX0_lineOf_4 rfl 1 rfl ?_
  refine k_aload_n hC dX0_lineOf_5 rfl 0 rfl ?_
  refine k_get hC fd_X0_11 (kl hN (by decide)) h10 rfl dX0_lineOf_6 ?_
  refine k_alen hC (n := 12) (kl hN (by decide)) h11 4 rfl rfl rfl dX0_lineOf_9 ?_
  refine k_icmp_lt hC 17 dX0_lineOf_10 rfl (by omega) (by omega) (fun c_10 => ?_) (fun c_10 => absurd c_10 (by omega))
  refine k_aload_n hC dX0_lineOf_17 rfl 0 rfl ?_
  refine k_get hC fd_X0_11 (kl hN (by decide)) h10 rfl dX0_lineOf_18 ?_
  refine k_iload_n hC dX0_lineOf_21 rfl 1 rfl ?_
  refine k_aald hC (v := .ref (kad G (20 + i))) (kl hN (by decide)) h11 rfl (by omega) (by decide) rfl dX0_lineOf_22 ?_
  refine k_astore_n hC [(2, .ref (kad G (20 + i))), (0, .ref (kad G 10)), (1, vI (i : Int))] dX0_lineOf_23 rfl (by decide) rfl ?_
  refine k_aload_n hC dX0_lineOf_24 rfl 0 rfl ?_
  refine k_ifnonnull hC 35 dX0_lineOf_25 rfl ?_
  refine k_aload_n hC dX0_lineOf_35 rfl 0 rfl ?_
  subst hQ
  exact k_aret hC hr (Or.inl ⟨_, rfl⟩) (Or.inr ⟨_, rfl⟩) ⟨by decide, by decide⟩ (⟨rfl, rfl, rfl⟩) dX0_lineOf_36

set_option maxRecDepth 100000 in
set_option maxHeartbeats 4000000 in
theorem c_X0_drawLine (l : Launch) (hls : l.stackTraces = false) (G : kG) (hN : 133 ≤ kN G) (w : Nat → va_E) (fl : va_W) (g nl : Nat → Int) (i : Nat) (T : Int) (hi : (i : Int) < g 2) (hI : Inv g) (ht : 0 ≤ T ∧ T ≤ 5000) (hL : kLog G w 3 g) (hP : kPlan G w 32 g nl) (h10 : w 10 = chO G) (h11 : w 11 = liA G) (hLn : kLines w) (hSh : kShip w) : KM l G yX0_drawLine cX0_drawLine 8 (none) 5 0 0 [.ref (kad G 10), .ref (kad G 32), .ref (kad G 3), vI (i : Int), vI T] w fl (kMuv fl (fun w1 => w1 (20 + i) = lnO g i T ∧ kSh w1 g T ∧ ∀ j, (j ≠ 13 ∧ j ≠ 20 + i) → w1 j = w j)) := by
  refine KM_of2 hls (by decide +kernel) rfl (lv0 := [(0, .ref (kad G 10)), (1, .ref (kad G 32)), (2, .ref (kad G 3)), (3, vI (i : Int)), (4, vI T)]) rfl (Nat.le_of_ble_eq_true rfl) (fun p e R s m args below meth c Q hC hr hQ => ?_)
  have h0 := hI.c
  have hsi := hI.sight i hi
  obtain ⟨x9, y9, la9, lo9, hS9⟩ := hSh
  obtain ⟨a0, a1, a2, a3, a4, a5, a6, sa, ca, hl9⟩ := hLn i (by omega)
  refine k_aload_n hC dX0_drawLine_0 rfl 0 rfl ?_
  refine k_get hC fd_X0_25 (kl hN (by decide)) h10 rfl dX0_drawLine_1 ?_
  refine k_aload_n hC dX0_drawLine_4 rfl 2 rfl ?_
  refine k_aload_n hC dX0_drawLine_5 rfl 2 rfl ?_
  refine k_get hC fd_X0_46 (kl hN (by decide)) hL.1 rfl dX0_drawLine_6 ?_
  refine k_iload_n hC dX0_drawLine_9 rfl 3 rfl ?_
  refine k_pureSN hC (c_X11_at l hls G hN w fl 8 (i : Int) 12 (fun j => g (58 + 3 * j)) (by decide) (by omega) (by decide) hL.2.2.2.2.2.1) yy_X11_at wm_X0_52 rfl rfl (Nat.le_of_ble_eq_true rfl) (by decide) (by decide) ⟨by decide, by decide⟩ dX0_drawLine_10 ?_
  refine k_topv (vI (g (58 + 3 * i))) rfl ?_
  have hd1 := dispM_b hI hsi.2.1 false
  have hd2 := dispM_b hI hsi.2.1 true
  have hd3 := dispM_b hI ht false
  have hd4 := dispM_b hI ht true
  have hsz := sinM_b (aziM g i)
  have hcz := cosM_b (aziM g i)
  refine k_muvV hC (c_X8_sailTo l hls G hN w fl g x9 y9 la9 lo9 (g (58 + 3 * i)) hI (by omega) hL hS9) yy_X8_sailTo wm_X0_56 (kl hN (by decide)) hS9 rfl rfl rfl rfl (Nat.le_of_ble_eq_true rfl) (by decide) (by decide) ⟨by decide, by decide⟩ dX0_drawLine_13 (fun w1 hp1 => ?_)
  obtain ⟨hs1, hf1⟩ := hp1
  refine k_aload_n hC dX0_drawLine_16 rfl 0 rfl ?_
  have h_2 : w1 10 = .inr (0, [.ref (kad G 11), .ref (kad G 12), .ref (kad G 13), .ref (kad G 14), .ref (kad G 15), .ref (kad G 16)]) := (hf1 10 (by decide)).trans h10
  refine k_get hC fd_X0_25 (kl hN (by decide)) h_2 rfl dX0_drawLine_17 ?_
  refine k_aload_n hC dX0_drawLine_20 rfl 1 rfl ?_
  have hB_3 : kPlan G w1 32 g nl := hP.fr (fun j q1 q2 => (hf1 j (by omega)))
  refine k_muvV hC (c_X8_reckonFrom l hls G hN w1 fl g nl (dispM g (g (58 + 3 * i)) false) (dispM g (g (58 + 3 * i)) true) la9 lo9 hI (by omega) (by omega) hB_3 hs1) yy_X8_reckonFrom wm_X0_60 (kl hN (by decide)) hs1 rfl rfl rfl rfl (Nat.le_of_ble_eq_true rfl) (by decide) (by decide) ⟨by decide, by decide⟩ dX0_drawLine_21 (fun w4 hp4 => ?_)
  obtain ⟨hs4, hf4⟩ := hp4
  refine k_aload_n hC dX0_drawLine_24 rfl 0 rfl ?_
  refine k_iload_n hC dX0_drawLine_25 rfl 3 rfl ?_
  have h_5 : w4 10 = .inr (0, [.ref (kad G 11), .ref (kad G 12), .ref (kad G 13), .ref (kad G 14), .ref (kad G 15), .ref (kad G 16)]) := (hf4 10 (by decide)).trans h_2
  have h_6 : w4 11 = rA G 4 12 (fun j => some (kad G (20 + j))) := (hf4 11 (by decide)).trans ((hf1 11 (by decide)).trans h11)
  refine k_pureV hC (c_X0_lineOf l hls G hN w4 fl i (by omega) h_5 h_6) yy_X0_lineOf wm_X0_64 (kl hN (by decide)) h_5 rfl rfl rfl rfl (Nat.le_of_ble_eq_true rfl) (by decide) (by decide) ⟨by decide, by decide⟩ dX0_drawLine_26 ?_
  refine k_astore hC [(5, .ref (kad G (20 + i))), (0, .ref (kad G 10)), (1, .ref (kad G 32)), (2, .ref (kad G 3)), (3, vI (i : Int)), (4, vI T)] dX0_drawLine_29 (by decide) rfl ?_
  refine k_aload hC dX0_drawLine_31 0 rfl ?_
  refine k_aload_n hC dX0_drawLine_33 rfl 2 rfl ?_
  refine k_aload_n hC dX0_drawLine_34 rfl 3 rfl ?_
  refine k_iload_n hC dX0_drawLine_35 rfl 4 rfl ?_
  refine k_aload_n hC dX0_drawLine_36 rfl 1 rfl ?_
  refine k_get hC fd_X0_25 (kl hN (by decide)) h_5 rfl dX0_drawLine_37 ?_
  have h_7 : w4 (20 + i) = .inr (3, [vI a0, vI a1, vI a2, vI a3, vI a4, vI a5, vI a6, vI sa, vI ca]) := (hf4 (20 + i) (by omega)).trans ((hf1 (20 + i) (by omega)).trans hl9)
  have hB_8 : kLog G w4 3 g := hL.fr (fun j q1 q2 => (hf4 j (by omega)).trans (hf1 j (by omega)))
  have hB_9 : kPlan G w4 32 g nl := hB_3.fr (fun j q1 q2 => (hf4 j (by omega)))
  refine k_muvV hC (c_X3_reduce l hls G hN w4 fl g nl (20 + i) i a0 a1 a2 a3 a4 a5 a6 sa ca (dispM g (g (58 + 3 * i)) false) (dispM g (g (58 + 3 * i)) true) (g 3 + (dispM g (g (58 + 3 * i)) true) / 100) (lonM (g 4 + ((dispM g (g (58 + 3 * i)) false) * 10000).fdiv (cosM (g 3)))) (by omega) hI (by omega) rfl rfl hB_8 hB_9 h_7 hs4) yy_X3_reduce wm_X0_68 (kl hN (by omega)) h_7 rfl rfl rfl rfl (Nat.le_of_ble_eq_true rfl) (by decide) (by decide) ⟨by decide, by decide⟩ dX0_drawLine_40 (fun w10 hp10 => ?_)
  obtain ⟨hs10, hf10⟩ := hp10
  refine k_aload_n hC dX0_drawLine_43 rfl 1 rfl ?_
  have h_11 : w10 10 = .inr (0, [.ref (kad G 11), .ref (kad G 12), .ref (kad G 13), .ref (kad G 14), .ref (kad G 15), .ref (kad G 16)]) := (hf10 10 (by omega)).trans h_5
  refine k_get hC fd_X0_25 (kl hN (by decide)) h_11 rfl dX0_drawLine_44 ?_
  have h_12 : w10 13 = .inr (8, [vI (dispM g (g (58 + 3 * i)) false), vI (dispM g (g (58 + 3 * i)) true), vI (g 3 + (dispM g (g (58 + 3 * i)) true) / 100), vI (lonM (g 4 + ((dispM g (g (58 + 3 * i)) false) * 10000).fdiv (cosM (g 3))))]) := (hf10 13 (by omega)).trans hs4
  refine k_get hC fd_X0_72 (kl hN (by decide)) h_12 rfl dX0_drawLine_47 ?_
  refine k_istore hC [(6, vI (dispM g (g (58 + 3 * i)) false)), (5, .ref (kad G (20 + i))), (0, .ref (kad G 10)), (1, .ref (kad G 32)), (2, .ref (kad G 3)), (3, vI (i : Int)), (4, vI T)] dX0_drawLine_50 (by decide) rfl ?_
  refine k_aload_n hC dX0_drawLine_52 rfl 2 rfl ?_
  refine k_get hC fd_X0_25 (kl hN (by decide)) h_11 rfl dX0_drawLine_53 ?_
  refine k_get hC fd_X0_76 (kl hN (by decide)) h_12 rfl dX0_drawLine_56 ?_
  refine k_istore hC [(7, vI (dispM g (g (58 + 3 * i)) true)), (6, vI (dispM g (g (58 + 3 * i)) false)), (5, .ref (kad G (20 + i))), (0, .ref (kad G 10)), (1, .ref (kad G 32)), (2, .ref (kad G 3)), (3, vI (i : Int)), (4, vI T)] dX0_drawLine_59 (by decide) rfl ?_
  refine k_aload_n hC dX0_drawLine_61 rfl 3 rfl ?_
  refine k_get hC fd_X0_25 (kl hN (by decide)) h_11 rfl dX0_drawLine_62 ?_
  refine k_aload_n hC dX0_drawLine_65 rfl 5 rfl ?_
  refine k_iload hC dX0_drawLine_66 7 rfl ?_
  have hB_13 : kLog G w10 3 g := hB_8.fr (fun j q1 q2 => (hf10 j (by omega)))
  refine k_muvV hC (c_X8_sailTo l hls G hN w10 fl g (dispM g (g (58 + 3 * i)) false) (dispM g (g (58 + 3 * i)) true) (g 3 + (dispM g (g (58 + 3 * i)) true) / 100) (lonM (g 4 + ((dispM g (g (58 + 3 * i)) false) * 10000).fdiv (cosM (g 3)))) T hI (by omega) hB_13 h_12) yy_X8_sailTo wm_X0_56 (kl hN (by decide)) h_12 rfl rfl rfl rfl (Nat.le_of_ble_eq_true rfl) (by decide) (by decide) ⟨by decide, by decide⟩ dX0_drawLine_68 (fun w14 hp14 => ?_)
  obtain ⟨hs14, hf14⟩ := hp14
  refine k_aload hC dX0_drawLine_71 2 rfl ?_
  refine k_aload_n hC dX0_drawLine_73 rfl 3 rfl ?_
  have h_15 : w14 10 = .inr (0, [.ref (kad G 11), .ref (kad G 12), .ref (kad G 13), .ref (kad G 14), .ref (kad G 15), .ref (kad G 16)]) := (hf14 10 (by decide)).trans h_11
  refine k_get hC fd_X0_25 (kl hN (by decide)) h_15 rfl dX0_drawLine_74 ?_
  refine k_get hC fd_X0_72 (kl hN (by decide)) hs14 rfl dX0_drawLine_77 ?_
  refine k_iload hC dX0_drawLine_80 1 rfl ?_
  refine k_isub hC dX0_drawLine_82 ?_
  refine k_aload_n hC dX0_drawLine_83 rfl 3 rfl ?_
  refine k_get hC fd_X0_25 (kl hN (by decide)) h_15 rfl dX0_drawLine_84 ?_
  refine k_get hC fd_X0_76 (kl hN (by decide)) hs14 rfl dX0_drawLine_87 ?_
  refine k_iload hC dX0_drawLine_90 0 rfl ?_
  refine k_isub hC dX0_drawLine_92 ?_
  have h_16 : w14 (20 + i) = .inr (3, [vI (apM g i), vI (obsM g i), vI (expM g i), vI (aziM g i), vI (intM g i), vI (offM g i), vI a6, vI (sinM (aziM g i)), vI (cosM (aziM g i))]) := (hf14 (20 + i) (by omega)).trans hs10
  refine k_muvV hC (c_X3_carry l hls G hN w14 fl (20 + i) (apM g i) (obsM g i) (expM g i) (aziM g i) (intM g i) (offM g i) a6 (sinM (aziM g i)) (cosM (aziM g i)) ((dispM g T false) - (dispM g (g (58 + 3 * i)) false)) ((dispM g T true) - (dispM g (g (58 + 3 * i)) true)) (by omega) (by omega) (by omega) (by omega) (by omega) h_16) yy_X3_carry wm_X0_79 (kl hN (by omega)) h_16 rfl rfl rfl rfl (Nat.le_of_ble_eq_true rfl) (by decide) (by decide) ⟨by decide, by decide⟩ dX0_drawLine_93 (fun w17 hp17 => ?_)
  obtain ⟨hs17, hf17⟩ := hp17
  have h_18 : w17 13 = .inr (8, [vI (dispM g T false), vI (dispM g T true), vI (g 3 + (dispM g (g (58 + 3 * i)) true) / 100), vI (lonM (g 4 + ((dispM g (g (58 + 3 * i)) false) * 10000).fdiv (cosM (g 3))))]) := (hf17 13 (by omega)).trans hs14
  subst hQ
  exact k_vret hC hr ⟨by decide, by decide⟩ (⟨rfl, rfl, hs17, ⟨_, _, h_18⟩, fun j hj => (hf17 j (by omega)).trans ((hf14 j (by omega)).trans ((hf10 j (by omega)).trans ((hf4 j (by omega)).trans (hf1 j (by omega)))))⟩) dX0_drawLine_96

set_option maxRecDepth 100000 in
set_option maxHeartbeats 4000000 in
theorem c_X0_drawAll (l : Launch) (hls : l.stackTraces = false) (G : kG) (hN : 133 ≤ kN G) (w : Nat → va_E) (fl : va_W) (g nl : Nat → Int) (T : Int) (hI : Inv g) (ht : 0 ≤ T ∧ T ≤ 5000) (hL : kLog G w 3 g) (hP : kPlan G w 32 g nl) (h10 : w 10 = chO G) (h11 : w 11 = liA G) (hLn : kLines w) (hSh : kShip w) : KM l G yX0_drawAll cX0_drawAll 5 (none) 6 0 0 [.ref (kad G 10), .ref (kad G 32), .ref (kad G 3), vI T] w fl (kMuv fl (fun w1 => kDrawn w1 g T (g 2).toNat ∧ kLines w1 ∧ kShip w1 ∧ ∀ j, (j ≠ 13 ∧ (j < 20 ∨ 31 < j)) → w1 j = w j)) := by
  refine KM_of2 hls (by decide +kernel) rfl (lv0 := [(0, .ref (kad G 10)), (1, .ref (kad G 32)), (2, .ref (kad G 3)), (3, vI T)]) rfl (Nat.le_of_ble_eq_true rfl) (fun p e R s m args below meth c Q hC hr hQ => ?_)
  have h0 := hI.c
  refine k_iconst hC dX0_drawAll_0 ?_
  refine k_istore hC [(4, vI 0), (0, .ref (kad G 10)), (1, .ref (kad G 32)), (2, .ref (kad G 3)), (3, vI T)] dX0_drawAll_1 (by decide) rfl ?_
  have loop : ∀ (n : Nat) (k : Nat) (u : Nat → va_E), ((g 2).toNat < n + k) → ((k : Int) ≤ g 2) → (u 10 = .inr (0, [.ref (kad G 11), .ref (kad G 12), .ref (kad G 13), .ref (kad G 14), .ref (kad G 15), .ref (kad G 16)])) → (u 11 = rA G 4 12 (fun j => some (kad G (20 + j)))) → (kLog G u 3 g) → (kPlan G u 32 g nl) → (kLines u) → (kShip u) → (kDrawn u g T k) → ((∀ j, (j ≠ 13 ∧ (j < 20 ∨ 31 < j)) → u j = w j)) → KW p l e R s m args below meth c 5 G Q u fl 0 0 3 [(4, vI (k : Int)), (0, .ref (kad G 10)), (1, .ref (kad G 32)), (2, .ref (kad G 3)), (3, vI T)] [] := by
    intro n
    induction n with
    | zero =>
      intro k u hn_ hk h10 h11 hL hP hLn hSh hD hfr
      exact absurd hn_ (by omega)
    | succ n ih =>
      intro k u hn_ hk h10 h11 hL hP hLn hSh hD hfr
      refine k_iload hC dX0_drawAll_3 0 rfl ?_
      refine k_aload_n hC dX0_drawAll_5 rfl 3 rfl ?_
      refine k_get hC fd_X0_83 (kl hN (by decide)) hL.1 rfl dX0_drawAll_6 ?_
      refine k_icmp_ge hC 27 dX0_drawAll_9 rfl (by omega) (by omega) (fun c_9 => ?_) (fun c_9 => ?_)
      · subst hQ
        exact k_vret hC hr ⟨by decide, by decide⟩ (⟨rfl, rfl, (by rw [show (g 2).toNat = k by omega]; exact hD), hLn, hSh, fun j hj => hfr j (by omega)⟩) dX0_drawAll_27
      · refine k_aload_n hC dX0_drawAll_12 rfl 1 rfl ?_
        refine k_aload_n hC dX0_drawAll_13 rfl 2 rfl ?_
        refine k_aload_n hC dX0_drawAll_14 rfl 3 rfl ?_
        refine k_iload hC dX0_drawAll_15 0 rfl ?_
        refine k_iload_n hC dX0_drawAll_17 rfl 4 rfl ?_
        refine k_muvV hC (c_X0_drawLine l hls G hN u fl g nl k T (by omega) hI (by omega) hL hP h10 h11 hLn hSh) yy_X0_drawLine wm_X0_86 (kl hN (by decide)) h10 rfl rfl rfl rfl (Nat.le_of_ble_eq_true rfl) (by decide) (by decide) ⟨by decide, by decide⟩ dX0_drawAll_18 (fun w1 hp1 => ?_)
        obtain ⟨hs1, ⟨la1, lo1, hq1⟩, hf1⟩ := hp1
        have hLn1 : kLines w1 := hLn.put (fun j q1 q2 q3 => hf1 j (by omega)) hs1
        have hD1 : kDrawn w1 g T (k + 1) := hD.put (fun j q1 q2 q3 => hf1 j (by omega)) hs1
        refine k_iinc hC (y := (k : Int) + 1) [(4, vI ((k : Int) + 1)), (0, .ref (kad G 10)), (1, .ref (kad G 32)), (2, .ref (kad G 3)), (3, vI T)] (j := 0) dX0_drawAll_21 rfl (by omega) (by decide) rfl ?_
        refine k_goto hC 3 dX0_drawAll_24 rfl ?_
        refine k_lvs (ls := [0, 1, 2, 3, 4]) [(4, vI ((k + 1 : Nat) : Int)), (0, .ref (kad G 10)), (1, .ref (kad G 32)), (2, .ref (kad G 3)), (3, vI T)] (by simp only [lv_pick]; rfl) ?_
        have h_2 : w1 10 = .inr (0, [.ref (kad G 11), .ref (kad G 12), .ref (kad G 13), .ref (kad G 14), .ref (kad G 15), .ref (kad G 16)]) := (hf1 10 (by omega)).trans h10
        have h_3 : w1 11 = rA G 4 12 (fun j => some (kad G (20 + j))) := (hf1 11 (by omega)).trans h11
        have hB_4 : kLog G w1 3 g := hL.fr (fun j q1 q2 => (hf1 j (by omega)))
        have hB_5 : kPlan G w1 32 g nl := hP.fr (fun j q1 q2 => (hf1 j (by omega)))
        exact ih (k + 1) w1 (by omega) (by omega) h_2 h_3 hB_4 hB_5 hLn1 (⟨_, _, _, _, hq1⟩) hD1 (fun j hj => (hf1 j (by omega)).trans (hfr j (by omega)))
  refine k_lvs (ls := [0, 1, 2, 3, 4]) [(4, vI ((0 : Nat) : Int)), (0, .ref (kad G 10)), (1, .ref (kad G 32)), (2, .ref (kad G 3)), (3, vI T)] (by simp only [lv_pick]; rfl) ?_
  exact loop 13 0 w (by omega) (by omega) h10 h11 hL hP hLn hSh (kDrawn.zero (w := w) (g := g) (T := T)) (fun j hj => rfl)

