def ldO (G : kG) (w w1 : Nat → va_E) (u bt : Nat → Int) (n : Nat) (th : Int) : Prop :=
  (th ≠ 0 ∧ w1 133 = mdO G (kup u 5 th) ∧ ∀ j, j ≠ 133 → w1 j = w j) ∨
  (th = 0 ∧ (∃ u1, w1 133 = mdO G u1 ∧ (u1 5 = 0 ∧ u1 15 = u 15 ∧ u1 17 = 0 ∧ u1 24 = selI ((txF bt n).1.1 = 0) (-1) (txF bt n).1.2.1) ∧ ((¬ (txF bt n).1.1 = 0 ∧ u1 4 = u 4 ∧ u1 6 = u 6 ∧ w1 134 = w 134) ∨ ((txF bt n).1.1 = 0 ∧ u1 4 = 0 ∧ u1 6 = 0 ∧ w1 134 = lA G 93 (txF bt n).2))) ∧ (∃ D1, w1 135 = lA G 93 D1) ∧ ∀ j, (j ≠ 133 ∧ j ≠ 134 ∧ j ≠ 135) → w1 j = w j)
set_option maxRecDepth 100000 in
set_option maxHeartbeats 4000000 in
theorem c_X12_load (l : Launch) (hls : l.stackTraces = false) (G : kG) (hN : kN G = 150) (w : Nat → va_E) (fl : va_W) (u bt g D0 : Nat → Int) (L : Int) (n : Nat) (hL : -2147483648 ≤ L ∧ L ≤ 2147483647) (hnL : n = L.toNat) (h17 : 0 ≤ u 17 ∧ u 17 ≤ 700) (hb : btOK bt) (hm : w 133 = mdO G u) (hn : w 134 = lA G 93 g) (h144 : w 144 = iA G 700 bt) (hd0 : w 135 = lA G 93 D0) : KM l G yX12_load cX12_load 3 (some (FieldType.int)) 8 0 0 [.ref (kad G 133), vI L] w fl (kRt (thR (0 ≤ L ∧ L ≤ u 17) (selI ((txF bt n).1.1 = 0) ((txF bt n).2 2) (-10 - (txF bt n).1.1)) (False) 1 (¬ (0 ≤ L ∧ L ≤ u 17)) 1) fl (fun th w1 => ldO G w w1 u bt n th)) := by
  refine KM_of2 hls (by decide +kernel) rfl (lv0 := [(0, .ref (kad G 133)), (1, vI L)]) rfl (Nat.le_of_ble_eq_true rfl) (fun p e R s m args below meth c Q hC hr hQ => ?_)
  have hn0 := hn
  refine k_aload_n hC dX12_load_0 rfl 0 rfl ?_
  refine k_iconst hC dX12_load_1 ?_
  refine k_put hC fd_X12_74 (kl hN (by decide)) hm [.ref (kad G 134), .ref (kad G 135), .ref (kad G 136), .ref (kad G 137), vI (u 4), vI 0, vI (u 6), .ref (kad G 138), .ref (kad G 139), .ref (kad G 140), .ref (kad G 141), .ref (kad G 142), vL (u 12), vL (u 13), .ref (kad G 143), vI (u 15), .ref (kad G 144), vI (u 17), vI (u 18), vI (u 19), vI (u 20), vI (u 21), vI (u 22), vI (u 23), vI (u 24), vI (u 25), .ref (kad G 145), .ref (kad G 146), .ref (kad G 147), vI (u 29)] rfl (Nat.le_of_ble_eq_true rfl) rfl rfl dX12_load_2 (fun w1 hw1 hf1 => ?_)
  refine k_iload_n hC dX12_load_5 rfl 1 rfl ?_
  refine k_i2l hC dX12_load_6 (by omega) ?_
  refine k_lconst (x := 0) hC dX12_load_7 (by decide) ?_
  refine k_aload_n hC dX12_load_8 rfl 0 rfl ?_
  refine k_get hC fd_X12_362 (kl hN (by decide)) hw1 rfl dX12_load_9 ?_
  refine k_topv (vI (u 17)) rfl ?_
  refine k_i2l hC dX12_load_12 (by omega) ?_
  refine k_pureS hC (c_X12_inRange l hls G hN w1 fl L 0 (u 17) (by omega) (by omega) (by omega)) yy_X12_inRange wm_X12_243 rfl rfl (Nat.le_of_ble_eq_true rfl) (by decide) (by decide) ⟨by decide, by decide⟩ dX12_load_13 ?_
  refine k_topv (vI (if 0 ≤ L ∧ L ≤ u 17 then 1 else 0)) rfl ?_
  obtain ⟨z_2, ez_2, hz_2⟩ := k_bI (0 ≤ L ∧ L ≤ u 17)
  refine k_topv (vI z_2) (by rw [ez_2]) ?_
  refine k_if_ne hC 25 dX12_load_16 rfl (by omega) (fun c_16 => ?_) (fun c_16 => ?_)
  · obtain ⟨n9, en9⟩ : ∃ z : Nat, L = (z : Int) := ⟨L.toNat, by omega⟩
    subst en9
    have en : n = n9 := by omega
    subst en
    have hn7 : n ≤ 700 := by omega
    refine k_iconst hC dX12_load_25 ?_
    refine k_istore_n hC [(2, vI 0), (0, .ref (kad G 133)), (1, vI (n : Int))] dX12_load_26 rfl (by decide) rfl ?_
    have loopz : ∀ (nz : Nat) (k : Nat) (f : Nat → Int) (wvz : Nat → va_E), (93 < nz + k) → (k ≤ 93) → (∀ j, j < k → f j = 0) → (wvz 133 = .inr (12, [.ref (kad G 134), .ref (kad G 135), .ref (kad G 136), .ref (kad G 137), vI (u 4), vI 0, vI (u 6), .ref (kad G 138), .ref (kad G 139), .ref (kad G 140), .ref (kad G 141), .ref (kad G 142), vL (u 12), vL (u 13), .ref (kad G 143), vI (u 15), .ref (kad G 144), vI (u 17), vI (u 18), vI (u 19), vI (u 20), vI (u 21), vI (u 22), vI (u 23), vI (u 24), vI (u 25), .ref (kad G 145), .ref (kad G 146), .ref (kad G 147), vI (u 29)])) → (wvz 134 = lA G 93 g) → (wvz 144 = iA G 700 bt) → (wvz 135 = lA G 93 f) → ((∀ j, (j ≠ 133 ∧ j ≠ 134 ∧ j ≠ 135) → wvz j = w j)) → KW p l e R s m args below meth c 3 G Q wvz fl 0 0 27 [(2, vI (k : Int)), (0, .ref (kad G 133)), (1, vI (n : Int))] [] := by
      intro nz
      induction nz with
      | zero =>
        intro k f wvz hn_z hk hf0 hm5 hn h144 hd5 hfrz
        exact absurd hn_z (by omega)
      | succ nz ihz =>
        intro k f wvz hn_z hk hf0 hm5 hn h144 hd5 hfrz
        refine k_iload_n hC dX12_load_27 rfl 0 rfl ?_
        refine k_bipush hC dX12_load_28 (by decide) ?_
        refine k_icmp_ge hC 46 dX12_load_30 rfl (by omega) (by omega) (fun c_30 => ?_) (fun c_30 => ?_)
        · refine k_aload_n hC dX12_load_46 rfl 1 rfl ?_
          refine k_iload_n hC dX12_load_47 rfl 2 rfl ?_
          refine k_muvV hC (c_X12_startText l hls G hN wvz fl (kup u 5 0) bt n hn7 hb hm5 h144) yy_X12_startText wm_X12_474 (kl hN (by decide)) hm5 rfl rfl rfl rfl (Nat.le_of_ble_eq_true rfl) (by decide) (by decide) ⟨by decide, by decide⟩ dX12_load_48 (fun w3 hp3 => ?_)
          obtain ⟨⟨u3, hu3, hK3, hu25, hus⟩, hf3⟩ := hp3
          have h_4 : w3 135 = lA G 93 f := (hf3 135 (by decide)).trans hd5
          have hdz : w3 135 = lA G 93 (fun _ => 0) := h_4.trans (lA_congr (fun j hj => hf0 j (by omega)))
          have loopw : ∀ (nw : Nat) (kk : Nat) (st : PS) (D : Nat → Int) (D1 : Nat → Int) (u1 : Nat → Int) (wvw : Nat → va_E), (n < nw + kk) → (kk ≤ n) → ((st, D) = txN bt n kk (tx0 bt n, fun _ => 0)) → (st.1 = 0 → kk ≤ st.2.2 ∧ st.2.2 ≤ n) → (st.1 = 0 → lA G 93 D1 = lA G 93 D ∧ Inv D ∧ NmB D) → (mkR u1 bt n st) → (∀ j, (j < 18 ∨ (23 < j ∧ j ≠ 25)) → u1 j = kup u 5 0 j) → (wvw 133 = .inr (12, [.ref (kad G 134), .ref (kad G 135), .ref (kad G 136), .ref (kad G 137), vI (u1 4), vI (u1 5), vI (u1 6), .ref (kad G 138), .ref (kad G 139), .ref (kad G 140), .ref (kad G 141), .ref (kad G 142), vL (u1 12), vL (u1 13), .ref (kad G 143), vI (u1 15), .ref (kad G 144), vI (u1 17), vI (u1 18), vI (u1 19), vI (u1 20), vI (u1 21), vI (u1 22), vI (u1 23), vI (u1 24), vI (u1 25), .ref (kad G 145), .ref (kad G 146), .ref (kad G 147), vI (u1 29)])) → (wvw 134 = lA G 93 g) → (wvw 144 = iA G 700 bt) → (wvw 135 = lA G 93 D1) → ((∀ j, (j ≠ 133 ∧ j ≠ 134 ∧ j ≠ 135) → wvw j = w j)) → KW p l e R s m args below meth c 3 G Q wvw fl 0 0 51 [(2, vI (k : Int)), (0, .ref (kad G 133)), (1, vI (n : Int))] [] := by
            intro nw
            induction nw with
            | zero =>
              intro kk st D D1 u1 wvw hn_w hk9 hx hpos hdd hKv husv hm1 hn h144 hd1 hfrw
              exact absurd hn_w (by omega)
            | succ nw ihw =>
              intro kk st D D1 u1 wvw hn_w hk9 hx hpos hdd hKv husv hm1 hn h144 hd1 hfrw
              have h18v := hKv.1
              have h22v := hKv.2.1
              have hrgv := hKv.2.2.1
              have hcbv := hKv.cb
              refine k_aload_n hC dX12_load_51 rfl 1 rfl ?_
              refine k_get hC fd_X12_386 (kl hN (by decide)) hm1 rfl dX12_load_52 ?_
              refine k_if_ne hC 72 dX12_load_55 rfl (by omega) (fun c_55 => ?_) (fun c_55 => ?_)
              · have hng : ¬ goP bt n st := fun q => by have q1 := q.1; omega
                refine k_aload_n hC dX12_load_72 rfl 1 rfl ?_
                refine k_mutV hC (c_X12_finish l hls G hN wvw fl u1 bt n st hn7 hb hm1 h144 hKv) yy_X12_finish wm_X12_480 (kl hN (by decide)) hm1 rfl rfl rfl rfl (Nat.le_of_ble_eq_true rfl) (by decide) (by decide) ⟨by decide, by decide⟩ dX12_load_73 (fun w5 hp5 => ?_)
                obtain ⟨hu5, hf5⟩ := hp5
                have hfin := txF_eq hn7 hx hng
                have ef1 : st = (txF bt n).1 := congrArg Prod.fst hfin
                have ef2 : D = (txF bt n).2 := congrArg Prod.snd hfin
                refine k_if_eq hC 87 dX12_load_76 rfl (by omega) (fun c_76 => ?_) (fun c_76 => ?_)
                · have hz9 : st.1 = 0 := by omega
                  have h_6 : w5 135 = lA G 93 D1 := (hf5 135 (by decide)).trans hd1
                  have h135f_7 : w5 135 = lA G 93 D := h_6.trans (hdd hz9).1
                  refine k_aload_n hC dX12_load_87 rfl 1 rfl ?_
                  refine k_get hC fd_X12_13 (kl hN (by decide)) hu5 rfl dX12_load_88 ?_
                  refine k_iconst hC dX12_load_91 ?_
                  refine k_aload_n hC dX12_load_92 rfl 1 rfl ?_
                  refine k_get hC fd_X12_9 (kl hN (by decide)) hu5 rfl dX12_load_93 ?_
                  refine k_iconst hC dX12_load_96 ?_
                  have h_8 : w5 134 = lA G 93 g := (hf5 134 (by decide)).trans hn
                  refine k_muvS hC (c_X12_copy l hls G hN w5 fl 135 134 93 93 0 0 D g (by decide) (by decide) (by decide) (by decide) (by decide) (by omega) (by omega) h135f_7 h_8) yy_X12_copy wm_X12_354 rfl rfl (Nat.le_of_ble_eq_true rfl) (by decide) (by decide) ⟨by decide, by decide⟩ dX12_load_97 (fun w9 hp9 => ?_)
                  obtain ⟨hr9, hf9⟩ := hp9
                  refine k_aload_n hC dX12_load_100 rfl 1 rfl ?_
                  refine k_iconst hC dX12_load_101 ?_
                  have h_10 : w9 133 = .inr (12, [.ref (kad G 134), .ref (kad G 135), .ref (kad G 136), .ref (kad G 137), vI (u1 4), vI (u1 5), vI (u1 6), .ref (kad G 138), .ref (kad G 139), .ref (kad G 140), .ref (kad G 141), .ref (kad G 142), vL (u1 12), vL (u1 13), .ref (kad G 143), vI (u1 15), .ref (kad G 144), vI 0, vI (u1 18), vI (u1 19), vI (u1 20), vI (u1 21), vI (u1 22), vI (u1 23), vI (selI (st.1 = 0) (-1) st.2.1), vI (u1 25), .ref (kad G 145), .ref (kad G 146), .ref (kad G 147), vI (u1 29)]) := (hf9 133 (by decide)).trans hu5
                  refine k_put hC fd_X12_351 (kl hN (by decide)) h_10 [.ref (kad G 134), .ref (kad G 135), .ref (kad G 136), .ref (kad G 137), vI 0, vI (u1 5), vI (u1 6), .ref (kad G 138), .ref (kad G 139), .ref (kad G 140), .ref (kad G 141), .ref (kad G 142), vL (u1 12), vL (u1 13), .ref (kad G 143), vI (u1 15), .ref (kad G 144), vI 0, vI (u1 18), vI (u1 19), vI (u1 20), vI (u1 21), vI (u1 22), vI (u1 23), vI (selI (st.1 = 0) (-1) st.2.1), vI (u1 25), .ref (kad G 145), .ref (kad G 146), .ref (kad G 147), vI (u1 29)] rfl (Nat.le_of_ble_eq_true rfl) rfl rfl dX12_load_102 (fun w11 hw11 hf11 => ?_)
                  refine k_aload_n hC dX12_load_105 rfl 1 rfl ?_
                  refine k_iconst hC dX12_load_106 ?_
                  refine k_put hC fd_X12_358 (kl hN (by decide)) hw11 [.ref (kad G 134), .ref (kad G 135), .ref (kad G 136), .ref (kad G 137), vI 0, vI (u1 5), vI 0, .ref (kad G 138), .ref (kad G 139), .ref (kad G 140), .ref (kad G 141), .ref (kad G 142), vL (u1 12), vL (u1 13), .ref (kad G 143), vI (u1 15), .ref (kad G 144), vI 0, vI (u1 18), vI (u1 19), vI (u1 20), vI (u1 21), vI (u1 22), vI (u1 23), vI (selI (st.1 = 0) (-1) st.2.1), vI (u1 25), .ref (kad G 145), .ref (kad G 146), .ref (kad G 147), vI (u1 29)] rfl (Nat.le_of_ble_eq_true rfl) rfl rfl dX12_load_107 (fun w12 hw12 hf12 => ?_)
                  refine k_aload_n hC dX12_load_110 rfl 1 rfl ?_
                  refine k_get hC fd_X12_9 (kl hN (by decide)) hw12 rfl dX12_load_111 ?_
                  refine k_iconst hC dX12_load_114 ?_
                  have h_13 : w12 134 = lA G 93 (cpR D g 0 0) := (hf12 134 (by decide)).trans ((hf11 134 (by decide)).trans hr9)
                  refine k_lald hC (kl hN (by decide)) h_13 (by omega) (by decide) dX12_load_115 ?_
                  refine k_topv (vL ((cpR D g 0 0) (2 : Nat))) rfl ?_
                  refine k_l2i hC dX12_load_116 ?_
                  have h_14 : w12 135 = lA G 93 D := (hf12 135 (by decide)).trans ((hf11 135 (by decide)).trans ((hf9 135 (by decide)).trans h135f_7))
                  subst hQ
                  exact k_iret hC hr ⟨by decide, by decide⟩ (⟨_, 0, rfl, rfl, Or.inl ⟨by omega, rfl, (by rw [← ef1, selI_1 hz9, ← ef2]; rfl)⟩, Or.inr ⟨rfl, ⟨(kup (kup (kup (kup u1 17 0) 24 (selI (st.1 = 0) (-1) st.2.1)) 4 0) 6 0), hw12, ⟨(husv 5 (by omega)), (husv 15 (by omega)), rfl, (by rw [← ef1]; rfl)⟩, Or.inr ⟨(by rw [← ef1]; exact hz9), rfl, rfl, h_13.trans (lA_congr (fun j hj => by rw [← ef2]; unfold cpR; rw [if_pos (by omega)]; exact congrArg D (by omega)))⟩⟩, ⟨_, h_14⟩, fun j hj => (hf12 j (by omega)).trans ((hf11 j (by omega)).trans ((hf9 j (by omega)).trans ((hf5 j (by omega)).trans (hfrw j (by omega)))))⟩⟩) dX12_load_117
                · have hz9 : ¬ st.1 = 0 := by omega
                  refine k_bipush hC dX12_load_79 (by decide) ?_
                  refine k_aload_n hC dX12_load_81 rfl 1 rfl ?_
                  refine k_get hC fd_X12_386 (kl hN (by decide)) hu5 rfl dX12_load_82 ?_
                  refine k_topv (vI (u1 22)) rfl ?_
                  refine k_isub hC dX12_load_85 ?_
                  have h_15 : w5 135 = lA G 93 D1 := (hf5 135 (by decide)).trans hd1
                  have h_16 : w5 134 = lA G 93 g := (hf5 134 (by decide)).trans hn
                  subst hQ
                  exact k_iret hC hr ⟨by decide, by decide⟩ (⟨_, 0, rfl, rfl, Or.inl ⟨by omega, rfl, (by rw [← ef1, selI_0 hz9]; omega)⟩, Or.inr ⟨rfl, ⟨(kup (kup u1 17 0) 24 (selI (st.1 = 0) (-1) st.2.1)), hu5, ⟨(husv 5 (by omega)), (husv 15 (by omega)), rfl, (by rw [← ef1]; rfl)⟩, Or.inl ⟨(by rw [← ef1]; exact hz9), (husv 4 (by omega)), (husv 6 (by omega)), h_16.trans hn0.symm⟩⟩, ⟨_, h_15⟩, fun j hj => (hf5 j (by omega)).trans (hfrw j (by omega))⟩⟩) dX12_load_86
              · have hzzv : st.1 = 0 := by omega
                have hq0v := hKv.2.2.2.1 hzzv
                have henv := enM_b (bt := bt) hq0v.2.2.2
                obtain ⟨hDe, hI, hNb⟩ := hdd hzzv
                have h135v_17 : wvw 135 = lA G 93 D := hd1.trans hDe
                refine k_aload_n hC dX12_load_58 rfl 1 rfl ?_
                refine k_get hC fd_X12_377 (kl hN (by decide)) hm1 rfl dX12_load_59 ?_
                refine k_if_eq hC 72 dX12_load_62 rfl (by omega) (fun c_62 => ?_) (fun c_62 => ?_)
                · have hng : ¬ goP bt n st := fun q => by have q1 := q.2; omega
                  refine k_aload_n hC dX12_load_72 rfl 1 rfl ?_
                  refine k_mutV hC (c_X12_finish l hls G hN wvw fl u1 bt n st hn7 hb hm1 h144 hKv) yy_X12_finish wm_X12_480 (kl hN (by decide)) hm1 rfl rfl rfl rfl (Nat.le_of_ble_eq_true rfl) (by decide) (by decide) ⟨by decide, by decide⟩ dX12_load_73 (fun w18 hp18 => ?_)
                  obtain ⟨hu18, hf18⟩ := hp18
                  have hfin := txF_eq hn7 hx hng
                  have ef1 : st = (txF bt n).1 := congrArg Prod.fst hfin
                  have ef2 : D = (txF bt n).2 := congrArg Prod.snd hfin
                  refine k_if_eq hC 87 dX12_load_76 rfl (by omega) (fun c_76 => ?_) (fun c_76 => ?_)
                  · have hz9 : st.1 = 0 := by omega
                    have h_19 : w18 135 = lA G 93 D := (hf18 135 (by decide)).trans h135v_17
                    refine k_aload_n hC dX12_load_87 rfl 1 rfl ?_
                    refine k_get hC fd_X12_13 (kl hN (by decide)) hu18 rfl dX12_load_88 ?_
                    refine k_iconst hC dX12_load_91 ?_
                    refine k_aload_n hC dX12_load_92 rfl 1 rfl ?_
                    refine k_get hC fd_X12_9 (kl hN (by decide)) hu18 rfl dX12_load_93 ?_
                    refine k_iconst hC dX12_load_96 ?_
                    have h_21 : w18 134 = lA G 93 g := (hf18 134 (by decide)).trans hn
                    refine k_muvS hC (c_X12_copy l hls G hN w18 fl 135 134 93 93 0 0 D g (by decide) (by decide) (by decide) (by decide) (by decide) (by omega) (by omega) h_19 h_21) yy_X12_copy wm_X12_354 rfl rfl (Nat.le_of_ble_eq_true rfl) (by decide) (by decide) ⟨by decide, by decide⟩ dX12_load_97 (fun w22 hp22 => ?_)
                    obtain ⟨hr22, hf22⟩ := hp22
                    refine k_aload_n hC dX12_load_100 rfl 1 rfl ?_
                    refine k_iconst hC dX12_load_101 ?_
                    have h_23 : w22 133 = .inr (12, [.ref (kad G 134), .ref (kad G 135), .ref (kad G 136), .ref (kad G 137), vI (u1 4), vI (u1 5), vI (u1 6), .ref (kad G 138), .ref (kad G 139), .ref (kad G 140), .ref (kad G 141), .ref (kad G 142), vL (u1 12), vL (u1 13), .ref (kad G 143), vI (u1 15), .ref (kad G 144), vI 0, vI (u1 18), vI (u1 19), vI (u1 20), vI (u1 21), vI (u1 22), vI (u1 23), vI (selI (st.1 = 0) (-1) st.2.1), vI (u1 25), .ref (kad G 145), .ref (kad G 146), .ref (kad G 147), vI (u1 29)]) := (hf22 133 (by decide)).trans hu18
                    refine k_put hC fd_X12_351 (kl hN (by decide)) h_23 [.ref (kad G 134), .ref (kad G 135), .ref (kad G 136), .ref (kad G 137), vI 0, vI (u1 5), vI (u1 6), .ref (kad G 138), .ref (kad G 139), .ref (kad G 140), .ref (kad G 141), .ref (kad G 142), vL (u1 12), vL (u1 13), .ref (kad G 143), vI (u1 15), .ref (kad G 144), vI 0, vI (u1 18), vI (u1 19), vI (u1 20), vI (u1 21), vI (u1 22), vI (u1 23), vI (selI (st.1 = 0) (-1) st.2.1), vI (u1 25), .ref (kad G 145), .ref (kad G 146), .ref (kad G 147), vI (u1 29)] rfl (Nat.le_of_ble_eq_true rfl) rfl rfl dX12_load_102 (fun w24 hw24 hf24 => ?_)
                    refine k_aload_n hC dX12_load_105 rfl 1 rfl ?_
                    refine k_iconst hC dX12_load_106 ?_
                    refine k_put hC fd_X12_358 (kl hN (by decide)) hw24 [.ref (kad G 134), .ref (kad G 135), .ref (kad G 136), .ref (kad G 137), vI 0, vI (u1 5), vI 0, .ref (kad G 138), .ref (kad G 139), .ref (kad G 140), .ref (kad G 141), .ref (kad G 142), vL (u1 12), vL (u1 13), .ref (kad G 143), vI (u1 15), .ref (kad G 144), vI 0, vI (u1 18), vI (u1 19), vI (u1 20), vI (u1 21), vI (u1 22), vI (u1 23), vI (selI (st.1 = 0) (-1) st.2.1), vI (u1 25), .ref (kad G 145), .ref (kad G 146), .ref (kad G 147), vI (u1 29)] rfl (Nat.le_of_ble_eq_true rfl) rfl rfl dX12_load_107 (fun w25 hw25 hf25 => ?_)
                    refine k_aload_n hC dX12_load_110 rfl 1 rfl ?_
                    refine k_get hC fd_X12_9 (kl hN (by decide)) hw25 rfl dX12_load_111 ?_
                    refine k_iconst hC dX12_load_114 ?_
                    have h_26 : w25 134 = lA G 93 (cpR D g 0 0) := (hf25 134 (by decide)).trans ((hf24 134 (by decide)).trans hr22)
                    refine k_lald hC (kl hN (by decide)) h_26 (by omega) (by decide) dX12_load_115 ?_
                    refine k_topv (vL ((cpR D g 0 0) (2 : Nat))) rfl ?_
                    refine k_l2i hC dX12_load_116 ?_
                    have h_27 : w25 135 = lA G 93 D := (hf25 135 (by decide)).trans ((hf24 135 (by decide)).trans ((hf22 135 (by decide)).trans h_19))
                    subst hQ
                    exact k_iret hC hr ⟨by decide, by decide⟩ (⟨_, 0, rfl, rfl, Or.inl ⟨by omega, rfl, (by rw [← ef1, selI_1 hz9, ← ef2]; rfl)⟩, Or.inr ⟨rfl, ⟨(kup (kup (kup (kup u1 17 0) 24 (selI (st.1 = 0) (-1) st.2.1)) 4 0) 6 0), hw25, ⟨(husv 5 (by omega)), (husv 15 (by omega)), rfl, (by rw [← ef1]; rfl)⟩, Or.inr ⟨(by rw [← ef1]; exact hz9), rfl, rfl, h_26.trans (lA_congr (fun j hj => by rw [← ef2]; unfold cpR; rw [if_pos (by omega)]; exact congrArg D (by omega)))⟩⟩, ⟨_, h_27⟩, fun j hj => (hf25 j (by omega)).trans ((hf24 j (by omega)).trans ((hf22 j (by omega)).trans ((hf18 j (by omega)).trans (hfrw j (by omega)))))⟩⟩) dX12_load_117
                  · have hz9 : ¬ st.1 = 0 := by omega
                    refine k_bipush hC dX12_load_79 (by decide) ?_
                    refine k_aload_n hC dX12_load_81 rfl 1 rfl ?_
                    refine k_get hC fd_X12_386 (kl hN (by decide)) hu18 rfl dX12_load_82 ?_
                    refine k_topv (vI (u1 22)) rfl ?_
                    refine k_isub hC dX12_load_85 ?_
                    have h_28 : w18 135 = lA G 93 D := (hf18 135 (by decide)).trans h135v_17
                    have h_29 : w18 134 = lA G 93 g := (hf18 134 (by decide)).trans hn
                    subst hQ
                    exact k_iret hC hr ⟨by decide, by decide⟩ (⟨_, 0, rfl, rfl, Or.inl ⟨by omega, rfl, (by rw [← ef1, selI_0 hz9]; omega)⟩, Or.inr ⟨rfl, ⟨(kup (kup u1 17 0) 24 (selI (st.1 = 0) (-1) st.2.1)), hu18, ⟨(husv 5 (by omega)), (husv 15 (by omega)), rfl, (by rw [← ef1]; rfl)⟩, Or.inl ⟨(by rw [← ef1]; exact hz9), (husv 4 (by omega)), (husv 6 (by omega)), h_29.trans hn0.symm⟩⟩, ⟨_, h_28⟩, fun j hj => (hf18 j (by omega)).trans (hfrw j (by omega))⟩⟩) dX12_load_86
                · have hgo : goP bt n st := ⟨hzzv, by omega⟩
                  have hlt : st.2.2 < n := by rcases kd_c bt n st.2.2 with ⟨e, -⟩ | ⟨-, e, -⟩ | ⟨-, e, -⟩ | ⟨-, e, -⟩; exact absurd e hgo.2; exact e; exact e; exact e
                  have hp9 := hpos hzzv
                  refine k_aload_n hC dX12_load_65 rfl 1 rfl ?_
                  refine k_muvV hC (c_X12_readClause l hls G hN wvw fl u1 bt n st D (by omega) hI hNb hn7 hb hm1 h144 hKv h135v_17) yy_X12_readClause wm_X12_477 (kl hN (by decide)) hm1 rfl rfl rfl rfl (Nat.le_of_ble_eq_true rfl) (by decide) (by decide) ⟨by decide, by decide⟩ dX12_load_66 (fun w30 hp30 => ?_)
                  obtain ⟨hT30, ⟨⟨D30, hD30⟩, hDc30⟩, hf30⟩ := hp30
                  obtain ⟨u30, hu30, hKr30, hs30⟩ := hT30
                  obtain ⟨st_31, est_31⟩ : ∃ z : PS, z = clS bt n D st := ⟨_, rfl⟩
                  rw [← est_31] at hKr30
                  have h18r30 := hKr30.1
                  have h22r30 := hKr30.2.1
                  have hrgr30 := hKr30.2.2.1
                  have hcbr30 := hKr30.cb
                  refine k_goto hC 51 dX12_load_69 rfl ?_
                  have h_32 : w30 134 = lA G 93 g := (hf30 134 (by decide)).trans hn
                  have h_33 : w30 144 = iA G 700 bt := (hf30 144 (by decide)).trans h144
                  exact ihw (kk + 1) st_31 (clD bt n D st) D30 u30 w30 (by omega) (by omega) (by rw [txN_go kk _ (by rw [← hx]; exact hgo), ← hx, est_31]) (fun q => by have := cl_ok (D := D) (st := st) (fun z => (hpos z).2) (by rw [← est_31]; exact q); have := (hpos hzzv).1; rw [est_31]; omega) (fun q => by have q2 : (clS bt n D st).1 = 0 := (by rw [← est_31]; exact q); exact ⟨hD30.symm.trans (hDc30 q2), cl_inv hI (cl_c0 q2), cl_nmB hI hNb (cl_c0 q2)⟩) hKr30 (fun j hj => ((uS.tr (fun j _ => rfl) hs30) j (by omega)).trans (husv j hj)) hu30 h_32 h_33 hD30 (fun j hj => (hf30 j (by omega)).trans (hfrw j (by omega)))
          have h_34 : w3 134 = lA G 93 g := (hf3 134 (by decide)).trans hn
          have h_35 : w3 144 = iA G 700 bt := (hf3 144 (by decide)).trans h144
          exact loopw (n + 1) 0 (tx0 bt n) (fun _ => 0) (fun _ => 0) u3 w3 (by omega) (by omega) rfl (fun _ => ⟨Nat.zero_le _, (skM_b (by omega)).2⟩) (fun _ => ⟨rfl, Inv0, fun k hk => absurd hk (by show ¬ (k : Int) < 0; omega)⟩) hK3 (fun j hj => hus j hj) hu3 h_34 h_35 hdz (fun j hj => (hf3 j (by omega)).trans (hfrz j (by omega)))
        · refine k_aload_n hC dX12_load_33 rfl 1 rfl ?_
          refine k_get hC fd_X12_13 (kl hN (by decide)) hm5 rfl dX12_load_34 ?_
          refine k_iload_n hC dX12_load_37 rfl 0 rfl ?_
          refine k_lconst (x := 0) hC dX12_load_38 (by decide) ?_
          refine k_last hC (kl hN (by decide)) hd5 (by omega) (by decide) dX12_load_39 (fun w36 hw36 hf36 => ?_)
          refine k_iinc hC (y := (k : Int) + 1) [(2, vI ((k : Int) + 1)), (0, .ref (kad G 133)), (1, vI (n : Int))] (j := 0) dX12_load_40 rfl (by omega) (by decide) rfl ?_
          refine k_goto hC 27 dX12_load_43 rfl ?_
          refine k_lvs (ls := [0, 1, 2]) [(2, vI ((k + 1 : Nat) : Int)), (0, .ref (kad G 133)), (1, vI (n : Int))] (by simp only [lv_pick]; rfl) ?_
          have h_37 : w36 133 = .inr (12, [.ref (kad G 134), .ref (kad G 135), .ref (kad G 136), .ref (kad G 137), vI (u 4), vI 0, vI (u 6), .ref (kad G 138), .ref (kad G 139), .ref (kad G 140), .ref (kad G 141), .ref (kad G 142), vL (u 12), vL (u 13), .ref (kad G 143), vI (u 15), .ref (kad G 144), vI (u 17), vI (u 18), vI (u 19), vI (u 20), vI (u 21), vI (u 22), vI (u 23), vI (u 24), vI (u 25), .ref (kad G 145), .ref (kad G 146), .ref (kad G 147), vI (u 29)]) := (hf36 133 (by decide)).trans hm5
          have h_38 : w36 134 = lA G 93 g := (hf36 134 (by decide)).trans hn
          have h_39 : w36 144 = iA G 700 bt := (hf36 144 (by decide)).trans h144
          exact ihz (k + 1) (kup f ((k : Int)).toNat 0) w36 (by omega) (by omega) (fun j hj => by unfold kup; by_cases e : j = k; (rw [if_pos (by omega)]); (rw [if_neg (by omega)]; exact hf0 j (by omega))) h_37 h_38 h_39 hw36 (fun j hj => (hf36 j (by omega)).trans (hfrz j (by omega)))
    refine k_lvs (ls := [0, 1, 2]) [(2, vI ((0 : Nat) : Int)), (0, .ref (kad G 133)), (1, vI (n : Int))] (by simp only [lv_pick]; rfl) ?_
    have h_40 : w1 134 = lA G 93 g := (hf1 134 (by decide)).trans hn
    have h_41 : w1 144 = iA G 700 bt := (hf1 144 (by decide)).trans h144
    have h_42 : w1 135 = lA G 93 D0 := (hf1 135 (by decide)).trans hd0
    exact loopz 94 0 D0 w1 (by omega) (by omega) (fun j hj => absurd hj (by omega)) hw1 h_40 h_41 h_42 (fun j hj => hf1 j (by omega))
  · refine k_aload_n hC dX12_load_19 rfl 0 rfl ?_
    refine k_iconst hC dX12_load_20 ?_
    refine k_mutV hC (c_X12_raise l hls G hN w1 fl (kup u 5 0) 1 hw1) yy_X12_raise wm_X12_247 (kl hN (by decide)) hw1 rfl rfl rfl rfl (Nat.le_of_ble_eq_true rfl) (by decide) (by decide) ⟨by decide, by decide⟩ dX12_load_21 (fun w43 hp43 => ?_)
    obtain ⟨hu43, hf43⟩ := hp43
    subst hQ
    exact k_iret hC hr ⟨by decide, by decide⟩ (⟨_, 1, rfl, rfl, Or.inr (Or.inr ⟨by omega, rfl⟩), Or.inl ⟨by decide, hu43, fun j hj => (hf43 j (by omega)).trans (hf1 j (by omega))⟩⟩) dX12_load_24

