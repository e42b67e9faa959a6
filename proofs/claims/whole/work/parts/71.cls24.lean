set_option maxRecDepth 100000 in
set_option maxHeartbeats 4000000 in
theorem lw_observe {p : Program} {l : Launch} {e : Env} {R : Room} {s : State} {m : MethodId} {args : Array Value} {below : List Frame} {meth : Method} {c : Code} {G : kG} {d0 mc0 ms0 : Nat} {Q : State → Prop} {b L : Nat} {xs : Nat → Int32} (hC : kC p l R s m args meth c cL_law RL 10 G d0 mc0 ms0) (hls : l.stackTraces = false) (hN : kN G = 150) (hNc : va_Nc "java/lang/IllegalArgumentException" "java/util/NoSuchElementException" s) (hX : va_X b L xs s s.heap) (hbl : b < s.heap.size) (hbA : ¬ kA G b) (hL : L ≤ 3584) (hd0 : 60 ≤ d0) {cs ss : Nat} (hcs : cs + 16 ≤ mc0 ∧ ss + 400 ≤ ms0) (i : Nat) (hi : i + 7 ≤ L) (w : Nat → va_E) (fl : va_W) (hLI : LI G w fl)
    (kk : ∀ (w' : Nat → va_E) (fl' : va_W) (cs' ss' : Nat), LI G w' fl' → cs' ≤ cs + 16 → ss' ≤ ss + 400 → KW p l e R s m args below meth c 10 G Q w' fl' cs' ss' 2319 [(5, vI (i : Int)), (4, .ref (kad G 149)), (3, .ref (kad G 148)), (2, .ref (kad G 133)), (1, .ref (kad G 0)), (0, .ref b)] []) : KW p l e R s m args below meth c 10 G Q w fl cs ss 1780 [(5, vI (i : Int)), (4, .ref (kad G 149)), (3, .ref (kad G 148)), (2, .ref (kad G 133)), (1, .ref (kad G 0)), (0, .ref b)] [] := by
  obtain ⟨bt, gc, nl, gp0, nl9, gl0, gs, c0, nx, cn, cap, cd, ea, kd, nm, sa, nx9, en, sv, hs, T, u, gr, D0, sp, H, hc, hm, ho, hr, hw, hT⟩ := hLI
  have hc1 := hc
  have hm1 := hm
  have hr1 := hr
  have ho1 := ho
  obtain ⟨⟨a0, asv⟩, a1, ⟨a2, abt, ac7⟩, a3, a4, a5, a6, ⟨a7, anx, acn⟩, ⟨a8, a9, a10⟩, ⟨a11, a12, a13⟩, a14⟩ := hc1
  obtain ⟨b0, b1, b2, b3, b4, b5, b6, b7, ⟨cf, b8⟩, ⟨fq, b9⟩⟩ := hm1
  obtain ⟨⟨out, o1⟩, ⟨oD, o2⟩⟩ := ho1
  obtain ⟨r0, r1, r2, r3, r4, r5, r6⟩ := hr1
  have hI := r0.inv
  have hIr := r0.2.1
  have hE := r0.1
  have e0 := hE.n 0 (by decide)
  have e1 := hE.n 1 (by decide)
  have e2 := hE.n 2 (by decide)
  have hgc := hI.c
  refine k_aload_n hC dL_law_1780 rfl 4 rfl ?_
  refine k_aload_n hC dL_law_1781 rfl 5 rfl ?_
  refine k_iload hC dL_law_1782 0 rfl ?_
  refine k_iconst hC dL_law_1784 ?_
  refine k_iadd hC dL_law_1785 ?_
  refine k_scr hC hX hbl hbA hL (i + 1) (by omega) (by omega) dL_law_1786 ?_
  refine k_aload_n hC dL_law_1787 rfl 5 rfl ?_
  refine k_iload hC dL_law_1788 0 rfl ?_
  refine k_iconst hC dL_law_1790 ?_
  refine k_iadd hC dL_law_1791 ?_
  refine k_scr hC hX hbl hbA hL (i + 2) (by omega) (by omega) dL_law_1792 ?_
  refine k_aload_n hC dL_law_1793 rfl 5 rfl ?_
  refine k_iload hC dL_law_1794 0 rfl ?_
  refine k_iconst hC dL_law_1796 ?_
  refine k_iadd hC dL_law_1797 ?_
  refine k_scr hC hX hbl hbA hL (i + 3) (by omega) (by omega) dL_law_1798 ?_
  refine k_aload_n hC dL_law_1799 rfl 2 rfl ?_
  refine k_callL hC hNc (n := 5) (c_L_observe l hls G hN w fl gc nl sv hs nx (cn : Int) (xI xs (i + 1)) (xI xs (i + 2)) (xI xs (i + 3)) out (xI_r xs _) (xI_r xs _) (xI_r xs _) anx (by omega) a7 hI a0 a3 a4 a5 o1) wc_L_observe wz_L (by decide +kernel) wt_L_observe wm_L_190 rfl rfl (Nat.le_of_ble_eq_true rfl) (by omega) (by omega) ⟨by omega, by omega⟩ dL_law_1800 (fun v1 w1 fl1 hp => ?_)
  rcases hp with ⟨hv, hcc, w2, hP, h148, hf2⟩ | ⟨hP, ⟨hcc, hv⟩ | ⟨hcc, hv⟩⟩
  · subst hv
    obtain ⟨hfl, hP⟩ := hP
    subst hfl
    rcases hP with ⟨hno, hw2⟩ | ⟨hyes, hlg, hhi, hfP⟩
    · show KW p l e R s m args below meth c 10 G Q w1 fl (cs + 8) (ss + 48) 1803 [(5, vI (i : Int)), (4, .ref (kad G 149)), (3, .ref (kad G 148)), (2, .ref (kad G 133)), (1, .ref (kad G 0)), (0, .ref b)] [vI 0]
      refine k_istore hC [(6, vI 0), (5, vI (i : Int)), (4, .ref (kad G 149)), (3, .ref (kad G 148)), (2, .ref (kad G 133)), (1, .ref (kad G 0)), (0, .ref b)] dL_law_1803 (by decide) rfl ?_
      refine k_aload_n hC dL_law_1805 rfl 4 rfl ?_
      refine k_aload_n hC dL_law_1806 rfl 6 rfl ?_
      refine k_iload hC dL_law_1807 1 rfl ?_
      refine k_iconst hC dL_law_1809 ?_
      refine k_iadd hC dL_law_1810 ?_
      refine k_scr hC hX hbl hbA hL (i + 1) (by omega) (by omega) dL_law_1811 ?_
      refine k_aload_n hC dL_law_1812 rfl 6 rfl ?_
      refine k_iload hC dL_law_1813 1 rfl ?_
      refine k_iconst hC dL_law_1815 ?_
      refine k_iadd hC dL_law_1816 ?_
      refine k_scr hC hX hbl hbA hL (i + 2) (by omega) (by omega) dL_law_1817 ?_
      refine k_aload_n hC dL_law_1818 rfl 6 rfl ?_
      refine k_iload hC dL_law_1819 1 rfl ?_
      refine k_iconst hC dL_law_1821 ?_
      refine k_iadd hC dL_law_1822 ?_
      refine k_scr hC hX hbl hbA hL (i + 3) (by omega) (by omega) dL_law_1823 ?_
      have h_1 : w1 133 = mdO G u := (hf2 133 (by decide)).trans ((congrFun hw2 133).trans b0)
      have h_2 : w1 134 = lA G 93 gr := (hf2 134 (by decide)).trans ((congrFun hw2 134).trans b1)
      have h_3 : w1 137 = lA G 930 H := (hf2 137 (by decide)).trans ((congrFun hw2 137).trans b4)
      refine k_callV hC (c_X12_observe l hls G hN w1 fl u gr H cn (xI xs (i + 1)) (xI xs (i + 2)) (xI xs (i + 3)) (xI_r xs _) (xI_r xs _) (xI_r xs _) hIr r3 acn h_1 h_2 h_3) yy_X12_observe wm_L_193 (kl hN (by decide)) h_1 rfl rfl rfl rfl (Nat.le_of_ble_eq_true rfl) (by omega) (by omega) ⟨by omega, by omega⟩ dL_law_1824 (fun v3 w3 fl3 hp3 => ?_)
      obtain ⟨b3, th3, hv3, hfl3, hR3, hP3⟩ := hp3
      subst hv3
      subst hfl3
      rcases hR3 with ⟨q1, q2, q3⟩ | ⟨q1, q2⟩ | ⟨q1, q2⟩
      · subst q2
        rcases hP3 with ⟨hn3, hm3, hf3⟩ | ⟨hy3, hm3, hg3, hH3, hf3⟩
        · show KW p l e R s m args below meth c 10 G Q w3 fl (cs + 8) (ss + 48) 1827 [(6, vI 0), (5, vI (i : Int)), (4, .ref (kad G 149)), (3, .ref (kad G 148)), (2, .ref (kad G 133)), (1, .ref (kad G 0)), (0, .ref b)] [vI b3]
          refine k_istore hC [(7, vI b3), (6, vI 0), (5, vI (i : Int)), (4, .ref (kad G 149)), (3, .ref (kad G 148)), (2, .ref (kad G 133)), (1, .ref (kad G 0)), (0, .ref b)] dL_law_1827 (by decide) rfl ?_
          refine k_aload_n hC dL_law_1829 rfl 5 rfl ?_
          refine k_pureV hC (c_X12_thrown l hls G hN w3 fl (kup u 5 0) hm3) yy_X12_thrown wm_L_113 (kl hN (by decide)) hm3 rfl rfl rfl rfl (Nat.le_of_ble_eq_true rfl) (by omega) (by omega) ⟨by omega, by omega⟩ dL_law_1830 ?_
          refine k_topv (vI 0) rfl ?_
          refine k_iload hC dL_law_1833 1 rfl ?_
          refine k_icmp_eq hC 1840 dL_law_1835 rfl (by omega) (by omega) (fun c_1835 => ?_) (fun c_1835 => absurd c_1835 (by omega))
          refine k_iload hC dL_law_1840 1 rfl ?_
          refine k_if_ne hC 1857 dL_law_1842 rfl (by omega) (fun c_1842 => absurd c_1842 (by omega)) (fun c_1842 => ?_)
          refine k_aload_n hC dL_law_1845 rfl 4 rfl ?_
          refine k_iconst hC dL_law_1846 ?_
          have h_4 : w3 148 = lA G 1 (fun _ => i32 (if 12 ≤ gc 2 then -2 else gc 2)) := (hf3 148 (by decide)).trans h148
          refine k_lald hC (kl hN (by decide)) h_4 (by omega) (by decide) dL_law_1847 ?_
          refine k_topv (vL (i32 (if 12 ≤ gc 2 then -2 else gc 2))) rfl ?_
          refine k_iload hC dL_law_1848 0 rfl ?_
          refine k_topv (vI (i32 b3)) (vI_32 _) ?_
          refine k_i2l hC dL_law_1850 (i32_r _) ?_
          refine k_lcmp_eq hC 1857 dL_law_1851 dL_law_1852 rfl (i32_l _) (i32_l _) (fun c_1851 => ?_) (fun c_1851 => absurd (congrArg i32 (show (if 12 ≤ gc 2 then -2 else gc 2) = b3 from (by rw [e2]; exact q3.symm))) c_1851)
          refine k_goto hC 2319 dL_law_1857 rfl ?_
          refine k_lvs (ls := [2, 3, 4, 5, 6, 7]) [(5, vI (i : Int)), (4, .ref (kad G 149)), (3, .ref (kad G 148)), (2, .ref (kad G 133)), (1, .ref (kad G 0)), (0, .ref b)] rfl ?_
          have h_5 : w3 149 = dA G 1 oD := (hf3 149 (by decide)).trans ((hf2 149 (by decide)).trans ((congrFun hw2 149).trans o2))
          exact kk w3 fl _ _ (LI.rd hc hm hr hw hT (a5.fr (fun j q1 q2 => (hf3 j (by omega)).trans ((hf2 j (by omega)).trans (congrFun hw2 j)))) (b5.fr (fun j q1 q2 => (hf3 j (by omega)).trans ((hf2 j (by omega)).trans (congrFun hw2 j)))) hm3 ⟨rfl, rfl, rfl, rfl, rfl⟩ ⟨⟨_, h_4⟩, ⟨_, h_5⟩⟩ (fun j hj => (hf3 j (by omega)).trans ((hf2 j (by omega)).trans (congrFun hw2 j)))) (by omega) (by omega)
        · exfalso; have z := hy3.2; omega
      · exfalso; omega
      · exfalso; omega
    · show KW p l e R s m args below meth c 10 G Q w1 fl (cs + 8) (ss + 48) 1803 [(5, vI (i : Int)), (4, .ref (kad G 149)), (3, .ref (kad G 148)), (2, .ref (kad G 133)), (1, .ref (kad G 0)), (0, .ref b)] [vI 0]
      refine k_istore hC [(6, vI 0), (5, vI (i : Int)), (4, .ref (kad G 149)), (3, .ref (kad G 148)), (2, .ref (kad G 133)), (1, .ref (kad G 0)), (0, .ref b)] dL_law_1803 (by decide) rfl ?_
      refine k_aload_n hC dL_law_1805 rfl 4 rfl ?_
      refine k_aload_n hC dL_law_1806 rfl 6 rfl ?_
      refine k_iload hC dL_law_1807 1 rfl ?_
      refine k_iconst hC dL_law_1809 ?_
      refine k_iadd hC dL_law_1810 ?_
      refine k_scr hC hX hbl hbA hL (i + 1) (by omega) (by omega) dL_law_1811 ?_
      refine k_aload_n hC dL_law_1812 rfl 6 rfl ?_
      refine k_iload hC dL_law_1813 1 rfl ?_
      refine k_iconst hC dL_law_1815 ?_
      refine k_iadd hC dL_law_1816 ?_
      refine k_scr hC hX hbl hbA hL (i + 2) (by omega) (by omega) dL_law_1817 ?_
      refine k_aload_n hC dL_law_1818 rfl 6 rfl ?_
      refine k_iload hC dL_law_1819 1 rfl ?_
      refine k_iconst hC dL_law_1821 ?_
      refine k_iadd hC dL_law_1822 ?_
      refine k_scr hC hX hbl hbA hL (i + 3) (by omega) (by omega) dL_law_1823 ?_
      have h_6 : w1 133 = mdO G u := (hf2 133 (by decide)).trans ((hfP 133 (by decide)).trans b0)
      have h_7 : w1 134 = lA G 93 gr := (hf2 134 (by decide)).trans ((hfP 134 (by decide)).trans b1)
      have h_8 : w1 137 = lA G 930 H := (hf2 137 (by decide)).trans ((hfP 137 (by decide)).trans b4)
      refine k_callV hC (c_X12_observe l hls G hN w1 fl u gr H cn (xI xs (i + 1)) (xI xs (i + 2)) (xI xs (i + 3)) (xI_r xs _) (xI_r xs _) (xI_r xs _) hIr r3 acn h_6 h_7 h_8) yy_X12_observe wm_L_193 (kl hN (by decide)) h_6 rfl rfl rfl rfl (Nat.le_of_ble_eq_true rfl) (by omega) (by omega) ⟨by omega, by omega⟩ dL_law_1824 (fun v3 w3 fl3 hp3 => ?_)
      obtain ⟨b3, th3, hv3, hfl3, hR3, hP3⟩ := hp3
      subst hv3
      subst hfl3
      rcases hR3 with ⟨q1, q2, q3⟩ | ⟨q1, q2⟩ | ⟨q1, q2⟩
      · subst q2
        rcases hP3 with ⟨hn3, hm3, hf3⟩ | ⟨hy3, hm3, hg3, hH3, hf3⟩
        · rcases hn3 with z | z
          · exact absurd rfl z
          · exfalso; omega
        · show KW p l e R s m args below meth c 10 G Q w3 fl (cs + 8) (ss + 48) 1827 [(6, vI 0), (5, vI (i : Int)), (4, .ref (kad G 149)), (3, .ref (kad G 148)), (2, .ref (kad G 133)), (1, .ref (kad G 0)), (0, .ref b)] [vI b3]
          refine k_istore hC [(7, vI b3), (6, vI 0), (5, vI (i : Int)), (4, .ref (kad G 149)), (3, .ref (kad G 148)), (2, .ref (kad G 133)), (1, .ref (kad G 0)), (0, .ref b)] dL_law_1827 (by decide) rfl ?_
          refine k_aload_n hC dL_law_1829 rfl 5 rfl ?_
          refine k_pureV hC (c_X12_thrown l hls G hN w3 fl (kup (kup u 4 (min ((cn : Int) + 1) 10)) 5 0) hm3) yy_X12_thrown wm_L_113 (kl hN (by decide)) hm3 rfl rfl rfl rfl (Nat.le_of_ble_eq_true rfl) (by omega) (by omega) ⟨by omega, by omega⟩ dL_law_1830 ?_
          refine k_topv (vI 0) rfl ?_
          refine k_iload hC dL_law_1833 1 rfl ?_
          refine k_icmp_eq hC 1840 dL_law_1835 rfl (by omega) (by omega) (fun c_1835 => ?_) (fun c_1835 => absurd c_1835 (by omega))
          refine k_iload hC dL_law_1840 1 rfl ?_
          refine k_if_ne hC 1857 dL_law_1842 rfl (by omega) (fun c_1842 => absurd c_1842 (by omega)) (fun c_1842 => ?_)
          refine k_aload_n hC dL_law_1845 rfl 4 rfl ?_
          refine k_iconst hC dL_law_1846 ?_
          have h_9 : w3 148 = lA G 1 (fun _ => i32 (if 12 ≤ gc 2 then -2 else gc 2)) := (hf3 148 (by decide)).trans h148
          refine k_lald hC (kl hN (by decide)) h_9 (by omega) (by decide) dL_law_1847 ?_
          refine k_topv (vL (i32 (if 12 ≤ gc 2 then -2 else gc 2))) rfl ?_
          refine k_iload hC dL_law_1848 0 rfl ?_
          refine k_topv (vI (i32 b3)) (vI_32 _) ?_
          refine k_i2l hC dL_law_1850 (i32_r _) ?_
          refine k_lcmp_eq hC 1857 dL_law_1851 dL_law_1852 rfl (i32_l _) (i32_l _) (fun c_1851 => ?_) (fun c_1851 => absurd (congrArg i32 (show (if 12 ≤ gc 2 then -2 else gc 2) = b3 from (by rw [e2]; exact q3.symm))) c_1851)
          refine k_goto hC 2319 dL_law_1857 rfl ?_
          refine k_lvs (ls := [2, 3, 4, 5, 6, 7]) [(5, vI (i : Int)), (4, .ref (kad G 149)), (3, .ref (kad G 148)), (2, .ref (kad G 133)), (1, .ref (kad G 0)), (0, .ref b)] rfl ?_
          exact kk w3 fl _ _ (LI.op hc hm hr hw hT (hlg.fr (fun j q1 q2 => hf2 j (by omega))) (hhi.fr (fun j q1 q2 => hf2 j (by omega))) (fun j hj => (hf2 j (by omega)).trans (hfP j (by omega))) ⟨⟨_, h148⟩, ⟨_, (hf2 149 (by decide)).trans ((hfP 149 (by decide)).trans o2)⟩⟩ hm3 hg3 hH3 hf3 (r0.opL (hE.addSight (by omega) _ _ _) (hIr.addSight (by omega) (by omega) (by omega) (by omega)) (fun j hj => by unfold addSightM; rw [if_neg (by omega)]; rw [if_neg (by omega)]; rw [if_neg (by omega)]; rw [if_neg (by omega)])) (fun j hj => by unfold addSightM; rw [if_neg (by omega)]; rw [if_neg (by omega)]; rw [if_neg (by omega)]; rw [if_neg (by omega)])) (by omega) (by omega)
      · exfalso; omega
      · exfalso; omega
  · subst hv
    obtain ⟨hfl, hP⟩ := hP
    subst hfl
    show KW p l e R s m args below meth c 10 G Q w1 fl (cs + 8) (ss + 48) 1803 [(5, vI (i : Int)), (4, .ref (kad G 149)), (3, .ref (kad G 148)), (2, .ref (kad G 133)), (1, .ref (kad G 0)), (0, .ref b)] [vI 1]
    refine k_istore hC [(6, vI 1), (5, vI (i : Int)), (4, .ref (kad G 149)), (3, .ref (kad G 148)), (2, .ref (kad G 133)), (1, .ref (kad G 0)), (0, .ref b)] dL_law_1803 (by decide) rfl ?_
    refine k_aload_n hC dL_law_1805 rfl 4 rfl ?_
    refine k_aload_n hC dL_law_1806 rfl 6 rfl ?_
    refine k_iload hC dL_law_1807 1 rfl ?_
    refine k_iconst hC dL_law_1809 ?_
    refine k_iadd hC dL_law_1810 ?_
    refine k_scr hC hX hbl hbA hL (i + 1) (by omega) (by omega) dL_law_1811 ?_
    refine k_aload_n hC dL_law_1812 rfl 6 rfl ?_
    refine k_iload hC dL_law_1813 1 rfl ?_
    refine k_iconst hC dL_law_1815 ?_
    refine k_iadd hC dL_law_1816 ?_
    refine k_scr hC hX hbl hbA hL (i + 2) (by omega) (by omega) dL_law_1817 ?_
    refine k_aload_n hC dL_law_1818 rfl 6 rfl ?_
    refine k_iload hC dL_law_1819 1 rfl ?_
    refine k_iconst hC dL_law_1821 ?_
    refine k_iadd hC dL_law_1822 ?_
    refine k_scr hC hX hbl hbA hL (i + 3) (by omega) (by omega) dL_law_1823 ?_
    have h_10 : w1 133 = mdO G u := (congrFun hP 133).trans b0
    have h_11 : w1 134 = lA G 93 gr := (congrFun hP 134).trans b1
    have h_12 : w1 137 = lA G 930 H := (congrFun hP 137).trans b4
    refine k_callV hC (c_X12_observe l hls G hN w1 fl u gr H cn (xI xs (i + 1)) (xI xs (i + 2)) (xI xs (i + 3)) (xI_r xs _) (xI_r xs _) (xI_r xs _) hIr r3 acn h_10 h_11 h_12) yy_X12_observe wm_L_193 (kl hN (by decide)) h_10 rfl rfl rfl rfl (Nat.le_of_ble_eq_true rfl) (by omega) (by omega) ⟨by omega, by omega⟩ dL_law_1824 (fun v3 w3 fl3 hp3 => ?_)
    obtain ⟨b3, th3, hv3, hfl3, hR3, hP3⟩ := hp3
    subst hv3
    subst hfl3
    rcases hR3 with ⟨q1, q2, q3⟩ | ⟨q1, q2⟩ | ⟨q1, q2⟩
    · exfalso; omega
    · subst q2
      rcases hP3 with ⟨hn3, hm3, hf3⟩ | ⟨hy3, hm3, hg3, hH3, hf3⟩
      · show KW p l e R s m args below meth c 10 G Q w3 fl (cs + 8) (ss + 48) 1827 [(6, vI 1), (5, vI (i : Int)), (4, .ref (kad G 149)), (3, .ref (kad G 148)), (2, .ref (kad G 133)), (1, .ref (kad G 0)), (0, .ref b)] [vI b3]
        refine k_istore hC [(7, vI b3), (6, vI 1), (5, vI (i : Int)), (4, .ref (kad G 149)), (3, .ref (kad G 148)), (2, .ref (kad G 133)), (1, .ref (kad G 0)), (0, .ref b)] dL_law_1827 (by decide) rfl ?_
        refine k_aload_n hC dL_law_1829 rfl 5 rfl ?_
        refine k_pureV hC (c_X12_thrown l hls G hN w3 fl (kup u 5 1) hm3) yy_X12_thrown wm_L_113 (kl hN (by decide)) hm3 rfl rfl rfl rfl (Nat.le_of_ble_eq_true rfl) (by omega) (by omega) ⟨by omega, by omega⟩ dL_law_1830 ?_
        refine k_topv (vI 1) rfl ?_
        refine k_iload hC dL_law_1833 1 rfl ?_
        refine k_icmp_eq hC 1840 dL_law_1835 rfl (by omega) (by omega) (fun c_1835 => ?_) (fun c_1835 => absurd c_1835 (by omega))
        refine k_iload hC dL_law_1840 1 rfl ?_
        refine k_if_ne hC 1857 dL_law_1842 rfl (by omega) (fun c_1842 => ?_) (fun c_1842 => absurd c_1842 (by omega))
        refine k_goto hC 2319 dL_law_1857 rfl ?_
        refine k_lvs (ls := [2, 3, 4, 5, 6, 7]) [(5, vI (i : Int)), (4, .ref (kad G 149)), (3, .ref (kad G 148)), (2, .ref (kad G 133)), (1, .ref (kad G 0)), (0, .ref b)] rfl ?_
        have h_13 : w3 148 = lA G 1 out := (hf3 148 (by decide)).trans ((congrFun hP 148).trans o1)
        have h_14 : w3 149 = dA G 1 oD := (hf3 149 (by decide)).trans ((congrFun hP 149).trans o2)
        exact kk w3 fl _ _ (LI.rd hc hm hr hw hT (a5.fr (fun j q1 q2 => (hf3 j (by omega)).trans (congrFun hP j))) (b5.fr (fun j q1 q2 => (hf3 j (by omega)).trans (congrFun hP j))) hm3 ⟨rfl, rfl, rfl, rfl, rfl⟩ ⟨⟨_, h_13⟩, ⟨_, h_14⟩⟩ (fun j hj => (hf3 j (by omega)).trans (congrFun hP j))) (by omega) (by omega)
      · exfalso; exact absurd hy3.1 (by decide)
    · exfalso; omega
  · subst hv
    obtain ⟨hfl, hP⟩ := hP
    subst hfl
    show KW p l e R s m args below meth c 10 G Q w1 fl (cs + 8) (ss + 48) 1803 [(5, vI (i : Int)), (4, .ref (kad G 149)), (3, .ref (kad G 148)), (2, .ref (kad G 133)), (1, .ref (kad G 0)), (0, .ref b)] [vI 2]
    refine k_istore hC [(6, vI 2), (5, vI (i : Int)), (4, .ref (kad G 149)), (3, .ref (kad G 148)), (2, .ref (kad G 133)), (1, .ref (kad G 0)), (0, .ref b)] dL_law_1803 (by decide) rfl ?_
    refine k_aload_n hC dL_law_1805 rfl 4 rfl ?_
    refine k_aload_n hC dL_law_1806 rfl 6 rfl ?_
    refine k_iload hC dL_law_1807 1 rfl ?_
    refine k_iconst hC dL_law_1809 ?_
    refine k_iadd hC dL_law_1810 ?_
    refine k_scr hC hX hbl hbA hL (i + 1) (by omega) (by omega) dL_law_1811 ?_
    refine k_aload_n hC dL_law_1812 rfl 6 rfl ?_
    refine k_iload hC dL_law_1813 1 rfl ?_
    refine k_iconst hC dL_law_1815 ?_
    refine k_iadd hC dL_law_1816 ?_
    refine k_scr hC hX hbl hbA hL (i + 2) (by omega) (by omega) dL_law_1817 ?_
    refine k_aload_n hC dL_law_1818 rfl 6 rfl ?_
    refine k_iload hC dL_law_1819 1 rfl ?_
    refine k_iconst hC dL_law_1821 ?_
    refine k_iadd hC dL_law_1822 ?_
    refine k_scr hC hX hbl hbA hL (i + 3) (by omega) (by omega) dL_law_1823 ?_
    have h_15 : w1 133 = mdO G u := (congrFun hP 133).trans b0
    have h_16 : w1 134 = lA G 93 gr := (congrFun hP 134).trans b1
    have h_17 : w1 137 = lA G 930 H := (congrFun hP 137).trans b4
    refine k_callV hC (c_X12_observe l hls G hN w1 fl u gr H cn (xI xs (i + 1)) (xI xs (i + 2)) (xI xs (i + 3)) (xI_r xs _) (xI_r xs _) (xI_r xs _) hIr r3 acn h_15 h_16 h_17) yy_X12_observe wm_L_193 (kl hN (by decide)) h_15 rfl rfl rfl rfl (Nat.le_of_ble_eq_true rfl) (by omega) (by omega) ⟨by omega, by omega⟩ dL_law_1824 (fun v3 w3 fl3 hp3 => ?_)
    obtain ⟨b3, th3, hv3, hfl3, hR3, hP3⟩ := hp3
    subst hv3
    subst hfl3
    rcases hR3 with ⟨q1, q2, q3⟩ | ⟨q1, q2⟩ | ⟨q1, q2⟩
    · exfalso; omega
    · exfalso; omega
    · subst q2
      rcases hP3 with ⟨hn3, hm3, hf3⟩ | ⟨hy3, hm3, hg3, hH3, hf3⟩
      · show KW p l e R s m args below meth c 10 G Q w3 fl (cs + 8) (ss + 48) 1827 [(6, vI 2), (5, vI (i : Int)), (4, .ref (kad G 149)), (3, .ref (kad G 148)), (2, .ref (kad G 133)), (1, .ref (kad G 0)), (0, .ref b)] [vI b3]
        refine k_istore hC [(7, vI b3), (6, vI 2), (5, vI (i : Int)), (4, .ref (kad G 149)), (3, .ref (kad G 148)), (2, .ref (kad G 133)), (1, .ref (kad G 0)), (0, .ref b)] dL_law_1827 (by decide) rfl ?_
        refine k_aload_n hC dL_law_1829 rfl 5 rfl ?_
        refine k_pureV hC (c_X12_thrown l hls G hN w3 fl (kup u 5 2) hm3) yy_X12_thrown wm_L_113 (kl hN (by decide)) hm3 rfl rfl rfl rfl (Nat.le_of_ble_eq_true rfl) (by omega) (by omega) ⟨by omega, by omega⟩ dL_law_1830 ?_
        refine k_topv (vI 2) rfl ?_
        refine k_iload hC dL_law_1833 1 rfl ?_
        refine k_icmp_eq hC 1840 dL_law_1835 rfl (by omega) (by omega) (fun c_1835 => ?_) (fun c_1835 => absurd c_1835 (by omega))
        refine k_iload hC dL_law_1840 1 rfl ?_
        refine k_if_ne hC 1857 dL_law_1842 rfl (by omega) (fun c_1842 => ?_) (fun c_1842 => absurd c_1842 (by omega))
        refine k_goto hC 2319 dL_law_1857 rfl ?_
        refine k_lvs (ls := [2, 3, 4, 5, 6, 7]) [(5, vI (i : Int)), (4, .ref (kad G 149)), (3, .ref (kad G 148)), (2, .ref (kad G 133)), (1, .ref (kad G 0)), (0, .ref b)] rfl ?_
        have h_18 : w3 148 = lA G 1 out := (hf3 148 (by decide)).trans ((congrFun hP 148).trans o1)
        have h_19 : w3 149 = dA G 1 oD := (hf3 149 (by decide)).trans ((congrFun hP 149).trans o2)
        exact kk w3 fl _ _ (LI.rd hc hm hr hw hT (a5.fr (fun j q1 q2 => (hf3 j (by omega)).trans (congrFun hP j))) (b5.fr (fun j q1 q2 => (hf3 j (by omega)).trans (congrFun hP j))) hm3 ⟨rfl, rfl, rfl, rfl, rfl⟩ ⟨⟨_, h_18⟩, ⟨_, h_19⟩⟩ (fun j hj => (hf3 j (by omega)).trans (congrFun hP j))) (by omega) (by omega)
      · exfalso; exact absurd hy3.1 (by decide)

set_option maxRecDepth 100000 in
set_option maxHeartbeats 4000000 in
theorem lw_drop {p : Program} {l : Launch} {e : Env} {R : Room} {s : State} {m : MethodId} {args : Array Value} {below : List Frame} {meth : Method} {c : Code} {G : kG} {d0 mc0 ms0 : Nat} {Q : State → Prop} {b L : Nat} {xs : Nat → Int32} (hC : kC p l R s m args meth c cL_law RL 10 G d0 mc0 ms0) (hls : l.stackTraces = false) (hN : kN G = 150) (hNc : va_Nc "java/lang/IllegalArgumentException" "java/util/NoSuchElementException" s) (hX : va_X b L xs s s.heap) (hbl : b < s.heap.size) (hbA : ¬ kA G b) (hL : L ≤ 3584) (hd0 : 60 ≤ d0) {cs ss : Nat} (hcs : cs + 16 ≤ mc0 ∧ ss + 400 ≤ ms0) (i : Nat) (hi : i + 7 ≤ L) (w : Nat → va_E) (fl : va_W) (hLI : LI G w fl)
    (kk : ∀ (w' : Nat → va_E) (fl' : va_W) (cs' ss' : Nat), LI G w' fl' → cs' ≤ cs + 16 → ss' ≤ ss + 400 → KW p l e R s m args below meth c 10 G Q w' fl' cs' ss' 2319 [(5, vI (i : Int)), (4, .ref (kad G 149)), (3, .ref (kad G 148)), (2, .ref (kad G 133)), (1, .ref (kad G 0)), (0, .ref b)] []) : KW p l e R s m args below meth c 10 G Q w fl cs ss 1860 [(5, vI (i : Int)), (4, .ref (kad G 149)), (3, .ref (kad G 148)), (2, .ref (kad G 133)), (1, .ref (kad G 0)), (0, .ref b)] [] := by
  obtain ⟨bt, gc, nl, gp0, nl9, gl0, gs, c0, nx, cn, cap, cd, ea, kd, nm, sa, nx9, en, sv, hs, T, u, gr, D0, sp, H, hc, hm, ho, hr, hw, hT⟩ := hLI
  have hc1 := hc
  have hm1 := hm
  have hr1 := hr
  have ho1 := ho
  obtain ⟨⟨a0, asv⟩, a1, ⟨a2, abt, ac7⟩, a3, a4, a5, a6, ⟨a7, anx, acn⟩, ⟨a8, a9, a10⟩, ⟨a11, a12, a13⟩, a14⟩ := hc1
  obtain ⟨b0, b1, b2, b3, b4, b5, b6, b7, ⟨cf, b8⟩, ⟨fq, b9⟩⟩ := hm1
  obtain ⟨⟨out, o1⟩, ⟨oD, o2⟩⟩ := ho1
  obtain ⟨r0, r1, r2, r3, r4, r5, r6⟩ := hr1
  have hI := r0.inv
  have hIr := r0.2.1
  have hE := r0.1
  have e0 := hE.n 0 (by decide)
  have e1 := hE.n 1 (by decide)
  have e2 := hE.n 2 (by decide)
  have hgc := hI.c
  refine k_aload_n hC dL_law_1860 rfl 4 rfl ?_
  refine k_aload_n hC dL_law_1861 rfl 5 rfl ?_
  refine k_iload hC dL_law_1862 0 rfl ?_
  refine k_iconst hC dL_law_1864 ?_
  refine k_iadd hC dL_law_1865 ?_
  refine k_scr hC hX hbl hbA hL (i + 1) (by omega) (by omega) dL_law_1866 ?_
  refine k_aload_n hC dL_law_1867 rfl 2 rfl ?_
  refine k_callL hC hNc (n := 3) (c_L_drop l hls G hN w fl gc nl sv hs nx (cn : Int) (xI xs (i + 1)) out (xI_r xs _) anx (by omega) a7 hI a0 a3 a4 a5 o1) wc_L_drop wz_L (by decide +kernel) wt_L_drop wm_L_194 rfl rfl (Nat.le_of_ble_eq_true rfl) (by omega) (by omega) ⟨by omega, by omega⟩ dL_law_1868 (fun v1 w1 fl1 hp => ?_)
  rcases hp with ⟨hv, hcc, w2, hP, h148, hf2⟩ | ⟨hP, ⟨hcc, hv⟩ | ⟨hcc, hv⟩⟩
  · subst hv
    obtain ⟨hfl, hP⟩ := hP
    subst hfl
    obtain ⟨hlg, hhi, hfP⟩ := hP
    show KW p l e R s m args below meth c 10 G Q w1 fl (cs + 8) (ss + 48) 1871 [(5, vI (i : Int)), (4, .ref (kad G 149)), (3, .ref (kad G 148)), (2, .ref (kad G 133)), (1, .ref (kad G 0)), (0, .ref b)] [vI 0]
    refine k_istore hC [(6, vI 0), (5, vI (i : Int)), (4, .ref (kad G 149)), (3, .ref (kad G 148)), (2, .ref (kad G 133)), (1, .ref (kad G 0)), (0, .ref b)] dL_law_1871 (by decide) rfl ?_
    refine k_aload_n hC dL_law_1873 rfl 4 rfl ?_
    refine k_aload_n hC dL_law_1874 rfl 6 rfl ?_
    refine k_iload hC dL_law_1875 1 rfl ?_
    refine k_iconst hC dL_law_1877 ?_
    refine k_iadd hC dL_law_1878 ?_
    refine k_scr hC hX hbl hbA hL (i + 1) (by omega) (by omega) dL_law_1879 ?_
    have h_1 : w1 133 = mdO G u := (hf2 133 (by decide)).trans ((hfP 133 (by decide)).trans b0)
    have h_2 : w1 134 = lA G 93 gr := (hf2 134 (by decide)).trans ((hfP 134 (by decide)).trans b1)
    have h_3 : w1 137 = lA G 930 H := (hf2 137 (by decide)).trans ((hfP 137 (by decide)).trans b4)
    refine k_callV hC (c_X12_drop l hls G hN w1 fl u gr H cn (xI xs (i + 1)) (xI_r xs _) hIr r3 acn h_1 h_2 h_3) yy_X12_drop wm_L_196 (kl hN (by decide)) h_1 rfl rfl rfl rfl (Nat.le_of_ble_eq_true rfl) (by omega) (by omega) ⟨by omega, by omega⟩ dL_law_1880 (fun v3 w3 fl3 hp3 => ?_)
    obtain ⟨b3, th3, hv3, hfl3, hR3, hP3⟩ := hp3
    subst hv3
    subst hfl3
    rcases hR3 with ⟨q1, q2, q3⟩ | ⟨q1, q2⟩ | ⟨q1, q2⟩
    · subst q2
      rcases hP3 with ⟨hn3, hm3, hf3⟩ | ⟨hy3, hm3, hg3, hH3, hf3⟩
      · rcases hn3 with z | z
        · exact absurd rfl z
        · exact z.elim
      · show KW p l e R s m args below meth c 10 G Q w3 fl (cs + 8) (ss + 48) 1883 [(6, vI 0), (5, vI (i : Int)), (4, .ref (kad G 149)), (3, .ref (kad G 148)), (2, .ref (kad G 133)), (1, .ref (kad G 0)), (0, .ref b)] [vI b3]
        refine k_istore hC [(7, vI b3), (6, vI 0), (5, vI (i : Int)), (4, .ref (kad G 149)), (3, .ref (kad G 148)), (2, .ref (kad G 133)), (1, .ref (kad G 0)), (0, .ref b)] dL_law_1883 (by decide) rfl ?_
        refine k_aload_n hC dL_law_1885 rfl 5 rfl ?_
        refine k_pureV hC (c_X12_thrown l hls G hN w3 fl (kup (kup u 4 (min ((cn : Int) + 1) 10)) 5 0) hm3) yy_X12_thrown wm_L_113 (kl hN (by decide)) hm3 rfl rfl rfl rfl (Nat.le_of_ble_eq_true rfl) (by omega) (by omega) ⟨by omega, by omega⟩ dL_law_1886 ?_
        refine k_topv (vI 0) rfl ?_
        refine k_iload hC dL_law_1889 1 rfl ?_
        refine k_icmp_eq hC 1896 dL_law_1891 rfl (by omega) (by omega) (fun c_1891 => ?_) (fun c_1891 => absurd c_1891 (by omega))
        refine k_iload hC dL_law_1896 1 rfl ?_
        refine k_if_ne hC 1913 dL_law_1898 rfl (by omega) (fun c_1898 => absurd c_1898 (by omega)) (fun c_1898 => ?_)
        refine k_aload_n hC dL_law_1901 rfl 4 rfl ?_
        refine k_iconst hC dL_law_1902 ?_
        have h_4 : w3 148 = lA G 1 (fun _ => i32 (gc 2 - 1)) := (hf3 148 (by decide)).trans h148
        refine k_lald hC (kl hN (by decide)) h_4 (by omega) (by decide) dL_law_1903 ?_
        refine k_topv (vL (i32 (gc 2 - 1))) rfl ?_
        refine k_iload hC dL_law_1904 0 rfl ?_
        refine k_topv (vI (i32 b3)) (vI_32 _) ?_
        refine k_i2l hC dL_law_1906 (i32_r _) ?_
        refine k_lcmp_eq hC 1913 dL_law_1907 dL_law_1908 rfl (i32_l _) (i32_l _) (fun c_1907 => ?_) (fun c_1907 => absurd (congrArg i32 (show (gc 2 - 1) = b3 from (by rw [e2]; exact q3.symm))) c_1907)
        refine k_goto hC 2319 dL_law_1913 rfl ?_
        refine k_lvs (ls := [2, 3, 4, 5, 6, 7]) [(5, vI (i : Int)), (4, .ref (kad G 149)), (3, .ref (kad G 148)), (2, .ref (kad G 133)), (1, .ref (kad G 0)), (0, .ref b)] rfl ?_
        exact kk w3 fl _ _ (LI.op hc hm hr hw hT (hlg.fr (fun j q1 q2 => hf2 j (by omega))) (hhi.fr (fun j q1 q2 => hf2 j (by omega))) (fun j hj => (hf2 j (by omega)).trans (hfP j (by omega))) ⟨⟨_, h148⟩, ⟨_, (hf2 149 (by decide)).trans ((hfP 149 (by decide)).trans o2)⟩⟩ hm3 hg3 hH3 hf3 (r0.opL (hE.drop (by omega)) (hIr.drop (by omega)) (fun j hj => by unfold dropM; rw [if_neg (by omega)]; rw [if_neg (by omega)])) (fun j hj => by unfold dropM; rw [if_neg (by omega)]; rw [if_neg (by omega)])) (by omega) (by omega)
    · exfalso; omega
    · exact q1.elim
  · subst hv
    obtain ⟨hfl, hP⟩ := hP
    subst hfl
    show KW p l e R s m args below meth c 10 G Q w1 fl (cs + 8) (ss + 48) 1871 [(5, vI (i : Int)), (4, .ref (kad G 149)), (3, .ref (kad G 148)), (2, .ref (kad G 133)), (1, .ref (kad G 0)), (0, .ref b)] [vI 1]
    refine k_istore hC [(6, vI 1), (5, vI (i : Int)), (4, .ref (kad G 149)), (3, .ref (kad G 148)), (2, .ref (kad G 133)), (1, .ref (kad G 0)), (0, .ref b)] dL_law_1871 (by decide) rfl ?_
    refine k_aload_n hC dL_law_1873 rfl 4 rfl ?_
    refine k_aload_n hC dL_law_1874 rfl 6 rfl ?_
    refine k_iload hC dL_law_1875 1 rfl ?_
    refine k_iconst hC dL_law_1877 ?_
    refine k_iadd hC dL_law_1878 ?_
    refine k_scr hC hX hbl hbA hL (i + 1) (by omega) (by omega) dL_law_1879 ?_
    have h_5 : w1 133 = mdO G u := (congrFun hP 133).trans b0
    have h_6 : w1 134 = lA G 93 gr := (congrFun hP 134).trans b1
    have h_7 : w1 137 = lA G 930 H := (congrFun hP 137).trans b4
    refine k_callV hC (c_X12_drop l hls G hN w1 fl u gr H cn (xI xs (i + 1)) (xI_r xs _) hIr r3 acn h_5 h_6 h_7) yy_X12_drop wm_L_196 (kl hN (by decide)) h_5 rfl rfl rfl rfl (Nat.le_of_ble_eq_true rfl) (by omega) (by omega) ⟨by omega, by omega⟩ dL_law_1880 (fun v3 w3 fl3 hp3 => ?_)
    obtain ⟨b3, th3, hv3, hfl3, hR3, hP3⟩ := hp3
    subst hv3
    subst hfl3
    rcases hR3 with ⟨q1, q2, q3⟩ | ⟨q1, q2⟩ | ⟨q1, q2⟩
    · exfalso; omega
    · subst q2
      rcases hP3 with ⟨hn3, hm3, hf3⟩ | ⟨hy3, hm3, hg3, hH3, hf3⟩
      · show KW p l e R s m args below meth c 10 G Q w3 fl (cs + 8) (ss + 48) 1883 [(6, vI 1), (5, vI (i : Int)), (4, .ref (kad G 149)), (3, .ref (kad G 148)), (2, .ref (kad G 133)), (1, .ref (kad G 0)), (0, .ref b)] [vI b3]
        refine k_istore hC [(7, vI b3), (6, vI 1), (5, vI (i : Int)), (4, .ref (kad G 149)), (3, .ref (kad G 148)), (2, .ref (kad G 133)), (1, .ref (kad G 0)), (0, .ref b)] dL_law_1883 (by decide) rfl ?_
        refine k_aload_n hC dL_law_1885 rfl 5 rfl ?_
        refine k_pureV hC (c_X12_thrown l hls G hN w3 fl (kup u 5 1) hm3) yy_X12_thrown wm_L_113 (kl hN (by decide)) hm3 rfl rfl rfl rfl (Nat.le_of_ble_eq_true rfl) (by omega) (by omega) ⟨by omega, by omega⟩ dL_law_1886 ?_
        refine k_topv (vI 1) rfl ?_
        refine k_iload hC dL_law_1889 1 rfl ?_
        refine k_icmp_eq hC 1896 dL_law_1891 rfl (by omega) (by omega) (fun c_1891 => ?_) (fun c_1891 => absurd c_1891 (by omega))
        refine k_iload hC dL_law_1896 1 rfl ?_
        refine k_if_ne hC 1913 dL_law_1898 rfl (by omega) (fun c_1898 => ?_) (fun c_1898 => absurd c_1898 (by omega))
        refine k_goto hC 2319 dL_law_1913 rfl ?_
        refine k_lvs (ls := [2, 3, 4, 5, 6, 7]) [(5, vI (i : Int)), (4, .ref (kad G 149)), (3, .ref (kad G 148)), (2, .ref (kad G 133)), (1, .ref (kad G 0)), (0, .ref b)] rfl ?_
        have h_8 : w3 148 = lA G 1 out := (hf3 148 (by decide)).trans ((congrFun hP 148).trans o1)
        have h_9 : w3 149 = dA G 1 oD := (hf3 149 (by decide)).trans ((congrFun hP 149).trans o2)
        exact kk w3 fl _ _ (LI.rd hc hm hr hw hT (a5.fr (fun j q1 q2 => (hf3 j (by omega)).trans (congrFun hP j))) (b5.fr (fun j q1 q2 => (hf3 j (by omega)).trans (congrFun hP j))) hm3 ⟨rfl, rfl, rfl, rfl, rfl⟩ ⟨⟨_, h_8⟩, ⟨_, h_9⟩⟩ (fun j hj => (hf3 j (by omega)).trans (congrFun hP j))) (by omega) (by omega)
      · exfalso; exact absurd hy3.1 (by decide)
    · exact q1.elim
  · exact hcc.elim

set_option maxRecDepth 100000 in
set_option maxHeartbeats 4000000 in
theorem lw_steer {p : Program} {l : Launch} {e : Env} {R : Room} {s : State} {m : MethodId} {args : Array Value} {below : List Frame} {meth : Method} {c : Code} {G : kG} {d0 mc0 ms0 : Nat} {Q : State → Prop} {b L : Nat} {xs : Nat → Int32} (hC : kC p l R s m args meth c cL_law RL 10 G d0 mc0 ms0) (hls : l.stackTraces = false) (hN : kN G = 150) (hNc : va_Nc "java/lang/IllegalArgumentException" "java/util/NoSuchElementException" s) (hX : va_X b L xs s s.heap) (hbl : b < s.heap.size) (hbA : ¬ kA G b) (hL : L ≤ 3584) (hd0 : 60 ≤ d0) {cs ss : Nat} (hcs : cs + 16 ≤ mc0 ∧ ss + 400 ≤ ms0) (i : Nat) (hi : i + 7 ≤ L) (w : Nat → va_E) (fl : va_W) (hLI : LI G w fl)
    (kk : ∀ (w' : Nat → va_E) (fl' : va_W) (cs' ss' : Nat), LI G w' fl' → cs' ≤ cs + 16 → ss' ≤ ss + 400 → KW p l e R s m args below meth c 10 G Q w' fl' cs' ss' 2319 [(5, vI (i : Int)), (4, .ref (kad G 149)), (3, .ref (kad G 148)), (2, .ref (kad G 133)), (1, .ref (kad G 0)), (0, .ref b)] []) : KW p l e R s m args below meth c 10 G Q w fl cs ss 1916 [(5, vI (i : Int)), (4, .ref (kad G 149)), (3, .ref (kad G 148)), (2, .ref (kad G 133)), (1, .ref (kad G 0)), (0, .ref b)] [] := by
  obtain ⟨bt, gc, nl, gp0, nl9, gl0, gs, c0, nx, cn, cap, cd, ea, kd, nm, sa, nx9, en, sv, hs, T, u, gr, D0, sp, H, hc, hm, ho, hr, hw, hT⟩ := hLI
  have hc1 := hc
  have hm1 := hm
  have hr1 := hr
  have ho1 := ho
  obtain ⟨⟨a0, asv⟩, a1, ⟨a2, abt, ac7⟩, a3, a4, a5, a6, ⟨a7, anx, acn⟩, ⟨a8, a9, a10⟩, ⟨a11, a12, a13⟩, a14⟩ := hc1
  obtain ⟨b0, b1, b2, b3, b4, b5, b6, b7, ⟨cf, b8⟩, ⟨fq, b9⟩⟩ := hm1
  obtain ⟨⟨out, o1⟩, ⟨oD, o2⟩⟩ := ho1
  obtain ⟨r0, r1, r2, r3, r4, r5, r6⟩ := hr1
  have hI := r0.inv
  have hIr := r0.2.1
  have hE := r0.1
  have e0 := hE.n 0 (by decide)
  have e1 := hE.n 1 (by decide)
  have e2 := hE.n 2 (by decide)
  have hgc := hI.c
  refine k_aload_n hC dL_law_1916 rfl 4 rfl ?_
  refine k_aload_n hC dL_law_1917 rfl 5 rfl ?_
  refine k_iload hC dL_law_1918 0 rfl ?_
  refine k_iconst hC dL_law_1920 ?_
  refine k_iadd hC dL_law_1921 ?_
  refine k_scr hC hX hbl hbA hL (i + 1) (by omega) (by omega) dL_law_1922 ?_
  refine k_aload_n hC dL_law_1923 rfl 5 rfl ?_
  refine k_iload hC dL_law_1924 0 rfl ?_
  refine k_iconst hC dL_law_1926 ?_
  refine k_iadd hC dL_law_1927 ?_
  refine k_scr hC hX hbl hbA hL (i + 2) (by omega) (by omega) dL_law_1928 ?_
  refine k_aload_n hC dL_law_1929 rfl 5 rfl ?_
  refine k_iload hC dL_law_1930 0 rfl ?_
  refine k_iconst hC dL_law_1932 ?_
  refine k_iadd hC dL_law_1933 ?_
  refine k_scr hC hX hbl hbA hL (i + 3) (by omega) (by omega) dL_law_1934 ?_
  refine k_aload_n hC dL_law_1935 rfl 2 rfl ?_
  refine k_callL hC hNc (n := 5) (c_L_steer l hls G hN w fl gc nl sv hs nx (cn : Int) (xI xs (i + 1)) (xI xs (i + 2)) (xI xs (i + 3)) out (xI_r xs _) (xI_r xs _) (xI_r xs _) anx (by omega) a7 hI a0 a3 a4 a5 o1) wc_L_steer wz_L (by decide +kernel) wt_L_steer wm_L_197 rfl rfl (Nat.le_of_ble_eq_true rfl) (by omega) (by omega) ⟨by omega, by omega⟩ dL_law_1936 (fun v1 w1 fl1 hp => ?_)
  rcases hp with ⟨hv, hcc, w2, hP, h148, hf2⟩ | ⟨hP, ⟨hcc, hv⟩ | ⟨hcc, hv⟩⟩
  · subst hv
    obtain ⟨hfl, hP⟩ := hP
    subst hfl
    rcases hP with ⟨hno, hw2⟩ | ⟨hyes, hlg, hhi, hfP⟩
    · show KW p l e R s m args below meth c 10 G Q w1 fl (cs + 8) (ss + 48) 1939 [(5, vI (i : Int)), (4, .ref (kad G 149)), (3, .ref (kad G 148)), (2, .ref (kad G 133)), (1, .ref (kad G 0)), (0, .ref b)] [vI 0]
      refine k_istore hC [(6, vI 0), (5, vI (i : Int)), (4, .ref (kad G 149)), (3, .ref (kad G 148)), (2, .ref (kad G 133)), (1, .ref (kad G 0)), (0, .ref b)] dL_law_1939 (by decide) rfl ?_
      refine k_aload_n hC dL_law_1941 rfl 4 rfl ?_
      refine k_aload_n hC dL_law_1942 rfl 6 rfl ?_
      refine k_iload hC dL_law_1943 1 rfl ?_
      refine k_iconst hC dL_law_1945 ?_
      refine k_iadd hC dL_law_1946 ?_
      refine k_scr hC hX hbl hbA hL (i + 1) (by omega) (by omega) dL_law_1947 ?_
      refine k_aload_n hC dL_law_1948 rfl 6 rfl ?_
      refine k_iload hC dL_law_1949 1 rfl ?_
      refine k_iconst hC dL_law_1951 ?_
      refine k_iadd hC dL_law_1952 ?_
      refine k_scr hC hX hbl hbA hL (i + 2) (by omega) (by omega) dL_law_1953 ?_
      refine k_aload_n hC dL_law_1954 rfl 6 rfl ?_
      refine k_iload hC dL_law_1955 1 rfl ?_
      refine k_iconst hC dL_law_1957 ?_
      refine k_iadd hC dL_law_1958 ?_
      refine k_scr hC hX hbl hbA hL (i + 3) (by omega) (by omega) dL_law_1959 ?_
      have h_1 : w1 133 = mdO G u := (hf2 133 (by decide)).trans ((congrFun hw2 133).trans b0)
      have h_2 : w1 134 = lA G 93 gr := (hf2 134 (by decide)).trans ((congrFun hw2 134).trans b1)
      have h_3 : w1 137 = lA G 930 H := (hf2 137 (by decide)).trans ((congrFun hw2 137).trans b4)
      refine k_callV hC (c_X12_steer l hls G hN w1 fl u gr H cn (xI xs (i + 1)) (xI xs (i + 2)) (xI xs (i + 3)) (xI_r xs _) (xI_r xs _) (xI_r xs _) hIr r3 acn h_1 h_2 h_3) yy_X12_steer wm_L_199 (kl hN (by decide)) h_1 rfl rfl rfl rfl (Nat.le_of_ble_eq_true rfl) (by omega) (by omega) ⟨by omega, by omega⟩ dL_law_1960 (fun v3 w3 fl3 hp3 => ?_)
      obtain ⟨b3, th3, hv3, hfl3, hR3, hP3⟩ := hp3
      subst hv3
      subst hfl3
      have hlast := hE.last (by omega)
      rcases hR3 with ⟨q1, q2, q3⟩ | ⟨q1, q2⟩ | ⟨q1, q2⟩
      · subst q2
        rcases hP3 with ⟨hn3, hm3, hf3⟩ | ⟨hy3, hm3, hg3, hH3, hf3⟩
        · show KW p l e R s m args below meth c 10 G Q w3 fl (cs + 8) (ss + 48) 1963 [(6, vI 0), (5, vI (i : Int)), (4, .ref (kad G 149)), (3, .ref (kad G 148)), (2, .ref (kad G 133)), (1, .ref (kad G 0)), (0, .ref b)] [vI b3]
          refine k_istore hC [(7, vI b3), (6, vI 0), (5, vI (i : Int)), (4, .ref (kad G 149)), (3, .ref (kad G 148)), (2, .ref (kad G 133)), (1, .ref (kad G 0)), (0, .ref b)] dL_law_1963 (by decide) rfl ?_
          refine k_aload_n hC dL_law_1965 rfl 5 rfl ?_
          refine k_pureV hC (c_X12_thrown l hls G hN w3 fl (kup u 5 0) hm3) yy_X12_thrown wm_L_113 (kl hN (by decide)) hm3 rfl rfl rfl rfl (Nat.le_of_ble_eq_true rfl) (by omega) (by omega) ⟨by omega, by omega⟩ dL_law_1966 ?_
          refine k_topv (vI 0) rfl ?_
          refine k_iload hC dL_law_1969 1 rfl ?_
          refine k_icmp_eq hC 1976 dL_law_1971 rfl (by omega) (by omega) (fun c_1971 => ?_) (fun c_1971 => absurd c_1971 (by omega))
          refine k_iload hC dL_law_1976 1 rfl ?_
          refine k_if_ne hC 1993 dL_law_1978 rfl (by omega) (fun c_1978 => absurd c_1978 (by omega)) (fun c_1978 => ?_)
          refine k_aload_n hC dL_law_1981 rfl 4 rfl ?_
          refine k_iconst hC dL_law_1982 ?_
          have h_4 : w3 148 = lA G 1 (fun _ => i32 (if 8 ≤ gc 1 then -2 else if (xI xs (i + 1)) ≤ lastM gc then -3 else gc 1)) := (hf3 148 (by decide)).trans h148
          refine k_lald hC (kl hN (by decide)) h_4 (by omega) (by decide) dL_law_1983 ?_
          refine k_topv (vL (i32 (if 8 ≤ gc 1 then -2 else if (xI xs (i + 1)) ≤ lastM gc then -3 else gc 1))) rfl ?_
          refine k_iload hC dL_law_1984 0 rfl ?_
          refine k_topv (vI (i32 b3)) (vI_32 _) ?_
          refine k_i2l hC dL_law_1986 (i32_r _) ?_
          refine k_lcmp_eq hC 1993 dL_law_1987 dL_law_1988 rfl (i32_l _) (i32_l _) (fun c_1987 => ?_) (fun c_1987 => absurd (congrArg i32 (show (if 8 ≤ gc 1 then -2 else if (xI xs (i + 1)) ≤ lastM gc then -3 else gc 1) = b3 from (by rw [e1, hE.last (by omega)]; exact q3.symm))) c_1987)
          refine k_goto hC 2319 dL_law_1993 rfl ?_
          refine k_lvs (ls := [2, 3, 4, 5, 6, 7]) [(5, vI (i : Int)), (4, .ref (kad G 149)), (3, .ref (kad G 148)), (2, .ref (kad G 133)), (1, .ref (kad G 0)), (0, .ref b)] rfl ?_
          have h_5 : w3 149 = dA G 1 oD := (hf3 149 (by decide)).trans ((hf2 149 (by decide)).trans ((congrFun hw2 149).trans o2))
          exact kk w3 fl _ _ (LI.rd hc hm hr hw hT (a5.fr (fun j q1 q2 => (hf3 j (by omega)).trans ((hf2 j (by omega)).trans (congrFun hw2 j)))) (b5.fr (fun j q1 q2 => (hf3 j (by omega)).trans ((hf2 j (by omega)).trans (congrFun hw2 j)))) hm3 ⟨rfl, rfl, rfl, rfl, rfl⟩ ⟨⟨_, h_4⟩, ⟨_, h_5⟩⟩ (fun j hj => (hf3 j (by omega)).trans ((hf2 j (by omega)).trans (congrFun hw2 j)))) (by omega) (by omega)
        · exfalso; have z := hy3.2; omega
      · exact q1.elim
      · exfalso; omega
    · show KW p l e R s m args below meth c 10 G Q w1 fl (cs + 8) (ss + 48) 1939 [(5, vI (i : Int)), (4, .ref (kad G 149)), (3, .ref (kad G 148)), (2, .ref (kad G 133)), (1, .ref (kad G 0)), (0, .ref b)] [vI 0]
      refine k_istore hC [(6, vI 0), (5, vI (i : Int)), (4, .ref (kad G 149)), (3, .ref (kad G 148)), (2, .ref (kad G 133)), (1, .ref (kad G 0)), (0, .ref b)] dL_law_1939 (by decide) rfl ?_
      refine k_aload_n hC dL_law_1941 rfl 4 rfl ?_
      refine k_aload_n hC dL_law_1942 rfl 6 rfl ?_
      refine k_iload hC dL_law_1943 1 rfl ?_
      refine k_iconst hC dL_law_1945 ?_
      refine k_iadd hC dL_law_1946 ?_
      refine k_scr hC hX hbl hbA hL (i + 1) (by omega) (by omega) dL_law_1947 ?_
      refine k_aload_n hC dL_law_1948 rfl 6 rfl ?_
      refine k_iload hC dL_law_1949 1 rfl ?_
      refine k_iconst hC dL_law_1951 ?_
      refine k_iadd hC dL_law_1952 ?_
      refine k_scr hC hX hbl hbA hL (i + 2) (by omega) (by omega) dL_law_1953 ?_
      refine k_aload_n hC dL_law_1954 rfl 6 rfl ?_
      refine k_iload hC dL_law_1955 1 rfl ?_
      refine k_iconst hC dL_law_1957 ?_
      refine k_iadd hC dL_law_1958 ?_
      refine k_scr hC hX hbl hbA hL (i + 3) (by omega) (by omega) dL_law_1959 ?_
      have h_6 : w1 133 = mdO G u := (hf2 133 (by decide)).trans ((hfP 133 (by decide)).trans b0)
      have h_7 : w1 134 = lA G 93 gr := (hf2 134 (by decide)).trans ((hfP 134 (by decide)).trans b1)
      have h_8 : w1 137 = lA G 930 H := (hf2 137 (by decide)).trans ((hfP 137 (by decide)).trans b4)
      refine k_callV hC (c_X12_steer l hls G hN w1 fl u gr H cn (xI xs (i + 1)) (xI xs (i + 2)) (xI xs (i + 3)) (xI_r xs _) (xI_r xs _) (xI_r xs _) hIr r3 acn h_6 h_7 h_8) yy_X12_steer wm_L_199 (kl hN (by decide)) h_6 rfl rfl rfl rfl (Nat.le_of_ble_eq_true rfl) (by omega) (by omega) ⟨by omega, by omega⟩ dL_law_1960 (fun v3 w3 fl3 hp3 => ?_)
      obtain ⟨b3, th3, hv3, hfl3, hR3, hP3⟩ := hp3
      subst hv3
      subst hfl3
      have hlast := hE.last (by omega)
      rcases hR3 with ⟨q1, q2, q3⟩ | ⟨q1, q2⟩ | ⟨q1, q2⟩
      · subst q2
        rcases hP3 with ⟨hn3, hm3, hf3⟩ | ⟨hy3, hm3, hg3, hH3, hf3⟩
        · rcases hn3 with z | z
          · exact absurd rfl z
          · exfalso; omega
        · show KW p l e R s m args below meth c 10 G Q w3 fl (cs + 8) (ss + 48) 1963 [(6, vI 0), (5, vI (i : Int)), (4, .ref (kad G 149)), (3, .ref (kad G 148)), (2, .ref (kad G 133)), (1, .ref (kad G 0)), (0, .ref b)] [vI b3]
          refine k_istore hC [(7, vI b3), (6, vI 0), (5, vI (i : Int)), (4, .ref (kad G 149)), (3, .ref (kad G 148)), (2, .ref (kad G 133)), (1, .ref (kad G 0)), (0, .ref b)] dL_law_1963 (by decide) rfl ?_
          refine k_aload_n hC dL_law_1965 rfl 5 rfl ?_
          refine k_pureV hC (c_X12_thrown l hls G hN w3 fl (kup (kup u 4 (min ((cn : Int) + 1) 10)) 5 0) hm3) yy_X12_thrown wm_L_113 (kl hN (by decide)) hm3 rfl rfl rfl rfl (Nat.le_of_ble_eq_true rfl) (by omega) (by omega) ⟨by omega, by omega⟩ dL_law_1966 ?_
          refine k_topv (vI 0) rfl ?_
          refine k_iload hC dL_law_1969 1 rfl ?_
          refine k_icmp_eq hC 1976 dL_law_1971 rfl (by omega) (by omega) (fun c_1971 => ?_) (fun c_1971 => absurd c_1971 (by omega))
          refine k_iload hC dL_law_1976 1 rfl ?_
          refine k_if_ne hC 1993 dL_law_1978 rfl (by omega) (fun c_1978 => absurd c_1978 (by omega)) (fun c_1978 => ?_)
          refine k_aload_n hC dL_law_1981 rfl 4 rfl ?_
          refine k_iconst hC dL_law_1982 ?_
          have h_9 : w3 148 = lA G 1 (fun _ => i32 (if 8 ≤ gc 1 then -2 else if (xI xs (i + 1)) ≤ lastM gc then -3 else gc 1)) := (hf3 148 (by decide)).trans h148
          refine k_lald hC (kl hN (by decide)) h_9 (by omega) (by decide) dL_law_1983 ?_
          refine k_topv (vL (i32 (if 8 ≤ gc 1 then -2 else if (xI xs (i + 1)) ≤ lastM gc then -3 else gc 1))) rfl ?_
          refine k_iload hC dL_law_1984 0 rfl ?_
          refine k_topv (vI (i32 b3)) (vI_32 _) ?_
          refine k_i2l hC dL_law_1986 (i32_r _) ?_
          refine k_lcmp_eq hC 1993 dL_law_1987 dL_law_1988 rfl (i32_l _) (i32_l _) (fun c_1987 => ?_) (fun c_1987 => absurd (congrArg i32 (show (if 8 ≤ gc 1 then -2 else if (xI xs (i + 1)) ≤ lastM gc then -3 else gc 1) = b3 from (by rw [e1, hE.last (by omega)]; exact q3.symm))) c_1987)
          refine k_goto hC 2319 dL_law_1993 rfl ?_
          refine k_lvs (ls := [2, 3, 4, 5, 6, 7]) [(5, vI (i : Int)), (4, .ref (kad G 149)), (3, .ref (kad G 148)), (2, .ref (kad G 133)), (1, .ref (kad G 0)), (0, .ref b)] rfl ?_
          exact kk w3 fl _ _ (LI.op hc hm hr hw hT (hlg.fr (fun j q1 q2 => hf2 j (by omega))) (hhi.fr (fun j q1 q2 => hf2 j (by omega))) (fun j hj => (hf2 j (by omega)).trans (hfP j (by omega))) ⟨⟨_, h148⟩, ⟨_, (hf2 149 (by decide)).trans ((hfP 149 (by decide)).trans o2)⟩⟩ hm3 hg3 hH3 hf3 (r0.opL (hE.addLeg (by omega) _ _ _) (hIr.addLeg (by omega) (by omega) (by omega) (by omega) (by omega)) (fun j hj => by unfold addLegM; rw [if_neg (by omega)]; rw [if_neg (by omega)]; rw [if_neg (by omega)]; rw [if_neg (by omega)])) (fun j hj => by unfold addLegM; rw [if_neg (by omega)]; rw [if_neg (by omega)]; rw [if_neg (by omega)]; rw [if_neg (by omega)])) (by omega) (by omega)
      · exact q1.elim
      · exfalso; omega
  · exact hcc.elim
  · subst hv
    obtain ⟨hfl, hP⟩ := hP
    subst hfl
    show KW p l e R s m args below meth c 10 G Q w1 fl (cs + 8) (ss + 48) 1939 [(5, vI (i : Int)), (4, .ref (kad G 149)), (3, .ref (kad G 148)), (2, .ref (kad G 133)), (1, .ref (kad G 0)), (0, .ref b)] [vI 1]
    refine k_istore hC [(6, vI 1), (5, vI (i : Int)), (4, .ref (kad G 149)), (3, .ref (kad G 148)), (2, .ref (kad G 133)), (1, .ref (kad G 0)), (0, .ref b)] dL_law_1939 (by decide) rfl ?_
    refine k_aload_n hC dL_law_1941 rfl 4 rfl ?_
    refine k_aload_n hC dL_law_1942 rfl 6 rfl ?_
    refine k_iload hC dL_law_1943 1 rfl ?_
    refine k_iconst hC dL_law_1945 ?_
    refine k_iadd hC dL_law_1946 ?_
    refine k_scr hC hX hbl hbA hL (i + 1) (by omega) (by omega) dL_law_1947 ?_
    refine k_aload_n hC dL_law_1948 rfl 6 rfl ?_
    refine k_iload hC dL_law_1949 1 rfl ?_
    refine k_iconst hC dL_law_1951 ?_
    refine k_iadd hC dL_law_1952 ?_
    refine k_scr hC hX hbl hbA hL (i + 2) (by omega) (by omega) dL_law_1953 ?_
    refine k_aload_n hC dL_law_1954 rfl 6 rfl ?_
    refine k_iload hC dL_law_1955 1 rfl ?_
    refine k_iconst hC dL_law_1957 ?_
    refine k_iadd hC dL_law_1958 ?_
    refine k_scr hC hX hbl hbA hL (i + 3) (by omega) (by omega) dL_law_1959 ?_
    have h_10 : w1 133 = mdO G u := (congrFun hP 133).trans b0
    have h_11 : w1 134 = lA G 93 gr := (congrFun hP 134).trans b1
    have h_12 : w1 137 = lA G 930 H := (congrFun hP 137).trans b4
    refine k_callV hC (c_X12_steer l hls G hN w1 fl u gr H cn (xI xs (i + 1)) (xI xs (i + 2)) (xI xs (i + 3)) (xI_r xs _) (xI_r xs _) (xI_r xs _) hIr r3 acn h_10 h_11 h_12) yy_X12_steer wm_L_199 (kl hN (by decide)) h_10 rfl rfl rfl rfl (Nat.le_of_ble_eq_true rfl) (by omega) (by omega) ⟨by omega, by omega⟩ dL_law_1960 (fun v3 w3 fl3 hp3 => ?_)
    obtain ⟨b3, th3, hv3, hfl3, hR3, hP3⟩ := hp3
    subst hv3
    subst hfl3
    have hlast := hE.last (by omega)
    rcases hR3 with ⟨q1, q2, q3⟩ | ⟨q1, q2⟩ | ⟨q1, q2⟩
    · exfalso; omega
    · exact q1.elim
    · subst q2
      rcases hP3 with ⟨hn3, hm3, hf3⟩ | ⟨hy3, hm3, hg3, hH3, hf3⟩
      · show KW p l e R s m args below meth c 10 G Q w3 fl (cs + 8) (ss + 48) 1963 [(6, vI 1), (5, vI (i : Int)), (4, .ref (kad G 149)), (3, .ref (kad G 148)), (2, .ref (kad G 133)), (1, .ref (kad G 0)), (0, .ref b)] [vI b3]
        refine k_istore hC [(7, vI b3), (6, vI 1), (5, vI (i : Int)), (4, .ref (kad G 149)), (3, .ref (kad G 148)), (2, .ref (kad G 133)), (1, .ref (kad G 0)), (0, .ref b)] dL_law_1963 (by decide) rfl ?_
        refine k_aload_n hC dL_law_1965 rfl 5 rfl ?_
        refine k_pureV hC (c_X12_thrown l hls G hN w3 fl (kup u 5 1) hm3) yy_X12_thrown wm_L_113 (kl hN (by decide)) hm3 rfl rfl rfl rfl (Nat.le_of_ble_eq_true rfl) (by omega) (by omega) ⟨by omega, by omega⟩ dL_law_1966 ?_
        refine k_topv (vI 1) rfl ?_
        refine k_iload hC dL_law_1969 1 rfl ?_
        refine k_icmp_eq hC 1976 dL_law_1971 rfl (by omega) (by omega) (fun c_1971 => ?_) (fun c_1971 => absurd c_1971 (by omega))
        refine k_iload hC dL_law_1976 1 rfl ?_
        refine k_if_ne hC 1993 dL_law_1978 rfl (by omega) (fun c_1978 => ?_) (fun c_1978 => absurd c_1978 (by omega))
        refine k_goto hC 2319 dL_law_1993 rfl ?_
        refine k_lvs (ls := [2, 3, 4, 5, 6, 7]) [(5, vI (i : Int)), (4, .ref (kad G 149)), (3, .ref (kad G 148)), (2, .ref (kad G 133)), (1, .ref (kad G 0)), (0, .ref b)] rfl ?_
        have h_13 : w3 148 = lA G 1 out := (hf3 148 (by decide)).trans ((congrFun hP 148).trans o1)
        have h_14 : w3 149 = dA G 1 oD := (hf3 149 (by decide)).trans ((congrFun hP 149).trans o2)
        exact kk w3 fl _ _ (LI.rd hc hm hr hw hT (a5.fr (fun j q1 q2 => (hf3 j (by omega)).trans (congrFun hP j))) (b5.fr (fun j q1 q2 => (hf3 j (by omega)).trans (congrFun hP j))) hm3 ⟨rfl, rfl, rfl, rfl, rfl⟩ ⟨⟨_, h_13⟩, ⟨_, h_14⟩⟩ (fun j hj => (hf3 j (by omega)).trans (congrFun hP j))) (by omega) (by omega)
      · exfalso; exact absurd hy3.1 (by decide)

set_option maxRecDepth 100000 in
set_option maxHeartbeats 4000000 in
theorem lw_setCurrent {p : Program} {l : Launch} {e : Env} {R : Room} {s : State} {m : MethodId} {args : Array Value} {below : List Frame} {meth : Method} {c : Code} {G : kG} {d0 mc0 ms0 : Nat} {Q : State → Prop} {b L : Nat} {xs : Nat → Int32} (hC : kC p l R s m args meth c cL_law RL 10 G d0 mc0 ms0) (hls : l.stackTraces = false) (hN : kN G = 150) (hNc : va_Nc "java/lang/IllegalArgumentException" "java/util/NoSuchElementException" s) (hX : va_X b L xs s s.heap) (hbl : b < s.heap.size) (hbA : ¬ kA G b) (hL : L ≤ 3584) (hd0 : 60 ≤ d0) {cs ss : Nat} (hcs : cs + 16 ≤ mc0 ∧ ss + 400 ≤ ms0) (i : Nat) (hi : i + 7 ≤ L) (w : Nat → va_E) (fl : va_W) (hLI : LI G w fl)
    (kk : ∀ (w' : Nat → va_E) (fl' : va_W) (cs' ss' : Nat), LI G w' fl' → cs' ≤ cs + 16 → ss' ≤ ss + 400 → KW p l e R s m args below meth c 10 G Q w' fl' cs' ss' 2319 [(5, vI (i : Int)), (4, .ref (kad G 149)), (3, .ref (kad G 148)), (2, .ref (kad G 133)), (1, .ref (kad G 0)), (0, .ref b)] []) : KW p l e R s m args below meth c 10 G Q w fl cs ss 1996 [(5, vI (i : Int)), (4, .ref (kad G 149)), (3, .ref (kad G 148)), (2, .ref (kad G 133)), (1, .ref (kad G 0)), (0, .ref b)] [] := by
  obtain ⟨bt, gc, nl, gp0, nl9, gl0, gs, c0, nx, cn, cap, cd, ea, kd, nm, sa, nx9, en, sv, hs, T, u, gr, D0, sp, H, hc, hm, ho, hr, hw, hT⟩ := hLI
  have hc1 := hc
  have hm1 := hm
  have hr1 := hr
  have ho1 := ho
  obtain ⟨⟨a0, asv⟩, a1, ⟨a2, abt, ac7⟩, a3, a4, a5, a6, ⟨a7, anx, acn⟩, ⟨a8, a9, a10⟩, ⟨a11, a12, a13⟩, a14⟩ := hc1
  obtain ⟨b0, b1, b2, b3, b4, b5, b6, b7, ⟨cf, b8⟩, ⟨fq, b9⟩⟩ := hm1
  obtain ⟨⟨out, o1⟩, ⟨oD, o2⟩⟩ := ho1
  obtain ⟨r0, r1, r2, r3, r4, r5, r6⟩ := hr1
  have hI := r0.inv
  have hIr := r0.2.1
  have hE := r0.1
  have e0 := hE.n 0 (by decide)
  have e1 := hE.n 1 (by decide)
  have e2 := hE.n 2 (by decide)
  have hgc := hI.c
  refine k_aload_n hC dL_law_1996 rfl 4 rfl ?_
  refine k_aload_n hC dL_law_1997 rfl 5 rfl ?_
  refine k_iload hC dL_law_1998 0 rfl ?_
  refine k_iconst hC dL_law_2000 ?_
  refine k_iadd hC dL_law_2001 ?_
  refine k_scr hC hX hbl hbA hL (i + 1) (by omega) (by omega) dL_law_2002 ?_
  refine k_aload_n hC dL_law_2003 rfl 5 rfl ?_
  refine k_iload hC dL_law_2004 0 rfl ?_
  refine k_iconst hC dL_law_2006 ?_
  refine k_iadd hC dL_law_2007 ?_
  refine k_scr hC hX hbl hbA hL (i + 2) (by omega) (by omega) dL_law_2008 ?_
  refine k_aload_n hC dL_law_2009 rfl 2 rfl ?_
  refine k_callL hC hNc (n := 4) (c_L_setCurrent l hls G hN w fl gc nl sv hs nx (cn : Int) (xI xs (i + 1)) (xI xs (i + 2)) out (xI_r xs _) (xI_r xs _) anx (by omega) a7 hI a0 a3 a4 a5 o1) wc_L_setCurrent wz_L (by decide +kernel) wt_L_setCurrent wm_L_200 rfl rfl (Nat.le_of_ble_eq_true rfl) (by omega) (by omega) ⟨by omega, by omega⟩ dL_law_2010 (fun v1 w1 fl1 hp => ?_)
  rcases hp with ⟨hv, hcc, w2, hP, h148, hf2⟩ | ⟨hP, ⟨hcc, hv⟩ | ⟨hcc, hv⟩⟩
  · subst hv
    obtain ⟨hfl, hP⟩ := hP
    subst hfl
    obtain ⟨hlg, hhi, hfP⟩ := hP
    show KW p l e R s m args below meth c 10 G Q w1 fl (cs + 8) (ss + 48) 2013 [(5, vI (i : Int)), (4, .ref (kad G 149)), (3, .ref (kad G 148)), (2, .ref (kad G 133)), (1, .ref (kad G 0)), (0, .ref b)] [vI 0]
    refine k_istore hC [(6, vI 0), (5, vI (i : Int)), (4, .ref (kad G 149)), (3, .ref (kad G 148)), (2, .ref (kad G 133)), (1, .ref (kad G 0)), (0, .ref b)] dL_law_2013 (by decide) rfl ?_
    refine k_aload_n hC dL_law_2015 rfl 4 rfl ?_
    refine k_aload_n hC dL_law_2016 rfl 6 rfl ?_
    refine k_iload hC dL_law_2017 1 rfl ?_
    refine k_iconst hC dL_law_2019 ?_
    refine k_iadd hC dL_law_2020 ?_
    refine k_scr hC hX hbl hbA hL (i + 1) (by omega) (by omega) dL_law_2021 ?_
    refine k_aload_n hC dL_law_2022 rfl 6 rfl ?_
    refine k_iload hC dL_law_2023 1 rfl ?_
    refine k_iconst hC dL_law_2025 ?_
    refine k_iadd hC dL_law_2026 ?_
    refine k_scr hC hX hbl hbA hL (i + 2) (by omega) (by omega) dL_law_2027 ?_
    have h_1 : w1 133 = mdO G u := (hf2 133 (by decide)).trans ((hfP 133 (by decide)).trans b0)
    have h_2 : w1 134 = lA G 93 gr := (hf2 134 (by decide)).trans ((hfP 134 (by decide)).trans b1)
    have h_3 : w1 137 = lA G 930 H := (hf2 137 (by decide)).trans ((hfP 137 (by decide)).trans b4)
    refine k_callV hC (c_X12_setCurrent l hls G hN w1 fl u gr H cn (xI xs (i + 1)) (xI xs (i + 2)) (xI_r xs _) (xI_r xs _) hIr r3 acn h_1 h_2 h_3) yy_X12_setCurrent wm_L_202 (kl hN (by decide)) h_1 rfl rfl rfl rfl (Nat.le_of_ble_eq_true rfl) (by omega) (by omega) ⟨by omega, by omega⟩ dL_law_2028 (fun v3 w3 fl3 hp3 => ?_)
    obtain ⟨b3, th3, hv3, hfl3, hR3, hP3⟩ := hp3
    subst hv3
    subst hfl3
    rcases hR3 with ⟨q1, q2, q3⟩ | ⟨q1, q2⟩ | ⟨q1, q2⟩
    · subst q2
      rcases hP3 with ⟨hn3, hm3, hf3⟩ | ⟨hy3, hm3, hg3, hH3, hf3⟩
      · rcases hn3 with z | z
        · exact absurd rfl z
        · exact z.elim
      · show KW p l e R s m args below meth c 10 G Q w3 fl (cs + 8) (ss + 48) 2031 [(6, vI 0), (5, vI (i : Int)), (4, .ref (kad G 149)), (3, .ref (kad G 148)), (2, .ref (kad G 133)), (1, .ref (kad G 0)), (0, .ref b)] [vI b3]
        refine k_istore hC [(7, vI b3), (6, vI 0), (5, vI (i : Int)), (4, .ref (kad G 149)), (3, .ref (kad G 148)), (2, .ref (kad G 133)), (1, .ref (kad G 0)), (0, .ref b)] dL_law_2031 (by decide) rfl ?_
        refine k_aload_n hC dL_law_2033 rfl 5 rfl ?_
        refine k_pureV hC (c_X12_thrown l hls G hN w3 fl (kup (kup u 4 (min ((cn : Int) + 1) 10)) 5 0) hm3) yy_X12_thrown wm_L_113 (kl hN (by decide)) hm3 rfl rfl rfl rfl (Nat.le_of_ble_eq_true rfl) (by omega) (by omega) ⟨by omega, by omega⟩ dL_law_2034 ?_
        refine k_topv (vI 0) rfl ?_
        refine k_iload hC dL_law_2037 1 rfl ?_
        refine k_icmp_eq hC 2044 dL_law_2039 rfl (by omega) (by omega) (fun c_2039 => ?_) (fun c_2039 => absurd c_2039 (by omega))
        refine k_iload hC dL_law_2044 1 rfl ?_
        refine k_if_ne hC 2061 dL_law_2046 rfl (by omega) (fun c_2046 => absurd c_2046 (by omega)) (fun c_2046 => ?_)
        refine k_aload_n hC dL_law_2049 rfl 4 rfl ?_
        refine k_iconst hC dL_law_2050 ?_
        have h_4 : w3 148 = lA G 1 (fun _ => i32 (gc 8)) := (hf3 148 (by decide)).trans h148
        refine k_lald hC (kl hN (by decide)) h_4 (by omega) (by decide) dL_law_2051 ?_
        refine k_topv (vL (i32 (gc 8))) rfl ?_
        refine k_iload hC dL_law_2052 0 rfl ?_
        refine k_topv (vI (i32 b3)) (vI_32 _) ?_
        refine k_i2l hC dL_law_2054 (i32_r _) ?_
        refine k_lcmp_eq hC 2061 dL_law_2055 dL_law_2056 rfl (i32_l _) (i32_l _) (fun c_2055 => ?_) (fun c_2055 => absurd (congrArg i32 (show (gc 8) = b3 from (hE.n 8 (by decide)).trans q3.symm)) c_2055)
        refine k_goto hC 2319 dL_law_2061 rfl ?_
        refine k_lvs (ls := [2, 3, 4, 5, 6, 7]) [(5, vI (i : Int)), (4, .ref (kad G 149)), (3, .ref (kad G 148)), (2, .ref (kad G 133)), (1, .ref (kad G 0)), (0, .ref b)] rfl ?_
        exact kk w3 fl _ _ (LI.op hc hm hr hw hT (hlg.fr (fun j q1 q2 => hf2 j (by omega))) (hhi.fr (fun j q1 q2 => hf2 j (by omega))) (fun j hj => (hf2 j (by omega)).trans (hfP j (by omega))) ⟨⟨_, h148⟩, ⟨_, (hf2 149 (by decide)).trans ((hfP 149 (by decide)).trans o2)⟩⟩ hm3 hg3 hH3 hf3 (r0.opL (hE.set (by decide) (by decide) _ _) (hIr.set (Or.inr ⟨rfl, rfl, by omega, by omega⟩)) (fun j hj => by unfold setM; rw [if_neg (by omega)]; rw [if_neg (by omega)])) (fun j hj => by unfold setM; rw [if_neg (by omega)]; rw [if_neg (by omega)])) (by omega) (by omega)
    · exact q1.elim
    · exfalso; omega
  · exact hcc.elim
  · subst hv
    obtain ⟨hfl, hP⟩ := hP
    subst hfl
    show KW p l e R s m args below meth c 10 G Q w1 fl (cs + 8) (ss + 48) 2013 [(5, vI (i : Int)), (4, .ref (kad G 149)), (3, .ref (kad G 148)), (2, .ref (kad G 133)), (1, .ref (kad G 0)), (0, .ref b)] [vI 1]
    refine k_istore hC [(6, vI 1), (5, vI (i : Int)), (4, .ref (kad G 149)), (3, .ref (kad G 148)), (2, .ref (kad G 133)), (1, .ref (kad G 0)), (0, .ref b)] dL_law_2013 (by decide) rfl ?_
    refine k_aload_n hC dL_law_2015 rfl 4 rfl ?_
    refine k_aload_n hC dL_law_2016 rfl 6 rfl ?_
    refine k_iload hC dL_law_2017 1 rfl ?_
    refine k_iconst hC dL_law_2019 ?_
    refine k_iadd hC dL_law_2020 ?_
    refine k_scr hC hX hbl hbA hL (i + 1) (by omega) (by omega) dL_law_2021 ?_
    refine k_aload_n hC dL_law_2022 rfl 6 rfl ?_
    refine k_iload hC dL_law_2023 1 rfl ?_
    refine k_iconst hC dL_law_2025 ?_
    refine k_iadd hC dL_law_2026 ?_
    refine k_scr hC hX hbl hbA hL (i + 2) (by omega) (by omega) dL_law_2027 ?_
    have h_5 : w1 133 = mdO G u := (congrFun hP 133).trans b0
    have h_6 : w1 134 = lA G 93 gr := (congrFun hP 134).trans b1
    have h_7 : w1 137 = lA G 930 H := (congrFun hP 137).trans b4
    refine k_callV hC (c_X12_setCurrent l hls G hN w1 fl u gr H cn (xI xs (i + 1)) (xI xs (i + 2)) (xI_r xs _) (xI_r xs _) hIr r3 acn h_5 h_6 h_7) yy_X12_setCurrent wm_L_202 (kl hN (by decide)) h_5 rfl rfl rfl rfl (Nat.le_of_ble_eq_true rfl) (by omega) (by omega) ⟨by omega, by omega⟩ dL_law_2028 (fun v3 w3 fl3 hp3 => ?_)
    obtain ⟨b3, th3, hv3, hfl3, hR3, hP3⟩ := hp3
    subst hv3
    subst hfl3
    rcases hR3 with ⟨q1, q2, q3⟩ | ⟨q1, q2⟩ | ⟨q1, q2⟩
    · exfalso; omega
    · exact q1.elim
    · subst q2
      rcases hP3 with ⟨hn3, hm3, hf3⟩ | ⟨hy3, hm3, hg3, hH3, hf3⟩
      · show KW p l e R s m args below meth c 10 G Q w3 fl (cs + 8) (ss + 48) 2031 [(6, vI 1), (5, vI (i : Int)), (4, .ref (kad G 149)), (3, .ref (kad G 148)), (2, .ref (kad G 133)), (1, .ref (kad G 0)), (0, .ref b)] [vI b3]
        refine k_istore hC [(7, vI b3), (6, vI 1), (5, vI (i : Int)), (4, .ref (kad G 149)), (3, .ref (kad G 148)), (2, .ref (kad G 133)), (1, .ref (kad G 0)), (0, .ref b)] dL_law_2031 (by decide) rfl ?_
        refine k_aload_n hC dL_law_2033 rfl 5 rfl ?_
        refine k_pureV hC (c_X12_thrown l hls G hN w3 fl (kup u 5 1) hm3) yy_X12_thrown wm_L_113 (kl hN (by decide)) hm3 rfl rfl rfl rfl (Nat.le_of_ble_eq_true rfl) (by omega) (by omega) ⟨by omega, by omega⟩ dL_law_2034 ?_
        refine k_topv (vI 1) rfl ?_
        refine k_iload hC dL_law_2037 1 rfl ?_
        refine k_icmp_eq hC 2044 dL_law_2039 rfl (by omega) (by omega) (fun c_2039 => ?_) (fun c_2039 => absurd c_2039 (by omega))
        refine k_iload hC dL_law_2044 1 rfl ?_
        refine k_if_ne hC 2061 dL_law_2046 rfl (by omega) (fun c_2046 => ?_) (fun c_2046 => absurd c_2046 (by omega))
        refine k_goto hC 2319 dL_law_2061 rfl ?_
        refine k_lvs (ls := [2, 3, 4, 5, 6, 7]) [(5, vI (i : Int)), (4, .ref (kad G 149)), (3, .ref (kad G 148)), (2, .ref (kad G 133)), (1, .ref (kad G 0)), (0, .ref b)] rfl ?_
        have h_8 : w3 148 = lA G 1 out := (hf3 148 (by decide)).trans ((congrFun hP 148).trans o1)
        have h_9 : w3 149 = dA G 1 oD := (hf3 149 (by decide)).trans ((congrFun hP 149).trans o2)
        exact kk w3 fl _ _ (LI.rd hc hm hr hw hT (a5.fr (fun j q1 q2 => (hf3 j (by omega)).trans (congrFun hP j))) (b5.fr (fun j q1 q2 => (hf3 j (by omega)).trans (congrFun hP j))) hm3 ⟨rfl, rfl, rfl, rfl, rfl⟩ ⟨⟨_, h_8⟩, ⟨_, h_9⟩⟩ (fun j hj => (hf3 j (by omega)).trans (congrFun hP j))) (by omega) (by omega)
      · exfalso; exact absurd hy3.1 (by decide)

set_option maxRecDepth 100000 in
set_option maxHeartbeats 4000000 in
theorem lw_correct {p : Program} {l : Launch} {e : Env} {R : Room} {s : State} {m : MethodId} {args : Array Value} {below : List Frame} {meth : Method} {c : Code} {G : kG} {d0 mc0 ms0 : Nat} {Q : State → Prop} {b L : Nat} {xs : Nat → Int32} (hC : kC p l R s m args meth c cL_law RL 10 G d0 mc0 ms0) (hls : l.stackTraces = false) (hN : kN G = 150) (hNc : va_Nc "java/lang/IllegalArgumentException" "java/util/NoSuchElementException" s) (hX : va_X b L xs s s.heap) (hbl : b < s.heap.size) (hbA : ¬ kA G b) (hL : L ≤ 3584) (hd0 : 60 ≤ d0) {cs ss : Nat} (hcs : cs + 16 ≤ mc0 ∧ ss + 400 ≤ ms0) (i : Nat) (hi : i + 7 ≤ L) (w : Nat → va_E) (fl : va_W) (hLI : LI G w fl)
    (kk : ∀ (w' : Nat → va_E) (fl' : va_W) (cs' ss' : Nat), LI G w' fl' → cs' ≤ cs + 16 → ss' ≤ ss + 400 → KW p l e R s m args below meth c 10 G Q w' fl' cs' ss' 2319 [(5, vI (i : Int)), (4, .ref (kad G 149)), (3, .ref (kad G 148)), (2, .ref (kad G 133)), (1, .ref (kad G 0)), (0, .ref b)] []) : KW p l e R s m args below meth c 10 G Q w fl cs ss 2064 [(5, vI (i : Int)), (4, .ref (kad G 149)), (3, .ref (kad G 148)), (2, .ref (kad G 133)), (1, .ref (kad G 0)), (0, .ref b)] [] := by
  obtain ⟨bt, gc, nl, gp0, nl9, gl0, gs, c0, nx, cn, cap, cd, ea, kd, nm, sa, nx9, en, sv, hs, T, u, gr, D0, sp, H, hc, hm, ho, hr, hw, hT⟩ := hLI
  have hc1 := hc
  have hm1 := hm
  have hr1 := hr
  have ho1 := ho
  obtain ⟨⟨a0, asv⟩, a1, ⟨a2, abt, ac7⟩, a3, a4, a5, a6, ⟨a7, anx, acn⟩, ⟨a8, a9, a10⟩, ⟨a11, a12, a13⟩, a14⟩ := hc1
  obtain ⟨b0, b1, b2, b3, b4, b5, b6, b7, ⟨cf, b8⟩, ⟨fq, b9⟩⟩ := hm1
  obtain ⟨⟨out, o1⟩, ⟨oD, o2⟩⟩ := ho1
  obtain ⟨r0, r1, r2, r3, r4, r5, r6⟩ := hr1
  have hI := r0.inv
  have hIr := r0.2.1
  have hE := r0.1
  have e0 := hE.n 0 (by decide)
  have e1 := hE.n 1 (by decide)
  have e2 := hE.n 2 (by decide)
  have hgc := hI.c
  refine k_aload_n hC dL_law_2064 rfl 4 rfl ?_
  refine k_aload_n hC dL_law_2065 rfl 5 rfl ?_
  refine k_iload hC dL_law_2066 0 rfl ?_
  refine k_iconst hC dL_law_2068 ?_
  refine k_iadd hC dL_law_2069 ?_
  refine k_scr hC hX hbl hbA hL (i + 1) (by omega) (by omega) dL_law_2070 ?_
  refine k_aload_n hC dL_law_2071 rfl 5 rfl ?_
  refine k_iload hC dL_law_2072 0 rfl ?_
  refine k_iconst hC dL_law_2074 ?_
  refine k_iadd hC dL_law_2075 ?_
  refine k_scr hC hX hbl hbA hL (i + 2) (by omega) (by omega) dL_law_2076 ?_
  refine k_aload_n hC dL_law_2077 rfl 2 rfl ?_
  refine k_callL hC hNc (n := 4) (c_L_correct l hls G hN w fl gc nl sv hs nx (cn : Int) (xI xs (i + 1)) (xI xs (i + 2)) out (xI_r xs _) (xI_r xs _) anx (by omega) a7 hI a0 a3 a4 a5 o1) wc_L_correct wz_L (by decide +kernel) wt_L_correct wm_L_203 rfl rfl (Nat.le_of_ble_eq_true rfl) (by omega) (by omega) ⟨by omega, by omega⟩ dL_law_2078 (fun v1 w1 fl1 hp => ?_)
  rcases hp with ⟨hv, hcc, w2, hP, h148, hf2⟩ | ⟨hP, ⟨hcc, hv⟩ | ⟨hcc, hv⟩⟩
  · subst hv
    obtain ⟨hfl, hP⟩ := hP
    subst hfl
    obtain ⟨hlg, hhi, hfP⟩ := hP
    show KW p l e R s m args below meth c 10 G Q w1 fl (cs + 8) (ss + 48) 2081 [(5, vI (i : Int)), (4, .ref (kad G 149)), (3, .ref (kad G 148)), (2, .ref (kad G 133)), (1, .ref (kad G 0)), (0, .ref b)] [vI 0]
    refine k_istore hC [(6, vI 0), (5, vI (i : Int)), (4, .ref (kad G 149)), (3, .ref (kad G 148)), (2, .ref (kad G 133)), (1, .ref (kad G 0)), (0, .ref b)] dL_law_2081 (by decide) rfl ?_
    refine k_aload_n hC dL_law_2083 rfl 4 rfl ?_
    refine k_aload_n hC dL_law_2084 rfl 6 rfl ?_
    refine k_iload hC dL_law_2085 1 rfl ?_
    refine k_iconst hC dL_law_2087 ?_
    refine k_iadd hC dL_law_2088 ?_
    refine k_scr hC hX hbl hbA hL (i + 1) (by omega) (by omega) dL_law_2089 ?_
    refine k_aload_n hC dL_law_2090 rfl 6 rfl ?_
    refine k_iload hC dL_law_2091 1 rfl ?_
    refine k_iconst hC dL_law_2093 ?_
    refine k_iadd hC dL_law_2094 ?_
    refine k_scr hC hX hbl hbA hL (i + 2) (by omega) (by omega) dL_law_2095 ?_
    have h_1 : w1 133 = mdO G u := (hf2 133 (by decide)).trans ((hfP 133 (by decide)).trans b0)
    have h_2 : w1 134 = lA G 93 gr := (hf2 134 (by decide)).trans ((hfP 134 (by decide)).trans b1)
    have h_3 : w1 137 = lA G 930 H := (hf2 137 (by decide)).trans ((hfP 137 (by decide)).trans b4)
    refine k_callV hC (c_X12_correct l hls G hN w1 fl u gr H cn (xI xs (i + 1)) (xI xs (i + 2)) (xI_r xs _) (xI_r xs _) hIr r3 acn h_1 h_2 h_3) yy_X12_correct wm_L_205 (kl hN (by decide)) h_1 rfl rfl rfl rfl (Nat.le_of_ble_eq_true rfl) (by omega) (by omega) ⟨by omega, by omega⟩ dL_law_2096 (fun v3 w3 fl3 hp3 => ?_)
    obtain ⟨b3, th3, hv3, hfl3, hR3, hP3⟩ := hp3
    subst hv3
    subst hfl3
    rcases hR3 with ⟨q1, q2, q3⟩ | ⟨q1, q2⟩ | ⟨q1, q2⟩
    · subst q2
      rcases hP3 with ⟨hn3, hm3, hf3⟩ | ⟨hy3, hm3, hg3, hH3, hf3⟩
      · rcases hn3 with z | z
        · exact absurd rfl z
        · exact z.elim
      · show KW p l e R s m args below meth c 10 G Q w3 fl (cs + 8) (ss + 48) 2099 [(6, vI 0), (5, vI (i : Int)), (4, .ref (kad G 149)), (3, .ref (kad G 148)), (2, .ref (kad G 133)), (1, .ref (kad G 0)), (0, .ref b)] [vI b3]
        refine k_istore hC [(7, vI b3), (6, vI 0), (5, vI (i : Int)), (4, .ref (kad G 149)), (3, .ref (kad G 148)), (2, .ref (kad G 133)), (1, .ref (kad G 0)), (0, .ref b)] dL_law_2099 (by decide) rfl ?_
        refine k_aload_n hC dL_law_2101 rfl 5 rfl ?_
        refine k_pureV hC (c_X12_thrown l hls G hN w3 fl (kup (kup u 4 (min ((cn : Int) + 1) 10)) 5 0) hm3) yy_X12_thrown wm_L_113 (kl hN (by decide)) hm3 rfl rfl rfl rfl (Nat.le_of_ble_eq_true rfl) (by omega) (by omega) ⟨by omega, by omega⟩ dL_law_2102 ?_
        refine k_topv (vI 0) rfl ?_
        refine k_iload hC dL_law_2105 1 rfl ?_
        refine k_icmp_eq hC 2112 dL_law_2107 rfl (by omega) (by omega) (fun c_2107 => ?_) (fun c_2107 => absurd c_2107 (by omega))
        refine k_iload hC dL_law_2112 1 rfl ?_
        refine k_if_ne hC 2129 dL_law_2114 rfl (by omega) (fun c_2114 => absurd c_2114 (by omega)) (fun c_2114 => ?_)
        refine k_aload_n hC dL_law_2117 rfl 4 rfl ?_
        refine k_iconst hC dL_law_2118 ?_
        have h_4 : w3 148 = lA G 1 (fun _ => i32 (dipM (setM gc 5 (xI xs (i + 1)) 6 (xI xs (i + 2))))) := (hf3 148 (by decide)).trans h148
        refine k_lald hC (kl hN (by decide)) h_4 (by omega) (by decide) dL_law_2119 ?_
        refine k_topv (vL (i32 (dipM (setM gc 5 (xI xs (i + 1)) 6 (xI xs (i + 2)))))) rfl ?_
        refine k_iload hC dL_law_2120 0 rfl ?_
        refine k_topv (vI (i32 b3)) (vI_32 _) ?_
        refine k_i2l hC dL_law_2122 (i32_r _) ?_
        refine k_lcmp_eq hC 2129 dL_law_2123 dL_law_2124 rfl (i32_l _) (i32_l _) (fun c_2123 => ?_) (fun c_2123 => absurd (congrArg i32 (show (dipM (setM gc 5 (xI xs (i + 1)) 6 (xI xs (i + 2)))) = b3 from ((hE.set (by decide) (by decide) _ _).dip).trans q3.symm)) c_2123)
        refine k_goto hC 2319 dL_law_2129 rfl ?_
        refine k_lvs (ls := [2, 3, 4, 5, 6, 7]) [(5, vI (i : Int)), (4, .ref (kad G 149)), (3, .ref (kad G 148)), (2, .ref (kad G 133)), (1, .ref (kad G 0)), (0, .ref b)] rfl ?_
        exact kk w3 fl _ _ (LI.op hc hm hr hw hT (hlg.fr (fun j q1 q2 => hf2 j (by omega))) (hhi.fr (fun j q1 q2 => hf2 j (by omega))) (fun j hj => (hf2 j (by omega)).trans (hfP j (by omega))) ⟨⟨_, h148⟩, ⟨_, (hf2 149 (by decide)).trans ((hfP 149 (by decide)).trans o2)⟩⟩ hm3 hg3 hH3 hf3 (r0.opL (hE.set (by decide) (by decide) _ _) (hIr.set (Or.inl ⟨rfl, rfl, by omega, by omega⟩)) (fun j hj => by unfold setM; rw [if_neg (by omega)]; rw [if_neg (by omega)])) (fun j hj => by unfold setM; rw [if_neg (by omega)]; rw [if_neg (by omega)])) (by omega) (by omega)
    · exact q1.elim
    · exfalso; omega
  · exact hcc.elim
  · subst hv
    obtain ⟨hfl, hP⟩ := hP
    subst hfl
    show KW p l e R s m args below meth c 10 G Q w1 fl (cs + 8) (ss + 48) 2081 [(5, vI (i : Int)), (4, .ref (kad G 149)), (3, .ref (kad G 148)), (2, .ref (kad G 133)), (1, .ref (kad G 0)), (0, .ref b)] [vI 1]
    refine k_istore hC [(6, vI 1), (5, vI (i : Int)), (4, .ref (kad G 149)), (3, .ref (kad G 148)), (2, .ref (kad G 133)), (1, .ref (kad G 0)), (0, .ref b)] dL_law_2081 (by decide) rfl ?_
    refine k_aload_n hC dL_law_2083 rfl 4 rfl ?_
    refine k_aload_n hC dL_law_2084 rfl 6 rfl ?_
    refine k_iload hC dL_law_2085 1 rfl ?_
    refine k_iconst hC dL_law_2087 ?_
    refine k_iadd hC dL_law_2088 ?_
    refine k_scr hC hX hbl hbA hL (i + 1) (by omega) (by omega) dL_law_2089 ?_
    refine k_aload_n hC dL_law_2090 rfl 6 rfl ?_
    refine k_iload hC dL_law_2091 1 rfl ?_
    refine k_iconst hC dL_law_2093 ?_
    refine k_iadd hC dL_law_2094 ?_
    refine k_scr hC hX hbl hbA hL (i + 2) (by omega) (by omega) dL_law_2095 ?_
    have h_5 : w1 133 = mdO G u := (congrFun hP 133).trans b0
    have h_6 : w1 134 = lA G 93 gr := (congrFun hP 134).trans b1
    have h_7 : w1 137 = lA G 930 H := (congrFun hP 137).trans b4
    refine k_callV hC (c_X12_correct l hls G hN w1 fl u gr H cn (xI xs (i + 1)) (xI xs (i + 2)) (xI_r xs _) (xI_r xs _) hIr r3 acn h_5 h_6 h_7) yy_X12_correct wm_L_205 (kl hN (by decide)) h_5 rfl rfl rfl rfl (Nat.le_of_ble_eq_true rfl) (by omega) (by omega) ⟨by omega, by omega⟩ dL_law_2096 (fun v3 w3 fl3 hp3 => ?_)
    obtain ⟨b3, th3, hv3, hfl3, hR3, hP3⟩ := hp3
    subst hv3
    subst hfl3
    rcases hR3 with ⟨q1, q2, q3⟩ | ⟨q1, q2⟩ | ⟨q1, q2⟩
    · exfalso; omega
    · exact q1.elim
    · subst q2
      rcases hP3 with ⟨hn3, hm3, hf3⟩ | ⟨hy3, hm3, hg3, hH3, hf3⟩
      · show KW p l e R s m args below meth c 10 G Q w3 fl (cs + 8) (ss + 48) 2099 [(6, vI 1), (5, vI (i : Int)), (4, .ref (kad G 149)), (3, .ref (kad G 148)), (2, .ref (kad G 133)), (1, .ref (kad G 0)), (0, .ref b)] [vI b3]
        refine k_istore hC [(7, vI b3), (6, vI 1), (5, vI (i : Int)), (4, .ref (kad G 149)), (3, .ref (kad G 148)), (2, .ref (kad G 133)), (1, .ref (kad G 0)), (0, .ref b)] dL_law_2099 (by decide) rfl ?_
        refine k_aload_n hC dL_law_2101 rfl 5 rfl ?_
        refine k_pureV hC (c_X12_thrown l hls G hN w3 fl (kup u 5 1) hm3) yy_X12_thrown wm_L_113 (kl hN (by decide)) hm3 rfl rfl rfl rfl (Nat.le_of_ble_eq_true rfl) (by omega) (by omega) ⟨by omega, by omega⟩ dL_law_2102 ?_
        refine k_topv (vI 1) rfl ?_
        refine k_iload hC dL_law_2105 1 rfl ?_
        refine k_icmp_eq hC 2112 dL_law_2107 rfl (by omega) (by omega) (fun c_2107 => ?_) (fun c_2107 => absurd c_2107 (by omega))
        refine k_iload hC dL_law_2112 1 rfl ?_
        refine k_if_ne hC 2129 dL_law_2114 rfl (by omega) (fun c_2114 => ?_) (fun c_2114 => absurd c_2114 (by omega))
        refine k_goto hC 2319 dL_law_2129 rfl ?_
        refine k_lvs (ls := [2, 3, 4, 5, 6, 7]) [(5, vI (i : Int)), (4, .ref (kad G 149)), (3, .ref (kad G 148)), (2, .ref (kad G 133)), (1, .ref (kad G 0)), (0, .ref b)] rfl ?_
        have h_8 : w3 148 = lA G 1 out := (hf3 148 (by decide)).trans ((congrFun hP 148).trans o1)
        have h_9 : w3 149 = dA G 1 oD := (hf3 149 (by decide)).trans ((congrFun hP 149).trans o2)
        exact kk w3 fl _ _ (LI.rd hc hm hr hw hT (a5.fr (fun j q1 q2 => (hf3 j (by omega)).trans (congrFun hP j))) (b5.fr (fun j q1 q2 => (hf3 j (by omega)).trans (congrFun hP j))) hm3 ⟨rfl, rfl, rfl, rfl, rfl⟩ ⟨⟨_, h_8⟩, ⟨_, h_9⟩⟩ (fun j hj => (hf3 j (by omega)).trans (congrFun hP j))) (by omega) (by omega)
      · exfalso; exact absurd hy3.1 (by decide)

theorem tkR.mv {G : kG} {w w1 : Nat → va_E} {bt : Nat → Int} {n : Nat} {st : PS} (h : tkR G w bt n st) (e : w1 1 = w 1) : tkR G w1 bt n st := by
  obtain ⟨a, b, c, d, f, g, h1, h2⟩ := h
  exact ⟨a, b, c, d, f, g, e.trans h1, h2⟩
set_option maxRecDepth 100000 in
set_option maxHeartbeats 4000000 in
theorem lw_query {p : Program} {l : Launch} {e : Env} {R : Room} {s : State} {m : MethodId} {args : Array Value} {below : List Frame} {meth : Method} {c : Code} {G : kG} {d0 mc0 ms0 : Nat} {Q : State → Prop} {b L : Nat} {xs : Nat → Int32} (hC : kC p l R s m args meth c cL_law RL 10 G d0 mc0 ms0) (hls : l.stackTraces = false) (hN : kN G = 150) (hNc : va_Nc "java/lang/IllegalArgumentException" "java/util/NoSuchElementException" s) (hX : va_X b L xs s s.heap) (hbl : b < s.heap.size) (hbA : ¬ kA G b) (hL : L ≤ 3584) (hd0 : 60 ≤ d0) {cs ss : Nat} (hcs : cs + 16 ≤ mc0 ∧ ss + 400 ≤ ms0) (i : Nat) (hi : i + 7 ≤ L) (w : Nat → va_E) (fl : va_W) (hLI : LI G w fl)
    (kk : ∀ (w' : Nat → va_E) (fl' : va_W) (cs' ss' : Nat), LI G w' fl' → cs' ≤ cs + 16 → ss' ≤ ss + 400 → KW p l e R s m args below meth c 10 G Q w' fl' cs' ss' 2319 [(5, vI (i : Int)), (4, .ref (kad G 149)), (3, .ref (kad G 148)), (2, .ref (kad G 133)), (1, .ref (kad G 0)), (0, .ref b)] []) : KW p l e R s m args below meth c 10 G Q w fl cs ss 2263 [(5, vI (i : Int)), (4, .ref (kad G 149)), (3, .ref (kad G 148)), (2, .ref (kad G 133)), (1, .ref (kad G 0)), (0, .ref b)] [] := by
  obtain ⟨bt, gc, nl, gp0, nl9, gl0, gs, c0, nx, cn, cap, cd, ea, kd, nm, sa, nx9, en, sv, hs, T, u, gr, D0, sp, H, hc, hm, ho, hr, hw, hT⟩ := hLI
  have hc1 := hc
  have hm1 := hm
  have hr1 := hr
  have ho1 := ho
  obtain ⟨⟨a0, asv⟩, a1, ⟨a2, abt, ac7⟩, a3, a4, a5, a6, ⟨a7, anx, acn⟩, ⟨a8, a9, a10⟩, ⟨a11, a12, a13⟩, a14⟩ := hc1
  obtain ⟨b0, b1, b2, b3, b4, b5, b6, b7, ⟨cf, b8⟩, ⟨fq, b9⟩⟩ := hm1
  obtain ⟨⟨out, o1⟩, ⟨oD, o2⟩⟩ := ho1
  obtain ⟨r0, r1, r2, r3, r4, r5, r6⟩ := hr1
  have hI := r0.inv
  have hIr := r0.2.1
  have hE := r0.1
  have e0 := hE.n 0 (by decide)
  have e1 := hE.n 1 (by decide)
  have e2 := hE.n 2 (by decide)
  have hgc := hI.c
  refine k_aload_n hC dL_law_2263 rfl 4 rfl ?_
  refine k_aload_n hC dL_law_2264 rfl 5 rfl ?_
  refine k_iload hC dL_law_2265 0 rfl ?_
  refine k_iconst hC dL_law_2267 ?_
  refine k_iadd hC dL_law_2268 ?_
  refine k_scr hC hX hbl hbA hL (i + 1) (by omega) (by omega) dL_law_2269 ?_
  refine k_aload_n hC dL_law_2270 rfl 2 rfl ?_
  refine k_callL hC hNc (n := 3) (c_L_query l hls G hN w fl gc nl bt sv c0 (xI xs (i + 1)).toNat cd ea kd nm sa nx9 en (xI xs (i + 1)) out (xI_r xs _) rfl ac7 abt hI a0 a3 a4 a5 a2 a11 a12 a13 a1 o1) wc_L_query wz_L (by decide +kernel) wt_L_query wm_L_230 rfl rfl (Nat.le_of_ble_eq_true rfl) (by omega) (by omega) ⟨by omega, by omega⟩ dL_law_2271 (fun v1 w1 fl1 hp => ?_)
  rcases hp with ⟨hv, hcc, w2, hP, h148, hf2⟩ | ⟨hP, ⟨hcc, hv⟩ | ⟨hcc, hv⟩⟩
  · subst hv
    obtain ⟨hfl, hP⟩ := hP
    subst hfl
    obtain ⟨hTk, ⟨hLf, hRf⟩, hCh, hfP⟩ := hP
    show KW p l e R s m args below meth c 10 G Q w1 fl (cs + 8) (ss + 48) 2274 [(5, vI (i : Int)), (4, .ref (kad G 149)), (3, .ref (kad G 148)), (2, .ref (kad G 133)), (1, .ref (kad G 0)), (0, .ref b)] [vI 0]
    refine k_istore hC [(6, vI 0), (5, vI (i : Int)), (4, .ref (kad G 149)), (3, .ref (kad G 148)), (2, .ref (kad G 133)), (1, .ref (kad G 0)), (0, .ref b)] dL_law_2274 (by decide) rfl ?_
    refine k_aload_n hC dL_law_2276 rfl 4 rfl ?_
    refine k_aload_n hC dL_law_2277 rfl 6 rfl ?_
    refine k_iload hC dL_law_2278 1 rfl ?_
    refine k_iconst hC dL_law_2280 ?_
    refine k_iadd hC dL_law_2281 ?_
    refine k_scr hC hX hbl hbA hL (i + 1) (by omega) (by omega) dL_law_2282 ?_
    have h_1 : w1 133 = mdO G u := (hf2 133 (by decide)).trans ((hfP 133 (by decide)).trans b0)
    have h_2 : w1 134 = lA G 93 gr := (hf2 134 (by decide)).trans ((hfP 134 (by decide)).trans b1)
    have h_3 : w1 144 = iA G 700 bt := (hf2 144 (by decide)).trans ((hfP 144 (by decide)).trans b6)
    have h_4 : w1 145 = nmA G := (hf2 145 (by decide)).trans ((hfP 145 (by decide)).trans b7)
    have h_5 : w1 146 = iA G 200 cf := (hf2 146 (by decide)).trans ((hfP 146 (by decide)).trans b8)
    have h_6 : w1 147 = lA G 200 fq := (hf2 147 (by decide)).trans ((hfP 147 (by decide)).trans b9)
    refine k_callV hC (c_X12_query l hls G hN w1 fl u bt gr cf fq (xI xs (i + 1)) (xI xs (i + 1)).toNat (xI_r xs _) rfl (by omega) abt hIr h_1 h_2 h_3 h_4 h_5 h_6) yy_X12_query wm_L_232 (kl hN (by decide)) h_1 rfl rfl rfl rfl (Nat.le_of_ble_eq_true rfl) (by omega) (by omega) ⟨by omega, by omega⟩ dL_law_2283 (fun v3 w3 fl3 hp3 => ?_)
    obtain ⟨b3, th3, hv3, hfl3, hR3, hP3⟩ := hp3
    subst hv3
    subst hfl3
    rcases hR3 with ⟨q1, q2, q3⟩ | ⟨q1, q2⟩ | ⟨q1, q2⟩
    · subst q2
      rcases hP3 with ⟨hn3, -⟩ | ⟨-, hP3⟩
      · exact absurd rfl hn3
      · obtain ⟨⟨u1, hm3, hu5, hu15, hu17, hu24, hu4, hu6⟩, hcf3, hff3, hf3⟩ := hP3
        show KW p l e R s m args below meth c 10 G Q w3 fl (cs + 8) (ss + 48) 2286 [(6, vI 0), (5, vI (i : Int)), (4, .ref (kad G 149)), (3, .ref (kad G 148)), (2, .ref (kad G 133)), (1, .ref (kad G 0)), (0, .ref b)] [vI b3]
        refine k_istore hC [(7, vI b3), (6, vI 0), (5, vI (i : Int)), (4, .ref (kad G 149)), (3, .ref (kad G 148)), (2, .ref (kad G 133)), (1, .ref (kad G 0)), (0, .ref b)] dL_law_2286 (by decide) rfl ?_
        refine k_aload_n hC dL_law_2288 rfl 5 rfl ?_
        refine k_pureV hC (c_X12_thrown l hls G hN w3 fl u1 hm3) yy_X12_thrown wm_L_113 (kl hN (by decide)) hm3 rfl rfl rfl rfl (Nat.le_of_ble_eq_true rfl) (by omega) (by omega) ⟨by omega, by omega⟩ dL_law_2289 ?_
        refine k_topv (vI 0) (by rw [hu5]) ?_
        refine k_iload hC dL_law_2292 1 rfl ?_
        refine k_icmp_eq hC 2299 dL_law_2294 rfl (by omega) (by omega) (fun c_2294 => ?_) (fun c_2294 => absurd c_2294 (by omega))
        refine k_iload hC dL_law_2299 1 rfl ?_
        refine k_if_ne hC 2316 dL_law_2301 rfl (by omega) (fun c_2301 => absurd c_2301 (by omega)) (fun c_2301 => ?_)
        refine k_aload_n hC dL_law_2304 rfl 4 rfl ?_
        refine k_iconst hC dL_law_2305 ?_
        have h_7 : w3 148 = lA G 1 (fun _ => i32 (qyV (pV gc) bt (xI xs (i + 1)).toNat (gc 2).toNat)) := (hf3 148 (by decide)).trans h148
        refine k_lald hC (kl hN (by decide)) h_7 (by omega) (by decide) dL_law_2306 ?_
        refine k_topv (vL (i32 (qyV (pV gc) bt (xI xs (i + 1)).toNat (gc 2).toNat))) rfl ?_
        refine k_iload hC dL_law_2307 0 rfl ?_
        refine k_topv (vI (i32 b3)) (vI_32 _) ?_
        refine k_i2l hC dL_law_2309 (i32_r _) ?_
        refine k_lcmp_eq hC 2316 dL_law_2310 dL_law_2311 rfl (i32_l _) (i32_l _) (fun c_2310 => ?_) (fun c_2310 => absurd (congrArg i32 (show (qyV (pV gc) bt (xI xs (i + 1)).toNat (gc 2).toNat) = b3 from ((hE.qy hI).2).trans q3.symm)) c_2310)
        refine k_goto hC 2319 dL_law_2316 rfl ?_
        refine k_lvs (ls := [2, 3, 4, 5, 6, 7]) [(5, vI (i : Int)), (4, .ref (kad G 149)), (3, .ref (kad G 148)), (2, .ref (kad G 133)), (1, .ref (kad G 0)), (0, .ref b)] rfl ?_
        have e9 := (hE.qy hI (bt := bt) (n := (xI xs (i + 1)).toNat)).1
        have h_8 : w3 149 = dA G 1 oD := (hf3 149 (by decide)).trans ((hf2 149 (by decide)).trans ((hfP 149 (by decide)).trans o2))
        have h_9 : w3 135 = lA G 93 D0 := (hf3 135 (by decide)).trans ((hf2 135 (by decide)).trans ((hfP 135 (by decide)).trans b2))
        exact kk w3 fl _ _ (LI.txt (st := qyS (pV gc) bt (xI xs (i + 1)).toNat) hc hm hr hw hT ⟨⟨_, h_7⟩, ⟨_, h_8⟩⟩ (hTk.mv ((hf3 1 (by decide)).trans (hf2 1 (by decide)))) (hCh.fr (fun j q1 q2 => (hf3 j (by omega)).trans (hf2 j (by omega)))) (by obtain ⟨z, hz⟩ := hLf; exact ⟨z, (hf3 130 (by decide)).trans ((hf2 130 (by decide)).trans hz)⟩) (by obtain ⟨z, hz⟩ := hRf; exact ⟨z, (hf3 131 (by decide)).trans ((hf2 131 (by decide)).trans hz)⟩) ⟨_, _, a9.fr (fun j q1 q2 => (hf3 j (by omega)).trans ((hf2 j (by omega)).trans (hfP j (by omega))))⟩ ⟨_, a10.fr (fun j q1 q2 => (hf3 j (by omega)).trans ((hf2 j (by omega)).trans (hfP j (by omega))))⟩ hm3 ⟨hu15, hu17, (by rw [e9]; exact hu24), hu4, hu6⟩ ⟨_, h_9⟩ hcf3 hff3 (fun j hj => (hf3 j (by omega)).trans ((hf2 j (by omega)).trans (hfP j (by omega))))) (by omega) (by omega)
    · exact q1.elim
    · exfalso; omega
  · exact hcc.elim
  · subst hv
    obtain ⟨hfl, hP⟩ := hP
    subst hfl
    show KW p l e R s m args below meth c 10 G Q w1 fl (cs + 8) (ss + 48) 2274 [(5, vI (i : Int)), (4, .ref (kad G 149)), (3, .ref (kad G 148)), (2, .ref (kad G 133)), (1, .ref (kad G 0)), (0, .ref b)] [vI 1]
    refine k_istore hC [(6, vI 1), (5, vI (i : Int)), (4, .ref (kad G 149)), (3, .ref (kad G 148)), (2, .ref (kad G 133)), (1, .ref (kad G 0)), (0, .ref b)] dL_law_2274 (by decide) rfl ?_
    refine k_aload_n hC dL_law_2276 rfl 4 rfl ?_
    refine k_aload_n hC dL_law_2277 rfl 6 rfl ?_
    refine k_iload hC dL_law_2278 1 rfl ?_
    refine k_iconst hC dL_law_2280 ?_
    refine k_iadd hC dL_law_2281 ?_
    refine k_scr hC hX hbl hbA hL (i + 1) (by omega) (by omega) dL_law_2282 ?_
    have h_10 : w1 133 = mdO G u := (congrFun hP 133).trans b0
    have h_11 : w1 134 = lA G 93 gr := (congrFun hP 134).trans b1
    have h_12 : w1 144 = iA G 700 bt := (congrFun hP 144).trans b6
    have h_13 : w1 145 = nmA G := (congrFun hP 145).trans b7
    have h_14 : w1 146 = iA G 200 cf := (congrFun hP 146).trans b8
    have h_15 : w1 147 = lA G 200 fq := (congrFun hP 147).trans b9
    refine k_callV hC (c_X12_query l hls G hN w1 fl u bt gr cf fq (xI xs (i + 1)) (xI xs (i + 1)).toNat (xI_r xs _) rfl (by omega) abt hIr h_10 h_11 h_12 h_13 h_14 h_15) yy_X12_query wm_L_232 (kl hN (by decide)) h_10 rfl rfl rfl rfl (Nat.le_of_ble_eq_true rfl) (by omega) (by omega) ⟨by omega, by omega⟩ dL_law_2283 (fun v3 w3 fl3 hp3 => ?_)
    obtain ⟨b3, th3, hv3, hfl3, hR3, hP3⟩ := hp3
    subst hv3
    subst hfl3
    rcases hR3 with ⟨q1, q2, q3⟩ | ⟨q1, q2⟩ | ⟨q1, q2⟩
    · exfalso; omega
    · exact q1.elim
    · subst q2
      rcases hP3 with ⟨hn3, hm3, hf3⟩ | ⟨hy3, -⟩
      · show KW p l e R s m args below meth c 10 G Q w3 fl (cs + 8) (ss + 48) 2286 [(6, vI 1), (5, vI (i : Int)), (4, .ref (kad G 149)), (3, .ref (kad G 148)), (2, .ref (kad G 133)), (1, .ref (kad G 0)), (0, .ref b)] [vI b3]
        refine k_istore hC [(7, vI b3), (6, vI 1), (5, vI (i : Int)), (4, .ref (kad G 149)), (3, .ref (kad G 148)), (2, .ref (kad G 133)), (1, .ref (kad G 0)), (0, .ref b)] dL_law_2286 (by decide) rfl ?_
        refine k_aload_n hC dL_law_2288 rfl 5 rfl ?_
        refine k_pureV hC (c_X12_thrown l hls G hN w3 fl (kup u 5 1) hm3) yy_X12_thrown wm_L_113 (kl hN (by decide)) hm3 rfl rfl rfl rfl (Nat.le_of_ble_eq_true rfl) (by omega) (by omega) ⟨by omega, by omega⟩ dL_law_2289 ?_
        refine k_topv (vI 1) rfl ?_
        refine k_iload hC dL_law_2292 1 rfl ?_
        refine k_icmp_eq hC 2299 dL_law_2294 rfl (by omega) (by omega) (fun c_2294 => ?_) (fun c_2294 => absurd c_2294 (by omega))
        refine k_iload hC dL_law_2299 1 rfl ?_
        refine k_if_ne hC 2316 dL_law_2301 rfl (by omega) (fun c_2301 => ?_) (fun c_2301 => absurd c_2301 (by omega))
        refine k_goto hC 2319 dL_law_2316 rfl ?_
        refine k_lvs (ls := [2, 3, 4, 5, 6, 7]) [(5, vI (i : Int)), (4, .ref (kad G 149)), (3, .ref (kad G 148)), (2, .ref (kad G 133)), (1, .ref (kad G 0)), (0, .ref b)] rfl ?_
        have h_16 : w3 148 = lA G 1 out := (hf3 148 (by decide)).trans ((congrFun hP 148).trans o1)
        have h_17 : w3 149 = dA G 1 oD := (hf3 149 (by decide)).trans ((congrFun hP 149).trans o2)
        exact kk w3 fl _ _ (LI.rd hc hm hr hw hT (a5.fr (fun j q1 q2 => (hf3 j (by omega)).trans (congrFun hP j))) (b5.fr (fun j q1 q2 => (hf3 j (by omega)).trans (congrFun hP j))) hm3 ⟨rfl, rfl, rfl, rfl, rfl⟩ ⟨⟨_, h_16⟩, ⟨_, h_17⟩⟩ (fun j hj => (hf3 j (by omega)).trans (congrFun hP j))) (by omega) (by omega)
      · exact absurd hy3 (by decide)

set_option maxRecDepth 100000 in
set_option maxHeartbeats 4000000 in
theorem lw_load {p : Program} {l : Launch} {e : Env} {R : Room} {s : State} {m : MethodId} {args : Array Value} {below : List Frame} {meth : Method} {c : Code} {G : kG} {d0 mc0 ms0 : Nat} {Q : State → Prop} {b L : Nat} {xs : Nat → Int32} (hC : kC p l R s m args meth c cL_law RL 10 G d0 mc0 ms0) (hls : l.stackTraces = false) (hN : kN G = 150) (hNc : va_Nc "java/lang/IllegalArgumentException" "java/util/NoSuchElementException" s) (hX : va_X b L xs s s.heap) (hbl : b < s.heap.size) (hbA : ¬ kA G b) (hL : L ≤ 3584) (hd0 : 60 ≤ d0) {cs ss : Nat} (hcs : cs + 16 ≤ mc0 ∧ ss + 400 ≤ ms0) (i : Nat) (hi : i + 7 ≤ L) (w : Nat → va_E) (fl : va_W) (hLI : LI G w fl)
    (kk : ∀ (w' : Nat → va_E) (fl' : va_W) (cs' ss' : Nat), LI G w' fl' → cs' ≤ cs + 16 → ss' ≤ ss + 400 → KW p l e R s m args below meth c 10 G Q w' fl' cs' ss' 2319 [(5, vI (i : Int)), (4, .ref (kad G 149)), (3, .ref (kad G 148)), (2, .ref (kad G 133)), (1, .ref (kad G 0)), (0, .ref b)] []) : KW p l e R s m args below meth c 10 G Q w fl cs ss 273 [(5, vI (i : Int)), (4, .ref (kad G 149)), (3, .ref (kad G 148)), (2, .ref (kad G 133)), (1, .ref (kad G 0)), (0, .ref b)] [] := by
  obtain ⟨bt, gc, nl, gp0, nl9, gl0, gs, c0, nx, cn, cap, cd, ea, kd, nm, sa, nx9, en, sv, hs, T, u, gr, D0, sp, H, hc, hm, ho, hr, hw, hT⟩ := hLI
  have hc1 := hc
  have hm1 := hm
  have hr1 := hr
  have ho1 := ho
  obtain ⟨⟨a0, asv⟩, a1, ⟨a2, abt, ac7⟩, a3, a4, a5, a6, ⟨a7, anx, acn⟩, ⟨a8, a9, a10⟩, ⟨a11, a12, a13⟩, a14⟩ := hc1
  obtain ⟨b0, b1, b2, b3, b4, b5, b6, b7, ⟨cf, b8⟩, ⟨fq, b9⟩⟩ := hm1
  obtain ⟨⟨out, o1⟩, ⟨oD, o2⟩⟩ := ho1
  obtain ⟨r0, r1, r2, r3, r4, r5, r6⟩ := hr1
  have hI := r0.inv
  have hIr := r0.2.1
  have hE := r0.1
  have e0 := hE.n 0 (by decide)
  have e1 := hE.n 1 (by decide)
  have e2 := hE.n 2 (by decide)
  have hgc := hI.c
  refine k_aload_n hC dL_law_273 rfl 4 rfl ?_
  refine k_aload_n hC dL_law_274 rfl 5 rfl ?_
  refine k_iload hC dL_law_275 0 rfl ?_
  refine k_iconst hC dL_law_277 ?_
  refine k_iadd hC dL_law_278 ?_
  refine k_scr hC hX hbl hbA hL (i + 1) (by omega) (by omega) dL_law_279 ?_
  refine k_aload_n hC dL_law_280 rfl 2 rfl ?_
  refine k_callL hC hNc (n := 3) (c_L_load l hls G hN w fl bt c0 cd ea kd nm sa nx9 en sv (xI xs (i + 1)) (xI xs (i + 1)).toNat gc nl gp0 gl0 nl9 hs nx (cn : Int) out (xI_r xs _) rfl ac7 abt a0 a2 a8 a3 a4 a9 a10 a7 a1 o1) wc_L_load wz_L (by decide +kernel) wt_L_load wm_L_107 rfl rfl (Nat.le_of_ble_eq_true rfl) (by omega) (by omega) ⟨by omega, by omega⟩ dL_law_281 (fun v1 w1 fl1 hp => ?_)
  rcases hp with ⟨hv, hcc, w2, hP, h148, hf2⟩ | ⟨hP, ⟨hcc, hv⟩ | ⟨hcc, hv⟩⟩
  · subst hv
    obtain ⟨hfl, hP⟩ := hP
    subst hfl
    obtain ⟨hTk, gp1, gl1, nl1, hPl, hLg, hP⟩ := hP
    rcases hP with ⟨hz, hfP⟩ | ⟨hz, ⟨hGE, hNR⟩, hs0, hPl2, hLg2, hHi2, hfP⟩
    · show KW p l e R s m args below meth c 10 G Q w1 fl (cs + 8) (ss + 48) 284 [(5, vI (i : Int)), (4, .ref (kad G 149)), (3, .ref (kad G 148)), (2, .ref (kad G 133)), (1, .ref (kad G 0)), (0, .ref b)] [vI 0]
      refine k_istore hC [(6, vI 0), (5, vI (i : Int)), (4, .ref (kad G 149)), (3, .ref (kad G 148)), (2, .ref (kad G 133)), (1, .ref (kad G 0)), (0, .ref b)] dL_law_284 (by decide) rfl ?_
      refine k_aload_n hC dL_law_286 rfl 4 rfl ?_
      refine k_aload_n hC dL_law_287 rfl 6 rfl ?_
      refine k_iload hC dL_law_288 1 rfl ?_
      refine k_iconst hC dL_law_290 ?_
      refine k_iadd hC dL_law_291 ?_
      refine k_scr hC hX hbl hbA hL (i + 1) (by omega) (by omega) dL_law_292 ?_
      have h_1 : w1 133 = mdO G u := (hf2 133 (by decide)).trans ((hfP 133 (by decide)).trans b0)
      have h_2 : w1 134 = lA G 93 gr := (hf2 134 (by decide)).trans ((hfP 134 (by decide)).trans b1)
      have h_3 : w1 144 = iA G 700 bt := (hf2 144 (by decide)).trans ((hfP 144 (by decide)).trans b6)
      have h_4 : w1 135 = lA G 93 D0 := (hf2 135 (by decide)).trans ((hfP 135 (by decide)).trans b2)
      refine k_callV hC (c_X12_load l hls G hN w1 fl u bt gr D0 (xI xs (i + 1)) (xI xs (i + 1)).toNat (xI_r xs _) rfl (by omega) abt h_1 h_2 h_3 h_4) yy_X12_load wm_L_112 (kl hN (by decide)) h_1 rfl rfl rfl rfl (Nat.le_of_ble_eq_true rfl) (by omega) (by omega) ⟨by omega, by omega⟩ dL_law_293 (fun v3 w3 fl3 hp3 => ?_)
      obtain ⟨b3, th3, hv3, hfl3, hR3, hP3⟩ := hp3
      subst hv3
      subst hfl3
      rcases hR3 with ⟨q1, q2, q3⟩ | ⟨q1, q2⟩ | ⟨q1, q2⟩
      · subst q2
        rcases hP3 with ⟨hn3, -⟩ | ⟨-, hP3⟩
        · exact absurd rfl hn3
        · obtain ⟨⟨u1, hm3, ⟨hu5, hu15, hu17, hu24⟩, hP4⟩, hD3, hf3⟩ := hP3
          rcases hP4 with ⟨gz, hu4, hu6, hg3⟩ | ⟨gz, hu4, hu6, hg3⟩
          · show KW p l e R s m args below meth c 10 G Q w3 fl (cs + 8) (ss + 48) 296 [(6, vI 0), (5, vI (i : Int)), (4, .ref (kad G 149)), (3, .ref (kad G 148)), (2, .ref (kad G 133)), (1, .ref (kad G 0)), (0, .ref b)] [vI b3]
            refine k_istore hC [(7, vI b3), (6, vI 0), (5, vI (i : Int)), (4, .ref (kad G 149)), (3, .ref (kad G 148)), (2, .ref (kad G 133)), (1, .ref (kad G 0)), (0, .ref b)] dL_law_296 (by decide) rfl ?_
            refine k_aload_n hC dL_law_298 rfl 5 rfl ?_
            refine k_pureV hC (c_X12_thrown l hls G hN w3 fl u1 hm3) yy_X12_thrown wm_L_113 (kl hN (by decide)) hm3 rfl rfl rfl rfl (Nat.le_of_ble_eq_true rfl) (by omega) (by omega) ⟨by omega, by omega⟩ dL_law_299 ?_
            refine k_topv (vI 0) (by rw [hu5]) ?_
            refine k_iload hC dL_law_302 1 rfl ?_
            refine k_icmp_eq hC 309 dL_law_304 rfl (by omega) (by omega) (fun c_304 => ?_) (fun c_304 => absurd c_304 (by omega))
            refine k_iload hC dL_law_309 1 rfl ?_
            refine k_if_ne hC 326 dL_law_311 rfl (by omega) (fun c_311 => absurd c_311 (by omega)) (fun c_311 => ?_)
            refine k_aload_n hC dL_law_314 rfl 4 rfl ?_
            refine k_iconst hC dL_law_315 ?_
            have h_5 : w3 148 = lA G 1 (fun _ => i32 (selI ((txF bt (xI xs (i + 1)).toNat).1.1 = 0) ((txF bt (xI xs (i + 1)).toNat).2 2) (-10 - (txF bt (xI xs (i + 1)).toNat).1.1))) := (hf3 148 (by decide)).trans h148
            refine k_lald hC (kl hN (by decide)) h_5 (by omega) (by decide) dL_law_316 ?_
            refine k_topv (vL (i32 (selI ((txF bt (xI xs (i + 1)).toNat).1.1 = 0) ((txF bt (xI xs (i + 1)).toNat).2 2) (-10 - (txF bt (xI xs (i + 1)).toNat).1.1)))) rfl ?_
            refine k_iload hC dL_law_317 0 rfl ?_
            refine k_topv (vI (i32 b3)) (vI_32 _) ?_
            refine k_i2l hC dL_law_319 (i32_r _) ?_
            refine k_lcmp_eq hC 326 dL_law_320 dL_law_321 rfl (i32_l _) (i32_l _) (fun c_320 => ?_) (fun c_320 => absurd (congrArg i32 (show (selI ((txF bt (xI xs (i + 1)).toNat).1.1 = 0) ((txF bt (xI xs (i + 1)).toNat).2 2) (-10 - (txF bt (xI xs (i + 1)).toNat).1.1)) = b3 from (rfl).trans q3.symm)) c_320)
            refine k_goto hC 2319 dL_law_326 rfl ?_
            refine k_lvs (ls := [2, 3, 4, 5, 6, 7]) [(5, vI (i : Int)), (4, .ref (kad G 149)), (3, .ref (kad G 148)), (2, .ref (kad G 133)), (1, .ref (kad G 0)), (0, .ref b)] rfl ?_
            have h_6 : w3 149 = dA G 1 oD := (hf3 149 (by decide)).trans ((hf2 149 (by decide)).trans ((hfP 149 (by decide)).trans o2))
            have h_7 : w3 146 = iA G 200 cf := (hf3 146 (by decide)).trans ((hf2 146 (by decide)).trans ((hfP 146 (by decide)).trans b8))
            have h_8 : w3 147 = lA G 200 fq := (hf3 147 (by decide)).trans ((hf2 147 (by decide)).trans ((hfP 147 (by decide)).trans b9))
            exact kk w3 fl _ _ (LI.txt (st := (txF bt (xI xs (i + 1)).toNat).1) hc hm hr hw hT ⟨⟨_, h_5⟩, ⟨_, h_6⟩⟩ (hTk.mv ((hf3 1 (by decide)).trans (hf2 1 (by decide)))) (a5.fr (fun j q1 q2 => (hf3 j (by omega)).trans ((hf2 j (by omega)).trans (hfP j (by omega))))) (by obtain ⟨z, hz9⟩ := a12; exact ⟨z, (hf3 130 (by decide)).trans ((hf2 130 (by decide)).trans ((hfP 130 (by decide)).trans hz9))⟩) (by obtain ⟨z, hz9⟩ := a13; exact ⟨z, (hf3 131 (by decide)).trans ((hf2 131 (by decide)).trans ((hfP 131 (by decide)).trans hz9))⟩) ⟨_, _, hPl.fr (fun j q1 q2 => (hf3 j (by omega)).trans (hf2 j (by omega)))⟩ ⟨_, hLg.fr (fun j q1 q2 => (hf3 j (by omega)).trans (hf2 j (by omega)))⟩ hm3 ⟨hu15, hu17, hu24, hu4, hu6⟩ hD3 ⟨_, h_7⟩ ⟨_, h_8⟩ (fun j hj => by
              by_cases q : j = 134
              · rw [q]; exact hg3.trans ((hf2 134 (by decide)).trans (hfP 134 (by decide)))
              · exact (hf3 j (by omega)).trans ((hf2 j (by omega)).trans (hfP j (by omega))))) (by omega) (by omega)
          · exact absurd gz hz
      · exact q1.elim
      · exfalso; omega
    · show KW p l e R s m args below meth c 10 G Q w1 fl (cs + 8) (ss + 48) 284 [(5, vI (i : Int)), (4, .ref (kad G 149)), (3, .ref (kad G 148)), (2, .ref (kad G 133)), (1, .ref (kad G 0)), (0, .ref b)] [vI 0]
      refine k_istore hC [(6, vI 0), (5, vI (i : Int)), (4, .ref (kad G 149)), (3, .ref (kad G 148)), (2, .ref (kad G 133)), (1, .ref (kad G 0)), (0, .ref b)] dL_law_284 (by decide) rfl ?_
      refine k_aload_n hC dL_law_286 rfl 4 rfl ?_
      refine k_aload_n hC dL_law_287 rfl 6 rfl ?_
      refine k_iload hC dL_law_288 1 rfl ?_
      refine k_iconst hC dL_law_290 ?_
      refine k_iadd hC dL_law_291 ?_
      refine k_scr hC hX hbl hbA hL (i + 1) (by omega) (by omega) dL_law_292 ?_
      have h_9 : w1 133 = mdO G u := (hf2 133 (by decide)).trans ((hfP 133 (by decide)).trans b0)
      have h_10 : w1 134 = lA G 93 gr := (hf2 134 (by decide)).trans ((hfP 134 (by decide)).trans b1)
      have h_11 : w1 144 = iA G 700 bt := (hf2 144 (by decide)).trans ((hfP 144 (by decide)).trans b6)
      have h_12 : w1 135 = lA G 93 D0 := (hf2 135 (by decide)).trans ((hfP 135 (by decide)).trans b2)
      refine k_callV hC (c_X12_load l hls G hN w1 fl u bt gr D0 (xI xs (i + 1)) (xI xs (i + 1)).toNat (xI_r xs _) rfl (by omega) abt h_9 h_10 h_11 h_12) yy_X12_load wm_L_112 (kl hN (by decide)) h_9 rfl rfl rfl rfl (Nat.le_of_ble_eq_true rfl) (by omega) (by omega) ⟨by omega, by omega⟩ dL_law_293 (fun v3 w3 fl3 hp3 => ?_)
      obtain ⟨b3, th3, hv3, hfl3, hR3, hP3⟩ := hp3
      subst hv3
      subst hfl3
      rcases hR3 with ⟨q1, q2, q3⟩ | ⟨q1, q2⟩ | ⟨q1, q2⟩
      · subst q2
        rcases hP3 with ⟨hn3, -⟩ | ⟨-, hP3⟩
        · exact absurd rfl hn3
        · obtain ⟨⟨u1, hm3, ⟨hu5, hu15, hu17, hu24⟩, hP4⟩, hD3, hf3⟩ := hP3
          rcases hP4 with ⟨gz, hu4, hu6, hg3⟩ | ⟨gz, hu4, hu6, hg3⟩
          · exact absurd hz gz
          · show KW p l e R s m args below meth c 10 G Q w3 fl (cs + 8) (ss + 48) 296 [(6, vI 0), (5, vI (i : Int)), (4, .ref (kad G 149)), (3, .ref (kad G 148)), (2, .ref (kad G 133)), (1, .ref (kad G 0)), (0, .ref b)] [vI b3]
            refine k_istore hC [(7, vI b3), (6, vI 0), (5, vI (i : Int)), (4, .ref (kad G 149)), (3, .ref (kad G 148)), (2, .ref (kad G 133)), (1, .ref (kad G 0)), (0, .ref b)] dL_law_296 (by decide) rfl ?_
            refine k_aload_n hC dL_law_298 rfl 5 rfl ?_
            refine k_pureV hC (c_X12_thrown l hls G hN w3 fl u1 hm3) yy_X12_thrown wm_L_113 (kl hN (by decide)) hm3 rfl rfl rfl rfl (Nat.le_of_ble_eq_true rfl) (by omega) (by omega) ⟨by omega, by omega⟩ dL_law_299 ?_
            refine k_topv (vI 0) (by rw [hu5]) ?_
            refine k_iload hC dL_law_302 1 rfl ?_
            refine k_icmp_eq hC 309 dL_law_304 rfl (by omega) (by omega) (fun c_304 => ?_) (fun c_304 => absurd c_304 (by omega))
            refine k_iload hC dL_law_309 1 rfl ?_
            refine k_if_ne hC 326 dL_law_311 rfl (by omega) (fun c_311 => absurd c_311 (by omega)) (fun c_311 => ?_)
            refine k_aload_n hC dL_law_314 rfl 4 rfl ?_
            refine k_iconst hC dL_law_315 ?_
            have h_13 : w3 148 = lA G 1 (fun _ => i32 (selI ((txF bt (xI xs (i + 1)).toNat).1.1 = 0) ((txF bt (xI xs (i + 1)).toNat).2 2) (-10 - (txF bt (xI xs (i + 1)).toNat).1.1))) := (hf3 148 (by decide)).trans h148
            refine k_lald hC (kl hN (by decide)) h_13 (by omega) (by decide) dL_law_316 ?_
            refine k_topv (vL (i32 (selI ((txF bt (xI xs (i + 1)).toNat).1.1 = 0) ((txF bt (xI xs (i + 1)).toNat).2 2) (-10 - (txF bt (xI xs (i + 1)).toNat).1.1)))) rfl ?_
            refine k_iload hC dL_law_317 0 rfl ?_
            refine k_topv (vI (i32 b3)) (vI_32 _) ?_
            refine k_i2l hC dL_law_319 (i32_r _) ?_
            refine k_lcmp_eq hC 326 dL_law_320 dL_law_321 rfl (i32_l _) (i32_l _) (fun c_320 => ?_) (fun c_320 => absurd (congrArg i32 (show (selI ((txF bt (xI xs (i + 1)).toNat).1.1 = 0) ((txF bt (xI xs (i + 1)).toNat).2 2) (-10 - (txF bt (xI xs (i + 1)).toNat).1.1)) = b3 from (rfl).trans q3.symm)) c_320)
            refine k_goto hC 2319 dL_law_326 rfl ?_
            refine k_lvs (ls := [2, 3, 4, 5, 6, 7]) [(5, vI (i : Int)), (4, .ref (kad G 149)), (3, .ref (kad G 148)), (2, .ref (kad G 133)), (1, .ref (kad G 0)), (0, .ref b)] rfl ?_
            have h_14 : w3 149 = dA G 1 oD := (hf3 149 (by decide)).trans ((hf2 149 (by decide)).trans ((hfP 149 (by decide)).trans o2))
            exact kk w3 fl _ _ (LI.load hc hm hw hT ⟨⟨_, h_13⟩, ⟨_, h_14⟩⟩ hz (hTk.mv ((hf3 1 (by decide)).trans (hf2 1 (by decide)))) ((hf3 0 (by decide)).trans ((hf2 0 (by decide)).trans hs0)) (hPl.fr (fun j q1 q2 => (hf3 j (by omega)).trans (hf2 j (by omega)))) (hLg.fr (fun j q1 q2 => (hf3 j (by omega)).trans (hf2 j (by omega)))) hGE hNR (hPl2.fr (fun j q1 q2 => (hf3 j (by omega)).trans (hf2 j (by omega)))) (hLg2.fr (fun j q1 q2 => (hf3 j (by omega)).trans (hf2 j (by omega)))) (hHi2.fr (fun j q1 q2 => (hf3 j (by omega)).trans (hf2 j (by omega)))) hm3 ⟨hu15, hu17, hu24, hu4, hu6⟩ hg3 hD3 (fun j hj => (hf3 j (by omega)).trans ((hf2 j (by omega)).trans (hfP j (by omega))))) (by omega) (by omega)
      · exact q1.elim
      · exfalso; omega
  · exact hcc.elim
  · subst hv
    obtain ⟨hfl, hP⟩ := hP
    subst hfl
    show KW p l e R s m args below meth c 10 G Q w1 fl (cs + 8) (ss + 48) 284 [(5, vI (i : Int)), (4, .ref (kad G 149)), (3, .ref (kad G 148)), (2, .ref (kad G 133)), (1, .ref (kad G 0)), (0, .ref b)] [vI 1]
    refine k_istore hC [(6, vI 1), (5, vI (i : Int)), (4, .ref (kad G 149)), (3, .ref (kad G 148)), (2, .ref (kad G 133)), (1, .ref (kad G 0)), (0, .ref b)] dL_law_284 (by decide) rfl ?_
    refine k_aload_n hC dL_law_286 rfl 4 rfl ?_
    refine k_aload_n hC dL_law_287 rfl 6 rfl ?_
    refine k_iload hC dL_law_288 1 rfl ?_
    refine k_iconst hC dL_law_290 ?_
    refine k_iadd hC dL_law_291 ?_
    refine k_scr hC hX hbl hbA hL (i + 1) (by omega) (by omega) dL_law_292 ?_
    have h_15 : w1 133 = mdO G u := (congrFun hP 133).trans b0
    have h_16 : w1 134 = lA G 93 gr := (congrFun hP 134).trans b1
    have h_17 : w1 144 = iA G 700 bt := (congrFun hP 144).trans b6
    have h_18 : w1 135 = lA G 93 D0 := (congrFun hP 135).trans b2
    refine k_callV hC (c_X12_load l hls G hN w1 fl u bt gr D0 (xI xs (i + 1)) (xI xs (i + 1)).toNat (xI_r xs _) rfl (by omega) abt h_15 h_16 h_17 h_18) yy_X12_load wm_L_112 (kl hN (by decide)) h_15 rfl rfl rfl rfl (Nat.le_of_ble_eq_true rfl) (by omega) (by omega) ⟨by omega, by omega⟩ dL_law_293 (fun v3 w3 fl3 hp3 => ?_)
    obtain ⟨b3, th3, hv3, hfl3, hR3, hP3⟩ := hp3
    subst hv3
    subst hfl3
    rcases hR3 with ⟨q1, q2, q3⟩ | ⟨q1, q2⟩ | ⟨q1, q2⟩
    · exfalso; omega
    · exact q1.elim
    · subst q2
      rcases hP3 with ⟨hn3, hm3, hf3⟩ | ⟨hy3, -⟩
      · show KW p l e R s m args below meth c 10 G Q w3 fl (cs + 8) (ss + 48) 296 [(6, vI 1), (5, vI (i : Int)), (4, .ref (kad G 149)), (3, .ref (kad G 148)), (2, .ref (kad G 133)), (1, .ref (kad G 0)), (0, .ref b)] [vI b3]
        refine k_istore hC [(7, vI b3), (6, vI 1), (5, vI (i : Int)), (4, .ref (kad G 149)), (3, .ref (kad G 148)), (2, .ref (kad G 133)), (1, .ref (kad G 0)), (0, .ref b)] dL_law_296 (by decide) rfl ?_
        refine k_aload_n hC dL_law_298 rfl 5 rfl ?_
        refine k_pureV hC (c_X12_thrown l hls G hN w3 fl (kup u 5 1) hm3) yy_X12_thrown wm_L_113 (kl hN (by decide)) hm3 rfl rfl rfl rfl (Nat.le_of_ble_eq_true rfl) (by omega) (by omega) ⟨by omega, by omega⟩ dL_law_299 ?_
        refine k_topv (vI 1) rfl ?_
        refine k_iload hC dL_law_302 1 rfl ?_
        refine k_icmp_eq hC 309 dL_law_304 rfl (by omega) (by omega) (fun c_304 => ?_) (fun c_304 => absurd c_304 (by omega))
        refine k_iload hC dL_law_309 1 rfl ?_
        refine k_if_ne hC 326 dL_law_311 rfl (by omega) (fun c_311 => ?_) (fun c_311 => absurd c_311 (by omega))
        refine k_goto hC 2319 dL_law_326 rfl ?_
        refine k_lvs (ls := [2, 3, 4, 5, 6, 7]) [(5, vI (i : Int)), (4, .ref (kad G 149)), (3, .ref (kad G 148)), (2, .ref (kad G 133)), (1, .ref (kad G 0)), (0, .ref b)] rfl ?_
        have h_19 : w3 148 = lA G 1 out := (hf3 148 (by decide)).trans ((congrFun hP 148).trans o1)
        have h_20 : w3 149 = dA G 1 oD := (hf3 149 (by decide)).trans ((congrFun hP 149).trans o2)
        exact kk w3 fl _ _ (LI.rd hc hm hr hw hT (a5.fr (fun j q1 q2 => (hf3 j (by omega)).trans (congrFun hP j))) (b5.fr (fun j q1 q2 => (hf3 j (by omega)).trans (congrFun hP j))) hm3 ⟨rfl, rfl, rfl, rfl, rfl⟩ ⟨⟨_, h_19⟩, ⟨_, h_20⟩⟩ (fun j hj => (hf3 j (by omega)).trans (congrFun hP j))) (by omega) (by omega)
      · exact absurd hy3 (by decide)

set_option maxRecDepth 100000 in
set_option maxHeartbeats 4000000 in
theorem lw_format {p : Program} {l : Launch} {e : Env} {R : Room} {s : State} {m : MethodId} {args : Array Value} {below : List Frame} {meth : Method} {c : Code} {G : kG} {d0 mc0 ms0 : Nat} {Q : State → Prop} {b L : Nat} {xs : Nat → Int32} (hC : kC p l R s m args meth c cL_law RL 10 G d0 mc0 ms0) (hls : l.stackTraces = false) (hN : kN G = 150) (hNc : va_Nc "java/lang/IllegalArgumentException" "java/util/NoSuchElementException" s) (hX : va_X b L xs s s.heap) (hbl : b < s.heap.size) (hbA : ¬ kA G b) (hL : L ≤ 3584) (hd0 : 60 ≤ d0) {cs ss : Nat} (hcs : cs + 16 ≤ mc0 ∧ ss + 400 ≤ ms0) (i : Nat) (hi : i + 7 ≤ L) (w : Nat → va_E) (fl : va_W) (hLI : LI G w fl)
    (kk : ∀ (w' : Nat → va_E) (fl' : va_W) (cs' ss' : Nat), LI G w' fl' → cs' ≤ cs + 16 → ss' ≤ ss + 400 → KW p l e R s m args below meth c 10 G Q w' fl' cs' ss' 2319 [(5, vI (i : Int)), (4, .ref (kad G 149)), (3, .ref (kad G 148)), (2, .ref (kad G 133)), (1, .ref (kad G 0)), (0, .ref b)] []) : KW p l e R s m args below meth c 10 G Q w fl cs ss 2132 [(5, vI (i : Int)), (4, .ref (kad G 149)), (3, .ref (kad G 148)), (2, .ref (kad G 133)), (1, .ref (kad G 0)), (0, .ref b)] [] := by
  obtain ⟨bt, gc, nl, gp0, nl9, gl0, gs, c0, nx, cn, cap, cd, ea, kd, nm, sa, nx9, en, sv, hs, T, u, gr, D0, sp, H, hc, hm, ho, hr, hw, hT⟩ := hLI
  have hc1 := hc
  have hm1 := hm
  have hr1 := hr
  have ho1 := ho
  obtain ⟨⟨a0, asv⟩, a1, ⟨a2, abt, ac7⟩, a3, a4, a5, a6, ⟨a7, anx, acn⟩, ⟨a8, a9, a10⟩, ⟨a11, a12, a13⟩, a14⟩ := hc1
  obtain ⟨b0, b1, b2, b3, b4, b5, b6, b7, ⟨cf, b8⟩, ⟨fq, b9⟩⟩ := hm1
  obtain ⟨⟨out, o1⟩, ⟨oD, o2⟩⟩ := ho1
  obtain ⟨r0, r1, r2, r3, r4, r5, r6⟩ := hr1
  have hI := r0.inv
  have hIr := r0.2.1
  have hE := r0.1
  have e0 := hE.n 0 (by decide)
  have e1 := hE.n 1 (by decide)
  have e2 := hE.n 2 (by decide)
  have hgc := hI.c
  refine k_aload_n hC dL_law_2132 rfl 4 rfl ?_
  refine k_aload_n hC dL_law_2133 rfl 5 rfl ?_
  refine k_iload hC dL_law_2134 0 rfl ?_
  refine k_iconst hC dL_law_2136 ?_
  refine k_iadd hC dL_law_2137 ?_
  refine k_scr hC hX hbl hbA hL (i + 1) (by omega) (by omega) dL_law_2138 ?_
  refine k_aload_n hC dL_law_2139 rfl 2 rfl ?_
  refine k_callL hC hNc (n := 3) (c_L_format l hls G hN w fl gc nl sv T cap (xI xs (i + 1)) out (xI_r xs _) hI a0 a3 a4 a5 (fun k hk => (nmL_R r0 hk).2) a14 o1) wc_L_format wz_L (by decide +kernel) wt_L_format wm_L_206 rfl rfl (Nat.le_of_ble_eq_true rfl) (by omega) (by omega) ⟨by omega, by omega⟩ dL_law_2140 (fun v1 w1 fl1 hp => ?_)
  rcases hp with ⟨hv, hcc, w2, hP, h148, hf2⟩ | ⟨hP, ⟨hcc, hv⟩ | ⟨hcc, hv⟩⟩
  · subst hv
    obtain ⟨⟨cap1, hsb1⟩, hCh, hfP⟩ := hP
    show KW p l e R s m args below meth c 10 G Q w1 fl1 (cs + 8) (ss + 200) 2143 [(5, vI (i : Int)), (4, .ref (kad G 149)), (3, .ref (kad G 148)), (2, .ref (kad G 133)), (1, .ref (kad G 0)), (0, .ref b)] [vI 0]
    refine k_istore hC [(6, vI 0), (5, vI (i : Int)), (4, .ref (kad G 149)), (3, .ref (kad G 148)), (2, .ref (kad G 133)), (1, .ref (kad G 0)), (0, .ref b)] dL_law_2143 (by decide) rfl ?_
    refine k_aload_n hC dL_law_2145 rfl 4 rfl ?_
    refine k_aload_n hC dL_law_2146 rfl 6 rfl ?_
    refine k_iload hC dL_law_2147 1 rfl ?_
    refine k_iconst hC dL_law_2149 ?_
    refine k_iadd hC dL_law_2150 ?_
    refine k_scr hC hX hbl hbA hL (i + 1) (by omega) (by omega) dL_law_2151 ?_
    have hw9 := hw
    obtain ⟨cw9, ff9, hw15, hw80, hw143, hwcd⟩ := hw9
    have h_1 : w1 133 = mdO G u := (hf2 133 (by decide)).trans ((hfP 133 (by decide)).trans b0)
    have h_2 : w1 134 = lA G 93 gr := (hf2 134 (by decide)).trans ((hfP 134 (by decide)).trans b1)
    have h_3 : w1 143 = iA G 80 ff9 := (hf2 143 (by decide)).trans ((hfP 143 (by decide)).trans hw143)
    refine k_callV hC (c_X12_format l hls G hN w1 fl1 u gr ff9 (xI xs (i + 1)) (xI_r xs _) hIr r0.2.2.2 h_1 h_2 h_3) yy_X12_format wm_L_208 (kl hN (by decide)) h_1 rfl rfl rfl rfl (Nat.le_of_ble_eq_true rfl) (by omega) (by omega) ⟨by omega, by omega⟩ dL_law_2152 (fun v3 w3 fl3 hp3 => ?_)
    obtain ⟨b3, th3, hv3, hfl3, hR3, hP3⟩ := hp3
    subst hv3
    subst hfl3
    rcases hR3 with ⟨q1, q2, q3⟩ | ⟨q1, q2⟩ | ⟨q1, q2⟩
    · subst q2
      rcases hP3 with ⟨hn3, -⟩ | ⟨-, hP3⟩
      · exact absurd rfl hn3
      · obtain ⟨⟨u1, hm3, hw3, hu5, huj⟩, hf3⟩ := hP3
        show KW p l e R s m args below meth c 10 G Q w3 fl1 (cs + 8) (ss + 200) 2155 [(6, vI 0), (5, vI (i : Int)), (4, .ref (kad G 149)), (3, .ref (kad G 148)), (2, .ref (kad G 133)), (1, .ref (kad G 0)), (0, .ref b)] [vI b3]
        refine k_istore hC [(7, vI b3), (6, vI 0), (5, vI (i : Int)), (4, .ref (kad G 149)), (3, .ref (kad G 148)), (2, .ref (kad G 133)), (1, .ref (kad G 0)), (0, .ref b)] dL_law_2155 (by decide) rfl ?_
        refine k_aload_n hC dL_law_2157 rfl 5 rfl ?_
        refine k_pureV hC (c_X12_thrown l hls G hN w3 fl1 u1 hm3) yy_X12_thrown wm_L_113 (kl hN (by decide)) hm3 rfl rfl rfl rfl (Nat.le_of_ble_eq_true rfl) (by omega) (by omega) ⟨by omega, by omega⟩ dL_law_2158 ?_
        refine k_topv (vI 0) (by rw [hu5]) ?_
        refine k_iload hC dL_law_2161 1 rfl ?_
        refine k_icmp_eq hC 2168 dL_law_2163 rfl (by omega) (by omega) (fun c_2163 => ?_) (fun c_2163 => absurd c_2163 (by omega))
        refine k_iload hC dL_law_2168 1 rfl ?_
        refine k_if_ne hC 2185 dL_law_2170 rfl (by omega) (fun c_2170 => absurd c_2170 (by omega)) (fun c_2170 => ?_)
        refine k_aload_n hC dL_law_2173 rfl 4 rfl ?_
        refine k_iconst hC dL_law_2174 ?_
        have h_4 : w3 148 = lA G 1 (fun _ => i32 ((fmC gc nl (xI xs (i + 1)).toNat).length : Int)) := (hf3 148 (by decide)).trans h148
        refine k_lald hC (kl hN (by decide)) h_4 (by omega) (by decide) dL_law_2175 ?_
        refine k_topv (vL (i32 ((fmC gc nl (xI xs (i + 1)).toNat).length : Int))) rfl ?_
        refine k_iload hC dL_law_2176 0 rfl ?_
        refine k_topv (vI (i32 b3)) (vI_32 _) ?_
        refine k_i2l hC dL_law_2178 (i32_r _) ?_
        refine k_lcmp_eq hC 2185 dL_law_2179 dL_law_2180 rfl (i32_l _) (i32_l _) (fun c_2179 => ?_) (fun c_2179 => absurd (congrArg i32 (show ((fmC gc nl (xI xs (i + 1)).toNat).length : Int) = b3 from (congrArg (fun z : List Int => (z.length : Int)) (fm_eq r0 (by omega))).trans q3.symm)) c_2179)
        refine k_goto hC 2319 dL_law_2185 rfl ?_
        refine k_lvs (ls := [2, 3, 4, 5, 6, 7]) [(5, vI (i : Int)), (4, .ref (kad G 149)), (3, .ref (kad G 148)), (2, .ref (kad G 133)), (1, .ref (kad G 0)), (0, .ref b)] rfl ?_
        have hfe := fm_eq r0 (i := (xI xs (i + 1)).toNat) (by omega)
        have h_5 : w3 149 = dA G 1 oD := (hf3 149 (by decide)).trans ((hf2 149 (by decide)).trans ((hfP 149 (by decide)).trans o2))
        exact kk w3 fl1 _ _ (LI.fmt hc hm hr ⟨⟨_, h_4⟩, ⟨_, h_5⟩⟩ (hsb1.fr ((hf3 132 (by decide)).trans (hf2 132 (by decide)))) (hCh.fr (fun j q1 q2 => (hf3 j (by omega)).trans (hf2 j (by omega)))) (b5.fr (fun j q1 q2 => (hf3 j (by omega)).trans ((hf2 j (by omega)).trans (hfP j (by omega))))) hm3 huj (by rw [hfe]; exact hw3) (getD_nn (fm_nn r0 (by omega))) (fun j hj => (hf3 j (by omega)).trans ((hf2 j (by omega)).trans (hfP j (by omega))))) (by omega) (by omega)
    · exact q1.elim
    · exfalso; omega
  · subst hv
    obtain ⟨hfl, hP⟩ := hP
    subst hfl
    obtain ⟨hCh1, hfP⟩ := hP
    show KW p l e R s m args below meth c 10 G Q w1 fl (cs + 8) (ss + 200) 2143 [(5, vI (i : Int)), (4, .ref (kad G 149)), (3, .ref (kad G 148)), (2, .ref (kad G 133)), (1, .ref (kad G 0)), (0, .ref b)] [vI 1]
    refine k_istore hC [(6, vI 1), (5, vI (i : Int)), (4, .ref (kad G 149)), (3, .ref (kad G 148)), (2, .ref (kad G 133)), (1, .ref (kad G 0)), (0, .ref b)] dL_law_2143 (by decide) rfl ?_
    refine k_aload_n hC dL_law_2145 rfl 4 rfl ?_
    refine k_aload_n hC dL_law_2146 rfl 6 rfl ?_
    refine k_iload hC dL_law_2147 1 rfl ?_
    refine k_iconst hC dL_law_2149 ?_
    refine k_iadd hC dL_law_2150 ?_
    refine k_scr hC hX hbl hbA hL (i + 1) (by omega) (by omega) dL_law_2151 ?_
    have hw9 := hw
    obtain ⟨cw9, ff9, hw15, hw80, hw143, hwcd⟩ := hw9
    have h_6 : w1 133 = mdO G u := (hfP 133 (by decide)).trans b0
    have h_7 : w1 134 = lA G 93 gr := (hfP 134 (by decide)).trans b1
    have h_8 : w1 143 = iA G 80 ff9 := (hfP 143 (by decide)).trans hw143
    refine k_callV hC (c_X12_format l hls G hN w1 fl u gr ff9 (xI xs (i + 1)) (xI_r xs _) hIr r0.2.2.2 h_6 h_7 h_8) yy_X12_format wm_L_208 (kl hN (by decide)) h_6 rfl rfl rfl rfl (Nat.le_of_ble_eq_true rfl) (by omega) (by omega) ⟨by omega, by omega⟩ dL_law_2152 (fun v3 w3 fl3 hp3 => ?_)
    obtain ⟨b3, th3, hv3, hfl3, hR3, hP3⟩ := hp3
    subst hv3
    subst hfl3
    rcases hR3 with ⟨q1, q2, q3⟩ | ⟨q1, q2⟩ | ⟨q1, q2⟩
    · exfalso; omega
    · exact q1.elim
    · subst q2
      rcases hP3 with ⟨hn3, hm3, hf3⟩ | ⟨hy3, -⟩
      · show KW p l e R s m args below meth c 10 G Q w3 fl (cs + 8) (ss + 200) 2155 [(6, vI 1), (5, vI (i : Int)), (4, .ref (kad G 149)), (3, .ref (kad G 148)), (2, .ref (kad G 133)), (1, .ref (kad G 0)), (0, .ref b)] [vI b3]
        refine k_istore hC [(7, vI b3), (6, vI 1), (5, vI (i : Int)), (4, .ref (kad G 149)), (3, .ref (kad G 148)), (2, .ref (kad G 133)), (1, .ref (kad G 0)), (0, .ref b)] dL_law_2155 (by decide) rfl ?_
        refine k_aload_n hC dL_law_2157 rfl 5 rfl ?_
        refine k_pureV hC (c_X12_thrown l hls G hN w3 fl (kup u 5 1) hm3) yy_X12_thrown wm_L_113 (kl hN (by decide)) hm3 rfl rfl rfl rfl (Nat.le_of_ble_eq_true rfl) (by omega) (by omega) ⟨by omega, by omega⟩ dL_law_2158 ?_
        refine k_topv (vI 1) rfl ?_
        refine k_iload hC dL_law_2161 1 rfl ?_
        refine k_icmp_eq hC 2168 dL_law_2163 rfl (by omega) (by omega) (fun c_2163 => ?_) (fun c_2163 => absurd c_2163 (by omega))
        refine k_iload hC dL_law_2168 1 rfl ?_
        refine k_if_ne hC 2185 dL_law_2170 rfl (by omega) (fun c_2170 => ?_) (fun c_2170 => absurd c_2170 (by omega))
        refine k_goto hC 2319 dL_law_2185 rfl ?_
        refine k_lvs (ls := [2, 3, 4, 5, 6, 7]) [(5, vI (i : Int)), (4, .ref (kad G 149)), (3, .ref (kad G 148)), (2, .ref (kad G 133)), (1, .ref (kad G 0)), (0, .ref b)] rfl ?_
        have h_9 : w3 148 = lA G 1 out := (hf3 148 (by decide)).trans ((hfP 148 (by decide)).trans o1)
        have h_10 : w3 149 = dA G 1 oD := (hf3 149 (by decide)).trans ((hfP 149 (by decide)).trans o2)
        exact kk w3 fl _ _ (LI.rd hc hm hr hw hT (hCh1.fr (fun j q1 q2 => hf3 j (by omega))) (b5.fr (fun j q1 q2 => (hf3 j (by omega)).trans (hfP j (by omega)))) hm3 ⟨rfl, rfl, rfl, rfl, rfl⟩ ⟨⟨_, h_9⟩, ⟨_, h_10⟩⟩ (fun j hj => (hf3 j (by omega)).trans (hfP j (by omega)))) (by omega) (by omega)
      · exact absurd hy3 (by decide)
  · exact hcc.elim

