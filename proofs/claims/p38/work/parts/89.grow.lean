/-! A WORLD THAT GROWS: what is held is held on -/
section
variable {p : Program} {l : Launch} {e : Env} {R : Room} {s : State} {m : MethodId} {args : Array Value} {below : List Frame} {meth : Method} {c : Code} {cc : ByteArray} {own : String} {nL : Nat} {G : kG} {d0 mc0 ms0 : Nat} {Q : State → Prop} {w : Nat → va_E} {fl : va_W} {cells slots pc : Nat} {lv : List (Nat × Value)} {st : List Value} {n : Nat} {ad : Nat → Nat}
theorem k_rcN {k n9 t : Nat} {f g : Nat → Option Nat} (hk : k < kN G) (hw : w k = rA G t n9 f) (hfg : ∀ i, i < n9 → f i = g i) (kk : KW p l e R s m args below meth c nL G Q (va_up w k (rA G t n9 g)) fl cells slots pc lv st) : KW p l e R s m args below meth c nL G Q w fl cells slots pc lv st := by
  intro H locs ls h1 h2 h3 h4
  have hx : (kws G w fl)[k]? = some (kad G k, rA G t n9 f) := by rw [kws_at hk, hw]
  have g1 := h1.set h2 hx (e := rA G t n9 g) (H1 := H) (by
    have z := h1 _ _ hx
    show H[kad G k]? = some (arrV _ n9 (fun j => va_rf (g j)))
    have z2 : H[kad G k]? = some (arrV (kTT G t) n9 (fun j => va_rf (f j))) := z
    rw [z2]
    congr 1
    unfold arrV
    congr 1
    apply Array.ext
    · simp
    · intro k k1 k2
      simp only [Array.getElem_ofFn]
      rw [hfg k (by simpa using k1)]) (fun q _ => rfl)
  have g2 := h2.set (e := rA G t n9 g) hx
  rw [kws_set hk] at g1 g2
  exact kk H locs ls g1 g2 h3 h4
def grW (G1 : kG) (w : Nat → va_E) : Nat → va_E := va_up (va_up w 11 (liA G1)) 45 (rngA G1)
theorem grW_n {G1 : kG} {j : Nat} (h : j ≠ 11 ∧ j ≠ 45) : grW G1 w j = w j := by unfold grW; simp [va_up, h.1, h.2]
theorem grW_11 {G1 : kG} : grW G1 w 11 = liA G1 := by unfold grW; simp [va_up]
theorem grW_45 {G1 : kG} : grW G1 w 45 = rngA G1 := by unfold grW; simp [va_up]
theorem gr_ad {k : Nat} (hN : 133 ≤ kN G) (h : k < 133) : kad (kgro G n ad) k = kad G k := kgro_ad (by omega)
theorem k_grow {fl2 : va_W} (hN : 133 ≤ kN G) (h11 : w 11 = liA G) (h45 : w 45 = rngA G) (hfl : fl = (List.range n).map (fun i => (ad i, w (kN G + i))) ++ fl2) (kk : KW p l e R s m args below meth c nL (kgro G n ad) Q (grW (kgro G n ad) w) fl2 cells slots pc lv st) : KW p l e R s m args below meth c nL G Q w fl cells slots pc lv st := by
  refine k_rcN (k := 11) (t := 4) (n9 := 12) (g := fun j => some (kad (kgro G n ad) (20 + j))) (by omega) h11 (fun i hi => by show some (kad G (20 + i)) = some (kad (kgro G n ad) (20 + i)); rw [gr_ad hN (by omega)]) ?_
  refine k_rcN (k := 45) (t := 5) (n9 := 10) (g := fun j => some (kad (kgro G n ad) (46 + 7 * j))) (by omega) (by show va_up w 11 _ 45 = _; rw [show va_up w 11 (rA G 4 12 fun j => some (kad (kgro G n ad) (20 + j))) 45 = w 45 by simp [va_up]]; exact h45) (fun i hi => by show some (kad G (46 + 7 * i)) = some (kad (kgro G n ad) (46 + 7 * i)); rw [gr_ad hN (by omega)]) ?_
  refine k_sw (G1 := kgro G n ad) (w1 := grW (kgro G n ad) w) (fl1 := fl2) rfl rfl ?_ kk
  rw [kgro_ws, hfl]
  have e : (List.range n).map (fun i => (ad i, grW (kgro G n ad) w (kN G + i))) = (List.range n).map (fun i => (ad i, w (kN G + i))) := by
    apply List.map_congr_left
    intro i hi
    rw [grW_n (by omega)]
  rw [e]
  rfl
theorem gr_sr {sv : Int} (hN : 133 ≤ kN G) : srO G sv = srO (kgro G n ad) sv := by
  unfold srO
  rw [gr_ad hN (show 1 < 133 by decide), gr_ad hN (show 32 < 133 by decide), gr_ad hN (show 3 < 133 by decide), gr_ad hN (show 37 < 133 by decide), gr_ad hN (show 44 < 133 by decide), gr_ad hN (show 10 < 133 by decide), gr_ad hN (show 116 < 133 by decide), gr_ad hN (show 129 < 133 by decide), gr_ad hN (show 132 < 133 by decide)]
theorem gr_tr (hN : 133 ≤ kN G) : trO G = trO (kgro G n ad) := by
  unfold trO
  rw [gr_ad hN (show 1 < 133 by decide), gr_ad hN (show 117 < 133 by decide), gr_ad hN (show 122 < 133 by decide)]
theorem gr_qd (hN : 133 ≤ kN G) : qdO G = qdO (kgro G n ad) := by
  unfold qdO
  rw [gr_ad hN (show 1 < 133 by decide), gr_ad hN (show 3 < 133 by decide), gr_ad hN (show 10 < 133 by decide), gr_ad hN (show 130 < 133 by decide), gr_ad hN (show 131 < 133 by decide)]
theorem gr_log {b : Nat} {g : Nat → Int} (hN : 133 ≤ kN G) (hb : b + 6 < 133) (h : kLog G w b g) : kLog (kgro G n ad) w b g := by
  obtain ⟨h0, h1, h2, h3, h4, h5, h6⟩ := h
  refine ⟨h0.trans ?_, h1, h2, h3, h4, h5, h6⟩
  unfold logO
  rw [gr_ad hN (show b + 1 < 133 by omega), gr_ad hN (show b + 2 < 133 by omega), gr_ad hN (show b + 3 < 133 by omega), gr_ad hN (show b + 4 < 133 by omega), gr_ad hN (show b + 5 < 133 by omega), gr_ad hN (show b + 6 < 133 by omega)]
theorem gr_plan {b : Nat} {g nl : Nat → Int} (hN : 133 ≤ kN G) (hb : b + 4 < 133) (h : kPlan G w b g nl) : kPlan (kgro G n ad) w b g nl := by
  obtain ⟨h0, h1, h2, h3, h4⟩ := h
  refine ⟨h0.trans ?_, h1, h2, h3, h4⟩
  unfold planO
  rw [gr_ad hN (show b + 1 < 133 by omega), gr_ad hN (show b + 2 < 133 by omega), gr_ad hN (show b + 3 < 133 by omega), gr_ad hN (show b + 4 < 133 by omega)]
theorem gr_sa {T : List Int} (hN : 133 ≤ kN G) (h : saR G w T) : saR (kgro G n ad) w T := by
  obtain ⟨h1, h2, h3, ⟨cd, ea, kd, nm, sa, nx, en, h4⟩, bt, h5, h6⟩ := h
  refine ⟨h1, h2, h3, ⟨cd, ea, kd, nm, sa, nx, en, h4.trans ?_⟩, bt, h5, h6⟩
  unfold tkO
  rw [gr_ad hN (show 2 < 133 by decide)]
theorem gr_hist {hs : Nat → Nat → Int} {nx cn : Int} (hN : 133 ≤ kN G) (h : kHist G w hs nx cn) : kHist (kgro G n ad) (grW (kgro G n ad) w) hs nx cn := by
  obtain ⟨⟨h0, h1⟩, h2⟩ := h
  refine ⟨⟨(grW_n (by decide)).trans (h0.trans ?_), grW_45⟩, fun i hi => ?_⟩
  · unfold hisO
    rw [gr_ad hN (show 45 < 133 by decide)]
  · exact (gr_log hN (by omega) (h2 i hi)).fr (fun j q1 q2 => grW_n (by omega))
theorem gr_cht (hN : 133 ≤ kN G) (h : kCht G w) : kCht (kgro G n ad) (grW (kgro G n ad) w) := by
  obtain ⟨⟨h10, h11⟩, hLn, ⟨x, y, la, lo, hSh⟩, ⟨z, z0, x0, y0, z1, x1, y1, z2, x2, y2, a1, a2, a3, a4⟩, ⟨b1, b2, b3, b4⟩, ⟨d1, d2, d3, d4⟩⟩ := h
  refine ⟨⟨(grW_n (by decide)).trans (h10.trans ?_), grW_11⟩, fun i hi => ?_, ⟨x, y, la, lo, (grW_n (by decide)).trans hSh⟩, ⟨z, z0, x0, y0, z1, x1, y1, z2, x2, y2, (grW_n (by decide)).trans (a1.trans ?_), (grW_n (by decide)).trans a2, (grW_n (by decide)).trans a3, (grW_n (by decide)).trans a4⟩, ⟨b1, b2, b3, (grW_n (by decide)).trans b4⟩, ⟨d1, d2, d3, (grW_n (by decide)).trans d4⟩⟩
  · unfold chO
    first | rw [gr_ad hN (show 13 < 133 by decide), gr_ad hN (show 11 < 133 by decide), gr_ad hN (show 12 < 133 by decide), gr_ad hN (show 14 < 133 by decide), gr_ad hN (show 15 < 133 by decide), gr_ad hN (show 16 < 133 by decide)] | simp only [gr_ad hN (show 3 < 133 by decide), gr_ad hN (show 11 < 133 by decide), gr_ad hN (show 12 < 133 by decide), gr_ad hN (show 13 < 133 by decide), gr_ad hN (show 14 < 133 by decide), gr_ad hN (show 15 < 133 by decide), gr_ad hN (show 16 < 133 by decide), gr_ad hN (show 32 < 133 by decide)]
  · have h9 := hLn i hi
    obtain ⟨a, b, c, d, e, f, g, h, k, h9⟩ := h9
    exact ⟨a, b, c, d, e, f, g, h, k, (grW_n (by omega)).trans h9⟩
  · unfold hatO
    rw [gr_ad hN (show 17 < 133 by decide), gr_ad hN (show 18 < 133 by decide), gr_ad hN (show 19 < 133 by decide)]
theorem gr_ow {g : Nat → Int} (hM : 138 ≤ kN G) (h : owR G w fl g) : owR (kgro G n ad) (grW (kgro G n ad) w) fl g := by
  obtain ⟨h1, ⟨F, h2, h3⟩, ⟨F1, h4, h5⟩, F2, h6, h7⟩ := h
  refine ⟨(grW_n (by decide)).trans (h1.trans ?_), ⟨F, (grW_n (by decide)).trans h2, h3⟩, ⟨F1, (grW_n (by decide)).trans h4, h5⟩, F2, (grW_n (by decide)).trans h6, h7⟩
  unfold owO
  rw [kgro_ad (show 135 < kN G by omega), kgro_ad (show 136 < kN G by omega), kgro_ad (show 137 < kN G by omega)]
theorem ow_gE {g g1 : Nat → Int} (e : gE g1 g) (h : owR G w fl g) : owR G w fl g1 := by
  obtain ⟨h1, ⟨F, h2, h3⟩, ⟨F1, h4, h5⟩, F2, h6, h7⟩ := h
  have c := fun j hj => e.1 j hj
  have c0 := c 0 (by decide)
  have c1 := c 1 (by decide)
  have c2 := c 2 (by decide)
  refine ⟨h1.trans ?_, ⟨F, h2, ?_⟩, ⟨F1, h4, ?_⟩, F2, h6, ?_⟩
  · unfold owO
    rw [c 0 (by decide), c 1 (by decide), c 2 (by decide), c 3 (by decide), c 4 (by decide), c 5 (by decide), c 6 (by decide), c 7 (by decide), c 8 (by decide)]
  · rw [c0]
    refine trI_cg h3 (fun i hi => ?_)
    obtain ⟨q1, q2, q3⟩ := e.body (k := i) (by omega)
    exact ⟨q1, q2, q3⟩
  · rw [c1]
    refine trI_cg h5 (fun i hi => ?_)
    obtain ⟨q1, q2, q3⟩ := e.leg (k := i) (by omega)
    exact ⟨q1, q2, q3⟩
  · rw [c2]
    refine trI_cg h7 (fun i hi => ?_)
    obtain ⟨q1, q2, q3⟩ := e.sight (k := i) (by omega)
    exact ⟨q1, q2, q3⟩
end
