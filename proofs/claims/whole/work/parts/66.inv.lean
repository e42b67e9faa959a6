/-! the law's invariant: the class's world and the reference's hold the same -/
def okS (g nl D : Nat → Int) : Prop := gE g D ∧ Inv D ∧ NmR D nl ∧ NmB D
theorem okS.inv {g nl D : Nat → Int} (h : okS g nl D) : Inv g := h.1.sy.inv h.2.1
def rowH (H : Nat → Int) (r : Nat) : Nat → Int := fun j => H (93 * r + j)
def LIc (G : kG) (w : Nat → va_E) (fl : va_W) (bt gc nl gp0 nl9 gl0 gs : Nat → Int) (c0 nx cn cap : Nat) (cd ea kd nm sa nx9 en sv : Int) (hs : Nat → Nat → Int) (T : List Int) : Prop :=
  (w 0 = srO G sv ∧ (sv = 0 ∨ sv = 1)) ∧ w 1 = tkO G (c0 : Int) cd ea kd nm sa nx9 en ∧ (w 2 = byA G bt ∧ btOK bt ∧ c0 ≤ 700) ∧ kLog G w 3 gc ∧ kPlan G w 32 gc nl ∧ kCht G w ∧ kLog G w 37 gs ∧ (kHist G w hs (nx : Int) (cn : Int) ∧ nx < 10 ∧ cn ≤ 10) ∧ (w 116 = trO G ∧ kPlan G w 117 gp0 nl9 ∧ kLog G w 122 gl0) ∧ (w 129 = qdO G ∧ (∃ lf, w 130 = iA G 12 lf) ∧ ∃ rf, w 131 = iA G 12 rf) ∧ sbC G w fl T cap
def LIm (G : kG) (w : Nat → va_E) (bt u gr D0 sp H : Nat → Int) : Prop :=
  w 133 = mdO G u ∧ w 134 = lA G 93 gr ∧ w 135 = lA G 93 D0 ∧ w 136 = lA G 93 sp ∧ w 137 = lA G 930 H ∧ kScr G w ∧ w 144 = iA G 700 bt ∧ (w 145 = nmA G ∧ (∃ cf, w 146 = iA G 200 cf) ∧ ∃ f, w 147 = lA G 200 f)
def LIo (G : kG) (w : Nat → va_E) : Prop := (∃ out, w 148 = lA G 1 out) ∧ ∃ oD, w 149 = dA G 1 oD
def LIr (gc nl gs u gr sp H : Nat → Int) (c0 nx cn : Nat) (ea sv : Int) (hs : Nat → Nat → Int) : Prop :=
  okS gc nl gr ∧ (∀ r, r < cn → okS (copyLM gc (hs ((nx + 10 - cn + r) % 10))) nl (rowH H r)) ∧ (sv = 1 → okS (copyLM gc gs) nl sp) ∧ u 4 = (cn : Int) ∧ u 17 = (c0 : Int) ∧ u 24 = ea ∧ u 6 = sv
def LI (G : kG) (w : Nat → va_E) (fl : va_W) : Prop := ∃ (bt gc nl gp0 nl9 gl0 gs : Nat → Int) (c0 nx cn cap : Nat) (cd ea kd nm sa nx9 en sv : Int) (hs : Nat → Nat → Int) (T : List Int) (u gr D0 sp H : Nat → Int),
  LIc G w fl bt gc nl gp0 nl9 gl0 gs c0 nx cn cap cd ea kd nm sa nx9 en sv hs T ∧ LIm G w bt u gr D0 sp H ∧ LIo G w ∧ LIr gc nl gs u gr sp H c0 nx cn ea sv hs ∧ wrR G w u T ∧ ∀ j, j < T.length → 0 ≤ T.getD j 0
/-! congruences of the class's objects -/
theorem kLog.cg {G : kG} {w : Nat → va_E} {b : Nat} {g g1 : Nat → Int} (h : kLog G w b g) (e : ∀ j, (j = 1 ∨ j = 2 ∨ (5 ≤ j ∧ j ≤ 8) ∨ 33 ≤ j) → g1 j = g j) : kLog G w b g1 := by
  obtain ⟨h0, h1, h2, h3, h4, h5, h6⟩ := h
  refine ⟨?_, h1.trans (iA_congr fun j _ => (e _ (by omega)).symm), h2.trans (iA_congr fun j _ => (e _ (by omega)).symm), h3.trans (iA_congr fun j _ => (e _ (by omega)).symm), h4.trans (iA_congr fun j _ => (e _ (by omega)).symm), h5.trans (iA_congr fun j _ => (e _ (by omega)).symm), h6.trans (iA_congr fun j _ => (e _ (by omega)).symm)⟩
  rw [h0]; unfold logO; rw [e 5 (by omega), e 6 (by omega), e 7 (by omega), e 8 (by omega), e 1 (by omega), e 2 (by omega)]
theorem kPlan.cg {G : kG} {w : Nat → va_E} {b : Nat} {g g1 nl : Nat → Int} (h : kPlan G w b g nl) (e : ∀ j, (j = 0 ∨ j = 3 ∨ j = 4 ∨ (9 ≤ j ∧ j < 33)) → g1 j = g j) : kPlan G w b g1 nl := by
  obtain ⟨h0, h1, h2, h3, h4⟩ := h
  refine ⟨?_, h1.trans (iA_congr fun j _ => (e _ (by omega)).symm), h2.trans (iA_congr fun j _ => (e _ (by omega)).symm), h3.trans (iA_congr fun j _ => (e _ (by omega)).symm), h4⟩
  rw [h0]; unfold planO; rw [e 3 (by omega), e 4 (by omega), e 0 (by omega)]
theorem sbC.fr {G : kG} {w w1 : Nat → va_E} {fl : va_W} {T : List Int} {cap : Nat} (h : sbC G w fl T cap) (e : w1 132 = w 132) : sbC G w1 fl T cap := by
  obtain ⟨q, f, ml, a, b, c, d, g, k⟩ := h
  exact ⟨q, f, ml, a, e.trans b, c, d, g, k⟩
theorem wrR.fr {G : kG} {w w1 : Nat → va_E} {u u1 : Nat → Int} {T : List Int} (h : wrR G w u T) (e : w1 143 = w 143) (eu : u1 15 = u 15) : wrR G w1 u1 T := by
  obtain ⟨c, f, a, b, d, g⟩ := h
  exact ⟨c, f, eu.trans a, b, e.trans d, g⟩
/-- nothing of what is told changes: the chart, the reference's scratch, its exception, the answer's cells -/
theorem LI.rd {G : kG} {w w3 : Nat → va_E} {fl : va_W} {bt gc nl gp0 nl9 gl0 gs : Nat → Int} {c0 nx cn cap : Nat} {cd ea kd nm sa nx9 en sv : Int} {hs : Nat → Nat → Int} {T : List Int} {u gr D0 sp H u3 : Nat → Int}
    (hc : LIc G w fl bt gc nl gp0 nl9 gl0 gs c0 nx cn cap cd ea kd nm sa nx9 en sv hs T) (hm : LIm G w bt u gr D0 sp H) (hr : LIr gc nl gs u gr sp H c0 nx cn ea sv hs) (hw : wrR G w u T) (hT : ∀ j, j < T.length → 0 ≤ T.getD j 0)
    (k1 : kCht G w3) (k2 : kScr G w3) (k3 : w3 133 = mdO G u3) (ku : u3 4 = u 4 ∧ u3 6 = u 6 ∧ u3 15 = u 15 ∧ u3 17 = u 17 ∧ u3 24 = u 24) (k4 : LIo G w3)
    (hf : ∀ j, ((j < 10 ∨ 31 < j) ∧ j ≠ 133 ∧ (j < 138 ∨ 142 < j) ∧ j ≠ 148 ∧ j ≠ 149) → w3 j = w j) : LI G w3 fl := by
  obtain ⟨⟨a0, a0'⟩, a1, ⟨a2, a2', a2''⟩, a3, a4, a5, a6, ⟨a7, a7', a7''⟩, ⟨a8, a9, a10⟩, ⟨a11, ⟨lf, a12⟩, ⟨rf, a13⟩⟩, a14⟩ := hc
  obtain ⟨b0, b1, b2, b3, b4, b5, b6, b7, ⟨cf, b8⟩, ⟨f, b9⟩⟩ := hm
  obtain ⟨r0, r1, r2, r3, r4, r5, r6⟩ := hr
  obtain ⟨e4, e6, e15, e17, e24⟩ := ku
  exact ⟨bt, gc, nl, gp0, nl9, gl0, gs, c0, nx, cn, cap, cd, ea, kd, nm, sa, nx9, en, sv, hs, T, u3, gr, D0, sp, H,
    ⟨⟨(hf 0 (by decide)).trans a0, a0'⟩, (hf 1 (by decide)).trans a1, ⟨(hf 2 (by decide)).trans a2, a2', a2''⟩, a3.fr (fun j q1 q2 => hf j (by omega)), a4.fr (fun j q1 q2 => hf j (by omega)), k1, a6.fr (fun j q1 q2 => hf j (by omega)), ⟨a7.fr (fun j q1 q2 => hf j (by omega)), a7', a7''⟩, ⟨(hf 116 (by decide)).trans a8, a9.fr (fun j q1 q2 => hf j (by omega)), a10.fr (fun j q1 q2 => hf j (by omega))⟩, ⟨(hf 129 (by decide)).trans a11, ⟨lf, (hf 130 (by decide)).trans a12⟩, ⟨rf, (hf 131 (by decide)).trans a13⟩⟩, a14.fr (hf 132 (by decide))⟩,
    ⟨k3, (hf 134 (by decide)).trans b1, (hf 135 (by decide)).trans b2, (hf 136 (by decide)).trans b3, (hf 137 (by decide)).trans b4, k2, (hf 144 (by decide)).trans b6, (hf 145 (by decide)).trans b7, ⟨cf, (hf 146 (by decide)).trans b8⟩, ⟨f, (hf 147 (by decide)).trans b9⟩⟩, k4,
    ⟨r0, r1, r2, e4.trans r3, e17.trans r4, e24.trans r5, e6.trans r6⟩, hw.fr (hf 143 (by decide)) e15, hT⟩
/-- an operation -/
theorem okS.cp {g g1 h nl D : Nat → Int} (k : okS (copyLM g h) nl D) (e : ∀ j, ¬ (j = 1 ∨ j = 2 ∨ (5 ≤ j ∧ j ≤ 8) ∨ 33 ≤ j) → g1 j = g j) : okS (copyLM g1 h) nl D := by
  have : copyLM g1 h = copyLM g h := by
    funext j
    by_cases q : j = 1 ∨ j = 2 ∨ (5 ≤ j ∧ j ≤ 8) ∨ 33 ≤ j
    · rw [copyLM_l q, copyLM_l q]
    · rw [copyLM_p q, copyLM_p q, e j q]
  rw [this]; exact k
theorem gE.cg {g g1 D D1 : Nat → Int} (h : gE g D) (e : ∀ j, j < 93 → g1 j = g j) (e1 : ∀ j, j < 93 → D1 j = D j) (h0 : g 0 ≤ 6) (h1 : g 1 ≤ 8) (h2 : g 2 ≤ 12) : gE g1 D1 := by
  obtain ⟨a, b, c, d⟩ := h
  refine ⟨fun j hj => ?_, fun k q hk hq => ?_, fun k q hk hq => ?_, fun k q hk hq => ?_⟩
  · rw [e j (by omega), e1 j (by omega)]; exact a j hj
  · rw [e 0 (by omega)] at hk
    rw [e _ (by omega), e1 _ (by omega)]; exact b k q hk hq
  · rw [e 1 (by omega)] at hk
    rw [e _ (by omega), e1 _ (by omega)]; exact c k q hk hq
  · rw [e 2 (by omega)] at hk
    rw [e _ (by omega), e1 _ (by omega)]; exact d k q hk hq
theorem Inv.cg {D D1 : Nat → Int} (h : Inv D) (e : ∀ j, j < 93 → D1 j = D j) : Inv D1 := by
  have h0 := h.c
  exact (gE.cg (g := D) (g1 := D) (D := D) (D1 := D1) gE.rf (fun _ _ => rfl) e (by omega) (by omega) (by omega)).inv h
theorem okS.cg {g g1 nl D D1 : Nat → Int} (h : okS g nl D) (e : ∀ j, j < 93 → g1 j = g j) (e1 : ∀ j, j < 93 → D1 j = D j) : okS g1 nl D1 := by
  have h0 := h.inv.c
  have h1 := h.2.1.c
  exact ⟨h.1.cg e e1 (by omega) (by omega) (by omega), h.2.1.cg e1, h.2.2.1.hd (fun j hj => e1 j (by omega)) h.2.1, h.2.2.2.hd (fun j hj => e1 j (by omega)) (by omega)⟩
theorem okS.self {g nl D : Nat → Int} (h : okS g nl D) : okS (copyLM g g) nl D := by
  have : copyLM g g = g := by
    funext j
    unfold copyLM; split <;> rfl
  rw [this]; exact h
theorem ring_a {nx cn r : Nat} (h1 : nx < 10) (h2 : cn < 10) (h3 : r < cn) : ((nx + 1) % 10 + 10 - (cn + 1) + r) % 10 = (nx + 10 - cn + r) % 10 ∧ (nx + 10 - cn + r) % 10 ≠ nx := by omega
theorem ring_b {nx cn : Nat} (h1 : nx < 10) (h2 : cn < 10) : ((nx + 1) % 10 + 10 - (cn + 1) + cn) % 10 = nx := by omega
theorem ring_c {nx r : Nat} (h1 : nx < 10) (h3 : r < 9) : ((nx + 1) % 10 + 10 - 10 + r) % 10 = (nx + 10 - 10 + (r + 1)) % 10 ∧ (nx + 10 - 10 + (r + 1)) % 10 ≠ nx := by omega
theorem ring_d {nx : Nat} (h1 : nx < 10) : ((nx + 1) % 10 + 10 - 10 + 9) % 10 = nx := by omega
theorem LIr.op {gc g1 nl gs u u3 gr gr1 sp H H1 : Nat → Int} {c0 nx cn : Nat} {ea sv : Int} {hs : Nat → Nat → Int} (h : LIr gc nl gs u gr sp H c0 nx cn ea sv hs) (hnx : nx < 10) (hcn : cn ≤ 10) (hi : hisP H gr cn H1)
    (k : okS g1 nl gr1) (e : ∀ j, ¬ (j = 1 ∨ j = 2 ∨ (5 ≤ j ∧ j ≤ 8) ∨ 33 ≤ j) → g1 j = gc j) (ku : u3 4 = min ((cn : Int) + 1) 10 ∧ u3 6 = u 6 ∧ u3 17 = u 17 ∧ u3 24 = u 24) : LIr g1 nl gs u3 gr1 sp H1 c0 ((nx + 1) % 10) (min (cn + 1) 10) ea sv (hsP hs nx gc) := by
  obtain ⟨r0, r1, r2, r3, r4, r5, r6⟩ := h
  refine ⟨k, fun r hr => ?_, fun q => (r2 q).cp e, by rw [ku.1]; omega, by rw [ku.2.2.1]; exact r4, by rw [ku.2.2.2]; exact r5, by rw [ku.2.1]; exact r6⟩
  refine okS.cp ?_ e
  rcases Nat.lt_or_ge cn 10 with q | q
  · rw [Nat.min_eq_left (by omega)] at hr ⊢
    rcases Nat.lt_or_ge r cn with z | z
    · obtain ⟨z1, z2⟩ := ring_a hnx q z
      rw [z1, show hsP hs nx gc ((nx + 10 - cn + r) % 10) = hs ((nx + 10 - cn + r) % 10) from if_neg z2]
      refine (r1 r z).cg (fun _ _ => rfl) (fun j hj => ?_)
      have := hi.1 r j hj (by omega)
      rw [if_neg (by omega)] at this
      exact this
    · obtain rfl : r = cn := by omega
      rw [ring_b hnx q, show hsP hs nx gc nx = gc from if_pos rfl]
      refine r0.self.cg (fun _ _ => rfl) (fun j hj => ?_)
      have := hi.2 j hj
      rw [Nat.min_eq_left (by omega)] at this
      exact this
  · obtain rfl : cn = 10 := by omega
    rw [show min (10 + 1) 10 = 10 from rfl] at hr ⊢
    rcases Nat.lt_or_ge r 9 with z | z
    · obtain ⟨z1, z2⟩ := ring_c hnx z
      rw [z1, show hsP hs nx gc ((nx + 10 - 10 + (r + 1)) % 10) = hs ((nx + 10 - 10 + (r + 1)) % 10) from if_neg z2]
      refine (r1 (r + 1) (by omega)).cg (fun _ _ => rfl) (fun j hj => ?_)
      have := hi.1 r j hj (by omega)
      rw [if_pos rfl] at this
      exact this
    · obtain rfl : r = 9 := by omega
      rw [ring_d hnx, show hsP hs nx gc nx = gc from if_pos rfl]
      exact r0.self.cg (fun _ _ => rfl) (fun j hj => hi.2 j hj)
theorem LI.op {G : kG} {w w2 w3 : Nat → va_E} {fl : va_W} {bt gc nl gp0 nl9 gl0 gs : Nat → Int} {c0 nx cn cap : Nat} {cd ea kd nm sa nx9 en sv : Int} {hs : Nat → Nat → Int} {T : List Int} {u gr D0 sp H g1 gr1 : Nat → Int}
    (hc : LIc G w fl bt gc nl gp0 nl9 gl0 gs c0 nx cn cap cd ea kd nm sa nx9 en sv hs T) (hm : LIm G w bt u gr D0 sp H) (hr : LIr gc nl gs u gr sp H c0 nx cn ea sv hs) (hw : wrR G w u T) (hT : ∀ j, j < T.length → 0 ≤ T.getD j 0)
    (k1 : kLog G w2 3 g1) (k2 : kHist G w2 (hsP hs nx gc) (((nx + 1) % 10 : Nat) : Int) (min ((cn : Int) + 1) 10)) (hf2 : ∀ j, ((j < 3 ∨ 9 < j) ∧ (j < 44 ∨ 115 < j) ∧ j ≠ 148) → w2 j = w j) (ho : LIo G w2)
    (k3 : w3 133 = mdO G (kup (kup u 4 (min ((cn : Int) + 1) 10)) 5 0)) (k4 : w3 134 = lA G 93 gr1) (k5 : ∃ H1, w3 137 = lA G 930 H1 ∧ hisP H gr cn H1) (hf3 : ∀ j, (j ≠ 133 ∧ j ≠ 134 ∧ j ≠ 137) → w3 j = w2 j)
    (k : okS g1 nl gr1) (e : ∀ j, ¬ (j = 1 ∨ j = 2 ∨ (5 ≤ j ∧ j ≤ 8) ∨ 33 ≤ j) → g1 j = gc j) : LI G w3 fl := by
  obtain ⟨⟨a0, a0'⟩, a1, ⟨a2, a2', a2''⟩, a3, a4, a5, a6, ⟨a7, a7', a7''⟩, ⟨a8, a9, a10⟩, ⟨a11, ⟨lf, a12⟩, ⟨rf, a13⟩⟩, a14⟩ := hc
  obtain ⟨b0, b1, b2, b3, b4, b5, b6, b7, ⟨cf, b8⟩, ⟨f, b9⟩⟩ := hm
  obtain ⟨H1, h1, hi⟩ := k5
  obtain ⟨⟨o1, o2⟩, ⟨o3, o4⟩⟩ := ho
  have hf : ∀ j, ((j < 3 ∨ 9 < j) ∧ (j < 44 ∨ 115 < j) ∧ j ≠ 133 ∧ j ≠ 134 ∧ j ≠ 137 ∧ j ≠ 148) → w3 j = w j := fun j hj => (hf3 j (by omega)).trans (hf2 j (by omega))
  have hn : ((min (cn + 1) 10 : Nat) : Int) = min ((cn : Int) + 1) 10 := by omega
  exact ⟨bt, g1, nl, gp0, nl9, gl0, gs, c0, (nx + 1) % 10, min (cn + 1) 10, cap, cd, ea, kd, nm, sa, nx9, en, sv, hsP hs nx gc, T, _, gr1, D0, sp, H1,
    ⟨⟨(hf 0 (by decide)).trans a0, a0'⟩, (hf 1 (by decide)).trans a1, ⟨(hf 2 (by decide)).trans a2, a2', a2''⟩, k1.fr (fun j q1 q2 => hf3 j (by omega)), (a4.cg (fun j hj => e j (by omega))).fr (fun j q1 q2 => hf j (by omega)), a5.fr (fun j q1 q2 => hf j (by omega)), a6.fr (fun j q1 q2 => hf j (by omega)), ⟨by rw [hn]; exact k2.fr (fun j q1 q2 => hf3 j (by omega)), by omega, by omega⟩, ⟨(hf 116 (by decide)).trans a8, a9.fr (fun j q1 q2 => hf j (by omega)), a10.fr (fun j q1 q2 => hf j (by omega))⟩, ⟨(hf 129 (by decide)).trans a11, ⟨lf, (hf 130 (by decide)).trans a12⟩, ⟨rf, (hf 131 (by decide)).trans a13⟩⟩, a14.fr (hf 132 (by decide))⟩,
    ⟨k3, k4, (hf 135 (by decide)).trans b2, (hf 136 (by decide)).trans b3, h1, b5.fr (fun j q1 q2 => hf j (by omega)), (hf 144 (by decide)).trans b6, (hf 145 (by decide)).trans b7, ⟨cf, (hf 146 (by decide)).trans b8⟩, ⟨f, (hf 147 (by decide)).trans b9⟩⟩, ⟨⟨o1, (hf3 148 (by decide)).trans o2⟩, ⟨o3, (hf3 149 (by decide)).trans o4⟩⟩,
    hr.op a7' a7'' hi k e ⟨rfl, rfl, rfl, rfl⟩, hw.fr (hf 143 (by decide)) rfl, hT⟩
theorem okS.opL {gc nl gr g1 gr1 : Nat → Int} (h : okS gc nl gr) (hg : gE g1 gr1) (hI : Inv gr1) (e : ∀ j, (j = 0 ∨ (9 ≤ j ∧ j < 33)) → gr1 j = gr j) : okS g1 nl gr1 := by
  have h0 := h.2.1.c
  exact ⟨hg, hI, h.2.2.1.hd e h.2.1, h.2.2.2.hd (fun j hj => e j (by omega)) (by omega)⟩
