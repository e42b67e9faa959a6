/-! the law's invariant behind the other calls -/
theorem NmB0 : NmB (fun _ => 0) := fun k hk => absurd (show (k : Int) < 0 from hk) (by omega)
theorem txN_nmB {bt : Nat → Int} {n : Nat} : ∀ (k : Nat) (x : PS × (Nat → Int)), Inv x.2 → NmB x.2 → (txN bt n k x).1.1 = 0 → NmB (txN bt n k x).2 := by
  intro k
  induction k with
  | zero => intro x _ h _; exact h
  | succ k ih =>
    intro x h hb h1
    by_cases g : goP bt n x.1
    · have e : txN bt n (k + 1) x = txN bt n k (clS bt n x.2 x.1, clD bt n x.2 x.1) := selP_1 g
      rw [e] at h1 ⊢
      by_cases q : (clS bt n x.2 x.1).1 = 0
      · exact ih _ (cl_inv h (cl_c0 q)) (cl_nmB h hb (cl_c0 q)) h1
      · rw [txN_st (fun z => q z.1)] at h1; exact absurd h1 q
    · rw [txN_st g]; exact hb
theorem txF_nmB {bt : Nat → Int} {n : Nat} (h : (txF bt n).1.1 = 0) : NmB (txF bt n).2 := txN_nmB 701 _ Inv0 NmB0 h
theorem bput5_ok {bt : Nat → Int} (h : btOK bt) (c : Nat) (a b d e f : Int) : btOK (bput5 bt c a b d e f) := bput_ok (bput_ok (bput_ok (bput_ok (bput_ok h _ _) _ _) _ _) _ _) _ _
theorem dgN_nn : ∀ (k : Nat) (n : Int), ∀ x ∈ dgN 10 48 k n, 0 ≤ x := by
  intro k
  induction k with
  | zero =>
    intro n x hx
    have := List.mem_singleton.mp hx
    omega
  | succ k ih =>
    intro n x hx
    rcases List.mem_append.mp hx with h | h
    · split at h
      · exact ih _ x h
      · exact absurd h List.not_mem_nil
    · have := List.mem_singleton.mp h
      omega
theorem getD_nn {T : List Int} (h : ∀ x ∈ T, 0 ≤ x) : ∀ j, j < T.length → 0 ≤ T.getD j 0 := fun j hj => by
  rw [List.getD_eq_getElem?_getD, List.getElem?_eq_getElem hj]
  exact h _ (List.getElem_mem hj)
theorem nmL_nn {g nl : Nat → Int} {b : Nat} (h : ∀ i : Nat, (i : Int) < g (11 + 4 * b) → 97 ≤ nl (8 * b + i) ∧ nl (8 * b + i) ≤ 122) : ∀ x ∈ nmL g nl b, 0 ≤ x := fun x hx => by
  unfold nmL at hx
  obtain ⟨i, hi, rfl⟩ := List.mem_map.mp hx
  have hi' := List.mem_range.mp hi
  have := h i (by omega)
  omega
theorem nmL_R {gc nl gr : Nat → Int} (h : okS gc nl gr) {b : Nat} (hb : (b : Int) < gc 0) : nmL gc nl b = dgN 27 96 7 (gr (12 + 4 * b)) ∧ ∀ i : Nat, (i : Int) < gc (11 + 4 * b) → 97 ≤ nl (8 * b + i) ∧ nl (8 * b + i) ≤ 122 := by
  have e0 := h.1.n 0 (by decide)
  have e := (h.1.body hb).2.2
  have hi := h.2.1.body b (by omega)
  obtain ⟨n1, n2⟩ := h.2.2.1 b (by omega)
  have hl : ∀ i, i < (gr (11 + 4 * b)).toNat → 97 ≤ (fun i => nl (8 * b + i)) i ∧ (fun i => nl (8 * b + i)) i ≤ 122 := fun i hi => n2 i (by omega)
  refine ⟨?_, fun i hi => n2 i (by omega)⟩
  rw [n1, nm_dg7 (by omega) hl]
  unfold nmL
  rw [e]
theorem fm_eq {gc nl gr : Nat → Int} (h : okS gc nl gr) {i : Nat} (hi : (i : Int) < gc 2) : fmC gc nl i = fmM gr i := by
  have hI := h.inv
  have hs := h.1.sight hi
  have hsi := hI.sight i hi
  unfold fmC fmM
  rw [(nmL_R h (b := (gc (57 + 3 * i)).toNat) (by omega)).1, h.1.obs hi, h.1.azi hI hi, h.1.int hI hi, hs.1]
theorem fm_nn {gc nl gr : Nat → Int} (h : okS gc nl gr) {i : Nat} (hi : (i : Int) < gc 2) : ∀ x ∈ fmC gc nl i, 0 ≤ x := by
  have hI := h.inv
  have hsi := hI.sight i hi
  have ho := obsM_b hI i hi
  have hn := nmL_nn (nmL_R h (b := (gc (57 + 3 * i)).toNat) (by omega)).2
  have hd1 := dgN_nn 1 (obsM gc i / 60)
  have hd2 := dgN_nn 2 (aziM gc i / 60)
  have hd4 := dgN_nn 4 ((intM gc i).natAbs : Int)
  intro x hx
  unfold fmC at hx
  simp only [List.nil_append, List.mem_append, List.mem_singleton] at hx
  rcases hx with ((((((((((hx | hx) | hx) | hx) | hx) | hx) | hx) | hx) | hx) | hx) | hx) | hx
  · exact hn x hx
  · omega
  · exact hd1 x hx
  · omega
  · omega
  · omega
  · omega
  · omega
  · exact hd2 x hx
  · omega
  · rw [hx]; split <;> decide
  · exact hd4 x hx
section
variable {G : kG} {w w3 : Nat → va_E} {fl : va_W} {bt gc nl gp0 nl9 gl0 gs : Nat → Int} {c0 nx cn cap : Nat} {cd ea kd nm sa nx9 en sv : Int} {hs : Nat → Nat → Int} {T : List Int} {u gr D0 sp H u3 : Nat → Int}
theorem LI.feed {bt1 : Nat → Int} (hc : LIc G w fl bt gc nl gp0 nl9 gl0 gs c0 nx cn cap cd ea kd nm sa nx9 en sv hs T) (hm : LIm G w bt u gr D0 sp H) (hr : LIr gc nl gs u gr sp H c0 nx cn ea sv hs) (hw : wrR G w u T) (hT : ∀ j, j < T.length → 0 ≤ T.getD j 0) (k9 : LIo G w3)
    (h7 : c0 + 20 ≤ 700) (hb : btOK bt1) (k1 : w3 1 = tkO G ((c0 + 20 : Nat) : Int) cd ea kd nm sa nx9 en) (k2 : w3 2 = byA G bt1) (k3 : w3 133 = mdO G (kup (kup u 5 0) 17 ((c0 + 20 : Nat) : Int))) (k4 : w3 144 = iA G 700 bt1)
    (hf : ∀ j, (j ≠ 1 ∧ j ≠ 2 ∧ j ≠ 133 ∧ j ≠ 144 ∧ j ≠ 148 ∧ j ≠ 149) → w3 j = w j) : LI G w3 fl := by
  obtain ⟨⟨a0, a0'⟩, a1, ⟨a2, a2', a2''⟩, a3, a4, a5, a6, ⟨a7, a7', a7''⟩, ⟨a8, a9, a10⟩, ⟨a11, ⟨lf, a12⟩, ⟨rf, a13⟩⟩, a14⟩ := hc
  obtain ⟨b0, b1, b2, b3, b4, b5, b6, b7, ⟨cf, b8⟩, ⟨f, b9⟩⟩ := hm
  obtain ⟨r0, r1, r2, r3, r4, r5, r6⟩ := hr
  exact ⟨bt1, gc, nl, gp0, nl9, gl0, gs, c0 + 20, nx, cn, cap, cd, ea, kd, nm, sa, nx9, en, sv, hs, T, _, gr, D0, sp, H,
    ⟨⟨(hf 0 (by decide)).trans a0, a0'⟩, k1, ⟨k2, hb, h7⟩, a3.fr (fun j q1 q2 => hf j (by omega)), a4.fr (fun j q1 q2 => hf j (by omega)), a5.fr (fun j q1 q2 => hf j (by omega)), a6.fr (fun j q1 q2 => hf j (by omega)), ⟨a7.fr (fun j q1 q2 => hf j (by omega)), a7', a7''⟩, ⟨(hf 116 (by decide)).trans a8, a9.fr (fun j q1 q2 => hf j (by omega)), a10.fr (fun j q1 q2 => hf j (by omega))⟩, ⟨(hf 129 (by decide)).trans a11, ⟨lf, (hf 130 (by decide)).trans a12⟩, ⟨rf, (hf 131 (by decide)).trans a13⟩⟩, a14.fr (hf 132 (by decide))⟩,
    ⟨k3, (hf 134 (by decide)).trans b1, (hf 135 (by decide)).trans b2, (hf 136 (by decide)).trans b3, (hf 137 (by decide)).trans b4, b5.fr (fun j q1 q2 => hf j (by omega)), k4, (hf 145 (by decide)).trans b7, ⟨cf, (hf 146 (by decide)).trans b8⟩, ⟨f, (hf 147 (by decide)).trans b9⟩⟩, k9,
    ⟨r0, r1, r2, r3, kup_s, r5, r6⟩, hw.fr (hf 143 (by decide)) rfl, hT⟩
/-- a text was read (by load or query): its count is 0, its place told on both sides -/
theorem LI.txt {st : PS} {n : Nat} {u1 : Nat → Int} (hc : LIc G w fl bt gc nl gp0 nl9 gl0 gs c0 nx cn cap cd ea kd nm sa nx9 en sv hs T) (hm : LIm G w bt u gr D0 sp H) (hr : LIr gc nl gs u gr sp H c0 nx cn ea sv hs) (hw : wrR G w u T) (hT : ∀ j, j < T.length → 0 ≤ T.getD j 0) (k9 : LIo G w3)
    (k1 : tkR G w3 bt n st) (kc : kCht G w3) (kl : ∃ lf, w3 130 = iA G 12 lf) (kr : ∃ rf, w3 131 = iA G 12 rf) (kp : ∃ gp1 nl1, kPlan G w3 117 gp1 nl1) (kg : ∃ gl1, kLog G w3 122 gl1)
    (k3 : w3 133 = mdO G u1) (ku : u1 15 = u 15 ∧ u1 17 = 0 ∧ u1 24 = selI (st.1 = 0) (-1) st.2.1 ∧ u1 4 = u 4 ∧ u1 6 = u 6) (kD : ∃ D1, w3 135 = lA G 93 D1) (kcf : ∃ cf, w3 146 = iA G 200 cf) (kf : ∃ f, w3 147 = lA G 200 f)
    (hf : ∀ j, (j ≠ 1 ∧ (j < 10 ∨ 31 < j) ∧ (j < 117 ∨ 128 < j) ∧ j ≠ 130 ∧ j ≠ 131 ∧ j ≠ 133 ∧ j ≠ 135 ∧ j ≠ 146 ∧ j ≠ 147 ∧ j ≠ 148 ∧ j ≠ 149) → w3 j = w j) : LI G w3 fl := by
  obtain ⟨⟨a0, a0'⟩, a1, ⟨a2, a2', a2''⟩, a3, a4, a5, a6, ⟨a7, a7', a7''⟩, ⟨a8, a9, a10⟩, ⟨a11, a12, a13⟩, a14⟩ := hc
  obtain ⟨b0, b1, b2, b3, b4, b5, b6, b7, b8, b9⟩ := hm
  obtain ⟨r0, r1, r2, r3, r4, r5, r6⟩ := hr
  obtain ⟨cz, ez, kz, nz, sz, xz, t1, t2, t3, t4⟩ := k1
  obtain ⟨gp1, nl1, kp⟩ := kp
  obtain ⟨gl1, kg⟩ := kg
  obtain ⟨D1, kD⟩ := kD
  obtain ⟨e15, e17, e24, e4, e6⟩ := ku
  subst t2
  have hea : u1 24 = ez := by
    rw [e24]
    by_cases q : st.1 = 0
    · rw [selI_1 q, (t3 q).2.1]
    · rw [selI_0 q, (t4 q).2.1]
  exact ⟨bt, gc, nl, gp1, nl1, gl1, gs, 0, nx, cn, cap, st.1, ez, kz, nz, sz, xz, (n : Int), sv, hs, T, u1, gr, D1, sp, H,
    ⟨⟨(hf 0 (by decide)).trans a0, a0'⟩, t1, ⟨(hf 2 (by decide)).trans a2, a2', by omega⟩, a3.fr (fun j q1 q2 => hf j (by omega)), a4.fr (fun j q1 q2 => hf j (by omega)), kc, a6.fr (fun j q1 q2 => hf j (by omega)), ⟨a7.fr (fun j q1 q2 => hf j (by omega)), a7', a7''⟩, ⟨(hf 116 (by decide)).trans a8, kp, kg⟩, ⟨(hf 129 (by decide)).trans a11, kl, kr⟩, a14.fr (hf 132 (by decide))⟩,
    ⟨k3, (hf 134 (by decide)).trans b1, kD, (hf 136 (by decide)).trans b3, (hf 137 (by decide)).trans b4, b5.fr (fun j q1 q2 => hf j (by omega)), (hf 144 (by decide)).trans b6, (hf 145 (by decide)).trans b7, kcf, kf⟩, k9,
    ⟨r0, r1, r2, e4.trans r3, e17, hea, e6.trans r6⟩, hw.fr (hf 143 (by decide)) e15, hT⟩
/-- a text was taken over -/
theorem LI.load {n : Nat} {u1 gp1 gl1 nl1 : Nat → Int} (hc : LIc G w fl bt gc nl gp0 nl9 gl0 gs c0 nx cn cap cd ea kd nm sa nx9 en sv hs T) (hm : LIm G w bt u gr D0 sp H) (hw : wrR G w u T) (hT : ∀ j, j < T.length → 0 ≤ T.getD j 0) (k9 : LIo G w3)
    (hz : (txF bt n).1.1 = 0) (k1 : tkR G w3 bt n (txF bt n).1) (k0 : w3 0 = srO G 0) (kp : kPlan G w3 117 gp1 nl1) (kg : kLog G w3 122 gl1) (kE : gE (copyLM gp1 gl1) (txF bt n).2) (kN : NmR (txF bt n).2 nl1) (kp2 : kPlan G w3 32 gp1 nl1) (kg2 : kLog G w3 3 (copyLM gc gl1)) (kh : kHist G w3 hs 0 0)
    (k3 : w3 133 = mdO G u1) (ku : u1 15 = u 15 ∧ u1 17 = 0 ∧ u1 24 = selI ((txF bt n).1.1 = 0) (-1) (txF bt n).1.2.1 ∧ u1 4 = 0 ∧ u1 6 = 0) (k4 : w3 134 = lA G 93 (txF bt n).2) (kD : ∃ D1, w3 135 = lA G 93 D1)
    (hf : ∀ j, (((10 ≤ j ∧ (j < 32 ∨ 36 < j) ∧ (j < 117 ∨ 128 < j) ∧ j ≠ 44) ∨ j = 2) ∧ j ≠ 133 ∧ j ≠ 134 ∧ j ≠ 135 ∧ j ≠ 148 ∧ j ≠ 149 ∧ (j < 46 ∨ 115 < j)) → w3 j = w j) : LI G w3 fl := by
  obtain ⟨⟨a0, a0'⟩, a1, ⟨a2, a2', a2''⟩, a3, a4, a5, a6, ⟨a7, a7', a7''⟩, ⟨a8, a9, a10⟩, ⟨a11, ⟨lf, a12⟩, ⟨rf, a13⟩⟩, a14⟩ := hc
  obtain ⟨b0, b1, b2, b3, b4, b5, b6, b7, ⟨cf, b8⟩, ⟨f, b9⟩⟩ := hm
  obtain ⟨cz, ez, kz, nz, sz, xz, t1, t2, t3, t4⟩ := k1
  obtain ⟨D1, kD⟩ := kD
  obtain ⟨e15, e17, e24, e4, e6⟩ := ku
  subst t2
  have hea : u1 24 = ez := by rw [e24, selI_1 hz, (t3 hz).2.1]
  exact ⟨bt, copyLM gp1 gl1, nl1, gp1, nl1, gl1, gs, 0, 0, 0, cap, (txF bt n).1.1, ez, kz, nz, sz, xz, (n : Int), 0, hs, T, u1, (txF bt n).2, D1, sp, H,
    ⟨⟨k0, Or.inl rfl⟩, t1, ⟨(hf 2 (by decide)).trans a2, a2', by omega⟩, kg2.cg (fun j hj => by rw [copyLM_l hj, copyLM_l hj]), kp2.cg (fun j hj => copyLM_p (by omega)), a5.fr (fun j q1 q2 => hf j (by omega)), a6.fr (fun j q1 q2 => hf j (by omega)), ⟨kh, by decide, by decide⟩, ⟨(hf 116 (by decide)).trans a8, kp, kg⟩, ⟨(hf 129 (by decide)).trans a11, ⟨lf, (hf 130 (by decide)).trans a12⟩, ⟨rf, (hf 131 (by decide)).trans a13⟩⟩, a14.fr (hf 132 (by decide))⟩,
    ⟨k3, k4, kD, (hf 136 (by decide)).trans b3, (hf 137 (by decide)).trans b4, b5.fr (fun j q1 q2 => hf j (by omega)), (hf 144 (by decide)).trans b6, (hf 145 (by decide)).trans b7, ⟨cf, (hf 146 (by decide)).trans b8⟩, ⟨f, (hf 147 (by decide)).trans b9⟩⟩, k9,
    ⟨⟨kE, txF_inv hz, kN, txF_nmB hz⟩, fun r hr => absurd hr (Nat.not_lt_zero r), fun q => absurd q (by decide), e4, e17, hea, e6⟩, hw.fr (hf 143 (by decide)) e15, hT⟩
theorem LI.fmt {fl1 : va_W} {u1 : Nat → Int} {T1 : List Int} {cap1 : Nat} (hc : LIc G w fl bt gc nl gp0 nl9 gl0 gs c0 nx cn cap cd ea kd nm sa nx9 en sv hs T) (hm : LIm G w bt u gr D0 sp H) (hr : LIr gc nl gs u gr sp H c0 nx cn ea sv hs) (k9 : LIo G w3)
    (ks : sbC G w3 fl1 T1 cap1) (kc : kCht G w3) (kS : kScr G w3) (k3 : w3 133 = mdO G u1) (ku : ∀ j, (j ≠ 5 ∧ j ≠ 15) → u1 j = u j) (kw : wrR G w3 u1 T1) (hT : ∀ j, j < T1.length → 0 ≤ T1.getD j 0)
    (hf : ∀ j, ((j < 10 ∨ 31 < j) ∧ j ≠ 132 ∧ j ≠ 133 ∧ j ≠ 143 ∧ (j < 138 ∨ 142 < j) ∧ j ≠ 148 ∧ j ≠ 149) → w3 j = w j) : LI G w3 fl1 := by
  obtain ⟨⟨a0, a0'⟩, a1, ⟨a2, a2', a2''⟩, a3, a4, a5, a6, ⟨a7, a7', a7''⟩, ⟨a8, a9, a10⟩, ⟨a11, ⟨lf, a12⟩, ⟨rf, a13⟩⟩, a14⟩ := hc
  obtain ⟨b0, b1, b2, b3, b4, b5, b6, b7, ⟨cf, b8⟩, ⟨f, b9⟩⟩ := hm
  obtain ⟨r0, r1, r2, r3, r4, r5, r6⟩ := hr
  exact ⟨bt, gc, nl, gp0, nl9, gl0, gs, c0, nx, cn, cap1, cd, ea, kd, nm, sa, nx9, en, sv, hs, T1, u1, gr, D0, sp, H,
    ⟨⟨(hf 0 (by decide)).trans a0, a0'⟩, (hf 1 (by decide)).trans a1, ⟨(hf 2 (by decide)).trans a2, a2', a2''⟩, a3.fr (fun j q1 q2 => hf j (by omega)), a4.fr (fun j q1 q2 => hf j (by omega)), kc, a6.fr (fun j q1 q2 => hf j (by omega)), ⟨a7.fr (fun j q1 q2 => hf j (by omega)), a7', a7''⟩, ⟨(hf 116 (by decide)).trans a8, a9.fr (fun j q1 q2 => hf j (by omega)), a10.fr (fun j q1 q2 => hf j (by omega))⟩, ⟨(hf 129 (by decide)).trans a11, ⟨lf, (hf 130 (by decide)).trans a12⟩, ⟨rf, (hf 131 (by decide)).trans a13⟩⟩, ks⟩,
    ⟨k3, (hf 134 (by decide)).trans b1, (hf 135 (by decide)).trans b2, (hf 136 (by decide)).trans b3, (hf 137 (by decide)).trans b4, kS, (hf 144 (by decide)).trans b6, (hf 145 (by decide)).trans b7, ⟨cf, (hf 146 (by decide)).trans b8⟩, ⟨f, (hf 147 (by decide)).trans b9⟩⟩, k9,
    ⟨r0, r1, r2, (ku 4 (by decide)).trans r3, (ku 17 (by decide)).trans r4, (ku 24 (by decide)).trans r5, (ku 6 (by decide)).trans r6⟩, kw, hT⟩
/-- undo, and the snapshot: another log stands -/
theorem LI.log {g1 gr1 gs1 sp1 : Nat → Int} {nx1 cn1 : Nat} {sv1 : Int} {u1 : Nat → Int} (hc : LIc G w fl bt gc nl gp0 nl9 gl0 gs c0 nx cn cap cd ea kd nm sa nx9 en sv hs T) (hm : LIm G w bt u gr D0 sp H) (hr : LIr gc nl gs u gr sp H c0 nx cn ea sv hs) (hw : wrR G w u T) (hT : ∀ j, j < T.length → 0 ≤ T.getD j 0) (k9 : LIo G w3)
    (k0 : w3 0 = srO G sv1) (ksv : sv1 = 0 ∨ sv1 = 1) (kg : kLog G w3 3 g1) (kg2 : kLog G w3 37 gs1) (kh : kHist G w3 hs (nx1 : Int) (cn1 : Int)) (hnx : nx1 < 10) (hcn : cn1 ≤ 10)
    (k3 : w3 133 = mdO G u1) (ku : u1 4 = (cn1 : Int) ∧ u1 6 = sv1 ∧ u1 15 = u 15 ∧ u1 17 = u 17 ∧ u1 24 = u 24) (k4 : w3 134 = lA G 93 gr1) (k5 : w3 136 = lA G 93 sp1)
    (e : ∀ j, ¬ (j = 1 ∨ j = 2 ∨ (5 ≤ j ∧ j ≤ 8) ∨ 33 ≤ j) → g1 j = gc j)
    (kD : okS g1 nl gr1) (kr : ∀ r, r < cn1 → okS (copyLM g1 (hs ((nx1 + 10 - cn1 + r) % 10))) nl (rowH H r)) (ks : sv1 = 1 → okS (copyLM g1 gs1) nl sp1)
    (hf : ∀ j, (j ≠ 0 ∧ (j < 3 ∨ 9 < j) ∧ (j < 37 ∨ 115 < j) ∧ j ≠ 133 ∧ j ≠ 134 ∧ j ≠ 136 ∧ j ≠ 148 ∧ j ≠ 149) → w3 j = w j) : LI G w3 fl := by
  obtain ⟨⟨a0, a0'⟩, a1, ⟨a2, a2', a2''⟩, a3, a4, a5, a6, ⟨a7, a7', a7''⟩, ⟨a8, a9, a10⟩, ⟨a11, ⟨lf, a12⟩, ⟨rf, a13⟩⟩, a14⟩ := hc
  obtain ⟨b0, b1, b2, b3, b4, b5, b6, b7, ⟨cf, b8⟩, ⟨f, b9⟩⟩ := hm
  obtain ⟨r0, r1, r2, r3, r4, r5, r6⟩ := hr
  obtain ⟨e4, e6, e15, e17, e24⟩ := ku
  exact ⟨bt, g1, nl, gp0, nl9, gl0, gs1, c0, nx1, cn1, cap, cd, ea, kd, nm, sa, nx9, en, sv1, hs, T, u1, gr1, D0, sp1, H,
    ⟨⟨k0, ksv⟩, (hf 1 (by decide)).trans a1, ⟨(hf 2 (by decide)).trans a2, a2', a2''⟩, kg, (a4.cg (fun j hj => e j (by omega))).fr (fun j q1 q2 => hf j (by omega)), a5.fr (fun j q1 q2 => hf j (by omega)), kg2, ⟨kh, hnx, hcn⟩, ⟨(hf 116 (by decide)).trans a8, a9.fr (fun j q1 q2 => hf j (by omega)), a10.fr (fun j q1 q2 => hf j (by omega))⟩, ⟨(hf 129 (by decide)).trans a11, ⟨lf, (hf 130 (by decide)).trans a12⟩, ⟨rf, (hf 131 (by decide)).trans a13⟩⟩, a14.fr (hf 132 (by decide))⟩,
    ⟨k3, k4, (hf 135 (by decide)).trans b2, k5, (hf 137 (by decide)).trans b4, b5.fr (fun j q1 q2 => hf j (by omega)), (hf 144 (by decide)).trans b6, (hf 145 (by decide)).trans b7, ⟨cf, (hf 146 (by decide)).trans b8⟩, ⟨f, (hf 147 (by decide)).trans b9⟩⟩, k9,
    ⟨kD, kr, ks, e4, e17.trans r4, e24.trans r5, e6⟩, hw.fr (hf 143 (by decide)) e15, hT⟩
end
