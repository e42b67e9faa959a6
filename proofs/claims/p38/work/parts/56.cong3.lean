/-! alike gives alike: crossings, hats, fixes, what is told of a row -/
theorem gE.cr {g h : Nat → Int} (e : gE g h) (hI : Inv g) {i j : Nat} (hi : (i : Int) < g 2) (hj : (j : Int) < g 2) (T : Int) : cE g i j T = cE h i j T ∧ cN g i j T = cN h i j T := by
  unfold cE cN; rw [e.car hI hi, e.car hI hj, e.azi hI hi, e.azi hI hj]; exact ⟨rfl, rfl⟩
theorem gE_hatP {g h : Nat → Int} (e : gE g h) (hI : Inv g) {i j k : Nat} (hi : (i : Int) < g 2) (hj : (j : Int) < g 2) (hk : (k : Int) < g 2) : hatP g i j k = hatP h i j k := by
  unfold hatP; rw [e.azi hI hi, e.azi hI hj, e.azi hI hk]
theorem gE_hatA {g h : Nat → Int} (e : gE g h) (hI : Inv g) {i j k : Nat} (hi : (i : Int) < g 2) (hj : (j : Int) < g 2) (hk : (k : Int) < g 2) (T : Int) : hatA g i j k T = hatA h i j k T := by
  unfold hatA; rw [(e.cr hI hi hj T).1, (e.cr hI hi hj T).2, (e.cr hI hi hk T).1, (e.cr hI hi hk T).2, (e.cr hI hj hk T).1, (e.cr hI hj hk T).2]
theorem sumF_c {f f1 : Nat → Int} : ∀ n : Nat, (∀ k, k < n → f k = f1 k) → sumF f n = sumF f1 n := by
  intro n
  induction n with
  | zero => intro _; rfl
  | succ n ih =>
    intro q
    show sumF f n + f n = sumF f1 n + f1 n
    rw [ih (fun k hk => q k (by omega)), q n (by omega)]
theorem gE.fx {g h : Nat → Int} (e : gE g h) (hI : Inv g) (T : Int) : fixD g = fixD h ∧ fixE g T = fixE h T ∧ fixN g T = fixN h T := by
  have h0 := hI.c
  have e2 := e.n 2 (by decide)
  have ha : ∀ k, k < (g 2).toNat → aziM g k = aziM h k := fun k hk => e.azi hI (by omega)
  have hc : ∀ k, k < (g 2).toNat → carM g k T = carM h k T := fun k hk => e.car hI (by omega) T
  have s1 : fxA g (g 2).toNat = fxA h (g 2).toNat := sumF_c _ (fun k hk => by rw [ha k hk])
  have s2 : fxB g (g 2).toNat = fxB h (g 2).toNat := sumF_c _ (fun k hk => by rw [ha k hk])
  have s3 : fxC g (g 2).toNat = fxC h (g 2).toNat := sumF_c _ (fun k hk => by rw [ha k hk])
  have s4 : fxP g T (g 2).toNat = fxP h T (g 2).toNat := sumF_c _ (fun k hk => by rw [ha k hk, hc k hk])
  have s5 : fxQ g T (g 2).toNat = fxQ h T (g 2).toNat := sumF_c _ (fun k hk => by rw [ha k hk, hc k hk])
  have d : fixD g = fixD h := by unfold fixD; rw [s1, s2, s3, e2]
  refine ⟨d, ?_, ?_⟩
  · unfold fixE; rw [s4, s3, s5, s2, d, e2]
  · unfold fixN; rw [s5, s1, s4, s2, d, e2]
theorem gE_fixP {g h : Nat → Int} (e : gE g h) (hI : Inv g) : fixP g = fixP h := by unfold fixP; rw [(e.fx hI 0).1]
theorem gE.res {g h : Nat → Int} (e : gE g h) (hI : Inv g) (T : Int) {k : Nat} (hk : (k : Int) < g 2) : resM g T k = resM h T k := by
  unfold resM; rw [(e.fx hI T).2.1, (e.fx hI T).2.2, e.azi hI hk, e.car hI hk]
theorem gE.dst {g h : Nat → Int} (e : gE g h) (hI : Inv g) (T : Int) : dstM g T = dstM h T := by
  unfold dstM; rw [(e.fx hI T).2.1, (e.fx hI T).2.2, e.disp hI, e.disp hI]
theorem gE_sightV {g h : Nat → Int} (e : gE g h) (hI : Inv g) {i : Nat} (hi : (i : Int) < g 2) (q : Int) : sightV g i q = sightV h i q := by
  unfold sightV; rw [(e.sight hi).1, (e.sight hi).2.1, (e.sight hi).2.2, e.ap hi, e.obs hi, e.exp hI hi, e.azi hI hi, e.int hI hi, e.off hI hi]
theorem gE_legV {g h : Nat → Int} (e : gE g h) {b : Nat} (hb : (b : Int) < g 1) (q : Int) : legV g b q = legV h b q := by
  unfold legV; rw [(e.leg hb).1, (e.leg hb).2.1, (e.leg hb).2.2]
theorem gE_fixV {g h : Nat → Int} (e : gE g h) (hI : Inv g) (T no : Int) : fixV g T no = fixV h T no := by
  unfold fixV; rw [gE_fixP e hI, (e.fx hI T).2.1, (e.fx hI T).2.2]
theorem gE_offV {g h : Nat → Int} (e : gE g h) (hI : Inv g) (T : Int) : offV g T = offV h T := by
  unfold offV; rw [gE_fixP e hI, e.dst hI]
theorem gE_resV {g h : Nat → Int} (e : gE g h) (hI : Inv g) (T : Int) {k : Nat} (hk : (k : Int) < g 2) : resV g T k = resV h T k := by
  unfold resV; rw [gE_fixP e hI, e.res hI T hk]
theorem gE_unkV {g h : Nat → Int} (e : gE g h) (hI : Inv g) (T dr : Int) : unkV g T dr = unkV h T dr := by
  unfold unkV; rw [gE_fixP e hI, (e.fx hI T).2.1, (e.fx hI T).2.2, e.disp hI, e.disp hI, e.dst hI]
