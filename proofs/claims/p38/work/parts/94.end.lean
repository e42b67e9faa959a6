def R_law : String := "SightReducerLaw"
def lw_P (b : Addr) (xs : List Int32) (args : Array Value) (s : State) : Prop := args = #[.ref b] ∧ s.IntsAt b xs ∧ xs.length ≤ 260 ∧ (Jvm.Cond.and given_1 narrow_1).before args s = true
/-- what a walk over the start with the record d0 says of its end, said of the start itself -/
theorem lw_closed {s t : State} {o : Outcome} {d0 : Drawn} {L : List Loc} {k n : Nat} (hd0 : s.drawn.sameBut d0 lw_cs) (hv : ∃ v, o = .returned v) (hW : (s.setDrawn d0).WarmedH t.vm) (hs : (s.setDrawn d0).sameButNew ({ t with vm := s.vm } : State) L k n) : State.butDraws s t lw_cs (fun t1 => Framed s o t1 L k n) := by
  have h2 : t.drawn = d0 := congrArg State.drawn hs.1
  refine ⟨⟨hv, hW, State.sameButNew.setDrawn hs s.drawn⟩, ?_, by decide⟩
  rw [h2]
  exact hd0
def lw_Q (_ : Array Value) (s : State) (o : Outcome) (t : State) : Prop := o = .returned (some (.int 1)) ∧ State.butDraws s t lw_cs (fun t1 => Framed s o t1 [] 1000796 6099382)
def lw_Z (below : List Frame) (a : Array Value) (s : State) : State → Prop := fun t => ∃ o, t.status = .running ∧ Ended t below o ∧ lw_Q a s o t
/-- the law's own end, with 1 on the stack, nothing written that was there before, its room as the claim has it; d0: the record of draws at this point (at the entry s.drawn: begin with 'refine W.base ?_' and 'have hd0 := Drawn.sameBut.refl s.drawn lw_cs') -/
theorem lw_ret {p : Program} {l : Launch} {e : Env} {s : State} {m : MethodId} {below : List Frame} {meth : Method} {c : Code} {b : Nat} {d0 : Drawn} (hd0 : s.drawn.sameBut d0 lw_cs) (hx : p.tables.exec = Jvm.exec) (hb : c.code = code) (hr : meth.sig.returnType = ret) (hlocks : meth.locks = false) {pc : Nat} {H : Heap} {ls : Array Slot} (hdg : decode code pc = .ok (.ireturn, 1)) : W p l e room_1 (s.setDrawn d0) m #[Value.ref b] below meth c H [] 1000796 6099382 (lw_Z below #[Value.ref b] s) (F0 m pc ls [.int 1]) := by
  intro T hT X
  obtain ⟨fs, hret, hrun, hended, hW, hframe⟩ := X.leave (v := some (.int 1)) (hlocks := hlocks) (fun h => by rw [hr] at h; cases h)
  have hmeth' : T.vm.method? m = some meth := X.method'
  refine ⟨T.setFrames fs, ?_, .returned (some (.int 1)), hrun, hended, rfl, lw_closed hd0 ⟨_, rfl⟩ hW hframe⟩
  jvm_step X.here [X.here.top, hx, hb, hdg, hmeth', hr, ret, narrow_b1]
  (try refine ⟨rfl, ?_⟩); (try refine ⟨rfl, ?_⟩)
  first | (intro acts; rw [hret _ acts rfl rfl rfl]) | rw [hret _ _ rfl rfl rfl]
  exact Steps.refl _
/-- what holds at the law's entry: the machine, the code, the tables' words (any of lw_tbl by 'hts w (by decide +kernel)'), the script of L ints xs at the cell b, what the Statement gives of the start (any of its parts by flat_of_before) -/
def lw_At (p : Program) (s : State) (m : MethodId) (meth : Method) (c : Code) (b L : Nat) (xs : Nat → Int32) : Prop :=
  p.tables.exec = Jvm.exec ∧ c.code = code ∧ meth.sig.returnType = ret ∧ c.maxLocals = 14 ∧ s.vm.findClass R_law = some m.cls ∧ (∀ w ∈ lw_tbl, w.before #[Value.ref b] s = true) ∧ va_X b L xs s s.heap ∧ b < s.heap.size ∧ meth.locks = false ∧ (Jvm.Cond.and given_1 narrow_1).before #[Value.ref b] s = true
set_option maxHeartbeats 8000000 in
set_option maxRecDepth 100000 in
theorem whole_start {p : Program} {e : Env} {s : State} {m : MethodId} {below : List Frame} {meth : Method} {c : Code} (l : Launch) (hflags : l.flags = flags0) {b L : Nat} {xs : Nat → Int32} (hL : L ≤ 260) (C0 : lw_At p s m meth c b L xs) : W p l e room_1 s m #[Value.ref b] below meth c s.heap [] 0 0 (lw_Z below #[Value.ref b] s) (entryFrame m ([Value.ref b] : List Value).toArray 14) := by
  obtain ⟨hx, hb, hr, hml, hown, hts, hX, hbl, hlocks, hgv⟩ := id C0
  have hls : l.stackTraces = false := by unfold Launch.stackTraces; rw [hflags]; decide +kernel
  have hs : ∀ w ∈ st_L, w.before #[Value.ref b] s = true := flat_of_before _ hgv
  have hw : ∀ w ∈ kwords, w.before #[Value.ref b] s = true := fun w h => hts w (List.mem_filter.mp h).1
  obtain ⟨c0, i0, hk0⟩ := u_known (C := RX0) (T := TX0) (N := 6) (n := 6) hw uu_X0 (hw _ wb_X0)
  obtain ⟨c1, i1, hk1⟩ := u_known (C := RX1) (T := TX1) (N := 4) (n := 4) hw uu_X1 (hw _ wb_X1)
  obtain ⟨c2, i2, hk2⟩ := u_known (C := RX2) (T := TX2) (N := 3) (n := 3) hw uu_X2 (hw _ wb_X2)
  obtain ⟨c3, i3, hk3⟩ := u_known (C := RX3) (T := TX3) (N := 9) (n := 9) hw uu_X3 (hw _ wb_X3)
  obtain ⟨c4, i4, hk4⟩ := u_known (C := RX4) (T := TX4) (N := 12) (n := 12) hw uu_X4 (hw _ wb_X4)
  obtain ⟨c5, i5, hk5⟩ := u_known (C := RX5) (T := TX5) (N := 3) (n := 3) hw uu_X5 (hw _ wb_X5)
  obtain ⟨c6, i6, hk6⟩ := u_known (C := RX6) (T := TX6) (N := 7) (n := 7) hw uu_X6 (hw _ wb_X6)
  obtain ⟨c7, i7, hk7⟩ := u_known (C := RX7) (T := TX7) (N := 5) (n := 5) hw uu_X7 (hw _ wb_X7)
  obtain ⟨c8, i8, hk8⟩ := u_known (C := RX8) (T := TX8) (N := 4) (n := 4) hw uu_X8 (hw _ wb_X8)
  obtain ⟨c9, i9, hk9⟩ := u_known (C := RX9) (T := TX9) (N := 3) (n := 3) hw uu_X9 (hw _ wb_X9)
  obtain ⟨c10, i10, hk10⟩ := u_known (C := RX10) (T := TX10) (N := 9) (n := 9) hw uu_X10 (hw _ wb_X10)
  obtain ⟨c11, i11, hk11⟩ := u_known (C := RX11) (T := TX11) (N := 10) (n := 10) hw uu_X11 (hw _ wb_X11)
  obtain ⟨c12, i12, hk12⟩ := u_known (C := RX12) (T := TX12) (N := 12) (n := 12) hw uu_X12 (hw _ wb_X12)
  obtain ⟨c13, i13, hk13⟩ := u_known (C := RJ4) (T := TJ4) (N := 4) (n := 4) hw uu_J4 (hw _ wb_J4)
  obtain ⟨t0, ha0, hb0⟩ := st_arr (ty := .int) (hts (.arrayClass .int) (by decide +kernel)) (fun _ h => h)
  obtain ⟨t1, ha1, hb1⟩ := st_arr (ty := .long) (hts (.arrayClass .long) (by decide +kernel)) (fun _ h => h)
  obtain ⟨t2, ha2, hb2⟩ := st_arr (ty := .byte) (hts (.arrayClass .byte) (by decide +kernel)) (fun _ h => h)
  obtain ⟨t4, ha4, hb4⟩ := st_arO (C := "SightReducer$Line") (hts (.arrayOver (.object "SightReducer$Line")) (by decide +kernel))
  obtain ⟨t5, ha5, hb5⟩ := st_arO (C := "SightReducer$Log") (hts (.arrayOver (.object "SightReducer$Log")) (by decide +kernel))
  obtain ⟨t6, ha6, hb6⟩ := st_arA (C := .int) (hts (.arrayOver (.array .int)) (by decide +kernel))
  obtain ⟨adK, adV, hE⟩ := st_kE hts hgv hX hbl
  have hao : aoL s := ⟨va_AO.of (hts _ (by decide +kernel)), va_AO.of (hts _ (by decide +kernel)), trivial⟩
  obtain ⟨D, hD⟩ : ∃ D : va_G, D = ((fun k => ([c0, c1, c2, c3, c4, c5, c6, c7, c8, c9, c10, c11, c12, c13] : List ClassId).getD k 0), (fun k => ([i0, i1, i2, i3, i4, i5, i6, i7, i8, i9, i10, i11, i12, i13] : List (Nat → Nat)).getD k (fun _ => 0))) := ⟨_, rfl⟩
  obtain ⟨TT, hTT⟩ : ∃ TT : Nat → ClassId, TT = fun k => ([t0, t1, t2, t0, t4, t5, t6] : List ClassId).getD k 0 := ⟨_, rfl⟩
  have hK : ∀ (k : Nat) (ad : Nat → Nat), va_K D kcl (kT (lwG D TT s.heap.size k ad adK adV b L xs)) s := by
    intro k ad
    subst hD; subst hTT
    refine ⟨fun c0 q h => ?_, fun k0 q h => ?_⟩
    · match c0, h with
      | 0, h => cases h; exact hk0
      | 1, h => cases h; exact hk1
      | 2, h => cases h; exact hk2
      | 3, h => cases h; exact hk3
      | 4, h => cases h; exact hk4
      | 5, h => cases h; exact hk5
      | 6, h => cases h; exact hk6
      | 7, h => cases h; exact hk7
      | 8, h => cases h; exact hk8
      | 9, h => cases h; exact hk9
      | 10, h => cases h; exact hk10
      | 11, h => cases h; exact hk11
      | 12, h => cases h; exact hk12
      | 13, h => cases h; exact hk13
      | n + 14, h => simp [kcl] at h
    · match k0, h with
      | 0, h => cases h; exact ⟨ha0, hb0⟩
      | 1, h => cases h; exact ⟨ha1, hb1⟩
      | 2, h => cases h; exact ⟨ha2, hb2⟩
      | 3, h => cases h; exact ⟨ha0, hb0⟩
      | 4, h => cases h; exact ⟨ha4, hb4⟩
      | 5, h => cases h; exact ⟨ha5, hb5⟩
      | 6, h => cases h; exact ⟨ha6, hb6⟩
      | n + 7, h => simp [kT] at h
  clear hD hTT
  have hC : ∀ (k : Nat) (ad : Nat → Nat), kC p l room_1 s m #[Value.ref b] meth c cL_law RL 14 (lwG D TT s.heap.size k ad adK adV b L xs) 60 1000796 6099382 := fun k ad => ⟨hx, hb, hml, hown, hw, hK k ad, hE D TT k ad, Nat.le_refl _, hlocks, ⟨by decide, by decide, by decide, by decide⟩, hls⟩
  have hend : ∀ (G1 : kG), ksz G1 = s.heap.size → ∀ (w : Nat → va_E) (fl : va_W) (cs ss : Nat) (lv : List (Nat × Value)), cs ≤ 20000 → ss ≤ 100000 → KW p l e room_1 s m #[Value.ref b] below meth c 14 G1 (lw_Z below #[Value.ref b] s) w fl cs ss 419 lv [vI 1] := by
    intro G1 hz w fl cs ss lv h1 h2 H locs ls g1 g2 g3 g4
    refine va_forget (fun q hq => by have h9 : ksz G1 ≤ q.base := g3.2.2 q hq; rw [hz] at h9; exact h9) ?_
    refine W.widen (k := 1000796) (n := 6099382) (by omega) (by omega) ?_
    rw [show vI 1 = .int 1 from rfl]
    exact lw_ret (Drawn.sameBut.refl s.drawn lw_cs) hx hb hr hlocks dL_law_419
  have hKW : KW p l e room_1 s m #[Value.ref b] below meth c 14 (lwG D TT s.heap.size 0 (fun _ => 0) adK adV b L xs) (lw_Z below #[Value.ref b] s) (fun _ => .inr (0, [])) [] 0 0 0 [(0, .ref b)] [] := by
    refine c_new (hC 0 (fun _ => 0)) (T := TX11) (N := 10) (ci := 11) (ty := tyX11) (fs := [.null, .null, .null, .null, vI 0, .null, .null, .null, .null, .null]) rfl uu_X11 tyX11_ok ⟨wl_L_9, wb_X11, wz_X11⟩ (fun j hj => by match j, hj with | 0, _ => rfl | 1, _ => rfl | 2, _ => rfl | 3, _ => rfl | 4, _ => rfl | 5, _ => rfl | 6, _ => rfl | 7, _ => rfl | 8, _ => rfl | 9, _ => rfl | k + 10, h => exact absurd h (by omega)) ⟨by decide, by decide⟩ dL_law_0 (fun q => ?_)
    refine k_dup (hC 0 (fun _ => 0)) dL_law_3 rfl ?_
    refine law_s1 hls _ (hC 0 (fun _ => 0)) hao _ _ 0 q rfl (fun q2 a => ?_)
    have kk := law_s2 (Q := lw_Z below #[Value.ref b] s) (e := e) (below := below) hls (lwG D TT s.heap.size 134 (lwA q q2 a) adK adV b L xs) rfl hL (hC 134 (lwA q q2 a)) (fun G1 w fl cs ss lv _ a2 a3 a4 => hend G1 a2 w fl cs ss lv a3 a4) (lwW (lwG D TT s.heap.size 0 (fun _ => 0) adK adV b L xs) q q2 a) [(a 132, bA (lwG D TT s.heap.size 0 (fun _ => 0) adK adV b L xs) 16 (fun _ => 0))] 135 2030 ⟨by decide, by decide⟩ (fun _ => 0) (fun _ => 0) (fun _ _ => 0) (lw_h00 D TT s.heap.size (fun _ => 0) adK adV b L xs q q2 a) (lw_h116 D TT s.heap.size (fun _ => 0) adK adV b L xs q q2 a) (lw_h129 D TT s.heap.size (fun _ => 0) adK adV b L xs q q2 a) (lw_hL D TT s.heap.size (fun _ => 0) adK adV b L xs q q2 a) (lw_hP D TT s.heap.size (fun _ => 0) adK adV b L xs q q2 a) (lw_hCt D TT s.heap.size (fun _ => 0) adK adV b L xs q q2 a) (lw_hHi D TT s.heap.size (fun _ => 0) adK adV b L xs q q2 a) (lw_h37 D TT s.heap.size (fun _ => 0) adK adV b L xs q q2 a) (lw_hP2 D TT s.heap.size (fun _ => 0) adK adV b L xs q q2 a) (lw_hL2 D TT s.heap.size (fun _ => 0) adK adV b L xs q q2 a) (lw_hl0 D TT s.heap.size (fun _ => 0) adK adV b L xs q q2 a) (lw_hr0 D TT s.heap.size (fun _ => 0) adK adV b L xs q q2 a) (lw_hS D TT s.heap.size (fun _ => 0) adK adV b L xs q q2 a)
    intro H locs ls h1 h2 h3 h4
    have h1 : va_P D kcl (lwL (lwG D TT s.heap.size 0 (fun _ => 0) adK adV b L xs) q q2 a) H := h1
    have h2 : va_D (fun q : Nat => s.heap.size ≤ q) (lwL (lwG D TT s.heap.size 0 (fun _ => 0) adK adV b L xs) q q2 a) := h2
    exact kk H locs ls (h1.sub _ (lw_sw D TT s.heap.size (fun _ => 0) adK adV b L xs q q2 a)) (h2.sub _ lw_nd (lw_sw2 D TT s.heap.size (fun _ => 0) adK adV b L xs q q2 a)) h3 h4
  have hl := lv_entry ([.ref b]) (n := 14) (Nat.le_of_ble_eq_true rfl)
  rw [lg_entry_eq]
  generalize (lg_sl ([.ref b]) ++ List.replicate (14 - (lg_sl ([.ref b])).length) Slot.unset).toArray = ls at hl ⊢
  have hl : lv_has ls 14 [(0, .ref b)] := hl
  exact hKW s.heap [] ls (fun k q h => by simp [kws, kN] at h) ⟨fun i j p q h => by simp [kws, kN] at h, fun k q h => by simp [kws, kN] at h⟩ va_S.rf hl
set_option maxHeartbeats 4000000 in
theorem lw_walk (l : Launch) (hflags : l.flags = flags0) (b : Addr) (xs : List Int32) : MetFree l x (headSpec (Jvm.Cond.code x code maxLocals ret :: tables_1) room_1) (lw_P b xs) (fun _ _ _ _ _ => True) lw_Q := by
  refine MetFree.of_bodyS (code := code) (maxLocals := maxLocals) (ret := ret) (by decide) ?_ ?_
  · intro args s m h hn
    obtain ⟨meth, c, h1, h2, h3, h4, h5, h6, -, -⟩ := Cond.code_spec hn (atoms_spec (ws := Jvm.Cond.code x code maxLocals ret :: tables_1) h _ List.mem_cons_self)
    exact ⟨meth, c, h1, h2, h3, h4, h5, h6⟩
  · intro p e s m args below meth c s₁ B hml0 hP _
    obtain ⟨rfl, hx, hbd, hgv⟩ := hP
    obtain ⟨scr, harrAt, hlist, hof, hsmall⟩ := hx
    obtain ⟨hcb, hkn, -, -⟩ := State.arrayAt?_spec harrAt
    have hown : s.vm.findClass R_law = some m.cls := findClass_of_methodNamed B.named
    have hts0 : ∀ c ∈ (Jvm.Cond.code x code maxLocals ret :: tables_1), c.before #[Value.ref b] s = true := atoms_spec (ws := Jvm.Cond.code x code maxLocals ret :: tables_1) B.pre
    have hts : ∀ w ∈ lw_tbl, w.before #[Value.ref b] s = true := k2_hts_sels lw_privs (fun w hw => hts0 w (List.mem_cons_of_mem _ hw)) lw_privs_ok
    have hml : c.maxLocals = 14 := B.maxLocals_eq (hts0 _ List.mem_cons_self)
    have X₀ : Stand p l e room_1 s m #[Value.ref b] below meth c s₁ [] 0 0 := Stand.of_body B
    have hh0 : s₁.heap = s.heap := by rw [B.state]; rfl
    have hsz : scr.slots.size = xs.length := by rw [← Array.length_toList, hlist, List.length_map]
    have hval : ∀ j : Nat, j < xs.length → scr.slots[j]? = some (.int (xs.getD j 0)) := fun j hj => by
      rw [← Array.getElem?_toList, hlist]
      simp [hj]
    have hbl : b < s.heap.size := (Array.getElem?_eq_some_iff.mp hcb).1
    have hX : va_X b xs.length (fun j => xs.getD j 0) s s.heap := ⟨scr, hcb, hof, hkn, hsz, hval⟩
    have K : W p l e room_1 s m #[Value.ref b] below meth c s₁.heap [] 0 0 (lw_Z below #[Value.ref b] s) (entryFrame m ([Value.ref b] : List Value).toArray 14) := by
      rw [hh0]
      exact whole_start l hflags hbd ⟨B.exec, B.bytes, B.returns, hml, hown, hts, hX, hbl, B.notSynchronized, hgv⟩
    obtain ⟨t, a1, o, b1, b2, b3⟩ := K s₁ rfl X₀
    exact ⟨t, o, a1, b1, b2, b3⟩
theorem lw_pre_spec {args : Array Value} {s : State} (h : (Jvm.Cond.and given_1 narrow_1).before args s = true) (hr : rest_1_c.before args s = true) : ∃ (b : Addr) (xs : List Int32), lw_P b xs args s := by
  have hs := flat_of_before _ h
  have hq := flat_of_before _ hr
  have hc : (Cond.count 1).before args s = true := hs _ (by decide +kernel)
  have harr : (Cond.arrayOf (.arg 0) .int).before args s = true := hs _ (by decide +kernel)
  have hle : (Cond.le (.length (.arg 0)) (.int 260)).before args s = true := hs _ (by decide +kernel)
  have hlen : (Cond.isInt (.length (.arg 0))).before args s = true := hq _ (by decide +kernel)
  have hall : (Cond.all (.arg 0) (.isInt (.elem (.arg 0) (.index 0)))).before args s = true := hq _ (by decide +kernel)
  obtain ⟨b, xs, hb, hx⟩ := State.ints_of_pre rfl harr hlen hall
  have hsm : xs.length < 2 ^ 31 := hx.choose_spec.2.2.2
  have hev : (Term.length (.arg 0)).eval args s none [] s = some (.int xs.length.toInt32) := hx.length_eval hb
  have hv := Cond.le_ints hev (show (Term.int 260).eval args s none [] s = some (.int 260) from rfl)
  have hd : xs.length.toInt32 ≤ 260 := by
    simpa [Cond.before, Cond.holds, hv] using hle
  have hN : xs.length ≤ 260 := (Int32.ofNat_le_ofNat hsm (by decide)).mp (show Int32.ofNat xs.length ≤ Int32.ofNat 260 from hd)
  exact ⟨b, xs, Cond.one_arg hc (show args[0]? = some (.ref b) from hb), hx, hN, h⟩
theorem lw_comes (l : Launch) (hflags : l.flags = flags0) : Comes l x (Jvm.Cond.code x code maxLocals ret :: tables_1) room_1 (fun tb e args s => Calls_1 tb e args s ∧ rest_1 tb e args s ∧ Pre_1 tb e args s)
    (fun _ _ args s o t => lw_Q args s o t) := by
  intro p e ha hc hk s m args below hf hfit hheap happ hpre
  obtain ⟨b, xs, hP⟩ := lw_pre_spec hpre.2.2 hpre.2.1
  obtain ⟨k, o, h1, h2, h3, hQ⟩ := lw_walk l hflags b xs p e ha hc hk s m args below hf ((Spec.applies_iff_loose hf).mp happ).1 hP trivial
  exact ⟨k, o, h1, h2, h3, hQ⟩
theorem lw_frame {s t : State} {o : Outcome} {args : Array Value} (h : State.butDraws s t lw_cs (fun t1 => Framed s o t1 [] 1000796 6099382)) :
    State.butDraws s t [Jvm.Choice.named "NaN.bits", Jvm.Choice.named "NaN.copy"] (fun t1 => Framed s o t1 (fieldLocs frame_1_writes args s ++ arrayLocs frame_1_arrays args s ++ staticLocs frame_1_statics s) 1000796 6099382) := h
theorem lw_limb (L : Cond) (hL : ∀ (args : Array Value) (s t : State), L.after args s (.returned (some (.int 1))) t = true) :
    ArmFor flags0 classFile x code maxLocals ret World_1 tables_1 room_1 Calls_1 rest_1 Pre_1
      (fun tb e a s o t => postC L tb e a s o t ∧ State.butDraws s t [Jvm.Choice.named "NaN.bits", Jvm.Choice.named "NaN.copy"] (fun t1 => Framed s o t1 (fieldLocs frame_1_writes a s ++ arrayLocs frame_1_arrays a s ++ staticLocs frame_1_statics s) 1000796 6099382)) := by
  intro l hflags _ _ p e ha hc hk s m args below hf hfit hheap happ hpre
  obtain ⟨k, o, h1, h2, h3, rfl, hF⟩ := lw_comes l hflags p e ha hc hk s m args below hf hfit hheap happ hpre
  exact ⟨k, _, h1, h2, h3, hL args s _, lw_frame hF⟩
theorem i_vc : Claimed_1_1 ∧ Claimed_1_2 := ⟨lw_limb limb_1_1 (fun args s t => by simp [limb_1_1, Cond.after, Cond.holds, Cond.value]), lw_limb limb_1_2 (fun args s t => Cond.after_iff.mpr (by
  first | (rw [show limb_1_2 = Cond.eq .result (.int 1) from rfl, Cond.eq_ints (x := 1) (y := 1) rfl rfl]; simp; done) | (simp [limb_1_2, Cond.value, Term.eval]; done)))⟩
