theorem ini_I : Cond.initialized "java/lang/IllegalArgumentException" ∈ kwords := kw_mem 20 (by decide +kernel) rfl
theorem ini_N : Cond.initialized "java/util/NoSuchElementException" ∈ kwords := kw_mem 26 (by decide +kernel) rfl
section KXR
variable {p : Program} {l : Launch} {e : Env} {R : Room} {s : State} {m : MethodId} {args : Array Value} {below : List Frame} {meth : Method} {c : Code} {cc : ByteArray} {nL d0 mc0 ms0 : Nat} {G : kG} {w : Nat → va_E} {fl : va_W} {cells slots pc : Nat} {lv : List (Nat × Value)} {st : List Value} {post : Option Value → (Nat → va_E) → va_W → Prop} {px : String → (Nat → va_E) → va_W → Prop}
theorem k_thrI (hC : kC p l R s m args meth c cc RX11 nL G d0 mc0 ms0) (htb : ∀ x ∈ c.exceptionTable.toList, False) {is : Nat} {tx : String} {i : Nat} (hq : (RX11, is, tx, i) ∈ kRefs) (hd : 8 ≤ d0) (hcs : cells + 1 ≤ mc0 ∧ slots + 6 ≤ ms0) (hcat : (st.map fun v => v.category).sum ≤ 8)
    (e0 : decode cc pc = .ok (.new 80, 3)) (e3 : decode cc (pc + 3) = .ok (.dup, 1)) (e4 : decode cc (pc + 4) = .ok (.ldc is, 2)) (e6 : decode cc (pc + 6) = .ok (.invokespecial 84, 3)) (e9 : decode cc (pc + 9) = .ok (.athrow, 1)) (hp : px "java/lang/IllegalArgumentException" w fl) :
    KW p l e R s m args below meth c nL G (vx_MQ below (kQ G post) (kXC G px) args s mc0 ms0 (kA G)) w fl cells slots pc lv st := by
  intro H locs ls h1 h2 h3 h4
  have hR := hC.2.2.2.2.2.2.2.2.2.1
  have hts := hC.2.2.2.2.1
  have hE := hC.2.2.2.2.2.2.1
  refine kx_throwS (A := kA G) (names := kx_names) hC.1 hC.2.1 hC.2.2.2.2.2.2.2.2.2.2 Bundle.six_0 Bundle.six_1 Bundle.six_2 Bundle.six_5 hC.2.2.2.1 (by decide +kernel) kx_dt (hts _ wl_X11_80) (hts _ ini_I) (hE.2.2.2.2.2 _ hq) (fun w9 h9 => hts w9 (kx_IAE w9 h9)) (fun w9 h9 => ?_) hE.1.1 hE.1.2 h3 (h4.1.trans hC.2.2.1.symm) e0 e3 e4 e6 e9 (fun x hx => absurd (htb x hx) id) (by show 2 + 3 < R.frames; omega) (by show _ + (13 * (2 + 1) + 43) ≤ R.locals; omega) (by omega) (by omega) hC.2.2.2.2.2.2.2.2.1 (fun t hv hz hk => ?_) h3.2.2 hcs.1 hcs.2
  · rcases List.mem_cons.mp h9 with rfl | h9
    · exact kx_ot wl_X11_80
    · rcases List.mem_cons.mp h9 with rfl | h9
      · exact kx_ot ini_I
      · exact kx_ot (kx_IAE w9 h9)
  · refine ⟨w, fl, hp, ⟨h1.kept (fun k q hq9 => hk _ (h1 k q hq9).lt), h2⟩, Nat.le_trans h3.1 hz, fun q q1 q2 => (hk q (Nat.lt_of_lt_of_le q1 h3.1)).trans (h3.2.1 q q1 q2)⟩
theorem k_thrIW (hC : kC p l R s m args meth c cc RX11 nL G d0 mc0 ms0) (htb : ∀ x ∈ c.exceptionTable.toList, False) {is : Nat} {tx : String} {i : Nat} (hq : (RX11, is, tx, i) ∈ kRefs) (hd : 8 ≤ d0) (hcs : cells + 1 ≤ mc0 ∧ slots + 6 ≤ ms0) (hcat : (st.map fun v => v.category).sum ≤ 8)
    (e0 : decode cc pc = .ok (.new 80, 3)) (e3 : decode cc (pc + 3) = .ok (.dup, 1)) (e4 : decode cc (pc + 4) = .ok (.ldc_w is, 3)) (e6 : decode cc (pc + 7) = .ok (.invokespecial 84, 3)) (e9 : decode cc (pc + 10) = .ok (.athrow, 1)) (hp : px "java/lang/IllegalArgumentException" w fl) :
    KW p l e R s m args below meth c nL G (vx_MQ below (kQ G post) (kXC G px) args s mc0 ms0 (kA G)) w fl cells slots pc lv st := by
  intro H locs ls h1 h2 h3 h4
  have hR := hC.2.2.2.2.2.2.2.2.2.1
  have hts := hC.2.2.2.2.1
  have hE := hC.2.2.2.2.2.2.1
  refine kx_throwSW (A := kA G) (names := kx_names) hC.1 hC.2.1 hC.2.2.2.2.2.2.2.2.2.2 Bundle.six_0 Bundle.six_1 Bundle.six_2 Bundle.six_5 hC.2.2.2.1 (by decide +kernel) kx_dt (hts _ wl_X11_80) (hts _ ini_I) (hE.2.2.2.2.2 _ hq) (fun w9 h9 => hts w9 (kx_IAE w9 h9)) (fun w9 h9 => ?_) hE.1.1 hE.1.2 h3 (h4.1.trans hC.2.2.1.symm) e0 e3 e4 e6 e9 (fun x hx => absurd (htb x hx) id) (by show 2 + 3 < R.frames; omega) (by show _ + (13 * (2 + 1) + 43) ≤ R.locals; omega) (by omega) (by omega) hC.2.2.2.2.2.2.2.2.1 (fun t hv hz hk => ?_) h3.2.2 hcs.1 hcs.2
  · rcases List.mem_cons.mp h9 with rfl | h9
    · exact kx_ot wl_X11_80
    · rcases List.mem_cons.mp h9 with rfl | h9
      · exact kx_ot ini_I
      · exact kx_ot (kx_IAE w9 h9)
  · refine ⟨w, fl, hp, ⟨h1.kept (fun k q hq9 => hk _ (h1 k q hq9).lt), h2⟩, Nat.le_trans h3.1 hz, fun q q1 q2 => (hk q (Nat.lt_of_lt_of_le q1 h3.1)).trans (h3.2.1 q q1 q2)⟩
theorem k_thrN (hC : kC p l R s m args meth c cc RX11 nL G d0 mc0 ms0) (htb : ∀ x ∈ c.exceptionTable.toList, False) {is : Nat} {tx : String} {i : Nat} (hq : (RX11, is, tx, i) ∈ kRefs) (hd : 8 ≤ d0) (hcs : cells + 1 ≤ mc0 ∧ slots + 6 ≤ ms0) (hcat : (st.map fun v => v.category).sum ≤ 8)
    (e0 : decode cc pc = .ok (.new 186, 3)) (e3 : decode cc (pc + 3) = .ok (.dup, 1)) (e4 : decode cc (pc + 4) = .ok (.ldc is, 2)) (e6 : decode cc (pc + 6) = .ok (.invokespecial 190, 3)) (e9 : decode cc (pc + 9) = .ok (.athrow, 1)) (hp : px "java/util/NoSuchElementException" w fl) :
    KW p l e R s m args below meth c nL G (vx_MQ below (kQ G post) (kXC G px) args s mc0 ms0 (kA G)) w fl cells slots pc lv st := by
  intro H locs ls h1 h2 h3 h4
  have hR := hC.2.2.2.2.2.2.2.2.2.1
  have hts := hC.2.2.2.2.1
  have hE := hC.2.2.2.2.2.2.1
  refine kx_throwS (A := kA G) (names := kx_names) hC.1 hC.2.1 hC.2.2.2.2.2.2.2.2.2.2 kx_n0 kx_n1 kx_n2 kx_n5 hC.2.2.2.1 (by decide +kernel) kx_dt (hts _ wl_X11_186) (hts _ ini_N) (hE.2.2.2.2.2 _ hq) (fun w9 h9 => hts w9 (kx_NSE w9 h9)) (fun w9 h9 => ?_) hE.1.1 hE.1.2 h3 (h4.1.trans hC.2.2.1.symm) e0 e3 e4 e6 e9 (fun x hx => absurd (htb x hx) id) (by show 2 + 3 < R.frames; omega) (by show _ + (13 * (2 + 1) + 43) ≤ R.locals; omega) (by omega) (by omega) hC.2.2.2.2.2.2.2.2.1 (fun t hv hz hk => ?_) h3.2.2 hcs.1 hcs.2
  · rcases List.mem_cons.mp h9 with rfl | h9
    · exact kx_ot wl_X11_186
    · rcases List.mem_cons.mp h9 with rfl | h9
      · exact kx_ot ini_N
      · exact kx_ot (kx_NSE w9 h9)
  · refine ⟨w, fl, hp, ⟨h1.kept (fun k q hq9 => hk _ (h1 k q hq9).lt), h2⟩, Nat.le_trans h3.1 hz, fun q q1 q2 => (hk q (Nat.lt_of_lt_of_le q1 h3.1)).trans (h3.2.1 q q1 q2)⟩
theorem k_thrNW (hC : kC p l R s m args meth c cc RX11 nL G d0 mc0 ms0) (htb : ∀ x ∈ c.exceptionTable.toList, False) {is : Nat} {tx : String} {i : Nat} (hq : (RX11, is, tx, i) ∈ kRefs) (hd : 8 ≤ d0) (hcs : cells + 1 ≤ mc0 ∧ slots + 6 ≤ ms0) (hcat : (st.map fun v => v.category).sum ≤ 8)
    (e0 : decode cc pc = .ok (.new 186, 3)) (e3 : decode cc (pc + 3) = .ok (.dup, 1)) (e4 : decode cc (pc + 4) = .ok (.ldc_w is, 3)) (e6 : decode cc (pc + 7) = .ok (.invokespecial 190, 3)) (e9 : decode cc (pc + 10) = .ok (.athrow, 1)) (hp : px "java/util/NoSuchElementException" w fl) :
    KW p l e R s m args below meth c nL G (vx_MQ below (kQ G post) (kXC G px) args s mc0 ms0 (kA G)) w fl cells slots pc lv st := by
  intro H locs ls h1 h2 h3 h4
  have hR := hC.2.2.2.2.2.2.2.2.2.1
  have hts := hC.2.2.2.2.1
  have hE := hC.2.2.2.2.2.2.1
  refine kx_throwSW (A := kA G) (names := kx_names) hC.1 hC.2.1 hC.2.2.2.2.2.2.2.2.2.2 kx_n0 kx_n1 kx_n2 kx_n5 hC.2.2.2.1 (by decide +kernel) kx_dt (hts _ wl_X11_186) (hts _ ini_N) (hE.2.2.2.2.2 _ hq) (fun w9 h9 => hts w9 (kx_NSE w9 h9)) (fun w9 h9 => ?_) hE.1.1 hE.1.2 h3 (h4.1.trans hC.2.2.1.symm) e0 e3 e4 e6 e9 (fun x hx => absurd (htb x hx) id) (by show 2 + 3 < R.frames; omega) (by show _ + (13 * (2 + 1) + 43) ≤ R.locals; omega) (by omega) (by omega) hC.2.2.2.2.2.2.2.2.1 (fun t hv hz hk => ?_) h3.2.2 hcs.1 hcs.2
  · rcases List.mem_cons.mp h9 with rfl | h9
    · exact kx_ot wl_X11_186
    · rcases List.mem_cons.mp h9 with rfl | h9
      · exact kx_ot ini_N
      · exact kx_ot (kx_NSE w9 h9)
  · refine ⟨w, fl, hp, ⟨h1.kept (fun k q hq9 => hk _ (h1 k q hq9).lt), h2⟩, Nat.le_trans h3.1 hz, fun q q1 q2 => (hk q (Nat.lt_of_lt_of_le q1 h3.1)).trans (h3.2.1 q q1 q2)⟩
end KXR
