noncomputable def dcI (x : UInt64) : Int := (Op.cmpValue (FP.dcmp x x) .l).toInt
theorem dcI_r (x : UInt64) : -2147483648 ≤ dcI x ∧ dcI x ≤ 2147483647 := ⟨by have := Int32.le_toInt (Op.cmpValue (FP.dcmp x x) .l); unfold dcI; omega, by have := Int32.toInt_lt (Op.cmpValue (FP.dcmp x x) .l); unfold dcI; omega⟩
section
variable {p : Program} {l : Launch} {e : Env} {R : Room} {s : State} {m : MethodId} {args : Array Value} {below : List Frame} {meth : Method} {c : Code} {cc : ByteArray} {own : String} {nL : Nat} {G : kG} {d0 mc0 ms0 : Nat} {Q : State → Prop} {w : Nat → va_E} {fl : va_W} {cells slots pc : Nat} {lv : List (Nat × Value)} {st : List Value}
theorem k_dcmp (hC : kC p l R s m args meth c cc own nL G d0 mc0 ms0) {x : UInt64} (d : decode cc pc = .ok (.dcmp .l, 1)) (k : KW p l e R s m args below meth c nL G Q w fl cells slots (pc + 1) lv (vI (dcI x) :: st)) : KW p l e R s m args below meth c nL G Q w fl cells slots pc lv (.double x :: .double x :: st) := fun H locs ls h1 h2 h3 h4 => lv_dcmp hC.1 hC.2.1 d (by
  rw [show Op.cmpValue (FP.dcmp x x) .l = Int32.ofInt (dcI x) from (Int32.ofInt_toInt _).symm]
  exact k H locs ls h1 h2 h3 h4)
theorem k_f2d (hC : kC p l R s m args meth c cc own nL G d0 mc0 ms0) {x : UInt32} (d : decode cc pc = .ok (.f2d, 1)) (hn : vf_n64 (FP.f2d x)) (k : KW p l e R s m args below meth c nL G Q w fl cells slots (pc + 1) lv (.double (FP.f2d x) :: st)) : KW p l e R s m args below meth c nL G Q w fl cells slots pc lv (.float x :: st) := fun H locs ls h1 h2 h3 h4 => lv_f2d hC.1 hC.2.1 d hn (k H locs ls h1 h2 h3 h4)
end
set_option maxRecDepth 100000 in
set_option maxHeartbeats 4000000 in
theorem lw_isInside {p : Program} {l : Launch} {e : Env} {R : Room} {s : State} {m : MethodId} {args : Array Value} {below : List Frame} {meth : Method} {c : Code} {G : kG} {d0 mc0 ms0 : Nat} {Q : State → Prop} {b L : Nat} {xs : Nat → Int32} (hC : kC p l R s m args meth c cL_law RL 10 G d0 mc0 ms0) (hls : l.stackTraces = false) (hN : kN G = 150) (hNc : va_Nc "java/lang/IllegalArgumentException" "java/util/NoSuchElementException" s) (hX : va_X b L xs s s.heap) (hbl : b < s.heap.size) (hbA : ¬ kA G b) (hL : L ≤ 3584) (hd0 : 60 ≤ d0) {cs ss : Nat} (hcs : cs + 16 ≤ mc0 ∧ ss + 400 ≤ ms0) (i : Nat) (hi : i + 7 ≤ L) (w : Nat → va_E) (fl : va_W) (hLI : LI G w fl)
    (kk : ∀ (w' : Nat → va_E) (fl' : va_W) (cs' ss' : Nat), LI G w' fl' → cs' ≤ cs + 16 → ss' ≤ ss + 400 → KW p l e R s m args below meth c 10 G Q w' fl' cs' ss' 2319 [(5, vI (i : Int)), (4, .ref (kad G 149)), (3, .ref (kad G 148)), (2, .ref (kad G 133)), (1, .ref (kad G 0)), (0, .ref b)] []) : KW p l e R s m args below meth c 10 G Q w fl cs ss 1187 [(5, vI (i : Int)), (4, .ref (kad G 149)), (3, .ref (kad G 148)), (2, .ref (kad G 133)), (1, .ref (kad G 0)), (0, .ref b)] [] := by
  obtain ⟨bt, gc, nl, gp0, nl9, gl0, gs, c0, nx, cn, cap, cd, ea, kd, nm, sa, nx9, en, sv, hs, T, u, gr, D0, sp, H, hc, hm, ho, hr, hw, hT⟩ := hLI
  have hc1 := hc
  have hm1 := hm
  have hr1 := hr
  have ho1 := ho
  obtain ⟨⟨a0, asv⟩, a1, ⟨a2, abt, ac7⟩, a3, a4, a5, a6, ⟨a7, anx, acn⟩, ⟨a8, a9, a10⟩, ⟨a11, a12, a13⟩, a14⟩ := hc1
  obtain ⟨b0, b1, b2, b3, b4, b5, b6, b7, ⟨cf, b8⟩, ⟨fq, b9⟩⟩ := hm1
  obtain ⟨⟨out, o1⟩, ⟨oD, o2⟩⟩ := ho1
  obtain ⟨r0, r1, r2, r3, r4, r5, r6⟩ := hr1
  have hI := r0.inv
  have hIr := r0.2.1
  have hE := r0.1
  have e0 := hE.n 0 (by decide)
  have e1 := hE.n 1 (by decide)
  have e2 := hE.n 2 (by decide)
  have hgc := hI.c
  refine k_aload_n hC dL_law_1187 rfl 4 rfl ?_
  refine k_aload_n hC dL_law_1188 rfl 5 rfl ?_
  refine k_iload hC dL_law_1189 0 rfl ?_
  refine k_iconst hC dL_law_1191 ?_
  refine k_iadd hC dL_law_1192 ?_
  refine k_scr hC hX hbl hbA hL (i + 1) (by omega) (by omega) dL_law_1193 ?_
  refine k_aload_n hC dL_law_1194 rfl 5 rfl ?_
  refine k_iload hC dL_law_1195 0 rfl ?_
  refine k_iconst hC dL_law_1197 ?_
  refine k_iadd hC dL_law_1198 ?_
  refine k_scr hC hX hbl hbA hL (i + 2) (by omega) (by omega) dL_law_1199 ?_
  refine k_aload_n hC dL_law_1200 rfl 5 rfl ?_
  refine k_iload hC dL_law_1201 0 rfl ?_
  refine k_iconst hC dL_law_1203 ?_
  refine k_iadd hC dL_law_1204 ?_
  refine k_scr hC hX hbl hbA hL (i + 3) (by omega) (by omega) dL_law_1205 ?_
  refine k_aload_n hC dL_law_1206 rfl 5 rfl ?_
  refine k_iload hC dL_law_1207 0 rfl ?_
  refine k_iconst hC dL_law_1209 ?_
  refine k_iadd hC dL_law_1210 ?_
  refine k_scr hC hX hbl hbA hL (i + 4) (by omega) (by omega) dL_law_1211 ?_
  refine k_aload_n hC dL_law_1212 rfl 5 rfl ?_
  refine k_iload hC dL_law_1213 0 rfl ?_
  refine k_iconst hC dL_law_1215 ?_
  refine k_iadd hC dL_law_1216 ?_
  refine k_scr hC hX hbl hbA hL (i + 5) (by omega) (by omega) dL_law_1217 ?_
  refine k_aload_n hC dL_law_1218 rfl 5 rfl ?_
  refine k_iload hC dL_law_1219 0 rfl ?_
  refine k_bipush hC dL_law_1221 (by decide) ?_
  refine k_iadd hC dL_law_1223 ?_
  refine k_scr hC hX hbl hbA hL (i + 6) (by omega) (by omega) dL_law_1224 ?_
  refine k_aload_n hC dL_law_1225 rfl 2 rfl ?_
  refine k_callL hC hNc (n := 8) (c_L_isInside l hls G hN w fl gc nl sv (xI xs (i + 1)) (xI xs (i + 2)) (xI xs (i + 3)) (xI xs (i + 4)) (xI xs (i + 5)) (xI xs (i + 6)) out (xI_r xs _) (xI_r xs _) (xI_r xs _) (xI_r xs _) (xI_r xs _) (xI_r xs _) hI a0 a3 a4 a5 o1) wc_L_isInside wz_L (by decide +kernel) wt_L_isInside wm_L_162 rfl rfl (Nat.le_of_ble_eq_true rfl) (by omega) (by omega) ⟨by omega, by omega⟩ dL_law_1226 (fun v1 w1 fl1 hp => ?_)
  rcases hp with ⟨hv, hcc, w2, hP, h148, hf2⟩ | ⟨hP, ⟨hcc, hv⟩ | ⟨hcc, hv⟩⟩
  · subst hv
    obtain ⟨hfl, hP⟩ := hP
    subst hfl
    obtain ⟨hCh, hfP⟩ := hP
    have hCh1 : kCht G w1 := hCh.fr (fun j q1 q2 => hf2 j (by omega))
    have hSc1 : kScr G w1 := b5.fr (fun j q1 q2 => (hf2 j (by omega)).trans (hfP j (by omega)))
    show KW p l e R s m args below meth c 10 G Q w1 fl (cs + 8) (ss + 48) 1229 [(5, vI (i : Int)), (4, .ref (kad G 149)), (3, .ref (kad G 148)), (2, .ref (kad G 133)), (1, .ref (kad G 0)), (0, .ref b)] [vI 0]
    refine k_istore hC [(6, vI 0), (5, vI (i : Int)), (4, .ref (kad G 149)), (3, .ref (kad G 148)), (2, .ref (kad G 133)), (1, .ref (kad G 0)), (0, .ref b)] dL_law_1229 (by decide) rfl ?_
    refine k_aload_n hC dL_law_1231 rfl 4 rfl ?_
    refine k_aload_n hC dL_law_1232 rfl 6 rfl ?_
    refine k_iload hC dL_law_1233 1 rfl ?_
    refine k_iconst hC dL_law_1235 ?_
    refine k_iadd hC dL_law_1236 ?_
    refine k_scr hC hX hbl hbA hL (i + 1) (by omega) (by omega) dL_law_1237 ?_
    refine k_aload_n hC dL_law_1238 rfl 6 rfl ?_
    refine k_iload hC dL_law_1239 1 rfl ?_
    refine k_iconst hC dL_law_1241 ?_
    refine k_iadd hC dL_law_1242 ?_
    refine k_scr hC hX hbl hbA hL (i + 2) (by omega) (by omega) dL_law_1243 ?_
    refine k_aload_n hC dL_law_1244 rfl 6 rfl ?_
    refine k_iload hC dL_law_1245 1 rfl ?_
    refine k_iconst hC dL_law_1247 ?_
    refine k_iadd hC dL_law_1248 ?_
    refine k_scr hC hX hbl hbA hL (i + 3) (by omega) (by omega) dL_law_1249 ?_
    refine k_aload_n hC dL_law_1250 rfl 6 rfl ?_
    refine k_iload hC dL_law_1251 1 rfl ?_
    refine k_iconst hC dL_law_1253 ?_
    refine k_iadd hC dL_law_1254 ?_
    refine k_scr hC hX hbl hbA hL (i + 4) (by omega) (by omega) dL_law_1255 ?_
    refine k_aload_n hC dL_law_1256 rfl 6 rfl ?_
    refine k_iload hC dL_law_1257 1 rfl ?_
    refine k_iconst hC dL_law_1259 ?_
    refine k_iadd hC dL_law_1260 ?_
    refine k_scr hC hX hbl hbA hL (i + 5) (by omega) (by omega) dL_law_1261 ?_
    refine k_aload_n hC dL_law_1262 rfl 6 rfl ?_
    refine k_iload hC dL_law_1263 1 rfl ?_
    refine k_bipush hC dL_law_1265 (by decide) ?_
    refine k_iadd hC dL_law_1267 ?_
    refine k_scr hC hX hbl hbA hL (i + 6) (by omega) (by omega) dL_law_1268 ?_
    have h_1 : w1 133 = mdO G u := (hf2 133 (by decide)).trans ((hfP 133 (by decide)).trans b0)
    have h_2 : w1 134 = lA G 93 gr := (hf2 134 (by decide)).trans ((hfP 134 (by decide)).trans b1)
    refine k_callV hC (c_X12_isInside l hls G hN w1 fl u gr (xI xs (i + 1)) (xI xs (i + 2)) (xI xs (i + 3)) (xI xs (i + 4)) (xI xs (i + 5)) (xI xs (i + 6)) (xI_r xs _) (xI_r xs _) (xI_r xs _) (xI_r xs _) (xI_r xs _) (xI_r xs _) hIr h_1 h_2 hSc1) yy_X12_isInside wm_L_165 (kl hN (by decide)) h_1 rfl rfl rfl rfl (Nat.le_of_ble_eq_true rfl) (by omega) (by omega) ⟨by omega, by omega⟩ dL_law_1269 (fun v3 w3 fl3 hp3 => ?_)
    obtain ⟨b3, th3, hv3, hfl3, hR3, hP3⟩ := hp3
    subst hv3
    subst hfl3
    obtain ⟨⟨fe, fn, hm3⟩, hS3, hf3⟩ := hP3
    rcases hR3 with ⟨q1, q2, q3⟩ | ⟨q1, q2⟩ | ⟨q1, q2⟩
    · subst q2
      show KW p l e R s m args below meth c 10 G Q w3 fl (cs + 8) (ss + 48) 1272 [(6, vI 0), (5, vI (i : Int)), (4, .ref (kad G 149)), (3, .ref (kad G 148)), (2, .ref (kad G 133)), (1, .ref (kad G 0)), (0, .ref b)] [vI b3]
      refine k_istore hC [(7, vI b3), (6, vI 0), (5, vI (i : Int)), (4, .ref (kad G 149)), (3, .ref (kad G 148)), (2, .ref (kad G 133)), (1, .ref (kad G 0)), (0, .ref b)] dL_law_1272 (by decide) rfl ?_
      refine k_aload_n hC dL_law_1274 rfl 5 rfl ?_
      refine k_pureV hC (c_X12_thrown l hls G hN w3 fl (kup (kup (kup u 5 0) 12 fe) 13 fn) hm3) yy_X12_thrown wm_L_113 (kl hN (by decide)) hm3 rfl rfl rfl rfl (Nat.le_of_ble_eq_true rfl) (by omega) (by omega) ⟨by omega, by omega⟩ dL_law_1275 ?_
      refine k_topv (vI 0) rfl ?_
      refine k_iload hC dL_law_1278 1 rfl ?_
      refine k_icmp_eq hC 1285 dL_law_1280 rfl (by omega) (by omega) (fun c_1280 => ?_) (fun c_1280 => absurd c_1280 (by omega))
      refine k_iload hC dL_law_1285 1 rfl ?_
      refine k_if_ne hC 1309 dL_law_1287 rfl (by omega) (fun c_1287 => absurd c_1287 (by omega)) (fun c_1287 => ?_)
      refine k_aload_n hC dL_law_1290 rfl 4 rfl ?_
      refine k_iconst hC dL_law_1291 ?_
      have h_3 : w3 148 = lA G 1 (fun _ => i32 (insV gc (xI xs (i + 1)).toNat (xI xs (i + 2)).toNat (xI xs (i + 3)).toNat (xI xs (i + 4)) (xI xs (i + 5)) (xI xs (i + 6)))) := (hf3 148 (by decide)).trans h148
      refine k_lald hC (kl hN (by decide)) h_3 (by omega) (by decide) dL_law_1292 ?_
      refine k_topv (vL (i32 (insV gc (xI xs (i + 1)).toNat (xI xs (i + 2)).toNat (xI xs (i + 3)).toNat (xI xs (i + 4)) (xI xs (i + 5)) (xI xs (i + 6))))) rfl ?_
      refine k_iload hC dL_law_1293 0 rfl ?_
      have h01 : b3 = 0 ∨ b3 = 1 := by rw [q3]; exact insV_01
      refine k_if_eq hC 1302 dL_law_1295 rfl (by omega) (fun c_1295 => ?_) (fun c_1295 => ?_)
      · refine k_lconst (x := 0) hC dL_law_1302 (by decide) ?_
        refine k_lcmp_eq hC 1309 dL_law_1303 dL_law_1304 rfl (i32_l _) (by omega) (fun c_1303 => ?_) (fun c_1303 => absurd (show i32 (insV gc (xI xs (i + 1)).toNat (xI xs (i + 2)).toNat (xI xs (i + 3)).toNat (xI xs (i + 4)) (xI xs (i + 5)) (xI xs (i + 6))) = 0 from by rw [show (insV gc (xI xs (i + 1)).toNat (xI xs (i + 2)).toNat (xI xs (i + 3)).toNat (xI xs (i + 4)) (xI xs (i + 5)) (xI xs (i + 6))) = 0 from Eq.trans ((gE_insV hE hI (by omega) (by omega) (by omega) _ _ _).trans q3.symm) (by omega)]; rfl) c_1303)
        refine k_goto hC 2319 dL_law_1309 rfl ?_
        refine k_lvs (ls := [2, 3, 4, 5, 6, 7]) [(5, vI (i : Int)), (4, .ref (kad G 149)), (3, .ref (kad G 148)), (2, .ref (kad G 133)), (1, .ref (kad G 0)), (0, .ref b)] rfl ?_
        have h_4 : w3 149 = dA G 1 oD := (hf3 149 (by decide)).trans ((hf2 149 (by decide)).trans ((hfP 149 (by decide)).trans o2))
        exact kk w3 fl _ _ (LI.rd hc hm hr hw hT (hCh1.fr (fun j q1 q2 => hf3 j (by omega))) hS3 hm3 ⟨rfl, rfl, rfl, rfl, rfl⟩ ⟨⟨_, h_3⟩, ⟨_, h_4⟩⟩ (fun j hj => (hf3 j (by omega)).trans ((hf2 j (by omega)).trans (hfP j (by omega))))) (by omega) (by omega)
      · refine k_lconst (x := 1) hC dL_law_1298 (by decide) ?_
        refine k_goto hC 1303 dL_law_1299 rfl ?_
        refine k_lcmp_eq hC 1309 dL_law_1303 dL_law_1304 rfl (i32_l _) (by omega) (fun c_1303 => ?_) (fun c_1303 => absurd (show i32 (insV gc (xI xs (i + 1)).toNat (xI xs (i + 2)).toNat (xI xs (i + 3)).toNat (xI xs (i + 4)) (xI xs (i + 5)) (xI xs (i + 6))) = 1 from by rw [show (insV gc (xI xs (i + 1)).toNat (xI xs (i + 2)).toNat (xI xs (i + 3)).toNat (xI xs (i + 4)) (xI xs (i + 5)) (xI xs (i + 6))) = 1 from Eq.trans ((gE_insV hE hI (by omega) (by omega) (by omega) _ _ _).trans q3.symm) (by omega)]; rfl) c_1303)
        refine k_goto hC 2319 dL_law_1309 rfl ?_
        refine k_lvs (ls := [2, 3, 4, 5, 6, 7]) [(5, vI (i : Int)), (4, .ref (kad G 149)), (3, .ref (kad G 148)), (2, .ref (kad G 133)), (1, .ref (kad G 0)), (0, .ref b)] rfl ?_
        have h_5 : w3 149 = dA G 1 oD := (hf3 149 (by decide)).trans ((hf2 149 (by decide)).trans ((hfP 149 (by decide)).trans o2))
        exact kk w3 fl _ _ (LI.rd hc hm hr hw hT (hCh1.fr (fun j q1 q2 => hf3 j (by omega))) hS3 hm3 ⟨rfl, rfl, rfl, rfl, rfl⟩ ⟨⟨_, h_3⟩, ⟨_, h_5⟩⟩ (fun j hj => (hf3 j (by omega)).trans ((hf2 j (by omega)).trans (hfP j (by omega))))) (by omega) (by omega)
    · exfalso; omega
    · exfalso; omega
  · subst hv
    obtain ⟨hfl, hP⟩ := hP
    subst hfl
    obtain ⟨hCh, hfP⟩ := hP
    have hCh1 := hCh
    have hSc1 : kScr G w1 := b5.fr (fun j q1 q2 => hfP j (by omega))
    show KW p l e R s m args below meth c 10 G Q w1 fl (cs + 8) (ss + 48) 1229 [(5, vI (i : Int)), (4, .ref (kad G 149)), (3, .ref (kad G 148)), (2, .ref (kad G 133)), (1, .ref (kad G 0)), (0, .ref b)] [vI 1]
    refine k_istore hC [(6, vI 1), (5, vI (i : Int)), (4, .ref (kad G 149)), (3, .ref (kad G 148)), (2, .ref (kad G 133)), (1, .ref (kad G 0)), (0, .ref b)] dL_law_1229 (by decide) rfl ?_
    refine k_aload_n hC dL_law_1231 rfl 4 rfl ?_
    refine k_aload_n hC dL_law_1232 rfl 6 rfl ?_
    refine k_iload hC dL_law_1233 1 rfl ?_
    refine k_iconst hC dL_law_1235 ?_
    refine k_iadd hC dL_law_1236 ?_
    refine k_scr hC hX hbl hbA hL (i + 1) (by omega) (by omega) dL_law_1237 ?_
    refine k_aload_n hC dL_law_1238 rfl 6 rfl ?_
    refine k_iload hC dL_law_1239 1 rfl ?_
    refine k_iconst hC dL_law_1241 ?_
    refine k_iadd hC dL_law_1242 ?_
    refine k_scr hC hX hbl hbA hL (i + 2) (by omega) (by omega) dL_law_1243 ?_
    refine k_aload_n hC dL_law_1244 rfl 6 rfl ?_
    refine k_iload hC dL_law_1245 1 rfl ?_
    refine k_iconst hC dL_law_1247 ?_
    refine k_iadd hC dL_law_1248 ?_
    refine k_scr hC hX hbl hbA hL (i + 3) (by omega) (by omega) dL_law_1249 ?_
    refine k_aload_n hC dL_law_1250 rfl 6 rfl ?_
    refine k_iload hC dL_law_1251 1 rfl ?_
    refine k_iconst hC dL_law_1253 ?_
    refine k_iadd hC dL_law_1254 ?_
    refine k_scr hC hX hbl hbA hL (i + 4) (by omega) (by omega) dL_law_1255 ?_
    refine k_aload_n hC dL_law_1256 rfl 6 rfl ?_
    refine k_iload hC dL_law_1257 1 rfl ?_
    refine k_iconst hC dL_law_1259 ?_
    refine k_iadd hC dL_law_1260 ?_
    refine k_scr hC hX hbl hbA hL (i + 5) (by omega) (by omega) dL_law_1261 ?_
    refine k_aload_n hC dL_law_1262 rfl 6 rfl ?_
    refine k_iload hC dL_law_1263 1 rfl ?_
    refine k_bipush hC dL_law_1265 (by decide) ?_
    refine k_iadd hC dL_law_1267 ?_
    refine k_scr hC hX hbl hbA hL (i + 6) (by omega) (by omega) dL_law_1268 ?_
    have h_6 : w1 133 = mdO G u := (hfP 133 (by decide)).trans b0
    have h_7 : w1 134 = lA G 93 gr := (hfP 134 (by decide)).trans b1
    refine k_callV hC (c_X12_isInside l hls G hN w1 fl u gr (xI xs (i + 1)) (xI xs (i + 2)) (xI xs (i + 3)) (xI xs (i + 4)) (xI xs (i + 5)) (xI xs (i + 6)) (xI_r xs _) (xI_r xs _) (xI_r xs _) (xI_r xs _) (xI_r xs _) (xI_r xs _) hIr h_6 h_7 hSc1) yy_X12_isInside wm_L_165 (kl hN (by decide)) h_6 rfl rfl rfl rfl (Nat.le_of_ble_eq_true rfl) (by omega) (by omega) ⟨by omega, by omega⟩ dL_law_1269 (fun v3 w3 fl3 hp3 => ?_)
    obtain ⟨b3, th3, hv3, hfl3, hR3, hP3⟩ := hp3
    subst hv3
    subst hfl3
    obtain ⟨⟨fe, fn, hm3⟩, hS3, hf3⟩ := hP3
    rcases hR3 with ⟨q1, q2, q3⟩ | ⟨q1, q2⟩ | ⟨q1, q2⟩
    · exfalso; omega
    · subst q2
      show KW p l e R s m args below meth c 10 G Q w3 fl (cs + 8) (ss + 48) 1272 [(6, vI 1), (5, vI (i : Int)), (4, .ref (kad G 149)), (3, .ref (kad G 148)), (2, .ref (kad G 133)), (1, .ref (kad G 0)), (0, .ref b)] [vI b3]
      refine k_istore hC [(7, vI b3), (6, vI 1), (5, vI (i : Int)), (4, .ref (kad G 149)), (3, .ref (kad G 148)), (2, .ref (kad G 133)), (1, .ref (kad G 0)), (0, .ref b)] dL_law_1272 (by decide) rfl ?_
      refine k_aload_n hC dL_law_1274 rfl 5 rfl ?_
      refine k_pureV hC (c_X12_thrown l hls G hN w3 fl (kup (kup (kup u 5 1) 12 fe) 13 fn) hm3) yy_X12_thrown wm_L_113 (kl hN (by decide)) hm3 rfl rfl rfl rfl (Nat.le_of_ble_eq_true rfl) (by omega) (by omega) ⟨by omega, by omega⟩ dL_law_1275 ?_
      refine k_topv (vI 1) rfl ?_
      refine k_iload hC dL_law_1278 1 rfl ?_
      refine k_icmp_eq hC 1285 dL_law_1280 rfl (by omega) (by omega) (fun c_1280 => ?_) (fun c_1280 => absurd c_1280 (by omega))
      refine k_iload hC dL_law_1285 1 rfl ?_
      refine k_if_ne hC 1309 dL_law_1287 rfl (by omega) (fun c_1287 => ?_) (fun c_1287 => absurd c_1287 (by omega))
      refine k_goto hC 2319 dL_law_1309 rfl ?_
      refine k_lvs (ls := [2, 3, 4, 5, 6, 7]) [(5, vI (i : Int)), (4, .ref (kad G 149)), (3, .ref (kad G 148)), (2, .ref (kad G 133)), (1, .ref (kad G 0)), (0, .ref b)] rfl ?_
      have h_8 : w3 148 = lA G 1 out := (hf3 148 (by decide)).trans ((hfP 148 (by decide)).trans o1)
      have h_9 : w3 149 = dA G 1 oD := (hf3 149 (by decide)).trans ((hfP 149 (by decide)).trans o2)
      exact kk w3 fl _ _ (LI.rd hc hm hr hw hT (hCh1.fr (fun j q1 q2 => hf3 j (by omega))) hS3 hm3 ⟨rfl, rfl, rfl, rfl, rfl⟩ ⟨⟨_, h_8⟩, ⟨_, h_9⟩⟩ (fun j hj => (hf3 j (by omega)).trans (hfP j (by omega)))) (by omega) (by omega)
    · exfalso; omega
  · subst hv
    obtain ⟨hfl, hP⟩ := hP
    subst hfl
    obtain ⟨hCh, hfP⟩ := hP
    have hCh1 := hCh
    have hSc1 : kScr G w1 := b5.fr (fun j q1 q2 => hfP j (by omega))
    show KW p l e R s m args below meth c 10 G Q w1 fl (cs + 8) (ss + 48) 1229 [(5, vI (i : Int)), (4, .ref (kad G 149)), (3, .ref (kad G 148)), (2, .ref (kad G 133)), (1, .ref (kad G 0)), (0, .ref b)] [vI 2]
    refine k_istore hC [(6, vI 2), (5, vI (i : Int)), (4, .ref (kad G 149)), (3, .ref (kad G 148)), (2, .ref (kad G 133)), (1, .ref (kad G 0)), (0, .ref b)] dL_law_1229 (by decide) rfl ?_
    refine k_aload_n hC dL_law_1231 rfl 4 rfl ?_
    refine k_aload_n hC dL_law_1232 rfl 6 rfl ?_
    refine k_iload hC dL_law_1233 1 rfl ?_
    refine k_iconst hC dL_law_1235 ?_
    refine k_iadd hC dL_law_1236 ?_
    refine k_scr hC hX hbl hbA hL (i + 1) (by omega) (by omega) dL_law_1237 ?_
    refine k_aload_n hC dL_law_1238 rfl 6 rfl ?_
    refine k_iload hC dL_law_1239 1 rfl ?_
    refine k_iconst hC dL_law_1241 ?_
    refine k_iadd hC dL_law_1242 ?_
    refine k_scr hC hX hbl hbA hL (i + 2) (by omega) (by omega) dL_law_1243 ?_
    refine k_aload_n hC dL_law_1244 rfl 6 rfl ?_
    refine k_iload hC dL_law_1245 1 rfl ?_
    refine k_iconst hC dL_law_1247 ?_
    refine k_iadd hC dL_law_1248 ?_
    refine k_scr hC hX hbl hbA hL (i + 3) (by omega) (by omega) dL_law_1249 ?_
    refine k_aload_n hC dL_law_1250 rfl 6 rfl ?_
    refine k_iload hC dL_law_1251 1 rfl ?_
    refine k_iconst hC dL_law_1253 ?_
    refine k_iadd hC dL_law_1254 ?_
    refine k_scr hC hX hbl hbA hL (i + 4) (by omega) (by omega) dL_law_1255 ?_
    refine k_aload_n hC dL_law_1256 rfl 6 rfl ?_
    refine k_iload hC dL_law_1257 1 rfl ?_
    refine k_iconst hC dL_law_1259 ?_
    refine k_iadd hC dL_law_1260 ?_
    refine k_scr hC hX hbl hbA hL (i + 5) (by omega) (by omega) dL_law_1261 ?_
    refine k_aload_n hC dL_law_1262 rfl 6 rfl ?_
    refine k_iload hC dL_law_1263 1 rfl ?_
    refine k_bipush hC dL_law_1265 (by decide) ?_
    refine k_iadd hC dL_law_1267 ?_
    refine k_scr hC hX hbl hbA hL (i + 6) (by omega) (by omega) dL_law_1268 ?_
    have h_10 : w1 133 = mdO G u := (hfP 133 (by decide)).trans b0
    have h_11 : w1 134 = lA G 93 gr := (hfP 134 (by decide)).trans b1
    refine k_callV hC (c_X12_isInside l hls G hN w1 fl u gr (xI xs (i + 1)) (xI xs (i + 2)) (xI xs (i + 3)) (xI xs (i + 4)) (xI xs (i + 5)) (xI xs (i + 6)) (xI_r xs _) (xI_r xs _) (xI_r xs _) (xI_r xs _) (xI_r xs _) (xI_r xs _) hIr h_10 h_11 hSc1) yy_X12_isInside wm_L_165 (kl hN (by decide)) h_10 rfl rfl rfl rfl (Nat.le_of_ble_eq_true rfl) (by omega) (by omega) ⟨by omega, by omega⟩ dL_law_1269 (fun v3 w3 fl3 hp3 => ?_)
    obtain ⟨b3, th3, hv3, hfl3, hR3, hP3⟩ := hp3
    subst hv3
    subst hfl3
    obtain ⟨⟨fe, fn, hm3⟩, hS3, hf3⟩ := hP3
    rcases hR3 with ⟨q1, q2, q3⟩ | ⟨q1, q2⟩ | ⟨q1, q2⟩
    · exfalso; omega
    · exfalso; omega
    · subst q2
      show KW p l e R s m args below meth c 10 G Q w3 fl (cs + 8) (ss + 48) 1272 [(6, vI 2), (5, vI (i : Int)), (4, .ref (kad G 149)), (3, .ref (kad G 148)), (2, .ref (kad G 133)), (1, .ref (kad G 0)), (0, .ref b)] [vI b3]
      refine k_istore hC [(7, vI b3), (6, vI 2), (5, vI (i : Int)), (4, .ref (kad G 149)), (3, .ref (kad G 148)), (2, .ref (kad G 133)), (1, .ref (kad G 0)), (0, .ref b)] dL_law_1272 (by decide) rfl ?_
      refine k_aload_n hC dL_law_1274 rfl 5 rfl ?_
      refine k_pureV hC (c_X12_thrown l hls G hN w3 fl (kup (kup (kup u 5 2) 12 fe) 13 fn) hm3) yy_X12_thrown wm_L_113 (kl hN (by decide)) hm3 rfl rfl rfl rfl (Nat.le_of_ble_eq_true rfl) (by omega) (by omega) ⟨by omega, by omega⟩ dL_law_1275 ?_
      refine k_topv (vI 2) rfl ?_
      refine k_iload hC dL_law_1278 1 rfl ?_
      refine k_icmp_eq hC 1285 dL_law_1280 rfl (by omega) (by omega) (fun c_1280 => ?_) (fun c_1280 => absurd c_1280 (by omega))
      refine k_iload hC dL_law_1285 1 rfl ?_
      refine k_if_ne hC 1309 dL_law_1287 rfl (by omega) (fun c_1287 => ?_) (fun c_1287 => absurd c_1287 (by omega))
      refine k_goto hC 2319 dL_law_1309 rfl ?_
      refine k_lvs (ls := [2, 3, 4, 5, 6, 7]) [(5, vI (i : Int)), (4, .ref (kad G 149)), (3, .ref (kad G 148)), (2, .ref (kad G 133)), (1, .ref (kad G 0)), (0, .ref b)] rfl ?_
      have h_12 : w3 148 = lA G 1 out := (hf3 148 (by decide)).trans ((hfP 148 (by decide)).trans o1)
      have h_13 : w3 149 = dA G 1 oD := (hf3 149 (by decide)).trans ((hfP 149 (by decide)).trans o2)
      exact kk w3 fl _ _ (LI.rd hc hm hr hw hT (hCh1.fr (fun j q1 q2 => hf3 j (by omega))) hS3 hm3 ⟨rfl, rfl, rfl, rfl, rfl⟩ ⟨⟨_, h_12⟩, ⟨_, h_13⟩⟩ (fun j hj => (hf3 j (by omega)).trans (hfP j (by omega)))) (by omega) (by omega)

set_option maxRecDepth 100000 in
set_option maxHeartbeats 4000000 in
theorem lw_meanResidual {p : Program} {l : Launch} {e : Env} {R : Room} {s : State} {m : MethodId} {args : Array Value} {below : List Frame} {meth : Method} {c : Code} {G : kG} {d0 mc0 ms0 : Nat} {Q : State → Prop} {b L : Nat} {xs : Nat → Int32} (hC : kC p l R s m args meth c cL_law RL 10 G d0 mc0 ms0) (hls : l.stackTraces = false) (hN : kN G = 150) (hNc : va_Nc "java/lang/IllegalArgumentException" "java/util/NoSuchElementException" s) (hX : va_X b L xs s s.heap) (hbl : b < s.heap.size) (hbA : ¬ kA G b) (hL : L ≤ 3584) (hd0 : 60 ≤ d0) {cs ss : Nat} (hcs : cs + 16 ≤ mc0 ∧ ss + 400 ≤ ms0) (i : Nat) (hi : i + 7 ≤ L) (w : Nat → va_E) (fl : va_W) (hLI : LI G w fl)
    (kk : ∀ (w' : Nat → va_E) (fl' : va_W) (cs' ss' : Nat), LI G w' fl' → cs' ≤ cs + 16 → ss' ≤ ss + 400 → KW p l e R s m args below meth c 10 G Q w' fl' cs' ss' 2319 [(5, vI (i : Int)), (4, .ref (kad G 149)), (3, .ref (kad G 148)), (2, .ref (kad G 133)), (1, .ref (kad G 0)), (0, .ref b)] []) : KW p l e R s m args below meth c 10 G Q w fl cs ss 1660 [(5, vI (i : Int)), (4, .ref (kad G 149)), (3, .ref (kad G 148)), (2, .ref (kad G 133)), (1, .ref (kad G 0)), (0, .ref b)] [] := by
  obtain ⟨bt, gc, nl, gp0, nl9, gl0, gs, c0, nx, cn, cap, cd, ea, kd, nm, sa, nx9, en, sv, hs, T, u, gr, D0, sp, H, hc, hm, ho, hr, hw, hT⟩ := hLI
  have hc1 := hc
  have hm1 := hm
  have hr1 := hr
  have ho1 := ho
  obtain ⟨⟨a0, asv⟩, a1, ⟨a2, abt, ac7⟩, a3, a4, a5, a6, ⟨a7, anx, acn⟩, ⟨a8, a9, a10⟩, ⟨a11, a12, a13⟩, a14⟩ := hc1
  obtain ⟨b0, b1, b2, b3, b4, b5, b6, b7, ⟨cf, b8⟩, ⟨fq, b9⟩⟩ := hm1
  obtain ⟨⟨out, o1⟩, ⟨oD, o2⟩⟩ := ho1
  obtain ⟨r0, r1, r2, r3, r4, r5, r6⟩ := hr1
  have hI := r0.inv
  have hIr := r0.2.1
  have hE := r0.1
  have e0 := hE.n 0 (by decide)
  have e1 := hE.n 1 (by decide)
  have e2 := hE.n 2 (by decide)
  have hgc := hI.c
  refine k_aload_n hC dL_law_1660 rfl 4 rfl ?_
  refine k_aload_n hC dL_law_1661 rfl 5 rfl ?_
  refine k_iload hC dL_law_1662 0 rfl ?_
  refine k_iconst hC dL_law_1664 ?_
  refine k_iadd hC dL_law_1665 ?_
  refine k_scr hC hX hbl hbA hL (i + 1) (by omega) (by omega) dL_law_1666 ?_
  refine k_aload hC dL_law_1667 1 rfl ?_
  refine k_callL hC hNc (n := 3) (c_L_meanResidual l hls G hN w fl gc nl sv (xI xs (i + 1)) oD (xI_r xs _) hI a0 a3 a4 a5 o2) wc_L_meanResidual wz_L (by decide +kernel) wt_L_meanResidual wm_L_181 rfl rfl (Nat.le_of_ble_eq_true rfl) (by omega) (by omega) ⟨by omega, by omega⟩ dL_law_1669 (fun v1 w1 fl1 hp => ?_)
  rcases hp with ⟨hv, hcc, w2, hP, h148, hf2⟩ | ⟨hP, ⟨hcc, hv⟩ | ⟨hcc, hv⟩⟩
  · subst hv
    obtain ⟨hfl, hP⟩ := hP
    subst hfl
    obtain ⟨hCh, hfP⟩ := hP
    obtain ⟨gD, h149, hgD⟩ := h148
    have hCh1 : kCht G w1 := hCh.fr (fun j q1 q2 => hf2 j (by omega))
    have hSc1 : kScr G w1 := b5.fr (fun j q1 q2 => (hf2 j (by omega)).trans (hfP j (by omega)))
    show KW p l e R s m args below meth c 10 G Q w1 fl (cs + 8) (ss + 48) 1672 [(5, vI (i : Int)), (4, .ref (kad G 149)), (3, .ref (kad G 148)), (2, .ref (kad G 133)), (1, .ref (kad G 0)), (0, .ref b)] [vI 0]
    refine k_istore hC [(6, vI 0), (5, vI (i : Int)), (4, .ref (kad G 149)), (3, .ref (kad G 148)), (2, .ref (kad G 133)), (1, .ref (kad G 0)), (0, .ref b)] dL_law_1672 (by decide) rfl ?_
    refine k_aload_n hC dL_law_1674 rfl 4 rfl ?_
    refine k_aload_n hC dL_law_1675 rfl 6 rfl ?_
    refine k_iload hC dL_law_1676 1 rfl ?_
    refine k_iconst hC dL_law_1678 ?_
    refine k_iadd hC dL_law_1679 ?_
    refine k_scr hC hX hbl hbA hL (i + 1) (by omega) (by omega) dL_law_1680 ?_
    have h_1 : w1 133 = mdO G u := (hf2 133 (by decide)).trans ((hfP 133 (by decide)).trans b0)
    have h_2 : w1 134 = lA G 93 gr := (hf2 134 (by decide)).trans ((hfP 134 (by decide)).trans b1)
    refine k_callV hC (c_X12_meanResidual l hls G hN w1 fl u gr (xI xs (i + 1)) (xI_r xs _) hIr h_1 h_2 hSc1) yy_X12_meanResidual wm_L_184 (kl hN (by decide)) h_1 rfl rfl rfl rfl (Nat.le_of_ble_eq_true rfl) (by omega) (by omega) ⟨by omega, by omega⟩ dL_law_1681 (fun v3 w3 fl3 hp3 => ?_)
    obtain ⟨b3, th3, hv3, hfl3, hR3, hP3⟩ := hp3
    subst hv3
    subst hfl3
    obtain ⟨⟨fe, fn, hm3⟩, hS3, hf3⟩ := hP3
    rcases hR3 with ⟨q1, q2, q3⟩ | ⟨q1, q2⟩
    · subst q2
      have q4 : b3 = (mrV gc (xI xs (i + 1))) := q3.trans (gE_mrV hE hI _).symm
      subst q4
      show KW p l e R s m args below meth c 10 G Q w3 fl (cs + 8) (ss + 48) 1684 [(6, vI 0), (5, vI (i : Int)), (4, .ref (kad G 149)), (3, .ref (kad G 148)), (2, .ref (kad G 133)), (1, .ref (kad G 0)), (0, .ref b)] [.double (mrV gc (xI xs (i + 1)))]
      refine k_dstore hC [(7, .double (mrV gc (xI xs (i + 1)))), (6, vI 0), (5, vI (i : Int)), (4, .ref (kad G 149)), (3, .ref (kad G 148)), (2, .ref (kad G 133)), (1, .ref (kad G 0)), (0, .ref b)] dL_law_1684 (by decide) rfl ?_
      refine k_aload_n hC dL_law_1686 rfl 5 rfl ?_
      refine k_pureV hC (c_X12_thrown l hls G hN w3 fl (kup (kup (kup u 5 0) 12 fe) 13 fn) hm3) yy_X12_thrown wm_L_113 (kl hN (by decide)) hm3 rfl rfl rfl rfl (Nat.le_of_ble_eq_true rfl) (by omega) (by omega) ⟨by omega, by omega⟩ dL_law_1687 ?_
      refine k_topv (vI 0) rfl ?_
      refine k_iload hC dL_law_1690 1 rfl ?_
      refine k_icmp_eq hC 1697 dL_law_1692 rfl (by omega) (by omega) (fun c_1692 => ?_) (fun c_1692 => absurd c_1692 (by omega))
      refine k_iload hC dL_law_1697 1 rfl ?_
      refine k_if_ne hC 1734 dL_law_1699 rfl (by omega) (fun c_1699 => absurd c_1699 (by omega)) (fun c_1699 => ?_)
      refine k_aload hC dL_law_1702 3 rfl ?_
      refine k_iconst hC dL_law_1704 ?_
      have h_3 : w3 149 = dA G 1 gD := (hf3 149 (by decide)).trans h149
      refine k_dald1 hC (kl hN (by decide)) h_3 dL_law_1705 ?_
      refine k_topv (.double (mrV gc (xI xs (i + 1)))) (by rw [hgD]) ?_
      refine k_dload hC dL_law_1706 0 rfl ?_
      refine k_dcmp hC dL_law_1708 ?_
      refine k_if_eq hC 1734 dL_law_1709 rfl (dcI_r _) (fun c_1709 => ?_) (fun c_1709 => ?_)
      · refine k_goto hC 2319 dL_law_1734 rfl ?_
        refine k_lvs (ls := [2, 3, 4, 5, 6, 7]) [(5, vI (i : Int)), (4, .ref (kad G 149)), (3, .ref (kad G 148)), (2, .ref (kad G 133)), (1, .ref (kad G 0)), (0, .ref b)] rfl ?_
        have h_4 : w3 148 = lA G 1 out := (hf3 148 (by decide)).trans ((hf2 148 (by decide)).trans ((hfP 148 (by decide)).trans o1))
        exact kk w3 fl _ _ (LI.rd hc hm hr hw hT (hCh1.fr (fun j q1 q2 => hf3 j (by omega))) hS3 hm3 ⟨rfl, rfl, rfl, rfl, rfl⟩ ⟨⟨_, h_4⟩, ⟨_, h_3⟩⟩ (fun j hj => (hf3 j (by omega)).trans ((hf2 j (by omega)).trans (hfP j (by omega))))) (by omega) (by omega)
      · refine k_aload hC dL_law_1712 3 rfl ?_
        refine k_iconst hC dL_law_1714 ?_
        refine k_dald1 hC (kl hN (by decide)) h_3 dL_law_1715 ?_
        refine k_topv (.double (mrV gc (xI xs (i + 1)))) (by rw [hgD]) ?_
        refine k_aload hC dL_law_1716 3 rfl ?_
        refine k_iconst hC dL_law_1718 ?_
        refine k_dald1 hC (kl hN (by decide)) h_3 dL_law_1719 ?_
        refine k_topv (.double (mrV gc (xI xs (i + 1)))) (by rw [hgD]) ?_
        refine k_dcmp hC dL_law_1720 ?_
        refine k_if_eq hC 1732 dL_law_1721 rfl (dcI_r _) (fun c_1721 => absurd c_1721 c_1709) (fun c_1721 => ?_)
        refine k_dload hC dL_law_1724 0 rfl ?_
        refine k_dload hC dL_law_1726 0 rfl ?_
        refine k_dcmp hC dL_law_1728 ?_
        refine k_if_ne hC 1734 dL_law_1729 rfl (dcI_r _) (fun c_1729 => ?_) (fun c_1729 => absurd c_1729 c_1709)
        refine k_goto hC 2319 dL_law_1734 rfl ?_
        refine k_lvs (ls := [2, 3, 4, 5, 6, 7]) [(5, vI (i : Int)), (4, .ref (kad G 149)), (3, .ref (kad G 148)), (2, .ref (kad G 133)), (1, .ref (kad G 0)), (0, .ref b)] rfl ?_
        have h_5 : w3 148 = lA G 1 out := (hf3 148 (by decide)).trans ((hf2 148 (by decide)).trans ((hfP 148 (by decide)).trans o1))
        exact kk w3 fl _ _ (LI.rd hc hm hr hw hT (hCh1.fr (fun j q1 q2 => hf3 j (by omega))) hS3 hm3 ⟨rfl, rfl, rfl, rfl, rfl⟩ ⟨⟨_, h_5⟩, ⟨_, h_3⟩⟩ (fun j hj => (hf3 j (by omega)).trans ((hf2 j (by omega)).trans (hfP j (by omega))))) (by omega) (by omega)
    · exfalso; omega
  · exact hcc.elim
  · subst hv
    obtain ⟨hfl, hP⟩ := hP
    subst hfl
    obtain ⟨hCh, hfP⟩ := hP
    have hCh1 := hCh
    have hSc1 : kScr G w1 := b5.fr (fun j q1 q2 => hfP j (by omega))
    show KW p l e R s m args below meth c 10 G Q w1 fl (cs + 8) (ss + 48) 1672 [(5, vI (i : Int)), (4, .ref (kad G 149)), (3, .ref (kad G 148)), (2, .ref (kad G 133)), (1, .ref (kad G 0)), (0, .ref b)] [vI 1]
    refine k_istore hC [(6, vI 1), (5, vI (i : Int)), (4, .ref (kad G 149)), (3, .ref (kad G 148)), (2, .ref (kad G 133)), (1, .ref (kad G 0)), (0, .ref b)] dL_law_1672 (by decide) rfl ?_
    refine k_aload_n hC dL_law_1674 rfl 4 rfl ?_
    refine k_aload_n hC dL_law_1675 rfl 6 rfl ?_
    refine k_iload hC dL_law_1676 1 rfl ?_
    refine k_iconst hC dL_law_1678 ?_
    refine k_iadd hC dL_law_1679 ?_
    refine k_scr hC hX hbl hbA hL (i + 1) (by omega) (by omega) dL_law_1680 ?_
    have h_6 : w1 133 = mdO G u := (hfP 133 (by decide)).trans b0
    have h_7 : w1 134 = lA G 93 gr := (hfP 134 (by decide)).trans b1
    refine k_callV hC (c_X12_meanResidual l hls G hN w1 fl u gr (xI xs (i + 1)) (xI_r xs _) hIr h_6 h_7 hSc1) yy_X12_meanResidual wm_L_184 (kl hN (by decide)) h_6 rfl rfl rfl rfl (Nat.le_of_ble_eq_true rfl) (by omega) (by omega) ⟨by omega, by omega⟩ dL_law_1681 (fun v3 w3 fl3 hp3 => ?_)
    obtain ⟨b3, th3, hv3, hfl3, hR3, hP3⟩ := hp3
    subst hv3
    subst hfl3
    obtain ⟨⟨fe, fn, hm3⟩, hS3, hf3⟩ := hP3
    rcases hR3 with ⟨q1, q2, q3⟩ | ⟨q1, q2⟩
    · exfalso; omega
    · subst q2
      show KW p l e R s m args below meth c 10 G Q w3 fl (cs + 8) (ss + 48) 1684 [(6, vI 1), (5, vI (i : Int)), (4, .ref (kad G 149)), (3, .ref (kad G 148)), (2, .ref (kad G 133)), (1, .ref (kad G 0)), (0, .ref b)] [.double b3]
      refine k_dstore hC [(7, .double b3), (6, vI 1), (5, vI (i : Int)), (4, .ref (kad G 149)), (3, .ref (kad G 148)), (2, .ref (kad G 133)), (1, .ref (kad G 0)), (0, .ref b)] dL_law_1684 (by decide) rfl ?_
      refine k_aload_n hC dL_law_1686 rfl 5 rfl ?_
      refine k_pureV hC (c_X12_thrown l hls G hN w3 fl (kup (kup (kup u 5 1) 12 fe) 13 fn) hm3) yy_X12_thrown wm_L_113 (kl hN (by decide)) hm3 rfl rfl rfl rfl (Nat.le_of_ble_eq_true rfl) (by omega) (by omega) ⟨by omega, by omega⟩ dL_law_1687 ?_
      refine k_topv (vI 1) rfl ?_
      refine k_iload hC dL_law_1690 1 rfl ?_
      refine k_icmp_eq hC 1697 dL_law_1692 rfl (by omega) (by omega) (fun c_1692 => ?_) (fun c_1692 => absurd c_1692 (by omega))
      refine k_iload hC dL_law_1697 1 rfl ?_
      refine k_if_ne hC 1734 dL_law_1699 rfl (by omega) (fun c_1699 => ?_) (fun c_1699 => absurd c_1699 (by omega))
      refine k_goto hC 2319 dL_law_1734 rfl ?_
      refine k_lvs (ls := [2, 3, 4, 5, 6, 7]) [(5, vI (i : Int)), (4, .ref (kad G 149)), (3, .ref (kad G 148)), (2, .ref (kad G 133)), (1, .ref (kad G 0)), (0, .ref b)] rfl ?_
      have h_8 : w3 148 = lA G 1 out := (hf3 148 (by decide)).trans ((hfP 148 (by decide)).trans o1)
      have h_9 : w3 149 = dA G 1 oD := (hf3 149 (by decide)).trans ((hfP 149 (by decide)).trans o2)
      exact kk w3 fl _ _ (LI.rd hc hm hr hw hT (hCh1.fr (fun j q1 q2 => hf3 j (by omega))) hS3 hm3 ⟨rfl, rfl, rfl, rfl, rfl⟩ ⟨⟨_, h_8⟩, ⟨_, h_9⟩⟩ (fun j hj => (hf3 j (by omega)).trans (hfP j (by omega)))) (by omega) (by omega)

set_option maxRecDepth 100000 in
set_option maxHeartbeats 4000000 in
theorem lw_sine {p : Program} {l : Launch} {e : Env} {R : Room} {s : State} {m : MethodId} {args : Array Value} {below : List Frame} {meth : Method} {c : Code} {G : kG} {d0 mc0 ms0 : Nat} {Q : State → Prop} {b L : Nat} {xs : Nat → Int32} (hC : kC p l R s m args meth c cL_law RL 10 G d0 mc0 ms0) (hls : l.stackTraces = false) (hN : kN G = 150) (hNc : va_Nc "java/lang/IllegalArgumentException" "java/util/NoSuchElementException" s) (hX : va_X b L xs s s.heap) (hbl : b < s.heap.size) (hbA : ¬ kA G b) (hL : L ≤ 3584) (hd0 : 60 ≤ d0) {cs ss : Nat} (hcs : cs + 16 ≤ mc0 ∧ ss + 400 ≤ ms0) (i : Nat) (hi : i + 7 ≤ L) (w : Nat → va_E) (fl : va_W) (hLI : LI G w fl)
    (kk : ∀ (w' : Nat → va_E) (fl' : va_W) (cs' ss' : Nat), LI G w' fl' → cs' ≤ cs + 16 → ss' ≤ ss + 400 → KW p l e R s m args below meth c 10 G Q w' fl' cs' ss' 2319 [(5, vI (i : Int)), (4, .ref (kad G 149)), (3, .ref (kad G 148)), (2, .ref (kad G 133)), (1, .ref (kad G 0)), (0, .ref b)] []) : KW p l e R s m args below meth c 10 G Q w fl cs ss 342 [(5, vI (i : Int)), (4, .ref (kad G 149)), (3, .ref (kad G 148)), (2, .ref (kad G 133)), (1, .ref (kad G 0)), (0, .ref b)] [] := by
  obtain ⟨bt, gc, nl, gp0, nl9, gl0, gs, c0, nx, cn, cap, cd, ea, kd, nm, sa, nx9, en, sv, hs, T, u, gr, D0, sp, H, hc, hm, ho, hr, hw, hT⟩ := hLI
  have hc1 := hc
  have hm1 := hm
  have hr1 := hr
  have ho1 := ho
  obtain ⟨⟨a0, asv⟩, a1, ⟨a2, abt, ac7⟩, a3, a4, a5, a6, ⟨a7, anx, acn⟩, ⟨a8, a9, a10⟩, ⟨a11, a12, a13⟩, a14⟩ := hc1
  obtain ⟨b0, b1, b2, b3, b4, b5, b6, b7, ⟨cf, b8⟩, ⟨fq, b9⟩⟩ := hm1
  obtain ⟨⟨out, o1⟩, ⟨oD, o2⟩⟩ := ho1
  obtain ⟨r0, r1, r2, r3, r4, r5, r6⟩ := hr1
  have hI := r0.inv
  have hIr := r0.2.1
  have hE := r0.1
  have e0 := hE.n 0 (by decide)
  have e1 := hE.n 1 (by decide)
  have e2 := hE.n 2 (by decide)
  have hgc := hI.c
  refine k_aload_n hC dL_law_342 rfl 4 rfl ?_
  refine k_aload_n hC dL_law_343 rfl 5 rfl ?_
  refine k_iload hC dL_law_344 0 rfl ?_
  refine k_iconst hC dL_law_346 ?_
  refine k_iadd hC dL_law_347 ?_
  refine k_scr hC hX hbl hbA hL (i + 1) (by omega) (by omega) dL_law_348 ?_
  refine k_callV hC (c_X11_sine l hls G hN w fl gc nl sv (xI xs (i + 1)) (xI_r xs _) hI a0 a3 a4 a5) yy_X11_sine wm_L_121 (kl hN (by decide)) a0 rfl rfl rfl rfl (Nat.le_of_ble_eq_true rfl) (by omega) (by omega) ⟨by omega, by omega⟩ dL_law_349 (fun v1 w1 fl1 hp => ?_)
  obtain ⟨-, hv, hfl, hCh1, hfP⟩ := hp
  subst hv
  subst hfl
  have hSc1 : kScr G w1 := b5.fr (fun j q1 q2 => hfP j (by omega))
  show KW p l e R s m args below meth c 10 G Q w1 fl (cs) (ss) 352 [(5, vI (i : Int)), (4, .ref (kad G 149)), (3, .ref (kad G 148)), (2, .ref (kad G 133)), (1, .ref (kad G 0)), (0, .ref b)] [vI (sinM (xI xs (i + 1)))]
  refine k_topv (vI (i32 (sinM (xI xs (i + 1))))) (vI_32 _) ?_
  refine k_aload_n hC dL_law_352 rfl 3 rfl ?_
  refine k_aload_n hC dL_law_353 rfl 5 rfl ?_
  refine k_iload hC dL_law_354 0 rfl ?_
  refine k_iconst hC dL_law_356 ?_
  refine k_iadd hC dL_law_357 ?_
  refine k_scr hC hX hbl hbA hL (i + 1) (by omega) (by omega) dL_law_358 ?_
  have h_1 : w1 133 = mdO G u := (hfP 133 (by decide)).trans b0
  have h_2 : w1 134 = lA G 93 gr := (hfP 134 (by decide)).trans b1
  refine k_callV hC (c_X12_sine l hls G hN w1 fl u gr (xI xs (i + 1)) (xI_r xs _) hIr h_1 h_2 hSc1) yy_X12_sine wm_L_124 (kl hN (by decide)) h_1 rfl rfl rfl rfl (Nat.le_of_ble_eq_true rfl) (by omega) (by omega) ⟨by omega, by omega⟩ dL_law_359 (fun v3 w3 fl3 hp3 => ?_)
  obtain ⟨b3, th3, hv3, hfl3, hR3, hP3⟩ := hp3
  subst hv3
  subst hfl3
  obtain ⟨⟨fe, fn, hm3⟩, hS3, hf3⟩ := hP3
  have q3 : b3 = sinM (xI xs (i + 1)) := by rcases hR3 with ⟨-, -, z⟩ | ⟨z, -⟩ | ⟨z, -⟩; exact z; exact z.elim; exact z.elim
  show KW p l e R s m args below meth c 10 G Q w3 fl (cs) (ss) 362 [(5, vI (i : Int)), (4, .ref (kad G 149)), (3, .ref (kad G 148)), (2, .ref (kad G 133)), (1, .ref (kad G 0)), (0, .ref b)] [vI b3, vI (i32 (sinM (xI xs (i + 1))))]
  refine k_topv (vI (i32 b3)) (vI_32 _) ?_
  refine k_icmp_eq hC 2319 dL_law_362 rfl (i32_r _) (i32_r _) (fun c_362 => ?_) (fun c_362 => absurd (congrArg i32 (q3.symm)) c_362)
  have h_3 : w3 148 = lA G 1 out := (hf3 148 (by decide)).trans ((hfP 148 (by decide)).trans o1)
  have h_4 : w3 149 = dA G 1 oD := (hf3 149 (by decide)).trans ((hfP 149 (by decide)).trans o2)
  exact kk w3 fl _ _ (LI.rd hc hm hr hw hT (hCh1.fr (fun j q1 q2 => hf3 j (by omega))) hS3 hm3 ⟨rfl, rfl, rfl, rfl, rfl⟩ ⟨⟨_, h_3⟩, ⟨_, h_4⟩⟩ (fun j hj => (hf3 j (by omega)).trans (hfP j (by omega)))) (by omega) (by omega)

theorem miV_n (g : Nat → Int) (hI : Inv g) : vf_n32 (miV g) := by
  unfold miV
  split
  · exact (show (0 : UInt32) &&& 0x7fffffff ≤ 0x7f800000 from by decide)
  · exact fdiv_n _ (by have := hI.c; omega)
theorem f2d_ok {x : UInt32} (h : vf_n32 x) : vf_n64 (FP.f2d x) := f2d_n (by
  unfold vf_n32 at h
  rw [UInt32.le_iff_toNat_le, UInt32.toNat_and] at h
  have h2 : x.toNat &&& (2 ^ 31 - 1) ≤ 0x7f800000 := h
  rwa [Nat.and_two_pow_sub_one_eq_mod] at h2)
set_option maxRecDepth 100000 in
set_option maxHeartbeats 4000000 in
theorem lw_meanIntercept {p : Program} {l : Launch} {e : Env} {R : Room} {s : State} {m : MethodId} {args : Array Value} {below : List Frame} {meth : Method} {c : Code} {G : kG} {d0 mc0 ms0 : Nat} {Q : State → Prop} {b L : Nat} {xs : Nat → Int32} (hC : kC p l R s m args meth c cL_law RL 10 G d0 mc0 ms0) (hls : l.stackTraces = false) (hN : kN G = 150) (hNc : va_Nc "java/lang/IllegalArgumentException" "java/util/NoSuchElementException" s) (hX : va_X b L xs s s.heap) (hbl : b < s.heap.size) (hbA : ¬ kA G b) (hL : L ≤ 3584) (hd0 : 60 ≤ d0) {cs ss : Nat} (hcs : cs + 16 ≤ mc0 ∧ ss + 400 ≤ ms0) (i : Nat) (hi : i + 7 ≤ L) (w : Nat → va_E) (fl : va_W) (hLI : LI G w fl)
    (kk : ∀ (w' : Nat → va_E) (fl' : va_W) (cs' ss' : Nat), LI G w' fl' → cs' ≤ cs + 16 → ss' ≤ ss + 400 → KW p l e R s m args below meth c 10 G Q w' fl' cs' ss' 2319 [(5, vI (i : Int)), (4, .ref (kad G 149)), (3, .ref (kad G 148)), (2, .ref (kad G 133)), (1, .ref (kad G 0)), (0, .ref b)] []) : KW p l e R s m args below meth c 10 G Q w fl cs ss 1737 [(5, vI (i : Int)), (4, .ref (kad G 149)), (3, .ref (kad G 148)), (2, .ref (kad G 133)), (1, .ref (kad G 0)), (0, .ref b)] [] := by
  obtain ⟨bt, gc, nl, gp0, nl9, gl0, gs, c0, nx, cn, cap, cd, ea, kd, nm, sa, nx9, en, sv, hs, T, u, gr, D0, sp, H, hc, hm, ho, hr, hw, hT⟩ := hLI
  have hc1 := hc
  have hm1 := hm
  have hr1 := hr
  have ho1 := ho
  obtain ⟨⟨a0, asv⟩, a1, ⟨a2, abt, ac7⟩, a3, a4, a5, a6, ⟨a7, anx, acn⟩, ⟨a8, a9, a10⟩, ⟨a11, a12, a13⟩, a14⟩ := hc1
  obtain ⟨b0, b1, b2, b3, b4, b5, b6, b7, ⟨cf, b8⟩, ⟨fq, b9⟩⟩ := hm1
  obtain ⟨⟨out, o1⟩, ⟨oD, o2⟩⟩ := ho1
  obtain ⟨r0, r1, r2, r3, r4, r5, r6⟩ := hr1
  have hI := r0.inv
  have hIr := r0.2.1
  have hE := r0.1
  have e0 := hE.n 0 (by decide)
  have e1 := hE.n 1 (by decide)
  have e2 := hE.n 2 (by decide)
  have hgc := hI.c
  refine k_aload_n hC dL_law_1737 rfl 4 rfl ?_
  refine k_callV hC (c_X11_meanIntercept l hls G hN w fl gc nl sv hI a0 a3 a4 a5) yy_X11_meanIntercept wm_L_185 (kl hN (by decide)) a0 rfl rfl rfl rfl (Nat.le_of_ble_eq_true rfl) (by omega) (by omega) ⟨by omega, by omega⟩ dL_law_1738 (fun v1 w1 fl1 hp => ?_)
  obtain ⟨-, hv, hfl, hCh1, hfP⟩ := hp
  subst hv
  subst hfl
  have hSc1 : kScr G w1 := b5.fr (fun j q1 q2 => hfP j (by omega))
  show KW p l e R s m args below meth c 10 G Q w1 fl (cs) (ss) 1741 [(5, vI (i : Int)), (4, .ref (kad G 149)), (3, .ref (kad G 148)), (2, .ref (kad G 133)), (1, .ref (kad G 0)), (0, .ref b)] [.float (miV gc)]
  refine k_f2d hC dL_law_1741 (f2d_ok (miV_n gc hI)) ?_
  refine k_dstore hC [(6, .double (FP.f2d (miV gc))), (5, vI (i : Int)), (4, .ref (kad G 149)), (3, .ref (kad G 148)), (2, .ref (kad G 133)), (1, .ref (kad G 0)), (0, .ref b)] dL_law_1742 (by decide) rfl ?_
  refine k_aload_n hC dL_law_1744 rfl 4 rfl ?_
  have h_1 : w1 133 = mdO G u := (hfP 133 (by decide)).trans b0
  have h_2 : w1 134 = lA G 93 gr := (hfP 134 (by decide)).trans b1
  refine k_callV hC (c_X12_meanIntercept l hls G hN w1 fl u gr hIr h_1 h_2 hSc1) yy_X12_meanIntercept wm_L_189 (kl hN (by decide)) h_1 rfl rfl rfl rfl (Nat.le_of_ble_eq_true rfl) (by omega) (by omega) ⟨by omega, by omega⟩ dL_law_1745 (fun v3 w3 fl3 hp3 => ?_)
  obtain ⟨b3, th3, hv3, hfl3, hR3, hP3⟩ := hp3
  subst hv3
  subst hfl3
  obtain ⟨⟨fe, fn, hm3⟩, hS3, hf3⟩ := hP3
  have q4 : b3 = miV gc := by rcases hR3 with ⟨-, -, z⟩ | ⟨z, -⟩; exact z.trans (gE_miV hE hI).symm; exact z.elim
  subst q4
  show KW p l e R s m args below meth c 10 G Q w3 fl (cs) (ss) 1748 [(6, .double (FP.f2d (miV gc))), (5, vI (i : Int)), (4, .ref (kad G 149)), (3, .ref (kad G 148)), (2, .ref (kad G 133)), (1, .ref (kad G 0)), (0, .ref b)] [.float (miV gc)]
  refine k_f2d hC dL_law_1748 (f2d_ok (miV_n gc hI)) ?_
  refine k_dstore hC [(8, .double (FP.f2d (miV gc))), (6, .double (FP.f2d (miV gc))), (5, vI (i : Int)), (4, .ref (kad G 149)), (3, .ref (kad G 148)), (2, .ref (kad G 133)), (1, .ref (kad G 0)), (0, .ref b)] dL_law_1749 (by decide) rfl ?_
  refine k_dload hC dL_law_1751 1 rfl ?_
  refine k_dload hC dL_law_1753 0 rfl ?_
  refine k_dcmp hC dL_law_1755 ?_
  refine k_if_eq hC 1777 dL_law_1756 rfl (dcI_r _) (fun c_1756 => ?_) (fun c_1756 => ?_)
  · refine k_goto hC 2319 dL_law_1777 rfl ?_
    refine k_lvs (ls := [2, 3, 4, 5, 6, 7]) [(5, vI (i : Int)), (4, .ref (kad G 149)), (3, .ref (kad G 148)), (2, .ref (kad G 133)), (1, .ref (kad G 0)), (0, .ref b)] rfl ?_
    have h_3 : w3 148 = lA G 1 out := (hf3 148 (by decide)).trans ((hfP 148 (by decide)).trans o1)
    have h_4 : w3 149 = dA G 1 oD := (hf3 149 (by decide)).trans ((hfP 149 (by decide)).trans o2)
    exact kk w3 fl _ _ (LI.rd hc hm hr hw hT (hCh1.fr (fun j q1 q2 => hf3 j (by omega))) hS3 hm3 ⟨rfl, rfl, rfl, rfl, rfl⟩ ⟨⟨_, h_3⟩, ⟨_, h_4⟩⟩ (fun j hj => (hf3 j (by omega)).trans (hfP j (by omega)))) (by omega) (by omega)
  · refine k_dload hC dL_law_1759 1 rfl ?_
    refine k_dload hC dL_law_1761 1 rfl ?_
    refine k_dcmp hC dL_law_1763 ?_
    refine k_if_eq hC 1775 dL_law_1764 rfl (dcI_r _) (fun c_1764 => absurd c_1764 c_1756) (fun c_1764 => ?_)
    refine k_dload hC dL_law_1767 0 rfl ?_
    refine k_dload hC dL_law_1769 0 rfl ?_
    refine k_dcmp hC dL_law_1771 ?_
    refine k_if_ne hC 1777 dL_law_1772 rfl (dcI_r _) (fun c_1772 => ?_) (fun c_1772 => absurd c_1772 c_1756)
    refine k_goto hC 2319 dL_law_1777 rfl ?_
    refine k_lvs (ls := [2, 3, 4, 5, 6, 7]) [(5, vI (i : Int)), (4, .ref (kad G 149)), (3, .ref (kad G 148)), (2, .ref (kad G 133)), (1, .ref (kad G 0)), (0, .ref b)] rfl ?_
    have h_5 : w3 148 = lA G 1 out := (hf3 148 (by decide)).trans ((hfP 148 (by decide)).trans o1)
    have h_6 : w3 149 = dA G 1 oD := (hf3 149 (by decide)).trans ((hfP 149 (by decide)).trans o2)
    exact kk w3 fl _ _ (LI.rd hc hm hr hw hT (hCh1.fr (fun j q1 q2 => hf3 j (by omega))) hS3 hm3 ⟨rfl, rfl, rfl, rfl, rfl⟩ ⟨⟨_, h_5⟩, ⟨_, h_6⟩⟩ (fun j hj => (hf3 j (by omega)).trans (hfP j (by omega)))) (by omega) (by omega)

set_option maxRecDepth 100000 in
set_option maxHeartbeats 4000000 in
theorem lw_errorPosition {p : Program} {l : Launch} {e : Env} {R : Room} {s : State} {m : MethodId} {args : Array Value} {below : List Frame} {meth : Method} {c : Code} {G : kG} {d0 mc0 ms0 : Nat} {Q : State → Prop} {b L : Nat} {xs : Nat → Int32} (hC : kC p l R s m args meth c cL_law RL 10 G d0 mc0 ms0) (hls : l.stackTraces = false) (hN : kN G = 150) (hNc : va_Nc "java/lang/IllegalArgumentException" "java/util/NoSuchElementException" s) (hX : va_X b L xs s s.heap) (hbl : b < s.heap.size) (hbA : ¬ kA G b) (hL : L ≤ 3584) (hd0 : 60 ≤ d0) {cs ss : Nat} (hcs : cs + 16 ≤ mc0 ∧ ss + 400 ≤ ms0) (i : Nat) (hi : i + 7 ≤ L) (w : Nat → va_E) (fl : va_W) (hLI : LI G w fl)
    (kk : ∀ (w' : Nat → va_E) (fl' : va_W) (cs' ss' : Nat), LI G w' fl' → cs' ≤ cs + 16 → ss' ≤ ss + 400 → KW p l e R s m args below meth c 10 G Q w' fl' cs' ss' 2319 [(5, vI (i : Int)), (4, .ref (kad G 149)), (3, .ref (kad G 148)), (2, .ref (kad G 133)), (1, .ref (kad G 0)), (0, .ref b)] []) : KW p l e R s m args below meth c 10 G Q w fl cs ss 329 [(5, vI (i : Int)), (4, .ref (kad G 149)), (3, .ref (kad G 148)), (2, .ref (kad G 133)), (1, .ref (kad G 0)), (0, .ref b)] [] := by
  obtain ⟨bt, gc, nl, gp0, nl9, gl0, gs, c0, nx, cn, cap, cd, ea, kd, nm, sa, nx9, en, sv, hs, T, u, gr, D0, sp, H, hc, hm, ho, hr, hw, hT⟩ := hLI
  have hc1 := hc
  have hm1 := hm
  have hr1 := hr
  have ho1 := ho
  obtain ⟨⟨a0, asv⟩, a1, ⟨a2, abt, ac7⟩, a3, a4, a5, a6, ⟨a7, anx, acn⟩, ⟨a8, a9, a10⟩, ⟨a11, a12, a13⟩, a14⟩ := hc1
  obtain ⟨b0, b1, b2, b3, b4, b5, b6, b7, ⟨cf, b8⟩, ⟨fq, b9⟩⟩ := hm1
  obtain ⟨⟨out, o1⟩, ⟨oD, o2⟩⟩ := ho1
  obtain ⟨r0, r1, r2, r3, r4, r5, r6⟩ := hr1
  have hI := r0.inv
  have hIr := r0.2.1
  have hE := r0.1
  have e0 := hE.n 0 (by decide)
  have e1 := hE.n 1 (by decide)
  have e2 := hE.n 2 (by decide)
  have hgc := hI.c
  refine k_aload_n hC dL_law_329 rfl 4 rfl ?_
  refine k_pureV hC (c_X11_errorPosition l hls G hN w fl bt c0 cd ea kd nm sa nx9 en sv a0 a2 a1) yy_X11_errorPosition wm_L_117 (kl hN (by decide)) a0 rfl rfl rfl rfl (Nat.le_of_ble_eq_true rfl) (by omega) (by omega) ⟨by omega, by omega⟩ dL_law_330 ?_
  show KW p l e R s m args below meth c 10 G Q w fl (cs) (ss) 333 [(5, vI (i : Int)), (4, .ref (kad G 149)), (3, .ref (kad G 148)), (2, .ref (kad G 133)), (1, .ref (kad G 0)), (0, .ref b)] [vI ea]
  refine k_topv (vI (i32 ea)) (vI_32 _) ?_
  refine k_aload_n hC dL_law_333 rfl 3 rfl ?_
  refine k_callV hC (c_X12_errorPosition l hls G hN w fl u b0) yy_X12_errorPosition wm_L_120 (kl hN (by decide)) b0 rfl rfl rfl rfl (Nat.le_of_ble_eq_true rfl) (by omega) (by omega) ⟨by omega, by omega⟩ dL_law_334 (fun v3 w3 fl3 hp3 => ?_)
  obtain ⟨hv3, hfl3, hm3, hf3⟩ := hp3
  subst hv3
  subst hfl3
  show KW p l e R s m args below meth c 10 G Q w3 fl (cs) (ss) 337 [(5, vI (i : Int)), (4, .ref (kad G 149)), (3, .ref (kad G 148)), (2, .ref (kad G 133)), (1, .ref (kad G 0)), (0, .ref b)] [vI (u 24), vI (i32 ea)]
  refine k_topv (vI (i32 (u 24))) (vI_32 _) ?_
  refine k_icmp_eq hC 2319 dL_law_337 rfl (i32_r _) (i32_r _) (fun c_337 => ?_) (fun c_337 => absurd (congrArg i32 (r5.symm)) c_337)
  have h_1 : w3 148 = lA G 1 out := (hf3 148 (by decide)).trans o1
  have h_2 : w3 149 = dA G 1 oD := (hf3 149 (by decide)).trans o2
  exact kk w3 fl _ _ (LI.rd hc hm hr hw hT (a5.fr (fun j q1 q2 => hf3 j (by omega))) (b5.fr (fun j q1 q2 => hf3 j (by omega))) hm3 ⟨rfl, rfl, rfl, rfl, rfl⟩ ⟨⟨_, h_1⟩, ⟨_, h_2⟩⟩ (fun j hj => hf3 j (by omega))) (by omega) (by omega)

set_option maxRecDepth 100000 in
set_option maxHeartbeats 4000000 in
theorem lw_undoCount {p : Program} {l : Launch} {e : Env} {R : Room} {s : State} {m : MethodId} {args : Array Value} {below : List Frame} {meth : Method} {c : Code} {G : kG} {d0 mc0 ms0 : Nat} {Q : State → Prop} {b L : Nat} {xs : Nat → Int32} (hC : kC p l R s m args meth c cL_law RL 10 G d0 mc0 ms0) (hls : l.stackTraces = false) (hN : kN G = 150) (hNc : va_Nc "java/lang/IllegalArgumentException" "java/util/NoSuchElementException" s) (hX : va_X b L xs s s.heap) (hbl : b < s.heap.size) (hbA : ¬ kA G b) (hL : L ≤ 3584) (hd0 : 60 ≤ d0) {cs ss : Nat} (hcs : cs + 16 ≤ mc0 ∧ ss + 400 ≤ ms0) (i : Nat) (hi : i + 7 ≤ L) (w : Nat → va_E) (fl : va_W) (hLI : LI G w fl)
    (kk : ∀ (w' : Nat → va_E) (fl' : va_W) (cs' ss' : Nat), LI G w' fl' → cs' ≤ cs + 16 → ss' ≤ ss + 400 → KW p l e R s m args below meth c 10 G Q w' fl' cs' ss' 2319 [(5, vI (i : Int)), (4, .ref (kad G 149)), (3, .ref (kad G 148)), (2, .ref (kad G 133)), (1, .ref (kad G 0)), (0, .ref b)] []) : KW p l e R s m args below meth c 10 G Q w fl cs ss 2213 [(5, vI (i : Int)), (4, .ref (kad G 149)), (3, .ref (kad G 148)), (2, .ref (kad G 133)), (1, .ref (kad G 0)), (0, .ref b)] [] := by
  obtain ⟨bt, gc, nl, gp0, nl9, gl0, gs, c0, nx, cn, cap, cd, ea, kd, nm, sa, nx9, en, sv, hs, T, u, gr, D0, sp, H, hc, hm, ho, hr, hw, hT⟩ := hLI
  have hc1 := hc
  have hm1 := hm
  have hr1 := hr
  have ho1 := ho
  obtain ⟨⟨a0, asv⟩, a1, ⟨a2, abt, ac7⟩, a3, a4, a5, a6, ⟨a7, anx, acn⟩, ⟨a8, a9, a10⟩, ⟨a11, a12, a13⟩, a14⟩ := hc1
  obtain ⟨b0, b1, b2, b3, b4, b5, b6, b7, ⟨cf, b8⟩, ⟨fq, b9⟩⟩ := hm1
  obtain ⟨⟨out, o1⟩, ⟨oD, o2⟩⟩ := ho1
  obtain ⟨r0, r1, r2, r3, r4, r5, r6⟩ := hr1
  have hI := r0.inv
  have hIr := r0.2.1
  have hE := r0.1
  have e0 := hE.n 0 (by decide)
  have e1 := hE.n 1 (by decide)
  have e2 := hE.n 2 (by decide)
  have hgc := hI.c
  refine k_aload_n hC dL_law_2213 rfl 4 rfl ?_
  refine k_callV hC (c_X11_undoCount l hls G hN w fl gc nl sv hs nx (cn : Int) anx (by omega) a7 hI a0 a3 a4 a5) yy_X11_undoCount wm_L_213 (kl hN (by decide)) a0 rfl rfl rfl rfl (Nat.le_of_ble_eq_true rfl) (by omega) (by omega) ⟨by omega, by omega⟩ dL_law_2214 (fun v1 w1 fl1 hp => ?_)
  obtain ⟨-, hv, hfl, hw1⟩ := hp
  subst hv
  subst hfl
  show KW p l e R s m args below meth c 10 G Q w1 fl (cs) (ss) 2217 [(5, vI (i : Int)), (4, .ref (kad G 149)), (3, .ref (kad G 148)), (2, .ref (kad G 133)), (1, .ref (kad G 0)), (0, .ref b)] [vI (cn : Int)]
  refine k_topv (vI (i32 (cn : Int))) (vI_32 _) ?_
  refine k_aload_n hC dL_law_2217 rfl 3 rfl ?_
  have h_1 : w1 133 = mdO G u := (congrFun hw1 133).trans b0
  refine k_callV hC (c_X12_undoCount l hls G hN w1 fl u h_1) yy_X12_undoCount wm_L_216 (kl hN (by decide)) h_1 rfl rfl rfl rfl (Nat.le_of_ble_eq_true rfl) (by omega) (by omega) ⟨by omega, by omega⟩ dL_law_2218 (fun v3 w3 fl3 hp3 => ?_)
  obtain ⟨hv3, hfl3, hm3, hf3⟩ := hp3
  subst hv3
  subst hfl3
  show KW p l e R s m args below meth c 10 G Q w3 fl (cs) (ss) 2221 [(5, vI (i : Int)), (4, .ref (kad G 149)), (3, .ref (kad G 148)), (2, .ref (kad G 133)), (1, .ref (kad G 0)), (0, .ref b)] [vI (u 4), vI (i32 (cn : Int))]
  refine k_topv (vI (i32 (u 4))) (vI_32 _) ?_
  refine k_icmp_eq hC 2319 dL_law_2221 rfl (i32_r _) (i32_r _) (fun c_2221 => ?_) (fun c_2221 => absurd (congrArg i32 (r3.symm)) c_2221)
  have h_2 : w3 148 = lA G 1 out := (hf3 148 (by decide)).trans ((congrFun hw1 148).trans o1)
  have h_3 : w3 149 = dA G 1 oD := (hf3 149 (by decide)).trans ((congrFun hw1 149).trans o2)
  exact kk w3 fl _ _ (LI.rd hc hm hr hw hT (a5.fr (fun j q1 q2 => (hf3 j (by omega)).trans (congrFun hw1 j))) (b5.fr (fun j q1 q2 => (hf3 j (by omega)).trans (congrFun hw1 j))) hm3 ⟨rfl, rfl, rfl, rfl, rfl⟩ ⟨⟨_, h_2⟩, ⟨_, h_3⟩⟩ (fun j hj => (hf3 j (by omega)).trans (congrFun hw1 j))) (by omega) (by omega)

set_option maxRecDepth 100000 in
set_option maxHeartbeats 4000000 in
theorem lw_formattedByte {p : Program} {l : Launch} {e : Env} {R : Room} {s : State} {m : MethodId} {args : Array Value} {below : List Frame} {meth : Method} {c : Code} {G : kG} {d0 mc0 ms0 : Nat} {Q : State → Prop} {b L : Nat} {xs : Nat → Int32} (hC : kC p l R s m args meth c cL_law RL 10 G d0 mc0 ms0) (hls : l.stackTraces = false) (hN : kN G = 150) (hNc : va_Nc "java/lang/IllegalArgumentException" "java/util/NoSuchElementException" s) (hX : va_X b L xs s s.heap) (hbl : b < s.heap.size) (hbA : ¬ kA G b) (hL : L ≤ 3584) (hd0 : 60 ≤ d0) {cs ss : Nat} (hcs : cs + 16 ≤ mc0 ∧ ss + 400 ≤ ms0) (i : Nat) (hi : i + 7 ≤ L) (w : Nat → va_E) (fl : va_W) (hLI : LI G w fl)
    (kk : ∀ (w' : Nat → va_E) (fl' : va_W) (cs' ss' : Nat), LI G w' fl' → cs' ≤ cs + 16 → ss' ≤ ss + 400 → KW p l e R s m args below meth c 10 G Q w' fl' cs' ss' 2319 [(5, vI (i : Int)), (4, .ref (kad G 149)), (3, .ref (kad G 148)), (2, .ref (kad G 133)), (1, .ref (kad G 0)), (0, .ref b)] []) : KW p l e R s m args below meth c 10 G Q w fl cs ss 2188 [(5, vI (i : Int)), (4, .ref (kad G 149)), (3, .ref (kad G 148)), (2, .ref (kad G 133)), (1, .ref (kad G 0)), (0, .ref b)] [] := by
  obtain ⟨bt, gc, nl, gp0, nl9, gl0, gs, c0, nx, cn, cap, cd, ea, kd, nm, sa, nx9, en, sv, hs, T, u, gr, D0, sp, H, hc, hm, ho, hr, hw, hT⟩ := hLI
  have hc1 := hc
  have hm1 := hm
  have hr1 := hr
  have ho1 := ho
  obtain ⟨⟨a0, asv⟩, a1, ⟨a2, abt, ac7⟩, a3, a4, a5, a6, ⟨a7, anx, acn⟩, ⟨a8, a9, a10⟩, ⟨a11, a12, a13⟩, a14⟩ := hc1
  obtain ⟨b0, b1, b2, b3, b4, b5, b6, b7, ⟨cf, b8⟩, ⟨fq, b9⟩⟩ := hm1
  obtain ⟨⟨out, o1⟩, ⟨oD, o2⟩⟩ := ho1
  obtain ⟨r0, r1, r2, r3, r4, r5, r6⟩ := hr1
  have hI := r0.inv
  have hIr := r0.2.1
  have hE := r0.1
  have e0 := hE.n 0 (by decide)
  have e1 := hE.n 1 (by decide)
  have e2 := hE.n 2 (by decide)
  have hgc := hI.c
  refine k_aload_n hC dL_law_2188 rfl 4 rfl ?_
  refine k_aload_n hC dL_law_2189 rfl 5 rfl ?_
  refine k_iload hC dL_law_2190 0 rfl ?_
  refine k_iconst hC dL_law_2192 ?_
  refine k_iadd hC dL_law_2193 ?_
  refine k_scr hC hX hbl hbA hL (i + 1) (by omega) (by omega) dL_law_2194 ?_
  refine k_pureV hC (c_X11_formattedByte l hls G hN w fl sv T cap (xI xs (i + 1)) (xI_r xs _) a0 hT a14) yy_X11_formattedByte wm_L_209 (kl hN (by decide)) a0 rfl rfl rfl rfl (Nat.le_of_ble_eq_true rfl) (by omega) (by omega) ⟨by omega, by omega⟩ dL_law_2195 ?_
  show KW p l e R s m args below meth c 10 G Q w fl (cs) (ss) 2198 [(5, vI (i : Int)), (4, .ref (kad G 149)), (3, .ref (kad G 148)), (2, .ref (kad G 133)), (1, .ref (kad G 0)), (0, .ref b)] [vI (if 0 ≤ (xI xs (i + 1)) ∧ (xI xs (i + 1)) < (T.length : Int) then T.getD (xI xs (i + 1)).toNat 0 else -1)]
  refine k_topv (vI (i32 (if 0 ≤ (xI xs (i + 1)) ∧ (xI xs (i + 1)) < (T.length : Int) then T.getD (xI xs (i + 1)).toNat 0 else -1))) (vI_32 _) ?_
  refine k_aload_n hC dL_law_2198 rfl 3 rfl ?_
  refine k_aload_n hC dL_law_2199 rfl 5 rfl ?_
  refine k_iload hC dL_law_2200 0 rfl ?_
  refine k_iconst hC dL_law_2202 ?_
  refine k_iadd hC dL_law_2203 ?_
  refine k_scr hC hX hbl hbA hL (i + 1) (by omega) (by omega) dL_law_2204 ?_
  refine k_callV hC (c_X12_formattedByte l hls G hN w fl u T (xI xs (i + 1)) (xI_r xs _) b0 hw) yy_X12_formattedByte wm_L_212 (kl hN (by decide)) b0 rfl rfl rfl rfl (Nat.le_of_ble_eq_true rfl) (by omega) (by omega) ⟨by omega, by omega⟩ dL_law_2205 (fun v3 w3 fl3 hp3 => ?_)
  obtain ⟨hv3, hfl3, hm3, hf3⟩ := hp3
  subst hv3
  subst hfl3
  show KW p l e R s m args below meth c 10 G Q w3 fl (cs) (ss) 2208 [(5, vI (i : Int)), (4, .ref (kad G 149)), (3, .ref (kad G 148)), (2, .ref (kad G 133)), (1, .ref (kad G 0)), (0, .ref b)] [vI (if 0 ≤ (xI xs (i + 1)) ∧ (xI xs (i + 1)) < (T.length : Int) then T.getD (xI xs (i + 1)).toNat 0 else -1), vI (i32 (if 0 ≤ (xI xs (i + 1)) ∧ (xI xs (i + 1)) < (T.length : Int) then T.getD (xI xs (i + 1)).toNat 0 else -1))]
  refine k_topv (vI (i32 (if 0 ≤ (xI xs (i + 1)) ∧ (xI xs (i + 1)) < (T.length : Int) then T.getD (xI xs (i + 1)).toNat 0 else -1))) (vI_32 _) ?_
  refine k_icmp_eq hC 2319 dL_law_2208 rfl (i32_r _) (i32_r _) (fun c_2208 => ?_) (fun c_2208 => absurd (congrArg i32 (rfl)) c_2208)
  have h_1 : w3 148 = lA G 1 out := (hf3 148 (by decide)).trans o1
  have h_2 : w3 149 = dA G 1 oD := (hf3 149 (by decide)).trans o2
  exact kk w3 fl _ _ (LI.rd hc hm hr hw hT (a5.fr (fun j q1 q2 => hf3 j (by omega))) (b5.fr (fun j q1 q2 => hf3 j (by omega))) hm3 ⟨rfl, rfl, rfl, rfl, rfl⟩ ⟨⟨_, h_1⟩, ⟨_, h_2⟩⟩ (fun j hj => hf3 j (by omega))) (by omega) (by omega)

set_option maxRecDepth 100000 in
set_option maxHeartbeats 4000000 in
theorem lw_feed {p : Program} {l : Launch} {e : Env} {R : Room} {s : State} {m : MethodId} {args : Array Value} {below : List Frame} {meth : Method} {c : Code} {G : kG} {d0 mc0 ms0 : Nat} {Q : State → Prop} {b L : Nat} {xs : Nat → Int32} (hC : kC p l R s m args meth c cL_law RL 10 G d0 mc0 ms0) (hls : l.stackTraces = false) (hN : kN G = 150) (hNc : va_Nc "java/lang/IllegalArgumentException" "java/util/NoSuchElementException" s) (hX : va_X b L xs s s.heap) (hbl : b < s.heap.size) (hbA : ¬ kA G b) (hL : L ≤ 3584) (hd0 : 60 ≤ d0) {cs ss : Nat} (hcs : cs + 16 ≤ mc0 ∧ ss + 400 ≤ ms0) (i : Nat) (hi : i + 7 ≤ L) (w : Nat → va_E) (fl : va_W) (hLI : LI G w fl)
    (kk : ∀ (w' : Nat → va_E) (fl' : va_W) (cs' ss' : Nat), LI G w' fl' → cs' ≤ cs + 16 → ss' ≤ ss + 400 → KW p l e R s m args below meth c 10 G Q w' fl' cs' ss' 2319 [(5, vI (i : Int)), (4, .ref (kad G 149)), (3, .ref (kad G 148)), (2, .ref (kad G 133)), (1, .ref (kad G 0)), (0, .ref b)] []) : KW p l e R s m args below meth c 10 G Q w fl cs ss 200 [(5, vI (i : Int)), (4, .ref (kad G 149)), (3, .ref (kad G 148)), (2, .ref (kad G 133)), (1, .ref (kad G 0)), (0, .ref b)] [] := by
  obtain ⟨bt, gc, nl, gp0, nl9, gl0, gs, c0, nx, cn, cap, cd, ea, kd, nm, sa, nx9, en, sv, hs, T, u, gr, D0, sp, H, hc, hm, ho, hr, hw, hT⟩ := hLI
  have hc1 := hc
  have hm1 := hm
  have hr1 := hr
  have ho1 := ho
  obtain ⟨⟨a0, asv⟩, a1, ⟨a2, abt, ac7⟩, a3, a4, a5, a6, ⟨a7, anx, acn⟩, ⟨a8, a9, a10⟩, ⟨a11, a12, a13⟩, a14⟩ := hc1
  obtain ⟨b0, b1, b2, b3, b4, b5, b6, b7, ⟨cf, b8⟩, ⟨fq, b9⟩⟩ := hm1
  obtain ⟨⟨out, o1⟩, ⟨oD, o2⟩⟩ := ho1
  obtain ⟨r0, r1, r2, r3, r4, r5, r6⟩ := hr1
  have hI := r0.inv
  have hIr := r0.2.1
  have hE := r0.1
  have e0 := hE.n 0 (by decide)
  have e1 := hE.n 1 (by decide)
  have e2 := hE.n 2 (by decide)
  have hgc := hI.c
  refine k_aload_n hC dL_law_200 rfl 4 rfl ?_
  refine k_aload_n hC dL_law_201 rfl 5 rfl ?_
  refine k_iload hC dL_law_202 0 rfl ?_
  refine k_iconst hC dL_law_204 ?_
  refine k_iadd hC dL_law_205 ?_
  refine k_scr hC hX hbl hbA hL (i + 1) (by omega) (by omega) dL_law_206 ?_
  refine k_aload_n hC dL_law_207 rfl 5 rfl ?_
  refine k_iload hC dL_law_208 0 rfl ?_
  refine k_iconst hC dL_law_210 ?_
  refine k_iadd hC dL_law_211 ?_
  refine k_scr hC hX hbl hbA hL (i + 2) (by omega) (by omega) dL_law_212 ?_
  refine k_aload_n hC dL_law_213 rfl 5 rfl ?_
  refine k_iload hC dL_law_214 0 rfl ?_
  refine k_iconst hC dL_law_216 ?_
  refine k_iadd hC dL_law_217 ?_
  refine k_scr hC hX hbl hbA hL (i + 3) (by omega) (by omega) dL_law_218 ?_
  refine k_aload_n hC dL_law_219 rfl 5 rfl ?_
  refine k_iload hC dL_law_220 0 rfl ?_
  refine k_iconst hC dL_law_222 ?_
  refine k_iadd hC dL_law_223 ?_
  refine k_scr hC hX hbl hbA hL (i + 4) (by omega) (by omega) dL_law_224 ?_
  refine k_aload_n hC dL_law_225 rfl 5 rfl ?_
  refine k_iload hC dL_law_226 0 rfl ?_
  refine k_iconst hC dL_law_228 ?_
  refine k_iadd hC dL_law_229 ?_
  refine k_scr hC hX hbl hbA hL (i + 5) (by omega) (by omega) dL_law_230 ?_
  refine k_callV hC (c_X11_feed l hls G hN w fl bt c0 cd ea kd nm sa nx9 en sv (xI xs (i + 1)) (xI xs (i + 2)) (xI xs (i + 3)) (xI xs (i + 4)) (xI xs (i + 5)) (xI_r xs _) (xI_r xs _) (xI_r xs _) (xI_r xs _) (xI_r xs _) ac7 a0 a2 a1) yy_X11_feed wm_L_103 (kl hN (by decide)) a0 rfl rfl rfl rfl (Nat.le_of_ble_eq_true rfl) (by omega) (by omega) ⟨by omega, by omega⟩ dL_law_231 (fun v1 w1 fl1 hp => ?_)
  obtain ⟨hv, hfl, hP⟩ := hp
  subst hv
  subst hfl
  rcases hP with ⟨h7, hw1⟩ | ⟨h7, k1, k2, hf1⟩
  · show KW p l e R s m args below meth c 10 G Q w1 fl (cs) (ss) 234 [(5, vI (i : Int)), (4, .ref (kad G 149)), (3, .ref (kad G 148)), (2, .ref (kad G 133)), (1, .ref (kad G 0)), (0, .ref b)] [vI (if 700 < (c0 : Int) + 20 then -1 else (c0 : Int) + 20)]
    refine k_topv (vI (i32 (if 700 < (c0 : Int) + 20 then -1 else (c0 : Int) + 20))) (vI_32 _) ?_
    refine k_aload_n hC dL_law_234 rfl 3 rfl ?_
    refine k_aload_n hC dL_law_235 rfl 5 rfl ?_
    refine k_iload hC dL_law_236 0 rfl ?_
    refine k_iconst hC dL_law_238 ?_
    refine k_iadd hC dL_law_239 ?_
    refine k_scr hC hX hbl hbA hL (i + 1) (by omega) (by omega) dL_law_240 ?_
    refine k_aload_n hC dL_law_241 rfl 5 rfl ?_
    refine k_iload hC dL_law_242 0 rfl ?_
    refine k_iconst hC dL_law_244 ?_
    refine k_iadd hC dL_law_245 ?_
    refine k_scr hC hX hbl hbA hL (i + 2) (by omega) (by omega) dL_law_246 ?_
    refine k_aload_n hC dL_law_247 rfl 5 rfl ?_
    refine k_iload hC dL_law_248 0 rfl ?_
    refine k_iconst hC dL_law_250 ?_
    refine k_iadd hC dL_law_251 ?_
    refine k_scr hC hX hbl hbA hL (i + 3) (by omega) (by omega) dL_law_252 ?_
    refine k_aload_n hC dL_law_253 rfl 5 rfl ?_
    refine k_iload hC dL_law_254 0 rfl ?_
    refine k_iconst hC dL_law_256 ?_
    refine k_iadd hC dL_law_257 ?_
    refine k_scr hC hX hbl hbA hL (i + 4) (by omega) (by omega) dL_law_258 ?_
    refine k_aload_n hC dL_law_259 rfl 5 rfl ?_
    refine k_iload hC dL_law_260 0 rfl ?_
    refine k_iconst hC dL_law_262 ?_
    refine k_iadd hC dL_law_263 ?_
    refine k_scr hC hX hbl hbA hL (i + 5) (by omega) (by omega) dL_law_264 ?_
    have h_1 : w1 133 = mdO G u := (congrFun hw1 133).trans b0
    have h_2 : w1 144 = iA G 700 bt := (congrFun hw1 144).trans b6
    refine k_callV hC (c_X12_feed l hls G hN w1 fl u bt c0 (xI xs (i + 1)) (xI xs (i + 2)) (xI xs (i + 3)) (xI xs (i + 4)) (xI xs (i + 5)) (xI_r xs _) (xI_r xs _) (xI_r xs _) (xI_r xs _) (xI_r xs _) ac7 r4 h_1 h_2) yy_X12_feed wm_L_106 (kl hN (by decide)) h_1 rfl rfl rfl rfl (Nat.le_of_ble_eq_true rfl) (by omega) (by omega) ⟨by omega, by omega⟩ dL_law_265 (fun v3 w3 fl3 hp3 => ?_)
    obtain ⟨hv3, hfl3, hP3⟩ := hp3
    subst hv3
    subst hfl3
    rcases hP3 with ⟨g7, hm3, hf3⟩ | ⟨g7, hm3, h144, hf3⟩
    · show KW p l e R s m args below meth c 10 G Q w3 fl (cs) (ss) 268 [(5, vI (i : Int)), (4, .ref (kad G 149)), (3, .ref (kad G 148)), (2, .ref (kad G 133)), (1, .ref (kad G 0)), (0, .ref b)] [vI (if 700 < (c0 : Int) + 20 then -1 else (c0 : Int) + 20), vI (i32 (if 700 < (c0 : Int) + 20 then -1 else (c0 : Int) + 20))]
      refine k_topv (vI (i32 (if 700 < (c0 : Int) + 20 then -1 else (c0 : Int) + 20))) (vI_32 _) ?_
      refine k_icmp_eq hC 2319 dL_law_268 rfl (i32_r _) (i32_r _) (fun c_268 => ?_) (fun c_268 => absurd (congrArg i32 (rfl)) c_268)
      have h_3 : w3 148 = lA G 1 out := (hf3 148 (by decide)).trans ((congrFun hw1 148).trans o1)
      have h_4 : w3 149 = dA G 1 oD := (hf3 149 (by decide)).trans ((congrFun hw1 149).trans o2)
      exact kk w3 fl _ _ (LI.rd hc hm hr hw hT (a5.fr (fun j q1 q2 => (hf3 j (by omega)).trans (congrFun hw1 j))) (b5.fr (fun j q1 q2 => (hf3 j (by omega)).trans (congrFun hw1 j))) hm3 ⟨rfl, rfl, rfl, rfl, rfl⟩ ⟨⟨_, h_3⟩, ⟨_, h_4⟩⟩ (fun j hj => (hf3 j (by omega)).trans (congrFun hw1 j))) (by omega) (by omega)
    · exfalso; omega
  · show KW p l e R s m args below meth c 10 G Q w1 fl (cs) (ss) 234 [(5, vI (i : Int)), (4, .ref (kad G 149)), (3, .ref (kad G 148)), (2, .ref (kad G 133)), (1, .ref (kad G 0)), (0, .ref b)] [vI (if 700 < (c0 : Int) + 20 then -1 else (c0 : Int) + 20)]
    refine k_topv (vI (i32 (if 700 < (c0 : Int) + 20 then -1 else (c0 : Int) + 20))) (vI_32 _) ?_
    refine k_aload_n hC dL_law_234 rfl 3 rfl ?_
    refine k_aload_n hC dL_law_235 rfl 5 rfl ?_
    refine k_iload hC dL_law_236 0 rfl ?_
    refine k_iconst hC dL_law_238 ?_
    refine k_iadd hC dL_law_239 ?_
    refine k_scr hC hX hbl hbA hL (i + 1) (by omega) (by omega) dL_law_240 ?_
    refine k_aload_n hC dL_law_241 rfl 5 rfl ?_
    refine k_iload hC dL_law_242 0 rfl ?_
    refine k_iconst hC dL_law_244 ?_
    refine k_iadd hC dL_law_245 ?_
    refine k_scr hC hX hbl hbA hL (i + 2) (by omega) (by omega) dL_law_246 ?_
    refine k_aload_n hC dL_law_247 rfl 5 rfl ?_
    refine k_iload hC dL_law_248 0 rfl ?_
    refine k_iconst hC dL_law_250 ?_
    refine k_iadd hC dL_law_251 ?_
    refine k_scr hC hX hbl hbA hL (i + 3) (by omega) (by omega) dL_law_252 ?_
    refine k_aload_n hC dL_law_253 rfl 5 rfl ?_
    refine k_iload hC dL_law_254 0 rfl ?_
    refine k_iconst hC dL_law_256 ?_
    refine k_iadd hC dL_law_257 ?_
    refine k_scr hC hX hbl hbA hL (i + 4) (by omega) (by omega) dL_law_258 ?_
    refine k_aload_n hC dL_law_259 rfl 5 rfl ?_
    refine k_iload hC dL_law_260 0 rfl ?_
    refine k_iconst hC dL_law_262 ?_
    refine k_iadd hC dL_law_263 ?_
    refine k_scr hC hX hbl hbA hL (i + 5) (by omega) (by omega) dL_law_264 ?_
    have h_5 : w1 133 = mdO G u := (hf1 133 (by decide)).trans b0
    have h_6 : w1 144 = iA G 700 bt := (hf1 144 (by decide)).trans b6
    refine k_callV hC (c_X12_feed l hls G hN w1 fl u bt c0 (xI xs (i + 1)) (xI xs (i + 2)) (xI xs (i + 3)) (xI xs (i + 4)) (xI xs (i + 5)) (xI_r xs _) (xI_r xs _) (xI_r xs _) (xI_r xs _) (xI_r xs _) ac7 r4 h_5 h_6) yy_X12_feed wm_L_106 (kl hN (by decide)) h_5 rfl rfl rfl rfl (Nat.le_of_ble_eq_true rfl) (by omega) (by omega) ⟨by omega, by omega⟩ dL_law_265 (fun v3 w3 fl3 hp3 => ?_)
    obtain ⟨hv3, hfl3, hP3⟩ := hp3
    subst hv3
    subst hfl3
    rcases hP3 with ⟨g7, hm3, hf3⟩ | ⟨g7, hm3, h144, hf3⟩
    · exfalso; omega
    · show KW p l e R s m args below meth c 10 G Q w3 fl (cs) (ss) 268 [(5, vI (i : Int)), (4, .ref (kad G 149)), (3, .ref (kad G 148)), (2, .ref (kad G 133)), (1, .ref (kad G 0)), (0, .ref b)] [vI (if 700 < (c0 : Int) + 20 then -1 else (c0 : Int) + 20), vI (i32 (if 700 < (c0 : Int) + 20 then -1 else (c0 : Int) + 20))]
      refine k_topv (vI (i32 (if 700 < (c0 : Int) + 20 then -1 else (c0 : Int) + 20))) (vI_32 _) ?_
      refine k_icmp_eq hC 2319 dL_law_268 rfl (i32_r _) (i32_r _) (fun c_268 => ?_) (fun c_268 => absurd (congrArg i32 (rfl)) c_268)
      have h_7 : w3 148 = lA G 1 out := (hf3 148 (by decide)).trans ((hf1 148 (by decide)).trans o1)
      have h_8 : w3 149 = dA G 1 oD := (hf3 149 (by decide)).trans ((hf1 149 (by decide)).trans o2)
      have h_9 : w3 1 = tkO G ((c0 + 20 : Nat) : Int) cd ea kd nm sa nx9 en := (hf3 1 (by decide)).trans k1
      have h_10 : w3 2 = byA G (bput5 bt c0 (xI xs (i + 1)) (xI xs (i + 2)) (xI xs (i + 3)) (xI xs (i + 4)) (xI xs (i + 5))) := (hf3 2 (by decide)).trans k2
      exact kk w3 fl _ _ (LI.feed hc hm hr hw hT ⟨⟨_, h_7⟩, ⟨_, h_8⟩⟩ h7 (bput5_ok abt c0 (xI xs (i + 1)) (xI xs (i + 2)) (xI xs (i + 3)) (xI xs (i + 4)) (xI xs (i + 5))) h_9 h_10 hm3 h144 (fun j hj => (hf3 j (by omega)).trans (hf1 j (by omega)))) (by omega) (by omega)

set_option maxRecDepth 100000 in
set_option maxHeartbeats 4000000 in
theorem lw_undo {p : Program} {l : Launch} {e : Env} {R : Room} {s : State} {m : MethodId} {args : Array Value} {below : List Frame} {meth : Method} {c : Code} {G : kG} {d0 mc0 ms0 : Nat} {Q : State → Prop} {b L : Nat} {xs : Nat → Int32} (hC : kC p l R s m args meth c cL_law RL 10 G d0 mc0 ms0) (hls : l.stackTraces = false) (hN : kN G = 150) (hNc : va_Nc "java/lang/IllegalArgumentException" "java/util/NoSuchElementException" s) (hX : va_X b L xs s s.heap) (hbl : b < s.heap.size) (hbA : ¬ kA G b) (hL : L ≤ 3584) (hd0 : 60 ≤ d0) {cs ss : Nat} (hcs : cs + 16 ≤ mc0 ∧ ss + 400 ≤ ms0) (i : Nat) (hi : i + 7 ≤ L) (w : Nat → va_E) (fl : va_W) (hLI : LI G w fl)
    (kk : ∀ (w' : Nat → va_E) (fl' : va_W) (cs' ss' : Nat), LI G w' fl' → cs' ≤ cs + 16 → ss' ≤ ss + 400 → KW p l e R s m args below meth c 10 G Q w' fl' cs' ss' 2319 [(5, vI (i : Int)), (4, .ref (kad G 149)), (3, .ref (kad G 148)), (2, .ref (kad G 133)), (1, .ref (kad G 0)), (0, .ref b)] []) : KW p l e R s m args below meth c 10 G Q w fl cs ss 2226 [(5, vI (i : Int)), (4, .ref (kad G 149)), (3, .ref (kad G 148)), (2, .ref (kad G 133)), (1, .ref (kad G 0)), (0, .ref b)] [] := by
  obtain ⟨bt, gc, nl, gp0, nl9, gl0, gs, c0, nx, cn, cap, cd, ea, kd, nm, sa, nx9, en, sv, hs, T, u, gr, D0, sp, H, hc, hm, ho, hr, hw, hT⟩ := hLI
  have hc1 := hc
  have hm1 := hm
  have hr1 := hr
  have ho1 := ho
  obtain ⟨⟨a0, asv⟩, a1, ⟨a2, abt, ac7⟩, a3, a4, a5, a6, ⟨a7, anx, acn⟩, ⟨a8, a9, a10⟩, ⟨a11, a12, a13⟩, a14⟩ := hc1
  obtain ⟨b0, b1, b2, b3, b4, b5, b6, b7, ⟨cf, b8⟩, ⟨fq, b9⟩⟩ := hm1
  obtain ⟨⟨out, o1⟩, ⟨oD, o2⟩⟩ := ho1
  obtain ⟨r0, r1, r2, r3, r4, r5, r6⟩ := hr1
  have hI := r0.inv
  have hIr := r0.2.1
  have hE := r0.1
  have e0 := hE.n 0 (by decide)
  have e1 := hE.n 1 (by decide)
  have e2 := hE.n 2 (by decide)
  have hgc := hI.c
  refine k_aload_n hC dL_law_2226 rfl 4 rfl ?_
  refine k_callV hC (c_X11_undo l hls G hN w fl gc nl sv hs nx (cn : Int) anx (by omega) a7 hI a0 a3 a4 a5) yy_X11_undo wm_L_217 (kl hN (by decide)) a0 rfl rfl rfl rfl (Nat.le_of_ble_eq_true rfl) (by omega) (by omega) ⟨by omega, by omega⟩ dL_law_2227 (fun v1 w1 fl1 hp => ?_)
  obtain ⟨-, hv, hfl, hP⟩ := hp
  subst hv
  subst hfl
  rcases hP with ⟨hz, hw1⟩ | ⟨hz, hlg, hhi, hf1⟩
  · show KW p l e R s m args below meth c 10 G Q w1 fl (cs) (ss) 2230 [(5, vI (i : Int)), (4, .ref (kad G 149)), (3, .ref (kad G 148)), (2, .ref (kad G 133)), (1, .ref (kad G 0)), (0, .ref b)] [vI ((cn : Int) - 1)]
    refine k_topv (vI (i32 ((cn : Int) - 1))) (vI_32 _) ?_
    refine k_aload_n hC dL_law_2230 rfl 3 rfl ?_
    have h_1 : w1 133 = mdO G u := (congrFun hw1 133).trans b0
    have h_2 : w1 134 = lA G 93 gr := (congrFun hw1 134).trans b1
    have h_3 : w1 137 = lA G 930 H := (congrFun hw1 137).trans b4
    refine k_callV hC (c_X12_undo l hls G hN w1 fl u gr H cn r3 acn h_1 h_2 h_3) yy_X12_undo wm_L_220 (kl hN (by decide)) h_1 rfl rfl rfl rfl (Nat.le_of_ble_eq_true rfl) (by omega) (by omega) ⟨by omega, by omega⟩ dL_law_2231 (fun v3 w3 fl3 hp3 => ?_)
    obtain ⟨hv3, hfl3, hP3⟩ := hp3
    subst hv3
    subst hfl3
    rcases hP3 with ⟨gz, hm3, hf3⟩ | ⟨gz, hm3, hg3, hf3⟩
    · show KW p l e R s m args below meth c 10 G Q w3 fl (cs) (ss) 2234 [(5, vI (i : Int)), (4, .ref (kad G 149)), (3, .ref (kad G 148)), (2, .ref (kad G 133)), (1, .ref (kad G 0)), (0, .ref b)] [vI ((cn : Int) - 1), vI (i32 ((cn : Int) - 1))]
      refine k_topv (vI (i32 ((cn : Int) - 1))) (vI_32 _) ?_
      refine k_icmp_eq hC 2319 dL_law_2234 rfl (i32_r _) (i32_r _) (fun c_2234 => ?_) (fun c_2234 => absurd (congrArg i32 (rfl)) c_2234)
      have h_4 : w3 148 = lA G 1 out := (hf3 148 (by decide)).trans ((congrFun hw1 148).trans o1)
      have h_5 : w3 149 = dA G 1 oD := (hf3 149 (by decide)).trans ((congrFun hw1 149).trans o2)
      exact kk w3 fl _ _ (LI.rd hc hm hr hw hT (a5.fr (fun j q1 q2 => (hf3 j (by omega)).trans (congrFun hw1 j))) (b5.fr (fun j q1 q2 => (hf3 j (by omega)).trans (congrFun hw1 j))) hm3 ⟨rfl, rfl, rfl, rfl, rfl⟩ ⟨⟨_, h_4⟩, ⟨_, h_5⟩⟩ (fun j hj => (hf3 j (by omega)).trans (congrFun hw1 j))) (by omega) (by omega)
    · exfalso; omega
  · show KW p l e R s m args below meth c 10 G Q w1 fl (cs) (ss) 2230 [(5, vI (i : Int)), (4, .ref (kad G 149)), (3, .ref (kad G 148)), (2, .ref (kad G 133)), (1, .ref (kad G 0)), (0, .ref b)] [vI ((cn : Int) - 1)]
    refine k_topv (vI (i32 ((cn : Int) - 1))) (vI_32 _) ?_
    refine k_aload_n hC dL_law_2230 rfl 3 rfl ?_
    have h_6 : w1 133 = mdO G u := (hf1 133 (by decide)).trans b0
    have h_7 : w1 134 = lA G 93 gr := (hf1 134 (by decide)).trans b1
    have h_8 : w1 137 = lA G 930 H := (hf1 137 (by decide)).trans b4
    refine k_callV hC (c_X12_undo l hls G hN w1 fl u gr H cn r3 acn h_6 h_7 h_8) yy_X12_undo wm_L_220 (kl hN (by decide)) h_6 rfl rfl rfl rfl (Nat.le_of_ble_eq_true rfl) (by omega) (by omega) ⟨by omega, by omega⟩ dL_law_2231 (fun v3 w3 fl3 hp3 => ?_)
    obtain ⟨hv3, hfl3, hP3⟩ := hp3
    subst hv3
    subst hfl3
    rcases hP3 with ⟨gz, hm3, hf3⟩ | ⟨gz, hm3, hg3, hf3⟩
    · exfalso; omega
    · show KW p l e R s m args below meth c 10 G Q w3 fl (cs) (ss) 2234 [(5, vI (i : Int)), (4, .ref (kad G 149)), (3, .ref (kad G 148)), (2, .ref (kad G 133)), (1, .ref (kad G 0)), (0, .ref b)] [vI ((cn : Int) - 1), vI (i32 ((cn : Int) - 1))]
      refine k_topv (vI (i32 ((cn : Int) - 1))) (vI_32 _) ?_
      refine k_icmp_eq hC 2319 dL_law_2234 rfl (i32_r _) (i32_r _) (fun c_2234 => ?_) (fun c_2234 => absurd (congrArg i32 (rfl)) c_2234)
      have he : ∀ j, ¬ (j = 1 ∨ j = 2 ∨ (5 ≤ j ∧ j ≤ 8) ∨ 33 ≤ j) → copyLM gc (hs ((nx + 9) % 10)) j = gc j := fun j hj => copyLM_p hj
      have hcn : ((cn - 1 : Nat) : Int) = (cn : Int) - 1 := by omega
      have hk1 : okS (copyLM gc (hs ((nx + 9) % 10))) nl (fun j => H (93 * (cn - 1) + j)) := by have z := r1 (cn - 1) (by omega); rw [show (nx + 10 - cn + (cn - 1)) % 10 = (nx + 9) % 10 by omega] at z; exact z
      have hk2 : ∀ r, r < cn - 1 → okS (copyLM (copyLM gc (hs ((nx + 9) % 10))) (hs (((nx + 9) % 10 + 10 - (cn - 1) + r) % 10))) nl (rowH H r) := fun r hr9 => by rw [show ((nx + 9) % 10 + 10 - (cn - 1) + r) % 10 = (nx + 10 - cn + r) % 10 by omega]; exact (r1 r (by omega)).cp he
      have h_9 : w3 148 = lA G 1 out := (hf3 148 (by decide)).trans ((hf1 148 (by decide)).trans o1)
      have h_10 : w3 149 = dA G 1 oD := (hf3 149 (by decide)).trans ((hf1 149 (by decide)).trans o2)
      have h_11 : w3 0 = srO G sv := (hf3 0 (by decide)).trans ((hf1 0 (by decide)).trans a0)
      have h_12 : w3 136 = lA G 93 sp := (hf3 136 (by decide)).trans ((hf1 136 (by decide)).trans b3)
      exact kk w3 fl _ _ (LI.log hc hm hr hw hT ⟨⟨_, h_9⟩, ⟨_, h_10⟩⟩ h_11 asv (hlg.fr (fun j q1 q2 => hf3 j (by omega))) (a6.fr (fun j q1 q2 => (hf3 j (by omega)).trans (hf1 j (by omega)))) (by rw [hcn]; exact hhi.fr (fun j q1 q2 => hf3 j (by omega))) (by omega) (by omega) hm3 ⟨by rw [kup_n (by decide), kup_s]; omega, r6, rfl, rfl, rfl⟩ hg3 h_12 he hk1 hk2 (fun q => (r2 q).cp he) (fun j hj => (hf3 j (by omega)).trans (hf1 j (by omega)))) (by omega) (by omega)

set_option maxRecDepth 100000 in
set_option maxHeartbeats 4000000 in
theorem lw_saveSnapshot {p : Program} {l : Launch} {e : Env} {R : Room} {s : State} {m : MethodId} {args : Array Value} {below : List Frame} {meth : Method} {c : Code} {G : kG} {d0 mc0 ms0 : Nat} {Q : State → Prop} {b L : Nat} {xs : Nat → Int32} (hC : kC p l R s m args meth c cL_law RL 10 G d0 mc0 ms0) (hls : l.stackTraces = false) (hN : kN G = 150) (hNc : va_Nc "java/lang/IllegalArgumentException" "java/util/NoSuchElementException" s) (hX : va_X b L xs s s.heap) (hbl : b < s.heap.size) (hbA : ¬ kA G b) (hL : L ≤ 3584) (hd0 : 60 ≤ d0) {cs ss : Nat} (hcs : cs + 16 ≤ mc0 ∧ ss + 400 ≤ ms0) (i : Nat) (hi : i + 7 ≤ L) (w : Nat → va_E) (fl : va_W) (hLI : LI G w fl)
    (kk : ∀ (w' : Nat → va_E) (fl' : va_W) (cs' ss' : Nat), LI G w' fl' → cs' ≤ cs + 16 → ss' ≤ ss + 400 → KW p l e R s m args below meth c 10 G Q w' fl' cs' ss' 2319 [(5, vI (i : Int)), (4, .ref (kad G 149)), (3, .ref (kad G 148)), (2, .ref (kad G 133)), (1, .ref (kad G 0)), (0, .ref b)] []) : KW p l e R s m args below meth c 10 G Q w fl cs ss 2239 [(5, vI (i : Int)), (4, .ref (kad G 149)), (3, .ref (kad G 148)), (2, .ref (kad G 133)), (1, .ref (kad G 0)), (0, .ref b)] [] := by
  obtain ⟨bt, gc, nl, gp0, nl9, gl0, gs, c0, nx, cn, cap, cd, ea, kd, nm, sa, nx9, en, sv, hs, T, u, gr, D0, sp, H, hc, hm, ho, hr, hw, hT⟩ := hLI
  have hc1 := hc
  have hm1 := hm
  have hr1 := hr
  have ho1 := ho
  obtain ⟨⟨a0, asv⟩, a1, ⟨a2, abt, ac7⟩, a3, a4, a5, a6, ⟨a7, anx, acn⟩, ⟨a8, a9, a10⟩, ⟨a11, a12, a13⟩, a14⟩ := hc1
  obtain ⟨b0, b1, b2, b3, b4, b5, b6, b7, ⟨cf, b8⟩, ⟨fq, b9⟩⟩ := hm1
  obtain ⟨⟨out, o1⟩, ⟨oD, o2⟩⟩ := ho1
  obtain ⟨r0, r1, r2, r3, r4, r5, r6⟩ := hr1
  have hI := r0.inv
  have hIr := r0.2.1
  have hE := r0.1
  have e0 := hE.n 0 (by decide)
  have e1 := hE.n 1 (by decide)
  have e2 := hE.n 2 (by decide)
  have hgc := hI.c
  refine k_aload_n hC dL_law_2239 rfl 4 rfl ?_
  refine k_callV hC (c_X11_saveSnapshot l hls G hN w fl gc nl sv hs nx (cn : Int) gs a6 anx (by omega) a7 hI a0 a3 a4 a5) yy_X11_saveSnapshot wm_L_221 (kl hN (by decide)) a0 rfl rfl rfl rfl (Nat.le_of_ble_eq_true rfl) (by omega) (by omega) ⟨by omega, by omega⟩ dL_law_2240 (fun v1 w1 fl1 hp => ?_)
  obtain ⟨hv, hfl, hz0, hlg, hf1⟩ := hp
  subst hv
  subst hfl
  show KW p l e R s m args below meth c 10 G Q w1 fl (cs) (ss) 2243 [(5, vI (i : Int)), (4, .ref (kad G 149)), (3, .ref (kad G 148)), (2, .ref (kad G 133)), (1, .ref (kad G 0)), (0, .ref b)] []
  refine k_aload_n hC dL_law_2243 rfl 3 rfl ?_
  have h_1 : w1 133 = mdO G u := (hf1 133 (by decide)).trans b0
  have h_2 : w1 134 = lA G 93 gr := (hf1 134 (by decide)).trans b1
  have h_3 : w1 136 = lA G 93 sp := (hf1 136 (by decide)).trans b3
  refine k_callV hC (c_X12_saveSnapshot l hls G hN w1 fl u gr sp h_1 h_2 h_3) yy_X12_saveSnapshot wm_L_224 (kl hN (by decide)) h_1 rfl rfl rfl rfl (Nat.le_of_ble_eq_true rfl) (by omega) (by omega) ⟨by omega, by omega⟩ dL_law_2244 (fun v3 w3 fl3 hp3 => ?_)
  obtain ⟨hv3, hfl3, hm3, hs3, hf3⟩ := hp3
  subst hv3
  subst hfl3
  show KW p l e R s m args below meth c 10 G Q w3 fl (cs) (ss) 2247 [(5, vI (i : Int)), (4, .ref (kad G 149)), (3, .ref (kad G 148)), (2, .ref (kad G 133)), (1, .ref (kad G 0)), (0, .ref b)] []
  refine k_goto hC 2319 dL_law_2247 rfl ?_
  have h_4 : w3 148 = lA G 1 out := (hf3 148 (by decide)).trans ((hf1 148 (by decide)).trans o1)
  have h_5 : w3 149 = dA G 1 oD := (hf3 149 (by decide)).trans ((hf1 149 (by decide)).trans o2)
  have h_6 : w3 0 = srO G 1 := (hf3 0 (by decide)).trans hz0
  have h_7 : w3 134 = lA G 93 gr := (hf3 134 (by decide)).trans h_2
  exact kk w3 fl _ _ (LI.log hc hm hr hw hT ⟨⟨_, h_4⟩, ⟨_, h_5⟩⟩ h_6 (Or.inr rfl) (a3.fr (fun j q1 q2 => (hf3 j (by omega)).trans (hf1 j (by omega)))) (hlg.fr (fun j q1 q2 => hf3 j (by omega))) (a7.fr (fun j q1 q2 => (hf3 j (by omega)).trans (hf1 j (by omega)))) anx acn hm3 ⟨r3, rfl, rfl, rfl, rfl⟩ h_7 hs3 (fun j _ => rfl) r0 r1 (fun _ => r0.self) (fun j hj => (hf3 j (by omega)).trans (hf1 j (by omega)))) (by omega) (by omega)

set_option maxRecDepth 100000 in
set_option maxHeartbeats 4000000 in
theorem lw_restoreSnapshot {p : Program} {l : Launch} {e : Env} {R : Room} {s : State} {m : MethodId} {args : Array Value} {below : List Frame} {meth : Method} {c : Code} {G : kG} {d0 mc0 ms0 : Nat} {Q : State → Prop} {b L : Nat} {xs : Nat → Int32} (hC : kC p l R s m args meth c cL_law RL 10 G d0 mc0 ms0) (hls : l.stackTraces = false) (hN : kN G = 150) (hNc : va_Nc "java/lang/IllegalArgumentException" "java/util/NoSuchElementException" s) (hX : va_X b L xs s s.heap) (hbl : b < s.heap.size) (hbA : ¬ kA G b) (hL : L ≤ 3584) (hd0 : 60 ≤ d0) {cs ss : Nat} (hcs : cs + 16 ≤ mc0 ∧ ss + 400 ≤ ms0) (i : Nat) (hi : i + 7 ≤ L) (w : Nat → va_E) (fl : va_W) (hLI : LI G w fl)
    (kk : ∀ (w' : Nat → va_E) (fl' : va_W) (cs' ss' : Nat), LI G w' fl' → cs' ≤ cs + 16 → ss' ≤ ss + 400 → KW p l e R s m args below meth c 10 G Q w' fl' cs' ss' 2319 [(5, vI (i : Int)), (4, .ref (kad G 149)), (3, .ref (kad G 148)), (2, .ref (kad G 133)), (1, .ref (kad G 0)), (0, .ref b)] []) : KW p l e R s m args below meth c 10 G Q w fl cs ss 2250 [(5, vI (i : Int)), (4, .ref (kad G 149)), (3, .ref (kad G 148)), (2, .ref (kad G 133)), (1, .ref (kad G 0)), (0, .ref b)] [] := by
  obtain ⟨bt, gc, nl, gp0, nl9, gl0, gs, c0, nx, cn, cap, cd, ea, kd, nm, sa, nx9, en, sv, hs, T, u, gr, D0, sp, H, hc, hm, ho, hr, hw, hT⟩ := hLI
  have hc1 := hc
  have hm1 := hm
  have hr1 := hr
  have ho1 := ho
  obtain ⟨⟨a0, asv⟩, a1, ⟨a2, abt, ac7⟩, a3, a4, a5, a6, ⟨a7, anx, acn⟩, ⟨a8, a9, a10⟩, ⟨a11, a12, a13⟩, a14⟩ := hc1
  obtain ⟨b0, b1, b2, b3, b4, b5, b6, b7, ⟨cf, b8⟩, ⟨fq, b9⟩⟩ := hm1
  obtain ⟨⟨out, o1⟩, ⟨oD, o2⟩⟩ := ho1
  obtain ⟨r0, r1, r2, r3, r4, r5, r6⟩ := hr1
  have hI := r0.inv
  have hIr := r0.2.1
  have hE := r0.1
  have e0 := hE.n 0 (by decide)
  have e1 := hE.n 1 (by decide)
  have e2 := hE.n 2 (by decide)
  have hgc := hI.c
  refine k_aload_n hC dL_law_2250 rfl 4 rfl ?_
  refine k_callV hC (c_X11_restoreSnapshot l hls G hN w fl gc nl sv hs nx (cn : Int) gs a6 asv anx (by omega) a7 hI a0 a3 a4 a5) yy_X11_restoreSnapshot wm_L_225 (kl hN (by decide)) a0 rfl rfl rfl rfl (Nat.le_of_ble_eq_true rfl) (by omega) (by omega) ⟨by omega, by omega⟩ dL_law_2251 (fun v1 w1 fl1 hp => ?_)
  obtain ⟨-, hv, hfl, hP⟩ := hp
  subst hv
  subst hfl
  rcases hP with ⟨hz, hw1⟩ | ⟨hz, hlg, hhi, hf1⟩
  · show KW p l e R s m args below meth c 10 G Q w1 fl (cs) (ss) 2254 [(5, vI (i : Int)), (4, .ref (kad G 149)), (3, .ref (kad G 148)), (2, .ref (kad G 133)), (1, .ref (kad G 0)), (0, .ref b)] [vI sv]
    refine k_topv (vI (i32 sv)) (vI_32 _) ?_
    refine k_aload_n hC dL_law_2254 rfl 3 rfl ?_
    have h_1 : w1 133 = mdO G u := (congrFun hw1 133).trans b0
    have h_2 : w1 134 = lA G 93 gr := (congrFun hw1 134).trans b1
    have h_3 : w1 136 = lA G 93 sp := (congrFun hw1 136).trans b3
    refine k_callV hC (c_X12_restoreSnapshot l hls G hN w1 fl u gr sp (by rw [r6]; exact asv) h_1 h_2 h_3) yy_X12_restoreSnapshot wm_L_229 (kl hN (by decide)) h_1 rfl rfl rfl rfl (Nat.le_of_ble_eq_true rfl) (by omega) (by omega) ⟨by omega, by omega⟩ dL_law_2255 (fun v3 w3 fl3 hp3 => ?_)
    obtain ⟨hv3, hfl3, hP3⟩ := hp3
    subst hv3
    subst hfl3
    rcases hP3 with ⟨gz, hm3, hf3⟩ | ⟨gz, hm3, hg3, hf3⟩
    · show KW p l e R s m args below meth c 10 G Q w3 fl (cs) (ss) 2258 [(5, vI (i : Int)), (4, .ref (kad G 149)), (3, .ref (kad G 148)), (2, .ref (kad G 133)), (1, .ref (kad G 0)), (0, .ref b)] [vI (u 6), vI (i32 sv)]
      refine k_topv (vI (i32 (u 6))) (vI_32 _) ?_
      refine k_icmp_eq hC 2319 dL_law_2258 rfl (i32_r _) (i32_r _) (fun c_2258 => ?_) (fun c_2258 => absurd (congrArg i32 (r6.symm)) c_2258)
      have h_4 : w3 148 = lA G 1 out := (hf3 148 (by decide)).trans ((congrFun hw1 148).trans o1)
      have h_5 : w3 149 = dA G 1 oD := (hf3 149 (by decide)).trans ((congrFun hw1 149).trans o2)
      exact kk w3 fl _ _ (LI.rd hc hm hr hw hT (a5.fr (fun j q1 q2 => (hf3 j (by omega)).trans (congrFun hw1 j))) (b5.fr (fun j q1 q2 => (hf3 j (by omega)).trans (congrFun hw1 j))) hm3 ⟨rfl, rfl, rfl, rfl, rfl⟩ ⟨⟨_, h_4⟩, ⟨_, h_5⟩⟩ (fun j hj => (hf3 j (by omega)).trans (congrFun hw1 j))) (by omega) (by omega)
    · exfalso; omega
  · show KW p l e R s m args below meth c 10 G Q w1 fl (cs) (ss) 2254 [(5, vI (i : Int)), (4, .ref (kad G 149)), (3, .ref (kad G 148)), (2, .ref (kad G 133)), (1, .ref (kad G 0)), (0, .ref b)] [vI sv]
    refine k_topv (vI (i32 sv)) (vI_32 _) ?_
    refine k_aload_n hC dL_law_2254 rfl 3 rfl ?_
    have h_6 : w1 133 = mdO G u := (hf1 133 (by decide)).trans b0
    have h_7 : w1 134 = lA G 93 gr := (hf1 134 (by decide)).trans b1
    have h_8 : w1 136 = lA G 93 sp := (hf1 136 (by decide)).trans b3
    refine k_callV hC (c_X12_restoreSnapshot l hls G hN w1 fl u gr sp (by rw [r6]; exact asv) h_6 h_7 h_8) yy_X12_restoreSnapshot wm_L_229 (kl hN (by decide)) h_6 rfl rfl rfl rfl (Nat.le_of_ble_eq_true rfl) (by omega) (by omega) ⟨by omega, by omega⟩ dL_law_2255 (fun v3 w3 fl3 hp3 => ?_)
    obtain ⟨hv3, hfl3, hP3⟩ := hp3
    subst hv3
    subst hfl3
    rcases hP3 with ⟨gz, hm3, hf3⟩ | ⟨gz, hm3, hg3, hf3⟩
    · exfalso; omega
    · show KW p l e R s m args below meth c 10 G Q w3 fl (cs) (ss) 2258 [(5, vI (i : Int)), (4, .ref (kad G 149)), (3, .ref (kad G 148)), (2, .ref (kad G 133)), (1, .ref (kad G 0)), (0, .ref b)] [vI (u 6), vI (i32 sv)]
      refine k_topv (vI (i32 (u 6))) (vI_32 _) ?_
      refine k_icmp_eq hC 2319 dL_law_2258 rfl (i32_r _) (i32_r _) (fun c_2258 => ?_) (fun c_2258 => absurd (congrArg i32 (r6.symm)) c_2258)
      have he : ∀ j, ¬ (j = 1 ∨ j = 2 ∨ (5 ≤ j ∧ j ≤ 8) ∨ 33 ≤ j) → copyLM gc gs j = gc j := fun j hj => copyLM_p hj
      have h_9 : w3 148 = lA G 1 out := (hf3 148 (by decide)).trans ((hf1 148 (by decide)).trans o1)
      have h_10 : w3 149 = dA G 1 oD := (hf3 149 (by decide)).trans ((hf1 149 (by decide)).trans o2)
      have h_11 : w3 0 = srO G sv := (hf3 0 (by decide)).trans ((hf1 0 (by decide)).trans a0)
      have h_12 : w3 136 = lA G 93 sp := (hf3 136 (by decide)).trans h_8
      exact kk w3 fl _ _ (LI.log hc hm hr hw hT ⟨⟨_, h_9⟩, ⟨_, h_10⟩⟩ h_11 asv (hlg.fr (fun j q1 q2 => hf3 j (by omega))) (a6.fr (fun j q1 q2 => (hf3 j (by omega)).trans (hf1 j (by omega)))) (nx1 := 0) (cn1 := 0) (hhi.fr (fun j q1 q2 => hf3 j (by omega))) (by omega) (by omega) hm3 ⟨rfl, r6, rfl, rfl, rfl⟩ hg3 h_12 he (r2 hz) (fun r hr9 => absurd hr9 (Nat.not_lt_zero r)) (fun q => (r2 q).cp he) (fun j hj => (hf3 j (by omega)).trans (hf1 j (by omega)))) (by omega) (by omega)

