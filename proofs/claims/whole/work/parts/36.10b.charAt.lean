/-! THE LAW'S CASE charAt -/
set_option maxHeartbeats 4000000 in
set_option maxRecDepth 100000 in
theorem law0_charAt {p : Program} {l : Launch} {e : Env} {s : State} {m : MethodId} {below : List Frame} {meth : Method} {c : Code} {b : Nat} {L : Nat} {xs : Nat → Int32} {dC : Nat → ClassId} {dI : Nat → Nat → Nat} {cI : ClassId} {cL : ClassId} {cO : ClassId} {qd : Nat} {mi : Nat} {x0 : Nat} {v0 : Nat} {x1 : Nat} {v1 : Nat} {x2 : Nat} {v2 : Nat} {qy : Option Nat} {A : Nat → Prop} {h0 qs qr qm qw qt qk wc tc g0 ps pk pa pb pq pw pt qo : Nat} {mc : Int} {we : Int} {fi : Int} {ln : Int} {mf : Nat → Int} {sf : Nat → Int} {kf : Nat → Int} {af : Nat → Int} {bf : Nat → Int} {zf : Nat → Int} {wl : Int} {wf : Nat → Int} {tl : Int} {tf : Nat → Int} {co : Int} {of : Nat → Int} {ii : Int} {ce sn : Nat} {H : Heap} {locs : List Loc} {ls : Array Slot} (C : LC p l e s m below meth c b L xs dC dI cI cL cO qd mi x0 v0 x1 v1 x2 v2 qy A) (hLS : LS0 s dC dI cI cL cO qd A h0 qs qr qm qw qt qk wc tc g0 ps pk pa pb pq pw pt qo mc we fi ln mf sf kf af bf zf wl wf tl tf co of H locs) (K1 : LK1 p l e s m below meth c b L xs dC dI cI cL cO qd mi x0 v0 x1 v1 x2 v2 qy A h0 qs qr qm qw qt qk wc tc g0 ps pk pa pb pq pw pt qo ii ce sn) (K0 : LK0 p l e s m below meth c b L xs dC dI cI cL cO qd mi x0 v0 x1 v1 x2 v2 qy A h0 qs qr qm qw qt qk wc tc g0 ps pk pa pb pq pw pt qo ii ce sn) (hii : 0 ≤ ii ∧ ii + 6 ≤ (L : Int)) (hce : ce ≤ 601000) (hsn : sn ≤ 7293000) (hl : lv_has ls 7 [(4, .int (zi ii)), (0, .ref b), (1, .ref h0), (2, .ref g0), (3, .ref qo)]) : W p l e room_1 s m #[Value.ref b] below meth c H locs ce sn (lw_Z below #[Value.ref b] s) (F0 m 1320 ls []) := by
  obtain ⟨hx, hb, hml, hown, hts, hst, hK, hE, hO, h3, hX, hbl, hbA, hA, hL⟩ := C
  obtain ⟨hP, hD, hS, hI⟩ := hLS
  have rf : Nat → Nat := fun _ => 0
  obtain ⟨ix, hv1⟩ : ∃ z : Int, z = (xs (ii + 1).toNat).toInt := ⟨_, rfl⟩
  have hb1 : -2147483648 ≤ ix ∧ ix ≤ 2147483647 := by rw [hv1]; exact scr_b _
  have hI1 := hI.rub
  have hI2 := hI.web
  have hI3 := hI.mkb
  have hI4 := hI.wlb
  have hI5 := hI.tlb
  by_cases h1 : 0 ≤ ix ∧ ix < wl
  · skip
    have hwf := hI.wfb ix.toNat
    refine lv_aload_n hx hb dL_law_1320 rfl (lv_at hl 2 rfl) ?_
    refine lv_aload_n hx hb dL_law_1321 rfl (lv_at hl 1 rfl) ?_
    refine lv_iload hx hb dL_law_1322 (lv_at hl 0 rfl) ?_
    refine zw_iconst hx hb dL_law_1324 ?_
    refine zw_iadd hx hb dL_law_1325 ?_
    refine zw_scr hx hb hX hbl hbA hS (by omega) (by omega) ⟨by omega, by omega⟩ hv1 dL_law_1326 ?_
    refine lv_aload_n hx hb dL_law_1327 rfl (lv_at hl 4 rfl) ?_
    have hh1 := c_L_charAt l dC dI cI cL h0 qs qr qm qw qt we wc wl wf qo of ix H.size (by omega) (by omega)
    have hPc := hP.sub (ws' := [(h0, .inr (4, [.ref qs, .ref qr, .ref qm, .ref qw, .ref qt, .int (zi we)])), (qw, .inr (1, [.ref wc, .int (zi wl)])), (wc, aI cI 20 wf), (qo, aL cL 1 of)]) [0, 5, 6, 17] rfl
    have hKc : va_K (dC, dI) vwCl [(cI, .int), (cL, .long)] s := hK.sub (tys' := [(cI, .int), (cL, .long)]) [0, 1] rfl
    have hDc := hD.sub (ws' := [(h0, .inr (4, [.ref qs, .ref qr, .ref qm, .ref qw, .ref qt, .int (zi we)])), (qw, .inr (1, [.ref wc, .int (zi wl)])), (wc, aI cI 20 wf), (qo, aL cL 1 of)]) [0, 5, 6, 17] (by decide) rfl
    have hFc := va_free (wc := [(h0, .inr (4, [.ref qs, .ref qr, .ref qm, .ref qw, .ref qt, .int (zi we)])), (qw, .inr (1, [.ref wc, .int (zi wl)])), (wc, aI cI 20 wf), (qo, aL cL 1 of)]) hD hS hA [0, 5, 6, 17] rfl
    refine va_calli (vx_runSW (As := [.ref h0, .int (zi ix), .ref qo]) (rest := []) ⟨hx, hb, hml, hown, hts⟩ hh1 (vx_cwSW 3 hts gL_law_L_charAt rfl rfl rfl (by decide +kernel) ⟨Nat.le_of_ble_eq_true rfl, Nat.le_of_ble_eq_true rfl⟩) ⟨zPw.blind _ _ _ _ _, fun U hU hW => ⟨rfl, by rw [hU], by rw [hU]; exact hPc, va_K.moved hW.alike hKc, hDc.weaken (fun _ _ _ _ => trivial)⟩⟩ rfl rfl hl.1 rfl (lv_room (Nat.le_of_ble_eq_true rfl)) dL_law_1328 ⟨by show _ ≤ 601024; omega, by show _ ≤ 7293033; omega⟩) hS (fun q _ h => hFc q h) hFc (fun r1 u t H1 locs ht hvm hw hB hz1 hk1 hS => ?_)
    obtain ⟨hP1, hK1, hD1⟩ := hB
    rw [ht] at hP1
    obtain ⟨hP, hD⟩ := va_join (wr := [(qs, aI cI 10 sf), (qr, .inr (0, [.int (zi mc), .ref qd, .int (zi 0)])), (qm, .inr (2, [.ref qk, .int (zi fi), .int (zi ln)])), (qk, aI cI 366 mf), (qt, .inr (1, [.ref tc, .int (zi tl)])), (tc, aI cI 20 tf), (g0, .inr (5, [.int (zi co), .ref ps, .int (zi 0), .ref pk, .ref pa, .ref pb, .ref pq, .int (zi we), .int (zi wl), .ref pw, .int (zi tl), .ref pt])), (ps, aI cI 10 sf), (pk, aI cI 12 kf), (pa, aI cI 12 af), (pb, aI cI 12 bf), (pq, aI cI 12 zf), (pw, aI cI 12 wf), (pt, aI cI 20 tf)]) (w1 := [(h0, .inr (4, [.ref qs, .ref qr, .ref qm, .ref qw, .ref qt, .int (zi we)])), (qw, .inr (1, [.ref wc, .int (zi wl)])), (wc, aI cI 20 wf), (qo, aL cL 1 (zup of (Int.toNat 0) (wf ix.toNat)))]) hP hD [0, 5, 6, 17] [1, 2, 3, 4, 7, 8, 9, 10, 11, 12, 13, 14, 15, 16] rfl rfl (by decide) (by decide) hk1 hFc hP1 hD1
    generalize H1 = H at hP hS ⊢
    obtain rfl : r1 = zi 0 := hw
    have hP : va_P (dC, dI) vwCl [(qs, aI cI 10 sf), (qr, .inr (0, [.int (zi mc), .ref qd, .int (zi 0)])), (qm, .inr (2, [.ref qk, .int (zi fi), .int (zi ln)])), (qk, aI cI 366 mf), (qt, .inr (1, [.ref tc, .int (zi tl)])), (tc, aI cI 20 tf), (g0, .inr (5, [.int (zi co), .ref ps, .int (zi 0), .ref pk, .ref pa, .ref pb, .ref pq, .int (zi we), .int (zi wl), .ref pw, .int (zi tl), .ref pt])), (ps, aI cI 10 sf), (pk, aI cI 12 kf), (pa, aI cI 12 af), (pb, aI cI 12 bf), (pq, aI cI 12 zf), (pw, aI cI 12 wf), (pt, aI cI 20 tf), (h0, .inr (4, [.ref qs, .ref qr, .ref qm, .ref qw, .ref qt, .int (zi we)])), (qw, .inr (1, [.ref wc, .int (zi wl)])), (wc, aI cI 20 wf), (qo, aL cL 1 (zup of (Int.toNat 0) (wf ix.toNat)))] H := hP
    have hD : va_D A [(qs, aI cI 10 sf), (qr, .inr (0, [.int (zi mc), .ref qd, .int (zi 0)])), (qm, .inr (2, [.ref qk, .int (zi fi), .int (zi ln)])), (qk, aI cI 366 mf), (qt, .inr (1, [.ref tc, .int (zi tl)])), (tc, aI cI 20 tf), (g0, .inr (5, [.int (zi co), .ref ps, .int (zi 0), .ref pk, .ref pa, .ref pb, .ref pq, .int (zi we), .int (zi wl), .ref pw, .int (zi tl), .ref pt])), (ps, aI cI 10 sf), (pk, aI cI 12 kf), (pa, aI cI 12 af), (pb, aI cI 12 bf), (pq, aI cI 12 zf), (pw, aI cI 12 wf), (pt, aI cI 20 tf), (h0, .inr (4, [.ref qs, .ref qr, .ref qm, .ref qw, .ref qt, .int (zi we)])), (qw, .inr (1, [.ref wc, .int (zi wl)])), (wc, aI cI 20 wf), (qo, aL cL 1 (zup of (Int.toNat 0) (wf ix.toNat)))] := hD
    refine lv_istore (lv' := [(5, .int (zi 0)), (4, .int (zi ii)), (0, .ref b), (1, .ref h0), (2, .ref g0), (3, .ref qo)]) hx hb dL_law_1331 hl (by decide) rfl (fun ls hl => ?_)
    refine lv_aload_n hx hb dL_law_1333 rfl (lv_at hl 4 rfl) ?_
    refine lv_aload_n hx hb dL_law_1334 rfl (lv_at hl 2 rfl) ?_
    refine lv_iload hx hb dL_law_1335 (lv_at hl 1 rfl) ?_
    refine zw_iconst hx hb dL_law_1337 ?_
    refine zw_iadd hx hb dL_law_1338 ?_
    refine zw_scr hx hb hX hbl hbA hS (by omega) (by omega) ⟨by omega, by omega⟩ hv1 dL_law_1339 ?_
    have hh2 := c_X5_charAt l dC dI cI g0 ps pk pa pb pq pw pt co 0 we wl tl wf ix H.size (by omega)
    have hPc := hP.sub (ws' := [(g0, .inr (5, [.int (zi co), .ref ps, .int (zi 0), .ref pk, .ref pa, .ref pb, .ref pq, .int (zi we), .int (zi wl), .ref pw, .int (zi tl), .ref pt])), (pw, aI cI 12 wf)]) [6, 12] rfl
    have hKc : va_K (dC, dI) vwCl [(cI, .int)] s := hK.sub (tys' := [(cI, .int)]) [0] rfl
    have hDc := hD.sub (ws' := [(g0, .inr (5, [.int (zi co), .ref ps, .int (zi 0), .ref pk, .ref pa, .ref pb, .ref pq, .int (zi we), .int (zi wl), .ref pw, .int (zi tl), .ref pt])), (pw, aI cI 12 wf)]) [6, 12] (by decide) rfl
    have hFc := va_free (wc := [(g0, .inr (5, [.int (zi co), .ref ps, .int (zi 0), .ref pk, .ref pa, .ref pb, .ref pq, .int (zi we), .int (zi wl), .ref pw, .int (zi tl), .ref pt])), (pw, aI cI 12 wf)]) hD hS hA [6, 12] rfl
    refine va_calli (va_runV (As := [.int (zi ix)]) (rest := []) ⟨hx, hb, hml, hown, hts⟩ hh2 (cwV 1 hts gL_law_X5_charAt rfl rfl rfl (by decide +kernel) ⟨Nat.le_of_ble_eq_true rfl, Nat.le_of_ble_eq_true rfl⟩) ⟨zPw.blind _ _ _ _ _, va_recv hKc hPc (ci := 5) (q0 := 0) rfl rfl, fun U hU hW => ⟨rfl, by rw [hU], by rw [hU]; exact hPc, va_K.moved hW.alike hKc, hDc.weaken (fun _ _ _ _ => trivial)⟩⟩ rfl rfl hl.1 rfl (lv_room (Nat.le_of_ble_eq_true rfl)) dL_law_1340 ⟨by show _ ≤ 601024; omega, by show _ ≤ 7293033; omega⟩) hS (fun q _ h => hFc q h) hFc (fun r2 u t H1 locs ht hvm hw hB hz1 hk1 hS => ?_)
    obtain ⟨hP1, hK1, hD1⟩ := hB
    rw [ht] at hP1
    obtain ⟨hP, hD⟩ := va_join (wr := [(qs, aI cI 10 sf), (qr, .inr (0, [.int (zi mc), .ref qd, .int (zi 0)])), (qm, .inr (2, [.ref qk, .int (zi fi), .int (zi ln)])), (qk, aI cI 366 mf), (qt, .inr (1, [.ref tc, .int (zi tl)])), (tc, aI cI 20 tf), (ps, aI cI 10 sf), (pk, aI cI 12 kf), (pa, aI cI 12 af), (pb, aI cI 12 bf), (pq, aI cI 12 zf), (pt, aI cI 20 tf), (h0, .inr (4, [.ref qs, .ref qr, .ref qm, .ref qw, .ref qt, .int (zi we)])), (qw, .inr (1, [.ref wc, .int (zi wl)])), (wc, aI cI 20 wf), (qo, aL cL 1 (zup of (Int.toNat 0) (wf ix.toNat)))]) (w1 := [(g0, .inr (5, [.int (zi 0), .ref ps, .int (zi 0), .ref pk, .ref pa, .ref pb, .ref pq, .int (zi we), .int (zi wl), .ref pw, .int (zi tl), .ref pt])), (pw, aI cI 12 wf)]) hP hD [6, 12] [0, 1, 2, 3, 4, 5, 7, 8, 9, 10, 11, 13, 14, 15, 16, 17] rfl rfl (by decide) (by decide) hk1 hFc hP1 hD1
    generalize H1 = H at hP hS ⊢
    obtain rfl : r2 = zi (wf ix.toNat) := hw
    have hP : va_P (dC, dI) vwCl [(qs, aI cI 10 sf), (qr, .inr (0, [.int (zi mc), .ref qd, .int (zi 0)])), (qm, .inr (2, [.ref qk, .int (zi fi), .int (zi ln)])), (qk, aI cI 366 mf), (qt, .inr (1, [.ref tc, .int (zi tl)])), (tc, aI cI 20 tf), (ps, aI cI 10 sf), (pk, aI cI 12 kf), (pa, aI cI 12 af), (pb, aI cI 12 bf), (pq, aI cI 12 zf), (pt, aI cI 20 tf), (h0, .inr (4, [.ref qs, .ref qr, .ref qm, .ref qw, .ref qt, .int (zi we)])), (qw, .inr (1, [.ref wc, .int (zi wl)])), (wc, aI cI 20 wf), (qo, aL cL 1 (zup of (Int.toNat 0) (wf ix.toNat))), (g0, .inr (5, [.int (zi 0), .ref ps, .int (zi 0), .ref pk, .ref pa, .ref pb, .ref pq, .int (zi we), .int (zi wl), .ref pw, .int (zi tl), .ref pt])), (pw, aI cI 12 wf)] H := hP
    have hD : va_D A [(qs, aI cI 10 sf), (qr, .inr (0, [.int (zi mc), .ref qd, .int (zi 0)])), (qm, .inr (2, [.ref qk, .int (zi fi), .int (zi ln)])), (qk, aI cI 366 mf), (qt, .inr (1, [.ref tc, .int (zi tl)])), (tc, aI cI 20 tf), (ps, aI cI 10 sf), (pk, aI cI 12 kf), (pa, aI cI 12 af), (pb, aI cI 12 bf), (pq, aI cI 12 zf), (pt, aI cI 20 tf), (h0, .inr (4, [.ref qs, .ref qr, .ref qm, .ref qw, .ref qt, .int (zi we)])), (qw, .inr (1, [.ref wc, .int (zi wl)])), (wc, aI cI 20 wf), (qo, aL cL 1 (zup of (Int.toNat 0) (wf ix.toNat))), (g0, .inr (5, [.int (zi 0), .ref ps, .int (zi 0), .ref pk, .ref pa, .ref pb, .ref pq, .int (zi we), .int (zi wl), .ref pw, .int (zi tl), .ref pt])), (pw, aI cI 12 wf)] := hD
    refine zw_top (fun x3 ex3 => ?_)
    refine lv_istore (lv' := [(6, .int (zi x3)), (5, .int (zi 0)), (4, .int (zi ii)), (0, .ref b), (1, .ref h0), (2, .ref g0), (3, .ref qo)]) hx hb dL_law_1343 hl (by decide) rfl (fun ls hl => ?_)
    refine lv_aload_n hx hb dL_law_1345 rfl (lv_at hl 5 rfl) ?_
    have hh4 := c_X5_thrown l dC dI cI g0 ps pk pa pb pq pw pt 0 0 we wl tl sf 
    have hPc := hP.sub (ws' := [(g0, .inr (5, [.int (zi 0), .ref ps, .int (zi 0), .ref pk, .ref pa, .ref pb, .ref pq, .int (zi we), .int (zi wl), .ref pw, .int (zi tl), .ref pt])), (ps, aI cI 10 sf)]) [16, 6] rfl
    have hKc : va_K (dC, dI) vwCl [(cI, .int)] s := hK.sub (tys' := [(cI, .int)]) [0] rfl
    refine vp_callSi (va_Run.run (va_runV (As := []) (rest := []) ⟨hx, hb, hml, hown, hts⟩ hh4 (cwV 0 hts gL_law_X5_thrown rfl rfl rfl (by decide +kernel) ⟨Nat.le_of_ble_eq_true rfl, Nat.le_of_ble_eq_true rfl⟩) ⟨zPr.blind _ _ _ _, va_recv hKc hPc (ci := 5) (q0 := 0) rfl rfl, fun U hU hW => ⟨rfl, by rw [hU]; exact hPc, va_K.moved hW.alike hKc⟩⟩ rfl rfl hl.1 rfl (lv_room (Nat.le_of_ble_eq_true rfl)) dL_law_1346 ⟨by show _ ≤ 601024; omega, by show _ ≤ 7293033; omega⟩)) (fun r4 (hr4 : r4 = zi 0) => ?_)
    subst hr4
    refine lv_iload hx hb dL_law_1349 (lv_at hl 1 rfl) ?_
    refine zw_icmp_eq (tgt := 1356) hx hb dL_law_1351 (by decide) ⟨by omega, by omega⟩ ⟨by omega, by omega⟩ (fun h5 => ?_) (fun h5 => ?_)
    · skip
      refine lv_iload hx hb dL_law_1356 (lv_at hl 1 rfl) ?_
      refine zw_if_ne (tgt := 1373) hx hb dL_law_1358 (by decide) ⟨by omega, by omega⟩ (fun h6 => ?_) (fun h6 => ?_)
      · skip
        exact absurd True.intro (by omega)
      · skip
        refine lv_aload_n hx hb dL_law_1361 rfl (lv_at hl 6 rfl) ?_
        refine zw_iconst hx hb dL_law_1362 ?_
        refine zw_lald hx hb hK hP 15 1 rfl rfl (by omega) (by omega) ⟨by omega, by omega⟩ dL_law_1363 ?_
        rw [zup_at]
        refine lv_iload hx hb dL_law_1364 (lv_at hl 0 rfl) ?_
        refine zw_i2l hx hb dL_law_1366 ⟨by omega, by omega⟩ ?_
        refine zw_lcmp_eq (tgt := 1373) hx hb dL_law_1367 dL_law_1368 (by decide) ⟨by omega, by omega⟩ ⟨by omega, by omega⟩ (fun h7 => ?_) (fun h7 => ?_)
        · skip
          refine lv_goto (tgt := 1499) hx hb dL_law_1373 (by decide) ?_
          subst ex3
          have hP9 : va_P (dC, dI) vwCl [(h0, .inr (4, [.ref qs, .ref qr, .ref qm, .ref qw, .ref qt, .int (zi we)])), (qs, aI cI 10 sf), (qr, .inr (0, [.int (zi mc), .ref qd, .int (zi 0)])), (qm, .inr (2, [.ref qk, .int (zi fi), .int (zi ln)])), (qk, aI cI 366 mf), (qw, .inr (1, [.ref wc, .int (zi wl)])), (wc, aI cI 20 wf), (qt, .inr (1, [.ref tc, .int (zi tl)])), (tc, aI cI 20 tf), (g0, .inr (5, [.int (zi 0), .ref ps, .int (zi 0), .ref pk, .ref pa, .ref pb, .ref pq, .int (zi we), .int (zi wl), .ref pw, .int (zi tl), .ref pt])), (ps, aI cI 10 sf), (pk, aI cI 12 kf), (pa, aI cI 12 af), (pb, aI cI 12 bf), (pq, aI cI 12 zf), (pw, aI cI 12 wf), (pt, aI cI 20 tf), (qo, aL cL 1 (zup of (Int.toNat 0) (wf ix.toNat)))] H := hP.sub (ws' := [(h0, .inr (4, [.ref qs, .ref qr, .ref qm, .ref qw, .ref qt, .int (zi we)])), (qs, aI cI 10 sf), (qr, .inr (0, [.int (zi mc), .ref qd, .int (zi 0)])), (qm, .inr (2, [.ref qk, .int (zi fi), .int (zi ln)])), (qk, aI cI 366 mf), (qw, .inr (1, [.ref wc, .int (zi wl)])), (wc, aI cI 20 wf), (qt, .inr (1, [.ref tc, .int (zi tl)])), (tc, aI cI 20 tf), (g0, .inr (5, [.int (zi 0), .ref ps, .int (zi 0), .ref pk, .ref pa, .ref pb, .ref pq, .int (zi we), .int (zi wl), .ref pw, .int (zi tl), .ref pt])), (ps, aI cI 10 sf), (pk, aI cI 12 kf), (pa, aI cI 12 af), (pb, aI cI 12 bf), (pq, aI cI 12 zf), (pw, aI cI 12 wf), (pt, aI cI 20 tf), (qo, aL cL 1 (zup of (Int.toNat 0) (wf ix.toNat)))]) [12, 0, 1, 2, 3, 13, 14, 4, 5, 16, 6, 7, 8, 9, 10, 17, 11, 15] rfl
          have hD9 : va_D A [(h0, .inr (4, [.ref qs, .ref qr, .ref qm, .ref qw, .ref qt, .int (zi we)])), (qs, aI cI 10 sf), (qr, .inr (0, [.int (zi mc), .ref qd, .int (zi 0)])), (qm, .inr (2, [.ref qk, .int (zi fi), .int (zi ln)])), (qk, aI cI 366 mf), (qw, .inr (1, [.ref wc, .int (zi wl)])), (wc, aI cI 20 wf), (qt, .inr (1, [.ref tc, .int (zi tl)])), (tc, aI cI 20 tf), (g0, .inr (5, [.int (zi 0), .ref ps, .int (zi 0), .ref pk, .ref pa, .ref pb, .ref pq, .int (zi we), .int (zi wl), .ref pw, .int (zi tl), .ref pt])), (ps, aI cI 10 sf), (pk, aI cI 12 kf), (pa, aI cI 12 af), (pb, aI cI 12 bf), (pq, aI cI 12 zf), (pw, aI cI 12 wf), (pt, aI cI 20 tf), (qo, aL cL 1 (zup of (Int.toNat 0) (wf ix.toNat)))] := hD.sub (ws' := [(h0, .inr (4, [.ref qs, .ref qr, .ref qm, .ref qw, .ref qt, .int (zi we)])), (qs, aI cI 10 sf), (qr, .inr (0, [.int (zi mc), .ref qd, .int (zi 0)])), (qm, .inr (2, [.ref qk, .int (zi fi), .int (zi ln)])), (qk, aI cI 366 mf), (qw, .inr (1, [.ref wc, .int (zi wl)])), (wc, aI cI 20 wf), (qt, .inr (1, [.ref tc, .int (zi tl)])), (tc, aI cI 20 tf), (g0, .inr (5, [.int (zi 0), .ref ps, .int (zi 0), .ref pk, .ref pa, .ref pb, .ref pq, .int (zi we), .int (zi wl), .ref pw, .int (zi tl), .ref pt])), (ps, aI cI 10 sf), (pk, aI cI 12 kf), (pa, aI cI 12 af), (pb, aI cI 12 bf), (pq, aI cI 12 zf), (pw, aI cI 12 wf), (pt, aI cI 20 tf), (qo, aL cL 1 (zup of (Int.toNat 0) (wf ix.toNat)))]) [12, 0, 1, 2, 3, 13, 14, 4, 5, 16, 6, 7, 8, 9, 10, 17, 11, 15] (by decide) rfl
          have hI9 : LI sf kf af bf zf wf tf 0 we fi ln wl tl := hI
          refine W.widen (k := ce + 2) (n := sn + 19) (by omega) (by omega) ?_
          exact K0 mc we fi ln mf sf kf af bf zf wl wf tl tf 0 (zup of (Int.toNat 0) (wf ix.toNat)) H locs ls ⟨hP9, hD9, hS, hI9⟩ (lv_sub hl [2, 3, 4, 5, 6] rfl)
        · skip
          refine zw_iconst hx hb dL_law_1371 ?_
          exact absurd True.intro (by omega)
    · skip
      exact absurd True.intro (by omega)
  · skip
    refine lv_aload_n hx hb dL_law_1320 rfl (lv_at hl 2 rfl) ?_
    refine lv_aload_n hx hb dL_law_1321 rfl (lv_at hl 1 rfl) ?_
    refine lv_iload hx hb dL_law_1322 (lv_at hl 0 rfl) ?_
    refine zw_iconst hx hb dL_law_1324 ?_
    refine zw_iadd hx hb dL_law_1325 ?_
    refine zw_scr hx hb hX hbl hbA hS (by omega) (by omega) ⟨by omega, by omega⟩ hv1 dL_law_1326 ?_
    refine lv_aload_n hx hb dL_law_1327 rfl (lv_at hl 4 rfl) ?_
    have hh1 := c_L_charAt_1 l hst dC dI cI cL h0 qs qr qm qw qt we wc wl wf qo of ix H.size (by omega) (by omega) (by omega)
    have hPc := hP.sub (ws' := [(h0, .inr (4, [.ref qs, .ref qr, .ref qm, .ref qw, .ref qt, .int (zi we)])), (qw, .inr (1, [.ref wc, .int (zi wl)])), (wc, aI cI 20 wf), (qo, aL cL 1 of)]) [0, 5, 6, 17] rfl
    have hKc : va_K (dC, dI) vwCl [(cI, .int), (cL, .long)] s := hK.sub (tys' := [(cI, .int), (cL, .long)]) [0, 1] rfl
    have hDc := hD.sub (ws' := [(h0, .inr (4, [.ref qs, .ref qr, .ref qm, .ref qw, .ref qt, .int (zi we)])), (qw, .inr (1, [.ref wc, .int (zi wl)])), (wc, aI cI 20 wf), (qo, aL cL 1 of)]) [0, 5, 6, 17] (by decide) rfl
    have hFc := va_free (wc := [(h0, .inr (4, [.ref qs, .ref qr, .ref qm, .ref qw, .ref qt, .int (zi we)])), (qw, .inr (1, [.ref wc, .int (zi wl)])), (wc, aI cI 20 wf), (qo, aL cL 1 of)]) hD hS hA [0, 5, 6, 17] rfl
    refine va_calli (vx_runSW (As := [.ref h0, .int (zi ix), .ref qo]) (rest := []) ⟨hx, hb, hml, hown, hts⟩ hh1 (vx_cwSW 3 hts gL_law_L_charAt rfl rfl rfl (by decide +kernel) ⟨Nat.le_of_ble_eq_true rfl, Nat.le_of_ble_eq_true rfl⟩) ⟨zPx.blind _ _ _ _ _, fun U hU hW => ⟨rfl, by rw [hU], hE.call hS (fun q h => hA q (Nat.le_trans hS.1 (by rw [hU] at h; exact h))) hU hW, by rw [hU]; exact hPc, va_K.moved hW.alike hKc, hDc.weaken (fun _ _ _ _ => trivial)⟩⟩ rfl rfl hl.1 rfl (lv_room (Nat.le_of_ble_eq_true rfl)) dL_law_1328 ⟨by show _ ≤ 601024; omega, by show _ ≤ 7293033; omega⟩) hS (fun q _ h => hFc q h) hFc (fun r1 u t H1 locs ht hvm hw hB hz1 hk1 hS => ?_)
    obtain ⟨hP1, hK1, hD1⟩ := hB
    rw [ht] at hP1
    obtain ⟨hP, hD⟩ := va_join (wr := [(qs, aI cI 10 sf), (qr, .inr (0, [.int (zi mc), .ref qd, .int (zi 0)])), (qm, .inr (2, [.ref qk, .int (zi fi), .int (zi ln)])), (qk, aI cI 366 mf), (qt, .inr (1, [.ref tc, .int (zi tl)])), (tc, aI cI 20 tf), (g0, .inr (5, [.int (zi co), .ref ps, .int (zi 0), .ref pk, .ref pa, .ref pb, .ref pq, .int (zi we), .int (zi wl), .ref pw, .int (zi tl), .ref pt])), (ps, aI cI 10 sf), (pk, aI cI 12 kf), (pa, aI cI 12 af), (pb, aI cI 12 bf), (pq, aI cI 12 zf), (pw, aI cI 12 wf), (pt, aI cI 20 tf)]) (w1 := [(h0, .inr (4, [.ref qs, .ref qr, .ref qm, .ref qw, .ref qt, .int (zi we)])), (qw, .inr (1, [.ref wc, .int (zi wl)])), (wc, aI cI 20 wf), (qo, aL cL 1 of)]) hP hD [0, 5, 6, 17] [1, 2, 3, 4, 7, 8, 9, 10, 11, 12, 13, 14, 15, 16] rfl rfl (by decide) (by decide) hk1 hFc hP1 hD1
    generalize H1 = H at hP hS ⊢
    obtain rfl : r1 = zi 1 := hw
    have hP : va_P (dC, dI) vwCl [(qs, aI cI 10 sf), (qr, .inr (0, [.int (zi mc), .ref qd, .int (zi 0)])), (qm, .inr (2, [.ref qk, .int (zi fi), .int (zi ln)])), (qk, aI cI 366 mf), (qt, .inr (1, [.ref tc, .int (zi tl)])), (tc, aI cI 20 tf), (g0, .inr (5, [.int (zi co), .ref ps, .int (zi 0), .ref pk, .ref pa, .ref pb, .ref pq, .int (zi we), .int (zi wl), .ref pw, .int (zi tl), .ref pt])), (ps, aI cI 10 sf), (pk, aI cI 12 kf), (pa, aI cI 12 af), (pb, aI cI 12 bf), (pq, aI cI 12 zf), (pw, aI cI 12 wf), (pt, aI cI 20 tf), (h0, .inr (4, [.ref qs, .ref qr, .ref qm, .ref qw, .ref qt, .int (zi we)])), (qw, .inr (1, [.ref wc, .int (zi wl)])), (wc, aI cI 20 wf), (qo, aL cL 1 of)] H := hP
    have hD : va_D A [(qs, aI cI 10 sf), (qr, .inr (0, [.int (zi mc), .ref qd, .int (zi 0)])), (qm, .inr (2, [.ref qk, .int (zi fi), .int (zi ln)])), (qk, aI cI 366 mf), (qt, .inr (1, [.ref tc, .int (zi tl)])), (tc, aI cI 20 tf), (g0, .inr (5, [.int (zi co), .ref ps, .int (zi 0), .ref pk, .ref pa, .ref pb, .ref pq, .int (zi we), .int (zi wl), .ref pw, .int (zi tl), .ref pt])), (ps, aI cI 10 sf), (pk, aI cI 12 kf), (pa, aI cI 12 af), (pb, aI cI 12 bf), (pq, aI cI 12 zf), (pw, aI cI 12 wf), (pt, aI cI 20 tf), (h0, .inr (4, [.ref qs, .ref qr, .ref qm, .ref qw, .ref qt, .int (zi we)])), (qw, .inr (1, [.ref wc, .int (zi wl)])), (wc, aI cI 20 wf), (qo, aL cL 1 of)] := hD
    refine lv_istore (lv' := [(5, .int (zi 1)), (4, .int (zi ii)), (0, .ref b), (1, .ref h0), (2, .ref g0), (3, .ref qo)]) hx hb dL_law_1331 hl (by decide) rfl (fun ls hl => ?_)
    refine lv_aload_n hx hb dL_law_1333 rfl (lv_at hl 4 rfl) ?_
    refine lv_aload_n hx hb dL_law_1334 rfl (lv_at hl 2 rfl) ?_
    refine lv_iload hx hb dL_law_1335 (lv_at hl 1 rfl) ?_
    refine zw_iconst hx hb dL_law_1337 ?_
    refine zw_iadd hx hb dL_law_1338 ?_
    refine zw_scr hx hb hX hbl hbA hS (by omega) (by omega) ⟨by omega, by omega⟩ hv1 dL_law_1339 ?_
    have hh2 := c_X5_charAt_1 l dC dI cI g0 ps pk pa pb pq pw pt co 0 we wl tl wf ix H.size (by omega) (by omega) (by omega)
    have hPc := hP.sub (ws' := [(g0, .inr (5, [.int (zi co), .ref ps, .int (zi 0), .ref pk, .ref pa, .ref pb, .ref pq, .int (zi we), .int (zi wl), .ref pw, .int (zi tl), .ref pt])), (pw, aI cI 12 wf)]) [6, 12] rfl
    have hKc : va_K (dC, dI) vwCl [(cI, .int)] s := hK.sub (tys' := [(cI, .int)]) [0] rfl
    have hDc := hD.sub (ws' := [(g0, .inr (5, [.int (zi co), .ref ps, .int (zi 0), .ref pk, .ref pa, .ref pb, .ref pq, .int (zi we), .int (zi wl), .ref pw, .int (zi tl), .ref pt])), (pw, aI cI 12 wf)]) [6, 12] (by decide) rfl
    have hFc := va_free (wc := [(g0, .inr (5, [.int (zi co), .ref ps, .int (zi 0), .ref pk, .ref pa, .ref pb, .ref pq, .int (zi we), .int (zi wl), .ref pw, .int (zi tl), .ref pt])), (pw, aI cI 12 wf)]) hD hS hA [6, 12] rfl
    refine va_calli (va_runV (As := [.int (zi ix)]) (rest := []) ⟨hx, hb, hml, hown, hts⟩ hh2 (cwV 1 hts gL_law_X5_charAt rfl rfl rfl (by decide +kernel) ⟨Nat.le_of_ble_eq_true rfl, Nat.le_of_ble_eq_true rfl⟩) ⟨zPw.blind _ _ _ _ _, va_recv hKc hPc (ci := 5) (q0 := 0) rfl rfl, fun U hU hW => ⟨rfl, by rw [hU], by rw [hU]; exact hPc, va_K.moved hW.alike hKc, hDc.weaken (fun _ _ _ _ => trivial)⟩⟩ rfl rfl hl.1 rfl (lv_room (Nat.le_of_ble_eq_true rfl)) dL_law_1340 ⟨by show _ ≤ 601024; omega, by show _ ≤ 7293033; omega⟩) hS (fun q _ h => hFc q h) hFc (fun r2 u t H1 locs ht hvm hw hB hz1 hk1 hS => ?_)
    obtain ⟨hP1, hK1, hD1⟩ := hB
    rw [ht] at hP1
    obtain ⟨hP, hD⟩ := va_join (wr := [(qs, aI cI 10 sf), (qr, .inr (0, [.int (zi mc), .ref qd, .int (zi 0)])), (qm, .inr (2, [.ref qk, .int (zi fi), .int (zi ln)])), (qk, aI cI 366 mf), (qt, .inr (1, [.ref tc, .int (zi tl)])), (tc, aI cI 20 tf), (ps, aI cI 10 sf), (pk, aI cI 12 kf), (pa, aI cI 12 af), (pb, aI cI 12 bf), (pq, aI cI 12 zf), (pt, aI cI 20 tf), (h0, .inr (4, [.ref qs, .ref qr, .ref qm, .ref qw, .ref qt, .int (zi we)])), (qw, .inr (1, [.ref wc, .int (zi wl)])), (wc, aI cI 20 wf), (qo, aL cL 1 of)]) (w1 := [(g0, .inr (5, [.int (zi 1), .ref ps, .int (zi 0), .ref pk, .ref pa, .ref pb, .ref pq, .int (zi we), .int (zi wl), .ref pw, .int (zi tl), .ref pt])), (pw, aI cI 12 wf)]) hP hD [6, 12] [0, 1, 2, 3, 4, 5, 7, 8, 9, 10, 11, 13, 14, 15, 16, 17] rfl rfl (by decide) (by decide) hk1 hFc hP1 hD1
    generalize H1 = H at hP hS ⊢
    obtain rfl : r2 = zi 0 := hw
    have hP : va_P (dC, dI) vwCl [(qs, aI cI 10 sf), (qr, .inr (0, [.int (zi mc), .ref qd, .int (zi 0)])), (qm, .inr (2, [.ref qk, .int (zi fi), .int (zi ln)])), (qk, aI cI 366 mf), (qt, .inr (1, [.ref tc, .int (zi tl)])), (tc, aI cI 20 tf), (ps, aI cI 10 sf), (pk, aI cI 12 kf), (pa, aI cI 12 af), (pb, aI cI 12 bf), (pq, aI cI 12 zf), (pt, aI cI 20 tf), (h0, .inr (4, [.ref qs, .ref qr, .ref qm, .ref qw, .ref qt, .int (zi we)])), (qw, .inr (1, [.ref wc, .int (zi wl)])), (wc, aI cI 20 wf), (qo, aL cL 1 of), (g0, .inr (5, [.int (zi 1), .ref ps, .int (zi 0), .ref pk, .ref pa, .ref pb, .ref pq, .int (zi we), .int (zi wl), .ref pw, .int (zi tl), .ref pt])), (pw, aI cI 12 wf)] H := hP
    have hD : va_D A [(qs, aI cI 10 sf), (qr, .inr (0, [.int (zi mc), .ref qd, .int (zi 0)])), (qm, .inr (2, [.ref qk, .int (zi fi), .int (zi ln)])), (qk, aI cI 366 mf), (qt, .inr (1, [.ref tc, .int (zi tl)])), (tc, aI cI 20 tf), (ps, aI cI 10 sf), (pk, aI cI 12 kf), (pa, aI cI 12 af), (pb, aI cI 12 bf), (pq, aI cI 12 zf), (pt, aI cI 20 tf), (h0, .inr (4, [.ref qs, .ref qr, .ref qm, .ref qw, .ref qt, .int (zi we)])), (qw, .inr (1, [.ref wc, .int (zi wl)])), (wc, aI cI 20 wf), (qo, aL cL 1 of), (g0, .inr (5, [.int (zi 1), .ref ps, .int (zi 0), .ref pk, .ref pa, .ref pb, .ref pq, .int (zi we), .int (zi wl), .ref pw, .int (zi tl), .ref pt])), (pw, aI cI 12 wf)] := hD
    refine lv_istore (lv' := [(6, .int (zi 0)), (5, .int (zi 1)), (4, .int (zi ii)), (0, .ref b), (1, .ref h0), (2, .ref g0), (3, .ref qo)]) hx hb dL_law_1343 hl (by decide) rfl (fun ls hl => ?_)
    refine lv_aload_n hx hb dL_law_1345 rfl (lv_at hl 5 rfl) ?_
    have hh3 := c_X5_thrown l dC dI cI g0 ps pk pa pb pq pw pt 1 0 we wl tl sf 
    have hPc := hP.sub (ws' := [(g0, .inr (5, [.int (zi 1), .ref ps, .int (zi 0), .ref pk, .ref pa, .ref pb, .ref pq, .int (zi we), .int (zi wl), .ref pw, .int (zi tl), .ref pt])), (ps, aI cI 10 sf)]) [16, 6] rfl
    have hKc : va_K (dC, dI) vwCl [(cI, .int)] s := hK.sub (tys' := [(cI, .int)]) [0] rfl
    refine vp_callSi (va_Run.run (va_runV (As := []) (rest := []) ⟨hx, hb, hml, hown, hts⟩ hh3 (cwV 0 hts gL_law_X5_thrown rfl rfl rfl (by decide +kernel) ⟨Nat.le_of_ble_eq_true rfl, Nat.le_of_ble_eq_true rfl⟩) ⟨zPr.blind _ _ _ _, va_recv hKc hPc (ci := 5) (q0 := 0) rfl rfl, fun U hU hW => ⟨rfl, by rw [hU]; exact hPc, va_K.moved hW.alike hKc⟩⟩ rfl rfl hl.1 rfl (lv_room (Nat.le_of_ble_eq_true rfl)) dL_law_1346 ⟨by show _ ≤ 601024; omega, by show _ ≤ 7293033; omega⟩)) (fun r3 (hr3 : r3 = zi 1) => ?_)
    subst hr3
    refine lv_iload hx hb dL_law_1349 (lv_at hl 1 rfl) ?_
    refine zw_icmp_eq (tgt := 1356) hx hb dL_law_1351 (by decide) ⟨by omega, by omega⟩ ⟨by omega, by omega⟩ (fun h4 => ?_) (fun h4 => ?_)
    · skip
      refine lv_iload hx hb dL_law_1356 (lv_at hl 1 rfl) ?_
      refine zw_if_ne (tgt := 1373) hx hb dL_law_1358 (by decide) ⟨by omega, by omega⟩ (fun h5 => ?_) (fun h5 => ?_)
      · skip
        refine lv_goto (tgt := 1499) hx hb dL_law_1373 (by decide) ?_
        have hP9 : va_P (dC, dI) vwCl [(h0, .inr (4, [.ref qs, .ref qr, .ref qm, .ref qw, .ref qt, .int (zi we)])), (qs, aI cI 10 sf), (qr, .inr (0, [.int (zi mc), .ref qd, .int (zi 0)])), (qm, .inr (2, [.ref qk, .int (zi fi), .int (zi ln)])), (qk, aI cI 366 mf), (qw, .inr (1, [.ref wc, .int (zi wl)])), (wc, aI cI 20 wf), (qt, .inr (1, [.ref tc, .int (zi tl)])), (tc, aI cI 20 tf), (g0, .inr (5, [.int (zi 1), .ref ps, .int (zi 0), .ref pk, .ref pa, .ref pb, .ref pq, .int (zi we), .int (zi wl), .ref pw, .int (zi tl), .ref pt])), (ps, aI cI 10 sf), (pk, aI cI 12 kf), (pa, aI cI 12 af), (pb, aI cI 12 bf), (pq, aI cI 12 zf), (pw, aI cI 12 wf), (pt, aI cI 20 tf), (qo, aL cL 1 of)] H := hP.sub (ws' := [(h0, .inr (4, [.ref qs, .ref qr, .ref qm, .ref qw, .ref qt, .int (zi we)])), (qs, aI cI 10 sf), (qr, .inr (0, [.int (zi mc), .ref qd, .int (zi 0)])), (qm, .inr (2, [.ref qk, .int (zi fi), .int (zi ln)])), (qk, aI cI 366 mf), (qw, .inr (1, [.ref wc, .int (zi wl)])), (wc, aI cI 20 wf), (qt, .inr (1, [.ref tc, .int (zi tl)])), (tc, aI cI 20 tf), (g0, .inr (5, [.int (zi 1), .ref ps, .int (zi 0), .ref pk, .ref pa, .ref pb, .ref pq, .int (zi we), .int (zi wl), .ref pw, .int (zi tl), .ref pt])), (ps, aI cI 10 sf), (pk, aI cI 12 kf), (pa, aI cI 12 af), (pb, aI cI 12 bf), (pq, aI cI 12 zf), (pw, aI cI 12 wf), (pt, aI cI 20 tf), (qo, aL cL 1 of)]) [12, 0, 1, 2, 3, 13, 14, 4, 5, 16, 6, 7, 8, 9, 10, 17, 11, 15] rfl
        have hD9 : va_D A [(h0, .inr (4, [.ref qs, .ref qr, .ref qm, .ref qw, .ref qt, .int (zi we)])), (qs, aI cI 10 sf), (qr, .inr (0, [.int (zi mc), .ref qd, .int (zi 0)])), (qm, .inr (2, [.ref qk, .int (zi fi), .int (zi ln)])), (qk, aI cI 366 mf), (qw, .inr (1, [.ref wc, .int (zi wl)])), (wc, aI cI 20 wf), (qt, .inr (1, [.ref tc, .int (zi tl)])), (tc, aI cI 20 tf), (g0, .inr (5, [.int (zi 1), .ref ps, .int (zi 0), .ref pk, .ref pa, .ref pb, .ref pq, .int (zi we), .int (zi wl), .ref pw, .int (zi tl), .ref pt])), (ps, aI cI 10 sf), (pk, aI cI 12 kf), (pa, aI cI 12 af), (pb, aI cI 12 bf), (pq, aI cI 12 zf), (pw, aI cI 12 wf), (pt, aI cI 20 tf), (qo, aL cL 1 of)] := hD.sub (ws' := [(h0, .inr (4, [.ref qs, .ref qr, .ref qm, .ref qw, .ref qt, .int (zi we)])), (qs, aI cI 10 sf), (qr, .inr (0, [.int (zi mc), .ref qd, .int (zi 0)])), (qm, .inr (2, [.ref qk, .int (zi fi), .int (zi ln)])), (qk, aI cI 366 mf), (qw, .inr (1, [.ref wc, .int (zi wl)])), (wc, aI cI 20 wf), (qt, .inr (1, [.ref tc, .int (zi tl)])), (tc, aI cI 20 tf), (g0, .inr (5, [.int (zi 1), .ref ps, .int (zi 0), .ref pk, .ref pa, .ref pb, .ref pq, .int (zi we), .int (zi wl), .ref pw, .int (zi tl), .ref pt])), (ps, aI cI 10 sf), (pk, aI cI 12 kf), (pa, aI cI 12 af), (pb, aI cI 12 bf), (pq, aI cI 12 zf), (pw, aI cI 12 wf), (pt, aI cI 20 tf), (qo, aL cL 1 of)]) [12, 0, 1, 2, 3, 13, 14, 4, 5, 16, 6, 7, 8, 9, 10, 17, 11, 15] (by decide) rfl
        have hI9 : LI sf kf af bf zf wf tf 0 we fi ln wl tl := hI
        refine W.widen (k := ce + 2) (n := sn + 19) (by omega) (by omega) ?_
        exact K0 mc we fi ln mf sf kf af bf zf wl wf tl tf 1 of H locs ls ⟨hP9, hD9, hS, hI9⟩ (lv_sub hl [2, 3, 4, 5, 6] rfl)
      · skip
        exact absurd True.intro (by omega)
    · skip
      exact absurd True.intro (by omega)
