/-! THE LAW'S CASE read -/
set_option maxHeartbeats 4000000 in
set_option maxRecDepth 100000 in
theorem law0_read {p : Program} {l : Launch} {e : Env} {s : State} {m : MethodId} {below : List Frame} {meth : Method} {c : Code} {b : Nat} {L : Nat} {xs : Nat → Int32} {dC : Nat → ClassId} {dI : Nat → Nat → Nat} {cI : ClassId} {cL : ClassId} {cO : ClassId} {qd : Nat} {mi : Nat} {x0 : Nat} {v0 : Nat} {x1 : Nat} {v1 : Nat} {x2 : Nat} {v2 : Nat} {qy : Option Nat} {A : Nat → Prop} {h0 qs qr qm qw qt qk wc tc g0 ps pk pa pb pq pw pt qo : Nat} {mc : Int} {we : Int} {fi : Int} {ln : Int} {mf : Nat → Int} {sf : Nat → Int} {kf : Nat → Int} {af : Nat → Int} {bf : Nat → Int} {zf : Nat → Int} {wl : Int} {wf : Nat → Int} {tl : Int} {tf : Nat → Int} {co : Int} {of : Nat → Int} {ii : Int} {ce sn : Nat} {H : Heap} {locs : List Loc} {ls : Array Slot} (C : LC p l e s m below meth c b L xs dC dI cI cL cO qd mi x0 v0 x1 v1 x2 v2 qy A) (hLS : LS0 s dC dI cI cL cO qd A h0 qs qr qm qw qt qk wc tc g0 ps pk pa pb pq pw pt qo mc we fi ln mf sf kf af bf zf wl wf tl tf co of H locs) (K1 : LK1 p l e s m below meth c b L xs dC dI cI cL cO qd mi x0 v0 x1 v1 x2 v2 qy A h0 qs qr qm qw qt qk wc tc g0 ps pk pa pb pq pw pt qo ii ce sn) (K0 : LK0 p l e s m below meth c b L xs dC dI cI cL cO qd mi x0 v0 x1 v1 x2 v2 qy A h0 qs qr qm qw qt qk wc tc g0 ps pk pa pb pq pw pt qo ii ce sn) (hii : 0 ≤ ii ∧ ii + 6 ≤ (L : Int)) (hce : ce ≤ 601000) (hsn : sn ≤ 7293000) (hl : lv_has ls 7 [(4, .int (zi ii)), (0, .ref b), (1, .ref h0), (2, .ref g0), (3, .ref qo)]) : W p l e room_1 s m #[Value.ref b] below meth c H locs ce sn (lw_Z below #[Value.ref b] s) (F0 m 1432 ls []) := by
  obtain ⟨hx, hb, hml, hown, hts, hst, hK, hE, hO, h3, hX, hbl, hbA, hA, hL⟩ := C
  obtain ⟨hP, hD, hS, hI⟩ := hLS
  have rf : Nat → Nat := fun _ => 0
  obtain ⟨sl, hv1⟩ : ∃ z : Int, z = (xs (ii + 1).toNat).toInt := ⟨_, rfl⟩
  have hb1 : -2147483648 ≤ sl ∧ sl ≤ 2147483647 := by rw [hv1]; exact scr_b _
  have hI1 := hI.rub
  have hI2 := hI.web
  have hI3 := hI.mkb
  have hI4 := hI.wlb
  have hI5 := hI.tlb
  by_cases h1 : 0 ≤ sl ∧ sl ≤ 9
  · skip
    have hbt := b_X4_typedText tf tl hI5
    have het := e_typed tf tl hI5
    have hzt := c9_ztx (bX5 tf tl) lX5 tl
    have hzf := c9_zfa (bX5 tf tl) 3
    by_cases h2 : ztx (bX5 tf tl) lX5 tl 3 = -1
    · skip
      rw [if_pos h2] at het
      refine lv_aload_n hx hb dL_law_1432 rfl (lv_at hl 2 rfl) ?_
      refine lv_aload_n hx hb dL_law_1433 rfl (lv_at hl 1 rfl) ?_
      refine lv_iload hx hb dL_law_1434 (lv_at hl 0 rfl) ?_
      refine zw_iconst hx hb dL_law_1436 ?_
      refine zw_iadd hx hb dL_law_1437 ?_
      refine zw_scr hx hb hX hbl hbA hS (by omega) (by omega) ⟨by omega, by omega⟩ hv1 dL_law_1438 ?_
      refine lv_aload_n hx hb dL_law_1439 rfl (lv_at hl 4 rfl) ?_
      have hh1 := c_L_read_n l dC dI cI cL cO h0 qs qr qm qw qt we sf tc tl tf qo of sl x0 v0 x1 v1 x2 v2 qy H.size (by omega) (by omega) (by exact hI.tfb) (by omega)
      have hPc := hP.sub (ws' := [(h0, .inr (4, [.ref qs, .ref qr, .ref qm, .ref qw, .ref qt, .int (zi we)])), (qs, aI cI 10 sf), (qt, .inr (1, [.ref tc, .int (zi tl)])), (tc, aI cI 20 tf), (qo, aL cL 1 of)]) [0, 1, 7, 8, 17] rfl
      have hKc : va_K (dC, dI) vwCl [(cI, .int), (cL, .long), (cO, .object "java/lang/Object")] s := hK
      have hDc := hD.sub (ws' := [(h0, .inr (4, [.ref qs, .ref qr, .ref qm, .ref qw, .ref qt, .int (zi we)])), (qs, aI cI 10 sf), (qt, .inr (1, [.ref tc, .int (zi tl)])), (tc, aI cI 20 tf), (qo, aL cL 1 of)]) [0, 1, 7, 8, 17] (by decide) rfl
      have hFc := va_free (wc := [(h0, .inr (4, [.ref qs, .ref qr, .ref qm, .ref qw, .ref qt, .int (zi we)])), (qs, aI cI 10 sf), (qt, .inr (1, [.ref tc, .int (zi tl)])), (tc, aI cI 20 tf), (qo, aL cL 1 of)]) hD hS hA [0, 1, 7, 8, 17] rfl
      refine va_calli (vx_runSW (As := [.ref h0, .int (zi sl), .ref qo]) (rest := []) ⟨hx, hb, hml, hown, hts⟩ hh1 (vx_cwSW 3 hts gL_law_L_read rfl rfl rfl (by decide +kernel) ⟨Nat.le_of_ble_eq_true rfl, Nat.le_of_ble_eq_true rfl⟩) ⟨zPwF.blind _ _ _ _ _ zP3_ok, fun U hU hW => ⟨rfl, by rw [hU], by rw [hU]; exact hPc, va_K.moved hW.alike hKc, hDc.weaken (fun _ _ _ _ => trivial), zF.call zP3_ok h3 hS hFc hU hW⟩⟩ rfl rfl hl.1 rfl (lv_room (Nat.le_of_ble_eq_true rfl)) dL_law_1440 ⟨by show _ ≤ 601024; omega, by show _ ≤ 7293033; omega⟩) hS (fun q _ h => hFc q h) hFc (fun r1 u t H1 locs ht hvm hw hB hz1 hk1 hS => ?_)
      obtain ⟨hP1, hK1, hD1⟩ := hB
      rw [ht] at hP1
      obtain ⟨hP, hD⟩ := va_join (wr := [(qr, .inr (0, [.int (zi mc), .ref qd, .int (zi 0)])), (qm, .inr (2, [.ref qk, .int (zi fi), .int (zi ln)])), (qk, aI cI 366 mf), (qw, .inr (1, [.ref wc, .int (zi wl)])), (wc, aI cI 20 wf), (g0, .inr (5, [.int (zi co), .ref ps, .int (zi 0), .ref pk, .ref pa, .ref pb, .ref pq, .int (zi we), .int (zi wl), .ref pw, .int (zi tl), .ref pt])), (ps, aI cI 10 sf), (pk, aI cI 12 kf), (pa, aI cI 12 af), (pb, aI cI 12 bf), (pq, aI cI 12 zf), (pw, aI cI 12 wf), (pt, aI cI 20 tf)]) (w1 := [(h0, .inr (4, [.ref qs, .ref qr, .ref qm, .ref qw, .ref qt, .int (zi we)])), (qs, aI cI 10 sf), (qt, .inr (1, [.ref tc, .int (zi 0)])), (tc, aI cI 20 tf), (qo, aL cL 1 (zup of (Int.toNat 0) (f_X4_typedText tf tl)))]) hP hD [0, 1, 7, 8, 17] [2, 3, 4, 5, 6, 9, 10, 11, 12, 13, 14, 15, 16] rfl rfl (by decide) (by decide) hk1 hFc hP1 hD1
      generalize H1 = H at hP hS ⊢
      obtain rfl : r1 = zi 0 := hw
      have hP : va_P (dC, dI) vwCl [(qr, .inr (0, [.int (zi mc), .ref qd, .int (zi 0)])), (qm, .inr (2, [.ref qk, .int (zi fi), .int (zi ln)])), (qk, aI cI 366 mf), (qw, .inr (1, [.ref wc, .int (zi wl)])), (wc, aI cI 20 wf), (g0, .inr (5, [.int (zi co), .ref ps, .int (zi 0), .ref pk, .ref pa, .ref pb, .ref pq, .int (zi we), .int (zi wl), .ref pw, .int (zi tl), .ref pt])), (ps, aI cI 10 sf), (pk, aI cI 12 kf), (pa, aI cI 12 af), (pb, aI cI 12 bf), (pq, aI cI 12 zf), (pw, aI cI 12 wf), (pt, aI cI 20 tf), (h0, .inr (4, [.ref qs, .ref qr, .ref qm, .ref qw, .ref qt, .int (zi we)])), (qs, aI cI 10 sf), (qt, .inr (1, [.ref tc, .int (zi 0)])), (tc, aI cI 20 tf), (qo, aL cL 1 (zup of (Int.toNat 0) (f_X4_typedText tf tl)))] H := hP
      have hD : va_D A [(qr, .inr (0, [.int (zi mc), .ref qd, .int (zi 0)])), (qm, .inr (2, [.ref qk, .int (zi fi), .int (zi ln)])), (qk, aI cI 366 mf), (qw, .inr (1, [.ref wc, .int (zi wl)])), (wc, aI cI 20 wf), (g0, .inr (5, [.int (zi co), .ref ps, .int (zi 0), .ref pk, .ref pa, .ref pb, .ref pq, .int (zi we), .int (zi wl), .ref pw, .int (zi tl), .ref pt])), (ps, aI cI 10 sf), (pk, aI cI 12 kf), (pa, aI cI 12 af), (pb, aI cI 12 bf), (pq, aI cI 12 zf), (pw, aI cI 12 wf), (pt, aI cI 20 tf), (h0, .inr (4, [.ref qs, .ref qr, .ref qm, .ref qw, .ref qt, .int (zi we)])), (qs, aI cI 10 sf), (qt, .inr (1, [.ref tc, .int (zi 0)])), (tc, aI cI 20 tf), (qo, aL cL 1 (zup of (Int.toNat 0) (f_X4_typedText tf tl)))] := hD
      refine lv_istore (lv' := [(5, .int (zi 0)), (4, .int (zi ii)), (0, .ref b), (1, .ref h0), (2, .ref g0), (3, .ref qo)]) hx hb dL_law_1443 hl (by decide) rfl (fun ls hl => ?_)
      refine lv_aload_n hx hb dL_law_1445 rfl (lv_at hl 4 rfl) ?_
      refine lv_aload_n hx hb dL_law_1446 rfl (lv_at hl 2 rfl) ?_
      refine lv_iload hx hb dL_law_1447 (lv_at hl 1 rfl) ?_
      refine zw_iconst hx hb dL_law_1449 ?_
      refine zw_iadd hx hb dL_law_1450 ?_
      refine zw_scr hx hb hX hbl hbA hS (by omega) (by omega) ⟨by omega, by omega⟩ hv1 dL_law_1451 ?_
      have hh2 := c_X5_read_n l dC dI cI g0 ps pk pa pb pq pw pt co 0 we wl tl sf tf sl H.size (by omega) (by omega) (by omega) (by exact hI.tfb) (by omega)
      have hPc := hP.sub (ws' := [(g0, .inr (5, [.int (zi co), .ref ps, .int (zi 0), .ref pk, .ref pa, .ref pb, .ref pq, .int (zi we), .int (zi wl), .ref pw, .int (zi tl), .ref pt])), (ps, aI cI 10 sf), (pt, aI cI 20 tf)]) [5, 6, 12] rfl
      have hKc : va_K (dC, dI) vwCl [(cI, .int)] s := hK.sub (tys' := [(cI, .int)]) [0] rfl
      have hDc := hD.sub (ws' := [(g0, .inr (5, [.int (zi co), .ref ps, .int (zi 0), .ref pk, .ref pa, .ref pb, .ref pq, .int (zi we), .int (zi wl), .ref pw, .int (zi tl), .ref pt])), (ps, aI cI 10 sf), (pt, aI cI 20 tf)]) [5, 6, 12] (by decide) rfl
      have hFc := va_free (wc := [(g0, .inr (5, [.int (zi co), .ref ps, .int (zi 0), .ref pk, .ref pa, .ref pb, .ref pq, .int (zi we), .int (zi wl), .ref pw, .int (zi tl), .ref pt])), (ps, aI cI 10 sf), (pt, aI cI 20 tf)]) hD hS hA [5, 6, 12] rfl
      refine va_calli (va_runV (As := [.int (zi sl)]) (rest := []) ⟨hx, hb, hml, hown, hts⟩ hh2 (cwV 1 hts gL_law_X5_read rfl rfl rfl (by decide +kernel) ⟨Nat.le_of_ble_eq_true rfl, Nat.le_of_ble_eq_true rfl⟩) ⟨zPw.blind _ _ _ _ _, va_recv hKc hPc (ci := 5) (q0 := 0) rfl rfl, fun U hU hW => ⟨rfl, by rw [hU], by rw [hU]; exact hPc, va_K.moved hW.alike hKc, hDc.weaken (fun _ _ _ _ => trivial)⟩⟩ rfl rfl hl.1 rfl (lv_room (Nat.le_of_ble_eq_true rfl)) dL_law_1452 ⟨by show _ ≤ 601024; omega, by show _ ≤ 7293033; omega⟩) hS (fun q _ h => hFc q h) hFc (fun r2 u t H1 locs ht hvm hw hB hz1 hk1 hS => ?_)
      obtain ⟨hP1, hK1, hD1⟩ := hB
      rw [ht] at hP1
      obtain ⟨hP, hD⟩ := va_join (wr := [(qr, .inr (0, [.int (zi mc), .ref qd, .int (zi 0)])), (qm, .inr (2, [.ref qk, .int (zi fi), .int (zi ln)])), (qk, aI cI 366 mf), (qw, .inr (1, [.ref wc, .int (zi wl)])), (wc, aI cI 20 wf), (pk, aI cI 12 kf), (pa, aI cI 12 af), (pb, aI cI 12 bf), (pq, aI cI 12 zf), (pw, aI cI 12 wf), (h0, .inr (4, [.ref qs, .ref qr, .ref qm, .ref qw, .ref qt, .int (zi we)])), (qs, aI cI 10 sf), (qt, .inr (1, [.ref tc, .int (zi 0)])), (tc, aI cI 20 tf), (qo, aL cL 1 (zup of (Int.toNat 0) (f_X4_typedText tf tl)))]) (w1 := [(g0, .inr (5, [.int (zi 0), .ref ps, .int (zi 0), .ref pk, .ref pa, .ref pb, .ref pq, .int (zi we), .int (zi wl), .ref pw, .int (zi 0), .ref pt])), (ps, aI cI 10 sf), (pt, aI cI 20 tf)]) hP hD [5, 6, 12] [0, 1, 2, 3, 4, 7, 8, 9, 10, 11, 13, 14, 15, 16, 17] rfl rfl (by decide) (by decide) hk1 hFc hP1 hD1
      generalize H1 = H at hP hS ⊢
      obtain rfl : r2 = zi (-1 - zfa (bX5 tf tl) 3) := hw
      have hP : va_P (dC, dI) vwCl [(qr, .inr (0, [.int (zi mc), .ref qd, .int (zi 0)])), (qm, .inr (2, [.ref qk, .int (zi fi), .int (zi ln)])), (qk, aI cI 366 mf), (qw, .inr (1, [.ref wc, .int (zi wl)])), (wc, aI cI 20 wf), (pk, aI cI 12 kf), (pa, aI cI 12 af), (pb, aI cI 12 bf), (pq, aI cI 12 zf), (pw, aI cI 12 wf), (h0, .inr (4, [.ref qs, .ref qr, .ref qm, .ref qw, .ref qt, .int (zi we)])), (qs, aI cI 10 sf), (qt, .inr (1, [.ref tc, .int (zi 0)])), (tc, aI cI 20 tf), (qo, aL cL 1 (zup of (Int.toNat 0) (f_X4_typedText tf tl))), (g0, .inr (5, [.int (zi 0), .ref ps, .int (zi 0), .ref pk, .ref pa, .ref pb, .ref pq, .int (zi we), .int (zi wl), .ref pw, .int (zi 0), .ref pt])), (ps, aI cI 10 sf), (pt, aI cI 20 tf)] H := hP
      have hD : va_D A [(qr, .inr (0, [.int (zi mc), .ref qd, .int (zi 0)])), (qm, .inr (2, [.ref qk, .int (zi fi), .int (zi ln)])), (qk, aI cI 366 mf), (qw, .inr (1, [.ref wc, .int (zi wl)])), (wc, aI cI 20 wf), (pk, aI cI 12 kf), (pa, aI cI 12 af), (pb, aI cI 12 bf), (pq, aI cI 12 zf), (pw, aI cI 12 wf), (h0, .inr (4, [.ref qs, .ref qr, .ref qm, .ref qw, .ref qt, .int (zi we)])), (qs, aI cI 10 sf), (qt, .inr (1, [.ref tc, .int (zi 0)])), (tc, aI cI 20 tf), (qo, aL cL 1 (zup of (Int.toNat 0) (f_X4_typedText tf tl))), (g0, .inr (5, [.int (zi 0), .ref ps, .int (zi 0), .ref pk, .ref pa, .ref pb, .ref pq, .int (zi we), .int (zi wl), .ref pw, .int (zi 0), .ref pt])), (ps, aI cI 10 sf), (pt, aI cI 20 tf)] := hD
      refine zw_top (fun x3 ex3 => ?_)
      refine lv_istore (lv' := [(6, .int (zi x3)), (5, .int (zi 0)), (4, .int (zi ii)), (0, .ref b), (1, .ref h0), (2, .ref g0), (3, .ref qo)]) hx hb dL_law_1455 hl (by decide) rfl (fun ls hl => ?_)
      refine lv_aload_n hx hb dL_law_1457 rfl (lv_at hl 5 rfl) ?_
      have hh4 := c_X5_thrown l dC dI cI g0 ps pk pa pb pq pw pt 0 0 we wl 0 sf 
      have hPc := hP.sub (ws' := [(g0, .inr (5, [.int (zi 0), .ref ps, .int (zi 0), .ref pk, .ref pa, .ref pb, .ref pq, .int (zi we), .int (zi wl), .ref pw, .int (zi 0), .ref pt])), (ps, aI cI 10 sf)]) [15, 16] rfl
      have hKc : va_K (dC, dI) vwCl [(cI, .int)] s := hK.sub (tys' := [(cI, .int)]) [0] rfl
      refine vp_callSi (va_Run.run (va_runV (As := []) (rest := []) ⟨hx, hb, hml, hown, hts⟩ hh4 (cwV 0 hts gL_law_X5_thrown rfl rfl rfl (by decide +kernel) ⟨Nat.le_of_ble_eq_true rfl, Nat.le_of_ble_eq_true rfl⟩) ⟨zPr.blind _ _ _ _, va_recv hKc hPc (ci := 5) (q0 := 0) rfl rfl, fun U hU hW => ⟨rfl, by rw [hU]; exact hPc, va_K.moved hW.alike hKc⟩⟩ rfl rfl hl.1 rfl (lv_room (Nat.le_of_ble_eq_true rfl)) dL_law_1458 ⟨by show _ ≤ 601024; omega, by show _ ≤ 7293033; omega⟩)) (fun r4 (hr4 : r4 = zi 0) => ?_)
      subst hr4
      refine lv_iload hx hb dL_law_1461 (lv_at hl 1 rfl) ?_
      refine zw_icmp_eq (tgt := 1468) hx hb dL_law_1463 (by decide) ⟨by omega, by omega⟩ ⟨by omega, by omega⟩ (fun h5 => ?_) (fun h5 => ?_)
      · skip
        refine lv_iload hx hb dL_law_1468 (lv_at hl 1 rfl) ?_
        refine zw_if_ne (tgt := 1485) hx hb dL_law_1470 (by decide) ⟨by omega, by omega⟩ (fun h6 => ?_) (fun h6 => ?_)
        · skip
          exact absurd True.intro (by omega)
        · skip
          refine lv_aload_n hx hb dL_law_1473 rfl (lv_at hl 6 rfl) ?_
          refine zw_iconst hx hb dL_law_1474 ?_
          refine zw_lald hx hb hK hP 14 1 rfl rfl (by omega) (by omega) ⟨by omega, by omega⟩ dL_law_1475 ?_
          rw [zup_at]
          refine lv_iload hx hb dL_law_1476 (lv_at hl 0 rfl) ?_
          refine zw_i2l hx hb dL_law_1478 ⟨by omega, by omega⟩ ?_
          refine zw_lcmp_eq (tgt := 1485) hx hb dL_law_1479 dL_law_1480 (by decide) ⟨by omega, by omega⟩ ⟨by omega, by omega⟩ (fun h7 => ?_) (fun h7 => ?_)
          · skip
            refine lv_goto (tgt := 1499) hx hb dL_law_1485 (by decide) ?_
            subst ex3
            have hP9 : va_P (dC, dI) vwCl [(h0, .inr (4, [.ref qs, .ref qr, .ref qm, .ref qw, .ref qt, .int (zi we)])), (qs, aI cI 10 sf), (qr, .inr (0, [.int (zi mc), .ref qd, .int (zi 0)])), (qm, .inr (2, [.ref qk, .int (zi fi), .int (zi ln)])), (qk, aI cI 366 mf), (qw, .inr (1, [.ref wc, .int (zi wl)])), (wc, aI cI 20 wf), (qt, .inr (1, [.ref tc, .int (zi 0)])), (tc, aI cI 20 tf), (g0, .inr (5, [.int (zi 0), .ref ps, .int (zi 0), .ref pk, .ref pa, .ref pb, .ref pq, .int (zi we), .int (zi wl), .ref pw, .int (zi 0), .ref pt])), (ps, aI cI 10 sf), (pk, aI cI 12 kf), (pa, aI cI 12 af), (pb, aI cI 12 bf), (pq, aI cI 12 zf), (pw, aI cI 12 wf), (pt, aI cI 20 tf), (qo, aL cL 1 (zup of (Int.toNat 0) (f_X4_typedText tf tl)))] H := hP.sub (ws' := [(h0, .inr (4, [.ref qs, .ref qr, .ref qm, .ref qw, .ref qt, .int (zi we)])), (qs, aI cI 10 sf), (qr, .inr (0, [.int (zi mc), .ref qd, .int (zi 0)])), (qm, .inr (2, [.ref qk, .int (zi fi), .int (zi ln)])), (qk, aI cI 366 mf), (qw, .inr (1, [.ref wc, .int (zi wl)])), (wc, aI cI 20 wf), (qt, .inr (1, [.ref tc, .int (zi 0)])), (tc, aI cI 20 tf), (g0, .inr (5, [.int (zi 0), .ref ps, .int (zi 0), .ref pk, .ref pa, .ref pb, .ref pq, .int (zi we), .int (zi wl), .ref pw, .int (zi 0), .ref pt])), (ps, aI cI 10 sf), (pk, aI cI 12 kf), (pa, aI cI 12 af), (pb, aI cI 12 bf), (pq, aI cI 12 zf), (pw, aI cI 12 wf), (pt, aI cI 20 tf), (qo, aL cL 1 (zup of (Int.toNat 0) (f_X4_typedText tf tl)))]) [10, 11, 0, 1, 2, 3, 4, 12, 13, 15, 16, 5, 6, 7, 8, 9, 17, 14] rfl
            have hD9 : va_D A [(h0, .inr (4, [.ref qs, .ref qr, .ref qm, .ref qw, .ref qt, .int (zi we)])), (qs, aI cI 10 sf), (qr, .inr (0, [.int (zi mc), .ref qd, .int (zi 0)])), (qm, .inr (2, [.ref qk, .int (zi fi), .int (zi ln)])), (qk, aI cI 366 mf), (qw, .inr (1, [.ref wc, .int (zi wl)])), (wc, aI cI 20 wf), (qt, .inr (1, [.ref tc, .int (zi 0)])), (tc, aI cI 20 tf), (g0, .inr (5, [.int (zi 0), .ref ps, .int (zi 0), .ref pk, .ref pa, .ref pb, .ref pq, .int (zi we), .int (zi wl), .ref pw, .int (zi 0), .ref pt])), (ps, aI cI 10 sf), (pk, aI cI 12 kf), (pa, aI cI 12 af), (pb, aI cI 12 bf), (pq, aI cI 12 zf), (pw, aI cI 12 wf), (pt, aI cI 20 tf), (qo, aL cL 1 (zup of (Int.toNat 0) (f_X4_typedText tf tl)))] := hD.sub (ws' := [(h0, .inr (4, [.ref qs, .ref qr, .ref qm, .ref qw, .ref qt, .int (zi we)])), (qs, aI cI 10 sf), (qr, .inr (0, [.int (zi mc), .ref qd, .int (zi 0)])), (qm, .inr (2, [.ref qk, .int (zi fi), .int (zi ln)])), (qk, aI cI 366 mf), (qw, .inr (1, [.ref wc, .int (zi wl)])), (wc, aI cI 20 wf), (qt, .inr (1, [.ref tc, .int (zi 0)])), (tc, aI cI 20 tf), (g0, .inr (5, [.int (zi 0), .ref ps, .int (zi 0), .ref pk, .ref pa, .ref pb, .ref pq, .int (zi we), .int (zi wl), .ref pw, .int (zi 0), .ref pt])), (ps, aI cI 10 sf), (pk, aI cI 12 kf), (pa, aI cI 12 af), (pb, aI cI 12 bf), (pq, aI cI 12 zf), (pw, aI cI 12 wf), (pt, aI cI 20 tf), (qo, aL cL 1 (zup of (Int.toNat 0) (f_X4_typedText tf tl)))]) [10, 11, 0, 1, 2, 3, 4, 12, 13, 15, 16, 5, 6, 7, 8, 9, 17, 14] (by decide) rfl
            have hI9 : LI sf kf af bf zf wf tf 0 we fi ln wl 0 := LI.mk9 hI.sfb hI.rub hI.rk hI.web hI.mkb hI.wlb hI.wfb (by omega) hI.tfb
            refine W.widen (k := ce + 2) (n := sn + 19) (by omega) (by omega) ?_
            exact K0 mc we fi ln mf sf kf af bf zf wl wf 0 tf 0 (zup of (Int.toNat 0) (f_X4_typedText tf tl)) H locs ls ⟨hP9, hD9, hS, hI9⟩ (lv_sub hl [2, 3, 4, 5, 6] rfl)
          · skip
            refine zw_iconst hx hb dL_law_1483 ?_
            exact absurd True.intro (by omega)
      · skip
        exact absurd True.intro (by omega)
    · skip
      rw [if_neg h2] at het
      have hdt : f_X4_typedNumber tf (f_X4_typedText tf tl) = f_X5_dateOf tf (ztx (bX5 tf tl) lX5 tl 3) := by rw [het, e_dateOf]
      have hdb := b_X5_dateOf tf (ztx (bX5 tf tl) lX5 tl 3) (by omega) hI.tfb
      have htn := c9_tn tf (f_X4_typedText tf tl) (by omega) hI.tfb
      by_cases h9 : f_X5_dateOf tf (ztx (bX5 tf tl) lX5 tl 3) < 0
      · skip
        refine lv_aload_n hx hb dL_law_1432 rfl (lv_at hl 2 rfl) ?_
        refine lv_aload_n hx hb dL_law_1433 rfl (lv_at hl 1 rfl) ?_
        refine lv_iload hx hb dL_law_1434 (lv_at hl 0 rfl) ?_
        refine zw_iconst hx hb dL_law_1436 ?_
        refine zw_iadd hx hb dL_law_1437 ?_
        refine zw_scr hx hb hX hbl hbA hS (by omega) (by omega) ⟨by omega, by omega⟩ hv1 dL_law_1438 ?_
        refine lv_aload_n hx hb dL_law_1439 rfl (lv_at hl 4 rfl) ?_
        have hh1 := c_L_read_d l dC dI cI cL cO h0 qs qr qm qw qt we sf tc tl tf qo of sl x0 v0 x1 v1 x2 v2 qy H.size (by omega) (by omega) (by exact hI.tfb) (by omega) (by omega)
        have hPc := hP.sub (ws' := [(h0, .inr (4, [.ref qs, .ref qr, .ref qm, .ref qw, .ref qt, .int (zi we)])), (qs, aI cI 10 sf), (qt, .inr (1, [.ref tc, .int (zi tl)])), (tc, aI cI 20 tf), (qo, aL cL 1 of)]) [0, 1, 7, 8, 17] rfl
        have hKc : va_K (dC, dI) vwCl [(cI, .int), (cL, .long), (cO, .object "java/lang/Object")] s := hK
        have hDc := hD.sub (ws' := [(h0, .inr (4, [.ref qs, .ref qr, .ref qm, .ref qw, .ref qt, .int (zi we)])), (qs, aI cI 10 sf), (qt, .inr (1, [.ref tc, .int (zi tl)])), (tc, aI cI 20 tf), (qo, aL cL 1 of)]) [0, 1, 7, 8, 17] (by decide) rfl
        have hFc := va_free (wc := [(h0, .inr (4, [.ref qs, .ref qr, .ref qm, .ref qw, .ref qt, .int (zi we)])), (qs, aI cI 10 sf), (qt, .inr (1, [.ref tc, .int (zi tl)])), (tc, aI cI 20 tf), (qo, aL cL 1 of)]) hD hS hA [0, 1, 7, 8, 17] rfl
        refine va_calli (vx_runSW (As := [.ref h0, .int (zi sl), .ref qo]) (rest := []) ⟨hx, hb, hml, hown, hts⟩ hh1 (vx_cwSW 3 hts gL_law_L_read rfl rfl rfl (by decide +kernel) ⟨Nat.le_of_ble_eq_true rfl, Nat.le_of_ble_eq_true rfl⟩) ⟨zPwF.blind _ _ _ _ _ zP3_ok, fun U hU hW => ⟨rfl, by rw [hU], by rw [hU]; exact hPc, va_K.moved hW.alike hKc, hDc.weaken (fun _ _ _ _ => trivial), zF.call zP3_ok h3 hS hFc hU hW⟩⟩ rfl rfl hl.1 rfl (lv_room (Nat.le_of_ble_eq_true rfl)) dL_law_1440 ⟨by show _ ≤ 601024; omega, by show _ ≤ 7293033; omega⟩) hS (fun q _ h => hFc q h) hFc (fun r1 u t H1 locs ht hvm hw hB hz1 hk1 hS => ?_)
        obtain ⟨hP1, hK1, hD1⟩ := hB
        rw [ht] at hP1
        obtain ⟨hP, hD⟩ := va_join (wr := [(qr, .inr (0, [.int (zi mc), .ref qd, .int (zi 0)])), (qm, .inr (2, [.ref qk, .int (zi fi), .int (zi ln)])), (qk, aI cI 366 mf), (qw, .inr (1, [.ref wc, .int (zi wl)])), (wc, aI cI 20 wf), (g0, .inr (5, [.int (zi co), .ref ps, .int (zi 0), .ref pk, .ref pa, .ref pb, .ref pq, .int (zi we), .int (zi wl), .ref pw, .int (zi tl), .ref pt])), (ps, aI cI 10 sf), (pk, aI cI 12 kf), (pa, aI cI 12 af), (pb, aI cI 12 bf), (pq, aI cI 12 zf), (pw, aI cI 12 wf), (pt, aI cI 20 tf)]) (w1 := [(h0, .inr (4, [.ref qs, .ref qr, .ref qm, .ref qw, .ref qt, .int (zi we)])), (qs, aI cI 10 sf), (qt, .inr (1, [.ref tc, .int (zi 0)])), (tc, aI cI 20 tf), (qo, aL cL 1 (zup of (Int.toNat 0) (-30)))]) hP hD [0, 1, 7, 8, 17] [2, 3, 4, 5, 6, 9, 10, 11, 12, 13, 14, 15, 16] rfl rfl (by decide) (by decide) hk1 hFc hP1 hD1
        generalize H1 = H at hP hS ⊢
        obtain rfl : r1 = zi 0 := hw
        have hP : va_P (dC, dI) vwCl [(qr, .inr (0, [.int (zi mc), .ref qd, .int (zi 0)])), (qm, .inr (2, [.ref qk, .int (zi fi), .int (zi ln)])), (qk, aI cI 366 mf), (qw, .inr (1, [.ref wc, .int (zi wl)])), (wc, aI cI 20 wf), (g0, .inr (5, [.int (zi co), .ref ps, .int (zi 0), .ref pk, .ref pa, .ref pb, .ref pq, .int (zi we), .int (zi wl), .ref pw, .int (zi tl), .ref pt])), (ps, aI cI 10 sf), (pk, aI cI 12 kf), (pa, aI cI 12 af), (pb, aI cI 12 bf), (pq, aI cI 12 zf), (pw, aI cI 12 wf), (pt, aI cI 20 tf), (h0, .inr (4, [.ref qs, .ref qr, .ref qm, .ref qw, .ref qt, .int (zi we)])), (qs, aI cI 10 sf), (qt, .inr (1, [.ref tc, .int (zi 0)])), (tc, aI cI 20 tf), (qo, aL cL 1 (zup of (Int.toNat 0) (-30)))] H := hP
        have hD : va_D A [(qr, .inr (0, [.int (zi mc), .ref qd, .int (zi 0)])), (qm, .inr (2, [.ref qk, .int (zi fi), .int (zi ln)])), (qk, aI cI 366 mf), (qw, .inr (1, [.ref wc, .int (zi wl)])), (wc, aI cI 20 wf), (g0, .inr (5, [.int (zi co), .ref ps, .int (zi 0), .ref pk, .ref pa, .ref pb, .ref pq, .int (zi we), .int (zi wl), .ref pw, .int (zi tl), .ref pt])), (ps, aI cI 10 sf), (pk, aI cI 12 kf), (pa, aI cI 12 af), (pb, aI cI 12 bf), (pq, aI cI 12 zf), (pw, aI cI 12 wf), (pt, aI cI 20 tf), (h0, .inr (4, [.ref qs, .ref qr, .ref qm, .ref qw, .ref qt, .int (zi we)])), (qs, aI cI 10 sf), (qt, .inr (1, [.ref tc, .int (zi 0)])), (tc, aI cI 20 tf), (qo, aL cL 1 (zup of (Int.toNat 0) (-30)))] := hD
        refine lv_istore (lv' := [(5, .int (zi 0)), (4, .int (zi ii)), (0, .ref b), (1, .ref h0), (2, .ref g0), (3, .ref qo)]) hx hb dL_law_1443 hl (by decide) rfl (fun ls hl => ?_)
        refine lv_aload_n hx hb dL_law_1445 rfl (lv_at hl 4 rfl) ?_
        refine lv_aload_n hx hb dL_law_1446 rfl (lv_at hl 2 rfl) ?_
        refine lv_iload hx hb dL_law_1447 (lv_at hl 1 rfl) ?_
        refine zw_iconst hx hb dL_law_1449 ?_
        refine zw_iadd hx hb dL_law_1450 ?_
        refine zw_scr hx hb hX hbl hbA hS (by omega) (by omega) ⟨by omega, by omega⟩ hv1 dL_law_1451 ?_
        have hh2 := c_X5_read_d l dC dI cI g0 ps pk pa pb pq pw pt co 0 we wl tl sf tf sl H.size (by omega) (by omega) (by omega) (by exact hI.tfb) (by omega) (by omega)
        have hPc := hP.sub (ws' := [(g0, .inr (5, [.int (zi co), .ref ps, .int (zi 0), .ref pk, .ref pa, .ref pb, .ref pq, .int (zi we), .int (zi wl), .ref pw, .int (zi tl), .ref pt])), (ps, aI cI 10 sf), (pt, aI cI 20 tf)]) [5, 6, 12] rfl
        have hKc : va_K (dC, dI) vwCl [(cI, .int)] s := hK.sub (tys' := [(cI, .int)]) [0] rfl
        have hDc := hD.sub (ws' := [(g0, .inr (5, [.int (zi co), .ref ps, .int (zi 0), .ref pk, .ref pa, .ref pb, .ref pq, .int (zi we), .int (zi wl), .ref pw, .int (zi tl), .ref pt])), (ps, aI cI 10 sf), (pt, aI cI 20 tf)]) [5, 6, 12] (by decide) rfl
        have hFc := va_free (wc := [(g0, .inr (5, [.int (zi co), .ref ps, .int (zi 0), .ref pk, .ref pa, .ref pb, .ref pq, .int (zi we), .int (zi wl), .ref pw, .int (zi tl), .ref pt])), (ps, aI cI 10 sf), (pt, aI cI 20 tf)]) hD hS hA [5, 6, 12] rfl
        refine va_calli (va_runV (As := [.int (zi sl)]) (rest := []) ⟨hx, hb, hml, hown, hts⟩ hh2 (cwV 1 hts gL_law_X5_read rfl rfl rfl (by decide +kernel) ⟨Nat.le_of_ble_eq_true rfl, Nat.le_of_ble_eq_true rfl⟩) ⟨zPw.blind _ _ _ _ _, va_recv hKc hPc (ci := 5) (q0 := 0) rfl rfl, fun U hU hW => ⟨rfl, by rw [hU], by rw [hU]; exact hPc, va_K.moved hW.alike hKc, hDc.weaken (fun _ _ _ _ => trivial)⟩⟩ rfl rfl hl.1 rfl (lv_room (Nat.le_of_ble_eq_true rfl)) dL_law_1452 ⟨by show _ ≤ 601024; omega, by show _ ≤ 7293033; omega⟩) hS (fun q _ h => hFc q h) hFc (fun r2 u t H1 locs ht hvm hw hB hz1 hk1 hS => ?_)
        obtain ⟨hP1, hK1, hD1⟩ := hB
        rw [ht] at hP1
        obtain ⟨hP, hD⟩ := va_join (wr := [(qr, .inr (0, [.int (zi mc), .ref qd, .int (zi 0)])), (qm, .inr (2, [.ref qk, .int (zi fi), .int (zi ln)])), (qk, aI cI 366 mf), (qw, .inr (1, [.ref wc, .int (zi wl)])), (wc, aI cI 20 wf), (pk, aI cI 12 kf), (pa, aI cI 12 af), (pb, aI cI 12 bf), (pq, aI cI 12 zf), (pw, aI cI 12 wf), (h0, .inr (4, [.ref qs, .ref qr, .ref qm, .ref qw, .ref qt, .int (zi we)])), (qs, aI cI 10 sf), (qt, .inr (1, [.ref tc, .int (zi 0)])), (tc, aI cI 20 tf), (qo, aL cL 1 (zup of (Int.toNat 0) (-30)))]) (w1 := [(g0, .inr (5, [.int (zi 0), .ref ps, .int (zi 0), .ref pk, .ref pa, .ref pb, .ref pq, .int (zi we), .int (zi wl), .ref pw, .int (zi 0), .ref pt])), (ps, aI cI 10 sf), (pt, aI cI 20 tf)]) hP hD [5, 6, 12] [0, 1, 2, 3, 4, 7, 8, 9, 10, 11, 13, 14, 15, 16, 17] rfl rfl (by decide) (by decide) hk1 hFc hP1 hD1
        generalize H1 = H at hP hS ⊢
        obtain rfl : r2 = zi (-30) := hw
        have hP : va_P (dC, dI) vwCl [(qr, .inr (0, [.int (zi mc), .ref qd, .int (zi 0)])), (qm, .inr (2, [.ref qk, .int (zi fi), .int (zi ln)])), (qk, aI cI 366 mf), (qw, .inr (1, [.ref wc, .int (zi wl)])), (wc, aI cI 20 wf), (pk, aI cI 12 kf), (pa, aI cI 12 af), (pb, aI cI 12 bf), (pq, aI cI 12 zf), (pw, aI cI 12 wf), (h0, .inr (4, [.ref qs, .ref qr, .ref qm, .ref qw, .ref qt, .int (zi we)])), (qs, aI cI 10 sf), (qt, .inr (1, [.ref tc, .int (zi 0)])), (tc, aI cI 20 tf), (qo, aL cL 1 (zup of (Int.toNat 0) (-30))), (g0, .inr (5, [.int (zi 0), .ref ps, .int (zi 0), .ref pk, .ref pa, .ref pb, .ref pq, .int (zi we), .int (zi wl), .ref pw, .int (zi 0), .ref pt])), (ps, aI cI 10 sf), (pt, aI cI 20 tf)] H := hP
        have hD : va_D A [(qr, .inr (0, [.int (zi mc), .ref qd, .int (zi 0)])), (qm, .inr (2, [.ref qk, .int (zi fi), .int (zi ln)])), (qk, aI cI 366 mf), (qw, .inr (1, [.ref wc, .int (zi wl)])), (wc, aI cI 20 wf), (pk, aI cI 12 kf), (pa, aI cI 12 af), (pb, aI cI 12 bf), (pq, aI cI 12 zf), (pw, aI cI 12 wf), (h0, .inr (4, [.ref qs, .ref qr, .ref qm, .ref qw, .ref qt, .int (zi we)])), (qs, aI cI 10 sf), (qt, .inr (1, [.ref tc, .int (zi 0)])), (tc, aI cI 20 tf), (qo, aL cL 1 (zup of (Int.toNat 0) (-30))), (g0, .inr (5, [.int (zi 0), .ref ps, .int (zi 0), .ref pk, .ref pa, .ref pb, .ref pq, .int (zi we), .int (zi wl), .ref pw, .int (zi 0), .ref pt])), (ps, aI cI 10 sf), (pt, aI cI 20 tf)] := hD
        refine lv_istore (lv' := [(6, .int (zi (-30))), (5, .int (zi 0)), (4, .int (zi ii)), (0, .ref b), (1, .ref h0), (2, .ref g0), (3, .ref qo)]) hx hb dL_law_1455 hl (by decide) rfl (fun ls hl => ?_)
        refine lv_aload_n hx hb dL_law_1457 rfl (lv_at hl 5 rfl) ?_
        have hh3 := c_X5_thrown l dC dI cI g0 ps pk pa pb pq pw pt 0 0 we wl 0 sf 
        have hPc := hP.sub (ws' := [(g0, .inr (5, [.int (zi 0), .ref ps, .int (zi 0), .ref pk, .ref pa, .ref pb, .ref pq, .int (zi we), .int (zi wl), .ref pw, .int (zi 0), .ref pt])), (ps, aI cI 10 sf)]) [15, 16] rfl
        have hKc : va_K (dC, dI) vwCl [(cI, .int)] s := hK.sub (tys' := [(cI, .int)]) [0] rfl
        refine vp_callSi (va_Run.run (va_runV (As := []) (rest := []) ⟨hx, hb, hml, hown, hts⟩ hh3 (cwV 0 hts gL_law_X5_thrown rfl rfl rfl (by decide +kernel) ⟨Nat.le_of_ble_eq_true rfl, Nat.le_of_ble_eq_true rfl⟩) ⟨zPr.blind _ _ _ _, va_recv hKc hPc (ci := 5) (q0 := 0) rfl rfl, fun U hU hW => ⟨rfl, by rw [hU]; exact hPc, va_K.moved hW.alike hKc⟩⟩ rfl rfl hl.1 rfl (lv_room (Nat.le_of_ble_eq_true rfl)) dL_law_1458 ⟨by show _ ≤ 601024; omega, by show _ ≤ 7293033; omega⟩)) (fun r3 (hr3 : r3 = zi 0) => ?_)
        subst hr3
        refine lv_iload hx hb dL_law_1461 (lv_at hl 1 rfl) ?_
        refine zw_icmp_eq (tgt := 1468) hx hb dL_law_1463 (by decide) ⟨by omega, by omega⟩ ⟨by omega, by omega⟩ (fun h4 => ?_) (fun h4 => ?_)
        · skip
          refine lv_iload hx hb dL_law_1468 (lv_at hl 1 rfl) ?_
          refine zw_if_ne (tgt := 1485) hx hb dL_law_1470 (by decide) ⟨by omega, by omega⟩ (fun h5 => ?_) (fun h5 => ?_)
          · skip
            exact absurd True.intro (by omega)
          · skip
            refine lv_aload_n hx hb dL_law_1473 rfl (lv_at hl 6 rfl) ?_
            refine zw_iconst hx hb dL_law_1474 ?_
            refine zw_lald hx hb hK hP 14 1 rfl rfl (by omega) (by omega) ⟨by omega, by omega⟩ dL_law_1475 ?_
            rw [zup_at]
            refine lv_iload hx hb dL_law_1476 (lv_at hl 0 rfl) ?_
            refine zw_i2l hx hb dL_law_1478 ⟨by omega, by omega⟩ ?_
            refine zw_lcmp_eq (tgt := 1485) hx hb dL_law_1479 dL_law_1480 (by decide) ⟨by omega, by omega⟩ ⟨by omega, by omega⟩ (fun h6 => ?_) (fun h6 => ?_)
            · skip
              refine lv_goto (tgt := 1499) hx hb dL_law_1485 (by decide) ?_
              have hP9 : va_P (dC, dI) vwCl [(h0, .inr (4, [.ref qs, .ref qr, .ref qm, .ref qw, .ref qt, .int (zi we)])), (qs, aI cI 10 sf), (qr, .inr (0, [.int (zi mc), .ref qd, .int (zi 0)])), (qm, .inr (2, [.ref qk, .int (zi fi), .int (zi ln)])), (qk, aI cI 366 mf), (qw, .inr (1, [.ref wc, .int (zi wl)])), (wc, aI cI 20 wf), (qt, .inr (1, [.ref tc, .int (zi 0)])), (tc, aI cI 20 tf), (g0, .inr (5, [.int (zi 0), .ref ps, .int (zi 0), .ref pk, .ref pa, .ref pb, .ref pq, .int (zi we), .int (zi wl), .ref pw, .int (zi 0), .ref pt])), (ps, aI cI 10 sf), (pk, aI cI 12 kf), (pa, aI cI 12 af), (pb, aI cI 12 bf), (pq, aI cI 12 zf), (pw, aI cI 12 wf), (pt, aI cI 20 tf), (qo, aL cL 1 (zup of (Int.toNat 0) (-30)))] H := hP.sub (ws' := [(h0, .inr (4, [.ref qs, .ref qr, .ref qm, .ref qw, .ref qt, .int (zi we)])), (qs, aI cI 10 sf), (qr, .inr (0, [.int (zi mc), .ref qd, .int (zi 0)])), (qm, .inr (2, [.ref qk, .int (zi fi), .int (zi ln)])), (qk, aI cI 366 mf), (qw, .inr (1, [.ref wc, .int (zi wl)])), (wc, aI cI 20 wf), (qt, .inr (1, [.ref tc, .int (zi 0)])), (tc, aI cI 20 tf), (g0, .inr (5, [.int (zi 0), .ref ps, .int (zi 0), .ref pk, .ref pa, .ref pb, .ref pq, .int (zi we), .int (zi wl), .ref pw, .int (zi 0), .ref pt])), (ps, aI cI 10 sf), (pk, aI cI 12 kf), (pa, aI cI 12 af), (pb, aI cI 12 bf), (pq, aI cI 12 zf), (pw, aI cI 12 wf), (pt, aI cI 20 tf), (qo, aL cL 1 (zup of (Int.toNat 0) (-30)))]) [10, 11, 0, 1, 2, 3, 4, 12, 13, 15, 16, 5, 6, 7, 8, 9, 17, 14] rfl
              have hD9 : va_D A [(h0, .inr (4, [.ref qs, .ref qr, .ref qm, .ref qw, .ref qt, .int (zi we)])), (qs, aI cI 10 sf), (qr, .inr (0, [.int (zi mc), .ref qd, .int (zi 0)])), (qm, .inr (2, [.ref qk, .int (zi fi), .int (zi ln)])), (qk, aI cI 366 mf), (qw, .inr (1, [.ref wc, .int (zi wl)])), (wc, aI cI 20 wf), (qt, .inr (1, [.ref tc, .int (zi 0)])), (tc, aI cI 20 tf), (g0, .inr (5, [.int (zi 0), .ref ps, .int (zi 0), .ref pk, .ref pa, .ref pb, .ref pq, .int (zi we), .int (zi wl), .ref pw, .int (zi 0), .ref pt])), (ps, aI cI 10 sf), (pk, aI cI 12 kf), (pa, aI cI 12 af), (pb, aI cI 12 bf), (pq, aI cI 12 zf), (pw, aI cI 12 wf), (pt, aI cI 20 tf), (qo, aL cL 1 (zup of (Int.toNat 0) (-30)))] := hD.sub (ws' := [(h0, .inr (4, [.ref qs, .ref qr, .ref qm, .ref qw, .ref qt, .int (zi we)])), (qs, aI cI 10 sf), (qr, .inr (0, [.int (zi mc), .ref qd, .int (zi 0)])), (qm, .inr (2, [.ref qk, .int (zi fi), .int (zi ln)])), (qk, aI cI 366 mf), (qw, .inr (1, [.ref wc, .int (zi wl)])), (wc, aI cI 20 wf), (qt, .inr (1, [.ref tc, .int (zi 0)])), (tc, aI cI 20 tf), (g0, .inr (5, [.int (zi 0), .ref ps, .int (zi 0), .ref pk, .ref pa, .ref pb, .ref pq, .int (zi we), .int (zi wl), .ref pw, .int (zi 0), .ref pt])), (ps, aI cI 10 sf), (pk, aI cI 12 kf), (pa, aI cI 12 af), (pb, aI cI 12 bf), (pq, aI cI 12 zf), (pw, aI cI 12 wf), (pt, aI cI 20 tf), (qo, aL cL 1 (zup of (Int.toNat 0) (-30)))]) [10, 11, 0, 1, 2, 3, 4, 12, 13, 15, 16, 5, 6, 7, 8, 9, 17, 14] (by decide) rfl
              have hI9 : LI sf kf af bf zf wf tf 0 we fi ln wl 0 := LI.mk9 hI.sfb hI.rub hI.rk hI.web hI.mkb hI.wlb hI.wfb (by omega) hI.tfb
              refine W.widen (k := ce + 2) (n := sn + 19) (by omega) (by omega) ?_
              exact K0 mc we fi ln mf sf kf af bf zf wl wf 0 tf 0 (zup of (Int.toNat 0) (-30)) H locs ls ⟨hP9, hD9, hS, hI9⟩ (lv_sub hl [2, 3, 4, 5, 6] rfl)
            · skip
              exact absurd True.intro (by omega)
        · skip
          exact absurd True.intro (by omega)
      · skip
        refine lv_aload_n hx hb dL_law_1432 rfl (lv_at hl 2 rfl) ?_
        refine lv_aload_n hx hb dL_law_1433 rfl (lv_at hl 1 rfl) ?_
        refine lv_iload hx hb dL_law_1434 (lv_at hl 0 rfl) ?_
        refine zw_iconst hx hb dL_law_1436 ?_
        refine zw_iadd hx hb dL_law_1437 ?_
        refine zw_scr hx hb hX hbl hbA hS (by omega) (by omega) ⟨by omega, by omega⟩ hv1 dL_law_1438 ?_
        refine lv_aload_n hx hb dL_law_1439 rfl (lv_at hl 4 rfl) ?_
        have hh1 := c_L_read_ok l dC dI cI cL cO h0 qs qr qm qw qt we sf tc tl tf qo of sl x0 v0 x1 v1 x2 v2 qy H.size (by omega) (by omega) (by exact hI.tfb) (by omega) (by omega)
        have hPc := hP.sub (ws' := [(h0, .inr (4, [.ref qs, .ref qr, .ref qm, .ref qw, .ref qt, .int (zi we)])), (qs, aI cI 10 sf), (qt, .inr (1, [.ref tc, .int (zi tl)])), (tc, aI cI 20 tf), (qo, aL cL 1 of)]) [0, 1, 7, 8, 17] rfl
        have hKc : va_K (dC, dI) vwCl [(cI, .int), (cL, .long), (cO, .object "java/lang/Object")] s := hK
        have hDc := hD.sub (ws' := [(h0, .inr (4, [.ref qs, .ref qr, .ref qm, .ref qw, .ref qt, .int (zi we)])), (qs, aI cI 10 sf), (qt, .inr (1, [.ref tc, .int (zi tl)])), (tc, aI cI 20 tf), (qo, aL cL 1 of)]) [0, 1, 7, 8, 17] (by decide) rfl
        have hFc := va_free (wc := [(h0, .inr (4, [.ref qs, .ref qr, .ref qm, .ref qw, .ref qt, .int (zi we)])), (qs, aI cI 10 sf), (qt, .inr (1, [.ref tc, .int (zi tl)])), (tc, aI cI 20 tf), (qo, aL cL 1 of)]) hD hS hA [0, 1, 7, 8, 17] rfl
        refine va_calli (vx_runSW (As := [.ref h0, .int (zi sl), .ref qo]) (rest := []) ⟨hx, hb, hml, hown, hts⟩ hh1 (vx_cwSW 3 hts gL_law_L_read rfl rfl rfl (by decide +kernel) ⟨Nat.le_of_ble_eq_true rfl, Nat.le_of_ble_eq_true rfl⟩) ⟨zPwF.blind _ _ _ _ _ zP3_ok, fun U hU hW => ⟨rfl, by rw [hU], by rw [hU]; exact hPc, va_K.moved hW.alike hKc, hDc.weaken (fun _ _ _ _ => trivial), zF.call zP3_ok h3 hS hFc hU hW⟩⟩ rfl rfl hl.1 rfl (lv_room (Nat.le_of_ble_eq_true rfl)) dL_law_1440 ⟨by show _ ≤ 601024; omega, by show _ ≤ 7293033; omega⟩) hS (fun q _ h => hFc q h) hFc (fun r1 u t H1 locs ht hvm hw hB hz1 hk1 hS => ?_)
        obtain ⟨hP1, hK1, hD1⟩ := hB
        rw [ht] at hP1
        obtain ⟨hP, hD⟩ := va_join (wr := [(qr, .inr (0, [.int (zi mc), .ref qd, .int (zi 0)])), (qm, .inr (2, [.ref qk, .int (zi fi), .int (zi ln)])), (qk, aI cI 366 mf), (qw, .inr (1, [.ref wc, .int (zi wl)])), (wc, aI cI 20 wf), (g0, .inr (5, [.int (zi co), .ref ps, .int (zi 0), .ref pk, .ref pa, .ref pb, .ref pq, .int (zi we), .int (zi wl), .ref pw, .int (zi tl), .ref pt])), (ps, aI cI 10 sf), (pk, aI cI 12 kf), (pa, aI cI 12 af), (pb, aI cI 12 bf), (pq, aI cI 12 zf), (pw, aI cI 12 wf), (pt, aI cI 20 tf)]) (w1 := [(h0, .inr (4, [.ref qs, .ref qr, .ref qm, .ref qw, .ref qt, .int (zi we)])), (qs, aI cI 10 (zup sf sl.toNat (f_X4_typedNumber tf (f_X4_typedText tf tl)))), (qt, .inr (1, [.ref tc, .int (zi 0)])), (tc, aI cI 20 tf), (qo, aL cL 1 (zup of (Int.toNat 0) (f_X4_typedText tf tl)))]) hP hD [0, 1, 7, 8, 17] [2, 3, 4, 5, 6, 9, 10, 11, 12, 13, 14, 15, 16] rfl rfl (by decide) (by decide) hk1 hFc hP1 hD1
        generalize H1 = H at hP hS ⊢
        obtain rfl : r1 = zi 0 := hw
        have hP : va_P (dC, dI) vwCl [(qr, .inr (0, [.int (zi mc), .ref qd, .int (zi 0)])), (qm, .inr (2, [.ref qk, .int (zi fi), .int (zi ln)])), (qk, aI cI 366 mf), (qw, .inr (1, [.ref wc, .int (zi wl)])), (wc, aI cI 20 wf), (g0, .inr (5, [.int (zi co), .ref ps, .int (zi 0), .ref pk, .ref pa, .ref pb, .ref pq, .int (zi we), .int (zi wl), .ref pw, .int (zi tl), .ref pt])), (ps, aI cI 10 sf), (pk, aI cI 12 kf), (pa, aI cI 12 af), (pb, aI cI 12 bf), (pq, aI cI 12 zf), (pw, aI cI 12 wf), (pt, aI cI 20 tf), (h0, .inr (4, [.ref qs, .ref qr, .ref qm, .ref qw, .ref qt, .int (zi we)])), (qs, aI cI 10 (zup sf sl.toNat (f_X4_typedNumber tf (f_X4_typedText tf tl)))), (qt, .inr (1, [.ref tc, .int (zi 0)])), (tc, aI cI 20 tf), (qo, aL cL 1 (zup of (Int.toNat 0) (f_X4_typedText tf tl)))] H := hP
        have hD : va_D A [(qr, .inr (0, [.int (zi mc), .ref qd, .int (zi 0)])), (qm, .inr (2, [.ref qk, .int (zi fi), .int (zi ln)])), (qk, aI cI 366 mf), (qw, .inr (1, [.ref wc, .int (zi wl)])), (wc, aI cI 20 wf), (g0, .inr (5, [.int (zi co), .ref ps, .int (zi 0), .ref pk, .ref pa, .ref pb, .ref pq, .int (zi we), .int (zi wl), .ref pw, .int (zi tl), .ref pt])), (ps, aI cI 10 sf), (pk, aI cI 12 kf), (pa, aI cI 12 af), (pb, aI cI 12 bf), (pq, aI cI 12 zf), (pw, aI cI 12 wf), (pt, aI cI 20 tf), (h0, .inr (4, [.ref qs, .ref qr, .ref qm, .ref qw, .ref qt, .int (zi we)])), (qs, aI cI 10 (zup sf sl.toNat (f_X4_typedNumber tf (f_X4_typedText tf tl)))), (qt, .inr (1, [.ref tc, .int (zi 0)])), (tc, aI cI 20 tf), (qo, aL cL 1 (zup of (Int.toNat 0) (f_X4_typedText tf tl)))] := hD
        refine lv_istore (lv' := [(5, .int (zi 0)), (4, .int (zi ii)), (0, .ref b), (1, .ref h0), (2, .ref g0), (3, .ref qo)]) hx hb dL_law_1443 hl (by decide) rfl (fun ls hl => ?_)
        refine lv_aload_n hx hb dL_law_1445 rfl (lv_at hl 4 rfl) ?_
        refine lv_aload_n hx hb dL_law_1446 rfl (lv_at hl 2 rfl) ?_
        refine lv_iload hx hb dL_law_1447 (lv_at hl 1 rfl) ?_
        refine zw_iconst hx hb dL_law_1449 ?_
        refine zw_iadd hx hb dL_law_1450 ?_
        refine zw_scr hx hb hX hbl hbA hS (by omega) (by omega) ⟨by omega, by omega⟩ hv1 dL_law_1451 ?_
        have hh2 := c_X5_read l dC dI cI g0 ps pk pa pb pq pw pt co 0 we wl tl sf tf sl H.size (by omega) (by omega) (by omega) (by exact hI.tfb) (by omega) (by omega)
        have hPc := hP.sub (ws' := [(g0, .inr (5, [.int (zi co), .ref ps, .int (zi 0), .ref pk, .ref pa, .ref pb, .ref pq, .int (zi we), .int (zi wl), .ref pw, .int (zi tl), .ref pt])), (ps, aI cI 10 sf), (pt, aI cI 20 tf)]) [5, 6, 12] rfl
        have hKc : va_K (dC, dI) vwCl [(cI, .int)] s := hK.sub (tys' := [(cI, .int)]) [0] rfl
        have hDc := hD.sub (ws' := [(g0, .inr (5, [.int (zi co), .ref ps, .int (zi 0), .ref pk, .ref pa, .ref pb, .ref pq, .int (zi we), .int (zi wl), .ref pw, .int (zi tl), .ref pt])), (ps, aI cI 10 sf), (pt, aI cI 20 tf)]) [5, 6, 12] (by decide) rfl
        have hFc := va_free (wc := [(g0, .inr (5, [.int (zi co), .ref ps, .int (zi 0), .ref pk, .ref pa, .ref pb, .ref pq, .int (zi we), .int (zi wl), .ref pw, .int (zi tl), .ref pt])), (ps, aI cI 10 sf), (pt, aI cI 20 tf)]) hD hS hA [5, 6, 12] rfl
        refine va_calli (va_runV (As := [.int (zi sl)]) (rest := []) ⟨hx, hb, hml, hown, hts⟩ hh2 (cwV 1 hts gL_law_X5_read rfl rfl rfl (by decide +kernel) ⟨Nat.le_of_ble_eq_true rfl, Nat.le_of_ble_eq_true rfl⟩) ⟨zPw.blind _ _ _ _ _, va_recv hKc hPc (ci := 5) (q0 := 0) rfl rfl, fun U hU hW => ⟨rfl, by rw [hU], by rw [hU]; exact hPc, va_K.moved hW.alike hKc, hDc.weaken (fun _ _ _ _ => trivial)⟩⟩ rfl rfl hl.1 rfl (lv_room (Nat.le_of_ble_eq_true rfl)) dL_law_1452 ⟨by show _ ≤ 601024; omega, by show _ ≤ 7293033; omega⟩) hS (fun q _ h => hFc q h) hFc (fun r2 u t H1 locs ht hvm hw hB hz1 hk1 hS => ?_)
        generalize u = sg_3 at hw hB
        obtain ⟨hw, hw2⟩ := hw
        replace hw2 : sg_3 = zup sf sl.toNat (f_X5_dateOf tf (ztx (bX5 tf tl) lX5 tl 3)) := hw2
        obtain ⟨hP1, hK1, hD1⟩ := hB
        rw [ht] at hP1
        replace hP1 : va_P (dC, dI) vwCl [(g0, .inr (5, [.int (zi 0), .ref ps, .int (zi 0), .ref pk, .ref pa, .ref pb, .ref pq, .int (zi we), .int (zi wl), .ref pw, .int (zi 0), .ref pt])), (ps, aI cI 10 sg_3), (pt, aI cI 20 tf)] H1 := hP1
        replace hD1 : va_D _ [(g0, .inr (5, [.int (zi 0), .ref ps, .int (zi 0), .ref pk, .ref pa, .ref pb, .ref pq, .int (zi we), .int (zi wl), .ref pw, .int (zi 0), .ref pt])), (ps, aI cI 10 sg_3), (pt, aI cI 20 tf)] := hD1
        obtain ⟨hP, hD⟩ := va_join (wr := [(qr, .inr (0, [.int (zi mc), .ref qd, .int (zi 0)])), (qm, .inr (2, [.ref qk, .int (zi fi), .int (zi ln)])), (qk, aI cI 366 mf), (qw, .inr (1, [.ref wc, .int (zi wl)])), (wc, aI cI 20 wf), (pk, aI cI 12 kf), (pa, aI cI 12 af), (pb, aI cI 12 bf), (pq, aI cI 12 zf), (pw, aI cI 12 wf), (h0, .inr (4, [.ref qs, .ref qr, .ref qm, .ref qw, .ref qt, .int (zi we)])), (qs, aI cI 10 (zup sf sl.toNat (f_X4_typedNumber tf (f_X4_typedText tf tl)))), (qt, .inr (1, [.ref tc, .int (zi 0)])), (tc, aI cI 20 tf), (qo, aL cL 1 (zup of (Int.toNat 0) (f_X4_typedText tf tl)))]) (w1 := [(g0, .inr (5, [.int (zi 0), .ref ps, .int (zi 0), .ref pk, .ref pa, .ref pb, .ref pq, .int (zi we), .int (zi wl), .ref pw, .int (zi 0), .ref pt])), (ps, aI cI 10 sg_3), (pt, aI cI 20 tf)]) hP hD [5, 6, 12] [0, 1, 2, 3, 4, 7, 8, 9, 10, 11, 13, 14, 15, 16, 17] rfl rfl (by decide) (by decide) hk1 hFc hP1 hD1
        generalize H1 = H at hP hS ⊢
        obtain rfl : r2 = zi (ztx (bX5 tf tl) lX5 tl 3) := hw
        have hP : va_P (dC, dI) vwCl [(qr, .inr (0, [.int (zi mc), .ref qd, .int (zi 0)])), (qm, .inr (2, [.ref qk, .int (zi fi), .int (zi ln)])), (qk, aI cI 366 mf), (qw, .inr (1, [.ref wc, .int (zi wl)])), (wc, aI cI 20 wf), (pk, aI cI 12 kf), (pa, aI cI 12 af), (pb, aI cI 12 bf), (pq, aI cI 12 zf), (pw, aI cI 12 wf), (h0, .inr (4, [.ref qs, .ref qr, .ref qm, .ref qw, .ref qt, .int (zi we)])), (qs, aI cI 10 (zup sf sl.toNat (f_X4_typedNumber tf (f_X4_typedText tf tl)))), (qt, .inr (1, [.ref tc, .int (zi 0)])), (tc, aI cI 20 tf), (qo, aL cL 1 (zup of (Int.toNat 0) (f_X4_typedText tf tl))), (g0, .inr (5, [.int (zi 0), .ref ps, .int (zi 0), .ref pk, .ref pa, .ref pb, .ref pq, .int (zi we), .int (zi wl), .ref pw, .int (zi 0), .ref pt])), (ps, aI cI 10 sg_3), (pt, aI cI 20 tf)] H := hP
        have hD : va_D A [(qr, .inr (0, [.int (zi mc), .ref qd, .int (zi 0)])), (qm, .inr (2, [.ref qk, .int (zi fi), .int (zi ln)])), (qk, aI cI 366 mf), (qw, .inr (1, [.ref wc, .int (zi wl)])), (wc, aI cI 20 wf), (pk, aI cI 12 kf), (pa, aI cI 12 af), (pb, aI cI 12 bf), (pq, aI cI 12 zf), (pw, aI cI 12 wf), (h0, .inr (4, [.ref qs, .ref qr, .ref qm, .ref qw, .ref qt, .int (zi we)])), (qs, aI cI 10 (zup sf sl.toNat (f_X4_typedNumber tf (f_X4_typedText tf tl)))), (qt, .inr (1, [.ref tc, .int (zi 0)])), (tc, aI cI 20 tf), (qo, aL cL 1 (zup of (Int.toNat 0) (f_X4_typedText tf tl))), (g0, .inr (5, [.int (zi 0), .ref ps, .int (zi 0), .ref pk, .ref pa, .ref pb, .ref pq, .int (zi we), .int (zi wl), .ref pw, .int (zi 0), .ref pt])), (ps, aI cI 10 sg_3), (pt, aI cI 20 tf)] := hD
        refine zw_top (fun x4 ex4 => ?_)
        refine lv_istore (lv' := [(6, .int (zi x4)), (5, .int (zi 0)), (4, .int (zi ii)), (0, .ref b), (1, .ref h0), (2, .ref g0), (3, .ref qo)]) hx hb dL_law_1455 hl (by decide) rfl (fun ls hl => ?_)
        refine lv_aload_n hx hb dL_law_1457 rfl (lv_at hl 5 rfl) ?_
        have hh5 := c_X5_thrown l dC dI cI g0 ps pk pa pb pq pw pt 0 0 we wl 0 sg_3 
        have hPc := hP.sub (ws' := [(g0, .inr (5, [.int (zi 0), .ref ps, .int (zi 0), .ref pk, .ref pa, .ref pb, .ref pq, .int (zi we), .int (zi wl), .ref pw, .int (zi 0), .ref pt])), (ps, aI cI 10 sg_3)]) [15, 16] rfl
        have hKc : va_K (dC, dI) vwCl [(cI, .int)] s := hK.sub (tys' := [(cI, .int)]) [0] rfl
        refine vp_callSi (va_Run.run (va_runV (As := []) (rest := []) ⟨hx, hb, hml, hown, hts⟩ hh5 (cwV 0 hts gL_law_X5_thrown rfl rfl rfl (by decide +kernel) ⟨Nat.le_of_ble_eq_true rfl, Nat.le_of_ble_eq_true rfl⟩) ⟨zPr.blind _ _ _ _, va_recv hKc hPc (ci := 5) (q0 := 0) rfl rfl, fun U hU hW => ⟨rfl, by rw [hU]; exact hPc, va_K.moved hW.alike hKc⟩⟩ rfl rfl hl.1 rfl (lv_room (Nat.le_of_ble_eq_true rfl)) dL_law_1458 ⟨by show _ ≤ 601024; omega, by show _ ≤ 7293033; omega⟩)) (fun r5 (hr5 : r5 = zi 0) => ?_)
        subst hr5
        refine lv_iload hx hb dL_law_1461 (lv_at hl 1 rfl) ?_
        refine zw_icmp_eq (tgt := 1468) hx hb dL_law_1463 (by decide) ⟨by omega, by omega⟩ ⟨by omega, by omega⟩ (fun h6 => ?_) (fun h6 => ?_)
        · skip
          refine lv_iload hx hb dL_law_1468 (lv_at hl 1 rfl) ?_
          refine zw_if_ne (tgt := 1485) hx hb dL_law_1470 (by decide) ⟨by omega, by omega⟩ (fun h7 => ?_) (fun h7 => ?_)
          · skip
            exact absurd True.intro (by omega)
          · skip
            refine lv_aload_n hx hb dL_law_1473 rfl (lv_at hl 6 rfl) ?_
            refine zw_iconst hx hb dL_law_1474 ?_
            refine zw_lald hx hb hK hP 14 1 rfl rfl (by omega) (by omega) ⟨by omega, by omega⟩ dL_law_1475 ?_
            rw [zup_at]
            refine lv_iload hx hb dL_law_1476 (lv_at hl 0 rfl) ?_
            refine zw_i2l hx hb dL_law_1478 ⟨by omega, by omega⟩ ?_
            refine zw_lcmp_eq (tgt := 1485) hx hb dL_law_1479 dL_law_1480 (by decide) ⟨by omega, by omega⟩ ⟨by omega, by omega⟩ (fun h8 => ?_) (fun h8 => ?_)
            · skip
              refine lv_goto (tgt := 1499) hx hb dL_law_1485 (by decide) ?_
              subst ex4
              have hP9 : va_P (dC, dI) vwCl [(h0, .inr (4, [.ref qs, .ref qr, .ref qm, .ref qw, .ref qt, .int (zi we)])), (qs, aI cI 10 (zup sf sl.toNat (f_X4_typedNumber tf (f_X4_typedText tf tl)))), (qr, .inr (0, [.int (zi mc), .ref qd, .int (zi 0)])), (qm, .inr (2, [.ref qk, .int (zi fi), .int (zi ln)])), (qk, aI cI 366 mf), (qw, .inr (1, [.ref wc, .int (zi wl)])), (wc, aI cI 20 wf), (qt, .inr (1, [.ref tc, .int (zi 0)])), (tc, aI cI 20 tf), (g0, .inr (5, [.int (zi 0), .ref ps, .int (zi 0), .ref pk, .ref pa, .ref pb, .ref pq, .int (zi we), .int (zi wl), .ref pw, .int (zi 0), .ref pt])), (ps, aI cI 10 sg_3), (pk, aI cI 12 kf), (pa, aI cI 12 af), (pb, aI cI 12 bf), (pq, aI cI 12 zf), (pw, aI cI 12 wf), (pt, aI cI 20 tf), (qo, aL cL 1 (zup of (Int.toNat 0) (f_X4_typedText tf tl)))] H := hP.sub (ws' := [(h0, .inr (4, [.ref qs, .ref qr, .ref qm, .ref qw, .ref qt, .int (zi we)])), (qs, aI cI 10 (zup sf sl.toNat (f_X4_typedNumber tf (f_X4_typedText tf tl)))), (qr, .inr (0, [.int (zi mc), .ref qd, .int (zi 0)])), (qm, .inr (2, [.ref qk, .int (zi fi), .int (zi ln)])), (qk, aI cI 366 mf), (qw, .inr (1, [.ref wc, .int (zi wl)])), (wc, aI cI 20 wf), (qt, .inr (1, [.ref tc, .int (zi 0)])), (tc, aI cI 20 tf), (g0, .inr (5, [.int (zi 0), .ref ps, .int (zi 0), .ref pk, .ref pa, .ref pb, .ref pq, .int (zi we), .int (zi wl), .ref pw, .int (zi 0), .ref pt])), (ps, aI cI 10 sg_3), (pk, aI cI 12 kf), (pa, aI cI 12 af), (pb, aI cI 12 bf), (pq, aI cI 12 zf), (pw, aI cI 12 wf), (pt, aI cI 20 tf), (qo, aL cL 1 (zup of (Int.toNat 0) (f_X4_typedText tf tl)))]) [10, 11, 0, 1, 2, 3, 4, 12, 13, 15, 16, 5, 6, 7, 8, 9, 17, 14] rfl
              have hD9 : va_D A [(h0, .inr (4, [.ref qs, .ref qr, .ref qm, .ref qw, .ref qt, .int (zi we)])), (qs, aI cI 10 (zup sf sl.toNat (f_X4_typedNumber tf (f_X4_typedText tf tl)))), (qr, .inr (0, [.int (zi mc), .ref qd, .int (zi 0)])), (qm, .inr (2, [.ref qk, .int (zi fi), .int (zi ln)])), (qk, aI cI 366 mf), (qw, .inr (1, [.ref wc, .int (zi wl)])), (wc, aI cI 20 wf), (qt, .inr (1, [.ref tc, .int (zi 0)])), (tc, aI cI 20 tf), (g0, .inr (5, [.int (zi 0), .ref ps, .int (zi 0), .ref pk, .ref pa, .ref pb, .ref pq, .int (zi we), .int (zi wl), .ref pw, .int (zi 0), .ref pt])), (ps, aI cI 10 sg_3), (pk, aI cI 12 kf), (pa, aI cI 12 af), (pb, aI cI 12 bf), (pq, aI cI 12 zf), (pw, aI cI 12 wf), (pt, aI cI 20 tf), (qo, aL cL 1 (zup of (Int.toNat 0) (f_X4_typedText tf tl)))] := hD.sub (ws' := [(h0, .inr (4, [.ref qs, .ref qr, .ref qm, .ref qw, .ref qt, .int (zi we)])), (qs, aI cI 10 (zup sf sl.toNat (f_X4_typedNumber tf (f_X4_typedText tf tl)))), (qr, .inr (0, [.int (zi mc), .ref qd, .int (zi 0)])), (qm, .inr (2, [.ref qk, .int (zi fi), .int (zi ln)])), (qk, aI cI 366 mf), (qw, .inr (1, [.ref wc, .int (zi wl)])), (wc, aI cI 20 wf), (qt, .inr (1, [.ref tc, .int (zi 0)])), (tc, aI cI 20 tf), (g0, .inr (5, [.int (zi 0), .ref ps, .int (zi 0), .ref pk, .ref pa, .ref pb, .ref pq, .int (zi we), .int (zi wl), .ref pw, .int (zi 0), .ref pt])), (ps, aI cI 10 sg_3), (pk, aI cI 12 kf), (pa, aI cI 12 af), (pb, aI cI 12 bf), (pq, aI cI 12 zf), (pw, aI cI 12 wf), (pt, aI cI 20 tf), (qo, aL cL 1 (zup of (Int.toNat 0) (f_X4_typedText tf tl)))]) [10, 11, 0, 1, 2, 3, 4, 12, 13, 15, 16, 5, 6, 7, 8, 9, 17, 14] (by decide) rfl
              have hcv0 : (sg_3 : Nat → Int) = (zup sf sl.toNat (f_X4_typedNumber tf (f_X4_typedText tf tl))) := by rw [hw2, hdt]
              rw [hcv0] at hP9 hD9
              have hI9 : LI (zup sf sl.toNat (f_X4_typedNumber tf (f_X4_typedText tf tl))) kf af bf zf wf tf 0 we fi ln wl 0 := LI.mk9 (zup_b hI.sfb _ (by omega)) hI.rub hI.rk hI.web hI.mkb hI.wlb hI.wfb (by omega) hI.tfb
              refine W.widen (k := ce + 2) (n := sn + 19) (by omega) (by omega) ?_
              exact K0 mc we fi ln mf (zup sf sl.toNat (f_X4_typedNumber tf (f_X4_typedText tf tl))) kf af bf zf wl wf 0 tf 0 (zup of (Int.toNat 0) (f_X4_typedText tf tl)) H locs ls ⟨hP9, hD9, hS, hI9⟩ (lv_sub hl [2, 3, 4, 5, 6] rfl)
            · skip
              refine zw_iconst hx hb dL_law_1483 ?_
              exact absurd True.intro (by omega)
        · skip
          exact absurd True.intro (by omega)
  · skip
    refine lv_aload_n hx hb dL_law_1432 rfl (lv_at hl 2 rfl) ?_
    refine lv_aload_n hx hb dL_law_1433 rfl (lv_at hl 1 rfl) ?_
    refine lv_iload hx hb dL_law_1434 (lv_at hl 0 rfl) ?_
    refine zw_iconst hx hb dL_law_1436 ?_
    refine zw_iadd hx hb dL_law_1437 ?_
    refine zw_scr hx hb hX hbl hbA hS (by omega) (by omega) ⟨by omega, by omega⟩ hv1 dL_law_1438 ?_
    refine lv_aload_n hx hb dL_law_1439 rfl (lv_at hl 4 rfl) ?_
    have hh1 := c_L_read_1 l hst dC dI cI cL cO h0 qs qr qm qw qt we qo of sl H.size (by omega) (by omega)
    have hPc := hP.sub (ws' := [(h0, .inr (4, [.ref qs, .ref qr, .ref qm, .ref qw, .ref qt, .int (zi we)])), (qo, aL cL 1 of)]) [0, 17] rfl
    have hKc : va_K (dC, dI) vwCl [(cI, .int), (cL, .long), (cO, .object "java/lang/Object")] s := hK
    have hDc := hD.sub (ws' := [(h0, .inr (4, [.ref qs, .ref qr, .ref qm, .ref qw, .ref qt, .int (zi we)])), (qo, aL cL 1 of)]) [0, 17] (by decide) rfl
    have hFc := va_free (wc := [(h0, .inr (4, [.ref qs, .ref qr, .ref qm, .ref qw, .ref qt, .int (zi we)])), (qo, aL cL 1 of)]) hD hS hA [0, 17] rfl
    refine va_calli (vx_runSW (As := [.ref h0, .int (zi sl), .ref qo]) (rest := []) ⟨hx, hb, hml, hown, hts⟩ hh1 (vx_cwSW 3 hts gL_law_L_read rfl rfl rfl (by decide +kernel) ⟨Nat.le_of_ble_eq_true rfl, Nat.le_of_ble_eq_true rfl⟩) ⟨zPx.blind _ _ _ _ _, fun U hU hW => ⟨rfl, by rw [hU], hE.call hS (fun q h => hA q (Nat.le_trans hS.1 (by rw [hU] at h; exact h))) hU hW, by rw [hU]; exact hPc, va_K.moved hW.alike hKc, hDc.weaken (fun _ _ _ _ => trivial)⟩⟩ rfl rfl hl.1 rfl (lv_room (Nat.le_of_ble_eq_true rfl)) dL_law_1440 ⟨by show _ ≤ 601024; omega, by show _ ≤ 7293033; omega⟩) hS (fun q _ h => hFc q h) hFc (fun r1 u t H1 locs ht hvm hw hB hz1 hk1 hS => ?_)
    obtain ⟨hP1, hK1, hD1⟩ := hB
    rw [ht] at hP1
    obtain ⟨hP, hD⟩ := va_join (wr := [(qs, aI cI 10 sf), (qr, .inr (0, [.int (zi mc), .ref qd, .int (zi 0)])), (qm, .inr (2, [.ref qk, .int (zi fi), .int (zi ln)])), (qk, aI cI 366 mf), (qw, .inr (1, [.ref wc, .int (zi wl)])), (wc, aI cI 20 wf), (qt, .inr (1, [.ref tc, .int (zi tl)])), (tc, aI cI 20 tf), (g0, .inr (5, [.int (zi co), .ref ps, .int (zi 0), .ref pk, .ref pa, .ref pb, .ref pq, .int (zi we), .int (zi wl), .ref pw, .int (zi tl), .ref pt])), (ps, aI cI 10 sf), (pk, aI cI 12 kf), (pa, aI cI 12 af), (pb, aI cI 12 bf), (pq, aI cI 12 zf), (pw, aI cI 12 wf), (pt, aI cI 20 tf)]) (w1 := [(h0, .inr (4, [.ref qs, .ref qr, .ref qm, .ref qw, .ref qt, .int (zi we)])), (qo, aL cL 1 of)]) hP hD [0, 17] [1, 2, 3, 4, 5, 6, 7, 8, 9, 10, 11, 12, 13, 14, 15, 16] rfl rfl (by decide) (by decide) hk1 hFc hP1 hD1
    generalize H1 = H at hP hS ⊢
    obtain rfl : r1 = zi 1 := hw
    have hP : va_P (dC, dI) vwCl [(qs, aI cI 10 sf), (qr, .inr (0, [.int (zi mc), .ref qd, .int (zi 0)])), (qm, .inr (2, [.ref qk, .int (zi fi), .int (zi ln)])), (qk, aI cI 366 mf), (qw, .inr (1, [.ref wc, .int (zi wl)])), (wc, aI cI 20 wf), (qt, .inr (1, [.ref tc, .int (zi tl)])), (tc, aI cI 20 tf), (g0, .inr (5, [.int (zi co), .ref ps, .int (zi 0), .ref pk, .ref pa, .ref pb, .ref pq, .int (zi we), .int (zi wl), .ref pw, .int (zi tl), .ref pt])), (ps, aI cI 10 sf), (pk, aI cI 12 kf), (pa, aI cI 12 af), (pb, aI cI 12 bf), (pq, aI cI 12 zf), (pw, aI cI 12 wf), (pt, aI cI 20 tf), (h0, .inr (4, [.ref qs, .ref qr, .ref qm, .ref qw, .ref qt, .int (zi we)])), (qo, aL cL 1 of)] H := hP
    have hD : va_D A [(qs, aI cI 10 sf), (qr, .inr (0, [.int (zi mc), .ref qd, .int (zi 0)])), (qm, .inr (2, [.ref qk, .int (zi fi), .int (zi ln)])), (qk, aI cI 366 mf), (qw, .inr (1, [.ref wc, .int (zi wl)])), (wc, aI cI 20 wf), (qt, .inr (1, [.ref tc, .int (zi tl)])), (tc, aI cI 20 tf), (g0, .inr (5, [.int (zi co), .ref ps, .int (zi 0), .ref pk, .ref pa, .ref pb, .ref pq, .int (zi we), .int (zi wl), .ref pw, .int (zi tl), .ref pt])), (ps, aI cI 10 sf), (pk, aI cI 12 kf), (pa, aI cI 12 af), (pb, aI cI 12 bf), (pq, aI cI 12 zf), (pw, aI cI 12 wf), (pt, aI cI 20 tf), (h0, .inr (4, [.ref qs, .ref qr, .ref qm, .ref qw, .ref qt, .int (zi we)])), (qo, aL cL 1 of)] := hD
    refine lv_istore (lv' := [(5, .int (zi 1)), (4, .int (zi ii)), (0, .ref b), (1, .ref h0), (2, .ref g0), (3, .ref qo)]) hx hb dL_law_1443 hl (by decide) rfl (fun ls hl => ?_)
    refine lv_aload_n hx hb dL_law_1445 rfl (lv_at hl 4 rfl) ?_
    refine lv_aload_n hx hb dL_law_1446 rfl (lv_at hl 2 rfl) ?_
    refine lv_iload hx hb dL_law_1447 (lv_at hl 1 rfl) ?_
    refine zw_iconst hx hb dL_law_1449 ?_
    refine zw_iadd hx hb dL_law_1450 ?_
    refine zw_scr hx hb hX hbl hbA hS (by omega) (by omega) ⟨by omega, by omega⟩ hv1 dL_law_1451 ?_
    have hh2 := c_X5_read_1 l dC dI cI g0 ps pk pa pb pq pw pt co 0 we wl tl sf tf sl H.size (by omega) (by omega)
    have hPc := hP.sub (ws' := [(g0, .inr (5, [.int (zi co), .ref ps, .int (zi 0), .ref pk, .ref pa, .ref pb, .ref pq, .int (zi we), .int (zi wl), .ref pw, .int (zi tl), .ref pt])), (ps, aI cI 10 sf), (pt, aI cI 20 tf)]) [8, 9, 15] rfl
    have hKc : va_K (dC, dI) vwCl [(cI, .int)] s := hK.sub (tys' := [(cI, .int)]) [0] rfl
    have hDc := hD.sub (ws' := [(g0, .inr (5, [.int (zi co), .ref ps, .int (zi 0), .ref pk, .ref pa, .ref pb, .ref pq, .int (zi we), .int (zi wl), .ref pw, .int (zi tl), .ref pt])), (ps, aI cI 10 sf), (pt, aI cI 20 tf)]) [8, 9, 15] (by decide) rfl
    have hFc := va_free (wc := [(g0, .inr (5, [.int (zi co), .ref ps, .int (zi 0), .ref pk, .ref pa, .ref pb, .ref pq, .int (zi we), .int (zi wl), .ref pw, .int (zi tl), .ref pt])), (ps, aI cI 10 sf), (pt, aI cI 20 tf)]) hD hS hA [8, 9, 15] rfl
    refine va_calli (va_runV (As := [.int (zi sl)]) (rest := []) ⟨hx, hb, hml, hown, hts⟩ hh2 (cwV 1 hts gL_law_X5_read rfl rfl rfl (by decide +kernel) ⟨Nat.le_of_ble_eq_true rfl, Nat.le_of_ble_eq_true rfl⟩) ⟨zPw.blind _ _ _ _ _, va_recv hKc hPc (ci := 5) (q0 := 0) rfl rfl, fun U hU hW => ⟨rfl, by rw [hU], by rw [hU]; exact hPc, va_K.moved hW.alike hKc, hDc.weaken (fun _ _ _ _ => trivial)⟩⟩ rfl rfl hl.1 rfl (lv_room (Nat.le_of_ble_eq_true rfl)) dL_law_1452 ⟨by show _ ≤ 601024; omega, by show _ ≤ 7293033; omega⟩) hS (fun q _ h => hFc q h) hFc (fun r2 u t H1 locs ht hvm hw hB hz1 hk1 hS => ?_)
    obtain ⟨hP1, hK1, hD1⟩ := hB
    rw [ht] at hP1
    obtain ⟨hP, hD⟩ := va_join (wr := [(qs, aI cI 10 sf), (qr, .inr (0, [.int (zi mc), .ref qd, .int (zi 0)])), (qm, .inr (2, [.ref qk, .int (zi fi), .int (zi ln)])), (qk, aI cI 366 mf), (qw, .inr (1, [.ref wc, .int (zi wl)])), (wc, aI cI 20 wf), (qt, .inr (1, [.ref tc, .int (zi tl)])), (tc, aI cI 20 tf), (pk, aI cI 12 kf), (pa, aI cI 12 af), (pb, aI cI 12 bf), (pq, aI cI 12 zf), (pw, aI cI 12 wf), (h0, .inr (4, [.ref qs, .ref qr, .ref qm, .ref qw, .ref qt, .int (zi we)])), (qo, aL cL 1 of)]) (w1 := [(g0, .inr (5, [.int (zi 1), .ref ps, .int (zi 0), .ref pk, .ref pa, .ref pb, .ref pq, .int (zi we), .int (zi wl), .ref pw, .int (zi tl), .ref pt])), (ps, aI cI 10 sf), (pt, aI cI 20 tf)]) hP hD [8, 9, 15] [0, 1, 2, 3, 4, 5, 6, 7, 10, 11, 12, 13, 14, 16, 17] rfl rfl (by decide) (by decide) hk1 hFc hP1 hD1
    generalize H1 = H at hP hS ⊢
    obtain rfl : r2 = zi 0 := hw
    have hP : va_P (dC, dI) vwCl [(qs, aI cI 10 sf), (qr, .inr (0, [.int (zi mc), .ref qd, .int (zi 0)])), (qm, .inr (2, [.ref qk, .int (zi fi), .int (zi ln)])), (qk, aI cI 366 mf), (qw, .inr (1, [.ref wc, .int (zi wl)])), (wc, aI cI 20 wf), (qt, .inr (1, [.ref tc, .int (zi tl)])), (tc, aI cI 20 tf), (pk, aI cI 12 kf), (pa, aI cI 12 af), (pb, aI cI 12 bf), (pq, aI cI 12 zf), (pw, aI cI 12 wf), (h0, .inr (4, [.ref qs, .ref qr, .ref qm, .ref qw, .ref qt, .int (zi we)])), (qo, aL cL 1 of), (g0, .inr (5, [.int (zi 1), .ref ps, .int (zi 0), .ref pk, .ref pa, .ref pb, .ref pq, .int (zi we), .int (zi wl), .ref pw, .int (zi tl), .ref pt])), (ps, aI cI 10 sf), (pt, aI cI 20 tf)] H := hP
    have hD : va_D A [(qs, aI cI 10 sf), (qr, .inr (0, [.int (zi mc), .ref qd, .int (zi 0)])), (qm, .inr (2, [.ref qk, .int (zi fi), .int (zi ln)])), (qk, aI cI 366 mf), (qw, .inr (1, [.ref wc, .int (zi wl)])), (wc, aI cI 20 wf), (qt, .inr (1, [.ref tc, .int (zi tl)])), (tc, aI cI 20 tf), (pk, aI cI 12 kf), (pa, aI cI 12 af), (pb, aI cI 12 bf), (pq, aI cI 12 zf), (pw, aI cI 12 wf), (h0, .inr (4, [.ref qs, .ref qr, .ref qm, .ref qw, .ref qt, .int (zi we)])), (qo, aL cL 1 of), (g0, .inr (5, [.int (zi 1), .ref ps, .int (zi 0), .ref pk, .ref pa, .ref pb, .ref pq, .int (zi we), .int (zi wl), .ref pw, .int (zi tl), .ref pt])), (ps, aI cI 10 sf), (pt, aI cI 20 tf)] := hD
    refine lv_istore (lv' := [(6, .int (zi 0)), (5, .int (zi 1)), (4, .int (zi ii)), (0, .ref b), (1, .ref h0), (2, .ref g0), (3, .ref qo)]) hx hb dL_law_1455 hl (by decide) rfl (fun ls hl => ?_)
    refine lv_aload_n hx hb dL_law_1457 rfl (lv_at hl 5 rfl) ?_
    have hh3 := c_X5_thrown l dC dI cI g0 ps pk pa pb pq pw pt 1 0 we wl tl sf 
    have hPc := hP.sub (ws' := [(g0, .inr (5, [.int (zi 1), .ref ps, .int (zi 0), .ref pk, .ref pa, .ref pb, .ref pq, .int (zi we), .int (zi wl), .ref pw, .int (zi tl), .ref pt])), (ps, aI cI 10 sf)]) [15, 16] rfl
    have hKc : va_K (dC, dI) vwCl [(cI, .int)] s := hK.sub (tys' := [(cI, .int)]) [0] rfl
    refine vp_callSi (va_Run.run (va_runV (As := []) (rest := []) ⟨hx, hb, hml, hown, hts⟩ hh3 (cwV 0 hts gL_law_X5_thrown rfl rfl rfl (by decide +kernel) ⟨Nat.le_of_ble_eq_true rfl, Nat.le_of_ble_eq_true rfl⟩) ⟨zPr.blind _ _ _ _, va_recv hKc hPc (ci := 5) (q0 := 0) rfl rfl, fun U hU hW => ⟨rfl, by rw [hU]; exact hPc, va_K.moved hW.alike hKc⟩⟩ rfl rfl hl.1 rfl (lv_room (Nat.le_of_ble_eq_true rfl)) dL_law_1458 ⟨by show _ ≤ 601024; omega, by show _ ≤ 7293033; omega⟩)) (fun r3 (hr3 : r3 = zi 1) => ?_)
    subst hr3
    refine lv_iload hx hb dL_law_1461 (lv_at hl 1 rfl) ?_
    refine zw_icmp_eq (tgt := 1468) hx hb dL_law_1463 (by decide) ⟨by omega, by omega⟩ ⟨by omega, by omega⟩ (fun h4 => ?_) (fun h4 => ?_)
    · skip
      refine lv_iload hx hb dL_law_1468 (lv_at hl 1 rfl) ?_
      refine zw_if_ne (tgt := 1485) hx hb dL_law_1470 (by decide) ⟨by omega, by omega⟩ (fun h5 => ?_) (fun h5 => ?_)
      · skip
        refine lv_goto (tgt := 1499) hx hb dL_law_1485 (by decide) ?_
        have hP9 : va_P (dC, dI) vwCl [(h0, .inr (4, [.ref qs, .ref qr, .ref qm, .ref qw, .ref qt, .int (zi we)])), (qs, aI cI 10 sf), (qr, .inr (0, [.int (zi mc), .ref qd, .int (zi 0)])), (qm, .inr (2, [.ref qk, .int (zi fi), .int (zi ln)])), (qk, aI cI 366 mf), (qw, .inr (1, [.ref wc, .int (zi wl)])), (wc, aI cI 20 wf), (qt, .inr (1, [.ref tc, .int (zi tl)])), (tc, aI cI 20 tf), (g0, .inr (5, [.int (zi 1), .ref ps, .int (zi 0), .ref pk, .ref pa, .ref pb, .ref pq, .int (zi we), .int (zi wl), .ref pw, .int (zi tl), .ref pt])), (ps, aI cI 10 sf), (pk, aI cI 12 kf), (pa, aI cI 12 af), (pb, aI cI 12 bf), (pq, aI cI 12 zf), (pw, aI cI 12 wf), (pt, aI cI 20 tf), (qo, aL cL 1 of)] H := hP.sub (ws' := [(h0, .inr (4, [.ref qs, .ref qr, .ref qm, .ref qw, .ref qt, .int (zi we)])), (qs, aI cI 10 sf), (qr, .inr (0, [.int (zi mc), .ref qd, .int (zi 0)])), (qm, .inr (2, [.ref qk, .int (zi fi), .int (zi ln)])), (qk, aI cI 366 mf), (qw, .inr (1, [.ref wc, .int (zi wl)])), (wc, aI cI 20 wf), (qt, .inr (1, [.ref tc, .int (zi tl)])), (tc, aI cI 20 tf), (g0, .inr (5, [.int (zi 1), .ref ps, .int (zi 0), .ref pk, .ref pa, .ref pb, .ref pq, .int (zi we), .int (zi wl), .ref pw, .int (zi tl), .ref pt])), (ps, aI cI 10 sf), (pk, aI cI 12 kf), (pa, aI cI 12 af), (pb, aI cI 12 bf), (pq, aI cI 12 zf), (pw, aI cI 12 wf), (pt, aI cI 20 tf), (qo, aL cL 1 of)]) [13, 0, 1, 2, 3, 4, 5, 6, 7, 15, 16, 8, 9, 10, 11, 12, 17, 14] rfl
        have hD9 : va_D A [(h0, .inr (4, [.ref qs, .ref qr, .ref qm, .ref qw, .ref qt, .int (zi we)])), (qs, aI cI 10 sf), (qr, .inr (0, [.int (zi mc), .ref qd, .int (zi 0)])), (qm, .inr (2, [.ref qk, .int (zi fi), .int (zi ln)])), (qk, aI cI 366 mf), (qw, .inr (1, [.ref wc, .int (zi wl)])), (wc, aI cI 20 wf), (qt, .inr (1, [.ref tc, .int (zi tl)])), (tc, aI cI 20 tf), (g0, .inr (5, [.int (zi 1), .ref ps, .int (zi 0), .ref pk, .ref pa, .ref pb, .ref pq, .int (zi we), .int (zi wl), .ref pw, .int (zi tl), .ref pt])), (ps, aI cI 10 sf), (pk, aI cI 12 kf), (pa, aI cI 12 af), (pb, aI cI 12 bf), (pq, aI cI 12 zf), (pw, aI cI 12 wf), (pt, aI cI 20 tf), (qo, aL cL 1 of)] := hD.sub (ws' := [(h0, .inr (4, [.ref qs, .ref qr, .ref qm, .ref qw, .ref qt, .int (zi we)])), (qs, aI cI 10 sf), (qr, .inr (0, [.int (zi mc), .ref qd, .int (zi 0)])), (qm, .inr (2, [.ref qk, .int (zi fi), .int (zi ln)])), (qk, aI cI 366 mf), (qw, .inr (1, [.ref wc, .int (zi wl)])), (wc, aI cI 20 wf), (qt, .inr (1, [.ref tc, .int (zi tl)])), (tc, aI cI 20 tf), (g0, .inr (5, [.int (zi 1), .ref ps, .int (zi 0), .ref pk, .ref pa, .ref pb, .ref pq, .int (zi we), .int (zi wl), .ref pw, .int (zi tl), .ref pt])), (ps, aI cI 10 sf), (pk, aI cI 12 kf), (pa, aI cI 12 af), (pb, aI cI 12 bf), (pq, aI cI 12 zf), (pw, aI cI 12 wf), (pt, aI cI 20 tf), (qo, aL cL 1 of)]) [13, 0, 1, 2, 3, 4, 5, 6, 7, 15, 16, 8, 9, 10, 11, 12, 17, 14] (by decide) rfl
        have hI9 : LI sf kf af bf zf wf tf 0 we fi ln wl tl := hI
        refine W.widen (k := ce + 2) (n := sn + 19) (by omega) (by omega) ?_
        exact K0 mc we fi ln mf sf kf af bf zf wl wf tl tf 1 of H locs ls ⟨hP9, hD9, hS, hI9⟩ (lv_sub hl [2, 3, 4, 5, 6] rfl)
      · skip
        exact absurd True.intro (by omega)
    · skip
      exact absurd True.intro (by omega)
