/-! THE LAW'S CASE moveWork -/
set_option maxHeartbeats 4000000 in
set_option maxRecDepth 100000 in
theorem law0_moveWork {p : Program} {l : Launch} {e : Env} {s : State} {m : MethodId} {below : List Frame} {meth : Method} {c : Code} {b : Nat} {L : Nat} {xs : Nat → Int32} {dC : Nat → ClassId} {dI : Nat → Nat → Nat} {cI : ClassId} {cL : ClassId} {cO : ClassId} {qd : Nat} {mi : Nat} {x0 : Nat} {v0 : Nat} {x1 : Nat} {v1 : Nat} {x2 : Nat} {v2 : Nat} {qy : Option Nat} {A : Nat → Prop} {h0 qs qr qm qw qt qk wc tc g0 ps pk pa pb pq pw pt qo : Nat} {mc : Int} {we : Int} {fi : Int} {ln : Int} {mf : Nat → Int} {sf : Nat → Int} {kf : Nat → Int} {af : Nat → Int} {bf : Nat → Int} {zf : Nat → Int} {wl : Int} {wf : Nat → Int} {tl : Int} {tf : Nat → Int} {co : Int} {of : Nat → Int} {ii : Int} {ce sn : Nat} {H : Heap} {locs : List Loc} {ls : Array Slot} (C : LC p l e s m below meth c b L xs dC dI cI cL cO qd mi x0 v0 x1 v1 x2 v2 qy A) (hLS : LS0 s dC dI cI cL cO qd A h0 qs qr qm qw qt qk wc tc g0 ps pk pa pb pq pw pt qo mc we fi ln mf sf kf af bf zf wl wf tl tf co of H locs) (K1 : LK1 p l e s m below meth c b L xs dC dI cI cL cO qd mi x0 v0 x1 v1 x2 v2 qy A h0 qs qr qm qw qt qk wc tc g0 ps pk pa pb pq pw pt qo ii ce sn) (K0 : LK0 p l e s m below meth c b L xs dC dI cI cL cO qd mi x0 v0 x1 v1 x2 v2 qy A h0 qs qr qm qw qt qk wc tc g0 ps pk pa pb pq pw pt qo ii ce sn) (hii : 0 ≤ ii ∧ ii + 6 ≤ (L : Int)) (hce : ce ≤ 601000) (hsn : sn ≤ 7293000) (hl : lv_has ls 7 [(4, .int (zi ii)), (0, .ref b), (1, .ref h0), (2, .ref g0), (3, .ref qo)]) : W p l e room_1 s m #[Value.ref b] below meth c H locs ce sn (lw_Z below #[Value.ref b] s) (F0 m 1184 ls []) := by
  obtain ⟨hx, hb, hml, hown, hts, hst, hK, hE, hO, h3, hX, hbl, hbA, hA, hL⟩ := C
  obtain ⟨hP, hD, hS, hI⟩ := hLS
  have rf : Nat → Nat := fun _ => 0
  obtain ⟨sl, hv1⟩ : ∃ z : Int, z = (xs (ii + 1).toNat).toInt := ⟨_, rfl⟩
  have hb1 : -2147483648 ≤ sl ∧ sl ≤ 2147483647 := by rw [hv1]; exact scr_b _
  obtain ⟨many, hv2⟩ : ∃ z : Int, z = (xs (ii + 2).toNat).toInt := ⟨_, rfl⟩
  have hb2 : -2147483648 ≤ many ∧ many ≤ 2147483647 := by rw [hv2]; exact scr_b _
  have hI1 := hI.rub
  have hI2 := hI.web
  have hI3 := hI.mkb
  have hI4 := hI.wlb
  have hI5 := hI.tlb
  by_cases h1 : 0 ≤ sl ∧ sl ≤ 9
  · skip
    have hsb := hI.sfb sl.toNat
    by_cases h2 : sf sl.toNat = -1
    · skip
      refine lv_aload_n hx hb dL_law_1184 rfl (lv_at hl 2 rfl) ?_
      refine lv_aload_n hx hb dL_law_1185 rfl (lv_at hl 1 rfl) ?_
      refine lv_iload hx hb dL_law_1186 (lv_at hl 0 rfl) ?_
      refine zw_iconst hx hb dL_law_1188 ?_
      refine zw_iadd hx hb dL_law_1189 ?_
      refine zw_scr hx hb hX hbl hbA hS (by omega) (by omega) ⟨by omega, by omega⟩ hv1 dL_law_1190 ?_
      refine lv_aload_n hx hb dL_law_1191 rfl (lv_at hl 1 rfl) ?_
      refine lv_iload hx hb dL_law_1192 (lv_at hl 0 rfl) ?_
      refine zw_iconst hx hb dL_law_1194 ?_
      refine zw_iadd hx hb dL_law_1195 ?_
      refine zw_scr hx hb hX hbl hbA hS (by omega) (by omega) ⟨by omega, by omega⟩ hv2 dL_law_1196 ?_
      refine lv_aload_n hx hb dL_law_1197 rfl (lv_at hl 4 rfl) ?_
      have hh1 := c_L_moveWork_2 l hst dC dI cI cL cO h0 qs qr qm qw qt we sf qo of sl many H.size (by omega) (by omega)
      have hPc := hP.sub (ws' := [(h0, .inr (4, [.ref qs, .ref qr, .ref qm, .ref qw, .ref qt, .int (zi we)])), (qs, aI cI 10 sf), (qo, aL cL 1 of)]) [0, 1, 17] rfl
      have hKc : va_K (dC, dI) vwCl [(cI, .int), (cL, .long), (cO, .object "java/lang/Object")] s := hK
      have hDc := hD.sub (ws' := [(h0, .inr (4, [.ref qs, .ref qr, .ref qm, .ref qw, .ref qt, .int (zi we)])), (qs, aI cI 10 sf), (qo, aL cL 1 of)]) [0, 1, 17] (by decide) rfl
      have hFc := va_free (wc := [(h0, .inr (4, [.ref qs, .ref qr, .ref qm, .ref qw, .ref qt, .int (zi we)])), (qs, aI cI 10 sf), (qo, aL cL 1 of)]) hD hS hA [0, 1, 17] rfl
      refine va_calli (vx_runSW (As := [.ref h0, .int (zi sl), .int (zi many), .ref qo]) (rest := []) ⟨hx, hb, hml, hown, hts⟩ hh1 (vx_cwSW 4 hts gL_law_L_moveWork rfl rfl rfl (by decide +kernel) ⟨Nat.le_of_ble_eq_true rfl, Nat.le_of_ble_eq_true rfl⟩) ⟨zPx.blind _ _ _ _ _, fun U hU hW => ⟨rfl, by rw [hU], hE.call hS (fun q h => hA q (Nat.le_trans hS.1 (by rw [hU] at h; exact h))) hU hW, by rw [hU]; exact hPc, va_K.moved hW.alike hKc, hDc.weaken (fun _ _ _ _ => trivial)⟩⟩ rfl rfl hl.1 rfl (lv_room (Nat.le_of_ble_eq_true rfl)) dL_law_1198 ⟨by show _ ≤ 601024; omega, by show _ ≤ 7293033; omega⟩) hS (fun q _ h => hFc q h) hFc (fun r1 u t H1 locs ht hvm hw hB hz1 hk1 hS => ?_)
      obtain ⟨hP1, hK1, hD1⟩ := hB
      rw [ht] at hP1
      obtain ⟨hP, hD⟩ := va_join (wr := [(qr, .inr (0, [.int (zi mc), .ref qd, .int (zi 0)])), (qm, .inr (2, [.ref qk, .int (zi fi), .int (zi ln)])), (qk, aI cI 366 mf), (qw, .inr (1, [.ref wc, .int (zi wl)])), (wc, aI cI 20 wf), (qt, .inr (1, [.ref tc, .int (zi tl)])), (tc, aI cI 20 tf), (g0, .inr (5, [.int (zi co), .ref ps, .int (zi 0), .ref pk, .ref pa, .ref pb, .ref pq, .int (zi we), .int (zi wl), .ref pw, .int (zi tl), .ref pt])), (ps, aI cI 10 sf), (pk, aI cI 12 kf), (pa, aI cI 12 af), (pb, aI cI 12 bf), (pq, aI cI 12 zf), (pw, aI cI 12 wf), (pt, aI cI 20 tf)]) (w1 := [(h0, .inr (4, [.ref qs, .ref qr, .ref qm, .ref qw, .ref qt, .int (zi we)])), (qs, aI cI 10 sf), (qo, aL cL 1 of)]) hP hD [0, 1, 17] [2, 3, 4, 5, 6, 7, 8, 9, 10, 11, 12, 13, 14, 15, 16] rfl rfl (by decide) (by decide) hk1 hFc hP1 hD1
      generalize H1 = H at hP hS ⊢
      obtain rfl : r1 = zi 2 := hw
      have hP : va_P (dC, dI) vwCl [(qr, .inr (0, [.int (zi mc), .ref qd, .int (zi 0)])), (qm, .inr (2, [.ref qk, .int (zi fi), .int (zi ln)])), (qk, aI cI 366 mf), (qw, .inr (1, [.ref wc, .int (zi wl)])), (wc, aI cI 20 wf), (qt, .inr (1, [.ref tc, .int (zi tl)])), (tc, aI cI 20 tf), (g0, .inr (5, [.int (zi co), .ref ps, .int (zi 0), .ref pk, .ref pa, .ref pb, .ref pq, .int (zi we), .int (zi wl), .ref pw, .int (zi tl), .ref pt])), (ps, aI cI 10 sf), (pk, aI cI 12 kf), (pa, aI cI 12 af), (pb, aI cI 12 bf), (pq, aI cI 12 zf), (pw, aI cI 12 wf), (pt, aI cI 20 tf), (h0, .inr (4, [.ref qs, .ref qr, .ref qm, .ref qw, .ref qt, .int (zi we)])), (qs, aI cI 10 sf), (qo, aL cL 1 of)] H := hP
      have hD : va_D A [(qr, .inr (0, [.int (zi mc), .ref qd, .int (zi 0)])), (qm, .inr (2, [.ref qk, .int (zi fi), .int (zi ln)])), (qk, aI cI 366 mf), (qw, .inr (1, [.ref wc, .int (zi wl)])), (wc, aI cI 20 wf), (qt, .inr (1, [.ref tc, .int (zi tl)])), (tc, aI cI 20 tf), (g0, .inr (5, [.int (zi co), .ref ps, .int (zi 0), .ref pk, .ref pa, .ref pb, .ref pq, .int (zi we), .int (zi wl), .ref pw, .int (zi tl), .ref pt])), (ps, aI cI 10 sf), (pk, aI cI 12 kf), (pa, aI cI 12 af), (pb, aI cI 12 bf), (pq, aI cI 12 zf), (pw, aI cI 12 wf), (pt, aI cI 20 tf), (h0, .inr (4, [.ref qs, .ref qr, .ref qm, .ref qw, .ref qt, .int (zi we)])), (qs, aI cI 10 sf), (qo, aL cL 1 of)] := hD
      refine lv_istore (lv' := [(5, .int (zi 2)), (4, .int (zi ii)), (0, .ref b), (1, .ref h0), (2, .ref g0), (3, .ref qo)]) hx hb dL_law_1201 hl (by decide) rfl (fun ls hl => ?_)
      refine lv_aload_n hx hb dL_law_1203 rfl (lv_at hl 4 rfl) ?_
      refine lv_aload_n hx hb dL_law_1204 rfl (lv_at hl 2 rfl) ?_
      refine lv_iload hx hb dL_law_1205 (lv_at hl 1 rfl) ?_
      refine zw_iconst hx hb dL_law_1207 ?_
      refine zw_iadd hx hb dL_law_1208 ?_
      refine zw_scr hx hb hX hbl hbA hS (by omega) (by omega) ⟨by omega, by omega⟩ hv1 dL_law_1209 ?_
      refine lv_aload_n hx hb dL_law_1210 rfl (lv_at hl 2 rfl) ?_
      refine lv_iload hx hb dL_law_1211 (lv_at hl 1 rfl) ?_
      refine zw_iconst hx hb dL_law_1213 ?_
      refine zw_iadd hx hb dL_law_1214 ?_
      refine zw_scr hx hb hX hbl hbA hS (by omega) (by omega) ⟨by omega, by omega⟩ hv2 dL_law_1215 ?_
      have hh2 := c_X5_moveWork_2 l dC dI cI g0 ps pk pa pb pq pw pt co 0 we wl tl sf kf af bf zf sl many H.size (by omega) (by omega)
      have hPc := hP.sub (ws' := [(g0, .inr (5, [.int (zi co), .ref ps, .int (zi 0), .ref pk, .ref pa, .ref pb, .ref pq, .int (zi we), .int (zi wl), .ref pw, .int (zi tl), .ref pt])), (ps, aI cI 10 sf), (pk, aI cI 12 kf), (pa, aI cI 12 af), (pb, aI cI 12 bf), (pq, aI cI 12 zf)]) [7, 8, 9, 10, 11, 12] rfl
      have hKc : va_K (dC, dI) vwCl [(cI, .int)] s := hK.sub (tys' := [(cI, .int)]) [0] rfl
      have hDc := hD.sub (ws' := [(g0, .inr (5, [.int (zi co), .ref ps, .int (zi 0), .ref pk, .ref pa, .ref pb, .ref pq, .int (zi we), .int (zi wl), .ref pw, .int (zi tl), .ref pt])), (ps, aI cI 10 sf), (pk, aI cI 12 kf), (pa, aI cI 12 af), (pb, aI cI 12 bf), (pq, aI cI 12 zf)]) [7, 8, 9, 10, 11, 12] (by decide) rfl
      have hFc := va_free (wc := [(g0, .inr (5, [.int (zi co), .ref ps, .int (zi 0), .ref pk, .ref pa, .ref pb, .ref pq, .int (zi we), .int (zi wl), .ref pw, .int (zi tl), .ref pt])), (ps, aI cI 10 sf), (pk, aI cI 12 kf), (pa, aI cI 12 af), (pb, aI cI 12 bf), (pq, aI cI 12 zf)]) hD hS hA [7, 8, 9, 10, 11, 12] rfl
      refine va_calli (va_runV (As := [.int (zi sl), .int (zi many)]) (rest := []) ⟨hx, hb, hml, hown, hts⟩ hh2 (cwV 2 hts gL_law_X5_moveWork rfl rfl rfl (by decide +kernel) ⟨Nat.le_of_ble_eq_true rfl, Nat.le_of_ble_eq_true rfl⟩) ⟨zPw.blind _ _ _ _ _, va_recv hKc hPc (ci := 5) (q0 := 0) rfl rfl, fun U hU hW => ⟨rfl, by rw [hU], by rw [hU]; exact hPc, va_K.moved hW.alike hKc, hDc.weaken (fun _ _ _ _ => trivial)⟩⟩ rfl rfl hl.1 rfl (lv_room (Nat.le_of_ble_eq_true rfl)) dL_law_1216 ⟨by show _ ≤ 601024; omega, by show _ ≤ 7293033; omega⟩) hS (fun q _ h => hFc q h) hFc (fun r2 u t H1 locs ht hvm hw hB hz1 hk1 hS => ?_)
      obtain ⟨hP1, hK1, hD1⟩ := hB
      rw [ht] at hP1
      obtain ⟨hP, hD⟩ := va_join (wr := [(qr, .inr (0, [.int (zi mc), .ref qd, .int (zi 0)])), (qm, .inr (2, [.ref qk, .int (zi fi), .int (zi ln)])), (qk, aI cI 366 mf), (qw, .inr (1, [.ref wc, .int (zi wl)])), (wc, aI cI 20 wf), (qt, .inr (1, [.ref tc, .int (zi tl)])), (tc, aI cI 20 tf), (pw, aI cI 12 wf), (pt, aI cI 20 tf), (h0, .inr (4, [.ref qs, .ref qr, .ref qm, .ref qw, .ref qt, .int (zi we)])), (qs, aI cI 10 sf), (qo, aL cL 1 of)]) (w1 := [(g0, .inr (5, [.int (zi 2), .ref ps, .int (zi 0), .ref pk, .ref pa, .ref pb, .ref pq, .int (zi we), .int (zi wl), .ref pw, .int (zi tl), .ref pt])), (ps, aI cI 10 sf), (pk, aI cI 12 kf), (pa, aI cI 12 af), (pb, aI cI 12 bf), (pq, aI cI 12 zf)]) hP hD [7, 8, 9, 10, 11, 12] [0, 1, 2, 3, 4, 5, 6, 13, 14, 15, 16, 17] rfl rfl (by decide) (by decide) hk1 hFc hP1 hD1
      generalize H1 = H at hP hS ⊢
      obtain rfl : r2 = zi 0 := hw
      have hP : va_P (dC, dI) vwCl [(qr, .inr (0, [.int (zi mc), .ref qd, .int (zi 0)])), (qm, .inr (2, [.ref qk, .int (zi fi), .int (zi ln)])), (qk, aI cI 366 mf), (qw, .inr (1, [.ref wc, .int (zi wl)])), (wc, aI cI 20 wf), (qt, .inr (1, [.ref tc, .int (zi tl)])), (tc, aI cI 20 tf), (pw, aI cI 12 wf), (pt, aI cI 20 tf), (h0, .inr (4, [.ref qs, .ref qr, .ref qm, .ref qw, .ref qt, .int (zi we)])), (qs, aI cI 10 sf), (qo, aL cL 1 of), (g0, .inr (5, [.int (zi 2), .ref ps, .int (zi 0), .ref pk, .ref pa, .ref pb, .ref pq, .int (zi we), .int (zi wl), .ref pw, .int (zi tl), .ref pt])), (ps, aI cI 10 sf), (pk, aI cI 12 kf), (pa, aI cI 12 af), (pb, aI cI 12 bf), (pq, aI cI 12 zf)] H := hP
      have hD : va_D A [(qr, .inr (0, [.int (zi mc), .ref qd, .int (zi 0)])), (qm, .inr (2, [.ref qk, .int (zi fi), .int (zi ln)])), (qk, aI cI 366 mf), (qw, .inr (1, [.ref wc, .int (zi wl)])), (wc, aI cI 20 wf), (qt, .inr (1, [.ref tc, .int (zi tl)])), (tc, aI cI 20 tf), (pw, aI cI 12 wf), (pt, aI cI 20 tf), (h0, .inr (4, [.ref qs, .ref qr, .ref qm, .ref qw, .ref qt, .int (zi we)])), (qs, aI cI 10 sf), (qo, aL cL 1 of), (g0, .inr (5, [.int (zi 2), .ref ps, .int (zi 0), .ref pk, .ref pa, .ref pb, .ref pq, .int (zi we), .int (zi wl), .ref pw, .int (zi tl), .ref pt])), (ps, aI cI 10 sf), (pk, aI cI 12 kf), (pa, aI cI 12 af), (pb, aI cI 12 bf), (pq, aI cI 12 zf)] := hD
      refine lv_istore (lv' := [(6, .int (zi 0)), (5, .int (zi 2)), (4, .int (zi ii)), (0, .ref b), (1, .ref h0), (2, .ref g0), (3, .ref qo)]) hx hb dL_law_1219 hl (by decide) rfl (fun ls hl => ?_)
      refine lv_aload_n hx hb dL_law_1221 rfl (lv_at hl 5 rfl) ?_
      have hh3 := c_X5_thrown l dC dI cI g0 ps pk pa pb pq pw pt 2 0 we wl tl sf 
      have hPc := hP.sub (ws' := [(g0, .inr (5, [.int (zi 2), .ref ps, .int (zi 0), .ref pk, .ref pa, .ref pb, .ref pq, .int (zi we), .int (zi wl), .ref pw, .int (zi tl), .ref pt])), (ps, aI cI 10 sf)]) [12, 13] rfl
      have hKc : va_K (dC, dI) vwCl [(cI, .int)] s := hK.sub (tys' := [(cI, .int)]) [0] rfl
      refine vp_callSi (va_Run.run (va_runV (As := []) (rest := []) ⟨hx, hb, hml, hown, hts⟩ hh3 (cwV 0 hts gL_law_X5_thrown rfl rfl rfl (by decide +kernel) ⟨Nat.le_of_ble_eq_true rfl, Nat.le_of_ble_eq_true rfl⟩) ⟨zPr.blind _ _ _ _, va_recv hKc hPc (ci := 5) (q0 := 0) rfl rfl, fun U hU hW => ⟨rfl, by rw [hU]; exact hPc, va_K.moved hW.alike hKc⟩⟩ rfl rfl hl.1 rfl (lv_room (Nat.le_of_ble_eq_true rfl)) dL_law_1222 ⟨by show _ ≤ 601024; omega, by show _ ≤ 7293033; omega⟩)) (fun r3 (hr3 : r3 = zi 2) => ?_)
      subst hr3
      refine lv_iload hx hb dL_law_1225 (lv_at hl 1 rfl) ?_
      refine zw_icmp_eq (tgt := 1232) hx hb dL_law_1227 (by decide) ⟨by omega, by omega⟩ ⟨by omega, by omega⟩ (fun h4 => ?_) (fun h4 => ?_)
      · skip
        refine lv_iload hx hb dL_law_1232 (lv_at hl 1 rfl) ?_
        refine zw_if_ne (tgt := 1249) hx hb dL_law_1234 (by decide) ⟨by omega, by omega⟩ (fun h5 => ?_) (fun h5 => ?_)
        · skip
          refine lv_goto (tgt := 1499) hx hb dL_law_1249 (by decide) ?_
          have hP9 : va_P (dC, dI) vwCl [(h0, .inr (4, [.ref qs, .ref qr, .ref qm, .ref qw, .ref qt, .int (zi we)])), (qs, aI cI 10 sf), (qr, .inr (0, [.int (zi mc), .ref qd, .int (zi 0)])), (qm, .inr (2, [.ref qk, .int (zi fi), .int (zi ln)])), (qk, aI cI 366 mf), (qw, .inr (1, [.ref wc, .int (zi wl)])), (wc, aI cI 20 wf), (qt, .inr (1, [.ref tc, .int (zi tl)])), (tc, aI cI 20 tf), (g0, .inr (5, [.int (zi 2), .ref ps, .int (zi 0), .ref pk, .ref pa, .ref pb, .ref pq, .int (zi we), .int (zi wl), .ref pw, .int (zi tl), .ref pt])), (ps, aI cI 10 sf), (pk, aI cI 12 kf), (pa, aI cI 12 af), (pb, aI cI 12 bf), (pq, aI cI 12 zf), (pw, aI cI 12 wf), (pt, aI cI 20 tf), (qo, aL cL 1 of)] H := hP.sub (ws' := [(h0, .inr (4, [.ref qs, .ref qr, .ref qm, .ref qw, .ref qt, .int (zi we)])), (qs, aI cI 10 sf), (qr, .inr (0, [.int (zi mc), .ref qd, .int (zi 0)])), (qm, .inr (2, [.ref qk, .int (zi fi), .int (zi ln)])), (qk, aI cI 366 mf), (qw, .inr (1, [.ref wc, .int (zi wl)])), (wc, aI cI 20 wf), (qt, .inr (1, [.ref tc, .int (zi tl)])), (tc, aI cI 20 tf), (g0, .inr (5, [.int (zi 2), .ref ps, .int (zi 0), .ref pk, .ref pa, .ref pb, .ref pq, .int (zi we), .int (zi wl), .ref pw, .int (zi tl), .ref pt])), (ps, aI cI 10 sf), (pk, aI cI 12 kf), (pa, aI cI 12 af), (pb, aI cI 12 bf), (pq, aI cI 12 zf), (pw, aI cI 12 wf), (pt, aI cI 20 tf), (qo, aL cL 1 of)]) [9, 10, 0, 1, 2, 3, 4, 5, 6, 12, 13, 14, 15, 16, 17, 7, 8, 11] rfl
          have hD9 : va_D A [(h0, .inr (4, [.ref qs, .ref qr, .ref qm, .ref qw, .ref qt, .int (zi we)])), (qs, aI cI 10 sf), (qr, .inr (0, [.int (zi mc), .ref qd, .int (zi 0)])), (qm, .inr (2, [.ref qk, .int (zi fi), .int (zi ln)])), (qk, aI cI 366 mf), (qw, .inr (1, [.ref wc, .int (zi wl)])), (wc, aI cI 20 wf), (qt, .inr (1, [.ref tc, .int (zi tl)])), (tc, aI cI 20 tf), (g0, .inr (5, [.int (zi 2), .ref ps, .int (zi 0), .ref pk, .ref pa, .ref pb, .ref pq, .int (zi we), .int (zi wl), .ref pw, .int (zi tl), .ref pt])), (ps, aI cI 10 sf), (pk, aI cI 12 kf), (pa, aI cI 12 af), (pb, aI cI 12 bf), (pq, aI cI 12 zf), (pw, aI cI 12 wf), (pt, aI cI 20 tf), (qo, aL cL 1 of)] := hD.sub (ws' := [(h0, .inr (4, [.ref qs, .ref qr, .ref qm, .ref qw, .ref qt, .int (zi we)])), (qs, aI cI 10 sf), (qr, .inr (0, [.int (zi mc), .ref qd, .int (zi 0)])), (qm, .inr (2, [.ref qk, .int (zi fi), .int (zi ln)])), (qk, aI cI 366 mf), (qw, .inr (1, [.ref wc, .int (zi wl)])), (wc, aI cI 20 wf), (qt, .inr (1, [.ref tc, .int (zi tl)])), (tc, aI cI 20 tf), (g0, .inr (5, [.int (zi 2), .ref ps, .int (zi 0), .ref pk, .ref pa, .ref pb, .ref pq, .int (zi we), .int (zi wl), .ref pw, .int (zi tl), .ref pt])), (ps, aI cI 10 sf), (pk, aI cI 12 kf), (pa, aI cI 12 af), (pb, aI cI 12 bf), (pq, aI cI 12 zf), (pw, aI cI 12 wf), (pt, aI cI 20 tf), (qo, aL cL 1 of)]) [9, 10, 0, 1, 2, 3, 4, 5, 6, 12, 13, 14, 15, 16, 17, 7, 8, 11] (by decide) rfl
          have hI9 : LI sf kf af bf zf wf tf 0 we fi ln wl tl := hI
          refine W.widen (k := ce + 2) (n := sn + 19) (by omega) (by omega) ?_
          exact K0 mc we fi ln mf sf kf af bf zf wl wf tl tf 2 of H locs ls ⟨hP9, hD9, hS, hI9⟩ (lv_sub hl [2, 3, 4, 5, 6] rfl)
        · skip
          exact absurd True.intro (by omega)
      · skip
        exact absurd True.intro (by omega)
    · skip
      by_cases h3 : -1000 ≤ many ∧ many ≤ 1000
      · skip
        by_cases h4 : 0 ≤ many
        · skip
          obtain ⟨fz, hfz⟩ : ∃ z : Nat, z = 4000000 := ⟨_, rfl⟩
          obtain ⟨rr, hzm5⟩ : ∃ r : Int, zmv (wkX5 we kf af bf zf 0) 1 fz (sf sl.toNat) many = r := ⟨_, rfl⟩
          have hzm4 : zmv (wkX4 we kf af bf zf 0) 1 fz (sf sl.toNat) many = rr := (c9_zm we kf af bf zf 0 1 hI.rk fz (sf sl.toNat) many).trans hzm5
          have hrb := zmv_b (wkX5 we kf af bf zf 0) 1 fz (sf sl.toNat) many (by omega)
          rw [hzm5] at hrb
          by_cases h5 : rr = -1
          · skip
            refine lv_aload_n hx hb dL_law_1184 rfl (lv_at hl 2 rfl) ?_
            refine lv_aload_n hx hb dL_law_1185 rfl (lv_at hl 1 rfl) ?_
            refine lv_iload hx hb dL_law_1186 (lv_at hl 0 rfl) ?_
            refine zw_iconst hx hb dL_law_1188 ?_
            refine zw_iadd hx hb dL_law_1189 ?_
            refine zw_scr hx hb hX hbl hbA hS (by omega) (by omega) ⟨by omega, by omega⟩ hv1 dL_law_1190 ?_
            refine lv_aload_n hx hb dL_law_1191 rfl (lv_at hl 1 rfl) ?_
            refine lv_iload hx hb dL_law_1192 (lv_at hl 0 rfl) ?_
            refine zw_iconst hx hb dL_law_1194 ?_
            refine zw_iadd hx hb dL_law_1195 ?_
            refine zw_scr hx hb hX hbl hbA hS (by omega) (by omega) ⟨by omega, by omega⟩ hv2 dL_law_1196 ?_
            refine lv_aload_n hx hb dL_law_1197 rfl (lv_at hl 4 rfl) ?_
            have hh1 := c_Lz_moveWork_4p l hst dC dI cI cL cO h0 qs qr qm qw qt we sf qk fi ln mf mc qd qo of sl many fz rr rf kf af bf zf H.size (by omega) (by omega) (by omega) (by omega) (by omega) (by omega) (by exact hzm4) (by omega)
            have hPc := hP.sub (ws' := [(h0, .inr (4, [.ref qs, .ref qr, .ref qm, .ref qw, .ref qt, .int (zi we)])), (qs, aI cI 10 sf), (qm, .inr (2, [.ref qk, .int (zi fi), .int (zi ln)])), (qk, aI cI 366 mf), (qr, .inr (0, [.int (zi mc), .ref qd, .int (zi 0)])), (qo, aL cL 1 of)]) [0, 1, 3, 4, 2, 17] rfl
            have hKc : va_K (dC, dI) vwCl [(cI, .int), (cL, .long), (cO, .object "java/lang/Object")] s := hK
            have hDc := hD.sub (ws' := [(h0, .inr (4, [.ref qs, .ref qr, .ref qm, .ref qw, .ref qt, .int (zi we)])), (qs, aI cI 10 sf), (qm, .inr (2, [.ref qk, .int (zi fi), .int (zi ln)])), (qk, aI cI 366 mf), (qr, .inr (0, [.int (zi mc), .ref qd, .int (zi 0)])), (qo, aL cL 1 of)]) [0, 1, 3, 4, 2, 17] (by decide) rfl
            have hFc := va_free (wc := [(h0, .inr (4, [.ref qs, .ref qr, .ref qm, .ref qw, .ref qt, .int (zi we)])), (qs, aI cI 10 sf), (qm, .inr (2, [.ref qk, .int (zi fi), .int (zi ln)])), (qk, aI cI 366 mf), (qr, .inr (0, [.int (zi mc), .ref qd, .int (zi 0)])), (qo, aL cL 1 of)]) hD hS hA [0, 1, 3, 4, 2, 17] rfl
            refine va_calli (vx_runSW (As := [.ref h0, .int (zi sl), .int (zi many), .ref qo]) (rest := []) ⟨hx, hb, hml, hown, hts⟩ hh1 (vx_cwSW 4 hts gL_law_L_moveWork rfl rfl rfl (by decide +kernel) ⟨Nat.le_of_ble_eq_true rfl, Nat.le_of_ble_eq_true rfl⟩) ⟨zPxF.blind _ _ _ _ _ zRE_ok, fun U hU hW => ⟨rfl, by rw [hU], hE.call hS (fun q h => hA q (Nat.le_trans hS.1 (by rw [hU] at h; exact h))) hU hW, by rw [hU]; exact hPc, va_K.moved hW.alike hKc, hDc.weaken (fun _ _ _ _ => trivial), ⟨(fun k hk => absurd hk (by omega)), hE.call hS hFc hU hW⟩⟩⟩ rfl rfl hl.1 rfl (lv_room (Nat.le_of_ble_eq_true rfl)) dL_law_1198 ⟨by show _ ≤ 601024; omega, by show _ ≤ 7293033; omega⟩) hS (fun q _ h => hFc q h) hFc (fun r1 u t H1 locs ht hvm hw hB hz1 hk1 hS => ?_)
            obtain ⟨fk_2, lk_2, mk_2⟩ := u
            obtain ⟨hw, hw1⟩ := hw
            replace hw1 : 0 ≤ fk_2 ∧ fk_2 ≤ 4000000 ∧ 0 ≤ lk_2 ∧ lk_2 ≤ 366 := hw1
            obtain ⟨hP1, hK1, hD1⟩ := hB
            rw [ht] at hP1
            replace hP1 : va_P (dC, dI) vwCl [(h0, .inr (4, [.ref qs, .ref qr, .ref qm, .ref qw, .ref qt, .int (zi we)])), (qs, aI cI 10 sf), (qm, .inr (2, [.ref qk, .int (zi fk_2), .int (zi lk_2)])), (qk, aI cI 366 mk_2), (qr, .inr (0, [.int (zi mc), .ref qd, .int (zi 0)])), (qo, aL cL 1 of)] H1 := hP1
            replace hD1 : va_D _ [(h0, .inr (4, [.ref qs, .ref qr, .ref qm, .ref qw, .ref qt, .int (zi we)])), (qs, aI cI 10 sf), (qm, .inr (2, [.ref qk, .int (zi fk_2), .int (zi lk_2)])), (qk, aI cI 366 mk_2), (qr, .inr (0, [.int (zi mc), .ref qd, .int (zi 0)])), (qo, aL cL 1 of)] := hD1
            obtain ⟨hP, hD⟩ := va_join (wr := [(qw, .inr (1, [.ref wc, .int (zi wl)])), (wc, aI cI 20 wf), (qt, .inr (1, [.ref tc, .int (zi tl)])), (tc, aI cI 20 tf), (g0, .inr (5, [.int (zi co), .ref ps, .int (zi 0), .ref pk, .ref pa, .ref pb, .ref pq, .int (zi we), .int (zi wl), .ref pw, .int (zi tl), .ref pt])), (ps, aI cI 10 sf), (pk, aI cI 12 kf), (pa, aI cI 12 af), (pb, aI cI 12 bf), (pq, aI cI 12 zf), (pw, aI cI 12 wf), (pt, aI cI 20 tf)]) (w1 := [(h0, .inr (4, [.ref qs, .ref qr, .ref qm, .ref qw, .ref qt, .int (zi we)])), (qs, aI cI 10 sf), (qm, .inr (2, [.ref qk, .int (zi fk_2), .int (zi lk_2)])), (qk, aI cI 366 mk_2), (qr, .inr (0, [.int (zi mc), .ref qd, .int (zi 0)])), (qo, aL cL 1 of)]) hP hD [0, 1, 3, 4, 2, 17] [5, 6, 7, 8, 9, 10, 11, 12, 13, 14, 15, 16] rfl rfl (by decide) (by decide) hk1 hFc hP1 hD1
            generalize H1 = H at hP hS ⊢
            obtain rfl : r1 = zi 4 := hw
            have hP : va_P (dC, dI) vwCl [(qw, .inr (1, [.ref wc, .int (zi wl)])), (wc, aI cI 20 wf), (qt, .inr (1, [.ref tc, .int (zi tl)])), (tc, aI cI 20 tf), (g0, .inr (5, [.int (zi co), .ref ps, .int (zi 0), .ref pk, .ref pa, .ref pb, .ref pq, .int (zi we), .int (zi wl), .ref pw, .int (zi tl), .ref pt])), (ps, aI cI 10 sf), (pk, aI cI 12 kf), (pa, aI cI 12 af), (pb, aI cI 12 bf), (pq, aI cI 12 zf), (pw, aI cI 12 wf), (pt, aI cI 20 tf), (h0, .inr (4, [.ref qs, .ref qr, .ref qm, .ref qw, .ref qt, .int (zi we)])), (qs, aI cI 10 sf), (qm, .inr (2, [.ref qk, .int (zi fk_2), .int (zi lk_2)])), (qk, aI cI 366 mk_2), (qr, .inr (0, [.int (zi mc), .ref qd, .int (zi 0)])), (qo, aL cL 1 of)] H := hP
            have hD : va_D A [(qw, .inr (1, [.ref wc, .int (zi wl)])), (wc, aI cI 20 wf), (qt, .inr (1, [.ref tc, .int (zi tl)])), (tc, aI cI 20 tf), (g0, .inr (5, [.int (zi co), .ref ps, .int (zi 0), .ref pk, .ref pa, .ref pb, .ref pq, .int (zi we), .int (zi wl), .ref pw, .int (zi tl), .ref pt])), (ps, aI cI 10 sf), (pk, aI cI 12 kf), (pa, aI cI 12 af), (pb, aI cI 12 bf), (pq, aI cI 12 zf), (pw, aI cI 12 wf), (pt, aI cI 20 tf), (h0, .inr (4, [.ref qs, .ref qr, .ref qm, .ref qw, .ref qt, .int (zi we)])), (qs, aI cI 10 sf), (qm, .inr (2, [.ref qk, .int (zi fk_2), .int (zi lk_2)])), (qk, aI cI 366 mk_2), (qr, .inr (0, [.int (zi mc), .ref qd, .int (zi 0)])), (qo, aL cL 1 of)] := hD
            refine lv_istore (lv' := [(5, .int (zi 4)), (4, .int (zi ii)), (0, .ref b), (1, .ref h0), (2, .ref g0), (3, .ref qo)]) hx hb dL_law_1201 hl (by decide) rfl (fun ls hl => ?_)
            refine lv_aload_n hx hb dL_law_1203 rfl (lv_at hl 4 rfl) ?_
            refine lv_aload_n hx hb dL_law_1204 rfl (lv_at hl 2 rfl) ?_
            refine lv_iload hx hb dL_law_1205 (lv_at hl 1 rfl) ?_
            refine zw_iconst hx hb dL_law_1207 ?_
            refine zw_iadd hx hb dL_law_1208 ?_
            refine zw_scr hx hb hX hbl hbA hS (by omega) (by omega) ⟨by omega, by omega⟩ hv1 dL_law_1209 ?_
            refine lv_aload_n hx hb dL_law_1210 rfl (lv_at hl 2 rfl) ?_
            refine lv_iload hx hb dL_law_1211 (lv_at hl 1 rfl) ?_
            refine zw_iconst hx hb dL_law_1213 ?_
            refine zw_iadd hx hb dL_law_1214 ?_
            refine zw_scr hx hb hX hbl hbA hS (by omega) (by omega) ⟨by omega, by omega⟩ hv2 dL_law_1215 ?_
            have hh3 := c_X5_moveWork_p4 l dC dI cI g0 ps pk pa pb pq pw pt co 0 we wl tl sf kf af bf zf fz rr sl many H.size (by omega) (by omega) (by omega) (by exact hI.rk) (by omega) (by omega) (by omega) (by exact hzm5) (by omega)
            have hPc := hP.sub (ws' := [(g0, .inr (5, [.int (zi co), .ref ps, .int (zi 0), .ref pk, .ref pa, .ref pb, .ref pq, .int (zi we), .int (zi wl), .ref pw, .int (zi tl), .ref pt])), (ps, aI cI 10 sf), (pk, aI cI 12 kf), (pa, aI cI 12 af), (pb, aI cI 12 bf), (pq, aI cI 12 zf)]) [4, 5, 6, 7, 8, 9] rfl
            have hKc : va_K (dC, dI) vwCl [(cI, .int)] s := hK.sub (tys' := [(cI, .int)]) [0] rfl
            have hDc := hD.sub (ws' := [(g0, .inr (5, [.int (zi co), .ref ps, .int (zi 0), .ref pk, .ref pa, .ref pb, .ref pq, .int (zi we), .int (zi wl), .ref pw, .int (zi tl), .ref pt])), (ps, aI cI 10 sf), (pk, aI cI 12 kf), (pa, aI cI 12 af), (pb, aI cI 12 bf), (pq, aI cI 12 zf)]) [4, 5, 6, 7, 8, 9] (by decide) rfl
            have hFc := va_free (wc := [(g0, .inr (5, [.int (zi co), .ref ps, .int (zi 0), .ref pk, .ref pa, .ref pb, .ref pq, .int (zi we), .int (zi wl), .ref pw, .int (zi tl), .ref pt])), (ps, aI cI 10 sf), (pk, aI cI 12 kf), (pa, aI cI 12 af), (pb, aI cI 12 bf), (pq, aI cI 12 zf)]) hD hS hA [4, 5, 6, 7, 8, 9] rfl
            refine va_calli (va_runV (As := [.int (zi sl), .int (zi many)]) (rest := []) ⟨hx, hb, hml, hown, hts⟩ hh3 (cwV 2 hts gL_law_X5_moveWork rfl rfl rfl (by decide +kernel) ⟨Nat.le_of_ble_eq_true rfl, Nat.le_of_ble_eq_true rfl⟩) ⟨zPw.blind _ _ _ _ _, va_recv hKc hPc (ci := 5) (q0 := 0) rfl rfl, fun U hU hW => ⟨rfl, by rw [hU], by rw [hU]; exact hPc, va_K.moved hW.alike hKc, hDc.weaken (fun _ _ _ _ => trivial)⟩⟩ rfl rfl hl.1 rfl (lv_room (Nat.le_of_ble_eq_true rfl)) dL_law_1216 ⟨by show _ ≤ 601024; omega, by show _ ≤ 7293033; omega⟩) hS (fun q _ h => hFc q h) hFc (fun r3 u t H1 locs ht hvm hw hB hz1 hk1 hS => ?_)
            generalize u = cg_4 at hw hB
            obtain ⟨hw, hw3⟩ := hw
            replace hw3 : cg_4 = 4 := hw3
            obtain ⟨hP1, hK1, hD1⟩ := hB
            rw [ht] at hP1
            replace hP1 : va_P (dC, dI) vwCl [(g0, .inr (5, [.int (zi cg_4), .ref ps, .int (zi 0), .ref pk, .ref pa, .ref pb, .ref pq, .int (zi we), .int (zi wl), .ref pw, .int (zi tl), .ref pt])), (ps, aI cI 10 sf), (pk, aI cI 12 kf), (pa, aI cI 12 af), (pb, aI cI 12 bf), (pq, aI cI 12 zf)] H1 := hP1
            replace hD1 : va_D _ [(g0, .inr (5, [.int (zi cg_4), .ref ps, .int (zi 0), .ref pk, .ref pa, .ref pb, .ref pq, .int (zi we), .int (zi wl), .ref pw, .int (zi tl), .ref pt])), (ps, aI cI 10 sf), (pk, aI cI 12 kf), (pa, aI cI 12 af), (pb, aI cI 12 bf), (pq, aI cI 12 zf)] := hD1
            obtain ⟨hP, hD⟩ := va_join (wr := [(qw, .inr (1, [.ref wc, .int (zi wl)])), (wc, aI cI 20 wf), (qt, .inr (1, [.ref tc, .int (zi tl)])), (tc, aI cI 20 tf), (pw, aI cI 12 wf), (pt, aI cI 20 tf), (h0, .inr (4, [.ref qs, .ref qr, .ref qm, .ref qw, .ref qt, .int (zi we)])), (qs, aI cI 10 sf), (qm, .inr (2, [.ref qk, .int (zi fk_2), .int (zi lk_2)])), (qk, aI cI 366 mk_2), (qr, .inr (0, [.int (zi mc), .ref qd, .int (zi 0)])), (qo, aL cL 1 of)]) (w1 := [(g0, .inr (5, [.int (zi cg_4), .ref ps, .int (zi 0), .ref pk, .ref pa, .ref pb, .ref pq, .int (zi we), .int (zi wl), .ref pw, .int (zi tl), .ref pt])), (ps, aI cI 10 sf), (pk, aI cI 12 kf), (pa, aI cI 12 af), (pb, aI cI 12 bf), (pq, aI cI 12 zf)]) hP hD [4, 5, 6, 7, 8, 9] [0, 1, 2, 3, 10, 11, 12, 13, 14, 15, 16, 17] rfl rfl (by decide) (by decide) hk1 hFc hP1 hD1
            generalize H1 = H at hP hS ⊢
            obtain rfl : r3 = zi 0 := hw
            have hP : va_P (dC, dI) vwCl [(qw, .inr (1, [.ref wc, .int (zi wl)])), (wc, aI cI 20 wf), (qt, .inr (1, [.ref tc, .int (zi tl)])), (tc, aI cI 20 tf), (pw, aI cI 12 wf), (pt, aI cI 20 tf), (h0, .inr (4, [.ref qs, .ref qr, .ref qm, .ref qw, .ref qt, .int (zi we)])), (qs, aI cI 10 sf), (qm, .inr (2, [.ref qk, .int (zi fk_2), .int (zi lk_2)])), (qk, aI cI 366 mk_2), (qr, .inr (0, [.int (zi mc), .ref qd, .int (zi 0)])), (qo, aL cL 1 of), (g0, .inr (5, [.int (zi cg_4), .ref ps, .int (zi 0), .ref pk, .ref pa, .ref pb, .ref pq, .int (zi we), .int (zi wl), .ref pw, .int (zi tl), .ref pt])), (ps, aI cI 10 sf), (pk, aI cI 12 kf), (pa, aI cI 12 af), (pb, aI cI 12 bf), (pq, aI cI 12 zf)] H := hP
            have hD : va_D A [(qw, .inr (1, [.ref wc, .int (zi wl)])), (wc, aI cI 20 wf), (qt, .inr (1, [.ref tc, .int (zi tl)])), (tc, aI cI 20 tf), (pw, aI cI 12 wf), (pt, aI cI 20 tf), (h0, .inr (4, [.ref qs, .ref qr, .ref qm, .ref qw, .ref qt, .int (zi we)])), (qs, aI cI 10 sf), (qm, .inr (2, [.ref qk, .int (zi fk_2), .int (zi lk_2)])), (qk, aI cI 366 mk_2), (qr, .inr (0, [.int (zi mc), .ref qd, .int (zi 0)])), (qo, aL cL 1 of), (g0, .inr (5, [.int (zi cg_4), .ref ps, .int (zi 0), .ref pk, .ref pa, .ref pb, .ref pq, .int (zi we), .int (zi wl), .ref pw, .int (zi tl), .ref pt])), (ps, aI cI 10 sf), (pk, aI cI 12 kf), (pa, aI cI 12 af), (pb, aI cI 12 bf), (pq, aI cI 12 zf)] := hD
            refine lv_istore (lv' := [(6, .int (zi 0)), (5, .int (zi 4)), (4, .int (zi ii)), (0, .ref b), (1, .ref h0), (2, .ref g0), (3, .ref qo)]) hx hb dL_law_1219 hl (by decide) rfl (fun ls hl => ?_)
            refine lv_aload_n hx hb dL_law_1221 rfl (lv_at hl 5 rfl) ?_
            have hh5 := c_X5_thrown l dC dI cI g0 ps pk pa pb pq pw pt cg_4 0 we wl tl sf 
            have hPc := hP.sub (ws' := [(g0, .inr (5, [.int (zi cg_4), .ref ps, .int (zi 0), .ref pk, .ref pa, .ref pb, .ref pq, .int (zi we), .int (zi wl), .ref pw, .int (zi tl), .ref pt])), (ps, aI cI 10 sf)]) [12, 13] rfl
            have hKc : va_K (dC, dI) vwCl [(cI, .int)] s := hK.sub (tys' := [(cI, .int)]) [0] rfl
            refine vp_callSi (va_Run.run (va_runV (As := []) (rest := []) ⟨hx, hb, hml, hown, hts⟩ hh5 (cwV 0 hts gL_law_X5_thrown rfl rfl rfl (by decide +kernel) ⟨Nat.le_of_ble_eq_true rfl, Nat.le_of_ble_eq_true rfl⟩) ⟨zPr.blind _ _ _ _, va_recv hKc hPc (ci := 5) (q0 := 0) rfl rfl, fun U hU hW => ⟨rfl, by rw [hU]; exact hPc, va_K.moved hW.alike hKc⟩⟩ rfl rfl hl.1 rfl (lv_room (Nat.le_of_ble_eq_true rfl)) dL_law_1222 ⟨by show _ ≤ 601024; omega, by show _ ≤ 7293033; omega⟩)) (fun r5 (hr5 : r5 = zi cg_4) => ?_)
            subst hr5
            refine lv_iload hx hb dL_law_1225 (lv_at hl 1 rfl) ?_
            refine zw_icmp_eq (tgt := 1232) hx hb dL_law_1227 (by decide) ⟨by omega, by omega⟩ ⟨by omega, by omega⟩ (fun h6 => ?_) (fun h6 => ?_)
            · skip
              refine lv_iload hx hb dL_law_1232 (lv_at hl 1 rfl) ?_
              refine zw_if_ne (tgt := 1249) hx hb dL_law_1234 (by decide) ⟨by omega, by omega⟩ (fun h7 => ?_) (fun h7 => ?_)
              · skip
                refine lv_goto (tgt := 1499) hx hb dL_law_1249 (by decide) ?_
                have hP9 : va_P (dC, dI) vwCl [(h0, .inr (4, [.ref qs, .ref qr, .ref qm, .ref qw, .ref qt, .int (zi we)])), (qs, aI cI 10 sf), (qr, .inr (0, [.int (zi mc), .ref qd, .int (zi 0)])), (qm, .inr (2, [.ref qk, .int (zi fk_2), .int (zi lk_2)])), (qk, aI cI 366 mk_2), (qw, .inr (1, [.ref wc, .int (zi wl)])), (wc, aI cI 20 wf), (qt, .inr (1, [.ref tc, .int (zi tl)])), (tc, aI cI 20 tf), (g0, .inr (5, [.int (zi cg_4), .ref ps, .int (zi 0), .ref pk, .ref pa, .ref pb, .ref pq, .int (zi we), .int (zi wl), .ref pw, .int (zi tl), .ref pt])), (ps, aI cI 10 sf), (pk, aI cI 12 kf), (pa, aI cI 12 af), (pb, aI cI 12 bf), (pq, aI cI 12 zf), (pw, aI cI 12 wf), (pt, aI cI 20 tf), (qo, aL cL 1 of)] H := hP.sub (ws' := [(h0, .inr (4, [.ref qs, .ref qr, .ref qm, .ref qw, .ref qt, .int (zi we)])), (qs, aI cI 10 sf), (qr, .inr (0, [.int (zi mc), .ref qd, .int (zi 0)])), (qm, .inr (2, [.ref qk, .int (zi fk_2), .int (zi lk_2)])), (qk, aI cI 366 mk_2), (qw, .inr (1, [.ref wc, .int (zi wl)])), (wc, aI cI 20 wf), (qt, .inr (1, [.ref tc, .int (zi tl)])), (tc, aI cI 20 tf), (g0, .inr (5, [.int (zi cg_4), .ref ps, .int (zi 0), .ref pk, .ref pa, .ref pb, .ref pq, .int (zi we), .int (zi wl), .ref pw, .int (zi tl), .ref pt])), (ps, aI cI 10 sf), (pk, aI cI 12 kf), (pa, aI cI 12 af), (pb, aI cI 12 bf), (pq, aI cI 12 zf), (pw, aI cI 12 wf), (pt, aI cI 20 tf), (qo, aL cL 1 of)]) [6, 7, 10, 8, 9, 0, 1, 2, 3, 12, 13, 14, 15, 16, 17, 4, 5, 11] rfl
                have hD9 : va_D A [(h0, .inr (4, [.ref qs, .ref qr, .ref qm, .ref qw, .ref qt, .int (zi we)])), (qs, aI cI 10 sf), (qr, .inr (0, [.int (zi mc), .ref qd, .int (zi 0)])), (qm, .inr (2, [.ref qk, .int (zi fk_2), .int (zi lk_2)])), (qk, aI cI 366 mk_2), (qw, .inr (1, [.ref wc, .int (zi wl)])), (wc, aI cI 20 wf), (qt, .inr (1, [.ref tc, .int (zi tl)])), (tc, aI cI 20 tf), (g0, .inr (5, [.int (zi cg_4), .ref ps, .int (zi 0), .ref pk, .ref pa, .ref pb, .ref pq, .int (zi we), .int (zi wl), .ref pw, .int (zi tl), .ref pt])), (ps, aI cI 10 sf), (pk, aI cI 12 kf), (pa, aI cI 12 af), (pb, aI cI 12 bf), (pq, aI cI 12 zf), (pw, aI cI 12 wf), (pt, aI cI 20 tf), (qo, aL cL 1 of)] := hD.sub (ws' := [(h0, .inr (4, [.ref qs, .ref qr, .ref qm, .ref qw, .ref qt, .int (zi we)])), (qs, aI cI 10 sf), (qr, .inr (0, [.int (zi mc), .ref qd, .int (zi 0)])), (qm, .inr (2, [.ref qk, .int (zi fk_2), .int (zi lk_2)])), (qk, aI cI 366 mk_2), (qw, .inr (1, [.ref wc, .int (zi wl)])), (wc, aI cI 20 wf), (qt, .inr (1, [.ref tc, .int (zi tl)])), (tc, aI cI 20 tf), (g0, .inr (5, [.int (zi cg_4), .ref ps, .int (zi 0), .ref pk, .ref pa, .ref pb, .ref pq, .int (zi we), .int (zi wl), .ref pw, .int (zi tl), .ref pt])), (ps, aI cI 10 sf), (pk, aI cI 12 kf), (pa, aI cI 12 af), (pb, aI cI 12 bf), (pq, aI cI 12 zf), (pw, aI cI 12 wf), (pt, aI cI 20 tf), (qo, aL cL 1 of)]) [6, 7, 10, 8, 9, 0, 1, 2, 3, 12, 13, 14, 15, 16, 17, 4, 5, 11] (by decide) rfl
                have hI9 : LI sf kf af bf zf wf tf 0 we fk_2 lk_2 wl tl := LI.mk9 hI.sfb hI.rub hI.rk hI.web (hw1) hI.wlb hI.wfb hI.tlb hI.tfb
                refine W.widen (k := ce + 2) (n := sn + 19) (by omega) (by omega) ?_
                exact K0 mc we fk_2 lk_2 mk_2 sf kf af bf zf wl wf tl tf cg_4 of H locs ls ⟨hP9, hD9, hS, hI9⟩ (lv_sub hl [2, 3, 4, 5, 6] rfl)
              · skip
                exact absurd True.intro (by omega)
            · skip
              refine zw_iconst hx hb dL_law_1230 ?_
              exact absurd True.intro (by omega)
          · skip
            refine lv_aload_n hx hb dL_law_1184 rfl (lv_at hl 2 rfl) ?_
            refine lv_aload_n hx hb dL_law_1185 rfl (lv_at hl 1 rfl) ?_
            refine lv_iload hx hb dL_law_1186 (lv_at hl 0 rfl) ?_
            refine zw_iconst hx hb dL_law_1188 ?_
            refine zw_iadd hx hb dL_law_1189 ?_
            refine zw_scr hx hb hX hbl hbA hS (by omega) (by omega) ⟨by omega, by omega⟩ hv1 dL_law_1190 ?_
            refine lv_aload_n hx hb dL_law_1191 rfl (lv_at hl 1 rfl) ?_
            refine lv_iload hx hb dL_law_1192 (lv_at hl 0 rfl) ?_
            refine zw_iconst hx hb dL_law_1194 ?_
            refine zw_iadd hx hb dL_law_1195 ?_
            refine zw_scr hx hb hX hbl hbA hS (by omega) (by omega) ⟨by omega, by omega⟩ hv2 dL_law_1196 ?_
            refine lv_aload_n hx hb dL_law_1197 rfl (lv_at hl 4 rfl) ?_
            have hh1 := c_Lz_moveWork_p l dC dI cI cL cO h0 qs qr qm qw qt we sf qk fi ln mf mc qd qo of sl many fz rr kf af bf zf H.size (by omega) (by omega) (by omega) (by omega) (by omega) (by omega) (by exact hzm4) (by omega)
            have hPc := hP.sub (ws' := [(h0, .inr (4, [.ref qs, .ref qr, .ref qm, .ref qw, .ref qt, .int (zi we)])), (qs, aI cI 10 sf), (qm, .inr (2, [.ref qk, .int (zi fi), .int (zi ln)])), (qk, aI cI 366 mf), (qr, .inr (0, [.int (zi mc), .ref qd, .int (zi 0)])), (qo, aL cL 1 of)]) [0, 1, 3, 4, 2, 17] rfl
            have hKc : va_K (dC, dI) vwCl [(cI, .int), (cL, .long), (cO, .object "java/lang/Object")] s := hK
            have hDc := hD.sub (ws' := [(h0, .inr (4, [.ref qs, .ref qr, .ref qm, .ref qw, .ref qt, .int (zi we)])), (qs, aI cI 10 sf), (qm, .inr (2, [.ref qk, .int (zi fi), .int (zi ln)])), (qk, aI cI 366 mf), (qr, .inr (0, [.int (zi mc), .ref qd, .int (zi 0)])), (qo, aL cL 1 of)]) [0, 1, 3, 4, 2, 17] (by decide) rfl
            have hFc := va_free (wc := [(h0, .inr (4, [.ref qs, .ref qr, .ref qm, .ref qw, .ref qt, .int (zi we)])), (qs, aI cI 10 sf), (qm, .inr (2, [.ref qk, .int (zi fi), .int (zi ln)])), (qk, aI cI 366 mf), (qr, .inr (0, [.int (zi mc), .ref qd, .int (zi 0)])), (qo, aL cL 1 of)]) hD hS hA [0, 1, 3, 4, 2, 17] rfl
            refine va_calli (vx_runSW (As := [.ref h0, .int (zi sl), .int (zi many), .ref qo]) (rest := []) ⟨hx, hb, hml, hown, hts⟩ hh1 (vx_cwSW 4 hts gL_law_L_moveWork rfl rfl rfl (by decide +kernel) ⟨Nat.le_of_ble_eq_true rfl, Nat.le_of_ble_eq_true rfl⟩) ⟨zPw.blind _ _ _ _ _, fun U hU hW => ⟨rfl, by rw [hU], by rw [hU]; exact hPc, va_K.moved hW.alike hKc, hDc.weaken (fun _ _ _ _ => trivial)⟩⟩ rfl rfl hl.1 rfl (lv_room (Nat.le_of_ble_eq_true rfl)) dL_law_1198 ⟨by show _ ≤ 601024; omega, by show _ ≤ 7293033; omega⟩) hS (fun q _ h => hFc q h) hFc (fun r1 u t H1 locs ht hvm hw hB hz1 hk1 hS => ?_)
            obtain ⟨fk_2, lk_2, mk_2, sg_2⟩ := u
            obtain ⟨hw, hw1⟩ := hw
            replace hw1 : (0 ≤ fk_2 ∧ fk_2 ≤ 4000000 ∧ 0 ≤ lk_2 ∧ lk_2 ≤ 366) ∧ sg_2 = zup sf sl.toNat rr := hw1
            obtain ⟨hP1, hK1, hD1⟩ := hB
            rw [ht] at hP1
            replace hP1 : va_P (dC, dI) vwCl [(h0, .inr (4, [.ref qs, .ref qr, .ref qm, .ref qw, .ref qt, .int (zi we)])), (qs, aI cI 10 sg_2), (qm, .inr (2, [.ref qk, .int (zi fk_2), .int (zi lk_2)])), (qk, aI cI 366 mk_2), (qr, .inr (0, [.int (zi mc), .ref qd, .int (zi 0)])), (qo, aL cL 1 (zup of (Int.toNat 0) rr))] H1 := hP1
            replace hD1 : va_D _ [(h0, .inr (4, [.ref qs, .ref qr, .ref qm, .ref qw, .ref qt, .int (zi we)])), (qs, aI cI 10 sg_2), (qm, .inr (2, [.ref qk, .int (zi fk_2), .int (zi lk_2)])), (qk, aI cI 366 mk_2), (qr, .inr (0, [.int (zi mc), .ref qd, .int (zi 0)])), (qo, aL cL 1 (zup of (Int.toNat 0) rr))] := hD1
            obtain ⟨hP, hD⟩ := va_join (wr := [(qw, .inr (1, [.ref wc, .int (zi wl)])), (wc, aI cI 20 wf), (qt, .inr (1, [.ref tc, .int (zi tl)])), (tc, aI cI 20 tf), (g0, .inr (5, [.int (zi co), .ref ps, .int (zi 0), .ref pk, .ref pa, .ref pb, .ref pq, .int (zi we), .int (zi wl), .ref pw, .int (zi tl), .ref pt])), (ps, aI cI 10 sf), (pk, aI cI 12 kf), (pa, aI cI 12 af), (pb, aI cI 12 bf), (pq, aI cI 12 zf), (pw, aI cI 12 wf), (pt, aI cI 20 tf)]) (w1 := [(h0, .inr (4, [.ref qs, .ref qr, .ref qm, .ref qw, .ref qt, .int (zi we)])), (qs, aI cI 10 sg_2), (qm, .inr (2, [.ref qk, .int (zi fk_2), .int (zi lk_2)])), (qk, aI cI 366 mk_2), (qr, .inr (0, [.int (zi mc), .ref qd, .int (zi 0)])), (qo, aL cL 1 (zup of (Int.toNat 0) rr))]) hP hD [0, 1, 3, 4, 2, 17] [5, 6, 7, 8, 9, 10, 11, 12, 13, 14, 15, 16] rfl rfl (by decide) (by decide) hk1 hFc hP1 hD1
            generalize H1 = H at hP hS ⊢
            obtain rfl : r1 = zi 0 := hw
            have hP : va_P (dC, dI) vwCl [(qw, .inr (1, [.ref wc, .int (zi wl)])), (wc, aI cI 20 wf), (qt, .inr (1, [.ref tc, .int (zi tl)])), (tc, aI cI 20 tf), (g0, .inr (5, [.int (zi co), .ref ps, .int (zi 0), .ref pk, .ref pa, .ref pb, .ref pq, .int (zi we), .int (zi wl), .ref pw, .int (zi tl), .ref pt])), (ps, aI cI 10 sf), (pk, aI cI 12 kf), (pa, aI cI 12 af), (pb, aI cI 12 bf), (pq, aI cI 12 zf), (pw, aI cI 12 wf), (pt, aI cI 20 tf), (h0, .inr (4, [.ref qs, .ref qr, .ref qm, .ref qw, .ref qt, .int (zi we)])), (qs, aI cI 10 sg_2), (qm, .inr (2, [.ref qk, .int (zi fk_2), .int (zi lk_2)])), (qk, aI cI 366 mk_2), (qr, .inr (0, [.int (zi mc), .ref qd, .int (zi 0)])), (qo, aL cL 1 (zup of (Int.toNat 0) rr))] H := hP
            have hD : va_D A [(qw, .inr (1, [.ref wc, .int (zi wl)])), (wc, aI cI 20 wf), (qt, .inr (1, [.ref tc, .int (zi tl)])), (tc, aI cI 20 tf), (g0, .inr (5, [.int (zi co), .ref ps, .int (zi 0), .ref pk, .ref pa, .ref pb, .ref pq, .int (zi we), .int (zi wl), .ref pw, .int (zi tl), .ref pt])), (ps, aI cI 10 sf), (pk, aI cI 12 kf), (pa, aI cI 12 af), (pb, aI cI 12 bf), (pq, aI cI 12 zf), (pw, aI cI 12 wf), (pt, aI cI 20 tf), (h0, .inr (4, [.ref qs, .ref qr, .ref qm, .ref qw, .ref qt, .int (zi we)])), (qs, aI cI 10 sg_2), (qm, .inr (2, [.ref qk, .int (zi fk_2), .int (zi lk_2)])), (qk, aI cI 366 mk_2), (qr, .inr (0, [.int (zi mc), .ref qd, .int (zi 0)])), (qo, aL cL 1 (zup of (Int.toNat 0) rr))] := hD
            refine lv_istore (lv' := [(5, .int (zi 0)), (4, .int (zi ii)), (0, .ref b), (1, .ref h0), (2, .ref g0), (3, .ref qo)]) hx hb dL_law_1201 hl (by decide) rfl (fun ls hl => ?_)
            refine lv_aload_n hx hb dL_law_1203 rfl (lv_at hl 4 rfl) ?_
            refine lv_aload_n hx hb dL_law_1204 rfl (lv_at hl 2 rfl) ?_
            refine lv_iload hx hb dL_law_1205 (lv_at hl 1 rfl) ?_
            refine zw_iconst hx hb dL_law_1207 ?_
            refine zw_iadd hx hb dL_law_1208 ?_
            refine zw_scr hx hb hX hbl hbA hS (by omega) (by omega) ⟨by omega, by omega⟩ hv1 dL_law_1209 ?_
            refine lv_aload_n hx hb dL_law_1210 rfl (lv_at hl 2 rfl) ?_
            refine lv_iload hx hb dL_law_1211 (lv_at hl 1 rfl) ?_
            refine zw_iconst hx hb dL_law_1213 ?_
            refine zw_iadd hx hb dL_law_1214 ?_
            refine zw_scr hx hb hX hbl hbA hS (by omega) (by omega) ⟨by omega, by omega⟩ hv2 dL_law_1215 ?_
            have hh3 := c_X5_moveWork_p l dC dI cI g0 ps pk pa pb pq pw pt co 0 we wl tl sf kf af bf zf fz rr sl many H.size (by omega) (by omega) (by omega) (by exact hI.rk) (by omega) (by omega) (by omega) (by exact hzm5) (by omega)
            have hPc := hP.sub (ws' := [(g0, .inr (5, [.int (zi co), .ref ps, .int (zi 0), .ref pk, .ref pa, .ref pb, .ref pq, .int (zi we), .int (zi wl), .ref pw, .int (zi tl), .ref pt])), (ps, aI cI 10 sf), (pk, aI cI 12 kf), (pa, aI cI 12 af), (pb, aI cI 12 bf), (pq, aI cI 12 zf)]) [4, 5, 6, 7, 8, 9] rfl
            have hKc : va_K (dC, dI) vwCl [(cI, .int)] s := hK.sub (tys' := [(cI, .int)]) [0] rfl
            have hDc := hD.sub (ws' := [(g0, .inr (5, [.int (zi co), .ref ps, .int (zi 0), .ref pk, .ref pa, .ref pb, .ref pq, .int (zi we), .int (zi wl), .ref pw, .int (zi tl), .ref pt])), (ps, aI cI 10 sf), (pk, aI cI 12 kf), (pa, aI cI 12 af), (pb, aI cI 12 bf), (pq, aI cI 12 zf)]) [4, 5, 6, 7, 8, 9] (by decide) rfl
            have hFc := va_free (wc := [(g0, .inr (5, [.int (zi co), .ref ps, .int (zi 0), .ref pk, .ref pa, .ref pb, .ref pq, .int (zi we), .int (zi wl), .ref pw, .int (zi tl), .ref pt])), (ps, aI cI 10 sf), (pk, aI cI 12 kf), (pa, aI cI 12 af), (pb, aI cI 12 bf), (pq, aI cI 12 zf)]) hD hS hA [4, 5, 6, 7, 8, 9] rfl
            refine va_calli (va_runV (As := [.int (zi sl), .int (zi many)]) (rest := []) ⟨hx, hb, hml, hown, hts⟩ hh3 (cwV 2 hts gL_law_X5_moveWork rfl rfl rfl (by decide +kernel) ⟨Nat.le_of_ble_eq_true rfl, Nat.le_of_ble_eq_true rfl⟩) ⟨zPw.blind _ _ _ _ _, va_recv hKc hPc (ci := 5) (q0 := 0) rfl rfl, fun U hU hW => ⟨rfl, by rw [hU], by rw [hU]; exact hPc, va_K.moved hW.alike hKc, hDc.weaken (fun _ _ _ _ => trivial)⟩⟩ rfl rfl hl.1 rfl (lv_room (Nat.le_of_ble_eq_true rfl)) dL_law_1216 ⟨by show _ ≤ 601024; omega, by show _ ≤ 7293033; omega⟩) hS (fun q _ h => hFc q h) hFc (fun r3 u t H1 locs ht hvm hw hB hz1 hk1 hS => ?_)
            obtain ⟨cg_4, sg_4⟩ := u
            obtain ⟨hw, hw3⟩ := hw
            replace hw3 : cg_4 = 0 ∧ sg_4 = zup sf sl.toNat rr := hw3
            obtain ⟨hP1, hK1, hD1⟩ := hB
            rw [ht] at hP1
            replace hP1 : va_P (dC, dI) vwCl [(g0, .inr (5, [.int (zi cg_4), .ref ps, .int (zi 0), .ref pk, .ref pa, .ref pb, .ref pq, .int (zi we), .int (zi wl), .ref pw, .int (zi tl), .ref pt])), (ps, aI cI 10 sg_4), (pk, aI cI 12 kf), (pa, aI cI 12 af), (pb, aI cI 12 bf), (pq, aI cI 12 zf)] H1 := hP1
            replace hD1 : va_D _ [(g0, .inr (5, [.int (zi cg_4), .ref ps, .int (zi 0), .ref pk, .ref pa, .ref pb, .ref pq, .int (zi we), .int (zi wl), .ref pw, .int (zi tl), .ref pt])), (ps, aI cI 10 sg_4), (pk, aI cI 12 kf), (pa, aI cI 12 af), (pb, aI cI 12 bf), (pq, aI cI 12 zf)] := hD1
            obtain ⟨hP, hD⟩ := va_join (wr := [(qw, .inr (1, [.ref wc, .int (zi wl)])), (wc, aI cI 20 wf), (qt, .inr (1, [.ref tc, .int (zi tl)])), (tc, aI cI 20 tf), (pw, aI cI 12 wf), (pt, aI cI 20 tf), (h0, .inr (4, [.ref qs, .ref qr, .ref qm, .ref qw, .ref qt, .int (zi we)])), (qs, aI cI 10 sg_2), (qm, .inr (2, [.ref qk, .int (zi fk_2), .int (zi lk_2)])), (qk, aI cI 366 mk_2), (qr, .inr (0, [.int (zi mc), .ref qd, .int (zi 0)])), (qo, aL cL 1 (zup of (Int.toNat 0) rr))]) (w1 := [(g0, .inr (5, [.int (zi cg_4), .ref ps, .int (zi 0), .ref pk, .ref pa, .ref pb, .ref pq, .int (zi we), .int (zi wl), .ref pw, .int (zi tl), .ref pt])), (ps, aI cI 10 sg_4), (pk, aI cI 12 kf), (pa, aI cI 12 af), (pb, aI cI 12 bf), (pq, aI cI 12 zf)]) hP hD [4, 5, 6, 7, 8, 9] [0, 1, 2, 3, 10, 11, 12, 13, 14, 15, 16, 17] rfl rfl (by decide) (by decide) hk1 hFc hP1 hD1
            generalize H1 = H at hP hS ⊢
            obtain rfl : r3 = zi rr := hw
            have hP : va_P (dC, dI) vwCl [(qw, .inr (1, [.ref wc, .int (zi wl)])), (wc, aI cI 20 wf), (qt, .inr (1, [.ref tc, .int (zi tl)])), (tc, aI cI 20 tf), (pw, aI cI 12 wf), (pt, aI cI 20 tf), (h0, .inr (4, [.ref qs, .ref qr, .ref qm, .ref qw, .ref qt, .int (zi we)])), (qs, aI cI 10 sg_2), (qm, .inr (2, [.ref qk, .int (zi fk_2), .int (zi lk_2)])), (qk, aI cI 366 mk_2), (qr, .inr (0, [.int (zi mc), .ref qd, .int (zi 0)])), (qo, aL cL 1 (zup of (Int.toNat 0) rr)), (g0, .inr (5, [.int (zi cg_4), .ref ps, .int (zi 0), .ref pk, .ref pa, .ref pb, .ref pq, .int (zi we), .int (zi wl), .ref pw, .int (zi tl), .ref pt])), (ps, aI cI 10 sg_4), (pk, aI cI 12 kf), (pa, aI cI 12 af), (pb, aI cI 12 bf), (pq, aI cI 12 zf)] H := hP
            have hD : va_D A [(qw, .inr (1, [.ref wc, .int (zi wl)])), (wc, aI cI 20 wf), (qt, .inr (1, [.ref tc, .int (zi tl)])), (tc, aI cI 20 tf), (pw, aI cI 12 wf), (pt, aI cI 20 tf), (h0, .inr (4, [.ref qs, .ref qr, .ref qm, .ref qw, .ref qt, .int (zi we)])), (qs, aI cI 10 sg_2), (qm, .inr (2, [.ref qk, .int (zi fk_2), .int (zi lk_2)])), (qk, aI cI 366 mk_2), (qr, .inr (0, [.int (zi mc), .ref qd, .int (zi 0)])), (qo, aL cL 1 (zup of (Int.toNat 0) rr)), (g0, .inr (5, [.int (zi cg_4), .ref ps, .int (zi 0), .ref pk, .ref pa, .ref pb, .ref pq, .int (zi we), .int (zi wl), .ref pw, .int (zi tl), .ref pt])), (ps, aI cI 10 sg_4), (pk, aI cI 12 kf), (pa, aI cI 12 af), (pb, aI cI 12 bf), (pq, aI cI 12 zf)] := hD
            refine lv_istore (lv' := [(6, .int (zi rr)), (5, .int (zi 0)), (4, .int (zi ii)), (0, .ref b), (1, .ref h0), (2, .ref g0), (3, .ref qo)]) hx hb dL_law_1219 hl (by decide) rfl (fun ls hl => ?_)
            refine lv_aload_n hx hb dL_law_1221 rfl (lv_at hl 5 rfl) ?_
            have hh5 := c_X5_thrown l dC dI cI g0 ps pk pa pb pq pw pt cg_4 0 we wl tl sg_4 
            have hPc := hP.sub (ws' := [(g0, .inr (5, [.int (zi cg_4), .ref ps, .int (zi 0), .ref pk, .ref pa, .ref pb, .ref pq, .int (zi we), .int (zi wl), .ref pw, .int (zi tl), .ref pt])), (ps, aI cI 10 sg_4)]) [12, 13] rfl
            have hKc : va_K (dC, dI) vwCl [(cI, .int)] s := hK.sub (tys' := [(cI, .int)]) [0] rfl
            refine vp_callSi (va_Run.run (va_runV (As := []) (rest := []) ⟨hx, hb, hml, hown, hts⟩ hh5 (cwV 0 hts gL_law_X5_thrown rfl rfl rfl (by decide +kernel) ⟨Nat.le_of_ble_eq_true rfl, Nat.le_of_ble_eq_true rfl⟩) ⟨zPr.blind _ _ _ _, va_recv hKc hPc (ci := 5) (q0 := 0) rfl rfl, fun U hU hW => ⟨rfl, by rw [hU]; exact hPc, va_K.moved hW.alike hKc⟩⟩ rfl rfl hl.1 rfl (lv_room (Nat.le_of_ble_eq_true rfl)) dL_law_1222 ⟨by show _ ≤ 601024; omega, by show _ ≤ 7293033; omega⟩)) (fun r5 (hr5 : r5 = zi cg_4) => ?_)
            subst hr5
            refine lv_iload hx hb dL_law_1225 (lv_at hl 1 rfl) ?_
            refine zw_icmp_eq (tgt := 1232) hx hb dL_law_1227 (by decide) ⟨by omega, by omega⟩ ⟨by omega, by omega⟩ (fun h6 => ?_) (fun h6 => ?_)
            · skip
              refine lv_iload hx hb dL_law_1232 (lv_at hl 1 rfl) ?_
              refine zw_if_ne (tgt := 1249) hx hb dL_law_1234 (by decide) ⟨by omega, by omega⟩ (fun h7 => ?_) (fun h7 => ?_)
              · skip
                exact absurd True.intro (by omega)
              · skip
                refine lv_aload_n hx hb dL_law_1237 rfl (lv_at hl 6 rfl) ?_
                refine zw_iconst hx hb dL_law_1238 ?_
                refine zw_lald hx hb hK hP 11 1 rfl rfl (by omega) (by omega) ⟨by omega, by omega⟩ dL_law_1239 ?_
                rw [zup_at]
                refine lv_iload hx hb dL_law_1240 (lv_at hl 0 rfl) ?_
                refine zw_i2l hx hb dL_law_1242 ⟨by omega, by omega⟩ ?_
                refine zw_lcmp_eq (tgt := 1249) hx hb dL_law_1243 dL_law_1244 (by decide) ⟨by omega, by omega⟩ ⟨by omega, by omega⟩ (fun h8 => ?_) (fun h8 => ?_)
                · skip
                  refine lv_goto (tgt := 1499) hx hb dL_law_1249 (by decide) ?_
                  have hP9 : va_P (dC, dI) vwCl [(h0, .inr (4, [.ref qs, .ref qr, .ref qm, .ref qw, .ref qt, .int (zi we)])), (qs, aI cI 10 sg_2), (qr, .inr (0, [.int (zi mc), .ref qd, .int (zi 0)])), (qm, .inr (2, [.ref qk, .int (zi fk_2), .int (zi lk_2)])), (qk, aI cI 366 mk_2), (qw, .inr (1, [.ref wc, .int (zi wl)])), (wc, aI cI 20 wf), (qt, .inr (1, [.ref tc, .int (zi tl)])), (tc, aI cI 20 tf), (g0, .inr (5, [.int (zi cg_4), .ref ps, .int (zi 0), .ref pk, .ref pa, .ref pb, .ref pq, .int (zi we), .int (zi wl), .ref pw, .int (zi tl), .ref pt])), (ps, aI cI 10 sg_4), (pk, aI cI 12 kf), (pa, aI cI 12 af), (pb, aI cI 12 bf), (pq, aI cI 12 zf), (pw, aI cI 12 wf), (pt, aI cI 20 tf), (qo, aL cL 1 (zup of (Int.toNat 0) rr))] H := hP.sub (ws' := [(h0, .inr (4, [.ref qs, .ref qr, .ref qm, .ref qw, .ref qt, .int (zi we)])), (qs, aI cI 10 sg_2), (qr, .inr (0, [.int (zi mc), .ref qd, .int (zi 0)])), (qm, .inr (2, [.ref qk, .int (zi fk_2), .int (zi lk_2)])), (qk, aI cI 366 mk_2), (qw, .inr (1, [.ref wc, .int (zi wl)])), (wc, aI cI 20 wf), (qt, .inr (1, [.ref tc, .int (zi tl)])), (tc, aI cI 20 tf), (g0, .inr (5, [.int (zi cg_4), .ref ps, .int (zi 0), .ref pk, .ref pa, .ref pb, .ref pq, .int (zi we), .int (zi wl), .ref pw, .int (zi tl), .ref pt])), (ps, aI cI 10 sg_4), (pk, aI cI 12 kf), (pa, aI cI 12 af), (pb, aI cI 12 bf), (pq, aI cI 12 zf), (pw, aI cI 12 wf), (pt, aI cI 20 tf), (qo, aL cL 1 (zup of (Int.toNat 0) rr))]) [6, 7, 10, 8, 9, 0, 1, 2, 3, 12, 13, 14, 15, 16, 17, 4, 5, 11] rfl
                  have hD9 : va_D A [(h0, .inr (4, [.ref qs, .ref qr, .ref qm, .ref qw, .ref qt, .int (zi we)])), (qs, aI cI 10 sg_2), (qr, .inr (0, [.int (zi mc), .ref qd, .int (zi 0)])), (qm, .inr (2, [.ref qk, .int (zi fk_2), .int (zi lk_2)])), (qk, aI cI 366 mk_2), (qw, .inr (1, [.ref wc, .int (zi wl)])), (wc, aI cI 20 wf), (qt, .inr (1, [.ref tc, .int (zi tl)])), (tc, aI cI 20 tf), (g0, .inr (5, [.int (zi cg_4), .ref ps, .int (zi 0), .ref pk, .ref pa, .ref pb, .ref pq, .int (zi we), .int (zi wl), .ref pw, .int (zi tl), .ref pt])), (ps, aI cI 10 sg_4), (pk, aI cI 12 kf), (pa, aI cI 12 af), (pb, aI cI 12 bf), (pq, aI cI 12 zf), (pw, aI cI 12 wf), (pt, aI cI 20 tf), (qo, aL cL 1 (zup of (Int.toNat 0) rr))] := hD.sub (ws' := [(h0, .inr (4, [.ref qs, .ref qr, .ref qm, .ref qw, .ref qt, .int (zi we)])), (qs, aI cI 10 sg_2), (qr, .inr (0, [.int (zi mc), .ref qd, .int (zi 0)])), (qm, .inr (2, [.ref qk, .int (zi fk_2), .int (zi lk_2)])), (qk, aI cI 366 mk_2), (qw, .inr (1, [.ref wc, .int (zi wl)])), (wc, aI cI 20 wf), (qt, .inr (1, [.ref tc, .int (zi tl)])), (tc, aI cI 20 tf), (g0, .inr (5, [.int (zi cg_4), .ref ps, .int (zi 0), .ref pk, .ref pa, .ref pb, .ref pq, .int (zi we), .int (zi wl), .ref pw, .int (zi tl), .ref pt])), (ps, aI cI 10 sg_4), (pk, aI cI 12 kf), (pa, aI cI 12 af), (pb, aI cI 12 bf), (pq, aI cI 12 zf), (pw, aI cI 12 wf), (pt, aI cI 20 tf), (qo, aL cL 1 (zup of (Int.toNat 0) rr))]) [6, 7, 10, 8, 9, 0, 1, 2, 3, 12, 13, 14, 15, 16, 17, 4, 5, 11] (by decide) rfl
                  have hcv0 : (sg_4 : Nat → Int) = sg_2 := by rw [hw3.2, hw1.2]
                  rw [hcv0] at hP9 hD9
                  have hI9 : LI sg_2 kf af bf zf wf tf 0 we fk_2 lk_2 wl tl := LI.mk9 (by rw [hw1.2]; exact zup_b hI.sfb _ (by omega)) hI.rub hI.rk hI.web (hw1.1) hI.wlb hI.wfb hI.tlb hI.tfb
                  refine W.widen (k := ce + 2) (n := sn + 19) (by omega) (by omega) ?_
                  exact K0 mc we fk_2 lk_2 mk_2 sg_2 kf af bf zf wl wf tl tf cg_4 (zup of (Int.toNat 0) rr) H locs ls ⟨hP9, hD9, hS, hI9⟩ (lv_sub hl [2, 3, 4, 5, 6] rfl)
                · skip
                  refine zw_iconst hx hb dL_law_1247 ?_
                  exact absurd True.intro (by omega)
            · skip
              refine zw_iconst hx hb dL_law_1230 ?_
              exact absurd True.intro (by omega)
        · skip
          obtain ⟨fz, hfz⟩ : ∃ z : Nat, z = 4000000 := ⟨_, rfl⟩
          obtain ⟨rr, hzm5⟩ : ∃ r : Int, zmv (wkX5 we kf af bf zf 0) (-1) fz (sf sl.toNat) (-many) = r := ⟨_, rfl⟩
          have hzm4 : zmv (wkX4 we kf af bf zf 0) (-1) fz (sf sl.toNat) (-many) = rr := (c9_zm we kf af bf zf 0 (-1) hI.rk fz (sf sl.toNat) (-many)).trans hzm5
          have hrb := zmv_b (wkX5 we kf af bf zf 0) (-1) fz (sf sl.toNat) (-many) (by omega)
          rw [hzm5] at hrb
          by_cases h5 : rr = -1
          · skip
            refine lv_aload_n hx hb dL_law_1184 rfl (lv_at hl 2 rfl) ?_
            refine lv_aload_n hx hb dL_law_1185 rfl (lv_at hl 1 rfl) ?_
            refine lv_iload hx hb dL_law_1186 (lv_at hl 0 rfl) ?_
            refine zw_iconst hx hb dL_law_1188 ?_
            refine zw_iadd hx hb dL_law_1189 ?_
            refine zw_scr hx hb hX hbl hbA hS (by omega) (by omega) ⟨by omega, by omega⟩ hv1 dL_law_1190 ?_
            refine lv_aload_n hx hb dL_law_1191 rfl (lv_at hl 1 rfl) ?_
            refine lv_iload hx hb dL_law_1192 (lv_at hl 0 rfl) ?_
            refine zw_iconst hx hb dL_law_1194 ?_
            refine zw_iadd hx hb dL_law_1195 ?_
            refine zw_scr hx hb hX hbl hbA hS (by omega) (by omega) ⟨by omega, by omega⟩ hv2 dL_law_1196 ?_
            refine lv_aload_n hx hb dL_law_1197 rfl (lv_at hl 4 rfl) ?_
            have hh1 := c_Lz_moveWork_4n l hst dC dI cI cL cO h0 qs qr qm qw qt we sf qk fi ln mf mc qd qo of sl many fz rr rf kf af bf zf H.size (by omega) (by omega) (by omega) (by omega) (by omega) (by omega) (by exact hzm4) (by omega)
            have hPc := hP.sub (ws' := [(h0, .inr (4, [.ref qs, .ref qr, .ref qm, .ref qw, .ref qt, .int (zi we)])), (qs, aI cI 10 sf), (qm, .inr (2, [.ref qk, .int (zi fi), .int (zi ln)])), (qk, aI cI 366 mf), (qr, .inr (0, [.int (zi mc), .ref qd, .int (zi 0)])), (qo, aL cL 1 of)]) [0, 1, 3, 4, 2, 17] rfl
            have hKc : va_K (dC, dI) vwCl [(cI, .int), (cL, .long), (cO, .object "java/lang/Object")] s := hK
            have hDc := hD.sub (ws' := [(h0, .inr (4, [.ref qs, .ref qr, .ref qm, .ref qw, .ref qt, .int (zi we)])), (qs, aI cI 10 sf), (qm, .inr (2, [.ref qk, .int (zi fi), .int (zi ln)])), (qk, aI cI 366 mf), (qr, .inr (0, [.int (zi mc), .ref qd, .int (zi 0)])), (qo, aL cL 1 of)]) [0, 1, 3, 4, 2, 17] (by decide) rfl
            have hFc := va_free (wc := [(h0, .inr (4, [.ref qs, .ref qr, .ref qm, .ref qw, .ref qt, .int (zi we)])), (qs, aI cI 10 sf), (qm, .inr (2, [.ref qk, .int (zi fi), .int (zi ln)])), (qk, aI cI 366 mf), (qr, .inr (0, [.int (zi mc), .ref qd, .int (zi 0)])), (qo, aL cL 1 of)]) hD hS hA [0, 1, 3, 4, 2, 17] rfl
            refine va_calli (vx_runSW (As := [.ref h0, .int (zi sl), .int (zi many), .ref qo]) (rest := []) ⟨hx, hb, hml, hown, hts⟩ hh1 (vx_cwSW 4 hts gL_law_L_moveWork rfl rfl rfl (by decide +kernel) ⟨Nat.le_of_ble_eq_true rfl, Nat.le_of_ble_eq_true rfl⟩) ⟨zPxF.blind _ _ _ _ _ zRE_ok, fun U hU hW => ⟨rfl, by rw [hU], hE.call hS (fun q h => hA q (Nat.le_trans hS.1 (by rw [hU] at h; exact h))) hU hW, by rw [hU]; exact hPc, va_K.moved hW.alike hKc, hDc.weaken (fun _ _ _ _ => trivial), ⟨(fun k hk => absurd hk (by omega)), hE.call hS hFc hU hW⟩⟩⟩ rfl rfl hl.1 rfl (lv_room (Nat.le_of_ble_eq_true rfl)) dL_law_1198 ⟨by show _ ≤ 601024; omega, by show _ ≤ 7293033; omega⟩) hS (fun q _ h => hFc q h) hFc (fun r1 u t H1 locs ht hvm hw hB hz1 hk1 hS => ?_)
            obtain ⟨fk_2, lk_2, mk_2⟩ := u
            obtain ⟨hw, hw1⟩ := hw
            replace hw1 : 0 ≤ fk_2 ∧ fk_2 ≤ 4000000 ∧ 0 ≤ lk_2 ∧ lk_2 ≤ 366 := hw1
            obtain ⟨hP1, hK1, hD1⟩ := hB
            rw [ht] at hP1
            replace hP1 : va_P (dC, dI) vwCl [(h0, .inr (4, [.ref qs, .ref qr, .ref qm, .ref qw, .ref qt, .int (zi we)])), (qs, aI cI 10 sf), (qm, .inr (2, [.ref qk, .int (zi fk_2), .int (zi lk_2)])), (qk, aI cI 366 mk_2), (qr, .inr (0, [.int (zi mc), .ref qd, .int (zi 0)])), (qo, aL cL 1 of)] H1 := hP1
            replace hD1 : va_D _ [(h0, .inr (4, [.ref qs, .ref qr, .ref qm, .ref qw, .ref qt, .int (zi we)])), (qs, aI cI 10 sf), (qm, .inr (2, [.ref qk, .int (zi fk_2), .int (zi lk_2)])), (qk, aI cI 366 mk_2), (qr, .inr (0, [.int (zi mc), .ref qd, .int (zi 0)])), (qo, aL cL 1 of)] := hD1
            obtain ⟨hP, hD⟩ := va_join (wr := [(qw, .inr (1, [.ref wc, .int (zi wl)])), (wc, aI cI 20 wf), (qt, .inr (1, [.ref tc, .int (zi tl)])), (tc, aI cI 20 tf), (g0, .inr (5, [.int (zi co), .ref ps, .int (zi 0), .ref pk, .ref pa, .ref pb, .ref pq, .int (zi we), .int (zi wl), .ref pw, .int (zi tl), .ref pt])), (ps, aI cI 10 sf), (pk, aI cI 12 kf), (pa, aI cI 12 af), (pb, aI cI 12 bf), (pq, aI cI 12 zf), (pw, aI cI 12 wf), (pt, aI cI 20 tf)]) (w1 := [(h0, .inr (4, [.ref qs, .ref qr, .ref qm, .ref qw, .ref qt, .int (zi we)])), (qs, aI cI 10 sf), (qm, .inr (2, [.ref qk, .int (zi fk_2), .int (zi lk_2)])), (qk, aI cI 366 mk_2), (qr, .inr (0, [.int (zi mc), .ref qd, .int (zi 0)])), (qo, aL cL 1 of)]) hP hD [0, 1, 3, 4, 2, 17] [5, 6, 7, 8, 9, 10, 11, 12, 13, 14, 15, 16] rfl rfl (by decide) (by decide) hk1 hFc hP1 hD1
            generalize H1 = H at hP hS ⊢
            obtain rfl : r1 = zi 4 := hw
            have hP : va_P (dC, dI) vwCl [(qw, .inr (1, [.ref wc, .int (zi wl)])), (wc, aI cI 20 wf), (qt, .inr (1, [.ref tc, .int (zi tl)])), (tc, aI cI 20 tf), (g0, .inr (5, [.int (zi co), .ref ps, .int (zi 0), .ref pk, .ref pa, .ref pb, .ref pq, .int (zi we), .int (zi wl), .ref pw, .int (zi tl), .ref pt])), (ps, aI cI 10 sf), (pk, aI cI 12 kf), (pa, aI cI 12 af), (pb, aI cI 12 bf), (pq, aI cI 12 zf), (pw, aI cI 12 wf), (pt, aI cI 20 tf), (h0, .inr (4, [.ref qs, .ref qr, .ref qm, .ref qw, .ref qt, .int (zi we)])), (qs, aI cI 10 sf), (qm, .inr (2, [.ref qk, .int (zi fk_2), .int (zi lk_2)])), (qk, aI cI 366 mk_2), (qr, .inr (0, [.int (zi mc), .ref qd, .int (zi 0)])), (qo, aL cL 1 of)] H := hP
            have hD : va_D A [(qw, .inr (1, [.ref wc, .int (zi wl)])), (wc, aI cI 20 wf), (qt, .inr (1, [.ref tc, .int (zi tl)])), (tc, aI cI 20 tf), (g0, .inr (5, [.int (zi co), .ref ps, .int (zi 0), .ref pk, .ref pa, .ref pb, .ref pq, .int (zi we), .int (zi wl), .ref pw, .int (zi tl), .ref pt])), (ps, aI cI 10 sf), (pk, aI cI 12 kf), (pa, aI cI 12 af), (pb, aI cI 12 bf), (pq, aI cI 12 zf), (pw, aI cI 12 wf), (pt, aI cI 20 tf), (h0, .inr (4, [.ref qs, .ref qr, .ref qm, .ref qw, .ref qt, .int (zi we)])), (qs, aI cI 10 sf), (qm, .inr (2, [.ref qk, .int (zi fk_2), .int (zi lk_2)])), (qk, aI cI 366 mk_2), (qr, .inr (0, [.int (zi mc), .ref qd, .int (zi 0)])), (qo, aL cL 1 of)] := hD
            refine lv_istore (lv' := [(5, .int (zi 4)), (4, .int (zi ii)), (0, .ref b), (1, .ref h0), (2, .ref g0), (3, .ref qo)]) hx hb dL_law_1201 hl (by decide) rfl (fun ls hl => ?_)
            refine lv_aload_n hx hb dL_law_1203 rfl (lv_at hl 4 rfl) ?_
            refine lv_aload_n hx hb dL_law_1204 rfl (lv_at hl 2 rfl) ?_
            refine lv_iload hx hb dL_law_1205 (lv_at hl 1 rfl) ?_
            refine zw_iconst hx hb dL_law_1207 ?_
            refine zw_iadd hx hb dL_law_1208 ?_
            refine zw_scr hx hb hX hbl hbA hS (by omega) (by omega) ⟨by omega, by omega⟩ hv1 dL_law_1209 ?_
            refine lv_aload_n hx hb dL_law_1210 rfl (lv_at hl 2 rfl) ?_
            refine lv_iload hx hb dL_law_1211 (lv_at hl 1 rfl) ?_
            refine zw_iconst hx hb dL_law_1213 ?_
            refine zw_iadd hx hb dL_law_1214 ?_
            refine zw_scr hx hb hX hbl hbA hS (by omega) (by omega) ⟨by omega, by omega⟩ hv2 dL_law_1215 ?_
            have hh3 := c_X5_moveWork_n4 l dC dI cI g0 ps pk pa pb pq pw pt co 0 we wl tl sf kf af bf zf fz rr sl many H.size (by omega) (by omega) (by omega) (by exact hI.rk) (by omega) (by omega) (by omega) (by exact hzm5) (by omega)
            have hPc := hP.sub (ws' := [(g0, .inr (5, [.int (zi co), .ref ps, .int (zi 0), .ref pk, .ref pa, .ref pb, .ref pq, .int (zi we), .int (zi wl), .ref pw, .int (zi tl), .ref pt])), (ps, aI cI 10 sf), (pk, aI cI 12 kf), (pa, aI cI 12 af), (pb, aI cI 12 bf), (pq, aI cI 12 zf)]) [4, 5, 6, 7, 8, 9] rfl
            have hKc : va_K (dC, dI) vwCl [(cI, .int)] s := hK.sub (tys' := [(cI, .int)]) [0] rfl
            have hDc := hD.sub (ws' := [(g0, .inr (5, [.int (zi co), .ref ps, .int (zi 0), .ref pk, .ref pa, .ref pb, .ref pq, .int (zi we), .int (zi wl), .ref pw, .int (zi tl), .ref pt])), (ps, aI cI 10 sf), (pk, aI cI 12 kf), (pa, aI cI 12 af), (pb, aI cI 12 bf), (pq, aI cI 12 zf)]) [4, 5, 6, 7, 8, 9] (by decide) rfl
            have hFc := va_free (wc := [(g0, .inr (5, [.int (zi co), .ref ps, .int (zi 0), .ref pk, .ref pa, .ref pb, .ref pq, .int (zi we), .int (zi wl), .ref pw, .int (zi tl), .ref pt])), (ps, aI cI 10 sf), (pk, aI cI 12 kf), (pa, aI cI 12 af), (pb, aI cI 12 bf), (pq, aI cI 12 zf)]) hD hS hA [4, 5, 6, 7, 8, 9] rfl
            refine va_calli (va_runV (As := [.int (zi sl), .int (zi many)]) (rest := []) ⟨hx, hb, hml, hown, hts⟩ hh3 (cwV 2 hts gL_law_X5_moveWork rfl rfl rfl (by decide +kernel) ⟨Nat.le_of_ble_eq_true rfl, Nat.le_of_ble_eq_true rfl⟩) ⟨zPw.blind _ _ _ _ _, va_recv hKc hPc (ci := 5) (q0 := 0) rfl rfl, fun U hU hW => ⟨rfl, by rw [hU], by rw [hU]; exact hPc, va_K.moved hW.alike hKc, hDc.weaken (fun _ _ _ _ => trivial)⟩⟩ rfl rfl hl.1 rfl (lv_room (Nat.le_of_ble_eq_true rfl)) dL_law_1216 ⟨by show _ ≤ 601024; omega, by show _ ≤ 7293033; omega⟩) hS (fun q _ h => hFc q h) hFc (fun r3 u t H1 locs ht hvm hw hB hz1 hk1 hS => ?_)
            generalize u = cg_4 at hw hB
            obtain ⟨hw, hw3⟩ := hw
            replace hw3 : cg_4 = 4 := hw3
            obtain ⟨hP1, hK1, hD1⟩ := hB
            rw [ht] at hP1
            replace hP1 : va_P (dC, dI) vwCl [(g0, .inr (5, [.int (zi cg_4), .ref ps, .int (zi 0), .ref pk, .ref pa, .ref pb, .ref pq, .int (zi we), .int (zi wl), .ref pw, .int (zi tl), .ref pt])), (ps, aI cI 10 sf), (pk, aI cI 12 kf), (pa, aI cI 12 af), (pb, aI cI 12 bf), (pq, aI cI 12 zf)] H1 := hP1
            replace hD1 : va_D _ [(g0, .inr (5, [.int (zi cg_4), .ref ps, .int (zi 0), .ref pk, .ref pa, .ref pb, .ref pq, .int (zi we), .int (zi wl), .ref pw, .int (zi tl), .ref pt])), (ps, aI cI 10 sf), (pk, aI cI 12 kf), (pa, aI cI 12 af), (pb, aI cI 12 bf), (pq, aI cI 12 zf)] := hD1
            obtain ⟨hP, hD⟩ := va_join (wr := [(qw, .inr (1, [.ref wc, .int (zi wl)])), (wc, aI cI 20 wf), (qt, .inr (1, [.ref tc, .int (zi tl)])), (tc, aI cI 20 tf), (pw, aI cI 12 wf), (pt, aI cI 20 tf), (h0, .inr (4, [.ref qs, .ref qr, .ref qm, .ref qw, .ref qt, .int (zi we)])), (qs, aI cI 10 sf), (qm, .inr (2, [.ref qk, .int (zi fk_2), .int (zi lk_2)])), (qk, aI cI 366 mk_2), (qr, .inr (0, [.int (zi mc), .ref qd, .int (zi 0)])), (qo, aL cL 1 of)]) (w1 := [(g0, .inr (5, [.int (zi cg_4), .ref ps, .int (zi 0), .ref pk, .ref pa, .ref pb, .ref pq, .int (zi we), .int (zi wl), .ref pw, .int (zi tl), .ref pt])), (ps, aI cI 10 sf), (pk, aI cI 12 kf), (pa, aI cI 12 af), (pb, aI cI 12 bf), (pq, aI cI 12 zf)]) hP hD [4, 5, 6, 7, 8, 9] [0, 1, 2, 3, 10, 11, 12, 13, 14, 15, 16, 17] rfl rfl (by decide) (by decide) hk1 hFc hP1 hD1
            generalize H1 = H at hP hS ⊢
            obtain rfl : r3 = zi 0 := hw
            have hP : va_P (dC, dI) vwCl [(qw, .inr (1, [.ref wc, .int (zi wl)])), (wc, aI cI 20 wf), (qt, .inr (1, [.ref tc, .int (zi tl)])), (tc, aI cI 20 tf), (pw, aI cI 12 wf), (pt, aI cI 20 tf), (h0, .inr (4, [.ref qs, .ref qr, .ref qm, .ref qw, .ref qt, .int (zi we)])), (qs, aI cI 10 sf), (qm, .inr (2, [.ref qk, .int (zi fk_2), .int (zi lk_2)])), (qk, aI cI 366 mk_2), (qr, .inr (0, [.int (zi mc), .ref qd, .int (zi 0)])), (qo, aL cL 1 of), (g0, .inr (5, [.int (zi cg_4), .ref ps, .int (zi 0), .ref pk, .ref pa, .ref pb, .ref pq, .int (zi we), .int (zi wl), .ref pw, .int (zi tl), .ref pt])), (ps, aI cI 10 sf), (pk, aI cI 12 kf), (pa, aI cI 12 af), (pb, aI cI 12 bf), (pq, aI cI 12 zf)] H := hP
            have hD : va_D A [(qw, .inr (1, [.ref wc, .int (zi wl)])), (wc, aI cI 20 wf), (qt, .inr (1, [.ref tc, .int (zi tl)])), (tc, aI cI 20 tf), (pw, aI cI 12 wf), (pt, aI cI 20 tf), (h0, .inr (4, [.ref qs, .ref qr, .ref qm, .ref qw, .ref qt, .int (zi we)])), (qs, aI cI 10 sf), (qm, .inr (2, [.ref qk, .int (zi fk_2), .int (zi lk_2)])), (qk, aI cI 366 mk_2), (qr, .inr (0, [.int (zi mc), .ref qd, .int (zi 0)])), (qo, aL cL 1 of), (g0, .inr (5, [.int (zi cg_4), .ref ps, .int (zi 0), .ref pk, .ref pa, .ref pb, .ref pq, .int (zi we), .int (zi wl), .ref pw, .int (zi tl), .ref pt])), (ps, aI cI 10 sf), (pk, aI cI 12 kf), (pa, aI cI 12 af), (pb, aI cI 12 bf), (pq, aI cI 12 zf)] := hD
            refine lv_istore (lv' := [(6, .int (zi 0)), (5, .int (zi 4)), (4, .int (zi ii)), (0, .ref b), (1, .ref h0), (2, .ref g0), (3, .ref qo)]) hx hb dL_law_1219 hl (by decide) rfl (fun ls hl => ?_)
            refine lv_aload_n hx hb dL_law_1221 rfl (lv_at hl 5 rfl) ?_
            have hh5 := c_X5_thrown l dC dI cI g0 ps pk pa pb pq pw pt cg_4 0 we wl tl sf 
            have hPc := hP.sub (ws' := [(g0, .inr (5, [.int (zi cg_4), .ref ps, .int (zi 0), .ref pk, .ref pa, .ref pb, .ref pq, .int (zi we), .int (zi wl), .ref pw, .int (zi tl), .ref pt])), (ps, aI cI 10 sf)]) [12, 13] rfl
            have hKc : va_K (dC, dI) vwCl [(cI, .int)] s := hK.sub (tys' := [(cI, .int)]) [0] rfl
            refine vp_callSi (va_Run.run (va_runV (As := []) (rest := []) ⟨hx, hb, hml, hown, hts⟩ hh5 (cwV 0 hts gL_law_X5_thrown rfl rfl rfl (by decide +kernel) ⟨Nat.le_of_ble_eq_true rfl, Nat.le_of_ble_eq_true rfl⟩) ⟨zPr.blind _ _ _ _, va_recv hKc hPc (ci := 5) (q0 := 0) rfl rfl, fun U hU hW => ⟨rfl, by rw [hU]; exact hPc, va_K.moved hW.alike hKc⟩⟩ rfl rfl hl.1 rfl (lv_room (Nat.le_of_ble_eq_true rfl)) dL_law_1222 ⟨by show _ ≤ 601024; omega, by show _ ≤ 7293033; omega⟩)) (fun r5 (hr5 : r5 = zi cg_4) => ?_)
            subst hr5
            refine lv_iload hx hb dL_law_1225 (lv_at hl 1 rfl) ?_
            refine zw_icmp_eq (tgt := 1232) hx hb dL_law_1227 (by decide) ⟨by omega, by omega⟩ ⟨by omega, by omega⟩ (fun h6 => ?_) (fun h6 => ?_)
            · skip
              refine lv_iload hx hb dL_law_1232 (lv_at hl 1 rfl) ?_
              refine zw_if_ne (tgt := 1249) hx hb dL_law_1234 (by decide) ⟨by omega, by omega⟩ (fun h7 => ?_) (fun h7 => ?_)
              · skip
                refine lv_goto (tgt := 1499) hx hb dL_law_1249 (by decide) ?_
                have hP9 : va_P (dC, dI) vwCl [(h0, .inr (4, [.ref qs, .ref qr, .ref qm, .ref qw, .ref qt, .int (zi we)])), (qs, aI cI 10 sf), (qr, .inr (0, [.int (zi mc), .ref qd, .int (zi 0)])), (qm, .inr (2, [.ref qk, .int (zi fk_2), .int (zi lk_2)])), (qk, aI cI 366 mk_2), (qw, .inr (1, [.ref wc, .int (zi wl)])), (wc, aI cI 20 wf), (qt, .inr (1, [.ref tc, .int (zi tl)])), (tc, aI cI 20 tf), (g0, .inr (5, [.int (zi cg_4), .ref ps, .int (zi 0), .ref pk, .ref pa, .ref pb, .ref pq, .int (zi we), .int (zi wl), .ref pw, .int (zi tl), .ref pt])), (ps, aI cI 10 sf), (pk, aI cI 12 kf), (pa, aI cI 12 af), (pb, aI cI 12 bf), (pq, aI cI 12 zf), (pw, aI cI 12 wf), (pt, aI cI 20 tf), (qo, aL cL 1 of)] H := hP.sub (ws' := [(h0, .inr (4, [.ref qs, .ref qr, .ref qm, .ref qw, .ref qt, .int (zi we)])), (qs, aI cI 10 sf), (qr, .inr (0, [.int (zi mc), .ref qd, .int (zi 0)])), (qm, .inr (2, [.ref qk, .int (zi fk_2), .int (zi lk_2)])), (qk, aI cI 366 mk_2), (qw, .inr (1, [.ref wc, .int (zi wl)])), (wc, aI cI 20 wf), (qt, .inr (1, [.ref tc, .int (zi tl)])), (tc, aI cI 20 tf), (g0, .inr (5, [.int (zi cg_4), .ref ps, .int (zi 0), .ref pk, .ref pa, .ref pb, .ref pq, .int (zi we), .int (zi wl), .ref pw, .int (zi tl), .ref pt])), (ps, aI cI 10 sf), (pk, aI cI 12 kf), (pa, aI cI 12 af), (pb, aI cI 12 bf), (pq, aI cI 12 zf), (pw, aI cI 12 wf), (pt, aI cI 20 tf), (qo, aL cL 1 of)]) [6, 7, 10, 8, 9, 0, 1, 2, 3, 12, 13, 14, 15, 16, 17, 4, 5, 11] rfl
                have hD9 : va_D A [(h0, .inr (4, [.ref qs, .ref qr, .ref qm, .ref qw, .ref qt, .int (zi we)])), (qs, aI cI 10 sf), (qr, .inr (0, [.int (zi mc), .ref qd, .int (zi 0)])), (qm, .inr (2, [.ref qk, .int (zi fk_2), .int (zi lk_2)])), (qk, aI cI 366 mk_2), (qw, .inr (1, [.ref wc, .int (zi wl)])), (wc, aI cI 20 wf), (qt, .inr (1, [.ref tc, .int (zi tl)])), (tc, aI cI 20 tf), (g0, .inr (5, [.int (zi cg_4), .ref ps, .int (zi 0), .ref pk, .ref pa, .ref pb, .ref pq, .int (zi we), .int (zi wl), .ref pw, .int (zi tl), .ref pt])), (ps, aI cI 10 sf), (pk, aI cI 12 kf), (pa, aI cI 12 af), (pb, aI cI 12 bf), (pq, aI cI 12 zf), (pw, aI cI 12 wf), (pt, aI cI 20 tf), (qo, aL cL 1 of)] := hD.sub (ws' := [(h0, .inr (4, [.ref qs, .ref qr, .ref qm, .ref qw, .ref qt, .int (zi we)])), (qs, aI cI 10 sf), (qr, .inr (0, [.int (zi mc), .ref qd, .int (zi 0)])), (qm, .inr (2, [.ref qk, .int (zi fk_2), .int (zi lk_2)])), (qk, aI cI 366 mk_2), (qw, .inr (1, [.ref wc, .int (zi wl)])), (wc, aI cI 20 wf), (qt, .inr (1, [.ref tc, .int (zi tl)])), (tc, aI cI 20 tf), (g0, .inr (5, [.int (zi cg_4), .ref ps, .int (zi 0), .ref pk, .ref pa, .ref pb, .ref pq, .int (zi we), .int (zi wl), .ref pw, .int (zi tl), .ref pt])), (ps, aI cI 10 sf), (pk, aI cI 12 kf), (pa, aI cI 12 af), (pb, aI cI 12 bf), (pq, aI cI 12 zf), (pw, aI cI 12 wf), (pt, aI cI 20 tf), (qo, aL cL 1 of)]) [6, 7, 10, 8, 9, 0, 1, 2, 3, 12, 13, 14, 15, 16, 17, 4, 5, 11] (by decide) rfl
                have hI9 : LI sf kf af bf zf wf tf 0 we fk_2 lk_2 wl tl := LI.mk9 hI.sfb hI.rub hI.rk hI.web (hw1) hI.wlb hI.wfb hI.tlb hI.tfb
                refine W.widen (k := ce + 2) (n := sn + 19) (by omega) (by omega) ?_
                exact K0 mc we fk_2 lk_2 mk_2 sf kf af bf zf wl wf tl tf cg_4 of H locs ls ⟨hP9, hD9, hS, hI9⟩ (lv_sub hl [2, 3, 4, 5, 6] rfl)
              · skip
                exact absurd True.intro (by omega)
            · skip
              refine zw_iconst hx hb dL_law_1230 ?_
              exact absurd True.intro (by omega)
          · skip
            refine lv_aload_n hx hb dL_law_1184 rfl (lv_at hl 2 rfl) ?_
            refine lv_aload_n hx hb dL_law_1185 rfl (lv_at hl 1 rfl) ?_
            refine lv_iload hx hb dL_law_1186 (lv_at hl 0 rfl) ?_
            refine zw_iconst hx hb dL_law_1188 ?_
            refine zw_iadd hx hb dL_law_1189 ?_
            refine zw_scr hx hb hX hbl hbA hS (by omega) (by omega) ⟨by omega, by omega⟩ hv1 dL_law_1190 ?_
            refine lv_aload_n hx hb dL_law_1191 rfl (lv_at hl 1 rfl) ?_
            refine lv_iload hx hb dL_law_1192 (lv_at hl 0 rfl) ?_
            refine zw_iconst hx hb dL_law_1194 ?_
            refine zw_iadd hx hb dL_law_1195 ?_
            refine zw_scr hx hb hX hbl hbA hS (by omega) (by omega) ⟨by omega, by omega⟩ hv2 dL_law_1196 ?_
            refine lv_aload_n hx hb dL_law_1197 rfl (lv_at hl 4 rfl) ?_
            have hh1 := c_Lz_moveWork_n l dC dI cI cL cO h0 qs qr qm qw qt we sf qk fi ln mf mc qd qo of sl many fz rr kf af bf zf H.size (by omega) (by omega) (by omega) (by omega) (by omega) (by omega) (by exact hzm4) (by omega)
            have hPc := hP.sub (ws' := [(h0, .inr (4, [.ref qs, .ref qr, .ref qm, .ref qw, .ref qt, .int (zi we)])), (qs, aI cI 10 sf), (qm, .inr (2, [.ref qk, .int (zi fi), .int (zi ln)])), (qk, aI cI 366 mf), (qr, .inr (0, [.int (zi mc), .ref qd, .int (zi 0)])), (qo, aL cL 1 of)]) [0, 1, 3, 4, 2, 17] rfl
            have hKc : va_K (dC, dI) vwCl [(cI, .int), (cL, .long), (cO, .object "java/lang/Object")] s := hK
            have hDc := hD.sub (ws' := [(h0, .inr (4, [.ref qs, .ref qr, .ref qm, .ref qw, .ref qt, .int (zi we)])), (qs, aI cI 10 sf), (qm, .inr (2, [.ref qk, .int (zi fi), .int (zi ln)])), (qk, aI cI 366 mf), (qr, .inr (0, [.int (zi mc), .ref qd, .int (zi 0)])), (qo, aL cL 1 of)]) [0, 1, 3, 4, 2, 17] (by decide) rfl
            have hFc := va_free (wc := [(h0, .inr (4, [.ref qs, .ref qr, .ref qm, .ref qw, .ref qt, .int (zi we)])), (qs, aI cI 10 sf), (qm, .inr (2, [.ref qk, .int (zi fi), .int (zi ln)])), (qk, aI cI 366 mf), (qr, .inr (0, [.int (zi mc), .ref qd, .int (zi 0)])), (qo, aL cL 1 of)]) hD hS hA [0, 1, 3, 4, 2, 17] rfl
            refine va_calli (vx_runSW (As := [.ref h0, .int (zi sl), .int (zi many), .ref qo]) (rest := []) ⟨hx, hb, hml, hown, hts⟩ hh1 (vx_cwSW 4 hts gL_law_L_moveWork rfl rfl rfl (by decide +kernel) ⟨Nat.le_of_ble_eq_true rfl, Nat.le_of_ble_eq_true rfl⟩) ⟨zPw.blind _ _ _ _ _, fun U hU hW => ⟨rfl, by rw [hU], by rw [hU]; exact hPc, va_K.moved hW.alike hKc, hDc.weaken (fun _ _ _ _ => trivial)⟩⟩ rfl rfl hl.1 rfl (lv_room (Nat.le_of_ble_eq_true rfl)) dL_law_1198 ⟨by show _ ≤ 601024; omega, by show _ ≤ 7293033; omega⟩) hS (fun q _ h => hFc q h) hFc (fun r1 u t H1 locs ht hvm hw hB hz1 hk1 hS => ?_)
            obtain ⟨fk_2, lk_2, mk_2, sg_2⟩ := u
            obtain ⟨hw, hw1⟩ := hw
            replace hw1 : (0 ≤ fk_2 ∧ fk_2 ≤ 4000000 ∧ 0 ≤ lk_2 ∧ lk_2 ≤ 366) ∧ sg_2 = zup sf sl.toNat rr := hw1
            obtain ⟨hP1, hK1, hD1⟩ := hB
            rw [ht] at hP1
            replace hP1 : va_P (dC, dI) vwCl [(h0, .inr (4, [.ref qs, .ref qr, .ref qm, .ref qw, .ref qt, .int (zi we)])), (qs, aI cI 10 sg_2), (qm, .inr (2, [.ref qk, .int (zi fk_2), .int (zi lk_2)])), (qk, aI cI 366 mk_2), (qr, .inr (0, [.int (zi mc), .ref qd, .int (zi 0)])), (qo, aL cL 1 (zup of (Int.toNat 0) rr))] H1 := hP1
            replace hD1 : va_D _ [(h0, .inr (4, [.ref qs, .ref qr, .ref qm, .ref qw, .ref qt, .int (zi we)])), (qs, aI cI 10 sg_2), (qm, .inr (2, [.ref qk, .int (zi fk_2), .int (zi lk_2)])), (qk, aI cI 366 mk_2), (qr, .inr (0, [.int (zi mc), .ref qd, .int (zi 0)])), (qo, aL cL 1 (zup of (Int.toNat 0) rr))] := hD1
            obtain ⟨hP, hD⟩ := va_join (wr := [(qw, .inr (1, [.ref wc, .int (zi wl)])), (wc, aI cI 20 wf), (qt, .inr (1, [.ref tc, .int (zi tl)])), (tc, aI cI 20 tf), (g0, .inr (5, [.int (zi co), .ref ps, .int (zi 0), .ref pk, .ref pa, .ref pb, .ref pq, .int (zi we), .int (zi wl), .ref pw, .int (zi tl), .ref pt])), (ps, aI cI 10 sf), (pk, aI cI 12 kf), (pa, aI cI 12 af), (pb, aI cI 12 bf), (pq, aI cI 12 zf), (pw, aI cI 12 wf), (pt, aI cI 20 tf)]) (w1 := [(h0, .inr (4, [.ref qs, .ref qr, .ref qm, .ref qw, .ref qt, .int (zi we)])), (qs, aI cI 10 sg_2), (qm, .inr (2, [.ref qk, .int (zi fk_2), .int (zi lk_2)])), (qk, aI cI 366 mk_2), (qr, .inr (0, [.int (zi mc), .ref qd, .int (zi 0)])), (qo, aL cL 1 (zup of (Int.toNat 0) rr))]) hP hD [0, 1, 3, 4, 2, 17] [5, 6, 7, 8, 9, 10, 11, 12, 13, 14, 15, 16] rfl rfl (by decide) (by decide) hk1 hFc hP1 hD1
            generalize H1 = H at hP hS ⊢
            obtain rfl : r1 = zi 0 := hw
            have hP : va_P (dC, dI) vwCl [(qw, .inr (1, [.ref wc, .int (zi wl)])), (wc, aI cI 20 wf), (qt, .inr (1, [.ref tc, .int (zi tl)])), (tc, aI cI 20 tf), (g0, .inr (5, [.int (zi co), .ref ps, .int (zi 0), .ref pk, .ref pa, .ref pb, .ref pq, .int (zi we), .int (zi wl), .ref pw, .int (zi tl), .ref pt])), (ps, aI cI 10 sf), (pk, aI cI 12 kf), (pa, aI cI 12 af), (pb, aI cI 12 bf), (pq, aI cI 12 zf), (pw, aI cI 12 wf), (pt, aI cI 20 tf), (h0, .inr (4, [.ref qs, .ref qr, .ref qm, .ref qw, .ref qt, .int (zi we)])), (qs, aI cI 10 sg_2), (qm, .inr (2, [.ref qk, .int (zi fk_2), .int (zi lk_2)])), (qk, aI cI 366 mk_2), (qr, .inr (0, [.int (zi mc), .ref qd, .int (zi 0)])), (qo, aL cL 1 (zup of (Int.toNat 0) rr))] H := hP
            have hD : va_D A [(qw, .inr (1, [.ref wc, .int (zi wl)])), (wc, aI cI 20 wf), (qt, .inr (1, [.ref tc, .int (zi tl)])), (tc, aI cI 20 tf), (g0, .inr (5, [.int (zi co), .ref ps, .int (zi 0), .ref pk, .ref pa, .ref pb, .ref pq, .int (zi we), .int (zi wl), .ref pw, .int (zi tl), .ref pt])), (ps, aI cI 10 sf), (pk, aI cI 12 kf), (pa, aI cI 12 af), (pb, aI cI 12 bf), (pq, aI cI 12 zf), (pw, aI cI 12 wf), (pt, aI cI 20 tf), (h0, .inr (4, [.ref qs, .ref qr, .ref qm, .ref qw, .ref qt, .int (zi we)])), (qs, aI cI 10 sg_2), (qm, .inr (2, [.ref qk, .int (zi fk_2), .int (zi lk_2)])), (qk, aI cI 366 mk_2), (qr, .inr (0, [.int (zi mc), .ref qd, .int (zi 0)])), (qo, aL cL 1 (zup of (Int.toNat 0) rr))] := hD
            refine lv_istore (lv' := [(5, .int (zi 0)), (4, .int (zi ii)), (0, .ref b), (1, .ref h0), (2, .ref g0), (3, .ref qo)]) hx hb dL_law_1201 hl (by decide) rfl (fun ls hl => ?_)
            refine lv_aload_n hx hb dL_law_1203 rfl (lv_at hl 4 rfl) ?_
            refine lv_aload_n hx hb dL_law_1204 rfl (lv_at hl 2 rfl) ?_
            refine lv_iload hx hb dL_law_1205 (lv_at hl 1 rfl) ?_
            refine zw_iconst hx hb dL_law_1207 ?_
            refine zw_iadd hx hb dL_law_1208 ?_
            refine zw_scr hx hb hX hbl hbA hS (by omega) (by omega) ⟨by omega, by omega⟩ hv1 dL_law_1209 ?_
            refine lv_aload_n hx hb dL_law_1210 rfl (lv_at hl 2 rfl) ?_
            refine lv_iload hx hb dL_law_1211 (lv_at hl 1 rfl) ?_
            refine zw_iconst hx hb dL_law_1213 ?_
            refine zw_iadd hx hb dL_law_1214 ?_
            refine zw_scr hx hb hX hbl hbA hS (by omega) (by omega) ⟨by omega, by omega⟩ hv2 dL_law_1215 ?_
            have hh3 := c_X5_moveWork_n l dC dI cI g0 ps pk pa pb pq pw pt co 0 we wl tl sf kf af bf zf fz rr sl many H.size (by omega) (by omega) (by omega) (by exact hI.rk) (by omega) (by omega) (by omega) (by exact hzm5) (by omega)
            have hPc := hP.sub (ws' := [(g0, .inr (5, [.int (zi co), .ref ps, .int (zi 0), .ref pk, .ref pa, .ref pb, .ref pq, .int (zi we), .int (zi wl), .ref pw, .int (zi tl), .ref pt])), (ps, aI cI 10 sf), (pk, aI cI 12 kf), (pa, aI cI 12 af), (pb, aI cI 12 bf), (pq, aI cI 12 zf)]) [4, 5, 6, 7, 8, 9] rfl
            have hKc : va_K (dC, dI) vwCl [(cI, .int)] s := hK.sub (tys' := [(cI, .int)]) [0] rfl
            have hDc := hD.sub (ws' := [(g0, .inr (5, [.int (zi co), .ref ps, .int (zi 0), .ref pk, .ref pa, .ref pb, .ref pq, .int (zi we), .int (zi wl), .ref pw, .int (zi tl), .ref pt])), (ps, aI cI 10 sf), (pk, aI cI 12 kf), (pa, aI cI 12 af), (pb, aI cI 12 bf), (pq, aI cI 12 zf)]) [4, 5, 6, 7, 8, 9] (by decide) rfl
            have hFc := va_free (wc := [(g0, .inr (5, [.int (zi co), .ref ps, .int (zi 0), .ref pk, .ref pa, .ref pb, .ref pq, .int (zi we), .int (zi wl), .ref pw, .int (zi tl), .ref pt])), (ps, aI cI 10 sf), (pk, aI cI 12 kf), (pa, aI cI 12 af), (pb, aI cI 12 bf), (pq, aI cI 12 zf)]) hD hS hA [4, 5, 6, 7, 8, 9] rfl
            refine va_calli (va_runV (As := [.int (zi sl), .int (zi many)]) (rest := []) ⟨hx, hb, hml, hown, hts⟩ hh3 (cwV 2 hts gL_law_X5_moveWork rfl rfl rfl (by decide +kernel) ⟨Nat.le_of_ble_eq_true rfl, Nat.le_of_ble_eq_true rfl⟩) ⟨zPw.blind _ _ _ _ _, va_recv hKc hPc (ci := 5) (q0 := 0) rfl rfl, fun U hU hW => ⟨rfl, by rw [hU], by rw [hU]; exact hPc, va_K.moved hW.alike hKc, hDc.weaken (fun _ _ _ _ => trivial)⟩⟩ rfl rfl hl.1 rfl (lv_room (Nat.le_of_ble_eq_true rfl)) dL_law_1216 ⟨by show _ ≤ 601024; omega, by show _ ≤ 7293033; omega⟩) hS (fun q _ h => hFc q h) hFc (fun r3 u t H1 locs ht hvm hw hB hz1 hk1 hS => ?_)
            obtain ⟨cg_4, sg_4⟩ := u
            obtain ⟨hw, hw3⟩ := hw
            replace hw3 : cg_4 = 0 ∧ sg_4 = zup sf sl.toNat rr := hw3
            obtain ⟨hP1, hK1, hD1⟩ := hB
            rw [ht] at hP1
            replace hP1 : va_P (dC, dI) vwCl [(g0, .inr (5, [.int (zi cg_4), .ref ps, .int (zi 0), .ref pk, .ref pa, .ref pb, .ref pq, .int (zi we), .int (zi wl), .ref pw, .int (zi tl), .ref pt])), (ps, aI cI 10 sg_4), (pk, aI cI 12 kf), (pa, aI cI 12 af), (pb, aI cI 12 bf), (pq, aI cI 12 zf)] H1 := hP1
            replace hD1 : va_D _ [(g0, .inr (5, [.int (zi cg_4), .ref ps, .int (zi 0), .ref pk, .ref pa, .ref pb, .ref pq, .int (zi we), .int (zi wl), .ref pw, .int (zi tl), .ref pt])), (ps, aI cI 10 sg_4), (pk, aI cI 12 kf), (pa, aI cI 12 af), (pb, aI cI 12 bf), (pq, aI cI 12 zf)] := hD1
            obtain ⟨hP, hD⟩ := va_join (wr := [(qw, .inr (1, [.ref wc, .int (zi wl)])), (wc, aI cI 20 wf), (qt, .inr (1, [.ref tc, .int (zi tl)])), (tc, aI cI 20 tf), (pw, aI cI 12 wf), (pt, aI cI 20 tf), (h0, .inr (4, [.ref qs, .ref qr, .ref qm, .ref qw, .ref qt, .int (zi we)])), (qs, aI cI 10 sg_2), (qm, .inr (2, [.ref qk, .int (zi fk_2), .int (zi lk_2)])), (qk, aI cI 366 mk_2), (qr, .inr (0, [.int (zi mc), .ref qd, .int (zi 0)])), (qo, aL cL 1 (zup of (Int.toNat 0) rr))]) (w1 := [(g0, .inr (5, [.int (zi cg_4), .ref ps, .int (zi 0), .ref pk, .ref pa, .ref pb, .ref pq, .int (zi we), .int (zi wl), .ref pw, .int (zi tl), .ref pt])), (ps, aI cI 10 sg_4), (pk, aI cI 12 kf), (pa, aI cI 12 af), (pb, aI cI 12 bf), (pq, aI cI 12 zf)]) hP hD [4, 5, 6, 7, 8, 9] [0, 1, 2, 3, 10, 11, 12, 13, 14, 15, 16, 17] rfl rfl (by decide) (by decide) hk1 hFc hP1 hD1
            generalize H1 = H at hP hS ⊢
            obtain rfl : r3 = zi rr := hw
            have hP : va_P (dC, dI) vwCl [(qw, .inr (1, [.ref wc, .int (zi wl)])), (wc, aI cI 20 wf), (qt, .inr (1, [.ref tc, .int (zi tl)])), (tc, aI cI 20 tf), (pw, aI cI 12 wf), (pt, aI cI 20 tf), (h0, .inr (4, [.ref qs, .ref qr, .ref qm, .ref qw, .ref qt, .int (zi we)])), (qs, aI cI 10 sg_2), (qm, .inr (2, [.ref qk, .int (zi fk_2), .int (zi lk_2)])), (qk, aI cI 366 mk_2), (qr, .inr (0, [.int (zi mc), .ref qd, .int (zi 0)])), (qo, aL cL 1 (zup of (Int.toNat 0) rr)), (g0, .inr (5, [.int (zi cg_4), .ref ps, .int (zi 0), .ref pk, .ref pa, .ref pb, .ref pq, .int (zi we), .int (zi wl), .ref pw, .int (zi tl), .ref pt])), (ps, aI cI 10 sg_4), (pk, aI cI 12 kf), (pa, aI cI 12 af), (pb, aI cI 12 bf), (pq, aI cI 12 zf)] H := hP
            have hD : va_D A [(qw, .inr (1, [.ref wc, .int (zi wl)])), (wc, aI cI 20 wf), (qt, .inr (1, [.ref tc, .int (zi tl)])), (tc, aI cI 20 tf), (pw, aI cI 12 wf), (pt, aI cI 20 tf), (h0, .inr (4, [.ref qs, .ref qr, .ref qm, .ref qw, .ref qt, .int (zi we)])), (qs, aI cI 10 sg_2), (qm, .inr (2, [.ref qk, .int (zi fk_2), .int (zi lk_2)])), (qk, aI cI 366 mk_2), (qr, .inr (0, [.int (zi mc), .ref qd, .int (zi 0)])), (qo, aL cL 1 (zup of (Int.toNat 0) rr)), (g0, .inr (5, [.int (zi cg_4), .ref ps, .int (zi 0), .ref pk, .ref pa, .ref pb, .ref pq, .int (zi we), .int (zi wl), .ref pw, .int (zi tl), .ref pt])), (ps, aI cI 10 sg_4), (pk, aI cI 12 kf), (pa, aI cI 12 af), (pb, aI cI 12 bf), (pq, aI cI 12 zf)] := hD
            refine lv_istore (lv' := [(6, .int (zi rr)), (5, .int (zi 0)), (4, .int (zi ii)), (0, .ref b), (1, .ref h0), (2, .ref g0), (3, .ref qo)]) hx hb dL_law_1219 hl (by decide) rfl (fun ls hl => ?_)
            refine lv_aload_n hx hb dL_law_1221 rfl (lv_at hl 5 rfl) ?_
            have hh5 := c_X5_thrown l dC dI cI g0 ps pk pa pb pq pw pt cg_4 0 we wl tl sg_4 
            have hPc := hP.sub (ws' := [(g0, .inr (5, [.int (zi cg_4), .ref ps, .int (zi 0), .ref pk, .ref pa, .ref pb, .ref pq, .int (zi we), .int (zi wl), .ref pw, .int (zi tl), .ref pt])), (ps, aI cI 10 sg_4)]) [12, 13] rfl
            have hKc : va_K (dC, dI) vwCl [(cI, .int)] s := hK.sub (tys' := [(cI, .int)]) [0] rfl
            refine vp_callSi (va_Run.run (va_runV (As := []) (rest := []) ⟨hx, hb, hml, hown, hts⟩ hh5 (cwV 0 hts gL_law_X5_thrown rfl rfl rfl (by decide +kernel) ⟨Nat.le_of_ble_eq_true rfl, Nat.le_of_ble_eq_true rfl⟩) ⟨zPr.blind _ _ _ _, va_recv hKc hPc (ci := 5) (q0 := 0) rfl rfl, fun U hU hW => ⟨rfl, by rw [hU]; exact hPc, va_K.moved hW.alike hKc⟩⟩ rfl rfl hl.1 rfl (lv_room (Nat.le_of_ble_eq_true rfl)) dL_law_1222 ⟨by show _ ≤ 601024; omega, by show _ ≤ 7293033; omega⟩)) (fun r5 (hr5 : r5 = zi cg_4) => ?_)
            subst hr5
            refine lv_iload hx hb dL_law_1225 (lv_at hl 1 rfl) ?_
            refine zw_icmp_eq (tgt := 1232) hx hb dL_law_1227 (by decide) ⟨by omega, by omega⟩ ⟨by omega, by omega⟩ (fun h6 => ?_) (fun h6 => ?_)
            · skip
              refine lv_iload hx hb dL_law_1232 (lv_at hl 1 rfl) ?_
              refine zw_if_ne (tgt := 1249) hx hb dL_law_1234 (by decide) ⟨by omega, by omega⟩ (fun h7 => ?_) (fun h7 => ?_)
              · skip
                exact absurd True.intro (by omega)
              · skip
                refine lv_aload_n hx hb dL_law_1237 rfl (lv_at hl 6 rfl) ?_
                refine zw_iconst hx hb dL_law_1238 ?_
                refine zw_lald hx hb hK hP 11 1 rfl rfl (by omega) (by omega) ⟨by omega, by omega⟩ dL_law_1239 ?_
                rw [zup_at]
                refine lv_iload hx hb dL_law_1240 (lv_at hl 0 rfl) ?_
                refine zw_i2l hx hb dL_law_1242 ⟨by omega, by omega⟩ ?_
                refine zw_lcmp_eq (tgt := 1249) hx hb dL_law_1243 dL_law_1244 (by decide) ⟨by omega, by omega⟩ ⟨by omega, by omega⟩ (fun h8 => ?_) (fun h8 => ?_)
                · skip
                  refine lv_goto (tgt := 1499) hx hb dL_law_1249 (by decide) ?_
                  have hP9 : va_P (dC, dI) vwCl [(h0, .inr (4, [.ref qs, .ref qr, .ref qm, .ref qw, .ref qt, .int (zi we)])), (qs, aI cI 10 sg_2), (qr, .inr (0, [.int (zi mc), .ref qd, .int (zi 0)])), (qm, .inr (2, [.ref qk, .int (zi fk_2), .int (zi lk_2)])), (qk, aI cI 366 mk_2), (qw, .inr (1, [.ref wc, .int (zi wl)])), (wc, aI cI 20 wf), (qt, .inr (1, [.ref tc, .int (zi tl)])), (tc, aI cI 20 tf), (g0, .inr (5, [.int (zi cg_4), .ref ps, .int (zi 0), .ref pk, .ref pa, .ref pb, .ref pq, .int (zi we), .int (zi wl), .ref pw, .int (zi tl), .ref pt])), (ps, aI cI 10 sg_4), (pk, aI cI 12 kf), (pa, aI cI 12 af), (pb, aI cI 12 bf), (pq, aI cI 12 zf), (pw, aI cI 12 wf), (pt, aI cI 20 tf), (qo, aL cL 1 (zup of (Int.toNat 0) rr))] H := hP.sub (ws' := [(h0, .inr (4, [.ref qs, .ref qr, .ref qm, .ref qw, .ref qt, .int (zi we)])), (qs, aI cI 10 sg_2), (qr, .inr (0, [.int (zi mc), .ref qd, .int (zi 0)])), (qm, .inr (2, [.ref qk, .int (zi fk_2), .int (zi lk_2)])), (qk, aI cI 366 mk_2), (qw, .inr (1, [.ref wc, .int (zi wl)])), (wc, aI cI 20 wf), (qt, .inr (1, [.ref tc, .int (zi tl)])), (tc, aI cI 20 tf), (g0, .inr (5, [.int (zi cg_4), .ref ps, .int (zi 0), .ref pk, .ref pa, .ref pb, .ref pq, .int (zi we), .int (zi wl), .ref pw, .int (zi tl), .ref pt])), (ps, aI cI 10 sg_4), (pk, aI cI 12 kf), (pa, aI cI 12 af), (pb, aI cI 12 bf), (pq, aI cI 12 zf), (pw, aI cI 12 wf), (pt, aI cI 20 tf), (qo, aL cL 1 (zup of (Int.toNat 0) rr))]) [6, 7, 10, 8, 9, 0, 1, 2, 3, 12, 13, 14, 15, 16, 17, 4, 5, 11] rfl
                  have hD9 : va_D A [(h0, .inr (4, [.ref qs, .ref qr, .ref qm, .ref qw, .ref qt, .int (zi we)])), (qs, aI cI 10 sg_2), (qr, .inr (0, [.int (zi mc), .ref qd, .int (zi 0)])), (qm, .inr (2, [.ref qk, .int (zi fk_2), .int (zi lk_2)])), (qk, aI cI 366 mk_2), (qw, .inr (1, [.ref wc, .int (zi wl)])), (wc, aI cI 20 wf), (qt, .inr (1, [.ref tc, .int (zi tl)])), (tc, aI cI 20 tf), (g0, .inr (5, [.int (zi cg_4), .ref ps, .int (zi 0), .ref pk, .ref pa, .ref pb, .ref pq, .int (zi we), .int (zi wl), .ref pw, .int (zi tl), .ref pt])), (ps, aI cI 10 sg_4), (pk, aI cI 12 kf), (pa, aI cI 12 af), (pb, aI cI 12 bf), (pq, aI cI 12 zf), (pw, aI cI 12 wf), (pt, aI cI 20 tf), (qo, aL cL 1 (zup of (Int.toNat 0) rr))] := hD.sub (ws' := [(h0, .inr (4, [.ref qs, .ref qr, .ref qm, .ref qw, .ref qt, .int (zi we)])), (qs, aI cI 10 sg_2), (qr, .inr (0, [.int (zi mc), .ref qd, .int (zi 0)])), (qm, .inr (2, [.ref qk, .int (zi fk_2), .int (zi lk_2)])), (qk, aI cI 366 mk_2), (qw, .inr (1, [.ref wc, .int (zi wl)])), (wc, aI cI 20 wf), (qt, .inr (1, [.ref tc, .int (zi tl)])), (tc, aI cI 20 tf), (g0, .inr (5, [.int (zi cg_4), .ref ps, .int (zi 0), .ref pk, .ref pa, .ref pb, .ref pq, .int (zi we), .int (zi wl), .ref pw, .int (zi tl), .ref pt])), (ps, aI cI 10 sg_4), (pk, aI cI 12 kf), (pa, aI cI 12 af), (pb, aI cI 12 bf), (pq, aI cI 12 zf), (pw, aI cI 12 wf), (pt, aI cI 20 tf), (qo, aL cL 1 (zup of (Int.toNat 0) rr))]) [6, 7, 10, 8, 9, 0, 1, 2, 3, 12, 13, 14, 15, 16, 17, 4, 5, 11] (by decide) rfl
                  have hcv0 : (sg_4 : Nat → Int) = sg_2 := by rw [hw3.2, hw1.2]
                  rw [hcv0] at hP9 hD9
                  have hI9 : LI sg_2 kf af bf zf wf tf 0 we fk_2 lk_2 wl tl := LI.mk9 (by rw [hw1.2]; exact zup_b hI.sfb _ (by omega)) hI.rub hI.rk hI.web (hw1.1) hI.wlb hI.wfb hI.tlb hI.tfb
                  refine W.widen (k := ce + 2) (n := sn + 19) (by omega) (by omega) ?_
                  exact K0 mc we fk_2 lk_2 mk_2 sg_2 kf af bf zf wl wf tl tf cg_4 (zup of (Int.toNat 0) rr) H locs ls ⟨hP9, hD9, hS, hI9⟩ (lv_sub hl [2, 3, 4, 5, 6] rfl)
                · skip
                  refine zw_iconst hx hb dL_law_1247 ?_
                  exact absurd True.intro (by omega)
            · skip
              refine zw_iconst hx hb dL_law_1230 ?_
              exact absurd True.intro (by omega)
      · skip
        refine lv_aload_n hx hb dL_law_1184 rfl (lv_at hl 2 rfl) ?_
        refine lv_aload_n hx hb dL_law_1185 rfl (lv_at hl 1 rfl) ?_
        refine lv_iload hx hb dL_law_1186 (lv_at hl 0 rfl) ?_
        refine zw_iconst hx hb dL_law_1188 ?_
        refine zw_iadd hx hb dL_law_1189 ?_
        refine zw_scr hx hb hX hbl hbA hS (by omega) (by omega) ⟨by omega, by omega⟩ hv1 dL_law_1190 ?_
        refine lv_aload_n hx hb dL_law_1191 rfl (lv_at hl 1 rfl) ?_
        refine lv_iload hx hb dL_law_1192 (lv_at hl 0 rfl) ?_
        refine zw_iconst hx hb dL_law_1194 ?_
        refine zw_iadd hx hb dL_law_1195 ?_
        refine zw_scr hx hb hX hbl hbA hS (by omega) (by omega) ⟨by omega, by omega⟩ hv2 dL_law_1196 ?_
        refine lv_aload_n hx hb dL_law_1197 rfl (lv_at hl 4 rfl) ?_
        have hh1 := c_L_moveWork_3 l hst dC dI cI cL cO h0 qs qr qm qw qt we sf qo of sl many H.size (by omega) (by omega) (by omega) (by omega)
        have hPc := hP.sub (ws' := [(h0, .inr (4, [.ref qs, .ref qr, .ref qm, .ref qw, .ref qt, .int (zi we)])), (qs, aI cI 10 sf), (qo, aL cL 1 of)]) [0, 1, 17] rfl
        have hKc : va_K (dC, dI) vwCl [(cI, .int), (cL, .long), (cO, .object "java/lang/Object")] s := hK
        have hDc := hD.sub (ws' := [(h0, .inr (4, [.ref qs, .ref qr, .ref qm, .ref qw, .ref qt, .int (zi we)])), (qs, aI cI 10 sf), (qo, aL cL 1 of)]) [0, 1, 17] (by decide) rfl
        have hFc := va_free (wc := [(h0, .inr (4, [.ref qs, .ref qr, .ref qm, .ref qw, .ref qt, .int (zi we)])), (qs, aI cI 10 sf), (qo, aL cL 1 of)]) hD hS hA [0, 1, 17] rfl
        refine va_calli (vx_runSW (As := [.ref h0, .int (zi sl), .int (zi many), .ref qo]) (rest := []) ⟨hx, hb, hml, hown, hts⟩ hh1 (vx_cwSW 4 hts gL_law_L_moveWork rfl rfl rfl (by decide +kernel) ⟨Nat.le_of_ble_eq_true rfl, Nat.le_of_ble_eq_true rfl⟩) ⟨zPx.blind _ _ _ _ _, fun U hU hW => ⟨rfl, by rw [hU], hE.call hS (fun q h => hA q (Nat.le_trans hS.1 (by rw [hU] at h; exact h))) hU hW, by rw [hU]; exact hPc, va_K.moved hW.alike hKc, hDc.weaken (fun _ _ _ _ => trivial)⟩⟩ rfl rfl hl.1 rfl (lv_room (Nat.le_of_ble_eq_true rfl)) dL_law_1198 ⟨by show _ ≤ 601024; omega, by show _ ≤ 7293033; omega⟩) hS (fun q _ h => hFc q h) hFc (fun r1 u t H1 locs ht hvm hw hB hz1 hk1 hS => ?_)
        obtain ⟨hP1, hK1, hD1⟩ := hB
        rw [ht] at hP1
        obtain ⟨hP, hD⟩ := va_join (wr := [(qr, .inr (0, [.int (zi mc), .ref qd, .int (zi 0)])), (qm, .inr (2, [.ref qk, .int (zi fi), .int (zi ln)])), (qk, aI cI 366 mf), (qw, .inr (1, [.ref wc, .int (zi wl)])), (wc, aI cI 20 wf), (qt, .inr (1, [.ref tc, .int (zi tl)])), (tc, aI cI 20 tf), (g0, .inr (5, [.int (zi co), .ref ps, .int (zi 0), .ref pk, .ref pa, .ref pb, .ref pq, .int (zi we), .int (zi wl), .ref pw, .int (zi tl), .ref pt])), (ps, aI cI 10 sf), (pk, aI cI 12 kf), (pa, aI cI 12 af), (pb, aI cI 12 bf), (pq, aI cI 12 zf), (pw, aI cI 12 wf), (pt, aI cI 20 tf)]) (w1 := [(h0, .inr (4, [.ref qs, .ref qr, .ref qm, .ref qw, .ref qt, .int (zi we)])), (qs, aI cI 10 sf), (qo, aL cL 1 of)]) hP hD [0, 1, 17] [2, 3, 4, 5, 6, 7, 8, 9, 10, 11, 12, 13, 14, 15, 16] rfl rfl (by decide) (by decide) hk1 hFc hP1 hD1
        generalize H1 = H at hP hS ⊢
        obtain rfl : r1 = zi 3 := hw
        have hP : va_P (dC, dI) vwCl [(qr, .inr (0, [.int (zi mc), .ref qd, .int (zi 0)])), (qm, .inr (2, [.ref qk, .int (zi fi), .int (zi ln)])), (qk, aI cI 366 mf), (qw, .inr (1, [.ref wc, .int (zi wl)])), (wc, aI cI 20 wf), (qt, .inr (1, [.ref tc, .int (zi tl)])), (tc, aI cI 20 tf), (g0, .inr (5, [.int (zi co), .ref ps, .int (zi 0), .ref pk, .ref pa, .ref pb, .ref pq, .int (zi we), .int (zi wl), .ref pw, .int (zi tl), .ref pt])), (ps, aI cI 10 sf), (pk, aI cI 12 kf), (pa, aI cI 12 af), (pb, aI cI 12 bf), (pq, aI cI 12 zf), (pw, aI cI 12 wf), (pt, aI cI 20 tf), (h0, .inr (4, [.ref qs, .ref qr, .ref qm, .ref qw, .ref qt, .int (zi we)])), (qs, aI cI 10 sf), (qo, aL cL 1 of)] H := hP
        have hD : va_D A [(qr, .inr (0, [.int (zi mc), .ref qd, .int (zi 0)])), (qm, .inr (2, [.ref qk, .int (zi fi), .int (zi ln)])), (qk, aI cI 366 mf), (qw, .inr (1, [.ref wc, .int (zi wl)])), (wc, aI cI 20 wf), (qt, .inr (1, [.ref tc, .int (zi tl)])), (tc, aI cI 20 tf), (g0, .inr (5, [.int (zi co), .ref ps, .int (zi 0), .ref pk, .ref pa, .ref pb, .ref pq, .int (zi we), .int (zi wl), .ref pw, .int (zi tl), .ref pt])), (ps, aI cI 10 sf), (pk, aI cI 12 kf), (pa, aI cI 12 af), (pb, aI cI 12 bf), (pq, aI cI 12 zf), (pw, aI cI 12 wf), (pt, aI cI 20 tf), (h0, .inr (4, [.ref qs, .ref qr, .ref qm, .ref qw, .ref qt, .int (zi we)])), (qs, aI cI 10 sf), (qo, aL cL 1 of)] := hD
        refine lv_istore (lv' := [(5, .int (zi 3)), (4, .int (zi ii)), (0, .ref b), (1, .ref h0), (2, .ref g0), (3, .ref qo)]) hx hb dL_law_1201 hl (by decide) rfl (fun ls hl => ?_)
        refine lv_aload_n hx hb dL_law_1203 rfl (lv_at hl 4 rfl) ?_
        refine lv_aload_n hx hb dL_law_1204 rfl (lv_at hl 2 rfl) ?_
        refine lv_iload hx hb dL_law_1205 (lv_at hl 1 rfl) ?_
        refine zw_iconst hx hb dL_law_1207 ?_
        refine zw_iadd hx hb dL_law_1208 ?_
        refine zw_scr hx hb hX hbl hbA hS (by omega) (by omega) ⟨by omega, by omega⟩ hv1 dL_law_1209 ?_
        refine lv_aload_n hx hb dL_law_1210 rfl (lv_at hl 2 rfl) ?_
        refine lv_iload hx hb dL_law_1211 (lv_at hl 1 rfl) ?_
        refine zw_iconst hx hb dL_law_1213 ?_
        refine zw_iadd hx hb dL_law_1214 ?_
        refine zw_scr hx hb hX hbl hbA hS (by omega) (by omega) ⟨by omega, by omega⟩ hv2 dL_law_1215 ?_
        have hh2 := c_X5_moveWork_3 l dC dI cI g0 ps pk pa pb pq pw pt co 0 we wl tl sf kf af bf zf sl many H.size (by omega) (by omega) (by omega) (by omega)
        have hPc := hP.sub (ws' := [(g0, .inr (5, [.int (zi co), .ref ps, .int (zi 0), .ref pk, .ref pa, .ref pb, .ref pq, .int (zi we), .int (zi wl), .ref pw, .int (zi tl), .ref pt])), (ps, aI cI 10 sf), (pk, aI cI 12 kf), (pa, aI cI 12 af), (pb, aI cI 12 bf), (pq, aI cI 12 zf)]) [7, 8, 9, 10, 11, 12] rfl
        have hKc : va_K (dC, dI) vwCl [(cI, .int)] s := hK.sub (tys' := [(cI, .int)]) [0] rfl
        have hDc := hD.sub (ws' := [(g0, .inr (5, [.int (zi co), .ref ps, .int (zi 0), .ref pk, .ref pa, .ref pb, .ref pq, .int (zi we), .int (zi wl), .ref pw, .int (zi tl), .ref pt])), (ps, aI cI 10 sf), (pk, aI cI 12 kf), (pa, aI cI 12 af), (pb, aI cI 12 bf), (pq, aI cI 12 zf)]) [7, 8, 9, 10, 11, 12] (by decide) rfl
        have hFc := va_free (wc := [(g0, .inr (5, [.int (zi co), .ref ps, .int (zi 0), .ref pk, .ref pa, .ref pb, .ref pq, .int (zi we), .int (zi wl), .ref pw, .int (zi tl), .ref pt])), (ps, aI cI 10 sf), (pk, aI cI 12 kf), (pa, aI cI 12 af), (pb, aI cI 12 bf), (pq, aI cI 12 zf)]) hD hS hA [7, 8, 9, 10, 11, 12] rfl
        refine va_calli (va_runV (As := [.int (zi sl), .int (zi many)]) (rest := []) ⟨hx, hb, hml, hown, hts⟩ hh2 (cwV 2 hts gL_law_X5_moveWork rfl rfl rfl (by decide +kernel) ⟨Nat.le_of_ble_eq_true rfl, Nat.le_of_ble_eq_true rfl⟩) ⟨zPw.blind _ _ _ _ _, va_recv hKc hPc (ci := 5) (q0 := 0) rfl rfl, fun U hU hW => ⟨rfl, by rw [hU], by rw [hU]; exact hPc, va_K.moved hW.alike hKc, hDc.weaken (fun _ _ _ _ => trivial)⟩⟩ rfl rfl hl.1 rfl (lv_room (Nat.le_of_ble_eq_true rfl)) dL_law_1216 ⟨by show _ ≤ 601024; omega, by show _ ≤ 7293033; omega⟩) hS (fun q _ h => hFc q h) hFc (fun r2 u t H1 locs ht hvm hw hB hz1 hk1 hS => ?_)
        obtain ⟨hP1, hK1, hD1⟩ := hB
        rw [ht] at hP1
        obtain ⟨hP, hD⟩ := va_join (wr := [(qr, .inr (0, [.int (zi mc), .ref qd, .int (zi 0)])), (qm, .inr (2, [.ref qk, .int (zi fi), .int (zi ln)])), (qk, aI cI 366 mf), (qw, .inr (1, [.ref wc, .int (zi wl)])), (wc, aI cI 20 wf), (qt, .inr (1, [.ref tc, .int (zi tl)])), (tc, aI cI 20 tf), (pw, aI cI 12 wf), (pt, aI cI 20 tf), (h0, .inr (4, [.ref qs, .ref qr, .ref qm, .ref qw, .ref qt, .int (zi we)])), (qs, aI cI 10 sf), (qo, aL cL 1 of)]) (w1 := [(g0, .inr (5, [.int (zi 3), .ref ps, .int (zi 0), .ref pk, .ref pa, .ref pb, .ref pq, .int (zi we), .int (zi wl), .ref pw, .int (zi tl), .ref pt])), (ps, aI cI 10 sf), (pk, aI cI 12 kf), (pa, aI cI 12 af), (pb, aI cI 12 bf), (pq, aI cI 12 zf)]) hP hD [7, 8, 9, 10, 11, 12] [0, 1, 2, 3, 4, 5, 6, 13, 14, 15, 16, 17] rfl rfl (by decide) (by decide) hk1 hFc hP1 hD1
        generalize H1 = H at hP hS ⊢
        obtain rfl : r2 = zi 0 := hw
        have hP : va_P (dC, dI) vwCl [(qr, .inr (0, [.int (zi mc), .ref qd, .int (zi 0)])), (qm, .inr (2, [.ref qk, .int (zi fi), .int (zi ln)])), (qk, aI cI 366 mf), (qw, .inr (1, [.ref wc, .int (zi wl)])), (wc, aI cI 20 wf), (qt, .inr (1, [.ref tc, .int (zi tl)])), (tc, aI cI 20 tf), (pw, aI cI 12 wf), (pt, aI cI 20 tf), (h0, .inr (4, [.ref qs, .ref qr, .ref qm, .ref qw, .ref qt, .int (zi we)])), (qs, aI cI 10 sf), (qo, aL cL 1 of), (g0, .inr (5, [.int (zi 3), .ref ps, .int (zi 0), .ref pk, .ref pa, .ref pb, .ref pq, .int (zi we), .int (zi wl), .ref pw, .int (zi tl), .ref pt])), (ps, aI cI 10 sf), (pk, aI cI 12 kf), (pa, aI cI 12 af), (pb, aI cI 12 bf), (pq, aI cI 12 zf)] H := hP
        have hD : va_D A [(qr, .inr (0, [.int (zi mc), .ref qd, .int (zi 0)])), (qm, .inr (2, [.ref qk, .int (zi fi), .int (zi ln)])), (qk, aI cI 366 mf), (qw, .inr (1, [.ref wc, .int (zi wl)])), (wc, aI cI 20 wf), (qt, .inr (1, [.ref tc, .int (zi tl)])), (tc, aI cI 20 tf), (pw, aI cI 12 wf), (pt, aI cI 20 tf), (h0, .inr (4, [.ref qs, .ref qr, .ref qm, .ref qw, .ref qt, .int (zi we)])), (qs, aI cI 10 sf), (qo, aL cL 1 of), (g0, .inr (5, [.int (zi 3), .ref ps, .int (zi 0), .ref pk, .ref pa, .ref pb, .ref pq, .int (zi we), .int (zi wl), .ref pw, .int (zi tl), .ref pt])), (ps, aI cI 10 sf), (pk, aI cI 12 kf), (pa, aI cI 12 af), (pb, aI cI 12 bf), (pq, aI cI 12 zf)] := hD
        refine lv_istore (lv' := [(6, .int (zi 0)), (5, .int (zi 3)), (4, .int (zi ii)), (0, .ref b), (1, .ref h0), (2, .ref g0), (3, .ref qo)]) hx hb dL_law_1219 hl (by decide) rfl (fun ls hl => ?_)
        refine lv_aload_n hx hb dL_law_1221 rfl (lv_at hl 5 rfl) ?_
        have hh3 := c_X5_thrown l dC dI cI g0 ps pk pa pb pq pw pt 3 0 we wl tl sf 
        have hPc := hP.sub (ws' := [(g0, .inr (5, [.int (zi 3), .ref ps, .int (zi 0), .ref pk, .ref pa, .ref pb, .ref pq, .int (zi we), .int (zi wl), .ref pw, .int (zi tl), .ref pt])), (ps, aI cI 10 sf)]) [12, 13] rfl
        have hKc : va_K (dC, dI) vwCl [(cI, .int)] s := hK.sub (tys' := [(cI, .int)]) [0] rfl
        refine vp_callSi (va_Run.run (va_runV (As := []) (rest := []) ⟨hx, hb, hml, hown, hts⟩ hh3 (cwV 0 hts gL_law_X5_thrown rfl rfl rfl (by decide +kernel) ⟨Nat.le_of_ble_eq_true rfl, Nat.le_of_ble_eq_true rfl⟩) ⟨zPr.blind _ _ _ _, va_recv hKc hPc (ci := 5) (q0 := 0) rfl rfl, fun U hU hW => ⟨rfl, by rw [hU]; exact hPc, va_K.moved hW.alike hKc⟩⟩ rfl rfl hl.1 rfl (lv_room (Nat.le_of_ble_eq_true rfl)) dL_law_1222 ⟨by show _ ≤ 601024; omega, by show _ ≤ 7293033; omega⟩)) (fun r3 (hr3 : r3 = zi 3) => ?_)
        subst hr3
        refine lv_iload hx hb dL_law_1225 (lv_at hl 1 rfl) ?_
        refine zw_icmp_eq (tgt := 1232) hx hb dL_law_1227 (by decide) ⟨by omega, by omega⟩ ⟨by omega, by omega⟩ (fun h4 => ?_) (fun h4 => ?_)
        · skip
          refine lv_iload hx hb dL_law_1232 (lv_at hl 1 rfl) ?_
          refine zw_if_ne (tgt := 1249) hx hb dL_law_1234 (by decide) ⟨by omega, by omega⟩ (fun h5 => ?_) (fun h5 => ?_)
          · skip
            refine lv_goto (tgt := 1499) hx hb dL_law_1249 (by decide) ?_
            have hP9 : va_P (dC, dI) vwCl [(h0, .inr (4, [.ref qs, .ref qr, .ref qm, .ref qw, .ref qt, .int (zi we)])), (qs, aI cI 10 sf), (qr, .inr (0, [.int (zi mc), .ref qd, .int (zi 0)])), (qm, .inr (2, [.ref qk, .int (zi fi), .int (zi ln)])), (qk, aI cI 366 mf), (qw, .inr (1, [.ref wc, .int (zi wl)])), (wc, aI cI 20 wf), (qt, .inr (1, [.ref tc, .int (zi tl)])), (tc, aI cI 20 tf), (g0, .inr (5, [.int (zi 3), .ref ps, .int (zi 0), .ref pk, .ref pa, .ref pb, .ref pq, .int (zi we), .int (zi wl), .ref pw, .int (zi tl), .ref pt])), (ps, aI cI 10 sf), (pk, aI cI 12 kf), (pa, aI cI 12 af), (pb, aI cI 12 bf), (pq, aI cI 12 zf), (pw, aI cI 12 wf), (pt, aI cI 20 tf), (qo, aL cL 1 of)] H := hP.sub (ws' := [(h0, .inr (4, [.ref qs, .ref qr, .ref qm, .ref qw, .ref qt, .int (zi we)])), (qs, aI cI 10 sf), (qr, .inr (0, [.int (zi mc), .ref qd, .int (zi 0)])), (qm, .inr (2, [.ref qk, .int (zi fi), .int (zi ln)])), (qk, aI cI 366 mf), (qw, .inr (1, [.ref wc, .int (zi wl)])), (wc, aI cI 20 wf), (qt, .inr (1, [.ref tc, .int (zi tl)])), (tc, aI cI 20 tf), (g0, .inr (5, [.int (zi 3), .ref ps, .int (zi 0), .ref pk, .ref pa, .ref pb, .ref pq, .int (zi we), .int (zi wl), .ref pw, .int (zi tl), .ref pt])), (ps, aI cI 10 sf), (pk, aI cI 12 kf), (pa, aI cI 12 af), (pb, aI cI 12 bf), (pq, aI cI 12 zf), (pw, aI cI 12 wf), (pt, aI cI 20 tf), (qo, aL cL 1 of)]) [9, 10, 0, 1, 2, 3, 4, 5, 6, 12, 13, 14, 15, 16, 17, 7, 8, 11] rfl
            have hD9 : va_D A [(h0, .inr (4, [.ref qs, .ref qr, .ref qm, .ref qw, .ref qt, .int (zi we)])), (qs, aI cI 10 sf), (qr, .inr (0, [.int (zi mc), .ref qd, .int (zi 0)])), (qm, .inr (2, [.ref qk, .int (zi fi), .int (zi ln)])), (qk, aI cI 366 mf), (qw, .inr (1, [.ref wc, .int (zi wl)])), (wc, aI cI 20 wf), (qt, .inr (1, [.ref tc, .int (zi tl)])), (tc, aI cI 20 tf), (g0, .inr (5, [.int (zi 3), .ref ps, .int (zi 0), .ref pk, .ref pa, .ref pb, .ref pq, .int (zi we), .int (zi wl), .ref pw, .int (zi tl), .ref pt])), (ps, aI cI 10 sf), (pk, aI cI 12 kf), (pa, aI cI 12 af), (pb, aI cI 12 bf), (pq, aI cI 12 zf), (pw, aI cI 12 wf), (pt, aI cI 20 tf), (qo, aL cL 1 of)] := hD.sub (ws' := [(h0, .inr (4, [.ref qs, .ref qr, .ref qm, .ref qw, .ref qt, .int (zi we)])), (qs, aI cI 10 sf), (qr, .inr (0, [.int (zi mc), .ref qd, .int (zi 0)])), (qm, .inr (2, [.ref qk, .int (zi fi), .int (zi ln)])), (qk, aI cI 366 mf), (qw, .inr (1, [.ref wc, .int (zi wl)])), (wc, aI cI 20 wf), (qt, .inr (1, [.ref tc, .int (zi tl)])), (tc, aI cI 20 tf), (g0, .inr (5, [.int (zi 3), .ref ps, .int (zi 0), .ref pk, .ref pa, .ref pb, .ref pq, .int (zi we), .int (zi wl), .ref pw, .int (zi tl), .ref pt])), (ps, aI cI 10 sf), (pk, aI cI 12 kf), (pa, aI cI 12 af), (pb, aI cI 12 bf), (pq, aI cI 12 zf), (pw, aI cI 12 wf), (pt, aI cI 20 tf), (qo, aL cL 1 of)]) [9, 10, 0, 1, 2, 3, 4, 5, 6, 12, 13, 14, 15, 16, 17, 7, 8, 11] (by decide) rfl
            have hI9 : LI sf kf af bf zf wf tf 0 we fi ln wl tl := hI
            refine W.widen (k := ce + 2) (n := sn + 19) (by omega) (by omega) ?_
            exact K0 mc we fi ln mf sf kf af bf zf wl wf tl tf 3 of H locs ls ⟨hP9, hD9, hS, hI9⟩ (lv_sub hl [2, 3, 4, 5, 6] rfl)
          · skip
            exact absurd True.intro (by omega)
        · skip
          exact absurd True.intro (by omega)
  · skip
    refine lv_aload_n hx hb dL_law_1184 rfl (lv_at hl 2 rfl) ?_
    refine lv_aload_n hx hb dL_law_1185 rfl (lv_at hl 1 rfl) ?_
    refine lv_iload hx hb dL_law_1186 (lv_at hl 0 rfl) ?_
    refine zw_iconst hx hb dL_law_1188 ?_
    refine zw_iadd hx hb dL_law_1189 ?_
    refine zw_scr hx hb hX hbl hbA hS (by omega) (by omega) ⟨by omega, by omega⟩ hv1 dL_law_1190 ?_
    refine lv_aload_n hx hb dL_law_1191 rfl (lv_at hl 1 rfl) ?_
    refine lv_iload hx hb dL_law_1192 (lv_at hl 0 rfl) ?_
    refine zw_iconst hx hb dL_law_1194 ?_
    refine zw_iadd hx hb dL_law_1195 ?_
    refine zw_scr hx hb hX hbl hbA hS (by omega) (by omega) ⟨by omega, by omega⟩ hv2 dL_law_1196 ?_
    refine lv_aload_n hx hb dL_law_1197 rfl (lv_at hl 4 rfl) ?_
    have hh1 := c_L_moveWork_1 l hst dC dI cI cL cO h0 qs qr qm qw qt we qo of sl many H.size (by omega) (by omega)
    have hPc := hP.sub (ws' := [(h0, .inr (4, [.ref qs, .ref qr, .ref qm, .ref qw, .ref qt, .int (zi we)])), (qo, aL cL 1 of)]) [0, 17] rfl
    have hKc : va_K (dC, dI) vwCl [(cI, .int), (cL, .long), (cO, .object "java/lang/Object")] s := hK
    have hDc := hD.sub (ws' := [(h0, .inr (4, [.ref qs, .ref qr, .ref qm, .ref qw, .ref qt, .int (zi we)])), (qo, aL cL 1 of)]) [0, 17] (by decide) rfl
    have hFc := va_free (wc := [(h0, .inr (4, [.ref qs, .ref qr, .ref qm, .ref qw, .ref qt, .int (zi we)])), (qo, aL cL 1 of)]) hD hS hA [0, 17] rfl
    refine va_calli (vx_runSW (As := [.ref h0, .int (zi sl), .int (zi many), .ref qo]) (rest := []) ⟨hx, hb, hml, hown, hts⟩ hh1 (vx_cwSW 4 hts gL_law_L_moveWork rfl rfl rfl (by decide +kernel) ⟨Nat.le_of_ble_eq_true rfl, Nat.le_of_ble_eq_true rfl⟩) ⟨zPx.blind _ _ _ _ _, fun U hU hW => ⟨rfl, by rw [hU], hE.call hS (fun q h => hA q (Nat.le_trans hS.1 (by rw [hU] at h; exact h))) hU hW, by rw [hU]; exact hPc, va_K.moved hW.alike hKc, hDc.weaken (fun _ _ _ _ => trivial)⟩⟩ rfl rfl hl.1 rfl (lv_room (Nat.le_of_ble_eq_true rfl)) dL_law_1198 ⟨by show _ ≤ 601024; omega, by show _ ≤ 7293033; omega⟩) hS (fun q _ h => hFc q h) hFc (fun r1 u t H1 locs ht hvm hw hB hz1 hk1 hS => ?_)
    obtain ⟨hP1, hK1, hD1⟩ := hB
    rw [ht] at hP1
    obtain ⟨hP, hD⟩ := va_join (wr := [(qs, aI cI 10 sf), (qr, .inr (0, [.int (zi mc), .ref qd, .int (zi 0)])), (qm, .inr (2, [.ref qk, .int (zi fi), .int (zi ln)])), (qk, aI cI 366 mf), (qw, .inr (1, [.ref wc, .int (zi wl)])), (wc, aI cI 20 wf), (qt, .inr (1, [.ref tc, .int (zi tl)])), (tc, aI cI 20 tf), (g0, .inr (5, [.int (zi co), .ref ps, .int (zi 0), .ref pk, .ref pa, .ref pb, .ref pq, .int (zi we), .int (zi wl), .ref pw, .int (zi tl), .ref pt])), (ps, aI cI 10 sf), (pk, aI cI 12 kf), (pa, aI cI 12 af), (pb, aI cI 12 bf), (pq, aI cI 12 zf), (pw, aI cI 12 wf), (pt, aI cI 20 tf)]) (w1 := [(h0, .inr (4, [.ref qs, .ref qr, .ref qm, .ref qw, .ref qt, .int (zi we)])), (qo, aL cL 1 of)]) hP hD [0, 17] [1, 2, 3, 4, 5, 6, 7, 8, 9, 10, 11, 12, 13, 14, 15, 16] rfl rfl (by decide) (by decide) hk1 hFc hP1 hD1
    generalize H1 = H at hP hS ⊢
    obtain rfl : r1 = zi 1 := hw
    have hP : va_P (dC, dI) vwCl [(qs, aI cI 10 sf), (qr, .inr (0, [.int (zi mc), .ref qd, .int (zi 0)])), (qm, .inr (2, [.ref qk, .int (zi fi), .int (zi ln)])), (qk, aI cI 366 mf), (qw, .inr (1, [.ref wc, .int (zi wl)])), (wc, aI cI 20 wf), (qt, .inr (1, [.ref tc, .int (zi tl)])), (tc, aI cI 20 tf), (g0, .inr (5, [.int (zi co), .ref ps, .int (zi 0), .ref pk, .ref pa, .ref pb, .ref pq, .int (zi we), .int (zi wl), .ref pw, .int (zi tl), .ref pt])), (ps, aI cI 10 sf), (pk, aI cI 12 kf), (pa, aI cI 12 af), (pb, aI cI 12 bf), (pq, aI cI 12 zf), (pw, aI cI 12 wf), (pt, aI cI 20 tf), (h0, .inr (4, [.ref qs, .ref qr, .ref qm, .ref qw, .ref qt, .int (zi we)])), (qo, aL cL 1 of)] H := hP
    have hD : va_D A [(qs, aI cI 10 sf), (qr, .inr (0, [.int (zi mc), .ref qd, .int (zi 0)])), (qm, .inr (2, [.ref qk, .int (zi fi), .int (zi ln)])), (qk, aI cI 366 mf), (qw, .inr (1, [.ref wc, .int (zi wl)])), (wc, aI cI 20 wf), (qt, .inr (1, [.ref tc, .int (zi tl)])), (tc, aI cI 20 tf), (g0, .inr (5, [.int (zi co), .ref ps, .int (zi 0), .ref pk, .ref pa, .ref pb, .ref pq, .int (zi we), .int (zi wl), .ref pw, .int (zi tl), .ref pt])), (ps, aI cI 10 sf), (pk, aI cI 12 kf), (pa, aI cI 12 af), (pb, aI cI 12 bf), (pq, aI cI 12 zf), (pw, aI cI 12 wf), (pt, aI cI 20 tf), (h0, .inr (4, [.ref qs, .ref qr, .ref qm, .ref qw, .ref qt, .int (zi we)])), (qo, aL cL 1 of)] := hD
    refine lv_istore (lv' := [(5, .int (zi 1)), (4, .int (zi ii)), (0, .ref b), (1, .ref h0), (2, .ref g0), (3, .ref qo)]) hx hb dL_law_1201 hl (by decide) rfl (fun ls hl => ?_)
    refine lv_aload_n hx hb dL_law_1203 rfl (lv_at hl 4 rfl) ?_
    refine lv_aload_n hx hb dL_law_1204 rfl (lv_at hl 2 rfl) ?_
    refine lv_iload hx hb dL_law_1205 (lv_at hl 1 rfl) ?_
    refine zw_iconst hx hb dL_law_1207 ?_
    refine zw_iadd hx hb dL_law_1208 ?_
    refine zw_scr hx hb hX hbl hbA hS (by omega) (by omega) ⟨by omega, by omega⟩ hv1 dL_law_1209 ?_
    refine lv_aload_n hx hb dL_law_1210 rfl (lv_at hl 2 rfl) ?_
    refine lv_iload hx hb dL_law_1211 (lv_at hl 1 rfl) ?_
    refine zw_iconst hx hb dL_law_1213 ?_
    refine zw_iadd hx hb dL_law_1214 ?_
    refine zw_scr hx hb hX hbl hbA hS (by omega) (by omega) ⟨by omega, by omega⟩ hv2 dL_law_1215 ?_
    have hh2 := c_X5_moveWork_1 l dC dI cI g0 ps pk pa pb pq pw pt co 0 we wl tl sf kf af bf zf sl many H.size (by omega) (by omega)
    have hPc := hP.sub (ws' := [(g0, .inr (5, [.int (zi co), .ref ps, .int (zi 0), .ref pk, .ref pa, .ref pb, .ref pq, .int (zi we), .int (zi wl), .ref pw, .int (zi tl), .ref pt])), (ps, aI cI 10 sf), (pk, aI cI 12 kf), (pa, aI cI 12 af), (pb, aI cI 12 bf), (pq, aI cI 12 zf)]) [8, 9, 10, 11, 12, 13] rfl
    have hKc : va_K (dC, dI) vwCl [(cI, .int)] s := hK.sub (tys' := [(cI, .int)]) [0] rfl
    have hDc := hD.sub (ws' := [(g0, .inr (5, [.int (zi co), .ref ps, .int (zi 0), .ref pk, .ref pa, .ref pb, .ref pq, .int (zi we), .int (zi wl), .ref pw, .int (zi tl), .ref pt])), (ps, aI cI 10 sf), (pk, aI cI 12 kf), (pa, aI cI 12 af), (pb, aI cI 12 bf), (pq, aI cI 12 zf)]) [8, 9, 10, 11, 12, 13] (by decide) rfl
    have hFc := va_free (wc := [(g0, .inr (5, [.int (zi co), .ref ps, .int (zi 0), .ref pk, .ref pa, .ref pb, .ref pq, .int (zi we), .int (zi wl), .ref pw, .int (zi tl), .ref pt])), (ps, aI cI 10 sf), (pk, aI cI 12 kf), (pa, aI cI 12 af), (pb, aI cI 12 bf), (pq, aI cI 12 zf)]) hD hS hA [8, 9, 10, 11, 12, 13] rfl
    refine va_calli (va_runV (As := [.int (zi sl), .int (zi many)]) (rest := []) ⟨hx, hb, hml, hown, hts⟩ hh2 (cwV 2 hts gL_law_X5_moveWork rfl rfl rfl (by decide +kernel) ⟨Nat.le_of_ble_eq_true rfl, Nat.le_of_ble_eq_true rfl⟩) ⟨zPw.blind _ _ _ _ _, va_recv hKc hPc (ci := 5) (q0 := 0) rfl rfl, fun U hU hW => ⟨rfl, by rw [hU], by rw [hU]; exact hPc, va_K.moved hW.alike hKc, hDc.weaken (fun _ _ _ _ => trivial)⟩⟩ rfl rfl hl.1 rfl (lv_room (Nat.le_of_ble_eq_true rfl)) dL_law_1216 ⟨by show _ ≤ 601024; omega, by show _ ≤ 7293033; omega⟩) hS (fun q _ h => hFc q h) hFc (fun r2 u t H1 locs ht hvm hw hB hz1 hk1 hS => ?_)
    obtain ⟨hP1, hK1, hD1⟩ := hB
    rw [ht] at hP1
    obtain ⟨hP, hD⟩ := va_join (wr := [(qs, aI cI 10 sf), (qr, .inr (0, [.int (zi mc), .ref qd, .int (zi 0)])), (qm, .inr (2, [.ref qk, .int (zi fi), .int (zi ln)])), (qk, aI cI 366 mf), (qw, .inr (1, [.ref wc, .int (zi wl)])), (wc, aI cI 20 wf), (qt, .inr (1, [.ref tc, .int (zi tl)])), (tc, aI cI 20 tf), (pw, aI cI 12 wf), (pt, aI cI 20 tf), (h0, .inr (4, [.ref qs, .ref qr, .ref qm, .ref qw, .ref qt, .int (zi we)])), (qo, aL cL 1 of)]) (w1 := [(g0, .inr (5, [.int (zi 1), .ref ps, .int (zi 0), .ref pk, .ref pa, .ref pb, .ref pq, .int (zi we), .int (zi wl), .ref pw, .int (zi tl), .ref pt])), (ps, aI cI 10 sf), (pk, aI cI 12 kf), (pa, aI cI 12 af), (pb, aI cI 12 bf), (pq, aI cI 12 zf)]) hP hD [8, 9, 10, 11, 12, 13] [0, 1, 2, 3, 4, 5, 6, 7, 14, 15, 16, 17] rfl rfl (by decide) (by decide) hk1 hFc hP1 hD1
    generalize H1 = H at hP hS ⊢
    obtain rfl : r2 = zi 0 := hw
    have hP : va_P (dC, dI) vwCl [(qs, aI cI 10 sf), (qr, .inr (0, [.int (zi mc), .ref qd, .int (zi 0)])), (qm, .inr (2, [.ref qk, .int (zi fi), .int (zi ln)])), (qk, aI cI 366 mf), (qw, .inr (1, [.ref wc, .int (zi wl)])), (wc, aI cI 20 wf), (qt, .inr (1, [.ref tc, .int (zi tl)])), (tc, aI cI 20 tf), (pw, aI cI 12 wf), (pt, aI cI 20 tf), (h0, .inr (4, [.ref qs, .ref qr, .ref qm, .ref qw, .ref qt, .int (zi we)])), (qo, aL cL 1 of), (g0, .inr (5, [.int (zi 1), .ref ps, .int (zi 0), .ref pk, .ref pa, .ref pb, .ref pq, .int (zi we), .int (zi wl), .ref pw, .int (zi tl), .ref pt])), (ps, aI cI 10 sf), (pk, aI cI 12 kf), (pa, aI cI 12 af), (pb, aI cI 12 bf), (pq, aI cI 12 zf)] H := hP
    have hD : va_D A [(qs, aI cI 10 sf), (qr, .inr (0, [.int (zi mc), .ref qd, .int (zi 0)])), (qm, .inr (2, [.ref qk, .int (zi fi), .int (zi ln)])), (qk, aI cI 366 mf), (qw, .inr (1, [.ref wc, .int (zi wl)])), (wc, aI cI 20 wf), (qt, .inr (1, [.ref tc, .int (zi tl)])), (tc, aI cI 20 tf), (pw, aI cI 12 wf), (pt, aI cI 20 tf), (h0, .inr (4, [.ref qs, .ref qr, .ref qm, .ref qw, .ref qt, .int (zi we)])), (qo, aL cL 1 of), (g0, .inr (5, [.int (zi 1), .ref ps, .int (zi 0), .ref pk, .ref pa, .ref pb, .ref pq, .int (zi we), .int (zi wl), .ref pw, .int (zi tl), .ref pt])), (ps, aI cI 10 sf), (pk, aI cI 12 kf), (pa, aI cI 12 af), (pb, aI cI 12 bf), (pq, aI cI 12 zf)] := hD
    refine lv_istore (lv' := [(6, .int (zi 0)), (5, .int (zi 1)), (4, .int (zi ii)), (0, .ref b), (1, .ref h0), (2, .ref g0), (3, .ref qo)]) hx hb dL_law_1219 hl (by decide) rfl (fun ls hl => ?_)
    refine lv_aload_n hx hb dL_law_1221 rfl (lv_at hl 5 rfl) ?_
    have hh3 := c_X5_thrown l dC dI cI g0 ps pk pa pb pq pw pt 1 0 we wl tl sf 
    have hPc := hP.sub (ws' := [(g0, .inr (5, [.int (zi 1), .ref ps, .int (zi 0), .ref pk, .ref pa, .ref pb, .ref pq, .int (zi we), .int (zi wl), .ref pw, .int (zi tl), .ref pt])), (ps, aI cI 10 sf)]) [12, 13] rfl
    have hKc : va_K (dC, dI) vwCl [(cI, .int)] s := hK.sub (tys' := [(cI, .int)]) [0] rfl
    refine vp_callSi (va_Run.run (va_runV (As := []) (rest := []) ⟨hx, hb, hml, hown, hts⟩ hh3 (cwV 0 hts gL_law_X5_thrown rfl rfl rfl (by decide +kernel) ⟨Nat.le_of_ble_eq_true rfl, Nat.le_of_ble_eq_true rfl⟩) ⟨zPr.blind _ _ _ _, va_recv hKc hPc (ci := 5) (q0 := 0) rfl rfl, fun U hU hW => ⟨rfl, by rw [hU]; exact hPc, va_K.moved hW.alike hKc⟩⟩ rfl rfl hl.1 rfl (lv_room (Nat.le_of_ble_eq_true rfl)) dL_law_1222 ⟨by show _ ≤ 601024; omega, by show _ ≤ 7293033; omega⟩)) (fun r3 (hr3 : r3 = zi 1) => ?_)
    subst hr3
    refine lv_iload hx hb dL_law_1225 (lv_at hl 1 rfl) ?_
    refine zw_icmp_eq (tgt := 1232) hx hb dL_law_1227 (by decide) ⟨by omega, by omega⟩ ⟨by omega, by omega⟩ (fun h4 => ?_) (fun h4 => ?_)
    · skip
      refine lv_iload hx hb dL_law_1232 (lv_at hl 1 rfl) ?_
      refine zw_if_ne (tgt := 1249) hx hb dL_law_1234 (by decide) ⟨by omega, by omega⟩ (fun h5 => ?_) (fun h5 => ?_)
      · skip
        refine lv_goto (tgt := 1499) hx hb dL_law_1249 (by decide) ?_
        have hP9 : va_P (dC, dI) vwCl [(h0, .inr (4, [.ref qs, .ref qr, .ref qm, .ref qw, .ref qt, .int (zi we)])), (qs, aI cI 10 sf), (qr, .inr (0, [.int (zi mc), .ref qd, .int (zi 0)])), (qm, .inr (2, [.ref qk, .int (zi fi), .int (zi ln)])), (qk, aI cI 366 mf), (qw, .inr (1, [.ref wc, .int (zi wl)])), (wc, aI cI 20 wf), (qt, .inr (1, [.ref tc, .int (zi tl)])), (tc, aI cI 20 tf), (g0, .inr (5, [.int (zi 1), .ref ps, .int (zi 0), .ref pk, .ref pa, .ref pb, .ref pq, .int (zi we), .int (zi wl), .ref pw, .int (zi tl), .ref pt])), (ps, aI cI 10 sf), (pk, aI cI 12 kf), (pa, aI cI 12 af), (pb, aI cI 12 bf), (pq, aI cI 12 zf), (pw, aI cI 12 wf), (pt, aI cI 20 tf), (qo, aL cL 1 of)] H := hP.sub (ws' := [(h0, .inr (4, [.ref qs, .ref qr, .ref qm, .ref qw, .ref qt, .int (zi we)])), (qs, aI cI 10 sf), (qr, .inr (0, [.int (zi mc), .ref qd, .int (zi 0)])), (qm, .inr (2, [.ref qk, .int (zi fi), .int (zi ln)])), (qk, aI cI 366 mf), (qw, .inr (1, [.ref wc, .int (zi wl)])), (wc, aI cI 20 wf), (qt, .inr (1, [.ref tc, .int (zi tl)])), (tc, aI cI 20 tf), (g0, .inr (5, [.int (zi 1), .ref ps, .int (zi 0), .ref pk, .ref pa, .ref pb, .ref pq, .int (zi we), .int (zi wl), .ref pw, .int (zi tl), .ref pt])), (ps, aI cI 10 sf), (pk, aI cI 12 kf), (pa, aI cI 12 af), (pb, aI cI 12 bf), (pq, aI cI 12 zf), (pw, aI cI 12 wf), (pt, aI cI 20 tf), (qo, aL cL 1 of)]) [10, 0, 1, 2, 3, 4, 5, 6, 7, 12, 13, 14, 15, 16, 17, 8, 9, 11] rfl
        have hD9 : va_D A [(h0, .inr (4, [.ref qs, .ref qr, .ref qm, .ref qw, .ref qt, .int (zi we)])), (qs, aI cI 10 sf), (qr, .inr (0, [.int (zi mc), .ref qd, .int (zi 0)])), (qm, .inr (2, [.ref qk, .int (zi fi), .int (zi ln)])), (qk, aI cI 366 mf), (qw, .inr (1, [.ref wc, .int (zi wl)])), (wc, aI cI 20 wf), (qt, .inr (1, [.ref tc, .int (zi tl)])), (tc, aI cI 20 tf), (g0, .inr (5, [.int (zi 1), .ref ps, .int (zi 0), .ref pk, .ref pa, .ref pb, .ref pq, .int (zi we), .int (zi wl), .ref pw, .int (zi tl), .ref pt])), (ps, aI cI 10 sf), (pk, aI cI 12 kf), (pa, aI cI 12 af), (pb, aI cI 12 bf), (pq, aI cI 12 zf), (pw, aI cI 12 wf), (pt, aI cI 20 tf), (qo, aL cL 1 of)] := hD.sub (ws' := [(h0, .inr (4, [.ref qs, .ref qr, .ref qm, .ref qw, .ref qt, .int (zi we)])), (qs, aI cI 10 sf), (qr, .inr (0, [.int (zi mc), .ref qd, .int (zi 0)])), (qm, .inr (2, [.ref qk, .int (zi fi), .int (zi ln)])), (qk, aI cI 366 mf), (qw, .inr (1, [.ref wc, .int (zi wl)])), (wc, aI cI 20 wf), (qt, .inr (1, [.ref tc, .int (zi tl)])), (tc, aI cI 20 tf), (g0, .inr (5, [.int (zi 1), .ref ps, .int (zi 0), .ref pk, .ref pa, .ref pb, .ref pq, .int (zi we), .int (zi wl), .ref pw, .int (zi tl), .ref pt])), (ps, aI cI 10 sf), (pk, aI cI 12 kf), (pa, aI cI 12 af), (pb, aI cI 12 bf), (pq, aI cI 12 zf), (pw, aI cI 12 wf), (pt, aI cI 20 tf), (qo, aL cL 1 of)]) [10, 0, 1, 2, 3, 4, 5, 6, 7, 12, 13, 14, 15, 16, 17, 8, 9, 11] (by decide) rfl
        have hI9 : LI sf kf af bf zf wf tf 0 we fi ln wl tl := hI
        refine W.widen (k := ce + 2) (n := sn + 19) (by omega) (by omega) ?_
        exact K0 mc we fi ln mf sf kf af bf zf wl wf tl tf 1 of H locs ls ⟨hP9, hD9, hS, hI9⟩ (lv_sub hl [2, 3, 4, 5, 6] rfl)
      · skip
        exact absurd True.intro (by omega)
    · skip
      exact absurd True.intro (by omega)
