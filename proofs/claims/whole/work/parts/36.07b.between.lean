/-! THE LAW'S CASE between -/
set_option maxHeartbeats 4000000 in
set_option maxRecDepth 100000 in
theorem law0_between {p : Program} {l : Launch} {e : Env} {s : State} {m : MethodId} {below : List Frame} {meth : Method} {c : Code} {b : Nat} {L : Nat} {xs : Nat → Int32} {dC : Nat → ClassId} {dI : Nat → Nat → Nat} {cI : ClassId} {cL : ClassId} {cO : ClassId} {qd : Nat} {mi : Nat} {x0 : Nat} {v0 : Nat} {x1 : Nat} {v1 : Nat} {x2 : Nat} {v2 : Nat} {qy : Option Nat} {A : Nat → Prop} {h0 qs qr qm qw qt qk wc tc g0 ps pk pa pb pq pw pt qo : Nat} {mc : Int} {we : Int} {fi : Int} {ln : Int} {mf : Nat → Int} {sf : Nat → Int} {kf : Nat → Int} {af : Nat → Int} {bf : Nat → Int} {zf : Nat → Int} {wl : Int} {wf : Nat → Int} {tl : Int} {tf : Nat → Int} {co : Int} {of : Nat → Int} {ii : Int} {ce sn : Nat} {H : Heap} {locs : List Loc} {ls : Array Slot} (C : LC p l e s m below meth c b L xs dC dI cI cL cO qd mi x0 v0 x1 v1 x2 v2 qy A) (hLS : LS0 s dC dI cI cL cO qd A h0 qs qr qm qw qt qk wc tc g0 ps pk pa pb pq pw pt qo mc we fi ln mf sf kf af bf zf wl wf tl tf co of H locs) (K1 : LK1 p l e s m below meth c b L xs dC dI cI cL cO qd mi x0 v0 x1 v1 x2 v2 qy A h0 qs qr qm qw qt qk wc tc g0 ps pk pa pb pq pw pt qo ii ce sn) (K0 : LK0 p l e s m below meth c b L xs dC dI cI cL cO qd mi x0 v0 x1 v1 x2 v2 qy A h0 qs qr qm qw qt qk wc tc g0 ps pk pa pb pq pw pt qo ii ce sn) (hii : 0 ≤ ii ∧ ii + 6 ≤ (L : Int)) (hce : ce ≤ 601000) (hsn : sn ≤ 7293000) (hl : lv_has ls 7 [(4, .int (zi ii)), (0, .ref b), (1, .ref h0), (2, .ref g0), (3, .ref qo)]) : W p l e room_1 s m #[Value.ref b] below meth c H locs ce sn (lw_Z below #[Value.ref b] s) (F0 m 708 ls []) := by
  obtain ⟨hx, hb, hml, hown, hts, hst, hK, hE, hO, h3, hX, hbl, hbA, hA, hL⟩ := C
  obtain ⟨hP, hD, hS, hI⟩ := hLS
  have rf : Nat → Nat := fun _ => 0
  obtain ⟨sl, hv1⟩ : ∃ z : Int, z = (xs (ii + 1).toNat).toInt := ⟨_, rfl⟩
  have hb1 : -2147483648 ≤ sl ∧ sl ≤ 2147483647 := by rw [hv1]; exact scr_b _
  obtain ⟨ot, hv2⟩ : ∃ z : Int, z = (xs (ii + 2).toNat).toInt := ⟨_, rfl⟩
  have hb2 : -2147483648 ≤ ot ∧ ot ≤ 2147483647 := by rw [hv2]; exact scr_b _
  obtain ⟨un, hv3⟩ : ∃ z : Int, z = (xs (ii + 3).toNat).toInt := ⟨_, rfl⟩
  have hb3 : -2147483648 ≤ un ∧ un ≤ 2147483647 := by rw [hv3]; exact scr_b _
  have hI1 := hI.rub
  have hI2 := hI.web
  have hI3 := hI.mkb
  have hI4 := hI.wlb
  have hI5 := hI.tlb
  by_cases h1 : 0 ≤ sl ∧ sl ≤ 9
  · skip
    by_cases h2 : 0 ≤ ot ∧ ot ≤ 9
    · skip
      by_cases h3 : 0 ≤ un ∧ un ≤ 2
      · skip
        have hsb := hI.sfb sl.toNat
        have hso := hI.sfb ot.toNat
        by_cases h4 : sf sl.toNat = -1
        · skip
          refine lv_aload_n hx hb dL_law_708 rfl (lv_at hl 2 rfl) ?_
          refine lv_aload_n hx hb dL_law_709 rfl (lv_at hl 1 rfl) ?_
          refine lv_iload hx hb dL_law_710 (lv_at hl 0 rfl) ?_
          refine zw_iconst hx hb dL_law_712 ?_
          refine zw_iadd hx hb dL_law_713 ?_
          refine zw_scr hx hb hX hbl hbA hS (by omega) (by omega) ⟨by omega, by omega⟩ hv1 dL_law_714 ?_
          refine lv_aload_n hx hb dL_law_715 rfl (lv_at hl 1 rfl) ?_
          refine lv_iload hx hb dL_law_716 (lv_at hl 0 rfl) ?_
          refine zw_iconst hx hb dL_law_718 ?_
          refine zw_iadd hx hb dL_law_719 ?_
          refine zw_scr hx hb hX hbl hbA hS (by omega) (by omega) ⟨by omega, by omega⟩ hv2 dL_law_720 ?_
          refine lv_aload_n hx hb dL_law_721 rfl (lv_at hl 1 rfl) ?_
          refine lv_iload hx hb dL_law_722 (lv_at hl 0 rfl) ?_
          refine zw_iconst hx hb dL_law_724 ?_
          refine zw_iadd hx hb dL_law_725 ?_
          refine zw_scr hx hb hX hbl hbA hS (by omega) (by omega) ⟨by omega, by omega⟩ hv3 dL_law_726 ?_
          refine lv_aload_n hx hb dL_law_727 rfl (lv_at hl 4 rfl) ?_
          have hh1 := c_L_between_3 l hst dC dI cI cL h0 qs qr qm qw qt we sf qo of sl ot un H.size (by omega) (by omega) (by omega) (by omega)
          have hPc := hP.sub (ws' := [(h0, .inr (4, [.ref qs, .ref qr, .ref qm, .ref qw, .ref qt, .int (zi we)])), (qs, aI cI 10 sf), (qo, aL cL 1 of)]) [0, 1, 17] rfl
          have hKc : va_K (dC, dI) vwCl [(cI, .int), (cL, .long)] s := hK.sub (tys' := [(cI, .int), (cL, .long)]) [0, 1] rfl
          have hDc := hD.sub (ws' := [(h0, .inr (4, [.ref qs, .ref qr, .ref qm, .ref qw, .ref qt, .int (zi we)])), (qs, aI cI 10 sf), (qo, aL cL 1 of)]) [0, 1, 17] (by decide) rfl
          have hFc := va_free (wc := [(h0, .inr (4, [.ref qs, .ref qr, .ref qm, .ref qw, .ref qt, .int (zi we)])), (qs, aI cI 10 sf), (qo, aL cL 1 of)]) hD hS hA [0, 1, 17] rfl
          refine va_calli (vx_runSW (As := [.ref h0, .int (zi sl), .int (zi ot), .int (zi un), .ref qo]) (rest := []) ⟨hx, hb, hml, hown, hts⟩ hh1 (vx_cwSW 5 hts gL_law_L_between rfl rfl rfl (by decide +kernel) ⟨Nat.le_of_ble_eq_true rfl, Nat.le_of_ble_eq_true rfl⟩) ⟨zPx.blind _ _ _ _ _, fun U hU hW => ⟨rfl, by rw [hU], hE.call hS (fun q h => hA q (Nat.le_trans hS.1 (by rw [hU] at h; exact h))) hU hW, by rw [hU]; exact hPc, va_K.moved hW.alike hKc, hDc.weaken (fun _ _ _ _ => trivial)⟩⟩ rfl rfl hl.1 rfl (lv_room (Nat.le_of_ble_eq_true rfl)) dL_law_728 ⟨by show _ ≤ 601024; omega, by show _ ≤ 7293033; omega⟩) hS (fun q _ h => hFc q h) hFc (fun r1 u t H1 locs ht hvm hw hB hz1 hk1 hS => ?_)
          obtain ⟨hP1, hK1, hD1⟩ := hB
          rw [ht] at hP1
          obtain ⟨hP, hD⟩ := va_join (wr := [(qr, .inr (0, [.int (zi mc), .ref qd, .int (zi 0)])), (qm, .inr (2, [.ref qk, .int (zi fi), .int (zi ln)])), (qk, aI cI 366 mf), (qw, .inr (1, [.ref wc, .int (zi wl)])), (wc, aI cI 20 wf), (qt, .inr (1, [.ref tc, .int (zi tl)])), (tc, aI cI 20 tf), (g0, .inr (5, [.int (zi co), .ref ps, .int (zi 0), .ref pk, .ref pa, .ref pb, .ref pq, .int (zi we), .int (zi wl), .ref pw, .int (zi tl), .ref pt])), (ps, aI cI 10 sf), (pk, aI cI 12 kf), (pa, aI cI 12 af), (pb, aI cI 12 bf), (pq, aI cI 12 zf), (pw, aI cI 12 wf), (pt, aI cI 20 tf)]) (w1 := [(h0, .inr (4, [.ref qs, .ref qr, .ref qm, .ref qw, .ref qt, .int (zi we)])), (qs, aI cI 10 sf), (qo, aL cL 1 of)]) hP hD [0, 1, 17] [2, 3, 4, 5, 6, 7, 8, 9, 10, 11, 12, 13, 14, 15, 16] rfl rfl (by decide) (by decide) hk1 hFc hP1 hD1
          generalize H1 = H at hP hS ⊢
          obtain rfl : r1 = zi 3 := hw
          have hP : va_P (dC, dI) vwCl [(qr, .inr (0, [.int (zi mc), .ref qd, .int (zi 0)])), (qm, .inr (2, [.ref qk, .int (zi fi), .int (zi ln)])), (qk, aI cI 366 mf), (qw, .inr (1, [.ref wc, .int (zi wl)])), (wc, aI cI 20 wf), (qt, .inr (1, [.ref tc, .int (zi tl)])), (tc, aI cI 20 tf), (g0, .inr (5, [.int (zi co), .ref ps, .int (zi 0), .ref pk, .ref pa, .ref pb, .ref pq, .int (zi we), .int (zi wl), .ref pw, .int (zi tl), .ref pt])), (ps, aI cI 10 sf), (pk, aI cI 12 kf), (pa, aI cI 12 af), (pb, aI cI 12 bf), (pq, aI cI 12 zf), (pw, aI cI 12 wf), (pt, aI cI 20 tf), (h0, .inr (4, [.ref qs, .ref qr, .ref qm, .ref qw, .ref qt, .int (zi we)])), (qs, aI cI 10 sf), (qo, aL cL 1 of)] H := hP
          have hD : va_D A [(qr, .inr (0, [.int (zi mc), .ref qd, .int (zi 0)])), (qm, .inr (2, [.ref qk, .int (zi fi), .int (zi ln)])), (qk, aI cI 366 mf), (qw, .inr (1, [.ref wc, .int (zi wl)])), (wc, aI cI 20 wf), (qt, .inr (1, [.ref tc, .int (zi tl)])), (tc, aI cI 20 tf), (g0, .inr (5, [.int (zi co), .ref ps, .int (zi 0), .ref pk, .ref pa, .ref pb, .ref pq, .int (zi we), .int (zi wl), .ref pw, .int (zi tl), .ref pt])), (ps, aI cI 10 sf), (pk, aI cI 12 kf), (pa, aI cI 12 af), (pb, aI cI 12 bf), (pq, aI cI 12 zf), (pw, aI cI 12 wf), (pt, aI cI 20 tf), (h0, .inr (4, [.ref qs, .ref qr, .ref qm, .ref qw, .ref qt, .int (zi we)])), (qs, aI cI 10 sf), (qo, aL cL 1 of)] := hD
          refine lv_istore (lv' := [(5, .int (zi 3)), (4, .int (zi ii)), (0, .ref b), (1, .ref h0), (2, .ref g0), (3, .ref qo)]) hx hb dL_law_731 hl (by decide) rfl (fun ls hl => ?_)
          refine lv_aload_n hx hb dL_law_733 rfl (lv_at hl 4 rfl) ?_
          refine lv_aload_n hx hb dL_law_734 rfl (lv_at hl 2 rfl) ?_
          refine lv_iload hx hb dL_law_735 (lv_at hl 1 rfl) ?_
          refine zw_iconst hx hb dL_law_737 ?_
          refine zw_iadd hx hb dL_law_738 ?_
          refine zw_scr hx hb hX hbl hbA hS (by omega) (by omega) ⟨by omega, by omega⟩ hv1 dL_law_739 ?_
          refine lv_aload_n hx hb dL_law_740 rfl (lv_at hl 2 rfl) ?_
          refine lv_iload hx hb dL_law_741 (lv_at hl 1 rfl) ?_
          refine zw_iconst hx hb dL_law_743 ?_
          refine zw_iadd hx hb dL_law_744 ?_
          refine zw_scr hx hb hX hbl hbA hS (by omega) (by omega) ⟨by omega, by omega⟩ hv2 dL_law_745 ?_
          refine lv_aload_n hx hb dL_law_746 rfl (lv_at hl 2 rfl) ?_
          refine lv_iload hx hb dL_law_747 (lv_at hl 1 rfl) ?_
          refine zw_iconst hx hb dL_law_749 ?_
          refine zw_iadd hx hb dL_law_750 ?_
          refine zw_scr hx hb hX hbl hbA hS (by omega) (by omega) ⟨by omega, by omega⟩ hv3 dL_law_751 ?_
          have hh2 := c_X5_between_3 l dC dI cI g0 ps pk pa pb pq pw pt co 0 we wl tl sf sl ot un H.size (by omega) (by omega) (by omega) (by omega) (by omega) (by omega)
          have hPc := hP.sub (ws' := [(g0, .inr (5, [.int (zi co), .ref ps, .int (zi 0), .ref pk, .ref pa, .ref pb, .ref pq, .int (zi we), .int (zi wl), .ref pw, .int (zi tl), .ref pt])), (ps, aI cI 10 sf)]) [7, 8] rfl
          have hKc : va_K (dC, dI) vwCl [(cI, .int)] s := hK.sub (tys' := [(cI, .int)]) [0] rfl
          have hDc := hD.sub (ws' := [(g0, .inr (5, [.int (zi co), .ref ps, .int (zi 0), .ref pk, .ref pa, .ref pb, .ref pq, .int (zi we), .int (zi wl), .ref pw, .int (zi tl), .ref pt])), (ps, aI cI 10 sf)]) [7, 8] (by decide) rfl
          have hFc := va_free (wc := [(g0, .inr (5, [.int (zi co), .ref ps, .int (zi 0), .ref pk, .ref pa, .ref pb, .ref pq, .int (zi we), .int (zi wl), .ref pw, .int (zi tl), .ref pt])), (ps, aI cI 10 sf)]) hD hS hA [7, 8] rfl
          refine va_calli (va_runV (As := [.int (zi sl), .int (zi ot), .int (zi un)]) (rest := []) ⟨hx, hb, hml, hown, hts⟩ hh2 (cwV 3 hts gL_law_X5_between rfl rfl rfl (by decide +kernel) ⟨Nat.le_of_ble_eq_true rfl, Nat.le_of_ble_eq_true rfl⟩) ⟨zPw.blind _ _ _ _ _, va_recv hKc hPc (ci := 5) (q0 := 0) rfl rfl, fun U hU hW => ⟨rfl, by rw [hU], by rw [hU]; exact hPc, va_K.moved hW.alike hKc, hDc.weaken (fun _ _ _ _ => trivial)⟩⟩ rfl rfl hl.1 rfl (lv_room (Nat.le_of_ble_eq_true rfl)) dL_law_752 ⟨by show _ ≤ 601024; omega, by show _ ≤ 7293033; omega⟩) hS (fun q _ h => hFc q h) hFc (fun r2 u t H1 locs ht hvm hw hB hz1 hk1 hS => ?_)
          obtain ⟨hP1, hK1, hD1⟩ := hB
          rw [ht] at hP1
          obtain ⟨hP, hD⟩ := va_join (wr := [(qr, .inr (0, [.int (zi mc), .ref qd, .int (zi 0)])), (qm, .inr (2, [.ref qk, .int (zi fi), .int (zi ln)])), (qk, aI cI 366 mf), (qw, .inr (1, [.ref wc, .int (zi wl)])), (wc, aI cI 20 wf), (qt, .inr (1, [.ref tc, .int (zi tl)])), (tc, aI cI 20 tf), (pk, aI cI 12 kf), (pa, aI cI 12 af), (pb, aI cI 12 bf), (pq, aI cI 12 zf), (pw, aI cI 12 wf), (pt, aI cI 20 tf), (h0, .inr (4, [.ref qs, .ref qr, .ref qm, .ref qw, .ref qt, .int (zi we)])), (qs, aI cI 10 sf), (qo, aL cL 1 of)]) (w1 := [(g0, .inr (5, [.int (zi 3), .ref ps, .int (zi 0), .ref pk, .ref pa, .ref pb, .ref pq, .int (zi we), .int (zi wl), .ref pw, .int (zi tl), .ref pt])), (ps, aI cI 10 sf)]) hP hD [7, 8] [0, 1, 2, 3, 4, 5, 6, 9, 10, 11, 12, 13, 14, 15, 16, 17] rfl rfl (by decide) (by decide) hk1 hFc hP1 hD1
          generalize H1 = H at hP hS ⊢
          obtain rfl : r2 = zi 0 := hw
          have hP : va_P (dC, dI) vwCl [(qr, .inr (0, [.int (zi mc), .ref qd, .int (zi 0)])), (qm, .inr (2, [.ref qk, .int (zi fi), .int (zi ln)])), (qk, aI cI 366 mf), (qw, .inr (1, [.ref wc, .int (zi wl)])), (wc, aI cI 20 wf), (qt, .inr (1, [.ref tc, .int (zi tl)])), (tc, aI cI 20 tf), (pk, aI cI 12 kf), (pa, aI cI 12 af), (pb, aI cI 12 bf), (pq, aI cI 12 zf), (pw, aI cI 12 wf), (pt, aI cI 20 tf), (h0, .inr (4, [.ref qs, .ref qr, .ref qm, .ref qw, .ref qt, .int (zi we)])), (qs, aI cI 10 sf), (qo, aL cL 1 of), (g0, .inr (5, [.int (zi 3), .ref ps, .int (zi 0), .ref pk, .ref pa, .ref pb, .ref pq, .int (zi we), .int (zi wl), .ref pw, .int (zi tl), .ref pt])), (ps, aI cI 10 sf)] H := hP
          have hD : va_D A [(qr, .inr (0, [.int (zi mc), .ref qd, .int (zi 0)])), (qm, .inr (2, [.ref qk, .int (zi fi), .int (zi ln)])), (qk, aI cI 366 mf), (qw, .inr (1, [.ref wc, .int (zi wl)])), (wc, aI cI 20 wf), (qt, .inr (1, [.ref tc, .int (zi tl)])), (tc, aI cI 20 tf), (pk, aI cI 12 kf), (pa, aI cI 12 af), (pb, aI cI 12 bf), (pq, aI cI 12 zf), (pw, aI cI 12 wf), (pt, aI cI 20 tf), (h0, .inr (4, [.ref qs, .ref qr, .ref qm, .ref qw, .ref qt, .int (zi we)])), (qs, aI cI 10 sf), (qo, aL cL 1 of), (g0, .inr (5, [.int (zi 3), .ref ps, .int (zi 0), .ref pk, .ref pa, .ref pb, .ref pq, .int (zi we), .int (zi wl), .ref pw, .int (zi tl), .ref pt])), (ps, aI cI 10 sf)] := hD
          refine lv_istore (lv' := [(6, .int (zi 0)), (5, .int (zi 3)), (4, .int (zi ii)), (0, .ref b), (1, .ref h0), (2, .ref g0), (3, .ref qo)]) hx hb dL_law_755 hl (by decide) rfl (fun ls hl => ?_)
          refine lv_aload_n hx hb dL_law_757 rfl (lv_at hl 5 rfl) ?_
          have hh3 := c_X5_thrown l dC dI cI g0 ps pk pa pb pq pw pt 3 0 we wl tl sf 
          have hPc := hP.sub (ws' := [(g0, .inr (5, [.int (zi 3), .ref ps, .int (zi 0), .ref pk, .ref pa, .ref pb, .ref pq, .int (zi we), .int (zi wl), .ref pw, .int (zi tl), .ref pt])), (ps, aI cI 10 sf)]) [16, 17] rfl
          have hKc : va_K (dC, dI) vwCl [(cI, .int)] s := hK.sub (tys' := [(cI, .int)]) [0] rfl
          refine vp_callSi (va_Run.run (va_runV (As := []) (rest := []) ⟨hx, hb, hml, hown, hts⟩ hh3 (cwV 0 hts gL_law_X5_thrown rfl rfl rfl (by decide +kernel) ⟨Nat.le_of_ble_eq_true rfl, Nat.le_of_ble_eq_true rfl⟩) ⟨zPr.blind _ _ _ _, va_recv hKc hPc (ci := 5) (q0 := 0) rfl rfl, fun U hU hW => ⟨rfl, by rw [hU]; exact hPc, va_K.moved hW.alike hKc⟩⟩ rfl rfl hl.1 rfl (lv_room (Nat.le_of_ble_eq_true rfl)) dL_law_758 ⟨by show _ ≤ 601024; omega, by show _ ≤ 7293033; omega⟩)) (fun r3 (hr3 : r3 = zi 3) => ?_)
          subst hr3
          refine lv_iload hx hb dL_law_761 (lv_at hl 1 rfl) ?_
          refine zw_icmp_eq (tgt := 768) hx hb dL_law_763 (by decide) ⟨by omega, by omega⟩ ⟨by omega, by omega⟩ (fun h4 => ?_) (fun h4 => ?_)
          · skip
            refine lv_iload hx hb dL_law_768 (lv_at hl 1 rfl) ?_
            refine zw_if_ne (tgt := 785) hx hb dL_law_770 (by decide) ⟨by omega, by omega⟩ (fun h5 => ?_) (fun h5 => ?_)
            · skip
              refine lv_goto (tgt := 1499) hx hb dL_law_785 (by decide) ?_
              have hP9 : va_P (dC, dI) vwCl [(h0, .inr (4, [.ref qs, .ref qr, .ref qm, .ref qw, .ref qt, .int (zi we)])), (qs, aI cI 10 sf), (qr, .inr (0, [.int (zi mc), .ref qd, .int (zi 0)])), (qm, .inr (2, [.ref qk, .int (zi fi), .int (zi ln)])), (qk, aI cI 366 mf), (qw, .inr (1, [.ref wc, .int (zi wl)])), (wc, aI cI 20 wf), (qt, .inr (1, [.ref tc, .int (zi tl)])), (tc, aI cI 20 tf), (g0, .inr (5, [.int (zi 3), .ref ps, .int (zi 0), .ref pk, .ref pa, .ref pb, .ref pq, .int (zi we), .int (zi wl), .ref pw, .int (zi tl), .ref pt])), (ps, aI cI 10 sf), (pk, aI cI 12 kf), (pa, aI cI 12 af), (pb, aI cI 12 bf), (pq, aI cI 12 zf), (pw, aI cI 12 wf), (pt, aI cI 20 tf), (qo, aL cL 1 of)] H := hP.sub (ws' := [(h0, .inr (4, [.ref qs, .ref qr, .ref qm, .ref qw, .ref qt, .int (zi we)])), (qs, aI cI 10 sf), (qr, .inr (0, [.int (zi mc), .ref qd, .int (zi 0)])), (qm, .inr (2, [.ref qk, .int (zi fi), .int (zi ln)])), (qk, aI cI 366 mf), (qw, .inr (1, [.ref wc, .int (zi wl)])), (wc, aI cI 20 wf), (qt, .inr (1, [.ref tc, .int (zi tl)])), (tc, aI cI 20 tf), (g0, .inr (5, [.int (zi 3), .ref ps, .int (zi 0), .ref pk, .ref pa, .ref pb, .ref pq, .int (zi we), .int (zi wl), .ref pw, .int (zi tl), .ref pt])), (ps, aI cI 10 sf), (pk, aI cI 12 kf), (pa, aI cI 12 af), (pb, aI cI 12 bf), (pq, aI cI 12 zf), (pw, aI cI 12 wf), (pt, aI cI 20 tf), (qo, aL cL 1 of)]) [13, 14, 0, 1, 2, 3, 4, 5, 6, 16, 17, 7, 8, 9, 10, 11, 12, 15] rfl
              have hD9 : va_D A [(h0, .inr (4, [.ref qs, .ref qr, .ref qm, .ref qw, .ref qt, .int (zi we)])), (qs, aI cI 10 sf), (qr, .inr (0, [.int (zi mc), .ref qd, .int (zi 0)])), (qm, .inr (2, [.ref qk, .int (zi fi), .int (zi ln)])), (qk, aI cI 366 mf), (qw, .inr (1, [.ref wc, .int (zi wl)])), (wc, aI cI 20 wf), (qt, .inr (1, [.ref tc, .int (zi tl)])), (tc, aI cI 20 tf), (g0, .inr (5, [.int (zi 3), .ref ps, .int (zi 0), .ref pk, .ref pa, .ref pb, .ref pq, .int (zi we), .int (zi wl), .ref pw, .int (zi tl), .ref pt])), (ps, aI cI 10 sf), (pk, aI cI 12 kf), (pa, aI cI 12 af), (pb, aI cI 12 bf), (pq, aI cI 12 zf), (pw, aI cI 12 wf), (pt, aI cI 20 tf), (qo, aL cL 1 of)] := hD.sub (ws' := [(h0, .inr (4, [.ref qs, .ref qr, .ref qm, .ref qw, .ref qt, .int (zi we)])), (qs, aI cI 10 sf), (qr, .inr (0, [.int (zi mc), .ref qd, .int (zi 0)])), (qm, .inr (2, [.ref qk, .int (zi fi), .int (zi ln)])), (qk, aI cI 366 mf), (qw, .inr (1, [.ref wc, .int (zi wl)])), (wc, aI cI 20 wf), (qt, .inr (1, [.ref tc, .int (zi tl)])), (tc, aI cI 20 tf), (g0, .inr (5, [.int (zi 3), .ref ps, .int (zi 0), .ref pk, .ref pa, .ref pb, .ref pq, .int (zi we), .int (zi wl), .ref pw, .int (zi tl), .ref pt])), (ps, aI cI 10 sf), (pk, aI cI 12 kf), (pa, aI cI 12 af), (pb, aI cI 12 bf), (pq, aI cI 12 zf), (pw, aI cI 12 wf), (pt, aI cI 20 tf), (qo, aL cL 1 of)]) [13, 14, 0, 1, 2, 3, 4, 5, 6, 16, 17, 7, 8, 9, 10, 11, 12, 15] (by decide) rfl
              have hI9 : LI sf kf af bf zf wf tf 0 we fi ln wl tl := hI
              refine W.widen (k := ce + 2) (n := sn + 19) (by omega) (by omega) ?_
              exact K0 mc we fi ln mf sf kf af bf zf wl wf tl tf 3 of H locs ls ⟨hP9, hD9, hS, hI9⟩ (lv_sub hl [2, 3, 4, 5, 6] rfl)
            · skip
              exact absurd True.intro (by omega)
          · skip
            exact absurd True.intro (by omega)
        · skip
          by_cases h5 : sf ot.toNat = -1
          · skip
            refine lv_aload_n hx hb dL_law_708 rfl (lv_at hl 2 rfl) ?_
            refine lv_aload_n hx hb dL_law_709 rfl (lv_at hl 1 rfl) ?_
            refine lv_iload hx hb dL_law_710 (lv_at hl 0 rfl) ?_
            refine zw_iconst hx hb dL_law_712 ?_
            refine zw_iadd hx hb dL_law_713 ?_
            refine zw_scr hx hb hX hbl hbA hS (by omega) (by omega) ⟨by omega, by omega⟩ hv1 dL_law_714 ?_
            refine lv_aload_n hx hb dL_law_715 rfl (lv_at hl 1 rfl) ?_
            refine lv_iload hx hb dL_law_716 (lv_at hl 0 rfl) ?_
            refine zw_iconst hx hb dL_law_718 ?_
            refine zw_iadd hx hb dL_law_719 ?_
            refine zw_scr hx hb hX hbl hbA hS (by omega) (by omega) ⟨by omega, by omega⟩ hv2 dL_law_720 ?_
            refine lv_aload_n hx hb dL_law_721 rfl (lv_at hl 1 rfl) ?_
            refine lv_iload hx hb dL_law_722 (lv_at hl 0 rfl) ?_
            refine zw_iconst hx hb dL_law_724 ?_
            refine zw_iadd hx hb dL_law_725 ?_
            refine zw_scr hx hb hX hbl hbA hS (by omega) (by omega) ⟨by omega, by omega⟩ hv3 dL_law_726 ?_
            refine lv_aload_n hx hb dL_law_727 rfl (lv_at hl 4 rfl) ?_
            have hh1 := c_L_between_3b l hst dC dI cI cL h0 qs qr qm qw qt we sf qo of sl ot un H.size (by omega) (by omega) (by omega) (by omega) (by omega)
            have hPc := hP.sub (ws' := [(h0, .inr (4, [.ref qs, .ref qr, .ref qm, .ref qw, .ref qt, .int (zi we)])), (qs, aI cI 10 sf), (qo, aL cL 1 of)]) [0, 1, 17] rfl
            have hKc : va_K (dC, dI) vwCl [(cI, .int), (cL, .long)] s := hK.sub (tys' := [(cI, .int), (cL, .long)]) [0, 1] rfl
            have hDc := hD.sub (ws' := [(h0, .inr (4, [.ref qs, .ref qr, .ref qm, .ref qw, .ref qt, .int (zi we)])), (qs, aI cI 10 sf), (qo, aL cL 1 of)]) [0, 1, 17] (by decide) rfl
            have hFc := va_free (wc := [(h0, .inr (4, [.ref qs, .ref qr, .ref qm, .ref qw, .ref qt, .int (zi we)])), (qs, aI cI 10 sf), (qo, aL cL 1 of)]) hD hS hA [0, 1, 17] rfl
            refine va_calli (vx_runSW (As := [.ref h0, .int (zi sl), .int (zi ot), .int (zi un), .ref qo]) (rest := []) ⟨hx, hb, hml, hown, hts⟩ hh1 (vx_cwSW 5 hts gL_law_L_between rfl rfl rfl (by decide +kernel) ⟨Nat.le_of_ble_eq_true rfl, Nat.le_of_ble_eq_true rfl⟩) ⟨zPx.blind _ _ _ _ _, fun U hU hW => ⟨rfl, by rw [hU], hE.call hS (fun q h => hA q (Nat.le_trans hS.1 (by rw [hU] at h; exact h))) hU hW, by rw [hU]; exact hPc, va_K.moved hW.alike hKc, hDc.weaken (fun _ _ _ _ => trivial)⟩⟩ rfl rfl hl.1 rfl (lv_room (Nat.le_of_ble_eq_true rfl)) dL_law_728 ⟨by show _ ≤ 601024; omega, by show _ ≤ 7293033; omega⟩) hS (fun q _ h => hFc q h) hFc (fun r1 u t H1 locs ht hvm hw hB hz1 hk1 hS => ?_)
            obtain ⟨hP1, hK1, hD1⟩ := hB
            rw [ht] at hP1
            obtain ⟨hP, hD⟩ := va_join (wr := [(qr, .inr (0, [.int (zi mc), .ref qd, .int (zi 0)])), (qm, .inr (2, [.ref qk, .int (zi fi), .int (zi ln)])), (qk, aI cI 366 mf), (qw, .inr (1, [.ref wc, .int (zi wl)])), (wc, aI cI 20 wf), (qt, .inr (1, [.ref tc, .int (zi tl)])), (tc, aI cI 20 tf), (g0, .inr (5, [.int (zi co), .ref ps, .int (zi 0), .ref pk, .ref pa, .ref pb, .ref pq, .int (zi we), .int (zi wl), .ref pw, .int (zi tl), .ref pt])), (ps, aI cI 10 sf), (pk, aI cI 12 kf), (pa, aI cI 12 af), (pb, aI cI 12 bf), (pq, aI cI 12 zf), (pw, aI cI 12 wf), (pt, aI cI 20 tf)]) (w1 := [(h0, .inr (4, [.ref qs, .ref qr, .ref qm, .ref qw, .ref qt, .int (zi we)])), (qs, aI cI 10 sf), (qo, aL cL 1 of)]) hP hD [0, 1, 17] [2, 3, 4, 5, 6, 7, 8, 9, 10, 11, 12, 13, 14, 15, 16] rfl rfl (by decide) (by decide) hk1 hFc hP1 hD1
            generalize H1 = H at hP hS ⊢
            obtain rfl : r1 = zi 3 := hw
            have hP : va_P (dC, dI) vwCl [(qr, .inr (0, [.int (zi mc), .ref qd, .int (zi 0)])), (qm, .inr (2, [.ref qk, .int (zi fi), .int (zi ln)])), (qk, aI cI 366 mf), (qw, .inr (1, [.ref wc, .int (zi wl)])), (wc, aI cI 20 wf), (qt, .inr (1, [.ref tc, .int (zi tl)])), (tc, aI cI 20 tf), (g0, .inr (5, [.int (zi co), .ref ps, .int (zi 0), .ref pk, .ref pa, .ref pb, .ref pq, .int (zi we), .int (zi wl), .ref pw, .int (zi tl), .ref pt])), (ps, aI cI 10 sf), (pk, aI cI 12 kf), (pa, aI cI 12 af), (pb, aI cI 12 bf), (pq, aI cI 12 zf), (pw, aI cI 12 wf), (pt, aI cI 20 tf), (h0, .inr (4, [.ref qs, .ref qr, .ref qm, .ref qw, .ref qt, .int (zi we)])), (qs, aI cI 10 sf), (qo, aL cL 1 of)] H := hP
            have hD : va_D A [(qr, .inr (0, [.int (zi mc), .ref qd, .int (zi 0)])), (qm, .inr (2, [.ref qk, .int (zi fi), .int (zi ln)])), (qk, aI cI 366 mf), (qw, .inr (1, [.ref wc, .int (zi wl)])), (wc, aI cI 20 wf), (qt, .inr (1, [.ref tc, .int (zi tl)])), (tc, aI cI 20 tf), (g0, .inr (5, [.int (zi co), .ref ps, .int (zi 0), .ref pk, .ref pa, .ref pb, .ref pq, .int (zi we), .int (zi wl), .ref pw, .int (zi tl), .ref pt])), (ps, aI cI 10 sf), (pk, aI cI 12 kf), (pa, aI cI 12 af), (pb, aI cI 12 bf), (pq, aI cI 12 zf), (pw, aI cI 12 wf), (pt, aI cI 20 tf), (h0, .inr (4, [.ref qs, .ref qr, .ref qm, .ref qw, .ref qt, .int (zi we)])), (qs, aI cI 10 sf), (qo, aL cL 1 of)] := hD
            refine lv_istore (lv' := [(5, .int (zi 3)), (4, .int (zi ii)), (0, .ref b), (1, .ref h0), (2, .ref g0), (3, .ref qo)]) hx hb dL_law_731 hl (by decide) rfl (fun ls hl => ?_)
            refine lv_aload_n hx hb dL_law_733 rfl (lv_at hl 4 rfl) ?_
            refine lv_aload_n hx hb dL_law_734 rfl (lv_at hl 2 rfl) ?_
            refine lv_iload hx hb dL_law_735 (lv_at hl 1 rfl) ?_
            refine zw_iconst hx hb dL_law_737 ?_
            refine zw_iadd hx hb dL_law_738 ?_
            refine zw_scr hx hb hX hbl hbA hS (by omega) (by omega) ⟨by omega, by omega⟩ hv1 dL_law_739 ?_
            refine lv_aload_n hx hb dL_law_740 rfl (lv_at hl 2 rfl) ?_
            refine lv_iload hx hb dL_law_741 (lv_at hl 1 rfl) ?_
            refine zw_iconst hx hb dL_law_743 ?_
            refine zw_iadd hx hb dL_law_744 ?_
            refine zw_scr hx hb hX hbl hbA hS (by omega) (by omega) ⟨by omega, by omega⟩ hv2 dL_law_745 ?_
            refine lv_aload_n hx hb dL_law_746 rfl (lv_at hl 2 rfl) ?_
            refine lv_iload hx hb dL_law_747 (lv_at hl 1 rfl) ?_
            refine zw_iconst hx hb dL_law_749 ?_
            refine zw_iadd hx hb dL_law_750 ?_
            refine zw_scr hx hb hX hbl hbA hS (by omega) (by omega) ⟨by omega, by omega⟩ hv3 dL_law_751 ?_
            have hh2 := c_X5_between_3 l dC dI cI g0 ps pk pa pb pq pw pt co 0 we wl tl sf sl ot un H.size (by omega) (by omega) (by omega) (by omega) (by omega) (by omega)
            have hPc := hP.sub (ws' := [(g0, .inr (5, [.int (zi co), .ref ps, .int (zi 0), .ref pk, .ref pa, .ref pb, .ref pq, .int (zi we), .int (zi wl), .ref pw, .int (zi tl), .ref pt])), (ps, aI cI 10 sf)]) [7, 8] rfl
            have hKc : va_K (dC, dI) vwCl [(cI, .int)] s := hK.sub (tys' := [(cI, .int)]) [0] rfl
            have hDc := hD.sub (ws' := [(g0, .inr (5, [.int (zi co), .ref ps, .int (zi 0), .ref pk, .ref pa, .ref pb, .ref pq, .int (zi we), .int (zi wl), .ref pw, .int (zi tl), .ref pt])), (ps, aI cI 10 sf)]) [7, 8] (by decide) rfl
            have hFc := va_free (wc := [(g0, .inr (5, [.int (zi co), .ref ps, .int (zi 0), .ref pk, .ref pa, .ref pb, .ref pq, .int (zi we), .int (zi wl), .ref pw, .int (zi tl), .ref pt])), (ps, aI cI 10 sf)]) hD hS hA [7, 8] rfl
            refine va_calli (va_runV (As := [.int (zi sl), .int (zi ot), .int (zi un)]) (rest := []) ⟨hx, hb, hml, hown, hts⟩ hh2 (cwV 3 hts gL_law_X5_between rfl rfl rfl (by decide +kernel) ⟨Nat.le_of_ble_eq_true rfl, Nat.le_of_ble_eq_true rfl⟩) ⟨zPw.blind _ _ _ _ _, va_recv hKc hPc (ci := 5) (q0 := 0) rfl rfl, fun U hU hW => ⟨rfl, by rw [hU], by rw [hU]; exact hPc, va_K.moved hW.alike hKc, hDc.weaken (fun _ _ _ _ => trivial)⟩⟩ rfl rfl hl.1 rfl (lv_room (Nat.le_of_ble_eq_true rfl)) dL_law_752 ⟨by show _ ≤ 601024; omega, by show _ ≤ 7293033; omega⟩) hS (fun q _ h => hFc q h) hFc (fun r2 u t H1 locs ht hvm hw hB hz1 hk1 hS => ?_)
            obtain ⟨hP1, hK1, hD1⟩ := hB
            rw [ht] at hP1
            obtain ⟨hP, hD⟩ := va_join (wr := [(qr, .inr (0, [.int (zi mc), .ref qd, .int (zi 0)])), (qm, .inr (2, [.ref qk, .int (zi fi), .int (zi ln)])), (qk, aI cI 366 mf), (qw, .inr (1, [.ref wc, .int (zi wl)])), (wc, aI cI 20 wf), (qt, .inr (1, [.ref tc, .int (zi tl)])), (tc, aI cI 20 tf), (pk, aI cI 12 kf), (pa, aI cI 12 af), (pb, aI cI 12 bf), (pq, aI cI 12 zf), (pw, aI cI 12 wf), (pt, aI cI 20 tf), (h0, .inr (4, [.ref qs, .ref qr, .ref qm, .ref qw, .ref qt, .int (zi we)])), (qs, aI cI 10 sf), (qo, aL cL 1 of)]) (w1 := [(g0, .inr (5, [.int (zi 3), .ref ps, .int (zi 0), .ref pk, .ref pa, .ref pb, .ref pq, .int (zi we), .int (zi wl), .ref pw, .int (zi tl), .ref pt])), (ps, aI cI 10 sf)]) hP hD [7, 8] [0, 1, 2, 3, 4, 5, 6, 9, 10, 11, 12, 13, 14, 15, 16, 17] rfl rfl (by decide) (by decide) hk1 hFc hP1 hD1
            generalize H1 = H at hP hS ⊢
            obtain rfl : r2 = zi 0 := hw
            have hP : va_P (dC, dI) vwCl [(qr, .inr (0, [.int (zi mc), .ref qd, .int (zi 0)])), (qm, .inr (2, [.ref qk, .int (zi fi), .int (zi ln)])), (qk, aI cI 366 mf), (qw, .inr (1, [.ref wc, .int (zi wl)])), (wc, aI cI 20 wf), (qt, .inr (1, [.ref tc, .int (zi tl)])), (tc, aI cI 20 tf), (pk, aI cI 12 kf), (pa, aI cI 12 af), (pb, aI cI 12 bf), (pq, aI cI 12 zf), (pw, aI cI 12 wf), (pt, aI cI 20 tf), (h0, .inr (4, [.ref qs, .ref qr, .ref qm, .ref qw, .ref qt, .int (zi we)])), (qs, aI cI 10 sf), (qo, aL cL 1 of), (g0, .inr (5, [.int (zi 3), .ref ps, .int (zi 0), .ref pk, .ref pa, .ref pb, .ref pq, .int (zi we), .int (zi wl), .ref pw, .int (zi tl), .ref pt])), (ps, aI cI 10 sf)] H := hP
            have hD : va_D A [(qr, .inr (0, [.int (zi mc), .ref qd, .int (zi 0)])), (qm, .inr (2, [.ref qk, .int (zi fi), .int (zi ln)])), (qk, aI cI 366 mf), (qw, .inr (1, [.ref wc, .int (zi wl)])), (wc, aI cI 20 wf), (qt, .inr (1, [.ref tc, .int (zi tl)])), (tc, aI cI 20 tf), (pk, aI cI 12 kf), (pa, aI cI 12 af), (pb, aI cI 12 bf), (pq, aI cI 12 zf), (pw, aI cI 12 wf), (pt, aI cI 20 tf), (h0, .inr (4, [.ref qs, .ref qr, .ref qm, .ref qw, .ref qt, .int (zi we)])), (qs, aI cI 10 sf), (qo, aL cL 1 of), (g0, .inr (5, [.int (zi 3), .ref ps, .int (zi 0), .ref pk, .ref pa, .ref pb, .ref pq, .int (zi we), .int (zi wl), .ref pw, .int (zi tl), .ref pt])), (ps, aI cI 10 sf)] := hD
            refine lv_istore (lv' := [(6, .int (zi 0)), (5, .int (zi 3)), (4, .int (zi ii)), (0, .ref b), (1, .ref h0), (2, .ref g0), (3, .ref qo)]) hx hb dL_law_755 hl (by decide) rfl (fun ls hl => ?_)
            refine lv_aload_n hx hb dL_law_757 rfl (lv_at hl 5 rfl) ?_
            have hh3 := c_X5_thrown l dC dI cI g0 ps pk pa pb pq pw pt 3 0 we wl tl sf 
            have hPc := hP.sub (ws' := [(g0, .inr (5, [.int (zi 3), .ref ps, .int (zi 0), .ref pk, .ref pa, .ref pb, .ref pq, .int (zi we), .int (zi wl), .ref pw, .int (zi tl), .ref pt])), (ps, aI cI 10 sf)]) [16, 17] rfl
            have hKc : va_K (dC, dI) vwCl [(cI, .int)] s := hK.sub (tys' := [(cI, .int)]) [0] rfl
            refine vp_callSi (va_Run.run (va_runV (As := []) (rest := []) ⟨hx, hb, hml, hown, hts⟩ hh3 (cwV 0 hts gL_law_X5_thrown rfl rfl rfl (by decide +kernel) ⟨Nat.le_of_ble_eq_true rfl, Nat.le_of_ble_eq_true rfl⟩) ⟨zPr.blind _ _ _ _, va_recv hKc hPc (ci := 5) (q0 := 0) rfl rfl, fun U hU hW => ⟨rfl, by rw [hU]; exact hPc, va_K.moved hW.alike hKc⟩⟩ rfl rfl hl.1 rfl (lv_room (Nat.le_of_ble_eq_true rfl)) dL_law_758 ⟨by show _ ≤ 601024; omega, by show _ ≤ 7293033; omega⟩)) (fun r3 (hr3 : r3 = zi 3) => ?_)
            subst hr3
            refine lv_iload hx hb dL_law_761 (lv_at hl 1 rfl) ?_
            refine zw_icmp_eq (tgt := 768) hx hb dL_law_763 (by decide) ⟨by omega, by omega⟩ ⟨by omega, by omega⟩ (fun h4 => ?_) (fun h4 => ?_)
            · skip
              refine lv_iload hx hb dL_law_768 (lv_at hl 1 rfl) ?_
              refine zw_if_ne (tgt := 785) hx hb dL_law_770 (by decide) ⟨by omega, by omega⟩ (fun h5 => ?_) (fun h5 => ?_)
              · skip
                refine lv_goto (tgt := 1499) hx hb dL_law_785 (by decide) ?_
                have hP9 : va_P (dC, dI) vwCl [(h0, .inr (4, [.ref qs, .ref qr, .ref qm, .ref qw, .ref qt, .int (zi we)])), (qs, aI cI 10 sf), (qr, .inr (0, [.int (zi mc), .ref qd, .int (zi 0)])), (qm, .inr (2, [.ref qk, .int (zi fi), .int (zi ln)])), (qk, aI cI 366 mf), (qw, .inr (1, [.ref wc, .int (zi wl)])), (wc, aI cI 20 wf), (qt, .inr (1, [.ref tc, .int (zi tl)])), (tc, aI cI 20 tf), (g0, .inr (5, [.int (zi 3), .ref ps, .int (zi 0), .ref pk, .ref pa, .ref pb, .ref pq, .int (zi we), .int (zi wl), .ref pw, .int (zi tl), .ref pt])), (ps, aI cI 10 sf), (pk, aI cI 12 kf), (pa, aI cI 12 af), (pb, aI cI 12 bf), (pq, aI cI 12 zf), (pw, aI cI 12 wf), (pt, aI cI 20 tf), (qo, aL cL 1 of)] H := hP.sub (ws' := [(h0, .inr (4, [.ref qs, .ref qr, .ref qm, .ref qw, .ref qt, .int (zi we)])), (qs, aI cI 10 sf), (qr, .inr (0, [.int (zi mc), .ref qd, .int (zi 0)])), (qm, .inr (2, [.ref qk, .int (zi fi), .int (zi ln)])), (qk, aI cI 366 mf), (qw, .inr (1, [.ref wc, .int (zi wl)])), (wc, aI cI 20 wf), (qt, .inr (1, [.ref tc, .int (zi tl)])), (tc, aI cI 20 tf), (g0, .inr (5, [.int (zi 3), .ref ps, .int (zi 0), .ref pk, .ref pa, .ref pb, .ref pq, .int (zi we), .int (zi wl), .ref pw, .int (zi tl), .ref pt])), (ps, aI cI 10 sf), (pk, aI cI 12 kf), (pa, aI cI 12 af), (pb, aI cI 12 bf), (pq, aI cI 12 zf), (pw, aI cI 12 wf), (pt, aI cI 20 tf), (qo, aL cL 1 of)]) [13, 14, 0, 1, 2, 3, 4, 5, 6, 16, 17, 7, 8, 9, 10, 11, 12, 15] rfl
                have hD9 : va_D A [(h0, .inr (4, [.ref qs, .ref qr, .ref qm, .ref qw, .ref qt, .int (zi we)])), (qs, aI cI 10 sf), (qr, .inr (0, [.int (zi mc), .ref qd, .int (zi 0)])), (qm, .inr (2, [.ref qk, .int (zi fi), .int (zi ln)])), (qk, aI cI 366 mf), (qw, .inr (1, [.ref wc, .int (zi wl)])), (wc, aI cI 20 wf), (qt, .inr (1, [.ref tc, .int (zi tl)])), (tc, aI cI 20 tf), (g0, .inr (5, [.int (zi 3), .ref ps, .int (zi 0), .ref pk, .ref pa, .ref pb, .ref pq, .int (zi we), .int (zi wl), .ref pw, .int (zi tl), .ref pt])), (ps, aI cI 10 sf), (pk, aI cI 12 kf), (pa, aI cI 12 af), (pb, aI cI 12 bf), (pq, aI cI 12 zf), (pw, aI cI 12 wf), (pt, aI cI 20 tf), (qo, aL cL 1 of)] := hD.sub (ws' := [(h0, .inr (4, [.ref qs, .ref qr, .ref qm, .ref qw, .ref qt, .int (zi we)])), (qs, aI cI 10 sf), (qr, .inr (0, [.int (zi mc), .ref qd, .int (zi 0)])), (qm, .inr (2, [.ref qk, .int (zi fi), .int (zi ln)])), (qk, aI cI 366 mf), (qw, .inr (1, [.ref wc, .int (zi wl)])), (wc, aI cI 20 wf), (qt, .inr (1, [.ref tc, .int (zi tl)])), (tc, aI cI 20 tf), (g0, .inr (5, [.int (zi 3), .ref ps, .int (zi 0), .ref pk, .ref pa, .ref pb, .ref pq, .int (zi we), .int (zi wl), .ref pw, .int (zi tl), .ref pt])), (ps, aI cI 10 sf), (pk, aI cI 12 kf), (pa, aI cI 12 af), (pb, aI cI 12 bf), (pq, aI cI 12 zf), (pw, aI cI 12 wf), (pt, aI cI 20 tf), (qo, aL cL 1 of)]) [13, 14, 0, 1, 2, 3, 4, 5, 6, 16, 17, 7, 8, 9, 10, 11, 12, 15] (by decide) rfl
                have hI9 : LI sf kf af bf zf wf tf 0 we fi ln wl tl := hI
                refine W.widen (k := ce + 2) (n := sn + 19) (by omega) (by omega) ?_
                exact K0 mc we fi ln mf sf kf af bf zf wl wf tl tf 3 of H locs ls ⟨hP9, hD9, hS, hI9⟩ (lv_sub hl [2, 3, 4, 5, 6] rfl)
              · skip
                exact absurd True.intro (by omega)
            · skip
              exact absurd True.intro (by omega)
          · skip
            have hbe := e_between (sf sl.toNat) (sf ot.toNat) un (by omega) (by omega) h3
            by_cases h6 : un = 0
            · skip
              rw [if_pos h6] at hbe
              refine lv_aload_n hx hb dL_law_708 rfl (lv_at hl 2 rfl) ?_
              refine lv_aload_n hx hb dL_law_709 rfl (lv_at hl 1 rfl) ?_
              refine lv_iload hx hb dL_law_710 (lv_at hl 0 rfl) ?_
              refine zw_iconst hx hb dL_law_712 ?_
              refine zw_iadd hx hb dL_law_713 ?_
              refine zw_scr hx hb hX hbl hbA hS (by omega) (by omega) ⟨by omega, by omega⟩ hv1 dL_law_714 ?_
              refine lv_aload_n hx hb dL_law_715 rfl (lv_at hl 1 rfl) ?_
              refine lv_iload hx hb dL_law_716 (lv_at hl 0 rfl) ?_
              refine zw_iconst hx hb dL_law_718 ?_
              refine zw_iadd hx hb dL_law_719 ?_
              refine zw_scr hx hb hX hbl hbA hS (by omega) (by omega) ⟨by omega, by omega⟩ hv2 dL_law_720 ?_
              refine lv_aload_n hx hb dL_law_721 rfl (lv_at hl 1 rfl) ?_
              refine lv_iload hx hb dL_law_722 (lv_at hl 0 rfl) ?_
              refine zw_iconst hx hb dL_law_724 ?_
              refine zw_iadd hx hb dL_law_725 ?_
              refine zw_scr hx hb hX hbl hbA hS (by omega) (by omega) ⟨by omega, by omega⟩ hv3 dL_law_726 ?_
              refine lv_aload_n hx hb dL_law_727 rfl (lv_at hl 4 rfl) ?_
              have hh1 := c_L_between l dC dI cI cL h0 qs qr qm qw qt we sf qo of sl ot un H.size (by omega) (by omega) (by omega) (by omega) (by omega) (by omega)
              have hPc := hP.sub (ws' := [(h0, .inr (4, [.ref qs, .ref qr, .ref qm, .ref qw, .ref qt, .int (zi we)])), (qs, aI cI 10 sf), (qo, aL cL 1 of)]) [0, 1, 17] rfl
              have hKc : va_K (dC, dI) vwCl [(cI, .int), (cL, .long)] s := hK.sub (tys' := [(cI, .int), (cL, .long)]) [0, 1] rfl
              have hDc := hD.sub (ws' := [(h0, .inr (4, [.ref qs, .ref qr, .ref qm, .ref qw, .ref qt, .int (zi we)])), (qs, aI cI 10 sf), (qo, aL cL 1 of)]) [0, 1, 17] (by decide) rfl
              have hFc := va_free (wc := [(h0, .inr (4, [.ref qs, .ref qr, .ref qm, .ref qw, .ref qt, .int (zi we)])), (qs, aI cI 10 sf), (qo, aL cL 1 of)]) hD hS hA [0, 1, 17] rfl
              refine va_calli (vx_runSW (As := [.ref h0, .int (zi sl), .int (zi ot), .int (zi un), .ref qo]) (rest := []) ⟨hx, hb, hml, hown, hts⟩ hh1 (vx_cwSW 5 hts gL_law_L_between rfl rfl rfl (by decide +kernel) ⟨Nat.le_of_ble_eq_true rfl, Nat.le_of_ble_eq_true rfl⟩) ⟨zPw.blind _ _ _ _ _, fun U hU hW => ⟨rfl, by rw [hU], by rw [hU]; exact hPc, va_K.moved hW.alike hKc, hDc.weaken (fun _ _ _ _ => trivial)⟩⟩ rfl rfl hl.1 rfl (lv_room (Nat.le_of_ble_eq_true rfl)) dL_law_728 ⟨by show _ ≤ 601024; omega, by show _ ≤ 7293033; omega⟩) hS (fun q _ h => hFc q h) hFc (fun r1 u t H1 locs ht hvm hw hB hz1 hk1 hS => ?_)
              obtain ⟨hP1, hK1, hD1⟩ := hB
              rw [ht] at hP1
              obtain ⟨hP, hD⟩ := va_join (wr := [(qr, .inr (0, [.int (zi mc), .ref qd, .int (zi 0)])), (qm, .inr (2, [.ref qk, .int (zi fi), .int (zi ln)])), (qk, aI cI 366 mf), (qw, .inr (1, [.ref wc, .int (zi wl)])), (wc, aI cI 20 wf), (qt, .inr (1, [.ref tc, .int (zi tl)])), (tc, aI cI 20 tf), (g0, .inr (5, [.int (zi co), .ref ps, .int (zi 0), .ref pk, .ref pa, .ref pb, .ref pq, .int (zi we), .int (zi wl), .ref pw, .int (zi tl), .ref pt])), (ps, aI cI 10 sf), (pk, aI cI 12 kf), (pa, aI cI 12 af), (pb, aI cI 12 bf), (pq, aI cI 12 zf), (pw, aI cI 12 wf), (pt, aI cI 20 tf)]) (w1 := [(h0, .inr (4, [.ref qs, .ref qr, .ref qm, .ref qw, .ref qt, .int (zi we)])), (qs, aI cI 10 sf), (qo, aL cL 1 (zup of (Int.toNat 0) (f_X4_between (sf sl.toNat) (sf ot.toNat) un)))]) hP hD [0, 1, 17] [2, 3, 4, 5, 6, 7, 8, 9, 10, 11, 12, 13, 14, 15, 16] rfl rfl (by decide) (by decide) hk1 hFc hP1 hD1
              generalize H1 = H at hP hS ⊢
              obtain rfl : r1 = zi 0 := hw
              have hP : va_P (dC, dI) vwCl [(qr, .inr (0, [.int (zi mc), .ref qd, .int (zi 0)])), (qm, .inr (2, [.ref qk, .int (zi fi), .int (zi ln)])), (qk, aI cI 366 mf), (qw, .inr (1, [.ref wc, .int (zi wl)])), (wc, aI cI 20 wf), (qt, .inr (1, [.ref tc, .int (zi tl)])), (tc, aI cI 20 tf), (g0, .inr (5, [.int (zi co), .ref ps, .int (zi 0), .ref pk, .ref pa, .ref pb, .ref pq, .int (zi we), .int (zi wl), .ref pw, .int (zi tl), .ref pt])), (ps, aI cI 10 sf), (pk, aI cI 12 kf), (pa, aI cI 12 af), (pb, aI cI 12 bf), (pq, aI cI 12 zf), (pw, aI cI 12 wf), (pt, aI cI 20 tf), (h0, .inr (4, [.ref qs, .ref qr, .ref qm, .ref qw, .ref qt, .int (zi we)])), (qs, aI cI 10 sf), (qo, aL cL 1 (zup of (Int.toNat 0) (f_X4_between (sf sl.toNat) (sf ot.toNat) un)))] H := hP
              have hD : va_D A [(qr, .inr (0, [.int (zi mc), .ref qd, .int (zi 0)])), (qm, .inr (2, [.ref qk, .int (zi fi), .int (zi ln)])), (qk, aI cI 366 mf), (qw, .inr (1, [.ref wc, .int (zi wl)])), (wc, aI cI 20 wf), (qt, .inr (1, [.ref tc, .int (zi tl)])), (tc, aI cI 20 tf), (g0, .inr (5, [.int (zi co), .ref ps, .int (zi 0), .ref pk, .ref pa, .ref pb, .ref pq, .int (zi we), .int (zi wl), .ref pw, .int (zi tl), .ref pt])), (ps, aI cI 10 sf), (pk, aI cI 12 kf), (pa, aI cI 12 af), (pb, aI cI 12 bf), (pq, aI cI 12 zf), (pw, aI cI 12 wf), (pt, aI cI 20 tf), (h0, .inr (4, [.ref qs, .ref qr, .ref qm, .ref qw, .ref qt, .int (zi we)])), (qs, aI cI 10 sf), (qo, aL cL 1 (zup of (Int.toNat 0) (f_X4_between (sf sl.toNat) (sf ot.toNat) un)))] := hD
              refine lv_istore (lv' := [(5, .int (zi 0)), (4, .int (zi ii)), (0, .ref b), (1, .ref h0), (2, .ref g0), (3, .ref qo)]) hx hb dL_law_731 hl (by decide) rfl (fun ls hl => ?_)
              refine lv_aload_n hx hb dL_law_733 rfl (lv_at hl 4 rfl) ?_
              refine lv_aload_n hx hb dL_law_734 rfl (lv_at hl 2 rfl) ?_
              refine lv_iload hx hb dL_law_735 (lv_at hl 1 rfl) ?_
              refine zw_iconst hx hb dL_law_737 ?_
              refine zw_iadd hx hb dL_law_738 ?_
              refine zw_scr hx hb hX hbl hbA hS (by omega) (by omega) ⟨by omega, by omega⟩ hv1 dL_law_739 ?_
              refine lv_aload_n hx hb dL_law_740 rfl (lv_at hl 2 rfl) ?_
              refine lv_iload hx hb dL_law_741 (lv_at hl 1 rfl) ?_
              refine zw_iconst hx hb dL_law_743 ?_
              refine zw_iadd hx hb dL_law_744 ?_
              refine zw_scr hx hb hX hbl hbA hS (by omega) (by omega) ⟨by omega, by omega⟩ hv2 dL_law_745 ?_
              refine lv_aload_n hx hb dL_law_746 rfl (lv_at hl 2 rfl) ?_
              refine lv_iload hx hb dL_law_747 (lv_at hl 1 rfl) ?_
              refine zw_iconst hx hb dL_law_749 ?_
              refine zw_iadd hx hb dL_law_750 ?_
              refine zw_scr hx hb hX hbl hbA hS (by omega) (by omega) ⟨by omega, by omega⟩ hv3 dL_law_751 ?_
              have hh2 := c_X5_between_d l dC dI cI g0 ps pk pa pb pq pw pt co 0 we wl tl sf sl ot un H.size (by omega) (by omega) (by omega) (by omega) (by omega)
              have hPc := hP.sub (ws' := [(g0, .inr (5, [.int (zi co), .ref ps, .int (zi 0), .ref pk, .ref pa, .ref pb, .ref pq, .int (zi we), .int (zi wl), .ref pw, .int (zi tl), .ref pt])), (ps, aI cI 10 sf)]) [7, 8] rfl
              have hKc : va_K (dC, dI) vwCl [(cI, .int)] s := hK.sub (tys' := [(cI, .int)]) [0] rfl
              have hDc := hD.sub (ws' := [(g0, .inr (5, [.int (zi co), .ref ps, .int (zi 0), .ref pk, .ref pa, .ref pb, .ref pq, .int (zi we), .int (zi wl), .ref pw, .int (zi tl), .ref pt])), (ps, aI cI 10 sf)]) [7, 8] (by decide) rfl
              have hFc := va_free (wc := [(g0, .inr (5, [.int (zi co), .ref ps, .int (zi 0), .ref pk, .ref pa, .ref pb, .ref pq, .int (zi we), .int (zi wl), .ref pw, .int (zi tl), .ref pt])), (ps, aI cI 10 sf)]) hD hS hA [7, 8] rfl
              refine va_calli (va_runV (As := [.int (zi sl), .int (zi ot), .int (zi un)]) (rest := []) ⟨hx, hb, hml, hown, hts⟩ hh2 (cwV 3 hts gL_law_X5_between rfl rfl rfl (by decide +kernel) ⟨Nat.le_of_ble_eq_true rfl, Nat.le_of_ble_eq_true rfl⟩) ⟨zPw.blind _ _ _ _ _, va_recv hKc hPc (ci := 5) (q0 := 0) rfl rfl, fun U hU hW => ⟨rfl, by rw [hU], by rw [hU]; exact hPc, va_K.moved hW.alike hKc, hDc.weaken (fun _ _ _ _ => trivial)⟩⟩ rfl rfl hl.1 rfl (lv_room (Nat.le_of_ble_eq_true rfl)) dL_law_752 ⟨by show _ ≤ 601024; omega, by show _ ≤ 7293033; omega⟩) hS (fun q _ h => hFc q h) hFc (fun r2 u t H1 locs ht hvm hw hB hz1 hk1 hS => ?_)
              obtain ⟨hP1, hK1, hD1⟩ := hB
              rw [ht] at hP1
              obtain ⟨hP, hD⟩ := va_join (wr := [(qr, .inr (0, [.int (zi mc), .ref qd, .int (zi 0)])), (qm, .inr (2, [.ref qk, .int (zi fi), .int (zi ln)])), (qk, aI cI 366 mf), (qw, .inr (1, [.ref wc, .int (zi wl)])), (wc, aI cI 20 wf), (qt, .inr (1, [.ref tc, .int (zi tl)])), (tc, aI cI 20 tf), (pk, aI cI 12 kf), (pa, aI cI 12 af), (pb, aI cI 12 bf), (pq, aI cI 12 zf), (pw, aI cI 12 wf), (pt, aI cI 20 tf), (h0, .inr (4, [.ref qs, .ref qr, .ref qm, .ref qw, .ref qt, .int (zi we)])), (qs, aI cI 10 sf), (qo, aL cL 1 (zup of (Int.toNat 0) (f_X4_between (sf sl.toNat) (sf ot.toNat) un)))]) (w1 := [(g0, .inr (5, [.int (zi 0), .ref ps, .int (zi 0), .ref pk, .ref pa, .ref pb, .ref pq, .int (zi we), .int (zi wl), .ref pw, .int (zi tl), .ref pt])), (ps, aI cI 10 sf)]) hP hD [7, 8] [0, 1, 2, 3, 4, 5, 6, 9, 10, 11, 12, 13, 14, 15, 16, 17] rfl rfl (by decide) (by decide) hk1 hFc hP1 hD1
              generalize H1 = H at hP hS ⊢
              obtain rfl : r2 = zi ((sf ot.toNat) - (sf sl.toNat)) := hw
              have hP : va_P (dC, dI) vwCl [(qr, .inr (0, [.int (zi mc), .ref qd, .int (zi 0)])), (qm, .inr (2, [.ref qk, .int (zi fi), .int (zi ln)])), (qk, aI cI 366 mf), (qw, .inr (1, [.ref wc, .int (zi wl)])), (wc, aI cI 20 wf), (qt, .inr (1, [.ref tc, .int (zi tl)])), (tc, aI cI 20 tf), (pk, aI cI 12 kf), (pa, aI cI 12 af), (pb, aI cI 12 bf), (pq, aI cI 12 zf), (pw, aI cI 12 wf), (pt, aI cI 20 tf), (h0, .inr (4, [.ref qs, .ref qr, .ref qm, .ref qw, .ref qt, .int (zi we)])), (qs, aI cI 10 sf), (qo, aL cL 1 (zup of (Int.toNat 0) (f_X4_between (sf sl.toNat) (sf ot.toNat) un))), (g0, .inr (5, [.int (zi 0), .ref ps, .int (zi 0), .ref pk, .ref pa, .ref pb, .ref pq, .int (zi we), .int (zi wl), .ref pw, .int (zi tl), .ref pt])), (ps, aI cI 10 sf)] H := hP
              have hD : va_D A [(qr, .inr (0, [.int (zi mc), .ref qd, .int (zi 0)])), (qm, .inr (2, [.ref qk, .int (zi fi), .int (zi ln)])), (qk, aI cI 366 mf), (qw, .inr (1, [.ref wc, .int (zi wl)])), (wc, aI cI 20 wf), (qt, .inr (1, [.ref tc, .int (zi tl)])), (tc, aI cI 20 tf), (pk, aI cI 12 kf), (pa, aI cI 12 af), (pb, aI cI 12 bf), (pq, aI cI 12 zf), (pw, aI cI 12 wf), (pt, aI cI 20 tf), (h0, .inr (4, [.ref qs, .ref qr, .ref qm, .ref qw, .ref qt, .int (zi we)])), (qs, aI cI 10 sf), (qo, aL cL 1 (zup of (Int.toNat 0) (f_X4_between (sf sl.toNat) (sf ot.toNat) un))), (g0, .inr (5, [.int (zi 0), .ref ps, .int (zi 0), .ref pk, .ref pa, .ref pb, .ref pq, .int (zi we), .int (zi wl), .ref pw, .int (zi tl), .ref pt])), (ps, aI cI 10 sf)] := hD
              refine zw_top (fun x3 ex3 => ?_)
              refine lv_istore (lv' := [(6, .int (zi x3)), (5, .int (zi 0)), (4, .int (zi ii)), (0, .ref b), (1, .ref h0), (2, .ref g0), (3, .ref qo)]) hx hb dL_law_755 hl (by decide) rfl (fun ls hl => ?_)
              refine lv_aload_n hx hb dL_law_757 rfl (lv_at hl 5 rfl) ?_
              have hh4 := c_X5_thrown l dC dI cI g0 ps pk pa pb pq pw pt 0 0 we wl tl sf 
              have hPc := hP.sub (ws' := [(g0, .inr (5, [.int (zi 0), .ref ps, .int (zi 0), .ref pk, .ref pa, .ref pb, .ref pq, .int (zi we), .int (zi wl), .ref pw, .int (zi tl), .ref pt])), (ps, aI cI 10 sf)]) [16, 17] rfl
              have hKc : va_K (dC, dI) vwCl [(cI, .int)] s := hK.sub (tys' := [(cI, .int)]) [0] rfl
              refine vp_callSi (va_Run.run (va_runV (As := []) (rest := []) ⟨hx, hb, hml, hown, hts⟩ hh4 (cwV 0 hts gL_law_X5_thrown rfl rfl rfl (by decide +kernel) ⟨Nat.le_of_ble_eq_true rfl, Nat.le_of_ble_eq_true rfl⟩) ⟨zPr.blind _ _ _ _, va_recv hKc hPc (ci := 5) (q0 := 0) rfl rfl, fun U hU hW => ⟨rfl, by rw [hU]; exact hPc, va_K.moved hW.alike hKc⟩⟩ rfl rfl hl.1 rfl (lv_room (Nat.le_of_ble_eq_true rfl)) dL_law_758 ⟨by show _ ≤ 601024; omega, by show _ ≤ 7293033; omega⟩)) (fun r4 (hr4 : r4 = zi 0) => ?_)
              subst hr4
              refine lv_iload hx hb dL_law_761 (lv_at hl 1 rfl) ?_
              refine zw_icmp_eq (tgt := 768) hx hb dL_law_763 (by decide) ⟨by omega, by omega⟩ ⟨by omega, by omega⟩ (fun h5 => ?_) (fun h5 => ?_)
              · skip
                refine lv_iload hx hb dL_law_768 (lv_at hl 1 rfl) ?_
                refine zw_if_ne (tgt := 785) hx hb dL_law_770 (by decide) ⟨by omega, by omega⟩ (fun h6 => ?_) (fun h6 => ?_)
                · skip
                  exact absurd True.intro (by omega)
                · skip
                  refine lv_aload_n hx hb dL_law_773 rfl (lv_at hl 6 rfl) ?_
                  refine zw_iconst hx hb dL_law_774 ?_
                  refine zw_lald hx hb hK hP 15 1 rfl rfl (by omega) (by omega) ⟨by omega, by omega⟩ dL_law_775 ?_
                  rw [zup_at]
                  refine lv_iload hx hb dL_law_776 (lv_at hl 0 rfl) ?_
                  refine zw_i2l hx hb dL_law_778 ⟨by omega, by omega⟩ ?_
                  refine zw_lcmp_eq (tgt := 785) hx hb dL_law_779 dL_law_780 (by decide) ⟨by omega, by omega⟩ ⟨by omega, by omega⟩ (fun h7 => ?_) (fun h7 => ?_)
                  · skip
                    refine lv_goto (tgt := 1499) hx hb dL_law_785 (by decide) ?_
                    subst ex3
                    have hP9 : va_P (dC, dI) vwCl [(h0, .inr (4, [.ref qs, .ref qr, .ref qm, .ref qw, .ref qt, .int (zi we)])), (qs, aI cI 10 sf), (qr, .inr (0, [.int (zi mc), .ref qd, .int (zi 0)])), (qm, .inr (2, [.ref qk, .int (zi fi), .int (zi ln)])), (qk, aI cI 366 mf), (qw, .inr (1, [.ref wc, .int (zi wl)])), (wc, aI cI 20 wf), (qt, .inr (1, [.ref tc, .int (zi tl)])), (tc, aI cI 20 tf), (g0, .inr (5, [.int (zi 0), .ref ps, .int (zi 0), .ref pk, .ref pa, .ref pb, .ref pq, .int (zi we), .int (zi wl), .ref pw, .int (zi tl), .ref pt])), (ps, aI cI 10 sf), (pk, aI cI 12 kf), (pa, aI cI 12 af), (pb, aI cI 12 bf), (pq, aI cI 12 zf), (pw, aI cI 12 wf), (pt, aI cI 20 tf), (qo, aL cL 1 (zup of (Int.toNat 0) (f_X4_between (sf sl.toNat) (sf ot.toNat) un)))] H := hP.sub (ws' := [(h0, .inr (4, [.ref qs, .ref qr, .ref qm, .ref qw, .ref qt, .int (zi we)])), (qs, aI cI 10 sf), (qr, .inr (0, [.int (zi mc), .ref qd, .int (zi 0)])), (qm, .inr (2, [.ref qk, .int (zi fi), .int (zi ln)])), (qk, aI cI 366 mf), (qw, .inr (1, [.ref wc, .int (zi wl)])), (wc, aI cI 20 wf), (qt, .inr (1, [.ref tc, .int (zi tl)])), (tc, aI cI 20 tf), (g0, .inr (5, [.int (zi 0), .ref ps, .int (zi 0), .ref pk, .ref pa, .ref pb, .ref pq, .int (zi we), .int (zi wl), .ref pw, .int (zi tl), .ref pt])), (ps, aI cI 10 sf), (pk, aI cI 12 kf), (pa, aI cI 12 af), (pb, aI cI 12 bf), (pq, aI cI 12 zf), (pw, aI cI 12 wf), (pt, aI cI 20 tf), (qo, aL cL 1 (zup of (Int.toNat 0) (f_X4_between (sf sl.toNat) (sf ot.toNat) un)))]) [13, 14, 0, 1, 2, 3, 4, 5, 6, 16, 17, 7, 8, 9, 10, 11, 12, 15] rfl
                    have hD9 : va_D A [(h0, .inr (4, [.ref qs, .ref qr, .ref qm, .ref qw, .ref qt, .int (zi we)])), (qs, aI cI 10 sf), (qr, .inr (0, [.int (zi mc), .ref qd, .int (zi 0)])), (qm, .inr (2, [.ref qk, .int (zi fi), .int (zi ln)])), (qk, aI cI 366 mf), (qw, .inr (1, [.ref wc, .int (zi wl)])), (wc, aI cI 20 wf), (qt, .inr (1, [.ref tc, .int (zi tl)])), (tc, aI cI 20 tf), (g0, .inr (5, [.int (zi 0), .ref ps, .int (zi 0), .ref pk, .ref pa, .ref pb, .ref pq, .int (zi we), .int (zi wl), .ref pw, .int (zi tl), .ref pt])), (ps, aI cI 10 sf), (pk, aI cI 12 kf), (pa, aI cI 12 af), (pb, aI cI 12 bf), (pq, aI cI 12 zf), (pw, aI cI 12 wf), (pt, aI cI 20 tf), (qo, aL cL 1 (zup of (Int.toNat 0) (f_X4_between (sf sl.toNat) (sf ot.toNat) un)))] := hD.sub (ws' := [(h0, .inr (4, [.ref qs, .ref qr, .ref qm, .ref qw, .ref qt, .int (zi we)])), (qs, aI cI 10 sf), (qr, .inr (0, [.int (zi mc), .ref qd, .int (zi 0)])), (qm, .inr (2, [.ref qk, .int (zi fi), .int (zi ln)])), (qk, aI cI 366 mf), (qw, .inr (1, [.ref wc, .int (zi wl)])), (wc, aI cI 20 wf), (qt, .inr (1, [.ref tc, .int (zi tl)])), (tc, aI cI 20 tf), (g0, .inr (5, [.int (zi 0), .ref ps, .int (zi 0), .ref pk, .ref pa, .ref pb, .ref pq, .int (zi we), .int (zi wl), .ref pw, .int (zi tl), .ref pt])), (ps, aI cI 10 sf), (pk, aI cI 12 kf), (pa, aI cI 12 af), (pb, aI cI 12 bf), (pq, aI cI 12 zf), (pw, aI cI 12 wf), (pt, aI cI 20 tf), (qo, aL cL 1 (zup of (Int.toNat 0) (f_X4_between (sf sl.toNat) (sf ot.toNat) un)))]) [13, 14, 0, 1, 2, 3, 4, 5, 6, 16, 17, 7, 8, 9, 10, 11, 12, 15] (by decide) rfl
                    have hI9 : LI sf kf af bf zf wf tf 0 we fi ln wl tl := hI
                    refine W.widen (k := ce + 2) (n := sn + 19) (by omega) (by omega) ?_
                    exact K0 mc we fi ln mf sf kf af bf zf wl wf tl tf 0 (zup of (Int.toNat 0) (f_X4_between (sf sl.toNat) (sf ot.toNat) un)) H locs ls ⟨hP9, hD9, hS, hI9⟩ (lv_sub hl [2, 3, 4, 5, 6] rfl)
                  · skip
                    refine zw_iconst hx hb dL_law_783 ?_
                    exact absurd True.intro (by omega)
              · skip
                exact absurd True.intro (by omega)
            · skip
              rw [if_neg h6] at hbe
              by_cases h7 : un = 1
              · skip
                rw [if_pos h7] at hbe
                by_cases h8 : sf sl.toNat ≤ sf ot.toNat
                · skip
                  rw [if_pos h8] at hbe
                  have hwb := b_X5_wholes_1 (sf sl.toNat) (sf ot.toNat) (by omega)
                  refine lv_aload_n hx hb dL_law_708 rfl (lv_at hl 2 rfl) ?_
                  refine lv_aload_n hx hb dL_law_709 rfl (lv_at hl 1 rfl) ?_
                  refine lv_iload hx hb dL_law_710 (lv_at hl 0 rfl) ?_
                  refine zw_iconst hx hb dL_law_712 ?_
                  refine zw_iadd hx hb dL_law_713 ?_
                  refine zw_scr hx hb hX hbl hbA hS (by omega) (by omega) ⟨by omega, by omega⟩ hv1 dL_law_714 ?_
                  refine lv_aload_n hx hb dL_law_715 rfl (lv_at hl 1 rfl) ?_
                  refine lv_iload hx hb dL_law_716 (lv_at hl 0 rfl) ?_
                  refine zw_iconst hx hb dL_law_718 ?_
                  refine zw_iadd hx hb dL_law_719 ?_
                  refine zw_scr hx hb hX hbl hbA hS (by omega) (by omega) ⟨by omega, by omega⟩ hv2 dL_law_720 ?_
                  refine lv_aload_n hx hb dL_law_721 rfl (lv_at hl 1 rfl) ?_
                  refine lv_iload hx hb dL_law_722 (lv_at hl 0 rfl) ?_
                  refine zw_iconst hx hb dL_law_724 ?_
                  refine zw_iadd hx hb dL_law_725 ?_
                  refine zw_scr hx hb hX hbl hbA hS (by omega) (by omega) ⟨by omega, by omega⟩ hv3 dL_law_726 ?_
                  refine lv_aload_n hx hb dL_law_727 rfl (lv_at hl 4 rfl) ?_
                  have hh1 := c_L_between l dC dI cI cL h0 qs qr qm qw qt we sf qo of sl ot un H.size (by omega) (by omega) (by omega) (by omega) (by omega) (by omega)
                  have hPc := hP.sub (ws' := [(h0, .inr (4, [.ref qs, .ref qr, .ref qm, .ref qw, .ref qt, .int (zi we)])), (qs, aI cI 10 sf), (qo, aL cL 1 of)]) [0, 1, 17] rfl
                  have hKc : va_K (dC, dI) vwCl [(cI, .int), (cL, .long)] s := hK.sub (tys' := [(cI, .int), (cL, .long)]) [0, 1] rfl
                  have hDc := hD.sub (ws' := [(h0, .inr (4, [.ref qs, .ref qr, .ref qm, .ref qw, .ref qt, .int (zi we)])), (qs, aI cI 10 sf), (qo, aL cL 1 of)]) [0, 1, 17] (by decide) rfl
                  have hFc := va_free (wc := [(h0, .inr (4, [.ref qs, .ref qr, .ref qm, .ref qw, .ref qt, .int (zi we)])), (qs, aI cI 10 sf), (qo, aL cL 1 of)]) hD hS hA [0, 1, 17] rfl
                  refine va_calli (vx_runSW (As := [.ref h0, .int (zi sl), .int (zi ot), .int (zi un), .ref qo]) (rest := []) ⟨hx, hb, hml, hown, hts⟩ hh1 (vx_cwSW 5 hts gL_law_L_between rfl rfl rfl (by decide +kernel) ⟨Nat.le_of_ble_eq_true rfl, Nat.le_of_ble_eq_true rfl⟩) ⟨zPw.blind _ _ _ _ _, fun U hU hW => ⟨rfl, by rw [hU], by rw [hU]; exact hPc, va_K.moved hW.alike hKc, hDc.weaken (fun _ _ _ _ => trivial)⟩⟩ rfl rfl hl.1 rfl (lv_room (Nat.le_of_ble_eq_true rfl)) dL_law_728 ⟨by show _ ≤ 601024; omega, by show _ ≤ 7293033; omega⟩) hS (fun q _ h => hFc q h) hFc (fun r1 u t H1 locs ht hvm hw hB hz1 hk1 hS => ?_)
                  obtain ⟨hP1, hK1, hD1⟩ := hB
                  rw [ht] at hP1
                  obtain ⟨hP, hD⟩ := va_join (wr := [(qr, .inr (0, [.int (zi mc), .ref qd, .int (zi 0)])), (qm, .inr (2, [.ref qk, .int (zi fi), .int (zi ln)])), (qk, aI cI 366 mf), (qw, .inr (1, [.ref wc, .int (zi wl)])), (wc, aI cI 20 wf), (qt, .inr (1, [.ref tc, .int (zi tl)])), (tc, aI cI 20 tf), (g0, .inr (5, [.int (zi co), .ref ps, .int (zi 0), .ref pk, .ref pa, .ref pb, .ref pq, .int (zi we), .int (zi wl), .ref pw, .int (zi tl), .ref pt])), (ps, aI cI 10 sf), (pk, aI cI 12 kf), (pa, aI cI 12 af), (pb, aI cI 12 bf), (pq, aI cI 12 zf), (pw, aI cI 12 wf), (pt, aI cI 20 tf)]) (w1 := [(h0, .inr (4, [.ref qs, .ref qr, .ref qm, .ref qw, .ref qt, .int (zi we)])), (qs, aI cI 10 sf), (qo, aL cL 1 (zup of (Int.toNat 0) (f_X4_between (sf sl.toNat) (sf ot.toNat) un)))]) hP hD [0, 1, 17] [2, 3, 4, 5, 6, 7, 8, 9, 10, 11, 12, 13, 14, 15, 16] rfl rfl (by decide) (by decide) hk1 hFc hP1 hD1
                  generalize H1 = H at hP hS ⊢
                  obtain rfl : r1 = zi 0 := hw
                  have hP : va_P (dC, dI) vwCl [(qr, .inr (0, [.int (zi mc), .ref qd, .int (zi 0)])), (qm, .inr (2, [.ref qk, .int (zi fi), .int (zi ln)])), (qk, aI cI 366 mf), (qw, .inr (1, [.ref wc, .int (zi wl)])), (wc, aI cI 20 wf), (qt, .inr (1, [.ref tc, .int (zi tl)])), (tc, aI cI 20 tf), (g0, .inr (5, [.int (zi co), .ref ps, .int (zi 0), .ref pk, .ref pa, .ref pb, .ref pq, .int (zi we), .int (zi wl), .ref pw, .int (zi tl), .ref pt])), (ps, aI cI 10 sf), (pk, aI cI 12 kf), (pa, aI cI 12 af), (pb, aI cI 12 bf), (pq, aI cI 12 zf), (pw, aI cI 12 wf), (pt, aI cI 20 tf), (h0, .inr (4, [.ref qs, .ref qr, .ref qm, .ref qw, .ref qt, .int (zi we)])), (qs, aI cI 10 sf), (qo, aL cL 1 (zup of (Int.toNat 0) (f_X4_between (sf sl.toNat) (sf ot.toNat) un)))] H := hP
                  have hD : va_D A [(qr, .inr (0, [.int (zi mc), .ref qd, .int (zi 0)])), (qm, .inr (2, [.ref qk, .int (zi fi), .int (zi ln)])), (qk, aI cI 366 mf), (qw, .inr (1, [.ref wc, .int (zi wl)])), (wc, aI cI 20 wf), (qt, .inr (1, [.ref tc, .int (zi tl)])), (tc, aI cI 20 tf), (g0, .inr (5, [.int (zi co), .ref ps, .int (zi 0), .ref pk, .ref pa, .ref pb, .ref pq, .int (zi we), .int (zi wl), .ref pw, .int (zi tl), .ref pt])), (ps, aI cI 10 sf), (pk, aI cI 12 kf), (pa, aI cI 12 af), (pb, aI cI 12 bf), (pq, aI cI 12 zf), (pw, aI cI 12 wf), (pt, aI cI 20 tf), (h0, .inr (4, [.ref qs, .ref qr, .ref qm, .ref qw, .ref qt, .int (zi we)])), (qs, aI cI 10 sf), (qo, aL cL 1 (zup of (Int.toNat 0) (f_X4_between (sf sl.toNat) (sf ot.toNat) un)))] := hD
                  refine lv_istore (lv' := [(5, .int (zi 0)), (4, .int (zi ii)), (0, .ref b), (1, .ref h0), (2, .ref g0), (3, .ref qo)]) hx hb dL_law_731 hl (by decide) rfl (fun ls hl => ?_)
                  refine lv_aload_n hx hb dL_law_733 rfl (lv_at hl 4 rfl) ?_
                  refine lv_aload_n hx hb dL_law_734 rfl (lv_at hl 2 rfl) ?_
                  refine lv_iload hx hb dL_law_735 (lv_at hl 1 rfl) ?_
                  refine zw_iconst hx hb dL_law_737 ?_
                  refine zw_iadd hx hb dL_law_738 ?_
                  refine zw_scr hx hb hX hbl hbA hS (by omega) (by omega) ⟨by omega, by omega⟩ hv1 dL_law_739 ?_
                  refine lv_aload_n hx hb dL_law_740 rfl (lv_at hl 2 rfl) ?_
                  refine lv_iload hx hb dL_law_741 (lv_at hl 1 rfl) ?_
                  refine zw_iconst hx hb dL_law_743 ?_
                  refine zw_iadd hx hb dL_law_744 ?_
                  refine zw_scr hx hb hX hbl hbA hS (by omega) (by omega) ⟨by omega, by omega⟩ hv2 dL_law_745 ?_
                  refine lv_aload_n hx hb dL_law_746 rfl (lv_at hl 2 rfl) ?_
                  refine lv_iload hx hb dL_law_747 (lv_at hl 1 rfl) ?_
                  refine zw_iconst hx hb dL_law_749 ?_
                  refine zw_iadd hx hb dL_law_750 ?_
                  refine zw_scr hx hb hX hbl hbA hS (by omega) (by omega) ⟨by omega, by omega⟩ hv3 dL_law_751 ?_
                  have hh2 := c_X5_between_m l dC dI cI g0 ps pk pa pb pq pw pt co 0 we wl tl sf sl ot un H.size (by omega) (by omega) (by omega) (by omega) (by omega) (by omega)
                  have hPc := hP.sub (ws' := [(g0, .inr (5, [.int (zi co), .ref ps, .int (zi 0), .ref pk, .ref pa, .ref pb, .ref pq, .int (zi we), .int (zi wl), .ref pw, .int (zi tl), .ref pt])), (ps, aI cI 10 sf)]) [7, 8] rfl
                  have hKc : va_K (dC, dI) vwCl [(cI, .int)] s := hK.sub (tys' := [(cI, .int)]) [0] rfl
                  have hDc := hD.sub (ws' := [(g0, .inr (5, [.int (zi co), .ref ps, .int (zi 0), .ref pk, .ref pa, .ref pb, .ref pq, .int (zi we), .int (zi wl), .ref pw, .int (zi tl), .ref pt])), (ps, aI cI 10 sf)]) [7, 8] (by decide) rfl
                  have hFc := va_free (wc := [(g0, .inr (5, [.int (zi co), .ref ps, .int (zi 0), .ref pk, .ref pa, .ref pb, .ref pq, .int (zi we), .int (zi wl), .ref pw, .int (zi tl), .ref pt])), (ps, aI cI 10 sf)]) hD hS hA [7, 8] rfl
                  refine va_calli (va_runV (As := [.int (zi sl), .int (zi ot), .int (zi un)]) (rest := []) ⟨hx, hb, hml, hown, hts⟩ hh2 (cwV 3 hts gL_law_X5_between rfl rfl rfl (by decide +kernel) ⟨Nat.le_of_ble_eq_true rfl, Nat.le_of_ble_eq_true rfl⟩) ⟨zPw.blind _ _ _ _ _, va_recv hKc hPc (ci := 5) (q0 := 0) rfl rfl, fun U hU hW => ⟨rfl, by rw [hU], by rw [hU]; exact hPc, va_K.moved hW.alike hKc, hDc.weaken (fun _ _ _ _ => trivial)⟩⟩ rfl rfl hl.1 rfl (lv_room (Nat.le_of_ble_eq_true rfl)) dL_law_752 ⟨by show _ ≤ 601024; omega, by show _ ≤ 7293033; omega⟩) hS (fun q _ h => hFc q h) hFc (fun r2 u t H1 locs ht hvm hw hB hz1 hk1 hS => ?_)
                  obtain ⟨hP1, hK1, hD1⟩ := hB
                  rw [ht] at hP1
                  obtain ⟨hP, hD⟩ := va_join (wr := [(qr, .inr (0, [.int (zi mc), .ref qd, .int (zi 0)])), (qm, .inr (2, [.ref qk, .int (zi fi), .int (zi ln)])), (qk, aI cI 366 mf), (qw, .inr (1, [.ref wc, .int (zi wl)])), (wc, aI cI 20 wf), (qt, .inr (1, [.ref tc, .int (zi tl)])), (tc, aI cI 20 tf), (pk, aI cI 12 kf), (pa, aI cI 12 af), (pb, aI cI 12 bf), (pq, aI cI 12 zf), (pw, aI cI 12 wf), (pt, aI cI 20 tf), (h0, .inr (4, [.ref qs, .ref qr, .ref qm, .ref qw, .ref qt, .int (zi we)])), (qs, aI cI 10 sf), (qo, aL cL 1 (zup of (Int.toNat 0) (f_X4_between (sf sl.toNat) (sf ot.toNat) un)))]) (w1 := [(g0, .inr (5, [.int (zi 0), .ref ps, .int (zi 0), .ref pk, .ref pa, .ref pb, .ref pq, .int (zi we), .int (zi wl), .ref pw, .int (zi tl), .ref pt])), (ps, aI cI 10 sf)]) hP hD [7, 8] [0, 1, 2, 3, 4, 5, 6, 9, 10, 11, 12, 13, 14, 15, 16, 17] rfl rfl (by decide) (by decide) hk1 hFc hP1 hD1
                  generalize H1 = H at hP hS ⊢
                  obtain rfl : r2 = zi (f_X5_wholes_1 (sf sl.toNat) (sf ot.toNat)) := hw
                  have hP : va_P (dC, dI) vwCl [(qr, .inr (0, [.int (zi mc), .ref qd, .int (zi 0)])), (qm, .inr (2, [.ref qk, .int (zi fi), .int (zi ln)])), (qk, aI cI 366 mf), (qw, .inr (1, [.ref wc, .int (zi wl)])), (wc, aI cI 20 wf), (qt, .inr (1, [.ref tc, .int (zi tl)])), (tc, aI cI 20 tf), (pk, aI cI 12 kf), (pa, aI cI 12 af), (pb, aI cI 12 bf), (pq, aI cI 12 zf), (pw, aI cI 12 wf), (pt, aI cI 20 tf), (h0, .inr (4, [.ref qs, .ref qr, .ref qm, .ref qw, .ref qt, .int (zi we)])), (qs, aI cI 10 sf), (qo, aL cL 1 (zup of (Int.toNat 0) (f_X4_between (sf sl.toNat) (sf ot.toNat) un))), (g0, .inr (5, [.int (zi 0), .ref ps, .int (zi 0), .ref pk, .ref pa, .ref pb, .ref pq, .int (zi we), .int (zi wl), .ref pw, .int (zi tl), .ref pt])), (ps, aI cI 10 sf)] H := hP
                  have hD : va_D A [(qr, .inr (0, [.int (zi mc), .ref qd, .int (zi 0)])), (qm, .inr (2, [.ref qk, .int (zi fi), .int (zi ln)])), (qk, aI cI 366 mf), (qw, .inr (1, [.ref wc, .int (zi wl)])), (wc, aI cI 20 wf), (qt, .inr (1, [.ref tc, .int (zi tl)])), (tc, aI cI 20 tf), (pk, aI cI 12 kf), (pa, aI cI 12 af), (pb, aI cI 12 bf), (pq, aI cI 12 zf), (pw, aI cI 12 wf), (pt, aI cI 20 tf), (h0, .inr (4, [.ref qs, .ref qr, .ref qm, .ref qw, .ref qt, .int (zi we)])), (qs, aI cI 10 sf), (qo, aL cL 1 (zup of (Int.toNat 0) (f_X4_between (sf sl.toNat) (sf ot.toNat) un))), (g0, .inr (5, [.int (zi 0), .ref ps, .int (zi 0), .ref pk, .ref pa, .ref pb, .ref pq, .int (zi we), .int (zi wl), .ref pw, .int (zi tl), .ref pt])), (ps, aI cI 10 sf)] := hD
                  refine zw_top (fun x3 ex3 => ?_)
                  refine lv_istore (lv' := [(6, .int (zi x3)), (5, .int (zi 0)), (4, .int (zi ii)), (0, .ref b), (1, .ref h0), (2, .ref g0), (3, .ref qo)]) hx hb dL_law_755 hl (by decide) rfl (fun ls hl => ?_)
                  refine lv_aload_n hx hb dL_law_757 rfl (lv_at hl 5 rfl) ?_
                  have hh4 := c_X5_thrown l dC dI cI g0 ps pk pa pb pq pw pt 0 0 we wl tl sf 
                  have hPc := hP.sub (ws' := [(g0, .inr (5, [.int (zi 0), .ref ps, .int (zi 0), .ref pk, .ref pa, .ref pb, .ref pq, .int (zi we), .int (zi wl), .ref pw, .int (zi tl), .ref pt])), (ps, aI cI 10 sf)]) [16, 17] rfl
                  have hKc : va_K (dC, dI) vwCl [(cI, .int)] s := hK.sub (tys' := [(cI, .int)]) [0] rfl
                  refine vp_callSi (va_Run.run (va_runV (As := []) (rest := []) ⟨hx, hb, hml, hown, hts⟩ hh4 (cwV 0 hts gL_law_X5_thrown rfl rfl rfl (by decide +kernel) ⟨Nat.le_of_ble_eq_true rfl, Nat.le_of_ble_eq_true rfl⟩) ⟨zPr.blind _ _ _ _, va_recv hKc hPc (ci := 5) (q0 := 0) rfl rfl, fun U hU hW => ⟨rfl, by rw [hU]; exact hPc, va_K.moved hW.alike hKc⟩⟩ rfl rfl hl.1 rfl (lv_room (Nat.le_of_ble_eq_true rfl)) dL_law_758 ⟨by show _ ≤ 601024; omega, by show _ ≤ 7293033; omega⟩)) (fun r4 (hr4 : r4 = zi 0) => ?_)
                  subst hr4
                  refine lv_iload hx hb dL_law_761 (lv_at hl 1 rfl) ?_
                  refine zw_icmp_eq (tgt := 768) hx hb dL_law_763 (by decide) ⟨by omega, by omega⟩ ⟨by omega, by omega⟩ (fun h5 => ?_) (fun h5 => ?_)
                  · skip
                    refine lv_iload hx hb dL_law_768 (lv_at hl 1 rfl) ?_
                    refine zw_if_ne (tgt := 785) hx hb dL_law_770 (by decide) ⟨by omega, by omega⟩ (fun h6 => ?_) (fun h6 => ?_)
                    · skip
                      exact absurd True.intro (by omega)
                    · skip
                      refine lv_aload_n hx hb dL_law_773 rfl (lv_at hl 6 rfl) ?_
                      refine zw_iconst hx hb dL_law_774 ?_
                      refine zw_lald hx hb hK hP 15 1 rfl rfl (by omega) (by omega) ⟨by omega, by omega⟩ dL_law_775 ?_
                      rw [zup_at]
                      refine lv_iload hx hb dL_law_776 (lv_at hl 0 rfl) ?_
                      refine zw_i2l hx hb dL_law_778 ⟨by omega, by omega⟩ ?_
                      refine zw_lcmp_eq (tgt := 785) hx hb dL_law_779 dL_law_780 (by decide) ⟨by omega, by omega⟩ ⟨by omega, by omega⟩ (fun h7 => ?_) (fun h7 => ?_)
                      · skip
                        refine lv_goto (tgt := 1499) hx hb dL_law_785 (by decide) ?_
                        subst ex3
                        have hP9 : va_P (dC, dI) vwCl [(h0, .inr (4, [.ref qs, .ref qr, .ref qm, .ref qw, .ref qt, .int (zi we)])), (qs, aI cI 10 sf), (qr, .inr (0, [.int (zi mc), .ref qd, .int (zi 0)])), (qm, .inr (2, [.ref qk, .int (zi fi), .int (zi ln)])), (qk, aI cI 366 mf), (qw, .inr (1, [.ref wc, .int (zi wl)])), (wc, aI cI 20 wf), (qt, .inr (1, [.ref tc, .int (zi tl)])), (tc, aI cI 20 tf), (g0, .inr (5, [.int (zi 0), .ref ps, .int (zi 0), .ref pk, .ref pa, .ref pb, .ref pq, .int (zi we), .int (zi wl), .ref pw, .int (zi tl), .ref pt])), (ps, aI cI 10 sf), (pk, aI cI 12 kf), (pa, aI cI 12 af), (pb, aI cI 12 bf), (pq, aI cI 12 zf), (pw, aI cI 12 wf), (pt, aI cI 20 tf), (qo, aL cL 1 (zup of (Int.toNat 0) (f_X4_between (sf sl.toNat) (sf ot.toNat) un)))] H := hP.sub (ws' := [(h0, .inr (4, [.ref qs, .ref qr, .ref qm, .ref qw, .ref qt, .int (zi we)])), (qs, aI cI 10 sf), (qr, .inr (0, [.int (zi mc), .ref qd, .int (zi 0)])), (qm, .inr (2, [.ref qk, .int (zi fi), .int (zi ln)])), (qk, aI cI 366 mf), (qw, .inr (1, [.ref wc, .int (zi wl)])), (wc, aI cI 20 wf), (qt, .inr (1, [.ref tc, .int (zi tl)])), (tc, aI cI 20 tf), (g0, .inr (5, [.int (zi 0), .ref ps, .int (zi 0), .ref pk, .ref pa, .ref pb, .ref pq, .int (zi we), .int (zi wl), .ref pw, .int (zi tl), .ref pt])), (ps, aI cI 10 sf), (pk, aI cI 12 kf), (pa, aI cI 12 af), (pb, aI cI 12 bf), (pq, aI cI 12 zf), (pw, aI cI 12 wf), (pt, aI cI 20 tf), (qo, aL cL 1 (zup of (Int.toNat 0) (f_X4_between (sf sl.toNat) (sf ot.toNat) un)))]) [13, 14, 0, 1, 2, 3, 4, 5, 6, 16, 17, 7, 8, 9, 10, 11, 12, 15] rfl
                        have hD9 : va_D A [(h0, .inr (4, [.ref qs, .ref qr, .ref qm, .ref qw, .ref qt, .int (zi we)])), (qs, aI cI 10 sf), (qr, .inr (0, [.int (zi mc), .ref qd, .int (zi 0)])), (qm, .inr (2, [.ref qk, .int (zi fi), .int (zi ln)])), (qk, aI cI 366 mf), (qw, .inr (1, [.ref wc, .int (zi wl)])), (wc, aI cI 20 wf), (qt, .inr (1, [.ref tc, .int (zi tl)])), (tc, aI cI 20 tf), (g0, .inr (5, [.int (zi 0), .ref ps, .int (zi 0), .ref pk, .ref pa, .ref pb, .ref pq, .int (zi we), .int (zi wl), .ref pw, .int (zi tl), .ref pt])), (ps, aI cI 10 sf), (pk, aI cI 12 kf), (pa, aI cI 12 af), (pb, aI cI 12 bf), (pq, aI cI 12 zf), (pw, aI cI 12 wf), (pt, aI cI 20 tf), (qo, aL cL 1 (zup of (Int.toNat 0) (f_X4_between (sf sl.toNat) (sf ot.toNat) un)))] := hD.sub (ws' := [(h0, .inr (4, [.ref qs, .ref qr, .ref qm, .ref qw, .ref qt, .int (zi we)])), (qs, aI cI 10 sf), (qr, .inr (0, [.int (zi mc), .ref qd, .int (zi 0)])), (qm, .inr (2, [.ref qk, .int (zi fi), .int (zi ln)])), (qk, aI cI 366 mf), (qw, .inr (1, [.ref wc, .int (zi wl)])), (wc, aI cI 20 wf), (qt, .inr (1, [.ref tc, .int (zi tl)])), (tc, aI cI 20 tf), (g0, .inr (5, [.int (zi 0), .ref ps, .int (zi 0), .ref pk, .ref pa, .ref pb, .ref pq, .int (zi we), .int (zi wl), .ref pw, .int (zi tl), .ref pt])), (ps, aI cI 10 sf), (pk, aI cI 12 kf), (pa, aI cI 12 af), (pb, aI cI 12 bf), (pq, aI cI 12 zf), (pw, aI cI 12 wf), (pt, aI cI 20 tf), (qo, aL cL 1 (zup of (Int.toNat 0) (f_X4_between (sf sl.toNat) (sf ot.toNat) un)))]) [13, 14, 0, 1, 2, 3, 4, 5, 6, 16, 17, 7, 8, 9, 10, 11, 12, 15] (by decide) rfl
                        have hI9 : LI sf kf af bf zf wf tf 0 we fi ln wl tl := hI
                        refine W.widen (k := ce + 2) (n := sn + 19) (by omega) (by omega) ?_
                        exact K0 mc we fi ln mf sf kf af bf zf wl wf tl tf 0 (zup of (Int.toNat 0) (f_X4_between (sf sl.toNat) (sf ot.toNat) un)) H locs ls ⟨hP9, hD9, hS, hI9⟩ (lv_sub hl [2, 3, 4, 5, 6] rfl)
                      · skip
                        refine zw_iconst hx hb dL_law_783 ?_
                        exact absurd True.intro (by omega)
                  · skip
                    exact absurd True.intro (by omega)
                · skip
                  rw [if_neg h8] at hbe
                  have hwb := b_X5_wholes_1 (sf ot.toNat) (sf sl.toNat) (by omega)
                  refine lv_aload_n hx hb dL_law_708 rfl (lv_at hl 2 rfl) ?_
                  refine lv_aload_n hx hb dL_law_709 rfl (lv_at hl 1 rfl) ?_
                  refine lv_iload hx hb dL_law_710 (lv_at hl 0 rfl) ?_
                  refine zw_iconst hx hb dL_law_712 ?_
                  refine zw_iadd hx hb dL_law_713 ?_
                  refine zw_scr hx hb hX hbl hbA hS (by omega) (by omega) ⟨by omega, by omega⟩ hv1 dL_law_714 ?_
                  refine lv_aload_n hx hb dL_law_715 rfl (lv_at hl 1 rfl) ?_
                  refine lv_iload hx hb dL_law_716 (lv_at hl 0 rfl) ?_
                  refine zw_iconst hx hb dL_law_718 ?_
                  refine zw_iadd hx hb dL_law_719 ?_
                  refine zw_scr hx hb hX hbl hbA hS (by omega) (by omega) ⟨by omega, by omega⟩ hv2 dL_law_720 ?_
                  refine lv_aload_n hx hb dL_law_721 rfl (lv_at hl 1 rfl) ?_
                  refine lv_iload hx hb dL_law_722 (lv_at hl 0 rfl) ?_
                  refine zw_iconst hx hb dL_law_724 ?_
                  refine zw_iadd hx hb dL_law_725 ?_
                  refine zw_scr hx hb hX hbl hbA hS (by omega) (by omega) ⟨by omega, by omega⟩ hv3 dL_law_726 ?_
                  refine lv_aload_n hx hb dL_law_727 rfl (lv_at hl 4 rfl) ?_
                  have hh1 := c_L_between l dC dI cI cL h0 qs qr qm qw qt we sf qo of sl ot un H.size (by omega) (by omega) (by omega) (by omega) (by omega) (by omega)
                  have hPc := hP.sub (ws' := [(h0, .inr (4, [.ref qs, .ref qr, .ref qm, .ref qw, .ref qt, .int (zi we)])), (qs, aI cI 10 sf), (qo, aL cL 1 of)]) [0, 1, 17] rfl
                  have hKc : va_K (dC, dI) vwCl [(cI, .int), (cL, .long)] s := hK.sub (tys' := [(cI, .int), (cL, .long)]) [0, 1] rfl
                  have hDc := hD.sub (ws' := [(h0, .inr (4, [.ref qs, .ref qr, .ref qm, .ref qw, .ref qt, .int (zi we)])), (qs, aI cI 10 sf), (qo, aL cL 1 of)]) [0, 1, 17] (by decide) rfl
                  have hFc := va_free (wc := [(h0, .inr (4, [.ref qs, .ref qr, .ref qm, .ref qw, .ref qt, .int (zi we)])), (qs, aI cI 10 sf), (qo, aL cL 1 of)]) hD hS hA [0, 1, 17] rfl
                  refine va_calli (vx_runSW (As := [.ref h0, .int (zi sl), .int (zi ot), .int (zi un), .ref qo]) (rest := []) ⟨hx, hb, hml, hown, hts⟩ hh1 (vx_cwSW 5 hts gL_law_L_between rfl rfl rfl (by decide +kernel) ⟨Nat.le_of_ble_eq_true rfl, Nat.le_of_ble_eq_true rfl⟩) ⟨zPw.blind _ _ _ _ _, fun U hU hW => ⟨rfl, by rw [hU], by rw [hU]; exact hPc, va_K.moved hW.alike hKc, hDc.weaken (fun _ _ _ _ => trivial)⟩⟩ rfl rfl hl.1 rfl (lv_room (Nat.le_of_ble_eq_true rfl)) dL_law_728 ⟨by show _ ≤ 601024; omega, by show _ ≤ 7293033; omega⟩) hS (fun q _ h => hFc q h) hFc (fun r1 u t H1 locs ht hvm hw hB hz1 hk1 hS => ?_)
                  obtain ⟨hP1, hK1, hD1⟩ := hB
                  rw [ht] at hP1
                  obtain ⟨hP, hD⟩ := va_join (wr := [(qr, .inr (0, [.int (zi mc), .ref qd, .int (zi 0)])), (qm, .inr (2, [.ref qk, .int (zi fi), .int (zi ln)])), (qk, aI cI 366 mf), (qw, .inr (1, [.ref wc, .int (zi wl)])), (wc, aI cI 20 wf), (qt, .inr (1, [.ref tc, .int (zi tl)])), (tc, aI cI 20 tf), (g0, .inr (5, [.int (zi co), .ref ps, .int (zi 0), .ref pk, .ref pa, .ref pb, .ref pq, .int (zi we), .int (zi wl), .ref pw, .int (zi tl), .ref pt])), (ps, aI cI 10 sf), (pk, aI cI 12 kf), (pa, aI cI 12 af), (pb, aI cI 12 bf), (pq, aI cI 12 zf), (pw, aI cI 12 wf), (pt, aI cI 20 tf)]) (w1 := [(h0, .inr (4, [.ref qs, .ref qr, .ref qm, .ref qw, .ref qt, .int (zi we)])), (qs, aI cI 10 sf), (qo, aL cL 1 (zup of (Int.toNat 0) (f_X4_between (sf sl.toNat) (sf ot.toNat) un)))]) hP hD [0, 1, 17] [2, 3, 4, 5, 6, 7, 8, 9, 10, 11, 12, 13, 14, 15, 16] rfl rfl (by decide) (by decide) hk1 hFc hP1 hD1
                  generalize H1 = H at hP hS ⊢
                  obtain rfl : r1 = zi 0 := hw
                  have hP : va_P (dC, dI) vwCl [(qr, .inr (0, [.int (zi mc), .ref qd, .int (zi 0)])), (qm, .inr (2, [.ref qk, .int (zi fi), .int (zi ln)])), (qk, aI cI 366 mf), (qw, .inr (1, [.ref wc, .int (zi wl)])), (wc, aI cI 20 wf), (qt, .inr (1, [.ref tc, .int (zi tl)])), (tc, aI cI 20 tf), (g0, .inr (5, [.int (zi co), .ref ps, .int (zi 0), .ref pk, .ref pa, .ref pb, .ref pq, .int (zi we), .int (zi wl), .ref pw, .int (zi tl), .ref pt])), (ps, aI cI 10 sf), (pk, aI cI 12 kf), (pa, aI cI 12 af), (pb, aI cI 12 bf), (pq, aI cI 12 zf), (pw, aI cI 12 wf), (pt, aI cI 20 tf), (h0, .inr (4, [.ref qs, .ref qr, .ref qm, .ref qw, .ref qt, .int (zi we)])), (qs, aI cI 10 sf), (qo, aL cL 1 (zup of (Int.toNat 0) (f_X4_between (sf sl.toNat) (sf ot.toNat) un)))] H := hP
                  have hD : va_D A [(qr, .inr (0, [.int (zi mc), .ref qd, .int (zi 0)])), (qm, .inr (2, [.ref qk, .int (zi fi), .int (zi ln)])), (qk, aI cI 366 mf), (qw, .inr (1, [.ref wc, .int (zi wl)])), (wc, aI cI 20 wf), (qt, .inr (1, [.ref tc, .int (zi tl)])), (tc, aI cI 20 tf), (g0, .inr (5, [.int (zi co), .ref ps, .int (zi 0), .ref pk, .ref pa, .ref pb, .ref pq, .int (zi we), .int (zi wl), .ref pw, .int (zi tl), .ref pt])), (ps, aI cI 10 sf), (pk, aI cI 12 kf), (pa, aI cI 12 af), (pb, aI cI 12 bf), (pq, aI cI 12 zf), (pw, aI cI 12 wf), (pt, aI cI 20 tf), (h0, .inr (4, [.ref qs, .ref qr, .ref qm, .ref qw, .ref qt, .int (zi we)])), (qs, aI cI 10 sf), (qo, aL cL 1 (zup of (Int.toNat 0) (f_X4_between (sf sl.toNat) (sf ot.toNat) un)))] := hD
                  refine lv_istore (lv' := [(5, .int (zi 0)), (4, .int (zi ii)), (0, .ref b), (1, .ref h0), (2, .ref g0), (3, .ref qo)]) hx hb dL_law_731 hl (by decide) rfl (fun ls hl => ?_)
                  refine lv_aload_n hx hb dL_law_733 rfl (lv_at hl 4 rfl) ?_
                  refine lv_aload_n hx hb dL_law_734 rfl (lv_at hl 2 rfl) ?_
                  refine lv_iload hx hb dL_law_735 (lv_at hl 1 rfl) ?_
                  refine zw_iconst hx hb dL_law_737 ?_
                  refine zw_iadd hx hb dL_law_738 ?_
                  refine zw_scr hx hb hX hbl hbA hS (by omega) (by omega) ⟨by omega, by omega⟩ hv1 dL_law_739 ?_
                  refine lv_aload_n hx hb dL_law_740 rfl (lv_at hl 2 rfl) ?_
                  refine lv_iload hx hb dL_law_741 (lv_at hl 1 rfl) ?_
                  refine zw_iconst hx hb dL_law_743 ?_
                  refine zw_iadd hx hb dL_law_744 ?_
                  refine zw_scr hx hb hX hbl hbA hS (by omega) (by omega) ⟨by omega, by omega⟩ hv2 dL_law_745 ?_
                  refine lv_aload_n hx hb dL_law_746 rfl (lv_at hl 2 rfl) ?_
                  refine lv_iload hx hb dL_law_747 (lv_at hl 1 rfl) ?_
                  refine zw_iconst hx hb dL_law_749 ?_
                  refine zw_iadd hx hb dL_law_750 ?_
                  refine zw_scr hx hb hX hbl hbA hS (by omega) (by omega) ⟨by omega, by omega⟩ hv3 dL_law_751 ?_
                  have hh2 := c_X5_between_nm l dC dI cI g0 ps pk pa pb pq pw pt co 0 we wl tl sf sl ot un H.size (by omega) (by omega) (by omega) (by omega) (by omega) (by omega)
                  have hPc := hP.sub (ws' := [(g0, .inr (5, [.int (zi co), .ref ps, .int (zi 0), .ref pk, .ref pa, .ref pb, .ref pq, .int (zi we), .int (zi wl), .ref pw, .int (zi tl), .ref pt])), (ps, aI cI 10 sf)]) [7, 8] rfl
                  have hKc : va_K (dC, dI) vwCl [(cI, .int)] s := hK.sub (tys' := [(cI, .int)]) [0] rfl
                  have hDc := hD.sub (ws' := [(g0, .inr (5, [.int (zi co), .ref ps, .int (zi 0), .ref pk, .ref pa, .ref pb, .ref pq, .int (zi we), .int (zi wl), .ref pw, .int (zi tl), .ref pt])), (ps, aI cI 10 sf)]) [7, 8] (by decide) rfl
                  have hFc := va_free (wc := [(g0, .inr (5, [.int (zi co), .ref ps, .int (zi 0), .ref pk, .ref pa, .ref pb, .ref pq, .int (zi we), .int (zi wl), .ref pw, .int (zi tl), .ref pt])), (ps, aI cI 10 sf)]) hD hS hA [7, 8] rfl
                  refine va_calli (va_runV (As := [.int (zi sl), .int (zi ot), .int (zi un)]) (rest := []) ⟨hx, hb, hml, hown, hts⟩ hh2 (cwV 3 hts gL_law_X5_between rfl rfl rfl (by decide +kernel) ⟨Nat.le_of_ble_eq_true rfl, Nat.le_of_ble_eq_true rfl⟩) ⟨zPw.blind _ _ _ _ _, va_recv hKc hPc (ci := 5) (q0 := 0) rfl rfl, fun U hU hW => ⟨rfl, by rw [hU], by rw [hU]; exact hPc, va_K.moved hW.alike hKc, hDc.weaken (fun _ _ _ _ => trivial)⟩⟩ rfl rfl hl.1 rfl (lv_room (Nat.le_of_ble_eq_true rfl)) dL_law_752 ⟨by show _ ≤ 601024; omega, by show _ ≤ 7293033; omega⟩) hS (fun q _ h => hFc q h) hFc (fun r2 u t H1 locs ht hvm hw hB hz1 hk1 hS => ?_)
                  obtain ⟨hP1, hK1, hD1⟩ := hB
                  rw [ht] at hP1
                  obtain ⟨hP, hD⟩ := va_join (wr := [(qr, .inr (0, [.int (zi mc), .ref qd, .int (zi 0)])), (qm, .inr (2, [.ref qk, .int (zi fi), .int (zi ln)])), (qk, aI cI 366 mf), (qw, .inr (1, [.ref wc, .int (zi wl)])), (wc, aI cI 20 wf), (qt, .inr (1, [.ref tc, .int (zi tl)])), (tc, aI cI 20 tf), (pk, aI cI 12 kf), (pa, aI cI 12 af), (pb, aI cI 12 bf), (pq, aI cI 12 zf), (pw, aI cI 12 wf), (pt, aI cI 20 tf), (h0, .inr (4, [.ref qs, .ref qr, .ref qm, .ref qw, .ref qt, .int (zi we)])), (qs, aI cI 10 sf), (qo, aL cL 1 (zup of (Int.toNat 0) (f_X4_between (sf sl.toNat) (sf ot.toNat) un)))]) (w1 := [(g0, .inr (5, [.int (zi 0), .ref ps, .int (zi 0), .ref pk, .ref pa, .ref pb, .ref pq, .int (zi we), .int (zi wl), .ref pw, .int (zi tl), .ref pt])), (ps, aI cI 10 sf)]) hP hD [7, 8] [0, 1, 2, 3, 4, 5, 6, 9, 10, 11, 12, 13, 14, 15, 16, 17] rfl rfl (by decide) (by decide) hk1 hFc hP1 hD1
                  generalize H1 = H at hP hS ⊢
                  obtain rfl : r2 = zi (-(f_X5_wholes_1 (sf ot.toNat) (sf sl.toNat))) := hw
                  have hP : va_P (dC, dI) vwCl [(qr, .inr (0, [.int (zi mc), .ref qd, .int (zi 0)])), (qm, .inr (2, [.ref qk, .int (zi fi), .int (zi ln)])), (qk, aI cI 366 mf), (qw, .inr (1, [.ref wc, .int (zi wl)])), (wc, aI cI 20 wf), (qt, .inr (1, [.ref tc, .int (zi tl)])), (tc, aI cI 20 tf), (pk, aI cI 12 kf), (pa, aI cI 12 af), (pb, aI cI 12 bf), (pq, aI cI 12 zf), (pw, aI cI 12 wf), (pt, aI cI 20 tf), (h0, .inr (4, [.ref qs, .ref qr, .ref qm, .ref qw, .ref qt, .int (zi we)])), (qs, aI cI 10 sf), (qo, aL cL 1 (zup of (Int.toNat 0) (f_X4_between (sf sl.toNat) (sf ot.toNat) un))), (g0, .inr (5, [.int (zi 0), .ref ps, .int (zi 0), .ref pk, .ref pa, .ref pb, .ref pq, .int (zi we), .int (zi wl), .ref pw, .int (zi tl), .ref pt])), (ps, aI cI 10 sf)] H := hP
                  have hD : va_D A [(qr, .inr (0, [.int (zi mc), .ref qd, .int (zi 0)])), (qm, .inr (2, [.ref qk, .int (zi fi), .int (zi ln)])), (qk, aI cI 366 mf), (qw, .inr (1, [.ref wc, .int (zi wl)])), (wc, aI cI 20 wf), (qt, .inr (1, [.ref tc, .int (zi tl)])), (tc, aI cI 20 tf), (pk, aI cI 12 kf), (pa, aI cI 12 af), (pb, aI cI 12 bf), (pq, aI cI 12 zf), (pw, aI cI 12 wf), (pt, aI cI 20 tf), (h0, .inr (4, [.ref qs, .ref qr, .ref qm, .ref qw, .ref qt, .int (zi we)])), (qs, aI cI 10 sf), (qo, aL cL 1 (zup of (Int.toNat 0) (f_X4_between (sf sl.toNat) (sf ot.toNat) un))), (g0, .inr (5, [.int (zi 0), .ref ps, .int (zi 0), .ref pk, .ref pa, .ref pb, .ref pq, .int (zi we), .int (zi wl), .ref pw, .int (zi tl), .ref pt])), (ps, aI cI 10 sf)] := hD
                  refine zw_top (fun x3 ex3 => ?_)
                  refine lv_istore (lv' := [(6, .int (zi x3)), (5, .int (zi 0)), (4, .int (zi ii)), (0, .ref b), (1, .ref h0), (2, .ref g0), (3, .ref qo)]) hx hb dL_law_755 hl (by decide) rfl (fun ls hl => ?_)
                  refine lv_aload_n hx hb dL_law_757 rfl (lv_at hl 5 rfl) ?_
                  have hh4 := c_X5_thrown l dC dI cI g0 ps pk pa pb pq pw pt 0 0 we wl tl sf 
                  have hPc := hP.sub (ws' := [(g0, .inr (5, [.int (zi 0), .ref ps, .int (zi 0), .ref pk, .ref pa, .ref pb, .ref pq, .int (zi we), .int (zi wl), .ref pw, .int (zi tl), .ref pt])), (ps, aI cI 10 sf)]) [16, 17] rfl
                  have hKc : va_K (dC, dI) vwCl [(cI, .int)] s := hK.sub (tys' := [(cI, .int)]) [0] rfl
                  refine vp_callSi (va_Run.run (va_runV (As := []) (rest := []) ⟨hx, hb, hml, hown, hts⟩ hh4 (cwV 0 hts gL_law_X5_thrown rfl rfl rfl (by decide +kernel) ⟨Nat.le_of_ble_eq_true rfl, Nat.le_of_ble_eq_true rfl⟩) ⟨zPr.blind _ _ _ _, va_recv hKc hPc (ci := 5) (q0 := 0) rfl rfl, fun U hU hW => ⟨rfl, by rw [hU]; exact hPc, va_K.moved hW.alike hKc⟩⟩ rfl rfl hl.1 rfl (lv_room (Nat.le_of_ble_eq_true rfl)) dL_law_758 ⟨by show _ ≤ 601024; omega, by show _ ≤ 7293033; omega⟩)) (fun r4 (hr4 : r4 = zi 0) => ?_)
                  subst hr4
                  refine lv_iload hx hb dL_law_761 (lv_at hl 1 rfl) ?_
                  refine zw_icmp_eq (tgt := 768) hx hb dL_law_763 (by decide) ⟨by omega, by omega⟩ ⟨by omega, by omega⟩ (fun h5 => ?_) (fun h5 => ?_)
                  · skip
                    refine lv_iload hx hb dL_law_768 (lv_at hl 1 rfl) ?_
                    refine zw_if_ne (tgt := 785) hx hb dL_law_770 (by decide) ⟨by omega, by omega⟩ (fun h6 => ?_) (fun h6 => ?_)
                    · skip
                      exact absurd True.intro (by omega)
                    · skip
                      refine lv_aload_n hx hb dL_law_773 rfl (lv_at hl 6 rfl) ?_
                      refine zw_iconst hx hb dL_law_774 ?_
                      refine zw_lald hx hb hK hP 15 1 rfl rfl (by omega) (by omega) ⟨by omega, by omega⟩ dL_law_775 ?_
                      rw [zup_at]
                      refine lv_iload hx hb dL_law_776 (lv_at hl 0 rfl) ?_
                      refine zw_i2l hx hb dL_law_778 ⟨by omega, by omega⟩ ?_
                      refine zw_lcmp_eq (tgt := 785) hx hb dL_law_779 dL_law_780 (by decide) ⟨by omega, by omega⟩ ⟨by omega, by omega⟩ (fun h7 => ?_) (fun h7 => ?_)
                      · skip
                        refine lv_goto (tgt := 1499) hx hb dL_law_785 (by decide) ?_
                        subst ex3
                        have hP9 : va_P (dC, dI) vwCl [(h0, .inr (4, [.ref qs, .ref qr, .ref qm, .ref qw, .ref qt, .int (zi we)])), (qs, aI cI 10 sf), (qr, .inr (0, [.int (zi mc), .ref qd, .int (zi 0)])), (qm, .inr (2, [.ref qk, .int (zi fi), .int (zi ln)])), (qk, aI cI 366 mf), (qw, .inr (1, [.ref wc, .int (zi wl)])), (wc, aI cI 20 wf), (qt, .inr (1, [.ref tc, .int (zi tl)])), (tc, aI cI 20 tf), (g0, .inr (5, [.int (zi 0), .ref ps, .int (zi 0), .ref pk, .ref pa, .ref pb, .ref pq, .int (zi we), .int (zi wl), .ref pw, .int (zi tl), .ref pt])), (ps, aI cI 10 sf), (pk, aI cI 12 kf), (pa, aI cI 12 af), (pb, aI cI 12 bf), (pq, aI cI 12 zf), (pw, aI cI 12 wf), (pt, aI cI 20 tf), (qo, aL cL 1 (zup of (Int.toNat 0) (f_X4_between (sf sl.toNat) (sf ot.toNat) un)))] H := hP.sub (ws' := [(h0, .inr (4, [.ref qs, .ref qr, .ref qm, .ref qw, .ref qt, .int (zi we)])), (qs, aI cI 10 sf), (qr, .inr (0, [.int (zi mc), .ref qd, .int (zi 0)])), (qm, .inr (2, [.ref qk, .int (zi fi), .int (zi ln)])), (qk, aI cI 366 mf), (qw, .inr (1, [.ref wc, .int (zi wl)])), (wc, aI cI 20 wf), (qt, .inr (1, [.ref tc, .int (zi tl)])), (tc, aI cI 20 tf), (g0, .inr (5, [.int (zi 0), .ref ps, .int (zi 0), .ref pk, .ref pa, .ref pb, .ref pq, .int (zi we), .int (zi wl), .ref pw, .int (zi tl), .ref pt])), (ps, aI cI 10 sf), (pk, aI cI 12 kf), (pa, aI cI 12 af), (pb, aI cI 12 bf), (pq, aI cI 12 zf), (pw, aI cI 12 wf), (pt, aI cI 20 tf), (qo, aL cL 1 (zup of (Int.toNat 0) (f_X4_between (sf sl.toNat) (sf ot.toNat) un)))]) [13, 14, 0, 1, 2, 3, 4, 5, 6, 16, 17, 7, 8, 9, 10, 11, 12, 15] rfl
                        have hD9 : va_D A [(h0, .inr (4, [.ref qs, .ref qr, .ref qm, .ref qw, .ref qt, .int (zi we)])), (qs, aI cI 10 sf), (qr, .inr (0, [.int (zi mc), .ref qd, .int (zi 0)])), (qm, .inr (2, [.ref qk, .int (zi fi), .int (zi ln)])), (qk, aI cI 366 mf), (qw, .inr (1, [.ref wc, .int (zi wl)])), (wc, aI cI 20 wf), (qt, .inr (1, [.ref tc, .int (zi tl)])), (tc, aI cI 20 tf), (g0, .inr (5, [.int (zi 0), .ref ps, .int (zi 0), .ref pk, .ref pa, .ref pb, .ref pq, .int (zi we), .int (zi wl), .ref pw, .int (zi tl), .ref pt])), (ps, aI cI 10 sf), (pk, aI cI 12 kf), (pa, aI cI 12 af), (pb, aI cI 12 bf), (pq, aI cI 12 zf), (pw, aI cI 12 wf), (pt, aI cI 20 tf), (qo, aL cL 1 (zup of (Int.toNat 0) (f_X4_between (sf sl.toNat) (sf ot.toNat) un)))] := hD.sub (ws' := [(h0, .inr (4, [.ref qs, .ref qr, .ref qm, .ref qw, .ref qt, .int (zi we)])), (qs, aI cI 10 sf), (qr, .inr (0, [.int (zi mc), .ref qd, .int (zi 0)])), (qm, .inr (2, [.ref qk, .int (zi fi), .int (zi ln)])), (qk, aI cI 366 mf), (qw, .inr (1, [.ref wc, .int (zi wl)])), (wc, aI cI 20 wf), (qt, .inr (1, [.ref tc, .int (zi tl)])), (tc, aI cI 20 tf), (g0, .inr (5, [.int (zi 0), .ref ps, .int (zi 0), .ref pk, .ref pa, .ref pb, .ref pq, .int (zi we), .int (zi wl), .ref pw, .int (zi tl), .ref pt])), (ps, aI cI 10 sf), (pk, aI cI 12 kf), (pa, aI cI 12 af), (pb, aI cI 12 bf), (pq, aI cI 12 zf), (pw, aI cI 12 wf), (pt, aI cI 20 tf), (qo, aL cL 1 (zup of (Int.toNat 0) (f_X4_between (sf sl.toNat) (sf ot.toNat) un)))]) [13, 14, 0, 1, 2, 3, 4, 5, 6, 16, 17, 7, 8, 9, 10, 11, 12, 15] (by decide) rfl
                        have hI9 : LI sf kf af bf zf wf tf 0 we fi ln wl tl := hI
                        refine W.widen (k := ce + 2) (n := sn + 19) (by omega) (by omega) ?_
                        exact K0 mc we fi ln mf sf kf af bf zf wl wf tl tf 0 (zup of (Int.toNat 0) (f_X4_between (sf sl.toNat) (sf ot.toNat) un)) H locs ls ⟨hP9, hD9, hS, hI9⟩ (lv_sub hl [2, 3, 4, 5, 6] rfl)
                      · skip
                        refine zw_iconst hx hb dL_law_783 ?_
                        exact absurd True.intro (by omega)
                  · skip
                    exact absurd True.intro (by omega)
              · skip
                rw [if_neg h7] at hbe
                by_cases h8 : sf sl.toNat ≤ sf ot.toNat
                · skip
                  rw [if_pos h8] at hbe
                  have hwb := b_X5_wholes_12 (sf sl.toNat) (sf ot.toNat) (by omega)
                  refine lv_aload_n hx hb dL_law_708 rfl (lv_at hl 2 rfl) ?_
                  refine lv_aload_n hx hb dL_law_709 rfl (lv_at hl 1 rfl) ?_
                  refine lv_iload hx hb dL_law_710 (lv_at hl 0 rfl) ?_
                  refine zw_iconst hx hb dL_law_712 ?_
                  refine zw_iadd hx hb dL_law_713 ?_
                  refine zw_scr hx hb hX hbl hbA hS (by omega) (by omega) ⟨by omega, by omega⟩ hv1 dL_law_714 ?_
                  refine lv_aload_n hx hb dL_law_715 rfl (lv_at hl 1 rfl) ?_
                  refine lv_iload hx hb dL_law_716 (lv_at hl 0 rfl) ?_
                  refine zw_iconst hx hb dL_law_718 ?_
                  refine zw_iadd hx hb dL_law_719 ?_
                  refine zw_scr hx hb hX hbl hbA hS (by omega) (by omega) ⟨by omega, by omega⟩ hv2 dL_law_720 ?_
                  refine lv_aload_n hx hb dL_law_721 rfl (lv_at hl 1 rfl) ?_
                  refine lv_iload hx hb dL_law_722 (lv_at hl 0 rfl) ?_
                  refine zw_iconst hx hb dL_law_724 ?_
                  refine zw_iadd hx hb dL_law_725 ?_
                  refine zw_scr hx hb hX hbl hbA hS (by omega) (by omega) ⟨by omega, by omega⟩ hv3 dL_law_726 ?_
                  refine lv_aload_n hx hb dL_law_727 rfl (lv_at hl 4 rfl) ?_
                  have hh1 := c_L_between l dC dI cI cL h0 qs qr qm qw qt we sf qo of sl ot un H.size (by omega) (by omega) (by omega) (by omega) (by omega) (by omega)
                  have hPc := hP.sub (ws' := [(h0, .inr (4, [.ref qs, .ref qr, .ref qm, .ref qw, .ref qt, .int (zi we)])), (qs, aI cI 10 sf), (qo, aL cL 1 of)]) [0, 1, 17] rfl
                  have hKc : va_K (dC, dI) vwCl [(cI, .int), (cL, .long)] s := hK.sub (tys' := [(cI, .int), (cL, .long)]) [0, 1] rfl
                  have hDc := hD.sub (ws' := [(h0, .inr (4, [.ref qs, .ref qr, .ref qm, .ref qw, .ref qt, .int (zi we)])), (qs, aI cI 10 sf), (qo, aL cL 1 of)]) [0, 1, 17] (by decide) rfl
                  have hFc := va_free (wc := [(h0, .inr (4, [.ref qs, .ref qr, .ref qm, .ref qw, .ref qt, .int (zi we)])), (qs, aI cI 10 sf), (qo, aL cL 1 of)]) hD hS hA [0, 1, 17] rfl
                  refine va_calli (vx_runSW (As := [.ref h0, .int (zi sl), .int (zi ot), .int (zi un), .ref qo]) (rest := []) ⟨hx, hb, hml, hown, hts⟩ hh1 (vx_cwSW 5 hts gL_law_L_between rfl rfl rfl (by decide +kernel) ⟨Nat.le_of_ble_eq_true rfl, Nat.le_of_ble_eq_true rfl⟩) ⟨zPw.blind _ _ _ _ _, fun U hU hW => ⟨rfl, by rw [hU], by rw [hU]; exact hPc, va_K.moved hW.alike hKc, hDc.weaken (fun _ _ _ _ => trivial)⟩⟩ rfl rfl hl.1 rfl (lv_room (Nat.le_of_ble_eq_true rfl)) dL_law_728 ⟨by show _ ≤ 601024; omega, by show _ ≤ 7293033; omega⟩) hS (fun q _ h => hFc q h) hFc (fun r1 u t H1 locs ht hvm hw hB hz1 hk1 hS => ?_)
                  obtain ⟨hP1, hK1, hD1⟩ := hB
                  rw [ht] at hP1
                  obtain ⟨hP, hD⟩ := va_join (wr := [(qr, .inr (0, [.int (zi mc), .ref qd, .int (zi 0)])), (qm, .inr (2, [.ref qk, .int (zi fi), .int (zi ln)])), (qk, aI cI 366 mf), (qw, .inr (1, [.ref wc, .int (zi wl)])), (wc, aI cI 20 wf), (qt, .inr (1, [.ref tc, .int (zi tl)])), (tc, aI cI 20 tf), (g0, .inr (5, [.int (zi co), .ref ps, .int (zi 0), .ref pk, .ref pa, .ref pb, .ref pq, .int (zi we), .int (zi wl), .ref pw, .int (zi tl), .ref pt])), (ps, aI cI 10 sf), (pk, aI cI 12 kf), (pa, aI cI 12 af), (pb, aI cI 12 bf), (pq, aI cI 12 zf), (pw, aI cI 12 wf), (pt, aI cI 20 tf)]) (w1 := [(h0, .inr (4, [.ref qs, .ref qr, .ref qm, .ref qw, .ref qt, .int (zi we)])), (qs, aI cI 10 sf), (qo, aL cL 1 (zup of (Int.toNat 0) (f_X4_between (sf sl.toNat) (sf ot.toNat) un)))]) hP hD [0, 1, 17] [2, 3, 4, 5, 6, 7, 8, 9, 10, 11, 12, 13, 14, 15, 16] rfl rfl (by decide) (by decide) hk1 hFc hP1 hD1
                  generalize H1 = H at hP hS ⊢
                  obtain rfl : r1 = zi 0 := hw
                  have hP : va_P (dC, dI) vwCl [(qr, .inr (0, [.int (zi mc), .ref qd, .int (zi 0)])), (qm, .inr (2, [.ref qk, .int (zi fi), .int (zi ln)])), (qk, aI cI 366 mf), (qw, .inr (1, [.ref wc, .int (zi wl)])), (wc, aI cI 20 wf), (qt, .inr (1, [.ref tc, .int (zi tl)])), (tc, aI cI 20 tf), (g0, .inr (5, [.int (zi co), .ref ps, .int (zi 0), .ref pk, .ref pa, .ref pb, .ref pq, .int (zi we), .int (zi wl), .ref pw, .int (zi tl), .ref pt])), (ps, aI cI 10 sf), (pk, aI cI 12 kf), (pa, aI cI 12 af), (pb, aI cI 12 bf), (pq, aI cI 12 zf), (pw, aI cI 12 wf), (pt, aI cI 20 tf), (h0, .inr (4, [.ref qs, .ref qr, .ref qm, .ref qw, .ref qt, .int (zi we)])), (qs, aI cI 10 sf), (qo, aL cL 1 (zup of (Int.toNat 0) (f_X4_between (sf sl.toNat) (sf ot.toNat) un)))] H := hP
                  have hD : va_D A [(qr, .inr (0, [.int (zi mc), .ref qd, .int (zi 0)])), (qm, .inr (2, [.ref qk, .int (zi fi), .int (zi ln)])), (qk, aI cI 366 mf), (qw, .inr (1, [.ref wc, .int (zi wl)])), (wc, aI cI 20 wf), (qt, .inr (1, [.ref tc, .int (zi tl)])), (tc, aI cI 20 tf), (g0, .inr (5, [.int (zi co), .ref ps, .int (zi 0), .ref pk, .ref pa, .ref pb, .ref pq, .int (zi we), .int (zi wl), .ref pw, .int (zi tl), .ref pt])), (ps, aI cI 10 sf), (pk, aI cI 12 kf), (pa, aI cI 12 af), (pb, aI cI 12 bf), (pq, aI cI 12 zf), (pw, aI cI 12 wf), (pt, aI cI 20 tf), (h0, .inr (4, [.ref qs, .ref qr, .ref qm, .ref qw, .ref qt, .int (zi we)])), (qs, aI cI 10 sf), (qo, aL cL 1 (zup of (Int.toNat 0) (f_X4_between (sf sl.toNat) (sf ot.toNat) un)))] := hD
                  refine lv_istore (lv' := [(5, .int (zi 0)), (4, .int (zi ii)), (0, .ref b), (1, .ref h0), (2, .ref g0), (3, .ref qo)]) hx hb dL_law_731 hl (by decide) rfl (fun ls hl => ?_)
                  refine lv_aload_n hx hb dL_law_733 rfl (lv_at hl 4 rfl) ?_
                  refine lv_aload_n hx hb dL_law_734 rfl (lv_at hl 2 rfl) ?_
                  refine lv_iload hx hb dL_law_735 (lv_at hl 1 rfl) ?_
                  refine zw_iconst hx hb dL_law_737 ?_
                  refine zw_iadd hx hb dL_law_738 ?_
                  refine zw_scr hx hb hX hbl hbA hS (by omega) (by omega) ⟨by omega, by omega⟩ hv1 dL_law_739 ?_
                  refine lv_aload_n hx hb dL_law_740 rfl (lv_at hl 2 rfl) ?_
                  refine lv_iload hx hb dL_law_741 (lv_at hl 1 rfl) ?_
                  refine zw_iconst hx hb dL_law_743 ?_
                  refine zw_iadd hx hb dL_law_744 ?_
                  refine zw_scr hx hb hX hbl hbA hS (by omega) (by omega) ⟨by omega, by omega⟩ hv2 dL_law_745 ?_
                  refine lv_aload_n hx hb dL_law_746 rfl (lv_at hl 2 rfl) ?_
                  refine lv_iload hx hb dL_law_747 (lv_at hl 1 rfl) ?_
                  refine zw_iconst hx hb dL_law_749 ?_
                  refine zw_iadd hx hb dL_law_750 ?_
                  refine zw_scr hx hb hX hbl hbA hS (by omega) (by omega) ⟨by omega, by omega⟩ hv3 dL_law_751 ?_
                  have hh2 := c_X5_between_y l dC dI cI g0 ps pk pa pb pq pw pt co 0 we wl tl sf sl ot un H.size (by omega) (by omega) (by omega) (by omega) (by omega) (by omega)
                  have hPc := hP.sub (ws' := [(g0, .inr (5, [.int (zi co), .ref ps, .int (zi 0), .ref pk, .ref pa, .ref pb, .ref pq, .int (zi we), .int (zi wl), .ref pw, .int (zi tl), .ref pt])), (ps, aI cI 10 sf)]) [7, 8] rfl
                  have hKc : va_K (dC, dI) vwCl [(cI, .int)] s := hK.sub (tys' := [(cI, .int)]) [0] rfl
                  have hDc := hD.sub (ws' := [(g0, .inr (5, [.int (zi co), .ref ps, .int (zi 0), .ref pk, .ref pa, .ref pb, .ref pq, .int (zi we), .int (zi wl), .ref pw, .int (zi tl), .ref pt])), (ps, aI cI 10 sf)]) [7, 8] (by decide) rfl
                  have hFc := va_free (wc := [(g0, .inr (5, [.int (zi co), .ref ps, .int (zi 0), .ref pk, .ref pa, .ref pb, .ref pq, .int (zi we), .int (zi wl), .ref pw, .int (zi tl), .ref pt])), (ps, aI cI 10 sf)]) hD hS hA [7, 8] rfl
                  refine va_calli (va_runV (As := [.int (zi sl), .int (zi ot), .int (zi un)]) (rest := []) ⟨hx, hb, hml, hown, hts⟩ hh2 (cwV 3 hts gL_law_X5_between rfl rfl rfl (by decide +kernel) ⟨Nat.le_of_ble_eq_true rfl, Nat.le_of_ble_eq_true rfl⟩) ⟨zPw.blind _ _ _ _ _, va_recv hKc hPc (ci := 5) (q0 := 0) rfl rfl, fun U hU hW => ⟨rfl, by rw [hU], by rw [hU]; exact hPc, va_K.moved hW.alike hKc, hDc.weaken (fun _ _ _ _ => trivial)⟩⟩ rfl rfl hl.1 rfl (lv_room (Nat.le_of_ble_eq_true rfl)) dL_law_752 ⟨by show _ ≤ 601024; omega, by show _ ≤ 7293033; omega⟩) hS (fun q _ h => hFc q h) hFc (fun r2 u t H1 locs ht hvm hw hB hz1 hk1 hS => ?_)
                  obtain ⟨hP1, hK1, hD1⟩ := hB
                  rw [ht] at hP1
                  obtain ⟨hP, hD⟩ := va_join (wr := [(qr, .inr (0, [.int (zi mc), .ref qd, .int (zi 0)])), (qm, .inr (2, [.ref qk, .int (zi fi), .int (zi ln)])), (qk, aI cI 366 mf), (qw, .inr (1, [.ref wc, .int (zi wl)])), (wc, aI cI 20 wf), (qt, .inr (1, [.ref tc, .int (zi tl)])), (tc, aI cI 20 tf), (pk, aI cI 12 kf), (pa, aI cI 12 af), (pb, aI cI 12 bf), (pq, aI cI 12 zf), (pw, aI cI 12 wf), (pt, aI cI 20 tf), (h0, .inr (4, [.ref qs, .ref qr, .ref qm, .ref qw, .ref qt, .int (zi we)])), (qs, aI cI 10 sf), (qo, aL cL 1 (zup of (Int.toNat 0) (f_X4_between (sf sl.toNat) (sf ot.toNat) un)))]) (w1 := [(g0, .inr (5, [.int (zi 0), .ref ps, .int (zi 0), .ref pk, .ref pa, .ref pb, .ref pq, .int (zi we), .int (zi wl), .ref pw, .int (zi tl), .ref pt])), (ps, aI cI 10 sf)]) hP hD [7, 8] [0, 1, 2, 3, 4, 5, 6, 9, 10, 11, 12, 13, 14, 15, 16, 17] rfl rfl (by decide) (by decide) hk1 hFc hP1 hD1
                  generalize H1 = H at hP hS ⊢
                  obtain rfl : r2 = zi (f_X5_wholes_12 (sf sl.toNat) (sf ot.toNat)) := hw
                  have hP : va_P (dC, dI) vwCl [(qr, .inr (0, [.int (zi mc), .ref qd, .int (zi 0)])), (qm, .inr (2, [.ref qk, .int (zi fi), .int (zi ln)])), (qk, aI cI 366 mf), (qw, .inr (1, [.ref wc, .int (zi wl)])), (wc, aI cI 20 wf), (qt, .inr (1, [.ref tc, .int (zi tl)])), (tc, aI cI 20 tf), (pk, aI cI 12 kf), (pa, aI cI 12 af), (pb, aI cI 12 bf), (pq, aI cI 12 zf), (pw, aI cI 12 wf), (pt, aI cI 20 tf), (h0, .inr (4, [.ref qs, .ref qr, .ref qm, .ref qw, .ref qt, .int (zi we)])), (qs, aI cI 10 sf), (qo, aL cL 1 (zup of (Int.toNat 0) (f_X4_between (sf sl.toNat) (sf ot.toNat) un))), (g0, .inr (5, [.int (zi 0), .ref ps, .int (zi 0), .ref pk, .ref pa, .ref pb, .ref pq, .int (zi we), .int (zi wl), .ref pw, .int (zi tl), .ref pt])), (ps, aI cI 10 sf)] H := hP
                  have hD : va_D A [(qr, .inr (0, [.int (zi mc), .ref qd, .int (zi 0)])), (qm, .inr (2, [.ref qk, .int (zi fi), .int (zi ln)])), (qk, aI cI 366 mf), (qw, .inr (1, [.ref wc, .int (zi wl)])), (wc, aI cI 20 wf), (qt, .inr (1, [.ref tc, .int (zi tl)])), (tc, aI cI 20 tf), (pk, aI cI 12 kf), (pa, aI cI 12 af), (pb, aI cI 12 bf), (pq, aI cI 12 zf), (pw, aI cI 12 wf), (pt, aI cI 20 tf), (h0, .inr (4, [.ref qs, .ref qr, .ref qm, .ref qw, .ref qt, .int (zi we)])), (qs, aI cI 10 sf), (qo, aL cL 1 (zup of (Int.toNat 0) (f_X4_between (sf sl.toNat) (sf ot.toNat) un))), (g0, .inr (5, [.int (zi 0), .ref ps, .int (zi 0), .ref pk, .ref pa, .ref pb, .ref pq, .int (zi we), .int (zi wl), .ref pw, .int (zi tl), .ref pt])), (ps, aI cI 10 sf)] := hD
                  refine zw_top (fun x3 ex3 => ?_)
                  refine lv_istore (lv' := [(6, .int (zi x3)), (5, .int (zi 0)), (4, .int (zi ii)), (0, .ref b), (1, .ref h0), (2, .ref g0), (3, .ref qo)]) hx hb dL_law_755 hl (by decide) rfl (fun ls hl => ?_)
                  refine lv_aload_n hx hb dL_law_757 rfl (lv_at hl 5 rfl) ?_
                  have hh4 := c_X5_thrown l dC dI cI g0 ps pk pa pb pq pw pt 0 0 we wl tl sf 
                  have hPc := hP.sub (ws' := [(g0, .inr (5, [.int (zi 0), .ref ps, .int (zi 0), .ref pk, .ref pa, .ref pb, .ref pq, .int (zi we), .int (zi wl), .ref pw, .int (zi tl), .ref pt])), (ps, aI cI 10 sf)]) [16, 17] rfl
                  have hKc : va_K (dC, dI) vwCl [(cI, .int)] s := hK.sub (tys' := [(cI, .int)]) [0] rfl
                  refine vp_callSi (va_Run.run (va_runV (As := []) (rest := []) ⟨hx, hb, hml, hown, hts⟩ hh4 (cwV 0 hts gL_law_X5_thrown rfl rfl rfl (by decide +kernel) ⟨Nat.le_of_ble_eq_true rfl, Nat.le_of_ble_eq_true rfl⟩) ⟨zPr.blind _ _ _ _, va_recv hKc hPc (ci := 5) (q0 := 0) rfl rfl, fun U hU hW => ⟨rfl, by rw [hU]; exact hPc, va_K.moved hW.alike hKc⟩⟩ rfl rfl hl.1 rfl (lv_room (Nat.le_of_ble_eq_true rfl)) dL_law_758 ⟨by show _ ≤ 601024; omega, by show _ ≤ 7293033; omega⟩)) (fun r4 (hr4 : r4 = zi 0) => ?_)
                  subst hr4
                  refine lv_iload hx hb dL_law_761 (lv_at hl 1 rfl) ?_
                  refine zw_icmp_eq (tgt := 768) hx hb dL_law_763 (by decide) ⟨by omega, by omega⟩ ⟨by omega, by omega⟩ (fun h5 => ?_) (fun h5 => ?_)
                  · skip
                    refine lv_iload hx hb dL_law_768 (lv_at hl 1 rfl) ?_
                    refine zw_if_ne (tgt := 785) hx hb dL_law_770 (by decide) ⟨by omega, by omega⟩ (fun h6 => ?_) (fun h6 => ?_)
                    · skip
                      exact absurd True.intro (by omega)
                    · skip
                      refine lv_aload_n hx hb dL_law_773 rfl (lv_at hl 6 rfl) ?_
                      refine zw_iconst hx hb dL_law_774 ?_
                      refine zw_lald hx hb hK hP 15 1 rfl rfl (by omega) (by omega) ⟨by omega, by omega⟩ dL_law_775 ?_
                      rw [zup_at]
                      refine lv_iload hx hb dL_law_776 (lv_at hl 0 rfl) ?_
                      refine zw_i2l hx hb dL_law_778 ⟨by omega, by omega⟩ ?_
                      refine zw_lcmp_eq (tgt := 785) hx hb dL_law_779 dL_law_780 (by decide) ⟨by omega, by omega⟩ ⟨by omega, by omega⟩ (fun h7 => ?_) (fun h7 => ?_)
                      · skip
                        refine lv_goto (tgt := 1499) hx hb dL_law_785 (by decide) ?_
                        subst ex3
                        have hP9 : va_P (dC, dI) vwCl [(h0, .inr (4, [.ref qs, .ref qr, .ref qm, .ref qw, .ref qt, .int (zi we)])), (qs, aI cI 10 sf), (qr, .inr (0, [.int (zi mc), .ref qd, .int (zi 0)])), (qm, .inr (2, [.ref qk, .int (zi fi), .int (zi ln)])), (qk, aI cI 366 mf), (qw, .inr (1, [.ref wc, .int (zi wl)])), (wc, aI cI 20 wf), (qt, .inr (1, [.ref tc, .int (zi tl)])), (tc, aI cI 20 tf), (g0, .inr (5, [.int (zi 0), .ref ps, .int (zi 0), .ref pk, .ref pa, .ref pb, .ref pq, .int (zi we), .int (zi wl), .ref pw, .int (zi tl), .ref pt])), (ps, aI cI 10 sf), (pk, aI cI 12 kf), (pa, aI cI 12 af), (pb, aI cI 12 bf), (pq, aI cI 12 zf), (pw, aI cI 12 wf), (pt, aI cI 20 tf), (qo, aL cL 1 (zup of (Int.toNat 0) (f_X4_between (sf sl.toNat) (sf ot.toNat) un)))] H := hP.sub (ws' := [(h0, .inr (4, [.ref qs, .ref qr, .ref qm, .ref qw, .ref qt, .int (zi we)])), (qs, aI cI 10 sf), (qr, .inr (0, [.int (zi mc), .ref qd, .int (zi 0)])), (qm, .inr (2, [.ref qk, .int (zi fi), .int (zi ln)])), (qk, aI cI 366 mf), (qw, .inr (1, [.ref wc, .int (zi wl)])), (wc, aI cI 20 wf), (qt, .inr (1, [.ref tc, .int (zi tl)])), (tc, aI cI 20 tf), (g0, .inr (5, [.int (zi 0), .ref ps, .int (zi 0), .ref pk, .ref pa, .ref pb, .ref pq, .int (zi we), .int (zi wl), .ref pw, .int (zi tl), .ref pt])), (ps, aI cI 10 sf), (pk, aI cI 12 kf), (pa, aI cI 12 af), (pb, aI cI 12 bf), (pq, aI cI 12 zf), (pw, aI cI 12 wf), (pt, aI cI 20 tf), (qo, aL cL 1 (zup of (Int.toNat 0) (f_X4_between (sf sl.toNat) (sf ot.toNat) un)))]) [13, 14, 0, 1, 2, 3, 4, 5, 6, 16, 17, 7, 8, 9, 10, 11, 12, 15] rfl
                        have hD9 : va_D A [(h0, .inr (4, [.ref qs, .ref qr, .ref qm, .ref qw, .ref qt, .int (zi we)])), (qs, aI cI 10 sf), (qr, .inr (0, [.int (zi mc), .ref qd, .int (zi 0)])), (qm, .inr (2, [.ref qk, .int (zi fi), .int (zi ln)])), (qk, aI cI 366 mf), (qw, .inr (1, [.ref wc, .int (zi wl)])), (wc, aI cI 20 wf), (qt, .inr (1, [.ref tc, .int (zi tl)])), (tc, aI cI 20 tf), (g0, .inr (5, [.int (zi 0), .ref ps, .int (zi 0), .ref pk, .ref pa, .ref pb, .ref pq, .int (zi we), .int (zi wl), .ref pw, .int (zi tl), .ref pt])), (ps, aI cI 10 sf), (pk, aI cI 12 kf), (pa, aI cI 12 af), (pb, aI cI 12 bf), (pq, aI cI 12 zf), (pw, aI cI 12 wf), (pt, aI cI 20 tf), (qo, aL cL 1 (zup of (Int.toNat 0) (f_X4_between (sf sl.toNat) (sf ot.toNat) un)))] := hD.sub (ws' := [(h0, .inr (4, [.ref qs, .ref qr, .ref qm, .ref qw, .ref qt, .int (zi we)])), (qs, aI cI 10 sf), (qr, .inr (0, [.int (zi mc), .ref qd, .int (zi 0)])), (qm, .inr (2, [.ref qk, .int (zi fi), .int (zi ln)])), (qk, aI cI 366 mf), (qw, .inr (1, [.ref wc, .int (zi wl)])), (wc, aI cI 20 wf), (qt, .inr (1, [.ref tc, .int (zi tl)])), (tc, aI cI 20 tf), (g0, .inr (5, [.int (zi 0), .ref ps, .int (zi 0), .ref pk, .ref pa, .ref pb, .ref pq, .int (zi we), .int (zi wl), .ref pw, .int (zi tl), .ref pt])), (ps, aI cI 10 sf), (pk, aI cI 12 kf), (pa, aI cI 12 af), (pb, aI cI 12 bf), (pq, aI cI 12 zf), (pw, aI cI 12 wf), (pt, aI cI 20 tf), (qo, aL cL 1 (zup of (Int.toNat 0) (f_X4_between (sf sl.toNat) (sf ot.toNat) un)))]) [13, 14, 0, 1, 2, 3, 4, 5, 6, 16, 17, 7, 8, 9, 10, 11, 12, 15] (by decide) rfl
                        have hI9 : LI sf kf af bf zf wf tf 0 we fi ln wl tl := hI
                        refine W.widen (k := ce + 2) (n := sn + 19) (by omega) (by omega) ?_
                        exact K0 mc we fi ln mf sf kf af bf zf wl wf tl tf 0 (zup of (Int.toNat 0) (f_X4_between (sf sl.toNat) (sf ot.toNat) un)) H locs ls ⟨hP9, hD9, hS, hI9⟩ (lv_sub hl [2, 3, 4, 5, 6] rfl)
                      · skip
                        refine zw_iconst hx hb dL_law_783 ?_
                        exact absurd True.intro (by omega)
                  · skip
                    exact absurd True.intro (by omega)
                · skip
                  rw [if_neg h8] at hbe
                  have hwb := b_X5_wholes_12 (sf ot.toNat) (sf sl.toNat) (by omega)
                  refine lv_aload_n hx hb dL_law_708 rfl (lv_at hl 2 rfl) ?_
                  refine lv_aload_n hx hb dL_law_709 rfl (lv_at hl 1 rfl) ?_
                  refine lv_iload hx hb dL_law_710 (lv_at hl 0 rfl) ?_
                  refine zw_iconst hx hb dL_law_712 ?_
                  refine zw_iadd hx hb dL_law_713 ?_
                  refine zw_scr hx hb hX hbl hbA hS (by omega) (by omega) ⟨by omega, by omega⟩ hv1 dL_law_714 ?_
                  refine lv_aload_n hx hb dL_law_715 rfl (lv_at hl 1 rfl) ?_
                  refine lv_iload hx hb dL_law_716 (lv_at hl 0 rfl) ?_
                  refine zw_iconst hx hb dL_law_718 ?_
                  refine zw_iadd hx hb dL_law_719 ?_
                  refine zw_scr hx hb hX hbl hbA hS (by omega) (by omega) ⟨by omega, by omega⟩ hv2 dL_law_720 ?_
                  refine lv_aload_n hx hb dL_law_721 rfl (lv_at hl 1 rfl) ?_
                  refine lv_iload hx hb dL_law_722 (lv_at hl 0 rfl) ?_
                  refine zw_iconst hx hb dL_law_724 ?_
                  refine zw_iadd hx hb dL_law_725 ?_
                  refine zw_scr hx hb hX hbl hbA hS (by omega) (by omega) ⟨by omega, by omega⟩ hv3 dL_law_726 ?_
                  refine lv_aload_n hx hb dL_law_727 rfl (lv_at hl 4 rfl) ?_
                  have hh1 := c_L_between l dC dI cI cL h0 qs qr qm qw qt we sf qo of sl ot un H.size (by omega) (by omega) (by omega) (by omega) (by omega) (by omega)
                  have hPc := hP.sub (ws' := [(h0, .inr (4, [.ref qs, .ref qr, .ref qm, .ref qw, .ref qt, .int (zi we)])), (qs, aI cI 10 sf), (qo, aL cL 1 of)]) [0, 1, 17] rfl
                  have hKc : va_K (dC, dI) vwCl [(cI, .int), (cL, .long)] s := hK.sub (tys' := [(cI, .int), (cL, .long)]) [0, 1] rfl
                  have hDc := hD.sub (ws' := [(h0, .inr (4, [.ref qs, .ref qr, .ref qm, .ref qw, .ref qt, .int (zi we)])), (qs, aI cI 10 sf), (qo, aL cL 1 of)]) [0, 1, 17] (by decide) rfl
                  have hFc := va_free (wc := [(h0, .inr (4, [.ref qs, .ref qr, .ref qm, .ref qw, .ref qt, .int (zi we)])), (qs, aI cI 10 sf), (qo, aL cL 1 of)]) hD hS hA [0, 1, 17] rfl
                  refine va_calli (vx_runSW (As := [.ref h0, .int (zi sl), .int (zi ot), .int (zi un), .ref qo]) (rest := []) ⟨hx, hb, hml, hown, hts⟩ hh1 (vx_cwSW 5 hts gL_law_L_between rfl rfl rfl (by decide +kernel) ⟨Nat.le_of_ble_eq_true rfl, Nat.le_of_ble_eq_true rfl⟩) ⟨zPw.blind _ _ _ _ _, fun U hU hW => ⟨rfl, by rw [hU], by rw [hU]; exact hPc, va_K.moved hW.alike hKc, hDc.weaken (fun _ _ _ _ => trivial)⟩⟩ rfl rfl hl.1 rfl (lv_room (Nat.le_of_ble_eq_true rfl)) dL_law_728 ⟨by show _ ≤ 601024; omega, by show _ ≤ 7293033; omega⟩) hS (fun q _ h => hFc q h) hFc (fun r1 u t H1 locs ht hvm hw hB hz1 hk1 hS => ?_)
                  obtain ⟨hP1, hK1, hD1⟩ := hB
                  rw [ht] at hP1
                  obtain ⟨hP, hD⟩ := va_join (wr := [(qr, .inr (0, [.int (zi mc), .ref qd, .int (zi 0)])), (qm, .inr (2, [.ref qk, .int (zi fi), .int (zi ln)])), (qk, aI cI 366 mf), (qw, .inr (1, [.ref wc, .int (zi wl)])), (wc, aI cI 20 wf), (qt, .inr (1, [.ref tc, .int (zi tl)])), (tc, aI cI 20 tf), (g0, .inr (5, [.int (zi co), .ref ps, .int (zi 0), .ref pk, .ref pa, .ref pb, .ref pq, .int (zi we), .int (zi wl), .ref pw, .int (zi tl), .ref pt])), (ps, aI cI 10 sf), (pk, aI cI 12 kf), (pa, aI cI 12 af), (pb, aI cI 12 bf), (pq, aI cI 12 zf), (pw, aI cI 12 wf), (pt, aI cI 20 tf)]) (w1 := [(h0, .inr (4, [.ref qs, .ref qr, .ref qm, .ref qw, .ref qt, .int (zi we)])), (qs, aI cI 10 sf), (qo, aL cL 1 (zup of (Int.toNat 0) (f_X4_between (sf sl.toNat) (sf ot.toNat) un)))]) hP hD [0, 1, 17] [2, 3, 4, 5, 6, 7, 8, 9, 10, 11, 12, 13, 14, 15, 16] rfl rfl (by decide) (by decide) hk1 hFc hP1 hD1
                  generalize H1 = H at hP hS ⊢
                  obtain rfl : r1 = zi 0 := hw
                  have hP : va_P (dC, dI) vwCl [(qr, .inr (0, [.int (zi mc), .ref qd, .int (zi 0)])), (qm, .inr (2, [.ref qk, .int (zi fi), .int (zi ln)])), (qk, aI cI 366 mf), (qw, .inr (1, [.ref wc, .int (zi wl)])), (wc, aI cI 20 wf), (qt, .inr (1, [.ref tc, .int (zi tl)])), (tc, aI cI 20 tf), (g0, .inr (5, [.int (zi co), .ref ps, .int (zi 0), .ref pk, .ref pa, .ref pb, .ref pq, .int (zi we), .int (zi wl), .ref pw, .int (zi tl), .ref pt])), (ps, aI cI 10 sf), (pk, aI cI 12 kf), (pa, aI cI 12 af), (pb, aI cI 12 bf), (pq, aI cI 12 zf), (pw, aI cI 12 wf), (pt, aI cI 20 tf), (h0, .inr (4, [.ref qs, .ref qr, .ref qm, .ref qw, .ref qt, .int (zi we)])), (qs, aI cI 10 sf), (qo, aL cL 1 (zup of (Int.toNat 0) (f_X4_between (sf sl.toNat) (sf ot.toNat) un)))] H := hP
                  have hD : va_D A [(qr, .inr (0, [.int (zi mc), .ref qd, .int (zi 0)])), (qm, .inr (2, [.ref qk, .int (zi fi), .int (zi ln)])), (qk, aI cI 366 mf), (qw, .inr (1, [.ref wc, .int (zi wl)])), (wc, aI cI 20 wf), (qt, .inr (1, [.ref tc, .int (zi tl)])), (tc, aI cI 20 tf), (g0, .inr (5, [.int (zi co), .ref ps, .int (zi 0), .ref pk, .ref pa, .ref pb, .ref pq, .int (zi we), .int (zi wl), .ref pw, .int (zi tl), .ref pt])), (ps, aI cI 10 sf), (pk, aI cI 12 kf), (pa, aI cI 12 af), (pb, aI cI 12 bf), (pq, aI cI 12 zf), (pw, aI cI 12 wf), (pt, aI cI 20 tf), (h0, .inr (4, [.ref qs, .ref qr, .ref qm, .ref qw, .ref qt, .int (zi we)])), (qs, aI cI 10 sf), (qo, aL cL 1 (zup of (Int.toNat 0) (f_X4_between (sf sl.toNat) (sf ot.toNat) un)))] := hD
                  refine lv_istore (lv' := [(5, .int (zi 0)), (4, .int (zi ii)), (0, .ref b), (1, .ref h0), (2, .ref g0), (3, .ref qo)]) hx hb dL_law_731 hl (by decide) rfl (fun ls hl => ?_)
                  refine lv_aload_n hx hb dL_law_733 rfl (lv_at hl 4 rfl) ?_
                  refine lv_aload_n hx hb dL_law_734 rfl (lv_at hl 2 rfl) ?_
                  refine lv_iload hx hb dL_law_735 (lv_at hl 1 rfl) ?_
                  refine zw_iconst hx hb dL_law_737 ?_
                  refine zw_iadd hx hb dL_law_738 ?_
                  refine zw_scr hx hb hX hbl hbA hS (by omega) (by omega) ⟨by omega, by omega⟩ hv1 dL_law_739 ?_
                  refine lv_aload_n hx hb dL_law_740 rfl (lv_at hl 2 rfl) ?_
                  refine lv_iload hx hb dL_law_741 (lv_at hl 1 rfl) ?_
                  refine zw_iconst hx hb dL_law_743 ?_
                  refine zw_iadd hx hb dL_law_744 ?_
                  refine zw_scr hx hb hX hbl hbA hS (by omega) (by omega) ⟨by omega, by omega⟩ hv2 dL_law_745 ?_
                  refine lv_aload_n hx hb dL_law_746 rfl (lv_at hl 2 rfl) ?_
                  refine lv_iload hx hb dL_law_747 (lv_at hl 1 rfl) ?_
                  refine zw_iconst hx hb dL_law_749 ?_
                  refine zw_iadd hx hb dL_law_750 ?_
                  refine zw_scr hx hb hX hbl hbA hS (by omega) (by omega) ⟨by omega, by omega⟩ hv3 dL_law_751 ?_
                  have hh2 := c_X5_between_ny l dC dI cI g0 ps pk pa pb pq pw pt co 0 we wl tl sf sl ot un H.size (by omega) (by omega) (by omega) (by omega) (by omega) (by omega)
                  have hPc := hP.sub (ws' := [(g0, .inr (5, [.int (zi co), .ref ps, .int (zi 0), .ref pk, .ref pa, .ref pb, .ref pq, .int (zi we), .int (zi wl), .ref pw, .int (zi tl), .ref pt])), (ps, aI cI 10 sf)]) [7, 8] rfl
                  have hKc : va_K (dC, dI) vwCl [(cI, .int)] s := hK.sub (tys' := [(cI, .int)]) [0] rfl
                  have hDc := hD.sub (ws' := [(g0, .inr (5, [.int (zi co), .ref ps, .int (zi 0), .ref pk, .ref pa, .ref pb, .ref pq, .int (zi we), .int (zi wl), .ref pw, .int (zi tl), .ref pt])), (ps, aI cI 10 sf)]) [7, 8] (by decide) rfl
                  have hFc := va_free (wc := [(g0, .inr (5, [.int (zi co), .ref ps, .int (zi 0), .ref pk, .ref pa, .ref pb, .ref pq, .int (zi we), .int (zi wl), .ref pw, .int (zi tl), .ref pt])), (ps, aI cI 10 sf)]) hD hS hA [7, 8] rfl
                  refine va_calli (va_runV (As := [.int (zi sl), .int (zi ot), .int (zi un)]) (rest := []) ⟨hx, hb, hml, hown, hts⟩ hh2 (cwV 3 hts gL_law_X5_between rfl rfl rfl (by decide +kernel) ⟨Nat.le_of_ble_eq_true rfl, Nat.le_of_ble_eq_true rfl⟩) ⟨zPw.blind _ _ _ _ _, va_recv hKc hPc (ci := 5) (q0 := 0) rfl rfl, fun U hU hW => ⟨rfl, by rw [hU], by rw [hU]; exact hPc, va_K.moved hW.alike hKc, hDc.weaken (fun _ _ _ _ => trivial)⟩⟩ rfl rfl hl.1 rfl (lv_room (Nat.le_of_ble_eq_true rfl)) dL_law_752 ⟨by show _ ≤ 601024; omega, by show _ ≤ 7293033; omega⟩) hS (fun q _ h => hFc q h) hFc (fun r2 u t H1 locs ht hvm hw hB hz1 hk1 hS => ?_)
                  obtain ⟨hP1, hK1, hD1⟩ := hB
                  rw [ht] at hP1
                  obtain ⟨hP, hD⟩ := va_join (wr := [(qr, .inr (0, [.int (zi mc), .ref qd, .int (zi 0)])), (qm, .inr (2, [.ref qk, .int (zi fi), .int (zi ln)])), (qk, aI cI 366 mf), (qw, .inr (1, [.ref wc, .int (zi wl)])), (wc, aI cI 20 wf), (qt, .inr (1, [.ref tc, .int (zi tl)])), (tc, aI cI 20 tf), (pk, aI cI 12 kf), (pa, aI cI 12 af), (pb, aI cI 12 bf), (pq, aI cI 12 zf), (pw, aI cI 12 wf), (pt, aI cI 20 tf), (h0, .inr (4, [.ref qs, .ref qr, .ref qm, .ref qw, .ref qt, .int (zi we)])), (qs, aI cI 10 sf), (qo, aL cL 1 (zup of (Int.toNat 0) (f_X4_between (sf sl.toNat) (sf ot.toNat) un)))]) (w1 := [(g0, .inr (5, [.int (zi 0), .ref ps, .int (zi 0), .ref pk, .ref pa, .ref pb, .ref pq, .int (zi we), .int (zi wl), .ref pw, .int (zi tl), .ref pt])), (ps, aI cI 10 sf)]) hP hD [7, 8] [0, 1, 2, 3, 4, 5, 6, 9, 10, 11, 12, 13, 14, 15, 16, 17] rfl rfl (by decide) (by decide) hk1 hFc hP1 hD1
                  generalize H1 = H at hP hS ⊢
                  obtain rfl : r2 = zi (-(f_X5_wholes_12 (sf ot.toNat) (sf sl.toNat))) := hw
                  have hP : va_P (dC, dI) vwCl [(qr, .inr (0, [.int (zi mc), .ref qd, .int (zi 0)])), (qm, .inr (2, [.ref qk, .int (zi fi), .int (zi ln)])), (qk, aI cI 366 mf), (qw, .inr (1, [.ref wc, .int (zi wl)])), (wc, aI cI 20 wf), (qt, .inr (1, [.ref tc, .int (zi tl)])), (tc, aI cI 20 tf), (pk, aI cI 12 kf), (pa, aI cI 12 af), (pb, aI cI 12 bf), (pq, aI cI 12 zf), (pw, aI cI 12 wf), (pt, aI cI 20 tf), (h0, .inr (4, [.ref qs, .ref qr, .ref qm, .ref qw, .ref qt, .int (zi we)])), (qs, aI cI 10 sf), (qo, aL cL 1 (zup of (Int.toNat 0) (f_X4_between (sf sl.toNat) (sf ot.toNat) un))), (g0, .inr (5, [.int (zi 0), .ref ps, .int (zi 0), .ref pk, .ref pa, .ref pb, .ref pq, .int (zi we), .int (zi wl), .ref pw, .int (zi tl), .ref pt])), (ps, aI cI 10 sf)] H := hP
                  have hD : va_D A [(qr, .inr (0, [.int (zi mc), .ref qd, .int (zi 0)])), (qm, .inr (2, [.ref qk, .int (zi fi), .int (zi ln)])), (qk, aI cI 366 mf), (qw, .inr (1, [.ref wc, .int (zi wl)])), (wc, aI cI 20 wf), (qt, .inr (1, [.ref tc, .int (zi tl)])), (tc, aI cI 20 tf), (pk, aI cI 12 kf), (pa, aI cI 12 af), (pb, aI cI 12 bf), (pq, aI cI 12 zf), (pw, aI cI 12 wf), (pt, aI cI 20 tf), (h0, .inr (4, [.ref qs, .ref qr, .ref qm, .ref qw, .ref qt, .int (zi we)])), (qs, aI cI 10 sf), (qo, aL cL 1 (zup of (Int.toNat 0) (f_X4_between (sf sl.toNat) (sf ot.toNat) un))), (g0, .inr (5, [.int (zi 0), .ref ps, .int (zi 0), .ref pk, .ref pa, .ref pb, .ref pq, .int (zi we), .int (zi wl), .ref pw, .int (zi tl), .ref pt])), (ps, aI cI 10 sf)] := hD
                  refine zw_top (fun x3 ex3 => ?_)
                  refine lv_istore (lv' := [(6, .int (zi x3)), (5, .int (zi 0)), (4, .int (zi ii)), (0, .ref b), (1, .ref h0), (2, .ref g0), (3, .ref qo)]) hx hb dL_law_755 hl (by decide) rfl (fun ls hl => ?_)
                  refine lv_aload_n hx hb dL_law_757 rfl (lv_at hl 5 rfl) ?_
                  have hh4 := c_X5_thrown l dC dI cI g0 ps pk pa pb pq pw pt 0 0 we wl tl sf 
                  have hPc := hP.sub (ws' := [(g0, .inr (5, [.int (zi 0), .ref ps, .int (zi 0), .ref pk, .ref pa, .ref pb, .ref pq, .int (zi we), .int (zi wl), .ref pw, .int (zi tl), .ref pt])), (ps, aI cI 10 sf)]) [16, 17] rfl
                  have hKc : va_K (dC, dI) vwCl [(cI, .int)] s := hK.sub (tys' := [(cI, .int)]) [0] rfl
                  refine vp_callSi (va_Run.run (va_runV (As := []) (rest := []) ⟨hx, hb, hml, hown, hts⟩ hh4 (cwV 0 hts gL_law_X5_thrown rfl rfl rfl (by decide +kernel) ⟨Nat.le_of_ble_eq_true rfl, Nat.le_of_ble_eq_true rfl⟩) ⟨zPr.blind _ _ _ _, va_recv hKc hPc (ci := 5) (q0 := 0) rfl rfl, fun U hU hW => ⟨rfl, by rw [hU]; exact hPc, va_K.moved hW.alike hKc⟩⟩ rfl rfl hl.1 rfl (lv_room (Nat.le_of_ble_eq_true rfl)) dL_law_758 ⟨by show _ ≤ 601024; omega, by show _ ≤ 7293033; omega⟩)) (fun r4 (hr4 : r4 = zi 0) => ?_)
                  subst hr4
                  refine lv_iload hx hb dL_law_761 (lv_at hl 1 rfl) ?_
                  refine zw_icmp_eq (tgt := 768) hx hb dL_law_763 (by decide) ⟨by omega, by omega⟩ ⟨by omega, by omega⟩ (fun h5 => ?_) (fun h5 => ?_)
                  · skip
                    refine lv_iload hx hb dL_law_768 (lv_at hl 1 rfl) ?_
                    refine zw_if_ne (tgt := 785) hx hb dL_law_770 (by decide) ⟨by omega, by omega⟩ (fun h6 => ?_) (fun h6 => ?_)
                    · skip
                      exact absurd True.intro (by omega)
                    · skip
                      refine lv_aload_n hx hb dL_law_773 rfl (lv_at hl 6 rfl) ?_
                      refine zw_iconst hx hb dL_law_774 ?_
                      refine zw_lald hx hb hK hP 15 1 rfl rfl (by omega) (by omega) ⟨by omega, by omega⟩ dL_law_775 ?_
                      rw [zup_at]
                      refine lv_iload hx hb dL_law_776 (lv_at hl 0 rfl) ?_
                      refine zw_i2l hx hb dL_law_778 ⟨by omega, by omega⟩ ?_
                      refine zw_lcmp_eq (tgt := 785) hx hb dL_law_779 dL_law_780 (by decide) ⟨by omega, by omega⟩ ⟨by omega, by omega⟩ (fun h7 => ?_) (fun h7 => ?_)
                      · skip
                        refine lv_goto (tgt := 1499) hx hb dL_law_785 (by decide) ?_
                        subst ex3
                        have hP9 : va_P (dC, dI) vwCl [(h0, .inr (4, [.ref qs, .ref qr, .ref qm, .ref qw, .ref qt, .int (zi we)])), (qs, aI cI 10 sf), (qr, .inr (0, [.int (zi mc), .ref qd, .int (zi 0)])), (qm, .inr (2, [.ref qk, .int (zi fi), .int (zi ln)])), (qk, aI cI 366 mf), (qw, .inr (1, [.ref wc, .int (zi wl)])), (wc, aI cI 20 wf), (qt, .inr (1, [.ref tc, .int (zi tl)])), (tc, aI cI 20 tf), (g0, .inr (5, [.int (zi 0), .ref ps, .int (zi 0), .ref pk, .ref pa, .ref pb, .ref pq, .int (zi we), .int (zi wl), .ref pw, .int (zi tl), .ref pt])), (ps, aI cI 10 sf), (pk, aI cI 12 kf), (pa, aI cI 12 af), (pb, aI cI 12 bf), (pq, aI cI 12 zf), (pw, aI cI 12 wf), (pt, aI cI 20 tf), (qo, aL cL 1 (zup of (Int.toNat 0) (f_X4_between (sf sl.toNat) (sf ot.toNat) un)))] H := hP.sub (ws' := [(h0, .inr (4, [.ref qs, .ref qr, .ref qm, .ref qw, .ref qt, .int (zi we)])), (qs, aI cI 10 sf), (qr, .inr (0, [.int (zi mc), .ref qd, .int (zi 0)])), (qm, .inr (2, [.ref qk, .int (zi fi), .int (zi ln)])), (qk, aI cI 366 mf), (qw, .inr (1, [.ref wc, .int (zi wl)])), (wc, aI cI 20 wf), (qt, .inr (1, [.ref tc, .int (zi tl)])), (tc, aI cI 20 tf), (g0, .inr (5, [.int (zi 0), .ref ps, .int (zi 0), .ref pk, .ref pa, .ref pb, .ref pq, .int (zi we), .int (zi wl), .ref pw, .int (zi tl), .ref pt])), (ps, aI cI 10 sf), (pk, aI cI 12 kf), (pa, aI cI 12 af), (pb, aI cI 12 bf), (pq, aI cI 12 zf), (pw, aI cI 12 wf), (pt, aI cI 20 tf), (qo, aL cL 1 (zup of (Int.toNat 0) (f_X4_between (sf sl.toNat) (sf ot.toNat) un)))]) [13, 14, 0, 1, 2, 3, 4, 5, 6, 16, 17, 7, 8, 9, 10, 11, 12, 15] rfl
                        have hD9 : va_D A [(h0, .inr (4, [.ref qs, .ref qr, .ref qm, .ref qw, .ref qt, .int (zi we)])), (qs, aI cI 10 sf), (qr, .inr (0, [.int (zi mc), .ref qd, .int (zi 0)])), (qm, .inr (2, [.ref qk, .int (zi fi), .int (zi ln)])), (qk, aI cI 366 mf), (qw, .inr (1, [.ref wc, .int (zi wl)])), (wc, aI cI 20 wf), (qt, .inr (1, [.ref tc, .int (zi tl)])), (tc, aI cI 20 tf), (g0, .inr (5, [.int (zi 0), .ref ps, .int (zi 0), .ref pk, .ref pa, .ref pb, .ref pq, .int (zi we), .int (zi wl), .ref pw, .int (zi tl), .ref pt])), (ps, aI cI 10 sf), (pk, aI cI 12 kf), (pa, aI cI 12 af), (pb, aI cI 12 bf), (pq, aI cI 12 zf), (pw, aI cI 12 wf), (pt, aI cI 20 tf), (qo, aL cL 1 (zup of (Int.toNat 0) (f_X4_between (sf sl.toNat) (sf ot.toNat) un)))] := hD.sub (ws' := [(h0, .inr (4, [.ref qs, .ref qr, .ref qm, .ref qw, .ref qt, .int (zi we)])), (qs, aI cI 10 sf), (qr, .inr (0, [.int (zi mc), .ref qd, .int (zi 0)])), (qm, .inr (2, [.ref qk, .int (zi fi), .int (zi ln)])), (qk, aI cI 366 mf), (qw, .inr (1, [.ref wc, .int (zi wl)])), (wc, aI cI 20 wf), (qt, .inr (1, [.ref tc, .int (zi tl)])), (tc, aI cI 20 tf), (g0, .inr (5, [.int (zi 0), .ref ps, .int (zi 0), .ref pk, .ref pa, .ref pb, .ref pq, .int (zi we), .int (zi wl), .ref pw, .int (zi tl), .ref pt])), (ps, aI cI 10 sf), (pk, aI cI 12 kf), (pa, aI cI 12 af), (pb, aI cI 12 bf), (pq, aI cI 12 zf), (pw, aI cI 12 wf), (pt, aI cI 20 tf), (qo, aL cL 1 (zup of (Int.toNat 0) (f_X4_between (sf sl.toNat) (sf ot.toNat) un)))]) [13, 14, 0, 1, 2, 3, 4, 5, 6, 16, 17, 7, 8, 9, 10, 11, 12, 15] (by decide) rfl
                        have hI9 : LI sf kf af bf zf wf tf 0 we fi ln wl tl := hI
                        refine W.widen (k := ce + 2) (n := sn + 19) (by omega) (by omega) ?_
                        exact K0 mc we fi ln mf sf kf af bf zf wl wf tl tf 0 (zup of (Int.toNat 0) (f_X4_between (sf sl.toNat) (sf ot.toNat) un)) H locs ls ⟨hP9, hD9, hS, hI9⟩ (lv_sub hl [2, 3, 4, 5, 6] rfl)
                      · skip
                        refine zw_iconst hx hb dL_law_783 ?_
                        exact absurd True.intro (by omega)
                  · skip
                    exact absurd True.intro (by omega)
      · skip
        refine lv_aload_n hx hb dL_law_708 rfl (lv_at hl 2 rfl) ?_
        refine lv_aload_n hx hb dL_law_709 rfl (lv_at hl 1 rfl) ?_
        refine lv_iload hx hb dL_law_710 (lv_at hl 0 rfl) ?_
        refine zw_iconst hx hb dL_law_712 ?_
        refine zw_iadd hx hb dL_law_713 ?_
        refine zw_scr hx hb hX hbl hbA hS (by omega) (by omega) ⟨by omega, by omega⟩ hv1 dL_law_714 ?_
        refine lv_aload_n hx hb dL_law_715 rfl (lv_at hl 1 rfl) ?_
        refine lv_iload hx hb dL_law_716 (lv_at hl 0 rfl) ?_
        refine zw_iconst hx hb dL_law_718 ?_
        refine zw_iadd hx hb dL_law_719 ?_
        refine zw_scr hx hb hX hbl hbA hS (by omega) (by omega) ⟨by omega, by omega⟩ hv2 dL_law_720 ?_
        refine lv_aload_n hx hb dL_law_721 rfl (lv_at hl 1 rfl) ?_
        refine lv_iload hx hb dL_law_722 (lv_at hl 0 rfl) ?_
        refine zw_iconst hx hb dL_law_724 ?_
        refine zw_iadd hx hb dL_law_725 ?_
        refine zw_scr hx hb hX hbl hbA hS (by omega) (by omega) ⟨by omega, by omega⟩ hv3 dL_law_726 ?_
        refine lv_aload_n hx hb dL_law_727 rfl (lv_at hl 4 rfl) ?_
        have hh1 := c_L_between_2 l hst dC dI cI cL h0 qs qr qm qw qt we sf qo of sl ot un H.size (by omega) (by omega) (by omega) (by omega)
        have hPc := hP.sub (ws' := [(h0, .inr (4, [.ref qs, .ref qr, .ref qm, .ref qw, .ref qt, .int (zi we)])), (qs, aI cI 10 sf), (qo, aL cL 1 of)]) [0, 1, 17] rfl
        have hKc : va_K (dC, dI) vwCl [(cI, .int), (cL, .long)] s := hK.sub (tys' := [(cI, .int), (cL, .long)]) [0, 1] rfl
        have hDc := hD.sub (ws' := [(h0, .inr (4, [.ref qs, .ref qr, .ref qm, .ref qw, .ref qt, .int (zi we)])), (qs, aI cI 10 sf), (qo, aL cL 1 of)]) [0, 1, 17] (by decide) rfl
        have hFc := va_free (wc := [(h0, .inr (4, [.ref qs, .ref qr, .ref qm, .ref qw, .ref qt, .int (zi we)])), (qs, aI cI 10 sf), (qo, aL cL 1 of)]) hD hS hA [0, 1, 17] rfl
        refine va_calli (vx_runSW (As := [.ref h0, .int (zi sl), .int (zi ot), .int (zi un), .ref qo]) (rest := []) ⟨hx, hb, hml, hown, hts⟩ hh1 (vx_cwSW 5 hts gL_law_L_between rfl rfl rfl (by decide +kernel) ⟨Nat.le_of_ble_eq_true rfl, Nat.le_of_ble_eq_true rfl⟩) ⟨zPx.blind _ _ _ _ _, fun U hU hW => ⟨rfl, by rw [hU], hE.call hS (fun q h => hA q (Nat.le_trans hS.1 (by rw [hU] at h; exact h))) hU hW, by rw [hU]; exact hPc, va_K.moved hW.alike hKc, hDc.weaken (fun _ _ _ _ => trivial)⟩⟩ rfl rfl hl.1 rfl (lv_room (Nat.le_of_ble_eq_true rfl)) dL_law_728 ⟨by show _ ≤ 601024; omega, by show _ ≤ 7293033; omega⟩) hS (fun q _ h => hFc q h) hFc (fun r1 u t H1 locs ht hvm hw hB hz1 hk1 hS => ?_)
        obtain ⟨hP1, hK1, hD1⟩ := hB
        rw [ht] at hP1
        obtain ⟨hP, hD⟩ := va_join (wr := [(qr, .inr (0, [.int (zi mc), .ref qd, .int (zi 0)])), (qm, .inr (2, [.ref qk, .int (zi fi), .int (zi ln)])), (qk, aI cI 366 mf), (qw, .inr (1, [.ref wc, .int (zi wl)])), (wc, aI cI 20 wf), (qt, .inr (1, [.ref tc, .int (zi tl)])), (tc, aI cI 20 tf), (g0, .inr (5, [.int (zi co), .ref ps, .int (zi 0), .ref pk, .ref pa, .ref pb, .ref pq, .int (zi we), .int (zi wl), .ref pw, .int (zi tl), .ref pt])), (ps, aI cI 10 sf), (pk, aI cI 12 kf), (pa, aI cI 12 af), (pb, aI cI 12 bf), (pq, aI cI 12 zf), (pw, aI cI 12 wf), (pt, aI cI 20 tf)]) (w1 := [(h0, .inr (4, [.ref qs, .ref qr, .ref qm, .ref qw, .ref qt, .int (zi we)])), (qs, aI cI 10 sf), (qo, aL cL 1 of)]) hP hD [0, 1, 17] [2, 3, 4, 5, 6, 7, 8, 9, 10, 11, 12, 13, 14, 15, 16] rfl rfl (by decide) (by decide) hk1 hFc hP1 hD1
        generalize H1 = H at hP hS ⊢
        obtain rfl : r1 = zi 2 := hw
        have hP : va_P (dC, dI) vwCl [(qr, .inr (0, [.int (zi mc), .ref qd, .int (zi 0)])), (qm, .inr (2, [.ref qk, .int (zi fi), .int (zi ln)])), (qk, aI cI 366 mf), (qw, .inr (1, [.ref wc, .int (zi wl)])), (wc, aI cI 20 wf), (qt, .inr (1, [.ref tc, .int (zi tl)])), (tc, aI cI 20 tf), (g0, .inr (5, [.int (zi co), .ref ps, .int (zi 0), .ref pk, .ref pa, .ref pb, .ref pq, .int (zi we), .int (zi wl), .ref pw, .int (zi tl), .ref pt])), (ps, aI cI 10 sf), (pk, aI cI 12 kf), (pa, aI cI 12 af), (pb, aI cI 12 bf), (pq, aI cI 12 zf), (pw, aI cI 12 wf), (pt, aI cI 20 tf), (h0, .inr (4, [.ref qs, .ref qr, .ref qm, .ref qw, .ref qt, .int (zi we)])), (qs, aI cI 10 sf), (qo, aL cL 1 of)] H := hP
        have hD : va_D A [(qr, .inr (0, [.int (zi mc), .ref qd, .int (zi 0)])), (qm, .inr (2, [.ref qk, .int (zi fi), .int (zi ln)])), (qk, aI cI 366 mf), (qw, .inr (1, [.ref wc, .int (zi wl)])), (wc, aI cI 20 wf), (qt, .inr (1, [.ref tc, .int (zi tl)])), (tc, aI cI 20 tf), (g0, .inr (5, [.int (zi co), .ref ps, .int (zi 0), .ref pk, .ref pa, .ref pb, .ref pq, .int (zi we), .int (zi wl), .ref pw, .int (zi tl), .ref pt])), (ps, aI cI 10 sf), (pk, aI cI 12 kf), (pa, aI cI 12 af), (pb, aI cI 12 bf), (pq, aI cI 12 zf), (pw, aI cI 12 wf), (pt, aI cI 20 tf), (h0, .inr (4, [.ref qs, .ref qr, .ref qm, .ref qw, .ref qt, .int (zi we)])), (qs, aI cI 10 sf), (qo, aL cL 1 of)] := hD
        refine lv_istore (lv' := [(5, .int (zi 2)), (4, .int (zi ii)), (0, .ref b), (1, .ref h0), (2, .ref g0), (3, .ref qo)]) hx hb dL_law_731 hl (by decide) rfl (fun ls hl => ?_)
        refine lv_aload_n hx hb dL_law_733 rfl (lv_at hl 4 rfl) ?_
        refine lv_aload_n hx hb dL_law_734 rfl (lv_at hl 2 rfl) ?_
        refine lv_iload hx hb dL_law_735 (lv_at hl 1 rfl) ?_
        refine zw_iconst hx hb dL_law_737 ?_
        refine zw_iadd hx hb dL_law_738 ?_
        refine zw_scr hx hb hX hbl hbA hS (by omega) (by omega) ⟨by omega, by omega⟩ hv1 dL_law_739 ?_
        refine lv_aload_n hx hb dL_law_740 rfl (lv_at hl 2 rfl) ?_
        refine lv_iload hx hb dL_law_741 (lv_at hl 1 rfl) ?_
        refine zw_iconst hx hb dL_law_743 ?_
        refine zw_iadd hx hb dL_law_744 ?_
        refine zw_scr hx hb hX hbl hbA hS (by omega) (by omega) ⟨by omega, by omega⟩ hv2 dL_law_745 ?_
        refine lv_aload_n hx hb dL_law_746 rfl (lv_at hl 2 rfl) ?_
        refine lv_iload hx hb dL_law_747 (lv_at hl 1 rfl) ?_
        refine zw_iconst hx hb dL_law_749 ?_
        refine zw_iadd hx hb dL_law_750 ?_
        refine zw_scr hx hb hX hbl hbA hS (by omega) (by omega) ⟨by omega, by omega⟩ hv3 dL_law_751 ?_
        have hh2 := c_X5_between_2 l dC dI cI g0 ps pk pa pb pq pw pt co 0 we wl tl sf sl ot un H.size (by omega) (by omega) (by omega) (by omega)
        have hPc := hP.sub (ws' := [(g0, .inr (5, [.int (zi co), .ref ps, .int (zi 0), .ref pk, .ref pa, .ref pb, .ref pq, .int (zi we), .int (zi wl), .ref pw, .int (zi tl), .ref pt])), (ps, aI cI 10 sf)]) [7, 8] rfl
        have hKc : va_K (dC, dI) vwCl [(cI, .int)] s := hK.sub (tys' := [(cI, .int)]) [0] rfl
        have hDc := hD.sub (ws' := [(g0, .inr (5, [.int (zi co), .ref ps, .int (zi 0), .ref pk, .ref pa, .ref pb, .ref pq, .int (zi we), .int (zi wl), .ref pw, .int (zi tl), .ref pt])), (ps, aI cI 10 sf)]) [7, 8] (by decide) rfl
        have hFc := va_free (wc := [(g0, .inr (5, [.int (zi co), .ref ps, .int (zi 0), .ref pk, .ref pa, .ref pb, .ref pq, .int (zi we), .int (zi wl), .ref pw, .int (zi tl), .ref pt])), (ps, aI cI 10 sf)]) hD hS hA [7, 8] rfl
        refine va_calli (va_runV (As := [.int (zi sl), .int (zi ot), .int (zi un)]) (rest := []) ⟨hx, hb, hml, hown, hts⟩ hh2 (cwV 3 hts gL_law_X5_between rfl rfl rfl (by decide +kernel) ⟨Nat.le_of_ble_eq_true rfl, Nat.le_of_ble_eq_true rfl⟩) ⟨zPw.blind _ _ _ _ _, va_recv hKc hPc (ci := 5) (q0 := 0) rfl rfl, fun U hU hW => ⟨rfl, by rw [hU], by rw [hU]; exact hPc, va_K.moved hW.alike hKc, hDc.weaken (fun _ _ _ _ => trivial)⟩⟩ rfl rfl hl.1 rfl (lv_room (Nat.le_of_ble_eq_true rfl)) dL_law_752 ⟨by show _ ≤ 601024; omega, by show _ ≤ 7293033; omega⟩) hS (fun q _ h => hFc q h) hFc (fun r2 u t H1 locs ht hvm hw hB hz1 hk1 hS => ?_)
        obtain ⟨hP1, hK1, hD1⟩ := hB
        rw [ht] at hP1
        obtain ⟨hP, hD⟩ := va_join (wr := [(qr, .inr (0, [.int (zi mc), .ref qd, .int (zi 0)])), (qm, .inr (2, [.ref qk, .int (zi fi), .int (zi ln)])), (qk, aI cI 366 mf), (qw, .inr (1, [.ref wc, .int (zi wl)])), (wc, aI cI 20 wf), (qt, .inr (1, [.ref tc, .int (zi tl)])), (tc, aI cI 20 tf), (pk, aI cI 12 kf), (pa, aI cI 12 af), (pb, aI cI 12 bf), (pq, aI cI 12 zf), (pw, aI cI 12 wf), (pt, aI cI 20 tf), (h0, .inr (4, [.ref qs, .ref qr, .ref qm, .ref qw, .ref qt, .int (zi we)])), (qs, aI cI 10 sf), (qo, aL cL 1 of)]) (w1 := [(g0, .inr (5, [.int (zi 2), .ref ps, .int (zi 0), .ref pk, .ref pa, .ref pb, .ref pq, .int (zi we), .int (zi wl), .ref pw, .int (zi tl), .ref pt])), (ps, aI cI 10 sf)]) hP hD [7, 8] [0, 1, 2, 3, 4, 5, 6, 9, 10, 11, 12, 13, 14, 15, 16, 17] rfl rfl (by decide) (by decide) hk1 hFc hP1 hD1
        generalize H1 = H at hP hS ⊢
        obtain rfl : r2 = zi 0 := hw
        have hP : va_P (dC, dI) vwCl [(qr, .inr (0, [.int (zi mc), .ref qd, .int (zi 0)])), (qm, .inr (2, [.ref qk, .int (zi fi), .int (zi ln)])), (qk, aI cI 366 mf), (qw, .inr (1, [.ref wc, .int (zi wl)])), (wc, aI cI 20 wf), (qt, .inr (1, [.ref tc, .int (zi tl)])), (tc, aI cI 20 tf), (pk, aI cI 12 kf), (pa, aI cI 12 af), (pb, aI cI 12 bf), (pq, aI cI 12 zf), (pw, aI cI 12 wf), (pt, aI cI 20 tf), (h0, .inr (4, [.ref qs, .ref qr, .ref qm, .ref qw, .ref qt, .int (zi we)])), (qs, aI cI 10 sf), (qo, aL cL 1 of), (g0, .inr (5, [.int (zi 2), .ref ps, .int (zi 0), .ref pk, .ref pa, .ref pb, .ref pq, .int (zi we), .int (zi wl), .ref pw, .int (zi tl), .ref pt])), (ps, aI cI 10 sf)] H := hP
        have hD : va_D A [(qr, .inr (0, [.int (zi mc), .ref qd, .int (zi 0)])), (qm, .inr (2, [.ref qk, .int (zi fi), .int (zi ln)])), (qk, aI cI 366 mf), (qw, .inr (1, [.ref wc, .int (zi wl)])), (wc, aI cI 20 wf), (qt, .inr (1, [.ref tc, .int (zi tl)])), (tc, aI cI 20 tf), (pk, aI cI 12 kf), (pa, aI cI 12 af), (pb, aI cI 12 bf), (pq, aI cI 12 zf), (pw, aI cI 12 wf), (pt, aI cI 20 tf), (h0, .inr (4, [.ref qs, .ref qr, .ref qm, .ref qw, .ref qt, .int (zi we)])), (qs, aI cI 10 sf), (qo, aL cL 1 of), (g0, .inr (5, [.int (zi 2), .ref ps, .int (zi 0), .ref pk, .ref pa, .ref pb, .ref pq, .int (zi we), .int (zi wl), .ref pw, .int (zi tl), .ref pt])), (ps, aI cI 10 sf)] := hD
        refine lv_istore (lv' := [(6, .int (zi 0)), (5, .int (zi 2)), (4, .int (zi ii)), (0, .ref b), (1, .ref h0), (2, .ref g0), (3, .ref qo)]) hx hb dL_law_755 hl (by decide) rfl (fun ls hl => ?_)
        refine lv_aload_n hx hb dL_law_757 rfl (lv_at hl 5 rfl) ?_
        have hh3 := c_X5_thrown l dC dI cI g0 ps pk pa pb pq pw pt 2 0 we wl tl sf 
        have hPc := hP.sub (ws' := [(g0, .inr (5, [.int (zi 2), .ref ps, .int (zi 0), .ref pk, .ref pa, .ref pb, .ref pq, .int (zi we), .int (zi wl), .ref pw, .int (zi tl), .ref pt])), (ps, aI cI 10 sf)]) [16, 17] rfl
        have hKc : va_K (dC, dI) vwCl [(cI, .int)] s := hK.sub (tys' := [(cI, .int)]) [0] rfl
        refine vp_callSi (va_Run.run (va_runV (As := []) (rest := []) ⟨hx, hb, hml, hown, hts⟩ hh3 (cwV 0 hts gL_law_X5_thrown rfl rfl rfl (by decide +kernel) ⟨Nat.le_of_ble_eq_true rfl, Nat.le_of_ble_eq_true rfl⟩) ⟨zPr.blind _ _ _ _, va_recv hKc hPc (ci := 5) (q0 := 0) rfl rfl, fun U hU hW => ⟨rfl, by rw [hU]; exact hPc, va_K.moved hW.alike hKc⟩⟩ rfl rfl hl.1 rfl (lv_room (Nat.le_of_ble_eq_true rfl)) dL_law_758 ⟨by show _ ≤ 601024; omega, by show _ ≤ 7293033; omega⟩)) (fun r3 (hr3 : r3 = zi 2) => ?_)
        subst hr3
        refine lv_iload hx hb dL_law_761 (lv_at hl 1 rfl) ?_
        refine zw_icmp_eq (tgt := 768) hx hb dL_law_763 (by decide) ⟨by omega, by omega⟩ ⟨by omega, by omega⟩ (fun h4 => ?_) (fun h4 => ?_)
        · skip
          refine lv_iload hx hb dL_law_768 (lv_at hl 1 rfl) ?_
          refine zw_if_ne (tgt := 785) hx hb dL_law_770 (by decide) ⟨by omega, by omega⟩ (fun h5 => ?_) (fun h5 => ?_)
          · skip
            refine lv_goto (tgt := 1499) hx hb dL_law_785 (by decide) ?_
            have hP9 : va_P (dC, dI) vwCl [(h0, .inr (4, [.ref qs, .ref qr, .ref qm, .ref qw, .ref qt, .int (zi we)])), (qs, aI cI 10 sf), (qr, .inr (0, [.int (zi mc), .ref qd, .int (zi 0)])), (qm, .inr (2, [.ref qk, .int (zi fi), .int (zi ln)])), (qk, aI cI 366 mf), (qw, .inr (1, [.ref wc, .int (zi wl)])), (wc, aI cI 20 wf), (qt, .inr (1, [.ref tc, .int (zi tl)])), (tc, aI cI 20 tf), (g0, .inr (5, [.int (zi 2), .ref ps, .int (zi 0), .ref pk, .ref pa, .ref pb, .ref pq, .int (zi we), .int (zi wl), .ref pw, .int (zi tl), .ref pt])), (ps, aI cI 10 sf), (pk, aI cI 12 kf), (pa, aI cI 12 af), (pb, aI cI 12 bf), (pq, aI cI 12 zf), (pw, aI cI 12 wf), (pt, aI cI 20 tf), (qo, aL cL 1 of)] H := hP.sub (ws' := [(h0, .inr (4, [.ref qs, .ref qr, .ref qm, .ref qw, .ref qt, .int (zi we)])), (qs, aI cI 10 sf), (qr, .inr (0, [.int (zi mc), .ref qd, .int (zi 0)])), (qm, .inr (2, [.ref qk, .int (zi fi), .int (zi ln)])), (qk, aI cI 366 mf), (qw, .inr (1, [.ref wc, .int (zi wl)])), (wc, aI cI 20 wf), (qt, .inr (1, [.ref tc, .int (zi tl)])), (tc, aI cI 20 tf), (g0, .inr (5, [.int (zi 2), .ref ps, .int (zi 0), .ref pk, .ref pa, .ref pb, .ref pq, .int (zi we), .int (zi wl), .ref pw, .int (zi tl), .ref pt])), (ps, aI cI 10 sf), (pk, aI cI 12 kf), (pa, aI cI 12 af), (pb, aI cI 12 bf), (pq, aI cI 12 zf), (pw, aI cI 12 wf), (pt, aI cI 20 tf), (qo, aL cL 1 of)]) [13, 14, 0, 1, 2, 3, 4, 5, 6, 16, 17, 7, 8, 9, 10, 11, 12, 15] rfl
            have hD9 : va_D A [(h0, .inr (4, [.ref qs, .ref qr, .ref qm, .ref qw, .ref qt, .int (zi we)])), (qs, aI cI 10 sf), (qr, .inr (0, [.int (zi mc), .ref qd, .int (zi 0)])), (qm, .inr (2, [.ref qk, .int (zi fi), .int (zi ln)])), (qk, aI cI 366 mf), (qw, .inr (1, [.ref wc, .int (zi wl)])), (wc, aI cI 20 wf), (qt, .inr (1, [.ref tc, .int (zi tl)])), (tc, aI cI 20 tf), (g0, .inr (5, [.int (zi 2), .ref ps, .int (zi 0), .ref pk, .ref pa, .ref pb, .ref pq, .int (zi we), .int (zi wl), .ref pw, .int (zi tl), .ref pt])), (ps, aI cI 10 sf), (pk, aI cI 12 kf), (pa, aI cI 12 af), (pb, aI cI 12 bf), (pq, aI cI 12 zf), (pw, aI cI 12 wf), (pt, aI cI 20 tf), (qo, aL cL 1 of)] := hD.sub (ws' := [(h0, .inr (4, [.ref qs, .ref qr, .ref qm, .ref qw, .ref qt, .int (zi we)])), (qs, aI cI 10 sf), (qr, .inr (0, [.int (zi mc), .ref qd, .int (zi 0)])), (qm, .inr (2, [.ref qk, .int (zi fi), .int (zi ln)])), (qk, aI cI 366 mf), (qw, .inr (1, [.ref wc, .int (zi wl)])), (wc, aI cI 20 wf), (qt, .inr (1, [.ref tc, .int (zi tl)])), (tc, aI cI 20 tf), (g0, .inr (5, [.int (zi 2), .ref ps, .int (zi 0), .ref pk, .ref pa, .ref pb, .ref pq, .int (zi we), .int (zi wl), .ref pw, .int (zi tl), .ref pt])), (ps, aI cI 10 sf), (pk, aI cI 12 kf), (pa, aI cI 12 af), (pb, aI cI 12 bf), (pq, aI cI 12 zf), (pw, aI cI 12 wf), (pt, aI cI 20 tf), (qo, aL cL 1 of)]) [13, 14, 0, 1, 2, 3, 4, 5, 6, 16, 17, 7, 8, 9, 10, 11, 12, 15] (by decide) rfl
            have hI9 : LI sf kf af bf zf wf tf 0 we fi ln wl tl := hI
            refine W.widen (k := ce + 2) (n := sn + 19) (by omega) (by omega) ?_
            exact K0 mc we fi ln mf sf kf af bf zf wl wf tl tf 2 of H locs ls ⟨hP9, hD9, hS, hI9⟩ (lv_sub hl [2, 3, 4, 5, 6] rfl)
          · skip
            exact absurd True.intro (by omega)
        · skip
          exact absurd True.intro (by omega)
    · skip
      refine lv_aload_n hx hb dL_law_708 rfl (lv_at hl 2 rfl) ?_
      refine lv_aload_n hx hb dL_law_709 rfl (lv_at hl 1 rfl) ?_
      refine lv_iload hx hb dL_law_710 (lv_at hl 0 rfl) ?_
      refine zw_iconst hx hb dL_law_712 ?_
      refine zw_iadd hx hb dL_law_713 ?_
      refine zw_scr hx hb hX hbl hbA hS (by omega) (by omega) ⟨by omega, by omega⟩ hv1 dL_law_714 ?_
      refine lv_aload_n hx hb dL_law_715 rfl (lv_at hl 1 rfl) ?_
      refine lv_iload hx hb dL_law_716 (lv_at hl 0 rfl) ?_
      refine zw_iconst hx hb dL_law_718 ?_
      refine zw_iadd hx hb dL_law_719 ?_
      refine zw_scr hx hb hX hbl hbA hS (by omega) (by omega) ⟨by omega, by omega⟩ hv2 dL_law_720 ?_
      refine lv_aload_n hx hb dL_law_721 rfl (lv_at hl 1 rfl) ?_
      refine lv_iload hx hb dL_law_722 (lv_at hl 0 rfl) ?_
      refine zw_iconst hx hb dL_law_724 ?_
      refine zw_iadd hx hb dL_law_725 ?_
      refine zw_scr hx hb hX hbl hbA hS (by omega) (by omega) ⟨by omega, by omega⟩ hv3 dL_law_726 ?_
      refine lv_aload_n hx hb dL_law_727 rfl (lv_at hl 4 rfl) ?_
      have hh1 := c_L_between_1b l hst dC dI cI cL h0 qs qr qm qw qt we sf qo of sl ot un H.size (by omega) (by omega) (by omega)
      have hPc := hP.sub (ws' := [(h0, .inr (4, [.ref qs, .ref qr, .ref qm, .ref qw, .ref qt, .int (zi we)])), (qs, aI cI 10 sf), (qo, aL cL 1 of)]) [0, 1, 17] rfl
      have hKc : va_K (dC, dI) vwCl [(cI, .int), (cL, .long)] s := hK.sub (tys' := [(cI, .int), (cL, .long)]) [0, 1] rfl
      have hDc := hD.sub (ws' := [(h0, .inr (4, [.ref qs, .ref qr, .ref qm, .ref qw, .ref qt, .int (zi we)])), (qs, aI cI 10 sf), (qo, aL cL 1 of)]) [0, 1, 17] (by decide) rfl
      have hFc := va_free (wc := [(h0, .inr (4, [.ref qs, .ref qr, .ref qm, .ref qw, .ref qt, .int (zi we)])), (qs, aI cI 10 sf), (qo, aL cL 1 of)]) hD hS hA [0, 1, 17] rfl
      refine va_calli (vx_runSW (As := [.ref h0, .int (zi sl), .int (zi ot), .int (zi un), .ref qo]) (rest := []) ⟨hx, hb, hml, hown, hts⟩ hh1 (vx_cwSW 5 hts gL_law_L_between rfl rfl rfl (by decide +kernel) ⟨Nat.le_of_ble_eq_true rfl, Nat.le_of_ble_eq_true rfl⟩) ⟨zPx.blind _ _ _ _ _, fun U hU hW => ⟨rfl, by rw [hU], hE.call hS (fun q h => hA q (Nat.le_trans hS.1 (by rw [hU] at h; exact h))) hU hW, by rw [hU]; exact hPc, va_K.moved hW.alike hKc, hDc.weaken (fun _ _ _ _ => trivial)⟩⟩ rfl rfl hl.1 rfl (lv_room (Nat.le_of_ble_eq_true rfl)) dL_law_728 ⟨by show _ ≤ 601024; omega, by show _ ≤ 7293033; omega⟩) hS (fun q _ h => hFc q h) hFc (fun r1 u t H1 locs ht hvm hw hB hz1 hk1 hS => ?_)
      obtain ⟨hP1, hK1, hD1⟩ := hB
      rw [ht] at hP1
      obtain ⟨hP, hD⟩ := va_join (wr := [(qr, .inr (0, [.int (zi mc), .ref qd, .int (zi 0)])), (qm, .inr (2, [.ref qk, .int (zi fi), .int (zi ln)])), (qk, aI cI 366 mf), (qw, .inr (1, [.ref wc, .int (zi wl)])), (wc, aI cI 20 wf), (qt, .inr (1, [.ref tc, .int (zi tl)])), (tc, aI cI 20 tf), (g0, .inr (5, [.int (zi co), .ref ps, .int (zi 0), .ref pk, .ref pa, .ref pb, .ref pq, .int (zi we), .int (zi wl), .ref pw, .int (zi tl), .ref pt])), (ps, aI cI 10 sf), (pk, aI cI 12 kf), (pa, aI cI 12 af), (pb, aI cI 12 bf), (pq, aI cI 12 zf), (pw, aI cI 12 wf), (pt, aI cI 20 tf)]) (w1 := [(h0, .inr (4, [.ref qs, .ref qr, .ref qm, .ref qw, .ref qt, .int (zi we)])), (qs, aI cI 10 sf), (qo, aL cL 1 of)]) hP hD [0, 1, 17] [2, 3, 4, 5, 6, 7, 8, 9, 10, 11, 12, 13, 14, 15, 16] rfl rfl (by decide) (by decide) hk1 hFc hP1 hD1
      generalize H1 = H at hP hS ⊢
      obtain rfl : r1 = zi 1 := hw
      have hP : va_P (dC, dI) vwCl [(qr, .inr (0, [.int (zi mc), .ref qd, .int (zi 0)])), (qm, .inr (2, [.ref qk, .int (zi fi), .int (zi ln)])), (qk, aI cI 366 mf), (qw, .inr (1, [.ref wc, .int (zi wl)])), (wc, aI cI 20 wf), (qt, .inr (1, [.ref tc, .int (zi tl)])), (tc, aI cI 20 tf), (g0, .inr (5, [.int (zi co), .ref ps, .int (zi 0), .ref pk, .ref pa, .ref pb, .ref pq, .int (zi we), .int (zi wl), .ref pw, .int (zi tl), .ref pt])), (ps, aI cI 10 sf), (pk, aI cI 12 kf), (pa, aI cI 12 af), (pb, aI cI 12 bf), (pq, aI cI 12 zf), (pw, aI cI 12 wf), (pt, aI cI 20 tf), (h0, .inr (4, [.ref qs, .ref qr, .ref qm, .ref qw, .ref qt, .int (zi we)])), (qs, aI cI 10 sf), (qo, aL cL 1 of)] H := hP
      have hD : va_D A [(qr, .inr (0, [.int (zi mc), .ref qd, .int (zi 0)])), (qm, .inr (2, [.ref qk, .int (zi fi), .int (zi ln)])), (qk, aI cI 366 mf), (qw, .inr (1, [.ref wc, .int (zi wl)])), (wc, aI cI 20 wf), (qt, .inr (1, [.ref tc, .int (zi tl)])), (tc, aI cI 20 tf), (g0, .inr (5, [.int (zi co), .ref ps, .int (zi 0), .ref pk, .ref pa, .ref pb, .ref pq, .int (zi we), .int (zi wl), .ref pw, .int (zi tl), .ref pt])), (ps, aI cI 10 sf), (pk, aI cI 12 kf), (pa, aI cI 12 af), (pb, aI cI 12 bf), (pq, aI cI 12 zf), (pw, aI cI 12 wf), (pt, aI cI 20 tf), (h0, .inr (4, [.ref qs, .ref qr, .ref qm, .ref qw, .ref qt, .int (zi we)])), (qs, aI cI 10 sf), (qo, aL cL 1 of)] := hD
      refine lv_istore (lv' := [(5, .int (zi 1)), (4, .int (zi ii)), (0, .ref b), (1, .ref h0), (2, .ref g0), (3, .ref qo)]) hx hb dL_law_731 hl (by decide) rfl (fun ls hl => ?_)
      refine lv_aload_n hx hb dL_law_733 rfl (lv_at hl 4 rfl) ?_
      refine lv_aload_n hx hb dL_law_734 rfl (lv_at hl 2 rfl) ?_
      refine lv_iload hx hb dL_law_735 (lv_at hl 1 rfl) ?_
      refine zw_iconst hx hb dL_law_737 ?_
      refine zw_iadd hx hb dL_law_738 ?_
      refine zw_scr hx hb hX hbl hbA hS (by omega) (by omega) ⟨by omega, by omega⟩ hv1 dL_law_739 ?_
      refine lv_aload_n hx hb dL_law_740 rfl (lv_at hl 2 rfl) ?_
      refine lv_iload hx hb dL_law_741 (lv_at hl 1 rfl) ?_
      refine zw_iconst hx hb dL_law_743 ?_
      refine zw_iadd hx hb dL_law_744 ?_
      refine zw_scr hx hb hX hbl hbA hS (by omega) (by omega) ⟨by omega, by omega⟩ hv2 dL_law_745 ?_
      refine lv_aload_n hx hb dL_law_746 rfl (lv_at hl 2 rfl) ?_
      refine lv_iload hx hb dL_law_747 (lv_at hl 1 rfl) ?_
      refine zw_iconst hx hb dL_law_749 ?_
      refine zw_iadd hx hb dL_law_750 ?_
      refine zw_scr hx hb hX hbl hbA hS (by omega) (by omega) ⟨by omega, by omega⟩ hv3 dL_law_751 ?_
      have hh2 := c_X5_between_1 l dC dI cI g0 ps pk pa pb pq pw pt co 0 we wl tl sf sl ot un H.size (by omega) (by omega) (by omega) (by omega)
      have hPc := hP.sub (ws' := [(g0, .inr (5, [.int (zi co), .ref ps, .int (zi 0), .ref pk, .ref pa, .ref pb, .ref pq, .int (zi we), .int (zi wl), .ref pw, .int (zi tl), .ref pt])), (ps, aI cI 10 sf)]) [7, 8] rfl
      have hKc : va_K (dC, dI) vwCl [(cI, .int)] s := hK.sub (tys' := [(cI, .int)]) [0] rfl
      have hDc := hD.sub (ws' := [(g0, .inr (5, [.int (zi co), .ref ps, .int (zi 0), .ref pk, .ref pa, .ref pb, .ref pq, .int (zi we), .int (zi wl), .ref pw, .int (zi tl), .ref pt])), (ps, aI cI 10 sf)]) [7, 8] (by decide) rfl
      have hFc := va_free (wc := [(g0, .inr (5, [.int (zi co), .ref ps, .int (zi 0), .ref pk, .ref pa, .ref pb, .ref pq, .int (zi we), .int (zi wl), .ref pw, .int (zi tl), .ref pt])), (ps, aI cI 10 sf)]) hD hS hA [7, 8] rfl
      refine va_calli (va_runV (As := [.int (zi sl), .int (zi ot), .int (zi un)]) (rest := []) ⟨hx, hb, hml, hown, hts⟩ hh2 (cwV 3 hts gL_law_X5_between rfl rfl rfl (by decide +kernel) ⟨Nat.le_of_ble_eq_true rfl, Nat.le_of_ble_eq_true rfl⟩) ⟨zPw.blind _ _ _ _ _, va_recv hKc hPc (ci := 5) (q0 := 0) rfl rfl, fun U hU hW => ⟨rfl, by rw [hU], by rw [hU]; exact hPc, va_K.moved hW.alike hKc, hDc.weaken (fun _ _ _ _ => trivial)⟩⟩ rfl rfl hl.1 rfl (lv_room (Nat.le_of_ble_eq_true rfl)) dL_law_752 ⟨by show _ ≤ 601024; omega, by show _ ≤ 7293033; omega⟩) hS (fun q _ h => hFc q h) hFc (fun r2 u t H1 locs ht hvm hw hB hz1 hk1 hS => ?_)
      obtain ⟨hP1, hK1, hD1⟩ := hB
      rw [ht] at hP1
      obtain ⟨hP, hD⟩ := va_join (wr := [(qr, .inr (0, [.int (zi mc), .ref qd, .int (zi 0)])), (qm, .inr (2, [.ref qk, .int (zi fi), .int (zi ln)])), (qk, aI cI 366 mf), (qw, .inr (1, [.ref wc, .int (zi wl)])), (wc, aI cI 20 wf), (qt, .inr (1, [.ref tc, .int (zi tl)])), (tc, aI cI 20 tf), (pk, aI cI 12 kf), (pa, aI cI 12 af), (pb, aI cI 12 bf), (pq, aI cI 12 zf), (pw, aI cI 12 wf), (pt, aI cI 20 tf), (h0, .inr (4, [.ref qs, .ref qr, .ref qm, .ref qw, .ref qt, .int (zi we)])), (qs, aI cI 10 sf), (qo, aL cL 1 of)]) (w1 := [(g0, .inr (5, [.int (zi 1), .ref ps, .int (zi 0), .ref pk, .ref pa, .ref pb, .ref pq, .int (zi we), .int (zi wl), .ref pw, .int (zi tl), .ref pt])), (ps, aI cI 10 sf)]) hP hD [7, 8] [0, 1, 2, 3, 4, 5, 6, 9, 10, 11, 12, 13, 14, 15, 16, 17] rfl rfl (by decide) (by decide) hk1 hFc hP1 hD1
      generalize H1 = H at hP hS ⊢
      obtain rfl : r2 = zi 0 := hw
      have hP : va_P (dC, dI) vwCl [(qr, .inr (0, [.int (zi mc), .ref qd, .int (zi 0)])), (qm, .inr (2, [.ref qk, .int (zi fi), .int (zi ln)])), (qk, aI cI 366 mf), (qw, .inr (1, [.ref wc, .int (zi wl)])), (wc, aI cI 20 wf), (qt, .inr (1, [.ref tc, .int (zi tl)])), (tc, aI cI 20 tf), (pk, aI cI 12 kf), (pa, aI cI 12 af), (pb, aI cI 12 bf), (pq, aI cI 12 zf), (pw, aI cI 12 wf), (pt, aI cI 20 tf), (h0, .inr (4, [.ref qs, .ref qr, .ref qm, .ref qw, .ref qt, .int (zi we)])), (qs, aI cI 10 sf), (qo, aL cL 1 of), (g0, .inr (5, [.int (zi 1), .ref ps, .int (zi 0), .ref pk, .ref pa, .ref pb, .ref pq, .int (zi we), .int (zi wl), .ref pw, .int (zi tl), .ref pt])), (ps, aI cI 10 sf)] H := hP
      have hD : va_D A [(qr, .inr (0, [.int (zi mc), .ref qd, .int (zi 0)])), (qm, .inr (2, [.ref qk, .int (zi fi), .int (zi ln)])), (qk, aI cI 366 mf), (qw, .inr (1, [.ref wc, .int (zi wl)])), (wc, aI cI 20 wf), (qt, .inr (1, [.ref tc, .int (zi tl)])), (tc, aI cI 20 tf), (pk, aI cI 12 kf), (pa, aI cI 12 af), (pb, aI cI 12 bf), (pq, aI cI 12 zf), (pw, aI cI 12 wf), (pt, aI cI 20 tf), (h0, .inr (4, [.ref qs, .ref qr, .ref qm, .ref qw, .ref qt, .int (zi we)])), (qs, aI cI 10 sf), (qo, aL cL 1 of), (g0, .inr (5, [.int (zi 1), .ref ps, .int (zi 0), .ref pk, .ref pa, .ref pb, .ref pq, .int (zi we), .int (zi wl), .ref pw, .int (zi tl), .ref pt])), (ps, aI cI 10 sf)] := hD
      refine lv_istore (lv' := [(6, .int (zi 0)), (5, .int (zi 1)), (4, .int (zi ii)), (0, .ref b), (1, .ref h0), (2, .ref g0), (3, .ref qo)]) hx hb dL_law_755 hl (by decide) rfl (fun ls hl => ?_)
      refine lv_aload_n hx hb dL_law_757 rfl (lv_at hl 5 rfl) ?_
      have hh3 := c_X5_thrown l dC dI cI g0 ps pk pa pb pq pw pt 1 0 we wl tl sf 
      have hPc := hP.sub (ws' := [(g0, .inr (5, [.int (zi 1), .ref ps, .int (zi 0), .ref pk, .ref pa, .ref pb, .ref pq, .int (zi we), .int (zi wl), .ref pw, .int (zi tl), .ref pt])), (ps, aI cI 10 sf)]) [16, 17] rfl
      have hKc : va_K (dC, dI) vwCl [(cI, .int)] s := hK.sub (tys' := [(cI, .int)]) [0] rfl
      refine vp_callSi (va_Run.run (va_runV (As := []) (rest := []) ⟨hx, hb, hml, hown, hts⟩ hh3 (cwV 0 hts gL_law_X5_thrown rfl rfl rfl (by decide +kernel) ⟨Nat.le_of_ble_eq_true rfl, Nat.le_of_ble_eq_true rfl⟩) ⟨zPr.blind _ _ _ _, va_recv hKc hPc (ci := 5) (q0 := 0) rfl rfl, fun U hU hW => ⟨rfl, by rw [hU]; exact hPc, va_K.moved hW.alike hKc⟩⟩ rfl rfl hl.1 rfl (lv_room (Nat.le_of_ble_eq_true rfl)) dL_law_758 ⟨by show _ ≤ 601024; omega, by show _ ≤ 7293033; omega⟩)) (fun r3 (hr3 : r3 = zi 1) => ?_)
      subst hr3
      refine lv_iload hx hb dL_law_761 (lv_at hl 1 rfl) ?_
      refine zw_icmp_eq (tgt := 768) hx hb dL_law_763 (by decide) ⟨by omega, by omega⟩ ⟨by omega, by omega⟩ (fun h4 => ?_) (fun h4 => ?_)
      · skip
        refine lv_iload hx hb dL_law_768 (lv_at hl 1 rfl) ?_
        refine zw_if_ne (tgt := 785) hx hb dL_law_770 (by decide) ⟨by omega, by omega⟩ (fun h5 => ?_) (fun h5 => ?_)
        · skip
          refine lv_goto (tgt := 1499) hx hb dL_law_785 (by decide) ?_
          have hP9 : va_P (dC, dI) vwCl [(h0, .inr (4, [.ref qs, .ref qr, .ref qm, .ref qw, .ref qt, .int (zi we)])), (qs, aI cI 10 sf), (qr, .inr (0, [.int (zi mc), .ref qd, .int (zi 0)])), (qm, .inr (2, [.ref qk, .int (zi fi), .int (zi ln)])), (qk, aI cI 366 mf), (qw, .inr (1, [.ref wc, .int (zi wl)])), (wc, aI cI 20 wf), (qt, .inr (1, [.ref tc, .int (zi tl)])), (tc, aI cI 20 tf), (g0, .inr (5, [.int (zi 1), .ref ps, .int (zi 0), .ref pk, .ref pa, .ref pb, .ref pq, .int (zi we), .int (zi wl), .ref pw, .int (zi tl), .ref pt])), (ps, aI cI 10 sf), (pk, aI cI 12 kf), (pa, aI cI 12 af), (pb, aI cI 12 bf), (pq, aI cI 12 zf), (pw, aI cI 12 wf), (pt, aI cI 20 tf), (qo, aL cL 1 of)] H := hP.sub (ws' := [(h0, .inr (4, [.ref qs, .ref qr, .ref qm, .ref qw, .ref qt, .int (zi we)])), (qs, aI cI 10 sf), (qr, .inr (0, [.int (zi mc), .ref qd, .int (zi 0)])), (qm, .inr (2, [.ref qk, .int (zi fi), .int (zi ln)])), (qk, aI cI 366 mf), (qw, .inr (1, [.ref wc, .int (zi wl)])), (wc, aI cI 20 wf), (qt, .inr (1, [.ref tc, .int (zi tl)])), (tc, aI cI 20 tf), (g0, .inr (5, [.int (zi 1), .ref ps, .int (zi 0), .ref pk, .ref pa, .ref pb, .ref pq, .int (zi we), .int (zi wl), .ref pw, .int (zi tl), .ref pt])), (ps, aI cI 10 sf), (pk, aI cI 12 kf), (pa, aI cI 12 af), (pb, aI cI 12 bf), (pq, aI cI 12 zf), (pw, aI cI 12 wf), (pt, aI cI 20 tf), (qo, aL cL 1 of)]) [13, 14, 0, 1, 2, 3, 4, 5, 6, 16, 17, 7, 8, 9, 10, 11, 12, 15] rfl
          have hD9 : va_D A [(h0, .inr (4, [.ref qs, .ref qr, .ref qm, .ref qw, .ref qt, .int (zi we)])), (qs, aI cI 10 sf), (qr, .inr (0, [.int (zi mc), .ref qd, .int (zi 0)])), (qm, .inr (2, [.ref qk, .int (zi fi), .int (zi ln)])), (qk, aI cI 366 mf), (qw, .inr (1, [.ref wc, .int (zi wl)])), (wc, aI cI 20 wf), (qt, .inr (1, [.ref tc, .int (zi tl)])), (tc, aI cI 20 tf), (g0, .inr (5, [.int (zi 1), .ref ps, .int (zi 0), .ref pk, .ref pa, .ref pb, .ref pq, .int (zi we), .int (zi wl), .ref pw, .int (zi tl), .ref pt])), (ps, aI cI 10 sf), (pk, aI cI 12 kf), (pa, aI cI 12 af), (pb, aI cI 12 bf), (pq, aI cI 12 zf), (pw, aI cI 12 wf), (pt, aI cI 20 tf), (qo, aL cL 1 of)] := hD.sub (ws' := [(h0, .inr (4, [.ref qs, .ref qr, .ref qm, .ref qw, .ref qt, .int (zi we)])), (qs, aI cI 10 sf), (qr, .inr (0, [.int (zi mc), .ref qd, .int (zi 0)])), (qm, .inr (2, [.ref qk, .int (zi fi), .int (zi ln)])), (qk, aI cI 366 mf), (qw, .inr (1, [.ref wc, .int (zi wl)])), (wc, aI cI 20 wf), (qt, .inr (1, [.ref tc, .int (zi tl)])), (tc, aI cI 20 tf), (g0, .inr (5, [.int (zi 1), .ref ps, .int (zi 0), .ref pk, .ref pa, .ref pb, .ref pq, .int (zi we), .int (zi wl), .ref pw, .int (zi tl), .ref pt])), (ps, aI cI 10 sf), (pk, aI cI 12 kf), (pa, aI cI 12 af), (pb, aI cI 12 bf), (pq, aI cI 12 zf), (pw, aI cI 12 wf), (pt, aI cI 20 tf), (qo, aL cL 1 of)]) [13, 14, 0, 1, 2, 3, 4, 5, 6, 16, 17, 7, 8, 9, 10, 11, 12, 15] (by decide) rfl
          have hI9 : LI sf kf af bf zf wf tf 0 we fi ln wl tl := hI
          refine W.widen (k := ce + 2) (n := sn + 19) (by omega) (by omega) ?_
          exact K0 mc we fi ln mf sf kf af bf zf wl wf tl tf 1 of H locs ls ⟨hP9, hD9, hS, hI9⟩ (lv_sub hl [2, 3, 4, 5, 6] rfl)
        · skip
          exact absurd True.intro (by omega)
      · skip
        exact absurd True.intro (by omega)
  · skip
    refine lv_aload_n hx hb dL_law_708 rfl (lv_at hl 2 rfl) ?_
    refine lv_aload_n hx hb dL_law_709 rfl (lv_at hl 1 rfl) ?_
    refine lv_iload hx hb dL_law_710 (lv_at hl 0 rfl) ?_
    refine zw_iconst hx hb dL_law_712 ?_
    refine zw_iadd hx hb dL_law_713 ?_
    refine zw_scr hx hb hX hbl hbA hS (by omega) (by omega) ⟨by omega, by omega⟩ hv1 dL_law_714 ?_
    refine lv_aload_n hx hb dL_law_715 rfl (lv_at hl 1 rfl) ?_
    refine lv_iload hx hb dL_law_716 (lv_at hl 0 rfl) ?_
    refine zw_iconst hx hb dL_law_718 ?_
    refine zw_iadd hx hb dL_law_719 ?_
    refine zw_scr hx hb hX hbl hbA hS (by omega) (by omega) ⟨by omega, by omega⟩ hv2 dL_law_720 ?_
    refine lv_aload_n hx hb dL_law_721 rfl (lv_at hl 1 rfl) ?_
    refine lv_iload hx hb dL_law_722 (lv_at hl 0 rfl) ?_
    refine zw_iconst hx hb dL_law_724 ?_
    refine zw_iadd hx hb dL_law_725 ?_
    refine zw_scr hx hb hX hbl hbA hS (by omega) (by omega) ⟨by omega, by omega⟩ hv3 dL_law_726 ?_
    refine lv_aload_n hx hb dL_law_727 rfl (lv_at hl 4 rfl) ?_
    have hh1 := c_L_between_1 l hst dC dI cI cL h0 qs qr qm qw qt we sf qo of sl ot un H.size (by omega) (by omega)
    have hPc := hP.sub (ws' := [(h0, .inr (4, [.ref qs, .ref qr, .ref qm, .ref qw, .ref qt, .int (zi we)])), (qs, aI cI 10 sf), (qo, aL cL 1 of)]) [0, 1, 17] rfl
    have hKc : va_K (dC, dI) vwCl [(cI, .int), (cL, .long)] s := hK.sub (tys' := [(cI, .int), (cL, .long)]) [0, 1] rfl
    have hDc := hD.sub (ws' := [(h0, .inr (4, [.ref qs, .ref qr, .ref qm, .ref qw, .ref qt, .int (zi we)])), (qs, aI cI 10 sf), (qo, aL cL 1 of)]) [0, 1, 17] (by decide) rfl
    have hFc := va_free (wc := [(h0, .inr (4, [.ref qs, .ref qr, .ref qm, .ref qw, .ref qt, .int (zi we)])), (qs, aI cI 10 sf), (qo, aL cL 1 of)]) hD hS hA [0, 1, 17] rfl
    refine va_calli (vx_runSW (As := [.ref h0, .int (zi sl), .int (zi ot), .int (zi un), .ref qo]) (rest := []) ⟨hx, hb, hml, hown, hts⟩ hh1 (vx_cwSW 5 hts gL_law_L_between rfl rfl rfl (by decide +kernel) ⟨Nat.le_of_ble_eq_true rfl, Nat.le_of_ble_eq_true rfl⟩) ⟨zPx.blind _ _ _ _ _, fun U hU hW => ⟨rfl, by rw [hU], hE.call hS (fun q h => hA q (Nat.le_trans hS.1 (by rw [hU] at h; exact h))) hU hW, by rw [hU]; exact hPc, va_K.moved hW.alike hKc, hDc.weaken (fun _ _ _ _ => trivial)⟩⟩ rfl rfl hl.1 rfl (lv_room (Nat.le_of_ble_eq_true rfl)) dL_law_728 ⟨by show _ ≤ 601024; omega, by show _ ≤ 7293033; omega⟩) hS (fun q _ h => hFc q h) hFc (fun r1 u t H1 locs ht hvm hw hB hz1 hk1 hS => ?_)
    obtain ⟨hP1, hK1, hD1⟩ := hB
    rw [ht] at hP1
    obtain ⟨hP, hD⟩ := va_join (wr := [(qr, .inr (0, [.int (zi mc), .ref qd, .int (zi 0)])), (qm, .inr (2, [.ref qk, .int (zi fi), .int (zi ln)])), (qk, aI cI 366 mf), (qw, .inr (1, [.ref wc, .int (zi wl)])), (wc, aI cI 20 wf), (qt, .inr (1, [.ref tc, .int (zi tl)])), (tc, aI cI 20 tf), (g0, .inr (5, [.int (zi co), .ref ps, .int (zi 0), .ref pk, .ref pa, .ref pb, .ref pq, .int (zi we), .int (zi wl), .ref pw, .int (zi tl), .ref pt])), (ps, aI cI 10 sf), (pk, aI cI 12 kf), (pa, aI cI 12 af), (pb, aI cI 12 bf), (pq, aI cI 12 zf), (pw, aI cI 12 wf), (pt, aI cI 20 tf)]) (w1 := [(h0, .inr (4, [.ref qs, .ref qr, .ref qm, .ref qw, .ref qt, .int (zi we)])), (qs, aI cI 10 sf), (qo, aL cL 1 of)]) hP hD [0, 1, 17] [2, 3, 4, 5, 6, 7, 8, 9, 10, 11, 12, 13, 14, 15, 16] rfl rfl (by decide) (by decide) hk1 hFc hP1 hD1
    generalize H1 = H at hP hS ⊢
    obtain rfl : r1 = zi 1 := hw
    have hP : va_P (dC, dI) vwCl [(qr, .inr (0, [.int (zi mc), .ref qd, .int (zi 0)])), (qm, .inr (2, [.ref qk, .int (zi fi), .int (zi ln)])), (qk, aI cI 366 mf), (qw, .inr (1, [.ref wc, .int (zi wl)])), (wc, aI cI 20 wf), (qt, .inr (1, [.ref tc, .int (zi tl)])), (tc, aI cI 20 tf), (g0, .inr (5, [.int (zi co), .ref ps, .int (zi 0), .ref pk, .ref pa, .ref pb, .ref pq, .int (zi we), .int (zi wl), .ref pw, .int (zi tl), .ref pt])), (ps, aI cI 10 sf), (pk, aI cI 12 kf), (pa, aI cI 12 af), (pb, aI cI 12 bf), (pq, aI cI 12 zf), (pw, aI cI 12 wf), (pt, aI cI 20 tf), (h0, .inr (4, [.ref qs, .ref qr, .ref qm, .ref qw, .ref qt, .int (zi we)])), (qs, aI cI 10 sf), (qo, aL cL 1 of)] H := hP
    have hD : va_D A [(qr, .inr (0, [.int (zi mc), .ref qd, .int (zi 0)])), (qm, .inr (2, [.ref qk, .int (zi fi), .int (zi ln)])), (qk, aI cI 366 mf), (qw, .inr (1, [.ref wc, .int (zi wl)])), (wc, aI cI 20 wf), (qt, .inr (1, [.ref tc, .int (zi tl)])), (tc, aI cI 20 tf), (g0, .inr (5, [.int (zi co), .ref ps, .int (zi 0), .ref pk, .ref pa, .ref pb, .ref pq, .int (zi we), .int (zi wl), .ref pw, .int (zi tl), .ref pt])), (ps, aI cI 10 sf), (pk, aI cI 12 kf), (pa, aI cI 12 af), (pb, aI cI 12 bf), (pq, aI cI 12 zf), (pw, aI cI 12 wf), (pt, aI cI 20 tf), (h0, .inr (4, [.ref qs, .ref qr, .ref qm, .ref qw, .ref qt, .int (zi we)])), (qs, aI cI 10 sf), (qo, aL cL 1 of)] := hD
    refine lv_istore (lv' := [(5, .int (zi 1)), (4, .int (zi ii)), (0, .ref b), (1, .ref h0), (2, .ref g0), (3, .ref qo)]) hx hb dL_law_731 hl (by decide) rfl (fun ls hl => ?_)
    refine lv_aload_n hx hb dL_law_733 rfl (lv_at hl 4 rfl) ?_
    refine lv_aload_n hx hb dL_law_734 rfl (lv_at hl 2 rfl) ?_
    refine lv_iload hx hb dL_law_735 (lv_at hl 1 rfl) ?_
    refine zw_iconst hx hb dL_law_737 ?_
    refine zw_iadd hx hb dL_law_738 ?_
    refine zw_scr hx hb hX hbl hbA hS (by omega) (by omega) ⟨by omega, by omega⟩ hv1 dL_law_739 ?_
    refine lv_aload_n hx hb dL_law_740 rfl (lv_at hl 2 rfl) ?_
    refine lv_iload hx hb dL_law_741 (lv_at hl 1 rfl) ?_
    refine zw_iconst hx hb dL_law_743 ?_
    refine zw_iadd hx hb dL_law_744 ?_
    refine zw_scr hx hb hX hbl hbA hS (by omega) (by omega) ⟨by omega, by omega⟩ hv2 dL_law_745 ?_
    refine lv_aload_n hx hb dL_law_746 rfl (lv_at hl 2 rfl) ?_
    refine lv_iload hx hb dL_law_747 (lv_at hl 1 rfl) ?_
    refine zw_iconst hx hb dL_law_749 ?_
    refine zw_iadd hx hb dL_law_750 ?_
    refine zw_scr hx hb hX hbl hbA hS (by omega) (by omega) ⟨by omega, by omega⟩ hv3 dL_law_751 ?_
    have hh2 := c_X5_between_1 l dC dI cI g0 ps pk pa pb pq pw pt co 0 we wl tl sf sl ot un H.size (by omega) (by omega) (by omega) (by omega)
    have hPc := hP.sub (ws' := [(g0, .inr (5, [.int (zi co), .ref ps, .int (zi 0), .ref pk, .ref pa, .ref pb, .ref pq, .int (zi we), .int (zi wl), .ref pw, .int (zi tl), .ref pt])), (ps, aI cI 10 sf)]) [7, 8] rfl
    have hKc : va_K (dC, dI) vwCl [(cI, .int)] s := hK.sub (tys' := [(cI, .int)]) [0] rfl
    have hDc := hD.sub (ws' := [(g0, .inr (5, [.int (zi co), .ref ps, .int (zi 0), .ref pk, .ref pa, .ref pb, .ref pq, .int (zi we), .int (zi wl), .ref pw, .int (zi tl), .ref pt])), (ps, aI cI 10 sf)]) [7, 8] (by decide) rfl
    have hFc := va_free (wc := [(g0, .inr (5, [.int (zi co), .ref ps, .int (zi 0), .ref pk, .ref pa, .ref pb, .ref pq, .int (zi we), .int (zi wl), .ref pw, .int (zi tl), .ref pt])), (ps, aI cI 10 sf)]) hD hS hA [7, 8] rfl
    refine va_calli (va_runV (As := [.int (zi sl), .int (zi ot), .int (zi un)]) (rest := []) ⟨hx, hb, hml, hown, hts⟩ hh2 (cwV 3 hts gL_law_X5_between rfl rfl rfl (by decide +kernel) ⟨Nat.le_of_ble_eq_true rfl, Nat.le_of_ble_eq_true rfl⟩) ⟨zPw.blind _ _ _ _ _, va_recv hKc hPc (ci := 5) (q0 := 0) rfl rfl, fun U hU hW => ⟨rfl, by rw [hU], by rw [hU]; exact hPc, va_K.moved hW.alike hKc, hDc.weaken (fun _ _ _ _ => trivial)⟩⟩ rfl rfl hl.1 rfl (lv_room (Nat.le_of_ble_eq_true rfl)) dL_law_752 ⟨by show _ ≤ 601024; omega, by show _ ≤ 7293033; omega⟩) hS (fun q _ h => hFc q h) hFc (fun r2 u t H1 locs ht hvm hw hB hz1 hk1 hS => ?_)
    obtain ⟨hP1, hK1, hD1⟩ := hB
    rw [ht] at hP1
    obtain ⟨hP, hD⟩ := va_join (wr := [(qr, .inr (0, [.int (zi mc), .ref qd, .int (zi 0)])), (qm, .inr (2, [.ref qk, .int (zi fi), .int (zi ln)])), (qk, aI cI 366 mf), (qw, .inr (1, [.ref wc, .int (zi wl)])), (wc, aI cI 20 wf), (qt, .inr (1, [.ref tc, .int (zi tl)])), (tc, aI cI 20 tf), (pk, aI cI 12 kf), (pa, aI cI 12 af), (pb, aI cI 12 bf), (pq, aI cI 12 zf), (pw, aI cI 12 wf), (pt, aI cI 20 tf), (h0, .inr (4, [.ref qs, .ref qr, .ref qm, .ref qw, .ref qt, .int (zi we)])), (qs, aI cI 10 sf), (qo, aL cL 1 of)]) (w1 := [(g0, .inr (5, [.int (zi 1), .ref ps, .int (zi 0), .ref pk, .ref pa, .ref pb, .ref pq, .int (zi we), .int (zi wl), .ref pw, .int (zi tl), .ref pt])), (ps, aI cI 10 sf)]) hP hD [7, 8] [0, 1, 2, 3, 4, 5, 6, 9, 10, 11, 12, 13, 14, 15, 16, 17] rfl rfl (by decide) (by decide) hk1 hFc hP1 hD1
    generalize H1 = H at hP hS ⊢
    obtain rfl : r2 = zi 0 := hw
    have hP : va_P (dC, dI) vwCl [(qr, .inr (0, [.int (zi mc), .ref qd, .int (zi 0)])), (qm, .inr (2, [.ref qk, .int (zi fi), .int (zi ln)])), (qk, aI cI 366 mf), (qw, .inr (1, [.ref wc, .int (zi wl)])), (wc, aI cI 20 wf), (qt, .inr (1, [.ref tc, .int (zi tl)])), (tc, aI cI 20 tf), (pk, aI cI 12 kf), (pa, aI cI 12 af), (pb, aI cI 12 bf), (pq, aI cI 12 zf), (pw, aI cI 12 wf), (pt, aI cI 20 tf), (h0, .inr (4, [.ref qs, .ref qr, .ref qm, .ref qw, .ref qt, .int (zi we)])), (qs, aI cI 10 sf), (qo, aL cL 1 of), (g0, .inr (5, [.int (zi 1), .ref ps, .int (zi 0), .ref pk, .ref pa, .ref pb, .ref pq, .int (zi we), .int (zi wl), .ref pw, .int (zi tl), .ref pt])), (ps, aI cI 10 sf)] H := hP
    have hD : va_D A [(qr, .inr (0, [.int (zi mc), .ref qd, .int (zi 0)])), (qm, .inr (2, [.ref qk, .int (zi fi), .int (zi ln)])), (qk, aI cI 366 mf), (qw, .inr (1, [.ref wc, .int (zi wl)])), (wc, aI cI 20 wf), (qt, .inr (1, [.ref tc, .int (zi tl)])), (tc, aI cI 20 tf), (pk, aI cI 12 kf), (pa, aI cI 12 af), (pb, aI cI 12 bf), (pq, aI cI 12 zf), (pw, aI cI 12 wf), (pt, aI cI 20 tf), (h0, .inr (4, [.ref qs, .ref qr, .ref qm, .ref qw, .ref qt, .int (zi we)])), (qs, aI cI 10 sf), (qo, aL cL 1 of), (g0, .inr (5, [.int (zi 1), .ref ps, .int (zi 0), .ref pk, .ref pa, .ref pb, .ref pq, .int (zi we), .int (zi wl), .ref pw, .int (zi tl), .ref pt])), (ps, aI cI 10 sf)] := hD
    refine lv_istore (lv' := [(6, .int (zi 0)), (5, .int (zi 1)), (4, .int (zi ii)), (0, .ref b), (1, .ref h0), (2, .ref g0), (3, .ref qo)]) hx hb dL_law_755 hl (by decide) rfl (fun ls hl => ?_)
    refine lv_aload_n hx hb dL_law_757 rfl (lv_at hl 5 rfl) ?_
    have hh3 := c_X5_thrown l dC dI cI g0 ps pk pa pb pq pw pt 1 0 we wl tl sf 
    have hPc := hP.sub (ws' := [(g0, .inr (5, [.int (zi 1), .ref ps, .int (zi 0), .ref pk, .ref pa, .ref pb, .ref pq, .int (zi we), .int (zi wl), .ref pw, .int (zi tl), .ref pt])), (ps, aI cI 10 sf)]) [16, 17] rfl
    have hKc : va_K (dC, dI) vwCl [(cI, .int)] s := hK.sub (tys' := [(cI, .int)]) [0] rfl
    refine vp_callSi (va_Run.run (va_runV (As := []) (rest := []) ⟨hx, hb, hml, hown, hts⟩ hh3 (cwV 0 hts gL_law_X5_thrown rfl rfl rfl (by decide +kernel) ⟨Nat.le_of_ble_eq_true rfl, Nat.le_of_ble_eq_true rfl⟩) ⟨zPr.blind _ _ _ _, va_recv hKc hPc (ci := 5) (q0 := 0) rfl rfl, fun U hU hW => ⟨rfl, by rw [hU]; exact hPc, va_K.moved hW.alike hKc⟩⟩ rfl rfl hl.1 rfl (lv_room (Nat.le_of_ble_eq_true rfl)) dL_law_758 ⟨by show _ ≤ 601024; omega, by show _ ≤ 7293033; omega⟩)) (fun r3 (hr3 : r3 = zi 1) => ?_)
    subst hr3
    refine lv_iload hx hb dL_law_761 (lv_at hl 1 rfl) ?_
    refine zw_icmp_eq (tgt := 768) hx hb dL_law_763 (by decide) ⟨by omega, by omega⟩ ⟨by omega, by omega⟩ (fun h4 => ?_) (fun h4 => ?_)
    · skip
      refine lv_iload hx hb dL_law_768 (lv_at hl 1 rfl) ?_
      refine zw_if_ne (tgt := 785) hx hb dL_law_770 (by decide) ⟨by omega, by omega⟩ (fun h5 => ?_) (fun h5 => ?_)
      · skip
        refine lv_goto (tgt := 1499) hx hb dL_law_785 (by decide) ?_
        have hP9 : va_P (dC, dI) vwCl [(h0, .inr (4, [.ref qs, .ref qr, .ref qm, .ref qw, .ref qt, .int (zi we)])), (qs, aI cI 10 sf), (qr, .inr (0, [.int (zi mc), .ref qd, .int (zi 0)])), (qm, .inr (2, [.ref qk, .int (zi fi), .int (zi ln)])), (qk, aI cI 366 mf), (qw, .inr (1, [.ref wc, .int (zi wl)])), (wc, aI cI 20 wf), (qt, .inr (1, [.ref tc, .int (zi tl)])), (tc, aI cI 20 tf), (g0, .inr (5, [.int (zi 1), .ref ps, .int (zi 0), .ref pk, .ref pa, .ref pb, .ref pq, .int (zi we), .int (zi wl), .ref pw, .int (zi tl), .ref pt])), (ps, aI cI 10 sf), (pk, aI cI 12 kf), (pa, aI cI 12 af), (pb, aI cI 12 bf), (pq, aI cI 12 zf), (pw, aI cI 12 wf), (pt, aI cI 20 tf), (qo, aL cL 1 of)] H := hP.sub (ws' := [(h0, .inr (4, [.ref qs, .ref qr, .ref qm, .ref qw, .ref qt, .int (zi we)])), (qs, aI cI 10 sf), (qr, .inr (0, [.int (zi mc), .ref qd, .int (zi 0)])), (qm, .inr (2, [.ref qk, .int (zi fi), .int (zi ln)])), (qk, aI cI 366 mf), (qw, .inr (1, [.ref wc, .int (zi wl)])), (wc, aI cI 20 wf), (qt, .inr (1, [.ref tc, .int (zi tl)])), (tc, aI cI 20 tf), (g0, .inr (5, [.int (zi 1), .ref ps, .int (zi 0), .ref pk, .ref pa, .ref pb, .ref pq, .int (zi we), .int (zi wl), .ref pw, .int (zi tl), .ref pt])), (ps, aI cI 10 sf), (pk, aI cI 12 kf), (pa, aI cI 12 af), (pb, aI cI 12 bf), (pq, aI cI 12 zf), (pw, aI cI 12 wf), (pt, aI cI 20 tf), (qo, aL cL 1 of)]) [13, 14, 0, 1, 2, 3, 4, 5, 6, 16, 17, 7, 8, 9, 10, 11, 12, 15] rfl
        have hD9 : va_D A [(h0, .inr (4, [.ref qs, .ref qr, .ref qm, .ref qw, .ref qt, .int (zi we)])), (qs, aI cI 10 sf), (qr, .inr (0, [.int (zi mc), .ref qd, .int (zi 0)])), (qm, .inr (2, [.ref qk, .int (zi fi), .int (zi ln)])), (qk, aI cI 366 mf), (qw, .inr (1, [.ref wc, .int (zi wl)])), (wc, aI cI 20 wf), (qt, .inr (1, [.ref tc, .int (zi tl)])), (tc, aI cI 20 tf), (g0, .inr (5, [.int (zi 1), .ref ps, .int (zi 0), .ref pk, .ref pa, .ref pb, .ref pq, .int (zi we), .int (zi wl), .ref pw, .int (zi tl), .ref pt])), (ps, aI cI 10 sf), (pk, aI cI 12 kf), (pa, aI cI 12 af), (pb, aI cI 12 bf), (pq, aI cI 12 zf), (pw, aI cI 12 wf), (pt, aI cI 20 tf), (qo, aL cL 1 of)] := hD.sub (ws' := [(h0, .inr (4, [.ref qs, .ref qr, .ref qm, .ref qw, .ref qt, .int (zi we)])), (qs, aI cI 10 sf), (qr, .inr (0, [.int (zi mc), .ref qd, .int (zi 0)])), (qm, .inr (2, [.ref qk, .int (zi fi), .int (zi ln)])), (qk, aI cI 366 mf), (qw, .inr (1, [.ref wc, .int (zi wl)])), (wc, aI cI 20 wf), (qt, .inr (1, [.ref tc, .int (zi tl)])), (tc, aI cI 20 tf), (g0, .inr (5, [.int (zi 1), .ref ps, .int (zi 0), .ref pk, .ref pa, .ref pb, .ref pq, .int (zi we), .int (zi wl), .ref pw, .int (zi tl), .ref pt])), (ps, aI cI 10 sf), (pk, aI cI 12 kf), (pa, aI cI 12 af), (pb, aI cI 12 bf), (pq, aI cI 12 zf), (pw, aI cI 12 wf), (pt, aI cI 20 tf), (qo, aL cL 1 of)]) [13, 14, 0, 1, 2, 3, 4, 5, 6, 16, 17, 7, 8, 9, 10, 11, 12, 15] (by decide) rfl
        have hI9 : LI sf kf af bf zf wf tf 0 we fi ln wl tl := hI
        refine W.widen (k := ce + 2) (n := sn + 19) (by omega) (by omega) ?_
        exact K0 mc we fi ln mf sf kf af bf zf wl wf tl tf 1 of H locs ls ⟨hP9, hD9, hS, hI9⟩ (lv_sub hl [2, 3, 4, 5, 6] rfl)
      · skip
        exact absurd True.intro (by omega)
    · skip
      exact absurd True.intro (by omega)
