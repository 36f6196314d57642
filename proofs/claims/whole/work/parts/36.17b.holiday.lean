/-! THE LAW'S CASE holiday -/
set_option maxHeartbeats 4000000 in
set_option maxRecDepth 100000 in
theorem law0_holiday {p : Program} {l : Launch} {e : Env} {s : State} {m : MethodId} {below : List Frame} {meth : Method} {c : Code} {b : Nat} {L : Nat} {xs : Nat → Int32} {dC : Nat → ClassId} {dI : Nat → Nat → Nat} {cI : ClassId} {cL : ClassId} {cO : ClassId} {qd : Nat} {mi : Nat} {x0 : Nat} {v0 : Nat} {x1 : Nat} {v1 : Nat} {x2 : Nat} {v2 : Nat} {qy : Option Nat} {A : Nat → Prop} {h0 qs qr qm qw qt qk wc tc g0 ps pk pa pb pq pw pt qo : Nat} {mc : Int} {we : Int} {fi : Int} {ln : Int} {mf : Nat → Int} {sf : Nat → Int} {kf : Nat → Int} {af : Nat → Int} {bf : Nat → Int} {zf : Nat → Int} {wl : Int} {wf : Nat → Int} {tl : Int} {tf : Nat → Int} {co : Int} {of : Nat → Int} {ii : Int} {ce sn : Nat} {H : Heap} {locs : List Loc} {ls : Array Slot} (C : LC p l e s m below meth c b L xs dC dI cI cL cO qd mi x0 v0 x1 v1 x2 v2 qy A) (hLS : LS0 s dC dI cI cL cO qd A h0 qs qr qm qw qt qk wc tc g0 ps pk pa pb pq pw pt qo mc we fi ln mf sf kf af bf zf wl wf tl tf co of H locs) (K1 : LK1 p l e s m below meth c b L xs dC dI cI cL cO qd mi x0 v0 x1 v1 x2 v2 qy A h0 qs qr qm qw qt qk wc tc g0 ps pk pa pb pq pw pt qo ii ce sn) (K0 : LK0 p l e s m below meth c b L xs dC dI cI cL cO qd mi x0 v0 x1 v1 x2 v2 qy A h0 qs qr qm qw qt qk wc tc g0 ps pk pa pb pq pw pt qo ii ce sn) (hii : 0 ≤ ii ∧ ii + 6 ≤ (L : Int)) (hce : ce ≤ 601000) (hsn : sn ≤ 7293000) (hl : lv_has ls 7 [(4, .int (zi ii)), (0, .ref b), (1, .ref h0), (2, .ref g0), (3, .ref qo)]) : W p l e room_1 s m #[Value.ref b] below meth c H locs ce sn (lw_Z below #[Value.ref b] s) (F0 m 856 ls []) := by
  obtain ⟨hx, hb, hml, hown, hts, hst, hK, hE, hO, h3, hX, hbl, hbA, hA, hL⟩ := C
  obtain ⟨hP, hD, hS, hI⟩ := hLS
  have rf : Nat → Nat := fun _ => 0
  obtain ⟨kk, hv1⟩ : ∃ z : Int, z = (xs (ii + 1).toNat).toInt := ⟨_, rfl⟩
  have hb1 : -2147483648 ≤ kk ∧ kk ≤ 2147483647 := by rw [hv1]; exact scr_b _
  obtain ⟨aa, hv2⟩ : ∃ z : Int, z = (xs (ii + 2).toNat).toInt := ⟨_, rfl⟩
  have hb2 : -2147483648 ≤ aa ∧ aa ≤ 2147483647 := by rw [hv2]; exact scr_b _
  obtain ⟨bb, hv3⟩ : ∃ z : Int, z = (xs (ii + 3).toNat).toInt := ⟨_, rfl⟩
  have hb3 : -2147483648 ≤ bb ∧ bb ≤ 2147483647 := by rw [hv3]; exact scr_b _
  obtain ⟨cz, hv4⟩ : ∃ z : Int, z = (xs (ii + 4).toNat).toInt := ⟨_, rfl⟩
  have hb4 : -2147483648 ≤ cz ∧ cz ≤ 2147483647 := by rw [hv4]; exact scr_b _
  have hI1 := hI.rub
  have hI2 := hI.web
  have hI3 := hI.mkb
  have hI4 := hI.wlb
  have hI5 := hI.tlb
  have hir := e_isRule kk aa bb cz
  have hib := b_X5_isRule kk aa bb cz (by omega) (by omega) (by omega) (by omega)
  by_cases h1 : f_X5_isRule kk aa bb cz = 1
  · skip
    refine lv_aload_n hx hb dL_law_856 rfl (lv_at hl 2 rfl) ?_
    refine lv_aload_n hx hb dL_law_857 rfl (lv_at hl 1 rfl) ?_
    refine lv_iload hx hb dL_law_858 (lv_at hl 0 rfl) ?_
    refine zw_iconst hx hb dL_law_860 ?_
    refine zw_iadd hx hb dL_law_861 ?_
    refine zw_scr hx hb hX hbl hbA hS (by omega) (by omega) ⟨by omega, by omega⟩ hv1 dL_law_862 ?_
    refine lv_aload_n hx hb dL_law_863 rfl (lv_at hl 1 rfl) ?_
    refine lv_iload hx hb dL_law_864 (lv_at hl 0 rfl) ?_
    refine zw_iconst hx hb dL_law_866 ?_
    refine zw_iadd hx hb dL_law_867 ?_
    refine zw_scr hx hb hX hbl hbA hS (by omega) (by omega) ⟨by omega, by omega⟩ hv2 dL_law_868 ?_
    refine lv_aload_n hx hb dL_law_869 rfl (lv_at hl 1 rfl) ?_
    refine lv_iload hx hb dL_law_870 (lv_at hl 0 rfl) ?_
    refine zw_iconst hx hb dL_law_872 ?_
    refine zw_iadd hx hb dL_law_873 ?_
    refine zw_scr hx hb hX hbl hbA hS (by omega) (by omega) ⟨by omega, by omega⟩ hv3 dL_law_874 ?_
    refine lv_aload_n hx hb dL_law_875 rfl (lv_at hl 1 rfl) ?_
    refine lv_iload hx hb dL_law_876 (lv_at hl 0 rfl) ?_
    refine zw_iconst hx hb dL_law_878 ?_
    refine zw_iadd hx hb dL_law_879 ?_
    refine zw_scr hx hb hX hbl hbA hS (by omega) (by omega) ⟨by omega, by omega⟩ hv4 dL_law_880 ?_
    refine lv_aload_n hx hb dL_law_881 rfl (lv_at hl 4 rfl) ?_
    have hh1 := c_Lz_holiday l dC dI cI cL cO h0 qs qr qm qw qt we mc qd qo of kk aa bb cz mi H.size (by omega) (by omega) (by omega) (by omega) (by omega)
    have hPc := hP.sub (ws' := [(h0, .inr (4, [.ref qs, .ref qr, .ref qm, .ref qw, .ref qt, .int (zi we)])), (qr, .inr (0, [.int (zi mc), .ref qd, .int (zi 0)])), (qo, aL cL 1 of)]) [0, 2, 17] rfl
    have hKc : va_K (dC, dI) vwCl [(cI, .int), (cL, .long), (cO, .object "java/lang/Object")] s := hK
    have hDc := hD.sub (ws' := [(h0, .inr (4, [.ref qs, .ref qr, .ref qm, .ref qw, .ref qt, .int (zi we)])), (qr, .inr (0, [.int (zi mc), .ref qd, .int (zi 0)])), (qo, aL cL 1 of)]) [0, 2, 17] (by decide) rfl
    have hFc := va_free (wc := [(h0, .inr (4, [.ref qs, .ref qr, .ref qm, .ref qw, .ref qt, .int (zi we)])), (qr, .inr (0, [.int (zi mc), .ref qd, .int (zi 0)])), (qo, aL cL 1 of)]) hD hS hA [0, 2, 17] rfl
    refine va_calli (vx_runSW (As := [.ref h0, .int (zi kk), .int (zi aa), .int (zi bb), .int (zi cz), .ref qo]) (rest := []) ⟨hx, hb, hml, hown, hts⟩ hh1 (vx_cwSW 6 hts gL_law_L_holiday rfl rfl rfl (by decide +kernel) ⟨Nat.le_of_ble_eq_true rfl, Nat.le_of_ble_eq_true rfl⟩) ⟨zPwF.blind _ _ _ _ _ zO2_ok, fun U hU hW => ⟨rfl, by rw [hU], by rw [hU]; exact hPc, va_K.moved hW.alike hKc, hDc.weaken (fun _ _ _ _ => trivial), zF.call zO2_ok hO hS hFc hU hW⟩⟩ rfl rfl hl.1 rfl (lv_room (Nat.le_of_ble_eq_true rfl)) dL_law_882 ⟨by show _ ≤ 601024; omega, by show _ ≤ 7293033; omega⟩) hS (fun q _ h => hFc q h) hFc (fun r1 u t H1 locs ht hvm hw hB hz1 hk1 hS => ?_)
    obtain ⟨qf_2, eg_2, qn_2⟩ := u
    obtain ⟨hw, hw1⟩ := hw
    replace hw1 : eg_2 (Int.toNat 0) = some qn_2 := hw1
    obtain ⟨hP1, hK1, hD1⟩ := hB
    rw [ht] at hP1
    replace hP1 : va_P (dC, dI) vwCl [(h0, .inr (4, [.ref qs, .ref qr, .ref qm, .ref qw, .ref qt, .int (zi we)])), (qr, .inr (0, [.int (zi (mc + 1)), .ref qf_2, .int (zi 1)])), (qf_2, aR cO 10 eg_2), (qn_2, .inr (3, [.int (zi kk), .int (zi aa), .int (zi bb), .int (zi cz)])), (qo, aL cL 1 (zup of (Int.toNat 0) 1))] H1 := hP1
    replace hD1 : va_D _ [(h0, .inr (4, [.ref qs, .ref qr, .ref qm, .ref qw, .ref qt, .int (zi we)])), (qr, .inr (0, [.int (zi (mc + 1)), .ref qf_2, .int (zi 1)])), (qf_2, aR cO 10 eg_2), (qn_2, .inr (3, [.int (zi kk), .int (zi aa), .int (zi bb), .int (zi cz)])), (qo, aL cL 1 (zup of (Int.toNat 0) 1))] := hD1
    obtain ⟨hP, hD⟩ := va_join (wr := [(qs, aI cI 10 sf), (qm, .inr (2, [.ref qk, .int (zi fi), .int (zi ln)])), (qk, aI cI 366 mf), (qw, .inr (1, [.ref wc, .int (zi wl)])), (wc, aI cI 20 wf), (qt, .inr (1, [.ref tc, .int (zi tl)])), (tc, aI cI 20 tf), (g0, .inr (5, [.int (zi co), .ref ps, .int (zi 0), .ref pk, .ref pa, .ref pb, .ref pq, .int (zi we), .int (zi wl), .ref pw, .int (zi tl), .ref pt])), (ps, aI cI 10 sf), (pk, aI cI 12 kf), (pa, aI cI 12 af), (pb, aI cI 12 bf), (pq, aI cI 12 zf), (pw, aI cI 12 wf), (pt, aI cI 20 tf)]) (w1 := [(h0, .inr (4, [.ref qs, .ref qr, .ref qm, .ref qw, .ref qt, .int (zi we)])), (qr, .inr (0, [.int (zi (mc + 1)), .ref qf_2, .int (zi 1)])), (qf_2, aR cO 10 eg_2), (qn_2, .inr (3, [.int (zi kk), .int (zi aa), .int (zi bb), .int (zi cz)])), (qo, aL cL 1 (zup of (Int.toNat 0) 1))]) hP hD [0, 2, 17] [1, 3, 4, 5, 6, 7, 8, 9, 10, 11, 12, 13, 14, 15, 16] rfl rfl (by decide) (by decide) hk1 hFc hP1 hD1
    generalize H1 = H at hP hS ⊢
    obtain rfl : r1 = zi 0 := hw
    have hP : va_P (dC, dI) vwCl [(qs, aI cI 10 sf), (qm, .inr (2, [.ref qk, .int (zi fi), .int (zi ln)])), (qk, aI cI 366 mf), (qw, .inr (1, [.ref wc, .int (zi wl)])), (wc, aI cI 20 wf), (qt, .inr (1, [.ref tc, .int (zi tl)])), (tc, aI cI 20 tf), (g0, .inr (5, [.int (zi co), .ref ps, .int (zi 0), .ref pk, .ref pa, .ref pb, .ref pq, .int (zi we), .int (zi wl), .ref pw, .int (zi tl), .ref pt])), (ps, aI cI 10 sf), (pk, aI cI 12 kf), (pa, aI cI 12 af), (pb, aI cI 12 bf), (pq, aI cI 12 zf), (pw, aI cI 12 wf), (pt, aI cI 20 tf), (h0, .inr (4, [.ref qs, .ref qr, .ref qm, .ref qw, .ref qt, .int (zi we)])), (qr, .inr (0, [.int (zi (mc + 1)), .ref qf_2, .int (zi 1)])), (qf_2, aR cO 10 eg_2), (qn_2, .inr (3, [.int (zi kk), .int (zi aa), .int (zi bb), .int (zi cz)])), (qo, aL cL 1 (zup of (Int.toNat 0) 1))] H := hP
    have hD : va_D A [(qs, aI cI 10 sf), (qm, .inr (2, [.ref qk, .int (zi fi), .int (zi ln)])), (qk, aI cI 366 mf), (qw, .inr (1, [.ref wc, .int (zi wl)])), (wc, aI cI 20 wf), (qt, .inr (1, [.ref tc, .int (zi tl)])), (tc, aI cI 20 tf), (g0, .inr (5, [.int (zi co), .ref ps, .int (zi 0), .ref pk, .ref pa, .ref pb, .ref pq, .int (zi we), .int (zi wl), .ref pw, .int (zi tl), .ref pt])), (ps, aI cI 10 sf), (pk, aI cI 12 kf), (pa, aI cI 12 af), (pb, aI cI 12 bf), (pq, aI cI 12 zf), (pw, aI cI 12 wf), (pt, aI cI 20 tf), (h0, .inr (4, [.ref qs, .ref qr, .ref qm, .ref qw, .ref qt, .int (zi we)])), (qr, .inr (0, [.int (zi (mc + 1)), .ref qf_2, .int (zi 1)])), (qf_2, aR cO 10 eg_2), (qn_2, .inr (3, [.int (zi kk), .int (zi aa), .int (zi bb), .int (zi cz)])), (qo, aL cL 1 (zup of (Int.toNat 0) 1))] := hD
    refine lv_istore (lv' := [(5, .int (zi 0)), (4, .int (zi ii)), (0, .ref b), (1, .ref h0), (2, .ref g0), (3, .ref qo)]) hx hb dL_law_885 hl (by decide) rfl (fun ls hl => ?_)
    refine lv_aload_n hx hb dL_law_887 rfl (lv_at hl 4 rfl) ?_
    refine lv_aload_n hx hb dL_law_888 rfl (lv_at hl 2 rfl) ?_
    refine lv_iload hx hb dL_law_889 (lv_at hl 1 rfl) ?_
    refine zw_iconst hx hb dL_law_891 ?_
    refine zw_iadd hx hb dL_law_892 ?_
    refine zw_scr hx hb hX hbl hbA hS (by omega) (by omega) ⟨by omega, by omega⟩ hv1 dL_law_893 ?_
    refine lv_aload_n hx hb dL_law_894 rfl (lv_at hl 2 rfl) ?_
    refine lv_iload hx hb dL_law_895 (lv_at hl 1 rfl) ?_
    refine zw_iconst hx hb dL_law_897 ?_
    refine zw_iadd hx hb dL_law_898 ?_
    refine zw_scr hx hb hX hbl hbA hS (by omega) (by omega) ⟨by omega, by omega⟩ hv2 dL_law_899 ?_
    refine lv_aload_n hx hb dL_law_900 rfl (lv_at hl 2 rfl) ?_
    refine lv_iload hx hb dL_law_901 (lv_at hl 1 rfl) ?_
    refine zw_iconst hx hb dL_law_903 ?_
    refine zw_iadd hx hb dL_law_904 ?_
    refine zw_scr hx hb hX hbl hbA hS (by omega) (by omega) ⟨by omega, by omega⟩ hv3 dL_law_905 ?_
    refine lv_aload_n hx hb dL_law_906 rfl (lv_at hl 2 rfl) ?_
    refine lv_iload hx hb dL_law_907 (lv_at hl 1 rfl) ?_
    refine zw_iconst hx hb dL_law_909 ?_
    refine zw_iadd hx hb dL_law_910 ?_
    refine zw_scr hx hb hX hbl hbA hS (by omega) (by omega) ⟨by omega, by omega⟩ hv4 dL_law_911 ?_
    have hh3 := c_X5_holiday l dC dI cI g0 ps pk pa pb pq pw pt co 0 we wl tl kf af bf zf kk aa bb cz H.size (by omega) (by omega) (by omega) (by omega) (by omega) (by omega)
    have hPc := hP.sub (ws' := [(g0, .inr (5, [.int (zi co), .ref ps, .int (zi 0), .ref pk, .ref pa, .ref pb, .ref pq, .int (zi we), .int (zi wl), .ref pw, .int (zi tl), .ref pt])), (pk, aI cI 12 kf), (pa, aI cI 12 af), (pb, aI cI 12 bf), (pq, aI cI 12 zf)]) [7, 9, 10, 11, 12] rfl
    have hKc : va_K (dC, dI) vwCl [(cI, .int)] s := hK.sub (tys' := [(cI, .int)]) [0] rfl
    have hDc := hD.sub (ws' := [(g0, .inr (5, [.int (zi co), .ref ps, .int (zi 0), .ref pk, .ref pa, .ref pb, .ref pq, .int (zi we), .int (zi wl), .ref pw, .int (zi tl), .ref pt])), (pk, aI cI 12 kf), (pa, aI cI 12 af), (pb, aI cI 12 bf), (pq, aI cI 12 zf)]) [7, 9, 10, 11, 12] (by decide) rfl
    have hFc := va_free (wc := [(g0, .inr (5, [.int (zi co), .ref ps, .int (zi 0), .ref pk, .ref pa, .ref pb, .ref pq, .int (zi we), .int (zi wl), .ref pw, .int (zi tl), .ref pt])), (pk, aI cI 12 kf), (pa, aI cI 12 af), (pb, aI cI 12 bf), (pq, aI cI 12 zf)]) hD hS hA [7, 9, 10, 11, 12] rfl
    refine va_calli (va_runV (As := [.int (zi kk), .int (zi aa), .int (zi bb), .int (zi cz)]) (rest := []) ⟨hx, hb, hml, hown, hts⟩ hh3 (cwV 4 hts gL_law_X5_holiday rfl rfl rfl (by decide +kernel) ⟨Nat.le_of_ble_eq_true rfl, Nat.le_of_ble_eq_true rfl⟩) ⟨zPw.blind _ _ _ _ _, va_recv hKc hPc (ci := 5) (q0 := 0) rfl rfl, fun U hU hW => ⟨rfl, by rw [hU], by rw [hU]; exact hPc, va_K.moved hW.alike hKc, hDc.weaken (fun _ _ _ _ => trivial)⟩⟩ rfl rfl hl.1 rfl (lv_room (Nat.le_of_ble_eq_true rfl)) dL_law_912 ⟨by show _ ≤ 601024; omega, by show _ ≤ 7293033; omega⟩) hS (fun q _ h => hFc q h) hFc (fun r3 u t H1 locs ht hvm hw hB hz1 hk1 hS => ?_)
    obtain ⟨hP1, hK1, hD1⟩ := hB
    rw [ht] at hP1
    obtain ⟨hP, hD⟩ := va_join (wr := [(qs, aI cI 10 sf), (qm, .inr (2, [.ref qk, .int (zi fi), .int (zi ln)])), (qk, aI cI 366 mf), (qw, .inr (1, [.ref wc, .int (zi wl)])), (wc, aI cI 20 wf), (qt, .inr (1, [.ref tc, .int (zi tl)])), (tc, aI cI 20 tf), (ps, aI cI 10 sf), (pw, aI cI 12 wf), (pt, aI cI 20 tf), (h0, .inr (4, [.ref qs, .ref qr, .ref qm, .ref qw, .ref qt, .int (zi we)])), (qr, .inr (0, [.int (zi (mc + 1)), .ref qf_2, .int (zi 1)])), (qf_2, aR cO 10 eg_2), (qn_2, .inr (3, [.int (zi kk), .int (zi aa), .int (zi bb), .int (zi cz)])), (qo, aL cL 1 (zup of (Int.toNat 0) 1))]) (w1 := [(g0, .inr (5, [.int (zi 0), .ref ps, .int (zi (0 + 1)), .ref pk, .ref pa, .ref pb, .ref pq, .int (zi we), .int (zi wl), .ref pw, .int (zi tl), .ref pt])), (pk, aI cI 12 (zup kf (Int.toNat 0) kk)), (pa, aI cI 12 (zup af (Int.toNat 0) aa)), (pb, aI cI 12 (zup bf (Int.toNat 0) bb)), (pq, aI cI 12 (zup zf (Int.toNat 0) cz))]) hP hD [7, 9, 10, 11, 12] [0, 1, 2, 3, 4, 5, 6, 8, 13, 14, 15, 16, 17, 18, 19] rfl rfl (by decide) (by decide) hk1 hFc hP1 hD1
    generalize H1 = H at hP hS ⊢
    obtain rfl : r3 = zi (0 + 1) := hw
    have hP : va_P (dC, dI) vwCl [(qs, aI cI 10 sf), (qm, .inr (2, [.ref qk, .int (zi fi), .int (zi ln)])), (qk, aI cI 366 mf), (qw, .inr (1, [.ref wc, .int (zi wl)])), (wc, aI cI 20 wf), (qt, .inr (1, [.ref tc, .int (zi tl)])), (tc, aI cI 20 tf), (ps, aI cI 10 sf), (pw, aI cI 12 wf), (pt, aI cI 20 tf), (h0, .inr (4, [.ref qs, .ref qr, .ref qm, .ref qw, .ref qt, .int (zi we)])), (qr, .inr (0, [.int (zi (mc + 1)), .ref qf_2, .int (zi 1)])), (qf_2, aR cO 10 eg_2), (qn_2, .inr (3, [.int (zi kk), .int (zi aa), .int (zi bb), .int (zi cz)])), (qo, aL cL 1 (zup of (Int.toNat 0) 1)), (g0, .inr (5, [.int (zi 0), .ref ps, .int (zi (0 + 1)), .ref pk, .ref pa, .ref pb, .ref pq, .int (zi we), .int (zi wl), .ref pw, .int (zi tl), .ref pt])), (pk, aI cI 12 (zup kf (Int.toNat 0) kk)), (pa, aI cI 12 (zup af (Int.toNat 0) aa)), (pb, aI cI 12 (zup bf (Int.toNat 0) bb)), (pq, aI cI 12 (zup zf (Int.toNat 0) cz))] H := hP
    have hD : va_D A [(qs, aI cI 10 sf), (qm, .inr (2, [.ref qk, .int (zi fi), .int (zi ln)])), (qk, aI cI 366 mf), (qw, .inr (1, [.ref wc, .int (zi wl)])), (wc, aI cI 20 wf), (qt, .inr (1, [.ref tc, .int (zi tl)])), (tc, aI cI 20 tf), (ps, aI cI 10 sf), (pw, aI cI 12 wf), (pt, aI cI 20 tf), (h0, .inr (4, [.ref qs, .ref qr, .ref qm, .ref qw, .ref qt, .int (zi we)])), (qr, .inr (0, [.int (zi (mc + 1)), .ref qf_2, .int (zi 1)])), (qf_2, aR cO 10 eg_2), (qn_2, .inr (3, [.int (zi kk), .int (zi aa), .int (zi bb), .int (zi cz)])), (qo, aL cL 1 (zup of (Int.toNat 0) 1)), (g0, .inr (5, [.int (zi 0), .ref ps, .int (zi (0 + 1)), .ref pk, .ref pa, .ref pb, .ref pq, .int (zi we), .int (zi wl), .ref pw, .int (zi tl), .ref pt])), (pk, aI cI 12 (zup kf (Int.toNat 0) kk)), (pa, aI cI 12 (zup af (Int.toNat 0) aa)), (pb, aI cI 12 (zup bf (Int.toNat 0) bb)), (pq, aI cI 12 (zup zf (Int.toNat 0) cz))] := hD
    refine zw_top (fun x4 ex4 => ?_)
    refine lv_istore (lv' := [(6, .int (zi x4)), (5, .int (zi 0)), (4, .int (zi ii)), (0, .ref b), (1, .ref h0), (2, .ref g0), (3, .ref qo)]) hx hb dL_law_915 hl (by decide) rfl (fun ls hl => ?_)
    refine lv_aload_n hx hb dL_law_917 rfl (lv_at hl 5 rfl) ?_
    have hh5 := c_X5_thrown l dC dI cI g0 ps pk pa pb pq pw pt 0 (0 + 1) we wl tl sf 
    have hPc := hP.sub (ws' := [(g0, .inr (5, [.int (zi 0), .ref ps, .int (zi (0 + 1)), .ref pk, .ref pa, .ref pb, .ref pq, .int (zi we), .int (zi wl), .ref pw, .int (zi tl), .ref pt])), (ps, aI cI 10 sf)]) [15, 7] rfl
    have hKc : va_K (dC, dI) vwCl [(cI, .int)] s := hK.sub (tys' := [(cI, .int)]) [0] rfl
    refine vp_callSi (va_Run.run (va_runV (As := []) (rest := []) ⟨hx, hb, hml, hown, hts⟩ hh5 (cwV 0 hts gL_law_X5_thrown rfl rfl rfl (by decide +kernel) ⟨Nat.le_of_ble_eq_true rfl, Nat.le_of_ble_eq_true rfl⟩) ⟨zPr.blind _ _ _ _, va_recv hKc hPc (ci := 5) (q0 := 0) rfl rfl, fun U hU hW => ⟨rfl, by rw [hU]; exact hPc, va_K.moved hW.alike hKc⟩⟩ rfl rfl hl.1 rfl (lv_room (Nat.le_of_ble_eq_true rfl)) dL_law_918 ⟨by show _ ≤ 601024; omega, by show _ ≤ 7293033; omega⟩)) (fun r5 (hr5 : r5 = zi 0) => ?_)
    subst hr5
    refine lv_iload hx hb dL_law_921 (lv_at hl 1 rfl) ?_
    refine zw_icmp_eq (tgt := 928) hx hb dL_law_923 (by decide) ⟨by omega, by omega⟩ ⟨by omega, by omega⟩ (fun h6 => ?_) (fun h6 => ?_)
    · skip
      refine lv_iload hx hb dL_law_928 (lv_at hl 1 rfl) ?_
      refine zw_if_ne (tgt := 945) hx hb dL_law_930 (by decide) ⟨by omega, by omega⟩ (fun h7 => ?_) (fun h7 => ?_)
      · skip
        exact absurd True.intro (by omega)
      · skip
        refine lv_aload_n hx hb dL_law_933 rfl (lv_at hl 6 rfl) ?_
        refine zw_iconst hx hb dL_law_934 ?_
        refine zw_lald hx hb hK hP 14 1 rfl rfl (by omega) (by omega) ⟨by omega, by omega⟩ dL_law_935 ?_
        rw [zup_at]
        refine lv_iload hx hb dL_law_936 (lv_at hl 0 rfl) ?_
        refine zw_i2l hx hb dL_law_938 ⟨by omega, by omega⟩ ?_
        refine zw_lcmp_eq (tgt := 945) hx hb dL_law_939 dL_law_940 (by decide) ⟨by omega, by omega⟩ ⟨by omega, by omega⟩ (fun h8 => ?_) (fun h8 => ?_)
        · skip
          refine lv_goto (tgt := 1499) hx hb dL_law_945 (by decide) ?_
          subst ex4
          have hP9 : va_P (dC, dI) vwCl [(h0, .inr (4, [.ref qs, .ref qr, .ref qm, .ref qw, .ref qt, .int (zi we)])), (qs, aI cI 10 sf), (qr, .inr (0, [.int (zi (mc + 1)), .ref qf_2, .int (zi 1)])), (qf_2, aR cO 10 eg_2), (qm, .inr (2, [.ref qk, .int (zi fi), .int (zi ln)])), (qk, aI cI 366 mf), (qw, .inr (1, [.ref wc, .int (zi wl)])), (wc, aI cI 20 wf), (qt, .inr (1, [.ref tc, .int (zi tl)])), (tc, aI cI 20 tf), (g0, .inr (5, [.int (zi 0), .ref ps, .int (zi (0 + 1)), .ref pk, .ref pa, .ref pb, .ref pq, .int (zi we), .int (zi wl), .ref pw, .int (zi tl), .ref pt])), (ps, aI cI 10 sf), (pk, aI cI 12 (zup kf (Int.toNat 0) kk)), (pa, aI cI 12 (zup af (Int.toNat 0) aa)), (pb, aI cI 12 (zup bf (Int.toNat 0) bb)), (pq, aI cI 12 (zup zf (Int.toNat 0) cz)), (pw, aI cI 12 wf), (pt, aI cI 20 tf), (qo, aL cL 1 (zup of (Int.toNat 0) 1))] H := hP.sub (ws' := [(h0, .inr (4, [.ref qs, .ref qr, .ref qm, .ref qw, .ref qt, .int (zi we)])), (qs, aI cI 10 sf), (qr, .inr (0, [.int (zi (mc + 1)), .ref qf_2, .int (zi 1)])), (qf_2, aR cO 10 eg_2), (qm, .inr (2, [.ref qk, .int (zi fi), .int (zi ln)])), (qk, aI cI 366 mf), (qw, .inr (1, [.ref wc, .int (zi wl)])), (wc, aI cI 20 wf), (qt, .inr (1, [.ref tc, .int (zi tl)])), (tc, aI cI 20 tf), (g0, .inr (5, [.int (zi 0), .ref ps, .int (zi (0 + 1)), .ref pk, .ref pa, .ref pb, .ref pq, .int (zi we), .int (zi wl), .ref pw, .int (zi tl), .ref pt])), (ps, aI cI 10 sf), (pk, aI cI 12 (zup kf (Int.toNat 0) kk)), (pa, aI cI 12 (zup af (Int.toNat 0) aa)), (pb, aI cI 12 (zup bf (Int.toNat 0) bb)), (pq, aI cI 12 (zup zf (Int.toNat 0) cz)), (pw, aI cI 12 wf), (pt, aI cI 20 tf), (qo, aL cL 1 (zup of (Int.toNat 0) 1))]) [10, 0, 11, 12, 1, 2, 3, 4, 5, 6, 15, 7, 16, 17, 18, 19, 8, 9, 14] rfl
          have hD9 : va_D A [(h0, .inr (4, [.ref qs, .ref qr, .ref qm, .ref qw, .ref qt, .int (zi we)])), (qs, aI cI 10 sf), (qr, .inr (0, [.int (zi (mc + 1)), .ref qf_2, .int (zi 1)])), (qf_2, aR cO 10 eg_2), (qm, .inr (2, [.ref qk, .int (zi fi), .int (zi ln)])), (qk, aI cI 366 mf), (qw, .inr (1, [.ref wc, .int (zi wl)])), (wc, aI cI 20 wf), (qt, .inr (1, [.ref tc, .int (zi tl)])), (tc, aI cI 20 tf), (g0, .inr (5, [.int (zi 0), .ref ps, .int (zi (0 + 1)), .ref pk, .ref pa, .ref pb, .ref pq, .int (zi we), .int (zi wl), .ref pw, .int (zi tl), .ref pt])), (ps, aI cI 10 sf), (pk, aI cI 12 (zup kf (Int.toNat 0) kk)), (pa, aI cI 12 (zup af (Int.toNat 0) aa)), (pb, aI cI 12 (zup bf (Int.toNat 0) bb)), (pq, aI cI 12 (zup zf (Int.toNat 0) cz)), (pw, aI cI 12 wf), (pt, aI cI 20 tf), (qo, aL cL 1 (zup of (Int.toNat 0) 1))] := hD.sub (ws' := [(h0, .inr (4, [.ref qs, .ref qr, .ref qm, .ref qw, .ref qt, .int (zi we)])), (qs, aI cI 10 sf), (qr, .inr (0, [.int (zi (mc + 1)), .ref qf_2, .int (zi 1)])), (qf_2, aR cO 10 eg_2), (qm, .inr (2, [.ref qk, .int (zi fi), .int (zi ln)])), (qk, aI cI 366 mf), (qw, .inr (1, [.ref wc, .int (zi wl)])), (wc, aI cI 20 wf), (qt, .inr (1, [.ref tc, .int (zi tl)])), (tc, aI cI 20 tf), (g0, .inr (5, [.int (zi 0), .ref ps, .int (zi (0 + 1)), .ref pk, .ref pa, .ref pb, .ref pq, .int (zi we), .int (zi wl), .ref pw, .int (zi tl), .ref pt])), (ps, aI cI 10 sf), (pk, aI cI 12 (zup kf (Int.toNat 0) kk)), (pa, aI cI 12 (zup af (Int.toNat 0) aa)), (pb, aI cI 12 (zup bf (Int.toNat 0) bb)), (pq, aI cI 12 (zup zf (Int.toNat 0) cz)), (pw, aI cI 12 wf), (pt, aI cI 20 tf), (qo, aL cL 1 (zup of (Int.toNat 0) 1))]) [10, 0, 11, 12, 1, 2, 3, 4, 5, 6, 15, 7, 16, 17, 18, 19, 8, 9, 14] (by decide) rfl
          have hn9 : zOut (dC, dI) [(h0, .inr (4, [.ref qs, .ref qr, .ref qm, .ref qw, .ref qt, .int (zi we)])), (qs, aI cI 10 sf), (qr, .inr (0, [.int (zi (mc + 1)), .ref qf_2, .int (zi 1)])), (qf_2, aR cO 10 eg_2), (qm, .inr (2, [.ref qk, .int (zi fi), .int (zi ln)])), (qk, aI cI 366 mf), (qw, .inr (1, [.ref wc, .int (zi wl)])), (wc, aI cI 20 wf), (qt, .inr (1, [.ref tc, .int (zi tl)])), (tc, aI cI 20 tf), (g0, .inr (5, [.int (zi 0), .ref ps, .int (zi (0 + 1)), .ref pk, .ref pa, .ref pb, .ref pq, .int (zi we), .int (zi wl), .ref pw, .int (zi tl), .ref pt])), (ps, aI cI 10 sf), (pk, aI cI 12 (zup kf (Int.toNat 0) kk)), (pa, aI cI 12 (zup af (Int.toNat 0) aa)), (pb, aI cI 12 (zup bf (Int.toNat 0) bb)), (pq, aI cI 12 (zup zf (Int.toNat 0) cz)), (pw, aI cI 12 wf), (pt, aI cI 20 tf), (qo, aL cL 1 (zup of (Int.toNat 0) 1))] H qn_2 (oX3 kk aa bb cz) := zOut.of (i0 := 13) hP hD rfl [10, 0, 11, 12, 1, 2, 3, 4, 5, 6, 15, 7, 16, 17, 18, 19, 8, 9, 14] rfl (by decide)
          have hR9 := zOut_one (kf := kf) (af := af) (bf := bf) (zf := zf) hn9
          have hQ9 : (10 = 10 ∨ 10 = 15) ∧ (1 : Int) ≤ ((10 : Nat) : Int) := ⟨Or.inl rfl, by decide⟩
          have hEF9 := zEF_one hw1
          have hcv0 : ((0 + 1) : Int) = 1 := by rfl
          rw [hcv0] at hP9 hD9
          try rw [hcv0] at hR9
          have hI9 : LI sf (zup kf (Int.toNat 0) kk) (zup af (Int.toNat 0) aa) (zup bf (Int.toNat 0) bb) (zup zf (Int.toNat 0) cz) wf tf 1 we fi ln wl tl := LI.mk9 hI.sfb (by omega) (RKX_one h1) hI.web hI.mkb hI.wlb hI.wfb hI.tlb hI.tfb
          refine W.widen (k := ce + 2) (n := sn + 19) (by omega) (by omega) ?_
          exact K1 qf_2 10 eg_2 (fun _ => qn_2) (mc + 1) 1 we fi ln mf sf (zup kf (Int.toNat 0) kk) (zup af (Int.toNat 0) aa) (zup bf (Int.toNat 0) bb) (zup zf (Int.toNat 0) cz) wl wf tl tf 0 (zup of (Int.toNat 0) 1) H locs ls ⟨hP9, hD9, hS, hR9, hQ9, hEF9, hI9⟩ (lv_sub hl [2, 3, 4, 5, 6] rfl)
        · skip
          refine zw_iconst hx hb dL_law_943 ?_
          exact absurd True.intro (by omega)
    · skip
      exact absurd True.intro (by omega)
  · skip
    refine lv_aload_n hx hb dL_law_856 rfl (lv_at hl 2 rfl) ?_
    refine lv_aload_n hx hb dL_law_857 rfl (lv_at hl 1 rfl) ?_
    refine lv_iload hx hb dL_law_858 (lv_at hl 0 rfl) ?_
    refine zw_iconst hx hb dL_law_860 ?_
    refine zw_iadd hx hb dL_law_861 ?_
    refine zw_scr hx hb hX hbl hbA hS (by omega) (by omega) ⟨by omega, by omega⟩ hv1 dL_law_862 ?_
    refine lv_aload_n hx hb dL_law_863 rfl (lv_at hl 1 rfl) ?_
    refine lv_iload hx hb dL_law_864 (lv_at hl 0 rfl) ?_
    refine zw_iconst hx hb dL_law_866 ?_
    refine zw_iadd hx hb dL_law_867 ?_
    refine zw_scr hx hb hX hbl hbA hS (by omega) (by omega) ⟨by omega, by omega⟩ hv2 dL_law_868 ?_
    refine lv_aload_n hx hb dL_law_869 rfl (lv_at hl 1 rfl) ?_
    refine lv_iload hx hb dL_law_870 (lv_at hl 0 rfl) ?_
    refine zw_iconst hx hb dL_law_872 ?_
    refine zw_iadd hx hb dL_law_873 ?_
    refine zw_scr hx hb hX hbl hbA hS (by omega) (by omega) ⟨by omega, by omega⟩ hv3 dL_law_874 ?_
    refine lv_aload_n hx hb dL_law_875 rfl (lv_at hl 1 rfl) ?_
    refine lv_iload hx hb dL_law_876 (lv_at hl 0 rfl) ?_
    refine zw_iconst hx hb dL_law_878 ?_
    refine zw_iadd hx hb dL_law_879 ?_
    refine zw_scr hx hb hX hbl hbA hS (by omega) (by omega) ⟨by omega, by omega⟩ hv4 dL_law_880 ?_
    refine lv_aload_n hx hb dL_law_881 rfl (lv_at hl 4 rfl) ?_
    have hh1 := c_L_holiday_1 l hst dC dI cI cL cO h0 qs qr qm qw qt we qo of kk aa bb cz H.size (by omega) (by omega) (by omega) (by omega) (by omega)
    have hPc := hP.sub (ws' := [(h0, .inr (4, [.ref qs, .ref qr, .ref qm, .ref qw, .ref qt, .int (zi we)])), (qo, aL cL 1 of)]) [0, 17] rfl
    have hKc : va_K (dC, dI) vwCl [(cI, .int), (cL, .long), (cO, .object "java/lang/Object")] s := hK
    have hDc := hD.sub (ws' := [(h0, .inr (4, [.ref qs, .ref qr, .ref qm, .ref qw, .ref qt, .int (zi we)])), (qo, aL cL 1 of)]) [0, 17] (by decide) rfl
    have hFc := va_free (wc := [(h0, .inr (4, [.ref qs, .ref qr, .ref qm, .ref qw, .ref qt, .int (zi we)])), (qo, aL cL 1 of)]) hD hS hA [0, 17] rfl
    refine va_calli (vx_runSW (As := [.ref h0, .int (zi kk), .int (zi aa), .int (zi bb), .int (zi cz), .ref qo]) (rest := []) ⟨hx, hb, hml, hown, hts⟩ hh1 (vx_cwSW 6 hts gL_law_L_holiday rfl rfl rfl (by decide +kernel) ⟨Nat.le_of_ble_eq_true rfl, Nat.le_of_ble_eq_true rfl⟩) ⟨zPx.blind _ _ _ _ _, fun U hU hW => ⟨rfl, by rw [hU], hE.call hS (fun q h => hA q (Nat.le_trans hS.1 (by rw [hU] at h; exact h))) hU hW, by rw [hU]; exact hPc, va_K.moved hW.alike hKc, hDc.weaken (fun _ _ _ _ => trivial)⟩⟩ rfl rfl hl.1 rfl (lv_room (Nat.le_of_ble_eq_true rfl)) dL_law_882 ⟨by show _ ≤ 601024; omega, by show _ ≤ 7293033; omega⟩) hS (fun q _ h => hFc q h) hFc (fun r1 u t H1 locs ht hvm hw hB hz1 hk1 hS => ?_)
    obtain ⟨hP1, hK1, hD1⟩ := hB
    rw [ht] at hP1
    obtain ⟨hP, hD⟩ := va_join (wr := [(qs, aI cI 10 sf), (qr, .inr (0, [.int (zi mc), .ref qd, .int (zi 0)])), (qm, .inr (2, [.ref qk, .int (zi fi), .int (zi ln)])), (qk, aI cI 366 mf), (qw, .inr (1, [.ref wc, .int (zi wl)])), (wc, aI cI 20 wf), (qt, .inr (1, [.ref tc, .int (zi tl)])), (tc, aI cI 20 tf), (g0, .inr (5, [.int (zi co), .ref ps, .int (zi 0), .ref pk, .ref pa, .ref pb, .ref pq, .int (zi we), .int (zi wl), .ref pw, .int (zi tl), .ref pt])), (ps, aI cI 10 sf), (pk, aI cI 12 kf), (pa, aI cI 12 af), (pb, aI cI 12 bf), (pq, aI cI 12 zf), (pw, aI cI 12 wf), (pt, aI cI 20 tf)]) (w1 := [(h0, .inr (4, [.ref qs, .ref qr, .ref qm, .ref qw, .ref qt, .int (zi we)])), (qo, aL cL 1 of)]) hP hD [0, 17] [1, 2, 3, 4, 5, 6, 7, 8, 9, 10, 11, 12, 13, 14, 15, 16] rfl rfl (by decide) (by decide) hk1 hFc hP1 hD1
    generalize H1 = H at hP hS ⊢
    obtain rfl : r1 = zi 1 := hw
    have hP : va_P (dC, dI) vwCl [(qs, aI cI 10 sf), (qr, .inr (0, [.int (zi mc), .ref qd, .int (zi 0)])), (qm, .inr (2, [.ref qk, .int (zi fi), .int (zi ln)])), (qk, aI cI 366 mf), (qw, .inr (1, [.ref wc, .int (zi wl)])), (wc, aI cI 20 wf), (qt, .inr (1, [.ref tc, .int (zi tl)])), (tc, aI cI 20 tf), (g0, .inr (5, [.int (zi co), .ref ps, .int (zi 0), .ref pk, .ref pa, .ref pb, .ref pq, .int (zi we), .int (zi wl), .ref pw, .int (zi tl), .ref pt])), (ps, aI cI 10 sf), (pk, aI cI 12 kf), (pa, aI cI 12 af), (pb, aI cI 12 bf), (pq, aI cI 12 zf), (pw, aI cI 12 wf), (pt, aI cI 20 tf), (h0, .inr (4, [.ref qs, .ref qr, .ref qm, .ref qw, .ref qt, .int (zi we)])), (qo, aL cL 1 of)] H := hP
    have hD : va_D A [(qs, aI cI 10 sf), (qr, .inr (0, [.int (zi mc), .ref qd, .int (zi 0)])), (qm, .inr (2, [.ref qk, .int (zi fi), .int (zi ln)])), (qk, aI cI 366 mf), (qw, .inr (1, [.ref wc, .int (zi wl)])), (wc, aI cI 20 wf), (qt, .inr (1, [.ref tc, .int (zi tl)])), (tc, aI cI 20 tf), (g0, .inr (5, [.int (zi co), .ref ps, .int (zi 0), .ref pk, .ref pa, .ref pb, .ref pq, .int (zi we), .int (zi wl), .ref pw, .int (zi tl), .ref pt])), (ps, aI cI 10 sf), (pk, aI cI 12 kf), (pa, aI cI 12 af), (pb, aI cI 12 bf), (pq, aI cI 12 zf), (pw, aI cI 12 wf), (pt, aI cI 20 tf), (h0, .inr (4, [.ref qs, .ref qr, .ref qm, .ref qw, .ref qt, .int (zi we)])), (qo, aL cL 1 of)] := hD
    refine lv_istore (lv' := [(5, .int (zi 1)), (4, .int (zi ii)), (0, .ref b), (1, .ref h0), (2, .ref g0), (3, .ref qo)]) hx hb dL_law_885 hl (by decide) rfl (fun ls hl => ?_)
    refine lv_aload_n hx hb dL_law_887 rfl (lv_at hl 4 rfl) ?_
    refine lv_aload_n hx hb dL_law_888 rfl (lv_at hl 2 rfl) ?_
    refine lv_iload hx hb dL_law_889 (lv_at hl 1 rfl) ?_
    refine zw_iconst hx hb dL_law_891 ?_
    refine zw_iadd hx hb dL_law_892 ?_
    refine zw_scr hx hb hX hbl hbA hS (by omega) (by omega) ⟨by omega, by omega⟩ hv1 dL_law_893 ?_
    refine lv_aload_n hx hb dL_law_894 rfl (lv_at hl 2 rfl) ?_
    refine lv_iload hx hb dL_law_895 (lv_at hl 1 rfl) ?_
    refine zw_iconst hx hb dL_law_897 ?_
    refine zw_iadd hx hb dL_law_898 ?_
    refine zw_scr hx hb hX hbl hbA hS (by omega) (by omega) ⟨by omega, by omega⟩ hv2 dL_law_899 ?_
    refine lv_aload_n hx hb dL_law_900 rfl (lv_at hl 2 rfl) ?_
    refine lv_iload hx hb dL_law_901 (lv_at hl 1 rfl) ?_
    refine zw_iconst hx hb dL_law_903 ?_
    refine zw_iadd hx hb dL_law_904 ?_
    refine zw_scr hx hb hX hbl hbA hS (by omega) (by omega) ⟨by omega, by omega⟩ hv3 dL_law_905 ?_
    refine lv_aload_n hx hb dL_law_906 rfl (lv_at hl 2 rfl) ?_
    refine lv_iload hx hb dL_law_907 (lv_at hl 1 rfl) ?_
    refine zw_iconst hx hb dL_law_909 ?_
    refine zw_iadd hx hb dL_law_910 ?_
    refine zw_scr hx hb hX hbl hbA hS (by omega) (by omega) ⟨by omega, by omega⟩ hv4 dL_law_911 ?_
    have hh2 := c_X5_holiday_1 l dC dI cI g0 ps pk pa pb pq pw pt co 0 we wl tl kf af bf zf kk aa bb cz H.size (by omega) (by omega) (by omega) (by omega) (by omega)
    have hPc := hP.sub (ws' := [(g0, .inr (5, [.int (zi co), .ref ps, .int (zi 0), .ref pk, .ref pa, .ref pb, .ref pq, .int (zi we), .int (zi wl), .ref pw, .int (zi tl), .ref pt])), (pk, aI cI 12 kf), (pa, aI cI 12 af), (pb, aI cI 12 bf), (pq, aI cI 12 zf)]) [8, 10, 11, 12, 13] rfl
    have hKc : va_K (dC, dI) vwCl [(cI, .int)] s := hK.sub (tys' := [(cI, .int)]) [0] rfl
    have hDc := hD.sub (ws' := [(g0, .inr (5, [.int (zi co), .ref ps, .int (zi 0), .ref pk, .ref pa, .ref pb, .ref pq, .int (zi we), .int (zi wl), .ref pw, .int (zi tl), .ref pt])), (pk, aI cI 12 kf), (pa, aI cI 12 af), (pb, aI cI 12 bf), (pq, aI cI 12 zf)]) [8, 10, 11, 12, 13] (by decide) rfl
    have hFc := va_free (wc := [(g0, .inr (5, [.int (zi co), .ref ps, .int (zi 0), .ref pk, .ref pa, .ref pb, .ref pq, .int (zi we), .int (zi wl), .ref pw, .int (zi tl), .ref pt])), (pk, aI cI 12 kf), (pa, aI cI 12 af), (pb, aI cI 12 bf), (pq, aI cI 12 zf)]) hD hS hA [8, 10, 11, 12, 13] rfl
    refine va_calli (va_runV (As := [.int (zi kk), .int (zi aa), .int (zi bb), .int (zi cz)]) (rest := []) ⟨hx, hb, hml, hown, hts⟩ hh2 (cwV 4 hts gL_law_X5_holiday rfl rfl rfl (by decide +kernel) ⟨Nat.le_of_ble_eq_true rfl, Nat.le_of_ble_eq_true rfl⟩) ⟨zPw.blind _ _ _ _ _, va_recv hKc hPc (ci := 5) (q0 := 0) rfl rfl, fun U hU hW => ⟨rfl, by rw [hU], by rw [hU]; exact hPc, va_K.moved hW.alike hKc, hDc.weaken (fun _ _ _ _ => trivial)⟩⟩ rfl rfl hl.1 rfl (lv_room (Nat.le_of_ble_eq_true rfl)) dL_law_912 ⟨by show _ ≤ 601024; omega, by show _ ≤ 7293033; omega⟩) hS (fun q _ h => hFc q h) hFc (fun r2 u t H1 locs ht hvm hw hB hz1 hk1 hS => ?_)
    obtain ⟨hP1, hK1, hD1⟩ := hB
    rw [ht] at hP1
    obtain ⟨hP, hD⟩ := va_join (wr := [(qs, aI cI 10 sf), (qr, .inr (0, [.int (zi mc), .ref qd, .int (zi 0)])), (qm, .inr (2, [.ref qk, .int (zi fi), .int (zi ln)])), (qk, aI cI 366 mf), (qw, .inr (1, [.ref wc, .int (zi wl)])), (wc, aI cI 20 wf), (qt, .inr (1, [.ref tc, .int (zi tl)])), (tc, aI cI 20 tf), (ps, aI cI 10 sf), (pw, aI cI 12 wf), (pt, aI cI 20 tf), (h0, .inr (4, [.ref qs, .ref qr, .ref qm, .ref qw, .ref qt, .int (zi we)])), (qo, aL cL 1 of)]) (w1 := [(g0, .inr (5, [.int (zi 1), .ref ps, .int (zi 0), .ref pk, .ref pa, .ref pb, .ref pq, .int (zi we), .int (zi wl), .ref pw, .int (zi tl), .ref pt])), (pk, aI cI 12 kf), (pa, aI cI 12 af), (pb, aI cI 12 bf), (pq, aI cI 12 zf)]) hP hD [8, 10, 11, 12, 13] [0, 1, 2, 3, 4, 5, 6, 7, 9, 14, 15, 16, 17] rfl rfl (by decide) (by decide) hk1 hFc hP1 hD1
    generalize H1 = H at hP hS ⊢
    obtain rfl : r2 = zi 0 := hw
    have hP : va_P (dC, dI) vwCl [(qs, aI cI 10 sf), (qr, .inr (0, [.int (zi mc), .ref qd, .int (zi 0)])), (qm, .inr (2, [.ref qk, .int (zi fi), .int (zi ln)])), (qk, aI cI 366 mf), (qw, .inr (1, [.ref wc, .int (zi wl)])), (wc, aI cI 20 wf), (qt, .inr (1, [.ref tc, .int (zi tl)])), (tc, aI cI 20 tf), (ps, aI cI 10 sf), (pw, aI cI 12 wf), (pt, aI cI 20 tf), (h0, .inr (4, [.ref qs, .ref qr, .ref qm, .ref qw, .ref qt, .int (zi we)])), (qo, aL cL 1 of), (g0, .inr (5, [.int (zi 1), .ref ps, .int (zi 0), .ref pk, .ref pa, .ref pb, .ref pq, .int (zi we), .int (zi wl), .ref pw, .int (zi tl), .ref pt])), (pk, aI cI 12 kf), (pa, aI cI 12 af), (pb, aI cI 12 bf), (pq, aI cI 12 zf)] H := hP
    have hD : va_D A [(qs, aI cI 10 sf), (qr, .inr (0, [.int (zi mc), .ref qd, .int (zi 0)])), (qm, .inr (2, [.ref qk, .int (zi fi), .int (zi ln)])), (qk, aI cI 366 mf), (qw, .inr (1, [.ref wc, .int (zi wl)])), (wc, aI cI 20 wf), (qt, .inr (1, [.ref tc, .int (zi tl)])), (tc, aI cI 20 tf), (ps, aI cI 10 sf), (pw, aI cI 12 wf), (pt, aI cI 20 tf), (h0, .inr (4, [.ref qs, .ref qr, .ref qm, .ref qw, .ref qt, .int (zi we)])), (qo, aL cL 1 of), (g0, .inr (5, [.int (zi 1), .ref ps, .int (zi 0), .ref pk, .ref pa, .ref pb, .ref pq, .int (zi we), .int (zi wl), .ref pw, .int (zi tl), .ref pt])), (pk, aI cI 12 kf), (pa, aI cI 12 af), (pb, aI cI 12 bf), (pq, aI cI 12 zf)] := hD
    refine lv_istore (lv' := [(6, .int (zi 0)), (5, .int (zi 1)), (4, .int (zi ii)), (0, .ref b), (1, .ref h0), (2, .ref g0), (3, .ref qo)]) hx hb dL_law_915 hl (by decide) rfl (fun ls hl => ?_)
    refine lv_aload_n hx hb dL_law_917 rfl (lv_at hl 5 rfl) ?_
    have hh3 := c_X5_thrown l dC dI cI g0 ps pk pa pb pq pw pt 1 0 we wl tl sf 
    have hPc := hP.sub (ws' := [(g0, .inr (5, [.int (zi 1), .ref ps, .int (zi 0), .ref pk, .ref pa, .ref pb, .ref pq, .int (zi we), .int (zi wl), .ref pw, .int (zi tl), .ref pt])), (ps, aI cI 10 sf)]) [13, 8] rfl
    have hKc : va_K (dC, dI) vwCl [(cI, .int)] s := hK.sub (tys' := [(cI, .int)]) [0] rfl
    refine vp_callSi (va_Run.run (va_runV (As := []) (rest := []) ⟨hx, hb, hml, hown, hts⟩ hh3 (cwV 0 hts gL_law_X5_thrown rfl rfl rfl (by decide +kernel) ⟨Nat.le_of_ble_eq_true rfl, Nat.le_of_ble_eq_true rfl⟩) ⟨zPr.blind _ _ _ _, va_recv hKc hPc (ci := 5) (q0 := 0) rfl rfl, fun U hU hW => ⟨rfl, by rw [hU]; exact hPc, va_K.moved hW.alike hKc⟩⟩ rfl rfl hl.1 rfl (lv_room (Nat.le_of_ble_eq_true rfl)) dL_law_918 ⟨by show _ ≤ 601024; omega, by show _ ≤ 7293033; omega⟩)) (fun r3 (hr3 : r3 = zi 1) => ?_)
    subst hr3
    refine lv_iload hx hb dL_law_921 (lv_at hl 1 rfl) ?_
    refine zw_icmp_eq (tgt := 928) hx hb dL_law_923 (by decide) ⟨by omega, by omega⟩ ⟨by omega, by omega⟩ (fun h4 => ?_) (fun h4 => ?_)
    · skip
      refine lv_iload hx hb dL_law_928 (lv_at hl 1 rfl) ?_
      refine zw_if_ne (tgt := 945) hx hb dL_law_930 (by decide) ⟨by omega, by omega⟩ (fun h5 => ?_) (fun h5 => ?_)
      · skip
        refine lv_goto (tgt := 1499) hx hb dL_law_945 (by decide) ?_
        have hP9 : va_P (dC, dI) vwCl [(h0, .inr (4, [.ref qs, .ref qr, .ref qm, .ref qw, .ref qt, .int (zi we)])), (qs, aI cI 10 sf), (qr, .inr (0, [.int (zi mc), .ref qd, .int (zi 0)])), (qm, .inr (2, [.ref qk, .int (zi fi), .int (zi ln)])), (qk, aI cI 366 mf), (qw, .inr (1, [.ref wc, .int (zi wl)])), (wc, aI cI 20 wf), (qt, .inr (1, [.ref tc, .int (zi tl)])), (tc, aI cI 20 tf), (g0, .inr (5, [.int (zi 1), .ref ps, .int (zi 0), .ref pk, .ref pa, .ref pb, .ref pq, .int (zi we), .int (zi wl), .ref pw, .int (zi tl), .ref pt])), (ps, aI cI 10 sf), (pk, aI cI 12 kf), (pa, aI cI 12 af), (pb, aI cI 12 bf), (pq, aI cI 12 zf), (pw, aI cI 12 wf), (pt, aI cI 20 tf), (qo, aL cL 1 of)] H := hP.sub (ws' := [(h0, .inr (4, [.ref qs, .ref qr, .ref qm, .ref qw, .ref qt, .int (zi we)])), (qs, aI cI 10 sf), (qr, .inr (0, [.int (zi mc), .ref qd, .int (zi 0)])), (qm, .inr (2, [.ref qk, .int (zi fi), .int (zi ln)])), (qk, aI cI 366 mf), (qw, .inr (1, [.ref wc, .int (zi wl)])), (wc, aI cI 20 wf), (qt, .inr (1, [.ref tc, .int (zi tl)])), (tc, aI cI 20 tf), (g0, .inr (5, [.int (zi 1), .ref ps, .int (zi 0), .ref pk, .ref pa, .ref pb, .ref pq, .int (zi we), .int (zi wl), .ref pw, .int (zi tl), .ref pt])), (ps, aI cI 10 sf), (pk, aI cI 12 kf), (pa, aI cI 12 af), (pb, aI cI 12 bf), (pq, aI cI 12 zf), (pw, aI cI 12 wf), (pt, aI cI 20 tf), (qo, aL cL 1 of)]) [11, 0, 1, 2, 3, 4, 5, 6, 7, 13, 8, 14, 15, 16, 17, 9, 10, 12] rfl
        have hD9 : va_D A [(h0, .inr (4, [.ref qs, .ref qr, .ref qm, .ref qw, .ref qt, .int (zi we)])), (qs, aI cI 10 sf), (qr, .inr (0, [.int (zi mc), .ref qd, .int (zi 0)])), (qm, .inr (2, [.ref qk, .int (zi fi), .int (zi ln)])), (qk, aI cI 366 mf), (qw, .inr (1, [.ref wc, .int (zi wl)])), (wc, aI cI 20 wf), (qt, .inr (1, [.ref tc, .int (zi tl)])), (tc, aI cI 20 tf), (g0, .inr (5, [.int (zi 1), .ref ps, .int (zi 0), .ref pk, .ref pa, .ref pb, .ref pq, .int (zi we), .int (zi wl), .ref pw, .int (zi tl), .ref pt])), (ps, aI cI 10 sf), (pk, aI cI 12 kf), (pa, aI cI 12 af), (pb, aI cI 12 bf), (pq, aI cI 12 zf), (pw, aI cI 12 wf), (pt, aI cI 20 tf), (qo, aL cL 1 of)] := hD.sub (ws' := [(h0, .inr (4, [.ref qs, .ref qr, .ref qm, .ref qw, .ref qt, .int (zi we)])), (qs, aI cI 10 sf), (qr, .inr (0, [.int (zi mc), .ref qd, .int (zi 0)])), (qm, .inr (2, [.ref qk, .int (zi fi), .int (zi ln)])), (qk, aI cI 366 mf), (qw, .inr (1, [.ref wc, .int (zi wl)])), (wc, aI cI 20 wf), (qt, .inr (1, [.ref tc, .int (zi tl)])), (tc, aI cI 20 tf), (g0, .inr (5, [.int (zi 1), .ref ps, .int (zi 0), .ref pk, .ref pa, .ref pb, .ref pq, .int (zi we), .int (zi wl), .ref pw, .int (zi tl), .ref pt])), (ps, aI cI 10 sf), (pk, aI cI 12 kf), (pa, aI cI 12 af), (pb, aI cI 12 bf), (pq, aI cI 12 zf), (pw, aI cI 12 wf), (pt, aI cI 20 tf), (qo, aL cL 1 of)]) [11, 0, 1, 2, 3, 4, 5, 6, 7, 13, 8, 14, 15, 16, 17, 9, 10, 12] (by decide) rfl
        have hI9 : LI sf kf af bf zf wf tf 0 we fi ln wl tl := hI
        refine W.widen (k := ce + 2) (n := sn + 19) (by omega) (by omega) ?_
        exact K0 mc we fi ln mf sf kf af bf zf wl wf tl tf 1 of H locs ls ⟨hP9, hD9, hS, hI9⟩ (lv_sub hl [2, 3, 4, 5, 6] rfl)
      · skip
        exact absurd True.intro (by omega)
    · skip
      exact absurd True.intro (by omega)
