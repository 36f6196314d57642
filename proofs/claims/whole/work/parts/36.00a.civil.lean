/-! THE LAW'S CASE civil -/
set_option maxHeartbeats 4000000 in
set_option maxRecDepth 100000 in
theorem law_civil {p : Program} {l : Launch} {e : Env} {s : State} {m : MethodId} {below : List Frame} {meth : Method} {c : Code} {b : Nat} {L : Nat} {xs : Nat → Int32} {dC : Nat → ClassId} {dI : Nat → Nat → Nat} {cI : ClassId} {cL : ClassId} {cO : ClassId} {qd : Nat} {mi : Nat} {x0 : Nat} {v0 : Nat} {x1 : Nat} {v1 : Nat} {x2 : Nat} {v2 : Nat} {qy : Option Nat} {A : Nat → Prop} {h0 qs qr qm qw qt qk wc tc g0 ps pk pa pb pq pw pt qo : Nat} {qe : Nat} {cap : Nat} {ef : Nat → Option Nat} {rf : Nat → Nat} {mc : Int} {ru : Int} {we : Int} {fi : Int} {ln : Int} {mf : Nat → Int} {sf : Nat → Int} {kf : Nat → Int} {af : Nat → Int} {bf : Nat → Int} {zf : Nat → Int} {wl : Int} {wf : Nat → Int} {tl : Int} {tf : Nat → Int} {co : Int} {of : Nat → Int} {ii : Int} {ce sn : Nat} {H : Heap} {locs : List Loc} {ls : Array Slot} (C : LC p l e s m below meth c b L xs dC dI cI cL cO qd mi x0 v0 x1 v1 x2 v2 qy A) (hLS : LSt s dC dI cI cL cO qd A h0 qs qr qm qw qt qk wc tc g0 ps pk pa pb pq pw pt qo qe cap ef rf mc ru we fi ln mf sf kf af bf zf wl wf tl tf co of H locs) (K1 : LK1 p l e s m below meth c b L xs dC dI cI cL cO qd mi x0 v0 x1 v1 x2 v2 qy A h0 qs qr qm qw qt qk wc tc g0 ps pk pa pb pq pw pt qo ii ce sn) (K0 : LK0 p l e s m below meth c b L xs dC dI cI cL cO qd mi x0 v0 x1 v1 x2 v2 qy A h0 qs qr qm qw qt qk wc tc g0 ps pk pa pb pq pw pt qo ii ce sn) (hii : 0 ≤ ii ∧ ii + 6 ≤ (L : Int)) (hce : ce ≤ 601000) (hsn : sn ≤ 7293000) (hl : lv_has ls 7 [(4, .int (zi ii)), (0, .ref b), (1, .ref h0), (2, .ref g0), (3, .ref qo)]) : W p l e room_1 s m #[Value.ref b] below meth c H locs ce sn (lw_Z below #[Value.ref b] s) (F0 m 136 ls []) := by
  obtain ⟨hx, hb, hml, hown, hts, hst, hK, hE, hO, h3, hX, hbl, hbA, hA, hL⟩ := C
  obtain ⟨hP, hD, hS, hR, hQ, hEF, hI⟩ := hLS
  obtain ⟨sl, hv1⟩ : ∃ z : Int, z = (xs (ii + 1).toNat).toInt := ⟨_, rfl⟩
  have hb1 : -2147483648 ≤ sl ∧ sl ≤ 2147483647 := by rw [hv1]; exact scr_b _
  obtain ⟨ya, hv2⟩ : ∃ z : Int, z = (xs (ii + 2).toNat).toInt := ⟨_, rfl⟩
  have hb2 : -2147483648 ≤ ya ∧ ya ≤ 2147483647 := by rw [hv2]; exact scr_b _
  obtain ⟨mo, hv3⟩ : ∃ z : Int, z = (xs (ii + 3).toNat).toInt := ⟨_, rfl⟩
  have hb3 : -2147483648 ≤ mo ∧ mo ≤ 2147483647 := by rw [hv3]; exact scr_b _
  obtain ⟨da, hv4⟩ : ∃ z : Int, z = (xs (ii + 4).toNat).toInt := ⟨_, rfl⟩
  have hb4 : -2147483648 ≤ da ∧ da ≤ 2147483647 := by rw [hv4]; exact scr_b _
  have hI1 := hI.rub
  have hI2 := hI.web
  have hI3 := hI.mkb
  have hI4 := hI.wlb
  have hI5 := hI.tlb
  have hcap : 0 ≤ ru ∧ ru ≤ ((cap : Nat) : Int) ∧ ((cap : Nat) : Int) ≤ 1000 := by omega
  by_cases h1 : 0 ≤ sl ∧ sl ≤ 9
  · skip
    by_cases h2 : f_X5_isDate ya mo da = 1
    · skip
      have hci := e_civil ya mo da
      rw [if_pos h2] at hci
      have hc9 := c9_civil ya mo da h2
      refine lv_aload_n hx hb dL_law_136 rfl (lv_at hl 2 rfl) ?_
      refine lv_aload_n hx hb dL_law_137 rfl (lv_at hl 1 rfl) ?_
      refine lv_iload hx hb dL_law_138 (lv_at hl 0 rfl) ?_
      refine zw_iconst hx hb dL_law_140 ?_
      refine zw_iadd hx hb dL_law_141 ?_
      refine zw_scr hx hb hX hbl hbA hS (by omega) (by omega) ⟨by omega, by omega⟩ hv1 dL_law_142 ?_
      refine lv_aload_n hx hb dL_law_143 rfl (lv_at hl 1 rfl) ?_
      refine lv_iload hx hb dL_law_144 (lv_at hl 0 rfl) ?_
      refine zw_iconst hx hb dL_law_146 ?_
      refine zw_iadd hx hb dL_law_147 ?_
      refine zw_scr hx hb hX hbl hbA hS (by omega) (by omega) ⟨by omega, by omega⟩ hv2 dL_law_148 ?_
      refine lv_aload_n hx hb dL_law_149 rfl (lv_at hl 1 rfl) ?_
      refine lv_iload hx hb dL_law_150 (lv_at hl 0 rfl) ?_
      refine zw_iconst hx hb dL_law_152 ?_
      refine zw_iadd hx hb dL_law_153 ?_
      refine zw_scr hx hb hX hbl hbA hS (by omega) (by omega) ⟨by omega, by omega⟩ hv3 dL_law_154 ?_
      refine lv_aload_n hx hb dL_law_155 rfl (lv_at hl 1 rfl) ?_
      refine lv_iload hx hb dL_law_156 (lv_at hl 0 rfl) ?_
      refine zw_iconst hx hb dL_law_158 ?_
      refine zw_iadd hx hb dL_law_159 ?_
      refine zw_scr hx hb hX hbl hbA hS (by omega) (by omega) ⟨by omega, by omega⟩ hv4 dL_law_160 ?_
      refine lv_aload_n hx hb dL_law_161 rfl (lv_at hl 4 rfl) ?_
      have hh1 := c_L_civil l dC dI cI cL h0 qs qr qm qw qt we sf qo of sl ya mo da H.size (by omega) (by omega) (by omega) (by omega) (by omega) (by omega)
      have hPc := hP.sub (ws' := [(h0, .inr (4, [.ref qs, .ref qr, .ref qm, .ref qw, .ref qt, .int (zi we)])), (qs, aI cI 10 sf), (qo, aL cL 1 of)]) [0, 1, 18] rfl
      have hKc : va_K (dC, dI) vwCl [(cI, .int), (cL, .long)] s := hK.sub (tys' := [(cI, .int), (cL, .long)]) [0, 1] rfl
      have hDc := hD.sub (ws' := [(h0, .inr (4, [.ref qs, .ref qr, .ref qm, .ref qw, .ref qt, .int (zi we)])), (qs, aI cI 10 sf), (qo, aL cL 1 of)]) [0, 1, 18] (by decide) rfl
      have hFc := va_free (wc := [(h0, .inr (4, [.ref qs, .ref qr, .ref qm, .ref qw, .ref qt, .int (zi we)])), (qs, aI cI 10 sf), (qo, aL cL 1 of)]) hD hS hA [0, 1, 18] rfl
      refine va_calli (vx_runSW (As := [.ref h0, .int (zi sl), .int (zi ya), .int (zi mo), .int (zi da), .ref qo]) (rest := []) ⟨hx, hb, hml, hown, hts⟩ hh1 (vx_cwSW 6 hts gL_law_L_civil rfl rfl rfl (by decide +kernel) ⟨Nat.le_of_ble_eq_true rfl, Nat.le_of_ble_eq_true rfl⟩) ⟨zPw.blind _ _ _ _ _, fun U hU hW => ⟨rfl, by rw [hU], by rw [hU]; exact hPc, va_K.moved hW.alike hKc, hDc.weaken (fun _ _ _ _ => trivial)⟩⟩ rfl rfl hl.1 rfl (lv_room (Nat.le_of_ble_eq_true rfl)) dL_law_162 ⟨by show _ ≤ 601024; omega, by show _ ≤ 7293033; omega⟩) hS (fun q _ h => hFc q h) hFc (fun r1 u t H1 locs ht hvm hw hB hz1 hk1 hS => ?_)
      obtain ⟨hP1, hK1, hD1⟩ := hB
      rw [ht] at hP1
      have hR1 : ∀ k : Nat, (k : Int) < ru → zOut (dC, dI) [(qr, .inr (0, [.int (zi mc), .ref qe, .int (zi ru)])), (qe, aR cO cap ef), (qm, .inr (2, [.ref qk, .int (zi fi), .int (zi ln)])), (qk, aI cI 366 mf), (qw, .inr (1, [.ref wc, .int (zi wl)])), (wc, aI cI 20 wf), (qt, .inr (1, [.ref tc, .int (zi tl)])), (tc, aI cI 20 tf), (g0, .inr (5, [.int (zi co), .ref ps, .int (zi ru), .ref pk, .ref pa, .ref pb, .ref pq, .int (zi we), .int (zi wl), .ref pw, .int (zi tl), .ref pt])), (ps, aI cI 10 sf), (pk, aI cI 12 kf), (pa, aI cI 12 af), (pb, aI cI 12 bf), (pq, aI cI 12 zf), (pw, aI cI 12 wf), (pt, aI cI 20 tf), (h0, .inr (4, [.ref qs, .ref qr, .ref qm, .ref qw, .ref qt, .int (zi we)])), (qs, aI cI 10 (zup sf sl.toNat (f_X0_civilNumber ya mo da))), (qo, aL cL 1 (zup of (Int.toNat 0) (f_X0_civilNumber ya mo da)))] H1 (rf k) (oX3 (kf k) (af k) (bf k) (zf k)) := fun k hk => (hR k hk).join (wc := [(h0, .inr (4, [.ref qs, .ref qr, .ref qm, .ref qw, .ref qt, .int (zi we)])), (qs, aI cI 10 sf), (qo, aL cL 1 of)]) (wr := [(qr, .inr (0, [.int (zi mc), .ref qe, .int (zi ru)])), (qe, aR cO cap ef), (qm, .inr (2, [.ref qk, .int (zi fi), .int (zi ln)])), (qk, aI cI 366 mf), (qw, .inr (1, [.ref wc, .int (zi wl)])), (wc, aI cI 20 wf), (qt, .inr (1, [.ref tc, .int (zi tl)])), (tc, aI cI 20 tf), (g0, .inr (5, [.int (zi co), .ref ps, .int (zi ru), .ref pk, .ref pa, .ref pb, .ref pq, .int (zi we), .int (zi wl), .ref pw, .int (zi tl), .ref pt])), (ps, aI cI 10 sf), (pk, aI cI 12 kf), (pa, aI cI 12 af), (pb, aI cI 12 bf), (pq, aI cI 12 zf), (pw, aI cI 12 wf), (pt, aI cI 20 tf)]) (w1 := [(h0, .inr (4, [.ref qs, .ref qr, .ref qm, .ref qw, .ref qt, .int (zi we)])), (qs, aI cI 10 (zup sf sl.toNat (f_X0_civilNumber ya mo da))), (qo, aL cL 1 (zup of (Int.toNat 0) (f_X0_civilNumber ya mo da)))]) [0, 1, 18] [2, 3, 4, 5, 6, 7, 8, 9, 10, 11, 12, 13, 14, 15, 16, 17] rfl rfl hz1 hk1 hD1
      obtain ⟨hP, hD⟩ := va_join (wr := [(qr, .inr (0, [.int (zi mc), .ref qe, .int (zi ru)])), (qe, aR cO cap ef), (qm, .inr (2, [.ref qk, .int (zi fi), .int (zi ln)])), (qk, aI cI 366 mf), (qw, .inr (1, [.ref wc, .int (zi wl)])), (wc, aI cI 20 wf), (qt, .inr (1, [.ref tc, .int (zi tl)])), (tc, aI cI 20 tf), (g0, .inr (5, [.int (zi co), .ref ps, .int (zi ru), .ref pk, .ref pa, .ref pb, .ref pq, .int (zi we), .int (zi wl), .ref pw, .int (zi tl), .ref pt])), (ps, aI cI 10 sf), (pk, aI cI 12 kf), (pa, aI cI 12 af), (pb, aI cI 12 bf), (pq, aI cI 12 zf), (pw, aI cI 12 wf), (pt, aI cI 20 tf)]) (w1 := [(h0, .inr (4, [.ref qs, .ref qr, .ref qm, .ref qw, .ref qt, .int (zi we)])), (qs, aI cI 10 (zup sf sl.toNat (f_X0_civilNumber ya mo da))), (qo, aL cL 1 (zup of (Int.toNat 0) (f_X0_civilNumber ya mo da)))]) hP hD [0, 1, 18] [2, 3, 4, 5, 6, 7, 8, 9, 10, 11, 12, 13, 14, 15, 16, 17] rfl rfl (by decide) (by decide) hk1 hFc hP1 hD1
      replace hR := hR1
      generalize H1 = H at hP hS hR ⊢
      obtain rfl : r1 = zi 0 := hw
      have hP : va_P (dC, dI) vwCl [(qr, .inr (0, [.int (zi mc), .ref qe, .int (zi ru)])), (qe, aR cO cap ef), (qm, .inr (2, [.ref qk, .int (zi fi), .int (zi ln)])), (qk, aI cI 366 mf), (qw, .inr (1, [.ref wc, .int (zi wl)])), (wc, aI cI 20 wf), (qt, .inr (1, [.ref tc, .int (zi tl)])), (tc, aI cI 20 tf), (g0, .inr (5, [.int (zi co), .ref ps, .int (zi ru), .ref pk, .ref pa, .ref pb, .ref pq, .int (zi we), .int (zi wl), .ref pw, .int (zi tl), .ref pt])), (ps, aI cI 10 sf), (pk, aI cI 12 kf), (pa, aI cI 12 af), (pb, aI cI 12 bf), (pq, aI cI 12 zf), (pw, aI cI 12 wf), (pt, aI cI 20 tf), (h0, .inr (4, [.ref qs, .ref qr, .ref qm, .ref qw, .ref qt, .int (zi we)])), (qs, aI cI 10 (zup sf sl.toNat (f_X0_civilNumber ya mo da))), (qo, aL cL 1 (zup of (Int.toNat 0) (f_X0_civilNumber ya mo da)))] H := hP
      have hD : va_D A [(qr, .inr (0, [.int (zi mc), .ref qe, .int (zi ru)])), (qe, aR cO cap ef), (qm, .inr (2, [.ref qk, .int (zi fi), .int (zi ln)])), (qk, aI cI 366 mf), (qw, .inr (1, [.ref wc, .int (zi wl)])), (wc, aI cI 20 wf), (qt, .inr (1, [.ref tc, .int (zi tl)])), (tc, aI cI 20 tf), (g0, .inr (5, [.int (zi co), .ref ps, .int (zi ru), .ref pk, .ref pa, .ref pb, .ref pq, .int (zi we), .int (zi wl), .ref pw, .int (zi tl), .ref pt])), (ps, aI cI 10 sf), (pk, aI cI 12 kf), (pa, aI cI 12 af), (pb, aI cI 12 bf), (pq, aI cI 12 zf), (pw, aI cI 12 wf), (pt, aI cI 20 tf), (h0, .inr (4, [.ref qs, .ref qr, .ref qm, .ref qw, .ref qt, .int (zi we)])), (qs, aI cI 10 (zup sf sl.toNat (f_X0_civilNumber ya mo da))), (qo, aL cL 1 (zup of (Int.toNat 0) (f_X0_civilNumber ya mo da)))] := hD
      refine lv_istore (lv' := [(5, .int (zi 0)), (4, .int (zi ii)), (0, .ref b), (1, .ref h0), (2, .ref g0), (3, .ref qo)]) hx hb dL_law_165 hl (by decide) rfl (fun ls hl => ?_)
      refine lv_aload_n hx hb dL_law_167 rfl (lv_at hl 4 rfl) ?_
      refine lv_aload_n hx hb dL_law_168 rfl (lv_at hl 2 rfl) ?_
      refine lv_iload hx hb dL_law_169 (lv_at hl 1 rfl) ?_
      refine zw_iconst hx hb dL_law_171 ?_
      refine zw_iadd hx hb dL_law_172 ?_
      refine zw_scr hx hb hX hbl hbA hS (by omega) (by omega) ⟨by omega, by omega⟩ hv1 dL_law_173 ?_
      refine lv_aload_n hx hb dL_law_174 rfl (lv_at hl 2 rfl) ?_
      refine lv_iload hx hb dL_law_175 (lv_at hl 1 rfl) ?_
      refine zw_iconst hx hb dL_law_177 ?_
      refine zw_iadd hx hb dL_law_178 ?_
      refine zw_scr hx hb hX hbl hbA hS (by omega) (by omega) ⟨by omega, by omega⟩ hv2 dL_law_179 ?_
      refine lv_aload_n hx hb dL_law_180 rfl (lv_at hl 2 rfl) ?_
      refine lv_iload hx hb dL_law_181 (lv_at hl 1 rfl) ?_
      refine zw_iconst hx hb dL_law_183 ?_
      refine zw_iadd hx hb dL_law_184 ?_
      refine zw_scr hx hb hX hbl hbA hS (by omega) (by omega) ⟨by omega, by omega⟩ hv3 dL_law_185 ?_
      refine lv_aload_n hx hb dL_law_186 rfl (lv_at hl 2 rfl) ?_
      refine lv_iload hx hb dL_law_187 (lv_at hl 1 rfl) ?_
      refine zw_iconst hx hb dL_law_189 ?_
      refine zw_iadd hx hb dL_law_190 ?_
      refine zw_scr hx hb hX hbl hbA hS (by omega) (by omega) ⟨by omega, by omega⟩ hv4 dL_law_191 ?_
      have hh2 := c_X5_civil l dC dI cI g0 ps pk pa pb pq pw pt co ru we wl tl sf sl ya mo da H.size (by omega) (by omega) (by omega) (by omega) (by omega)
      have hPc := hP.sub (ws' := [(g0, .inr (5, [.int (zi co), .ref ps, .int (zi ru), .ref pk, .ref pa, .ref pb, .ref pq, .int (zi we), .int (zi wl), .ref pw, .int (zi tl), .ref pt])), (ps, aI cI 10 sf)]) [8, 9] rfl
      have hKc : va_K (dC, dI) vwCl [(cI, .int)] s := hK.sub (tys' := [(cI, .int)]) [0] rfl
      have hDc := hD.sub (ws' := [(g0, .inr (5, [.int (zi co), .ref ps, .int (zi ru), .ref pk, .ref pa, .ref pb, .ref pq, .int (zi we), .int (zi wl), .ref pw, .int (zi tl), .ref pt])), (ps, aI cI 10 sf)]) [8, 9] (by decide) rfl
      have hFc := va_free (wc := [(g0, .inr (5, [.int (zi co), .ref ps, .int (zi ru), .ref pk, .ref pa, .ref pb, .ref pq, .int (zi we), .int (zi wl), .ref pw, .int (zi tl), .ref pt])), (ps, aI cI 10 sf)]) hD hS hA [8, 9] rfl
      refine va_calli (va_runV (As := [.int (zi sl), .int (zi ya), .int (zi mo), .int (zi da)]) (rest := []) ⟨hx, hb, hml, hown, hts⟩ hh2 (cwV 4 hts gL_law_X5_civil rfl rfl rfl (by decide +kernel) ⟨Nat.le_of_ble_eq_true rfl, Nat.le_of_ble_eq_true rfl⟩) ⟨zPw.blind _ _ _ _ _, va_recv hKc hPc (ci := 5) (q0 := 0) rfl rfl, fun U hU hW => ⟨rfl, by rw [hU], by rw [hU]; exact hPc, va_K.moved hW.alike hKc, hDc.weaken (fun _ _ _ _ => trivial)⟩⟩ rfl rfl hl.1 rfl (lv_room (Nat.le_of_ble_eq_true rfl)) dL_law_192 ⟨by show _ ≤ 601024; omega, by show _ ≤ 7293033; omega⟩) hS (fun q _ h => hFc q h) hFc (fun r2 u t H1 locs ht hvm hw hB hz1 hk1 hS => ?_)
      obtain ⟨hP1, hK1, hD1⟩ := hB
      rw [ht] at hP1
      have hR1 : ∀ k : Nat, (k : Int) < ru → zOut (dC, dI) [(qr, .inr (0, [.int (zi mc), .ref qe, .int (zi ru)])), (qe, aR cO cap ef), (qm, .inr (2, [.ref qk, .int (zi fi), .int (zi ln)])), (qk, aI cI 366 mf), (qw, .inr (1, [.ref wc, .int (zi wl)])), (wc, aI cI 20 wf), (qt, .inr (1, [.ref tc, .int (zi tl)])), (tc, aI cI 20 tf), (pk, aI cI 12 kf), (pa, aI cI 12 af), (pb, aI cI 12 bf), (pq, aI cI 12 zf), (pw, aI cI 12 wf), (pt, aI cI 20 tf), (h0, .inr (4, [.ref qs, .ref qr, .ref qm, .ref qw, .ref qt, .int (zi we)])), (qs, aI cI 10 (zup sf sl.toNat (f_X0_civilNumber ya mo da))), (qo, aL cL 1 (zup of (Int.toNat 0) (f_X0_civilNumber ya mo da))), (g0, .inr (5, [.int (zi 0), .ref ps, .int (zi ru), .ref pk, .ref pa, .ref pb, .ref pq, .int (zi we), .int (zi wl), .ref pw, .int (zi tl), .ref pt])), (ps, aI cI 10 (zup sf sl.toNat (f_X5_numberOf ya mo da)))] H1 (rf k) (oX3 (kf k) (af k) (bf k) (zf k)) := fun k hk => (hR k hk).join (wc := [(g0, .inr (5, [.int (zi co), .ref ps, .int (zi ru), .ref pk, .ref pa, .ref pb, .ref pq, .int (zi we), .int (zi wl), .ref pw, .int (zi tl), .ref pt])), (ps, aI cI 10 sf)]) (wr := [(qr, .inr (0, [.int (zi mc), .ref qe, .int (zi ru)])), (qe, aR cO cap ef), (qm, .inr (2, [.ref qk, .int (zi fi), .int (zi ln)])), (qk, aI cI 366 mf), (qw, .inr (1, [.ref wc, .int (zi wl)])), (wc, aI cI 20 wf), (qt, .inr (1, [.ref tc, .int (zi tl)])), (tc, aI cI 20 tf), (pk, aI cI 12 kf), (pa, aI cI 12 af), (pb, aI cI 12 bf), (pq, aI cI 12 zf), (pw, aI cI 12 wf), (pt, aI cI 20 tf), (h0, .inr (4, [.ref qs, .ref qr, .ref qm, .ref qw, .ref qt, .int (zi we)])), (qs, aI cI 10 (zup sf sl.toNat (f_X0_civilNumber ya mo da))), (qo, aL cL 1 (zup of (Int.toNat 0) (f_X0_civilNumber ya mo da)))]) (w1 := [(g0, .inr (5, [.int (zi 0), .ref ps, .int (zi ru), .ref pk, .ref pa, .ref pb, .ref pq, .int (zi we), .int (zi wl), .ref pw, .int (zi tl), .ref pt])), (ps, aI cI 10 (zup sf sl.toNat (f_X5_numberOf ya mo da)))]) [8, 9] [0, 1, 2, 3, 4, 5, 6, 7, 10, 11, 12, 13, 14, 15, 16, 17, 18] rfl rfl hz1 hk1 hD1
      obtain ⟨hP, hD⟩ := va_join (wr := [(qr, .inr (0, [.int (zi mc), .ref qe, .int (zi ru)])), (qe, aR cO cap ef), (qm, .inr (2, [.ref qk, .int (zi fi), .int (zi ln)])), (qk, aI cI 366 mf), (qw, .inr (1, [.ref wc, .int (zi wl)])), (wc, aI cI 20 wf), (qt, .inr (1, [.ref tc, .int (zi tl)])), (tc, aI cI 20 tf), (pk, aI cI 12 kf), (pa, aI cI 12 af), (pb, aI cI 12 bf), (pq, aI cI 12 zf), (pw, aI cI 12 wf), (pt, aI cI 20 tf), (h0, .inr (4, [.ref qs, .ref qr, .ref qm, .ref qw, .ref qt, .int (zi we)])), (qs, aI cI 10 (zup sf sl.toNat (f_X0_civilNumber ya mo da))), (qo, aL cL 1 (zup of (Int.toNat 0) (f_X0_civilNumber ya mo da)))]) (w1 := [(g0, .inr (5, [.int (zi 0), .ref ps, .int (zi ru), .ref pk, .ref pa, .ref pb, .ref pq, .int (zi we), .int (zi wl), .ref pw, .int (zi tl), .ref pt])), (ps, aI cI 10 (zup sf sl.toNat (f_X5_numberOf ya mo da)))]) hP hD [8, 9] [0, 1, 2, 3, 4, 5, 6, 7, 10, 11, 12, 13, 14, 15, 16, 17, 18] rfl rfl (by decide) (by decide) hk1 hFc hP1 hD1
      replace hR := hR1
      generalize H1 = H at hP hS hR ⊢
      obtain rfl : r2 = zi (f_X5_numberOf ya mo da) := hw
      have hP : va_P (dC, dI) vwCl [(qr, .inr (0, [.int (zi mc), .ref qe, .int (zi ru)])), (qe, aR cO cap ef), (qm, .inr (2, [.ref qk, .int (zi fi), .int (zi ln)])), (qk, aI cI 366 mf), (qw, .inr (1, [.ref wc, .int (zi wl)])), (wc, aI cI 20 wf), (qt, .inr (1, [.ref tc, .int (zi tl)])), (tc, aI cI 20 tf), (pk, aI cI 12 kf), (pa, aI cI 12 af), (pb, aI cI 12 bf), (pq, aI cI 12 zf), (pw, aI cI 12 wf), (pt, aI cI 20 tf), (h0, .inr (4, [.ref qs, .ref qr, .ref qm, .ref qw, .ref qt, .int (zi we)])), (qs, aI cI 10 (zup sf sl.toNat (f_X0_civilNumber ya mo da))), (qo, aL cL 1 (zup of (Int.toNat 0) (f_X0_civilNumber ya mo da))), (g0, .inr (5, [.int (zi 0), .ref ps, .int (zi ru), .ref pk, .ref pa, .ref pb, .ref pq, .int (zi we), .int (zi wl), .ref pw, .int (zi tl), .ref pt])), (ps, aI cI 10 (zup sf sl.toNat (f_X5_numberOf ya mo da)))] H := hP
      have hD : va_D A [(qr, .inr (0, [.int (zi mc), .ref qe, .int (zi ru)])), (qe, aR cO cap ef), (qm, .inr (2, [.ref qk, .int (zi fi), .int (zi ln)])), (qk, aI cI 366 mf), (qw, .inr (1, [.ref wc, .int (zi wl)])), (wc, aI cI 20 wf), (qt, .inr (1, [.ref tc, .int (zi tl)])), (tc, aI cI 20 tf), (pk, aI cI 12 kf), (pa, aI cI 12 af), (pb, aI cI 12 bf), (pq, aI cI 12 zf), (pw, aI cI 12 wf), (pt, aI cI 20 tf), (h0, .inr (4, [.ref qs, .ref qr, .ref qm, .ref qw, .ref qt, .int (zi we)])), (qs, aI cI 10 (zup sf sl.toNat (f_X0_civilNumber ya mo da))), (qo, aL cL 1 (zup of (Int.toNat 0) (f_X0_civilNumber ya mo da))), (g0, .inr (5, [.int (zi 0), .ref ps, .int (zi ru), .ref pk, .ref pa, .ref pb, .ref pq, .int (zi we), .int (zi wl), .ref pw, .int (zi tl), .ref pt])), (ps, aI cI 10 (zup sf sl.toNat (f_X5_numberOf ya mo da)))] := hD
      refine zw_top (fun x3 ex3 => ?_)
      refine lv_istore (lv' := [(6, .int (zi x3)), (5, .int (zi 0)), (4, .int (zi ii)), (0, .ref b), (1, .ref h0), (2, .ref g0), (3, .ref qo)]) hx hb dL_law_195 hl (by decide) rfl (fun ls hl => ?_)
      refine lv_aload_n hx hb dL_law_197 rfl (lv_at hl 5 rfl) ?_
      have hh4 := c_X5_thrown l dC dI cI g0 ps pk pa pb pq pw pt 0 ru we wl tl (zup sf sl.toNat (f_X5_numberOf ya mo da)) 
      have hPc := hP.sub (ws' := [(g0, .inr (5, [.int (zi 0), .ref ps, .int (zi ru), .ref pk, .ref pa, .ref pb, .ref pq, .int (zi we), .int (zi wl), .ref pw, .int (zi tl), .ref pt])), (ps, aI cI 10 (zup sf sl.toNat (f_X5_numberOf ya mo da)))]) [17, 18] rfl
      have hKc : va_K (dC, dI) vwCl [(cI, .int)] s := hK.sub (tys' := [(cI, .int)]) [0] rfl
      refine vp_callSi (va_Run.run (va_runV (As := []) (rest := []) ⟨hx, hb, hml, hown, hts⟩ hh4 (cwV 0 hts gL_law_X5_thrown rfl rfl rfl (by decide +kernel) ⟨Nat.le_of_ble_eq_true rfl, Nat.le_of_ble_eq_true rfl⟩) ⟨zPr.blind _ _ _ _, va_recv hKc hPc (ci := 5) (q0 := 0) rfl rfl, fun U hU hW => ⟨rfl, by rw [hU]; exact hPc, va_K.moved hW.alike hKc⟩⟩ rfl rfl hl.1 rfl (lv_room (Nat.le_of_ble_eq_true rfl)) dL_law_198 ⟨by show _ ≤ 601024; omega, by show _ ≤ 7293033; omega⟩)) (fun r4 (hr4 : r4 = zi 0) => ?_)
      subst hr4
      refine lv_iload hx hb dL_law_201 (lv_at hl 1 rfl) ?_
      refine zw_icmp_eq (tgt := 208) hx hb dL_law_203 (by decide) ⟨by omega, by omega⟩ ⟨by omega, by omega⟩ (fun h5 => ?_) (fun h5 => ?_)
      · skip
        refine lv_iload hx hb dL_law_208 (lv_at hl 1 rfl) ?_
        refine zw_if_ne (tgt := 225) hx hb dL_law_210 (by decide) ⟨by omega, by omega⟩ (fun h6 => ?_) (fun h6 => ?_)
        · skip
          exact absurd True.intro (by omega)
        · skip
          refine lv_aload_n hx hb dL_law_213 rfl (lv_at hl 6 rfl) ?_
          refine zw_iconst hx hb dL_law_214 ?_
          refine zw_lald hx hb hK hP 16 1 rfl rfl (by omega) (by omega) ⟨by omega, by omega⟩ dL_law_215 ?_
          rw [zup_at]
          refine lv_iload hx hb dL_law_216 (lv_at hl 0 rfl) ?_
          refine zw_i2l hx hb dL_law_218 ⟨by omega, by omega⟩ ?_
          refine zw_lcmp_eq (tgt := 225) hx hb dL_law_219 dL_law_220 (by decide) ⟨by omega, by omega⟩ ⟨by omega, by omega⟩ (fun h7 => ?_) (fun h7 => ?_)
          · skip
            refine lv_goto (tgt := 1499) hx hb dL_law_225 (by decide) ?_
            subst ex3
            have hP9 : va_P (dC, dI) vwCl [(h0, .inr (4, [.ref qs, .ref qr, .ref qm, .ref qw, .ref qt, .int (zi we)])), (qs, aI cI 10 (zup sf sl.toNat (f_X0_civilNumber ya mo da))), (qr, .inr (0, [.int (zi mc), .ref qe, .int (zi ru)])), (qe, aR cO cap ef), (qm, .inr (2, [.ref qk, .int (zi fi), .int (zi ln)])), (qk, aI cI 366 mf), (qw, .inr (1, [.ref wc, .int (zi wl)])), (wc, aI cI 20 wf), (qt, .inr (1, [.ref tc, .int (zi tl)])), (tc, aI cI 20 tf), (g0, .inr (5, [.int (zi 0), .ref ps, .int (zi ru), .ref pk, .ref pa, .ref pb, .ref pq, .int (zi we), .int (zi wl), .ref pw, .int (zi tl), .ref pt])), (ps, aI cI 10 (zup sf sl.toNat (f_X5_numberOf ya mo da))), (pk, aI cI 12 kf), (pa, aI cI 12 af), (pb, aI cI 12 bf), (pq, aI cI 12 zf), (pw, aI cI 12 wf), (pt, aI cI 20 tf), (qo, aL cL 1 (zup of (Int.toNat 0) (f_X0_civilNumber ya mo da)))] H := hP.sub (ws' := [(h0, .inr (4, [.ref qs, .ref qr, .ref qm, .ref qw, .ref qt, .int (zi we)])), (qs, aI cI 10 (zup sf sl.toNat (f_X0_civilNumber ya mo da))), (qr, .inr (0, [.int (zi mc), .ref qe, .int (zi ru)])), (qe, aR cO cap ef), (qm, .inr (2, [.ref qk, .int (zi fi), .int (zi ln)])), (qk, aI cI 366 mf), (qw, .inr (1, [.ref wc, .int (zi wl)])), (wc, aI cI 20 wf), (qt, .inr (1, [.ref tc, .int (zi tl)])), (tc, aI cI 20 tf), (g0, .inr (5, [.int (zi 0), .ref ps, .int (zi ru), .ref pk, .ref pa, .ref pb, .ref pq, .int (zi we), .int (zi wl), .ref pw, .int (zi tl), .ref pt])), (ps, aI cI 10 (zup sf sl.toNat (f_X5_numberOf ya mo da))), (pk, aI cI 12 kf), (pa, aI cI 12 af), (pb, aI cI 12 bf), (pq, aI cI 12 zf), (pw, aI cI 12 wf), (pt, aI cI 20 tf), (qo, aL cL 1 (zup of (Int.toNat 0) (f_X0_civilNumber ya mo da)))]) [14, 15, 0, 1, 2, 3, 4, 5, 6, 7, 17, 18, 8, 9, 10, 11, 12, 13, 16] rfl
            have hD9 : va_D A [(h0, .inr (4, [.ref qs, .ref qr, .ref qm, .ref qw, .ref qt, .int (zi we)])), (qs, aI cI 10 (zup sf sl.toNat (f_X0_civilNumber ya mo da))), (qr, .inr (0, [.int (zi mc), .ref qe, .int (zi ru)])), (qe, aR cO cap ef), (qm, .inr (2, [.ref qk, .int (zi fi), .int (zi ln)])), (qk, aI cI 366 mf), (qw, .inr (1, [.ref wc, .int (zi wl)])), (wc, aI cI 20 wf), (qt, .inr (1, [.ref tc, .int (zi tl)])), (tc, aI cI 20 tf), (g0, .inr (5, [.int (zi 0), .ref ps, .int (zi ru), .ref pk, .ref pa, .ref pb, .ref pq, .int (zi we), .int (zi wl), .ref pw, .int (zi tl), .ref pt])), (ps, aI cI 10 (zup sf sl.toNat (f_X5_numberOf ya mo da))), (pk, aI cI 12 kf), (pa, aI cI 12 af), (pb, aI cI 12 bf), (pq, aI cI 12 zf), (pw, aI cI 12 wf), (pt, aI cI 20 tf), (qo, aL cL 1 (zup of (Int.toNat 0) (f_X0_civilNumber ya mo da)))] := hD.sub (ws' := [(h0, .inr (4, [.ref qs, .ref qr, .ref qm, .ref qw, .ref qt, .int (zi we)])), (qs, aI cI 10 (zup sf sl.toNat (f_X0_civilNumber ya mo da))), (qr, .inr (0, [.int (zi mc), .ref qe, .int (zi ru)])), (qe, aR cO cap ef), (qm, .inr (2, [.ref qk, .int (zi fi), .int (zi ln)])), (qk, aI cI 366 mf), (qw, .inr (1, [.ref wc, .int (zi wl)])), (wc, aI cI 20 wf), (qt, .inr (1, [.ref tc, .int (zi tl)])), (tc, aI cI 20 tf), (g0, .inr (5, [.int (zi 0), .ref ps, .int (zi ru), .ref pk, .ref pa, .ref pb, .ref pq, .int (zi we), .int (zi wl), .ref pw, .int (zi tl), .ref pt])), (ps, aI cI 10 (zup sf sl.toNat (f_X5_numberOf ya mo da))), (pk, aI cI 12 kf), (pa, aI cI 12 af), (pb, aI cI 12 bf), (pq, aI cI 12 zf), (pw, aI cI 12 wf), (pt, aI cI 20 tf), (qo, aL cL 1 (zup of (Int.toNat 0) (f_X0_civilNumber ya mo da)))]) [14, 15, 0, 1, 2, 3, 4, 5, 6, 7, 17, 18, 8, 9, 10, 11, 12, 13, 16] (by decide) rfl
            have hR9 : ∀ k : Nat, (k : Int) < ru → zOut (dC, dI) [(h0, .inr (4, [.ref qs, .ref qr, .ref qm, .ref qw, .ref qt, .int (zi we)])), (qs, aI cI 10 (zup sf sl.toNat (f_X0_civilNumber ya mo da))), (qr, .inr (0, [.int (zi mc), .ref qe, .int (zi ru)])), (qe, aR cO cap ef), (qm, .inr (2, [.ref qk, .int (zi fi), .int (zi ln)])), (qk, aI cI 366 mf), (qw, .inr (1, [.ref wc, .int (zi wl)])), (wc, aI cI 20 wf), (qt, .inr (1, [.ref tc, .int (zi tl)])), (tc, aI cI 20 tf), (g0, .inr (5, [.int (zi 0), .ref ps, .int (zi ru), .ref pk, .ref pa, .ref pb, .ref pq, .int (zi we), .int (zi wl), .ref pw, .int (zi tl), .ref pt])), (ps, aI cI 10 (zup sf sl.toNat (f_X5_numberOf ya mo da))), (pk, aI cI 12 kf), (pa, aI cI 12 af), (pb, aI cI 12 bf), (pq, aI cI 12 zf), (pw, aI cI 12 wf), (pt, aI cI 20 tf), (qo, aL cL 1 (zup of (Int.toNat 0) (f_X0_civilNumber ya mo da)))] H (rf k) (oX3 (kf k) (af k) (bf k) (zf k)) := fun k hk => (hR k hk).sub [14, 15, 0, 1, 2, 3, 4, 5, 6, 7, 17, 18, 8, 9, 10, 11, 12, 13, 16] rfl
            have hQ9 := hQ
            have hEF9 := hEF
            have hcv0 : ((zup sf sl.toNat (f_X5_numberOf ya mo da)) : Nat → Int) = (zup sf sl.toNat (f_X0_civilNumber ya mo da)) := by rw [hci]
            rw [hcv0] at hP9 hD9
            try rw [hcv0] at hR9
            have hI9 : LI (zup sf sl.toNat (f_X0_civilNumber ya mo da)) kf af bf zf wf tf ru we fi ln wl tl := LI.mk9 (zup_b hI.sfb _ (by omega)) hI.rub hI.rk hI.web hI.mkb hI.wlb hI.wfb hI.tlb hI.tfb
            refine W.widen (k := ce + 2) (n := sn + 19) (by omega) (by omega) ?_
            exact K1 qe cap ef rf mc ru we fi ln mf (zup sf sl.toNat (f_X0_civilNumber ya mo da)) kf af bf zf wl wf tl tf 0 (zup of (Int.toNat 0) (f_X0_civilNumber ya mo da)) H locs ls ⟨hP9, hD9, hS, hR9, hQ9, hEF9, hI9⟩ (lv_sub hl [2, 3, 4, 5, 6] rfl)
          · skip
            refine zw_iconst hx hb dL_law_223 ?_
            exact absurd True.intro (by omega)
      · skip
        exact absurd True.intro (by omega)
    · skip
      have hci := e_civil ya mo da
      rw [if_neg h2] at hci
      have hid := e_isDate0 ya mo da
      refine lv_aload_n hx hb dL_law_136 rfl (lv_at hl 2 rfl) ?_
      refine lv_aload_n hx hb dL_law_137 rfl (lv_at hl 1 rfl) ?_
      refine lv_iload hx hb dL_law_138 (lv_at hl 0 rfl) ?_
      refine zw_iconst hx hb dL_law_140 ?_
      refine zw_iadd hx hb dL_law_141 ?_
      refine zw_scr hx hb hX hbl hbA hS (by omega) (by omega) ⟨by omega, by omega⟩ hv1 dL_law_142 ?_
      refine lv_aload_n hx hb dL_law_143 rfl (lv_at hl 1 rfl) ?_
      refine lv_iload hx hb dL_law_144 (lv_at hl 0 rfl) ?_
      refine zw_iconst hx hb dL_law_146 ?_
      refine zw_iadd hx hb dL_law_147 ?_
      refine zw_scr hx hb hX hbl hbA hS (by omega) (by omega) ⟨by omega, by omega⟩ hv2 dL_law_148 ?_
      refine lv_aload_n hx hb dL_law_149 rfl (lv_at hl 1 rfl) ?_
      refine lv_iload hx hb dL_law_150 (lv_at hl 0 rfl) ?_
      refine zw_iconst hx hb dL_law_152 ?_
      refine zw_iadd hx hb dL_law_153 ?_
      refine zw_scr hx hb hX hbl hbA hS (by omega) (by omega) ⟨by omega, by omega⟩ hv3 dL_law_154 ?_
      refine lv_aload_n hx hb dL_law_155 rfl (lv_at hl 1 rfl) ?_
      refine lv_iload hx hb dL_law_156 (lv_at hl 0 rfl) ?_
      refine zw_iconst hx hb dL_law_158 ?_
      refine zw_iadd hx hb dL_law_159 ?_
      refine zw_scr hx hb hX hbl hbA hS (by omega) (by omega) ⟨by omega, by omega⟩ hv4 dL_law_160 ?_
      refine lv_aload_n hx hb dL_law_161 rfl (lv_at hl 4 rfl) ?_
      have hh1 := c_L_civil_2 l hst dC dI cI cL h0 qs qr qm qw qt we sf qo of sl ya mo da H.size (by omega) (by omega) (by omega) (by omega) (by omega)
      have hPc := hP.sub (ws' := [(h0, .inr (4, [.ref qs, .ref qr, .ref qm, .ref qw, .ref qt, .int (zi we)])), (qs, aI cI 10 sf), (qo, aL cL 1 of)]) [0, 1, 18] rfl
      have hKc : va_K (dC, dI) vwCl [(cI, .int), (cL, .long)] s := hK.sub (tys' := [(cI, .int), (cL, .long)]) [0, 1] rfl
      have hDc := hD.sub (ws' := [(h0, .inr (4, [.ref qs, .ref qr, .ref qm, .ref qw, .ref qt, .int (zi we)])), (qs, aI cI 10 sf), (qo, aL cL 1 of)]) [0, 1, 18] (by decide) rfl
      have hFc := va_free (wc := [(h0, .inr (4, [.ref qs, .ref qr, .ref qm, .ref qw, .ref qt, .int (zi we)])), (qs, aI cI 10 sf), (qo, aL cL 1 of)]) hD hS hA [0, 1, 18] rfl
      refine va_calli (vx_runSW (As := [.ref h0, .int (zi sl), .int (zi ya), .int (zi mo), .int (zi da), .ref qo]) (rest := []) ⟨hx, hb, hml, hown, hts⟩ hh1 (vx_cwSW 6 hts gL_law_L_civil rfl rfl rfl (by decide +kernel) ⟨Nat.le_of_ble_eq_true rfl, Nat.le_of_ble_eq_true rfl⟩) ⟨zPx.blind _ _ _ _ _, fun U hU hW => ⟨rfl, by rw [hU], hE.call hS (fun q h => hA q (Nat.le_trans hS.1 (by rw [hU] at h; exact h))) hU hW, by rw [hU]; exact hPc, va_K.moved hW.alike hKc, hDc.weaken (fun _ _ _ _ => trivial)⟩⟩ rfl rfl hl.1 rfl (lv_room (Nat.le_of_ble_eq_true rfl)) dL_law_162 ⟨by show _ ≤ 601024; omega, by show _ ≤ 7293033; omega⟩) hS (fun q _ h => hFc q h) hFc (fun r1 u t H1 locs ht hvm hw hB hz1 hk1 hS => ?_)
      obtain ⟨hP1, hK1, hD1⟩ := hB
      rw [ht] at hP1
      have hR1 : ∀ k : Nat, (k : Int) < ru → zOut (dC, dI) [(qr, .inr (0, [.int (zi mc), .ref qe, .int (zi ru)])), (qe, aR cO cap ef), (qm, .inr (2, [.ref qk, .int (zi fi), .int (zi ln)])), (qk, aI cI 366 mf), (qw, .inr (1, [.ref wc, .int (zi wl)])), (wc, aI cI 20 wf), (qt, .inr (1, [.ref tc, .int (zi tl)])), (tc, aI cI 20 tf), (g0, .inr (5, [.int (zi co), .ref ps, .int (zi ru), .ref pk, .ref pa, .ref pb, .ref pq, .int (zi we), .int (zi wl), .ref pw, .int (zi tl), .ref pt])), (ps, aI cI 10 sf), (pk, aI cI 12 kf), (pa, aI cI 12 af), (pb, aI cI 12 bf), (pq, aI cI 12 zf), (pw, aI cI 12 wf), (pt, aI cI 20 tf), (h0, .inr (4, [.ref qs, .ref qr, .ref qm, .ref qw, .ref qt, .int (zi we)])), (qs, aI cI 10 sf), (qo, aL cL 1 of)] H1 (rf k) (oX3 (kf k) (af k) (bf k) (zf k)) := fun k hk => (hR k hk).join (wc := [(h0, .inr (4, [.ref qs, .ref qr, .ref qm, .ref qw, .ref qt, .int (zi we)])), (qs, aI cI 10 sf), (qo, aL cL 1 of)]) (wr := [(qr, .inr (0, [.int (zi mc), .ref qe, .int (zi ru)])), (qe, aR cO cap ef), (qm, .inr (2, [.ref qk, .int (zi fi), .int (zi ln)])), (qk, aI cI 366 mf), (qw, .inr (1, [.ref wc, .int (zi wl)])), (wc, aI cI 20 wf), (qt, .inr (1, [.ref tc, .int (zi tl)])), (tc, aI cI 20 tf), (g0, .inr (5, [.int (zi co), .ref ps, .int (zi ru), .ref pk, .ref pa, .ref pb, .ref pq, .int (zi we), .int (zi wl), .ref pw, .int (zi tl), .ref pt])), (ps, aI cI 10 sf), (pk, aI cI 12 kf), (pa, aI cI 12 af), (pb, aI cI 12 bf), (pq, aI cI 12 zf), (pw, aI cI 12 wf), (pt, aI cI 20 tf)]) (w1 := [(h0, .inr (4, [.ref qs, .ref qr, .ref qm, .ref qw, .ref qt, .int (zi we)])), (qs, aI cI 10 sf), (qo, aL cL 1 of)]) [0, 1, 18] [2, 3, 4, 5, 6, 7, 8, 9, 10, 11, 12, 13, 14, 15, 16, 17] rfl rfl hz1 hk1 hD1
      obtain ⟨hP, hD⟩ := va_join (wr := [(qr, .inr (0, [.int (zi mc), .ref qe, .int (zi ru)])), (qe, aR cO cap ef), (qm, .inr (2, [.ref qk, .int (zi fi), .int (zi ln)])), (qk, aI cI 366 mf), (qw, .inr (1, [.ref wc, .int (zi wl)])), (wc, aI cI 20 wf), (qt, .inr (1, [.ref tc, .int (zi tl)])), (tc, aI cI 20 tf), (g0, .inr (5, [.int (zi co), .ref ps, .int (zi ru), .ref pk, .ref pa, .ref pb, .ref pq, .int (zi we), .int (zi wl), .ref pw, .int (zi tl), .ref pt])), (ps, aI cI 10 sf), (pk, aI cI 12 kf), (pa, aI cI 12 af), (pb, aI cI 12 bf), (pq, aI cI 12 zf), (pw, aI cI 12 wf), (pt, aI cI 20 tf)]) (w1 := [(h0, .inr (4, [.ref qs, .ref qr, .ref qm, .ref qw, .ref qt, .int (zi we)])), (qs, aI cI 10 sf), (qo, aL cL 1 of)]) hP hD [0, 1, 18] [2, 3, 4, 5, 6, 7, 8, 9, 10, 11, 12, 13, 14, 15, 16, 17] rfl rfl (by decide) (by decide) hk1 hFc hP1 hD1
      replace hR := hR1
      generalize H1 = H at hP hS hR ⊢
      obtain rfl : r1 = zi 2 := hw
      have hP : va_P (dC, dI) vwCl [(qr, .inr (0, [.int (zi mc), .ref qe, .int (zi ru)])), (qe, aR cO cap ef), (qm, .inr (2, [.ref qk, .int (zi fi), .int (zi ln)])), (qk, aI cI 366 mf), (qw, .inr (1, [.ref wc, .int (zi wl)])), (wc, aI cI 20 wf), (qt, .inr (1, [.ref tc, .int (zi tl)])), (tc, aI cI 20 tf), (g0, .inr (5, [.int (zi co), .ref ps, .int (zi ru), .ref pk, .ref pa, .ref pb, .ref pq, .int (zi we), .int (zi wl), .ref pw, .int (zi tl), .ref pt])), (ps, aI cI 10 sf), (pk, aI cI 12 kf), (pa, aI cI 12 af), (pb, aI cI 12 bf), (pq, aI cI 12 zf), (pw, aI cI 12 wf), (pt, aI cI 20 tf), (h0, .inr (4, [.ref qs, .ref qr, .ref qm, .ref qw, .ref qt, .int (zi we)])), (qs, aI cI 10 sf), (qo, aL cL 1 of)] H := hP
      have hD : va_D A [(qr, .inr (0, [.int (zi mc), .ref qe, .int (zi ru)])), (qe, aR cO cap ef), (qm, .inr (2, [.ref qk, .int (zi fi), .int (zi ln)])), (qk, aI cI 366 mf), (qw, .inr (1, [.ref wc, .int (zi wl)])), (wc, aI cI 20 wf), (qt, .inr (1, [.ref tc, .int (zi tl)])), (tc, aI cI 20 tf), (g0, .inr (5, [.int (zi co), .ref ps, .int (zi ru), .ref pk, .ref pa, .ref pb, .ref pq, .int (zi we), .int (zi wl), .ref pw, .int (zi tl), .ref pt])), (ps, aI cI 10 sf), (pk, aI cI 12 kf), (pa, aI cI 12 af), (pb, aI cI 12 bf), (pq, aI cI 12 zf), (pw, aI cI 12 wf), (pt, aI cI 20 tf), (h0, .inr (4, [.ref qs, .ref qr, .ref qm, .ref qw, .ref qt, .int (zi we)])), (qs, aI cI 10 sf), (qo, aL cL 1 of)] := hD
      refine lv_istore (lv' := [(5, .int (zi 2)), (4, .int (zi ii)), (0, .ref b), (1, .ref h0), (2, .ref g0), (3, .ref qo)]) hx hb dL_law_165 hl (by decide) rfl (fun ls hl => ?_)
      refine lv_aload_n hx hb dL_law_167 rfl (lv_at hl 4 rfl) ?_
      refine lv_aload_n hx hb dL_law_168 rfl (lv_at hl 2 rfl) ?_
      refine lv_iload hx hb dL_law_169 (lv_at hl 1 rfl) ?_
      refine zw_iconst hx hb dL_law_171 ?_
      refine zw_iadd hx hb dL_law_172 ?_
      refine zw_scr hx hb hX hbl hbA hS (by omega) (by omega) ⟨by omega, by omega⟩ hv1 dL_law_173 ?_
      refine lv_aload_n hx hb dL_law_174 rfl (lv_at hl 2 rfl) ?_
      refine lv_iload hx hb dL_law_175 (lv_at hl 1 rfl) ?_
      refine zw_iconst hx hb dL_law_177 ?_
      refine zw_iadd hx hb dL_law_178 ?_
      refine zw_scr hx hb hX hbl hbA hS (by omega) (by omega) ⟨by omega, by omega⟩ hv2 dL_law_179 ?_
      refine lv_aload_n hx hb dL_law_180 rfl (lv_at hl 2 rfl) ?_
      refine lv_iload hx hb dL_law_181 (lv_at hl 1 rfl) ?_
      refine zw_iconst hx hb dL_law_183 ?_
      refine zw_iadd hx hb dL_law_184 ?_
      refine zw_scr hx hb hX hbl hbA hS (by omega) (by omega) ⟨by omega, by omega⟩ hv3 dL_law_185 ?_
      refine lv_aload_n hx hb dL_law_186 rfl (lv_at hl 2 rfl) ?_
      refine lv_iload hx hb dL_law_187 (lv_at hl 1 rfl) ?_
      refine zw_iconst hx hb dL_law_189 ?_
      refine zw_iadd hx hb dL_law_190 ?_
      refine zw_scr hx hb hX hbl hbA hS (by omega) (by omega) ⟨by omega, by omega⟩ hv4 dL_law_191 ?_
      have hh2 := c_X5_civil_2 l dC dI cI g0 ps pk pa pb pq pw pt co ru we wl tl sf sl ya mo da H.size (by omega) (by omega) (by omega) (by omega) (by omega)
      have hPc := hP.sub (ws' := [(g0, .inr (5, [.int (zi co), .ref ps, .int (zi ru), .ref pk, .ref pa, .ref pb, .ref pq, .int (zi we), .int (zi wl), .ref pw, .int (zi tl), .ref pt])), (ps, aI cI 10 sf)]) [8, 9] rfl
      have hKc : va_K (dC, dI) vwCl [(cI, .int)] s := hK.sub (tys' := [(cI, .int)]) [0] rfl
      have hDc := hD.sub (ws' := [(g0, .inr (5, [.int (zi co), .ref ps, .int (zi ru), .ref pk, .ref pa, .ref pb, .ref pq, .int (zi we), .int (zi wl), .ref pw, .int (zi tl), .ref pt])), (ps, aI cI 10 sf)]) [8, 9] (by decide) rfl
      have hFc := va_free (wc := [(g0, .inr (5, [.int (zi co), .ref ps, .int (zi ru), .ref pk, .ref pa, .ref pb, .ref pq, .int (zi we), .int (zi wl), .ref pw, .int (zi tl), .ref pt])), (ps, aI cI 10 sf)]) hD hS hA [8, 9] rfl
      refine va_calli (va_runV (As := [.int (zi sl), .int (zi ya), .int (zi mo), .int (zi da)]) (rest := []) ⟨hx, hb, hml, hown, hts⟩ hh2 (cwV 4 hts gL_law_X5_civil rfl rfl rfl (by decide +kernel) ⟨Nat.le_of_ble_eq_true rfl, Nat.le_of_ble_eq_true rfl⟩) ⟨zPw.blind _ _ _ _ _, va_recv hKc hPc (ci := 5) (q0 := 0) rfl rfl, fun U hU hW => ⟨rfl, by rw [hU], by rw [hU]; exact hPc, va_K.moved hW.alike hKc, hDc.weaken (fun _ _ _ _ => trivial)⟩⟩ rfl rfl hl.1 rfl (lv_room (Nat.le_of_ble_eq_true rfl)) dL_law_192 ⟨by show _ ≤ 601024; omega, by show _ ≤ 7293033; omega⟩) hS (fun q _ h => hFc q h) hFc (fun r2 u t H1 locs ht hvm hw hB hz1 hk1 hS => ?_)
      obtain ⟨hP1, hK1, hD1⟩ := hB
      rw [ht] at hP1
      have hR1 : ∀ k : Nat, (k : Int) < ru → zOut (dC, dI) [(qr, .inr (0, [.int (zi mc), .ref qe, .int (zi ru)])), (qe, aR cO cap ef), (qm, .inr (2, [.ref qk, .int (zi fi), .int (zi ln)])), (qk, aI cI 366 mf), (qw, .inr (1, [.ref wc, .int (zi wl)])), (wc, aI cI 20 wf), (qt, .inr (1, [.ref tc, .int (zi tl)])), (tc, aI cI 20 tf), (pk, aI cI 12 kf), (pa, aI cI 12 af), (pb, aI cI 12 bf), (pq, aI cI 12 zf), (pw, aI cI 12 wf), (pt, aI cI 20 tf), (h0, .inr (4, [.ref qs, .ref qr, .ref qm, .ref qw, .ref qt, .int (zi we)])), (qs, aI cI 10 sf), (qo, aL cL 1 of), (g0, .inr (5, [.int (zi 2), .ref ps, .int (zi ru), .ref pk, .ref pa, .ref pb, .ref pq, .int (zi we), .int (zi wl), .ref pw, .int (zi tl), .ref pt])), (ps, aI cI 10 sf)] H1 (rf k) (oX3 (kf k) (af k) (bf k) (zf k)) := fun k hk => (hR k hk).join (wc := [(g0, .inr (5, [.int (zi co), .ref ps, .int (zi ru), .ref pk, .ref pa, .ref pb, .ref pq, .int (zi we), .int (zi wl), .ref pw, .int (zi tl), .ref pt])), (ps, aI cI 10 sf)]) (wr := [(qr, .inr (0, [.int (zi mc), .ref qe, .int (zi ru)])), (qe, aR cO cap ef), (qm, .inr (2, [.ref qk, .int (zi fi), .int (zi ln)])), (qk, aI cI 366 mf), (qw, .inr (1, [.ref wc, .int (zi wl)])), (wc, aI cI 20 wf), (qt, .inr (1, [.ref tc, .int (zi tl)])), (tc, aI cI 20 tf), (pk, aI cI 12 kf), (pa, aI cI 12 af), (pb, aI cI 12 bf), (pq, aI cI 12 zf), (pw, aI cI 12 wf), (pt, aI cI 20 tf), (h0, .inr (4, [.ref qs, .ref qr, .ref qm, .ref qw, .ref qt, .int (zi we)])), (qs, aI cI 10 sf), (qo, aL cL 1 of)]) (w1 := [(g0, .inr (5, [.int (zi 2), .ref ps, .int (zi ru), .ref pk, .ref pa, .ref pb, .ref pq, .int (zi we), .int (zi wl), .ref pw, .int (zi tl), .ref pt])), (ps, aI cI 10 sf)]) [8, 9] [0, 1, 2, 3, 4, 5, 6, 7, 10, 11, 12, 13, 14, 15, 16, 17, 18] rfl rfl hz1 hk1 hD1
      obtain ⟨hP, hD⟩ := va_join (wr := [(qr, .inr (0, [.int (zi mc), .ref qe, .int (zi ru)])), (qe, aR cO cap ef), (qm, .inr (2, [.ref qk, .int (zi fi), .int (zi ln)])), (qk, aI cI 366 mf), (qw, .inr (1, [.ref wc, .int (zi wl)])), (wc, aI cI 20 wf), (qt, .inr (1, [.ref tc, .int (zi tl)])), (tc, aI cI 20 tf), (pk, aI cI 12 kf), (pa, aI cI 12 af), (pb, aI cI 12 bf), (pq, aI cI 12 zf), (pw, aI cI 12 wf), (pt, aI cI 20 tf), (h0, .inr (4, [.ref qs, .ref qr, .ref qm, .ref qw, .ref qt, .int (zi we)])), (qs, aI cI 10 sf), (qo, aL cL 1 of)]) (w1 := [(g0, .inr (5, [.int (zi 2), .ref ps, .int (zi ru), .ref pk, .ref pa, .ref pb, .ref pq, .int (zi we), .int (zi wl), .ref pw, .int (zi tl), .ref pt])), (ps, aI cI 10 sf)]) hP hD [8, 9] [0, 1, 2, 3, 4, 5, 6, 7, 10, 11, 12, 13, 14, 15, 16, 17, 18] rfl rfl (by decide) (by decide) hk1 hFc hP1 hD1
      replace hR := hR1
      generalize H1 = H at hP hS hR ⊢
      obtain rfl : r2 = zi 0 := hw
      have hP : va_P (dC, dI) vwCl [(qr, .inr (0, [.int (zi mc), .ref qe, .int (zi ru)])), (qe, aR cO cap ef), (qm, .inr (2, [.ref qk, .int (zi fi), .int (zi ln)])), (qk, aI cI 366 mf), (qw, .inr (1, [.ref wc, .int (zi wl)])), (wc, aI cI 20 wf), (qt, .inr (1, [.ref tc, .int (zi tl)])), (tc, aI cI 20 tf), (pk, aI cI 12 kf), (pa, aI cI 12 af), (pb, aI cI 12 bf), (pq, aI cI 12 zf), (pw, aI cI 12 wf), (pt, aI cI 20 tf), (h0, .inr (4, [.ref qs, .ref qr, .ref qm, .ref qw, .ref qt, .int (zi we)])), (qs, aI cI 10 sf), (qo, aL cL 1 of), (g0, .inr (5, [.int (zi 2), .ref ps, .int (zi ru), .ref pk, .ref pa, .ref pb, .ref pq, .int (zi we), .int (zi wl), .ref pw, .int (zi tl), .ref pt])), (ps, aI cI 10 sf)] H := hP
      have hD : va_D A [(qr, .inr (0, [.int (zi mc), .ref qe, .int (zi ru)])), (qe, aR cO cap ef), (qm, .inr (2, [.ref qk, .int (zi fi), .int (zi ln)])), (qk, aI cI 366 mf), (qw, .inr (1, [.ref wc, .int (zi wl)])), (wc, aI cI 20 wf), (qt, .inr (1, [.ref tc, .int (zi tl)])), (tc, aI cI 20 tf), (pk, aI cI 12 kf), (pa, aI cI 12 af), (pb, aI cI 12 bf), (pq, aI cI 12 zf), (pw, aI cI 12 wf), (pt, aI cI 20 tf), (h0, .inr (4, [.ref qs, .ref qr, .ref qm, .ref qw, .ref qt, .int (zi we)])), (qs, aI cI 10 sf), (qo, aL cL 1 of), (g0, .inr (5, [.int (zi 2), .ref ps, .int (zi ru), .ref pk, .ref pa, .ref pb, .ref pq, .int (zi we), .int (zi wl), .ref pw, .int (zi tl), .ref pt])), (ps, aI cI 10 sf)] := hD
      refine lv_istore (lv' := [(6, .int (zi 0)), (5, .int (zi 2)), (4, .int (zi ii)), (0, .ref b), (1, .ref h0), (2, .ref g0), (3, .ref qo)]) hx hb dL_law_195 hl (by decide) rfl (fun ls hl => ?_)
      refine lv_aload_n hx hb dL_law_197 rfl (lv_at hl 5 rfl) ?_
      have hh3 := c_X5_thrown l dC dI cI g0 ps pk pa pb pq pw pt 2 ru we wl tl sf 
      have hPc := hP.sub (ws' := [(g0, .inr (5, [.int (zi 2), .ref ps, .int (zi ru), .ref pk, .ref pa, .ref pb, .ref pq, .int (zi we), .int (zi wl), .ref pw, .int (zi tl), .ref pt])), (ps, aI cI 10 sf)]) [17, 18] rfl
      have hKc : va_K (dC, dI) vwCl [(cI, .int)] s := hK.sub (tys' := [(cI, .int)]) [0] rfl
      refine vp_callSi (va_Run.run (va_runV (As := []) (rest := []) ⟨hx, hb, hml, hown, hts⟩ hh3 (cwV 0 hts gL_law_X5_thrown rfl rfl rfl (by decide +kernel) ⟨Nat.le_of_ble_eq_true rfl, Nat.le_of_ble_eq_true rfl⟩) ⟨zPr.blind _ _ _ _, va_recv hKc hPc (ci := 5) (q0 := 0) rfl rfl, fun U hU hW => ⟨rfl, by rw [hU]; exact hPc, va_K.moved hW.alike hKc⟩⟩ rfl rfl hl.1 rfl (lv_room (Nat.le_of_ble_eq_true rfl)) dL_law_198 ⟨by show _ ≤ 601024; omega, by show _ ≤ 7293033; omega⟩)) (fun r3 (hr3 : r3 = zi 2) => ?_)
      subst hr3
      refine lv_iload hx hb dL_law_201 (lv_at hl 1 rfl) ?_
      refine zw_icmp_eq (tgt := 208) hx hb dL_law_203 (by decide) ⟨by omega, by omega⟩ ⟨by omega, by omega⟩ (fun h4 => ?_) (fun h4 => ?_)
      · skip
        refine lv_iload hx hb dL_law_208 (lv_at hl 1 rfl) ?_
        refine zw_if_ne (tgt := 225) hx hb dL_law_210 (by decide) ⟨by omega, by omega⟩ (fun h5 => ?_) (fun h5 => ?_)
        · skip
          refine lv_goto (tgt := 1499) hx hb dL_law_225 (by decide) ?_
          have hP9 : va_P (dC, dI) vwCl [(h0, .inr (4, [.ref qs, .ref qr, .ref qm, .ref qw, .ref qt, .int (zi we)])), (qs, aI cI 10 sf), (qr, .inr (0, [.int (zi mc), .ref qe, .int (zi ru)])), (qe, aR cO cap ef), (qm, .inr (2, [.ref qk, .int (zi fi), .int (zi ln)])), (qk, aI cI 366 mf), (qw, .inr (1, [.ref wc, .int (zi wl)])), (wc, aI cI 20 wf), (qt, .inr (1, [.ref tc, .int (zi tl)])), (tc, aI cI 20 tf), (g0, .inr (5, [.int (zi 2), .ref ps, .int (zi ru), .ref pk, .ref pa, .ref pb, .ref pq, .int (zi we), .int (zi wl), .ref pw, .int (zi tl), .ref pt])), (ps, aI cI 10 sf), (pk, aI cI 12 kf), (pa, aI cI 12 af), (pb, aI cI 12 bf), (pq, aI cI 12 zf), (pw, aI cI 12 wf), (pt, aI cI 20 tf), (qo, aL cL 1 of)] H := hP.sub (ws' := [(h0, .inr (4, [.ref qs, .ref qr, .ref qm, .ref qw, .ref qt, .int (zi we)])), (qs, aI cI 10 sf), (qr, .inr (0, [.int (zi mc), .ref qe, .int (zi ru)])), (qe, aR cO cap ef), (qm, .inr (2, [.ref qk, .int (zi fi), .int (zi ln)])), (qk, aI cI 366 mf), (qw, .inr (1, [.ref wc, .int (zi wl)])), (wc, aI cI 20 wf), (qt, .inr (1, [.ref tc, .int (zi tl)])), (tc, aI cI 20 tf), (g0, .inr (5, [.int (zi 2), .ref ps, .int (zi ru), .ref pk, .ref pa, .ref pb, .ref pq, .int (zi we), .int (zi wl), .ref pw, .int (zi tl), .ref pt])), (ps, aI cI 10 sf), (pk, aI cI 12 kf), (pa, aI cI 12 af), (pb, aI cI 12 bf), (pq, aI cI 12 zf), (pw, aI cI 12 wf), (pt, aI cI 20 tf), (qo, aL cL 1 of)]) [14, 15, 0, 1, 2, 3, 4, 5, 6, 7, 17, 18, 8, 9, 10, 11, 12, 13, 16] rfl
          have hD9 : va_D A [(h0, .inr (4, [.ref qs, .ref qr, .ref qm, .ref qw, .ref qt, .int (zi we)])), (qs, aI cI 10 sf), (qr, .inr (0, [.int (zi mc), .ref qe, .int (zi ru)])), (qe, aR cO cap ef), (qm, .inr (2, [.ref qk, .int (zi fi), .int (zi ln)])), (qk, aI cI 366 mf), (qw, .inr (1, [.ref wc, .int (zi wl)])), (wc, aI cI 20 wf), (qt, .inr (1, [.ref tc, .int (zi tl)])), (tc, aI cI 20 tf), (g0, .inr (5, [.int (zi 2), .ref ps, .int (zi ru), .ref pk, .ref pa, .ref pb, .ref pq, .int (zi we), .int (zi wl), .ref pw, .int (zi tl), .ref pt])), (ps, aI cI 10 sf), (pk, aI cI 12 kf), (pa, aI cI 12 af), (pb, aI cI 12 bf), (pq, aI cI 12 zf), (pw, aI cI 12 wf), (pt, aI cI 20 tf), (qo, aL cL 1 of)] := hD.sub (ws' := [(h0, .inr (4, [.ref qs, .ref qr, .ref qm, .ref qw, .ref qt, .int (zi we)])), (qs, aI cI 10 sf), (qr, .inr (0, [.int (zi mc), .ref qe, .int (zi ru)])), (qe, aR cO cap ef), (qm, .inr (2, [.ref qk, .int (zi fi), .int (zi ln)])), (qk, aI cI 366 mf), (qw, .inr (1, [.ref wc, .int (zi wl)])), (wc, aI cI 20 wf), (qt, .inr (1, [.ref tc, .int (zi tl)])), (tc, aI cI 20 tf), (g0, .inr (5, [.int (zi 2), .ref ps, .int (zi ru), .ref pk, .ref pa, .ref pb, .ref pq, .int (zi we), .int (zi wl), .ref pw, .int (zi tl), .ref pt])), (ps, aI cI 10 sf), (pk, aI cI 12 kf), (pa, aI cI 12 af), (pb, aI cI 12 bf), (pq, aI cI 12 zf), (pw, aI cI 12 wf), (pt, aI cI 20 tf), (qo, aL cL 1 of)]) [14, 15, 0, 1, 2, 3, 4, 5, 6, 7, 17, 18, 8, 9, 10, 11, 12, 13, 16] (by decide) rfl
          have hR9 : ∀ k : Nat, (k : Int) < ru → zOut (dC, dI) [(h0, .inr (4, [.ref qs, .ref qr, .ref qm, .ref qw, .ref qt, .int (zi we)])), (qs, aI cI 10 sf), (qr, .inr (0, [.int (zi mc), .ref qe, .int (zi ru)])), (qe, aR cO cap ef), (qm, .inr (2, [.ref qk, .int (zi fi), .int (zi ln)])), (qk, aI cI 366 mf), (qw, .inr (1, [.ref wc, .int (zi wl)])), (wc, aI cI 20 wf), (qt, .inr (1, [.ref tc, .int (zi tl)])), (tc, aI cI 20 tf), (g0, .inr (5, [.int (zi 2), .ref ps, .int (zi ru), .ref pk, .ref pa, .ref pb, .ref pq, .int (zi we), .int (zi wl), .ref pw, .int (zi tl), .ref pt])), (ps, aI cI 10 sf), (pk, aI cI 12 kf), (pa, aI cI 12 af), (pb, aI cI 12 bf), (pq, aI cI 12 zf), (pw, aI cI 12 wf), (pt, aI cI 20 tf), (qo, aL cL 1 of)] H (rf k) (oX3 (kf k) (af k) (bf k) (zf k)) := fun k hk => (hR k hk).sub [14, 15, 0, 1, 2, 3, 4, 5, 6, 7, 17, 18, 8, 9, 10, 11, 12, 13, 16] rfl
          have hQ9 := hQ
          have hEF9 := hEF
          have hI9 : LI sf kf af bf zf wf tf ru we fi ln wl tl := hI
          refine W.widen (k := ce + 2) (n := sn + 19) (by omega) (by omega) ?_
          exact K1 qe cap ef rf mc ru we fi ln mf sf kf af bf zf wl wf tl tf 2 of H locs ls ⟨hP9, hD9, hS, hR9, hQ9, hEF9, hI9⟩ (lv_sub hl [2, 3, 4, 5, 6] rfl)
        · skip
          exact absurd True.intro (by omega)
      · skip
        exact absurd True.intro (by omega)
  · skip
    refine lv_aload_n hx hb dL_law_136 rfl (lv_at hl 2 rfl) ?_
    refine lv_aload_n hx hb dL_law_137 rfl (lv_at hl 1 rfl) ?_
    refine lv_iload hx hb dL_law_138 (lv_at hl 0 rfl) ?_
    refine zw_iconst hx hb dL_law_140 ?_
    refine zw_iadd hx hb dL_law_141 ?_
    refine zw_scr hx hb hX hbl hbA hS (by omega) (by omega) ⟨by omega, by omega⟩ hv1 dL_law_142 ?_
    refine lv_aload_n hx hb dL_law_143 rfl (lv_at hl 1 rfl) ?_
    refine lv_iload hx hb dL_law_144 (lv_at hl 0 rfl) ?_
    refine zw_iconst hx hb dL_law_146 ?_
    refine zw_iadd hx hb dL_law_147 ?_
    refine zw_scr hx hb hX hbl hbA hS (by omega) (by omega) ⟨by omega, by omega⟩ hv2 dL_law_148 ?_
    refine lv_aload_n hx hb dL_law_149 rfl (lv_at hl 1 rfl) ?_
    refine lv_iload hx hb dL_law_150 (lv_at hl 0 rfl) ?_
    refine zw_iconst hx hb dL_law_152 ?_
    refine zw_iadd hx hb dL_law_153 ?_
    refine zw_scr hx hb hX hbl hbA hS (by omega) (by omega) ⟨by omega, by omega⟩ hv3 dL_law_154 ?_
    refine lv_aload_n hx hb dL_law_155 rfl (lv_at hl 1 rfl) ?_
    refine lv_iload hx hb dL_law_156 (lv_at hl 0 rfl) ?_
    refine zw_iconst hx hb dL_law_158 ?_
    refine zw_iadd hx hb dL_law_159 ?_
    refine zw_scr hx hb hX hbl hbA hS (by omega) (by omega) ⟨by omega, by omega⟩ hv4 dL_law_160 ?_
    refine lv_aload_n hx hb dL_law_161 rfl (lv_at hl 4 rfl) ?_
    have hh1 := c_L_civil_1 l hst dC dI cI cL h0 qs qr qm qw qt we sf qo of sl ya mo da H.size (by omega) (by omega)
    have hPc := hP.sub (ws' := [(h0, .inr (4, [.ref qs, .ref qr, .ref qm, .ref qw, .ref qt, .int (zi we)])), (qs, aI cI 10 sf), (qo, aL cL 1 of)]) [0, 1, 18] rfl
    have hKc : va_K (dC, dI) vwCl [(cI, .int), (cL, .long)] s := hK.sub (tys' := [(cI, .int), (cL, .long)]) [0, 1] rfl
    have hDc := hD.sub (ws' := [(h0, .inr (4, [.ref qs, .ref qr, .ref qm, .ref qw, .ref qt, .int (zi we)])), (qs, aI cI 10 sf), (qo, aL cL 1 of)]) [0, 1, 18] (by decide) rfl
    have hFc := va_free (wc := [(h0, .inr (4, [.ref qs, .ref qr, .ref qm, .ref qw, .ref qt, .int (zi we)])), (qs, aI cI 10 sf), (qo, aL cL 1 of)]) hD hS hA [0, 1, 18] rfl
    refine va_calli (vx_runSW (As := [.ref h0, .int (zi sl), .int (zi ya), .int (zi mo), .int (zi da), .ref qo]) (rest := []) ⟨hx, hb, hml, hown, hts⟩ hh1 (vx_cwSW 6 hts gL_law_L_civil rfl rfl rfl (by decide +kernel) ⟨Nat.le_of_ble_eq_true rfl, Nat.le_of_ble_eq_true rfl⟩) ⟨zPx.blind _ _ _ _ _, fun U hU hW => ⟨rfl, by rw [hU], hE.call hS (fun q h => hA q (Nat.le_trans hS.1 (by rw [hU] at h; exact h))) hU hW, by rw [hU]; exact hPc, va_K.moved hW.alike hKc, hDc.weaken (fun _ _ _ _ => trivial)⟩⟩ rfl rfl hl.1 rfl (lv_room (Nat.le_of_ble_eq_true rfl)) dL_law_162 ⟨by show _ ≤ 601024; omega, by show _ ≤ 7293033; omega⟩) hS (fun q _ h => hFc q h) hFc (fun r1 u t H1 locs ht hvm hw hB hz1 hk1 hS => ?_)
    obtain ⟨hP1, hK1, hD1⟩ := hB
    rw [ht] at hP1
    have hR1 : ∀ k : Nat, (k : Int) < ru → zOut (dC, dI) [(qr, .inr (0, [.int (zi mc), .ref qe, .int (zi ru)])), (qe, aR cO cap ef), (qm, .inr (2, [.ref qk, .int (zi fi), .int (zi ln)])), (qk, aI cI 366 mf), (qw, .inr (1, [.ref wc, .int (zi wl)])), (wc, aI cI 20 wf), (qt, .inr (1, [.ref tc, .int (zi tl)])), (tc, aI cI 20 tf), (g0, .inr (5, [.int (zi co), .ref ps, .int (zi ru), .ref pk, .ref pa, .ref pb, .ref pq, .int (zi we), .int (zi wl), .ref pw, .int (zi tl), .ref pt])), (ps, aI cI 10 sf), (pk, aI cI 12 kf), (pa, aI cI 12 af), (pb, aI cI 12 bf), (pq, aI cI 12 zf), (pw, aI cI 12 wf), (pt, aI cI 20 tf), (h0, .inr (4, [.ref qs, .ref qr, .ref qm, .ref qw, .ref qt, .int (zi we)])), (qs, aI cI 10 sf), (qo, aL cL 1 of)] H1 (rf k) (oX3 (kf k) (af k) (bf k) (zf k)) := fun k hk => (hR k hk).join (wc := [(h0, .inr (4, [.ref qs, .ref qr, .ref qm, .ref qw, .ref qt, .int (zi we)])), (qs, aI cI 10 sf), (qo, aL cL 1 of)]) (wr := [(qr, .inr (0, [.int (zi mc), .ref qe, .int (zi ru)])), (qe, aR cO cap ef), (qm, .inr (2, [.ref qk, .int (zi fi), .int (zi ln)])), (qk, aI cI 366 mf), (qw, .inr (1, [.ref wc, .int (zi wl)])), (wc, aI cI 20 wf), (qt, .inr (1, [.ref tc, .int (zi tl)])), (tc, aI cI 20 tf), (g0, .inr (5, [.int (zi co), .ref ps, .int (zi ru), .ref pk, .ref pa, .ref pb, .ref pq, .int (zi we), .int (zi wl), .ref pw, .int (zi tl), .ref pt])), (ps, aI cI 10 sf), (pk, aI cI 12 kf), (pa, aI cI 12 af), (pb, aI cI 12 bf), (pq, aI cI 12 zf), (pw, aI cI 12 wf), (pt, aI cI 20 tf)]) (w1 := [(h0, .inr (4, [.ref qs, .ref qr, .ref qm, .ref qw, .ref qt, .int (zi we)])), (qs, aI cI 10 sf), (qo, aL cL 1 of)]) [0, 1, 18] [2, 3, 4, 5, 6, 7, 8, 9, 10, 11, 12, 13, 14, 15, 16, 17] rfl rfl hz1 hk1 hD1
    obtain ⟨hP, hD⟩ := va_join (wr := [(qr, .inr (0, [.int (zi mc), .ref qe, .int (zi ru)])), (qe, aR cO cap ef), (qm, .inr (2, [.ref qk, .int (zi fi), .int (zi ln)])), (qk, aI cI 366 mf), (qw, .inr (1, [.ref wc, .int (zi wl)])), (wc, aI cI 20 wf), (qt, .inr (1, [.ref tc, .int (zi tl)])), (tc, aI cI 20 tf), (g0, .inr (5, [.int (zi co), .ref ps, .int (zi ru), .ref pk, .ref pa, .ref pb, .ref pq, .int (zi we), .int (zi wl), .ref pw, .int (zi tl), .ref pt])), (ps, aI cI 10 sf), (pk, aI cI 12 kf), (pa, aI cI 12 af), (pb, aI cI 12 bf), (pq, aI cI 12 zf), (pw, aI cI 12 wf), (pt, aI cI 20 tf)]) (w1 := [(h0, .inr (4, [.ref qs, .ref qr, .ref qm, .ref qw, .ref qt, .int (zi we)])), (qs, aI cI 10 sf), (qo, aL cL 1 of)]) hP hD [0, 1, 18] [2, 3, 4, 5, 6, 7, 8, 9, 10, 11, 12, 13, 14, 15, 16, 17] rfl rfl (by decide) (by decide) hk1 hFc hP1 hD1
    replace hR := hR1
    generalize H1 = H at hP hS hR ⊢
    obtain rfl : r1 = zi 1 := hw
    have hP : va_P (dC, dI) vwCl [(qr, .inr (0, [.int (zi mc), .ref qe, .int (zi ru)])), (qe, aR cO cap ef), (qm, .inr (2, [.ref qk, .int (zi fi), .int (zi ln)])), (qk, aI cI 366 mf), (qw, .inr (1, [.ref wc, .int (zi wl)])), (wc, aI cI 20 wf), (qt, .inr (1, [.ref tc, .int (zi tl)])), (tc, aI cI 20 tf), (g0, .inr (5, [.int (zi co), .ref ps, .int (zi ru), .ref pk, .ref pa, .ref pb, .ref pq, .int (zi we), .int (zi wl), .ref pw, .int (zi tl), .ref pt])), (ps, aI cI 10 sf), (pk, aI cI 12 kf), (pa, aI cI 12 af), (pb, aI cI 12 bf), (pq, aI cI 12 zf), (pw, aI cI 12 wf), (pt, aI cI 20 tf), (h0, .inr (4, [.ref qs, .ref qr, .ref qm, .ref qw, .ref qt, .int (zi we)])), (qs, aI cI 10 sf), (qo, aL cL 1 of)] H := hP
    have hD : va_D A [(qr, .inr (0, [.int (zi mc), .ref qe, .int (zi ru)])), (qe, aR cO cap ef), (qm, .inr (2, [.ref qk, .int (zi fi), .int (zi ln)])), (qk, aI cI 366 mf), (qw, .inr (1, [.ref wc, .int (zi wl)])), (wc, aI cI 20 wf), (qt, .inr (1, [.ref tc, .int (zi tl)])), (tc, aI cI 20 tf), (g0, .inr (5, [.int (zi co), .ref ps, .int (zi ru), .ref pk, .ref pa, .ref pb, .ref pq, .int (zi we), .int (zi wl), .ref pw, .int (zi tl), .ref pt])), (ps, aI cI 10 sf), (pk, aI cI 12 kf), (pa, aI cI 12 af), (pb, aI cI 12 bf), (pq, aI cI 12 zf), (pw, aI cI 12 wf), (pt, aI cI 20 tf), (h0, .inr (4, [.ref qs, .ref qr, .ref qm, .ref qw, .ref qt, .int (zi we)])), (qs, aI cI 10 sf), (qo, aL cL 1 of)] := hD
    refine lv_istore (lv' := [(5, .int (zi 1)), (4, .int (zi ii)), (0, .ref b), (1, .ref h0), (2, .ref g0), (3, .ref qo)]) hx hb dL_law_165 hl (by decide) rfl (fun ls hl => ?_)
    refine lv_aload_n hx hb dL_law_167 rfl (lv_at hl 4 rfl) ?_
    refine lv_aload_n hx hb dL_law_168 rfl (lv_at hl 2 rfl) ?_
    refine lv_iload hx hb dL_law_169 (lv_at hl 1 rfl) ?_
    refine zw_iconst hx hb dL_law_171 ?_
    refine zw_iadd hx hb dL_law_172 ?_
    refine zw_scr hx hb hX hbl hbA hS (by omega) (by omega) ⟨by omega, by omega⟩ hv1 dL_law_173 ?_
    refine lv_aload_n hx hb dL_law_174 rfl (lv_at hl 2 rfl) ?_
    refine lv_iload hx hb dL_law_175 (lv_at hl 1 rfl) ?_
    refine zw_iconst hx hb dL_law_177 ?_
    refine zw_iadd hx hb dL_law_178 ?_
    refine zw_scr hx hb hX hbl hbA hS (by omega) (by omega) ⟨by omega, by omega⟩ hv2 dL_law_179 ?_
    refine lv_aload_n hx hb dL_law_180 rfl (lv_at hl 2 rfl) ?_
    refine lv_iload hx hb dL_law_181 (lv_at hl 1 rfl) ?_
    refine zw_iconst hx hb dL_law_183 ?_
    refine zw_iadd hx hb dL_law_184 ?_
    refine zw_scr hx hb hX hbl hbA hS (by omega) (by omega) ⟨by omega, by omega⟩ hv3 dL_law_185 ?_
    refine lv_aload_n hx hb dL_law_186 rfl (lv_at hl 2 rfl) ?_
    refine lv_iload hx hb dL_law_187 (lv_at hl 1 rfl) ?_
    refine zw_iconst hx hb dL_law_189 ?_
    refine zw_iadd hx hb dL_law_190 ?_
    refine zw_scr hx hb hX hbl hbA hS (by omega) (by omega) ⟨by omega, by omega⟩ hv4 dL_law_191 ?_
    have hh2 := c_X5_civil_1 l dC dI cI g0 ps pk pa pb pq pw pt co ru we wl tl sf sl ya mo da H.size (by omega) (by omega) (by omega) (by omega) (by omega)
    have hPc := hP.sub (ws' := [(g0, .inr (5, [.int (zi co), .ref ps, .int (zi ru), .ref pk, .ref pa, .ref pb, .ref pq, .int (zi we), .int (zi wl), .ref pw, .int (zi tl), .ref pt])), (ps, aI cI 10 sf)]) [8, 9] rfl
    have hKc : va_K (dC, dI) vwCl [(cI, .int)] s := hK.sub (tys' := [(cI, .int)]) [0] rfl
    have hDc := hD.sub (ws' := [(g0, .inr (5, [.int (zi co), .ref ps, .int (zi ru), .ref pk, .ref pa, .ref pb, .ref pq, .int (zi we), .int (zi wl), .ref pw, .int (zi tl), .ref pt])), (ps, aI cI 10 sf)]) [8, 9] (by decide) rfl
    have hFc := va_free (wc := [(g0, .inr (5, [.int (zi co), .ref ps, .int (zi ru), .ref pk, .ref pa, .ref pb, .ref pq, .int (zi we), .int (zi wl), .ref pw, .int (zi tl), .ref pt])), (ps, aI cI 10 sf)]) hD hS hA [8, 9] rfl
    refine va_calli (va_runV (As := [.int (zi sl), .int (zi ya), .int (zi mo), .int (zi da)]) (rest := []) ⟨hx, hb, hml, hown, hts⟩ hh2 (cwV 4 hts gL_law_X5_civil rfl rfl rfl (by decide +kernel) ⟨Nat.le_of_ble_eq_true rfl, Nat.le_of_ble_eq_true rfl⟩) ⟨zPw.blind _ _ _ _ _, va_recv hKc hPc (ci := 5) (q0 := 0) rfl rfl, fun U hU hW => ⟨rfl, by rw [hU], by rw [hU]; exact hPc, va_K.moved hW.alike hKc, hDc.weaken (fun _ _ _ _ => trivial)⟩⟩ rfl rfl hl.1 rfl (lv_room (Nat.le_of_ble_eq_true rfl)) dL_law_192 ⟨by show _ ≤ 601024; omega, by show _ ≤ 7293033; omega⟩) hS (fun q _ h => hFc q h) hFc (fun r2 u t H1 locs ht hvm hw hB hz1 hk1 hS => ?_)
    obtain ⟨hP1, hK1, hD1⟩ := hB
    rw [ht] at hP1
    have hR1 : ∀ k : Nat, (k : Int) < ru → zOut (dC, dI) [(qr, .inr (0, [.int (zi mc), .ref qe, .int (zi ru)])), (qe, aR cO cap ef), (qm, .inr (2, [.ref qk, .int (zi fi), .int (zi ln)])), (qk, aI cI 366 mf), (qw, .inr (1, [.ref wc, .int (zi wl)])), (wc, aI cI 20 wf), (qt, .inr (1, [.ref tc, .int (zi tl)])), (tc, aI cI 20 tf), (pk, aI cI 12 kf), (pa, aI cI 12 af), (pb, aI cI 12 bf), (pq, aI cI 12 zf), (pw, aI cI 12 wf), (pt, aI cI 20 tf), (h0, .inr (4, [.ref qs, .ref qr, .ref qm, .ref qw, .ref qt, .int (zi we)])), (qs, aI cI 10 sf), (qo, aL cL 1 of), (g0, .inr (5, [.int (zi 1), .ref ps, .int (zi ru), .ref pk, .ref pa, .ref pb, .ref pq, .int (zi we), .int (zi wl), .ref pw, .int (zi tl), .ref pt])), (ps, aI cI 10 sf)] H1 (rf k) (oX3 (kf k) (af k) (bf k) (zf k)) := fun k hk => (hR k hk).join (wc := [(g0, .inr (5, [.int (zi co), .ref ps, .int (zi ru), .ref pk, .ref pa, .ref pb, .ref pq, .int (zi we), .int (zi wl), .ref pw, .int (zi tl), .ref pt])), (ps, aI cI 10 sf)]) (wr := [(qr, .inr (0, [.int (zi mc), .ref qe, .int (zi ru)])), (qe, aR cO cap ef), (qm, .inr (2, [.ref qk, .int (zi fi), .int (zi ln)])), (qk, aI cI 366 mf), (qw, .inr (1, [.ref wc, .int (zi wl)])), (wc, aI cI 20 wf), (qt, .inr (1, [.ref tc, .int (zi tl)])), (tc, aI cI 20 tf), (pk, aI cI 12 kf), (pa, aI cI 12 af), (pb, aI cI 12 bf), (pq, aI cI 12 zf), (pw, aI cI 12 wf), (pt, aI cI 20 tf), (h0, .inr (4, [.ref qs, .ref qr, .ref qm, .ref qw, .ref qt, .int (zi we)])), (qs, aI cI 10 sf), (qo, aL cL 1 of)]) (w1 := [(g0, .inr (5, [.int (zi 1), .ref ps, .int (zi ru), .ref pk, .ref pa, .ref pb, .ref pq, .int (zi we), .int (zi wl), .ref pw, .int (zi tl), .ref pt])), (ps, aI cI 10 sf)]) [8, 9] [0, 1, 2, 3, 4, 5, 6, 7, 10, 11, 12, 13, 14, 15, 16, 17, 18] rfl rfl hz1 hk1 hD1
    obtain ⟨hP, hD⟩ := va_join (wr := [(qr, .inr (0, [.int (zi mc), .ref qe, .int (zi ru)])), (qe, aR cO cap ef), (qm, .inr (2, [.ref qk, .int (zi fi), .int (zi ln)])), (qk, aI cI 366 mf), (qw, .inr (1, [.ref wc, .int (zi wl)])), (wc, aI cI 20 wf), (qt, .inr (1, [.ref tc, .int (zi tl)])), (tc, aI cI 20 tf), (pk, aI cI 12 kf), (pa, aI cI 12 af), (pb, aI cI 12 bf), (pq, aI cI 12 zf), (pw, aI cI 12 wf), (pt, aI cI 20 tf), (h0, .inr (4, [.ref qs, .ref qr, .ref qm, .ref qw, .ref qt, .int (zi we)])), (qs, aI cI 10 sf), (qo, aL cL 1 of)]) (w1 := [(g0, .inr (5, [.int (zi 1), .ref ps, .int (zi ru), .ref pk, .ref pa, .ref pb, .ref pq, .int (zi we), .int (zi wl), .ref pw, .int (zi tl), .ref pt])), (ps, aI cI 10 sf)]) hP hD [8, 9] [0, 1, 2, 3, 4, 5, 6, 7, 10, 11, 12, 13, 14, 15, 16, 17, 18] rfl rfl (by decide) (by decide) hk1 hFc hP1 hD1
    replace hR := hR1
    generalize H1 = H at hP hS hR ⊢
    obtain rfl : r2 = zi 0 := hw
    have hP : va_P (dC, dI) vwCl [(qr, .inr (0, [.int (zi mc), .ref qe, .int (zi ru)])), (qe, aR cO cap ef), (qm, .inr (2, [.ref qk, .int (zi fi), .int (zi ln)])), (qk, aI cI 366 mf), (qw, .inr (1, [.ref wc, .int (zi wl)])), (wc, aI cI 20 wf), (qt, .inr (1, [.ref tc, .int (zi tl)])), (tc, aI cI 20 tf), (pk, aI cI 12 kf), (pa, aI cI 12 af), (pb, aI cI 12 bf), (pq, aI cI 12 zf), (pw, aI cI 12 wf), (pt, aI cI 20 tf), (h0, .inr (4, [.ref qs, .ref qr, .ref qm, .ref qw, .ref qt, .int (zi we)])), (qs, aI cI 10 sf), (qo, aL cL 1 of), (g0, .inr (5, [.int (zi 1), .ref ps, .int (zi ru), .ref pk, .ref pa, .ref pb, .ref pq, .int (zi we), .int (zi wl), .ref pw, .int (zi tl), .ref pt])), (ps, aI cI 10 sf)] H := hP
    have hD : va_D A [(qr, .inr (0, [.int (zi mc), .ref qe, .int (zi ru)])), (qe, aR cO cap ef), (qm, .inr (2, [.ref qk, .int (zi fi), .int (zi ln)])), (qk, aI cI 366 mf), (qw, .inr (1, [.ref wc, .int (zi wl)])), (wc, aI cI 20 wf), (qt, .inr (1, [.ref tc, .int (zi tl)])), (tc, aI cI 20 tf), (pk, aI cI 12 kf), (pa, aI cI 12 af), (pb, aI cI 12 bf), (pq, aI cI 12 zf), (pw, aI cI 12 wf), (pt, aI cI 20 tf), (h0, .inr (4, [.ref qs, .ref qr, .ref qm, .ref qw, .ref qt, .int (zi we)])), (qs, aI cI 10 sf), (qo, aL cL 1 of), (g0, .inr (5, [.int (zi 1), .ref ps, .int (zi ru), .ref pk, .ref pa, .ref pb, .ref pq, .int (zi we), .int (zi wl), .ref pw, .int (zi tl), .ref pt])), (ps, aI cI 10 sf)] := hD
    refine lv_istore (lv' := [(6, .int (zi 0)), (5, .int (zi 1)), (4, .int (zi ii)), (0, .ref b), (1, .ref h0), (2, .ref g0), (3, .ref qo)]) hx hb dL_law_195 hl (by decide) rfl (fun ls hl => ?_)
    refine lv_aload_n hx hb dL_law_197 rfl (lv_at hl 5 rfl) ?_
    have hh3 := c_X5_thrown l dC dI cI g0 ps pk pa pb pq pw pt 1 ru we wl tl sf 
    have hPc := hP.sub (ws' := [(g0, .inr (5, [.int (zi 1), .ref ps, .int (zi ru), .ref pk, .ref pa, .ref pb, .ref pq, .int (zi we), .int (zi wl), .ref pw, .int (zi tl), .ref pt])), (ps, aI cI 10 sf)]) [17, 18] rfl
    have hKc : va_K (dC, dI) vwCl [(cI, .int)] s := hK.sub (tys' := [(cI, .int)]) [0] rfl
    refine vp_callSi (va_Run.run (va_runV (As := []) (rest := []) ⟨hx, hb, hml, hown, hts⟩ hh3 (cwV 0 hts gL_law_X5_thrown rfl rfl rfl (by decide +kernel) ⟨Nat.le_of_ble_eq_true rfl, Nat.le_of_ble_eq_true rfl⟩) ⟨zPr.blind _ _ _ _, va_recv hKc hPc (ci := 5) (q0 := 0) rfl rfl, fun U hU hW => ⟨rfl, by rw [hU]; exact hPc, va_K.moved hW.alike hKc⟩⟩ rfl rfl hl.1 rfl (lv_room (Nat.le_of_ble_eq_true rfl)) dL_law_198 ⟨by show _ ≤ 601024; omega, by show _ ≤ 7293033; omega⟩)) (fun r3 (hr3 : r3 = zi 1) => ?_)
    subst hr3
    refine lv_iload hx hb dL_law_201 (lv_at hl 1 rfl) ?_
    refine zw_icmp_eq (tgt := 208) hx hb dL_law_203 (by decide) ⟨by omega, by omega⟩ ⟨by omega, by omega⟩ (fun h4 => ?_) (fun h4 => ?_)
    · skip
      refine lv_iload hx hb dL_law_208 (lv_at hl 1 rfl) ?_
      refine zw_if_ne (tgt := 225) hx hb dL_law_210 (by decide) ⟨by omega, by omega⟩ (fun h5 => ?_) (fun h5 => ?_)
      · skip
        refine lv_goto (tgt := 1499) hx hb dL_law_225 (by decide) ?_
        have hP9 : va_P (dC, dI) vwCl [(h0, .inr (4, [.ref qs, .ref qr, .ref qm, .ref qw, .ref qt, .int (zi we)])), (qs, aI cI 10 sf), (qr, .inr (0, [.int (zi mc), .ref qe, .int (zi ru)])), (qe, aR cO cap ef), (qm, .inr (2, [.ref qk, .int (zi fi), .int (zi ln)])), (qk, aI cI 366 mf), (qw, .inr (1, [.ref wc, .int (zi wl)])), (wc, aI cI 20 wf), (qt, .inr (1, [.ref tc, .int (zi tl)])), (tc, aI cI 20 tf), (g0, .inr (5, [.int (zi 1), .ref ps, .int (zi ru), .ref pk, .ref pa, .ref pb, .ref pq, .int (zi we), .int (zi wl), .ref pw, .int (zi tl), .ref pt])), (ps, aI cI 10 sf), (pk, aI cI 12 kf), (pa, aI cI 12 af), (pb, aI cI 12 bf), (pq, aI cI 12 zf), (pw, aI cI 12 wf), (pt, aI cI 20 tf), (qo, aL cL 1 of)] H := hP.sub (ws' := [(h0, .inr (4, [.ref qs, .ref qr, .ref qm, .ref qw, .ref qt, .int (zi we)])), (qs, aI cI 10 sf), (qr, .inr (0, [.int (zi mc), .ref qe, .int (zi ru)])), (qe, aR cO cap ef), (qm, .inr (2, [.ref qk, .int (zi fi), .int (zi ln)])), (qk, aI cI 366 mf), (qw, .inr (1, [.ref wc, .int (zi wl)])), (wc, aI cI 20 wf), (qt, .inr (1, [.ref tc, .int (zi tl)])), (tc, aI cI 20 tf), (g0, .inr (5, [.int (zi 1), .ref ps, .int (zi ru), .ref pk, .ref pa, .ref pb, .ref pq, .int (zi we), .int (zi wl), .ref pw, .int (zi tl), .ref pt])), (ps, aI cI 10 sf), (pk, aI cI 12 kf), (pa, aI cI 12 af), (pb, aI cI 12 bf), (pq, aI cI 12 zf), (pw, aI cI 12 wf), (pt, aI cI 20 tf), (qo, aL cL 1 of)]) [14, 15, 0, 1, 2, 3, 4, 5, 6, 7, 17, 18, 8, 9, 10, 11, 12, 13, 16] rfl
        have hD9 : va_D A [(h0, .inr (4, [.ref qs, .ref qr, .ref qm, .ref qw, .ref qt, .int (zi we)])), (qs, aI cI 10 sf), (qr, .inr (0, [.int (zi mc), .ref qe, .int (zi ru)])), (qe, aR cO cap ef), (qm, .inr (2, [.ref qk, .int (zi fi), .int (zi ln)])), (qk, aI cI 366 mf), (qw, .inr (1, [.ref wc, .int (zi wl)])), (wc, aI cI 20 wf), (qt, .inr (1, [.ref tc, .int (zi tl)])), (tc, aI cI 20 tf), (g0, .inr (5, [.int (zi 1), .ref ps, .int (zi ru), .ref pk, .ref pa, .ref pb, .ref pq, .int (zi we), .int (zi wl), .ref pw, .int (zi tl), .ref pt])), (ps, aI cI 10 sf), (pk, aI cI 12 kf), (pa, aI cI 12 af), (pb, aI cI 12 bf), (pq, aI cI 12 zf), (pw, aI cI 12 wf), (pt, aI cI 20 tf), (qo, aL cL 1 of)] := hD.sub (ws' := [(h0, .inr (4, [.ref qs, .ref qr, .ref qm, .ref qw, .ref qt, .int (zi we)])), (qs, aI cI 10 sf), (qr, .inr (0, [.int (zi mc), .ref qe, .int (zi ru)])), (qe, aR cO cap ef), (qm, .inr (2, [.ref qk, .int (zi fi), .int (zi ln)])), (qk, aI cI 366 mf), (qw, .inr (1, [.ref wc, .int (zi wl)])), (wc, aI cI 20 wf), (qt, .inr (1, [.ref tc, .int (zi tl)])), (tc, aI cI 20 tf), (g0, .inr (5, [.int (zi 1), .ref ps, .int (zi ru), .ref pk, .ref pa, .ref pb, .ref pq, .int (zi we), .int (zi wl), .ref pw, .int (zi tl), .ref pt])), (ps, aI cI 10 sf), (pk, aI cI 12 kf), (pa, aI cI 12 af), (pb, aI cI 12 bf), (pq, aI cI 12 zf), (pw, aI cI 12 wf), (pt, aI cI 20 tf), (qo, aL cL 1 of)]) [14, 15, 0, 1, 2, 3, 4, 5, 6, 7, 17, 18, 8, 9, 10, 11, 12, 13, 16] (by decide) rfl
        have hR9 : ∀ k : Nat, (k : Int) < ru → zOut (dC, dI) [(h0, .inr (4, [.ref qs, .ref qr, .ref qm, .ref qw, .ref qt, .int (zi we)])), (qs, aI cI 10 sf), (qr, .inr (0, [.int (zi mc), .ref qe, .int (zi ru)])), (qe, aR cO cap ef), (qm, .inr (2, [.ref qk, .int (zi fi), .int (zi ln)])), (qk, aI cI 366 mf), (qw, .inr (1, [.ref wc, .int (zi wl)])), (wc, aI cI 20 wf), (qt, .inr (1, [.ref tc, .int (zi tl)])), (tc, aI cI 20 tf), (g0, .inr (5, [.int (zi 1), .ref ps, .int (zi ru), .ref pk, .ref pa, .ref pb, .ref pq, .int (zi we), .int (zi wl), .ref pw, .int (zi tl), .ref pt])), (ps, aI cI 10 sf), (pk, aI cI 12 kf), (pa, aI cI 12 af), (pb, aI cI 12 bf), (pq, aI cI 12 zf), (pw, aI cI 12 wf), (pt, aI cI 20 tf), (qo, aL cL 1 of)] H (rf k) (oX3 (kf k) (af k) (bf k) (zf k)) := fun k hk => (hR k hk).sub [14, 15, 0, 1, 2, 3, 4, 5, 6, 7, 17, 18, 8, 9, 10, 11, 12, 13, 16] rfl
        have hQ9 := hQ
        have hEF9 := hEF
        have hI9 : LI sf kf af bf zf wf tf ru we fi ln wl tl := hI
        refine W.widen (k := ce + 2) (n := sn + 19) (by omega) (by omega) ?_
        exact K1 qe cap ef rf mc ru we fi ln mf sf kf af bf zf wl wf tl tf 1 of H locs ls ⟨hP9, hD9, hS, hR9, hQ9, hEF9, hI9⟩ (lv_sub hl [2, 3, 4, 5, 6] rfl)
      · skip
        exact absurd True.intro (by omega)
    · skip
      exact absurd True.intro (by omega)
