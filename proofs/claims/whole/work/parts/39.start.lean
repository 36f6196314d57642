set_option maxHeartbeats 4000000 in
set_option maxRecDepth 100000 in
theorem whole_start {p : Program} {e : Env} {s : State} {m : MethodId} {below : List Frame} {meth : Method} {c : Code} (l : Launch) (hst : l.stackTraces = false) {b L : Nat} {xs : Nat → Int32} (hL : L ≤ 3072) (C0 : lw_At p s m meth c b L xs) : W p l e room_1 s m #[Value.ref b] below meth c s.heap [] 0 0 (lw_Z below #[Value.ref b] s) (entryFrame m ([Value.ref b] : List Value).toArray 7) := by
  obtain ⟨hx, hb, hr, hml, hown, htb, hX, hbl, hlocks, hgv⟩ := id C0
  have hs := flat_of_before _ hgv
  have hts : ∀ w ∈ wsL_law, w.before #[Value.ref b] s = true := fun w hw => htb w (wsL_law_in w hw)
  obtain ⟨A, hAe⟩ : ∃ A : Nat → Prop, A = fun q => s.heap.size ≤ q := ⟨_, rfl⟩
  have hA : ∀ q : Nat, s.heap.size ≤ q → A q := fun q h => by rw [hAe]; exact h
  have hAs : ∀ q : Nat, A q → s.heap.size ≤ q := fun q h => by rw [hAe] at h; exact h
  have hA0 : ∀ a : Nat, a < s.heap.size → ¬ A a := fun a h q => Nat.not_le.mpr h (hAs a q)
  have hbA : ¬ A b := hA0 b hbl
  have hE : zE A s s.heap := ls_zE htb hs hA0
  obtain ⟨qd, mi, hO⟩ := ls_zO (A := A) htb hs hA0
  obtain ⟨x0, v0, x1, v1, x2, v2, qy, h3⟩ := ls_z3 (A := A) htb hs hA0
  obtain ⟨dC, dI, cI, cL, cO, hK⟩ := ls_K htb
  have C : LC p l e s m below meth c b L xs dC dI cI cL cO qd mi x0 v0 x1 v1 x2 v2 qy A := ⟨hx, hb, hml, hown, hts, hst, hK, hE, hO, h3, hX, hbl, hbA, hA, hL⟩
  have hG := hO
  have hS : va_S A s.heap s.heap [] := va_S.rf
  have hP : va_P (dC, dI) vwCl [] s.heap := fun k q h => by simp at h
  have hD : va_D A [] := ⟨fun i j p q h => by simp at h, fun k q h => by simp at h⟩
  have hl := lv_entry ([.ref b]) (n := 7) (Nat.le_of_ble_eq_true rfl)
  rw [lg_entry_eq]
  generalize (lg_sl ([.ref b]) ++ List.replicate (7 - (lg_sl ([.ref b])).length) Slot.unset).toArray = ls at hl ⊢
  have hl : lv_has ls 7 [(0, .ref b)] := hl
  refine va_new (C := RX4) (T := TX4) (N := 6) (ci := 4) (fs := [.null, .null, .null, .null, .null, .int (zi 0)]) hx hb hts (by decide +kernel) tyX4 tyX4_ok hown (hts (.classLink RL 8 RX4) (by decide +kernel)) (hts (.instantiable RX4 6) (by decide +kernel)) (hts (.initialized RX4) (by decide +kernel)) hK hP hD hS hA rfl (by decide +kernel) (Nat.le_of_ble_eq_true rfl) (Nat.le_of_ble_eq_true rfl) dL_law_0 (fun q1 H hP hD hS => ?_)
  have hP : va_P (dC, dI) vwCl [(q1, .inr (4, [.null, .null, .null, .null, .null, .int (zi 0)]))] H := hP
  have hD : va_D A [(q1, .inr (4, [.null, .null, .null, .null, .null, .int (zi 0)]))] := hD
  refine lv_dup hx hb dL_law_3 rfl ?_
  have hh2 := c_Xz_init l dC dI cI q1 qd mi H.size 
  have hPc := hP.sub (ws' := [(q1, .inr (4, [.null, .null, .null, .null, .null, .int (zi 0)]))]) [0] rfl
  have hKc : va_K (dC, dI) vwCl [(cI, .int)] s := hK.sub (tys' := [(cI, .int)]) [0] rfl
  have hDc := hD.sub (ws' := [(q1, .inr (4, [.null, .null, .null, .null, .null, .int (zi 0)]))]) [0] (by decide) rfl
  have hFc := va_free (wc := [(q1, .inr (4, [.null, .null, .null, .null, .null, .int (zi 0)]))]) hD hS hA [0] rfl
  refine va_callv (va_runI (As := []) (rest := [.ref q1]) ⟨hx, hb, hml, hown, hts⟩ hh2 (cwI 0 hts gL_law_X4_init rfl rfl rfl (hts (.initialized RX4) (by decide +kernel)) (hts (.methodLink RL 79 yX4_init) (by decide +kernel)) (hts (.instanceMethod yX4_init) (by decide +kernel)) rfl (by decide +kernel) ⟨Nat.le_of_ble_eq_true rfl, Nat.le_of_ble_eq_true rfl⟩) ⟨zPwF.blind _ _ _ _ _ zO2_ok, fun U hU hW => ⟨rfl, by rw [hU], by rw [hU]; exact hPc, va_K.moved hW.alike hKc, hDc.weaken (fun _ _ _ _ => trivial), zF.call zO2_ok hG hS hFc hU hW⟩⟩ rfl rfl hl.1 rfl (lv_room (Nat.le_of_ble_eq_true rfl)) dL_law_4 ⟨Nat.le_of_ble_eq_true rfl, Nat.le_of_ble_eq_true rfl⟩) hS (fun q _ h => hFc q h) hFc (fun u t H1 locs ht hvm hw hB hz1 hk1 hS => ?_)
  obtain ⟨sg_3, qs_3, qr_3, qm_3, qw_3, qt_3, qk_3, wc_3, tc_3⟩ := u
  have hw2 := hw
  replace hw2 : ∀ j : Nat, sg_3 j = if j < 10 then (-1) else 0 := hw2
  have hwc := hw2
  obtain ⟨hP1, hK1, hD1⟩ := hB
  rw [ht] at hP1
  replace hP1 : va_P (dC, dI) vwCl [(q1, .inr (4, [.ref qs_3, .ref qr_3, .ref qm_3, .ref qw_3, .ref qt_3, .int (zi 96)])), (qs_3, aI cI 10 sg_3), (qr_3, .inr (0, [.int (zi 1), .ref qd, .int (zi 0)])), (qm_3, .inr (2, [.ref qk_3, .int (zi 0), .int (zi 0)])), (qk_3, aI cI 366 (fun _ => 0)), (qw_3, .inr (1, [.ref wc_3, .int (zi 0)])), (wc_3, aI cI 20 (fun _ => 0)), (qt_3, .inr (1, [.ref tc_3, .int (zi 0)])), (tc_3, aI cI 20 (fun _ => 0))] H1 := hP1
  replace hD1 : va_D _ [(q1, .inr (4, [.ref qs_3, .ref qr_3, .ref qm_3, .ref qw_3, .ref qt_3, .int (zi 96)])), (qs_3, aI cI 10 sg_3), (qr_3, .inr (0, [.int (zi 1), .ref qd, .int (zi 0)])), (qm_3, .inr (2, [.ref qk_3, .int (zi 0), .int (zi 0)])), (qk_3, aI cI 366 (fun _ => 0)), (qw_3, .inr (1, [.ref wc_3, .int (zi 0)])), (wc_3, aI cI 20 (fun _ => 0)), (qt_3, .inr (1, [.ref tc_3, .int (zi 0)])), (tc_3, aI cI 20 (fun _ => 0))] := hD1
  obtain ⟨hP, hD⟩ := va_join (wr := []) (w1 := [(q1, .inr (4, [.ref qs_3, .ref qr_3, .ref qm_3, .ref qw_3, .ref qt_3, .int (zi 96)])), (qs_3, aI cI 10 sg_3), (qr_3, .inr (0, [.int (zi 1), .ref qd, .int (zi 0)])), (qm_3, .inr (2, [.ref qk_3, .int (zi 0), .int (zi 0)])), (qk_3, aI cI 366 (fun _ => 0)), (qw_3, .inr (1, [.ref wc_3, .int (zi 0)])), (wc_3, aI cI 20 (fun _ => 0)), (qt_3, .inr (1, [.ref tc_3, .int (zi 0)])), (tc_3, aI cI 20 (fun _ => 0))]) hP hD [0] [] rfl rfl (by decide) (by decide) hk1 hFc hP1 hD1
  generalize H1 = H at hP hS ⊢
  have hP : va_P (dC, dI) vwCl [(q1, .inr (4, [.ref qs_3, .ref qr_3, .ref qm_3, .ref qw_3, .ref qt_3, .int (zi 96)])), (qs_3, aI cI 10 sg_3), (qr_3, .inr (0, [.int (zi 1), .ref qd, .int (zi 0)])), (qm_3, .inr (2, [.ref qk_3, .int (zi 0), .int (zi 0)])), (qk_3, aI cI 366 (fun _ => 0)), (qw_3, .inr (1, [.ref wc_3, .int (zi 0)])), (wc_3, aI cI 20 (fun _ => 0)), (qt_3, .inr (1, [.ref tc_3, .int (zi 0)])), (tc_3, aI cI 20 (fun _ => 0))] H := hP
  have hD : va_D A [(q1, .inr (4, [.ref qs_3, .ref qr_3, .ref qm_3, .ref qw_3, .ref qt_3, .int (zi 96)])), (qs_3, aI cI 10 sg_3), (qr_3, .inr (0, [.int (zi 1), .ref qd, .int (zi 0)])), (qm_3, .inr (2, [.ref qk_3, .int (zi 0), .int (zi 0)])), (qk_3, aI cI 366 (fun _ => 0)), (qw_3, .inr (1, [.ref wc_3, .int (zi 0)])), (wc_3, aI cI 20 (fun _ => 0)), (qt_3, .inr (1, [.ref tc_3, .int (zi 0)])), (tc_3, aI cI 20 (fun _ => 0))] := hD
  refine lv_astore_n (lv' := [(1, .ref q1), (0, .ref b)]) hx hb dL_law_7 rfl hl (by decide) rfl (fun ls hl => ?_)
  refine va_new (C := RX5) (T := TX5) (N := 12) (ci := 5) (fs := [.int (zi 0), .null, .int (zi 0), .null, .null, .null, .null, .int (zi 0), .int (zi 0), .null, .int (zi 0), .null]) hx hb hts (by decide +kernel) tyX5 tyX5_ok hown (hts (.classLink RL 80 RX5) (by decide +kernel)) (hts (.instantiable RX5 12) (by decide +kernel)) (hts (.initialized RX5) (by decide +kernel)) hK hP hD hS hA rfl (by decide +kernel) (Nat.le_of_ble_eq_true rfl) (Nat.le_of_ble_eq_true rfl) dL_law_8 (fun q4 H hP hD hS => ?_)
  have hP : va_P (dC, dI) vwCl [(q1, .inr (4, [.ref qs_3, .ref qr_3, .ref qm_3, .ref qw_3, .ref qt_3, .int (zi 96)])), (qs_3, aI cI 10 sg_3), (qr_3, .inr (0, [.int (zi 1), .ref qd, .int (zi 0)])), (qm_3, .inr (2, [.ref qk_3, .int (zi 0), .int (zi 0)])), (qk_3, aI cI 366 (fun _ => 0)), (qw_3, .inr (1, [.ref wc_3, .int (zi 0)])), (wc_3, aI cI 20 (fun _ => 0)), (qt_3, .inr (1, [.ref tc_3, .int (zi 0)])), (tc_3, aI cI 20 (fun _ => 0)), (q4, .inr (5, [.int (zi 0), .null, .int (zi 0), .null, .null, .null, .null, .int (zi 0), .int (zi 0), .null, .int (zi 0), .null]))] H := hP
  have hD : va_D A [(q1, .inr (4, [.ref qs_3, .ref qr_3, .ref qm_3, .ref qw_3, .ref qt_3, .int (zi 96)])), (qs_3, aI cI 10 sg_3), (qr_3, .inr (0, [.int (zi 1), .ref qd, .int (zi 0)])), (qm_3, .inr (2, [.ref qk_3, .int (zi 0), .int (zi 0)])), (qk_3, aI cI 366 (fun _ => 0)), (qw_3, .inr (1, [.ref wc_3, .int (zi 0)])), (wc_3, aI cI 20 (fun _ => 0)), (qt_3, .inr (1, [.ref tc_3, .int (zi 0)])), (tc_3, aI cI 20 (fun _ => 0)), (q4, .inr (5, [.int (zi 0), .null, .int (zi 0), .null, .null, .null, .null, .int (zi 0), .int (zi 0), .null, .int (zi 0), .null]))] := hD
  refine lv_dup hx hb dL_law_11 rfl ?_
  have hh5 := c_X5_init l dC dI cI q4 H.size 
  have hPc := hP.sub (ws' := [(q4, .inr (5, [.int (zi 0), .null, .int (zi 0), .null, .null, .null, .null, .int (zi 0), .int (zi 0), .null, .int (zi 0), .null]))]) [9] rfl
  have hKc : va_K (dC, dI) vwCl [(cI, .int)] s := hK.sub (tys' := [(cI, .int)]) [0] rfl
  have hDc := hD.sub (ws' := [(q4, .inr (5, [.int (zi 0), .null, .int (zi 0), .null, .null, .null, .null, .int (zi 0), .int (zi 0), .null, .int (zi 0), .null]))]) [9] (by decide) rfl
  have hFc := va_free (wc := [(q4, .inr (5, [.int (zi 0), .null, .int (zi 0), .null, .null, .null, .null, .int (zi 0), .int (zi 0), .null, .int (zi 0), .null]))]) hD hS hA [9] rfl
  refine va_callv (va_runI (As := []) (rest := [.ref q4]) ⟨hx, hb, hml, hown, hts⟩ hh5 (cwI 0 hts gL_law_X5_init rfl rfl rfl (hts (.initialized RX5) (by decide +kernel)) (hts (.methodLink RL 82 yX5_init) (by decide +kernel)) (hts (.instanceMethod yX5_init) (by decide +kernel)) rfl (by decide +kernel) ⟨Nat.le_of_ble_eq_true rfl, Nat.le_of_ble_eq_true rfl⟩) ⟨zPw.blind _ _ _ _ _, fun U hU hW => ⟨rfl, by rw [hU], by rw [hU]; exact hPc, va_K.moved hW.alike hKc, hDc.weaken (fun _ _ _ _ => trivial)⟩⟩ rfl rfl hl.1 rfl (lv_room (Nat.le_of_ble_eq_true rfl)) dL_law_12 ⟨Nat.le_of_ble_eq_true rfl, Nat.le_of_ble_eq_true rfl⟩) hS (fun q _ h => hFc q h) hFc (fun u t H1 locs ht hvm hw hB hz1 hk1 hS => ?_)
  obtain ⟨sg_6, ps_6, pk_6, pa_6, pb_6, pq_6, pw_6, pt_6⟩ := u
  have hw5 := hw
  replace hw5 : ∀ j : Nat, sg_6 j = if j < 10 then (-1) else 0 := hw5
  have hwm := hw5
  obtain ⟨hP1, hK1, hD1⟩ := hB
  rw [ht] at hP1
  replace hP1 : va_P (dC, dI) vwCl [(q4, .inr (5, [.int (zi 0), .ref ps_6, .int (zi 0), .ref pk_6, .ref pa_6, .ref pb_6, .ref pq_6, .int (zi 96), .int (zi 0), .ref pw_6, .int (zi 0), .ref pt_6])), (ps_6, aI cI 10 sg_6), (pk_6, aI cI 12 (fun _ => 0)), (pa_6, aI cI 12 (fun _ => 0)), (pb_6, aI cI 12 (fun _ => 0)), (pq_6, aI cI 12 (fun _ => 0)), (pw_6, aI cI 12 (fun _ => 0)), (pt_6, aI cI 20 (fun _ => 0))] H1 := hP1
  replace hD1 : va_D _ [(q4, .inr (5, [.int (zi 0), .ref ps_6, .int (zi 0), .ref pk_6, .ref pa_6, .ref pb_6, .ref pq_6, .int (zi 96), .int (zi 0), .ref pw_6, .int (zi 0), .ref pt_6])), (ps_6, aI cI 10 sg_6), (pk_6, aI cI 12 (fun _ => 0)), (pa_6, aI cI 12 (fun _ => 0)), (pb_6, aI cI 12 (fun _ => 0)), (pq_6, aI cI 12 (fun _ => 0)), (pw_6, aI cI 12 (fun _ => 0)), (pt_6, aI cI 20 (fun _ => 0))] := hD1
  obtain ⟨hP, hD⟩ := va_join (wr := [(q1, .inr (4, [.ref qs_3, .ref qr_3, .ref qm_3, .ref qw_3, .ref qt_3, .int (zi 96)])), (qs_3, aI cI 10 sg_3), (qr_3, .inr (0, [.int (zi 1), .ref qd, .int (zi 0)])), (qm_3, .inr (2, [.ref qk_3, .int (zi 0), .int (zi 0)])), (qk_3, aI cI 366 (fun _ => 0)), (qw_3, .inr (1, [.ref wc_3, .int (zi 0)])), (wc_3, aI cI 20 (fun _ => 0)), (qt_3, .inr (1, [.ref tc_3, .int (zi 0)])), (tc_3, aI cI 20 (fun _ => 0))]) (w1 := [(q4, .inr (5, [.int (zi 0), .ref ps_6, .int (zi 0), .ref pk_6, .ref pa_6, .ref pb_6, .ref pq_6, .int (zi 96), .int (zi 0), .ref pw_6, .int (zi 0), .ref pt_6])), (ps_6, aI cI 10 sg_6), (pk_6, aI cI 12 (fun _ => 0)), (pa_6, aI cI 12 (fun _ => 0)), (pb_6, aI cI 12 (fun _ => 0)), (pq_6, aI cI 12 (fun _ => 0)), (pw_6, aI cI 12 (fun _ => 0)), (pt_6, aI cI 20 (fun _ => 0))]) hP hD [9] [0, 1, 2, 3, 4, 5, 6, 7, 8] rfl rfl (by decide) (by decide) hk1 hFc hP1 hD1
  generalize H1 = H at hP hS ⊢
  have hP : va_P (dC, dI) vwCl [(q1, .inr (4, [.ref qs_3, .ref qr_3, .ref qm_3, .ref qw_3, .ref qt_3, .int (zi 96)])), (qs_3, aI cI 10 sg_3), (qr_3, .inr (0, [.int (zi 1), .ref qd, .int (zi 0)])), (qm_3, .inr (2, [.ref qk_3, .int (zi 0), .int (zi 0)])), (qk_3, aI cI 366 (fun _ => 0)), (qw_3, .inr (1, [.ref wc_3, .int (zi 0)])), (wc_3, aI cI 20 (fun _ => 0)), (qt_3, .inr (1, [.ref tc_3, .int (zi 0)])), (tc_3, aI cI 20 (fun _ => 0)), (q4, .inr (5, [.int (zi 0), .ref ps_6, .int (zi 0), .ref pk_6, .ref pa_6, .ref pb_6, .ref pq_6, .int (zi 96), .int (zi 0), .ref pw_6, .int (zi 0), .ref pt_6])), (ps_6, aI cI 10 sg_6), (pk_6, aI cI 12 (fun _ => 0)), (pa_6, aI cI 12 (fun _ => 0)), (pb_6, aI cI 12 (fun _ => 0)), (pq_6, aI cI 12 (fun _ => 0)), (pw_6, aI cI 12 (fun _ => 0)), (pt_6, aI cI 20 (fun _ => 0))] H := hP
  have hD : va_D A [(q1, .inr (4, [.ref qs_3, .ref qr_3, .ref qm_3, .ref qw_3, .ref qt_3, .int (zi 96)])), (qs_3, aI cI 10 sg_3), (qr_3, .inr (0, [.int (zi 1), .ref qd, .int (zi 0)])), (qm_3, .inr (2, [.ref qk_3, .int (zi 0), .int (zi 0)])), (qk_3, aI cI 366 (fun _ => 0)), (qw_3, .inr (1, [.ref wc_3, .int (zi 0)])), (wc_3, aI cI 20 (fun _ => 0)), (qt_3, .inr (1, [.ref tc_3, .int (zi 0)])), (tc_3, aI cI 20 (fun _ => 0)), (q4, .inr (5, [.int (zi 0), .ref ps_6, .int (zi 0), .ref pk_6, .ref pa_6, .ref pb_6, .ref pq_6, .int (zi 96), .int (zi 0), .ref pw_6, .int (zi 0), .ref pt_6])), (ps_6, aI cI 10 sg_6), (pk_6, aI cI 12 (fun _ => 0)), (pa_6, aI cI 12 (fun _ => 0)), (pb_6, aI cI 12 (fun _ => 0)), (pq_6, aI cI 12 (fun _ => 0)), (pw_6, aI cI 12 (fun _ => 0)), (pt_6, aI cI 20 (fun _ => 0))] := hD
  refine lv_astore_n (lv' := [(2, .ref q4), (1, .ref q1), (0, .ref b)]) hx hb dL_law_15 rfl hl (by decide) rfl (fun ls hl => ?_)
  refine zw_iconst hx hb dL_law_16 ?_
  refine zw_newL (N9 := 1) hx hb (hts (.arrayClass .long) (by decide +kernel)) hK hP hD hS hA rfl (Nat.le_of_ble_eq_true rfl) (Nat.le_of_ble_eq_true rfl) (Nat.le_of_ble_eq_true rfl) dL_law_17 (fun q7 cA7 H hKn hP hD hS => ?_)
  obtain rfl : cL = cA7 := zK_same hKn 1 3 rfl rfl
  have hP : va_P (dC, dI) vwCl [(q1, .inr (4, [.ref qs_3, .ref qr_3, .ref qm_3, .ref qw_3, .ref qt_3, .int (zi 96)])), (qs_3, aI cI 10 sg_3), (qr_3, .inr (0, [.int (zi 1), .ref qd, .int (zi 0)])), (qm_3, .inr (2, [.ref qk_3, .int (zi 0), .int (zi 0)])), (qk_3, aI cI 366 (fun _ => 0)), (qw_3, .inr (1, [.ref wc_3, .int (zi 0)])), (wc_3, aI cI 20 (fun _ => 0)), (qt_3, .inr (1, [.ref tc_3, .int (zi 0)])), (tc_3, aI cI 20 (fun _ => 0)), (q4, .inr (5, [.int (zi 0), .ref ps_6, .int (zi 0), .ref pk_6, .ref pa_6, .ref pb_6, .ref pq_6, .int (zi 96), .int (zi 0), .ref pw_6, .int (zi 0), .ref pt_6])), (ps_6, aI cI 10 sg_6), (pk_6, aI cI 12 (fun _ => 0)), (pa_6, aI cI 12 (fun _ => 0)), (pb_6, aI cI 12 (fun _ => 0)), (pq_6, aI cI 12 (fun _ => 0)), (pw_6, aI cI 12 (fun _ => 0)), (pt_6, aI cI 20 (fun _ => 0)), (q7, aL cL 1 (fun _ => 0))] H := hP
  have hD : va_D A [(q1, .inr (4, [.ref qs_3, .ref qr_3, .ref qm_3, .ref qw_3, .ref qt_3, .int (zi 96)])), (qs_3, aI cI 10 sg_3), (qr_3, .inr (0, [.int (zi 1), .ref qd, .int (zi 0)])), (qm_3, .inr (2, [.ref qk_3, .int (zi 0), .int (zi 0)])), (qk_3, aI cI 366 (fun _ => 0)), (qw_3, .inr (1, [.ref wc_3, .int (zi 0)])), (wc_3, aI cI 20 (fun _ => 0)), (qt_3, .inr (1, [.ref tc_3, .int (zi 0)])), (tc_3, aI cI 20 (fun _ => 0)), (q4, .inr (5, [.int (zi 0), .ref ps_6, .int (zi 0), .ref pk_6, .ref pa_6, .ref pb_6, .ref pq_6, .int (zi 96), .int (zi 0), .ref pw_6, .int (zi 0), .ref pt_6])), (ps_6, aI cI 10 sg_6), (pk_6, aI cI 12 (fun _ => 0)), (pa_6, aI cI 12 (fun _ => 0)), (pb_6, aI cI 12 (fun _ => 0)), (pq_6, aI cI 12 (fun _ => 0)), (pw_6, aI cI 12 (fun _ => 0)), (pt_6, aI cI 20 (fun _ => 0)), (q7, aL cL 1 (fun _ => 0))] := hD
  refine lv_astore_n (lv' := [(3, .ref q7), (2, .ref q4), (1, .ref q1), (0, .ref b)]) hx hb dL_law_19 rfl hl (by decide) rfl (fun ls hl => ?_)
  refine zw_iconst hx hb dL_law_20 ?_
  refine lv_istore (lv' := [(4, .int (zi 0)), (3, .ref q7), (2, .ref q4), (1, .ref q1), (0, .ref b)]) hx hb dL_law_21 hl (by decide) rfl (fun ls hl => ?_)
  have hP9 : va_P (dC, dI) vwCl [(q1, .inr (4, [.ref qs_3, .ref qr_3, .ref qm_3, .ref qw_3, .ref qt_3, .int (zi 96)])), (qs_3, aI cI 10 sg_3), (qr_3, .inr (0, [.int (zi 1), .ref qd, .int (zi 0)])), (qm_3, .inr (2, [.ref qk_3, .int (zi 0), .int (zi 0)])), (qk_3, aI cI 366 (fun _ => 0)), (qw_3, .inr (1, [.ref wc_3, .int (zi 0)])), (wc_3, aI cI 20 (fun _ => 0)), (qt_3, .inr (1, [.ref tc_3, .int (zi 0)])), (tc_3, aI cI 20 (fun _ => 0)), (q4, .inr (5, [.int (zi 0), .ref ps_6, .int (zi 0), .ref pk_6, .ref pa_6, .ref pb_6, .ref pq_6, .int (zi 96), .int (zi 0), .ref pw_6, .int (zi 0), .ref pt_6])), (ps_6, aI cI 10 sg_6), (pk_6, aI cI 12 (fun _ => 0)), (pa_6, aI cI 12 (fun _ => 0)), (pb_6, aI cI 12 (fun _ => 0)), (pq_6, aI cI 12 (fun _ => 0)), (pw_6, aI cI 12 (fun _ => 0)), (pt_6, aI cI 20 (fun _ => 0)), (q7, aL cL 1 (fun _ => 0))] H := hP.sub (ws' := [(q1, .inr (4, [.ref qs_3, .ref qr_3, .ref qm_3, .ref qw_3, .ref qt_3, .int (zi 96)])), (qs_3, aI cI 10 sg_3), (qr_3, .inr (0, [.int (zi 1), .ref qd, .int (zi 0)])), (qm_3, .inr (2, [.ref qk_3, .int (zi 0), .int (zi 0)])), (qk_3, aI cI 366 (fun _ => 0)), (qw_3, .inr (1, [.ref wc_3, .int (zi 0)])), (wc_3, aI cI 20 (fun _ => 0)), (qt_3, .inr (1, [.ref tc_3, .int (zi 0)])), (tc_3, aI cI 20 (fun _ => 0)), (q4, .inr (5, [.int (zi 0), .ref ps_6, .int (zi 0), .ref pk_6, .ref pa_6, .ref pb_6, .ref pq_6, .int (zi 96), .int (zi 0), .ref pw_6, .int (zi 0), .ref pt_6])), (ps_6, aI cI 10 sg_6), (pk_6, aI cI 12 (fun _ => 0)), (pa_6, aI cI 12 (fun _ => 0)), (pb_6, aI cI 12 (fun _ => 0)), (pq_6, aI cI 12 (fun _ => 0)), (pw_6, aI cI 12 (fun _ => 0)), (pt_6, aI cI 20 (fun _ => 0)), (q7, aL cL 1 (fun _ => 0))]) [0, 1, 2, 3, 4, 5, 6, 7, 8, 9, 10, 11, 12, 13, 14, 15, 16, 17] rfl
  have hD9 : va_D A [(q1, .inr (4, [.ref qs_3, .ref qr_3, .ref qm_3, .ref qw_3, .ref qt_3, .int (zi 96)])), (qs_3, aI cI 10 sg_3), (qr_3, .inr (0, [.int (zi 1), .ref qd, .int (zi 0)])), (qm_3, .inr (2, [.ref qk_3, .int (zi 0), .int (zi 0)])), (qk_3, aI cI 366 (fun _ => 0)), (qw_3, .inr (1, [.ref wc_3, .int (zi 0)])), (wc_3, aI cI 20 (fun _ => 0)), (qt_3, .inr (1, [.ref tc_3, .int (zi 0)])), (tc_3, aI cI 20 (fun _ => 0)), (q4, .inr (5, [.int (zi 0), .ref ps_6, .int (zi 0), .ref pk_6, .ref pa_6, .ref pb_6, .ref pq_6, .int (zi 96), .int (zi 0), .ref pw_6, .int (zi 0), .ref pt_6])), (ps_6, aI cI 10 sg_6), (pk_6, aI cI 12 (fun _ => 0)), (pa_6, aI cI 12 (fun _ => 0)), (pb_6, aI cI 12 (fun _ => 0)), (pq_6, aI cI 12 (fun _ => 0)), (pw_6, aI cI 12 (fun _ => 0)), (pt_6, aI cI 20 (fun _ => 0)), (q7, aL cL 1 (fun _ => 0))] := hD.sub (ws' := [(q1, .inr (4, [.ref qs_3, .ref qr_3, .ref qm_3, .ref qw_3, .ref qt_3, .int (zi 96)])), (qs_3, aI cI 10 sg_3), (qr_3, .inr (0, [.int (zi 1), .ref qd, .int (zi 0)])), (qm_3, .inr (2, [.ref qk_3, .int (zi 0), .int (zi 0)])), (qk_3, aI cI 366 (fun _ => 0)), (qw_3, .inr (1, [.ref wc_3, .int (zi 0)])), (wc_3, aI cI 20 (fun _ => 0)), (qt_3, .inr (1, [.ref tc_3, .int (zi 0)])), (tc_3, aI cI 20 (fun _ => 0)), (q4, .inr (5, [.int (zi 0), .ref ps_6, .int (zi 0), .ref pk_6, .ref pa_6, .ref pb_6, .ref pq_6, .int (zi 96), .int (zi 0), .ref pw_6, .int (zi 0), .ref pt_6])), (ps_6, aI cI 10 sg_6), (pk_6, aI cI 12 (fun _ => 0)), (pa_6, aI cI 12 (fun _ => 0)), (pb_6, aI cI 12 (fun _ => 0)), (pq_6, aI cI 12 (fun _ => 0)), (pw_6, aI cI 12 (fun _ => 0)), (pt_6, aI cI 20 (fun _ => 0)), (q7, aL cL 1 (fun _ => 0))]) [0, 1, 2, 3, 4, 5, 6, 7, 8, 9, 10, 11, 12, 13, 14, 15, 16, 17] (by decide) rfl
  have hcv0 : sg_6 = sg_3 := by
    funext j
    rw [hwm j, hwc j]
  rw [hcv0] at hP9 hD9
  have hI9 : LI sg_3 (fun _ => 0) (fun _ => 0) (fun _ => 0) (fun _ => 0) (fun _ => 0) (fun _ => 0) 0 96 0 0 0 0 := LI.mk9 (fun j => by rw [hwc j]; split <;> omega) (by omega) (fun j hj => absurd hj (by omega)) (by omega) (by omega) (by omega) (fun j => by omega) (by omega) (fun j => by omega)
  refine W.widen (k := 100) (n := 2000) (Nat.le_of_ble_eq_true rfl) (Nat.le_of_ble_eq_true rfl) ?_
  exact (law_loop (h0 := q1) (qs := qs_3) (qr := qr_3) (qm := qm_3) (qw := qw_3) (qt := qt_3) (qk := qk_3) (wc := wc_3) (tc := tc_3) (g0 := q4) (ps := ps_6) (pk := pk_6) (pa := pa_6) (pb := pb_6) (pq := pq_6) (pw := pw_6) (pt := pt_6) (qo := q7) hr hlocks hAs C 3100).2 1 96 0 0 (fun _ => 0) sg_3 (fun _ => 0) (fun _ => 0) (fun _ => 0) (fun _ => 0) 0 (fun _ => 0) 0 (fun _ => 0) 0 (fun _ => 0) 0 100 2000 H locs ls ⟨hP9, hD9, hS, hI9⟩ (by omega) (by omega) (by omega) (by omega) (by omega) (lv_sub hl [0, 4, 3, 2, 1] rfl)

theorem lw_st {l : Launch} (hf : l.flags = flags0) : l.stackTraces = false := by
  unfold Launch.stackTraces
  rw [hf]
  decide

set_option maxHeartbeats 4000000 in
theorem lw_walk (l : Launch) (hst : l.stackTraces = false) (b : Addr) (xs : List Int32) : MetFree l x (headSpec (Jvm.Cond.code x code maxLocals ret :: tables_1) room_1) (lw_P b xs) (fun _ _ _ _ _ => True) lw_Q := by
  refine MetFree.of_bodyS (code := code) (maxLocals := maxLocals) (ret := ret) (by decide) ?_ ?_
  · intro args s m h hn
    obtain ⟨meth, c, h1, h2, h3, h4, h5, h6, -, -⟩ := Cond.code_spec hn (atoms_spec (ws := Jvm.Cond.code x code maxLocals ret :: tables_1) h _ List.mem_cons_self)
    exact ⟨meth, c, h1, h2, h3, h4, h5, h6⟩
  · intro p e s m args below meth c s₁ B hml0 hP _
    obtain ⟨rfl, hx, hbd, hgv⟩ := hP
    obtain ⟨scr, harrAt, hlist, hof, hsmall⟩ := hx
    obtain ⟨hcb, hkn, -, -⟩ := State.arrayAt?_spec harrAt
    have hown : s.vm.findClass R_law = some m.cls := findClass_of_methodNamed B.named
    have hts0 : ∀ c ∈ (Jvm.Cond.code x code maxLocals ret :: tables_1), c.before #[Value.ref b] s = true := atoms_spec (ws := Jvm.Cond.code x code maxLocals ret :: tables_1) B.pre
    have hts : ∀ w ∈ lw_tbl, w.before #[Value.ref b] s = true := k2_hts_sels lw_privs (fun w hw => hts0 w (List.mem_cons_of_mem _ hw)) lw_privs_ok
    have hml : c.maxLocals = 7 := B.maxLocals_eq (hts0 _ List.mem_cons_self)
    have X₀ : Stand p l e room_1 s m #[Value.ref b] below meth c s₁ [] 0 0 := Stand.of_body B
    have hh0 : s₁.heap = s.heap := by rw [B.state]; rfl
    have hsz : scr.slots.size = xs.length := by rw [← Array.length_toList, hlist, List.length_map]
    have hval : ∀ j : Nat, j < xs.length → scr.slots[j]? = some (.int (xs.getD j 0)) := fun j hj => by
      rw [← Array.getElem?_toList, hlist]
      simp [hj]
    have hbl : b < s.heap.size := (Array.getElem?_eq_some_iff.mp hcb).1
    have hX : va_X b xs.length (fun j => xs.getD j 0) s s.heap := ⟨scr, hcb, hof, hkn, hsz, hval⟩
    have K : W p l e room_1 s m #[Value.ref b] below meth c s₁.heap [] 0 0 (lw_Z below #[Value.ref b] s) (entryFrame m ([Value.ref b] : List Value).toArray 7) := by
      rw [hh0]
      exact whole_start l hst hbd ⟨B.exec, B.bytes, B.returns, hml, hown, hts, hX, hbl, B.notSynchronized, hgv⟩
    obtain ⟨t, a1, o, b1, b2, b3⟩ := K s₁ rfl X₀
    exact ⟨t, o, a1, b1, b2, b3⟩
theorem lw_pre_spec {args : Array Value} {s : State} (h : (Jvm.Cond.and given_1 narrow_1).before args s = true) (hr : rest_1_c.before args s = true) : ∃ (b : Addr) (xs : List Int32), lw_P b xs args s := by
  have hs := flat_of_before _ h
  have hq := flat_of_before _ hr
  have hc : (Cond.count 1).before args s = true := hs _ (by decide +kernel)
  have harr : (Cond.arrayOf (.arg 0) .int).before args s = true := hs _ (by decide +kernel)
  have hle : (Cond.le (.length (.arg 0)) (.int 3072)).before args s = true := hs _ (by decide +kernel)
  have hlen : (Cond.isInt (.length (.arg 0))).before args s = true := hq _ (by decide +kernel)
  have hall : (Cond.all (.arg 0) (.isInt (.elem (.arg 0) (.index 0)))).before args s = true := hq _ (by decide +kernel)
  obtain ⟨b, xs, hb, hx⟩ := State.ints_of_pre rfl harr hlen hall
  have hsm : xs.length < 2 ^ 31 := hx.choose_spec.2.2.2
  have hev : (Term.length (.arg 0)).eval args s none [] s = some (.int xs.length.toInt32) := hx.length_eval hb
  have hv := Cond.le_ints hev (show (Term.int 3072).eval args s none [] s = some (.int 3072) from rfl)
  have hd : xs.length.toInt32 ≤ 3072 := by
    simpa [Cond.before, Cond.holds, hv] using hle
  have hN : xs.length ≤ 3072 := (Int32.ofNat_le_ofNat hsm (by decide)).mp (show Int32.ofNat xs.length ≤ Int32.ofNat 3072 from hd)
  exact ⟨b, xs, Cond.one_arg hc (show args[0]? = some (.ref b) from hb), hx, hN, h⟩
theorem lw_comes (l : Launch) (hst : l.stackTraces = false) : Comes l x (Jvm.Cond.code x code maxLocals ret :: tables_1) room_1 (fun tb e args s => Calls_1 tb e args s ∧ rest_1 tb e args s ∧ Pre_1 tb e args s)
    (fun _ _ args s o t => lw_Q args s o t) := by
  intro p e ha hc hk s m args below hf hfit hheap happ hpre
  obtain ⟨b, xs, hP⟩ := lw_pre_spec hpre.2.2 hpre.2.1
  obtain ⟨k, o, h1, h2, h3, hQ⟩ := lw_walk l hst b xs p e ha hc hk s m args below hf ((Spec.applies_iff_loose hf).mp happ).1 hP trivial
  exact ⟨k, o, h1, h2, h3, hQ⟩
theorem lw_frame {s t : State} {o : Outcome} {args : Array Value} (h : Framed s o t [] 601024 7293033) :
    Framed s o t (fieldLocs frame_1_writes args s ++ arrayLocs frame_1_arrays args s ++ staticLocs frame_1_statics s) 601024 7293033 := h
theorem lw_limb (L : Cond) (hL : ∀ (args : Array Value) (s t : State), L.after args s (.returned (some (.int 1))) t = true) :
    ArmFor flags0 classFile x code maxLocals ret World_1 tables_1 room_1 Calls_1 rest_1 Pre_1
      (fun tb e a s o t => postC L tb e a s o t ∧ Framed s o t (fieldLocs frame_1_writes a s ++ arrayLocs frame_1_arrays a s ++ staticLocs frame_1_statics s) 601024 7293033) := by
  intro l hfl _ _ p e ha hc hk s m args below hf hfit hheap happ hpre
  obtain ⟨k, o, h1, h2, h3, rfl, hF⟩ := lw_comes l (lw_st hfl) p e ha hc hk s m args below hf hfit hheap happ hpre
  exact ⟨k, _, h1, h2, h3, hL args s _, lw_frame hF⟩
theorem i_vc : Claimed_1_1 ∧ Claimed_1_2 := ⟨lw_limb limb_1_1 (fun args s t => by simp [limb_1_1, Cond.after, Cond.holds, Cond.value]), lw_limb limb_1_2 (fun args s t => Cond.after_iff.mpr (by
  first | (rw [show limb_1_2 = Cond.eq .result (.int 1) from rfl, Cond.eq_ints (x := 1) (y := 1) rfl rfl]; simp; done) | (simp [limb_1_2, Cond.value, Term.eval]; done)))⟩
