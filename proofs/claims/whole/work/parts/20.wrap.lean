set_option maxHeartbeats 4000000 in
set_option maxRecDepth 100000 in
theorem c_L_civil_1 (l : Launch) (hst : l.stackTraces = false) (dC : Nat → ClassId) (dI : Nat → Nat → Nat) (cI : ClassId) (cL : ClassId) (h0 : Nat) (qs : Nat) (qr : Nat) (qm : Nat) (qw : Nat) (qt : Nat) (we : Int) (sf : Nat → Int) (qo : Nat) (of : Nat → Int) (sl : Int) (ya : Int) (mo : Int) (da : Int) (sz : Nat) (hp0 : -2147483648 ≤ sl ∧ sl ≤ 2147483647) (hp1 : sl < 0 ∨ 9 < sl) : Met l yL_civil wsL_civil ({ frames := 8, cells := 1, slots := 6, locals := 134 }) (zPx (dC, dI) [(cI, .int), (cL, .long)] sz [.ref h0, .int (zi sl), .int (zi ya), .int (zi mo), .int (zi da), .ref qo] [(h0, .inr (4, [.ref qs, .ref qr, .ref qm, .ref qw, .ref qt, .int (zi we)])), (qs, aI cI 10 sf), (qo, aL cL 1 of)]) (va_Qi (fun (r : Int32) (_ : Unit) => r = zi 1) (zB (dC, dI) [(cI, .int), (cL, .long)] (va_A [(h0, .inr (4, [.ref qs, .ref qr, .ref qm, .ref qw, .ref qt, .int (zi we)])), (qs, aI cI 10 sf), (qo, aL cL 1 of)] sz) [(h0, .inr (4, [.ref qs, .ref qr, .ref qm, .ref qw, .ref qt, .int (zi we)])), (qs, aI cI 10 sf), (qo, aL cL 1 of)]) (va_A [(h0, .inr (4, [.ref qs, .ref qr, .ref qm, .ref qw, .ref qt, .int (zi we)])), (qs, aI cI 10 sf), (qo, aL cL 1 of)] sz)) 1 6 (va_A [(h0, .inr (4, [.ref qs, .ref qr, .ref qm, .ref qw, .ref qt, .int (zi we)])), (qs, aI cI 10 sf), (qo, aL cL 1 of)] sz) := by
  refine va_MetW (hh := [(0, 14, 17, 13), (0, 14, 21, 15)]) (cc := cL_civil) (maxL := 7) (ret := (some .int)) (by decide) rfl ?_
  intro p e s m args below meth c s₁ B hml hv
  obtain ⟨rfl, hsz, hE, hP, hK, hD0⟩ := hv
  have hx := B.exec
  have hb := B.bytes
  have hr := B.returns
  have hts := atoms_spec (ws := wsL_civil) B.pre
  have hown : s.vm.findClass RL = some m.cls := findClass_of_methodNamed B.named
  have hlocks := B.notSynchronized
  have hex : c.exceptionTable.toList = [⟨0, 14, 17, 13⟩, ⟨0, 14, 21, 15⟩] := vx_table (x := yL_civil) B (hts _ List.mem_cons_self)
  subst hsz
  have hD := hD0.self (sz := s.heap.size)
  generalize hAe : va_A [(h0, .inr (4, [.ref qs, .ref qr, .ref qm, .ref qw, .ref qt, .int (zi we)])), (qs, aI cI 10 sf), (qo, aL cL 1 of)] s.heap.size = A at hD ⊢
  have hA : ∀ q : Nat, s.heap.size ≤ q → A q := fun q h => by rw [← hAe]; exact Or.inr h
  have hS : va_S A s.heap s.heap [] := va_S.rf
  have hP : va_P (dC, dI) vwCl [(h0, .inr (4, [.ref qs, .ref qr, .ref qm, .ref qw, .ref qt, .int (zi we)])), (qs, aI cI 10 sf), (qo, aL cL 1 of)] s.heap := hP
  have hl := lv_entry ([.ref h0, .int (zi sl), .int (zi ya), .int (zi mo), .int (zi da), .ref qo]) (n := 7) (Nat.le_of_ble_eq_true rfl)
  rw [lg_entry_eq]
  generalize (lg_sl ([.ref h0, .int (zi sl), .int (zi ya), .int (zi mo), .int (zi da), .ref qo]) ++ List.replicate (7 - (lg_sl ([.ref h0, .int (zi sl), .int (zi ya), .int (zi mo), .int (zi da), .ref qo])).length) Slot.unset).toArray = ls at hl ⊢
  have hl : lv_has ls 7 [(0, .ref h0), (1, .int (zi sl)), (2, .int (zi ya)), (3, .int (zi mo)), (4, .int (zi da)), (5, .ref qo)] := hl
  refine lv_aload hx hb dL_civil_0 (lv_at hl 5 rfl) ?_
  refine zw_iconst hx hb dL_civil_2 ?_
  refine lv_aload_n hx hb dL_civil_3 rfl (lv_at hl 0 rfl) ?_
  refine lv_iload_n hx hb dL_civil_4 rfl (lv_at hl 1 rfl) ?_
  refine lv_iload_n hx hb dL_civil_5 rfl (lv_at hl 2 rfl) ?_
  refine lv_iload_n hx hb dL_civil_6 rfl (lv_at hl 3 rfl) ?_
  refine lv_iload hx hb dL_civil_7 (lv_at hl 4 rfl) ?_
  have hh1 := t_X4_civil_1 l hst h0 sl ya mo da (by omega) (by omega)
  refine zt_catch (own := RL) (name := "java/lang/IndexOutOfBoundsException") (vx_runV (As := [.int (zi sl), .int (zi ya), .int (zi mo), .int (zi da)]) (rest := [.int (zi 0), .ref qo]) ⟨hx, hb, hml, hown, hts⟩ hh1 (cwV 4 hts gL_civil_X4_civil rfl rfl rfl (by decide +kernel) ⟨Nat.le_of_ble_eq_true rfl, Nat.le_of_ble_eq_true rfl⟩) ⟨zP.blind _, va_recv hK hP (ci := 4) (q0 := 0) rfl rfl, fun U hU hW => ⟨rfl, hE.call va_S.rf (fun q h => by rw [hU] at h; exact h) hU hW⟩⟩ rfl rfl hl.1 rfl (lv_room (Nat.le_of_ble_eq_true rfl)) dL_civil_9 ⟨Nat.le_of_ble_eq_true rfl, Nat.le_of_ble_eq_true rfl⟩) hown [] ⟨0, 14, 17, 13⟩ [⟨0, 14, 21, 15⟩] hex (List.forall_mem_nil _) (by decide) (by decide) (hts (.classLink RL 13 "java/lang/IndexOutOfBoundsException") (by decide +kernel)) (va_any rfl (hE.2.2.1 (.castable "java/lang/IndexOutOfBoundsException" "java/lang/IndexOutOfBoundsException") (by decide +kernel))) (fun qx H1 hz1 hk1 => ?_)
  have hP : va_P (dC, dI) vwCl [(h0, .inr (4, [.ref qs, .ref qr, .ref qm, .ref qw, .ref qt, .int (zi we)])), (qs, aI cI 10 sf), (qo, aL cL 1 of)] H1 := zk_world hP hk1
  have hS : va_S A s.heap H1 [] := zk_S hz1 hk1
  refine lv_astore (lv' := [(6, .ref qx), (0, .ref h0), (1, .int (zi sl)), (2, .int (zi ya)), (3, .int (zi mo)), (4, .int (zi da)), (5, .ref qo)]) hx hb dL_civil_17 hl (by decide) rfl (fun ls hl => ?_)
  refine zw_iconst hx hb dL_civil_19 ?_
  have hP9 := hP.sub (ws' := [(h0, .inr (4, [.ref qs, .ref qr, .ref qm, .ref qw, .ref qt, .int (zi we)])), (qs, aI cI 10 sf), (qo, aL cL 1 of)]) [0, 1, 2] rfl
  have hD9 := hD.sub (ws' := [(h0, .inr (4, [.ref qs, .ref qr, .ref qm, .ref qw, .ref qt, .int (zi we)])), (qs, aI cI 10 sf), (qo, aL cL 1 of)]) [0, 1, 2] (by decide) rfl
  exact W.iret (v := zi 1) hx hb hr (fun t ht hW => ⟨⟨zi 1, (), rfl, rfl, by rw [ht]; exact hP9, va_K.moved hW.alike hK, hD9⟩, hS.F ht⟩) hS.2.2 dL_civil_20

set_option maxHeartbeats 4000000 in
set_option maxRecDepth 100000 in
theorem c_L_civil_2 (l : Launch) (hst : l.stackTraces = false) (dC : Nat → ClassId) (dI : Nat → Nat → Nat) (cI : ClassId) (cL : ClassId) (h0 : Nat) (qs : Nat) (qr : Nat) (qm : Nat) (qw : Nat) (qt : Nat) (we : Int) (sf : Nat → Int) (qo : Nat) (of : Nat → Int) (sl : Int) (ya : Int) (mo : Int) (da : Int) (sz : Nat) (hp0 : 0 ≤ sl ∧ sl ≤ 9) (hp1 : -2147483648 ≤ ya ∧ ya ≤ 2147483647) (hp2 : -2147483648 ≤ mo ∧ mo ≤ 2147483647) (hp3 : -2147483648 ≤ da ∧ da ≤ 2147483647) (hp4 : (f_X0_civilNumber ya mo da) = -1) : Met l yL_civil wsL_civil ({ frames := 8, cells := 1, slots := 6, locals := 136 }) (zPx (dC, dI) [(cI, .int), (cL, .long)] sz [.ref h0, .int (zi sl), .int (zi ya), .int (zi mo), .int (zi da), .ref qo] [(h0, .inr (4, [.ref qs, .ref qr, .ref qm, .ref qw, .ref qt, .int (zi we)])), (qs, aI cI 10 sf), (qo, aL cL 1 of)]) (va_Qi (fun (r : Int32) (_ : Unit) => r = zi 2) (zB (dC, dI) [(cI, .int), (cL, .long)] (va_A [(h0, .inr (4, [.ref qs, .ref qr, .ref qm, .ref qw, .ref qt, .int (zi we)])), (qs, aI cI 10 sf), (qo, aL cL 1 of)] sz) [(h0, .inr (4, [.ref qs, .ref qr, .ref qm, .ref qw, .ref qt, .int (zi we)])), (qs, aI cI 10 sf), (qo, aL cL 1 of)]) (va_A [(h0, .inr (4, [.ref qs, .ref qr, .ref qm, .ref qw, .ref qt, .int (zi we)])), (qs, aI cI 10 sf), (qo, aL cL 1 of)] sz)) 1 6 (va_A [(h0, .inr (4, [.ref qs, .ref qr, .ref qm, .ref qw, .ref qt, .int (zi we)])), (qs, aI cI 10 sf), (qo, aL cL 1 of)] sz) := by
  refine va_MetW (hh := [(0, 14, 17, 13), (0, 14, 21, 15)]) (cc := cL_civil) (maxL := 7) (ret := (some .int)) (by decide) rfl ?_
  intro p e s m args below meth c s₁ B hml hv
  obtain ⟨rfl, hsz, hE, hP, hK, hD0⟩ := hv
  have hx := B.exec
  have hb := B.bytes
  have hr := B.returns
  have hts := atoms_spec (ws := wsL_civil) B.pre
  have hown : s.vm.findClass RL = some m.cls := findClass_of_methodNamed B.named
  have hlocks := B.notSynchronized
  have hex : c.exceptionTable.toList = [⟨0, 14, 17, 13⟩, ⟨0, 14, 21, 15⟩] := vx_table (x := yL_civil) B (hts _ List.mem_cons_self)
  subst hsz
  have hD := hD0.self (sz := s.heap.size)
  generalize hAe : va_A [(h0, .inr (4, [.ref qs, .ref qr, .ref qm, .ref qw, .ref qt, .int (zi we)])), (qs, aI cI 10 sf), (qo, aL cL 1 of)] s.heap.size = A at hD ⊢
  have hA : ∀ q : Nat, s.heap.size ≤ q → A q := fun q h => by rw [← hAe]; exact Or.inr h
  have hS : va_S A s.heap s.heap [] := va_S.rf
  have hP : va_P (dC, dI) vwCl [(h0, .inr (4, [.ref qs, .ref qr, .ref qm, .ref qw, .ref qt, .int (zi we)])), (qs, aI cI 10 sf), (qo, aL cL 1 of)] s.heap := hP
  have hl := lv_entry ([.ref h0, .int (zi sl), .int (zi ya), .int (zi mo), .int (zi da), .ref qo]) (n := 7) (Nat.le_of_ble_eq_true rfl)
  rw [lg_entry_eq]
  generalize (lg_sl ([.ref h0, .int (zi sl), .int (zi ya), .int (zi mo), .int (zi da), .ref qo]) ++ List.replicate (7 - (lg_sl ([.ref h0, .int (zi sl), .int (zi ya), .int (zi mo), .int (zi da), .ref qo])).length) Slot.unset).toArray = ls at hl ⊢
  have hl : lv_has ls 7 [(0, .ref h0), (1, .int (zi sl)), (2, .int (zi ya)), (3, .int (zi mo)), (4, .int (zi da)), (5, .ref qo)] := hl
  refine lv_aload hx hb dL_civil_0 (lv_at hl 5 rfl) ?_
  refine zw_iconst hx hb dL_civil_2 ?_
  refine lv_aload_n hx hb dL_civil_3 rfl (lv_at hl 0 rfl) ?_
  refine lv_iload_n hx hb dL_civil_4 rfl (lv_at hl 1 rfl) ?_
  refine lv_iload_n hx hb dL_civil_5 rfl (lv_at hl 2 rfl) ?_
  refine lv_iload_n hx hb dL_civil_6 rfl (lv_at hl 3 rfl) ?_
  refine lv_iload hx hb dL_civil_7 (lv_at hl 4 rfl) ?_
  have hh1 := t_X4_civil_2 l hst dC dI cI h0 qs qr qm qw qt we sf sl ya mo da (by omega) (by omega) (by omega) (by omega) (by omega)
  have hPc := hP.sub (ws' := [(h0, .inr (4, [.ref qs, .ref qr, .ref qm, .ref qw, .ref qt, .int (zi we)])), (qs, aI cI 10 sf)]) [0, 1] rfl
  have hKc : va_K (dC, dI) vwCl [(cI, .int)] s := hK.sub (tys' := [(cI, .int)]) [0] rfl
  refine zt_catch (own := RL) (name := "java/lang/IllegalArgumentException") (vx_runV (As := [.int (zi sl), .int (zi ya), .int (zi mo), .int (zi da)]) (rest := [.int (zi 0), .ref qo]) ⟨hx, hb, hml, hown, hts⟩ hh1 (cwV 4 hts gL_civil_X4_civil rfl rfl rfl (by decide +kernel) ⟨Nat.le_of_ble_eq_true rfl, Nat.le_of_ble_eq_true rfl⟩) ⟨zPt.blind _ _ _ _, va_recv hKc hPc (ci := 4) (q0 := 0) rfl rfl, fun U hU hW => ⟨rfl, hE.call va_S.rf (fun q h => by rw [hU] at h; exact h) hU hW, by rw [hU]; exact hPc, va_K.moved hW.alike hKc⟩⟩ rfl rfl hl.1 rfl (lv_room (Nat.le_of_ble_eq_true rfl)) dL_civil_9 ⟨Nat.le_of_ble_eq_true rfl, Nat.le_of_ble_eq_true rfl⟩) hown [⟨0, 14, 17, 13⟩] ⟨0, 14, 21, 15⟩ [] hex (List.forall_mem_cons.mpr ⟨⟨by decide, by decide, "java/lang/IndexOutOfBoundsException", (hts (.classLink RL 13 "java/lang/IndexOutOfBoundsException") (by decide +kernel)), hE.2.2.2.2 ("java/lang/IllegalArgumentException", "java/lang/IndexOutOfBoundsException") (by decide)⟩, List.forall_mem_nil _⟩) (by decide) (by decide) (hts (.classLink RL 15 "java/lang/IllegalArgumentException") (by decide +kernel)) (va_any rfl (hE.2.2.1 (.castable "java/lang/IllegalArgumentException" "java/lang/IllegalArgumentException") (by decide +kernel))) (fun qx H1 hz1 hk1 => ?_)
  have hP : va_P (dC, dI) vwCl [(h0, .inr (4, [.ref qs, .ref qr, .ref qm, .ref qw, .ref qt, .int (zi we)])), (qs, aI cI 10 sf), (qo, aL cL 1 of)] H1 := zk_world hP hk1
  have hS : va_S A s.heap H1 [] := zk_S hz1 hk1
  refine lv_astore (lv' := [(6, .ref qx), (0, .ref h0), (1, .int (zi sl)), (2, .int (zi ya)), (3, .int (zi mo)), (4, .int (zi da)), (5, .ref qo)]) hx hb dL_civil_21 hl (by decide) rfl (fun ls hl => ?_)
  refine zw_iconst hx hb dL_civil_23 ?_
  have hP9 := hP.sub (ws' := [(h0, .inr (4, [.ref qs, .ref qr, .ref qm, .ref qw, .ref qt, .int (zi we)])), (qs, aI cI 10 sf), (qo, aL cL 1 of)]) [0, 1, 2] rfl
  have hD9 := hD.sub (ws' := [(h0, .inr (4, [.ref qs, .ref qr, .ref qm, .ref qw, .ref qt, .int (zi we)])), (qs, aI cI 10 sf), (qo, aL cL 1 of)]) [0, 1, 2] (by decide) rfl
  exact W.iret (v := zi 2) hx hb hr (fun t ht hW => ⟨⟨zi 2, (), rfl, rfl, by rw [ht]; exact hP9, va_K.moved hW.alike hK, hD9⟩, hS.F ht⟩) hS.2.2 dL_civil_24

set_option maxHeartbeats 4000000 in
set_option maxRecDepth 100000 in
theorem c_L_civil (l : Launch)  (dC : Nat → ClassId) (dI : Nat → Nat → Nat) (cI : ClassId) (cL : ClassId) (h0 : Nat) (qs : Nat) (qr : Nat) (qm : Nat) (qw : Nat) (qt : Nat) (we : Int) (sf : Nat → Int) (qo : Nat) (of : Nat → Int) (sl : Int) (ya : Int) (mo : Int) (da : Int) (sz : Nat) (hp0 : 0 ≤ sl ∧ sl ≤ 9) (hp1 : -2147483648 ≤ ya ∧ ya ≤ 2147483647) (hp2 : -2147483648 ≤ mo ∧ mo ≤ 2147483647) (hp3 : -2147483648 ≤ da ∧ da ≤ 2147483647) (hp4 : (f_X0_civilNumber ya mo da) ≠ -1) (hp5 : -1 ≤ (f_X0_civilNumber ya mo da) ∧ (f_X0_civilNumber ya mo da) ≤ 4000000) : Met l yL_civil wsL_civil ({ frames := 4, cells := 0, slots := 0, locals := 89 }) (zPw (dC, dI) [(cI, .int), (cL, .long)] sz [.ref h0, .int (zi sl), .int (zi ya), .int (zi mo), .int (zi da), .ref qo] [(h0, .inr (4, [.ref qs, .ref qr, .ref qm, .ref qw, .ref qt, .int (zi we)])), (qs, aI cI 10 sf), (qo, aL cL 1 of)]) (va_Qi (fun (r : Int32) (_ : Unit) => r = zi 0) (zB (dC, dI) [(cI, .int), (cL, .long)] (va_A [(h0, .inr (4, [.ref qs, .ref qr, .ref qm, .ref qw, .ref qt, .int (zi we)])), (qs, aI cI 10 sf), (qo, aL cL 1 of)] sz) [(h0, .inr (4, [.ref qs, .ref qr, .ref qm, .ref qw, .ref qt, .int (zi we)])), (qs, aI cI 10 (zup sf sl.toNat (f_X0_civilNumber ya mo da))), (qo, aL cL 1 (zup of (Int.toNat 0) (f_X0_civilNumber ya mo da)))]) (va_A [(h0, .inr (4, [.ref qs, .ref qr, .ref qm, .ref qw, .ref qt, .int (zi we)])), (qs, aI cI 10 sf), (qo, aL cL 1 of)] sz)) 0 0 (va_A [(h0, .inr (4, [.ref qs, .ref qr, .ref qm, .ref qw, .ref qt, .int (zi we)])), (qs, aI cI 10 sf), (qo, aL cL 1 of)] sz) := by
  refine va_MetW (hh := [(0, 14, 17, 13), (0, 14, 21, 15)]) (cc := cL_civil) (maxL := 7) (ret := (some .int)) (by decide) rfl ?_
  intro p e s m args below meth c s₁ B hml hv
  obtain ⟨rfl, hsz, hP, hK, hD0⟩ := hv
  have hx := B.exec
  have hb := B.bytes
  have hr := B.returns
  have hts := atoms_spec (ws := wsL_civil) B.pre
  have hown : s.vm.findClass RL = some m.cls := findClass_of_methodNamed B.named
  have hlocks := B.notSynchronized
  subst hsz
  have hD := hD0.self (sz := s.heap.size)
  generalize hAe : va_A [(h0, .inr (4, [.ref qs, .ref qr, .ref qm, .ref qw, .ref qt, .int (zi we)])), (qs, aI cI 10 sf), (qo, aL cL 1 of)] s.heap.size = A at hD ⊢
  have hA : ∀ q : Nat, s.heap.size ≤ q → A q := fun q h => by rw [← hAe]; exact Or.inr h
  have hS : va_S A s.heap s.heap [] := va_S.rf
  have hP : va_P (dC, dI) vwCl [(h0, .inr (4, [.ref qs, .ref qr, .ref qm, .ref qw, .ref qt, .int (zi we)])), (qs, aI cI 10 sf), (qo, aL cL 1 of)] s.heap := hP
  have hl := lv_entry ([.ref h0, .int (zi sl), .int (zi ya), .int (zi mo), .int (zi da), .ref qo]) (n := 7) (Nat.le_of_ble_eq_true rfl)
  rw [lg_entry_eq]
  generalize (lg_sl ([.ref h0, .int (zi sl), .int (zi ya), .int (zi mo), .int (zi da), .ref qo]) ++ List.replicate (7 - (lg_sl ([.ref h0, .int (zi sl), .int (zi ya), .int (zi mo), .int (zi da), .ref qo])).length) Slot.unset).toArray = ls at hl ⊢
  have hl : lv_has ls 7 [(0, .ref h0), (1, .int (zi sl)), (2, .int (zi ya)), (3, .int (zi mo)), (4, .int (zi da)), (5, .ref qo)] := hl
  refine lv_aload hx hb dL_civil_0 (lv_at hl 5 rfl) ?_
  refine zw_iconst hx hb dL_civil_2 ?_
  refine lv_aload_n hx hb dL_civil_3 rfl (lv_at hl 0 rfl) ?_
  refine lv_iload_n hx hb dL_civil_4 rfl (lv_at hl 1 rfl) ?_
  refine lv_iload_n hx hb dL_civil_5 rfl (lv_at hl 2 rfl) ?_
  refine lv_iload_n hx hb dL_civil_6 rfl (lv_at hl 3 rfl) ?_
  refine lv_iload hx hb dL_civil_7 (lv_at hl 4 rfl) ?_
  have hh1 := c_X4_civil l dC dI cI h0 qs qr qm qw qt we sf sl ya mo da s.heap.size (by omega) (by omega) (by omega) (by omega) (by omega)
  have hPc := hP.sub (ws' := [(h0, .inr (4, [.ref qs, .ref qr, .ref qm, .ref qw, .ref qt, .int (zi we)])), (qs, aI cI 10 sf)]) [0, 1] rfl
  have hKc : va_K (dC, dI) vwCl [(cI, .int)] s := hK.sub (tys' := [(cI, .int)]) [0] rfl
  have hDc := hD.sub (ws' := [(h0, .inr (4, [.ref qs, .ref qr, .ref qm, .ref qw, .ref qt, .int (zi we)])), (qs, aI cI 10 sf)]) [0, 1] (by decide) rfl
  have hFc := va_free (wc := [(h0, .inr (4, [.ref qs, .ref qr, .ref qm, .ref qw, .ref qt, .int (zi we)])), (qs, aI cI 10 sf)]) hD hS hA [0, 1] rfl
  refine va_calli (va_runV (As := [.int (zi sl), .int (zi ya), .int (zi mo), .int (zi da)]) (rest := [.int (zi 0), .ref qo]) ⟨hx, hb, hml, hown, hts⟩ hh1 (cwV 4 hts gL_civil_X4_civil rfl rfl rfl (by decide +kernel) ⟨Nat.le_of_ble_eq_true rfl, Nat.le_of_ble_eq_true rfl⟩) ⟨zPw.blind _ _ _ _ _, va_recv hKc hPc (ci := 4) (q0 := 0) rfl rfl, fun U hU hW => ⟨rfl, by rw [hU], by rw [hU]; exact hPc, va_K.moved hW.alike hKc, hDc.weaken (fun _ _ _ _ => trivial)⟩⟩ rfl rfl hl.1 rfl (lv_room (Nat.le_of_ble_eq_true rfl)) dL_civil_9 ⟨Nat.le_of_ble_eq_true rfl, Nat.le_of_ble_eq_true rfl⟩) hS (fun q _ h => hFc q h) hFc (fun r1 u t H1 locs ht hvm hw hB hz1 hk1 hS => ?_)
  obtain ⟨hP1, hK1, hD1⟩ := hB
  rw [ht] at hP1
  obtain ⟨hP, hD⟩ := va_join (wr := [(qo, aL cL 1 of)]) (w1 := [(h0, .inr (4, [.ref qs, .ref qr, .ref qm, .ref qw, .ref qt, .int (zi we)])), (qs, aI cI 10 (zup sf sl.toNat (f_X0_civilNumber ya mo da)))]) hP hD [0, 1] [2] rfl rfl (by decide) (by decide) hk1 hFc hP1 hD1
  generalize H1 = H at hP hS ⊢
  obtain rfl : r1 = zi (f_X0_civilNumber ya mo da) := hw
  have hP : va_P (dC, dI) vwCl [(qo, aL cL 1 of), (h0, .inr (4, [.ref qs, .ref qr, .ref qm, .ref qw, .ref qt, .int (zi we)])), (qs, aI cI 10 (zup sf sl.toNat (f_X0_civilNumber ya mo da)))] H := hP
  have hD : va_D A [(qo, aL cL 1 of), (h0, .inr (4, [.ref qs, .ref qr, .ref qm, .ref qw, .ref qt, .int (zi we)])), (qs, aI cI 10 (zup sf sl.toNat (f_X0_civilNumber ya mo da)))] := hD
  refine zw_i2l hx hb dL_civil_12 ⟨by omega, by omega⟩ ?_
  refine zw_last hx hb hK hP hD hS 0 1 rfl rfl (by omega) (by omega) ⟨by omega, by omega⟩ dL_civil_13 (fun H locs hP hD hS => ?_)
  have hP : va_P (dC, dI) vwCl [(qo, aL cL 1 (zup of (Int.toNat 0) (f_X0_civilNumber ya mo da))), (h0, .inr (4, [.ref qs, .ref qr, .ref qm, .ref qw, .ref qt, .int (zi we)])), (qs, aI cI 10 (zup sf sl.toNat (f_X0_civilNumber ya mo da)))] H := hP
  have hD : va_D A [(qo, aL cL 1 (zup of (Int.toNat 0) (f_X0_civilNumber ya mo da))), (h0, .inr (4, [.ref qs, .ref qr, .ref qm, .ref qw, .ref qt, .int (zi we)])), (qs, aI cI 10 (zup sf sl.toNat (f_X0_civilNumber ya mo da)))] := hD
  refine lv_goto (tgt := 25) hx hb dL_civil_14 (by decide) ?_
  refine zw_iconst hx hb dL_civil_25 ?_
  have hP9 := hP.sub (ws' := [(h0, .inr (4, [.ref qs, .ref qr, .ref qm, .ref qw, .ref qt, .int (zi we)])), (qs, aI cI 10 (zup sf sl.toNat (f_X0_civilNumber ya mo da))), (qo, aL cL 1 (zup of (Int.toNat 0) (f_X0_civilNumber ya mo da)))]) [1, 2, 0] rfl
  have hD9 := hD.sub (ws' := [(h0, .inr (4, [.ref qs, .ref qr, .ref qm, .ref qw, .ref qt, .int (zi we)])), (qs, aI cI 10 (zup sf sl.toNat (f_X0_civilNumber ya mo da))), (qo, aL cL 1 (zup of (Int.toNat 0) (f_X0_civilNumber ya mo da)))]) [1, 2, 0] (by decide) rfl
  exact W.iret (v := zi 0) hx hb hr (fun t ht hW => ⟨⟨zi 0, (), rfl, rfl, by rw [ht]; exact hP9, va_K.moved hW.alike hK, hD9⟩, hS.F ht⟩) hS.2.2 dL_civil_26

set_option maxHeartbeats 4000000 in
set_option maxRecDepth 100000 in
theorem c_L_week_1 (l : Launch) (hst : l.stackTraces = false) (dC : Nat → ClassId) (dI : Nat → Nat → Nat) (cI : ClassId) (cL : ClassId) (h0 : Nat) (qs : Nat) (qr : Nat) (qm : Nat) (qw : Nat) (qt : Nat) (we : Int) (sf : Nat → Int) (qo : Nat) (of : Nat → Int) (sl : Int) (ya : Int) (wk : Int) (wd : Int) (sz : Nat) (hp0 : -2147483648 ≤ sl ∧ sl ≤ 2147483647) (hp1 : sl < 0 ∨ 9 < sl) : Met l yL_week wsL_week ({ frames := 8, cells := 1, slots := 6, locals := 134 }) (zPx (dC, dI) [(cI, .int), (cL, .long)] sz [.ref h0, .int (zi sl), .int (zi ya), .int (zi wk), .int (zi wd), .ref qo] [(h0, .inr (4, [.ref qs, .ref qr, .ref qm, .ref qw, .ref qt, .int (zi we)])), (qs, aI cI 10 sf), (qo, aL cL 1 of)]) (va_Qi (fun (r : Int32) (_ : Unit) => r = zi 1) (zB (dC, dI) [(cI, .int), (cL, .long)] (va_A [(h0, .inr (4, [.ref qs, .ref qr, .ref qm, .ref qw, .ref qt, .int (zi we)])), (qs, aI cI 10 sf), (qo, aL cL 1 of)] sz) [(h0, .inr (4, [.ref qs, .ref qr, .ref qm, .ref qw, .ref qt, .int (zi we)])), (qs, aI cI 10 sf), (qo, aL cL 1 of)]) (va_A [(h0, .inr (4, [.ref qs, .ref qr, .ref qm, .ref qw, .ref qt, .int (zi we)])), (qs, aI cI 10 sf), (qo, aL cL 1 of)] sz)) 1 6 (va_A [(h0, .inr (4, [.ref qs, .ref qr, .ref qm, .ref qw, .ref qt, .int (zi we)])), (qs, aI cI 10 sf), (qo, aL cL 1 of)] sz) := by
  refine va_MetW (hh := [(0, 14, 17, 13), (0, 14, 21, 15)]) (cc := cL_week) (maxL := 7) (ret := (some .int)) (by decide) rfl ?_
  intro p e s m args below meth c s₁ B hml hv
  obtain ⟨rfl, hsz, hE, hP, hK, hD0⟩ := hv
  have hx := B.exec
  have hb := B.bytes
  have hr := B.returns
  have hts := atoms_spec (ws := wsL_week) B.pre
  have hown : s.vm.findClass RL = some m.cls := findClass_of_methodNamed B.named
  have hlocks := B.notSynchronized
  have hex : c.exceptionTable.toList = [⟨0, 14, 17, 13⟩, ⟨0, 14, 21, 15⟩] := vx_table (x := yL_week) B (hts _ List.mem_cons_self)
  subst hsz
  have hD := hD0.self (sz := s.heap.size)
  generalize hAe : va_A [(h0, .inr (4, [.ref qs, .ref qr, .ref qm, .ref qw, .ref qt, .int (zi we)])), (qs, aI cI 10 sf), (qo, aL cL 1 of)] s.heap.size = A at hD ⊢
  have hA : ∀ q : Nat, s.heap.size ≤ q → A q := fun q h => by rw [← hAe]; exact Or.inr h
  have hS : va_S A s.heap s.heap [] := va_S.rf
  have hP : va_P (dC, dI) vwCl [(h0, .inr (4, [.ref qs, .ref qr, .ref qm, .ref qw, .ref qt, .int (zi we)])), (qs, aI cI 10 sf), (qo, aL cL 1 of)] s.heap := hP
  have hl := lv_entry ([.ref h0, .int (zi sl), .int (zi ya), .int (zi wk), .int (zi wd), .ref qo]) (n := 7) (Nat.le_of_ble_eq_true rfl)
  rw [lg_entry_eq]
  generalize (lg_sl ([.ref h0, .int (zi sl), .int (zi ya), .int (zi wk), .int (zi wd), .ref qo]) ++ List.replicate (7 - (lg_sl ([.ref h0, .int (zi sl), .int (zi ya), .int (zi wk), .int (zi wd), .ref qo])).length) Slot.unset).toArray = ls at hl ⊢
  have hl : lv_has ls 7 [(0, .ref h0), (1, .int (zi sl)), (2, .int (zi ya)), (3, .int (zi wk)), (4, .int (zi wd)), (5, .ref qo)] := hl
  refine lv_aload hx hb dL_week_0 (lv_at hl 5 rfl) ?_
  refine zw_iconst hx hb dL_week_2 ?_
  refine lv_aload_n hx hb dL_week_3 rfl (lv_at hl 0 rfl) ?_
  refine lv_iload_n hx hb dL_week_4 rfl (lv_at hl 1 rfl) ?_
  refine lv_iload_n hx hb dL_week_5 rfl (lv_at hl 2 rfl) ?_
  refine lv_iload_n hx hb dL_week_6 rfl (lv_at hl 3 rfl) ?_
  refine lv_iload hx hb dL_week_7 (lv_at hl 4 rfl) ?_
  have hh1 := t_X4_week_1 l hst h0 sl ya wk wd (by omega) (by omega)
  refine zt_catch (own := RL) (name := "java/lang/IndexOutOfBoundsException") (vx_runV (As := [.int (zi sl), .int (zi ya), .int (zi wk), .int (zi wd)]) (rest := [.int (zi 0), .ref qo]) ⟨hx, hb, hml, hown, hts⟩ hh1 (cwV 4 hts gL_week_X4_week rfl rfl rfl (by decide +kernel) ⟨Nat.le_of_ble_eq_true rfl, Nat.le_of_ble_eq_true rfl⟩) ⟨zP.blind _, va_recv hK hP (ci := 4) (q0 := 0) rfl rfl, fun U hU hW => ⟨rfl, hE.call va_S.rf (fun q h => by rw [hU] at h; exact h) hU hW⟩⟩ rfl rfl hl.1 rfl (lv_room (Nat.le_of_ble_eq_true rfl)) dL_week_9 ⟨Nat.le_of_ble_eq_true rfl, Nat.le_of_ble_eq_true rfl⟩) hown [] ⟨0, 14, 17, 13⟩ [⟨0, 14, 21, 15⟩] hex (List.forall_mem_nil _) (by decide) (by decide) (hts (.classLink RL 13 "java/lang/IndexOutOfBoundsException") (by decide +kernel)) (va_any rfl (hE.2.2.1 (.castable "java/lang/IndexOutOfBoundsException" "java/lang/IndexOutOfBoundsException") (by decide +kernel))) (fun qx H1 hz1 hk1 => ?_)
  have hP : va_P (dC, dI) vwCl [(h0, .inr (4, [.ref qs, .ref qr, .ref qm, .ref qw, .ref qt, .int (zi we)])), (qs, aI cI 10 sf), (qo, aL cL 1 of)] H1 := zk_world hP hk1
  have hS : va_S A s.heap H1 [] := zk_S hz1 hk1
  refine lv_astore (lv' := [(6, .ref qx), (0, .ref h0), (1, .int (zi sl)), (2, .int (zi ya)), (3, .int (zi wk)), (4, .int (zi wd)), (5, .ref qo)]) hx hb dL_week_17 hl (by decide) rfl (fun ls hl => ?_)
  refine zw_iconst hx hb dL_week_19 ?_
  have hP9 := hP.sub (ws' := [(h0, .inr (4, [.ref qs, .ref qr, .ref qm, .ref qw, .ref qt, .int (zi we)])), (qs, aI cI 10 sf), (qo, aL cL 1 of)]) [0, 1, 2] rfl
  have hD9 := hD.sub (ws' := [(h0, .inr (4, [.ref qs, .ref qr, .ref qm, .ref qw, .ref qt, .int (zi we)])), (qs, aI cI 10 sf), (qo, aL cL 1 of)]) [0, 1, 2] (by decide) rfl
  exact W.iret (v := zi 1) hx hb hr (fun t ht hW => ⟨⟨zi 1, (), rfl, rfl, by rw [ht]; exact hP9, va_K.moved hW.alike hK, hD9⟩, hS.F ht⟩) hS.2.2 dL_week_20

set_option maxHeartbeats 4000000 in
set_option maxRecDepth 100000 in
theorem c_L_week_2 (l : Launch) (hst : l.stackTraces = false) (dC : Nat → ClassId) (dI : Nat → Nat → Nat) (cI : ClassId) (cL : ClassId) (h0 : Nat) (qs : Nat) (qr : Nat) (qm : Nat) (qw : Nat) (qt : Nat) (we : Int) (sf : Nat → Int) (qo : Nat) (of : Nat → Int) (sl : Int) (ya : Int) (wk : Int) (wd : Int) (sz : Nat) (hp0 : 0 ≤ sl ∧ sl ≤ 9) (hp1 : -2147483648 ≤ ya ∧ ya ≤ 2147483647) (hp2 : -2147483648 ≤ wk ∧ wk ≤ 2147483647) (hp3 : -2147483648 ≤ wd ∧ wd ≤ 2147483647) (hp4 : (f_X0_weekNumber ya wk wd) = -1) : Met l yL_week wsL_week ({ frames := 8, cells := 1, slots := 6, locals := 136 }) (zPx (dC, dI) [(cI, .int), (cL, .long)] sz [.ref h0, .int (zi sl), .int (zi ya), .int (zi wk), .int (zi wd), .ref qo] [(h0, .inr (4, [.ref qs, .ref qr, .ref qm, .ref qw, .ref qt, .int (zi we)])), (qs, aI cI 10 sf), (qo, aL cL 1 of)]) (va_Qi (fun (r : Int32) (_ : Unit) => r = zi 2) (zB (dC, dI) [(cI, .int), (cL, .long)] (va_A [(h0, .inr (4, [.ref qs, .ref qr, .ref qm, .ref qw, .ref qt, .int (zi we)])), (qs, aI cI 10 sf), (qo, aL cL 1 of)] sz) [(h0, .inr (4, [.ref qs, .ref qr, .ref qm, .ref qw, .ref qt, .int (zi we)])), (qs, aI cI 10 sf), (qo, aL cL 1 of)]) (va_A [(h0, .inr (4, [.ref qs, .ref qr, .ref qm, .ref qw, .ref qt, .int (zi we)])), (qs, aI cI 10 sf), (qo, aL cL 1 of)] sz)) 1 6 (va_A [(h0, .inr (4, [.ref qs, .ref qr, .ref qm, .ref qw, .ref qt, .int (zi we)])), (qs, aI cI 10 sf), (qo, aL cL 1 of)] sz) := by
  refine va_MetW (hh := [(0, 14, 17, 13), (0, 14, 21, 15)]) (cc := cL_week) (maxL := 7) (ret := (some .int)) (by decide) rfl ?_
  intro p e s m args below meth c s₁ B hml hv
  obtain ⟨rfl, hsz, hE, hP, hK, hD0⟩ := hv
  have hx := B.exec
  have hb := B.bytes
  have hr := B.returns
  have hts := atoms_spec (ws := wsL_week) B.pre
  have hown : s.vm.findClass RL = some m.cls := findClass_of_methodNamed B.named
  have hlocks := B.notSynchronized
  have hex : c.exceptionTable.toList = [⟨0, 14, 17, 13⟩, ⟨0, 14, 21, 15⟩] := vx_table (x := yL_week) B (hts _ List.mem_cons_self)
  subst hsz
  have hD := hD0.self (sz := s.heap.size)
  generalize hAe : va_A [(h0, .inr (4, [.ref qs, .ref qr, .ref qm, .ref qw, .ref qt, .int (zi we)])), (qs, aI cI 10 sf), (qo, aL cL 1 of)] s.heap.size = A at hD ⊢
  have hA : ∀ q : Nat, s.heap.size ≤ q → A q := fun q h => by rw [← hAe]; exact Or.inr h
  have hS : va_S A s.heap s.heap [] := va_S.rf
  have hP : va_P (dC, dI) vwCl [(h0, .inr (4, [.ref qs, .ref qr, .ref qm, .ref qw, .ref qt, .int (zi we)])), (qs, aI cI 10 sf), (qo, aL cL 1 of)] s.heap := hP
  have hl := lv_entry ([.ref h0, .int (zi sl), .int (zi ya), .int (zi wk), .int (zi wd), .ref qo]) (n := 7) (Nat.le_of_ble_eq_true rfl)
  rw [lg_entry_eq]
  generalize (lg_sl ([.ref h0, .int (zi sl), .int (zi ya), .int (zi wk), .int (zi wd), .ref qo]) ++ List.replicate (7 - (lg_sl ([.ref h0, .int (zi sl), .int (zi ya), .int (zi wk), .int (zi wd), .ref qo])).length) Slot.unset).toArray = ls at hl ⊢
  have hl : lv_has ls 7 [(0, .ref h0), (1, .int (zi sl)), (2, .int (zi ya)), (3, .int (zi wk)), (4, .int (zi wd)), (5, .ref qo)] := hl
  refine lv_aload hx hb dL_week_0 (lv_at hl 5 rfl) ?_
  refine zw_iconst hx hb dL_week_2 ?_
  refine lv_aload_n hx hb dL_week_3 rfl (lv_at hl 0 rfl) ?_
  refine lv_iload_n hx hb dL_week_4 rfl (lv_at hl 1 rfl) ?_
  refine lv_iload_n hx hb dL_week_5 rfl (lv_at hl 2 rfl) ?_
  refine lv_iload_n hx hb dL_week_6 rfl (lv_at hl 3 rfl) ?_
  refine lv_iload hx hb dL_week_7 (lv_at hl 4 rfl) ?_
  have hh1 := t_X4_week_2 l hst dC dI cI h0 qs qr qm qw qt we sf sl ya wk wd (by omega) (by omega) (by omega) (by omega) (by omega)
  have hPc := hP.sub (ws' := [(h0, .inr (4, [.ref qs, .ref qr, .ref qm, .ref qw, .ref qt, .int (zi we)])), (qs, aI cI 10 sf)]) [0, 1] rfl
  have hKc : va_K (dC, dI) vwCl [(cI, .int)] s := hK.sub (tys' := [(cI, .int)]) [0] rfl
  refine zt_catch (own := RL) (name := "java/lang/IllegalArgumentException") (vx_runV (As := [.int (zi sl), .int (zi ya), .int (zi wk), .int (zi wd)]) (rest := [.int (zi 0), .ref qo]) ⟨hx, hb, hml, hown, hts⟩ hh1 (cwV 4 hts gL_week_X4_week rfl rfl rfl (by decide +kernel) ⟨Nat.le_of_ble_eq_true rfl, Nat.le_of_ble_eq_true rfl⟩) ⟨zPt.blind _ _ _ _, va_recv hKc hPc (ci := 4) (q0 := 0) rfl rfl, fun U hU hW => ⟨rfl, hE.call va_S.rf (fun q h => by rw [hU] at h; exact h) hU hW, by rw [hU]; exact hPc, va_K.moved hW.alike hKc⟩⟩ rfl rfl hl.1 rfl (lv_room (Nat.le_of_ble_eq_true rfl)) dL_week_9 ⟨Nat.le_of_ble_eq_true rfl, Nat.le_of_ble_eq_true rfl⟩) hown [⟨0, 14, 17, 13⟩] ⟨0, 14, 21, 15⟩ [] hex (List.forall_mem_cons.mpr ⟨⟨by decide, by decide, "java/lang/IndexOutOfBoundsException", (hts (.classLink RL 13 "java/lang/IndexOutOfBoundsException") (by decide +kernel)), hE.2.2.2.2 ("java/lang/IllegalArgumentException", "java/lang/IndexOutOfBoundsException") (by decide)⟩, List.forall_mem_nil _⟩) (by decide) (by decide) (hts (.classLink RL 15 "java/lang/IllegalArgumentException") (by decide +kernel)) (va_any rfl (hE.2.2.1 (.castable "java/lang/IllegalArgumentException" "java/lang/IllegalArgumentException") (by decide +kernel))) (fun qx H1 hz1 hk1 => ?_)
  have hP : va_P (dC, dI) vwCl [(h0, .inr (4, [.ref qs, .ref qr, .ref qm, .ref qw, .ref qt, .int (zi we)])), (qs, aI cI 10 sf), (qo, aL cL 1 of)] H1 := zk_world hP hk1
  have hS : va_S A s.heap H1 [] := zk_S hz1 hk1
  refine lv_astore (lv' := [(6, .ref qx), (0, .ref h0), (1, .int (zi sl)), (2, .int (zi ya)), (3, .int (zi wk)), (4, .int (zi wd)), (5, .ref qo)]) hx hb dL_week_21 hl (by decide) rfl (fun ls hl => ?_)
  refine zw_iconst hx hb dL_week_23 ?_
  have hP9 := hP.sub (ws' := [(h0, .inr (4, [.ref qs, .ref qr, .ref qm, .ref qw, .ref qt, .int (zi we)])), (qs, aI cI 10 sf), (qo, aL cL 1 of)]) [0, 1, 2] rfl
  have hD9 := hD.sub (ws' := [(h0, .inr (4, [.ref qs, .ref qr, .ref qm, .ref qw, .ref qt, .int (zi we)])), (qs, aI cI 10 sf), (qo, aL cL 1 of)]) [0, 1, 2] (by decide) rfl
  exact W.iret (v := zi 2) hx hb hr (fun t ht hW => ⟨⟨zi 2, (), rfl, rfl, by rw [ht]; exact hP9, va_K.moved hW.alike hK, hD9⟩, hS.F ht⟩) hS.2.2 dL_week_24

set_option maxHeartbeats 4000000 in
set_option maxRecDepth 100000 in
theorem c_L_week (l : Launch)  (dC : Nat → ClassId) (dI : Nat → Nat → Nat) (cI : ClassId) (cL : ClassId) (h0 : Nat) (qs : Nat) (qr : Nat) (qm : Nat) (qw : Nat) (qt : Nat) (we : Int) (sf : Nat → Int) (qo : Nat) (of : Nat → Int) (sl : Int) (ya : Int) (wk : Int) (wd : Int) (sz : Nat) (hp0 : 0 ≤ sl ∧ sl ≤ 9) (hp1 : -2147483648 ≤ ya ∧ ya ≤ 2147483647) (hp2 : -2147483648 ≤ wk ∧ wk ≤ 2147483647) (hp3 : -2147483648 ≤ wd ∧ wd ≤ 2147483647) (hp4 : (f_X0_weekNumber ya wk wd) ≠ -1) (hp5 : -1 ≤ (f_X0_weekNumber ya wk wd) ∧ (f_X0_weekNumber ya wk wd) ≤ 4000000) : Met l yL_week wsL_week ({ frames := 5, cells := 0, slots := 0, locals := 109 }) (zPw (dC, dI) [(cI, .int), (cL, .long)] sz [.ref h0, .int (zi sl), .int (zi ya), .int (zi wk), .int (zi wd), .ref qo] [(h0, .inr (4, [.ref qs, .ref qr, .ref qm, .ref qw, .ref qt, .int (zi we)])), (qs, aI cI 10 sf), (qo, aL cL 1 of)]) (va_Qi (fun (r : Int32) (_ : Unit) => r = zi 0) (zB (dC, dI) [(cI, .int), (cL, .long)] (va_A [(h0, .inr (4, [.ref qs, .ref qr, .ref qm, .ref qw, .ref qt, .int (zi we)])), (qs, aI cI 10 sf), (qo, aL cL 1 of)] sz) [(h0, .inr (4, [.ref qs, .ref qr, .ref qm, .ref qw, .ref qt, .int (zi we)])), (qs, aI cI 10 (zup sf sl.toNat (f_X0_weekNumber ya wk wd))), (qo, aL cL 1 (zup of (Int.toNat 0) (f_X0_weekNumber ya wk wd)))]) (va_A [(h0, .inr (4, [.ref qs, .ref qr, .ref qm, .ref qw, .ref qt, .int (zi we)])), (qs, aI cI 10 sf), (qo, aL cL 1 of)] sz)) 0 0 (va_A [(h0, .inr (4, [.ref qs, .ref qr, .ref qm, .ref qw, .ref qt, .int (zi we)])), (qs, aI cI 10 sf), (qo, aL cL 1 of)] sz) := by
  refine va_MetW (hh := [(0, 14, 17, 13), (0, 14, 21, 15)]) (cc := cL_week) (maxL := 7) (ret := (some .int)) (by decide) rfl ?_
  intro p e s m args below meth c s₁ B hml hv
  obtain ⟨rfl, hsz, hP, hK, hD0⟩ := hv
  have hx := B.exec
  have hb := B.bytes
  have hr := B.returns
  have hts := atoms_spec (ws := wsL_week) B.pre
  have hown : s.vm.findClass RL = some m.cls := findClass_of_methodNamed B.named
  have hlocks := B.notSynchronized
  subst hsz
  have hD := hD0.self (sz := s.heap.size)
  generalize hAe : va_A [(h0, .inr (4, [.ref qs, .ref qr, .ref qm, .ref qw, .ref qt, .int (zi we)])), (qs, aI cI 10 sf), (qo, aL cL 1 of)] s.heap.size = A at hD ⊢
  have hA : ∀ q : Nat, s.heap.size ≤ q → A q := fun q h => by rw [← hAe]; exact Or.inr h
  have hS : va_S A s.heap s.heap [] := va_S.rf
  have hP : va_P (dC, dI) vwCl [(h0, .inr (4, [.ref qs, .ref qr, .ref qm, .ref qw, .ref qt, .int (zi we)])), (qs, aI cI 10 sf), (qo, aL cL 1 of)] s.heap := hP
  have hl := lv_entry ([.ref h0, .int (zi sl), .int (zi ya), .int (zi wk), .int (zi wd), .ref qo]) (n := 7) (Nat.le_of_ble_eq_true rfl)
  rw [lg_entry_eq]
  generalize (lg_sl ([.ref h0, .int (zi sl), .int (zi ya), .int (zi wk), .int (zi wd), .ref qo]) ++ List.replicate (7 - (lg_sl ([.ref h0, .int (zi sl), .int (zi ya), .int (zi wk), .int (zi wd), .ref qo])).length) Slot.unset).toArray = ls at hl ⊢
  have hl : lv_has ls 7 [(0, .ref h0), (1, .int (zi sl)), (2, .int (zi ya)), (3, .int (zi wk)), (4, .int (zi wd)), (5, .ref qo)] := hl
  refine lv_aload hx hb dL_week_0 (lv_at hl 5 rfl) ?_
  refine zw_iconst hx hb dL_week_2 ?_
  refine lv_aload_n hx hb dL_week_3 rfl (lv_at hl 0 rfl) ?_
  refine lv_iload_n hx hb dL_week_4 rfl (lv_at hl 1 rfl) ?_
  refine lv_iload_n hx hb dL_week_5 rfl (lv_at hl 2 rfl) ?_
  refine lv_iload_n hx hb dL_week_6 rfl (lv_at hl 3 rfl) ?_
  refine lv_iload hx hb dL_week_7 (lv_at hl 4 rfl) ?_
  have hh1 := c_X4_week l dC dI cI h0 qs qr qm qw qt we sf sl ya wk wd s.heap.size (by omega) (by omega) (by omega) (by omega) (by omega)
  have hPc := hP.sub (ws' := [(h0, .inr (4, [.ref qs, .ref qr, .ref qm, .ref qw, .ref qt, .int (zi we)])), (qs, aI cI 10 sf)]) [0, 1] rfl
  have hKc : va_K (dC, dI) vwCl [(cI, .int)] s := hK.sub (tys' := [(cI, .int)]) [0] rfl
  have hDc := hD.sub (ws' := [(h0, .inr (4, [.ref qs, .ref qr, .ref qm, .ref qw, .ref qt, .int (zi we)])), (qs, aI cI 10 sf)]) [0, 1] (by decide) rfl
  have hFc := va_free (wc := [(h0, .inr (4, [.ref qs, .ref qr, .ref qm, .ref qw, .ref qt, .int (zi we)])), (qs, aI cI 10 sf)]) hD hS hA [0, 1] rfl
  refine va_calli (va_runV (As := [.int (zi sl), .int (zi ya), .int (zi wk), .int (zi wd)]) (rest := [.int (zi 0), .ref qo]) ⟨hx, hb, hml, hown, hts⟩ hh1 (cwV 4 hts gL_week_X4_week rfl rfl rfl (by decide +kernel) ⟨Nat.le_of_ble_eq_true rfl, Nat.le_of_ble_eq_true rfl⟩) ⟨zPw.blind _ _ _ _ _, va_recv hKc hPc (ci := 4) (q0 := 0) rfl rfl, fun U hU hW => ⟨rfl, by rw [hU], by rw [hU]; exact hPc, va_K.moved hW.alike hKc, hDc.weaken (fun _ _ _ _ => trivial)⟩⟩ rfl rfl hl.1 rfl (lv_room (Nat.le_of_ble_eq_true rfl)) dL_week_9 ⟨Nat.le_of_ble_eq_true rfl, Nat.le_of_ble_eq_true rfl⟩) hS (fun q _ h => hFc q h) hFc (fun r1 u t H1 locs ht hvm hw hB hz1 hk1 hS => ?_)
  obtain ⟨hP1, hK1, hD1⟩ := hB
  rw [ht] at hP1
  obtain ⟨hP, hD⟩ := va_join (wr := [(qo, aL cL 1 of)]) (w1 := [(h0, .inr (4, [.ref qs, .ref qr, .ref qm, .ref qw, .ref qt, .int (zi we)])), (qs, aI cI 10 (zup sf sl.toNat (f_X0_weekNumber ya wk wd)))]) hP hD [0, 1] [2] rfl rfl (by decide) (by decide) hk1 hFc hP1 hD1
  generalize H1 = H at hP hS ⊢
  obtain rfl : r1 = zi (f_X0_weekNumber ya wk wd) := hw
  have hP : va_P (dC, dI) vwCl [(qo, aL cL 1 of), (h0, .inr (4, [.ref qs, .ref qr, .ref qm, .ref qw, .ref qt, .int (zi we)])), (qs, aI cI 10 (zup sf sl.toNat (f_X0_weekNumber ya wk wd)))] H := hP
  have hD : va_D A [(qo, aL cL 1 of), (h0, .inr (4, [.ref qs, .ref qr, .ref qm, .ref qw, .ref qt, .int (zi we)])), (qs, aI cI 10 (zup sf sl.toNat (f_X0_weekNumber ya wk wd)))] := hD
  refine zw_i2l hx hb dL_week_12 ⟨by omega, by omega⟩ ?_
  refine zw_last hx hb hK hP hD hS 0 1 rfl rfl (by omega) (by omega) ⟨by omega, by omega⟩ dL_week_13 (fun H locs hP hD hS => ?_)
  have hP : va_P (dC, dI) vwCl [(qo, aL cL 1 (zup of (Int.toNat 0) (f_X0_weekNumber ya wk wd))), (h0, .inr (4, [.ref qs, .ref qr, .ref qm, .ref qw, .ref qt, .int (zi we)])), (qs, aI cI 10 (zup sf sl.toNat (f_X0_weekNumber ya wk wd)))] H := hP
  have hD : va_D A [(qo, aL cL 1 (zup of (Int.toNat 0) (f_X0_weekNumber ya wk wd))), (h0, .inr (4, [.ref qs, .ref qr, .ref qm, .ref qw, .ref qt, .int (zi we)])), (qs, aI cI 10 (zup sf sl.toNat (f_X0_weekNumber ya wk wd)))] := hD
  refine lv_goto (tgt := 25) hx hb dL_week_14 (by decide) ?_
  refine zw_iconst hx hb dL_week_25 ?_
  have hP9 := hP.sub (ws' := [(h0, .inr (4, [.ref qs, .ref qr, .ref qm, .ref qw, .ref qt, .int (zi we)])), (qs, aI cI 10 (zup sf sl.toNat (f_X0_weekNumber ya wk wd))), (qo, aL cL 1 (zup of (Int.toNat 0) (f_X0_weekNumber ya wk wd)))]) [1, 2, 0] rfl
  have hD9 := hD.sub (ws' := [(h0, .inr (4, [.ref qs, .ref qr, .ref qm, .ref qw, .ref qt, .int (zi we)])), (qs, aI cI 10 (zup sf sl.toNat (f_X0_weekNumber ya wk wd))), (qo, aL cL 1 (zup of (Int.toNat 0) (f_X0_weekNumber ya wk wd)))]) [1, 2, 0] (by decide) rfl
  exact W.iret (v := zi 0) hx hb hr (fun t ht hW => ⟨⟨zi 0, (), rfl, rfl, by rw [ht]; exact hP9, va_K.moved hW.alike hK, hD9⟩, hS.F ht⟩) hS.2.2 dL_week_26

set_option maxHeartbeats 4000000 in
set_option maxRecDepth 100000 in
theorem c_L_easter_1 (l : Launch) (hst : l.stackTraces = false) (dC : Nat → ClassId) (dI : Nat → Nat → Nat) (cI : ClassId) (cL : ClassId) (h0 : Nat) (qs : Nat) (qr : Nat) (qm : Nat) (qw : Nat) (qt : Nat) (we : Int) (sf : Nat → Int) (qo : Nat) (of : Nat → Int) (sl : Int) (ya : Int) (sz : Nat) (hp0 : -2147483648 ≤ sl ∧ sl ≤ 2147483647) (hp1 : sl < 0 ∨ 9 < sl) : Met l yL_easter wsL_easter ({ frames := 8, cells := 1, slots := 6, locals := 132 }) (zPx (dC, dI) [(cI, .int), (cL, .long)] sz [.ref h0, .int (zi sl), .int (zi ya), .ref qo] [(h0, .inr (4, [.ref qs, .ref qr, .ref qm, .ref qw, .ref qt, .int (zi we)])), (qs, aI cI 10 sf), (qo, aL cL 1 of)]) (va_Qi (fun (r : Int32) (_ : Unit) => r = zi 1) (zB (dC, dI) [(cI, .int), (cL, .long)] (va_A [(h0, .inr (4, [.ref qs, .ref qr, .ref qm, .ref qw, .ref qt, .int (zi we)])), (qs, aI cI 10 sf), (qo, aL cL 1 of)] sz) [(h0, .inr (4, [.ref qs, .ref qr, .ref qm, .ref qw, .ref qt, .int (zi we)])), (qs, aI cI 10 sf), (qo, aL cL 1 of)]) (va_A [(h0, .inr (4, [.ref qs, .ref qr, .ref qm, .ref qw, .ref qt, .int (zi we)])), (qs, aI cI 10 sf), (qo, aL cL 1 of)] sz)) 1 6 (va_A [(h0, .inr (4, [.ref qs, .ref qr, .ref qm, .ref qw, .ref qt, .int (zi we)])), (qs, aI cI 10 sf), (qo, aL cL 1 of)] sz) := by
  refine va_MetW (hh := [(0, 10, 13, 13), (0, 10, 17, 15)]) (cc := cL_easter) (maxL := 5) (ret := (some .int)) (by decide) rfl ?_
  intro p e s m args below meth c s₁ B hml hv
  obtain ⟨rfl, hsz, hE, hP, hK, hD0⟩ := hv
  have hx := B.exec
  have hb := B.bytes
  have hr := B.returns
  have hts := atoms_spec (ws := wsL_easter) B.pre
  have hown : s.vm.findClass RL = some m.cls := findClass_of_methodNamed B.named
  have hlocks := B.notSynchronized
  have hex : c.exceptionTable.toList = [⟨0, 10, 13, 13⟩, ⟨0, 10, 17, 15⟩] := vx_table (x := yL_easter) B (hts _ List.mem_cons_self)
  subst hsz
  have hD := hD0.self (sz := s.heap.size)
  generalize hAe : va_A [(h0, .inr (4, [.ref qs, .ref qr, .ref qm, .ref qw, .ref qt, .int (zi we)])), (qs, aI cI 10 sf), (qo, aL cL 1 of)] s.heap.size = A at hD ⊢
  have hA : ∀ q : Nat, s.heap.size ≤ q → A q := fun q h => by rw [← hAe]; exact Or.inr h
  have hS : va_S A s.heap s.heap [] := va_S.rf
  have hP : va_P (dC, dI) vwCl [(h0, .inr (4, [.ref qs, .ref qr, .ref qm, .ref qw, .ref qt, .int (zi we)])), (qs, aI cI 10 sf), (qo, aL cL 1 of)] s.heap := hP
  have hl := lv_entry ([.ref h0, .int (zi sl), .int (zi ya), .ref qo]) (n := 5) (Nat.le_of_ble_eq_true rfl)
  rw [lg_entry_eq]
  generalize (lg_sl ([.ref h0, .int (zi sl), .int (zi ya), .ref qo]) ++ List.replicate (5 - (lg_sl ([.ref h0, .int (zi sl), .int (zi ya), .ref qo])).length) Slot.unset).toArray = ls at hl ⊢
  have hl : lv_has ls 5 [(0, .ref h0), (1, .int (zi sl)), (2, .int (zi ya)), (3, .ref qo)] := hl
  refine lv_aload_n hx hb dL_easter_0 rfl (lv_at hl 3 rfl) ?_
  refine zw_iconst hx hb dL_easter_1 ?_
  refine lv_aload_n hx hb dL_easter_2 rfl (lv_at hl 0 rfl) ?_
  refine lv_iload_n hx hb dL_easter_3 rfl (lv_at hl 1 rfl) ?_
  refine lv_iload_n hx hb dL_easter_4 rfl (lv_at hl 2 rfl) ?_
  have hh1 := t_X4_easter_1 l hst h0 sl ya (by omega) (by omega)
  refine zt_catch (own := RL) (name := "java/lang/IndexOutOfBoundsException") (vx_runV (As := [.int (zi sl), .int (zi ya)]) (rest := [.int (zi 0), .ref qo]) ⟨hx, hb, hml, hown, hts⟩ hh1 (cwV 2 hts gL_easter_X4_easter rfl rfl rfl (by decide +kernel) ⟨Nat.le_of_ble_eq_true rfl, Nat.le_of_ble_eq_true rfl⟩) ⟨zP.blind _, va_recv hK hP (ci := 4) (q0 := 0) rfl rfl, fun U hU hW => ⟨rfl, hE.call va_S.rf (fun q h => by rw [hU] at h; exact h) hU hW⟩⟩ rfl rfl hl.1 rfl (lv_room (Nat.le_of_ble_eq_true rfl)) dL_easter_5 ⟨Nat.le_of_ble_eq_true rfl, Nat.le_of_ble_eq_true rfl⟩) hown [] ⟨0, 10, 13, 13⟩ [⟨0, 10, 17, 15⟩] hex (List.forall_mem_nil _) (by decide) (by decide) (hts (.classLink RL 13 "java/lang/IndexOutOfBoundsException") (by decide +kernel)) (va_any rfl (hE.2.2.1 (.castable "java/lang/IndexOutOfBoundsException" "java/lang/IndexOutOfBoundsException") (by decide +kernel))) (fun qx H1 hz1 hk1 => ?_)
  have hP : va_P (dC, dI) vwCl [(h0, .inr (4, [.ref qs, .ref qr, .ref qm, .ref qw, .ref qt, .int (zi we)])), (qs, aI cI 10 sf), (qo, aL cL 1 of)] H1 := zk_world hP hk1
  have hS : va_S A s.heap H1 [] := zk_S hz1 hk1
  refine lv_astore (lv' := [(4, .ref qx), (0, .ref h0), (1, .int (zi sl)), (2, .int (zi ya)), (3, .ref qo)]) hx hb dL_easter_13 hl (by decide) rfl (fun ls hl => ?_)
  refine zw_iconst hx hb dL_easter_15 ?_
  have hP9 := hP.sub (ws' := [(h0, .inr (4, [.ref qs, .ref qr, .ref qm, .ref qw, .ref qt, .int (zi we)])), (qs, aI cI 10 sf), (qo, aL cL 1 of)]) [0, 1, 2] rfl
  have hD9 := hD.sub (ws' := [(h0, .inr (4, [.ref qs, .ref qr, .ref qm, .ref qw, .ref qt, .int (zi we)])), (qs, aI cI 10 sf), (qo, aL cL 1 of)]) [0, 1, 2] (by decide) rfl
  exact W.iret (v := zi 1) hx hb hr (fun t ht hW => ⟨⟨zi 1, (), rfl, rfl, by rw [ht]; exact hP9, va_K.moved hW.alike hK, hD9⟩, hS.F ht⟩) hS.2.2 dL_easter_16

set_option maxHeartbeats 4000000 in
set_option maxRecDepth 100000 in
theorem c_L_easter_2 (l : Launch) (hst : l.stackTraces = false) (dC : Nat → ClassId) (dI : Nat → Nat → Nat) (cI : ClassId) (cL : ClassId) (h0 : Nat) (qs : Nat) (qr : Nat) (qm : Nat) (qw : Nat) (qt : Nat) (we : Int) (sf : Nat → Int) (qo : Nat) (of : Nat → Int) (sl : Int) (ya : Int) (sz : Nat) (hp0 : 0 ≤ sl ∧ sl ≤ 9) (hp1 : -2147483648 ≤ ya ∧ ya ≤ 2147483647) (hp2 : (f_X0_easterNumber ya) = -1) : Met l yL_easter wsL_easter ({ frames := 8, cells := 1, slots := 6, locals := 134 }) (zPx (dC, dI) [(cI, .int), (cL, .long)] sz [.ref h0, .int (zi sl), .int (zi ya), .ref qo] [(h0, .inr (4, [.ref qs, .ref qr, .ref qm, .ref qw, .ref qt, .int (zi we)])), (qs, aI cI 10 sf), (qo, aL cL 1 of)]) (va_Qi (fun (r : Int32) (_ : Unit) => r = zi 2) (zB (dC, dI) [(cI, .int), (cL, .long)] (va_A [(h0, .inr (4, [.ref qs, .ref qr, .ref qm, .ref qw, .ref qt, .int (zi we)])), (qs, aI cI 10 sf), (qo, aL cL 1 of)] sz) [(h0, .inr (4, [.ref qs, .ref qr, .ref qm, .ref qw, .ref qt, .int (zi we)])), (qs, aI cI 10 sf), (qo, aL cL 1 of)]) (va_A [(h0, .inr (4, [.ref qs, .ref qr, .ref qm, .ref qw, .ref qt, .int (zi we)])), (qs, aI cI 10 sf), (qo, aL cL 1 of)] sz)) 1 6 (va_A [(h0, .inr (4, [.ref qs, .ref qr, .ref qm, .ref qw, .ref qt, .int (zi we)])), (qs, aI cI 10 sf), (qo, aL cL 1 of)] sz) := by
  refine va_MetW (hh := [(0, 10, 13, 13), (0, 10, 17, 15)]) (cc := cL_easter) (maxL := 5) (ret := (some .int)) (by decide) rfl ?_
  intro p e s m args below meth c s₁ B hml hv
  obtain ⟨rfl, hsz, hE, hP, hK, hD0⟩ := hv
  have hx := B.exec
  have hb := B.bytes
  have hr := B.returns
  have hts := atoms_spec (ws := wsL_easter) B.pre
  have hown : s.vm.findClass RL = some m.cls := findClass_of_methodNamed B.named
  have hlocks := B.notSynchronized
  have hex : c.exceptionTable.toList = [⟨0, 10, 13, 13⟩, ⟨0, 10, 17, 15⟩] := vx_table (x := yL_easter) B (hts _ List.mem_cons_self)
  subst hsz
  have hD := hD0.self (sz := s.heap.size)
  generalize hAe : va_A [(h0, .inr (4, [.ref qs, .ref qr, .ref qm, .ref qw, .ref qt, .int (zi we)])), (qs, aI cI 10 sf), (qo, aL cL 1 of)] s.heap.size = A at hD ⊢
  have hA : ∀ q : Nat, s.heap.size ≤ q → A q := fun q h => by rw [← hAe]; exact Or.inr h
  have hS : va_S A s.heap s.heap [] := va_S.rf
  have hP : va_P (dC, dI) vwCl [(h0, .inr (4, [.ref qs, .ref qr, .ref qm, .ref qw, .ref qt, .int (zi we)])), (qs, aI cI 10 sf), (qo, aL cL 1 of)] s.heap := hP
  have hl := lv_entry ([.ref h0, .int (zi sl), .int (zi ya), .ref qo]) (n := 5) (Nat.le_of_ble_eq_true rfl)
  rw [lg_entry_eq]
  generalize (lg_sl ([.ref h0, .int (zi sl), .int (zi ya), .ref qo]) ++ List.replicate (5 - (lg_sl ([.ref h0, .int (zi sl), .int (zi ya), .ref qo])).length) Slot.unset).toArray = ls at hl ⊢
  have hl : lv_has ls 5 [(0, .ref h0), (1, .int (zi sl)), (2, .int (zi ya)), (3, .ref qo)] := hl
  refine lv_aload_n hx hb dL_easter_0 rfl (lv_at hl 3 rfl) ?_
  refine zw_iconst hx hb dL_easter_1 ?_
  refine lv_aload_n hx hb dL_easter_2 rfl (lv_at hl 0 rfl) ?_
  refine lv_iload_n hx hb dL_easter_3 rfl (lv_at hl 1 rfl) ?_
  refine lv_iload_n hx hb dL_easter_4 rfl (lv_at hl 2 rfl) ?_
  have hh1 := t_X4_easter_2 l hst dC dI cI h0 qs qr qm qw qt we sf sl ya (by omega) (by omega) (by omega)
  have hPc := hP.sub (ws' := [(h0, .inr (4, [.ref qs, .ref qr, .ref qm, .ref qw, .ref qt, .int (zi we)])), (qs, aI cI 10 sf)]) [0, 1] rfl
  have hKc : va_K (dC, dI) vwCl [(cI, .int)] s := hK.sub (tys' := [(cI, .int)]) [0] rfl
  refine zt_catch (own := RL) (name := "java/lang/IllegalArgumentException") (vx_runV (As := [.int (zi sl), .int (zi ya)]) (rest := [.int (zi 0), .ref qo]) ⟨hx, hb, hml, hown, hts⟩ hh1 (cwV 2 hts gL_easter_X4_easter rfl rfl rfl (by decide +kernel) ⟨Nat.le_of_ble_eq_true rfl, Nat.le_of_ble_eq_true rfl⟩) ⟨zPt.blind _ _ _ _, va_recv hKc hPc (ci := 4) (q0 := 0) rfl rfl, fun U hU hW => ⟨rfl, hE.call va_S.rf (fun q h => by rw [hU] at h; exact h) hU hW, by rw [hU]; exact hPc, va_K.moved hW.alike hKc⟩⟩ rfl rfl hl.1 rfl (lv_room (Nat.le_of_ble_eq_true rfl)) dL_easter_5 ⟨Nat.le_of_ble_eq_true rfl, Nat.le_of_ble_eq_true rfl⟩) hown [⟨0, 10, 13, 13⟩] ⟨0, 10, 17, 15⟩ [] hex (List.forall_mem_cons.mpr ⟨⟨by decide, by decide, "java/lang/IndexOutOfBoundsException", (hts (.classLink RL 13 "java/lang/IndexOutOfBoundsException") (by decide +kernel)), hE.2.2.2.2 ("java/lang/IllegalArgumentException", "java/lang/IndexOutOfBoundsException") (by decide)⟩, List.forall_mem_nil _⟩) (by decide) (by decide) (hts (.classLink RL 15 "java/lang/IllegalArgumentException") (by decide +kernel)) (va_any rfl (hE.2.2.1 (.castable "java/lang/IllegalArgumentException" "java/lang/IllegalArgumentException") (by decide +kernel))) (fun qx H1 hz1 hk1 => ?_)
  have hP : va_P (dC, dI) vwCl [(h0, .inr (4, [.ref qs, .ref qr, .ref qm, .ref qw, .ref qt, .int (zi we)])), (qs, aI cI 10 sf), (qo, aL cL 1 of)] H1 := zk_world hP hk1
  have hS : va_S A s.heap H1 [] := zk_S hz1 hk1
  refine lv_astore (lv' := [(4, .ref qx), (0, .ref h0), (1, .int (zi sl)), (2, .int (zi ya)), (3, .ref qo)]) hx hb dL_easter_17 hl (by decide) rfl (fun ls hl => ?_)
  refine zw_iconst hx hb dL_easter_19 ?_
  have hP9 := hP.sub (ws' := [(h0, .inr (4, [.ref qs, .ref qr, .ref qm, .ref qw, .ref qt, .int (zi we)])), (qs, aI cI 10 sf), (qo, aL cL 1 of)]) [0, 1, 2] rfl
  have hD9 := hD.sub (ws' := [(h0, .inr (4, [.ref qs, .ref qr, .ref qm, .ref qw, .ref qt, .int (zi we)])), (qs, aI cI 10 sf), (qo, aL cL 1 of)]) [0, 1, 2] (by decide) rfl
  exact W.iret (v := zi 2) hx hb hr (fun t ht hW => ⟨⟨zi 2, (), rfl, rfl, by rw [ht]; exact hP9, va_K.moved hW.alike hK, hD9⟩, hS.F ht⟩) hS.2.2 dL_easter_20

set_option maxHeartbeats 4000000 in
set_option maxRecDepth 100000 in
theorem c_L_easter (l : Launch)  (dC : Nat → ClassId) (dI : Nat → Nat → Nat) (cI : ClassId) (cL : ClassId) (h0 : Nat) (qs : Nat) (qr : Nat) (qm : Nat) (qw : Nat) (qt : Nat) (we : Int) (sf : Nat → Int) (qo : Nat) (of : Nat → Int) (sl : Int) (ya : Int) (sz : Nat) (hp0 : 0 ≤ sl ∧ sl ≤ 9) (hp1 : -2147483648 ≤ ya ∧ ya ≤ 2147483647) (hp2 : (f_X0_easterNumber ya) ≠ -1) (hp3 : -1 ≤ (f_X0_easterNumber ya) ∧ (f_X0_easterNumber ya) ≤ 4000000) : Met l yL_easter wsL_easter ({ frames := 4, cells := 0, slots := 0, locals := 90 }) (zPw (dC, dI) [(cI, .int), (cL, .long)] sz [.ref h0, .int (zi sl), .int (zi ya), .ref qo] [(h0, .inr (4, [.ref qs, .ref qr, .ref qm, .ref qw, .ref qt, .int (zi we)])), (qs, aI cI 10 sf), (qo, aL cL 1 of)]) (va_Qi (fun (r : Int32) (_ : Unit) => r = zi 0) (zB (dC, dI) [(cI, .int), (cL, .long)] (va_A [(h0, .inr (4, [.ref qs, .ref qr, .ref qm, .ref qw, .ref qt, .int (zi we)])), (qs, aI cI 10 sf), (qo, aL cL 1 of)] sz) [(h0, .inr (4, [.ref qs, .ref qr, .ref qm, .ref qw, .ref qt, .int (zi we)])), (qs, aI cI 10 (zup sf sl.toNat (f_X0_easterNumber ya))), (qo, aL cL 1 (zup of (Int.toNat 0) (f_X0_easterNumber ya)))]) (va_A [(h0, .inr (4, [.ref qs, .ref qr, .ref qm, .ref qw, .ref qt, .int (zi we)])), (qs, aI cI 10 sf), (qo, aL cL 1 of)] sz)) 0 0 (va_A [(h0, .inr (4, [.ref qs, .ref qr, .ref qm, .ref qw, .ref qt, .int (zi we)])), (qs, aI cI 10 sf), (qo, aL cL 1 of)] sz) := by
  refine va_MetW (hh := [(0, 10, 13, 13), (0, 10, 17, 15)]) (cc := cL_easter) (maxL := 5) (ret := (some .int)) (by decide) rfl ?_
  intro p e s m args below meth c s₁ B hml hv
  obtain ⟨rfl, hsz, hP, hK, hD0⟩ := hv
  have hx := B.exec
  have hb := B.bytes
  have hr := B.returns
  have hts := atoms_spec (ws := wsL_easter) B.pre
  have hown : s.vm.findClass RL = some m.cls := findClass_of_methodNamed B.named
  have hlocks := B.notSynchronized
  subst hsz
  have hD := hD0.self (sz := s.heap.size)
  generalize hAe : va_A [(h0, .inr (4, [.ref qs, .ref qr, .ref qm, .ref qw, .ref qt, .int (zi we)])), (qs, aI cI 10 sf), (qo, aL cL 1 of)] s.heap.size = A at hD ⊢
  have hA : ∀ q : Nat, s.heap.size ≤ q → A q := fun q h => by rw [← hAe]; exact Or.inr h
  have hS : va_S A s.heap s.heap [] := va_S.rf
  have hP : va_P (dC, dI) vwCl [(h0, .inr (4, [.ref qs, .ref qr, .ref qm, .ref qw, .ref qt, .int (zi we)])), (qs, aI cI 10 sf), (qo, aL cL 1 of)] s.heap := hP
  have hl := lv_entry ([.ref h0, .int (zi sl), .int (zi ya), .ref qo]) (n := 5) (Nat.le_of_ble_eq_true rfl)
  rw [lg_entry_eq]
  generalize (lg_sl ([.ref h0, .int (zi sl), .int (zi ya), .ref qo]) ++ List.replicate (5 - (lg_sl ([.ref h0, .int (zi sl), .int (zi ya), .ref qo])).length) Slot.unset).toArray = ls at hl ⊢
  have hl : lv_has ls 5 [(0, .ref h0), (1, .int (zi sl)), (2, .int (zi ya)), (3, .ref qo)] := hl
  refine lv_aload_n hx hb dL_easter_0 rfl (lv_at hl 3 rfl) ?_
  refine zw_iconst hx hb dL_easter_1 ?_
  refine lv_aload_n hx hb dL_easter_2 rfl (lv_at hl 0 rfl) ?_
  refine lv_iload_n hx hb dL_easter_3 rfl (lv_at hl 1 rfl) ?_
  refine lv_iload_n hx hb dL_easter_4 rfl (lv_at hl 2 rfl) ?_
  have hh1 := c_X4_easter l dC dI cI h0 qs qr qm qw qt we sf sl ya s.heap.size (by omega) (by omega) (by omega)
  have hPc := hP.sub (ws' := [(h0, .inr (4, [.ref qs, .ref qr, .ref qm, .ref qw, .ref qt, .int (zi we)])), (qs, aI cI 10 sf)]) [0, 1] rfl
  have hKc : va_K (dC, dI) vwCl [(cI, .int)] s := hK.sub (tys' := [(cI, .int)]) [0] rfl
  have hDc := hD.sub (ws' := [(h0, .inr (4, [.ref qs, .ref qr, .ref qm, .ref qw, .ref qt, .int (zi we)])), (qs, aI cI 10 sf)]) [0, 1] (by decide) rfl
  have hFc := va_free (wc := [(h0, .inr (4, [.ref qs, .ref qr, .ref qm, .ref qw, .ref qt, .int (zi we)])), (qs, aI cI 10 sf)]) hD hS hA [0, 1] rfl
  refine va_calli (va_runV (As := [.int (zi sl), .int (zi ya)]) (rest := [.int (zi 0), .ref qo]) ⟨hx, hb, hml, hown, hts⟩ hh1 (cwV 2 hts gL_easter_X4_easter rfl rfl rfl (by decide +kernel) ⟨Nat.le_of_ble_eq_true rfl, Nat.le_of_ble_eq_true rfl⟩) ⟨zPw.blind _ _ _ _ _, va_recv hKc hPc (ci := 4) (q0 := 0) rfl rfl, fun U hU hW => ⟨rfl, by rw [hU], by rw [hU]; exact hPc, va_K.moved hW.alike hKc, hDc.weaken (fun _ _ _ _ => trivial)⟩⟩ rfl rfl hl.1 rfl (lv_room (Nat.le_of_ble_eq_true rfl)) dL_easter_5 ⟨Nat.le_of_ble_eq_true rfl, Nat.le_of_ble_eq_true rfl⟩) hS (fun q _ h => hFc q h) hFc (fun r1 u t H1 locs ht hvm hw hB hz1 hk1 hS => ?_)
  obtain ⟨hP1, hK1, hD1⟩ := hB
  rw [ht] at hP1
  obtain ⟨hP, hD⟩ := va_join (wr := [(qo, aL cL 1 of)]) (w1 := [(h0, .inr (4, [.ref qs, .ref qr, .ref qm, .ref qw, .ref qt, .int (zi we)])), (qs, aI cI 10 (zup sf sl.toNat (f_X0_easterNumber ya)))]) hP hD [0, 1] [2] rfl rfl (by decide) (by decide) hk1 hFc hP1 hD1
  generalize H1 = H at hP hS ⊢
  obtain rfl : r1 = zi (f_X0_easterNumber ya) := hw
  have hP : va_P (dC, dI) vwCl [(qo, aL cL 1 of), (h0, .inr (4, [.ref qs, .ref qr, .ref qm, .ref qw, .ref qt, .int (zi we)])), (qs, aI cI 10 (zup sf sl.toNat (f_X0_easterNumber ya)))] H := hP
  have hD : va_D A [(qo, aL cL 1 of), (h0, .inr (4, [.ref qs, .ref qr, .ref qm, .ref qw, .ref qt, .int (zi we)])), (qs, aI cI 10 (zup sf sl.toNat (f_X0_easterNumber ya)))] := hD
  refine zw_i2l hx hb dL_easter_8 ⟨by omega, by omega⟩ ?_
  refine zw_last hx hb hK hP hD hS 0 1 rfl rfl (by omega) (by omega) ⟨by omega, by omega⟩ dL_easter_9 (fun H locs hP hD hS => ?_)
  have hP : va_P (dC, dI) vwCl [(qo, aL cL 1 (zup of (Int.toNat 0) (f_X0_easterNumber ya))), (h0, .inr (4, [.ref qs, .ref qr, .ref qm, .ref qw, .ref qt, .int (zi we)])), (qs, aI cI 10 (zup sf sl.toNat (f_X0_easterNumber ya)))] H := hP
  have hD : va_D A [(qo, aL cL 1 (zup of (Int.toNat 0) (f_X0_easterNumber ya))), (h0, .inr (4, [.ref qs, .ref qr, .ref qm, .ref qw, .ref qt, .int (zi we)])), (qs, aI cI 10 (zup sf sl.toNat (f_X0_easterNumber ya)))] := hD
  refine lv_goto (tgt := 21) hx hb dL_easter_10 (by decide) ?_
  refine zw_iconst hx hb dL_easter_21 ?_
  have hP9 := hP.sub (ws' := [(h0, .inr (4, [.ref qs, .ref qr, .ref qm, .ref qw, .ref qt, .int (zi we)])), (qs, aI cI 10 (zup sf sl.toNat (f_X0_easterNumber ya))), (qo, aL cL 1 (zup of (Int.toNat 0) (f_X0_easterNumber ya)))]) [1, 2, 0] rfl
  have hD9 := hD.sub (ws' := [(h0, .inr (4, [.ref qs, .ref qr, .ref qm, .ref qw, .ref qt, .int (zi we)])), (qs, aI cI 10 (zup sf sl.toNat (f_X0_easterNumber ya))), (qo, aL cL 1 (zup of (Int.toNat 0) (f_X0_easterNumber ya)))]) [1, 2, 0] (by decide) rfl
  exact W.iret (v := zi 0) hx hb hr (fun t ht hW => ⟨⟨zi 0, (), rfl, rfl, by rw [ht]; exact hP9, va_K.moved hW.alike hK, hD9⟩, hS.F ht⟩) hS.2.2 dL_easter_22

set_option maxHeartbeats 4000000 in
set_option maxRecDepth 100000 in
theorem c_L_nth_1 (l : Launch) (hst : l.stackTraces = false) (dC : Nat → ClassId) (dI : Nat → Nat → Nat) (cI : ClassId) (cL : ClassId) (h0 : Nat) (qs : Nat) (qr : Nat) (qm : Nat) (qw : Nat) (qt : Nat) (we : Int) (sf : Nat → Int) (qo : Nat) (of : Nat → Int) (sl : Int) (ya : Int) (mo : Int) (wd : Int) (nn : Int) (sz : Nat) (hp0 : -2147483648 ≤ sl ∧ sl ≤ 2147483647) (hp1 : sl < 0 ∨ 9 < sl) : Met l yL_nth wsL_nth ({ frames := 8, cells := 1, slots := 6, locals := 135 }) (zPx (dC, dI) [(cI, .int), (cL, .long)] sz [.ref h0, .int (zi sl), .int (zi ya), .int (zi mo), .int (zi wd), .int (zi nn), .ref qo] [(h0, .inr (4, [.ref qs, .ref qr, .ref qm, .ref qw, .ref qt, .int (zi we)])), (qs, aI cI 10 sf), (qo, aL cL 1 of)]) (va_Qi (fun (r : Int32) (_ : Unit) => r = zi 1) (zB (dC, dI) [(cI, .int), (cL, .long)] (va_A [(h0, .inr (4, [.ref qs, .ref qr, .ref qm, .ref qw, .ref qt, .int (zi we)])), (qs, aI cI 10 sf), (qo, aL cL 1 of)] sz) [(h0, .inr (4, [.ref qs, .ref qr, .ref qm, .ref qw, .ref qt, .int (zi we)])), (qs, aI cI 10 sf), (qo, aL cL 1 of)]) (va_A [(h0, .inr (4, [.ref qs, .ref qr, .ref qm, .ref qw, .ref qt, .int (zi we)])), (qs, aI cI 10 sf), (qo, aL cL 1 of)] sz)) 1 6 (va_A [(h0, .inr (4, [.ref qs, .ref qr, .ref qm, .ref qw, .ref qt, .int (zi we)])), (qs, aI cI 10 sf), (qo, aL cL 1 of)] sz) := by
  refine va_MetW (hh := [(0, 16, 19, 13), (0, 16, 23, 15)]) (cc := cL_nth) (maxL := 8) (ret := (some .int)) (by decide) rfl ?_
  intro p e s m args below meth c s₁ B hml hv
  obtain ⟨rfl, hsz, hE, hP, hK, hD0⟩ := hv
  have hx := B.exec
  have hb := B.bytes
  have hr := B.returns
  have hts := atoms_spec (ws := wsL_nth) B.pre
  have hown : s.vm.findClass RL = some m.cls := findClass_of_methodNamed B.named
  have hlocks := B.notSynchronized
  have hex : c.exceptionTable.toList = [⟨0, 16, 19, 13⟩, ⟨0, 16, 23, 15⟩] := vx_table (x := yL_nth) B (hts _ List.mem_cons_self)
  subst hsz
  have hD := hD0.self (sz := s.heap.size)
  generalize hAe : va_A [(h0, .inr (4, [.ref qs, .ref qr, .ref qm, .ref qw, .ref qt, .int (zi we)])), (qs, aI cI 10 sf), (qo, aL cL 1 of)] s.heap.size = A at hD ⊢
  have hA : ∀ q : Nat, s.heap.size ≤ q → A q := fun q h => by rw [← hAe]; exact Or.inr h
  have hS : va_S A s.heap s.heap [] := va_S.rf
  have hP : va_P (dC, dI) vwCl [(h0, .inr (4, [.ref qs, .ref qr, .ref qm, .ref qw, .ref qt, .int (zi we)])), (qs, aI cI 10 sf), (qo, aL cL 1 of)] s.heap := hP
  have hl := lv_entry ([.ref h0, .int (zi sl), .int (zi ya), .int (zi mo), .int (zi wd), .int (zi nn), .ref qo]) (n := 8) (Nat.le_of_ble_eq_true rfl)
  rw [lg_entry_eq]
  generalize (lg_sl ([.ref h0, .int (zi sl), .int (zi ya), .int (zi mo), .int (zi wd), .int (zi nn), .ref qo]) ++ List.replicate (8 - (lg_sl ([.ref h0, .int (zi sl), .int (zi ya), .int (zi mo), .int (zi wd), .int (zi nn), .ref qo])).length) Slot.unset).toArray = ls at hl ⊢
  have hl : lv_has ls 8 [(0, .ref h0), (1, .int (zi sl)), (2, .int (zi ya)), (3, .int (zi mo)), (4, .int (zi wd)), (5, .int (zi nn)), (6, .ref qo)] := hl
  refine lv_aload hx hb dL_nth_0 (lv_at hl 6 rfl) ?_
  refine zw_iconst hx hb dL_nth_2 ?_
  refine lv_aload_n hx hb dL_nth_3 rfl (lv_at hl 0 rfl) ?_
  refine lv_iload_n hx hb dL_nth_4 rfl (lv_at hl 1 rfl) ?_
  refine lv_iload_n hx hb dL_nth_5 rfl (lv_at hl 2 rfl) ?_
  refine lv_iload_n hx hb dL_nth_6 rfl (lv_at hl 3 rfl) ?_
  refine lv_iload hx hb dL_nth_7 (lv_at hl 4 rfl) ?_
  refine lv_iload hx hb dL_nth_9 (lv_at hl 5 rfl) ?_
  have hh1 := t_X4_nth_1 l hst h0 sl ya mo wd nn (by omega) (by omega)
  refine zt_catch (own := RL) (name := "java/lang/IndexOutOfBoundsException") (vx_runV (As := [.int (zi sl), .int (zi ya), .int (zi mo), .int (zi wd), .int (zi nn)]) (rest := [.int (zi 0), .ref qo]) ⟨hx, hb, hml, hown, hts⟩ hh1 (cwV 5 hts gL_nth_X4_nth rfl rfl rfl (by decide +kernel) ⟨Nat.le_of_ble_eq_true rfl, Nat.le_of_ble_eq_true rfl⟩) ⟨zP.blind _, va_recv hK hP (ci := 4) (q0 := 0) rfl rfl, fun U hU hW => ⟨rfl, hE.call va_S.rf (fun q h => by rw [hU] at h; exact h) hU hW⟩⟩ rfl rfl hl.1 rfl (lv_room (Nat.le_of_ble_eq_true rfl)) dL_nth_11 ⟨Nat.le_of_ble_eq_true rfl, Nat.le_of_ble_eq_true rfl⟩) hown [] ⟨0, 16, 19, 13⟩ [⟨0, 16, 23, 15⟩] hex (List.forall_mem_nil _) (by decide) (by decide) (hts (.classLink RL 13 "java/lang/IndexOutOfBoundsException") (by decide +kernel)) (va_any rfl (hE.2.2.1 (.castable "java/lang/IndexOutOfBoundsException" "java/lang/IndexOutOfBoundsException") (by decide +kernel))) (fun qx H1 hz1 hk1 => ?_)
  have hP : va_P (dC, dI) vwCl [(h0, .inr (4, [.ref qs, .ref qr, .ref qm, .ref qw, .ref qt, .int (zi we)])), (qs, aI cI 10 sf), (qo, aL cL 1 of)] H1 := zk_world hP hk1
  have hS : va_S A s.heap H1 [] := zk_S hz1 hk1
  refine lv_astore (lv' := [(7, .ref qx), (0, .ref h0), (1, .int (zi sl)), (2, .int (zi ya)), (3, .int (zi mo)), (4, .int (zi wd)), (5, .int (zi nn)), (6, .ref qo)]) hx hb dL_nth_19 hl (by decide) rfl (fun ls hl => ?_)
  refine zw_iconst hx hb dL_nth_21 ?_
  have hP9 := hP.sub (ws' := [(h0, .inr (4, [.ref qs, .ref qr, .ref qm, .ref qw, .ref qt, .int (zi we)])), (qs, aI cI 10 sf), (qo, aL cL 1 of)]) [0, 1, 2] rfl
  have hD9 := hD.sub (ws' := [(h0, .inr (4, [.ref qs, .ref qr, .ref qm, .ref qw, .ref qt, .int (zi we)])), (qs, aI cI 10 sf), (qo, aL cL 1 of)]) [0, 1, 2] (by decide) rfl
  exact W.iret (v := zi 1) hx hb hr (fun t ht hW => ⟨⟨zi 1, (), rfl, rfl, by rw [ht]; exact hP9, va_K.moved hW.alike hK, hD9⟩, hS.F ht⟩) hS.2.2 dL_nth_22

set_option maxHeartbeats 4000000 in
set_option maxRecDepth 100000 in
theorem c_L_nth_2 (l : Launch) (hst : l.stackTraces = false) (dC : Nat → ClassId) (dI : Nat → Nat → Nat) (cI : ClassId) (cL : ClassId) (h0 : Nat) (qs : Nat) (qr : Nat) (qm : Nat) (qw : Nat) (qt : Nat) (we : Int) (sf : Nat → Int) (qo : Nat) (of : Nat → Int) (sl : Int) (ya : Int) (mo : Int) (wd : Int) (nn : Int) (sz : Nat) (hp0 : 0 ≤ sl ∧ sl ≤ 9) (hp1 : -2147483648 ≤ ya ∧ ya ≤ 2147483647) (hp2 : -2147483648 ≤ mo ∧ mo ≤ 2147483647) (hp3 : -2147483648 ≤ wd ∧ wd ≤ 2147483647) (hp4 : -2147483648 ≤ nn ∧ nn ≤ 2147483647) (hp5 : (f_X0_nthNumber ya mo wd nn) = -1) : Met l yL_nth wsL_nth ({ frames := 8, cells := 1, slots := 6, locals := 137 }) (zPx (dC, dI) [(cI, .int), (cL, .long)] sz [.ref h0, .int (zi sl), .int (zi ya), .int (zi mo), .int (zi wd), .int (zi nn), .ref qo] [(h0, .inr (4, [.ref qs, .ref qr, .ref qm, .ref qw, .ref qt, .int (zi we)])), (qs, aI cI 10 sf), (qo, aL cL 1 of)]) (va_Qi (fun (r : Int32) (_ : Unit) => r = zi 2) (zB (dC, dI) [(cI, .int), (cL, .long)] (va_A [(h0, .inr (4, [.ref qs, .ref qr, .ref qm, .ref qw, .ref qt, .int (zi we)])), (qs, aI cI 10 sf), (qo, aL cL 1 of)] sz) [(h0, .inr (4, [.ref qs, .ref qr, .ref qm, .ref qw, .ref qt, .int (zi we)])), (qs, aI cI 10 sf), (qo, aL cL 1 of)]) (va_A [(h0, .inr (4, [.ref qs, .ref qr, .ref qm, .ref qw, .ref qt, .int (zi we)])), (qs, aI cI 10 sf), (qo, aL cL 1 of)] sz)) 1 6 (va_A [(h0, .inr (4, [.ref qs, .ref qr, .ref qm, .ref qw, .ref qt, .int (zi we)])), (qs, aI cI 10 sf), (qo, aL cL 1 of)] sz) := by
  refine va_MetW (hh := [(0, 16, 19, 13), (0, 16, 23, 15)]) (cc := cL_nth) (maxL := 8) (ret := (some .int)) (by decide) rfl ?_
  intro p e s m args below meth c s₁ B hml hv
  obtain ⟨rfl, hsz, hE, hP, hK, hD0⟩ := hv
  have hx := B.exec
  have hb := B.bytes
  have hr := B.returns
  have hts := atoms_spec (ws := wsL_nth) B.pre
  have hown : s.vm.findClass RL = some m.cls := findClass_of_methodNamed B.named
  have hlocks := B.notSynchronized
  have hex : c.exceptionTable.toList = [⟨0, 16, 19, 13⟩, ⟨0, 16, 23, 15⟩] := vx_table (x := yL_nth) B (hts _ List.mem_cons_self)
  subst hsz
  have hD := hD0.self (sz := s.heap.size)
  generalize hAe : va_A [(h0, .inr (4, [.ref qs, .ref qr, .ref qm, .ref qw, .ref qt, .int (zi we)])), (qs, aI cI 10 sf), (qo, aL cL 1 of)] s.heap.size = A at hD ⊢
  have hA : ∀ q : Nat, s.heap.size ≤ q → A q := fun q h => by rw [← hAe]; exact Or.inr h
  have hS : va_S A s.heap s.heap [] := va_S.rf
  have hP : va_P (dC, dI) vwCl [(h0, .inr (4, [.ref qs, .ref qr, .ref qm, .ref qw, .ref qt, .int (zi we)])), (qs, aI cI 10 sf), (qo, aL cL 1 of)] s.heap := hP
  have hl := lv_entry ([.ref h0, .int (zi sl), .int (zi ya), .int (zi mo), .int (zi wd), .int (zi nn), .ref qo]) (n := 8) (Nat.le_of_ble_eq_true rfl)
  rw [lg_entry_eq]
  generalize (lg_sl ([.ref h0, .int (zi sl), .int (zi ya), .int (zi mo), .int (zi wd), .int (zi nn), .ref qo]) ++ List.replicate (8 - (lg_sl ([.ref h0, .int (zi sl), .int (zi ya), .int (zi mo), .int (zi wd), .int (zi nn), .ref qo])).length) Slot.unset).toArray = ls at hl ⊢
  have hl : lv_has ls 8 [(0, .ref h0), (1, .int (zi sl)), (2, .int (zi ya)), (3, .int (zi mo)), (4, .int (zi wd)), (5, .int (zi nn)), (6, .ref qo)] := hl
  refine lv_aload hx hb dL_nth_0 (lv_at hl 6 rfl) ?_
  refine zw_iconst hx hb dL_nth_2 ?_
  refine lv_aload_n hx hb dL_nth_3 rfl (lv_at hl 0 rfl) ?_
  refine lv_iload_n hx hb dL_nth_4 rfl (lv_at hl 1 rfl) ?_
  refine lv_iload_n hx hb dL_nth_5 rfl (lv_at hl 2 rfl) ?_
  refine lv_iload_n hx hb dL_nth_6 rfl (lv_at hl 3 rfl) ?_
  refine lv_iload hx hb dL_nth_7 (lv_at hl 4 rfl) ?_
  refine lv_iload hx hb dL_nth_9 (lv_at hl 5 rfl) ?_
  have hh1 := t_X4_nth_2 l hst dC dI cI h0 qs qr qm qw qt we sf sl ya mo wd nn (by omega) (by omega) (by omega) (by omega) (by omega) (by omega)
  have hPc := hP.sub (ws' := [(h0, .inr (4, [.ref qs, .ref qr, .ref qm, .ref qw, .ref qt, .int (zi we)])), (qs, aI cI 10 sf)]) [0, 1] rfl
  have hKc : va_K (dC, dI) vwCl [(cI, .int)] s := hK.sub (tys' := [(cI, .int)]) [0] rfl
  refine zt_catch (own := RL) (name := "java/lang/IllegalArgumentException") (vx_runV (As := [.int (zi sl), .int (zi ya), .int (zi mo), .int (zi wd), .int (zi nn)]) (rest := [.int (zi 0), .ref qo]) ⟨hx, hb, hml, hown, hts⟩ hh1 (cwV 5 hts gL_nth_X4_nth rfl rfl rfl (by decide +kernel) ⟨Nat.le_of_ble_eq_true rfl, Nat.le_of_ble_eq_true rfl⟩) ⟨zPt.blind _ _ _ _, va_recv hKc hPc (ci := 4) (q0 := 0) rfl rfl, fun U hU hW => ⟨rfl, hE.call va_S.rf (fun q h => by rw [hU] at h; exact h) hU hW, by rw [hU]; exact hPc, va_K.moved hW.alike hKc⟩⟩ rfl rfl hl.1 rfl (lv_room (Nat.le_of_ble_eq_true rfl)) dL_nth_11 ⟨Nat.le_of_ble_eq_true rfl, Nat.le_of_ble_eq_true rfl⟩) hown [⟨0, 16, 19, 13⟩] ⟨0, 16, 23, 15⟩ [] hex (List.forall_mem_cons.mpr ⟨⟨by decide, by decide, "java/lang/IndexOutOfBoundsException", (hts (.classLink RL 13 "java/lang/IndexOutOfBoundsException") (by decide +kernel)), hE.2.2.2.2 ("java/lang/IllegalArgumentException", "java/lang/IndexOutOfBoundsException") (by decide)⟩, List.forall_mem_nil _⟩) (by decide) (by decide) (hts (.classLink RL 15 "java/lang/IllegalArgumentException") (by decide +kernel)) (va_any rfl (hE.2.2.1 (.castable "java/lang/IllegalArgumentException" "java/lang/IllegalArgumentException") (by decide +kernel))) (fun qx H1 hz1 hk1 => ?_)
  have hP : va_P (dC, dI) vwCl [(h0, .inr (4, [.ref qs, .ref qr, .ref qm, .ref qw, .ref qt, .int (zi we)])), (qs, aI cI 10 sf), (qo, aL cL 1 of)] H1 := zk_world hP hk1
  have hS : va_S A s.heap H1 [] := zk_S hz1 hk1
  refine lv_astore (lv' := [(7, .ref qx), (0, .ref h0), (1, .int (zi sl)), (2, .int (zi ya)), (3, .int (zi mo)), (4, .int (zi wd)), (5, .int (zi nn)), (6, .ref qo)]) hx hb dL_nth_23 hl (by decide) rfl (fun ls hl => ?_)
  refine zw_iconst hx hb dL_nth_25 ?_
  have hP9 := hP.sub (ws' := [(h0, .inr (4, [.ref qs, .ref qr, .ref qm, .ref qw, .ref qt, .int (zi we)])), (qs, aI cI 10 sf), (qo, aL cL 1 of)]) [0, 1, 2] rfl
  have hD9 := hD.sub (ws' := [(h0, .inr (4, [.ref qs, .ref qr, .ref qm, .ref qw, .ref qt, .int (zi we)])), (qs, aI cI 10 sf), (qo, aL cL 1 of)]) [0, 1, 2] (by decide) rfl
  exact W.iret (v := zi 2) hx hb hr (fun t ht hW => ⟨⟨zi 2, (), rfl, rfl, by rw [ht]; exact hP9, va_K.moved hW.alike hK, hD9⟩, hS.F ht⟩) hS.2.2 dL_nth_26

set_option maxHeartbeats 4000000 in
set_option maxRecDepth 100000 in
theorem c_L_nth (l : Launch)  (dC : Nat → ClassId) (dI : Nat → Nat → Nat) (cI : ClassId) (cL : ClassId) (h0 : Nat) (qs : Nat) (qr : Nat) (qm : Nat) (qw : Nat) (qt : Nat) (we : Int) (sf : Nat → Int) (qo : Nat) (of : Nat → Int) (sl : Int) (ya : Int) (mo : Int) (wd : Int) (nn : Int) (sz : Nat) (hp0 : 0 ≤ sl ∧ sl ≤ 9) (hp1 : -2147483648 ≤ ya ∧ ya ≤ 2147483647) (hp2 : -2147483648 ≤ mo ∧ mo ≤ 2147483647) (hp3 : -2147483648 ≤ wd ∧ wd ≤ 2147483647) (hp4 : -2147483648 ≤ nn ∧ nn ≤ 2147483647) (hp5 : (f_X0_nthNumber ya mo wd nn) ≠ -1) (hp6 : -1 ≤ (f_X0_nthNumber ya mo wd nn) ∧ (f_X0_nthNumber ya mo wd nn) ≤ 4000000) : Met l yL_nth wsL_nth ({ frames := 4, cells := 0, slots := 0, locals := 94 }) (zPw (dC, dI) [(cI, .int), (cL, .long)] sz [.ref h0, .int (zi sl), .int (zi ya), .int (zi mo), .int (zi wd), .int (zi nn), .ref qo] [(h0, .inr (4, [.ref qs, .ref qr, .ref qm, .ref qw, .ref qt, .int (zi we)])), (qs, aI cI 10 sf), (qo, aL cL 1 of)]) (va_Qi (fun (r : Int32) (_ : Unit) => r = zi 0) (zB (dC, dI) [(cI, .int), (cL, .long)] (va_A [(h0, .inr (4, [.ref qs, .ref qr, .ref qm, .ref qw, .ref qt, .int (zi we)])), (qs, aI cI 10 sf), (qo, aL cL 1 of)] sz) [(h0, .inr (4, [.ref qs, .ref qr, .ref qm, .ref qw, .ref qt, .int (zi we)])), (qs, aI cI 10 (zup sf sl.toNat (f_X0_nthNumber ya mo wd nn))), (qo, aL cL 1 (zup of (Int.toNat 0) (f_X0_nthNumber ya mo wd nn)))]) (va_A [(h0, .inr (4, [.ref qs, .ref qr, .ref qm, .ref qw, .ref qt, .int (zi we)])), (qs, aI cI 10 sf), (qo, aL cL 1 of)] sz)) 0 0 (va_A [(h0, .inr (4, [.ref qs, .ref qr, .ref qm, .ref qw, .ref qt, .int (zi we)])), (qs, aI cI 10 sf), (qo, aL cL 1 of)] sz) := by
  refine va_MetW (hh := [(0, 16, 19, 13), (0, 16, 23, 15)]) (cc := cL_nth) (maxL := 8) (ret := (some .int)) (by decide) rfl ?_
  intro p e s m args below meth c s₁ B hml hv
  obtain ⟨rfl, hsz, hP, hK, hD0⟩ := hv
  have hx := B.exec
  have hb := B.bytes
  have hr := B.returns
  have hts := atoms_spec (ws := wsL_nth) B.pre
  have hown : s.vm.findClass RL = some m.cls := findClass_of_methodNamed B.named
  have hlocks := B.notSynchronized
  subst hsz
  have hD := hD0.self (sz := s.heap.size)
  generalize hAe : va_A [(h0, .inr (4, [.ref qs, .ref qr, .ref qm, .ref qw, .ref qt, .int (zi we)])), (qs, aI cI 10 sf), (qo, aL cL 1 of)] s.heap.size = A at hD ⊢
  have hA : ∀ q : Nat, s.heap.size ≤ q → A q := fun q h => by rw [← hAe]; exact Or.inr h
  have hS : va_S A s.heap s.heap [] := va_S.rf
  have hP : va_P (dC, dI) vwCl [(h0, .inr (4, [.ref qs, .ref qr, .ref qm, .ref qw, .ref qt, .int (zi we)])), (qs, aI cI 10 sf), (qo, aL cL 1 of)] s.heap := hP
  have hl := lv_entry ([.ref h0, .int (zi sl), .int (zi ya), .int (zi mo), .int (zi wd), .int (zi nn), .ref qo]) (n := 8) (Nat.le_of_ble_eq_true rfl)
  rw [lg_entry_eq]
  generalize (lg_sl ([.ref h0, .int (zi sl), .int (zi ya), .int (zi mo), .int (zi wd), .int (zi nn), .ref qo]) ++ List.replicate (8 - (lg_sl ([.ref h0, .int (zi sl), .int (zi ya), .int (zi mo), .int (zi wd), .int (zi nn), .ref qo])).length) Slot.unset).toArray = ls at hl ⊢
  have hl : lv_has ls 8 [(0, .ref h0), (1, .int (zi sl)), (2, .int (zi ya)), (3, .int (zi mo)), (4, .int (zi wd)), (5, .int (zi nn)), (6, .ref qo)] := hl
  refine lv_aload hx hb dL_nth_0 (lv_at hl 6 rfl) ?_
  refine zw_iconst hx hb dL_nth_2 ?_
  refine lv_aload_n hx hb dL_nth_3 rfl (lv_at hl 0 rfl) ?_
  refine lv_iload_n hx hb dL_nth_4 rfl (lv_at hl 1 rfl) ?_
  refine lv_iload_n hx hb dL_nth_5 rfl (lv_at hl 2 rfl) ?_
  refine lv_iload_n hx hb dL_nth_6 rfl (lv_at hl 3 rfl) ?_
  refine lv_iload hx hb dL_nth_7 (lv_at hl 4 rfl) ?_
  refine lv_iload hx hb dL_nth_9 (lv_at hl 5 rfl) ?_
  have hh1 := c_X4_nth l dC dI cI h0 qs qr qm qw qt we sf sl ya mo wd nn s.heap.size (by omega) (by omega) (by omega) (by omega) (by omega) (by omega)
  have hPc := hP.sub (ws' := [(h0, .inr (4, [.ref qs, .ref qr, .ref qm, .ref qw, .ref qt, .int (zi we)])), (qs, aI cI 10 sf)]) [0, 1] rfl
  have hKc : va_K (dC, dI) vwCl [(cI, .int)] s := hK.sub (tys' := [(cI, .int)]) [0] rfl
  have hDc := hD.sub (ws' := [(h0, .inr (4, [.ref qs, .ref qr, .ref qm, .ref qw, .ref qt, .int (zi we)])), (qs, aI cI 10 sf)]) [0, 1] (by decide) rfl
  have hFc := va_free (wc := [(h0, .inr (4, [.ref qs, .ref qr, .ref qm, .ref qw, .ref qt, .int (zi we)])), (qs, aI cI 10 sf)]) hD hS hA [0, 1] rfl
  refine va_calli (va_runV (As := [.int (zi sl), .int (zi ya), .int (zi mo), .int (zi wd), .int (zi nn)]) (rest := [.int (zi 0), .ref qo]) ⟨hx, hb, hml, hown, hts⟩ hh1 (cwV 5 hts gL_nth_X4_nth rfl rfl rfl (by decide +kernel) ⟨Nat.le_of_ble_eq_true rfl, Nat.le_of_ble_eq_true rfl⟩) ⟨zPw.blind _ _ _ _ _, va_recv hKc hPc (ci := 4) (q0 := 0) rfl rfl, fun U hU hW => ⟨rfl, by rw [hU], by rw [hU]; exact hPc, va_K.moved hW.alike hKc, hDc.weaken (fun _ _ _ _ => trivial)⟩⟩ rfl rfl hl.1 rfl (lv_room (Nat.le_of_ble_eq_true rfl)) dL_nth_11 ⟨Nat.le_of_ble_eq_true rfl, Nat.le_of_ble_eq_true rfl⟩) hS (fun q _ h => hFc q h) hFc (fun r1 u t H1 locs ht hvm hw hB hz1 hk1 hS => ?_)
  obtain ⟨hP1, hK1, hD1⟩ := hB
  rw [ht] at hP1
  obtain ⟨hP, hD⟩ := va_join (wr := [(qo, aL cL 1 of)]) (w1 := [(h0, .inr (4, [.ref qs, .ref qr, .ref qm, .ref qw, .ref qt, .int (zi we)])), (qs, aI cI 10 (zup sf sl.toNat (f_X0_nthNumber ya mo wd nn)))]) hP hD [0, 1] [2] rfl rfl (by decide) (by decide) hk1 hFc hP1 hD1
  generalize H1 = H at hP hS ⊢
  obtain rfl : r1 = zi (f_X0_nthNumber ya mo wd nn) := hw
  have hP : va_P (dC, dI) vwCl [(qo, aL cL 1 of), (h0, .inr (4, [.ref qs, .ref qr, .ref qm, .ref qw, .ref qt, .int (zi we)])), (qs, aI cI 10 (zup sf sl.toNat (f_X0_nthNumber ya mo wd nn)))] H := hP
  have hD : va_D A [(qo, aL cL 1 of), (h0, .inr (4, [.ref qs, .ref qr, .ref qm, .ref qw, .ref qt, .int (zi we)])), (qs, aI cI 10 (zup sf sl.toNat (f_X0_nthNumber ya mo wd nn)))] := hD
  refine zw_i2l hx hb dL_nth_14 ⟨by omega, by omega⟩ ?_
  refine zw_last hx hb hK hP hD hS 0 1 rfl rfl (by omega) (by omega) ⟨by omega, by omega⟩ dL_nth_15 (fun H locs hP hD hS => ?_)
  have hP : va_P (dC, dI) vwCl [(qo, aL cL 1 (zup of (Int.toNat 0) (f_X0_nthNumber ya mo wd nn))), (h0, .inr (4, [.ref qs, .ref qr, .ref qm, .ref qw, .ref qt, .int (zi we)])), (qs, aI cI 10 (zup sf sl.toNat (f_X0_nthNumber ya mo wd nn)))] H := hP
  have hD : va_D A [(qo, aL cL 1 (zup of (Int.toNat 0) (f_X0_nthNumber ya mo wd nn))), (h0, .inr (4, [.ref qs, .ref qr, .ref qm, .ref qw, .ref qt, .int (zi we)])), (qs, aI cI 10 (zup sf sl.toNat (f_X0_nthNumber ya mo wd nn)))] := hD
  refine lv_goto (tgt := 27) hx hb dL_nth_16 (by decide) ?_
  refine zw_iconst hx hb dL_nth_27 ?_
  have hP9 := hP.sub (ws' := [(h0, .inr (4, [.ref qs, .ref qr, .ref qm, .ref qw, .ref qt, .int (zi we)])), (qs, aI cI 10 (zup sf sl.toNat (f_X0_nthNumber ya mo wd nn))), (qo, aL cL 1 (zup of (Int.toNat 0) (f_X0_nthNumber ya mo wd nn)))]) [1, 2, 0] rfl
  have hD9 := hD.sub (ws' := [(h0, .inr (4, [.ref qs, .ref qr, .ref qm, .ref qw, .ref qt, .int (zi we)])), (qs, aI cI 10 (zup sf sl.toNat (f_X0_nthNumber ya mo wd nn))), (qo, aL cL 1 (zup of (Int.toNat 0) (f_X0_nthNumber ya mo wd nn)))]) [1, 2, 0] (by decide) rfl
  exact W.iret (v := zi 0) hx hb hr (fun t ht hW => ⟨⟨zi 0, (), rfl, rfl, by rw [ht]; exact hP9, va_K.moved hW.alike hK, hD9⟩, hS.F ht⟩) hS.2.2 dL_nth_28

set_option maxHeartbeats 4000000 in
set_option maxRecDepth 100000 in
theorem c_L_days_1 (l : Launch) (hst : l.stackTraces = false) (dC : Nat → ClassId) (dI : Nat → Nat → Nat) (cI : ClassId) (cL : ClassId) (h0 : Nat) (qs : Nat) (qr : Nat) (qm : Nat) (qw : Nat) (qt : Nat) (we : Int) (sf : Nat → Int) (qo : Nat) (of : Nat → Int) (sl : Int) (nu : Int) (sz : Nat) (hp0 : -2147483648 ≤ sl ∧ sl ≤ 2147483647) (hp1 : sl < 0 ∨ 9 < sl) : Met l yL_days wsL_days ({ frames := 8, cells := 1, slots := 6, locals := 132 }) (zPx (dC, dI) [(cI, .int), (cL, .long)] sz [.ref h0, .int (zi sl), .int (zi nu), .ref qo] [(h0, .inr (4, [.ref qs, .ref qr, .ref qm, .ref qw, .ref qt, .int (zi we)])), (qs, aI cI 10 sf), (qo, aL cL 1 of)]) (va_Qi (fun (r : Int32) (_ : Unit) => r = zi 1) (zB (dC, dI) [(cI, .int), (cL, .long)] (va_A [(h0, .inr (4, [.ref qs, .ref qr, .ref qm, .ref qw, .ref qt, .int (zi we)])), (qs, aI cI 10 sf), (qo, aL cL 1 of)] sz) [(h0, .inr (4, [.ref qs, .ref qr, .ref qm, .ref qw, .ref qt, .int (zi we)])), (qs, aI cI 10 sf), (qo, aL cL 1 of)]) (va_A [(h0, .inr (4, [.ref qs, .ref qr, .ref qm, .ref qw, .ref qt, .int (zi we)])), (qs, aI cI 10 sf), (qo, aL cL 1 of)] sz)) 1 6 (va_A [(h0, .inr (4, [.ref qs, .ref qr, .ref qm, .ref qw, .ref qt, .int (zi we)])), (qs, aI cI 10 sf), (qo, aL cL 1 of)] sz) := by
  refine va_MetW (hh := [(0, 10, 13, 13), (0, 10, 17, 15)]) (cc := cL_days) (maxL := 5) (ret := (some .int)) (by decide) rfl ?_
  intro p e s m args below meth c s₁ B hml hv
  obtain ⟨rfl, hsz, hE, hP, hK, hD0⟩ := hv
  have hx := B.exec
  have hb := B.bytes
  have hr := B.returns
  have hts := atoms_spec (ws := wsL_days) B.pre
  have hown : s.vm.findClass RL = some m.cls := findClass_of_methodNamed B.named
  have hlocks := B.notSynchronized
  have hex : c.exceptionTable.toList = [⟨0, 10, 13, 13⟩, ⟨0, 10, 17, 15⟩] := vx_table (x := yL_days) B (hts _ List.mem_cons_self)
  subst hsz
  have hD := hD0.self (sz := s.heap.size)
  generalize hAe : va_A [(h0, .inr (4, [.ref qs, .ref qr, .ref qm, .ref qw, .ref qt, .int (zi we)])), (qs, aI cI 10 sf), (qo, aL cL 1 of)] s.heap.size = A at hD ⊢
  have hA : ∀ q : Nat, s.heap.size ≤ q → A q := fun q h => by rw [← hAe]; exact Or.inr h
  have hS : va_S A s.heap s.heap [] := va_S.rf
  have hP : va_P (dC, dI) vwCl [(h0, .inr (4, [.ref qs, .ref qr, .ref qm, .ref qw, .ref qt, .int (zi we)])), (qs, aI cI 10 sf), (qo, aL cL 1 of)] s.heap := hP
  have hl := lv_entry ([.ref h0, .int (zi sl), .int (zi nu), .ref qo]) (n := 5) (Nat.le_of_ble_eq_true rfl)
  rw [lg_entry_eq]
  generalize (lg_sl ([.ref h0, .int (zi sl), .int (zi nu), .ref qo]) ++ List.replicate (5 - (lg_sl ([.ref h0, .int (zi sl), .int (zi nu), .ref qo])).length) Slot.unset).toArray = ls at hl ⊢
  have hl : lv_has ls 5 [(0, .ref h0), (1, .int (zi sl)), (2, .int (zi nu)), (3, .ref qo)] := hl
  refine lv_aload_n hx hb dL_days_0 rfl (lv_at hl 3 rfl) ?_
  refine zw_iconst hx hb dL_days_1 ?_
  refine lv_aload_n hx hb dL_days_2 rfl (lv_at hl 0 rfl) ?_
  refine lv_iload_n hx hb dL_days_3 rfl (lv_at hl 1 rfl) ?_
  refine lv_iload_n hx hb dL_days_4 rfl (lv_at hl 2 rfl) ?_
  have hh1 := t_X4_days_1 l hst h0 sl nu (by omega) (by omega)
  refine zt_catch (own := RL) (name := "java/lang/IndexOutOfBoundsException") (vx_runV (As := [.int (zi sl), .int (zi nu)]) (rest := [.int (zi 0), .ref qo]) ⟨hx, hb, hml, hown, hts⟩ hh1 (cwV 2 hts gL_days_X4_days rfl rfl rfl (by decide +kernel) ⟨Nat.le_of_ble_eq_true rfl, Nat.le_of_ble_eq_true rfl⟩) ⟨zP.blind _, va_recv hK hP (ci := 4) (q0 := 0) rfl rfl, fun U hU hW => ⟨rfl, hE.call va_S.rf (fun q h => by rw [hU] at h; exact h) hU hW⟩⟩ rfl rfl hl.1 rfl (lv_room (Nat.le_of_ble_eq_true rfl)) dL_days_5 ⟨Nat.le_of_ble_eq_true rfl, Nat.le_of_ble_eq_true rfl⟩) hown [] ⟨0, 10, 13, 13⟩ [⟨0, 10, 17, 15⟩] hex (List.forall_mem_nil _) (by decide) (by decide) (hts (.classLink RL 13 "java/lang/IndexOutOfBoundsException") (by decide +kernel)) (va_any rfl (hE.2.2.1 (.castable "java/lang/IndexOutOfBoundsException" "java/lang/IndexOutOfBoundsException") (by decide +kernel))) (fun qx H1 hz1 hk1 => ?_)
  have hP : va_P (dC, dI) vwCl [(h0, .inr (4, [.ref qs, .ref qr, .ref qm, .ref qw, .ref qt, .int (zi we)])), (qs, aI cI 10 sf), (qo, aL cL 1 of)] H1 := zk_world hP hk1
  have hS : va_S A s.heap H1 [] := zk_S hz1 hk1
  refine lv_astore (lv' := [(4, .ref qx), (0, .ref h0), (1, .int (zi sl)), (2, .int (zi nu)), (3, .ref qo)]) hx hb dL_days_13 hl (by decide) rfl (fun ls hl => ?_)
  refine zw_iconst hx hb dL_days_15 ?_
  have hP9 := hP.sub (ws' := [(h0, .inr (4, [.ref qs, .ref qr, .ref qm, .ref qw, .ref qt, .int (zi we)])), (qs, aI cI 10 sf), (qo, aL cL 1 of)]) [0, 1, 2] rfl
  have hD9 := hD.sub (ws' := [(h0, .inr (4, [.ref qs, .ref qr, .ref qm, .ref qw, .ref qt, .int (zi we)])), (qs, aI cI 10 sf), (qo, aL cL 1 of)]) [0, 1, 2] (by decide) rfl
  exact W.iret (v := zi 1) hx hb hr (fun t ht hW => ⟨⟨zi 1, (), rfl, rfl, by rw [ht]; exact hP9, va_K.moved hW.alike hK, hD9⟩, hS.F ht⟩) hS.2.2 dL_days_16

set_option maxHeartbeats 4000000 in
set_option maxRecDepth 100000 in
theorem c_L_days_2 (l : Launch) (hst : l.stackTraces = false) (dC : Nat → ClassId) (dI : Nat → Nat → Nat) (cI : ClassId) (cL : ClassId) (h0 : Nat) (qs : Nat) (qr : Nat) (qm : Nat) (qw : Nat) (qt : Nat) (we : Int) (sf : Nat → Int) (qo : Nat) (of : Nat → Int) (sl : Int) (nu : Int) (sz : Nat) (hp0 : 0 ≤ sl ∧ sl ≤ 9) (hp1 : -2147483648 ≤ nu ∧ nu ≤ 2147483647) (hp2 : nu < 0 ∨ 3652058 < nu) : Met l yL_days wsL_days ({ frames := 8, cells := 1, slots := 6, locals := 134 }) (zPx (dC, dI) [(cI, .int), (cL, .long)] sz [.ref h0, .int (zi sl), .int (zi nu), .ref qo] [(h0, .inr (4, [.ref qs, .ref qr, .ref qm, .ref qw, .ref qt, .int (zi we)])), (qs, aI cI 10 sf), (qo, aL cL 1 of)]) (va_Qi (fun (r : Int32) (_ : Unit) => r = zi 2) (zB (dC, dI) [(cI, .int), (cL, .long)] (va_A [(h0, .inr (4, [.ref qs, .ref qr, .ref qm, .ref qw, .ref qt, .int (zi we)])), (qs, aI cI 10 sf), (qo, aL cL 1 of)] sz) [(h0, .inr (4, [.ref qs, .ref qr, .ref qm, .ref qw, .ref qt, .int (zi we)])), (qs, aI cI 10 sf), (qo, aL cL 1 of)]) (va_A [(h0, .inr (4, [.ref qs, .ref qr, .ref qm, .ref qw, .ref qt, .int (zi we)])), (qs, aI cI 10 sf), (qo, aL cL 1 of)] sz)) 1 6 (va_A [(h0, .inr (4, [.ref qs, .ref qr, .ref qm, .ref qw, .ref qt, .int (zi we)])), (qs, aI cI 10 sf), (qo, aL cL 1 of)] sz) := by
  refine va_MetW (hh := [(0, 10, 13, 13), (0, 10, 17, 15)]) (cc := cL_days) (maxL := 5) (ret := (some .int)) (by decide) rfl ?_
  intro p e s m args below meth c s₁ B hml hv
  obtain ⟨rfl, hsz, hE, hP, hK, hD0⟩ := hv
  have hx := B.exec
  have hb := B.bytes
  have hr := B.returns
  have hts := atoms_spec (ws := wsL_days) B.pre
  have hown : s.vm.findClass RL = some m.cls := findClass_of_methodNamed B.named
  have hlocks := B.notSynchronized
  have hex : c.exceptionTable.toList = [⟨0, 10, 13, 13⟩, ⟨0, 10, 17, 15⟩] := vx_table (x := yL_days) B (hts _ List.mem_cons_self)
  subst hsz
  have hD := hD0.self (sz := s.heap.size)
  generalize hAe : va_A [(h0, .inr (4, [.ref qs, .ref qr, .ref qm, .ref qw, .ref qt, .int (zi we)])), (qs, aI cI 10 sf), (qo, aL cL 1 of)] s.heap.size = A at hD ⊢
  have hA : ∀ q : Nat, s.heap.size ≤ q → A q := fun q h => by rw [← hAe]; exact Or.inr h
  have hS : va_S A s.heap s.heap [] := va_S.rf
  have hP : va_P (dC, dI) vwCl [(h0, .inr (4, [.ref qs, .ref qr, .ref qm, .ref qw, .ref qt, .int (zi we)])), (qs, aI cI 10 sf), (qo, aL cL 1 of)] s.heap := hP
  have hl := lv_entry ([.ref h0, .int (zi sl), .int (zi nu), .ref qo]) (n := 5) (Nat.le_of_ble_eq_true rfl)
  rw [lg_entry_eq]
  generalize (lg_sl ([.ref h0, .int (zi sl), .int (zi nu), .ref qo]) ++ List.replicate (5 - (lg_sl ([.ref h0, .int (zi sl), .int (zi nu), .ref qo])).length) Slot.unset).toArray = ls at hl ⊢
  have hl : lv_has ls 5 [(0, .ref h0), (1, .int (zi sl)), (2, .int (zi nu)), (3, .ref qo)] := hl
  refine lv_aload_n hx hb dL_days_0 rfl (lv_at hl 3 rfl) ?_
  refine zw_iconst hx hb dL_days_1 ?_
  refine lv_aload_n hx hb dL_days_2 rfl (lv_at hl 0 rfl) ?_
  refine lv_iload_n hx hb dL_days_3 rfl (lv_at hl 1 rfl) ?_
  refine lv_iload_n hx hb dL_days_4 rfl (lv_at hl 2 rfl) ?_
  have hh1 := t_X4_days_2 l hst dC dI cI h0 qs qr qm qw qt we sf sl nu (by omega) (by omega) (by omega)
  have hPc := hP.sub (ws' := [(h0, .inr (4, [.ref qs, .ref qr, .ref qm, .ref qw, .ref qt, .int (zi we)])), (qs, aI cI 10 sf)]) [0, 1] rfl
  have hKc : va_K (dC, dI) vwCl [(cI, .int)] s := hK.sub (tys' := [(cI, .int)]) [0] rfl
  refine zt_catch (own := RL) (name := "java/lang/IllegalArgumentException") (vx_runV (As := [.int (zi sl), .int (zi nu)]) (rest := [.int (zi 0), .ref qo]) ⟨hx, hb, hml, hown, hts⟩ hh1 (cwV 2 hts gL_days_X4_days rfl rfl rfl (by decide +kernel) ⟨Nat.le_of_ble_eq_true rfl, Nat.le_of_ble_eq_true rfl⟩) ⟨zPt.blind _ _ _ _, va_recv hKc hPc (ci := 4) (q0 := 0) rfl rfl, fun U hU hW => ⟨rfl, hE.call va_S.rf (fun q h => by rw [hU] at h; exact h) hU hW, by rw [hU]; exact hPc, va_K.moved hW.alike hKc⟩⟩ rfl rfl hl.1 rfl (lv_room (Nat.le_of_ble_eq_true rfl)) dL_days_5 ⟨Nat.le_of_ble_eq_true rfl, Nat.le_of_ble_eq_true rfl⟩) hown [⟨0, 10, 13, 13⟩] ⟨0, 10, 17, 15⟩ [] hex (List.forall_mem_cons.mpr ⟨⟨by decide, by decide, "java/lang/IndexOutOfBoundsException", (hts (.classLink RL 13 "java/lang/IndexOutOfBoundsException") (by decide +kernel)), hE.2.2.2.2 ("java/lang/IllegalArgumentException", "java/lang/IndexOutOfBoundsException") (by decide)⟩, List.forall_mem_nil _⟩) (by decide) (by decide) (hts (.classLink RL 15 "java/lang/IllegalArgumentException") (by decide +kernel)) (va_any rfl (hE.2.2.1 (.castable "java/lang/IllegalArgumentException" "java/lang/IllegalArgumentException") (by decide +kernel))) (fun qx H1 hz1 hk1 => ?_)
  have hP : va_P (dC, dI) vwCl [(h0, .inr (4, [.ref qs, .ref qr, .ref qm, .ref qw, .ref qt, .int (zi we)])), (qs, aI cI 10 sf), (qo, aL cL 1 of)] H1 := zk_world hP hk1
  have hS : va_S A s.heap H1 [] := zk_S hz1 hk1
  refine lv_astore (lv' := [(4, .ref qx), (0, .ref h0), (1, .int (zi sl)), (2, .int (zi nu)), (3, .ref qo)]) hx hb dL_days_17 hl (by decide) rfl (fun ls hl => ?_)
  refine zw_iconst hx hb dL_days_19 ?_
  have hP9 := hP.sub (ws' := [(h0, .inr (4, [.ref qs, .ref qr, .ref qm, .ref qw, .ref qt, .int (zi we)])), (qs, aI cI 10 sf), (qo, aL cL 1 of)]) [0, 1, 2] rfl
  have hD9 := hD.sub (ws' := [(h0, .inr (4, [.ref qs, .ref qr, .ref qm, .ref qw, .ref qt, .int (zi we)])), (qs, aI cI 10 sf), (qo, aL cL 1 of)]) [0, 1, 2] (by decide) rfl
  exact W.iret (v := zi 2) hx hb hr (fun t ht hW => ⟨⟨zi 2, (), rfl, rfl, by rw [ht]; exact hP9, va_K.moved hW.alike hK, hD9⟩, hS.F ht⟩) hS.2.2 dL_days_20

set_option maxHeartbeats 4000000 in
set_option maxRecDepth 100000 in
theorem c_L_days (l : Launch)  (dC : Nat → ClassId) (dI : Nat → Nat → Nat) (cI : ClassId) (cL : ClassId) (h0 : Nat) (qs : Nat) (qr : Nat) (qm : Nat) (qw : Nat) (qt : Nat) (we : Int) (sf : Nat → Int) (qo : Nat) (of : Nat → Int) (sl : Int) (nu : Int) (sz : Nat) (hp0 : 0 ≤ sl ∧ sl ≤ 9) (hp1 : 0 ≤ nu ∧ nu ≤ 3652058) (hp2 : 1 ≤ f_X0_weekdayOf nu ∧ f_X0_weekdayOf nu ≤ 7) : Met l yL_days wsL_days ({ frames := 2, cells := 0, slots := 0, locals := 44 }) (zPw (dC, dI) [(cI, .int), (cL, .long)] sz [.ref h0, .int (zi sl), .int (zi nu), .ref qo] [(h0, .inr (4, [.ref qs, .ref qr, .ref qm, .ref qw, .ref qt, .int (zi we)])), (qs, aI cI 10 sf), (qo, aL cL 1 of)]) (va_Qi (fun (r : Int32) (_ : Unit) => r = zi 0) (zB (dC, dI) [(cI, .int), (cL, .long)] (va_A [(h0, .inr (4, [.ref qs, .ref qr, .ref qm, .ref qw, .ref qt, .int (zi we)])), (qs, aI cI 10 sf), (qo, aL cL 1 of)] sz) [(h0, .inr (4, [.ref qs, .ref qr, .ref qm, .ref qw, .ref qt, .int (zi we)])), (qs, aI cI 10 (zup sf sl.toNat nu)), (qo, aL cL 1 (zup of (Int.toNat 0) (f_X0_weekdayOf nu)))]) (va_A [(h0, .inr (4, [.ref qs, .ref qr, .ref qm, .ref qw, .ref qt, .int (zi we)])), (qs, aI cI 10 sf), (qo, aL cL 1 of)] sz)) 0 0 (va_A [(h0, .inr (4, [.ref qs, .ref qr, .ref qm, .ref qw, .ref qt, .int (zi we)])), (qs, aI cI 10 sf), (qo, aL cL 1 of)] sz) := by
  refine va_MetW (hh := [(0, 10, 13, 13), (0, 10, 17, 15)]) (cc := cL_days) (maxL := 5) (ret := (some .int)) (by decide) rfl ?_
  intro p e s m args below meth c s₁ B hml hv
  obtain ⟨rfl, hsz, hP, hK, hD0⟩ := hv
  have hx := B.exec
  have hb := B.bytes
  have hr := B.returns
  have hts := atoms_spec (ws := wsL_days) B.pre
  have hown : s.vm.findClass RL = some m.cls := findClass_of_methodNamed B.named
  have hlocks := B.notSynchronized
  subst hsz
  have hD := hD0.self (sz := s.heap.size)
  generalize hAe : va_A [(h0, .inr (4, [.ref qs, .ref qr, .ref qm, .ref qw, .ref qt, .int (zi we)])), (qs, aI cI 10 sf), (qo, aL cL 1 of)] s.heap.size = A at hD ⊢
  have hA : ∀ q : Nat, s.heap.size ≤ q → A q := fun q h => by rw [← hAe]; exact Or.inr h
  have hS : va_S A s.heap s.heap [] := va_S.rf
  have hP : va_P (dC, dI) vwCl [(h0, .inr (4, [.ref qs, .ref qr, .ref qm, .ref qw, .ref qt, .int (zi we)])), (qs, aI cI 10 sf), (qo, aL cL 1 of)] s.heap := hP
  have hl := lv_entry ([.ref h0, .int (zi sl), .int (zi nu), .ref qo]) (n := 5) (Nat.le_of_ble_eq_true rfl)
  rw [lg_entry_eq]
  generalize (lg_sl ([.ref h0, .int (zi sl), .int (zi nu), .ref qo]) ++ List.replicate (5 - (lg_sl ([.ref h0, .int (zi sl), .int (zi nu), .ref qo])).length) Slot.unset).toArray = ls at hl ⊢
  have hl : lv_has ls 5 [(0, .ref h0), (1, .int (zi sl)), (2, .int (zi nu)), (3, .ref qo)] := hl
  refine lv_aload_n hx hb dL_days_0 rfl (lv_at hl 3 rfl) ?_
  refine zw_iconst hx hb dL_days_1 ?_
  refine lv_aload_n hx hb dL_days_2 rfl (lv_at hl 0 rfl) ?_
  refine lv_iload_n hx hb dL_days_3 rfl (lv_at hl 1 rfl) ?_
  refine lv_iload_n hx hb dL_days_4 rfl (lv_at hl 2 rfl) ?_
  have hh1 := c_X4_days l dC dI cI h0 qs qr qm qw qt we sf sl nu s.heap.size (by omega) (by omega)
  have hPc := hP.sub (ws' := [(h0, .inr (4, [.ref qs, .ref qr, .ref qm, .ref qw, .ref qt, .int (zi we)])), (qs, aI cI 10 sf)]) [0, 1] rfl
  have hKc : va_K (dC, dI) vwCl [(cI, .int)] s := hK.sub (tys' := [(cI, .int)]) [0] rfl
  have hDc := hD.sub (ws' := [(h0, .inr (4, [.ref qs, .ref qr, .ref qm, .ref qw, .ref qt, .int (zi we)])), (qs, aI cI 10 sf)]) [0, 1] (by decide) rfl
  have hFc := va_free (wc := [(h0, .inr (4, [.ref qs, .ref qr, .ref qm, .ref qw, .ref qt, .int (zi we)])), (qs, aI cI 10 sf)]) hD hS hA [0, 1] rfl
  refine va_calli (va_runV (As := [.int (zi sl), .int (zi nu)]) (rest := [.int (zi 0), .ref qo]) ⟨hx, hb, hml, hown, hts⟩ hh1 (cwV 2 hts gL_days_X4_days rfl rfl rfl (by decide +kernel) ⟨Nat.le_of_ble_eq_true rfl, Nat.le_of_ble_eq_true rfl⟩) ⟨zPw.blind _ _ _ _ _, va_recv hKc hPc (ci := 4) (q0 := 0) rfl rfl, fun U hU hW => ⟨rfl, by rw [hU], by rw [hU]; exact hPc, va_K.moved hW.alike hKc, hDc.weaken (fun _ _ _ _ => trivial)⟩⟩ rfl rfl hl.1 rfl (lv_room (Nat.le_of_ble_eq_true rfl)) dL_days_5 ⟨Nat.le_of_ble_eq_true rfl, Nat.le_of_ble_eq_true rfl⟩) hS (fun q _ h => hFc q h) hFc (fun r1 u t H1 locs ht hvm hw hB hz1 hk1 hS => ?_)
  obtain ⟨hP1, hK1, hD1⟩ := hB
  rw [ht] at hP1
  obtain ⟨hP, hD⟩ := va_join (wr := [(qo, aL cL 1 of)]) (w1 := [(h0, .inr (4, [.ref qs, .ref qr, .ref qm, .ref qw, .ref qt, .int (zi we)])), (qs, aI cI 10 (zup sf sl.toNat nu))]) hP hD [0, 1] [2] rfl rfl (by decide) (by decide) hk1 hFc hP1 hD1
  generalize H1 = H at hP hS ⊢
  obtain rfl : r1 = zi (f_X0_weekdayOf nu) := hw
  have hP : va_P (dC, dI) vwCl [(qo, aL cL 1 of), (h0, .inr (4, [.ref qs, .ref qr, .ref qm, .ref qw, .ref qt, .int (zi we)])), (qs, aI cI 10 (zup sf sl.toNat nu))] H := hP
  have hD : va_D A [(qo, aL cL 1 of), (h0, .inr (4, [.ref qs, .ref qr, .ref qm, .ref qw, .ref qt, .int (zi we)])), (qs, aI cI 10 (zup sf sl.toNat nu))] := hD
  refine zw_i2l hx hb dL_days_8 ⟨by omega, by omega⟩ ?_
  refine zw_last hx hb hK hP hD hS 0 1 rfl rfl (by omega) (by omega) ⟨by omega, by omega⟩ dL_days_9 (fun H locs hP hD hS => ?_)
  have hP : va_P (dC, dI) vwCl [(qo, aL cL 1 (zup of (Int.toNat 0) (f_X0_weekdayOf nu))), (h0, .inr (4, [.ref qs, .ref qr, .ref qm, .ref qw, .ref qt, .int (zi we)])), (qs, aI cI 10 (zup sf sl.toNat nu))] H := hP
  have hD : va_D A [(qo, aL cL 1 (zup of (Int.toNat 0) (f_X0_weekdayOf nu))), (h0, .inr (4, [.ref qs, .ref qr, .ref qm, .ref qw, .ref qt, .int (zi we)])), (qs, aI cI 10 (zup sf sl.toNat nu))] := hD
  refine lv_goto (tgt := 21) hx hb dL_days_10 (by decide) ?_
  refine zw_iconst hx hb dL_days_21 ?_
  have hP9 := hP.sub (ws' := [(h0, .inr (4, [.ref qs, .ref qr, .ref qm, .ref qw, .ref qt, .int (zi we)])), (qs, aI cI 10 (zup sf sl.toNat nu)), (qo, aL cL 1 (zup of (Int.toNat 0) (f_X0_weekdayOf nu)))]) [1, 2, 0] rfl
  have hD9 := hD.sub (ws' := [(h0, .inr (4, [.ref qs, .ref qr, .ref qm, .ref qw, .ref qt, .int (zi we)])), (qs, aI cI 10 (zup sf sl.toNat nu)), (qo, aL cL 1 (zup of (Int.toNat 0) (f_X0_weekdayOf nu)))]) [1, 2, 0] (by decide) rfl
  exact W.iret (v := zi 0) hx hb hr (fun t ht hW => ⟨⟨zi 0, (), rfl, rfl, by rw [ht]; exact hP9, va_K.moved hW.alike hK, hD9⟩, hS.F ht⟩) hS.2.2 dL_days_22

set_option maxHeartbeats 4000000 in
set_option maxRecDepth 100000 in
theorem c_L_move_1 (l : Launch) (hst : l.stackTraces = false) (dC : Nat → ClassId) (dI : Nat → Nat → Nat) (cI : ClassId) (cL : ClassId) (h0 : Nat) (qs : Nat) (qr : Nat) (qm : Nat) (qw : Nat) (qt : Nat) (we : Int) (sf : Nat → Int) (qo : Nat) (of : Nat → Int) (sl : Int) (many : Int) (un : Int) (sz : Nat) (hp0 : -2147483648 ≤ sl ∧ sl ≤ 2147483647) (hp1 : sl < 0 ∨ 9 < sl) : Met l yL_move wsL_move ({ frames := 8, cells := 1, slots := 6, locals := 134 }) (zPx (dC, dI) [(cI, .int), (cL, .long)] sz [.ref h0, .int (zi sl), .int (zi many), .int (zi un), .ref qo] [(h0, .inr (4, [.ref qs, .ref qr, .ref qm, .ref qw, .ref qt, .int (zi we)])), (qs, aI cI 10 sf), (qo, aL cL 1 of)]) (va_Qi (fun (r : Int32) (_ : Unit) => r = zi 1) (zB (dC, dI) [(cI, .int), (cL, .long)] (va_A [(h0, .inr (4, [.ref qs, .ref qr, .ref qm, .ref qw, .ref qt, .int (zi we)])), (qs, aI cI 10 sf), (qo, aL cL 1 of)] sz) [(h0, .inr (4, [.ref qs, .ref qr, .ref qm, .ref qw, .ref qt, .int (zi we)])), (qs, aI cI 10 sf), (qo, aL cL 1 of)]) (va_A [(h0, .inr (4, [.ref qs, .ref qr, .ref qm, .ref qw, .ref qt, .int (zi we)])), (qs, aI cI 10 sf), (qo, aL cL 1 of)] sz)) 1 6 (va_A [(h0, .inr (4, [.ref qs, .ref qr, .ref qm, .ref qw, .ref qt, .int (zi we)])), (qs, aI cI 10 sf), (qo, aL cL 1 of)] sz) := by
  refine va_MetW (hh := [(0, 12, 15, 13), (0, 12, 19, 15), (0, 12, 23, 35), (0, 12, 27, 37)]) (cc := cL_move) (maxL := 6) (ret := (some .int)) (by decide) rfl ?_
  intro p e s m args below meth c s₁ B hml hv
  obtain ⟨rfl, hsz, hE, hP, hK, hD0⟩ := hv
  have hx := B.exec
  have hb := B.bytes
  have hr := B.returns
  have hts := atoms_spec (ws := wsL_move) B.pre
  have hown : s.vm.findClass RL = some m.cls := findClass_of_methodNamed B.named
  have hlocks := B.notSynchronized
  have hex : c.exceptionTable.toList = [⟨0, 12, 15, 13⟩, ⟨0, 12, 19, 15⟩, ⟨0, 12, 23, 35⟩, ⟨0, 12, 27, 37⟩] := vx_table (x := yL_move) B (hts _ List.mem_cons_self)
  subst hsz
  have hD := hD0.self (sz := s.heap.size)
  generalize hAe : va_A [(h0, .inr (4, [.ref qs, .ref qr, .ref qm, .ref qw, .ref qt, .int (zi we)])), (qs, aI cI 10 sf), (qo, aL cL 1 of)] s.heap.size = A at hD ⊢
  have hA : ∀ q : Nat, s.heap.size ≤ q → A q := fun q h => by rw [← hAe]; exact Or.inr h
  have hS : va_S A s.heap s.heap [] := va_S.rf
  have hP : va_P (dC, dI) vwCl [(h0, .inr (4, [.ref qs, .ref qr, .ref qm, .ref qw, .ref qt, .int (zi we)])), (qs, aI cI 10 sf), (qo, aL cL 1 of)] s.heap := hP
  have hl := lv_entry ([.ref h0, .int (zi sl), .int (zi many), .int (zi un), .ref qo]) (n := 6) (Nat.le_of_ble_eq_true rfl)
  rw [lg_entry_eq]
  generalize (lg_sl ([.ref h0, .int (zi sl), .int (zi many), .int (zi un), .ref qo]) ++ List.replicate (6 - (lg_sl ([.ref h0, .int (zi sl), .int (zi many), .int (zi un), .ref qo])).length) Slot.unset).toArray = ls at hl ⊢
  have hl : lv_has ls 6 [(0, .ref h0), (1, .int (zi sl)), (2, .int (zi many)), (3, .int (zi un)), (4, .ref qo)] := hl
  refine lv_aload hx hb dL_move_0 (lv_at hl 4 rfl) ?_
  refine zw_iconst hx hb dL_move_2 ?_
  refine lv_aload_n hx hb dL_move_3 rfl (lv_at hl 0 rfl) ?_
  refine lv_iload_n hx hb dL_move_4 rfl (lv_at hl 1 rfl) ?_
  refine lv_iload_n hx hb dL_move_5 rfl (lv_at hl 2 rfl) ?_
  refine lv_iload_n hx hb dL_move_6 rfl (lv_at hl 3 rfl) ?_
  have hh1 := t_X4_move_1 l hst h0 sl many un (by omega) (by omega)
  refine zt_catch (own := RL) (name := "java/lang/IndexOutOfBoundsException") (vx_runV (As := [.int (zi sl), .int (zi many), .int (zi un)]) (rest := [.int (zi 0), .ref qo]) ⟨hx, hb, hml, hown, hts⟩ hh1 (cwV 3 hts gL_move_X4_move rfl rfl rfl (by decide +kernel) ⟨Nat.le_of_ble_eq_true rfl, Nat.le_of_ble_eq_true rfl⟩) ⟨zP.blind _, va_recv hK hP (ci := 4) (q0 := 0) rfl rfl, fun U hU hW => ⟨rfl, hE.call va_S.rf (fun q h => by rw [hU] at h; exact h) hU hW⟩⟩ rfl rfl hl.1 rfl (lv_room (Nat.le_of_ble_eq_true rfl)) dL_move_7 ⟨Nat.le_of_ble_eq_true rfl, Nat.le_of_ble_eq_true rfl⟩) hown [] ⟨0, 12, 15, 13⟩ [⟨0, 12, 19, 15⟩, ⟨0, 12, 23, 35⟩, ⟨0, 12, 27, 37⟩] hex (List.forall_mem_nil _) (by decide) (by decide) (hts (.classLink RL 13 "java/lang/IndexOutOfBoundsException") (by decide +kernel)) (va_any rfl (hE.2.2.1 (.castable "java/lang/IndexOutOfBoundsException" "java/lang/IndexOutOfBoundsException") (by decide +kernel))) (fun qx H1 hz1 hk1 => ?_)
  have hP : va_P (dC, dI) vwCl [(h0, .inr (4, [.ref qs, .ref qr, .ref qm, .ref qw, .ref qt, .int (zi we)])), (qs, aI cI 10 sf), (qo, aL cL 1 of)] H1 := zk_world hP hk1
  have hS : va_S A s.heap H1 [] := zk_S hz1 hk1
  refine lv_astore (lv' := [(5, .ref qx), (0, .ref h0), (1, .int (zi sl)), (2, .int (zi many)), (3, .int (zi un)), (4, .ref qo)]) hx hb dL_move_15 hl (by decide) rfl (fun ls hl => ?_)
  refine zw_iconst hx hb dL_move_17 ?_
  have hP9 := hP.sub (ws' := [(h0, .inr (4, [.ref qs, .ref qr, .ref qm, .ref qw, .ref qt, .int (zi we)])), (qs, aI cI 10 sf), (qo, aL cL 1 of)]) [0, 1, 2] rfl
  have hD9 := hD.sub (ws' := [(h0, .inr (4, [.ref qs, .ref qr, .ref qm, .ref qw, .ref qt, .int (zi we)])), (qs, aI cI 10 sf), (qo, aL cL 1 of)]) [0, 1, 2] (by decide) rfl
  exact W.iret (v := zi 1) hx hb hr (fun t ht hW => ⟨⟨zi 1, (), rfl, rfl, by rw [ht]; exact hP9, va_K.moved hW.alike hK, hD9⟩, hS.F ht⟩) hS.2.2 dL_move_18

set_option maxHeartbeats 4000000 in
set_option maxRecDepth 100000 in
theorem c_L_move_2 (l : Launch) (hst : l.stackTraces = false) (dC : Nat → ClassId) (dI : Nat → Nat → Nat) (cI : ClassId) (cL : ClassId) (h0 : Nat) (qs : Nat) (qr : Nat) (qm : Nat) (qw : Nat) (qt : Nat) (we : Int) (sf : Nat → Int) (qo : Nat) (of : Nat → Int) (sl : Int) (many : Int) (un : Int) (sz : Nat) (hp0 : 0 ≤ sl ∧ sl ≤ 9) (hp1 : -2147483648 ≤ un ∧ un ≤ 2147483647) (hp2 : un < 0 ∨ 2 < un) : Met l yL_move wsL_move ({ frames := 8, cells := 1, slots := 6, locals := 134 }) (zPx (dC, dI) [(cI, .int), (cL, .long)] sz [.ref h0, .int (zi sl), .int (zi many), .int (zi un), .ref qo] [(h0, .inr (4, [.ref qs, .ref qr, .ref qm, .ref qw, .ref qt, .int (zi we)])), (qs, aI cI 10 sf), (qo, aL cL 1 of)]) (va_Qi (fun (r : Int32) (_ : Unit) => r = zi 2) (zB (dC, dI) [(cI, .int), (cL, .long)] (va_A [(h0, .inr (4, [.ref qs, .ref qr, .ref qm, .ref qw, .ref qt, .int (zi we)])), (qs, aI cI 10 sf), (qo, aL cL 1 of)] sz) [(h0, .inr (4, [.ref qs, .ref qr, .ref qm, .ref qw, .ref qt, .int (zi we)])), (qs, aI cI 10 sf), (qo, aL cL 1 of)]) (va_A [(h0, .inr (4, [.ref qs, .ref qr, .ref qm, .ref qw, .ref qt, .int (zi we)])), (qs, aI cI 10 sf), (qo, aL cL 1 of)] sz)) 1 6 (va_A [(h0, .inr (4, [.ref qs, .ref qr, .ref qm, .ref qw, .ref qt, .int (zi we)])), (qs, aI cI 10 sf), (qo, aL cL 1 of)] sz) := by
  refine va_MetW (hh := [(0, 12, 15, 13), (0, 12, 19, 15), (0, 12, 23, 35), (0, 12, 27, 37)]) (cc := cL_move) (maxL := 6) (ret := (some .int)) (by decide) rfl ?_
  intro p e s m args below meth c s₁ B hml hv
  obtain ⟨rfl, hsz, hE, hP, hK, hD0⟩ := hv
  have hx := B.exec
  have hb := B.bytes
  have hr := B.returns
  have hts := atoms_spec (ws := wsL_move) B.pre
  have hown : s.vm.findClass RL = some m.cls := findClass_of_methodNamed B.named
  have hlocks := B.notSynchronized
  have hex : c.exceptionTable.toList = [⟨0, 12, 15, 13⟩, ⟨0, 12, 19, 15⟩, ⟨0, 12, 23, 35⟩, ⟨0, 12, 27, 37⟩] := vx_table (x := yL_move) B (hts _ List.mem_cons_self)
  subst hsz
  have hD := hD0.self (sz := s.heap.size)
  generalize hAe : va_A [(h0, .inr (4, [.ref qs, .ref qr, .ref qm, .ref qw, .ref qt, .int (zi we)])), (qs, aI cI 10 sf), (qo, aL cL 1 of)] s.heap.size = A at hD ⊢
  have hA : ∀ q : Nat, s.heap.size ≤ q → A q := fun q h => by rw [← hAe]; exact Or.inr h
  have hS : va_S A s.heap s.heap [] := va_S.rf
  have hP : va_P (dC, dI) vwCl [(h0, .inr (4, [.ref qs, .ref qr, .ref qm, .ref qw, .ref qt, .int (zi we)])), (qs, aI cI 10 sf), (qo, aL cL 1 of)] s.heap := hP
  have hl := lv_entry ([.ref h0, .int (zi sl), .int (zi many), .int (zi un), .ref qo]) (n := 6) (Nat.le_of_ble_eq_true rfl)
  rw [lg_entry_eq]
  generalize (lg_sl ([.ref h0, .int (zi sl), .int (zi many), .int (zi un), .ref qo]) ++ List.replicate (6 - (lg_sl ([.ref h0, .int (zi sl), .int (zi many), .int (zi un), .ref qo])).length) Slot.unset).toArray = ls at hl ⊢
  have hl : lv_has ls 6 [(0, .ref h0), (1, .int (zi sl)), (2, .int (zi many)), (3, .int (zi un)), (4, .ref qo)] := hl
  refine lv_aload hx hb dL_move_0 (lv_at hl 4 rfl) ?_
  refine zw_iconst hx hb dL_move_2 ?_
  refine lv_aload_n hx hb dL_move_3 rfl (lv_at hl 0 rfl) ?_
  refine lv_iload_n hx hb dL_move_4 rfl (lv_at hl 1 rfl) ?_
  refine lv_iload_n hx hb dL_move_5 rfl (lv_at hl 2 rfl) ?_
  refine lv_iload_n hx hb dL_move_6 rfl (lv_at hl 3 rfl) ?_
  have hh1 := t_X4_move_2 l hst h0 sl many un (by omega) (by omega) (by omega)
  refine zt_catch (own := RL) (name := "java/lang/IllegalArgumentException") (vx_runV (As := [.int (zi sl), .int (zi many), .int (zi un)]) (rest := [.int (zi 0), .ref qo]) ⟨hx, hb, hml, hown, hts⟩ hh1 (cwV 3 hts gL_move_X4_move rfl rfl rfl (by decide +kernel) ⟨Nat.le_of_ble_eq_true rfl, Nat.le_of_ble_eq_true rfl⟩) ⟨zP.blind _, va_recv hK hP (ci := 4) (q0 := 0) rfl rfl, fun U hU hW => ⟨rfl, hE.call va_S.rf (fun q h => by rw [hU] at h; exact h) hU hW⟩⟩ rfl rfl hl.1 rfl (lv_room (Nat.le_of_ble_eq_true rfl)) dL_move_7 ⟨Nat.le_of_ble_eq_true rfl, Nat.le_of_ble_eq_true rfl⟩) hown [⟨0, 12, 15, 13⟩] ⟨0, 12, 19, 15⟩ [⟨0, 12, 23, 35⟩, ⟨0, 12, 27, 37⟩] hex (List.forall_mem_cons.mpr ⟨⟨by decide, by decide, "java/lang/IndexOutOfBoundsException", (hts (.classLink RL 13 "java/lang/IndexOutOfBoundsException") (by decide +kernel)), hE.2.2.2.2 ("java/lang/IllegalArgumentException", "java/lang/IndexOutOfBoundsException") (by decide)⟩, List.forall_mem_nil _⟩) (by decide) (by decide) (hts (.classLink RL 15 "java/lang/IllegalArgumentException") (by decide +kernel)) (va_any rfl (hE.2.2.1 (.castable "java/lang/IllegalArgumentException" "java/lang/IllegalArgumentException") (by decide +kernel))) (fun qx H1 hz1 hk1 => ?_)
  have hP : va_P (dC, dI) vwCl [(h0, .inr (4, [.ref qs, .ref qr, .ref qm, .ref qw, .ref qt, .int (zi we)])), (qs, aI cI 10 sf), (qo, aL cL 1 of)] H1 := zk_world hP hk1
  have hS : va_S A s.heap H1 [] := zk_S hz1 hk1
  refine lv_astore (lv' := [(5, .ref qx), (0, .ref h0), (1, .int (zi sl)), (2, .int (zi many)), (3, .int (zi un)), (4, .ref qo)]) hx hb dL_move_19 hl (by decide) rfl (fun ls hl => ?_)
  refine zw_iconst hx hb dL_move_21 ?_
  have hP9 := hP.sub (ws' := [(h0, .inr (4, [.ref qs, .ref qr, .ref qm, .ref qw, .ref qt, .int (zi we)])), (qs, aI cI 10 sf), (qo, aL cL 1 of)]) [0, 1, 2] rfl
  have hD9 := hD.sub (ws' := [(h0, .inr (4, [.ref qs, .ref qr, .ref qm, .ref qw, .ref qt, .int (zi we)])), (qs, aI cI 10 sf), (qo, aL cL 1 of)]) [0, 1, 2] (by decide) rfl
  exact W.iret (v := zi 2) hx hb hr (fun t ht hW => ⟨⟨zi 2, (), rfl, rfl, by rw [ht]; exact hP9, va_K.moved hW.alike hK, hD9⟩, hS.F ht⟩) hS.2.2 dL_move_22

set_option maxHeartbeats 4000000 in
set_option maxRecDepth 100000 in
theorem c_L_move_3 (l : Launch) (hst : l.stackTraces = false) (dC : Nat → ClassId) (dI : Nat → Nat → Nat) (cI : ClassId) (cL : ClassId) (h0 : Nat) (qs : Nat) (qr : Nat) (qm : Nat) (qw : Nat) (qt : Nat) (we : Int) (sf : Nat → Int) (qo : Nat) (of : Nat → Int) (sl : Int) (many : Int) (un : Int) (sz : Nat) (hp0 : 0 ≤ sl ∧ sl ≤ 9) (hp1 : 0 ≤ un ∧ un ≤ 2) (hp2 : sf sl.toNat = -1) : Met l yL_move wsL_move ({ frames := 8, cells := 1, slots := 6, locals := 136 }) (zPx (dC, dI) [(cI, .int), (cL, .long)] sz [.ref h0, .int (zi sl), .int (zi many), .int (zi un), .ref qo] [(h0, .inr (4, [.ref qs, .ref qr, .ref qm, .ref qw, .ref qt, .int (zi we)])), (qs, aI cI 10 sf), (qo, aL cL 1 of)]) (va_Qi (fun (r : Int32) (_ : Unit) => r = zi 3) (zB (dC, dI) [(cI, .int), (cL, .long)] (va_A [(h0, .inr (4, [.ref qs, .ref qr, .ref qm, .ref qw, .ref qt, .int (zi we)])), (qs, aI cI 10 sf), (qo, aL cL 1 of)] sz) [(h0, .inr (4, [.ref qs, .ref qr, .ref qm, .ref qw, .ref qt, .int (zi we)])), (qs, aI cI 10 sf), (qo, aL cL 1 of)]) (va_A [(h0, .inr (4, [.ref qs, .ref qr, .ref qm, .ref qw, .ref qt, .int (zi we)])), (qs, aI cI 10 sf), (qo, aL cL 1 of)] sz)) 1 6 (va_A [(h0, .inr (4, [.ref qs, .ref qr, .ref qm, .ref qw, .ref qt, .int (zi we)])), (qs, aI cI 10 sf), (qo, aL cL 1 of)] sz) := by
  refine va_MetW (hh := [(0, 12, 15, 13), (0, 12, 19, 15), (0, 12, 23, 35), (0, 12, 27, 37)]) (cc := cL_move) (maxL := 6) (ret := (some .int)) (by decide) rfl ?_
  intro p e s m args below meth c s₁ B hml hv
  obtain ⟨rfl, hsz, hE, hP, hK, hD0⟩ := hv
  have hx := B.exec
  have hb := B.bytes
  have hr := B.returns
  have hts := atoms_spec (ws := wsL_move) B.pre
  have hown : s.vm.findClass RL = some m.cls := findClass_of_methodNamed B.named
  have hlocks := B.notSynchronized
  have hex : c.exceptionTable.toList = [⟨0, 12, 15, 13⟩, ⟨0, 12, 19, 15⟩, ⟨0, 12, 23, 35⟩, ⟨0, 12, 27, 37⟩] := vx_table (x := yL_move) B (hts _ List.mem_cons_self)
  subst hsz
  have hD := hD0.self (sz := s.heap.size)
  generalize hAe : va_A [(h0, .inr (4, [.ref qs, .ref qr, .ref qm, .ref qw, .ref qt, .int (zi we)])), (qs, aI cI 10 sf), (qo, aL cL 1 of)] s.heap.size = A at hD ⊢
  have hA : ∀ q : Nat, s.heap.size ≤ q → A q := fun q h => by rw [← hAe]; exact Or.inr h
  have hS : va_S A s.heap s.heap [] := va_S.rf
  have hP : va_P (dC, dI) vwCl [(h0, .inr (4, [.ref qs, .ref qr, .ref qm, .ref qw, .ref qt, .int (zi we)])), (qs, aI cI 10 sf), (qo, aL cL 1 of)] s.heap := hP
  have hl := lv_entry ([.ref h0, .int (zi sl), .int (zi many), .int (zi un), .ref qo]) (n := 6) (Nat.le_of_ble_eq_true rfl)
  rw [lg_entry_eq]
  generalize (lg_sl ([.ref h0, .int (zi sl), .int (zi many), .int (zi un), .ref qo]) ++ List.replicate (6 - (lg_sl ([.ref h0, .int (zi sl), .int (zi many), .int (zi un), .ref qo])).length) Slot.unset).toArray = ls at hl ⊢
  have hl : lv_has ls 6 [(0, .ref h0), (1, .int (zi sl)), (2, .int (zi many)), (3, .int (zi un)), (4, .ref qo)] := hl
  refine lv_aload hx hb dL_move_0 (lv_at hl 4 rfl) ?_
  refine zw_iconst hx hb dL_move_2 ?_
  refine lv_aload_n hx hb dL_move_3 rfl (lv_at hl 0 rfl) ?_
  refine lv_iload_n hx hb dL_move_4 rfl (lv_at hl 1 rfl) ?_
  refine lv_iload_n hx hb dL_move_5 rfl (lv_at hl 2 rfl) ?_
  refine lv_iload_n hx hb dL_move_6 rfl (lv_at hl 3 rfl) ?_
  have hh1 := t_X4_move_3 l hst dC dI cI h0 qs qr qm qw qt we sf sl many un (by omega) (by omega) (by omega)
  have hPc := hP.sub (ws' := [(h0, .inr (4, [.ref qs, .ref qr, .ref qm, .ref qw, .ref qt, .int (zi we)])), (qs, aI cI 10 sf)]) [0, 1] rfl
  have hKc : va_K (dC, dI) vwCl [(cI, .int)] s := hK.sub (tys' := [(cI, .int)]) [0] rfl
  refine zt_catch (own := RL) (name := "java/lang/IllegalStateException") (vx_runV (As := [.int (zi sl), .int (zi many), .int (zi un)]) (rest := [.int (zi 0), .ref qo]) ⟨hx, hb, hml, hown, hts⟩ hh1 (cwV 3 hts gL_move_X4_move rfl rfl rfl (by decide +kernel) ⟨Nat.le_of_ble_eq_true rfl, Nat.le_of_ble_eq_true rfl⟩) ⟨zPt.blind _ _ _ _, va_recv hKc hPc (ci := 4) (q0 := 0) rfl rfl, fun U hU hW => ⟨rfl, hE.call va_S.rf (fun q h => by rw [hU] at h; exact h) hU hW, by rw [hU]; exact hPc, va_K.moved hW.alike hKc⟩⟩ rfl rfl hl.1 rfl (lv_room (Nat.le_of_ble_eq_true rfl)) dL_move_7 ⟨Nat.le_of_ble_eq_true rfl, Nat.le_of_ble_eq_true rfl⟩) hown [⟨0, 12, 15, 13⟩, ⟨0, 12, 19, 15⟩] ⟨0, 12, 23, 35⟩ [⟨0, 12, 27, 37⟩] hex (List.forall_mem_cons.mpr ⟨⟨by decide, by decide, "java/lang/IndexOutOfBoundsException", (hts (.classLink RL 13 "java/lang/IndexOutOfBoundsException") (by decide +kernel)), hE.2.2.2.2 ("java/lang/IllegalStateException", "java/lang/IndexOutOfBoundsException") (by decide)⟩, List.forall_mem_cons.mpr ⟨⟨by decide, by decide, "java/lang/IllegalArgumentException", (hts (.classLink RL 15 "java/lang/IllegalArgumentException") (by decide +kernel)), hE.2.2.2.2 ("java/lang/IllegalStateException", "java/lang/IllegalArgumentException") (by decide)⟩, List.forall_mem_nil _⟩⟩) (by decide) (by decide) (hts (.classLink RL 35 "java/lang/IllegalStateException") (by decide +kernel)) (va_any rfl (hE.2.2.1 (.castable "java/lang/IllegalStateException" "java/lang/IllegalStateException") (by decide +kernel))) (fun qx H1 hz1 hk1 => ?_)
  have hP : va_P (dC, dI) vwCl [(h0, .inr (4, [.ref qs, .ref qr, .ref qm, .ref qw, .ref qt, .int (zi we)])), (qs, aI cI 10 sf), (qo, aL cL 1 of)] H1 := zk_world hP hk1
  have hS : va_S A s.heap H1 [] := zk_S hz1 hk1
  refine lv_astore (lv' := [(5, .ref qx), (0, .ref h0), (1, .int (zi sl)), (2, .int (zi many)), (3, .int (zi un)), (4, .ref qo)]) hx hb dL_move_23 hl (by decide) rfl (fun ls hl => ?_)
  refine zw_iconst hx hb dL_move_25 ?_
  have hP9 := hP.sub (ws' := [(h0, .inr (4, [.ref qs, .ref qr, .ref qm, .ref qw, .ref qt, .int (zi we)])), (qs, aI cI 10 sf), (qo, aL cL 1 of)]) [0, 1, 2] rfl
  have hD9 := hD.sub (ws' := [(h0, .inr (4, [.ref qs, .ref qr, .ref qm, .ref qw, .ref qt, .int (zi we)])), (qs, aI cI 10 sf), (qo, aL cL 1 of)]) [0, 1, 2] (by decide) rfl
  exact W.iret (v := zi 3) hx hb hr (fun t ht hW => ⟨⟨zi 3, (), rfl, rfl, by rw [ht]; exact hP9, va_K.moved hW.alike hK, hD9⟩, hS.F ht⟩) hS.2.2 dL_move_26

set_option maxHeartbeats 4000000 in
set_option maxRecDepth 100000 in
theorem c_L_move_4 (l : Launch) (hst : l.stackTraces = false) (dC : Nat → ClassId) (dI : Nat → Nat → Nat) (cI : ClassId) (cL : ClassId) (h0 : Nat) (qs : Nat) (qr : Nat) (qm : Nat) (qw : Nat) (qt : Nat) (we : Int) (sf : Nat → Int) (qo : Nat) (of : Nat → Int) (sl : Int) (many : Int) (un : Int) (sz : Nat) (hp0 : 0 ≤ sl ∧ sl ≤ 9) (hp1 : 0 ≤ un ∧ un ≤ 2) (hp2 : 0 ≤ sf sl.toNat ∧ sf sl.toNat ≤ 3652058) (hp3 : -2147483648 ≤ many ∧ many ≤ 2147483647) (hp4 : (f_X4_moved (sf sl.toNat) many un) = -1) : Met l yL_move wsL_move ({ frames := 7, cells := 1, slots := 6, locals := 160 }) (zPx (dC, dI) [(cI, .int), (cL, .long)] sz [.ref h0, .int (zi sl), .int (zi many), .int (zi un), .ref qo] [(h0, .inr (4, [.ref qs, .ref qr, .ref qm, .ref qw, .ref qt, .int (zi we)])), (qs, aI cI 10 sf), (qo, aL cL 1 of)]) (va_Qi (fun (r : Int32) (_ : Unit) => r = zi 4) (zB (dC, dI) [(cI, .int), (cL, .long)] (va_A [(h0, .inr (4, [.ref qs, .ref qr, .ref qm, .ref qw, .ref qt, .int (zi we)])), (qs, aI cI 10 sf), (qo, aL cL 1 of)] sz) [(h0, .inr (4, [.ref qs, .ref qr, .ref qm, .ref qw, .ref qt, .int (zi we)])), (qs, aI cI 10 sf), (qo, aL cL 1 of)]) (va_A [(h0, .inr (4, [.ref qs, .ref qr, .ref qm, .ref qw, .ref qt, .int (zi we)])), (qs, aI cI 10 sf), (qo, aL cL 1 of)] sz)) 1 6 (va_A [(h0, .inr (4, [.ref qs, .ref qr, .ref qm, .ref qw, .ref qt, .int (zi we)])), (qs, aI cI 10 sf), (qo, aL cL 1 of)] sz) := by
  refine va_MetW (hh := [(0, 12, 15, 13), (0, 12, 19, 15), (0, 12, 23, 35), (0, 12, 27, 37)]) (cc := cL_move) (maxL := 6) (ret := (some .int)) (by decide) rfl ?_
  intro p e s m args below meth c s₁ B hml hv
  obtain ⟨rfl, hsz, hE, hP, hK, hD0⟩ := hv
  have hx := B.exec
  have hb := B.bytes
  have hr := B.returns
  have hts := atoms_spec (ws := wsL_move) B.pre
  have hown : s.vm.findClass RL = some m.cls := findClass_of_methodNamed B.named
  have hlocks := B.notSynchronized
  have hex : c.exceptionTable.toList = [⟨0, 12, 15, 13⟩, ⟨0, 12, 19, 15⟩, ⟨0, 12, 23, 35⟩, ⟨0, 12, 27, 37⟩] := vx_table (x := yL_move) B (hts _ List.mem_cons_self)
  subst hsz
  have hD := hD0.self (sz := s.heap.size)
  generalize hAe : va_A [(h0, .inr (4, [.ref qs, .ref qr, .ref qm, .ref qw, .ref qt, .int (zi we)])), (qs, aI cI 10 sf), (qo, aL cL 1 of)] s.heap.size = A at hD ⊢
  have hA : ∀ q : Nat, s.heap.size ≤ q → A q := fun q h => by rw [← hAe]; exact Or.inr h
  have hS : va_S A s.heap s.heap [] := va_S.rf
  have hP : va_P (dC, dI) vwCl [(h0, .inr (4, [.ref qs, .ref qr, .ref qm, .ref qw, .ref qt, .int (zi we)])), (qs, aI cI 10 sf), (qo, aL cL 1 of)] s.heap := hP
  have hl := lv_entry ([.ref h0, .int (zi sl), .int (zi many), .int (zi un), .ref qo]) (n := 6) (Nat.le_of_ble_eq_true rfl)
  rw [lg_entry_eq]
  generalize (lg_sl ([.ref h0, .int (zi sl), .int (zi many), .int (zi un), .ref qo]) ++ List.replicate (6 - (lg_sl ([.ref h0, .int (zi sl), .int (zi many), .int (zi un), .ref qo])).length) Slot.unset).toArray = ls at hl ⊢
  have hl : lv_has ls 6 [(0, .ref h0), (1, .int (zi sl)), (2, .int (zi many)), (3, .int (zi un)), (4, .ref qo)] := hl
  refine lv_aload hx hb dL_move_0 (lv_at hl 4 rfl) ?_
  refine zw_iconst hx hb dL_move_2 ?_
  refine lv_aload_n hx hb dL_move_3 rfl (lv_at hl 0 rfl) ?_
  refine lv_iload_n hx hb dL_move_4 rfl (lv_at hl 1 rfl) ?_
  refine lv_iload_n hx hb dL_move_5 rfl (lv_at hl 2 rfl) ?_
  refine lv_iload_n hx hb dL_move_6 rfl (lv_at hl 3 rfl) ?_
  have hh1 := t_X4_move_4 l hst dC dI cI h0 qs qr qm qw qt we sf sl many un (by omega) (by omega) (by omega) (by omega) (by omega)
  have hPc := hP.sub (ws' := [(h0, .inr (4, [.ref qs, .ref qr, .ref qm, .ref qw, .ref qt, .int (zi we)])), (qs, aI cI 10 sf)]) [0, 1] rfl
  have hKc : va_K (dC, dI) vwCl [(cI, .int)] s := hK.sub (tys' := [(cI, .int)]) [0] rfl
  refine zt_catch (own := RL) (name := "java/lang/UnsupportedOperationException") (vx_runV (As := [.int (zi sl), .int (zi many), .int (zi un)]) (rest := [.int (zi 0), .ref qo]) ⟨hx, hb, hml, hown, hts⟩ hh1 (cwV 3 hts gL_move_X4_move rfl rfl rfl (by decide +kernel) ⟨Nat.le_of_ble_eq_true rfl, Nat.le_of_ble_eq_true rfl⟩) ⟨zPt.blind _ _ _ _, va_recv hKc hPc (ci := 4) (q0 := 0) rfl rfl, fun U hU hW => ⟨rfl, hE.call va_S.rf (fun q h => by rw [hU] at h; exact h) hU hW, by rw [hU]; exact hPc, va_K.moved hW.alike hKc⟩⟩ rfl rfl hl.1 rfl (lv_room (Nat.le_of_ble_eq_true rfl)) dL_move_7 ⟨Nat.le_of_ble_eq_true rfl, Nat.le_of_ble_eq_true rfl⟩) hown [⟨0, 12, 15, 13⟩, ⟨0, 12, 19, 15⟩, ⟨0, 12, 23, 35⟩] ⟨0, 12, 27, 37⟩ [] hex (List.forall_mem_cons.mpr ⟨⟨by decide, by decide, "java/lang/IndexOutOfBoundsException", (hts (.classLink RL 13 "java/lang/IndexOutOfBoundsException") (by decide +kernel)), hE.2.2.2.2 ("java/lang/UnsupportedOperationException", "java/lang/IndexOutOfBoundsException") (by decide)⟩, List.forall_mem_cons.mpr ⟨⟨by decide, by decide, "java/lang/IllegalArgumentException", (hts (.classLink RL 15 "java/lang/IllegalArgumentException") (by decide +kernel)), hE.2.2.2.2 ("java/lang/UnsupportedOperationException", "java/lang/IllegalArgumentException") (by decide)⟩, List.forall_mem_cons.mpr ⟨⟨by decide, by decide, "java/lang/IllegalStateException", (hts (.classLink RL 35 "java/lang/IllegalStateException") (by decide +kernel)), hE.2.2.2.2 ("java/lang/UnsupportedOperationException", "java/lang/IllegalStateException") (by decide)⟩, List.forall_mem_nil _⟩⟩⟩) (by decide) (by decide) (hts (.classLink RL 37 "java/lang/UnsupportedOperationException") (by decide +kernel)) (va_any rfl (hE.2.2.1 (.castable "java/lang/UnsupportedOperationException" "java/lang/UnsupportedOperationException") (by decide +kernel))) (fun qx H1 hz1 hk1 => ?_)
  have hP : va_P (dC, dI) vwCl [(h0, .inr (4, [.ref qs, .ref qr, .ref qm, .ref qw, .ref qt, .int (zi we)])), (qs, aI cI 10 sf), (qo, aL cL 1 of)] H1 := zk_world hP hk1
  have hS : va_S A s.heap H1 [] := zk_S hz1 hk1
  refine lv_astore (lv' := [(5, .ref qx), (0, .ref h0), (1, .int (zi sl)), (2, .int (zi many)), (3, .int (zi un)), (4, .ref qo)]) hx hb dL_move_27 hl (by decide) rfl (fun ls hl => ?_)
  refine zw_iconst hx hb dL_move_29 ?_
  have hP9 := hP.sub (ws' := [(h0, .inr (4, [.ref qs, .ref qr, .ref qm, .ref qw, .ref qt, .int (zi we)])), (qs, aI cI 10 sf), (qo, aL cL 1 of)]) [0, 1, 2] rfl
  have hD9 := hD.sub (ws' := [(h0, .inr (4, [.ref qs, .ref qr, .ref qm, .ref qw, .ref qt, .int (zi we)])), (qs, aI cI 10 sf), (qo, aL cL 1 of)]) [0, 1, 2] (by decide) rfl
  exact W.iret (v := zi 4) hx hb hr (fun t ht hW => ⟨⟨zi 4, (), rfl, rfl, by rw [ht]; exact hP9, va_K.moved hW.alike hK, hD9⟩, hS.F ht⟩) hS.2.2 dL_move_30

set_option maxHeartbeats 4000000 in
set_option maxRecDepth 100000 in
theorem c_L_move (l : Launch)  (dC : Nat → ClassId) (dI : Nat → Nat → Nat) (cI : ClassId) (cL : ClassId) (h0 : Nat) (qs : Nat) (qr : Nat) (qm : Nat) (qw : Nat) (qt : Nat) (we : Int) (sf : Nat → Int) (qo : Nat) (of : Nat → Int) (sl : Int) (many : Int) (un : Int) (sz : Nat) (hp0 : 0 ≤ sl ∧ sl ≤ 9) (hp1 : 0 ≤ un ∧ un ≤ 2) (hp2 : 0 ≤ sf sl.toNat ∧ sf sl.toNat ≤ 3652058) (hp3 : -2147483648 ≤ many ∧ many ≤ 2147483647) (hp4 : (f_X4_moved (sf sl.toNat) many un) ≠ -1) (hp5 : -1 ≤ (f_X4_moved (sf sl.toNat) many un) ∧ (f_X4_moved (sf sl.toNat) many un) ≤ 3652058) : Met l yL_move wsL_move ({ frames := 7, cells := 0, slots := 0, locals := 160 }) (zPw (dC, dI) [(cI, .int), (cL, .long)] sz [.ref h0, .int (zi sl), .int (zi many), .int (zi un), .ref qo] [(h0, .inr (4, [.ref qs, .ref qr, .ref qm, .ref qw, .ref qt, .int (zi we)])), (qs, aI cI 10 sf), (qo, aL cL 1 of)]) (va_Qi (fun (r : Int32) (_ : Unit) => r = zi 0) (zB (dC, dI) [(cI, .int), (cL, .long)] (va_A [(h0, .inr (4, [.ref qs, .ref qr, .ref qm, .ref qw, .ref qt, .int (zi we)])), (qs, aI cI 10 sf), (qo, aL cL 1 of)] sz) [(h0, .inr (4, [.ref qs, .ref qr, .ref qm, .ref qw, .ref qt, .int (zi we)])), (qs, aI cI 10 (zup sf sl.toNat (f_X4_moved (sf sl.toNat) many un))), (qo, aL cL 1 (zup of (Int.toNat 0) (f_X4_moved (sf sl.toNat) many un)))]) (va_A [(h0, .inr (4, [.ref qs, .ref qr, .ref qm, .ref qw, .ref qt, .int (zi we)])), (qs, aI cI 10 sf), (qo, aL cL 1 of)] sz)) 0 0 (va_A [(h0, .inr (4, [.ref qs, .ref qr, .ref qm, .ref qw, .ref qt, .int (zi we)])), (qs, aI cI 10 sf), (qo, aL cL 1 of)] sz) := by
  refine va_MetW (hh := [(0, 12, 15, 13), (0, 12, 19, 15), (0, 12, 23, 35), (0, 12, 27, 37)]) (cc := cL_move) (maxL := 6) (ret := (some .int)) (by decide) rfl ?_
  intro p e s m args below meth c s₁ B hml hv
  obtain ⟨rfl, hsz, hP, hK, hD0⟩ := hv
  have hx := B.exec
  have hb := B.bytes
  have hr := B.returns
  have hts := atoms_spec (ws := wsL_move) B.pre
  have hown : s.vm.findClass RL = some m.cls := findClass_of_methodNamed B.named
  have hlocks := B.notSynchronized
  subst hsz
  have hD := hD0.self (sz := s.heap.size)
  generalize hAe : va_A [(h0, .inr (4, [.ref qs, .ref qr, .ref qm, .ref qw, .ref qt, .int (zi we)])), (qs, aI cI 10 sf), (qo, aL cL 1 of)] s.heap.size = A at hD ⊢
  have hA : ∀ q : Nat, s.heap.size ≤ q → A q := fun q h => by rw [← hAe]; exact Or.inr h
  have hS : va_S A s.heap s.heap [] := va_S.rf
  have hP : va_P (dC, dI) vwCl [(h0, .inr (4, [.ref qs, .ref qr, .ref qm, .ref qw, .ref qt, .int (zi we)])), (qs, aI cI 10 sf), (qo, aL cL 1 of)] s.heap := hP
  have hl := lv_entry ([.ref h0, .int (zi sl), .int (zi many), .int (zi un), .ref qo]) (n := 6) (Nat.le_of_ble_eq_true rfl)
  rw [lg_entry_eq]
  generalize (lg_sl ([.ref h0, .int (zi sl), .int (zi many), .int (zi un), .ref qo]) ++ List.replicate (6 - (lg_sl ([.ref h0, .int (zi sl), .int (zi many), .int (zi un), .ref qo])).length) Slot.unset).toArray = ls at hl ⊢
  have hl : lv_has ls 6 [(0, .ref h0), (1, .int (zi sl)), (2, .int (zi many)), (3, .int (zi un)), (4, .ref qo)] := hl
  refine lv_aload hx hb dL_move_0 (lv_at hl 4 rfl) ?_
  refine zw_iconst hx hb dL_move_2 ?_
  refine lv_aload_n hx hb dL_move_3 rfl (lv_at hl 0 rfl) ?_
  refine lv_iload_n hx hb dL_move_4 rfl (lv_at hl 1 rfl) ?_
  refine lv_iload_n hx hb dL_move_5 rfl (lv_at hl 2 rfl) ?_
  refine lv_iload_n hx hb dL_move_6 rfl (lv_at hl 3 rfl) ?_
  have hh1 := c_X4_move l dC dI cI h0 qs qr qm qw qt we sf sl many un s.heap.size (by omega) (by omega) (by omega) (by omega) (by omega)
  have hPc := hP.sub (ws' := [(h0, .inr (4, [.ref qs, .ref qr, .ref qm, .ref qw, .ref qt, .int (zi we)])), (qs, aI cI 10 sf)]) [0, 1] rfl
  have hKc : va_K (dC, dI) vwCl [(cI, .int)] s := hK.sub (tys' := [(cI, .int)]) [0] rfl
  have hDc := hD.sub (ws' := [(h0, .inr (4, [.ref qs, .ref qr, .ref qm, .ref qw, .ref qt, .int (zi we)])), (qs, aI cI 10 sf)]) [0, 1] (by decide) rfl
  have hFc := va_free (wc := [(h0, .inr (4, [.ref qs, .ref qr, .ref qm, .ref qw, .ref qt, .int (zi we)])), (qs, aI cI 10 sf)]) hD hS hA [0, 1] rfl
  refine va_calli (va_runV (As := [.int (zi sl), .int (zi many), .int (zi un)]) (rest := [.int (zi 0), .ref qo]) ⟨hx, hb, hml, hown, hts⟩ hh1 (cwV 3 hts gL_move_X4_move rfl rfl rfl (by decide +kernel) ⟨Nat.le_of_ble_eq_true rfl, Nat.le_of_ble_eq_true rfl⟩) ⟨zPw.blind _ _ _ _ _, va_recv hKc hPc (ci := 4) (q0 := 0) rfl rfl, fun U hU hW => ⟨rfl, by rw [hU], by rw [hU]; exact hPc, va_K.moved hW.alike hKc, hDc.weaken (fun _ _ _ _ => trivial)⟩⟩ rfl rfl hl.1 rfl (lv_room (Nat.le_of_ble_eq_true rfl)) dL_move_7 ⟨Nat.le_of_ble_eq_true rfl, Nat.le_of_ble_eq_true rfl⟩) hS (fun q _ h => hFc q h) hFc (fun r1 u t H1 locs ht hvm hw hB hz1 hk1 hS => ?_)
  obtain ⟨hP1, hK1, hD1⟩ := hB
  rw [ht] at hP1
  obtain ⟨hP, hD⟩ := va_join (wr := [(qo, aL cL 1 of)]) (w1 := [(h0, .inr (4, [.ref qs, .ref qr, .ref qm, .ref qw, .ref qt, .int (zi we)])), (qs, aI cI 10 (zup sf sl.toNat (f_X4_moved (sf sl.toNat) many un)))]) hP hD [0, 1] [2] rfl rfl (by decide) (by decide) hk1 hFc hP1 hD1
  generalize H1 = H at hP hS ⊢
  obtain rfl : r1 = zi (f_X4_moved (sf sl.toNat) many un) := hw
  have hP : va_P (dC, dI) vwCl [(qo, aL cL 1 of), (h0, .inr (4, [.ref qs, .ref qr, .ref qm, .ref qw, .ref qt, .int (zi we)])), (qs, aI cI 10 (zup sf sl.toNat (f_X4_moved (sf sl.toNat) many un)))] H := hP
  have hD : va_D A [(qo, aL cL 1 of), (h0, .inr (4, [.ref qs, .ref qr, .ref qm, .ref qw, .ref qt, .int (zi we)])), (qs, aI cI 10 (zup sf sl.toNat (f_X4_moved (sf sl.toNat) many un)))] := hD
  refine zw_i2l hx hb dL_move_10 ⟨by omega, by omega⟩ ?_
  refine zw_last hx hb hK hP hD hS 0 1 rfl rfl (by omega) (by omega) ⟨by omega, by omega⟩ dL_move_11 (fun H locs hP hD hS => ?_)
  have hP : va_P (dC, dI) vwCl [(qo, aL cL 1 (zup of (Int.toNat 0) (f_X4_moved (sf sl.toNat) many un))), (h0, .inr (4, [.ref qs, .ref qr, .ref qm, .ref qw, .ref qt, .int (zi we)])), (qs, aI cI 10 (zup sf sl.toNat (f_X4_moved (sf sl.toNat) many un)))] H := hP
  have hD : va_D A [(qo, aL cL 1 (zup of (Int.toNat 0) (f_X4_moved (sf sl.toNat) many un))), (h0, .inr (4, [.ref qs, .ref qr, .ref qm, .ref qw, .ref qt, .int (zi we)])), (qs, aI cI 10 (zup sf sl.toNat (f_X4_moved (sf sl.toNat) many un)))] := hD
  refine lv_goto (tgt := 31) hx hb dL_move_12 (by decide) ?_
  refine zw_iconst hx hb dL_move_31 ?_
  have hP9 := hP.sub (ws' := [(h0, .inr (4, [.ref qs, .ref qr, .ref qm, .ref qw, .ref qt, .int (zi we)])), (qs, aI cI 10 (zup sf sl.toNat (f_X4_moved (sf sl.toNat) many un))), (qo, aL cL 1 (zup of (Int.toNat 0) (f_X4_moved (sf sl.toNat) many un)))]) [1, 2, 0] rfl
  have hD9 := hD.sub (ws' := [(h0, .inr (4, [.ref qs, .ref qr, .ref qm, .ref qw, .ref qt, .int (zi we)])), (qs, aI cI 10 (zup sf sl.toNat (f_X4_moved (sf sl.toNat) many un))), (qo, aL cL 1 (zup of (Int.toNat 0) (f_X4_moved (sf sl.toNat) many un)))]) [1, 2, 0] (by decide) rfl
  exact W.iret (v := zi 0) hx hb hr (fun t ht hW => ⟨⟨zi 0, (), rfl, rfl, by rw [ht]; exact hP9, va_K.moved hW.alike hK, hD9⟩, hS.F ht⟩) hS.2.2 dL_move_32

set_option maxHeartbeats 4000000 in
set_option maxRecDepth 100000 in
theorem c_L_told_1 (l : Launch) (hst : l.stackTraces = false) (dC : Nat → ClassId) (dI : Nat → Nat → Nat) (cI : ClassId) (cL : ClassId) (h0 : Nat) (qs : Nat) (qr : Nat) (qm : Nat) (qw : Nat) (qt : Nat) (we : Int) (sf : Nat → Int) (qo : Nat) (of : Nat → Int) (sl : Int) (wh : Int) (sz : Nat) (hp0 : -2147483648 ≤ sl ∧ sl ≤ 2147483647) (hp1 : sl < 0 ∨ 9 < sl) : Met l yL_told wsL_told ({ frames := 8, cells := 1, slots := 6, locals := 134 }) (zPx (dC, dI) [(cI, .int), (cL, .long)] sz [.ref h0, .int (zi sl), .int (zi wh), .ref qo] [(h0, .inr (4, [.ref qs, .ref qr, .ref qm, .ref qw, .ref qt, .int (zi we)])), (qs, aI cI 10 sf), (qo, aL cL 1 of)]) (va_Qi (fun (r : Int32) (_ : Unit) => r = zi 1) (zB (dC, dI) [(cI, .int), (cL, .long)] (va_A [(h0, .inr (4, [.ref qs, .ref qr, .ref qm, .ref qw, .ref qt, .int (zi we)])), (qs, aI cI 10 sf), (qo, aL cL 1 of)] sz) [(h0, .inr (4, [.ref qs, .ref qr, .ref qm, .ref qw, .ref qt, .int (zi we)])), (qs, aI cI 10 sf), (qo, aL cL 1 of)]) (va_A [(h0, .inr (4, [.ref qs, .ref qr, .ref qm, .ref qw, .ref qt, .int (zi we)])), (qs, aI cI 10 sf), (qo, aL cL 1 of)] sz)) 1 6 (va_A [(h0, .inr (4, [.ref qs, .ref qr, .ref qm, .ref qw, .ref qt, .int (zi we)])), (qs, aI cI 10 sf), (qo, aL cL 1 of)] sz) := by
  refine va_MetW (hh := [(0, 10, 13, 13), (0, 10, 17, 15), (0, 10, 21, 35)]) (cc := cL_told) (maxL := 5) (ret := (some .int)) (by decide) rfl ?_
  intro p e s m args below meth c s₁ B hml hv
  obtain ⟨rfl, hsz, hE, hP, hK, hD0⟩ := hv
  have hx := B.exec
  have hb := B.bytes
  have hr := B.returns
  have hts := atoms_spec (ws := wsL_told) B.pre
  have hown : s.vm.findClass RL = some m.cls := findClass_of_methodNamed B.named
  have hlocks := B.notSynchronized
  have hex : c.exceptionTable.toList = [⟨0, 10, 13, 13⟩, ⟨0, 10, 17, 15⟩, ⟨0, 10, 21, 35⟩] := vx_table (x := yL_told) B (hts _ List.mem_cons_self)
  subst hsz
  have hD := hD0.self (sz := s.heap.size)
  generalize hAe : va_A [(h0, .inr (4, [.ref qs, .ref qr, .ref qm, .ref qw, .ref qt, .int (zi we)])), (qs, aI cI 10 sf), (qo, aL cL 1 of)] s.heap.size = A at hD ⊢
  have hA : ∀ q : Nat, s.heap.size ≤ q → A q := fun q h => by rw [← hAe]; exact Or.inr h
  have hS : va_S A s.heap s.heap [] := va_S.rf
  have hP : va_P (dC, dI) vwCl [(h0, .inr (4, [.ref qs, .ref qr, .ref qm, .ref qw, .ref qt, .int (zi we)])), (qs, aI cI 10 sf), (qo, aL cL 1 of)] s.heap := hP
  have hl := lv_entry ([.ref h0, .int (zi sl), .int (zi wh), .ref qo]) (n := 5) (Nat.le_of_ble_eq_true rfl)
  rw [lg_entry_eq]
  generalize (lg_sl ([.ref h0, .int (zi sl), .int (zi wh), .ref qo]) ++ List.replicate (5 - (lg_sl ([.ref h0, .int (zi sl), .int (zi wh), .ref qo])).length) Slot.unset).toArray = ls at hl ⊢
  have hl : lv_has ls 5 [(0, .ref h0), (1, .int (zi sl)), (2, .int (zi wh)), (3, .ref qo)] := hl
  refine lv_aload_n hx hb dL_told_0 rfl (lv_at hl 3 rfl) ?_
  refine zw_iconst hx hb dL_told_1 ?_
  refine lv_aload_n hx hb dL_told_2 rfl (lv_at hl 0 rfl) ?_
  refine lv_iload_n hx hb dL_told_3 rfl (lv_at hl 1 rfl) ?_
  refine lv_iload_n hx hb dL_told_4 rfl (lv_at hl 2 rfl) ?_
  have hh1 := t_X4_told_1 l hst h0 sl wh (by omega) (by omega)
  refine zt_catch (own := RL) (name := "java/lang/IndexOutOfBoundsException") (vx_runV (As := [.int (zi sl), .int (zi wh)]) (rest := [.int (zi 0), .ref qo]) ⟨hx, hb, hml, hown, hts⟩ hh1 (cwV 2 hts gL_told_X4_told rfl rfl rfl (by decide +kernel) ⟨Nat.le_of_ble_eq_true rfl, Nat.le_of_ble_eq_true rfl⟩) ⟨zP.blind _, va_recv hK hP (ci := 4) (q0 := 0) rfl rfl, fun U hU hW => ⟨rfl, hE.call va_S.rf (fun q h => by rw [hU] at h; exact h) hU hW⟩⟩ rfl rfl hl.1 rfl (lv_room (Nat.le_of_ble_eq_true rfl)) dL_told_5 ⟨Nat.le_of_ble_eq_true rfl, Nat.le_of_ble_eq_true rfl⟩) hown [] ⟨0, 10, 13, 13⟩ [⟨0, 10, 17, 15⟩, ⟨0, 10, 21, 35⟩] hex (List.forall_mem_nil _) (by decide) (by decide) (hts (.classLink RL 13 "java/lang/IndexOutOfBoundsException") (by decide +kernel)) (va_any rfl (hE.2.2.1 (.castable "java/lang/IndexOutOfBoundsException" "java/lang/IndexOutOfBoundsException") (by decide +kernel))) (fun qx H1 hz1 hk1 => ?_)
  have hP : va_P (dC, dI) vwCl [(h0, .inr (4, [.ref qs, .ref qr, .ref qm, .ref qw, .ref qt, .int (zi we)])), (qs, aI cI 10 sf), (qo, aL cL 1 of)] H1 := zk_world hP hk1
  have hS : va_S A s.heap H1 [] := zk_S hz1 hk1
  refine lv_astore (lv' := [(4, .ref qx), (0, .ref h0), (1, .int (zi sl)), (2, .int (zi wh)), (3, .ref qo)]) hx hb dL_told_13 hl (by decide) rfl (fun ls hl => ?_)
  refine zw_iconst hx hb dL_told_15 ?_
  have hP9 := hP.sub (ws' := [(h0, .inr (4, [.ref qs, .ref qr, .ref qm, .ref qw, .ref qt, .int (zi we)])), (qs, aI cI 10 sf), (qo, aL cL 1 of)]) [0, 1, 2] rfl
  have hD9 := hD.sub (ws' := [(h0, .inr (4, [.ref qs, .ref qr, .ref qm, .ref qw, .ref qt, .int (zi we)])), (qs, aI cI 10 sf), (qo, aL cL 1 of)]) [0, 1, 2] (by decide) rfl
  exact W.iret (v := zi 1) hx hb hr (fun t ht hW => ⟨⟨zi 1, (), rfl, rfl, by rw [ht]; exact hP9, va_K.moved hW.alike hK, hD9⟩, hS.F ht⟩) hS.2.2 dL_told_16

set_option maxHeartbeats 4000000 in
set_option maxRecDepth 100000 in
theorem c_L_told_2 (l : Launch) (hst : l.stackTraces = false) (dC : Nat → ClassId) (dI : Nat → Nat → Nat) (cI : ClassId) (cL : ClassId) (h0 : Nat) (qs : Nat) (qr : Nat) (qm : Nat) (qw : Nat) (qt : Nat) (we : Int) (sf : Nat → Int) (qo : Nat) (of : Nat → Int) (sl : Int) (wh : Int) (sz : Nat) (hp0 : 0 ≤ sl ∧ sl ≤ 9) (hp1 : -2147483648 ≤ wh ∧ wh ≤ 2147483647) (hp2 : wh < 0 ∨ 10 < wh) : Met l yL_told wsL_told ({ frames := 7, cells := 1, slots := 6, locals := 114 }) (zPx (dC, dI) [(cI, .int), (cL, .long)] sz [.ref h0, .int (zi sl), .int (zi wh), .ref qo] [(h0, .inr (4, [.ref qs, .ref qr, .ref qm, .ref qw, .ref qt, .int (zi we)])), (qs, aI cI 10 sf), (qo, aL cL 1 of)]) (va_Qi (fun (r : Int32) (_ : Unit) => r = zi 2) (zB (dC, dI) [(cI, .int), (cL, .long)] (va_A [(h0, .inr (4, [.ref qs, .ref qr, .ref qm, .ref qw, .ref qt, .int (zi we)])), (qs, aI cI 10 sf), (qo, aL cL 1 of)] sz) [(h0, .inr (4, [.ref qs, .ref qr, .ref qm, .ref qw, .ref qt, .int (zi we)])), (qs, aI cI 10 sf), (qo, aL cL 1 of)]) (va_A [(h0, .inr (4, [.ref qs, .ref qr, .ref qm, .ref qw, .ref qt, .int (zi we)])), (qs, aI cI 10 sf), (qo, aL cL 1 of)] sz)) 1 6 (va_A [(h0, .inr (4, [.ref qs, .ref qr, .ref qm, .ref qw, .ref qt, .int (zi we)])), (qs, aI cI 10 sf), (qo, aL cL 1 of)] sz) := by
  refine va_MetW (hh := [(0, 10, 13, 13), (0, 10, 17, 15), (0, 10, 21, 35)]) (cc := cL_told) (maxL := 5) (ret := (some .int)) (by decide) rfl ?_
  intro p e s m args below meth c s₁ B hml hv
  obtain ⟨rfl, hsz, hE, hP, hK, hD0⟩ := hv
  have hx := B.exec
  have hb := B.bytes
  have hr := B.returns
  have hts := atoms_spec (ws := wsL_told) B.pre
  have hown : s.vm.findClass RL = some m.cls := findClass_of_methodNamed B.named
  have hlocks := B.notSynchronized
  have hex : c.exceptionTable.toList = [⟨0, 10, 13, 13⟩, ⟨0, 10, 17, 15⟩, ⟨0, 10, 21, 35⟩] := vx_table (x := yL_told) B (hts _ List.mem_cons_self)
  subst hsz
  have hD := hD0.self (sz := s.heap.size)
  generalize hAe : va_A [(h0, .inr (4, [.ref qs, .ref qr, .ref qm, .ref qw, .ref qt, .int (zi we)])), (qs, aI cI 10 sf), (qo, aL cL 1 of)] s.heap.size = A at hD ⊢
  have hA : ∀ q : Nat, s.heap.size ≤ q → A q := fun q h => by rw [← hAe]; exact Or.inr h
  have hS : va_S A s.heap s.heap [] := va_S.rf
  have hP : va_P (dC, dI) vwCl [(h0, .inr (4, [.ref qs, .ref qr, .ref qm, .ref qw, .ref qt, .int (zi we)])), (qs, aI cI 10 sf), (qo, aL cL 1 of)] s.heap := hP
  have hl := lv_entry ([.ref h0, .int (zi sl), .int (zi wh), .ref qo]) (n := 5) (Nat.le_of_ble_eq_true rfl)
  rw [lg_entry_eq]
  generalize (lg_sl ([.ref h0, .int (zi sl), .int (zi wh), .ref qo]) ++ List.replicate (5 - (lg_sl ([.ref h0, .int (zi sl), .int (zi wh), .ref qo])).length) Slot.unset).toArray = ls at hl ⊢
  have hl : lv_has ls 5 [(0, .ref h0), (1, .int (zi sl)), (2, .int (zi wh)), (3, .ref qo)] := hl
  refine lv_aload_n hx hb dL_told_0 rfl (lv_at hl 3 rfl) ?_
  refine zw_iconst hx hb dL_told_1 ?_
  refine lv_aload_n hx hb dL_told_2 rfl (lv_at hl 0 rfl) ?_
  refine lv_iload_n hx hb dL_told_3 rfl (lv_at hl 1 rfl) ?_
  refine lv_iload_n hx hb dL_told_4 rfl (lv_at hl 2 rfl) ?_
  have hh1 := t_X4_told_2 l hst h0 sl wh (by omega) (by omega) (by omega)
  refine zt_catch (own := RL) (name := "java/lang/IllegalArgumentException") (vx_runV (As := [.int (zi sl), .int (zi wh)]) (rest := [.int (zi 0), .ref qo]) ⟨hx, hb, hml, hown, hts⟩ hh1 (cwV 2 hts gL_told_X4_told rfl rfl rfl (by decide +kernel) ⟨Nat.le_of_ble_eq_true rfl, Nat.le_of_ble_eq_true rfl⟩) ⟨zP.blind _, va_recv hK hP (ci := 4) (q0 := 0) rfl rfl, fun U hU hW => ⟨rfl, hE.call va_S.rf (fun q h => by rw [hU] at h; exact h) hU hW⟩⟩ rfl rfl hl.1 rfl (lv_room (Nat.le_of_ble_eq_true rfl)) dL_told_5 ⟨Nat.le_of_ble_eq_true rfl, Nat.le_of_ble_eq_true rfl⟩) hown [⟨0, 10, 13, 13⟩] ⟨0, 10, 17, 15⟩ [⟨0, 10, 21, 35⟩] hex (List.forall_mem_cons.mpr ⟨⟨by decide, by decide, "java/lang/IndexOutOfBoundsException", (hts (.classLink RL 13 "java/lang/IndexOutOfBoundsException") (by decide +kernel)), hE.2.2.2.2 ("java/lang/IllegalArgumentException", "java/lang/IndexOutOfBoundsException") (by decide)⟩, List.forall_mem_nil _⟩) (by decide) (by decide) (hts (.classLink RL 15 "java/lang/IllegalArgumentException") (by decide +kernel)) (va_any rfl (hE.2.2.1 (.castable "java/lang/IllegalArgumentException" "java/lang/IllegalArgumentException") (by decide +kernel))) (fun qx H1 hz1 hk1 => ?_)
  have hP : va_P (dC, dI) vwCl [(h0, .inr (4, [.ref qs, .ref qr, .ref qm, .ref qw, .ref qt, .int (zi we)])), (qs, aI cI 10 sf), (qo, aL cL 1 of)] H1 := zk_world hP hk1
  have hS : va_S A s.heap H1 [] := zk_S hz1 hk1
  refine lv_astore (lv' := [(4, .ref qx), (0, .ref h0), (1, .int (zi sl)), (2, .int (zi wh)), (3, .ref qo)]) hx hb dL_told_17 hl (by decide) rfl (fun ls hl => ?_)
  refine zw_iconst hx hb dL_told_19 ?_
  have hP9 := hP.sub (ws' := [(h0, .inr (4, [.ref qs, .ref qr, .ref qm, .ref qw, .ref qt, .int (zi we)])), (qs, aI cI 10 sf), (qo, aL cL 1 of)]) [0, 1, 2] rfl
  have hD9 := hD.sub (ws' := [(h0, .inr (4, [.ref qs, .ref qr, .ref qm, .ref qw, .ref qt, .int (zi we)])), (qs, aI cI 10 sf), (qo, aL cL 1 of)]) [0, 1, 2] (by decide) rfl
  exact W.iret (v := zi 2) hx hb hr (fun t ht hW => ⟨⟨zi 2, (), rfl, rfl, by rw [ht]; exact hP9, va_K.moved hW.alike hK, hD9⟩, hS.F ht⟩) hS.2.2 dL_told_20

set_option maxHeartbeats 4000000 in
set_option maxRecDepth 100000 in
theorem c_L_told_3 (l : Launch) (hst : l.stackTraces = false) (dC : Nat → ClassId) (dI : Nat → Nat → Nat) (cI : ClassId) (cL : ClassId) (h0 : Nat) (qs : Nat) (qr : Nat) (qm : Nat) (qw : Nat) (qt : Nat) (we : Int) (sf : Nat → Int) (qo : Nat) (of : Nat → Int) (sl : Int) (wh : Int) (sz : Nat) (hp0 : 0 ≤ sl ∧ sl ≤ 9) (hp1 : 0 ≤ wh ∧ wh ≤ 10) (hp2 : sf sl.toNat = -1) : Met l yL_told wsL_told ({ frames := 8, cells := 1, slots := 6, locals := 136 }) (zPx (dC, dI) [(cI, .int), (cL, .long)] sz [.ref h0, .int (zi sl), .int (zi wh), .ref qo] [(h0, .inr (4, [.ref qs, .ref qr, .ref qm, .ref qw, .ref qt, .int (zi we)])), (qs, aI cI 10 sf), (qo, aL cL 1 of)]) (va_Qi (fun (r : Int32) (_ : Unit) => r = zi 3) (zB (dC, dI) [(cI, .int), (cL, .long)] (va_A [(h0, .inr (4, [.ref qs, .ref qr, .ref qm, .ref qw, .ref qt, .int (zi we)])), (qs, aI cI 10 sf), (qo, aL cL 1 of)] sz) [(h0, .inr (4, [.ref qs, .ref qr, .ref qm, .ref qw, .ref qt, .int (zi we)])), (qs, aI cI 10 sf), (qo, aL cL 1 of)]) (va_A [(h0, .inr (4, [.ref qs, .ref qr, .ref qm, .ref qw, .ref qt, .int (zi we)])), (qs, aI cI 10 sf), (qo, aL cL 1 of)] sz)) 1 6 (va_A [(h0, .inr (4, [.ref qs, .ref qr, .ref qm, .ref qw, .ref qt, .int (zi we)])), (qs, aI cI 10 sf), (qo, aL cL 1 of)] sz) := by
  refine va_MetW (hh := [(0, 10, 13, 13), (0, 10, 17, 15), (0, 10, 21, 35)]) (cc := cL_told) (maxL := 5) (ret := (some .int)) (by decide) rfl ?_
  intro p e s m args below meth c s₁ B hml hv
  obtain ⟨rfl, hsz, hE, hP, hK, hD0⟩ := hv
  have hx := B.exec
  have hb := B.bytes
  have hr := B.returns
  have hts := atoms_spec (ws := wsL_told) B.pre
  have hown : s.vm.findClass RL = some m.cls := findClass_of_methodNamed B.named
  have hlocks := B.notSynchronized
  have hex : c.exceptionTable.toList = [⟨0, 10, 13, 13⟩, ⟨0, 10, 17, 15⟩, ⟨0, 10, 21, 35⟩] := vx_table (x := yL_told) B (hts _ List.mem_cons_self)
  subst hsz
  have hD := hD0.self (sz := s.heap.size)
  generalize hAe : va_A [(h0, .inr (4, [.ref qs, .ref qr, .ref qm, .ref qw, .ref qt, .int (zi we)])), (qs, aI cI 10 sf), (qo, aL cL 1 of)] s.heap.size = A at hD ⊢
  have hA : ∀ q : Nat, s.heap.size ≤ q → A q := fun q h => by rw [← hAe]; exact Or.inr h
  have hS : va_S A s.heap s.heap [] := va_S.rf
  have hP : va_P (dC, dI) vwCl [(h0, .inr (4, [.ref qs, .ref qr, .ref qm, .ref qw, .ref qt, .int (zi we)])), (qs, aI cI 10 sf), (qo, aL cL 1 of)] s.heap := hP
  have hl := lv_entry ([.ref h0, .int (zi sl), .int (zi wh), .ref qo]) (n := 5) (Nat.le_of_ble_eq_true rfl)
  rw [lg_entry_eq]
  generalize (lg_sl ([.ref h0, .int (zi sl), .int (zi wh), .ref qo]) ++ List.replicate (5 - (lg_sl ([.ref h0, .int (zi sl), .int (zi wh), .ref qo])).length) Slot.unset).toArray = ls at hl ⊢
  have hl : lv_has ls 5 [(0, .ref h0), (1, .int (zi sl)), (2, .int (zi wh)), (3, .ref qo)] := hl
  refine lv_aload_n hx hb dL_told_0 rfl (lv_at hl 3 rfl) ?_
  refine zw_iconst hx hb dL_told_1 ?_
  refine lv_aload_n hx hb dL_told_2 rfl (lv_at hl 0 rfl) ?_
  refine lv_iload_n hx hb dL_told_3 rfl (lv_at hl 1 rfl) ?_
  refine lv_iload_n hx hb dL_told_4 rfl (lv_at hl 2 rfl) ?_
  have hh1 := t_X4_told_3 l hst dC dI cI h0 qs qr qm qw qt we sf sl wh (by omega) (by omega) (by omega)
  have hPc := hP.sub (ws' := [(h0, .inr (4, [.ref qs, .ref qr, .ref qm, .ref qw, .ref qt, .int (zi we)])), (qs, aI cI 10 sf)]) [0, 1] rfl
  have hKc : va_K (dC, dI) vwCl [(cI, .int)] s := hK.sub (tys' := [(cI, .int)]) [0] rfl
  refine zt_catch (own := RL) (name := "java/lang/IllegalStateException") (vx_runV (As := [.int (zi sl), .int (zi wh)]) (rest := [.int (zi 0), .ref qo]) ⟨hx, hb, hml, hown, hts⟩ hh1 (cwV 2 hts gL_told_X4_told rfl rfl rfl (by decide +kernel) ⟨Nat.le_of_ble_eq_true rfl, Nat.le_of_ble_eq_true rfl⟩) ⟨zPt.blind _ _ _ _, va_recv hKc hPc (ci := 4) (q0 := 0) rfl rfl, fun U hU hW => ⟨rfl, hE.call va_S.rf (fun q h => by rw [hU] at h; exact h) hU hW, by rw [hU]; exact hPc, va_K.moved hW.alike hKc⟩⟩ rfl rfl hl.1 rfl (lv_room (Nat.le_of_ble_eq_true rfl)) dL_told_5 ⟨Nat.le_of_ble_eq_true rfl, Nat.le_of_ble_eq_true rfl⟩) hown [⟨0, 10, 13, 13⟩, ⟨0, 10, 17, 15⟩] ⟨0, 10, 21, 35⟩ [] hex (List.forall_mem_cons.mpr ⟨⟨by decide, by decide, "java/lang/IndexOutOfBoundsException", (hts (.classLink RL 13 "java/lang/IndexOutOfBoundsException") (by decide +kernel)), hE.2.2.2.2 ("java/lang/IllegalStateException", "java/lang/IndexOutOfBoundsException") (by decide)⟩, List.forall_mem_cons.mpr ⟨⟨by decide, by decide, "java/lang/IllegalArgumentException", (hts (.classLink RL 15 "java/lang/IllegalArgumentException") (by decide +kernel)), hE.2.2.2.2 ("java/lang/IllegalStateException", "java/lang/IllegalArgumentException") (by decide)⟩, List.forall_mem_nil _⟩⟩) (by decide) (by decide) (hts (.classLink RL 35 "java/lang/IllegalStateException") (by decide +kernel)) (va_any rfl (hE.2.2.1 (.castable "java/lang/IllegalStateException" "java/lang/IllegalStateException") (by decide +kernel))) (fun qx H1 hz1 hk1 => ?_)
  have hP : va_P (dC, dI) vwCl [(h0, .inr (4, [.ref qs, .ref qr, .ref qm, .ref qw, .ref qt, .int (zi we)])), (qs, aI cI 10 sf), (qo, aL cL 1 of)] H1 := zk_world hP hk1
  have hS : va_S A s.heap H1 [] := zk_S hz1 hk1
  refine lv_astore (lv' := [(4, .ref qx), (0, .ref h0), (1, .int (zi sl)), (2, .int (zi wh)), (3, .ref qo)]) hx hb dL_told_21 hl (by decide) rfl (fun ls hl => ?_)
  refine zw_iconst hx hb dL_told_23 ?_
  have hP9 := hP.sub (ws' := [(h0, .inr (4, [.ref qs, .ref qr, .ref qm, .ref qw, .ref qt, .int (zi we)])), (qs, aI cI 10 sf), (qo, aL cL 1 of)]) [0, 1, 2] rfl
  have hD9 := hD.sub (ws' := [(h0, .inr (4, [.ref qs, .ref qr, .ref qm, .ref qw, .ref qt, .int (zi we)])), (qs, aI cI 10 sf), (qo, aL cL 1 of)]) [0, 1, 2] (by decide) rfl
  exact W.iret (v := zi 3) hx hb hr (fun t ht hW => ⟨⟨zi 3, (), rfl, rfl, by rw [ht]; exact hP9, va_K.moved hW.alike hK, hD9⟩, hS.F ht⟩) hS.2.2 dL_told_24

set_option maxHeartbeats 4000000 in
set_option maxRecDepth 100000 in
theorem c_L_told (l : Launch)  (dC : Nat → ClassId) (dI : Nat → Nat → Nat) (cI : ClassId) (cL : ClassId) (h0 : Nat) (qs : Nat) (qr : Nat) (qm : Nat) (qw : Nat) (qt : Nat) (we : Int) (sf : Nat → Int) (qo : Nat) (of : Nat → Int) (sl : Int) (wh : Int) (sz : Nat) (hp0 : 0 ≤ sl ∧ sl ≤ 9) (hp1 : 0 ≤ wh ∧ wh ≤ 10) (hp2 : 0 ≤ sf sl.toNat ∧ sf sl.toNat ≤ 3652058) (hp3 : -1 ≤ (f_X4_told (sf sl.toNat) wh) ∧ (f_X4_told (sf sl.toNat) wh) ≤ 3652058) : Met l yL_told wsL_told ({ frames := 5, cells := 0, slots := 0, locals := 111 }) (zPw (dC, dI) [(cI, .int), (cL, .long)] sz [.ref h0, .int (zi sl), .int (zi wh), .ref qo] [(h0, .inr (4, [.ref qs, .ref qr, .ref qm, .ref qw, .ref qt, .int (zi we)])), (qs, aI cI 10 sf), (qo, aL cL 1 of)]) (va_Qi (fun (r : Int32) (_ : Unit) => r = zi 0) (zB (dC, dI) [(cI, .int), (cL, .long)] (va_A [(h0, .inr (4, [.ref qs, .ref qr, .ref qm, .ref qw, .ref qt, .int (zi we)])), (qs, aI cI 10 sf), (qo, aL cL 1 of)] sz) [(h0, .inr (4, [.ref qs, .ref qr, .ref qm, .ref qw, .ref qt, .int (zi we)])), (qs, aI cI 10 sf), (qo, aL cL 1 (zup of (Int.toNat 0) (f_X4_told (sf sl.toNat) wh)))]) (va_A [(h0, .inr (4, [.ref qs, .ref qr, .ref qm, .ref qw, .ref qt, .int (zi we)])), (qs, aI cI 10 sf), (qo, aL cL 1 of)] sz)) 0 0 (va_A [(h0, .inr (4, [.ref qs, .ref qr, .ref qm, .ref qw, .ref qt, .int (zi we)])), (qs, aI cI 10 sf), (qo, aL cL 1 of)] sz) := by
  refine va_MetW (hh := [(0, 10, 13, 13), (0, 10, 17, 15), (0, 10, 21, 35)]) (cc := cL_told) (maxL := 5) (ret := (some .int)) (by decide) rfl ?_
  intro p e s m args below meth c s₁ B hml hv
  obtain ⟨rfl, hsz, hP, hK, hD0⟩ := hv
  have hx := B.exec
  have hb := B.bytes
  have hr := B.returns
  have hts := atoms_spec (ws := wsL_told) B.pre
  have hown : s.vm.findClass RL = some m.cls := findClass_of_methodNamed B.named
  have hlocks := B.notSynchronized
  subst hsz
  have hD := hD0.self (sz := s.heap.size)
  generalize hAe : va_A [(h0, .inr (4, [.ref qs, .ref qr, .ref qm, .ref qw, .ref qt, .int (zi we)])), (qs, aI cI 10 sf), (qo, aL cL 1 of)] s.heap.size = A at hD ⊢
  have hA : ∀ q : Nat, s.heap.size ≤ q → A q := fun q h => by rw [← hAe]; exact Or.inr h
  have hS : va_S A s.heap s.heap [] := va_S.rf
  have hP : va_P (dC, dI) vwCl [(h0, .inr (4, [.ref qs, .ref qr, .ref qm, .ref qw, .ref qt, .int (zi we)])), (qs, aI cI 10 sf), (qo, aL cL 1 of)] s.heap := hP
  have hl := lv_entry ([.ref h0, .int (zi sl), .int (zi wh), .ref qo]) (n := 5) (Nat.le_of_ble_eq_true rfl)
  rw [lg_entry_eq]
  generalize (lg_sl ([.ref h0, .int (zi sl), .int (zi wh), .ref qo]) ++ List.replicate (5 - (lg_sl ([.ref h0, .int (zi sl), .int (zi wh), .ref qo])).length) Slot.unset).toArray = ls at hl ⊢
  have hl : lv_has ls 5 [(0, .ref h0), (1, .int (zi sl)), (2, .int (zi wh)), (3, .ref qo)] := hl
  refine lv_aload_n hx hb dL_told_0 rfl (lv_at hl 3 rfl) ?_
  refine zw_iconst hx hb dL_told_1 ?_
  refine lv_aload_n hx hb dL_told_2 rfl (lv_at hl 0 rfl) ?_
  refine lv_iload_n hx hb dL_told_3 rfl (lv_at hl 1 rfl) ?_
  refine lv_iload_n hx hb dL_told_4 rfl (lv_at hl 2 rfl) ?_
  have hh1 := c_X4_told l dC dI cI h0 qs qr qm qw qt we sf sl wh (by omega) (by omega) (by omega)
  have hPc := hP.sub (ws' := [(h0, .inr (4, [.ref qs, .ref qr, .ref qm, .ref qw, .ref qt, .int (zi we)])), (qs, aI cI 10 sf)]) [0, 1] rfl
  have hKc : va_K (dC, dI) vwCl [(cI, .int)] s := hK.sub (tys' := [(cI, .int)]) [0] rfl
  refine vp_callSi (va_Run.run (va_runV (As := [.int (zi sl), .int (zi wh)]) (rest := [.int (zi 0), .ref qo]) ⟨hx, hb, hml, hown, hts⟩ hh1 (cwV 2 hts gL_told_X4_told rfl rfl rfl (by decide +kernel) ⟨Nat.le_of_ble_eq_true rfl, Nat.le_of_ble_eq_true rfl⟩) ⟨zPr.blind _ _ _ _, va_recv hKc hPc (ci := 4) (q0 := 0) rfl rfl, fun U hU hW => ⟨rfl, by rw [hU]; exact hPc, va_K.moved hW.alike hKc⟩⟩ rfl rfl hl.1 rfl (lv_room (Nat.le_of_ble_eq_true rfl)) dL_told_5 ⟨Nat.le_of_ble_eq_true rfl, Nat.le_of_ble_eq_true rfl⟩)) (fun r1 (hr1 : r1 = zi (f_X4_told (sf sl.toNat) wh)) => ?_)
  subst hr1
  refine zw_i2l hx hb dL_told_8 ⟨by omega, by omega⟩ ?_
  refine zw_last hx hb hK hP hD hS 2 1 rfl rfl (by omega) (by omega) ⟨by omega, by omega⟩ dL_told_9 (fun H locs hP hD hS => ?_)
  have hP : va_P (dC, dI) vwCl [(h0, .inr (4, [.ref qs, .ref qr, .ref qm, .ref qw, .ref qt, .int (zi we)])), (qs, aI cI 10 sf), (qo, aL cL 1 (zup of (Int.toNat 0) (f_X4_told (sf sl.toNat) wh)))] H := hP
  have hD : va_D A [(h0, .inr (4, [.ref qs, .ref qr, .ref qm, .ref qw, .ref qt, .int (zi we)])), (qs, aI cI 10 sf), (qo, aL cL 1 (zup of (Int.toNat 0) (f_X4_told (sf sl.toNat) wh)))] := hD
  refine lv_goto (tgt := 25) hx hb dL_told_10 (by decide) ?_
  refine zw_iconst hx hb dL_told_25 ?_
  have hP9 := hP.sub (ws' := [(h0, .inr (4, [.ref qs, .ref qr, .ref qm, .ref qw, .ref qt, .int (zi we)])), (qs, aI cI 10 sf), (qo, aL cL 1 (zup of (Int.toNat 0) (f_X4_told (sf sl.toNat) wh)))]) [0, 1, 2] rfl
  have hD9 := hD.sub (ws' := [(h0, .inr (4, [.ref qs, .ref qr, .ref qm, .ref qw, .ref qt, .int (zi we)])), (qs, aI cI 10 sf), (qo, aL cL 1 (zup of (Int.toNat 0) (f_X4_told (sf sl.toNat) wh)))]) [0, 1, 2] (by decide) rfl
  exact W.iret (v := zi 0) hx hb hr (fun t ht hW => ⟨⟨zi 0, (), rfl, rfl, by rw [ht]; exact hP9, va_K.moved hW.alike hK, hD9⟩, hS.F ht⟩) hS.2.2 dL_told_26

set_option maxHeartbeats 4000000 in
set_option maxRecDepth 100000 in
theorem c_L_between_1 (l : Launch) (hst : l.stackTraces = false) (dC : Nat → ClassId) (dI : Nat → Nat → Nat) (cI : ClassId) (cL : ClassId) (h0 : Nat) (qs : Nat) (qr : Nat) (qm : Nat) (qw : Nat) (qt : Nat) (we : Int) (sf : Nat → Int) (qo : Nat) (of : Nat → Int) (sl : Int) (ot : Int) (un : Int) (sz : Nat) (hp0 : -2147483648 ≤ sl ∧ sl ≤ 2147483647) (hp1 : sl < 0 ∨ 9 < sl) : Met l yL_between wsL_between ({ frames := 8, cells := 1, slots := 6, locals := 135 }) (zPx (dC, dI) [(cI, .int), (cL, .long)] sz [.ref h0, .int (zi sl), .int (zi ot), .int (zi un), .ref qo] [(h0, .inr (4, [.ref qs, .ref qr, .ref qm, .ref qw, .ref qt, .int (zi we)])), (qs, aI cI 10 sf), (qo, aL cL 1 of)]) (va_Qi (fun (r : Int32) (_ : Unit) => r = zi 1) (zB (dC, dI) [(cI, .int), (cL, .long)] (va_A [(h0, .inr (4, [.ref qs, .ref qr, .ref qm, .ref qw, .ref qt, .int (zi we)])), (qs, aI cI 10 sf), (qo, aL cL 1 of)] sz) [(h0, .inr (4, [.ref qs, .ref qr, .ref qm, .ref qw, .ref qt, .int (zi we)])), (qs, aI cI 10 sf), (qo, aL cL 1 of)]) (va_A [(h0, .inr (4, [.ref qs, .ref qr, .ref qm, .ref qw, .ref qt, .int (zi we)])), (qs, aI cI 10 sf), (qo, aL cL 1 of)] sz)) 1 6 (va_A [(h0, .inr (4, [.ref qs, .ref qr, .ref qm, .ref qw, .ref qt, .int (zi we)])), (qs, aI cI 10 sf), (qo, aL cL 1 of)] sz) := by
  refine va_MetW (hh := [(0, 12, 15, 13), (0, 12, 19, 15), (0, 12, 23, 35)]) (cc := cL_between) (maxL := 6) (ret := (some .int)) (by decide) rfl ?_
  intro p e s m args below meth c s₁ B hml hv
  obtain ⟨rfl, hsz, hE, hP, hK, hD0⟩ := hv
  have hx := B.exec
  have hb := B.bytes
  have hr := B.returns
  have hts := atoms_spec (ws := wsL_between) B.pre
  have hown : s.vm.findClass RL = some m.cls := findClass_of_methodNamed B.named
  have hlocks := B.notSynchronized
  have hex : c.exceptionTable.toList = [⟨0, 12, 15, 13⟩, ⟨0, 12, 19, 15⟩, ⟨0, 12, 23, 35⟩] := vx_table (x := yL_between) B (hts _ List.mem_cons_self)
  subst hsz
  have hD := hD0.self (sz := s.heap.size)
  generalize hAe : va_A [(h0, .inr (4, [.ref qs, .ref qr, .ref qm, .ref qw, .ref qt, .int (zi we)])), (qs, aI cI 10 sf), (qo, aL cL 1 of)] s.heap.size = A at hD ⊢
  have hA : ∀ q : Nat, s.heap.size ≤ q → A q := fun q h => by rw [← hAe]; exact Or.inr h
  have hS : va_S A s.heap s.heap [] := va_S.rf
  have hP : va_P (dC, dI) vwCl [(h0, .inr (4, [.ref qs, .ref qr, .ref qm, .ref qw, .ref qt, .int (zi we)])), (qs, aI cI 10 sf), (qo, aL cL 1 of)] s.heap := hP
  have hl := lv_entry ([.ref h0, .int (zi sl), .int (zi ot), .int (zi un), .ref qo]) (n := 6) (Nat.le_of_ble_eq_true rfl)
  rw [lg_entry_eq]
  generalize (lg_sl ([.ref h0, .int (zi sl), .int (zi ot), .int (zi un), .ref qo]) ++ List.replicate (6 - (lg_sl ([.ref h0, .int (zi sl), .int (zi ot), .int (zi un), .ref qo])).length) Slot.unset).toArray = ls at hl ⊢
  have hl : lv_has ls 6 [(0, .ref h0), (1, .int (zi sl)), (2, .int (zi ot)), (3, .int (zi un)), (4, .ref qo)] := hl
  refine lv_aload hx hb dL_between_0 (lv_at hl 4 rfl) ?_
  refine zw_iconst hx hb dL_between_2 ?_
  refine lv_aload_n hx hb dL_between_3 rfl (lv_at hl 0 rfl) ?_
  refine lv_iload_n hx hb dL_between_4 rfl (lv_at hl 1 rfl) ?_
  refine lv_iload_n hx hb dL_between_5 rfl (lv_at hl 2 rfl) ?_
  refine lv_iload_n hx hb dL_between_6 rfl (lv_at hl 3 rfl) ?_
  have hh1 := t_X4_between_1 l hst h0 sl ot un (by omega) (by omega)
  refine zt_catch (own := RL) (name := "java/lang/IndexOutOfBoundsException") (vx_runV (As := [.int (zi sl), .int (zi ot), .int (zi un)]) (rest := [.int (zi 0), .ref qo]) ⟨hx, hb, hml, hown, hts⟩ hh1 (cwV 3 hts gL_between_X4_between rfl rfl rfl (by decide +kernel) ⟨Nat.le_of_ble_eq_true rfl, Nat.le_of_ble_eq_true rfl⟩) ⟨zP.blind _, va_recv hK hP (ci := 4) (q0 := 0) rfl rfl, fun U hU hW => ⟨rfl, hE.call va_S.rf (fun q h => by rw [hU] at h; exact h) hU hW⟩⟩ rfl rfl hl.1 rfl (lv_room (Nat.le_of_ble_eq_true rfl)) dL_between_7 ⟨Nat.le_of_ble_eq_true rfl, Nat.le_of_ble_eq_true rfl⟩) hown [] ⟨0, 12, 15, 13⟩ [⟨0, 12, 19, 15⟩, ⟨0, 12, 23, 35⟩] hex (List.forall_mem_nil _) (by decide) (by decide) (hts (.classLink RL 13 "java/lang/IndexOutOfBoundsException") (by decide +kernel)) (va_any rfl (hE.2.2.1 (.castable "java/lang/IndexOutOfBoundsException" "java/lang/IndexOutOfBoundsException") (by decide +kernel))) (fun qx H1 hz1 hk1 => ?_)
  have hP : va_P (dC, dI) vwCl [(h0, .inr (4, [.ref qs, .ref qr, .ref qm, .ref qw, .ref qt, .int (zi we)])), (qs, aI cI 10 sf), (qo, aL cL 1 of)] H1 := zk_world hP hk1
  have hS : va_S A s.heap H1 [] := zk_S hz1 hk1
  refine lv_astore (lv' := [(5, .ref qx), (0, .ref h0), (1, .int (zi sl)), (2, .int (zi ot)), (3, .int (zi un)), (4, .ref qo)]) hx hb dL_between_15 hl (by decide) rfl (fun ls hl => ?_)
  refine zw_iconst hx hb dL_between_17 ?_
  have hP9 := hP.sub (ws' := [(h0, .inr (4, [.ref qs, .ref qr, .ref qm, .ref qw, .ref qt, .int (zi we)])), (qs, aI cI 10 sf), (qo, aL cL 1 of)]) [0, 1, 2] rfl
  have hD9 := hD.sub (ws' := [(h0, .inr (4, [.ref qs, .ref qr, .ref qm, .ref qw, .ref qt, .int (zi we)])), (qs, aI cI 10 sf), (qo, aL cL 1 of)]) [0, 1, 2] (by decide) rfl
  exact W.iret (v := zi 1) hx hb hr (fun t ht hW => ⟨⟨zi 1, (), rfl, rfl, by rw [ht]; exact hP9, va_K.moved hW.alike hK, hD9⟩, hS.F ht⟩) hS.2.2 dL_between_18

set_option maxHeartbeats 4000000 in
set_option maxRecDepth 100000 in
theorem c_L_between_1b (l : Launch) (hst : l.stackTraces = false) (dC : Nat → ClassId) (dI : Nat → Nat → Nat) (cI : ClassId) (cL : ClassId) (h0 : Nat) (qs : Nat) (qr : Nat) (qm : Nat) (qw : Nat) (qt : Nat) (we : Int) (sf : Nat → Int) (qo : Nat) (of : Nat → Int) (sl : Int) (ot : Int) (un : Int) (sz : Nat) (hp0 : 0 ≤ sl ∧ sl ≤ 9) (hp1 : -2147483648 ≤ ot ∧ ot ≤ 2147483647) (hp2 : ot < 0 ∨ 9 < ot) : Met l yL_between wsL_between ({ frames := 8, cells := 1, slots := 6, locals := 135 }) (zPx (dC, dI) [(cI, .int), (cL, .long)] sz [.ref h0, .int (zi sl), .int (zi ot), .int (zi un), .ref qo] [(h0, .inr (4, [.ref qs, .ref qr, .ref qm, .ref qw, .ref qt, .int (zi we)])), (qs, aI cI 10 sf), (qo, aL cL 1 of)]) (va_Qi (fun (r : Int32) (_ : Unit) => r = zi 1) (zB (dC, dI) [(cI, .int), (cL, .long)] (va_A [(h0, .inr (4, [.ref qs, .ref qr, .ref qm, .ref qw, .ref qt, .int (zi we)])), (qs, aI cI 10 sf), (qo, aL cL 1 of)] sz) [(h0, .inr (4, [.ref qs, .ref qr, .ref qm, .ref qw, .ref qt, .int (zi we)])), (qs, aI cI 10 sf), (qo, aL cL 1 of)]) (va_A [(h0, .inr (4, [.ref qs, .ref qr, .ref qm, .ref qw, .ref qt, .int (zi we)])), (qs, aI cI 10 sf), (qo, aL cL 1 of)] sz)) 1 6 (va_A [(h0, .inr (4, [.ref qs, .ref qr, .ref qm, .ref qw, .ref qt, .int (zi we)])), (qs, aI cI 10 sf), (qo, aL cL 1 of)] sz) := by
  refine va_MetW (hh := [(0, 12, 15, 13), (0, 12, 19, 15), (0, 12, 23, 35)]) (cc := cL_between) (maxL := 6) (ret := (some .int)) (by decide) rfl ?_
  intro p e s m args below meth c s₁ B hml hv
  obtain ⟨rfl, hsz, hE, hP, hK, hD0⟩ := hv
  have hx := B.exec
  have hb := B.bytes
  have hr := B.returns
  have hts := atoms_spec (ws := wsL_between) B.pre
  have hown : s.vm.findClass RL = some m.cls := findClass_of_methodNamed B.named
  have hlocks := B.notSynchronized
  have hex : c.exceptionTable.toList = [⟨0, 12, 15, 13⟩, ⟨0, 12, 19, 15⟩, ⟨0, 12, 23, 35⟩] := vx_table (x := yL_between) B (hts _ List.mem_cons_self)
  subst hsz
  have hD := hD0.self (sz := s.heap.size)
  generalize hAe : va_A [(h0, .inr (4, [.ref qs, .ref qr, .ref qm, .ref qw, .ref qt, .int (zi we)])), (qs, aI cI 10 sf), (qo, aL cL 1 of)] s.heap.size = A at hD ⊢
  have hA : ∀ q : Nat, s.heap.size ≤ q → A q := fun q h => by rw [← hAe]; exact Or.inr h
  have hS : va_S A s.heap s.heap [] := va_S.rf
  have hP : va_P (dC, dI) vwCl [(h0, .inr (4, [.ref qs, .ref qr, .ref qm, .ref qw, .ref qt, .int (zi we)])), (qs, aI cI 10 sf), (qo, aL cL 1 of)] s.heap := hP
  have hl := lv_entry ([.ref h0, .int (zi sl), .int (zi ot), .int (zi un), .ref qo]) (n := 6) (Nat.le_of_ble_eq_true rfl)
  rw [lg_entry_eq]
  generalize (lg_sl ([.ref h0, .int (zi sl), .int (zi ot), .int (zi un), .ref qo]) ++ List.replicate (6 - (lg_sl ([.ref h0, .int (zi sl), .int (zi ot), .int (zi un), .ref qo])).length) Slot.unset).toArray = ls at hl ⊢
  have hl : lv_has ls 6 [(0, .ref h0), (1, .int (zi sl)), (2, .int (zi ot)), (3, .int (zi un)), (4, .ref qo)] := hl
  refine lv_aload hx hb dL_between_0 (lv_at hl 4 rfl) ?_
  refine zw_iconst hx hb dL_between_2 ?_
  refine lv_aload_n hx hb dL_between_3 rfl (lv_at hl 0 rfl) ?_
  refine lv_iload_n hx hb dL_between_4 rfl (lv_at hl 1 rfl) ?_
  refine lv_iload_n hx hb dL_between_5 rfl (lv_at hl 2 rfl) ?_
  refine lv_iload_n hx hb dL_between_6 rfl (lv_at hl 3 rfl) ?_
  have hh1 := t_X4_between_1b l hst h0 sl ot un (by omega) (by omega) (by omega)
  refine zt_catch (own := RL) (name := "java/lang/IndexOutOfBoundsException") (vx_runV (As := [.int (zi sl), .int (zi ot), .int (zi un)]) (rest := [.int (zi 0), .ref qo]) ⟨hx, hb, hml, hown, hts⟩ hh1 (cwV 3 hts gL_between_X4_between rfl rfl rfl (by decide +kernel) ⟨Nat.le_of_ble_eq_true rfl, Nat.le_of_ble_eq_true rfl⟩) ⟨zP.blind _, va_recv hK hP (ci := 4) (q0 := 0) rfl rfl, fun U hU hW => ⟨rfl, hE.call va_S.rf (fun q h => by rw [hU] at h; exact h) hU hW⟩⟩ rfl rfl hl.1 rfl (lv_room (Nat.le_of_ble_eq_true rfl)) dL_between_7 ⟨Nat.le_of_ble_eq_true rfl, Nat.le_of_ble_eq_true rfl⟩) hown [] ⟨0, 12, 15, 13⟩ [⟨0, 12, 19, 15⟩, ⟨0, 12, 23, 35⟩] hex (List.forall_mem_nil _) (by decide) (by decide) (hts (.classLink RL 13 "java/lang/IndexOutOfBoundsException") (by decide +kernel)) (va_any rfl (hE.2.2.1 (.castable "java/lang/IndexOutOfBoundsException" "java/lang/IndexOutOfBoundsException") (by decide +kernel))) (fun qx H1 hz1 hk1 => ?_)
  have hP : va_P (dC, dI) vwCl [(h0, .inr (4, [.ref qs, .ref qr, .ref qm, .ref qw, .ref qt, .int (zi we)])), (qs, aI cI 10 sf), (qo, aL cL 1 of)] H1 := zk_world hP hk1
  have hS : va_S A s.heap H1 [] := zk_S hz1 hk1
  refine lv_astore (lv' := [(5, .ref qx), (0, .ref h0), (1, .int (zi sl)), (2, .int (zi ot)), (3, .int (zi un)), (4, .ref qo)]) hx hb dL_between_15 hl (by decide) rfl (fun ls hl => ?_)
  refine zw_iconst hx hb dL_between_17 ?_
  have hP9 := hP.sub (ws' := [(h0, .inr (4, [.ref qs, .ref qr, .ref qm, .ref qw, .ref qt, .int (zi we)])), (qs, aI cI 10 sf), (qo, aL cL 1 of)]) [0, 1, 2] rfl
  have hD9 := hD.sub (ws' := [(h0, .inr (4, [.ref qs, .ref qr, .ref qm, .ref qw, .ref qt, .int (zi we)])), (qs, aI cI 10 sf), (qo, aL cL 1 of)]) [0, 1, 2] (by decide) rfl
  exact W.iret (v := zi 1) hx hb hr (fun t ht hW => ⟨⟨zi 1, (), rfl, rfl, by rw [ht]; exact hP9, va_K.moved hW.alike hK, hD9⟩, hS.F ht⟩) hS.2.2 dL_between_18

set_option maxHeartbeats 4000000 in
set_option maxRecDepth 100000 in
theorem c_L_between_2 (l : Launch) (hst : l.stackTraces = false) (dC : Nat → ClassId) (dI : Nat → Nat → Nat) (cI : ClassId) (cL : ClassId) (h0 : Nat) (qs : Nat) (qr : Nat) (qm : Nat) (qw : Nat) (qt : Nat) (we : Int) (sf : Nat → Int) (qo : Nat) (of : Nat → Int) (sl : Int) (ot : Int) (un : Int) (sz : Nat) (hp0 : 0 ≤ sl ∧ sl ≤ 9) (hp1 : 0 ≤ ot ∧ ot ≤ 9) (hp2 : -2147483648 ≤ un ∧ un ≤ 2147483647) (hp3 : un < 0 ∨ 2 < un) : Met l yL_between wsL_between ({ frames := 8, cells := 1, slots := 6, locals := 135 }) (zPx (dC, dI) [(cI, .int), (cL, .long)] sz [.ref h0, .int (zi sl), .int (zi ot), .int (zi un), .ref qo] [(h0, .inr (4, [.ref qs, .ref qr, .ref qm, .ref qw, .ref qt, .int (zi we)])), (qs, aI cI 10 sf), (qo, aL cL 1 of)]) (va_Qi (fun (r : Int32) (_ : Unit) => r = zi 2) (zB (dC, dI) [(cI, .int), (cL, .long)] (va_A [(h0, .inr (4, [.ref qs, .ref qr, .ref qm, .ref qw, .ref qt, .int (zi we)])), (qs, aI cI 10 sf), (qo, aL cL 1 of)] sz) [(h0, .inr (4, [.ref qs, .ref qr, .ref qm, .ref qw, .ref qt, .int (zi we)])), (qs, aI cI 10 sf), (qo, aL cL 1 of)]) (va_A [(h0, .inr (4, [.ref qs, .ref qr, .ref qm, .ref qw, .ref qt, .int (zi we)])), (qs, aI cI 10 sf), (qo, aL cL 1 of)] sz)) 1 6 (va_A [(h0, .inr (4, [.ref qs, .ref qr, .ref qm, .ref qw, .ref qt, .int (zi we)])), (qs, aI cI 10 sf), (qo, aL cL 1 of)] sz) := by
  refine va_MetW (hh := [(0, 12, 15, 13), (0, 12, 19, 15), (0, 12, 23, 35)]) (cc := cL_between) (maxL := 6) (ret := (some .int)) (by decide) rfl ?_
  intro p e s m args below meth c s₁ B hml hv
  obtain ⟨rfl, hsz, hE, hP, hK, hD0⟩ := hv
  have hx := B.exec
  have hb := B.bytes
  have hr := B.returns
  have hts := atoms_spec (ws := wsL_between) B.pre
  have hown : s.vm.findClass RL = some m.cls := findClass_of_methodNamed B.named
  have hlocks := B.notSynchronized
  have hex : c.exceptionTable.toList = [⟨0, 12, 15, 13⟩, ⟨0, 12, 19, 15⟩, ⟨0, 12, 23, 35⟩] := vx_table (x := yL_between) B (hts _ List.mem_cons_self)
  subst hsz
  have hD := hD0.self (sz := s.heap.size)
  generalize hAe : va_A [(h0, .inr (4, [.ref qs, .ref qr, .ref qm, .ref qw, .ref qt, .int (zi we)])), (qs, aI cI 10 sf), (qo, aL cL 1 of)] s.heap.size = A at hD ⊢
  have hA : ∀ q : Nat, s.heap.size ≤ q → A q := fun q h => by rw [← hAe]; exact Or.inr h
  have hS : va_S A s.heap s.heap [] := va_S.rf
  have hP : va_P (dC, dI) vwCl [(h0, .inr (4, [.ref qs, .ref qr, .ref qm, .ref qw, .ref qt, .int (zi we)])), (qs, aI cI 10 sf), (qo, aL cL 1 of)] s.heap := hP
  have hl := lv_entry ([.ref h0, .int (zi sl), .int (zi ot), .int (zi un), .ref qo]) (n := 6) (Nat.le_of_ble_eq_true rfl)
  rw [lg_entry_eq]
  generalize (lg_sl ([.ref h0, .int (zi sl), .int (zi ot), .int (zi un), .ref qo]) ++ List.replicate (6 - (lg_sl ([.ref h0, .int (zi sl), .int (zi ot), .int (zi un), .ref qo])).length) Slot.unset).toArray = ls at hl ⊢
  have hl : lv_has ls 6 [(0, .ref h0), (1, .int (zi sl)), (2, .int (zi ot)), (3, .int (zi un)), (4, .ref qo)] := hl
  refine lv_aload hx hb dL_between_0 (lv_at hl 4 rfl) ?_
  refine zw_iconst hx hb dL_between_2 ?_
  refine lv_aload_n hx hb dL_between_3 rfl (lv_at hl 0 rfl) ?_
  refine lv_iload_n hx hb dL_between_4 rfl (lv_at hl 1 rfl) ?_
  refine lv_iload_n hx hb dL_between_5 rfl (lv_at hl 2 rfl) ?_
  refine lv_iload_n hx hb dL_between_6 rfl (lv_at hl 3 rfl) ?_
  have hh1 := t_X4_between_2 l hst h0 sl ot un (by omega) (by omega) (by omega) (by omega)
  refine zt_catch (own := RL) (name := "java/lang/IllegalArgumentException") (vx_runV (As := [.int (zi sl), .int (zi ot), .int (zi un)]) (rest := [.int (zi 0), .ref qo]) ⟨hx, hb, hml, hown, hts⟩ hh1 (cwV 3 hts gL_between_X4_between rfl rfl rfl (by decide +kernel) ⟨Nat.le_of_ble_eq_true rfl, Nat.le_of_ble_eq_true rfl⟩) ⟨zP.blind _, va_recv hK hP (ci := 4) (q0 := 0) rfl rfl, fun U hU hW => ⟨rfl, hE.call va_S.rf (fun q h => by rw [hU] at h; exact h) hU hW⟩⟩ rfl rfl hl.1 rfl (lv_room (Nat.le_of_ble_eq_true rfl)) dL_between_7 ⟨Nat.le_of_ble_eq_true rfl, Nat.le_of_ble_eq_true rfl⟩) hown [⟨0, 12, 15, 13⟩] ⟨0, 12, 19, 15⟩ [⟨0, 12, 23, 35⟩] hex (List.forall_mem_cons.mpr ⟨⟨by decide, by decide, "java/lang/IndexOutOfBoundsException", (hts (.classLink RL 13 "java/lang/IndexOutOfBoundsException") (by decide +kernel)), hE.2.2.2.2 ("java/lang/IllegalArgumentException", "java/lang/IndexOutOfBoundsException") (by decide)⟩, List.forall_mem_nil _⟩) (by decide) (by decide) (hts (.classLink RL 15 "java/lang/IllegalArgumentException") (by decide +kernel)) (va_any rfl (hE.2.2.1 (.castable "java/lang/IllegalArgumentException" "java/lang/IllegalArgumentException") (by decide +kernel))) (fun qx H1 hz1 hk1 => ?_)
  have hP : va_P (dC, dI) vwCl [(h0, .inr (4, [.ref qs, .ref qr, .ref qm, .ref qw, .ref qt, .int (zi we)])), (qs, aI cI 10 sf), (qo, aL cL 1 of)] H1 := zk_world hP hk1
  have hS : va_S A s.heap H1 [] := zk_S hz1 hk1
  refine lv_astore (lv' := [(5, .ref qx), (0, .ref h0), (1, .int (zi sl)), (2, .int (zi ot)), (3, .int (zi un)), (4, .ref qo)]) hx hb dL_between_19 hl (by decide) rfl (fun ls hl => ?_)
  refine zw_iconst hx hb dL_between_21 ?_
  have hP9 := hP.sub (ws' := [(h0, .inr (4, [.ref qs, .ref qr, .ref qm, .ref qw, .ref qt, .int (zi we)])), (qs, aI cI 10 sf), (qo, aL cL 1 of)]) [0, 1, 2] rfl
  have hD9 := hD.sub (ws' := [(h0, .inr (4, [.ref qs, .ref qr, .ref qm, .ref qw, .ref qt, .int (zi we)])), (qs, aI cI 10 sf), (qo, aL cL 1 of)]) [0, 1, 2] (by decide) rfl
  exact W.iret (v := zi 2) hx hb hr (fun t ht hW => ⟨⟨zi 2, (), rfl, rfl, by rw [ht]; exact hP9, va_K.moved hW.alike hK, hD9⟩, hS.F ht⟩) hS.2.2 dL_between_22

set_option maxHeartbeats 4000000 in
set_option maxRecDepth 100000 in
theorem c_L_between_3 (l : Launch) (hst : l.stackTraces = false) (dC : Nat → ClassId) (dI : Nat → Nat → Nat) (cI : ClassId) (cL : ClassId) (h0 : Nat) (qs : Nat) (qr : Nat) (qm : Nat) (qw : Nat) (qt : Nat) (we : Int) (sf : Nat → Int) (qo : Nat) (of : Nat → Int) (sl : Int) (ot : Int) (un : Int) (sz : Nat) (hp0 : 0 ≤ sl ∧ sl ≤ 9) (hp1 : 0 ≤ ot ∧ ot ≤ 9) (hp2 : 0 ≤ un ∧ un ≤ 2) (hp3 : sf sl.toNat = -1) : Met l yL_between wsL_between ({ frames := 8, cells := 1, slots := 6, locals := 137 }) (zPx (dC, dI) [(cI, .int), (cL, .long)] sz [.ref h0, .int (zi sl), .int (zi ot), .int (zi un), .ref qo] [(h0, .inr (4, [.ref qs, .ref qr, .ref qm, .ref qw, .ref qt, .int (zi we)])), (qs, aI cI 10 sf), (qo, aL cL 1 of)]) (va_Qi (fun (r : Int32) (_ : Unit) => r = zi 3) (zB (dC, dI) [(cI, .int), (cL, .long)] (va_A [(h0, .inr (4, [.ref qs, .ref qr, .ref qm, .ref qw, .ref qt, .int (zi we)])), (qs, aI cI 10 sf), (qo, aL cL 1 of)] sz) [(h0, .inr (4, [.ref qs, .ref qr, .ref qm, .ref qw, .ref qt, .int (zi we)])), (qs, aI cI 10 sf), (qo, aL cL 1 of)]) (va_A [(h0, .inr (4, [.ref qs, .ref qr, .ref qm, .ref qw, .ref qt, .int (zi we)])), (qs, aI cI 10 sf), (qo, aL cL 1 of)] sz)) 1 6 (va_A [(h0, .inr (4, [.ref qs, .ref qr, .ref qm, .ref qw, .ref qt, .int (zi we)])), (qs, aI cI 10 sf), (qo, aL cL 1 of)] sz) := by
  refine va_MetW (hh := [(0, 12, 15, 13), (0, 12, 19, 15), (0, 12, 23, 35)]) (cc := cL_between) (maxL := 6) (ret := (some .int)) (by decide) rfl ?_
  intro p e s m args below meth c s₁ B hml hv
  obtain ⟨rfl, hsz, hE, hP, hK, hD0⟩ := hv
  have hx := B.exec
  have hb := B.bytes
  have hr := B.returns
  have hts := atoms_spec (ws := wsL_between) B.pre
  have hown : s.vm.findClass RL = some m.cls := findClass_of_methodNamed B.named
  have hlocks := B.notSynchronized
  have hex : c.exceptionTable.toList = [⟨0, 12, 15, 13⟩, ⟨0, 12, 19, 15⟩, ⟨0, 12, 23, 35⟩] := vx_table (x := yL_between) B (hts _ List.mem_cons_self)
  subst hsz
  have hD := hD0.self (sz := s.heap.size)
  generalize hAe : va_A [(h0, .inr (4, [.ref qs, .ref qr, .ref qm, .ref qw, .ref qt, .int (zi we)])), (qs, aI cI 10 sf), (qo, aL cL 1 of)] s.heap.size = A at hD ⊢
  have hA : ∀ q : Nat, s.heap.size ≤ q → A q := fun q h => by rw [← hAe]; exact Or.inr h
  have hS : va_S A s.heap s.heap [] := va_S.rf
  have hP : va_P (dC, dI) vwCl [(h0, .inr (4, [.ref qs, .ref qr, .ref qm, .ref qw, .ref qt, .int (zi we)])), (qs, aI cI 10 sf), (qo, aL cL 1 of)] s.heap := hP
  have hl := lv_entry ([.ref h0, .int (zi sl), .int (zi ot), .int (zi un), .ref qo]) (n := 6) (Nat.le_of_ble_eq_true rfl)
  rw [lg_entry_eq]
  generalize (lg_sl ([.ref h0, .int (zi sl), .int (zi ot), .int (zi un), .ref qo]) ++ List.replicate (6 - (lg_sl ([.ref h0, .int (zi sl), .int (zi ot), .int (zi un), .ref qo])).length) Slot.unset).toArray = ls at hl ⊢
  have hl : lv_has ls 6 [(0, .ref h0), (1, .int (zi sl)), (2, .int (zi ot)), (3, .int (zi un)), (4, .ref qo)] := hl
  refine lv_aload hx hb dL_between_0 (lv_at hl 4 rfl) ?_
  refine zw_iconst hx hb dL_between_2 ?_
  refine lv_aload_n hx hb dL_between_3 rfl (lv_at hl 0 rfl) ?_
  refine lv_iload_n hx hb dL_between_4 rfl (lv_at hl 1 rfl) ?_
  refine lv_iload_n hx hb dL_between_5 rfl (lv_at hl 2 rfl) ?_
  refine lv_iload_n hx hb dL_between_6 rfl (lv_at hl 3 rfl) ?_
  have hh1 := t_X4_between_3 l hst dC dI cI h0 qs qr qm qw qt we sf sl ot un (by omega) (by omega) (by omega) (by omega)
  have hPc := hP.sub (ws' := [(h0, .inr (4, [.ref qs, .ref qr, .ref qm, .ref qw, .ref qt, .int (zi we)])), (qs, aI cI 10 sf)]) [0, 1] rfl
  have hKc : va_K (dC, dI) vwCl [(cI, .int)] s := hK.sub (tys' := [(cI, .int)]) [0] rfl
  refine zt_catch (own := RL) (name := "java/lang/IllegalStateException") (vx_runV (As := [.int (zi sl), .int (zi ot), .int (zi un)]) (rest := [.int (zi 0), .ref qo]) ⟨hx, hb, hml, hown, hts⟩ hh1 (cwV 3 hts gL_between_X4_between rfl rfl rfl (by decide +kernel) ⟨Nat.le_of_ble_eq_true rfl, Nat.le_of_ble_eq_true rfl⟩) ⟨zPt.blind _ _ _ _, va_recv hKc hPc (ci := 4) (q0 := 0) rfl rfl, fun U hU hW => ⟨rfl, hE.call va_S.rf (fun q h => by rw [hU] at h; exact h) hU hW, by rw [hU]; exact hPc, va_K.moved hW.alike hKc⟩⟩ rfl rfl hl.1 rfl (lv_room (Nat.le_of_ble_eq_true rfl)) dL_between_7 ⟨Nat.le_of_ble_eq_true rfl, Nat.le_of_ble_eq_true rfl⟩) hown [⟨0, 12, 15, 13⟩, ⟨0, 12, 19, 15⟩] ⟨0, 12, 23, 35⟩ [] hex (List.forall_mem_cons.mpr ⟨⟨by decide, by decide, "java/lang/IndexOutOfBoundsException", (hts (.classLink RL 13 "java/lang/IndexOutOfBoundsException") (by decide +kernel)), hE.2.2.2.2 ("java/lang/IllegalStateException", "java/lang/IndexOutOfBoundsException") (by decide)⟩, List.forall_mem_cons.mpr ⟨⟨by decide, by decide, "java/lang/IllegalArgumentException", (hts (.classLink RL 15 "java/lang/IllegalArgumentException") (by decide +kernel)), hE.2.2.2.2 ("java/lang/IllegalStateException", "java/lang/IllegalArgumentException") (by decide)⟩, List.forall_mem_nil _⟩⟩) (by decide) (by decide) (hts (.classLink RL 35 "java/lang/IllegalStateException") (by decide +kernel)) (va_any rfl (hE.2.2.1 (.castable "java/lang/IllegalStateException" "java/lang/IllegalStateException") (by decide +kernel))) (fun qx H1 hz1 hk1 => ?_)
  have hP : va_P (dC, dI) vwCl [(h0, .inr (4, [.ref qs, .ref qr, .ref qm, .ref qw, .ref qt, .int (zi we)])), (qs, aI cI 10 sf), (qo, aL cL 1 of)] H1 := zk_world hP hk1
  have hS : va_S A s.heap H1 [] := zk_S hz1 hk1
  refine lv_astore (lv' := [(5, .ref qx), (0, .ref h0), (1, .int (zi sl)), (2, .int (zi ot)), (3, .int (zi un)), (4, .ref qo)]) hx hb dL_between_23 hl (by decide) rfl (fun ls hl => ?_)
  refine zw_iconst hx hb dL_between_25 ?_
  have hP9 := hP.sub (ws' := [(h0, .inr (4, [.ref qs, .ref qr, .ref qm, .ref qw, .ref qt, .int (zi we)])), (qs, aI cI 10 sf), (qo, aL cL 1 of)]) [0, 1, 2] rfl
  have hD9 := hD.sub (ws' := [(h0, .inr (4, [.ref qs, .ref qr, .ref qm, .ref qw, .ref qt, .int (zi we)])), (qs, aI cI 10 sf), (qo, aL cL 1 of)]) [0, 1, 2] (by decide) rfl
  exact W.iret (v := zi 3) hx hb hr (fun t ht hW => ⟨⟨zi 3, (), rfl, rfl, by rw [ht]; exact hP9, va_K.moved hW.alike hK, hD9⟩, hS.F ht⟩) hS.2.2 dL_between_26

set_option maxHeartbeats 4000000 in
set_option maxRecDepth 100000 in
theorem c_L_between_3b (l : Launch) (hst : l.stackTraces = false) (dC : Nat → ClassId) (dI : Nat → Nat → Nat) (cI : ClassId) (cL : ClassId) (h0 : Nat) (qs : Nat) (qr : Nat) (qm : Nat) (qw : Nat) (qt : Nat) (we : Int) (sf : Nat → Int) (qo : Nat) (of : Nat → Int) (sl : Int) (ot : Int) (un : Int) (sz : Nat) (hp0 : 0 ≤ sl ∧ sl ≤ 9) (hp1 : 0 ≤ ot ∧ ot ≤ 9) (hp2 : 0 ≤ un ∧ un ≤ 2) (hp3 : 0 ≤ sf sl.toNat ∧ sf sl.toNat ≤ 3652058) (hp4 : sf ot.toNat = -1) : Met l yL_between wsL_between ({ frames := 8, cells := 1, slots := 6, locals := 137 }) (zPx (dC, dI) [(cI, .int), (cL, .long)] sz [.ref h0, .int (zi sl), .int (zi ot), .int (zi un), .ref qo] [(h0, .inr (4, [.ref qs, .ref qr, .ref qm, .ref qw, .ref qt, .int (zi we)])), (qs, aI cI 10 sf), (qo, aL cL 1 of)]) (va_Qi (fun (r : Int32) (_ : Unit) => r = zi 3) (zB (dC, dI) [(cI, .int), (cL, .long)] (va_A [(h0, .inr (4, [.ref qs, .ref qr, .ref qm, .ref qw, .ref qt, .int (zi we)])), (qs, aI cI 10 sf), (qo, aL cL 1 of)] sz) [(h0, .inr (4, [.ref qs, .ref qr, .ref qm, .ref qw, .ref qt, .int (zi we)])), (qs, aI cI 10 sf), (qo, aL cL 1 of)]) (va_A [(h0, .inr (4, [.ref qs, .ref qr, .ref qm, .ref qw, .ref qt, .int (zi we)])), (qs, aI cI 10 sf), (qo, aL cL 1 of)] sz)) 1 6 (va_A [(h0, .inr (4, [.ref qs, .ref qr, .ref qm, .ref qw, .ref qt, .int (zi we)])), (qs, aI cI 10 sf), (qo, aL cL 1 of)] sz) := by
  refine va_MetW (hh := [(0, 12, 15, 13), (0, 12, 19, 15), (0, 12, 23, 35)]) (cc := cL_between) (maxL := 6) (ret := (some .int)) (by decide) rfl ?_
  intro p e s m args below meth c s₁ B hml hv
  obtain ⟨rfl, hsz, hE, hP, hK, hD0⟩ := hv
  have hx := B.exec
  have hb := B.bytes
  have hr := B.returns
  have hts := atoms_spec (ws := wsL_between) B.pre
  have hown : s.vm.findClass RL = some m.cls := findClass_of_methodNamed B.named
  have hlocks := B.notSynchronized
  have hex : c.exceptionTable.toList = [⟨0, 12, 15, 13⟩, ⟨0, 12, 19, 15⟩, ⟨0, 12, 23, 35⟩] := vx_table (x := yL_between) B (hts _ List.mem_cons_self)
  subst hsz
  have hD := hD0.self (sz := s.heap.size)
  generalize hAe : va_A [(h0, .inr (4, [.ref qs, .ref qr, .ref qm, .ref qw, .ref qt, .int (zi we)])), (qs, aI cI 10 sf), (qo, aL cL 1 of)] s.heap.size = A at hD ⊢
  have hA : ∀ q : Nat, s.heap.size ≤ q → A q := fun q h => by rw [← hAe]; exact Or.inr h
  have hS : va_S A s.heap s.heap [] := va_S.rf
  have hP : va_P (dC, dI) vwCl [(h0, .inr (4, [.ref qs, .ref qr, .ref qm, .ref qw, .ref qt, .int (zi we)])), (qs, aI cI 10 sf), (qo, aL cL 1 of)] s.heap := hP
  have hl := lv_entry ([.ref h0, .int (zi sl), .int (zi ot), .int (zi un), .ref qo]) (n := 6) (Nat.le_of_ble_eq_true rfl)
  rw [lg_entry_eq]
  generalize (lg_sl ([.ref h0, .int (zi sl), .int (zi ot), .int (zi un), .ref qo]) ++ List.replicate (6 - (lg_sl ([.ref h0, .int (zi sl), .int (zi ot), .int (zi un), .ref qo])).length) Slot.unset).toArray = ls at hl ⊢
  have hl : lv_has ls 6 [(0, .ref h0), (1, .int (zi sl)), (2, .int (zi ot)), (3, .int (zi un)), (4, .ref qo)] := hl
  refine lv_aload hx hb dL_between_0 (lv_at hl 4 rfl) ?_
  refine zw_iconst hx hb dL_between_2 ?_
  refine lv_aload_n hx hb dL_between_3 rfl (lv_at hl 0 rfl) ?_
  refine lv_iload_n hx hb dL_between_4 rfl (lv_at hl 1 rfl) ?_
  refine lv_iload_n hx hb dL_between_5 rfl (lv_at hl 2 rfl) ?_
  refine lv_iload_n hx hb dL_between_6 rfl (lv_at hl 3 rfl) ?_
  have hh1 := t_X4_between_3b l hst dC dI cI h0 qs qr qm qw qt we sf sl ot un (by omega) (by omega) (by omega) (by omega) (by omega)
  have hPc := hP.sub (ws' := [(h0, .inr (4, [.ref qs, .ref qr, .ref qm, .ref qw, .ref qt, .int (zi we)])), (qs, aI cI 10 sf)]) [0, 1] rfl
  have hKc : va_K (dC, dI) vwCl [(cI, .int)] s := hK.sub (tys' := [(cI, .int)]) [0] rfl
  refine zt_catch (own := RL) (name := "java/lang/IllegalStateException") (vx_runV (As := [.int (zi sl), .int (zi ot), .int (zi un)]) (rest := [.int (zi 0), .ref qo]) ⟨hx, hb, hml, hown, hts⟩ hh1 (cwV 3 hts gL_between_X4_between rfl rfl rfl (by decide +kernel) ⟨Nat.le_of_ble_eq_true rfl, Nat.le_of_ble_eq_true rfl⟩) ⟨zPt.blind _ _ _ _, va_recv hKc hPc (ci := 4) (q0 := 0) rfl rfl, fun U hU hW => ⟨rfl, hE.call va_S.rf (fun q h => by rw [hU] at h; exact h) hU hW, by rw [hU]; exact hPc, va_K.moved hW.alike hKc⟩⟩ rfl rfl hl.1 rfl (lv_room (Nat.le_of_ble_eq_true rfl)) dL_between_7 ⟨Nat.le_of_ble_eq_true rfl, Nat.le_of_ble_eq_true rfl⟩) hown [⟨0, 12, 15, 13⟩, ⟨0, 12, 19, 15⟩] ⟨0, 12, 23, 35⟩ [] hex (List.forall_mem_cons.mpr ⟨⟨by decide, by decide, "java/lang/IndexOutOfBoundsException", (hts (.classLink RL 13 "java/lang/IndexOutOfBoundsException") (by decide +kernel)), hE.2.2.2.2 ("java/lang/IllegalStateException", "java/lang/IndexOutOfBoundsException") (by decide)⟩, List.forall_mem_cons.mpr ⟨⟨by decide, by decide, "java/lang/IllegalArgumentException", (hts (.classLink RL 15 "java/lang/IllegalArgumentException") (by decide +kernel)), hE.2.2.2.2 ("java/lang/IllegalStateException", "java/lang/IllegalArgumentException") (by decide)⟩, List.forall_mem_nil _⟩⟩) (by decide) (by decide) (hts (.classLink RL 35 "java/lang/IllegalStateException") (by decide +kernel)) (va_any rfl (hE.2.2.1 (.castable "java/lang/IllegalStateException" "java/lang/IllegalStateException") (by decide +kernel))) (fun qx H1 hz1 hk1 => ?_)
  have hP : va_P (dC, dI) vwCl [(h0, .inr (4, [.ref qs, .ref qr, .ref qm, .ref qw, .ref qt, .int (zi we)])), (qs, aI cI 10 sf), (qo, aL cL 1 of)] H1 := zk_world hP hk1
  have hS : va_S A s.heap H1 [] := zk_S hz1 hk1
  refine lv_astore (lv' := [(5, .ref qx), (0, .ref h0), (1, .int (zi sl)), (2, .int (zi ot)), (3, .int (zi un)), (4, .ref qo)]) hx hb dL_between_23 hl (by decide) rfl (fun ls hl => ?_)
  refine zw_iconst hx hb dL_between_25 ?_
  have hP9 := hP.sub (ws' := [(h0, .inr (4, [.ref qs, .ref qr, .ref qm, .ref qw, .ref qt, .int (zi we)])), (qs, aI cI 10 sf), (qo, aL cL 1 of)]) [0, 1, 2] rfl
  have hD9 := hD.sub (ws' := [(h0, .inr (4, [.ref qs, .ref qr, .ref qm, .ref qw, .ref qt, .int (zi we)])), (qs, aI cI 10 sf), (qo, aL cL 1 of)]) [0, 1, 2] (by decide) rfl
  exact W.iret (v := zi 3) hx hb hr (fun t ht hW => ⟨⟨zi 3, (), rfl, rfl, by rw [ht]; exact hP9, va_K.moved hW.alike hK, hD9⟩, hS.F ht⟩) hS.2.2 dL_between_26

set_option maxHeartbeats 4000000 in
set_option maxRecDepth 100000 in
theorem c_L_between (l : Launch)  (dC : Nat → ClassId) (dI : Nat → Nat → Nat) (cI : ClassId) (cL : ClassId) (h0 : Nat) (qs : Nat) (qr : Nat) (qm : Nat) (qw : Nat) (qt : Nat) (we : Int) (sf : Nat → Int) (qo : Nat) (of : Nat → Int) (sl : Int) (ot : Int) (un : Int) (sz : Nat) (hp0 : 0 ≤ sl ∧ sl ≤ 9) (hp1 : 0 ≤ ot ∧ ot ≤ 9) (hp2 : 0 ≤ un ∧ un ≤ 2) (hp3 : 0 ≤ sf sl.toNat ∧ sf sl.toNat ≤ 3652058) (hp4 : 0 ≤ sf ot.toNat ∧ sf ot.toNat ≤ 3652058) (hp5 : -4000000 ≤ (f_X4_between (sf sl.toNat) (sf ot.toNat) un) ∧ (f_X4_between (sf sl.toNat) (sf ot.toNat) un) ≤ 4000000) : Met l yL_between wsL_between ({ frames := 8, cells := 0, slots := 0, locals := 183 }) (zPw (dC, dI) [(cI, .int), (cL, .long)] sz [.ref h0, .int (zi sl), .int (zi ot), .int (zi un), .ref qo] [(h0, .inr (4, [.ref qs, .ref qr, .ref qm, .ref qw, .ref qt, .int (zi we)])), (qs, aI cI 10 sf), (qo, aL cL 1 of)]) (va_Qi (fun (r : Int32) (_ : Unit) => r = zi 0) (zB (dC, dI) [(cI, .int), (cL, .long)] (va_A [(h0, .inr (4, [.ref qs, .ref qr, .ref qm, .ref qw, .ref qt, .int (zi we)])), (qs, aI cI 10 sf), (qo, aL cL 1 of)] sz) [(h0, .inr (4, [.ref qs, .ref qr, .ref qm, .ref qw, .ref qt, .int (zi we)])), (qs, aI cI 10 sf), (qo, aL cL 1 (zup of (Int.toNat 0) (f_X4_between (sf sl.toNat) (sf ot.toNat) un)))]) (va_A [(h0, .inr (4, [.ref qs, .ref qr, .ref qm, .ref qw, .ref qt, .int (zi we)])), (qs, aI cI 10 sf), (qo, aL cL 1 of)] sz)) 0 0 (va_A [(h0, .inr (4, [.ref qs, .ref qr, .ref qm, .ref qw, .ref qt, .int (zi we)])), (qs, aI cI 10 sf), (qo, aL cL 1 of)] sz) := by
  refine va_MetW (hh := [(0, 12, 15, 13), (0, 12, 19, 15), (0, 12, 23, 35)]) (cc := cL_between) (maxL := 6) (ret := (some .int)) (by decide) rfl ?_
  intro p e s m args below meth c s₁ B hml hv
  obtain ⟨rfl, hsz, hP, hK, hD0⟩ := hv
  have hx := B.exec
  have hb := B.bytes
  have hr := B.returns
  have hts := atoms_spec (ws := wsL_between) B.pre
  have hown : s.vm.findClass RL = some m.cls := findClass_of_methodNamed B.named
  have hlocks := B.notSynchronized
  subst hsz
  have hD := hD0.self (sz := s.heap.size)
  generalize hAe : va_A [(h0, .inr (4, [.ref qs, .ref qr, .ref qm, .ref qw, .ref qt, .int (zi we)])), (qs, aI cI 10 sf), (qo, aL cL 1 of)] s.heap.size = A at hD ⊢
  have hA : ∀ q : Nat, s.heap.size ≤ q → A q := fun q h => by rw [← hAe]; exact Or.inr h
  have hS : va_S A s.heap s.heap [] := va_S.rf
  have hP : va_P (dC, dI) vwCl [(h0, .inr (4, [.ref qs, .ref qr, .ref qm, .ref qw, .ref qt, .int (zi we)])), (qs, aI cI 10 sf), (qo, aL cL 1 of)] s.heap := hP
  have hl := lv_entry ([.ref h0, .int (zi sl), .int (zi ot), .int (zi un), .ref qo]) (n := 6) (Nat.le_of_ble_eq_true rfl)
  rw [lg_entry_eq]
  generalize (lg_sl ([.ref h0, .int (zi sl), .int (zi ot), .int (zi un), .ref qo]) ++ List.replicate (6 - (lg_sl ([.ref h0, .int (zi sl), .int (zi ot), .int (zi un), .ref qo])).length) Slot.unset).toArray = ls at hl ⊢
  have hl : lv_has ls 6 [(0, .ref h0), (1, .int (zi sl)), (2, .int (zi ot)), (3, .int (zi un)), (4, .ref qo)] := hl
  refine lv_aload hx hb dL_between_0 (lv_at hl 4 rfl) ?_
  refine zw_iconst hx hb dL_between_2 ?_
  refine lv_aload_n hx hb dL_between_3 rfl (lv_at hl 0 rfl) ?_
  refine lv_iload_n hx hb dL_between_4 rfl (lv_at hl 1 rfl) ?_
  refine lv_iload_n hx hb dL_between_5 rfl (lv_at hl 2 rfl) ?_
  refine lv_iload_n hx hb dL_between_6 rfl (lv_at hl 3 rfl) ?_
  have hh1 := c_X4_between l dC dI cI h0 qs qr qm qw qt we sf sl ot un (by omega) (by omega) (by omega) (by omega) (by omega)
  have hPc := hP.sub (ws' := [(h0, .inr (4, [.ref qs, .ref qr, .ref qm, .ref qw, .ref qt, .int (zi we)])), (qs, aI cI 10 sf)]) [0, 1] rfl
  have hKc : va_K (dC, dI) vwCl [(cI, .int)] s := hK.sub (tys' := [(cI, .int)]) [0] rfl
  refine vp_callSi (va_Run.run (va_runV (As := [.int (zi sl), .int (zi ot), .int (zi un)]) (rest := [.int (zi 0), .ref qo]) ⟨hx, hb, hml, hown, hts⟩ hh1 (cwV 3 hts gL_between_X4_between rfl rfl rfl (by decide +kernel) ⟨Nat.le_of_ble_eq_true rfl, Nat.le_of_ble_eq_true rfl⟩) ⟨zPr.blind _ _ _ _, va_recv hKc hPc (ci := 4) (q0 := 0) rfl rfl, fun U hU hW => ⟨rfl, by rw [hU]; exact hPc, va_K.moved hW.alike hKc⟩⟩ rfl rfl hl.1 rfl (lv_room (Nat.le_of_ble_eq_true rfl)) dL_between_7 ⟨Nat.le_of_ble_eq_true rfl, Nat.le_of_ble_eq_true rfl⟩)) (fun r1 (hr1 : r1 = zi (f_X4_between (sf sl.toNat) (sf ot.toNat) un)) => ?_)
  subst hr1
  refine zw_i2l hx hb dL_between_10 ⟨by omega, by omega⟩ ?_
  refine zw_last hx hb hK hP hD hS 2 1 rfl rfl (by omega) (by omega) ⟨by omega, by omega⟩ dL_between_11 (fun H locs hP hD hS => ?_)
  have hP : va_P (dC, dI) vwCl [(h0, .inr (4, [.ref qs, .ref qr, .ref qm, .ref qw, .ref qt, .int (zi we)])), (qs, aI cI 10 sf), (qo, aL cL 1 (zup of (Int.toNat 0) (f_X4_between (sf sl.toNat) (sf ot.toNat) un)))] H := hP
  have hD : va_D A [(h0, .inr (4, [.ref qs, .ref qr, .ref qm, .ref qw, .ref qt, .int (zi we)])), (qs, aI cI 10 sf), (qo, aL cL 1 (zup of (Int.toNat 0) (f_X4_between (sf sl.toNat) (sf ot.toNat) un)))] := hD
  refine lv_goto (tgt := 27) hx hb dL_between_12 (by decide) ?_
  refine zw_iconst hx hb dL_between_27 ?_
  have hP9 := hP.sub (ws' := [(h0, .inr (4, [.ref qs, .ref qr, .ref qm, .ref qw, .ref qt, .int (zi we)])), (qs, aI cI 10 sf), (qo, aL cL 1 (zup of (Int.toNat 0) (f_X4_between (sf sl.toNat) (sf ot.toNat) un)))]) [0, 1, 2] rfl
  have hD9 := hD.sub (ws' := [(h0, .inr (4, [.ref qs, .ref qr, .ref qm, .ref qw, .ref qt, .int (zi we)])), (qs, aI cI 10 sf), (qo, aL cL 1 (zup of (Int.toNat 0) (f_X4_between (sf sl.toNat) (sf ot.toNat) un)))]) [0, 1, 2] (by decide) rfl
  exact W.iret (v := zi 0) hx hb hr (fun t ht hW => ⟨⟨zi 0, (), rfl, rfl, by rw [ht]; exact hP9, va_K.moved hW.alike hK, hD9⟩, hS.F ht⟩) hS.2.2 dL_between_28

set_option maxHeartbeats 4000000 in
set_option maxRecDepth 100000 in
theorem c_L_copy_1 (l : Launch) (hst : l.stackTraces = false) (dC : Nat → ClassId) (dI : Nat → Nat → Nat) (cI : ClassId) (cL : ClassId) (h0 : Nat) (qs : Nat) (qr : Nat) (qm : Nat) (qw : Nat) (qt : Nat) (we : Int) (sf : Nat → Int) (qo : Nat) (of : Nat → Int) (sl : Int) (ot : Int) (sz : Nat) (hp0 : -2147483648 ≤ sl ∧ sl ≤ 2147483647) (hp1 : sl < 0 ∨ 9 < sl) : Met l yL_copy wsL_copy ({ frames := 8, cells := 1, slots := 6, locals := 132 }) (zPx (dC, dI) [(cI, .int), (cL, .long)] sz [.ref h0, .int (zi sl), .int (zi ot), .ref qo] [(h0, .inr (4, [.ref qs, .ref qr, .ref qm, .ref qw, .ref qt, .int (zi we)])), (qs, aI cI 10 sf), (qo, aL cL 1 of)]) (va_Qi (fun (r : Int32) (_ : Unit) => r = zi 1) (zB (dC, dI) [(cI, .int), (cL, .long)] (va_A [(h0, .inr (4, [.ref qs, .ref qr, .ref qm, .ref qw, .ref qt, .int (zi we)])), (qs, aI cI 10 sf), (qo, aL cL 1 of)] sz) [(h0, .inr (4, [.ref qs, .ref qr, .ref qm, .ref qw, .ref qt, .int (zi we)])), (qs, aI cI 10 sf), (qo, aL cL 1 of)]) (va_A [(h0, .inr (4, [.ref qs, .ref qr, .ref qm, .ref qw, .ref qt, .int (zi we)])), (qs, aI cI 10 sf), (qo, aL cL 1 of)] sz)) 1 6 (va_A [(h0, .inr (4, [.ref qs, .ref qr, .ref qm, .ref qw, .ref qt, .int (zi we)])), (qs, aI cI 10 sf), (qo, aL cL 1 of)] sz) := by
  refine va_MetW (hh := [(0, 10, 13, 13), (0, 10, 17, 35)]) (cc := cL_copy) (maxL := 5) (ret := (some .int)) (by decide) rfl ?_
  intro p e s m args below meth c s₁ B hml hv
  obtain ⟨rfl, hsz, hE, hP, hK, hD0⟩ := hv
  have hx := B.exec
  have hb := B.bytes
  have hr := B.returns
  have hts := atoms_spec (ws := wsL_copy) B.pre
  have hown : s.vm.findClass RL = some m.cls := findClass_of_methodNamed B.named
  have hlocks := B.notSynchronized
  have hex : c.exceptionTable.toList = [⟨0, 10, 13, 13⟩, ⟨0, 10, 17, 35⟩] := vx_table (x := yL_copy) B (hts _ List.mem_cons_self)
  subst hsz
  have hD := hD0.self (sz := s.heap.size)
  generalize hAe : va_A [(h0, .inr (4, [.ref qs, .ref qr, .ref qm, .ref qw, .ref qt, .int (zi we)])), (qs, aI cI 10 sf), (qo, aL cL 1 of)] s.heap.size = A at hD ⊢
  have hA : ∀ q : Nat, s.heap.size ≤ q → A q := fun q h => by rw [← hAe]; exact Or.inr h
  have hS : va_S A s.heap s.heap [] := va_S.rf
  have hP : va_P (dC, dI) vwCl [(h0, .inr (4, [.ref qs, .ref qr, .ref qm, .ref qw, .ref qt, .int (zi we)])), (qs, aI cI 10 sf), (qo, aL cL 1 of)] s.heap := hP
  have hl := lv_entry ([.ref h0, .int (zi sl), .int (zi ot), .ref qo]) (n := 5) (Nat.le_of_ble_eq_true rfl)
  rw [lg_entry_eq]
  generalize (lg_sl ([.ref h0, .int (zi sl), .int (zi ot), .ref qo]) ++ List.replicate (5 - (lg_sl ([.ref h0, .int (zi sl), .int (zi ot), .ref qo])).length) Slot.unset).toArray = ls at hl ⊢
  have hl : lv_has ls 5 [(0, .ref h0), (1, .int (zi sl)), (2, .int (zi ot)), (3, .ref qo)] := hl
  refine lv_aload_n hx hb dL_copy_0 rfl (lv_at hl 3 rfl) ?_
  refine zw_iconst hx hb dL_copy_1 ?_
  refine lv_aload_n hx hb dL_copy_2 rfl (lv_at hl 0 rfl) ?_
  refine lv_iload_n hx hb dL_copy_3 rfl (lv_at hl 1 rfl) ?_
  refine lv_iload_n hx hb dL_copy_4 rfl (lv_at hl 2 rfl) ?_
  have hh1 := t_X4_copy_1 l hst h0 sl ot (by omega) (by omega)
  refine zt_catch (own := RL) (name := "java/lang/IndexOutOfBoundsException") (vx_runV (As := [.int (zi sl), .int (zi ot)]) (rest := [.int (zi 0), .ref qo]) ⟨hx, hb, hml, hown, hts⟩ hh1 (cwV 2 hts gL_copy_X4_copy rfl rfl rfl (by decide +kernel) ⟨Nat.le_of_ble_eq_true rfl, Nat.le_of_ble_eq_true rfl⟩) ⟨zP.blind _, va_recv hK hP (ci := 4) (q0 := 0) rfl rfl, fun U hU hW => ⟨rfl, hE.call va_S.rf (fun q h => by rw [hU] at h; exact h) hU hW⟩⟩ rfl rfl hl.1 rfl (lv_room (Nat.le_of_ble_eq_true rfl)) dL_copy_5 ⟨Nat.le_of_ble_eq_true rfl, Nat.le_of_ble_eq_true rfl⟩) hown [] ⟨0, 10, 13, 13⟩ [⟨0, 10, 17, 35⟩] hex (List.forall_mem_nil _) (by decide) (by decide) (hts (.classLink RL 13 "java/lang/IndexOutOfBoundsException") (by decide +kernel)) (va_any rfl (hE.2.2.1 (.castable "java/lang/IndexOutOfBoundsException" "java/lang/IndexOutOfBoundsException") (by decide +kernel))) (fun qx H1 hz1 hk1 => ?_)
  have hP : va_P (dC, dI) vwCl [(h0, .inr (4, [.ref qs, .ref qr, .ref qm, .ref qw, .ref qt, .int (zi we)])), (qs, aI cI 10 sf), (qo, aL cL 1 of)] H1 := zk_world hP hk1
  have hS : va_S A s.heap H1 [] := zk_S hz1 hk1
  refine lv_astore (lv' := [(4, .ref qx), (0, .ref h0), (1, .int (zi sl)), (2, .int (zi ot)), (3, .ref qo)]) hx hb dL_copy_13 hl (by decide) rfl (fun ls hl => ?_)
  refine zw_iconst hx hb dL_copy_15 ?_
  have hP9 := hP.sub (ws' := [(h0, .inr (4, [.ref qs, .ref qr, .ref qm, .ref qw, .ref qt, .int (zi we)])), (qs, aI cI 10 sf), (qo, aL cL 1 of)]) [0, 1, 2] rfl
  have hD9 := hD.sub (ws' := [(h0, .inr (4, [.ref qs, .ref qr, .ref qm, .ref qw, .ref qt, .int (zi we)])), (qs, aI cI 10 sf), (qo, aL cL 1 of)]) [0, 1, 2] (by decide) rfl
  exact W.iret (v := zi 1) hx hb hr (fun t ht hW => ⟨⟨zi 1, (), rfl, rfl, by rw [ht]; exact hP9, va_K.moved hW.alike hK, hD9⟩, hS.F ht⟩) hS.2.2 dL_copy_16

set_option maxHeartbeats 4000000 in
set_option maxRecDepth 100000 in
theorem c_L_copy_1b (l : Launch) (hst : l.stackTraces = false) (dC : Nat → ClassId) (dI : Nat → Nat → Nat) (cI : ClassId) (cL : ClassId) (h0 : Nat) (qs : Nat) (qr : Nat) (qm : Nat) (qw : Nat) (qt : Nat) (we : Int) (sf : Nat → Int) (qo : Nat) (of : Nat → Int) (sl : Int) (ot : Int) (sz : Nat) (hp0 : 0 ≤ sl ∧ sl ≤ 9) (hp1 : -2147483648 ≤ ot ∧ ot ≤ 2147483647) (hp2 : ot < 0 ∨ 9 < ot) : Met l yL_copy wsL_copy ({ frames := 8, cells := 1, slots := 6, locals := 132 }) (zPx (dC, dI) [(cI, .int), (cL, .long)] sz [.ref h0, .int (zi sl), .int (zi ot), .ref qo] [(h0, .inr (4, [.ref qs, .ref qr, .ref qm, .ref qw, .ref qt, .int (zi we)])), (qs, aI cI 10 sf), (qo, aL cL 1 of)]) (va_Qi (fun (r : Int32) (_ : Unit) => r = zi 1) (zB (dC, dI) [(cI, .int), (cL, .long)] (va_A [(h0, .inr (4, [.ref qs, .ref qr, .ref qm, .ref qw, .ref qt, .int (zi we)])), (qs, aI cI 10 sf), (qo, aL cL 1 of)] sz) [(h0, .inr (4, [.ref qs, .ref qr, .ref qm, .ref qw, .ref qt, .int (zi we)])), (qs, aI cI 10 sf), (qo, aL cL 1 of)]) (va_A [(h0, .inr (4, [.ref qs, .ref qr, .ref qm, .ref qw, .ref qt, .int (zi we)])), (qs, aI cI 10 sf), (qo, aL cL 1 of)] sz)) 1 6 (va_A [(h0, .inr (4, [.ref qs, .ref qr, .ref qm, .ref qw, .ref qt, .int (zi we)])), (qs, aI cI 10 sf), (qo, aL cL 1 of)] sz) := by
  refine va_MetW (hh := [(0, 10, 13, 13), (0, 10, 17, 35)]) (cc := cL_copy) (maxL := 5) (ret := (some .int)) (by decide) rfl ?_
  intro p e s m args below meth c s₁ B hml hv
  obtain ⟨rfl, hsz, hE, hP, hK, hD0⟩ := hv
  have hx := B.exec
  have hb := B.bytes
  have hr := B.returns
  have hts := atoms_spec (ws := wsL_copy) B.pre
  have hown : s.vm.findClass RL = some m.cls := findClass_of_methodNamed B.named
  have hlocks := B.notSynchronized
  have hex : c.exceptionTable.toList = [⟨0, 10, 13, 13⟩, ⟨0, 10, 17, 35⟩] := vx_table (x := yL_copy) B (hts _ List.mem_cons_self)
  subst hsz
  have hD := hD0.self (sz := s.heap.size)
  generalize hAe : va_A [(h0, .inr (4, [.ref qs, .ref qr, .ref qm, .ref qw, .ref qt, .int (zi we)])), (qs, aI cI 10 sf), (qo, aL cL 1 of)] s.heap.size = A at hD ⊢
  have hA : ∀ q : Nat, s.heap.size ≤ q → A q := fun q h => by rw [← hAe]; exact Or.inr h
  have hS : va_S A s.heap s.heap [] := va_S.rf
  have hP : va_P (dC, dI) vwCl [(h0, .inr (4, [.ref qs, .ref qr, .ref qm, .ref qw, .ref qt, .int (zi we)])), (qs, aI cI 10 sf), (qo, aL cL 1 of)] s.heap := hP
  have hl := lv_entry ([.ref h0, .int (zi sl), .int (zi ot), .ref qo]) (n := 5) (Nat.le_of_ble_eq_true rfl)
  rw [lg_entry_eq]
  generalize (lg_sl ([.ref h0, .int (zi sl), .int (zi ot), .ref qo]) ++ List.replicate (5 - (lg_sl ([.ref h0, .int (zi sl), .int (zi ot), .ref qo])).length) Slot.unset).toArray = ls at hl ⊢
  have hl : lv_has ls 5 [(0, .ref h0), (1, .int (zi sl)), (2, .int (zi ot)), (3, .ref qo)] := hl
  refine lv_aload_n hx hb dL_copy_0 rfl (lv_at hl 3 rfl) ?_
  refine zw_iconst hx hb dL_copy_1 ?_
  refine lv_aload_n hx hb dL_copy_2 rfl (lv_at hl 0 rfl) ?_
  refine lv_iload_n hx hb dL_copy_3 rfl (lv_at hl 1 rfl) ?_
  refine lv_iload_n hx hb dL_copy_4 rfl (lv_at hl 2 rfl) ?_
  have hh1 := t_X4_copy_1b l hst h0 sl ot (by omega) (by omega) (by omega)
  refine zt_catch (own := RL) (name := "java/lang/IndexOutOfBoundsException") (vx_runV (As := [.int (zi sl), .int (zi ot)]) (rest := [.int (zi 0), .ref qo]) ⟨hx, hb, hml, hown, hts⟩ hh1 (cwV 2 hts gL_copy_X4_copy rfl rfl rfl (by decide +kernel) ⟨Nat.le_of_ble_eq_true rfl, Nat.le_of_ble_eq_true rfl⟩) ⟨zP.blind _, va_recv hK hP (ci := 4) (q0 := 0) rfl rfl, fun U hU hW => ⟨rfl, hE.call va_S.rf (fun q h => by rw [hU] at h; exact h) hU hW⟩⟩ rfl rfl hl.1 rfl (lv_room (Nat.le_of_ble_eq_true rfl)) dL_copy_5 ⟨Nat.le_of_ble_eq_true rfl, Nat.le_of_ble_eq_true rfl⟩) hown [] ⟨0, 10, 13, 13⟩ [⟨0, 10, 17, 35⟩] hex (List.forall_mem_nil _) (by decide) (by decide) (hts (.classLink RL 13 "java/lang/IndexOutOfBoundsException") (by decide +kernel)) (va_any rfl (hE.2.2.1 (.castable "java/lang/IndexOutOfBoundsException" "java/lang/IndexOutOfBoundsException") (by decide +kernel))) (fun qx H1 hz1 hk1 => ?_)
  have hP : va_P (dC, dI) vwCl [(h0, .inr (4, [.ref qs, .ref qr, .ref qm, .ref qw, .ref qt, .int (zi we)])), (qs, aI cI 10 sf), (qo, aL cL 1 of)] H1 := zk_world hP hk1
  have hS : va_S A s.heap H1 [] := zk_S hz1 hk1
  refine lv_astore (lv' := [(4, .ref qx), (0, .ref h0), (1, .int (zi sl)), (2, .int (zi ot)), (3, .ref qo)]) hx hb dL_copy_13 hl (by decide) rfl (fun ls hl => ?_)
  refine zw_iconst hx hb dL_copy_15 ?_
  have hP9 := hP.sub (ws' := [(h0, .inr (4, [.ref qs, .ref qr, .ref qm, .ref qw, .ref qt, .int (zi we)])), (qs, aI cI 10 sf), (qo, aL cL 1 of)]) [0, 1, 2] rfl
  have hD9 := hD.sub (ws' := [(h0, .inr (4, [.ref qs, .ref qr, .ref qm, .ref qw, .ref qt, .int (zi we)])), (qs, aI cI 10 sf), (qo, aL cL 1 of)]) [0, 1, 2] (by decide) rfl
  exact W.iret (v := zi 1) hx hb hr (fun t ht hW => ⟨⟨zi 1, (), rfl, rfl, by rw [ht]; exact hP9, va_K.moved hW.alike hK, hD9⟩, hS.F ht⟩) hS.2.2 dL_copy_16

set_option maxHeartbeats 4000000 in
set_option maxRecDepth 100000 in
theorem c_L_copy_2 (l : Launch) (hst : l.stackTraces = false) (dC : Nat → ClassId) (dI : Nat → Nat → Nat) (cI : ClassId) (cL : ClassId) (h0 : Nat) (qs : Nat) (qr : Nat) (qm : Nat) (qw : Nat) (qt : Nat) (we : Int) (sf : Nat → Int) (qo : Nat) (of : Nat → Int) (sl : Int) (ot : Int) (sz : Nat) (hp0 : 0 ≤ sl ∧ sl ≤ 9) (hp1 : 0 ≤ ot ∧ ot ≤ 9) (hp2 : sf sl.toNat = -1) : Met l yL_copy wsL_copy ({ frames := 8, cells := 1, slots := 6, locals := 134 }) (zPx (dC, dI) [(cI, .int), (cL, .long)] sz [.ref h0, .int (zi sl), .int (zi ot), .ref qo] [(h0, .inr (4, [.ref qs, .ref qr, .ref qm, .ref qw, .ref qt, .int (zi we)])), (qs, aI cI 10 sf), (qo, aL cL 1 of)]) (va_Qi (fun (r : Int32) (_ : Unit) => r = zi 2) (zB (dC, dI) [(cI, .int), (cL, .long)] (va_A [(h0, .inr (4, [.ref qs, .ref qr, .ref qm, .ref qw, .ref qt, .int (zi we)])), (qs, aI cI 10 sf), (qo, aL cL 1 of)] sz) [(h0, .inr (4, [.ref qs, .ref qr, .ref qm, .ref qw, .ref qt, .int (zi we)])), (qs, aI cI 10 sf), (qo, aL cL 1 of)]) (va_A [(h0, .inr (4, [.ref qs, .ref qr, .ref qm, .ref qw, .ref qt, .int (zi we)])), (qs, aI cI 10 sf), (qo, aL cL 1 of)] sz)) 1 6 (va_A [(h0, .inr (4, [.ref qs, .ref qr, .ref qm, .ref qw, .ref qt, .int (zi we)])), (qs, aI cI 10 sf), (qo, aL cL 1 of)] sz) := by
  refine va_MetW (hh := [(0, 10, 13, 13), (0, 10, 17, 35)]) (cc := cL_copy) (maxL := 5) (ret := (some .int)) (by decide) rfl ?_
  intro p e s m args below meth c s₁ B hml hv
  obtain ⟨rfl, hsz, hE, hP, hK, hD0⟩ := hv
  have hx := B.exec
  have hb := B.bytes
  have hr := B.returns
  have hts := atoms_spec (ws := wsL_copy) B.pre
  have hown : s.vm.findClass RL = some m.cls := findClass_of_methodNamed B.named
  have hlocks := B.notSynchronized
  have hex : c.exceptionTable.toList = [⟨0, 10, 13, 13⟩, ⟨0, 10, 17, 35⟩] := vx_table (x := yL_copy) B (hts _ List.mem_cons_self)
  subst hsz
  have hD := hD0.self (sz := s.heap.size)
  generalize hAe : va_A [(h0, .inr (4, [.ref qs, .ref qr, .ref qm, .ref qw, .ref qt, .int (zi we)])), (qs, aI cI 10 sf), (qo, aL cL 1 of)] s.heap.size = A at hD ⊢
  have hA : ∀ q : Nat, s.heap.size ≤ q → A q := fun q h => by rw [← hAe]; exact Or.inr h
  have hS : va_S A s.heap s.heap [] := va_S.rf
  have hP : va_P (dC, dI) vwCl [(h0, .inr (4, [.ref qs, .ref qr, .ref qm, .ref qw, .ref qt, .int (zi we)])), (qs, aI cI 10 sf), (qo, aL cL 1 of)] s.heap := hP
  have hl := lv_entry ([.ref h0, .int (zi sl), .int (zi ot), .ref qo]) (n := 5) (Nat.le_of_ble_eq_true rfl)
  rw [lg_entry_eq]
  generalize (lg_sl ([.ref h0, .int (zi sl), .int (zi ot), .ref qo]) ++ List.replicate (5 - (lg_sl ([.ref h0, .int (zi sl), .int (zi ot), .ref qo])).length) Slot.unset).toArray = ls at hl ⊢
  have hl : lv_has ls 5 [(0, .ref h0), (1, .int (zi sl)), (2, .int (zi ot)), (3, .ref qo)] := hl
  refine lv_aload_n hx hb dL_copy_0 rfl (lv_at hl 3 rfl) ?_
  refine zw_iconst hx hb dL_copy_1 ?_
  refine lv_aload_n hx hb dL_copy_2 rfl (lv_at hl 0 rfl) ?_
  refine lv_iload_n hx hb dL_copy_3 rfl (lv_at hl 1 rfl) ?_
  refine lv_iload_n hx hb dL_copy_4 rfl (lv_at hl 2 rfl) ?_
  have hh1 := t_X4_copy_2 l hst dC dI cI h0 qs qr qm qw qt we sf sl ot (by omega) (by omega) (by omega)
  have hPc := hP.sub (ws' := [(h0, .inr (4, [.ref qs, .ref qr, .ref qm, .ref qw, .ref qt, .int (zi we)])), (qs, aI cI 10 sf)]) [0, 1] rfl
  have hKc : va_K (dC, dI) vwCl [(cI, .int)] s := hK.sub (tys' := [(cI, .int)]) [0] rfl
  refine zt_catch (own := RL) (name := "java/lang/IllegalStateException") (vx_runV (As := [.int (zi sl), .int (zi ot)]) (rest := [.int (zi 0), .ref qo]) ⟨hx, hb, hml, hown, hts⟩ hh1 (cwV 2 hts gL_copy_X4_copy rfl rfl rfl (by decide +kernel) ⟨Nat.le_of_ble_eq_true rfl, Nat.le_of_ble_eq_true rfl⟩) ⟨zPt.blind _ _ _ _, va_recv hKc hPc (ci := 4) (q0 := 0) rfl rfl, fun U hU hW => ⟨rfl, hE.call va_S.rf (fun q h => by rw [hU] at h; exact h) hU hW, by rw [hU]; exact hPc, va_K.moved hW.alike hKc⟩⟩ rfl rfl hl.1 rfl (lv_room (Nat.le_of_ble_eq_true rfl)) dL_copy_5 ⟨Nat.le_of_ble_eq_true rfl, Nat.le_of_ble_eq_true rfl⟩) hown [⟨0, 10, 13, 13⟩] ⟨0, 10, 17, 35⟩ [] hex (List.forall_mem_cons.mpr ⟨⟨by decide, by decide, "java/lang/IndexOutOfBoundsException", (hts (.classLink RL 13 "java/lang/IndexOutOfBoundsException") (by decide +kernel)), hE.2.2.2.2 ("java/lang/IllegalStateException", "java/lang/IndexOutOfBoundsException") (by decide)⟩, List.forall_mem_nil _⟩) (by decide) (by decide) (hts (.classLink RL 35 "java/lang/IllegalStateException") (by decide +kernel)) (va_any rfl (hE.2.2.1 (.castable "java/lang/IllegalStateException" "java/lang/IllegalStateException") (by decide +kernel))) (fun qx H1 hz1 hk1 => ?_)
  have hP : va_P (dC, dI) vwCl [(h0, .inr (4, [.ref qs, .ref qr, .ref qm, .ref qw, .ref qt, .int (zi we)])), (qs, aI cI 10 sf), (qo, aL cL 1 of)] H1 := zk_world hP hk1
  have hS : va_S A s.heap H1 [] := zk_S hz1 hk1
  refine lv_astore (lv' := [(4, .ref qx), (0, .ref h0), (1, .int (zi sl)), (2, .int (zi ot)), (3, .ref qo)]) hx hb dL_copy_17 hl (by decide) rfl (fun ls hl => ?_)
  refine zw_iconst hx hb dL_copy_19 ?_
  have hP9 := hP.sub (ws' := [(h0, .inr (4, [.ref qs, .ref qr, .ref qm, .ref qw, .ref qt, .int (zi we)])), (qs, aI cI 10 sf), (qo, aL cL 1 of)]) [0, 1, 2] rfl
  have hD9 := hD.sub (ws' := [(h0, .inr (4, [.ref qs, .ref qr, .ref qm, .ref qw, .ref qt, .int (zi we)])), (qs, aI cI 10 sf), (qo, aL cL 1 of)]) [0, 1, 2] (by decide) rfl
  exact W.iret (v := zi 2) hx hb hr (fun t ht hW => ⟨⟨zi 2, (), rfl, rfl, by rw [ht]; exact hP9, va_K.moved hW.alike hK, hD9⟩, hS.F ht⟩) hS.2.2 dL_copy_20

set_option maxHeartbeats 4000000 in
set_option maxRecDepth 100000 in
theorem c_L_copy (l : Launch)  (dC : Nat → ClassId) (dI : Nat → Nat → Nat) (cI : ClassId) (cL : ClassId) (h0 : Nat) (qs : Nat) (qr : Nat) (qm : Nat) (qw : Nat) (qt : Nat) (we : Int) (sf : Nat → Int) (qo : Nat) (of : Nat → Int) (sl : Int) (ot : Int) (sz : Nat) (hp0 : 0 ≤ sl ∧ sl ≤ 9) (hp1 : 0 ≤ ot ∧ ot ≤ 9) (hp2 : 0 ≤ sf sl.toNat ∧ sf sl.toNat ≤ 3652058) : Met l yL_copy wsL_copy ({ frames := 2, cells := 0, slots := 0, locals := 44 }) (zPw (dC, dI) [(cI, .int), (cL, .long)] sz [.ref h0, .int (zi sl), .int (zi ot), .ref qo] [(h0, .inr (4, [.ref qs, .ref qr, .ref qm, .ref qw, .ref qt, .int (zi we)])), (qs, aI cI 10 sf), (qo, aL cL 1 of)]) (va_Qi (fun (r : Int32) (_ : Unit) => r = zi 0) (zB (dC, dI) [(cI, .int), (cL, .long)] (va_A [(h0, .inr (4, [.ref qs, .ref qr, .ref qm, .ref qw, .ref qt, .int (zi we)])), (qs, aI cI 10 sf), (qo, aL cL 1 of)] sz) [(h0, .inr (4, [.ref qs, .ref qr, .ref qm, .ref qw, .ref qt, .int (zi we)])), (qs, aI cI 10 (zup sf ot.toNat (sf sl.toNat))), (qo, aL cL 1 (zup of (Int.toNat 0) (sf sl.toNat)))]) (va_A [(h0, .inr (4, [.ref qs, .ref qr, .ref qm, .ref qw, .ref qt, .int (zi we)])), (qs, aI cI 10 sf), (qo, aL cL 1 of)] sz)) 0 0 (va_A [(h0, .inr (4, [.ref qs, .ref qr, .ref qm, .ref qw, .ref qt, .int (zi we)])), (qs, aI cI 10 sf), (qo, aL cL 1 of)] sz) := by
  refine va_MetW (hh := [(0, 10, 13, 13), (0, 10, 17, 35)]) (cc := cL_copy) (maxL := 5) (ret := (some .int)) (by decide) rfl ?_
  intro p e s m args below meth c s₁ B hml hv
  obtain ⟨rfl, hsz, hP, hK, hD0⟩ := hv
  have hx := B.exec
  have hb := B.bytes
  have hr := B.returns
  have hts := atoms_spec (ws := wsL_copy) B.pre
  have hown : s.vm.findClass RL = some m.cls := findClass_of_methodNamed B.named
  have hlocks := B.notSynchronized
  subst hsz
  have hD := hD0.self (sz := s.heap.size)
  generalize hAe : va_A [(h0, .inr (4, [.ref qs, .ref qr, .ref qm, .ref qw, .ref qt, .int (zi we)])), (qs, aI cI 10 sf), (qo, aL cL 1 of)] s.heap.size = A at hD ⊢
  have hA : ∀ q : Nat, s.heap.size ≤ q → A q := fun q h => by rw [← hAe]; exact Or.inr h
  have hS : va_S A s.heap s.heap [] := va_S.rf
  have hP : va_P (dC, dI) vwCl [(h0, .inr (4, [.ref qs, .ref qr, .ref qm, .ref qw, .ref qt, .int (zi we)])), (qs, aI cI 10 sf), (qo, aL cL 1 of)] s.heap := hP
  have hl := lv_entry ([.ref h0, .int (zi sl), .int (zi ot), .ref qo]) (n := 5) (Nat.le_of_ble_eq_true rfl)
  rw [lg_entry_eq]
  generalize (lg_sl ([.ref h0, .int (zi sl), .int (zi ot), .ref qo]) ++ List.replicate (5 - (lg_sl ([.ref h0, .int (zi sl), .int (zi ot), .ref qo])).length) Slot.unset).toArray = ls at hl ⊢
  have hl : lv_has ls 5 [(0, .ref h0), (1, .int (zi sl)), (2, .int (zi ot)), (3, .ref qo)] := hl
  refine lv_aload_n hx hb dL_copy_0 rfl (lv_at hl 3 rfl) ?_
  refine zw_iconst hx hb dL_copy_1 ?_
  refine lv_aload_n hx hb dL_copy_2 rfl (lv_at hl 0 rfl) ?_
  refine lv_iload_n hx hb dL_copy_3 rfl (lv_at hl 1 rfl) ?_
  refine lv_iload_n hx hb dL_copy_4 rfl (lv_at hl 2 rfl) ?_
  have hh1 := c_X4_copy l dC dI cI h0 qs qr qm qw qt we sf sl ot s.heap.size (by omega) (by omega) (by omega)
  have hPc := hP.sub (ws' := [(h0, .inr (4, [.ref qs, .ref qr, .ref qm, .ref qw, .ref qt, .int (zi we)])), (qs, aI cI 10 sf)]) [0, 1] rfl
  have hKc : va_K (dC, dI) vwCl [(cI, .int)] s := hK.sub (tys' := [(cI, .int)]) [0] rfl
  have hDc := hD.sub (ws' := [(h0, .inr (4, [.ref qs, .ref qr, .ref qm, .ref qw, .ref qt, .int (zi we)])), (qs, aI cI 10 sf)]) [0, 1] (by decide) rfl
  have hFc := va_free (wc := [(h0, .inr (4, [.ref qs, .ref qr, .ref qm, .ref qw, .ref qt, .int (zi we)])), (qs, aI cI 10 sf)]) hD hS hA [0, 1] rfl
  refine va_calli (va_runV (As := [.int (zi sl), .int (zi ot)]) (rest := [.int (zi 0), .ref qo]) ⟨hx, hb, hml, hown, hts⟩ hh1 (cwV 2 hts gL_copy_X4_copy rfl rfl rfl (by decide +kernel) ⟨Nat.le_of_ble_eq_true rfl, Nat.le_of_ble_eq_true rfl⟩) ⟨zPw.blind _ _ _ _ _, va_recv hKc hPc (ci := 4) (q0 := 0) rfl rfl, fun U hU hW => ⟨rfl, by rw [hU], by rw [hU]; exact hPc, va_K.moved hW.alike hKc, hDc.weaken (fun _ _ _ _ => trivial)⟩⟩ rfl rfl hl.1 rfl (lv_room (Nat.le_of_ble_eq_true rfl)) dL_copy_5 ⟨Nat.le_of_ble_eq_true rfl, Nat.le_of_ble_eq_true rfl⟩) hS (fun q _ h => hFc q h) hFc (fun r1 u t H1 locs ht hvm hw hB hz1 hk1 hS => ?_)
  obtain ⟨hP1, hK1, hD1⟩ := hB
  rw [ht] at hP1
  obtain ⟨hP, hD⟩ := va_join (wr := [(qo, aL cL 1 of)]) (w1 := [(h0, .inr (4, [.ref qs, .ref qr, .ref qm, .ref qw, .ref qt, .int (zi we)])), (qs, aI cI 10 (zup sf ot.toNat (sf sl.toNat)))]) hP hD [0, 1] [2] rfl rfl (by decide) (by decide) hk1 hFc hP1 hD1
  generalize H1 = H at hP hS ⊢
  obtain rfl : r1 = zi (sf sl.toNat) := hw
  have hP : va_P (dC, dI) vwCl [(qo, aL cL 1 of), (h0, .inr (4, [.ref qs, .ref qr, .ref qm, .ref qw, .ref qt, .int (zi we)])), (qs, aI cI 10 (zup sf ot.toNat (sf sl.toNat)))] H := hP
  have hD : va_D A [(qo, aL cL 1 of), (h0, .inr (4, [.ref qs, .ref qr, .ref qm, .ref qw, .ref qt, .int (zi we)])), (qs, aI cI 10 (zup sf ot.toNat (sf sl.toNat)))] := hD
  refine zw_i2l hx hb dL_copy_8 ⟨by omega, by omega⟩ ?_
  refine zw_last hx hb hK hP hD hS 0 1 rfl rfl (by omega) (by omega) ⟨by omega, by omega⟩ dL_copy_9 (fun H locs hP hD hS => ?_)
  have hP : va_P (dC, dI) vwCl [(qo, aL cL 1 (zup of (Int.toNat 0) (sf sl.toNat))), (h0, .inr (4, [.ref qs, .ref qr, .ref qm, .ref qw, .ref qt, .int (zi we)])), (qs, aI cI 10 (zup sf ot.toNat (sf sl.toNat)))] H := hP
  have hD : va_D A [(qo, aL cL 1 (zup of (Int.toNat 0) (sf sl.toNat))), (h0, .inr (4, [.ref qs, .ref qr, .ref qm, .ref qw, .ref qt, .int (zi we)])), (qs, aI cI 10 (zup sf ot.toNat (sf sl.toNat)))] := hD
  refine lv_goto (tgt := 21) hx hb dL_copy_10 (by decide) ?_
  refine zw_iconst hx hb dL_copy_21 ?_
  have hP9 := hP.sub (ws' := [(h0, .inr (4, [.ref qs, .ref qr, .ref qm, .ref qw, .ref qt, .int (zi we)])), (qs, aI cI 10 (zup sf ot.toNat (sf sl.toNat))), (qo, aL cL 1 (zup of (Int.toNat 0) (sf sl.toNat)))]) [1, 2, 0] rfl
  have hD9 := hD.sub (ws' := [(h0, .inr (4, [.ref qs, .ref qr, .ref qm, .ref qw, .ref qt, .int (zi we)])), (qs, aI cI 10 (zup sf ot.toNat (sf sl.toNat))), (qo, aL cL 1 (zup of (Int.toNat 0) (sf sl.toNat)))]) [1, 2, 0] (by decide) rfl
  exact W.iret (v := zi 0) hx hb hr (fun t ht hW => ⟨⟨zi 0, (), rfl, rfl, by rw [ht]; exact hP9, va_K.moved hW.alike hK, hD9⟩, hS.F ht⟩) hS.2.2 dL_copy_22

set_option maxHeartbeats 4000000 in
set_option maxRecDepth 100000 in
theorem c_L_weekend_1 (l : Launch) (hst : l.stackTraces = false) (dC : Nat → ClassId) (dI : Nat → Nat → Nat) (cI : ClassId) (cL : ClassId) (h0 : Nat) (qs : Nat) (qr : Nat) (qm : Nat) (qw : Nat) (qt : Nat) (we : Int) (qo : Nat) (of : Nat → Int) (se : Int) (sz : Nat) (hp0 : -2147483648 ≤ se ∧ se ≤ 2147483647) (hp1 : se < 0 ∨ 126 < se) : Met l yL_weekend wsL_weekend ({ frames := 7, cells := 1, slots := 6, locals := 112 }) (zPx (dC, dI) [(cI, .int), (cL, .long)] sz [.ref h0, .int (zi se), .ref qo] [(h0, .inr (4, [.ref qs, .ref qr, .ref qm, .ref qw, .ref qt, .int (zi we)])), (qo, aL cL 1 of)]) (va_Qi (fun (r : Int32) (_ : Unit) => r = zi 1) (zB (dC, dI) [(cI, .int), (cL, .long)] (va_A [(h0, .inr (4, [.ref qs, .ref qr, .ref qm, .ref qw, .ref qt, .int (zi we)])), (qo, aL cL 1 of)] sz) [(h0, .inr (4, [.ref qs, .ref qr, .ref qm, .ref qw, .ref qt, .int (zi we)])), (qo, aL cL 1 of)]) (va_A [(h0, .inr (4, [.ref qs, .ref qr, .ref qm, .ref qw, .ref qt, .int (zi we)])), (qo, aL cL 1 of)] sz)) 1 6 (va_A [(h0, .inr (4, [.ref qs, .ref qr, .ref qm, .ref qw, .ref qt, .int (zi we)])), (qo, aL cL 1 of)] sz) := by
  refine va_MetW (hh := [(0, 9, 12, 15)]) (cc := cL_weekend) (maxL := 4) (ret := (some .int)) (by decide) rfl ?_
  intro p e s m args below meth c s₁ B hml hv
  obtain ⟨rfl, hsz, hE, hP, hK, hD0⟩ := hv
  have hx := B.exec
  have hb := B.bytes
  have hr := B.returns
  have hts := atoms_spec (ws := wsL_weekend) B.pre
  have hown : s.vm.findClass RL = some m.cls := findClass_of_methodNamed B.named
  have hlocks := B.notSynchronized
  have hex : c.exceptionTable.toList = [⟨0, 9, 12, 15⟩] := vx_table (x := yL_weekend) B (hts _ List.mem_cons_self)
  subst hsz
  have hD := hD0.self (sz := s.heap.size)
  generalize hAe : va_A [(h0, .inr (4, [.ref qs, .ref qr, .ref qm, .ref qw, .ref qt, .int (zi we)])), (qo, aL cL 1 of)] s.heap.size = A at hD ⊢
  have hA : ∀ q : Nat, s.heap.size ≤ q → A q := fun q h => by rw [← hAe]; exact Or.inr h
  have hS : va_S A s.heap s.heap [] := va_S.rf
  have hP : va_P (dC, dI) vwCl [(h0, .inr (4, [.ref qs, .ref qr, .ref qm, .ref qw, .ref qt, .int (zi we)])), (qo, aL cL 1 of)] s.heap := hP
  have hl := lv_entry ([.ref h0, .int (zi se), .ref qo]) (n := 4) (Nat.le_of_ble_eq_true rfl)
  rw [lg_entry_eq]
  generalize (lg_sl ([.ref h0, .int (zi se), .ref qo]) ++ List.replicate (4 - (lg_sl ([.ref h0, .int (zi se), .ref qo])).length) Slot.unset).toArray = ls at hl ⊢
  have hl : lv_has ls 4 [(0, .ref h0), (1, .int (zi se)), (2, .ref qo)] := hl
  refine lv_aload_n hx hb dL_weekend_0 rfl (lv_at hl 2 rfl) ?_
  refine zw_iconst hx hb dL_weekend_1 ?_
  refine lv_aload_n hx hb dL_weekend_2 rfl (lv_at hl 0 rfl) ?_
  refine lv_iload_n hx hb dL_weekend_3 rfl (lv_at hl 1 rfl) ?_
  have hh1 := t_X4_weekend l hst h0 se (by omega) (by omega)
  refine zt_catch (own := RL) (name := "java/lang/IllegalArgumentException") (vx_runV (As := [.int (zi se)]) (rest := [.int (zi 0), .ref qo]) ⟨hx, hb, hml, hown, hts⟩ hh1 (cwV 1 hts gL_weekend_X4_weekend rfl rfl rfl (by decide +kernel) ⟨Nat.le_of_ble_eq_true rfl, Nat.le_of_ble_eq_true rfl⟩) ⟨zP.blind _, va_recv hK hP (ci := 4) (q0 := 0) rfl rfl, fun U hU hW => ⟨rfl, hE.call va_S.rf (fun q h => by rw [hU] at h; exact h) hU hW⟩⟩ rfl rfl hl.1 rfl (lv_room (Nat.le_of_ble_eq_true rfl)) dL_weekend_4 ⟨Nat.le_of_ble_eq_true rfl, Nat.le_of_ble_eq_true rfl⟩) hown [] ⟨0, 9, 12, 15⟩ [] hex (List.forall_mem_nil _) (by decide) (by decide) (hts (.classLink RL 15 "java/lang/IllegalArgumentException") (by decide +kernel)) (va_any rfl (hE.2.2.1 (.castable "java/lang/IllegalArgumentException" "java/lang/IllegalArgumentException") (by decide +kernel))) (fun qx H1 hz1 hk1 => ?_)
  have hP : va_P (dC, dI) vwCl [(h0, .inr (4, [.ref qs, .ref qr, .ref qm, .ref qw, .ref qt, .int (zi we)])), (qo, aL cL 1 of)] H1 := zk_world hP hk1
  have hS : va_S A s.heap H1 [] := zk_S hz1 hk1
  refine lv_astore_n (lv' := [(3, .ref qx), (0, .ref h0), (1, .int (zi se)), (2, .ref qo)]) hx hb dL_weekend_12 rfl hl (by decide) rfl (fun ls hl => ?_)
  refine zw_iconst hx hb dL_weekend_13 ?_
  have hP9 := hP.sub (ws' := [(h0, .inr (4, [.ref qs, .ref qr, .ref qm, .ref qw, .ref qt, .int (zi we)])), (qo, aL cL 1 of)]) [0, 1] rfl
  have hD9 := hD.sub (ws' := [(h0, .inr (4, [.ref qs, .ref qr, .ref qm, .ref qw, .ref qt, .int (zi we)])), (qo, aL cL 1 of)]) [0, 1] (by decide) rfl
  exact W.iret (v := zi 1) hx hb hr (fun t ht hW => ⟨⟨zi 1, (), rfl, rfl, by rw [ht]; exact hP9, va_K.moved hW.alike hK, hD9⟩, hS.F ht⟩) hS.2.2 dL_weekend_14

set_option maxHeartbeats 4000000 in
set_option maxRecDepth 100000 in
theorem c_L_weekend (l : Launch)  (dC : Nat → ClassId) (dI : Nat → Nat → Nat) (cI : ClassId) (cL : ClassId) (h0 : Nat) (qs : Nat) (qr : Nat) (qm : Nat) (qw : Nat) (qt : Nat) (we : Int) (qo : Nat) (of : Nat → Int) (se : Int) (sz : Nat) (hp0 : 0 ≤ se ∧ se ≤ 126) (hp1 : 0 ≤ we ∧ we ≤ 126) : Met l yL_weekend wsL_weekend ({ frames := 1, cells := 0, slots := 0, locals := 22 }) (zPw (dC, dI) [(cI, .int), (cL, .long)] sz [.ref h0, .int (zi se), .ref qo] [(h0, .inr (4, [.ref qs, .ref qr, .ref qm, .ref qw, .ref qt, .int (zi we)])), (qo, aL cL 1 of)]) (va_Qi (fun (r : Int32) (_ : Unit) => r = zi 0) (zB (dC, dI) [(cI, .int), (cL, .long)] (va_A [(h0, .inr (4, [.ref qs, .ref qr, .ref qm, .ref qw, .ref qt, .int (zi we)])), (qo, aL cL 1 of)] sz) [(h0, .inr (4, [.ref qs, .ref qr, .ref qm, .ref qw, .ref qt, .int (zi se)])), (qo, aL cL 1 (zup of (Int.toNat 0) we))]) (va_A [(h0, .inr (4, [.ref qs, .ref qr, .ref qm, .ref qw, .ref qt, .int (zi we)])), (qo, aL cL 1 of)] sz)) 0 0 (va_A [(h0, .inr (4, [.ref qs, .ref qr, .ref qm, .ref qw, .ref qt, .int (zi we)])), (qo, aL cL 1 of)] sz) := by
  refine va_MetW (hh := [(0, 9, 12, 15)]) (cc := cL_weekend) (maxL := 4) (ret := (some .int)) (by decide) rfl ?_
  intro p e s m args below meth c s₁ B hml hv
  obtain ⟨rfl, hsz, hP, hK, hD0⟩ := hv
  have hx := B.exec
  have hb := B.bytes
  have hr := B.returns
  have hts := atoms_spec (ws := wsL_weekend) B.pre
  have hown : s.vm.findClass RL = some m.cls := findClass_of_methodNamed B.named
  have hlocks := B.notSynchronized
  subst hsz
  have hD := hD0.self (sz := s.heap.size)
  generalize hAe : va_A [(h0, .inr (4, [.ref qs, .ref qr, .ref qm, .ref qw, .ref qt, .int (zi we)])), (qo, aL cL 1 of)] s.heap.size = A at hD ⊢
  have hA : ∀ q : Nat, s.heap.size ≤ q → A q := fun q h => by rw [← hAe]; exact Or.inr h
  have hS : va_S A s.heap s.heap [] := va_S.rf
  have hP : va_P (dC, dI) vwCl [(h0, .inr (4, [.ref qs, .ref qr, .ref qm, .ref qw, .ref qt, .int (zi we)])), (qo, aL cL 1 of)] s.heap := hP
  have hl := lv_entry ([.ref h0, .int (zi se), .ref qo]) (n := 4) (Nat.le_of_ble_eq_true rfl)
  rw [lg_entry_eq]
  generalize (lg_sl ([.ref h0, .int (zi se), .ref qo]) ++ List.replicate (4 - (lg_sl ([.ref h0, .int (zi se), .ref qo])).length) Slot.unset).toArray = ls at hl ⊢
  have hl : lv_has ls 4 [(0, .ref h0), (1, .int (zi se)), (2, .ref qo)] := hl
  refine lv_aload_n hx hb dL_weekend_0 rfl (lv_at hl 2 rfl) ?_
  refine zw_iconst hx hb dL_weekend_1 ?_
  refine lv_aload_n hx hb dL_weekend_2 rfl (lv_at hl 0 rfl) ?_
  refine lv_iload_n hx hb dL_weekend_3 rfl (lv_at hl 1 rfl) ?_
  have hh1 := c_X4_weekend l dC dI cI h0 qs qr qm qw qt we se s.heap.size (by omega)
  have hPc := hP.sub (ws' := [(h0, .inr (4, [.ref qs, .ref qr, .ref qm, .ref qw, .ref qt, .int (zi we)]))]) [0] rfl
  have hKc : va_K (dC, dI) vwCl [(cI, .int)] s := hK.sub (tys' := [(cI, .int)]) [0] rfl
  have hDc := hD.sub (ws' := [(h0, .inr (4, [.ref qs, .ref qr, .ref qm, .ref qw, .ref qt, .int (zi we)]))]) [0] (by decide) rfl
  have hFc := va_free (wc := [(h0, .inr (4, [.ref qs, .ref qr, .ref qm, .ref qw, .ref qt, .int (zi we)]))]) hD hS hA [0] rfl
  refine va_calli (va_runV (As := [.int (zi se)]) (rest := [.int (zi 0), .ref qo]) ⟨hx, hb, hml, hown, hts⟩ hh1 (cwV 1 hts gL_weekend_X4_weekend rfl rfl rfl (by decide +kernel) ⟨Nat.le_of_ble_eq_true rfl, Nat.le_of_ble_eq_true rfl⟩) ⟨zPw.blind _ _ _ _ _, va_recv hKc hPc (ci := 4) (q0 := 0) rfl rfl, fun U hU hW => ⟨rfl, by rw [hU], by rw [hU]; exact hPc, va_K.moved hW.alike hKc, hDc.weaken (fun _ _ _ _ => trivial)⟩⟩ rfl rfl hl.1 rfl (lv_room (Nat.le_of_ble_eq_true rfl)) dL_weekend_4 ⟨Nat.le_of_ble_eq_true rfl, Nat.le_of_ble_eq_true rfl⟩) hS (fun q _ h => hFc q h) hFc (fun r1 u t H1 locs ht hvm hw hB hz1 hk1 hS => ?_)
  obtain ⟨hP1, hK1, hD1⟩ := hB
  rw [ht] at hP1
  obtain ⟨hP, hD⟩ := va_join (wr := [(qo, aL cL 1 of)]) (w1 := [(h0, .inr (4, [.ref qs, .ref qr, .ref qm, .ref qw, .ref qt, .int (zi se)]))]) hP hD [0] [1] rfl rfl (by decide) (by decide) hk1 hFc hP1 hD1
  generalize H1 = H at hP hS ⊢
  obtain rfl : r1 = zi we := hw
  have hP : va_P (dC, dI) vwCl [(qo, aL cL 1 of), (h0, .inr (4, [.ref qs, .ref qr, .ref qm, .ref qw, .ref qt, .int (zi se)]))] H := hP
  have hD : va_D A [(qo, aL cL 1 of), (h0, .inr (4, [.ref qs, .ref qr, .ref qm, .ref qw, .ref qt, .int (zi se)]))] := hD
  refine zw_i2l hx hb dL_weekend_7 ⟨by omega, by omega⟩ ?_
  refine zw_last hx hb hK hP hD hS 0 1 rfl rfl (by omega) (by omega) ⟨by omega, by omega⟩ dL_weekend_8 (fun H locs hP hD hS => ?_)
  have hP : va_P (dC, dI) vwCl [(qo, aL cL 1 (zup of (Int.toNat 0) we)), (h0, .inr (4, [.ref qs, .ref qr, .ref qm, .ref qw, .ref qt, .int (zi se)]))] H := hP
  have hD : va_D A [(qo, aL cL 1 (zup of (Int.toNat 0) we)), (h0, .inr (4, [.ref qs, .ref qr, .ref qm, .ref qw, .ref qt, .int (zi se)]))] := hD
  refine lv_goto (tgt := 15) hx hb dL_weekend_9 (by decide) ?_
  refine zw_iconst hx hb dL_weekend_15 ?_
  have hP9 := hP.sub (ws' := [(h0, .inr (4, [.ref qs, .ref qr, .ref qm, .ref qw, .ref qt, .int (zi se)])), (qo, aL cL 1 (zup of (Int.toNat 0) we))]) [1, 0] rfl
  have hD9 := hD.sub (ws' := [(h0, .inr (4, [.ref qs, .ref qr, .ref qm, .ref qw, .ref qt, .int (zi se)])), (qo, aL cL 1 (zup of (Int.toNat 0) we))]) [1, 0] (by decide) rfl
  exact W.iret (v := zi 0) hx hb hr (fun t ht hW => ⟨⟨zi 0, (), rfl, rfl, by rw [ht]; exact hP9, va_K.moved hW.alike hK, hD9⟩, hS.F ht⟩) hS.2.2 dL_weekend_16

set_option maxHeartbeats 4000000 in
set_option maxRecDepth 100000 in
theorem c_L_charAt_1 (l : Launch) (hst : l.stackTraces = false) (dC : Nat → ClassId) (dI : Nat → Nat → Nat) (cI : ClassId) (cL : ClassId) (h0 : Nat) (qs : Nat) (qr : Nat) (qm : Nat) (qw : Nat) (qt : Nat) (we : Int) (wc : Nat) (wl : Int) (wf : Nat → Int) (qo : Nat) (of : Nat → Int) (ix : Int) (sz : Nat) (hp0 : -2147483648 ≤ ix ∧ ix ≤ 2147483647) (hp1 : 0 ≤ wl ∧ wl ≤ 20) (hp2 : ix < 0 ∨ wl ≤ ix) : Met l yL_charAt wsL_charAt ({ frames := 7, cells := 1, slots := 6, locals := 111 }) (zPx (dC, dI) [(cI, .int), (cL, .long)] sz [.ref h0, .int (zi ix), .ref qo] [(h0, .inr (4, [.ref qs, .ref qr, .ref qm, .ref qw, .ref qt, .int (zi we)])), (qw, .inr (1, [.ref wc, .int (zi wl)])), (wc, aI cI 20 wf), (qo, aL cL 1 of)]) (va_Qi (fun (r : Int32) (_ : Unit) => r = zi 1) (zB (dC, dI) [(cI, .int), (cL, .long)] (va_A [(h0, .inr (4, [.ref qs, .ref qr, .ref qm, .ref qw, .ref qt, .int (zi we)])), (qw, .inr (1, [.ref wc, .int (zi wl)])), (wc, aI cI 20 wf), (qo, aL cL 1 of)] sz) [(h0, .inr (4, [.ref qs, .ref qr, .ref qm, .ref qw, .ref qt, .int (zi we)])), (qw, .inr (1, [.ref wc, .int (zi wl)])), (wc, aI cI 20 wf), (qo, aL cL 1 of)]) (va_A [(h0, .inr (4, [.ref qs, .ref qr, .ref qm, .ref qw, .ref qt, .int (zi we)])), (qw, .inr (1, [.ref wc, .int (zi wl)])), (wc, aI cI 20 wf), (qo, aL cL 1 of)] sz)) 1 6 (va_A [(h0, .inr (4, [.ref qs, .ref qr, .ref qm, .ref qw, .ref qt, .int (zi we)])), (qw, .inr (1, [.ref wc, .int (zi wl)])), (wc, aI cI 20 wf), (qo, aL cL 1 of)] sz) := by
  refine va_MetW (hh := [(0, 9, 12, 13)]) (cc := cL_charAt) (maxL := 4) (ret := (some .int)) (by decide) rfl ?_
  intro p e s m args below meth c s₁ B hml hv
  obtain ⟨rfl, hsz, hE, hP, hK, hD0⟩ := hv
  have hx := B.exec
  have hb := B.bytes
  have hr := B.returns
  have hts := atoms_spec (ws := wsL_charAt) B.pre
  have hown : s.vm.findClass RL = some m.cls := findClass_of_methodNamed B.named
  have hlocks := B.notSynchronized
  have hex : c.exceptionTable.toList = [⟨0, 9, 12, 13⟩] := vx_table (x := yL_charAt) B (hts _ List.mem_cons_self)
  subst hsz
  have hD := hD0.self (sz := s.heap.size)
  generalize hAe : va_A [(h0, .inr (4, [.ref qs, .ref qr, .ref qm, .ref qw, .ref qt, .int (zi we)])), (qw, .inr (1, [.ref wc, .int (zi wl)])), (wc, aI cI 20 wf), (qo, aL cL 1 of)] s.heap.size = A at hD ⊢
  have hA : ∀ q : Nat, s.heap.size ≤ q → A q := fun q h => by rw [← hAe]; exact Or.inr h
  have hS : va_S A s.heap s.heap [] := va_S.rf
  have hP : va_P (dC, dI) vwCl [(h0, .inr (4, [.ref qs, .ref qr, .ref qm, .ref qw, .ref qt, .int (zi we)])), (qw, .inr (1, [.ref wc, .int (zi wl)])), (wc, aI cI 20 wf), (qo, aL cL 1 of)] s.heap := hP
  have hl := lv_entry ([.ref h0, .int (zi ix), .ref qo]) (n := 4) (Nat.le_of_ble_eq_true rfl)
  rw [lg_entry_eq]
  generalize (lg_sl ([.ref h0, .int (zi ix), .ref qo]) ++ List.replicate (4 - (lg_sl ([.ref h0, .int (zi ix), .ref qo])).length) Slot.unset).toArray = ls at hl ⊢
  have hl : lv_has ls 4 [(0, .ref h0), (1, .int (zi ix)), (2, .ref qo)] := hl
  refine lv_aload_n hx hb dL_charAt_0 rfl (lv_at hl 2 rfl) ?_
  refine zw_iconst hx hb dL_charAt_1 ?_
  refine lv_aload_n hx hb dL_charAt_2 rfl (lv_at hl 0 rfl) ?_
  refine lv_iload_n hx hb dL_charAt_3 rfl (lv_at hl 1 rfl) ?_
  have hh1 := t_X4_charAt l hst dC dI cI h0 qs qr qm qw qt we wc wl wf ix (by omega) (by omega) (by omega)
  have hPc := hP.sub (ws' := [(h0, .inr (4, [.ref qs, .ref qr, .ref qm, .ref qw, .ref qt, .int (zi we)])), (qw, .inr (1, [.ref wc, .int (zi wl)])), (wc, aI cI 20 wf)]) [0, 1, 2] rfl
  have hKc : va_K (dC, dI) vwCl [(cI, .int)] s := hK.sub (tys' := [(cI, .int)]) [0] rfl
  refine zt_catch (own := RL) (name := "java/lang/IndexOutOfBoundsException") (vx_runV (As := [.int (zi ix)]) (rest := [.int (zi 0), .ref qo]) ⟨hx, hb, hml, hown, hts⟩ hh1 (cwV 1 hts gL_charAt_X4_charAt rfl rfl rfl (by decide +kernel) ⟨Nat.le_of_ble_eq_true rfl, Nat.le_of_ble_eq_true rfl⟩) ⟨zPt.blind _ _ _ _, va_recv hKc hPc (ci := 4) (q0 := 0) rfl rfl, fun U hU hW => ⟨rfl, hE.call va_S.rf (fun q h => by rw [hU] at h; exact h) hU hW, by rw [hU]; exact hPc, va_K.moved hW.alike hKc⟩⟩ rfl rfl hl.1 rfl (lv_room (Nat.le_of_ble_eq_true rfl)) dL_charAt_4 ⟨Nat.le_of_ble_eq_true rfl, Nat.le_of_ble_eq_true rfl⟩) hown [] ⟨0, 9, 12, 13⟩ [] hex (List.forall_mem_nil _) (by decide) (by decide) (hts (.classLink RL 13 "java/lang/IndexOutOfBoundsException") (by decide +kernel)) (va_any rfl (hE.2.2.1 (.castable "java/lang/IndexOutOfBoundsException" "java/lang/IndexOutOfBoundsException") (by decide +kernel))) (fun qx H1 hz1 hk1 => ?_)
  have hP : va_P (dC, dI) vwCl [(h0, .inr (4, [.ref qs, .ref qr, .ref qm, .ref qw, .ref qt, .int (zi we)])), (qw, .inr (1, [.ref wc, .int (zi wl)])), (wc, aI cI 20 wf), (qo, aL cL 1 of)] H1 := zk_world hP hk1
  have hS : va_S A s.heap H1 [] := zk_S hz1 hk1
  refine lv_astore_n (lv' := [(3, .ref qx), (0, .ref h0), (1, .int (zi ix)), (2, .ref qo)]) hx hb dL_charAt_12 rfl hl (by decide) rfl (fun ls hl => ?_)
  refine zw_iconst hx hb dL_charAt_13 ?_
  have hP9 := hP.sub (ws' := [(h0, .inr (4, [.ref qs, .ref qr, .ref qm, .ref qw, .ref qt, .int (zi we)])), (qw, .inr (1, [.ref wc, .int (zi wl)])), (wc, aI cI 20 wf), (qo, aL cL 1 of)]) [0, 1, 2, 3] rfl
  have hD9 := hD.sub (ws' := [(h0, .inr (4, [.ref qs, .ref qr, .ref qm, .ref qw, .ref qt, .int (zi we)])), (qw, .inr (1, [.ref wc, .int (zi wl)])), (wc, aI cI 20 wf), (qo, aL cL 1 of)]) [0, 1, 2, 3] (by decide) rfl
  exact W.iret (v := zi 1) hx hb hr (fun t ht hW => ⟨⟨zi 1, (), rfl, rfl, by rw [ht]; exact hP9, va_K.moved hW.alike hK, hD9⟩, hS.F ht⟩) hS.2.2 dL_charAt_14

set_option maxHeartbeats 4000000 in
set_option maxRecDepth 100000 in
theorem c_L_charAt (l : Launch)  (dC : Nat → ClassId) (dI : Nat → Nat → Nat) (cI : ClassId) (cL : ClassId) (h0 : Nat) (qs : Nat) (qr : Nat) (qm : Nat) (qw : Nat) (qt : Nat) (we : Int) (wc : Nat) (wl : Int) (wf : Nat → Int) (qo : Nat) (of : Nat → Int) (ix : Int) (sz : Nat) (hp0 : 0 ≤ ix ∧ ix < wl ∧ wl ≤ 20) (hp1 : 0 ≤ wf ix.toNat ∧ wf ix.toNat ≤ 255) : Met l yL_charAt wsL_charAt ({ frames := 2, cells := 0, slots := 0, locals := 42 }) (zPw (dC, dI) [(cI, .int), (cL, .long)] sz [.ref h0, .int (zi ix), .ref qo] [(h0, .inr (4, [.ref qs, .ref qr, .ref qm, .ref qw, .ref qt, .int (zi we)])), (qw, .inr (1, [.ref wc, .int (zi wl)])), (wc, aI cI 20 wf), (qo, aL cL 1 of)]) (va_Qi (fun (r : Int32) (_ : Unit) => r = zi 0) (zB (dC, dI) [(cI, .int), (cL, .long)] (va_A [(h0, .inr (4, [.ref qs, .ref qr, .ref qm, .ref qw, .ref qt, .int (zi we)])), (qw, .inr (1, [.ref wc, .int (zi wl)])), (wc, aI cI 20 wf), (qo, aL cL 1 of)] sz) [(h0, .inr (4, [.ref qs, .ref qr, .ref qm, .ref qw, .ref qt, .int (zi we)])), (qw, .inr (1, [.ref wc, .int (zi wl)])), (wc, aI cI 20 wf), (qo, aL cL 1 (zup of (Int.toNat 0) (wf ix.toNat)))]) (va_A [(h0, .inr (4, [.ref qs, .ref qr, .ref qm, .ref qw, .ref qt, .int (zi we)])), (qw, .inr (1, [.ref wc, .int (zi wl)])), (wc, aI cI 20 wf), (qo, aL cL 1 of)] sz)) 0 0 (va_A [(h0, .inr (4, [.ref qs, .ref qr, .ref qm, .ref qw, .ref qt, .int (zi we)])), (qw, .inr (1, [.ref wc, .int (zi wl)])), (wc, aI cI 20 wf), (qo, aL cL 1 of)] sz) := by
  refine va_MetW (hh := [(0, 9, 12, 13)]) (cc := cL_charAt) (maxL := 4) (ret := (some .int)) (by decide) rfl ?_
  intro p e s m args below meth c s₁ B hml hv
  obtain ⟨rfl, hsz, hP, hK, hD0⟩ := hv
  have hx := B.exec
  have hb := B.bytes
  have hr := B.returns
  have hts := atoms_spec (ws := wsL_charAt) B.pre
  have hown : s.vm.findClass RL = some m.cls := findClass_of_methodNamed B.named
  have hlocks := B.notSynchronized
  subst hsz
  have hD := hD0.self (sz := s.heap.size)
  generalize hAe : va_A [(h0, .inr (4, [.ref qs, .ref qr, .ref qm, .ref qw, .ref qt, .int (zi we)])), (qw, .inr (1, [.ref wc, .int (zi wl)])), (wc, aI cI 20 wf), (qo, aL cL 1 of)] s.heap.size = A at hD ⊢
  have hA : ∀ q : Nat, s.heap.size ≤ q → A q := fun q h => by rw [← hAe]; exact Or.inr h
  have hS : va_S A s.heap s.heap [] := va_S.rf
  have hP : va_P (dC, dI) vwCl [(h0, .inr (4, [.ref qs, .ref qr, .ref qm, .ref qw, .ref qt, .int (zi we)])), (qw, .inr (1, [.ref wc, .int (zi wl)])), (wc, aI cI 20 wf), (qo, aL cL 1 of)] s.heap := hP
  have hl := lv_entry ([.ref h0, .int (zi ix), .ref qo]) (n := 4) (Nat.le_of_ble_eq_true rfl)
  rw [lg_entry_eq]
  generalize (lg_sl ([.ref h0, .int (zi ix), .ref qo]) ++ List.replicate (4 - (lg_sl ([.ref h0, .int (zi ix), .ref qo])).length) Slot.unset).toArray = ls at hl ⊢
  have hl : lv_has ls 4 [(0, .ref h0), (1, .int (zi ix)), (2, .ref qo)] := hl
  refine lv_aload_n hx hb dL_charAt_0 rfl (lv_at hl 2 rfl) ?_
  refine zw_iconst hx hb dL_charAt_1 ?_
  refine lv_aload_n hx hb dL_charAt_2 rfl (lv_at hl 0 rfl) ?_
  refine lv_iload_n hx hb dL_charAt_3 rfl (lv_at hl 1 rfl) ?_
  have hh1 := c_X4_charAt l dC dI cI h0 qs qr qm qw qt we wc wl wf ix (by omega)
  have hPc := hP.sub (ws' := [(h0, .inr (4, [.ref qs, .ref qr, .ref qm, .ref qw, .ref qt, .int (zi we)])), (qw, .inr (1, [.ref wc, .int (zi wl)])), (wc, aI cI 20 wf)]) [0, 1, 2] rfl
  have hKc : va_K (dC, dI) vwCl [(cI, .int)] s := hK.sub (tys' := [(cI, .int)]) [0] rfl
  refine vp_callSi (va_Run.run (va_runV (As := [.int (zi ix)]) (rest := [.int (zi 0), .ref qo]) ⟨hx, hb, hml, hown, hts⟩ hh1 (cwV 1 hts gL_charAt_X4_charAt rfl rfl rfl (by decide +kernel) ⟨Nat.le_of_ble_eq_true rfl, Nat.le_of_ble_eq_true rfl⟩) ⟨zPr.blind _ _ _ _, va_recv hKc hPc (ci := 4) (q0 := 0) rfl rfl, fun U hU hW => ⟨rfl, by rw [hU]; exact hPc, va_K.moved hW.alike hKc⟩⟩ rfl rfl hl.1 rfl (lv_room (Nat.le_of_ble_eq_true rfl)) dL_charAt_4 ⟨Nat.le_of_ble_eq_true rfl, Nat.le_of_ble_eq_true rfl⟩)) (fun r1 (hr1 : r1 = zi (wf ix.toNat)) => ?_)
  subst hr1
  refine zw_i2l hx hb dL_charAt_7 ⟨by omega, by omega⟩ ?_
  refine zw_last hx hb hK hP hD hS 3 1 rfl rfl (by omega) (by omega) ⟨by omega, by omega⟩ dL_charAt_8 (fun H locs hP hD hS => ?_)
  have hP : va_P (dC, dI) vwCl [(h0, .inr (4, [.ref qs, .ref qr, .ref qm, .ref qw, .ref qt, .int (zi we)])), (qw, .inr (1, [.ref wc, .int (zi wl)])), (wc, aI cI 20 wf), (qo, aL cL 1 (zup of (Int.toNat 0) (wf ix.toNat)))] H := hP
  have hD : va_D A [(h0, .inr (4, [.ref qs, .ref qr, .ref qm, .ref qw, .ref qt, .int (zi we)])), (qw, .inr (1, [.ref wc, .int (zi wl)])), (wc, aI cI 20 wf), (qo, aL cL 1 (zup of (Int.toNat 0) (wf ix.toNat)))] := hD
  refine lv_goto (tgt := 15) hx hb dL_charAt_9 (by decide) ?_
  refine zw_iconst hx hb dL_charAt_15 ?_
  have hP9 := hP.sub (ws' := [(h0, .inr (4, [.ref qs, .ref qr, .ref qm, .ref qw, .ref qt, .int (zi we)])), (qw, .inr (1, [.ref wc, .int (zi wl)])), (wc, aI cI 20 wf), (qo, aL cL 1 (zup of (Int.toNat 0) (wf ix.toNat)))]) [0, 1, 2, 3] rfl
  have hD9 := hD.sub (ws' := [(h0, .inr (4, [.ref qs, .ref qr, .ref qm, .ref qw, .ref qt, .int (zi we)])), (qw, .inr (1, [.ref wc, .int (zi wl)])), (wc, aI cI 20 wf), (qo, aL cL 1 (zup of (Int.toNat 0) (wf ix.toNat)))]) [0, 1, 2, 3] (by decide) rfl
  exact W.iret (v := zi 0) hx hb hr (fun t ht hW => ⟨⟨zi 0, (), rfl, rfl, by rw [ht]; exact hP9, va_K.moved hW.alike hK, hD9⟩, hS.F ht⟩) hS.2.2 dL_charAt_16

set_option maxHeartbeats 4000000 in
set_option maxRecDepth 100000 in
theorem c_L_type_1 (l : Launch) (hst : l.stackTraces = false) (dC : Nat → ClassId) (dI : Nat → Nat → Nat) (cI : ClassId) (cL : ClassId) (h0 : Nat) (qs : Nat) (qr : Nat) (qm : Nat) (qw : Nat) (qt : Nat) (we : Int) (tc : Nat) (tl : Int) (tf : Nat → Int) (qo : Nat) (of : Nat → Int) (ch : Int) (sz : Nat) (hp0 : -2147483648 ≤ ch ∧ ch ≤ 2147483647) (hp1 : ch < 32 ∨ 126 < ch) : Met l yL_type wsL_type ({ frames := 7, cells := 1, slots := 6, locals := 111 }) (zPx (dC, dI) [(cI, .int), (cL, .long)] sz [.ref h0, .int (zi ch), .ref qo] [(h0, .inr (4, [.ref qs, .ref qr, .ref qm, .ref qw, .ref qt, .int (zi we)])), (qt, .inr (1, [.ref tc, .int (zi tl)])), (tc, aI cI 20 tf), (qo, aL cL 1 of)]) (va_Qi (fun (r : Int32) (_ : Unit) => r = zi 1) (zB (dC, dI) [(cI, .int), (cL, .long)] (va_A [(h0, .inr (4, [.ref qs, .ref qr, .ref qm, .ref qw, .ref qt, .int (zi we)])), (qt, .inr (1, [.ref tc, .int (zi tl)])), (tc, aI cI 20 tf), (qo, aL cL 1 of)] sz) [(h0, .inr (4, [.ref qs, .ref qr, .ref qm, .ref qw, .ref qt, .int (zi we)])), (qt, .inr (1, [.ref tc, .int (zi tl)])), (tc, aI cI 20 tf), (qo, aL cL 1 of)]) (va_A [(h0, .inr (4, [.ref qs, .ref qr, .ref qm, .ref qw, .ref qt, .int (zi we)])), (qt, .inr (1, [.ref tc, .int (zi tl)])), (tc, aI cI 20 tf), (qo, aL cL 1 of)] sz)) 1 6 (va_A [(h0, .inr (4, [.ref qs, .ref qr, .ref qm, .ref qw, .ref qt, .int (zi we)])), (qt, .inr (1, [.ref tc, .int (zi tl)])), (tc, aI cI 20 tf), (qo, aL cL 1 of)] sz) := by
  refine va_MetW (hh := [(0, 9, 12, 15), (0, 9, 15, 37)]) (cc := cL_type) (maxL := 4) (ret := (some .int)) (by decide) rfl ?_
  intro p e s m args below meth c s₁ B hml hv
  obtain ⟨rfl, hsz, hE, hP, hK, hD0⟩ := hv
  have hx := B.exec
  have hb := B.bytes
  have hr := B.returns
  have hts := atoms_spec (ws := wsL_type) B.pre
  have hown : s.vm.findClass RL = some m.cls := findClass_of_methodNamed B.named
  have hlocks := B.notSynchronized
  have hex : c.exceptionTable.toList = [⟨0, 9, 12, 15⟩, ⟨0, 9, 15, 37⟩] := vx_table (x := yL_type) B (hts _ List.mem_cons_self)
  subst hsz
  have hD := hD0.self (sz := s.heap.size)
  generalize hAe : va_A [(h0, .inr (4, [.ref qs, .ref qr, .ref qm, .ref qw, .ref qt, .int (zi we)])), (qt, .inr (1, [.ref tc, .int (zi tl)])), (tc, aI cI 20 tf), (qo, aL cL 1 of)] s.heap.size = A at hD ⊢
  have hA : ∀ q : Nat, s.heap.size ≤ q → A q := fun q h => by rw [← hAe]; exact Or.inr h
  have hS : va_S A s.heap s.heap [] := va_S.rf
  have hP : va_P (dC, dI) vwCl [(h0, .inr (4, [.ref qs, .ref qr, .ref qm, .ref qw, .ref qt, .int (zi we)])), (qt, .inr (1, [.ref tc, .int (zi tl)])), (tc, aI cI 20 tf), (qo, aL cL 1 of)] s.heap := hP
  have hl := lv_entry ([.ref h0, .int (zi ch), .ref qo]) (n := 4) (Nat.le_of_ble_eq_true rfl)
  rw [lg_entry_eq]
  generalize (lg_sl ([.ref h0, .int (zi ch), .ref qo]) ++ List.replicate (4 - (lg_sl ([.ref h0, .int (zi ch), .ref qo])).length) Slot.unset).toArray = ls at hl ⊢
  have hl : lv_has ls 4 [(0, .ref h0), (1, .int (zi ch)), (2, .ref qo)] := hl
  refine lv_aload_n hx hb dL_type_0 rfl (lv_at hl 2 rfl) ?_
  refine zw_iconst hx hb dL_type_1 ?_
  refine lv_aload_n hx hb dL_type_2 rfl (lv_at hl 0 rfl) ?_
  refine lv_iload_n hx hb dL_type_3 rfl (lv_at hl 1 rfl) ?_
  have hh1 := t_X4_type_1 l hst h0 ch (by omega) (by omega)
  refine zt_catch (own := RL) (name := "java/lang/IllegalArgumentException") (vx_runV (As := [.int (zi ch)]) (rest := [.int (zi 0), .ref qo]) ⟨hx, hb, hml, hown, hts⟩ hh1 (cwV 1 hts gL_type_X4_type rfl rfl rfl (by decide +kernel) ⟨Nat.le_of_ble_eq_true rfl, Nat.le_of_ble_eq_true rfl⟩) ⟨zP.blind _, va_recv hK hP (ci := 4) (q0 := 0) rfl rfl, fun U hU hW => ⟨rfl, hE.call va_S.rf (fun q h => by rw [hU] at h; exact h) hU hW⟩⟩ rfl rfl hl.1 rfl (lv_room (Nat.le_of_ble_eq_true rfl)) dL_type_4 ⟨Nat.le_of_ble_eq_true rfl, Nat.le_of_ble_eq_true rfl⟩) hown [] ⟨0, 9, 12, 15⟩ [⟨0, 9, 15, 37⟩] hex (List.forall_mem_nil _) (by decide) (by decide) (hts (.classLink RL 15 "java/lang/IllegalArgumentException") (by decide +kernel)) (va_any rfl (hE.2.2.1 (.castable "java/lang/IllegalArgumentException" "java/lang/IllegalArgumentException") (by decide +kernel))) (fun qx H1 hz1 hk1 => ?_)
  have hP : va_P (dC, dI) vwCl [(h0, .inr (4, [.ref qs, .ref qr, .ref qm, .ref qw, .ref qt, .int (zi we)])), (qt, .inr (1, [.ref tc, .int (zi tl)])), (tc, aI cI 20 tf), (qo, aL cL 1 of)] H1 := zk_world hP hk1
  have hS : va_S A s.heap H1 [] := zk_S hz1 hk1
  refine lv_astore_n (lv' := [(3, .ref qx), (0, .ref h0), (1, .int (zi ch)), (2, .ref qo)]) hx hb dL_type_12 rfl hl (by decide) rfl (fun ls hl => ?_)
  refine zw_iconst hx hb dL_type_13 ?_
  have hP9 := hP.sub (ws' := [(h0, .inr (4, [.ref qs, .ref qr, .ref qm, .ref qw, .ref qt, .int (zi we)])), (qt, .inr (1, [.ref tc, .int (zi tl)])), (tc, aI cI 20 tf), (qo, aL cL 1 of)]) [0, 1, 2, 3] rfl
  have hD9 := hD.sub (ws' := [(h0, .inr (4, [.ref qs, .ref qr, .ref qm, .ref qw, .ref qt, .int (zi we)])), (qt, .inr (1, [.ref tc, .int (zi tl)])), (tc, aI cI 20 tf), (qo, aL cL 1 of)]) [0, 1, 2, 3] (by decide) rfl
  exact W.iret (v := zi 1) hx hb hr (fun t ht hW => ⟨⟨zi 1, (), rfl, rfl, by rw [ht]; exact hP9, va_K.moved hW.alike hK, hD9⟩, hS.F ht⟩) hS.2.2 dL_type_14

set_option maxHeartbeats 4000000 in
set_option maxRecDepth 100000 in
theorem c_L_type_2 (l : Launch) (hst : l.stackTraces = false) (dC : Nat → ClassId) (dI : Nat → Nat → Nat) (cI : ClassId) (cL : ClassId) (h0 : Nat) (qs : Nat) (qr : Nat) (qm : Nat) (qw : Nat) (qt : Nat) (we : Int) (tc : Nat) (tl : Int) (tf : Nat → Int) (qo : Nat) (of : Nat → Int) (ch : Int) (sz : Nat) (hp0 : 32 ≤ ch ∧ ch ≤ 126) (hp1 : tl = 20) : Met l yL_type wsL_type ({ frames := 7, cells := 1, slots := 6, locals := 111 }) (zPx (dC, dI) [(cI, .int), (cL, .long)] sz [.ref h0, .int (zi ch), .ref qo] [(h0, .inr (4, [.ref qs, .ref qr, .ref qm, .ref qw, .ref qt, .int (zi we)])), (qt, .inr (1, [.ref tc, .int (zi tl)])), (tc, aI cI 20 tf), (qo, aL cL 1 of)]) (va_Qi (fun (r : Int32) (_ : Unit) => r = zi 2) (zB (dC, dI) [(cI, .int), (cL, .long)] (va_A [(h0, .inr (4, [.ref qs, .ref qr, .ref qm, .ref qw, .ref qt, .int (zi we)])), (qt, .inr (1, [.ref tc, .int (zi tl)])), (tc, aI cI 20 tf), (qo, aL cL 1 of)] sz) [(h0, .inr (4, [.ref qs, .ref qr, .ref qm, .ref qw, .ref qt, .int (zi we)])), (qt, .inr (1, [.ref tc, .int (zi tl)])), (tc, aI cI 20 tf), (qo, aL cL 1 of)]) (va_A [(h0, .inr (4, [.ref qs, .ref qr, .ref qm, .ref qw, .ref qt, .int (zi we)])), (qt, .inr (1, [.ref tc, .int (zi tl)])), (tc, aI cI 20 tf), (qo, aL cL 1 of)] sz)) 1 6 (va_A [(h0, .inr (4, [.ref qs, .ref qr, .ref qm, .ref qw, .ref qt, .int (zi we)])), (qt, .inr (1, [.ref tc, .int (zi tl)])), (tc, aI cI 20 tf), (qo, aL cL 1 of)] sz) := by
  refine va_MetW (hh := [(0, 9, 12, 15), (0, 9, 15, 37)]) (cc := cL_type) (maxL := 4) (ret := (some .int)) (by decide) rfl ?_
  intro p e s m args below meth c s₁ B hml hv
  obtain ⟨rfl, hsz, hE, hP, hK, hD0⟩ := hv
  have hx := B.exec
  have hb := B.bytes
  have hr := B.returns
  have hts := atoms_spec (ws := wsL_type) B.pre
  have hown : s.vm.findClass RL = some m.cls := findClass_of_methodNamed B.named
  have hlocks := B.notSynchronized
  have hex : c.exceptionTable.toList = [⟨0, 9, 12, 15⟩, ⟨0, 9, 15, 37⟩] := vx_table (x := yL_type) B (hts _ List.mem_cons_self)
  subst hsz
  have hD := hD0.self (sz := s.heap.size)
  generalize hAe : va_A [(h0, .inr (4, [.ref qs, .ref qr, .ref qm, .ref qw, .ref qt, .int (zi we)])), (qt, .inr (1, [.ref tc, .int (zi tl)])), (tc, aI cI 20 tf), (qo, aL cL 1 of)] s.heap.size = A at hD ⊢
  have hA : ∀ q : Nat, s.heap.size ≤ q → A q := fun q h => by rw [← hAe]; exact Or.inr h
  have hS : va_S A s.heap s.heap [] := va_S.rf
  have hP : va_P (dC, dI) vwCl [(h0, .inr (4, [.ref qs, .ref qr, .ref qm, .ref qw, .ref qt, .int (zi we)])), (qt, .inr (1, [.ref tc, .int (zi tl)])), (tc, aI cI 20 tf), (qo, aL cL 1 of)] s.heap := hP
  have hl := lv_entry ([.ref h0, .int (zi ch), .ref qo]) (n := 4) (Nat.le_of_ble_eq_true rfl)
  rw [lg_entry_eq]
  generalize (lg_sl ([.ref h0, .int (zi ch), .ref qo]) ++ List.replicate (4 - (lg_sl ([.ref h0, .int (zi ch), .ref qo])).length) Slot.unset).toArray = ls at hl ⊢
  have hl : lv_has ls 4 [(0, .ref h0), (1, .int (zi ch)), (2, .ref qo)] := hl
  refine lv_aload_n hx hb dL_type_0 rfl (lv_at hl 2 rfl) ?_
  refine zw_iconst hx hb dL_type_1 ?_
  refine lv_aload_n hx hb dL_type_2 rfl (lv_at hl 0 rfl) ?_
  refine lv_iload_n hx hb dL_type_3 rfl (lv_at hl 1 rfl) ?_
  have hh1 := t_X4_type_2 l hst dC dI cI h0 qs qr qm qw qt we tc tl tf ch (by omega) (by omega)
  have hPc := hP.sub (ws' := [(h0, .inr (4, [.ref qs, .ref qr, .ref qm, .ref qw, .ref qt, .int (zi we)])), (qt, .inr (1, [.ref tc, .int (zi tl)])), (tc, aI cI 20 tf)]) [0, 1, 2] rfl
  have hKc : va_K (dC, dI) vwCl [(cI, .int)] s := hK.sub (tys' := [(cI, .int)]) [0] rfl
  refine zt_catch (own := RL) (name := "java/lang/UnsupportedOperationException") (vx_runV (As := [.int (zi ch)]) (rest := [.int (zi 0), .ref qo]) ⟨hx, hb, hml, hown, hts⟩ hh1 (cwV 1 hts gL_type_X4_type rfl rfl rfl (by decide +kernel) ⟨Nat.le_of_ble_eq_true rfl, Nat.le_of_ble_eq_true rfl⟩) ⟨zPt.blind _ _ _ _, va_recv hKc hPc (ci := 4) (q0 := 0) rfl rfl, fun U hU hW => ⟨rfl, hE.call va_S.rf (fun q h => by rw [hU] at h; exact h) hU hW, by rw [hU]; exact hPc, va_K.moved hW.alike hKc⟩⟩ rfl rfl hl.1 rfl (lv_room (Nat.le_of_ble_eq_true rfl)) dL_type_4 ⟨Nat.le_of_ble_eq_true rfl, Nat.le_of_ble_eq_true rfl⟩) hown [⟨0, 9, 12, 15⟩] ⟨0, 9, 15, 37⟩ [] hex (List.forall_mem_cons.mpr ⟨⟨by decide, by decide, "java/lang/IllegalArgumentException", (hts (.classLink RL 15 "java/lang/IllegalArgumentException") (by decide +kernel)), hE.2.2.2.2 ("java/lang/UnsupportedOperationException", "java/lang/IllegalArgumentException") (by decide)⟩, List.forall_mem_nil _⟩) (by decide) (by decide) (hts (.classLink RL 37 "java/lang/UnsupportedOperationException") (by decide +kernel)) (va_any rfl (hE.2.2.1 (.castable "java/lang/UnsupportedOperationException" "java/lang/UnsupportedOperationException") (by decide +kernel))) (fun qx H1 hz1 hk1 => ?_)
  have hP : va_P (dC, dI) vwCl [(h0, .inr (4, [.ref qs, .ref qr, .ref qm, .ref qw, .ref qt, .int (zi we)])), (qt, .inr (1, [.ref tc, .int (zi tl)])), (tc, aI cI 20 tf), (qo, aL cL 1 of)] H1 := zk_world hP hk1
  have hS : va_S A s.heap H1 [] := zk_S hz1 hk1
  refine lv_astore_n (lv' := [(3, .ref qx), (0, .ref h0), (1, .int (zi ch)), (2, .ref qo)]) hx hb dL_type_15 rfl hl (by decide) rfl (fun ls hl => ?_)
  refine zw_iconst hx hb dL_type_16 ?_
  have hP9 := hP.sub (ws' := [(h0, .inr (4, [.ref qs, .ref qr, .ref qm, .ref qw, .ref qt, .int (zi we)])), (qt, .inr (1, [.ref tc, .int (zi tl)])), (tc, aI cI 20 tf), (qo, aL cL 1 of)]) [0, 1, 2, 3] rfl
  have hD9 := hD.sub (ws' := [(h0, .inr (4, [.ref qs, .ref qr, .ref qm, .ref qw, .ref qt, .int (zi we)])), (qt, .inr (1, [.ref tc, .int (zi tl)])), (tc, aI cI 20 tf), (qo, aL cL 1 of)]) [0, 1, 2, 3] (by decide) rfl
  exact W.iret (v := zi 2) hx hb hr (fun t ht hW => ⟨⟨zi 2, (), rfl, rfl, by rw [ht]; exact hP9, va_K.moved hW.alike hK, hD9⟩, hS.F ht⟩) hS.2.2 dL_type_17

set_option maxHeartbeats 4000000 in
set_option maxRecDepth 100000 in
theorem c_L_type (l : Launch)  (dC : Nat → ClassId) (dI : Nat → Nat → Nat) (cI : ClassId) (cL : ClassId) (h0 : Nat) (qs : Nat) (qr : Nat) (qm : Nat) (qw : Nat) (qt : Nat) (we : Int) (tc : Nat) (tl : Int) (tf : Nat → Int) (qo : Nat) (of : Nat → Int) (ch : Int) (sz : Nat) (hp0 : 32 ≤ ch ∧ ch ≤ 126) (hp1 : 0 ≤ tl ∧ tl < 20) : Met l yL_type wsL_type ({ frames := 2, cells := 0, slots := 0, locals := 42 }) (zPw (dC, dI) [(cI, .int), (cL, .long)] sz [.ref h0, .int (zi ch), .ref qo] [(h0, .inr (4, [.ref qs, .ref qr, .ref qm, .ref qw, .ref qt, .int (zi we)])), (qt, .inr (1, [.ref tc, .int (zi tl)])), (tc, aI cI 20 tf), (qo, aL cL 1 of)]) (va_Qi (fun (r : Int32) (_ : Unit) => r = zi 0) (zB (dC, dI) [(cI, .int), (cL, .long)] (va_A [(h0, .inr (4, [.ref qs, .ref qr, .ref qm, .ref qw, .ref qt, .int (zi we)])), (qt, .inr (1, [.ref tc, .int (zi tl)])), (tc, aI cI 20 tf), (qo, aL cL 1 of)] sz) [(h0, .inr (4, [.ref qs, .ref qr, .ref qm, .ref qw, .ref qt, .int (zi we)])), (qt, .inr (1, [.ref tc, .int (zi (tl + 1))])), (tc, aI cI 20 (zup tf tl.toNat ch)), (qo, aL cL 1 (zup of (Int.toNat 0) (tl + 1)))]) (va_A [(h0, .inr (4, [.ref qs, .ref qr, .ref qm, .ref qw, .ref qt, .int (zi we)])), (qt, .inr (1, [.ref tc, .int (zi tl)])), (tc, aI cI 20 tf), (qo, aL cL 1 of)] sz)) 0 0 (va_A [(h0, .inr (4, [.ref qs, .ref qr, .ref qm, .ref qw, .ref qt, .int (zi we)])), (qt, .inr (1, [.ref tc, .int (zi tl)])), (tc, aI cI 20 tf), (qo, aL cL 1 of)] sz) := by
  refine va_MetW (hh := [(0, 9, 12, 15), (0, 9, 15, 37)]) (cc := cL_type) (maxL := 4) (ret := (some .int)) (by decide) rfl ?_
  intro p e s m args below meth c s₁ B hml hv
  obtain ⟨rfl, hsz, hP, hK, hD0⟩ := hv
  have hx := B.exec
  have hb := B.bytes
  have hr := B.returns
  have hts := atoms_spec (ws := wsL_type) B.pre
  have hown : s.vm.findClass RL = some m.cls := findClass_of_methodNamed B.named
  have hlocks := B.notSynchronized
  subst hsz
  have hD := hD0.self (sz := s.heap.size)
  generalize hAe : va_A [(h0, .inr (4, [.ref qs, .ref qr, .ref qm, .ref qw, .ref qt, .int (zi we)])), (qt, .inr (1, [.ref tc, .int (zi tl)])), (tc, aI cI 20 tf), (qo, aL cL 1 of)] s.heap.size = A at hD ⊢
  have hA : ∀ q : Nat, s.heap.size ≤ q → A q := fun q h => by rw [← hAe]; exact Or.inr h
  have hS : va_S A s.heap s.heap [] := va_S.rf
  have hP : va_P (dC, dI) vwCl [(h0, .inr (4, [.ref qs, .ref qr, .ref qm, .ref qw, .ref qt, .int (zi we)])), (qt, .inr (1, [.ref tc, .int (zi tl)])), (tc, aI cI 20 tf), (qo, aL cL 1 of)] s.heap := hP
  have hl := lv_entry ([.ref h0, .int (zi ch), .ref qo]) (n := 4) (Nat.le_of_ble_eq_true rfl)
  rw [lg_entry_eq]
  generalize (lg_sl ([.ref h0, .int (zi ch), .ref qo]) ++ List.replicate (4 - (lg_sl ([.ref h0, .int (zi ch), .ref qo])).length) Slot.unset).toArray = ls at hl ⊢
  have hl : lv_has ls 4 [(0, .ref h0), (1, .int (zi ch)), (2, .ref qo)] := hl
  refine lv_aload_n hx hb dL_type_0 rfl (lv_at hl 2 rfl) ?_
  refine zw_iconst hx hb dL_type_1 ?_
  refine lv_aload_n hx hb dL_type_2 rfl (lv_at hl 0 rfl) ?_
  refine lv_iload_n hx hb dL_type_3 rfl (lv_at hl 1 rfl) ?_
  have hh1 := c_X4_type l dC dI cI h0 qs qr qm qw qt we tc tl tf ch s.heap.size (by omega) (by omega)
  have hPc := hP.sub (ws' := [(h0, .inr (4, [.ref qs, .ref qr, .ref qm, .ref qw, .ref qt, .int (zi we)])), (qt, .inr (1, [.ref tc, .int (zi tl)])), (tc, aI cI 20 tf)]) [0, 1, 2] rfl
  have hKc : va_K (dC, dI) vwCl [(cI, .int)] s := hK.sub (tys' := [(cI, .int)]) [0] rfl
  have hDc := hD.sub (ws' := [(h0, .inr (4, [.ref qs, .ref qr, .ref qm, .ref qw, .ref qt, .int (zi we)])), (qt, .inr (1, [.ref tc, .int (zi tl)])), (tc, aI cI 20 tf)]) [0, 1, 2] (by decide) rfl
  have hFc := va_free (wc := [(h0, .inr (4, [.ref qs, .ref qr, .ref qm, .ref qw, .ref qt, .int (zi we)])), (qt, .inr (1, [.ref tc, .int (zi tl)])), (tc, aI cI 20 tf)]) hD hS hA [0, 1, 2] rfl
  refine va_calli (va_runV (As := [.int (zi ch)]) (rest := [.int (zi 0), .ref qo]) ⟨hx, hb, hml, hown, hts⟩ hh1 (cwV 1 hts gL_type_X4_type rfl rfl rfl (by decide +kernel) ⟨Nat.le_of_ble_eq_true rfl, Nat.le_of_ble_eq_true rfl⟩) ⟨zPw.blind _ _ _ _ _, va_recv hKc hPc (ci := 4) (q0 := 0) rfl rfl, fun U hU hW => ⟨rfl, by rw [hU], by rw [hU]; exact hPc, va_K.moved hW.alike hKc, hDc.weaken (fun _ _ _ _ => trivial)⟩⟩ rfl rfl hl.1 rfl (lv_room (Nat.le_of_ble_eq_true rfl)) dL_type_4 ⟨Nat.le_of_ble_eq_true rfl, Nat.le_of_ble_eq_true rfl⟩) hS (fun q _ h => hFc q h) hFc (fun r1 u t H1 locs ht hvm hw hB hz1 hk1 hS => ?_)
  obtain ⟨hP1, hK1, hD1⟩ := hB
  rw [ht] at hP1
  obtain ⟨hP, hD⟩ := va_join (wr := [(qo, aL cL 1 of)]) (w1 := [(h0, .inr (4, [.ref qs, .ref qr, .ref qm, .ref qw, .ref qt, .int (zi we)])), (qt, .inr (1, [.ref tc, .int (zi (tl + 1))])), (tc, aI cI 20 (zup tf tl.toNat ch))]) hP hD [0, 1, 2] [3] rfl rfl (by decide) (by decide) hk1 hFc hP1 hD1
  generalize H1 = H at hP hS ⊢
  obtain rfl : r1 = zi (tl + 1) := hw
  have hP : va_P (dC, dI) vwCl [(qo, aL cL 1 of), (h0, .inr (4, [.ref qs, .ref qr, .ref qm, .ref qw, .ref qt, .int (zi we)])), (qt, .inr (1, [.ref tc, .int (zi (tl + 1))])), (tc, aI cI 20 (zup tf tl.toNat ch))] H := hP
  have hD : va_D A [(qo, aL cL 1 of), (h0, .inr (4, [.ref qs, .ref qr, .ref qm, .ref qw, .ref qt, .int (zi we)])), (qt, .inr (1, [.ref tc, .int (zi (tl + 1))])), (tc, aI cI 20 (zup tf tl.toNat ch))] := hD
  refine zw_i2l hx hb dL_type_7 ⟨by omega, by omega⟩ ?_
  refine zw_last hx hb hK hP hD hS 0 1 rfl rfl (by omega) (by omega) ⟨by omega, by omega⟩ dL_type_8 (fun H locs hP hD hS => ?_)
  have hP : va_P (dC, dI) vwCl [(qo, aL cL 1 (zup of (Int.toNat 0) (tl + 1))), (h0, .inr (4, [.ref qs, .ref qr, .ref qm, .ref qw, .ref qt, .int (zi we)])), (qt, .inr (1, [.ref tc, .int (zi (tl + 1))])), (tc, aI cI 20 (zup tf tl.toNat ch))] H := hP
  have hD : va_D A [(qo, aL cL 1 (zup of (Int.toNat 0) (tl + 1))), (h0, .inr (4, [.ref qs, .ref qr, .ref qm, .ref qw, .ref qt, .int (zi we)])), (qt, .inr (1, [.ref tc, .int (zi (tl + 1))])), (tc, aI cI 20 (zup tf tl.toNat ch))] := hD
  refine lv_goto (tgt := 18) hx hb dL_type_9 (by decide) ?_
  refine zw_iconst hx hb dL_type_18 ?_
  have hP9 := hP.sub (ws' := [(h0, .inr (4, [.ref qs, .ref qr, .ref qm, .ref qw, .ref qt, .int (zi we)])), (qt, .inr (1, [.ref tc, .int (zi (tl + 1))])), (tc, aI cI 20 (zup tf tl.toNat ch)), (qo, aL cL 1 (zup of (Int.toNat 0) (tl + 1)))]) [1, 2, 3, 0] rfl
  have hD9 := hD.sub (ws' := [(h0, .inr (4, [.ref qs, .ref qr, .ref qm, .ref qw, .ref qt, .int (zi we)])), (qt, .inr (1, [.ref tc, .int (zi (tl + 1))])), (tc, aI cI 20 (zup tf tl.toNat ch)), (qo, aL cL 1 (zup of (Int.toNat 0) (tl + 1)))]) [1, 2, 3, 0] (by decide) rfl
  exact W.iret (v := zi 0) hx hb hr (fun t ht hW => ⟨⟨zi 0, (), rfl, rfl, by rw [ht]; exact hP9, va_K.moved hW.alike hK, hD9⟩, hS.F ht⟩) hS.2.2 dL_type_19

set_option maxHeartbeats 4000000 in
set_option maxRecDepth 100000 in
theorem c_L_write_1 (l : Launch) (hst : l.stackTraces = false) (dC : Nat → ClassId) (dI : Nat → Nat → Nat) (cI : ClassId) (cL : ClassId) (h0 : Nat) (qs : Nat) (qr : Nat) (qm : Nat) (qw : Nat) (qt : Nat) (we : Int) (sf : Nat → Int) (wc : Nat) (wl : Int) (wf : Nat → Int) (qo : Nat) (of : Nat → Int) (sl : Int) (tx : Int) (sz : Nat) (hp0 : -2147483648 ≤ sl ∧ sl ≤ 2147483647) (hp1 : sl < 0 ∨ 9 < sl) : Met l yL_write wsL_write ({ frames := 8, cells := 1, slots := 6, locals := 133 }) (zPx (dC, dI) [(cI, .int), (cL, .long)] sz [.ref h0, .int (zi sl), .int (zi tx), .ref qo] [(h0, .inr (4, [.ref qs, .ref qr, .ref qm, .ref qw, .ref qt, .int (zi we)])), (qs, aI cI 10 sf), (qw, .inr (1, [.ref wc, .int (zi wl)])), (wc, aI cI 20 wf), (qo, aL cL 1 of)]) (va_Qi (fun (r : Int32) (_ : Unit) => r = zi 1) (zB (dC, dI) [(cI, .int), (cL, .long)] (va_A [(h0, .inr (4, [.ref qs, .ref qr, .ref qm, .ref qw, .ref qt, .int (zi we)])), (qs, aI cI 10 sf), (qw, .inr (1, [.ref wc, .int (zi wl)])), (wc, aI cI 20 wf), (qo, aL cL 1 of)] sz) [(h0, .inr (4, [.ref qs, .ref qr, .ref qm, .ref qw, .ref qt, .int (zi we)])), (qs, aI cI 10 sf), (qw, .inr (1, [.ref wc, .int (zi wl)])), (wc, aI cI 20 wf), (qo, aL cL 1 of)]) (va_A [(h0, .inr (4, [.ref qs, .ref qr, .ref qm, .ref qw, .ref qt, .int (zi we)])), (qs, aI cI 10 sf), (qw, .inr (1, [.ref wc, .int (zi wl)])), (wc, aI cI 20 wf), (qo, aL cL 1 of)] sz)) 1 6 (va_A [(h0, .inr (4, [.ref qs, .ref qr, .ref qm, .ref qw, .ref qt, .int (zi we)])), (qs, aI cI 10 sf), (qw, .inr (1, [.ref wc, .int (zi wl)])), (wc, aI cI 20 wf), (qo, aL cL 1 of)] sz) := by
  refine va_MetW (hh := [(0, 10, 13, 13), (0, 10, 17, 15), (0, 10, 21, 35)]) (cc := cL_write) (maxL := 5) (ret := (some .int)) (by decide) rfl ?_
  intro p e s m args below meth c s₁ B hml hv
  obtain ⟨rfl, hsz, hE, hP, hK, hD0⟩ := hv
  have hx := B.exec
  have hb := B.bytes
  have hr := B.returns
  have hts := atoms_spec (ws := wsL_write) B.pre
  have hown : s.vm.findClass RL = some m.cls := findClass_of_methodNamed B.named
  have hlocks := B.notSynchronized
  have hex : c.exceptionTable.toList = [⟨0, 10, 13, 13⟩, ⟨0, 10, 17, 15⟩, ⟨0, 10, 21, 35⟩] := vx_table (x := yL_write) B (hts _ List.mem_cons_self)
  subst hsz
  have hD := hD0.self (sz := s.heap.size)
  generalize hAe : va_A [(h0, .inr (4, [.ref qs, .ref qr, .ref qm, .ref qw, .ref qt, .int (zi we)])), (qs, aI cI 10 sf), (qw, .inr (1, [.ref wc, .int (zi wl)])), (wc, aI cI 20 wf), (qo, aL cL 1 of)] s.heap.size = A at hD ⊢
  have hA : ∀ q : Nat, s.heap.size ≤ q → A q := fun q h => by rw [← hAe]; exact Or.inr h
  have hS : va_S A s.heap s.heap [] := va_S.rf
  have hP : va_P (dC, dI) vwCl [(h0, .inr (4, [.ref qs, .ref qr, .ref qm, .ref qw, .ref qt, .int (zi we)])), (qs, aI cI 10 sf), (qw, .inr (1, [.ref wc, .int (zi wl)])), (wc, aI cI 20 wf), (qo, aL cL 1 of)] s.heap := hP
  have hl := lv_entry ([.ref h0, .int (zi sl), .int (zi tx), .ref qo]) (n := 5) (Nat.le_of_ble_eq_true rfl)
  rw [lg_entry_eq]
  generalize (lg_sl ([.ref h0, .int (zi sl), .int (zi tx), .ref qo]) ++ List.replicate (5 - (lg_sl ([.ref h0, .int (zi sl), .int (zi tx), .ref qo])).length) Slot.unset).toArray = ls at hl ⊢
  have hl : lv_has ls 5 [(0, .ref h0), (1, .int (zi sl)), (2, .int (zi tx)), (3, .ref qo)] := hl
  refine lv_aload_n hx hb dL_write_0 rfl (lv_at hl 3 rfl) ?_
  refine zw_iconst hx hb dL_write_1 ?_
  refine lv_aload_n hx hb dL_write_2 rfl (lv_at hl 0 rfl) ?_
  refine lv_iload_n hx hb dL_write_3 rfl (lv_at hl 1 rfl) ?_
  refine lv_iload_n hx hb dL_write_4 rfl (lv_at hl 2 rfl) ?_
  have hh1 := t_X4_write_1 l hst h0 sl tx (by omega) (by omega)
  refine zt_catch (own := RL) (name := "java/lang/IndexOutOfBoundsException") (vx_runV (As := [.int (zi sl), .int (zi tx)]) (rest := [.int (zi 0), .ref qo]) ⟨hx, hb, hml, hown, hts⟩ hh1 (cwV 2 hts gL_write_X4_write rfl rfl rfl (by decide +kernel) ⟨Nat.le_of_ble_eq_true rfl, Nat.le_of_ble_eq_true rfl⟩) ⟨zP.blind _, va_recv hK hP (ci := 4) (q0 := 0) rfl rfl, fun U hU hW => ⟨rfl, hE.call va_S.rf (fun q h => by rw [hU] at h; exact h) hU hW⟩⟩ rfl rfl hl.1 rfl (lv_room (Nat.le_of_ble_eq_true rfl)) dL_write_5 ⟨Nat.le_of_ble_eq_true rfl, Nat.le_of_ble_eq_true rfl⟩) hown [] ⟨0, 10, 13, 13⟩ [⟨0, 10, 17, 15⟩, ⟨0, 10, 21, 35⟩] hex (List.forall_mem_nil _) (by decide) (by decide) (hts (.classLink RL 13 "java/lang/IndexOutOfBoundsException") (by decide +kernel)) (va_any rfl (hE.2.2.1 (.castable "java/lang/IndexOutOfBoundsException" "java/lang/IndexOutOfBoundsException") (by decide +kernel))) (fun qx H1 hz1 hk1 => ?_)
  have hP : va_P (dC, dI) vwCl [(h0, .inr (4, [.ref qs, .ref qr, .ref qm, .ref qw, .ref qt, .int (zi we)])), (qs, aI cI 10 sf), (qw, .inr (1, [.ref wc, .int (zi wl)])), (wc, aI cI 20 wf), (qo, aL cL 1 of)] H1 := zk_world hP hk1
  have hS : va_S A s.heap H1 [] := zk_S hz1 hk1
  refine lv_astore (lv' := [(4, .ref qx), (0, .ref h0), (1, .int (zi sl)), (2, .int (zi tx)), (3, .ref qo)]) hx hb dL_write_13 hl (by decide) rfl (fun ls hl => ?_)
  refine zw_iconst hx hb dL_write_15 ?_
  have hP9 := hP.sub (ws' := [(h0, .inr (4, [.ref qs, .ref qr, .ref qm, .ref qw, .ref qt, .int (zi we)])), (qs, aI cI 10 sf), (qw, .inr (1, [.ref wc, .int (zi wl)])), (wc, aI cI 20 wf), (qo, aL cL 1 of)]) [0, 1, 2, 3, 4] rfl
  have hD9 := hD.sub (ws' := [(h0, .inr (4, [.ref qs, .ref qr, .ref qm, .ref qw, .ref qt, .int (zi we)])), (qs, aI cI 10 sf), (qw, .inr (1, [.ref wc, .int (zi wl)])), (wc, aI cI 20 wf), (qo, aL cL 1 of)]) [0, 1, 2, 3, 4] (by decide) rfl
  exact W.iret (v := zi 1) hx hb hr (fun t ht hW => ⟨⟨zi 1, (), rfl, rfl, by rw [ht]; exact hP9, va_K.moved hW.alike hK, hD9⟩, hS.F ht⟩) hS.2.2 dL_write_16

set_option maxHeartbeats 4000000 in
set_option maxRecDepth 100000 in
theorem c_L_write_2 (l : Launch) (hst : l.stackTraces = false) (dC : Nat → ClassId) (dI : Nat → Nat → Nat) (cI : ClassId) (cL : ClassId) (h0 : Nat) (qs : Nat) (qr : Nat) (qm : Nat) (qw : Nat) (qt : Nat) (we : Int) (sf : Nat → Int) (wc : Nat) (wl : Int) (wf : Nat → Int) (qo : Nat) (of : Nat → Int) (sl : Int) (tx : Int) (sz : Nat) (hp0 : 0 ≤ sl ∧ sl ≤ 9) (hp1 : -2147483648 ≤ tx ∧ tx ≤ 2147483647) (hp2 : tx < 0 ∨ 2 < tx) : Met l yL_write wsL_write ({ frames := 7, cells := 1, slots := 6, locals := 113 }) (zPx (dC, dI) [(cI, .int), (cL, .long)] sz [.ref h0, .int (zi sl), .int (zi tx), .ref qo] [(h0, .inr (4, [.ref qs, .ref qr, .ref qm, .ref qw, .ref qt, .int (zi we)])), (qs, aI cI 10 sf), (qw, .inr (1, [.ref wc, .int (zi wl)])), (wc, aI cI 20 wf), (qo, aL cL 1 of)]) (va_Qi (fun (r : Int32) (_ : Unit) => r = zi 2) (zB (dC, dI) [(cI, .int), (cL, .long)] (va_A [(h0, .inr (4, [.ref qs, .ref qr, .ref qm, .ref qw, .ref qt, .int (zi we)])), (qs, aI cI 10 sf), (qw, .inr (1, [.ref wc, .int (zi wl)])), (wc, aI cI 20 wf), (qo, aL cL 1 of)] sz) [(h0, .inr (4, [.ref qs, .ref qr, .ref qm, .ref qw, .ref qt, .int (zi we)])), (qs, aI cI 10 sf), (qw, .inr (1, [.ref wc, .int (zi wl)])), (wc, aI cI 20 wf), (qo, aL cL 1 of)]) (va_A [(h0, .inr (4, [.ref qs, .ref qr, .ref qm, .ref qw, .ref qt, .int (zi we)])), (qs, aI cI 10 sf), (qw, .inr (1, [.ref wc, .int (zi wl)])), (wc, aI cI 20 wf), (qo, aL cL 1 of)] sz)) 1 6 (va_A [(h0, .inr (4, [.ref qs, .ref qr, .ref qm, .ref qw, .ref qt, .int (zi we)])), (qs, aI cI 10 sf), (qw, .inr (1, [.ref wc, .int (zi wl)])), (wc, aI cI 20 wf), (qo, aL cL 1 of)] sz) := by
  refine va_MetW (hh := [(0, 10, 13, 13), (0, 10, 17, 15), (0, 10, 21, 35)]) (cc := cL_write) (maxL := 5) (ret := (some .int)) (by decide) rfl ?_
  intro p e s m args below meth c s₁ B hml hv
  obtain ⟨rfl, hsz, hE, hP, hK, hD0⟩ := hv
  have hx := B.exec
  have hb := B.bytes
  have hr := B.returns
  have hts := atoms_spec (ws := wsL_write) B.pre
  have hown : s.vm.findClass RL = some m.cls := findClass_of_methodNamed B.named
  have hlocks := B.notSynchronized
  have hex : c.exceptionTable.toList = [⟨0, 10, 13, 13⟩, ⟨0, 10, 17, 15⟩, ⟨0, 10, 21, 35⟩] := vx_table (x := yL_write) B (hts _ List.mem_cons_self)
  subst hsz
  have hD := hD0.self (sz := s.heap.size)
  generalize hAe : va_A [(h0, .inr (4, [.ref qs, .ref qr, .ref qm, .ref qw, .ref qt, .int (zi we)])), (qs, aI cI 10 sf), (qw, .inr (1, [.ref wc, .int (zi wl)])), (wc, aI cI 20 wf), (qo, aL cL 1 of)] s.heap.size = A at hD ⊢
  have hA : ∀ q : Nat, s.heap.size ≤ q → A q := fun q h => by rw [← hAe]; exact Or.inr h
  have hS : va_S A s.heap s.heap [] := va_S.rf
  have hP : va_P (dC, dI) vwCl [(h0, .inr (4, [.ref qs, .ref qr, .ref qm, .ref qw, .ref qt, .int (zi we)])), (qs, aI cI 10 sf), (qw, .inr (1, [.ref wc, .int (zi wl)])), (wc, aI cI 20 wf), (qo, aL cL 1 of)] s.heap := hP
  have hl := lv_entry ([.ref h0, .int (zi sl), .int (zi tx), .ref qo]) (n := 5) (Nat.le_of_ble_eq_true rfl)
  rw [lg_entry_eq]
  generalize (lg_sl ([.ref h0, .int (zi sl), .int (zi tx), .ref qo]) ++ List.replicate (5 - (lg_sl ([.ref h0, .int (zi sl), .int (zi tx), .ref qo])).length) Slot.unset).toArray = ls at hl ⊢
  have hl : lv_has ls 5 [(0, .ref h0), (1, .int (zi sl)), (2, .int (zi tx)), (3, .ref qo)] := hl
  refine lv_aload_n hx hb dL_write_0 rfl (lv_at hl 3 rfl) ?_
  refine zw_iconst hx hb dL_write_1 ?_
  refine lv_aload_n hx hb dL_write_2 rfl (lv_at hl 0 rfl) ?_
  refine lv_iload_n hx hb dL_write_3 rfl (lv_at hl 1 rfl) ?_
  refine lv_iload_n hx hb dL_write_4 rfl (lv_at hl 2 rfl) ?_
  have hh1 := t_X4_write_2 l hst h0 sl tx (by omega) (by omega) (by omega)
  refine zt_catch (own := RL) (name := "java/lang/IllegalArgumentException") (vx_runV (As := [.int (zi sl), .int (zi tx)]) (rest := [.int (zi 0), .ref qo]) ⟨hx, hb, hml, hown, hts⟩ hh1 (cwV 2 hts gL_write_X4_write rfl rfl rfl (by decide +kernel) ⟨Nat.le_of_ble_eq_true rfl, Nat.le_of_ble_eq_true rfl⟩) ⟨zP.blind _, va_recv hK hP (ci := 4) (q0 := 0) rfl rfl, fun U hU hW => ⟨rfl, hE.call va_S.rf (fun q h => by rw [hU] at h; exact h) hU hW⟩⟩ rfl rfl hl.1 rfl (lv_room (Nat.le_of_ble_eq_true rfl)) dL_write_5 ⟨Nat.le_of_ble_eq_true rfl, Nat.le_of_ble_eq_true rfl⟩) hown [⟨0, 10, 13, 13⟩] ⟨0, 10, 17, 15⟩ [⟨0, 10, 21, 35⟩] hex (List.forall_mem_cons.mpr ⟨⟨by decide, by decide, "java/lang/IndexOutOfBoundsException", (hts (.classLink RL 13 "java/lang/IndexOutOfBoundsException") (by decide +kernel)), hE.2.2.2.2 ("java/lang/IllegalArgumentException", "java/lang/IndexOutOfBoundsException") (by decide)⟩, List.forall_mem_nil _⟩) (by decide) (by decide) (hts (.classLink RL 15 "java/lang/IllegalArgumentException") (by decide +kernel)) (va_any rfl (hE.2.2.1 (.castable "java/lang/IllegalArgumentException" "java/lang/IllegalArgumentException") (by decide +kernel))) (fun qx H1 hz1 hk1 => ?_)
  have hP : va_P (dC, dI) vwCl [(h0, .inr (4, [.ref qs, .ref qr, .ref qm, .ref qw, .ref qt, .int (zi we)])), (qs, aI cI 10 sf), (qw, .inr (1, [.ref wc, .int (zi wl)])), (wc, aI cI 20 wf), (qo, aL cL 1 of)] H1 := zk_world hP hk1
  have hS : va_S A s.heap H1 [] := zk_S hz1 hk1
  refine lv_astore (lv' := [(4, .ref qx), (0, .ref h0), (1, .int (zi sl)), (2, .int (zi tx)), (3, .ref qo)]) hx hb dL_write_17 hl (by decide) rfl (fun ls hl => ?_)
  refine zw_iconst hx hb dL_write_19 ?_
  have hP9 := hP.sub (ws' := [(h0, .inr (4, [.ref qs, .ref qr, .ref qm, .ref qw, .ref qt, .int (zi we)])), (qs, aI cI 10 sf), (qw, .inr (1, [.ref wc, .int (zi wl)])), (wc, aI cI 20 wf), (qo, aL cL 1 of)]) [0, 1, 2, 3, 4] rfl
  have hD9 := hD.sub (ws' := [(h0, .inr (4, [.ref qs, .ref qr, .ref qm, .ref qw, .ref qt, .int (zi we)])), (qs, aI cI 10 sf), (qw, .inr (1, [.ref wc, .int (zi wl)])), (wc, aI cI 20 wf), (qo, aL cL 1 of)]) [0, 1, 2, 3, 4] (by decide) rfl
  exact W.iret (v := zi 2) hx hb hr (fun t ht hW => ⟨⟨zi 2, (), rfl, rfl, by rw [ht]; exact hP9, va_K.moved hW.alike hK, hD9⟩, hS.F ht⟩) hS.2.2 dL_write_20

set_option maxHeartbeats 4000000 in
set_option maxRecDepth 100000 in
theorem c_L_write_3 (l : Launch) (hst : l.stackTraces = false) (dC : Nat → ClassId) (dI : Nat → Nat → Nat) (cI : ClassId) (cL : ClassId) (h0 : Nat) (qs : Nat) (qr : Nat) (qm : Nat) (qw : Nat) (qt : Nat) (we : Int) (sf : Nat → Int) (wc : Nat) (wl : Int) (wf : Nat → Int) (qo : Nat) (of : Nat → Int) (sl : Int) (tx : Int) (sz : Nat) (hp0 : 0 ≤ sl ∧ sl ≤ 9) (hp1 : 0 ≤ tx ∧ tx ≤ 2) (hp2 : sf sl.toNat = -1) : Met l yL_write wsL_write ({ frames := 8, cells := 1, slots := 6, locals := 135 }) (zPx (dC, dI) [(cI, .int), (cL, .long)] sz [.ref h0, .int (zi sl), .int (zi tx), .ref qo] [(h0, .inr (4, [.ref qs, .ref qr, .ref qm, .ref qw, .ref qt, .int (zi we)])), (qs, aI cI 10 sf), (qw, .inr (1, [.ref wc, .int (zi wl)])), (wc, aI cI 20 wf), (qo, aL cL 1 of)]) (va_Qi (fun (r : Int32) (_ : Unit) => r = zi 3) (zB (dC, dI) [(cI, .int), (cL, .long)] (va_A [(h0, .inr (4, [.ref qs, .ref qr, .ref qm, .ref qw, .ref qt, .int (zi we)])), (qs, aI cI 10 sf), (qw, .inr (1, [.ref wc, .int (zi wl)])), (wc, aI cI 20 wf), (qo, aL cL 1 of)] sz) [(h0, .inr (4, [.ref qs, .ref qr, .ref qm, .ref qw, .ref qt, .int (zi we)])), (qs, aI cI 10 sf), (qw, .inr (1, [.ref wc, .int (zi wl)])), (wc, aI cI 20 wf), (qo, aL cL 1 of)]) (va_A [(h0, .inr (4, [.ref qs, .ref qr, .ref qm, .ref qw, .ref qt, .int (zi we)])), (qs, aI cI 10 sf), (qw, .inr (1, [.ref wc, .int (zi wl)])), (wc, aI cI 20 wf), (qo, aL cL 1 of)] sz)) 1 6 (va_A [(h0, .inr (4, [.ref qs, .ref qr, .ref qm, .ref qw, .ref qt, .int (zi we)])), (qs, aI cI 10 sf), (qw, .inr (1, [.ref wc, .int (zi wl)])), (wc, aI cI 20 wf), (qo, aL cL 1 of)] sz) := by
  refine va_MetW (hh := [(0, 10, 13, 13), (0, 10, 17, 15), (0, 10, 21, 35)]) (cc := cL_write) (maxL := 5) (ret := (some .int)) (by decide) rfl ?_
  intro p e s m args below meth c s₁ B hml hv
  obtain ⟨rfl, hsz, hE, hP, hK, hD0⟩ := hv
  have hx := B.exec
  have hb := B.bytes
  have hr := B.returns
  have hts := atoms_spec (ws := wsL_write) B.pre
  have hown : s.vm.findClass RL = some m.cls := findClass_of_methodNamed B.named
  have hlocks := B.notSynchronized
  have hex : c.exceptionTable.toList = [⟨0, 10, 13, 13⟩, ⟨0, 10, 17, 15⟩, ⟨0, 10, 21, 35⟩] := vx_table (x := yL_write) B (hts _ List.mem_cons_self)
  subst hsz
  have hD := hD0.self (sz := s.heap.size)
  generalize hAe : va_A [(h0, .inr (4, [.ref qs, .ref qr, .ref qm, .ref qw, .ref qt, .int (zi we)])), (qs, aI cI 10 sf), (qw, .inr (1, [.ref wc, .int (zi wl)])), (wc, aI cI 20 wf), (qo, aL cL 1 of)] s.heap.size = A at hD ⊢
  have hA : ∀ q : Nat, s.heap.size ≤ q → A q := fun q h => by rw [← hAe]; exact Or.inr h
  have hS : va_S A s.heap s.heap [] := va_S.rf
  have hP : va_P (dC, dI) vwCl [(h0, .inr (4, [.ref qs, .ref qr, .ref qm, .ref qw, .ref qt, .int (zi we)])), (qs, aI cI 10 sf), (qw, .inr (1, [.ref wc, .int (zi wl)])), (wc, aI cI 20 wf), (qo, aL cL 1 of)] s.heap := hP
  have hl := lv_entry ([.ref h0, .int (zi sl), .int (zi tx), .ref qo]) (n := 5) (Nat.le_of_ble_eq_true rfl)
  rw [lg_entry_eq]
  generalize (lg_sl ([.ref h0, .int (zi sl), .int (zi tx), .ref qo]) ++ List.replicate (5 - (lg_sl ([.ref h0, .int (zi sl), .int (zi tx), .ref qo])).length) Slot.unset).toArray = ls at hl ⊢
  have hl : lv_has ls 5 [(0, .ref h0), (1, .int (zi sl)), (2, .int (zi tx)), (3, .ref qo)] := hl
  refine lv_aload_n hx hb dL_write_0 rfl (lv_at hl 3 rfl) ?_
  refine zw_iconst hx hb dL_write_1 ?_
  refine lv_aload_n hx hb dL_write_2 rfl (lv_at hl 0 rfl) ?_
  refine lv_iload_n hx hb dL_write_3 rfl (lv_at hl 1 rfl) ?_
  refine lv_iload_n hx hb dL_write_4 rfl (lv_at hl 2 rfl) ?_
  have hh1 := t_X4_write_3 l hst dC dI cI h0 qs qr qm qw qt we sf sl tx (by omega) (by omega) (by omega)
  have hPc := hP.sub (ws' := [(h0, .inr (4, [.ref qs, .ref qr, .ref qm, .ref qw, .ref qt, .int (zi we)])), (qs, aI cI 10 sf)]) [0, 1] rfl
  have hKc : va_K (dC, dI) vwCl [(cI, .int)] s := hK.sub (tys' := [(cI, .int)]) [0] rfl
  refine zt_catch (own := RL) (name := "java/lang/IllegalStateException") (vx_runV (As := [.int (zi sl), .int (zi tx)]) (rest := [.int (zi 0), .ref qo]) ⟨hx, hb, hml, hown, hts⟩ hh1 (cwV 2 hts gL_write_X4_write rfl rfl rfl (by decide +kernel) ⟨Nat.le_of_ble_eq_true rfl, Nat.le_of_ble_eq_true rfl⟩) ⟨zPt.blind _ _ _ _, va_recv hKc hPc (ci := 4) (q0 := 0) rfl rfl, fun U hU hW => ⟨rfl, hE.call va_S.rf (fun q h => by rw [hU] at h; exact h) hU hW, by rw [hU]; exact hPc, va_K.moved hW.alike hKc⟩⟩ rfl rfl hl.1 rfl (lv_room (Nat.le_of_ble_eq_true rfl)) dL_write_5 ⟨Nat.le_of_ble_eq_true rfl, Nat.le_of_ble_eq_true rfl⟩) hown [⟨0, 10, 13, 13⟩, ⟨0, 10, 17, 15⟩] ⟨0, 10, 21, 35⟩ [] hex (List.forall_mem_cons.mpr ⟨⟨by decide, by decide, "java/lang/IndexOutOfBoundsException", (hts (.classLink RL 13 "java/lang/IndexOutOfBoundsException") (by decide +kernel)), hE.2.2.2.2 ("java/lang/IllegalStateException", "java/lang/IndexOutOfBoundsException") (by decide)⟩, List.forall_mem_cons.mpr ⟨⟨by decide, by decide, "java/lang/IllegalArgumentException", (hts (.classLink RL 15 "java/lang/IllegalArgumentException") (by decide +kernel)), hE.2.2.2.2 ("java/lang/IllegalStateException", "java/lang/IllegalArgumentException") (by decide)⟩, List.forall_mem_nil _⟩⟩) (by decide) (by decide) (hts (.classLink RL 35 "java/lang/IllegalStateException") (by decide +kernel)) (va_any rfl (hE.2.2.1 (.castable "java/lang/IllegalStateException" "java/lang/IllegalStateException") (by decide +kernel))) (fun qx H1 hz1 hk1 => ?_)
  have hP : va_P (dC, dI) vwCl [(h0, .inr (4, [.ref qs, .ref qr, .ref qm, .ref qw, .ref qt, .int (zi we)])), (qs, aI cI 10 sf), (qw, .inr (1, [.ref wc, .int (zi wl)])), (wc, aI cI 20 wf), (qo, aL cL 1 of)] H1 := zk_world hP hk1
  have hS : va_S A s.heap H1 [] := zk_S hz1 hk1
  refine lv_astore (lv' := [(4, .ref qx), (0, .ref h0), (1, .int (zi sl)), (2, .int (zi tx)), (3, .ref qo)]) hx hb dL_write_21 hl (by decide) rfl (fun ls hl => ?_)
  refine zw_iconst hx hb dL_write_23 ?_
  have hP9 := hP.sub (ws' := [(h0, .inr (4, [.ref qs, .ref qr, .ref qm, .ref qw, .ref qt, .int (zi we)])), (qs, aI cI 10 sf), (qw, .inr (1, [.ref wc, .int (zi wl)])), (wc, aI cI 20 wf), (qo, aL cL 1 of)]) [0, 1, 2, 3, 4] rfl
  have hD9 := hD.sub (ws' := [(h0, .inr (4, [.ref qs, .ref qr, .ref qm, .ref qw, .ref qt, .int (zi we)])), (qs, aI cI 10 sf), (qw, .inr (1, [.ref wc, .int (zi wl)])), (wc, aI cI 20 wf), (qo, aL cL 1 of)]) [0, 1, 2, 3, 4] (by decide) rfl
  exact W.iret (v := zi 3) hx hb hr (fun t ht hW => ⟨⟨zi 3, (), rfl, rfl, by rw [ht]; exact hP9, va_K.moved hW.alike hK, hD9⟩, hS.F ht⟩) hS.2.2 dL_write_24

set_option maxHeartbeats 4000000 in
set_option maxRecDepth 100000 in
theorem c_L_write_ok0 (l : Launch)  (dC : Nat → ClassId) (dI : Nat → Nat → Nat) (cI : ClassId) (cL : ClassId) (h0 : Nat) (qs : Nat) (qr : Nat) (qm : Nat) (qw : Nat) (qt : Nat) (we : Int) (sf : Nat → Int) (wc : Nat) (wl : Int) (wf : Nat → Int) (qo : Nat) (of : Nat → Int) (sl : Int) (sz : Nat) (hp0 : 0 ≤ sl ∧ sl ≤ 9) (hp1 : 0 ≤ sf sl.toNat ∧ sf sl.toNat ≤ 3652058) : Met l yL_write wsL_write ({ frames := 6, cells := 0, slots := 0, locals := 131 }) (zPw (dC, dI) [(cI, .int), (cL, .long)] sz [.ref h0, .int (zi sl), .int (zi 0), .ref qo] [(h0, .inr (4, [.ref qs, .ref qr, .ref qm, .ref qw, .ref qt, .int (zi we)])), (qs, aI cI 10 sf), (qw, .inr (1, [.ref wc, .int (zi wl)])), (wc, aI cI 20 wf), (qo, aL cL 1 of)]) (va_Qi (fun (r : Int32) (_ : Unit) => r = zi 0) (zB (dC, dI) [(cI, .int), (cL, .long)] (va_A [(h0, .inr (4, [.ref qs, .ref qr, .ref qm, .ref qw, .ref qt, .int (zi we)])), (qs, aI cI 10 sf), (qw, .inr (1, [.ref wc, .int (zi wl)])), (wc, aI cI 20 wf), (qo, aL cL 1 of)] sz) [(h0, .inr (4, [.ref qs, .ref qr, .ref qm, .ref qw, .ref qt, .int (zi we)])), (qs, aI cI 10 sf), (qw, .inr (1, [.ref wc, .int (zi ((((((((((0 + 1) + 1) + 1) + 1) + 1) + 1) + 1) + 1) + 1) + 1))])), (wc, aI cI 20 (zup (zup (zup (zup (zup (zup (zup (zup (zup (zup wf (Int.toNat 0) (48 + (((f_X0_yearOf (sf sl.toNat)) / 1000) % 10))) (Int.toNat (0 + 1)) (48 + (((f_X0_yearOf (sf sl.toNat)) / 100) % 10))) (Int.toNat ((0 + 1) + 1)) (48 + (((f_X0_yearOf (sf sl.toNat)) / 10) % 10))) (Int.toNat (((0 + 1) + 1) + 1)) (48 + (((f_X0_yearOf (sf sl.toNat)) / 1) % 10))) (Int.toNat ((((0 + 1) + 1) + 1) + 1)) 45) (Int.toNat (((((0 + 1) + 1) + 1) + 1) + 1)) (48 + (((f_X0_monthOf (sf sl.toNat)) / 10) % 10))) (Int.toNat ((((((0 + 1) + 1) + 1) + 1) + 1) + 1)) (48 + (((f_X0_monthOf (sf sl.toNat)) / 1) % 10))) (Int.toNat (((((((0 + 1) + 1) + 1) + 1) + 1) + 1) + 1)) 45) (Int.toNat ((((((((0 + 1) + 1) + 1) + 1) + 1) + 1) + 1) + 1)) (48 + (((f_X0_dayOf (sf sl.toNat)) / 10) % 10))) (Int.toNat (((((((((0 + 1) + 1) + 1) + 1) + 1) + 1) + 1) + 1) + 1)) (48 + (((f_X0_dayOf (sf sl.toNat)) / 1) % 10)))), (qo, aL cL 1 (zup of (Int.toNat 0) ((((((((((0 + 1) + 1) + 1) + 1) + 1) + 1) + 1) + 1) + 1) + 1)))]) (va_A [(h0, .inr (4, [.ref qs, .ref qr, .ref qm, .ref qw, .ref qt, .int (zi we)])), (qs, aI cI 10 sf), (qw, .inr (1, [.ref wc, .int (zi wl)])), (wc, aI cI 20 wf), (qo, aL cL 1 of)] sz)) 0 0 (va_A [(h0, .inr (4, [.ref qs, .ref qr, .ref qm, .ref qw, .ref qt, .int (zi we)])), (qs, aI cI 10 sf), (qw, .inr (1, [.ref wc, .int (zi wl)])), (wc, aI cI 20 wf), (qo, aL cL 1 of)] sz) := by
  refine va_MetW (hh := [(0, 10, 13, 13), (0, 10, 17, 15), (0, 10, 21, 35)]) (cc := cL_write) (maxL := 5) (ret := (some .int)) (by decide) rfl ?_
  intro p e s m args below meth c s₁ B hml hv
  obtain ⟨rfl, hsz, hP, hK, hD0⟩ := hv
  have hx := B.exec
  have hb := B.bytes
  have hr := B.returns
  have hts := atoms_spec (ws := wsL_write) B.pre
  have hown : s.vm.findClass RL = some m.cls := findClass_of_methodNamed B.named
  have hlocks := B.notSynchronized
  subst hsz
  have hD := hD0.self (sz := s.heap.size)
  generalize hAe : va_A [(h0, .inr (4, [.ref qs, .ref qr, .ref qm, .ref qw, .ref qt, .int (zi we)])), (qs, aI cI 10 sf), (qw, .inr (1, [.ref wc, .int (zi wl)])), (wc, aI cI 20 wf), (qo, aL cL 1 of)] s.heap.size = A at hD ⊢
  have hA : ∀ q : Nat, s.heap.size ≤ q → A q := fun q h => by rw [← hAe]; exact Or.inr h
  have hS : va_S A s.heap s.heap [] := va_S.rf
  have hP : va_P (dC, dI) vwCl [(h0, .inr (4, [.ref qs, .ref qr, .ref qm, .ref qw, .ref qt, .int (zi we)])), (qs, aI cI 10 sf), (qw, .inr (1, [.ref wc, .int (zi wl)])), (wc, aI cI 20 wf), (qo, aL cL 1 of)] s.heap := hP
  have hl := lv_entry ([.ref h0, .int (zi sl), .int (zi 0), .ref qo]) (n := 5) (Nat.le_of_ble_eq_true rfl)
  rw [lg_entry_eq]
  generalize (lg_sl ([.ref h0, .int (zi sl), .int (zi 0), .ref qo]) ++ List.replicate (5 - (lg_sl ([.ref h0, .int (zi sl), .int (zi 0), .ref qo])).length) Slot.unset).toArray = ls at hl ⊢
  have hl : lv_has ls 5 [(0, .ref h0), (1, .int (zi sl)), (2, .int (zi 0)), (3, .ref qo)] := hl
  refine lv_aload_n hx hb dL_write_0 rfl (lv_at hl 3 rfl) ?_
  refine zw_iconst hx hb dL_write_1 ?_
  refine lv_aload_n hx hb dL_write_2 rfl (lv_at hl 0 rfl) ?_
  refine lv_iload_n hx hb dL_write_3 rfl (lv_at hl 1 rfl) ?_
  refine lv_iload_n hx hb dL_write_4 rfl (lv_at hl 2 rfl) ?_
  have hh1 := c_X4_write_0 l dC dI cI h0 qs qr qm qw qt we sf wc wl wf sl s.heap.size (by omega) (by omega)
  have hPc := hP.sub (ws' := [(h0, .inr (4, [.ref qs, .ref qr, .ref qm, .ref qw, .ref qt, .int (zi we)])), (qs, aI cI 10 sf), (qw, .inr (1, [.ref wc, .int (zi wl)])), (wc, aI cI 20 wf)]) [0, 1, 2, 3] rfl
  have hKc : va_K (dC, dI) vwCl [(cI, .int)] s := hK.sub (tys' := [(cI, .int)]) [0] rfl
  have hDc := hD.sub (ws' := [(h0, .inr (4, [.ref qs, .ref qr, .ref qm, .ref qw, .ref qt, .int (zi we)])), (qs, aI cI 10 sf), (qw, .inr (1, [.ref wc, .int (zi wl)])), (wc, aI cI 20 wf)]) [0, 1, 2, 3] (by decide) rfl
  have hFc := va_free (wc := [(h0, .inr (4, [.ref qs, .ref qr, .ref qm, .ref qw, .ref qt, .int (zi we)])), (qs, aI cI 10 sf), (qw, .inr (1, [.ref wc, .int (zi wl)])), (wc, aI cI 20 wf)]) hD hS hA [0, 1, 2, 3] rfl
  refine va_calli (va_runV (As := [.int (zi sl), .int (zi 0)]) (rest := [.int (zi 0), .ref qo]) ⟨hx, hb, hml, hown, hts⟩ hh1 (cwV 2 hts gL_write_X4_write rfl rfl rfl (by decide +kernel) ⟨Nat.le_of_ble_eq_true rfl, Nat.le_of_ble_eq_true rfl⟩) ⟨zPw.blind _ _ _ _ _, va_recv hKc hPc (ci := 4) (q0 := 0) rfl rfl, fun U hU hW => ⟨rfl, by rw [hU], by rw [hU]; exact hPc, va_K.moved hW.alike hKc, hDc.weaken (fun _ _ _ _ => trivial)⟩⟩ rfl rfl hl.1 rfl (lv_room (Nat.le_of_ble_eq_true rfl)) dL_write_5 ⟨Nat.le_of_ble_eq_true rfl, Nat.le_of_ble_eq_true rfl⟩) hS (fun q _ h => hFc q h) hFc (fun r1 u t H1 locs ht hvm hw hB hz1 hk1 hS => ?_)
  obtain ⟨hP1, hK1, hD1⟩ := hB
  rw [ht] at hP1
  obtain ⟨hP, hD⟩ := va_join (wr := [(qo, aL cL 1 of)]) (w1 := [(h0, .inr (4, [.ref qs, .ref qr, .ref qm, .ref qw, .ref qt, .int (zi we)])), (qs, aI cI 10 sf), (qw, .inr (1, [.ref wc, .int (zi ((((((((((0 + 1) + 1) + 1) + 1) + 1) + 1) + 1) + 1) + 1) + 1))])), (wc, aI cI 20 (zup (zup (zup (zup (zup (zup (zup (zup (zup (zup wf (Int.toNat 0) (48 + (((f_X0_yearOf (sf sl.toNat)) / 1000) % 10))) (Int.toNat (0 + 1)) (48 + (((f_X0_yearOf (sf sl.toNat)) / 100) % 10))) (Int.toNat ((0 + 1) + 1)) (48 + (((f_X0_yearOf (sf sl.toNat)) / 10) % 10))) (Int.toNat (((0 + 1) + 1) + 1)) (48 + (((f_X0_yearOf (sf sl.toNat)) / 1) % 10))) (Int.toNat ((((0 + 1) + 1) + 1) + 1)) 45) (Int.toNat (((((0 + 1) + 1) + 1) + 1) + 1)) (48 + (((f_X0_monthOf (sf sl.toNat)) / 10) % 10))) (Int.toNat ((((((0 + 1) + 1) + 1) + 1) + 1) + 1)) (48 + (((f_X0_monthOf (sf sl.toNat)) / 1) % 10))) (Int.toNat (((((((0 + 1) + 1) + 1) + 1) + 1) + 1) + 1)) 45) (Int.toNat ((((((((0 + 1) + 1) + 1) + 1) + 1) + 1) + 1) + 1)) (48 + (((f_X0_dayOf (sf sl.toNat)) / 10) % 10))) (Int.toNat (((((((((0 + 1) + 1) + 1) + 1) + 1) + 1) + 1) + 1) + 1)) (48 + (((f_X0_dayOf (sf sl.toNat)) / 1) % 10))))]) hP hD [0, 1, 2, 3] [4] rfl rfl (by decide) (by decide) hk1 hFc hP1 hD1
  generalize H1 = H at hP hS ⊢
  obtain rfl : r1 = zi ((((((((((0 + 1) + 1) + 1) + 1) + 1) + 1) + 1) + 1) + 1) + 1) := hw
  have hP : va_P (dC, dI) vwCl [(qo, aL cL 1 of), (h0, .inr (4, [.ref qs, .ref qr, .ref qm, .ref qw, .ref qt, .int (zi we)])), (qs, aI cI 10 sf), (qw, .inr (1, [.ref wc, .int (zi ((((((((((0 + 1) + 1) + 1) + 1) + 1) + 1) + 1) + 1) + 1) + 1))])), (wc, aI cI 20 (zup (zup (zup (zup (zup (zup (zup (zup (zup (zup wf (Int.toNat 0) (48 + (((f_X0_yearOf (sf sl.toNat)) / 1000) % 10))) (Int.toNat (0 + 1)) (48 + (((f_X0_yearOf (sf sl.toNat)) / 100) % 10))) (Int.toNat ((0 + 1) + 1)) (48 + (((f_X0_yearOf (sf sl.toNat)) / 10) % 10))) (Int.toNat (((0 + 1) + 1) + 1)) (48 + (((f_X0_yearOf (sf sl.toNat)) / 1) % 10))) (Int.toNat ((((0 + 1) + 1) + 1) + 1)) 45) (Int.toNat (((((0 + 1) + 1) + 1) + 1) + 1)) (48 + (((f_X0_monthOf (sf sl.toNat)) / 10) % 10))) (Int.toNat ((((((0 + 1) + 1) + 1) + 1) + 1) + 1)) (48 + (((f_X0_monthOf (sf sl.toNat)) / 1) % 10))) (Int.toNat (((((((0 + 1) + 1) + 1) + 1) + 1) + 1) + 1)) 45) (Int.toNat ((((((((0 + 1) + 1) + 1) + 1) + 1) + 1) + 1) + 1)) (48 + (((f_X0_dayOf (sf sl.toNat)) / 10) % 10))) (Int.toNat (((((((((0 + 1) + 1) + 1) + 1) + 1) + 1) + 1) + 1) + 1)) (48 + (((f_X0_dayOf (sf sl.toNat)) / 1) % 10))))] H := hP
  have hD : va_D A [(qo, aL cL 1 of), (h0, .inr (4, [.ref qs, .ref qr, .ref qm, .ref qw, .ref qt, .int (zi we)])), (qs, aI cI 10 sf), (qw, .inr (1, [.ref wc, .int (zi ((((((((((0 + 1) + 1) + 1) + 1) + 1) + 1) + 1) + 1) + 1) + 1))])), (wc, aI cI 20 (zup (zup (zup (zup (zup (zup (zup (zup (zup (zup wf (Int.toNat 0) (48 + (((f_X0_yearOf (sf sl.toNat)) / 1000) % 10))) (Int.toNat (0 + 1)) (48 + (((f_X0_yearOf (sf sl.toNat)) / 100) % 10))) (Int.toNat ((0 + 1) + 1)) (48 + (((f_X0_yearOf (sf sl.toNat)) / 10) % 10))) (Int.toNat (((0 + 1) + 1) + 1)) (48 + (((f_X0_yearOf (sf sl.toNat)) / 1) % 10))) (Int.toNat ((((0 + 1) + 1) + 1) + 1)) 45) (Int.toNat (((((0 + 1) + 1) + 1) + 1) + 1)) (48 + (((f_X0_monthOf (sf sl.toNat)) / 10) % 10))) (Int.toNat ((((((0 + 1) + 1) + 1) + 1) + 1) + 1)) (48 + (((f_X0_monthOf (sf sl.toNat)) / 1) % 10))) (Int.toNat (((((((0 + 1) + 1) + 1) + 1) + 1) + 1) + 1)) 45) (Int.toNat ((((((((0 + 1) + 1) + 1) + 1) + 1) + 1) + 1) + 1)) (48 + (((f_X0_dayOf (sf sl.toNat)) / 10) % 10))) (Int.toNat (((((((((0 + 1) + 1) + 1) + 1) + 1) + 1) + 1) + 1) + 1)) (48 + (((f_X0_dayOf (sf sl.toNat)) / 1) % 10))))] := hD
  refine zw_i2l hx hb dL_write_8 ⟨by omega, by omega⟩ ?_
  refine zw_last hx hb hK hP hD hS 0 1 rfl rfl (by omega) (by omega) ⟨by omega, by omega⟩ dL_write_9 (fun H locs hP hD hS => ?_)
  have hP : va_P (dC, dI) vwCl [(qo, aL cL 1 (zup of (Int.toNat 0) ((((((((((0 + 1) + 1) + 1) + 1) + 1) + 1) + 1) + 1) + 1) + 1))), (h0, .inr (4, [.ref qs, .ref qr, .ref qm, .ref qw, .ref qt, .int (zi we)])), (qs, aI cI 10 sf), (qw, .inr (1, [.ref wc, .int (zi ((((((((((0 + 1) + 1) + 1) + 1) + 1) + 1) + 1) + 1) + 1) + 1))])), (wc, aI cI 20 (zup (zup (zup (zup (zup (zup (zup (zup (zup (zup wf (Int.toNat 0) (48 + (((f_X0_yearOf (sf sl.toNat)) / 1000) % 10))) (Int.toNat (0 + 1)) (48 + (((f_X0_yearOf (sf sl.toNat)) / 100) % 10))) (Int.toNat ((0 + 1) + 1)) (48 + (((f_X0_yearOf (sf sl.toNat)) / 10) % 10))) (Int.toNat (((0 + 1) + 1) + 1)) (48 + (((f_X0_yearOf (sf sl.toNat)) / 1) % 10))) (Int.toNat ((((0 + 1) + 1) + 1) + 1)) 45) (Int.toNat (((((0 + 1) + 1) + 1) + 1) + 1)) (48 + (((f_X0_monthOf (sf sl.toNat)) / 10) % 10))) (Int.toNat ((((((0 + 1) + 1) + 1) + 1) + 1) + 1)) (48 + (((f_X0_monthOf (sf sl.toNat)) / 1) % 10))) (Int.toNat (((((((0 + 1) + 1) + 1) + 1) + 1) + 1) + 1)) 45) (Int.toNat ((((((((0 + 1) + 1) + 1) + 1) + 1) + 1) + 1) + 1)) (48 + (((f_X0_dayOf (sf sl.toNat)) / 10) % 10))) (Int.toNat (((((((((0 + 1) + 1) + 1) + 1) + 1) + 1) + 1) + 1) + 1)) (48 + (((f_X0_dayOf (sf sl.toNat)) / 1) % 10))))] H := hP
  have hD : va_D A [(qo, aL cL 1 (zup of (Int.toNat 0) ((((((((((0 + 1) + 1) + 1) + 1) + 1) + 1) + 1) + 1) + 1) + 1))), (h0, .inr (4, [.ref qs, .ref qr, .ref qm, .ref qw, .ref qt, .int (zi we)])), (qs, aI cI 10 sf), (qw, .inr (1, [.ref wc, .int (zi ((((((((((0 + 1) + 1) + 1) + 1) + 1) + 1) + 1) + 1) + 1) + 1))])), (wc, aI cI 20 (zup (zup (zup (zup (zup (zup (zup (zup (zup (zup wf (Int.toNat 0) (48 + (((f_X0_yearOf (sf sl.toNat)) / 1000) % 10))) (Int.toNat (0 + 1)) (48 + (((f_X0_yearOf (sf sl.toNat)) / 100) % 10))) (Int.toNat ((0 + 1) + 1)) (48 + (((f_X0_yearOf (sf sl.toNat)) / 10) % 10))) (Int.toNat (((0 + 1) + 1) + 1)) (48 + (((f_X0_yearOf (sf sl.toNat)) / 1) % 10))) (Int.toNat ((((0 + 1) + 1) + 1) + 1)) 45) (Int.toNat (((((0 + 1) + 1) + 1) + 1) + 1)) (48 + (((f_X0_monthOf (sf sl.toNat)) / 10) % 10))) (Int.toNat ((((((0 + 1) + 1) + 1) + 1) + 1) + 1)) (48 + (((f_X0_monthOf (sf sl.toNat)) / 1) % 10))) (Int.toNat (((((((0 + 1) + 1) + 1) + 1) + 1) + 1) + 1)) 45) (Int.toNat ((((((((0 + 1) + 1) + 1) + 1) + 1) + 1) + 1) + 1)) (48 + (((f_X0_dayOf (sf sl.toNat)) / 10) % 10))) (Int.toNat (((((((((0 + 1) + 1) + 1) + 1) + 1) + 1) + 1) + 1) + 1)) (48 + (((f_X0_dayOf (sf sl.toNat)) / 1) % 10))))] := hD
  refine lv_goto (tgt := 25) hx hb dL_write_10 (by decide) ?_
  refine zw_iconst hx hb dL_write_25 ?_
  have hP9 := hP.sub (ws' := [(h0, .inr (4, [.ref qs, .ref qr, .ref qm, .ref qw, .ref qt, .int (zi we)])), (qs, aI cI 10 sf), (qw, .inr (1, [.ref wc, .int (zi ((((((((((0 + 1) + 1) + 1) + 1) + 1) + 1) + 1) + 1) + 1) + 1))])), (wc, aI cI 20 (zup (zup (zup (zup (zup (zup (zup (zup (zup (zup wf (Int.toNat 0) (48 + (((f_X0_yearOf (sf sl.toNat)) / 1000) % 10))) (Int.toNat (0 + 1)) (48 + (((f_X0_yearOf (sf sl.toNat)) / 100) % 10))) (Int.toNat ((0 + 1) + 1)) (48 + (((f_X0_yearOf (sf sl.toNat)) / 10) % 10))) (Int.toNat (((0 + 1) + 1) + 1)) (48 + (((f_X0_yearOf (sf sl.toNat)) / 1) % 10))) (Int.toNat ((((0 + 1) + 1) + 1) + 1)) 45) (Int.toNat (((((0 + 1) + 1) + 1) + 1) + 1)) (48 + (((f_X0_monthOf (sf sl.toNat)) / 10) % 10))) (Int.toNat ((((((0 + 1) + 1) + 1) + 1) + 1) + 1)) (48 + (((f_X0_monthOf (sf sl.toNat)) / 1) % 10))) (Int.toNat (((((((0 + 1) + 1) + 1) + 1) + 1) + 1) + 1)) 45) (Int.toNat ((((((((0 + 1) + 1) + 1) + 1) + 1) + 1) + 1) + 1)) (48 + (((f_X0_dayOf (sf sl.toNat)) / 10) % 10))) (Int.toNat (((((((((0 + 1) + 1) + 1) + 1) + 1) + 1) + 1) + 1) + 1)) (48 + (((f_X0_dayOf (sf sl.toNat)) / 1) % 10)))), (qo, aL cL 1 (zup of (Int.toNat 0) ((((((((((0 + 1) + 1) + 1) + 1) + 1) + 1) + 1) + 1) + 1) + 1)))]) [1, 2, 3, 4, 0] rfl
  have hD9 := hD.sub (ws' := [(h0, .inr (4, [.ref qs, .ref qr, .ref qm, .ref qw, .ref qt, .int (zi we)])), (qs, aI cI 10 sf), (qw, .inr (1, [.ref wc, .int (zi ((((((((((0 + 1) + 1) + 1) + 1) + 1) + 1) + 1) + 1) + 1) + 1))])), (wc, aI cI 20 (zup (zup (zup (zup (zup (zup (zup (zup (zup (zup wf (Int.toNat 0) (48 + (((f_X0_yearOf (sf sl.toNat)) / 1000) % 10))) (Int.toNat (0 + 1)) (48 + (((f_X0_yearOf (sf sl.toNat)) / 100) % 10))) (Int.toNat ((0 + 1) + 1)) (48 + (((f_X0_yearOf (sf sl.toNat)) / 10) % 10))) (Int.toNat (((0 + 1) + 1) + 1)) (48 + (((f_X0_yearOf (sf sl.toNat)) / 1) % 10))) (Int.toNat ((((0 + 1) + 1) + 1) + 1)) 45) (Int.toNat (((((0 + 1) + 1) + 1) + 1) + 1)) (48 + (((f_X0_monthOf (sf sl.toNat)) / 10) % 10))) (Int.toNat ((((((0 + 1) + 1) + 1) + 1) + 1) + 1)) (48 + (((f_X0_monthOf (sf sl.toNat)) / 1) % 10))) (Int.toNat (((((((0 + 1) + 1) + 1) + 1) + 1) + 1) + 1)) 45) (Int.toNat ((((((((0 + 1) + 1) + 1) + 1) + 1) + 1) + 1) + 1)) (48 + (((f_X0_dayOf (sf sl.toNat)) / 10) % 10))) (Int.toNat (((((((((0 + 1) + 1) + 1) + 1) + 1) + 1) + 1) + 1) + 1)) (48 + (((f_X0_dayOf (sf sl.toNat)) / 1) % 10)))), (qo, aL cL 1 (zup of (Int.toNat 0) ((((((((((0 + 1) + 1) + 1) + 1) + 1) + 1) + 1) + 1) + 1) + 1)))]) [1, 2, 3, 4, 0] (by decide) rfl
  exact W.iret (v := zi 0) hx hb hr (fun t ht hW => ⟨⟨zi 0, (), rfl, rfl, by rw [ht]; exact hP9, va_K.moved hW.alike hK, hD9⟩, hS.F ht⟩) hS.2.2 dL_write_26

set_option maxHeartbeats 4000000 in
set_option maxRecDepth 100000 in
theorem c_L_write_ok1 (l : Launch)  (dC : Nat → ClassId) (dI : Nat → Nat → Nat) (cI : ClassId) (cL : ClassId) (h0 : Nat) (qs : Nat) (qr : Nat) (qm : Nat) (qw : Nat) (qt : Nat) (we : Int) (sf : Nat → Int) (wc : Nat) (wl : Int) (wf : Nat → Int) (qo : Nat) (of : Nat → Int) (sl : Int) (sz : Nat) (hp0 : 0 ≤ sl ∧ sl ≤ 9) (hp1 : 0 ≤ sf sl.toNat ∧ sf sl.toNat ≤ 3652058) : Met l yL_write wsL_write ({ frames := 6, cells := 0, slots := 0, locals := 130 }) (zPw (dC, dI) [(cI, .int), (cL, .long)] sz [.ref h0, .int (zi sl), .int (zi 1), .ref qo] [(h0, .inr (4, [.ref qs, .ref qr, .ref qm, .ref qw, .ref qt, .int (zi we)])), (qs, aI cI 10 sf), (qw, .inr (1, [.ref wc, .int (zi wl)])), (wc, aI cI 20 wf), (qo, aL cL 1 of)]) (va_Qi (fun (r : Int32) (_ : Unit) => r = zi 0) (zB (dC, dI) [(cI, .int), (cL, .long)] (va_A [(h0, .inr (4, [.ref qs, .ref qr, .ref qm, .ref qw, .ref qt, .int (zi we)])), (qs, aI cI 10 sf), (qw, .inr (1, [.ref wc, .int (zi wl)])), (wc, aI cI 20 wf), (qo, aL cL 1 of)] sz) [(h0, .inr (4, [.ref qs, .ref qr, .ref qm, .ref qw, .ref qt, .int (zi we)])), (qs, aI cI 10 sf), (qw, .inr (1, [.ref wc, .int (zi ((((((((((0 + 1) + 1) + 1) + 1) + 1) + 1) + 1) + 1) + 1) + 1))])), (wc, aI cI 20 (zup (zup (zup (zup (zup (zup (zup (zup (zup (zup wf (Int.toNat 0) (48 + (((f_X0_weekYearOf (sf sl.toNat)) / 1000) % 10))) (Int.toNat (0 + 1)) (48 + (((f_X0_weekYearOf (sf sl.toNat)) / 100) % 10))) (Int.toNat ((0 + 1) + 1)) (48 + (((f_X0_weekYearOf (sf sl.toNat)) / 10) % 10))) (Int.toNat (((0 + 1) + 1) + 1)) (48 + (((f_X0_weekYearOf (sf sl.toNat)) / 1) % 10))) (Int.toNat ((((0 + 1) + 1) + 1) + 1)) 45) (Int.toNat (((((0 + 1) + 1) + 1) + 1) + 1)) 87) (Int.toNat ((((((0 + 1) + 1) + 1) + 1) + 1) + 1)) (48 + (((f_X0_weekOf (sf sl.toNat)) / 10) % 10))) (Int.toNat (((((((0 + 1) + 1) + 1) + 1) + 1) + 1) + 1)) (48 + (((f_X0_weekOf (sf sl.toNat)) / 1) % 10))) (Int.toNat ((((((((0 + 1) + 1) + 1) + 1) + 1) + 1) + 1) + 1)) 45) (Int.toNat (((((((((0 + 1) + 1) + 1) + 1) + 1) + 1) + 1) + 1) + 1)) (48 + (((f_X0_weekdayOf (sf sl.toNat)) / 1) % 10)))), (qo, aL cL 1 (zup of (Int.toNat 0) ((((((((((0 + 1) + 1) + 1) + 1) + 1) + 1) + 1) + 1) + 1) + 1)))]) (va_A [(h0, .inr (4, [.ref qs, .ref qr, .ref qm, .ref qw, .ref qt, .int (zi we)])), (qs, aI cI 10 sf), (qw, .inr (1, [.ref wc, .int (zi wl)])), (wc, aI cI 20 wf), (qo, aL cL 1 of)] sz)) 0 0 (va_A [(h0, .inr (4, [.ref qs, .ref qr, .ref qm, .ref qw, .ref qt, .int (zi we)])), (qs, aI cI 10 sf), (qw, .inr (1, [.ref wc, .int (zi wl)])), (wc, aI cI 20 wf), (qo, aL cL 1 of)] sz) := by
  refine va_MetW (hh := [(0, 10, 13, 13), (0, 10, 17, 15), (0, 10, 21, 35)]) (cc := cL_write) (maxL := 5) (ret := (some .int)) (by decide) rfl ?_
  intro p e s m args below meth c s₁ B hml hv
  obtain ⟨rfl, hsz, hP, hK, hD0⟩ := hv
  have hx := B.exec
  have hb := B.bytes
  have hr := B.returns
  have hts := atoms_spec (ws := wsL_write) B.pre
  have hown : s.vm.findClass RL = some m.cls := findClass_of_methodNamed B.named
  have hlocks := B.notSynchronized
  subst hsz
  have hD := hD0.self (sz := s.heap.size)
  generalize hAe : va_A [(h0, .inr (4, [.ref qs, .ref qr, .ref qm, .ref qw, .ref qt, .int (zi we)])), (qs, aI cI 10 sf), (qw, .inr (1, [.ref wc, .int (zi wl)])), (wc, aI cI 20 wf), (qo, aL cL 1 of)] s.heap.size = A at hD ⊢
  have hA : ∀ q : Nat, s.heap.size ≤ q → A q := fun q h => by rw [← hAe]; exact Or.inr h
  have hS : va_S A s.heap s.heap [] := va_S.rf
  have hP : va_P (dC, dI) vwCl [(h0, .inr (4, [.ref qs, .ref qr, .ref qm, .ref qw, .ref qt, .int (zi we)])), (qs, aI cI 10 sf), (qw, .inr (1, [.ref wc, .int (zi wl)])), (wc, aI cI 20 wf), (qo, aL cL 1 of)] s.heap := hP
  have hl := lv_entry ([.ref h0, .int (zi sl), .int (zi 1), .ref qo]) (n := 5) (Nat.le_of_ble_eq_true rfl)
  rw [lg_entry_eq]
  generalize (lg_sl ([.ref h0, .int (zi sl), .int (zi 1), .ref qo]) ++ List.replicate (5 - (lg_sl ([.ref h0, .int (zi sl), .int (zi 1), .ref qo])).length) Slot.unset).toArray = ls at hl ⊢
  have hl : lv_has ls 5 [(0, .ref h0), (1, .int (zi sl)), (2, .int (zi 1)), (3, .ref qo)] := hl
  refine lv_aload_n hx hb dL_write_0 rfl (lv_at hl 3 rfl) ?_
  refine zw_iconst hx hb dL_write_1 ?_
  refine lv_aload_n hx hb dL_write_2 rfl (lv_at hl 0 rfl) ?_
  refine lv_iload_n hx hb dL_write_3 rfl (lv_at hl 1 rfl) ?_
  refine lv_iload_n hx hb dL_write_4 rfl (lv_at hl 2 rfl) ?_
  have hh1 := c_X4_write_1 l dC dI cI h0 qs qr qm qw qt we sf wc wl wf sl s.heap.size (by omega) (by omega)
  have hPc := hP.sub (ws' := [(h0, .inr (4, [.ref qs, .ref qr, .ref qm, .ref qw, .ref qt, .int (zi we)])), (qs, aI cI 10 sf), (qw, .inr (1, [.ref wc, .int (zi wl)])), (wc, aI cI 20 wf)]) [0, 1, 2, 3] rfl
  have hKc : va_K (dC, dI) vwCl [(cI, .int)] s := hK.sub (tys' := [(cI, .int)]) [0] rfl
  have hDc := hD.sub (ws' := [(h0, .inr (4, [.ref qs, .ref qr, .ref qm, .ref qw, .ref qt, .int (zi we)])), (qs, aI cI 10 sf), (qw, .inr (1, [.ref wc, .int (zi wl)])), (wc, aI cI 20 wf)]) [0, 1, 2, 3] (by decide) rfl
  have hFc := va_free (wc := [(h0, .inr (4, [.ref qs, .ref qr, .ref qm, .ref qw, .ref qt, .int (zi we)])), (qs, aI cI 10 sf), (qw, .inr (1, [.ref wc, .int (zi wl)])), (wc, aI cI 20 wf)]) hD hS hA [0, 1, 2, 3] rfl
  refine va_calli (va_runV (As := [.int (zi sl), .int (zi 1)]) (rest := [.int (zi 0), .ref qo]) ⟨hx, hb, hml, hown, hts⟩ hh1 (cwV 2 hts gL_write_X4_write rfl rfl rfl (by decide +kernel) ⟨Nat.le_of_ble_eq_true rfl, Nat.le_of_ble_eq_true rfl⟩) ⟨zPw.blind _ _ _ _ _, va_recv hKc hPc (ci := 4) (q0 := 0) rfl rfl, fun U hU hW => ⟨rfl, by rw [hU], by rw [hU]; exact hPc, va_K.moved hW.alike hKc, hDc.weaken (fun _ _ _ _ => trivial)⟩⟩ rfl rfl hl.1 rfl (lv_room (Nat.le_of_ble_eq_true rfl)) dL_write_5 ⟨Nat.le_of_ble_eq_true rfl, Nat.le_of_ble_eq_true rfl⟩) hS (fun q _ h => hFc q h) hFc (fun r1 u t H1 locs ht hvm hw hB hz1 hk1 hS => ?_)
  obtain ⟨hP1, hK1, hD1⟩ := hB
  rw [ht] at hP1
  obtain ⟨hP, hD⟩ := va_join (wr := [(qo, aL cL 1 of)]) (w1 := [(h0, .inr (4, [.ref qs, .ref qr, .ref qm, .ref qw, .ref qt, .int (zi we)])), (qs, aI cI 10 sf), (qw, .inr (1, [.ref wc, .int (zi ((((((((((0 + 1) + 1) + 1) + 1) + 1) + 1) + 1) + 1) + 1) + 1))])), (wc, aI cI 20 (zup (zup (zup (zup (zup (zup (zup (zup (zup (zup wf (Int.toNat 0) (48 + (((f_X0_weekYearOf (sf sl.toNat)) / 1000) % 10))) (Int.toNat (0 + 1)) (48 + (((f_X0_weekYearOf (sf sl.toNat)) / 100) % 10))) (Int.toNat ((0 + 1) + 1)) (48 + (((f_X0_weekYearOf (sf sl.toNat)) / 10) % 10))) (Int.toNat (((0 + 1) + 1) + 1)) (48 + (((f_X0_weekYearOf (sf sl.toNat)) / 1) % 10))) (Int.toNat ((((0 + 1) + 1) + 1) + 1)) 45) (Int.toNat (((((0 + 1) + 1) + 1) + 1) + 1)) 87) (Int.toNat ((((((0 + 1) + 1) + 1) + 1) + 1) + 1)) (48 + (((f_X0_weekOf (sf sl.toNat)) / 10) % 10))) (Int.toNat (((((((0 + 1) + 1) + 1) + 1) + 1) + 1) + 1)) (48 + (((f_X0_weekOf (sf sl.toNat)) / 1) % 10))) (Int.toNat ((((((((0 + 1) + 1) + 1) + 1) + 1) + 1) + 1) + 1)) 45) (Int.toNat (((((((((0 + 1) + 1) + 1) + 1) + 1) + 1) + 1) + 1) + 1)) (48 + (((f_X0_weekdayOf (sf sl.toNat)) / 1) % 10))))]) hP hD [0, 1, 2, 3] [4] rfl rfl (by decide) (by decide) hk1 hFc hP1 hD1
  generalize H1 = H at hP hS ⊢
  obtain rfl : r1 = zi ((((((((((0 + 1) + 1) + 1) + 1) + 1) + 1) + 1) + 1) + 1) + 1) := hw
  have hP : va_P (dC, dI) vwCl [(qo, aL cL 1 of), (h0, .inr (4, [.ref qs, .ref qr, .ref qm, .ref qw, .ref qt, .int (zi we)])), (qs, aI cI 10 sf), (qw, .inr (1, [.ref wc, .int (zi ((((((((((0 + 1) + 1) + 1) + 1) + 1) + 1) + 1) + 1) + 1) + 1))])), (wc, aI cI 20 (zup (zup (zup (zup (zup (zup (zup (zup (zup (zup wf (Int.toNat 0) (48 + (((f_X0_weekYearOf (sf sl.toNat)) / 1000) % 10))) (Int.toNat (0 + 1)) (48 + (((f_X0_weekYearOf (sf sl.toNat)) / 100) % 10))) (Int.toNat ((0 + 1) + 1)) (48 + (((f_X0_weekYearOf (sf sl.toNat)) / 10) % 10))) (Int.toNat (((0 + 1) + 1) + 1)) (48 + (((f_X0_weekYearOf (sf sl.toNat)) / 1) % 10))) (Int.toNat ((((0 + 1) + 1) + 1) + 1)) 45) (Int.toNat (((((0 + 1) + 1) + 1) + 1) + 1)) 87) (Int.toNat ((((((0 + 1) + 1) + 1) + 1) + 1) + 1)) (48 + (((f_X0_weekOf (sf sl.toNat)) / 10) % 10))) (Int.toNat (((((((0 + 1) + 1) + 1) + 1) + 1) + 1) + 1)) (48 + (((f_X0_weekOf (sf sl.toNat)) / 1) % 10))) (Int.toNat ((((((((0 + 1) + 1) + 1) + 1) + 1) + 1) + 1) + 1)) 45) (Int.toNat (((((((((0 + 1) + 1) + 1) + 1) + 1) + 1) + 1) + 1) + 1)) (48 + (((f_X0_weekdayOf (sf sl.toNat)) / 1) % 10))))] H := hP
  have hD : va_D A [(qo, aL cL 1 of), (h0, .inr (4, [.ref qs, .ref qr, .ref qm, .ref qw, .ref qt, .int (zi we)])), (qs, aI cI 10 sf), (qw, .inr (1, [.ref wc, .int (zi ((((((((((0 + 1) + 1) + 1) + 1) + 1) + 1) + 1) + 1) + 1) + 1))])), (wc, aI cI 20 (zup (zup (zup (zup (zup (zup (zup (zup (zup (zup wf (Int.toNat 0) (48 + (((f_X0_weekYearOf (sf sl.toNat)) / 1000) % 10))) (Int.toNat (0 + 1)) (48 + (((f_X0_weekYearOf (sf sl.toNat)) / 100) % 10))) (Int.toNat ((0 + 1) + 1)) (48 + (((f_X0_weekYearOf (sf sl.toNat)) / 10) % 10))) (Int.toNat (((0 + 1) + 1) + 1)) (48 + (((f_X0_weekYearOf (sf sl.toNat)) / 1) % 10))) (Int.toNat ((((0 + 1) + 1) + 1) + 1)) 45) (Int.toNat (((((0 + 1) + 1) + 1) + 1) + 1)) 87) (Int.toNat ((((((0 + 1) + 1) + 1) + 1) + 1) + 1)) (48 + (((f_X0_weekOf (sf sl.toNat)) / 10) % 10))) (Int.toNat (((((((0 + 1) + 1) + 1) + 1) + 1) + 1) + 1)) (48 + (((f_X0_weekOf (sf sl.toNat)) / 1) % 10))) (Int.toNat ((((((((0 + 1) + 1) + 1) + 1) + 1) + 1) + 1) + 1)) 45) (Int.toNat (((((((((0 + 1) + 1) + 1) + 1) + 1) + 1) + 1) + 1) + 1)) (48 + (((f_X0_weekdayOf (sf sl.toNat)) / 1) % 10))))] := hD
  refine zw_i2l hx hb dL_write_8 ⟨by omega, by omega⟩ ?_
  refine zw_last hx hb hK hP hD hS 0 1 rfl rfl (by omega) (by omega) ⟨by omega, by omega⟩ dL_write_9 (fun H locs hP hD hS => ?_)
  have hP : va_P (dC, dI) vwCl [(qo, aL cL 1 (zup of (Int.toNat 0) ((((((((((0 + 1) + 1) + 1) + 1) + 1) + 1) + 1) + 1) + 1) + 1))), (h0, .inr (4, [.ref qs, .ref qr, .ref qm, .ref qw, .ref qt, .int (zi we)])), (qs, aI cI 10 sf), (qw, .inr (1, [.ref wc, .int (zi ((((((((((0 + 1) + 1) + 1) + 1) + 1) + 1) + 1) + 1) + 1) + 1))])), (wc, aI cI 20 (zup (zup (zup (zup (zup (zup (zup (zup (zup (zup wf (Int.toNat 0) (48 + (((f_X0_weekYearOf (sf sl.toNat)) / 1000) % 10))) (Int.toNat (0 + 1)) (48 + (((f_X0_weekYearOf (sf sl.toNat)) / 100) % 10))) (Int.toNat ((0 + 1) + 1)) (48 + (((f_X0_weekYearOf (sf sl.toNat)) / 10) % 10))) (Int.toNat (((0 + 1) + 1) + 1)) (48 + (((f_X0_weekYearOf (sf sl.toNat)) / 1) % 10))) (Int.toNat ((((0 + 1) + 1) + 1) + 1)) 45) (Int.toNat (((((0 + 1) + 1) + 1) + 1) + 1)) 87) (Int.toNat ((((((0 + 1) + 1) + 1) + 1) + 1) + 1)) (48 + (((f_X0_weekOf (sf sl.toNat)) / 10) % 10))) (Int.toNat (((((((0 + 1) + 1) + 1) + 1) + 1) + 1) + 1)) (48 + (((f_X0_weekOf (sf sl.toNat)) / 1) % 10))) (Int.toNat ((((((((0 + 1) + 1) + 1) + 1) + 1) + 1) + 1) + 1)) 45) (Int.toNat (((((((((0 + 1) + 1) + 1) + 1) + 1) + 1) + 1) + 1) + 1)) (48 + (((f_X0_weekdayOf (sf sl.toNat)) / 1) % 10))))] H := hP
  have hD : va_D A [(qo, aL cL 1 (zup of (Int.toNat 0) ((((((((((0 + 1) + 1) + 1) + 1) + 1) + 1) + 1) + 1) + 1) + 1))), (h0, .inr (4, [.ref qs, .ref qr, .ref qm, .ref qw, .ref qt, .int (zi we)])), (qs, aI cI 10 sf), (qw, .inr (1, [.ref wc, .int (zi ((((((((((0 + 1) + 1) + 1) + 1) + 1) + 1) + 1) + 1) + 1) + 1))])), (wc, aI cI 20 (zup (zup (zup (zup (zup (zup (zup (zup (zup (zup wf (Int.toNat 0) (48 + (((f_X0_weekYearOf (sf sl.toNat)) / 1000) % 10))) (Int.toNat (0 + 1)) (48 + (((f_X0_weekYearOf (sf sl.toNat)) / 100) % 10))) (Int.toNat ((0 + 1) + 1)) (48 + (((f_X0_weekYearOf (sf sl.toNat)) / 10) % 10))) (Int.toNat (((0 + 1) + 1) + 1)) (48 + (((f_X0_weekYearOf (sf sl.toNat)) / 1) % 10))) (Int.toNat ((((0 + 1) + 1) + 1) + 1)) 45) (Int.toNat (((((0 + 1) + 1) + 1) + 1) + 1)) 87) (Int.toNat ((((((0 + 1) + 1) + 1) + 1) + 1) + 1)) (48 + (((f_X0_weekOf (sf sl.toNat)) / 10) % 10))) (Int.toNat (((((((0 + 1) + 1) + 1) + 1) + 1) + 1) + 1)) (48 + (((f_X0_weekOf (sf sl.toNat)) / 1) % 10))) (Int.toNat ((((((((0 + 1) + 1) + 1) + 1) + 1) + 1) + 1) + 1)) 45) (Int.toNat (((((((((0 + 1) + 1) + 1) + 1) + 1) + 1) + 1) + 1) + 1)) (48 + (((f_X0_weekdayOf (sf sl.toNat)) / 1) % 10))))] := hD
  refine lv_goto (tgt := 25) hx hb dL_write_10 (by decide) ?_
  refine zw_iconst hx hb dL_write_25 ?_
  have hP9 := hP.sub (ws' := [(h0, .inr (4, [.ref qs, .ref qr, .ref qm, .ref qw, .ref qt, .int (zi we)])), (qs, aI cI 10 sf), (qw, .inr (1, [.ref wc, .int (zi ((((((((((0 + 1) + 1) + 1) + 1) + 1) + 1) + 1) + 1) + 1) + 1))])), (wc, aI cI 20 (zup (zup (zup (zup (zup (zup (zup (zup (zup (zup wf (Int.toNat 0) (48 + (((f_X0_weekYearOf (sf sl.toNat)) / 1000) % 10))) (Int.toNat (0 + 1)) (48 + (((f_X0_weekYearOf (sf sl.toNat)) / 100) % 10))) (Int.toNat ((0 + 1) + 1)) (48 + (((f_X0_weekYearOf (sf sl.toNat)) / 10) % 10))) (Int.toNat (((0 + 1) + 1) + 1)) (48 + (((f_X0_weekYearOf (sf sl.toNat)) / 1) % 10))) (Int.toNat ((((0 + 1) + 1) + 1) + 1)) 45) (Int.toNat (((((0 + 1) + 1) + 1) + 1) + 1)) 87) (Int.toNat ((((((0 + 1) + 1) + 1) + 1) + 1) + 1)) (48 + (((f_X0_weekOf (sf sl.toNat)) / 10) % 10))) (Int.toNat (((((((0 + 1) + 1) + 1) + 1) + 1) + 1) + 1)) (48 + (((f_X0_weekOf (sf sl.toNat)) / 1) % 10))) (Int.toNat ((((((((0 + 1) + 1) + 1) + 1) + 1) + 1) + 1) + 1)) 45) (Int.toNat (((((((((0 + 1) + 1) + 1) + 1) + 1) + 1) + 1) + 1) + 1)) (48 + (((f_X0_weekdayOf (sf sl.toNat)) / 1) % 10)))), (qo, aL cL 1 (zup of (Int.toNat 0) ((((((((((0 + 1) + 1) + 1) + 1) + 1) + 1) + 1) + 1) + 1) + 1)))]) [1, 2, 3, 4, 0] rfl
  have hD9 := hD.sub (ws' := [(h0, .inr (4, [.ref qs, .ref qr, .ref qm, .ref qw, .ref qt, .int (zi we)])), (qs, aI cI 10 sf), (qw, .inr (1, [.ref wc, .int (zi ((((((((((0 + 1) + 1) + 1) + 1) + 1) + 1) + 1) + 1) + 1) + 1))])), (wc, aI cI 20 (zup (zup (zup (zup (zup (zup (zup (zup (zup (zup wf (Int.toNat 0) (48 + (((f_X0_weekYearOf (sf sl.toNat)) / 1000) % 10))) (Int.toNat (0 + 1)) (48 + (((f_X0_weekYearOf (sf sl.toNat)) / 100) % 10))) (Int.toNat ((0 + 1) + 1)) (48 + (((f_X0_weekYearOf (sf sl.toNat)) / 10) % 10))) (Int.toNat (((0 + 1) + 1) + 1)) (48 + (((f_X0_weekYearOf (sf sl.toNat)) / 1) % 10))) (Int.toNat ((((0 + 1) + 1) + 1) + 1)) 45) (Int.toNat (((((0 + 1) + 1) + 1) + 1) + 1)) 87) (Int.toNat ((((((0 + 1) + 1) + 1) + 1) + 1) + 1)) (48 + (((f_X0_weekOf (sf sl.toNat)) / 10) % 10))) (Int.toNat (((((((0 + 1) + 1) + 1) + 1) + 1) + 1) + 1)) (48 + (((f_X0_weekOf (sf sl.toNat)) / 1) % 10))) (Int.toNat ((((((((0 + 1) + 1) + 1) + 1) + 1) + 1) + 1) + 1)) 45) (Int.toNat (((((((((0 + 1) + 1) + 1) + 1) + 1) + 1) + 1) + 1) + 1)) (48 + (((f_X0_weekdayOf (sf sl.toNat)) / 1) % 10)))), (qo, aL cL 1 (zup of (Int.toNat 0) ((((((((((0 + 1) + 1) + 1) + 1) + 1) + 1) + 1) + 1) + 1) + 1)))]) [1, 2, 3, 4, 0] (by decide) rfl
  exact W.iret (v := zi 0) hx hb hr (fun t ht hW => ⟨⟨zi 0, (), rfl, rfl, by rw [ht]; exact hP9, va_K.moved hW.alike hK, hD9⟩, hS.F ht⟩) hS.2.2 dL_write_26

set_option maxHeartbeats 4000000 in
set_option maxRecDepth 100000 in
theorem c_L_write_ok2 (l : Launch)  (dC : Nat → ClassId) (dI : Nat → Nat → Nat) (cI : ClassId) (cL : ClassId) (h0 : Nat) (qs : Nat) (qr : Nat) (qm : Nat) (qw : Nat) (qt : Nat) (we : Int) (sf : Nat → Int) (wc : Nat) (wl : Int) (wf : Nat → Int) (qo : Nat) (of : Nat → Int) (sl : Int) (sz : Nat) (hp0 : 0 ≤ sl ∧ sl ≤ 9) (hp1 : 0 ≤ sf sl.toNat ∧ sf sl.toNat ≤ 3652058) : Met l yL_write wsL_write ({ frames := 5, cells := 0, slots := 0, locals := 109 }) (zPw (dC, dI) [(cI, .int), (cL, .long)] sz [.ref h0, .int (zi sl), .int (zi 2), .ref qo] [(h0, .inr (4, [.ref qs, .ref qr, .ref qm, .ref qw, .ref qt, .int (zi we)])), (qs, aI cI 10 sf), (qw, .inr (1, [.ref wc, .int (zi wl)])), (wc, aI cI 20 wf), (qo, aL cL 1 of)]) (va_Qi (fun (r : Int32) (_ : Unit) => r = zi 0) (zB (dC, dI) [(cI, .int), (cL, .long)] (va_A [(h0, .inr (4, [.ref qs, .ref qr, .ref qm, .ref qw, .ref qt, .int (zi we)])), (qs, aI cI 10 sf), (qw, .inr (1, [.ref wc, .int (zi wl)])), (wc, aI cI 20 wf), (qo, aL cL 1 of)] sz) [(h0, .inr (4, [.ref qs, .ref qr, .ref qm, .ref qw, .ref qt, .int (zi we)])), (qs, aI cI 10 sf), (qw, .inr (1, [.ref wc, .int (zi ((((((((0 + 1) + 1) + 1) + 1) + 1) + 1) + 1) + 1))])), (wc, aI cI 20 (zup (zup (zup (zup (zup (zup (zup (zup wf (Int.toNat 0) (48 + (((f_X0_yearOf (sf sl.toNat)) / 1000) % 10))) (Int.toNat (0 + 1)) (48 + (((f_X0_yearOf (sf sl.toNat)) / 100) % 10))) (Int.toNat ((0 + 1) + 1)) (48 + (((f_X0_yearOf (sf sl.toNat)) / 10) % 10))) (Int.toNat (((0 + 1) + 1) + 1)) (48 + (((f_X0_yearOf (sf sl.toNat)) / 1) % 10))) (Int.toNat ((((0 + 1) + 1) + 1) + 1)) 45) (Int.toNat (((((0 + 1) + 1) + 1) + 1) + 1)) (48 + (((f_X0_yearDayOf (sf sl.toNat)) / 100) % 10))) (Int.toNat ((((((0 + 1) + 1) + 1) + 1) + 1) + 1)) (48 + (((f_X0_yearDayOf (sf sl.toNat)) / 10) % 10))) (Int.toNat (((((((0 + 1) + 1) + 1) + 1) + 1) + 1) + 1)) (48 + (((f_X0_yearDayOf (sf sl.toNat)) / 1) % 10)))), (qo, aL cL 1 (zup of (Int.toNat 0) ((((((((0 + 1) + 1) + 1) + 1) + 1) + 1) + 1) + 1)))]) (va_A [(h0, .inr (4, [.ref qs, .ref qr, .ref qm, .ref qw, .ref qt, .int (zi we)])), (qs, aI cI 10 sf), (qw, .inr (1, [.ref wc, .int (zi wl)])), (wc, aI cI 20 wf), (qo, aL cL 1 of)] sz)) 0 0 (va_A [(h0, .inr (4, [.ref qs, .ref qr, .ref qm, .ref qw, .ref qt, .int (zi we)])), (qs, aI cI 10 sf), (qw, .inr (1, [.ref wc, .int (zi wl)])), (wc, aI cI 20 wf), (qo, aL cL 1 of)] sz) := by
  refine va_MetW (hh := [(0, 10, 13, 13), (0, 10, 17, 15), (0, 10, 21, 35)]) (cc := cL_write) (maxL := 5) (ret := (some .int)) (by decide) rfl ?_
  intro p e s m args below meth c s₁ B hml hv
  obtain ⟨rfl, hsz, hP, hK, hD0⟩ := hv
  have hx := B.exec
  have hb := B.bytes
  have hr := B.returns
  have hts := atoms_spec (ws := wsL_write) B.pre
  have hown : s.vm.findClass RL = some m.cls := findClass_of_methodNamed B.named
  have hlocks := B.notSynchronized
  subst hsz
  have hD := hD0.self (sz := s.heap.size)
  generalize hAe : va_A [(h0, .inr (4, [.ref qs, .ref qr, .ref qm, .ref qw, .ref qt, .int (zi we)])), (qs, aI cI 10 sf), (qw, .inr (1, [.ref wc, .int (zi wl)])), (wc, aI cI 20 wf), (qo, aL cL 1 of)] s.heap.size = A at hD ⊢
  have hA : ∀ q : Nat, s.heap.size ≤ q → A q := fun q h => by rw [← hAe]; exact Or.inr h
  have hS : va_S A s.heap s.heap [] := va_S.rf
  have hP : va_P (dC, dI) vwCl [(h0, .inr (4, [.ref qs, .ref qr, .ref qm, .ref qw, .ref qt, .int (zi we)])), (qs, aI cI 10 sf), (qw, .inr (1, [.ref wc, .int (zi wl)])), (wc, aI cI 20 wf), (qo, aL cL 1 of)] s.heap := hP
  have hl := lv_entry ([.ref h0, .int (zi sl), .int (zi 2), .ref qo]) (n := 5) (Nat.le_of_ble_eq_true rfl)
  rw [lg_entry_eq]
  generalize (lg_sl ([.ref h0, .int (zi sl), .int (zi 2), .ref qo]) ++ List.replicate (5 - (lg_sl ([.ref h0, .int (zi sl), .int (zi 2), .ref qo])).length) Slot.unset).toArray = ls at hl ⊢
  have hl : lv_has ls 5 [(0, .ref h0), (1, .int (zi sl)), (2, .int (zi 2)), (3, .ref qo)] := hl
  refine lv_aload_n hx hb dL_write_0 rfl (lv_at hl 3 rfl) ?_
  refine zw_iconst hx hb dL_write_1 ?_
  refine lv_aload_n hx hb dL_write_2 rfl (lv_at hl 0 rfl) ?_
  refine lv_iload_n hx hb dL_write_3 rfl (lv_at hl 1 rfl) ?_
  refine lv_iload_n hx hb dL_write_4 rfl (lv_at hl 2 rfl) ?_
  have hh1 := c_X4_write_2 l dC dI cI h0 qs qr qm qw qt we sf wc wl wf sl s.heap.size (by omega) (by omega)
  have hPc := hP.sub (ws' := [(h0, .inr (4, [.ref qs, .ref qr, .ref qm, .ref qw, .ref qt, .int (zi we)])), (qs, aI cI 10 sf), (qw, .inr (1, [.ref wc, .int (zi wl)])), (wc, aI cI 20 wf)]) [0, 1, 2, 3] rfl
  have hKc : va_K (dC, dI) vwCl [(cI, .int)] s := hK.sub (tys' := [(cI, .int)]) [0] rfl
  have hDc := hD.sub (ws' := [(h0, .inr (4, [.ref qs, .ref qr, .ref qm, .ref qw, .ref qt, .int (zi we)])), (qs, aI cI 10 sf), (qw, .inr (1, [.ref wc, .int (zi wl)])), (wc, aI cI 20 wf)]) [0, 1, 2, 3] (by decide) rfl
  have hFc := va_free (wc := [(h0, .inr (4, [.ref qs, .ref qr, .ref qm, .ref qw, .ref qt, .int (zi we)])), (qs, aI cI 10 sf), (qw, .inr (1, [.ref wc, .int (zi wl)])), (wc, aI cI 20 wf)]) hD hS hA [0, 1, 2, 3] rfl
  refine va_calli (va_runV (As := [.int (zi sl), .int (zi 2)]) (rest := [.int (zi 0), .ref qo]) ⟨hx, hb, hml, hown, hts⟩ hh1 (cwV 2 hts gL_write_X4_write rfl rfl rfl (by decide +kernel) ⟨Nat.le_of_ble_eq_true rfl, Nat.le_of_ble_eq_true rfl⟩) ⟨zPw.blind _ _ _ _ _, va_recv hKc hPc (ci := 4) (q0 := 0) rfl rfl, fun U hU hW => ⟨rfl, by rw [hU], by rw [hU]; exact hPc, va_K.moved hW.alike hKc, hDc.weaken (fun _ _ _ _ => trivial)⟩⟩ rfl rfl hl.1 rfl (lv_room (Nat.le_of_ble_eq_true rfl)) dL_write_5 ⟨Nat.le_of_ble_eq_true rfl, Nat.le_of_ble_eq_true rfl⟩) hS (fun q _ h => hFc q h) hFc (fun r1 u t H1 locs ht hvm hw hB hz1 hk1 hS => ?_)
  obtain ⟨hP1, hK1, hD1⟩ := hB
  rw [ht] at hP1
  obtain ⟨hP, hD⟩ := va_join (wr := [(qo, aL cL 1 of)]) (w1 := [(h0, .inr (4, [.ref qs, .ref qr, .ref qm, .ref qw, .ref qt, .int (zi we)])), (qs, aI cI 10 sf), (qw, .inr (1, [.ref wc, .int (zi ((((((((0 + 1) + 1) + 1) + 1) + 1) + 1) + 1) + 1))])), (wc, aI cI 20 (zup (zup (zup (zup (zup (zup (zup (zup wf (Int.toNat 0) (48 + (((f_X0_yearOf (sf sl.toNat)) / 1000) % 10))) (Int.toNat (0 + 1)) (48 + (((f_X0_yearOf (sf sl.toNat)) / 100) % 10))) (Int.toNat ((0 + 1) + 1)) (48 + (((f_X0_yearOf (sf sl.toNat)) / 10) % 10))) (Int.toNat (((0 + 1) + 1) + 1)) (48 + (((f_X0_yearOf (sf sl.toNat)) / 1) % 10))) (Int.toNat ((((0 + 1) + 1) + 1) + 1)) 45) (Int.toNat (((((0 + 1) + 1) + 1) + 1) + 1)) (48 + (((f_X0_yearDayOf (sf sl.toNat)) / 100) % 10))) (Int.toNat ((((((0 + 1) + 1) + 1) + 1) + 1) + 1)) (48 + (((f_X0_yearDayOf (sf sl.toNat)) / 10) % 10))) (Int.toNat (((((((0 + 1) + 1) + 1) + 1) + 1) + 1) + 1)) (48 + (((f_X0_yearDayOf (sf sl.toNat)) / 1) % 10))))]) hP hD [0, 1, 2, 3] [4] rfl rfl (by decide) (by decide) hk1 hFc hP1 hD1
  generalize H1 = H at hP hS ⊢
  obtain rfl : r1 = zi ((((((((0 + 1) + 1) + 1) + 1) + 1) + 1) + 1) + 1) := hw
  have hP : va_P (dC, dI) vwCl [(qo, aL cL 1 of), (h0, .inr (4, [.ref qs, .ref qr, .ref qm, .ref qw, .ref qt, .int (zi we)])), (qs, aI cI 10 sf), (qw, .inr (1, [.ref wc, .int (zi ((((((((0 + 1) + 1) + 1) + 1) + 1) + 1) + 1) + 1))])), (wc, aI cI 20 (zup (zup (zup (zup (zup (zup (zup (zup wf (Int.toNat 0) (48 + (((f_X0_yearOf (sf sl.toNat)) / 1000) % 10))) (Int.toNat (0 + 1)) (48 + (((f_X0_yearOf (sf sl.toNat)) / 100) % 10))) (Int.toNat ((0 + 1) + 1)) (48 + (((f_X0_yearOf (sf sl.toNat)) / 10) % 10))) (Int.toNat (((0 + 1) + 1) + 1)) (48 + (((f_X0_yearOf (sf sl.toNat)) / 1) % 10))) (Int.toNat ((((0 + 1) + 1) + 1) + 1)) 45) (Int.toNat (((((0 + 1) + 1) + 1) + 1) + 1)) (48 + (((f_X0_yearDayOf (sf sl.toNat)) / 100) % 10))) (Int.toNat ((((((0 + 1) + 1) + 1) + 1) + 1) + 1)) (48 + (((f_X0_yearDayOf (sf sl.toNat)) / 10) % 10))) (Int.toNat (((((((0 + 1) + 1) + 1) + 1) + 1) + 1) + 1)) (48 + (((f_X0_yearDayOf (sf sl.toNat)) / 1) % 10))))] H := hP
  have hD : va_D A [(qo, aL cL 1 of), (h0, .inr (4, [.ref qs, .ref qr, .ref qm, .ref qw, .ref qt, .int (zi we)])), (qs, aI cI 10 sf), (qw, .inr (1, [.ref wc, .int (zi ((((((((0 + 1) + 1) + 1) + 1) + 1) + 1) + 1) + 1))])), (wc, aI cI 20 (zup (zup (zup (zup (zup (zup (zup (zup wf (Int.toNat 0) (48 + (((f_X0_yearOf (sf sl.toNat)) / 1000) % 10))) (Int.toNat (0 + 1)) (48 + (((f_X0_yearOf (sf sl.toNat)) / 100) % 10))) (Int.toNat ((0 + 1) + 1)) (48 + (((f_X0_yearOf (sf sl.toNat)) / 10) % 10))) (Int.toNat (((0 + 1) + 1) + 1)) (48 + (((f_X0_yearOf (sf sl.toNat)) / 1) % 10))) (Int.toNat ((((0 + 1) + 1) + 1) + 1)) 45) (Int.toNat (((((0 + 1) + 1) + 1) + 1) + 1)) (48 + (((f_X0_yearDayOf (sf sl.toNat)) / 100) % 10))) (Int.toNat ((((((0 + 1) + 1) + 1) + 1) + 1) + 1)) (48 + (((f_X0_yearDayOf (sf sl.toNat)) / 10) % 10))) (Int.toNat (((((((0 + 1) + 1) + 1) + 1) + 1) + 1) + 1)) (48 + (((f_X0_yearDayOf (sf sl.toNat)) / 1) % 10))))] := hD
  refine zw_i2l hx hb dL_write_8 ⟨by omega, by omega⟩ ?_
  refine zw_last hx hb hK hP hD hS 0 1 rfl rfl (by omega) (by omega) ⟨by omega, by omega⟩ dL_write_9 (fun H locs hP hD hS => ?_)
  have hP : va_P (dC, dI) vwCl [(qo, aL cL 1 (zup of (Int.toNat 0) ((((((((0 + 1) + 1) + 1) + 1) + 1) + 1) + 1) + 1))), (h0, .inr (4, [.ref qs, .ref qr, .ref qm, .ref qw, .ref qt, .int (zi we)])), (qs, aI cI 10 sf), (qw, .inr (1, [.ref wc, .int (zi ((((((((0 + 1) + 1) + 1) + 1) + 1) + 1) + 1) + 1))])), (wc, aI cI 20 (zup (zup (zup (zup (zup (zup (zup (zup wf (Int.toNat 0) (48 + (((f_X0_yearOf (sf sl.toNat)) / 1000) % 10))) (Int.toNat (0 + 1)) (48 + (((f_X0_yearOf (sf sl.toNat)) / 100) % 10))) (Int.toNat ((0 + 1) + 1)) (48 + (((f_X0_yearOf (sf sl.toNat)) / 10) % 10))) (Int.toNat (((0 + 1) + 1) + 1)) (48 + (((f_X0_yearOf (sf sl.toNat)) / 1) % 10))) (Int.toNat ((((0 + 1) + 1) + 1) + 1)) 45) (Int.toNat (((((0 + 1) + 1) + 1) + 1) + 1)) (48 + (((f_X0_yearDayOf (sf sl.toNat)) / 100) % 10))) (Int.toNat ((((((0 + 1) + 1) + 1) + 1) + 1) + 1)) (48 + (((f_X0_yearDayOf (sf sl.toNat)) / 10) % 10))) (Int.toNat (((((((0 + 1) + 1) + 1) + 1) + 1) + 1) + 1)) (48 + (((f_X0_yearDayOf (sf sl.toNat)) / 1) % 10))))] H := hP
  have hD : va_D A [(qo, aL cL 1 (zup of (Int.toNat 0) ((((((((0 + 1) + 1) + 1) + 1) + 1) + 1) + 1) + 1))), (h0, .inr (4, [.ref qs, .ref qr, .ref qm, .ref qw, .ref qt, .int (zi we)])), (qs, aI cI 10 sf), (qw, .inr (1, [.ref wc, .int (zi ((((((((0 + 1) + 1) + 1) + 1) + 1) + 1) + 1) + 1))])), (wc, aI cI 20 (zup (zup (zup (zup (zup (zup (zup (zup wf (Int.toNat 0) (48 + (((f_X0_yearOf (sf sl.toNat)) / 1000) % 10))) (Int.toNat (0 + 1)) (48 + (((f_X0_yearOf (sf sl.toNat)) / 100) % 10))) (Int.toNat ((0 + 1) + 1)) (48 + (((f_X0_yearOf (sf sl.toNat)) / 10) % 10))) (Int.toNat (((0 + 1) + 1) + 1)) (48 + (((f_X0_yearOf (sf sl.toNat)) / 1) % 10))) (Int.toNat ((((0 + 1) + 1) + 1) + 1)) 45) (Int.toNat (((((0 + 1) + 1) + 1) + 1) + 1)) (48 + (((f_X0_yearDayOf (sf sl.toNat)) / 100) % 10))) (Int.toNat ((((((0 + 1) + 1) + 1) + 1) + 1) + 1)) (48 + (((f_X0_yearDayOf (sf sl.toNat)) / 10) % 10))) (Int.toNat (((((((0 + 1) + 1) + 1) + 1) + 1) + 1) + 1)) (48 + (((f_X0_yearDayOf (sf sl.toNat)) / 1) % 10))))] := hD
  refine lv_goto (tgt := 25) hx hb dL_write_10 (by decide) ?_
  refine zw_iconst hx hb dL_write_25 ?_
  have hP9 := hP.sub (ws' := [(h0, .inr (4, [.ref qs, .ref qr, .ref qm, .ref qw, .ref qt, .int (zi we)])), (qs, aI cI 10 sf), (qw, .inr (1, [.ref wc, .int (zi ((((((((0 + 1) + 1) + 1) + 1) + 1) + 1) + 1) + 1))])), (wc, aI cI 20 (zup (zup (zup (zup (zup (zup (zup (zup wf (Int.toNat 0) (48 + (((f_X0_yearOf (sf sl.toNat)) / 1000) % 10))) (Int.toNat (0 + 1)) (48 + (((f_X0_yearOf (sf sl.toNat)) / 100) % 10))) (Int.toNat ((0 + 1) + 1)) (48 + (((f_X0_yearOf (sf sl.toNat)) / 10) % 10))) (Int.toNat (((0 + 1) + 1) + 1)) (48 + (((f_X0_yearOf (sf sl.toNat)) / 1) % 10))) (Int.toNat ((((0 + 1) + 1) + 1) + 1)) 45) (Int.toNat (((((0 + 1) + 1) + 1) + 1) + 1)) (48 + (((f_X0_yearDayOf (sf sl.toNat)) / 100) % 10))) (Int.toNat ((((((0 + 1) + 1) + 1) + 1) + 1) + 1)) (48 + (((f_X0_yearDayOf (sf sl.toNat)) / 10) % 10))) (Int.toNat (((((((0 + 1) + 1) + 1) + 1) + 1) + 1) + 1)) (48 + (((f_X0_yearDayOf (sf sl.toNat)) / 1) % 10)))), (qo, aL cL 1 (zup of (Int.toNat 0) ((((((((0 + 1) + 1) + 1) + 1) + 1) + 1) + 1) + 1)))]) [1, 2, 3, 4, 0] rfl
  have hD9 := hD.sub (ws' := [(h0, .inr (4, [.ref qs, .ref qr, .ref qm, .ref qw, .ref qt, .int (zi we)])), (qs, aI cI 10 sf), (qw, .inr (1, [.ref wc, .int (zi ((((((((0 + 1) + 1) + 1) + 1) + 1) + 1) + 1) + 1))])), (wc, aI cI 20 (zup (zup (zup (zup (zup (zup (zup (zup wf (Int.toNat 0) (48 + (((f_X0_yearOf (sf sl.toNat)) / 1000) % 10))) (Int.toNat (0 + 1)) (48 + (((f_X0_yearOf (sf sl.toNat)) / 100) % 10))) (Int.toNat ((0 + 1) + 1)) (48 + (((f_X0_yearOf (sf sl.toNat)) / 10) % 10))) (Int.toNat (((0 + 1) + 1) + 1)) (48 + (((f_X0_yearOf (sf sl.toNat)) / 1) % 10))) (Int.toNat ((((0 + 1) + 1) + 1) + 1)) 45) (Int.toNat (((((0 + 1) + 1) + 1) + 1) + 1)) (48 + (((f_X0_yearDayOf (sf sl.toNat)) / 100) % 10))) (Int.toNat ((((((0 + 1) + 1) + 1) + 1) + 1) + 1)) (48 + (((f_X0_yearDayOf (sf sl.toNat)) / 10) % 10))) (Int.toNat (((((((0 + 1) + 1) + 1) + 1) + 1) + 1) + 1)) (48 + (((f_X0_yearDayOf (sf sl.toNat)) / 1) % 10)))), (qo, aL cL 1 (zup of (Int.toNat 0) ((((((((0 + 1) + 1) + 1) + 1) + 1) + 1) + 1) + 1)))]) [1, 2, 3, 4, 0] (by decide) rfl
  exact W.iret (v := zi 0) hx hb hr (fun t ht hW => ⟨⟨zi 0, (), rfl, rfl, by rw [ht]; exact hP9, va_K.moved hW.alike hK, hD9⟩, hS.F ht⟩) hS.2.2 dL_write_26
