set_option maxHeartbeats 4000000 in
set_option maxRecDepth 100000 in
theorem t_X4_civil_1 (l : Launch) (hst : l.stackTraces = false) (h0 : Nat) (sl ya mo da : Int) (hp0 : -2147483648 ≤ sl ∧ sl ≤ 2147483647) (hp1 : sl < 0 ∨ 9 < sl) : vx_Met l yX4_civil wsX4_civil ({ frames := 7, cells := 1, slots := 6, locals := 110 }) (zP [.ref h0, .int (zi sl), .int (zi ya), .int (zi mo), .int (zi da)]) zNo (zX "java/lang/IndexOutOfBoundsException") 1 6 zN := by
  refine vx_ofW (cc := cX4_civil) (maxL := 5) (ret := (some .int)) (by decide) rfl ?_
  intro p e s m args below meth c s₁ B hml hno hv
  obtain ⟨rfl, hE⟩ := hv
  have hx := B.exec
  have hb := B.bytes
  have hr := B.returns
  have hts := atoms_spec (ws := wsX4_civil) B.pre
  have hown : s.vm.findClass RX4 = some m.cls := findClass_of_methodNamed B.named
  have hlocks := B.notSynchronized
  have hl := lv_entry ([.ref h0, .int (zi sl), .int (zi ya), .int (zi mo), .int (zi da)]) (n := 5) (Nat.le_of_ble_eq_true rfl)
  rw [lg_entry_eq]
  generalize (lg_sl ([.ref h0, .int (zi sl), .int (zi ya), .int (zi mo), .int (zi da)]) ++ List.replicate (5 - (lg_sl ([.ref h0, .int (zi sl), .int (zi ya), .int (zi mo), .int (zi da)])).length) Slot.unset).toArray = ls at hl ⊢
  have hl : lv_has ls 5 [(0, .ref h0), (1, .int (zi sl)), (2, .int (zi ya)), (3, .int (zi mo)), (4, .int (zi da))] := hl
  refine lv_iload_n hx hb dX4_civil_0 rfl (lv_at hl 1 rfl) ?_
  have hh1 := t_X4_needSlot l hst sl (by omega) (by omega)
  exact zt_pass (vx_runS (As := [.int (zi sl)]) (rest := []) ⟨hx, hb, hml, hown, hts⟩ hh1 (va_cwS 1 hts gX4_civil_X4_needSlot rfl rfl rfl (by decide +kernel) ⟨Nat.le_of_ble_eq_true rfl, Nat.le_of_ble_eq_true rfl⟩) ⟨zP.blind _, fun U hU hW => ⟨rfl, hE.call va_S.rf (fun q h => by rw [hU] at h; exact h) hU hW⟩⟩ rfl rfl hl.1 rfl (lv_room (Nat.le_of_ble_eq_true rfl)) dX4_civil_1 ⟨Nat.le_of_ble_eq_true rfl, Nat.le_of_ble_eq_true rfl⟩) hno hlocks

set_option maxHeartbeats 4000000 in
set_option maxRecDepth 100000 in
theorem t_X4_civil_2 (l : Launch) (hst : l.stackTraces = false) (dC : Nat → ClassId) (dI : Nat → Nat → Nat) (cI : ClassId) (h0 qs qr qm qw qt : Nat) (we : Int) (sf : Nat → Int) (sl ya mo da : Int) (hp0 : 0 ≤ sl ∧ sl ≤ 9) (hp1 : -2147483648 ≤ ya ∧ ya ≤ 2147483647) (hp2 : -2147483648 ≤ mo ∧ mo ≤ 2147483647) (hp3 : -2147483648 ≤ da ∧ da ≤ 2147483647) (hp4 : (f_X0_civilNumber ya mo da) = -1) : vx_Met l yX4_civil wsX4_civil ({ frames := 7, cells := 1, slots := 6, locals := 112 }) (zPt (dC, dI) [(cI, .int)] [.ref h0, .int (zi sl), .int (zi ya), .int (zi mo), .int (zi da)] [(h0, .inr (4, [.ref qs, .ref qr, .ref qm, .ref qw, .ref qt, .int (zi we)])), (qs, aI cI 10 sf)]) zNo (zX "java/lang/IllegalArgumentException") 1 6 zN := by
  refine vx_ofW (cc := cX4_civil) (maxL := 5) (ret := (some .int)) (by decide) rfl ?_
  intro p e s m args below meth c s₁ B hml hno hv
  obtain ⟨rfl, hE, hP, hK⟩ := hv
  have hx := B.exec
  have hb := B.bytes
  have hr := B.returns
  have hts := atoms_spec (ws := wsX4_civil) B.pre
  have hown : s.vm.findClass RX4 = some m.cls := findClass_of_methodNamed B.named
  have hlocks := B.notSynchronized
  have hl := lv_entry ([.ref h0, .int (zi sl), .int (zi ya), .int (zi mo), .int (zi da)]) (n := 5) (Nat.le_of_ble_eq_true rfl)
  rw [lg_entry_eq]
  generalize (lg_sl ([.ref h0, .int (zi sl), .int (zi ya), .int (zi mo), .int (zi da)]) ++ List.replicate (5 - (lg_sl ([.ref h0, .int (zi sl), .int (zi ya), .int (zi mo), .int (zi da)])).length) Slot.unset).toArray = ls at hl ⊢
  have hl : lv_has ls 5 [(0, .ref h0), (1, .int (zi sl)), (2, .int (zi ya)), (3, .int (zi mo)), (4, .int (zi da))] := hl
  refine lv_iload_n hx hb dX4_civil_0 rfl (lv_at hl 1 rfl) ?_
  have hh1 := c_X4_needSlot l sl (by omega)
  refine va_csv (va_Run.run (va_runS (As := [.int (zi sl)]) (rest := []) ⟨hx, hb, hml, hown, hts⟩ hh1 (va_cwS 1 hts gX4_civil_X4_needSlot rfl rfl rfl (by decide +kernel) ⟨Nat.le_of_ble_eq_true rfl, Nat.le_of_ble_eq_true rfl⟩) ⟨fun a U g mk q => q, fun U hU hW => ⟨rfl, trivial⟩⟩ rfl rfl hl.1 rfl (lv_room (Nat.le_of_ble_eq_true rfl)) dX4_civil_1 ⟨Nat.le_of_ble_eq_true rfl, Nat.le_of_ble_eq_true rfl⟩)) (fun _ => ?_)
  refine lv_aload_n hx hb dX4_civil_4 rfl (lv_at hl 0 rfl) ?_
  refine lv_iload_n hx hb dX4_civil_5 rfl (lv_at hl 1 rfl) ?_
  refine lv_iload_n hx hb dX4_civil_6 rfl (lv_at hl 2 rfl) ?_
  refine lv_iload_n hx hb dX4_civil_7 rfl (lv_at hl 3 rfl) ?_
  refine lv_iload hx hb dX4_civil_8 (lv_at hl 4 rfl) ?_
  have hh2 := c_X0_civilNumber l ya mo da (by omega) (by omega) (by omega)
  refine vp_callSi (va_Run.run (va_runS (As := [.int (zi ya), .int (zi mo), .int (zi da)]) (rest := [.int (zi sl), .ref h0]) ⟨hx, hb, hml, hown, hts⟩ hh2 (va_cwS 3 hts gX4_civil_X0_civilNumber rfl rfl rfl (by decide +kernel) ⟨Nat.le_of_ble_eq_true rfl, Nat.le_of_ble_eq_true rfl⟩) ⟨fun a U g mk q => q, fun U hU hW => ⟨rfl, trivial⟩⟩ rfl rfl hl.1 rfl (lv_room (Nat.le_of_ble_eq_true rfl)) dX4_civil_10 ⟨Nat.zero_le _, Nat.zero_le _⟩)) (fun r2 (hr2 : r2 = zi (f_X0_civilNumber ya mo da)) => ?_)
  subst hr2
  have hf2 := b_X0_civilNumber ya mo da (by omega) (by omega) (by omega)
  have hh3 := t_X4_keep l hst dC dI cI h0 qs qr qm qw qt we sf sl (f_X0_civilNumber ya mo da) (by omega) (by omega) (by omega)
  have hPc := hP.sub (ws' := [(h0, .inr (4, [.ref qs, .ref qr, .ref qm, .ref qw, .ref qt, .int (zi we)])), (qs, aI cI 10 sf)]) [0, 1] rfl
  have hKc : va_K (dC, dI) vwCl [(cI, .int)] s := hK
  exact zt_pass (vx_runV (As := [.int (zi sl), .int (zi (f_X0_civilNumber ya mo da))]) (rest := []) ⟨hx, hb, hml, hown, hts⟩ hh3 (cwV 2 hts gX4_civil_X4_keep rfl rfl rfl (by decide +kernel) ⟨Nat.le_of_ble_eq_true rfl, Nat.le_of_ble_eq_true rfl⟩) ⟨zPt.blind _ _ _ _, va_recv hKc hPc (ci := 4) (q0 := 0) rfl rfl, fun U hU hW => ⟨rfl, hE.call va_S.rf (fun q h => by rw [hU] at h; exact h) hU hW, by rw [hU]; exact hPc, va_K.moved hW.alike hKc⟩⟩ rfl rfl hl.1 rfl (lv_room (Nat.le_of_ble_eq_true rfl)) dX4_civil_13 ⟨Nat.le_of_ble_eq_true rfl, Nat.le_of_ble_eq_true rfl⟩) hno hlocks

set_option maxHeartbeats 4000000 in
set_option maxRecDepth 100000 in
theorem c_X4_civil (l : Launch)  (dC : Nat → ClassId) (dI : Nat → Nat → Nat) (cI : ClassId) (h0 qs qr qm qw qt : Nat) (we : Int) (sf : Nat → Int) (sl ya mo da : Int) (sz : Nat) (hp0 : 0 ≤ sl ∧ sl ≤ 9) (hp1 : -2147483648 ≤ ya ∧ ya ≤ 2147483647) (hp2 : -2147483648 ≤ mo ∧ mo ≤ 2147483647) (hp3 : -2147483648 ≤ da ∧ da ≤ 2147483647) (hp4 : (f_X0_civilNumber ya mo da) ≠ -1) : Met l yX4_civil wsX4_civil ({ frames := 3, cells := 0, slots := 0, locals := 65 }) (zPw (dC, dI) [(cI, .int)] sz [.ref h0, .int (zi sl), .int (zi ya), .int (zi mo), .int (zi da)] [(h0, .inr (4, [.ref qs, .ref qr, .ref qm, .ref qw, .ref qt, .int (zi we)])), (qs, aI cI 10 sf)]) (va_Qi (fun (r : Int32) (_ : Unit) => r = zi (f_X0_civilNumber ya mo da)) (zB (dC, dI) [(cI, .int)] (va_A [(h0, .inr (4, [.ref qs, .ref qr, .ref qm, .ref qw, .ref qt, .int (zi we)])), (qs, aI cI 10 sf)] sz) [(h0, .inr (4, [.ref qs, .ref qr, .ref qm, .ref qw, .ref qt, .int (zi we)])), (qs, aI cI 10 (zup sf sl.toNat (f_X0_civilNumber ya mo da)))]) (va_A [(h0, .inr (4, [.ref qs, .ref qr, .ref qm, .ref qw, .ref qt, .int (zi we)])), (qs, aI cI 10 sf)] sz)) 0 0 (va_A [(h0, .inr (4, [.ref qs, .ref qr, .ref qm, .ref qw, .ref qt, .int (zi we)])), (qs, aI cI 10 sf)] sz) := by
  refine Met.ofW (cc := cX4_civil) (maxL := 5) (ret := (some .int)) (by decide) rfl ?_
  intro p e s m args below meth c s₁ B hml hv
  obtain ⟨rfl, hsz, hP, hK, hD0⟩ := hv
  have hx := B.exec
  have hb := B.bytes
  have hr := B.returns
  have hts := atoms_spec (ws := wsX4_civil) B.pre
  have hown : s.vm.findClass RX4 = some m.cls := findClass_of_methodNamed B.named
  have hlocks := B.notSynchronized
  subst hsz
  have hD := hD0.self (sz := s.heap.size)
  generalize hAe : va_A [(h0, .inr (4, [.ref qs, .ref qr, .ref qm, .ref qw, .ref qt, .int (zi we)])), (qs, aI cI 10 sf)] s.heap.size = A at hD ⊢
  have hA : ∀ q : Nat, s.heap.size ≤ q → A q := fun q h => by rw [← hAe]; exact Or.inr h
  have hS : va_S A s.heap s.heap [] := va_S.rf
  have hP : va_P (dC, dI) vwCl [(h0, .inr (4, [.ref qs, .ref qr, .ref qm, .ref qw, .ref qt, .int (zi we)])), (qs, aI cI 10 sf)] s.heap := hP
  have hl := lv_entry ([.ref h0, .int (zi sl), .int (zi ya), .int (zi mo), .int (zi da)]) (n := 5) (Nat.le_of_ble_eq_true rfl)
  rw [lg_entry_eq]
  generalize (lg_sl ([.ref h0, .int (zi sl), .int (zi ya), .int (zi mo), .int (zi da)]) ++ List.replicate (5 - (lg_sl ([.ref h0, .int (zi sl), .int (zi ya), .int (zi mo), .int (zi da)])).length) Slot.unset).toArray = ls at hl ⊢
  have hl : lv_has ls 5 [(0, .ref h0), (1, .int (zi sl)), (2, .int (zi ya)), (3, .int (zi mo)), (4, .int (zi da))] := hl
  refine lv_iload_n hx hb dX4_civil_0 rfl (lv_at hl 1 rfl) ?_
  have hh1 := c_X4_needSlot l sl (by omega)
  refine va_csv (va_Run.run (va_runS (As := [.int (zi sl)]) (rest := []) ⟨hx, hb, hml, hown, hts⟩ hh1 (va_cwS 1 hts gX4_civil_X4_needSlot rfl rfl rfl (by decide +kernel) ⟨Nat.le_of_ble_eq_true rfl, Nat.le_of_ble_eq_true rfl⟩) ⟨fun a U g mk q => q, fun U hU hW => ⟨rfl, trivial⟩⟩ rfl rfl hl.1 rfl (lv_room (Nat.le_of_ble_eq_true rfl)) dX4_civil_1 ⟨Nat.le_of_ble_eq_true rfl, Nat.le_of_ble_eq_true rfl⟩)) (fun _ => ?_)
  refine lv_aload_n hx hb dX4_civil_4 rfl (lv_at hl 0 rfl) ?_
  refine lv_iload_n hx hb dX4_civil_5 rfl (lv_at hl 1 rfl) ?_
  refine lv_iload_n hx hb dX4_civil_6 rfl (lv_at hl 2 rfl) ?_
  refine lv_iload_n hx hb dX4_civil_7 rfl (lv_at hl 3 rfl) ?_
  refine lv_iload hx hb dX4_civil_8 (lv_at hl 4 rfl) ?_
  have hh2 := c_X0_civilNumber l ya mo da (by omega) (by omega) (by omega)
  refine vp_callSi (va_Run.run (va_runS (As := [.int (zi ya), .int (zi mo), .int (zi da)]) (rest := [.int (zi sl), .ref h0]) ⟨hx, hb, hml, hown, hts⟩ hh2 (va_cwS 3 hts gX4_civil_X0_civilNumber rfl rfl rfl (by decide +kernel) ⟨Nat.le_of_ble_eq_true rfl, Nat.le_of_ble_eq_true rfl⟩) ⟨fun a U g mk q => q, fun U hU hW => ⟨rfl, trivial⟩⟩ rfl rfl hl.1 rfl (lv_room (Nat.le_of_ble_eq_true rfl)) dX4_civil_10 ⟨Nat.zero_le _, Nat.zero_le _⟩)) (fun r2 (hr2 : r2 = zi (f_X0_civilNumber ya mo da)) => ?_)
  subst hr2
  have hf2 := b_X0_civilNumber ya mo da (by omega) (by omega) (by omega)
  have hh3 := c_X4_keep l dC dI cI h0 qs qr qm qw qt we sf sl (f_X0_civilNumber ya mo da) s.heap.size (by omega) (by omega) (by omega)
  have hPc := hP.sub (ws' := [(h0, .inr (4, [.ref qs, .ref qr, .ref qm, .ref qw, .ref qt, .int (zi we)])), (qs, aI cI 10 sf)]) [0, 1] rfl
  have hKc : va_K (dC, dI) vwCl [(cI, .int)] s := hK
  have hDc := hD.sub (ws' := [(h0, .inr (4, [.ref qs, .ref qr, .ref qm, .ref qw, .ref qt, .int (zi we)])), (qs, aI cI 10 sf)]) [0, 1] (by decide) rfl
  have hFc := va_free (wc := [(h0, .inr (4, [.ref qs, .ref qr, .ref qm, .ref qw, .ref qt, .int (zi we)])), (qs, aI cI 10 sf)]) hD hS hA [0, 1] rfl
  refine va_calli (va_runV (As := [.int (zi sl), .int (zi (f_X0_civilNumber ya mo da))]) (rest := []) ⟨hx, hb, hml, hown, hts⟩ hh3 (cwV 2 hts gX4_civil_X4_keep rfl rfl rfl (by decide +kernel) ⟨Nat.le_of_ble_eq_true rfl, Nat.le_of_ble_eq_true rfl⟩) ⟨zPw.blind _ _ _ _ _, va_recv hKc hPc (ci := 4) (q0 := 0) rfl rfl, fun U hU hW => ⟨rfl, by rw [hU], by rw [hU]; exact hPc, va_K.moved hW.alike hKc, hDc.weaken (fun _ _ _ _ => trivial)⟩⟩ rfl rfl hl.1 rfl (lv_room (Nat.le_of_ble_eq_true rfl)) dX4_civil_13 ⟨Nat.le_of_ble_eq_true rfl, Nat.le_of_ble_eq_true rfl⟩) hS (fun q _ h => hFc q h) hFc (fun r3 u t H1 locs ht hvm hw hB hz1 hk1 hS => ?_)
  obtain ⟨hP1, hK1, hD1⟩ := hB
  rw [ht] at hP1
  obtain ⟨hP, hD⟩ := va_join (wr := []) (w1 := [(h0, .inr (4, [.ref qs, .ref qr, .ref qm, .ref qw, .ref qt, .int (zi we)])), (qs, aI cI 10 (zup sf sl.toNat (f_X0_civilNumber ya mo da)))]) hP hD [0, 1] [] rfl rfl (by decide) (by decide) hk1 hFc hP1 hD1
  generalize H1 = H at hP hS ⊢
  obtain rfl : r3 = zi (f_X0_civilNumber ya mo da) := hw
  have hP : va_P (dC, dI) vwCl [(h0, .inr (4, [.ref qs, .ref qr, .ref qm, .ref qw, .ref qt, .int (zi we)])), (qs, aI cI 10 (zup sf sl.toNat (f_X0_civilNumber ya mo da)))] H := hP
  have hD : va_D A [(h0, .inr (4, [.ref qs, .ref qr, .ref qm, .ref qw, .ref qt, .int (zi we)])), (qs, aI cI 10 (zup sf sl.toNat (f_X0_civilNumber ya mo da)))] := hD
  have hP9 := hP.sub (ws' := [(h0, .inr (4, [.ref qs, .ref qr, .ref qm, .ref qw, .ref qt, .int (zi we)])), (qs, aI cI 10 (zup sf sl.toNat (f_X0_civilNumber ya mo da)))]) [0, 1] rfl
  have hD9 := hD.sub (ws' := [(h0, .inr (4, [.ref qs, .ref qr, .ref qm, .ref qw, .ref qt, .int (zi we)])), (qs, aI cI 10 (zup sf sl.toNat (f_X0_civilNumber ya mo da)))]) [0, 1] (by decide) rfl
  exact W.iret (v := zi (f_X0_civilNumber ya mo da)) hx hb hr (fun t ht hW => ⟨⟨zi (f_X0_civilNumber ya mo da), (), rfl, rfl, by rw [ht]; exact hP9, va_K.moved hW.alike hK, hD9⟩, hS.F ht⟩) hS.2.2 dX4_civil_16

set_option maxHeartbeats 4000000 in
set_option maxRecDepth 100000 in
theorem t_X4_week_1 (l : Launch) (hst : l.stackTraces = false) (h0 : Nat) (sl ya wk wd : Int) (hp0 : -2147483648 ≤ sl ∧ sl ≤ 2147483647) (hp1 : sl < 0 ∨ 9 < sl) : vx_Met l yX4_week wsX4_week ({ frames := 7, cells := 1, slots := 6, locals := 110 }) (zP [.ref h0, .int (zi sl), .int (zi ya), .int (zi wk), .int (zi wd)]) zNo (zX "java/lang/IndexOutOfBoundsException") 1 6 zN := by
  refine vx_ofW (cc := cX4_week) (maxL := 5) (ret := (some .int)) (by decide) rfl ?_
  intro p e s m args below meth c s₁ B hml hno hv
  obtain ⟨rfl, hE⟩ := hv
  have hx := B.exec
  have hb := B.bytes
  have hr := B.returns
  have hts := atoms_spec (ws := wsX4_week) B.pre
  have hown : s.vm.findClass RX4 = some m.cls := findClass_of_methodNamed B.named
  have hlocks := B.notSynchronized
  have hl := lv_entry ([.ref h0, .int (zi sl), .int (zi ya), .int (zi wk), .int (zi wd)]) (n := 5) (Nat.le_of_ble_eq_true rfl)
  rw [lg_entry_eq]
  generalize (lg_sl ([.ref h0, .int (zi sl), .int (zi ya), .int (zi wk), .int (zi wd)]) ++ List.replicate (5 - (lg_sl ([.ref h0, .int (zi sl), .int (zi ya), .int (zi wk), .int (zi wd)])).length) Slot.unset).toArray = ls at hl ⊢
  have hl : lv_has ls 5 [(0, .ref h0), (1, .int (zi sl)), (2, .int (zi ya)), (3, .int (zi wk)), (4, .int (zi wd))] := hl
  refine lv_iload_n hx hb dX4_week_0 rfl (lv_at hl 1 rfl) ?_
  have hh1 := t_X4_needSlot l hst sl (by omega) (by omega)
  exact zt_pass (vx_runS (As := [.int (zi sl)]) (rest := []) ⟨hx, hb, hml, hown, hts⟩ hh1 (va_cwS 1 hts gX4_week_X4_needSlot rfl rfl rfl (by decide +kernel) ⟨Nat.le_of_ble_eq_true rfl, Nat.le_of_ble_eq_true rfl⟩) ⟨zP.blind _, fun U hU hW => ⟨rfl, hE.call va_S.rf (fun q h => by rw [hU] at h; exact h) hU hW⟩⟩ rfl rfl hl.1 rfl (lv_room (Nat.le_of_ble_eq_true rfl)) dX4_week_1 ⟨Nat.le_of_ble_eq_true rfl, Nat.le_of_ble_eq_true rfl⟩) hno hlocks

set_option maxHeartbeats 4000000 in
set_option maxRecDepth 100000 in
theorem t_X4_week_2 (l : Launch) (hst : l.stackTraces = false) (dC : Nat → ClassId) (dI : Nat → Nat → Nat) (cI : ClassId) (h0 qs qr qm qw qt : Nat) (we : Int) (sf : Nat → Int) (sl ya wk wd : Int) (hp0 : 0 ≤ sl ∧ sl ≤ 9) (hp1 : -2147483648 ≤ ya ∧ ya ≤ 2147483647) (hp2 : -2147483648 ≤ wk ∧ wk ≤ 2147483647) (hp3 : -2147483648 ≤ wd ∧ wd ≤ 2147483647) (hp4 : (f_X0_weekNumber ya wk wd) = -1) : vx_Met l yX4_week wsX4_week ({ frames := 7, cells := 1, slots := 6, locals := 112 }) (zPt (dC, dI) [(cI, .int)] [.ref h0, .int (zi sl), .int (zi ya), .int (zi wk), .int (zi wd)] [(h0, .inr (4, [.ref qs, .ref qr, .ref qm, .ref qw, .ref qt, .int (zi we)])), (qs, aI cI 10 sf)]) zNo (zX "java/lang/IllegalArgumentException") 1 6 zN := by
  refine vx_ofW (cc := cX4_week) (maxL := 5) (ret := (some .int)) (by decide) rfl ?_
  intro p e s m args below meth c s₁ B hml hno hv
  obtain ⟨rfl, hE, hP, hK⟩ := hv
  have hx := B.exec
  have hb := B.bytes
  have hr := B.returns
  have hts := atoms_spec (ws := wsX4_week) B.pre
  have hown : s.vm.findClass RX4 = some m.cls := findClass_of_methodNamed B.named
  have hlocks := B.notSynchronized
  have hl := lv_entry ([.ref h0, .int (zi sl), .int (zi ya), .int (zi wk), .int (zi wd)]) (n := 5) (Nat.le_of_ble_eq_true rfl)
  rw [lg_entry_eq]
  generalize (lg_sl ([.ref h0, .int (zi sl), .int (zi ya), .int (zi wk), .int (zi wd)]) ++ List.replicate (5 - (lg_sl ([.ref h0, .int (zi sl), .int (zi ya), .int (zi wk), .int (zi wd)])).length) Slot.unset).toArray = ls at hl ⊢
  have hl : lv_has ls 5 [(0, .ref h0), (1, .int (zi sl)), (2, .int (zi ya)), (3, .int (zi wk)), (4, .int (zi wd))] := hl
  refine lv_iload_n hx hb dX4_week_0 rfl (lv_at hl 1 rfl) ?_
  have hh1 := c_X4_needSlot l sl (by omega)
  refine va_csv (va_Run.run (va_runS (As := [.int (zi sl)]) (rest := []) ⟨hx, hb, hml, hown, hts⟩ hh1 (va_cwS 1 hts gX4_week_X4_needSlot rfl rfl rfl (by decide +kernel) ⟨Nat.le_of_ble_eq_true rfl, Nat.le_of_ble_eq_true rfl⟩) ⟨fun a U g mk q => q, fun U hU hW => ⟨rfl, trivial⟩⟩ rfl rfl hl.1 rfl (lv_room (Nat.le_of_ble_eq_true rfl)) dX4_week_1 ⟨Nat.le_of_ble_eq_true rfl, Nat.le_of_ble_eq_true rfl⟩)) (fun _ => ?_)
  refine lv_aload_n hx hb dX4_week_4 rfl (lv_at hl 0 rfl) ?_
  refine lv_iload_n hx hb dX4_week_5 rfl (lv_at hl 1 rfl) ?_
  refine lv_iload_n hx hb dX4_week_6 rfl (lv_at hl 2 rfl) ?_
  refine lv_iload_n hx hb dX4_week_7 rfl (lv_at hl 3 rfl) ?_
  refine lv_iload hx hb dX4_week_8 (lv_at hl 4 rfl) ?_
  have hh2 := c_X0_weekNumber l ya wk wd (by omega) (by omega) (by omega)
  refine vp_callSi (va_Run.run (va_runS (As := [.int (zi ya), .int (zi wk), .int (zi wd)]) (rest := [.int (zi sl), .ref h0]) ⟨hx, hb, hml, hown, hts⟩ hh2 (va_cwS 3 hts gX4_week_X0_weekNumber rfl rfl rfl (by decide +kernel) ⟨Nat.le_of_ble_eq_true rfl, Nat.le_of_ble_eq_true rfl⟩) ⟨fun a U g mk q => q, fun U hU hW => ⟨rfl, trivial⟩⟩ rfl rfl hl.1 rfl (lv_room (Nat.le_of_ble_eq_true rfl)) dX4_week_10 ⟨Nat.zero_le _, Nat.zero_le _⟩)) (fun r2 (hr2 : r2 = zi (f_X0_weekNumber ya wk wd)) => ?_)
  subst hr2
  have hf2 := b_X0_weekNumber ya wk wd (by omega) (by omega) (by omega)
  have hh3 := t_X4_keep l hst dC dI cI h0 qs qr qm qw qt we sf sl (f_X0_weekNumber ya wk wd) (by omega) (by omega) (by omega)
  have hPc := hP.sub (ws' := [(h0, .inr (4, [.ref qs, .ref qr, .ref qm, .ref qw, .ref qt, .int (zi we)])), (qs, aI cI 10 sf)]) [0, 1] rfl
  have hKc : va_K (dC, dI) vwCl [(cI, .int)] s := hK
  exact zt_pass (vx_runV (As := [.int (zi sl), .int (zi (f_X0_weekNumber ya wk wd))]) (rest := []) ⟨hx, hb, hml, hown, hts⟩ hh3 (cwV 2 hts gX4_week_X4_keep rfl rfl rfl (by decide +kernel) ⟨Nat.le_of_ble_eq_true rfl, Nat.le_of_ble_eq_true rfl⟩) ⟨zPt.blind _ _ _ _, va_recv hKc hPc (ci := 4) (q0 := 0) rfl rfl, fun U hU hW => ⟨rfl, hE.call va_S.rf (fun q h => by rw [hU] at h; exact h) hU hW, by rw [hU]; exact hPc, va_K.moved hW.alike hKc⟩⟩ rfl rfl hl.1 rfl (lv_room (Nat.le_of_ble_eq_true rfl)) dX4_week_13 ⟨Nat.le_of_ble_eq_true rfl, Nat.le_of_ble_eq_true rfl⟩) hno hlocks

set_option maxHeartbeats 4000000 in
set_option maxRecDepth 100000 in
theorem c_X4_week (l : Launch)  (dC : Nat → ClassId) (dI : Nat → Nat → Nat) (cI : ClassId) (h0 qs qr qm qw qt : Nat) (we : Int) (sf : Nat → Int) (sl ya wk wd : Int) (sz : Nat) (hp0 : 0 ≤ sl ∧ sl ≤ 9) (hp1 : -2147483648 ≤ ya ∧ ya ≤ 2147483647) (hp2 : -2147483648 ≤ wk ∧ wk ≤ 2147483647) (hp3 : -2147483648 ≤ wd ∧ wd ≤ 2147483647) (hp4 : (f_X0_weekNumber ya wk wd) ≠ -1) : Met l yX4_week wsX4_week ({ frames := 4, cells := 0, slots := 0, locals := 85 }) (zPw (dC, dI) [(cI, .int)] sz [.ref h0, .int (zi sl), .int (zi ya), .int (zi wk), .int (zi wd)] [(h0, .inr (4, [.ref qs, .ref qr, .ref qm, .ref qw, .ref qt, .int (zi we)])), (qs, aI cI 10 sf)]) (va_Qi (fun (r : Int32) (_ : Unit) => r = zi (f_X0_weekNumber ya wk wd)) (zB (dC, dI) [(cI, .int)] (va_A [(h0, .inr (4, [.ref qs, .ref qr, .ref qm, .ref qw, .ref qt, .int (zi we)])), (qs, aI cI 10 sf)] sz) [(h0, .inr (4, [.ref qs, .ref qr, .ref qm, .ref qw, .ref qt, .int (zi we)])), (qs, aI cI 10 (zup sf sl.toNat (f_X0_weekNumber ya wk wd)))]) (va_A [(h0, .inr (4, [.ref qs, .ref qr, .ref qm, .ref qw, .ref qt, .int (zi we)])), (qs, aI cI 10 sf)] sz)) 0 0 (va_A [(h0, .inr (4, [.ref qs, .ref qr, .ref qm, .ref qw, .ref qt, .int (zi we)])), (qs, aI cI 10 sf)] sz) := by
  refine Met.ofW (cc := cX4_week) (maxL := 5) (ret := (some .int)) (by decide) rfl ?_
  intro p e s m args below meth c s₁ B hml hv
  obtain ⟨rfl, hsz, hP, hK, hD0⟩ := hv
  have hx := B.exec
  have hb := B.bytes
  have hr := B.returns
  have hts := atoms_spec (ws := wsX4_week) B.pre
  have hown : s.vm.findClass RX4 = some m.cls := findClass_of_methodNamed B.named
  have hlocks := B.notSynchronized
  subst hsz
  have hD := hD0.self (sz := s.heap.size)
  generalize hAe : va_A [(h0, .inr (4, [.ref qs, .ref qr, .ref qm, .ref qw, .ref qt, .int (zi we)])), (qs, aI cI 10 sf)] s.heap.size = A at hD ⊢
  have hA : ∀ q : Nat, s.heap.size ≤ q → A q := fun q h => by rw [← hAe]; exact Or.inr h
  have hS : va_S A s.heap s.heap [] := va_S.rf
  have hP : va_P (dC, dI) vwCl [(h0, .inr (4, [.ref qs, .ref qr, .ref qm, .ref qw, .ref qt, .int (zi we)])), (qs, aI cI 10 sf)] s.heap := hP
  have hl := lv_entry ([.ref h0, .int (zi sl), .int (zi ya), .int (zi wk), .int (zi wd)]) (n := 5) (Nat.le_of_ble_eq_true rfl)
  rw [lg_entry_eq]
  generalize (lg_sl ([.ref h0, .int (zi sl), .int (zi ya), .int (zi wk), .int (zi wd)]) ++ List.replicate (5 - (lg_sl ([.ref h0, .int (zi sl), .int (zi ya), .int (zi wk), .int (zi wd)])).length) Slot.unset).toArray = ls at hl ⊢
  have hl : lv_has ls 5 [(0, .ref h0), (1, .int (zi sl)), (2, .int (zi ya)), (3, .int (zi wk)), (4, .int (zi wd))] := hl
  refine lv_iload_n hx hb dX4_week_0 rfl (lv_at hl 1 rfl) ?_
  have hh1 := c_X4_needSlot l sl (by omega)
  refine va_csv (va_Run.run (va_runS (As := [.int (zi sl)]) (rest := []) ⟨hx, hb, hml, hown, hts⟩ hh1 (va_cwS 1 hts gX4_week_X4_needSlot rfl rfl rfl (by decide +kernel) ⟨Nat.le_of_ble_eq_true rfl, Nat.le_of_ble_eq_true rfl⟩) ⟨fun a U g mk q => q, fun U hU hW => ⟨rfl, trivial⟩⟩ rfl rfl hl.1 rfl (lv_room (Nat.le_of_ble_eq_true rfl)) dX4_week_1 ⟨Nat.le_of_ble_eq_true rfl, Nat.le_of_ble_eq_true rfl⟩)) (fun _ => ?_)
  refine lv_aload_n hx hb dX4_week_4 rfl (lv_at hl 0 rfl) ?_
  refine lv_iload_n hx hb dX4_week_5 rfl (lv_at hl 1 rfl) ?_
  refine lv_iload_n hx hb dX4_week_6 rfl (lv_at hl 2 rfl) ?_
  refine lv_iload_n hx hb dX4_week_7 rfl (lv_at hl 3 rfl) ?_
  refine lv_iload hx hb dX4_week_8 (lv_at hl 4 rfl) ?_
  have hh2 := c_X0_weekNumber l ya wk wd (by omega) (by omega) (by omega)
  refine vp_callSi (va_Run.run (va_runS (As := [.int (zi ya), .int (zi wk), .int (zi wd)]) (rest := [.int (zi sl), .ref h0]) ⟨hx, hb, hml, hown, hts⟩ hh2 (va_cwS 3 hts gX4_week_X0_weekNumber rfl rfl rfl (by decide +kernel) ⟨Nat.le_of_ble_eq_true rfl, Nat.le_of_ble_eq_true rfl⟩) ⟨fun a U g mk q => q, fun U hU hW => ⟨rfl, trivial⟩⟩ rfl rfl hl.1 rfl (lv_room (Nat.le_of_ble_eq_true rfl)) dX4_week_10 ⟨Nat.zero_le _, Nat.zero_le _⟩)) (fun r2 (hr2 : r2 = zi (f_X0_weekNumber ya wk wd)) => ?_)
  subst hr2
  have hf2 := b_X0_weekNumber ya wk wd (by omega) (by omega) (by omega)
  have hh3 := c_X4_keep l dC dI cI h0 qs qr qm qw qt we sf sl (f_X0_weekNumber ya wk wd) s.heap.size (by omega) (by omega) (by omega)
  have hPc := hP.sub (ws' := [(h0, .inr (4, [.ref qs, .ref qr, .ref qm, .ref qw, .ref qt, .int (zi we)])), (qs, aI cI 10 sf)]) [0, 1] rfl
  have hKc : va_K (dC, dI) vwCl [(cI, .int)] s := hK
  have hDc := hD.sub (ws' := [(h0, .inr (4, [.ref qs, .ref qr, .ref qm, .ref qw, .ref qt, .int (zi we)])), (qs, aI cI 10 sf)]) [0, 1] (by decide) rfl
  have hFc := va_free (wc := [(h0, .inr (4, [.ref qs, .ref qr, .ref qm, .ref qw, .ref qt, .int (zi we)])), (qs, aI cI 10 sf)]) hD hS hA [0, 1] rfl
  refine va_calli (va_runV (As := [.int (zi sl), .int (zi (f_X0_weekNumber ya wk wd))]) (rest := []) ⟨hx, hb, hml, hown, hts⟩ hh3 (cwV 2 hts gX4_week_X4_keep rfl rfl rfl (by decide +kernel) ⟨Nat.le_of_ble_eq_true rfl, Nat.le_of_ble_eq_true rfl⟩) ⟨zPw.blind _ _ _ _ _, va_recv hKc hPc (ci := 4) (q0 := 0) rfl rfl, fun U hU hW => ⟨rfl, by rw [hU], by rw [hU]; exact hPc, va_K.moved hW.alike hKc, hDc.weaken (fun _ _ _ _ => trivial)⟩⟩ rfl rfl hl.1 rfl (lv_room (Nat.le_of_ble_eq_true rfl)) dX4_week_13 ⟨Nat.le_of_ble_eq_true rfl, Nat.le_of_ble_eq_true rfl⟩) hS (fun q _ h => hFc q h) hFc (fun r3 u t H1 locs ht hvm hw hB hz1 hk1 hS => ?_)
  obtain ⟨hP1, hK1, hD1⟩ := hB
  rw [ht] at hP1
  obtain ⟨hP, hD⟩ := va_join (wr := []) (w1 := [(h0, .inr (4, [.ref qs, .ref qr, .ref qm, .ref qw, .ref qt, .int (zi we)])), (qs, aI cI 10 (zup sf sl.toNat (f_X0_weekNumber ya wk wd)))]) hP hD [0, 1] [] rfl rfl (by decide) (by decide) hk1 hFc hP1 hD1
  generalize H1 = H at hP hS ⊢
  obtain rfl : r3 = zi (f_X0_weekNumber ya wk wd) := hw
  have hP : va_P (dC, dI) vwCl [(h0, .inr (4, [.ref qs, .ref qr, .ref qm, .ref qw, .ref qt, .int (zi we)])), (qs, aI cI 10 (zup sf sl.toNat (f_X0_weekNumber ya wk wd)))] H := hP
  have hD : va_D A [(h0, .inr (4, [.ref qs, .ref qr, .ref qm, .ref qw, .ref qt, .int (zi we)])), (qs, aI cI 10 (zup sf sl.toNat (f_X0_weekNumber ya wk wd)))] := hD
  have hP9 := hP.sub (ws' := [(h0, .inr (4, [.ref qs, .ref qr, .ref qm, .ref qw, .ref qt, .int (zi we)])), (qs, aI cI 10 (zup sf sl.toNat (f_X0_weekNumber ya wk wd)))]) [0, 1] rfl
  have hD9 := hD.sub (ws' := [(h0, .inr (4, [.ref qs, .ref qr, .ref qm, .ref qw, .ref qt, .int (zi we)])), (qs, aI cI 10 (zup sf sl.toNat (f_X0_weekNumber ya wk wd)))]) [0, 1] (by decide) rfl
  exact W.iret (v := zi (f_X0_weekNumber ya wk wd)) hx hb hr (fun t ht hW => ⟨⟨zi (f_X0_weekNumber ya wk wd), (), rfl, rfl, by rw [ht]; exact hP9, va_K.moved hW.alike hK, hD9⟩, hS.F ht⟩) hS.2.2 dX4_week_16

set_option maxHeartbeats 4000000 in
set_option maxRecDepth 100000 in
theorem t_X4_easter_1 (l : Launch) (hst : l.stackTraces = false) (h0 : Nat) (sl ya : Int) (hp0 : -2147483648 ≤ sl ∧ sl ≤ 2147483647) (hp1 : sl < 0 ∨ 9 < sl) : vx_Met l yX4_easter wsX4_easter ({ frames := 7, cells := 1, slots := 6, locals := 110 }) (zP [.ref h0, .int (zi sl), .int (zi ya)]) zNo (zX "java/lang/IndexOutOfBoundsException") 1 6 zN := by
  refine vx_ofW (cc := cX4_easter) (maxL := 3) (ret := (some .int)) (by decide) rfl ?_
  intro p e s m args below meth c s₁ B hml hno hv
  obtain ⟨rfl, hE⟩ := hv
  have hx := B.exec
  have hb := B.bytes
  have hr := B.returns
  have hts := atoms_spec (ws := wsX4_easter) B.pre
  have hown : s.vm.findClass RX4 = some m.cls := findClass_of_methodNamed B.named
  have hlocks := B.notSynchronized
  have hl := lv_entry ([.ref h0, .int (zi sl), .int (zi ya)]) (n := 3) (Nat.le_of_ble_eq_true rfl)
  rw [lg_entry_eq]
  generalize (lg_sl ([.ref h0, .int (zi sl), .int (zi ya)]) ++ List.replicate (3 - (lg_sl ([.ref h0, .int (zi sl), .int (zi ya)])).length) Slot.unset).toArray = ls at hl ⊢
  have hl : lv_has ls 3 [(0, .ref h0), (1, .int (zi sl)), (2, .int (zi ya))] := hl
  refine lv_iload_n hx hb dX4_easter_0 rfl (lv_at hl 1 rfl) ?_
  have hh1 := t_X4_needSlot l hst sl (by omega) (by omega)
  exact zt_pass (vx_runS (As := [.int (zi sl)]) (rest := []) ⟨hx, hb, hml, hown, hts⟩ hh1 (va_cwS 1 hts gX4_easter_X4_needSlot rfl rfl rfl (by decide +kernel) ⟨Nat.le_of_ble_eq_true rfl, Nat.le_of_ble_eq_true rfl⟩) ⟨zP.blind _, fun U hU hW => ⟨rfl, hE.call va_S.rf (fun q h => by rw [hU] at h; exact h) hU hW⟩⟩ rfl rfl hl.1 rfl (lv_room (Nat.le_of_ble_eq_true rfl)) dX4_easter_1 ⟨Nat.le_of_ble_eq_true rfl, Nat.le_of_ble_eq_true rfl⟩) hno hlocks

set_option maxHeartbeats 4000000 in
set_option maxRecDepth 100000 in
theorem t_X4_easter_2 (l : Launch) (hst : l.stackTraces = false) (dC : Nat → ClassId) (dI : Nat → Nat → Nat) (cI : ClassId) (h0 qs qr qm qw qt : Nat) (we : Int) (sf : Nat → Int) (sl ya : Int) (hp0 : 0 ≤ sl ∧ sl ≤ 9) (hp1 : -2147483648 ≤ ya ∧ ya ≤ 2147483647) (hp2 : (f_X0_easterNumber ya) = -1) : vx_Met l yX4_easter wsX4_easter ({ frames := 7, cells := 1, slots := 6, locals := 112 }) (zPt (dC, dI) [(cI, .int)] [.ref h0, .int (zi sl), .int (zi ya)] [(h0, .inr (4, [.ref qs, .ref qr, .ref qm, .ref qw, .ref qt, .int (zi we)])), (qs, aI cI 10 sf)]) zNo (zX "java/lang/IllegalArgumentException") 1 6 zN := by
  refine vx_ofW (cc := cX4_easter) (maxL := 3) (ret := (some .int)) (by decide) rfl ?_
  intro p e s m args below meth c s₁ B hml hno hv
  obtain ⟨rfl, hE, hP, hK⟩ := hv
  have hx := B.exec
  have hb := B.bytes
  have hr := B.returns
  have hts := atoms_spec (ws := wsX4_easter) B.pre
  have hown : s.vm.findClass RX4 = some m.cls := findClass_of_methodNamed B.named
  have hlocks := B.notSynchronized
  have hl := lv_entry ([.ref h0, .int (zi sl), .int (zi ya)]) (n := 3) (Nat.le_of_ble_eq_true rfl)
  rw [lg_entry_eq]
  generalize (lg_sl ([.ref h0, .int (zi sl), .int (zi ya)]) ++ List.replicate (3 - (lg_sl ([.ref h0, .int (zi sl), .int (zi ya)])).length) Slot.unset).toArray = ls at hl ⊢
  have hl : lv_has ls 3 [(0, .ref h0), (1, .int (zi sl)), (2, .int (zi ya))] := hl
  refine lv_iload_n hx hb dX4_easter_0 rfl (lv_at hl 1 rfl) ?_
  have hh1 := c_X4_needSlot l sl (by omega)
  refine va_csv (va_Run.run (va_runS (As := [.int (zi sl)]) (rest := []) ⟨hx, hb, hml, hown, hts⟩ hh1 (va_cwS 1 hts gX4_easter_X4_needSlot rfl rfl rfl (by decide +kernel) ⟨Nat.le_of_ble_eq_true rfl, Nat.le_of_ble_eq_true rfl⟩) ⟨fun a U g mk q => q, fun U hU hW => ⟨rfl, trivial⟩⟩ rfl rfl hl.1 rfl (lv_room (Nat.le_of_ble_eq_true rfl)) dX4_easter_1 ⟨Nat.le_of_ble_eq_true rfl, Nat.le_of_ble_eq_true rfl⟩)) (fun _ => ?_)
  refine lv_aload_n hx hb dX4_easter_4 rfl (lv_at hl 0 rfl) ?_
  refine lv_iload_n hx hb dX4_easter_5 rfl (lv_at hl 1 rfl) ?_
  refine lv_iload_n hx hb dX4_easter_6 rfl (lv_at hl 2 rfl) ?_
  have hh2 := c_X0_easterNumber l ya (by omega)
  refine vp_callSi (va_Run.run (va_runS (As := [.int (zi ya)]) (rest := [.int (zi sl), .ref h0]) ⟨hx, hb, hml, hown, hts⟩ hh2 (va_cwS 1 hts gX4_easter_X0_easterNumber rfl rfl rfl (by decide +kernel) ⟨Nat.le_of_ble_eq_true rfl, Nat.le_of_ble_eq_true rfl⟩) ⟨fun a U g mk q => q, fun U hU hW => ⟨rfl, trivial⟩⟩ rfl rfl hl.1 rfl (lv_room (Nat.le_of_ble_eq_true rfl)) dX4_easter_7 ⟨Nat.zero_le _, Nat.zero_le _⟩)) (fun r2 (hr2 : r2 = zi (f_X0_easterNumber ya)) => ?_)
  subst hr2
  have hf2 := b_X0_easterNumber ya (by omega)
  have hh3 := t_X4_keep l hst dC dI cI h0 qs qr qm qw qt we sf sl (f_X0_easterNumber ya) (by omega) (by omega) (by omega)
  have hPc := hP.sub (ws' := [(h0, .inr (4, [.ref qs, .ref qr, .ref qm, .ref qw, .ref qt, .int (zi we)])), (qs, aI cI 10 sf)]) [0, 1] rfl
  have hKc : va_K (dC, dI) vwCl [(cI, .int)] s := hK
  exact zt_pass (vx_runV (As := [.int (zi sl), .int (zi (f_X0_easterNumber ya))]) (rest := []) ⟨hx, hb, hml, hown, hts⟩ hh3 (cwV 2 hts gX4_easter_X4_keep rfl rfl rfl (by decide +kernel) ⟨Nat.le_of_ble_eq_true rfl, Nat.le_of_ble_eq_true rfl⟩) ⟨zPt.blind _ _ _ _, va_recv hKc hPc (ci := 4) (q0 := 0) rfl rfl, fun U hU hW => ⟨rfl, hE.call va_S.rf (fun q h => by rw [hU] at h; exact h) hU hW, by rw [hU]; exact hPc, va_K.moved hW.alike hKc⟩⟩ rfl rfl hl.1 rfl (lv_room (Nat.le_of_ble_eq_true rfl)) dX4_easter_10 ⟨Nat.le_of_ble_eq_true rfl, Nat.le_of_ble_eq_true rfl⟩) hno hlocks

set_option maxHeartbeats 4000000 in
set_option maxRecDepth 100000 in
theorem c_X4_easter (l : Launch)  (dC : Nat → ClassId) (dI : Nat → Nat → Nat) (cI : ClassId) (h0 qs qr qm qw qt : Nat) (we : Int) (sf : Nat → Int) (sl ya : Int) (sz : Nat) (hp0 : 0 ≤ sl ∧ sl ≤ 9) (hp1 : -2147483648 ≤ ya ∧ ya ≤ 2147483647) (hp2 : (f_X0_easterNumber ya) ≠ -1) : Met l yX4_easter wsX4_easter ({ frames := 3, cells := 0, slots := 0, locals := 68 }) (zPw (dC, dI) [(cI, .int)] sz [.ref h0, .int (zi sl), .int (zi ya)] [(h0, .inr (4, [.ref qs, .ref qr, .ref qm, .ref qw, .ref qt, .int (zi we)])), (qs, aI cI 10 sf)]) (va_Qi (fun (r : Int32) (_ : Unit) => r = zi (f_X0_easterNumber ya)) (zB (dC, dI) [(cI, .int)] (va_A [(h0, .inr (4, [.ref qs, .ref qr, .ref qm, .ref qw, .ref qt, .int (zi we)])), (qs, aI cI 10 sf)] sz) [(h0, .inr (4, [.ref qs, .ref qr, .ref qm, .ref qw, .ref qt, .int (zi we)])), (qs, aI cI 10 (zup sf sl.toNat (f_X0_easterNumber ya)))]) (va_A [(h0, .inr (4, [.ref qs, .ref qr, .ref qm, .ref qw, .ref qt, .int (zi we)])), (qs, aI cI 10 sf)] sz)) 0 0 (va_A [(h0, .inr (4, [.ref qs, .ref qr, .ref qm, .ref qw, .ref qt, .int (zi we)])), (qs, aI cI 10 sf)] sz) := by
  refine Met.ofW (cc := cX4_easter) (maxL := 3) (ret := (some .int)) (by decide) rfl ?_
  intro p e s m args below meth c s₁ B hml hv
  obtain ⟨rfl, hsz, hP, hK, hD0⟩ := hv
  have hx := B.exec
  have hb := B.bytes
  have hr := B.returns
  have hts := atoms_spec (ws := wsX4_easter) B.pre
  have hown : s.vm.findClass RX4 = some m.cls := findClass_of_methodNamed B.named
  have hlocks := B.notSynchronized
  subst hsz
  have hD := hD0.self (sz := s.heap.size)
  generalize hAe : va_A [(h0, .inr (4, [.ref qs, .ref qr, .ref qm, .ref qw, .ref qt, .int (zi we)])), (qs, aI cI 10 sf)] s.heap.size = A at hD ⊢
  have hA : ∀ q : Nat, s.heap.size ≤ q → A q := fun q h => by rw [← hAe]; exact Or.inr h
  have hS : va_S A s.heap s.heap [] := va_S.rf
  have hP : va_P (dC, dI) vwCl [(h0, .inr (4, [.ref qs, .ref qr, .ref qm, .ref qw, .ref qt, .int (zi we)])), (qs, aI cI 10 sf)] s.heap := hP
  have hl := lv_entry ([.ref h0, .int (zi sl), .int (zi ya)]) (n := 3) (Nat.le_of_ble_eq_true rfl)
  rw [lg_entry_eq]
  generalize (lg_sl ([.ref h0, .int (zi sl), .int (zi ya)]) ++ List.replicate (3 - (lg_sl ([.ref h0, .int (zi sl), .int (zi ya)])).length) Slot.unset).toArray = ls at hl ⊢
  have hl : lv_has ls 3 [(0, .ref h0), (1, .int (zi sl)), (2, .int (zi ya))] := hl
  refine lv_iload_n hx hb dX4_easter_0 rfl (lv_at hl 1 rfl) ?_
  have hh1 := c_X4_needSlot l sl (by omega)
  refine va_csv (va_Run.run (va_runS (As := [.int (zi sl)]) (rest := []) ⟨hx, hb, hml, hown, hts⟩ hh1 (va_cwS 1 hts gX4_easter_X4_needSlot rfl rfl rfl (by decide +kernel) ⟨Nat.le_of_ble_eq_true rfl, Nat.le_of_ble_eq_true rfl⟩) ⟨fun a U g mk q => q, fun U hU hW => ⟨rfl, trivial⟩⟩ rfl rfl hl.1 rfl (lv_room (Nat.le_of_ble_eq_true rfl)) dX4_easter_1 ⟨Nat.le_of_ble_eq_true rfl, Nat.le_of_ble_eq_true rfl⟩)) (fun _ => ?_)
  refine lv_aload_n hx hb dX4_easter_4 rfl (lv_at hl 0 rfl) ?_
  refine lv_iload_n hx hb dX4_easter_5 rfl (lv_at hl 1 rfl) ?_
  refine lv_iload_n hx hb dX4_easter_6 rfl (lv_at hl 2 rfl) ?_
  have hh2 := c_X0_easterNumber l ya (by omega)
  refine vp_callSi (va_Run.run (va_runS (As := [.int (zi ya)]) (rest := [.int (zi sl), .ref h0]) ⟨hx, hb, hml, hown, hts⟩ hh2 (va_cwS 1 hts gX4_easter_X0_easterNumber rfl rfl rfl (by decide +kernel) ⟨Nat.le_of_ble_eq_true rfl, Nat.le_of_ble_eq_true rfl⟩) ⟨fun a U g mk q => q, fun U hU hW => ⟨rfl, trivial⟩⟩ rfl rfl hl.1 rfl (lv_room (Nat.le_of_ble_eq_true rfl)) dX4_easter_7 ⟨Nat.zero_le _, Nat.zero_le _⟩)) (fun r2 (hr2 : r2 = zi (f_X0_easterNumber ya)) => ?_)
  subst hr2
  have hf2 := b_X0_easterNumber ya (by omega)
  have hh3 := c_X4_keep l dC dI cI h0 qs qr qm qw qt we sf sl (f_X0_easterNumber ya) s.heap.size (by omega) (by omega) (by omega)
  have hPc := hP.sub (ws' := [(h0, .inr (4, [.ref qs, .ref qr, .ref qm, .ref qw, .ref qt, .int (zi we)])), (qs, aI cI 10 sf)]) [0, 1] rfl
  have hKc : va_K (dC, dI) vwCl [(cI, .int)] s := hK
  have hDc := hD.sub (ws' := [(h0, .inr (4, [.ref qs, .ref qr, .ref qm, .ref qw, .ref qt, .int (zi we)])), (qs, aI cI 10 sf)]) [0, 1] (by decide) rfl
  have hFc := va_free (wc := [(h0, .inr (4, [.ref qs, .ref qr, .ref qm, .ref qw, .ref qt, .int (zi we)])), (qs, aI cI 10 sf)]) hD hS hA [0, 1] rfl
  refine va_calli (va_runV (As := [.int (zi sl), .int (zi (f_X0_easterNumber ya))]) (rest := []) ⟨hx, hb, hml, hown, hts⟩ hh3 (cwV 2 hts gX4_easter_X4_keep rfl rfl rfl (by decide +kernel) ⟨Nat.le_of_ble_eq_true rfl, Nat.le_of_ble_eq_true rfl⟩) ⟨zPw.blind _ _ _ _ _, va_recv hKc hPc (ci := 4) (q0 := 0) rfl rfl, fun U hU hW => ⟨rfl, by rw [hU], by rw [hU]; exact hPc, va_K.moved hW.alike hKc, hDc.weaken (fun _ _ _ _ => trivial)⟩⟩ rfl rfl hl.1 rfl (lv_room (Nat.le_of_ble_eq_true rfl)) dX4_easter_10 ⟨Nat.le_of_ble_eq_true rfl, Nat.le_of_ble_eq_true rfl⟩) hS (fun q _ h => hFc q h) hFc (fun r3 u t H1 locs ht hvm hw hB hz1 hk1 hS => ?_)
  obtain ⟨hP1, hK1, hD1⟩ := hB
  rw [ht] at hP1
  obtain ⟨hP, hD⟩ := va_join (wr := []) (w1 := [(h0, .inr (4, [.ref qs, .ref qr, .ref qm, .ref qw, .ref qt, .int (zi we)])), (qs, aI cI 10 (zup sf sl.toNat (f_X0_easterNumber ya)))]) hP hD [0, 1] [] rfl rfl (by decide) (by decide) hk1 hFc hP1 hD1
  generalize H1 = H at hP hS ⊢
  obtain rfl : r3 = zi (f_X0_easterNumber ya) := hw
  have hP : va_P (dC, dI) vwCl [(h0, .inr (4, [.ref qs, .ref qr, .ref qm, .ref qw, .ref qt, .int (zi we)])), (qs, aI cI 10 (zup sf sl.toNat (f_X0_easterNumber ya)))] H := hP
  have hD : va_D A [(h0, .inr (4, [.ref qs, .ref qr, .ref qm, .ref qw, .ref qt, .int (zi we)])), (qs, aI cI 10 (zup sf sl.toNat (f_X0_easterNumber ya)))] := hD
  have hP9 := hP.sub (ws' := [(h0, .inr (4, [.ref qs, .ref qr, .ref qm, .ref qw, .ref qt, .int (zi we)])), (qs, aI cI 10 (zup sf sl.toNat (f_X0_easterNumber ya)))]) [0, 1] rfl
  have hD9 := hD.sub (ws' := [(h0, .inr (4, [.ref qs, .ref qr, .ref qm, .ref qw, .ref qt, .int (zi we)])), (qs, aI cI 10 (zup sf sl.toNat (f_X0_easterNumber ya)))]) [0, 1] (by decide) rfl
  exact W.iret (v := zi (f_X0_easterNumber ya)) hx hb hr (fun t ht hW => ⟨⟨zi (f_X0_easterNumber ya), (), rfl, rfl, by rw [ht]; exact hP9, va_K.moved hW.alike hK, hD9⟩, hS.F ht⟩) hS.2.2 dX4_easter_13

set_option maxHeartbeats 4000000 in
set_option maxRecDepth 100000 in
theorem t_X4_nth_1 (l : Launch) (hst : l.stackTraces = false) (h0 : Nat) (sl ya mo wd nn : Int) (hp0 : -2147483648 ≤ sl ∧ sl ≤ 2147483647) (hp1 : sl < 0 ∨ 9 < sl) : vx_Met l yX4_nth wsX4_nth ({ frames := 7, cells := 1, slots := 6, locals := 110 }) (zP [.ref h0, .int (zi sl), .int (zi ya), .int (zi mo), .int (zi wd), .int (zi nn)]) zNo (zX "java/lang/IndexOutOfBoundsException") 1 6 zN := by
  refine vx_ofW (cc := cX4_nth) (maxL := 6) (ret := (some .int)) (by decide) rfl ?_
  intro p e s m args below meth c s₁ B hml hno hv
  obtain ⟨rfl, hE⟩ := hv
  have hx := B.exec
  have hb := B.bytes
  have hr := B.returns
  have hts := atoms_spec (ws := wsX4_nth) B.pre
  have hown : s.vm.findClass RX4 = some m.cls := findClass_of_methodNamed B.named
  have hlocks := B.notSynchronized
  have hl := lv_entry ([.ref h0, .int (zi sl), .int (zi ya), .int (zi mo), .int (zi wd), .int (zi nn)]) (n := 6) (Nat.le_of_ble_eq_true rfl)
  rw [lg_entry_eq]
  generalize (lg_sl ([.ref h0, .int (zi sl), .int (zi ya), .int (zi mo), .int (zi wd), .int (zi nn)]) ++ List.replicate (6 - (lg_sl ([.ref h0, .int (zi sl), .int (zi ya), .int (zi mo), .int (zi wd), .int (zi nn)])).length) Slot.unset).toArray = ls at hl ⊢
  have hl : lv_has ls 6 [(0, .ref h0), (1, .int (zi sl)), (2, .int (zi ya)), (3, .int (zi mo)), (4, .int (zi wd)), (5, .int (zi nn))] := hl
  refine lv_iload_n hx hb dX4_nth_0 rfl (lv_at hl 1 rfl) ?_
  have hh1 := t_X4_needSlot l hst sl (by omega) (by omega)
  exact zt_pass (vx_runS (As := [.int (zi sl)]) (rest := []) ⟨hx, hb, hml, hown, hts⟩ hh1 (va_cwS 1 hts gX4_nth_X4_needSlot rfl rfl rfl (by decide +kernel) ⟨Nat.le_of_ble_eq_true rfl, Nat.le_of_ble_eq_true rfl⟩) ⟨zP.blind _, fun U hU hW => ⟨rfl, hE.call va_S.rf (fun q h => by rw [hU] at h; exact h) hU hW⟩⟩ rfl rfl hl.1 rfl (lv_room (Nat.le_of_ble_eq_true rfl)) dX4_nth_1 ⟨Nat.le_of_ble_eq_true rfl, Nat.le_of_ble_eq_true rfl⟩) hno hlocks

set_option maxHeartbeats 4000000 in
set_option maxRecDepth 100000 in
theorem t_X4_nth_2 (l : Launch) (hst : l.stackTraces = false) (dC : Nat → ClassId) (dI : Nat → Nat → Nat) (cI : ClassId) (h0 qs qr qm qw qt : Nat) (we : Int) (sf : Nat → Int) (sl ya mo wd nn : Int) (hp0 : 0 ≤ sl ∧ sl ≤ 9) (hp1 : -2147483648 ≤ ya ∧ ya ≤ 2147483647) (hp2 : -2147483648 ≤ mo ∧ mo ≤ 2147483647) (hp3 : -2147483648 ≤ wd ∧ wd ≤ 2147483647) (hp4 : -2147483648 ≤ nn ∧ nn ≤ 2147483647) (hp5 : (f_X0_nthNumber ya mo wd nn) = -1) : vx_Met l yX4_nth wsX4_nth ({ frames := 7, cells := 1, slots := 6, locals := 112 }) (zPt (dC, dI) [(cI, .int)] [.ref h0, .int (zi sl), .int (zi ya), .int (zi mo), .int (zi wd), .int (zi nn)] [(h0, .inr (4, [.ref qs, .ref qr, .ref qm, .ref qw, .ref qt, .int (zi we)])), (qs, aI cI 10 sf)]) zNo (zX "java/lang/IllegalArgumentException") 1 6 zN := by
  refine vx_ofW (cc := cX4_nth) (maxL := 6) (ret := (some .int)) (by decide) rfl ?_
  intro p e s m args below meth c s₁ B hml hno hv
  obtain ⟨rfl, hE, hP, hK⟩ := hv
  have hx := B.exec
  have hb := B.bytes
  have hr := B.returns
  have hts := atoms_spec (ws := wsX4_nth) B.pre
  have hown : s.vm.findClass RX4 = some m.cls := findClass_of_methodNamed B.named
  have hlocks := B.notSynchronized
  have hl := lv_entry ([.ref h0, .int (zi sl), .int (zi ya), .int (zi mo), .int (zi wd), .int (zi nn)]) (n := 6) (Nat.le_of_ble_eq_true rfl)
  rw [lg_entry_eq]
  generalize (lg_sl ([.ref h0, .int (zi sl), .int (zi ya), .int (zi mo), .int (zi wd), .int (zi nn)]) ++ List.replicate (6 - (lg_sl ([.ref h0, .int (zi sl), .int (zi ya), .int (zi mo), .int (zi wd), .int (zi nn)])).length) Slot.unset).toArray = ls at hl ⊢
  have hl : lv_has ls 6 [(0, .ref h0), (1, .int (zi sl)), (2, .int (zi ya)), (3, .int (zi mo)), (4, .int (zi wd)), (5, .int (zi nn))] := hl
  refine lv_iload_n hx hb dX4_nth_0 rfl (lv_at hl 1 rfl) ?_
  have hh1 := c_X4_needSlot l sl (by omega)
  refine va_csv (va_Run.run (va_runS (As := [.int (zi sl)]) (rest := []) ⟨hx, hb, hml, hown, hts⟩ hh1 (va_cwS 1 hts gX4_nth_X4_needSlot rfl rfl rfl (by decide +kernel) ⟨Nat.le_of_ble_eq_true rfl, Nat.le_of_ble_eq_true rfl⟩) ⟨fun a U g mk q => q, fun U hU hW => ⟨rfl, trivial⟩⟩ rfl rfl hl.1 rfl (lv_room (Nat.le_of_ble_eq_true rfl)) dX4_nth_1 ⟨Nat.le_of_ble_eq_true rfl, Nat.le_of_ble_eq_true rfl⟩)) (fun _ => ?_)
  refine lv_aload_n hx hb dX4_nth_4 rfl (lv_at hl 0 rfl) ?_
  refine lv_iload_n hx hb dX4_nth_5 rfl (lv_at hl 1 rfl) ?_
  refine lv_iload_n hx hb dX4_nth_6 rfl (lv_at hl 2 rfl) ?_
  refine lv_iload_n hx hb dX4_nth_7 rfl (lv_at hl 3 rfl) ?_
  refine lv_iload hx hb dX4_nth_8 (lv_at hl 4 rfl) ?_
  refine lv_iload hx hb dX4_nth_10 (lv_at hl 5 rfl) ?_
  have hh2 := c_X0_nthNumber l ya mo wd nn (by omega) (by omega) (by omega) (by omega)
  refine vp_callSi (va_Run.run (va_runS (As := [.int (zi ya), .int (zi mo), .int (zi wd), .int (zi nn)]) (rest := [.int (zi sl), .ref h0]) ⟨hx, hb, hml, hown, hts⟩ hh2 (va_cwS 4 hts gX4_nth_X0_nthNumber rfl rfl rfl (by decide +kernel) ⟨Nat.le_of_ble_eq_true rfl, Nat.le_of_ble_eq_true rfl⟩) ⟨fun a U g mk q => q, fun U hU hW => ⟨rfl, trivial⟩⟩ rfl rfl hl.1 rfl (lv_room (Nat.le_of_ble_eq_true rfl)) dX4_nth_12 ⟨Nat.zero_le _, Nat.zero_le _⟩)) (fun r2 (hr2 : r2 = zi (f_X0_nthNumber ya mo wd nn)) => ?_)
  subst hr2
  have hf2 := b_X0_nthNumber ya mo wd nn (by omega) (by omega) (by omega) (by omega)
  have hh3 := t_X4_keep l hst dC dI cI h0 qs qr qm qw qt we sf sl (f_X0_nthNumber ya mo wd nn) (by omega) (by omega) (by omega)
  have hPc := hP.sub (ws' := [(h0, .inr (4, [.ref qs, .ref qr, .ref qm, .ref qw, .ref qt, .int (zi we)])), (qs, aI cI 10 sf)]) [0, 1] rfl
  have hKc : va_K (dC, dI) vwCl [(cI, .int)] s := hK
  exact zt_pass (vx_runV (As := [.int (zi sl), .int (zi (f_X0_nthNumber ya mo wd nn))]) (rest := []) ⟨hx, hb, hml, hown, hts⟩ hh3 (cwV 2 hts gX4_nth_X4_keep rfl rfl rfl (by decide +kernel) ⟨Nat.le_of_ble_eq_true rfl, Nat.le_of_ble_eq_true rfl⟩) ⟨zPt.blind _ _ _ _, va_recv hKc hPc (ci := 4) (q0 := 0) rfl rfl, fun U hU hW => ⟨rfl, hE.call va_S.rf (fun q h => by rw [hU] at h; exact h) hU hW, by rw [hU]; exact hPc, va_K.moved hW.alike hKc⟩⟩ rfl rfl hl.1 rfl (lv_room (Nat.le_of_ble_eq_true rfl)) dX4_nth_15 ⟨Nat.le_of_ble_eq_true rfl, Nat.le_of_ble_eq_true rfl⟩) hno hlocks

set_option maxHeartbeats 4000000 in
set_option maxRecDepth 100000 in
theorem c_X4_nth (l : Launch)  (dC : Nat → ClassId) (dI : Nat → Nat → Nat) (cI : ClassId) (h0 qs qr qm qw qt : Nat) (we : Int) (sf : Nat → Int) (sl ya mo wd nn : Int) (sz : Nat) (hp0 : 0 ≤ sl ∧ sl ≤ 9) (hp1 : -2147483648 ≤ ya ∧ ya ≤ 2147483647) (hp2 : -2147483648 ≤ mo ∧ mo ≤ 2147483647) (hp3 : -2147483648 ≤ wd ∧ wd ≤ 2147483647) (hp4 : -2147483648 ≤ nn ∧ nn ≤ 2147483647) (hp5 : (f_X0_nthNumber ya mo wd nn) ≠ -1) : Met l yX4_nth wsX4_nth ({ frames := 3, cells := 0, slots := 0, locals := 69 }) (zPw (dC, dI) [(cI, .int)] sz [.ref h0, .int (zi sl), .int (zi ya), .int (zi mo), .int (zi wd), .int (zi nn)] [(h0, .inr (4, [.ref qs, .ref qr, .ref qm, .ref qw, .ref qt, .int (zi we)])), (qs, aI cI 10 sf)]) (va_Qi (fun (r : Int32) (_ : Unit) => r = zi (f_X0_nthNumber ya mo wd nn)) (zB (dC, dI) [(cI, .int)] (va_A [(h0, .inr (4, [.ref qs, .ref qr, .ref qm, .ref qw, .ref qt, .int (zi we)])), (qs, aI cI 10 sf)] sz) [(h0, .inr (4, [.ref qs, .ref qr, .ref qm, .ref qw, .ref qt, .int (zi we)])), (qs, aI cI 10 (zup sf sl.toNat (f_X0_nthNumber ya mo wd nn)))]) (va_A [(h0, .inr (4, [.ref qs, .ref qr, .ref qm, .ref qw, .ref qt, .int (zi we)])), (qs, aI cI 10 sf)] sz)) 0 0 (va_A [(h0, .inr (4, [.ref qs, .ref qr, .ref qm, .ref qw, .ref qt, .int (zi we)])), (qs, aI cI 10 sf)] sz) := by
  refine Met.ofW (cc := cX4_nth) (maxL := 6) (ret := (some .int)) (by decide) rfl ?_
  intro p e s m args below meth c s₁ B hml hv
  obtain ⟨rfl, hsz, hP, hK, hD0⟩ := hv
  have hx := B.exec
  have hb := B.bytes
  have hr := B.returns
  have hts := atoms_spec (ws := wsX4_nth) B.pre
  have hown : s.vm.findClass RX4 = some m.cls := findClass_of_methodNamed B.named
  have hlocks := B.notSynchronized
  subst hsz
  have hD := hD0.self (sz := s.heap.size)
  generalize hAe : va_A [(h0, .inr (4, [.ref qs, .ref qr, .ref qm, .ref qw, .ref qt, .int (zi we)])), (qs, aI cI 10 sf)] s.heap.size = A at hD ⊢
  have hA : ∀ q : Nat, s.heap.size ≤ q → A q := fun q h => by rw [← hAe]; exact Or.inr h
  have hS : va_S A s.heap s.heap [] := va_S.rf
  have hP : va_P (dC, dI) vwCl [(h0, .inr (4, [.ref qs, .ref qr, .ref qm, .ref qw, .ref qt, .int (zi we)])), (qs, aI cI 10 sf)] s.heap := hP
  have hl := lv_entry ([.ref h0, .int (zi sl), .int (zi ya), .int (zi mo), .int (zi wd), .int (zi nn)]) (n := 6) (Nat.le_of_ble_eq_true rfl)
  rw [lg_entry_eq]
  generalize (lg_sl ([.ref h0, .int (zi sl), .int (zi ya), .int (zi mo), .int (zi wd), .int (zi nn)]) ++ List.replicate (6 - (lg_sl ([.ref h0, .int (zi sl), .int (zi ya), .int (zi mo), .int (zi wd), .int (zi nn)])).length) Slot.unset).toArray = ls at hl ⊢
  have hl : lv_has ls 6 [(0, .ref h0), (1, .int (zi sl)), (2, .int (zi ya)), (3, .int (zi mo)), (4, .int (zi wd)), (5, .int (zi nn))] := hl
  refine lv_iload_n hx hb dX4_nth_0 rfl (lv_at hl 1 rfl) ?_
  have hh1 := c_X4_needSlot l sl (by omega)
  refine va_csv (va_Run.run (va_runS (As := [.int (zi sl)]) (rest := []) ⟨hx, hb, hml, hown, hts⟩ hh1 (va_cwS 1 hts gX4_nth_X4_needSlot rfl rfl rfl (by decide +kernel) ⟨Nat.le_of_ble_eq_true rfl, Nat.le_of_ble_eq_true rfl⟩) ⟨fun a U g mk q => q, fun U hU hW => ⟨rfl, trivial⟩⟩ rfl rfl hl.1 rfl (lv_room (Nat.le_of_ble_eq_true rfl)) dX4_nth_1 ⟨Nat.le_of_ble_eq_true rfl, Nat.le_of_ble_eq_true rfl⟩)) (fun _ => ?_)
  refine lv_aload_n hx hb dX4_nth_4 rfl (lv_at hl 0 rfl) ?_
  refine lv_iload_n hx hb dX4_nth_5 rfl (lv_at hl 1 rfl) ?_
  refine lv_iload_n hx hb dX4_nth_6 rfl (lv_at hl 2 rfl) ?_
  refine lv_iload_n hx hb dX4_nth_7 rfl (lv_at hl 3 rfl) ?_
  refine lv_iload hx hb dX4_nth_8 (lv_at hl 4 rfl) ?_
  refine lv_iload hx hb dX4_nth_10 (lv_at hl 5 rfl) ?_
  have hh2 := c_X0_nthNumber l ya mo wd nn (by omega) (by omega) (by omega) (by omega)
  refine vp_callSi (va_Run.run (va_runS (As := [.int (zi ya), .int (zi mo), .int (zi wd), .int (zi nn)]) (rest := [.int (zi sl), .ref h0]) ⟨hx, hb, hml, hown, hts⟩ hh2 (va_cwS 4 hts gX4_nth_X0_nthNumber rfl rfl rfl (by decide +kernel) ⟨Nat.le_of_ble_eq_true rfl, Nat.le_of_ble_eq_true rfl⟩) ⟨fun a U g mk q => q, fun U hU hW => ⟨rfl, trivial⟩⟩ rfl rfl hl.1 rfl (lv_room (Nat.le_of_ble_eq_true rfl)) dX4_nth_12 ⟨Nat.zero_le _, Nat.zero_le _⟩)) (fun r2 (hr2 : r2 = zi (f_X0_nthNumber ya mo wd nn)) => ?_)
  subst hr2
  have hf2 := b_X0_nthNumber ya mo wd nn (by omega) (by omega) (by omega) (by omega)
  have hh3 := c_X4_keep l dC dI cI h0 qs qr qm qw qt we sf sl (f_X0_nthNumber ya mo wd nn) s.heap.size (by omega) (by omega) (by omega)
  have hPc := hP.sub (ws' := [(h0, .inr (4, [.ref qs, .ref qr, .ref qm, .ref qw, .ref qt, .int (zi we)])), (qs, aI cI 10 sf)]) [0, 1] rfl
  have hKc : va_K (dC, dI) vwCl [(cI, .int)] s := hK
  have hDc := hD.sub (ws' := [(h0, .inr (4, [.ref qs, .ref qr, .ref qm, .ref qw, .ref qt, .int (zi we)])), (qs, aI cI 10 sf)]) [0, 1] (by decide) rfl
  have hFc := va_free (wc := [(h0, .inr (4, [.ref qs, .ref qr, .ref qm, .ref qw, .ref qt, .int (zi we)])), (qs, aI cI 10 sf)]) hD hS hA [0, 1] rfl
  refine va_calli (va_runV (As := [.int (zi sl), .int (zi (f_X0_nthNumber ya mo wd nn))]) (rest := []) ⟨hx, hb, hml, hown, hts⟩ hh3 (cwV 2 hts gX4_nth_X4_keep rfl rfl rfl (by decide +kernel) ⟨Nat.le_of_ble_eq_true rfl, Nat.le_of_ble_eq_true rfl⟩) ⟨zPw.blind _ _ _ _ _, va_recv hKc hPc (ci := 4) (q0 := 0) rfl rfl, fun U hU hW => ⟨rfl, by rw [hU], by rw [hU]; exact hPc, va_K.moved hW.alike hKc, hDc.weaken (fun _ _ _ _ => trivial)⟩⟩ rfl rfl hl.1 rfl (lv_room (Nat.le_of_ble_eq_true rfl)) dX4_nth_15 ⟨Nat.le_of_ble_eq_true rfl, Nat.le_of_ble_eq_true rfl⟩) hS (fun q _ h => hFc q h) hFc (fun r3 u t H1 locs ht hvm hw hB hz1 hk1 hS => ?_)
  obtain ⟨hP1, hK1, hD1⟩ := hB
  rw [ht] at hP1
  obtain ⟨hP, hD⟩ := va_join (wr := []) (w1 := [(h0, .inr (4, [.ref qs, .ref qr, .ref qm, .ref qw, .ref qt, .int (zi we)])), (qs, aI cI 10 (zup sf sl.toNat (f_X0_nthNumber ya mo wd nn)))]) hP hD [0, 1] [] rfl rfl (by decide) (by decide) hk1 hFc hP1 hD1
  generalize H1 = H at hP hS ⊢
  obtain rfl : r3 = zi (f_X0_nthNumber ya mo wd nn) := hw
  have hP : va_P (dC, dI) vwCl [(h0, .inr (4, [.ref qs, .ref qr, .ref qm, .ref qw, .ref qt, .int (zi we)])), (qs, aI cI 10 (zup sf sl.toNat (f_X0_nthNumber ya mo wd nn)))] H := hP
  have hD : va_D A [(h0, .inr (4, [.ref qs, .ref qr, .ref qm, .ref qw, .ref qt, .int (zi we)])), (qs, aI cI 10 (zup sf sl.toNat (f_X0_nthNumber ya mo wd nn)))] := hD
  have hP9 := hP.sub (ws' := [(h0, .inr (4, [.ref qs, .ref qr, .ref qm, .ref qw, .ref qt, .int (zi we)])), (qs, aI cI 10 (zup sf sl.toNat (f_X0_nthNumber ya mo wd nn)))]) [0, 1] rfl
  have hD9 := hD.sub (ws' := [(h0, .inr (4, [.ref qs, .ref qr, .ref qm, .ref qw, .ref qt, .int (zi we)])), (qs, aI cI 10 (zup sf sl.toNat (f_X0_nthNumber ya mo wd nn)))]) [0, 1] (by decide) rfl
  exact W.iret (v := zi (f_X0_nthNumber ya mo wd nn)) hx hb hr (fun t ht hW => ⟨⟨zi (f_X0_nthNumber ya mo wd nn), (), rfl, rfl, by rw [ht]; exact hP9, va_K.moved hW.alike hK, hD9⟩, hS.F ht⟩) hS.2.2 dX4_nth_18

set_option maxHeartbeats 4000000 in
set_option maxRecDepth 100000 in
theorem t_X4_days_1 (l : Launch) (hst : l.stackTraces = false) (h0 : Nat) (sl nu : Int) (hp0 : -2147483648 ≤ sl ∧ sl ≤ 2147483647) (hp1 : sl < 0 ∨ 9 < sl) : vx_Met l yX4_days wsX4_days ({ frames := 7, cells := 1, slots := 6, locals := 110 }) (zP [.ref h0, .int (zi sl), .int (zi nu)]) zNo (zX "java/lang/IndexOutOfBoundsException") 1 6 zN := by
  refine vx_ofW (cc := cX4_days) (maxL := 3) (ret := (some .int)) (by decide) rfl ?_
  intro p e s m args below meth c s₁ B hml hno hv
  obtain ⟨rfl, hE⟩ := hv
  have hx := B.exec
  have hb := B.bytes
  have hr := B.returns
  have hts := atoms_spec (ws := wsX4_days) B.pre
  have hown : s.vm.findClass RX4 = some m.cls := findClass_of_methodNamed B.named
  have hlocks := B.notSynchronized
  have hl := lv_entry ([.ref h0, .int (zi sl), .int (zi nu)]) (n := 3) (Nat.le_of_ble_eq_true rfl)
  rw [lg_entry_eq]
  generalize (lg_sl ([.ref h0, .int (zi sl), .int (zi nu)]) ++ List.replicate (3 - (lg_sl ([.ref h0, .int (zi sl), .int (zi nu)])).length) Slot.unset).toArray = ls at hl ⊢
  have hl : lv_has ls 3 [(0, .ref h0), (1, .int (zi sl)), (2, .int (zi nu))] := hl
  refine lv_iload_n hx hb dX4_days_0 rfl (lv_at hl 1 rfl) ?_
  have hh1 := t_X4_needSlot l hst sl (by omega) (by omega)
  exact zt_pass (vx_runS (As := [.int (zi sl)]) (rest := []) ⟨hx, hb, hml, hown, hts⟩ hh1 (va_cwS 1 hts gX4_days_X4_needSlot rfl rfl rfl (by decide +kernel) ⟨Nat.le_of_ble_eq_true rfl, Nat.le_of_ble_eq_true rfl⟩) ⟨zP.blind _, fun U hU hW => ⟨rfl, hE.call va_S.rf (fun q h => by rw [hU] at h; exact h) hU hW⟩⟩ rfl rfl hl.1 rfl (lv_room (Nat.le_of_ble_eq_true rfl)) dX4_days_1 ⟨Nat.le_of_ble_eq_true rfl, Nat.le_of_ble_eq_true rfl⟩) hno hlocks

set_option maxHeartbeats 4000000 in
set_option maxRecDepth 100000 in
theorem t_X4_days_2 (l : Launch) (hst : l.stackTraces = false) (dC : Nat → ClassId) (dI : Nat → Nat → Nat) (cI : ClassId) (h0 qs qr qm qw qt : Nat) (we : Int) (sf : Nat → Int) (sl nu : Int) (hp0 : 0 ≤ sl ∧ sl ≤ 9) (hp1 : -2147483648 ≤ nu ∧ nu ≤ 2147483647) (hp2 : nu < 0 ∨ 3652058 < nu) : vx_Met l yX4_days wsX4_days ({ frames := 7, cells := 1, slots := 6, locals := 112 }) (zPt (dC, dI) [(cI, .int)] [.ref h0, .int (zi sl), .int (zi nu)] [(h0, .inr (4, [.ref qs, .ref qr, .ref qm, .ref qw, .ref qt, .int (zi we)])), (qs, aI cI 10 sf)]) zNo (zX "java/lang/IllegalArgumentException") 1 6 zN := by
  refine vx_ofW (cc := cX4_days) (maxL := 3) (ret := (some .int)) (by decide) rfl ?_
  intro p e s m args below meth c s₁ B hml hno hv
  obtain ⟨rfl, hE, hP, hK⟩ := hv
  have hx := B.exec
  have hb := B.bytes
  have hr := B.returns
  have hts := atoms_spec (ws := wsX4_days) B.pre
  have hown : s.vm.findClass RX4 = some m.cls := findClass_of_methodNamed B.named
  have hlocks := B.notSynchronized
  have hl := lv_entry ([.ref h0, .int (zi sl), .int (zi nu)]) (n := 3) (Nat.le_of_ble_eq_true rfl)
  rw [lg_entry_eq]
  generalize (lg_sl ([.ref h0, .int (zi sl), .int (zi nu)]) ++ List.replicate (3 - (lg_sl ([.ref h0, .int (zi sl), .int (zi nu)])).length) Slot.unset).toArray = ls at hl ⊢
  have hl : lv_has ls 3 [(0, .ref h0), (1, .int (zi sl)), (2, .int (zi nu))] := hl
  refine lv_iload_n hx hb dX4_days_0 rfl (lv_at hl 1 rfl) ?_
  have hh1 := c_X4_needSlot l sl (by omega)
  refine va_csv (va_Run.run (va_runS (As := [.int (zi sl)]) (rest := []) ⟨hx, hb, hml, hown, hts⟩ hh1 (va_cwS 1 hts gX4_days_X4_needSlot rfl rfl rfl (by decide +kernel) ⟨Nat.le_of_ble_eq_true rfl, Nat.le_of_ble_eq_true rfl⟩) ⟨fun a U g mk q => q, fun U hU hW => ⟨rfl, trivial⟩⟩ rfl rfl hl.1 rfl (lv_room (Nat.le_of_ble_eq_true rfl)) dX4_days_1 ⟨Nat.le_of_ble_eq_true rfl, Nat.le_of_ble_eq_true rfl⟩)) (fun _ => ?_)
  refine lv_aload_n hx hb dX4_days_4 rfl (lv_at hl 0 rfl) ?_
  refine lv_iload_n hx hb dX4_days_5 rfl (lv_at hl 1 rfl) ?_
  refine lv_iload_n hx hb dX4_days_6 rfl (lv_at hl 2 rfl) ?_
  refine zw_i2l hx hb dX4_days_7 ⟨by omega, by omega⟩ ?_
  have hh2 := c_X0_isNumber l nu (by omega)
  refine vp_callSi (va_Run.run (va_runS (As := [.long (zl nu)]) (rest := [.int (zi sl), .ref h0]) ⟨hx, hb, hml, hown, hts⟩ hh2 (va_cwS 1 hts gX4_days_X0_isNumber rfl rfl rfl (by decide +kernel) ⟨Nat.le_of_ble_eq_true rfl, Nat.le_of_ble_eq_true rfl⟩) ⟨fun a U g mk q => q, fun U hU hW => ⟨rfl, trivial⟩⟩ rfl rfl hl.1 rfl (lv_room (Nat.le_of_ble_eq_true rfl)) dX4_days_8 ⟨Nat.zero_le _, Nat.zero_le _⟩)) (fun r2 (hr2 : r2 = zi (f_X0_isNumber nu)) => ?_)
  subst hr2
  have hf2 := b_X0_isNumber nu (by omega)
  refine zw_if_eq (tgt := 18) hx hb dX4_days_11 (by decide) ⟨by omega, by omega⟩ (fun h3 => ?_) (fun h3 => ?_)
  · skip
    refine zw_iconst hx hb dX4_days_18 ?_
    have hh4 := t_X4_keep l hst dC dI cI h0 qs qr qm qw qt we sf sl (-1) (by omega) (by omega) (by omega)
    have hPc := hP.sub (ws' := [(h0, .inr (4, [.ref qs, .ref qr, .ref qm, .ref qw, .ref qt, .int (zi we)])), (qs, aI cI 10 sf)]) [0, 1] rfl
    have hKc : va_K (dC, dI) vwCl [(cI, .int)] s := hK
    exact zt_pass (vx_runV (As := [.int (zi sl), .int (zi (-1))]) (rest := []) ⟨hx, hb, hml, hown, hts⟩ hh4 (cwV 2 hts gX4_days_X4_keep rfl rfl rfl (by decide +kernel) ⟨Nat.le_of_ble_eq_true rfl, Nat.le_of_ble_eq_true rfl⟩) ⟨zPt.blind _ _ _ _, va_recv hKc hPc (ci := 4) (q0 := 0) rfl rfl, fun U hU hW => ⟨rfl, hE.call va_S.rf (fun q h => by rw [hU] at h; exact h) hU hW, by rw [hU]; exact hPc, va_K.moved hW.alike hKc⟩⟩ rfl rfl hl.1 rfl (lv_room (Nat.le_of_ble_eq_true rfl)) dX4_days_19 ⟨Nat.le_of_ble_eq_true rfl, Nat.le_of_ble_eq_true rfl⟩) hno hlocks
  · skip
    exact absurd True.intro (by omega)

set_option maxHeartbeats 4000000 in
set_option maxRecDepth 100000 in
theorem c_X4_days (l : Launch)  (dC : Nat → ClassId) (dI : Nat → Nat → Nat) (cI : ClassId) (h0 qs qr qm qw qt : Nat) (we : Int) (sf : Nat → Int) (sl nu : Int) (sz : Nat) (hp0 : 0 ≤ sl ∧ sl ≤ 9) (hp1 : 0 ≤ nu ∧ nu ≤ 3652058) : Met l yX4_days wsX4_days ({ frames := 1, cells := 0, slots := 0, locals := 22 }) (zPw (dC, dI) [(cI, .int)] sz [.ref h0, .int (zi sl), .int (zi nu)] [(h0, .inr (4, [.ref qs, .ref qr, .ref qm, .ref qw, .ref qt, .int (zi we)])), (qs, aI cI 10 sf)]) (va_Qi (fun (r : Int32) (_ : Unit) => r = zi (f_X0_weekdayOf nu)) (zB (dC, dI) [(cI, .int)] (va_A [(h0, .inr (4, [.ref qs, .ref qr, .ref qm, .ref qw, .ref qt, .int (zi we)])), (qs, aI cI 10 sf)] sz) [(h0, .inr (4, [.ref qs, .ref qr, .ref qm, .ref qw, .ref qt, .int (zi we)])), (qs, aI cI 10 (zup sf sl.toNat nu))]) (va_A [(h0, .inr (4, [.ref qs, .ref qr, .ref qm, .ref qw, .ref qt, .int (zi we)])), (qs, aI cI 10 sf)] sz)) 0 0 (va_A [(h0, .inr (4, [.ref qs, .ref qr, .ref qm, .ref qw, .ref qt, .int (zi we)])), (qs, aI cI 10 sf)] sz) := by
  refine Met.ofW (cc := cX4_days) (maxL := 3) (ret := (some .int)) (by decide) rfl ?_
  intro p e s m args below meth c s₁ B hml hv
  obtain ⟨rfl, hsz, hP, hK, hD0⟩ := hv
  have hx := B.exec
  have hb := B.bytes
  have hr := B.returns
  have hts := atoms_spec (ws := wsX4_days) B.pre
  have hown : s.vm.findClass RX4 = some m.cls := findClass_of_methodNamed B.named
  have hlocks := B.notSynchronized
  subst hsz
  have hD := hD0.self (sz := s.heap.size)
  generalize hAe : va_A [(h0, .inr (4, [.ref qs, .ref qr, .ref qm, .ref qw, .ref qt, .int (zi we)])), (qs, aI cI 10 sf)] s.heap.size = A at hD ⊢
  have hA : ∀ q : Nat, s.heap.size ≤ q → A q := fun q h => by rw [← hAe]; exact Or.inr h
  have hS : va_S A s.heap s.heap [] := va_S.rf
  have hP : va_P (dC, dI) vwCl [(h0, .inr (4, [.ref qs, .ref qr, .ref qm, .ref qw, .ref qt, .int (zi we)])), (qs, aI cI 10 sf)] s.heap := hP
  have hl := lv_entry ([.ref h0, .int (zi sl), .int (zi nu)]) (n := 3) (Nat.le_of_ble_eq_true rfl)
  rw [lg_entry_eq]
  generalize (lg_sl ([.ref h0, .int (zi sl), .int (zi nu)]) ++ List.replicate (3 - (lg_sl ([.ref h0, .int (zi sl), .int (zi nu)])).length) Slot.unset).toArray = ls at hl ⊢
  have hl : lv_has ls 3 [(0, .ref h0), (1, .int (zi sl)), (2, .int (zi nu))] := hl
  refine lv_iload_n hx hb dX4_days_0 rfl (lv_at hl 1 rfl) ?_
  have hh1 := c_X4_needSlot l sl (by omega)
  refine va_csv (va_Run.run (va_runS (As := [.int (zi sl)]) (rest := []) ⟨hx, hb, hml, hown, hts⟩ hh1 (va_cwS 1 hts gX4_days_X4_needSlot rfl rfl rfl (by decide +kernel) ⟨Nat.le_of_ble_eq_true rfl, Nat.le_of_ble_eq_true rfl⟩) ⟨fun a U g mk q => q, fun U hU hW => ⟨rfl, trivial⟩⟩ rfl rfl hl.1 rfl (lv_room (Nat.le_of_ble_eq_true rfl)) dX4_days_1 ⟨Nat.le_of_ble_eq_true rfl, Nat.le_of_ble_eq_true rfl⟩)) (fun _ => ?_)
  refine lv_aload_n hx hb dX4_days_4 rfl (lv_at hl 0 rfl) ?_
  refine lv_iload_n hx hb dX4_days_5 rfl (lv_at hl 1 rfl) ?_
  refine lv_iload_n hx hb dX4_days_6 rfl (lv_at hl 2 rfl) ?_
  refine zw_i2l hx hb dX4_days_7 ⟨by omega, by omega⟩ ?_
  have hh2 := c_X0_isNumber l nu (by omega)
  refine vp_callSi (va_Run.run (va_runS (As := [.long (zl nu)]) (rest := [.int (zi sl), .ref h0]) ⟨hx, hb, hml, hown, hts⟩ hh2 (va_cwS 1 hts gX4_days_X0_isNumber rfl rfl rfl (by decide +kernel) ⟨Nat.le_of_ble_eq_true rfl, Nat.le_of_ble_eq_true rfl⟩) ⟨fun a U g mk q => q, fun U hU hW => ⟨rfl, trivial⟩⟩ rfl rfl hl.1 rfl (lv_room (Nat.le_of_ble_eq_true rfl)) dX4_days_8 ⟨Nat.zero_le _, Nat.zero_le _⟩)) (fun r2 (hr2 : r2 = zi (f_X0_isNumber nu)) => ?_)
  subst hr2
  have hf2 := b_X0_isNumber nu (by omega)
  refine zw_if_eq (tgt := 18) hx hb dX4_days_11 (by decide) ⟨by omega, by omega⟩ (fun h3 => ?_) (fun h3 => ?_)
  · skip
    exact absurd True.intro (by omega)
  · skip
    refine lv_iload_n hx hb dX4_days_14 rfl (lv_at hl 2 rfl) ?_
    refine lv_goto (tgt := 19) hx hb dX4_days_15 (by decide) ?_
    have hh4 := c_X4_keep l dC dI cI h0 qs qr qm qw qt we sf sl nu s.heap.size (by omega) (by omega) (by omega)
    have hPc := hP.sub (ws' := [(h0, .inr (4, [.ref qs, .ref qr, .ref qm, .ref qw, .ref qt, .int (zi we)])), (qs, aI cI 10 sf)]) [0, 1] rfl
    have hKc : va_K (dC, dI) vwCl [(cI, .int)] s := hK
    have hDc := hD.sub (ws' := [(h0, .inr (4, [.ref qs, .ref qr, .ref qm, .ref qw, .ref qt, .int (zi we)])), (qs, aI cI 10 sf)]) [0, 1] (by decide) rfl
    have hFc := va_free (wc := [(h0, .inr (4, [.ref qs, .ref qr, .ref qm, .ref qw, .ref qt, .int (zi we)])), (qs, aI cI 10 sf)]) hD hS hA [0, 1] rfl
    refine va_calli (va_runV (As := [.int (zi sl), .int (zi nu)]) (rest := []) ⟨hx, hb, hml, hown, hts⟩ hh4 (cwV 2 hts gX4_days_X4_keep rfl rfl rfl (by decide +kernel) ⟨Nat.le_of_ble_eq_true rfl, Nat.le_of_ble_eq_true rfl⟩) ⟨zPw.blind _ _ _ _ _, va_recv hKc hPc (ci := 4) (q0 := 0) rfl rfl, fun U hU hW => ⟨rfl, by rw [hU], by rw [hU]; exact hPc, va_K.moved hW.alike hKc, hDc.weaken (fun _ _ _ _ => trivial)⟩⟩ rfl rfl hl.1 rfl (lv_room (Nat.le_of_ble_eq_true rfl)) dX4_days_19 ⟨Nat.le_of_ble_eq_true rfl, Nat.le_of_ble_eq_true rfl⟩) hS (fun q _ h => hFc q h) hFc (fun r4 u t H1 locs ht hvm hw hB hz1 hk1 hS => ?_)
    obtain ⟨hP1, hK1, hD1⟩ := hB
    rw [ht] at hP1
    obtain ⟨hP, hD⟩ := va_join (wr := []) (w1 := [(h0, .inr (4, [.ref qs, .ref qr, .ref qm, .ref qw, .ref qt, .int (zi we)])), (qs, aI cI 10 (zup sf sl.toNat nu))]) hP hD [0, 1] [] rfl rfl (by decide) (by decide) hk1 hFc hP1 hD1
    generalize H1 = H at hP hS ⊢
    obtain rfl : r4 = zi nu := hw
    have hP : va_P (dC, dI) vwCl [(h0, .inr (4, [.ref qs, .ref qr, .ref qm, .ref qw, .ref qt, .int (zi we)])), (qs, aI cI 10 (zup sf sl.toNat nu))] H := hP
    have hD : va_D A [(h0, .inr (4, [.ref qs, .ref qr, .ref qm, .ref qw, .ref qt, .int (zi we)])), (qs, aI cI 10 (zup sf sl.toNat nu))] := hD
    have hh5 := c_X0_weekdayOf l nu (by omega)
    refine vp_callSi (va_Run.run (va_runS (As := [.int (zi nu)]) (rest := []) ⟨hx, hb, hml, hown, hts⟩ hh5 (va_cwS 1 hts gX4_days_X0_weekdayOf rfl rfl rfl (by decide +kernel) ⟨Nat.le_of_ble_eq_true rfl, Nat.le_of_ble_eq_true rfl⟩) ⟨fun a U g mk q => q, fun U hU hW => ⟨rfl, trivial⟩⟩ rfl rfl hl.1 rfl (lv_room (Nat.le_of_ble_eq_true rfl)) dX4_days_22 ⟨Nat.zero_le _, Nat.zero_le _⟩)) (fun r5 (hr5 : r5 = zi (f_X0_weekdayOf nu)) => ?_)
    subst hr5
    have hf5 := b_X0_weekdayOf nu (by omega)
    have hP9 := hP.sub (ws' := [(h0, .inr (4, [.ref qs, .ref qr, .ref qm, .ref qw, .ref qt, .int (zi we)])), (qs, aI cI 10 (zup sf sl.toNat nu))]) [0, 1] rfl
    have hD9 := hD.sub (ws' := [(h0, .inr (4, [.ref qs, .ref qr, .ref qm, .ref qw, .ref qt, .int (zi we)])), (qs, aI cI 10 (zup sf sl.toNat nu))]) [0, 1] (by decide) rfl
    exact W.iret (v := zi (f_X0_weekdayOf nu)) hx hb hr (fun t ht hW => ⟨⟨zi (f_X0_weekdayOf nu), (), rfl, rfl, by rw [ht]; exact hP9, va_K.moved hW.alike hK, hD9⟩, hS.F ht⟩) hS.2.2 dX4_days_25

set_option maxHeartbeats 4000000 in
set_option maxRecDepth 100000 in
theorem t_X4_move_1 (l : Launch) (hst : l.stackTraces = false) (h0 : Nat) (sl many un : Int) (hp0 : -2147483648 ≤ sl ∧ sl ≤ 2147483647) (hp1 : sl < 0 ∨ 9 < sl) : vx_Met l yX4_move wsX4_move ({ frames := 7, cells := 1, slots := 6, locals := 110 }) (zP [.ref h0, .int (zi sl), .int (zi many), .int (zi un)]) zNo (zX "java/lang/IndexOutOfBoundsException") 1 6 zN := by
  refine vx_ofW (cc := cX4_move) (maxL := 5) (ret := (some .int)) (by decide) rfl ?_
  intro p e s m args below meth c s₁ B hml hno hv
  obtain ⟨rfl, hE⟩ := hv
  have hx := B.exec
  have hb := B.bytes
  have hr := B.returns
  have hts := atoms_spec (ws := wsX4_move) B.pre
  have hown : s.vm.findClass RX4 = some m.cls := findClass_of_methodNamed B.named
  have hlocks := B.notSynchronized
  have hl := lv_entry ([.ref h0, .int (zi sl), .int (zi many), .int (zi un)]) (n := 5) (Nat.le_of_ble_eq_true rfl)
  rw [lg_entry_eq]
  generalize (lg_sl ([.ref h0, .int (zi sl), .int (zi many), .int (zi un)]) ++ List.replicate (5 - (lg_sl ([.ref h0, .int (zi sl), .int (zi many), .int (zi un)])).length) Slot.unset).toArray = ls at hl ⊢
  have hl : lv_has ls 5 [(0, .ref h0), (1, .int (zi sl)), (2, .int (zi many)), (3, .int (zi un))] := hl
  refine lv_iload_n hx hb dX4_move_0 rfl (lv_at hl 1 rfl) ?_
  have hh1 := t_X4_needSlot l hst sl (by omega) (by omega)
  exact zt_pass (vx_runS (As := [.int (zi sl)]) (rest := []) ⟨hx, hb, hml, hown, hts⟩ hh1 (va_cwS 1 hts gX4_move_X4_needSlot rfl rfl rfl (by decide +kernel) ⟨Nat.le_of_ble_eq_true rfl, Nat.le_of_ble_eq_true rfl⟩) ⟨zP.blind _, fun U hU hW => ⟨rfl, hE.call va_S.rf (fun q h => by rw [hU] at h; exact h) hU hW⟩⟩ rfl rfl hl.1 rfl (lv_room (Nat.le_of_ble_eq_true rfl)) dX4_move_1 ⟨Nat.le_of_ble_eq_true rfl, Nat.le_of_ble_eq_true rfl⟩) hno hlocks

set_option maxHeartbeats 4000000 in
set_option maxRecDepth 100000 in
theorem t_X4_move_2 (l : Launch) (hst : l.stackTraces = false) (h0 : Nat) (sl many un : Int) (hp0 : 0 ≤ sl ∧ sl ≤ 9) (hp1 : -2147483648 ≤ un ∧ un ≤ 2147483647) (hp2 : un < 0 ∨ 2 < un) : vx_Met l yX4_move wsX4_move ({ frames := 7, cells := 1, slots := 6, locals := 110 }) (zP [.ref h0, .int (zi sl), .int (zi many), .int (zi un)]) zNo (zX "java/lang/IllegalArgumentException") 1 6 zN := by
  refine vx_ofW (cc := cX4_move) (maxL := 5) (ret := (some .int)) (by decide) rfl ?_
  intro p e s m args below meth c s₁ B hml hno hv
  obtain ⟨rfl, hE⟩ := hv
  have hx := B.exec
  have hb := B.bytes
  have hr := B.returns
  have hts := atoms_spec (ws := wsX4_move) B.pre
  have hown : s.vm.findClass RX4 = some m.cls := findClass_of_methodNamed B.named
  have hlocks := B.notSynchronized
  have hl := lv_entry ([.ref h0, .int (zi sl), .int (zi many), .int (zi un)]) (n := 5) (Nat.le_of_ble_eq_true rfl)
  rw [lg_entry_eq]
  generalize (lg_sl ([.ref h0, .int (zi sl), .int (zi many), .int (zi un)]) ++ List.replicate (5 - (lg_sl ([.ref h0, .int (zi sl), .int (zi many), .int (zi un)])).length) Slot.unset).toArray = ls at hl ⊢
  have hl : lv_has ls 5 [(0, .ref h0), (1, .int (zi sl)), (2, .int (zi many)), (3, .int (zi un))] := hl
  refine lv_iload_n hx hb dX4_move_0 rfl (lv_at hl 1 rfl) ?_
  have hh1 := c_X4_needSlot l sl (by omega)
  refine va_csv (va_Run.run (va_runS (As := [.int (zi sl)]) (rest := []) ⟨hx, hb, hml, hown, hts⟩ hh1 (va_cwS 1 hts gX4_move_X4_needSlot rfl rfl rfl (by decide +kernel) ⟨Nat.le_of_ble_eq_true rfl, Nat.le_of_ble_eq_true rfl⟩) ⟨fun a U g mk q => q, fun U hU hW => ⟨rfl, trivial⟩⟩ rfl rfl hl.1 rfl (lv_room (Nat.le_of_ble_eq_true rfl)) dX4_move_1 ⟨Nat.le_of_ble_eq_true rfl, Nat.le_of_ble_eq_true rfl⟩)) (fun _ => ?_)
  refine lv_iload_n hx hb dX4_move_4 rfl (lv_at hl 3 rfl) ?_
  have hh2 := t_X4_needUnit l hst un (by omega) (by omega)
  exact zt_pass (vx_runS (As := [.int (zi un)]) (rest := []) ⟨hx, hb, hml, hown, hts⟩ hh2 (va_cwS 1 hts gX4_move_X4_needUnit rfl rfl rfl (by decide +kernel) ⟨Nat.le_of_ble_eq_true rfl, Nat.le_of_ble_eq_true rfl⟩) ⟨zP.blind _, fun U hU hW => ⟨rfl, hE.call va_S.rf (fun q h => by rw [hU] at h; exact h) hU hW⟩⟩ rfl rfl hl.1 rfl (lv_room (Nat.le_of_ble_eq_true rfl)) dX4_move_5 ⟨Nat.le_of_ble_eq_true rfl, Nat.le_of_ble_eq_true rfl⟩) hno hlocks

set_option maxHeartbeats 4000000 in
set_option maxRecDepth 100000 in
theorem t_X4_move_3 (l : Launch) (hst : l.stackTraces = false) (dC : Nat → ClassId) (dI : Nat → Nat → Nat) (cI : ClassId) (h0 qs qr qm qw qt : Nat) (we : Int) (sf : Nat → Int) (sl many un : Int) (hp0 : 0 ≤ sl ∧ sl ≤ 9) (hp1 : 0 ≤ un ∧ un ≤ 2) (hp2 : sf sl.toNat = -1) : vx_Met l yX4_move wsX4_move ({ frames := 7, cells := 1, slots := 6, locals := 112 }) (zPt (dC, dI) [(cI, .int)] [.ref h0, .int (zi sl), .int (zi many), .int (zi un)] [(h0, .inr (4, [.ref qs, .ref qr, .ref qm, .ref qw, .ref qt, .int (zi we)])), (qs, aI cI 10 sf)]) zNo (zX "java/lang/IllegalStateException") 1 6 zN := by
  refine vx_ofW (cc := cX4_move) (maxL := 5) (ret := (some .int)) (by decide) rfl ?_
  intro p e s m args below meth c s₁ B hml hno hv
  obtain ⟨rfl, hE, hP, hK⟩ := hv
  have hx := B.exec
  have hb := B.bytes
  have hr := B.returns
  have hts := atoms_spec (ws := wsX4_move) B.pre
  have hown : s.vm.findClass RX4 = some m.cls := findClass_of_methodNamed B.named
  have hlocks := B.notSynchronized
  have hl := lv_entry ([.ref h0, .int (zi sl), .int (zi many), .int (zi un)]) (n := 5) (Nat.le_of_ble_eq_true rfl)
  rw [lg_entry_eq]
  generalize (lg_sl ([.ref h0, .int (zi sl), .int (zi many), .int (zi un)]) ++ List.replicate (5 - (lg_sl ([.ref h0, .int (zi sl), .int (zi many), .int (zi un)])).length) Slot.unset).toArray = ls at hl ⊢
  have hl : lv_has ls 5 [(0, .ref h0), (1, .int (zi sl)), (2, .int (zi many)), (3, .int (zi un))] := hl
  refine lv_iload_n hx hb dX4_move_0 rfl (lv_at hl 1 rfl) ?_
  have hh1 := c_X4_needSlot l sl (by omega)
  refine va_csv (va_Run.run (va_runS (As := [.int (zi sl)]) (rest := []) ⟨hx, hb, hml, hown, hts⟩ hh1 (va_cwS 1 hts gX4_move_X4_needSlot rfl rfl rfl (by decide +kernel) ⟨Nat.le_of_ble_eq_true rfl, Nat.le_of_ble_eq_true rfl⟩) ⟨fun a U g mk q => q, fun U hU hW => ⟨rfl, trivial⟩⟩ rfl rfl hl.1 rfl (lv_room (Nat.le_of_ble_eq_true rfl)) dX4_move_1 ⟨Nat.le_of_ble_eq_true rfl, Nat.le_of_ble_eq_true rfl⟩)) (fun _ => ?_)
  refine lv_iload_n hx hb dX4_move_4 rfl (lv_at hl 3 rfl) ?_
  have hh2 := c_X4_needUnit l un (by omega)
  refine va_csv (va_Run.run (va_runS (As := [.int (zi un)]) (rest := []) ⟨hx, hb, hml, hown, hts⟩ hh2 (va_cwS 1 hts gX4_move_X4_needUnit rfl rfl rfl (by decide +kernel) ⟨Nat.le_of_ble_eq_true rfl, Nat.le_of_ble_eq_true rfl⟩) ⟨fun a U g mk q => q, fun U hU hW => ⟨rfl, trivial⟩⟩ rfl rfl hl.1 rfl (lv_room (Nat.le_of_ble_eq_true rfl)) dX4_move_5 ⟨Nat.le_of_ble_eq_true rfl, Nat.le_of_ble_eq_true rfl⟩)) (fun _ => ?_)
  refine lv_aload_n hx hb dX4_move_8 rfl (lv_at hl 0 rfl) ?_
  refine lv_iload_n hx hb dX4_move_9 rfl (lv_at hl 1 rfl) ?_
  have hh3 := t_X4_dateIn l hst dC dI cI h0 qs qr qm qw qt we sf sl (by omega) (by omega)
  have hPc := hP.sub (ws' := [(h0, .inr (4, [.ref qs, .ref qr, .ref qm, .ref qw, .ref qt, .int (zi we)])), (qs, aI cI 10 sf)]) [0, 1] rfl
  have hKc : va_K (dC, dI) vwCl [(cI, .int)] s := hK
  exact zt_pass (vx_runV (As := [.int (zi sl)]) (rest := []) ⟨hx, hb, hml, hown, hts⟩ hh3 (cwV 1 hts gX4_move_X4_dateIn rfl rfl rfl (by decide +kernel) ⟨Nat.le_of_ble_eq_true rfl, Nat.le_of_ble_eq_true rfl⟩) ⟨zPt.blind _ _ _ _, va_recv hKc hPc (ci := 4) (q0 := 0) rfl rfl, fun U hU hW => ⟨rfl, hE.call va_S.rf (fun q h => by rw [hU] at h; exact h) hU hW, by rw [hU]; exact hPc, va_K.moved hW.alike hKc⟩⟩ rfl rfl hl.1 rfl (lv_room (Nat.le_of_ble_eq_true rfl)) dX4_move_10 ⟨Nat.le_of_ble_eq_true rfl, Nat.le_of_ble_eq_true rfl⟩) hno hlocks

set_option maxHeartbeats 4000000 in
set_option maxRecDepth 100000 in
theorem t_X4_move_4 (l : Launch) (hst : l.stackTraces = false) (dC : Nat → ClassId) (dI : Nat → Nat → Nat) (cI : ClassId) (h0 qs qr qm qw qt : Nat) (we : Int) (sf : Nat → Int) (sl many un : Int) (hp0 : 0 ≤ sl ∧ sl ≤ 9) (hp1 : 0 ≤ un ∧ un ≤ 2) (hp2 : 0 ≤ sf sl.toNat ∧ sf sl.toNat ≤ 3652058) (hp3 : -2147483648 ≤ many ∧ many ≤ 2147483647) (hp4 : (f_X4_moved (sf sl.toNat) many un) = -1) : vx_Met l yX4_move wsX4_move ({ frames := 6, cells := 1, slots := 6, locals := 136 }) (zPt (dC, dI) [(cI, .int)] [.ref h0, .int (zi sl), .int (zi many), .int (zi un)] [(h0, .inr (4, [.ref qs, .ref qr, .ref qm, .ref qw, .ref qt, .int (zi we)])), (qs, aI cI 10 sf)]) zNo (zX "java/lang/UnsupportedOperationException") 1 6 zN := by
  refine vx_ofW (cc := cX4_move) (maxL := 5) (ret := (some .int)) (by decide) rfl ?_
  intro p e s m args below meth c s₁ B hml hno hv
  obtain ⟨rfl, hE, hP, hK⟩ := hv
  have hx := B.exec
  have hb := B.bytes
  have hr := B.returns
  have hts := atoms_spec (ws := wsX4_move) B.pre
  have hown : s.vm.findClass RX4 = some m.cls := findClass_of_methodNamed B.named
  have hlocks := B.notSynchronized
  have hl := lv_entry ([.ref h0, .int (zi sl), .int (zi many), .int (zi un)]) (n := 5) (Nat.le_of_ble_eq_true rfl)
  rw [lg_entry_eq]
  generalize (lg_sl ([.ref h0, .int (zi sl), .int (zi many), .int (zi un)]) ++ List.replicate (5 - (lg_sl ([.ref h0, .int (zi sl), .int (zi many), .int (zi un)])).length) Slot.unset).toArray = ls at hl ⊢
  have hl : lv_has ls 5 [(0, .ref h0), (1, .int (zi sl)), (2, .int (zi many)), (3, .int (zi un))] := hl
  refine lv_iload_n hx hb dX4_move_0 rfl (lv_at hl 1 rfl) ?_
  have hh1 := c_X4_needSlot l sl (by omega)
  refine va_csv (va_Run.run (va_runS (As := [.int (zi sl)]) (rest := []) ⟨hx, hb, hml, hown, hts⟩ hh1 (va_cwS 1 hts gX4_move_X4_needSlot rfl rfl rfl (by decide +kernel) ⟨Nat.le_of_ble_eq_true rfl, Nat.le_of_ble_eq_true rfl⟩) ⟨fun a U g mk q => q, fun U hU hW => ⟨rfl, trivial⟩⟩ rfl rfl hl.1 rfl (lv_room (Nat.le_of_ble_eq_true rfl)) dX4_move_1 ⟨Nat.le_of_ble_eq_true rfl, Nat.le_of_ble_eq_true rfl⟩)) (fun _ => ?_)
  refine lv_iload_n hx hb dX4_move_4 rfl (lv_at hl 3 rfl) ?_
  have hh2 := c_X4_needUnit l un (by omega)
  refine va_csv (va_Run.run (va_runS (As := [.int (zi un)]) (rest := []) ⟨hx, hb, hml, hown, hts⟩ hh2 (va_cwS 1 hts gX4_move_X4_needUnit rfl rfl rfl (by decide +kernel) ⟨Nat.le_of_ble_eq_true rfl, Nat.le_of_ble_eq_true rfl⟩) ⟨fun a U g mk q => q, fun U hU hW => ⟨rfl, trivial⟩⟩ rfl rfl hl.1 rfl (lv_room (Nat.le_of_ble_eq_true rfl)) dX4_move_5 ⟨Nat.le_of_ble_eq_true rfl, Nat.le_of_ble_eq_true rfl⟩)) (fun _ => ?_)
  refine lv_aload_n hx hb dX4_move_8 rfl (lv_at hl 0 rfl) ?_
  refine lv_iload_n hx hb dX4_move_9 rfl (lv_at hl 1 rfl) ?_
  have hh3 := c_X4_dateIn l dC dI cI h0 qs qr qm qw qt we sf sl (by omega) (by omega)
  have hPc := hP.sub (ws' := [(h0, .inr (4, [.ref qs, .ref qr, .ref qm, .ref qw, .ref qt, .int (zi we)])), (qs, aI cI 10 sf)]) [0, 1] rfl
  have hKc : va_K (dC, dI) vwCl [(cI, .int)] s := hK
  refine vp_callSi (va_Run.run (va_runV (As := [.int (zi sl)]) (rest := []) ⟨hx, hb, hml, hown, hts⟩ hh3 (cwV 1 hts gX4_move_X4_dateIn rfl rfl rfl (by decide +kernel) ⟨Nat.le_of_ble_eq_true rfl, Nat.le_of_ble_eq_true rfl⟩) ⟨zPr.blind _ _ _ _, va_recv hKc hPc (ci := 4) (q0 := 0) rfl rfl, fun U hU hW => ⟨rfl, by rw [hU]; exact hPc, va_K.moved hW.alike hKc⟩⟩ rfl rfl hl.1 rfl (lv_room (Nat.le_of_ble_eq_true rfl)) dX4_move_10 ⟨Nat.le_of_ble_eq_true rfl, Nat.le_of_ble_eq_true rfl⟩)) (fun r3 (hr3 : r3 = zi (sf sl.toNat)) => ?_)
  subst hr3
  refine lv_iload_n hx hb dX4_move_13 rfl (lv_at hl 2 rfl) ?_
  refine lv_iload_n hx hb dX4_move_14 rfl (lv_at hl 3 rfl) ?_
  have hh4 := c_X4_moved l (sf sl.toNat) many un (by omega) (by omega) (by omega)
  refine vp_callSi (va_Run.run (va_runS (As := [.int (zi (sf sl.toNat)), .int (zi many), .int (zi un)]) (rest := []) ⟨hx, hb, hml, hown, hts⟩ hh4 (va_cwS 3 hts gX4_move_X4_moved rfl rfl rfl (by decide +kernel) ⟨Nat.le_of_ble_eq_true rfl, Nat.le_of_ble_eq_true rfl⟩) ⟨fun a U g mk q => q, fun U hU hW => ⟨rfl, trivial⟩⟩ rfl rfl hl.1 rfl (lv_room (Nat.le_of_ble_eq_true rfl)) dX4_move_15 ⟨Nat.zero_le _, Nat.zero_le _⟩)) (fun r4 (hr4 : r4 = zi (f_X4_moved (sf sl.toNat) many un)) => ?_)
  subst hr4
  have hf4 := b_X4_moved (sf sl.toNat) many un (by omega) (by omega) (by omega)
  refine zw_top (fun x5 ex5 => ?_)
  refine lv_istore (lv' := [(4, .int (zi x5)), (0, .ref h0), (1, .int (zi sl)), (2, .int (zi many)), (3, .int (zi un))]) hx hb dX4_move_18 hl (by decide) rfl (fun ls hl => ?_)
  refine lv_iload hx hb dX4_move_20 (lv_at hl 0 rfl) ?_
  refine zw_iconst hx hb dX4_move_22 ?_
  refine zw_icmp_ne (tgt := 36) hx hb dX4_move_23 (by decide) ⟨by omega, by omega⟩ ⟨by omega, by omega⟩ (fun h6 => ?_) (fun h6 => ?_)
  · skip
    exact absurd True.intro (by omega)
  · skip
    exact zt_throw (cls := "java/lang/UnsupportedOperationException") (text := "the date is beyond the years") (ik := 81) (is := 83) (ic := 85) hx hb hst hown hE (by decide +kernel) (hts (.classLink RX4 81 "java/lang/UnsupportedOperationException") (by decide +kernel)) (hts (.initialized "java/lang/UnsupportedOperationException") (by decide +kernel)) (by decide) (fun w h => hts w (List.mem_cons_of_mem _ (List.mem_append_left _ (List.mem_append_left _ (List.mem_append_left _ (List.mem_append_right _ h)))))) (by decide +kernel) (by decide +kernel) (hl.1.trans hml.symm) dX4_move_26 dX4_move_29 dX4_move_30 dX4_move_32 dX4_move_35 hno (Nat.le_of_ble_eq_true rfl) (Nat.le_of_ble_eq_true rfl) (Nat.le_of_ble_eq_true rfl) (Nat.le_of_ble_eq_true rfl) hlocks

set_option maxHeartbeats 4000000 in
set_option maxRecDepth 100000 in
theorem c_X4_move (l : Launch)  (dC : Nat → ClassId) (dI : Nat → Nat → Nat) (cI : ClassId) (h0 qs qr qm qw qt : Nat) (we : Int) (sf : Nat → Int) (sl many un : Int) (sz : Nat) (hp0 : 0 ≤ sl ∧ sl ≤ 9) (hp1 : 0 ≤ un ∧ un ≤ 2) (hp2 : 0 ≤ sf sl.toNat ∧ sf sl.toNat ≤ 3652058) (hp3 : -2147483648 ≤ many ∧ many ≤ 2147483647) (hp4 : (f_X4_moved (sf sl.toNat) many un) ≠ -1) : Met l yX4_move wsX4_move ({ frames := 6, cells := 0, slots := 0, locals := 136 }) (zPw (dC, dI) [(cI, .int)] sz [.ref h0, .int (zi sl), .int (zi many), .int (zi un)] [(h0, .inr (4, [.ref qs, .ref qr, .ref qm, .ref qw, .ref qt, .int (zi we)])), (qs, aI cI 10 sf)]) (va_Qi (fun (r : Int32) (_ : Unit) => r = zi (f_X4_moved (sf sl.toNat) many un)) (zB (dC, dI) [(cI, .int)] (va_A [(h0, .inr (4, [.ref qs, .ref qr, .ref qm, .ref qw, .ref qt, .int (zi we)])), (qs, aI cI 10 sf)] sz) [(h0, .inr (4, [.ref qs, .ref qr, .ref qm, .ref qw, .ref qt, .int (zi we)])), (qs, aI cI 10 (zup sf sl.toNat (f_X4_moved (sf sl.toNat) many un)))]) (va_A [(h0, .inr (4, [.ref qs, .ref qr, .ref qm, .ref qw, .ref qt, .int (zi we)])), (qs, aI cI 10 sf)] sz)) 0 0 (va_A [(h0, .inr (4, [.ref qs, .ref qr, .ref qm, .ref qw, .ref qt, .int (zi we)])), (qs, aI cI 10 sf)] sz) := by
  refine Met.ofW (cc := cX4_move) (maxL := 5) (ret := (some .int)) (by decide) rfl ?_
  intro p e s m args below meth c s₁ B hml hv
  obtain ⟨rfl, hsz, hP, hK, hD0⟩ := hv
  have hx := B.exec
  have hb := B.bytes
  have hr := B.returns
  have hts := atoms_spec (ws := wsX4_move) B.pre
  have hown : s.vm.findClass RX4 = some m.cls := findClass_of_methodNamed B.named
  have hlocks := B.notSynchronized
  subst hsz
  have hD := hD0.self (sz := s.heap.size)
  generalize hAe : va_A [(h0, .inr (4, [.ref qs, .ref qr, .ref qm, .ref qw, .ref qt, .int (zi we)])), (qs, aI cI 10 sf)] s.heap.size = A at hD ⊢
  have hA : ∀ q : Nat, s.heap.size ≤ q → A q := fun q h => by rw [← hAe]; exact Or.inr h
  have hS : va_S A s.heap s.heap [] := va_S.rf
  have hP : va_P (dC, dI) vwCl [(h0, .inr (4, [.ref qs, .ref qr, .ref qm, .ref qw, .ref qt, .int (zi we)])), (qs, aI cI 10 sf)] s.heap := hP
  have hl := lv_entry ([.ref h0, .int (zi sl), .int (zi many), .int (zi un)]) (n := 5) (Nat.le_of_ble_eq_true rfl)
  rw [lg_entry_eq]
  generalize (lg_sl ([.ref h0, .int (zi sl), .int (zi many), .int (zi un)]) ++ List.replicate (5 - (lg_sl ([.ref h0, .int (zi sl), .int (zi many), .int (zi un)])).length) Slot.unset).toArray = ls at hl ⊢
  have hl : lv_has ls 5 [(0, .ref h0), (1, .int (zi sl)), (2, .int (zi many)), (3, .int (zi un))] := hl
  refine lv_iload_n hx hb dX4_move_0 rfl (lv_at hl 1 rfl) ?_
  have hh1 := c_X4_needSlot l sl (by omega)
  refine va_csv (va_Run.run (va_runS (As := [.int (zi sl)]) (rest := []) ⟨hx, hb, hml, hown, hts⟩ hh1 (va_cwS 1 hts gX4_move_X4_needSlot rfl rfl rfl (by decide +kernel) ⟨Nat.le_of_ble_eq_true rfl, Nat.le_of_ble_eq_true rfl⟩) ⟨fun a U g mk q => q, fun U hU hW => ⟨rfl, trivial⟩⟩ rfl rfl hl.1 rfl (lv_room (Nat.le_of_ble_eq_true rfl)) dX4_move_1 ⟨Nat.le_of_ble_eq_true rfl, Nat.le_of_ble_eq_true rfl⟩)) (fun _ => ?_)
  refine lv_iload_n hx hb dX4_move_4 rfl (lv_at hl 3 rfl) ?_
  have hh2 := c_X4_needUnit l un (by omega)
  refine va_csv (va_Run.run (va_runS (As := [.int (zi un)]) (rest := []) ⟨hx, hb, hml, hown, hts⟩ hh2 (va_cwS 1 hts gX4_move_X4_needUnit rfl rfl rfl (by decide +kernel) ⟨Nat.le_of_ble_eq_true rfl, Nat.le_of_ble_eq_true rfl⟩) ⟨fun a U g mk q => q, fun U hU hW => ⟨rfl, trivial⟩⟩ rfl rfl hl.1 rfl (lv_room (Nat.le_of_ble_eq_true rfl)) dX4_move_5 ⟨Nat.le_of_ble_eq_true rfl, Nat.le_of_ble_eq_true rfl⟩)) (fun _ => ?_)
  refine lv_aload_n hx hb dX4_move_8 rfl (lv_at hl 0 rfl) ?_
  refine lv_iload_n hx hb dX4_move_9 rfl (lv_at hl 1 rfl) ?_
  have hh3 := c_X4_dateIn l dC dI cI h0 qs qr qm qw qt we sf sl (by omega) (by omega)
  have hPc := hP.sub (ws' := [(h0, .inr (4, [.ref qs, .ref qr, .ref qm, .ref qw, .ref qt, .int (zi we)])), (qs, aI cI 10 sf)]) [0, 1] rfl
  have hKc : va_K (dC, dI) vwCl [(cI, .int)] s := hK
  refine vp_callSi (va_Run.run (va_runV (As := [.int (zi sl)]) (rest := []) ⟨hx, hb, hml, hown, hts⟩ hh3 (cwV 1 hts gX4_move_X4_dateIn rfl rfl rfl (by decide +kernel) ⟨Nat.le_of_ble_eq_true rfl, Nat.le_of_ble_eq_true rfl⟩) ⟨zPr.blind _ _ _ _, va_recv hKc hPc (ci := 4) (q0 := 0) rfl rfl, fun U hU hW => ⟨rfl, by rw [hU]; exact hPc, va_K.moved hW.alike hKc⟩⟩ rfl rfl hl.1 rfl (lv_room (Nat.le_of_ble_eq_true rfl)) dX4_move_10 ⟨Nat.le_of_ble_eq_true rfl, Nat.le_of_ble_eq_true rfl⟩)) (fun r3 (hr3 : r3 = zi (sf sl.toNat)) => ?_)
  subst hr3
  refine lv_iload_n hx hb dX4_move_13 rfl (lv_at hl 2 rfl) ?_
  refine lv_iload_n hx hb dX4_move_14 rfl (lv_at hl 3 rfl) ?_
  have hh4 := c_X4_moved l (sf sl.toNat) many un (by omega) (by omega) (by omega)
  refine vp_callSi (va_Run.run (va_runS (As := [.int (zi (sf sl.toNat)), .int (zi many), .int (zi un)]) (rest := []) ⟨hx, hb, hml, hown, hts⟩ hh4 (va_cwS 3 hts gX4_move_X4_moved rfl rfl rfl (by decide +kernel) ⟨Nat.le_of_ble_eq_true rfl, Nat.le_of_ble_eq_true rfl⟩) ⟨fun a U g mk q => q, fun U hU hW => ⟨rfl, trivial⟩⟩ rfl rfl hl.1 rfl (lv_room (Nat.le_of_ble_eq_true rfl)) dX4_move_15 ⟨Nat.zero_le _, Nat.zero_le _⟩)) (fun r4 (hr4 : r4 = zi (f_X4_moved (sf sl.toNat) many un)) => ?_)
  subst hr4
  have hf4 := b_X4_moved (sf sl.toNat) many un (by omega) (by omega) (by omega)
  refine zw_top (fun x5 ex5 => ?_)
  refine lv_istore (lv' := [(4, .int (zi x5)), (0, .ref h0), (1, .int (zi sl)), (2, .int (zi many)), (3, .int (zi un))]) hx hb dX4_move_18 hl (by decide) rfl (fun ls hl => ?_)
  refine lv_iload hx hb dX4_move_20 (lv_at hl 0 rfl) ?_
  refine zw_iconst hx hb dX4_move_22 ?_
  refine zw_icmp_ne (tgt := 36) hx hb dX4_move_23 (by decide) ⟨by omega, by omega⟩ ⟨by omega, by omega⟩ (fun h6 => ?_) (fun h6 => ?_)
  · skip
    refine lv_aload_n hx hb dX4_move_36 rfl (lv_at hl 1 rfl) ?_
    refine lv_iload_n hx hb dX4_move_37 rfl (lv_at hl 2 rfl) ?_
    refine lv_iload hx hb dX4_move_38 (lv_at hl 0 rfl) ?_
    have hh7 := c_X4_keep l dC dI cI h0 qs qr qm qw qt we sf sl x5 s.heap.size (by omega) (by omega) (by omega)
    have hPc := hP.sub (ws' := [(h0, .inr (4, [.ref qs, .ref qr, .ref qm, .ref qw, .ref qt, .int (zi we)])), (qs, aI cI 10 sf)]) [0, 1] rfl
    have hKc : va_K (dC, dI) vwCl [(cI, .int)] s := hK
    have hDc := hD.sub (ws' := [(h0, .inr (4, [.ref qs, .ref qr, .ref qm, .ref qw, .ref qt, .int (zi we)])), (qs, aI cI 10 sf)]) [0, 1] (by decide) rfl
    have hFc := va_free (wc := [(h0, .inr (4, [.ref qs, .ref qr, .ref qm, .ref qw, .ref qt, .int (zi we)])), (qs, aI cI 10 sf)]) hD hS hA [0, 1] rfl
    refine va_calli (va_runV (As := [.int (zi sl), .int (zi x5)]) (rest := []) ⟨hx, hb, hml, hown, hts⟩ hh7 (cwV 2 hts gX4_move_X4_keep rfl rfl rfl (by decide +kernel) ⟨Nat.le_of_ble_eq_true rfl, Nat.le_of_ble_eq_true rfl⟩) ⟨zPw.blind _ _ _ _ _, va_recv hKc hPc (ci := 4) (q0 := 0) rfl rfl, fun U hU hW => ⟨rfl, by rw [hU], by rw [hU]; exact hPc, va_K.moved hW.alike hKc, hDc.weaken (fun _ _ _ _ => trivial)⟩⟩ rfl rfl hl.1 rfl (lv_room (Nat.le_of_ble_eq_true rfl)) dX4_move_40 ⟨Nat.le_of_ble_eq_true rfl, Nat.le_of_ble_eq_true rfl⟩) hS (fun q _ h => hFc q h) hFc (fun r7 u t H1 locs ht hvm hw hB hz1 hk1 hS => ?_)
    obtain ⟨hP1, hK1, hD1⟩ := hB
    rw [ht] at hP1
    obtain ⟨hP, hD⟩ := va_join (wr := []) (w1 := [(h0, .inr (4, [.ref qs, .ref qr, .ref qm, .ref qw, .ref qt, .int (zi we)])), (qs, aI cI 10 (zup sf sl.toNat x5))]) hP hD [0, 1] [] rfl rfl (by decide) (by decide) hk1 hFc hP1 hD1
    generalize H1 = H at hP hS ⊢
    obtain rfl : r7 = zi x5 := hw
    have hP : va_P (dC, dI) vwCl [(h0, .inr (4, [.ref qs, .ref qr, .ref qm, .ref qw, .ref qt, .int (zi we)])), (qs, aI cI 10 (zup sf sl.toNat x5))] H := hP
    have hD : va_D A [(h0, .inr (4, [.ref qs, .ref qr, .ref qm, .ref qw, .ref qt, .int (zi we)])), (qs, aI cI 10 (zup sf sl.toNat x5))] := hD
    subst ex5
    have hP9 := hP.sub (ws' := [(h0, .inr (4, [.ref qs, .ref qr, .ref qm, .ref qw, .ref qt, .int (zi we)])), (qs, aI cI 10 (zup sf sl.toNat (f_X4_moved (sf sl.toNat) many un)))]) [0, 1] rfl
    have hD9 := hD.sub (ws' := [(h0, .inr (4, [.ref qs, .ref qr, .ref qm, .ref qw, .ref qt, .int (zi we)])), (qs, aI cI 10 (zup sf sl.toNat (f_X4_moved (sf sl.toNat) many un)))]) [0, 1] (by decide) rfl
    exact W.iret (v := zi (f_X4_moved (sf sl.toNat) many un)) hx hb hr (fun t ht hW => ⟨⟨zi (f_X4_moved (sf sl.toNat) many un), (), rfl, rfl, by rw [ht]; exact hP9, va_K.moved hW.alike hK, hD9⟩, hS.F ht⟩) hS.2.2 dX4_move_43
  · skip
    exact absurd True.intro (by omega)

set_option maxHeartbeats 4000000 in
set_option maxRecDepth 100000 in
theorem t_X4_told_1 (l : Launch) (hst : l.stackTraces = false) (h0 : Nat) (sl wh : Int) (hp0 : -2147483648 ≤ sl ∧ sl ≤ 2147483647) (hp1 : sl < 0 ∨ 9 < sl) : vx_Met l yX4_told wsX4_told ({ frames := 7, cells := 1, slots := 6, locals := 110 }) (zP [.ref h0, .int (zi sl), .int (zi wh)]) zNo (zX "java/lang/IndexOutOfBoundsException") 1 6 zN := by
  refine vx_ofW (cc := cX4_told) (maxL := 5) (ret := (some .int)) (by decide) rfl ?_
  intro p e s m args below meth c s₁ B hml hno hv
  obtain ⟨rfl, hE⟩ := hv
  have hx := B.exec
  have hb := B.bytes
  have hr := B.returns
  have hts := atoms_spec (ws := wsX4_told) B.pre
  have hown : s.vm.findClass RX4 = some m.cls := findClass_of_methodNamed B.named
  have hlocks := B.notSynchronized
  have hl := lv_entry ([.ref h0, .int (zi sl), .int (zi wh)]) (n := 5) (Nat.le_of_ble_eq_true rfl)
  rw [lg_entry_eq]
  generalize (lg_sl ([.ref h0, .int (zi sl), .int (zi wh)]) ++ List.replicate (5 - (lg_sl ([.ref h0, .int (zi sl), .int (zi wh)])).length) Slot.unset).toArray = ls at hl ⊢
  have hl : lv_has ls 5 [(0, .ref h0), (1, .int (zi sl)), (2, .int (zi wh))] := hl
  refine lv_iload_n hx hb dX4_told_0 rfl (lv_at hl 1 rfl) ?_
  have hh1 := t_X4_needSlot l hst sl (by omega) (by omega)
  exact zt_pass (vx_runS (As := [.int (zi sl)]) (rest := []) ⟨hx, hb, hml, hown, hts⟩ hh1 (va_cwS 1 hts gX4_told_X4_needSlot rfl rfl rfl (by decide +kernel) ⟨Nat.le_of_ble_eq_true rfl, Nat.le_of_ble_eq_true rfl⟩) ⟨zP.blind _, fun U hU hW => ⟨rfl, hE.call va_S.rf (fun q h => by rw [hU] at h; exact h) hU hW⟩⟩ rfl rfl hl.1 rfl (lv_room (Nat.le_of_ble_eq_true rfl)) dX4_told_1 ⟨Nat.le_of_ble_eq_true rfl, Nat.le_of_ble_eq_true rfl⟩) hno hlocks

set_option maxHeartbeats 4000000 in
set_option maxRecDepth 100000 in
theorem t_X4_told_2 (l : Launch) (hst : l.stackTraces = false) (h0 : Nat) (sl wh : Int) (hp0 : 0 ≤ sl ∧ sl ≤ 9) (hp1 : -2147483648 ≤ wh ∧ wh ≤ 2147483647) (hp2 : wh < 0 ∨ 10 < wh) : vx_Met l yX4_told wsX4_told ({ frames := 6, cells := 1, slots := 6, locals := 90 }) (zP [.ref h0, .int (zi sl), .int (zi wh)]) zNo (zX "java/lang/IllegalArgumentException") 1 6 zN := by
  refine vx_ofW (cc := cX4_told) (maxL := 5) (ret := (some .int)) (by decide) rfl ?_
  intro p e s m args below meth c s₁ B hml hno hv
  obtain ⟨rfl, hE⟩ := hv
  have hx := B.exec
  have hb := B.bytes
  have hr := B.returns
  have hts := atoms_spec (ws := wsX4_told) B.pre
  have hown : s.vm.findClass RX4 = some m.cls := findClass_of_methodNamed B.named
  have hlocks := B.notSynchronized
  have hl := lv_entry ([.ref h0, .int (zi sl), .int (zi wh)]) (n := 5) (Nat.le_of_ble_eq_true rfl)
  rw [lg_entry_eq]
  generalize (lg_sl ([.ref h0, .int (zi sl), .int (zi wh)]) ++ List.replicate (5 - (lg_sl ([.ref h0, .int (zi sl), .int (zi wh)])).length) Slot.unset).toArray = ls at hl ⊢
  have hl : lv_has ls 5 [(0, .ref h0), (1, .int (zi sl)), (2, .int (zi wh))] := hl
  refine lv_iload_n hx hb dX4_told_0 rfl (lv_at hl 1 rfl) ?_
  have hh1 := c_X4_needSlot l sl (by omega)
  refine va_csv (va_Run.run (va_runS (As := [.int (zi sl)]) (rest := []) ⟨hx, hb, hml, hown, hts⟩ hh1 (va_cwS 1 hts gX4_told_X4_needSlot rfl rfl rfl (by decide +kernel) ⟨Nat.le_of_ble_eq_true rfl, Nat.le_of_ble_eq_true rfl⟩) ⟨fun a U g mk q => q, fun U hU hW => ⟨rfl, trivial⟩⟩ rfl rfl hl.1 rfl (lv_room (Nat.le_of_ble_eq_true rfl)) dX4_told_1 ⟨Nat.le_of_ble_eq_true rfl, Nat.le_of_ble_eq_true rfl⟩)) (fun _ => ?_)
  refine lv_iload_n hx hb dX4_told_4 rfl (lv_at hl 2 rfl) ?_
  refine zw_if_lt (tgt := 14) hx hb dX4_told_5 (by decide) ⟨by omega, by omega⟩ (fun h2 => ?_) (fun h2 => ?_)
  · skip
    exact zt_throw (cls := "java/lang/IllegalArgumentException") (text := "nothing of a date is told by this number") (ik := 88) (is := 90) (ic := 92) hx hb hst hown hE (by decide +kernel) (hts (.classLink RX4 88 "java/lang/IllegalArgumentException") (by decide +kernel)) (hts (.initialized "java/lang/IllegalArgumentException") (by decide +kernel)) (by decide) (fun w h => hts w (List.mem_cons_of_mem _ (List.mem_append_left _ (List.mem_append_left _ (List.mem_append_right _ h))))) (by decide +kernel) (by decide +kernel) (hl.1.trans hml.symm) dX4_told_14 dX4_told_17 dX4_told_18 dX4_told_20 dX4_told_23 hno (Nat.le_of_ble_eq_true rfl) (Nat.le_of_ble_eq_true rfl) (Nat.le_of_ble_eq_true rfl) (Nat.le_of_ble_eq_true rfl) hlocks
  · skip
    refine lv_iload_n hx hb dX4_told_8 rfl (lv_at hl 2 rfl) ?_
    refine zw_bipush hx hb dX4_told_9 (by decide) ?_
    refine zw_icmp_le (tgt := 24) hx hb dX4_told_11 (by decide) ⟨by omega, by omega⟩ ⟨by omega, by omega⟩ (fun h3 => ?_) (fun h3 => ?_)
    · skip
      exact absurd True.intro (by omega)
    · skip
      exact zt_throw (cls := "java/lang/IllegalArgumentException") (text := "nothing of a date is told by this number") (ik := 88) (is := 90) (ic := 92) hx hb hst hown hE (by decide +kernel) (hts (.classLink RX4 88 "java/lang/IllegalArgumentException") (by decide +kernel)) (hts (.initialized "java/lang/IllegalArgumentException") (by decide +kernel)) (by decide) (fun w h => hts w (List.mem_cons_of_mem _ (List.mem_append_left _ (List.mem_append_left _ (List.mem_append_right _ h))))) (by decide +kernel) (by decide +kernel) (hl.1.trans hml.symm) dX4_told_14 dX4_told_17 dX4_told_18 dX4_told_20 dX4_told_23 hno (Nat.le_of_ble_eq_true rfl) (Nat.le_of_ble_eq_true rfl) (Nat.le_of_ble_eq_true rfl) (Nat.le_of_ble_eq_true rfl) hlocks

set_option maxHeartbeats 4000000 in
set_option maxRecDepth 100000 in
theorem t_X4_told_3 (l : Launch) (hst : l.stackTraces = false) (dC : Nat → ClassId) (dI : Nat → Nat → Nat) (cI : ClassId) (h0 qs qr qm qw qt : Nat) (we : Int) (sf : Nat → Int) (sl wh : Int) (hp0 : 0 ≤ sl ∧ sl ≤ 9) (hp1 : 0 ≤ wh ∧ wh ≤ 10) (hp2 : sf sl.toNat = -1) : vx_Met l yX4_told wsX4_told ({ frames := 7, cells := 1, slots := 6, locals := 112 }) (zPt (dC, dI) [(cI, .int)] [.ref h0, .int (zi sl), .int (zi wh)] [(h0, .inr (4, [.ref qs, .ref qr, .ref qm, .ref qw, .ref qt, .int (zi we)])), (qs, aI cI 10 sf)]) zNo (zX "java/lang/IllegalStateException") 1 6 zN := by
  refine vx_ofW (cc := cX4_told) (maxL := 5) (ret := (some .int)) (by decide) rfl ?_
  intro p e s m args below meth c s₁ B hml hno hv
  obtain ⟨rfl, hE, hP, hK⟩ := hv
  have hx := B.exec
  have hb := B.bytes
  have hr := B.returns
  have hts := atoms_spec (ws := wsX4_told) B.pre
  have hown : s.vm.findClass RX4 = some m.cls := findClass_of_methodNamed B.named
  have hlocks := B.notSynchronized
  have hl := lv_entry ([.ref h0, .int (zi sl), .int (zi wh)]) (n := 5) (Nat.le_of_ble_eq_true rfl)
  rw [lg_entry_eq]
  generalize (lg_sl ([.ref h0, .int (zi sl), .int (zi wh)]) ++ List.replicate (5 - (lg_sl ([.ref h0, .int (zi sl), .int (zi wh)])).length) Slot.unset).toArray = ls at hl ⊢
  have hl : lv_has ls 5 [(0, .ref h0), (1, .int (zi sl)), (2, .int (zi wh))] := hl
  refine lv_iload_n hx hb dX4_told_0 rfl (lv_at hl 1 rfl) ?_
  have hh1 := c_X4_needSlot l sl (by omega)
  refine va_csv (va_Run.run (va_runS (As := [.int (zi sl)]) (rest := []) ⟨hx, hb, hml, hown, hts⟩ hh1 (va_cwS 1 hts gX4_told_X4_needSlot rfl rfl rfl (by decide +kernel) ⟨Nat.le_of_ble_eq_true rfl, Nat.le_of_ble_eq_true rfl⟩) ⟨fun a U g mk q => q, fun U hU hW => ⟨rfl, trivial⟩⟩ rfl rfl hl.1 rfl (lv_room (Nat.le_of_ble_eq_true rfl)) dX4_told_1 ⟨Nat.le_of_ble_eq_true rfl, Nat.le_of_ble_eq_true rfl⟩)) (fun _ => ?_)
  refine lv_iload_n hx hb dX4_told_4 rfl (lv_at hl 2 rfl) ?_
  refine zw_if_lt (tgt := 14) hx hb dX4_told_5 (by decide) ⟨by omega, by omega⟩ (fun h2 => ?_) (fun h2 => ?_)
  · skip
    exact absurd True.intro (by omega)
  · skip
    refine lv_iload_n hx hb dX4_told_8 rfl (lv_at hl 2 rfl) ?_
    refine zw_bipush hx hb dX4_told_9 (by decide) ?_
    refine zw_icmp_le (tgt := 24) hx hb dX4_told_11 (by decide) ⟨by omega, by omega⟩ ⟨by omega, by omega⟩ (fun h3 => ?_) (fun h3 => ?_)
    · skip
      refine lv_aload_n hx hb dX4_told_24 rfl (lv_at hl 0 rfl) ?_
      refine lv_iload_n hx hb dX4_told_25 rfl (lv_at hl 1 rfl) ?_
      have hh4 := t_X4_dateIn l hst dC dI cI h0 qs qr qm qw qt we sf sl (by omega) (by omega)
      have hPc := hP.sub (ws' := [(h0, .inr (4, [.ref qs, .ref qr, .ref qm, .ref qw, .ref qt, .int (zi we)])), (qs, aI cI 10 sf)]) [0, 1] rfl
      have hKc : va_K (dC, dI) vwCl [(cI, .int)] s := hK
      exact zt_pass (vx_runV (As := [.int (zi sl)]) (rest := []) ⟨hx, hb, hml, hown, hts⟩ hh4 (cwV 1 hts gX4_told_X4_dateIn rfl rfl rfl (by decide +kernel) ⟨Nat.le_of_ble_eq_true rfl, Nat.le_of_ble_eq_true rfl⟩) ⟨zPt.blind _ _ _ _, va_recv hKc hPc (ci := 4) (q0 := 0) rfl rfl, fun U hU hW => ⟨rfl, hE.call va_S.rf (fun q h => by rw [hU] at h; exact h) hU hW, by rw [hU]; exact hPc, va_K.moved hW.alike hKc⟩⟩ rfl rfl hl.1 rfl (lv_room (Nat.le_of_ble_eq_true rfl)) dX4_told_26 ⟨Nat.le_of_ble_eq_true rfl, Nat.le_of_ble_eq_true rfl⟩) hno hlocks
    · skip
      exact absurd True.intro (by omega)

set_option maxHeartbeats 4000000 in
set_option maxRecDepth 100000 in
theorem c_X4_told (l : Launch)  (dC : Nat → ClassId) (dI : Nat → Nat → Nat) (cI : ClassId) (h0 qs qr qm qw qt : Nat) (we : Int) (sf : Nat → Int) (sl wh : Int) (hp0 : 0 ≤ sl ∧ sl ≤ 9) (hp1 : 0 ≤ wh ∧ wh ≤ 10) (hp2 : 0 ≤ sf sl.toNat ∧ sf sl.toNat ≤ 3652058) : Met l yX4_told wsX4_told ({ frames := 4, cells := 0, slots := 0, locals := 87 }) (zPr (dC, dI) [(cI, .int)] [.ref h0, .int (zi sl), .int (zi wh)] [(h0, .inr (4, [.ref qs, .ref qr, .ref qm, .ref qw, .ref qt, .int (zi we)])), (qs, aI cI 10 sf)]) (vp_Si (fun r => r = zi (f_X4_told (sf sl.toNat) wh))) 0 0 zN := by
  refine Met.ofW (cc := cX4_told) (maxL := 5) (ret := (some .int)) (by decide) rfl ?_
  intro p e s m args below meth c s₁ B hml hv
  obtain ⟨rfl, hP, hK⟩ := hv
  have hx := B.exec
  have hb := B.bytes
  have hr := B.returns
  have hts := atoms_spec (ws := wsX4_told) B.pre
  have hown : s.vm.findClass RX4 = some m.cls := findClass_of_methodNamed B.named
  have hlocks := B.notSynchronized
  have hl := lv_entry ([.ref h0, .int (zi sl), .int (zi wh)]) (n := 5) (Nat.le_of_ble_eq_true rfl)
  rw [lg_entry_eq]
  generalize (lg_sl ([.ref h0, .int (zi sl), .int (zi wh)]) ++ List.replicate (5 - (lg_sl ([.ref h0, .int (zi sl), .int (zi wh)])).length) Slot.unset).toArray = ls at hl ⊢
  have hl : lv_has ls 5 [(0, .ref h0), (1, .int (zi sl)), (2, .int (zi wh))] := hl
  refine lv_iload_n hx hb dX4_told_0 rfl (lv_at hl 1 rfl) ?_
  have hh1 := c_X4_needSlot l sl (by omega)
  refine va_csv (va_Run.run (va_runS (As := [.int (zi sl)]) (rest := []) ⟨hx, hb, hml, hown, hts⟩ hh1 (va_cwS 1 hts gX4_told_X4_needSlot rfl rfl rfl (by decide +kernel) ⟨Nat.le_of_ble_eq_true rfl, Nat.le_of_ble_eq_true rfl⟩) ⟨fun a U g mk q => q, fun U hU hW => ⟨rfl, trivial⟩⟩ rfl rfl hl.1 rfl (lv_room (Nat.le_of_ble_eq_true rfl)) dX4_told_1 ⟨Nat.le_of_ble_eq_true rfl, Nat.le_of_ble_eq_true rfl⟩)) (fun _ => ?_)
  refine lv_iload_n hx hb dX4_told_4 rfl (lv_at hl 2 rfl) ?_
  refine zw_if_lt (tgt := 14) hx hb dX4_told_5 (by decide) ⟨by omega, by omega⟩ (fun h2 => ?_) (fun h2 => ?_)
  · skip
    exact absurd True.intro (by omega)
  · skip
    refine lv_iload_n hx hb dX4_told_8 rfl (lv_at hl 2 rfl) ?_
    refine zw_bipush hx hb dX4_told_9 (by decide) ?_
    refine zw_icmp_le (tgt := 24) hx hb dX4_told_11 (by decide) ⟨by omega, by omega⟩ ⟨by omega, by omega⟩ (fun h3 => ?_) (fun h3 => ?_)
    · skip
      refine lv_aload_n hx hb dX4_told_24 rfl (lv_at hl 0 rfl) ?_
      refine lv_iload_n hx hb dX4_told_25 rfl (lv_at hl 1 rfl) ?_
      have hh4 := c_X4_dateIn l dC dI cI h0 qs qr qm qw qt we sf sl (by omega) (by omega)
      have hPc := hP.sub (ws' := [(h0, .inr (4, [.ref qs, .ref qr, .ref qm, .ref qw, .ref qt, .int (zi we)])), (qs, aI cI 10 sf)]) [0, 1] rfl
      have hKc : va_K (dC, dI) vwCl [(cI, .int)] s := hK
      refine vp_callSi (va_Run.run (va_runV (As := [.int (zi sl)]) (rest := []) ⟨hx, hb, hml, hown, hts⟩ hh4 (cwV 1 hts gX4_told_X4_dateIn rfl rfl rfl (by decide +kernel) ⟨Nat.le_of_ble_eq_true rfl, Nat.le_of_ble_eq_true rfl⟩) ⟨zPr.blind _ _ _ _, va_recv hKc hPc (ci := 4) (q0 := 0) rfl rfl, fun U hU hW => ⟨rfl, by rw [hU]; exact hPc, va_K.moved hW.alike hKc⟩⟩ rfl rfl hl.1 rfl (lv_room (Nat.le_of_ble_eq_true rfl)) dX4_told_26 ⟨Nat.le_of_ble_eq_true rfl, Nat.le_of_ble_eq_true rfl⟩)) (fun r4 (hr4 : r4 = zi (sf sl.toNat)) => ?_)
      subst hr4
      refine zw_top (fun x5 ex5 => ?_)
      refine lv_istore_n (lv' := [(3, .int (zi x5)), (0, .ref h0), (1, .int (zi sl)), (2, .int (zi wh))]) hx hb dX4_told_29 rfl hl (by decide) rfl (fun ls hl => ?_)
      refine lv_iload_n hx hb dX4_told_30 rfl (lv_at hl 0 rfl) ?_
      have hh6 := c_X0_yearOf l x5 (by omega)
      refine vp_callSi (va_Run.run (va_runS (As := [.int (zi x5)]) (rest := []) ⟨hx, hb, hml, hown, hts⟩ hh6 (va_cwS 1 hts gX4_told_X0_yearOf rfl rfl rfl (by decide +kernel) ⟨Nat.le_of_ble_eq_true rfl, Nat.le_of_ble_eq_true rfl⟩) ⟨fun a U g mk q => q, fun U hU hW => ⟨rfl, trivial⟩⟩ rfl rfl hl.1 rfl (lv_room (Nat.le_of_ble_eq_true rfl)) dX4_told_31 ⟨Nat.zero_le _, Nat.zero_le _⟩)) (fun r6 (hr6 : r6 = zi (f_X0_yearOf x5)) => ?_)
      subst hr6
      have hf6 := b_X0_yearOf x5 (by omega)
      refine zw_top (fun x7 ex7 => ?_)
      refine lv_istore (lv' := [(4, .int (zi x7)), (3, .int (zi x5)), (0, .ref h0), (1, .int (zi sl)), (2, .int (zi wh))]) hx hb dX4_told_34 hl (by decide) rfl (fun ls hl => ?_)
      refine lv_iload_n hx hb dX4_told_36 rfl (lv_at hl 4 rfl) ?_
      by_cases h8 : wh = 0
      · skip
        refine zw_tableIn (tgt := 92) hx hb dX4_told_37 ⟨by omega, by omega⟩ h8 (by decide) (by decide) rfl (by decide) ?_
        refine lv_iload_n hx hb dX4_told_92 rfl (lv_at hl 1 rfl) ?_
        subst ex5 ex7
        exact W.iret (v := zi (sf sl.toNat)) hx hb hr (fun t ht hW => ⟨zi (sf sl.toNat), rfl, by rw [f_X4_told, if_neg (Int.not_lt.mpr h2), if_pos h3, if_pos h8], ht⟩) (fun q h => by cases h) dX4_told_93
      by_cases h9 : wh = 1
      · skip
        refine zw_tableIn (tgt := 94) hx hb dX4_told_37 ⟨by omega, by omega⟩ h9 (by decide) (by decide) rfl (by decide) ?_
        refine lv_iload hx hb dX4_told_94 (lv_at hl 0 rfl) ?_
        subst ex5 ex7
        exact W.iret (v := zi (f_X0_yearOf (sf sl.toNat))) hx hb hr (fun t ht hW => ⟨zi (f_X0_yearOf (sf sl.toNat)), rfl, by rw [f_X4_told, if_neg (Int.not_lt.mpr h2), if_pos h3, if_neg h8, if_pos h9], ht⟩) (fun q h => by cases h) dX4_told_96
      by_cases h10 : wh = 2
      · skip
        refine zw_tableIn (tgt := 97) hx hb dX4_told_37 ⟨by omega, by omega⟩ h10 (by decide) (by decide) rfl (by decide) ?_
        refine lv_iload_n hx hb dX4_told_97 rfl (lv_at hl 1 rfl) ?_
        have hh11 := c_X0_monthOf l x5 (by omega)
        refine vp_callSi (va_Run.run (va_runS (As := [.int (zi x5)]) (rest := []) ⟨hx, hb, hml, hown, hts⟩ hh11 (va_cwS 1 hts gX4_told_X0_monthOf rfl rfl rfl (by decide +kernel) ⟨Nat.le_of_ble_eq_true rfl, Nat.le_of_ble_eq_true rfl⟩) ⟨fun a U g mk q => q, fun U hU hW => ⟨rfl, trivial⟩⟩ rfl rfl hl.1 rfl (lv_room (Nat.le_of_ble_eq_true rfl)) dX4_told_98 ⟨Nat.zero_le _, Nat.zero_le _⟩)) (fun r11 (hr11 : r11 = zi (f_X0_monthOf x5)) => ?_)
        subst hr11
        have hf11 := b_X0_monthOf x5 (by omega)
        subst ex5 ex7
        exact W.iret (v := zi (f_X0_monthOf (sf sl.toNat))) hx hb hr (fun t ht hW => ⟨zi (f_X0_monthOf (sf sl.toNat)), rfl, by rw [f_X4_told, if_neg (Int.not_lt.mpr h2), if_pos h3, if_neg h8, if_neg h9, if_pos h10], ht⟩) (fun q h => by cases h) dX4_told_101
      by_cases h12 : wh = 3
      · skip
        refine zw_tableIn (tgt := 102) hx hb dX4_told_37 ⟨by omega, by omega⟩ h12 (by decide) (by decide) rfl (by decide) ?_
        refine lv_iload_n hx hb dX4_told_102 rfl (lv_at hl 1 rfl) ?_
        have hh13 := c_X0_dayOf l x5 (by omega)
        refine vp_callSi (va_Run.run (va_runS (As := [.int (zi x5)]) (rest := []) ⟨hx, hb, hml, hown, hts⟩ hh13 (va_cwS 1 hts gX4_told_X0_dayOf rfl rfl rfl (by decide +kernel) ⟨Nat.le_of_ble_eq_true rfl, Nat.le_of_ble_eq_true rfl⟩) ⟨fun a U g mk q => q, fun U hU hW => ⟨rfl, trivial⟩⟩ rfl rfl hl.1 rfl (lv_room (Nat.le_of_ble_eq_true rfl)) dX4_told_103 ⟨Nat.zero_le _, Nat.zero_le _⟩)) (fun r13 (hr13 : r13 = zi (f_X0_dayOf x5)) => ?_)
        subst hr13
        have hf13 := b_X0_dayOf x5 (by omega)
        subst ex5 ex7
        exact W.iret (v := zi (f_X0_dayOf (sf sl.toNat))) hx hb hr (fun t ht hW => ⟨zi (f_X0_dayOf (sf sl.toNat)), rfl, by rw [f_X4_told, if_neg (Int.not_lt.mpr h2), if_pos h3, if_neg h8, if_neg h9, if_neg h10, if_pos h12], ht⟩) (fun q h => by cases h) dX4_told_106
      by_cases h14 : wh = 4
      · skip
        refine zw_tableIn (tgt := 107) hx hb dX4_told_37 ⟨by omega, by omega⟩ h14 (by decide) (by decide) rfl (by decide) ?_
        refine lv_iload_n hx hb dX4_told_107 rfl (lv_at hl 1 rfl) ?_
        have hh15 := c_X0_weekdayOf l x5 (by omega)
        refine vp_callSi (va_Run.run (va_runS (As := [.int (zi x5)]) (rest := []) ⟨hx, hb, hml, hown, hts⟩ hh15 (va_cwS 1 hts gX4_told_X0_weekdayOf rfl rfl rfl (by decide +kernel) ⟨Nat.le_of_ble_eq_true rfl, Nat.le_of_ble_eq_true rfl⟩) ⟨fun a U g mk q => q, fun U hU hW => ⟨rfl, trivial⟩⟩ rfl rfl hl.1 rfl (lv_room (Nat.le_of_ble_eq_true rfl)) dX4_told_108 ⟨Nat.zero_le _, Nat.zero_le _⟩)) (fun r15 (hr15 : r15 = zi (f_X0_weekdayOf x5)) => ?_)
        subst hr15
        have hf15 := b_X0_weekdayOf x5 (by omega)
        subst ex5 ex7
        exact W.iret (v := zi (f_X0_weekdayOf (sf sl.toNat))) hx hb hr (fun t ht hW => ⟨zi (f_X0_weekdayOf (sf sl.toNat)), rfl, by rw [f_X4_told, if_neg (Int.not_lt.mpr h2), if_pos h3, if_neg h8, if_neg h9, if_neg h10, if_neg h12, if_pos h14], ht⟩) (fun q h => by cases h) dX4_told_111
      by_cases h16 : wh = 5
      · skip
        refine zw_tableIn (tgt := 112) hx hb dX4_told_37 ⟨by omega, by omega⟩ h16 (by decide) (by decide) rfl (by decide) ?_
        refine lv_iload_n hx hb dX4_told_112 rfl (lv_at hl 1 rfl) ?_
        have hh17 := c_X0_weekYearOf l x5 (by omega)
        refine vp_callSi (va_Run.run (va_runS (As := [.int (zi x5)]) (rest := []) ⟨hx, hb, hml, hown, hts⟩ hh17 (va_cwS 1 hts gX4_told_X0_weekYearOf rfl rfl rfl (by decide +kernel) ⟨Nat.le_of_ble_eq_true rfl, Nat.le_of_ble_eq_true rfl⟩) ⟨fun a U g mk q => q, fun U hU hW => ⟨rfl, trivial⟩⟩ rfl rfl hl.1 rfl (lv_room (Nat.le_of_ble_eq_true rfl)) dX4_told_113 ⟨Nat.zero_le _, Nat.zero_le _⟩)) (fun r17 (hr17 : r17 = zi (f_X0_weekYearOf x5)) => ?_)
        subst hr17
        have hf17 := b_X0_weekYearOf x5 (by omega)
        subst ex5 ex7
        exact W.iret (v := zi (f_X0_weekYearOf (sf sl.toNat))) hx hb hr (fun t ht hW => ⟨zi (f_X0_weekYearOf (sf sl.toNat)), rfl, by rw [f_X4_told, if_neg (Int.not_lt.mpr h2), if_pos h3, if_neg h8, if_neg h9, if_neg h10, if_neg h12, if_neg h14, if_pos h16], ht⟩) (fun q h => by cases h) dX4_told_116
      by_cases h18 : wh = 6
      · skip
        refine zw_tableIn (tgt := 117) hx hb dX4_told_37 ⟨by omega, by omega⟩ h18 (by decide) (by decide) rfl (by decide) ?_
        refine lv_iload_n hx hb dX4_told_117 rfl (lv_at hl 1 rfl) ?_
        have hh19 := c_X0_weekOf l x5 (by omega)
        refine vp_callSi (va_Run.run (va_runS (As := [.int (zi x5)]) (rest := []) ⟨hx, hb, hml, hown, hts⟩ hh19 (va_cwS 1 hts gX4_told_X0_weekOf rfl rfl rfl (by decide +kernel) ⟨Nat.le_of_ble_eq_true rfl, Nat.le_of_ble_eq_true rfl⟩) ⟨fun a U g mk q => q, fun U hU hW => ⟨rfl, trivial⟩⟩ rfl rfl hl.1 rfl (lv_room (Nat.le_of_ble_eq_true rfl)) dX4_told_118 ⟨Nat.zero_le _, Nat.zero_le _⟩)) (fun r19 (hr19 : r19 = zi (f_X0_weekOf x5)) => ?_)
        subst hr19
        have hf19 := b_X0_weekOf x5 (by omega)
        subst ex5 ex7
        exact W.iret (v := zi (f_X0_weekOf (sf sl.toNat))) hx hb hr (fun t ht hW => ⟨zi (f_X0_weekOf (sf sl.toNat)), rfl, by rw [f_X4_told, if_neg (Int.not_lt.mpr h2), if_pos h3, if_neg h8, if_neg h9, if_neg h10, if_neg h12, if_neg h14, if_neg h16, if_pos h18], ht⟩) (fun q h => by cases h) dX4_told_121
      by_cases h20 : wh = 7
      · skip
        refine zw_tableIn (tgt := 122) hx hb dX4_told_37 ⟨by omega, by omega⟩ h20 (by decide) (by decide) rfl (by decide) ?_
        refine lv_iload_n hx hb dX4_told_122 rfl (lv_at hl 1 rfl) ?_
        have hh21 := c_X0_yearDayOf l x5 (by omega)
        refine vp_callSi (va_Run.run (va_runS (As := [.int (zi x5)]) (rest := []) ⟨hx, hb, hml, hown, hts⟩ hh21 (va_cwS 1 hts gX4_told_X0_yearDayOf rfl rfl rfl (by decide +kernel) ⟨Nat.le_of_ble_eq_true rfl, Nat.le_of_ble_eq_true rfl⟩) ⟨fun a U g mk q => q, fun U hU hW => ⟨rfl, trivial⟩⟩ rfl rfl hl.1 rfl (lv_room (Nat.le_of_ble_eq_true rfl)) dX4_told_123 ⟨Nat.zero_le _, Nat.zero_le _⟩)) (fun r21 (hr21 : r21 = zi (f_X0_yearDayOf x5)) => ?_)
        subst hr21
        have hf21 := b_X0_yearDayOf x5 (by omega)
        subst ex5 ex7
        exact W.iret (v := zi (f_X0_yearDayOf (sf sl.toNat))) hx hb hr (fun t ht hW => ⟨zi (f_X0_yearDayOf (sf sl.toNat)), rfl, by rw [f_X4_told, if_neg (Int.not_lt.mpr h2), if_pos h3, if_neg h8, if_neg h9, if_neg h10, if_neg h12, if_neg h14, if_neg h16, if_neg h18, if_pos h20], ht⟩) (fun q h => by cases h) dX4_told_126
      by_cases h22 : wh = 8
      · skip
        refine zw_tableIn (tgt := 127) hx hb dX4_told_37 ⟨by omega, by omega⟩ h22 (by decide) (by decide) rfl (by decide) ?_
        refine lv_iload hx hb dX4_told_127 (lv_at hl 0 rfl) ?_
        have hh23 := c_X0_isLeap l x7 (by omega)
        refine vp_callSi (va_Run.run (va_runS (As := [.int (zi x7)]) (rest := []) ⟨hx, hb, hml, hown, hts⟩ hh23 (va_cwS 1 hts gX4_told_X0_isLeap rfl rfl rfl (by decide +kernel) ⟨Nat.le_of_ble_eq_true rfl, Nat.le_of_ble_eq_true rfl⟩) ⟨fun a U g mk q => q, fun U hU hW => ⟨rfl, trivial⟩⟩ rfl rfl hl.1 rfl (lv_room (Nat.le_of_ble_eq_true rfl)) dX4_told_129 ⟨Nat.zero_le _, Nat.zero_le _⟩)) (fun r23 (hr23 : r23 = zi (f_X0_isLeap x7)) => ?_)
        subst hr23
        have hf23 := b_X0_isLeap x7 (by omega)
        refine zw_if_eq (tgt := 139) hx hb dX4_told_132 (by decide) ⟨by omega, by omega⟩ (fun h24 => ?_) (fun h24 => ?_)
        · skip
          refine zw_iconst hx hb dX4_told_139 ?_
          subst ex5 ex7
          exact W.iret (v := zi 0) hx hb hr (fun t ht hW => ⟨zi 0, rfl, by rw [f_X4_told, if_neg (Int.not_lt.mpr h2), if_pos h3, if_neg h8, if_neg h9, if_neg h10, if_neg h12, if_neg h14, if_neg h16, if_neg h18, if_neg h20, if_pos h22, if_pos h24], ht⟩) (fun q h => by cases h) dX4_told_140
        · skip
          refine zw_iconst hx hb dX4_told_135 ?_
          refine lv_goto (tgt := 140) hx hb dX4_told_136 (by decide) ?_
          subst ex5 ex7
          exact W.iret (v := zi 1) hx hb hr (fun t ht hW => ⟨zi 1, rfl, by rw [f_X4_told, if_neg (Int.not_lt.mpr h2), if_pos h3, if_neg h8, if_neg h9, if_neg h10, if_neg h12, if_neg h14, if_neg h16, if_neg h18, if_neg h20, if_pos h22, if_neg h24], ht⟩) (fun q h => by cases h) dX4_told_140
      by_cases h25 : wh = 9
      · skip
        refine zw_tableIn (tgt := 141) hx hb dX4_told_37 ⟨by omega, by omega⟩ h25 (by decide) (by decide) rfl (by decide) ?_
        refine lv_iload hx hb dX4_told_141 (lv_at hl 0 rfl) ?_
        refine lv_iload_n hx hb dX4_told_143 rfl (lv_at hl 1 rfl) ?_
        have hh26 := c_X0_monthOf l x5 (by omega)
        refine vp_callSi (va_Run.run (va_runS (As := [.int (zi x5)]) (rest := [.int (zi x7)]) ⟨hx, hb, hml, hown, hts⟩ hh26 (va_cwS 1 hts gX4_told_X0_monthOf rfl rfl rfl (by decide +kernel) ⟨Nat.le_of_ble_eq_true rfl, Nat.le_of_ble_eq_true rfl⟩) ⟨fun a U g mk q => q, fun U hU hW => ⟨rfl, trivial⟩⟩ rfl rfl hl.1 rfl (lv_room (Nat.le_of_ble_eq_true rfl)) dX4_told_144 ⟨Nat.zero_le _, Nat.zero_le _⟩)) (fun r26 (hr26 : r26 = zi (f_X0_monthOf x5)) => ?_)
        subst hr26
        have hf26 := b_X0_monthOf x5 (by omega)
        have hh27 := c_X0_monthLength l x7 (f_X0_monthOf x5) (by omega) (by omega)
        refine vp_callSi (va_Run.run (va_runS (As := [.int (zi x7), .int (zi (f_X0_monthOf x5))]) (rest := []) ⟨hx, hb, hml, hown, hts⟩ hh27 (va_cwS 2 hts gX4_told_X0_monthLength rfl rfl rfl (by decide +kernel) ⟨Nat.le_of_ble_eq_true rfl, Nat.le_of_ble_eq_true rfl⟩) ⟨fun a U g mk q => q, fun U hU hW => ⟨rfl, trivial⟩⟩ rfl rfl hl.1 rfl (lv_room (Nat.le_of_ble_eq_true rfl)) dX4_told_147 ⟨Nat.zero_le _, Nat.zero_le _⟩)) (fun r27 (hr27 : r27 = zi (f_X0_monthLength x7 (f_X0_monthOf x5))) => ?_)
        subst hr27
        have hf27 := b_X0_monthLength x7 (f_X0_monthOf x5) (by omega) (by omega)
        subst ex5 ex7
        exact W.iret (v := zi (f_X0_monthLength (f_X0_yearOf (sf sl.toNat)) (f_X0_monthOf (sf sl.toNat)))) hx hb hr (fun t ht hW => ⟨zi (f_X0_monthLength (f_X0_yearOf (sf sl.toNat)) (f_X0_monthOf (sf sl.toNat))), rfl, by rw [f_X4_told, if_neg (Int.not_lt.mpr h2), if_pos h3, if_neg h8, if_neg h9, if_neg h10, if_neg h12, if_neg h14, if_neg h16, if_neg h18, if_neg h20, if_neg h22, if_pos h25], ht⟩) (fun q h => by cases h) dX4_told_150
      refine zw_tableOut (tgt := 151) hx hb dX4_told_37 ⟨by omega, by omega⟩ (by omega) (by decide) ?_
      refine lv_iload_n hx hb dX4_told_151 rfl (lv_at hl 1 rfl) ?_
      have hh28 := c_X0_weekYearOf l x5 (by omega)
      refine vp_callSi (va_Run.run (va_runS (As := [.int (zi x5)]) (rest := []) ⟨hx, hb, hml, hown, hts⟩ hh28 (va_cwS 1 hts gX4_told_X0_weekYearOf rfl rfl rfl (by decide +kernel) ⟨Nat.le_of_ble_eq_true rfl, Nat.le_of_ble_eq_true rfl⟩) ⟨fun a U g mk q => q, fun U hU hW => ⟨rfl, trivial⟩⟩ rfl rfl hl.1 rfl (lv_room (Nat.le_of_ble_eq_true rfl)) dX4_told_152 ⟨Nat.zero_le _, Nat.zero_le _⟩)) (fun r28 (hr28 : r28 = zi (f_X0_weekYearOf x5)) => ?_)
      subst hr28
      have hf28 := b_X0_weekYearOf x5 (by omega)
      have hh29 := c_X0_weeksIn l (f_X0_weekYearOf x5) (by omega)
      refine vp_callSi (va_Run.run (va_runS (As := [.int (zi (f_X0_weekYearOf x5))]) (rest := []) ⟨hx, hb, hml, hown, hts⟩ hh29 (va_cwS 1 hts gX4_told_X0_weeksIn rfl rfl rfl (by decide +kernel) ⟨Nat.le_of_ble_eq_true rfl, Nat.le_of_ble_eq_true rfl⟩) ⟨fun a U g mk q => q, fun U hU hW => ⟨rfl, trivial⟩⟩ rfl rfl hl.1 rfl (lv_room (Nat.le_of_ble_eq_true rfl)) dX4_told_155 ⟨Nat.zero_le _, Nat.zero_le _⟩)) (fun r29 (hr29 : r29 = zi (f_X0_weeksIn (f_X0_weekYearOf x5))) => ?_)
      subst hr29
      have hf29 := b_X0_weeksIn (f_X0_weekYearOf x5) (by omega)
      subst ex5 ex7
      exact W.iret (v := zi (f_X0_weeksIn (f_X0_weekYearOf (sf sl.toNat)))) hx hb hr (fun t ht hW => ⟨zi (f_X0_weeksIn (f_X0_weekYearOf (sf sl.toNat))), rfl, by rw [f_X4_told, if_neg (Int.not_lt.mpr h2), if_pos h3, if_neg h8, if_neg h9, if_neg h10, if_neg h12, if_neg h14, if_neg h16, if_neg h18, if_neg h20, if_neg h22, if_neg h25], ht⟩) (fun q h => by cases h) dX4_told_158
    · skip
      exact absurd True.intro (by omega)

set_option maxHeartbeats 4000000 in
set_option maxRecDepth 100000 in
theorem t_X4_between_1 (l : Launch) (hst : l.stackTraces = false) (h0 : Nat) (sl ot un : Int) (hp0 : -2147483648 ≤ sl ∧ sl ≤ 2147483647) (hp1 : sl < 0 ∨ 9 < sl) : vx_Met l yX4_between wsX4_between ({ frames := 7, cells := 1, slots := 6, locals := 110 }) (zP [.ref h0, .int (zi sl), .int (zi ot), .int (zi un)]) zNo (zX "java/lang/IndexOutOfBoundsException") 1 6 zN := by
  refine vx_ofW (cc := cX4_between) (maxL := 6) (ret := (some .int)) (by decide) rfl ?_
  intro p e s m args below meth c s₁ B hml hno hv
  obtain ⟨rfl, hE⟩ := hv
  have hx := B.exec
  have hb := B.bytes
  have hr := B.returns
  have hts := atoms_spec (ws := wsX4_between) B.pre
  have hown : s.vm.findClass RX4 = some m.cls := findClass_of_methodNamed B.named
  have hlocks := B.notSynchronized
  have hl := lv_entry ([.ref h0, .int (zi sl), .int (zi ot), .int (zi un)]) (n := 6) (Nat.le_of_ble_eq_true rfl)
  rw [lg_entry_eq]
  generalize (lg_sl ([.ref h0, .int (zi sl), .int (zi ot), .int (zi un)]) ++ List.replicate (6 - (lg_sl ([.ref h0, .int (zi sl), .int (zi ot), .int (zi un)])).length) Slot.unset).toArray = ls at hl ⊢
  have hl : lv_has ls 6 [(0, .ref h0), (1, .int (zi sl)), (2, .int (zi ot)), (3, .int (zi un))] := hl
  refine lv_iload_n hx hb dX4_between_0 rfl (lv_at hl 1 rfl) ?_
  have hh1 := t_X4_needSlot l hst sl (by omega) (by omega)
  exact zt_pass (vx_runS (As := [.int (zi sl)]) (rest := []) ⟨hx, hb, hml, hown, hts⟩ hh1 (va_cwS 1 hts gX4_between_X4_needSlot rfl rfl rfl (by decide +kernel) ⟨Nat.le_of_ble_eq_true rfl, Nat.le_of_ble_eq_true rfl⟩) ⟨zP.blind _, fun U hU hW => ⟨rfl, hE.call va_S.rf (fun q h => by rw [hU] at h; exact h) hU hW⟩⟩ rfl rfl hl.1 rfl (lv_room (Nat.le_of_ble_eq_true rfl)) dX4_between_1 ⟨Nat.le_of_ble_eq_true rfl, Nat.le_of_ble_eq_true rfl⟩) hno hlocks

set_option maxHeartbeats 4000000 in
set_option maxRecDepth 100000 in
theorem t_X4_between_1b (l : Launch) (hst : l.stackTraces = false) (h0 : Nat) (sl ot un : Int) (hp0 : 0 ≤ sl ∧ sl ≤ 9) (hp1 : -2147483648 ≤ ot ∧ ot ≤ 2147483647) (hp2 : ot < 0 ∨ 9 < ot) : vx_Met l yX4_between wsX4_between ({ frames := 7, cells := 1, slots := 6, locals := 110 }) (zP [.ref h0, .int (zi sl), .int (zi ot), .int (zi un)]) zNo (zX "java/lang/IndexOutOfBoundsException") 1 6 zN := by
  refine vx_ofW (cc := cX4_between) (maxL := 6) (ret := (some .int)) (by decide) rfl ?_
  intro p e s m args below meth c s₁ B hml hno hv
  obtain ⟨rfl, hE⟩ := hv
  have hx := B.exec
  have hb := B.bytes
  have hr := B.returns
  have hts := atoms_spec (ws := wsX4_between) B.pre
  have hown : s.vm.findClass RX4 = some m.cls := findClass_of_methodNamed B.named
  have hlocks := B.notSynchronized
  have hl := lv_entry ([.ref h0, .int (zi sl), .int (zi ot), .int (zi un)]) (n := 6) (Nat.le_of_ble_eq_true rfl)
  rw [lg_entry_eq]
  generalize (lg_sl ([.ref h0, .int (zi sl), .int (zi ot), .int (zi un)]) ++ List.replicate (6 - (lg_sl ([.ref h0, .int (zi sl), .int (zi ot), .int (zi un)])).length) Slot.unset).toArray = ls at hl ⊢
  have hl : lv_has ls 6 [(0, .ref h0), (1, .int (zi sl)), (2, .int (zi ot)), (3, .int (zi un))] := hl
  refine lv_iload_n hx hb dX4_between_0 rfl (lv_at hl 1 rfl) ?_
  have hh1 := c_X4_needSlot l sl (by omega)
  refine va_csv (va_Run.run (va_runS (As := [.int (zi sl)]) (rest := []) ⟨hx, hb, hml, hown, hts⟩ hh1 (va_cwS 1 hts gX4_between_X4_needSlot rfl rfl rfl (by decide +kernel) ⟨Nat.le_of_ble_eq_true rfl, Nat.le_of_ble_eq_true rfl⟩) ⟨fun a U g mk q => q, fun U hU hW => ⟨rfl, trivial⟩⟩ rfl rfl hl.1 rfl (lv_room (Nat.le_of_ble_eq_true rfl)) dX4_between_1 ⟨Nat.le_of_ble_eq_true rfl, Nat.le_of_ble_eq_true rfl⟩)) (fun _ => ?_)
  refine lv_iload_n hx hb dX4_between_4 rfl (lv_at hl 2 rfl) ?_
  have hh2 := t_X4_needSlot l hst ot (by omega) (by omega)
  exact zt_pass (vx_runS (As := [.int (zi ot)]) (rest := []) ⟨hx, hb, hml, hown, hts⟩ hh2 (va_cwS 1 hts gX4_between_X4_needSlot rfl rfl rfl (by decide +kernel) ⟨Nat.le_of_ble_eq_true rfl, Nat.le_of_ble_eq_true rfl⟩) ⟨zP.blind _, fun U hU hW => ⟨rfl, hE.call va_S.rf (fun q h => by rw [hU] at h; exact h) hU hW⟩⟩ rfl rfl hl.1 rfl (lv_room (Nat.le_of_ble_eq_true rfl)) dX4_between_5 ⟨Nat.le_of_ble_eq_true rfl, Nat.le_of_ble_eq_true rfl⟩) hno hlocks

set_option maxHeartbeats 4000000 in
set_option maxRecDepth 100000 in
theorem t_X4_between_2 (l : Launch) (hst : l.stackTraces = false) (h0 : Nat) (sl ot un : Int) (hp0 : 0 ≤ sl ∧ sl ≤ 9) (hp1 : 0 ≤ ot ∧ ot ≤ 9) (hp2 : -2147483648 ≤ un ∧ un ≤ 2147483647) (hp3 : un < 0 ∨ 2 < un) : vx_Met l yX4_between wsX4_between ({ frames := 7, cells := 1, slots := 6, locals := 110 }) (zP [.ref h0, .int (zi sl), .int (zi ot), .int (zi un)]) zNo (zX "java/lang/IllegalArgumentException") 1 6 zN := by
  refine vx_ofW (cc := cX4_between) (maxL := 6) (ret := (some .int)) (by decide) rfl ?_
  intro p e s m args below meth c s₁ B hml hno hv
  obtain ⟨rfl, hE⟩ := hv
  have hx := B.exec
  have hb := B.bytes
  have hr := B.returns
  have hts := atoms_spec (ws := wsX4_between) B.pre
  have hown : s.vm.findClass RX4 = some m.cls := findClass_of_methodNamed B.named
  have hlocks := B.notSynchronized
  have hl := lv_entry ([.ref h0, .int (zi sl), .int (zi ot), .int (zi un)]) (n := 6) (Nat.le_of_ble_eq_true rfl)
  rw [lg_entry_eq]
  generalize (lg_sl ([.ref h0, .int (zi sl), .int (zi ot), .int (zi un)]) ++ List.replicate (6 - (lg_sl ([.ref h0, .int (zi sl), .int (zi ot), .int (zi un)])).length) Slot.unset).toArray = ls at hl ⊢
  have hl : lv_has ls 6 [(0, .ref h0), (1, .int (zi sl)), (2, .int (zi ot)), (3, .int (zi un))] := hl
  refine lv_iload_n hx hb dX4_between_0 rfl (lv_at hl 1 rfl) ?_
  have hh1 := c_X4_needSlot l sl (by omega)
  refine va_csv (va_Run.run (va_runS (As := [.int (zi sl)]) (rest := []) ⟨hx, hb, hml, hown, hts⟩ hh1 (va_cwS 1 hts gX4_between_X4_needSlot rfl rfl rfl (by decide +kernel) ⟨Nat.le_of_ble_eq_true rfl, Nat.le_of_ble_eq_true rfl⟩) ⟨fun a U g mk q => q, fun U hU hW => ⟨rfl, trivial⟩⟩ rfl rfl hl.1 rfl (lv_room (Nat.le_of_ble_eq_true rfl)) dX4_between_1 ⟨Nat.le_of_ble_eq_true rfl, Nat.le_of_ble_eq_true rfl⟩)) (fun _ => ?_)
  refine lv_iload_n hx hb dX4_between_4 rfl (lv_at hl 2 rfl) ?_
  have hh2 := c_X4_needSlot l ot (by omega)
  refine va_csv (va_Run.run (va_runS (As := [.int (zi ot)]) (rest := []) ⟨hx, hb, hml, hown, hts⟩ hh2 (va_cwS 1 hts gX4_between_X4_needSlot rfl rfl rfl (by decide +kernel) ⟨Nat.le_of_ble_eq_true rfl, Nat.le_of_ble_eq_true rfl⟩) ⟨fun a U g mk q => q, fun U hU hW => ⟨rfl, trivial⟩⟩ rfl rfl hl.1 rfl (lv_room (Nat.le_of_ble_eq_true rfl)) dX4_between_5 ⟨Nat.le_of_ble_eq_true rfl, Nat.le_of_ble_eq_true rfl⟩)) (fun _ => ?_)
  refine lv_iload_n hx hb dX4_between_8 rfl (lv_at hl 3 rfl) ?_
  have hh3 := t_X4_needUnit l hst un (by omega) (by omega)
  exact zt_pass (vx_runS (As := [.int (zi un)]) (rest := []) ⟨hx, hb, hml, hown, hts⟩ hh3 (va_cwS 1 hts gX4_between_X4_needUnit rfl rfl rfl (by decide +kernel) ⟨Nat.le_of_ble_eq_true rfl, Nat.le_of_ble_eq_true rfl⟩) ⟨zP.blind _, fun U hU hW => ⟨rfl, hE.call va_S.rf (fun q h => by rw [hU] at h; exact h) hU hW⟩⟩ rfl rfl hl.1 rfl (lv_room (Nat.le_of_ble_eq_true rfl)) dX4_between_9 ⟨Nat.le_of_ble_eq_true rfl, Nat.le_of_ble_eq_true rfl⟩) hno hlocks

set_option maxHeartbeats 4000000 in
set_option maxRecDepth 100000 in
theorem t_X4_between_3 (l : Launch) (hst : l.stackTraces = false) (dC : Nat → ClassId) (dI : Nat → Nat → Nat) (cI : ClassId) (h0 qs qr qm qw qt : Nat) (we : Int) (sf : Nat → Int) (sl ot un : Int) (hp0 : 0 ≤ sl ∧ sl ≤ 9) (hp1 : 0 ≤ ot ∧ ot ≤ 9) (hp2 : 0 ≤ un ∧ un ≤ 2) (hp3 : sf sl.toNat = -1) : vx_Met l yX4_between wsX4_between ({ frames := 7, cells := 1, slots := 6, locals := 112 }) (zPt (dC, dI) [(cI, .int)] [.ref h0, .int (zi sl), .int (zi ot), .int (zi un)] [(h0, .inr (4, [.ref qs, .ref qr, .ref qm, .ref qw, .ref qt, .int (zi we)])), (qs, aI cI 10 sf)]) zNo (zX "java/lang/IllegalStateException") 1 6 zN := by
  refine vx_ofW (cc := cX4_between) (maxL := 6) (ret := (some .int)) (by decide) rfl ?_
  intro p e s m args below meth c s₁ B hml hno hv
  obtain ⟨rfl, hE, hP, hK⟩ := hv
  have hx := B.exec
  have hb := B.bytes
  have hr := B.returns
  have hts := atoms_spec (ws := wsX4_between) B.pre
  have hown : s.vm.findClass RX4 = some m.cls := findClass_of_methodNamed B.named
  have hlocks := B.notSynchronized
  have hl := lv_entry ([.ref h0, .int (zi sl), .int (zi ot), .int (zi un)]) (n := 6) (Nat.le_of_ble_eq_true rfl)
  rw [lg_entry_eq]
  generalize (lg_sl ([.ref h0, .int (zi sl), .int (zi ot), .int (zi un)]) ++ List.replicate (6 - (lg_sl ([.ref h0, .int (zi sl), .int (zi ot), .int (zi un)])).length) Slot.unset).toArray = ls at hl ⊢
  have hl : lv_has ls 6 [(0, .ref h0), (1, .int (zi sl)), (2, .int (zi ot)), (3, .int (zi un))] := hl
  refine lv_iload_n hx hb dX4_between_0 rfl (lv_at hl 1 rfl) ?_
  have hh1 := c_X4_needSlot l sl (by omega)
  refine va_csv (va_Run.run (va_runS (As := [.int (zi sl)]) (rest := []) ⟨hx, hb, hml, hown, hts⟩ hh1 (va_cwS 1 hts gX4_between_X4_needSlot rfl rfl rfl (by decide +kernel) ⟨Nat.le_of_ble_eq_true rfl, Nat.le_of_ble_eq_true rfl⟩) ⟨fun a U g mk q => q, fun U hU hW => ⟨rfl, trivial⟩⟩ rfl rfl hl.1 rfl (lv_room (Nat.le_of_ble_eq_true rfl)) dX4_between_1 ⟨Nat.le_of_ble_eq_true rfl, Nat.le_of_ble_eq_true rfl⟩)) (fun _ => ?_)
  refine lv_iload_n hx hb dX4_between_4 rfl (lv_at hl 2 rfl) ?_
  have hh2 := c_X4_needSlot l ot (by omega)
  refine va_csv (va_Run.run (va_runS (As := [.int (zi ot)]) (rest := []) ⟨hx, hb, hml, hown, hts⟩ hh2 (va_cwS 1 hts gX4_between_X4_needSlot rfl rfl rfl (by decide +kernel) ⟨Nat.le_of_ble_eq_true rfl, Nat.le_of_ble_eq_true rfl⟩) ⟨fun a U g mk q => q, fun U hU hW => ⟨rfl, trivial⟩⟩ rfl rfl hl.1 rfl (lv_room (Nat.le_of_ble_eq_true rfl)) dX4_between_5 ⟨Nat.le_of_ble_eq_true rfl, Nat.le_of_ble_eq_true rfl⟩)) (fun _ => ?_)
  refine lv_iload_n hx hb dX4_between_8 rfl (lv_at hl 3 rfl) ?_
  have hh3 := c_X4_needUnit l un (by omega)
  refine va_csv (va_Run.run (va_runS (As := [.int (zi un)]) (rest := []) ⟨hx, hb, hml, hown, hts⟩ hh3 (va_cwS 1 hts gX4_between_X4_needUnit rfl rfl rfl (by decide +kernel) ⟨Nat.le_of_ble_eq_true rfl, Nat.le_of_ble_eq_true rfl⟩) ⟨fun a U g mk q => q, fun U hU hW => ⟨rfl, trivial⟩⟩ rfl rfl hl.1 rfl (lv_room (Nat.le_of_ble_eq_true rfl)) dX4_between_9 ⟨Nat.le_of_ble_eq_true rfl, Nat.le_of_ble_eq_true rfl⟩)) (fun _ => ?_)
  refine lv_aload_n hx hb dX4_between_12 rfl (lv_at hl 0 rfl) ?_
  refine lv_iload_n hx hb dX4_between_13 rfl (lv_at hl 1 rfl) ?_
  have hh4 := t_X4_dateIn l hst dC dI cI h0 qs qr qm qw qt we sf sl (by omega) (by omega)
  have hPc := hP.sub (ws' := [(h0, .inr (4, [.ref qs, .ref qr, .ref qm, .ref qw, .ref qt, .int (zi we)])), (qs, aI cI 10 sf)]) [0, 1] rfl
  have hKc : va_K (dC, dI) vwCl [(cI, .int)] s := hK
  exact zt_pass (vx_runV (As := [.int (zi sl)]) (rest := []) ⟨hx, hb, hml, hown, hts⟩ hh4 (cwV 1 hts gX4_between_X4_dateIn rfl rfl rfl (by decide +kernel) ⟨Nat.le_of_ble_eq_true rfl, Nat.le_of_ble_eq_true rfl⟩) ⟨zPt.blind _ _ _ _, va_recv hKc hPc (ci := 4) (q0 := 0) rfl rfl, fun U hU hW => ⟨rfl, hE.call va_S.rf (fun q h => by rw [hU] at h; exact h) hU hW, by rw [hU]; exact hPc, va_K.moved hW.alike hKc⟩⟩ rfl rfl hl.1 rfl (lv_room (Nat.le_of_ble_eq_true rfl)) dX4_between_14 ⟨Nat.le_of_ble_eq_true rfl, Nat.le_of_ble_eq_true rfl⟩) hno hlocks

set_option maxHeartbeats 4000000 in
set_option maxRecDepth 100000 in
theorem t_X4_between_3b (l : Launch) (hst : l.stackTraces = false) (dC : Nat → ClassId) (dI : Nat → Nat → Nat) (cI : ClassId) (h0 qs qr qm qw qt : Nat) (we : Int) (sf : Nat → Int) (sl ot un : Int) (hp0 : 0 ≤ sl ∧ sl ≤ 9) (hp1 : 0 ≤ ot ∧ ot ≤ 9) (hp2 : 0 ≤ un ∧ un ≤ 2) (hp3 : 0 ≤ sf sl.toNat ∧ sf sl.toNat ≤ 3652058) (hp4 : sf ot.toNat = -1) : vx_Met l yX4_between wsX4_between ({ frames := 7, cells := 1, slots := 6, locals := 112 }) (zPt (dC, dI) [(cI, .int)] [.ref h0, .int (zi sl), .int (zi ot), .int (zi un)] [(h0, .inr (4, [.ref qs, .ref qr, .ref qm, .ref qw, .ref qt, .int (zi we)])), (qs, aI cI 10 sf)]) zNo (zX "java/lang/IllegalStateException") 1 6 zN := by
  refine vx_ofW (cc := cX4_between) (maxL := 6) (ret := (some .int)) (by decide) rfl ?_
  intro p e s m args below meth c s₁ B hml hno hv
  obtain ⟨rfl, hE, hP, hK⟩ := hv
  have hx := B.exec
  have hb := B.bytes
  have hr := B.returns
  have hts := atoms_spec (ws := wsX4_between) B.pre
  have hown : s.vm.findClass RX4 = some m.cls := findClass_of_methodNamed B.named
  have hlocks := B.notSynchronized
  have hl := lv_entry ([.ref h0, .int (zi sl), .int (zi ot), .int (zi un)]) (n := 6) (Nat.le_of_ble_eq_true rfl)
  rw [lg_entry_eq]
  generalize (lg_sl ([.ref h0, .int (zi sl), .int (zi ot), .int (zi un)]) ++ List.replicate (6 - (lg_sl ([.ref h0, .int (zi sl), .int (zi ot), .int (zi un)])).length) Slot.unset).toArray = ls at hl ⊢
  have hl : lv_has ls 6 [(0, .ref h0), (1, .int (zi sl)), (2, .int (zi ot)), (3, .int (zi un))] := hl
  refine lv_iload_n hx hb dX4_between_0 rfl (lv_at hl 1 rfl) ?_
  have hh1 := c_X4_needSlot l sl (by omega)
  refine va_csv (va_Run.run (va_runS (As := [.int (zi sl)]) (rest := []) ⟨hx, hb, hml, hown, hts⟩ hh1 (va_cwS 1 hts gX4_between_X4_needSlot rfl rfl rfl (by decide +kernel) ⟨Nat.le_of_ble_eq_true rfl, Nat.le_of_ble_eq_true rfl⟩) ⟨fun a U g mk q => q, fun U hU hW => ⟨rfl, trivial⟩⟩ rfl rfl hl.1 rfl (lv_room (Nat.le_of_ble_eq_true rfl)) dX4_between_1 ⟨Nat.le_of_ble_eq_true rfl, Nat.le_of_ble_eq_true rfl⟩)) (fun _ => ?_)
  refine lv_iload_n hx hb dX4_between_4 rfl (lv_at hl 2 rfl) ?_
  have hh2 := c_X4_needSlot l ot (by omega)
  refine va_csv (va_Run.run (va_runS (As := [.int (zi ot)]) (rest := []) ⟨hx, hb, hml, hown, hts⟩ hh2 (va_cwS 1 hts gX4_between_X4_needSlot rfl rfl rfl (by decide +kernel) ⟨Nat.le_of_ble_eq_true rfl, Nat.le_of_ble_eq_true rfl⟩) ⟨fun a U g mk q => q, fun U hU hW => ⟨rfl, trivial⟩⟩ rfl rfl hl.1 rfl (lv_room (Nat.le_of_ble_eq_true rfl)) dX4_between_5 ⟨Nat.le_of_ble_eq_true rfl, Nat.le_of_ble_eq_true rfl⟩)) (fun _ => ?_)
  refine lv_iload_n hx hb dX4_between_8 rfl (lv_at hl 3 rfl) ?_
  have hh3 := c_X4_needUnit l un (by omega)
  refine va_csv (va_Run.run (va_runS (As := [.int (zi un)]) (rest := []) ⟨hx, hb, hml, hown, hts⟩ hh3 (va_cwS 1 hts gX4_between_X4_needUnit rfl rfl rfl (by decide +kernel) ⟨Nat.le_of_ble_eq_true rfl, Nat.le_of_ble_eq_true rfl⟩) ⟨fun a U g mk q => q, fun U hU hW => ⟨rfl, trivial⟩⟩ rfl rfl hl.1 rfl (lv_room (Nat.le_of_ble_eq_true rfl)) dX4_between_9 ⟨Nat.le_of_ble_eq_true rfl, Nat.le_of_ble_eq_true rfl⟩)) (fun _ => ?_)
  refine lv_aload_n hx hb dX4_between_12 rfl (lv_at hl 0 rfl) ?_
  refine lv_iload_n hx hb dX4_between_13 rfl (lv_at hl 1 rfl) ?_
  have hh4 := c_X4_dateIn l dC dI cI h0 qs qr qm qw qt we sf sl (by omega) (by omega)
  have hPc := hP.sub (ws' := [(h0, .inr (4, [.ref qs, .ref qr, .ref qm, .ref qw, .ref qt, .int (zi we)])), (qs, aI cI 10 sf)]) [0, 1] rfl
  have hKc : va_K (dC, dI) vwCl [(cI, .int)] s := hK
  refine vp_callSi (va_Run.run (va_runV (As := [.int (zi sl)]) (rest := []) ⟨hx, hb, hml, hown, hts⟩ hh4 (cwV 1 hts gX4_between_X4_dateIn rfl rfl rfl (by decide +kernel) ⟨Nat.le_of_ble_eq_true rfl, Nat.le_of_ble_eq_true rfl⟩) ⟨zPr.blind _ _ _ _, va_recv hKc hPc (ci := 4) (q0 := 0) rfl rfl, fun U hU hW => ⟨rfl, by rw [hU]; exact hPc, va_K.moved hW.alike hKc⟩⟩ rfl rfl hl.1 rfl (lv_room (Nat.le_of_ble_eq_true rfl)) dX4_between_14 ⟨Nat.le_of_ble_eq_true rfl, Nat.le_of_ble_eq_true rfl⟩)) (fun r4 (hr4 : r4 = zi (sf sl.toNat)) => ?_)
  subst hr4
  refine zw_top (fun x5 ex5 => ?_)
  refine lv_istore (lv' := [(4, .int (zi x5)), (0, .ref h0), (1, .int (zi sl)), (2, .int (zi ot)), (3, .int (zi un))]) hx hb dX4_between_17 hl (by decide) rfl (fun ls hl => ?_)
  refine lv_aload_n hx hb dX4_between_19 rfl (lv_at hl 1 rfl) ?_
  refine lv_iload_n hx hb dX4_between_20 rfl (lv_at hl 3 rfl) ?_
  have hh6 := t_X4_dateIn l hst dC dI cI h0 qs qr qm qw qt we sf ot (by omega) (by omega)
  have hPc := hP.sub (ws' := [(h0, .inr (4, [.ref qs, .ref qr, .ref qm, .ref qw, .ref qt, .int (zi we)])), (qs, aI cI 10 sf)]) [0, 1] rfl
  have hKc : va_K (dC, dI) vwCl [(cI, .int)] s := hK
  exact zt_pass (vx_runV (As := [.int (zi ot)]) (rest := []) ⟨hx, hb, hml, hown, hts⟩ hh6 (cwV 1 hts gX4_between_X4_dateIn rfl rfl rfl (by decide +kernel) ⟨Nat.le_of_ble_eq_true rfl, Nat.le_of_ble_eq_true rfl⟩) ⟨zPt.blind _ _ _ _, va_recv hKc hPc (ci := 4) (q0 := 0) rfl rfl, fun U hU hW => ⟨rfl, hE.call va_S.rf (fun q h => by rw [hU] at h; exact h) hU hW, by rw [hU]; exact hPc, va_K.moved hW.alike hKc⟩⟩ rfl rfl hl.1 rfl (lv_room (Nat.le_of_ble_eq_true rfl)) dX4_between_21 ⟨Nat.le_of_ble_eq_true rfl, Nat.le_of_ble_eq_true rfl⟩) hno hlocks

set_option maxHeartbeats 4000000 in
set_option maxRecDepth 100000 in
theorem c_X4_between (l : Launch)  (dC : Nat → ClassId) (dI : Nat → Nat → Nat) (cI : ClassId) (h0 qs qr qm qw qt : Nat) (we : Int) (sf : Nat → Int) (sl ot un : Int) (hp0 : 0 ≤ sl ∧ sl ≤ 9) (hp1 : 0 ≤ ot ∧ ot ≤ 9) (hp2 : 0 ≤ un ∧ un ≤ 2) (hp3 : 0 ≤ sf sl.toNat ∧ sf sl.toNat ≤ 3652058) (hp4 : 0 ≤ sf ot.toNat ∧ sf ot.toNat ≤ 3652058) : Met l yX4_between wsX4_between ({ frames := 7, cells := 0, slots := 0, locals := 158 }) (zPr (dC, dI) [(cI, .int)] [.ref h0, .int (zi sl), .int (zi ot), .int (zi un)] [(h0, .inr (4, [.ref qs, .ref qr, .ref qm, .ref qw, .ref qt, .int (zi we)])), (qs, aI cI 10 sf)]) (vp_Si (fun r => r = zi (f_X4_between (sf sl.toNat) (sf ot.toNat) un))) 0 0 zN := by
  refine Met.ofW (cc := cX4_between) (maxL := 6) (ret := (some .int)) (by decide) rfl ?_
  intro p e s m args below meth c s₁ B hml hv
  obtain ⟨rfl, hP, hK⟩ := hv
  have hx := B.exec
  have hb := B.bytes
  have hr := B.returns
  have hts := atoms_spec (ws := wsX4_between) B.pre
  have hown : s.vm.findClass RX4 = some m.cls := findClass_of_methodNamed B.named
  have hlocks := B.notSynchronized
  have hl := lv_entry ([.ref h0, .int (zi sl), .int (zi ot), .int (zi un)]) (n := 6) (Nat.le_of_ble_eq_true rfl)
  rw [lg_entry_eq]
  generalize (lg_sl ([.ref h0, .int (zi sl), .int (zi ot), .int (zi un)]) ++ List.replicate (6 - (lg_sl ([.ref h0, .int (zi sl), .int (zi ot), .int (zi un)])).length) Slot.unset).toArray = ls at hl ⊢
  have hl : lv_has ls 6 [(0, .ref h0), (1, .int (zi sl)), (2, .int (zi ot)), (3, .int (zi un))] := hl
  refine lv_iload_n hx hb dX4_between_0 rfl (lv_at hl 1 rfl) ?_
  have hh1 := c_X4_needSlot l sl (by omega)
  refine va_csv (va_Run.run (va_runS (As := [.int (zi sl)]) (rest := []) ⟨hx, hb, hml, hown, hts⟩ hh1 (va_cwS 1 hts gX4_between_X4_needSlot rfl rfl rfl (by decide +kernel) ⟨Nat.le_of_ble_eq_true rfl, Nat.le_of_ble_eq_true rfl⟩) ⟨fun a U g mk q => q, fun U hU hW => ⟨rfl, trivial⟩⟩ rfl rfl hl.1 rfl (lv_room (Nat.le_of_ble_eq_true rfl)) dX4_between_1 ⟨Nat.le_of_ble_eq_true rfl, Nat.le_of_ble_eq_true rfl⟩)) (fun _ => ?_)
  refine lv_iload_n hx hb dX4_between_4 rfl (lv_at hl 2 rfl) ?_
  have hh2 := c_X4_needSlot l ot (by omega)
  refine va_csv (va_Run.run (va_runS (As := [.int (zi ot)]) (rest := []) ⟨hx, hb, hml, hown, hts⟩ hh2 (va_cwS 1 hts gX4_between_X4_needSlot rfl rfl rfl (by decide +kernel) ⟨Nat.le_of_ble_eq_true rfl, Nat.le_of_ble_eq_true rfl⟩) ⟨fun a U g mk q => q, fun U hU hW => ⟨rfl, trivial⟩⟩ rfl rfl hl.1 rfl (lv_room (Nat.le_of_ble_eq_true rfl)) dX4_between_5 ⟨Nat.le_of_ble_eq_true rfl, Nat.le_of_ble_eq_true rfl⟩)) (fun _ => ?_)
  refine lv_iload_n hx hb dX4_between_8 rfl (lv_at hl 3 rfl) ?_
  have hh3 := c_X4_needUnit l un (by omega)
  refine va_csv (va_Run.run (va_runS (As := [.int (zi un)]) (rest := []) ⟨hx, hb, hml, hown, hts⟩ hh3 (va_cwS 1 hts gX4_between_X4_needUnit rfl rfl rfl (by decide +kernel) ⟨Nat.le_of_ble_eq_true rfl, Nat.le_of_ble_eq_true rfl⟩) ⟨fun a U g mk q => q, fun U hU hW => ⟨rfl, trivial⟩⟩ rfl rfl hl.1 rfl (lv_room (Nat.le_of_ble_eq_true rfl)) dX4_between_9 ⟨Nat.le_of_ble_eq_true rfl, Nat.le_of_ble_eq_true rfl⟩)) (fun _ => ?_)
  refine lv_aload_n hx hb dX4_between_12 rfl (lv_at hl 0 rfl) ?_
  refine lv_iload_n hx hb dX4_between_13 rfl (lv_at hl 1 rfl) ?_
  have hh4 := c_X4_dateIn l dC dI cI h0 qs qr qm qw qt we sf sl (by omega) (by omega)
  have hPc := hP.sub (ws' := [(h0, .inr (4, [.ref qs, .ref qr, .ref qm, .ref qw, .ref qt, .int (zi we)])), (qs, aI cI 10 sf)]) [0, 1] rfl
  have hKc : va_K (dC, dI) vwCl [(cI, .int)] s := hK
  refine vp_callSi (va_Run.run (va_runV (As := [.int (zi sl)]) (rest := []) ⟨hx, hb, hml, hown, hts⟩ hh4 (cwV 1 hts gX4_between_X4_dateIn rfl rfl rfl (by decide +kernel) ⟨Nat.le_of_ble_eq_true rfl, Nat.le_of_ble_eq_true rfl⟩) ⟨zPr.blind _ _ _ _, va_recv hKc hPc (ci := 4) (q0 := 0) rfl rfl, fun U hU hW => ⟨rfl, by rw [hU]; exact hPc, va_K.moved hW.alike hKc⟩⟩ rfl rfl hl.1 rfl (lv_room (Nat.le_of_ble_eq_true rfl)) dX4_between_14 ⟨Nat.le_of_ble_eq_true rfl, Nat.le_of_ble_eq_true rfl⟩)) (fun r4 (hr4 : r4 = zi (sf sl.toNat)) => ?_)
  subst hr4
  refine zw_top (fun x5 ex5 => ?_)
  refine lv_istore (lv' := [(4, .int (zi x5)), (0, .ref h0), (1, .int (zi sl)), (2, .int (zi ot)), (3, .int (zi un))]) hx hb dX4_between_17 hl (by decide) rfl (fun ls hl => ?_)
  refine lv_aload_n hx hb dX4_between_19 rfl (lv_at hl 1 rfl) ?_
  refine lv_iload_n hx hb dX4_between_20 rfl (lv_at hl 3 rfl) ?_
  have hh6 := c_X4_dateIn l dC dI cI h0 qs qr qm qw qt we sf ot (by omega) (by omega)
  have hPc := hP.sub (ws' := [(h0, .inr (4, [.ref qs, .ref qr, .ref qm, .ref qw, .ref qt, .int (zi we)])), (qs, aI cI 10 sf)]) [0, 1] rfl
  have hKc : va_K (dC, dI) vwCl [(cI, .int)] s := hK
  refine vp_callSi (va_Run.run (va_runV (As := [.int (zi ot)]) (rest := []) ⟨hx, hb, hml, hown, hts⟩ hh6 (cwV 1 hts gX4_between_X4_dateIn rfl rfl rfl (by decide +kernel) ⟨Nat.le_of_ble_eq_true rfl, Nat.le_of_ble_eq_true rfl⟩) ⟨zPr.blind _ _ _ _, va_recv hKc hPc (ci := 4) (q0 := 0) rfl rfl, fun U hU hW => ⟨rfl, by rw [hU]; exact hPc, va_K.moved hW.alike hKc⟩⟩ rfl rfl hl.1 rfl (lv_room (Nat.le_of_ble_eq_true rfl)) dX4_between_21 ⟨Nat.le_of_ble_eq_true rfl, Nat.le_of_ble_eq_true rfl⟩)) (fun r6 (hr6 : r6 = zi (sf ot.toNat)) => ?_)
  subst hr6
  refine zw_top (fun x7 ex7 => ?_)
  refine lv_istore (lv' := [(5, .int (zi x7)), (4, .int (zi x5)), (0, .ref h0), (1, .int (zi sl)), (2, .int (zi ot)), (3, .int (zi un))]) hx hb dX4_between_24 hl (by decide) rfl (fun ls hl => ?_)
  refine lv_iload hx hb dX4_between_26 (lv_at hl 0 rfl) ?_
  refine lv_iload hx hb dX4_between_28 (lv_at hl 1 rfl) ?_
  refine zw_icmp_ge (tgt := 45) hx hb dX4_between_30 (by decide) ⟨by omega, by omega⟩ ⟨by omega, by omega⟩ (fun h8 => ?_) (fun h8 => ?_)
  · skip
    refine lv_iload hx hb dX4_between_45 (lv_at hl 1 rfl) ?_
    refine lv_iload hx hb dX4_between_47 (lv_at hl 0 rfl) ?_
    refine lv_iload_n hx hb dX4_between_49 rfl (lv_at hl 5 rfl) ?_
    have hh9 := c_X4_wholeUnits l x5 x7 un (by omega) (by omega)
    refine vp_callSi (va_Run.run (va_runS (As := [.int (zi x5), .int (zi x7), .int (zi un)]) (rest := []) ⟨hx, hb, hml, hown, hts⟩ hh9 (va_cwS 3 hts gX4_between_X4_wholeUnits rfl rfl rfl (by decide +kernel) ⟨Nat.le_of_ble_eq_true rfl, Nat.le_of_ble_eq_true rfl⟩) ⟨fun a U g mk q => q, fun U hU hW => ⟨rfl, trivial⟩⟩ rfl rfl hl.1 rfl (lv_room (Nat.le_of_ble_eq_true rfl)) dX4_between_50 ⟨Nat.zero_le _, Nat.zero_le _⟩)) (fun r9 (hr9 : r9 = zi (f_X4_wholeUnits x5 x7 un)) => ?_)
    subst hr9
    have hf9 := b_X4_wholeUnits x5 x7 un (by omega) (by omega)
    subst ex5 ex7
    exact W.iret (v := zi (f_X4_wholeUnits (sf sl.toNat) (sf ot.toNat) un)) hx hb hr (fun t ht hW => ⟨zi (f_X4_wholeUnits (sf sl.toNat) (sf ot.toNat) un), rfl, by rw [f_X4_between, if_neg (Int.not_lt.mpr h8)], ht⟩) (fun q h => by cases h) dX4_between_53
  · skip
    refine lv_iload hx hb dX4_between_33 (lv_at hl 0 rfl) ?_
    refine lv_iload hx hb dX4_between_35 (lv_at hl 1 rfl) ?_
    refine lv_iload_n hx hb dX4_between_37 rfl (lv_at hl 5 rfl) ?_
    have hh10 := c_X4_wholeUnits l x7 x5 un (by omega) (by omega)
    refine vp_callSi (va_Run.run (va_runS (As := [.int (zi x7), .int (zi x5), .int (zi un)]) (rest := []) ⟨hx, hb, hml, hown, hts⟩ hh10 (va_cwS 3 hts gX4_between_X4_wholeUnits rfl rfl rfl (by decide +kernel) ⟨Nat.le_of_ble_eq_true rfl, Nat.le_of_ble_eq_true rfl⟩) ⟨fun a U g mk q => q, fun U hU hW => ⟨rfl, trivial⟩⟩ rfl rfl hl.1 rfl (lv_room (Nat.le_of_ble_eq_true rfl)) dX4_between_38 ⟨Nat.zero_le _, Nat.zero_le _⟩)) (fun r10 (hr10 : r10 = zi (f_X4_wholeUnits x7 x5 un)) => ?_)
    subst hr10
    have hf10 := b_X4_wholeUnits x7 x5 un (by omega) (by omega)
    refine zw_ineg hx hb dX4_between_41 ?_
    refine lv_goto (tgt := 53) hx hb dX4_between_42 (by decide) ?_
    subst ex5 ex7
    exact W.iret (v := zi (-(f_X4_wholeUnits (sf ot.toNat) (sf sl.toNat) un))) hx hb hr (fun t ht hW => ⟨zi (-(f_X4_wholeUnits (sf ot.toNat) (sf sl.toNat) un)), rfl, by rw [f_X4_between, if_pos h8], ht⟩) (fun q h => by cases h) dX4_between_53

set_option maxHeartbeats 4000000 in
set_option maxRecDepth 100000 in
theorem t_X4_copy_1 (l : Launch) (hst : l.stackTraces = false) (h0 : Nat) (sl ot : Int) (hp0 : -2147483648 ≤ sl ∧ sl ≤ 2147483647) (hp1 : sl < 0 ∨ 9 < sl) : vx_Met l yX4_copy wsX4_copy ({ frames := 7, cells := 1, slots := 6, locals := 110 }) (zP [.ref h0, .int (zi sl), .int (zi ot)]) zNo (zX "java/lang/IndexOutOfBoundsException") 1 6 zN := by
  refine vx_ofW (cc := cX4_copy) (maxL := 3) (ret := (some .int)) (by decide) rfl ?_
  intro p e s m args below meth c s₁ B hml hno hv
  obtain ⟨rfl, hE⟩ := hv
  have hx := B.exec
  have hb := B.bytes
  have hr := B.returns
  have hts := atoms_spec (ws := wsX4_copy) B.pre
  have hown : s.vm.findClass RX4 = some m.cls := findClass_of_methodNamed B.named
  have hlocks := B.notSynchronized
  have hl := lv_entry ([.ref h0, .int (zi sl), .int (zi ot)]) (n := 3) (Nat.le_of_ble_eq_true rfl)
  rw [lg_entry_eq]
  generalize (lg_sl ([.ref h0, .int (zi sl), .int (zi ot)]) ++ List.replicate (3 - (lg_sl ([.ref h0, .int (zi sl), .int (zi ot)])).length) Slot.unset).toArray = ls at hl ⊢
  have hl : lv_has ls 3 [(0, .ref h0), (1, .int (zi sl)), (2, .int (zi ot))] := hl
  refine lv_iload_n hx hb dX4_copy_0 rfl (lv_at hl 1 rfl) ?_
  have hh1 := t_X4_needSlot l hst sl (by omega) (by omega)
  exact zt_pass (vx_runS (As := [.int (zi sl)]) (rest := []) ⟨hx, hb, hml, hown, hts⟩ hh1 (va_cwS 1 hts gX4_copy_X4_needSlot rfl rfl rfl (by decide +kernel) ⟨Nat.le_of_ble_eq_true rfl, Nat.le_of_ble_eq_true rfl⟩) ⟨zP.blind _, fun U hU hW => ⟨rfl, hE.call va_S.rf (fun q h => by rw [hU] at h; exact h) hU hW⟩⟩ rfl rfl hl.1 rfl (lv_room (Nat.le_of_ble_eq_true rfl)) dX4_copy_1 ⟨Nat.le_of_ble_eq_true rfl, Nat.le_of_ble_eq_true rfl⟩) hno hlocks

set_option maxHeartbeats 4000000 in
set_option maxRecDepth 100000 in
theorem t_X4_copy_1b (l : Launch) (hst : l.stackTraces = false) (h0 : Nat) (sl ot : Int) (hp0 : 0 ≤ sl ∧ sl ≤ 9) (hp1 : -2147483648 ≤ ot ∧ ot ≤ 2147483647) (hp2 : ot < 0 ∨ 9 < ot) : vx_Met l yX4_copy wsX4_copy ({ frames := 7, cells := 1, slots := 6, locals := 110 }) (zP [.ref h0, .int (zi sl), .int (zi ot)]) zNo (zX "java/lang/IndexOutOfBoundsException") 1 6 zN := by
  refine vx_ofW (cc := cX4_copy) (maxL := 3) (ret := (some .int)) (by decide) rfl ?_
  intro p e s m args below meth c s₁ B hml hno hv
  obtain ⟨rfl, hE⟩ := hv
  have hx := B.exec
  have hb := B.bytes
  have hr := B.returns
  have hts := atoms_spec (ws := wsX4_copy) B.pre
  have hown : s.vm.findClass RX4 = some m.cls := findClass_of_methodNamed B.named
  have hlocks := B.notSynchronized
  have hl := lv_entry ([.ref h0, .int (zi sl), .int (zi ot)]) (n := 3) (Nat.le_of_ble_eq_true rfl)
  rw [lg_entry_eq]
  generalize (lg_sl ([.ref h0, .int (zi sl), .int (zi ot)]) ++ List.replicate (3 - (lg_sl ([.ref h0, .int (zi sl), .int (zi ot)])).length) Slot.unset).toArray = ls at hl ⊢
  have hl : lv_has ls 3 [(0, .ref h0), (1, .int (zi sl)), (2, .int (zi ot))] := hl
  refine lv_iload_n hx hb dX4_copy_0 rfl (lv_at hl 1 rfl) ?_
  have hh1 := c_X4_needSlot l sl (by omega)
  refine va_csv (va_Run.run (va_runS (As := [.int (zi sl)]) (rest := []) ⟨hx, hb, hml, hown, hts⟩ hh1 (va_cwS 1 hts gX4_copy_X4_needSlot rfl rfl rfl (by decide +kernel) ⟨Nat.le_of_ble_eq_true rfl, Nat.le_of_ble_eq_true rfl⟩) ⟨fun a U g mk q => q, fun U hU hW => ⟨rfl, trivial⟩⟩ rfl rfl hl.1 rfl (lv_room (Nat.le_of_ble_eq_true rfl)) dX4_copy_1 ⟨Nat.le_of_ble_eq_true rfl, Nat.le_of_ble_eq_true rfl⟩)) (fun _ => ?_)
  refine lv_iload_n hx hb dX4_copy_4 rfl (lv_at hl 2 rfl) ?_
  have hh2 := t_X4_needSlot l hst ot (by omega) (by omega)
  exact zt_pass (vx_runS (As := [.int (zi ot)]) (rest := []) ⟨hx, hb, hml, hown, hts⟩ hh2 (va_cwS 1 hts gX4_copy_X4_needSlot rfl rfl rfl (by decide +kernel) ⟨Nat.le_of_ble_eq_true rfl, Nat.le_of_ble_eq_true rfl⟩) ⟨zP.blind _, fun U hU hW => ⟨rfl, hE.call va_S.rf (fun q h => by rw [hU] at h; exact h) hU hW⟩⟩ rfl rfl hl.1 rfl (lv_room (Nat.le_of_ble_eq_true rfl)) dX4_copy_5 ⟨Nat.le_of_ble_eq_true rfl, Nat.le_of_ble_eq_true rfl⟩) hno hlocks

set_option maxHeartbeats 4000000 in
set_option maxRecDepth 100000 in
theorem t_X4_copy_2 (l : Launch) (hst : l.stackTraces = false) (dC : Nat → ClassId) (dI : Nat → Nat → Nat) (cI : ClassId) (h0 qs qr qm qw qt : Nat) (we : Int) (sf : Nat → Int) (sl ot : Int) (hp0 : 0 ≤ sl ∧ sl ≤ 9) (hp1 : 0 ≤ ot ∧ ot ≤ 9) (hp2 : sf sl.toNat = -1) : vx_Met l yX4_copy wsX4_copy ({ frames := 7, cells := 1, slots := 6, locals := 112 }) (zPt (dC, dI) [(cI, .int)] [.ref h0, .int (zi sl), .int (zi ot)] [(h0, .inr (4, [.ref qs, .ref qr, .ref qm, .ref qw, .ref qt, .int (zi we)])), (qs, aI cI 10 sf)]) zNo (zX "java/lang/IllegalStateException") 1 6 zN := by
  refine vx_ofW (cc := cX4_copy) (maxL := 3) (ret := (some .int)) (by decide) rfl ?_
  intro p e s m args below meth c s₁ B hml hno hv
  obtain ⟨rfl, hE, hP, hK⟩ := hv
  have hx := B.exec
  have hb := B.bytes
  have hr := B.returns
  have hts := atoms_spec (ws := wsX4_copy) B.pre
  have hown : s.vm.findClass RX4 = some m.cls := findClass_of_methodNamed B.named
  have hlocks := B.notSynchronized
  have hl := lv_entry ([.ref h0, .int (zi sl), .int (zi ot)]) (n := 3) (Nat.le_of_ble_eq_true rfl)
  rw [lg_entry_eq]
  generalize (lg_sl ([.ref h0, .int (zi sl), .int (zi ot)]) ++ List.replicate (3 - (lg_sl ([.ref h0, .int (zi sl), .int (zi ot)])).length) Slot.unset).toArray = ls at hl ⊢
  have hl : lv_has ls 3 [(0, .ref h0), (1, .int (zi sl)), (2, .int (zi ot))] := hl
  refine lv_iload_n hx hb dX4_copy_0 rfl (lv_at hl 1 rfl) ?_
  have hh1 := c_X4_needSlot l sl (by omega)
  refine va_csv (va_Run.run (va_runS (As := [.int (zi sl)]) (rest := []) ⟨hx, hb, hml, hown, hts⟩ hh1 (va_cwS 1 hts gX4_copy_X4_needSlot rfl rfl rfl (by decide +kernel) ⟨Nat.le_of_ble_eq_true rfl, Nat.le_of_ble_eq_true rfl⟩) ⟨fun a U g mk q => q, fun U hU hW => ⟨rfl, trivial⟩⟩ rfl rfl hl.1 rfl (lv_room (Nat.le_of_ble_eq_true rfl)) dX4_copy_1 ⟨Nat.le_of_ble_eq_true rfl, Nat.le_of_ble_eq_true rfl⟩)) (fun _ => ?_)
  refine lv_iload_n hx hb dX4_copy_4 rfl (lv_at hl 2 rfl) ?_
  have hh2 := c_X4_needSlot l ot (by omega)
  refine va_csv (va_Run.run (va_runS (As := [.int (zi ot)]) (rest := []) ⟨hx, hb, hml, hown, hts⟩ hh2 (va_cwS 1 hts gX4_copy_X4_needSlot rfl rfl rfl (by decide +kernel) ⟨Nat.le_of_ble_eq_true rfl, Nat.le_of_ble_eq_true rfl⟩) ⟨fun a U g mk q => q, fun U hU hW => ⟨rfl, trivial⟩⟩ rfl rfl hl.1 rfl (lv_room (Nat.le_of_ble_eq_true rfl)) dX4_copy_5 ⟨Nat.le_of_ble_eq_true rfl, Nat.le_of_ble_eq_true rfl⟩)) (fun _ => ?_)
  refine lv_aload_n hx hb dX4_copy_8 rfl (lv_at hl 0 rfl) ?_
  refine lv_iload_n hx hb dX4_copy_9 rfl (lv_at hl 2 rfl) ?_
  refine lv_aload_n hx hb dX4_copy_10 rfl (lv_at hl 0 rfl) ?_
  refine lv_iload_n hx hb dX4_copy_11 rfl (lv_at hl 1 rfl) ?_
  have hh3 := t_X4_dateIn l hst dC dI cI h0 qs qr qm qw qt we sf sl (by omega) (by omega)
  have hPc := hP.sub (ws' := [(h0, .inr (4, [.ref qs, .ref qr, .ref qm, .ref qw, .ref qt, .int (zi we)])), (qs, aI cI 10 sf)]) [0, 1] rfl
  have hKc : va_K (dC, dI) vwCl [(cI, .int)] s := hK
  exact zt_pass (vx_runV (As := [.int (zi sl)]) (rest := [.int (zi ot), .ref h0]) ⟨hx, hb, hml, hown, hts⟩ hh3 (cwV 1 hts gX4_copy_X4_dateIn rfl rfl rfl (by decide +kernel) ⟨Nat.le_of_ble_eq_true rfl, Nat.le_of_ble_eq_true rfl⟩) ⟨zPt.blind _ _ _ _, va_recv hKc hPc (ci := 4) (q0 := 0) rfl rfl, fun U hU hW => ⟨rfl, hE.call va_S.rf (fun q h => by rw [hU] at h; exact h) hU hW, by rw [hU]; exact hPc, va_K.moved hW.alike hKc⟩⟩ rfl rfl hl.1 rfl (lv_room (Nat.le_of_ble_eq_true rfl)) dX4_copy_12 ⟨Nat.le_of_ble_eq_true rfl, Nat.le_of_ble_eq_true rfl⟩) hno hlocks

set_option maxHeartbeats 4000000 in
set_option maxRecDepth 100000 in
theorem c_X4_copy (l : Launch)  (dC : Nat → ClassId) (dI : Nat → Nat → Nat) (cI : ClassId) (h0 qs qr qm qw qt : Nat) (we : Int) (sf : Nat → Int) (sl ot : Int) (sz : Nat) (hp0 : 0 ≤ sl ∧ sl ≤ 9) (hp1 : 0 ≤ ot ∧ ot ≤ 9) (hp2 : 0 ≤ sf sl.toNat ∧ sf sl.toNat ≤ 3652058) : Met l yX4_copy wsX4_copy ({ frames := 1, cells := 0, slots := 0, locals := 22 }) (zPw (dC, dI) [(cI, .int)] sz [.ref h0, .int (zi sl), .int (zi ot)] [(h0, .inr (4, [.ref qs, .ref qr, .ref qm, .ref qw, .ref qt, .int (zi we)])), (qs, aI cI 10 sf)]) (va_Qi (fun (r : Int32) (_ : Unit) => r = zi (sf sl.toNat)) (zB (dC, dI) [(cI, .int)] (va_A [(h0, .inr (4, [.ref qs, .ref qr, .ref qm, .ref qw, .ref qt, .int (zi we)])), (qs, aI cI 10 sf)] sz) [(h0, .inr (4, [.ref qs, .ref qr, .ref qm, .ref qw, .ref qt, .int (zi we)])), (qs, aI cI 10 (zup sf ot.toNat (sf sl.toNat)))]) (va_A [(h0, .inr (4, [.ref qs, .ref qr, .ref qm, .ref qw, .ref qt, .int (zi we)])), (qs, aI cI 10 sf)] sz)) 0 0 (va_A [(h0, .inr (4, [.ref qs, .ref qr, .ref qm, .ref qw, .ref qt, .int (zi we)])), (qs, aI cI 10 sf)] sz) := by
  refine Met.ofW (cc := cX4_copy) (maxL := 3) (ret := (some .int)) (by decide) rfl ?_
  intro p e s m args below meth c s₁ B hml hv
  obtain ⟨rfl, hsz, hP, hK, hD0⟩ := hv
  have hx := B.exec
  have hb := B.bytes
  have hr := B.returns
  have hts := atoms_spec (ws := wsX4_copy) B.pre
  have hown : s.vm.findClass RX4 = some m.cls := findClass_of_methodNamed B.named
  have hlocks := B.notSynchronized
  subst hsz
  have hD := hD0.self (sz := s.heap.size)
  generalize hAe : va_A [(h0, .inr (4, [.ref qs, .ref qr, .ref qm, .ref qw, .ref qt, .int (zi we)])), (qs, aI cI 10 sf)] s.heap.size = A at hD ⊢
  have hA : ∀ q : Nat, s.heap.size ≤ q → A q := fun q h => by rw [← hAe]; exact Or.inr h
  have hS : va_S A s.heap s.heap [] := va_S.rf
  have hP : va_P (dC, dI) vwCl [(h0, .inr (4, [.ref qs, .ref qr, .ref qm, .ref qw, .ref qt, .int (zi we)])), (qs, aI cI 10 sf)] s.heap := hP
  have hl := lv_entry ([.ref h0, .int (zi sl), .int (zi ot)]) (n := 3) (Nat.le_of_ble_eq_true rfl)
  rw [lg_entry_eq]
  generalize (lg_sl ([.ref h0, .int (zi sl), .int (zi ot)]) ++ List.replicate (3 - (lg_sl ([.ref h0, .int (zi sl), .int (zi ot)])).length) Slot.unset).toArray = ls at hl ⊢
  have hl : lv_has ls 3 [(0, .ref h0), (1, .int (zi sl)), (2, .int (zi ot))] := hl
  refine lv_iload_n hx hb dX4_copy_0 rfl (lv_at hl 1 rfl) ?_
  have hh1 := c_X4_needSlot l sl (by omega)
  refine va_csv (va_Run.run (va_runS (As := [.int (zi sl)]) (rest := []) ⟨hx, hb, hml, hown, hts⟩ hh1 (va_cwS 1 hts gX4_copy_X4_needSlot rfl rfl rfl (by decide +kernel) ⟨Nat.le_of_ble_eq_true rfl, Nat.le_of_ble_eq_true rfl⟩) ⟨fun a U g mk q => q, fun U hU hW => ⟨rfl, trivial⟩⟩ rfl rfl hl.1 rfl (lv_room (Nat.le_of_ble_eq_true rfl)) dX4_copy_1 ⟨Nat.le_of_ble_eq_true rfl, Nat.le_of_ble_eq_true rfl⟩)) (fun _ => ?_)
  refine lv_iload_n hx hb dX4_copy_4 rfl (lv_at hl 2 rfl) ?_
  have hh2 := c_X4_needSlot l ot (by omega)
  refine va_csv (va_Run.run (va_runS (As := [.int (zi ot)]) (rest := []) ⟨hx, hb, hml, hown, hts⟩ hh2 (va_cwS 1 hts gX4_copy_X4_needSlot rfl rfl rfl (by decide +kernel) ⟨Nat.le_of_ble_eq_true rfl, Nat.le_of_ble_eq_true rfl⟩) ⟨fun a U g mk q => q, fun U hU hW => ⟨rfl, trivial⟩⟩ rfl rfl hl.1 rfl (lv_room (Nat.le_of_ble_eq_true rfl)) dX4_copy_5 ⟨Nat.le_of_ble_eq_true rfl, Nat.le_of_ble_eq_true rfl⟩)) (fun _ => ?_)
  refine lv_aload_n hx hb dX4_copy_8 rfl (lv_at hl 0 rfl) ?_
  refine lv_iload_n hx hb dX4_copy_9 rfl (lv_at hl 2 rfl) ?_
  refine lv_aload_n hx hb dX4_copy_10 rfl (lv_at hl 0 rfl) ?_
  refine lv_iload_n hx hb dX4_copy_11 rfl (lv_at hl 1 rfl) ?_
  have hh3 := c_X4_dateIn l dC dI cI h0 qs qr qm qw qt we sf sl (by omega) (by omega)
  have hPc := hP.sub (ws' := [(h0, .inr (4, [.ref qs, .ref qr, .ref qm, .ref qw, .ref qt, .int (zi we)])), (qs, aI cI 10 sf)]) [0, 1] rfl
  have hKc : va_K (dC, dI) vwCl [(cI, .int)] s := hK
  refine vp_callSi (va_Run.run (va_runV (As := [.int (zi sl)]) (rest := [.int (zi ot), .ref h0]) ⟨hx, hb, hml, hown, hts⟩ hh3 (cwV 1 hts gX4_copy_X4_dateIn rfl rfl rfl (by decide +kernel) ⟨Nat.le_of_ble_eq_true rfl, Nat.le_of_ble_eq_true rfl⟩) ⟨zPr.blind _ _ _ _, va_recv hKc hPc (ci := 4) (q0 := 0) rfl rfl, fun U hU hW => ⟨rfl, by rw [hU]; exact hPc, va_K.moved hW.alike hKc⟩⟩ rfl rfl hl.1 rfl (lv_room (Nat.le_of_ble_eq_true rfl)) dX4_copy_12 ⟨Nat.le_of_ble_eq_true rfl, Nat.le_of_ble_eq_true rfl⟩)) (fun r3 (hr3 : r3 = zi (sf sl.toNat)) => ?_)
  subst hr3
  have hh4 := c_X4_keep l dC dI cI h0 qs qr qm qw qt we sf ot (sf sl.toNat) s.heap.size (by omega) (by omega) (by omega)
  have hPc := hP.sub (ws' := [(h0, .inr (4, [.ref qs, .ref qr, .ref qm, .ref qw, .ref qt, .int (zi we)])), (qs, aI cI 10 sf)]) [0, 1] rfl
  have hKc : va_K (dC, dI) vwCl [(cI, .int)] s := hK
  have hDc := hD.sub (ws' := [(h0, .inr (4, [.ref qs, .ref qr, .ref qm, .ref qw, .ref qt, .int (zi we)])), (qs, aI cI 10 sf)]) [0, 1] (by decide) rfl
  have hFc := va_free (wc := [(h0, .inr (4, [.ref qs, .ref qr, .ref qm, .ref qw, .ref qt, .int (zi we)])), (qs, aI cI 10 sf)]) hD hS hA [0, 1] rfl
  refine va_calli (va_runV (As := [.int (zi ot), .int (zi (sf sl.toNat))]) (rest := []) ⟨hx, hb, hml, hown, hts⟩ hh4 (cwV 2 hts gX4_copy_X4_keep rfl rfl rfl (by decide +kernel) ⟨Nat.le_of_ble_eq_true rfl, Nat.le_of_ble_eq_true rfl⟩) ⟨zPw.blind _ _ _ _ _, va_recv hKc hPc (ci := 4) (q0 := 0) rfl rfl, fun U hU hW => ⟨rfl, by rw [hU], by rw [hU]; exact hPc, va_K.moved hW.alike hKc, hDc.weaken (fun _ _ _ _ => trivial)⟩⟩ rfl rfl hl.1 rfl (lv_room (Nat.le_of_ble_eq_true rfl)) dX4_copy_15 ⟨Nat.le_of_ble_eq_true rfl, Nat.le_of_ble_eq_true rfl⟩) hS (fun q _ h => hFc q h) hFc (fun r4 u t H1 locs ht hvm hw hB hz1 hk1 hS => ?_)
  obtain ⟨hP1, hK1, hD1⟩ := hB
  rw [ht] at hP1
  obtain ⟨hP, hD⟩ := va_join (wr := []) (w1 := [(h0, .inr (4, [.ref qs, .ref qr, .ref qm, .ref qw, .ref qt, .int (zi we)])), (qs, aI cI 10 (zup sf ot.toNat (sf sl.toNat)))]) hP hD [0, 1] [] rfl rfl (by decide) (by decide) hk1 hFc hP1 hD1
  generalize H1 = H at hP hS ⊢
  obtain rfl : r4 = zi (sf sl.toNat) := hw
  have hP : va_P (dC, dI) vwCl [(h0, .inr (4, [.ref qs, .ref qr, .ref qm, .ref qw, .ref qt, .int (zi we)])), (qs, aI cI 10 (zup sf ot.toNat (sf sl.toNat)))] H := hP
  have hD : va_D A [(h0, .inr (4, [.ref qs, .ref qr, .ref qm, .ref qw, .ref qt, .int (zi we)])), (qs, aI cI 10 (zup sf ot.toNat (sf sl.toNat)))] := hD
  have hP9 := hP.sub (ws' := [(h0, .inr (4, [.ref qs, .ref qr, .ref qm, .ref qw, .ref qt, .int (zi we)])), (qs, aI cI 10 (zup sf ot.toNat (sf sl.toNat)))]) [0, 1] rfl
  have hD9 := hD.sub (ws' := [(h0, .inr (4, [.ref qs, .ref qr, .ref qm, .ref qw, .ref qt, .int (zi we)])), (qs, aI cI 10 (zup sf ot.toNat (sf sl.toNat)))]) [0, 1] (by decide) rfl
  exact W.iret (v := zi (sf sl.toNat)) hx hb hr (fun t ht hW => ⟨⟨zi (sf sl.toNat), (), rfl, rfl, by rw [ht]; exact hP9, va_K.moved hW.alike hK, hD9⟩, hS.F ht⟩) hS.2.2 dX4_copy_18
