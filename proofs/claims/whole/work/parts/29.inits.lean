/-! THE CONSTRUCTORS -/
set_option maxHeartbeats 4000000 in
set_option maxRecDepth 100000 in
theorem c_X1_init (l : Launch)  (dC : Nat → ClassId) (dI : Nat → Nat → Nat) (cI : ClassId) (h0 : Nat) (sz : Nat)  : Met l yX1_init wsX1_init ({ frames := 1, cells := 1, slots := 20, locals := 24 }) (zPw (dC, dI) [(cI, .int)] sz [.ref h0] [(h0, .inr (1, [.null, .int (zi 0)]))]) (va_Qv (fun (u : (Nat)) => True) (fun (u : (Nat)) => zB (dC, dI) [(cI, .int)] (va_A [(h0, .inr (1, [.null, .int (zi 0)]))] sz) [(h0, .inr (1, [.ref u, .int (zi 0)])), (u, aI cI 20 (fun _ => 0))] ()) (va_A [(h0, .inr (1, [.null, .int (zi 0)]))] sz)) 1 20 (va_A [(h0, .inr (1, [.null, .int (zi 0)]))] sz) := by
  refine Met.ofW (cc := cX1_init) (maxL := 1) (ret := none) (by decide) rfl ?_
  intro p e s m args below meth c s₁ B hml hv
  obtain ⟨rfl, hsz, hP, hK, hD0⟩ := hv
  have hini9 : meth.name = "<init>" := (name_of_methodNamed B.named B.method).1
  have hx := B.exec
  have hb := B.bytes
  have hr := B.returns
  have hts := atoms_spec (ws := wsX1_init) B.pre
  have hown : s.vm.findClass RX1 = some m.cls := findClass_of_methodNamed B.named
  have hlocks := B.notSynchronized
  subst hsz
  have hD := hD0.self (sz := s.heap.size)
  generalize hAe : va_A [(h0, .inr (1, [.null, .int (zi 0)]))] s.heap.size = A at hD ⊢
  have hA : ∀ q : Nat, s.heap.size ≤ q → A q := fun q h => by rw [← hAe]; exact Or.inr h
  have hS : va_S A s.heap s.heap [] := va_S.rf
  have hP : va_P (dC, dI) vwCl [(h0, .inr (1, [.null, .int (zi 0)]))] s.heap := hP
  have hl := lv_entry ([.ref h0]) (n := 1) (Nat.le_of_ble_eq_true rfl)
  rw [lg_entry_eq]
  generalize (lg_sl ([.ref h0]) ++ List.replicate (1 - (lg_sl ([.ref h0])).length) Slot.unset).toArray = ls at hl ⊢
  have hl : lv_has ls 1 [(0, .ref h0)] := hl
  refine lv_aload_n hx hb dX1_init_0 rfl (lv_at hl 0 rfl) ?_
  refine zw_objInit hx hb hown (hts (.methodLink RX1 3 objectInit) (by decide +kernel)) (hts (.instanceMethod objectInit) (by decide +kernel)) (hts (.code objectInit ⟨#[0xb1]⟩ 1 none) (by decide +kernel)) (hl.1.trans hml.symm) dX1_init_1 (Nat.le_of_ble_eq_true rfl) (Nat.le_of_ble_eq_true rfl) ?_
  refine lv_aload_n hx hb dX1_init_4 rfl (lv_at hl 0 rfl) ?_
  refine zw_bipush hx hb dX1_init_5 (by decide) ?_
  refine zw_newI (N9 := 20) hx hb (hts (.arrayClass .int) (by decide +kernel)) hK hP hD hS hA rfl (Nat.le_of_ble_eq_true rfl) (Nat.le_of_ble_eq_true rfl) (Nat.le_of_ble_eq_true rfl) dX1_init_7 (fun q1 cA1 H hKn hP hD hS => ?_)
  obtain rfl : cI = cA1 := zK_same hKn 0 1 rfl rfl
  have hP : va_P (dC, dI) vwCl [(h0, .inr (1, [.null, .int (zi 0)])), (q1, aI cI 20 (fun _ => 0))] H := hP
  have hD : va_D A [(h0, .inr (1, [.null, .int (zi 0)])), (q1, aI cI 20 (fun _ => 0))] := hD
  refine va_putF (D := (dC, dI)) (ci := 1) (v := .ref q1) (ty := (.array .int)) (C := RX1) (T := TX1) (N := 2) hx hb hts (by decide +kernel) tyX1 tyX1_ok nmX1 hown hK hP hD hS 0 rfl rfl 0 (by decide) (hts (.fieldLink RX1 11 "CivilDays$Line" "characters" "[I") (by decide +kernel)) (fun _ h9 => h9) rfl hini9 rfl (by decide +kernel) rfl rfl (Nat.le_of_ble_eq_true rfl) dX1_init_9 (fun H locs hP hD hS => ?_)
  have hP : va_P (dC, dI) vwCl [(h0, .inr (1, [.ref q1, .int (zi 0)])), (q1, aI cI 20 (fun _ => 0))] H := hP
  have hD : va_D A [(h0, .inr (1, [.ref q1, .int (zi 0)])), (q1, aI cI 20 (fun _ => 0))] := hD
  refine lv_aload_n hx hb dX1_init_12 rfl (lv_at hl 0 rfl) ?_
  refine zw_iconst hx hb dX1_init_13 ?_
  refine va_put (D := (dC, dI)) (ci := 1) (v := .int (zi 0)) (ty := .int) (C := RX1) (T := TX1) (N := 2) hx hb hts (by decide +kernel) tyX1 tyX1_ok nmX1 hown hK hP hD hS 0 rfl rfl 1 (by decide) (hts (.fieldLink RX1 15 "CivilDays$Line" "length" "I") (by decide +kernel)) (fun _ h9 => h9) rfl (by decide +kernel) rfl rfl (Nat.le_of_ble_eq_true rfl) dX1_init_14 (fun H locs hP hD hS => ?_)
  have hP : va_P (dC, dI) vwCl [(h0, .inr (1, [.ref q1, .int (zi 0)])), (q1, aI cI 20 (fun _ => 0))] H := hP
  have hD : va_D A [(h0, .inr (1, [.ref q1, .int (zi 0)])), (q1, aI cI 20 (fun _ => 0))] := hD
  have hP9 := hP.sub (ws' := [(h0, .inr (1, [.ref q1, .int (zi 0)])), (q1, aI cI 20 (fun _ => 0))]) [0, 1] rfl
  have hD9 := hD.sub (ws' := [(h0, .inr (1, [.ref q1, .int (zi 0)])), (q1, aI cI 20 (fun _ => 0))]) [0, 1] (by decide) rfl
  refine W.widen (k := 1) (n := 20) (Nat.le_of_ble_eq_true rfl) (Nat.le_of_ble_eq_true rfl) ?_
  exact W.vret hx hb hr (fun t ht hW => ⟨⟨q1, rfl, trivial, by rw [ht]; exact hP9, va_K.moved hW.alike hK, hD9⟩, hS.F ht⟩) hS.2.2 dX1_init_17

set_option maxHeartbeats 4000000 in
set_option maxRecDepth 100000 in
theorem c_X2_init (l : Launch)  (dC : Nat → ClassId) (dI : Nat → Nat → Nat) (cI : ClassId) (h0 : Nat) (sz : Nat)  : Met l yX2_init wsX2_init ({ frames := 1, cells := 1, slots := 366, locals := 24 }) (zPw (dC, dI) [(cI, .int)] sz [.ref h0] [(h0, .inr (2, [.null, .int (zi 0), .int (zi 0)]))]) (va_Qv (fun (u : (Nat)) => True) (fun (u : (Nat)) => zB (dC, dI) [(cI, .int)] (va_A [(h0, .inr (2, [.null, .int (zi 0), .int (zi 0)]))] sz) [(h0, .inr (2, [.ref u, .int (zi 0), .int (zi 0)])), (u, aI cI 366 (fun _ => 0))] ()) (va_A [(h0, .inr (2, [.null, .int (zi 0), .int (zi 0)]))] sz)) 1 366 (va_A [(h0, .inr (2, [.null, .int (zi 0), .int (zi 0)]))] sz) := by
  refine Met.ofW (cc := cX2_init) (maxL := 1) (ret := none) (by decide) rfl ?_
  intro p e s m args below meth c s₁ B hml hv
  obtain ⟨rfl, hsz, hP, hK, hD0⟩ := hv
  have hini9 : meth.name = "<init>" := (name_of_methodNamed B.named B.method).1
  have hx := B.exec
  have hb := B.bytes
  have hr := B.returns
  have hts := atoms_spec (ws := wsX2_init) B.pre
  have hown : s.vm.findClass RX2 = some m.cls := findClass_of_methodNamed B.named
  have hlocks := B.notSynchronized
  subst hsz
  have hD := hD0.self (sz := s.heap.size)
  generalize hAe : va_A [(h0, .inr (2, [.null, .int (zi 0), .int (zi 0)]))] s.heap.size = A at hD ⊢
  have hA : ∀ q : Nat, s.heap.size ≤ q → A q := fun q h => by rw [← hAe]; exact Or.inr h
  have hS : va_S A s.heap s.heap [] := va_S.rf
  have hP : va_P (dC, dI) vwCl [(h0, .inr (2, [.null, .int (zi 0), .int (zi 0)]))] s.heap := hP
  have hl := lv_entry ([.ref h0]) (n := 1) (Nat.le_of_ble_eq_true rfl)
  rw [lg_entry_eq]
  generalize (lg_sl ([.ref h0]) ++ List.replicate (1 - (lg_sl ([.ref h0])).length) Slot.unset).toArray = ls at hl ⊢
  have hl : lv_has ls 1 [(0, .ref h0)] := hl
  refine lv_aload_n hx hb dX2_init_0 rfl (lv_at hl 0 rfl) ?_
  refine zw_objInit hx hb hown (hts (.methodLink RX2 1 objectInit) (by decide +kernel)) (hts (.instanceMethod objectInit) (by decide +kernel)) (hts (.code objectInit ⟨#[0xb1]⟩ 1 none) (by decide +kernel)) (hl.1.trans hml.symm) dX2_init_1 (Nat.le_of_ble_eq_true rfl) (Nat.le_of_ble_eq_true rfl) ?_
  refine lv_aload_n hx hb dX2_init_4 rfl (lv_at hl 0 rfl) ?_
  refine zw_sipush hx hb dX2_init_5 (by decide) ?_
  refine zw_newI (N9 := 366) hx hb (hts (.arrayClass .int) (by decide +kernel)) hK hP hD hS hA rfl (Nat.le_of_ble_eq_true rfl) (Nat.le_of_ble_eq_true rfl) (Nat.le_of_ble_eq_true rfl) dX2_init_8 (fun q1 cA1 H hKn hP hD hS => ?_)
  obtain rfl : cI = cA1 := zK_same hKn 0 1 rfl rfl
  have hP : va_P (dC, dI) vwCl [(h0, .inr (2, [.null, .int (zi 0), .int (zi 0)])), (q1, aI cI 366 (fun _ => 0))] H := hP
  have hD : va_D A [(h0, .inr (2, [.null, .int (zi 0), .int (zi 0)])), (q1, aI cI 366 (fun _ => 0))] := hD
  refine va_putF (D := (dC, dI)) (ci := 2) (v := .ref q1) (ty := (.array .int)) (C := RX2) (T := TX2) (N := 3) hx hb hts (by decide +kernel) tyX2 tyX2_ok nmX2 hown hK hP hD hS 0 rfl rfl 0 (by decide) (hts (.fieldLink RX2 9 "CivilDays$MarkedYear" "marks" "[I") (by decide +kernel)) (fun _ h9 => h9) rfl hini9 rfl (by decide +kernel) rfl rfl (Nat.le_of_ble_eq_true rfl) dX2_init_10 (fun H locs hP hD hS => ?_)
  have hP : va_P (dC, dI) vwCl [(h0, .inr (2, [.ref q1, .int (zi 0), .int (zi 0)])), (q1, aI cI 366 (fun _ => 0))] H := hP
  have hD : va_D A [(h0, .inr (2, [.ref q1, .int (zi 0), .int (zi 0)])), (q1, aI cI 366 (fun _ => 0))] := hD
  refine lv_aload_n hx hb dX2_init_13 rfl (lv_at hl 0 rfl) ?_
  refine zw_iconst hx hb dX2_init_14 ?_
  refine va_put (D := (dC, dI)) (ci := 2) (v := .int (zi 0)) (ty := .int) (C := RX2) (T := TX2) (N := 3) hx hb hts (by decide +kernel) tyX2 tyX2_ok nmX2 hown hK hP hD hS 0 rfl rfl 1 (by decide) (hts (.fieldLink RX2 13 "CivilDays$MarkedYear" "first" "I") (by decide +kernel)) (fun _ h9 => h9) rfl (by decide +kernel) rfl rfl (Nat.le_of_ble_eq_true rfl) dX2_init_15 (fun H locs hP hD hS => ?_)
  have hP : va_P (dC, dI) vwCl [(h0, .inr (2, [.ref q1, .int (zi 0), .int (zi 0)])), (q1, aI cI 366 (fun _ => 0))] H := hP
  have hD : va_D A [(h0, .inr (2, [.ref q1, .int (zi 0), .int (zi 0)])), (q1, aI cI 366 (fun _ => 0))] := hD
  refine lv_aload_n hx hb dX2_init_18 rfl (lv_at hl 0 rfl) ?_
  refine zw_iconst hx hb dX2_init_19 ?_
  refine va_put (D := (dC, dI)) (ci := 2) (v := .int (zi 0)) (ty := .int) (C := RX2) (T := TX2) (N := 3) hx hb hts (by decide +kernel) tyX2 tyX2_ok nmX2 hown hK hP hD hS 0 rfl rfl 2 (by decide) (hts (.fieldLink RX2 17 "CivilDays$MarkedYear" "length" "I") (by decide +kernel)) (fun _ h9 => h9) rfl (by decide +kernel) rfl rfl (Nat.le_of_ble_eq_true rfl) dX2_init_20 (fun H locs hP hD hS => ?_)
  have hP : va_P (dC, dI) vwCl [(h0, .inr (2, [.ref q1, .int (zi 0), .int (zi 0)])), (q1, aI cI 366 (fun _ => 0))] H := hP
  have hD : va_D A [(h0, .inr (2, [.ref q1, .int (zi 0), .int (zi 0)])), (q1, aI cI 366 (fun _ => 0))] := hD
  have hP9 := hP.sub (ws' := [(h0, .inr (2, [.ref q1, .int (zi 0), .int (zi 0)])), (q1, aI cI 366 (fun _ => 0))]) [0, 1] rfl
  have hD9 := hD.sub (ws' := [(h0, .inr (2, [.ref q1, .int (zi 0), .int (zi 0)])), (q1, aI cI 366 (fun _ => 0))]) [0, 1] (by decide) rfl
  refine W.widen (k := 1) (n := 366) (Nat.le_of_ble_eq_true rfl) (Nat.le_of_ble_eq_true rfl) ?_
  exact W.vret hx hb hr (fun t ht hW => ⟨⟨q1, rfl, trivial, by rw [ht]; exact hP9, va_K.moved hW.alike hK, hD9⟩, hS.F ht⟩) hS.2.2 dX2_init_23

set_option maxHeartbeats 4000000 in
set_option maxRecDepth 100000 in
theorem c_Jxa_init (l : Launch)  (dC : Nat → ClassId) (dI : Nat → Nat → Nat) (h0 : Nat) (sz : Nat)  : Met l yJxa1e45_init_da8c8 wsJxa1e45_init_da8c8 ({ frames := 1, cells := 0, slots := 0, locals := 24 }) (zPw (dC, dI) [] sz [.ref h0] [(h0, .inr (0, [.int (zi 0), .null, .int (zi 0)]))]) (va_Qv (fun (_ : Unit) => True) (zB (dC, dI) [] (va_A [(h0, .inr (0, [.int (zi 0), .null, .int (zi 0)]))] sz) [(h0, .inr (0, [.int (zi 0), .null, .int (zi 0)]))]) (va_A [(h0, .inr (0, [.int (zi 0), .null, .int (zi 0)]))] sz)) 0 0 (va_A [(h0, .inr (0, [.int (zi 0), .null, .int (zi 0)]))] sz) := by
  refine Met.ofW (cc := cJxa1e45_init_da8c8) (maxL := 1) (ret := none) (by decide) rfl ?_
  intro p e s m args below meth c s₁ B hml hv
  obtain ⟨rfl, hsz, hP, hK, hD0⟩ := hv
  have hini9 : meth.name = "<init>" := (name_of_methodNamed B.named B.method).1
  have hx := B.exec
  have hb := B.bytes
  have hr := B.returns
  have hts := atoms_spec (ws := wsJxa1e45_init_da8c8) B.pre
  have hown : s.vm.findClass RJxa1e45 = some m.cls := findClass_of_methodNamed B.named
  have hlocks := B.notSynchronized
  subst hsz
  have hD := hD0.self (sz := s.heap.size)
  generalize hAe : va_A [(h0, .inr (0, [.int (zi 0), .null, .int (zi 0)]))] s.heap.size = A at hD ⊢
  have hA : ∀ q : Nat, s.heap.size ≤ q → A q := fun q h => by rw [← hAe]; exact Or.inr h
  have hS : va_S A s.heap s.heap [] := va_S.rf
  have hP : va_P (dC, dI) vwCl [(h0, .inr (0, [.int (zi 0), .null, .int (zi 0)]))] s.heap := hP
  have hl := lv_entry ([.ref h0]) (n := 1) (Nat.le_of_ble_eq_true rfl)
  rw [lg_entry_eq]
  generalize (lg_sl ([.ref h0]) ++ List.replicate (1 - (lg_sl ([.ref h0])).length) Slot.unset).toArray = ls at hl ⊢
  have hl : lv_has ls 1 [(0, .ref h0)] := hl
  refine lv_aload_n hx hb dJxa1e45_init_da8c8_0 rfl (lv_at hl 0 rfl) ?_
  refine zw_objInit hx hb hown (hts (.methodLink RJxa1e45 1 objectInit) (by decide +kernel)) (hts (.instanceMethod objectInit) (by decide +kernel)) (hts (.code objectInit ⟨#[0xb1]⟩ 1 none) (by decide +kernel)) (hl.1.trans hml.symm) dJxa1e45_init_da8c8_1 (Nat.le_of_ble_eq_true rfl) (Nat.le_of_ble_eq_true rfl) ?_
  have hP9 := hP.sub (ws' := [(h0, .inr (0, [.int (zi 0), .null, .int (zi 0)]))]) [0] rfl
  have hD9 := hD.sub (ws' := [(h0, .inr (0, [.int (zi 0), .null, .int (zi 0)]))]) [0] (by decide) rfl
  exact W.vret hx hb hr (fun t ht hW => ⟨⟨(), rfl, trivial, by rw [ht]; exact hP9, va_K.moved hW.alike hK, hD9⟩, hS.F ht⟩) hS.2.2 dJxa1e45_init_da8c8_4

set_option maxHeartbeats 4000000 in
set_option maxRecDepth 100000 in
theorem c_Jxc_init (l : Launch)  (dC : Nat → ClassId) (dI : Nat → Nat → Nat) (h0 : Nat) (sz : Nat)  : Met l yJxc12de_init_da8c8 wsJxc12de_init_da8c8 ({ frames := 2, cells := 0, slots := 0, locals := 44 }) (zPw (dC, dI) [] sz [.ref h0] [(h0, .inr (0, [.int (zi 0), .null, .int (zi 0)]))]) (va_Qv (fun (_ : Unit) => True) (zB (dC, dI) [] (va_A [(h0, .inr (0, [.int (zi 0), .null, .int (zi 0)]))] sz) [(h0, .inr (0, [.int (zi 0), .null, .int (zi 0)]))]) (va_A [(h0, .inr (0, [.int (zi 0), .null, .int (zi 0)]))] sz)) 0 0 (va_A [(h0, .inr (0, [.int (zi 0), .null, .int (zi 0)]))] sz) := by
  refine Met.ofW (cc := cJxc12de_init_da8c8) (maxL := 1) (ret := none) (by decide) rfl ?_
  intro p e s m args below meth c s₁ B hml hv
  obtain ⟨rfl, hsz, hP, hK, hD0⟩ := hv
  have hini9 : meth.name = "<init>" := (name_of_methodNamed B.named B.method).1
  have hx := B.exec
  have hb := B.bytes
  have hr := B.returns
  have hts := atoms_spec (ws := wsJxc12de_init_da8c8) B.pre
  have hown : s.vm.findClass RJxc12de = some m.cls := findClass_of_methodNamed B.named
  have hlocks := B.notSynchronized
  subst hsz
  have hD := hD0.self (sz := s.heap.size)
  generalize hAe : va_A [(h0, .inr (0, [.int (zi 0), .null, .int (zi 0)]))] s.heap.size = A at hD ⊢
  have hA : ∀ q : Nat, s.heap.size ≤ q → A q := fun q h => by rw [← hAe]; exact Or.inr h
  have hS : va_S A s.heap s.heap [] := va_S.rf
  have hP : va_P (dC, dI) vwCl [(h0, .inr (0, [.int (zi 0), .null, .int (zi 0)]))] s.heap := hP
  have hl := lv_entry ([.ref h0]) (n := 1) (Nat.le_of_ble_eq_true rfl)
  rw [lg_entry_eq]
  generalize (lg_sl ([.ref h0]) ++ List.replicate (1 - (lg_sl ([.ref h0])).length) Slot.unset).toArray = ls at hl ⊢
  have hl : lv_has ls 1 [(0, .ref h0)] := hl
  refine lv_aload_n hx hb dJxc12de_init_da8c8_0 rfl (lv_at hl 0 rfl) ?_
  have hh1 := c_Jxa_init l dC dI h0 s.heap.size 
  have hPc := hP.sub (ws' := [(h0, .inr (0, [.int (zi 0), .null, .int (zi 0)]))]) [0] rfl
  have hKc : va_K (dC, dI) vwCl [] s := hK
  have hDc := hD.sub (ws' := [(h0, .inr (0, [.int (zi 0), .null, .int (zi 0)]))]) [0] (by decide) rfl
  have hFc := va_free (wc := [(h0, .inr (0, [.int (zi 0), .null, .int (zi 0)]))]) hD hS hA [0] rfl
  refine va_callv (va_runI (As := []) (rest := []) ⟨hx, hb, hml, hown, hts⟩ hh1 (cwI 0 hts gJxc12de_init_da8c8_Jxa1e45_init_da8c8 rfl rfl rfl (hts (.initialized RJxa1e45) (by decide +kernel)) (hts (.methodLink RJxc12de 1 yJxa1e45_init_da8c8) (by decide +kernel)) (hts (.instanceMethod yJxa1e45_init_da8c8) (by decide +kernel)) rfl (by decide +kernel) ⟨Nat.le_of_ble_eq_true rfl, Nat.le_of_ble_eq_true rfl⟩) ⟨zPw.blind _ _ _ _ _, fun U hU hW => ⟨rfl, by rw [hU], by rw [hU]; exact hPc, va_K.moved hW.alike hKc, hDc.weaken (fun _ _ _ _ => trivial)⟩⟩ rfl rfl hl.1 rfl (lv_room (Nat.le_of_ble_eq_true rfl)) dJxc12de_init_da8c8_1 ⟨Nat.le_of_ble_eq_true rfl, Nat.le_of_ble_eq_true rfl⟩) hS (fun q _ h => hFc q h) hFc (fun u t H1 locs ht hvm hw hB hz1 hk1 hS => ?_)
  obtain ⟨hP1, hK1, hD1⟩ := hB
  rw [ht] at hP1
  obtain ⟨hP, hD⟩ := va_join (wr := []) (w1 := [(h0, .inr (0, [.int (zi 0), .null, .int (zi 0)]))]) hP hD [0] [] rfl rfl (by decide) (by decide) hk1 hFc hP1 hD1
  generalize H1 = H at hP hS ⊢
  have hP : va_P (dC, dI) vwCl [(h0, .inr (0, [.int (zi 0), .null, .int (zi 0)]))] H := hP
  have hD : va_D A [(h0, .inr (0, [.int (zi 0), .null, .int (zi 0)]))] := hD
  refine lv_aload_n hx hb dJxc12de_init_da8c8_4 rfl (lv_at hl 0 rfl) ?_
  refine zw_iconst hx hb dJxc12de_init_da8c8_5 ?_
  refine va_put (D := (dC, dI)) (ci := 0) (v := .int (zi 0)) (ty := .int) (C := RJx4a65c) (T := TJx4a65c) (N := 3) hx hb hts (by decide +kernel) tyJx4a65c tyJx4a65c_ok nmJx4a65c hown hK hP hD hS 0 rfl rfl 0 (by decide) (hts (.fieldLink RJxc12de 7 "java/util/AbstractList" "modCount" "I") (by decide +kernel)) (fun _ h9 => h9) rfl (by decide +kernel) rfl rfl (Nat.le_of_ble_eq_true rfl) dJxc12de_init_da8c8_6 (fun H locs hP hD hS => ?_)
  have hP : va_P (dC, dI) vwCl [(h0, .inr (0, [.int (zi 0), .null, .int (zi 0)]))] H := hP
  have hD : va_D A [(h0, .inr (0, [.int (zi 0), .null, .int (zi 0)]))] := hD
  have hP9 := hP.sub (ws' := [(h0, .inr (0, [.int (zi 0), .null, .int (zi 0)]))]) [0] rfl
  have hD9 := hD.sub (ws' := [(h0, .inr (0, [.int (zi 0), .null, .int (zi 0)]))]) [0] (by decide) rfl
  exact W.vret hx hb hr (fun t ht hW => ⟨⟨(), rfl, trivial, by rw [ht]; exact hP9, va_K.moved hW.alike hK, hD9⟩, hS.F ht⟩) hS.2.2 dJxc12de_init_da8c8_9

set_option maxHeartbeats 4000000 in
set_option maxRecDepth 100000 in
theorem c_Jx_init (l : Launch)  (dC : Nat → ClassId) (dI : Nat → Nat → Nat) (h0 : Nat) (rf : Nat → Nat) (kf : Nat → Int) (af : Nat → Int) (bf : Nat → Int) (zf : Nat → Int) (qd : Nat) (mi : Nat) (sz : Nat)  : Met l yJx4a65c_init_da8c8 wsJx4a65c_init_da8c8 ({ frames := 3, cells := 0, slots := 0, locals := 64 }) (zPwF (dC, dI) [] sz [.ref h0] [(h0, .inr (0, [.int (zi 0), .null, .int (zi 0)]))] (zRO (dC, dI) 0 rf kf af bf zf qd mi)) (va_Qv (fun (_ : Unit) => True) (zB (dC, dI) [] (va_A [(h0, .inr (0, [.int (zi 0), .null, .int (zi 0)]))] sz) [(h0, .inr (0, [.int (zi 0), .ref qd, .int (zi 0)]))]) (va_A [(h0, .inr (0, [.int (zi 0), .null, .int (zi 0)]))] sz)) 0 0 (va_A [(h0, .inr (0, [.int (zi 0), .null, .int (zi 0)]))] sz) := by
  refine Met.ofW (cc := cJx4a65c_init_da8c8) (maxL := 1) (ret := none) (by decide) rfl ?_
  intro p e s m args below meth c s₁ B hml hv
  obtain ⟨rfl, hsz, hP, hK, hD0, hG⟩ := hv
  have hini9 : meth.name = "<init>" := (name_of_methodNamed B.named B.method).1
  have hx := B.exec
  have hb := B.bytes
  have hr := B.returns
  have hts := atoms_spec (ws := wsJx4a65c_init_da8c8) B.pre
  have hown : s.vm.findClass RJx4a65c = some m.cls := findClass_of_methodNamed B.named
  have hlocks := B.notSynchronized
  subst hsz
  have hD := hD0.self (sz := s.heap.size)
  generalize hAe : va_A [(h0, .inr (0, [.int (zi 0), .null, .int (zi 0)]))] s.heap.size = A at hD hG ⊢
  have hA : ∀ q : Nat, s.heap.size ≤ q → A q := fun q h => by rw [← hAe]; exact Or.inr h
  have hS : va_S A s.heap s.heap [] := va_S.rf
  have hP : va_P (dC, dI) vwCl [(h0, .inr (0, [.int (zi 0), .null, .int (zi 0)]))] s.heap := hP
  have hl := lv_entry ([.ref h0]) (n := 1) (Nat.le_of_ble_eq_true rfl)
  rw [lg_entry_eq]
  generalize (lg_sl ([.ref h0]) ++ List.replicate (1 - (lg_sl ([.ref h0])).length) Slot.unset).toArray = ls at hl ⊢
  have hl : lv_has ls 1 [(0, .ref h0)] := hl
  refine lv_aload_n hx hb dJx4a65c_init_da8c8_0 rfl (lv_at hl 0 rfl) ?_
  have hh1 := c_Jxc_init l dC dI h0 s.heap.size 
  have hPc := hP.sub (ws' := [(h0, .inr (0, [.int (zi 0), .null, .int (zi 0)]))]) [0] rfl
  have hKc : va_K (dC, dI) vwCl [] s := hK
  have hDc := hD.sub (ws' := [(h0, .inr (0, [.int (zi 0), .null, .int (zi 0)]))]) [0] (by decide) rfl
  have hFc := va_free (wc := [(h0, .inr (0, [.int (zi 0), .null, .int (zi 0)]))]) hD hS hA [0] rfl
  refine va_callv (va_runI (As := []) (rest := []) ⟨hx, hb, hml, hown, hts⟩ hh1 (cwI 0 hts gJx4a65c_init_da8c8_Jxc12de_init_da8c8 rfl rfl rfl (hts (.initialized RJxc12de) (by decide +kernel)) (hts (.methodLink RJx4a65c 1 yJxc12de_init_da8c8) (by decide +kernel)) (hts (.instanceMethod yJxc12de_init_da8c8) (by decide +kernel)) rfl (by decide +kernel) ⟨Nat.le_of_ble_eq_true rfl, Nat.le_of_ble_eq_true rfl⟩) ⟨zPw.blind _ _ _ _ _, fun U hU hW => ⟨rfl, by rw [hU], by rw [hU]; exact hPc, va_K.moved hW.alike hKc, hDc.weaken (fun _ _ _ _ => trivial)⟩⟩ rfl rfl hl.1 rfl (lv_room (Nat.le_of_ble_eq_true rfl)) dJx4a65c_init_da8c8_1 ⟨Nat.le_of_ble_eq_true rfl, Nat.le_of_ble_eq_true rfl⟩) hS (fun q _ h => hFc q h) hFc (fun u t H1 locs ht hvm hw hB hz1 hk1 hS => ?_)
  obtain ⟨hP1, hK1, hD1⟩ := hB
  rw [ht] at hP1
  obtain ⟨hP, hD⟩ := va_join (wr := []) (w1 := [(h0, .inr (0, [.int (zi 0), .null, .int (zi 0)]))]) hP hD [0] [] rfl rfl (by decide) (by decide) hk1 hFc hP1 hD1
  generalize H1 = H at hP hS ⊢
  have hP : va_P (dC, dI) vwCl [(h0, .inr (0, [.int (zi 0), .null, .int (zi 0)]))] H := hP
  have hD : va_D A [(h0, .inr (0, [.int (zi 0), .null, .int (zi 0)]))] := hD
  refine lv_aload_n hx hb dJx4a65c_init_da8c8_4 rfl (lv_at hl 0 rfl) ?_
  refine va_gets (C := "java/util/ArrayList") hx hb (zRO_z hG) hS hown (hts (.fieldLink RJx4a65c 39 "java/util/ArrayList" "DEFAULTCAPACITY_EMPTY_ELEMENTDATA" "[Ljava/lang/Object;") (by decide +kernel)) (fun _ h9 => h9) dJx4a65c_init_da8c8_5 ?_
  refine va_put (D := (dC, dI)) (ci := 0) (v := .ref qd) (ty := (.array (.object "java/lang/Object"))) (C := RJx4a65c) (T := TJx4a65c) (N := 3) hx hb hts (by decide +kernel) tyJx4a65c tyJx4a65c_ok nmJx4a65c hown hK hP hD hS 0 rfl rfl 1 (by decide) (hts (.fieldLink RJx4a65c 9 "java/util/ArrayList" "elementData" "[Ljava/lang/Object;") (by decide +kernel)) (fun _ h9 => h9) rfl (by decide +kernel) rfl rfl (Nat.le_of_ble_eq_true rfl) dJx4a65c_init_da8c8_8 (fun H locs hP hD hS => ?_)
  have hP : va_P (dC, dI) vwCl [(h0, .inr (0, [.int (zi 0), .ref qd, .int (zi 0)]))] H := hP
  have hD : va_D A [(h0, .inr (0, [.int (zi 0), .ref qd, .int (zi 0)]))] := hD
  have hP9 := hP.sub (ws' := [(h0, .inr (0, [.int (zi 0), .ref qd, .int (zi 0)]))]) [0] rfl
  have hD9 := hD.sub (ws' := [(h0, .inr (0, [.int (zi 0), .ref qd, .int (zi 0)]))]) [0] (by decide) rfl
  exact W.vret hx hb hr (fun t ht hW => ⟨⟨(), rfl, trivial, by rw [ht]; exact hP9, va_K.moved hW.alike hK, hD9⟩, hS.F ht⟩) hS.2.2 dJx4a65c_init_da8c8_11

set_option maxHeartbeats 4000000 in
set_option maxRecDepth 100000 in
theorem c_X4_init (l : Launch)  (dC : Nat → ClassId) (dI : Nat → Nat → Nat) (cI : ClassId) (cO : ClassId) (h0 : Nat) (ed : Nat → Option Nat) (rf : Nat → Nat) (kf : Nat → Int) (af : Nat → Int) (bf : Nat → Int) (zf : Nat → Int) (qd : Nat) (mi : Nat) (sz : Nat)  : Met l yX4_init wsX4_init ({ frames := 4, cells := 8, slots := 426, locals := 84 }) (zPwF (dC, dI) [(cI, .int), (cO, .object "java/lang/Object")] sz [.ref h0] [(h0, .inr (4, [.null, .null, .null, .null, .null, .int (zi 0)])), (qd, aR cO 0 ed)] (zRO (dC, dI) 0 rf kf af bf zf qd mi)) (va_Qv (fun (u : (Nat → Int) × (Nat → Option Nat) × (Nat) × (Nat) × (Nat) × (Nat) × (Nat) × (Nat) × (Nat) × (Nat)) => ∀ j : Nat, u.1 j = if j < 10 then (-1) else 0) (fun (u : (Nat → Int) × (Nat → Option Nat) × (Nat) × (Nat) × (Nat) × (Nat) × (Nat) × (Nat) × (Nat) × (Nat)) => zB (dC, dI) [(cI, .int), (cO, .object "java/lang/Object")] (va_A [(h0, .inr (4, [.null, .null, .null, .null, .null, .int (zi 0)])), (qd, aR cO 0 ed)] sz) [(h0, .inr (4, [.ref u.2.2.1, .ref u.2.2.2.1, .ref u.2.2.2.2.1, .ref u.2.2.2.2.2.1, .ref u.2.2.2.2.2.2.1, .int (zi 96)])), (u.2.2.1, aI cI 10 u.1), (u.2.2.2.1, .inr (0, [.int (zi 1), .ref qd, .int (zi 0)])), (qd, aR cO 0 u.2.1), (u.2.2.2.2.1, .inr (2, [.ref u.2.2.2.2.2.2.2.1, .int (zi 0), .int (zi 0)])), (u.2.2.2.2.2.2.2.1, aI cI 366 (fun _ => 0)), (u.2.2.2.2.2.1, .inr (1, [.ref u.2.2.2.2.2.2.2.2.1, .int (zi 0)])), (u.2.2.2.2.2.2.2.2.1, aI cI 20 (fun _ => 0)), (u.2.2.2.2.2.2.1, .inr (1, [.ref u.2.2.2.2.2.2.2.2.2, .int (zi 0)])), (u.2.2.2.2.2.2.2.2.2, aI cI 20 (fun _ => 0))] ()) (va_A [(h0, .inr (4, [.null, .null, .null, .null, .null, .int (zi 0)])), (qd, aR cO 0 ed)] sz)) 8 426 (va_A [(h0, .inr (4, [.null, .null, .null, .null, .null, .int (zi 0)])), (qd, aR cO 0 ed)] sz) := by
  refine Met.ofW (cc := cX4_init) (maxL := 1) (ret := none) (by decide) rfl ?_
  intro p e s m args below meth c s₁ B hml hv
  obtain ⟨rfl, hsz, hP, hK, hD0, hG⟩ := hv
  have hini9 : meth.name = "<init>" := (name_of_methodNamed B.named B.method).1
  have hx := B.exec
  have hb := B.bytes
  have hr := B.returns
  have hts := atoms_spec (ws := wsX4_init) B.pre
  have hown : s.vm.findClass RX4 = some m.cls := findClass_of_methodNamed B.named
  have hlocks := B.notSynchronized
  subst hsz
  have hD := hD0.self (sz := s.heap.size)
  generalize hAe : va_A [(h0, .inr (4, [.null, .null, .null, .null, .null, .int (zi 0)])), (qd, aR cO 0 ed)] s.heap.size = A at hD hG ⊢
  have hA : ∀ q : Nat, s.heap.size ≤ q → A q := fun q h => by rw [← hAe]; exact Or.inr h
  have hS : va_S A s.heap s.heap [] := va_S.rf
  have hP : va_P (dC, dI) vwCl [(h0, .inr (4, [.null, .null, .null, .null, .null, .int (zi 0)])), (qd, aR cO 0 ed)] s.heap := hP
  have hl := lv_entry ([.ref h0]) (n := 1) (Nat.le_of_ble_eq_true rfl)
  rw [lg_entry_eq]
  generalize (lg_sl ([.ref h0]) ++ List.replicate (1 - (lg_sl ([.ref h0])).length) Slot.unset).toArray = ls at hl ⊢
  have hl : lv_has ls 1 [(0, .ref h0)] := hl
  refine lv_aload_n hx hb dX4_init_0 rfl (lv_at hl 0 rfl) ?_
  refine zw_objInit hx hb hown (hts (.methodLink RX4 1 objectInit) (by decide +kernel)) (hts (.instanceMethod objectInit) (by decide +kernel)) (hts (.code objectInit ⟨#[0xb1]⟩ 1 none) (by decide +kernel)) (hl.1.trans hml.symm) dX4_init_1 (Nat.le_of_ble_eq_true rfl) (Nat.le_of_ble_eq_true rfl) ?_
  refine lv_aload_n hx hb dX4_init_4 rfl (lv_at hl 0 rfl) ?_
  refine zw_bipush hx hb dX4_init_5 (by decide) ?_
  refine zw_newI (N9 := 10) hx hb (hts (.arrayClass .int) (by decide +kernel)) hK hP hD hS hA rfl (Nat.le_of_ble_eq_true rfl) (Nat.le_of_ble_eq_true rfl) (Nat.le_of_ble_eq_true rfl) dX4_init_7 (fun q1 cA1 H hKn hP hD hS => ?_)
  obtain rfl : cI = cA1 := zK_same hKn 0 2 rfl rfl
  have hP : va_P (dC, dI) vwCl [(h0, .inr (4, [.null, .null, .null, .null, .null, .int (zi 0)])), (qd, aR cO 0 ed), (q1, aI cI 10 (fun _ => 0))] H := hP
  have hD : va_D A [(h0, .inr (4, [.null, .null, .null, .null, .null, .int (zi 0)])), (qd, aR cO 0 ed), (q1, aI cI 10 (fun _ => 0))] := hD
  refine va_putF (D := (dC, dI)) (ci := 4) (v := .ref q1) (ty := (.array .int)) (C := RX4) (T := TX4) (N := 6) hx hb hts (by decide +kernel) tyX4 tyX4_ok nmX4 hown hK hP hD hS 0 rfl rfl 0 (by decide) (hts (.fieldLink RX4 9 "CivilDays" "slots" "[I") (by decide +kernel)) (fun _ h9 => h9) rfl hini9 rfl (by decide +kernel) rfl rfl (Nat.le_of_ble_eq_true rfl) dX4_init_9 (fun H locs hP hD hS => ?_)
  have hP : va_P (dC, dI) vwCl [(h0, .inr (4, [.ref q1, .null, .null, .null, .null, .int (zi 0)])), (qd, aR cO 0 ed), (q1, aI cI 10 (fun _ => 0))] H := hP
  have hD : va_D A [(h0, .inr (4, [.ref q1, .null, .null, .null, .null, .int (zi 0)])), (qd, aR cO 0 ed), (q1, aI cI 10 (fun _ => 0))] := hD
  refine lv_aload_n hx hb dX4_init_12 rfl (lv_at hl 0 rfl) ?_
  refine va_new (C := RJx4a65c) (T := TJx4a65c) (N := 3) (ci := 0) (fs := [.int (zi 0), .null, .int (zi 0)]) hx hb hts (by decide +kernel) tyJx4a65c tyJx4a65c_ok hown (hts (.classLink RX4 13 RJx4a65c) (by decide +kernel)) (hts (.instantiable RJx4a65c 3) (by decide +kernel)) (hts (.initialized RJx4a65c) (by decide +kernel)) hK hP hD hS hA rfl (by decide +kernel) (Nat.le_of_ble_eq_true rfl) (Nat.le_of_ble_eq_true rfl) dX4_init_13 (fun q2 H hP hD hS => ?_)
  have hP : va_P (dC, dI) vwCl [(h0, .inr (4, [.ref q1, .null, .null, .null, .null, .int (zi 0)])), (qd, aR cO 0 ed), (q1, aI cI 10 (fun _ => 0)), (q2, .inr (0, [.int (zi 0), .null, .int (zi 0)]))] H := hP
  have hD : va_D A [(h0, .inr (4, [.ref q1, .null, .null, .null, .null, .int (zi 0)])), (qd, aR cO 0 ed), (q1, aI cI 10 (fun _ => 0)), (q2, .inr (0, [.int (zi 0), .null, .int (zi 0)]))] := hD
  refine lv_dup hx hb dX4_init_16 rfl ?_
  have hh3 := c_Jx_init l dC dI q2 rf kf af bf zf qd mi H.size 
  have hPc := hP.sub (ws' := [(q2, .inr (0, [.int (zi 0), .null, .int (zi 0)]))]) [3] rfl
  have hKc : va_K (dC, dI) vwCl [] s := hK.sub (tys' := []) [] rfl
  have hDc := hD.sub (ws' := [(q2, .inr (0, [.int (zi 0), .null, .int (zi 0)]))]) [3] (by decide) rfl
  have hFc := va_free (wc := [(q2, .inr (0, [.int (zi 0), .null, .int (zi 0)]))]) hD hS hA [3] rfl
  refine va_callv (va_runI (As := []) (rest := [.ref q2, .ref h0]) ⟨hx, hb, hml, hown, hts⟩ hh3 (cwI 0 hts gX4_init_Jx4a65c_init_da8c8 rfl rfl rfl (hts (.initialized RJx4a65c) (by decide +kernel)) (hts (.methodLink RX4 15 yJx4a65c_init_da8c8) (by decide +kernel)) (hts (.instanceMethod yJx4a65c_init_da8c8) (by decide +kernel)) rfl (by decide +kernel) ⟨Nat.le_of_ble_eq_true rfl, Nat.le_of_ble_eq_true rfl⟩) ⟨zPwF.blind _ _ _ _ _ zRO_ok, fun U hU hW => ⟨rfl, by rw [hU], by rw [hU]; exact hPc, va_K.moved hW.alike hKc, hDc.weaken (fun _ _ _ _ => trivial), zF.call zRO_ok hG hS hFc hU hW⟩⟩ rfl rfl hl.1 rfl (lv_room (Nat.le_of_ble_eq_true rfl)) dX4_init_17 ⟨Nat.le_of_ble_eq_true rfl, Nat.le_of_ble_eq_true rfl⟩) hS (fun q _ h => hFc q h) hFc (fun u t H1 locs ht hvm hw hB hz1 hk1 hS => ?_)
  obtain ⟨hP1, hK1, hD1⟩ := hB
  rw [ht] at hP1
  obtain ⟨hP, hD⟩ := va_join (wr := [(h0, .inr (4, [.ref q1, .null, .null, .null, .null, .int (zi 0)])), (qd, aR cO 0 ed), (q1, aI cI 10 (fun _ => 0))]) (w1 := [(q2, .inr (0, [.int (zi 0), .ref qd, .int (zi 0)]))]) hP hD [3] [0, 1, 2] rfl rfl (by decide) (by decide) hk1 hFc hP1 hD1
  generalize H1 = H at hP hS ⊢
  have hP : va_P (dC, dI) vwCl [(h0, .inr (4, [.ref q1, .null, .null, .null, .null, .int (zi 0)])), (qd, aR cO 0 ed), (q1, aI cI 10 (fun _ => 0)), (q2, .inr (0, [.int (zi 0), .ref qd, .int (zi 0)]))] H := hP
  have hD : va_D A [(h0, .inr (4, [.ref q1, .null, .null, .null, .null, .int (zi 0)])), (qd, aR cO 0 ed), (q1, aI cI 10 (fun _ => 0)), (q2, .inr (0, [.int (zi 0), .ref qd, .int (zi 0)]))] := hD
  refine va_putF (D := (dC, dI)) (ci := 4) (v := .ref q2) (ty := (.object "java/util/ArrayList")) (C := RX4) (T := TX4) (N := 6) hx hb hts (by decide +kernel) tyX4 tyX4_ok nmX4 hown hK hP hD hS 0 rfl rfl 1 (by decide) (hts (.fieldLink RX4 16 "CivilDays" "rules" "Ljava/util/ArrayList;") (by decide +kernel)) (fun _ h9 => h9) rfl hini9 rfl (by decide +kernel) rfl rfl (Nat.le_of_ble_eq_true rfl) dX4_init_20 (fun H locs hP hD hS => ?_)
  have hP : va_P (dC, dI) vwCl [(h0, .inr (4, [.ref q1, .ref q2, .null, .null, .null, .int (zi 0)])), (qd, aR cO 0 ed), (q1, aI cI 10 (fun _ => 0)), (q2, .inr (0, [.int (zi 0), .ref qd, .int (zi 0)]))] H := hP
  have hD : va_D A [(h0, .inr (4, [.ref q1, .ref q2, .null, .null, .null, .int (zi 0)])), (qd, aR cO 0 ed), (q1, aI cI 10 (fun _ => 0)), (q2, .inr (0, [.int (zi 0), .ref qd, .int (zi 0)]))] := hD
  refine lv_aload_n hx hb dX4_init_23 rfl (lv_at hl 0 rfl) ?_
  refine va_new (C := RX2) (T := TX2) (N := 3) (ci := 2) (fs := [.null, .int (zi 0), .int (zi 0)]) hx hb hts (by decide +kernel) tyX2 tyX2_ok hown (hts (.classLink RX4 20 RX2) (by decide +kernel)) (hts (.instantiable RX2 3) (by decide +kernel)) (hts (.initialized RX2) (by decide +kernel)) hK hP hD hS hA rfl (by decide +kernel) (Nat.le_of_ble_eq_true rfl) (Nat.le_of_ble_eq_true rfl) dX4_init_24 (fun q4 H hP hD hS => ?_)
  have hP : va_P (dC, dI) vwCl [(h0, .inr (4, [.ref q1, .ref q2, .null, .null, .null, .int (zi 0)])), (qd, aR cO 0 ed), (q1, aI cI 10 (fun _ => 0)), (q2, .inr (0, [.int (zi 0), .ref qd, .int (zi 0)])), (q4, .inr (2, [.null, .int (zi 0), .int (zi 0)]))] H := hP
  have hD : va_D A [(h0, .inr (4, [.ref q1, .ref q2, .null, .null, .null, .int (zi 0)])), (qd, aR cO 0 ed), (q1, aI cI 10 (fun _ => 0)), (q2, .inr (0, [.int (zi 0), .ref qd, .int (zi 0)])), (q4, .inr (2, [.null, .int (zi 0), .int (zi 0)]))] := hD
  refine lv_dup hx hb dX4_init_27 rfl ?_
  have hh5 := c_X2_init l dC dI cI q4 H.size 
  have hPc := hP.sub (ws' := [(q4, .inr (2, [.null, .int (zi 0), .int (zi 0)]))]) [4] rfl
  have hKc : va_K (dC, dI) vwCl [(cI, .int)] s := hK.sub (tys' := [(cI, .int)]) [0] rfl
  have hDc := hD.sub (ws' := [(q4, .inr (2, [.null, .int (zi 0), .int (zi 0)]))]) [4] (by decide) rfl
  have hFc := va_free (wc := [(q4, .inr (2, [.null, .int (zi 0), .int (zi 0)]))]) hD hS hA [4] rfl
  refine va_callv (va_runIN (As := []) (rest := [.ref q4, .ref h0]) ⟨hx, hb, hml, hown, hts⟩ hh5 ⟨va_cnB (host := RX4) 0 hts gX4_init_X2_init_n22 rfl rfl rfl (zRO_n22 hG) (hts (.initialized RX2) (by decide +kernel)) (by decide +kernel) ⟨Nat.le_of_ble_eq_true rfl, Nat.le_of_ble_eq_true rfl⟩, rfl, (hts (.instanceMethod yX2_init) (by decide +kernel))⟩ ⟨zPw.blind _ _ _ _ _, fun U hU hW => ⟨rfl, by rw [hU], by rw [hU]; exact hPc, va_K.moved hW.alike hKc, hDc.weaken (fun _ _ _ _ => trivial)⟩⟩ rfl rfl hl.1 rfl (lv_room (Nat.le_of_ble_eq_true rfl)) dX4_init_28 ⟨Nat.le_of_ble_eq_true rfl, Nat.le_of_ble_eq_true rfl⟩) hS (fun q _ h => hFc q h) hFc (fun u t H1 locs ht hvm hw hB hz1 hk1 hS => ?_)
  generalize u = qa_6 at hw hB
  have hw5 := hw
  replace hw5 : True := hw5
  obtain ⟨hP1, hK1, hD1⟩ := hB
  rw [ht] at hP1
  replace hP1 : va_P (dC, dI) vwCl [(q4, .inr (2, [.ref qa_6, .int (zi 0), .int (zi 0)])), (qa_6, aI cI 366 (fun _ => 0))] H1 := hP1
  replace hD1 : va_D _ [(q4, .inr (2, [.ref qa_6, .int (zi 0), .int (zi 0)])), (qa_6, aI cI 366 (fun _ => 0))] := hD1
  obtain ⟨hP, hD⟩ := va_join (wr := [(h0, .inr (4, [.ref q1, .ref q2, .null, .null, .null, .int (zi 0)])), (qd, aR cO 0 ed), (q1, aI cI 10 (fun _ => 0)), (q2, .inr (0, [.int (zi 0), .ref qd, .int (zi 0)]))]) (w1 := [(q4, .inr (2, [.ref qa_6, .int (zi 0), .int (zi 0)])), (qa_6, aI cI 366 (fun _ => 0))]) hP hD [4] [0, 1, 2, 3] rfl rfl (by decide) (by decide) hk1 hFc hP1 hD1
  generalize H1 = H at hP hS ⊢
  have hP : va_P (dC, dI) vwCl [(h0, .inr (4, [.ref q1, .ref q2, .null, .null, .null, .int (zi 0)])), (qd, aR cO 0 ed), (q1, aI cI 10 (fun _ => 0)), (q2, .inr (0, [.int (zi 0), .ref qd, .int (zi 0)])), (q4, .inr (2, [.ref qa_6, .int (zi 0), .int (zi 0)])), (qa_6, aI cI 366 (fun _ => 0))] H := hP
  have hD : va_D A [(h0, .inr (4, [.ref q1, .ref q2, .null, .null, .null, .int (zi 0)])), (qd, aR cO 0 ed), (q1, aI cI 10 (fun _ => 0)), (q2, .inr (0, [.int (zi 0), .ref qd, .int (zi 0)])), (q4, .inr (2, [.ref qa_6, .int (zi 0), .int (zi 0)])), (qa_6, aI cI 366 (fun _ => 0))] := hD
  refine va_putF (D := (dC, dI)) (ci := 4) (v := .ref q4) (ty := (.object "CivilDays$MarkedYear")) (C := RX4) (T := TX4) (N := 6) hx hb hts (by decide +kernel) tyX4 tyX4_ok nmX4 hown hK hP hD hS 0 rfl rfl 2 (by decide) (hts (.fieldLink RX4 23 "CivilDays" "marked" "LCivilDays$MarkedYear;") (by decide +kernel)) (fun _ h9 => h9) rfl hini9 rfl (by decide +kernel) rfl rfl (Nat.le_of_ble_eq_true rfl) dX4_init_31 (fun H locs hP hD hS => ?_)
  have hP : va_P (dC, dI) vwCl [(h0, .inr (4, [.ref q1, .ref q2, .ref q4, .null, .null, .int (zi 0)])), (qd, aR cO 0 ed), (q1, aI cI 10 (fun _ => 0)), (q2, .inr (0, [.int (zi 0), .ref qd, .int (zi 0)])), (q4, .inr (2, [.ref qa_6, .int (zi 0), .int (zi 0)])), (qa_6, aI cI 366 (fun _ => 0))] H := hP
  have hD : va_D A [(h0, .inr (4, [.ref q1, .ref q2, .ref q4, .null, .null, .int (zi 0)])), (qd, aR cO 0 ed), (q1, aI cI 10 (fun _ => 0)), (q2, .inr (0, [.int (zi 0), .ref qd, .int (zi 0)])), (q4, .inr (2, [.ref qa_6, .int (zi 0), .int (zi 0)])), (qa_6, aI cI 366 (fun _ => 0))] := hD
  refine lv_aload_n hx hb dX4_init_34 rfl (lv_at hl 0 rfl) ?_
  refine va_new (C := RX1) (T := TX1) (N := 2) (ci := 1) (fs := [.null, .int (zi 0)]) hx hb hts (by decide +kernel) tyX1 tyX1_ok hown (hts (.classLink RX4 27 RX1) (by decide +kernel)) (hts (.instantiable RX1 2) (by decide +kernel)) (hts (.initialized RX1) (by decide +kernel)) hK hP hD hS hA rfl (by decide +kernel) (Nat.le_of_ble_eq_true rfl) (Nat.le_of_ble_eq_true rfl) dX4_init_35 (fun q7 H hP hD hS => ?_)
  have hP : va_P (dC, dI) vwCl [(h0, .inr (4, [.ref q1, .ref q2, .ref q4, .null, .null, .int (zi 0)])), (qd, aR cO 0 ed), (q1, aI cI 10 (fun _ => 0)), (q2, .inr (0, [.int (zi 0), .ref qd, .int (zi 0)])), (q4, .inr (2, [.ref qa_6, .int (zi 0), .int (zi 0)])), (qa_6, aI cI 366 (fun _ => 0)), (q7, .inr (1, [.null, .int (zi 0)]))] H := hP
  have hD : va_D A [(h0, .inr (4, [.ref q1, .ref q2, .ref q4, .null, .null, .int (zi 0)])), (qd, aR cO 0 ed), (q1, aI cI 10 (fun _ => 0)), (q2, .inr (0, [.int (zi 0), .ref qd, .int (zi 0)])), (q4, .inr (2, [.ref qa_6, .int (zi 0), .int (zi 0)])), (qa_6, aI cI 366 (fun _ => 0)), (q7, .inr (1, [.null, .int (zi 0)]))] := hD
  refine lv_dup hx hb dX4_init_38 rfl ?_
  have hh8 := c_X1_init l dC dI cI q7 H.size 
  have hPc := hP.sub (ws' := [(q7, .inr (1, [.null, .int (zi 0)]))]) [6] rfl
  have hKc : va_K (dC, dI) vwCl [(cI, .int)] s := hK.sub (tys' := [(cI, .int)]) [0] rfl
  have hDc := hD.sub (ws' := [(q7, .inr (1, [.null, .int (zi 0)]))]) [6] (by decide) rfl
  have hFc := va_free (wc := [(q7, .inr (1, [.null, .int (zi 0)]))]) hD hS hA [6] rfl
  refine va_callv (va_runIN (As := []) (rest := [.ref q7, .ref h0]) ⟨hx, hb, hml, hown, hts⟩ hh8 ⟨va_cnB (host := RX4) 0 hts gX4_init_X1_init_n29 rfl rfl rfl (zRO_n29 hG) (hts (.initialized RX1) (by decide +kernel)) (by decide +kernel) ⟨Nat.le_of_ble_eq_true rfl, Nat.le_of_ble_eq_true rfl⟩, rfl, (hts (.instanceMethod yX1_init) (by decide +kernel))⟩ ⟨zPw.blind _ _ _ _ _, fun U hU hW => ⟨rfl, by rw [hU], by rw [hU]; exact hPc, va_K.moved hW.alike hKc, hDc.weaken (fun _ _ _ _ => trivial)⟩⟩ rfl rfl hl.1 rfl (lv_room (Nat.le_of_ble_eq_true rfl)) dX4_init_39 ⟨Nat.le_of_ble_eq_true rfl, Nat.le_of_ble_eq_true rfl⟩) hS (fun q _ h => hFc q h) hFc (fun u t H1 locs ht hvm hw hB hz1 hk1 hS => ?_)
  generalize u = qa_9 at hw hB
  have hw8 := hw
  replace hw8 : True := hw8
  obtain ⟨hP1, hK1, hD1⟩ := hB
  rw [ht] at hP1
  replace hP1 : va_P (dC, dI) vwCl [(q7, .inr (1, [.ref qa_9, .int (zi 0)])), (qa_9, aI cI 20 (fun _ => 0))] H1 := hP1
  replace hD1 : va_D _ [(q7, .inr (1, [.ref qa_9, .int (zi 0)])), (qa_9, aI cI 20 (fun _ => 0))] := hD1
  obtain ⟨hP, hD⟩ := va_join (wr := [(h0, .inr (4, [.ref q1, .ref q2, .ref q4, .null, .null, .int (zi 0)])), (qd, aR cO 0 ed), (q1, aI cI 10 (fun _ => 0)), (q2, .inr (0, [.int (zi 0), .ref qd, .int (zi 0)])), (q4, .inr (2, [.ref qa_6, .int (zi 0), .int (zi 0)])), (qa_6, aI cI 366 (fun _ => 0))]) (w1 := [(q7, .inr (1, [.ref qa_9, .int (zi 0)])), (qa_9, aI cI 20 (fun _ => 0))]) hP hD [6] [0, 1, 2, 3, 4, 5] rfl rfl (by decide) (by decide) hk1 hFc hP1 hD1
  generalize H1 = H at hP hS ⊢
  have hP : va_P (dC, dI) vwCl [(h0, .inr (4, [.ref q1, .ref q2, .ref q4, .null, .null, .int (zi 0)])), (qd, aR cO 0 ed), (q1, aI cI 10 (fun _ => 0)), (q2, .inr (0, [.int (zi 0), .ref qd, .int (zi 0)])), (q4, .inr (2, [.ref qa_6, .int (zi 0), .int (zi 0)])), (qa_6, aI cI 366 (fun _ => 0)), (q7, .inr (1, [.ref qa_9, .int (zi 0)])), (qa_9, aI cI 20 (fun _ => 0))] H := hP
  have hD : va_D A [(h0, .inr (4, [.ref q1, .ref q2, .ref q4, .null, .null, .int (zi 0)])), (qd, aR cO 0 ed), (q1, aI cI 10 (fun _ => 0)), (q2, .inr (0, [.int (zi 0), .ref qd, .int (zi 0)])), (q4, .inr (2, [.ref qa_6, .int (zi 0), .int (zi 0)])), (qa_6, aI cI 366 (fun _ => 0)), (q7, .inr (1, [.ref qa_9, .int (zi 0)])), (qa_9, aI cI 20 (fun _ => 0))] := hD
  refine va_putF (D := (dC, dI)) (ci := 4) (v := .ref q7) (ty := (.object "CivilDays$Line")) (C := RX4) (T := TX4) (N := 6) hx hb hts (by decide +kernel) tyX4 tyX4_ok nmX4 hown hK hP hD hS 0 rfl rfl 3 (by decide) (hts (.fieldLink RX4 30 "CivilDays" "written" "LCivilDays$Line;") (by decide +kernel)) (fun _ h9 => h9) rfl hini9 rfl (by decide +kernel) rfl rfl (Nat.le_of_ble_eq_true rfl) dX4_init_42 (fun H locs hP hD hS => ?_)
  have hP : va_P (dC, dI) vwCl [(h0, .inr (4, [.ref q1, .ref q2, .ref q4, .ref q7, .null, .int (zi 0)])), (qd, aR cO 0 ed), (q1, aI cI 10 (fun _ => 0)), (q2, .inr (0, [.int (zi 0), .ref qd, .int (zi 0)])), (q4, .inr (2, [.ref qa_6, .int (zi 0), .int (zi 0)])), (qa_6, aI cI 366 (fun _ => 0)), (q7, .inr (1, [.ref qa_9, .int (zi 0)])), (qa_9, aI cI 20 (fun _ => 0))] H := hP
  have hD : va_D A [(h0, .inr (4, [.ref q1, .ref q2, .ref q4, .ref q7, .null, .int (zi 0)])), (qd, aR cO 0 ed), (q1, aI cI 10 (fun _ => 0)), (q2, .inr (0, [.int (zi 0), .ref qd, .int (zi 0)])), (q4, .inr (2, [.ref qa_6, .int (zi 0), .int (zi 0)])), (qa_6, aI cI 366 (fun _ => 0)), (q7, .inr (1, [.ref qa_9, .int (zi 0)])), (qa_9, aI cI 20 (fun _ => 0))] := hD
  refine lv_aload_n hx hb dX4_init_45 rfl (lv_at hl 0 rfl) ?_
  refine va_new (C := RX1) (T := TX1) (N := 2) (ci := 1) (fs := [.null, .int (zi 0)]) hx hb hts (by decide +kernel) tyX1 tyX1_ok hown (hts (.classLink RX4 27 RX1) (by decide +kernel)) (hts (.instantiable RX1 2) (by decide +kernel)) (hts (.initialized RX1) (by decide +kernel)) hK hP hD hS hA rfl (by decide +kernel) (Nat.le_of_ble_eq_true rfl) (Nat.le_of_ble_eq_true rfl) dX4_init_46 (fun q10 H hP hD hS => ?_)
  have hP : va_P (dC, dI) vwCl [(h0, .inr (4, [.ref q1, .ref q2, .ref q4, .ref q7, .null, .int (zi 0)])), (qd, aR cO 0 ed), (q1, aI cI 10 (fun _ => 0)), (q2, .inr (0, [.int (zi 0), .ref qd, .int (zi 0)])), (q4, .inr (2, [.ref qa_6, .int (zi 0), .int (zi 0)])), (qa_6, aI cI 366 (fun _ => 0)), (q7, .inr (1, [.ref qa_9, .int (zi 0)])), (qa_9, aI cI 20 (fun _ => 0)), (q10, .inr (1, [.null, .int (zi 0)]))] H := hP
  have hD : va_D A [(h0, .inr (4, [.ref q1, .ref q2, .ref q4, .ref q7, .null, .int (zi 0)])), (qd, aR cO 0 ed), (q1, aI cI 10 (fun _ => 0)), (q2, .inr (0, [.int (zi 0), .ref qd, .int (zi 0)])), (q4, .inr (2, [.ref qa_6, .int (zi 0), .int (zi 0)])), (qa_6, aI cI 366 (fun _ => 0)), (q7, .inr (1, [.ref qa_9, .int (zi 0)])), (qa_9, aI cI 20 (fun _ => 0)), (q10, .inr (1, [.null, .int (zi 0)]))] := hD
  refine lv_dup hx hb dX4_init_49 rfl ?_
  have hh11 := c_X1_init l dC dI cI q10 H.size 
  have hPc := hP.sub (ws' := [(q10, .inr (1, [.null, .int (zi 0)]))]) [8] rfl
  have hKc : va_K (dC, dI) vwCl [(cI, .int)] s := hK.sub (tys' := [(cI, .int)]) [0] rfl
  have hDc := hD.sub (ws' := [(q10, .inr (1, [.null, .int (zi 0)]))]) [8] (by decide) rfl
  have hFc := va_free (wc := [(q10, .inr (1, [.null, .int (zi 0)]))]) hD hS hA [8] rfl
  refine va_callv (va_runIN (As := []) (rest := [.ref q10, .ref h0]) ⟨hx, hb, hml, hown, hts⟩ hh11 ⟨va_cnB (host := RX4) 0 hts gX4_init_X1_init_n29 rfl rfl rfl (zRO_n29 hG) (hts (.initialized RX1) (by decide +kernel)) (by decide +kernel) ⟨Nat.le_of_ble_eq_true rfl, Nat.le_of_ble_eq_true rfl⟩, rfl, (hts (.instanceMethod yX1_init) (by decide +kernel))⟩ ⟨zPw.blind _ _ _ _ _, fun U hU hW => ⟨rfl, by rw [hU], by rw [hU]; exact hPc, va_K.moved hW.alike hKc, hDc.weaken (fun _ _ _ _ => trivial)⟩⟩ rfl rfl hl.1 rfl (lv_room (Nat.le_of_ble_eq_true rfl)) dX4_init_50 ⟨Nat.le_of_ble_eq_true rfl, Nat.le_of_ble_eq_true rfl⟩) hS (fun q _ h => hFc q h) hFc (fun u t H1 locs ht hvm hw hB hz1 hk1 hS => ?_)
  generalize u = qa_12 at hw hB
  have hw11 := hw
  replace hw11 : True := hw11
  obtain ⟨hP1, hK1, hD1⟩ := hB
  rw [ht] at hP1
  replace hP1 : va_P (dC, dI) vwCl [(q10, .inr (1, [.ref qa_12, .int (zi 0)])), (qa_12, aI cI 20 (fun _ => 0))] H1 := hP1
  replace hD1 : va_D _ [(q10, .inr (1, [.ref qa_12, .int (zi 0)])), (qa_12, aI cI 20 (fun _ => 0))] := hD1
  obtain ⟨hP, hD⟩ := va_join (wr := [(h0, .inr (4, [.ref q1, .ref q2, .ref q4, .ref q7, .null, .int (zi 0)])), (qd, aR cO 0 ed), (q1, aI cI 10 (fun _ => 0)), (q2, .inr (0, [.int (zi 0), .ref qd, .int (zi 0)])), (q4, .inr (2, [.ref qa_6, .int (zi 0), .int (zi 0)])), (qa_6, aI cI 366 (fun _ => 0)), (q7, .inr (1, [.ref qa_9, .int (zi 0)])), (qa_9, aI cI 20 (fun _ => 0))]) (w1 := [(q10, .inr (1, [.ref qa_12, .int (zi 0)])), (qa_12, aI cI 20 (fun _ => 0))]) hP hD [8] [0, 1, 2, 3, 4, 5, 6, 7] rfl rfl (by decide) (by decide) hk1 hFc hP1 hD1
  generalize H1 = H at hP hS ⊢
  have hP : va_P (dC, dI) vwCl [(h0, .inr (4, [.ref q1, .ref q2, .ref q4, .ref q7, .null, .int (zi 0)])), (qd, aR cO 0 ed), (q1, aI cI 10 (fun _ => 0)), (q2, .inr (0, [.int (zi 0), .ref qd, .int (zi 0)])), (q4, .inr (2, [.ref qa_6, .int (zi 0), .int (zi 0)])), (qa_6, aI cI 366 (fun _ => 0)), (q7, .inr (1, [.ref qa_9, .int (zi 0)])), (qa_9, aI cI 20 (fun _ => 0)), (q10, .inr (1, [.ref qa_12, .int (zi 0)])), (qa_12, aI cI 20 (fun _ => 0))] H := hP
  have hD : va_D A [(h0, .inr (4, [.ref q1, .ref q2, .ref q4, .ref q7, .null, .int (zi 0)])), (qd, aR cO 0 ed), (q1, aI cI 10 (fun _ => 0)), (q2, .inr (0, [.int (zi 0), .ref qd, .int (zi 0)])), (q4, .inr (2, [.ref qa_6, .int (zi 0), .int (zi 0)])), (qa_6, aI cI 366 (fun _ => 0)), (q7, .inr (1, [.ref qa_9, .int (zi 0)])), (qa_9, aI cI 20 (fun _ => 0)), (q10, .inr (1, [.ref qa_12, .int (zi 0)])), (qa_12, aI cI 20 (fun _ => 0))] := hD
  refine va_putF (D := (dC, dI)) (ci := 4) (v := .ref q10) (ty := (.object "CivilDays$Line")) (C := RX4) (T := TX4) (N := 6) hx hb hts (by decide +kernel) tyX4 tyX4_ok nmX4 hown hK hP hD hS 0 rfl rfl 4 (by decide) (hts (.fieldLink RX4 34 "CivilDays" "typed" "LCivilDays$Line;") (by decide +kernel)) (fun _ h9 => h9) rfl hini9 rfl (by decide +kernel) rfl rfl (Nat.le_of_ble_eq_true rfl) dX4_init_53 (fun H locs hP hD hS => ?_)
  have hP : va_P (dC, dI) vwCl [(h0, .inr (4, [.ref q1, .ref q2, .ref q4, .ref q7, .ref q10, .int (zi 0)])), (qd, aR cO 0 ed), (q1, aI cI 10 (fun _ => 0)), (q2, .inr (0, [.int (zi 0), .ref qd, .int (zi 0)])), (q4, .inr (2, [.ref qa_6, .int (zi 0), .int (zi 0)])), (qa_6, aI cI 366 (fun _ => 0)), (q7, .inr (1, [.ref qa_9, .int (zi 0)])), (qa_9, aI cI 20 (fun _ => 0)), (q10, .inr (1, [.ref qa_12, .int (zi 0)])), (qa_12, aI cI 20 (fun _ => 0))] H := hP
  have hD : va_D A [(h0, .inr (4, [.ref q1, .ref q2, .ref q4, .ref q7, .ref q10, .int (zi 0)])), (qd, aR cO 0 ed), (q1, aI cI 10 (fun _ => 0)), (q2, .inr (0, [.int (zi 0), .ref qd, .int (zi 0)])), (q4, .inr (2, [.ref qa_6, .int (zi 0), .int (zi 0)])), (qa_6, aI cI 366 (fun _ => 0)), (q7, .inr (1, [.ref qa_9, .int (zi 0)])), (qa_9, aI cI 20 (fun _ => 0)), (q10, .inr (1, [.ref qa_12, .int (zi 0)])), (qa_12, aI cI 20 (fun _ => 0))] := hD
  refine lv_aload_n hx hb dX4_init_56 rfl (lv_at hl 0 rfl) ?_
  have hh13 := c_X4_clear l dC dI cI cO h0 q1 q2 q4 q7 q10 0 (fun _ => 0) 0 qd 0 0 ed qa_9 0 (fun _ => 0) qa_12 0 (fun _ => 0) H.size (by omega)
  have hPc := hP.sub (ws' := [(h0, .inr (4, [.ref q1, .ref q2, .ref q4, .ref q7, .ref q10, .int (zi 0)])), (q1, aI cI 10 (fun _ => 0)), (q2, .inr (0, [.int (zi 0), .ref qd, .int (zi 0)])), (qd, aR cO 0 ed), (q7, .inr (1, [.ref qa_9, .int (zi 0)])), (qa_9, aI cI 20 (fun _ => 0)), (q10, .inr (1, [.ref qa_12, .int (zi 0)])), (qa_12, aI cI 20 (fun _ => 0))]) [0, 2, 3, 1, 6, 7, 8, 9] rfl
  have hKc : va_K (dC, dI) vwCl [(cI, .int), (cO, .object "java/lang/Object")] s := hK
  have hDc := hD.sub (ws' := [(h0, .inr (4, [.ref q1, .ref q2, .ref q4, .ref q7, .ref q10, .int (zi 0)])), (q1, aI cI 10 (fun _ => 0)), (q2, .inr (0, [.int (zi 0), .ref qd, .int (zi 0)])), (qd, aR cO 0 ed), (q7, .inr (1, [.ref qa_9, .int (zi 0)])), (qa_9, aI cI 20 (fun _ => 0)), (q10, .inr (1, [.ref qa_12, .int (zi 0)])), (qa_12, aI cI 20 (fun _ => 0))]) [0, 2, 3, 1, 6, 7, 8, 9] (by decide) rfl
  have hFc := va_free (wc := [(h0, .inr (4, [.ref q1, .ref q2, .ref q4, .ref q7, .ref q10, .int (zi 0)])), (q1, aI cI 10 (fun _ => 0)), (q2, .inr (0, [.int (zi 0), .ref qd, .int (zi 0)])), (qd, aR cO 0 ed), (q7, .inr (1, [.ref qa_9, .int (zi 0)])), (qa_9, aI cI 20 (fun _ => 0)), (q10, .inr (1, [.ref qa_12, .int (zi 0)])), (qa_12, aI cI 20 (fun _ => 0))]) hD hS hA [0, 2, 3, 1, 6, 7, 8, 9] rfl
  refine va_callv (va_runV (As := []) (rest := []) ⟨hx, hb, hml, hown, hts⟩ hh13 (cwV 0 hts gX4_init_X4_clear rfl rfl rfl (by decide +kernel) ⟨Nat.le_of_ble_eq_true rfl, Nat.le_of_ble_eq_true rfl⟩) ⟨zPw.blind _ _ _ _ _, va_recv hKc hPc (ci := 4) (q0 := 0) rfl rfl, fun U hU hW => ⟨rfl, by rw [hU], by rw [hU]; exact hPc, va_K.moved hW.alike hKc, hDc.weaken (fun _ _ _ _ => trivial)⟩⟩ rfl rfl hl.1 rfl (lv_room (Nat.le_of_ble_eq_true rfl)) dX4_init_57 ⟨Nat.le_of_ble_eq_true rfl, Nat.le_of_ble_eq_true rfl⟩) hS (fun q _ h => hFc q h) hFc (fun u t H1 locs ht hvm hw hB hz1 hk1 hS => ?_)
  obtain ⟨sg_14, eg_14⟩ := u
  have hw13 := hw
  replace hw13 : ∀ j : Nat, sg_14 j = if j < 10 then (-1) else (fun _ => 0) j := hw13
  obtain ⟨hP1, hK1, hD1⟩ := hB
  rw [ht] at hP1
  replace hP1 : va_P (dC, dI) vwCl [(h0, .inr (4, [.ref q1, .ref q2, .ref q4, .ref q7, .ref q10, .int (zi 96)])), (q1, aI cI 10 sg_14), (q2, .inr (0, [.int (zi (0 + 1)), .ref qd, .int (zi 0)])), (qd, aR cO 0 eg_14), (q7, .inr (1, [.ref qa_9, .int (zi 0)])), (qa_9, aI cI 20 (fun _ => 0)), (q10, .inr (1, [.ref qa_12, .int (zi 0)])), (qa_12, aI cI 20 (fun _ => 0))] H1 := hP1
  replace hD1 : va_D _ [(h0, .inr (4, [.ref q1, .ref q2, .ref q4, .ref q7, .ref q10, .int (zi 96)])), (q1, aI cI 10 sg_14), (q2, .inr (0, [.int (zi (0 + 1)), .ref qd, .int (zi 0)])), (qd, aR cO 0 eg_14), (q7, .inr (1, [.ref qa_9, .int (zi 0)])), (qa_9, aI cI 20 (fun _ => 0)), (q10, .inr (1, [.ref qa_12, .int (zi 0)])), (qa_12, aI cI 20 (fun _ => 0))] := hD1
  obtain ⟨hP, hD⟩ := va_join (wr := [(q4, .inr (2, [.ref qa_6, .int (zi 0), .int (zi 0)])), (qa_6, aI cI 366 (fun _ => 0))]) (w1 := [(h0, .inr (4, [.ref q1, .ref q2, .ref q4, .ref q7, .ref q10, .int (zi 96)])), (q1, aI cI 10 sg_14), (q2, .inr (0, [.int (zi (0 + 1)), .ref qd, .int (zi 0)])), (qd, aR cO 0 eg_14), (q7, .inr (1, [.ref qa_9, .int (zi 0)])), (qa_9, aI cI 20 (fun _ => 0)), (q10, .inr (1, [.ref qa_12, .int (zi 0)])), (qa_12, aI cI 20 (fun _ => 0))]) hP hD [0, 2, 3, 1, 6, 7, 8, 9] [4, 5] rfl rfl (by decide) (by decide) hk1 hFc hP1 hD1
  generalize H1 = H at hP hS ⊢
  have hP : va_P (dC, dI) vwCl [(q4, .inr (2, [.ref qa_6, .int (zi 0), .int (zi 0)])), (qa_6, aI cI 366 (fun _ => 0)), (h0, .inr (4, [.ref q1, .ref q2, .ref q4, .ref q7, .ref q10, .int (zi 96)])), (q1, aI cI 10 sg_14), (q2, .inr (0, [.int (zi (0 + 1)), .ref qd, .int (zi 0)])), (qd, aR cO 0 eg_14), (q7, .inr (1, [.ref qa_9, .int (zi 0)])), (qa_9, aI cI 20 (fun _ => 0)), (q10, .inr (1, [.ref qa_12, .int (zi 0)])), (qa_12, aI cI 20 (fun _ => 0))] H := hP
  have hD : va_D A [(q4, .inr (2, [.ref qa_6, .int (zi 0), .int (zi 0)])), (qa_6, aI cI 366 (fun _ => 0)), (h0, .inr (4, [.ref q1, .ref q2, .ref q4, .ref q7, .ref q10, .int (zi 96)])), (q1, aI cI 10 sg_14), (q2, .inr (0, [.int (zi (0 + 1)), .ref qd, .int (zi 0)])), (qd, aR cO 0 eg_14), (q7, .inr (1, [.ref qa_9, .int (zi 0)])), (qa_9, aI cI 20 (fun _ => 0)), (q10, .inr (1, [.ref qa_12, .int (zi 0)])), (qa_12, aI cI 20 (fun _ => 0))] := hD
  have hP9 := hP.sub (ws' := [(h0, .inr (4, [.ref q1, .ref q2, .ref q4, .ref q7, .ref q10, .int (zi 96)])), (q1, aI cI 10 sg_14), (q2, .inr (0, [.int (zi (0 + 1)), .ref qd, .int (zi 0)])), (qd, aR cO 0 eg_14), (q4, .inr (2, [.ref qa_6, .int (zi 0), .int (zi 0)])), (qa_6, aI cI 366 (fun _ => 0)), (q7, .inr (1, [.ref qa_9, .int (zi 0)])), (qa_9, aI cI 20 (fun _ => 0)), (q10, .inr (1, [.ref qa_12, .int (zi 0)])), (qa_12, aI cI 20 (fun _ => 0))]) [2, 3, 4, 5, 0, 1, 6, 7, 8, 9] rfl
  have hD9 := hD.sub (ws' := [(h0, .inr (4, [.ref q1, .ref q2, .ref q4, .ref q7, .ref q10, .int (zi 96)])), (q1, aI cI 10 sg_14), (q2, .inr (0, [.int (zi (0 + 1)), .ref qd, .int (zi 0)])), (qd, aR cO 0 eg_14), (q4, .inr (2, [.ref qa_6, .int (zi 0), .int (zi 0)])), (qa_6, aI cI 366 (fun _ => 0)), (q7, .inr (1, [.ref qa_9, .int (zi 0)])), (qa_9, aI cI 20 (fun _ => 0)), (q10, .inr (1, [.ref qa_12, .int (zi 0)])), (qa_12, aI cI 20 (fun _ => 0))]) [2, 3, 4, 5, 0, 1, 6, 7, 8, 9] (by decide) rfl
  have hp9 : ∀ j : Nat, sg_14 j = if j < 10 then (-1) else 0 := by
    assumption
  refine W.widen (k := 8) (n := 426) (Nat.le_of_ble_eq_true rfl) (Nat.le_of_ble_eq_true rfl) ?_
  exact W.vret hx hb hr (fun t ht hW => ⟨⟨(sg_14, eg_14, q1, q2, q4, q7, q10, qa_6, qa_9, qa_12), rfl, hp9, by rw [ht]; exact hP9, va_K.moved hW.alike hK, hD9⟩, hS.F ht⟩) hS.2.2 dX4_init_60

set_option maxHeartbeats 4000000 in
set_option maxRecDepth 100000 in
theorem c_X5_init (l : Launch)  (dC : Nat → ClassId) (dI : Nat → Nat → Nat) (cI : ClassId) (g0 : Nat) (sz : Nat)  : Met l yX5_init wsX5_init ({ frames := 1, cells := 7, slots := 90, locals := 24 }) (zPw (dC, dI) [(cI, .int)] sz [.ref g0] [(g0, .inr (5, [.int (zi 0), .null, .int (zi 0), .null, .null, .null, .null, .int (zi 0), .int (zi 0), .null, .int (zi 0), .null]))]) (va_Qv (fun (u : (Nat → Int) × (Nat) × (Nat) × (Nat) × (Nat) × (Nat) × (Nat) × (Nat)) => ∀ j : Nat, u.1 j = if j < 10 then (-1) else 0) (fun (u : (Nat → Int) × (Nat) × (Nat) × (Nat) × (Nat) × (Nat) × (Nat) × (Nat)) => zB (dC, dI) [(cI, .int)] (va_A [(g0, .inr (5, [.int (zi 0), .null, .int (zi 0), .null, .null, .null, .null, .int (zi 0), .int (zi 0), .null, .int (zi 0), .null]))] sz) [(g0, .inr (5, [.int (zi 0), .ref u.2.1, .int (zi 0), .ref u.2.2.1, .ref u.2.2.2.1, .ref u.2.2.2.2.1, .ref u.2.2.2.2.2.1, .int (zi 96), .int (zi 0), .ref u.2.2.2.2.2.2.1, .int (zi 0), .ref u.2.2.2.2.2.2.2])), (u.2.1, aI cI 10 u.1), (u.2.2.1, aI cI 12 (fun _ => 0)), (u.2.2.2.1, aI cI 12 (fun _ => 0)), (u.2.2.2.2.1, aI cI 12 (fun _ => 0)), (u.2.2.2.2.2.1, aI cI 12 (fun _ => 0)), (u.2.2.2.2.2.2.1, aI cI 12 (fun _ => 0)), (u.2.2.2.2.2.2.2, aI cI 20 (fun _ => 0))] ()) (va_A [(g0, .inr (5, [.int (zi 0), .null, .int (zi 0), .null, .null, .null, .null, .int (zi 0), .int (zi 0), .null, .int (zi 0), .null]))] sz)) 7 90 (va_A [(g0, .inr (5, [.int (zi 0), .null, .int (zi 0), .null, .null, .null, .null, .int (zi 0), .int (zi 0), .null, .int (zi 0), .null]))] sz) := by
  refine Met.ofW (cc := cX5_init) (maxL := 2) (ret := none) (by decide) rfl ?_
  intro p e s m args below meth c s₁ B hml hv
  obtain ⟨rfl, hsz, hP, hK, hD0⟩ := hv
  have hini9 : meth.name = "<init>" := (name_of_methodNamed B.named B.method).1
  have hx := B.exec
  have hb := B.bytes
  have hr := B.returns
  have hts := atoms_spec (ws := wsX5_init) B.pre
  have hown : s.vm.findClass RX5 = some m.cls := findClass_of_methodNamed B.named
  have hlocks := B.notSynchronized
  subst hsz
  have hD := hD0.self (sz := s.heap.size)
  generalize hAe : va_A [(g0, .inr (5, [.int (zi 0), .null, .int (zi 0), .null, .null, .null, .null, .int (zi 0), .int (zi 0), .null, .int (zi 0), .null]))] s.heap.size = A at hD ⊢
  have hA : ∀ q : Nat, s.heap.size ≤ q → A q := fun q h => by rw [← hAe]; exact Or.inr h
  have hS : va_S A s.heap s.heap [] := va_S.rf
  have hP : va_P (dC, dI) vwCl [(g0, .inr (5, [.int (zi 0), .null, .int (zi 0), .null, .null, .null, .null, .int (zi 0), .int (zi 0), .null, .int (zi 0), .null]))] s.heap := hP
  have hl := lv_entry ([.ref g0]) (n := 2) (Nat.le_of_ble_eq_true rfl)
  rw [lg_entry_eq]
  generalize (lg_sl ([.ref g0]) ++ List.replicate (2 - (lg_sl ([.ref g0])).length) Slot.unset).toArray = ls at hl ⊢
  have hl : lv_has ls 2 [(0, .ref g0)] := hl
  refine lv_aload_n hx hb dX5_init_0 rfl (lv_at hl 0 rfl) ?_
  refine zw_objInit hx hb hown (hts (.methodLink RX5 1 objectInit) (by decide +kernel)) (hts (.instanceMethod objectInit) (by decide +kernel)) (hts (.code objectInit ⟨#[0xb1]⟩ 1 none) (by decide +kernel)) (hl.1.trans hml.symm) dX5_init_1 (Nat.le_of_ble_eq_true rfl) (Nat.le_of_ble_eq_true rfl) ?_
  refine lv_aload_n hx hb dX5_init_4 rfl (lv_at hl 0 rfl) ?_
  refine zw_bipush hx hb dX5_init_5 (by decide) ?_
  refine zw_newI (N9 := 10) hx hb (hts (.arrayClass .int) (by decide +kernel)) hK hP hD hS hA rfl (Nat.le_of_ble_eq_true rfl) (Nat.le_of_ble_eq_true rfl) (Nat.le_of_ble_eq_true rfl) dX5_init_7 (fun q1 cA1 H hKn hP hD hS => ?_)
  obtain rfl : cI = cA1 := zK_same hKn 0 1 rfl rfl
  have hP : va_P (dC, dI) vwCl [(g0, .inr (5, [.int (zi 0), .null, .int (zi 0), .null, .null, .null, .null, .int (zi 0), .int (zi 0), .null, .int (zi 0), .null])), (q1, aI cI 10 (fun _ => 0))] H := hP
  have hD : va_D A [(g0, .inr (5, [.int (zi 0), .null, .int (zi 0), .null, .null, .null, .null, .int (zi 0), .int (zi 0), .null, .int (zi 0), .null])), (q1, aI cI 10 (fun _ => 0))] := hD
  refine va_putF (D := (dC, dI)) (ci := 5) (v := .ref q1) (ty := (.array .int)) (C := RX5) (T := TX5) (N := 12) hx hb hts (by decide +kernel) tyX5 tyX5_ok nmX5 hown hK hP hD hS 0 rfl rfl 1 (by decide) (hts (.fieldLink RX5 7 "CivilDaysModel" "slots" "[I") (by decide +kernel)) (fun _ h9 => h9) rfl hini9 rfl (by decide +kernel) rfl rfl (Nat.le_of_ble_eq_true rfl) dX5_init_9 (fun H locs hP hD hS => ?_)
  have hP : va_P (dC, dI) vwCl [(g0, .inr (5, [.int (zi 0), .ref q1, .int (zi 0), .null, .null, .null, .null, .int (zi 0), .int (zi 0), .null, .int (zi 0), .null])), (q1, aI cI 10 (fun _ => 0))] H := hP
  have hD : va_D A [(g0, .inr (5, [.int (zi 0), .ref q1, .int (zi 0), .null, .null, .null, .null, .int (zi 0), .int (zi 0), .null, .int (zi 0), .null])), (q1, aI cI 10 (fun _ => 0))] := hD
  refine lv_aload_n hx hb dX5_init_12 rfl (lv_at hl 0 rfl) ?_
  refine zw_bipush hx hb dX5_init_13 (by decide) ?_
  refine zw_newI (N9 := 12) hx hb (hts (.arrayClass .int) (by decide +kernel)) hK hP hD hS hA rfl (Nat.le_of_ble_eq_true rfl) (Nat.le_of_ble_eq_true rfl) (Nat.le_of_ble_eq_true rfl) dX5_init_15 (fun q2 cA2 H hKn hP hD hS => ?_)
  obtain rfl : cI = cA2 := zK_same hKn 0 1 rfl rfl
  have hP : va_P (dC, dI) vwCl [(g0, .inr (5, [.int (zi 0), .ref q1, .int (zi 0), .null, .null, .null, .null, .int (zi 0), .int (zi 0), .null, .int (zi 0), .null])), (q1, aI cI 10 (fun _ => 0)), (q2, aI cI 12 (fun _ => 0))] H := hP
  have hD : va_D A [(g0, .inr (5, [.int (zi 0), .ref q1, .int (zi 0), .null, .null, .null, .null, .int (zi 0), .int (zi 0), .null, .int (zi 0), .null])), (q1, aI cI 10 (fun _ => 0)), (q2, aI cI 12 (fun _ => 0))] := hD
  refine va_putF (D := (dC, dI)) (ci := 5) (v := .ref q2) (ty := (.array .int)) (C := RX5) (T := TX5) (N := 12) hx hb hts (by decide +kernel) tyX5 tyX5_ok nmX5 hown hK hP hD hS 0 rfl rfl 3 (by decide) (hts (.fieldLink RX5 13 "CivilDaysModel" "kinds" "[I") (by decide +kernel)) (fun _ h9 => h9) rfl hini9 rfl (by decide +kernel) rfl rfl (Nat.le_of_ble_eq_true rfl) dX5_init_17 (fun H locs hP hD hS => ?_)
  have hP : va_P (dC, dI) vwCl [(g0, .inr (5, [.int (zi 0), .ref q1, .int (zi 0), .ref q2, .null, .null, .null, .int (zi 0), .int (zi 0), .null, .int (zi 0), .null])), (q1, aI cI 10 (fun _ => 0)), (q2, aI cI 12 (fun _ => 0))] H := hP
  have hD : va_D A [(g0, .inr (5, [.int (zi 0), .ref q1, .int (zi 0), .ref q2, .null, .null, .null, .int (zi 0), .int (zi 0), .null, .int (zi 0), .null])), (q1, aI cI 10 (fun _ => 0)), (q2, aI cI 12 (fun _ => 0))] := hD
  refine lv_aload_n hx hb dX5_init_20 rfl (lv_at hl 0 rfl) ?_
  refine zw_bipush hx hb dX5_init_21 (by decide) ?_
  refine zw_newI (N9 := 12) hx hb (hts (.arrayClass .int) (by decide +kernel)) hK hP hD hS hA rfl (Nat.le_of_ble_eq_true rfl) (Nat.le_of_ble_eq_true rfl) (Nat.le_of_ble_eq_true rfl) dX5_init_23 (fun q3 cA3 H hKn hP hD hS => ?_)
  obtain rfl : cI = cA3 := zK_same hKn 0 1 rfl rfl
  have hP : va_P (dC, dI) vwCl [(g0, .inr (5, [.int (zi 0), .ref q1, .int (zi 0), .ref q2, .null, .null, .null, .int (zi 0), .int (zi 0), .null, .int (zi 0), .null])), (q1, aI cI 10 (fun _ => 0)), (q2, aI cI 12 (fun _ => 0)), (q3, aI cI 12 (fun _ => 0))] H := hP
  have hD : va_D A [(g0, .inr (5, [.int (zi 0), .ref q1, .int (zi 0), .ref q2, .null, .null, .null, .int (zi 0), .int (zi 0), .null, .int (zi 0), .null])), (q1, aI cI 10 (fun _ => 0)), (q2, aI cI 12 (fun _ => 0)), (q3, aI cI 12 (fun _ => 0))] := hD
  refine va_putF (D := (dC, dI)) (ci := 5) (v := .ref q3) (ty := (.array .int)) (C := RX5) (T := TX5) (N := 12) hx hb hts (by decide +kernel) tyX5 tyX5_ok nmX5 hown hK hP hD hS 0 rfl rfl 4 (by decide) (hts (.fieldLink RX5 16 "CivilDaysModel" "as" "[I") (by decide +kernel)) (fun _ h9 => h9) rfl hini9 rfl (by decide +kernel) rfl rfl (Nat.le_of_ble_eq_true rfl) dX5_init_25 (fun H locs hP hD hS => ?_)
  have hP : va_P (dC, dI) vwCl [(g0, .inr (5, [.int (zi 0), .ref q1, .int (zi 0), .ref q2, .ref q3, .null, .null, .int (zi 0), .int (zi 0), .null, .int (zi 0), .null])), (q1, aI cI 10 (fun _ => 0)), (q2, aI cI 12 (fun _ => 0)), (q3, aI cI 12 (fun _ => 0))] H := hP
  have hD : va_D A [(g0, .inr (5, [.int (zi 0), .ref q1, .int (zi 0), .ref q2, .ref q3, .null, .null, .int (zi 0), .int (zi 0), .null, .int (zi 0), .null])), (q1, aI cI 10 (fun _ => 0)), (q2, aI cI 12 (fun _ => 0)), (q3, aI cI 12 (fun _ => 0))] := hD
  refine lv_aload_n hx hb dX5_init_28 rfl (lv_at hl 0 rfl) ?_
  refine zw_bipush hx hb dX5_init_29 (by decide) ?_
  refine zw_newI (N9 := 12) hx hb (hts (.arrayClass .int) (by decide +kernel)) hK hP hD hS hA rfl (Nat.le_of_ble_eq_true rfl) (Nat.le_of_ble_eq_true rfl) (Nat.le_of_ble_eq_true rfl) dX5_init_31 (fun q4 cA4 H hKn hP hD hS => ?_)
  obtain rfl : cI = cA4 := zK_same hKn 0 1 rfl rfl
  have hP : va_P (dC, dI) vwCl [(g0, .inr (5, [.int (zi 0), .ref q1, .int (zi 0), .ref q2, .ref q3, .null, .null, .int (zi 0), .int (zi 0), .null, .int (zi 0), .null])), (q1, aI cI 10 (fun _ => 0)), (q2, aI cI 12 (fun _ => 0)), (q3, aI cI 12 (fun _ => 0)), (q4, aI cI 12 (fun _ => 0))] H := hP
  have hD : va_D A [(g0, .inr (5, [.int (zi 0), .ref q1, .int (zi 0), .ref q2, .ref q3, .null, .null, .int (zi 0), .int (zi 0), .null, .int (zi 0), .null])), (q1, aI cI 10 (fun _ => 0)), (q2, aI cI 12 (fun _ => 0)), (q3, aI cI 12 (fun _ => 0)), (q4, aI cI 12 (fun _ => 0))] := hD
  refine va_putF (D := (dC, dI)) (ci := 5) (v := .ref q4) (ty := (.array .int)) (C := RX5) (T := TX5) (N := 12) hx hb hts (by decide +kernel) tyX5 tyX5_ok nmX5 hown hK hP hD hS 0 rfl rfl 5 (by decide) (hts (.fieldLink RX5 19 "CivilDaysModel" "bs" "[I") (by decide +kernel)) (fun _ h9 => h9) rfl hini9 rfl (by decide +kernel) rfl rfl (Nat.le_of_ble_eq_true rfl) dX5_init_33 (fun H locs hP hD hS => ?_)
  have hP : va_P (dC, dI) vwCl [(g0, .inr (5, [.int (zi 0), .ref q1, .int (zi 0), .ref q2, .ref q3, .ref q4, .null, .int (zi 0), .int (zi 0), .null, .int (zi 0), .null])), (q1, aI cI 10 (fun _ => 0)), (q2, aI cI 12 (fun _ => 0)), (q3, aI cI 12 (fun _ => 0)), (q4, aI cI 12 (fun _ => 0))] H := hP
  have hD : va_D A [(g0, .inr (5, [.int (zi 0), .ref q1, .int (zi 0), .ref q2, .ref q3, .ref q4, .null, .int (zi 0), .int (zi 0), .null, .int (zi 0), .null])), (q1, aI cI 10 (fun _ => 0)), (q2, aI cI 12 (fun _ => 0)), (q3, aI cI 12 (fun _ => 0)), (q4, aI cI 12 (fun _ => 0))] := hD
  refine lv_aload_n hx hb dX5_init_36 rfl (lv_at hl 0 rfl) ?_
  refine zw_bipush hx hb dX5_init_37 (by decide) ?_
  refine zw_newI (N9 := 12) hx hb (hts (.arrayClass .int) (by decide +kernel)) hK hP hD hS hA rfl (Nat.le_of_ble_eq_true rfl) (Nat.le_of_ble_eq_true rfl) (Nat.le_of_ble_eq_true rfl) dX5_init_39 (fun q5 cA5 H hKn hP hD hS => ?_)
  obtain rfl : cI = cA5 := zK_same hKn 0 1 rfl rfl
  have hP : va_P (dC, dI) vwCl [(g0, .inr (5, [.int (zi 0), .ref q1, .int (zi 0), .ref q2, .ref q3, .ref q4, .null, .int (zi 0), .int (zi 0), .null, .int (zi 0), .null])), (q1, aI cI 10 (fun _ => 0)), (q2, aI cI 12 (fun _ => 0)), (q3, aI cI 12 (fun _ => 0)), (q4, aI cI 12 (fun _ => 0)), (q5, aI cI 12 (fun _ => 0))] H := hP
  have hD : va_D A [(g0, .inr (5, [.int (zi 0), .ref q1, .int (zi 0), .ref q2, .ref q3, .ref q4, .null, .int (zi 0), .int (zi 0), .null, .int (zi 0), .null])), (q1, aI cI 10 (fun _ => 0)), (q2, aI cI 12 (fun _ => 0)), (q3, aI cI 12 (fun _ => 0)), (q4, aI cI 12 (fun _ => 0)), (q5, aI cI 12 (fun _ => 0))] := hD
  refine va_putF (D := (dC, dI)) (ci := 5) (v := .ref q5) (ty := (.array .int)) (C := RX5) (T := TX5) (N := 12) hx hb hts (by decide +kernel) tyX5 tyX5_ok nmX5 hown hK hP hD hS 0 rfl rfl 6 (by decide) (hts (.fieldLink RX5 22 "CivilDaysModel" "cs" "[I") (by decide +kernel)) (fun _ h9 => h9) rfl hini9 rfl (by decide +kernel) rfl rfl (Nat.le_of_ble_eq_true rfl) dX5_init_41 (fun H locs hP hD hS => ?_)
  have hP : va_P (dC, dI) vwCl [(g0, .inr (5, [.int (zi 0), .ref q1, .int (zi 0), .ref q2, .ref q3, .ref q4, .ref q5, .int (zi 0), .int (zi 0), .null, .int (zi 0), .null])), (q1, aI cI 10 (fun _ => 0)), (q2, aI cI 12 (fun _ => 0)), (q3, aI cI 12 (fun _ => 0)), (q4, aI cI 12 (fun _ => 0)), (q5, aI cI 12 (fun _ => 0))] H := hP
  have hD : va_D A [(g0, .inr (5, [.int (zi 0), .ref q1, .int (zi 0), .ref q2, .ref q3, .ref q4, .ref q5, .int (zi 0), .int (zi 0), .null, .int (zi 0), .null])), (q1, aI cI 10 (fun _ => 0)), (q2, aI cI 12 (fun _ => 0)), (q3, aI cI 12 (fun _ => 0)), (q4, aI cI 12 (fun _ => 0)), (q5, aI cI 12 (fun _ => 0))] := hD
  refine lv_aload_n hx hb dX5_init_44 rfl (lv_at hl 0 rfl) ?_
  refine zw_bipush hx hb dX5_init_45 (by decide) ?_
  refine va_put (D := (dC, dI)) (ci := 5) (v := .int (zi 96)) (ty := .int) (C := RX5) (T := TX5) (N := 12) hx hb hts (by decide +kernel) tyX5 tyX5_ok nmX5 hown hK hP hD hS 0 rfl rfl 7 (by decide) (hts (.fieldLink RX5 25 "CivilDaysModel" "weekend" "I") (by decide +kernel)) (fun _ h9 => h9) rfl (by decide +kernel) rfl rfl (Nat.le_of_ble_eq_true rfl) dX5_init_47 (fun H locs hP hD hS => ?_)
  have hP : va_P (dC, dI) vwCl [(g0, .inr (5, [.int (zi 0), .ref q1, .int (zi 0), .ref q2, .ref q3, .ref q4, .ref q5, .int (zi 96), .int (zi 0), .null, .int (zi 0), .null])), (q1, aI cI 10 (fun _ => 0)), (q2, aI cI 12 (fun _ => 0)), (q3, aI cI 12 (fun _ => 0)), (q4, aI cI 12 (fun _ => 0)), (q5, aI cI 12 (fun _ => 0))] H := hP
  have hD : va_D A [(g0, .inr (5, [.int (zi 0), .ref q1, .int (zi 0), .ref q2, .ref q3, .ref q4, .ref q5, .int (zi 96), .int (zi 0), .null, .int (zi 0), .null])), (q1, aI cI 10 (fun _ => 0)), (q2, aI cI 12 (fun _ => 0)), (q3, aI cI 12 (fun _ => 0)), (q4, aI cI 12 (fun _ => 0)), (q5, aI cI 12 (fun _ => 0))] := hD
  refine lv_aload_n hx hb dX5_init_50 rfl (lv_at hl 0 rfl) ?_
  refine zw_bipush hx hb dX5_init_51 (by decide) ?_
  refine zw_newI (N9 := 12) hx hb (hts (.arrayClass .int) (by decide +kernel)) hK hP hD hS hA rfl (Nat.le_of_ble_eq_true rfl) (Nat.le_of_ble_eq_true rfl) (Nat.le_of_ble_eq_true rfl) dX5_init_53 (fun q6 cA6 H hKn hP hD hS => ?_)
  obtain rfl : cI = cA6 := zK_same hKn 0 1 rfl rfl
  have hP : va_P (dC, dI) vwCl [(g0, .inr (5, [.int (zi 0), .ref q1, .int (zi 0), .ref q2, .ref q3, .ref q4, .ref q5, .int (zi 96), .int (zi 0), .null, .int (zi 0), .null])), (q1, aI cI 10 (fun _ => 0)), (q2, aI cI 12 (fun _ => 0)), (q3, aI cI 12 (fun _ => 0)), (q4, aI cI 12 (fun _ => 0)), (q5, aI cI 12 (fun _ => 0)), (q6, aI cI 12 (fun _ => 0))] H := hP
  have hD : va_D A [(g0, .inr (5, [.int (zi 0), .ref q1, .int (zi 0), .ref q2, .ref q3, .ref q4, .ref q5, .int (zi 96), .int (zi 0), .null, .int (zi 0), .null])), (q1, aI cI 10 (fun _ => 0)), (q2, aI cI 12 (fun _ => 0)), (q3, aI cI 12 (fun _ => 0)), (q4, aI cI 12 (fun _ => 0)), (q5, aI cI 12 (fun _ => 0)), (q6, aI cI 12 (fun _ => 0))] := hD
  refine va_putF (D := (dC, dI)) (ci := 5) (v := .ref q6) (ty := (.array .int)) (C := RX5) (T := TX5) (N := 12) hx hb hts (by decide +kernel) tyX5 tyX5_ok nmX5 hown hK hP hD hS 0 rfl rfl 9 (by decide) (hts (.fieldLink RX5 29 "CivilDaysModel" "writing" "[I") (by decide +kernel)) (fun _ h9 => h9) rfl hini9 rfl (by decide +kernel) rfl rfl (Nat.le_of_ble_eq_true rfl) dX5_init_55 (fun H locs hP hD hS => ?_)
  have hP : va_P (dC, dI) vwCl [(g0, .inr (5, [.int (zi 0), .ref q1, .int (zi 0), .ref q2, .ref q3, .ref q4, .ref q5, .int (zi 96), .int (zi 0), .ref q6, .int (zi 0), .null])), (q1, aI cI 10 (fun _ => 0)), (q2, aI cI 12 (fun _ => 0)), (q3, aI cI 12 (fun _ => 0)), (q4, aI cI 12 (fun _ => 0)), (q5, aI cI 12 (fun _ => 0)), (q6, aI cI 12 (fun _ => 0))] H := hP
  have hD : va_D A [(g0, .inr (5, [.int (zi 0), .ref q1, .int (zi 0), .ref q2, .ref q3, .ref q4, .ref q5, .int (zi 96), .int (zi 0), .ref q6, .int (zi 0), .null])), (q1, aI cI 10 (fun _ => 0)), (q2, aI cI 12 (fun _ => 0)), (q3, aI cI 12 (fun _ => 0)), (q4, aI cI 12 (fun _ => 0)), (q5, aI cI 12 (fun _ => 0)), (q6, aI cI 12 (fun _ => 0))] := hD
  refine lv_aload_n hx hb dX5_init_58 rfl (lv_at hl 0 rfl) ?_
  refine zw_bipush hx hb dX5_init_59 (by decide) ?_
  refine zw_newI (N9 := 20) hx hb (hts (.arrayClass .int) (by decide +kernel)) hK hP hD hS hA rfl (Nat.le_of_ble_eq_true rfl) (Nat.le_of_ble_eq_true rfl) (Nat.le_of_ble_eq_true rfl) dX5_init_61 (fun q7 cA7 H hKn hP hD hS => ?_)
  obtain rfl : cI = cA7 := zK_same hKn 0 1 rfl rfl
  have hP : va_P (dC, dI) vwCl [(g0, .inr (5, [.int (zi 0), .ref q1, .int (zi 0), .ref q2, .ref q3, .ref q4, .ref q5, .int (zi 96), .int (zi 0), .ref q6, .int (zi 0), .null])), (q1, aI cI 10 (fun _ => 0)), (q2, aI cI 12 (fun _ => 0)), (q3, aI cI 12 (fun _ => 0)), (q4, aI cI 12 (fun _ => 0)), (q5, aI cI 12 (fun _ => 0)), (q6, aI cI 12 (fun _ => 0)), (q7, aI cI 20 (fun _ => 0))] H := hP
  have hD : va_D A [(g0, .inr (5, [.int (zi 0), .ref q1, .int (zi 0), .ref q2, .ref q3, .ref q4, .ref q5, .int (zi 96), .int (zi 0), .ref q6, .int (zi 0), .null])), (q1, aI cI 10 (fun _ => 0)), (q2, aI cI 12 (fun _ => 0)), (q3, aI cI 12 (fun _ => 0)), (q4, aI cI 12 (fun _ => 0)), (q5, aI cI 12 (fun _ => 0)), (q6, aI cI 12 (fun _ => 0)), (q7, aI cI 20 (fun _ => 0))] := hD
  refine va_putF (D := (dC, dI)) (ci := 5) (v := .ref q7) (ty := (.array .int)) (C := RX5) (T := TX5) (N := 12) hx hb hts (by decide +kernel) tyX5 tyX5_ok nmX5 hown hK hP hD hS 0 rfl rfl 11 (by decide) (hts (.fieldLink RX5 32 "CivilDaysModel" "typing" "[I") (by decide +kernel)) (fun _ h9 => h9) rfl hini9 rfl (by decide +kernel) rfl rfl (Nat.le_of_ble_eq_true rfl) dX5_init_63 (fun H locs hP hD hS => ?_)
  have hP : va_P (dC, dI) vwCl [(g0, .inr (5, [.int (zi 0), .ref q1, .int (zi 0), .ref q2, .ref q3, .ref q4, .ref q5, .int (zi 96), .int (zi 0), .ref q6, .int (zi 0), .ref q7])), (q1, aI cI 10 (fun _ => 0)), (q2, aI cI 12 (fun _ => 0)), (q3, aI cI 12 (fun _ => 0)), (q4, aI cI 12 (fun _ => 0)), (q5, aI cI 12 (fun _ => 0)), (q6, aI cI 12 (fun _ => 0)), (q7, aI cI 20 (fun _ => 0))] H := hP
  have hD : va_D A [(g0, .inr (5, [.int (zi 0), .ref q1, .int (zi 0), .ref q2, .ref q3, .ref q4, .ref q5, .int (zi 96), .int (zi 0), .ref q6, .int (zi 0), .ref q7])), (q1, aI cI 10 (fun _ => 0)), (q2, aI cI 12 (fun _ => 0)), (q3, aI cI 12 (fun _ => 0)), (q4, aI cI 12 (fun _ => 0)), (q5, aI cI 12 (fun _ => 0)), (q6, aI cI 12 (fun _ => 0)), (q7, aI cI 20 (fun _ => 0))] := hD
  refine zw_iconst hx hb dX5_init_66 ?_
  refine lv_istore_n (lv' := [(1, .int (zi 0)), (0, .ref g0)]) hx hb dX5_init_67 rfl hl (by decide) rfl (fun ls hl => ?_)
  refine lv_iload_n hx hb dX5_init_68 rfl (lv_at hl 0 rfl) ?_
  refine zw_bipush hx hb dX5_init_69 (by decide) ?_
  refine zw_icmp_ge (tgt := 87) hx hb dX5_init_71 (by decide) ⟨by omega, by omega⟩ ⟨by omega, by omega⟩ (fun h8 => ?_) (fun h8 => ?_)
  · skip
    exact absurd True.intro (by omega)
  · skip
    refine lv_aload_n hx hb dX5_init_74 rfl (lv_at hl 1 rfl) ?_
    refine va_get (D := (dC, dI)) (ci := 5) (v := .ref q1) (C := RX5) (T := TX5) (N := 12) hx hb hts (by decide +kernel) hown hK hP 0 rfl rfl 1 (by decide) (hts (.fieldLink RX5 7 "CivilDaysModel" "slots" "[I") (by decide +kernel)) (fun _ h9 => h9) rfl dX5_init_75 ?_
    refine lv_iload_n hx hb dX5_init_78 rfl (lv_at hl 0 rfl) ?_
    refine zw_iconst hx hb dX5_init_79 ?_
    refine zw_iast hx hb hK hP hD hS 1 0 rfl rfl (by omega) (by omega) ⟨by omega, by omega⟩ dX5_init_80 (fun H locs hP hD hS => ?_)
    have hP : va_P (dC, dI) vwCl [(g0, .inr (5, [.int (zi 0), .ref q1, .int (zi 0), .ref q2, .ref q3, .ref q4, .ref q5, .int (zi 96), .int (zi 0), .ref q6, .int (zi 0), .ref q7])), (q1, aI cI 10 (zup (fun _ => 0) (Int.toNat 0) (-1))), (q2, aI cI 12 (fun _ => 0)), (q3, aI cI 12 (fun _ => 0)), (q4, aI cI 12 (fun _ => 0)), (q5, aI cI 12 (fun _ => 0)), (q6, aI cI 12 (fun _ => 0)), (q7, aI cI 20 (fun _ => 0))] H := hP
    have hD : va_D A [(g0, .inr (5, [.int (zi 0), .ref q1, .int (zi 0), .ref q2, .ref q3, .ref q4, .ref q5, .int (zi 96), .int (zi 0), .ref q6, .int (zi 0), .ref q7])), (q1, aI cI 10 (zup (fun _ => 0) (Int.toNat 0) (-1))), (q2, aI cI 12 (fun _ => 0)), (q3, aI cI 12 (fun _ => 0)), (q4, aI cI 12 (fun _ => 0)), (q5, aI cI 12 (fun _ => 0)), (q6, aI cI 12 (fun _ => 0)), (q7, aI cI 20 (fun _ => 0))] := hD
    refine zw_iinc (z := 1) (lv' := [(1, .int (zi 1)), (0, .ref g0)]) (k := 0) hx hb (by decide) dX5_init_81 hl rfl (by decide) rfl (fun ls hl => ?_)
    refine lv_goto (tgt := 68) hx hb dX5_init_84 (by decide) ?_
    refine lv_iload_n hx hb dX5_init_68 rfl (lv_at hl 0 rfl) ?_
    refine zw_bipush hx hb dX5_init_69 (by decide) ?_
    refine zw_icmp_ge (tgt := 87) hx hb dX5_init_71 (by decide) ⟨by omega, by omega⟩ ⟨by omega, by omega⟩ (fun h9 => ?_) (fun h9 => ?_)
    · skip
      exact absurd True.intro (by omega)
    · skip
      refine lv_aload_n hx hb dX5_init_74 rfl (lv_at hl 1 rfl) ?_
      refine va_get (D := (dC, dI)) (ci := 5) (v := .ref q1) (C := RX5) (T := TX5) (N := 12) hx hb hts (by decide +kernel) hown hK hP 0 rfl rfl 1 (by decide) (hts (.fieldLink RX5 7 "CivilDaysModel" "slots" "[I") (by decide +kernel)) (fun _ h9 => h9) rfl dX5_init_75 ?_
      refine lv_iload_n hx hb dX5_init_78 rfl (lv_at hl 0 rfl) ?_
      refine zw_iconst hx hb dX5_init_79 ?_
      refine zw_iast hx hb hK hP hD hS 1 0 rfl rfl (by omega) (by omega) ⟨by omega, by omega⟩ dX5_init_80 (fun H locs hP hD hS => ?_)
      have hP : va_P (dC, dI) vwCl [(g0, .inr (5, [.int (zi 0), .ref q1, .int (zi 0), .ref q2, .ref q3, .ref q4, .ref q5, .int (zi 96), .int (zi 0), .ref q6, .int (zi 0), .ref q7])), (q1, aI cI 10 (zup (zup (fun _ => 0) (Int.toNat 0) (-1)) (Int.toNat 1) (-1))), (q2, aI cI 12 (fun _ => 0)), (q3, aI cI 12 (fun _ => 0)), (q4, aI cI 12 (fun _ => 0)), (q5, aI cI 12 (fun _ => 0)), (q6, aI cI 12 (fun _ => 0)), (q7, aI cI 20 (fun _ => 0))] H := hP
      have hD : va_D A [(g0, .inr (5, [.int (zi 0), .ref q1, .int (zi 0), .ref q2, .ref q3, .ref q4, .ref q5, .int (zi 96), .int (zi 0), .ref q6, .int (zi 0), .ref q7])), (q1, aI cI 10 (zup (zup (fun _ => 0) (Int.toNat 0) (-1)) (Int.toNat 1) (-1))), (q2, aI cI 12 (fun _ => 0)), (q3, aI cI 12 (fun _ => 0)), (q4, aI cI 12 (fun _ => 0)), (q5, aI cI 12 (fun _ => 0)), (q6, aI cI 12 (fun _ => 0)), (q7, aI cI 20 (fun _ => 0))] := hD
      refine zw_iinc (z := 2) (lv' := [(1, .int (zi 2)), (0, .ref g0)]) (k := 0) hx hb (by decide) dX5_init_81 hl rfl (by decide) rfl (fun ls hl => ?_)
      refine lv_goto (tgt := 68) hx hb dX5_init_84 (by decide) ?_
      refine lv_iload_n hx hb dX5_init_68 rfl (lv_at hl 0 rfl) ?_
      refine zw_bipush hx hb dX5_init_69 (by decide) ?_
      refine zw_icmp_ge (tgt := 87) hx hb dX5_init_71 (by decide) ⟨by omega, by omega⟩ ⟨by omega, by omega⟩ (fun h10 => ?_) (fun h10 => ?_)
      · skip
        exact absurd True.intro (by omega)
      · skip
        refine lv_aload_n hx hb dX5_init_74 rfl (lv_at hl 1 rfl) ?_
        refine va_get (D := (dC, dI)) (ci := 5) (v := .ref q1) (C := RX5) (T := TX5) (N := 12) hx hb hts (by decide +kernel) hown hK hP 0 rfl rfl 1 (by decide) (hts (.fieldLink RX5 7 "CivilDaysModel" "slots" "[I") (by decide +kernel)) (fun _ h9 => h9) rfl dX5_init_75 ?_
        refine lv_iload_n hx hb dX5_init_78 rfl (lv_at hl 0 rfl) ?_
        refine zw_iconst hx hb dX5_init_79 ?_
        refine zw_iast hx hb hK hP hD hS 1 0 rfl rfl (by omega) (by omega) ⟨by omega, by omega⟩ dX5_init_80 (fun H locs hP hD hS => ?_)
        have hP : va_P (dC, dI) vwCl [(g0, .inr (5, [.int (zi 0), .ref q1, .int (zi 0), .ref q2, .ref q3, .ref q4, .ref q5, .int (zi 96), .int (zi 0), .ref q6, .int (zi 0), .ref q7])), (q1, aI cI 10 (zup (zup (zup (fun _ => 0) (Int.toNat 0) (-1)) (Int.toNat 1) (-1)) (Int.toNat 2) (-1))), (q2, aI cI 12 (fun _ => 0)), (q3, aI cI 12 (fun _ => 0)), (q4, aI cI 12 (fun _ => 0)), (q5, aI cI 12 (fun _ => 0)), (q6, aI cI 12 (fun _ => 0)), (q7, aI cI 20 (fun _ => 0))] H := hP
        have hD : va_D A [(g0, .inr (5, [.int (zi 0), .ref q1, .int (zi 0), .ref q2, .ref q3, .ref q4, .ref q5, .int (zi 96), .int (zi 0), .ref q6, .int (zi 0), .ref q7])), (q1, aI cI 10 (zup (zup (zup (fun _ => 0) (Int.toNat 0) (-1)) (Int.toNat 1) (-1)) (Int.toNat 2) (-1))), (q2, aI cI 12 (fun _ => 0)), (q3, aI cI 12 (fun _ => 0)), (q4, aI cI 12 (fun _ => 0)), (q5, aI cI 12 (fun _ => 0)), (q6, aI cI 12 (fun _ => 0)), (q7, aI cI 20 (fun _ => 0))] := hD
        refine zw_iinc (z := 3) (lv' := [(1, .int (zi 3)), (0, .ref g0)]) (k := 0) hx hb (by decide) dX5_init_81 hl rfl (by decide) rfl (fun ls hl => ?_)
        refine lv_goto (tgt := 68) hx hb dX5_init_84 (by decide) ?_
        refine lv_iload_n hx hb dX5_init_68 rfl (lv_at hl 0 rfl) ?_
        refine zw_bipush hx hb dX5_init_69 (by decide) ?_
        refine zw_icmp_ge (tgt := 87) hx hb dX5_init_71 (by decide) ⟨by omega, by omega⟩ ⟨by omega, by omega⟩ (fun h11 => ?_) (fun h11 => ?_)
        · skip
          exact absurd True.intro (by omega)
        · skip
          refine lv_aload_n hx hb dX5_init_74 rfl (lv_at hl 1 rfl) ?_
          refine va_get (D := (dC, dI)) (ci := 5) (v := .ref q1) (C := RX5) (T := TX5) (N := 12) hx hb hts (by decide +kernel) hown hK hP 0 rfl rfl 1 (by decide) (hts (.fieldLink RX5 7 "CivilDaysModel" "slots" "[I") (by decide +kernel)) (fun _ h9 => h9) rfl dX5_init_75 ?_
          refine lv_iload_n hx hb dX5_init_78 rfl (lv_at hl 0 rfl) ?_
          refine zw_iconst hx hb dX5_init_79 ?_
          refine zw_iast hx hb hK hP hD hS 1 0 rfl rfl (by omega) (by omega) ⟨by omega, by omega⟩ dX5_init_80 (fun H locs hP hD hS => ?_)
          have hP : va_P (dC, dI) vwCl [(g0, .inr (5, [.int (zi 0), .ref q1, .int (zi 0), .ref q2, .ref q3, .ref q4, .ref q5, .int (zi 96), .int (zi 0), .ref q6, .int (zi 0), .ref q7])), (q1, aI cI 10 (zup (zup (zup (zup (fun _ => 0) (Int.toNat 0) (-1)) (Int.toNat 1) (-1)) (Int.toNat 2) (-1)) (Int.toNat 3) (-1))), (q2, aI cI 12 (fun _ => 0)), (q3, aI cI 12 (fun _ => 0)), (q4, aI cI 12 (fun _ => 0)), (q5, aI cI 12 (fun _ => 0)), (q6, aI cI 12 (fun _ => 0)), (q7, aI cI 20 (fun _ => 0))] H := hP
          have hD : va_D A [(g0, .inr (5, [.int (zi 0), .ref q1, .int (zi 0), .ref q2, .ref q3, .ref q4, .ref q5, .int (zi 96), .int (zi 0), .ref q6, .int (zi 0), .ref q7])), (q1, aI cI 10 (zup (zup (zup (zup (fun _ => 0) (Int.toNat 0) (-1)) (Int.toNat 1) (-1)) (Int.toNat 2) (-1)) (Int.toNat 3) (-1))), (q2, aI cI 12 (fun _ => 0)), (q3, aI cI 12 (fun _ => 0)), (q4, aI cI 12 (fun _ => 0)), (q5, aI cI 12 (fun _ => 0)), (q6, aI cI 12 (fun _ => 0)), (q7, aI cI 20 (fun _ => 0))] := hD
          refine zw_iinc (z := 4) (lv' := [(1, .int (zi 4)), (0, .ref g0)]) (k := 0) hx hb (by decide) dX5_init_81 hl rfl (by decide) rfl (fun ls hl => ?_)
          refine lv_goto (tgt := 68) hx hb dX5_init_84 (by decide) ?_
          refine lv_iload_n hx hb dX5_init_68 rfl (lv_at hl 0 rfl) ?_
          refine zw_bipush hx hb dX5_init_69 (by decide) ?_
          refine zw_icmp_ge (tgt := 87) hx hb dX5_init_71 (by decide) ⟨by omega, by omega⟩ ⟨by omega, by omega⟩ (fun h12 => ?_) (fun h12 => ?_)
          · skip
            exact absurd True.intro (by omega)
          · skip
            refine lv_aload_n hx hb dX5_init_74 rfl (lv_at hl 1 rfl) ?_
            refine va_get (D := (dC, dI)) (ci := 5) (v := .ref q1) (C := RX5) (T := TX5) (N := 12) hx hb hts (by decide +kernel) hown hK hP 0 rfl rfl 1 (by decide) (hts (.fieldLink RX5 7 "CivilDaysModel" "slots" "[I") (by decide +kernel)) (fun _ h9 => h9) rfl dX5_init_75 ?_
            refine lv_iload_n hx hb dX5_init_78 rfl (lv_at hl 0 rfl) ?_
            refine zw_iconst hx hb dX5_init_79 ?_
            refine zw_iast hx hb hK hP hD hS 1 0 rfl rfl (by omega) (by omega) ⟨by omega, by omega⟩ dX5_init_80 (fun H locs hP hD hS => ?_)
            have hP : va_P (dC, dI) vwCl [(g0, .inr (5, [.int (zi 0), .ref q1, .int (zi 0), .ref q2, .ref q3, .ref q4, .ref q5, .int (zi 96), .int (zi 0), .ref q6, .int (zi 0), .ref q7])), (q1, aI cI 10 (zup (zup (zup (zup (zup (fun _ => 0) (Int.toNat 0) (-1)) (Int.toNat 1) (-1)) (Int.toNat 2) (-1)) (Int.toNat 3) (-1)) (Int.toNat 4) (-1))), (q2, aI cI 12 (fun _ => 0)), (q3, aI cI 12 (fun _ => 0)), (q4, aI cI 12 (fun _ => 0)), (q5, aI cI 12 (fun _ => 0)), (q6, aI cI 12 (fun _ => 0)), (q7, aI cI 20 (fun _ => 0))] H := hP
            have hD : va_D A [(g0, .inr (5, [.int (zi 0), .ref q1, .int (zi 0), .ref q2, .ref q3, .ref q4, .ref q5, .int (zi 96), .int (zi 0), .ref q6, .int (zi 0), .ref q7])), (q1, aI cI 10 (zup (zup (zup (zup (zup (fun _ => 0) (Int.toNat 0) (-1)) (Int.toNat 1) (-1)) (Int.toNat 2) (-1)) (Int.toNat 3) (-1)) (Int.toNat 4) (-1))), (q2, aI cI 12 (fun _ => 0)), (q3, aI cI 12 (fun _ => 0)), (q4, aI cI 12 (fun _ => 0)), (q5, aI cI 12 (fun _ => 0)), (q6, aI cI 12 (fun _ => 0)), (q7, aI cI 20 (fun _ => 0))] := hD
            refine zw_iinc (z := 5) (lv' := [(1, .int (zi 5)), (0, .ref g0)]) (k := 0) hx hb (by decide) dX5_init_81 hl rfl (by decide) rfl (fun ls hl => ?_)
            refine lv_goto (tgt := 68) hx hb dX5_init_84 (by decide) ?_
            refine lv_iload_n hx hb dX5_init_68 rfl (lv_at hl 0 rfl) ?_
            refine zw_bipush hx hb dX5_init_69 (by decide) ?_
            refine zw_icmp_ge (tgt := 87) hx hb dX5_init_71 (by decide) ⟨by omega, by omega⟩ ⟨by omega, by omega⟩ (fun h13 => ?_) (fun h13 => ?_)
            · skip
              exact absurd True.intro (by omega)
            · skip
              refine lv_aload_n hx hb dX5_init_74 rfl (lv_at hl 1 rfl) ?_
              refine va_get (D := (dC, dI)) (ci := 5) (v := .ref q1) (C := RX5) (T := TX5) (N := 12) hx hb hts (by decide +kernel) hown hK hP 0 rfl rfl 1 (by decide) (hts (.fieldLink RX5 7 "CivilDaysModel" "slots" "[I") (by decide +kernel)) (fun _ h9 => h9) rfl dX5_init_75 ?_
              refine lv_iload_n hx hb dX5_init_78 rfl (lv_at hl 0 rfl) ?_
              refine zw_iconst hx hb dX5_init_79 ?_
              refine zw_iast hx hb hK hP hD hS 1 0 rfl rfl (by omega) (by omega) ⟨by omega, by omega⟩ dX5_init_80 (fun H locs hP hD hS => ?_)
              have hP : va_P (dC, dI) vwCl [(g0, .inr (5, [.int (zi 0), .ref q1, .int (zi 0), .ref q2, .ref q3, .ref q4, .ref q5, .int (zi 96), .int (zi 0), .ref q6, .int (zi 0), .ref q7])), (q1, aI cI 10 (zup (zup (zup (zup (zup (zup (fun _ => 0) (Int.toNat 0) (-1)) (Int.toNat 1) (-1)) (Int.toNat 2) (-1)) (Int.toNat 3) (-1)) (Int.toNat 4) (-1)) (Int.toNat 5) (-1))), (q2, aI cI 12 (fun _ => 0)), (q3, aI cI 12 (fun _ => 0)), (q4, aI cI 12 (fun _ => 0)), (q5, aI cI 12 (fun _ => 0)), (q6, aI cI 12 (fun _ => 0)), (q7, aI cI 20 (fun _ => 0))] H := hP
              have hD : va_D A [(g0, .inr (5, [.int (zi 0), .ref q1, .int (zi 0), .ref q2, .ref q3, .ref q4, .ref q5, .int (zi 96), .int (zi 0), .ref q6, .int (zi 0), .ref q7])), (q1, aI cI 10 (zup (zup (zup (zup (zup (zup (fun _ => 0) (Int.toNat 0) (-1)) (Int.toNat 1) (-1)) (Int.toNat 2) (-1)) (Int.toNat 3) (-1)) (Int.toNat 4) (-1)) (Int.toNat 5) (-1))), (q2, aI cI 12 (fun _ => 0)), (q3, aI cI 12 (fun _ => 0)), (q4, aI cI 12 (fun _ => 0)), (q5, aI cI 12 (fun _ => 0)), (q6, aI cI 12 (fun _ => 0)), (q7, aI cI 20 (fun _ => 0))] := hD
              refine zw_iinc (z := 6) (lv' := [(1, .int (zi 6)), (0, .ref g0)]) (k := 0) hx hb (by decide) dX5_init_81 hl rfl (by decide) rfl (fun ls hl => ?_)
              refine lv_goto (tgt := 68) hx hb dX5_init_84 (by decide) ?_
              refine lv_iload_n hx hb dX5_init_68 rfl (lv_at hl 0 rfl) ?_
              refine zw_bipush hx hb dX5_init_69 (by decide) ?_
              refine zw_icmp_ge (tgt := 87) hx hb dX5_init_71 (by decide) ⟨by omega, by omega⟩ ⟨by omega, by omega⟩ (fun h14 => ?_) (fun h14 => ?_)
              · skip
                exact absurd True.intro (by omega)
              · skip
                refine lv_aload_n hx hb dX5_init_74 rfl (lv_at hl 1 rfl) ?_
                refine va_get (D := (dC, dI)) (ci := 5) (v := .ref q1) (C := RX5) (T := TX5) (N := 12) hx hb hts (by decide +kernel) hown hK hP 0 rfl rfl 1 (by decide) (hts (.fieldLink RX5 7 "CivilDaysModel" "slots" "[I") (by decide +kernel)) (fun _ h9 => h9) rfl dX5_init_75 ?_
                refine lv_iload_n hx hb dX5_init_78 rfl (lv_at hl 0 rfl) ?_
                refine zw_iconst hx hb dX5_init_79 ?_
                refine zw_iast hx hb hK hP hD hS 1 0 rfl rfl (by omega) (by omega) ⟨by omega, by omega⟩ dX5_init_80 (fun H locs hP hD hS => ?_)
                have hP : va_P (dC, dI) vwCl [(g0, .inr (5, [.int (zi 0), .ref q1, .int (zi 0), .ref q2, .ref q3, .ref q4, .ref q5, .int (zi 96), .int (zi 0), .ref q6, .int (zi 0), .ref q7])), (q1, aI cI 10 (zup (zup (zup (zup (zup (zup (zup (fun _ => 0) (Int.toNat 0) (-1)) (Int.toNat 1) (-1)) (Int.toNat 2) (-1)) (Int.toNat 3) (-1)) (Int.toNat 4) (-1)) (Int.toNat 5) (-1)) (Int.toNat 6) (-1))), (q2, aI cI 12 (fun _ => 0)), (q3, aI cI 12 (fun _ => 0)), (q4, aI cI 12 (fun _ => 0)), (q5, aI cI 12 (fun _ => 0)), (q6, aI cI 12 (fun _ => 0)), (q7, aI cI 20 (fun _ => 0))] H := hP
                have hD : va_D A [(g0, .inr (5, [.int (zi 0), .ref q1, .int (zi 0), .ref q2, .ref q3, .ref q4, .ref q5, .int (zi 96), .int (zi 0), .ref q6, .int (zi 0), .ref q7])), (q1, aI cI 10 (zup (zup (zup (zup (zup (zup (zup (fun _ => 0) (Int.toNat 0) (-1)) (Int.toNat 1) (-1)) (Int.toNat 2) (-1)) (Int.toNat 3) (-1)) (Int.toNat 4) (-1)) (Int.toNat 5) (-1)) (Int.toNat 6) (-1))), (q2, aI cI 12 (fun _ => 0)), (q3, aI cI 12 (fun _ => 0)), (q4, aI cI 12 (fun _ => 0)), (q5, aI cI 12 (fun _ => 0)), (q6, aI cI 12 (fun _ => 0)), (q7, aI cI 20 (fun _ => 0))] := hD
                refine zw_iinc (z := 7) (lv' := [(1, .int (zi 7)), (0, .ref g0)]) (k := 0) hx hb (by decide) dX5_init_81 hl rfl (by decide) rfl (fun ls hl => ?_)
                refine lv_goto (tgt := 68) hx hb dX5_init_84 (by decide) ?_
                refine lv_iload_n hx hb dX5_init_68 rfl (lv_at hl 0 rfl) ?_
                refine zw_bipush hx hb dX5_init_69 (by decide) ?_
                refine zw_icmp_ge (tgt := 87) hx hb dX5_init_71 (by decide) ⟨by omega, by omega⟩ ⟨by omega, by omega⟩ (fun h15 => ?_) (fun h15 => ?_)
                · skip
                  exact absurd True.intro (by omega)
                · skip
                  refine lv_aload_n hx hb dX5_init_74 rfl (lv_at hl 1 rfl) ?_
                  refine va_get (D := (dC, dI)) (ci := 5) (v := .ref q1) (C := RX5) (T := TX5) (N := 12) hx hb hts (by decide +kernel) hown hK hP 0 rfl rfl 1 (by decide) (hts (.fieldLink RX5 7 "CivilDaysModel" "slots" "[I") (by decide +kernel)) (fun _ h9 => h9) rfl dX5_init_75 ?_
                  refine lv_iload_n hx hb dX5_init_78 rfl (lv_at hl 0 rfl) ?_
                  refine zw_iconst hx hb dX5_init_79 ?_
                  refine zw_iast hx hb hK hP hD hS 1 0 rfl rfl (by omega) (by omega) ⟨by omega, by omega⟩ dX5_init_80 (fun H locs hP hD hS => ?_)
                  have hP : va_P (dC, dI) vwCl [(g0, .inr (5, [.int (zi 0), .ref q1, .int (zi 0), .ref q2, .ref q3, .ref q4, .ref q5, .int (zi 96), .int (zi 0), .ref q6, .int (zi 0), .ref q7])), (q1, aI cI 10 (zup (zup (zup (zup (zup (zup (zup (zup (fun _ => 0) (Int.toNat 0) (-1)) (Int.toNat 1) (-1)) (Int.toNat 2) (-1)) (Int.toNat 3) (-1)) (Int.toNat 4) (-1)) (Int.toNat 5) (-1)) (Int.toNat 6) (-1)) (Int.toNat 7) (-1))), (q2, aI cI 12 (fun _ => 0)), (q3, aI cI 12 (fun _ => 0)), (q4, aI cI 12 (fun _ => 0)), (q5, aI cI 12 (fun _ => 0)), (q6, aI cI 12 (fun _ => 0)), (q7, aI cI 20 (fun _ => 0))] H := hP
                  have hD : va_D A [(g0, .inr (5, [.int (zi 0), .ref q1, .int (zi 0), .ref q2, .ref q3, .ref q4, .ref q5, .int (zi 96), .int (zi 0), .ref q6, .int (zi 0), .ref q7])), (q1, aI cI 10 (zup (zup (zup (zup (zup (zup (zup (zup (fun _ => 0) (Int.toNat 0) (-1)) (Int.toNat 1) (-1)) (Int.toNat 2) (-1)) (Int.toNat 3) (-1)) (Int.toNat 4) (-1)) (Int.toNat 5) (-1)) (Int.toNat 6) (-1)) (Int.toNat 7) (-1))), (q2, aI cI 12 (fun _ => 0)), (q3, aI cI 12 (fun _ => 0)), (q4, aI cI 12 (fun _ => 0)), (q5, aI cI 12 (fun _ => 0)), (q6, aI cI 12 (fun _ => 0)), (q7, aI cI 20 (fun _ => 0))] := hD
                  refine zw_iinc (z := 8) (lv' := [(1, .int (zi 8)), (0, .ref g0)]) (k := 0) hx hb (by decide) dX5_init_81 hl rfl (by decide) rfl (fun ls hl => ?_)
                  refine lv_goto (tgt := 68) hx hb dX5_init_84 (by decide) ?_
                  refine lv_iload_n hx hb dX5_init_68 rfl (lv_at hl 0 rfl) ?_
                  refine zw_bipush hx hb dX5_init_69 (by decide) ?_
                  refine zw_icmp_ge (tgt := 87) hx hb dX5_init_71 (by decide) ⟨by omega, by omega⟩ ⟨by omega, by omega⟩ (fun h16 => ?_) (fun h16 => ?_)
                  · skip
                    exact absurd True.intro (by omega)
                  · skip
                    refine lv_aload_n hx hb dX5_init_74 rfl (lv_at hl 1 rfl) ?_
                    refine va_get (D := (dC, dI)) (ci := 5) (v := .ref q1) (C := RX5) (T := TX5) (N := 12) hx hb hts (by decide +kernel) hown hK hP 0 rfl rfl 1 (by decide) (hts (.fieldLink RX5 7 "CivilDaysModel" "slots" "[I") (by decide +kernel)) (fun _ h9 => h9) rfl dX5_init_75 ?_
                    refine lv_iload_n hx hb dX5_init_78 rfl (lv_at hl 0 rfl) ?_
                    refine zw_iconst hx hb dX5_init_79 ?_
                    refine zw_iast hx hb hK hP hD hS 1 0 rfl rfl (by omega) (by omega) ⟨by omega, by omega⟩ dX5_init_80 (fun H locs hP hD hS => ?_)
                    have hP : va_P (dC, dI) vwCl [(g0, .inr (5, [.int (zi 0), .ref q1, .int (zi 0), .ref q2, .ref q3, .ref q4, .ref q5, .int (zi 96), .int (zi 0), .ref q6, .int (zi 0), .ref q7])), (q1, aI cI 10 (zup (zup (zup (zup (zup (zup (zup (zup (zup (fun _ => 0) (Int.toNat 0) (-1)) (Int.toNat 1) (-1)) (Int.toNat 2) (-1)) (Int.toNat 3) (-1)) (Int.toNat 4) (-1)) (Int.toNat 5) (-1)) (Int.toNat 6) (-1)) (Int.toNat 7) (-1)) (Int.toNat 8) (-1))), (q2, aI cI 12 (fun _ => 0)), (q3, aI cI 12 (fun _ => 0)), (q4, aI cI 12 (fun _ => 0)), (q5, aI cI 12 (fun _ => 0)), (q6, aI cI 12 (fun _ => 0)), (q7, aI cI 20 (fun _ => 0))] H := hP
                    have hD : va_D A [(g0, .inr (5, [.int (zi 0), .ref q1, .int (zi 0), .ref q2, .ref q3, .ref q4, .ref q5, .int (zi 96), .int (zi 0), .ref q6, .int (zi 0), .ref q7])), (q1, aI cI 10 (zup (zup (zup (zup (zup (zup (zup (zup (zup (fun _ => 0) (Int.toNat 0) (-1)) (Int.toNat 1) (-1)) (Int.toNat 2) (-1)) (Int.toNat 3) (-1)) (Int.toNat 4) (-1)) (Int.toNat 5) (-1)) (Int.toNat 6) (-1)) (Int.toNat 7) (-1)) (Int.toNat 8) (-1))), (q2, aI cI 12 (fun _ => 0)), (q3, aI cI 12 (fun _ => 0)), (q4, aI cI 12 (fun _ => 0)), (q5, aI cI 12 (fun _ => 0)), (q6, aI cI 12 (fun _ => 0)), (q7, aI cI 20 (fun _ => 0))] := hD
                    refine zw_iinc (z := 9) (lv' := [(1, .int (zi 9)), (0, .ref g0)]) (k := 0) hx hb (by decide) dX5_init_81 hl rfl (by decide) rfl (fun ls hl => ?_)
                    refine lv_goto (tgt := 68) hx hb dX5_init_84 (by decide) ?_
                    refine lv_iload_n hx hb dX5_init_68 rfl (lv_at hl 0 rfl) ?_
                    refine zw_bipush hx hb dX5_init_69 (by decide) ?_
                    refine zw_icmp_ge (tgt := 87) hx hb dX5_init_71 (by decide) ⟨by omega, by omega⟩ ⟨by omega, by omega⟩ (fun h17 => ?_) (fun h17 => ?_)
                    · skip
                      exact absurd True.intro (by omega)
                    · skip
                      refine lv_aload_n hx hb dX5_init_74 rfl (lv_at hl 1 rfl) ?_
                      refine va_get (D := (dC, dI)) (ci := 5) (v := .ref q1) (C := RX5) (T := TX5) (N := 12) hx hb hts (by decide +kernel) hown hK hP 0 rfl rfl 1 (by decide) (hts (.fieldLink RX5 7 "CivilDaysModel" "slots" "[I") (by decide +kernel)) (fun _ h9 => h9) rfl dX5_init_75 ?_
                      refine lv_iload_n hx hb dX5_init_78 rfl (lv_at hl 0 rfl) ?_
                      refine zw_iconst hx hb dX5_init_79 ?_
                      refine zw_iast hx hb hK hP hD hS 1 0 rfl rfl (by omega) (by omega) ⟨by omega, by omega⟩ dX5_init_80 (fun H locs hP hD hS => ?_)
                      have hP : va_P (dC, dI) vwCl [(g0, .inr (5, [.int (zi 0), .ref q1, .int (zi 0), .ref q2, .ref q3, .ref q4, .ref q5, .int (zi 96), .int (zi 0), .ref q6, .int (zi 0), .ref q7])), (q1, aI cI 10 (zup (zup (zup (zup (zup (zup (zup (zup (zup (zup (fun _ => 0) (Int.toNat 0) (-1)) (Int.toNat 1) (-1)) (Int.toNat 2) (-1)) (Int.toNat 3) (-1)) (Int.toNat 4) (-1)) (Int.toNat 5) (-1)) (Int.toNat 6) (-1)) (Int.toNat 7) (-1)) (Int.toNat 8) (-1)) (Int.toNat 9) (-1))), (q2, aI cI 12 (fun _ => 0)), (q3, aI cI 12 (fun _ => 0)), (q4, aI cI 12 (fun _ => 0)), (q5, aI cI 12 (fun _ => 0)), (q6, aI cI 12 (fun _ => 0)), (q7, aI cI 20 (fun _ => 0))] H := hP
                      have hD : va_D A [(g0, .inr (5, [.int (zi 0), .ref q1, .int (zi 0), .ref q2, .ref q3, .ref q4, .ref q5, .int (zi 96), .int (zi 0), .ref q6, .int (zi 0), .ref q7])), (q1, aI cI 10 (zup (zup (zup (zup (zup (zup (zup (zup (zup (zup (fun _ => 0) (Int.toNat 0) (-1)) (Int.toNat 1) (-1)) (Int.toNat 2) (-1)) (Int.toNat 3) (-1)) (Int.toNat 4) (-1)) (Int.toNat 5) (-1)) (Int.toNat 6) (-1)) (Int.toNat 7) (-1)) (Int.toNat 8) (-1)) (Int.toNat 9) (-1))), (q2, aI cI 12 (fun _ => 0)), (q3, aI cI 12 (fun _ => 0)), (q4, aI cI 12 (fun _ => 0)), (q5, aI cI 12 (fun _ => 0)), (q6, aI cI 12 (fun _ => 0)), (q7, aI cI 20 (fun _ => 0))] := hD
                      refine zw_iinc (z := 10) (lv' := [(1, .int (zi 10)), (0, .ref g0)]) (k := 0) hx hb (by decide) dX5_init_81 hl rfl (by decide) rfl (fun ls hl => ?_)
                      refine lv_goto (tgt := 68) hx hb dX5_init_84 (by decide) ?_
                      refine lv_iload_n hx hb dX5_init_68 rfl (lv_at hl 0 rfl) ?_
                      refine zw_bipush hx hb dX5_init_69 (by decide) ?_
                      refine zw_icmp_ge (tgt := 87) hx hb dX5_init_71 (by decide) ⟨by omega, by omega⟩ ⟨by omega, by omega⟩ (fun h18 => ?_) (fun h18 => ?_)
                      · skip
                        have hP9 := hP.sub (ws' := [(g0, .inr (5, [.int (zi 0), .ref q1, .int (zi 0), .ref q2, .ref q3, .ref q4, .ref q5, .int (zi 96), .int (zi 0), .ref q6, .int (zi 0), .ref q7])), (q1, aI cI 10 (zup (zup (zup (zup (zup (zup (zup (zup (zup (zup (fun _ => 0) (Int.toNat 0) (-1)) (Int.toNat 1) (-1)) (Int.toNat 2) (-1)) (Int.toNat 3) (-1)) (Int.toNat 4) (-1)) (Int.toNat 5) (-1)) (Int.toNat 6) (-1)) (Int.toNat 7) (-1)) (Int.toNat 8) (-1)) (Int.toNat 9) (-1))), (q2, aI cI 12 (fun _ => 0)), (q3, aI cI 12 (fun _ => 0)), (q4, aI cI 12 (fun _ => 0)), (q5, aI cI 12 (fun _ => 0)), (q6, aI cI 12 (fun _ => 0)), (q7, aI cI 20 (fun _ => 0))]) [0, 1, 2, 3, 4, 5, 6, 7] rfl
                        have hD9 := hD.sub (ws' := [(g0, .inr (5, [.int (zi 0), .ref q1, .int (zi 0), .ref q2, .ref q3, .ref q4, .ref q5, .int (zi 96), .int (zi 0), .ref q6, .int (zi 0), .ref q7])), (q1, aI cI 10 (zup (zup (zup (zup (zup (zup (zup (zup (zup (zup (fun _ => 0) (Int.toNat 0) (-1)) (Int.toNat 1) (-1)) (Int.toNat 2) (-1)) (Int.toNat 3) (-1)) (Int.toNat 4) (-1)) (Int.toNat 5) (-1)) (Int.toNat 6) (-1)) (Int.toNat 7) (-1)) (Int.toNat 8) (-1)) (Int.toNat 9) (-1))), (q2, aI cI 12 (fun _ => 0)), (q3, aI cI 12 (fun _ => 0)), (q4, aI cI 12 (fun _ => 0)), (q5, aI cI 12 (fun _ => 0)), (q6, aI cI 12 (fun _ => 0)), (q7, aI cI 20 (fun _ => 0))]) [0, 1, 2, 3, 4, 5, 6, 7] (by decide) rfl
                        have hp9 : ∀ j : Nat, (zup (zup (zup (zup (zup (zup (zup (zup (zup (zup (fun _ => 0) (Int.toNat 0) (-1)) (Int.toNat 1) (-1)) (Int.toNat 2) (-1)) (Int.toNat 3) (-1)) (Int.toNat 4) (-1)) (Int.toNat 5) (-1)) (Int.toNat 6) (-1)) (Int.toNat 7) (-1)) (Int.toNat 8) (-1)) (Int.toNat 9) (-1)) j = if j < 10 then (-1) else 0 := by
                          exact zfill10 (fun _ => 0)
                        refine W.widen (k := 7) (n := 90) (Nat.le_of_ble_eq_true rfl) (Nat.le_of_ble_eq_true rfl) ?_
                        exact W.vret hx hb hr (fun t ht hW => ⟨⟨((zup (zup (zup (zup (zup (zup (zup (zup (zup (zup (fun _ => 0) (Int.toNat 0) (-1)) (Int.toNat 1) (-1)) (Int.toNat 2) (-1)) (Int.toNat 3) (-1)) (Int.toNat 4) (-1)) (Int.toNat 5) (-1)) (Int.toNat 6) (-1)) (Int.toNat 7) (-1)) (Int.toNat 8) (-1)) (Int.toNat 9) (-1)), q1, q2, q3, q4, q5, q6, q7), rfl, hp9, by rw [ht]; exact hP9, va_K.moved hW.alike hK, hD9⟩, hS.F ht⟩) hS.2.2 dX5_init_87
                      · skip
                        exact absurd True.intro (by omega)
