set_option maxHeartbeats 4000000 in
set_option maxRecDepth 100000 in
theorem c_X5_lay (l : Launch)  (dC : Nat → ClassId) (dI : Nat → Nat → Nat) (cI : ClassId) (g0 ps pk pa pb pq pw pt : Nat) (co ru we wr ty : Int) (sf : Nat → Int) (sl nu : Int) (sz : Nat) (hp0 : 0 ≤ sl ∧ sl ≤ 9) (hp1 : -2147483648 ≤ nu ∧ nu ≤ 2147483647) : Met l yX5_lay wsX5_lay ({ frames := 0, cells := 0, slots := 0, locals := 0 }) (zPw (dC, dI) [(cI, .int)] sz [.ref g0, .int (zi sl), .int (zi nu)] [(g0, .inr (5, [.int (zi co), .ref ps, .int (zi ru), .ref pk, .ref pa, .ref pb, .ref pq, .int (zi we), .int (zi wr), .ref pw, .int (zi ty), .ref pt])), (ps, aI cI 10 sf)]) (va_Qi (fun (r : Int32) (_ : Unit) => r = zi nu) (zB (dC, dI) [(cI, .int)] (va_A [(g0, .inr (5, [.int (zi co), .ref ps, .int (zi ru), .ref pk, .ref pa, .ref pb, .ref pq, .int (zi we), .int (zi wr), .ref pw, .int (zi ty), .ref pt])), (ps, aI cI 10 sf)] sz) [(g0, .inr (5, [.int (zi co), .ref ps, .int (zi ru), .ref pk, .ref pa, .ref pb, .ref pq, .int (zi we), .int (zi wr), .ref pw, .int (zi ty), .ref pt])), (ps, aI cI 10 (zup sf sl.toNat nu))]) (va_A [(g0, .inr (5, [.int (zi co), .ref ps, .int (zi ru), .ref pk, .ref pa, .ref pb, .ref pq, .int (zi we), .int (zi wr), .ref pw, .int (zi ty), .ref pt])), (ps, aI cI 10 sf)] sz)) 0 0 (va_A [(g0, .inr (5, [.int (zi co), .ref ps, .int (zi ru), .ref pk, .ref pa, .ref pb, .ref pq, .int (zi we), .int (zi wr), .ref pw, .int (zi ty), .ref pt])), (ps, aI cI 10 sf)] sz) := by
  refine Met.ofW (cc := cX5_lay) (maxL := 3) (ret := (some .int)) (by decide) rfl ?_
  intro p e s m args below meth c s₁ B hml hv
  obtain ⟨rfl, hsz, hP, hK, hD0⟩ := hv
  have hx := B.exec
  have hb := B.bytes
  have hr := B.returns
  have hts := atoms_spec (ws := wsX5_lay) B.pre
  have hown : s.vm.findClass RX5 = some m.cls := findClass_of_methodNamed B.named
  have hlocks := B.notSynchronized
  subst hsz
  have hD := hD0.self (sz := s.heap.size)
  generalize hAe : va_A [(g0, .inr (5, [.int (zi co), .ref ps, .int (zi ru), .ref pk, .ref pa, .ref pb, .ref pq, .int (zi we), .int (zi wr), .ref pw, .int (zi ty), .ref pt])), (ps, aI cI 10 sf)] s.heap.size = A at hD ⊢
  have hA : ∀ q : Nat, s.heap.size ≤ q → A q := fun q h => by rw [← hAe]; exact Or.inr h
  have hS : va_S A s.heap s.heap [] := va_S.rf
  have hP : va_P (dC, dI) vwCl [(g0, .inr (5, [.int (zi co), .ref ps, .int (zi ru), .ref pk, .ref pa, .ref pb, .ref pq, .int (zi we), .int (zi wr), .ref pw, .int (zi ty), .ref pt])), (ps, aI cI 10 sf)] s.heap := hP
  have hl := lv_entry ([.ref g0, .int (zi sl), .int (zi nu)]) (n := 3) (Nat.le_of_ble_eq_true rfl)
  rw [lg_entry_eq]
  generalize (lg_sl ([.ref g0, .int (zi sl), .int (zi nu)]) ++ List.replicate (3 - (lg_sl ([.ref g0, .int (zi sl), .int (zi nu)])).length) Slot.unset).toArray = ls at hl ⊢
  have hl : lv_has ls 3 [(0, .ref g0), (1, .int (zi sl)), (2, .int (zi nu))] := hl
  refine lv_aload_n hx hb dX5_lay_0 rfl (lv_at hl 0 rfl) ?_
  refine va_get (D := (dC, dI)) (ci := 5) (v := .ref ps) (C := RX5) (T := TX5) (N := 12) hx hb hts (by decide +kernel) hown hK hP 0 rfl rfl 1 (by decide) (hts (.fieldLink RX5 7 "CivilDaysModel" "slots" "[I") (by decide +kernel)) (fun _ h9 => h9) rfl dX5_lay_1 ?_
  refine lv_iload_n hx hb dX5_lay_4 rfl (lv_at hl 1 rfl) ?_
  refine lv_iload_n hx hb dX5_lay_5 rfl (lv_at hl 2 rfl) ?_
  refine zw_iast hx hb hK hP hD hS 1 0 rfl rfl (by omega) (by omega) ⟨by omega, by omega⟩ dX5_lay_6 (fun H locs hP hD hS => ?_)
  have hP : va_P (dC, dI) vwCl [(g0, .inr (5, [.int (zi co), .ref ps, .int (zi ru), .ref pk, .ref pa, .ref pb, .ref pq, .int (zi we), .int (zi wr), .ref pw, .int (zi ty), .ref pt])), (ps, aI cI 10 (zup sf sl.toNat nu))] H := hP
  have hD : va_D A [(g0, .inr (5, [.int (zi co), .ref ps, .int (zi ru), .ref pk, .ref pa, .ref pb, .ref pq, .int (zi we), .int (zi wr), .ref pw, .int (zi ty), .ref pt])), (ps, aI cI 10 (zup sf sl.toNat nu))] := hD
  refine lv_iload_n hx hb dX5_lay_7 rfl (lv_at hl 2 rfl) ?_
  have hP9 := hP.sub (ws' := [(g0, .inr (5, [.int (zi co), .ref ps, .int (zi ru), .ref pk, .ref pa, .ref pb, .ref pq, .int (zi we), .int (zi wr), .ref pw, .int (zi ty), .ref pt])), (ps, aI cI 10 (zup sf sl.toNat nu))]) [0, 1] rfl
  have hD9 := hD.sub (ws' := [(g0, .inr (5, [.int (zi co), .ref ps, .int (zi ru), .ref pk, .ref pa, .ref pb, .ref pq, .int (zi we), .int (zi wr), .ref pw, .int (zi ty), .ref pt])), (ps, aI cI 10 (zup sf sl.toNat nu))]) [0, 1] (by decide) rfl
  exact W.iret (v := zi nu) hx hb hr (fun t ht hW => ⟨⟨zi nu, (), rfl, rfl, by rw [ht]; exact hP9, va_K.moved hW.alike hK, hD9⟩, hS.F ht⟩) hS.2.2 dX5_lay_8

set_option maxHeartbeats 4000000 in
set_option maxRecDepth 100000 in
theorem c_X5_thrown (l : Launch)  (dC : Nat → ClassId) (dI : Nat → Nat → Nat) (cI : ClassId) (g0 ps pk pa pb pq pw pt : Nat) (co ru we wr ty : Int) (sf : Nat → Int)  : Met l yX5_thrown wsX5_thrown ({ frames := 0, cells := 0, slots := 0, locals := 0 }) (zPr (dC, dI) [(cI, .int)] [.ref g0] [(g0, .inr (5, [.int (zi co), .ref ps, .int (zi ru), .ref pk, .ref pa, .ref pb, .ref pq, .int (zi we), .int (zi wr), .ref pw, .int (zi ty), .ref pt])), (ps, aI cI 10 sf)]) (vp_Si (fun r => r = zi co)) 0 0 zN := by
  refine Met.ofW (cc := cX5_thrown) (maxL := 1) (ret := (some .int)) (by decide) rfl ?_
  intro p e s m args below meth c s₁ B hml hv
  obtain ⟨rfl, hP, hK⟩ := hv
  have hx := B.exec
  have hb := B.bytes
  have hr := B.returns
  have hts := atoms_spec (ws := wsX5_thrown) B.pre
  have hown : s.vm.findClass RX5 = some m.cls := findClass_of_methodNamed B.named
  have hlocks := B.notSynchronized
  have hl := lv_entry ([.ref g0]) (n := 1) (Nat.le_of_ble_eq_true rfl)
  rw [lg_entry_eq]
  generalize (lg_sl ([.ref g0]) ++ List.replicate (1 - (lg_sl ([.ref g0])).length) Slot.unset).toArray = ls at hl ⊢
  have hl : lv_has ls 1 [(0, .ref g0)] := hl
  refine lv_aload_n hx hb dX5_thrown_0 rfl (lv_at hl 0 rfl) ?_
  refine va_get (D := (dC, dI)) (ci := 5) (v := .int (zi co)) (C := RX5) (T := TX5) (N := 12) hx hb hts (by decide +kernel) hown hK hP 0 rfl rfl 0 (by decide) (hts (.fieldLink RX5 35 "CivilDaysModel" "code" "I") (by decide +kernel)) (fun _ h9 => h9) rfl dX5_thrown_1 ?_
  exact W.iret (v := zi co) hx hb hr (fun t ht hW => ⟨zi co, rfl, rfl, ht⟩) (fun q h => by cases h) dX5_thrown_4

set_option maxHeartbeats 4000000 in
set_option maxRecDepth 100000 in
theorem c_X5_civil_1 (l : Launch)  (dC : Nat → ClassId) (dI : Nat → Nat → Nat) (cI : ClassId) (g0 ps pk pa pb pq pw pt : Nat) (co ru we wr ty : Int) (sf : Nat → Int) (sl ya mo da : Int) (sz : Nat) (hp0 : -2147483648 ≤ sl ∧ sl ≤ 2147483647) (hp1 : sl < 0 ∨ 9 < sl) (hp2 : -2147483648 ≤ ya ∧ ya ≤ 2147483647) (hp3 : -2147483648 ≤ mo ∧ mo ≤ 2147483647) (hp4 : -2147483648 ≤ da ∧ da ≤ 2147483647) : Met l yX5_civil wsX5_civil ({ frames := 2, cells := 0, slots := 0, locals := 42 }) (zPw (dC, dI) [(cI, .int)] sz [.ref g0, .int (zi sl), .int (zi ya), .int (zi mo), .int (zi da)] [(g0, .inr (5, [.int (zi co), .ref ps, .int (zi ru), .ref pk, .ref pa, .ref pb, .ref pq, .int (zi we), .int (zi wr), .ref pw, .int (zi ty), .ref pt])), (ps, aI cI 10 sf)]) (va_Qi (fun (r : Int32) (_ : Unit) => r = zi 0) (zB (dC, dI) [(cI, .int)] (va_A [(g0, .inr (5, [.int (zi co), .ref ps, .int (zi ru), .ref pk, .ref pa, .ref pb, .ref pq, .int (zi we), .int (zi wr), .ref pw, .int (zi ty), .ref pt])), (ps, aI cI 10 sf)] sz) [(g0, .inr (5, [.int (zi 1), .ref ps, .int (zi ru), .ref pk, .ref pa, .ref pb, .ref pq, .int (zi we), .int (zi wr), .ref pw, .int (zi ty), .ref pt])), (ps, aI cI 10 sf)]) (va_A [(g0, .inr (5, [.int (zi co), .ref ps, .int (zi ru), .ref pk, .ref pa, .ref pb, .ref pq, .int (zi we), .int (zi wr), .ref pw, .int (zi ty), .ref pt])), (ps, aI cI 10 sf)] sz)) 0 0 (va_A [(g0, .inr (5, [.int (zi co), .ref ps, .int (zi ru), .ref pk, .ref pa, .ref pb, .ref pq, .int (zi we), .int (zi wr), .ref pw, .int (zi ty), .ref pt])), (ps, aI cI 10 sf)] sz) := by
  refine Met.ofW (cc := cX5_civil) (maxL := 5) (ret := (some .int)) (by decide) rfl ?_
  intro p e s m args below meth c s₁ B hml hv
  obtain ⟨rfl, hsz, hP, hK, hD0⟩ := hv
  have hx := B.exec
  have hb := B.bytes
  have hr := B.returns
  have hts := atoms_spec (ws := wsX5_civil) B.pre
  have hown : s.vm.findClass RX5 = some m.cls := findClass_of_methodNamed B.named
  have hlocks := B.notSynchronized
  subst hsz
  have hD := hD0.self (sz := s.heap.size)
  generalize hAe : va_A [(g0, .inr (5, [.int (zi co), .ref ps, .int (zi ru), .ref pk, .ref pa, .ref pb, .ref pq, .int (zi we), .int (zi wr), .ref pw, .int (zi ty), .ref pt])), (ps, aI cI 10 sf)] s.heap.size = A at hD ⊢
  have hA : ∀ q : Nat, s.heap.size ≤ q → A q := fun q h => by rw [← hAe]; exact Or.inr h
  have hS : va_S A s.heap s.heap [] := va_S.rf
  have hP : va_P (dC, dI) vwCl [(g0, .inr (5, [.int (zi co), .ref ps, .int (zi ru), .ref pk, .ref pa, .ref pb, .ref pq, .int (zi we), .int (zi wr), .ref pw, .int (zi ty), .ref pt])), (ps, aI cI 10 sf)] s.heap := hP
  have hl := lv_entry ([.ref g0, .int (zi sl), .int (zi ya), .int (zi mo), .int (zi da)]) (n := 5) (Nat.le_of_ble_eq_true rfl)
  rw [lg_entry_eq]
  generalize (lg_sl ([.ref g0, .int (zi sl), .int (zi ya), .int (zi mo), .int (zi da)]) ++ List.replicate (5 - (lg_sl ([.ref g0, .int (zi sl), .int (zi ya), .int (zi mo), .int (zi da)])).length) Slot.unset).toArray = ls at hl ⊢
  have hl : lv_has ls 5 [(0, .ref g0), (1, .int (zi sl)), (2, .int (zi ya)), (3, .int (zi mo)), (4, .int (zi da))] := hl
  refine lv_aload_n hx hb dX5_civil_0 rfl (lv_at hl 0 rfl) ?_
  refine lv_iload_n hx hb dX5_civil_1 rfl (lv_at hl 1 rfl) ?_
  have hh1 := c_X5_isSlot l sl (by omega)
  refine vp_callSi (va_Run.run (va_runS (As := [.int (zi sl)]) (rest := [.ref g0]) ⟨hx, hb, hml, hown, hts⟩ hh1 (va_cwS 1 hts gX5_civil_X5_isSlot rfl rfl rfl (by decide +kernel) ⟨Nat.le_of_ble_eq_true rfl, Nat.le_of_ble_eq_true rfl⟩) ⟨fun a U g mk q => q, fun U hU hW => ⟨rfl, trivial⟩⟩ rfl rfl hl.1 rfl (lv_room (Nat.le_of_ble_eq_true rfl)) dX5_civil_2 ⟨Nat.zero_le _, Nat.zero_le _⟩)) (fun r1 (hr1 : r1 = zi (f_X5_isSlot sl)) => ?_)
  subst hr1
  have hf1 := b_X5_isSlot sl (by omega)
  refine zw_if_ne (tgt := 12) hx hb dX5_civil_5 (by decide) ⟨by omega, by omega⟩ (fun h2 => ?_) (fun h2 => ?_)
  · skip
    exact absurd True.intro (by omega)
  · skip
    refine zw_iconst hx hb dX5_civil_8 ?_
    refine lv_goto (tgt := 27) hx hb dX5_civil_9 (by decide) ?_
    refine va_put (D := (dC, dI)) (ci := 5) (v := .int (zi 1)) (ty := .int) (C := RX5) (T := TX5) (N := 12) hx hb hts (by decide +kernel) tyX5 tyX5_ok nmX5 hown hK hP hD hS 0 rfl rfl 0 (by decide) (hts (.fieldLink RX5 35 "CivilDaysModel" "code" "I") (by decide +kernel)) (fun _ h9 => h9) rfl (by decide +kernel) rfl rfl (Nat.le_of_ble_eq_true rfl) dX5_civil_27 (fun H locs hP hD hS => ?_)
    have hP : va_P (dC, dI) vwCl [(g0, .inr (5, [.int (zi 1), .ref ps, .int (zi ru), .ref pk, .ref pa, .ref pb, .ref pq, .int (zi we), .int (zi wr), .ref pw, .int (zi ty), .ref pt])), (ps, aI cI 10 sf)] H := hP
    have hD : va_D A [(g0, .inr (5, [.int (zi 1), .ref ps, .int (zi ru), .ref pk, .ref pa, .ref pb, .ref pq, .int (zi we), .int (zi wr), .ref pw, .int (zi ty), .ref pt])), (ps, aI cI 10 sf)] := hD
    refine lv_aload_n hx hb dX5_civil_30 rfl (lv_at hl 0 rfl) ?_
    refine va_get (D := (dC, dI)) (ci := 5) (v := .int (zi 1)) (C := RX5) (T := TX5) (N := 12) hx hb hts (by decide +kernel) hown hK hP 0 rfl rfl 0 (by decide) (hts (.fieldLink RX5 35 "CivilDaysModel" "code" "I") (by decide +kernel)) (fun _ h9 => h9) rfl dX5_civil_31 ?_
    refine zw_if_le (tgt := 41) hx hb dX5_civil_34 (by decide) ⟨by omega, by omega⟩ (fun h3 => ?_) (fun h3 => ?_)
    · skip
      exact absurd True.intro (by omega)
    · skip
      refine zw_iconst hx hb dX5_civil_37 ?_
      refine lv_goto (tgt := 53) hx hb dX5_civil_38 (by decide) ?_
      have hP9 := hP.sub (ws' := [(g0, .inr (5, [.int (zi 1), .ref ps, .int (zi ru), .ref pk, .ref pa, .ref pb, .ref pq, .int (zi we), .int (zi wr), .ref pw, .int (zi ty), .ref pt])), (ps, aI cI 10 sf)]) [0, 1] rfl
      have hD9 := hD.sub (ws' := [(g0, .inr (5, [.int (zi 1), .ref ps, .int (zi ru), .ref pk, .ref pa, .ref pb, .ref pq, .int (zi we), .int (zi wr), .ref pw, .int (zi ty), .ref pt])), (ps, aI cI 10 sf)]) [0, 1] (by decide) rfl
      exact W.iret (v := zi 0) hx hb hr (fun t ht hW => ⟨⟨zi 0, (), rfl, rfl, by rw [ht]; exact hP9, va_K.moved hW.alike hK, hD9⟩, hS.F ht⟩) hS.2.2 dX5_civil_53

set_option maxHeartbeats 4000000 in
set_option maxRecDepth 100000 in
theorem c_X5_civil_2 (l : Launch)  (dC : Nat → ClassId) (dI : Nat → Nat → Nat) (cI : ClassId) (g0 ps pk pa pb pq pw pt : Nat) (co ru we wr ty : Int) (sf : Nat → Int) (sl ya mo da : Int) (sz : Nat) (hp0 : 0 ≤ sl ∧ sl ≤ 9) (hp1 : -2147483648 ≤ ya ∧ ya ≤ 2147483647) (hp2 : -2147483648 ≤ mo ∧ mo ≤ 2147483647) (hp3 : -2147483648 ≤ da ∧ da ≤ 2147483647) (hp4 : f_X5_isDate ya mo da = 0) : Met l yX5_civil wsX5_civil ({ frames := 3, cells := 0, slots := 0, locals := 63 }) (zPw (dC, dI) [(cI, .int)] sz [.ref g0, .int (zi sl), .int (zi ya), .int (zi mo), .int (zi da)] [(g0, .inr (5, [.int (zi co), .ref ps, .int (zi ru), .ref pk, .ref pa, .ref pb, .ref pq, .int (zi we), .int (zi wr), .ref pw, .int (zi ty), .ref pt])), (ps, aI cI 10 sf)]) (va_Qi (fun (r : Int32) (_ : Unit) => r = zi 0) (zB (dC, dI) [(cI, .int)] (va_A [(g0, .inr (5, [.int (zi co), .ref ps, .int (zi ru), .ref pk, .ref pa, .ref pb, .ref pq, .int (zi we), .int (zi wr), .ref pw, .int (zi ty), .ref pt])), (ps, aI cI 10 sf)] sz) [(g0, .inr (5, [.int (zi 2), .ref ps, .int (zi ru), .ref pk, .ref pa, .ref pb, .ref pq, .int (zi we), .int (zi wr), .ref pw, .int (zi ty), .ref pt])), (ps, aI cI 10 sf)]) (va_A [(g0, .inr (5, [.int (zi co), .ref ps, .int (zi ru), .ref pk, .ref pa, .ref pb, .ref pq, .int (zi we), .int (zi wr), .ref pw, .int (zi ty), .ref pt])), (ps, aI cI 10 sf)] sz)) 0 0 (va_A [(g0, .inr (5, [.int (zi co), .ref ps, .int (zi ru), .ref pk, .ref pa, .ref pb, .ref pq, .int (zi we), .int (zi wr), .ref pw, .int (zi ty), .ref pt])), (ps, aI cI 10 sf)] sz) := by
  refine Met.ofW (cc := cX5_civil) (maxL := 5) (ret := (some .int)) (by decide) rfl ?_
  intro p e s m args below meth c s₁ B hml hv
  obtain ⟨rfl, hsz, hP, hK, hD0⟩ := hv
  have hx := B.exec
  have hb := B.bytes
  have hr := B.returns
  have hts := atoms_spec (ws := wsX5_civil) B.pre
  have hown : s.vm.findClass RX5 = some m.cls := findClass_of_methodNamed B.named
  have hlocks := B.notSynchronized
  subst hsz
  have hD := hD0.self (sz := s.heap.size)
  generalize hAe : va_A [(g0, .inr (5, [.int (zi co), .ref ps, .int (zi ru), .ref pk, .ref pa, .ref pb, .ref pq, .int (zi we), .int (zi wr), .ref pw, .int (zi ty), .ref pt])), (ps, aI cI 10 sf)] s.heap.size = A at hD ⊢
  have hA : ∀ q : Nat, s.heap.size ≤ q → A q := fun q h => by rw [← hAe]; exact Or.inr h
  have hS : va_S A s.heap s.heap [] := va_S.rf
  have hP : va_P (dC, dI) vwCl [(g0, .inr (5, [.int (zi co), .ref ps, .int (zi ru), .ref pk, .ref pa, .ref pb, .ref pq, .int (zi we), .int (zi wr), .ref pw, .int (zi ty), .ref pt])), (ps, aI cI 10 sf)] s.heap := hP
  have hl := lv_entry ([.ref g0, .int (zi sl), .int (zi ya), .int (zi mo), .int (zi da)]) (n := 5) (Nat.le_of_ble_eq_true rfl)
  rw [lg_entry_eq]
  generalize (lg_sl ([.ref g0, .int (zi sl), .int (zi ya), .int (zi mo), .int (zi da)]) ++ List.replicate (5 - (lg_sl ([.ref g0, .int (zi sl), .int (zi ya), .int (zi mo), .int (zi da)])).length) Slot.unset).toArray = ls at hl ⊢
  have hl : lv_has ls 5 [(0, .ref g0), (1, .int (zi sl)), (2, .int (zi ya)), (3, .int (zi mo)), (4, .int (zi da))] := hl
  refine lv_aload_n hx hb dX5_civil_0 rfl (lv_at hl 0 rfl) ?_
  refine lv_iload_n hx hb dX5_civil_1 rfl (lv_at hl 1 rfl) ?_
  have hh1 := c_X5_isSlot l sl (by omega)
  refine vp_callSi (va_Run.run (va_runS (As := [.int (zi sl)]) (rest := [.ref g0]) ⟨hx, hb, hml, hown, hts⟩ hh1 (va_cwS 1 hts gX5_civil_X5_isSlot rfl rfl rfl (by decide +kernel) ⟨Nat.le_of_ble_eq_true rfl, Nat.le_of_ble_eq_true rfl⟩) ⟨fun a U g mk q => q, fun U hU hW => ⟨rfl, trivial⟩⟩ rfl rfl hl.1 rfl (lv_room (Nat.le_of_ble_eq_true rfl)) dX5_civil_2 ⟨Nat.zero_le _, Nat.zero_le _⟩)) (fun r1 (hr1 : r1 = zi (f_X5_isSlot sl)) => ?_)
  subst hr1
  have hf1 := b_X5_isSlot sl (by omega)
  refine zw_if_ne (tgt := 12) hx hb dX5_civil_5 (by decide) ⟨by omega, by omega⟩ (fun h2 => ?_) (fun h2 => ?_)
  · skip
    refine lv_iload_n hx hb dX5_civil_12 rfl (lv_at hl 2 rfl) ?_
    refine lv_iload_n hx hb dX5_civil_13 rfl (lv_at hl 3 rfl) ?_
    refine lv_iload hx hb dX5_civil_14 (lv_at hl 4 rfl) ?_
    have hh3 := c_X5_isDate l ya mo da (by omega) (by omega) (by omega)
    refine vp_callSi (va_Run.run (va_runS (As := [.int (zi ya), .int (zi mo), .int (zi da)]) (rest := [.ref g0]) ⟨hx, hb, hml, hown, hts⟩ hh3 (va_cwS 3 hts gX5_civil_X5_isDate rfl rfl rfl (by decide +kernel) ⟨Nat.le_of_ble_eq_true rfl, Nat.le_of_ble_eq_true rfl⟩) ⟨fun a U g mk q => q, fun U hU hW => ⟨rfl, trivial⟩⟩ rfl rfl hl.1 rfl (lv_room (Nat.le_of_ble_eq_true rfl)) dX5_civil_16 ⟨Nat.zero_le _, Nat.zero_le _⟩)) (fun r3 (hr3 : r3 = zi (f_X5_isDate ya mo da)) => ?_)
    subst hr3
    have hf3 := b_X5_isDate ya mo da (by omega) (by omega) (by omega)
    refine zw_if_ne (tgt := 26) hx hb dX5_civil_19 (by decide) ⟨by omega, by omega⟩ (fun h4 => ?_) (fun h4 => ?_)
    · skip
      exact absurd True.intro (by omega)
    · skip
      refine zw_iconst hx hb dX5_civil_22 ?_
      refine lv_goto (tgt := 27) hx hb dX5_civil_23 (by decide) ?_
      refine va_put (D := (dC, dI)) (ci := 5) (v := .int (zi 2)) (ty := .int) (C := RX5) (T := TX5) (N := 12) hx hb hts (by decide +kernel) tyX5 tyX5_ok nmX5 hown hK hP hD hS 0 rfl rfl 0 (by decide) (hts (.fieldLink RX5 35 "CivilDaysModel" "code" "I") (by decide +kernel)) (fun _ h9 => h9) rfl (by decide +kernel) rfl rfl (Nat.le_of_ble_eq_true rfl) dX5_civil_27 (fun H locs hP hD hS => ?_)
      have hP : va_P (dC, dI) vwCl [(g0, .inr (5, [.int (zi 2), .ref ps, .int (zi ru), .ref pk, .ref pa, .ref pb, .ref pq, .int (zi we), .int (zi wr), .ref pw, .int (zi ty), .ref pt])), (ps, aI cI 10 sf)] H := hP
      have hD : va_D A [(g0, .inr (5, [.int (zi 2), .ref ps, .int (zi ru), .ref pk, .ref pa, .ref pb, .ref pq, .int (zi we), .int (zi wr), .ref pw, .int (zi ty), .ref pt])), (ps, aI cI 10 sf)] := hD
      refine lv_aload_n hx hb dX5_civil_30 rfl (lv_at hl 0 rfl) ?_
      refine va_get (D := (dC, dI)) (ci := 5) (v := .int (zi 2)) (C := RX5) (T := TX5) (N := 12) hx hb hts (by decide +kernel) hown hK hP 0 rfl rfl 0 (by decide) (hts (.fieldLink RX5 35 "CivilDaysModel" "code" "I") (by decide +kernel)) (fun _ h9 => h9) rfl dX5_civil_31 ?_
      refine zw_if_le (tgt := 41) hx hb dX5_civil_34 (by decide) ⟨by omega, by omega⟩ (fun h5 => ?_) (fun h5 => ?_)
      · skip
        exact absurd True.intro (by omega)
      · skip
        refine zw_iconst hx hb dX5_civil_37 ?_
        refine lv_goto (tgt := 53) hx hb dX5_civil_38 (by decide) ?_
        have hP9 := hP.sub (ws' := [(g0, .inr (5, [.int (zi 2), .ref ps, .int (zi ru), .ref pk, .ref pa, .ref pb, .ref pq, .int (zi we), .int (zi wr), .ref pw, .int (zi ty), .ref pt])), (ps, aI cI 10 sf)]) [0, 1] rfl
        have hD9 := hD.sub (ws' := [(g0, .inr (5, [.int (zi 2), .ref ps, .int (zi ru), .ref pk, .ref pa, .ref pb, .ref pq, .int (zi we), .int (zi wr), .ref pw, .int (zi ty), .ref pt])), (ps, aI cI 10 sf)]) [0, 1] (by decide) rfl
        exact W.iret (v := zi 0) hx hb hr (fun t ht hW => ⟨⟨zi 0, (), rfl, rfl, by rw [ht]; exact hP9, va_K.moved hW.alike hK, hD9⟩, hS.F ht⟩) hS.2.2 dX5_civil_53
  · skip
    exact absurd True.intro (by omega)

set_option maxHeartbeats 4000000 in
set_option maxRecDepth 100000 in
theorem c_X5_civil (l : Launch)  (dC : Nat → ClassId) (dI : Nat → Nat → Nat) (cI : ClassId) (g0 ps pk pa pb pq pw pt : Nat) (co ru we wr ty : Int) (sf : Nat → Int) (sl ya mo da : Int) (sz : Nat) (hp0 : 0 ≤ sl ∧ sl ≤ 9) (hp1 : -2147483648 ≤ ya ∧ ya ≤ 2147483647) (hp2 : -2147483648 ≤ mo ∧ mo ≤ 2147483647) (hp3 : -2147483648 ≤ da ∧ da ≤ 2147483647) (hp4 : f_X5_isDate ya mo da = 1) : Met l yX5_civil wsX5_civil ({ frames := 3, cells := 0, slots := 0, locals := 65 }) (zPw (dC, dI) [(cI, .int)] sz [.ref g0, .int (zi sl), .int (zi ya), .int (zi mo), .int (zi da)] [(g0, .inr (5, [.int (zi co), .ref ps, .int (zi ru), .ref pk, .ref pa, .ref pb, .ref pq, .int (zi we), .int (zi wr), .ref pw, .int (zi ty), .ref pt])), (ps, aI cI 10 sf)]) (va_Qi (fun (r : Int32) (_ : Unit) => r = zi (f_X5_numberOf ya mo da)) (zB (dC, dI) [(cI, .int)] (va_A [(g0, .inr (5, [.int (zi co), .ref ps, .int (zi ru), .ref pk, .ref pa, .ref pb, .ref pq, .int (zi we), .int (zi wr), .ref pw, .int (zi ty), .ref pt])), (ps, aI cI 10 sf)] sz) [(g0, .inr (5, [.int (zi 0), .ref ps, .int (zi ru), .ref pk, .ref pa, .ref pb, .ref pq, .int (zi we), .int (zi wr), .ref pw, .int (zi ty), .ref pt])), (ps, aI cI 10 (zup sf sl.toNat (f_X5_numberOf ya mo da)))]) (va_A [(g0, .inr (5, [.int (zi co), .ref ps, .int (zi ru), .ref pk, .ref pa, .ref pb, .ref pq, .int (zi we), .int (zi wr), .ref pw, .int (zi ty), .ref pt])), (ps, aI cI 10 sf)] sz)) 0 0 (va_A [(g0, .inr (5, [.int (zi co), .ref ps, .int (zi ru), .ref pk, .ref pa, .ref pb, .ref pq, .int (zi we), .int (zi wr), .ref pw, .int (zi ty), .ref pt])), (ps, aI cI 10 sf)] sz) := by
  refine Met.ofW (cc := cX5_civil) (maxL := 5) (ret := (some .int)) (by decide) rfl ?_
  intro p e s m args below meth c s₁ B hml hv
  obtain ⟨rfl, hsz, hP, hK, hD0⟩ := hv
  have hx := B.exec
  have hb := B.bytes
  have hr := B.returns
  have hts := atoms_spec (ws := wsX5_civil) B.pre
  have hown : s.vm.findClass RX5 = some m.cls := findClass_of_methodNamed B.named
  have hlocks := B.notSynchronized
  subst hsz
  have hD := hD0.self (sz := s.heap.size)
  generalize hAe : va_A [(g0, .inr (5, [.int (zi co), .ref ps, .int (zi ru), .ref pk, .ref pa, .ref pb, .ref pq, .int (zi we), .int (zi wr), .ref pw, .int (zi ty), .ref pt])), (ps, aI cI 10 sf)] s.heap.size = A at hD ⊢
  have hA : ∀ q : Nat, s.heap.size ≤ q → A q := fun q h => by rw [← hAe]; exact Or.inr h
  have hS : va_S A s.heap s.heap [] := va_S.rf
  have hP : va_P (dC, dI) vwCl [(g0, .inr (5, [.int (zi co), .ref ps, .int (zi ru), .ref pk, .ref pa, .ref pb, .ref pq, .int (zi we), .int (zi wr), .ref pw, .int (zi ty), .ref pt])), (ps, aI cI 10 sf)] s.heap := hP
  have hl := lv_entry ([.ref g0, .int (zi sl), .int (zi ya), .int (zi mo), .int (zi da)]) (n := 5) (Nat.le_of_ble_eq_true rfl)
  rw [lg_entry_eq]
  generalize (lg_sl ([.ref g0, .int (zi sl), .int (zi ya), .int (zi mo), .int (zi da)]) ++ List.replicate (5 - (lg_sl ([.ref g0, .int (zi sl), .int (zi ya), .int (zi mo), .int (zi da)])).length) Slot.unset).toArray = ls at hl ⊢
  have hl : lv_has ls 5 [(0, .ref g0), (1, .int (zi sl)), (2, .int (zi ya)), (3, .int (zi mo)), (4, .int (zi da))] := hl
  refine lv_aload_n hx hb dX5_civil_0 rfl (lv_at hl 0 rfl) ?_
  refine lv_iload_n hx hb dX5_civil_1 rfl (lv_at hl 1 rfl) ?_
  have hh1 := c_X5_isSlot l sl (by omega)
  refine vp_callSi (va_Run.run (va_runS (As := [.int (zi sl)]) (rest := [.ref g0]) ⟨hx, hb, hml, hown, hts⟩ hh1 (va_cwS 1 hts gX5_civil_X5_isSlot rfl rfl rfl (by decide +kernel) ⟨Nat.le_of_ble_eq_true rfl, Nat.le_of_ble_eq_true rfl⟩) ⟨fun a U g mk q => q, fun U hU hW => ⟨rfl, trivial⟩⟩ rfl rfl hl.1 rfl (lv_room (Nat.le_of_ble_eq_true rfl)) dX5_civil_2 ⟨Nat.zero_le _, Nat.zero_le _⟩)) (fun r1 (hr1 : r1 = zi (f_X5_isSlot sl)) => ?_)
  subst hr1
  have hf1 := b_X5_isSlot sl (by omega)
  refine zw_if_ne (tgt := 12) hx hb dX5_civil_5 (by decide) ⟨by omega, by omega⟩ (fun h2 => ?_) (fun h2 => ?_)
  · skip
    refine lv_iload_n hx hb dX5_civil_12 rfl (lv_at hl 2 rfl) ?_
    refine lv_iload_n hx hb dX5_civil_13 rfl (lv_at hl 3 rfl) ?_
    refine lv_iload hx hb dX5_civil_14 (lv_at hl 4 rfl) ?_
    have hh3 := c_X5_isDate l ya mo da (by omega) (by omega) (by omega)
    refine vp_callSi (va_Run.run (va_runS (As := [.int (zi ya), .int (zi mo), .int (zi da)]) (rest := [.ref g0]) ⟨hx, hb, hml, hown, hts⟩ hh3 (va_cwS 3 hts gX5_civil_X5_isDate rfl rfl rfl (by decide +kernel) ⟨Nat.le_of_ble_eq_true rfl, Nat.le_of_ble_eq_true rfl⟩) ⟨fun a U g mk q => q, fun U hU hW => ⟨rfl, trivial⟩⟩ rfl rfl hl.1 rfl (lv_room (Nat.le_of_ble_eq_true rfl)) dX5_civil_16 ⟨Nat.zero_le _, Nat.zero_le _⟩)) (fun r3 (hr3 : r3 = zi (f_X5_isDate ya mo da)) => ?_)
    subst hr3
    have hf3 := b_X5_isDate ya mo da (by omega) (by omega) (by omega)
    refine zw_if_ne (tgt := 26) hx hb dX5_civil_19 (by decide) ⟨by omega, by omega⟩ (fun h4 => ?_) (fun h4 => ?_)
    · skip
      refine zw_iconst hx hb dX5_civil_26 ?_
      refine va_put (D := (dC, dI)) (ci := 5) (v := .int (zi 0)) (ty := .int) (C := RX5) (T := TX5) (N := 12) hx hb hts (by decide +kernel) tyX5 tyX5_ok nmX5 hown hK hP hD hS 0 rfl rfl 0 (by decide) (hts (.fieldLink RX5 35 "CivilDaysModel" "code" "I") (by decide +kernel)) (fun _ h9 => h9) rfl (by decide +kernel) rfl rfl (Nat.le_of_ble_eq_true rfl) dX5_civil_27 (fun H locs hP hD hS => ?_)
      have hP : va_P (dC, dI) vwCl [(g0, .inr (5, [.int (zi 0), .ref ps, .int (zi ru), .ref pk, .ref pa, .ref pb, .ref pq, .int (zi we), .int (zi wr), .ref pw, .int (zi ty), .ref pt])), (ps, aI cI 10 sf)] H := hP
      have hD : va_D A [(g0, .inr (5, [.int (zi 0), .ref ps, .int (zi ru), .ref pk, .ref pa, .ref pb, .ref pq, .int (zi we), .int (zi wr), .ref pw, .int (zi ty), .ref pt])), (ps, aI cI 10 sf)] := hD
      refine lv_aload_n hx hb dX5_civil_30 rfl (lv_at hl 0 rfl) ?_
      refine va_get (D := (dC, dI)) (ci := 5) (v := .int (zi 0)) (C := RX5) (T := TX5) (N := 12) hx hb hts (by decide +kernel) hown hK hP 0 rfl rfl 0 (by decide) (hts (.fieldLink RX5 35 "CivilDaysModel" "code" "I") (by decide +kernel)) (fun _ h9 => h9) rfl dX5_civil_31 ?_
      refine zw_if_le (tgt := 41) hx hb dX5_civil_34 (by decide) ⟨by omega, by omega⟩ (fun h5 => ?_) (fun h5 => ?_)
      · skip
        refine lv_aload_n hx hb dX5_civil_41 rfl (lv_at hl 0 rfl) ?_
        refine lv_iload_n hx hb dX5_civil_42 rfl (lv_at hl 1 rfl) ?_
        refine lv_iload_n hx hb dX5_civil_43 rfl (lv_at hl 2 rfl) ?_
        refine lv_iload_n hx hb dX5_civil_44 rfl (lv_at hl 3 rfl) ?_
        refine lv_iload hx hb dX5_civil_45 (lv_at hl 4 rfl) ?_
        have hh6 := c_X5_numberOf l ya mo da (by omega) (by omega) (by omega)
        refine vp_callSi (va_Run.run (va_runS (As := [.int (zi ya), .int (zi mo), .int (zi da)]) (rest := [.int (zi sl), .ref g0]) ⟨hx, hb, hml, hown, hts⟩ hh6 (va_cwS 3 hts gX5_civil_X5_numberOf rfl rfl rfl (by decide +kernel) ⟨Nat.le_of_ble_eq_true rfl, Nat.le_of_ble_eq_true rfl⟩) ⟨fun a U g mk q => q, fun U hU hW => ⟨rfl, trivial⟩⟩ rfl rfl hl.1 rfl (lv_room (Nat.le_of_ble_eq_true rfl)) dX5_civil_47 ⟨Nat.zero_le _, Nat.zero_le _⟩)) (fun r6 (hr6 : r6 = zi (f_X5_numberOf ya mo da)) => ?_)
        subst hr6
        have hf6 := b_X5_numberOf ya mo da (by omega) (by omega) (by omega)
        have hh7 := c_X5_lay l dC dI cI g0 ps pk pa pb pq pw pt 0 ru we wr ty sf sl (f_X5_numberOf ya mo da) H.size (by omega) (by omega)
        have hPc := hP.sub (ws' := [(g0, .inr (5, [.int (zi 0), .ref ps, .int (zi ru), .ref pk, .ref pa, .ref pb, .ref pq, .int (zi we), .int (zi wr), .ref pw, .int (zi ty), .ref pt])), (ps, aI cI 10 sf)]) [0, 1] rfl
        have hKc : va_K (dC, dI) vwCl [(cI, .int)] s := hK
        have hDc := hD.sub (ws' := [(g0, .inr (5, [.int (zi 0), .ref ps, .int (zi ru), .ref pk, .ref pa, .ref pb, .ref pq, .int (zi we), .int (zi wr), .ref pw, .int (zi ty), .ref pt])), (ps, aI cI 10 sf)]) [0, 1] (by decide) rfl
        have hFc := va_free (wc := [(g0, .inr (5, [.int (zi 0), .ref ps, .int (zi ru), .ref pk, .ref pa, .ref pb, .ref pq, .int (zi we), .int (zi wr), .ref pw, .int (zi ty), .ref pt])), (ps, aI cI 10 sf)]) hD hS hA [0, 1] rfl
        refine va_calli (va_runV (As := [.int (zi sl), .int (zi (f_X5_numberOf ya mo da))]) (rest := []) ⟨hx, hb, hml, hown, hts⟩ hh7 (cwV 2 hts gX5_civil_X5_lay rfl rfl rfl (by decide +kernel) ⟨Nat.le_of_ble_eq_true rfl, Nat.le_of_ble_eq_true rfl⟩) ⟨zPw.blind _ _ _ _ _, va_recv hKc hPc (ci := 5) (q0 := 0) rfl rfl, fun U hU hW => ⟨rfl, by rw [hU], by rw [hU]; exact hPc, va_K.moved hW.alike hKc, hDc.weaken (fun _ _ _ _ => trivial)⟩⟩ rfl rfl hl.1 rfl (lv_room (Nat.le_of_ble_eq_true rfl)) dX5_civil_50 ⟨Nat.le_of_ble_eq_true rfl, Nat.le_of_ble_eq_true rfl⟩) hS (fun q _ h => hFc q h) hFc (fun r7 u t H1 locs ht hvm hw hB hz1 hk1 hS => ?_)
        obtain ⟨hP1, hK1, hD1⟩ := hB
        rw [ht] at hP1
        obtain ⟨hP, hD⟩ := va_join (wr := []) (w1 := [(g0, .inr (5, [.int (zi 0), .ref ps, .int (zi ru), .ref pk, .ref pa, .ref pb, .ref pq, .int (zi we), .int (zi wr), .ref pw, .int (zi ty), .ref pt])), (ps, aI cI 10 (zup sf sl.toNat (f_X5_numberOf ya mo da)))]) hP hD [0, 1] [] rfl rfl (by decide) (by decide) hk1 hFc hP1 hD1
        generalize H1 = H at hP hS ⊢
        obtain rfl : r7 = zi (f_X5_numberOf ya mo da) := hw
        have hP : va_P (dC, dI) vwCl [(g0, .inr (5, [.int (zi 0), .ref ps, .int (zi ru), .ref pk, .ref pa, .ref pb, .ref pq, .int (zi we), .int (zi wr), .ref pw, .int (zi ty), .ref pt])), (ps, aI cI 10 (zup sf sl.toNat (f_X5_numberOf ya mo da)))] H := hP
        have hD : va_D A [(g0, .inr (5, [.int (zi 0), .ref ps, .int (zi ru), .ref pk, .ref pa, .ref pb, .ref pq, .int (zi we), .int (zi wr), .ref pw, .int (zi ty), .ref pt])), (ps, aI cI 10 (zup sf sl.toNat (f_X5_numberOf ya mo da)))] := hD
        have hP9 := hP.sub (ws' := [(g0, .inr (5, [.int (zi 0), .ref ps, .int (zi ru), .ref pk, .ref pa, .ref pb, .ref pq, .int (zi we), .int (zi wr), .ref pw, .int (zi ty), .ref pt])), (ps, aI cI 10 (zup sf sl.toNat (f_X5_numberOf ya mo da)))]) [0, 1] rfl
        have hD9 := hD.sub (ws' := [(g0, .inr (5, [.int (zi 0), .ref ps, .int (zi ru), .ref pk, .ref pa, .ref pb, .ref pq, .int (zi we), .int (zi wr), .ref pw, .int (zi ty), .ref pt])), (ps, aI cI 10 (zup sf sl.toNat (f_X5_numberOf ya mo da)))]) [0, 1] (by decide) rfl
        exact W.iret (v := zi (f_X5_numberOf ya mo da)) hx hb hr (fun t ht hW => ⟨⟨zi (f_X5_numberOf ya mo da), (), rfl, rfl, by rw [ht]; exact hP9, va_K.moved hW.alike hK, hD9⟩, hS.F ht⟩) hS.2.2 dX5_civil_53
      · skip
        exact absurd True.intro (by omega)
    · skip
      exact absurd True.intro (by omega)
  · skip
    exact absurd True.intro (by omega)

set_option maxHeartbeats 4000000 in
set_option maxRecDepth 100000 in
theorem c_X5_days_1 (l : Launch)  (dC : Nat → ClassId) (dI : Nat → Nat → Nat) (cI : ClassId) (g0 ps pk pa pb pq pw pt : Nat) (co ru we wr ty : Int) (sf : Nat → Int) (sl nu : Int) (sz : Nat) (hp0 : -2147483648 ≤ sl ∧ sl ≤ 2147483647) (hp1 : sl < 0 ∨ 9 < sl) (hp2 : -2147483648 ≤ nu ∧ nu ≤ 2147483647) : Met l yX5_days wsX5_days ({ frames := 2, cells := 0, slots := 0, locals := 42 }) (zPw (dC, dI) [(cI, .int)] sz [.ref g0, .int (zi sl), .int (zi nu)] [(g0, .inr (5, [.int (zi co), .ref ps, .int (zi ru), .ref pk, .ref pa, .ref pb, .ref pq, .int (zi we), .int (zi wr), .ref pw, .int (zi ty), .ref pt])), (ps, aI cI 10 sf)]) (va_Qi (fun (r : Int32) (_ : Unit) => r = zi 0) (zB (dC, dI) [(cI, .int)] (va_A [(g0, .inr (5, [.int (zi co), .ref ps, .int (zi ru), .ref pk, .ref pa, .ref pb, .ref pq, .int (zi we), .int (zi wr), .ref pw, .int (zi ty), .ref pt])), (ps, aI cI 10 sf)] sz) [(g0, .inr (5, [.int (zi 1), .ref ps, .int (zi ru), .ref pk, .ref pa, .ref pb, .ref pq, .int (zi we), .int (zi wr), .ref pw, .int (zi ty), .ref pt])), (ps, aI cI 10 sf)]) (va_A [(g0, .inr (5, [.int (zi co), .ref ps, .int (zi ru), .ref pk, .ref pa, .ref pb, .ref pq, .int (zi we), .int (zi wr), .ref pw, .int (zi ty), .ref pt])), (ps, aI cI 10 sf)] sz)) 0 0 (va_A [(g0, .inr (5, [.int (zi co), .ref ps, .int (zi ru), .ref pk, .ref pa, .ref pb, .ref pq, .int (zi we), .int (zi wr), .ref pw, .int (zi ty), .ref pt])), (ps, aI cI 10 sf)] sz) := by
  refine Met.ofW (cc := cX5_days) (maxL := 3) (ret := (some .int)) (by decide) rfl ?_
  intro p e s m args below meth c s₁ B hml hv
  obtain ⟨rfl, hsz, hP, hK, hD0⟩ := hv
  have hx := B.exec
  have hb := B.bytes
  have hr := B.returns
  have hts := atoms_spec (ws := wsX5_days) B.pre
  have hown : s.vm.findClass RX5 = some m.cls := findClass_of_methodNamed B.named
  have hlocks := B.notSynchronized
  subst hsz
  have hD := hD0.self (sz := s.heap.size)
  generalize hAe : va_A [(g0, .inr (5, [.int (zi co), .ref ps, .int (zi ru), .ref pk, .ref pa, .ref pb, .ref pq, .int (zi we), .int (zi wr), .ref pw, .int (zi ty), .ref pt])), (ps, aI cI 10 sf)] s.heap.size = A at hD ⊢
  have hA : ∀ q : Nat, s.heap.size ≤ q → A q := fun q h => by rw [← hAe]; exact Or.inr h
  have hS : va_S A s.heap s.heap [] := va_S.rf
  have hP : va_P (dC, dI) vwCl [(g0, .inr (5, [.int (zi co), .ref ps, .int (zi ru), .ref pk, .ref pa, .ref pb, .ref pq, .int (zi we), .int (zi wr), .ref pw, .int (zi ty), .ref pt])), (ps, aI cI 10 sf)] s.heap := hP
  have hl := lv_entry ([.ref g0, .int (zi sl), .int (zi nu)]) (n := 3) (Nat.le_of_ble_eq_true rfl)
  rw [lg_entry_eq]
  generalize (lg_sl ([.ref g0, .int (zi sl), .int (zi nu)]) ++ List.replicate (3 - (lg_sl ([.ref g0, .int (zi sl), .int (zi nu)])).length) Slot.unset).toArray = ls at hl ⊢
  have hl : lv_has ls 3 [(0, .ref g0), (1, .int (zi sl)), (2, .int (zi nu))] := hl
  refine lv_aload_n hx hb dX5_days_0 rfl (lv_at hl 0 rfl) ?_
  refine lv_iload_n hx hb dX5_days_1 rfl (lv_at hl 1 rfl) ?_
  have hh1 := c_X5_isSlot l sl (by omega)
  refine vp_callSi (va_Run.run (va_runS (As := [.int (zi sl)]) (rest := [.ref g0]) ⟨hx, hb, hml, hown, hts⟩ hh1 (va_cwS 1 hts gX5_days_X5_isSlot rfl rfl rfl (by decide +kernel) ⟨Nat.le_of_ble_eq_true rfl, Nat.le_of_ble_eq_true rfl⟩) ⟨fun a U g mk q => q, fun U hU hW => ⟨rfl, trivial⟩⟩ rfl rfl hl.1 rfl (lv_room (Nat.le_of_ble_eq_true rfl)) dX5_days_2 ⟨Nat.zero_le _, Nat.zero_le _⟩)) (fun r1 (hr1 : r1 = zi (f_X5_isSlot sl)) => ?_)
  subst hr1
  have hf1 := b_X5_isSlot sl (by omega)
  refine zw_if_ne (tgt := 12) hx hb dX5_days_5 (by decide) ⟨by omega, by omega⟩ (fun h2 => ?_) (fun h2 => ?_)
  · skip
    exact absurd True.intro (by omega)
  · skip
    refine zw_iconst hx hb dX5_days_8 ?_
    refine lv_goto (tgt := 27) hx hb dX5_days_9 (by decide) ?_
    refine va_put (D := (dC, dI)) (ci := 5) (v := .int (zi 1)) (ty := .int) (C := RX5) (T := TX5) (N := 12) hx hb hts (by decide +kernel) tyX5 tyX5_ok nmX5 hown hK hP hD hS 0 rfl rfl 0 (by decide) (hts (.fieldLink RX5 35 "CivilDaysModel" "code" "I") (by decide +kernel)) (fun _ h9 => h9) rfl (by decide +kernel) rfl rfl (Nat.le_of_ble_eq_true rfl) dX5_days_27 (fun H locs hP hD hS => ?_)
    have hP : va_P (dC, dI) vwCl [(g0, .inr (5, [.int (zi 1), .ref ps, .int (zi ru), .ref pk, .ref pa, .ref pb, .ref pq, .int (zi we), .int (zi wr), .ref pw, .int (zi ty), .ref pt])), (ps, aI cI 10 sf)] H := hP
    have hD : va_D A [(g0, .inr (5, [.int (zi 1), .ref ps, .int (zi ru), .ref pk, .ref pa, .ref pb, .ref pq, .int (zi we), .int (zi wr), .ref pw, .int (zi ty), .ref pt])), (ps, aI cI 10 sf)] := hD
    refine lv_aload_n hx hb dX5_days_30 rfl (lv_at hl 0 rfl) ?_
    refine va_get (D := (dC, dI)) (ci := 5) (v := .int (zi 1)) (C := RX5) (T := TX5) (N := 12) hx hb hts (by decide +kernel) hown hK hP 0 rfl rfl 0 (by decide) (hts (.fieldLink RX5 35 "CivilDaysModel" "code" "I") (by decide +kernel)) (fun _ h9 => h9) rfl dX5_days_31 ?_
    refine zw_if_le (tgt := 41) hx hb dX5_days_34 (by decide) ⟨by omega, by omega⟩ (fun h3 => ?_) (fun h3 => ?_)
    · skip
      exact absurd True.intro (by omega)
    · skip
      refine zw_iconst hx hb dX5_days_37 ?_
      refine lv_goto (tgt := 50) hx hb dX5_days_38 (by decide) ?_
      have hP9 := hP.sub (ws' := [(g0, .inr (5, [.int (zi 1), .ref ps, .int (zi ru), .ref pk, .ref pa, .ref pb, .ref pq, .int (zi we), .int (zi wr), .ref pw, .int (zi ty), .ref pt])), (ps, aI cI 10 sf)]) [0, 1] rfl
      have hD9 := hD.sub (ws' := [(g0, .inr (5, [.int (zi 1), .ref ps, .int (zi ru), .ref pk, .ref pa, .ref pb, .ref pq, .int (zi we), .int (zi wr), .ref pw, .int (zi ty), .ref pt])), (ps, aI cI 10 sf)]) [0, 1] (by decide) rfl
      exact W.iret (v := zi 0) hx hb hr (fun t ht hW => ⟨⟨zi 0, (), rfl, rfl, by rw [ht]; exact hP9, va_K.moved hW.alike hK, hD9⟩, hS.F ht⟩) hS.2.2 dX5_days_50

set_option maxHeartbeats 4000000 in
set_option maxRecDepth 100000 in
theorem c_X5_days_2 (l : Launch)  (dC : Nat → ClassId) (dI : Nat → Nat → Nat) (cI : ClassId) (g0 ps pk pa pb pq pw pt : Nat) (co ru we wr ty : Int) (sf : Nat → Int) (sl nu : Int) (sz : Nat) (hp0 : 0 ≤ sl ∧ sl ≤ 9) (hp1 : -2147483648 ≤ nu ∧ nu ≤ 2147483647) (hp2 : nu < 0 ∨ 3652058 < nu) : Met l yX5_days wsX5_days ({ frames := 2, cells := 0, slots := 0, locals := 42 }) (zPw (dC, dI) [(cI, .int)] sz [.ref g0, .int (zi sl), .int (zi nu)] [(g0, .inr (5, [.int (zi co), .ref ps, .int (zi ru), .ref pk, .ref pa, .ref pb, .ref pq, .int (zi we), .int (zi wr), .ref pw, .int (zi ty), .ref pt])), (ps, aI cI 10 sf)]) (va_Qi (fun (r : Int32) (_ : Unit) => r = zi 0) (zB (dC, dI) [(cI, .int)] (va_A [(g0, .inr (5, [.int (zi co), .ref ps, .int (zi ru), .ref pk, .ref pa, .ref pb, .ref pq, .int (zi we), .int (zi wr), .ref pw, .int (zi ty), .ref pt])), (ps, aI cI 10 sf)] sz) [(g0, .inr (5, [.int (zi 2), .ref ps, .int (zi ru), .ref pk, .ref pa, .ref pb, .ref pq, .int (zi we), .int (zi wr), .ref pw, .int (zi ty), .ref pt])), (ps, aI cI 10 sf)]) (va_A [(g0, .inr (5, [.int (zi co), .ref ps, .int (zi ru), .ref pk, .ref pa, .ref pb, .ref pq, .int (zi we), .int (zi wr), .ref pw, .int (zi ty), .ref pt])), (ps, aI cI 10 sf)] sz)) 0 0 (va_A [(g0, .inr (5, [.int (zi co), .ref ps, .int (zi ru), .ref pk, .ref pa, .ref pb, .ref pq, .int (zi we), .int (zi wr), .ref pw, .int (zi ty), .ref pt])), (ps, aI cI 10 sf)] sz) := by
  refine Met.ofW (cc := cX5_days) (maxL := 3) (ret := (some .int)) (by decide) rfl ?_
  intro p e s m args below meth c s₁ B hml hv
  obtain ⟨rfl, hsz, hP, hK, hD0⟩ := hv
  have hx := B.exec
  have hb := B.bytes
  have hr := B.returns
  have hts := atoms_spec (ws := wsX5_days) B.pre
  have hown : s.vm.findClass RX5 = some m.cls := findClass_of_methodNamed B.named
  have hlocks := B.notSynchronized
  subst hsz
  have hD := hD0.self (sz := s.heap.size)
  generalize hAe : va_A [(g0, .inr (5, [.int (zi co), .ref ps, .int (zi ru), .ref pk, .ref pa, .ref pb, .ref pq, .int (zi we), .int (zi wr), .ref pw, .int (zi ty), .ref pt])), (ps, aI cI 10 sf)] s.heap.size = A at hD ⊢
  have hA : ∀ q : Nat, s.heap.size ≤ q → A q := fun q h => by rw [← hAe]; exact Or.inr h
  have hS : va_S A s.heap s.heap [] := va_S.rf
  have hP : va_P (dC, dI) vwCl [(g0, .inr (5, [.int (zi co), .ref ps, .int (zi ru), .ref pk, .ref pa, .ref pb, .ref pq, .int (zi we), .int (zi wr), .ref pw, .int (zi ty), .ref pt])), (ps, aI cI 10 sf)] s.heap := hP
  have hl := lv_entry ([.ref g0, .int (zi sl), .int (zi nu)]) (n := 3) (Nat.le_of_ble_eq_true rfl)
  rw [lg_entry_eq]
  generalize (lg_sl ([.ref g0, .int (zi sl), .int (zi nu)]) ++ List.replicate (3 - (lg_sl ([.ref g0, .int (zi sl), .int (zi nu)])).length) Slot.unset).toArray = ls at hl ⊢
  have hl : lv_has ls 3 [(0, .ref g0), (1, .int (zi sl)), (2, .int (zi nu))] := hl
  refine lv_aload_n hx hb dX5_days_0 rfl (lv_at hl 0 rfl) ?_
  refine lv_iload_n hx hb dX5_days_1 rfl (lv_at hl 1 rfl) ?_
  have hh1 := c_X5_isSlot l sl (by omega)
  refine vp_callSi (va_Run.run (va_runS (As := [.int (zi sl)]) (rest := [.ref g0]) ⟨hx, hb, hml, hown, hts⟩ hh1 (va_cwS 1 hts gX5_days_X5_isSlot rfl rfl rfl (by decide +kernel) ⟨Nat.le_of_ble_eq_true rfl, Nat.le_of_ble_eq_true rfl⟩) ⟨fun a U g mk q => q, fun U hU hW => ⟨rfl, trivial⟩⟩ rfl rfl hl.1 rfl (lv_room (Nat.le_of_ble_eq_true rfl)) dX5_days_2 ⟨Nat.zero_le _, Nat.zero_le _⟩)) (fun r1 (hr1 : r1 = zi (f_X5_isSlot sl)) => ?_)
  subst hr1
  have hf1 := b_X5_isSlot sl (by omega)
  refine zw_if_ne (tgt := 12) hx hb dX5_days_5 (by decide) ⟨by omega, by omega⟩ (fun h2 => ?_) (fun h2 => ?_)
  · skip
    refine lv_iload_n hx hb dX5_days_12 rfl (lv_at hl 2 rfl) ?_
    refine zw_iconst hx hb dX5_days_13 ?_
    refine zw_ldc (n := 3652058) hx hb hown (hts (.constant RX5 89 (3652058)) (by decide +kernel)) dX5_days_14 (by decide) ?_
    have hh3 := c_X5_in l nu 0 3652058 (by omega) (by omega) (by omega)
    refine vp_callSi (va_Run.run (va_runS (As := [.int (zi nu), .int (zi 0), .int (zi 3652058)]) (rest := [.ref g0]) ⟨hx, hb, hml, hown, hts⟩ hh3 (va_cwS 3 hts gX5_days_X5_in rfl rfl rfl (by decide +kernel) ⟨Nat.le_of_ble_eq_true rfl, Nat.le_of_ble_eq_true rfl⟩) ⟨fun a U g mk q => q, fun U hU hW => ⟨rfl, trivial⟩⟩ rfl rfl hl.1 rfl (lv_room (Nat.le_of_ble_eq_true rfl)) dX5_days_16 ⟨Nat.zero_le _, Nat.zero_le _⟩)) (fun r3 (hr3 : r3 = zi (f_X5_in nu 0 3652058)) => ?_)
    subst hr3
    have hf3 := b_X5_in nu 0 3652058 (by omega) (by omega) (by omega)
    refine zw_if_ne (tgt := 26) hx hb dX5_days_19 (by decide) ⟨by omega, by omega⟩ (fun h4 => ?_) (fun h4 => ?_)
    · skip
      exact absurd True.intro (by omega)
    · skip
      refine zw_iconst hx hb dX5_days_22 ?_
      refine lv_goto (tgt := 27) hx hb dX5_days_23 (by decide) ?_
      refine va_put (D := (dC, dI)) (ci := 5) (v := .int (zi 2)) (ty := .int) (C := RX5) (T := TX5) (N := 12) hx hb hts (by decide +kernel) tyX5 tyX5_ok nmX5 hown hK hP hD hS 0 rfl rfl 0 (by decide) (hts (.fieldLink RX5 35 "CivilDaysModel" "code" "I") (by decide +kernel)) (fun _ h9 => h9) rfl (by decide +kernel) rfl rfl (Nat.le_of_ble_eq_true rfl) dX5_days_27 (fun H locs hP hD hS => ?_)
      have hP : va_P (dC, dI) vwCl [(g0, .inr (5, [.int (zi 2), .ref ps, .int (zi ru), .ref pk, .ref pa, .ref pb, .ref pq, .int (zi we), .int (zi wr), .ref pw, .int (zi ty), .ref pt])), (ps, aI cI 10 sf)] H := hP
      have hD : va_D A [(g0, .inr (5, [.int (zi 2), .ref ps, .int (zi ru), .ref pk, .ref pa, .ref pb, .ref pq, .int (zi we), .int (zi wr), .ref pw, .int (zi ty), .ref pt])), (ps, aI cI 10 sf)] := hD
      refine lv_aload_n hx hb dX5_days_30 rfl (lv_at hl 0 rfl) ?_
      refine va_get (D := (dC, dI)) (ci := 5) (v := .int (zi 2)) (C := RX5) (T := TX5) (N := 12) hx hb hts (by decide +kernel) hown hK hP 0 rfl rfl 0 (by decide) (hts (.fieldLink RX5 35 "CivilDaysModel" "code" "I") (by decide +kernel)) (fun _ h9 => h9) rfl dX5_days_31 ?_
      refine zw_if_le (tgt := 41) hx hb dX5_days_34 (by decide) ⟨by omega, by omega⟩ (fun h5 => ?_) (fun h5 => ?_)
      · skip
        exact absurd True.intro (by omega)
      · skip
        refine zw_iconst hx hb dX5_days_37 ?_
        refine lv_goto (tgt := 50) hx hb dX5_days_38 (by decide) ?_
        have hP9 := hP.sub (ws' := [(g0, .inr (5, [.int (zi 2), .ref ps, .int (zi ru), .ref pk, .ref pa, .ref pb, .ref pq, .int (zi we), .int (zi wr), .ref pw, .int (zi ty), .ref pt])), (ps, aI cI 10 sf)]) [0, 1] rfl
        have hD9 := hD.sub (ws' := [(g0, .inr (5, [.int (zi 2), .ref ps, .int (zi ru), .ref pk, .ref pa, .ref pb, .ref pq, .int (zi we), .int (zi wr), .ref pw, .int (zi ty), .ref pt])), (ps, aI cI 10 sf)]) [0, 1] (by decide) rfl
        exact W.iret (v := zi 0) hx hb hr (fun t ht hW => ⟨⟨zi 0, (), rfl, rfl, by rw [ht]; exact hP9, va_K.moved hW.alike hK, hD9⟩, hS.F ht⟩) hS.2.2 dX5_days_50
  · skip
    exact absurd True.intro (by omega)

set_option maxHeartbeats 4000000 in
set_option maxRecDepth 100000 in
theorem c_X5_days (l : Launch)  (dC : Nat → ClassId) (dI : Nat → Nat → Nat) (cI : ClassId) (g0 ps pk pa pb pq pw pt : Nat) (co ru we wr ty : Int) (sf : Nat → Int) (sl nu : Int) (sz : Nat) (hp0 : 0 ≤ sl ∧ sl ≤ 9) (hp1 : 0 ≤ nu ∧ nu ≤ 3652058) : Met l yX5_days wsX5_days ({ frames := 2, cells := 0, slots := 0, locals := 42 }) (zPw (dC, dI) [(cI, .int)] sz [.ref g0, .int (zi sl), .int (zi nu)] [(g0, .inr (5, [.int (zi co), .ref ps, .int (zi ru), .ref pk, .ref pa, .ref pb, .ref pq, .int (zi we), .int (zi wr), .ref pw, .int (zi ty), .ref pt])), (ps, aI cI 10 sf)]) (va_Qi (fun (r : Int32) (_ : Unit) => r = zi (f_X5_weekdayOf nu)) (zB (dC, dI) [(cI, .int)] (va_A [(g0, .inr (5, [.int (zi co), .ref ps, .int (zi ru), .ref pk, .ref pa, .ref pb, .ref pq, .int (zi we), .int (zi wr), .ref pw, .int (zi ty), .ref pt])), (ps, aI cI 10 sf)] sz) [(g0, .inr (5, [.int (zi 0), .ref ps, .int (zi ru), .ref pk, .ref pa, .ref pb, .ref pq, .int (zi we), .int (zi wr), .ref pw, .int (zi ty), .ref pt])), (ps, aI cI 10 (zup sf sl.toNat nu))]) (va_A [(g0, .inr (5, [.int (zi co), .ref ps, .int (zi ru), .ref pk, .ref pa, .ref pb, .ref pq, .int (zi we), .int (zi wr), .ref pw, .int (zi ty), .ref pt])), (ps, aI cI 10 sf)] sz)) 0 0 (va_A [(g0, .inr (5, [.int (zi co), .ref ps, .int (zi ru), .ref pk, .ref pa, .ref pb, .ref pq, .int (zi we), .int (zi wr), .ref pw, .int (zi ty), .ref pt])), (ps, aI cI 10 sf)] sz) := by
  refine Met.ofW (cc := cX5_days) (maxL := 3) (ret := (some .int)) (by decide) rfl ?_
  intro p e s m args below meth c s₁ B hml hv
  obtain ⟨rfl, hsz, hP, hK, hD0⟩ := hv
  have hx := B.exec
  have hb := B.bytes
  have hr := B.returns
  have hts := atoms_spec (ws := wsX5_days) B.pre
  have hown : s.vm.findClass RX5 = some m.cls := findClass_of_methodNamed B.named
  have hlocks := B.notSynchronized
  subst hsz
  have hD := hD0.self (sz := s.heap.size)
  generalize hAe : va_A [(g0, .inr (5, [.int (zi co), .ref ps, .int (zi ru), .ref pk, .ref pa, .ref pb, .ref pq, .int (zi we), .int (zi wr), .ref pw, .int (zi ty), .ref pt])), (ps, aI cI 10 sf)] s.heap.size = A at hD ⊢
  have hA : ∀ q : Nat, s.heap.size ≤ q → A q := fun q h => by rw [← hAe]; exact Or.inr h
  have hS : va_S A s.heap s.heap [] := va_S.rf
  have hP : va_P (dC, dI) vwCl [(g0, .inr (5, [.int (zi co), .ref ps, .int (zi ru), .ref pk, .ref pa, .ref pb, .ref pq, .int (zi we), .int (zi wr), .ref pw, .int (zi ty), .ref pt])), (ps, aI cI 10 sf)] s.heap := hP
  have hl := lv_entry ([.ref g0, .int (zi sl), .int (zi nu)]) (n := 3) (Nat.le_of_ble_eq_true rfl)
  rw [lg_entry_eq]
  generalize (lg_sl ([.ref g0, .int (zi sl), .int (zi nu)]) ++ List.replicate (3 - (lg_sl ([.ref g0, .int (zi sl), .int (zi nu)])).length) Slot.unset).toArray = ls at hl ⊢
  have hl : lv_has ls 3 [(0, .ref g0), (1, .int (zi sl)), (2, .int (zi nu))] := hl
  refine lv_aload_n hx hb dX5_days_0 rfl (lv_at hl 0 rfl) ?_
  refine lv_iload_n hx hb dX5_days_1 rfl (lv_at hl 1 rfl) ?_
  have hh1 := c_X5_isSlot l sl (by omega)
  refine vp_callSi (va_Run.run (va_runS (As := [.int (zi sl)]) (rest := [.ref g0]) ⟨hx, hb, hml, hown, hts⟩ hh1 (va_cwS 1 hts gX5_days_X5_isSlot rfl rfl rfl (by decide +kernel) ⟨Nat.le_of_ble_eq_true rfl, Nat.le_of_ble_eq_true rfl⟩) ⟨fun a U g mk q => q, fun U hU hW => ⟨rfl, trivial⟩⟩ rfl rfl hl.1 rfl (lv_room (Nat.le_of_ble_eq_true rfl)) dX5_days_2 ⟨Nat.zero_le _, Nat.zero_le _⟩)) (fun r1 (hr1 : r1 = zi (f_X5_isSlot sl)) => ?_)
  subst hr1
  have hf1 := b_X5_isSlot sl (by omega)
  refine zw_if_ne (tgt := 12) hx hb dX5_days_5 (by decide) ⟨by omega, by omega⟩ (fun h2 => ?_) (fun h2 => ?_)
  · skip
    refine lv_iload_n hx hb dX5_days_12 rfl (lv_at hl 2 rfl) ?_
    refine zw_iconst hx hb dX5_days_13 ?_
    refine zw_ldc (n := 3652058) hx hb hown (hts (.constant RX5 89 (3652058)) (by decide +kernel)) dX5_days_14 (by decide) ?_
    have hh3 := c_X5_in l nu 0 3652058 (by omega) (by omega) (by omega)
    refine vp_callSi (va_Run.run (va_runS (As := [.int (zi nu), .int (zi 0), .int (zi 3652058)]) (rest := [.ref g0]) ⟨hx, hb, hml, hown, hts⟩ hh3 (va_cwS 3 hts gX5_days_X5_in rfl rfl rfl (by decide +kernel) ⟨Nat.le_of_ble_eq_true rfl, Nat.le_of_ble_eq_true rfl⟩) ⟨fun a U g mk q => q, fun U hU hW => ⟨rfl, trivial⟩⟩ rfl rfl hl.1 rfl (lv_room (Nat.le_of_ble_eq_true rfl)) dX5_days_16 ⟨Nat.zero_le _, Nat.zero_le _⟩)) (fun r3 (hr3 : r3 = zi (f_X5_in nu 0 3652058)) => ?_)
    subst hr3
    have hf3 := b_X5_in nu 0 3652058 (by omega) (by omega) (by omega)
    refine zw_if_ne (tgt := 26) hx hb dX5_days_19 (by decide) ⟨by omega, by omega⟩ (fun h4 => ?_) (fun h4 => ?_)
    · skip
      refine zw_iconst hx hb dX5_days_26 ?_
      refine va_put (D := (dC, dI)) (ci := 5) (v := .int (zi 0)) (ty := .int) (C := RX5) (T := TX5) (N := 12) hx hb hts (by decide +kernel) tyX5 tyX5_ok nmX5 hown hK hP hD hS 0 rfl rfl 0 (by decide) (hts (.fieldLink RX5 35 "CivilDaysModel" "code" "I") (by decide +kernel)) (fun _ h9 => h9) rfl (by decide +kernel) rfl rfl (Nat.le_of_ble_eq_true rfl) dX5_days_27 (fun H locs hP hD hS => ?_)
      have hP : va_P (dC, dI) vwCl [(g0, .inr (5, [.int (zi 0), .ref ps, .int (zi ru), .ref pk, .ref pa, .ref pb, .ref pq, .int (zi we), .int (zi wr), .ref pw, .int (zi ty), .ref pt])), (ps, aI cI 10 sf)] H := hP
      have hD : va_D A [(g0, .inr (5, [.int (zi 0), .ref ps, .int (zi ru), .ref pk, .ref pa, .ref pb, .ref pq, .int (zi we), .int (zi wr), .ref pw, .int (zi ty), .ref pt])), (ps, aI cI 10 sf)] := hD
      refine lv_aload_n hx hb dX5_days_30 rfl (lv_at hl 0 rfl) ?_
      refine va_get (D := (dC, dI)) (ci := 5) (v := .int (zi 0)) (C := RX5) (T := TX5) (N := 12) hx hb hts (by decide +kernel) hown hK hP 0 rfl rfl 0 (by decide) (hts (.fieldLink RX5 35 "CivilDaysModel" "code" "I") (by decide +kernel)) (fun _ h9 => h9) rfl dX5_days_31 ?_
      refine zw_if_le (tgt := 41) hx hb dX5_days_34 (by decide) ⟨by omega, by omega⟩ (fun h5 => ?_) (fun h5 => ?_)
      · skip
        refine lv_aload_n hx hb dX5_days_41 rfl (lv_at hl 0 rfl) ?_
        refine lv_iload_n hx hb dX5_days_42 rfl (lv_at hl 1 rfl) ?_
        refine lv_iload_n hx hb dX5_days_43 rfl (lv_at hl 2 rfl) ?_
        have hh6 := c_X5_lay l dC dI cI g0 ps pk pa pb pq pw pt 0 ru we wr ty sf sl nu H.size (by omega) (by omega)
        have hPc := hP.sub (ws' := [(g0, .inr (5, [.int (zi 0), .ref ps, .int (zi ru), .ref pk, .ref pa, .ref pb, .ref pq, .int (zi we), .int (zi wr), .ref pw, .int (zi ty), .ref pt])), (ps, aI cI 10 sf)]) [0, 1] rfl
        have hKc : va_K (dC, dI) vwCl [(cI, .int)] s := hK
        have hDc := hD.sub (ws' := [(g0, .inr (5, [.int (zi 0), .ref ps, .int (zi ru), .ref pk, .ref pa, .ref pb, .ref pq, .int (zi we), .int (zi wr), .ref pw, .int (zi ty), .ref pt])), (ps, aI cI 10 sf)]) [0, 1] (by decide) rfl
        have hFc := va_free (wc := [(g0, .inr (5, [.int (zi 0), .ref ps, .int (zi ru), .ref pk, .ref pa, .ref pb, .ref pq, .int (zi we), .int (zi wr), .ref pw, .int (zi ty), .ref pt])), (ps, aI cI 10 sf)]) hD hS hA [0, 1] rfl
        refine va_calli (va_runV (As := [.int (zi sl), .int (zi nu)]) (rest := []) ⟨hx, hb, hml, hown, hts⟩ hh6 (cwV 2 hts gX5_days_X5_lay rfl rfl rfl (by decide +kernel) ⟨Nat.le_of_ble_eq_true rfl, Nat.le_of_ble_eq_true rfl⟩) ⟨zPw.blind _ _ _ _ _, va_recv hKc hPc (ci := 5) (q0 := 0) rfl rfl, fun U hU hW => ⟨rfl, by rw [hU], by rw [hU]; exact hPc, va_K.moved hW.alike hKc, hDc.weaken (fun _ _ _ _ => trivial)⟩⟩ rfl rfl hl.1 rfl (lv_room (Nat.le_of_ble_eq_true rfl)) dX5_days_44 ⟨Nat.le_of_ble_eq_true rfl, Nat.le_of_ble_eq_true rfl⟩) hS (fun q _ h => hFc q h) hFc (fun r6 u t H1 locs ht hvm hw hB hz1 hk1 hS => ?_)
        obtain ⟨hP1, hK1, hD1⟩ := hB
        rw [ht] at hP1
        obtain ⟨hP, hD⟩ := va_join (wr := []) (w1 := [(g0, .inr (5, [.int (zi 0), .ref ps, .int (zi ru), .ref pk, .ref pa, .ref pb, .ref pq, .int (zi we), .int (zi wr), .ref pw, .int (zi ty), .ref pt])), (ps, aI cI 10 (zup sf sl.toNat nu))]) hP hD [0, 1] [] rfl rfl (by decide) (by decide) hk1 hFc hP1 hD1
        generalize H1 = H at hP hS ⊢
        obtain rfl : r6 = zi nu := hw
        have hP : va_P (dC, dI) vwCl [(g0, .inr (5, [.int (zi 0), .ref ps, .int (zi ru), .ref pk, .ref pa, .ref pb, .ref pq, .int (zi we), .int (zi wr), .ref pw, .int (zi ty), .ref pt])), (ps, aI cI 10 (zup sf sl.toNat nu))] H := hP
        have hD : va_D A [(g0, .inr (5, [.int (zi 0), .ref ps, .int (zi ru), .ref pk, .ref pa, .ref pb, .ref pq, .int (zi we), .int (zi wr), .ref pw, .int (zi ty), .ref pt])), (ps, aI cI 10 (zup sf sl.toNat nu))] := hD
        have hh7 := c_X5_weekdayOf l nu (by omega)
        refine vp_callSi (va_Run.run (va_runS (As := [.int (zi nu)]) (rest := []) ⟨hx, hb, hml, hown, hts⟩ hh7 (va_cwS 1 hts gX5_days_X5_weekdayOf rfl rfl rfl (by decide +kernel) ⟨Nat.le_of_ble_eq_true rfl, Nat.le_of_ble_eq_true rfl⟩) ⟨fun a U g mk q => q, fun U hU hW => ⟨rfl, trivial⟩⟩ rfl rfl hl.1 rfl (lv_room (Nat.le_of_ble_eq_true rfl)) dX5_days_47 ⟨Nat.zero_le _, Nat.zero_le _⟩)) (fun r7 (hr7 : r7 = zi (f_X5_weekdayOf nu)) => ?_)
        subst hr7
        have hf7 := b_X5_weekdayOf nu (by omega)
        have hP9 := hP.sub (ws' := [(g0, .inr (5, [.int (zi 0), .ref ps, .int (zi ru), .ref pk, .ref pa, .ref pb, .ref pq, .int (zi we), .int (zi wr), .ref pw, .int (zi ty), .ref pt])), (ps, aI cI 10 (zup sf sl.toNat nu))]) [0, 1] rfl
        have hD9 := hD.sub (ws' := [(g0, .inr (5, [.int (zi 0), .ref ps, .int (zi ru), .ref pk, .ref pa, .ref pb, .ref pq, .int (zi we), .int (zi wr), .ref pw, .int (zi ty), .ref pt])), (ps, aI cI 10 (zup sf sl.toNat nu))]) [0, 1] (by decide) rfl
        exact W.iret (v := zi (f_X5_weekdayOf nu)) hx hb hr (fun t ht hW => ⟨⟨zi (f_X5_weekdayOf nu), (), rfl, rfl, by rw [ht]; exact hP9, va_K.moved hW.alike hK, hD9⟩, hS.F ht⟩) hS.2.2 dX5_days_50
      · skip
        exact absurd True.intro (by omega)
    · skip
      exact absurd True.intro (by omega)
  · skip
    exact absurd True.intro (by omega)

set_option maxHeartbeats 4000000 in
set_option maxRecDepth 100000 in
theorem c_X5_week_1 (l : Launch)  (dC : Nat → ClassId) (dI : Nat → Nat → Nat) (cI : ClassId) (g0 ps pk pa pb pq pw pt : Nat) (co ru we wr ty : Int) (sf : Nat → Int) (sl ya wk wd : Int) (sz : Nat) (hp0 : -2147483648 ≤ sl ∧ sl ≤ 2147483647) (hp1 : sl < 0 ∨ 9 < sl) (hp2 : -2147483648 ≤ ya ∧ ya ≤ 2147483647) (hp3 : -2147483648 ≤ wk ∧ wk ≤ 2147483647) (hp4 : -2147483648 ≤ wd ∧ wd ≤ 2147483647) : Met l yX5_week wsX5_week ({ frames := 2, cells := 0, slots := 0, locals := 42 }) (zPw (dC, dI) [(cI, .int)] sz [.ref g0, .int (zi sl), .int (zi ya), .int (zi wk), .int (zi wd)] [(g0, .inr (5, [.int (zi co), .ref ps, .int (zi ru), .ref pk, .ref pa, .ref pb, .ref pq, .int (zi we), .int (zi wr), .ref pw, .int (zi ty), .ref pt])), (ps, aI cI 10 sf)]) (va_Qi (fun (r : Int32) (_ : Unit) => r = zi 0) (zB (dC, dI) [(cI, .int)] (va_A [(g0, .inr (5, [.int (zi co), .ref ps, .int (zi ru), .ref pk, .ref pa, .ref pb, .ref pq, .int (zi we), .int (zi wr), .ref pw, .int (zi ty), .ref pt])), (ps, aI cI 10 sf)] sz) [(g0, .inr (5, [.int (zi 1), .ref ps, .int (zi ru), .ref pk, .ref pa, .ref pb, .ref pq, .int (zi we), .int (zi wr), .ref pw, .int (zi ty), .ref pt])), (ps, aI cI 10 sf)]) (va_A [(g0, .inr (5, [.int (zi co), .ref ps, .int (zi ru), .ref pk, .ref pa, .ref pb, .ref pq, .int (zi we), .int (zi wr), .ref pw, .int (zi ty), .ref pt])), (ps, aI cI 10 sf)] sz)) 0 0 (va_A [(g0, .inr (5, [.int (zi co), .ref ps, .int (zi ru), .ref pk, .ref pa, .ref pb, .ref pq, .int (zi we), .int (zi wr), .ref pw, .int (zi ty), .ref pt])), (ps, aI cI 10 sf)] sz) := by
  refine Met.ofW (cc := cX5_week) (maxL := 5) (ret := (some .int)) (by decide) rfl ?_
  intro p e s m args below meth c s₁ B hml hv
  obtain ⟨rfl, hsz, hP, hK, hD0⟩ := hv
  have hx := B.exec
  have hb := B.bytes
  have hr := B.returns
  have hts := atoms_spec (ws := wsX5_week) B.pre
  have hown : s.vm.findClass RX5 = some m.cls := findClass_of_methodNamed B.named
  have hlocks := B.notSynchronized
  subst hsz
  have hD := hD0.self (sz := s.heap.size)
  generalize hAe : va_A [(g0, .inr (5, [.int (zi co), .ref ps, .int (zi ru), .ref pk, .ref pa, .ref pb, .ref pq, .int (zi we), .int (zi wr), .ref pw, .int (zi ty), .ref pt])), (ps, aI cI 10 sf)] s.heap.size = A at hD ⊢
  have hA : ∀ q : Nat, s.heap.size ≤ q → A q := fun q h => by rw [← hAe]; exact Or.inr h
  have hS : va_S A s.heap s.heap [] := va_S.rf
  have hP : va_P (dC, dI) vwCl [(g0, .inr (5, [.int (zi co), .ref ps, .int (zi ru), .ref pk, .ref pa, .ref pb, .ref pq, .int (zi we), .int (zi wr), .ref pw, .int (zi ty), .ref pt])), (ps, aI cI 10 sf)] s.heap := hP
  have hl := lv_entry ([.ref g0, .int (zi sl), .int (zi ya), .int (zi wk), .int (zi wd)]) (n := 5) (Nat.le_of_ble_eq_true rfl)
  rw [lg_entry_eq]
  generalize (lg_sl ([.ref g0, .int (zi sl), .int (zi ya), .int (zi wk), .int (zi wd)]) ++ List.replicate (5 - (lg_sl ([.ref g0, .int (zi sl), .int (zi ya), .int (zi wk), .int (zi wd)])).length) Slot.unset).toArray = ls at hl ⊢
  have hl : lv_has ls 5 [(0, .ref g0), (1, .int (zi sl)), (2, .int (zi ya)), (3, .int (zi wk)), (4, .int (zi wd))] := hl
  refine lv_aload_n hx hb dX5_week_0 rfl (lv_at hl 0 rfl) ?_
  refine lv_iload_n hx hb dX5_week_1 rfl (lv_at hl 1 rfl) ?_
  have hh1 := c_X5_isSlot l sl (by omega)
  refine vp_callSi (va_Run.run (va_runS (As := [.int (zi sl)]) (rest := [.ref g0]) ⟨hx, hb, hml, hown, hts⟩ hh1 (va_cwS 1 hts gX5_week_X5_isSlot rfl rfl rfl (by decide +kernel) ⟨Nat.le_of_ble_eq_true rfl, Nat.le_of_ble_eq_true rfl⟩) ⟨fun a U g mk q => q, fun U hU hW => ⟨rfl, trivial⟩⟩ rfl rfl hl.1 rfl (lv_room (Nat.le_of_ble_eq_true rfl)) dX5_week_2 ⟨Nat.zero_le _, Nat.zero_le _⟩)) (fun r1 (hr1 : r1 = zi (f_X5_isSlot sl)) => ?_)
  subst hr1
  have hf1 := b_X5_isSlot sl (by omega)
  refine zw_if_ne (tgt := 12) hx hb dX5_week_5 (by decide) ⟨by omega, by omega⟩ (fun h2 => ?_) (fun h2 => ?_)
  · skip
    exact absurd True.intro (by omega)
  · skip
    refine zw_iconst hx hb dX5_week_8 ?_
    refine lv_goto (tgt := 27) hx hb dX5_week_9 (by decide) ?_
    refine va_put (D := (dC, dI)) (ci := 5) (v := .int (zi 1)) (ty := .int) (C := RX5) (T := TX5) (N := 12) hx hb hts (by decide +kernel) tyX5 tyX5_ok nmX5 hown hK hP hD hS 0 rfl rfl 0 (by decide) (hts (.fieldLink RX5 35 "CivilDaysModel" "code" "I") (by decide +kernel)) (fun _ h9 => h9) rfl (by decide +kernel) rfl rfl (Nat.le_of_ble_eq_true rfl) dX5_week_27 (fun H locs hP hD hS => ?_)
    have hP : va_P (dC, dI) vwCl [(g0, .inr (5, [.int (zi 1), .ref ps, .int (zi ru), .ref pk, .ref pa, .ref pb, .ref pq, .int (zi we), .int (zi wr), .ref pw, .int (zi ty), .ref pt])), (ps, aI cI 10 sf)] H := hP
    have hD : va_D A [(g0, .inr (5, [.int (zi 1), .ref ps, .int (zi ru), .ref pk, .ref pa, .ref pb, .ref pq, .int (zi we), .int (zi wr), .ref pw, .int (zi ty), .ref pt])), (ps, aI cI 10 sf)] := hD
    refine lv_aload_n hx hb dX5_week_30 rfl (lv_at hl 0 rfl) ?_
    refine va_get (D := (dC, dI)) (ci := 5) (v := .int (zi 1)) (C := RX5) (T := TX5) (N := 12) hx hb hts (by decide +kernel) hown hK hP 0 rfl rfl 0 (by decide) (hts (.fieldLink RX5 35 "CivilDaysModel" "code" "I") (by decide +kernel)) (fun _ h9 => h9) rfl dX5_week_31 ?_
    refine zw_if_le (tgt := 41) hx hb dX5_week_34 (by decide) ⟨by omega, by omega⟩ (fun h3 => ?_) (fun h3 => ?_)
    · skip
      exact absurd True.intro (by omega)
    · skip
      refine zw_iconst hx hb dX5_week_37 ?_
      refine lv_goto (tgt := 53) hx hb dX5_week_38 (by decide) ?_
      have hP9 := hP.sub (ws' := [(g0, .inr (5, [.int (zi 1), .ref ps, .int (zi ru), .ref pk, .ref pa, .ref pb, .ref pq, .int (zi we), .int (zi wr), .ref pw, .int (zi ty), .ref pt])), (ps, aI cI 10 sf)]) [0, 1] rfl
      have hD9 := hD.sub (ws' := [(g0, .inr (5, [.int (zi 1), .ref ps, .int (zi ru), .ref pk, .ref pa, .ref pb, .ref pq, .int (zi we), .int (zi wr), .ref pw, .int (zi ty), .ref pt])), (ps, aI cI 10 sf)]) [0, 1] (by decide) rfl
      exact W.iret (v := zi 0) hx hb hr (fun t ht hW => ⟨⟨zi 0, (), rfl, rfl, by rw [ht]; exact hP9, va_K.moved hW.alike hK, hD9⟩, hS.F ht⟩) hS.2.2 dX5_week_53

set_option maxHeartbeats 4000000 in
set_option maxRecDepth 100000 in
theorem c_X5_week_2 (l : Launch)  (dC : Nat → ClassId) (dI : Nat → Nat → Nat) (cI : ClassId) (g0 ps pk pa pb pq pw pt : Nat) (co ru we wr ty : Int) (sf : Nat → Int) (sl ya wk wd : Int) (sz : Nat) (hp0 : 0 ≤ sl ∧ sl ≤ 9) (hp1 : -2147483648 ≤ ya ∧ ya ≤ 2147483647) (hp2 : -2147483648 ≤ wk ∧ wk ≤ 2147483647) (hp3 : -2147483648 ≤ wd ∧ wd ≤ 2147483647) (hp4 : f_X5_byWeek ya wk wd = -1) : Met l yX5_week wsX5_week ({ frames := 4, cells := 0, slots := 0, locals := 85 }) (zPw (dC, dI) [(cI, .int)] sz [.ref g0, .int (zi sl), .int (zi ya), .int (zi wk), .int (zi wd)] [(g0, .inr (5, [.int (zi co), .ref ps, .int (zi ru), .ref pk, .ref pa, .ref pb, .ref pq, .int (zi we), .int (zi wr), .ref pw, .int (zi ty), .ref pt])), (ps, aI cI 10 sf)]) (va_Qi (fun (r : Int32) (_ : Unit) => r = zi 0) (zB (dC, dI) [(cI, .int)] (va_A [(g0, .inr (5, [.int (zi co), .ref ps, .int (zi ru), .ref pk, .ref pa, .ref pb, .ref pq, .int (zi we), .int (zi wr), .ref pw, .int (zi ty), .ref pt])), (ps, aI cI 10 sf)] sz) [(g0, .inr (5, [.int (zi 2), .ref ps, .int (zi ru), .ref pk, .ref pa, .ref pb, .ref pq, .int (zi we), .int (zi wr), .ref pw, .int (zi ty), .ref pt])), (ps, aI cI 10 sf)]) (va_A [(g0, .inr (5, [.int (zi co), .ref ps, .int (zi ru), .ref pk, .ref pa, .ref pb, .ref pq, .int (zi we), .int (zi wr), .ref pw, .int (zi ty), .ref pt])), (ps, aI cI 10 sf)] sz)) 0 0 (va_A [(g0, .inr (5, [.int (zi co), .ref ps, .int (zi ru), .ref pk, .ref pa, .ref pb, .ref pq, .int (zi we), .int (zi wr), .ref pw, .int (zi ty), .ref pt])), (ps, aI cI 10 sf)] sz) := by
  refine Met.ofW (cc := cX5_week) (maxL := 5) (ret := (some .int)) (by decide) rfl ?_
  intro p e s m args below meth c s₁ B hml hv
  obtain ⟨rfl, hsz, hP, hK, hD0⟩ := hv
  have hx := B.exec
  have hb := B.bytes
  have hr := B.returns
  have hts := atoms_spec (ws := wsX5_week) B.pre
  have hown : s.vm.findClass RX5 = some m.cls := findClass_of_methodNamed B.named
  have hlocks := B.notSynchronized
  subst hsz
  have hD := hD0.self (sz := s.heap.size)
  generalize hAe : va_A [(g0, .inr (5, [.int (zi co), .ref ps, .int (zi ru), .ref pk, .ref pa, .ref pb, .ref pq, .int (zi we), .int (zi wr), .ref pw, .int (zi ty), .ref pt])), (ps, aI cI 10 sf)] s.heap.size = A at hD ⊢
  have hA : ∀ q : Nat, s.heap.size ≤ q → A q := fun q h => by rw [← hAe]; exact Or.inr h
  have hS : va_S A s.heap s.heap [] := va_S.rf
  have hP : va_P (dC, dI) vwCl [(g0, .inr (5, [.int (zi co), .ref ps, .int (zi ru), .ref pk, .ref pa, .ref pb, .ref pq, .int (zi we), .int (zi wr), .ref pw, .int (zi ty), .ref pt])), (ps, aI cI 10 sf)] s.heap := hP
  have hl := lv_entry ([.ref g0, .int (zi sl), .int (zi ya), .int (zi wk), .int (zi wd)]) (n := 5) (Nat.le_of_ble_eq_true rfl)
  rw [lg_entry_eq]
  generalize (lg_sl ([.ref g0, .int (zi sl), .int (zi ya), .int (zi wk), .int (zi wd)]) ++ List.replicate (5 - (lg_sl ([.ref g0, .int (zi sl), .int (zi ya), .int (zi wk), .int (zi wd)])).length) Slot.unset).toArray = ls at hl ⊢
  have hl : lv_has ls 5 [(0, .ref g0), (1, .int (zi sl)), (2, .int (zi ya)), (3, .int (zi wk)), (4, .int (zi wd))] := hl
  refine lv_aload_n hx hb dX5_week_0 rfl (lv_at hl 0 rfl) ?_
  refine lv_iload_n hx hb dX5_week_1 rfl (lv_at hl 1 rfl) ?_
  have hh1 := c_X5_isSlot l sl (by omega)
  refine vp_callSi (va_Run.run (va_runS (As := [.int (zi sl)]) (rest := [.ref g0]) ⟨hx, hb, hml, hown, hts⟩ hh1 (va_cwS 1 hts gX5_week_X5_isSlot rfl rfl rfl (by decide +kernel) ⟨Nat.le_of_ble_eq_true rfl, Nat.le_of_ble_eq_true rfl⟩) ⟨fun a U g mk q => q, fun U hU hW => ⟨rfl, trivial⟩⟩ rfl rfl hl.1 rfl (lv_room (Nat.le_of_ble_eq_true rfl)) dX5_week_2 ⟨Nat.zero_le _, Nat.zero_le _⟩)) (fun r1 (hr1 : r1 = zi (f_X5_isSlot sl)) => ?_)
  subst hr1
  have hf1 := b_X5_isSlot sl (by omega)
  refine zw_if_ne (tgt := 12) hx hb dX5_week_5 (by decide) ⟨by omega, by omega⟩ (fun h2 => ?_) (fun h2 => ?_)
  · skip
    refine lv_iload_n hx hb dX5_week_12 rfl (lv_at hl 2 rfl) ?_
    refine lv_iload_n hx hb dX5_week_13 rfl (lv_at hl 3 rfl) ?_
    refine lv_iload hx hb dX5_week_14 (lv_at hl 4 rfl) ?_
    have hh3 := c_X5_byWeek l ya wk wd (by omega) (by omega) (by omega)
    refine vp_callSi (va_Run.run (va_runS (As := [.int (zi ya), .int (zi wk), .int (zi wd)]) (rest := [.ref g0]) ⟨hx, hb, hml, hown, hts⟩ hh3 (va_cwS 3 hts gX5_week_X5_byWeek rfl rfl rfl (by decide +kernel) ⟨Nat.le_of_ble_eq_true rfl, Nat.le_of_ble_eq_true rfl⟩) ⟨fun a U g mk q => q, fun U hU hW => ⟨rfl, trivial⟩⟩ rfl rfl hl.1 rfl (lv_room (Nat.le_of_ble_eq_true rfl)) dX5_week_16 ⟨Nat.zero_le _, Nat.zero_le _⟩)) (fun r3 (hr3 : r3 = zi (f_X5_byWeek ya wk wd)) => ?_)
    subst hr3
    have hf3 := b_X5_byWeek ya wk wd (by omega) (by omega) (by omega)
    refine zw_if_ge (tgt := 26) hx hb dX5_week_19 (by decide) ⟨by omega, by omega⟩ (fun h4 => ?_) (fun h4 => ?_)
    · skip
      exact absurd True.intro (by omega)
    · skip
      refine zw_iconst hx hb dX5_week_22 ?_
      refine lv_goto (tgt := 27) hx hb dX5_week_23 (by decide) ?_
      refine va_put (D := (dC, dI)) (ci := 5) (v := .int (zi 2)) (ty := .int) (C := RX5) (T := TX5) (N := 12) hx hb hts (by decide +kernel) tyX5 tyX5_ok nmX5 hown hK hP hD hS 0 rfl rfl 0 (by decide) (hts (.fieldLink RX5 35 "CivilDaysModel" "code" "I") (by decide +kernel)) (fun _ h9 => h9) rfl (by decide +kernel) rfl rfl (Nat.le_of_ble_eq_true rfl) dX5_week_27 (fun H locs hP hD hS => ?_)
      have hP : va_P (dC, dI) vwCl [(g0, .inr (5, [.int (zi 2), .ref ps, .int (zi ru), .ref pk, .ref pa, .ref pb, .ref pq, .int (zi we), .int (zi wr), .ref pw, .int (zi ty), .ref pt])), (ps, aI cI 10 sf)] H := hP
      have hD : va_D A [(g0, .inr (5, [.int (zi 2), .ref ps, .int (zi ru), .ref pk, .ref pa, .ref pb, .ref pq, .int (zi we), .int (zi wr), .ref pw, .int (zi ty), .ref pt])), (ps, aI cI 10 sf)] := hD
      refine lv_aload_n hx hb dX5_week_30 rfl (lv_at hl 0 rfl) ?_
      refine va_get (D := (dC, dI)) (ci := 5) (v := .int (zi 2)) (C := RX5) (T := TX5) (N := 12) hx hb hts (by decide +kernel) hown hK hP 0 rfl rfl 0 (by decide) (hts (.fieldLink RX5 35 "CivilDaysModel" "code" "I") (by decide +kernel)) (fun _ h9 => h9) rfl dX5_week_31 ?_
      refine zw_if_le (tgt := 41) hx hb dX5_week_34 (by decide) ⟨by omega, by omega⟩ (fun h5 => ?_) (fun h5 => ?_)
      · skip
        exact absurd True.intro (by omega)
      · skip
        refine zw_iconst hx hb dX5_week_37 ?_
        refine lv_goto (tgt := 53) hx hb dX5_week_38 (by decide) ?_
        have hP9 := hP.sub (ws' := [(g0, .inr (5, [.int (zi 2), .ref ps, .int (zi ru), .ref pk, .ref pa, .ref pb, .ref pq, .int (zi we), .int (zi wr), .ref pw, .int (zi ty), .ref pt])), (ps, aI cI 10 sf)]) [0, 1] rfl
        have hD9 := hD.sub (ws' := [(g0, .inr (5, [.int (zi 2), .ref ps, .int (zi ru), .ref pk, .ref pa, .ref pb, .ref pq, .int (zi we), .int (zi wr), .ref pw, .int (zi ty), .ref pt])), (ps, aI cI 10 sf)]) [0, 1] (by decide) rfl
        exact W.iret (v := zi 0) hx hb hr (fun t ht hW => ⟨⟨zi 0, (), rfl, rfl, by rw [ht]; exact hP9, va_K.moved hW.alike hK, hD9⟩, hS.F ht⟩) hS.2.2 dX5_week_53
  · skip
    exact absurd True.intro (by omega)

set_option maxHeartbeats 4000000 in
set_option maxRecDepth 100000 in
theorem c_X5_week (l : Launch)  (dC : Nat → ClassId) (dI : Nat → Nat → Nat) (cI : ClassId) (g0 ps pk pa pb pq pw pt : Nat) (co ru we wr ty : Int) (sf : Nat → Int) (sl ya wk wd : Int) (sz : Nat) (hp0 : 0 ≤ sl ∧ sl ≤ 9) (hp1 : -2147483648 ≤ ya ∧ ya ≤ 2147483647) (hp2 : -2147483648 ≤ wk ∧ wk ≤ 2147483647) (hp3 : -2147483648 ≤ wd ∧ wd ≤ 2147483647) (hp4 : f_X5_byWeek ya wk wd ≠ -1) : Met l yX5_week wsX5_week ({ frames := 4, cells := 0, slots := 0, locals := 85 }) (zPw (dC, dI) [(cI, .int)] sz [.ref g0, .int (zi sl), .int (zi ya), .int (zi wk), .int (zi wd)] [(g0, .inr (5, [.int (zi co), .ref ps, .int (zi ru), .ref pk, .ref pa, .ref pb, .ref pq, .int (zi we), .int (zi wr), .ref pw, .int (zi ty), .ref pt])), (ps, aI cI 10 sf)]) (va_Qi (fun (r : Int32) (_ : Unit) => r = zi (f_X5_byWeek ya wk wd)) (zB (dC, dI) [(cI, .int)] (va_A [(g0, .inr (5, [.int (zi co), .ref ps, .int (zi ru), .ref pk, .ref pa, .ref pb, .ref pq, .int (zi we), .int (zi wr), .ref pw, .int (zi ty), .ref pt])), (ps, aI cI 10 sf)] sz) [(g0, .inr (5, [.int (zi 0), .ref ps, .int (zi ru), .ref pk, .ref pa, .ref pb, .ref pq, .int (zi we), .int (zi wr), .ref pw, .int (zi ty), .ref pt])), (ps, aI cI 10 (zup sf sl.toNat (f_X5_byWeek ya wk wd)))]) (va_A [(g0, .inr (5, [.int (zi co), .ref ps, .int (zi ru), .ref pk, .ref pa, .ref pb, .ref pq, .int (zi we), .int (zi wr), .ref pw, .int (zi ty), .ref pt])), (ps, aI cI 10 sf)] sz)) 0 0 (va_A [(g0, .inr (5, [.int (zi co), .ref ps, .int (zi ru), .ref pk, .ref pa, .ref pb, .ref pq, .int (zi we), .int (zi wr), .ref pw, .int (zi ty), .ref pt])), (ps, aI cI 10 sf)] sz) := by
  refine Met.ofW (cc := cX5_week) (maxL := 5) (ret := (some .int)) (by decide) rfl ?_
  intro p e s m args below meth c s₁ B hml hv
  obtain ⟨rfl, hsz, hP, hK, hD0⟩ := hv
  have hx := B.exec
  have hb := B.bytes
  have hr := B.returns
  have hts := atoms_spec (ws := wsX5_week) B.pre
  have hown : s.vm.findClass RX5 = some m.cls := findClass_of_methodNamed B.named
  have hlocks := B.notSynchronized
  subst hsz
  have hD := hD0.self (sz := s.heap.size)
  generalize hAe : va_A [(g0, .inr (5, [.int (zi co), .ref ps, .int (zi ru), .ref pk, .ref pa, .ref pb, .ref pq, .int (zi we), .int (zi wr), .ref pw, .int (zi ty), .ref pt])), (ps, aI cI 10 sf)] s.heap.size = A at hD ⊢
  have hA : ∀ q : Nat, s.heap.size ≤ q → A q := fun q h => by rw [← hAe]; exact Or.inr h
  have hS : va_S A s.heap s.heap [] := va_S.rf
  have hP : va_P (dC, dI) vwCl [(g0, .inr (5, [.int (zi co), .ref ps, .int (zi ru), .ref pk, .ref pa, .ref pb, .ref pq, .int (zi we), .int (zi wr), .ref pw, .int (zi ty), .ref pt])), (ps, aI cI 10 sf)] s.heap := hP
  have hl := lv_entry ([.ref g0, .int (zi sl), .int (zi ya), .int (zi wk), .int (zi wd)]) (n := 5) (Nat.le_of_ble_eq_true rfl)
  rw [lg_entry_eq]
  generalize (lg_sl ([.ref g0, .int (zi sl), .int (zi ya), .int (zi wk), .int (zi wd)]) ++ List.replicate (5 - (lg_sl ([.ref g0, .int (zi sl), .int (zi ya), .int (zi wk), .int (zi wd)])).length) Slot.unset).toArray = ls at hl ⊢
  have hl : lv_has ls 5 [(0, .ref g0), (1, .int (zi sl)), (2, .int (zi ya)), (3, .int (zi wk)), (4, .int (zi wd))] := hl
  refine lv_aload_n hx hb dX5_week_0 rfl (lv_at hl 0 rfl) ?_
  refine lv_iload_n hx hb dX5_week_1 rfl (lv_at hl 1 rfl) ?_
  have hh1 := c_X5_isSlot l sl (by omega)
  refine vp_callSi (va_Run.run (va_runS (As := [.int (zi sl)]) (rest := [.ref g0]) ⟨hx, hb, hml, hown, hts⟩ hh1 (va_cwS 1 hts gX5_week_X5_isSlot rfl rfl rfl (by decide +kernel) ⟨Nat.le_of_ble_eq_true rfl, Nat.le_of_ble_eq_true rfl⟩) ⟨fun a U g mk q => q, fun U hU hW => ⟨rfl, trivial⟩⟩ rfl rfl hl.1 rfl (lv_room (Nat.le_of_ble_eq_true rfl)) dX5_week_2 ⟨Nat.zero_le _, Nat.zero_le _⟩)) (fun r1 (hr1 : r1 = zi (f_X5_isSlot sl)) => ?_)
  subst hr1
  have hf1 := b_X5_isSlot sl (by omega)
  refine zw_if_ne (tgt := 12) hx hb dX5_week_5 (by decide) ⟨by omega, by omega⟩ (fun h2 => ?_) (fun h2 => ?_)
  · skip
    refine lv_iload_n hx hb dX5_week_12 rfl (lv_at hl 2 rfl) ?_
    refine lv_iload_n hx hb dX5_week_13 rfl (lv_at hl 3 rfl) ?_
    refine lv_iload hx hb dX5_week_14 (lv_at hl 4 rfl) ?_
    have hh3 := c_X5_byWeek l ya wk wd (by omega) (by omega) (by omega)
    refine vp_callSi (va_Run.run (va_runS (As := [.int (zi ya), .int (zi wk), .int (zi wd)]) (rest := [.ref g0]) ⟨hx, hb, hml, hown, hts⟩ hh3 (va_cwS 3 hts gX5_week_X5_byWeek rfl rfl rfl (by decide +kernel) ⟨Nat.le_of_ble_eq_true rfl, Nat.le_of_ble_eq_true rfl⟩) ⟨fun a U g mk q => q, fun U hU hW => ⟨rfl, trivial⟩⟩ rfl rfl hl.1 rfl (lv_room (Nat.le_of_ble_eq_true rfl)) dX5_week_16 ⟨Nat.zero_le _, Nat.zero_le _⟩)) (fun r3 (hr3 : r3 = zi (f_X5_byWeek ya wk wd)) => ?_)
    subst hr3
    have hf3 := b_X5_byWeek ya wk wd (by omega) (by omega) (by omega)
    refine zw_if_ge (tgt := 26) hx hb dX5_week_19 (by decide) ⟨by omega, by omega⟩ (fun h4 => ?_) (fun h4 => ?_)
    · skip
      refine zw_iconst hx hb dX5_week_26 ?_
      refine va_put (D := (dC, dI)) (ci := 5) (v := .int (zi 0)) (ty := .int) (C := RX5) (T := TX5) (N := 12) hx hb hts (by decide +kernel) tyX5 tyX5_ok nmX5 hown hK hP hD hS 0 rfl rfl 0 (by decide) (hts (.fieldLink RX5 35 "CivilDaysModel" "code" "I") (by decide +kernel)) (fun _ h9 => h9) rfl (by decide +kernel) rfl rfl (Nat.le_of_ble_eq_true rfl) dX5_week_27 (fun H locs hP hD hS => ?_)
      have hP : va_P (dC, dI) vwCl [(g0, .inr (5, [.int (zi 0), .ref ps, .int (zi ru), .ref pk, .ref pa, .ref pb, .ref pq, .int (zi we), .int (zi wr), .ref pw, .int (zi ty), .ref pt])), (ps, aI cI 10 sf)] H := hP
      have hD : va_D A [(g0, .inr (5, [.int (zi 0), .ref ps, .int (zi ru), .ref pk, .ref pa, .ref pb, .ref pq, .int (zi we), .int (zi wr), .ref pw, .int (zi ty), .ref pt])), (ps, aI cI 10 sf)] := hD
      refine lv_aload_n hx hb dX5_week_30 rfl (lv_at hl 0 rfl) ?_
      refine va_get (D := (dC, dI)) (ci := 5) (v := .int (zi 0)) (C := RX5) (T := TX5) (N := 12) hx hb hts (by decide +kernel) hown hK hP 0 rfl rfl 0 (by decide) (hts (.fieldLink RX5 35 "CivilDaysModel" "code" "I") (by decide +kernel)) (fun _ h9 => h9) rfl dX5_week_31 ?_
      refine zw_if_le (tgt := 41) hx hb dX5_week_34 (by decide) ⟨by omega, by omega⟩ (fun h5 => ?_) (fun h5 => ?_)
      · skip
        refine lv_aload_n hx hb dX5_week_41 rfl (lv_at hl 0 rfl) ?_
        refine lv_iload_n hx hb dX5_week_42 rfl (lv_at hl 1 rfl) ?_
        refine lv_iload_n hx hb dX5_week_43 rfl (lv_at hl 2 rfl) ?_
        refine lv_iload_n hx hb dX5_week_44 rfl (lv_at hl 3 rfl) ?_
        refine lv_iload hx hb dX5_week_45 (lv_at hl 4 rfl) ?_
        have hh6 := c_X5_byWeek l ya wk wd (by omega) (by omega) (by omega)
        refine vp_callSi (va_Run.run (va_runS (As := [.int (zi ya), .int (zi wk), .int (zi wd)]) (rest := [.int (zi sl), .ref g0]) ⟨hx, hb, hml, hown, hts⟩ hh6 (va_cwS 3 hts gX5_week_X5_byWeek rfl rfl rfl (by decide +kernel) ⟨Nat.le_of_ble_eq_true rfl, Nat.le_of_ble_eq_true rfl⟩) ⟨fun a U g mk q => q, fun U hU hW => ⟨rfl, trivial⟩⟩ rfl rfl hl.1 rfl (lv_room (Nat.le_of_ble_eq_true rfl)) dX5_week_47 ⟨Nat.zero_le _, Nat.zero_le _⟩)) (fun r6 (hr6 : r6 = zi (f_X5_byWeek ya wk wd)) => ?_)
        subst hr6
        have hf6 := b_X5_byWeek ya wk wd (by omega) (by omega) (by omega)
        have hh7 := c_X5_lay l dC dI cI g0 ps pk pa pb pq pw pt 0 ru we wr ty sf sl (f_X5_byWeek ya wk wd) H.size (by omega) (by omega)
        have hPc := hP.sub (ws' := [(g0, .inr (5, [.int (zi 0), .ref ps, .int (zi ru), .ref pk, .ref pa, .ref pb, .ref pq, .int (zi we), .int (zi wr), .ref pw, .int (zi ty), .ref pt])), (ps, aI cI 10 sf)]) [0, 1] rfl
        have hKc : va_K (dC, dI) vwCl [(cI, .int)] s := hK
        have hDc := hD.sub (ws' := [(g0, .inr (5, [.int (zi 0), .ref ps, .int (zi ru), .ref pk, .ref pa, .ref pb, .ref pq, .int (zi we), .int (zi wr), .ref pw, .int (zi ty), .ref pt])), (ps, aI cI 10 sf)]) [0, 1] (by decide) rfl
        have hFc := va_free (wc := [(g0, .inr (5, [.int (zi 0), .ref ps, .int (zi ru), .ref pk, .ref pa, .ref pb, .ref pq, .int (zi we), .int (zi wr), .ref pw, .int (zi ty), .ref pt])), (ps, aI cI 10 sf)]) hD hS hA [0, 1] rfl
        refine va_calli (va_runV (As := [.int (zi sl), .int (zi (f_X5_byWeek ya wk wd))]) (rest := []) ⟨hx, hb, hml, hown, hts⟩ hh7 (cwV 2 hts gX5_week_X5_lay rfl rfl rfl (by decide +kernel) ⟨Nat.le_of_ble_eq_true rfl, Nat.le_of_ble_eq_true rfl⟩) ⟨zPw.blind _ _ _ _ _, va_recv hKc hPc (ci := 5) (q0 := 0) rfl rfl, fun U hU hW => ⟨rfl, by rw [hU], by rw [hU]; exact hPc, va_K.moved hW.alike hKc, hDc.weaken (fun _ _ _ _ => trivial)⟩⟩ rfl rfl hl.1 rfl (lv_room (Nat.le_of_ble_eq_true rfl)) dX5_week_50 ⟨Nat.le_of_ble_eq_true rfl, Nat.le_of_ble_eq_true rfl⟩) hS (fun q _ h => hFc q h) hFc (fun r7 u t H1 locs ht hvm hw hB hz1 hk1 hS => ?_)
        obtain ⟨hP1, hK1, hD1⟩ := hB
        rw [ht] at hP1
        obtain ⟨hP, hD⟩ := va_join (wr := []) (w1 := [(g0, .inr (5, [.int (zi 0), .ref ps, .int (zi ru), .ref pk, .ref pa, .ref pb, .ref pq, .int (zi we), .int (zi wr), .ref pw, .int (zi ty), .ref pt])), (ps, aI cI 10 (zup sf sl.toNat (f_X5_byWeek ya wk wd)))]) hP hD [0, 1] [] rfl rfl (by decide) (by decide) hk1 hFc hP1 hD1
        generalize H1 = H at hP hS ⊢
        obtain rfl : r7 = zi (f_X5_byWeek ya wk wd) := hw
        have hP : va_P (dC, dI) vwCl [(g0, .inr (5, [.int (zi 0), .ref ps, .int (zi ru), .ref pk, .ref pa, .ref pb, .ref pq, .int (zi we), .int (zi wr), .ref pw, .int (zi ty), .ref pt])), (ps, aI cI 10 (zup sf sl.toNat (f_X5_byWeek ya wk wd)))] H := hP
        have hD : va_D A [(g0, .inr (5, [.int (zi 0), .ref ps, .int (zi ru), .ref pk, .ref pa, .ref pb, .ref pq, .int (zi we), .int (zi wr), .ref pw, .int (zi ty), .ref pt])), (ps, aI cI 10 (zup sf sl.toNat (f_X5_byWeek ya wk wd)))] := hD
        have hP9 := hP.sub (ws' := [(g0, .inr (5, [.int (zi 0), .ref ps, .int (zi ru), .ref pk, .ref pa, .ref pb, .ref pq, .int (zi we), .int (zi wr), .ref pw, .int (zi ty), .ref pt])), (ps, aI cI 10 (zup sf sl.toNat (f_X5_byWeek ya wk wd)))]) [0, 1] rfl
        have hD9 := hD.sub (ws' := [(g0, .inr (5, [.int (zi 0), .ref ps, .int (zi ru), .ref pk, .ref pa, .ref pb, .ref pq, .int (zi we), .int (zi wr), .ref pw, .int (zi ty), .ref pt])), (ps, aI cI 10 (zup sf sl.toNat (f_X5_byWeek ya wk wd)))]) [0, 1] (by decide) rfl
        exact W.iret (v := zi (f_X5_byWeek ya wk wd)) hx hb hr (fun t ht hW => ⟨⟨zi (f_X5_byWeek ya wk wd), (), rfl, rfl, by rw [ht]; exact hP9, va_K.moved hW.alike hK, hD9⟩, hS.F ht⟩) hS.2.2 dX5_week_53
      · skip
        exact absurd True.intro (by omega)
    · skip
      exact absurd True.intro (by omega)
  · skip
    exact absurd True.intro (by omega)

set_option maxHeartbeats 4000000 in
set_option maxRecDepth 100000 in
theorem c_X5_easter_1 (l : Launch)  (dC : Nat → ClassId) (dI : Nat → Nat → Nat) (cI : ClassId) (g0 ps pk pa pb pq pw pt : Nat) (co ru we wr ty : Int) (sf : Nat → Int) (sl ya : Int) (sz : Nat) (hp0 : -2147483648 ≤ sl ∧ sl ≤ 2147483647) (hp1 : sl < 0 ∨ 9 < sl) (hp2 : -2147483648 ≤ ya ∧ ya ≤ 2147483647) : Met l yX5_easter wsX5_easter ({ frames := 2, cells := 0, slots := 0, locals := 42 }) (zPw (dC, dI) [(cI, .int)] sz [.ref g0, .int (zi sl), .int (zi ya)] [(g0, .inr (5, [.int (zi co), .ref ps, .int (zi ru), .ref pk, .ref pa, .ref pb, .ref pq, .int (zi we), .int (zi wr), .ref pw, .int (zi ty), .ref pt])), (ps, aI cI 10 sf)]) (va_Qi (fun (r : Int32) (_ : Unit) => r = zi 0) (zB (dC, dI) [(cI, .int)] (va_A [(g0, .inr (5, [.int (zi co), .ref ps, .int (zi ru), .ref pk, .ref pa, .ref pb, .ref pq, .int (zi we), .int (zi wr), .ref pw, .int (zi ty), .ref pt])), (ps, aI cI 10 sf)] sz) [(g0, .inr (5, [.int (zi 1), .ref ps, .int (zi ru), .ref pk, .ref pa, .ref pb, .ref pq, .int (zi we), .int (zi wr), .ref pw, .int (zi ty), .ref pt])), (ps, aI cI 10 sf)]) (va_A [(g0, .inr (5, [.int (zi co), .ref ps, .int (zi ru), .ref pk, .ref pa, .ref pb, .ref pq, .int (zi we), .int (zi wr), .ref pw, .int (zi ty), .ref pt])), (ps, aI cI 10 sf)] sz)) 0 0 (va_A [(g0, .inr (5, [.int (zi co), .ref ps, .int (zi ru), .ref pk, .ref pa, .ref pb, .ref pq, .int (zi we), .int (zi wr), .ref pw, .int (zi ty), .ref pt])), (ps, aI cI 10 sf)] sz) := by
  refine Met.ofW (cc := cX5_easter) (maxL := 3) (ret := (some .int)) (by decide) rfl ?_
  intro p e s m args below meth c s₁ B hml hv
  obtain ⟨rfl, hsz, hP, hK, hD0⟩ := hv
  have hx := B.exec
  have hb := B.bytes
  have hr := B.returns
  have hts := atoms_spec (ws := wsX5_easter) B.pre
  have hown : s.vm.findClass RX5 = some m.cls := findClass_of_methodNamed B.named
  have hlocks := B.notSynchronized
  subst hsz
  have hD := hD0.self (sz := s.heap.size)
  generalize hAe : va_A [(g0, .inr (5, [.int (zi co), .ref ps, .int (zi ru), .ref pk, .ref pa, .ref pb, .ref pq, .int (zi we), .int (zi wr), .ref pw, .int (zi ty), .ref pt])), (ps, aI cI 10 sf)] s.heap.size = A at hD ⊢
  have hA : ∀ q : Nat, s.heap.size ≤ q → A q := fun q h => by rw [← hAe]; exact Or.inr h
  have hS : va_S A s.heap s.heap [] := va_S.rf
  have hP : va_P (dC, dI) vwCl [(g0, .inr (5, [.int (zi co), .ref ps, .int (zi ru), .ref pk, .ref pa, .ref pb, .ref pq, .int (zi we), .int (zi wr), .ref pw, .int (zi ty), .ref pt])), (ps, aI cI 10 sf)] s.heap := hP
  have hl := lv_entry ([.ref g0, .int (zi sl), .int (zi ya)]) (n := 3) (Nat.le_of_ble_eq_true rfl)
  rw [lg_entry_eq]
  generalize (lg_sl ([.ref g0, .int (zi sl), .int (zi ya)]) ++ List.replicate (3 - (lg_sl ([.ref g0, .int (zi sl), .int (zi ya)])).length) Slot.unset).toArray = ls at hl ⊢
  have hl : lv_has ls 3 [(0, .ref g0), (1, .int (zi sl)), (2, .int (zi ya))] := hl
  refine lv_aload_n hx hb dX5_easter_0 rfl (lv_at hl 0 rfl) ?_
  refine lv_iload_n hx hb dX5_easter_1 rfl (lv_at hl 1 rfl) ?_
  have hh1 := c_X5_isSlot l sl (by omega)
  refine vp_callSi (va_Run.run (va_runS (As := [.int (zi sl)]) (rest := [.ref g0]) ⟨hx, hb, hml, hown, hts⟩ hh1 (va_cwS 1 hts gX5_easter_X5_isSlot rfl rfl rfl (by decide +kernel) ⟨Nat.le_of_ble_eq_true rfl, Nat.le_of_ble_eq_true rfl⟩) ⟨fun a U g mk q => q, fun U hU hW => ⟨rfl, trivial⟩⟩ rfl rfl hl.1 rfl (lv_room (Nat.le_of_ble_eq_true rfl)) dX5_easter_2 ⟨Nat.zero_le _, Nat.zero_le _⟩)) (fun r1 (hr1 : r1 = zi (f_X5_isSlot sl)) => ?_)
  subst hr1
  have hf1 := b_X5_isSlot sl (by omega)
  refine zw_if_ne (tgt := 12) hx hb dX5_easter_5 (by decide) ⟨by omega, by omega⟩ (fun h2 => ?_) (fun h2 => ?_)
  · skip
    exact absurd True.intro (by omega)
  · skip
    refine zw_iconst hx hb dX5_easter_8 ?_
    refine lv_goto (tgt := 30) hx hb dX5_easter_9 (by decide) ?_
    refine va_put (D := (dC, dI)) (ci := 5) (v := .int (zi 1)) (ty := .int) (C := RX5) (T := TX5) (N := 12) hx hb hts (by decide +kernel) tyX5 tyX5_ok nmX5 hown hK hP hD hS 0 rfl rfl 0 (by decide) (hts (.fieldLink RX5 35 "CivilDaysModel" "code" "I") (by decide +kernel)) (fun _ h9 => h9) rfl (by decide +kernel) rfl rfl (Nat.le_of_ble_eq_true rfl) dX5_easter_30 (fun H locs hP hD hS => ?_)
    have hP : va_P (dC, dI) vwCl [(g0, .inr (5, [.int (zi 1), .ref ps, .int (zi ru), .ref pk, .ref pa, .ref pb, .ref pq, .int (zi we), .int (zi wr), .ref pw, .int (zi ty), .ref pt])), (ps, aI cI 10 sf)] H := hP
    have hD : va_D A [(g0, .inr (5, [.int (zi 1), .ref ps, .int (zi ru), .ref pk, .ref pa, .ref pb, .ref pq, .int (zi we), .int (zi wr), .ref pw, .int (zi ty), .ref pt])), (ps, aI cI 10 sf)] := hD
    refine lv_aload_n hx hb dX5_easter_33 rfl (lv_at hl 0 rfl) ?_
    refine va_get (D := (dC, dI)) (ci := 5) (v := .int (zi 1)) (C := RX5) (T := TX5) (N := 12) hx hb hts (by decide +kernel) hown hK hP 0 rfl rfl 0 (by decide) (hts (.fieldLink RX5 35 "CivilDaysModel" "code" "I") (by decide +kernel)) (fun _ h9 => h9) rfl dX5_easter_34 ?_
    refine zw_if_le (tgt := 44) hx hb dX5_easter_37 (by decide) ⟨by omega, by omega⟩ (fun h3 => ?_) (fun h3 => ?_)
    · skip
      exact absurd True.intro (by omega)
    · skip
      refine zw_iconst hx hb dX5_easter_40 ?_
      refine lv_goto (tgt := 53) hx hb dX5_easter_41 (by decide) ?_
      have hP9 := hP.sub (ws' := [(g0, .inr (5, [.int (zi 1), .ref ps, .int (zi ru), .ref pk, .ref pa, .ref pb, .ref pq, .int (zi we), .int (zi wr), .ref pw, .int (zi ty), .ref pt])), (ps, aI cI 10 sf)]) [0, 1] rfl
      have hD9 := hD.sub (ws' := [(g0, .inr (5, [.int (zi 1), .ref ps, .int (zi ru), .ref pk, .ref pa, .ref pb, .ref pq, .int (zi we), .int (zi wr), .ref pw, .int (zi ty), .ref pt])), (ps, aI cI 10 sf)]) [0, 1] (by decide) rfl
      exact W.iret (v := zi 0) hx hb hr (fun t ht hW => ⟨⟨zi 0, (), rfl, rfl, by rw [ht]; exact hP9, va_K.moved hW.alike hK, hD9⟩, hS.F ht⟩) hS.2.2 dX5_easter_53

set_option maxHeartbeats 4000000 in
set_option maxRecDepth 100000 in
theorem c_X5_easter_2 (l : Launch)  (dC : Nat → ClassId) (dI : Nat → Nat → Nat) (cI : ClassId) (g0 ps pk pa pb pq pw pt : Nat) (co ru we wr ty : Int) (sf : Nat → Int) (sl ya : Int) (sz : Nat) (hp0 : 0 ≤ sl ∧ sl ≤ 9) (hp1 : -2147483648 ≤ ya ∧ ya ≤ 2147483647) (hp2 : ya < 1583 ∨ 9999 < ya) : Met l yX5_easter wsX5_easter ({ frames := 2, cells := 0, slots := 0, locals := 42 }) (zPw (dC, dI) [(cI, .int)] sz [.ref g0, .int (zi sl), .int (zi ya)] [(g0, .inr (5, [.int (zi co), .ref ps, .int (zi ru), .ref pk, .ref pa, .ref pb, .ref pq, .int (zi we), .int (zi wr), .ref pw, .int (zi ty), .ref pt])), (ps, aI cI 10 sf)]) (va_Qi (fun (r : Int32) (_ : Unit) => r = zi 0) (zB (dC, dI) [(cI, .int)] (va_A [(g0, .inr (5, [.int (zi co), .ref ps, .int (zi ru), .ref pk, .ref pa, .ref pb, .ref pq, .int (zi we), .int (zi wr), .ref pw, .int (zi ty), .ref pt])), (ps, aI cI 10 sf)] sz) [(g0, .inr (5, [.int (zi 2), .ref ps, .int (zi ru), .ref pk, .ref pa, .ref pb, .ref pq, .int (zi we), .int (zi wr), .ref pw, .int (zi ty), .ref pt])), (ps, aI cI 10 sf)]) (va_A [(g0, .inr (5, [.int (zi co), .ref ps, .int (zi ru), .ref pk, .ref pa, .ref pb, .ref pq, .int (zi we), .int (zi wr), .ref pw, .int (zi ty), .ref pt])), (ps, aI cI 10 sf)] sz)) 0 0 (va_A [(g0, .inr (5, [.int (zi co), .ref ps, .int (zi ru), .ref pk, .ref pa, .ref pb, .ref pq, .int (zi we), .int (zi wr), .ref pw, .int (zi ty), .ref pt])), (ps, aI cI 10 sf)] sz) := by
  refine Met.ofW (cc := cX5_easter) (maxL := 3) (ret := (some .int)) (by decide) rfl ?_
  intro p e s m args below meth c s₁ B hml hv
  obtain ⟨rfl, hsz, hP, hK, hD0⟩ := hv
  have hx := B.exec
  have hb := B.bytes
  have hr := B.returns
  have hts := atoms_spec (ws := wsX5_easter) B.pre
  have hown : s.vm.findClass RX5 = some m.cls := findClass_of_methodNamed B.named
  have hlocks := B.notSynchronized
  subst hsz
  have hD := hD0.self (sz := s.heap.size)
  generalize hAe : va_A [(g0, .inr (5, [.int (zi co), .ref ps, .int (zi ru), .ref pk, .ref pa, .ref pb, .ref pq, .int (zi we), .int (zi wr), .ref pw, .int (zi ty), .ref pt])), (ps, aI cI 10 sf)] s.heap.size = A at hD ⊢
  have hA : ∀ q : Nat, s.heap.size ≤ q → A q := fun q h => by rw [← hAe]; exact Or.inr h
  have hS : va_S A s.heap s.heap [] := va_S.rf
  have hP : va_P (dC, dI) vwCl [(g0, .inr (5, [.int (zi co), .ref ps, .int (zi ru), .ref pk, .ref pa, .ref pb, .ref pq, .int (zi we), .int (zi wr), .ref pw, .int (zi ty), .ref pt])), (ps, aI cI 10 sf)] s.heap := hP
  have hl := lv_entry ([.ref g0, .int (zi sl), .int (zi ya)]) (n := 3) (Nat.le_of_ble_eq_true rfl)
  rw [lg_entry_eq]
  generalize (lg_sl ([.ref g0, .int (zi sl), .int (zi ya)]) ++ List.replicate (3 - (lg_sl ([.ref g0, .int (zi sl), .int (zi ya)])).length) Slot.unset).toArray = ls at hl ⊢
  have hl : lv_has ls 3 [(0, .ref g0), (1, .int (zi sl)), (2, .int (zi ya))] := hl
  refine lv_aload_n hx hb dX5_easter_0 rfl (lv_at hl 0 rfl) ?_
  refine lv_iload_n hx hb dX5_easter_1 rfl (lv_at hl 1 rfl) ?_
  have hh1 := c_X5_isSlot l sl (by omega)
  refine vp_callSi (va_Run.run (va_runS (As := [.int (zi sl)]) (rest := [.ref g0]) ⟨hx, hb, hml, hown, hts⟩ hh1 (va_cwS 1 hts gX5_easter_X5_isSlot rfl rfl rfl (by decide +kernel) ⟨Nat.le_of_ble_eq_true rfl, Nat.le_of_ble_eq_true rfl⟩) ⟨fun a U g mk q => q, fun U hU hW => ⟨rfl, trivial⟩⟩ rfl rfl hl.1 rfl (lv_room (Nat.le_of_ble_eq_true rfl)) dX5_easter_2 ⟨Nat.zero_le _, Nat.zero_le _⟩)) (fun r1 (hr1 : r1 = zi (f_X5_isSlot sl)) => ?_)
  subst hr1
  have hf1 := b_X5_isSlot sl (by omega)
  refine zw_if_ne (tgt := 12) hx hb dX5_easter_5 (by decide) ⟨by omega, by omega⟩ (fun h2 => ?_) (fun h2 => ?_)
  · skip
    refine lv_iload_n hx hb dX5_easter_12 rfl (lv_at hl 2 rfl) ?_
    refine zw_sipush hx hb dX5_easter_13 (by decide) ?_
    refine zw_sipush hx hb dX5_easter_16 (by decide) ?_
    have hh3 := c_X5_in l ya 1583 9999 (by omega) (by omega) (by omega)
    refine vp_callSi (va_Run.run (va_runS (As := [.int (zi ya), .int (zi 1583), .int (zi 9999)]) (rest := [.ref g0]) ⟨hx, hb, hml, hown, hts⟩ hh3 (va_cwS 3 hts gX5_easter_X5_in rfl rfl rfl (by decide +kernel) ⟨Nat.le_of_ble_eq_true rfl, Nat.le_of_ble_eq_true rfl⟩) ⟨fun a U g mk q => q, fun U hU hW => ⟨rfl, trivial⟩⟩ rfl rfl hl.1 rfl (lv_room (Nat.le_of_ble_eq_true rfl)) dX5_easter_19 ⟨Nat.zero_le _, Nat.zero_le _⟩)) (fun r3 (hr3 : r3 = zi (f_X5_in ya 1583 9999)) => ?_)
    subst hr3
    have hf3 := b_X5_in ya 1583 9999 (by omega) (by omega) (by omega)
    refine zw_if_ne (tgt := 29) hx hb dX5_easter_22 (by decide) ⟨by omega, by omega⟩ (fun h4 => ?_) (fun h4 => ?_)
    · skip
      exact absurd True.intro (by omega)
    · skip
      refine zw_iconst hx hb dX5_easter_25 ?_
      refine lv_goto (tgt := 30) hx hb dX5_easter_26 (by decide) ?_
      refine va_put (D := (dC, dI)) (ci := 5) (v := .int (zi 2)) (ty := .int) (C := RX5) (T := TX5) (N := 12) hx hb hts (by decide +kernel) tyX5 tyX5_ok nmX5 hown hK hP hD hS 0 rfl rfl 0 (by decide) (hts (.fieldLink RX5 35 "CivilDaysModel" "code" "I") (by decide +kernel)) (fun _ h9 => h9) rfl (by decide +kernel) rfl rfl (Nat.le_of_ble_eq_true rfl) dX5_easter_30 (fun H locs hP hD hS => ?_)
      have hP : va_P (dC, dI) vwCl [(g0, .inr (5, [.int (zi 2), .ref ps, .int (zi ru), .ref pk, .ref pa, .ref pb, .ref pq, .int (zi we), .int (zi wr), .ref pw, .int (zi ty), .ref pt])), (ps, aI cI 10 sf)] H := hP
      have hD : va_D A [(g0, .inr (5, [.int (zi 2), .ref ps, .int (zi ru), .ref pk, .ref pa, .ref pb, .ref pq, .int (zi we), .int (zi wr), .ref pw, .int (zi ty), .ref pt])), (ps, aI cI 10 sf)] := hD
      refine lv_aload_n hx hb dX5_easter_33 rfl (lv_at hl 0 rfl) ?_
      refine va_get (D := (dC, dI)) (ci := 5) (v := .int (zi 2)) (C := RX5) (T := TX5) (N := 12) hx hb hts (by decide +kernel) hown hK hP 0 rfl rfl 0 (by decide) (hts (.fieldLink RX5 35 "CivilDaysModel" "code" "I") (by decide +kernel)) (fun _ h9 => h9) rfl dX5_easter_34 ?_
      refine zw_if_le (tgt := 44) hx hb dX5_easter_37 (by decide) ⟨by omega, by omega⟩ (fun h5 => ?_) (fun h5 => ?_)
      · skip
        exact absurd True.intro (by omega)
      · skip
        refine zw_iconst hx hb dX5_easter_40 ?_
        refine lv_goto (tgt := 53) hx hb dX5_easter_41 (by decide) ?_
        have hP9 := hP.sub (ws' := [(g0, .inr (5, [.int (zi 2), .ref ps, .int (zi ru), .ref pk, .ref pa, .ref pb, .ref pq, .int (zi we), .int (zi wr), .ref pw, .int (zi ty), .ref pt])), (ps, aI cI 10 sf)]) [0, 1] rfl
        have hD9 := hD.sub (ws' := [(g0, .inr (5, [.int (zi 2), .ref ps, .int (zi ru), .ref pk, .ref pa, .ref pb, .ref pq, .int (zi we), .int (zi wr), .ref pw, .int (zi ty), .ref pt])), (ps, aI cI 10 sf)]) [0, 1] (by decide) rfl
        exact W.iret (v := zi 0) hx hb hr (fun t ht hW => ⟨⟨zi 0, (), rfl, rfl, by rw [ht]; exact hP9, va_K.moved hW.alike hK, hD9⟩, hS.F ht⟩) hS.2.2 dX5_easter_53
  · skip
    exact absurd True.intro (by omega)

set_option maxHeartbeats 4000000 in
set_option maxRecDepth 100000 in
theorem c_X5_easter (l : Launch)  (dC : Nat → ClassId) (dI : Nat → Nat → Nat) (cI : ClassId) (g0 ps pk pa pb pq pw pt : Nat) (co ru we wr ty : Int) (sf : Nat → Int) (sl ya : Int) (sz : Nat) (hp0 : 0 ≤ sl ∧ sl ≤ 9) (hp1 : 1583 ≤ ya ∧ ya ≤ 9999) : Met l yX5_easter wsX5_easter ({ frames := 4, cells := 0, slots := 0, locals := 90 }) (zPw (dC, dI) [(cI, .int)] sz [.ref g0, .int (zi sl), .int (zi ya)] [(g0, .inr (5, [.int (zi co), .ref ps, .int (zi ru), .ref pk, .ref pa, .ref pb, .ref pq, .int (zi we), .int (zi wr), .ref pw, .int (zi ty), .ref pt])), (ps, aI cI 10 sf)]) (va_Qi (fun (r : Int32) (_ : Unit) => r = zi (f_X5_easterOf ya)) (zB (dC, dI) [(cI, .int)] (va_A [(g0, .inr (5, [.int (zi co), .ref ps, .int (zi ru), .ref pk, .ref pa, .ref pb, .ref pq, .int (zi we), .int (zi wr), .ref pw, .int (zi ty), .ref pt])), (ps, aI cI 10 sf)] sz) [(g0, .inr (5, [.int (zi 0), .ref ps, .int (zi ru), .ref pk, .ref pa, .ref pb, .ref pq, .int (zi we), .int (zi wr), .ref pw, .int (zi ty), .ref pt])), (ps, aI cI 10 (zup sf sl.toNat (f_X5_easterOf ya)))]) (va_A [(g0, .inr (5, [.int (zi co), .ref ps, .int (zi ru), .ref pk, .ref pa, .ref pb, .ref pq, .int (zi we), .int (zi wr), .ref pw, .int (zi ty), .ref pt])), (ps, aI cI 10 sf)] sz)) 0 0 (va_A [(g0, .inr (5, [.int (zi co), .ref ps, .int (zi ru), .ref pk, .ref pa, .ref pb, .ref pq, .int (zi we), .int (zi wr), .ref pw, .int (zi ty), .ref pt])), (ps, aI cI 10 sf)] sz) := by
  refine Met.ofW (cc := cX5_easter) (maxL := 3) (ret := (some .int)) (by decide) rfl ?_
  intro p e s m args below meth c s₁ B hml hv
  obtain ⟨rfl, hsz, hP, hK, hD0⟩ := hv
  have hx := B.exec
  have hb := B.bytes
  have hr := B.returns
  have hts := atoms_spec (ws := wsX5_easter) B.pre
  have hown : s.vm.findClass RX5 = some m.cls := findClass_of_methodNamed B.named
  have hlocks := B.notSynchronized
  subst hsz
  have hD := hD0.self (sz := s.heap.size)
  generalize hAe : va_A [(g0, .inr (5, [.int (zi co), .ref ps, .int (zi ru), .ref pk, .ref pa, .ref pb, .ref pq, .int (zi we), .int (zi wr), .ref pw, .int (zi ty), .ref pt])), (ps, aI cI 10 sf)] s.heap.size = A at hD ⊢
  have hA : ∀ q : Nat, s.heap.size ≤ q → A q := fun q h => by rw [← hAe]; exact Or.inr h
  have hS : va_S A s.heap s.heap [] := va_S.rf
  have hP : va_P (dC, dI) vwCl [(g0, .inr (5, [.int (zi co), .ref ps, .int (zi ru), .ref pk, .ref pa, .ref pb, .ref pq, .int (zi we), .int (zi wr), .ref pw, .int (zi ty), .ref pt])), (ps, aI cI 10 sf)] s.heap := hP
  have hl := lv_entry ([.ref g0, .int (zi sl), .int (zi ya)]) (n := 3) (Nat.le_of_ble_eq_true rfl)
  rw [lg_entry_eq]
  generalize (lg_sl ([.ref g0, .int (zi sl), .int (zi ya)]) ++ List.replicate (3 - (lg_sl ([.ref g0, .int (zi sl), .int (zi ya)])).length) Slot.unset).toArray = ls at hl ⊢
  have hl : lv_has ls 3 [(0, .ref g0), (1, .int (zi sl)), (2, .int (zi ya))] := hl
  refine lv_aload_n hx hb dX5_easter_0 rfl (lv_at hl 0 rfl) ?_
  refine lv_iload_n hx hb dX5_easter_1 rfl (lv_at hl 1 rfl) ?_
  have hh1 := c_X5_isSlot l sl (by omega)
  refine vp_callSi (va_Run.run (va_runS (As := [.int (zi sl)]) (rest := [.ref g0]) ⟨hx, hb, hml, hown, hts⟩ hh1 (va_cwS 1 hts gX5_easter_X5_isSlot rfl rfl rfl (by decide +kernel) ⟨Nat.le_of_ble_eq_true rfl, Nat.le_of_ble_eq_true rfl⟩) ⟨fun a U g mk q => q, fun U hU hW => ⟨rfl, trivial⟩⟩ rfl rfl hl.1 rfl (lv_room (Nat.le_of_ble_eq_true rfl)) dX5_easter_2 ⟨Nat.zero_le _, Nat.zero_le _⟩)) (fun r1 (hr1 : r1 = zi (f_X5_isSlot sl)) => ?_)
  subst hr1
  have hf1 := b_X5_isSlot sl (by omega)
  refine zw_if_ne (tgt := 12) hx hb dX5_easter_5 (by decide) ⟨by omega, by omega⟩ (fun h2 => ?_) (fun h2 => ?_)
  · skip
    refine lv_iload_n hx hb dX5_easter_12 rfl (lv_at hl 2 rfl) ?_
    refine zw_sipush hx hb dX5_easter_13 (by decide) ?_
    refine zw_sipush hx hb dX5_easter_16 (by decide) ?_
    have hh3 := c_X5_in l ya 1583 9999 (by omega) (by omega) (by omega)
    refine vp_callSi (va_Run.run (va_runS (As := [.int (zi ya), .int (zi 1583), .int (zi 9999)]) (rest := [.ref g0]) ⟨hx, hb, hml, hown, hts⟩ hh3 (va_cwS 3 hts gX5_easter_X5_in rfl rfl rfl (by decide +kernel) ⟨Nat.le_of_ble_eq_true rfl, Nat.le_of_ble_eq_true rfl⟩) ⟨fun a U g mk q => q, fun U hU hW => ⟨rfl, trivial⟩⟩ rfl rfl hl.1 rfl (lv_room (Nat.le_of_ble_eq_true rfl)) dX5_easter_19 ⟨Nat.zero_le _, Nat.zero_le _⟩)) (fun r3 (hr3 : r3 = zi (f_X5_in ya 1583 9999)) => ?_)
    subst hr3
    have hf3 := b_X5_in ya 1583 9999 (by omega) (by omega) (by omega)
    refine zw_if_ne (tgt := 29) hx hb dX5_easter_22 (by decide) ⟨by omega, by omega⟩ (fun h4 => ?_) (fun h4 => ?_)
    · skip
      refine zw_iconst hx hb dX5_easter_29 ?_
      refine va_put (D := (dC, dI)) (ci := 5) (v := .int (zi 0)) (ty := .int) (C := RX5) (T := TX5) (N := 12) hx hb hts (by decide +kernel) tyX5 tyX5_ok nmX5 hown hK hP hD hS 0 rfl rfl 0 (by decide) (hts (.fieldLink RX5 35 "CivilDaysModel" "code" "I") (by decide +kernel)) (fun _ h9 => h9) rfl (by decide +kernel) rfl rfl (Nat.le_of_ble_eq_true rfl) dX5_easter_30 (fun H locs hP hD hS => ?_)
      have hP : va_P (dC, dI) vwCl [(g0, .inr (5, [.int (zi 0), .ref ps, .int (zi ru), .ref pk, .ref pa, .ref pb, .ref pq, .int (zi we), .int (zi wr), .ref pw, .int (zi ty), .ref pt])), (ps, aI cI 10 sf)] H := hP
      have hD : va_D A [(g0, .inr (5, [.int (zi 0), .ref ps, .int (zi ru), .ref pk, .ref pa, .ref pb, .ref pq, .int (zi we), .int (zi wr), .ref pw, .int (zi ty), .ref pt])), (ps, aI cI 10 sf)] := hD
      refine lv_aload_n hx hb dX5_easter_33 rfl (lv_at hl 0 rfl) ?_
      refine va_get (D := (dC, dI)) (ci := 5) (v := .int (zi 0)) (C := RX5) (T := TX5) (N := 12) hx hb hts (by decide +kernel) hown hK hP 0 rfl rfl 0 (by decide) (hts (.fieldLink RX5 35 "CivilDaysModel" "code" "I") (by decide +kernel)) (fun _ h9 => h9) rfl dX5_easter_34 ?_
      refine zw_if_le (tgt := 44) hx hb dX5_easter_37 (by decide) ⟨by omega, by omega⟩ (fun h5 => ?_) (fun h5 => ?_)
      · skip
        refine lv_aload_n hx hb dX5_easter_44 rfl (lv_at hl 0 rfl) ?_
        refine lv_iload_n hx hb dX5_easter_45 rfl (lv_at hl 1 rfl) ?_
        refine lv_iload_n hx hb dX5_easter_46 rfl (lv_at hl 2 rfl) ?_
        have hh6 := c_X5_easterOf l ya (by omega)
        refine vp_callSi (va_Run.run (va_runS (As := [.int (zi ya)]) (rest := [.int (zi sl), .ref g0]) ⟨hx, hb, hml, hown, hts⟩ hh6 (va_cwS 1 hts gX5_easter_X5_easterOf rfl rfl rfl (by decide +kernel) ⟨Nat.le_of_ble_eq_true rfl, Nat.le_of_ble_eq_true rfl⟩) ⟨fun a U g mk q => q, fun U hU hW => ⟨rfl, trivial⟩⟩ rfl rfl hl.1 rfl (lv_room (Nat.le_of_ble_eq_true rfl)) dX5_easter_47 ⟨Nat.zero_le _, Nat.zero_le _⟩)) (fun r6 (hr6 : r6 = zi (f_X5_easterOf ya)) => ?_)
        subst hr6
        have hf6 := b_X5_easterOf ya (by omega)
        have hh7 := c_X5_lay l dC dI cI g0 ps pk pa pb pq pw pt 0 ru we wr ty sf sl (f_X5_easterOf ya) H.size (by omega) (by omega)
        have hPc := hP.sub (ws' := [(g0, .inr (5, [.int (zi 0), .ref ps, .int (zi ru), .ref pk, .ref pa, .ref pb, .ref pq, .int (zi we), .int (zi wr), .ref pw, .int (zi ty), .ref pt])), (ps, aI cI 10 sf)]) [0, 1] rfl
        have hKc : va_K (dC, dI) vwCl [(cI, .int)] s := hK
        have hDc := hD.sub (ws' := [(g0, .inr (5, [.int (zi 0), .ref ps, .int (zi ru), .ref pk, .ref pa, .ref pb, .ref pq, .int (zi we), .int (zi wr), .ref pw, .int (zi ty), .ref pt])), (ps, aI cI 10 sf)]) [0, 1] (by decide) rfl
        have hFc := va_free (wc := [(g0, .inr (5, [.int (zi 0), .ref ps, .int (zi ru), .ref pk, .ref pa, .ref pb, .ref pq, .int (zi we), .int (zi wr), .ref pw, .int (zi ty), .ref pt])), (ps, aI cI 10 sf)]) hD hS hA [0, 1] rfl
        refine va_calli (va_runV (As := [.int (zi sl), .int (zi (f_X5_easterOf ya))]) (rest := []) ⟨hx, hb, hml, hown, hts⟩ hh7 (cwV 2 hts gX5_easter_X5_lay rfl rfl rfl (by decide +kernel) ⟨Nat.le_of_ble_eq_true rfl, Nat.le_of_ble_eq_true rfl⟩) ⟨zPw.blind _ _ _ _ _, va_recv hKc hPc (ci := 5) (q0 := 0) rfl rfl, fun U hU hW => ⟨rfl, by rw [hU], by rw [hU]; exact hPc, va_K.moved hW.alike hKc, hDc.weaken (fun _ _ _ _ => trivial)⟩⟩ rfl rfl hl.1 rfl (lv_room (Nat.le_of_ble_eq_true rfl)) dX5_easter_50 ⟨Nat.le_of_ble_eq_true rfl, Nat.le_of_ble_eq_true rfl⟩) hS (fun q _ h => hFc q h) hFc (fun r7 u t H1 locs ht hvm hw hB hz1 hk1 hS => ?_)
        obtain ⟨hP1, hK1, hD1⟩ := hB
        rw [ht] at hP1
        obtain ⟨hP, hD⟩ := va_join (wr := []) (w1 := [(g0, .inr (5, [.int (zi 0), .ref ps, .int (zi ru), .ref pk, .ref pa, .ref pb, .ref pq, .int (zi we), .int (zi wr), .ref pw, .int (zi ty), .ref pt])), (ps, aI cI 10 (zup sf sl.toNat (f_X5_easterOf ya)))]) hP hD [0, 1] [] rfl rfl (by decide) (by decide) hk1 hFc hP1 hD1
        generalize H1 = H at hP hS ⊢
        obtain rfl : r7 = zi (f_X5_easterOf ya) := hw
        have hP : va_P (dC, dI) vwCl [(g0, .inr (5, [.int (zi 0), .ref ps, .int (zi ru), .ref pk, .ref pa, .ref pb, .ref pq, .int (zi we), .int (zi wr), .ref pw, .int (zi ty), .ref pt])), (ps, aI cI 10 (zup sf sl.toNat (f_X5_easterOf ya)))] H := hP
        have hD : va_D A [(g0, .inr (5, [.int (zi 0), .ref ps, .int (zi ru), .ref pk, .ref pa, .ref pb, .ref pq, .int (zi we), .int (zi wr), .ref pw, .int (zi ty), .ref pt])), (ps, aI cI 10 (zup sf sl.toNat (f_X5_easterOf ya)))] := hD
        have hP9 := hP.sub (ws' := [(g0, .inr (5, [.int (zi 0), .ref ps, .int (zi ru), .ref pk, .ref pa, .ref pb, .ref pq, .int (zi we), .int (zi wr), .ref pw, .int (zi ty), .ref pt])), (ps, aI cI 10 (zup sf sl.toNat (f_X5_easterOf ya)))]) [0, 1] rfl
        have hD9 := hD.sub (ws' := [(g0, .inr (5, [.int (zi 0), .ref ps, .int (zi ru), .ref pk, .ref pa, .ref pb, .ref pq, .int (zi we), .int (zi wr), .ref pw, .int (zi ty), .ref pt])), (ps, aI cI 10 (zup sf sl.toNat (f_X5_easterOf ya)))]) [0, 1] (by decide) rfl
        exact W.iret (v := zi (f_X5_easterOf ya)) hx hb hr (fun t ht hW => ⟨⟨zi (f_X5_easterOf ya), (), rfl, rfl, by rw [ht]; exact hP9, va_K.moved hW.alike hK, hD9⟩, hS.F ht⟩) hS.2.2 dX5_easter_53
      · skip
        exact absurd True.intro (by omega)
    · skip
      exact absurd True.intro (by omega)
  · skip
    exact absurd True.intro (by omega)

set_option maxHeartbeats 4000000 in
set_option maxRecDepth 100000 in
theorem c_X5_nth_1 (l : Launch)  (dC : Nat → ClassId) (dI : Nat → Nat → Nat) (cI : ClassId) (g0 ps pk pa pb pq pw pt : Nat) (co ru we wr ty : Int) (sf : Nat → Int) (sl ya mo wd nn : Int) (sz : Nat) (hp0 : -2147483648 ≤ sl ∧ sl ≤ 2147483647) (hp1 : sl < 0 ∨ 9 < sl) (hp2 : -2147483648 ≤ ya ∧ ya ≤ 2147483647) (hp3 : -2147483648 ≤ mo ∧ mo ≤ 2147483647) (hp4 : -2147483648 ≤ wd ∧ wd ≤ 2147483647) (hp5 : -2147483648 ≤ nn ∧ nn ≤ 2147483647) : Met l yX5_nth wsX5_nth ({ frames := 2, cells := 0, slots := 0, locals := 42 }) (zPw (dC, dI) [(cI, .int)] sz [.ref g0, .int (zi sl), .int (zi ya), .int (zi mo), .int (zi wd), .int (zi nn)] [(g0, .inr (5, [.int (zi co), .ref ps, .int (zi ru), .ref pk, .ref pa, .ref pb, .ref pq, .int (zi we), .int (zi wr), .ref pw, .int (zi ty), .ref pt])), (ps, aI cI 10 sf)]) (va_Qi (fun (r : Int32) (_ : Unit) => r = zi 0) (zB (dC, dI) [(cI, .int)] (va_A [(g0, .inr (5, [.int (zi co), .ref ps, .int (zi ru), .ref pk, .ref pa, .ref pb, .ref pq, .int (zi we), .int (zi wr), .ref pw, .int (zi ty), .ref pt])), (ps, aI cI 10 sf)] sz) [(g0, .inr (5, [.int (zi 1), .ref ps, .int (zi ru), .ref pk, .ref pa, .ref pb, .ref pq, .int (zi we), .int (zi wr), .ref pw, .int (zi ty), .ref pt])), (ps, aI cI 10 sf)]) (va_A [(g0, .inr (5, [.int (zi co), .ref ps, .int (zi ru), .ref pk, .ref pa, .ref pb, .ref pq, .int (zi we), .int (zi wr), .ref pw, .int (zi ty), .ref pt])), (ps, aI cI 10 sf)] sz)) 0 0 (va_A [(g0, .inr (5, [.int (zi co), .ref ps, .int (zi ru), .ref pk, .ref pa, .ref pb, .ref pq, .int (zi we), .int (zi wr), .ref pw, .int (zi ty), .ref pt])), (ps, aI cI 10 sf)] sz) := by
  refine Met.ofW (cc := cX5_nth) (maxL := 7) (ret := (some .int)) (by decide) rfl ?_
  intro p e s m args below meth c s₁ B hml hv
  obtain ⟨rfl, hsz, hP, hK, hD0⟩ := hv
  have hx := B.exec
  have hb := B.bytes
  have hr := B.returns
  have hts := atoms_spec (ws := wsX5_nth) B.pre
  have hown : s.vm.findClass RX5 = some m.cls := findClass_of_methodNamed B.named
  have hlocks := B.notSynchronized
  subst hsz
  have hD := hD0.self (sz := s.heap.size)
  generalize hAe : va_A [(g0, .inr (5, [.int (zi co), .ref ps, .int (zi ru), .ref pk, .ref pa, .ref pb, .ref pq, .int (zi we), .int (zi wr), .ref pw, .int (zi ty), .ref pt])), (ps, aI cI 10 sf)] s.heap.size = A at hD ⊢
  have hA : ∀ q : Nat, s.heap.size ≤ q → A q := fun q h => by rw [← hAe]; exact Or.inr h
  have hS : va_S A s.heap s.heap [] := va_S.rf
  have hP : va_P (dC, dI) vwCl [(g0, .inr (5, [.int (zi co), .ref ps, .int (zi ru), .ref pk, .ref pa, .ref pb, .ref pq, .int (zi we), .int (zi wr), .ref pw, .int (zi ty), .ref pt])), (ps, aI cI 10 sf)] s.heap := hP
  have hl := lv_entry ([.ref g0, .int (zi sl), .int (zi ya), .int (zi mo), .int (zi wd), .int (zi nn)]) (n := 7) (Nat.le_of_ble_eq_true rfl)
  rw [lg_entry_eq]
  generalize (lg_sl ([.ref g0, .int (zi sl), .int (zi ya), .int (zi mo), .int (zi wd), .int (zi nn)]) ++ List.replicate (7 - (lg_sl ([.ref g0, .int (zi sl), .int (zi ya), .int (zi mo), .int (zi wd), .int (zi nn)])).length) Slot.unset).toArray = ls at hl ⊢
  have hl : lv_has ls 7 [(0, .ref g0), (1, .int (zi sl)), (2, .int (zi ya)), (3, .int (zi mo)), (4, .int (zi wd)), (5, .int (zi nn))] := hl
  refine lv_iload_n hx hb dX5_nth_0 rfl (lv_at hl 2 rfl) ?_
  refine zw_iconst hx hb dX5_nth_1 ?_
  refine zw_sipush hx hb dX5_nth_2 (by decide) ?_
  have hh1 := c_X5_in l ya 1 9999 (by omega) (by omega) (by omega)
  refine vp_callSi (va_Run.run (va_runS (As := [.int (zi ya), .int (zi 1), .int (zi 9999)]) (rest := []) ⟨hx, hb, hml, hown, hts⟩ hh1 (va_cwS 3 hts gX5_nth_X5_in rfl rfl rfl (by decide +kernel) ⟨Nat.le_of_ble_eq_true rfl, Nat.le_of_ble_eq_true rfl⟩) ⟨fun a U g mk q => q, fun U hU hW => ⟨rfl, trivial⟩⟩ rfl rfl hl.1 rfl (lv_room (Nat.le_of_ble_eq_true rfl)) dX5_nth_5 ⟨Nat.zero_le _, Nat.zero_le _⟩)) (fun r1 (hr1 : r1 = zi (f_X5_in ya 1 9999)) => ?_)
  subst hr1
  have hf1 := b_X5_in ya 1 9999 (by omega) (by omega) (by omega)
  refine zw_if_eq (tgt := 52) hx hb dX5_nth_8 (by decide) ⟨by omega, by omega⟩ (fun h2 => ?_) (fun h2 => ?_)
  · skip
    refine zw_iconst hx hb dX5_nth_52 ?_
    refine lv_istore (lv' := [(6, .int (zi 0)), (0, .ref g0), (1, .int (zi sl)), (2, .int (zi ya)), (3, .int (zi mo)), (4, .int (zi wd)), (5, .int (zi nn))]) hx hb dX5_nth_53 hl (by decide) rfl (fun ls hl => ?_)
    refine lv_aload_n hx hb dX5_nth_55 rfl (lv_at hl 1 rfl) ?_
    refine lv_iload_n hx hb dX5_nth_56 rfl (lv_at hl 2 rfl) ?_
    have hh3 := c_X5_isSlot l sl (by omega)
    refine vp_callSi (va_Run.run (va_runS (As := [.int (zi sl)]) (rest := [.ref g0]) ⟨hx, hb, hml, hown, hts⟩ hh3 (va_cwS 1 hts gX5_nth_X5_isSlot rfl rfl rfl (by decide +kernel) ⟨Nat.le_of_ble_eq_true rfl, Nat.le_of_ble_eq_true rfl⟩) ⟨fun a U g mk q => q, fun U hU hW => ⟨rfl, trivial⟩⟩ rfl rfl hl.1 rfl (lv_room (Nat.le_of_ble_eq_true rfl)) dX5_nth_57 ⟨Nat.zero_le _, Nat.zero_le _⟩)) (fun r3 (hr3 : r3 = zi (f_X5_isSlot sl)) => ?_)
    subst hr3
    have hf3 := b_X5_isSlot sl (by omega)
    refine zw_if_ne (tgt := 67) hx hb dX5_nth_60 (by decide) ⟨by omega, by omega⟩ (fun h4 => ?_) (fun h4 => ?_)
    · skip
      exact absurd True.intro (by omega)
    · skip
      refine zw_iconst hx hb dX5_nth_63 ?_
      refine lv_goto (tgt := 89) hx hb dX5_nth_64 (by decide) ?_
      refine va_put (D := (dC, dI)) (ci := 5) (v := .int (zi 1)) (ty := .int) (C := RX5) (T := TX5) (N := 12) hx hb hts (by decide +kernel) tyX5 tyX5_ok nmX5 hown hK hP hD hS 0 rfl rfl 0 (by decide) (hts (.fieldLink RX5 35 "CivilDaysModel" "code" "I") (by decide +kernel)) (fun _ h9 => h9) rfl (by decide +kernel) rfl rfl (Nat.le_of_ble_eq_true rfl) dX5_nth_89 (fun H locs hP hD hS => ?_)
      have hP : va_P (dC, dI) vwCl [(g0, .inr (5, [.int (zi 1), .ref ps, .int (zi ru), .ref pk, .ref pa, .ref pb, .ref pq, .int (zi we), .int (zi wr), .ref pw, .int (zi ty), .ref pt])), (ps, aI cI 10 sf)] H := hP
      have hD : va_D A [(g0, .inr (5, [.int (zi 1), .ref ps, .int (zi ru), .ref pk, .ref pa, .ref pb, .ref pq, .int (zi we), .int (zi wr), .ref pw, .int (zi ty), .ref pt])), (ps, aI cI 10 sf)] := hD
      refine lv_aload_n hx hb dX5_nth_92 rfl (lv_at hl 1 rfl) ?_
      refine va_get (D := (dC, dI)) (ci := 5) (v := .int (zi 1)) (C := RX5) (T := TX5) (N := 12) hx hb hts (by decide +kernel) hown hK hP 0 rfl rfl 0 (by decide) (hts (.fieldLink RX5 35 "CivilDaysModel" "code" "I") (by decide +kernel)) (fun _ h9 => h9) rfl dX5_nth_93 ?_
      refine zw_if_le (tgt := 103) hx hb dX5_nth_96 (by decide) ⟨by omega, by omega⟩ (fun h5 => ?_) (fun h5 => ?_)
      · skip
        exact absurd True.intro (by omega)
      · skip
        refine zw_iconst hx hb dX5_nth_99 ?_
        refine lv_goto (tgt := 117) hx hb dX5_nth_100 (by decide) ?_
        have hP9 := hP.sub (ws' := [(g0, .inr (5, [.int (zi 1), .ref ps, .int (zi ru), .ref pk, .ref pa, .ref pb, .ref pq, .int (zi we), .int (zi wr), .ref pw, .int (zi ty), .ref pt])), (ps, aI cI 10 sf)]) [0, 1] rfl
        have hD9 := hD.sub (ws' := [(g0, .inr (5, [.int (zi 1), .ref ps, .int (zi ru), .ref pk, .ref pa, .ref pb, .ref pq, .int (zi we), .int (zi wr), .ref pw, .int (zi ty), .ref pt])), (ps, aI cI 10 sf)]) [0, 1] (by decide) rfl
        exact W.iret (v := zi 0) hx hb hr (fun t ht hW => ⟨⟨zi 0, (), rfl, rfl, by rw [ht]; exact hP9, va_K.moved hW.alike hK, hD9⟩, hS.F ht⟩) hS.2.2 dX5_nth_117
  · skip
    refine lv_iload_n hx hb dX5_nth_11 rfl (lv_at hl 3 rfl) ?_
    refine zw_iconst hx hb dX5_nth_12 ?_
    refine zw_bipush hx hb dX5_nth_13 (by decide) ?_
    have hh6 := c_X5_in l mo 1 12 (by omega) (by omega) (by omega)
    refine vp_callSi (va_Run.run (va_runS (As := [.int (zi mo), .int (zi 1), .int (zi 12)]) (rest := []) ⟨hx, hb, hml, hown, hts⟩ hh6 (va_cwS 3 hts gX5_nth_X5_in rfl rfl rfl (by decide +kernel) ⟨Nat.le_of_ble_eq_true rfl, Nat.le_of_ble_eq_true rfl⟩) ⟨fun a U g mk q => q, fun U hU hW => ⟨rfl, trivial⟩⟩ rfl rfl hl.1 rfl (lv_room (Nat.le_of_ble_eq_true rfl)) dX5_nth_15 ⟨Nat.zero_le _, Nat.zero_le _⟩)) (fun r6 (hr6 : r6 = zi (f_X5_in mo 1 12)) => ?_)
    subst hr6
    have hf6 := b_X5_in mo 1 12 (by omega) (by omega) (by omega)
    refine zw_if_eq (tgt := 52) hx hb dX5_nth_18 (by decide) ⟨by omega, by omega⟩ (fun h7 => ?_) (fun h7 => ?_)
    · skip
      refine zw_iconst hx hb dX5_nth_52 ?_
      refine lv_istore (lv' := [(6, .int (zi 0)), (0, .ref g0), (1, .int (zi sl)), (2, .int (zi ya)), (3, .int (zi mo)), (4, .int (zi wd)), (5, .int (zi nn))]) hx hb dX5_nth_53 hl (by decide) rfl (fun ls hl => ?_)
      refine lv_aload_n hx hb dX5_nth_55 rfl (lv_at hl 1 rfl) ?_
      refine lv_iload_n hx hb dX5_nth_56 rfl (lv_at hl 2 rfl) ?_
      have hh8 := c_X5_isSlot l sl (by omega)
      refine vp_callSi (va_Run.run (va_runS (As := [.int (zi sl)]) (rest := [.ref g0]) ⟨hx, hb, hml, hown, hts⟩ hh8 (va_cwS 1 hts gX5_nth_X5_isSlot rfl rfl rfl (by decide +kernel) ⟨Nat.le_of_ble_eq_true rfl, Nat.le_of_ble_eq_true rfl⟩) ⟨fun a U g mk q => q, fun U hU hW => ⟨rfl, trivial⟩⟩ rfl rfl hl.1 rfl (lv_room (Nat.le_of_ble_eq_true rfl)) dX5_nth_57 ⟨Nat.zero_le _, Nat.zero_le _⟩)) (fun r8 (hr8 : r8 = zi (f_X5_isSlot sl)) => ?_)
      subst hr8
      have hf8 := b_X5_isSlot sl (by omega)
      refine zw_if_ne (tgt := 67) hx hb dX5_nth_60 (by decide) ⟨by omega, by omega⟩ (fun h9 => ?_) (fun h9 => ?_)
      · skip
        exact absurd True.intro (by omega)
      · skip
        refine zw_iconst hx hb dX5_nth_63 ?_
        refine lv_goto (tgt := 89) hx hb dX5_nth_64 (by decide) ?_
        refine va_put (D := (dC, dI)) (ci := 5) (v := .int (zi 1)) (ty := .int) (C := RX5) (T := TX5) (N := 12) hx hb hts (by decide +kernel) tyX5 tyX5_ok nmX5 hown hK hP hD hS 0 rfl rfl 0 (by decide) (hts (.fieldLink RX5 35 "CivilDaysModel" "code" "I") (by decide +kernel)) (fun _ h9 => h9) rfl (by decide +kernel) rfl rfl (Nat.le_of_ble_eq_true rfl) dX5_nth_89 (fun H locs hP hD hS => ?_)
        have hP : va_P (dC, dI) vwCl [(g0, .inr (5, [.int (zi 1), .ref ps, .int (zi ru), .ref pk, .ref pa, .ref pb, .ref pq, .int (zi we), .int (zi wr), .ref pw, .int (zi ty), .ref pt])), (ps, aI cI 10 sf)] H := hP
        have hD : va_D A [(g0, .inr (5, [.int (zi 1), .ref ps, .int (zi ru), .ref pk, .ref pa, .ref pb, .ref pq, .int (zi we), .int (zi wr), .ref pw, .int (zi ty), .ref pt])), (ps, aI cI 10 sf)] := hD
        refine lv_aload_n hx hb dX5_nth_92 rfl (lv_at hl 1 rfl) ?_
        refine va_get (D := (dC, dI)) (ci := 5) (v := .int (zi 1)) (C := RX5) (T := TX5) (N := 12) hx hb hts (by decide +kernel) hown hK hP 0 rfl rfl 0 (by decide) (hts (.fieldLink RX5 35 "CivilDaysModel" "code" "I") (by decide +kernel)) (fun _ h9 => h9) rfl dX5_nth_93 ?_
        refine zw_if_le (tgt := 103) hx hb dX5_nth_96 (by decide) ⟨by omega, by omega⟩ (fun h10 => ?_) (fun h10 => ?_)
        · skip
          exact absurd True.intro (by omega)
        · skip
          refine zw_iconst hx hb dX5_nth_99 ?_
          refine lv_goto (tgt := 117) hx hb dX5_nth_100 (by decide) ?_
          have hP9 := hP.sub (ws' := [(g0, .inr (5, [.int (zi 1), .ref ps, .int (zi ru), .ref pk, .ref pa, .ref pb, .ref pq, .int (zi we), .int (zi wr), .ref pw, .int (zi ty), .ref pt])), (ps, aI cI 10 sf)]) [0, 1] rfl
          have hD9 := hD.sub (ws' := [(g0, .inr (5, [.int (zi 1), .ref ps, .int (zi ru), .ref pk, .ref pa, .ref pb, .ref pq, .int (zi we), .int (zi wr), .ref pw, .int (zi ty), .ref pt])), (ps, aI cI 10 sf)]) [0, 1] (by decide) rfl
          exact W.iret (v := zi 0) hx hb hr (fun t ht hW => ⟨⟨zi 0, (), rfl, rfl, by rw [ht]; exact hP9, va_K.moved hW.alike hK, hD9⟩, hS.F ht⟩) hS.2.2 dX5_nth_117
    · skip
      refine lv_iload hx hb dX5_nth_21 (lv_at hl 4 rfl) ?_
      refine zw_iconst hx hb dX5_nth_23 ?_
      refine zw_bipush hx hb dX5_nth_24 (by decide) ?_
      have hh11 := c_X5_in l wd 1 7 (by omega) (by omega) (by omega)
      refine vp_callSi (va_Run.run (va_runS (As := [.int (zi wd), .int (zi 1), .int (zi 7)]) (rest := []) ⟨hx, hb, hml, hown, hts⟩ hh11 (va_cwS 3 hts gX5_nth_X5_in rfl rfl rfl (by decide +kernel) ⟨Nat.le_of_ble_eq_true rfl, Nat.le_of_ble_eq_true rfl⟩) ⟨fun a U g mk q => q, fun U hU hW => ⟨rfl, trivial⟩⟩ rfl rfl hl.1 rfl (lv_room (Nat.le_of_ble_eq_true rfl)) dX5_nth_26 ⟨Nat.zero_le _, Nat.zero_le _⟩)) (fun r11 (hr11 : r11 = zi (f_X5_in wd 1 7)) => ?_)
      subst hr11
      have hf11 := b_X5_in wd 1 7 (by omega) (by omega) (by omega)
      refine zw_if_eq (tgt := 52) hx hb dX5_nth_29 (by decide) ⟨by omega, by omega⟩ (fun h12 => ?_) (fun h12 => ?_)
      · skip
        refine zw_iconst hx hb dX5_nth_52 ?_
        refine lv_istore (lv' := [(6, .int (zi 0)), (0, .ref g0), (1, .int (zi sl)), (2, .int (zi ya)), (3, .int (zi mo)), (4, .int (zi wd)), (5, .int (zi nn))]) hx hb dX5_nth_53 hl (by decide) rfl (fun ls hl => ?_)
        refine lv_aload_n hx hb dX5_nth_55 rfl (lv_at hl 1 rfl) ?_
        refine lv_iload_n hx hb dX5_nth_56 rfl (lv_at hl 2 rfl) ?_
        have hh13 := c_X5_isSlot l sl (by omega)
        refine vp_callSi (va_Run.run (va_runS (As := [.int (zi sl)]) (rest := [.ref g0]) ⟨hx, hb, hml, hown, hts⟩ hh13 (va_cwS 1 hts gX5_nth_X5_isSlot rfl rfl rfl (by decide +kernel) ⟨Nat.le_of_ble_eq_true rfl, Nat.le_of_ble_eq_true rfl⟩) ⟨fun a U g mk q => q, fun U hU hW => ⟨rfl, trivial⟩⟩ rfl rfl hl.1 rfl (lv_room (Nat.le_of_ble_eq_true rfl)) dX5_nth_57 ⟨Nat.zero_le _, Nat.zero_le _⟩)) (fun r13 (hr13 : r13 = zi (f_X5_isSlot sl)) => ?_)
        subst hr13
        have hf13 := b_X5_isSlot sl (by omega)
        refine zw_if_ne (tgt := 67) hx hb dX5_nth_60 (by decide) ⟨by omega, by omega⟩ (fun h14 => ?_) (fun h14 => ?_)
        · skip
          exact absurd True.intro (by omega)
        · skip
          refine zw_iconst hx hb dX5_nth_63 ?_
          refine lv_goto (tgt := 89) hx hb dX5_nth_64 (by decide) ?_
          refine va_put (D := (dC, dI)) (ci := 5) (v := .int (zi 1)) (ty := .int) (C := RX5) (T := TX5) (N := 12) hx hb hts (by decide +kernel) tyX5 tyX5_ok nmX5 hown hK hP hD hS 0 rfl rfl 0 (by decide) (hts (.fieldLink RX5 35 "CivilDaysModel" "code" "I") (by decide +kernel)) (fun _ h9 => h9) rfl (by decide +kernel) rfl rfl (Nat.le_of_ble_eq_true rfl) dX5_nth_89 (fun H locs hP hD hS => ?_)
          have hP : va_P (dC, dI) vwCl [(g0, .inr (5, [.int (zi 1), .ref ps, .int (zi ru), .ref pk, .ref pa, .ref pb, .ref pq, .int (zi we), .int (zi wr), .ref pw, .int (zi ty), .ref pt])), (ps, aI cI 10 sf)] H := hP
          have hD : va_D A [(g0, .inr (5, [.int (zi 1), .ref ps, .int (zi ru), .ref pk, .ref pa, .ref pb, .ref pq, .int (zi we), .int (zi wr), .ref pw, .int (zi ty), .ref pt])), (ps, aI cI 10 sf)] := hD
          refine lv_aload_n hx hb dX5_nth_92 rfl (lv_at hl 1 rfl) ?_
          refine va_get (D := (dC, dI)) (ci := 5) (v := .int (zi 1)) (C := RX5) (T := TX5) (N := 12) hx hb hts (by decide +kernel) hown hK hP 0 rfl rfl 0 (by decide) (hts (.fieldLink RX5 35 "CivilDaysModel" "code" "I") (by decide +kernel)) (fun _ h9 => h9) rfl dX5_nth_93 ?_
          refine zw_if_le (tgt := 103) hx hb dX5_nth_96 (by decide) ⟨by omega, by omega⟩ (fun h15 => ?_) (fun h15 => ?_)
          · skip
            exact absurd True.intro (by omega)
          · skip
            refine zw_iconst hx hb dX5_nth_99 ?_
            refine lv_goto (tgt := 117) hx hb dX5_nth_100 (by decide) ?_
            have hP9 := hP.sub (ws' := [(g0, .inr (5, [.int (zi 1), .ref ps, .int (zi ru), .ref pk, .ref pa, .ref pb, .ref pq, .int (zi we), .int (zi wr), .ref pw, .int (zi ty), .ref pt])), (ps, aI cI 10 sf)]) [0, 1] rfl
            have hD9 := hD.sub (ws' := [(g0, .inr (5, [.int (zi 1), .ref ps, .int (zi ru), .ref pk, .ref pa, .ref pb, .ref pq, .int (zi we), .int (zi wr), .ref pw, .int (zi ty), .ref pt])), (ps, aI cI 10 sf)]) [0, 1] (by decide) rfl
            exact W.iret (v := zi 0) hx hb hr (fun t ht hW => ⟨⟨zi 0, (), rfl, rfl, by rw [ht]; exact hP9, va_K.moved hW.alike hK, hD9⟩, hS.F ht⟩) hS.2.2 dX5_nth_117
      · skip
        refine lv_iload hx hb dX5_nth_32 (lv_at hl 5 rfl) ?_
        refine zw_bipush hx hb dX5_nth_34 (by decide) ?_
        refine zw_iconst hx hb dX5_nth_36 ?_
        have hh16 := c_X5_in l nn (-5) 5 (by omega) (by omega) (by omega)
        refine vp_callSi (va_Run.run (va_runS (As := [.int (zi nn), .int (zi (-5)), .int (zi 5)]) (rest := []) ⟨hx, hb, hml, hown, hts⟩ hh16 (va_cwS 3 hts gX5_nth_X5_in rfl rfl rfl (by decide +kernel) ⟨Nat.le_of_ble_eq_true rfl, Nat.le_of_ble_eq_true rfl⟩) ⟨fun a U g mk q => q, fun U hU hW => ⟨rfl, trivial⟩⟩ rfl rfl hl.1 rfl (lv_room (Nat.le_of_ble_eq_true rfl)) dX5_nth_37 ⟨Nat.zero_le _, Nat.zero_le _⟩)) (fun r16 (hr16 : r16 = zi (f_X5_in nn (-5) 5)) => ?_)
        subst hr16
        have hf16 := b_X5_in nn (-5) 5 (by omega) (by omega) (by omega)
        refine zw_if_eq (tgt := 52) hx hb dX5_nth_40 (by decide) ⟨by omega, by omega⟩ (fun h17 => ?_) (fun h17 => ?_)
        · skip
          refine zw_iconst hx hb dX5_nth_52 ?_
          refine lv_istore (lv' := [(6, .int (zi 0)), (0, .ref g0), (1, .int (zi sl)), (2, .int (zi ya)), (3, .int (zi mo)), (4, .int (zi wd)), (5, .int (zi nn))]) hx hb dX5_nth_53 hl (by decide) rfl (fun ls hl => ?_)
          refine lv_aload_n hx hb dX5_nth_55 rfl (lv_at hl 1 rfl) ?_
          refine lv_iload_n hx hb dX5_nth_56 rfl (lv_at hl 2 rfl) ?_
          have hh18 := c_X5_isSlot l sl (by omega)
          refine vp_callSi (va_Run.run (va_runS (As := [.int (zi sl)]) (rest := [.ref g0]) ⟨hx, hb, hml, hown, hts⟩ hh18 (va_cwS 1 hts gX5_nth_X5_isSlot rfl rfl rfl (by decide +kernel) ⟨Nat.le_of_ble_eq_true rfl, Nat.le_of_ble_eq_true rfl⟩) ⟨fun a U g mk q => q, fun U hU hW => ⟨rfl, trivial⟩⟩ rfl rfl hl.1 rfl (lv_room (Nat.le_of_ble_eq_true rfl)) dX5_nth_57 ⟨Nat.zero_le _, Nat.zero_le _⟩)) (fun r18 (hr18 : r18 = zi (f_X5_isSlot sl)) => ?_)
          subst hr18
          have hf18 := b_X5_isSlot sl (by omega)
          refine zw_if_ne (tgt := 67) hx hb dX5_nth_60 (by decide) ⟨by omega, by omega⟩ (fun h19 => ?_) (fun h19 => ?_)
          · skip
            exact absurd True.intro (by omega)
          · skip
            refine zw_iconst hx hb dX5_nth_63 ?_
            refine lv_goto (tgt := 89) hx hb dX5_nth_64 (by decide) ?_
            refine va_put (D := (dC, dI)) (ci := 5) (v := .int (zi 1)) (ty := .int) (C := RX5) (T := TX5) (N := 12) hx hb hts (by decide +kernel) tyX5 tyX5_ok nmX5 hown hK hP hD hS 0 rfl rfl 0 (by decide) (hts (.fieldLink RX5 35 "CivilDaysModel" "code" "I") (by decide +kernel)) (fun _ h9 => h9) rfl (by decide +kernel) rfl rfl (Nat.le_of_ble_eq_true rfl) dX5_nth_89 (fun H locs hP hD hS => ?_)
            have hP : va_P (dC, dI) vwCl [(g0, .inr (5, [.int (zi 1), .ref ps, .int (zi ru), .ref pk, .ref pa, .ref pb, .ref pq, .int (zi we), .int (zi wr), .ref pw, .int (zi ty), .ref pt])), (ps, aI cI 10 sf)] H := hP
            have hD : va_D A [(g0, .inr (5, [.int (zi 1), .ref ps, .int (zi ru), .ref pk, .ref pa, .ref pb, .ref pq, .int (zi we), .int (zi wr), .ref pw, .int (zi ty), .ref pt])), (ps, aI cI 10 sf)] := hD
            refine lv_aload_n hx hb dX5_nth_92 rfl (lv_at hl 1 rfl) ?_
            refine va_get (D := (dC, dI)) (ci := 5) (v := .int (zi 1)) (C := RX5) (T := TX5) (N := 12) hx hb hts (by decide +kernel) hown hK hP 0 rfl rfl 0 (by decide) (hts (.fieldLink RX5 35 "CivilDaysModel" "code" "I") (by decide +kernel)) (fun _ h9 => h9) rfl dX5_nth_93 ?_
            refine zw_if_le (tgt := 103) hx hb dX5_nth_96 (by decide) ⟨by omega, by omega⟩ (fun h20 => ?_) (fun h20 => ?_)
            · skip
              exact absurd True.intro (by omega)
            · skip
              refine zw_iconst hx hb dX5_nth_99 ?_
              refine lv_goto (tgt := 117) hx hb dX5_nth_100 (by decide) ?_
              have hP9 := hP.sub (ws' := [(g0, .inr (5, [.int (zi 1), .ref ps, .int (zi ru), .ref pk, .ref pa, .ref pb, .ref pq, .int (zi we), .int (zi wr), .ref pw, .int (zi ty), .ref pt])), (ps, aI cI 10 sf)]) [0, 1] rfl
              have hD9 := hD.sub (ws' := [(g0, .inr (5, [.int (zi 1), .ref ps, .int (zi ru), .ref pk, .ref pa, .ref pb, .ref pq, .int (zi we), .int (zi wr), .ref pw, .int (zi ty), .ref pt])), (ps, aI cI 10 sf)]) [0, 1] (by decide) rfl
              exact W.iret (v := zi 0) hx hb hr (fun t ht hW => ⟨⟨zi 0, (), rfl, rfl, by rw [ht]; exact hP9, va_K.moved hW.alike hK, hD9⟩, hS.F ht⟩) hS.2.2 dX5_nth_117
        · skip
          refine lv_iload hx hb dX5_nth_43 (lv_at hl 5 rfl) ?_
          refine zw_if_eq (tgt := 52) hx hb dX5_nth_45 (by decide) ⟨by omega, by omega⟩ (fun h21 => ?_) (fun h21 => ?_)
          · skip
            refine zw_iconst hx hb dX5_nth_52 ?_
            refine lv_istore (lv' := [(6, .int (zi 0)), (0, .ref g0), (1, .int (zi sl)), (2, .int (zi ya)), (3, .int (zi mo)), (4, .int (zi wd)), (5, .int (zi nn))]) hx hb dX5_nth_53 hl (by decide) rfl (fun ls hl => ?_)
            refine lv_aload_n hx hb dX5_nth_55 rfl (lv_at hl 1 rfl) ?_
            refine lv_iload_n hx hb dX5_nth_56 rfl (lv_at hl 2 rfl) ?_
            have hh22 := c_X5_isSlot l sl (by omega)
            refine vp_callSi (va_Run.run (va_runS (As := [.int (zi sl)]) (rest := [.ref g0]) ⟨hx, hb, hml, hown, hts⟩ hh22 (va_cwS 1 hts gX5_nth_X5_isSlot rfl rfl rfl (by decide +kernel) ⟨Nat.le_of_ble_eq_true rfl, Nat.le_of_ble_eq_true rfl⟩) ⟨fun a U g mk q => q, fun U hU hW => ⟨rfl, trivial⟩⟩ rfl rfl hl.1 rfl (lv_room (Nat.le_of_ble_eq_true rfl)) dX5_nth_57 ⟨Nat.zero_le _, Nat.zero_le _⟩)) (fun r22 (hr22 : r22 = zi (f_X5_isSlot sl)) => ?_)
            subst hr22
            have hf22 := b_X5_isSlot sl (by omega)
            refine zw_if_ne (tgt := 67) hx hb dX5_nth_60 (by decide) ⟨by omega, by omega⟩ (fun h23 => ?_) (fun h23 => ?_)
            · skip
              exact absurd True.intro (by omega)
            · skip
              refine zw_iconst hx hb dX5_nth_63 ?_
              refine lv_goto (tgt := 89) hx hb dX5_nth_64 (by decide) ?_
              refine va_put (D := (dC, dI)) (ci := 5) (v := .int (zi 1)) (ty := .int) (C := RX5) (T := TX5) (N := 12) hx hb hts (by decide +kernel) tyX5 tyX5_ok nmX5 hown hK hP hD hS 0 rfl rfl 0 (by decide) (hts (.fieldLink RX5 35 "CivilDaysModel" "code" "I") (by decide +kernel)) (fun _ h9 => h9) rfl (by decide +kernel) rfl rfl (Nat.le_of_ble_eq_true rfl) dX5_nth_89 (fun H locs hP hD hS => ?_)
              have hP : va_P (dC, dI) vwCl [(g0, .inr (5, [.int (zi 1), .ref ps, .int (zi ru), .ref pk, .ref pa, .ref pb, .ref pq, .int (zi we), .int (zi wr), .ref pw, .int (zi ty), .ref pt])), (ps, aI cI 10 sf)] H := hP
              have hD : va_D A [(g0, .inr (5, [.int (zi 1), .ref ps, .int (zi ru), .ref pk, .ref pa, .ref pb, .ref pq, .int (zi we), .int (zi wr), .ref pw, .int (zi ty), .ref pt])), (ps, aI cI 10 sf)] := hD
              refine lv_aload_n hx hb dX5_nth_92 rfl (lv_at hl 1 rfl) ?_
              refine va_get (D := (dC, dI)) (ci := 5) (v := .int (zi 1)) (C := RX5) (T := TX5) (N := 12) hx hb hts (by decide +kernel) hown hK hP 0 rfl rfl 0 (by decide) (hts (.fieldLink RX5 35 "CivilDaysModel" "code" "I") (by decide +kernel)) (fun _ h9 => h9) rfl dX5_nth_93 ?_
              refine zw_if_le (tgt := 103) hx hb dX5_nth_96 (by decide) ⟨by omega, by omega⟩ (fun h24 => ?_) (fun h24 => ?_)
              · skip
                exact absurd True.intro (by omega)
              · skip
                refine zw_iconst hx hb dX5_nth_99 ?_
                refine lv_goto (tgt := 117) hx hb dX5_nth_100 (by decide) ?_
                have hP9 := hP.sub (ws' := [(g0, .inr (5, [.int (zi 1), .ref ps, .int (zi ru), .ref pk, .ref pa, .ref pb, .ref pq, .int (zi we), .int (zi wr), .ref pw, .int (zi ty), .ref pt])), (ps, aI cI 10 sf)]) [0, 1] rfl
                have hD9 := hD.sub (ws' := [(g0, .inr (5, [.int (zi 1), .ref ps, .int (zi ru), .ref pk, .ref pa, .ref pb, .ref pq, .int (zi we), .int (zi wr), .ref pw, .int (zi ty), .ref pt])), (ps, aI cI 10 sf)]) [0, 1] (by decide) rfl
                exact W.iret (v := zi 0) hx hb hr (fun t ht hW => ⟨⟨zi 0, (), rfl, rfl, by rw [ht]; exact hP9, va_K.moved hW.alike hK, hD9⟩, hS.F ht⟩) hS.2.2 dX5_nth_117
          · skip
            refine zw_iconst hx hb dX5_nth_48 ?_
            refine lv_goto (tgt := 53) hx hb dX5_nth_49 (by decide) ?_
            refine lv_istore (lv' := [(6, .int (zi 1)), (0, .ref g0), (1, .int (zi sl)), (2, .int (zi ya)), (3, .int (zi mo)), (4, .int (zi wd)), (5, .int (zi nn))]) hx hb dX5_nth_53 hl (by decide) rfl (fun ls hl => ?_)
            refine lv_aload_n hx hb dX5_nth_55 rfl (lv_at hl 1 rfl) ?_
            refine lv_iload_n hx hb dX5_nth_56 rfl (lv_at hl 2 rfl) ?_
            have hh25 := c_X5_isSlot l sl (by omega)
            refine vp_callSi (va_Run.run (va_runS (As := [.int (zi sl)]) (rest := [.ref g0]) ⟨hx, hb, hml, hown, hts⟩ hh25 (va_cwS 1 hts gX5_nth_X5_isSlot rfl rfl rfl (by decide +kernel) ⟨Nat.le_of_ble_eq_true rfl, Nat.le_of_ble_eq_true rfl⟩) ⟨fun a U g mk q => q, fun U hU hW => ⟨rfl, trivial⟩⟩ rfl rfl hl.1 rfl (lv_room (Nat.le_of_ble_eq_true rfl)) dX5_nth_57 ⟨Nat.zero_le _, Nat.zero_le _⟩)) (fun r25 (hr25 : r25 = zi (f_X5_isSlot sl)) => ?_)
            subst hr25
            have hf25 := b_X5_isSlot sl (by omega)
            refine zw_if_ne (tgt := 67) hx hb dX5_nth_60 (by decide) ⟨by omega, by omega⟩ (fun h26 => ?_) (fun h26 => ?_)
            · skip
              exact absurd True.intro (by omega)
            · skip
              refine zw_iconst hx hb dX5_nth_63 ?_
              refine lv_goto (tgt := 89) hx hb dX5_nth_64 (by decide) ?_
              refine va_put (D := (dC, dI)) (ci := 5) (v := .int (zi 1)) (ty := .int) (C := RX5) (T := TX5) (N := 12) hx hb hts (by decide +kernel) tyX5 tyX5_ok nmX5 hown hK hP hD hS 0 rfl rfl 0 (by decide) (hts (.fieldLink RX5 35 "CivilDaysModel" "code" "I") (by decide +kernel)) (fun _ h9 => h9) rfl (by decide +kernel) rfl rfl (Nat.le_of_ble_eq_true rfl) dX5_nth_89 (fun H locs hP hD hS => ?_)
              have hP : va_P (dC, dI) vwCl [(g0, .inr (5, [.int (zi 1), .ref ps, .int (zi ru), .ref pk, .ref pa, .ref pb, .ref pq, .int (zi we), .int (zi wr), .ref pw, .int (zi ty), .ref pt])), (ps, aI cI 10 sf)] H := hP
              have hD : va_D A [(g0, .inr (5, [.int (zi 1), .ref ps, .int (zi ru), .ref pk, .ref pa, .ref pb, .ref pq, .int (zi we), .int (zi wr), .ref pw, .int (zi ty), .ref pt])), (ps, aI cI 10 sf)] := hD
              refine lv_aload_n hx hb dX5_nth_92 rfl (lv_at hl 1 rfl) ?_
              refine va_get (D := (dC, dI)) (ci := 5) (v := .int (zi 1)) (C := RX5) (T := TX5) (N := 12) hx hb hts (by decide +kernel) hown hK hP 0 rfl rfl 0 (by decide) (hts (.fieldLink RX5 35 "CivilDaysModel" "code" "I") (by decide +kernel)) (fun _ h9 => h9) rfl dX5_nth_93 ?_
              refine zw_if_le (tgt := 103) hx hb dX5_nth_96 (by decide) ⟨by omega, by omega⟩ (fun h27 => ?_) (fun h27 => ?_)
              · skip
                exact absurd True.intro (by omega)
              · skip
                refine zw_iconst hx hb dX5_nth_99 ?_
                refine lv_goto (tgt := 117) hx hb dX5_nth_100 (by decide) ?_
                have hP9 := hP.sub (ws' := [(g0, .inr (5, [.int (zi 1), .ref ps, .int (zi ru), .ref pk, .ref pa, .ref pb, .ref pq, .int (zi we), .int (zi wr), .ref pw, .int (zi ty), .ref pt])), (ps, aI cI 10 sf)]) [0, 1] rfl
                have hD9 := hD.sub (ws' := [(g0, .inr (5, [.int (zi 1), .ref ps, .int (zi ru), .ref pk, .ref pa, .ref pb, .ref pq, .int (zi we), .int (zi wr), .ref pw, .int (zi ty), .ref pt])), (ps, aI cI 10 sf)]) [0, 1] (by decide) rfl
                exact W.iret (v := zi 0) hx hb hr (fun t ht hW => ⟨⟨zi 0, (), rfl, rfl, by rw [ht]; exact hP9, va_K.moved hW.alike hK, hD9⟩, hS.F ht⟩) hS.2.2 dX5_nth_117

set_option maxHeartbeats 4000000 in
set_option maxRecDepth 100000 in
theorem c_X5_nth_2 (l : Launch)  (dC : Nat → ClassId) (dI : Nat → Nat → Nat) (cI : ClassId) (g0 ps pk pa pb pq pw pt : Nat) (co ru we wr ty : Int) (sf : Nat → Int) (sl ya mo wd nn : Int) (sz : Nat) (hp0 : 0 ≤ sl ∧ sl ≤ 9) (hp1 : -2147483648 ≤ ya ∧ ya ≤ 2147483647) (hp2 : -2147483648 ≤ mo ∧ mo ≤ 2147483647) (hp3 : -2147483648 ≤ wd ∧ wd ≤ 2147483647) (hp4 : -2147483648 ≤ nn ∧ nn ≤ 2147483647) (hp5 : ya < 1 ∨ 9999 < ya ∨ mo < 1 ∨ 12 < mo ∨ wd < 1 ∨ 7 < wd ∨ nn < -5 ∨ 5 < nn ∨ nn = 0) : Met l yX5_nth wsX5_nth ({ frames := 2, cells := 0, slots := 0, locals := 42 }) (zPw (dC, dI) [(cI, .int)] sz [.ref g0, .int (zi sl), .int (zi ya), .int (zi mo), .int (zi wd), .int (zi nn)] [(g0, .inr (5, [.int (zi co), .ref ps, .int (zi ru), .ref pk, .ref pa, .ref pb, .ref pq, .int (zi we), .int (zi wr), .ref pw, .int (zi ty), .ref pt])), (ps, aI cI 10 sf)]) (va_Qi (fun (r : Int32) (_ : Unit) => r = zi 0) (zB (dC, dI) [(cI, .int)] (va_A [(g0, .inr (5, [.int (zi co), .ref ps, .int (zi ru), .ref pk, .ref pa, .ref pb, .ref pq, .int (zi we), .int (zi wr), .ref pw, .int (zi ty), .ref pt])), (ps, aI cI 10 sf)] sz) [(g0, .inr (5, [.int (zi 2), .ref ps, .int (zi ru), .ref pk, .ref pa, .ref pb, .ref pq, .int (zi we), .int (zi wr), .ref pw, .int (zi ty), .ref pt])), (ps, aI cI 10 sf)]) (va_A [(g0, .inr (5, [.int (zi co), .ref ps, .int (zi ru), .ref pk, .ref pa, .ref pb, .ref pq, .int (zi we), .int (zi wr), .ref pw, .int (zi ty), .ref pt])), (ps, aI cI 10 sf)] sz)) 0 0 (va_A [(g0, .inr (5, [.int (zi co), .ref ps, .int (zi ru), .ref pk, .ref pa, .ref pb, .ref pq, .int (zi we), .int (zi wr), .ref pw, .int (zi ty), .ref pt])), (ps, aI cI 10 sf)] sz) := by
  refine Met.ofW (cc := cX5_nth) (maxL := 7) (ret := (some .int)) (by decide) rfl ?_
  intro p e s m args below meth c s₁ B hml hv
  obtain ⟨rfl, hsz, hP, hK, hD0⟩ := hv
  have hx := B.exec
  have hb := B.bytes
  have hr := B.returns
  have hts := atoms_spec (ws := wsX5_nth) B.pre
  have hown : s.vm.findClass RX5 = some m.cls := findClass_of_methodNamed B.named
  have hlocks := B.notSynchronized
  subst hsz
  have hD := hD0.self (sz := s.heap.size)
  generalize hAe : va_A [(g0, .inr (5, [.int (zi co), .ref ps, .int (zi ru), .ref pk, .ref pa, .ref pb, .ref pq, .int (zi we), .int (zi wr), .ref pw, .int (zi ty), .ref pt])), (ps, aI cI 10 sf)] s.heap.size = A at hD ⊢
  have hA : ∀ q : Nat, s.heap.size ≤ q → A q := fun q h => by rw [← hAe]; exact Or.inr h
  have hS : va_S A s.heap s.heap [] := va_S.rf
  have hP : va_P (dC, dI) vwCl [(g0, .inr (5, [.int (zi co), .ref ps, .int (zi ru), .ref pk, .ref pa, .ref pb, .ref pq, .int (zi we), .int (zi wr), .ref pw, .int (zi ty), .ref pt])), (ps, aI cI 10 sf)] s.heap := hP
  have hl := lv_entry ([.ref g0, .int (zi sl), .int (zi ya), .int (zi mo), .int (zi wd), .int (zi nn)]) (n := 7) (Nat.le_of_ble_eq_true rfl)
  rw [lg_entry_eq]
  generalize (lg_sl ([.ref g0, .int (zi sl), .int (zi ya), .int (zi mo), .int (zi wd), .int (zi nn)]) ++ List.replicate (7 - (lg_sl ([.ref g0, .int (zi sl), .int (zi ya), .int (zi mo), .int (zi wd), .int (zi nn)])).length) Slot.unset).toArray = ls at hl ⊢
  have hl : lv_has ls 7 [(0, .ref g0), (1, .int (zi sl)), (2, .int (zi ya)), (3, .int (zi mo)), (4, .int (zi wd)), (5, .int (zi nn))] := hl
  refine lv_iload_n hx hb dX5_nth_0 rfl (lv_at hl 2 rfl) ?_
  refine zw_iconst hx hb dX5_nth_1 ?_
  refine zw_sipush hx hb dX5_nth_2 (by decide) ?_
  have hh1 := c_X5_in l ya 1 9999 (by omega) (by omega) (by omega)
  refine vp_callSi (va_Run.run (va_runS (As := [.int (zi ya), .int (zi 1), .int (zi 9999)]) (rest := []) ⟨hx, hb, hml, hown, hts⟩ hh1 (va_cwS 3 hts gX5_nth_X5_in rfl rfl rfl (by decide +kernel) ⟨Nat.le_of_ble_eq_true rfl, Nat.le_of_ble_eq_true rfl⟩) ⟨fun a U g mk q => q, fun U hU hW => ⟨rfl, trivial⟩⟩ rfl rfl hl.1 rfl (lv_room (Nat.le_of_ble_eq_true rfl)) dX5_nth_5 ⟨Nat.zero_le _, Nat.zero_le _⟩)) (fun r1 (hr1 : r1 = zi (f_X5_in ya 1 9999)) => ?_)
  subst hr1
  have hf1 := b_X5_in ya 1 9999 (by omega) (by omega) (by omega)
  refine zw_if_eq (tgt := 52) hx hb dX5_nth_8 (by decide) ⟨by omega, by omega⟩ (fun h2 => ?_) (fun h2 => ?_)
  · skip
    refine zw_iconst hx hb dX5_nth_52 ?_
    refine lv_istore (lv' := [(6, .int (zi 0)), (0, .ref g0), (1, .int (zi sl)), (2, .int (zi ya)), (3, .int (zi mo)), (4, .int (zi wd)), (5, .int (zi nn))]) hx hb dX5_nth_53 hl (by decide) rfl (fun ls hl => ?_)
    refine lv_aload_n hx hb dX5_nth_55 rfl (lv_at hl 1 rfl) ?_
    refine lv_iload_n hx hb dX5_nth_56 rfl (lv_at hl 2 rfl) ?_
    have hh3 := c_X5_isSlot l sl (by omega)
    refine vp_callSi (va_Run.run (va_runS (As := [.int (zi sl)]) (rest := [.ref g0]) ⟨hx, hb, hml, hown, hts⟩ hh3 (va_cwS 1 hts gX5_nth_X5_isSlot rfl rfl rfl (by decide +kernel) ⟨Nat.le_of_ble_eq_true rfl, Nat.le_of_ble_eq_true rfl⟩) ⟨fun a U g mk q => q, fun U hU hW => ⟨rfl, trivial⟩⟩ rfl rfl hl.1 rfl (lv_room (Nat.le_of_ble_eq_true rfl)) dX5_nth_57 ⟨Nat.zero_le _, Nat.zero_le _⟩)) (fun r3 (hr3 : r3 = zi (f_X5_isSlot sl)) => ?_)
    subst hr3
    have hf3 := b_X5_isSlot sl (by omega)
    refine zw_if_ne (tgt := 67) hx hb dX5_nth_60 (by decide) ⟨by omega, by omega⟩ (fun h4 => ?_) (fun h4 => ?_)
    · skip
      refine lv_iload hx hb dX5_nth_67 (lv_at hl 0 rfl) ?_
      refine zw_if_eq (tgt := 84) hx hb dX5_nth_69 (by decide) ⟨by omega, by omega⟩ (fun h5 => ?_) (fun h5 => ?_)
      · skip
        refine zw_iconst hx hb dX5_nth_84 ?_
        refine lv_goto (tgt := 89) hx hb dX5_nth_85 (by decide) ?_
        refine va_put (D := (dC, dI)) (ci := 5) (v := .int (zi 2)) (ty := .int) (C := RX5) (T := TX5) (N := 12) hx hb hts (by decide +kernel) tyX5 tyX5_ok nmX5 hown hK hP hD hS 0 rfl rfl 0 (by decide) (hts (.fieldLink RX5 35 "CivilDaysModel" "code" "I") (by decide +kernel)) (fun _ h9 => h9) rfl (by decide +kernel) rfl rfl (Nat.le_of_ble_eq_true rfl) dX5_nth_89 (fun H locs hP hD hS => ?_)
        have hP : va_P (dC, dI) vwCl [(g0, .inr (5, [.int (zi 2), .ref ps, .int (zi ru), .ref pk, .ref pa, .ref pb, .ref pq, .int (zi we), .int (zi wr), .ref pw, .int (zi ty), .ref pt])), (ps, aI cI 10 sf)] H := hP
        have hD : va_D A [(g0, .inr (5, [.int (zi 2), .ref ps, .int (zi ru), .ref pk, .ref pa, .ref pb, .ref pq, .int (zi we), .int (zi wr), .ref pw, .int (zi ty), .ref pt])), (ps, aI cI 10 sf)] := hD
        refine lv_aload_n hx hb dX5_nth_92 rfl (lv_at hl 1 rfl) ?_
        refine va_get (D := (dC, dI)) (ci := 5) (v := .int (zi 2)) (C := RX5) (T := TX5) (N := 12) hx hb hts (by decide +kernel) hown hK hP 0 rfl rfl 0 (by decide) (hts (.fieldLink RX5 35 "CivilDaysModel" "code" "I") (by decide +kernel)) (fun _ h9 => h9) rfl dX5_nth_93 ?_
        refine zw_if_le (tgt := 103) hx hb dX5_nth_96 (by decide) ⟨by omega, by omega⟩ (fun h6 => ?_) (fun h6 => ?_)
        · skip
          exact absurd True.intro (by omega)
        · skip
          refine zw_iconst hx hb dX5_nth_99 ?_
          refine lv_goto (tgt := 117) hx hb dX5_nth_100 (by decide) ?_
          have hP9 := hP.sub (ws' := [(g0, .inr (5, [.int (zi 2), .ref ps, .int (zi ru), .ref pk, .ref pa, .ref pb, .ref pq, .int (zi we), .int (zi wr), .ref pw, .int (zi ty), .ref pt])), (ps, aI cI 10 sf)]) [0, 1] rfl
          have hD9 := hD.sub (ws' := [(g0, .inr (5, [.int (zi 2), .ref ps, .int (zi ru), .ref pk, .ref pa, .ref pb, .ref pq, .int (zi we), .int (zi wr), .ref pw, .int (zi ty), .ref pt])), (ps, aI cI 10 sf)]) [0, 1] (by decide) rfl
          exact W.iret (v := zi 0) hx hb hr (fun t ht hW => ⟨⟨zi 0, (), rfl, rfl, by rw [ht]; exact hP9, va_K.moved hW.alike hK, hD9⟩, hS.F ht⟩) hS.2.2 dX5_nth_117
      · skip
        exact absurd True.intro (by omega)
    · skip
      exact absurd True.intro (by omega)
  · skip
    refine lv_iload_n hx hb dX5_nth_11 rfl (lv_at hl 3 rfl) ?_
    refine zw_iconst hx hb dX5_nth_12 ?_
    refine zw_bipush hx hb dX5_nth_13 (by decide) ?_
    have hh7 := c_X5_in l mo 1 12 (by omega) (by omega) (by omega)
    refine vp_callSi (va_Run.run (va_runS (As := [.int (zi mo), .int (zi 1), .int (zi 12)]) (rest := []) ⟨hx, hb, hml, hown, hts⟩ hh7 (va_cwS 3 hts gX5_nth_X5_in rfl rfl rfl (by decide +kernel) ⟨Nat.le_of_ble_eq_true rfl, Nat.le_of_ble_eq_true rfl⟩) ⟨fun a U g mk q => q, fun U hU hW => ⟨rfl, trivial⟩⟩ rfl rfl hl.1 rfl (lv_room (Nat.le_of_ble_eq_true rfl)) dX5_nth_15 ⟨Nat.zero_le _, Nat.zero_le _⟩)) (fun r7 (hr7 : r7 = zi (f_X5_in mo 1 12)) => ?_)
    subst hr7
    have hf7 := b_X5_in mo 1 12 (by omega) (by omega) (by omega)
    refine zw_if_eq (tgt := 52) hx hb dX5_nth_18 (by decide) ⟨by omega, by omega⟩ (fun h8 => ?_) (fun h8 => ?_)
    · skip
      refine zw_iconst hx hb dX5_nth_52 ?_
      refine lv_istore (lv' := [(6, .int (zi 0)), (0, .ref g0), (1, .int (zi sl)), (2, .int (zi ya)), (3, .int (zi mo)), (4, .int (zi wd)), (5, .int (zi nn))]) hx hb dX5_nth_53 hl (by decide) rfl (fun ls hl => ?_)
      refine lv_aload_n hx hb dX5_nth_55 rfl (lv_at hl 1 rfl) ?_
      refine lv_iload_n hx hb dX5_nth_56 rfl (lv_at hl 2 rfl) ?_
      have hh9 := c_X5_isSlot l sl (by omega)
      refine vp_callSi (va_Run.run (va_runS (As := [.int (zi sl)]) (rest := [.ref g0]) ⟨hx, hb, hml, hown, hts⟩ hh9 (va_cwS 1 hts gX5_nth_X5_isSlot rfl rfl rfl (by decide +kernel) ⟨Nat.le_of_ble_eq_true rfl, Nat.le_of_ble_eq_true rfl⟩) ⟨fun a U g mk q => q, fun U hU hW => ⟨rfl, trivial⟩⟩ rfl rfl hl.1 rfl (lv_room (Nat.le_of_ble_eq_true rfl)) dX5_nth_57 ⟨Nat.zero_le _, Nat.zero_le _⟩)) (fun r9 (hr9 : r9 = zi (f_X5_isSlot sl)) => ?_)
      subst hr9
      have hf9 := b_X5_isSlot sl (by omega)
      refine zw_if_ne (tgt := 67) hx hb dX5_nth_60 (by decide) ⟨by omega, by omega⟩ (fun h10 => ?_) (fun h10 => ?_)
      · skip
        refine lv_iload hx hb dX5_nth_67 (lv_at hl 0 rfl) ?_
        refine zw_if_eq (tgt := 84) hx hb dX5_nth_69 (by decide) ⟨by omega, by omega⟩ (fun h11 => ?_) (fun h11 => ?_)
        · skip
          refine zw_iconst hx hb dX5_nth_84 ?_
          refine lv_goto (tgt := 89) hx hb dX5_nth_85 (by decide) ?_
          refine va_put (D := (dC, dI)) (ci := 5) (v := .int (zi 2)) (ty := .int) (C := RX5) (T := TX5) (N := 12) hx hb hts (by decide +kernel) tyX5 tyX5_ok nmX5 hown hK hP hD hS 0 rfl rfl 0 (by decide) (hts (.fieldLink RX5 35 "CivilDaysModel" "code" "I") (by decide +kernel)) (fun _ h9 => h9) rfl (by decide +kernel) rfl rfl (Nat.le_of_ble_eq_true rfl) dX5_nth_89 (fun H locs hP hD hS => ?_)
          have hP : va_P (dC, dI) vwCl [(g0, .inr (5, [.int (zi 2), .ref ps, .int (zi ru), .ref pk, .ref pa, .ref pb, .ref pq, .int (zi we), .int (zi wr), .ref pw, .int (zi ty), .ref pt])), (ps, aI cI 10 sf)] H := hP
          have hD : va_D A [(g0, .inr (5, [.int (zi 2), .ref ps, .int (zi ru), .ref pk, .ref pa, .ref pb, .ref pq, .int (zi we), .int (zi wr), .ref pw, .int (zi ty), .ref pt])), (ps, aI cI 10 sf)] := hD
          refine lv_aload_n hx hb dX5_nth_92 rfl (lv_at hl 1 rfl) ?_
          refine va_get (D := (dC, dI)) (ci := 5) (v := .int (zi 2)) (C := RX5) (T := TX5) (N := 12) hx hb hts (by decide +kernel) hown hK hP 0 rfl rfl 0 (by decide) (hts (.fieldLink RX5 35 "CivilDaysModel" "code" "I") (by decide +kernel)) (fun _ h9 => h9) rfl dX5_nth_93 ?_
          refine zw_if_le (tgt := 103) hx hb dX5_nth_96 (by decide) ⟨by omega, by omega⟩ (fun h12 => ?_) (fun h12 => ?_)
          · skip
            exact absurd True.intro (by omega)
          · skip
            refine zw_iconst hx hb dX5_nth_99 ?_
            refine lv_goto (tgt := 117) hx hb dX5_nth_100 (by decide) ?_
            have hP9 := hP.sub (ws' := [(g0, .inr (5, [.int (zi 2), .ref ps, .int (zi ru), .ref pk, .ref pa, .ref pb, .ref pq, .int (zi we), .int (zi wr), .ref pw, .int (zi ty), .ref pt])), (ps, aI cI 10 sf)]) [0, 1] rfl
            have hD9 := hD.sub (ws' := [(g0, .inr (5, [.int (zi 2), .ref ps, .int (zi ru), .ref pk, .ref pa, .ref pb, .ref pq, .int (zi we), .int (zi wr), .ref pw, .int (zi ty), .ref pt])), (ps, aI cI 10 sf)]) [0, 1] (by decide) rfl
            exact W.iret (v := zi 0) hx hb hr (fun t ht hW => ⟨⟨zi 0, (), rfl, rfl, by rw [ht]; exact hP9, va_K.moved hW.alike hK, hD9⟩, hS.F ht⟩) hS.2.2 dX5_nth_117
        · skip
          exact absurd True.intro (by omega)
      · skip
        exact absurd True.intro (by omega)
    · skip
      refine lv_iload hx hb dX5_nth_21 (lv_at hl 4 rfl) ?_
      refine zw_iconst hx hb dX5_nth_23 ?_
      refine zw_bipush hx hb dX5_nth_24 (by decide) ?_
      have hh13 := c_X5_in l wd 1 7 (by omega) (by omega) (by omega)
      refine vp_callSi (va_Run.run (va_runS (As := [.int (zi wd), .int (zi 1), .int (zi 7)]) (rest := []) ⟨hx, hb, hml, hown, hts⟩ hh13 (va_cwS 3 hts gX5_nth_X5_in rfl rfl rfl (by decide +kernel) ⟨Nat.le_of_ble_eq_true rfl, Nat.le_of_ble_eq_true rfl⟩) ⟨fun a U g mk q => q, fun U hU hW => ⟨rfl, trivial⟩⟩ rfl rfl hl.1 rfl (lv_room (Nat.le_of_ble_eq_true rfl)) dX5_nth_26 ⟨Nat.zero_le _, Nat.zero_le _⟩)) (fun r13 (hr13 : r13 = zi (f_X5_in wd 1 7)) => ?_)
      subst hr13
      have hf13 := b_X5_in wd 1 7 (by omega) (by omega) (by omega)
      refine zw_if_eq (tgt := 52) hx hb dX5_nth_29 (by decide) ⟨by omega, by omega⟩ (fun h14 => ?_) (fun h14 => ?_)
      · skip
        refine zw_iconst hx hb dX5_nth_52 ?_
        refine lv_istore (lv' := [(6, .int (zi 0)), (0, .ref g0), (1, .int (zi sl)), (2, .int (zi ya)), (3, .int (zi mo)), (4, .int (zi wd)), (5, .int (zi nn))]) hx hb dX5_nth_53 hl (by decide) rfl (fun ls hl => ?_)
        refine lv_aload_n hx hb dX5_nth_55 rfl (lv_at hl 1 rfl) ?_
        refine lv_iload_n hx hb dX5_nth_56 rfl (lv_at hl 2 rfl) ?_
        have hh15 := c_X5_isSlot l sl (by omega)
        refine vp_callSi (va_Run.run (va_runS (As := [.int (zi sl)]) (rest := [.ref g0]) ⟨hx, hb, hml, hown, hts⟩ hh15 (va_cwS 1 hts gX5_nth_X5_isSlot rfl rfl rfl (by decide +kernel) ⟨Nat.le_of_ble_eq_true rfl, Nat.le_of_ble_eq_true rfl⟩) ⟨fun a U g mk q => q, fun U hU hW => ⟨rfl, trivial⟩⟩ rfl rfl hl.1 rfl (lv_room (Nat.le_of_ble_eq_true rfl)) dX5_nth_57 ⟨Nat.zero_le _, Nat.zero_le _⟩)) (fun r15 (hr15 : r15 = zi (f_X5_isSlot sl)) => ?_)
        subst hr15
        have hf15 := b_X5_isSlot sl (by omega)
        refine zw_if_ne (tgt := 67) hx hb dX5_nth_60 (by decide) ⟨by omega, by omega⟩ (fun h16 => ?_) (fun h16 => ?_)
        · skip
          refine lv_iload hx hb dX5_nth_67 (lv_at hl 0 rfl) ?_
          refine zw_if_eq (tgt := 84) hx hb dX5_nth_69 (by decide) ⟨by omega, by omega⟩ (fun h17 => ?_) (fun h17 => ?_)
          · skip
            refine zw_iconst hx hb dX5_nth_84 ?_
            refine lv_goto (tgt := 89) hx hb dX5_nth_85 (by decide) ?_
            refine va_put (D := (dC, dI)) (ci := 5) (v := .int (zi 2)) (ty := .int) (C := RX5) (T := TX5) (N := 12) hx hb hts (by decide +kernel) tyX5 tyX5_ok nmX5 hown hK hP hD hS 0 rfl rfl 0 (by decide) (hts (.fieldLink RX5 35 "CivilDaysModel" "code" "I") (by decide +kernel)) (fun _ h9 => h9) rfl (by decide +kernel) rfl rfl (Nat.le_of_ble_eq_true rfl) dX5_nth_89 (fun H locs hP hD hS => ?_)
            have hP : va_P (dC, dI) vwCl [(g0, .inr (5, [.int (zi 2), .ref ps, .int (zi ru), .ref pk, .ref pa, .ref pb, .ref pq, .int (zi we), .int (zi wr), .ref pw, .int (zi ty), .ref pt])), (ps, aI cI 10 sf)] H := hP
            have hD : va_D A [(g0, .inr (5, [.int (zi 2), .ref ps, .int (zi ru), .ref pk, .ref pa, .ref pb, .ref pq, .int (zi we), .int (zi wr), .ref pw, .int (zi ty), .ref pt])), (ps, aI cI 10 sf)] := hD
            refine lv_aload_n hx hb dX5_nth_92 rfl (lv_at hl 1 rfl) ?_
            refine va_get (D := (dC, dI)) (ci := 5) (v := .int (zi 2)) (C := RX5) (T := TX5) (N := 12) hx hb hts (by decide +kernel) hown hK hP 0 rfl rfl 0 (by decide) (hts (.fieldLink RX5 35 "CivilDaysModel" "code" "I") (by decide +kernel)) (fun _ h9 => h9) rfl dX5_nth_93 ?_
            refine zw_if_le (tgt := 103) hx hb dX5_nth_96 (by decide) ⟨by omega, by omega⟩ (fun h18 => ?_) (fun h18 => ?_)
            · skip
              exact absurd True.intro (by omega)
            · skip
              refine zw_iconst hx hb dX5_nth_99 ?_
              refine lv_goto (tgt := 117) hx hb dX5_nth_100 (by decide) ?_
              have hP9 := hP.sub (ws' := [(g0, .inr (5, [.int (zi 2), .ref ps, .int (zi ru), .ref pk, .ref pa, .ref pb, .ref pq, .int (zi we), .int (zi wr), .ref pw, .int (zi ty), .ref pt])), (ps, aI cI 10 sf)]) [0, 1] rfl
              have hD9 := hD.sub (ws' := [(g0, .inr (5, [.int (zi 2), .ref ps, .int (zi ru), .ref pk, .ref pa, .ref pb, .ref pq, .int (zi we), .int (zi wr), .ref pw, .int (zi ty), .ref pt])), (ps, aI cI 10 sf)]) [0, 1] (by decide) rfl
              exact W.iret (v := zi 0) hx hb hr (fun t ht hW => ⟨⟨zi 0, (), rfl, rfl, by rw [ht]; exact hP9, va_K.moved hW.alike hK, hD9⟩, hS.F ht⟩) hS.2.2 dX5_nth_117
          · skip
            exact absurd True.intro (by omega)
        · skip
          exact absurd True.intro (by omega)
      · skip
        refine lv_iload hx hb dX5_nth_32 (lv_at hl 5 rfl) ?_
        refine zw_bipush hx hb dX5_nth_34 (by decide) ?_
        refine zw_iconst hx hb dX5_nth_36 ?_
        have hh19 := c_X5_in l nn (-5) 5 (by omega) (by omega) (by omega)
        refine vp_callSi (va_Run.run (va_runS (As := [.int (zi nn), .int (zi (-5)), .int (zi 5)]) (rest := []) ⟨hx, hb, hml, hown, hts⟩ hh19 (va_cwS 3 hts gX5_nth_X5_in rfl rfl rfl (by decide +kernel) ⟨Nat.le_of_ble_eq_true rfl, Nat.le_of_ble_eq_true rfl⟩) ⟨fun a U g mk q => q, fun U hU hW => ⟨rfl, trivial⟩⟩ rfl rfl hl.1 rfl (lv_room (Nat.le_of_ble_eq_true rfl)) dX5_nth_37 ⟨Nat.zero_le _, Nat.zero_le _⟩)) (fun r19 (hr19 : r19 = zi (f_X5_in nn (-5) 5)) => ?_)
        subst hr19
        have hf19 := b_X5_in nn (-5) 5 (by omega) (by omega) (by omega)
        refine zw_if_eq (tgt := 52) hx hb dX5_nth_40 (by decide) ⟨by omega, by omega⟩ (fun h20 => ?_) (fun h20 => ?_)
        · skip
          refine zw_iconst hx hb dX5_nth_52 ?_
          refine lv_istore (lv' := [(6, .int (zi 0)), (0, .ref g0), (1, .int (zi sl)), (2, .int (zi ya)), (3, .int (zi mo)), (4, .int (zi wd)), (5, .int (zi nn))]) hx hb dX5_nth_53 hl (by decide) rfl (fun ls hl => ?_)
          refine lv_aload_n hx hb dX5_nth_55 rfl (lv_at hl 1 rfl) ?_
          refine lv_iload_n hx hb dX5_nth_56 rfl (lv_at hl 2 rfl) ?_
          have hh21 := c_X5_isSlot l sl (by omega)
          refine vp_callSi (va_Run.run (va_runS (As := [.int (zi sl)]) (rest := [.ref g0]) ⟨hx, hb, hml, hown, hts⟩ hh21 (va_cwS 1 hts gX5_nth_X5_isSlot rfl rfl rfl (by decide +kernel) ⟨Nat.le_of_ble_eq_true rfl, Nat.le_of_ble_eq_true rfl⟩) ⟨fun a U g mk q => q, fun U hU hW => ⟨rfl, trivial⟩⟩ rfl rfl hl.1 rfl (lv_room (Nat.le_of_ble_eq_true rfl)) dX5_nth_57 ⟨Nat.zero_le _, Nat.zero_le _⟩)) (fun r21 (hr21 : r21 = zi (f_X5_isSlot sl)) => ?_)
          subst hr21
          have hf21 := b_X5_isSlot sl (by omega)
          refine zw_if_ne (tgt := 67) hx hb dX5_nth_60 (by decide) ⟨by omega, by omega⟩ (fun h22 => ?_) (fun h22 => ?_)
          · skip
            refine lv_iload hx hb dX5_nth_67 (lv_at hl 0 rfl) ?_
            refine zw_if_eq (tgt := 84) hx hb dX5_nth_69 (by decide) ⟨by omega, by omega⟩ (fun h23 => ?_) (fun h23 => ?_)
            · skip
              refine zw_iconst hx hb dX5_nth_84 ?_
              refine lv_goto (tgt := 89) hx hb dX5_nth_85 (by decide) ?_
              refine va_put (D := (dC, dI)) (ci := 5) (v := .int (zi 2)) (ty := .int) (C := RX5) (T := TX5) (N := 12) hx hb hts (by decide +kernel) tyX5 tyX5_ok nmX5 hown hK hP hD hS 0 rfl rfl 0 (by decide) (hts (.fieldLink RX5 35 "CivilDaysModel" "code" "I") (by decide +kernel)) (fun _ h9 => h9) rfl (by decide +kernel) rfl rfl (Nat.le_of_ble_eq_true rfl) dX5_nth_89 (fun H locs hP hD hS => ?_)
              have hP : va_P (dC, dI) vwCl [(g0, .inr (5, [.int (zi 2), .ref ps, .int (zi ru), .ref pk, .ref pa, .ref pb, .ref pq, .int (zi we), .int (zi wr), .ref pw, .int (zi ty), .ref pt])), (ps, aI cI 10 sf)] H := hP
              have hD : va_D A [(g0, .inr (5, [.int (zi 2), .ref ps, .int (zi ru), .ref pk, .ref pa, .ref pb, .ref pq, .int (zi we), .int (zi wr), .ref pw, .int (zi ty), .ref pt])), (ps, aI cI 10 sf)] := hD
              refine lv_aload_n hx hb dX5_nth_92 rfl (lv_at hl 1 rfl) ?_
              refine va_get (D := (dC, dI)) (ci := 5) (v := .int (zi 2)) (C := RX5) (T := TX5) (N := 12) hx hb hts (by decide +kernel) hown hK hP 0 rfl rfl 0 (by decide) (hts (.fieldLink RX5 35 "CivilDaysModel" "code" "I") (by decide +kernel)) (fun _ h9 => h9) rfl dX5_nth_93 ?_
              refine zw_if_le (tgt := 103) hx hb dX5_nth_96 (by decide) ⟨by omega, by omega⟩ (fun h24 => ?_) (fun h24 => ?_)
              · skip
                exact absurd True.intro (by omega)
              · skip
                refine zw_iconst hx hb dX5_nth_99 ?_
                refine lv_goto (tgt := 117) hx hb dX5_nth_100 (by decide) ?_
                have hP9 := hP.sub (ws' := [(g0, .inr (5, [.int (zi 2), .ref ps, .int (zi ru), .ref pk, .ref pa, .ref pb, .ref pq, .int (zi we), .int (zi wr), .ref pw, .int (zi ty), .ref pt])), (ps, aI cI 10 sf)]) [0, 1] rfl
                have hD9 := hD.sub (ws' := [(g0, .inr (5, [.int (zi 2), .ref ps, .int (zi ru), .ref pk, .ref pa, .ref pb, .ref pq, .int (zi we), .int (zi wr), .ref pw, .int (zi ty), .ref pt])), (ps, aI cI 10 sf)]) [0, 1] (by decide) rfl
                exact W.iret (v := zi 0) hx hb hr (fun t ht hW => ⟨⟨zi 0, (), rfl, rfl, by rw [ht]; exact hP9, va_K.moved hW.alike hK, hD9⟩, hS.F ht⟩) hS.2.2 dX5_nth_117
            · skip
              exact absurd True.intro (by omega)
          · skip
            exact absurd True.intro (by omega)
        · skip
          refine lv_iload hx hb dX5_nth_43 (lv_at hl 5 rfl) ?_
          refine zw_if_eq (tgt := 52) hx hb dX5_nth_45 (by decide) ⟨by omega, by omega⟩ (fun h25 => ?_) (fun h25 => ?_)
          · skip
            refine zw_iconst hx hb dX5_nth_52 ?_
            refine lv_istore (lv' := [(6, .int (zi 0)), (0, .ref g0), (1, .int (zi sl)), (2, .int (zi ya)), (3, .int (zi mo)), (4, .int (zi wd)), (5, .int (zi nn))]) hx hb dX5_nth_53 hl (by decide) rfl (fun ls hl => ?_)
            refine lv_aload_n hx hb dX5_nth_55 rfl (lv_at hl 1 rfl) ?_
            refine lv_iload_n hx hb dX5_nth_56 rfl (lv_at hl 2 rfl) ?_
            have hh26 := c_X5_isSlot l sl (by omega)
            refine vp_callSi (va_Run.run (va_runS (As := [.int (zi sl)]) (rest := [.ref g0]) ⟨hx, hb, hml, hown, hts⟩ hh26 (va_cwS 1 hts gX5_nth_X5_isSlot rfl rfl rfl (by decide +kernel) ⟨Nat.le_of_ble_eq_true rfl, Nat.le_of_ble_eq_true rfl⟩) ⟨fun a U g mk q => q, fun U hU hW => ⟨rfl, trivial⟩⟩ rfl rfl hl.1 rfl (lv_room (Nat.le_of_ble_eq_true rfl)) dX5_nth_57 ⟨Nat.zero_le _, Nat.zero_le _⟩)) (fun r26 (hr26 : r26 = zi (f_X5_isSlot sl)) => ?_)
            subst hr26
            have hf26 := b_X5_isSlot sl (by omega)
            refine zw_if_ne (tgt := 67) hx hb dX5_nth_60 (by decide) ⟨by omega, by omega⟩ (fun h27 => ?_) (fun h27 => ?_)
            · skip
              refine lv_iload hx hb dX5_nth_67 (lv_at hl 0 rfl) ?_
              refine zw_if_eq (tgt := 84) hx hb dX5_nth_69 (by decide) ⟨by omega, by omega⟩ (fun h28 => ?_) (fun h28 => ?_)
              · skip
                refine zw_iconst hx hb dX5_nth_84 ?_
                refine lv_goto (tgt := 89) hx hb dX5_nth_85 (by decide) ?_
                refine va_put (D := (dC, dI)) (ci := 5) (v := .int (zi 2)) (ty := .int) (C := RX5) (T := TX5) (N := 12) hx hb hts (by decide +kernel) tyX5 tyX5_ok nmX5 hown hK hP hD hS 0 rfl rfl 0 (by decide) (hts (.fieldLink RX5 35 "CivilDaysModel" "code" "I") (by decide +kernel)) (fun _ h9 => h9) rfl (by decide +kernel) rfl rfl (Nat.le_of_ble_eq_true rfl) dX5_nth_89 (fun H locs hP hD hS => ?_)
                have hP : va_P (dC, dI) vwCl [(g0, .inr (5, [.int (zi 2), .ref ps, .int (zi ru), .ref pk, .ref pa, .ref pb, .ref pq, .int (zi we), .int (zi wr), .ref pw, .int (zi ty), .ref pt])), (ps, aI cI 10 sf)] H := hP
                have hD : va_D A [(g0, .inr (5, [.int (zi 2), .ref ps, .int (zi ru), .ref pk, .ref pa, .ref pb, .ref pq, .int (zi we), .int (zi wr), .ref pw, .int (zi ty), .ref pt])), (ps, aI cI 10 sf)] := hD
                refine lv_aload_n hx hb dX5_nth_92 rfl (lv_at hl 1 rfl) ?_
                refine va_get (D := (dC, dI)) (ci := 5) (v := .int (zi 2)) (C := RX5) (T := TX5) (N := 12) hx hb hts (by decide +kernel) hown hK hP 0 rfl rfl 0 (by decide) (hts (.fieldLink RX5 35 "CivilDaysModel" "code" "I") (by decide +kernel)) (fun _ h9 => h9) rfl dX5_nth_93 ?_
                refine zw_if_le (tgt := 103) hx hb dX5_nth_96 (by decide) ⟨by omega, by omega⟩ (fun h29 => ?_) (fun h29 => ?_)
                · skip
                  exact absurd True.intro (by omega)
                · skip
                  refine zw_iconst hx hb dX5_nth_99 ?_
                  refine lv_goto (tgt := 117) hx hb dX5_nth_100 (by decide) ?_
                  have hP9 := hP.sub (ws' := [(g0, .inr (5, [.int (zi 2), .ref ps, .int (zi ru), .ref pk, .ref pa, .ref pb, .ref pq, .int (zi we), .int (zi wr), .ref pw, .int (zi ty), .ref pt])), (ps, aI cI 10 sf)]) [0, 1] rfl
                  have hD9 := hD.sub (ws' := [(g0, .inr (5, [.int (zi 2), .ref ps, .int (zi ru), .ref pk, .ref pa, .ref pb, .ref pq, .int (zi we), .int (zi wr), .ref pw, .int (zi ty), .ref pt])), (ps, aI cI 10 sf)]) [0, 1] (by decide) rfl
                  exact W.iret (v := zi 0) hx hb hr (fun t ht hW => ⟨⟨zi 0, (), rfl, rfl, by rw [ht]; exact hP9, va_K.moved hW.alike hK, hD9⟩, hS.F ht⟩) hS.2.2 dX5_nth_117
              · skip
                exact absurd True.intro (by omega)
            · skip
              exact absurd True.intro (by omega)
          · skip
            refine zw_iconst hx hb dX5_nth_48 ?_
            refine lv_goto (tgt := 53) hx hb dX5_nth_49 (by decide) ?_
            refine lv_istore (lv' := [(6, .int (zi 1)), (0, .ref g0), (1, .int (zi sl)), (2, .int (zi ya)), (3, .int (zi mo)), (4, .int (zi wd)), (5, .int (zi nn))]) hx hb dX5_nth_53 hl (by decide) rfl (fun ls hl => ?_)
            refine lv_aload_n hx hb dX5_nth_55 rfl (lv_at hl 1 rfl) ?_
            refine lv_iload_n hx hb dX5_nth_56 rfl (lv_at hl 2 rfl) ?_
            have hh30 := c_X5_isSlot l sl (by omega)
            refine vp_callSi (va_Run.run (va_runS (As := [.int (zi sl)]) (rest := [.ref g0]) ⟨hx, hb, hml, hown, hts⟩ hh30 (va_cwS 1 hts gX5_nth_X5_isSlot rfl rfl rfl (by decide +kernel) ⟨Nat.le_of_ble_eq_true rfl, Nat.le_of_ble_eq_true rfl⟩) ⟨fun a U g mk q => q, fun U hU hW => ⟨rfl, trivial⟩⟩ rfl rfl hl.1 rfl (lv_room (Nat.le_of_ble_eq_true rfl)) dX5_nth_57 ⟨Nat.zero_le _, Nat.zero_le _⟩)) (fun r30 (hr30 : r30 = zi (f_X5_isSlot sl)) => ?_)
            subst hr30
            have hf30 := b_X5_isSlot sl (by omega)
            refine zw_if_ne (tgt := 67) hx hb dX5_nth_60 (by decide) ⟨by omega, by omega⟩ (fun h31 => ?_) (fun h31 => ?_)
            · skip
              refine lv_iload hx hb dX5_nth_67 (lv_at hl 0 rfl) ?_
              refine zw_if_eq (tgt := 84) hx hb dX5_nth_69 (by decide) ⟨by omega, by omega⟩ (fun h32 => ?_) (fun h32 => ?_)
              · skip
                exact absurd True.intro (by omega)
              · skip
                exact absurd True.intro (by omega)
            · skip
              exact absurd True.intro (by omega)

set_option maxHeartbeats 4000000 in
set_option maxRecDepth 100000 in
theorem c_X5_nth_2b (l : Launch)  (dC : Nat → ClassId) (dI : Nat → Nat → Nat) (cI : ClassId) (g0 ps pk pa pb pq pw pt : Nat) (co ru we wr ty : Int) (sf : Nat → Int) (sl ya mo wd nn : Int) (sz : Nat) (hp0 : 0 ≤ sl ∧ sl ≤ 9) (hp1 : 1 ≤ ya ∧ ya ≤ 9999 ∧ 1 ≤ mo ∧ mo ≤ 12 ∧ 1 ≤ wd ∧ wd ≤ 7 ∧ -5 ≤ nn ∧ nn ≤ 5 ∧ nn ≠ 0) (hp2 : f_X5_nthOf ya mo wd nn = -1) : Met l yX5_nth wsX5_nth ({ frames := 4, cells := 0, slots := 0, locals := 92 }) (zPw (dC, dI) [(cI, .int)] sz [.ref g0, .int (zi sl), .int (zi ya), .int (zi mo), .int (zi wd), .int (zi nn)] [(g0, .inr (5, [.int (zi co), .ref ps, .int (zi ru), .ref pk, .ref pa, .ref pb, .ref pq, .int (zi we), .int (zi wr), .ref pw, .int (zi ty), .ref pt])), (ps, aI cI 10 sf)]) (va_Qi (fun (r : Int32) (_ : Unit) => r = zi 0) (zB (dC, dI) [(cI, .int)] (va_A [(g0, .inr (5, [.int (zi co), .ref ps, .int (zi ru), .ref pk, .ref pa, .ref pb, .ref pq, .int (zi we), .int (zi wr), .ref pw, .int (zi ty), .ref pt])), (ps, aI cI 10 sf)] sz) [(g0, .inr (5, [.int (zi 2), .ref ps, .int (zi ru), .ref pk, .ref pa, .ref pb, .ref pq, .int (zi we), .int (zi wr), .ref pw, .int (zi ty), .ref pt])), (ps, aI cI 10 sf)]) (va_A [(g0, .inr (5, [.int (zi co), .ref ps, .int (zi ru), .ref pk, .ref pa, .ref pb, .ref pq, .int (zi we), .int (zi wr), .ref pw, .int (zi ty), .ref pt])), (ps, aI cI 10 sf)] sz)) 0 0 (va_A [(g0, .inr (5, [.int (zi co), .ref ps, .int (zi ru), .ref pk, .ref pa, .ref pb, .ref pq, .int (zi we), .int (zi wr), .ref pw, .int (zi ty), .ref pt])), (ps, aI cI 10 sf)] sz) := by
  refine Met.ofW (cc := cX5_nth) (maxL := 7) (ret := (some .int)) (by decide) rfl ?_
  intro p e s m args below meth c s₁ B hml hv
  obtain ⟨rfl, hsz, hP, hK, hD0⟩ := hv
  have hx := B.exec
  have hb := B.bytes
  have hr := B.returns
  have hts := atoms_spec (ws := wsX5_nth) B.pre
  have hown : s.vm.findClass RX5 = some m.cls := findClass_of_methodNamed B.named
  have hlocks := B.notSynchronized
  subst hsz
  have hD := hD0.self (sz := s.heap.size)
  generalize hAe : va_A [(g0, .inr (5, [.int (zi co), .ref ps, .int (zi ru), .ref pk, .ref pa, .ref pb, .ref pq, .int (zi we), .int (zi wr), .ref pw, .int (zi ty), .ref pt])), (ps, aI cI 10 sf)] s.heap.size = A at hD ⊢
  have hA : ∀ q : Nat, s.heap.size ≤ q → A q := fun q h => by rw [← hAe]; exact Or.inr h
  have hS : va_S A s.heap s.heap [] := va_S.rf
  have hP : va_P (dC, dI) vwCl [(g0, .inr (5, [.int (zi co), .ref ps, .int (zi ru), .ref pk, .ref pa, .ref pb, .ref pq, .int (zi we), .int (zi wr), .ref pw, .int (zi ty), .ref pt])), (ps, aI cI 10 sf)] s.heap := hP
  have hl := lv_entry ([.ref g0, .int (zi sl), .int (zi ya), .int (zi mo), .int (zi wd), .int (zi nn)]) (n := 7) (Nat.le_of_ble_eq_true rfl)
  rw [lg_entry_eq]
  generalize (lg_sl ([.ref g0, .int (zi sl), .int (zi ya), .int (zi mo), .int (zi wd), .int (zi nn)]) ++ List.replicate (7 - (lg_sl ([.ref g0, .int (zi sl), .int (zi ya), .int (zi mo), .int (zi wd), .int (zi nn)])).length) Slot.unset).toArray = ls at hl ⊢
  have hl : lv_has ls 7 [(0, .ref g0), (1, .int (zi sl)), (2, .int (zi ya)), (3, .int (zi mo)), (4, .int (zi wd)), (5, .int (zi nn))] := hl
  refine lv_iload_n hx hb dX5_nth_0 rfl (lv_at hl 2 rfl) ?_
  refine zw_iconst hx hb dX5_nth_1 ?_
  refine zw_sipush hx hb dX5_nth_2 (by decide) ?_
  have hh1 := c_X5_in l ya 1 9999 (by omega) (by omega) (by omega)
  refine vp_callSi (va_Run.run (va_runS (As := [.int (zi ya), .int (zi 1), .int (zi 9999)]) (rest := []) ⟨hx, hb, hml, hown, hts⟩ hh1 (va_cwS 3 hts gX5_nth_X5_in rfl rfl rfl (by decide +kernel) ⟨Nat.le_of_ble_eq_true rfl, Nat.le_of_ble_eq_true rfl⟩) ⟨fun a U g mk q => q, fun U hU hW => ⟨rfl, trivial⟩⟩ rfl rfl hl.1 rfl (lv_room (Nat.le_of_ble_eq_true rfl)) dX5_nth_5 ⟨Nat.zero_le _, Nat.zero_le _⟩)) (fun r1 (hr1 : r1 = zi (f_X5_in ya 1 9999)) => ?_)
  subst hr1
  have hf1 := b_X5_in ya 1 9999 (by omega) (by omega) (by omega)
  refine zw_if_eq (tgt := 52) hx hb dX5_nth_8 (by decide) ⟨by omega, by omega⟩ (fun h2 => ?_) (fun h2 => ?_)
  · skip
    exact absurd True.intro (by omega)
  · skip
    refine lv_iload_n hx hb dX5_nth_11 rfl (lv_at hl 3 rfl) ?_
    refine zw_iconst hx hb dX5_nth_12 ?_
    refine zw_bipush hx hb dX5_nth_13 (by decide) ?_
    have hh3 := c_X5_in l mo 1 12 (by omega) (by omega) (by omega)
    refine vp_callSi (va_Run.run (va_runS (As := [.int (zi mo), .int (zi 1), .int (zi 12)]) (rest := []) ⟨hx, hb, hml, hown, hts⟩ hh3 (va_cwS 3 hts gX5_nth_X5_in rfl rfl rfl (by decide +kernel) ⟨Nat.le_of_ble_eq_true rfl, Nat.le_of_ble_eq_true rfl⟩) ⟨fun a U g mk q => q, fun U hU hW => ⟨rfl, trivial⟩⟩ rfl rfl hl.1 rfl (lv_room (Nat.le_of_ble_eq_true rfl)) dX5_nth_15 ⟨Nat.zero_le _, Nat.zero_le _⟩)) (fun r3 (hr3 : r3 = zi (f_X5_in mo 1 12)) => ?_)
    subst hr3
    have hf3 := b_X5_in mo 1 12 (by omega) (by omega) (by omega)
    refine zw_if_eq (tgt := 52) hx hb dX5_nth_18 (by decide) ⟨by omega, by omega⟩ (fun h4 => ?_) (fun h4 => ?_)
    · skip
      exact absurd True.intro (by omega)
    · skip
      refine lv_iload hx hb dX5_nth_21 (lv_at hl 4 rfl) ?_
      refine zw_iconst hx hb dX5_nth_23 ?_
      refine zw_bipush hx hb dX5_nth_24 (by decide) ?_
      have hh5 := c_X5_in l wd 1 7 (by omega) (by omega) (by omega)
      refine vp_callSi (va_Run.run (va_runS (As := [.int (zi wd), .int (zi 1), .int (zi 7)]) (rest := []) ⟨hx, hb, hml, hown, hts⟩ hh5 (va_cwS 3 hts gX5_nth_X5_in rfl rfl rfl (by decide +kernel) ⟨Nat.le_of_ble_eq_true rfl, Nat.le_of_ble_eq_true rfl⟩) ⟨fun a U g mk q => q, fun U hU hW => ⟨rfl, trivial⟩⟩ rfl rfl hl.1 rfl (lv_room (Nat.le_of_ble_eq_true rfl)) dX5_nth_26 ⟨Nat.zero_le _, Nat.zero_le _⟩)) (fun r5 (hr5 : r5 = zi (f_X5_in wd 1 7)) => ?_)
      subst hr5
      have hf5 := b_X5_in wd 1 7 (by omega) (by omega) (by omega)
      refine zw_if_eq (tgt := 52) hx hb dX5_nth_29 (by decide) ⟨by omega, by omega⟩ (fun h6 => ?_) (fun h6 => ?_)
      · skip
        exact absurd True.intro (by omega)
      · skip
        refine lv_iload hx hb dX5_nth_32 (lv_at hl 5 rfl) ?_
        refine zw_bipush hx hb dX5_nth_34 (by decide) ?_
        refine zw_iconst hx hb dX5_nth_36 ?_
        have hh7 := c_X5_in l nn (-5) 5 (by omega) (by omega) (by omega)
        refine vp_callSi (va_Run.run (va_runS (As := [.int (zi nn), .int (zi (-5)), .int (zi 5)]) (rest := []) ⟨hx, hb, hml, hown, hts⟩ hh7 (va_cwS 3 hts gX5_nth_X5_in rfl rfl rfl (by decide +kernel) ⟨Nat.le_of_ble_eq_true rfl, Nat.le_of_ble_eq_true rfl⟩) ⟨fun a U g mk q => q, fun U hU hW => ⟨rfl, trivial⟩⟩ rfl rfl hl.1 rfl (lv_room (Nat.le_of_ble_eq_true rfl)) dX5_nth_37 ⟨Nat.zero_le _, Nat.zero_le _⟩)) (fun r7 (hr7 : r7 = zi (f_X5_in nn (-5) 5)) => ?_)
        subst hr7
        have hf7 := b_X5_in nn (-5) 5 (by omega) (by omega) (by omega)
        refine zw_if_eq (tgt := 52) hx hb dX5_nth_40 (by decide) ⟨by omega, by omega⟩ (fun h8 => ?_) (fun h8 => ?_)
        · skip
          exact absurd True.intro (by omega)
        · skip
          refine lv_iload hx hb dX5_nth_43 (lv_at hl 5 rfl) ?_
          refine zw_if_eq (tgt := 52) hx hb dX5_nth_45 (by decide) ⟨by omega, by omega⟩ (fun h9 => ?_) (fun h9 => ?_)
          · skip
            exact absurd True.intro (by omega)
          · skip
            refine zw_iconst hx hb dX5_nth_48 ?_
            refine lv_goto (tgt := 53) hx hb dX5_nth_49 (by decide) ?_
            refine lv_istore (lv' := [(6, .int (zi 1)), (0, .ref g0), (1, .int (zi sl)), (2, .int (zi ya)), (3, .int (zi mo)), (4, .int (zi wd)), (5, .int (zi nn))]) hx hb dX5_nth_53 hl (by decide) rfl (fun ls hl => ?_)
            refine lv_aload_n hx hb dX5_nth_55 rfl (lv_at hl 1 rfl) ?_
            refine lv_iload_n hx hb dX5_nth_56 rfl (lv_at hl 2 rfl) ?_
            have hh10 := c_X5_isSlot l sl (by omega)
            refine vp_callSi (va_Run.run (va_runS (As := [.int (zi sl)]) (rest := [.ref g0]) ⟨hx, hb, hml, hown, hts⟩ hh10 (va_cwS 1 hts gX5_nth_X5_isSlot rfl rfl rfl (by decide +kernel) ⟨Nat.le_of_ble_eq_true rfl, Nat.le_of_ble_eq_true rfl⟩) ⟨fun a U g mk q => q, fun U hU hW => ⟨rfl, trivial⟩⟩ rfl rfl hl.1 rfl (lv_room (Nat.le_of_ble_eq_true rfl)) dX5_nth_57 ⟨Nat.zero_le _, Nat.zero_le _⟩)) (fun r10 (hr10 : r10 = zi (f_X5_isSlot sl)) => ?_)
            subst hr10
            have hf10 := b_X5_isSlot sl (by omega)
            refine zw_if_ne (tgt := 67) hx hb dX5_nth_60 (by decide) ⟨by omega, by omega⟩ (fun h11 => ?_) (fun h11 => ?_)
            · skip
              refine lv_iload hx hb dX5_nth_67 (lv_at hl 0 rfl) ?_
              refine zw_if_eq (tgt := 84) hx hb dX5_nth_69 (by decide) ⟨by omega, by omega⟩ (fun h12 => ?_) (fun h12 => ?_)
              · skip
                exact absurd True.intro (by omega)
              · skip
                refine lv_iload_n hx hb dX5_nth_72 rfl (lv_at hl 3 rfl) ?_
                refine lv_iload_n hx hb dX5_nth_73 rfl (lv_at hl 4 rfl) ?_
                refine lv_iload hx hb dX5_nth_74 (lv_at hl 5 rfl) ?_
                refine lv_iload hx hb dX5_nth_76 (lv_at hl 6 rfl) ?_
                have hh13 := c_X5_nthOf l ya mo wd nn (by omega) (by omega) (by omega) (by omega)
                refine vp_callSi (va_Run.run (va_runS (As := [.int (zi ya), .int (zi mo), .int (zi wd), .int (zi nn)]) (rest := [.ref g0]) ⟨hx, hb, hml, hown, hts⟩ hh13 (va_cwS 4 hts gX5_nth_X5_nthOf rfl rfl rfl (by decide +kernel) ⟨Nat.le_of_ble_eq_true rfl, Nat.le_of_ble_eq_true rfl⟩) ⟨fun a U g mk q => q, fun U hU hW => ⟨rfl, trivial⟩⟩ rfl rfl hl.1 rfl (lv_room (Nat.le_of_ble_eq_true rfl)) dX5_nth_78 ⟨Nat.zero_le _, Nat.zero_le _⟩)) (fun r13 (hr13 : r13 = zi (f_X5_nthOf ya mo wd nn)) => ?_)
                subst hr13
                have hf13 := b_X5_nthOf ya mo wd nn (by omega) (by omega) (by omega) (by omega)
                refine zw_if_ge (tgt := 88) hx hb dX5_nth_81 (by decide) ⟨by omega, by omega⟩ (fun h14 => ?_) (fun h14 => ?_)
                · skip
                  exact absurd True.intro (by omega)
                · skip
                  refine zw_iconst hx hb dX5_nth_84 ?_
                  refine lv_goto (tgt := 89) hx hb dX5_nth_85 (by decide) ?_
                  refine va_put (D := (dC, dI)) (ci := 5) (v := .int (zi 2)) (ty := .int) (C := RX5) (T := TX5) (N := 12) hx hb hts (by decide +kernel) tyX5 tyX5_ok nmX5 hown hK hP hD hS 0 rfl rfl 0 (by decide) (hts (.fieldLink RX5 35 "CivilDaysModel" "code" "I") (by decide +kernel)) (fun _ h9 => h9) rfl (by decide +kernel) rfl rfl (Nat.le_of_ble_eq_true rfl) dX5_nth_89 (fun H locs hP hD hS => ?_)
                  have hP : va_P (dC, dI) vwCl [(g0, .inr (5, [.int (zi 2), .ref ps, .int (zi ru), .ref pk, .ref pa, .ref pb, .ref pq, .int (zi we), .int (zi wr), .ref pw, .int (zi ty), .ref pt])), (ps, aI cI 10 sf)] H := hP
                  have hD : va_D A [(g0, .inr (5, [.int (zi 2), .ref ps, .int (zi ru), .ref pk, .ref pa, .ref pb, .ref pq, .int (zi we), .int (zi wr), .ref pw, .int (zi ty), .ref pt])), (ps, aI cI 10 sf)] := hD
                  refine lv_aload_n hx hb dX5_nth_92 rfl (lv_at hl 1 rfl) ?_
                  refine va_get (D := (dC, dI)) (ci := 5) (v := .int (zi 2)) (C := RX5) (T := TX5) (N := 12) hx hb hts (by decide +kernel) hown hK hP 0 rfl rfl 0 (by decide) (hts (.fieldLink RX5 35 "CivilDaysModel" "code" "I") (by decide +kernel)) (fun _ h9 => h9) rfl dX5_nth_93 ?_
                  refine zw_if_le (tgt := 103) hx hb dX5_nth_96 (by decide) ⟨by omega, by omega⟩ (fun h15 => ?_) (fun h15 => ?_)
                  · skip
                    exact absurd True.intro (by omega)
                  · skip
                    refine zw_iconst hx hb dX5_nth_99 ?_
                    refine lv_goto (tgt := 117) hx hb dX5_nth_100 (by decide) ?_
                    have hP9 := hP.sub (ws' := [(g0, .inr (5, [.int (zi 2), .ref ps, .int (zi ru), .ref pk, .ref pa, .ref pb, .ref pq, .int (zi we), .int (zi wr), .ref pw, .int (zi ty), .ref pt])), (ps, aI cI 10 sf)]) [0, 1] rfl
                    have hD9 := hD.sub (ws' := [(g0, .inr (5, [.int (zi 2), .ref ps, .int (zi ru), .ref pk, .ref pa, .ref pb, .ref pq, .int (zi we), .int (zi wr), .ref pw, .int (zi ty), .ref pt])), (ps, aI cI 10 sf)]) [0, 1] (by decide) rfl
                    exact W.iret (v := zi 0) hx hb hr (fun t ht hW => ⟨⟨zi 0, (), rfl, rfl, by rw [ht]; exact hP9, va_K.moved hW.alike hK, hD9⟩, hS.F ht⟩) hS.2.2 dX5_nth_117
            · skip
              exact absurd True.intro (by omega)

set_option maxHeartbeats 4000000 in
set_option maxRecDepth 100000 in
theorem c_X5_nth (l : Launch)  (dC : Nat → ClassId) (dI : Nat → Nat → Nat) (cI : ClassId) (g0 ps pk pa pb pq pw pt : Nat) (co ru we wr ty : Int) (sf : Nat → Int) (sl ya mo wd nn : Int) (sz : Nat) (hp0 : 0 ≤ sl ∧ sl ≤ 9) (hp1 : 1 ≤ ya ∧ ya ≤ 9999 ∧ 1 ≤ mo ∧ mo ≤ 12 ∧ 1 ≤ wd ∧ wd ≤ 7 ∧ -5 ≤ nn ∧ nn ≤ 5 ∧ nn ≠ 0) (hp2 : f_X5_nthOf ya mo wd nn ≠ -1) : Met l yX5_nth wsX5_nth ({ frames := 4, cells := 0, slots := 0, locals := 92 }) (zPw (dC, dI) [(cI, .int)] sz [.ref g0, .int (zi sl), .int (zi ya), .int (zi mo), .int (zi wd), .int (zi nn)] [(g0, .inr (5, [.int (zi co), .ref ps, .int (zi ru), .ref pk, .ref pa, .ref pb, .ref pq, .int (zi we), .int (zi wr), .ref pw, .int (zi ty), .ref pt])), (ps, aI cI 10 sf)]) (va_Qi (fun (r : Int32) (_ : Unit) => r = zi (f_X5_nthOf ya mo wd nn)) (zB (dC, dI) [(cI, .int)] (va_A [(g0, .inr (5, [.int (zi co), .ref ps, .int (zi ru), .ref pk, .ref pa, .ref pb, .ref pq, .int (zi we), .int (zi wr), .ref pw, .int (zi ty), .ref pt])), (ps, aI cI 10 sf)] sz) [(g0, .inr (5, [.int (zi 0), .ref ps, .int (zi ru), .ref pk, .ref pa, .ref pb, .ref pq, .int (zi we), .int (zi wr), .ref pw, .int (zi ty), .ref pt])), (ps, aI cI 10 (zup sf sl.toNat (f_X5_nthOf ya mo wd nn)))]) (va_A [(g0, .inr (5, [.int (zi co), .ref ps, .int (zi ru), .ref pk, .ref pa, .ref pb, .ref pq, .int (zi we), .int (zi wr), .ref pw, .int (zi ty), .ref pt])), (ps, aI cI 10 sf)] sz)) 0 0 (va_A [(g0, .inr (5, [.int (zi co), .ref ps, .int (zi ru), .ref pk, .ref pa, .ref pb, .ref pq, .int (zi we), .int (zi wr), .ref pw, .int (zi ty), .ref pt])), (ps, aI cI 10 sf)] sz) := by
  refine Met.ofW (cc := cX5_nth) (maxL := 7) (ret := (some .int)) (by decide) rfl ?_
  intro p e s m args below meth c s₁ B hml hv
  obtain ⟨rfl, hsz, hP, hK, hD0⟩ := hv
  have hx := B.exec
  have hb := B.bytes
  have hr := B.returns
  have hts := atoms_spec (ws := wsX5_nth) B.pre
  have hown : s.vm.findClass RX5 = some m.cls := findClass_of_methodNamed B.named
  have hlocks := B.notSynchronized
  subst hsz
  have hD := hD0.self (sz := s.heap.size)
  generalize hAe : va_A [(g0, .inr (5, [.int (zi co), .ref ps, .int (zi ru), .ref pk, .ref pa, .ref pb, .ref pq, .int (zi we), .int (zi wr), .ref pw, .int (zi ty), .ref pt])), (ps, aI cI 10 sf)] s.heap.size = A at hD ⊢
  have hA : ∀ q : Nat, s.heap.size ≤ q → A q := fun q h => by rw [← hAe]; exact Or.inr h
  have hS : va_S A s.heap s.heap [] := va_S.rf
  have hP : va_P (dC, dI) vwCl [(g0, .inr (5, [.int (zi co), .ref ps, .int (zi ru), .ref pk, .ref pa, .ref pb, .ref pq, .int (zi we), .int (zi wr), .ref pw, .int (zi ty), .ref pt])), (ps, aI cI 10 sf)] s.heap := hP
  have hl := lv_entry ([.ref g0, .int (zi sl), .int (zi ya), .int (zi mo), .int (zi wd), .int (zi nn)]) (n := 7) (Nat.le_of_ble_eq_true rfl)
  rw [lg_entry_eq]
  generalize (lg_sl ([.ref g0, .int (zi sl), .int (zi ya), .int (zi mo), .int (zi wd), .int (zi nn)]) ++ List.replicate (7 - (lg_sl ([.ref g0, .int (zi sl), .int (zi ya), .int (zi mo), .int (zi wd), .int (zi nn)])).length) Slot.unset).toArray = ls at hl ⊢
  have hl : lv_has ls 7 [(0, .ref g0), (1, .int (zi sl)), (2, .int (zi ya)), (3, .int (zi mo)), (4, .int (zi wd)), (5, .int (zi nn))] := hl
  refine lv_iload_n hx hb dX5_nth_0 rfl (lv_at hl 2 rfl) ?_
  refine zw_iconst hx hb dX5_nth_1 ?_
  refine zw_sipush hx hb dX5_nth_2 (by decide) ?_
  have hh1 := c_X5_in l ya 1 9999 (by omega) (by omega) (by omega)
  refine vp_callSi (va_Run.run (va_runS (As := [.int (zi ya), .int (zi 1), .int (zi 9999)]) (rest := []) ⟨hx, hb, hml, hown, hts⟩ hh1 (va_cwS 3 hts gX5_nth_X5_in rfl rfl rfl (by decide +kernel) ⟨Nat.le_of_ble_eq_true rfl, Nat.le_of_ble_eq_true rfl⟩) ⟨fun a U g mk q => q, fun U hU hW => ⟨rfl, trivial⟩⟩ rfl rfl hl.1 rfl (lv_room (Nat.le_of_ble_eq_true rfl)) dX5_nth_5 ⟨Nat.zero_le _, Nat.zero_le _⟩)) (fun r1 (hr1 : r1 = zi (f_X5_in ya 1 9999)) => ?_)
  subst hr1
  have hf1 := b_X5_in ya 1 9999 (by omega) (by omega) (by omega)
  refine zw_if_eq (tgt := 52) hx hb dX5_nth_8 (by decide) ⟨by omega, by omega⟩ (fun h2 => ?_) (fun h2 => ?_)
  · skip
    exact absurd True.intro (by omega)
  · skip
    refine lv_iload_n hx hb dX5_nth_11 rfl (lv_at hl 3 rfl) ?_
    refine zw_iconst hx hb dX5_nth_12 ?_
    refine zw_bipush hx hb dX5_nth_13 (by decide) ?_
    have hh3 := c_X5_in l mo 1 12 (by omega) (by omega) (by omega)
    refine vp_callSi (va_Run.run (va_runS (As := [.int (zi mo), .int (zi 1), .int (zi 12)]) (rest := []) ⟨hx, hb, hml, hown, hts⟩ hh3 (va_cwS 3 hts gX5_nth_X5_in rfl rfl rfl (by decide +kernel) ⟨Nat.le_of_ble_eq_true rfl, Nat.le_of_ble_eq_true rfl⟩) ⟨fun a U g mk q => q, fun U hU hW => ⟨rfl, trivial⟩⟩ rfl rfl hl.1 rfl (lv_room (Nat.le_of_ble_eq_true rfl)) dX5_nth_15 ⟨Nat.zero_le _, Nat.zero_le _⟩)) (fun r3 (hr3 : r3 = zi (f_X5_in mo 1 12)) => ?_)
    subst hr3
    have hf3 := b_X5_in mo 1 12 (by omega) (by omega) (by omega)
    refine zw_if_eq (tgt := 52) hx hb dX5_nth_18 (by decide) ⟨by omega, by omega⟩ (fun h4 => ?_) (fun h4 => ?_)
    · skip
      exact absurd True.intro (by omega)
    · skip
      refine lv_iload hx hb dX5_nth_21 (lv_at hl 4 rfl) ?_
      refine zw_iconst hx hb dX5_nth_23 ?_
      refine zw_bipush hx hb dX5_nth_24 (by decide) ?_
      have hh5 := c_X5_in l wd 1 7 (by omega) (by omega) (by omega)
      refine vp_callSi (va_Run.run (va_runS (As := [.int (zi wd), .int (zi 1), .int (zi 7)]) (rest := []) ⟨hx, hb, hml, hown, hts⟩ hh5 (va_cwS 3 hts gX5_nth_X5_in rfl rfl rfl (by decide +kernel) ⟨Nat.le_of_ble_eq_true rfl, Nat.le_of_ble_eq_true rfl⟩) ⟨fun a U g mk q => q, fun U hU hW => ⟨rfl, trivial⟩⟩ rfl rfl hl.1 rfl (lv_room (Nat.le_of_ble_eq_true rfl)) dX5_nth_26 ⟨Nat.zero_le _, Nat.zero_le _⟩)) (fun r5 (hr5 : r5 = zi (f_X5_in wd 1 7)) => ?_)
      subst hr5
      have hf5 := b_X5_in wd 1 7 (by omega) (by omega) (by omega)
      refine zw_if_eq (tgt := 52) hx hb dX5_nth_29 (by decide) ⟨by omega, by omega⟩ (fun h6 => ?_) (fun h6 => ?_)
      · skip
        exact absurd True.intro (by omega)
      · skip
        refine lv_iload hx hb dX5_nth_32 (lv_at hl 5 rfl) ?_
        refine zw_bipush hx hb dX5_nth_34 (by decide) ?_
        refine zw_iconst hx hb dX5_nth_36 ?_
        have hh7 := c_X5_in l nn (-5) 5 (by omega) (by omega) (by omega)
        refine vp_callSi (va_Run.run (va_runS (As := [.int (zi nn), .int (zi (-5)), .int (zi 5)]) (rest := []) ⟨hx, hb, hml, hown, hts⟩ hh7 (va_cwS 3 hts gX5_nth_X5_in rfl rfl rfl (by decide +kernel) ⟨Nat.le_of_ble_eq_true rfl, Nat.le_of_ble_eq_true rfl⟩) ⟨fun a U g mk q => q, fun U hU hW => ⟨rfl, trivial⟩⟩ rfl rfl hl.1 rfl (lv_room (Nat.le_of_ble_eq_true rfl)) dX5_nth_37 ⟨Nat.zero_le _, Nat.zero_le _⟩)) (fun r7 (hr7 : r7 = zi (f_X5_in nn (-5) 5)) => ?_)
        subst hr7
        have hf7 := b_X5_in nn (-5) 5 (by omega) (by omega) (by omega)
        refine zw_if_eq (tgt := 52) hx hb dX5_nth_40 (by decide) ⟨by omega, by omega⟩ (fun h8 => ?_) (fun h8 => ?_)
        · skip
          exact absurd True.intro (by omega)
        · skip
          refine lv_iload hx hb dX5_nth_43 (lv_at hl 5 rfl) ?_
          refine zw_if_eq (tgt := 52) hx hb dX5_nth_45 (by decide) ⟨by omega, by omega⟩ (fun h9 => ?_) (fun h9 => ?_)
          · skip
            exact absurd True.intro (by omega)
          · skip
            refine zw_iconst hx hb dX5_nth_48 ?_
            refine lv_goto (tgt := 53) hx hb dX5_nth_49 (by decide) ?_
            refine lv_istore (lv' := [(6, .int (zi 1)), (0, .ref g0), (1, .int (zi sl)), (2, .int (zi ya)), (3, .int (zi mo)), (4, .int (zi wd)), (5, .int (zi nn))]) hx hb dX5_nth_53 hl (by decide) rfl (fun ls hl => ?_)
            refine lv_aload_n hx hb dX5_nth_55 rfl (lv_at hl 1 rfl) ?_
            refine lv_iload_n hx hb dX5_nth_56 rfl (lv_at hl 2 rfl) ?_
            have hh10 := c_X5_isSlot l sl (by omega)
            refine vp_callSi (va_Run.run (va_runS (As := [.int (zi sl)]) (rest := [.ref g0]) ⟨hx, hb, hml, hown, hts⟩ hh10 (va_cwS 1 hts gX5_nth_X5_isSlot rfl rfl rfl (by decide +kernel) ⟨Nat.le_of_ble_eq_true rfl, Nat.le_of_ble_eq_true rfl⟩) ⟨fun a U g mk q => q, fun U hU hW => ⟨rfl, trivial⟩⟩ rfl rfl hl.1 rfl (lv_room (Nat.le_of_ble_eq_true rfl)) dX5_nth_57 ⟨Nat.zero_le _, Nat.zero_le _⟩)) (fun r10 (hr10 : r10 = zi (f_X5_isSlot sl)) => ?_)
            subst hr10
            have hf10 := b_X5_isSlot sl (by omega)
            refine zw_if_ne (tgt := 67) hx hb dX5_nth_60 (by decide) ⟨by omega, by omega⟩ (fun h11 => ?_) (fun h11 => ?_)
            · skip
              refine lv_iload hx hb dX5_nth_67 (lv_at hl 0 rfl) ?_
              refine zw_if_eq (tgt := 84) hx hb dX5_nth_69 (by decide) ⟨by omega, by omega⟩ (fun h12 => ?_) (fun h12 => ?_)
              · skip
                exact absurd True.intro (by omega)
              · skip
                refine lv_iload_n hx hb dX5_nth_72 rfl (lv_at hl 3 rfl) ?_
                refine lv_iload_n hx hb dX5_nth_73 rfl (lv_at hl 4 rfl) ?_
                refine lv_iload hx hb dX5_nth_74 (lv_at hl 5 rfl) ?_
                refine lv_iload hx hb dX5_nth_76 (lv_at hl 6 rfl) ?_
                have hh13 := c_X5_nthOf l ya mo wd nn (by omega) (by omega) (by omega) (by omega)
                refine vp_callSi (va_Run.run (va_runS (As := [.int (zi ya), .int (zi mo), .int (zi wd), .int (zi nn)]) (rest := [.ref g0]) ⟨hx, hb, hml, hown, hts⟩ hh13 (va_cwS 4 hts gX5_nth_X5_nthOf rfl rfl rfl (by decide +kernel) ⟨Nat.le_of_ble_eq_true rfl, Nat.le_of_ble_eq_true rfl⟩) ⟨fun a U g mk q => q, fun U hU hW => ⟨rfl, trivial⟩⟩ rfl rfl hl.1 rfl (lv_room (Nat.le_of_ble_eq_true rfl)) dX5_nth_78 ⟨Nat.zero_le _, Nat.zero_le _⟩)) (fun r13 (hr13 : r13 = zi (f_X5_nthOf ya mo wd nn)) => ?_)
                subst hr13
                have hf13 := b_X5_nthOf ya mo wd nn (by omega) (by omega) (by omega) (by omega)
                refine zw_if_ge (tgt := 88) hx hb dX5_nth_81 (by decide) ⟨by omega, by omega⟩ (fun h14 => ?_) (fun h14 => ?_)
                · skip
                  refine zw_iconst hx hb dX5_nth_88 ?_
                  refine va_put (D := (dC, dI)) (ci := 5) (v := .int (zi 0)) (ty := .int) (C := RX5) (T := TX5) (N := 12) hx hb hts (by decide +kernel) tyX5 tyX5_ok nmX5 hown hK hP hD hS 0 rfl rfl 0 (by decide) (hts (.fieldLink RX5 35 "CivilDaysModel" "code" "I") (by decide +kernel)) (fun _ h9 => h9) rfl (by decide +kernel) rfl rfl (Nat.le_of_ble_eq_true rfl) dX5_nth_89 (fun H locs hP hD hS => ?_)
                  have hP : va_P (dC, dI) vwCl [(g0, .inr (5, [.int (zi 0), .ref ps, .int (zi ru), .ref pk, .ref pa, .ref pb, .ref pq, .int (zi we), .int (zi wr), .ref pw, .int (zi ty), .ref pt])), (ps, aI cI 10 sf)] H := hP
                  have hD : va_D A [(g0, .inr (5, [.int (zi 0), .ref ps, .int (zi ru), .ref pk, .ref pa, .ref pb, .ref pq, .int (zi we), .int (zi wr), .ref pw, .int (zi ty), .ref pt])), (ps, aI cI 10 sf)] := hD
                  refine lv_aload_n hx hb dX5_nth_92 rfl (lv_at hl 1 rfl) ?_
                  refine va_get (D := (dC, dI)) (ci := 5) (v := .int (zi 0)) (C := RX5) (T := TX5) (N := 12) hx hb hts (by decide +kernel) hown hK hP 0 rfl rfl 0 (by decide) (hts (.fieldLink RX5 35 "CivilDaysModel" "code" "I") (by decide +kernel)) (fun _ h9 => h9) rfl dX5_nth_93 ?_
                  refine zw_if_le (tgt := 103) hx hb dX5_nth_96 (by decide) ⟨by omega, by omega⟩ (fun h15 => ?_) (fun h15 => ?_)
                  · skip
                    refine lv_aload_n hx hb dX5_nth_103 rfl (lv_at hl 1 rfl) ?_
                    refine lv_iload_n hx hb dX5_nth_104 rfl (lv_at hl 2 rfl) ?_
                    refine lv_iload_n hx hb dX5_nth_105 rfl (lv_at hl 3 rfl) ?_
                    refine lv_iload_n hx hb dX5_nth_106 rfl (lv_at hl 4 rfl) ?_
                    refine lv_iload hx hb dX5_nth_107 (lv_at hl 5 rfl) ?_
                    refine lv_iload hx hb dX5_nth_109 (lv_at hl 6 rfl) ?_
                    have hh16 := c_X5_nthOf l ya mo wd nn (by omega) (by omega) (by omega) (by omega)
                    refine vp_callSi (va_Run.run (va_runS (As := [.int (zi ya), .int (zi mo), .int (zi wd), .int (zi nn)]) (rest := [.int (zi sl), .ref g0]) ⟨hx, hb, hml, hown, hts⟩ hh16 (va_cwS 4 hts gX5_nth_X5_nthOf rfl rfl rfl (by decide +kernel) ⟨Nat.le_of_ble_eq_true rfl, Nat.le_of_ble_eq_true rfl⟩) ⟨fun a U g mk q => q, fun U hU hW => ⟨rfl, trivial⟩⟩ rfl rfl hl.1 rfl (lv_room (Nat.le_of_ble_eq_true rfl)) dX5_nth_111 ⟨Nat.zero_le _, Nat.zero_le _⟩)) (fun r16 (hr16 : r16 = zi (f_X5_nthOf ya mo wd nn)) => ?_)
                    subst hr16
                    have hf16 := b_X5_nthOf ya mo wd nn (by omega) (by omega) (by omega) (by omega)
                    have hh17 := c_X5_lay l dC dI cI g0 ps pk pa pb pq pw pt 0 ru we wr ty sf sl (f_X5_nthOf ya mo wd nn) H.size (by omega) (by omega)
                    have hPc := hP.sub (ws' := [(g0, .inr (5, [.int (zi 0), .ref ps, .int (zi ru), .ref pk, .ref pa, .ref pb, .ref pq, .int (zi we), .int (zi wr), .ref pw, .int (zi ty), .ref pt])), (ps, aI cI 10 sf)]) [0, 1] rfl
                    have hKc : va_K (dC, dI) vwCl [(cI, .int)] s := hK
                    have hDc := hD.sub (ws' := [(g0, .inr (5, [.int (zi 0), .ref ps, .int (zi ru), .ref pk, .ref pa, .ref pb, .ref pq, .int (zi we), .int (zi wr), .ref pw, .int (zi ty), .ref pt])), (ps, aI cI 10 sf)]) [0, 1] (by decide) rfl
                    have hFc := va_free (wc := [(g0, .inr (5, [.int (zi 0), .ref ps, .int (zi ru), .ref pk, .ref pa, .ref pb, .ref pq, .int (zi we), .int (zi wr), .ref pw, .int (zi ty), .ref pt])), (ps, aI cI 10 sf)]) hD hS hA [0, 1] rfl
                    refine va_calli (va_runV (As := [.int (zi sl), .int (zi (f_X5_nthOf ya mo wd nn))]) (rest := []) ⟨hx, hb, hml, hown, hts⟩ hh17 (cwV 2 hts gX5_nth_X5_lay rfl rfl rfl (by decide +kernel) ⟨Nat.le_of_ble_eq_true rfl, Nat.le_of_ble_eq_true rfl⟩) ⟨zPw.blind _ _ _ _ _, va_recv hKc hPc (ci := 5) (q0 := 0) rfl rfl, fun U hU hW => ⟨rfl, by rw [hU], by rw [hU]; exact hPc, va_K.moved hW.alike hKc, hDc.weaken (fun _ _ _ _ => trivial)⟩⟩ rfl rfl hl.1 rfl (lv_room (Nat.le_of_ble_eq_true rfl)) dX5_nth_114 ⟨Nat.le_of_ble_eq_true rfl, Nat.le_of_ble_eq_true rfl⟩) hS (fun q _ h => hFc q h) hFc (fun r17 u t H1 locs ht hvm hw hB hz1 hk1 hS => ?_)
                    obtain ⟨hP1, hK1, hD1⟩ := hB
                    rw [ht] at hP1
                    obtain ⟨hP, hD⟩ := va_join (wr := []) (w1 := [(g0, .inr (5, [.int (zi 0), .ref ps, .int (zi ru), .ref pk, .ref pa, .ref pb, .ref pq, .int (zi we), .int (zi wr), .ref pw, .int (zi ty), .ref pt])), (ps, aI cI 10 (zup sf sl.toNat (f_X5_nthOf ya mo wd nn)))]) hP hD [0, 1] [] rfl rfl (by decide) (by decide) hk1 hFc hP1 hD1
                    generalize H1 = H at hP hS ⊢
                    obtain rfl : r17 = zi (f_X5_nthOf ya mo wd nn) := hw
                    have hP : va_P (dC, dI) vwCl [(g0, .inr (5, [.int (zi 0), .ref ps, .int (zi ru), .ref pk, .ref pa, .ref pb, .ref pq, .int (zi we), .int (zi wr), .ref pw, .int (zi ty), .ref pt])), (ps, aI cI 10 (zup sf sl.toNat (f_X5_nthOf ya mo wd nn)))] H := hP
                    have hD : va_D A [(g0, .inr (5, [.int (zi 0), .ref ps, .int (zi ru), .ref pk, .ref pa, .ref pb, .ref pq, .int (zi we), .int (zi wr), .ref pw, .int (zi ty), .ref pt])), (ps, aI cI 10 (zup sf sl.toNat (f_X5_nthOf ya mo wd nn)))] := hD
                    have hP9 := hP.sub (ws' := [(g0, .inr (5, [.int (zi 0), .ref ps, .int (zi ru), .ref pk, .ref pa, .ref pb, .ref pq, .int (zi we), .int (zi wr), .ref pw, .int (zi ty), .ref pt])), (ps, aI cI 10 (zup sf sl.toNat (f_X5_nthOf ya mo wd nn)))]) [0, 1] rfl
                    have hD9 := hD.sub (ws' := [(g0, .inr (5, [.int (zi 0), .ref ps, .int (zi ru), .ref pk, .ref pa, .ref pb, .ref pq, .int (zi we), .int (zi wr), .ref pw, .int (zi ty), .ref pt])), (ps, aI cI 10 (zup sf sl.toNat (f_X5_nthOf ya mo wd nn)))]) [0, 1] (by decide) rfl
                    exact W.iret (v := zi (f_X5_nthOf ya mo wd nn)) hx hb hr (fun t ht hW => ⟨⟨zi (f_X5_nthOf ya mo wd nn), (), rfl, rfl, by rw [ht]; exact hP9, va_K.moved hW.alike hK, hD9⟩, hS.F ht⟩) hS.2.2 dX5_nth_117
                  · skip
                    exact absurd True.intro (by omega)
                · skip
                  exact absurd True.intro (by omega)
            · skip
              exact absurd True.intro (by omega)

set_option maxHeartbeats 4000000 in
set_option maxRecDepth 100000 in
theorem c_X5_told_1 (l : Launch)  (dC : Nat → ClassId) (dI : Nat → Nat → Nat) (cI : ClassId) (g0 ps pk pa pb pq pw pt : Nat) (co ru we wr ty : Int) (sf : Nat → Int) (sl wh : Int) (sz : Nat) (hp0 : -2147483648 ≤ sl ∧ sl ≤ 2147483647) (hp1 : sl < 0 ∨ 9 < sl) (hp2 : -2147483648 ≤ wh ∧ wh ≤ 2147483647) : Met l yX5_told wsX5_told ({ frames := 2, cells := 0, slots := 0, locals := 42 }) (zPw (dC, dI) [(cI, .int)] sz [.ref g0, .int (zi sl), .int (zi wh)] [(g0, .inr (5, [.int (zi co), .ref ps, .int (zi ru), .ref pk, .ref pa, .ref pb, .ref pq, .int (zi we), .int (zi wr), .ref pw, .int (zi ty), .ref pt])), (ps, aI cI 10 sf)]) (va_Qi (fun (r : Int32) (_ : Unit) => r = zi 0) (zB (dC, dI) [(cI, .int)] (va_A [(g0, .inr (5, [.int (zi co), .ref ps, .int (zi ru), .ref pk, .ref pa, .ref pb, .ref pq, .int (zi we), .int (zi wr), .ref pw, .int (zi ty), .ref pt])), (ps, aI cI 10 sf)] sz) [(g0, .inr (5, [.int (zi 1), .ref ps, .int (zi ru), .ref pk, .ref pa, .ref pb, .ref pq, .int (zi we), .int (zi wr), .ref pw, .int (zi ty), .ref pt])), (ps, aI cI 10 sf)]) (va_A [(g0, .inr (5, [.int (zi co), .ref ps, .int (zi ru), .ref pk, .ref pa, .ref pb, .ref pq, .int (zi we), .int (zi wr), .ref pw, .int (zi ty), .ref pt])), (ps, aI cI 10 sf)] sz)) 0 0 (va_A [(g0, .inr (5, [.int (zi co), .ref ps, .int (zi ru), .ref pk, .ref pa, .ref pb, .ref pq, .int (zi we), .int (zi wr), .ref pw, .int (zi ty), .ref pt])), (ps, aI cI 10 sf)] sz) := by
  refine Met.ofW (cc := cX5_told) (maxL := 3) (ret := (some .int)) (by decide) rfl ?_
  intro p e s m args below meth c s₁ B hml hv
  obtain ⟨rfl, hsz, hP, hK, hD0⟩ := hv
  have hx := B.exec
  have hb := B.bytes
  have hr := B.returns
  have hts := atoms_spec (ws := wsX5_told) B.pre
  have hown : s.vm.findClass RX5 = some m.cls := findClass_of_methodNamed B.named
  have hlocks := B.notSynchronized
  subst hsz
  have hD := hD0.self (sz := s.heap.size)
  generalize hAe : va_A [(g0, .inr (5, [.int (zi co), .ref ps, .int (zi ru), .ref pk, .ref pa, .ref pb, .ref pq, .int (zi we), .int (zi wr), .ref pw, .int (zi ty), .ref pt])), (ps, aI cI 10 sf)] s.heap.size = A at hD ⊢
  have hA : ∀ q : Nat, s.heap.size ≤ q → A q := fun q h => by rw [← hAe]; exact Or.inr h
  have hS : va_S A s.heap s.heap [] := va_S.rf
  have hP : va_P (dC, dI) vwCl [(g0, .inr (5, [.int (zi co), .ref ps, .int (zi ru), .ref pk, .ref pa, .ref pb, .ref pq, .int (zi we), .int (zi wr), .ref pw, .int (zi ty), .ref pt])), (ps, aI cI 10 sf)] s.heap := hP
  have hl := lv_entry ([.ref g0, .int (zi sl), .int (zi wh)]) (n := 3) (Nat.le_of_ble_eq_true rfl)
  rw [lg_entry_eq]
  generalize (lg_sl ([.ref g0, .int (zi sl), .int (zi wh)]) ++ List.replicate (3 - (lg_sl ([.ref g0, .int (zi sl), .int (zi wh)])).length) Slot.unset).toArray = ls at hl ⊢
  have hl : lv_has ls 3 [(0, .ref g0), (1, .int (zi sl)), (2, .int (zi wh))] := hl
  refine lv_aload_n hx hb dX5_told_0 rfl (lv_at hl 0 rfl) ?_
  refine lv_iload_n hx hb dX5_told_1 rfl (lv_at hl 1 rfl) ?_
  have hh1 := c_X5_isSlot l sl (by omega)
  refine vp_callSi (va_Run.run (va_runS (As := [.int (zi sl)]) (rest := [.ref g0]) ⟨hx, hb, hml, hown, hts⟩ hh1 (va_cwS 1 hts gX5_told_X5_isSlot rfl rfl rfl (by decide +kernel) ⟨Nat.le_of_ble_eq_true rfl, Nat.le_of_ble_eq_true rfl⟩) ⟨fun a U g mk q => q, fun U hU hW => ⟨rfl, trivial⟩⟩ rfl rfl hl.1 rfl (lv_room (Nat.le_of_ble_eq_true rfl)) dX5_told_2 ⟨Nat.zero_le _, Nat.zero_le _⟩)) (fun r1 (hr1 : r1 = zi (f_X5_isSlot sl)) => ?_)
  subst hr1
  have hf1 := b_X5_isSlot sl (by omega)
  refine zw_if_ne (tgt := 12) hx hb dX5_told_5 (by decide) ⟨by omega, by omega⟩ (fun h2 => ?_) (fun h2 => ?_)
  · skip
    exact absurd True.intro (by omega)
  · skip
    refine zw_iconst hx hb dX5_told_8 ?_
    refine lv_goto (tgt := 40) hx hb dX5_told_9 (by decide) ?_
    refine va_put (D := (dC, dI)) (ci := 5) (v := .int (zi 1)) (ty := .int) (C := RX5) (T := TX5) (N := 12) hx hb hts (by decide +kernel) tyX5 tyX5_ok nmX5 hown hK hP hD hS 0 rfl rfl 0 (by decide) (hts (.fieldLink RX5 35 "CivilDaysModel" "code" "I") (by decide +kernel)) (fun _ h9 => h9) rfl (by decide +kernel) rfl rfl (Nat.le_of_ble_eq_true rfl) dX5_told_40 (fun H locs hP hD hS => ?_)
    have hP : va_P (dC, dI) vwCl [(g0, .inr (5, [.int (zi 1), .ref ps, .int (zi ru), .ref pk, .ref pa, .ref pb, .ref pq, .int (zi we), .int (zi wr), .ref pw, .int (zi ty), .ref pt])), (ps, aI cI 10 sf)] H := hP
    have hD : va_D A [(g0, .inr (5, [.int (zi 1), .ref ps, .int (zi ru), .ref pk, .ref pa, .ref pb, .ref pq, .int (zi we), .int (zi wr), .ref pw, .int (zi ty), .ref pt])), (ps, aI cI 10 sf)] := hD
    refine lv_aload_n hx hb dX5_told_43 rfl (lv_at hl 0 rfl) ?_
    refine va_get (D := (dC, dI)) (ci := 5) (v := .int (zi 1)) (C := RX5) (T := TX5) (N := 12) hx hb hts (by decide +kernel) hown hK hP 0 rfl rfl 0 (by decide) (hts (.fieldLink RX5 35 "CivilDaysModel" "code" "I") (by decide +kernel)) (fun _ h9 => h9) rfl dX5_told_44 ?_
    refine zw_if_le (tgt := 54) hx hb dX5_told_47 (by decide) ⟨by omega, by omega⟩ (fun h3 => ?_) (fun h3 => ?_)
    · skip
      exact absurd True.intro (by omega)
    · skip
      refine zw_iconst hx hb dX5_told_50 ?_
      refine lv_goto (tgt := 64) hx hb dX5_told_51 (by decide) ?_
      have hP9 := hP.sub (ws' := [(g0, .inr (5, [.int (zi 1), .ref ps, .int (zi ru), .ref pk, .ref pa, .ref pb, .ref pq, .int (zi we), .int (zi wr), .ref pw, .int (zi ty), .ref pt])), (ps, aI cI 10 sf)]) [0, 1] rfl
      have hD9 := hD.sub (ws' := [(g0, .inr (5, [.int (zi 1), .ref ps, .int (zi ru), .ref pk, .ref pa, .ref pb, .ref pq, .int (zi we), .int (zi wr), .ref pw, .int (zi ty), .ref pt])), (ps, aI cI 10 sf)]) [0, 1] (by decide) rfl
      exact W.iret (v := zi 0) hx hb hr (fun t ht hW => ⟨⟨zi 0, (), rfl, rfl, by rw [ht]; exact hP9, va_K.moved hW.alike hK, hD9⟩, hS.F ht⟩) hS.2.2 dX5_told_64

set_option maxHeartbeats 4000000 in
set_option maxRecDepth 100000 in
theorem c_X5_told_2 (l : Launch)  (dC : Nat → ClassId) (dI : Nat → Nat → Nat) (cI : ClassId) (g0 ps pk pa pb pq pw pt : Nat) (co ru we wr ty : Int) (sf : Nat → Int) (sl wh : Int) (sz : Nat) (hp0 : 0 ≤ sl ∧ sl ≤ 9) (hp1 : -2147483648 ≤ wh ∧ wh ≤ 2147483647) (hp2 : wh < 0 ∨ 10 < wh) : Met l yX5_told wsX5_told ({ frames := 2, cells := 0, slots := 0, locals := 42 }) (zPw (dC, dI) [(cI, .int)] sz [.ref g0, .int (zi sl), .int (zi wh)] [(g0, .inr (5, [.int (zi co), .ref ps, .int (zi ru), .ref pk, .ref pa, .ref pb, .ref pq, .int (zi we), .int (zi wr), .ref pw, .int (zi ty), .ref pt])), (ps, aI cI 10 sf)]) (va_Qi (fun (r : Int32) (_ : Unit) => r = zi 0) (zB (dC, dI) [(cI, .int)] (va_A [(g0, .inr (5, [.int (zi co), .ref ps, .int (zi ru), .ref pk, .ref pa, .ref pb, .ref pq, .int (zi we), .int (zi wr), .ref pw, .int (zi ty), .ref pt])), (ps, aI cI 10 sf)] sz) [(g0, .inr (5, [.int (zi 2), .ref ps, .int (zi ru), .ref pk, .ref pa, .ref pb, .ref pq, .int (zi we), .int (zi wr), .ref pw, .int (zi ty), .ref pt])), (ps, aI cI 10 sf)]) (va_A [(g0, .inr (5, [.int (zi co), .ref ps, .int (zi ru), .ref pk, .ref pa, .ref pb, .ref pq, .int (zi we), .int (zi wr), .ref pw, .int (zi ty), .ref pt])), (ps, aI cI 10 sf)] sz)) 0 0 (va_A [(g0, .inr (5, [.int (zi co), .ref ps, .int (zi ru), .ref pk, .ref pa, .ref pb, .ref pq, .int (zi we), .int (zi wr), .ref pw, .int (zi ty), .ref pt])), (ps, aI cI 10 sf)] sz) := by
  refine Met.ofW (cc := cX5_told) (maxL := 3) (ret := (some .int)) (by decide) rfl ?_
  intro p e s m args below meth c s₁ B hml hv
  obtain ⟨rfl, hsz, hP, hK, hD0⟩ := hv
  have hx := B.exec
  have hb := B.bytes
  have hr := B.returns
  have hts := atoms_spec (ws := wsX5_told) B.pre
  have hown : s.vm.findClass RX5 = some m.cls := findClass_of_methodNamed B.named
  have hlocks := B.notSynchronized
  subst hsz
  have hD := hD0.self (sz := s.heap.size)
  generalize hAe : va_A [(g0, .inr (5, [.int (zi co), .ref ps, .int (zi ru), .ref pk, .ref pa, .ref pb, .ref pq, .int (zi we), .int (zi wr), .ref pw, .int (zi ty), .ref pt])), (ps, aI cI 10 sf)] s.heap.size = A at hD ⊢
  have hA : ∀ q : Nat, s.heap.size ≤ q → A q := fun q h => by rw [← hAe]; exact Or.inr h
  have hS : va_S A s.heap s.heap [] := va_S.rf
  have hP : va_P (dC, dI) vwCl [(g0, .inr (5, [.int (zi co), .ref ps, .int (zi ru), .ref pk, .ref pa, .ref pb, .ref pq, .int (zi we), .int (zi wr), .ref pw, .int (zi ty), .ref pt])), (ps, aI cI 10 sf)] s.heap := hP
  have hl := lv_entry ([.ref g0, .int (zi sl), .int (zi wh)]) (n := 3) (Nat.le_of_ble_eq_true rfl)
  rw [lg_entry_eq]
  generalize (lg_sl ([.ref g0, .int (zi sl), .int (zi wh)]) ++ List.replicate (3 - (lg_sl ([.ref g0, .int (zi sl), .int (zi wh)])).length) Slot.unset).toArray = ls at hl ⊢
  have hl : lv_has ls 3 [(0, .ref g0), (1, .int (zi sl)), (2, .int (zi wh))] := hl
  refine lv_aload_n hx hb dX5_told_0 rfl (lv_at hl 0 rfl) ?_
  refine lv_iload_n hx hb dX5_told_1 rfl (lv_at hl 1 rfl) ?_
  have hh1 := c_X5_isSlot l sl (by omega)
  refine vp_callSi (va_Run.run (va_runS (As := [.int (zi sl)]) (rest := [.ref g0]) ⟨hx, hb, hml, hown, hts⟩ hh1 (va_cwS 1 hts gX5_told_X5_isSlot rfl rfl rfl (by decide +kernel) ⟨Nat.le_of_ble_eq_true rfl, Nat.le_of_ble_eq_true rfl⟩) ⟨fun a U g mk q => q, fun U hU hW => ⟨rfl, trivial⟩⟩ rfl rfl hl.1 rfl (lv_room (Nat.le_of_ble_eq_true rfl)) dX5_told_2 ⟨Nat.zero_le _, Nat.zero_le _⟩)) (fun r1 (hr1 : r1 = zi (f_X5_isSlot sl)) => ?_)
  subst hr1
  have hf1 := b_X5_isSlot sl (by omega)
  refine zw_if_ne (tgt := 12) hx hb dX5_told_5 (by decide) ⟨by omega, by omega⟩ (fun h2 => ?_) (fun h2 => ?_)
  · skip
    refine lv_iload_n hx hb dX5_told_12 rfl (lv_at hl 2 rfl) ?_
    refine zw_iconst hx hb dX5_told_13 ?_
    refine zw_bipush hx hb dX5_told_14 (by decide) ?_
    have hh3 := c_X5_in l wh 0 10 (by omega) (by omega) (by omega)
    refine vp_callSi (va_Run.run (va_runS (As := [.int (zi wh), .int (zi 0), .int (zi 10)]) (rest := [.ref g0]) ⟨hx, hb, hml, hown, hts⟩ hh3 (va_cwS 3 hts gX5_told_X5_in rfl rfl rfl (by decide +kernel) ⟨Nat.le_of_ble_eq_true rfl, Nat.le_of_ble_eq_true rfl⟩) ⟨fun a U g mk q => q, fun U hU hW => ⟨rfl, trivial⟩⟩ rfl rfl hl.1 rfl (lv_room (Nat.le_of_ble_eq_true rfl)) dX5_told_16 ⟨Nat.zero_le _, Nat.zero_le _⟩)) (fun r3 (hr3 : r3 = zi (f_X5_in wh 0 10)) => ?_)
    subst hr3
    have hf3 := b_X5_in wh 0 10 (by omega) (by omega) (by omega)
    refine zw_if_ne (tgt := 26) hx hb dX5_told_19 (by decide) ⟨by omega, by omega⟩ (fun h4 => ?_) (fun h4 => ?_)
    · skip
      exact absurd True.intro (by omega)
    · skip
      refine zw_iconst hx hb dX5_told_22 ?_
      refine lv_goto (tgt := 40) hx hb dX5_told_23 (by decide) ?_
      refine va_put (D := (dC, dI)) (ci := 5) (v := .int (zi 2)) (ty := .int) (C := RX5) (T := TX5) (N := 12) hx hb hts (by decide +kernel) tyX5 tyX5_ok nmX5 hown hK hP hD hS 0 rfl rfl 0 (by decide) (hts (.fieldLink RX5 35 "CivilDaysModel" "code" "I") (by decide +kernel)) (fun _ h9 => h9) rfl (by decide +kernel) rfl rfl (Nat.le_of_ble_eq_true rfl) dX5_told_40 (fun H locs hP hD hS => ?_)
      have hP : va_P (dC, dI) vwCl [(g0, .inr (5, [.int (zi 2), .ref ps, .int (zi ru), .ref pk, .ref pa, .ref pb, .ref pq, .int (zi we), .int (zi wr), .ref pw, .int (zi ty), .ref pt])), (ps, aI cI 10 sf)] H := hP
      have hD : va_D A [(g0, .inr (5, [.int (zi 2), .ref ps, .int (zi ru), .ref pk, .ref pa, .ref pb, .ref pq, .int (zi we), .int (zi wr), .ref pw, .int (zi ty), .ref pt])), (ps, aI cI 10 sf)] := hD
      refine lv_aload_n hx hb dX5_told_43 rfl (lv_at hl 0 rfl) ?_
      refine va_get (D := (dC, dI)) (ci := 5) (v := .int (zi 2)) (C := RX5) (T := TX5) (N := 12) hx hb hts (by decide +kernel) hown hK hP 0 rfl rfl 0 (by decide) (hts (.fieldLink RX5 35 "CivilDaysModel" "code" "I") (by decide +kernel)) (fun _ h9 => h9) rfl dX5_told_44 ?_
      refine zw_if_le (tgt := 54) hx hb dX5_told_47 (by decide) ⟨by omega, by omega⟩ (fun h5 => ?_) (fun h5 => ?_)
      · skip
        exact absurd True.intro (by omega)
      · skip
        refine zw_iconst hx hb dX5_told_50 ?_
        refine lv_goto (tgt := 64) hx hb dX5_told_51 (by decide) ?_
        have hP9 := hP.sub (ws' := [(g0, .inr (5, [.int (zi 2), .ref ps, .int (zi ru), .ref pk, .ref pa, .ref pb, .ref pq, .int (zi we), .int (zi wr), .ref pw, .int (zi ty), .ref pt])), (ps, aI cI 10 sf)]) [0, 1] rfl
        have hD9 := hD.sub (ws' := [(g0, .inr (5, [.int (zi 2), .ref ps, .int (zi ru), .ref pk, .ref pa, .ref pb, .ref pq, .int (zi we), .int (zi wr), .ref pw, .int (zi ty), .ref pt])), (ps, aI cI 10 sf)]) [0, 1] (by decide) rfl
        exact W.iret (v := zi 0) hx hb hr (fun t ht hW => ⟨⟨zi 0, (), rfl, rfl, by rw [ht]; exact hP9, va_K.moved hW.alike hK, hD9⟩, hS.F ht⟩) hS.2.2 dX5_told_64
  · skip
    exact absurd True.intro (by omega)

set_option maxHeartbeats 4000000 in
set_option maxRecDepth 100000 in
theorem c_X5_told_3 (l : Launch)  (dC : Nat → ClassId) (dI : Nat → Nat → Nat) (cI : ClassId) (g0 ps pk pa pb pq pw pt : Nat) (co ru we wr ty : Int) (sf : Nat → Int) (sl wh : Int) (sz : Nat) (hp0 : 0 ≤ sl ∧ sl ≤ 9) (hp1 : 0 ≤ wh ∧ wh ≤ 10) (hp2 : sf sl.toNat = -1) : Met l yX5_told wsX5_told ({ frames := 2, cells := 0, slots := 0, locals := 42 }) (zPw (dC, dI) [(cI, .int)] sz [.ref g0, .int (zi sl), .int (zi wh)] [(g0, .inr (5, [.int (zi co), .ref ps, .int (zi ru), .ref pk, .ref pa, .ref pb, .ref pq, .int (zi we), .int (zi wr), .ref pw, .int (zi ty), .ref pt])), (ps, aI cI 10 sf)]) (va_Qi (fun (r : Int32) (_ : Unit) => r = zi 0) (zB (dC, dI) [(cI, .int)] (va_A [(g0, .inr (5, [.int (zi co), .ref ps, .int (zi ru), .ref pk, .ref pa, .ref pb, .ref pq, .int (zi we), .int (zi wr), .ref pw, .int (zi ty), .ref pt])), (ps, aI cI 10 sf)] sz) [(g0, .inr (5, [.int (zi 3), .ref ps, .int (zi ru), .ref pk, .ref pa, .ref pb, .ref pq, .int (zi we), .int (zi wr), .ref pw, .int (zi ty), .ref pt])), (ps, aI cI 10 sf)]) (va_A [(g0, .inr (5, [.int (zi co), .ref ps, .int (zi ru), .ref pk, .ref pa, .ref pb, .ref pq, .int (zi we), .int (zi wr), .ref pw, .int (zi ty), .ref pt])), (ps, aI cI 10 sf)] sz)) 0 0 (va_A [(g0, .inr (5, [.int (zi co), .ref ps, .int (zi ru), .ref pk, .ref pa, .ref pb, .ref pq, .int (zi we), .int (zi wr), .ref pw, .int (zi ty), .ref pt])), (ps, aI cI 10 sf)] sz) := by
  refine Met.ofW (cc := cX5_told) (maxL := 3) (ret := (some .int)) (by decide) rfl ?_
  intro p e s m args below meth c s₁ B hml hv
  obtain ⟨rfl, hsz, hP, hK, hD0⟩ := hv
  have hx := B.exec
  have hb := B.bytes
  have hr := B.returns
  have hts := atoms_spec (ws := wsX5_told) B.pre
  have hown : s.vm.findClass RX5 = some m.cls := findClass_of_methodNamed B.named
  have hlocks := B.notSynchronized
  subst hsz
  have hD := hD0.self (sz := s.heap.size)
  generalize hAe : va_A [(g0, .inr (5, [.int (zi co), .ref ps, .int (zi ru), .ref pk, .ref pa, .ref pb, .ref pq, .int (zi we), .int (zi wr), .ref pw, .int (zi ty), .ref pt])), (ps, aI cI 10 sf)] s.heap.size = A at hD ⊢
  have hA : ∀ q : Nat, s.heap.size ≤ q → A q := fun q h => by rw [← hAe]; exact Or.inr h
  have hS : va_S A s.heap s.heap [] := va_S.rf
  have hP : va_P (dC, dI) vwCl [(g0, .inr (5, [.int (zi co), .ref ps, .int (zi ru), .ref pk, .ref pa, .ref pb, .ref pq, .int (zi we), .int (zi wr), .ref pw, .int (zi ty), .ref pt])), (ps, aI cI 10 sf)] s.heap := hP
  have hl := lv_entry ([.ref g0, .int (zi sl), .int (zi wh)]) (n := 3) (Nat.le_of_ble_eq_true rfl)
  rw [lg_entry_eq]
  generalize (lg_sl ([.ref g0, .int (zi sl), .int (zi wh)]) ++ List.replicate (3 - (lg_sl ([.ref g0, .int (zi sl), .int (zi wh)])).length) Slot.unset).toArray = ls at hl ⊢
  have hl : lv_has ls 3 [(0, .ref g0), (1, .int (zi sl)), (2, .int (zi wh))] := hl
  refine lv_aload_n hx hb dX5_told_0 rfl (lv_at hl 0 rfl) ?_
  refine lv_iload_n hx hb dX5_told_1 rfl (lv_at hl 1 rfl) ?_
  have hh1 := c_X5_isSlot l sl (by omega)
  refine vp_callSi (va_Run.run (va_runS (As := [.int (zi sl)]) (rest := [.ref g0]) ⟨hx, hb, hml, hown, hts⟩ hh1 (va_cwS 1 hts gX5_told_X5_isSlot rfl rfl rfl (by decide +kernel) ⟨Nat.le_of_ble_eq_true rfl, Nat.le_of_ble_eq_true rfl⟩) ⟨fun a U g mk q => q, fun U hU hW => ⟨rfl, trivial⟩⟩ rfl rfl hl.1 rfl (lv_room (Nat.le_of_ble_eq_true rfl)) dX5_told_2 ⟨Nat.zero_le _, Nat.zero_le _⟩)) (fun r1 (hr1 : r1 = zi (f_X5_isSlot sl)) => ?_)
  subst hr1
  have hf1 := b_X5_isSlot sl (by omega)
  refine zw_if_ne (tgt := 12) hx hb dX5_told_5 (by decide) ⟨by omega, by omega⟩ (fun h2 => ?_) (fun h2 => ?_)
  · skip
    refine lv_iload_n hx hb dX5_told_12 rfl (lv_at hl 2 rfl) ?_
    refine zw_iconst hx hb dX5_told_13 ?_
    refine zw_bipush hx hb dX5_told_14 (by decide) ?_
    have hh3 := c_X5_in l wh 0 10 (by omega) (by omega) (by omega)
    refine vp_callSi (va_Run.run (va_runS (As := [.int (zi wh), .int (zi 0), .int (zi 10)]) (rest := [.ref g0]) ⟨hx, hb, hml, hown, hts⟩ hh3 (va_cwS 3 hts gX5_told_X5_in rfl rfl rfl (by decide +kernel) ⟨Nat.le_of_ble_eq_true rfl, Nat.le_of_ble_eq_true rfl⟩) ⟨fun a U g mk q => q, fun U hU hW => ⟨rfl, trivial⟩⟩ rfl rfl hl.1 rfl (lv_room (Nat.le_of_ble_eq_true rfl)) dX5_told_16 ⟨Nat.zero_le _, Nat.zero_le _⟩)) (fun r3 (hr3 : r3 = zi (f_X5_in wh 0 10)) => ?_)
    subst hr3
    have hf3 := b_X5_in wh 0 10 (by omega) (by omega) (by omega)
    refine zw_if_ne (tgt := 26) hx hb dX5_told_19 (by decide) ⟨by omega, by omega⟩ (fun h4 => ?_) (fun h4 => ?_)
    · skip
      refine lv_aload_n hx hb dX5_told_26 rfl (lv_at hl 0 rfl) ?_
      refine va_get (D := (dC, dI)) (ci := 5) (v := .ref ps) (C := RX5) (T := TX5) (N := 12) hx hb hts (by decide +kernel) hown hK hP 0 rfl rfl 1 (by decide) (hts (.fieldLink RX5 7 "CivilDaysModel" "slots" "[I") (by decide +kernel)) (fun _ h9 => h9) rfl dX5_told_27 ?_
      refine lv_iload_n hx hb dX5_told_30 rfl (lv_at hl 1 rfl) ?_
      refine zw_iald hx hb hK hP 1 0 rfl rfl (by omega) (by omega) ⟨by omega, by omega⟩ dX5_told_31 ?_
      refine zw_if_ge (tgt := 39) hx hb dX5_told_32 (by decide) ⟨by omega, by omega⟩ (fun h5 => ?_) (fun h5 => ?_)
      · skip
        exact absurd True.intro (by omega)
      · skip
        refine zw_iconst hx hb dX5_told_35 ?_
        refine lv_goto (tgt := 40) hx hb dX5_told_36 (by decide) ?_
        refine va_put (D := (dC, dI)) (ci := 5) (v := .int (zi 3)) (ty := .int) (C := RX5) (T := TX5) (N := 12) hx hb hts (by decide +kernel) tyX5 tyX5_ok nmX5 hown hK hP hD hS 0 rfl rfl 0 (by decide) (hts (.fieldLink RX5 35 "CivilDaysModel" "code" "I") (by decide +kernel)) (fun _ h9 => h9) rfl (by decide +kernel) rfl rfl (Nat.le_of_ble_eq_true rfl) dX5_told_40 (fun H locs hP hD hS => ?_)
        have hP : va_P (dC, dI) vwCl [(g0, .inr (5, [.int (zi 3), .ref ps, .int (zi ru), .ref pk, .ref pa, .ref pb, .ref pq, .int (zi we), .int (zi wr), .ref pw, .int (zi ty), .ref pt])), (ps, aI cI 10 sf)] H := hP
        have hD : va_D A [(g0, .inr (5, [.int (zi 3), .ref ps, .int (zi ru), .ref pk, .ref pa, .ref pb, .ref pq, .int (zi we), .int (zi wr), .ref pw, .int (zi ty), .ref pt])), (ps, aI cI 10 sf)] := hD
        refine lv_aload_n hx hb dX5_told_43 rfl (lv_at hl 0 rfl) ?_
        refine va_get (D := (dC, dI)) (ci := 5) (v := .int (zi 3)) (C := RX5) (T := TX5) (N := 12) hx hb hts (by decide +kernel) hown hK hP 0 rfl rfl 0 (by decide) (hts (.fieldLink RX5 35 "CivilDaysModel" "code" "I") (by decide +kernel)) (fun _ h9 => h9) rfl dX5_told_44 ?_
        refine zw_if_le (tgt := 54) hx hb dX5_told_47 (by decide) ⟨by omega, by omega⟩ (fun h6 => ?_) (fun h6 => ?_)
        · skip
          exact absurd True.intro (by omega)
        · skip
          refine zw_iconst hx hb dX5_told_50 ?_
          refine lv_goto (tgt := 64) hx hb dX5_told_51 (by decide) ?_
          have hP9 := hP.sub (ws' := [(g0, .inr (5, [.int (zi 3), .ref ps, .int (zi ru), .ref pk, .ref pa, .ref pb, .ref pq, .int (zi we), .int (zi wr), .ref pw, .int (zi ty), .ref pt])), (ps, aI cI 10 sf)]) [0, 1] rfl
          have hD9 := hD.sub (ws' := [(g0, .inr (5, [.int (zi 3), .ref ps, .int (zi ru), .ref pk, .ref pa, .ref pb, .ref pq, .int (zi we), .int (zi wr), .ref pw, .int (zi ty), .ref pt])), (ps, aI cI 10 sf)]) [0, 1] (by decide) rfl
          exact W.iret (v := zi 0) hx hb hr (fun t ht hW => ⟨⟨zi 0, (), rfl, rfl, by rw [ht]; exact hP9, va_K.moved hW.alike hK, hD9⟩, hS.F ht⟩) hS.2.2 dX5_told_64
    · skip
      exact absurd True.intro (by omega)
  · skip
    exact absurd True.intro (by omega)

set_option maxHeartbeats 4000000 in
set_option maxRecDepth 100000 in
theorem c_X5_told (l : Launch)  (dC : Nat → ClassId) (dI : Nat → Nat → Nat) (cI : ClassId) (g0 ps pk pa pb pq pw pt : Nat) (co ru we wr ty : Int) (sf : Nat → Int) (sl wh : Int) (sz : Nat) (hp0 : 0 ≤ sl ∧ sl ≤ 9) (hp1 : 0 ≤ wh ∧ wh ≤ 10) (hp2 : 0 ≤ sf sl.toNat ∧ sf sl.toNat ≤ 3652058) : Met l yX5_told wsX5_told ({ frames := 6, cells := 0, slots := 0, locals := 128 }) (zPw (dC, dI) [(cI, .int)] sz [.ref g0, .int (zi sl), .int (zi wh)] [(g0, .inr (5, [.int (zi co), .ref ps, .int (zi ru), .ref pk, .ref pa, .ref pb, .ref pq, .int (zi we), .int (zi wr), .ref pw, .int (zi ty), .ref pt])), (ps, aI cI 10 sf)]) (va_Qi (fun (r : Int32) (_ : Unit) => r = zi (f_X5_toldOf (sf sl.toNat) wh)) (zB (dC, dI) [(cI, .int)] (va_A [(g0, .inr (5, [.int (zi co), .ref ps, .int (zi ru), .ref pk, .ref pa, .ref pb, .ref pq, .int (zi we), .int (zi wr), .ref pw, .int (zi ty), .ref pt])), (ps, aI cI 10 sf)] sz) [(g0, .inr (5, [.int (zi 0), .ref ps, .int (zi ru), .ref pk, .ref pa, .ref pb, .ref pq, .int (zi we), .int (zi wr), .ref pw, .int (zi ty), .ref pt])), (ps, aI cI 10 sf)]) (va_A [(g0, .inr (5, [.int (zi co), .ref ps, .int (zi ru), .ref pk, .ref pa, .ref pb, .ref pq, .int (zi we), .int (zi wr), .ref pw, .int (zi ty), .ref pt])), (ps, aI cI 10 sf)] sz)) 0 0 (va_A [(g0, .inr (5, [.int (zi co), .ref ps, .int (zi ru), .ref pk, .ref pa, .ref pb, .ref pq, .int (zi we), .int (zi wr), .ref pw, .int (zi ty), .ref pt])), (ps, aI cI 10 sf)] sz) := by
  refine Met.ofW (cc := cX5_told) (maxL := 3) (ret := (some .int)) (by decide) rfl ?_
  intro p e s m args below meth c s₁ B hml hv
  obtain ⟨rfl, hsz, hP, hK, hD0⟩ := hv
  have hx := B.exec
  have hb := B.bytes
  have hr := B.returns
  have hts := atoms_spec (ws := wsX5_told) B.pre
  have hown : s.vm.findClass RX5 = some m.cls := findClass_of_methodNamed B.named
  have hlocks := B.notSynchronized
  subst hsz
  have hD := hD0.self (sz := s.heap.size)
  generalize hAe : va_A [(g0, .inr (5, [.int (zi co), .ref ps, .int (zi ru), .ref pk, .ref pa, .ref pb, .ref pq, .int (zi we), .int (zi wr), .ref pw, .int (zi ty), .ref pt])), (ps, aI cI 10 sf)] s.heap.size = A at hD ⊢
  have hA : ∀ q : Nat, s.heap.size ≤ q → A q := fun q h => by rw [← hAe]; exact Or.inr h
  have hS : va_S A s.heap s.heap [] := va_S.rf
  have hP : va_P (dC, dI) vwCl [(g0, .inr (5, [.int (zi co), .ref ps, .int (zi ru), .ref pk, .ref pa, .ref pb, .ref pq, .int (zi we), .int (zi wr), .ref pw, .int (zi ty), .ref pt])), (ps, aI cI 10 sf)] s.heap := hP
  have hl := lv_entry ([.ref g0, .int (zi sl), .int (zi wh)]) (n := 3) (Nat.le_of_ble_eq_true rfl)
  rw [lg_entry_eq]
  generalize (lg_sl ([.ref g0, .int (zi sl), .int (zi wh)]) ++ List.replicate (3 - (lg_sl ([.ref g0, .int (zi sl), .int (zi wh)])).length) Slot.unset).toArray = ls at hl ⊢
  have hl : lv_has ls 3 [(0, .ref g0), (1, .int (zi sl)), (2, .int (zi wh))] := hl
  refine lv_aload_n hx hb dX5_told_0 rfl (lv_at hl 0 rfl) ?_
  refine lv_iload_n hx hb dX5_told_1 rfl (lv_at hl 1 rfl) ?_
  have hh1 := c_X5_isSlot l sl (by omega)
  refine vp_callSi (va_Run.run (va_runS (As := [.int (zi sl)]) (rest := [.ref g0]) ⟨hx, hb, hml, hown, hts⟩ hh1 (va_cwS 1 hts gX5_told_X5_isSlot rfl rfl rfl (by decide +kernel) ⟨Nat.le_of_ble_eq_true rfl, Nat.le_of_ble_eq_true rfl⟩) ⟨fun a U g mk q => q, fun U hU hW => ⟨rfl, trivial⟩⟩ rfl rfl hl.1 rfl (lv_room (Nat.le_of_ble_eq_true rfl)) dX5_told_2 ⟨Nat.zero_le _, Nat.zero_le _⟩)) (fun r1 (hr1 : r1 = zi (f_X5_isSlot sl)) => ?_)
  subst hr1
  have hf1 := b_X5_isSlot sl (by omega)
  refine zw_if_ne (tgt := 12) hx hb dX5_told_5 (by decide) ⟨by omega, by omega⟩ (fun h2 => ?_) (fun h2 => ?_)
  · skip
    refine lv_iload_n hx hb dX5_told_12 rfl (lv_at hl 2 rfl) ?_
    refine zw_iconst hx hb dX5_told_13 ?_
    refine zw_bipush hx hb dX5_told_14 (by decide) ?_
    have hh3 := c_X5_in l wh 0 10 (by omega) (by omega) (by omega)
    refine vp_callSi (va_Run.run (va_runS (As := [.int (zi wh), .int (zi 0), .int (zi 10)]) (rest := [.ref g0]) ⟨hx, hb, hml, hown, hts⟩ hh3 (va_cwS 3 hts gX5_told_X5_in rfl rfl rfl (by decide +kernel) ⟨Nat.le_of_ble_eq_true rfl, Nat.le_of_ble_eq_true rfl⟩) ⟨fun a U g mk q => q, fun U hU hW => ⟨rfl, trivial⟩⟩ rfl rfl hl.1 rfl (lv_room (Nat.le_of_ble_eq_true rfl)) dX5_told_16 ⟨Nat.zero_le _, Nat.zero_le _⟩)) (fun r3 (hr3 : r3 = zi (f_X5_in wh 0 10)) => ?_)
    subst hr3
    have hf3 := b_X5_in wh 0 10 (by omega) (by omega) (by omega)
    refine zw_if_ne (tgt := 26) hx hb dX5_told_19 (by decide) ⟨by omega, by omega⟩ (fun h4 => ?_) (fun h4 => ?_)
    · skip
      refine lv_aload_n hx hb dX5_told_26 rfl (lv_at hl 0 rfl) ?_
      refine va_get (D := (dC, dI)) (ci := 5) (v := .ref ps) (C := RX5) (T := TX5) (N := 12) hx hb hts (by decide +kernel) hown hK hP 0 rfl rfl 1 (by decide) (hts (.fieldLink RX5 7 "CivilDaysModel" "slots" "[I") (by decide +kernel)) (fun _ h9 => h9) rfl dX5_told_27 ?_
      refine lv_iload_n hx hb dX5_told_30 rfl (lv_at hl 1 rfl) ?_
      refine zw_iald hx hb hK hP 1 0 rfl rfl (by omega) (by omega) ⟨by omega, by omega⟩ dX5_told_31 ?_
      refine zw_if_ge (tgt := 39) hx hb dX5_told_32 (by decide) ⟨by omega, by omega⟩ (fun h5 => ?_) (fun h5 => ?_)
      · skip
        refine zw_iconst hx hb dX5_told_39 ?_
        refine va_put (D := (dC, dI)) (ci := 5) (v := .int (zi 0)) (ty := .int) (C := RX5) (T := TX5) (N := 12) hx hb hts (by decide +kernel) tyX5 tyX5_ok nmX5 hown hK hP hD hS 0 rfl rfl 0 (by decide) (hts (.fieldLink RX5 35 "CivilDaysModel" "code" "I") (by decide +kernel)) (fun _ h9 => h9) rfl (by decide +kernel) rfl rfl (Nat.le_of_ble_eq_true rfl) dX5_told_40 (fun H locs hP hD hS => ?_)
        have hP : va_P (dC, dI) vwCl [(g0, .inr (5, [.int (zi 0), .ref ps, .int (zi ru), .ref pk, .ref pa, .ref pb, .ref pq, .int (zi we), .int (zi wr), .ref pw, .int (zi ty), .ref pt])), (ps, aI cI 10 sf)] H := hP
        have hD : va_D A [(g0, .inr (5, [.int (zi 0), .ref ps, .int (zi ru), .ref pk, .ref pa, .ref pb, .ref pq, .int (zi we), .int (zi wr), .ref pw, .int (zi ty), .ref pt])), (ps, aI cI 10 sf)] := hD
        refine lv_aload_n hx hb dX5_told_43 rfl (lv_at hl 0 rfl) ?_
        refine va_get (D := (dC, dI)) (ci := 5) (v := .int (zi 0)) (C := RX5) (T := TX5) (N := 12) hx hb hts (by decide +kernel) hown hK hP 0 rfl rfl 0 (by decide) (hts (.fieldLink RX5 35 "CivilDaysModel" "code" "I") (by decide +kernel)) (fun _ h9 => h9) rfl dX5_told_44 ?_
        refine zw_if_le (tgt := 54) hx hb dX5_told_47 (by decide) ⟨by omega, by omega⟩ (fun h6 => ?_) (fun h6 => ?_)
        · skip
          refine lv_aload_n hx hb dX5_told_54 rfl (lv_at hl 0 rfl) ?_
          refine va_get (D := (dC, dI)) (ci := 5) (v := .ref ps) (C := RX5) (T := TX5) (N := 12) hx hb hts (by decide +kernel) hown hK hP 0 rfl rfl 1 (by decide) (hts (.fieldLink RX5 7 "CivilDaysModel" "slots" "[I") (by decide +kernel)) (fun _ h9 => h9) rfl dX5_told_55 ?_
          refine lv_iload_n hx hb dX5_told_58 rfl (lv_at hl 1 rfl) ?_
          refine zw_iald hx hb hK hP 1 0 rfl rfl (by omega) (by omega) ⟨by omega, by omega⟩ dX5_told_59 ?_
          refine lv_iload_n hx hb dX5_told_60 rfl (lv_at hl 2 rfl) ?_
          have hh7 := c_X5_toldOf l (sf sl.toNat) wh (by omega) (by omega)
          refine vp_callSi (va_Run.run (va_runS (As := [.int (zi (sf sl.toNat)), .int (zi wh)]) (rest := []) ⟨hx, hb, hml, hown, hts⟩ hh7 (va_cwS 2 hts gX5_told_X5_toldOf rfl rfl rfl (by decide +kernel) ⟨Nat.le_of_ble_eq_true rfl, Nat.le_of_ble_eq_true rfl⟩) ⟨fun a U g mk q => q, fun U hU hW => ⟨rfl, trivial⟩⟩ rfl rfl hl.1 rfl (lv_room (Nat.le_of_ble_eq_true rfl)) dX5_told_61 ⟨Nat.zero_le _, Nat.zero_le _⟩)) (fun r7 (hr7 : r7 = zi (f_X5_toldOf (sf sl.toNat) wh)) => ?_)
          subst hr7
          have hf7 := b_X5_toldOf (sf sl.toNat) wh (by omega) (by omega)
          have hP9 := hP.sub (ws' := [(g0, .inr (5, [.int (zi 0), .ref ps, .int (zi ru), .ref pk, .ref pa, .ref pb, .ref pq, .int (zi we), .int (zi wr), .ref pw, .int (zi ty), .ref pt])), (ps, aI cI 10 sf)]) [0, 1] rfl
          have hD9 := hD.sub (ws' := [(g0, .inr (5, [.int (zi 0), .ref ps, .int (zi ru), .ref pk, .ref pa, .ref pb, .ref pq, .int (zi we), .int (zi wr), .ref pw, .int (zi ty), .ref pt])), (ps, aI cI 10 sf)]) [0, 1] (by decide) rfl
          exact W.iret (v := zi (f_X5_toldOf (sf sl.toNat) wh)) hx hb hr (fun t ht hW => ⟨⟨zi (f_X5_toldOf (sf sl.toNat) wh), (), rfl, rfl, by rw [ht]; exact hP9, va_K.moved hW.alike hK, hD9⟩, hS.F ht⟩) hS.2.2 dX5_told_64
        · skip
          exact absurd True.intro (by omega)
      · skip
        exact absurd True.intro (by omega)
    · skip
      exact absurd True.intro (by omega)
  · skip
    exact absurd True.intro (by omega)

set_option maxHeartbeats 4000000 in
set_option maxRecDepth 100000 in
theorem c_X5_copy_1 (l : Launch)  (dC : Nat → ClassId) (dI : Nat → Nat → Nat) (cI : ClassId) (g0 ps pk pa pb pq pw pt : Nat) (co ru we wr ty : Int) (sf : Nat → Int) (sl ot : Int) (sz : Nat) (hp0 : -2147483648 ≤ sl ∧ sl ≤ 2147483647) (hp1 : -2147483648 ≤ ot ∧ ot ≤ 2147483647) (hp2 : sl < 0 ∨ 9 < sl ∨ ot < 0 ∨ 9 < ot) : Met l yX5_copy wsX5_copy ({ frames := 2, cells := 0, slots := 0, locals := 42 }) (zPw (dC, dI) [(cI, .int)] sz [.ref g0, .int (zi sl), .int (zi ot)] [(g0, .inr (5, [.int (zi co), .ref ps, .int (zi ru), .ref pk, .ref pa, .ref pb, .ref pq, .int (zi we), .int (zi wr), .ref pw, .int (zi ty), .ref pt])), (ps, aI cI 10 sf)]) (va_Qi (fun (r : Int32) (_ : Unit) => r = zi 0) (zB (dC, dI) [(cI, .int)] (va_A [(g0, .inr (5, [.int (zi co), .ref ps, .int (zi ru), .ref pk, .ref pa, .ref pb, .ref pq, .int (zi we), .int (zi wr), .ref pw, .int (zi ty), .ref pt])), (ps, aI cI 10 sf)] sz) [(g0, .inr (5, [.int (zi 1), .ref ps, .int (zi ru), .ref pk, .ref pa, .ref pb, .ref pq, .int (zi we), .int (zi wr), .ref pw, .int (zi ty), .ref pt])), (ps, aI cI 10 sf)]) (va_A [(g0, .inr (5, [.int (zi co), .ref ps, .int (zi ru), .ref pk, .ref pa, .ref pb, .ref pq, .int (zi we), .int (zi wr), .ref pw, .int (zi ty), .ref pt])), (ps, aI cI 10 sf)] sz)) 0 0 (va_A [(g0, .inr (5, [.int (zi co), .ref ps, .int (zi ru), .ref pk, .ref pa, .ref pb, .ref pq, .int (zi we), .int (zi wr), .ref pw, .int (zi ty), .ref pt])), (ps, aI cI 10 sf)] sz) := by
  refine Met.ofW (cc := cX5_copy) (maxL := 3) (ret := (some .int)) (by decide) rfl ?_
  intro p e s m args below meth c s₁ B hml hv
  obtain ⟨rfl, hsz, hP, hK, hD0⟩ := hv
  have hx := B.exec
  have hb := B.bytes
  have hr := B.returns
  have hts := atoms_spec (ws := wsX5_copy) B.pre
  have hown : s.vm.findClass RX5 = some m.cls := findClass_of_methodNamed B.named
  have hlocks := B.notSynchronized
  subst hsz
  have hD := hD0.self (sz := s.heap.size)
  generalize hAe : va_A [(g0, .inr (5, [.int (zi co), .ref ps, .int (zi ru), .ref pk, .ref pa, .ref pb, .ref pq, .int (zi we), .int (zi wr), .ref pw, .int (zi ty), .ref pt])), (ps, aI cI 10 sf)] s.heap.size = A at hD ⊢
  have hA : ∀ q : Nat, s.heap.size ≤ q → A q := fun q h => by rw [← hAe]; exact Or.inr h
  have hS : va_S A s.heap s.heap [] := va_S.rf
  have hP : va_P (dC, dI) vwCl [(g0, .inr (5, [.int (zi co), .ref ps, .int (zi ru), .ref pk, .ref pa, .ref pb, .ref pq, .int (zi we), .int (zi wr), .ref pw, .int (zi ty), .ref pt])), (ps, aI cI 10 sf)] s.heap := hP
  have hl := lv_entry ([.ref g0, .int (zi sl), .int (zi ot)]) (n := 3) (Nat.le_of_ble_eq_true rfl)
  rw [lg_entry_eq]
  generalize (lg_sl ([.ref g0, .int (zi sl), .int (zi ot)]) ++ List.replicate (3 - (lg_sl ([.ref g0, .int (zi sl), .int (zi ot)])).length) Slot.unset).toArray = ls at hl ⊢
  have hl : lv_has ls 3 [(0, .ref g0), (1, .int (zi sl)), (2, .int (zi ot))] := hl
  refine lv_aload_n hx hb dX5_copy_0 rfl (lv_at hl 0 rfl) ?_
  refine lv_iload_n hx hb dX5_copy_1 rfl (lv_at hl 1 rfl) ?_
  have hh1 := c_X5_isSlot l sl (by omega)
  refine vp_callSi (va_Run.run (va_runS (As := [.int (zi sl)]) (rest := [.ref g0]) ⟨hx, hb, hml, hown, hts⟩ hh1 (va_cwS 1 hts gX5_copy_X5_isSlot rfl rfl rfl (by decide +kernel) ⟨Nat.le_of_ble_eq_true rfl, Nat.le_of_ble_eq_true rfl⟩) ⟨fun a U g mk q => q, fun U hU hW => ⟨rfl, trivial⟩⟩ rfl rfl hl.1 rfl (lv_room (Nat.le_of_ble_eq_true rfl)) dX5_copy_2 ⟨Nat.zero_le _, Nat.zero_le _⟩)) (fun r1 (hr1 : r1 = zi (f_X5_isSlot sl)) => ?_)
  subst hr1
  have hf1 := b_X5_isSlot sl (by omega)
  refine zw_if_eq (tgt := 15) hx hb dX5_copy_5 (by decide) ⟨by omega, by omega⟩ (fun h2 => ?_) (fun h2 => ?_)
  · skip
    refine zw_iconst hx hb dX5_copy_15 ?_
    refine lv_goto (tgt := 33) hx hb dX5_copy_16 (by decide) ?_
    refine va_put (D := (dC, dI)) (ci := 5) (v := .int (zi 1)) (ty := .int) (C := RX5) (T := TX5) (N := 12) hx hb hts (by decide +kernel) tyX5 tyX5_ok nmX5 hown hK hP hD hS 0 rfl rfl 0 (by decide) (hts (.fieldLink RX5 35 "CivilDaysModel" "code" "I") (by decide +kernel)) (fun _ h9 => h9) rfl (by decide +kernel) rfl rfl (Nat.le_of_ble_eq_true rfl) dX5_copy_33 (fun H locs hP hD hS => ?_)
    have hP : va_P (dC, dI) vwCl [(g0, .inr (5, [.int (zi 1), .ref ps, .int (zi ru), .ref pk, .ref pa, .ref pb, .ref pq, .int (zi we), .int (zi wr), .ref pw, .int (zi ty), .ref pt])), (ps, aI cI 10 sf)] H := hP
    have hD : va_D A [(g0, .inr (5, [.int (zi 1), .ref ps, .int (zi ru), .ref pk, .ref pa, .ref pb, .ref pq, .int (zi we), .int (zi wr), .ref pw, .int (zi ty), .ref pt])), (ps, aI cI 10 sf)] := hD
    refine lv_aload_n hx hb dX5_copy_36 rfl (lv_at hl 0 rfl) ?_
    refine va_get (D := (dC, dI)) (ci := 5) (v := .int (zi 1)) (C := RX5) (T := TX5) (N := 12) hx hb hts (by decide +kernel) hown hK hP 0 rfl rfl 0 (by decide) (hts (.fieldLink RX5 35 "CivilDaysModel" "code" "I") (by decide +kernel)) (fun _ h9 => h9) rfl dX5_copy_37 ?_
    refine zw_if_le (tgt := 47) hx hb dX5_copy_40 (by decide) ⟨by omega, by omega⟩ (fun h3 => ?_) (fun h3 => ?_)
    · skip
      exact absurd True.intro (by omega)
    · skip
      refine zw_iconst hx hb dX5_copy_43 ?_
      refine lv_goto (tgt := 58) hx hb dX5_copy_44 (by decide) ?_
      have hP9 := hP.sub (ws' := [(g0, .inr (5, [.int (zi 1), .ref ps, .int (zi ru), .ref pk, .ref pa, .ref pb, .ref pq, .int (zi we), .int (zi wr), .ref pw, .int (zi ty), .ref pt])), (ps, aI cI 10 sf)]) [0, 1] rfl
      have hD9 := hD.sub (ws' := [(g0, .inr (5, [.int (zi 1), .ref ps, .int (zi ru), .ref pk, .ref pa, .ref pb, .ref pq, .int (zi we), .int (zi wr), .ref pw, .int (zi ty), .ref pt])), (ps, aI cI 10 sf)]) [0, 1] (by decide) rfl
      exact W.iret (v := zi 0) hx hb hr (fun t ht hW => ⟨⟨zi 0, (), rfl, rfl, by rw [ht]; exact hP9, va_K.moved hW.alike hK, hD9⟩, hS.F ht⟩) hS.2.2 dX5_copy_58
  · skip
    refine lv_iload_n hx hb dX5_copy_8 rfl (lv_at hl 2 rfl) ?_
    have hh4 := c_X5_isSlot l ot (by omega)
    refine vp_callSi (va_Run.run (va_runS (As := [.int (zi ot)]) (rest := [.ref g0]) ⟨hx, hb, hml, hown, hts⟩ hh4 (va_cwS 1 hts gX5_copy_X5_isSlot rfl rfl rfl (by decide +kernel) ⟨Nat.le_of_ble_eq_true rfl, Nat.le_of_ble_eq_true rfl⟩) ⟨fun a U g mk q => q, fun U hU hW => ⟨rfl, trivial⟩⟩ rfl rfl hl.1 rfl (lv_room (Nat.le_of_ble_eq_true rfl)) dX5_copy_9 ⟨Nat.zero_le _, Nat.zero_le _⟩)) (fun r4 (hr4 : r4 = zi (f_X5_isSlot ot)) => ?_)
    subst hr4
    have hf4 := b_X5_isSlot ot (by omega)
    refine zw_if_ne (tgt := 19) hx hb dX5_copy_12 (by decide) ⟨by omega, by omega⟩ (fun h5 => ?_) (fun h5 => ?_)
    · skip
      exact absurd True.intro (by omega)
    · skip
      refine zw_iconst hx hb dX5_copy_15 ?_
      refine lv_goto (tgt := 33) hx hb dX5_copy_16 (by decide) ?_
      refine va_put (D := (dC, dI)) (ci := 5) (v := .int (zi 1)) (ty := .int) (C := RX5) (T := TX5) (N := 12) hx hb hts (by decide +kernel) tyX5 tyX5_ok nmX5 hown hK hP hD hS 0 rfl rfl 0 (by decide) (hts (.fieldLink RX5 35 "CivilDaysModel" "code" "I") (by decide +kernel)) (fun _ h9 => h9) rfl (by decide +kernel) rfl rfl (Nat.le_of_ble_eq_true rfl) dX5_copy_33 (fun H locs hP hD hS => ?_)
      have hP : va_P (dC, dI) vwCl [(g0, .inr (5, [.int (zi 1), .ref ps, .int (zi ru), .ref pk, .ref pa, .ref pb, .ref pq, .int (zi we), .int (zi wr), .ref pw, .int (zi ty), .ref pt])), (ps, aI cI 10 sf)] H := hP
      have hD : va_D A [(g0, .inr (5, [.int (zi 1), .ref ps, .int (zi ru), .ref pk, .ref pa, .ref pb, .ref pq, .int (zi we), .int (zi wr), .ref pw, .int (zi ty), .ref pt])), (ps, aI cI 10 sf)] := hD
      refine lv_aload_n hx hb dX5_copy_36 rfl (lv_at hl 0 rfl) ?_
      refine va_get (D := (dC, dI)) (ci := 5) (v := .int (zi 1)) (C := RX5) (T := TX5) (N := 12) hx hb hts (by decide +kernel) hown hK hP 0 rfl rfl 0 (by decide) (hts (.fieldLink RX5 35 "CivilDaysModel" "code" "I") (by decide +kernel)) (fun _ h9 => h9) rfl dX5_copy_37 ?_
      refine zw_if_le (tgt := 47) hx hb dX5_copy_40 (by decide) ⟨by omega, by omega⟩ (fun h6 => ?_) (fun h6 => ?_)
      · skip
        exact absurd True.intro (by omega)
      · skip
        refine zw_iconst hx hb dX5_copy_43 ?_
        refine lv_goto (tgt := 58) hx hb dX5_copy_44 (by decide) ?_
        have hP9 := hP.sub (ws' := [(g0, .inr (5, [.int (zi 1), .ref ps, .int (zi ru), .ref pk, .ref pa, .ref pb, .ref pq, .int (zi we), .int (zi wr), .ref pw, .int (zi ty), .ref pt])), (ps, aI cI 10 sf)]) [0, 1] rfl
        have hD9 := hD.sub (ws' := [(g0, .inr (5, [.int (zi 1), .ref ps, .int (zi ru), .ref pk, .ref pa, .ref pb, .ref pq, .int (zi we), .int (zi wr), .ref pw, .int (zi ty), .ref pt])), (ps, aI cI 10 sf)]) [0, 1] (by decide) rfl
        exact W.iret (v := zi 0) hx hb hr (fun t ht hW => ⟨⟨zi 0, (), rfl, rfl, by rw [ht]; exact hP9, va_K.moved hW.alike hK, hD9⟩, hS.F ht⟩) hS.2.2 dX5_copy_58

set_option maxHeartbeats 4000000 in
set_option maxRecDepth 100000 in
theorem c_X5_copy_2 (l : Launch)  (dC : Nat → ClassId) (dI : Nat → Nat → Nat) (cI : ClassId) (g0 ps pk pa pb pq pw pt : Nat) (co ru we wr ty : Int) (sf : Nat → Int) (sl ot : Int) (sz : Nat) (hp0 : 0 ≤ sl ∧ sl ≤ 9) (hp1 : 0 ≤ ot ∧ ot ≤ 9) (hp2 : sf sl.toNat = -1) : Met l yX5_copy wsX5_copy ({ frames := 2, cells := 0, slots := 0, locals := 42 }) (zPw (dC, dI) [(cI, .int)] sz [.ref g0, .int (zi sl), .int (zi ot)] [(g0, .inr (5, [.int (zi co), .ref ps, .int (zi ru), .ref pk, .ref pa, .ref pb, .ref pq, .int (zi we), .int (zi wr), .ref pw, .int (zi ty), .ref pt])), (ps, aI cI 10 sf)]) (va_Qi (fun (r : Int32) (_ : Unit) => r = zi 0) (zB (dC, dI) [(cI, .int)] (va_A [(g0, .inr (5, [.int (zi co), .ref ps, .int (zi ru), .ref pk, .ref pa, .ref pb, .ref pq, .int (zi we), .int (zi wr), .ref pw, .int (zi ty), .ref pt])), (ps, aI cI 10 sf)] sz) [(g0, .inr (5, [.int (zi 2), .ref ps, .int (zi ru), .ref pk, .ref pa, .ref pb, .ref pq, .int (zi we), .int (zi wr), .ref pw, .int (zi ty), .ref pt])), (ps, aI cI 10 sf)]) (va_A [(g0, .inr (5, [.int (zi co), .ref ps, .int (zi ru), .ref pk, .ref pa, .ref pb, .ref pq, .int (zi we), .int (zi wr), .ref pw, .int (zi ty), .ref pt])), (ps, aI cI 10 sf)] sz)) 0 0 (va_A [(g0, .inr (5, [.int (zi co), .ref ps, .int (zi ru), .ref pk, .ref pa, .ref pb, .ref pq, .int (zi we), .int (zi wr), .ref pw, .int (zi ty), .ref pt])), (ps, aI cI 10 sf)] sz) := by
  refine Met.ofW (cc := cX5_copy) (maxL := 3) (ret := (some .int)) (by decide) rfl ?_
  intro p e s m args below meth c s₁ B hml hv
  obtain ⟨rfl, hsz, hP, hK, hD0⟩ := hv
  have hx := B.exec
  have hb := B.bytes
  have hr := B.returns
  have hts := atoms_spec (ws := wsX5_copy) B.pre
  have hown : s.vm.findClass RX5 = some m.cls := findClass_of_methodNamed B.named
  have hlocks := B.notSynchronized
  subst hsz
  have hD := hD0.self (sz := s.heap.size)
  generalize hAe : va_A [(g0, .inr (5, [.int (zi co), .ref ps, .int (zi ru), .ref pk, .ref pa, .ref pb, .ref pq, .int (zi we), .int (zi wr), .ref pw, .int (zi ty), .ref pt])), (ps, aI cI 10 sf)] s.heap.size = A at hD ⊢
  have hA : ∀ q : Nat, s.heap.size ≤ q → A q := fun q h => by rw [← hAe]; exact Or.inr h
  have hS : va_S A s.heap s.heap [] := va_S.rf
  have hP : va_P (dC, dI) vwCl [(g0, .inr (5, [.int (zi co), .ref ps, .int (zi ru), .ref pk, .ref pa, .ref pb, .ref pq, .int (zi we), .int (zi wr), .ref pw, .int (zi ty), .ref pt])), (ps, aI cI 10 sf)] s.heap := hP
  have hl := lv_entry ([.ref g0, .int (zi sl), .int (zi ot)]) (n := 3) (Nat.le_of_ble_eq_true rfl)
  rw [lg_entry_eq]
  generalize (lg_sl ([.ref g0, .int (zi sl), .int (zi ot)]) ++ List.replicate (3 - (lg_sl ([.ref g0, .int (zi sl), .int (zi ot)])).length) Slot.unset).toArray = ls at hl ⊢
  have hl : lv_has ls 3 [(0, .ref g0), (1, .int (zi sl)), (2, .int (zi ot))] := hl
  refine lv_aload_n hx hb dX5_copy_0 rfl (lv_at hl 0 rfl) ?_
  refine lv_iload_n hx hb dX5_copy_1 rfl (lv_at hl 1 rfl) ?_
  have hh1 := c_X5_isSlot l sl (by omega)
  refine vp_callSi (va_Run.run (va_runS (As := [.int (zi sl)]) (rest := [.ref g0]) ⟨hx, hb, hml, hown, hts⟩ hh1 (va_cwS 1 hts gX5_copy_X5_isSlot rfl rfl rfl (by decide +kernel) ⟨Nat.le_of_ble_eq_true rfl, Nat.le_of_ble_eq_true rfl⟩) ⟨fun a U g mk q => q, fun U hU hW => ⟨rfl, trivial⟩⟩ rfl rfl hl.1 rfl (lv_room (Nat.le_of_ble_eq_true rfl)) dX5_copy_2 ⟨Nat.zero_le _, Nat.zero_le _⟩)) (fun r1 (hr1 : r1 = zi (f_X5_isSlot sl)) => ?_)
  subst hr1
  have hf1 := b_X5_isSlot sl (by omega)
  refine zw_if_eq (tgt := 15) hx hb dX5_copy_5 (by decide) ⟨by omega, by omega⟩ (fun h2 => ?_) (fun h2 => ?_)
  · skip
    exact absurd True.intro (by omega)
  · skip
    refine lv_iload_n hx hb dX5_copy_8 rfl (lv_at hl 2 rfl) ?_
    have hh3 := c_X5_isSlot l ot (by omega)
    refine vp_callSi (va_Run.run (va_runS (As := [.int (zi ot)]) (rest := [.ref g0]) ⟨hx, hb, hml, hown, hts⟩ hh3 (va_cwS 1 hts gX5_copy_X5_isSlot rfl rfl rfl (by decide +kernel) ⟨Nat.le_of_ble_eq_true rfl, Nat.le_of_ble_eq_true rfl⟩) ⟨fun a U g mk q => q, fun U hU hW => ⟨rfl, trivial⟩⟩ rfl rfl hl.1 rfl (lv_room (Nat.le_of_ble_eq_true rfl)) dX5_copy_9 ⟨Nat.zero_le _, Nat.zero_le _⟩)) (fun r3 (hr3 : r3 = zi (f_X5_isSlot ot)) => ?_)
    subst hr3
    have hf3 := b_X5_isSlot ot (by omega)
    refine zw_if_ne (tgt := 19) hx hb dX5_copy_12 (by decide) ⟨by omega, by omega⟩ (fun h4 => ?_) (fun h4 => ?_)
    · skip
      refine lv_aload_n hx hb dX5_copy_19 rfl (lv_at hl 0 rfl) ?_
      refine va_get (D := (dC, dI)) (ci := 5) (v := .ref ps) (C := RX5) (T := TX5) (N := 12) hx hb hts (by decide +kernel) hown hK hP 0 rfl rfl 1 (by decide) (hts (.fieldLink RX5 7 "CivilDaysModel" "slots" "[I") (by decide +kernel)) (fun _ h9 => h9) rfl dX5_copy_20 ?_
      refine lv_iload_n hx hb dX5_copy_23 rfl (lv_at hl 1 rfl) ?_
      refine zw_iald hx hb hK hP 1 0 rfl rfl (by omega) (by omega) ⟨by omega, by omega⟩ dX5_copy_24 ?_
      refine zw_if_ge (tgt := 32) hx hb dX5_copy_25 (by decide) ⟨by omega, by omega⟩ (fun h5 => ?_) (fun h5 => ?_)
      · skip
        exact absurd True.intro (by omega)
      · skip
        refine zw_iconst hx hb dX5_copy_28 ?_
        refine lv_goto (tgt := 33) hx hb dX5_copy_29 (by decide) ?_
        refine va_put (D := (dC, dI)) (ci := 5) (v := .int (zi 2)) (ty := .int) (C := RX5) (T := TX5) (N := 12) hx hb hts (by decide +kernel) tyX5 tyX5_ok nmX5 hown hK hP hD hS 0 rfl rfl 0 (by decide) (hts (.fieldLink RX5 35 "CivilDaysModel" "code" "I") (by decide +kernel)) (fun _ h9 => h9) rfl (by decide +kernel) rfl rfl (Nat.le_of_ble_eq_true rfl) dX5_copy_33 (fun H locs hP hD hS => ?_)
        have hP : va_P (dC, dI) vwCl [(g0, .inr (5, [.int (zi 2), .ref ps, .int (zi ru), .ref pk, .ref pa, .ref pb, .ref pq, .int (zi we), .int (zi wr), .ref pw, .int (zi ty), .ref pt])), (ps, aI cI 10 sf)] H := hP
        have hD : va_D A [(g0, .inr (5, [.int (zi 2), .ref ps, .int (zi ru), .ref pk, .ref pa, .ref pb, .ref pq, .int (zi we), .int (zi wr), .ref pw, .int (zi ty), .ref pt])), (ps, aI cI 10 sf)] := hD
        refine lv_aload_n hx hb dX5_copy_36 rfl (lv_at hl 0 rfl) ?_
        refine va_get (D := (dC, dI)) (ci := 5) (v := .int (zi 2)) (C := RX5) (T := TX5) (N := 12) hx hb hts (by decide +kernel) hown hK hP 0 rfl rfl 0 (by decide) (hts (.fieldLink RX5 35 "CivilDaysModel" "code" "I") (by decide +kernel)) (fun _ h9 => h9) rfl dX5_copy_37 ?_
        refine zw_if_le (tgt := 47) hx hb dX5_copy_40 (by decide) ⟨by omega, by omega⟩ (fun h6 => ?_) (fun h6 => ?_)
        · skip
          exact absurd True.intro (by omega)
        · skip
          refine zw_iconst hx hb dX5_copy_43 ?_
          refine lv_goto (tgt := 58) hx hb dX5_copy_44 (by decide) ?_
          have hP9 := hP.sub (ws' := [(g0, .inr (5, [.int (zi 2), .ref ps, .int (zi ru), .ref pk, .ref pa, .ref pb, .ref pq, .int (zi we), .int (zi wr), .ref pw, .int (zi ty), .ref pt])), (ps, aI cI 10 sf)]) [0, 1] rfl
          have hD9 := hD.sub (ws' := [(g0, .inr (5, [.int (zi 2), .ref ps, .int (zi ru), .ref pk, .ref pa, .ref pb, .ref pq, .int (zi we), .int (zi wr), .ref pw, .int (zi ty), .ref pt])), (ps, aI cI 10 sf)]) [0, 1] (by decide) rfl
          exact W.iret (v := zi 0) hx hb hr (fun t ht hW => ⟨⟨zi 0, (), rfl, rfl, by rw [ht]; exact hP9, va_K.moved hW.alike hK, hD9⟩, hS.F ht⟩) hS.2.2 dX5_copy_58
    · skip
      exact absurd True.intro (by omega)

set_option maxHeartbeats 4000000 in
set_option maxRecDepth 100000 in
theorem c_X5_copy (l : Launch)  (dC : Nat → ClassId) (dI : Nat → Nat → Nat) (cI : ClassId) (g0 ps pk pa pb pq pw pt : Nat) (co ru we wr ty : Int) (sf : Nat → Int) (sl ot : Int) (sz : Nat) (hp0 : 0 ≤ sl ∧ sl ≤ 9) (hp1 : 0 ≤ ot ∧ ot ≤ 9) (hp2 : 0 ≤ sf sl.toNat ∧ sf sl.toNat ≤ 3652058) : Met l yX5_copy wsX5_copy ({ frames := 2, cells := 0, slots := 0, locals := 42 }) (zPw (dC, dI) [(cI, .int)] sz [.ref g0, .int (zi sl), .int (zi ot)] [(g0, .inr (5, [.int (zi co), .ref ps, .int (zi ru), .ref pk, .ref pa, .ref pb, .ref pq, .int (zi we), .int (zi wr), .ref pw, .int (zi ty), .ref pt])), (ps, aI cI 10 sf)]) (va_Qi (fun (r : Int32) (_ : Unit) => r = zi (sf sl.toNat)) (zB (dC, dI) [(cI, .int)] (va_A [(g0, .inr (5, [.int (zi co), .ref ps, .int (zi ru), .ref pk, .ref pa, .ref pb, .ref pq, .int (zi we), .int (zi wr), .ref pw, .int (zi ty), .ref pt])), (ps, aI cI 10 sf)] sz) [(g0, .inr (5, [.int (zi 0), .ref ps, .int (zi ru), .ref pk, .ref pa, .ref pb, .ref pq, .int (zi we), .int (zi wr), .ref pw, .int (zi ty), .ref pt])), (ps, aI cI 10 (zup sf ot.toNat (sf sl.toNat)))]) (va_A [(g0, .inr (5, [.int (zi co), .ref ps, .int (zi ru), .ref pk, .ref pa, .ref pb, .ref pq, .int (zi we), .int (zi wr), .ref pw, .int (zi ty), .ref pt])), (ps, aI cI 10 sf)] sz)) 0 0 (va_A [(g0, .inr (5, [.int (zi co), .ref ps, .int (zi ru), .ref pk, .ref pa, .ref pb, .ref pq, .int (zi we), .int (zi wr), .ref pw, .int (zi ty), .ref pt])), (ps, aI cI 10 sf)] sz) := by
  refine Met.ofW (cc := cX5_copy) (maxL := 3) (ret := (some .int)) (by decide) rfl ?_
  intro p e s m args below meth c s₁ B hml hv
  obtain ⟨rfl, hsz, hP, hK, hD0⟩ := hv
  have hx := B.exec
  have hb := B.bytes
  have hr := B.returns
  have hts := atoms_spec (ws := wsX5_copy) B.pre
  have hown : s.vm.findClass RX5 = some m.cls := findClass_of_methodNamed B.named
  have hlocks := B.notSynchronized
  subst hsz
  have hD := hD0.self (sz := s.heap.size)
  generalize hAe : va_A [(g0, .inr (5, [.int (zi co), .ref ps, .int (zi ru), .ref pk, .ref pa, .ref pb, .ref pq, .int (zi we), .int (zi wr), .ref pw, .int (zi ty), .ref pt])), (ps, aI cI 10 sf)] s.heap.size = A at hD ⊢
  have hA : ∀ q : Nat, s.heap.size ≤ q → A q := fun q h => by rw [← hAe]; exact Or.inr h
  have hS : va_S A s.heap s.heap [] := va_S.rf
  have hP : va_P (dC, dI) vwCl [(g0, .inr (5, [.int (zi co), .ref ps, .int (zi ru), .ref pk, .ref pa, .ref pb, .ref pq, .int (zi we), .int (zi wr), .ref pw, .int (zi ty), .ref pt])), (ps, aI cI 10 sf)] s.heap := hP
  have hl := lv_entry ([.ref g0, .int (zi sl), .int (zi ot)]) (n := 3) (Nat.le_of_ble_eq_true rfl)
  rw [lg_entry_eq]
  generalize (lg_sl ([.ref g0, .int (zi sl), .int (zi ot)]) ++ List.replicate (3 - (lg_sl ([.ref g0, .int (zi sl), .int (zi ot)])).length) Slot.unset).toArray = ls at hl ⊢
  have hl : lv_has ls 3 [(0, .ref g0), (1, .int (zi sl)), (2, .int (zi ot))] := hl
  refine lv_aload_n hx hb dX5_copy_0 rfl (lv_at hl 0 rfl) ?_
  refine lv_iload_n hx hb dX5_copy_1 rfl (lv_at hl 1 rfl) ?_
  have hh1 := c_X5_isSlot l sl (by omega)
  refine vp_callSi (va_Run.run (va_runS (As := [.int (zi sl)]) (rest := [.ref g0]) ⟨hx, hb, hml, hown, hts⟩ hh1 (va_cwS 1 hts gX5_copy_X5_isSlot rfl rfl rfl (by decide +kernel) ⟨Nat.le_of_ble_eq_true rfl, Nat.le_of_ble_eq_true rfl⟩) ⟨fun a U g mk q => q, fun U hU hW => ⟨rfl, trivial⟩⟩ rfl rfl hl.1 rfl (lv_room (Nat.le_of_ble_eq_true rfl)) dX5_copy_2 ⟨Nat.zero_le _, Nat.zero_le _⟩)) (fun r1 (hr1 : r1 = zi (f_X5_isSlot sl)) => ?_)
  subst hr1
  have hf1 := b_X5_isSlot sl (by omega)
  refine zw_if_eq (tgt := 15) hx hb dX5_copy_5 (by decide) ⟨by omega, by omega⟩ (fun h2 => ?_) (fun h2 => ?_)
  · skip
    exact absurd True.intro (by omega)
  · skip
    refine lv_iload_n hx hb dX5_copy_8 rfl (lv_at hl 2 rfl) ?_
    have hh3 := c_X5_isSlot l ot (by omega)
    refine vp_callSi (va_Run.run (va_runS (As := [.int (zi ot)]) (rest := [.ref g0]) ⟨hx, hb, hml, hown, hts⟩ hh3 (va_cwS 1 hts gX5_copy_X5_isSlot rfl rfl rfl (by decide +kernel) ⟨Nat.le_of_ble_eq_true rfl, Nat.le_of_ble_eq_true rfl⟩) ⟨fun a U g mk q => q, fun U hU hW => ⟨rfl, trivial⟩⟩ rfl rfl hl.1 rfl (lv_room (Nat.le_of_ble_eq_true rfl)) dX5_copy_9 ⟨Nat.zero_le _, Nat.zero_le _⟩)) (fun r3 (hr3 : r3 = zi (f_X5_isSlot ot)) => ?_)
    subst hr3
    have hf3 := b_X5_isSlot ot (by omega)
    refine zw_if_ne (tgt := 19) hx hb dX5_copy_12 (by decide) ⟨by omega, by omega⟩ (fun h4 => ?_) (fun h4 => ?_)
    · skip
      refine lv_aload_n hx hb dX5_copy_19 rfl (lv_at hl 0 rfl) ?_
      refine va_get (D := (dC, dI)) (ci := 5) (v := .ref ps) (C := RX5) (T := TX5) (N := 12) hx hb hts (by decide +kernel) hown hK hP 0 rfl rfl 1 (by decide) (hts (.fieldLink RX5 7 "CivilDaysModel" "slots" "[I") (by decide +kernel)) (fun _ h9 => h9) rfl dX5_copy_20 ?_
      refine lv_iload_n hx hb dX5_copy_23 rfl (lv_at hl 1 rfl) ?_
      refine zw_iald hx hb hK hP 1 0 rfl rfl (by omega) (by omega) ⟨by omega, by omega⟩ dX5_copy_24 ?_
      refine zw_if_ge (tgt := 32) hx hb dX5_copy_25 (by decide) ⟨by omega, by omega⟩ (fun h5 => ?_) (fun h5 => ?_)
      · skip
        refine zw_iconst hx hb dX5_copy_32 ?_
        refine va_put (D := (dC, dI)) (ci := 5) (v := .int (zi 0)) (ty := .int) (C := RX5) (T := TX5) (N := 12) hx hb hts (by decide +kernel) tyX5 tyX5_ok nmX5 hown hK hP hD hS 0 rfl rfl 0 (by decide) (hts (.fieldLink RX5 35 "CivilDaysModel" "code" "I") (by decide +kernel)) (fun _ h9 => h9) rfl (by decide +kernel) rfl rfl (Nat.le_of_ble_eq_true rfl) dX5_copy_33 (fun H locs hP hD hS => ?_)
        have hP : va_P (dC, dI) vwCl [(g0, .inr (5, [.int (zi 0), .ref ps, .int (zi ru), .ref pk, .ref pa, .ref pb, .ref pq, .int (zi we), .int (zi wr), .ref pw, .int (zi ty), .ref pt])), (ps, aI cI 10 sf)] H := hP
        have hD : va_D A [(g0, .inr (5, [.int (zi 0), .ref ps, .int (zi ru), .ref pk, .ref pa, .ref pb, .ref pq, .int (zi we), .int (zi wr), .ref pw, .int (zi ty), .ref pt])), (ps, aI cI 10 sf)] := hD
        refine lv_aload_n hx hb dX5_copy_36 rfl (lv_at hl 0 rfl) ?_
        refine va_get (D := (dC, dI)) (ci := 5) (v := .int (zi 0)) (C := RX5) (T := TX5) (N := 12) hx hb hts (by decide +kernel) hown hK hP 0 rfl rfl 0 (by decide) (hts (.fieldLink RX5 35 "CivilDaysModel" "code" "I") (by decide +kernel)) (fun _ h9 => h9) rfl dX5_copy_37 ?_
        refine zw_if_le (tgt := 47) hx hb dX5_copy_40 (by decide) ⟨by omega, by omega⟩ (fun h6 => ?_) (fun h6 => ?_)
        · skip
          refine lv_aload_n hx hb dX5_copy_47 rfl (lv_at hl 0 rfl) ?_
          refine lv_iload_n hx hb dX5_copy_48 rfl (lv_at hl 2 rfl) ?_
          refine lv_aload_n hx hb dX5_copy_49 rfl (lv_at hl 0 rfl) ?_
          refine va_get (D := (dC, dI)) (ci := 5) (v := .ref ps) (C := RX5) (T := TX5) (N := 12) hx hb hts (by decide +kernel) hown hK hP 0 rfl rfl 1 (by decide) (hts (.fieldLink RX5 7 "CivilDaysModel" "slots" "[I") (by decide +kernel)) (fun _ h9 => h9) rfl dX5_copy_50 ?_
          refine lv_iload_n hx hb dX5_copy_53 rfl (lv_at hl 1 rfl) ?_
          refine zw_iald hx hb hK hP 1 0 rfl rfl (by omega) (by omega) ⟨by omega, by omega⟩ dX5_copy_54 ?_
          have hh7 := c_X5_lay l dC dI cI g0 ps pk pa pb pq pw pt 0 ru we wr ty sf ot (sf sl.toNat) H.size (by omega) (by omega)
          have hPc := hP.sub (ws' := [(g0, .inr (5, [.int (zi 0), .ref ps, .int (zi ru), .ref pk, .ref pa, .ref pb, .ref pq, .int (zi we), .int (zi wr), .ref pw, .int (zi ty), .ref pt])), (ps, aI cI 10 sf)]) [0, 1] rfl
          have hKc : va_K (dC, dI) vwCl [(cI, .int)] s := hK
          have hDc := hD.sub (ws' := [(g0, .inr (5, [.int (zi 0), .ref ps, .int (zi ru), .ref pk, .ref pa, .ref pb, .ref pq, .int (zi we), .int (zi wr), .ref pw, .int (zi ty), .ref pt])), (ps, aI cI 10 sf)]) [0, 1] (by decide) rfl
          have hFc := va_free (wc := [(g0, .inr (5, [.int (zi 0), .ref ps, .int (zi ru), .ref pk, .ref pa, .ref pb, .ref pq, .int (zi we), .int (zi wr), .ref pw, .int (zi ty), .ref pt])), (ps, aI cI 10 sf)]) hD hS hA [0, 1] rfl
          refine va_calli (va_runV (As := [.int (zi ot), .int (zi (sf sl.toNat))]) (rest := []) ⟨hx, hb, hml, hown, hts⟩ hh7 (cwV 2 hts gX5_copy_X5_lay rfl rfl rfl (by decide +kernel) ⟨Nat.le_of_ble_eq_true rfl, Nat.le_of_ble_eq_true rfl⟩) ⟨zPw.blind _ _ _ _ _, va_recv hKc hPc (ci := 5) (q0 := 0) rfl rfl, fun U hU hW => ⟨rfl, by rw [hU], by rw [hU]; exact hPc, va_K.moved hW.alike hKc, hDc.weaken (fun _ _ _ _ => trivial)⟩⟩ rfl rfl hl.1 rfl (lv_room (Nat.le_of_ble_eq_true rfl)) dX5_copy_55 ⟨Nat.le_of_ble_eq_true rfl, Nat.le_of_ble_eq_true rfl⟩) hS (fun q _ h => hFc q h) hFc (fun r7 u t H1 locs ht hvm hw hB hz1 hk1 hS => ?_)
          obtain ⟨hP1, hK1, hD1⟩ := hB
          rw [ht] at hP1
          obtain ⟨hP, hD⟩ := va_join (wr := []) (w1 := [(g0, .inr (5, [.int (zi 0), .ref ps, .int (zi ru), .ref pk, .ref pa, .ref pb, .ref pq, .int (zi we), .int (zi wr), .ref pw, .int (zi ty), .ref pt])), (ps, aI cI 10 (zup sf ot.toNat (sf sl.toNat)))]) hP hD [0, 1] [] rfl rfl (by decide) (by decide) hk1 hFc hP1 hD1
          generalize H1 = H at hP hS ⊢
          obtain rfl : r7 = zi (sf sl.toNat) := hw
          have hP : va_P (dC, dI) vwCl [(g0, .inr (5, [.int (zi 0), .ref ps, .int (zi ru), .ref pk, .ref pa, .ref pb, .ref pq, .int (zi we), .int (zi wr), .ref pw, .int (zi ty), .ref pt])), (ps, aI cI 10 (zup sf ot.toNat (sf sl.toNat)))] H := hP
          have hD : va_D A [(g0, .inr (5, [.int (zi 0), .ref ps, .int (zi ru), .ref pk, .ref pa, .ref pb, .ref pq, .int (zi we), .int (zi wr), .ref pw, .int (zi ty), .ref pt])), (ps, aI cI 10 (zup sf ot.toNat (sf sl.toNat)))] := hD
          have hP9 := hP.sub (ws' := [(g0, .inr (5, [.int (zi 0), .ref ps, .int (zi ru), .ref pk, .ref pa, .ref pb, .ref pq, .int (zi we), .int (zi wr), .ref pw, .int (zi ty), .ref pt])), (ps, aI cI 10 (zup sf ot.toNat (sf sl.toNat)))]) [0, 1] rfl
          have hD9 := hD.sub (ws' := [(g0, .inr (5, [.int (zi 0), .ref ps, .int (zi ru), .ref pk, .ref pa, .ref pb, .ref pq, .int (zi we), .int (zi wr), .ref pw, .int (zi ty), .ref pt])), (ps, aI cI 10 (zup sf ot.toNat (sf sl.toNat)))]) [0, 1] (by decide) rfl
          exact W.iret (v := zi (sf sl.toNat)) hx hb hr (fun t ht hW => ⟨⟨zi (sf sl.toNat), (), rfl, rfl, by rw [ht]; exact hP9, va_K.moved hW.alike hK, hD9⟩, hS.F ht⟩) hS.2.2 dX5_copy_58
        · skip
          exact absurd True.intro (by omega)
      · skip
        exact absurd True.intro (by omega)
    · skip
      exact absurd True.intro (by omega)

set_option maxHeartbeats 4000000 in
set_option maxRecDepth 100000 in
theorem c_X5_move_1 (l : Launch)  (dC : Nat → ClassId) (dI : Nat → Nat → Nat) (cI : ClassId) (g0 ps pk pa pb pq pw pt : Nat) (co ru we wr ty : Int) (sf : Nat → Int) (sl many un : Int) (sz : Nat) (hp0 : -2147483648 ≤ sl ∧ sl ≤ 2147483647) (hp1 : sl < 0 ∨ 9 < sl) (hp2 : -2147483648 ≤ many ∧ many ≤ 2147483647) (hp3 : -2147483648 ≤ un ∧ un ≤ 2147483647) : Met l yX5_move wsX5_move ({ frames := 2, cells := 0, slots := 0, locals := 42 }) (zPw (dC, dI) [(cI, .int)] sz [.ref g0, .int (zi sl), .int (zi many), .int (zi un)] [(g0, .inr (5, [.int (zi co), .ref ps, .int (zi ru), .ref pk, .ref pa, .ref pb, .ref pq, .int (zi we), .int (zi wr), .ref pw, .int (zi ty), .ref pt])), (ps, aI cI 10 sf)]) (va_Qi (fun (r : Int32) (_ : Unit) => r = zi 0) (zB (dC, dI) [(cI, .int)] (va_A [(g0, .inr (5, [.int (zi co), .ref ps, .int (zi ru), .ref pk, .ref pa, .ref pb, .ref pq, .int (zi we), .int (zi wr), .ref pw, .int (zi ty), .ref pt])), (ps, aI cI 10 sf)] sz) [(g0, .inr (5, [.int (zi 1), .ref ps, .int (zi ru), .ref pk, .ref pa, .ref pb, .ref pq, .int (zi we), .int (zi wr), .ref pw, .int (zi ty), .ref pt])), (ps, aI cI 10 sf)]) (va_A [(g0, .inr (5, [.int (zi co), .ref ps, .int (zi ru), .ref pk, .ref pa, .ref pb, .ref pq, .int (zi we), .int (zi wr), .ref pw, .int (zi ty), .ref pt])), (ps, aI cI 10 sf)] sz)) 0 0 (va_A [(g0, .inr (5, [.int (zi co), .ref ps, .int (zi ru), .ref pk, .ref pa, .ref pb, .ref pq, .int (zi we), .int (zi wr), .ref pw, .int (zi ty), .ref pt])), (ps, aI cI 10 sf)] sz) := by
  refine Met.ofW (cc := cX5_move) (maxL := 7) (ret := (some .int)) (by decide) rfl ?_
  intro p e s m args below meth c s₁ B hml hv
  obtain ⟨rfl, hsz, hP, hK, hD0⟩ := hv
  have hx := B.exec
  have hb := B.bytes
  have hr := B.returns
  have hts := atoms_spec (ws := wsX5_move) B.pre
  have hown : s.vm.findClass RX5 = some m.cls := findClass_of_methodNamed B.named
  have hlocks := B.notSynchronized
  subst hsz
  have hD := hD0.self (sz := s.heap.size)
  generalize hAe : va_A [(g0, .inr (5, [.int (zi co), .ref ps, .int (zi ru), .ref pk, .ref pa, .ref pb, .ref pq, .int (zi we), .int (zi wr), .ref pw, .int (zi ty), .ref pt])), (ps, aI cI 10 sf)] s.heap.size = A at hD ⊢
  have hA : ∀ q : Nat, s.heap.size ≤ q → A q := fun q h => by rw [← hAe]; exact Or.inr h
  have hS : va_S A s.heap s.heap [] := va_S.rf
  have hP : va_P (dC, dI) vwCl [(g0, .inr (5, [.int (zi co), .ref ps, .int (zi ru), .ref pk, .ref pa, .ref pb, .ref pq, .int (zi we), .int (zi wr), .ref pw, .int (zi ty), .ref pt])), (ps, aI cI 10 sf)] s.heap := hP
  have hl := lv_entry ([.ref g0, .int (zi sl), .int (zi many), .int (zi un)]) (n := 7) (Nat.le_of_ble_eq_true rfl)
  rw [lg_entry_eq]
  generalize (lg_sl ([.ref g0, .int (zi sl), .int (zi many), .int (zi un)]) ++ List.replicate (7 - (lg_sl ([.ref g0, .int (zi sl), .int (zi many), .int (zi un)])).length) Slot.unset).toArray = ls at hl ⊢
  have hl : lv_has ls 7 [(0, .ref g0), (1, .int (zi sl)), (2, .int (zi many)), (3, .int (zi un))] := hl
  refine lv_aload_n hx hb dX5_move_0 rfl (lv_at hl 0 rfl) ?_
  refine lv_iload_n hx hb dX5_move_1 rfl (lv_at hl 1 rfl) ?_
  have hh1 := c_X5_isSlot l sl (by omega)
  refine vp_callSi (va_Run.run (va_runS (As := [.int (zi sl)]) (rest := [.ref g0]) ⟨hx, hb, hml, hown, hts⟩ hh1 (va_cwS 1 hts gX5_move_X5_isSlot rfl rfl rfl (by decide +kernel) ⟨Nat.le_of_ble_eq_true rfl, Nat.le_of_ble_eq_true rfl⟩) ⟨fun a U g mk q => q, fun U hU hW => ⟨rfl, trivial⟩⟩ rfl rfl hl.1 rfl (lv_room (Nat.le_of_ble_eq_true rfl)) dX5_move_2 ⟨Nat.zero_le _, Nat.zero_le _⟩)) (fun r1 (hr1 : r1 = zi (f_X5_isSlot sl)) => ?_)
  subst hr1
  have hf1 := b_X5_isSlot sl (by omega)
  refine zw_if_ne (tgt := 12) hx hb dX5_move_5 (by decide) ⟨by omega, by omega⟩ (fun h2 => ?_) (fun h2 => ?_)
  · skip
    exact absurd True.intro (by omega)
  · skip
    refine zw_iconst hx hb dX5_move_8 ?_
    refine lv_goto (tgt := 39) hx hb dX5_move_9 (by decide) ?_
    refine va_put (D := (dC, dI)) (ci := 5) (v := .int (zi 1)) (ty := .int) (C := RX5) (T := TX5) (N := 12) hx hb hts (by decide +kernel) tyX5 tyX5_ok nmX5 hown hK hP hD hS 0 rfl rfl 0 (by decide) (hts (.fieldLink RX5 35 "CivilDaysModel" "code" "I") (by decide +kernel)) (fun _ h9 => h9) rfl (by decide +kernel) rfl rfl (Nat.le_of_ble_eq_true rfl) dX5_move_39 (fun H locs hP hD hS => ?_)
    have hP : va_P (dC, dI) vwCl [(g0, .inr (5, [.int (zi 1), .ref ps, .int (zi ru), .ref pk, .ref pa, .ref pb, .ref pq, .int (zi we), .int (zi wr), .ref pw, .int (zi ty), .ref pt])), (ps, aI cI 10 sf)] H := hP
    have hD : va_D A [(g0, .inr (5, [.int (zi 1), .ref ps, .int (zi ru), .ref pk, .ref pa, .ref pb, .ref pq, .int (zi we), .int (zi wr), .ref pw, .int (zi ty), .ref pt])), (ps, aI cI 10 sf)] := hD
    refine lv_aload_n hx hb dX5_move_42 rfl (lv_at hl 0 rfl) ?_
    refine va_get (D := (dC, dI)) (ci := 5) (v := .int (zi 1)) (C := RX5) (T := TX5) (N := 12) hx hb hts (by decide +kernel) hown hK hP 0 rfl rfl 0 (by decide) (hts (.fieldLink RX5 35 "CivilDaysModel" "code" "I") (by decide +kernel)) (fun _ h9 => h9) rfl dX5_move_43 ?_
    refine zw_if_le (tgt := 51) hx hb dX5_move_46 (by decide) ⟨by omega, by omega⟩ (fun h3 => ?_) (fun h3 => ?_)
    · skip
      exact absurd True.intro (by omega)
    · skip
      refine zw_iconst hx hb dX5_move_49 ?_
      have hP9 := hP.sub (ws' := [(g0, .inr (5, [.int (zi 1), .ref ps, .int (zi ru), .ref pk, .ref pa, .ref pb, .ref pq, .int (zi we), .int (zi wr), .ref pw, .int (zi ty), .ref pt])), (ps, aI cI 10 sf)]) [0, 1] rfl
      have hD9 := hD.sub (ws' := [(g0, .inr (5, [.int (zi 1), .ref ps, .int (zi ru), .ref pk, .ref pa, .ref pb, .ref pq, .int (zi we), .int (zi wr), .ref pw, .int (zi ty), .ref pt])), (ps, aI cI 10 sf)]) [0, 1] (by decide) rfl
      exact W.iret (v := zi 0) hx hb hr (fun t ht hW => ⟨⟨zi 0, (), rfl, rfl, by rw [ht]; exact hP9, va_K.moved hW.alike hK, hD9⟩, hS.F ht⟩) hS.2.2 dX5_move_50

set_option maxHeartbeats 4000000 in
set_option maxRecDepth 100000 in
theorem c_X5_move_2 (l : Launch)  (dC : Nat → ClassId) (dI : Nat → Nat → Nat) (cI : ClassId) (g0 ps pk pa pb pq pw pt : Nat) (co ru we wr ty : Int) (sf : Nat → Int) (sl many un : Int) (sz : Nat) (hp0 : 0 ≤ sl ∧ sl ≤ 9) (hp1 : -2147483648 ≤ many ∧ many ≤ 2147483647) (hp2 : -2147483648 ≤ un ∧ un ≤ 2147483647) (hp3 : un < 0 ∨ 2 < un) : Met l yX5_move wsX5_move ({ frames := 2, cells := 0, slots := 0, locals := 42 }) (zPw (dC, dI) [(cI, .int)] sz [.ref g0, .int (zi sl), .int (zi many), .int (zi un)] [(g0, .inr (5, [.int (zi co), .ref ps, .int (zi ru), .ref pk, .ref pa, .ref pb, .ref pq, .int (zi we), .int (zi wr), .ref pw, .int (zi ty), .ref pt])), (ps, aI cI 10 sf)]) (va_Qi (fun (r : Int32) (_ : Unit) => r = zi 0) (zB (dC, dI) [(cI, .int)] (va_A [(g0, .inr (5, [.int (zi co), .ref ps, .int (zi ru), .ref pk, .ref pa, .ref pb, .ref pq, .int (zi we), .int (zi wr), .ref pw, .int (zi ty), .ref pt])), (ps, aI cI 10 sf)] sz) [(g0, .inr (5, [.int (zi 2), .ref ps, .int (zi ru), .ref pk, .ref pa, .ref pb, .ref pq, .int (zi we), .int (zi wr), .ref pw, .int (zi ty), .ref pt])), (ps, aI cI 10 sf)]) (va_A [(g0, .inr (5, [.int (zi co), .ref ps, .int (zi ru), .ref pk, .ref pa, .ref pb, .ref pq, .int (zi we), .int (zi wr), .ref pw, .int (zi ty), .ref pt])), (ps, aI cI 10 sf)] sz)) 0 0 (va_A [(g0, .inr (5, [.int (zi co), .ref ps, .int (zi ru), .ref pk, .ref pa, .ref pb, .ref pq, .int (zi we), .int (zi wr), .ref pw, .int (zi ty), .ref pt])), (ps, aI cI 10 sf)] sz) := by
  refine Met.ofW (cc := cX5_move) (maxL := 7) (ret := (some .int)) (by decide) rfl ?_
  intro p e s m args below meth c s₁ B hml hv
  obtain ⟨rfl, hsz, hP, hK, hD0⟩ := hv
  have hx := B.exec
  have hb := B.bytes
  have hr := B.returns
  have hts := atoms_spec (ws := wsX5_move) B.pre
  have hown : s.vm.findClass RX5 = some m.cls := findClass_of_methodNamed B.named
  have hlocks := B.notSynchronized
  subst hsz
  have hD := hD0.self (sz := s.heap.size)
  generalize hAe : va_A [(g0, .inr (5, [.int (zi co), .ref ps, .int (zi ru), .ref pk, .ref pa, .ref pb, .ref pq, .int (zi we), .int (zi wr), .ref pw, .int (zi ty), .ref pt])), (ps, aI cI 10 sf)] s.heap.size = A at hD ⊢
  have hA : ∀ q : Nat, s.heap.size ≤ q → A q := fun q h => by rw [← hAe]; exact Or.inr h
  have hS : va_S A s.heap s.heap [] := va_S.rf
  have hP : va_P (dC, dI) vwCl [(g0, .inr (5, [.int (zi co), .ref ps, .int (zi ru), .ref pk, .ref pa, .ref pb, .ref pq, .int (zi we), .int (zi wr), .ref pw, .int (zi ty), .ref pt])), (ps, aI cI 10 sf)] s.heap := hP
  have hl := lv_entry ([.ref g0, .int (zi sl), .int (zi many), .int (zi un)]) (n := 7) (Nat.le_of_ble_eq_true rfl)
  rw [lg_entry_eq]
  generalize (lg_sl ([.ref g0, .int (zi sl), .int (zi many), .int (zi un)]) ++ List.replicate (7 - (lg_sl ([.ref g0, .int (zi sl), .int (zi many), .int (zi un)])).length) Slot.unset).toArray = ls at hl ⊢
  have hl : lv_has ls 7 [(0, .ref g0), (1, .int (zi sl)), (2, .int (zi many)), (3, .int (zi un))] := hl
  refine lv_aload_n hx hb dX5_move_0 rfl (lv_at hl 0 rfl) ?_
  refine lv_iload_n hx hb dX5_move_1 rfl (lv_at hl 1 rfl) ?_
  have hh1 := c_X5_isSlot l sl (by omega)
  refine vp_callSi (va_Run.run (va_runS (As := [.int (zi sl)]) (rest := [.ref g0]) ⟨hx, hb, hml, hown, hts⟩ hh1 (va_cwS 1 hts gX5_move_X5_isSlot rfl rfl rfl (by decide +kernel) ⟨Nat.le_of_ble_eq_true rfl, Nat.le_of_ble_eq_true rfl⟩) ⟨fun a U g mk q => q, fun U hU hW => ⟨rfl, trivial⟩⟩ rfl rfl hl.1 rfl (lv_room (Nat.le_of_ble_eq_true rfl)) dX5_move_2 ⟨Nat.zero_le _, Nat.zero_le _⟩)) (fun r1 (hr1 : r1 = zi (f_X5_isSlot sl)) => ?_)
  subst hr1
  have hf1 := b_X5_isSlot sl (by omega)
  refine zw_if_ne (tgt := 12) hx hb dX5_move_5 (by decide) ⟨by omega, by omega⟩ (fun h2 => ?_) (fun h2 => ?_)
  · skip
    refine lv_iload_n hx hb dX5_move_12 rfl (lv_at hl 3 rfl) ?_
    refine zw_iconst hx hb dX5_move_13 ?_
    refine zw_iconst hx hb dX5_move_14 ?_
    have hh3 := c_X5_in l un 0 2 (by omega) (by omega) (by omega)
    refine vp_callSi (va_Run.run (va_runS (As := [.int (zi un), .int (zi 0), .int (zi 2)]) (rest := [.ref g0]) ⟨hx, hb, hml, hown, hts⟩ hh3 (va_cwS 3 hts gX5_move_X5_in rfl rfl rfl (by decide +kernel) ⟨Nat.le_of_ble_eq_true rfl, Nat.le_of_ble_eq_true rfl⟩) ⟨fun a U g mk q => q, fun U hU hW => ⟨rfl, trivial⟩⟩ rfl rfl hl.1 rfl (lv_room (Nat.le_of_ble_eq_true rfl)) dX5_move_15 ⟨Nat.zero_le _, Nat.zero_le _⟩)) (fun r3 (hr3 : r3 = zi (f_X5_in un 0 2)) => ?_)
    subst hr3
    have hf3 := b_X5_in un 0 2 (by omega) (by omega) (by omega)
    refine zw_if_ne (tgt := 25) hx hb dX5_move_18 (by decide) ⟨by omega, by omega⟩ (fun h4 => ?_) (fun h4 => ?_)
    · skip
      exact absurd True.intro (by omega)
    · skip
      refine zw_iconst hx hb dX5_move_21 ?_
      refine lv_goto (tgt := 39) hx hb dX5_move_22 (by decide) ?_
      refine va_put (D := (dC, dI)) (ci := 5) (v := .int (zi 2)) (ty := .int) (C := RX5) (T := TX5) (N := 12) hx hb hts (by decide +kernel) tyX5 tyX5_ok nmX5 hown hK hP hD hS 0 rfl rfl 0 (by decide) (hts (.fieldLink RX5 35 "CivilDaysModel" "code" "I") (by decide +kernel)) (fun _ h9 => h9) rfl (by decide +kernel) rfl rfl (Nat.le_of_ble_eq_true rfl) dX5_move_39 (fun H locs hP hD hS => ?_)
      have hP : va_P (dC, dI) vwCl [(g0, .inr (5, [.int (zi 2), .ref ps, .int (zi ru), .ref pk, .ref pa, .ref pb, .ref pq, .int (zi we), .int (zi wr), .ref pw, .int (zi ty), .ref pt])), (ps, aI cI 10 sf)] H := hP
      have hD : va_D A [(g0, .inr (5, [.int (zi 2), .ref ps, .int (zi ru), .ref pk, .ref pa, .ref pb, .ref pq, .int (zi we), .int (zi wr), .ref pw, .int (zi ty), .ref pt])), (ps, aI cI 10 sf)] := hD
      refine lv_aload_n hx hb dX5_move_42 rfl (lv_at hl 0 rfl) ?_
      refine va_get (D := (dC, dI)) (ci := 5) (v := .int (zi 2)) (C := RX5) (T := TX5) (N := 12) hx hb hts (by decide +kernel) hown hK hP 0 rfl rfl 0 (by decide) (hts (.fieldLink RX5 35 "CivilDaysModel" "code" "I") (by decide +kernel)) (fun _ h9 => h9) rfl dX5_move_43 ?_
      refine zw_if_le (tgt := 51) hx hb dX5_move_46 (by decide) ⟨by omega, by omega⟩ (fun h5 => ?_) (fun h5 => ?_)
      · skip
        exact absurd True.intro (by omega)
      · skip
        refine zw_iconst hx hb dX5_move_49 ?_
        have hP9 := hP.sub (ws' := [(g0, .inr (5, [.int (zi 2), .ref ps, .int (zi ru), .ref pk, .ref pa, .ref pb, .ref pq, .int (zi we), .int (zi wr), .ref pw, .int (zi ty), .ref pt])), (ps, aI cI 10 sf)]) [0, 1] rfl
        have hD9 := hD.sub (ws' := [(g0, .inr (5, [.int (zi 2), .ref ps, .int (zi ru), .ref pk, .ref pa, .ref pb, .ref pq, .int (zi we), .int (zi wr), .ref pw, .int (zi ty), .ref pt])), (ps, aI cI 10 sf)]) [0, 1] (by decide) rfl
        exact W.iret (v := zi 0) hx hb hr (fun t ht hW => ⟨⟨zi 0, (), rfl, rfl, by rw [ht]; exact hP9, va_K.moved hW.alike hK, hD9⟩, hS.F ht⟩) hS.2.2 dX5_move_50
  · skip
    exact absurd True.intro (by omega)

set_option maxHeartbeats 4000000 in
set_option maxRecDepth 100000 in
theorem c_X5_move_3 (l : Launch)  (dC : Nat → ClassId) (dI : Nat → Nat → Nat) (cI : ClassId) (g0 ps pk pa pb pq pw pt : Nat) (co ru we wr ty : Int) (sf : Nat → Int) (sl many un : Int) (sz : Nat) (hp0 : 0 ≤ sl ∧ sl ≤ 9) (hp1 : -2147483648 ≤ many ∧ many ≤ 2147483647) (hp2 : 0 ≤ un ∧ un ≤ 2) (hp3 : sf sl.toNat = -1) : Met l yX5_move wsX5_move ({ frames := 2, cells := 0, slots := 0, locals := 42 }) (zPw (dC, dI) [(cI, .int)] sz [.ref g0, .int (zi sl), .int (zi many), .int (zi un)] [(g0, .inr (5, [.int (zi co), .ref ps, .int (zi ru), .ref pk, .ref pa, .ref pb, .ref pq, .int (zi we), .int (zi wr), .ref pw, .int (zi ty), .ref pt])), (ps, aI cI 10 sf)]) (va_Qi (fun (r : Int32) (_ : Unit) => r = zi 0) (zB (dC, dI) [(cI, .int)] (va_A [(g0, .inr (5, [.int (zi co), .ref ps, .int (zi ru), .ref pk, .ref pa, .ref pb, .ref pq, .int (zi we), .int (zi wr), .ref pw, .int (zi ty), .ref pt])), (ps, aI cI 10 sf)] sz) [(g0, .inr (5, [.int (zi 3), .ref ps, .int (zi ru), .ref pk, .ref pa, .ref pb, .ref pq, .int (zi we), .int (zi wr), .ref pw, .int (zi ty), .ref pt])), (ps, aI cI 10 sf)]) (va_A [(g0, .inr (5, [.int (zi co), .ref ps, .int (zi ru), .ref pk, .ref pa, .ref pb, .ref pq, .int (zi we), .int (zi wr), .ref pw, .int (zi ty), .ref pt])), (ps, aI cI 10 sf)] sz)) 0 0 (va_A [(g0, .inr (5, [.int (zi co), .ref ps, .int (zi ru), .ref pk, .ref pa, .ref pb, .ref pq, .int (zi we), .int (zi wr), .ref pw, .int (zi ty), .ref pt])), (ps, aI cI 10 sf)] sz) := by
  refine Met.ofW (cc := cX5_move) (maxL := 7) (ret := (some .int)) (by decide) rfl ?_
  intro p e s m args below meth c s₁ B hml hv
  obtain ⟨rfl, hsz, hP, hK, hD0⟩ := hv
  have hx := B.exec
  have hb := B.bytes
  have hr := B.returns
  have hts := atoms_spec (ws := wsX5_move) B.pre
  have hown : s.vm.findClass RX5 = some m.cls := findClass_of_methodNamed B.named
  have hlocks := B.notSynchronized
  subst hsz
  have hD := hD0.self (sz := s.heap.size)
  generalize hAe : va_A [(g0, .inr (5, [.int (zi co), .ref ps, .int (zi ru), .ref pk, .ref pa, .ref pb, .ref pq, .int (zi we), .int (zi wr), .ref pw, .int (zi ty), .ref pt])), (ps, aI cI 10 sf)] s.heap.size = A at hD ⊢
  have hA : ∀ q : Nat, s.heap.size ≤ q → A q := fun q h => by rw [← hAe]; exact Or.inr h
  have hS : va_S A s.heap s.heap [] := va_S.rf
  have hP : va_P (dC, dI) vwCl [(g0, .inr (5, [.int (zi co), .ref ps, .int (zi ru), .ref pk, .ref pa, .ref pb, .ref pq, .int (zi we), .int (zi wr), .ref pw, .int (zi ty), .ref pt])), (ps, aI cI 10 sf)] s.heap := hP
  have hl := lv_entry ([.ref g0, .int (zi sl), .int (zi many), .int (zi un)]) (n := 7) (Nat.le_of_ble_eq_true rfl)
  rw [lg_entry_eq]
  generalize (lg_sl ([.ref g0, .int (zi sl), .int (zi many), .int (zi un)]) ++ List.replicate (7 - (lg_sl ([.ref g0, .int (zi sl), .int (zi many), .int (zi un)])).length) Slot.unset).toArray = ls at hl ⊢
  have hl : lv_has ls 7 [(0, .ref g0), (1, .int (zi sl)), (2, .int (zi many)), (3, .int (zi un))] := hl
  refine lv_aload_n hx hb dX5_move_0 rfl (lv_at hl 0 rfl) ?_
  refine lv_iload_n hx hb dX5_move_1 rfl (lv_at hl 1 rfl) ?_
  have hh1 := c_X5_isSlot l sl (by omega)
  refine vp_callSi (va_Run.run (va_runS (As := [.int (zi sl)]) (rest := [.ref g0]) ⟨hx, hb, hml, hown, hts⟩ hh1 (va_cwS 1 hts gX5_move_X5_isSlot rfl rfl rfl (by decide +kernel) ⟨Nat.le_of_ble_eq_true rfl, Nat.le_of_ble_eq_true rfl⟩) ⟨fun a U g mk q => q, fun U hU hW => ⟨rfl, trivial⟩⟩ rfl rfl hl.1 rfl (lv_room (Nat.le_of_ble_eq_true rfl)) dX5_move_2 ⟨Nat.zero_le _, Nat.zero_le _⟩)) (fun r1 (hr1 : r1 = zi (f_X5_isSlot sl)) => ?_)
  subst hr1
  have hf1 := b_X5_isSlot sl (by omega)
  refine zw_if_ne (tgt := 12) hx hb dX5_move_5 (by decide) ⟨by omega, by omega⟩ (fun h2 => ?_) (fun h2 => ?_)
  · skip
    refine lv_iload_n hx hb dX5_move_12 rfl (lv_at hl 3 rfl) ?_
    refine zw_iconst hx hb dX5_move_13 ?_
    refine zw_iconst hx hb dX5_move_14 ?_
    have hh3 := c_X5_in l un 0 2 (by omega) (by omega) (by omega)
    refine vp_callSi (va_Run.run (va_runS (As := [.int (zi un), .int (zi 0), .int (zi 2)]) (rest := [.ref g0]) ⟨hx, hb, hml, hown, hts⟩ hh3 (va_cwS 3 hts gX5_move_X5_in rfl rfl rfl (by decide +kernel) ⟨Nat.le_of_ble_eq_true rfl, Nat.le_of_ble_eq_true rfl⟩) ⟨fun a U g mk q => q, fun U hU hW => ⟨rfl, trivial⟩⟩ rfl rfl hl.1 rfl (lv_room (Nat.le_of_ble_eq_true rfl)) dX5_move_15 ⟨Nat.zero_le _, Nat.zero_le _⟩)) (fun r3 (hr3 : r3 = zi (f_X5_in un 0 2)) => ?_)
    subst hr3
    have hf3 := b_X5_in un 0 2 (by omega) (by omega) (by omega)
    refine zw_if_ne (tgt := 25) hx hb dX5_move_18 (by decide) ⟨by omega, by omega⟩ (fun h4 => ?_) (fun h4 => ?_)
    · skip
      refine lv_aload_n hx hb dX5_move_25 rfl (lv_at hl 0 rfl) ?_
      refine va_get (D := (dC, dI)) (ci := 5) (v := .ref ps) (C := RX5) (T := TX5) (N := 12) hx hb hts (by decide +kernel) hown hK hP 0 rfl rfl 1 (by decide) (hts (.fieldLink RX5 7 "CivilDaysModel" "slots" "[I") (by decide +kernel)) (fun _ h9 => h9) rfl dX5_move_26 ?_
      refine lv_iload_n hx hb dX5_move_29 rfl (lv_at hl 1 rfl) ?_
      refine zw_iald hx hb hK hP 1 0 rfl rfl (by omega) (by omega) ⟨by omega, by omega⟩ dX5_move_30 ?_
      refine zw_if_ge (tgt := 38) hx hb dX5_move_31 (by decide) ⟨by omega, by omega⟩ (fun h5 => ?_) (fun h5 => ?_)
      · skip
        exact absurd True.intro (by omega)
      · skip
        refine zw_iconst hx hb dX5_move_34 ?_
        refine lv_goto (tgt := 39) hx hb dX5_move_35 (by decide) ?_
        refine va_put (D := (dC, dI)) (ci := 5) (v := .int (zi 3)) (ty := .int) (C := RX5) (T := TX5) (N := 12) hx hb hts (by decide +kernel) tyX5 tyX5_ok nmX5 hown hK hP hD hS 0 rfl rfl 0 (by decide) (hts (.fieldLink RX5 35 "CivilDaysModel" "code" "I") (by decide +kernel)) (fun _ h9 => h9) rfl (by decide +kernel) rfl rfl (Nat.le_of_ble_eq_true rfl) dX5_move_39 (fun H locs hP hD hS => ?_)
        have hP : va_P (dC, dI) vwCl [(g0, .inr (5, [.int (zi 3), .ref ps, .int (zi ru), .ref pk, .ref pa, .ref pb, .ref pq, .int (zi we), .int (zi wr), .ref pw, .int (zi ty), .ref pt])), (ps, aI cI 10 sf)] H := hP
        have hD : va_D A [(g0, .inr (5, [.int (zi 3), .ref ps, .int (zi ru), .ref pk, .ref pa, .ref pb, .ref pq, .int (zi we), .int (zi wr), .ref pw, .int (zi ty), .ref pt])), (ps, aI cI 10 sf)] := hD
        refine lv_aload_n hx hb dX5_move_42 rfl (lv_at hl 0 rfl) ?_
        refine va_get (D := (dC, dI)) (ci := 5) (v := .int (zi 3)) (C := RX5) (T := TX5) (N := 12) hx hb hts (by decide +kernel) hown hK hP 0 rfl rfl 0 (by decide) (hts (.fieldLink RX5 35 "CivilDaysModel" "code" "I") (by decide +kernel)) (fun _ h9 => h9) rfl dX5_move_43 ?_
        refine zw_if_le (tgt := 51) hx hb dX5_move_46 (by decide) ⟨by omega, by omega⟩ (fun h6 => ?_) (fun h6 => ?_)
        · skip
          exact absurd True.intro (by omega)
        · skip
          refine zw_iconst hx hb dX5_move_49 ?_
          have hP9 := hP.sub (ws' := [(g0, .inr (5, [.int (zi 3), .ref ps, .int (zi ru), .ref pk, .ref pa, .ref pb, .ref pq, .int (zi we), .int (zi wr), .ref pw, .int (zi ty), .ref pt])), (ps, aI cI 10 sf)]) [0, 1] rfl
          have hD9 := hD.sub (ws' := [(g0, .inr (5, [.int (zi 3), .ref ps, .int (zi ru), .ref pk, .ref pa, .ref pb, .ref pq, .int (zi we), .int (zi wr), .ref pw, .int (zi ty), .ref pt])), (ps, aI cI 10 sf)]) [0, 1] (by decide) rfl
          exact W.iret (v := zi 0) hx hb hr (fun t ht hW => ⟨⟨zi 0, (), rfl, rfl, by rw [ht]; exact hP9, va_K.moved hW.alike hK, hD9⟩, hS.F ht⟩) hS.2.2 dX5_move_50
    · skip
      exact absurd True.intro (by omega)
  · skip
    exact absurd True.intro (by omega)

set_option maxHeartbeats 4000000 in
set_option maxRecDepth 100000 in
theorem c_X5_move_4d (l : Launch)  (dC : Nat → ClassId) (dI : Nat → Nat → Nat) (cI : ClassId) (g0 ps pk pa pb pq pw pt : Nat) (co ru we wr ty : Int) (sf : Nat → Int) (sl many un : Int) (sz : Nat) (hp0 : 0 ≤ sl ∧ sl ≤ 9) (hp1 : -2147483648 ≤ many ∧ many ≤ 2147483647) (hp2 : un = 0) (hp3 : 0 ≤ sf sl.toNat ∧ sf sl.toNat ≤ 3652058) (hp4 : (sf sl.toNat) + many < 0 ∨ 3652058 < (sf sl.toNat) + many) : Met l yX5_move wsX5_move ({ frames := 2, cells := 0, slots := 0, locals := 42 }) (zPw (dC, dI) [(cI, .int)] sz [.ref g0, .int (zi sl), .int (zi many), .int (zi un)] [(g0, .inr (5, [.int (zi co), .ref ps, .int (zi ru), .ref pk, .ref pa, .ref pb, .ref pq, .int (zi we), .int (zi wr), .ref pw, .int (zi ty), .ref pt])), (ps, aI cI 10 sf)]) (va_Qi (fun (r : Int32) (_ : Unit) => r = zi 0) (zB (dC, dI) [(cI, .int)] (va_A [(g0, .inr (5, [.int (zi co), .ref ps, .int (zi ru), .ref pk, .ref pa, .ref pb, .ref pq, .int (zi we), .int (zi wr), .ref pw, .int (zi ty), .ref pt])), (ps, aI cI 10 sf)] sz) [(g0, .inr (5, [.int (zi 4), .ref ps, .int (zi ru), .ref pk, .ref pa, .ref pb, .ref pq, .int (zi we), .int (zi wr), .ref pw, .int (zi ty), .ref pt])), (ps, aI cI 10 sf)]) (va_A [(g0, .inr (5, [.int (zi co), .ref ps, .int (zi ru), .ref pk, .ref pa, .ref pb, .ref pq, .int (zi we), .int (zi wr), .ref pw, .int (zi ty), .ref pt])), (ps, aI cI 10 sf)] sz)) 0 0 (va_A [(g0, .inr (5, [.int (zi co), .ref ps, .int (zi ru), .ref pk, .ref pa, .ref pb, .ref pq, .int (zi we), .int (zi wr), .ref pw, .int (zi ty), .ref pt])), (ps, aI cI 10 sf)] sz) := by
  refine Met.ofW (cc := cX5_move) (maxL := 7) (ret := (some .int)) (by decide) rfl ?_
  intro p e s m args below meth c s₁ B hml hv
  obtain ⟨rfl, hsz, hP, hK, hD0⟩ := hv
  have hx := B.exec
  have hb := B.bytes
  have hr := B.returns
  have hts := atoms_spec (ws := wsX5_move) B.pre
  have hown : s.vm.findClass RX5 = some m.cls := findClass_of_methodNamed B.named
  have hlocks := B.notSynchronized
  subst hsz
  have hD := hD0.self (sz := s.heap.size)
  generalize hAe : va_A [(g0, .inr (5, [.int (zi co), .ref ps, .int (zi ru), .ref pk, .ref pa, .ref pb, .ref pq, .int (zi we), .int (zi wr), .ref pw, .int (zi ty), .ref pt])), (ps, aI cI 10 sf)] s.heap.size = A at hD ⊢
  have hA : ∀ q : Nat, s.heap.size ≤ q → A q := fun q h => by rw [← hAe]; exact Or.inr h
  have hS : va_S A s.heap s.heap [] := va_S.rf
  have hP : va_P (dC, dI) vwCl [(g0, .inr (5, [.int (zi co), .ref ps, .int (zi ru), .ref pk, .ref pa, .ref pb, .ref pq, .int (zi we), .int (zi wr), .ref pw, .int (zi ty), .ref pt])), (ps, aI cI 10 sf)] s.heap := hP
  have hl := lv_entry ([.ref g0, .int (zi sl), .int (zi many), .int (zi un)]) (n := 7) (Nat.le_of_ble_eq_true rfl)
  rw [lg_entry_eq]
  generalize (lg_sl ([.ref g0, .int (zi sl), .int (zi many), .int (zi un)]) ++ List.replicate (7 - (lg_sl ([.ref g0, .int (zi sl), .int (zi many), .int (zi un)])).length) Slot.unset).toArray = ls at hl ⊢
  have hl : lv_has ls 7 [(0, .ref g0), (1, .int (zi sl)), (2, .int (zi many)), (3, .int (zi un))] := hl
  refine lv_aload_n hx hb dX5_move_0 rfl (lv_at hl 0 rfl) ?_
  refine lv_iload_n hx hb dX5_move_1 rfl (lv_at hl 1 rfl) ?_
  have hh1 := c_X5_isSlot l sl (by omega)
  refine vp_callSi (va_Run.run (va_runS (As := [.int (zi sl)]) (rest := [.ref g0]) ⟨hx, hb, hml, hown, hts⟩ hh1 (va_cwS 1 hts gX5_move_X5_isSlot rfl rfl rfl (by decide +kernel) ⟨Nat.le_of_ble_eq_true rfl, Nat.le_of_ble_eq_true rfl⟩) ⟨fun a U g mk q => q, fun U hU hW => ⟨rfl, trivial⟩⟩ rfl rfl hl.1 rfl (lv_room (Nat.le_of_ble_eq_true rfl)) dX5_move_2 ⟨Nat.zero_le _, Nat.zero_le _⟩)) (fun r1 (hr1 : r1 = zi (f_X5_isSlot sl)) => ?_)
  subst hr1
  have hf1 := b_X5_isSlot sl (by omega)
  refine zw_if_ne (tgt := 12) hx hb dX5_move_5 (by decide) ⟨by omega, by omega⟩ (fun h2 => ?_) (fun h2 => ?_)
  · skip
    refine lv_iload_n hx hb dX5_move_12 rfl (lv_at hl 3 rfl) ?_
    refine zw_iconst hx hb dX5_move_13 ?_
    refine zw_iconst hx hb dX5_move_14 ?_
    have hh3 := c_X5_in l un 0 2 (by omega) (by omega) (by omega)
    refine vp_callSi (va_Run.run (va_runS (As := [.int (zi un), .int (zi 0), .int (zi 2)]) (rest := [.ref g0]) ⟨hx, hb, hml, hown, hts⟩ hh3 (va_cwS 3 hts gX5_move_X5_in rfl rfl rfl (by decide +kernel) ⟨Nat.le_of_ble_eq_true rfl, Nat.le_of_ble_eq_true rfl⟩) ⟨fun a U g mk q => q, fun U hU hW => ⟨rfl, trivial⟩⟩ rfl rfl hl.1 rfl (lv_room (Nat.le_of_ble_eq_true rfl)) dX5_move_15 ⟨Nat.zero_le _, Nat.zero_le _⟩)) (fun r3 (hr3 : r3 = zi (f_X5_in un 0 2)) => ?_)
    subst hr3
    have hf3 := b_X5_in un 0 2 (by omega) (by omega) (by omega)
    refine zw_if_ne (tgt := 25) hx hb dX5_move_18 (by decide) ⟨by omega, by omega⟩ (fun h4 => ?_) (fun h4 => ?_)
    · skip
      refine lv_aload_n hx hb dX5_move_25 rfl (lv_at hl 0 rfl) ?_
      refine va_get (D := (dC, dI)) (ci := 5) (v := .ref ps) (C := RX5) (T := TX5) (N := 12) hx hb hts (by decide +kernel) hown hK hP 0 rfl rfl 1 (by decide) (hts (.fieldLink RX5 7 "CivilDaysModel" "slots" "[I") (by decide +kernel)) (fun _ h9 => h9) rfl dX5_move_26 ?_
      refine lv_iload_n hx hb dX5_move_29 rfl (lv_at hl 1 rfl) ?_
      refine zw_iald hx hb hK hP 1 0 rfl rfl (by omega) (by omega) ⟨by omega, by omega⟩ dX5_move_30 ?_
      refine zw_if_ge (tgt := 38) hx hb dX5_move_31 (by decide) ⟨by omega, by omega⟩ (fun h5 => ?_) (fun h5 => ?_)
      · skip
        refine zw_iconst hx hb dX5_move_38 ?_
        refine va_put (D := (dC, dI)) (ci := 5) (v := .int (zi 0)) (ty := .int) (C := RX5) (T := TX5) (N := 12) hx hb hts (by decide +kernel) tyX5 tyX5_ok nmX5 hown hK hP hD hS 0 rfl rfl 0 (by decide) (hts (.fieldLink RX5 35 "CivilDaysModel" "code" "I") (by decide +kernel)) (fun _ h9 => h9) rfl (by decide +kernel) rfl rfl (Nat.le_of_ble_eq_true rfl) dX5_move_39 (fun H locs hP hD hS => ?_)
        have hP : va_P (dC, dI) vwCl [(g0, .inr (5, [.int (zi 0), .ref ps, .int (zi ru), .ref pk, .ref pa, .ref pb, .ref pq, .int (zi we), .int (zi wr), .ref pw, .int (zi ty), .ref pt])), (ps, aI cI 10 sf)] H := hP
        have hD : va_D A [(g0, .inr (5, [.int (zi 0), .ref ps, .int (zi ru), .ref pk, .ref pa, .ref pb, .ref pq, .int (zi we), .int (zi wr), .ref pw, .int (zi ty), .ref pt])), (ps, aI cI 10 sf)] := hD
        refine lv_aload_n hx hb dX5_move_42 rfl (lv_at hl 0 rfl) ?_
        refine va_get (D := (dC, dI)) (ci := 5) (v := .int (zi 0)) (C := RX5) (T := TX5) (N := 12) hx hb hts (by decide +kernel) hown hK hP 0 rfl rfl 0 (by decide) (hts (.fieldLink RX5 35 "CivilDaysModel" "code" "I") (by decide +kernel)) (fun _ h9 => h9) rfl dX5_move_43 ?_
        refine zw_if_le (tgt := 51) hx hb dX5_move_46 (by decide) ⟨by omega, by omega⟩ (fun h6 => ?_) (fun h6 => ?_)
        · skip
          refine lv_aload_n hx hb dX5_move_51 rfl (lv_at hl 0 rfl) ?_
          refine va_get (D := (dC, dI)) (ci := 5) (v := .ref ps) (C := RX5) (T := TX5) (N := 12) hx hb hts (by decide +kernel) hown hK hP 0 rfl rfl 1 (by decide) (hts (.fieldLink RX5 7 "CivilDaysModel" "slots" "[I") (by decide +kernel)) (fun _ h9 => h9) rfl dX5_move_52 ?_
          refine lv_iload_n hx hb dX5_move_55 rfl (lv_at hl 1 rfl) ?_
          refine zw_iald hx hb hK hP 1 0 rfl rfl (by omega) (by omega) ⟨by omega, by omega⟩ dX5_move_56 ?_
          refine zw_i2l hx hb dX5_move_57 ⟨by omega, by omega⟩ ?_
          refine lv_iload_n hx hb dX5_move_58 rfl (lv_at hl 2 rfl) ?_
          refine zw_i2l hx hb dX5_move_59 ⟨by omega, by omega⟩ ?_
          refine zw_ladd hx hb dX5_move_60 ?_
          refine zw_topl (fun x7 ex7 => ?_)
          refine lv_lstore (lv' := [(4, .long (zl x7)), (0, .ref g0), (1, .int (zi sl)), (2, .int (zi many)), (3, .int (zi un))]) hx hb dX5_move_61 hl (by decide) rfl (fun ls hl => ?_)
          refine lv_iload_n hx hb dX5_move_63 rfl (lv_at hl 4 rfl) ?_
          refine zw_if_ne (tgt := 93) hx hb dX5_move_64 (by decide) ⟨by omega, by omega⟩ (fun h8 => ?_) (fun h8 => ?_)
          · skip
            exact absurd True.intro (by omega)
          · skip
            refine lv_lload hx hb dX5_move_67 (lv_at hl 0 rfl) ?_
            refine zw_lconst (v := 0) hx hb dX5_move_69 (by decide) ?_
            refine zw_lcmp_lt (tgt := 83) hx hb dX5_move_70 dX5_move_71 (by decide) ⟨by omega, by omega⟩ ⟨by omega, by omega⟩ (fun h9 => ?_) (fun h9 => ?_)
            · skip
              refine zw_iconst hx hb dX5_move_83 ?_
              refine lv_goto (tgt := 118) hx hb dX5_move_84 (by decide) ?_
              refine lv_istore (lv' := [(6, .int (zi (-1))), (4, .long (zl x7)), (0, .ref g0), (1, .int (zi sl)), (2, .int (zi many)), (3, .int (zi un))]) hx hb dX5_move_118 hl (by decide) rfl (fun ls hl => ?_)
              refine lv_aload_n hx hb dX5_move_120 rfl (lv_at hl 2 rfl) ?_
              refine lv_iload hx hb dX5_move_121 (lv_at hl 0 rfl) ?_
              refine zw_if_ge (tgt := 130) hx hb dX5_move_123 (by decide) ⟨by omega, by omega⟩ (fun h10 => ?_) (fun h10 => ?_)
              · skip
                exact absurd True.intro (by omega)
              · skip
                refine zw_iconst hx hb dX5_move_126 ?_
                refine lv_goto (tgt := 131) hx hb dX5_move_127 (by decide) ?_
                refine va_put (D := (dC, dI)) (ci := 5) (v := .int (zi 4)) (ty := .int) (C := RX5) (T := TX5) (N := 12) hx hb hts (by decide +kernel) tyX5 tyX5_ok nmX5 hown hK hP hD hS 0 rfl rfl 0 (by decide) (hts (.fieldLink RX5 35 "CivilDaysModel" "code" "I") (by decide +kernel)) (fun _ h9 => h9) rfl (by decide +kernel) rfl rfl (Nat.le_of_ble_eq_true rfl) dX5_move_131 (fun H locs hP hD hS => ?_)
                have hP : va_P (dC, dI) vwCl [(g0, .inr (5, [.int (zi 4), .ref ps, .int (zi ru), .ref pk, .ref pa, .ref pb, .ref pq, .int (zi we), .int (zi wr), .ref pw, .int (zi ty), .ref pt])), (ps, aI cI 10 sf)] H := hP
                have hD : va_D A [(g0, .inr (5, [.int (zi 4), .ref ps, .int (zi ru), .ref pk, .ref pa, .ref pb, .ref pq, .int (zi we), .int (zi wr), .ref pw, .int (zi ty), .ref pt])), (ps, aI cI 10 sf)] := hD
                refine lv_aload_n hx hb dX5_move_134 rfl (lv_at hl 2 rfl) ?_
                refine va_get (D := (dC, dI)) (ci := 5) (v := .int (zi 4)) (C := RX5) (T := TX5) (N := 12) hx hb hts (by decide +kernel) hown hK hP 0 rfl rfl 0 (by decide) (hts (.fieldLink RX5 35 "CivilDaysModel" "code" "I") (by decide +kernel)) (fun _ h9 => h9) rfl dX5_move_135 ?_
                refine zw_if_le (tgt := 145) hx hb dX5_move_138 (by decide) ⟨by omega, by omega⟩ (fun h11 => ?_) (fun h11 => ?_)
                · skip
                  exact absurd True.intro (by omega)
                · skip
                  refine zw_iconst hx hb dX5_move_141 ?_
                  refine lv_goto (tgt := 152) hx hb dX5_move_142 (by decide) ?_
                  subst ex7
                  have hP9 := hP.sub (ws' := [(g0, .inr (5, [.int (zi 4), .ref ps, .int (zi ru), .ref pk, .ref pa, .ref pb, .ref pq, .int (zi we), .int (zi wr), .ref pw, .int (zi ty), .ref pt])), (ps, aI cI 10 sf)]) [0, 1] rfl
                  have hD9 := hD.sub (ws' := [(g0, .inr (5, [.int (zi 4), .ref ps, .int (zi ru), .ref pk, .ref pa, .ref pb, .ref pq, .int (zi we), .int (zi wr), .ref pw, .int (zi ty), .ref pt])), (ps, aI cI 10 sf)]) [0, 1] (by decide) rfl
                  exact W.iret (v := zi 0) hx hb hr (fun t ht hW => ⟨⟨zi 0, (), rfl, rfl, by rw [ht]; exact hP9, va_K.moved hW.alike hK, hD9⟩, hS.F ht⟩) hS.2.2 dX5_move_152
            · skip
              refine lv_lload hx hb dX5_move_74 (lv_at hl 0 rfl) ?_
              refine zw_ldc2 (n := 3652058) hx hb hown (hts (.constantLong RX5 103 (3652058)) (by decide +kernel)) dX5_move_76 (by decide) ?_
              refine zw_lcmp_le (tgt := 87) hx hb dX5_move_79 dX5_move_80 (by decide) ⟨by omega, by omega⟩ ⟨by omega, by omega⟩ (fun h12 => ?_) (fun h12 => ?_)
              · skip
                exact absurd True.intro (by omega)
              · skip
                refine zw_iconst hx hb dX5_move_83 ?_
                refine lv_goto (tgt := 118) hx hb dX5_move_84 (by decide) ?_
                refine lv_istore (lv' := [(6, .int (zi (-1))), (4, .long (zl x7)), (0, .ref g0), (1, .int (zi sl)), (2, .int (zi many)), (3, .int (zi un))]) hx hb dX5_move_118 hl (by decide) rfl (fun ls hl => ?_)
                refine lv_aload_n hx hb dX5_move_120 rfl (lv_at hl 2 rfl) ?_
                refine lv_iload hx hb dX5_move_121 (lv_at hl 0 rfl) ?_
                refine zw_if_ge (tgt := 130) hx hb dX5_move_123 (by decide) ⟨by omega, by omega⟩ (fun h13 => ?_) (fun h13 => ?_)
                · skip
                  exact absurd True.intro (by omega)
                · skip
                  refine zw_iconst hx hb dX5_move_126 ?_
                  refine lv_goto (tgt := 131) hx hb dX5_move_127 (by decide) ?_
                  refine va_put (D := (dC, dI)) (ci := 5) (v := .int (zi 4)) (ty := .int) (C := RX5) (T := TX5) (N := 12) hx hb hts (by decide +kernel) tyX5 tyX5_ok nmX5 hown hK hP hD hS 0 rfl rfl 0 (by decide) (hts (.fieldLink RX5 35 "CivilDaysModel" "code" "I") (by decide +kernel)) (fun _ h9 => h9) rfl (by decide +kernel) rfl rfl (Nat.le_of_ble_eq_true rfl) dX5_move_131 (fun H locs hP hD hS => ?_)
                  have hP : va_P (dC, dI) vwCl [(g0, .inr (5, [.int (zi 4), .ref ps, .int (zi ru), .ref pk, .ref pa, .ref pb, .ref pq, .int (zi we), .int (zi wr), .ref pw, .int (zi ty), .ref pt])), (ps, aI cI 10 sf)] H := hP
                  have hD : va_D A [(g0, .inr (5, [.int (zi 4), .ref ps, .int (zi ru), .ref pk, .ref pa, .ref pb, .ref pq, .int (zi we), .int (zi wr), .ref pw, .int (zi ty), .ref pt])), (ps, aI cI 10 sf)] := hD
                  refine lv_aload_n hx hb dX5_move_134 rfl (lv_at hl 2 rfl) ?_
                  refine va_get (D := (dC, dI)) (ci := 5) (v := .int (zi 4)) (C := RX5) (T := TX5) (N := 12) hx hb hts (by decide +kernel) hown hK hP 0 rfl rfl 0 (by decide) (hts (.fieldLink RX5 35 "CivilDaysModel" "code" "I") (by decide +kernel)) (fun _ h9 => h9) rfl dX5_move_135 ?_
                  refine zw_if_le (tgt := 145) hx hb dX5_move_138 (by decide) ⟨by omega, by omega⟩ (fun h14 => ?_) (fun h14 => ?_)
                  · skip
                    exact absurd True.intro (by omega)
                  · skip
                    refine zw_iconst hx hb dX5_move_141 ?_
                    refine lv_goto (tgt := 152) hx hb dX5_move_142 (by decide) ?_
                    subst ex7
                    have hP9 := hP.sub (ws' := [(g0, .inr (5, [.int (zi 4), .ref ps, .int (zi ru), .ref pk, .ref pa, .ref pb, .ref pq, .int (zi we), .int (zi wr), .ref pw, .int (zi ty), .ref pt])), (ps, aI cI 10 sf)]) [0, 1] rfl
                    have hD9 := hD.sub (ws' := [(g0, .inr (5, [.int (zi 4), .ref ps, .int (zi ru), .ref pk, .ref pa, .ref pb, .ref pq, .int (zi we), .int (zi wr), .ref pw, .int (zi ty), .ref pt])), (ps, aI cI 10 sf)]) [0, 1] (by decide) rfl
                    exact W.iret (v := zi 0) hx hb hr (fun t ht hW => ⟨⟨zi 0, (), rfl, rfl, by rw [ht]; exact hP9, va_K.moved hW.alike hK, hD9⟩, hS.F ht⟩) hS.2.2 dX5_move_152
        · skip
          exact absurd True.intro (by omega)
      · skip
        exact absurd True.intro (by omega)
    · skip
      exact absurd True.intro (by omega)
  · skip
    exact absurd True.intro (by omega)

set_option maxHeartbeats 4000000 in
set_option maxRecDepth 100000 in
theorem c_X5_move_d (l : Launch)  (dC : Nat → ClassId) (dI : Nat → Nat → Nat) (cI : ClassId) (g0 ps pk pa pb pq pw pt : Nat) (co ru we wr ty : Int) (sf : Nat → Int) (sl many un : Int) (sz : Nat) (hp0 : 0 ≤ sl ∧ sl ≤ 9) (hp1 : -2147483648 ≤ many ∧ many ≤ 2147483647) (hp2 : un = 0) (hp3 : 0 ≤ sf sl.toNat ∧ sf sl.toNat ≤ 3652058) (hp4 : 0 ≤ (sf sl.toNat) + many ∧ (sf sl.toNat) + many ≤ 3652058) : Met l yX5_move wsX5_move ({ frames := 2, cells := 0, slots := 0, locals := 42 }) (zPw (dC, dI) [(cI, .int)] sz [.ref g0, .int (zi sl), .int (zi many), .int (zi un)] [(g0, .inr (5, [.int (zi co), .ref ps, .int (zi ru), .ref pk, .ref pa, .ref pb, .ref pq, .int (zi we), .int (zi wr), .ref pw, .int (zi ty), .ref pt])), (ps, aI cI 10 sf)]) (va_Qi (fun (r : Int32) (_ : Unit) => r = zi ((sf sl.toNat) + many)) (zB (dC, dI) [(cI, .int)] (va_A [(g0, .inr (5, [.int (zi co), .ref ps, .int (zi ru), .ref pk, .ref pa, .ref pb, .ref pq, .int (zi we), .int (zi wr), .ref pw, .int (zi ty), .ref pt])), (ps, aI cI 10 sf)] sz) [(g0, .inr (5, [.int (zi 0), .ref ps, .int (zi ru), .ref pk, .ref pa, .ref pb, .ref pq, .int (zi we), .int (zi wr), .ref pw, .int (zi ty), .ref pt])), (ps, aI cI 10 (zup sf sl.toNat ((sf sl.toNat) + many)))]) (va_A [(g0, .inr (5, [.int (zi co), .ref ps, .int (zi ru), .ref pk, .ref pa, .ref pb, .ref pq, .int (zi we), .int (zi wr), .ref pw, .int (zi ty), .ref pt])), (ps, aI cI 10 sf)] sz)) 0 0 (va_A [(g0, .inr (5, [.int (zi co), .ref ps, .int (zi ru), .ref pk, .ref pa, .ref pb, .ref pq, .int (zi we), .int (zi wr), .ref pw, .int (zi ty), .ref pt])), (ps, aI cI 10 sf)] sz) := by
  refine Met.ofW (cc := cX5_move) (maxL := 7) (ret := (some .int)) (by decide) rfl ?_
  intro p e s m args below meth c s₁ B hml hv
  obtain ⟨rfl, hsz, hP, hK, hD0⟩ := hv
  have hx := B.exec
  have hb := B.bytes
  have hr := B.returns
  have hts := atoms_spec (ws := wsX5_move) B.pre
  have hown : s.vm.findClass RX5 = some m.cls := findClass_of_methodNamed B.named
  have hlocks := B.notSynchronized
  subst hsz
  have hD := hD0.self (sz := s.heap.size)
  generalize hAe : va_A [(g0, .inr (5, [.int (zi co), .ref ps, .int (zi ru), .ref pk, .ref pa, .ref pb, .ref pq, .int (zi we), .int (zi wr), .ref pw, .int (zi ty), .ref pt])), (ps, aI cI 10 sf)] s.heap.size = A at hD ⊢
  have hA : ∀ q : Nat, s.heap.size ≤ q → A q := fun q h => by rw [← hAe]; exact Or.inr h
  have hS : va_S A s.heap s.heap [] := va_S.rf
  have hP : va_P (dC, dI) vwCl [(g0, .inr (5, [.int (zi co), .ref ps, .int (zi ru), .ref pk, .ref pa, .ref pb, .ref pq, .int (zi we), .int (zi wr), .ref pw, .int (zi ty), .ref pt])), (ps, aI cI 10 sf)] s.heap := hP
  have hl := lv_entry ([.ref g0, .int (zi sl), .int (zi many), .int (zi un)]) (n := 7) (Nat.le_of_ble_eq_true rfl)
  rw [lg_entry_eq]
  generalize (lg_sl ([.ref g0, .int (zi sl), .int (zi many), .int (zi un)]) ++ List.replicate (7 - (lg_sl ([.ref g0, .int (zi sl), .int (zi many), .int (zi un)])).length) Slot.unset).toArray = ls at hl ⊢
  have hl : lv_has ls 7 [(0, .ref g0), (1, .int (zi sl)), (2, .int (zi many)), (3, .int (zi un))] := hl
  refine lv_aload_n hx hb dX5_move_0 rfl (lv_at hl 0 rfl) ?_
  refine lv_iload_n hx hb dX5_move_1 rfl (lv_at hl 1 rfl) ?_
  have hh1 := c_X5_isSlot l sl (by omega)
  refine vp_callSi (va_Run.run (va_runS (As := [.int (zi sl)]) (rest := [.ref g0]) ⟨hx, hb, hml, hown, hts⟩ hh1 (va_cwS 1 hts gX5_move_X5_isSlot rfl rfl rfl (by decide +kernel) ⟨Nat.le_of_ble_eq_true rfl, Nat.le_of_ble_eq_true rfl⟩) ⟨fun a U g mk q => q, fun U hU hW => ⟨rfl, trivial⟩⟩ rfl rfl hl.1 rfl (lv_room (Nat.le_of_ble_eq_true rfl)) dX5_move_2 ⟨Nat.zero_le _, Nat.zero_le _⟩)) (fun r1 (hr1 : r1 = zi (f_X5_isSlot sl)) => ?_)
  subst hr1
  have hf1 := b_X5_isSlot sl (by omega)
  refine zw_if_ne (tgt := 12) hx hb dX5_move_5 (by decide) ⟨by omega, by omega⟩ (fun h2 => ?_) (fun h2 => ?_)
  · skip
    refine lv_iload_n hx hb dX5_move_12 rfl (lv_at hl 3 rfl) ?_
    refine zw_iconst hx hb dX5_move_13 ?_
    refine zw_iconst hx hb dX5_move_14 ?_
    have hh3 := c_X5_in l un 0 2 (by omega) (by omega) (by omega)
    refine vp_callSi (va_Run.run (va_runS (As := [.int (zi un), .int (zi 0), .int (zi 2)]) (rest := [.ref g0]) ⟨hx, hb, hml, hown, hts⟩ hh3 (va_cwS 3 hts gX5_move_X5_in rfl rfl rfl (by decide +kernel) ⟨Nat.le_of_ble_eq_true rfl, Nat.le_of_ble_eq_true rfl⟩) ⟨fun a U g mk q => q, fun U hU hW => ⟨rfl, trivial⟩⟩ rfl rfl hl.1 rfl (lv_room (Nat.le_of_ble_eq_true rfl)) dX5_move_15 ⟨Nat.zero_le _, Nat.zero_le _⟩)) (fun r3 (hr3 : r3 = zi (f_X5_in un 0 2)) => ?_)
    subst hr3
    have hf3 := b_X5_in un 0 2 (by omega) (by omega) (by omega)
    refine zw_if_ne (tgt := 25) hx hb dX5_move_18 (by decide) ⟨by omega, by omega⟩ (fun h4 => ?_) (fun h4 => ?_)
    · skip
      refine lv_aload_n hx hb dX5_move_25 rfl (lv_at hl 0 rfl) ?_
      refine va_get (D := (dC, dI)) (ci := 5) (v := .ref ps) (C := RX5) (T := TX5) (N := 12) hx hb hts (by decide +kernel) hown hK hP 0 rfl rfl 1 (by decide) (hts (.fieldLink RX5 7 "CivilDaysModel" "slots" "[I") (by decide +kernel)) (fun _ h9 => h9) rfl dX5_move_26 ?_
      refine lv_iload_n hx hb dX5_move_29 rfl (lv_at hl 1 rfl) ?_
      refine zw_iald hx hb hK hP 1 0 rfl rfl (by omega) (by omega) ⟨by omega, by omega⟩ dX5_move_30 ?_
      refine zw_if_ge (tgt := 38) hx hb dX5_move_31 (by decide) ⟨by omega, by omega⟩ (fun h5 => ?_) (fun h5 => ?_)
      · skip
        refine zw_iconst hx hb dX5_move_38 ?_
        refine va_put (D := (dC, dI)) (ci := 5) (v := .int (zi 0)) (ty := .int) (C := RX5) (T := TX5) (N := 12) hx hb hts (by decide +kernel) tyX5 tyX5_ok nmX5 hown hK hP hD hS 0 rfl rfl 0 (by decide) (hts (.fieldLink RX5 35 "CivilDaysModel" "code" "I") (by decide +kernel)) (fun _ h9 => h9) rfl (by decide +kernel) rfl rfl (Nat.le_of_ble_eq_true rfl) dX5_move_39 (fun H locs hP hD hS => ?_)
        have hP : va_P (dC, dI) vwCl [(g0, .inr (5, [.int (zi 0), .ref ps, .int (zi ru), .ref pk, .ref pa, .ref pb, .ref pq, .int (zi we), .int (zi wr), .ref pw, .int (zi ty), .ref pt])), (ps, aI cI 10 sf)] H := hP
        have hD : va_D A [(g0, .inr (5, [.int (zi 0), .ref ps, .int (zi ru), .ref pk, .ref pa, .ref pb, .ref pq, .int (zi we), .int (zi wr), .ref pw, .int (zi ty), .ref pt])), (ps, aI cI 10 sf)] := hD
        refine lv_aload_n hx hb dX5_move_42 rfl (lv_at hl 0 rfl) ?_
        refine va_get (D := (dC, dI)) (ci := 5) (v := .int (zi 0)) (C := RX5) (T := TX5) (N := 12) hx hb hts (by decide +kernel) hown hK hP 0 rfl rfl 0 (by decide) (hts (.fieldLink RX5 35 "CivilDaysModel" "code" "I") (by decide +kernel)) (fun _ h9 => h9) rfl dX5_move_43 ?_
        refine zw_if_le (tgt := 51) hx hb dX5_move_46 (by decide) ⟨by omega, by omega⟩ (fun h6 => ?_) (fun h6 => ?_)
        · skip
          refine lv_aload_n hx hb dX5_move_51 rfl (lv_at hl 0 rfl) ?_
          refine va_get (D := (dC, dI)) (ci := 5) (v := .ref ps) (C := RX5) (T := TX5) (N := 12) hx hb hts (by decide +kernel) hown hK hP 0 rfl rfl 1 (by decide) (hts (.fieldLink RX5 7 "CivilDaysModel" "slots" "[I") (by decide +kernel)) (fun _ h9 => h9) rfl dX5_move_52 ?_
          refine lv_iload_n hx hb dX5_move_55 rfl (lv_at hl 1 rfl) ?_
          refine zw_iald hx hb hK hP 1 0 rfl rfl (by omega) (by omega) ⟨by omega, by omega⟩ dX5_move_56 ?_
          refine zw_i2l hx hb dX5_move_57 ⟨by omega, by omega⟩ ?_
          refine lv_iload_n hx hb dX5_move_58 rfl (lv_at hl 2 rfl) ?_
          refine zw_i2l hx hb dX5_move_59 ⟨by omega, by omega⟩ ?_
          refine zw_ladd hx hb dX5_move_60 ?_
          refine zw_topl (fun x7 ex7 => ?_)
          refine lv_lstore (lv' := [(4, .long (zl x7)), (0, .ref g0), (1, .int (zi sl)), (2, .int (zi many)), (3, .int (zi un))]) hx hb dX5_move_61 hl (by decide) rfl (fun ls hl => ?_)
          refine lv_iload_n hx hb dX5_move_63 rfl (lv_at hl 4 rfl) ?_
          refine zw_if_ne (tgt := 93) hx hb dX5_move_64 (by decide) ⟨by omega, by omega⟩ (fun h8 => ?_) (fun h8 => ?_)
          · skip
            exact absurd True.intro (by omega)
          · skip
            refine lv_lload hx hb dX5_move_67 (lv_at hl 0 rfl) ?_
            refine zw_lconst (v := 0) hx hb dX5_move_69 (by decide) ?_
            refine zw_lcmp_lt (tgt := 83) hx hb dX5_move_70 dX5_move_71 (by decide) ⟨by omega, by omega⟩ ⟨by omega, by omega⟩ (fun h9 => ?_) (fun h9 => ?_)
            · skip
              exact absurd True.intro (by omega)
            · skip
              refine lv_lload hx hb dX5_move_74 (lv_at hl 0 rfl) ?_
              refine zw_ldc2 (n := 3652058) hx hb hown (hts (.constantLong RX5 103 (3652058)) (by decide +kernel)) dX5_move_76 (by decide) ?_
              refine zw_lcmp_le (tgt := 87) hx hb dX5_move_79 dX5_move_80 (by decide) ⟨by omega, by omega⟩ ⟨by omega, by omega⟩ (fun h10 => ?_) (fun h10 => ?_)
              · skip
                refine lv_lload hx hb dX5_move_87 (lv_at hl 0 rfl) ?_
                refine zw_l2i hx hb dX5_move_89 ?_
                refine lv_goto (tgt := 118) hx hb dX5_move_90 (by decide) ?_
                refine lv_istore (lv' := [(6, .int (zi x7)), (4, .long (zl x7)), (0, .ref g0), (1, .int (zi sl)), (2, .int (zi many)), (3, .int (zi un))]) hx hb dX5_move_118 hl (by decide) rfl (fun ls hl => ?_)
                refine lv_aload_n hx hb dX5_move_120 rfl (lv_at hl 2 rfl) ?_
                refine lv_iload hx hb dX5_move_121 (lv_at hl 0 rfl) ?_
                refine zw_if_ge (tgt := 130) hx hb dX5_move_123 (by decide) ⟨by omega, by omega⟩ (fun h11 => ?_) (fun h11 => ?_)
                · skip
                  refine zw_iconst hx hb dX5_move_130 ?_
                  refine va_put (D := (dC, dI)) (ci := 5) (v := .int (zi 0)) (ty := .int) (C := RX5) (T := TX5) (N := 12) hx hb hts (by decide +kernel) tyX5 tyX5_ok nmX5 hown hK hP hD hS 0 rfl rfl 0 (by decide) (hts (.fieldLink RX5 35 "CivilDaysModel" "code" "I") (by decide +kernel)) (fun _ h9 => h9) rfl (by decide +kernel) rfl rfl (Nat.le_of_ble_eq_true rfl) dX5_move_131 (fun H locs hP hD hS => ?_)
                  have hP : va_P (dC, dI) vwCl [(g0, .inr (5, [.int (zi 0), .ref ps, .int (zi ru), .ref pk, .ref pa, .ref pb, .ref pq, .int (zi we), .int (zi wr), .ref pw, .int (zi ty), .ref pt])), (ps, aI cI 10 sf)] H := hP
                  have hD : va_D A [(g0, .inr (5, [.int (zi 0), .ref ps, .int (zi ru), .ref pk, .ref pa, .ref pb, .ref pq, .int (zi we), .int (zi wr), .ref pw, .int (zi ty), .ref pt])), (ps, aI cI 10 sf)] := hD
                  refine lv_aload_n hx hb dX5_move_134 rfl (lv_at hl 2 rfl) ?_
                  refine va_get (D := (dC, dI)) (ci := 5) (v := .int (zi 0)) (C := RX5) (T := TX5) (N := 12) hx hb hts (by decide +kernel) hown hK hP 0 rfl rfl 0 (by decide) (hts (.fieldLink RX5 35 "CivilDaysModel" "code" "I") (by decide +kernel)) (fun _ h9 => h9) rfl dX5_move_135 ?_
                  refine zw_if_le (tgt := 145) hx hb dX5_move_138 (by decide) ⟨by omega, by omega⟩ (fun h12 => ?_) (fun h12 => ?_)
                  · skip
                    refine lv_aload_n hx hb dX5_move_145 rfl (lv_at hl 2 rfl) ?_
                    refine lv_iload_n hx hb dX5_move_146 rfl (lv_at hl 3 rfl) ?_
                    refine lv_iload hx hb dX5_move_147 (lv_at hl 0 rfl) ?_
                    have hh13 := c_X5_lay l dC dI cI g0 ps pk pa pb pq pw pt 0 ru we wr ty sf sl x7 H.size (by omega) (by omega)
                    have hPc := hP.sub (ws' := [(g0, .inr (5, [.int (zi 0), .ref ps, .int (zi ru), .ref pk, .ref pa, .ref pb, .ref pq, .int (zi we), .int (zi wr), .ref pw, .int (zi ty), .ref pt])), (ps, aI cI 10 sf)]) [0, 1] rfl
                    have hKc : va_K (dC, dI) vwCl [(cI, .int)] s := hK
                    have hDc := hD.sub (ws' := [(g0, .inr (5, [.int (zi 0), .ref ps, .int (zi ru), .ref pk, .ref pa, .ref pb, .ref pq, .int (zi we), .int (zi wr), .ref pw, .int (zi ty), .ref pt])), (ps, aI cI 10 sf)]) [0, 1] (by decide) rfl
                    have hFc := va_free (wc := [(g0, .inr (5, [.int (zi 0), .ref ps, .int (zi ru), .ref pk, .ref pa, .ref pb, .ref pq, .int (zi we), .int (zi wr), .ref pw, .int (zi ty), .ref pt])), (ps, aI cI 10 sf)]) hD hS hA [0, 1] rfl
                    refine va_calli (va_runV (As := [.int (zi sl), .int (zi x7)]) (rest := []) ⟨hx, hb, hml, hown, hts⟩ hh13 (cwV 2 hts gX5_move_X5_lay rfl rfl rfl (by decide +kernel) ⟨Nat.le_of_ble_eq_true rfl, Nat.le_of_ble_eq_true rfl⟩) ⟨zPw.blind _ _ _ _ _, va_recv hKc hPc (ci := 5) (q0 := 0) rfl rfl, fun U hU hW => ⟨rfl, by rw [hU], by rw [hU]; exact hPc, va_K.moved hW.alike hKc, hDc.weaken (fun _ _ _ _ => trivial)⟩⟩ rfl rfl hl.1 rfl (lv_room (Nat.le_of_ble_eq_true rfl)) dX5_move_149 ⟨Nat.le_of_ble_eq_true rfl, Nat.le_of_ble_eq_true rfl⟩) hS (fun q _ h => hFc q h) hFc (fun r13 u t H1 locs ht hvm hw hB hz1 hk1 hS => ?_)
                    obtain ⟨hP1, hK1, hD1⟩ := hB
                    rw [ht] at hP1
                    obtain ⟨hP, hD⟩ := va_join (wr := []) (w1 := [(g0, .inr (5, [.int (zi 0), .ref ps, .int (zi ru), .ref pk, .ref pa, .ref pb, .ref pq, .int (zi we), .int (zi wr), .ref pw, .int (zi ty), .ref pt])), (ps, aI cI 10 (zup sf sl.toNat x7))]) hP hD [0, 1] [] rfl rfl (by decide) (by decide) hk1 hFc hP1 hD1
                    generalize H1 = H at hP hS ⊢
                    obtain rfl : r13 = zi x7 := hw
                    have hP : va_P (dC, dI) vwCl [(g0, .inr (5, [.int (zi 0), .ref ps, .int (zi ru), .ref pk, .ref pa, .ref pb, .ref pq, .int (zi we), .int (zi wr), .ref pw, .int (zi ty), .ref pt])), (ps, aI cI 10 (zup sf sl.toNat x7))] H := hP
                    have hD : va_D A [(g0, .inr (5, [.int (zi 0), .ref ps, .int (zi ru), .ref pk, .ref pa, .ref pb, .ref pq, .int (zi we), .int (zi wr), .ref pw, .int (zi ty), .ref pt])), (ps, aI cI 10 (zup sf sl.toNat x7))] := hD
                    subst ex7
                    have hP9 := hP.sub (ws' := [(g0, .inr (5, [.int (zi 0), .ref ps, .int (zi ru), .ref pk, .ref pa, .ref pb, .ref pq, .int (zi we), .int (zi wr), .ref pw, .int (zi ty), .ref pt])), (ps, aI cI 10 (zup sf sl.toNat ((sf sl.toNat) + many)))]) [0, 1] rfl
                    have hD9 := hD.sub (ws' := [(g0, .inr (5, [.int (zi 0), .ref ps, .int (zi ru), .ref pk, .ref pa, .ref pb, .ref pq, .int (zi we), .int (zi wr), .ref pw, .int (zi ty), .ref pt])), (ps, aI cI 10 (zup sf sl.toNat ((sf sl.toNat) + many)))]) [0, 1] (by decide) rfl
                    exact W.iret (v := zi ((sf sl.toNat) + many)) hx hb hr (fun t ht hW => ⟨⟨zi ((sf sl.toNat) + many), (), rfl, rfl, by rw [ht]; exact hP9, va_K.moved hW.alike hK, hD9⟩, hS.F ht⟩) hS.2.2 dX5_move_152
                  · skip
                    exact absurd True.intro (by omega)
                · skip
                  exact absurd True.intro (by omega)
              · skip
                exact absurd True.intro (by omega)
        · skip
          exact absurd True.intro (by omega)
      · skip
        exact absurd True.intro (by omega)
    · skip
      exact absurd True.intro (by omega)
  · skip
    exact absurd True.intro (by omega)

set_option maxHeartbeats 4000000 in
set_option maxRecDepth 100000 in
theorem c_X5_move_4m (l : Launch)  (dC : Nat → ClassId) (dI : Nat → Nat → Nat) (cI : ClassId) (g0 ps pk pa pb pq pw pt : Nat) (co ru we wr ty : Int) (sf : Nat → Int) (sl many un : Int) (sz : Nat) (hp0 : 0 ≤ sl ∧ sl ≤ 9) (hp1 : -2147483648 ≤ many ∧ many ≤ 2147483647) (hp2 : un = 1) (hp3 : 0 ≤ sf sl.toNat ∧ sf sl.toNat ≤ 3652058) (hp4 : f_X5_byMonths (sf sl.toNat) many = -1) : Met l yX5_move wsX5_move ({ frames := 6, cells := 0, slots := 0, locals := 134 }) (zPw (dC, dI) [(cI, .int)] sz [.ref g0, .int (zi sl), .int (zi many), .int (zi un)] [(g0, .inr (5, [.int (zi co), .ref ps, .int (zi ru), .ref pk, .ref pa, .ref pb, .ref pq, .int (zi we), .int (zi wr), .ref pw, .int (zi ty), .ref pt])), (ps, aI cI 10 sf)]) (va_Qi (fun (r : Int32) (_ : Unit) => r = zi 0) (zB (dC, dI) [(cI, .int)] (va_A [(g0, .inr (5, [.int (zi co), .ref ps, .int (zi ru), .ref pk, .ref pa, .ref pb, .ref pq, .int (zi we), .int (zi wr), .ref pw, .int (zi ty), .ref pt])), (ps, aI cI 10 sf)] sz) [(g0, .inr (5, [.int (zi 4), .ref ps, .int (zi ru), .ref pk, .ref pa, .ref pb, .ref pq, .int (zi we), .int (zi wr), .ref pw, .int (zi ty), .ref pt])), (ps, aI cI 10 sf)]) (va_A [(g0, .inr (5, [.int (zi co), .ref ps, .int (zi ru), .ref pk, .ref pa, .ref pb, .ref pq, .int (zi we), .int (zi wr), .ref pw, .int (zi ty), .ref pt])), (ps, aI cI 10 sf)] sz)) 0 0 (va_A [(g0, .inr (5, [.int (zi co), .ref ps, .int (zi ru), .ref pk, .ref pa, .ref pb, .ref pq, .int (zi we), .int (zi wr), .ref pw, .int (zi ty), .ref pt])), (ps, aI cI 10 sf)] sz) := by
  refine Met.ofW (cc := cX5_move) (maxL := 7) (ret := (some .int)) (by decide) rfl ?_
  intro p e s m args below meth c s₁ B hml hv
  obtain ⟨rfl, hsz, hP, hK, hD0⟩ := hv
  have hx := B.exec
  have hb := B.bytes
  have hr := B.returns
  have hts := atoms_spec (ws := wsX5_move) B.pre
  have hown : s.vm.findClass RX5 = some m.cls := findClass_of_methodNamed B.named
  have hlocks := B.notSynchronized
  subst hsz
  have hD := hD0.self (sz := s.heap.size)
  generalize hAe : va_A [(g0, .inr (5, [.int (zi co), .ref ps, .int (zi ru), .ref pk, .ref pa, .ref pb, .ref pq, .int (zi we), .int (zi wr), .ref pw, .int (zi ty), .ref pt])), (ps, aI cI 10 sf)] s.heap.size = A at hD ⊢
  have hA : ∀ q : Nat, s.heap.size ≤ q → A q := fun q h => by rw [← hAe]; exact Or.inr h
  have hS : va_S A s.heap s.heap [] := va_S.rf
  have hP : va_P (dC, dI) vwCl [(g0, .inr (5, [.int (zi co), .ref ps, .int (zi ru), .ref pk, .ref pa, .ref pb, .ref pq, .int (zi we), .int (zi wr), .ref pw, .int (zi ty), .ref pt])), (ps, aI cI 10 sf)] s.heap := hP
  have hl := lv_entry ([.ref g0, .int (zi sl), .int (zi many), .int (zi un)]) (n := 7) (Nat.le_of_ble_eq_true rfl)
  rw [lg_entry_eq]
  generalize (lg_sl ([.ref g0, .int (zi sl), .int (zi many), .int (zi un)]) ++ List.replicate (7 - (lg_sl ([.ref g0, .int (zi sl), .int (zi many), .int (zi un)])).length) Slot.unset).toArray = ls at hl ⊢
  have hl : lv_has ls 7 [(0, .ref g0), (1, .int (zi sl)), (2, .int (zi many)), (3, .int (zi un))] := hl
  refine lv_aload_n hx hb dX5_move_0 rfl (lv_at hl 0 rfl) ?_
  refine lv_iload_n hx hb dX5_move_1 rfl (lv_at hl 1 rfl) ?_
  have hh1 := c_X5_isSlot l sl (by omega)
  refine vp_callSi (va_Run.run (va_runS (As := [.int (zi sl)]) (rest := [.ref g0]) ⟨hx, hb, hml, hown, hts⟩ hh1 (va_cwS 1 hts gX5_move_X5_isSlot rfl rfl rfl (by decide +kernel) ⟨Nat.le_of_ble_eq_true rfl, Nat.le_of_ble_eq_true rfl⟩) ⟨fun a U g mk q => q, fun U hU hW => ⟨rfl, trivial⟩⟩ rfl rfl hl.1 rfl (lv_room (Nat.le_of_ble_eq_true rfl)) dX5_move_2 ⟨Nat.zero_le _, Nat.zero_le _⟩)) (fun r1 (hr1 : r1 = zi (f_X5_isSlot sl)) => ?_)
  subst hr1
  have hf1 := b_X5_isSlot sl (by omega)
  refine zw_if_ne (tgt := 12) hx hb dX5_move_5 (by decide) ⟨by omega, by omega⟩ (fun h2 => ?_) (fun h2 => ?_)
  · skip
    refine lv_iload_n hx hb dX5_move_12 rfl (lv_at hl 3 rfl) ?_
    refine zw_iconst hx hb dX5_move_13 ?_
    refine zw_iconst hx hb dX5_move_14 ?_
    have hh3 := c_X5_in l un 0 2 (by omega) (by omega) (by omega)
    refine vp_callSi (va_Run.run (va_runS (As := [.int (zi un), .int (zi 0), .int (zi 2)]) (rest := [.ref g0]) ⟨hx, hb, hml, hown, hts⟩ hh3 (va_cwS 3 hts gX5_move_X5_in rfl rfl rfl (by decide +kernel) ⟨Nat.le_of_ble_eq_true rfl, Nat.le_of_ble_eq_true rfl⟩) ⟨fun a U g mk q => q, fun U hU hW => ⟨rfl, trivial⟩⟩ rfl rfl hl.1 rfl (lv_room (Nat.le_of_ble_eq_true rfl)) dX5_move_15 ⟨Nat.zero_le _, Nat.zero_le _⟩)) (fun r3 (hr3 : r3 = zi (f_X5_in un 0 2)) => ?_)
    subst hr3
    have hf3 := b_X5_in un 0 2 (by omega) (by omega) (by omega)
    refine zw_if_ne (tgt := 25) hx hb dX5_move_18 (by decide) ⟨by omega, by omega⟩ (fun h4 => ?_) (fun h4 => ?_)
    · skip
      refine lv_aload_n hx hb dX5_move_25 rfl (lv_at hl 0 rfl) ?_
      refine va_get (D := (dC, dI)) (ci := 5) (v := .ref ps) (C := RX5) (T := TX5) (N := 12) hx hb hts (by decide +kernel) hown hK hP 0 rfl rfl 1 (by decide) (hts (.fieldLink RX5 7 "CivilDaysModel" "slots" "[I") (by decide +kernel)) (fun _ h9 => h9) rfl dX5_move_26 ?_
      refine lv_iload_n hx hb dX5_move_29 rfl (lv_at hl 1 rfl) ?_
      refine zw_iald hx hb hK hP 1 0 rfl rfl (by omega) (by omega) ⟨by omega, by omega⟩ dX5_move_30 ?_
      refine zw_if_ge (tgt := 38) hx hb dX5_move_31 (by decide) ⟨by omega, by omega⟩ (fun h5 => ?_) (fun h5 => ?_)
      · skip
        refine zw_iconst hx hb dX5_move_38 ?_
        refine va_put (D := (dC, dI)) (ci := 5) (v := .int (zi 0)) (ty := .int) (C := RX5) (T := TX5) (N := 12) hx hb hts (by decide +kernel) tyX5 tyX5_ok nmX5 hown hK hP hD hS 0 rfl rfl 0 (by decide) (hts (.fieldLink RX5 35 "CivilDaysModel" "code" "I") (by decide +kernel)) (fun _ h9 => h9) rfl (by decide +kernel) rfl rfl (Nat.le_of_ble_eq_true rfl) dX5_move_39 (fun H locs hP hD hS => ?_)
        have hP : va_P (dC, dI) vwCl [(g0, .inr (5, [.int (zi 0), .ref ps, .int (zi ru), .ref pk, .ref pa, .ref pb, .ref pq, .int (zi we), .int (zi wr), .ref pw, .int (zi ty), .ref pt])), (ps, aI cI 10 sf)] H := hP
        have hD : va_D A [(g0, .inr (5, [.int (zi 0), .ref ps, .int (zi ru), .ref pk, .ref pa, .ref pb, .ref pq, .int (zi we), .int (zi wr), .ref pw, .int (zi ty), .ref pt])), (ps, aI cI 10 sf)] := hD
        refine lv_aload_n hx hb dX5_move_42 rfl (lv_at hl 0 rfl) ?_
        refine va_get (D := (dC, dI)) (ci := 5) (v := .int (zi 0)) (C := RX5) (T := TX5) (N := 12) hx hb hts (by decide +kernel) hown hK hP 0 rfl rfl 0 (by decide) (hts (.fieldLink RX5 35 "CivilDaysModel" "code" "I") (by decide +kernel)) (fun _ h9 => h9) rfl dX5_move_43 ?_
        refine zw_if_le (tgt := 51) hx hb dX5_move_46 (by decide) ⟨by omega, by omega⟩ (fun h6 => ?_) (fun h6 => ?_)
        · skip
          refine lv_aload_n hx hb dX5_move_51 rfl (lv_at hl 0 rfl) ?_
          refine va_get (D := (dC, dI)) (ci := 5) (v := .ref ps) (C := RX5) (T := TX5) (N := 12) hx hb hts (by decide +kernel) hown hK hP 0 rfl rfl 1 (by decide) (hts (.fieldLink RX5 7 "CivilDaysModel" "slots" "[I") (by decide +kernel)) (fun _ h9 => h9) rfl dX5_move_52 ?_
          refine lv_iload_n hx hb dX5_move_55 rfl (lv_at hl 1 rfl) ?_
          refine zw_iald hx hb hK hP 1 0 rfl rfl (by omega) (by omega) ⟨by omega, by omega⟩ dX5_move_56 ?_
          refine zw_i2l hx hb dX5_move_57 ⟨by omega, by omega⟩ ?_
          refine lv_iload_n hx hb dX5_move_58 rfl (lv_at hl 2 rfl) ?_
          refine zw_i2l hx hb dX5_move_59 ⟨by omega, by omega⟩ ?_
          refine zw_ladd hx hb dX5_move_60 ?_
          refine zw_topl (fun x7 ex7 => ?_)
          refine lv_lstore (lv' := [(4, .long (zl x7)), (0, .ref g0), (1, .int (zi sl)), (2, .int (zi many)), (3, .int (zi un))]) hx hb dX5_move_61 hl (by decide) rfl (fun ls hl => ?_)
          refine lv_iload_n hx hb dX5_move_63 rfl (lv_at hl 4 rfl) ?_
          refine zw_if_ne (tgt := 93) hx hb dX5_move_64 (by decide) ⟨by omega, by omega⟩ (fun h8 => ?_) (fun h8 => ?_)
          · skip
            refine lv_aload_n hx hb dX5_move_93 rfl (lv_at hl 1 rfl) ?_
            refine va_get (D := (dC, dI)) (ci := 5) (v := .ref ps) (C := RX5) (T := TX5) (N := 12) hx hb hts (by decide +kernel) hown hK hP 0 rfl rfl 1 (by decide) (hts (.fieldLink RX5 7 "CivilDaysModel" "slots" "[I") (by decide +kernel)) (fun _ h9 => h9) rfl dX5_move_94 ?_
            refine lv_iload_n hx hb dX5_move_97 rfl (lv_at hl 2 rfl) ?_
            refine zw_iald hx hb hK hP 1 0 rfl rfl (by omega) (by omega) ⟨by omega, by omega⟩ dX5_move_98 ?_
            refine lv_iload_n hx hb dX5_move_99 rfl (lv_at hl 4 rfl) ?_
            refine zw_iconst hx hb dX5_move_100 ?_
            refine zw_icmp_ne (tgt := 109) hx hb dX5_move_101 (by decide) ⟨by omega, by omega⟩ ⟨by omega, by omega⟩ (fun h9 => ?_) (fun h9 => ?_)
            · skip
              exact absurd True.intro (by omega)
            · skip
              refine lv_iload_n hx hb dX5_move_104 rfl (lv_at hl 3 rfl) ?_
              refine zw_i2l hx hb dX5_move_105 ⟨by omega, by omega⟩ ?_
              refine lv_goto (tgt := 115) hx hb dX5_move_106 (by decide) ?_
              have hh10 := c_X5_byMonths l (sf sl.toNat) many (by omega) (by omega)
              refine vp_callSi (va_Run.run (va_runS (As := [.int (zi (sf sl.toNat)), .long (zl many)]) (rest := []) ⟨hx, hb, hml, hown, hts⟩ hh10 (va_cwS 2 hts gX5_move_X5_byMonths rfl rfl rfl (by decide +kernel) ⟨Nat.le_of_ble_eq_true rfl, Nat.le_of_ble_eq_true rfl⟩) ⟨fun a U g mk q => q, fun U hU hW => ⟨rfl, trivial⟩⟩ rfl rfl hl.1 rfl (lv_room (Nat.le_of_ble_eq_true rfl)) dX5_move_115 ⟨Nat.zero_le _, Nat.zero_le _⟩)) (fun r10 (hr10 : r10 = zi (f_X5_byMonths (sf sl.toNat) many)) => ?_)
              subst hr10
              have hf10 := b_X5_byMonths (sf sl.toNat) many (by omega) (by omega)
              refine zw_top (fun x11 ex11 => ?_)
              refine lv_istore (lv' := [(6, .int (zi x11)), (4, .long (zl x7)), (0, .ref g0), (1, .int (zi sl)), (2, .int (zi many)), (3, .int (zi un))]) hx hb dX5_move_118 hl (by decide) rfl (fun ls hl => ?_)
              refine lv_aload_n hx hb dX5_move_120 rfl (lv_at hl 2 rfl) ?_
              refine lv_iload hx hb dX5_move_121 (lv_at hl 0 rfl) ?_
              refine zw_if_ge (tgt := 130) hx hb dX5_move_123 (by decide) ⟨by omega, by omega⟩ (fun h12 => ?_) (fun h12 => ?_)
              · skip
                exact absurd True.intro (by omega)
              · skip
                refine zw_iconst hx hb dX5_move_126 ?_
                refine lv_goto (tgt := 131) hx hb dX5_move_127 (by decide) ?_
                refine va_put (D := (dC, dI)) (ci := 5) (v := .int (zi 4)) (ty := .int) (C := RX5) (T := TX5) (N := 12) hx hb hts (by decide +kernel) tyX5 tyX5_ok nmX5 hown hK hP hD hS 0 rfl rfl 0 (by decide) (hts (.fieldLink RX5 35 "CivilDaysModel" "code" "I") (by decide +kernel)) (fun _ h9 => h9) rfl (by decide +kernel) rfl rfl (Nat.le_of_ble_eq_true rfl) dX5_move_131 (fun H locs hP hD hS => ?_)
                have hP : va_P (dC, dI) vwCl [(g0, .inr (5, [.int (zi 4), .ref ps, .int (zi ru), .ref pk, .ref pa, .ref pb, .ref pq, .int (zi we), .int (zi wr), .ref pw, .int (zi ty), .ref pt])), (ps, aI cI 10 sf)] H := hP
                have hD : va_D A [(g0, .inr (5, [.int (zi 4), .ref ps, .int (zi ru), .ref pk, .ref pa, .ref pb, .ref pq, .int (zi we), .int (zi wr), .ref pw, .int (zi ty), .ref pt])), (ps, aI cI 10 sf)] := hD
                refine lv_aload_n hx hb dX5_move_134 rfl (lv_at hl 2 rfl) ?_
                refine va_get (D := (dC, dI)) (ci := 5) (v := .int (zi 4)) (C := RX5) (T := TX5) (N := 12) hx hb hts (by decide +kernel) hown hK hP 0 rfl rfl 0 (by decide) (hts (.fieldLink RX5 35 "CivilDaysModel" "code" "I") (by decide +kernel)) (fun _ h9 => h9) rfl dX5_move_135 ?_
                refine zw_if_le (tgt := 145) hx hb dX5_move_138 (by decide) ⟨by omega, by omega⟩ (fun h13 => ?_) (fun h13 => ?_)
                · skip
                  exact absurd True.intro (by omega)
                · skip
                  refine zw_iconst hx hb dX5_move_141 ?_
                  refine lv_goto (tgt := 152) hx hb dX5_move_142 (by decide) ?_
                  subst ex7 ex11
                  have hP9 := hP.sub (ws' := [(g0, .inr (5, [.int (zi 4), .ref ps, .int (zi ru), .ref pk, .ref pa, .ref pb, .ref pq, .int (zi we), .int (zi wr), .ref pw, .int (zi ty), .ref pt])), (ps, aI cI 10 sf)]) [0, 1] rfl
                  have hD9 := hD.sub (ws' := [(g0, .inr (5, [.int (zi 4), .ref ps, .int (zi ru), .ref pk, .ref pa, .ref pb, .ref pq, .int (zi we), .int (zi wr), .ref pw, .int (zi ty), .ref pt])), (ps, aI cI 10 sf)]) [0, 1] (by decide) rfl
                  exact W.iret (v := zi 0) hx hb hr (fun t ht hW => ⟨⟨zi 0, (), rfl, rfl, by rw [ht]; exact hP9, va_K.moved hW.alike hK, hD9⟩, hS.F ht⟩) hS.2.2 dX5_move_152
          · skip
            exact absurd True.intro (by omega)
        · skip
          exact absurd True.intro (by omega)
      · skip
        exact absurd True.intro (by omega)
    · skip
      exact absurd True.intro (by omega)
  · skip
    exact absurd True.intro (by omega)

set_option maxHeartbeats 4000000 in
set_option maxRecDepth 100000 in
theorem c_X5_move_m (l : Launch)  (dC : Nat → ClassId) (dI : Nat → Nat → Nat) (cI : ClassId) (g0 ps pk pa pb pq pw pt : Nat) (co ru we wr ty : Int) (sf : Nat → Int) (sl many un : Int) (sz : Nat) (hp0 : 0 ≤ sl ∧ sl ≤ 9) (hp1 : -2147483648 ≤ many ∧ many ≤ 2147483647) (hp2 : un = 1) (hp3 : 0 ≤ sf sl.toNat ∧ sf sl.toNat ≤ 3652058) (hp4 : f_X5_byMonths (sf sl.toNat) many ≠ -1) : Met l yX5_move wsX5_move ({ frames := 6, cells := 0, slots := 0, locals := 134 }) (zPw (dC, dI) [(cI, .int)] sz [.ref g0, .int (zi sl), .int (zi many), .int (zi un)] [(g0, .inr (5, [.int (zi co), .ref ps, .int (zi ru), .ref pk, .ref pa, .ref pb, .ref pq, .int (zi we), .int (zi wr), .ref pw, .int (zi ty), .ref pt])), (ps, aI cI 10 sf)]) (va_Qi (fun (r : Int32) (_ : Unit) => r = zi (f_X5_byMonths (sf sl.toNat) many)) (zB (dC, dI) [(cI, .int)] (va_A [(g0, .inr (5, [.int (zi co), .ref ps, .int (zi ru), .ref pk, .ref pa, .ref pb, .ref pq, .int (zi we), .int (zi wr), .ref pw, .int (zi ty), .ref pt])), (ps, aI cI 10 sf)] sz) [(g0, .inr (5, [.int (zi 0), .ref ps, .int (zi ru), .ref pk, .ref pa, .ref pb, .ref pq, .int (zi we), .int (zi wr), .ref pw, .int (zi ty), .ref pt])), (ps, aI cI 10 (zup sf sl.toNat (f_X5_byMonths (sf sl.toNat) many)))]) (va_A [(g0, .inr (5, [.int (zi co), .ref ps, .int (zi ru), .ref pk, .ref pa, .ref pb, .ref pq, .int (zi we), .int (zi wr), .ref pw, .int (zi ty), .ref pt])), (ps, aI cI 10 sf)] sz)) 0 0 (va_A [(g0, .inr (5, [.int (zi co), .ref ps, .int (zi ru), .ref pk, .ref pa, .ref pb, .ref pq, .int (zi we), .int (zi wr), .ref pw, .int (zi ty), .ref pt])), (ps, aI cI 10 sf)] sz) := by
  refine Met.ofW (cc := cX5_move) (maxL := 7) (ret := (some .int)) (by decide) rfl ?_
  intro p e s m args below meth c s₁ B hml hv
  obtain ⟨rfl, hsz, hP, hK, hD0⟩ := hv
  have hx := B.exec
  have hb := B.bytes
  have hr := B.returns
  have hts := atoms_spec (ws := wsX5_move) B.pre
  have hown : s.vm.findClass RX5 = some m.cls := findClass_of_methodNamed B.named
  have hlocks := B.notSynchronized
  subst hsz
  have hD := hD0.self (sz := s.heap.size)
  generalize hAe : va_A [(g0, .inr (5, [.int (zi co), .ref ps, .int (zi ru), .ref pk, .ref pa, .ref pb, .ref pq, .int (zi we), .int (zi wr), .ref pw, .int (zi ty), .ref pt])), (ps, aI cI 10 sf)] s.heap.size = A at hD ⊢
  have hA : ∀ q : Nat, s.heap.size ≤ q → A q := fun q h => by rw [← hAe]; exact Or.inr h
  have hS : va_S A s.heap s.heap [] := va_S.rf
  have hP : va_P (dC, dI) vwCl [(g0, .inr (5, [.int (zi co), .ref ps, .int (zi ru), .ref pk, .ref pa, .ref pb, .ref pq, .int (zi we), .int (zi wr), .ref pw, .int (zi ty), .ref pt])), (ps, aI cI 10 sf)] s.heap := hP
  have hl := lv_entry ([.ref g0, .int (zi sl), .int (zi many), .int (zi un)]) (n := 7) (Nat.le_of_ble_eq_true rfl)
  rw [lg_entry_eq]
  generalize (lg_sl ([.ref g0, .int (zi sl), .int (zi many), .int (zi un)]) ++ List.replicate (7 - (lg_sl ([.ref g0, .int (zi sl), .int (zi many), .int (zi un)])).length) Slot.unset).toArray = ls at hl ⊢
  have hl : lv_has ls 7 [(0, .ref g0), (1, .int (zi sl)), (2, .int (zi many)), (3, .int (zi un))] := hl
  refine lv_aload_n hx hb dX5_move_0 rfl (lv_at hl 0 rfl) ?_
  refine lv_iload_n hx hb dX5_move_1 rfl (lv_at hl 1 rfl) ?_
  have hh1 := c_X5_isSlot l sl (by omega)
  refine vp_callSi (va_Run.run (va_runS (As := [.int (zi sl)]) (rest := [.ref g0]) ⟨hx, hb, hml, hown, hts⟩ hh1 (va_cwS 1 hts gX5_move_X5_isSlot rfl rfl rfl (by decide +kernel) ⟨Nat.le_of_ble_eq_true rfl, Nat.le_of_ble_eq_true rfl⟩) ⟨fun a U g mk q => q, fun U hU hW => ⟨rfl, trivial⟩⟩ rfl rfl hl.1 rfl (lv_room (Nat.le_of_ble_eq_true rfl)) dX5_move_2 ⟨Nat.zero_le _, Nat.zero_le _⟩)) (fun r1 (hr1 : r1 = zi (f_X5_isSlot sl)) => ?_)
  subst hr1
  have hf1 := b_X5_isSlot sl (by omega)
  refine zw_if_ne (tgt := 12) hx hb dX5_move_5 (by decide) ⟨by omega, by omega⟩ (fun h2 => ?_) (fun h2 => ?_)
  · skip
    refine lv_iload_n hx hb dX5_move_12 rfl (lv_at hl 3 rfl) ?_
    refine zw_iconst hx hb dX5_move_13 ?_
    refine zw_iconst hx hb dX5_move_14 ?_
    have hh3 := c_X5_in l un 0 2 (by omega) (by omega) (by omega)
    refine vp_callSi (va_Run.run (va_runS (As := [.int (zi un), .int (zi 0), .int (zi 2)]) (rest := [.ref g0]) ⟨hx, hb, hml, hown, hts⟩ hh3 (va_cwS 3 hts gX5_move_X5_in rfl rfl rfl (by decide +kernel) ⟨Nat.le_of_ble_eq_true rfl, Nat.le_of_ble_eq_true rfl⟩) ⟨fun a U g mk q => q, fun U hU hW => ⟨rfl, trivial⟩⟩ rfl rfl hl.1 rfl (lv_room (Nat.le_of_ble_eq_true rfl)) dX5_move_15 ⟨Nat.zero_le _, Nat.zero_le _⟩)) (fun r3 (hr3 : r3 = zi (f_X5_in un 0 2)) => ?_)
    subst hr3
    have hf3 := b_X5_in un 0 2 (by omega) (by omega) (by omega)
    refine zw_if_ne (tgt := 25) hx hb dX5_move_18 (by decide) ⟨by omega, by omega⟩ (fun h4 => ?_) (fun h4 => ?_)
    · skip
      refine lv_aload_n hx hb dX5_move_25 rfl (lv_at hl 0 rfl) ?_
      refine va_get (D := (dC, dI)) (ci := 5) (v := .ref ps) (C := RX5) (T := TX5) (N := 12) hx hb hts (by decide +kernel) hown hK hP 0 rfl rfl 1 (by decide) (hts (.fieldLink RX5 7 "CivilDaysModel" "slots" "[I") (by decide +kernel)) (fun _ h9 => h9) rfl dX5_move_26 ?_
      refine lv_iload_n hx hb dX5_move_29 rfl (lv_at hl 1 rfl) ?_
      refine zw_iald hx hb hK hP 1 0 rfl rfl (by omega) (by omega) ⟨by omega, by omega⟩ dX5_move_30 ?_
      refine zw_if_ge (tgt := 38) hx hb dX5_move_31 (by decide) ⟨by omega, by omega⟩ (fun h5 => ?_) (fun h5 => ?_)
      · skip
        refine zw_iconst hx hb dX5_move_38 ?_
        refine va_put (D := (dC, dI)) (ci := 5) (v := .int (zi 0)) (ty := .int) (C := RX5) (T := TX5) (N := 12) hx hb hts (by decide +kernel) tyX5 tyX5_ok nmX5 hown hK hP hD hS 0 rfl rfl 0 (by decide) (hts (.fieldLink RX5 35 "CivilDaysModel" "code" "I") (by decide +kernel)) (fun _ h9 => h9) rfl (by decide +kernel) rfl rfl (Nat.le_of_ble_eq_true rfl) dX5_move_39 (fun H locs hP hD hS => ?_)
        have hP : va_P (dC, dI) vwCl [(g0, .inr (5, [.int (zi 0), .ref ps, .int (zi ru), .ref pk, .ref pa, .ref pb, .ref pq, .int (zi we), .int (zi wr), .ref pw, .int (zi ty), .ref pt])), (ps, aI cI 10 sf)] H := hP
        have hD : va_D A [(g0, .inr (5, [.int (zi 0), .ref ps, .int (zi ru), .ref pk, .ref pa, .ref pb, .ref pq, .int (zi we), .int (zi wr), .ref pw, .int (zi ty), .ref pt])), (ps, aI cI 10 sf)] := hD
        refine lv_aload_n hx hb dX5_move_42 rfl (lv_at hl 0 rfl) ?_
        refine va_get (D := (dC, dI)) (ci := 5) (v := .int (zi 0)) (C := RX5) (T := TX5) (N := 12) hx hb hts (by decide +kernel) hown hK hP 0 rfl rfl 0 (by decide) (hts (.fieldLink RX5 35 "CivilDaysModel" "code" "I") (by decide +kernel)) (fun _ h9 => h9) rfl dX5_move_43 ?_
        refine zw_if_le (tgt := 51) hx hb dX5_move_46 (by decide) ⟨by omega, by omega⟩ (fun h6 => ?_) (fun h6 => ?_)
        · skip
          refine lv_aload_n hx hb dX5_move_51 rfl (lv_at hl 0 rfl) ?_
          refine va_get (D := (dC, dI)) (ci := 5) (v := .ref ps) (C := RX5) (T := TX5) (N := 12) hx hb hts (by decide +kernel) hown hK hP 0 rfl rfl 1 (by decide) (hts (.fieldLink RX5 7 "CivilDaysModel" "slots" "[I") (by decide +kernel)) (fun _ h9 => h9) rfl dX5_move_52 ?_
          refine lv_iload_n hx hb dX5_move_55 rfl (lv_at hl 1 rfl) ?_
          refine zw_iald hx hb hK hP 1 0 rfl rfl (by omega) (by omega) ⟨by omega, by omega⟩ dX5_move_56 ?_
          refine zw_i2l hx hb dX5_move_57 ⟨by omega, by omega⟩ ?_
          refine lv_iload_n hx hb dX5_move_58 rfl (lv_at hl 2 rfl) ?_
          refine zw_i2l hx hb dX5_move_59 ⟨by omega, by omega⟩ ?_
          refine zw_ladd hx hb dX5_move_60 ?_
          refine zw_topl (fun x7 ex7 => ?_)
          refine lv_lstore (lv' := [(4, .long (zl x7)), (0, .ref g0), (1, .int (zi sl)), (2, .int (zi many)), (3, .int (zi un))]) hx hb dX5_move_61 hl (by decide) rfl (fun ls hl => ?_)
          refine lv_iload_n hx hb dX5_move_63 rfl (lv_at hl 4 rfl) ?_
          refine zw_if_ne (tgt := 93) hx hb dX5_move_64 (by decide) ⟨by omega, by omega⟩ (fun h8 => ?_) (fun h8 => ?_)
          · skip
            refine lv_aload_n hx hb dX5_move_93 rfl (lv_at hl 1 rfl) ?_
            refine va_get (D := (dC, dI)) (ci := 5) (v := .ref ps) (C := RX5) (T := TX5) (N := 12) hx hb hts (by decide +kernel) hown hK hP 0 rfl rfl 1 (by decide) (hts (.fieldLink RX5 7 "CivilDaysModel" "slots" "[I") (by decide +kernel)) (fun _ h9 => h9) rfl dX5_move_94 ?_
            refine lv_iload_n hx hb dX5_move_97 rfl (lv_at hl 2 rfl) ?_
            refine zw_iald hx hb hK hP 1 0 rfl rfl (by omega) (by omega) ⟨by omega, by omega⟩ dX5_move_98 ?_
            refine lv_iload_n hx hb dX5_move_99 rfl (lv_at hl 4 rfl) ?_
            refine zw_iconst hx hb dX5_move_100 ?_
            refine zw_icmp_ne (tgt := 109) hx hb dX5_move_101 (by decide) ⟨by omega, by omega⟩ ⟨by omega, by omega⟩ (fun h9 => ?_) (fun h9 => ?_)
            · skip
              exact absurd True.intro (by omega)
            · skip
              refine lv_iload_n hx hb dX5_move_104 rfl (lv_at hl 3 rfl) ?_
              refine zw_i2l hx hb dX5_move_105 ⟨by omega, by omega⟩ ?_
              refine lv_goto (tgt := 115) hx hb dX5_move_106 (by decide) ?_
              have hh10 := c_X5_byMonths l (sf sl.toNat) many (by omega) (by omega)
              refine vp_callSi (va_Run.run (va_runS (As := [.int (zi (sf sl.toNat)), .long (zl many)]) (rest := []) ⟨hx, hb, hml, hown, hts⟩ hh10 (va_cwS 2 hts gX5_move_X5_byMonths rfl rfl rfl (by decide +kernel) ⟨Nat.le_of_ble_eq_true rfl, Nat.le_of_ble_eq_true rfl⟩) ⟨fun a U g mk q => q, fun U hU hW => ⟨rfl, trivial⟩⟩ rfl rfl hl.1 rfl (lv_room (Nat.le_of_ble_eq_true rfl)) dX5_move_115 ⟨Nat.zero_le _, Nat.zero_le _⟩)) (fun r10 (hr10 : r10 = zi (f_X5_byMonths (sf sl.toNat) many)) => ?_)
              subst hr10
              have hf10 := b_X5_byMonths (sf sl.toNat) many (by omega) (by omega)
              refine zw_top (fun x11 ex11 => ?_)
              refine lv_istore (lv' := [(6, .int (zi x11)), (4, .long (zl x7)), (0, .ref g0), (1, .int (zi sl)), (2, .int (zi many)), (3, .int (zi un))]) hx hb dX5_move_118 hl (by decide) rfl (fun ls hl => ?_)
              refine lv_aload_n hx hb dX5_move_120 rfl (lv_at hl 2 rfl) ?_
              refine lv_iload hx hb dX5_move_121 (lv_at hl 0 rfl) ?_
              refine zw_if_ge (tgt := 130) hx hb dX5_move_123 (by decide) ⟨by omega, by omega⟩ (fun h12 => ?_) (fun h12 => ?_)
              · skip
                refine zw_iconst hx hb dX5_move_130 ?_
                refine va_put (D := (dC, dI)) (ci := 5) (v := .int (zi 0)) (ty := .int) (C := RX5) (T := TX5) (N := 12) hx hb hts (by decide +kernel) tyX5 tyX5_ok nmX5 hown hK hP hD hS 0 rfl rfl 0 (by decide) (hts (.fieldLink RX5 35 "CivilDaysModel" "code" "I") (by decide +kernel)) (fun _ h9 => h9) rfl (by decide +kernel) rfl rfl (Nat.le_of_ble_eq_true rfl) dX5_move_131 (fun H locs hP hD hS => ?_)
                have hP : va_P (dC, dI) vwCl [(g0, .inr (5, [.int (zi 0), .ref ps, .int (zi ru), .ref pk, .ref pa, .ref pb, .ref pq, .int (zi we), .int (zi wr), .ref pw, .int (zi ty), .ref pt])), (ps, aI cI 10 sf)] H := hP
                have hD : va_D A [(g0, .inr (5, [.int (zi 0), .ref ps, .int (zi ru), .ref pk, .ref pa, .ref pb, .ref pq, .int (zi we), .int (zi wr), .ref pw, .int (zi ty), .ref pt])), (ps, aI cI 10 sf)] := hD
                refine lv_aload_n hx hb dX5_move_134 rfl (lv_at hl 2 rfl) ?_
                refine va_get (D := (dC, dI)) (ci := 5) (v := .int (zi 0)) (C := RX5) (T := TX5) (N := 12) hx hb hts (by decide +kernel) hown hK hP 0 rfl rfl 0 (by decide) (hts (.fieldLink RX5 35 "CivilDaysModel" "code" "I") (by decide +kernel)) (fun _ h9 => h9) rfl dX5_move_135 ?_
                refine zw_if_le (tgt := 145) hx hb dX5_move_138 (by decide) ⟨by omega, by omega⟩ (fun h13 => ?_) (fun h13 => ?_)
                · skip
                  refine lv_aload_n hx hb dX5_move_145 rfl (lv_at hl 2 rfl) ?_
                  refine lv_iload_n hx hb dX5_move_146 rfl (lv_at hl 3 rfl) ?_
                  refine lv_iload hx hb dX5_move_147 (lv_at hl 0 rfl) ?_
                  have hh14 := c_X5_lay l dC dI cI g0 ps pk pa pb pq pw pt 0 ru we wr ty sf sl x11 H.size (by omega) (by omega)
                  have hPc := hP.sub (ws' := [(g0, .inr (5, [.int (zi 0), .ref ps, .int (zi ru), .ref pk, .ref pa, .ref pb, .ref pq, .int (zi we), .int (zi wr), .ref pw, .int (zi ty), .ref pt])), (ps, aI cI 10 sf)]) [0, 1] rfl
                  have hKc : va_K (dC, dI) vwCl [(cI, .int)] s := hK
                  have hDc := hD.sub (ws' := [(g0, .inr (5, [.int (zi 0), .ref ps, .int (zi ru), .ref pk, .ref pa, .ref pb, .ref pq, .int (zi we), .int (zi wr), .ref pw, .int (zi ty), .ref pt])), (ps, aI cI 10 sf)]) [0, 1] (by decide) rfl
                  have hFc := va_free (wc := [(g0, .inr (5, [.int (zi 0), .ref ps, .int (zi ru), .ref pk, .ref pa, .ref pb, .ref pq, .int (zi we), .int (zi wr), .ref pw, .int (zi ty), .ref pt])), (ps, aI cI 10 sf)]) hD hS hA [0, 1] rfl
                  refine va_calli (va_runV (As := [.int (zi sl), .int (zi x11)]) (rest := []) ⟨hx, hb, hml, hown, hts⟩ hh14 (cwV 2 hts gX5_move_X5_lay rfl rfl rfl (by decide +kernel) ⟨Nat.le_of_ble_eq_true rfl, Nat.le_of_ble_eq_true rfl⟩) ⟨zPw.blind _ _ _ _ _, va_recv hKc hPc (ci := 5) (q0 := 0) rfl rfl, fun U hU hW => ⟨rfl, by rw [hU], by rw [hU]; exact hPc, va_K.moved hW.alike hKc, hDc.weaken (fun _ _ _ _ => trivial)⟩⟩ rfl rfl hl.1 rfl (lv_room (Nat.le_of_ble_eq_true rfl)) dX5_move_149 ⟨Nat.le_of_ble_eq_true rfl, Nat.le_of_ble_eq_true rfl⟩) hS (fun q _ h => hFc q h) hFc (fun r14 u t H1 locs ht hvm hw hB hz1 hk1 hS => ?_)
                  obtain ⟨hP1, hK1, hD1⟩ := hB
                  rw [ht] at hP1
                  obtain ⟨hP, hD⟩ := va_join (wr := []) (w1 := [(g0, .inr (5, [.int (zi 0), .ref ps, .int (zi ru), .ref pk, .ref pa, .ref pb, .ref pq, .int (zi we), .int (zi wr), .ref pw, .int (zi ty), .ref pt])), (ps, aI cI 10 (zup sf sl.toNat x11))]) hP hD [0, 1] [] rfl rfl (by decide) (by decide) hk1 hFc hP1 hD1
                  generalize H1 = H at hP hS ⊢
                  obtain rfl : r14 = zi x11 := hw
                  have hP : va_P (dC, dI) vwCl [(g0, .inr (5, [.int (zi 0), .ref ps, .int (zi ru), .ref pk, .ref pa, .ref pb, .ref pq, .int (zi we), .int (zi wr), .ref pw, .int (zi ty), .ref pt])), (ps, aI cI 10 (zup sf sl.toNat x11))] H := hP
                  have hD : va_D A [(g0, .inr (5, [.int (zi 0), .ref ps, .int (zi ru), .ref pk, .ref pa, .ref pb, .ref pq, .int (zi we), .int (zi wr), .ref pw, .int (zi ty), .ref pt])), (ps, aI cI 10 (zup sf sl.toNat x11))] := hD
                  subst ex7 ex11
                  have hP9 := hP.sub (ws' := [(g0, .inr (5, [.int (zi 0), .ref ps, .int (zi ru), .ref pk, .ref pa, .ref pb, .ref pq, .int (zi we), .int (zi wr), .ref pw, .int (zi ty), .ref pt])), (ps, aI cI 10 (zup sf sl.toNat (f_X5_byMonths (sf sl.toNat) many)))]) [0, 1] rfl
                  have hD9 := hD.sub (ws' := [(g0, .inr (5, [.int (zi 0), .ref ps, .int (zi ru), .ref pk, .ref pa, .ref pb, .ref pq, .int (zi we), .int (zi wr), .ref pw, .int (zi ty), .ref pt])), (ps, aI cI 10 (zup sf sl.toNat (f_X5_byMonths (sf sl.toNat) many)))]) [0, 1] (by decide) rfl
                  exact W.iret (v := zi (f_X5_byMonths (sf sl.toNat) many)) hx hb hr (fun t ht hW => ⟨⟨zi (f_X5_byMonths (sf sl.toNat) many), (), rfl, rfl, by rw [ht]; exact hP9, va_K.moved hW.alike hK, hD9⟩, hS.F ht⟩) hS.2.2 dX5_move_152
                · skip
                  exact absurd True.intro (by omega)
              · skip
                exact absurd True.intro (by omega)
          · skip
            exact absurd True.intro (by omega)
        · skip
          exact absurd True.intro (by omega)
      · skip
        exact absurd True.intro (by omega)
    · skip
      exact absurd True.intro (by omega)
  · skip
    exact absurd True.intro (by omega)

set_option maxHeartbeats 4000000 in
set_option maxRecDepth 100000 in
theorem c_X5_move_4y (l : Launch)  (dC : Nat → ClassId) (dI : Nat → Nat → Nat) (cI : ClassId) (g0 ps pk pa pb pq pw pt : Nat) (co ru we wr ty : Int) (sf : Nat → Int) (sl many un : Int) (sz : Nat) (hp0 : 0 ≤ sl ∧ sl ≤ 9) (hp1 : -2147483648 ≤ many ∧ many ≤ 2147483647) (hp2 : un = 2) (hp3 : 0 ≤ sf sl.toNat ∧ sf sl.toNat ≤ 3652058) (hp4 : f_X5_byMonths (sf sl.toNat) (12 * many) = -1) : Met l yX5_move wsX5_move ({ frames := 6, cells := 0, slots := 0, locals := 134 }) (zPw (dC, dI) [(cI, .int)] sz [.ref g0, .int (zi sl), .int (zi many), .int (zi un)] [(g0, .inr (5, [.int (zi co), .ref ps, .int (zi ru), .ref pk, .ref pa, .ref pb, .ref pq, .int (zi we), .int (zi wr), .ref pw, .int (zi ty), .ref pt])), (ps, aI cI 10 sf)]) (va_Qi (fun (r : Int32) (_ : Unit) => r = zi 0) (zB (dC, dI) [(cI, .int)] (va_A [(g0, .inr (5, [.int (zi co), .ref ps, .int (zi ru), .ref pk, .ref pa, .ref pb, .ref pq, .int (zi we), .int (zi wr), .ref pw, .int (zi ty), .ref pt])), (ps, aI cI 10 sf)] sz) [(g0, .inr (5, [.int (zi 4), .ref ps, .int (zi ru), .ref pk, .ref pa, .ref pb, .ref pq, .int (zi we), .int (zi wr), .ref pw, .int (zi ty), .ref pt])), (ps, aI cI 10 sf)]) (va_A [(g0, .inr (5, [.int (zi co), .ref ps, .int (zi ru), .ref pk, .ref pa, .ref pb, .ref pq, .int (zi we), .int (zi wr), .ref pw, .int (zi ty), .ref pt])), (ps, aI cI 10 sf)] sz)) 0 0 (va_A [(g0, .inr (5, [.int (zi co), .ref ps, .int (zi ru), .ref pk, .ref pa, .ref pb, .ref pq, .int (zi we), .int (zi wr), .ref pw, .int (zi ty), .ref pt])), (ps, aI cI 10 sf)] sz) := by
  refine Met.ofW (cc := cX5_move) (maxL := 7) (ret := (some .int)) (by decide) rfl ?_
  intro p e s m args below meth c s₁ B hml hv
  obtain ⟨rfl, hsz, hP, hK, hD0⟩ := hv
  have hx := B.exec
  have hb := B.bytes
  have hr := B.returns
  have hts := atoms_spec (ws := wsX5_move) B.pre
  have hown : s.vm.findClass RX5 = some m.cls := findClass_of_methodNamed B.named
  have hlocks := B.notSynchronized
  subst hsz
  have hD := hD0.self (sz := s.heap.size)
  generalize hAe : va_A [(g0, .inr (5, [.int (zi co), .ref ps, .int (zi ru), .ref pk, .ref pa, .ref pb, .ref pq, .int (zi we), .int (zi wr), .ref pw, .int (zi ty), .ref pt])), (ps, aI cI 10 sf)] s.heap.size = A at hD ⊢
  have hA : ∀ q : Nat, s.heap.size ≤ q → A q := fun q h => by rw [← hAe]; exact Or.inr h
  have hS : va_S A s.heap s.heap [] := va_S.rf
  have hP : va_P (dC, dI) vwCl [(g0, .inr (5, [.int (zi co), .ref ps, .int (zi ru), .ref pk, .ref pa, .ref pb, .ref pq, .int (zi we), .int (zi wr), .ref pw, .int (zi ty), .ref pt])), (ps, aI cI 10 sf)] s.heap := hP
  have hl := lv_entry ([.ref g0, .int (zi sl), .int (zi many), .int (zi un)]) (n := 7) (Nat.le_of_ble_eq_true rfl)
  rw [lg_entry_eq]
  generalize (lg_sl ([.ref g0, .int (zi sl), .int (zi many), .int (zi un)]) ++ List.replicate (7 - (lg_sl ([.ref g0, .int (zi sl), .int (zi many), .int (zi un)])).length) Slot.unset).toArray = ls at hl ⊢
  have hl : lv_has ls 7 [(0, .ref g0), (1, .int (zi sl)), (2, .int (zi many)), (3, .int (zi un))] := hl
  refine lv_aload_n hx hb dX5_move_0 rfl (lv_at hl 0 rfl) ?_
  refine lv_iload_n hx hb dX5_move_1 rfl (lv_at hl 1 rfl) ?_
  have hh1 := c_X5_isSlot l sl (by omega)
  refine vp_callSi (va_Run.run (va_runS (As := [.int (zi sl)]) (rest := [.ref g0]) ⟨hx, hb, hml, hown, hts⟩ hh1 (va_cwS 1 hts gX5_move_X5_isSlot rfl rfl rfl (by decide +kernel) ⟨Nat.le_of_ble_eq_true rfl, Nat.le_of_ble_eq_true rfl⟩) ⟨fun a U g mk q => q, fun U hU hW => ⟨rfl, trivial⟩⟩ rfl rfl hl.1 rfl (lv_room (Nat.le_of_ble_eq_true rfl)) dX5_move_2 ⟨Nat.zero_le _, Nat.zero_le _⟩)) (fun r1 (hr1 : r1 = zi (f_X5_isSlot sl)) => ?_)
  subst hr1
  have hf1 := b_X5_isSlot sl (by omega)
  refine zw_if_ne (tgt := 12) hx hb dX5_move_5 (by decide) ⟨by omega, by omega⟩ (fun h2 => ?_) (fun h2 => ?_)
  · skip
    refine lv_iload_n hx hb dX5_move_12 rfl (lv_at hl 3 rfl) ?_
    refine zw_iconst hx hb dX5_move_13 ?_
    refine zw_iconst hx hb dX5_move_14 ?_
    have hh3 := c_X5_in l un 0 2 (by omega) (by omega) (by omega)
    refine vp_callSi (va_Run.run (va_runS (As := [.int (zi un), .int (zi 0), .int (zi 2)]) (rest := [.ref g0]) ⟨hx, hb, hml, hown, hts⟩ hh3 (va_cwS 3 hts gX5_move_X5_in rfl rfl rfl (by decide +kernel) ⟨Nat.le_of_ble_eq_true rfl, Nat.le_of_ble_eq_true rfl⟩) ⟨fun a U g mk q => q, fun U hU hW => ⟨rfl, trivial⟩⟩ rfl rfl hl.1 rfl (lv_room (Nat.le_of_ble_eq_true rfl)) dX5_move_15 ⟨Nat.zero_le _, Nat.zero_le _⟩)) (fun r3 (hr3 : r3 = zi (f_X5_in un 0 2)) => ?_)
    subst hr3
    have hf3 := b_X5_in un 0 2 (by omega) (by omega) (by omega)
    refine zw_if_ne (tgt := 25) hx hb dX5_move_18 (by decide) ⟨by omega, by omega⟩ (fun h4 => ?_) (fun h4 => ?_)
    · skip
      refine lv_aload_n hx hb dX5_move_25 rfl (lv_at hl 0 rfl) ?_
      refine va_get (D := (dC, dI)) (ci := 5) (v := .ref ps) (C := RX5) (T := TX5) (N := 12) hx hb hts (by decide +kernel) hown hK hP 0 rfl rfl 1 (by decide) (hts (.fieldLink RX5 7 "CivilDaysModel" "slots" "[I") (by decide +kernel)) (fun _ h9 => h9) rfl dX5_move_26 ?_
      refine lv_iload_n hx hb dX5_move_29 rfl (lv_at hl 1 rfl) ?_
      refine zw_iald hx hb hK hP 1 0 rfl rfl (by omega) (by omega) ⟨by omega, by omega⟩ dX5_move_30 ?_
      refine zw_if_ge (tgt := 38) hx hb dX5_move_31 (by decide) ⟨by omega, by omega⟩ (fun h5 => ?_) (fun h5 => ?_)
      · skip
        refine zw_iconst hx hb dX5_move_38 ?_
        refine va_put (D := (dC, dI)) (ci := 5) (v := .int (zi 0)) (ty := .int) (C := RX5) (T := TX5) (N := 12) hx hb hts (by decide +kernel) tyX5 tyX5_ok nmX5 hown hK hP hD hS 0 rfl rfl 0 (by decide) (hts (.fieldLink RX5 35 "CivilDaysModel" "code" "I") (by decide +kernel)) (fun _ h9 => h9) rfl (by decide +kernel) rfl rfl (Nat.le_of_ble_eq_true rfl) dX5_move_39 (fun H locs hP hD hS => ?_)
        have hP : va_P (dC, dI) vwCl [(g0, .inr (5, [.int (zi 0), .ref ps, .int (zi ru), .ref pk, .ref pa, .ref pb, .ref pq, .int (zi we), .int (zi wr), .ref pw, .int (zi ty), .ref pt])), (ps, aI cI 10 sf)] H := hP
        have hD : va_D A [(g0, .inr (5, [.int (zi 0), .ref ps, .int (zi ru), .ref pk, .ref pa, .ref pb, .ref pq, .int (zi we), .int (zi wr), .ref pw, .int (zi ty), .ref pt])), (ps, aI cI 10 sf)] := hD
        refine lv_aload_n hx hb dX5_move_42 rfl (lv_at hl 0 rfl) ?_
        refine va_get (D := (dC, dI)) (ci := 5) (v := .int (zi 0)) (C := RX5) (T := TX5) (N := 12) hx hb hts (by decide +kernel) hown hK hP 0 rfl rfl 0 (by decide) (hts (.fieldLink RX5 35 "CivilDaysModel" "code" "I") (by decide +kernel)) (fun _ h9 => h9) rfl dX5_move_43 ?_
        refine zw_if_le (tgt := 51) hx hb dX5_move_46 (by decide) ⟨by omega, by omega⟩ (fun h6 => ?_) (fun h6 => ?_)
        · skip
          refine lv_aload_n hx hb dX5_move_51 rfl (lv_at hl 0 rfl) ?_
          refine va_get (D := (dC, dI)) (ci := 5) (v := .ref ps) (C := RX5) (T := TX5) (N := 12) hx hb hts (by decide +kernel) hown hK hP 0 rfl rfl 1 (by decide) (hts (.fieldLink RX5 7 "CivilDaysModel" "slots" "[I") (by decide +kernel)) (fun _ h9 => h9) rfl dX5_move_52 ?_
          refine lv_iload_n hx hb dX5_move_55 rfl (lv_at hl 1 rfl) ?_
          refine zw_iald hx hb hK hP 1 0 rfl rfl (by omega) (by omega) ⟨by omega, by omega⟩ dX5_move_56 ?_
          refine zw_i2l hx hb dX5_move_57 ⟨by omega, by omega⟩ ?_
          refine lv_iload_n hx hb dX5_move_58 rfl (lv_at hl 2 rfl) ?_
          refine zw_i2l hx hb dX5_move_59 ⟨by omega, by omega⟩ ?_
          refine zw_ladd hx hb dX5_move_60 ?_
          refine zw_topl (fun x7 ex7 => ?_)
          refine lv_lstore (lv' := [(4, .long (zl x7)), (0, .ref g0), (1, .int (zi sl)), (2, .int (zi many)), (3, .int (zi un))]) hx hb dX5_move_61 hl (by decide) rfl (fun ls hl => ?_)
          refine lv_iload_n hx hb dX5_move_63 rfl (lv_at hl 4 rfl) ?_
          refine zw_if_ne (tgt := 93) hx hb dX5_move_64 (by decide) ⟨by omega, by omega⟩ (fun h8 => ?_) (fun h8 => ?_)
          · skip
            refine lv_aload_n hx hb dX5_move_93 rfl (lv_at hl 1 rfl) ?_
            refine va_get (D := (dC, dI)) (ci := 5) (v := .ref ps) (C := RX5) (T := TX5) (N := 12) hx hb hts (by decide +kernel) hown hK hP 0 rfl rfl 1 (by decide) (hts (.fieldLink RX5 7 "CivilDaysModel" "slots" "[I") (by decide +kernel)) (fun _ h9 => h9) rfl dX5_move_94 ?_
            refine lv_iload_n hx hb dX5_move_97 rfl (lv_at hl 2 rfl) ?_
            refine zw_iald hx hb hK hP 1 0 rfl rfl (by omega) (by omega) ⟨by omega, by omega⟩ dX5_move_98 ?_
            refine lv_iload_n hx hb dX5_move_99 rfl (lv_at hl 4 rfl) ?_
            refine zw_iconst hx hb dX5_move_100 ?_
            refine zw_icmp_ne (tgt := 109) hx hb dX5_move_101 (by decide) ⟨by omega, by omega⟩ ⟨by omega, by omega⟩ (fun h9 => ?_) (fun h9 => ?_)
            · skip
              refine zw_ldc2 (n := 12) hx hb hown (hts (.constantLong RX5 73 (12)) (by decide +kernel)) dX5_move_109 (by decide) ?_
              refine lv_iload_n hx hb dX5_move_112 rfl (lv_at hl 3 rfl) ?_
              refine zw_i2l hx hb dX5_move_113 ⟨by omega, by omega⟩ ?_
              refine zw_lmul hx hb dX5_move_114 ?_
              have hh10 := c_X5_byMonths l (sf sl.toNat) (12 * many) (by omega) (by omega)
              refine vp_callSi (va_Run.run (va_runS (As := [.int (zi (sf sl.toNat)), .long (zl (12 * many))]) (rest := []) ⟨hx, hb, hml, hown, hts⟩ hh10 (va_cwS 2 hts gX5_move_X5_byMonths rfl rfl rfl (by decide +kernel) ⟨Nat.le_of_ble_eq_true rfl, Nat.le_of_ble_eq_true rfl⟩) ⟨fun a U g mk q => q, fun U hU hW => ⟨rfl, trivial⟩⟩ rfl rfl hl.1 rfl (lv_room (Nat.le_of_ble_eq_true rfl)) dX5_move_115 ⟨Nat.zero_le _, Nat.zero_le _⟩)) (fun r10 (hr10 : r10 = zi (f_X5_byMonths (sf sl.toNat) (12 * many))) => ?_)
              subst hr10
              have hf10 := b_X5_byMonths (sf sl.toNat) (12 * many) (by omega) (by omega)
              refine zw_top (fun x11 ex11 => ?_)
              refine lv_istore (lv' := [(6, .int (zi x11)), (4, .long (zl x7)), (0, .ref g0), (1, .int (zi sl)), (2, .int (zi many)), (3, .int (zi un))]) hx hb dX5_move_118 hl (by decide) rfl (fun ls hl => ?_)
              refine lv_aload_n hx hb dX5_move_120 rfl (lv_at hl 2 rfl) ?_
              refine lv_iload hx hb dX5_move_121 (lv_at hl 0 rfl) ?_
              refine zw_if_ge (tgt := 130) hx hb dX5_move_123 (by decide) ⟨by omega, by omega⟩ (fun h12 => ?_) (fun h12 => ?_)
              · skip
                exact absurd True.intro (by omega)
              · skip
                refine zw_iconst hx hb dX5_move_126 ?_
                refine lv_goto (tgt := 131) hx hb dX5_move_127 (by decide) ?_
                refine va_put (D := (dC, dI)) (ci := 5) (v := .int (zi 4)) (ty := .int) (C := RX5) (T := TX5) (N := 12) hx hb hts (by decide +kernel) tyX5 tyX5_ok nmX5 hown hK hP hD hS 0 rfl rfl 0 (by decide) (hts (.fieldLink RX5 35 "CivilDaysModel" "code" "I") (by decide +kernel)) (fun _ h9 => h9) rfl (by decide +kernel) rfl rfl (Nat.le_of_ble_eq_true rfl) dX5_move_131 (fun H locs hP hD hS => ?_)
                have hP : va_P (dC, dI) vwCl [(g0, .inr (5, [.int (zi 4), .ref ps, .int (zi ru), .ref pk, .ref pa, .ref pb, .ref pq, .int (zi we), .int (zi wr), .ref pw, .int (zi ty), .ref pt])), (ps, aI cI 10 sf)] H := hP
                have hD : va_D A [(g0, .inr (5, [.int (zi 4), .ref ps, .int (zi ru), .ref pk, .ref pa, .ref pb, .ref pq, .int (zi we), .int (zi wr), .ref pw, .int (zi ty), .ref pt])), (ps, aI cI 10 sf)] := hD
                refine lv_aload_n hx hb dX5_move_134 rfl (lv_at hl 2 rfl) ?_
                refine va_get (D := (dC, dI)) (ci := 5) (v := .int (zi 4)) (C := RX5) (T := TX5) (N := 12) hx hb hts (by decide +kernel) hown hK hP 0 rfl rfl 0 (by decide) (hts (.fieldLink RX5 35 "CivilDaysModel" "code" "I") (by decide +kernel)) (fun _ h9 => h9) rfl dX5_move_135 ?_
                refine zw_if_le (tgt := 145) hx hb dX5_move_138 (by decide) ⟨by omega, by omega⟩ (fun h13 => ?_) (fun h13 => ?_)
                · skip
                  exact absurd True.intro (by omega)
                · skip
                  refine zw_iconst hx hb dX5_move_141 ?_
                  refine lv_goto (tgt := 152) hx hb dX5_move_142 (by decide) ?_
                  subst ex7 ex11
                  have hP9 := hP.sub (ws' := [(g0, .inr (5, [.int (zi 4), .ref ps, .int (zi ru), .ref pk, .ref pa, .ref pb, .ref pq, .int (zi we), .int (zi wr), .ref pw, .int (zi ty), .ref pt])), (ps, aI cI 10 sf)]) [0, 1] rfl
                  have hD9 := hD.sub (ws' := [(g0, .inr (5, [.int (zi 4), .ref ps, .int (zi ru), .ref pk, .ref pa, .ref pb, .ref pq, .int (zi we), .int (zi wr), .ref pw, .int (zi ty), .ref pt])), (ps, aI cI 10 sf)]) [0, 1] (by decide) rfl
                  exact W.iret (v := zi 0) hx hb hr (fun t ht hW => ⟨⟨zi 0, (), rfl, rfl, by rw [ht]; exact hP9, va_K.moved hW.alike hK, hD9⟩, hS.F ht⟩) hS.2.2 dX5_move_152
            · skip
              exact absurd True.intro (by omega)
          · skip
            exact absurd True.intro (by omega)
        · skip
          exact absurd True.intro (by omega)
      · skip
        exact absurd True.intro (by omega)
    · skip
      exact absurd True.intro (by omega)
  · skip
    exact absurd True.intro (by omega)

set_option maxHeartbeats 4000000 in
set_option maxRecDepth 100000 in
theorem c_X5_move_y (l : Launch)  (dC : Nat → ClassId) (dI : Nat → Nat → Nat) (cI : ClassId) (g0 ps pk pa pb pq pw pt : Nat) (co ru we wr ty : Int) (sf : Nat → Int) (sl many un : Int) (sz : Nat) (hp0 : 0 ≤ sl ∧ sl ≤ 9) (hp1 : -2147483648 ≤ many ∧ many ≤ 2147483647) (hp2 : un = 2) (hp3 : 0 ≤ sf sl.toNat ∧ sf sl.toNat ≤ 3652058) (hp4 : f_X5_byMonths (sf sl.toNat) (12 * many) ≠ -1) : Met l yX5_move wsX5_move ({ frames := 6, cells := 0, slots := 0, locals := 134 }) (zPw (dC, dI) [(cI, .int)] sz [.ref g0, .int (zi sl), .int (zi many), .int (zi un)] [(g0, .inr (5, [.int (zi co), .ref ps, .int (zi ru), .ref pk, .ref pa, .ref pb, .ref pq, .int (zi we), .int (zi wr), .ref pw, .int (zi ty), .ref pt])), (ps, aI cI 10 sf)]) (va_Qi (fun (r : Int32) (_ : Unit) => r = zi (f_X5_byMonths (sf sl.toNat) (12 * many))) (zB (dC, dI) [(cI, .int)] (va_A [(g0, .inr (5, [.int (zi co), .ref ps, .int (zi ru), .ref pk, .ref pa, .ref pb, .ref pq, .int (zi we), .int (zi wr), .ref pw, .int (zi ty), .ref pt])), (ps, aI cI 10 sf)] sz) [(g0, .inr (5, [.int (zi 0), .ref ps, .int (zi ru), .ref pk, .ref pa, .ref pb, .ref pq, .int (zi we), .int (zi wr), .ref pw, .int (zi ty), .ref pt])), (ps, aI cI 10 (zup sf sl.toNat (f_X5_byMonths (sf sl.toNat) (12 * many))))]) (va_A [(g0, .inr (5, [.int (zi co), .ref ps, .int (zi ru), .ref pk, .ref pa, .ref pb, .ref pq, .int (zi we), .int (zi wr), .ref pw, .int (zi ty), .ref pt])), (ps, aI cI 10 sf)] sz)) 0 0 (va_A [(g0, .inr (5, [.int (zi co), .ref ps, .int (zi ru), .ref pk, .ref pa, .ref pb, .ref pq, .int (zi we), .int (zi wr), .ref pw, .int (zi ty), .ref pt])), (ps, aI cI 10 sf)] sz) := by
  refine Met.ofW (cc := cX5_move) (maxL := 7) (ret := (some .int)) (by decide) rfl ?_
  intro p e s m args below meth c s₁ B hml hv
  obtain ⟨rfl, hsz, hP, hK, hD0⟩ := hv
  have hx := B.exec
  have hb := B.bytes
  have hr := B.returns
  have hts := atoms_spec (ws := wsX5_move) B.pre
  have hown : s.vm.findClass RX5 = some m.cls := findClass_of_methodNamed B.named
  have hlocks := B.notSynchronized
  subst hsz
  have hD := hD0.self (sz := s.heap.size)
  generalize hAe : va_A [(g0, .inr (5, [.int (zi co), .ref ps, .int (zi ru), .ref pk, .ref pa, .ref pb, .ref pq, .int (zi we), .int (zi wr), .ref pw, .int (zi ty), .ref pt])), (ps, aI cI 10 sf)] s.heap.size = A at hD ⊢
  have hA : ∀ q : Nat, s.heap.size ≤ q → A q := fun q h => by rw [← hAe]; exact Or.inr h
  have hS : va_S A s.heap s.heap [] := va_S.rf
  have hP : va_P (dC, dI) vwCl [(g0, .inr (5, [.int (zi co), .ref ps, .int (zi ru), .ref pk, .ref pa, .ref pb, .ref pq, .int (zi we), .int (zi wr), .ref pw, .int (zi ty), .ref pt])), (ps, aI cI 10 sf)] s.heap := hP
  have hl := lv_entry ([.ref g0, .int (zi sl), .int (zi many), .int (zi un)]) (n := 7) (Nat.le_of_ble_eq_true rfl)
  rw [lg_entry_eq]
  generalize (lg_sl ([.ref g0, .int (zi sl), .int (zi many), .int (zi un)]) ++ List.replicate (7 - (lg_sl ([.ref g0, .int (zi sl), .int (zi many), .int (zi un)])).length) Slot.unset).toArray = ls at hl ⊢
  have hl : lv_has ls 7 [(0, .ref g0), (1, .int (zi sl)), (2, .int (zi many)), (3, .int (zi un))] := hl
  refine lv_aload_n hx hb dX5_move_0 rfl (lv_at hl 0 rfl) ?_
  refine lv_iload_n hx hb dX5_move_1 rfl (lv_at hl 1 rfl) ?_
  have hh1 := c_X5_isSlot l sl (by omega)
  refine vp_callSi (va_Run.run (va_runS (As := [.int (zi sl)]) (rest := [.ref g0]) ⟨hx, hb, hml, hown, hts⟩ hh1 (va_cwS 1 hts gX5_move_X5_isSlot rfl rfl rfl (by decide +kernel) ⟨Nat.le_of_ble_eq_true rfl, Nat.le_of_ble_eq_true rfl⟩) ⟨fun a U g mk q => q, fun U hU hW => ⟨rfl, trivial⟩⟩ rfl rfl hl.1 rfl (lv_room (Nat.le_of_ble_eq_true rfl)) dX5_move_2 ⟨Nat.zero_le _, Nat.zero_le _⟩)) (fun r1 (hr1 : r1 = zi (f_X5_isSlot sl)) => ?_)
  subst hr1
  have hf1 := b_X5_isSlot sl (by omega)
  refine zw_if_ne (tgt := 12) hx hb dX5_move_5 (by decide) ⟨by omega, by omega⟩ (fun h2 => ?_) (fun h2 => ?_)
  · skip
    refine lv_iload_n hx hb dX5_move_12 rfl (lv_at hl 3 rfl) ?_
    refine zw_iconst hx hb dX5_move_13 ?_
    refine zw_iconst hx hb dX5_move_14 ?_
    have hh3 := c_X5_in l un 0 2 (by omega) (by omega) (by omega)
    refine vp_callSi (va_Run.run (va_runS (As := [.int (zi un), .int (zi 0), .int (zi 2)]) (rest := [.ref g0]) ⟨hx, hb, hml, hown, hts⟩ hh3 (va_cwS 3 hts gX5_move_X5_in rfl rfl rfl (by decide +kernel) ⟨Nat.le_of_ble_eq_true rfl, Nat.le_of_ble_eq_true rfl⟩) ⟨fun a U g mk q => q, fun U hU hW => ⟨rfl, trivial⟩⟩ rfl rfl hl.1 rfl (lv_room (Nat.le_of_ble_eq_true rfl)) dX5_move_15 ⟨Nat.zero_le _, Nat.zero_le _⟩)) (fun r3 (hr3 : r3 = zi (f_X5_in un 0 2)) => ?_)
    subst hr3
    have hf3 := b_X5_in un 0 2 (by omega) (by omega) (by omega)
    refine zw_if_ne (tgt := 25) hx hb dX5_move_18 (by decide) ⟨by omega, by omega⟩ (fun h4 => ?_) (fun h4 => ?_)
    · skip
      refine lv_aload_n hx hb dX5_move_25 rfl (lv_at hl 0 rfl) ?_
      refine va_get (D := (dC, dI)) (ci := 5) (v := .ref ps) (C := RX5) (T := TX5) (N := 12) hx hb hts (by decide +kernel) hown hK hP 0 rfl rfl 1 (by decide) (hts (.fieldLink RX5 7 "CivilDaysModel" "slots" "[I") (by decide +kernel)) (fun _ h9 => h9) rfl dX5_move_26 ?_
      refine lv_iload_n hx hb dX5_move_29 rfl (lv_at hl 1 rfl) ?_
      refine zw_iald hx hb hK hP 1 0 rfl rfl (by omega) (by omega) ⟨by omega, by omega⟩ dX5_move_30 ?_
      refine zw_if_ge (tgt := 38) hx hb dX5_move_31 (by decide) ⟨by omega, by omega⟩ (fun h5 => ?_) (fun h5 => ?_)
      · skip
        refine zw_iconst hx hb dX5_move_38 ?_
        refine va_put (D := (dC, dI)) (ci := 5) (v := .int (zi 0)) (ty := .int) (C := RX5) (T := TX5) (N := 12) hx hb hts (by decide +kernel) tyX5 tyX5_ok nmX5 hown hK hP hD hS 0 rfl rfl 0 (by decide) (hts (.fieldLink RX5 35 "CivilDaysModel" "code" "I") (by decide +kernel)) (fun _ h9 => h9) rfl (by decide +kernel) rfl rfl (Nat.le_of_ble_eq_true rfl) dX5_move_39 (fun H locs hP hD hS => ?_)
        have hP : va_P (dC, dI) vwCl [(g0, .inr (5, [.int (zi 0), .ref ps, .int (zi ru), .ref pk, .ref pa, .ref pb, .ref pq, .int (zi we), .int (zi wr), .ref pw, .int (zi ty), .ref pt])), (ps, aI cI 10 sf)] H := hP
        have hD : va_D A [(g0, .inr (5, [.int (zi 0), .ref ps, .int (zi ru), .ref pk, .ref pa, .ref pb, .ref pq, .int (zi we), .int (zi wr), .ref pw, .int (zi ty), .ref pt])), (ps, aI cI 10 sf)] := hD
        refine lv_aload_n hx hb dX5_move_42 rfl (lv_at hl 0 rfl) ?_
        refine va_get (D := (dC, dI)) (ci := 5) (v := .int (zi 0)) (C := RX5) (T := TX5) (N := 12) hx hb hts (by decide +kernel) hown hK hP 0 rfl rfl 0 (by decide) (hts (.fieldLink RX5 35 "CivilDaysModel" "code" "I") (by decide +kernel)) (fun _ h9 => h9) rfl dX5_move_43 ?_
        refine zw_if_le (tgt := 51) hx hb dX5_move_46 (by decide) ⟨by omega, by omega⟩ (fun h6 => ?_) (fun h6 => ?_)
        · skip
          refine lv_aload_n hx hb dX5_move_51 rfl (lv_at hl 0 rfl) ?_
          refine va_get (D := (dC, dI)) (ci := 5) (v := .ref ps) (C := RX5) (T := TX5) (N := 12) hx hb hts (by decide +kernel) hown hK hP 0 rfl rfl 1 (by decide) (hts (.fieldLink RX5 7 "CivilDaysModel" "slots" "[I") (by decide +kernel)) (fun _ h9 => h9) rfl dX5_move_52 ?_
          refine lv_iload_n hx hb dX5_move_55 rfl (lv_at hl 1 rfl) ?_
          refine zw_iald hx hb hK hP 1 0 rfl rfl (by omega) (by omega) ⟨by omega, by omega⟩ dX5_move_56 ?_
          refine zw_i2l hx hb dX5_move_57 ⟨by omega, by omega⟩ ?_
          refine lv_iload_n hx hb dX5_move_58 rfl (lv_at hl 2 rfl) ?_
          refine zw_i2l hx hb dX5_move_59 ⟨by omega, by omega⟩ ?_
          refine zw_ladd hx hb dX5_move_60 ?_
          refine zw_topl (fun x7 ex7 => ?_)
          refine lv_lstore (lv' := [(4, .long (zl x7)), (0, .ref g0), (1, .int (zi sl)), (2, .int (zi many)), (3, .int (zi un))]) hx hb dX5_move_61 hl (by decide) rfl (fun ls hl => ?_)
          refine lv_iload_n hx hb dX5_move_63 rfl (lv_at hl 4 rfl) ?_
          refine zw_if_ne (tgt := 93) hx hb dX5_move_64 (by decide) ⟨by omega, by omega⟩ (fun h8 => ?_) (fun h8 => ?_)
          · skip
            refine lv_aload_n hx hb dX5_move_93 rfl (lv_at hl 1 rfl) ?_
            refine va_get (D := (dC, dI)) (ci := 5) (v := .ref ps) (C := RX5) (T := TX5) (N := 12) hx hb hts (by decide +kernel) hown hK hP 0 rfl rfl 1 (by decide) (hts (.fieldLink RX5 7 "CivilDaysModel" "slots" "[I") (by decide +kernel)) (fun _ h9 => h9) rfl dX5_move_94 ?_
            refine lv_iload_n hx hb dX5_move_97 rfl (lv_at hl 2 rfl) ?_
            refine zw_iald hx hb hK hP 1 0 rfl rfl (by omega) (by omega) ⟨by omega, by omega⟩ dX5_move_98 ?_
            refine lv_iload_n hx hb dX5_move_99 rfl (lv_at hl 4 rfl) ?_
            refine zw_iconst hx hb dX5_move_100 ?_
            refine zw_icmp_ne (tgt := 109) hx hb dX5_move_101 (by decide) ⟨by omega, by omega⟩ ⟨by omega, by omega⟩ (fun h9 => ?_) (fun h9 => ?_)
            · skip
              refine zw_ldc2 (n := 12) hx hb hown (hts (.constantLong RX5 73 (12)) (by decide +kernel)) dX5_move_109 (by decide) ?_
              refine lv_iload_n hx hb dX5_move_112 rfl (lv_at hl 3 rfl) ?_
              refine zw_i2l hx hb dX5_move_113 ⟨by omega, by omega⟩ ?_
              refine zw_lmul hx hb dX5_move_114 ?_
              have hh10 := c_X5_byMonths l (sf sl.toNat) (12 * many) (by omega) (by omega)
              refine vp_callSi (va_Run.run (va_runS (As := [.int (zi (sf sl.toNat)), .long (zl (12 * many))]) (rest := []) ⟨hx, hb, hml, hown, hts⟩ hh10 (va_cwS 2 hts gX5_move_X5_byMonths rfl rfl rfl (by decide +kernel) ⟨Nat.le_of_ble_eq_true rfl, Nat.le_of_ble_eq_true rfl⟩) ⟨fun a U g mk q => q, fun U hU hW => ⟨rfl, trivial⟩⟩ rfl rfl hl.1 rfl (lv_room (Nat.le_of_ble_eq_true rfl)) dX5_move_115 ⟨Nat.zero_le _, Nat.zero_le _⟩)) (fun r10 (hr10 : r10 = zi (f_X5_byMonths (sf sl.toNat) (12 * many))) => ?_)
              subst hr10
              have hf10 := b_X5_byMonths (sf sl.toNat) (12 * many) (by omega) (by omega)
              refine zw_top (fun x11 ex11 => ?_)
              refine lv_istore (lv' := [(6, .int (zi x11)), (4, .long (zl x7)), (0, .ref g0), (1, .int (zi sl)), (2, .int (zi many)), (3, .int (zi un))]) hx hb dX5_move_118 hl (by decide) rfl (fun ls hl => ?_)
              refine lv_aload_n hx hb dX5_move_120 rfl (lv_at hl 2 rfl) ?_
              refine lv_iload hx hb dX5_move_121 (lv_at hl 0 rfl) ?_
              refine zw_if_ge (tgt := 130) hx hb dX5_move_123 (by decide) ⟨by omega, by omega⟩ (fun h12 => ?_) (fun h12 => ?_)
              · skip
                refine zw_iconst hx hb dX5_move_130 ?_
                refine va_put (D := (dC, dI)) (ci := 5) (v := .int (zi 0)) (ty := .int) (C := RX5) (T := TX5) (N := 12) hx hb hts (by decide +kernel) tyX5 tyX5_ok nmX5 hown hK hP hD hS 0 rfl rfl 0 (by decide) (hts (.fieldLink RX5 35 "CivilDaysModel" "code" "I") (by decide +kernel)) (fun _ h9 => h9) rfl (by decide +kernel) rfl rfl (Nat.le_of_ble_eq_true rfl) dX5_move_131 (fun H locs hP hD hS => ?_)
                have hP : va_P (dC, dI) vwCl [(g0, .inr (5, [.int (zi 0), .ref ps, .int (zi ru), .ref pk, .ref pa, .ref pb, .ref pq, .int (zi we), .int (zi wr), .ref pw, .int (zi ty), .ref pt])), (ps, aI cI 10 sf)] H := hP
                have hD : va_D A [(g0, .inr (5, [.int (zi 0), .ref ps, .int (zi ru), .ref pk, .ref pa, .ref pb, .ref pq, .int (zi we), .int (zi wr), .ref pw, .int (zi ty), .ref pt])), (ps, aI cI 10 sf)] := hD
                refine lv_aload_n hx hb dX5_move_134 rfl (lv_at hl 2 rfl) ?_
                refine va_get (D := (dC, dI)) (ci := 5) (v := .int (zi 0)) (C := RX5) (T := TX5) (N := 12) hx hb hts (by decide +kernel) hown hK hP 0 rfl rfl 0 (by decide) (hts (.fieldLink RX5 35 "CivilDaysModel" "code" "I") (by decide +kernel)) (fun _ h9 => h9) rfl dX5_move_135 ?_
                refine zw_if_le (tgt := 145) hx hb dX5_move_138 (by decide) ⟨by omega, by omega⟩ (fun h13 => ?_) (fun h13 => ?_)
                · skip
                  refine lv_aload_n hx hb dX5_move_145 rfl (lv_at hl 2 rfl) ?_
                  refine lv_iload_n hx hb dX5_move_146 rfl (lv_at hl 3 rfl) ?_
                  refine lv_iload hx hb dX5_move_147 (lv_at hl 0 rfl) ?_
                  have hh14 := c_X5_lay l dC dI cI g0 ps pk pa pb pq pw pt 0 ru we wr ty sf sl x11 H.size (by omega) (by omega)
                  have hPc := hP.sub (ws' := [(g0, .inr (5, [.int (zi 0), .ref ps, .int (zi ru), .ref pk, .ref pa, .ref pb, .ref pq, .int (zi we), .int (zi wr), .ref pw, .int (zi ty), .ref pt])), (ps, aI cI 10 sf)]) [0, 1] rfl
                  have hKc : va_K (dC, dI) vwCl [(cI, .int)] s := hK
                  have hDc := hD.sub (ws' := [(g0, .inr (5, [.int (zi 0), .ref ps, .int (zi ru), .ref pk, .ref pa, .ref pb, .ref pq, .int (zi we), .int (zi wr), .ref pw, .int (zi ty), .ref pt])), (ps, aI cI 10 sf)]) [0, 1] (by decide) rfl
                  have hFc := va_free (wc := [(g0, .inr (5, [.int (zi 0), .ref ps, .int (zi ru), .ref pk, .ref pa, .ref pb, .ref pq, .int (zi we), .int (zi wr), .ref pw, .int (zi ty), .ref pt])), (ps, aI cI 10 sf)]) hD hS hA [0, 1] rfl
                  refine va_calli (va_runV (As := [.int (zi sl), .int (zi x11)]) (rest := []) ⟨hx, hb, hml, hown, hts⟩ hh14 (cwV 2 hts gX5_move_X5_lay rfl rfl rfl (by decide +kernel) ⟨Nat.le_of_ble_eq_true rfl, Nat.le_of_ble_eq_true rfl⟩) ⟨zPw.blind _ _ _ _ _, va_recv hKc hPc (ci := 5) (q0 := 0) rfl rfl, fun U hU hW => ⟨rfl, by rw [hU], by rw [hU]; exact hPc, va_K.moved hW.alike hKc, hDc.weaken (fun _ _ _ _ => trivial)⟩⟩ rfl rfl hl.1 rfl (lv_room (Nat.le_of_ble_eq_true rfl)) dX5_move_149 ⟨Nat.le_of_ble_eq_true rfl, Nat.le_of_ble_eq_true rfl⟩) hS (fun q _ h => hFc q h) hFc (fun r14 u t H1 locs ht hvm hw hB hz1 hk1 hS => ?_)
                  obtain ⟨hP1, hK1, hD1⟩ := hB
                  rw [ht] at hP1
                  obtain ⟨hP, hD⟩ := va_join (wr := []) (w1 := [(g0, .inr (5, [.int (zi 0), .ref ps, .int (zi ru), .ref pk, .ref pa, .ref pb, .ref pq, .int (zi we), .int (zi wr), .ref pw, .int (zi ty), .ref pt])), (ps, aI cI 10 (zup sf sl.toNat x11))]) hP hD [0, 1] [] rfl rfl (by decide) (by decide) hk1 hFc hP1 hD1
                  generalize H1 = H at hP hS ⊢
                  obtain rfl : r14 = zi x11 := hw
                  have hP : va_P (dC, dI) vwCl [(g0, .inr (5, [.int (zi 0), .ref ps, .int (zi ru), .ref pk, .ref pa, .ref pb, .ref pq, .int (zi we), .int (zi wr), .ref pw, .int (zi ty), .ref pt])), (ps, aI cI 10 (zup sf sl.toNat x11))] H := hP
                  have hD : va_D A [(g0, .inr (5, [.int (zi 0), .ref ps, .int (zi ru), .ref pk, .ref pa, .ref pb, .ref pq, .int (zi we), .int (zi wr), .ref pw, .int (zi ty), .ref pt])), (ps, aI cI 10 (zup sf sl.toNat x11))] := hD
                  subst ex7 ex11
                  have hP9 := hP.sub (ws' := [(g0, .inr (5, [.int (zi 0), .ref ps, .int (zi ru), .ref pk, .ref pa, .ref pb, .ref pq, .int (zi we), .int (zi wr), .ref pw, .int (zi ty), .ref pt])), (ps, aI cI 10 (zup sf sl.toNat (f_X5_byMonths (sf sl.toNat) (12 * many))))]) [0, 1] rfl
                  have hD9 := hD.sub (ws' := [(g0, .inr (5, [.int (zi 0), .ref ps, .int (zi ru), .ref pk, .ref pa, .ref pb, .ref pq, .int (zi we), .int (zi wr), .ref pw, .int (zi ty), .ref pt])), (ps, aI cI 10 (zup sf sl.toNat (f_X5_byMonths (sf sl.toNat) (12 * many))))]) [0, 1] (by decide) rfl
                  exact W.iret (v := zi (f_X5_byMonths (sf sl.toNat) (12 * many))) hx hb hr (fun t ht hW => ⟨⟨zi (f_X5_byMonths (sf sl.toNat) (12 * many)), (), rfl, rfl, by rw [ht]; exact hP9, va_K.moved hW.alike hK, hD9⟩, hS.F ht⟩) hS.2.2 dX5_move_152
                · skip
                  exact absurd True.intro (by omega)
              · skip
                exact absurd True.intro (by omega)
            · skip
              exact absurd True.intro (by omega)
          · skip
            exact absurd True.intro (by omega)
        · skip
          exact absurd True.intro (by omega)
      · skip
        exact absurd True.intro (by omega)
    · skip
      exact absurd True.intro (by omega)
  · skip
    exact absurd True.intro (by omega)

set_option maxHeartbeats 4000000 in
set_option maxRecDepth 100000 in
theorem c_X5_between_1 (l : Launch)  (dC : Nat → ClassId) (dI : Nat → Nat → Nat) (cI : ClassId) (g0 ps pk pa pb pq pw pt : Nat) (co ru we wr ty : Int) (sf : Nat → Int) (sl ot un : Int) (sz : Nat) (hp0 : -2147483648 ≤ sl ∧ sl ≤ 2147483647) (hp1 : -2147483648 ≤ ot ∧ ot ≤ 2147483647) (hp2 : -2147483648 ≤ un ∧ un ≤ 2147483647) (hp3 : sl < 0 ∨ 9 < sl ∨ ot < 0 ∨ 9 < ot) : Met l yX5_between wsX5_between ({ frames := 2, cells := 0, slots := 0, locals := 42 }) (zPw (dC, dI) [(cI, .int)] sz [.ref g0, .int (zi sl), .int (zi ot), .int (zi un)] [(g0, .inr (5, [.int (zi co), .ref ps, .int (zi ru), .ref pk, .ref pa, .ref pb, .ref pq, .int (zi we), .int (zi wr), .ref pw, .int (zi ty), .ref pt])), (ps, aI cI 10 sf)]) (va_Qi (fun (r : Int32) (_ : Unit) => r = zi 0) (zB (dC, dI) [(cI, .int)] (va_A [(g0, .inr (5, [.int (zi co), .ref ps, .int (zi ru), .ref pk, .ref pa, .ref pb, .ref pq, .int (zi we), .int (zi wr), .ref pw, .int (zi ty), .ref pt])), (ps, aI cI 10 sf)] sz) [(g0, .inr (5, [.int (zi 1), .ref ps, .int (zi ru), .ref pk, .ref pa, .ref pb, .ref pq, .int (zi we), .int (zi wr), .ref pw, .int (zi ty), .ref pt])), (ps, aI cI 10 sf)]) (va_A [(g0, .inr (5, [.int (zi co), .ref ps, .int (zi ru), .ref pk, .ref pa, .ref pb, .ref pq, .int (zi we), .int (zi wr), .ref pw, .int (zi ty), .ref pt])), (ps, aI cI 10 sf)] sz)) 0 0 (va_A [(g0, .inr (5, [.int (zi co), .ref ps, .int (zi ru), .ref pk, .ref pa, .ref pb, .ref pq, .int (zi we), .int (zi wr), .ref pw, .int (zi ty), .ref pt])), (ps, aI cI 10 sf)] sz) := by
  refine Met.ofW (cc := cX5_between) (maxL := 7) (ret := (some .int)) (by decide) rfl ?_
  intro p e s m args below meth c s₁ B hml hv
  obtain ⟨rfl, hsz, hP, hK, hD0⟩ := hv
  have hx := B.exec
  have hb := B.bytes
  have hr := B.returns
  have hts := atoms_spec (ws := wsX5_between) B.pre
  have hown : s.vm.findClass RX5 = some m.cls := findClass_of_methodNamed B.named
  have hlocks := B.notSynchronized
  subst hsz
  have hD := hD0.self (sz := s.heap.size)
  generalize hAe : va_A [(g0, .inr (5, [.int (zi co), .ref ps, .int (zi ru), .ref pk, .ref pa, .ref pb, .ref pq, .int (zi we), .int (zi wr), .ref pw, .int (zi ty), .ref pt])), (ps, aI cI 10 sf)] s.heap.size = A at hD ⊢
  have hA : ∀ q : Nat, s.heap.size ≤ q → A q := fun q h => by rw [← hAe]; exact Or.inr h
  have hS : va_S A s.heap s.heap [] := va_S.rf
  have hP : va_P (dC, dI) vwCl [(g0, .inr (5, [.int (zi co), .ref ps, .int (zi ru), .ref pk, .ref pa, .ref pb, .ref pq, .int (zi we), .int (zi wr), .ref pw, .int (zi ty), .ref pt])), (ps, aI cI 10 sf)] s.heap := hP
  have hl := lv_entry ([.ref g0, .int (zi sl), .int (zi ot), .int (zi un)]) (n := 7) (Nat.le_of_ble_eq_true rfl)
  rw [lg_entry_eq]
  generalize (lg_sl ([.ref g0, .int (zi sl), .int (zi ot), .int (zi un)]) ++ List.replicate (7 - (lg_sl ([.ref g0, .int (zi sl), .int (zi ot), .int (zi un)])).length) Slot.unset).toArray = ls at hl ⊢
  have hl : lv_has ls 7 [(0, .ref g0), (1, .int (zi sl)), (2, .int (zi ot)), (3, .int (zi un))] := hl
  refine lv_aload_n hx hb dX5_between_0 rfl (lv_at hl 0 rfl) ?_
  refine lv_iload_n hx hb dX5_between_1 rfl (lv_at hl 1 rfl) ?_
  have hh1 := c_X5_isSlot l sl (by omega)
  refine vp_callSi (va_Run.run (va_runS (As := [.int (zi sl)]) (rest := [.ref g0]) ⟨hx, hb, hml, hown, hts⟩ hh1 (va_cwS 1 hts gX5_between_X5_isSlot rfl rfl rfl (by decide +kernel) ⟨Nat.le_of_ble_eq_true rfl, Nat.le_of_ble_eq_true rfl⟩) ⟨fun a U g mk q => q, fun U hU hW => ⟨rfl, trivial⟩⟩ rfl rfl hl.1 rfl (lv_room (Nat.le_of_ble_eq_true rfl)) dX5_between_2 ⟨Nat.zero_le _, Nat.zero_le _⟩)) (fun r1 (hr1 : r1 = zi (f_X5_isSlot sl)) => ?_)
  subst hr1
  have hf1 := b_X5_isSlot sl (by omega)
  refine zw_if_eq (tgt := 15) hx hb dX5_between_5 (by decide) ⟨by omega, by omega⟩ (fun h2 => ?_) (fun h2 => ?_)
  · skip
    refine zw_iconst hx hb dX5_between_15 ?_
    refine lv_goto (tgt := 55) hx hb dX5_between_16 (by decide) ?_
    refine va_put (D := (dC, dI)) (ci := 5) (v := .int (zi 1)) (ty := .int) (C := RX5) (T := TX5) (N := 12) hx hb hts (by decide +kernel) tyX5 tyX5_ok nmX5 hown hK hP hD hS 0 rfl rfl 0 (by decide) (hts (.fieldLink RX5 35 "CivilDaysModel" "code" "I") (by decide +kernel)) (fun _ h9 => h9) rfl (by decide +kernel) rfl rfl (Nat.le_of_ble_eq_true rfl) dX5_between_55 (fun H locs hP hD hS => ?_)
    have hP : va_P (dC, dI) vwCl [(g0, .inr (5, [.int (zi 1), .ref ps, .int (zi ru), .ref pk, .ref pa, .ref pb, .ref pq, .int (zi we), .int (zi wr), .ref pw, .int (zi ty), .ref pt])), (ps, aI cI 10 sf)] H := hP
    have hD : va_D A [(g0, .inr (5, [.int (zi 1), .ref ps, .int (zi ru), .ref pk, .ref pa, .ref pb, .ref pq, .int (zi we), .int (zi wr), .ref pw, .int (zi ty), .ref pt])), (ps, aI cI 10 sf)] := hD
    refine lv_aload_n hx hb dX5_between_58 rfl (lv_at hl 0 rfl) ?_
    refine va_get (D := (dC, dI)) (ci := 5) (v := .int (zi 1)) (C := RX5) (T := TX5) (N := 12) hx hb hts (by decide +kernel) hown hK hP 0 rfl rfl 0 (by decide) (hts (.fieldLink RX5 35 "CivilDaysModel" "code" "I") (by decide +kernel)) (fun _ h9 => h9) rfl dX5_between_59 ?_
    refine zw_if_le (tgt := 67) hx hb dX5_between_62 (by decide) ⟨by omega, by omega⟩ (fun h3 => ?_) (fun h3 => ?_)
    · skip
      exact absurd True.intro (by omega)
    · skip
      refine zw_iconst hx hb dX5_between_65 ?_
      have hP9 := hP.sub (ws' := [(g0, .inr (5, [.int (zi 1), .ref ps, .int (zi ru), .ref pk, .ref pa, .ref pb, .ref pq, .int (zi we), .int (zi wr), .ref pw, .int (zi ty), .ref pt])), (ps, aI cI 10 sf)]) [0, 1] rfl
      have hD9 := hD.sub (ws' := [(g0, .inr (5, [.int (zi 1), .ref ps, .int (zi ru), .ref pk, .ref pa, .ref pb, .ref pq, .int (zi we), .int (zi wr), .ref pw, .int (zi ty), .ref pt])), (ps, aI cI 10 sf)]) [0, 1] (by decide) rfl
      exact W.iret (v := zi 0) hx hb hr (fun t ht hW => ⟨⟨zi 0, (), rfl, rfl, by rw [ht]; exact hP9, va_K.moved hW.alike hK, hD9⟩, hS.F ht⟩) hS.2.2 dX5_between_66
  · skip
    refine lv_iload_n hx hb dX5_between_8 rfl (lv_at hl 2 rfl) ?_
    have hh4 := c_X5_isSlot l ot (by omega)
    refine vp_callSi (va_Run.run (va_runS (As := [.int (zi ot)]) (rest := [.ref g0]) ⟨hx, hb, hml, hown, hts⟩ hh4 (va_cwS 1 hts gX5_between_X5_isSlot rfl rfl rfl (by decide +kernel) ⟨Nat.le_of_ble_eq_true rfl, Nat.le_of_ble_eq_true rfl⟩) ⟨fun a U g mk q => q, fun U hU hW => ⟨rfl, trivial⟩⟩ rfl rfl hl.1 rfl (lv_room (Nat.le_of_ble_eq_true rfl)) dX5_between_9 ⟨Nat.zero_le _, Nat.zero_le _⟩)) (fun r4 (hr4 : r4 = zi (f_X5_isSlot ot)) => ?_)
    subst hr4
    have hf4 := b_X5_isSlot ot (by omega)
    refine zw_if_ne (tgt := 19) hx hb dX5_between_12 (by decide) ⟨by omega, by omega⟩ (fun h5 => ?_) (fun h5 => ?_)
    · skip
      exact absurd True.intro (by omega)
    · skip
      refine zw_iconst hx hb dX5_between_15 ?_
      refine lv_goto (tgt := 55) hx hb dX5_between_16 (by decide) ?_
      refine va_put (D := (dC, dI)) (ci := 5) (v := .int (zi 1)) (ty := .int) (C := RX5) (T := TX5) (N := 12) hx hb hts (by decide +kernel) tyX5 tyX5_ok nmX5 hown hK hP hD hS 0 rfl rfl 0 (by decide) (hts (.fieldLink RX5 35 "CivilDaysModel" "code" "I") (by decide +kernel)) (fun _ h9 => h9) rfl (by decide +kernel) rfl rfl (Nat.le_of_ble_eq_true rfl) dX5_between_55 (fun H locs hP hD hS => ?_)
      have hP : va_P (dC, dI) vwCl [(g0, .inr (5, [.int (zi 1), .ref ps, .int (zi ru), .ref pk, .ref pa, .ref pb, .ref pq, .int (zi we), .int (zi wr), .ref pw, .int (zi ty), .ref pt])), (ps, aI cI 10 sf)] H := hP
      have hD : va_D A [(g0, .inr (5, [.int (zi 1), .ref ps, .int (zi ru), .ref pk, .ref pa, .ref pb, .ref pq, .int (zi we), .int (zi wr), .ref pw, .int (zi ty), .ref pt])), (ps, aI cI 10 sf)] := hD
      refine lv_aload_n hx hb dX5_between_58 rfl (lv_at hl 0 rfl) ?_
      refine va_get (D := (dC, dI)) (ci := 5) (v := .int (zi 1)) (C := RX5) (T := TX5) (N := 12) hx hb hts (by decide +kernel) hown hK hP 0 rfl rfl 0 (by decide) (hts (.fieldLink RX5 35 "CivilDaysModel" "code" "I") (by decide +kernel)) (fun _ h9 => h9) rfl dX5_between_59 ?_
      refine zw_if_le (tgt := 67) hx hb dX5_between_62 (by decide) ⟨by omega, by omega⟩ (fun h6 => ?_) (fun h6 => ?_)
      · skip
        exact absurd True.intro (by omega)
      · skip
        refine zw_iconst hx hb dX5_between_65 ?_
        have hP9 := hP.sub (ws' := [(g0, .inr (5, [.int (zi 1), .ref ps, .int (zi ru), .ref pk, .ref pa, .ref pb, .ref pq, .int (zi we), .int (zi wr), .ref pw, .int (zi ty), .ref pt])), (ps, aI cI 10 sf)]) [0, 1] rfl
        have hD9 := hD.sub (ws' := [(g0, .inr (5, [.int (zi 1), .ref ps, .int (zi ru), .ref pk, .ref pa, .ref pb, .ref pq, .int (zi we), .int (zi wr), .ref pw, .int (zi ty), .ref pt])), (ps, aI cI 10 sf)]) [0, 1] (by decide) rfl
        exact W.iret (v := zi 0) hx hb hr (fun t ht hW => ⟨⟨zi 0, (), rfl, rfl, by rw [ht]; exact hP9, va_K.moved hW.alike hK, hD9⟩, hS.F ht⟩) hS.2.2 dX5_between_66

set_option maxHeartbeats 4000000 in
set_option maxRecDepth 100000 in
theorem c_X5_between_2 (l : Launch)  (dC : Nat → ClassId) (dI : Nat → Nat → Nat) (cI : ClassId) (g0 ps pk pa pb pq pw pt : Nat) (co ru we wr ty : Int) (sf : Nat → Int) (sl ot un : Int) (sz : Nat) (hp0 : 0 ≤ sl ∧ sl ≤ 9) (hp1 : 0 ≤ ot ∧ ot ≤ 9) (hp2 : -2147483648 ≤ un ∧ un ≤ 2147483647) (hp3 : un < 0 ∨ 2 < un) : Met l yX5_between wsX5_between ({ frames := 2, cells := 0, slots := 0, locals := 42 }) (zPw (dC, dI) [(cI, .int)] sz [.ref g0, .int (zi sl), .int (zi ot), .int (zi un)] [(g0, .inr (5, [.int (zi co), .ref ps, .int (zi ru), .ref pk, .ref pa, .ref pb, .ref pq, .int (zi we), .int (zi wr), .ref pw, .int (zi ty), .ref pt])), (ps, aI cI 10 sf)]) (va_Qi (fun (r : Int32) (_ : Unit) => r = zi 0) (zB (dC, dI) [(cI, .int)] (va_A [(g0, .inr (5, [.int (zi co), .ref ps, .int (zi ru), .ref pk, .ref pa, .ref pb, .ref pq, .int (zi we), .int (zi wr), .ref pw, .int (zi ty), .ref pt])), (ps, aI cI 10 sf)] sz) [(g0, .inr (5, [.int (zi 2), .ref ps, .int (zi ru), .ref pk, .ref pa, .ref pb, .ref pq, .int (zi we), .int (zi wr), .ref pw, .int (zi ty), .ref pt])), (ps, aI cI 10 sf)]) (va_A [(g0, .inr (5, [.int (zi co), .ref ps, .int (zi ru), .ref pk, .ref pa, .ref pb, .ref pq, .int (zi we), .int (zi wr), .ref pw, .int (zi ty), .ref pt])), (ps, aI cI 10 sf)] sz)) 0 0 (va_A [(g0, .inr (5, [.int (zi co), .ref ps, .int (zi ru), .ref pk, .ref pa, .ref pb, .ref pq, .int (zi we), .int (zi wr), .ref pw, .int (zi ty), .ref pt])), (ps, aI cI 10 sf)] sz) := by
  refine Met.ofW (cc := cX5_between) (maxL := 7) (ret := (some .int)) (by decide) rfl ?_
  intro p e s m args below meth c s₁ B hml hv
  obtain ⟨rfl, hsz, hP, hK, hD0⟩ := hv
  have hx := B.exec
  have hb := B.bytes
  have hr := B.returns
  have hts := atoms_spec (ws := wsX5_between) B.pre
  have hown : s.vm.findClass RX5 = some m.cls := findClass_of_methodNamed B.named
  have hlocks := B.notSynchronized
  subst hsz
  have hD := hD0.self (sz := s.heap.size)
  generalize hAe : va_A [(g0, .inr (5, [.int (zi co), .ref ps, .int (zi ru), .ref pk, .ref pa, .ref pb, .ref pq, .int (zi we), .int (zi wr), .ref pw, .int (zi ty), .ref pt])), (ps, aI cI 10 sf)] s.heap.size = A at hD ⊢
  have hA : ∀ q : Nat, s.heap.size ≤ q → A q := fun q h => by rw [← hAe]; exact Or.inr h
  have hS : va_S A s.heap s.heap [] := va_S.rf
  have hP : va_P (dC, dI) vwCl [(g0, .inr (5, [.int (zi co), .ref ps, .int (zi ru), .ref pk, .ref pa, .ref pb, .ref pq, .int (zi we), .int (zi wr), .ref pw, .int (zi ty), .ref pt])), (ps, aI cI 10 sf)] s.heap := hP
  have hl := lv_entry ([.ref g0, .int (zi sl), .int (zi ot), .int (zi un)]) (n := 7) (Nat.le_of_ble_eq_true rfl)
  rw [lg_entry_eq]
  generalize (lg_sl ([.ref g0, .int (zi sl), .int (zi ot), .int (zi un)]) ++ List.replicate (7 - (lg_sl ([.ref g0, .int (zi sl), .int (zi ot), .int (zi un)])).length) Slot.unset).toArray = ls at hl ⊢
  have hl : lv_has ls 7 [(0, .ref g0), (1, .int (zi sl)), (2, .int (zi ot)), (3, .int (zi un))] := hl
  refine lv_aload_n hx hb dX5_between_0 rfl (lv_at hl 0 rfl) ?_
  refine lv_iload_n hx hb dX5_between_1 rfl (lv_at hl 1 rfl) ?_
  have hh1 := c_X5_isSlot l sl (by omega)
  refine vp_callSi (va_Run.run (va_runS (As := [.int (zi sl)]) (rest := [.ref g0]) ⟨hx, hb, hml, hown, hts⟩ hh1 (va_cwS 1 hts gX5_between_X5_isSlot rfl rfl rfl (by decide +kernel) ⟨Nat.le_of_ble_eq_true rfl, Nat.le_of_ble_eq_true rfl⟩) ⟨fun a U g mk q => q, fun U hU hW => ⟨rfl, trivial⟩⟩ rfl rfl hl.1 rfl (lv_room (Nat.le_of_ble_eq_true rfl)) dX5_between_2 ⟨Nat.zero_le _, Nat.zero_le _⟩)) (fun r1 (hr1 : r1 = zi (f_X5_isSlot sl)) => ?_)
  subst hr1
  have hf1 := b_X5_isSlot sl (by omega)
  refine zw_if_eq (tgt := 15) hx hb dX5_between_5 (by decide) ⟨by omega, by omega⟩ (fun h2 => ?_) (fun h2 => ?_)
  · skip
    exact absurd True.intro (by omega)
  · skip
    refine lv_iload_n hx hb dX5_between_8 rfl (lv_at hl 2 rfl) ?_
    have hh3 := c_X5_isSlot l ot (by omega)
    refine vp_callSi (va_Run.run (va_runS (As := [.int (zi ot)]) (rest := [.ref g0]) ⟨hx, hb, hml, hown, hts⟩ hh3 (va_cwS 1 hts gX5_between_X5_isSlot rfl rfl rfl (by decide +kernel) ⟨Nat.le_of_ble_eq_true rfl, Nat.le_of_ble_eq_true rfl⟩) ⟨fun a U g mk q => q, fun U hU hW => ⟨rfl, trivial⟩⟩ rfl rfl hl.1 rfl (lv_room (Nat.le_of_ble_eq_true rfl)) dX5_between_9 ⟨Nat.zero_le _, Nat.zero_le _⟩)) (fun r3 (hr3 : r3 = zi (f_X5_isSlot ot)) => ?_)
    subst hr3
    have hf3 := b_X5_isSlot ot (by omega)
    refine zw_if_ne (tgt := 19) hx hb dX5_between_12 (by decide) ⟨by omega, by omega⟩ (fun h4 => ?_) (fun h4 => ?_)
    · skip
      refine lv_iload_n hx hb dX5_between_19 rfl (lv_at hl 3 rfl) ?_
      refine zw_iconst hx hb dX5_between_20 ?_
      refine zw_iconst hx hb dX5_between_21 ?_
      have hh5 := c_X5_in l un 0 2 (by omega) (by omega) (by omega)
      refine vp_callSi (va_Run.run (va_runS (As := [.int (zi un), .int (zi 0), .int (zi 2)]) (rest := [.ref g0]) ⟨hx, hb, hml, hown, hts⟩ hh5 (va_cwS 3 hts gX5_between_X5_in rfl rfl rfl (by decide +kernel) ⟨Nat.le_of_ble_eq_true rfl, Nat.le_of_ble_eq_true rfl⟩) ⟨fun a U g mk q => q, fun U hU hW => ⟨rfl, trivial⟩⟩ rfl rfl hl.1 rfl (lv_room (Nat.le_of_ble_eq_true rfl)) dX5_between_22 ⟨Nat.zero_le _, Nat.zero_le _⟩)) (fun r5 (hr5 : r5 = zi (f_X5_in un 0 2)) => ?_)
      subst hr5
      have hf5 := b_X5_in un 0 2 (by omega) (by omega) (by omega)
      refine zw_if_ne (tgt := 32) hx hb dX5_between_25 (by decide) ⟨by omega, by omega⟩ (fun h6 => ?_) (fun h6 => ?_)
      · skip
        exact absurd True.intro (by omega)
      · skip
        refine zw_iconst hx hb dX5_between_28 ?_
        refine lv_goto (tgt := 55) hx hb dX5_between_29 (by decide) ?_
        refine va_put (D := (dC, dI)) (ci := 5) (v := .int (zi 2)) (ty := .int) (C := RX5) (T := TX5) (N := 12) hx hb hts (by decide +kernel) tyX5 tyX5_ok nmX5 hown hK hP hD hS 0 rfl rfl 0 (by decide) (hts (.fieldLink RX5 35 "CivilDaysModel" "code" "I") (by decide +kernel)) (fun _ h9 => h9) rfl (by decide +kernel) rfl rfl (Nat.le_of_ble_eq_true rfl) dX5_between_55 (fun H locs hP hD hS => ?_)
        have hP : va_P (dC, dI) vwCl [(g0, .inr (5, [.int (zi 2), .ref ps, .int (zi ru), .ref pk, .ref pa, .ref pb, .ref pq, .int (zi we), .int (zi wr), .ref pw, .int (zi ty), .ref pt])), (ps, aI cI 10 sf)] H := hP
        have hD : va_D A [(g0, .inr (5, [.int (zi 2), .ref ps, .int (zi ru), .ref pk, .ref pa, .ref pb, .ref pq, .int (zi we), .int (zi wr), .ref pw, .int (zi ty), .ref pt])), (ps, aI cI 10 sf)] := hD
        refine lv_aload_n hx hb dX5_between_58 rfl (lv_at hl 0 rfl) ?_
        refine va_get (D := (dC, dI)) (ci := 5) (v := .int (zi 2)) (C := RX5) (T := TX5) (N := 12) hx hb hts (by decide +kernel) hown hK hP 0 rfl rfl 0 (by decide) (hts (.fieldLink RX5 35 "CivilDaysModel" "code" "I") (by decide +kernel)) (fun _ h9 => h9) rfl dX5_between_59 ?_
        refine zw_if_le (tgt := 67) hx hb dX5_between_62 (by decide) ⟨by omega, by omega⟩ (fun h7 => ?_) (fun h7 => ?_)
        · skip
          exact absurd True.intro (by omega)
        · skip
          refine zw_iconst hx hb dX5_between_65 ?_
          have hP9 := hP.sub (ws' := [(g0, .inr (5, [.int (zi 2), .ref ps, .int (zi ru), .ref pk, .ref pa, .ref pb, .ref pq, .int (zi we), .int (zi wr), .ref pw, .int (zi ty), .ref pt])), (ps, aI cI 10 sf)]) [0, 1] rfl
          have hD9 := hD.sub (ws' := [(g0, .inr (5, [.int (zi 2), .ref ps, .int (zi ru), .ref pk, .ref pa, .ref pb, .ref pq, .int (zi we), .int (zi wr), .ref pw, .int (zi ty), .ref pt])), (ps, aI cI 10 sf)]) [0, 1] (by decide) rfl
          exact W.iret (v := zi 0) hx hb hr (fun t ht hW => ⟨⟨zi 0, (), rfl, rfl, by rw [ht]; exact hP9, va_K.moved hW.alike hK, hD9⟩, hS.F ht⟩) hS.2.2 dX5_between_66
    · skip
      exact absurd True.intro (by omega)

set_option maxHeartbeats 4000000 in
set_option maxRecDepth 100000 in
theorem c_X5_between_3 (l : Launch)  (dC : Nat → ClassId) (dI : Nat → Nat → Nat) (cI : ClassId) (g0 ps pk pa pb pq pw pt : Nat) (co ru we wr ty : Int) (sf : Nat → Int) (sl ot un : Int) (sz : Nat) (hp0 : 0 ≤ sl ∧ sl ≤ 9) (hp1 : 0 ≤ ot ∧ ot ≤ 9) (hp2 : 0 ≤ un ∧ un ≤ 2) (hp3 : -1 ≤ sf sl.toNat ∧ sf sl.toNat ≤ 3652058) (hp4 : -1 ≤ sf ot.toNat ∧ sf ot.toNat ≤ 3652058) (hp5 : sf sl.toNat = -1 ∨ sf ot.toNat = -1) : Met l yX5_between wsX5_between ({ frames := 2, cells := 0, slots := 0, locals := 42 }) (zPw (dC, dI) [(cI, .int)] sz [.ref g0, .int (zi sl), .int (zi ot), .int (zi un)] [(g0, .inr (5, [.int (zi co), .ref ps, .int (zi ru), .ref pk, .ref pa, .ref pb, .ref pq, .int (zi we), .int (zi wr), .ref pw, .int (zi ty), .ref pt])), (ps, aI cI 10 sf)]) (va_Qi (fun (r : Int32) (_ : Unit) => r = zi 0) (zB (dC, dI) [(cI, .int)] (va_A [(g0, .inr (5, [.int (zi co), .ref ps, .int (zi ru), .ref pk, .ref pa, .ref pb, .ref pq, .int (zi we), .int (zi wr), .ref pw, .int (zi ty), .ref pt])), (ps, aI cI 10 sf)] sz) [(g0, .inr (5, [.int (zi 3), .ref ps, .int (zi ru), .ref pk, .ref pa, .ref pb, .ref pq, .int (zi we), .int (zi wr), .ref pw, .int (zi ty), .ref pt])), (ps, aI cI 10 sf)]) (va_A [(g0, .inr (5, [.int (zi co), .ref ps, .int (zi ru), .ref pk, .ref pa, .ref pb, .ref pq, .int (zi we), .int (zi wr), .ref pw, .int (zi ty), .ref pt])), (ps, aI cI 10 sf)] sz)) 0 0 (va_A [(g0, .inr (5, [.int (zi co), .ref ps, .int (zi ru), .ref pk, .ref pa, .ref pb, .ref pq, .int (zi we), .int (zi wr), .ref pw, .int (zi ty), .ref pt])), (ps, aI cI 10 sf)] sz) := by
  refine Met.ofW (cc := cX5_between) (maxL := 7) (ret := (some .int)) (by decide) rfl ?_
  intro p e s m args below meth c s₁ B hml hv
  obtain ⟨rfl, hsz, hP, hK, hD0⟩ := hv
  have hx := B.exec
  have hb := B.bytes
  have hr := B.returns
  have hts := atoms_spec (ws := wsX5_between) B.pre
  have hown : s.vm.findClass RX5 = some m.cls := findClass_of_methodNamed B.named
  have hlocks := B.notSynchronized
  subst hsz
  have hD := hD0.self (sz := s.heap.size)
  generalize hAe : va_A [(g0, .inr (5, [.int (zi co), .ref ps, .int (zi ru), .ref pk, .ref pa, .ref pb, .ref pq, .int (zi we), .int (zi wr), .ref pw, .int (zi ty), .ref pt])), (ps, aI cI 10 sf)] s.heap.size = A at hD ⊢
  have hA : ∀ q : Nat, s.heap.size ≤ q → A q := fun q h => by rw [← hAe]; exact Or.inr h
  have hS : va_S A s.heap s.heap [] := va_S.rf
  have hP : va_P (dC, dI) vwCl [(g0, .inr (5, [.int (zi co), .ref ps, .int (zi ru), .ref pk, .ref pa, .ref pb, .ref pq, .int (zi we), .int (zi wr), .ref pw, .int (zi ty), .ref pt])), (ps, aI cI 10 sf)] s.heap := hP
  have hl := lv_entry ([.ref g0, .int (zi sl), .int (zi ot), .int (zi un)]) (n := 7) (Nat.le_of_ble_eq_true rfl)
  rw [lg_entry_eq]
  generalize (lg_sl ([.ref g0, .int (zi sl), .int (zi ot), .int (zi un)]) ++ List.replicate (7 - (lg_sl ([.ref g0, .int (zi sl), .int (zi ot), .int (zi un)])).length) Slot.unset).toArray = ls at hl ⊢
  have hl : lv_has ls 7 [(0, .ref g0), (1, .int (zi sl)), (2, .int (zi ot)), (3, .int (zi un))] := hl
  refine lv_aload_n hx hb dX5_between_0 rfl (lv_at hl 0 rfl) ?_
  refine lv_iload_n hx hb dX5_between_1 rfl (lv_at hl 1 rfl) ?_
  have hh1 := c_X5_isSlot l sl (by omega)
  refine vp_callSi (va_Run.run (va_runS (As := [.int (zi sl)]) (rest := [.ref g0]) ⟨hx, hb, hml, hown, hts⟩ hh1 (va_cwS 1 hts gX5_between_X5_isSlot rfl rfl rfl (by decide +kernel) ⟨Nat.le_of_ble_eq_true rfl, Nat.le_of_ble_eq_true rfl⟩) ⟨fun a U g mk q => q, fun U hU hW => ⟨rfl, trivial⟩⟩ rfl rfl hl.1 rfl (lv_room (Nat.le_of_ble_eq_true rfl)) dX5_between_2 ⟨Nat.zero_le _, Nat.zero_le _⟩)) (fun r1 (hr1 : r1 = zi (f_X5_isSlot sl)) => ?_)
  subst hr1
  have hf1 := b_X5_isSlot sl (by omega)
  refine zw_if_eq (tgt := 15) hx hb dX5_between_5 (by decide) ⟨by omega, by omega⟩ (fun h2 => ?_) (fun h2 => ?_)
  · skip
    exact absurd True.intro (by omega)
  · skip
    refine lv_iload_n hx hb dX5_between_8 rfl (lv_at hl 2 rfl) ?_
    have hh3 := c_X5_isSlot l ot (by omega)
    refine vp_callSi (va_Run.run (va_runS (As := [.int (zi ot)]) (rest := [.ref g0]) ⟨hx, hb, hml, hown, hts⟩ hh3 (va_cwS 1 hts gX5_between_X5_isSlot rfl rfl rfl (by decide +kernel) ⟨Nat.le_of_ble_eq_true rfl, Nat.le_of_ble_eq_true rfl⟩) ⟨fun a U g mk q => q, fun U hU hW => ⟨rfl, trivial⟩⟩ rfl rfl hl.1 rfl (lv_room (Nat.le_of_ble_eq_true rfl)) dX5_between_9 ⟨Nat.zero_le _, Nat.zero_le _⟩)) (fun r3 (hr3 : r3 = zi (f_X5_isSlot ot)) => ?_)
    subst hr3
    have hf3 := b_X5_isSlot ot (by omega)
    refine zw_if_ne (tgt := 19) hx hb dX5_between_12 (by decide) ⟨by omega, by omega⟩ (fun h4 => ?_) (fun h4 => ?_)
    · skip
      refine lv_iload_n hx hb dX5_between_19 rfl (lv_at hl 3 rfl) ?_
      refine zw_iconst hx hb dX5_between_20 ?_
      refine zw_iconst hx hb dX5_between_21 ?_
      have hh5 := c_X5_in l un 0 2 (by omega) (by omega) (by omega)
      refine vp_callSi (va_Run.run (va_runS (As := [.int (zi un), .int (zi 0), .int (zi 2)]) (rest := [.ref g0]) ⟨hx, hb, hml, hown, hts⟩ hh5 (va_cwS 3 hts gX5_between_X5_in rfl rfl rfl (by decide +kernel) ⟨Nat.le_of_ble_eq_true rfl, Nat.le_of_ble_eq_true rfl⟩) ⟨fun a U g mk q => q, fun U hU hW => ⟨rfl, trivial⟩⟩ rfl rfl hl.1 rfl (lv_room (Nat.le_of_ble_eq_true rfl)) dX5_between_22 ⟨Nat.zero_le _, Nat.zero_le _⟩)) (fun r5 (hr5 : r5 = zi (f_X5_in un 0 2)) => ?_)
      subst hr5
      have hf5 := b_X5_in un 0 2 (by omega) (by omega) (by omega)
      refine zw_if_ne (tgt := 32) hx hb dX5_between_25 (by decide) ⟨by omega, by omega⟩ (fun h6 => ?_) (fun h6 => ?_)
      · skip
        refine lv_aload_n hx hb dX5_between_32 rfl (lv_at hl 0 rfl) ?_
        refine va_get (D := (dC, dI)) (ci := 5) (v := .ref ps) (C := RX5) (T := TX5) (N := 12) hx hb hts (by decide +kernel) hown hK hP 0 rfl rfl 1 (by decide) (hts (.fieldLink RX5 7 "CivilDaysModel" "slots" "[I") (by decide +kernel)) (fun _ h9 => h9) rfl dX5_between_33 ?_
        refine lv_iload_n hx hb dX5_between_36 rfl (lv_at hl 1 rfl) ?_
        refine zw_iald hx hb hK hP 1 0 rfl rfl (by omega) (by omega) ⟨by omega, by omega⟩ dX5_between_37 ?_
        refine zw_if_lt (tgt := 50) hx hb dX5_between_38 (by decide) ⟨by omega, by omega⟩ (fun h7 => ?_) (fun h7 => ?_)
        · skip
          refine zw_iconst hx hb dX5_between_50 ?_
          refine lv_goto (tgt := 55) hx hb dX5_between_51 (by decide) ?_
          refine va_put (D := (dC, dI)) (ci := 5) (v := .int (zi 3)) (ty := .int) (C := RX5) (T := TX5) (N := 12) hx hb hts (by decide +kernel) tyX5 tyX5_ok nmX5 hown hK hP hD hS 0 rfl rfl 0 (by decide) (hts (.fieldLink RX5 35 "CivilDaysModel" "code" "I") (by decide +kernel)) (fun _ h9 => h9) rfl (by decide +kernel) rfl rfl (Nat.le_of_ble_eq_true rfl) dX5_between_55 (fun H locs hP hD hS => ?_)
          have hP : va_P (dC, dI) vwCl [(g0, .inr (5, [.int (zi 3), .ref ps, .int (zi ru), .ref pk, .ref pa, .ref pb, .ref pq, .int (zi we), .int (zi wr), .ref pw, .int (zi ty), .ref pt])), (ps, aI cI 10 sf)] H := hP
          have hD : va_D A [(g0, .inr (5, [.int (zi 3), .ref ps, .int (zi ru), .ref pk, .ref pa, .ref pb, .ref pq, .int (zi we), .int (zi wr), .ref pw, .int (zi ty), .ref pt])), (ps, aI cI 10 sf)] := hD
          refine lv_aload_n hx hb dX5_between_58 rfl (lv_at hl 0 rfl) ?_
          refine va_get (D := (dC, dI)) (ci := 5) (v := .int (zi 3)) (C := RX5) (T := TX5) (N := 12) hx hb hts (by decide +kernel) hown hK hP 0 rfl rfl 0 (by decide) (hts (.fieldLink RX5 35 "CivilDaysModel" "code" "I") (by decide +kernel)) (fun _ h9 => h9) rfl dX5_between_59 ?_
          refine zw_if_le (tgt := 67) hx hb dX5_between_62 (by decide) ⟨by omega, by omega⟩ (fun h8 => ?_) (fun h8 => ?_)
          · skip
            exact absurd True.intro (by omega)
          · skip
            refine zw_iconst hx hb dX5_between_65 ?_
            have hP9 := hP.sub (ws' := [(g0, .inr (5, [.int (zi 3), .ref ps, .int (zi ru), .ref pk, .ref pa, .ref pb, .ref pq, .int (zi we), .int (zi wr), .ref pw, .int (zi ty), .ref pt])), (ps, aI cI 10 sf)]) [0, 1] rfl
            have hD9 := hD.sub (ws' := [(g0, .inr (5, [.int (zi 3), .ref ps, .int (zi ru), .ref pk, .ref pa, .ref pb, .ref pq, .int (zi we), .int (zi wr), .ref pw, .int (zi ty), .ref pt])), (ps, aI cI 10 sf)]) [0, 1] (by decide) rfl
            exact W.iret (v := zi 0) hx hb hr (fun t ht hW => ⟨⟨zi 0, (), rfl, rfl, by rw [ht]; exact hP9, va_K.moved hW.alike hK, hD9⟩, hS.F ht⟩) hS.2.2 dX5_between_66
        · skip
          refine lv_aload_n hx hb dX5_between_41 rfl (lv_at hl 0 rfl) ?_
          refine va_get (D := (dC, dI)) (ci := 5) (v := .ref ps) (C := RX5) (T := TX5) (N := 12) hx hb hts (by decide +kernel) hown hK hP 0 rfl rfl 1 (by decide) (hts (.fieldLink RX5 7 "CivilDaysModel" "slots" "[I") (by decide +kernel)) (fun _ h9 => h9) rfl dX5_between_42 ?_
          refine lv_iload_n hx hb dX5_between_45 rfl (lv_at hl 2 rfl) ?_
          refine zw_iald hx hb hK hP 1 0 rfl rfl (by omega) (by omega) ⟨by omega, by omega⟩ dX5_between_46 ?_
          refine zw_if_ge (tgt := 54) hx hb dX5_between_47 (by decide) ⟨by omega, by omega⟩ (fun h9 => ?_) (fun h9 => ?_)
          · skip
            exact absurd True.intro (by omega)
          · skip
            refine zw_iconst hx hb dX5_between_50 ?_
            refine lv_goto (tgt := 55) hx hb dX5_between_51 (by decide) ?_
            refine va_put (D := (dC, dI)) (ci := 5) (v := .int (zi 3)) (ty := .int) (C := RX5) (T := TX5) (N := 12) hx hb hts (by decide +kernel) tyX5 tyX5_ok nmX5 hown hK hP hD hS 0 rfl rfl 0 (by decide) (hts (.fieldLink RX5 35 "CivilDaysModel" "code" "I") (by decide +kernel)) (fun _ h9 => h9) rfl (by decide +kernel) rfl rfl (Nat.le_of_ble_eq_true rfl) dX5_between_55 (fun H locs hP hD hS => ?_)
            have hP : va_P (dC, dI) vwCl [(g0, .inr (5, [.int (zi 3), .ref ps, .int (zi ru), .ref pk, .ref pa, .ref pb, .ref pq, .int (zi we), .int (zi wr), .ref pw, .int (zi ty), .ref pt])), (ps, aI cI 10 sf)] H := hP
            have hD : va_D A [(g0, .inr (5, [.int (zi 3), .ref ps, .int (zi ru), .ref pk, .ref pa, .ref pb, .ref pq, .int (zi we), .int (zi wr), .ref pw, .int (zi ty), .ref pt])), (ps, aI cI 10 sf)] := hD
            refine lv_aload_n hx hb dX5_between_58 rfl (lv_at hl 0 rfl) ?_
            refine va_get (D := (dC, dI)) (ci := 5) (v := .int (zi 3)) (C := RX5) (T := TX5) (N := 12) hx hb hts (by decide +kernel) hown hK hP 0 rfl rfl 0 (by decide) (hts (.fieldLink RX5 35 "CivilDaysModel" "code" "I") (by decide +kernel)) (fun _ h9 => h9) rfl dX5_between_59 ?_
            refine zw_if_le (tgt := 67) hx hb dX5_between_62 (by decide) ⟨by omega, by omega⟩ (fun h10 => ?_) (fun h10 => ?_)
            · skip
              exact absurd True.intro (by omega)
            · skip
              refine zw_iconst hx hb dX5_between_65 ?_
              have hP9 := hP.sub (ws' := [(g0, .inr (5, [.int (zi 3), .ref ps, .int (zi ru), .ref pk, .ref pa, .ref pb, .ref pq, .int (zi we), .int (zi wr), .ref pw, .int (zi ty), .ref pt])), (ps, aI cI 10 sf)]) [0, 1] rfl
              have hD9 := hD.sub (ws' := [(g0, .inr (5, [.int (zi 3), .ref ps, .int (zi ru), .ref pk, .ref pa, .ref pb, .ref pq, .int (zi we), .int (zi wr), .ref pw, .int (zi ty), .ref pt])), (ps, aI cI 10 sf)]) [0, 1] (by decide) rfl
              exact W.iret (v := zi 0) hx hb hr (fun t ht hW => ⟨⟨zi 0, (), rfl, rfl, by rw [ht]; exact hP9, va_K.moved hW.alike hK, hD9⟩, hS.F ht⟩) hS.2.2 dX5_between_66
      · skip
        exact absurd True.intro (by omega)
    · skip
      exact absurd True.intro (by omega)

set_option maxHeartbeats 4000000 in
set_option maxRecDepth 100000 in
theorem c_X5_between_d (l : Launch)  (dC : Nat → ClassId) (dI : Nat → Nat → Nat) (cI : ClassId) (g0 ps pk pa pb pq pw pt : Nat) (co ru we wr ty : Int) (sf : Nat → Int) (sl ot un : Int) (sz : Nat) (hp0 : 0 ≤ sl ∧ sl ≤ 9) (hp1 : 0 ≤ ot ∧ ot ≤ 9) (hp2 : un = 0) (hp3 : 0 ≤ sf sl.toNat ∧ sf sl.toNat ≤ 3652058) (hp4 : 0 ≤ sf ot.toNat ∧ sf ot.toNat ≤ 3652058) : Met l yX5_between wsX5_between ({ frames := 2, cells := 0, slots := 0, locals := 42 }) (zPw (dC, dI) [(cI, .int)] sz [.ref g0, .int (zi sl), .int (zi ot), .int (zi un)] [(g0, .inr (5, [.int (zi co), .ref ps, .int (zi ru), .ref pk, .ref pa, .ref pb, .ref pq, .int (zi we), .int (zi wr), .ref pw, .int (zi ty), .ref pt])), (ps, aI cI 10 sf)]) (va_Qi (fun (r : Int32) (_ : Unit) => r = zi ((sf ot.toNat) - (sf sl.toNat))) (zB (dC, dI) [(cI, .int)] (va_A [(g0, .inr (5, [.int (zi co), .ref ps, .int (zi ru), .ref pk, .ref pa, .ref pb, .ref pq, .int (zi we), .int (zi wr), .ref pw, .int (zi ty), .ref pt])), (ps, aI cI 10 sf)] sz) [(g0, .inr (5, [.int (zi 0), .ref ps, .int (zi ru), .ref pk, .ref pa, .ref pb, .ref pq, .int (zi we), .int (zi wr), .ref pw, .int (zi ty), .ref pt])), (ps, aI cI 10 sf)]) (va_A [(g0, .inr (5, [.int (zi co), .ref ps, .int (zi ru), .ref pk, .ref pa, .ref pb, .ref pq, .int (zi we), .int (zi wr), .ref pw, .int (zi ty), .ref pt])), (ps, aI cI 10 sf)] sz)) 0 0 (va_A [(g0, .inr (5, [.int (zi co), .ref ps, .int (zi ru), .ref pk, .ref pa, .ref pb, .ref pq, .int (zi we), .int (zi wr), .ref pw, .int (zi ty), .ref pt])), (ps, aI cI 10 sf)] sz) := by
  refine Met.ofW (cc := cX5_between) (maxL := 7) (ret := (some .int)) (by decide) rfl ?_
  intro p e s m args below meth c s₁ B hml hv
  obtain ⟨rfl, hsz, hP, hK, hD0⟩ := hv
  have hx := B.exec
  have hb := B.bytes
  have hr := B.returns
  have hts := atoms_spec (ws := wsX5_between) B.pre
  have hown : s.vm.findClass RX5 = some m.cls := findClass_of_methodNamed B.named
  have hlocks := B.notSynchronized
  subst hsz
  have hD := hD0.self (sz := s.heap.size)
  generalize hAe : va_A [(g0, .inr (5, [.int (zi co), .ref ps, .int (zi ru), .ref pk, .ref pa, .ref pb, .ref pq, .int (zi we), .int (zi wr), .ref pw, .int (zi ty), .ref pt])), (ps, aI cI 10 sf)] s.heap.size = A at hD ⊢
  have hA : ∀ q : Nat, s.heap.size ≤ q → A q := fun q h => by rw [← hAe]; exact Or.inr h
  have hS : va_S A s.heap s.heap [] := va_S.rf
  have hP : va_P (dC, dI) vwCl [(g0, .inr (5, [.int (zi co), .ref ps, .int (zi ru), .ref pk, .ref pa, .ref pb, .ref pq, .int (zi we), .int (zi wr), .ref pw, .int (zi ty), .ref pt])), (ps, aI cI 10 sf)] s.heap := hP
  have hl := lv_entry ([.ref g0, .int (zi sl), .int (zi ot), .int (zi un)]) (n := 7) (Nat.le_of_ble_eq_true rfl)
  rw [lg_entry_eq]
  generalize (lg_sl ([.ref g0, .int (zi sl), .int (zi ot), .int (zi un)]) ++ List.replicate (7 - (lg_sl ([.ref g0, .int (zi sl), .int (zi ot), .int (zi un)])).length) Slot.unset).toArray = ls at hl ⊢
  have hl : lv_has ls 7 [(0, .ref g0), (1, .int (zi sl)), (2, .int (zi ot)), (3, .int (zi un))] := hl
  refine lv_aload_n hx hb dX5_between_0 rfl (lv_at hl 0 rfl) ?_
  refine lv_iload_n hx hb dX5_between_1 rfl (lv_at hl 1 rfl) ?_
  have hh1 := c_X5_isSlot l sl (by omega)
  refine vp_callSi (va_Run.run (va_runS (As := [.int (zi sl)]) (rest := [.ref g0]) ⟨hx, hb, hml, hown, hts⟩ hh1 (va_cwS 1 hts gX5_between_X5_isSlot rfl rfl rfl (by decide +kernel) ⟨Nat.le_of_ble_eq_true rfl, Nat.le_of_ble_eq_true rfl⟩) ⟨fun a U g mk q => q, fun U hU hW => ⟨rfl, trivial⟩⟩ rfl rfl hl.1 rfl (lv_room (Nat.le_of_ble_eq_true rfl)) dX5_between_2 ⟨Nat.zero_le _, Nat.zero_le _⟩)) (fun r1 (hr1 : r1 = zi (f_X5_isSlot sl)) => ?_)
  subst hr1
  have hf1 := b_X5_isSlot sl (by omega)
  refine zw_if_eq (tgt := 15) hx hb dX5_between_5 (by decide) ⟨by omega, by omega⟩ (fun h2 => ?_) (fun h2 => ?_)
  · skip
    exact absurd True.intro (by omega)
  · skip
    refine lv_iload_n hx hb dX5_between_8 rfl (lv_at hl 2 rfl) ?_
    have hh3 := c_X5_isSlot l ot (by omega)
    refine vp_callSi (va_Run.run (va_runS (As := [.int (zi ot)]) (rest := [.ref g0]) ⟨hx, hb, hml, hown, hts⟩ hh3 (va_cwS 1 hts gX5_between_X5_isSlot rfl rfl rfl (by decide +kernel) ⟨Nat.le_of_ble_eq_true rfl, Nat.le_of_ble_eq_true rfl⟩) ⟨fun a U g mk q => q, fun U hU hW => ⟨rfl, trivial⟩⟩ rfl rfl hl.1 rfl (lv_room (Nat.le_of_ble_eq_true rfl)) dX5_between_9 ⟨Nat.zero_le _, Nat.zero_le _⟩)) (fun r3 (hr3 : r3 = zi (f_X5_isSlot ot)) => ?_)
    subst hr3
    have hf3 := b_X5_isSlot ot (by omega)
    refine zw_if_ne (tgt := 19) hx hb dX5_between_12 (by decide) ⟨by omega, by omega⟩ (fun h4 => ?_) (fun h4 => ?_)
    · skip
      refine lv_iload_n hx hb dX5_between_19 rfl (lv_at hl 3 rfl) ?_
      refine zw_iconst hx hb dX5_between_20 ?_
      refine zw_iconst hx hb dX5_between_21 ?_
      have hh5 := c_X5_in l un 0 2 (by omega) (by omega) (by omega)
      refine vp_callSi (va_Run.run (va_runS (As := [.int (zi un), .int (zi 0), .int (zi 2)]) (rest := [.ref g0]) ⟨hx, hb, hml, hown, hts⟩ hh5 (va_cwS 3 hts gX5_between_X5_in rfl rfl rfl (by decide +kernel) ⟨Nat.le_of_ble_eq_true rfl, Nat.le_of_ble_eq_true rfl⟩) ⟨fun a U g mk q => q, fun U hU hW => ⟨rfl, trivial⟩⟩ rfl rfl hl.1 rfl (lv_room (Nat.le_of_ble_eq_true rfl)) dX5_between_22 ⟨Nat.zero_le _, Nat.zero_le _⟩)) (fun r5 (hr5 : r5 = zi (f_X5_in un 0 2)) => ?_)
      subst hr5
      have hf5 := b_X5_in un 0 2 (by omega) (by omega) (by omega)
      refine zw_if_ne (tgt := 32) hx hb dX5_between_25 (by decide) ⟨by omega, by omega⟩ (fun h6 => ?_) (fun h6 => ?_)
      · skip
        refine lv_aload_n hx hb dX5_between_32 rfl (lv_at hl 0 rfl) ?_
        refine va_get (D := (dC, dI)) (ci := 5) (v := .ref ps) (C := RX5) (T := TX5) (N := 12) hx hb hts (by decide +kernel) hown hK hP 0 rfl rfl 1 (by decide) (hts (.fieldLink RX5 7 "CivilDaysModel" "slots" "[I") (by decide +kernel)) (fun _ h9 => h9) rfl dX5_between_33 ?_
        refine lv_iload_n hx hb dX5_between_36 rfl (lv_at hl 1 rfl) ?_
        refine zw_iald hx hb hK hP 1 0 rfl rfl (by omega) (by omega) ⟨by omega, by omega⟩ dX5_between_37 ?_
        refine zw_if_lt (tgt := 50) hx hb dX5_between_38 (by decide) ⟨by omega, by omega⟩ (fun h7 => ?_) (fun h7 => ?_)
        · skip
          exact absurd True.intro (by omega)
        · skip
          refine lv_aload_n hx hb dX5_between_41 rfl (lv_at hl 0 rfl) ?_
          refine va_get (D := (dC, dI)) (ci := 5) (v := .ref ps) (C := RX5) (T := TX5) (N := 12) hx hb hts (by decide +kernel) hown hK hP 0 rfl rfl 1 (by decide) (hts (.fieldLink RX5 7 "CivilDaysModel" "slots" "[I") (by decide +kernel)) (fun _ h9 => h9) rfl dX5_between_42 ?_
          refine lv_iload_n hx hb dX5_between_45 rfl (lv_at hl 2 rfl) ?_
          refine zw_iald hx hb hK hP 1 0 rfl rfl (by omega) (by omega) ⟨by omega, by omega⟩ dX5_between_46 ?_
          refine zw_if_ge (tgt := 54) hx hb dX5_between_47 (by decide) ⟨by omega, by omega⟩ (fun h8 => ?_) (fun h8 => ?_)
          · skip
            refine zw_iconst hx hb dX5_between_54 ?_
            refine va_put (D := (dC, dI)) (ci := 5) (v := .int (zi 0)) (ty := .int) (C := RX5) (T := TX5) (N := 12) hx hb hts (by decide +kernel) tyX5 tyX5_ok nmX5 hown hK hP hD hS 0 rfl rfl 0 (by decide) (hts (.fieldLink RX5 35 "CivilDaysModel" "code" "I") (by decide +kernel)) (fun _ h9 => h9) rfl (by decide +kernel) rfl rfl (Nat.le_of_ble_eq_true rfl) dX5_between_55 (fun H locs hP hD hS => ?_)
            have hP : va_P (dC, dI) vwCl [(g0, .inr (5, [.int (zi 0), .ref ps, .int (zi ru), .ref pk, .ref pa, .ref pb, .ref pq, .int (zi we), .int (zi wr), .ref pw, .int (zi ty), .ref pt])), (ps, aI cI 10 sf)] H := hP
            have hD : va_D A [(g0, .inr (5, [.int (zi 0), .ref ps, .int (zi ru), .ref pk, .ref pa, .ref pb, .ref pq, .int (zi we), .int (zi wr), .ref pw, .int (zi ty), .ref pt])), (ps, aI cI 10 sf)] := hD
            refine lv_aload_n hx hb dX5_between_58 rfl (lv_at hl 0 rfl) ?_
            refine va_get (D := (dC, dI)) (ci := 5) (v := .int (zi 0)) (C := RX5) (T := TX5) (N := 12) hx hb hts (by decide +kernel) hown hK hP 0 rfl rfl 0 (by decide) (hts (.fieldLink RX5 35 "CivilDaysModel" "code" "I") (by decide +kernel)) (fun _ h9 => h9) rfl dX5_between_59 ?_
            refine zw_if_le (tgt := 67) hx hb dX5_between_62 (by decide) ⟨by omega, by omega⟩ (fun h9 => ?_) (fun h9 => ?_)
            · skip
              refine lv_aload_n hx hb dX5_between_67 rfl (lv_at hl 0 rfl) ?_
              refine va_get (D := (dC, dI)) (ci := 5) (v := .ref ps) (C := RX5) (T := TX5) (N := 12) hx hb hts (by decide +kernel) hown hK hP 0 rfl rfl 1 (by decide) (hts (.fieldLink RX5 7 "CivilDaysModel" "slots" "[I") (by decide +kernel)) (fun _ h9 => h9) rfl dX5_between_68 ?_
              refine lv_iload_n hx hb dX5_between_71 rfl (lv_at hl 1 rfl) ?_
              refine zw_iald hx hb hK hP 1 0 rfl rfl (by omega) (by omega) ⟨by omega, by omega⟩ dX5_between_72 ?_
              refine zw_top (fun x10 ex10 => ?_)
              refine lv_istore (lv' := [(4, .int (zi x10)), (0, .ref g0), (1, .int (zi sl)), (2, .int (zi ot)), (3, .int (zi un))]) hx hb dX5_between_73 hl (by decide) rfl (fun ls hl => ?_)
              refine lv_aload_n hx hb dX5_between_75 rfl (lv_at hl 1 rfl) ?_
              refine va_get (D := (dC, dI)) (ci := 5) (v := .ref ps) (C := RX5) (T := TX5) (N := 12) hx hb hts (by decide +kernel) hown hK hP 0 rfl rfl 1 (by decide) (hts (.fieldLink RX5 7 "CivilDaysModel" "slots" "[I") (by decide +kernel)) (fun _ h9 => h9) rfl dX5_between_76 ?_
              refine lv_iload_n hx hb dX5_between_79 rfl (lv_at hl 3 rfl) ?_
              refine zw_iald hx hb hK hP 1 0 rfl rfl (by omega) (by omega) ⟨by omega, by omega⟩ dX5_between_80 ?_
              refine zw_top (fun x11 ex11 => ?_)
              refine lv_istore (lv' := [(5, .int (zi x11)), (4, .int (zi x10)), (0, .ref g0), (1, .int (zi sl)), (2, .int (zi ot)), (3, .int (zi un))]) hx hb dX5_between_81 hl (by decide) rfl (fun ls hl => ?_)
              refine lv_iload_n hx hb dX5_between_83 rfl (lv_at hl 5 rfl) ?_
              refine zw_if_ne (tgt := 93) hx hb dX5_between_84 (by decide) ⟨by omega, by omega⟩ (fun h12 => ?_) (fun h12 => ?_)
              · skip
                exact absurd True.intro (by omega)
              · skip
                refine lv_iload hx hb dX5_between_87 (lv_at hl 0 rfl) ?_
                refine lv_iload hx hb dX5_between_89 (lv_at hl 1 rfl) ?_
                refine zw_isub hx hb dX5_between_91 ?_
                subst ex10 ex11
                have hP9 := hP.sub (ws' := [(g0, .inr (5, [.int (zi 0), .ref ps, .int (zi ru), .ref pk, .ref pa, .ref pb, .ref pq, .int (zi we), .int (zi wr), .ref pw, .int (zi ty), .ref pt])), (ps, aI cI 10 sf)]) [0, 1] rfl
                have hD9 := hD.sub (ws' := [(g0, .inr (5, [.int (zi 0), .ref ps, .int (zi ru), .ref pk, .ref pa, .ref pb, .ref pq, .int (zi we), .int (zi wr), .ref pw, .int (zi ty), .ref pt])), (ps, aI cI 10 sf)]) [0, 1] (by decide) rfl
                exact W.iret (v := zi ((sf ot.toNat) - (sf sl.toNat))) hx hb hr (fun t ht hW => ⟨⟨zi ((sf ot.toNat) - (sf sl.toNat)), (), rfl, rfl, by rw [ht]; exact hP9, va_K.moved hW.alike hK, hD9⟩, hS.F ht⟩) hS.2.2 dX5_between_92
            · skip
              exact absurd True.intro (by omega)
          · skip
            exact absurd True.intro (by omega)
      · skip
        exact absurd True.intro (by omega)
    · skip
      exact absurd True.intro (by omega)

set_option maxHeartbeats 4000000 in
set_option maxRecDepth 100000 in
theorem c_X5_between_m (l : Launch)  (dC : Nat → ClassId) (dI : Nat → Nat → Nat) (cI : ClassId) (g0 ps pk pa pb pq pw pt : Nat) (co ru we wr ty : Int) (sf : Nat → Int) (sl ot un : Int) (sz : Nat) (hp0 : 0 ≤ sl ∧ sl ≤ 9) (hp1 : 0 ≤ ot ∧ ot ≤ 9) (hp2 : un = 1) (hp3 : 0 ≤ sf sl.toNat ∧ sf sl.toNat ≤ 3652058) (hp4 : 0 ≤ sf ot.toNat ∧ sf ot.toNat ≤ 3652058) (hp5 : (sf sl.toNat) ≤ (sf ot.toNat)) : Met l yX5_between wsX5_between ({ frames := 7, cells := 0, slots := 0, locals := 158 }) (zPw (dC, dI) [(cI, .int)] sz [.ref g0, .int (zi sl), .int (zi ot), .int (zi un)] [(g0, .inr (5, [.int (zi co), .ref ps, .int (zi ru), .ref pk, .ref pa, .ref pb, .ref pq, .int (zi we), .int (zi wr), .ref pw, .int (zi ty), .ref pt])), (ps, aI cI 10 sf)]) (va_Qi (fun (r : Int32) (_ : Unit) => r = zi (f_X5_wholes_1 (sf sl.toNat) (sf ot.toNat))) (zB (dC, dI) [(cI, .int)] (va_A [(g0, .inr (5, [.int (zi co), .ref ps, .int (zi ru), .ref pk, .ref pa, .ref pb, .ref pq, .int (zi we), .int (zi wr), .ref pw, .int (zi ty), .ref pt])), (ps, aI cI 10 sf)] sz) [(g0, .inr (5, [.int (zi 0), .ref ps, .int (zi ru), .ref pk, .ref pa, .ref pb, .ref pq, .int (zi we), .int (zi wr), .ref pw, .int (zi ty), .ref pt])), (ps, aI cI 10 sf)]) (va_A [(g0, .inr (5, [.int (zi co), .ref ps, .int (zi ru), .ref pk, .ref pa, .ref pb, .ref pq, .int (zi we), .int (zi wr), .ref pw, .int (zi ty), .ref pt])), (ps, aI cI 10 sf)] sz)) 0 0 (va_A [(g0, .inr (5, [.int (zi co), .ref ps, .int (zi ru), .ref pk, .ref pa, .ref pb, .ref pq, .int (zi we), .int (zi wr), .ref pw, .int (zi ty), .ref pt])), (ps, aI cI 10 sf)] sz) := by
  refine Met.ofW (cc := cX5_between) (maxL := 7) (ret := (some .int)) (by decide) rfl ?_
  intro p e s m args below meth c s₁ B hml hv
  obtain ⟨rfl, hsz, hP, hK, hD0⟩ := hv
  have hx := B.exec
  have hb := B.bytes
  have hr := B.returns
  have hts := atoms_spec (ws := wsX5_between) B.pre
  have hown : s.vm.findClass RX5 = some m.cls := findClass_of_methodNamed B.named
  have hlocks := B.notSynchronized
  subst hsz
  have hD := hD0.self (sz := s.heap.size)
  generalize hAe : va_A [(g0, .inr (5, [.int (zi co), .ref ps, .int (zi ru), .ref pk, .ref pa, .ref pb, .ref pq, .int (zi we), .int (zi wr), .ref pw, .int (zi ty), .ref pt])), (ps, aI cI 10 sf)] s.heap.size = A at hD ⊢
  have hA : ∀ q : Nat, s.heap.size ≤ q → A q := fun q h => by rw [← hAe]; exact Or.inr h
  have hS : va_S A s.heap s.heap [] := va_S.rf
  have hP : va_P (dC, dI) vwCl [(g0, .inr (5, [.int (zi co), .ref ps, .int (zi ru), .ref pk, .ref pa, .ref pb, .ref pq, .int (zi we), .int (zi wr), .ref pw, .int (zi ty), .ref pt])), (ps, aI cI 10 sf)] s.heap := hP
  have hl := lv_entry ([.ref g0, .int (zi sl), .int (zi ot), .int (zi un)]) (n := 7) (Nat.le_of_ble_eq_true rfl)
  rw [lg_entry_eq]
  generalize (lg_sl ([.ref g0, .int (zi sl), .int (zi ot), .int (zi un)]) ++ List.replicate (7 - (lg_sl ([.ref g0, .int (zi sl), .int (zi ot), .int (zi un)])).length) Slot.unset).toArray = ls at hl ⊢
  have hl : lv_has ls 7 [(0, .ref g0), (1, .int (zi sl)), (2, .int (zi ot)), (3, .int (zi un))] := hl
  refine lv_aload_n hx hb dX5_between_0 rfl (lv_at hl 0 rfl) ?_
  refine lv_iload_n hx hb dX5_between_1 rfl (lv_at hl 1 rfl) ?_
  have hh1 := c_X5_isSlot l sl (by omega)
  refine vp_callSi (va_Run.run (va_runS (As := [.int (zi sl)]) (rest := [.ref g0]) ⟨hx, hb, hml, hown, hts⟩ hh1 (va_cwS 1 hts gX5_between_X5_isSlot rfl rfl rfl (by decide +kernel) ⟨Nat.le_of_ble_eq_true rfl, Nat.le_of_ble_eq_true rfl⟩) ⟨fun a U g mk q => q, fun U hU hW => ⟨rfl, trivial⟩⟩ rfl rfl hl.1 rfl (lv_room (Nat.le_of_ble_eq_true rfl)) dX5_between_2 ⟨Nat.zero_le _, Nat.zero_le _⟩)) (fun r1 (hr1 : r1 = zi (f_X5_isSlot sl)) => ?_)
  subst hr1
  have hf1 := b_X5_isSlot sl (by omega)
  refine zw_if_eq (tgt := 15) hx hb dX5_between_5 (by decide) ⟨by omega, by omega⟩ (fun h2 => ?_) (fun h2 => ?_)
  · skip
    exact absurd True.intro (by omega)
  · skip
    refine lv_iload_n hx hb dX5_between_8 rfl (lv_at hl 2 rfl) ?_
    have hh3 := c_X5_isSlot l ot (by omega)
    refine vp_callSi (va_Run.run (va_runS (As := [.int (zi ot)]) (rest := [.ref g0]) ⟨hx, hb, hml, hown, hts⟩ hh3 (va_cwS 1 hts gX5_between_X5_isSlot rfl rfl rfl (by decide +kernel) ⟨Nat.le_of_ble_eq_true rfl, Nat.le_of_ble_eq_true rfl⟩) ⟨fun a U g mk q => q, fun U hU hW => ⟨rfl, trivial⟩⟩ rfl rfl hl.1 rfl (lv_room (Nat.le_of_ble_eq_true rfl)) dX5_between_9 ⟨Nat.zero_le _, Nat.zero_le _⟩)) (fun r3 (hr3 : r3 = zi (f_X5_isSlot ot)) => ?_)
    subst hr3
    have hf3 := b_X5_isSlot ot (by omega)
    refine zw_if_ne (tgt := 19) hx hb dX5_between_12 (by decide) ⟨by omega, by omega⟩ (fun h4 => ?_) (fun h4 => ?_)
    · skip
      refine lv_iload_n hx hb dX5_between_19 rfl (lv_at hl 3 rfl) ?_
      refine zw_iconst hx hb dX5_between_20 ?_
      refine zw_iconst hx hb dX5_between_21 ?_
      have hh5 := c_X5_in l un 0 2 (by omega) (by omega) (by omega)
      refine vp_callSi (va_Run.run (va_runS (As := [.int (zi un), .int (zi 0), .int (zi 2)]) (rest := [.ref g0]) ⟨hx, hb, hml, hown, hts⟩ hh5 (va_cwS 3 hts gX5_between_X5_in rfl rfl rfl (by decide +kernel) ⟨Nat.le_of_ble_eq_true rfl, Nat.le_of_ble_eq_true rfl⟩) ⟨fun a U g mk q => q, fun U hU hW => ⟨rfl, trivial⟩⟩ rfl rfl hl.1 rfl (lv_room (Nat.le_of_ble_eq_true rfl)) dX5_between_22 ⟨Nat.zero_le _, Nat.zero_le _⟩)) (fun r5 (hr5 : r5 = zi (f_X5_in un 0 2)) => ?_)
      subst hr5
      have hf5 := b_X5_in un 0 2 (by omega) (by omega) (by omega)
      refine zw_if_ne (tgt := 32) hx hb dX5_between_25 (by decide) ⟨by omega, by omega⟩ (fun h6 => ?_) (fun h6 => ?_)
      · skip
        refine lv_aload_n hx hb dX5_between_32 rfl (lv_at hl 0 rfl) ?_
        refine va_get (D := (dC, dI)) (ci := 5) (v := .ref ps) (C := RX5) (T := TX5) (N := 12) hx hb hts (by decide +kernel) hown hK hP 0 rfl rfl 1 (by decide) (hts (.fieldLink RX5 7 "CivilDaysModel" "slots" "[I") (by decide +kernel)) (fun _ h9 => h9) rfl dX5_between_33 ?_
        refine lv_iload_n hx hb dX5_between_36 rfl (lv_at hl 1 rfl) ?_
        refine zw_iald hx hb hK hP 1 0 rfl rfl (by omega) (by omega) ⟨by omega, by omega⟩ dX5_between_37 ?_
        refine zw_if_lt (tgt := 50) hx hb dX5_between_38 (by decide) ⟨by omega, by omega⟩ (fun h7 => ?_) (fun h7 => ?_)
        · skip
          exact absurd True.intro (by omega)
        · skip
          refine lv_aload_n hx hb dX5_between_41 rfl (lv_at hl 0 rfl) ?_
          refine va_get (D := (dC, dI)) (ci := 5) (v := .ref ps) (C := RX5) (T := TX5) (N := 12) hx hb hts (by decide +kernel) hown hK hP 0 rfl rfl 1 (by decide) (hts (.fieldLink RX5 7 "CivilDaysModel" "slots" "[I") (by decide +kernel)) (fun _ h9 => h9) rfl dX5_between_42 ?_
          refine lv_iload_n hx hb dX5_between_45 rfl (lv_at hl 2 rfl) ?_
          refine zw_iald hx hb hK hP 1 0 rfl rfl (by omega) (by omega) ⟨by omega, by omega⟩ dX5_between_46 ?_
          refine zw_if_ge (tgt := 54) hx hb dX5_between_47 (by decide) ⟨by omega, by omega⟩ (fun h8 => ?_) (fun h8 => ?_)
          · skip
            refine zw_iconst hx hb dX5_between_54 ?_
            refine va_put (D := (dC, dI)) (ci := 5) (v := .int (zi 0)) (ty := .int) (C := RX5) (T := TX5) (N := 12) hx hb hts (by decide +kernel) tyX5 tyX5_ok nmX5 hown hK hP hD hS 0 rfl rfl 0 (by decide) (hts (.fieldLink RX5 35 "CivilDaysModel" "code" "I") (by decide +kernel)) (fun _ h9 => h9) rfl (by decide +kernel) rfl rfl (Nat.le_of_ble_eq_true rfl) dX5_between_55 (fun H locs hP hD hS => ?_)
            have hP : va_P (dC, dI) vwCl [(g0, .inr (5, [.int (zi 0), .ref ps, .int (zi ru), .ref pk, .ref pa, .ref pb, .ref pq, .int (zi we), .int (zi wr), .ref pw, .int (zi ty), .ref pt])), (ps, aI cI 10 sf)] H := hP
            have hD : va_D A [(g0, .inr (5, [.int (zi 0), .ref ps, .int (zi ru), .ref pk, .ref pa, .ref pb, .ref pq, .int (zi we), .int (zi wr), .ref pw, .int (zi ty), .ref pt])), (ps, aI cI 10 sf)] := hD
            refine lv_aload_n hx hb dX5_between_58 rfl (lv_at hl 0 rfl) ?_
            refine va_get (D := (dC, dI)) (ci := 5) (v := .int (zi 0)) (C := RX5) (T := TX5) (N := 12) hx hb hts (by decide +kernel) hown hK hP 0 rfl rfl 0 (by decide) (hts (.fieldLink RX5 35 "CivilDaysModel" "code" "I") (by decide +kernel)) (fun _ h9 => h9) rfl dX5_between_59 ?_
            refine zw_if_le (tgt := 67) hx hb dX5_between_62 (by decide) ⟨by omega, by omega⟩ (fun h9 => ?_) (fun h9 => ?_)
            · skip
              refine lv_aload_n hx hb dX5_between_67 rfl (lv_at hl 0 rfl) ?_
              refine va_get (D := (dC, dI)) (ci := 5) (v := .ref ps) (C := RX5) (T := TX5) (N := 12) hx hb hts (by decide +kernel) hown hK hP 0 rfl rfl 1 (by decide) (hts (.fieldLink RX5 7 "CivilDaysModel" "slots" "[I") (by decide +kernel)) (fun _ h9 => h9) rfl dX5_between_68 ?_
              refine lv_iload_n hx hb dX5_between_71 rfl (lv_at hl 1 rfl) ?_
              refine zw_iald hx hb hK hP 1 0 rfl rfl (by omega) (by omega) ⟨by omega, by omega⟩ dX5_between_72 ?_
              refine zw_top (fun x10 ex10 => ?_)
              refine lv_istore (lv' := [(4, .int (zi x10)), (0, .ref g0), (1, .int (zi sl)), (2, .int (zi ot)), (3, .int (zi un))]) hx hb dX5_between_73 hl (by decide) rfl (fun ls hl => ?_)
              refine lv_aload_n hx hb dX5_between_75 rfl (lv_at hl 1 rfl) ?_
              refine va_get (D := (dC, dI)) (ci := 5) (v := .ref ps) (C := RX5) (T := TX5) (N := 12) hx hb hts (by decide +kernel) hown hK hP 0 rfl rfl 1 (by decide) (hts (.fieldLink RX5 7 "CivilDaysModel" "slots" "[I") (by decide +kernel)) (fun _ h9 => h9) rfl dX5_between_76 ?_
              refine lv_iload_n hx hb dX5_between_79 rfl (lv_at hl 3 rfl) ?_
              refine zw_iald hx hb hK hP 1 0 rfl rfl (by omega) (by omega) ⟨by omega, by omega⟩ dX5_between_80 ?_
              refine zw_top (fun x11 ex11 => ?_)
              refine lv_istore (lv' := [(5, .int (zi x11)), (4, .int (zi x10)), (0, .ref g0), (1, .int (zi sl)), (2, .int (zi ot)), (3, .int (zi un))]) hx hb dX5_between_81 hl (by decide) rfl (fun ls hl => ?_)
              refine lv_iload_n hx hb dX5_between_83 rfl (lv_at hl 5 rfl) ?_
              refine zw_if_ne (tgt := 93) hx hb dX5_between_84 (by decide) ⟨by omega, by omega⟩ (fun h12 => ?_) (fun h12 => ?_)
              · skip
                refine lv_iload_n hx hb dX5_between_93 rfl (lv_at hl 5 rfl) ?_
                refine zw_iconst hx hb dX5_between_94 ?_
                refine zw_icmp_ne (tgt := 102) hx hb dX5_between_95 (by decide) ⟨by omega, by omega⟩ ⟨by omega, by omega⟩ (fun h13 => ?_) (fun h13 => ?_)
                · skip
                  exact absurd True.intro (by omega)
                · skip
                  refine zw_iconst hx hb dX5_between_98 ?_
                  refine lv_goto (tgt := 104) hx hb dX5_between_99 (by decide) ?_
                  refine lv_istore (lv' := [(6, .int (zi 1)), (5, .int (zi x11)), (4, .int (zi x10)), (0, .ref g0), (1, .int (zi sl)), (2, .int (zi ot)), (3, .int (zi un))]) hx hb dX5_between_104 hl (by decide) rfl (fun ls hl => ?_)
                  refine lv_iload hx hb dX5_between_106 (lv_at hl 1 rfl) ?_
                  refine lv_iload hx hb dX5_between_108 (lv_at hl 2 rfl) ?_
                  refine zw_icmp_lt (tgt := 125) hx hb dX5_between_110 (by decide) ⟨by omega, by omega⟩ ⟨by omega, by omega⟩ (fun h14 => ?_) (fun h14 => ?_)
                  · skip
                    exact absurd True.intro (by omega)
                  · skip
                    refine lv_iload hx hb dX5_between_113 (lv_at hl 2 rfl) ?_
                    refine lv_iload hx hb dX5_between_115 (lv_at hl 1 rfl) ?_
                    refine lv_iload hx hb dX5_between_117 (lv_at hl 0 rfl) ?_
                    have hh15 := c_X5_wholes_1 l x10 x11 (by omega)
                    refine vp_callSi (va_Run.run (va_runS (As := [.int (zi x10), .int (zi x11), .int (zi 1)]) (rest := []) ⟨hx, hb, hml, hown, hts⟩ hh15 (va_cwS 3 hts gX5_between_X5_wholes rfl rfl rfl (by decide +kernel) ⟨Nat.le_of_ble_eq_true rfl, Nat.le_of_ble_eq_true rfl⟩) ⟨fun a U g mk q => q, fun U hU hW => ⟨rfl, trivial⟩⟩ rfl rfl hl.1 rfl (lv_room (Nat.le_of_ble_eq_true rfl)) dX5_between_119 ⟨Nat.zero_le _, Nat.zero_le _⟩)) (fun r15 (hr15 : r15 = zi (f_X5_wholes_1 x10 x11)) => ?_)
                    subst hr15
                    have hf15 := b_X5_wholes_1 x10 x11 (by omega)
                    refine lv_goto (tgt := 135) hx hb dX5_between_122 (by decide) ?_
                    subst ex10 ex11
                    have hP9 := hP.sub (ws' := [(g0, .inr (5, [.int (zi 0), .ref ps, .int (zi ru), .ref pk, .ref pa, .ref pb, .ref pq, .int (zi we), .int (zi wr), .ref pw, .int (zi ty), .ref pt])), (ps, aI cI 10 sf)]) [0, 1] rfl
                    have hD9 := hD.sub (ws' := [(g0, .inr (5, [.int (zi 0), .ref ps, .int (zi ru), .ref pk, .ref pa, .ref pb, .ref pq, .int (zi we), .int (zi wr), .ref pw, .int (zi ty), .ref pt])), (ps, aI cI 10 sf)]) [0, 1] (by decide) rfl
                    exact W.iret (v := zi (f_X5_wholes_1 (sf sl.toNat) (sf ot.toNat))) hx hb hr (fun t ht hW => ⟨⟨zi (f_X5_wholes_1 (sf sl.toNat) (sf ot.toNat)), (), rfl, rfl, by rw [ht]; exact hP9, va_K.moved hW.alike hK, hD9⟩, hS.F ht⟩) hS.2.2 dX5_between_135
              · skip
                exact absurd True.intro (by omega)
            · skip
              exact absurd True.intro (by omega)
          · skip
            exact absurd True.intro (by omega)
      · skip
        exact absurd True.intro (by omega)
    · skip
      exact absurd True.intro (by omega)

set_option maxHeartbeats 4000000 in
set_option maxRecDepth 100000 in
theorem c_X5_between_nm (l : Launch)  (dC : Nat → ClassId) (dI : Nat → Nat → Nat) (cI : ClassId) (g0 ps pk pa pb pq pw pt : Nat) (co ru we wr ty : Int) (sf : Nat → Int) (sl ot un : Int) (sz : Nat) (hp0 : 0 ≤ sl ∧ sl ≤ 9) (hp1 : 0 ≤ ot ∧ ot ≤ 9) (hp2 : un = 1) (hp3 : 0 ≤ sf sl.toNat ∧ sf sl.toNat ≤ 3652058) (hp4 : 0 ≤ sf ot.toNat ∧ sf ot.toNat ≤ 3652058) (hp5 : (sf ot.toNat) < (sf sl.toNat)) : Met l yX5_between wsX5_between ({ frames := 7, cells := 0, slots := 0, locals := 158 }) (zPw (dC, dI) [(cI, .int)] sz [.ref g0, .int (zi sl), .int (zi ot), .int (zi un)] [(g0, .inr (5, [.int (zi co), .ref ps, .int (zi ru), .ref pk, .ref pa, .ref pb, .ref pq, .int (zi we), .int (zi wr), .ref pw, .int (zi ty), .ref pt])), (ps, aI cI 10 sf)]) (va_Qi (fun (r : Int32) (_ : Unit) => r = zi (-(f_X5_wholes_1 (sf ot.toNat) (sf sl.toNat)))) (zB (dC, dI) [(cI, .int)] (va_A [(g0, .inr (5, [.int (zi co), .ref ps, .int (zi ru), .ref pk, .ref pa, .ref pb, .ref pq, .int (zi we), .int (zi wr), .ref pw, .int (zi ty), .ref pt])), (ps, aI cI 10 sf)] sz) [(g0, .inr (5, [.int (zi 0), .ref ps, .int (zi ru), .ref pk, .ref pa, .ref pb, .ref pq, .int (zi we), .int (zi wr), .ref pw, .int (zi ty), .ref pt])), (ps, aI cI 10 sf)]) (va_A [(g0, .inr (5, [.int (zi co), .ref ps, .int (zi ru), .ref pk, .ref pa, .ref pb, .ref pq, .int (zi we), .int (zi wr), .ref pw, .int (zi ty), .ref pt])), (ps, aI cI 10 sf)] sz)) 0 0 (va_A [(g0, .inr (5, [.int (zi co), .ref ps, .int (zi ru), .ref pk, .ref pa, .ref pb, .ref pq, .int (zi we), .int (zi wr), .ref pw, .int (zi ty), .ref pt])), (ps, aI cI 10 sf)] sz) := by
  refine Met.ofW (cc := cX5_between) (maxL := 7) (ret := (some .int)) (by decide) rfl ?_
  intro p e s m args below meth c s₁ B hml hv
  obtain ⟨rfl, hsz, hP, hK, hD0⟩ := hv
  have hx := B.exec
  have hb := B.bytes
  have hr := B.returns
  have hts := atoms_spec (ws := wsX5_between) B.pre
  have hown : s.vm.findClass RX5 = some m.cls := findClass_of_methodNamed B.named
  have hlocks := B.notSynchronized
  subst hsz
  have hD := hD0.self (sz := s.heap.size)
  generalize hAe : va_A [(g0, .inr (5, [.int (zi co), .ref ps, .int (zi ru), .ref pk, .ref pa, .ref pb, .ref pq, .int (zi we), .int (zi wr), .ref pw, .int (zi ty), .ref pt])), (ps, aI cI 10 sf)] s.heap.size = A at hD ⊢
  have hA : ∀ q : Nat, s.heap.size ≤ q → A q := fun q h => by rw [← hAe]; exact Or.inr h
  have hS : va_S A s.heap s.heap [] := va_S.rf
  have hP : va_P (dC, dI) vwCl [(g0, .inr (5, [.int (zi co), .ref ps, .int (zi ru), .ref pk, .ref pa, .ref pb, .ref pq, .int (zi we), .int (zi wr), .ref pw, .int (zi ty), .ref pt])), (ps, aI cI 10 sf)] s.heap := hP
  have hl := lv_entry ([.ref g0, .int (zi sl), .int (zi ot), .int (zi un)]) (n := 7) (Nat.le_of_ble_eq_true rfl)
  rw [lg_entry_eq]
  generalize (lg_sl ([.ref g0, .int (zi sl), .int (zi ot), .int (zi un)]) ++ List.replicate (7 - (lg_sl ([.ref g0, .int (zi sl), .int (zi ot), .int (zi un)])).length) Slot.unset).toArray = ls at hl ⊢
  have hl : lv_has ls 7 [(0, .ref g0), (1, .int (zi sl)), (2, .int (zi ot)), (3, .int (zi un))] := hl
  refine lv_aload_n hx hb dX5_between_0 rfl (lv_at hl 0 rfl) ?_
  refine lv_iload_n hx hb dX5_between_1 rfl (lv_at hl 1 rfl) ?_
  have hh1 := c_X5_isSlot l sl (by omega)
  refine vp_callSi (va_Run.run (va_runS (As := [.int (zi sl)]) (rest := [.ref g0]) ⟨hx, hb, hml, hown, hts⟩ hh1 (va_cwS 1 hts gX5_between_X5_isSlot rfl rfl rfl (by decide +kernel) ⟨Nat.le_of_ble_eq_true rfl, Nat.le_of_ble_eq_true rfl⟩) ⟨fun a U g mk q => q, fun U hU hW => ⟨rfl, trivial⟩⟩ rfl rfl hl.1 rfl (lv_room (Nat.le_of_ble_eq_true rfl)) dX5_between_2 ⟨Nat.zero_le _, Nat.zero_le _⟩)) (fun r1 (hr1 : r1 = zi (f_X5_isSlot sl)) => ?_)
  subst hr1
  have hf1 := b_X5_isSlot sl (by omega)
  refine zw_if_eq (tgt := 15) hx hb dX5_between_5 (by decide) ⟨by omega, by omega⟩ (fun h2 => ?_) (fun h2 => ?_)
  · skip
    exact absurd True.intro (by omega)
  · skip
    refine lv_iload_n hx hb dX5_between_8 rfl (lv_at hl 2 rfl) ?_
    have hh3 := c_X5_isSlot l ot (by omega)
    refine vp_callSi (va_Run.run (va_runS (As := [.int (zi ot)]) (rest := [.ref g0]) ⟨hx, hb, hml, hown, hts⟩ hh3 (va_cwS 1 hts gX5_between_X5_isSlot rfl rfl rfl (by decide +kernel) ⟨Nat.le_of_ble_eq_true rfl, Nat.le_of_ble_eq_true rfl⟩) ⟨fun a U g mk q => q, fun U hU hW => ⟨rfl, trivial⟩⟩ rfl rfl hl.1 rfl (lv_room (Nat.le_of_ble_eq_true rfl)) dX5_between_9 ⟨Nat.zero_le _, Nat.zero_le _⟩)) (fun r3 (hr3 : r3 = zi (f_X5_isSlot ot)) => ?_)
    subst hr3
    have hf3 := b_X5_isSlot ot (by omega)
    refine zw_if_ne (tgt := 19) hx hb dX5_between_12 (by decide) ⟨by omega, by omega⟩ (fun h4 => ?_) (fun h4 => ?_)
    · skip
      refine lv_iload_n hx hb dX5_between_19 rfl (lv_at hl 3 rfl) ?_
      refine zw_iconst hx hb dX5_between_20 ?_
      refine zw_iconst hx hb dX5_between_21 ?_
      have hh5 := c_X5_in l un 0 2 (by omega) (by omega) (by omega)
      refine vp_callSi (va_Run.run (va_runS (As := [.int (zi un), .int (zi 0), .int (zi 2)]) (rest := [.ref g0]) ⟨hx, hb, hml, hown, hts⟩ hh5 (va_cwS 3 hts gX5_between_X5_in rfl rfl rfl (by decide +kernel) ⟨Nat.le_of_ble_eq_true rfl, Nat.le_of_ble_eq_true rfl⟩) ⟨fun a U g mk q => q, fun U hU hW => ⟨rfl, trivial⟩⟩ rfl rfl hl.1 rfl (lv_room (Nat.le_of_ble_eq_true rfl)) dX5_between_22 ⟨Nat.zero_le _, Nat.zero_le _⟩)) (fun r5 (hr5 : r5 = zi (f_X5_in un 0 2)) => ?_)
      subst hr5
      have hf5 := b_X5_in un 0 2 (by omega) (by omega) (by omega)
      refine zw_if_ne (tgt := 32) hx hb dX5_between_25 (by decide) ⟨by omega, by omega⟩ (fun h6 => ?_) (fun h6 => ?_)
      · skip
        refine lv_aload_n hx hb dX5_between_32 rfl (lv_at hl 0 rfl) ?_
        refine va_get (D := (dC, dI)) (ci := 5) (v := .ref ps) (C := RX5) (T := TX5) (N := 12) hx hb hts (by decide +kernel) hown hK hP 0 rfl rfl 1 (by decide) (hts (.fieldLink RX5 7 "CivilDaysModel" "slots" "[I") (by decide +kernel)) (fun _ h9 => h9) rfl dX5_between_33 ?_
        refine lv_iload_n hx hb dX5_between_36 rfl (lv_at hl 1 rfl) ?_
        refine zw_iald hx hb hK hP 1 0 rfl rfl (by omega) (by omega) ⟨by omega, by omega⟩ dX5_between_37 ?_
        refine zw_if_lt (tgt := 50) hx hb dX5_between_38 (by decide) ⟨by omega, by omega⟩ (fun h7 => ?_) (fun h7 => ?_)
        · skip
          exact absurd True.intro (by omega)
        · skip
          refine lv_aload_n hx hb dX5_between_41 rfl (lv_at hl 0 rfl) ?_
          refine va_get (D := (dC, dI)) (ci := 5) (v := .ref ps) (C := RX5) (T := TX5) (N := 12) hx hb hts (by decide +kernel) hown hK hP 0 rfl rfl 1 (by decide) (hts (.fieldLink RX5 7 "CivilDaysModel" "slots" "[I") (by decide +kernel)) (fun _ h9 => h9) rfl dX5_between_42 ?_
          refine lv_iload_n hx hb dX5_between_45 rfl (lv_at hl 2 rfl) ?_
          refine zw_iald hx hb hK hP 1 0 rfl rfl (by omega) (by omega) ⟨by omega, by omega⟩ dX5_between_46 ?_
          refine zw_if_ge (tgt := 54) hx hb dX5_between_47 (by decide) ⟨by omega, by omega⟩ (fun h8 => ?_) (fun h8 => ?_)
          · skip
            refine zw_iconst hx hb dX5_between_54 ?_
            refine va_put (D := (dC, dI)) (ci := 5) (v := .int (zi 0)) (ty := .int) (C := RX5) (T := TX5) (N := 12) hx hb hts (by decide +kernel) tyX5 tyX5_ok nmX5 hown hK hP hD hS 0 rfl rfl 0 (by decide) (hts (.fieldLink RX5 35 "CivilDaysModel" "code" "I") (by decide +kernel)) (fun _ h9 => h9) rfl (by decide +kernel) rfl rfl (Nat.le_of_ble_eq_true rfl) dX5_between_55 (fun H locs hP hD hS => ?_)
            have hP : va_P (dC, dI) vwCl [(g0, .inr (5, [.int (zi 0), .ref ps, .int (zi ru), .ref pk, .ref pa, .ref pb, .ref pq, .int (zi we), .int (zi wr), .ref pw, .int (zi ty), .ref pt])), (ps, aI cI 10 sf)] H := hP
            have hD : va_D A [(g0, .inr (5, [.int (zi 0), .ref ps, .int (zi ru), .ref pk, .ref pa, .ref pb, .ref pq, .int (zi we), .int (zi wr), .ref pw, .int (zi ty), .ref pt])), (ps, aI cI 10 sf)] := hD
            refine lv_aload_n hx hb dX5_between_58 rfl (lv_at hl 0 rfl) ?_
            refine va_get (D := (dC, dI)) (ci := 5) (v := .int (zi 0)) (C := RX5) (T := TX5) (N := 12) hx hb hts (by decide +kernel) hown hK hP 0 rfl rfl 0 (by decide) (hts (.fieldLink RX5 35 "CivilDaysModel" "code" "I") (by decide +kernel)) (fun _ h9 => h9) rfl dX5_between_59 ?_
            refine zw_if_le (tgt := 67) hx hb dX5_between_62 (by decide) ⟨by omega, by omega⟩ (fun h9 => ?_) (fun h9 => ?_)
            · skip
              refine lv_aload_n hx hb dX5_between_67 rfl (lv_at hl 0 rfl) ?_
              refine va_get (D := (dC, dI)) (ci := 5) (v := .ref ps) (C := RX5) (T := TX5) (N := 12) hx hb hts (by decide +kernel) hown hK hP 0 rfl rfl 1 (by decide) (hts (.fieldLink RX5 7 "CivilDaysModel" "slots" "[I") (by decide +kernel)) (fun _ h9 => h9) rfl dX5_between_68 ?_
              refine lv_iload_n hx hb dX5_between_71 rfl (lv_at hl 1 rfl) ?_
              refine zw_iald hx hb hK hP 1 0 rfl rfl (by omega) (by omega) ⟨by omega, by omega⟩ dX5_between_72 ?_
              refine zw_top (fun x10 ex10 => ?_)
              refine lv_istore (lv' := [(4, .int (zi x10)), (0, .ref g0), (1, .int (zi sl)), (2, .int (zi ot)), (3, .int (zi un))]) hx hb dX5_between_73 hl (by decide) rfl (fun ls hl => ?_)
              refine lv_aload_n hx hb dX5_between_75 rfl (lv_at hl 1 rfl) ?_
              refine va_get (D := (dC, dI)) (ci := 5) (v := .ref ps) (C := RX5) (T := TX5) (N := 12) hx hb hts (by decide +kernel) hown hK hP 0 rfl rfl 1 (by decide) (hts (.fieldLink RX5 7 "CivilDaysModel" "slots" "[I") (by decide +kernel)) (fun _ h9 => h9) rfl dX5_between_76 ?_
              refine lv_iload_n hx hb dX5_between_79 rfl (lv_at hl 3 rfl) ?_
              refine zw_iald hx hb hK hP 1 0 rfl rfl (by omega) (by omega) ⟨by omega, by omega⟩ dX5_between_80 ?_
              refine zw_top (fun x11 ex11 => ?_)
              refine lv_istore (lv' := [(5, .int (zi x11)), (4, .int (zi x10)), (0, .ref g0), (1, .int (zi sl)), (2, .int (zi ot)), (3, .int (zi un))]) hx hb dX5_between_81 hl (by decide) rfl (fun ls hl => ?_)
              refine lv_iload_n hx hb dX5_between_83 rfl (lv_at hl 5 rfl) ?_
              refine zw_if_ne (tgt := 93) hx hb dX5_between_84 (by decide) ⟨by omega, by omega⟩ (fun h12 => ?_) (fun h12 => ?_)
              · skip
                refine lv_iload_n hx hb dX5_between_93 rfl (lv_at hl 5 rfl) ?_
                refine zw_iconst hx hb dX5_between_94 ?_
                refine zw_icmp_ne (tgt := 102) hx hb dX5_between_95 (by decide) ⟨by omega, by omega⟩ ⟨by omega, by omega⟩ (fun h13 => ?_) (fun h13 => ?_)
                · skip
                  exact absurd True.intro (by omega)
                · skip
                  refine zw_iconst hx hb dX5_between_98 ?_
                  refine lv_goto (tgt := 104) hx hb dX5_between_99 (by decide) ?_
                  refine lv_istore (lv' := [(6, .int (zi 1)), (5, .int (zi x11)), (4, .int (zi x10)), (0, .ref g0), (1, .int (zi sl)), (2, .int (zi ot)), (3, .int (zi un))]) hx hb dX5_between_104 hl (by decide) rfl (fun ls hl => ?_)
                  refine lv_iload hx hb dX5_between_106 (lv_at hl 1 rfl) ?_
                  refine lv_iload hx hb dX5_between_108 (lv_at hl 2 rfl) ?_
                  refine zw_icmp_lt (tgt := 125) hx hb dX5_between_110 (by decide) ⟨by omega, by omega⟩ ⟨by omega, by omega⟩ (fun h14 => ?_) (fun h14 => ?_)
                  · skip
                    refine lv_iload hx hb dX5_between_125 (lv_at hl 1 rfl) ?_
                    refine lv_iload hx hb dX5_between_127 (lv_at hl 2 rfl) ?_
                    refine lv_iload hx hb dX5_between_129 (lv_at hl 0 rfl) ?_
                    have hh15 := c_X5_wholes_1 l x11 x10 (by omega)
                    refine vp_callSi (va_Run.run (va_runS (As := [.int (zi x11), .int (zi x10), .int (zi 1)]) (rest := []) ⟨hx, hb, hml, hown, hts⟩ hh15 (va_cwS 3 hts gX5_between_X5_wholes rfl rfl rfl (by decide +kernel) ⟨Nat.le_of_ble_eq_true rfl, Nat.le_of_ble_eq_true rfl⟩) ⟨fun a U g mk q => q, fun U hU hW => ⟨rfl, trivial⟩⟩ rfl rfl hl.1 rfl (lv_room (Nat.le_of_ble_eq_true rfl)) dX5_between_131 ⟨Nat.zero_le _, Nat.zero_le _⟩)) (fun r15 (hr15 : r15 = zi (f_X5_wholes_1 x11 x10)) => ?_)
                    subst hr15
                    have hf15 := b_X5_wholes_1 x11 x10 (by omega)
                    refine zw_ineg hx hb dX5_between_134 ?_
                    subst ex10 ex11
                    have hP9 := hP.sub (ws' := [(g0, .inr (5, [.int (zi 0), .ref ps, .int (zi ru), .ref pk, .ref pa, .ref pb, .ref pq, .int (zi we), .int (zi wr), .ref pw, .int (zi ty), .ref pt])), (ps, aI cI 10 sf)]) [0, 1] rfl
                    have hD9 := hD.sub (ws' := [(g0, .inr (5, [.int (zi 0), .ref ps, .int (zi ru), .ref pk, .ref pa, .ref pb, .ref pq, .int (zi we), .int (zi wr), .ref pw, .int (zi ty), .ref pt])), (ps, aI cI 10 sf)]) [0, 1] (by decide) rfl
                    exact W.iret (v := zi (-(f_X5_wholes_1 (sf ot.toNat) (sf sl.toNat)))) hx hb hr (fun t ht hW => ⟨⟨zi (-(f_X5_wholes_1 (sf ot.toNat) (sf sl.toNat))), (), rfl, rfl, by rw [ht]; exact hP9, va_K.moved hW.alike hK, hD9⟩, hS.F ht⟩) hS.2.2 dX5_between_135
                  · skip
                    exact absurd True.intro (by omega)
              · skip
                exact absurd True.intro (by omega)
            · skip
              exact absurd True.intro (by omega)
          · skip
            exact absurd True.intro (by omega)
      · skip
        exact absurd True.intro (by omega)
    · skip
      exact absurd True.intro (by omega)

set_option maxHeartbeats 4000000 in
set_option maxRecDepth 100000 in
theorem c_X5_between_y (l : Launch)  (dC : Nat → ClassId) (dI : Nat → Nat → Nat) (cI : ClassId) (g0 ps pk pa pb pq pw pt : Nat) (co ru we wr ty : Int) (sf : Nat → Int) (sl ot un : Int) (sz : Nat) (hp0 : 0 ≤ sl ∧ sl ≤ 9) (hp1 : 0 ≤ ot ∧ ot ≤ 9) (hp2 : un = 2) (hp3 : 0 ≤ sf sl.toNat ∧ sf sl.toNat ≤ 3652058) (hp4 : 0 ≤ sf ot.toNat ∧ sf ot.toNat ≤ 3652058) (hp5 : (sf sl.toNat) ≤ (sf ot.toNat)) : Met l yX5_between wsX5_between ({ frames := 7, cells := 0, slots := 0, locals := 158 }) (zPw (dC, dI) [(cI, .int)] sz [.ref g0, .int (zi sl), .int (zi ot), .int (zi un)] [(g0, .inr (5, [.int (zi co), .ref ps, .int (zi ru), .ref pk, .ref pa, .ref pb, .ref pq, .int (zi we), .int (zi wr), .ref pw, .int (zi ty), .ref pt])), (ps, aI cI 10 sf)]) (va_Qi (fun (r : Int32) (_ : Unit) => r = zi (f_X5_wholes_12 (sf sl.toNat) (sf ot.toNat))) (zB (dC, dI) [(cI, .int)] (va_A [(g0, .inr (5, [.int (zi co), .ref ps, .int (zi ru), .ref pk, .ref pa, .ref pb, .ref pq, .int (zi we), .int (zi wr), .ref pw, .int (zi ty), .ref pt])), (ps, aI cI 10 sf)] sz) [(g0, .inr (5, [.int (zi 0), .ref ps, .int (zi ru), .ref pk, .ref pa, .ref pb, .ref pq, .int (zi we), .int (zi wr), .ref pw, .int (zi ty), .ref pt])), (ps, aI cI 10 sf)]) (va_A [(g0, .inr (5, [.int (zi co), .ref ps, .int (zi ru), .ref pk, .ref pa, .ref pb, .ref pq, .int (zi we), .int (zi wr), .ref pw, .int (zi ty), .ref pt])), (ps, aI cI 10 sf)] sz)) 0 0 (va_A [(g0, .inr (5, [.int (zi co), .ref ps, .int (zi ru), .ref pk, .ref pa, .ref pb, .ref pq, .int (zi we), .int (zi wr), .ref pw, .int (zi ty), .ref pt])), (ps, aI cI 10 sf)] sz) := by
  refine Met.ofW (cc := cX5_between) (maxL := 7) (ret := (some .int)) (by decide) rfl ?_
  intro p e s m args below meth c s₁ B hml hv
  obtain ⟨rfl, hsz, hP, hK, hD0⟩ := hv
  have hx := B.exec
  have hb := B.bytes
  have hr := B.returns
  have hts := atoms_spec (ws := wsX5_between) B.pre
  have hown : s.vm.findClass RX5 = some m.cls := findClass_of_methodNamed B.named
  have hlocks := B.notSynchronized
  subst hsz
  have hD := hD0.self (sz := s.heap.size)
  generalize hAe : va_A [(g0, .inr (5, [.int (zi co), .ref ps, .int (zi ru), .ref pk, .ref pa, .ref pb, .ref pq, .int (zi we), .int (zi wr), .ref pw, .int (zi ty), .ref pt])), (ps, aI cI 10 sf)] s.heap.size = A at hD ⊢
  have hA : ∀ q : Nat, s.heap.size ≤ q → A q := fun q h => by rw [← hAe]; exact Or.inr h
  have hS : va_S A s.heap s.heap [] := va_S.rf
  have hP : va_P (dC, dI) vwCl [(g0, .inr (5, [.int (zi co), .ref ps, .int (zi ru), .ref pk, .ref pa, .ref pb, .ref pq, .int (zi we), .int (zi wr), .ref pw, .int (zi ty), .ref pt])), (ps, aI cI 10 sf)] s.heap := hP
  have hl := lv_entry ([.ref g0, .int (zi sl), .int (zi ot), .int (zi un)]) (n := 7) (Nat.le_of_ble_eq_true rfl)
  rw [lg_entry_eq]
  generalize (lg_sl ([.ref g0, .int (zi sl), .int (zi ot), .int (zi un)]) ++ List.replicate (7 - (lg_sl ([.ref g0, .int (zi sl), .int (zi ot), .int (zi un)])).length) Slot.unset).toArray = ls at hl ⊢
  have hl : lv_has ls 7 [(0, .ref g0), (1, .int (zi sl)), (2, .int (zi ot)), (3, .int (zi un))] := hl
  refine lv_aload_n hx hb dX5_between_0 rfl (lv_at hl 0 rfl) ?_
  refine lv_iload_n hx hb dX5_between_1 rfl (lv_at hl 1 rfl) ?_
  have hh1 := c_X5_isSlot l sl (by omega)
  refine vp_callSi (va_Run.run (va_runS (As := [.int (zi sl)]) (rest := [.ref g0]) ⟨hx, hb, hml, hown, hts⟩ hh1 (va_cwS 1 hts gX5_between_X5_isSlot rfl rfl rfl (by decide +kernel) ⟨Nat.le_of_ble_eq_true rfl, Nat.le_of_ble_eq_true rfl⟩) ⟨fun a U g mk q => q, fun U hU hW => ⟨rfl, trivial⟩⟩ rfl rfl hl.1 rfl (lv_room (Nat.le_of_ble_eq_true rfl)) dX5_between_2 ⟨Nat.zero_le _, Nat.zero_le _⟩)) (fun r1 (hr1 : r1 = zi (f_X5_isSlot sl)) => ?_)
  subst hr1
  have hf1 := b_X5_isSlot sl (by omega)
  refine zw_if_eq (tgt := 15) hx hb dX5_between_5 (by decide) ⟨by omega, by omega⟩ (fun h2 => ?_) (fun h2 => ?_)
  · skip
    exact absurd True.intro (by omega)
  · skip
    refine lv_iload_n hx hb dX5_between_8 rfl (lv_at hl 2 rfl) ?_
    have hh3 := c_X5_isSlot l ot (by omega)
    refine vp_callSi (va_Run.run (va_runS (As := [.int (zi ot)]) (rest := [.ref g0]) ⟨hx, hb, hml, hown, hts⟩ hh3 (va_cwS 1 hts gX5_between_X5_isSlot rfl rfl rfl (by decide +kernel) ⟨Nat.le_of_ble_eq_true rfl, Nat.le_of_ble_eq_true rfl⟩) ⟨fun a U g mk q => q, fun U hU hW => ⟨rfl, trivial⟩⟩ rfl rfl hl.1 rfl (lv_room (Nat.le_of_ble_eq_true rfl)) dX5_between_9 ⟨Nat.zero_le _, Nat.zero_le _⟩)) (fun r3 (hr3 : r3 = zi (f_X5_isSlot ot)) => ?_)
    subst hr3
    have hf3 := b_X5_isSlot ot (by omega)
    refine zw_if_ne (tgt := 19) hx hb dX5_between_12 (by decide) ⟨by omega, by omega⟩ (fun h4 => ?_) (fun h4 => ?_)
    · skip
      refine lv_iload_n hx hb dX5_between_19 rfl (lv_at hl 3 rfl) ?_
      refine zw_iconst hx hb dX5_between_20 ?_
      refine zw_iconst hx hb dX5_between_21 ?_
      have hh5 := c_X5_in l un 0 2 (by omega) (by omega) (by omega)
      refine vp_callSi (va_Run.run (va_runS (As := [.int (zi un), .int (zi 0), .int (zi 2)]) (rest := [.ref g0]) ⟨hx, hb, hml, hown, hts⟩ hh5 (va_cwS 3 hts gX5_between_X5_in rfl rfl rfl (by decide +kernel) ⟨Nat.le_of_ble_eq_true rfl, Nat.le_of_ble_eq_true rfl⟩) ⟨fun a U g mk q => q, fun U hU hW => ⟨rfl, trivial⟩⟩ rfl rfl hl.1 rfl (lv_room (Nat.le_of_ble_eq_true rfl)) dX5_between_22 ⟨Nat.zero_le _, Nat.zero_le _⟩)) (fun r5 (hr5 : r5 = zi (f_X5_in un 0 2)) => ?_)
      subst hr5
      have hf5 := b_X5_in un 0 2 (by omega) (by omega) (by omega)
      refine zw_if_ne (tgt := 32) hx hb dX5_between_25 (by decide) ⟨by omega, by omega⟩ (fun h6 => ?_) (fun h6 => ?_)
      · skip
        refine lv_aload_n hx hb dX5_between_32 rfl (lv_at hl 0 rfl) ?_
        refine va_get (D := (dC, dI)) (ci := 5) (v := .ref ps) (C := RX5) (T := TX5) (N := 12) hx hb hts (by decide +kernel) hown hK hP 0 rfl rfl 1 (by decide) (hts (.fieldLink RX5 7 "CivilDaysModel" "slots" "[I") (by decide +kernel)) (fun _ h9 => h9) rfl dX5_between_33 ?_
        refine lv_iload_n hx hb dX5_between_36 rfl (lv_at hl 1 rfl) ?_
        refine zw_iald hx hb hK hP 1 0 rfl rfl (by omega) (by omega) ⟨by omega, by omega⟩ dX5_between_37 ?_
        refine zw_if_lt (tgt := 50) hx hb dX5_between_38 (by decide) ⟨by omega, by omega⟩ (fun h7 => ?_) (fun h7 => ?_)
        · skip
          exact absurd True.intro (by omega)
        · skip
          refine lv_aload_n hx hb dX5_between_41 rfl (lv_at hl 0 rfl) ?_
          refine va_get (D := (dC, dI)) (ci := 5) (v := .ref ps) (C := RX5) (T := TX5) (N := 12) hx hb hts (by decide +kernel) hown hK hP 0 rfl rfl 1 (by decide) (hts (.fieldLink RX5 7 "CivilDaysModel" "slots" "[I") (by decide +kernel)) (fun _ h9 => h9) rfl dX5_between_42 ?_
          refine lv_iload_n hx hb dX5_between_45 rfl (lv_at hl 2 rfl) ?_
          refine zw_iald hx hb hK hP 1 0 rfl rfl (by omega) (by omega) ⟨by omega, by omega⟩ dX5_between_46 ?_
          refine zw_if_ge (tgt := 54) hx hb dX5_between_47 (by decide) ⟨by omega, by omega⟩ (fun h8 => ?_) (fun h8 => ?_)
          · skip
            refine zw_iconst hx hb dX5_between_54 ?_
            refine va_put (D := (dC, dI)) (ci := 5) (v := .int (zi 0)) (ty := .int) (C := RX5) (T := TX5) (N := 12) hx hb hts (by decide +kernel) tyX5 tyX5_ok nmX5 hown hK hP hD hS 0 rfl rfl 0 (by decide) (hts (.fieldLink RX5 35 "CivilDaysModel" "code" "I") (by decide +kernel)) (fun _ h9 => h9) rfl (by decide +kernel) rfl rfl (Nat.le_of_ble_eq_true rfl) dX5_between_55 (fun H locs hP hD hS => ?_)
            have hP : va_P (dC, dI) vwCl [(g0, .inr (5, [.int (zi 0), .ref ps, .int (zi ru), .ref pk, .ref pa, .ref pb, .ref pq, .int (zi we), .int (zi wr), .ref pw, .int (zi ty), .ref pt])), (ps, aI cI 10 sf)] H := hP
            have hD : va_D A [(g0, .inr (5, [.int (zi 0), .ref ps, .int (zi ru), .ref pk, .ref pa, .ref pb, .ref pq, .int (zi we), .int (zi wr), .ref pw, .int (zi ty), .ref pt])), (ps, aI cI 10 sf)] := hD
            refine lv_aload_n hx hb dX5_between_58 rfl (lv_at hl 0 rfl) ?_
            refine va_get (D := (dC, dI)) (ci := 5) (v := .int (zi 0)) (C := RX5) (T := TX5) (N := 12) hx hb hts (by decide +kernel) hown hK hP 0 rfl rfl 0 (by decide) (hts (.fieldLink RX5 35 "CivilDaysModel" "code" "I") (by decide +kernel)) (fun _ h9 => h9) rfl dX5_between_59 ?_
            refine zw_if_le (tgt := 67) hx hb dX5_between_62 (by decide) ⟨by omega, by omega⟩ (fun h9 => ?_) (fun h9 => ?_)
            · skip
              refine lv_aload_n hx hb dX5_between_67 rfl (lv_at hl 0 rfl) ?_
              refine va_get (D := (dC, dI)) (ci := 5) (v := .ref ps) (C := RX5) (T := TX5) (N := 12) hx hb hts (by decide +kernel) hown hK hP 0 rfl rfl 1 (by decide) (hts (.fieldLink RX5 7 "CivilDaysModel" "slots" "[I") (by decide +kernel)) (fun _ h9 => h9) rfl dX5_between_68 ?_
              refine lv_iload_n hx hb dX5_between_71 rfl (lv_at hl 1 rfl) ?_
              refine zw_iald hx hb hK hP 1 0 rfl rfl (by omega) (by omega) ⟨by omega, by omega⟩ dX5_between_72 ?_
              refine zw_top (fun x10 ex10 => ?_)
              refine lv_istore (lv' := [(4, .int (zi x10)), (0, .ref g0), (1, .int (zi sl)), (2, .int (zi ot)), (3, .int (zi un))]) hx hb dX5_between_73 hl (by decide) rfl (fun ls hl => ?_)
              refine lv_aload_n hx hb dX5_between_75 rfl (lv_at hl 1 rfl) ?_
              refine va_get (D := (dC, dI)) (ci := 5) (v := .ref ps) (C := RX5) (T := TX5) (N := 12) hx hb hts (by decide +kernel) hown hK hP 0 rfl rfl 1 (by decide) (hts (.fieldLink RX5 7 "CivilDaysModel" "slots" "[I") (by decide +kernel)) (fun _ h9 => h9) rfl dX5_between_76 ?_
              refine lv_iload_n hx hb dX5_between_79 rfl (lv_at hl 3 rfl) ?_
              refine zw_iald hx hb hK hP 1 0 rfl rfl (by omega) (by omega) ⟨by omega, by omega⟩ dX5_between_80 ?_
              refine zw_top (fun x11 ex11 => ?_)
              refine lv_istore (lv' := [(5, .int (zi x11)), (4, .int (zi x10)), (0, .ref g0), (1, .int (zi sl)), (2, .int (zi ot)), (3, .int (zi un))]) hx hb dX5_between_81 hl (by decide) rfl (fun ls hl => ?_)
              refine lv_iload_n hx hb dX5_between_83 rfl (lv_at hl 5 rfl) ?_
              refine zw_if_ne (tgt := 93) hx hb dX5_between_84 (by decide) ⟨by omega, by omega⟩ (fun h12 => ?_) (fun h12 => ?_)
              · skip
                refine lv_iload_n hx hb dX5_between_93 rfl (lv_at hl 5 rfl) ?_
                refine zw_iconst hx hb dX5_between_94 ?_
                refine zw_icmp_ne (tgt := 102) hx hb dX5_between_95 (by decide) ⟨by omega, by omega⟩ ⟨by omega, by omega⟩ (fun h13 => ?_) (fun h13 => ?_)
                · skip
                  refine zw_bipush hx hb dX5_between_102 (by decide) ?_
                  refine lv_istore (lv' := [(6, .int (zi 12)), (5, .int (zi x11)), (4, .int (zi x10)), (0, .ref g0), (1, .int (zi sl)), (2, .int (zi ot)), (3, .int (zi un))]) hx hb dX5_between_104 hl (by decide) rfl (fun ls hl => ?_)
                  refine lv_iload hx hb dX5_between_106 (lv_at hl 1 rfl) ?_
                  refine lv_iload hx hb dX5_between_108 (lv_at hl 2 rfl) ?_
                  refine zw_icmp_lt (tgt := 125) hx hb dX5_between_110 (by decide) ⟨by omega, by omega⟩ ⟨by omega, by omega⟩ (fun h14 => ?_) (fun h14 => ?_)
                  · skip
                    exact absurd True.intro (by omega)
                  · skip
                    refine lv_iload hx hb dX5_between_113 (lv_at hl 2 rfl) ?_
                    refine lv_iload hx hb dX5_between_115 (lv_at hl 1 rfl) ?_
                    refine lv_iload hx hb dX5_between_117 (lv_at hl 0 rfl) ?_
                    have hh15 := c_X5_wholes_12 l x10 x11 (by omega)
                    refine vp_callSi (va_Run.run (va_runS (As := [.int (zi x10), .int (zi x11), .int (zi 12)]) (rest := []) ⟨hx, hb, hml, hown, hts⟩ hh15 (va_cwS 3 hts gX5_between_X5_wholes rfl rfl rfl (by decide +kernel) ⟨Nat.le_of_ble_eq_true rfl, Nat.le_of_ble_eq_true rfl⟩) ⟨fun a U g mk q => q, fun U hU hW => ⟨rfl, trivial⟩⟩ rfl rfl hl.1 rfl (lv_room (Nat.le_of_ble_eq_true rfl)) dX5_between_119 ⟨Nat.zero_le _, Nat.zero_le _⟩)) (fun r15 (hr15 : r15 = zi (f_X5_wholes_12 x10 x11)) => ?_)
                    subst hr15
                    have hf15 := b_X5_wholes_12 x10 x11 (by omega)
                    refine lv_goto (tgt := 135) hx hb dX5_between_122 (by decide) ?_
                    subst ex10 ex11
                    have hP9 := hP.sub (ws' := [(g0, .inr (5, [.int (zi 0), .ref ps, .int (zi ru), .ref pk, .ref pa, .ref pb, .ref pq, .int (zi we), .int (zi wr), .ref pw, .int (zi ty), .ref pt])), (ps, aI cI 10 sf)]) [0, 1] rfl
                    have hD9 := hD.sub (ws' := [(g0, .inr (5, [.int (zi 0), .ref ps, .int (zi ru), .ref pk, .ref pa, .ref pb, .ref pq, .int (zi we), .int (zi wr), .ref pw, .int (zi ty), .ref pt])), (ps, aI cI 10 sf)]) [0, 1] (by decide) rfl
                    exact W.iret (v := zi (f_X5_wholes_12 (sf sl.toNat) (sf ot.toNat))) hx hb hr (fun t ht hW => ⟨⟨zi (f_X5_wholes_12 (sf sl.toNat) (sf ot.toNat)), (), rfl, rfl, by rw [ht]; exact hP9, va_K.moved hW.alike hK, hD9⟩, hS.F ht⟩) hS.2.2 dX5_between_135
                · skip
                  exact absurd True.intro (by omega)
              · skip
                exact absurd True.intro (by omega)
            · skip
              exact absurd True.intro (by omega)
          · skip
            exact absurd True.intro (by omega)
      · skip
        exact absurd True.intro (by omega)
    · skip
      exact absurd True.intro (by omega)

set_option maxHeartbeats 4000000 in
set_option maxRecDepth 100000 in
theorem c_X5_between_ny (l : Launch)  (dC : Nat → ClassId) (dI : Nat → Nat → Nat) (cI : ClassId) (g0 ps pk pa pb pq pw pt : Nat) (co ru we wr ty : Int) (sf : Nat → Int) (sl ot un : Int) (sz : Nat) (hp0 : 0 ≤ sl ∧ sl ≤ 9) (hp1 : 0 ≤ ot ∧ ot ≤ 9) (hp2 : un = 2) (hp3 : 0 ≤ sf sl.toNat ∧ sf sl.toNat ≤ 3652058) (hp4 : 0 ≤ sf ot.toNat ∧ sf ot.toNat ≤ 3652058) (hp5 : (sf ot.toNat) < (sf sl.toNat)) : Met l yX5_between wsX5_between ({ frames := 7, cells := 0, slots := 0, locals := 158 }) (zPw (dC, dI) [(cI, .int)] sz [.ref g0, .int (zi sl), .int (zi ot), .int (zi un)] [(g0, .inr (5, [.int (zi co), .ref ps, .int (zi ru), .ref pk, .ref pa, .ref pb, .ref pq, .int (zi we), .int (zi wr), .ref pw, .int (zi ty), .ref pt])), (ps, aI cI 10 sf)]) (va_Qi (fun (r : Int32) (_ : Unit) => r = zi (-(f_X5_wholes_12 (sf ot.toNat) (sf sl.toNat)))) (zB (dC, dI) [(cI, .int)] (va_A [(g0, .inr (5, [.int (zi co), .ref ps, .int (zi ru), .ref pk, .ref pa, .ref pb, .ref pq, .int (zi we), .int (zi wr), .ref pw, .int (zi ty), .ref pt])), (ps, aI cI 10 sf)] sz) [(g0, .inr (5, [.int (zi 0), .ref ps, .int (zi ru), .ref pk, .ref pa, .ref pb, .ref pq, .int (zi we), .int (zi wr), .ref pw, .int (zi ty), .ref pt])), (ps, aI cI 10 sf)]) (va_A [(g0, .inr (5, [.int (zi co), .ref ps, .int (zi ru), .ref pk, .ref pa, .ref pb, .ref pq, .int (zi we), .int (zi wr), .ref pw, .int (zi ty), .ref pt])), (ps, aI cI 10 sf)] sz)) 0 0 (va_A [(g0, .inr (5, [.int (zi co), .ref ps, .int (zi ru), .ref pk, .ref pa, .ref pb, .ref pq, .int (zi we), .int (zi wr), .ref pw, .int (zi ty), .ref pt])), (ps, aI cI 10 sf)] sz) := by
  refine Met.ofW (cc := cX5_between) (maxL := 7) (ret := (some .int)) (by decide) rfl ?_
  intro p e s m args below meth c s₁ B hml hv
  obtain ⟨rfl, hsz, hP, hK, hD0⟩ := hv
  have hx := B.exec
  have hb := B.bytes
  have hr := B.returns
  have hts := atoms_spec (ws := wsX5_between) B.pre
  have hown : s.vm.findClass RX5 = some m.cls := findClass_of_methodNamed B.named
  have hlocks := B.notSynchronized
  subst hsz
  have hD := hD0.self (sz := s.heap.size)
  generalize hAe : va_A [(g0, .inr (5, [.int (zi co), .ref ps, .int (zi ru), .ref pk, .ref pa, .ref pb, .ref pq, .int (zi we), .int (zi wr), .ref pw, .int (zi ty), .ref pt])), (ps, aI cI 10 sf)] s.heap.size = A at hD ⊢
  have hA : ∀ q : Nat, s.heap.size ≤ q → A q := fun q h => by rw [← hAe]; exact Or.inr h
  have hS : va_S A s.heap s.heap [] := va_S.rf
  have hP : va_P (dC, dI) vwCl [(g0, .inr (5, [.int (zi co), .ref ps, .int (zi ru), .ref pk, .ref pa, .ref pb, .ref pq, .int (zi we), .int (zi wr), .ref pw, .int (zi ty), .ref pt])), (ps, aI cI 10 sf)] s.heap := hP
  have hl := lv_entry ([.ref g0, .int (zi sl), .int (zi ot), .int (zi un)]) (n := 7) (Nat.le_of_ble_eq_true rfl)
  rw [lg_entry_eq]
  generalize (lg_sl ([.ref g0, .int (zi sl), .int (zi ot), .int (zi un)]) ++ List.replicate (7 - (lg_sl ([.ref g0, .int (zi sl), .int (zi ot), .int (zi un)])).length) Slot.unset).toArray = ls at hl ⊢
  have hl : lv_has ls 7 [(0, .ref g0), (1, .int (zi sl)), (2, .int (zi ot)), (3, .int (zi un))] := hl
  refine lv_aload_n hx hb dX5_between_0 rfl (lv_at hl 0 rfl) ?_
  refine lv_iload_n hx hb dX5_between_1 rfl (lv_at hl 1 rfl) ?_
  have hh1 := c_X5_isSlot l sl (by omega)
  refine vp_callSi (va_Run.run (va_runS (As := [.int (zi sl)]) (rest := [.ref g0]) ⟨hx, hb, hml, hown, hts⟩ hh1 (va_cwS 1 hts gX5_between_X5_isSlot rfl rfl rfl (by decide +kernel) ⟨Nat.le_of_ble_eq_true rfl, Nat.le_of_ble_eq_true rfl⟩) ⟨fun a U g mk q => q, fun U hU hW => ⟨rfl, trivial⟩⟩ rfl rfl hl.1 rfl (lv_room (Nat.le_of_ble_eq_true rfl)) dX5_between_2 ⟨Nat.zero_le _, Nat.zero_le _⟩)) (fun r1 (hr1 : r1 = zi (f_X5_isSlot sl)) => ?_)
  subst hr1
  have hf1 := b_X5_isSlot sl (by omega)
  refine zw_if_eq (tgt := 15) hx hb dX5_between_5 (by decide) ⟨by omega, by omega⟩ (fun h2 => ?_) (fun h2 => ?_)
  · skip
    exact absurd True.intro (by omega)
  · skip
    refine lv_iload_n hx hb dX5_between_8 rfl (lv_at hl 2 rfl) ?_
    have hh3 := c_X5_isSlot l ot (by omega)
    refine vp_callSi (va_Run.run (va_runS (As := [.int (zi ot)]) (rest := [.ref g0]) ⟨hx, hb, hml, hown, hts⟩ hh3 (va_cwS 1 hts gX5_between_X5_isSlot rfl rfl rfl (by decide +kernel) ⟨Nat.le_of_ble_eq_true rfl, Nat.le_of_ble_eq_true rfl⟩) ⟨fun a U g mk q => q, fun U hU hW => ⟨rfl, trivial⟩⟩ rfl rfl hl.1 rfl (lv_room (Nat.le_of_ble_eq_true rfl)) dX5_between_9 ⟨Nat.zero_le _, Nat.zero_le _⟩)) (fun r3 (hr3 : r3 = zi (f_X5_isSlot ot)) => ?_)
    subst hr3
    have hf3 := b_X5_isSlot ot (by omega)
    refine zw_if_ne (tgt := 19) hx hb dX5_between_12 (by decide) ⟨by omega, by omega⟩ (fun h4 => ?_) (fun h4 => ?_)
    · skip
      refine lv_iload_n hx hb dX5_between_19 rfl (lv_at hl 3 rfl) ?_
      refine zw_iconst hx hb dX5_between_20 ?_
      refine zw_iconst hx hb dX5_between_21 ?_
      have hh5 := c_X5_in l un 0 2 (by omega) (by omega) (by omega)
      refine vp_callSi (va_Run.run (va_runS (As := [.int (zi un), .int (zi 0), .int (zi 2)]) (rest := [.ref g0]) ⟨hx, hb, hml, hown, hts⟩ hh5 (va_cwS 3 hts gX5_between_X5_in rfl rfl rfl (by decide +kernel) ⟨Nat.le_of_ble_eq_true rfl, Nat.le_of_ble_eq_true rfl⟩) ⟨fun a U g mk q => q, fun U hU hW => ⟨rfl, trivial⟩⟩ rfl rfl hl.1 rfl (lv_room (Nat.le_of_ble_eq_true rfl)) dX5_between_22 ⟨Nat.zero_le _, Nat.zero_le _⟩)) (fun r5 (hr5 : r5 = zi (f_X5_in un 0 2)) => ?_)
      subst hr5
      have hf5 := b_X5_in un 0 2 (by omega) (by omega) (by omega)
      refine zw_if_ne (tgt := 32) hx hb dX5_between_25 (by decide) ⟨by omega, by omega⟩ (fun h6 => ?_) (fun h6 => ?_)
      · skip
        refine lv_aload_n hx hb dX5_between_32 rfl (lv_at hl 0 rfl) ?_
        refine va_get (D := (dC, dI)) (ci := 5) (v := .ref ps) (C := RX5) (T := TX5) (N := 12) hx hb hts (by decide +kernel) hown hK hP 0 rfl rfl 1 (by decide) (hts (.fieldLink RX5 7 "CivilDaysModel" "slots" "[I") (by decide +kernel)) (fun _ h9 => h9) rfl dX5_between_33 ?_
        refine lv_iload_n hx hb dX5_between_36 rfl (lv_at hl 1 rfl) ?_
        refine zw_iald hx hb hK hP 1 0 rfl rfl (by omega) (by omega) ⟨by omega, by omega⟩ dX5_between_37 ?_
        refine zw_if_lt (tgt := 50) hx hb dX5_between_38 (by decide) ⟨by omega, by omega⟩ (fun h7 => ?_) (fun h7 => ?_)
        · skip
          exact absurd True.intro (by omega)
        · skip
          refine lv_aload_n hx hb dX5_between_41 rfl (lv_at hl 0 rfl) ?_
          refine va_get (D := (dC, dI)) (ci := 5) (v := .ref ps) (C := RX5) (T := TX5) (N := 12) hx hb hts (by decide +kernel) hown hK hP 0 rfl rfl 1 (by decide) (hts (.fieldLink RX5 7 "CivilDaysModel" "slots" "[I") (by decide +kernel)) (fun _ h9 => h9) rfl dX5_between_42 ?_
          refine lv_iload_n hx hb dX5_between_45 rfl (lv_at hl 2 rfl) ?_
          refine zw_iald hx hb hK hP 1 0 rfl rfl (by omega) (by omega) ⟨by omega, by omega⟩ dX5_between_46 ?_
          refine zw_if_ge (tgt := 54) hx hb dX5_between_47 (by decide) ⟨by omega, by omega⟩ (fun h8 => ?_) (fun h8 => ?_)
          · skip
            refine zw_iconst hx hb dX5_between_54 ?_
            refine va_put (D := (dC, dI)) (ci := 5) (v := .int (zi 0)) (ty := .int) (C := RX5) (T := TX5) (N := 12) hx hb hts (by decide +kernel) tyX5 tyX5_ok nmX5 hown hK hP hD hS 0 rfl rfl 0 (by decide) (hts (.fieldLink RX5 35 "CivilDaysModel" "code" "I") (by decide +kernel)) (fun _ h9 => h9) rfl (by decide +kernel) rfl rfl (Nat.le_of_ble_eq_true rfl) dX5_between_55 (fun H locs hP hD hS => ?_)
            have hP : va_P (dC, dI) vwCl [(g0, .inr (5, [.int (zi 0), .ref ps, .int (zi ru), .ref pk, .ref pa, .ref pb, .ref pq, .int (zi we), .int (zi wr), .ref pw, .int (zi ty), .ref pt])), (ps, aI cI 10 sf)] H := hP
            have hD : va_D A [(g0, .inr (5, [.int (zi 0), .ref ps, .int (zi ru), .ref pk, .ref pa, .ref pb, .ref pq, .int (zi we), .int (zi wr), .ref pw, .int (zi ty), .ref pt])), (ps, aI cI 10 sf)] := hD
            refine lv_aload_n hx hb dX5_between_58 rfl (lv_at hl 0 rfl) ?_
            refine va_get (D := (dC, dI)) (ci := 5) (v := .int (zi 0)) (C := RX5) (T := TX5) (N := 12) hx hb hts (by decide +kernel) hown hK hP 0 rfl rfl 0 (by decide) (hts (.fieldLink RX5 35 "CivilDaysModel" "code" "I") (by decide +kernel)) (fun _ h9 => h9) rfl dX5_between_59 ?_
            refine zw_if_le (tgt := 67) hx hb dX5_between_62 (by decide) ⟨by omega, by omega⟩ (fun h9 => ?_) (fun h9 => ?_)
            · skip
              refine lv_aload_n hx hb dX5_between_67 rfl (lv_at hl 0 rfl) ?_
              refine va_get (D := (dC, dI)) (ci := 5) (v := .ref ps) (C := RX5) (T := TX5) (N := 12) hx hb hts (by decide +kernel) hown hK hP 0 rfl rfl 1 (by decide) (hts (.fieldLink RX5 7 "CivilDaysModel" "slots" "[I") (by decide +kernel)) (fun _ h9 => h9) rfl dX5_between_68 ?_
              refine lv_iload_n hx hb dX5_between_71 rfl (lv_at hl 1 rfl) ?_
              refine zw_iald hx hb hK hP 1 0 rfl rfl (by omega) (by omega) ⟨by omega, by omega⟩ dX5_between_72 ?_
              refine zw_top (fun x10 ex10 => ?_)
              refine lv_istore (lv' := [(4, .int (zi x10)), (0, .ref g0), (1, .int (zi sl)), (2, .int (zi ot)), (3, .int (zi un))]) hx hb dX5_between_73 hl (by decide) rfl (fun ls hl => ?_)
              refine lv_aload_n hx hb dX5_between_75 rfl (lv_at hl 1 rfl) ?_
              refine va_get (D := (dC, dI)) (ci := 5) (v := .ref ps) (C := RX5) (T := TX5) (N := 12) hx hb hts (by decide +kernel) hown hK hP 0 rfl rfl 1 (by decide) (hts (.fieldLink RX5 7 "CivilDaysModel" "slots" "[I") (by decide +kernel)) (fun _ h9 => h9) rfl dX5_between_76 ?_
              refine lv_iload_n hx hb dX5_between_79 rfl (lv_at hl 3 rfl) ?_
              refine zw_iald hx hb hK hP 1 0 rfl rfl (by omega) (by omega) ⟨by omega, by omega⟩ dX5_between_80 ?_
              refine zw_top (fun x11 ex11 => ?_)
              refine lv_istore (lv' := [(5, .int (zi x11)), (4, .int (zi x10)), (0, .ref g0), (1, .int (zi sl)), (2, .int (zi ot)), (3, .int (zi un))]) hx hb dX5_between_81 hl (by decide) rfl (fun ls hl => ?_)
              refine lv_iload_n hx hb dX5_between_83 rfl (lv_at hl 5 rfl) ?_
              refine zw_if_ne (tgt := 93) hx hb dX5_between_84 (by decide) ⟨by omega, by omega⟩ (fun h12 => ?_) (fun h12 => ?_)
              · skip
                refine lv_iload_n hx hb dX5_between_93 rfl (lv_at hl 5 rfl) ?_
                refine zw_iconst hx hb dX5_between_94 ?_
                refine zw_icmp_ne (tgt := 102) hx hb dX5_between_95 (by decide) ⟨by omega, by omega⟩ ⟨by omega, by omega⟩ (fun h13 => ?_) (fun h13 => ?_)
                · skip
                  refine zw_bipush hx hb dX5_between_102 (by decide) ?_
                  refine lv_istore (lv' := [(6, .int (zi 12)), (5, .int (zi x11)), (4, .int (zi x10)), (0, .ref g0), (1, .int (zi sl)), (2, .int (zi ot)), (3, .int (zi un))]) hx hb dX5_between_104 hl (by decide) rfl (fun ls hl => ?_)
                  refine lv_iload hx hb dX5_between_106 (lv_at hl 1 rfl) ?_
                  refine lv_iload hx hb dX5_between_108 (lv_at hl 2 rfl) ?_
                  refine zw_icmp_lt (tgt := 125) hx hb dX5_between_110 (by decide) ⟨by omega, by omega⟩ ⟨by omega, by omega⟩ (fun h14 => ?_) (fun h14 => ?_)
                  · skip
                    refine lv_iload hx hb dX5_between_125 (lv_at hl 1 rfl) ?_
                    refine lv_iload hx hb dX5_between_127 (lv_at hl 2 rfl) ?_
                    refine lv_iload hx hb dX5_between_129 (lv_at hl 0 rfl) ?_
                    have hh15 := c_X5_wholes_12 l x11 x10 (by omega)
                    refine vp_callSi (va_Run.run (va_runS (As := [.int (zi x11), .int (zi x10), .int (zi 12)]) (rest := []) ⟨hx, hb, hml, hown, hts⟩ hh15 (va_cwS 3 hts gX5_between_X5_wholes rfl rfl rfl (by decide +kernel) ⟨Nat.le_of_ble_eq_true rfl, Nat.le_of_ble_eq_true rfl⟩) ⟨fun a U g mk q => q, fun U hU hW => ⟨rfl, trivial⟩⟩ rfl rfl hl.1 rfl (lv_room (Nat.le_of_ble_eq_true rfl)) dX5_between_131 ⟨Nat.zero_le _, Nat.zero_le _⟩)) (fun r15 (hr15 : r15 = zi (f_X5_wholes_12 x11 x10)) => ?_)
                    subst hr15
                    have hf15 := b_X5_wholes_12 x11 x10 (by omega)
                    refine zw_ineg hx hb dX5_between_134 ?_
                    subst ex10 ex11
                    have hP9 := hP.sub (ws' := [(g0, .inr (5, [.int (zi 0), .ref ps, .int (zi ru), .ref pk, .ref pa, .ref pb, .ref pq, .int (zi we), .int (zi wr), .ref pw, .int (zi ty), .ref pt])), (ps, aI cI 10 sf)]) [0, 1] rfl
                    have hD9 := hD.sub (ws' := [(g0, .inr (5, [.int (zi 0), .ref ps, .int (zi ru), .ref pk, .ref pa, .ref pb, .ref pq, .int (zi we), .int (zi wr), .ref pw, .int (zi ty), .ref pt])), (ps, aI cI 10 sf)]) [0, 1] (by decide) rfl
                    exact W.iret (v := zi (-(f_X5_wholes_12 (sf ot.toNat) (sf sl.toNat)))) hx hb hr (fun t ht hW => ⟨⟨zi (-(f_X5_wholes_12 (sf ot.toNat) (sf sl.toNat))), (), rfl, rfl, by rw [ht]; exact hP9, va_K.moved hW.alike hK, hD9⟩, hS.F ht⟩) hS.2.2 dX5_between_135
                  · skip
                    exact absurd True.intro (by omega)
                · skip
                  exact absurd True.intro (by omega)
              · skip
                exact absurd True.intro (by omega)
            · skip
              exact absurd True.intro (by omega)
          · skip
            exact absurd True.intro (by omega)
      · skip
        exact absurd True.intro (by omega)
    · skip
      exact absurd True.intro (by omega)
