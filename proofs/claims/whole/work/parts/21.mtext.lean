set_option maxHeartbeats 4000000 in
set_option maxRecDepth 100000 in
theorem c_X5_weekend_1 (l : Launch)  (dC : Nat → ClassId) (dI : Nat → Nat → Nat) (cI : ClassId) (g0 : Nat) (ps : Nat) (pk : Nat) (pa : Nat) (pb : Nat) (pq : Nat) (pw : Nat) (pt : Nat) (co : Int) (ru : Int) (we : Int) (wr : Int) (ty : Int) (se : Int) (sz : Nat) (hp0 : -2147483648 ≤ se ∧ se ≤ 2147483647) (hp1 : se < 0 ∨ 126 < se) : Met l yX5_weekend wsX5_weekend ({ frames := 1, cells := 0, slots := 0, locals := 22 }) (zPw (dC, dI) [(cI, .int)] sz [.ref g0, .int (zi se)] [(g0, .inr (5, [.int (zi co), .ref ps, .int (zi ru), .ref pk, .ref pa, .ref pb, .ref pq, .int (zi we), .int (zi wr), .ref pw, .int (zi ty), .ref pt]))]) (va_Qi (fun (r : Int32) (_ : Unit) => r = zi 0) (zB (dC, dI) [(cI, .int)] (va_A [(g0, .inr (5, [.int (zi co), .ref ps, .int (zi ru), .ref pk, .ref pa, .ref pb, .ref pq, .int (zi we), .int (zi wr), .ref pw, .int (zi ty), .ref pt]))] sz) [(g0, .inr (5, [.int (zi 1), .ref ps, .int (zi ru), .ref pk, .ref pa, .ref pb, .ref pq, .int (zi we), .int (zi wr), .ref pw, .int (zi ty), .ref pt]))]) (va_A [(g0, .inr (5, [.int (zi co), .ref ps, .int (zi ru), .ref pk, .ref pa, .ref pb, .ref pq, .int (zi we), .int (zi wr), .ref pw, .int (zi ty), .ref pt]))] sz)) 0 0 (va_A [(g0, .inr (5, [.int (zi co), .ref ps, .int (zi ru), .ref pk, .ref pa, .ref pb, .ref pq, .int (zi we), .int (zi wr), .ref pw, .int (zi ty), .ref pt]))] sz) := by
  refine Met.ofW (cc := cX5_weekend) (maxL := 3) (ret := (some .int)) (by decide) rfl ?_
  intro p e s m args below meth c s₁ B hml hv
  obtain ⟨rfl, hsz, hP, hK, hD0⟩ := hv
  have hx := B.exec
  have hb := B.bytes
  have hr := B.returns
  have hts := atoms_spec (ws := wsX5_weekend) B.pre
  have hown : s.vm.findClass RX5 = some m.cls := findClass_of_methodNamed B.named
  have hlocks := B.notSynchronized
  subst hsz
  have hD := hD0.self (sz := s.heap.size)
  generalize hAe : va_A [(g0, .inr (5, [.int (zi co), .ref ps, .int (zi ru), .ref pk, .ref pa, .ref pb, .ref pq, .int (zi we), .int (zi wr), .ref pw, .int (zi ty), .ref pt]))] s.heap.size = A at hD ⊢
  have hA : ∀ q : Nat, s.heap.size ≤ q → A q := fun q h => by rw [← hAe]; exact Or.inr h
  have hS : va_S A s.heap s.heap [] := va_S.rf
  have hP : va_P (dC, dI) vwCl [(g0, .inr (5, [.int (zi co), .ref ps, .int (zi ru), .ref pk, .ref pa, .ref pb, .ref pq, .int (zi we), .int (zi wr), .ref pw, .int (zi ty), .ref pt]))] s.heap := hP
  have hl := lv_entry ([.ref g0, .int (zi se)]) (n := 3) (Nat.le_of_ble_eq_true rfl)
  rw [lg_entry_eq]
  generalize (lg_sl ([.ref g0, .int (zi se)]) ++ List.replicate (3 - (lg_sl ([.ref g0, .int (zi se)])).length) Slot.unset).toArray = ls at hl ⊢
  have hl : lv_has ls 3 [(0, .ref g0), (1, .int (zi se))] := hl
  refine lv_aload_n hx hb dX5_weekend_0 rfl (lv_at hl 0 rfl) ?_
  refine lv_iload_n hx hb dX5_weekend_1 rfl (lv_at hl 1 rfl) ?_
  refine zw_iconst hx hb dX5_weekend_2 ?_
  refine zw_bipush hx hb dX5_weekend_3 (by decide) ?_
  have hh1 := c_X5_in l se 0 126 (by omega) (by omega) (by omega)
  refine vp_callSi (va_Run.run (va_runS (As := [.int (zi se), .int (zi 0), .int (zi 126)]) (rest := [.ref g0]) ⟨hx, hb, hml, hown, hts⟩ hh1 (va_cwS 3 hts gX5_weekend_X5_in rfl rfl rfl (by decide +kernel) ⟨Nat.le_of_ble_eq_true rfl, Nat.le_of_ble_eq_true rfl⟩) ⟨fun a U g mk q => q, fun U hU hW => ⟨rfl, trivial⟩⟩ rfl rfl hl.1 rfl (lv_room (Nat.le_of_ble_eq_true rfl)) dX5_weekend_5 ⟨Nat.zero_le _, Nat.zero_le _⟩)) (fun r1 (hr1 : r1 = zi (f_X5_in se 0 126)) => ?_)
  subst hr1
  have hf1 := b_X5_in se 0 126 (by omega) (by omega) (by omega)
  refine zw_if_eq (tgt := 15) hx hb dX5_weekend_8 (by decide) ⟨by omega, by omega⟩ (fun h2 => ?_) (fun h2 => ?_)
  · skip
    refine zw_iconst hx hb dX5_weekend_15 ?_
    refine va_put (D := (dC, dI)) (ci := 5) (v := .int (zi 1)) (ty := .int) (C := RX5) (T := TX5) (N := 12) hx hb hts (by decide +kernel) tyX5 tyX5_ok nmX5 hown hK hP hD hS 0 rfl rfl 0 (by decide) (hts (.fieldLink RX5 35 "CivilDaysModel" "code" "I") (by decide +kernel)) (fun _ h9 => h9) rfl (by decide +kernel) rfl rfl (Nat.le_of_ble_eq_true rfl) dX5_weekend_16 (fun H locs hP hD hS => ?_)
    have hP : va_P (dC, dI) vwCl [(g0, .inr (5, [.int (zi 1), .ref ps, .int (zi ru), .ref pk, .ref pa, .ref pb, .ref pq, .int (zi we), .int (zi wr), .ref pw, .int (zi ty), .ref pt]))] H := hP
    have hD : va_D A [(g0, .inr (5, [.int (zi 1), .ref ps, .int (zi ru), .ref pk, .ref pa, .ref pb, .ref pq, .int (zi we), .int (zi wr), .ref pw, .int (zi ty), .ref pt]))] := hD
    refine lv_aload_n hx hb dX5_weekend_19 rfl (lv_at hl 0 rfl) ?_
    refine va_get (D := (dC, dI)) (ci := 5) (v := .int (zi 1)) (C := RX5) (T := TX5) (N := 12) hx hb hts (by decide +kernel) hown hK hP 0 rfl rfl 0 (by decide) (hts (.fieldLink RX5 35 "CivilDaysModel" "code" "I") (by decide +kernel)) (fun _ h9 => h9) rfl dX5_weekend_20 ?_
    refine zw_if_le (tgt := 28) hx hb dX5_weekend_23 (by decide) ⟨by omega, by omega⟩ (fun h3 => ?_) (fun h3 => ?_)
    · skip
      exact absurd True.intro (by omega)
    · skip
      refine zw_iconst hx hb dX5_weekend_26 ?_
      have hP9 := hP.sub (ws' := [(g0, .inr (5, [.int (zi 1), .ref ps, .int (zi ru), .ref pk, .ref pa, .ref pb, .ref pq, .int (zi we), .int (zi wr), .ref pw, .int (zi ty), .ref pt]))]) [0] rfl
      have hD9 := hD.sub (ws' := [(g0, .inr (5, [.int (zi 1), .ref ps, .int (zi ru), .ref pk, .ref pa, .ref pb, .ref pq, .int (zi we), .int (zi wr), .ref pw, .int (zi ty), .ref pt]))]) [0] (by decide) rfl
      exact W.iret (v := zi 0) hx hb hr (fun t ht hW => ⟨⟨zi 0, (), rfl, rfl, by rw [ht]; exact hP9, va_K.moved hW.alike hK, hD9⟩, hS.F ht⟩) hS.2.2 dX5_weekend_27
  · skip
    exact absurd True.intro (by omega)

set_option maxHeartbeats 4000000 in
set_option maxRecDepth 100000 in
theorem c_X5_weekend (l : Launch)  (dC : Nat → ClassId) (dI : Nat → Nat → Nat) (cI : ClassId) (g0 : Nat) (ps : Nat) (pk : Nat) (pa : Nat) (pb : Nat) (pq : Nat) (pw : Nat) (pt : Nat) (co : Int) (ru : Int) (we : Int) (wr : Int) (ty : Int) (se : Int) (sz : Nat) (hp0 : 0 ≤ se ∧ se ≤ 126) : Met l yX5_weekend wsX5_weekend ({ frames := 1, cells := 0, slots := 0, locals := 22 }) (zPw (dC, dI) [(cI, .int)] sz [.ref g0, .int (zi se)] [(g0, .inr (5, [.int (zi co), .ref ps, .int (zi ru), .ref pk, .ref pa, .ref pb, .ref pq, .int (zi we), .int (zi wr), .ref pw, .int (zi ty), .ref pt]))]) (va_Qi (fun (r : Int32) (_ : Unit) => r = zi we) (zB (dC, dI) [(cI, .int)] (va_A [(g0, .inr (5, [.int (zi co), .ref ps, .int (zi ru), .ref pk, .ref pa, .ref pb, .ref pq, .int (zi we), .int (zi wr), .ref pw, .int (zi ty), .ref pt]))] sz) [(g0, .inr (5, [.int (zi 0), .ref ps, .int (zi ru), .ref pk, .ref pa, .ref pb, .ref pq, .int (zi se), .int (zi wr), .ref pw, .int (zi ty), .ref pt]))]) (va_A [(g0, .inr (5, [.int (zi co), .ref ps, .int (zi ru), .ref pk, .ref pa, .ref pb, .ref pq, .int (zi we), .int (zi wr), .ref pw, .int (zi ty), .ref pt]))] sz)) 0 0 (va_A [(g0, .inr (5, [.int (zi co), .ref ps, .int (zi ru), .ref pk, .ref pa, .ref pb, .ref pq, .int (zi we), .int (zi wr), .ref pw, .int (zi ty), .ref pt]))] sz) := by
  refine Met.ofW (cc := cX5_weekend) (maxL := 3) (ret := (some .int)) (by decide) rfl ?_
  intro p e s m args below meth c s₁ B hml hv
  obtain ⟨rfl, hsz, hP, hK, hD0⟩ := hv
  have hx := B.exec
  have hb := B.bytes
  have hr := B.returns
  have hts := atoms_spec (ws := wsX5_weekend) B.pre
  have hown : s.vm.findClass RX5 = some m.cls := findClass_of_methodNamed B.named
  have hlocks := B.notSynchronized
  subst hsz
  have hD := hD0.self (sz := s.heap.size)
  generalize hAe : va_A [(g0, .inr (5, [.int (zi co), .ref ps, .int (zi ru), .ref pk, .ref pa, .ref pb, .ref pq, .int (zi we), .int (zi wr), .ref pw, .int (zi ty), .ref pt]))] s.heap.size = A at hD ⊢
  have hA : ∀ q : Nat, s.heap.size ≤ q → A q := fun q h => by rw [← hAe]; exact Or.inr h
  have hS : va_S A s.heap s.heap [] := va_S.rf
  have hP : va_P (dC, dI) vwCl [(g0, .inr (5, [.int (zi co), .ref ps, .int (zi ru), .ref pk, .ref pa, .ref pb, .ref pq, .int (zi we), .int (zi wr), .ref pw, .int (zi ty), .ref pt]))] s.heap := hP
  have hl := lv_entry ([.ref g0, .int (zi se)]) (n := 3) (Nat.le_of_ble_eq_true rfl)
  rw [lg_entry_eq]
  generalize (lg_sl ([.ref g0, .int (zi se)]) ++ List.replicate (3 - (lg_sl ([.ref g0, .int (zi se)])).length) Slot.unset).toArray = ls at hl ⊢
  have hl : lv_has ls 3 [(0, .ref g0), (1, .int (zi se))] := hl
  refine lv_aload_n hx hb dX5_weekend_0 rfl (lv_at hl 0 rfl) ?_
  refine lv_iload_n hx hb dX5_weekend_1 rfl (lv_at hl 1 rfl) ?_
  refine zw_iconst hx hb dX5_weekend_2 ?_
  refine zw_bipush hx hb dX5_weekend_3 (by decide) ?_
  have hh1 := c_X5_in l se 0 126 (by omega) (by omega) (by omega)
  refine vp_callSi (va_Run.run (va_runS (As := [.int (zi se), .int (zi 0), .int (zi 126)]) (rest := [.ref g0]) ⟨hx, hb, hml, hown, hts⟩ hh1 (va_cwS 3 hts gX5_weekend_X5_in rfl rfl rfl (by decide +kernel) ⟨Nat.le_of_ble_eq_true rfl, Nat.le_of_ble_eq_true rfl⟩) ⟨fun a U g mk q => q, fun U hU hW => ⟨rfl, trivial⟩⟩ rfl rfl hl.1 rfl (lv_room (Nat.le_of_ble_eq_true rfl)) dX5_weekend_5 ⟨Nat.zero_le _, Nat.zero_le _⟩)) (fun r1 (hr1 : r1 = zi (f_X5_in se 0 126)) => ?_)
  subst hr1
  have hf1 := b_X5_in se 0 126 (by omega) (by omega) (by omega)
  refine zw_if_eq (tgt := 15) hx hb dX5_weekend_8 (by decide) ⟨by omega, by omega⟩ (fun h2 => ?_) (fun h2 => ?_)
  · skip
    exact absurd True.intro (by omega)
  · skip
    refine zw_iconst hx hb dX5_weekend_11 ?_
    refine lv_goto (tgt := 16) hx hb dX5_weekend_12 (by decide) ?_
    refine va_put (D := (dC, dI)) (ci := 5) (v := .int (zi 0)) (ty := .int) (C := RX5) (T := TX5) (N := 12) hx hb hts (by decide +kernel) tyX5 tyX5_ok nmX5 hown hK hP hD hS 0 rfl rfl 0 (by decide) (hts (.fieldLink RX5 35 "CivilDaysModel" "code" "I") (by decide +kernel)) (fun _ h9 => h9) rfl (by decide +kernel) rfl rfl (Nat.le_of_ble_eq_true rfl) dX5_weekend_16 (fun H locs hP hD hS => ?_)
    have hP : va_P (dC, dI) vwCl [(g0, .inr (5, [.int (zi 0), .ref ps, .int (zi ru), .ref pk, .ref pa, .ref pb, .ref pq, .int (zi we), .int (zi wr), .ref pw, .int (zi ty), .ref pt]))] H := hP
    have hD : va_D A [(g0, .inr (5, [.int (zi 0), .ref ps, .int (zi ru), .ref pk, .ref pa, .ref pb, .ref pq, .int (zi we), .int (zi wr), .ref pw, .int (zi ty), .ref pt]))] := hD
    refine lv_aload_n hx hb dX5_weekend_19 rfl (lv_at hl 0 rfl) ?_
    refine va_get (D := (dC, dI)) (ci := 5) (v := .int (zi 0)) (C := RX5) (T := TX5) (N := 12) hx hb hts (by decide +kernel) hown hK hP 0 rfl rfl 0 (by decide) (hts (.fieldLink RX5 35 "CivilDaysModel" "code" "I") (by decide +kernel)) (fun _ h9 => h9) rfl dX5_weekend_20 ?_
    refine zw_if_le (tgt := 28) hx hb dX5_weekend_23 (by decide) ⟨by omega, by omega⟩ (fun h3 => ?_) (fun h3 => ?_)
    · skip
      refine lv_aload_n hx hb dX5_weekend_28 rfl (lv_at hl 0 rfl) ?_
      refine va_get (D := (dC, dI)) (ci := 5) (v := .int (zi we)) (C := RX5) (T := TX5) (N := 12) hx hb hts (by decide +kernel) hown hK hP 0 rfl rfl 7 (by decide) (hts (.fieldLink RX5 25 "CivilDaysModel" "weekend" "I") (by decide +kernel)) (fun _ h9 => h9) rfl dX5_weekend_29 ?_
      refine lv_istore_n (lv' := [(2, .int (zi we)), (0, .ref g0), (1, .int (zi se))]) hx hb dX5_weekend_32 rfl hl (by decide) rfl (fun ls hl => ?_)
      refine lv_aload_n hx hb dX5_weekend_33 rfl (lv_at hl 1 rfl) ?_
      refine lv_iload_n hx hb dX5_weekend_34 rfl (lv_at hl 2 rfl) ?_
      refine va_put (D := (dC, dI)) (ci := 5) (v := .int (zi se)) (ty := .int) (C := RX5) (T := TX5) (N := 12) hx hb hts (by decide +kernel) tyX5 tyX5_ok nmX5 hown hK hP hD hS 0 rfl rfl 7 (by decide) (hts (.fieldLink RX5 25 "CivilDaysModel" "weekend" "I") (by decide +kernel)) (fun _ h9 => h9) rfl (by decide +kernel) rfl rfl (Nat.le_of_ble_eq_true rfl) dX5_weekend_35 (fun H locs hP hD hS => ?_)
      have hP : va_P (dC, dI) vwCl [(g0, .inr (5, [.int (zi 0), .ref ps, .int (zi ru), .ref pk, .ref pa, .ref pb, .ref pq, .int (zi se), .int (zi wr), .ref pw, .int (zi ty), .ref pt]))] H := hP
      have hD : va_D A [(g0, .inr (5, [.int (zi 0), .ref ps, .int (zi ru), .ref pk, .ref pa, .ref pb, .ref pq, .int (zi se), .int (zi wr), .ref pw, .int (zi ty), .ref pt]))] := hD
      refine lv_iload_n hx hb dX5_weekend_38 rfl (lv_at hl 0 rfl) ?_
      have hP9 := hP.sub (ws' := [(g0, .inr (5, [.int (zi 0), .ref ps, .int (zi ru), .ref pk, .ref pa, .ref pb, .ref pq, .int (zi se), .int (zi wr), .ref pw, .int (zi ty), .ref pt]))]) [0] rfl
      have hD9 := hD.sub (ws' := [(g0, .inr (5, [.int (zi 0), .ref ps, .int (zi ru), .ref pk, .ref pa, .ref pb, .ref pq, .int (zi se), .int (zi wr), .ref pw, .int (zi ty), .ref pt]))]) [0] (by decide) rfl
      exact W.iret (v := zi we) hx hb hr (fun t ht hW => ⟨⟨zi we, (), rfl, rfl, by rw [ht]; exact hP9, va_K.moved hW.alike hK, hD9⟩, hS.F ht⟩) hS.2.2 dX5_weekend_39
    · skip
      exact absurd True.intro (by omega)

set_option maxHeartbeats 4000000 in
set_option maxRecDepth 100000 in
theorem c_X5_charAt_1 (l : Launch)  (dC : Nat → ClassId) (dI : Nat → Nat → Nat) (cI : ClassId) (g0 : Nat) (ps : Nat) (pk : Nat) (pa : Nat) (pb : Nat) (pq : Nat) (pw : Nat) (pt : Nat) (co : Int) (ru : Int) (we : Int) (wr : Int) (ty : Int) (wf : Nat → Int) (ix : Int) (sz : Nat) (hp0 : -2147483648 ≤ ix ∧ ix ≤ 2147483647) (hp1 : 0 ≤ wr ∧ wr ≤ 12) (hp2 : ix < 0 ∨ wr ≤ ix) : Met l yX5_charAt wsX5_charAt ({ frames := 1, cells := 0, slots := 0, locals := 22 }) (zPw (dC, dI) [(cI, .int)] sz [.ref g0, .int (zi ix)] [(g0, .inr (5, [.int (zi co), .ref ps, .int (zi ru), .ref pk, .ref pa, .ref pb, .ref pq, .int (zi we), .int (zi wr), .ref pw, .int (zi ty), .ref pt])), (pw, aI cI 12 wf)]) (va_Qi (fun (r : Int32) (_ : Unit) => r = zi 0) (zB (dC, dI) [(cI, .int)] (va_A [(g0, .inr (5, [.int (zi co), .ref ps, .int (zi ru), .ref pk, .ref pa, .ref pb, .ref pq, .int (zi we), .int (zi wr), .ref pw, .int (zi ty), .ref pt])), (pw, aI cI 12 wf)] sz) [(g0, .inr (5, [.int (zi 1), .ref ps, .int (zi ru), .ref pk, .ref pa, .ref pb, .ref pq, .int (zi we), .int (zi wr), .ref pw, .int (zi ty), .ref pt])), (pw, aI cI 12 wf)]) (va_A [(g0, .inr (5, [.int (zi co), .ref ps, .int (zi ru), .ref pk, .ref pa, .ref pb, .ref pq, .int (zi we), .int (zi wr), .ref pw, .int (zi ty), .ref pt])), (pw, aI cI 12 wf)] sz)) 0 0 (va_A [(g0, .inr (5, [.int (zi co), .ref ps, .int (zi ru), .ref pk, .ref pa, .ref pb, .ref pq, .int (zi we), .int (zi wr), .ref pw, .int (zi ty), .ref pt])), (pw, aI cI 12 wf)] sz) := by
  refine Met.ofW (cc := cX5_charAt) (maxL := 2) (ret := (some .int)) (by decide) rfl ?_
  intro p e s m args below meth c s₁ B hml hv
  obtain ⟨rfl, hsz, hP, hK, hD0⟩ := hv
  have hx := B.exec
  have hb := B.bytes
  have hr := B.returns
  have hts := atoms_spec (ws := wsX5_charAt) B.pre
  have hown : s.vm.findClass RX5 = some m.cls := findClass_of_methodNamed B.named
  have hlocks := B.notSynchronized
  subst hsz
  have hD := hD0.self (sz := s.heap.size)
  generalize hAe : va_A [(g0, .inr (5, [.int (zi co), .ref ps, .int (zi ru), .ref pk, .ref pa, .ref pb, .ref pq, .int (zi we), .int (zi wr), .ref pw, .int (zi ty), .ref pt])), (pw, aI cI 12 wf)] s.heap.size = A at hD ⊢
  have hA : ∀ q : Nat, s.heap.size ≤ q → A q := fun q h => by rw [← hAe]; exact Or.inr h
  have hS : va_S A s.heap s.heap [] := va_S.rf
  have hP : va_P (dC, dI) vwCl [(g0, .inr (5, [.int (zi co), .ref ps, .int (zi ru), .ref pk, .ref pa, .ref pb, .ref pq, .int (zi we), .int (zi wr), .ref pw, .int (zi ty), .ref pt])), (pw, aI cI 12 wf)] s.heap := hP
  have hl := lv_entry ([.ref g0, .int (zi ix)]) (n := 2) (Nat.le_of_ble_eq_true rfl)
  rw [lg_entry_eq]
  generalize (lg_sl ([.ref g0, .int (zi ix)]) ++ List.replicate (2 - (lg_sl ([.ref g0, .int (zi ix)])).length) Slot.unset).toArray = ls at hl ⊢
  have hl : lv_has ls 2 [(0, .ref g0), (1, .int (zi ix))] := hl
  refine lv_aload_n hx hb dX5_charAt_0 rfl (lv_at hl 0 rfl) ?_
  refine lv_iload_n hx hb dX5_charAt_1 rfl (lv_at hl 1 rfl) ?_
  refine zw_iconst hx hb dX5_charAt_2 ?_
  refine lv_aload_n hx hb dX5_charAt_3 rfl (lv_at hl 0 rfl) ?_
  refine va_get (D := (dC, dI)) (ci := 5) (v := .int (zi wr)) (C := RX5) (T := TX5) (N := 12) hx hb hts (by decide +kernel) hown hK hP 0 rfl rfl 8 (by decide) (hts (.fieldLink RX5 134 "CivilDaysModel" "written" "I") (by decide +kernel)) (fun _ h9 => h9) rfl dX5_charAt_4 ?_
  refine zw_iconst hx hb dX5_charAt_7 ?_
  refine zw_isub hx hb dX5_charAt_8 ?_
  have hh1 := c_X5_in l ix 0 (wr - 1) (by omega) (by omega) (by omega)
  refine vp_callSi (va_Run.run (va_runS (As := [.int (zi ix), .int (zi 0), .int (zi (wr - 1))]) (rest := [.ref g0]) ⟨hx, hb, hml, hown, hts⟩ hh1 (va_cwS 3 hts gX5_charAt_X5_in rfl rfl rfl (by decide +kernel) ⟨Nat.le_of_ble_eq_true rfl, Nat.le_of_ble_eq_true rfl⟩) ⟨fun a U g mk q => q, fun U hU hW => ⟨rfl, trivial⟩⟩ rfl rfl hl.1 rfl (lv_room (Nat.le_of_ble_eq_true rfl)) dX5_charAt_9 ⟨Nat.zero_le _, Nat.zero_le _⟩)) (fun r1 (hr1 : r1 = zi (f_X5_in ix 0 (wr - 1))) => ?_)
  subst hr1
  have hf1 := b_X5_in ix 0 (wr - 1) (by omega) (by omega) (by omega)
  refine zw_if_eq (tgt := 19) hx hb dX5_charAt_12 (by decide) ⟨by omega, by omega⟩ (fun h2 => ?_) (fun h2 => ?_)
  · skip
    refine zw_iconst hx hb dX5_charAt_19 ?_
    refine va_put (D := (dC, dI)) (ci := 5) (v := .int (zi 1)) (ty := .int) (C := RX5) (T := TX5) (N := 12) hx hb hts (by decide +kernel) tyX5 tyX5_ok nmX5 hown hK hP hD hS 0 rfl rfl 0 (by decide) (hts (.fieldLink RX5 35 "CivilDaysModel" "code" "I") (by decide +kernel)) (fun _ h9 => h9) rfl (by decide +kernel) rfl rfl (Nat.le_of_ble_eq_true rfl) dX5_charAt_20 (fun H locs hP hD hS => ?_)
    have hP : va_P (dC, dI) vwCl [(g0, .inr (5, [.int (zi 1), .ref ps, .int (zi ru), .ref pk, .ref pa, .ref pb, .ref pq, .int (zi we), .int (zi wr), .ref pw, .int (zi ty), .ref pt])), (pw, aI cI 12 wf)] H := hP
    have hD : va_D A [(g0, .inr (5, [.int (zi 1), .ref ps, .int (zi ru), .ref pk, .ref pa, .ref pb, .ref pq, .int (zi we), .int (zi wr), .ref pw, .int (zi ty), .ref pt])), (pw, aI cI 12 wf)] := hD
    refine lv_aload_n hx hb dX5_charAt_23 rfl (lv_at hl 0 rfl) ?_
    refine va_get (D := (dC, dI)) (ci := 5) (v := .int (zi 1)) (C := RX5) (T := TX5) (N := 12) hx hb hts (by decide +kernel) hown hK hP 0 rfl rfl 0 (by decide) (hts (.fieldLink RX5 35 "CivilDaysModel" "code" "I") (by decide +kernel)) (fun _ h9 => h9) rfl dX5_charAt_24 ?_
    refine zw_if_le (tgt := 34) hx hb dX5_charAt_27 (by decide) ⟨by omega, by omega⟩ (fun h3 => ?_) (fun h3 => ?_)
    · skip
      exact absurd True.intro (by omega)
    · skip
      refine zw_iconst hx hb dX5_charAt_30 ?_
      refine lv_goto (tgt := 40) hx hb dX5_charAt_31 (by decide) ?_
      have hP9 := hP.sub (ws' := [(g0, .inr (5, [.int (zi 1), .ref ps, .int (zi ru), .ref pk, .ref pa, .ref pb, .ref pq, .int (zi we), .int (zi wr), .ref pw, .int (zi ty), .ref pt])), (pw, aI cI 12 wf)]) [0, 1] rfl
      have hD9 := hD.sub (ws' := [(g0, .inr (5, [.int (zi 1), .ref ps, .int (zi ru), .ref pk, .ref pa, .ref pb, .ref pq, .int (zi we), .int (zi wr), .ref pw, .int (zi ty), .ref pt])), (pw, aI cI 12 wf)]) [0, 1] (by decide) rfl
      exact W.iret (v := zi 0) hx hb hr (fun t ht hW => ⟨⟨zi 0, (), rfl, rfl, by rw [ht]; exact hP9, va_K.moved hW.alike hK, hD9⟩, hS.F ht⟩) hS.2.2 dX5_charAt_40
  · skip
    exact absurd True.intro (by omega)

set_option maxHeartbeats 4000000 in
set_option maxRecDepth 100000 in
theorem c_X5_charAt (l : Launch)  (dC : Nat → ClassId) (dI : Nat → Nat → Nat) (cI : ClassId) (g0 : Nat) (ps : Nat) (pk : Nat) (pa : Nat) (pb : Nat) (pq : Nat) (pw : Nat) (pt : Nat) (co : Int) (ru : Int) (we : Int) (wr : Int) (ty : Int) (wf : Nat → Int) (ix : Int) (sz : Nat) (hp0 : 0 ≤ ix ∧ ix < wr ∧ wr ≤ 12) : Met l yX5_charAt wsX5_charAt ({ frames := 1, cells := 0, slots := 0, locals := 22 }) (zPw (dC, dI) [(cI, .int)] sz [.ref g0, .int (zi ix)] [(g0, .inr (5, [.int (zi co), .ref ps, .int (zi ru), .ref pk, .ref pa, .ref pb, .ref pq, .int (zi we), .int (zi wr), .ref pw, .int (zi ty), .ref pt])), (pw, aI cI 12 wf)]) (va_Qi (fun (r : Int32) (_ : Unit) => r = zi (wf ix.toNat)) (zB (dC, dI) [(cI, .int)] (va_A [(g0, .inr (5, [.int (zi co), .ref ps, .int (zi ru), .ref pk, .ref pa, .ref pb, .ref pq, .int (zi we), .int (zi wr), .ref pw, .int (zi ty), .ref pt])), (pw, aI cI 12 wf)] sz) [(g0, .inr (5, [.int (zi 0), .ref ps, .int (zi ru), .ref pk, .ref pa, .ref pb, .ref pq, .int (zi we), .int (zi wr), .ref pw, .int (zi ty), .ref pt])), (pw, aI cI 12 wf)]) (va_A [(g0, .inr (5, [.int (zi co), .ref ps, .int (zi ru), .ref pk, .ref pa, .ref pb, .ref pq, .int (zi we), .int (zi wr), .ref pw, .int (zi ty), .ref pt])), (pw, aI cI 12 wf)] sz)) 0 0 (va_A [(g0, .inr (5, [.int (zi co), .ref ps, .int (zi ru), .ref pk, .ref pa, .ref pb, .ref pq, .int (zi we), .int (zi wr), .ref pw, .int (zi ty), .ref pt])), (pw, aI cI 12 wf)] sz) := by
  refine Met.ofW (cc := cX5_charAt) (maxL := 2) (ret := (some .int)) (by decide) rfl ?_
  intro p e s m args below meth c s₁ B hml hv
  obtain ⟨rfl, hsz, hP, hK, hD0⟩ := hv
  have hx := B.exec
  have hb := B.bytes
  have hr := B.returns
  have hts := atoms_spec (ws := wsX5_charAt) B.pre
  have hown : s.vm.findClass RX5 = some m.cls := findClass_of_methodNamed B.named
  have hlocks := B.notSynchronized
  subst hsz
  have hD := hD0.self (sz := s.heap.size)
  generalize hAe : va_A [(g0, .inr (5, [.int (zi co), .ref ps, .int (zi ru), .ref pk, .ref pa, .ref pb, .ref pq, .int (zi we), .int (zi wr), .ref pw, .int (zi ty), .ref pt])), (pw, aI cI 12 wf)] s.heap.size = A at hD ⊢
  have hA : ∀ q : Nat, s.heap.size ≤ q → A q := fun q h => by rw [← hAe]; exact Or.inr h
  have hS : va_S A s.heap s.heap [] := va_S.rf
  have hP : va_P (dC, dI) vwCl [(g0, .inr (5, [.int (zi co), .ref ps, .int (zi ru), .ref pk, .ref pa, .ref pb, .ref pq, .int (zi we), .int (zi wr), .ref pw, .int (zi ty), .ref pt])), (pw, aI cI 12 wf)] s.heap := hP
  have hl := lv_entry ([.ref g0, .int (zi ix)]) (n := 2) (Nat.le_of_ble_eq_true rfl)
  rw [lg_entry_eq]
  generalize (lg_sl ([.ref g0, .int (zi ix)]) ++ List.replicate (2 - (lg_sl ([.ref g0, .int (zi ix)])).length) Slot.unset).toArray = ls at hl ⊢
  have hl : lv_has ls 2 [(0, .ref g0), (1, .int (zi ix))] := hl
  refine lv_aload_n hx hb dX5_charAt_0 rfl (lv_at hl 0 rfl) ?_
  refine lv_iload_n hx hb dX5_charAt_1 rfl (lv_at hl 1 rfl) ?_
  refine zw_iconst hx hb dX5_charAt_2 ?_
  refine lv_aload_n hx hb dX5_charAt_3 rfl (lv_at hl 0 rfl) ?_
  refine va_get (D := (dC, dI)) (ci := 5) (v := .int (zi wr)) (C := RX5) (T := TX5) (N := 12) hx hb hts (by decide +kernel) hown hK hP 0 rfl rfl 8 (by decide) (hts (.fieldLink RX5 134 "CivilDaysModel" "written" "I") (by decide +kernel)) (fun _ h9 => h9) rfl dX5_charAt_4 ?_
  refine zw_iconst hx hb dX5_charAt_7 ?_
  refine zw_isub hx hb dX5_charAt_8 ?_
  have hh1 := c_X5_in l ix 0 (wr - 1) (by omega) (by omega) (by omega)
  refine vp_callSi (va_Run.run (va_runS (As := [.int (zi ix), .int (zi 0), .int (zi (wr - 1))]) (rest := [.ref g0]) ⟨hx, hb, hml, hown, hts⟩ hh1 (va_cwS 3 hts gX5_charAt_X5_in rfl rfl rfl (by decide +kernel) ⟨Nat.le_of_ble_eq_true rfl, Nat.le_of_ble_eq_true rfl⟩) ⟨fun a U g mk q => q, fun U hU hW => ⟨rfl, trivial⟩⟩ rfl rfl hl.1 rfl (lv_room (Nat.le_of_ble_eq_true rfl)) dX5_charAt_9 ⟨Nat.zero_le _, Nat.zero_le _⟩)) (fun r1 (hr1 : r1 = zi (f_X5_in ix 0 (wr - 1))) => ?_)
  subst hr1
  have hf1 := b_X5_in ix 0 (wr - 1) (by omega) (by omega) (by omega)
  refine zw_if_eq (tgt := 19) hx hb dX5_charAt_12 (by decide) ⟨by omega, by omega⟩ (fun h2 => ?_) (fun h2 => ?_)
  · skip
    exact absurd True.intro (by omega)
  · skip
    refine zw_iconst hx hb dX5_charAt_15 ?_
    refine lv_goto (tgt := 20) hx hb dX5_charAt_16 (by decide) ?_
    refine va_put (D := (dC, dI)) (ci := 5) (v := .int (zi 0)) (ty := .int) (C := RX5) (T := TX5) (N := 12) hx hb hts (by decide +kernel) tyX5 tyX5_ok nmX5 hown hK hP hD hS 0 rfl rfl 0 (by decide) (hts (.fieldLink RX5 35 "CivilDaysModel" "code" "I") (by decide +kernel)) (fun _ h9 => h9) rfl (by decide +kernel) rfl rfl (Nat.le_of_ble_eq_true rfl) dX5_charAt_20 (fun H locs hP hD hS => ?_)
    have hP : va_P (dC, dI) vwCl [(g0, .inr (5, [.int (zi 0), .ref ps, .int (zi ru), .ref pk, .ref pa, .ref pb, .ref pq, .int (zi we), .int (zi wr), .ref pw, .int (zi ty), .ref pt])), (pw, aI cI 12 wf)] H := hP
    have hD : va_D A [(g0, .inr (5, [.int (zi 0), .ref ps, .int (zi ru), .ref pk, .ref pa, .ref pb, .ref pq, .int (zi we), .int (zi wr), .ref pw, .int (zi ty), .ref pt])), (pw, aI cI 12 wf)] := hD
    refine lv_aload_n hx hb dX5_charAt_23 rfl (lv_at hl 0 rfl) ?_
    refine va_get (D := (dC, dI)) (ci := 5) (v := .int (zi 0)) (C := RX5) (T := TX5) (N := 12) hx hb hts (by decide +kernel) hown hK hP 0 rfl rfl 0 (by decide) (hts (.fieldLink RX5 35 "CivilDaysModel" "code" "I") (by decide +kernel)) (fun _ h9 => h9) rfl dX5_charAt_24 ?_
    refine zw_if_le (tgt := 34) hx hb dX5_charAt_27 (by decide) ⟨by omega, by omega⟩ (fun h3 => ?_) (fun h3 => ?_)
    · skip
      refine lv_aload_n hx hb dX5_charAt_34 rfl (lv_at hl 0 rfl) ?_
      refine va_get (D := (dC, dI)) (ci := 5) (v := .ref pw) (C := RX5) (T := TX5) (N := 12) hx hb hts (by decide +kernel) hown hK hP 0 rfl rfl 9 (by decide) (hts (.fieldLink RX5 29 "CivilDaysModel" "writing" "[I") (by decide +kernel)) (fun _ h9 => h9) rfl dX5_charAt_35 ?_
      refine lv_iload_n hx hb dX5_charAt_38 rfl (lv_at hl 1 rfl) ?_
      refine zw_iald hx hb hK hP 1 0 rfl rfl (by omega) (by omega) ⟨by omega, by omega⟩ dX5_charAt_39 ?_
      have hP9 := hP.sub (ws' := [(g0, .inr (5, [.int (zi 0), .ref ps, .int (zi ru), .ref pk, .ref pa, .ref pb, .ref pq, .int (zi we), .int (zi wr), .ref pw, .int (zi ty), .ref pt])), (pw, aI cI 12 wf)]) [0, 1] rfl
      have hD9 := hD.sub (ws' := [(g0, .inr (5, [.int (zi 0), .ref ps, .int (zi ru), .ref pk, .ref pa, .ref pb, .ref pq, .int (zi we), .int (zi wr), .ref pw, .int (zi ty), .ref pt])), (pw, aI cI 12 wf)]) [0, 1] (by decide) rfl
      exact W.iret (v := zi (wf ix.toNat)) hx hb hr (fun t ht hW => ⟨⟨zi (wf ix.toNat), (), rfl, rfl, by rw [ht]; exact hP9, va_K.moved hW.alike hK, hD9⟩, hS.F ht⟩) hS.2.2 dX5_charAt_40
    · skip
      exact absurd True.intro (by omega)

set_option maxHeartbeats 4000000 in
set_option maxRecDepth 100000 in
theorem c_X5_type_1 (l : Launch)  (dC : Nat → ClassId) (dI : Nat → Nat → Nat) (cI : ClassId) (g0 : Nat) (ps : Nat) (pk : Nat) (pa : Nat) (pb : Nat) (pq : Nat) (pw : Nat) (pt : Nat) (co : Int) (ru : Int) (we : Int) (wr : Int) (ty : Int) (tf : Nat → Int) (ch : Int) (sz : Nat) (hp0 : -2147483648 ≤ ch ∧ ch ≤ 2147483647) (hp1 : ch < 32 ∨ 126 < ch) : Met l yX5_type wsX5_type ({ frames := 1, cells := 0, slots := 0, locals := 22 }) (zPw (dC, dI) [(cI, .int)] sz [.ref g0, .int (zi ch)] [(g0, .inr (5, [.int (zi co), .ref ps, .int (zi ru), .ref pk, .ref pa, .ref pb, .ref pq, .int (zi we), .int (zi wr), .ref pw, .int (zi ty), .ref pt])), (pt, aI cI 20 tf)]) (va_Qi (fun (r : Int32) (_ : Unit) => r = zi 0) (zB (dC, dI) [(cI, .int)] (va_A [(g0, .inr (5, [.int (zi co), .ref ps, .int (zi ru), .ref pk, .ref pa, .ref pb, .ref pq, .int (zi we), .int (zi wr), .ref pw, .int (zi ty), .ref pt])), (pt, aI cI 20 tf)] sz) [(g0, .inr (5, [.int (zi 1), .ref ps, .int (zi ru), .ref pk, .ref pa, .ref pb, .ref pq, .int (zi we), .int (zi wr), .ref pw, .int (zi ty), .ref pt])), (pt, aI cI 20 tf)]) (va_A [(g0, .inr (5, [.int (zi co), .ref ps, .int (zi ru), .ref pk, .ref pa, .ref pb, .ref pq, .int (zi we), .int (zi wr), .ref pw, .int (zi ty), .ref pt])), (pt, aI cI 20 tf)] sz)) 0 0 (va_A [(g0, .inr (5, [.int (zi co), .ref ps, .int (zi ru), .ref pk, .ref pa, .ref pb, .ref pq, .int (zi we), .int (zi wr), .ref pw, .int (zi ty), .ref pt])), (pt, aI cI 20 tf)] sz) := by
  refine Met.ofW (cc := cX5_type) (maxL := 2) (ret := (some .int)) (by decide) rfl ?_
  intro p e s m args below meth c s₁ B hml hv
  obtain ⟨rfl, hsz, hP, hK, hD0⟩ := hv
  have hx := B.exec
  have hb := B.bytes
  have hr := B.returns
  have hts := atoms_spec (ws := wsX5_type) B.pre
  have hown : s.vm.findClass RX5 = some m.cls := findClass_of_methodNamed B.named
  have hlocks := B.notSynchronized
  subst hsz
  have hD := hD0.self (sz := s.heap.size)
  generalize hAe : va_A [(g0, .inr (5, [.int (zi co), .ref ps, .int (zi ru), .ref pk, .ref pa, .ref pb, .ref pq, .int (zi we), .int (zi wr), .ref pw, .int (zi ty), .ref pt])), (pt, aI cI 20 tf)] s.heap.size = A at hD ⊢
  have hA : ∀ q : Nat, s.heap.size ≤ q → A q := fun q h => by rw [← hAe]; exact Or.inr h
  have hS : va_S A s.heap s.heap [] := va_S.rf
  have hP : va_P (dC, dI) vwCl [(g0, .inr (5, [.int (zi co), .ref ps, .int (zi ru), .ref pk, .ref pa, .ref pb, .ref pq, .int (zi we), .int (zi wr), .ref pw, .int (zi ty), .ref pt])), (pt, aI cI 20 tf)] s.heap := hP
  have hl := lv_entry ([.ref g0, .int (zi ch)]) (n := 2) (Nat.le_of_ble_eq_true rfl)
  rw [lg_entry_eq]
  generalize (lg_sl ([.ref g0, .int (zi ch)]) ++ List.replicate (2 - (lg_sl ([.ref g0, .int (zi ch)])).length) Slot.unset).toArray = ls at hl ⊢
  have hl : lv_has ls 2 [(0, .ref g0), (1, .int (zi ch))] := hl
  refine lv_aload_n hx hb dX5_type_0 rfl (lv_at hl 0 rfl) ?_
  refine lv_iload_n hx hb dX5_type_1 rfl (lv_at hl 1 rfl) ?_
  refine zw_bipush hx hb dX5_type_2 (by decide) ?_
  refine zw_bipush hx hb dX5_type_4 (by decide) ?_
  have hh1 := c_X5_in l ch 32 126 (by omega) (by omega) (by omega)
  refine vp_callSi (va_Run.run (va_runS (As := [.int (zi ch), .int (zi 32), .int (zi 126)]) (rest := [.ref g0]) ⟨hx, hb, hml, hown, hts⟩ hh1 (va_cwS 3 hts gX5_type_X5_in rfl rfl rfl (by decide +kernel) ⟨Nat.le_of_ble_eq_true rfl, Nat.le_of_ble_eq_true rfl⟩) ⟨fun a U g mk q => q, fun U hU hW => ⟨rfl, trivial⟩⟩ rfl rfl hl.1 rfl (lv_room (Nat.le_of_ble_eq_true rfl)) dX5_type_6 ⟨Nat.zero_le _, Nat.zero_le _⟩)) (fun r1 (hr1 : r1 = zi (f_X5_in ch 32 126)) => ?_)
  subst hr1
  have hf1 := b_X5_in ch 32 126 (by omega) (by omega) (by omega)
  refine zw_if_ne (tgt := 16) hx hb dX5_type_9 (by decide) ⟨by omega, by omega⟩ (fun h2 => ?_) (fun h2 => ?_)
  · skip
    exact absurd True.intro (by omega)
  · skip
    refine zw_iconst hx hb dX5_type_12 ?_
    refine lv_goto (tgt := 30) hx hb dX5_type_13 (by decide) ?_
    refine va_put (D := (dC, dI)) (ci := 5) (v := .int (zi 1)) (ty := .int) (C := RX5) (T := TX5) (N := 12) hx hb hts (by decide +kernel) tyX5 tyX5_ok nmX5 hown hK hP hD hS 0 rfl rfl 0 (by decide) (hts (.fieldLink RX5 35 "CivilDaysModel" "code" "I") (by decide +kernel)) (fun _ h9 => h9) rfl (by decide +kernel) rfl rfl (Nat.le_of_ble_eq_true rfl) dX5_type_30 (fun H locs hP hD hS => ?_)
    have hP : va_P (dC, dI) vwCl [(g0, .inr (5, [.int (zi 1), .ref ps, .int (zi ru), .ref pk, .ref pa, .ref pb, .ref pq, .int (zi we), .int (zi wr), .ref pw, .int (zi ty), .ref pt])), (pt, aI cI 20 tf)] H := hP
    have hD : va_D A [(g0, .inr (5, [.int (zi 1), .ref ps, .int (zi ru), .ref pk, .ref pa, .ref pb, .ref pq, .int (zi we), .int (zi wr), .ref pw, .int (zi ty), .ref pt])), (pt, aI cI 20 tf)] := hD
    refine lv_aload_n hx hb dX5_type_33 rfl (lv_at hl 0 rfl) ?_
    refine va_get (D := (dC, dI)) (ci := 5) (v := .int (zi 1)) (C := RX5) (T := TX5) (N := 12) hx hb hts (by decide +kernel) hown hK hP 0 rfl rfl 0 (by decide) (hts (.fieldLink RX5 35 "CivilDaysModel" "code" "I") (by decide +kernel)) (fun _ h9 => h9) rfl dX5_type_34 ?_
    refine zw_if_le (tgt := 42) hx hb dX5_type_37 (by decide) ⟨by omega, by omega⟩ (fun h3 => ?_) (fun h3 => ?_)
    · skip
      exact absurd True.intro (by omega)
    · skip
      refine zw_iconst hx hb dX5_type_40 ?_
      have hP9 := hP.sub (ws' := [(g0, .inr (5, [.int (zi 1), .ref ps, .int (zi ru), .ref pk, .ref pa, .ref pb, .ref pq, .int (zi we), .int (zi wr), .ref pw, .int (zi ty), .ref pt])), (pt, aI cI 20 tf)]) [0, 1] rfl
      have hD9 := hD.sub (ws' := [(g0, .inr (5, [.int (zi 1), .ref ps, .int (zi ru), .ref pk, .ref pa, .ref pb, .ref pq, .int (zi we), .int (zi wr), .ref pw, .int (zi ty), .ref pt])), (pt, aI cI 20 tf)]) [0, 1] (by decide) rfl
      exact W.iret (v := zi 0) hx hb hr (fun t ht hW => ⟨⟨zi 0, (), rfl, rfl, by rw [ht]; exact hP9, va_K.moved hW.alike hK, hD9⟩, hS.F ht⟩) hS.2.2 dX5_type_41

set_option maxHeartbeats 4000000 in
set_option maxRecDepth 100000 in
theorem c_X5_type_2 (l : Launch)  (dC : Nat → ClassId) (dI : Nat → Nat → Nat) (cI : ClassId) (g0 : Nat) (ps : Nat) (pk : Nat) (pa : Nat) (pb : Nat) (pq : Nat) (pw : Nat) (pt : Nat) (co : Int) (ru : Int) (we : Int) (wr : Int) (ty : Int) (tf : Nat → Int) (ch : Int) (sz : Nat) (hp0 : 32 ≤ ch ∧ ch ≤ 126) (hp1 : ty = 20) : Met l yX5_type wsX5_type ({ frames := 1, cells := 0, slots := 0, locals := 22 }) (zPw (dC, dI) [(cI, .int)] sz [.ref g0, .int (zi ch)] [(g0, .inr (5, [.int (zi co), .ref ps, .int (zi ru), .ref pk, .ref pa, .ref pb, .ref pq, .int (zi we), .int (zi wr), .ref pw, .int (zi ty), .ref pt])), (pt, aI cI 20 tf)]) (va_Qi (fun (r : Int32) (_ : Unit) => r = zi 0) (zB (dC, dI) [(cI, .int)] (va_A [(g0, .inr (5, [.int (zi co), .ref ps, .int (zi ru), .ref pk, .ref pa, .ref pb, .ref pq, .int (zi we), .int (zi wr), .ref pw, .int (zi ty), .ref pt])), (pt, aI cI 20 tf)] sz) [(g0, .inr (5, [.int (zi 2), .ref ps, .int (zi ru), .ref pk, .ref pa, .ref pb, .ref pq, .int (zi we), .int (zi wr), .ref pw, .int (zi ty), .ref pt])), (pt, aI cI 20 tf)]) (va_A [(g0, .inr (5, [.int (zi co), .ref ps, .int (zi ru), .ref pk, .ref pa, .ref pb, .ref pq, .int (zi we), .int (zi wr), .ref pw, .int (zi ty), .ref pt])), (pt, aI cI 20 tf)] sz)) 0 0 (va_A [(g0, .inr (5, [.int (zi co), .ref ps, .int (zi ru), .ref pk, .ref pa, .ref pb, .ref pq, .int (zi we), .int (zi wr), .ref pw, .int (zi ty), .ref pt])), (pt, aI cI 20 tf)] sz) := by
  refine Met.ofW (cc := cX5_type) (maxL := 2) (ret := (some .int)) (by decide) rfl ?_
  intro p e s m args below meth c s₁ B hml hv
  obtain ⟨rfl, hsz, hP, hK, hD0⟩ := hv
  have hx := B.exec
  have hb := B.bytes
  have hr := B.returns
  have hts := atoms_spec (ws := wsX5_type) B.pre
  have hown : s.vm.findClass RX5 = some m.cls := findClass_of_methodNamed B.named
  have hlocks := B.notSynchronized
  subst hsz
  have hD := hD0.self (sz := s.heap.size)
  generalize hAe : va_A [(g0, .inr (5, [.int (zi co), .ref ps, .int (zi ru), .ref pk, .ref pa, .ref pb, .ref pq, .int (zi we), .int (zi wr), .ref pw, .int (zi ty), .ref pt])), (pt, aI cI 20 tf)] s.heap.size = A at hD ⊢
  have hA : ∀ q : Nat, s.heap.size ≤ q → A q := fun q h => by rw [← hAe]; exact Or.inr h
  have hS : va_S A s.heap s.heap [] := va_S.rf
  have hP : va_P (dC, dI) vwCl [(g0, .inr (5, [.int (zi co), .ref ps, .int (zi ru), .ref pk, .ref pa, .ref pb, .ref pq, .int (zi we), .int (zi wr), .ref pw, .int (zi ty), .ref pt])), (pt, aI cI 20 tf)] s.heap := hP
  have hl := lv_entry ([.ref g0, .int (zi ch)]) (n := 2) (Nat.le_of_ble_eq_true rfl)
  rw [lg_entry_eq]
  generalize (lg_sl ([.ref g0, .int (zi ch)]) ++ List.replicate (2 - (lg_sl ([.ref g0, .int (zi ch)])).length) Slot.unset).toArray = ls at hl ⊢
  have hl : lv_has ls 2 [(0, .ref g0), (1, .int (zi ch))] := hl
  refine lv_aload_n hx hb dX5_type_0 rfl (lv_at hl 0 rfl) ?_
  refine lv_iload_n hx hb dX5_type_1 rfl (lv_at hl 1 rfl) ?_
  refine zw_bipush hx hb dX5_type_2 (by decide) ?_
  refine zw_bipush hx hb dX5_type_4 (by decide) ?_
  have hh1 := c_X5_in l ch 32 126 (by omega) (by omega) (by omega)
  refine vp_callSi (va_Run.run (va_runS (As := [.int (zi ch), .int (zi 32), .int (zi 126)]) (rest := [.ref g0]) ⟨hx, hb, hml, hown, hts⟩ hh1 (va_cwS 3 hts gX5_type_X5_in rfl rfl rfl (by decide +kernel) ⟨Nat.le_of_ble_eq_true rfl, Nat.le_of_ble_eq_true rfl⟩) ⟨fun a U g mk q => q, fun U hU hW => ⟨rfl, trivial⟩⟩ rfl rfl hl.1 rfl (lv_room (Nat.le_of_ble_eq_true rfl)) dX5_type_6 ⟨Nat.zero_le _, Nat.zero_le _⟩)) (fun r1 (hr1 : r1 = zi (f_X5_in ch 32 126)) => ?_)
  subst hr1
  have hf1 := b_X5_in ch 32 126 (by omega) (by omega) (by omega)
  refine zw_if_ne (tgt := 16) hx hb dX5_type_9 (by decide) ⟨by omega, by omega⟩ (fun h2 => ?_) (fun h2 => ?_)
  · skip
    refine lv_aload_n hx hb dX5_type_16 rfl (lv_at hl 0 rfl) ?_
    refine va_get (D := (dC, dI)) (ci := 5) (v := .int (zi ty)) (C := RX5) (T := TX5) (N := 12) hx hb hts (by decide +kernel) hown hK hP 0 rfl rfl 10 (by decide) (hts (.fieldLink RX5 145 "CivilDaysModel" "typed" "I") (by decide +kernel)) (fun _ h9 => h9) rfl dX5_type_17 ?_
    refine zw_bipush hx hb dX5_type_20 (by decide) ?_
    refine zw_icmp_ne (tgt := 29) hx hb dX5_type_22 (by decide) ⟨by omega, by omega⟩ ⟨by omega, by omega⟩ (fun h3 => ?_) (fun h3 => ?_)
    · skip
      exact absurd True.intro (by omega)
    · skip
      refine zw_iconst hx hb dX5_type_25 ?_
      refine lv_goto (tgt := 30) hx hb dX5_type_26 (by decide) ?_
      refine va_put (D := (dC, dI)) (ci := 5) (v := .int (zi 2)) (ty := .int) (C := RX5) (T := TX5) (N := 12) hx hb hts (by decide +kernel) tyX5 tyX5_ok nmX5 hown hK hP hD hS 0 rfl rfl 0 (by decide) (hts (.fieldLink RX5 35 "CivilDaysModel" "code" "I") (by decide +kernel)) (fun _ h9 => h9) rfl (by decide +kernel) rfl rfl (Nat.le_of_ble_eq_true rfl) dX5_type_30 (fun H locs hP hD hS => ?_)
      have hP : va_P (dC, dI) vwCl [(g0, .inr (5, [.int (zi 2), .ref ps, .int (zi ru), .ref pk, .ref pa, .ref pb, .ref pq, .int (zi we), .int (zi wr), .ref pw, .int (zi ty), .ref pt])), (pt, aI cI 20 tf)] H := hP
      have hD : va_D A [(g0, .inr (5, [.int (zi 2), .ref ps, .int (zi ru), .ref pk, .ref pa, .ref pb, .ref pq, .int (zi we), .int (zi wr), .ref pw, .int (zi ty), .ref pt])), (pt, aI cI 20 tf)] := hD
      refine lv_aload_n hx hb dX5_type_33 rfl (lv_at hl 0 rfl) ?_
      refine va_get (D := (dC, dI)) (ci := 5) (v := .int (zi 2)) (C := RX5) (T := TX5) (N := 12) hx hb hts (by decide +kernel) hown hK hP 0 rfl rfl 0 (by decide) (hts (.fieldLink RX5 35 "CivilDaysModel" "code" "I") (by decide +kernel)) (fun _ h9 => h9) rfl dX5_type_34 ?_
      refine zw_if_le (tgt := 42) hx hb dX5_type_37 (by decide) ⟨by omega, by omega⟩ (fun h4 => ?_) (fun h4 => ?_)
      · skip
        exact absurd True.intro (by omega)
      · skip
        refine zw_iconst hx hb dX5_type_40 ?_
        have hP9 := hP.sub (ws' := [(g0, .inr (5, [.int (zi 2), .ref ps, .int (zi ru), .ref pk, .ref pa, .ref pb, .ref pq, .int (zi we), .int (zi wr), .ref pw, .int (zi ty), .ref pt])), (pt, aI cI 20 tf)]) [0, 1] rfl
        have hD9 := hD.sub (ws' := [(g0, .inr (5, [.int (zi 2), .ref ps, .int (zi ru), .ref pk, .ref pa, .ref pb, .ref pq, .int (zi we), .int (zi wr), .ref pw, .int (zi ty), .ref pt])), (pt, aI cI 20 tf)]) [0, 1] (by decide) rfl
        exact W.iret (v := zi 0) hx hb hr (fun t ht hW => ⟨⟨zi 0, (), rfl, rfl, by rw [ht]; exact hP9, va_K.moved hW.alike hK, hD9⟩, hS.F ht⟩) hS.2.2 dX5_type_41
  · skip
    exact absurd True.intro (by omega)

set_option maxHeartbeats 4000000 in
set_option maxRecDepth 100000 in
theorem c_X5_type (l : Launch)  (dC : Nat → ClassId) (dI : Nat → Nat → Nat) (cI : ClassId) (g0 : Nat) (ps : Nat) (pk : Nat) (pa : Nat) (pb : Nat) (pq : Nat) (pw : Nat) (pt : Nat) (co : Int) (ru : Int) (we : Int) (wr : Int) (ty : Int) (tf : Nat → Int) (ch : Int) (sz : Nat) (hp0 : 32 ≤ ch ∧ ch ≤ 126) (hp1 : 0 ≤ ty ∧ ty < 20) : Met l yX5_type wsX5_type ({ frames := 1, cells := 0, slots := 0, locals := 22 }) (zPw (dC, dI) [(cI, .int)] sz [.ref g0, .int (zi ch)] [(g0, .inr (5, [.int (zi co), .ref ps, .int (zi ru), .ref pk, .ref pa, .ref pb, .ref pq, .int (zi we), .int (zi wr), .ref pw, .int (zi ty), .ref pt])), (pt, aI cI 20 tf)]) (va_Qi (fun (r : Int32) (_ : Unit) => r = zi (ty + 1)) (zB (dC, dI) [(cI, .int)] (va_A [(g0, .inr (5, [.int (zi co), .ref ps, .int (zi ru), .ref pk, .ref pa, .ref pb, .ref pq, .int (zi we), .int (zi wr), .ref pw, .int (zi ty), .ref pt])), (pt, aI cI 20 tf)] sz) [(g0, .inr (5, [.int (zi 0), .ref ps, .int (zi ru), .ref pk, .ref pa, .ref pb, .ref pq, .int (zi we), .int (zi wr), .ref pw, .int (zi (ty + 1)), .ref pt])), (pt, aI cI 20 (zup tf ty.toNat ch))]) (va_A [(g0, .inr (5, [.int (zi co), .ref ps, .int (zi ru), .ref pk, .ref pa, .ref pb, .ref pq, .int (zi we), .int (zi wr), .ref pw, .int (zi ty), .ref pt])), (pt, aI cI 20 tf)] sz)) 0 0 (va_A [(g0, .inr (5, [.int (zi co), .ref ps, .int (zi ru), .ref pk, .ref pa, .ref pb, .ref pq, .int (zi we), .int (zi wr), .ref pw, .int (zi ty), .ref pt])), (pt, aI cI 20 tf)] sz) := by
  refine Met.ofW (cc := cX5_type) (maxL := 2) (ret := (some .int)) (by decide) rfl ?_
  intro p e s m args below meth c s₁ B hml hv
  obtain ⟨rfl, hsz, hP, hK, hD0⟩ := hv
  have hx := B.exec
  have hb := B.bytes
  have hr := B.returns
  have hts := atoms_spec (ws := wsX5_type) B.pre
  have hown : s.vm.findClass RX5 = some m.cls := findClass_of_methodNamed B.named
  have hlocks := B.notSynchronized
  subst hsz
  have hD := hD0.self (sz := s.heap.size)
  generalize hAe : va_A [(g0, .inr (5, [.int (zi co), .ref ps, .int (zi ru), .ref pk, .ref pa, .ref pb, .ref pq, .int (zi we), .int (zi wr), .ref pw, .int (zi ty), .ref pt])), (pt, aI cI 20 tf)] s.heap.size = A at hD ⊢
  have hA : ∀ q : Nat, s.heap.size ≤ q → A q := fun q h => by rw [← hAe]; exact Or.inr h
  have hS : va_S A s.heap s.heap [] := va_S.rf
  have hP : va_P (dC, dI) vwCl [(g0, .inr (5, [.int (zi co), .ref ps, .int (zi ru), .ref pk, .ref pa, .ref pb, .ref pq, .int (zi we), .int (zi wr), .ref pw, .int (zi ty), .ref pt])), (pt, aI cI 20 tf)] s.heap := hP
  have hl := lv_entry ([.ref g0, .int (zi ch)]) (n := 2) (Nat.le_of_ble_eq_true rfl)
  rw [lg_entry_eq]
  generalize (lg_sl ([.ref g0, .int (zi ch)]) ++ List.replicate (2 - (lg_sl ([.ref g0, .int (zi ch)])).length) Slot.unset).toArray = ls at hl ⊢
  have hl : lv_has ls 2 [(0, .ref g0), (1, .int (zi ch))] := hl
  refine lv_aload_n hx hb dX5_type_0 rfl (lv_at hl 0 rfl) ?_
  refine lv_iload_n hx hb dX5_type_1 rfl (lv_at hl 1 rfl) ?_
  refine zw_bipush hx hb dX5_type_2 (by decide) ?_
  refine zw_bipush hx hb dX5_type_4 (by decide) ?_
  have hh1 := c_X5_in l ch 32 126 (by omega) (by omega) (by omega)
  refine vp_callSi (va_Run.run (va_runS (As := [.int (zi ch), .int (zi 32), .int (zi 126)]) (rest := [.ref g0]) ⟨hx, hb, hml, hown, hts⟩ hh1 (va_cwS 3 hts gX5_type_X5_in rfl rfl rfl (by decide +kernel) ⟨Nat.le_of_ble_eq_true rfl, Nat.le_of_ble_eq_true rfl⟩) ⟨fun a U g mk q => q, fun U hU hW => ⟨rfl, trivial⟩⟩ rfl rfl hl.1 rfl (lv_room (Nat.le_of_ble_eq_true rfl)) dX5_type_6 ⟨Nat.zero_le _, Nat.zero_le _⟩)) (fun r1 (hr1 : r1 = zi (f_X5_in ch 32 126)) => ?_)
  subst hr1
  have hf1 := b_X5_in ch 32 126 (by omega) (by omega) (by omega)
  refine zw_if_ne (tgt := 16) hx hb dX5_type_9 (by decide) ⟨by omega, by omega⟩ (fun h2 => ?_) (fun h2 => ?_)
  · skip
    refine lv_aload_n hx hb dX5_type_16 rfl (lv_at hl 0 rfl) ?_
    refine va_get (D := (dC, dI)) (ci := 5) (v := .int (zi ty)) (C := RX5) (T := TX5) (N := 12) hx hb hts (by decide +kernel) hown hK hP 0 rfl rfl 10 (by decide) (hts (.fieldLink RX5 145 "CivilDaysModel" "typed" "I") (by decide +kernel)) (fun _ h9 => h9) rfl dX5_type_17 ?_
    refine zw_bipush hx hb dX5_type_20 (by decide) ?_
    refine zw_icmp_ne (tgt := 29) hx hb dX5_type_22 (by decide) ⟨by omega, by omega⟩ ⟨by omega, by omega⟩ (fun h3 => ?_) (fun h3 => ?_)
    · skip
      refine zw_iconst hx hb dX5_type_29 ?_
      refine va_put (D := (dC, dI)) (ci := 5) (v := .int (zi 0)) (ty := .int) (C := RX5) (T := TX5) (N := 12) hx hb hts (by decide +kernel) tyX5 tyX5_ok nmX5 hown hK hP hD hS 0 rfl rfl 0 (by decide) (hts (.fieldLink RX5 35 "CivilDaysModel" "code" "I") (by decide +kernel)) (fun _ h9 => h9) rfl (by decide +kernel) rfl rfl (Nat.le_of_ble_eq_true rfl) dX5_type_30 (fun H locs hP hD hS => ?_)
      have hP : va_P (dC, dI) vwCl [(g0, .inr (5, [.int (zi 0), .ref ps, .int (zi ru), .ref pk, .ref pa, .ref pb, .ref pq, .int (zi we), .int (zi wr), .ref pw, .int (zi ty), .ref pt])), (pt, aI cI 20 tf)] H := hP
      have hD : va_D A [(g0, .inr (5, [.int (zi 0), .ref ps, .int (zi ru), .ref pk, .ref pa, .ref pb, .ref pq, .int (zi we), .int (zi wr), .ref pw, .int (zi ty), .ref pt])), (pt, aI cI 20 tf)] := hD
      refine lv_aload_n hx hb dX5_type_33 rfl (lv_at hl 0 rfl) ?_
      refine va_get (D := (dC, dI)) (ci := 5) (v := .int (zi 0)) (C := RX5) (T := TX5) (N := 12) hx hb hts (by decide +kernel) hown hK hP 0 rfl rfl 0 (by decide) (hts (.fieldLink RX5 35 "CivilDaysModel" "code" "I") (by decide +kernel)) (fun _ h9 => h9) rfl dX5_type_34 ?_
      refine zw_if_le (tgt := 42) hx hb dX5_type_37 (by decide) ⟨by omega, by omega⟩ (fun h4 => ?_) (fun h4 => ?_)
      · skip
        refine lv_aload_n hx hb dX5_type_42 rfl (lv_at hl 0 rfl) ?_
        refine va_get (D := (dC, dI)) (ci := 5) (v := .ref pt) (C := RX5) (T := TX5) (N := 12) hx hb hts (by decide +kernel) hown hK hP 0 rfl rfl 11 (by decide) (hts (.fieldLink RX5 32 "CivilDaysModel" "typing" "[I") (by decide +kernel)) (fun _ h9 => h9) rfl dX5_type_43 ?_
        refine lv_aload_n hx hb dX5_type_46 rfl (lv_at hl 0 rfl) ?_
        refine va_get (D := (dC, dI)) (ci := 5) (v := .int (zi ty)) (C := RX5) (T := TX5) (N := 12) hx hb hts (by decide +kernel) hown hK hP 0 rfl rfl 10 (by decide) (hts (.fieldLink RX5 145 "CivilDaysModel" "typed" "I") (by decide +kernel)) (fun _ h9 => h9) rfl dX5_type_47 ?_
        refine lv_iload_n hx hb dX5_type_50 rfl (lv_at hl 1 rfl) ?_
        refine zw_iast hx hb hK hP hD hS 1 0 rfl rfl (by omega) (by omega) ⟨by omega, by omega⟩ dX5_type_51 (fun H locs hP hD hS => ?_)
        have hP : va_P (dC, dI) vwCl [(g0, .inr (5, [.int (zi 0), .ref ps, .int (zi ru), .ref pk, .ref pa, .ref pb, .ref pq, .int (zi we), .int (zi wr), .ref pw, .int (zi ty), .ref pt])), (pt, aI cI 20 (zup tf ty.toNat ch))] H := hP
        have hD : va_D A [(g0, .inr (5, [.int (zi 0), .ref ps, .int (zi ru), .ref pk, .ref pa, .ref pb, .ref pq, .int (zi we), .int (zi wr), .ref pw, .int (zi ty), .ref pt])), (pt, aI cI 20 (zup tf ty.toNat ch))] := hD
        refine lv_aload_n hx hb dX5_type_52 rfl (lv_at hl 0 rfl) ?_
        refine lv_dup hx hb dX5_type_53 rfl ?_
        refine va_get (D := (dC, dI)) (ci := 5) (v := .int (zi ty)) (C := RX5) (T := TX5) (N := 12) hx hb hts (by decide +kernel) hown hK hP 0 rfl rfl 10 (by decide) (hts (.fieldLink RX5 145 "CivilDaysModel" "typed" "I") (by decide +kernel)) (fun _ h9 => h9) rfl dX5_type_54 ?_
        refine zw_iconst hx hb dX5_type_57 ?_
        refine zw_iadd hx hb dX5_type_58 ?_
        refine va_put (D := (dC, dI)) (ci := 5) (v := .int (zi (ty + 1))) (ty := .int) (C := RX5) (T := TX5) (N := 12) hx hb hts (by decide +kernel) tyX5 tyX5_ok nmX5 hown hK hP hD hS 0 rfl rfl 10 (by decide) (hts (.fieldLink RX5 145 "CivilDaysModel" "typed" "I") (by decide +kernel)) (fun _ h9 => h9) rfl (by decide +kernel) rfl rfl (Nat.le_of_ble_eq_true rfl) dX5_type_59 (fun H locs hP hD hS => ?_)
        have hP : va_P (dC, dI) vwCl [(g0, .inr (5, [.int (zi 0), .ref ps, .int (zi ru), .ref pk, .ref pa, .ref pb, .ref pq, .int (zi we), .int (zi wr), .ref pw, .int (zi (ty + 1)), .ref pt])), (pt, aI cI 20 (zup tf ty.toNat ch))] H := hP
        have hD : va_D A [(g0, .inr (5, [.int (zi 0), .ref ps, .int (zi ru), .ref pk, .ref pa, .ref pb, .ref pq, .int (zi we), .int (zi wr), .ref pw, .int (zi (ty + 1)), .ref pt])), (pt, aI cI 20 (zup tf ty.toNat ch))] := hD
        refine lv_aload_n hx hb dX5_type_62 rfl (lv_at hl 0 rfl) ?_
        refine va_get (D := (dC, dI)) (ci := 5) (v := .int (zi (ty + 1))) (C := RX5) (T := TX5) (N := 12) hx hb hts (by decide +kernel) hown hK hP 0 rfl rfl 10 (by decide) (hts (.fieldLink RX5 145 "CivilDaysModel" "typed" "I") (by decide +kernel)) (fun _ h9 => h9) rfl dX5_type_63 ?_
        have hP9 := hP.sub (ws' := [(g0, .inr (5, [.int (zi 0), .ref ps, .int (zi ru), .ref pk, .ref pa, .ref pb, .ref pq, .int (zi we), .int (zi wr), .ref pw, .int (zi (ty + 1)), .ref pt])), (pt, aI cI 20 (zup tf ty.toNat ch))]) [0, 1] rfl
        have hD9 := hD.sub (ws' := [(g0, .inr (5, [.int (zi 0), .ref ps, .int (zi ru), .ref pk, .ref pa, .ref pb, .ref pq, .int (zi we), .int (zi wr), .ref pw, .int (zi (ty + 1)), .ref pt])), (pt, aI cI 20 (zup tf ty.toNat ch))]) [0, 1] (by decide) rfl
        exact W.iret (v := zi (ty + 1)) hx hb hr (fun t ht hW => ⟨⟨zi (ty + 1), (), rfl, rfl, by rw [ht]; exact hP9, va_K.moved hW.alike hK, hD9⟩, hS.F ht⟩) hS.2.2 dX5_type_66
      · skip
        exact absurd True.intro (by omega)
    · skip
      exact absurd True.intro (by omega)
  · skip
    exact absurd True.intro (by omega)

set_option maxHeartbeats 4000000 in
set_option maxRecDepth 100000 in
theorem c_X5_put (l : Launch)  (dC : Nat → ClassId) (dI : Nat → Nat → Nat) (cI : ClassId) (g0 : Nat) (ps : Nat) (pk : Nat) (pa : Nat) (pb : Nat) (pq : Nat) (pw : Nat) (pt : Nat) (co : Int) (ru : Int) (we : Int) (wr : Int) (ty : Int) (wf : Nat → Int) (ch : Int) (sz : Nat) (hp0 : 0 ≤ wr ∧ wr < 12) : Met l yX5_put wsX5_put ({ frames := 0, cells := 0, slots := 0, locals := 0 }) (zPw (dC, dI) [(cI, .int)] sz [.ref g0, .int (zi ch)] [(g0, .inr (5, [.int (zi co), .ref ps, .int (zi ru), .ref pk, .ref pa, .ref pb, .ref pq, .int (zi we), .int (zi wr), .ref pw, .int (zi ty), .ref pt])), (pw, aI cI 12 wf)]) (va_Qv (fun (_ : Unit) => True) (zB (dC, dI) [(cI, .int)] (va_A [(g0, .inr (5, [.int (zi co), .ref ps, .int (zi ru), .ref pk, .ref pa, .ref pb, .ref pq, .int (zi we), .int (zi wr), .ref pw, .int (zi ty), .ref pt])), (pw, aI cI 12 wf)] sz) [(g0, .inr (5, [.int (zi co), .ref ps, .int (zi ru), .ref pk, .ref pa, .ref pb, .ref pq, .int (zi we), .int (zi (wr + 1)), .ref pw, .int (zi ty), .ref pt])), (pw, aI cI 12 (zup wf wr.toNat ch))]) (va_A [(g0, .inr (5, [.int (zi co), .ref ps, .int (zi ru), .ref pk, .ref pa, .ref pb, .ref pq, .int (zi we), .int (zi wr), .ref pw, .int (zi ty), .ref pt])), (pw, aI cI 12 wf)] sz)) 0 0 (va_A [(g0, .inr (5, [.int (zi co), .ref ps, .int (zi ru), .ref pk, .ref pa, .ref pb, .ref pq, .int (zi we), .int (zi wr), .ref pw, .int (zi ty), .ref pt])), (pw, aI cI 12 wf)] sz) := by
  refine Met.ofW (cc := cX5_put) (maxL := 2) (ret := none) (by decide) rfl ?_
  intro p e s m args below meth c s₁ B hml hv
  obtain ⟨rfl, hsz, hP, hK, hD0⟩ := hv
  have hx := B.exec
  have hb := B.bytes
  have hr := B.returns
  have hts := atoms_spec (ws := wsX5_put) B.pre
  have hown : s.vm.findClass RX5 = some m.cls := findClass_of_methodNamed B.named
  have hlocks := B.notSynchronized
  subst hsz
  have hD := hD0.self (sz := s.heap.size)
  generalize hAe : va_A [(g0, .inr (5, [.int (zi co), .ref ps, .int (zi ru), .ref pk, .ref pa, .ref pb, .ref pq, .int (zi we), .int (zi wr), .ref pw, .int (zi ty), .ref pt])), (pw, aI cI 12 wf)] s.heap.size = A at hD ⊢
  have hA : ∀ q : Nat, s.heap.size ≤ q → A q := fun q h => by rw [← hAe]; exact Or.inr h
  have hS : va_S A s.heap s.heap [] := va_S.rf
  have hP : va_P (dC, dI) vwCl [(g0, .inr (5, [.int (zi co), .ref ps, .int (zi ru), .ref pk, .ref pa, .ref pb, .ref pq, .int (zi we), .int (zi wr), .ref pw, .int (zi ty), .ref pt])), (pw, aI cI 12 wf)] s.heap := hP
  have hl := lv_entry ([.ref g0, .int (zi ch)]) (n := 2) (Nat.le_of_ble_eq_true rfl)
  rw [lg_entry_eq]
  generalize (lg_sl ([.ref g0, .int (zi ch)]) ++ List.replicate (2 - (lg_sl ([.ref g0, .int (zi ch)])).length) Slot.unset).toArray = ls at hl ⊢
  have hl : lv_has ls 2 [(0, .ref g0), (1, .int (zi ch))] := hl
  refine lv_aload_n hx hb dX5_put_0 rfl (lv_at hl 0 rfl) ?_
  refine va_get (D := (dC, dI)) (ci := 5) (v := .ref pw) (C := RX5) (T := TX5) (N := 12) hx hb hts (by decide +kernel) hown hK hP 0 rfl rfl 9 (by decide) (hts (.fieldLink RX5 29 "CivilDaysModel" "writing" "[I") (by decide +kernel)) (fun _ h9 => h9) rfl dX5_put_1 ?_
  refine lv_aload_n hx hb dX5_put_4 rfl (lv_at hl 0 rfl) ?_
  refine va_get (D := (dC, dI)) (ci := 5) (v := .int (zi wr)) (C := RX5) (T := TX5) (N := 12) hx hb hts (by decide +kernel) hown hK hP 0 rfl rfl 8 (by decide) (hts (.fieldLink RX5 134 "CivilDaysModel" "written" "I") (by decide +kernel)) (fun _ h9 => h9) rfl dX5_put_5 ?_
  refine lv_iload_n hx hb dX5_put_8 rfl (lv_at hl 1 rfl) ?_
  refine zw_iast hx hb hK hP hD hS 1 0 rfl rfl (by omega) (by omega) ⟨by omega, by omega⟩ dX5_put_9 (fun H locs hP hD hS => ?_)
  have hP : va_P (dC, dI) vwCl [(g0, .inr (5, [.int (zi co), .ref ps, .int (zi ru), .ref pk, .ref pa, .ref pb, .ref pq, .int (zi we), .int (zi wr), .ref pw, .int (zi ty), .ref pt])), (pw, aI cI 12 (zup wf wr.toNat ch))] H := hP
  have hD : va_D A [(g0, .inr (5, [.int (zi co), .ref ps, .int (zi ru), .ref pk, .ref pa, .ref pb, .ref pq, .int (zi we), .int (zi wr), .ref pw, .int (zi ty), .ref pt])), (pw, aI cI 12 (zup wf wr.toNat ch))] := hD
  refine lv_aload_n hx hb dX5_put_10 rfl (lv_at hl 0 rfl) ?_
  refine lv_dup hx hb dX5_put_11 rfl ?_
  refine va_get (D := (dC, dI)) (ci := 5) (v := .int (zi wr)) (C := RX5) (T := TX5) (N := 12) hx hb hts (by decide +kernel) hown hK hP 0 rfl rfl 8 (by decide) (hts (.fieldLink RX5 134 "CivilDaysModel" "written" "I") (by decide +kernel)) (fun _ h9 => h9) rfl dX5_put_12 ?_
  refine zw_iconst hx hb dX5_put_15 ?_
  refine zw_iadd hx hb dX5_put_16 ?_
  refine va_put (D := (dC, dI)) (ci := 5) (v := .int (zi (wr + 1))) (ty := .int) (C := RX5) (T := TX5) (N := 12) hx hb hts (by decide +kernel) tyX5 tyX5_ok nmX5 hown hK hP hD hS 0 rfl rfl 8 (by decide) (hts (.fieldLink RX5 134 "CivilDaysModel" "written" "I") (by decide +kernel)) (fun _ h9 => h9) rfl (by decide +kernel) rfl rfl (Nat.le_of_ble_eq_true rfl) dX5_put_17 (fun H locs hP hD hS => ?_)
  have hP : va_P (dC, dI) vwCl [(g0, .inr (5, [.int (zi co), .ref ps, .int (zi ru), .ref pk, .ref pa, .ref pb, .ref pq, .int (zi we), .int (zi (wr + 1)), .ref pw, .int (zi ty), .ref pt])), (pw, aI cI 12 (zup wf wr.toNat ch))] H := hP
  have hD : va_D A [(g0, .inr (5, [.int (zi co), .ref ps, .int (zi ru), .ref pk, .ref pa, .ref pb, .ref pq, .int (zi we), .int (zi (wr + 1)), .ref pw, .int (zi ty), .ref pt])), (pw, aI cI 12 (zup wf wr.toNat ch))] := hD
  have hP9 := hP.sub (ws' := [(g0, .inr (5, [.int (zi co), .ref ps, .int (zi ru), .ref pk, .ref pa, .ref pb, .ref pq, .int (zi we), .int (zi (wr + 1)), .ref pw, .int (zi ty), .ref pt])), (pw, aI cI 12 (zup wf wr.toNat ch))]) [0, 1] rfl
  have hD9 := hD.sub (ws' := [(g0, .inr (5, [.int (zi co), .ref ps, .int (zi ru), .ref pk, .ref pa, .ref pb, .ref pq, .int (zi we), .int (zi (wr + 1)), .ref pw, .int (zi ty), .ref pt])), (pw, aI cI 12 (zup wf wr.toNat ch))]) [0, 1] (by decide) rfl
  exact W.vret hx hb hr (fun t ht hW => ⟨⟨(), rfl, trivial, by rw [ht]; exact hP9, va_K.moved hW.alike hK, hD9⟩, hS.F ht⟩) hS.2.2 dX5_put_20

set_option maxHeartbeats 4000000 in
set_option maxRecDepth 100000 in
theorem c_X5_putNumber_4 (l : Launch)  (dC : Nat → ClassId) (dI : Nat → Nat → Nat) (cI : ClassId) (g0 : Nat) (ps : Nat) (pk : Nat) (pa : Nat) (pb : Nat) (pq : Nat) (pw : Nat) (pt : Nat) (co : Int) (ru : Int) (we : Int) (wr : Int) (ty : Int) (wf : Nat → Int) (va : Int) (sz : Nat) (hp0 : 0 ≤ wr ∧ wr ≤ 8) (hp1 : 0 ≤ va ∧ va ≤ 99999) : Met l yX5_putNumber wsX5_putNumber ({ frames := 1, cells := 0, slots := 0, locals := 21 }) (zPw (dC, dI) [(cI, .int)] sz [.ref g0, .int (zi va), .int (zi 4)] [(g0, .inr (5, [.int (zi co), .ref ps, .int (zi ru), .ref pk, .ref pa, .ref pb, .ref pq, .int (zi we), .int (zi wr), .ref pw, .int (zi ty), .ref pt])), (pw, aI cI 12 wf)]) (va_Qv (fun (_ : Unit) => True) (zB (dC, dI) [(cI, .int)] (va_A [(g0, .inr (5, [.int (zi co), .ref ps, .int (zi ru), .ref pk, .ref pa, .ref pb, .ref pq, .int (zi we), .int (zi wr), .ref pw, .int (zi ty), .ref pt])), (pw, aI cI 12 wf)] sz) [(g0, .inr (5, [.int (zi co), .ref ps, .int (zi ru), .ref pk, .ref pa, .ref pb, .ref pq, .int (zi we), .int (zi ((((wr + 1) + 1) + 1) + 1)), .ref pw, .int (zi ty), .ref pt])), (pw, aI cI 12 (zup (zup (zup (zup wf wr.toNat (48 + ((va / 1000) % 10))) (Int.toNat (wr + 1)) (48 + ((va / 100) % 10))) (Int.toNat ((wr + 1) + 1)) (48 + ((va / 10) % 10))) (Int.toNat (((wr + 1) + 1) + 1)) (48 + ((va / 1) % 10))))]) (va_A [(g0, .inr (5, [.int (zi co), .ref ps, .int (zi ru), .ref pk, .ref pa, .ref pb, .ref pq, .int (zi we), .int (zi wr), .ref pw, .int (zi ty), .ref pt])), (pw, aI cI 12 wf)] sz)) 0 0 (va_A [(g0, .inr (5, [.int (zi co), .ref ps, .int (zi ru), .ref pk, .ref pa, .ref pb, .ref pq, .int (zi we), .int (zi wr), .ref pw, .int (zi ty), .ref pt])), (pw, aI cI 12 wf)] sz) := by
  refine Met.ofW (cc := cX5_putNumber) (maxL := 4) (ret := none) (by decide) rfl ?_
  intro p e s m args below meth c s₁ B hml hv
  obtain ⟨rfl, hsz, hP, hK, hD0⟩ := hv
  have hx := B.exec
  have hb := B.bytes
  have hr := B.returns
  have hts := atoms_spec (ws := wsX5_putNumber) B.pre
  have hown : s.vm.findClass RX5 = some m.cls := findClass_of_methodNamed B.named
  have hlocks := B.notSynchronized
  subst hsz
  have hD := hD0.self (sz := s.heap.size)
  generalize hAe : va_A [(g0, .inr (5, [.int (zi co), .ref ps, .int (zi ru), .ref pk, .ref pa, .ref pb, .ref pq, .int (zi we), .int (zi wr), .ref pw, .int (zi ty), .ref pt])), (pw, aI cI 12 wf)] s.heap.size = A at hD ⊢
  have hA : ∀ q : Nat, s.heap.size ≤ q → A q := fun q h => by rw [← hAe]; exact Or.inr h
  have hS : va_S A s.heap s.heap [] := va_S.rf
  have hP : va_P (dC, dI) vwCl [(g0, .inr (5, [.int (zi co), .ref ps, .int (zi ru), .ref pk, .ref pa, .ref pb, .ref pq, .int (zi we), .int (zi wr), .ref pw, .int (zi ty), .ref pt])), (pw, aI cI 12 wf)] s.heap := hP
  have hl := lv_entry ([.ref g0, .int (zi va), .int (zi 4)]) (n := 4) (Nat.le_of_ble_eq_true rfl)
  rw [lg_entry_eq]
  generalize (lg_sl ([.ref g0, .int (zi va), .int (zi 4)]) ++ List.replicate (4 - (lg_sl ([.ref g0, .int (zi va), .int (zi 4)])).length) Slot.unset).toArray = ls at hl ⊢
  have hl : lv_has ls 4 [(0, .ref g0), (1, .int (zi va)), (2, .int (zi 4))] := hl
  refine lv_iload_n hx hb dX5_putNumber_0 rfl (lv_at hl 2 rfl) ?_
  refine zw_iconst hx hb dX5_putNumber_1 ?_
  refine zw_icmp_ne (tgt := 11) hx hb dX5_putNumber_2 (by decide) ⟨by omega, by omega⟩ ⟨by omega, by omega⟩ (fun h1 => ?_) (fun h1 => ?_)
  · skip
    exact absurd True.intro (by omega)
  · skip
    refine zw_sipush hx hb dX5_putNumber_5 (by decide) ?_
    refine lv_goto (tgt := 32) hx hb dX5_putNumber_8 (by decide) ?_
    refine lv_istore_n (lv' := [(3, .int (zi 1000)), (0, .ref g0), (1, .int (zi va)), (2, .int (zi 4))]) hx hb dX5_putNumber_32 rfl hl (by decide) rfl (fun ls hl => ?_)
    refine lv_iload_n hx hb dX5_putNumber_33 rfl (lv_at hl 0 rfl) ?_
    refine zw_if_le (tgt := 58) hx hb dX5_putNumber_34 (by decide) ⟨by omega, by omega⟩ (fun h2 => ?_) (fun h2 => ?_)
    · skip
      exact absurd True.intro (by omega)
    · skip
      refine lv_aload_n hx hb dX5_putNumber_37 rfl (lv_at hl 1 rfl) ?_
      refine zw_bipush hx hb dX5_putNumber_38 (by decide) ?_
      refine lv_iload_n hx hb dX5_putNumber_40 rfl (lv_at hl 2 rfl) ?_
      refine lv_iload_n hx hb dX5_putNumber_41 rfl (lv_at hl 0 rfl) ?_
      refine zw_idiv hx hb dX5_putNumber_42 (by omega) ⟨by omega, by omega⟩ ⟨by omega, by omega⟩ (by omega) ?_
      refine zw_bipush hx hb dX5_putNumber_43 (by decide) ?_
      refine zw_irem hx hb dX5_putNumber_45 (by omega) ⟨by omega, by omega⟩ ⟨by omega, by omega⟩ (by omega) ?_
      refine zw_iadd hx hb dX5_putNumber_46 ?_
      have hh3 := c_X5_put l dC dI cI g0 ps pk pa pb pq pw pt co ru we wr ty wf (48 + ((va / 1000) % 10)) s.heap.size (by omega)
      have hPc := hP.sub (ws' := [(g0, .inr (5, [.int (zi co), .ref ps, .int (zi ru), .ref pk, .ref pa, .ref pb, .ref pq, .int (zi we), .int (zi wr), .ref pw, .int (zi ty), .ref pt])), (pw, aI cI 12 wf)]) [0, 1] rfl
      have hKc : va_K (dC, dI) vwCl [(cI, .int)] s := hK
      have hDc := hD.sub (ws' := [(g0, .inr (5, [.int (zi co), .ref ps, .int (zi ru), .ref pk, .ref pa, .ref pb, .ref pq, .int (zi we), .int (zi wr), .ref pw, .int (zi ty), .ref pt])), (pw, aI cI 12 wf)]) [0, 1] (by decide) rfl
      have hFc := va_free (wc := [(g0, .inr (5, [.int (zi co), .ref ps, .int (zi ru), .ref pk, .ref pa, .ref pb, .ref pq, .int (zi we), .int (zi wr), .ref pw, .int (zi ty), .ref pt])), (pw, aI cI 12 wf)]) hD hS hA [0, 1] rfl
      refine va_callv (va_runV (As := [.int (zi (48 + ((va / 1000) % 10)))]) (rest := []) ⟨hx, hb, hml, hown, hts⟩ hh3 (cwV 1 hts gX5_putNumber_X5_put rfl rfl rfl (by decide +kernel) ⟨Nat.le_of_ble_eq_true rfl, Nat.le_of_ble_eq_true rfl⟩) ⟨zPw.blind _ _ _ _ _, va_recv hKc hPc (ci := 5) (q0 := 0) rfl rfl, fun U hU hW => ⟨rfl, by rw [hU], by rw [hU]; exact hPc, va_K.moved hW.alike hKc, hDc.weaken (fun _ _ _ _ => trivial)⟩⟩ rfl rfl hl.1 rfl (lv_room (Nat.le_of_ble_eq_true rfl)) dX5_putNumber_47 ⟨Nat.le_of_ble_eq_true rfl, Nat.le_of_ble_eq_true rfl⟩) hS (fun q _ h => hFc q h) hFc (fun u t H1 locs ht hvm hw hB hz1 hk1 hS => ?_)
      obtain ⟨hP1, hK1, hD1⟩ := hB
      rw [ht] at hP1
      obtain ⟨hP, hD⟩ := va_join (wr := []) (w1 := [(g0, .inr (5, [.int (zi co), .ref ps, .int (zi ru), .ref pk, .ref pa, .ref pb, .ref pq, .int (zi we), .int (zi (wr + 1)), .ref pw, .int (zi ty), .ref pt])), (pw, aI cI 12 (zup wf wr.toNat (48 + ((va / 1000) % 10))))]) hP hD [0, 1] [] rfl rfl (by decide) (by decide) hk1 hFc hP1 hD1
      generalize H1 = H at hP hS ⊢
      have hP : va_P (dC, dI) vwCl [(g0, .inr (5, [.int (zi co), .ref ps, .int (zi ru), .ref pk, .ref pa, .ref pb, .ref pq, .int (zi we), .int (zi (wr + 1)), .ref pw, .int (zi ty), .ref pt])), (pw, aI cI 12 (zup wf wr.toNat (48 + ((va / 1000) % 10))))] H := hP
      have hD : va_D A [(g0, .inr (5, [.int (zi co), .ref ps, .int (zi ru), .ref pk, .ref pa, .ref pb, .ref pq, .int (zi we), .int (zi (wr + 1)), .ref pw, .int (zi ty), .ref pt])), (pw, aI cI 12 (zup wf wr.toNat (48 + ((va / 1000) % 10))))] := hD
      refine lv_iload_n hx hb dX5_putNumber_50 rfl (lv_at hl 0 rfl) ?_
      refine zw_bipush hx hb dX5_putNumber_51 (by decide) ?_
      refine zw_idiv hx hb dX5_putNumber_53 (by omega) ⟨by omega, by omega⟩ ⟨by omega, by omega⟩ (by omega) ?_
      refine lv_istore_n (lv' := [(3, .int (zi 100)), (0, .ref g0), (1, .int (zi va)), (2, .int (zi 4))]) hx hb dX5_putNumber_54 rfl hl (by decide) rfl (fun ls hl => ?_)
      refine lv_goto (tgt := 33) hx hb dX5_putNumber_55 (by decide) ?_
      refine lv_iload_n hx hb dX5_putNumber_33 rfl (lv_at hl 0 rfl) ?_
      refine zw_if_le (tgt := 58) hx hb dX5_putNumber_34 (by decide) ⟨by omega, by omega⟩ (fun h4 => ?_) (fun h4 => ?_)
      · skip
        exact absurd True.intro (by omega)
      · skip
        refine lv_aload_n hx hb dX5_putNumber_37 rfl (lv_at hl 1 rfl) ?_
        refine zw_bipush hx hb dX5_putNumber_38 (by decide) ?_
        refine lv_iload_n hx hb dX5_putNumber_40 rfl (lv_at hl 2 rfl) ?_
        refine lv_iload_n hx hb dX5_putNumber_41 rfl (lv_at hl 0 rfl) ?_
        refine zw_idiv hx hb dX5_putNumber_42 (by omega) ⟨by omega, by omega⟩ ⟨by omega, by omega⟩ (by omega) ?_
        refine zw_bipush hx hb dX5_putNumber_43 (by decide) ?_
        refine zw_irem hx hb dX5_putNumber_45 (by omega) ⟨by omega, by omega⟩ ⟨by omega, by omega⟩ (by omega) ?_
        refine zw_iadd hx hb dX5_putNumber_46 ?_
        have hh5 := c_X5_put l dC dI cI g0 ps pk pa pb pq pw pt co ru we (wr + 1) ty (zup wf wr.toNat (48 + ((va / 1000) % 10))) (48 + ((va / 100) % 10)) H.size (by omega)
        have hPc := hP.sub (ws' := [(g0, .inr (5, [.int (zi co), .ref ps, .int (zi ru), .ref pk, .ref pa, .ref pb, .ref pq, .int (zi we), .int (zi (wr + 1)), .ref pw, .int (zi ty), .ref pt])), (pw, aI cI 12 (zup wf wr.toNat (48 + ((va / 1000) % 10))))]) [0, 1] rfl
        have hKc : va_K (dC, dI) vwCl [(cI, .int)] s := hK
        have hDc := hD.sub (ws' := [(g0, .inr (5, [.int (zi co), .ref ps, .int (zi ru), .ref pk, .ref pa, .ref pb, .ref pq, .int (zi we), .int (zi (wr + 1)), .ref pw, .int (zi ty), .ref pt])), (pw, aI cI 12 (zup wf wr.toNat (48 + ((va / 1000) % 10))))]) [0, 1] (by decide) rfl
        have hFc := va_free (wc := [(g0, .inr (5, [.int (zi co), .ref ps, .int (zi ru), .ref pk, .ref pa, .ref pb, .ref pq, .int (zi we), .int (zi (wr + 1)), .ref pw, .int (zi ty), .ref pt])), (pw, aI cI 12 (zup wf wr.toNat (48 + ((va / 1000) % 10))))]) hD hS hA [0, 1] rfl
        refine va_callv (va_runV (As := [.int (zi (48 + ((va / 100) % 10)))]) (rest := []) ⟨hx, hb, hml, hown, hts⟩ hh5 (cwV 1 hts gX5_putNumber_X5_put rfl rfl rfl (by decide +kernel) ⟨Nat.le_of_ble_eq_true rfl, Nat.le_of_ble_eq_true rfl⟩) ⟨zPw.blind _ _ _ _ _, va_recv hKc hPc (ci := 5) (q0 := 0) rfl rfl, fun U hU hW => ⟨rfl, by rw [hU], by rw [hU]; exact hPc, va_K.moved hW.alike hKc, hDc.weaken (fun _ _ _ _ => trivial)⟩⟩ rfl rfl hl.1 rfl (lv_room (Nat.le_of_ble_eq_true rfl)) dX5_putNumber_47 ⟨Nat.le_of_ble_eq_true rfl, Nat.le_of_ble_eq_true rfl⟩) hS (fun q _ h => hFc q h) hFc (fun u t H1 locs ht hvm hw hB hz1 hk1 hS => ?_)
        obtain ⟨hP1, hK1, hD1⟩ := hB
        rw [ht] at hP1
        obtain ⟨hP, hD⟩ := va_join (wr := []) (w1 := [(g0, .inr (5, [.int (zi co), .ref ps, .int (zi ru), .ref pk, .ref pa, .ref pb, .ref pq, .int (zi we), .int (zi ((wr + 1) + 1)), .ref pw, .int (zi ty), .ref pt])), (pw, aI cI 12 (zup (zup wf wr.toNat (48 + ((va / 1000) % 10))) (Int.toNat (wr + 1)) (48 + ((va / 100) % 10))))]) hP hD [0, 1] [] rfl rfl (by decide) (by decide) hk1 hFc hP1 hD1
        generalize H1 = H at hP hS ⊢
        have hP : va_P (dC, dI) vwCl [(g0, .inr (5, [.int (zi co), .ref ps, .int (zi ru), .ref pk, .ref pa, .ref pb, .ref pq, .int (zi we), .int (zi ((wr + 1) + 1)), .ref pw, .int (zi ty), .ref pt])), (pw, aI cI 12 (zup (zup wf wr.toNat (48 + ((va / 1000) % 10))) (Int.toNat (wr + 1)) (48 + ((va / 100) % 10))))] H := hP
        have hD : va_D A [(g0, .inr (5, [.int (zi co), .ref ps, .int (zi ru), .ref pk, .ref pa, .ref pb, .ref pq, .int (zi we), .int (zi ((wr + 1) + 1)), .ref pw, .int (zi ty), .ref pt])), (pw, aI cI 12 (zup (zup wf wr.toNat (48 + ((va / 1000) % 10))) (Int.toNat (wr + 1)) (48 + ((va / 100) % 10))))] := hD
        refine lv_iload_n hx hb dX5_putNumber_50 rfl (lv_at hl 0 rfl) ?_
        refine zw_bipush hx hb dX5_putNumber_51 (by decide) ?_
        refine zw_idiv hx hb dX5_putNumber_53 (by omega) ⟨by omega, by omega⟩ ⟨by omega, by omega⟩ (by omega) ?_
        refine lv_istore_n (lv' := [(3, .int (zi 10)), (0, .ref g0), (1, .int (zi va)), (2, .int (zi 4))]) hx hb dX5_putNumber_54 rfl hl (by decide) rfl (fun ls hl => ?_)
        refine lv_goto (tgt := 33) hx hb dX5_putNumber_55 (by decide) ?_
        refine lv_iload_n hx hb dX5_putNumber_33 rfl (lv_at hl 0 rfl) ?_
        refine zw_if_le (tgt := 58) hx hb dX5_putNumber_34 (by decide) ⟨by omega, by omega⟩ (fun h6 => ?_) (fun h6 => ?_)
        · skip
          exact absurd True.intro (by omega)
        · skip
          refine lv_aload_n hx hb dX5_putNumber_37 rfl (lv_at hl 1 rfl) ?_
          refine zw_bipush hx hb dX5_putNumber_38 (by decide) ?_
          refine lv_iload_n hx hb dX5_putNumber_40 rfl (lv_at hl 2 rfl) ?_
          refine lv_iload_n hx hb dX5_putNumber_41 rfl (lv_at hl 0 rfl) ?_
          refine zw_idiv hx hb dX5_putNumber_42 (by omega) ⟨by omega, by omega⟩ ⟨by omega, by omega⟩ (by omega) ?_
          refine zw_bipush hx hb dX5_putNumber_43 (by decide) ?_
          refine zw_irem hx hb dX5_putNumber_45 (by omega) ⟨by omega, by omega⟩ ⟨by omega, by omega⟩ (by omega) ?_
          refine zw_iadd hx hb dX5_putNumber_46 ?_
          have hh7 := c_X5_put l dC dI cI g0 ps pk pa pb pq pw pt co ru we ((wr + 1) + 1) ty (zup (zup wf wr.toNat (48 + ((va / 1000) % 10))) (Int.toNat (wr + 1)) (48 + ((va / 100) % 10))) (48 + ((va / 10) % 10)) H.size (by omega)
          have hPc := hP.sub (ws' := [(g0, .inr (5, [.int (zi co), .ref ps, .int (zi ru), .ref pk, .ref pa, .ref pb, .ref pq, .int (zi we), .int (zi ((wr + 1) + 1)), .ref pw, .int (zi ty), .ref pt])), (pw, aI cI 12 (zup (zup wf wr.toNat (48 + ((va / 1000) % 10))) (Int.toNat (wr + 1)) (48 + ((va / 100) % 10))))]) [0, 1] rfl
          have hKc : va_K (dC, dI) vwCl [(cI, .int)] s := hK
          have hDc := hD.sub (ws' := [(g0, .inr (5, [.int (zi co), .ref ps, .int (zi ru), .ref pk, .ref pa, .ref pb, .ref pq, .int (zi we), .int (zi ((wr + 1) + 1)), .ref pw, .int (zi ty), .ref pt])), (pw, aI cI 12 (zup (zup wf wr.toNat (48 + ((va / 1000) % 10))) (Int.toNat (wr + 1)) (48 + ((va / 100) % 10))))]) [0, 1] (by decide) rfl
          have hFc := va_free (wc := [(g0, .inr (5, [.int (zi co), .ref ps, .int (zi ru), .ref pk, .ref pa, .ref pb, .ref pq, .int (zi we), .int (zi ((wr + 1) + 1)), .ref pw, .int (zi ty), .ref pt])), (pw, aI cI 12 (zup (zup wf wr.toNat (48 + ((va / 1000) % 10))) (Int.toNat (wr + 1)) (48 + ((va / 100) % 10))))]) hD hS hA [0, 1] rfl
          refine va_callv (va_runV (As := [.int (zi (48 + ((va / 10) % 10)))]) (rest := []) ⟨hx, hb, hml, hown, hts⟩ hh7 (cwV 1 hts gX5_putNumber_X5_put rfl rfl rfl (by decide +kernel) ⟨Nat.le_of_ble_eq_true rfl, Nat.le_of_ble_eq_true rfl⟩) ⟨zPw.blind _ _ _ _ _, va_recv hKc hPc (ci := 5) (q0 := 0) rfl rfl, fun U hU hW => ⟨rfl, by rw [hU], by rw [hU]; exact hPc, va_K.moved hW.alike hKc, hDc.weaken (fun _ _ _ _ => trivial)⟩⟩ rfl rfl hl.1 rfl (lv_room (Nat.le_of_ble_eq_true rfl)) dX5_putNumber_47 ⟨Nat.le_of_ble_eq_true rfl, Nat.le_of_ble_eq_true rfl⟩) hS (fun q _ h => hFc q h) hFc (fun u t H1 locs ht hvm hw hB hz1 hk1 hS => ?_)
          obtain ⟨hP1, hK1, hD1⟩ := hB
          rw [ht] at hP1
          obtain ⟨hP, hD⟩ := va_join (wr := []) (w1 := [(g0, .inr (5, [.int (zi co), .ref ps, .int (zi ru), .ref pk, .ref pa, .ref pb, .ref pq, .int (zi we), .int (zi (((wr + 1) + 1) + 1)), .ref pw, .int (zi ty), .ref pt])), (pw, aI cI 12 (zup (zup (zup wf wr.toNat (48 + ((va / 1000) % 10))) (Int.toNat (wr + 1)) (48 + ((va / 100) % 10))) (Int.toNat ((wr + 1) + 1)) (48 + ((va / 10) % 10))))]) hP hD [0, 1] [] rfl rfl (by decide) (by decide) hk1 hFc hP1 hD1
          generalize H1 = H at hP hS ⊢
          have hP : va_P (dC, dI) vwCl [(g0, .inr (5, [.int (zi co), .ref ps, .int (zi ru), .ref pk, .ref pa, .ref pb, .ref pq, .int (zi we), .int (zi (((wr + 1) + 1) + 1)), .ref pw, .int (zi ty), .ref pt])), (pw, aI cI 12 (zup (zup (zup wf wr.toNat (48 + ((va / 1000) % 10))) (Int.toNat (wr + 1)) (48 + ((va / 100) % 10))) (Int.toNat ((wr + 1) + 1)) (48 + ((va / 10) % 10))))] H := hP
          have hD : va_D A [(g0, .inr (5, [.int (zi co), .ref ps, .int (zi ru), .ref pk, .ref pa, .ref pb, .ref pq, .int (zi we), .int (zi (((wr + 1) + 1) + 1)), .ref pw, .int (zi ty), .ref pt])), (pw, aI cI 12 (zup (zup (zup wf wr.toNat (48 + ((va / 1000) % 10))) (Int.toNat (wr + 1)) (48 + ((va / 100) % 10))) (Int.toNat ((wr + 1) + 1)) (48 + ((va / 10) % 10))))] := hD
          refine lv_iload_n hx hb dX5_putNumber_50 rfl (lv_at hl 0 rfl) ?_
          refine zw_bipush hx hb dX5_putNumber_51 (by decide) ?_
          refine zw_idiv hx hb dX5_putNumber_53 (by omega) ⟨by omega, by omega⟩ ⟨by omega, by omega⟩ (by omega) ?_
          refine lv_istore_n (lv' := [(3, .int (zi 1)), (0, .ref g0), (1, .int (zi va)), (2, .int (zi 4))]) hx hb dX5_putNumber_54 rfl hl (by decide) rfl (fun ls hl => ?_)
          refine lv_goto (tgt := 33) hx hb dX5_putNumber_55 (by decide) ?_
          refine lv_iload_n hx hb dX5_putNumber_33 rfl (lv_at hl 0 rfl) ?_
          refine zw_if_le (tgt := 58) hx hb dX5_putNumber_34 (by decide) ⟨by omega, by omega⟩ (fun h8 => ?_) (fun h8 => ?_)
          · skip
            exact absurd True.intro (by omega)
          · skip
            refine lv_aload_n hx hb dX5_putNumber_37 rfl (lv_at hl 1 rfl) ?_
            refine zw_bipush hx hb dX5_putNumber_38 (by decide) ?_
            refine lv_iload_n hx hb dX5_putNumber_40 rfl (lv_at hl 2 rfl) ?_
            refine lv_iload_n hx hb dX5_putNumber_41 rfl (lv_at hl 0 rfl) ?_
            refine zw_idiv hx hb dX5_putNumber_42 (by omega) ⟨by omega, by omega⟩ ⟨by omega, by omega⟩ (by omega) ?_
            refine zw_bipush hx hb dX5_putNumber_43 (by decide) ?_
            refine zw_irem hx hb dX5_putNumber_45 (by omega) ⟨by omega, by omega⟩ ⟨by omega, by omega⟩ (by omega) ?_
            refine zw_iadd hx hb dX5_putNumber_46 ?_
            have hh9 := c_X5_put l dC dI cI g0 ps pk pa pb pq pw pt co ru we (((wr + 1) + 1) + 1) ty (zup (zup (zup wf wr.toNat (48 + ((va / 1000) % 10))) (Int.toNat (wr + 1)) (48 + ((va / 100) % 10))) (Int.toNat ((wr + 1) + 1)) (48 + ((va / 10) % 10))) (48 + ((va / 1) % 10)) H.size (by omega)
            have hPc := hP.sub (ws' := [(g0, .inr (5, [.int (zi co), .ref ps, .int (zi ru), .ref pk, .ref pa, .ref pb, .ref pq, .int (zi we), .int (zi (((wr + 1) + 1) + 1)), .ref pw, .int (zi ty), .ref pt])), (pw, aI cI 12 (zup (zup (zup wf wr.toNat (48 + ((va / 1000) % 10))) (Int.toNat (wr + 1)) (48 + ((va / 100) % 10))) (Int.toNat ((wr + 1) + 1)) (48 + ((va / 10) % 10))))]) [0, 1] rfl
            have hKc : va_K (dC, dI) vwCl [(cI, .int)] s := hK
            have hDc := hD.sub (ws' := [(g0, .inr (5, [.int (zi co), .ref ps, .int (zi ru), .ref pk, .ref pa, .ref pb, .ref pq, .int (zi we), .int (zi (((wr + 1) + 1) + 1)), .ref pw, .int (zi ty), .ref pt])), (pw, aI cI 12 (zup (zup (zup wf wr.toNat (48 + ((va / 1000) % 10))) (Int.toNat (wr + 1)) (48 + ((va / 100) % 10))) (Int.toNat ((wr + 1) + 1)) (48 + ((va / 10) % 10))))]) [0, 1] (by decide) rfl
            have hFc := va_free (wc := [(g0, .inr (5, [.int (zi co), .ref ps, .int (zi ru), .ref pk, .ref pa, .ref pb, .ref pq, .int (zi we), .int (zi (((wr + 1) + 1) + 1)), .ref pw, .int (zi ty), .ref pt])), (pw, aI cI 12 (zup (zup (zup wf wr.toNat (48 + ((va / 1000) % 10))) (Int.toNat (wr + 1)) (48 + ((va / 100) % 10))) (Int.toNat ((wr + 1) + 1)) (48 + ((va / 10) % 10))))]) hD hS hA [0, 1] rfl
            refine va_callv (va_runV (As := [.int (zi (48 + ((va / 1) % 10)))]) (rest := []) ⟨hx, hb, hml, hown, hts⟩ hh9 (cwV 1 hts gX5_putNumber_X5_put rfl rfl rfl (by decide +kernel) ⟨Nat.le_of_ble_eq_true rfl, Nat.le_of_ble_eq_true rfl⟩) ⟨zPw.blind _ _ _ _ _, va_recv hKc hPc (ci := 5) (q0 := 0) rfl rfl, fun U hU hW => ⟨rfl, by rw [hU], by rw [hU]; exact hPc, va_K.moved hW.alike hKc, hDc.weaken (fun _ _ _ _ => trivial)⟩⟩ rfl rfl hl.1 rfl (lv_room (Nat.le_of_ble_eq_true rfl)) dX5_putNumber_47 ⟨Nat.le_of_ble_eq_true rfl, Nat.le_of_ble_eq_true rfl⟩) hS (fun q _ h => hFc q h) hFc (fun u t H1 locs ht hvm hw hB hz1 hk1 hS => ?_)
            obtain ⟨hP1, hK1, hD1⟩ := hB
            rw [ht] at hP1
            obtain ⟨hP, hD⟩ := va_join (wr := []) (w1 := [(g0, .inr (5, [.int (zi co), .ref ps, .int (zi ru), .ref pk, .ref pa, .ref pb, .ref pq, .int (zi we), .int (zi ((((wr + 1) + 1) + 1) + 1)), .ref pw, .int (zi ty), .ref pt])), (pw, aI cI 12 (zup (zup (zup (zup wf wr.toNat (48 + ((va / 1000) % 10))) (Int.toNat (wr + 1)) (48 + ((va / 100) % 10))) (Int.toNat ((wr + 1) + 1)) (48 + ((va / 10) % 10))) (Int.toNat (((wr + 1) + 1) + 1)) (48 + ((va / 1) % 10))))]) hP hD [0, 1] [] rfl rfl (by decide) (by decide) hk1 hFc hP1 hD1
            generalize H1 = H at hP hS ⊢
            have hP : va_P (dC, dI) vwCl [(g0, .inr (5, [.int (zi co), .ref ps, .int (zi ru), .ref pk, .ref pa, .ref pb, .ref pq, .int (zi we), .int (zi ((((wr + 1) + 1) + 1) + 1)), .ref pw, .int (zi ty), .ref pt])), (pw, aI cI 12 (zup (zup (zup (zup wf wr.toNat (48 + ((va / 1000) % 10))) (Int.toNat (wr + 1)) (48 + ((va / 100) % 10))) (Int.toNat ((wr + 1) + 1)) (48 + ((va / 10) % 10))) (Int.toNat (((wr + 1) + 1) + 1)) (48 + ((va / 1) % 10))))] H := hP
            have hD : va_D A [(g0, .inr (5, [.int (zi co), .ref ps, .int (zi ru), .ref pk, .ref pa, .ref pb, .ref pq, .int (zi we), .int (zi ((((wr + 1) + 1) + 1) + 1)), .ref pw, .int (zi ty), .ref pt])), (pw, aI cI 12 (zup (zup (zup (zup wf wr.toNat (48 + ((va / 1000) % 10))) (Int.toNat (wr + 1)) (48 + ((va / 100) % 10))) (Int.toNat ((wr + 1) + 1)) (48 + ((va / 10) % 10))) (Int.toNat (((wr + 1) + 1) + 1)) (48 + ((va / 1) % 10))))] := hD
            refine lv_iload_n hx hb dX5_putNumber_50 rfl (lv_at hl 0 rfl) ?_
            refine zw_bipush hx hb dX5_putNumber_51 (by decide) ?_
            refine zw_idiv hx hb dX5_putNumber_53 (by omega) ⟨by omega, by omega⟩ ⟨by omega, by omega⟩ (by omega) ?_
            refine lv_istore_n (lv' := [(3, .int (zi 0)), (0, .ref g0), (1, .int (zi va)), (2, .int (zi 4))]) hx hb dX5_putNumber_54 rfl hl (by decide) rfl (fun ls hl => ?_)
            refine lv_goto (tgt := 33) hx hb dX5_putNumber_55 (by decide) ?_
            refine lv_iload_n hx hb dX5_putNumber_33 rfl (lv_at hl 0 rfl) ?_
            refine zw_if_le (tgt := 58) hx hb dX5_putNumber_34 (by decide) ⟨by omega, by omega⟩ (fun h10 => ?_) (fun h10 => ?_)
            · skip
              have hP9 := hP.sub (ws' := [(g0, .inr (5, [.int (zi co), .ref ps, .int (zi ru), .ref pk, .ref pa, .ref pb, .ref pq, .int (zi we), .int (zi ((((wr + 1) + 1) + 1) + 1)), .ref pw, .int (zi ty), .ref pt])), (pw, aI cI 12 (zup (zup (zup (zup wf wr.toNat (48 + ((va / 1000) % 10))) (Int.toNat (wr + 1)) (48 + ((va / 100) % 10))) (Int.toNat ((wr + 1) + 1)) (48 + ((va / 10) % 10))) (Int.toNat (((wr + 1) + 1) + 1)) (48 + ((va / 1) % 10))))]) [0, 1] rfl
              have hD9 := hD.sub (ws' := [(g0, .inr (5, [.int (zi co), .ref ps, .int (zi ru), .ref pk, .ref pa, .ref pb, .ref pq, .int (zi we), .int (zi ((((wr + 1) + 1) + 1) + 1)), .ref pw, .int (zi ty), .ref pt])), (pw, aI cI 12 (zup (zup (zup (zup wf wr.toNat (48 + ((va / 1000) % 10))) (Int.toNat (wr + 1)) (48 + ((va / 100) % 10))) (Int.toNat ((wr + 1) + 1)) (48 + ((va / 10) % 10))) (Int.toNat (((wr + 1) + 1) + 1)) (48 + ((va / 1) % 10))))]) [0, 1] (by decide) rfl
              exact W.vret hx hb hr (fun t ht hW => ⟨⟨(), rfl, trivial, by rw [ht]; exact hP9, va_K.moved hW.alike hK, hD9⟩, hS.F ht⟩) hS.2.2 dX5_putNumber_58
            · skip
              exact absurd True.intro (by omega)

set_option maxHeartbeats 4000000 in
set_option maxRecDepth 100000 in
theorem c_X5_putNumber_3 (l : Launch)  (dC : Nat → ClassId) (dI : Nat → Nat → Nat) (cI : ClassId) (g0 : Nat) (ps : Nat) (pk : Nat) (pa : Nat) (pb : Nat) (pq : Nat) (pw : Nat) (pt : Nat) (co : Int) (ru : Int) (we : Int) (wr : Int) (ty : Int) (wf : Nat → Int) (va : Int) (sz : Nat) (hp0 : 0 ≤ wr ∧ wr ≤ 9) (hp1 : 0 ≤ va ∧ va ≤ 99999) : Met l yX5_putNumber wsX5_putNumber ({ frames := 1, cells := 0, slots := 0, locals := 21 }) (zPw (dC, dI) [(cI, .int)] sz [.ref g0, .int (zi va), .int (zi 3)] [(g0, .inr (5, [.int (zi co), .ref ps, .int (zi ru), .ref pk, .ref pa, .ref pb, .ref pq, .int (zi we), .int (zi wr), .ref pw, .int (zi ty), .ref pt])), (pw, aI cI 12 wf)]) (va_Qv (fun (_ : Unit) => True) (zB (dC, dI) [(cI, .int)] (va_A [(g0, .inr (5, [.int (zi co), .ref ps, .int (zi ru), .ref pk, .ref pa, .ref pb, .ref pq, .int (zi we), .int (zi wr), .ref pw, .int (zi ty), .ref pt])), (pw, aI cI 12 wf)] sz) [(g0, .inr (5, [.int (zi co), .ref ps, .int (zi ru), .ref pk, .ref pa, .ref pb, .ref pq, .int (zi we), .int (zi (((wr + 1) + 1) + 1)), .ref pw, .int (zi ty), .ref pt])), (pw, aI cI 12 (zup (zup (zup wf wr.toNat (48 + ((va / 100) % 10))) (Int.toNat (wr + 1)) (48 + ((va / 10) % 10))) (Int.toNat ((wr + 1) + 1)) (48 + ((va / 1) % 10))))]) (va_A [(g0, .inr (5, [.int (zi co), .ref ps, .int (zi ru), .ref pk, .ref pa, .ref pb, .ref pq, .int (zi we), .int (zi wr), .ref pw, .int (zi ty), .ref pt])), (pw, aI cI 12 wf)] sz)) 0 0 (va_A [(g0, .inr (5, [.int (zi co), .ref ps, .int (zi ru), .ref pk, .ref pa, .ref pb, .ref pq, .int (zi we), .int (zi wr), .ref pw, .int (zi ty), .ref pt])), (pw, aI cI 12 wf)] sz) := by
  refine Met.ofW (cc := cX5_putNumber) (maxL := 4) (ret := none) (by decide) rfl ?_
  intro p e s m args below meth c s₁ B hml hv
  obtain ⟨rfl, hsz, hP, hK, hD0⟩ := hv
  have hx := B.exec
  have hb := B.bytes
  have hr := B.returns
  have hts := atoms_spec (ws := wsX5_putNumber) B.pre
  have hown : s.vm.findClass RX5 = some m.cls := findClass_of_methodNamed B.named
  have hlocks := B.notSynchronized
  subst hsz
  have hD := hD0.self (sz := s.heap.size)
  generalize hAe : va_A [(g0, .inr (5, [.int (zi co), .ref ps, .int (zi ru), .ref pk, .ref pa, .ref pb, .ref pq, .int (zi we), .int (zi wr), .ref pw, .int (zi ty), .ref pt])), (pw, aI cI 12 wf)] s.heap.size = A at hD ⊢
  have hA : ∀ q : Nat, s.heap.size ≤ q → A q := fun q h => by rw [← hAe]; exact Or.inr h
  have hS : va_S A s.heap s.heap [] := va_S.rf
  have hP : va_P (dC, dI) vwCl [(g0, .inr (5, [.int (zi co), .ref ps, .int (zi ru), .ref pk, .ref pa, .ref pb, .ref pq, .int (zi we), .int (zi wr), .ref pw, .int (zi ty), .ref pt])), (pw, aI cI 12 wf)] s.heap := hP
  have hl := lv_entry ([.ref g0, .int (zi va), .int (zi 3)]) (n := 4) (Nat.le_of_ble_eq_true rfl)
  rw [lg_entry_eq]
  generalize (lg_sl ([.ref g0, .int (zi va), .int (zi 3)]) ++ List.replicate (4 - (lg_sl ([.ref g0, .int (zi va), .int (zi 3)])).length) Slot.unset).toArray = ls at hl ⊢
  have hl : lv_has ls 4 [(0, .ref g0), (1, .int (zi va)), (2, .int (zi 3))] := hl
  refine lv_iload_n hx hb dX5_putNumber_0 rfl (lv_at hl 2 rfl) ?_
  refine zw_iconst hx hb dX5_putNumber_1 ?_
  refine zw_icmp_ne (tgt := 11) hx hb dX5_putNumber_2 (by decide) ⟨by omega, by omega⟩ ⟨by omega, by omega⟩ (fun h1 => ?_) (fun h1 => ?_)
  · skip
    refine lv_iload_n hx hb dX5_putNumber_11 rfl (lv_at hl 2 rfl) ?_
    refine zw_iconst hx hb dX5_putNumber_12 ?_
    refine zw_icmp_ne (tgt := 21) hx hb dX5_putNumber_13 (by decide) ⟨by omega, by omega⟩ ⟨by omega, by omega⟩ (fun h2 => ?_) (fun h2 => ?_)
    · skip
      exact absurd True.intro (by omega)
    · skip
      refine zw_bipush hx hb dX5_putNumber_16 (by decide) ?_
      refine lv_goto (tgt := 32) hx hb dX5_putNumber_18 (by decide) ?_
      refine lv_istore_n (lv' := [(3, .int (zi 100)), (0, .ref g0), (1, .int (zi va)), (2, .int (zi 3))]) hx hb dX5_putNumber_32 rfl hl (by decide) rfl (fun ls hl => ?_)
      refine lv_iload_n hx hb dX5_putNumber_33 rfl (lv_at hl 0 rfl) ?_
      refine zw_if_le (tgt := 58) hx hb dX5_putNumber_34 (by decide) ⟨by omega, by omega⟩ (fun h3 => ?_) (fun h3 => ?_)
      · skip
        exact absurd True.intro (by omega)
      · skip
        refine lv_aload_n hx hb dX5_putNumber_37 rfl (lv_at hl 1 rfl) ?_
        refine zw_bipush hx hb dX5_putNumber_38 (by decide) ?_
        refine lv_iload_n hx hb dX5_putNumber_40 rfl (lv_at hl 2 rfl) ?_
        refine lv_iload_n hx hb dX5_putNumber_41 rfl (lv_at hl 0 rfl) ?_
        refine zw_idiv hx hb dX5_putNumber_42 (by omega) ⟨by omega, by omega⟩ ⟨by omega, by omega⟩ (by omega) ?_
        refine zw_bipush hx hb dX5_putNumber_43 (by decide) ?_
        refine zw_irem hx hb dX5_putNumber_45 (by omega) ⟨by omega, by omega⟩ ⟨by omega, by omega⟩ (by omega) ?_
        refine zw_iadd hx hb dX5_putNumber_46 ?_
        have hh4 := c_X5_put l dC dI cI g0 ps pk pa pb pq pw pt co ru we wr ty wf (48 + ((va / 100) % 10)) s.heap.size (by omega)
        have hPc := hP.sub (ws' := [(g0, .inr (5, [.int (zi co), .ref ps, .int (zi ru), .ref pk, .ref pa, .ref pb, .ref pq, .int (zi we), .int (zi wr), .ref pw, .int (zi ty), .ref pt])), (pw, aI cI 12 wf)]) [0, 1] rfl
        have hKc : va_K (dC, dI) vwCl [(cI, .int)] s := hK
        have hDc := hD.sub (ws' := [(g0, .inr (5, [.int (zi co), .ref ps, .int (zi ru), .ref pk, .ref pa, .ref pb, .ref pq, .int (zi we), .int (zi wr), .ref pw, .int (zi ty), .ref pt])), (pw, aI cI 12 wf)]) [0, 1] (by decide) rfl
        have hFc := va_free (wc := [(g0, .inr (5, [.int (zi co), .ref ps, .int (zi ru), .ref pk, .ref pa, .ref pb, .ref pq, .int (zi we), .int (zi wr), .ref pw, .int (zi ty), .ref pt])), (pw, aI cI 12 wf)]) hD hS hA [0, 1] rfl
        refine va_callv (va_runV (As := [.int (zi (48 + ((va / 100) % 10)))]) (rest := []) ⟨hx, hb, hml, hown, hts⟩ hh4 (cwV 1 hts gX5_putNumber_X5_put rfl rfl rfl (by decide +kernel) ⟨Nat.le_of_ble_eq_true rfl, Nat.le_of_ble_eq_true rfl⟩) ⟨zPw.blind _ _ _ _ _, va_recv hKc hPc (ci := 5) (q0 := 0) rfl rfl, fun U hU hW => ⟨rfl, by rw [hU], by rw [hU]; exact hPc, va_K.moved hW.alike hKc, hDc.weaken (fun _ _ _ _ => trivial)⟩⟩ rfl rfl hl.1 rfl (lv_room (Nat.le_of_ble_eq_true rfl)) dX5_putNumber_47 ⟨Nat.le_of_ble_eq_true rfl, Nat.le_of_ble_eq_true rfl⟩) hS (fun q _ h => hFc q h) hFc (fun u t H1 locs ht hvm hw hB hz1 hk1 hS => ?_)
        obtain ⟨hP1, hK1, hD1⟩ := hB
        rw [ht] at hP1
        obtain ⟨hP, hD⟩ := va_join (wr := []) (w1 := [(g0, .inr (5, [.int (zi co), .ref ps, .int (zi ru), .ref pk, .ref pa, .ref pb, .ref pq, .int (zi we), .int (zi (wr + 1)), .ref pw, .int (zi ty), .ref pt])), (pw, aI cI 12 (zup wf wr.toNat (48 + ((va / 100) % 10))))]) hP hD [0, 1] [] rfl rfl (by decide) (by decide) hk1 hFc hP1 hD1
        generalize H1 = H at hP hS ⊢
        have hP : va_P (dC, dI) vwCl [(g0, .inr (5, [.int (zi co), .ref ps, .int (zi ru), .ref pk, .ref pa, .ref pb, .ref pq, .int (zi we), .int (zi (wr + 1)), .ref pw, .int (zi ty), .ref pt])), (pw, aI cI 12 (zup wf wr.toNat (48 + ((va / 100) % 10))))] H := hP
        have hD : va_D A [(g0, .inr (5, [.int (zi co), .ref ps, .int (zi ru), .ref pk, .ref pa, .ref pb, .ref pq, .int (zi we), .int (zi (wr + 1)), .ref pw, .int (zi ty), .ref pt])), (pw, aI cI 12 (zup wf wr.toNat (48 + ((va / 100) % 10))))] := hD
        refine lv_iload_n hx hb dX5_putNumber_50 rfl (lv_at hl 0 rfl) ?_
        refine zw_bipush hx hb dX5_putNumber_51 (by decide) ?_
        refine zw_idiv hx hb dX5_putNumber_53 (by omega) ⟨by omega, by omega⟩ ⟨by omega, by omega⟩ (by omega) ?_
        refine lv_istore_n (lv' := [(3, .int (zi 10)), (0, .ref g0), (1, .int (zi va)), (2, .int (zi 3))]) hx hb dX5_putNumber_54 rfl hl (by decide) rfl (fun ls hl => ?_)
        refine lv_goto (tgt := 33) hx hb dX5_putNumber_55 (by decide) ?_
        refine lv_iload_n hx hb dX5_putNumber_33 rfl (lv_at hl 0 rfl) ?_
        refine zw_if_le (tgt := 58) hx hb dX5_putNumber_34 (by decide) ⟨by omega, by omega⟩ (fun h5 => ?_) (fun h5 => ?_)
        · skip
          exact absurd True.intro (by omega)
        · skip
          refine lv_aload_n hx hb dX5_putNumber_37 rfl (lv_at hl 1 rfl) ?_
          refine zw_bipush hx hb dX5_putNumber_38 (by decide) ?_
          refine lv_iload_n hx hb dX5_putNumber_40 rfl (lv_at hl 2 rfl) ?_
          refine lv_iload_n hx hb dX5_putNumber_41 rfl (lv_at hl 0 rfl) ?_
          refine zw_idiv hx hb dX5_putNumber_42 (by omega) ⟨by omega, by omega⟩ ⟨by omega, by omega⟩ (by omega) ?_
          refine zw_bipush hx hb dX5_putNumber_43 (by decide) ?_
          refine zw_irem hx hb dX5_putNumber_45 (by omega) ⟨by omega, by omega⟩ ⟨by omega, by omega⟩ (by omega) ?_
          refine zw_iadd hx hb dX5_putNumber_46 ?_
          have hh6 := c_X5_put l dC dI cI g0 ps pk pa pb pq pw pt co ru we (wr + 1) ty (zup wf wr.toNat (48 + ((va / 100) % 10))) (48 + ((va / 10) % 10)) H.size (by omega)
          have hPc := hP.sub (ws' := [(g0, .inr (5, [.int (zi co), .ref ps, .int (zi ru), .ref pk, .ref pa, .ref pb, .ref pq, .int (zi we), .int (zi (wr + 1)), .ref pw, .int (zi ty), .ref pt])), (pw, aI cI 12 (zup wf wr.toNat (48 + ((va / 100) % 10))))]) [0, 1] rfl
          have hKc : va_K (dC, dI) vwCl [(cI, .int)] s := hK
          have hDc := hD.sub (ws' := [(g0, .inr (5, [.int (zi co), .ref ps, .int (zi ru), .ref pk, .ref pa, .ref pb, .ref pq, .int (zi we), .int (zi (wr + 1)), .ref pw, .int (zi ty), .ref pt])), (pw, aI cI 12 (zup wf wr.toNat (48 + ((va / 100) % 10))))]) [0, 1] (by decide) rfl
          have hFc := va_free (wc := [(g0, .inr (5, [.int (zi co), .ref ps, .int (zi ru), .ref pk, .ref pa, .ref pb, .ref pq, .int (zi we), .int (zi (wr + 1)), .ref pw, .int (zi ty), .ref pt])), (pw, aI cI 12 (zup wf wr.toNat (48 + ((va / 100) % 10))))]) hD hS hA [0, 1] rfl
          refine va_callv (va_runV (As := [.int (zi (48 + ((va / 10) % 10)))]) (rest := []) ⟨hx, hb, hml, hown, hts⟩ hh6 (cwV 1 hts gX5_putNumber_X5_put rfl rfl rfl (by decide +kernel) ⟨Nat.le_of_ble_eq_true rfl, Nat.le_of_ble_eq_true rfl⟩) ⟨zPw.blind _ _ _ _ _, va_recv hKc hPc (ci := 5) (q0 := 0) rfl rfl, fun U hU hW => ⟨rfl, by rw [hU], by rw [hU]; exact hPc, va_K.moved hW.alike hKc, hDc.weaken (fun _ _ _ _ => trivial)⟩⟩ rfl rfl hl.1 rfl (lv_room (Nat.le_of_ble_eq_true rfl)) dX5_putNumber_47 ⟨Nat.le_of_ble_eq_true rfl, Nat.le_of_ble_eq_true rfl⟩) hS (fun q _ h => hFc q h) hFc (fun u t H1 locs ht hvm hw hB hz1 hk1 hS => ?_)
          obtain ⟨hP1, hK1, hD1⟩ := hB
          rw [ht] at hP1
          obtain ⟨hP, hD⟩ := va_join (wr := []) (w1 := [(g0, .inr (5, [.int (zi co), .ref ps, .int (zi ru), .ref pk, .ref pa, .ref pb, .ref pq, .int (zi we), .int (zi ((wr + 1) + 1)), .ref pw, .int (zi ty), .ref pt])), (pw, aI cI 12 (zup (zup wf wr.toNat (48 + ((va / 100) % 10))) (Int.toNat (wr + 1)) (48 + ((va / 10) % 10))))]) hP hD [0, 1] [] rfl rfl (by decide) (by decide) hk1 hFc hP1 hD1
          generalize H1 = H at hP hS ⊢
          have hP : va_P (dC, dI) vwCl [(g0, .inr (5, [.int (zi co), .ref ps, .int (zi ru), .ref pk, .ref pa, .ref pb, .ref pq, .int (zi we), .int (zi ((wr + 1) + 1)), .ref pw, .int (zi ty), .ref pt])), (pw, aI cI 12 (zup (zup wf wr.toNat (48 + ((va / 100) % 10))) (Int.toNat (wr + 1)) (48 + ((va / 10) % 10))))] H := hP
          have hD : va_D A [(g0, .inr (5, [.int (zi co), .ref ps, .int (zi ru), .ref pk, .ref pa, .ref pb, .ref pq, .int (zi we), .int (zi ((wr + 1) + 1)), .ref pw, .int (zi ty), .ref pt])), (pw, aI cI 12 (zup (zup wf wr.toNat (48 + ((va / 100) % 10))) (Int.toNat (wr + 1)) (48 + ((va / 10) % 10))))] := hD
          refine lv_iload_n hx hb dX5_putNumber_50 rfl (lv_at hl 0 rfl) ?_
          refine zw_bipush hx hb dX5_putNumber_51 (by decide) ?_
          refine zw_idiv hx hb dX5_putNumber_53 (by omega) ⟨by omega, by omega⟩ ⟨by omega, by omega⟩ (by omega) ?_
          refine lv_istore_n (lv' := [(3, .int (zi 1)), (0, .ref g0), (1, .int (zi va)), (2, .int (zi 3))]) hx hb dX5_putNumber_54 rfl hl (by decide) rfl (fun ls hl => ?_)
          refine lv_goto (tgt := 33) hx hb dX5_putNumber_55 (by decide) ?_
          refine lv_iload_n hx hb dX5_putNumber_33 rfl (lv_at hl 0 rfl) ?_
          refine zw_if_le (tgt := 58) hx hb dX5_putNumber_34 (by decide) ⟨by omega, by omega⟩ (fun h7 => ?_) (fun h7 => ?_)
          · skip
            exact absurd True.intro (by omega)
          · skip
            refine lv_aload_n hx hb dX5_putNumber_37 rfl (lv_at hl 1 rfl) ?_
            refine zw_bipush hx hb dX5_putNumber_38 (by decide) ?_
            refine lv_iload_n hx hb dX5_putNumber_40 rfl (lv_at hl 2 rfl) ?_
            refine lv_iload_n hx hb dX5_putNumber_41 rfl (lv_at hl 0 rfl) ?_
            refine zw_idiv hx hb dX5_putNumber_42 (by omega) ⟨by omega, by omega⟩ ⟨by omega, by omega⟩ (by omega) ?_
            refine zw_bipush hx hb dX5_putNumber_43 (by decide) ?_
            refine zw_irem hx hb dX5_putNumber_45 (by omega) ⟨by omega, by omega⟩ ⟨by omega, by omega⟩ (by omega) ?_
            refine zw_iadd hx hb dX5_putNumber_46 ?_
            have hh8 := c_X5_put l dC dI cI g0 ps pk pa pb pq pw pt co ru we ((wr + 1) + 1) ty (zup (zup wf wr.toNat (48 + ((va / 100) % 10))) (Int.toNat (wr + 1)) (48 + ((va / 10) % 10))) (48 + ((va / 1) % 10)) H.size (by omega)
            have hPc := hP.sub (ws' := [(g0, .inr (5, [.int (zi co), .ref ps, .int (zi ru), .ref pk, .ref pa, .ref pb, .ref pq, .int (zi we), .int (zi ((wr + 1) + 1)), .ref pw, .int (zi ty), .ref pt])), (pw, aI cI 12 (zup (zup wf wr.toNat (48 + ((va / 100) % 10))) (Int.toNat (wr + 1)) (48 + ((va / 10) % 10))))]) [0, 1] rfl
            have hKc : va_K (dC, dI) vwCl [(cI, .int)] s := hK
            have hDc := hD.sub (ws' := [(g0, .inr (5, [.int (zi co), .ref ps, .int (zi ru), .ref pk, .ref pa, .ref pb, .ref pq, .int (zi we), .int (zi ((wr + 1) + 1)), .ref pw, .int (zi ty), .ref pt])), (pw, aI cI 12 (zup (zup wf wr.toNat (48 + ((va / 100) % 10))) (Int.toNat (wr + 1)) (48 + ((va / 10) % 10))))]) [0, 1] (by decide) rfl
            have hFc := va_free (wc := [(g0, .inr (5, [.int (zi co), .ref ps, .int (zi ru), .ref pk, .ref pa, .ref pb, .ref pq, .int (zi we), .int (zi ((wr + 1) + 1)), .ref pw, .int (zi ty), .ref pt])), (pw, aI cI 12 (zup (zup wf wr.toNat (48 + ((va / 100) % 10))) (Int.toNat (wr + 1)) (48 + ((va / 10) % 10))))]) hD hS hA [0, 1] rfl
            refine va_callv (va_runV (As := [.int (zi (48 + ((va / 1) % 10)))]) (rest := []) ⟨hx, hb, hml, hown, hts⟩ hh8 (cwV 1 hts gX5_putNumber_X5_put rfl rfl rfl (by decide +kernel) ⟨Nat.le_of_ble_eq_true rfl, Nat.le_of_ble_eq_true rfl⟩) ⟨zPw.blind _ _ _ _ _, va_recv hKc hPc (ci := 5) (q0 := 0) rfl rfl, fun U hU hW => ⟨rfl, by rw [hU], by rw [hU]; exact hPc, va_K.moved hW.alike hKc, hDc.weaken (fun _ _ _ _ => trivial)⟩⟩ rfl rfl hl.1 rfl (lv_room (Nat.le_of_ble_eq_true rfl)) dX5_putNumber_47 ⟨Nat.le_of_ble_eq_true rfl, Nat.le_of_ble_eq_true rfl⟩) hS (fun q _ h => hFc q h) hFc (fun u t H1 locs ht hvm hw hB hz1 hk1 hS => ?_)
            obtain ⟨hP1, hK1, hD1⟩ := hB
            rw [ht] at hP1
            obtain ⟨hP, hD⟩ := va_join (wr := []) (w1 := [(g0, .inr (5, [.int (zi co), .ref ps, .int (zi ru), .ref pk, .ref pa, .ref pb, .ref pq, .int (zi we), .int (zi (((wr + 1) + 1) + 1)), .ref pw, .int (zi ty), .ref pt])), (pw, aI cI 12 (zup (zup (zup wf wr.toNat (48 + ((va / 100) % 10))) (Int.toNat (wr + 1)) (48 + ((va / 10) % 10))) (Int.toNat ((wr + 1) + 1)) (48 + ((va / 1) % 10))))]) hP hD [0, 1] [] rfl rfl (by decide) (by decide) hk1 hFc hP1 hD1
            generalize H1 = H at hP hS ⊢
            have hP : va_P (dC, dI) vwCl [(g0, .inr (5, [.int (zi co), .ref ps, .int (zi ru), .ref pk, .ref pa, .ref pb, .ref pq, .int (zi we), .int (zi (((wr + 1) + 1) + 1)), .ref pw, .int (zi ty), .ref pt])), (pw, aI cI 12 (zup (zup (zup wf wr.toNat (48 + ((va / 100) % 10))) (Int.toNat (wr + 1)) (48 + ((va / 10) % 10))) (Int.toNat ((wr + 1) + 1)) (48 + ((va / 1) % 10))))] H := hP
            have hD : va_D A [(g0, .inr (5, [.int (zi co), .ref ps, .int (zi ru), .ref pk, .ref pa, .ref pb, .ref pq, .int (zi we), .int (zi (((wr + 1) + 1) + 1)), .ref pw, .int (zi ty), .ref pt])), (pw, aI cI 12 (zup (zup (zup wf wr.toNat (48 + ((va / 100) % 10))) (Int.toNat (wr + 1)) (48 + ((va / 10) % 10))) (Int.toNat ((wr + 1) + 1)) (48 + ((va / 1) % 10))))] := hD
            refine lv_iload_n hx hb dX5_putNumber_50 rfl (lv_at hl 0 rfl) ?_
            refine zw_bipush hx hb dX5_putNumber_51 (by decide) ?_
            refine zw_idiv hx hb dX5_putNumber_53 (by omega) ⟨by omega, by omega⟩ ⟨by omega, by omega⟩ (by omega) ?_
            refine lv_istore_n (lv' := [(3, .int (zi 0)), (0, .ref g0), (1, .int (zi va)), (2, .int (zi 3))]) hx hb dX5_putNumber_54 rfl hl (by decide) rfl (fun ls hl => ?_)
            refine lv_goto (tgt := 33) hx hb dX5_putNumber_55 (by decide) ?_
            refine lv_iload_n hx hb dX5_putNumber_33 rfl (lv_at hl 0 rfl) ?_
            refine zw_if_le (tgt := 58) hx hb dX5_putNumber_34 (by decide) ⟨by omega, by omega⟩ (fun h9 => ?_) (fun h9 => ?_)
            · skip
              have hP9 := hP.sub (ws' := [(g0, .inr (5, [.int (zi co), .ref ps, .int (zi ru), .ref pk, .ref pa, .ref pb, .ref pq, .int (zi we), .int (zi (((wr + 1) + 1) + 1)), .ref pw, .int (zi ty), .ref pt])), (pw, aI cI 12 (zup (zup (zup wf wr.toNat (48 + ((va / 100) % 10))) (Int.toNat (wr + 1)) (48 + ((va / 10) % 10))) (Int.toNat ((wr + 1) + 1)) (48 + ((va / 1) % 10))))]) [0, 1] rfl
              have hD9 := hD.sub (ws' := [(g0, .inr (5, [.int (zi co), .ref ps, .int (zi ru), .ref pk, .ref pa, .ref pb, .ref pq, .int (zi we), .int (zi (((wr + 1) + 1) + 1)), .ref pw, .int (zi ty), .ref pt])), (pw, aI cI 12 (zup (zup (zup wf wr.toNat (48 + ((va / 100) % 10))) (Int.toNat (wr + 1)) (48 + ((va / 10) % 10))) (Int.toNat ((wr + 1) + 1)) (48 + ((va / 1) % 10))))]) [0, 1] (by decide) rfl
              exact W.vret hx hb hr (fun t ht hW => ⟨⟨(), rfl, trivial, by rw [ht]; exact hP9, va_K.moved hW.alike hK, hD9⟩, hS.F ht⟩) hS.2.2 dX5_putNumber_58
            · skip
              exact absurd True.intro (by omega)
  · skip
    exact absurd True.intro (by omega)

set_option maxHeartbeats 4000000 in
set_option maxRecDepth 100000 in
theorem c_X5_putNumber_2 (l : Launch)  (dC : Nat → ClassId) (dI : Nat → Nat → Nat) (cI : ClassId) (g0 : Nat) (ps : Nat) (pk : Nat) (pa : Nat) (pb : Nat) (pq : Nat) (pw : Nat) (pt : Nat) (co : Int) (ru : Int) (we : Int) (wr : Int) (ty : Int) (wf : Nat → Int) (va : Int) (sz : Nat) (hp0 : 0 ≤ wr ∧ wr ≤ 10) (hp1 : 0 ≤ va ∧ va ≤ 99999) : Met l yX5_putNumber wsX5_putNumber ({ frames := 1, cells := 0, slots := 0, locals := 21 }) (zPw (dC, dI) [(cI, .int)] sz [.ref g0, .int (zi va), .int (zi 2)] [(g0, .inr (5, [.int (zi co), .ref ps, .int (zi ru), .ref pk, .ref pa, .ref pb, .ref pq, .int (zi we), .int (zi wr), .ref pw, .int (zi ty), .ref pt])), (pw, aI cI 12 wf)]) (va_Qv (fun (_ : Unit) => True) (zB (dC, dI) [(cI, .int)] (va_A [(g0, .inr (5, [.int (zi co), .ref ps, .int (zi ru), .ref pk, .ref pa, .ref pb, .ref pq, .int (zi we), .int (zi wr), .ref pw, .int (zi ty), .ref pt])), (pw, aI cI 12 wf)] sz) [(g0, .inr (5, [.int (zi co), .ref ps, .int (zi ru), .ref pk, .ref pa, .ref pb, .ref pq, .int (zi we), .int (zi ((wr + 1) + 1)), .ref pw, .int (zi ty), .ref pt])), (pw, aI cI 12 (zup (zup wf wr.toNat (48 + ((va / 10) % 10))) (Int.toNat (wr + 1)) (48 + ((va / 1) % 10))))]) (va_A [(g0, .inr (5, [.int (zi co), .ref ps, .int (zi ru), .ref pk, .ref pa, .ref pb, .ref pq, .int (zi we), .int (zi wr), .ref pw, .int (zi ty), .ref pt])), (pw, aI cI 12 wf)] sz)) 0 0 (va_A [(g0, .inr (5, [.int (zi co), .ref ps, .int (zi ru), .ref pk, .ref pa, .ref pb, .ref pq, .int (zi we), .int (zi wr), .ref pw, .int (zi ty), .ref pt])), (pw, aI cI 12 wf)] sz) := by
  refine Met.ofW (cc := cX5_putNumber) (maxL := 4) (ret := none) (by decide) rfl ?_
  intro p e s m args below meth c s₁ B hml hv
  obtain ⟨rfl, hsz, hP, hK, hD0⟩ := hv
  have hx := B.exec
  have hb := B.bytes
  have hr := B.returns
  have hts := atoms_spec (ws := wsX5_putNumber) B.pre
  have hown : s.vm.findClass RX5 = some m.cls := findClass_of_methodNamed B.named
  have hlocks := B.notSynchronized
  subst hsz
  have hD := hD0.self (sz := s.heap.size)
  generalize hAe : va_A [(g0, .inr (5, [.int (zi co), .ref ps, .int (zi ru), .ref pk, .ref pa, .ref pb, .ref pq, .int (zi we), .int (zi wr), .ref pw, .int (zi ty), .ref pt])), (pw, aI cI 12 wf)] s.heap.size = A at hD ⊢
  have hA : ∀ q : Nat, s.heap.size ≤ q → A q := fun q h => by rw [← hAe]; exact Or.inr h
  have hS : va_S A s.heap s.heap [] := va_S.rf
  have hP : va_P (dC, dI) vwCl [(g0, .inr (5, [.int (zi co), .ref ps, .int (zi ru), .ref pk, .ref pa, .ref pb, .ref pq, .int (zi we), .int (zi wr), .ref pw, .int (zi ty), .ref pt])), (pw, aI cI 12 wf)] s.heap := hP
  have hl := lv_entry ([.ref g0, .int (zi va), .int (zi 2)]) (n := 4) (Nat.le_of_ble_eq_true rfl)
  rw [lg_entry_eq]
  generalize (lg_sl ([.ref g0, .int (zi va), .int (zi 2)]) ++ List.replicate (4 - (lg_sl ([.ref g0, .int (zi va), .int (zi 2)])).length) Slot.unset).toArray = ls at hl ⊢
  have hl : lv_has ls 4 [(0, .ref g0), (1, .int (zi va)), (2, .int (zi 2))] := hl
  refine lv_iload_n hx hb dX5_putNumber_0 rfl (lv_at hl 2 rfl) ?_
  refine zw_iconst hx hb dX5_putNumber_1 ?_
  refine zw_icmp_ne (tgt := 11) hx hb dX5_putNumber_2 (by decide) ⟨by omega, by omega⟩ ⟨by omega, by omega⟩ (fun h1 => ?_) (fun h1 => ?_)
  · skip
    refine lv_iload_n hx hb dX5_putNumber_11 rfl (lv_at hl 2 rfl) ?_
    refine zw_iconst hx hb dX5_putNumber_12 ?_
    refine zw_icmp_ne (tgt := 21) hx hb dX5_putNumber_13 (by decide) ⟨by omega, by omega⟩ ⟨by omega, by omega⟩ (fun h2 => ?_) (fun h2 => ?_)
    · skip
      refine lv_iload_n hx hb dX5_putNumber_21 rfl (lv_at hl 2 rfl) ?_
      refine zw_iconst hx hb dX5_putNumber_22 ?_
      refine zw_icmp_ne (tgt := 31) hx hb dX5_putNumber_23 (by decide) ⟨by omega, by omega⟩ ⟨by omega, by omega⟩ (fun h3 => ?_) (fun h3 => ?_)
      · skip
        exact absurd True.intro (by omega)
      · skip
        refine zw_bipush hx hb dX5_putNumber_26 (by decide) ?_
        refine lv_goto (tgt := 32) hx hb dX5_putNumber_28 (by decide) ?_
        refine lv_istore_n (lv' := [(3, .int (zi 10)), (0, .ref g0), (1, .int (zi va)), (2, .int (zi 2))]) hx hb dX5_putNumber_32 rfl hl (by decide) rfl (fun ls hl => ?_)
        refine lv_iload_n hx hb dX5_putNumber_33 rfl (lv_at hl 0 rfl) ?_
        refine zw_if_le (tgt := 58) hx hb dX5_putNumber_34 (by decide) ⟨by omega, by omega⟩ (fun h4 => ?_) (fun h4 => ?_)
        · skip
          exact absurd True.intro (by omega)
        · skip
          refine lv_aload_n hx hb dX5_putNumber_37 rfl (lv_at hl 1 rfl) ?_
          refine zw_bipush hx hb dX5_putNumber_38 (by decide) ?_
          refine lv_iload_n hx hb dX5_putNumber_40 rfl (lv_at hl 2 rfl) ?_
          refine lv_iload_n hx hb dX5_putNumber_41 rfl (lv_at hl 0 rfl) ?_
          refine zw_idiv hx hb dX5_putNumber_42 (by omega) ⟨by omega, by omega⟩ ⟨by omega, by omega⟩ (by omega) ?_
          refine zw_bipush hx hb dX5_putNumber_43 (by decide) ?_
          refine zw_irem hx hb dX5_putNumber_45 (by omega) ⟨by omega, by omega⟩ ⟨by omega, by omega⟩ (by omega) ?_
          refine zw_iadd hx hb dX5_putNumber_46 ?_
          have hh5 := c_X5_put l dC dI cI g0 ps pk pa pb pq pw pt co ru we wr ty wf (48 + ((va / 10) % 10)) s.heap.size (by omega)
          have hPc := hP.sub (ws' := [(g0, .inr (5, [.int (zi co), .ref ps, .int (zi ru), .ref pk, .ref pa, .ref pb, .ref pq, .int (zi we), .int (zi wr), .ref pw, .int (zi ty), .ref pt])), (pw, aI cI 12 wf)]) [0, 1] rfl
          have hKc : va_K (dC, dI) vwCl [(cI, .int)] s := hK
          have hDc := hD.sub (ws' := [(g0, .inr (5, [.int (zi co), .ref ps, .int (zi ru), .ref pk, .ref pa, .ref pb, .ref pq, .int (zi we), .int (zi wr), .ref pw, .int (zi ty), .ref pt])), (pw, aI cI 12 wf)]) [0, 1] (by decide) rfl
          have hFc := va_free (wc := [(g0, .inr (5, [.int (zi co), .ref ps, .int (zi ru), .ref pk, .ref pa, .ref pb, .ref pq, .int (zi we), .int (zi wr), .ref pw, .int (zi ty), .ref pt])), (pw, aI cI 12 wf)]) hD hS hA [0, 1] rfl
          refine va_callv (va_runV (As := [.int (zi (48 + ((va / 10) % 10)))]) (rest := []) ⟨hx, hb, hml, hown, hts⟩ hh5 (cwV 1 hts gX5_putNumber_X5_put rfl rfl rfl (by decide +kernel) ⟨Nat.le_of_ble_eq_true rfl, Nat.le_of_ble_eq_true rfl⟩) ⟨zPw.blind _ _ _ _ _, va_recv hKc hPc (ci := 5) (q0 := 0) rfl rfl, fun U hU hW => ⟨rfl, by rw [hU], by rw [hU]; exact hPc, va_K.moved hW.alike hKc, hDc.weaken (fun _ _ _ _ => trivial)⟩⟩ rfl rfl hl.1 rfl (lv_room (Nat.le_of_ble_eq_true rfl)) dX5_putNumber_47 ⟨Nat.le_of_ble_eq_true rfl, Nat.le_of_ble_eq_true rfl⟩) hS (fun q _ h => hFc q h) hFc (fun u t H1 locs ht hvm hw hB hz1 hk1 hS => ?_)
          obtain ⟨hP1, hK1, hD1⟩ := hB
          rw [ht] at hP1
          obtain ⟨hP, hD⟩ := va_join (wr := []) (w1 := [(g0, .inr (5, [.int (zi co), .ref ps, .int (zi ru), .ref pk, .ref pa, .ref pb, .ref pq, .int (zi we), .int (zi (wr + 1)), .ref pw, .int (zi ty), .ref pt])), (pw, aI cI 12 (zup wf wr.toNat (48 + ((va / 10) % 10))))]) hP hD [0, 1] [] rfl rfl (by decide) (by decide) hk1 hFc hP1 hD1
          generalize H1 = H at hP hS ⊢
          have hP : va_P (dC, dI) vwCl [(g0, .inr (5, [.int (zi co), .ref ps, .int (zi ru), .ref pk, .ref pa, .ref pb, .ref pq, .int (zi we), .int (zi (wr + 1)), .ref pw, .int (zi ty), .ref pt])), (pw, aI cI 12 (zup wf wr.toNat (48 + ((va / 10) % 10))))] H := hP
          have hD : va_D A [(g0, .inr (5, [.int (zi co), .ref ps, .int (zi ru), .ref pk, .ref pa, .ref pb, .ref pq, .int (zi we), .int (zi (wr + 1)), .ref pw, .int (zi ty), .ref pt])), (pw, aI cI 12 (zup wf wr.toNat (48 + ((va / 10) % 10))))] := hD
          refine lv_iload_n hx hb dX5_putNumber_50 rfl (lv_at hl 0 rfl) ?_
          refine zw_bipush hx hb dX5_putNumber_51 (by decide) ?_
          refine zw_idiv hx hb dX5_putNumber_53 (by omega) ⟨by omega, by omega⟩ ⟨by omega, by omega⟩ (by omega) ?_
          refine lv_istore_n (lv' := [(3, .int (zi 1)), (0, .ref g0), (1, .int (zi va)), (2, .int (zi 2))]) hx hb dX5_putNumber_54 rfl hl (by decide) rfl (fun ls hl => ?_)
          refine lv_goto (tgt := 33) hx hb dX5_putNumber_55 (by decide) ?_
          refine lv_iload_n hx hb dX5_putNumber_33 rfl (lv_at hl 0 rfl) ?_
          refine zw_if_le (tgt := 58) hx hb dX5_putNumber_34 (by decide) ⟨by omega, by omega⟩ (fun h6 => ?_) (fun h6 => ?_)
          · skip
            exact absurd True.intro (by omega)
          · skip
            refine lv_aload_n hx hb dX5_putNumber_37 rfl (lv_at hl 1 rfl) ?_
            refine zw_bipush hx hb dX5_putNumber_38 (by decide) ?_
            refine lv_iload_n hx hb dX5_putNumber_40 rfl (lv_at hl 2 rfl) ?_
            refine lv_iload_n hx hb dX5_putNumber_41 rfl (lv_at hl 0 rfl) ?_
            refine zw_idiv hx hb dX5_putNumber_42 (by omega) ⟨by omega, by omega⟩ ⟨by omega, by omega⟩ (by omega) ?_
            refine zw_bipush hx hb dX5_putNumber_43 (by decide) ?_
            refine zw_irem hx hb dX5_putNumber_45 (by omega) ⟨by omega, by omega⟩ ⟨by omega, by omega⟩ (by omega) ?_
            refine zw_iadd hx hb dX5_putNumber_46 ?_
            have hh7 := c_X5_put l dC dI cI g0 ps pk pa pb pq pw pt co ru we (wr + 1) ty (zup wf wr.toNat (48 + ((va / 10) % 10))) (48 + ((va / 1) % 10)) H.size (by omega)
            have hPc := hP.sub (ws' := [(g0, .inr (5, [.int (zi co), .ref ps, .int (zi ru), .ref pk, .ref pa, .ref pb, .ref pq, .int (zi we), .int (zi (wr + 1)), .ref pw, .int (zi ty), .ref pt])), (pw, aI cI 12 (zup wf wr.toNat (48 + ((va / 10) % 10))))]) [0, 1] rfl
            have hKc : va_K (dC, dI) vwCl [(cI, .int)] s := hK
            have hDc := hD.sub (ws' := [(g0, .inr (5, [.int (zi co), .ref ps, .int (zi ru), .ref pk, .ref pa, .ref pb, .ref pq, .int (zi we), .int (zi (wr + 1)), .ref pw, .int (zi ty), .ref pt])), (pw, aI cI 12 (zup wf wr.toNat (48 + ((va / 10) % 10))))]) [0, 1] (by decide) rfl
            have hFc := va_free (wc := [(g0, .inr (5, [.int (zi co), .ref ps, .int (zi ru), .ref pk, .ref pa, .ref pb, .ref pq, .int (zi we), .int (zi (wr + 1)), .ref pw, .int (zi ty), .ref pt])), (pw, aI cI 12 (zup wf wr.toNat (48 + ((va / 10) % 10))))]) hD hS hA [0, 1] rfl
            refine va_callv (va_runV (As := [.int (zi (48 + ((va / 1) % 10)))]) (rest := []) ⟨hx, hb, hml, hown, hts⟩ hh7 (cwV 1 hts gX5_putNumber_X5_put rfl rfl rfl (by decide +kernel) ⟨Nat.le_of_ble_eq_true rfl, Nat.le_of_ble_eq_true rfl⟩) ⟨zPw.blind _ _ _ _ _, va_recv hKc hPc (ci := 5) (q0 := 0) rfl rfl, fun U hU hW => ⟨rfl, by rw [hU], by rw [hU]; exact hPc, va_K.moved hW.alike hKc, hDc.weaken (fun _ _ _ _ => trivial)⟩⟩ rfl rfl hl.1 rfl (lv_room (Nat.le_of_ble_eq_true rfl)) dX5_putNumber_47 ⟨Nat.le_of_ble_eq_true rfl, Nat.le_of_ble_eq_true rfl⟩) hS (fun q _ h => hFc q h) hFc (fun u t H1 locs ht hvm hw hB hz1 hk1 hS => ?_)
            obtain ⟨hP1, hK1, hD1⟩ := hB
            rw [ht] at hP1
            obtain ⟨hP, hD⟩ := va_join (wr := []) (w1 := [(g0, .inr (5, [.int (zi co), .ref ps, .int (zi ru), .ref pk, .ref pa, .ref pb, .ref pq, .int (zi we), .int (zi ((wr + 1) + 1)), .ref pw, .int (zi ty), .ref pt])), (pw, aI cI 12 (zup (zup wf wr.toNat (48 + ((va / 10) % 10))) (Int.toNat (wr + 1)) (48 + ((va / 1) % 10))))]) hP hD [0, 1] [] rfl rfl (by decide) (by decide) hk1 hFc hP1 hD1
            generalize H1 = H at hP hS ⊢
            have hP : va_P (dC, dI) vwCl [(g0, .inr (5, [.int (zi co), .ref ps, .int (zi ru), .ref pk, .ref pa, .ref pb, .ref pq, .int (zi we), .int (zi ((wr + 1) + 1)), .ref pw, .int (zi ty), .ref pt])), (pw, aI cI 12 (zup (zup wf wr.toNat (48 + ((va / 10) % 10))) (Int.toNat (wr + 1)) (48 + ((va / 1) % 10))))] H := hP
            have hD : va_D A [(g0, .inr (5, [.int (zi co), .ref ps, .int (zi ru), .ref pk, .ref pa, .ref pb, .ref pq, .int (zi we), .int (zi ((wr + 1) + 1)), .ref pw, .int (zi ty), .ref pt])), (pw, aI cI 12 (zup (zup wf wr.toNat (48 + ((va / 10) % 10))) (Int.toNat (wr + 1)) (48 + ((va / 1) % 10))))] := hD
            refine lv_iload_n hx hb dX5_putNumber_50 rfl (lv_at hl 0 rfl) ?_
            refine zw_bipush hx hb dX5_putNumber_51 (by decide) ?_
            refine zw_idiv hx hb dX5_putNumber_53 (by omega) ⟨by omega, by omega⟩ ⟨by omega, by omega⟩ (by omega) ?_
            refine lv_istore_n (lv' := [(3, .int (zi 0)), (0, .ref g0), (1, .int (zi va)), (2, .int (zi 2))]) hx hb dX5_putNumber_54 rfl hl (by decide) rfl (fun ls hl => ?_)
            refine lv_goto (tgt := 33) hx hb dX5_putNumber_55 (by decide) ?_
            refine lv_iload_n hx hb dX5_putNumber_33 rfl (lv_at hl 0 rfl) ?_
            refine zw_if_le (tgt := 58) hx hb dX5_putNumber_34 (by decide) ⟨by omega, by omega⟩ (fun h8 => ?_) (fun h8 => ?_)
            · skip
              have hP9 := hP.sub (ws' := [(g0, .inr (5, [.int (zi co), .ref ps, .int (zi ru), .ref pk, .ref pa, .ref pb, .ref pq, .int (zi we), .int (zi ((wr + 1) + 1)), .ref pw, .int (zi ty), .ref pt])), (pw, aI cI 12 (zup (zup wf wr.toNat (48 + ((va / 10) % 10))) (Int.toNat (wr + 1)) (48 + ((va / 1) % 10))))]) [0, 1] rfl
              have hD9 := hD.sub (ws' := [(g0, .inr (5, [.int (zi co), .ref ps, .int (zi ru), .ref pk, .ref pa, .ref pb, .ref pq, .int (zi we), .int (zi ((wr + 1) + 1)), .ref pw, .int (zi ty), .ref pt])), (pw, aI cI 12 (zup (zup wf wr.toNat (48 + ((va / 10) % 10))) (Int.toNat (wr + 1)) (48 + ((va / 1) % 10))))]) [0, 1] (by decide) rfl
              exact W.vret hx hb hr (fun t ht hW => ⟨⟨(), rfl, trivial, by rw [ht]; exact hP9, va_K.moved hW.alike hK, hD9⟩, hS.F ht⟩) hS.2.2 dX5_putNumber_58
            · skip
              exact absurd True.intro (by omega)
    · skip
      exact absurd True.intro (by omega)
  · skip
    exact absurd True.intro (by omega)

set_option maxHeartbeats 4000000 in
set_option maxRecDepth 100000 in
theorem c_X5_putNumber_1 (l : Launch)  (dC : Nat → ClassId) (dI : Nat → Nat → Nat) (cI : ClassId) (g0 : Nat) (ps : Nat) (pk : Nat) (pa : Nat) (pb : Nat) (pq : Nat) (pw : Nat) (pt : Nat) (co : Int) (ru : Int) (we : Int) (wr : Int) (ty : Int) (wf : Nat → Int) (va : Int) (sz : Nat) (hp0 : 0 ≤ wr ∧ wr ≤ 11) (hp1 : 0 ≤ va ∧ va ≤ 99999) : Met l yX5_putNumber wsX5_putNumber ({ frames := 1, cells := 0, slots := 0, locals := 21 }) (zPw (dC, dI) [(cI, .int)] sz [.ref g0, .int (zi va), .int (zi 1)] [(g0, .inr (5, [.int (zi co), .ref ps, .int (zi ru), .ref pk, .ref pa, .ref pb, .ref pq, .int (zi we), .int (zi wr), .ref pw, .int (zi ty), .ref pt])), (pw, aI cI 12 wf)]) (va_Qv (fun (_ : Unit) => True) (zB (dC, dI) [(cI, .int)] (va_A [(g0, .inr (5, [.int (zi co), .ref ps, .int (zi ru), .ref pk, .ref pa, .ref pb, .ref pq, .int (zi we), .int (zi wr), .ref pw, .int (zi ty), .ref pt])), (pw, aI cI 12 wf)] sz) [(g0, .inr (5, [.int (zi co), .ref ps, .int (zi ru), .ref pk, .ref pa, .ref pb, .ref pq, .int (zi we), .int (zi (wr + 1)), .ref pw, .int (zi ty), .ref pt])), (pw, aI cI 12 (zup wf wr.toNat (48 + ((va / 1) % 10))))]) (va_A [(g0, .inr (5, [.int (zi co), .ref ps, .int (zi ru), .ref pk, .ref pa, .ref pb, .ref pq, .int (zi we), .int (zi wr), .ref pw, .int (zi ty), .ref pt])), (pw, aI cI 12 wf)] sz)) 0 0 (va_A [(g0, .inr (5, [.int (zi co), .ref ps, .int (zi ru), .ref pk, .ref pa, .ref pb, .ref pq, .int (zi we), .int (zi wr), .ref pw, .int (zi ty), .ref pt])), (pw, aI cI 12 wf)] sz) := by
  refine Met.ofW (cc := cX5_putNumber) (maxL := 4) (ret := none) (by decide) rfl ?_
  intro p e s m args below meth c s₁ B hml hv
  obtain ⟨rfl, hsz, hP, hK, hD0⟩ := hv
  have hx := B.exec
  have hb := B.bytes
  have hr := B.returns
  have hts := atoms_spec (ws := wsX5_putNumber) B.pre
  have hown : s.vm.findClass RX5 = some m.cls := findClass_of_methodNamed B.named
  have hlocks := B.notSynchronized
  subst hsz
  have hD := hD0.self (sz := s.heap.size)
  generalize hAe : va_A [(g0, .inr (5, [.int (zi co), .ref ps, .int (zi ru), .ref pk, .ref pa, .ref pb, .ref pq, .int (zi we), .int (zi wr), .ref pw, .int (zi ty), .ref pt])), (pw, aI cI 12 wf)] s.heap.size = A at hD ⊢
  have hA : ∀ q : Nat, s.heap.size ≤ q → A q := fun q h => by rw [← hAe]; exact Or.inr h
  have hS : va_S A s.heap s.heap [] := va_S.rf
  have hP : va_P (dC, dI) vwCl [(g0, .inr (5, [.int (zi co), .ref ps, .int (zi ru), .ref pk, .ref pa, .ref pb, .ref pq, .int (zi we), .int (zi wr), .ref pw, .int (zi ty), .ref pt])), (pw, aI cI 12 wf)] s.heap := hP
  have hl := lv_entry ([.ref g0, .int (zi va), .int (zi 1)]) (n := 4) (Nat.le_of_ble_eq_true rfl)
  rw [lg_entry_eq]
  generalize (lg_sl ([.ref g0, .int (zi va), .int (zi 1)]) ++ List.replicate (4 - (lg_sl ([.ref g0, .int (zi va), .int (zi 1)])).length) Slot.unset).toArray = ls at hl ⊢
  have hl : lv_has ls 4 [(0, .ref g0), (1, .int (zi va)), (2, .int (zi 1))] := hl
  refine lv_iload_n hx hb dX5_putNumber_0 rfl (lv_at hl 2 rfl) ?_
  refine zw_iconst hx hb dX5_putNumber_1 ?_
  refine zw_icmp_ne (tgt := 11) hx hb dX5_putNumber_2 (by decide) ⟨by omega, by omega⟩ ⟨by omega, by omega⟩ (fun h1 => ?_) (fun h1 => ?_)
  · skip
    refine lv_iload_n hx hb dX5_putNumber_11 rfl (lv_at hl 2 rfl) ?_
    refine zw_iconst hx hb dX5_putNumber_12 ?_
    refine zw_icmp_ne (tgt := 21) hx hb dX5_putNumber_13 (by decide) ⟨by omega, by omega⟩ ⟨by omega, by omega⟩ (fun h2 => ?_) (fun h2 => ?_)
    · skip
      refine lv_iload_n hx hb dX5_putNumber_21 rfl (lv_at hl 2 rfl) ?_
      refine zw_iconst hx hb dX5_putNumber_22 ?_
      refine zw_icmp_ne (tgt := 31) hx hb dX5_putNumber_23 (by decide) ⟨by omega, by omega⟩ ⟨by omega, by omega⟩ (fun h3 => ?_) (fun h3 => ?_)
      · skip
        refine zw_iconst hx hb dX5_putNumber_31 ?_
        refine lv_istore_n (lv' := [(3, .int (zi 1)), (0, .ref g0), (1, .int (zi va)), (2, .int (zi 1))]) hx hb dX5_putNumber_32 rfl hl (by decide) rfl (fun ls hl => ?_)
        refine lv_iload_n hx hb dX5_putNumber_33 rfl (lv_at hl 0 rfl) ?_
        refine zw_if_le (tgt := 58) hx hb dX5_putNumber_34 (by decide) ⟨by omega, by omega⟩ (fun h4 => ?_) (fun h4 => ?_)
        · skip
          exact absurd True.intro (by omega)
        · skip
          refine lv_aload_n hx hb dX5_putNumber_37 rfl (lv_at hl 1 rfl) ?_
          refine zw_bipush hx hb dX5_putNumber_38 (by decide) ?_
          refine lv_iload_n hx hb dX5_putNumber_40 rfl (lv_at hl 2 rfl) ?_
          refine lv_iload_n hx hb dX5_putNumber_41 rfl (lv_at hl 0 rfl) ?_
          refine zw_idiv hx hb dX5_putNumber_42 (by omega) ⟨by omega, by omega⟩ ⟨by omega, by omega⟩ (by omega) ?_
          refine zw_bipush hx hb dX5_putNumber_43 (by decide) ?_
          refine zw_irem hx hb dX5_putNumber_45 (by omega) ⟨by omega, by omega⟩ ⟨by omega, by omega⟩ (by omega) ?_
          refine zw_iadd hx hb dX5_putNumber_46 ?_
          have hh5 := c_X5_put l dC dI cI g0 ps pk pa pb pq pw pt co ru we wr ty wf (48 + ((va / 1) % 10)) s.heap.size (by omega)
          have hPc := hP.sub (ws' := [(g0, .inr (5, [.int (zi co), .ref ps, .int (zi ru), .ref pk, .ref pa, .ref pb, .ref pq, .int (zi we), .int (zi wr), .ref pw, .int (zi ty), .ref pt])), (pw, aI cI 12 wf)]) [0, 1] rfl
          have hKc : va_K (dC, dI) vwCl [(cI, .int)] s := hK
          have hDc := hD.sub (ws' := [(g0, .inr (5, [.int (zi co), .ref ps, .int (zi ru), .ref pk, .ref pa, .ref pb, .ref pq, .int (zi we), .int (zi wr), .ref pw, .int (zi ty), .ref pt])), (pw, aI cI 12 wf)]) [0, 1] (by decide) rfl
          have hFc := va_free (wc := [(g0, .inr (5, [.int (zi co), .ref ps, .int (zi ru), .ref pk, .ref pa, .ref pb, .ref pq, .int (zi we), .int (zi wr), .ref pw, .int (zi ty), .ref pt])), (pw, aI cI 12 wf)]) hD hS hA [0, 1] rfl
          refine va_callv (va_runV (As := [.int (zi (48 + ((va / 1) % 10)))]) (rest := []) ⟨hx, hb, hml, hown, hts⟩ hh5 (cwV 1 hts gX5_putNumber_X5_put rfl rfl rfl (by decide +kernel) ⟨Nat.le_of_ble_eq_true rfl, Nat.le_of_ble_eq_true rfl⟩) ⟨zPw.blind _ _ _ _ _, va_recv hKc hPc (ci := 5) (q0 := 0) rfl rfl, fun U hU hW => ⟨rfl, by rw [hU], by rw [hU]; exact hPc, va_K.moved hW.alike hKc, hDc.weaken (fun _ _ _ _ => trivial)⟩⟩ rfl rfl hl.1 rfl (lv_room (Nat.le_of_ble_eq_true rfl)) dX5_putNumber_47 ⟨Nat.le_of_ble_eq_true rfl, Nat.le_of_ble_eq_true rfl⟩) hS (fun q _ h => hFc q h) hFc (fun u t H1 locs ht hvm hw hB hz1 hk1 hS => ?_)
          obtain ⟨hP1, hK1, hD1⟩ := hB
          rw [ht] at hP1
          obtain ⟨hP, hD⟩ := va_join (wr := []) (w1 := [(g0, .inr (5, [.int (zi co), .ref ps, .int (zi ru), .ref pk, .ref pa, .ref pb, .ref pq, .int (zi we), .int (zi (wr + 1)), .ref pw, .int (zi ty), .ref pt])), (pw, aI cI 12 (zup wf wr.toNat (48 + ((va / 1) % 10))))]) hP hD [0, 1] [] rfl rfl (by decide) (by decide) hk1 hFc hP1 hD1
          generalize H1 = H at hP hS ⊢
          have hP : va_P (dC, dI) vwCl [(g0, .inr (5, [.int (zi co), .ref ps, .int (zi ru), .ref pk, .ref pa, .ref pb, .ref pq, .int (zi we), .int (zi (wr + 1)), .ref pw, .int (zi ty), .ref pt])), (pw, aI cI 12 (zup wf wr.toNat (48 + ((va / 1) % 10))))] H := hP
          have hD : va_D A [(g0, .inr (5, [.int (zi co), .ref ps, .int (zi ru), .ref pk, .ref pa, .ref pb, .ref pq, .int (zi we), .int (zi (wr + 1)), .ref pw, .int (zi ty), .ref pt])), (pw, aI cI 12 (zup wf wr.toNat (48 + ((va / 1) % 10))))] := hD
          refine lv_iload_n hx hb dX5_putNumber_50 rfl (lv_at hl 0 rfl) ?_
          refine zw_bipush hx hb dX5_putNumber_51 (by decide) ?_
          refine zw_idiv hx hb dX5_putNumber_53 (by omega) ⟨by omega, by omega⟩ ⟨by omega, by omega⟩ (by omega) ?_
          refine lv_istore_n (lv' := [(3, .int (zi 0)), (0, .ref g0), (1, .int (zi va)), (2, .int (zi 1))]) hx hb dX5_putNumber_54 rfl hl (by decide) rfl (fun ls hl => ?_)
          refine lv_goto (tgt := 33) hx hb dX5_putNumber_55 (by decide) ?_
          refine lv_iload_n hx hb dX5_putNumber_33 rfl (lv_at hl 0 rfl) ?_
          refine zw_if_le (tgt := 58) hx hb dX5_putNumber_34 (by decide) ⟨by omega, by omega⟩ (fun h6 => ?_) (fun h6 => ?_)
          · skip
            have hP9 := hP.sub (ws' := [(g0, .inr (5, [.int (zi co), .ref ps, .int (zi ru), .ref pk, .ref pa, .ref pb, .ref pq, .int (zi we), .int (zi (wr + 1)), .ref pw, .int (zi ty), .ref pt])), (pw, aI cI 12 (zup wf wr.toNat (48 + ((va / 1) % 10))))]) [0, 1] rfl
            have hD9 := hD.sub (ws' := [(g0, .inr (5, [.int (zi co), .ref ps, .int (zi ru), .ref pk, .ref pa, .ref pb, .ref pq, .int (zi we), .int (zi (wr + 1)), .ref pw, .int (zi ty), .ref pt])), (pw, aI cI 12 (zup wf wr.toNat (48 + ((va / 1) % 10))))]) [0, 1] (by decide) rfl
            exact W.vret hx hb hr (fun t ht hW => ⟨⟨(), rfl, trivial, by rw [ht]; exact hP9, va_K.moved hW.alike hK, hD9⟩, hS.F ht⟩) hS.2.2 dX5_putNumber_58
          · skip
            exact absurd True.intro (by omega)
      · skip
        exact absurd True.intro (by omega)
    · skip
      exact absurd True.intro (by omega)
  · skip
    exact absurd True.intro (by omega)

set_option maxHeartbeats 4000000 in
set_option maxRecDepth 100000 in
theorem c_X5_write_1 (l : Launch)  (dC : Nat → ClassId) (dI : Nat → Nat → Nat) (cI : ClassId) (g0 : Nat) (ps : Nat) (pk : Nat) (pa : Nat) (pb : Nat) (pq : Nat) (pw : Nat) (pt : Nat) (co : Int) (ru : Int) (we : Int) (wr : Int) (ty : Int) (sf : Nat → Int) (wf : Nat → Int) (sl : Int) (tx : Int) (sz : Nat) (hp0 : -2147483648 ≤ sl ∧ sl ≤ 2147483647) (hp1 : sl < 0 ∨ 9 < sl) (hp2 : -2147483648 ≤ tx ∧ tx ≤ 2147483647) : Met l yX5_write wsX5_write ({ frames := 2, cells := 0, slots := 0, locals := 42 }) (zPw (dC, dI) [(cI, .int)] sz [.ref g0, .int (zi sl), .int (zi tx)] [(g0, .inr (5, [.int (zi co), .ref ps, .int (zi ru), .ref pk, .ref pa, .ref pb, .ref pq, .int (zi we), .int (zi wr), .ref pw, .int (zi ty), .ref pt])), (ps, aI cI 10 sf), (pw, aI cI 12 wf)]) (va_Qi (fun (r : Int32) (_ : Unit) => r = zi 0) (zB (dC, dI) [(cI, .int)] (va_A [(g0, .inr (5, [.int (zi co), .ref ps, .int (zi ru), .ref pk, .ref pa, .ref pb, .ref pq, .int (zi we), .int (zi wr), .ref pw, .int (zi ty), .ref pt])), (ps, aI cI 10 sf), (pw, aI cI 12 wf)] sz) [(g0, .inr (5, [.int (zi 1), .ref ps, .int (zi ru), .ref pk, .ref pa, .ref pb, .ref pq, .int (zi we), .int (zi wr), .ref pw, .int (zi ty), .ref pt])), (ps, aI cI 10 sf), (pw, aI cI 12 wf)]) (va_A [(g0, .inr (5, [.int (zi co), .ref ps, .int (zi ru), .ref pk, .ref pa, .ref pb, .ref pq, .int (zi we), .int (zi wr), .ref pw, .int (zi ty), .ref pt])), (ps, aI cI 10 sf), (pw, aI cI 12 wf)] sz)) 0 0 (va_A [(g0, .inr (5, [.int (zi co), .ref ps, .int (zi ru), .ref pk, .ref pa, .ref pb, .ref pq, .int (zi we), .int (zi wr), .ref pw, .int (zi ty), .ref pt])), (ps, aI cI 10 sf), (pw, aI cI 12 wf)] sz) := by
  refine Met.ofW (cc := cX5_write) (maxL := 4) (ret := (some .int)) (by decide) rfl ?_
  intro p e s m args below meth c s₁ B hml hv
  obtain ⟨rfl, hsz, hP, hK, hD0⟩ := hv
  have hx := B.exec
  have hb := B.bytes
  have hr := B.returns
  have hts := atoms_spec (ws := wsX5_write) B.pre
  have hown : s.vm.findClass RX5 = some m.cls := findClass_of_methodNamed B.named
  have hlocks := B.notSynchronized
  subst hsz
  have hD := hD0.self (sz := s.heap.size)
  generalize hAe : va_A [(g0, .inr (5, [.int (zi co), .ref ps, .int (zi ru), .ref pk, .ref pa, .ref pb, .ref pq, .int (zi we), .int (zi wr), .ref pw, .int (zi ty), .ref pt])), (ps, aI cI 10 sf), (pw, aI cI 12 wf)] s.heap.size = A at hD ⊢
  have hA : ∀ q : Nat, s.heap.size ≤ q → A q := fun q h => by rw [← hAe]; exact Or.inr h
  have hS : va_S A s.heap s.heap [] := va_S.rf
  have hP : va_P (dC, dI) vwCl [(g0, .inr (5, [.int (zi co), .ref ps, .int (zi ru), .ref pk, .ref pa, .ref pb, .ref pq, .int (zi we), .int (zi wr), .ref pw, .int (zi ty), .ref pt])), (ps, aI cI 10 sf), (pw, aI cI 12 wf)] s.heap := hP
  have hl := lv_entry ([.ref g0, .int (zi sl), .int (zi tx)]) (n := 4) (Nat.le_of_ble_eq_true rfl)
  rw [lg_entry_eq]
  generalize (lg_sl ([.ref g0, .int (zi sl), .int (zi tx)]) ++ List.replicate (4 - (lg_sl ([.ref g0, .int (zi sl), .int (zi tx)])).length) Slot.unset).toArray = ls at hl ⊢
  have hl : lv_has ls 4 [(0, .ref g0), (1, .int (zi sl)), (2, .int (zi tx))] := hl
  refine lv_aload_n hx hb dX5_write_0 rfl (lv_at hl 0 rfl) ?_
  refine lv_iload_n hx hb dX5_write_1 rfl (lv_at hl 1 rfl) ?_
  have hh1 := c_X5_isSlot l sl (by omega)
  refine vp_callSi (va_Run.run (va_runS (As := [.int (zi sl)]) (rest := [.ref g0]) ⟨hx, hb, hml, hown, hts⟩ hh1 (va_cwS 1 hts gX5_write_X5_isSlot rfl rfl rfl (by decide +kernel) ⟨Nat.le_of_ble_eq_true rfl, Nat.le_of_ble_eq_true rfl⟩) ⟨fun a U g mk q => q, fun U hU hW => ⟨rfl, trivial⟩⟩ rfl rfl hl.1 rfl (lv_room (Nat.le_of_ble_eq_true rfl)) dX5_write_2 ⟨Nat.zero_le _, Nat.zero_le _⟩)) (fun r1 (hr1 : r1 = zi (f_X5_isSlot sl)) => ?_)
  subst hr1
  have hf1 := b_X5_isSlot sl (by omega)
  refine zw_if_ne (tgt := 12) hx hb dX5_write_5 (by decide) ⟨by omega, by omega⟩ (fun h2 => ?_) (fun h2 => ?_)
  · skip
    exact absurd True.intro (by omega)
  · skip
    refine zw_iconst hx hb dX5_write_8 ?_
    refine lv_goto (tgt := 39) hx hb dX5_write_9 (by decide) ?_
    refine va_put (D := (dC, dI)) (ci := 5) (v := .int (zi 1)) (ty := .int) (C := RX5) (T := TX5) (N := 12) hx hb hts (by decide +kernel) tyX5 tyX5_ok nmX5 hown hK hP hD hS 0 rfl rfl 0 (by decide) (hts (.fieldLink RX5 35 "CivilDaysModel" "code" "I") (by decide +kernel)) (fun _ h9 => h9) rfl (by decide +kernel) rfl rfl (Nat.le_of_ble_eq_true rfl) dX5_write_39 (fun H locs hP hD hS => ?_)
    have hP : va_P (dC, dI) vwCl [(g0, .inr (5, [.int (zi 1), .ref ps, .int (zi ru), .ref pk, .ref pa, .ref pb, .ref pq, .int (zi we), .int (zi wr), .ref pw, .int (zi ty), .ref pt])), (ps, aI cI 10 sf), (pw, aI cI 12 wf)] H := hP
    have hD : va_D A [(g0, .inr (5, [.int (zi 1), .ref ps, .int (zi ru), .ref pk, .ref pa, .ref pb, .ref pq, .int (zi we), .int (zi wr), .ref pw, .int (zi ty), .ref pt])), (ps, aI cI 10 sf), (pw, aI cI 12 wf)] := hD
    refine lv_aload_n hx hb dX5_write_42 rfl (lv_at hl 0 rfl) ?_
    refine va_get (D := (dC, dI)) (ci := 5) (v := .int (zi 1)) (C := RX5) (T := TX5) (N := 12) hx hb hts (by decide +kernel) hown hK hP 0 rfl rfl 0 (by decide) (hts (.fieldLink RX5 35 "CivilDaysModel" "code" "I") (by decide +kernel)) (fun _ h9 => h9) rfl dX5_write_43 ?_
    refine zw_if_le (tgt := 51) hx hb dX5_write_46 (by decide) ⟨by omega, by omega⟩ (fun h3 => ?_) (fun h3 => ?_)
    · skip
      exact absurd True.intro (by omega)
    · skip
      refine zw_iconst hx hb dX5_write_49 ?_
      have hP9 := hP.sub (ws' := [(g0, .inr (5, [.int (zi 1), .ref ps, .int (zi ru), .ref pk, .ref pa, .ref pb, .ref pq, .int (zi we), .int (zi wr), .ref pw, .int (zi ty), .ref pt])), (ps, aI cI 10 sf), (pw, aI cI 12 wf)]) [0, 1, 2] rfl
      have hD9 := hD.sub (ws' := [(g0, .inr (5, [.int (zi 1), .ref ps, .int (zi ru), .ref pk, .ref pa, .ref pb, .ref pq, .int (zi we), .int (zi wr), .ref pw, .int (zi ty), .ref pt])), (ps, aI cI 10 sf), (pw, aI cI 12 wf)]) [0, 1, 2] (by decide) rfl
      exact W.iret (v := zi 0) hx hb hr (fun t ht hW => ⟨⟨zi 0, (), rfl, rfl, by rw [ht]; exact hP9, va_K.moved hW.alike hK, hD9⟩, hS.F ht⟩) hS.2.2 dX5_write_50

set_option maxHeartbeats 4000000 in
set_option maxRecDepth 100000 in
theorem c_X5_write_2 (l : Launch)  (dC : Nat → ClassId) (dI : Nat → Nat → Nat) (cI : ClassId) (g0 : Nat) (ps : Nat) (pk : Nat) (pa : Nat) (pb : Nat) (pq : Nat) (pw : Nat) (pt : Nat) (co : Int) (ru : Int) (we : Int) (wr : Int) (ty : Int) (sf : Nat → Int) (wf : Nat → Int) (sl : Int) (tx : Int) (sz : Nat) (hp0 : 0 ≤ sl ∧ sl ≤ 9) (hp1 : -2147483648 ≤ tx ∧ tx ≤ 2147483647) (hp2 : tx < 0 ∨ 2 < tx) : Met l yX5_write wsX5_write ({ frames := 2, cells := 0, slots := 0, locals := 42 }) (zPw (dC, dI) [(cI, .int)] sz [.ref g0, .int (zi sl), .int (zi tx)] [(g0, .inr (5, [.int (zi co), .ref ps, .int (zi ru), .ref pk, .ref pa, .ref pb, .ref pq, .int (zi we), .int (zi wr), .ref pw, .int (zi ty), .ref pt])), (ps, aI cI 10 sf), (pw, aI cI 12 wf)]) (va_Qi (fun (r : Int32) (_ : Unit) => r = zi 0) (zB (dC, dI) [(cI, .int)] (va_A [(g0, .inr (5, [.int (zi co), .ref ps, .int (zi ru), .ref pk, .ref pa, .ref pb, .ref pq, .int (zi we), .int (zi wr), .ref pw, .int (zi ty), .ref pt])), (ps, aI cI 10 sf), (pw, aI cI 12 wf)] sz) [(g0, .inr (5, [.int (zi 2), .ref ps, .int (zi ru), .ref pk, .ref pa, .ref pb, .ref pq, .int (zi we), .int (zi wr), .ref pw, .int (zi ty), .ref pt])), (ps, aI cI 10 sf), (pw, aI cI 12 wf)]) (va_A [(g0, .inr (5, [.int (zi co), .ref ps, .int (zi ru), .ref pk, .ref pa, .ref pb, .ref pq, .int (zi we), .int (zi wr), .ref pw, .int (zi ty), .ref pt])), (ps, aI cI 10 sf), (pw, aI cI 12 wf)] sz)) 0 0 (va_A [(g0, .inr (5, [.int (zi co), .ref ps, .int (zi ru), .ref pk, .ref pa, .ref pb, .ref pq, .int (zi we), .int (zi wr), .ref pw, .int (zi ty), .ref pt])), (ps, aI cI 10 sf), (pw, aI cI 12 wf)] sz) := by
  refine Met.ofW (cc := cX5_write) (maxL := 4) (ret := (some .int)) (by decide) rfl ?_
  intro p e s m args below meth c s₁ B hml hv
  obtain ⟨rfl, hsz, hP, hK, hD0⟩ := hv
  have hx := B.exec
  have hb := B.bytes
  have hr := B.returns
  have hts := atoms_spec (ws := wsX5_write) B.pre
  have hown : s.vm.findClass RX5 = some m.cls := findClass_of_methodNamed B.named
  have hlocks := B.notSynchronized
  subst hsz
  have hD := hD0.self (sz := s.heap.size)
  generalize hAe : va_A [(g0, .inr (5, [.int (zi co), .ref ps, .int (zi ru), .ref pk, .ref pa, .ref pb, .ref pq, .int (zi we), .int (zi wr), .ref pw, .int (zi ty), .ref pt])), (ps, aI cI 10 sf), (pw, aI cI 12 wf)] s.heap.size = A at hD ⊢
  have hA : ∀ q : Nat, s.heap.size ≤ q → A q := fun q h => by rw [← hAe]; exact Or.inr h
  have hS : va_S A s.heap s.heap [] := va_S.rf
  have hP : va_P (dC, dI) vwCl [(g0, .inr (5, [.int (zi co), .ref ps, .int (zi ru), .ref pk, .ref pa, .ref pb, .ref pq, .int (zi we), .int (zi wr), .ref pw, .int (zi ty), .ref pt])), (ps, aI cI 10 sf), (pw, aI cI 12 wf)] s.heap := hP
  have hl := lv_entry ([.ref g0, .int (zi sl), .int (zi tx)]) (n := 4) (Nat.le_of_ble_eq_true rfl)
  rw [lg_entry_eq]
  generalize (lg_sl ([.ref g0, .int (zi sl), .int (zi tx)]) ++ List.replicate (4 - (lg_sl ([.ref g0, .int (zi sl), .int (zi tx)])).length) Slot.unset).toArray = ls at hl ⊢
  have hl : lv_has ls 4 [(0, .ref g0), (1, .int (zi sl)), (2, .int (zi tx))] := hl
  refine lv_aload_n hx hb dX5_write_0 rfl (lv_at hl 0 rfl) ?_
  refine lv_iload_n hx hb dX5_write_1 rfl (lv_at hl 1 rfl) ?_
  have hh1 := c_X5_isSlot l sl (by omega)
  refine vp_callSi (va_Run.run (va_runS (As := [.int (zi sl)]) (rest := [.ref g0]) ⟨hx, hb, hml, hown, hts⟩ hh1 (va_cwS 1 hts gX5_write_X5_isSlot rfl rfl rfl (by decide +kernel) ⟨Nat.le_of_ble_eq_true rfl, Nat.le_of_ble_eq_true rfl⟩) ⟨fun a U g mk q => q, fun U hU hW => ⟨rfl, trivial⟩⟩ rfl rfl hl.1 rfl (lv_room (Nat.le_of_ble_eq_true rfl)) dX5_write_2 ⟨Nat.zero_le _, Nat.zero_le _⟩)) (fun r1 (hr1 : r1 = zi (f_X5_isSlot sl)) => ?_)
  subst hr1
  have hf1 := b_X5_isSlot sl (by omega)
  refine zw_if_ne (tgt := 12) hx hb dX5_write_5 (by decide) ⟨by omega, by omega⟩ (fun h2 => ?_) (fun h2 => ?_)
  · skip
    refine lv_iload_n hx hb dX5_write_12 rfl (lv_at hl 2 rfl) ?_
    refine zw_iconst hx hb dX5_write_13 ?_
    refine zw_iconst hx hb dX5_write_14 ?_
    have hh3 := c_X5_in l tx 0 2 (by omega) (by omega) (by omega)
    refine vp_callSi (va_Run.run (va_runS (As := [.int (zi tx), .int (zi 0), .int (zi 2)]) (rest := [.ref g0]) ⟨hx, hb, hml, hown, hts⟩ hh3 (va_cwS 3 hts gX5_write_X5_in rfl rfl rfl (by decide +kernel) ⟨Nat.le_of_ble_eq_true rfl, Nat.le_of_ble_eq_true rfl⟩) ⟨fun a U g mk q => q, fun U hU hW => ⟨rfl, trivial⟩⟩ rfl rfl hl.1 rfl (lv_room (Nat.le_of_ble_eq_true rfl)) dX5_write_15 ⟨Nat.zero_le _, Nat.zero_le _⟩)) (fun r3 (hr3 : r3 = zi (f_X5_in tx 0 2)) => ?_)
    subst hr3
    have hf3 := b_X5_in tx 0 2 (by omega) (by omega) (by omega)
    refine zw_if_ne (tgt := 25) hx hb dX5_write_18 (by decide) ⟨by omega, by omega⟩ (fun h4 => ?_) (fun h4 => ?_)
    · skip
      exact absurd True.intro (by omega)
    · skip
      refine zw_iconst hx hb dX5_write_21 ?_
      refine lv_goto (tgt := 39) hx hb dX5_write_22 (by decide) ?_
      refine va_put (D := (dC, dI)) (ci := 5) (v := .int (zi 2)) (ty := .int) (C := RX5) (T := TX5) (N := 12) hx hb hts (by decide +kernel) tyX5 tyX5_ok nmX5 hown hK hP hD hS 0 rfl rfl 0 (by decide) (hts (.fieldLink RX5 35 "CivilDaysModel" "code" "I") (by decide +kernel)) (fun _ h9 => h9) rfl (by decide +kernel) rfl rfl (Nat.le_of_ble_eq_true rfl) dX5_write_39 (fun H locs hP hD hS => ?_)
      have hP : va_P (dC, dI) vwCl [(g0, .inr (5, [.int (zi 2), .ref ps, .int (zi ru), .ref pk, .ref pa, .ref pb, .ref pq, .int (zi we), .int (zi wr), .ref pw, .int (zi ty), .ref pt])), (ps, aI cI 10 sf), (pw, aI cI 12 wf)] H := hP
      have hD : va_D A [(g0, .inr (5, [.int (zi 2), .ref ps, .int (zi ru), .ref pk, .ref pa, .ref pb, .ref pq, .int (zi we), .int (zi wr), .ref pw, .int (zi ty), .ref pt])), (ps, aI cI 10 sf), (pw, aI cI 12 wf)] := hD
      refine lv_aload_n hx hb dX5_write_42 rfl (lv_at hl 0 rfl) ?_
      refine va_get (D := (dC, dI)) (ci := 5) (v := .int (zi 2)) (C := RX5) (T := TX5) (N := 12) hx hb hts (by decide +kernel) hown hK hP 0 rfl rfl 0 (by decide) (hts (.fieldLink RX5 35 "CivilDaysModel" "code" "I") (by decide +kernel)) (fun _ h9 => h9) rfl dX5_write_43 ?_
      refine zw_if_le (tgt := 51) hx hb dX5_write_46 (by decide) ⟨by omega, by omega⟩ (fun h5 => ?_) (fun h5 => ?_)
      · skip
        exact absurd True.intro (by omega)
      · skip
        refine zw_iconst hx hb dX5_write_49 ?_
        have hP9 := hP.sub (ws' := [(g0, .inr (5, [.int (zi 2), .ref ps, .int (zi ru), .ref pk, .ref pa, .ref pb, .ref pq, .int (zi we), .int (zi wr), .ref pw, .int (zi ty), .ref pt])), (ps, aI cI 10 sf), (pw, aI cI 12 wf)]) [0, 1, 2] rfl
        have hD9 := hD.sub (ws' := [(g0, .inr (5, [.int (zi 2), .ref ps, .int (zi ru), .ref pk, .ref pa, .ref pb, .ref pq, .int (zi we), .int (zi wr), .ref pw, .int (zi ty), .ref pt])), (ps, aI cI 10 sf), (pw, aI cI 12 wf)]) [0, 1, 2] (by decide) rfl
        exact W.iret (v := zi 0) hx hb hr (fun t ht hW => ⟨⟨zi 0, (), rfl, rfl, by rw [ht]; exact hP9, va_K.moved hW.alike hK, hD9⟩, hS.F ht⟩) hS.2.2 dX5_write_50
  · skip
    exact absurd True.intro (by omega)

set_option maxHeartbeats 4000000 in
set_option maxRecDepth 100000 in
theorem c_X5_write_3 (l : Launch)  (dC : Nat → ClassId) (dI : Nat → Nat → Nat) (cI : ClassId) (g0 : Nat) (ps : Nat) (pk : Nat) (pa : Nat) (pb : Nat) (pq : Nat) (pw : Nat) (pt : Nat) (co : Int) (ru : Int) (we : Int) (wr : Int) (ty : Int) (sf : Nat → Int) (wf : Nat → Int) (sl : Int) (tx : Int) (sz : Nat) (hp0 : 0 ≤ sl ∧ sl ≤ 9) (hp1 : 0 ≤ tx ∧ tx ≤ 2) (hp2 : sf sl.toNat = -1) : Met l yX5_write wsX5_write ({ frames := 2, cells := 0, slots := 0, locals := 42 }) (zPw (dC, dI) [(cI, .int)] sz [.ref g0, .int (zi sl), .int (zi tx)] [(g0, .inr (5, [.int (zi co), .ref ps, .int (zi ru), .ref pk, .ref pa, .ref pb, .ref pq, .int (zi we), .int (zi wr), .ref pw, .int (zi ty), .ref pt])), (ps, aI cI 10 sf), (pw, aI cI 12 wf)]) (va_Qi (fun (r : Int32) (_ : Unit) => r = zi 0) (zB (dC, dI) [(cI, .int)] (va_A [(g0, .inr (5, [.int (zi co), .ref ps, .int (zi ru), .ref pk, .ref pa, .ref pb, .ref pq, .int (zi we), .int (zi wr), .ref pw, .int (zi ty), .ref pt])), (ps, aI cI 10 sf), (pw, aI cI 12 wf)] sz) [(g0, .inr (5, [.int (zi 3), .ref ps, .int (zi ru), .ref pk, .ref pa, .ref pb, .ref pq, .int (zi we), .int (zi wr), .ref pw, .int (zi ty), .ref pt])), (ps, aI cI 10 sf), (pw, aI cI 12 wf)]) (va_A [(g0, .inr (5, [.int (zi co), .ref ps, .int (zi ru), .ref pk, .ref pa, .ref pb, .ref pq, .int (zi we), .int (zi wr), .ref pw, .int (zi ty), .ref pt])), (ps, aI cI 10 sf), (pw, aI cI 12 wf)] sz)) 0 0 (va_A [(g0, .inr (5, [.int (zi co), .ref ps, .int (zi ru), .ref pk, .ref pa, .ref pb, .ref pq, .int (zi we), .int (zi wr), .ref pw, .int (zi ty), .ref pt])), (ps, aI cI 10 sf), (pw, aI cI 12 wf)] sz) := by
  refine Met.ofW (cc := cX5_write) (maxL := 4) (ret := (some .int)) (by decide) rfl ?_
  intro p e s m args below meth c s₁ B hml hv
  obtain ⟨rfl, hsz, hP, hK, hD0⟩ := hv
  have hx := B.exec
  have hb := B.bytes
  have hr := B.returns
  have hts := atoms_spec (ws := wsX5_write) B.pre
  have hown : s.vm.findClass RX5 = some m.cls := findClass_of_methodNamed B.named
  have hlocks := B.notSynchronized
  subst hsz
  have hD := hD0.self (sz := s.heap.size)
  generalize hAe : va_A [(g0, .inr (5, [.int (zi co), .ref ps, .int (zi ru), .ref pk, .ref pa, .ref pb, .ref pq, .int (zi we), .int (zi wr), .ref pw, .int (zi ty), .ref pt])), (ps, aI cI 10 sf), (pw, aI cI 12 wf)] s.heap.size = A at hD ⊢
  have hA : ∀ q : Nat, s.heap.size ≤ q → A q := fun q h => by rw [← hAe]; exact Or.inr h
  have hS : va_S A s.heap s.heap [] := va_S.rf
  have hP : va_P (dC, dI) vwCl [(g0, .inr (5, [.int (zi co), .ref ps, .int (zi ru), .ref pk, .ref pa, .ref pb, .ref pq, .int (zi we), .int (zi wr), .ref pw, .int (zi ty), .ref pt])), (ps, aI cI 10 sf), (pw, aI cI 12 wf)] s.heap := hP
  have hl := lv_entry ([.ref g0, .int (zi sl), .int (zi tx)]) (n := 4) (Nat.le_of_ble_eq_true rfl)
  rw [lg_entry_eq]
  generalize (lg_sl ([.ref g0, .int (zi sl), .int (zi tx)]) ++ List.replicate (4 - (lg_sl ([.ref g0, .int (zi sl), .int (zi tx)])).length) Slot.unset).toArray = ls at hl ⊢
  have hl : lv_has ls 4 [(0, .ref g0), (1, .int (zi sl)), (2, .int (zi tx))] := hl
  refine lv_aload_n hx hb dX5_write_0 rfl (lv_at hl 0 rfl) ?_
  refine lv_iload_n hx hb dX5_write_1 rfl (lv_at hl 1 rfl) ?_
  have hh1 := c_X5_isSlot l sl (by omega)
  refine vp_callSi (va_Run.run (va_runS (As := [.int (zi sl)]) (rest := [.ref g0]) ⟨hx, hb, hml, hown, hts⟩ hh1 (va_cwS 1 hts gX5_write_X5_isSlot rfl rfl rfl (by decide +kernel) ⟨Nat.le_of_ble_eq_true rfl, Nat.le_of_ble_eq_true rfl⟩) ⟨fun a U g mk q => q, fun U hU hW => ⟨rfl, trivial⟩⟩ rfl rfl hl.1 rfl (lv_room (Nat.le_of_ble_eq_true rfl)) dX5_write_2 ⟨Nat.zero_le _, Nat.zero_le _⟩)) (fun r1 (hr1 : r1 = zi (f_X5_isSlot sl)) => ?_)
  subst hr1
  have hf1 := b_X5_isSlot sl (by omega)
  refine zw_if_ne (tgt := 12) hx hb dX5_write_5 (by decide) ⟨by omega, by omega⟩ (fun h2 => ?_) (fun h2 => ?_)
  · skip
    refine lv_iload_n hx hb dX5_write_12 rfl (lv_at hl 2 rfl) ?_
    refine zw_iconst hx hb dX5_write_13 ?_
    refine zw_iconst hx hb dX5_write_14 ?_
    have hh3 := c_X5_in l tx 0 2 (by omega) (by omega) (by omega)
    refine vp_callSi (va_Run.run (va_runS (As := [.int (zi tx), .int (zi 0), .int (zi 2)]) (rest := [.ref g0]) ⟨hx, hb, hml, hown, hts⟩ hh3 (va_cwS 3 hts gX5_write_X5_in rfl rfl rfl (by decide +kernel) ⟨Nat.le_of_ble_eq_true rfl, Nat.le_of_ble_eq_true rfl⟩) ⟨fun a U g mk q => q, fun U hU hW => ⟨rfl, trivial⟩⟩ rfl rfl hl.1 rfl (lv_room (Nat.le_of_ble_eq_true rfl)) dX5_write_15 ⟨Nat.zero_le _, Nat.zero_le _⟩)) (fun r3 (hr3 : r3 = zi (f_X5_in tx 0 2)) => ?_)
    subst hr3
    have hf3 := b_X5_in tx 0 2 (by omega) (by omega) (by omega)
    refine zw_if_ne (tgt := 25) hx hb dX5_write_18 (by decide) ⟨by omega, by omega⟩ (fun h4 => ?_) (fun h4 => ?_)
    · skip
      refine lv_aload_n hx hb dX5_write_25 rfl (lv_at hl 0 rfl) ?_
      refine va_get (D := (dC, dI)) (ci := 5) (v := .ref ps) (C := RX5) (T := TX5) (N := 12) hx hb hts (by decide +kernel) hown hK hP 0 rfl rfl 1 (by decide) (hts (.fieldLink RX5 7 "CivilDaysModel" "slots" "[I") (by decide +kernel)) (fun _ h9 => h9) rfl dX5_write_26 ?_
      refine lv_iload_n hx hb dX5_write_29 rfl (lv_at hl 1 rfl) ?_
      refine zw_iald hx hb hK hP 1 0 rfl rfl (by omega) (by omega) ⟨by omega, by omega⟩ dX5_write_30 ?_
      refine zw_if_ge (tgt := 38) hx hb dX5_write_31 (by decide) ⟨by omega, by omega⟩ (fun h5 => ?_) (fun h5 => ?_)
      · skip
        exact absurd True.intro (by omega)
      · skip
        refine zw_iconst hx hb dX5_write_34 ?_
        refine lv_goto (tgt := 39) hx hb dX5_write_35 (by decide) ?_
        refine va_put (D := (dC, dI)) (ci := 5) (v := .int (zi 3)) (ty := .int) (C := RX5) (T := TX5) (N := 12) hx hb hts (by decide +kernel) tyX5 tyX5_ok nmX5 hown hK hP hD hS 0 rfl rfl 0 (by decide) (hts (.fieldLink RX5 35 "CivilDaysModel" "code" "I") (by decide +kernel)) (fun _ h9 => h9) rfl (by decide +kernel) rfl rfl (Nat.le_of_ble_eq_true rfl) dX5_write_39 (fun H locs hP hD hS => ?_)
        have hP : va_P (dC, dI) vwCl [(g0, .inr (5, [.int (zi 3), .ref ps, .int (zi ru), .ref pk, .ref pa, .ref pb, .ref pq, .int (zi we), .int (zi wr), .ref pw, .int (zi ty), .ref pt])), (ps, aI cI 10 sf), (pw, aI cI 12 wf)] H := hP
        have hD : va_D A [(g0, .inr (5, [.int (zi 3), .ref ps, .int (zi ru), .ref pk, .ref pa, .ref pb, .ref pq, .int (zi we), .int (zi wr), .ref pw, .int (zi ty), .ref pt])), (ps, aI cI 10 sf), (pw, aI cI 12 wf)] := hD
        refine lv_aload_n hx hb dX5_write_42 rfl (lv_at hl 0 rfl) ?_
        refine va_get (D := (dC, dI)) (ci := 5) (v := .int (zi 3)) (C := RX5) (T := TX5) (N := 12) hx hb hts (by decide +kernel) hown hK hP 0 rfl rfl 0 (by decide) (hts (.fieldLink RX5 35 "CivilDaysModel" "code" "I") (by decide +kernel)) (fun _ h9 => h9) rfl dX5_write_43 ?_
        refine zw_if_le (tgt := 51) hx hb dX5_write_46 (by decide) ⟨by omega, by omega⟩ (fun h6 => ?_) (fun h6 => ?_)
        · skip
          exact absurd True.intro (by omega)
        · skip
          refine zw_iconst hx hb dX5_write_49 ?_
          have hP9 := hP.sub (ws' := [(g0, .inr (5, [.int (zi 3), .ref ps, .int (zi ru), .ref pk, .ref pa, .ref pb, .ref pq, .int (zi we), .int (zi wr), .ref pw, .int (zi ty), .ref pt])), (ps, aI cI 10 sf), (pw, aI cI 12 wf)]) [0, 1, 2] rfl
          have hD9 := hD.sub (ws' := [(g0, .inr (5, [.int (zi 3), .ref ps, .int (zi ru), .ref pk, .ref pa, .ref pb, .ref pq, .int (zi we), .int (zi wr), .ref pw, .int (zi ty), .ref pt])), (ps, aI cI 10 sf), (pw, aI cI 12 wf)]) [0, 1, 2] (by decide) rfl
          exact W.iret (v := zi 0) hx hb hr (fun t ht hW => ⟨⟨zi 0, (), rfl, rfl, by rw [ht]; exact hP9, va_K.moved hW.alike hK, hD9⟩, hS.F ht⟩) hS.2.2 dX5_write_50
    · skip
      exact absurd True.intro (by omega)
  · skip
    exact absurd True.intro (by omega)

set_option maxHeartbeats 4000000 in
set_option maxRecDepth 100000 in
theorem c_X5_write_ok0 (l : Launch)  (dC : Nat → ClassId) (dI : Nat → Nat → Nat) (cI : ClassId) (g0 : Nat) (ps : Nat) (pk : Nat) (pa : Nat) (pb : Nat) (pq : Nat) (pw : Nat) (pt : Nat) (co : Int) (ru : Int) (we : Int) (wr : Int) (ty : Int) (sf : Nat → Int) (wf : Nat → Int) (sl : Int) (sz : Nat) (hp0 : 0 ≤ sl ∧ sl ≤ 9) (hp1 : 0 ≤ sf sl.toNat ∧ sf sl.toNat ≤ 3652058) : Met l yX5_write wsX5_write ({ frames := 5, cells := 0, slots := 0, locals := 107 }) (zPw (dC, dI) [(cI, .int)] sz [.ref g0, .int (zi sl), .int (zi 0)] [(g0, .inr (5, [.int (zi co), .ref ps, .int (zi ru), .ref pk, .ref pa, .ref pb, .ref pq, .int (zi we), .int (zi wr), .ref pw, .int (zi ty), .ref pt])), (ps, aI cI 10 sf), (pw, aI cI 12 wf)]) (va_Qi (fun (r : Int32) (_ : Unit) => r = zi ((((((((((0 + 1) + 1) + 1) + 1) + 1) + 1) + 1) + 1) + 1) + 1)) (zB (dC, dI) [(cI, .int)] (va_A [(g0, .inr (5, [.int (zi co), .ref ps, .int (zi ru), .ref pk, .ref pa, .ref pb, .ref pq, .int (zi we), .int (zi wr), .ref pw, .int (zi ty), .ref pt])), (ps, aI cI 10 sf), (pw, aI cI 12 wf)] sz) [(g0, .inr (5, [.int (zi 0), .ref ps, .int (zi ru), .ref pk, .ref pa, .ref pb, .ref pq, .int (zi we), .int (zi ((((((((((0 + 1) + 1) + 1) + 1) + 1) + 1) + 1) + 1) + 1) + 1)), .ref pw, .int (zi ty), .ref pt])), (ps, aI cI 10 sf), (pw, aI cI 12 (zup (zup (zup (zup (zup (zup (zup (zup (zup (zup wf (Int.toNat 0) (48 + (((f_X5_yearOf (sf sl.toNat)) / 1000) % 10))) (Int.toNat (0 + 1)) (48 + (((f_X5_yearOf (sf sl.toNat)) / 100) % 10))) (Int.toNat ((0 + 1) + 1)) (48 + (((f_X5_yearOf (sf sl.toNat)) / 10) % 10))) (Int.toNat (((0 + 1) + 1) + 1)) (48 + (((f_X5_yearOf (sf sl.toNat)) / 1) % 10))) (Int.toNat ((((0 + 1) + 1) + 1) + 1)) 45) (Int.toNat (((((0 + 1) + 1) + 1) + 1) + 1)) (48 + (((f_X5_monthOf (sf sl.toNat)) / 10) % 10))) (Int.toNat ((((((0 + 1) + 1) + 1) + 1) + 1) + 1)) (48 + (((f_X5_monthOf (sf sl.toNat)) / 1) % 10))) (Int.toNat (((((((0 + 1) + 1) + 1) + 1) + 1) + 1) + 1)) 45) (Int.toNat ((((((((0 + 1) + 1) + 1) + 1) + 1) + 1) + 1) + 1)) (48 + (((f_X5_dayOf (sf sl.toNat)) / 10) % 10))) (Int.toNat (((((((((0 + 1) + 1) + 1) + 1) + 1) + 1) + 1) + 1) + 1)) (48 + (((f_X5_dayOf (sf sl.toNat)) / 1) % 10))))]) (va_A [(g0, .inr (5, [.int (zi co), .ref ps, .int (zi ru), .ref pk, .ref pa, .ref pb, .ref pq, .int (zi we), .int (zi wr), .ref pw, .int (zi ty), .ref pt])), (ps, aI cI 10 sf), (pw, aI cI 12 wf)] sz)) 0 0 (va_A [(g0, .inr (5, [.int (zi co), .ref ps, .int (zi ru), .ref pk, .ref pa, .ref pb, .ref pq, .int (zi we), .int (zi wr), .ref pw, .int (zi ty), .ref pt])), (ps, aI cI 10 sf), (pw, aI cI 12 wf)] sz) := by
  refine Met.ofW (cc := cX5_write) (maxL := 4) (ret := (some .int)) (by decide) rfl ?_
  intro p e s m args below meth c s₁ B hml hv
  obtain ⟨rfl, hsz, hP, hK, hD0⟩ := hv
  have hx := B.exec
  have hb := B.bytes
  have hr := B.returns
  have hts := atoms_spec (ws := wsX5_write) B.pre
  have hown : s.vm.findClass RX5 = some m.cls := findClass_of_methodNamed B.named
  have hlocks := B.notSynchronized
  subst hsz
  have hD := hD0.self (sz := s.heap.size)
  generalize hAe : va_A [(g0, .inr (5, [.int (zi co), .ref ps, .int (zi ru), .ref pk, .ref pa, .ref pb, .ref pq, .int (zi we), .int (zi wr), .ref pw, .int (zi ty), .ref pt])), (ps, aI cI 10 sf), (pw, aI cI 12 wf)] s.heap.size = A at hD ⊢
  have hA : ∀ q : Nat, s.heap.size ≤ q → A q := fun q h => by rw [← hAe]; exact Or.inr h
  have hS : va_S A s.heap s.heap [] := va_S.rf
  have hP : va_P (dC, dI) vwCl [(g0, .inr (5, [.int (zi co), .ref ps, .int (zi ru), .ref pk, .ref pa, .ref pb, .ref pq, .int (zi we), .int (zi wr), .ref pw, .int (zi ty), .ref pt])), (ps, aI cI 10 sf), (pw, aI cI 12 wf)] s.heap := hP
  have hl := lv_entry ([.ref g0, .int (zi sl), .int (zi 0)]) (n := 4) (Nat.le_of_ble_eq_true rfl)
  rw [lg_entry_eq]
  generalize (lg_sl ([.ref g0, .int (zi sl), .int (zi 0)]) ++ List.replicate (4 - (lg_sl ([.ref g0, .int (zi sl), .int (zi 0)])).length) Slot.unset).toArray = ls at hl ⊢
  have hl : lv_has ls 4 [(0, .ref g0), (1, .int (zi sl)), (2, .int (zi 0))] := hl
  refine lv_aload_n hx hb dX5_write_0 rfl (lv_at hl 0 rfl) ?_
  refine lv_iload_n hx hb dX5_write_1 rfl (lv_at hl 1 rfl) ?_
  have hh1 := c_X5_isSlot l sl (by omega)
  refine vp_callSi (va_Run.run (va_runS (As := [.int (zi sl)]) (rest := [.ref g0]) ⟨hx, hb, hml, hown, hts⟩ hh1 (va_cwS 1 hts gX5_write_X5_isSlot rfl rfl rfl (by decide +kernel) ⟨Nat.le_of_ble_eq_true rfl, Nat.le_of_ble_eq_true rfl⟩) ⟨fun a U g mk q => q, fun U hU hW => ⟨rfl, trivial⟩⟩ rfl rfl hl.1 rfl (lv_room (Nat.le_of_ble_eq_true rfl)) dX5_write_2 ⟨Nat.zero_le _, Nat.zero_le _⟩)) (fun r1 (hr1 : r1 = zi (f_X5_isSlot sl)) => ?_)
  subst hr1
  have hf1 := b_X5_isSlot sl (by omega)
  refine zw_if_ne (tgt := 12) hx hb dX5_write_5 (by decide) ⟨by omega, by omega⟩ (fun h2 => ?_) (fun h2 => ?_)
  · skip
    refine lv_iload_n hx hb dX5_write_12 rfl (lv_at hl 2 rfl) ?_
    refine zw_iconst hx hb dX5_write_13 ?_
    refine zw_iconst hx hb dX5_write_14 ?_
    have hh3 := c_X5_in l 0 0 2 (by omega) (by omega) (by omega)
    refine vp_callSi (va_Run.run (va_runS (As := [.int (zi 0), .int (zi 0), .int (zi 2)]) (rest := [.ref g0]) ⟨hx, hb, hml, hown, hts⟩ hh3 (va_cwS 3 hts gX5_write_X5_in rfl rfl rfl (by decide +kernel) ⟨Nat.le_of_ble_eq_true rfl, Nat.le_of_ble_eq_true rfl⟩) ⟨fun a U g mk q => q, fun U hU hW => ⟨rfl, trivial⟩⟩ rfl rfl hl.1 rfl (lv_room (Nat.le_of_ble_eq_true rfl)) dX5_write_15 ⟨Nat.zero_le _, Nat.zero_le _⟩)) (fun r3 (hr3 : r3 = zi (f_X5_in 0 0 2)) => ?_)
    subst hr3
    have hf3 := b_X5_in 0 0 2 (by omega) (by omega) (by omega)
    refine zw_if_ne (tgt := 25) hx hb dX5_write_18 (by decide) ⟨by omega, by omega⟩ (fun h4 => ?_) (fun h4 => ?_)
    · skip
      refine lv_aload_n hx hb dX5_write_25 rfl (lv_at hl 0 rfl) ?_
      refine va_get (D := (dC, dI)) (ci := 5) (v := .ref ps) (C := RX5) (T := TX5) (N := 12) hx hb hts (by decide +kernel) hown hK hP 0 rfl rfl 1 (by decide) (hts (.fieldLink RX5 7 "CivilDaysModel" "slots" "[I") (by decide +kernel)) (fun _ h9 => h9) rfl dX5_write_26 ?_
      refine lv_iload_n hx hb dX5_write_29 rfl (lv_at hl 1 rfl) ?_
      refine zw_iald hx hb hK hP 1 0 rfl rfl (by omega) (by omega) ⟨by omega, by omega⟩ dX5_write_30 ?_
      refine zw_if_ge (tgt := 38) hx hb dX5_write_31 (by decide) ⟨by omega, by omega⟩ (fun h5 => ?_) (fun h5 => ?_)
      · skip
        refine zw_iconst hx hb dX5_write_38 ?_
        refine va_put (D := (dC, dI)) (ci := 5) (v := .int (zi 0)) (ty := .int) (C := RX5) (T := TX5) (N := 12) hx hb hts (by decide +kernel) tyX5 tyX5_ok nmX5 hown hK hP hD hS 0 rfl rfl 0 (by decide) (hts (.fieldLink RX5 35 "CivilDaysModel" "code" "I") (by decide +kernel)) (fun _ h9 => h9) rfl (by decide +kernel) rfl rfl (Nat.le_of_ble_eq_true rfl) dX5_write_39 (fun H locs hP hD hS => ?_)
        have hP : va_P (dC, dI) vwCl [(g0, .inr (5, [.int (zi 0), .ref ps, .int (zi ru), .ref pk, .ref pa, .ref pb, .ref pq, .int (zi we), .int (zi wr), .ref pw, .int (zi ty), .ref pt])), (ps, aI cI 10 sf), (pw, aI cI 12 wf)] H := hP
        have hD : va_D A [(g0, .inr (5, [.int (zi 0), .ref ps, .int (zi ru), .ref pk, .ref pa, .ref pb, .ref pq, .int (zi we), .int (zi wr), .ref pw, .int (zi ty), .ref pt])), (ps, aI cI 10 sf), (pw, aI cI 12 wf)] := hD
        refine lv_aload_n hx hb dX5_write_42 rfl (lv_at hl 0 rfl) ?_
        refine va_get (D := (dC, dI)) (ci := 5) (v := .int (zi 0)) (C := RX5) (T := TX5) (N := 12) hx hb hts (by decide +kernel) hown hK hP 0 rfl rfl 0 (by decide) (hts (.fieldLink RX5 35 "CivilDaysModel" "code" "I") (by decide +kernel)) (fun _ h9 => h9) rfl dX5_write_43 ?_
        refine zw_if_le (tgt := 51) hx hb dX5_write_46 (by decide) ⟨by omega, by omega⟩ (fun h6 => ?_) (fun h6 => ?_)
        · skip
          refine lv_aload_n hx hb dX5_write_51 rfl (lv_at hl 0 rfl) ?_
          refine va_get (D := (dC, dI)) (ci := 5) (v := .ref ps) (C := RX5) (T := TX5) (N := 12) hx hb hts (by decide +kernel) hown hK hP 0 rfl rfl 1 (by decide) (hts (.fieldLink RX5 7 "CivilDaysModel" "slots" "[I") (by decide +kernel)) (fun _ h9 => h9) rfl dX5_write_52 ?_
          refine lv_iload_n hx hb dX5_write_55 rfl (lv_at hl 1 rfl) ?_
          refine zw_iald hx hb hK hP 1 0 rfl rfl (by omega) (by omega) ⟨by omega, by omega⟩ dX5_write_56 ?_
          refine zw_top (fun x7 ex7 => ?_)
          refine lv_istore_n (lv' := [(3, .int (zi x7)), (0, .ref g0), (1, .int (zi sl)), (2, .int (zi 0))]) hx hb dX5_write_57 rfl hl (by decide) rfl (fun ls hl => ?_)
          refine lv_aload_n hx hb dX5_write_58 rfl (lv_at hl 1 rfl) ?_
          refine zw_iconst hx hb dX5_write_59 ?_
          refine va_put (D := (dC, dI)) (ci := 5) (v := .int (zi 0)) (ty := .int) (C := RX5) (T := TX5) (N := 12) hx hb hts (by decide +kernel) tyX5 tyX5_ok nmX5 hown hK hP hD hS 0 rfl rfl 8 (by decide) (hts (.fieldLink RX5 134 "CivilDaysModel" "written" "I") (by decide +kernel)) (fun _ h9 => h9) rfl (by decide +kernel) rfl rfl (Nat.le_of_ble_eq_true rfl) dX5_write_60 (fun H locs hP hD hS => ?_)
          have hP : va_P (dC, dI) vwCl [(g0, .inr (5, [.int (zi 0), .ref ps, .int (zi ru), .ref pk, .ref pa, .ref pb, .ref pq, .int (zi we), .int (zi 0), .ref pw, .int (zi ty), .ref pt])), (ps, aI cI 10 sf), (pw, aI cI 12 wf)] H := hP
          have hD : va_D A [(g0, .inr (5, [.int (zi 0), .ref ps, .int (zi ru), .ref pk, .ref pa, .ref pb, .ref pq, .int (zi we), .int (zi 0), .ref pw, .int (zi ty), .ref pt])), (ps, aI cI 10 sf), (pw, aI cI 12 wf)] := hD
          refine lv_aload_n hx hb dX5_write_63 rfl (lv_at hl 1 rfl) ?_
          refine lv_iload_n hx hb dX5_write_64 rfl (lv_at hl 3 rfl) ?_
          refine zw_iconst hx hb dX5_write_65 ?_
          refine zw_icmp_ne (tgt := 76) hx hb dX5_write_66 (by decide) ⟨by omega, by omega⟩ ⟨by omega, by omega⟩ (fun h8 => ?_) (fun h8 => ?_)
          · skip
            refine lv_iload_n hx hb dX5_write_76 rfl (lv_at hl 0 rfl) ?_
            have hh9 := c_X5_yearOf l x7 (by omega)
            refine vp_callSi (va_Run.run (va_runS (As := [.int (zi x7)]) (rest := [.ref g0]) ⟨hx, hb, hml, hown, hts⟩ hh9 (va_cwS 1 hts gX5_write_X5_yearOf rfl rfl rfl (by decide +kernel) ⟨Nat.le_of_ble_eq_true rfl, Nat.le_of_ble_eq_true rfl⟩) ⟨fun a U g mk q => q, fun U hU hW => ⟨rfl, trivial⟩⟩ rfl rfl hl.1 rfl (lv_room (Nat.le_of_ble_eq_true rfl)) dX5_write_77 ⟨Nat.zero_le _, Nat.zero_le _⟩)) (fun r9 (hr9 : r9 = zi (f_X5_yearOf x7)) => ?_)
            subst hr9
            have hf9 := b_X5_yearOf x7 (by omega)
            refine zw_iconst hx hb dX5_write_80 ?_
            have hh10 := c_X5_putNumber_4 l dC dI cI g0 ps pk pa pb pq pw pt 0 ru we 0 ty wf (f_X5_yearOf x7) H.size (by omega) (by omega)
            have hPc := hP.sub (ws' := [(g0, .inr (5, [.int (zi 0), .ref ps, .int (zi ru), .ref pk, .ref pa, .ref pb, .ref pq, .int (zi we), .int (zi 0), .ref pw, .int (zi ty), .ref pt])), (pw, aI cI 12 wf)]) [0, 2] rfl
            have hKc : va_K (dC, dI) vwCl [(cI, .int)] s := hK
            have hDc := hD.sub (ws' := [(g0, .inr (5, [.int (zi 0), .ref ps, .int (zi ru), .ref pk, .ref pa, .ref pb, .ref pq, .int (zi we), .int (zi 0), .ref pw, .int (zi ty), .ref pt])), (pw, aI cI 12 wf)]) [0, 2] (by decide) rfl
            have hFc := va_free (wc := [(g0, .inr (5, [.int (zi 0), .ref ps, .int (zi ru), .ref pk, .ref pa, .ref pb, .ref pq, .int (zi we), .int (zi 0), .ref pw, .int (zi ty), .ref pt])), (pw, aI cI 12 wf)]) hD hS hA [0, 2] rfl
            refine va_callv (va_runV (As := [.int (zi (f_X5_yearOf x7)), .int (zi 4)]) (rest := []) ⟨hx, hb, hml, hown, hts⟩ hh10 (cwV 2 hts gX5_write_X5_putNumber rfl rfl rfl (by decide +kernel) ⟨Nat.le_of_ble_eq_true rfl, Nat.le_of_ble_eq_true rfl⟩) ⟨zPw.blind _ _ _ _ _, va_recv hKc hPc (ci := 5) (q0 := 0) rfl rfl, fun U hU hW => ⟨rfl, by rw [hU], by rw [hU]; exact hPc, va_K.moved hW.alike hKc, hDc.weaken (fun _ _ _ _ => trivial)⟩⟩ rfl rfl hl.1 rfl (lv_room (Nat.le_of_ble_eq_true rfl)) dX5_write_81 ⟨Nat.le_of_ble_eq_true rfl, Nat.le_of_ble_eq_true rfl⟩) hS (fun q _ h => hFc q h) hFc (fun u t H1 locs ht hvm hw hB hz1 hk1 hS => ?_)
            obtain ⟨hP1, hK1, hD1⟩ := hB
            rw [ht] at hP1
            obtain ⟨hP, hD⟩ := va_join (wr := [(ps, aI cI 10 sf)]) (w1 := [(g0, .inr (5, [.int (zi 0), .ref ps, .int (zi ru), .ref pk, .ref pa, .ref pb, .ref pq, .int (zi we), .int (zi ((((0 + 1) + 1) + 1) + 1)), .ref pw, .int (zi ty), .ref pt])), (pw, aI cI 12 (zup (zup (zup (zup wf (Int.toNat 0) (48 + (((f_X5_yearOf x7) / 1000) % 10))) (Int.toNat (0 + 1)) (48 + (((f_X5_yearOf x7) / 100) % 10))) (Int.toNat ((0 + 1) + 1)) (48 + (((f_X5_yearOf x7) / 10) % 10))) (Int.toNat (((0 + 1) + 1) + 1)) (48 + (((f_X5_yearOf x7) / 1) % 10))))]) hP hD [0, 2] [1] rfl rfl (by decide) (by decide) hk1 hFc hP1 hD1
            generalize H1 = H at hP hS ⊢
            have hP : va_P (dC, dI) vwCl [(ps, aI cI 10 sf), (g0, .inr (5, [.int (zi 0), .ref ps, .int (zi ru), .ref pk, .ref pa, .ref pb, .ref pq, .int (zi we), .int (zi ((((0 + 1) + 1) + 1) + 1)), .ref pw, .int (zi ty), .ref pt])), (pw, aI cI 12 (zup (zup (zup (zup wf (Int.toNat 0) (48 + (((f_X5_yearOf x7) / 1000) % 10))) (Int.toNat (0 + 1)) (48 + (((f_X5_yearOf x7) / 100) % 10))) (Int.toNat ((0 + 1) + 1)) (48 + (((f_X5_yearOf x7) / 10) % 10))) (Int.toNat (((0 + 1) + 1) + 1)) (48 + (((f_X5_yearOf x7) / 1) % 10))))] H := hP
            have hD : va_D A [(ps, aI cI 10 sf), (g0, .inr (5, [.int (zi 0), .ref ps, .int (zi ru), .ref pk, .ref pa, .ref pb, .ref pq, .int (zi we), .int (zi ((((0 + 1) + 1) + 1) + 1)), .ref pw, .int (zi ty), .ref pt])), (pw, aI cI 12 (zup (zup (zup (zup wf (Int.toNat 0) (48 + (((f_X5_yearOf x7) / 1000) % 10))) (Int.toNat (0 + 1)) (48 + (((f_X5_yearOf x7) / 100) % 10))) (Int.toNat ((0 + 1) + 1)) (48 + (((f_X5_yearOf x7) / 10) % 10))) (Int.toNat (((0 + 1) + 1) + 1)) (48 + (((f_X5_yearOf x7) / 1) % 10))))] := hD
            refine lv_aload_n hx hb dX5_write_84 rfl (lv_at hl 1 rfl) ?_
            refine zw_bipush hx hb dX5_write_85 (by decide) ?_
            have hh11 := c_X5_put l dC dI cI g0 ps pk pa pb pq pw pt 0 ru we ((((0 + 1) + 1) + 1) + 1) ty (zup (zup (zup (zup wf (Int.toNat 0) (48 + (((f_X5_yearOf x7) / 1000) % 10))) (Int.toNat (0 + 1)) (48 + (((f_X5_yearOf x7) / 100) % 10))) (Int.toNat ((0 + 1) + 1)) (48 + (((f_X5_yearOf x7) / 10) % 10))) (Int.toNat (((0 + 1) + 1) + 1)) (48 + (((f_X5_yearOf x7) / 1) % 10))) 45 H.size (by omega)
            have hPc := hP.sub (ws' := [(g0, .inr (5, [.int (zi 0), .ref ps, .int (zi ru), .ref pk, .ref pa, .ref pb, .ref pq, .int (zi we), .int (zi ((((0 + 1) + 1) + 1) + 1)), .ref pw, .int (zi ty), .ref pt])), (pw, aI cI 12 (zup (zup (zup (zup wf (Int.toNat 0) (48 + (((f_X5_yearOf x7) / 1000) % 10))) (Int.toNat (0 + 1)) (48 + (((f_X5_yearOf x7) / 100) % 10))) (Int.toNat ((0 + 1) + 1)) (48 + (((f_X5_yearOf x7) / 10) % 10))) (Int.toNat (((0 + 1) + 1) + 1)) (48 + (((f_X5_yearOf x7) / 1) % 10))))]) [1, 2] rfl
            have hKc : va_K (dC, dI) vwCl [(cI, .int)] s := hK
            have hDc := hD.sub (ws' := [(g0, .inr (5, [.int (zi 0), .ref ps, .int (zi ru), .ref pk, .ref pa, .ref pb, .ref pq, .int (zi we), .int (zi ((((0 + 1) + 1) + 1) + 1)), .ref pw, .int (zi ty), .ref pt])), (pw, aI cI 12 (zup (zup (zup (zup wf (Int.toNat 0) (48 + (((f_X5_yearOf x7) / 1000) % 10))) (Int.toNat (0 + 1)) (48 + (((f_X5_yearOf x7) / 100) % 10))) (Int.toNat ((0 + 1) + 1)) (48 + (((f_X5_yearOf x7) / 10) % 10))) (Int.toNat (((0 + 1) + 1) + 1)) (48 + (((f_X5_yearOf x7) / 1) % 10))))]) [1, 2] (by decide) rfl
            have hFc := va_free (wc := [(g0, .inr (5, [.int (zi 0), .ref ps, .int (zi ru), .ref pk, .ref pa, .ref pb, .ref pq, .int (zi we), .int (zi ((((0 + 1) + 1) + 1) + 1)), .ref pw, .int (zi ty), .ref pt])), (pw, aI cI 12 (zup (zup (zup (zup wf (Int.toNat 0) (48 + (((f_X5_yearOf x7) / 1000) % 10))) (Int.toNat (0 + 1)) (48 + (((f_X5_yearOf x7) / 100) % 10))) (Int.toNat ((0 + 1) + 1)) (48 + (((f_X5_yearOf x7) / 10) % 10))) (Int.toNat (((0 + 1) + 1) + 1)) (48 + (((f_X5_yearOf x7) / 1) % 10))))]) hD hS hA [1, 2] rfl
            refine va_callv (va_runV (As := [.int (zi 45)]) (rest := []) ⟨hx, hb, hml, hown, hts⟩ hh11 (cwV 1 hts gX5_write_X5_put rfl rfl rfl (by decide +kernel) ⟨Nat.le_of_ble_eq_true rfl, Nat.le_of_ble_eq_true rfl⟩) ⟨zPw.blind _ _ _ _ _, va_recv hKc hPc (ci := 5) (q0 := 0) rfl rfl, fun U hU hW => ⟨rfl, by rw [hU], by rw [hU]; exact hPc, va_K.moved hW.alike hKc, hDc.weaken (fun _ _ _ _ => trivial)⟩⟩ rfl rfl hl.1 rfl (lv_room (Nat.le_of_ble_eq_true rfl)) dX5_write_87 ⟨Nat.le_of_ble_eq_true rfl, Nat.le_of_ble_eq_true rfl⟩) hS (fun q _ h => hFc q h) hFc (fun u t H1 locs ht hvm hw hB hz1 hk1 hS => ?_)
            obtain ⟨hP1, hK1, hD1⟩ := hB
            rw [ht] at hP1
            obtain ⟨hP, hD⟩ := va_join (wr := [(ps, aI cI 10 sf)]) (w1 := [(g0, .inr (5, [.int (zi 0), .ref ps, .int (zi ru), .ref pk, .ref pa, .ref pb, .ref pq, .int (zi we), .int (zi (((((0 + 1) + 1) + 1) + 1) + 1)), .ref pw, .int (zi ty), .ref pt])), (pw, aI cI 12 (zup (zup (zup (zup (zup wf (Int.toNat 0) (48 + (((f_X5_yearOf x7) / 1000) % 10))) (Int.toNat (0 + 1)) (48 + (((f_X5_yearOf x7) / 100) % 10))) (Int.toNat ((0 + 1) + 1)) (48 + (((f_X5_yearOf x7) / 10) % 10))) (Int.toNat (((0 + 1) + 1) + 1)) (48 + (((f_X5_yearOf x7) / 1) % 10))) (Int.toNat ((((0 + 1) + 1) + 1) + 1)) 45))]) hP hD [1, 2] [0] rfl rfl (by decide) (by decide) hk1 hFc hP1 hD1
            generalize H1 = H at hP hS ⊢
            have hP : va_P (dC, dI) vwCl [(ps, aI cI 10 sf), (g0, .inr (5, [.int (zi 0), .ref ps, .int (zi ru), .ref pk, .ref pa, .ref pb, .ref pq, .int (zi we), .int (zi (((((0 + 1) + 1) + 1) + 1) + 1)), .ref pw, .int (zi ty), .ref pt])), (pw, aI cI 12 (zup (zup (zup (zup (zup wf (Int.toNat 0) (48 + (((f_X5_yearOf x7) / 1000) % 10))) (Int.toNat (0 + 1)) (48 + (((f_X5_yearOf x7) / 100) % 10))) (Int.toNat ((0 + 1) + 1)) (48 + (((f_X5_yearOf x7) / 10) % 10))) (Int.toNat (((0 + 1) + 1) + 1)) (48 + (((f_X5_yearOf x7) / 1) % 10))) (Int.toNat ((((0 + 1) + 1) + 1) + 1)) 45))] H := hP
            have hD : va_D A [(ps, aI cI 10 sf), (g0, .inr (5, [.int (zi 0), .ref ps, .int (zi ru), .ref pk, .ref pa, .ref pb, .ref pq, .int (zi we), .int (zi (((((0 + 1) + 1) + 1) + 1) + 1)), .ref pw, .int (zi ty), .ref pt])), (pw, aI cI 12 (zup (zup (zup (zup (zup wf (Int.toNat 0) (48 + (((f_X5_yearOf x7) / 1000) % 10))) (Int.toNat (0 + 1)) (48 + (((f_X5_yearOf x7) / 100) % 10))) (Int.toNat ((0 + 1) + 1)) (48 + (((f_X5_yearOf x7) / 10) % 10))) (Int.toNat (((0 + 1) + 1) + 1)) (48 + (((f_X5_yearOf x7) / 1) % 10))) (Int.toNat ((((0 + 1) + 1) + 1) + 1)) 45))] := hD
            refine lv_iload_n hx hb dX5_write_90 rfl (lv_at hl 3 rfl) ?_
            refine zw_if_ne (tgt := 121) hx hb dX5_write_91 (by decide) ⟨by omega, by omega⟩ (fun h12 => ?_) (fun h12 => ?_)
            · skip
              exact absurd True.intro (by omega)
            · skip
              refine lv_aload_n hx hb dX5_write_94 rfl (lv_at hl 1 rfl) ?_
              refine lv_iload_n hx hb dX5_write_95 rfl (lv_at hl 0 rfl) ?_
              have hh13 := c_X5_monthOf l x7 (by omega)
              refine vp_callSi (va_Run.run (va_runS (As := [.int (zi x7)]) (rest := [.ref g0]) ⟨hx, hb, hml, hown, hts⟩ hh13 (va_cwS 1 hts gX5_write_X5_monthOf rfl rfl rfl (by decide +kernel) ⟨Nat.le_of_ble_eq_true rfl, Nat.le_of_ble_eq_true rfl⟩) ⟨fun a U g mk q => q, fun U hU hW => ⟨rfl, trivial⟩⟩ rfl rfl hl.1 rfl (lv_room (Nat.le_of_ble_eq_true rfl)) dX5_write_96 ⟨Nat.zero_le _, Nat.zero_le _⟩)) (fun r13 (hr13 : r13 = zi (f_X5_monthOf x7)) => ?_)
              subst hr13
              have hf13 := b_X5_monthOf x7 (by omega)
              refine zw_iconst hx hb dX5_write_99 ?_
              have hh14 := c_X5_putNumber_2 l dC dI cI g0 ps pk pa pb pq pw pt 0 ru we (((((0 + 1) + 1) + 1) + 1) + 1) ty (zup (zup (zup (zup (zup wf (Int.toNat 0) (48 + (((f_X5_yearOf x7) / 1000) % 10))) (Int.toNat (0 + 1)) (48 + (((f_X5_yearOf x7) / 100) % 10))) (Int.toNat ((0 + 1) + 1)) (48 + (((f_X5_yearOf x7) / 10) % 10))) (Int.toNat (((0 + 1) + 1) + 1)) (48 + (((f_X5_yearOf x7) / 1) % 10))) (Int.toNat ((((0 + 1) + 1) + 1) + 1)) 45) (f_X5_monthOf x7) H.size (by omega) (by omega)
              have hPc := hP.sub (ws' := [(g0, .inr (5, [.int (zi 0), .ref ps, .int (zi ru), .ref pk, .ref pa, .ref pb, .ref pq, .int (zi we), .int (zi (((((0 + 1) + 1) + 1) + 1) + 1)), .ref pw, .int (zi ty), .ref pt])), (pw, aI cI 12 (zup (zup (zup (zup (zup wf (Int.toNat 0) (48 + (((f_X5_yearOf x7) / 1000) % 10))) (Int.toNat (0 + 1)) (48 + (((f_X5_yearOf x7) / 100) % 10))) (Int.toNat ((0 + 1) + 1)) (48 + (((f_X5_yearOf x7) / 10) % 10))) (Int.toNat (((0 + 1) + 1) + 1)) (48 + (((f_X5_yearOf x7) / 1) % 10))) (Int.toNat ((((0 + 1) + 1) + 1) + 1)) 45))]) [1, 2] rfl
              have hKc : va_K (dC, dI) vwCl [(cI, .int)] s := hK
              have hDc := hD.sub (ws' := [(g0, .inr (5, [.int (zi 0), .ref ps, .int (zi ru), .ref pk, .ref pa, .ref pb, .ref pq, .int (zi we), .int (zi (((((0 + 1) + 1) + 1) + 1) + 1)), .ref pw, .int (zi ty), .ref pt])), (pw, aI cI 12 (zup (zup (zup (zup (zup wf (Int.toNat 0) (48 + (((f_X5_yearOf x7) / 1000) % 10))) (Int.toNat (0 + 1)) (48 + (((f_X5_yearOf x7) / 100) % 10))) (Int.toNat ((0 + 1) + 1)) (48 + (((f_X5_yearOf x7) / 10) % 10))) (Int.toNat (((0 + 1) + 1) + 1)) (48 + (((f_X5_yearOf x7) / 1) % 10))) (Int.toNat ((((0 + 1) + 1) + 1) + 1)) 45))]) [1, 2] (by decide) rfl
              have hFc := va_free (wc := [(g0, .inr (5, [.int (zi 0), .ref ps, .int (zi ru), .ref pk, .ref pa, .ref pb, .ref pq, .int (zi we), .int (zi (((((0 + 1) + 1) + 1) + 1) + 1)), .ref pw, .int (zi ty), .ref pt])), (pw, aI cI 12 (zup (zup (zup (zup (zup wf (Int.toNat 0) (48 + (((f_X5_yearOf x7) / 1000) % 10))) (Int.toNat (0 + 1)) (48 + (((f_X5_yearOf x7) / 100) % 10))) (Int.toNat ((0 + 1) + 1)) (48 + (((f_X5_yearOf x7) / 10) % 10))) (Int.toNat (((0 + 1) + 1) + 1)) (48 + (((f_X5_yearOf x7) / 1) % 10))) (Int.toNat ((((0 + 1) + 1) + 1) + 1)) 45))]) hD hS hA [1, 2] rfl
              refine va_callv (va_runV (As := [.int (zi (f_X5_monthOf x7)), .int (zi 2)]) (rest := []) ⟨hx, hb, hml, hown, hts⟩ hh14 (cwV 2 hts gX5_write_X5_putNumber rfl rfl rfl (by decide +kernel) ⟨Nat.le_of_ble_eq_true rfl, Nat.le_of_ble_eq_true rfl⟩) ⟨zPw.blind _ _ _ _ _, va_recv hKc hPc (ci := 5) (q0 := 0) rfl rfl, fun U hU hW => ⟨rfl, by rw [hU], by rw [hU]; exact hPc, va_K.moved hW.alike hKc, hDc.weaken (fun _ _ _ _ => trivial)⟩⟩ rfl rfl hl.1 rfl (lv_room (Nat.le_of_ble_eq_true rfl)) dX5_write_100 ⟨Nat.le_of_ble_eq_true rfl, Nat.le_of_ble_eq_true rfl⟩) hS (fun q _ h => hFc q h) hFc (fun u t H1 locs ht hvm hw hB hz1 hk1 hS => ?_)
              obtain ⟨hP1, hK1, hD1⟩ := hB
              rw [ht] at hP1
              obtain ⟨hP, hD⟩ := va_join (wr := [(ps, aI cI 10 sf)]) (w1 := [(g0, .inr (5, [.int (zi 0), .ref ps, .int (zi ru), .ref pk, .ref pa, .ref pb, .ref pq, .int (zi we), .int (zi (((((((0 + 1) + 1) + 1) + 1) + 1) + 1) + 1)), .ref pw, .int (zi ty), .ref pt])), (pw, aI cI 12 (zup (zup (zup (zup (zup (zup (zup wf (Int.toNat 0) (48 + (((f_X5_yearOf x7) / 1000) % 10))) (Int.toNat (0 + 1)) (48 + (((f_X5_yearOf x7) / 100) % 10))) (Int.toNat ((0 + 1) + 1)) (48 + (((f_X5_yearOf x7) / 10) % 10))) (Int.toNat (((0 + 1) + 1) + 1)) (48 + (((f_X5_yearOf x7) / 1) % 10))) (Int.toNat ((((0 + 1) + 1) + 1) + 1)) 45) (Int.toNat (((((0 + 1) + 1) + 1) + 1) + 1)) (48 + (((f_X5_monthOf x7) / 10) % 10))) (Int.toNat ((((((0 + 1) + 1) + 1) + 1) + 1) + 1)) (48 + (((f_X5_monthOf x7) / 1) % 10))))]) hP hD [1, 2] [0] rfl rfl (by decide) (by decide) hk1 hFc hP1 hD1
              generalize H1 = H at hP hS ⊢
              have hP : va_P (dC, dI) vwCl [(ps, aI cI 10 sf), (g0, .inr (5, [.int (zi 0), .ref ps, .int (zi ru), .ref pk, .ref pa, .ref pb, .ref pq, .int (zi we), .int (zi (((((((0 + 1) + 1) + 1) + 1) + 1) + 1) + 1)), .ref pw, .int (zi ty), .ref pt])), (pw, aI cI 12 (zup (zup (zup (zup (zup (zup (zup wf (Int.toNat 0) (48 + (((f_X5_yearOf x7) / 1000) % 10))) (Int.toNat (0 + 1)) (48 + (((f_X5_yearOf x7) / 100) % 10))) (Int.toNat ((0 + 1) + 1)) (48 + (((f_X5_yearOf x7) / 10) % 10))) (Int.toNat (((0 + 1) + 1) + 1)) (48 + (((f_X5_yearOf x7) / 1) % 10))) (Int.toNat ((((0 + 1) + 1) + 1) + 1)) 45) (Int.toNat (((((0 + 1) + 1) + 1) + 1) + 1)) (48 + (((f_X5_monthOf x7) / 10) % 10))) (Int.toNat ((((((0 + 1) + 1) + 1) + 1) + 1) + 1)) (48 + (((f_X5_monthOf x7) / 1) % 10))))] H := hP
              have hD : va_D A [(ps, aI cI 10 sf), (g0, .inr (5, [.int (zi 0), .ref ps, .int (zi ru), .ref pk, .ref pa, .ref pb, .ref pq, .int (zi we), .int (zi (((((((0 + 1) + 1) + 1) + 1) + 1) + 1) + 1)), .ref pw, .int (zi ty), .ref pt])), (pw, aI cI 12 (zup (zup (zup (zup (zup (zup (zup wf (Int.toNat 0) (48 + (((f_X5_yearOf x7) / 1000) % 10))) (Int.toNat (0 + 1)) (48 + (((f_X5_yearOf x7) / 100) % 10))) (Int.toNat ((0 + 1) + 1)) (48 + (((f_X5_yearOf x7) / 10) % 10))) (Int.toNat (((0 + 1) + 1) + 1)) (48 + (((f_X5_yearOf x7) / 1) % 10))) (Int.toNat ((((0 + 1) + 1) + 1) + 1)) 45) (Int.toNat (((((0 + 1) + 1) + 1) + 1) + 1)) (48 + (((f_X5_monthOf x7) / 10) % 10))) (Int.toNat ((((((0 + 1) + 1) + 1) + 1) + 1) + 1)) (48 + (((f_X5_monthOf x7) / 1) % 10))))] := hD
              refine lv_aload_n hx hb dX5_write_103 rfl (lv_at hl 1 rfl) ?_
              refine zw_bipush hx hb dX5_write_104 (by decide) ?_
              have hh15 := c_X5_put l dC dI cI g0 ps pk pa pb pq pw pt 0 ru we (((((((0 + 1) + 1) + 1) + 1) + 1) + 1) + 1) ty (zup (zup (zup (zup (zup (zup (zup wf (Int.toNat 0) (48 + (((f_X5_yearOf x7) / 1000) % 10))) (Int.toNat (0 + 1)) (48 + (((f_X5_yearOf x7) / 100) % 10))) (Int.toNat ((0 + 1) + 1)) (48 + (((f_X5_yearOf x7) / 10) % 10))) (Int.toNat (((0 + 1) + 1) + 1)) (48 + (((f_X5_yearOf x7) / 1) % 10))) (Int.toNat ((((0 + 1) + 1) + 1) + 1)) 45) (Int.toNat (((((0 + 1) + 1) + 1) + 1) + 1)) (48 + (((f_X5_monthOf x7) / 10) % 10))) (Int.toNat ((((((0 + 1) + 1) + 1) + 1) + 1) + 1)) (48 + (((f_X5_monthOf x7) / 1) % 10))) 45 H.size (by omega)
              have hPc := hP.sub (ws' := [(g0, .inr (5, [.int (zi 0), .ref ps, .int (zi ru), .ref pk, .ref pa, .ref pb, .ref pq, .int (zi we), .int (zi (((((((0 + 1) + 1) + 1) + 1) + 1) + 1) + 1)), .ref pw, .int (zi ty), .ref pt])), (pw, aI cI 12 (zup (zup (zup (zup (zup (zup (zup wf (Int.toNat 0) (48 + (((f_X5_yearOf x7) / 1000) % 10))) (Int.toNat (0 + 1)) (48 + (((f_X5_yearOf x7) / 100) % 10))) (Int.toNat ((0 + 1) + 1)) (48 + (((f_X5_yearOf x7) / 10) % 10))) (Int.toNat (((0 + 1) + 1) + 1)) (48 + (((f_X5_yearOf x7) / 1) % 10))) (Int.toNat ((((0 + 1) + 1) + 1) + 1)) 45) (Int.toNat (((((0 + 1) + 1) + 1) + 1) + 1)) (48 + (((f_X5_monthOf x7) / 10) % 10))) (Int.toNat ((((((0 + 1) + 1) + 1) + 1) + 1) + 1)) (48 + (((f_X5_monthOf x7) / 1) % 10))))]) [1, 2] rfl
              have hKc : va_K (dC, dI) vwCl [(cI, .int)] s := hK
              have hDc := hD.sub (ws' := [(g0, .inr (5, [.int (zi 0), .ref ps, .int (zi ru), .ref pk, .ref pa, .ref pb, .ref pq, .int (zi we), .int (zi (((((((0 + 1) + 1) + 1) + 1) + 1) + 1) + 1)), .ref pw, .int (zi ty), .ref pt])), (pw, aI cI 12 (zup (zup (zup (zup (zup (zup (zup wf (Int.toNat 0) (48 + (((f_X5_yearOf x7) / 1000) % 10))) (Int.toNat (0 + 1)) (48 + (((f_X5_yearOf x7) / 100) % 10))) (Int.toNat ((0 + 1) + 1)) (48 + (((f_X5_yearOf x7) / 10) % 10))) (Int.toNat (((0 + 1) + 1) + 1)) (48 + (((f_X5_yearOf x7) / 1) % 10))) (Int.toNat ((((0 + 1) + 1) + 1) + 1)) 45) (Int.toNat (((((0 + 1) + 1) + 1) + 1) + 1)) (48 + (((f_X5_monthOf x7) / 10) % 10))) (Int.toNat ((((((0 + 1) + 1) + 1) + 1) + 1) + 1)) (48 + (((f_X5_monthOf x7) / 1) % 10))))]) [1, 2] (by decide) rfl
              have hFc := va_free (wc := [(g0, .inr (5, [.int (zi 0), .ref ps, .int (zi ru), .ref pk, .ref pa, .ref pb, .ref pq, .int (zi we), .int (zi (((((((0 + 1) + 1) + 1) + 1) + 1) + 1) + 1)), .ref pw, .int (zi ty), .ref pt])), (pw, aI cI 12 (zup (zup (zup (zup (zup (zup (zup wf (Int.toNat 0) (48 + (((f_X5_yearOf x7) / 1000) % 10))) (Int.toNat (0 + 1)) (48 + (((f_X5_yearOf x7) / 100) % 10))) (Int.toNat ((0 + 1) + 1)) (48 + (((f_X5_yearOf x7) / 10) % 10))) (Int.toNat (((0 + 1) + 1) + 1)) (48 + (((f_X5_yearOf x7) / 1) % 10))) (Int.toNat ((((0 + 1) + 1) + 1) + 1)) 45) (Int.toNat (((((0 + 1) + 1) + 1) + 1) + 1)) (48 + (((f_X5_monthOf x7) / 10) % 10))) (Int.toNat ((((((0 + 1) + 1) + 1) + 1) + 1) + 1)) (48 + (((f_X5_monthOf x7) / 1) % 10))))]) hD hS hA [1, 2] rfl
              refine va_callv (va_runV (As := [.int (zi 45)]) (rest := []) ⟨hx, hb, hml, hown, hts⟩ hh15 (cwV 1 hts gX5_write_X5_put rfl rfl rfl (by decide +kernel) ⟨Nat.le_of_ble_eq_true rfl, Nat.le_of_ble_eq_true rfl⟩) ⟨zPw.blind _ _ _ _ _, va_recv hKc hPc (ci := 5) (q0 := 0) rfl rfl, fun U hU hW => ⟨rfl, by rw [hU], by rw [hU]; exact hPc, va_K.moved hW.alike hKc, hDc.weaken (fun _ _ _ _ => trivial)⟩⟩ rfl rfl hl.1 rfl (lv_room (Nat.le_of_ble_eq_true rfl)) dX5_write_106 ⟨Nat.le_of_ble_eq_true rfl, Nat.le_of_ble_eq_true rfl⟩) hS (fun q _ h => hFc q h) hFc (fun u t H1 locs ht hvm hw hB hz1 hk1 hS => ?_)
              obtain ⟨hP1, hK1, hD1⟩ := hB
              rw [ht] at hP1
              obtain ⟨hP, hD⟩ := va_join (wr := [(ps, aI cI 10 sf)]) (w1 := [(g0, .inr (5, [.int (zi 0), .ref ps, .int (zi ru), .ref pk, .ref pa, .ref pb, .ref pq, .int (zi we), .int (zi ((((((((0 + 1) + 1) + 1) + 1) + 1) + 1) + 1) + 1)), .ref pw, .int (zi ty), .ref pt])), (pw, aI cI 12 (zup (zup (zup (zup (zup (zup (zup (zup wf (Int.toNat 0) (48 + (((f_X5_yearOf x7) / 1000) % 10))) (Int.toNat (0 + 1)) (48 + (((f_X5_yearOf x7) / 100) % 10))) (Int.toNat ((0 + 1) + 1)) (48 + (((f_X5_yearOf x7) / 10) % 10))) (Int.toNat (((0 + 1) + 1) + 1)) (48 + (((f_X5_yearOf x7) / 1) % 10))) (Int.toNat ((((0 + 1) + 1) + 1) + 1)) 45) (Int.toNat (((((0 + 1) + 1) + 1) + 1) + 1)) (48 + (((f_X5_monthOf x7) / 10) % 10))) (Int.toNat ((((((0 + 1) + 1) + 1) + 1) + 1) + 1)) (48 + (((f_X5_monthOf x7) / 1) % 10))) (Int.toNat (((((((0 + 1) + 1) + 1) + 1) + 1) + 1) + 1)) 45))]) hP hD [1, 2] [0] rfl rfl (by decide) (by decide) hk1 hFc hP1 hD1
              generalize H1 = H at hP hS ⊢
              have hP : va_P (dC, dI) vwCl [(ps, aI cI 10 sf), (g0, .inr (5, [.int (zi 0), .ref ps, .int (zi ru), .ref pk, .ref pa, .ref pb, .ref pq, .int (zi we), .int (zi ((((((((0 + 1) + 1) + 1) + 1) + 1) + 1) + 1) + 1)), .ref pw, .int (zi ty), .ref pt])), (pw, aI cI 12 (zup (zup (zup (zup (zup (zup (zup (zup wf (Int.toNat 0) (48 + (((f_X5_yearOf x7) / 1000) % 10))) (Int.toNat (0 + 1)) (48 + (((f_X5_yearOf x7) / 100) % 10))) (Int.toNat ((0 + 1) + 1)) (48 + (((f_X5_yearOf x7) / 10) % 10))) (Int.toNat (((0 + 1) + 1) + 1)) (48 + (((f_X5_yearOf x7) / 1) % 10))) (Int.toNat ((((0 + 1) + 1) + 1) + 1)) 45) (Int.toNat (((((0 + 1) + 1) + 1) + 1) + 1)) (48 + (((f_X5_monthOf x7) / 10) % 10))) (Int.toNat ((((((0 + 1) + 1) + 1) + 1) + 1) + 1)) (48 + (((f_X5_monthOf x7) / 1) % 10))) (Int.toNat (((((((0 + 1) + 1) + 1) + 1) + 1) + 1) + 1)) 45))] H := hP
              have hD : va_D A [(ps, aI cI 10 sf), (g0, .inr (5, [.int (zi 0), .ref ps, .int (zi ru), .ref pk, .ref pa, .ref pb, .ref pq, .int (zi we), .int (zi ((((((((0 + 1) + 1) + 1) + 1) + 1) + 1) + 1) + 1)), .ref pw, .int (zi ty), .ref pt])), (pw, aI cI 12 (zup (zup (zup (zup (zup (zup (zup (zup wf (Int.toNat 0) (48 + (((f_X5_yearOf x7) / 1000) % 10))) (Int.toNat (0 + 1)) (48 + (((f_X5_yearOf x7) / 100) % 10))) (Int.toNat ((0 + 1) + 1)) (48 + (((f_X5_yearOf x7) / 10) % 10))) (Int.toNat (((0 + 1) + 1) + 1)) (48 + (((f_X5_yearOf x7) / 1) % 10))) (Int.toNat ((((0 + 1) + 1) + 1) + 1)) 45) (Int.toNat (((((0 + 1) + 1) + 1) + 1) + 1)) (48 + (((f_X5_monthOf x7) / 10) % 10))) (Int.toNat ((((((0 + 1) + 1) + 1) + 1) + 1) + 1)) (48 + (((f_X5_monthOf x7) / 1) % 10))) (Int.toNat (((((((0 + 1) + 1) + 1) + 1) + 1) + 1) + 1)) 45))] := hD
              refine lv_aload_n hx hb dX5_write_109 rfl (lv_at hl 1 rfl) ?_
              refine lv_iload_n hx hb dX5_write_110 rfl (lv_at hl 0 rfl) ?_
              have hh16 := c_X5_dayOf l x7 (by omega)
              refine vp_callSi (va_Run.run (va_runS (As := [.int (zi x7)]) (rest := [.ref g0]) ⟨hx, hb, hml, hown, hts⟩ hh16 (va_cwS 1 hts gX5_write_X5_dayOf rfl rfl rfl (by decide +kernel) ⟨Nat.le_of_ble_eq_true rfl, Nat.le_of_ble_eq_true rfl⟩) ⟨fun a U g mk q => q, fun U hU hW => ⟨rfl, trivial⟩⟩ rfl rfl hl.1 rfl (lv_room (Nat.le_of_ble_eq_true rfl)) dX5_write_111 ⟨Nat.zero_le _, Nat.zero_le _⟩)) (fun r16 (hr16 : r16 = zi (f_X5_dayOf x7)) => ?_)
              subst hr16
              have hf16 := b_X5_dayOf x7 (by omega)
              refine zw_iconst hx hb dX5_write_114 ?_
              have hh17 := c_X5_putNumber_2 l dC dI cI g0 ps pk pa pb pq pw pt 0 ru we ((((((((0 + 1) + 1) + 1) + 1) + 1) + 1) + 1) + 1) ty (zup (zup (zup (zup (zup (zup (zup (zup wf (Int.toNat 0) (48 + (((f_X5_yearOf x7) / 1000) % 10))) (Int.toNat (0 + 1)) (48 + (((f_X5_yearOf x7) / 100) % 10))) (Int.toNat ((0 + 1) + 1)) (48 + (((f_X5_yearOf x7) / 10) % 10))) (Int.toNat (((0 + 1) + 1) + 1)) (48 + (((f_X5_yearOf x7) / 1) % 10))) (Int.toNat ((((0 + 1) + 1) + 1) + 1)) 45) (Int.toNat (((((0 + 1) + 1) + 1) + 1) + 1)) (48 + (((f_X5_monthOf x7) / 10) % 10))) (Int.toNat ((((((0 + 1) + 1) + 1) + 1) + 1) + 1)) (48 + (((f_X5_monthOf x7) / 1) % 10))) (Int.toNat (((((((0 + 1) + 1) + 1) + 1) + 1) + 1) + 1)) 45) (f_X5_dayOf x7) H.size (by omega) (by omega)
              have hPc := hP.sub (ws' := [(g0, .inr (5, [.int (zi 0), .ref ps, .int (zi ru), .ref pk, .ref pa, .ref pb, .ref pq, .int (zi we), .int (zi ((((((((0 + 1) + 1) + 1) + 1) + 1) + 1) + 1) + 1)), .ref pw, .int (zi ty), .ref pt])), (pw, aI cI 12 (zup (zup (zup (zup (zup (zup (zup (zup wf (Int.toNat 0) (48 + (((f_X5_yearOf x7) / 1000) % 10))) (Int.toNat (0 + 1)) (48 + (((f_X5_yearOf x7) / 100) % 10))) (Int.toNat ((0 + 1) + 1)) (48 + (((f_X5_yearOf x7) / 10) % 10))) (Int.toNat (((0 + 1) + 1) + 1)) (48 + (((f_X5_yearOf x7) / 1) % 10))) (Int.toNat ((((0 + 1) + 1) + 1) + 1)) 45) (Int.toNat (((((0 + 1) + 1) + 1) + 1) + 1)) (48 + (((f_X5_monthOf x7) / 10) % 10))) (Int.toNat ((((((0 + 1) + 1) + 1) + 1) + 1) + 1)) (48 + (((f_X5_monthOf x7) / 1) % 10))) (Int.toNat (((((((0 + 1) + 1) + 1) + 1) + 1) + 1) + 1)) 45))]) [1, 2] rfl
              have hKc : va_K (dC, dI) vwCl [(cI, .int)] s := hK
              have hDc := hD.sub (ws' := [(g0, .inr (5, [.int (zi 0), .ref ps, .int (zi ru), .ref pk, .ref pa, .ref pb, .ref pq, .int (zi we), .int (zi ((((((((0 + 1) + 1) + 1) + 1) + 1) + 1) + 1) + 1)), .ref pw, .int (zi ty), .ref pt])), (pw, aI cI 12 (zup (zup (zup (zup (zup (zup (zup (zup wf (Int.toNat 0) (48 + (((f_X5_yearOf x7) / 1000) % 10))) (Int.toNat (0 + 1)) (48 + (((f_X5_yearOf x7) / 100) % 10))) (Int.toNat ((0 + 1) + 1)) (48 + (((f_X5_yearOf x7) / 10) % 10))) (Int.toNat (((0 + 1) + 1) + 1)) (48 + (((f_X5_yearOf x7) / 1) % 10))) (Int.toNat ((((0 + 1) + 1) + 1) + 1)) 45) (Int.toNat (((((0 + 1) + 1) + 1) + 1) + 1)) (48 + (((f_X5_monthOf x7) / 10) % 10))) (Int.toNat ((((((0 + 1) + 1) + 1) + 1) + 1) + 1)) (48 + (((f_X5_monthOf x7) / 1) % 10))) (Int.toNat (((((((0 + 1) + 1) + 1) + 1) + 1) + 1) + 1)) 45))]) [1, 2] (by decide) rfl
              have hFc := va_free (wc := [(g0, .inr (5, [.int (zi 0), .ref ps, .int (zi ru), .ref pk, .ref pa, .ref pb, .ref pq, .int (zi we), .int (zi ((((((((0 + 1) + 1) + 1) + 1) + 1) + 1) + 1) + 1)), .ref pw, .int (zi ty), .ref pt])), (pw, aI cI 12 (zup (zup (zup (zup (zup (zup (zup (zup wf (Int.toNat 0) (48 + (((f_X5_yearOf x7) / 1000) % 10))) (Int.toNat (0 + 1)) (48 + (((f_X5_yearOf x7) / 100) % 10))) (Int.toNat ((0 + 1) + 1)) (48 + (((f_X5_yearOf x7) / 10) % 10))) (Int.toNat (((0 + 1) + 1) + 1)) (48 + (((f_X5_yearOf x7) / 1) % 10))) (Int.toNat ((((0 + 1) + 1) + 1) + 1)) 45) (Int.toNat (((((0 + 1) + 1) + 1) + 1) + 1)) (48 + (((f_X5_monthOf x7) / 10) % 10))) (Int.toNat ((((((0 + 1) + 1) + 1) + 1) + 1) + 1)) (48 + (((f_X5_monthOf x7) / 1) % 10))) (Int.toNat (((((((0 + 1) + 1) + 1) + 1) + 1) + 1) + 1)) 45))]) hD hS hA [1, 2] rfl
              refine va_callv (va_runV (As := [.int (zi (f_X5_dayOf x7)), .int (zi 2)]) (rest := []) ⟨hx, hb, hml, hown, hts⟩ hh17 (cwV 2 hts gX5_write_X5_putNumber rfl rfl rfl (by decide +kernel) ⟨Nat.le_of_ble_eq_true rfl, Nat.le_of_ble_eq_true rfl⟩) ⟨zPw.blind _ _ _ _ _, va_recv hKc hPc (ci := 5) (q0 := 0) rfl rfl, fun U hU hW => ⟨rfl, by rw [hU], by rw [hU]; exact hPc, va_K.moved hW.alike hKc, hDc.weaken (fun _ _ _ _ => trivial)⟩⟩ rfl rfl hl.1 rfl (lv_room (Nat.le_of_ble_eq_true rfl)) dX5_write_115 ⟨Nat.le_of_ble_eq_true rfl, Nat.le_of_ble_eq_true rfl⟩) hS (fun q _ h => hFc q h) hFc (fun u t H1 locs ht hvm hw hB hz1 hk1 hS => ?_)
              obtain ⟨hP1, hK1, hD1⟩ := hB
              rw [ht] at hP1
              obtain ⟨hP, hD⟩ := va_join (wr := [(ps, aI cI 10 sf)]) (w1 := [(g0, .inr (5, [.int (zi 0), .ref ps, .int (zi ru), .ref pk, .ref pa, .ref pb, .ref pq, .int (zi we), .int (zi ((((((((((0 + 1) + 1) + 1) + 1) + 1) + 1) + 1) + 1) + 1) + 1)), .ref pw, .int (zi ty), .ref pt])), (pw, aI cI 12 (zup (zup (zup (zup (zup (zup (zup (zup (zup (zup wf (Int.toNat 0) (48 + (((f_X5_yearOf x7) / 1000) % 10))) (Int.toNat (0 + 1)) (48 + (((f_X5_yearOf x7) / 100) % 10))) (Int.toNat ((0 + 1) + 1)) (48 + (((f_X5_yearOf x7) / 10) % 10))) (Int.toNat (((0 + 1) + 1) + 1)) (48 + (((f_X5_yearOf x7) / 1) % 10))) (Int.toNat ((((0 + 1) + 1) + 1) + 1)) 45) (Int.toNat (((((0 + 1) + 1) + 1) + 1) + 1)) (48 + (((f_X5_monthOf x7) / 10) % 10))) (Int.toNat ((((((0 + 1) + 1) + 1) + 1) + 1) + 1)) (48 + (((f_X5_monthOf x7) / 1) % 10))) (Int.toNat (((((((0 + 1) + 1) + 1) + 1) + 1) + 1) + 1)) 45) (Int.toNat ((((((((0 + 1) + 1) + 1) + 1) + 1) + 1) + 1) + 1)) (48 + (((f_X5_dayOf x7) / 10) % 10))) (Int.toNat (((((((((0 + 1) + 1) + 1) + 1) + 1) + 1) + 1) + 1) + 1)) (48 + (((f_X5_dayOf x7) / 1) % 10))))]) hP hD [1, 2] [0] rfl rfl (by decide) (by decide) hk1 hFc hP1 hD1
              generalize H1 = H at hP hS ⊢
              have hP : va_P (dC, dI) vwCl [(ps, aI cI 10 sf), (g0, .inr (5, [.int (zi 0), .ref ps, .int (zi ru), .ref pk, .ref pa, .ref pb, .ref pq, .int (zi we), .int (zi ((((((((((0 + 1) + 1) + 1) + 1) + 1) + 1) + 1) + 1) + 1) + 1)), .ref pw, .int (zi ty), .ref pt])), (pw, aI cI 12 (zup (zup (zup (zup (zup (zup (zup (zup (zup (zup wf (Int.toNat 0) (48 + (((f_X5_yearOf x7) / 1000) % 10))) (Int.toNat (0 + 1)) (48 + (((f_X5_yearOf x7) / 100) % 10))) (Int.toNat ((0 + 1) + 1)) (48 + (((f_X5_yearOf x7) / 10) % 10))) (Int.toNat (((0 + 1) + 1) + 1)) (48 + (((f_X5_yearOf x7) / 1) % 10))) (Int.toNat ((((0 + 1) + 1) + 1) + 1)) 45) (Int.toNat (((((0 + 1) + 1) + 1) + 1) + 1)) (48 + (((f_X5_monthOf x7) / 10) % 10))) (Int.toNat ((((((0 + 1) + 1) + 1) + 1) + 1) + 1)) (48 + (((f_X5_monthOf x7) / 1) % 10))) (Int.toNat (((((((0 + 1) + 1) + 1) + 1) + 1) + 1) + 1)) 45) (Int.toNat ((((((((0 + 1) + 1) + 1) + 1) + 1) + 1) + 1) + 1)) (48 + (((f_X5_dayOf x7) / 10) % 10))) (Int.toNat (((((((((0 + 1) + 1) + 1) + 1) + 1) + 1) + 1) + 1) + 1)) (48 + (((f_X5_dayOf x7) / 1) % 10))))] H := hP
              have hD : va_D A [(ps, aI cI 10 sf), (g0, .inr (5, [.int (zi 0), .ref ps, .int (zi ru), .ref pk, .ref pa, .ref pb, .ref pq, .int (zi we), .int (zi ((((((((((0 + 1) + 1) + 1) + 1) + 1) + 1) + 1) + 1) + 1) + 1)), .ref pw, .int (zi ty), .ref pt])), (pw, aI cI 12 (zup (zup (zup (zup (zup (zup (zup (zup (zup (zup wf (Int.toNat 0) (48 + (((f_X5_yearOf x7) / 1000) % 10))) (Int.toNat (0 + 1)) (48 + (((f_X5_yearOf x7) / 100) % 10))) (Int.toNat ((0 + 1) + 1)) (48 + (((f_X5_yearOf x7) / 10) % 10))) (Int.toNat (((0 + 1) + 1) + 1)) (48 + (((f_X5_yearOf x7) / 1) % 10))) (Int.toNat ((((0 + 1) + 1) + 1) + 1)) 45) (Int.toNat (((((0 + 1) + 1) + 1) + 1) + 1)) (48 + (((f_X5_monthOf x7) / 10) % 10))) (Int.toNat ((((((0 + 1) + 1) + 1) + 1) + 1) + 1)) (48 + (((f_X5_monthOf x7) / 1) % 10))) (Int.toNat (((((((0 + 1) + 1) + 1) + 1) + 1) + 1) + 1)) 45) (Int.toNat ((((((((0 + 1) + 1) + 1) + 1) + 1) + 1) + 1) + 1)) (48 + (((f_X5_dayOf x7) / 10) % 10))) (Int.toNat (((((((((0 + 1) + 1) + 1) + 1) + 1) + 1) + 1) + 1) + 1)) (48 + (((f_X5_dayOf x7) / 1) % 10))))] := hD
              refine lv_goto (tgt := 170) hx hb dX5_write_118 (by decide) ?_
              refine lv_aload_n hx hb dX5_write_170 rfl (lv_at hl 1 rfl) ?_
              refine va_get (D := (dC, dI)) (ci := 5) (v := .int (zi ((((((((((0 + 1) + 1) + 1) + 1) + 1) + 1) + 1) + 1) + 1) + 1))) (C := RX5) (T := TX5) (N := 12) hx hb hts (by decide +kernel) hown hK hP 1 rfl rfl 8 (by decide) (hts (.fieldLink RX5 134 "CivilDaysModel" "written" "I") (by decide +kernel)) (fun _ h9 => h9) rfl dX5_write_171 ?_
              subst ex7
              have hP9 := hP.sub (ws' := [(g0, .inr (5, [.int (zi 0), .ref ps, .int (zi ru), .ref pk, .ref pa, .ref pb, .ref pq, .int (zi we), .int (zi ((((((((((0 + 1) + 1) + 1) + 1) + 1) + 1) + 1) + 1) + 1) + 1)), .ref pw, .int (zi ty), .ref pt])), (ps, aI cI 10 sf), (pw, aI cI 12 (zup (zup (zup (zup (zup (zup (zup (zup (zup (zup wf (Int.toNat 0) (48 + (((f_X5_yearOf (sf sl.toNat)) / 1000) % 10))) (Int.toNat (0 + 1)) (48 + (((f_X5_yearOf (sf sl.toNat)) / 100) % 10))) (Int.toNat ((0 + 1) + 1)) (48 + (((f_X5_yearOf (sf sl.toNat)) / 10) % 10))) (Int.toNat (((0 + 1) + 1) + 1)) (48 + (((f_X5_yearOf (sf sl.toNat)) / 1) % 10))) (Int.toNat ((((0 + 1) + 1) + 1) + 1)) 45) (Int.toNat (((((0 + 1) + 1) + 1) + 1) + 1)) (48 + (((f_X5_monthOf (sf sl.toNat)) / 10) % 10))) (Int.toNat ((((((0 + 1) + 1) + 1) + 1) + 1) + 1)) (48 + (((f_X5_monthOf (sf sl.toNat)) / 1) % 10))) (Int.toNat (((((((0 + 1) + 1) + 1) + 1) + 1) + 1) + 1)) 45) (Int.toNat ((((((((0 + 1) + 1) + 1) + 1) + 1) + 1) + 1) + 1)) (48 + (((f_X5_dayOf (sf sl.toNat)) / 10) % 10))) (Int.toNat (((((((((0 + 1) + 1) + 1) + 1) + 1) + 1) + 1) + 1) + 1)) (48 + (((f_X5_dayOf (sf sl.toNat)) / 1) % 10))))]) [1, 0, 2] rfl
              have hD9 := hD.sub (ws' := [(g0, .inr (5, [.int (zi 0), .ref ps, .int (zi ru), .ref pk, .ref pa, .ref pb, .ref pq, .int (zi we), .int (zi ((((((((((0 + 1) + 1) + 1) + 1) + 1) + 1) + 1) + 1) + 1) + 1)), .ref pw, .int (zi ty), .ref pt])), (ps, aI cI 10 sf), (pw, aI cI 12 (zup (zup (zup (zup (zup (zup (zup (zup (zup (zup wf (Int.toNat 0) (48 + (((f_X5_yearOf (sf sl.toNat)) / 1000) % 10))) (Int.toNat (0 + 1)) (48 + (((f_X5_yearOf (sf sl.toNat)) / 100) % 10))) (Int.toNat ((0 + 1) + 1)) (48 + (((f_X5_yearOf (sf sl.toNat)) / 10) % 10))) (Int.toNat (((0 + 1) + 1) + 1)) (48 + (((f_X5_yearOf (sf sl.toNat)) / 1) % 10))) (Int.toNat ((((0 + 1) + 1) + 1) + 1)) 45) (Int.toNat (((((0 + 1) + 1) + 1) + 1) + 1)) (48 + (((f_X5_monthOf (sf sl.toNat)) / 10) % 10))) (Int.toNat ((((((0 + 1) + 1) + 1) + 1) + 1) + 1)) (48 + (((f_X5_monthOf (sf sl.toNat)) / 1) % 10))) (Int.toNat (((((((0 + 1) + 1) + 1) + 1) + 1) + 1) + 1)) 45) (Int.toNat ((((((((0 + 1) + 1) + 1) + 1) + 1) + 1) + 1) + 1)) (48 + (((f_X5_dayOf (sf sl.toNat)) / 10) % 10))) (Int.toNat (((((((((0 + 1) + 1) + 1) + 1) + 1) + 1) + 1) + 1) + 1)) (48 + (((f_X5_dayOf (sf sl.toNat)) / 1) % 10))))]) [1, 0, 2] (by decide) rfl
              exact W.iret (v := zi ((((((((((0 + 1) + 1) + 1) + 1) + 1) + 1) + 1) + 1) + 1) + 1)) hx hb hr (fun t ht hW => ⟨⟨zi ((((((((((0 + 1) + 1) + 1) + 1) + 1) + 1) + 1) + 1) + 1) + 1), (), rfl, rfl, by rw [ht]; exact hP9, va_K.moved hW.alike hK, hD9⟩, hS.F ht⟩) hS.2.2 dX5_write_174
          · skip
            exact absurd True.intro (by omega)
        · skip
          exact absurd True.intro (by omega)
      · skip
        exact absurd True.intro (by omega)
    · skip
      exact absurd True.intro (by omega)
  · skip
    exact absurd True.intro (by omega)

set_option maxHeartbeats 4000000 in
set_option maxRecDepth 100000 in
theorem c_X5_write_ok1 (l : Launch)  (dC : Nat → ClassId) (dI : Nat → Nat → Nat) (cI : ClassId) (g0 : Nat) (ps : Nat) (pk : Nat) (pa : Nat) (pb : Nat) (pq : Nat) (pw : Nat) (pt : Nat) (co : Int) (ru : Int) (we : Int) (wr : Int) (ty : Int) (sf : Nat → Int) (wf : Nat → Int) (sl : Int) (sz : Nat) (hp0 : 0 ≤ sl ∧ sl ≤ 9) (hp1 : 0 ≤ sf sl.toNat ∧ sf sl.toNat ≤ 3652058) : Met l yX5_write wsX5_write ({ frames := 4, cells := 0, slots := 0, locals := 83 }) (zPw (dC, dI) [(cI, .int)] sz [.ref g0, .int (zi sl), .int (zi 1)] [(g0, .inr (5, [.int (zi co), .ref ps, .int (zi ru), .ref pk, .ref pa, .ref pb, .ref pq, .int (zi we), .int (zi wr), .ref pw, .int (zi ty), .ref pt])), (ps, aI cI 10 sf), (pw, aI cI 12 wf)]) (va_Qi (fun (r : Int32) (_ : Unit) => r = zi ((((((((((0 + 1) + 1) + 1) + 1) + 1) + 1) + 1) + 1) + 1) + 1)) (zB (dC, dI) [(cI, .int)] (va_A [(g0, .inr (5, [.int (zi co), .ref ps, .int (zi ru), .ref pk, .ref pa, .ref pb, .ref pq, .int (zi we), .int (zi wr), .ref pw, .int (zi ty), .ref pt])), (ps, aI cI 10 sf), (pw, aI cI 12 wf)] sz) [(g0, .inr (5, [.int (zi 0), .ref ps, .int (zi ru), .ref pk, .ref pa, .ref pb, .ref pq, .int (zi we), .int (zi ((((((((((0 + 1) + 1) + 1) + 1) + 1) + 1) + 1) + 1) + 1) + 1)), .ref pw, .int (zi ty), .ref pt])), (ps, aI cI 10 sf), (pw, aI cI 12 (zup (zup (zup (zup (zup (zup (zup (zup (zup (zup wf (Int.toNat 0) (48 + (((f_X5_weekYearOf (sf sl.toNat)) / 1000) % 10))) (Int.toNat (0 + 1)) (48 + (((f_X5_weekYearOf (sf sl.toNat)) / 100) % 10))) (Int.toNat ((0 + 1) + 1)) (48 + (((f_X5_weekYearOf (sf sl.toNat)) / 10) % 10))) (Int.toNat (((0 + 1) + 1) + 1)) (48 + (((f_X5_weekYearOf (sf sl.toNat)) / 1) % 10))) (Int.toNat ((((0 + 1) + 1) + 1) + 1)) 45) (Int.toNat (((((0 + 1) + 1) + 1) + 1) + 1)) 87) (Int.toNat ((((((0 + 1) + 1) + 1) + 1) + 1) + 1)) (48 + (((f_X5_weekOf (sf sl.toNat)) / 10) % 10))) (Int.toNat (((((((0 + 1) + 1) + 1) + 1) + 1) + 1) + 1)) (48 + (((f_X5_weekOf (sf sl.toNat)) / 1) % 10))) (Int.toNat ((((((((0 + 1) + 1) + 1) + 1) + 1) + 1) + 1) + 1)) 45) (Int.toNat (((((((((0 + 1) + 1) + 1) + 1) + 1) + 1) + 1) + 1) + 1)) (48 + (((f_X5_weekdayOf (sf sl.toNat)) / 1) % 10))))]) (va_A [(g0, .inr (5, [.int (zi co), .ref ps, .int (zi ru), .ref pk, .ref pa, .ref pb, .ref pq, .int (zi we), .int (zi wr), .ref pw, .int (zi ty), .ref pt])), (ps, aI cI 10 sf), (pw, aI cI 12 wf)] sz)) 0 0 (va_A [(g0, .inr (5, [.int (zi co), .ref ps, .int (zi ru), .ref pk, .ref pa, .ref pb, .ref pq, .int (zi we), .int (zi wr), .ref pw, .int (zi ty), .ref pt])), (ps, aI cI 10 sf), (pw, aI cI 12 wf)] sz) := by
  refine Met.ofW (cc := cX5_write) (maxL := 4) (ret := (some .int)) (by decide) rfl ?_
  intro p e s m args below meth c s₁ B hml hv
  obtain ⟨rfl, hsz, hP, hK, hD0⟩ := hv
  have hx := B.exec
  have hb := B.bytes
  have hr := B.returns
  have hts := atoms_spec (ws := wsX5_write) B.pre
  have hown : s.vm.findClass RX5 = some m.cls := findClass_of_methodNamed B.named
  have hlocks := B.notSynchronized
  subst hsz
  have hD := hD0.self (sz := s.heap.size)
  generalize hAe : va_A [(g0, .inr (5, [.int (zi co), .ref ps, .int (zi ru), .ref pk, .ref pa, .ref pb, .ref pq, .int (zi we), .int (zi wr), .ref pw, .int (zi ty), .ref pt])), (ps, aI cI 10 sf), (pw, aI cI 12 wf)] s.heap.size = A at hD ⊢
  have hA : ∀ q : Nat, s.heap.size ≤ q → A q := fun q h => by rw [← hAe]; exact Or.inr h
  have hS : va_S A s.heap s.heap [] := va_S.rf
  have hP : va_P (dC, dI) vwCl [(g0, .inr (5, [.int (zi co), .ref ps, .int (zi ru), .ref pk, .ref pa, .ref pb, .ref pq, .int (zi we), .int (zi wr), .ref pw, .int (zi ty), .ref pt])), (ps, aI cI 10 sf), (pw, aI cI 12 wf)] s.heap := hP
  have hl := lv_entry ([.ref g0, .int (zi sl), .int (zi 1)]) (n := 4) (Nat.le_of_ble_eq_true rfl)
  rw [lg_entry_eq]
  generalize (lg_sl ([.ref g0, .int (zi sl), .int (zi 1)]) ++ List.replicate (4 - (lg_sl ([.ref g0, .int (zi sl), .int (zi 1)])).length) Slot.unset).toArray = ls at hl ⊢
  have hl : lv_has ls 4 [(0, .ref g0), (1, .int (zi sl)), (2, .int (zi 1))] := hl
  refine lv_aload_n hx hb dX5_write_0 rfl (lv_at hl 0 rfl) ?_
  refine lv_iload_n hx hb dX5_write_1 rfl (lv_at hl 1 rfl) ?_
  have hh1 := c_X5_isSlot l sl (by omega)
  refine vp_callSi (va_Run.run (va_runS (As := [.int (zi sl)]) (rest := [.ref g0]) ⟨hx, hb, hml, hown, hts⟩ hh1 (va_cwS 1 hts gX5_write_X5_isSlot rfl rfl rfl (by decide +kernel) ⟨Nat.le_of_ble_eq_true rfl, Nat.le_of_ble_eq_true rfl⟩) ⟨fun a U g mk q => q, fun U hU hW => ⟨rfl, trivial⟩⟩ rfl rfl hl.1 rfl (lv_room (Nat.le_of_ble_eq_true rfl)) dX5_write_2 ⟨Nat.zero_le _, Nat.zero_le _⟩)) (fun r1 (hr1 : r1 = zi (f_X5_isSlot sl)) => ?_)
  subst hr1
  have hf1 := b_X5_isSlot sl (by omega)
  refine zw_if_ne (tgt := 12) hx hb dX5_write_5 (by decide) ⟨by omega, by omega⟩ (fun h2 => ?_) (fun h2 => ?_)
  · skip
    refine lv_iload_n hx hb dX5_write_12 rfl (lv_at hl 2 rfl) ?_
    refine zw_iconst hx hb dX5_write_13 ?_
    refine zw_iconst hx hb dX5_write_14 ?_
    have hh3 := c_X5_in l 1 0 2 (by omega) (by omega) (by omega)
    refine vp_callSi (va_Run.run (va_runS (As := [.int (zi 1), .int (zi 0), .int (zi 2)]) (rest := [.ref g0]) ⟨hx, hb, hml, hown, hts⟩ hh3 (va_cwS 3 hts gX5_write_X5_in rfl rfl rfl (by decide +kernel) ⟨Nat.le_of_ble_eq_true rfl, Nat.le_of_ble_eq_true rfl⟩) ⟨fun a U g mk q => q, fun U hU hW => ⟨rfl, trivial⟩⟩ rfl rfl hl.1 rfl (lv_room (Nat.le_of_ble_eq_true rfl)) dX5_write_15 ⟨Nat.zero_le _, Nat.zero_le _⟩)) (fun r3 (hr3 : r3 = zi (f_X5_in 1 0 2)) => ?_)
    subst hr3
    have hf3 := b_X5_in 1 0 2 (by omega) (by omega) (by omega)
    refine zw_if_ne (tgt := 25) hx hb dX5_write_18 (by decide) ⟨by omega, by omega⟩ (fun h4 => ?_) (fun h4 => ?_)
    · skip
      refine lv_aload_n hx hb dX5_write_25 rfl (lv_at hl 0 rfl) ?_
      refine va_get (D := (dC, dI)) (ci := 5) (v := .ref ps) (C := RX5) (T := TX5) (N := 12) hx hb hts (by decide +kernel) hown hK hP 0 rfl rfl 1 (by decide) (hts (.fieldLink RX5 7 "CivilDaysModel" "slots" "[I") (by decide +kernel)) (fun _ h9 => h9) rfl dX5_write_26 ?_
      refine lv_iload_n hx hb dX5_write_29 rfl (lv_at hl 1 rfl) ?_
      refine zw_iald hx hb hK hP 1 0 rfl rfl (by omega) (by omega) ⟨by omega, by omega⟩ dX5_write_30 ?_
      refine zw_if_ge (tgt := 38) hx hb dX5_write_31 (by decide) ⟨by omega, by omega⟩ (fun h5 => ?_) (fun h5 => ?_)
      · skip
        refine zw_iconst hx hb dX5_write_38 ?_
        refine va_put (D := (dC, dI)) (ci := 5) (v := .int (zi 0)) (ty := .int) (C := RX5) (T := TX5) (N := 12) hx hb hts (by decide +kernel) tyX5 tyX5_ok nmX5 hown hK hP hD hS 0 rfl rfl 0 (by decide) (hts (.fieldLink RX5 35 "CivilDaysModel" "code" "I") (by decide +kernel)) (fun _ h9 => h9) rfl (by decide +kernel) rfl rfl (Nat.le_of_ble_eq_true rfl) dX5_write_39 (fun H locs hP hD hS => ?_)
        have hP : va_P (dC, dI) vwCl [(g0, .inr (5, [.int (zi 0), .ref ps, .int (zi ru), .ref pk, .ref pa, .ref pb, .ref pq, .int (zi we), .int (zi wr), .ref pw, .int (zi ty), .ref pt])), (ps, aI cI 10 sf), (pw, aI cI 12 wf)] H := hP
        have hD : va_D A [(g0, .inr (5, [.int (zi 0), .ref ps, .int (zi ru), .ref pk, .ref pa, .ref pb, .ref pq, .int (zi we), .int (zi wr), .ref pw, .int (zi ty), .ref pt])), (ps, aI cI 10 sf), (pw, aI cI 12 wf)] := hD
        refine lv_aload_n hx hb dX5_write_42 rfl (lv_at hl 0 rfl) ?_
        refine va_get (D := (dC, dI)) (ci := 5) (v := .int (zi 0)) (C := RX5) (T := TX5) (N := 12) hx hb hts (by decide +kernel) hown hK hP 0 rfl rfl 0 (by decide) (hts (.fieldLink RX5 35 "CivilDaysModel" "code" "I") (by decide +kernel)) (fun _ h9 => h9) rfl dX5_write_43 ?_
        refine zw_if_le (tgt := 51) hx hb dX5_write_46 (by decide) ⟨by omega, by omega⟩ (fun h6 => ?_) (fun h6 => ?_)
        · skip
          refine lv_aload_n hx hb dX5_write_51 rfl (lv_at hl 0 rfl) ?_
          refine va_get (D := (dC, dI)) (ci := 5) (v := .ref ps) (C := RX5) (T := TX5) (N := 12) hx hb hts (by decide +kernel) hown hK hP 0 rfl rfl 1 (by decide) (hts (.fieldLink RX5 7 "CivilDaysModel" "slots" "[I") (by decide +kernel)) (fun _ h9 => h9) rfl dX5_write_52 ?_
          refine lv_iload_n hx hb dX5_write_55 rfl (lv_at hl 1 rfl) ?_
          refine zw_iald hx hb hK hP 1 0 rfl rfl (by omega) (by omega) ⟨by omega, by omega⟩ dX5_write_56 ?_
          refine zw_top (fun x7 ex7 => ?_)
          refine lv_istore_n (lv' := [(3, .int (zi x7)), (0, .ref g0), (1, .int (zi sl)), (2, .int (zi 1))]) hx hb dX5_write_57 rfl hl (by decide) rfl (fun ls hl => ?_)
          refine lv_aload_n hx hb dX5_write_58 rfl (lv_at hl 1 rfl) ?_
          refine zw_iconst hx hb dX5_write_59 ?_
          refine va_put (D := (dC, dI)) (ci := 5) (v := .int (zi 0)) (ty := .int) (C := RX5) (T := TX5) (N := 12) hx hb hts (by decide +kernel) tyX5 tyX5_ok nmX5 hown hK hP hD hS 0 rfl rfl 8 (by decide) (hts (.fieldLink RX5 134 "CivilDaysModel" "written" "I") (by decide +kernel)) (fun _ h9 => h9) rfl (by decide +kernel) rfl rfl (Nat.le_of_ble_eq_true rfl) dX5_write_60 (fun H locs hP hD hS => ?_)
          have hP : va_P (dC, dI) vwCl [(g0, .inr (5, [.int (zi 0), .ref ps, .int (zi ru), .ref pk, .ref pa, .ref pb, .ref pq, .int (zi we), .int (zi 0), .ref pw, .int (zi ty), .ref pt])), (ps, aI cI 10 sf), (pw, aI cI 12 wf)] H := hP
          have hD : va_D A [(g0, .inr (5, [.int (zi 0), .ref ps, .int (zi ru), .ref pk, .ref pa, .ref pb, .ref pq, .int (zi we), .int (zi 0), .ref pw, .int (zi ty), .ref pt])), (ps, aI cI 10 sf), (pw, aI cI 12 wf)] := hD
          refine lv_aload_n hx hb dX5_write_63 rfl (lv_at hl 1 rfl) ?_
          refine lv_iload_n hx hb dX5_write_64 rfl (lv_at hl 3 rfl) ?_
          refine zw_iconst hx hb dX5_write_65 ?_
          refine zw_icmp_ne (tgt := 76) hx hb dX5_write_66 (by decide) ⟨by omega, by omega⟩ ⟨by omega, by omega⟩ (fun h8 => ?_) (fun h8 => ?_)
          · skip
            exact absurd True.intro (by omega)
          · skip
            refine lv_iload_n hx hb dX5_write_69 rfl (lv_at hl 0 rfl) ?_
            have hh9 := c_X5_weekYearOf l x7 (by omega)
            refine vp_callSi (va_Run.run (va_runS (As := [.int (zi x7)]) (rest := [.ref g0]) ⟨hx, hb, hml, hown, hts⟩ hh9 (va_cwS 1 hts gX5_write_X5_weekYearOf rfl rfl rfl (by decide +kernel) ⟨Nat.le_of_ble_eq_true rfl, Nat.le_of_ble_eq_true rfl⟩) ⟨fun a U g mk q => q, fun U hU hW => ⟨rfl, trivial⟩⟩ rfl rfl hl.1 rfl (lv_room (Nat.le_of_ble_eq_true rfl)) dX5_write_70 ⟨Nat.zero_le _, Nat.zero_le _⟩)) (fun r9 (hr9 : r9 = zi (f_X5_weekYearOf x7)) => ?_)
            subst hr9
            have hf9 := b_X5_weekYearOf x7 (by omega)
            refine lv_goto (tgt := 80) hx hb dX5_write_73 (by decide) ?_
            refine zw_iconst hx hb dX5_write_80 ?_
            have hh10 := c_X5_putNumber_4 l dC dI cI g0 ps pk pa pb pq pw pt 0 ru we 0 ty wf (f_X5_weekYearOf x7) H.size (by omega) (by omega)
            have hPc := hP.sub (ws' := [(g0, .inr (5, [.int (zi 0), .ref ps, .int (zi ru), .ref pk, .ref pa, .ref pb, .ref pq, .int (zi we), .int (zi 0), .ref pw, .int (zi ty), .ref pt])), (pw, aI cI 12 wf)]) [0, 2] rfl
            have hKc : va_K (dC, dI) vwCl [(cI, .int)] s := hK
            have hDc := hD.sub (ws' := [(g0, .inr (5, [.int (zi 0), .ref ps, .int (zi ru), .ref pk, .ref pa, .ref pb, .ref pq, .int (zi we), .int (zi 0), .ref pw, .int (zi ty), .ref pt])), (pw, aI cI 12 wf)]) [0, 2] (by decide) rfl
            have hFc := va_free (wc := [(g0, .inr (5, [.int (zi 0), .ref ps, .int (zi ru), .ref pk, .ref pa, .ref pb, .ref pq, .int (zi we), .int (zi 0), .ref pw, .int (zi ty), .ref pt])), (pw, aI cI 12 wf)]) hD hS hA [0, 2] rfl
            refine va_callv (va_runV (As := [.int (zi (f_X5_weekYearOf x7)), .int (zi 4)]) (rest := []) ⟨hx, hb, hml, hown, hts⟩ hh10 (cwV 2 hts gX5_write_X5_putNumber rfl rfl rfl (by decide +kernel) ⟨Nat.le_of_ble_eq_true rfl, Nat.le_of_ble_eq_true rfl⟩) ⟨zPw.blind _ _ _ _ _, va_recv hKc hPc (ci := 5) (q0 := 0) rfl rfl, fun U hU hW => ⟨rfl, by rw [hU], by rw [hU]; exact hPc, va_K.moved hW.alike hKc, hDc.weaken (fun _ _ _ _ => trivial)⟩⟩ rfl rfl hl.1 rfl (lv_room (Nat.le_of_ble_eq_true rfl)) dX5_write_81 ⟨Nat.le_of_ble_eq_true rfl, Nat.le_of_ble_eq_true rfl⟩) hS (fun q _ h => hFc q h) hFc (fun u t H1 locs ht hvm hw hB hz1 hk1 hS => ?_)
            obtain ⟨hP1, hK1, hD1⟩ := hB
            rw [ht] at hP1
            obtain ⟨hP, hD⟩ := va_join (wr := [(ps, aI cI 10 sf)]) (w1 := [(g0, .inr (5, [.int (zi 0), .ref ps, .int (zi ru), .ref pk, .ref pa, .ref pb, .ref pq, .int (zi we), .int (zi ((((0 + 1) + 1) + 1) + 1)), .ref pw, .int (zi ty), .ref pt])), (pw, aI cI 12 (zup (zup (zup (zup wf (Int.toNat 0) (48 + (((f_X5_weekYearOf x7) / 1000) % 10))) (Int.toNat (0 + 1)) (48 + (((f_X5_weekYearOf x7) / 100) % 10))) (Int.toNat ((0 + 1) + 1)) (48 + (((f_X5_weekYearOf x7) / 10) % 10))) (Int.toNat (((0 + 1) + 1) + 1)) (48 + (((f_X5_weekYearOf x7) / 1) % 10))))]) hP hD [0, 2] [1] rfl rfl (by decide) (by decide) hk1 hFc hP1 hD1
            generalize H1 = H at hP hS ⊢
            have hP : va_P (dC, dI) vwCl [(ps, aI cI 10 sf), (g0, .inr (5, [.int (zi 0), .ref ps, .int (zi ru), .ref pk, .ref pa, .ref pb, .ref pq, .int (zi we), .int (zi ((((0 + 1) + 1) + 1) + 1)), .ref pw, .int (zi ty), .ref pt])), (pw, aI cI 12 (zup (zup (zup (zup wf (Int.toNat 0) (48 + (((f_X5_weekYearOf x7) / 1000) % 10))) (Int.toNat (0 + 1)) (48 + (((f_X5_weekYearOf x7) / 100) % 10))) (Int.toNat ((0 + 1) + 1)) (48 + (((f_X5_weekYearOf x7) / 10) % 10))) (Int.toNat (((0 + 1) + 1) + 1)) (48 + (((f_X5_weekYearOf x7) / 1) % 10))))] H := hP
            have hD : va_D A [(ps, aI cI 10 sf), (g0, .inr (5, [.int (zi 0), .ref ps, .int (zi ru), .ref pk, .ref pa, .ref pb, .ref pq, .int (zi we), .int (zi ((((0 + 1) + 1) + 1) + 1)), .ref pw, .int (zi ty), .ref pt])), (pw, aI cI 12 (zup (zup (zup (zup wf (Int.toNat 0) (48 + (((f_X5_weekYearOf x7) / 1000) % 10))) (Int.toNat (0 + 1)) (48 + (((f_X5_weekYearOf x7) / 100) % 10))) (Int.toNat ((0 + 1) + 1)) (48 + (((f_X5_weekYearOf x7) / 10) % 10))) (Int.toNat (((0 + 1) + 1) + 1)) (48 + (((f_X5_weekYearOf x7) / 1) % 10))))] := hD
            refine lv_aload_n hx hb dX5_write_84 rfl (lv_at hl 1 rfl) ?_
            refine zw_bipush hx hb dX5_write_85 (by decide) ?_
            have hh11 := c_X5_put l dC dI cI g0 ps pk pa pb pq pw pt 0 ru we ((((0 + 1) + 1) + 1) + 1) ty (zup (zup (zup (zup wf (Int.toNat 0) (48 + (((f_X5_weekYearOf x7) / 1000) % 10))) (Int.toNat (0 + 1)) (48 + (((f_X5_weekYearOf x7) / 100) % 10))) (Int.toNat ((0 + 1) + 1)) (48 + (((f_X5_weekYearOf x7) / 10) % 10))) (Int.toNat (((0 + 1) + 1) + 1)) (48 + (((f_X5_weekYearOf x7) / 1) % 10))) 45 H.size (by omega)
            have hPc := hP.sub (ws' := [(g0, .inr (5, [.int (zi 0), .ref ps, .int (zi ru), .ref pk, .ref pa, .ref pb, .ref pq, .int (zi we), .int (zi ((((0 + 1) + 1) + 1) + 1)), .ref pw, .int (zi ty), .ref pt])), (pw, aI cI 12 (zup (zup (zup (zup wf (Int.toNat 0) (48 + (((f_X5_weekYearOf x7) / 1000) % 10))) (Int.toNat (0 + 1)) (48 + (((f_X5_weekYearOf x7) / 100) % 10))) (Int.toNat ((0 + 1) + 1)) (48 + (((f_X5_weekYearOf x7) / 10) % 10))) (Int.toNat (((0 + 1) + 1) + 1)) (48 + (((f_X5_weekYearOf x7) / 1) % 10))))]) [1, 2] rfl
            have hKc : va_K (dC, dI) vwCl [(cI, .int)] s := hK
            have hDc := hD.sub (ws' := [(g0, .inr (5, [.int (zi 0), .ref ps, .int (zi ru), .ref pk, .ref pa, .ref pb, .ref pq, .int (zi we), .int (zi ((((0 + 1) + 1) + 1) + 1)), .ref pw, .int (zi ty), .ref pt])), (pw, aI cI 12 (zup (zup (zup (zup wf (Int.toNat 0) (48 + (((f_X5_weekYearOf x7) / 1000) % 10))) (Int.toNat (0 + 1)) (48 + (((f_X5_weekYearOf x7) / 100) % 10))) (Int.toNat ((0 + 1) + 1)) (48 + (((f_X5_weekYearOf x7) / 10) % 10))) (Int.toNat (((0 + 1) + 1) + 1)) (48 + (((f_X5_weekYearOf x7) / 1) % 10))))]) [1, 2] (by decide) rfl
            have hFc := va_free (wc := [(g0, .inr (5, [.int (zi 0), .ref ps, .int (zi ru), .ref pk, .ref pa, .ref pb, .ref pq, .int (zi we), .int (zi ((((0 + 1) + 1) + 1) + 1)), .ref pw, .int (zi ty), .ref pt])), (pw, aI cI 12 (zup (zup (zup (zup wf (Int.toNat 0) (48 + (((f_X5_weekYearOf x7) / 1000) % 10))) (Int.toNat (0 + 1)) (48 + (((f_X5_weekYearOf x7) / 100) % 10))) (Int.toNat ((0 + 1) + 1)) (48 + (((f_X5_weekYearOf x7) / 10) % 10))) (Int.toNat (((0 + 1) + 1) + 1)) (48 + (((f_X5_weekYearOf x7) / 1) % 10))))]) hD hS hA [1, 2] rfl
            refine va_callv (va_runV (As := [.int (zi 45)]) (rest := []) ⟨hx, hb, hml, hown, hts⟩ hh11 (cwV 1 hts gX5_write_X5_put rfl rfl rfl (by decide +kernel) ⟨Nat.le_of_ble_eq_true rfl, Nat.le_of_ble_eq_true rfl⟩) ⟨zPw.blind _ _ _ _ _, va_recv hKc hPc (ci := 5) (q0 := 0) rfl rfl, fun U hU hW => ⟨rfl, by rw [hU], by rw [hU]; exact hPc, va_K.moved hW.alike hKc, hDc.weaken (fun _ _ _ _ => trivial)⟩⟩ rfl rfl hl.1 rfl (lv_room (Nat.le_of_ble_eq_true rfl)) dX5_write_87 ⟨Nat.le_of_ble_eq_true rfl, Nat.le_of_ble_eq_true rfl⟩) hS (fun q _ h => hFc q h) hFc (fun u t H1 locs ht hvm hw hB hz1 hk1 hS => ?_)
            obtain ⟨hP1, hK1, hD1⟩ := hB
            rw [ht] at hP1
            obtain ⟨hP, hD⟩ := va_join (wr := [(ps, aI cI 10 sf)]) (w1 := [(g0, .inr (5, [.int (zi 0), .ref ps, .int (zi ru), .ref pk, .ref pa, .ref pb, .ref pq, .int (zi we), .int (zi (((((0 + 1) + 1) + 1) + 1) + 1)), .ref pw, .int (zi ty), .ref pt])), (pw, aI cI 12 (zup (zup (zup (zup (zup wf (Int.toNat 0) (48 + (((f_X5_weekYearOf x7) / 1000) % 10))) (Int.toNat (0 + 1)) (48 + (((f_X5_weekYearOf x7) / 100) % 10))) (Int.toNat ((0 + 1) + 1)) (48 + (((f_X5_weekYearOf x7) / 10) % 10))) (Int.toNat (((0 + 1) + 1) + 1)) (48 + (((f_X5_weekYearOf x7) / 1) % 10))) (Int.toNat ((((0 + 1) + 1) + 1) + 1)) 45))]) hP hD [1, 2] [0] rfl rfl (by decide) (by decide) hk1 hFc hP1 hD1
            generalize H1 = H at hP hS ⊢
            have hP : va_P (dC, dI) vwCl [(ps, aI cI 10 sf), (g0, .inr (5, [.int (zi 0), .ref ps, .int (zi ru), .ref pk, .ref pa, .ref pb, .ref pq, .int (zi we), .int (zi (((((0 + 1) + 1) + 1) + 1) + 1)), .ref pw, .int (zi ty), .ref pt])), (pw, aI cI 12 (zup (zup (zup (zup (zup wf (Int.toNat 0) (48 + (((f_X5_weekYearOf x7) / 1000) % 10))) (Int.toNat (0 + 1)) (48 + (((f_X5_weekYearOf x7) / 100) % 10))) (Int.toNat ((0 + 1) + 1)) (48 + (((f_X5_weekYearOf x7) / 10) % 10))) (Int.toNat (((0 + 1) + 1) + 1)) (48 + (((f_X5_weekYearOf x7) / 1) % 10))) (Int.toNat ((((0 + 1) + 1) + 1) + 1)) 45))] H := hP
            have hD : va_D A [(ps, aI cI 10 sf), (g0, .inr (5, [.int (zi 0), .ref ps, .int (zi ru), .ref pk, .ref pa, .ref pb, .ref pq, .int (zi we), .int (zi (((((0 + 1) + 1) + 1) + 1) + 1)), .ref pw, .int (zi ty), .ref pt])), (pw, aI cI 12 (zup (zup (zup (zup (zup wf (Int.toNat 0) (48 + (((f_X5_weekYearOf x7) / 1000) % 10))) (Int.toNat (0 + 1)) (48 + (((f_X5_weekYearOf x7) / 100) % 10))) (Int.toNat ((0 + 1) + 1)) (48 + (((f_X5_weekYearOf x7) / 10) % 10))) (Int.toNat (((0 + 1) + 1) + 1)) (48 + (((f_X5_weekYearOf x7) / 1) % 10))) (Int.toNat ((((0 + 1) + 1) + 1) + 1)) 45))] := hD
            refine lv_iload_n hx hb dX5_write_90 rfl (lv_at hl 3 rfl) ?_
            refine zw_if_ne (tgt := 121) hx hb dX5_write_91 (by decide) ⟨by omega, by omega⟩ (fun h12 => ?_) (fun h12 => ?_)
            · skip
              refine lv_iload_n hx hb dX5_write_121 rfl (lv_at hl 3 rfl) ?_
              refine zw_iconst hx hb dX5_write_122 ?_
              refine zw_icmp_ne (tgt := 159) hx hb dX5_write_123 (by decide) ⟨by omega, by omega⟩ ⟨by omega, by omega⟩ (fun h13 => ?_) (fun h13 => ?_)
              · skip
                exact absurd True.intro (by omega)
              · skip
                refine lv_aload_n hx hb dX5_write_126 rfl (lv_at hl 1 rfl) ?_
                refine zw_bipush hx hb dX5_write_127 (by decide) ?_
                have hh14 := c_X5_put l dC dI cI g0 ps pk pa pb pq pw pt 0 ru we (((((0 + 1) + 1) + 1) + 1) + 1) ty (zup (zup (zup (zup (zup wf (Int.toNat 0) (48 + (((f_X5_weekYearOf x7) / 1000) % 10))) (Int.toNat (0 + 1)) (48 + (((f_X5_weekYearOf x7) / 100) % 10))) (Int.toNat ((0 + 1) + 1)) (48 + (((f_X5_weekYearOf x7) / 10) % 10))) (Int.toNat (((0 + 1) + 1) + 1)) (48 + (((f_X5_weekYearOf x7) / 1) % 10))) (Int.toNat ((((0 + 1) + 1) + 1) + 1)) 45) 87 H.size (by omega)
                have hPc := hP.sub (ws' := [(g0, .inr (5, [.int (zi 0), .ref ps, .int (zi ru), .ref pk, .ref pa, .ref pb, .ref pq, .int (zi we), .int (zi (((((0 + 1) + 1) + 1) + 1) + 1)), .ref pw, .int (zi ty), .ref pt])), (pw, aI cI 12 (zup (zup (zup (zup (zup wf (Int.toNat 0) (48 + (((f_X5_weekYearOf x7) / 1000) % 10))) (Int.toNat (0 + 1)) (48 + (((f_X5_weekYearOf x7) / 100) % 10))) (Int.toNat ((0 + 1) + 1)) (48 + (((f_X5_weekYearOf x7) / 10) % 10))) (Int.toNat (((0 + 1) + 1) + 1)) (48 + (((f_X5_weekYearOf x7) / 1) % 10))) (Int.toNat ((((0 + 1) + 1) + 1) + 1)) 45))]) [1, 2] rfl
                have hKc : va_K (dC, dI) vwCl [(cI, .int)] s := hK
                have hDc := hD.sub (ws' := [(g0, .inr (5, [.int (zi 0), .ref ps, .int (zi ru), .ref pk, .ref pa, .ref pb, .ref pq, .int (zi we), .int (zi (((((0 + 1) + 1) + 1) + 1) + 1)), .ref pw, .int (zi ty), .ref pt])), (pw, aI cI 12 (zup (zup (zup (zup (zup wf (Int.toNat 0) (48 + (((f_X5_weekYearOf x7) / 1000) % 10))) (Int.toNat (0 + 1)) (48 + (((f_X5_weekYearOf x7) / 100) % 10))) (Int.toNat ((0 + 1) + 1)) (48 + (((f_X5_weekYearOf x7) / 10) % 10))) (Int.toNat (((0 + 1) + 1) + 1)) (48 + (((f_X5_weekYearOf x7) / 1) % 10))) (Int.toNat ((((0 + 1) + 1) + 1) + 1)) 45))]) [1, 2] (by decide) rfl
                have hFc := va_free (wc := [(g0, .inr (5, [.int (zi 0), .ref ps, .int (zi ru), .ref pk, .ref pa, .ref pb, .ref pq, .int (zi we), .int (zi (((((0 + 1) + 1) + 1) + 1) + 1)), .ref pw, .int (zi ty), .ref pt])), (pw, aI cI 12 (zup (zup (zup (zup (zup wf (Int.toNat 0) (48 + (((f_X5_weekYearOf x7) / 1000) % 10))) (Int.toNat (0 + 1)) (48 + (((f_X5_weekYearOf x7) / 100) % 10))) (Int.toNat ((0 + 1) + 1)) (48 + (((f_X5_weekYearOf x7) / 10) % 10))) (Int.toNat (((0 + 1) + 1) + 1)) (48 + (((f_X5_weekYearOf x7) / 1) % 10))) (Int.toNat ((((0 + 1) + 1) + 1) + 1)) 45))]) hD hS hA [1, 2] rfl
                refine va_callv (va_runV (As := [.int (zi 87)]) (rest := []) ⟨hx, hb, hml, hown, hts⟩ hh14 (cwV 1 hts gX5_write_X5_put rfl rfl rfl (by decide +kernel) ⟨Nat.le_of_ble_eq_true rfl, Nat.le_of_ble_eq_true rfl⟩) ⟨zPw.blind _ _ _ _ _, va_recv hKc hPc (ci := 5) (q0 := 0) rfl rfl, fun U hU hW => ⟨rfl, by rw [hU], by rw [hU]; exact hPc, va_K.moved hW.alike hKc, hDc.weaken (fun _ _ _ _ => trivial)⟩⟩ rfl rfl hl.1 rfl (lv_room (Nat.le_of_ble_eq_true rfl)) dX5_write_129 ⟨Nat.le_of_ble_eq_true rfl, Nat.le_of_ble_eq_true rfl⟩) hS (fun q _ h => hFc q h) hFc (fun u t H1 locs ht hvm hw hB hz1 hk1 hS => ?_)
                obtain ⟨hP1, hK1, hD1⟩ := hB
                rw [ht] at hP1
                obtain ⟨hP, hD⟩ := va_join (wr := [(ps, aI cI 10 sf)]) (w1 := [(g0, .inr (5, [.int (zi 0), .ref ps, .int (zi ru), .ref pk, .ref pa, .ref pb, .ref pq, .int (zi we), .int (zi ((((((0 + 1) + 1) + 1) + 1) + 1) + 1)), .ref pw, .int (zi ty), .ref pt])), (pw, aI cI 12 (zup (zup (zup (zup (zup (zup wf (Int.toNat 0) (48 + (((f_X5_weekYearOf x7) / 1000) % 10))) (Int.toNat (0 + 1)) (48 + (((f_X5_weekYearOf x7) / 100) % 10))) (Int.toNat ((0 + 1) + 1)) (48 + (((f_X5_weekYearOf x7) / 10) % 10))) (Int.toNat (((0 + 1) + 1) + 1)) (48 + (((f_X5_weekYearOf x7) / 1) % 10))) (Int.toNat ((((0 + 1) + 1) + 1) + 1)) 45) (Int.toNat (((((0 + 1) + 1) + 1) + 1) + 1)) 87))]) hP hD [1, 2] [0] rfl rfl (by decide) (by decide) hk1 hFc hP1 hD1
                generalize H1 = H at hP hS ⊢
                have hP : va_P (dC, dI) vwCl [(ps, aI cI 10 sf), (g0, .inr (5, [.int (zi 0), .ref ps, .int (zi ru), .ref pk, .ref pa, .ref pb, .ref pq, .int (zi we), .int (zi ((((((0 + 1) + 1) + 1) + 1) + 1) + 1)), .ref pw, .int (zi ty), .ref pt])), (pw, aI cI 12 (zup (zup (zup (zup (zup (zup wf (Int.toNat 0) (48 + (((f_X5_weekYearOf x7) / 1000) % 10))) (Int.toNat (0 + 1)) (48 + (((f_X5_weekYearOf x7) / 100) % 10))) (Int.toNat ((0 + 1) + 1)) (48 + (((f_X5_weekYearOf x7) / 10) % 10))) (Int.toNat (((0 + 1) + 1) + 1)) (48 + (((f_X5_weekYearOf x7) / 1) % 10))) (Int.toNat ((((0 + 1) + 1) + 1) + 1)) 45) (Int.toNat (((((0 + 1) + 1) + 1) + 1) + 1)) 87))] H := hP
                have hD : va_D A [(ps, aI cI 10 sf), (g0, .inr (5, [.int (zi 0), .ref ps, .int (zi ru), .ref pk, .ref pa, .ref pb, .ref pq, .int (zi we), .int (zi ((((((0 + 1) + 1) + 1) + 1) + 1) + 1)), .ref pw, .int (zi ty), .ref pt])), (pw, aI cI 12 (zup (zup (zup (zup (zup (zup wf (Int.toNat 0) (48 + (((f_X5_weekYearOf x7) / 1000) % 10))) (Int.toNat (0 + 1)) (48 + (((f_X5_weekYearOf x7) / 100) % 10))) (Int.toNat ((0 + 1) + 1)) (48 + (((f_X5_weekYearOf x7) / 10) % 10))) (Int.toNat (((0 + 1) + 1) + 1)) (48 + (((f_X5_weekYearOf x7) / 1) % 10))) (Int.toNat ((((0 + 1) + 1) + 1) + 1)) 45) (Int.toNat (((((0 + 1) + 1) + 1) + 1) + 1)) 87))] := hD
                refine lv_aload_n hx hb dX5_write_132 rfl (lv_at hl 1 rfl) ?_
                refine lv_iload_n hx hb dX5_write_133 rfl (lv_at hl 0 rfl) ?_
                have hh15 := c_X5_weekOf l x7 (by omega)
                refine vp_callSi (va_Run.run (va_runS (As := [.int (zi x7)]) (rest := [.ref g0]) ⟨hx, hb, hml, hown, hts⟩ hh15 (va_cwS 1 hts gX5_write_X5_weekOf rfl rfl rfl (by decide +kernel) ⟨Nat.le_of_ble_eq_true rfl, Nat.le_of_ble_eq_true rfl⟩) ⟨fun a U g mk q => q, fun U hU hW => ⟨rfl, trivial⟩⟩ rfl rfl hl.1 rfl (lv_room (Nat.le_of_ble_eq_true rfl)) dX5_write_134 ⟨Nat.zero_le _, Nat.zero_le _⟩)) (fun r15 (hr15 : r15 = zi (f_X5_weekOf x7)) => ?_)
                subst hr15
                have hf15 := b_X5_weekOf x7 (by omega)
                refine zw_iconst hx hb dX5_write_137 ?_
                have hh16 := c_X5_putNumber_2 l dC dI cI g0 ps pk pa pb pq pw pt 0 ru we ((((((0 + 1) + 1) + 1) + 1) + 1) + 1) ty (zup (zup (zup (zup (zup (zup wf (Int.toNat 0) (48 + (((f_X5_weekYearOf x7) / 1000) % 10))) (Int.toNat (0 + 1)) (48 + (((f_X5_weekYearOf x7) / 100) % 10))) (Int.toNat ((0 + 1) + 1)) (48 + (((f_X5_weekYearOf x7) / 10) % 10))) (Int.toNat (((0 + 1) + 1) + 1)) (48 + (((f_X5_weekYearOf x7) / 1) % 10))) (Int.toNat ((((0 + 1) + 1) + 1) + 1)) 45) (Int.toNat (((((0 + 1) + 1) + 1) + 1) + 1)) 87) (f_X5_weekOf x7) H.size (by omega) (by omega)
                have hPc := hP.sub (ws' := [(g0, .inr (5, [.int (zi 0), .ref ps, .int (zi ru), .ref pk, .ref pa, .ref pb, .ref pq, .int (zi we), .int (zi ((((((0 + 1) + 1) + 1) + 1) + 1) + 1)), .ref pw, .int (zi ty), .ref pt])), (pw, aI cI 12 (zup (zup (zup (zup (zup (zup wf (Int.toNat 0) (48 + (((f_X5_weekYearOf x7) / 1000) % 10))) (Int.toNat (0 + 1)) (48 + (((f_X5_weekYearOf x7) / 100) % 10))) (Int.toNat ((0 + 1) + 1)) (48 + (((f_X5_weekYearOf x7) / 10) % 10))) (Int.toNat (((0 + 1) + 1) + 1)) (48 + (((f_X5_weekYearOf x7) / 1) % 10))) (Int.toNat ((((0 + 1) + 1) + 1) + 1)) 45) (Int.toNat (((((0 + 1) + 1) + 1) + 1) + 1)) 87))]) [1, 2] rfl
                have hKc : va_K (dC, dI) vwCl [(cI, .int)] s := hK
                have hDc := hD.sub (ws' := [(g0, .inr (5, [.int (zi 0), .ref ps, .int (zi ru), .ref pk, .ref pa, .ref pb, .ref pq, .int (zi we), .int (zi ((((((0 + 1) + 1) + 1) + 1) + 1) + 1)), .ref pw, .int (zi ty), .ref pt])), (pw, aI cI 12 (zup (zup (zup (zup (zup (zup wf (Int.toNat 0) (48 + (((f_X5_weekYearOf x7) / 1000) % 10))) (Int.toNat (0 + 1)) (48 + (((f_X5_weekYearOf x7) / 100) % 10))) (Int.toNat ((0 + 1) + 1)) (48 + (((f_X5_weekYearOf x7) / 10) % 10))) (Int.toNat (((0 + 1) + 1) + 1)) (48 + (((f_X5_weekYearOf x7) / 1) % 10))) (Int.toNat ((((0 + 1) + 1) + 1) + 1)) 45) (Int.toNat (((((0 + 1) + 1) + 1) + 1) + 1)) 87))]) [1, 2] (by decide) rfl
                have hFc := va_free (wc := [(g0, .inr (5, [.int (zi 0), .ref ps, .int (zi ru), .ref pk, .ref pa, .ref pb, .ref pq, .int (zi we), .int (zi ((((((0 + 1) + 1) + 1) + 1) + 1) + 1)), .ref pw, .int (zi ty), .ref pt])), (pw, aI cI 12 (zup (zup (zup (zup (zup (zup wf (Int.toNat 0) (48 + (((f_X5_weekYearOf x7) / 1000) % 10))) (Int.toNat (0 + 1)) (48 + (((f_X5_weekYearOf x7) / 100) % 10))) (Int.toNat ((0 + 1) + 1)) (48 + (((f_X5_weekYearOf x7) / 10) % 10))) (Int.toNat (((0 + 1) + 1) + 1)) (48 + (((f_X5_weekYearOf x7) / 1) % 10))) (Int.toNat ((((0 + 1) + 1) + 1) + 1)) 45) (Int.toNat (((((0 + 1) + 1) + 1) + 1) + 1)) 87))]) hD hS hA [1, 2] rfl
                refine va_callv (va_runV (As := [.int (zi (f_X5_weekOf x7)), .int (zi 2)]) (rest := []) ⟨hx, hb, hml, hown, hts⟩ hh16 (cwV 2 hts gX5_write_X5_putNumber rfl rfl rfl (by decide +kernel) ⟨Nat.le_of_ble_eq_true rfl, Nat.le_of_ble_eq_true rfl⟩) ⟨zPw.blind _ _ _ _ _, va_recv hKc hPc (ci := 5) (q0 := 0) rfl rfl, fun U hU hW => ⟨rfl, by rw [hU], by rw [hU]; exact hPc, va_K.moved hW.alike hKc, hDc.weaken (fun _ _ _ _ => trivial)⟩⟩ rfl rfl hl.1 rfl (lv_room (Nat.le_of_ble_eq_true rfl)) dX5_write_138 ⟨Nat.le_of_ble_eq_true rfl, Nat.le_of_ble_eq_true rfl⟩) hS (fun q _ h => hFc q h) hFc (fun u t H1 locs ht hvm hw hB hz1 hk1 hS => ?_)
                obtain ⟨hP1, hK1, hD1⟩ := hB
                rw [ht] at hP1
                obtain ⟨hP, hD⟩ := va_join (wr := [(ps, aI cI 10 sf)]) (w1 := [(g0, .inr (5, [.int (zi 0), .ref ps, .int (zi ru), .ref pk, .ref pa, .ref pb, .ref pq, .int (zi we), .int (zi ((((((((0 + 1) + 1) + 1) + 1) + 1) + 1) + 1) + 1)), .ref pw, .int (zi ty), .ref pt])), (pw, aI cI 12 (zup (zup (zup (zup (zup (zup (zup (zup wf (Int.toNat 0) (48 + (((f_X5_weekYearOf x7) / 1000) % 10))) (Int.toNat (0 + 1)) (48 + (((f_X5_weekYearOf x7) / 100) % 10))) (Int.toNat ((0 + 1) + 1)) (48 + (((f_X5_weekYearOf x7) / 10) % 10))) (Int.toNat (((0 + 1) + 1) + 1)) (48 + (((f_X5_weekYearOf x7) / 1) % 10))) (Int.toNat ((((0 + 1) + 1) + 1) + 1)) 45) (Int.toNat (((((0 + 1) + 1) + 1) + 1) + 1)) 87) (Int.toNat ((((((0 + 1) + 1) + 1) + 1) + 1) + 1)) (48 + (((f_X5_weekOf x7) / 10) % 10))) (Int.toNat (((((((0 + 1) + 1) + 1) + 1) + 1) + 1) + 1)) (48 + (((f_X5_weekOf x7) / 1) % 10))))]) hP hD [1, 2] [0] rfl rfl (by decide) (by decide) hk1 hFc hP1 hD1
                generalize H1 = H at hP hS ⊢
                have hP : va_P (dC, dI) vwCl [(ps, aI cI 10 sf), (g0, .inr (5, [.int (zi 0), .ref ps, .int (zi ru), .ref pk, .ref pa, .ref pb, .ref pq, .int (zi we), .int (zi ((((((((0 + 1) + 1) + 1) + 1) + 1) + 1) + 1) + 1)), .ref pw, .int (zi ty), .ref pt])), (pw, aI cI 12 (zup (zup (zup (zup (zup (zup (zup (zup wf (Int.toNat 0) (48 + (((f_X5_weekYearOf x7) / 1000) % 10))) (Int.toNat (0 + 1)) (48 + (((f_X5_weekYearOf x7) / 100) % 10))) (Int.toNat ((0 + 1) + 1)) (48 + (((f_X5_weekYearOf x7) / 10) % 10))) (Int.toNat (((0 + 1) + 1) + 1)) (48 + (((f_X5_weekYearOf x7) / 1) % 10))) (Int.toNat ((((0 + 1) + 1) + 1) + 1)) 45) (Int.toNat (((((0 + 1) + 1) + 1) + 1) + 1)) 87) (Int.toNat ((((((0 + 1) + 1) + 1) + 1) + 1) + 1)) (48 + (((f_X5_weekOf x7) / 10) % 10))) (Int.toNat (((((((0 + 1) + 1) + 1) + 1) + 1) + 1) + 1)) (48 + (((f_X5_weekOf x7) / 1) % 10))))] H := hP
                have hD : va_D A [(ps, aI cI 10 sf), (g0, .inr (5, [.int (zi 0), .ref ps, .int (zi ru), .ref pk, .ref pa, .ref pb, .ref pq, .int (zi we), .int (zi ((((((((0 + 1) + 1) + 1) + 1) + 1) + 1) + 1) + 1)), .ref pw, .int (zi ty), .ref pt])), (pw, aI cI 12 (zup (zup (zup (zup (zup (zup (zup (zup wf (Int.toNat 0) (48 + (((f_X5_weekYearOf x7) / 1000) % 10))) (Int.toNat (0 + 1)) (48 + (((f_X5_weekYearOf x7) / 100) % 10))) (Int.toNat ((0 + 1) + 1)) (48 + (((f_X5_weekYearOf x7) / 10) % 10))) (Int.toNat (((0 + 1) + 1) + 1)) (48 + (((f_X5_weekYearOf x7) / 1) % 10))) (Int.toNat ((((0 + 1) + 1) + 1) + 1)) 45) (Int.toNat (((((0 + 1) + 1) + 1) + 1) + 1)) 87) (Int.toNat ((((((0 + 1) + 1) + 1) + 1) + 1) + 1)) (48 + (((f_X5_weekOf x7) / 10) % 10))) (Int.toNat (((((((0 + 1) + 1) + 1) + 1) + 1) + 1) + 1)) (48 + (((f_X5_weekOf x7) / 1) % 10))))] := hD
                refine lv_aload_n hx hb dX5_write_141 rfl (lv_at hl 1 rfl) ?_
                refine zw_bipush hx hb dX5_write_142 (by decide) ?_
                have hh17 := c_X5_put l dC dI cI g0 ps pk pa pb pq pw pt 0 ru we ((((((((0 + 1) + 1) + 1) + 1) + 1) + 1) + 1) + 1) ty (zup (zup (zup (zup (zup (zup (zup (zup wf (Int.toNat 0) (48 + (((f_X5_weekYearOf x7) / 1000) % 10))) (Int.toNat (0 + 1)) (48 + (((f_X5_weekYearOf x7) / 100) % 10))) (Int.toNat ((0 + 1) + 1)) (48 + (((f_X5_weekYearOf x7) / 10) % 10))) (Int.toNat (((0 + 1) + 1) + 1)) (48 + (((f_X5_weekYearOf x7) / 1) % 10))) (Int.toNat ((((0 + 1) + 1) + 1) + 1)) 45) (Int.toNat (((((0 + 1) + 1) + 1) + 1) + 1)) 87) (Int.toNat ((((((0 + 1) + 1) + 1) + 1) + 1) + 1)) (48 + (((f_X5_weekOf x7) / 10) % 10))) (Int.toNat (((((((0 + 1) + 1) + 1) + 1) + 1) + 1) + 1)) (48 + (((f_X5_weekOf x7) / 1) % 10))) 45 H.size (by omega)
                have hPc := hP.sub (ws' := [(g0, .inr (5, [.int (zi 0), .ref ps, .int (zi ru), .ref pk, .ref pa, .ref pb, .ref pq, .int (zi we), .int (zi ((((((((0 + 1) + 1) + 1) + 1) + 1) + 1) + 1) + 1)), .ref pw, .int (zi ty), .ref pt])), (pw, aI cI 12 (zup (zup (zup (zup (zup (zup (zup (zup wf (Int.toNat 0) (48 + (((f_X5_weekYearOf x7) / 1000) % 10))) (Int.toNat (0 + 1)) (48 + (((f_X5_weekYearOf x7) / 100) % 10))) (Int.toNat ((0 + 1) + 1)) (48 + (((f_X5_weekYearOf x7) / 10) % 10))) (Int.toNat (((0 + 1) + 1) + 1)) (48 + (((f_X5_weekYearOf x7) / 1) % 10))) (Int.toNat ((((0 + 1) + 1) + 1) + 1)) 45) (Int.toNat (((((0 + 1) + 1) + 1) + 1) + 1)) 87) (Int.toNat ((((((0 + 1) + 1) + 1) + 1) + 1) + 1)) (48 + (((f_X5_weekOf x7) / 10) % 10))) (Int.toNat (((((((0 + 1) + 1) + 1) + 1) + 1) + 1) + 1)) (48 + (((f_X5_weekOf x7) / 1) % 10))))]) [1, 2] rfl
                have hKc : va_K (dC, dI) vwCl [(cI, .int)] s := hK
                have hDc := hD.sub (ws' := [(g0, .inr (5, [.int (zi 0), .ref ps, .int (zi ru), .ref pk, .ref pa, .ref pb, .ref pq, .int (zi we), .int (zi ((((((((0 + 1) + 1) + 1) + 1) + 1) + 1) + 1) + 1)), .ref pw, .int (zi ty), .ref pt])), (pw, aI cI 12 (zup (zup (zup (zup (zup (zup (zup (zup wf (Int.toNat 0) (48 + (((f_X5_weekYearOf x7) / 1000) % 10))) (Int.toNat (0 + 1)) (48 + (((f_X5_weekYearOf x7) / 100) % 10))) (Int.toNat ((0 + 1) + 1)) (48 + (((f_X5_weekYearOf x7) / 10) % 10))) (Int.toNat (((0 + 1) + 1) + 1)) (48 + (((f_X5_weekYearOf x7) / 1) % 10))) (Int.toNat ((((0 + 1) + 1) + 1) + 1)) 45) (Int.toNat (((((0 + 1) + 1) + 1) + 1) + 1)) 87) (Int.toNat ((((((0 + 1) + 1) + 1) + 1) + 1) + 1)) (48 + (((f_X5_weekOf x7) / 10) % 10))) (Int.toNat (((((((0 + 1) + 1) + 1) + 1) + 1) + 1) + 1)) (48 + (((f_X5_weekOf x7) / 1) % 10))))]) [1, 2] (by decide) rfl
                have hFc := va_free (wc := [(g0, .inr (5, [.int (zi 0), .ref ps, .int (zi ru), .ref pk, .ref pa, .ref pb, .ref pq, .int (zi we), .int (zi ((((((((0 + 1) + 1) + 1) + 1) + 1) + 1) + 1) + 1)), .ref pw, .int (zi ty), .ref pt])), (pw, aI cI 12 (zup (zup (zup (zup (zup (zup (zup (zup wf (Int.toNat 0) (48 + (((f_X5_weekYearOf x7) / 1000) % 10))) (Int.toNat (0 + 1)) (48 + (((f_X5_weekYearOf x7) / 100) % 10))) (Int.toNat ((0 + 1) + 1)) (48 + (((f_X5_weekYearOf x7) / 10) % 10))) (Int.toNat (((0 + 1) + 1) + 1)) (48 + (((f_X5_weekYearOf x7) / 1) % 10))) (Int.toNat ((((0 + 1) + 1) + 1) + 1)) 45) (Int.toNat (((((0 + 1) + 1) + 1) + 1) + 1)) 87) (Int.toNat ((((((0 + 1) + 1) + 1) + 1) + 1) + 1)) (48 + (((f_X5_weekOf x7) / 10) % 10))) (Int.toNat (((((((0 + 1) + 1) + 1) + 1) + 1) + 1) + 1)) (48 + (((f_X5_weekOf x7) / 1) % 10))))]) hD hS hA [1, 2] rfl
                refine va_callv (va_runV (As := [.int (zi 45)]) (rest := []) ⟨hx, hb, hml, hown, hts⟩ hh17 (cwV 1 hts gX5_write_X5_put rfl rfl rfl (by decide +kernel) ⟨Nat.le_of_ble_eq_true rfl, Nat.le_of_ble_eq_true rfl⟩) ⟨zPw.blind _ _ _ _ _, va_recv hKc hPc (ci := 5) (q0 := 0) rfl rfl, fun U hU hW => ⟨rfl, by rw [hU], by rw [hU]; exact hPc, va_K.moved hW.alike hKc, hDc.weaken (fun _ _ _ _ => trivial)⟩⟩ rfl rfl hl.1 rfl (lv_room (Nat.le_of_ble_eq_true rfl)) dX5_write_144 ⟨Nat.le_of_ble_eq_true rfl, Nat.le_of_ble_eq_true rfl⟩) hS (fun q _ h => hFc q h) hFc (fun u t H1 locs ht hvm hw hB hz1 hk1 hS => ?_)
                obtain ⟨hP1, hK1, hD1⟩ := hB
                rw [ht] at hP1
                obtain ⟨hP, hD⟩ := va_join (wr := [(ps, aI cI 10 sf)]) (w1 := [(g0, .inr (5, [.int (zi 0), .ref ps, .int (zi ru), .ref pk, .ref pa, .ref pb, .ref pq, .int (zi we), .int (zi (((((((((0 + 1) + 1) + 1) + 1) + 1) + 1) + 1) + 1) + 1)), .ref pw, .int (zi ty), .ref pt])), (pw, aI cI 12 (zup (zup (zup (zup (zup (zup (zup (zup (zup wf (Int.toNat 0) (48 + (((f_X5_weekYearOf x7) / 1000) % 10))) (Int.toNat (0 + 1)) (48 + (((f_X5_weekYearOf x7) / 100) % 10))) (Int.toNat ((0 + 1) + 1)) (48 + (((f_X5_weekYearOf x7) / 10) % 10))) (Int.toNat (((0 + 1) + 1) + 1)) (48 + (((f_X5_weekYearOf x7) / 1) % 10))) (Int.toNat ((((0 + 1) + 1) + 1) + 1)) 45) (Int.toNat (((((0 + 1) + 1) + 1) + 1) + 1)) 87) (Int.toNat ((((((0 + 1) + 1) + 1) + 1) + 1) + 1)) (48 + (((f_X5_weekOf x7) / 10) % 10))) (Int.toNat (((((((0 + 1) + 1) + 1) + 1) + 1) + 1) + 1)) (48 + (((f_X5_weekOf x7) / 1) % 10))) (Int.toNat ((((((((0 + 1) + 1) + 1) + 1) + 1) + 1) + 1) + 1)) 45))]) hP hD [1, 2] [0] rfl rfl (by decide) (by decide) hk1 hFc hP1 hD1
                generalize H1 = H at hP hS ⊢
                have hP : va_P (dC, dI) vwCl [(ps, aI cI 10 sf), (g0, .inr (5, [.int (zi 0), .ref ps, .int (zi ru), .ref pk, .ref pa, .ref pb, .ref pq, .int (zi we), .int (zi (((((((((0 + 1) + 1) + 1) + 1) + 1) + 1) + 1) + 1) + 1)), .ref pw, .int (zi ty), .ref pt])), (pw, aI cI 12 (zup (zup (zup (zup (zup (zup (zup (zup (zup wf (Int.toNat 0) (48 + (((f_X5_weekYearOf x7) / 1000) % 10))) (Int.toNat (0 + 1)) (48 + (((f_X5_weekYearOf x7) / 100) % 10))) (Int.toNat ((0 + 1) + 1)) (48 + (((f_X5_weekYearOf x7) / 10) % 10))) (Int.toNat (((0 + 1) + 1) + 1)) (48 + (((f_X5_weekYearOf x7) / 1) % 10))) (Int.toNat ((((0 + 1) + 1) + 1) + 1)) 45) (Int.toNat (((((0 + 1) + 1) + 1) + 1) + 1)) 87) (Int.toNat ((((((0 + 1) + 1) + 1) + 1) + 1) + 1)) (48 + (((f_X5_weekOf x7) / 10) % 10))) (Int.toNat (((((((0 + 1) + 1) + 1) + 1) + 1) + 1) + 1)) (48 + (((f_X5_weekOf x7) / 1) % 10))) (Int.toNat ((((((((0 + 1) + 1) + 1) + 1) + 1) + 1) + 1) + 1)) 45))] H := hP
                have hD : va_D A [(ps, aI cI 10 sf), (g0, .inr (5, [.int (zi 0), .ref ps, .int (zi ru), .ref pk, .ref pa, .ref pb, .ref pq, .int (zi we), .int (zi (((((((((0 + 1) + 1) + 1) + 1) + 1) + 1) + 1) + 1) + 1)), .ref pw, .int (zi ty), .ref pt])), (pw, aI cI 12 (zup (zup (zup (zup (zup (zup (zup (zup (zup wf (Int.toNat 0) (48 + (((f_X5_weekYearOf x7) / 1000) % 10))) (Int.toNat (0 + 1)) (48 + (((f_X5_weekYearOf x7) / 100) % 10))) (Int.toNat ((0 + 1) + 1)) (48 + (((f_X5_weekYearOf x7) / 10) % 10))) (Int.toNat (((0 + 1) + 1) + 1)) (48 + (((f_X5_weekYearOf x7) / 1) % 10))) (Int.toNat ((((0 + 1) + 1) + 1) + 1)) 45) (Int.toNat (((((0 + 1) + 1) + 1) + 1) + 1)) 87) (Int.toNat ((((((0 + 1) + 1) + 1) + 1) + 1) + 1)) (48 + (((f_X5_weekOf x7) / 10) % 10))) (Int.toNat (((((((0 + 1) + 1) + 1) + 1) + 1) + 1) + 1)) (48 + (((f_X5_weekOf x7) / 1) % 10))) (Int.toNat ((((((((0 + 1) + 1) + 1) + 1) + 1) + 1) + 1) + 1)) 45))] := hD
                refine lv_aload_n hx hb dX5_write_147 rfl (lv_at hl 1 rfl) ?_
                refine lv_iload_n hx hb dX5_write_148 rfl (lv_at hl 0 rfl) ?_
                have hh18 := c_X5_weekdayOf l x7 (by omega)
                refine vp_callSi (va_Run.run (va_runS (As := [.int (zi x7)]) (rest := [.ref g0]) ⟨hx, hb, hml, hown, hts⟩ hh18 (va_cwS 1 hts gX5_write_X5_weekdayOf rfl rfl rfl (by decide +kernel) ⟨Nat.le_of_ble_eq_true rfl, Nat.le_of_ble_eq_true rfl⟩) ⟨fun a U g mk q => q, fun U hU hW => ⟨rfl, trivial⟩⟩ rfl rfl hl.1 rfl (lv_room (Nat.le_of_ble_eq_true rfl)) dX5_write_149 ⟨Nat.zero_le _, Nat.zero_le _⟩)) (fun r18 (hr18 : r18 = zi (f_X5_weekdayOf x7)) => ?_)
                subst hr18
                have hf18 := b_X5_weekdayOf x7 (by omega)
                refine zw_iconst hx hb dX5_write_152 ?_
                have hh19 := c_X5_putNumber_1 l dC dI cI g0 ps pk pa pb pq pw pt 0 ru we (((((((((0 + 1) + 1) + 1) + 1) + 1) + 1) + 1) + 1) + 1) ty (zup (zup (zup (zup (zup (zup (zup (zup (zup wf (Int.toNat 0) (48 + (((f_X5_weekYearOf x7) / 1000) % 10))) (Int.toNat (0 + 1)) (48 + (((f_X5_weekYearOf x7) / 100) % 10))) (Int.toNat ((0 + 1) + 1)) (48 + (((f_X5_weekYearOf x7) / 10) % 10))) (Int.toNat (((0 + 1) + 1) + 1)) (48 + (((f_X5_weekYearOf x7) / 1) % 10))) (Int.toNat ((((0 + 1) + 1) + 1) + 1)) 45) (Int.toNat (((((0 + 1) + 1) + 1) + 1) + 1)) 87) (Int.toNat ((((((0 + 1) + 1) + 1) + 1) + 1) + 1)) (48 + (((f_X5_weekOf x7) / 10) % 10))) (Int.toNat (((((((0 + 1) + 1) + 1) + 1) + 1) + 1) + 1)) (48 + (((f_X5_weekOf x7) / 1) % 10))) (Int.toNat ((((((((0 + 1) + 1) + 1) + 1) + 1) + 1) + 1) + 1)) 45) (f_X5_weekdayOf x7) H.size (by omega) (by omega)
                have hPc := hP.sub (ws' := [(g0, .inr (5, [.int (zi 0), .ref ps, .int (zi ru), .ref pk, .ref pa, .ref pb, .ref pq, .int (zi we), .int (zi (((((((((0 + 1) + 1) + 1) + 1) + 1) + 1) + 1) + 1) + 1)), .ref pw, .int (zi ty), .ref pt])), (pw, aI cI 12 (zup (zup (zup (zup (zup (zup (zup (zup (zup wf (Int.toNat 0) (48 + (((f_X5_weekYearOf x7) / 1000) % 10))) (Int.toNat (0 + 1)) (48 + (((f_X5_weekYearOf x7) / 100) % 10))) (Int.toNat ((0 + 1) + 1)) (48 + (((f_X5_weekYearOf x7) / 10) % 10))) (Int.toNat (((0 + 1) + 1) + 1)) (48 + (((f_X5_weekYearOf x7) / 1) % 10))) (Int.toNat ((((0 + 1) + 1) + 1) + 1)) 45) (Int.toNat (((((0 + 1) + 1) + 1) + 1) + 1)) 87) (Int.toNat ((((((0 + 1) + 1) + 1) + 1) + 1) + 1)) (48 + (((f_X5_weekOf x7) / 10) % 10))) (Int.toNat (((((((0 + 1) + 1) + 1) + 1) + 1) + 1) + 1)) (48 + (((f_X5_weekOf x7) / 1) % 10))) (Int.toNat ((((((((0 + 1) + 1) + 1) + 1) + 1) + 1) + 1) + 1)) 45))]) [1, 2] rfl
                have hKc : va_K (dC, dI) vwCl [(cI, .int)] s := hK
                have hDc := hD.sub (ws' := [(g0, .inr (5, [.int (zi 0), .ref ps, .int (zi ru), .ref pk, .ref pa, .ref pb, .ref pq, .int (zi we), .int (zi (((((((((0 + 1) + 1) + 1) + 1) + 1) + 1) + 1) + 1) + 1)), .ref pw, .int (zi ty), .ref pt])), (pw, aI cI 12 (zup (zup (zup (zup (zup (zup (zup (zup (zup wf (Int.toNat 0) (48 + (((f_X5_weekYearOf x7) / 1000) % 10))) (Int.toNat (0 + 1)) (48 + (((f_X5_weekYearOf x7) / 100) % 10))) (Int.toNat ((0 + 1) + 1)) (48 + (((f_X5_weekYearOf x7) / 10) % 10))) (Int.toNat (((0 + 1) + 1) + 1)) (48 + (((f_X5_weekYearOf x7) / 1) % 10))) (Int.toNat ((((0 + 1) + 1) + 1) + 1)) 45) (Int.toNat (((((0 + 1) + 1) + 1) + 1) + 1)) 87) (Int.toNat ((((((0 + 1) + 1) + 1) + 1) + 1) + 1)) (48 + (((f_X5_weekOf x7) / 10) % 10))) (Int.toNat (((((((0 + 1) + 1) + 1) + 1) + 1) + 1) + 1)) (48 + (((f_X5_weekOf x7) / 1) % 10))) (Int.toNat ((((((((0 + 1) + 1) + 1) + 1) + 1) + 1) + 1) + 1)) 45))]) [1, 2] (by decide) rfl
                have hFc := va_free (wc := [(g0, .inr (5, [.int (zi 0), .ref ps, .int (zi ru), .ref pk, .ref pa, .ref pb, .ref pq, .int (zi we), .int (zi (((((((((0 + 1) + 1) + 1) + 1) + 1) + 1) + 1) + 1) + 1)), .ref pw, .int (zi ty), .ref pt])), (pw, aI cI 12 (zup (zup (zup (zup (zup (zup (zup (zup (zup wf (Int.toNat 0) (48 + (((f_X5_weekYearOf x7) / 1000) % 10))) (Int.toNat (0 + 1)) (48 + (((f_X5_weekYearOf x7) / 100) % 10))) (Int.toNat ((0 + 1) + 1)) (48 + (((f_X5_weekYearOf x7) / 10) % 10))) (Int.toNat (((0 + 1) + 1) + 1)) (48 + (((f_X5_weekYearOf x7) / 1) % 10))) (Int.toNat ((((0 + 1) + 1) + 1) + 1)) 45) (Int.toNat (((((0 + 1) + 1) + 1) + 1) + 1)) 87) (Int.toNat ((((((0 + 1) + 1) + 1) + 1) + 1) + 1)) (48 + (((f_X5_weekOf x7) / 10) % 10))) (Int.toNat (((((((0 + 1) + 1) + 1) + 1) + 1) + 1) + 1)) (48 + (((f_X5_weekOf x7) / 1) % 10))) (Int.toNat ((((((((0 + 1) + 1) + 1) + 1) + 1) + 1) + 1) + 1)) 45))]) hD hS hA [1, 2] rfl
                refine va_callv (va_runV (As := [.int (zi (f_X5_weekdayOf x7)), .int (zi 1)]) (rest := []) ⟨hx, hb, hml, hown, hts⟩ hh19 (cwV 2 hts gX5_write_X5_putNumber rfl rfl rfl (by decide +kernel) ⟨Nat.le_of_ble_eq_true rfl, Nat.le_of_ble_eq_true rfl⟩) ⟨zPw.blind _ _ _ _ _, va_recv hKc hPc (ci := 5) (q0 := 0) rfl rfl, fun U hU hW => ⟨rfl, by rw [hU], by rw [hU]; exact hPc, va_K.moved hW.alike hKc, hDc.weaken (fun _ _ _ _ => trivial)⟩⟩ rfl rfl hl.1 rfl (lv_room (Nat.le_of_ble_eq_true rfl)) dX5_write_153 ⟨Nat.le_of_ble_eq_true rfl, Nat.le_of_ble_eq_true rfl⟩) hS (fun q _ h => hFc q h) hFc (fun u t H1 locs ht hvm hw hB hz1 hk1 hS => ?_)
                obtain ⟨hP1, hK1, hD1⟩ := hB
                rw [ht] at hP1
                obtain ⟨hP, hD⟩ := va_join (wr := [(ps, aI cI 10 sf)]) (w1 := [(g0, .inr (5, [.int (zi 0), .ref ps, .int (zi ru), .ref pk, .ref pa, .ref pb, .ref pq, .int (zi we), .int (zi ((((((((((0 + 1) + 1) + 1) + 1) + 1) + 1) + 1) + 1) + 1) + 1)), .ref pw, .int (zi ty), .ref pt])), (pw, aI cI 12 (zup (zup (zup (zup (zup (zup (zup (zup (zup (zup wf (Int.toNat 0) (48 + (((f_X5_weekYearOf x7) / 1000) % 10))) (Int.toNat (0 + 1)) (48 + (((f_X5_weekYearOf x7) / 100) % 10))) (Int.toNat ((0 + 1) + 1)) (48 + (((f_X5_weekYearOf x7) / 10) % 10))) (Int.toNat (((0 + 1) + 1) + 1)) (48 + (((f_X5_weekYearOf x7) / 1) % 10))) (Int.toNat ((((0 + 1) + 1) + 1) + 1)) 45) (Int.toNat (((((0 + 1) + 1) + 1) + 1) + 1)) 87) (Int.toNat ((((((0 + 1) + 1) + 1) + 1) + 1) + 1)) (48 + (((f_X5_weekOf x7) / 10) % 10))) (Int.toNat (((((((0 + 1) + 1) + 1) + 1) + 1) + 1) + 1)) (48 + (((f_X5_weekOf x7) / 1) % 10))) (Int.toNat ((((((((0 + 1) + 1) + 1) + 1) + 1) + 1) + 1) + 1)) 45) (Int.toNat (((((((((0 + 1) + 1) + 1) + 1) + 1) + 1) + 1) + 1) + 1)) (48 + (((f_X5_weekdayOf x7) / 1) % 10))))]) hP hD [1, 2] [0] rfl rfl (by decide) (by decide) hk1 hFc hP1 hD1
                generalize H1 = H at hP hS ⊢
                have hP : va_P (dC, dI) vwCl [(ps, aI cI 10 sf), (g0, .inr (5, [.int (zi 0), .ref ps, .int (zi ru), .ref pk, .ref pa, .ref pb, .ref pq, .int (zi we), .int (zi ((((((((((0 + 1) + 1) + 1) + 1) + 1) + 1) + 1) + 1) + 1) + 1)), .ref pw, .int (zi ty), .ref pt])), (pw, aI cI 12 (zup (zup (zup (zup (zup (zup (zup (zup (zup (zup wf (Int.toNat 0) (48 + (((f_X5_weekYearOf x7) / 1000) % 10))) (Int.toNat (0 + 1)) (48 + (((f_X5_weekYearOf x7) / 100) % 10))) (Int.toNat ((0 + 1) + 1)) (48 + (((f_X5_weekYearOf x7) / 10) % 10))) (Int.toNat (((0 + 1) + 1) + 1)) (48 + (((f_X5_weekYearOf x7) / 1) % 10))) (Int.toNat ((((0 + 1) + 1) + 1) + 1)) 45) (Int.toNat (((((0 + 1) + 1) + 1) + 1) + 1)) 87) (Int.toNat ((((((0 + 1) + 1) + 1) + 1) + 1) + 1)) (48 + (((f_X5_weekOf x7) / 10) % 10))) (Int.toNat (((((((0 + 1) + 1) + 1) + 1) + 1) + 1) + 1)) (48 + (((f_X5_weekOf x7) / 1) % 10))) (Int.toNat ((((((((0 + 1) + 1) + 1) + 1) + 1) + 1) + 1) + 1)) 45) (Int.toNat (((((((((0 + 1) + 1) + 1) + 1) + 1) + 1) + 1) + 1) + 1)) (48 + (((f_X5_weekdayOf x7) / 1) % 10))))] H := hP
                have hD : va_D A [(ps, aI cI 10 sf), (g0, .inr (5, [.int (zi 0), .ref ps, .int (zi ru), .ref pk, .ref pa, .ref pb, .ref pq, .int (zi we), .int (zi ((((((((((0 + 1) + 1) + 1) + 1) + 1) + 1) + 1) + 1) + 1) + 1)), .ref pw, .int (zi ty), .ref pt])), (pw, aI cI 12 (zup (zup (zup (zup (zup (zup (zup (zup (zup (zup wf (Int.toNat 0) (48 + (((f_X5_weekYearOf x7) / 1000) % 10))) (Int.toNat (0 + 1)) (48 + (((f_X5_weekYearOf x7) / 100) % 10))) (Int.toNat ((0 + 1) + 1)) (48 + (((f_X5_weekYearOf x7) / 10) % 10))) (Int.toNat (((0 + 1) + 1) + 1)) (48 + (((f_X5_weekYearOf x7) / 1) % 10))) (Int.toNat ((((0 + 1) + 1) + 1) + 1)) 45) (Int.toNat (((((0 + 1) + 1) + 1) + 1) + 1)) 87) (Int.toNat ((((((0 + 1) + 1) + 1) + 1) + 1) + 1)) (48 + (((f_X5_weekOf x7) / 10) % 10))) (Int.toNat (((((((0 + 1) + 1) + 1) + 1) + 1) + 1) + 1)) (48 + (((f_X5_weekOf x7) / 1) % 10))) (Int.toNat ((((((((0 + 1) + 1) + 1) + 1) + 1) + 1) + 1) + 1)) 45) (Int.toNat (((((((((0 + 1) + 1) + 1) + 1) + 1) + 1) + 1) + 1) + 1)) (48 + (((f_X5_weekdayOf x7) / 1) % 10))))] := hD
                refine lv_goto (tgt := 170) hx hb dX5_write_156 (by decide) ?_
                refine lv_aload_n hx hb dX5_write_170 rfl (lv_at hl 1 rfl) ?_
                refine va_get (D := (dC, dI)) (ci := 5) (v := .int (zi ((((((((((0 + 1) + 1) + 1) + 1) + 1) + 1) + 1) + 1) + 1) + 1))) (C := RX5) (T := TX5) (N := 12) hx hb hts (by decide +kernel) hown hK hP 1 rfl rfl 8 (by decide) (hts (.fieldLink RX5 134 "CivilDaysModel" "written" "I") (by decide +kernel)) (fun _ h9 => h9) rfl dX5_write_171 ?_
                subst ex7
                have hP9 := hP.sub (ws' := [(g0, .inr (5, [.int (zi 0), .ref ps, .int (zi ru), .ref pk, .ref pa, .ref pb, .ref pq, .int (zi we), .int (zi ((((((((((0 + 1) + 1) + 1) + 1) + 1) + 1) + 1) + 1) + 1) + 1)), .ref pw, .int (zi ty), .ref pt])), (ps, aI cI 10 sf), (pw, aI cI 12 (zup (zup (zup (zup (zup (zup (zup (zup (zup (zup wf (Int.toNat 0) (48 + (((f_X5_weekYearOf (sf sl.toNat)) / 1000) % 10))) (Int.toNat (0 + 1)) (48 + (((f_X5_weekYearOf (sf sl.toNat)) / 100) % 10))) (Int.toNat ((0 + 1) + 1)) (48 + (((f_X5_weekYearOf (sf sl.toNat)) / 10) % 10))) (Int.toNat (((0 + 1) + 1) + 1)) (48 + (((f_X5_weekYearOf (sf sl.toNat)) / 1) % 10))) (Int.toNat ((((0 + 1) + 1) + 1) + 1)) 45) (Int.toNat (((((0 + 1) + 1) + 1) + 1) + 1)) 87) (Int.toNat ((((((0 + 1) + 1) + 1) + 1) + 1) + 1)) (48 + (((f_X5_weekOf (sf sl.toNat)) / 10) % 10))) (Int.toNat (((((((0 + 1) + 1) + 1) + 1) + 1) + 1) + 1)) (48 + (((f_X5_weekOf (sf sl.toNat)) / 1) % 10))) (Int.toNat ((((((((0 + 1) + 1) + 1) + 1) + 1) + 1) + 1) + 1)) 45) (Int.toNat (((((((((0 + 1) + 1) + 1) + 1) + 1) + 1) + 1) + 1) + 1)) (48 + (((f_X5_weekdayOf (sf sl.toNat)) / 1) % 10))))]) [1, 0, 2] rfl
                have hD9 := hD.sub (ws' := [(g0, .inr (5, [.int (zi 0), .ref ps, .int (zi ru), .ref pk, .ref pa, .ref pb, .ref pq, .int (zi we), .int (zi ((((((((((0 + 1) + 1) + 1) + 1) + 1) + 1) + 1) + 1) + 1) + 1)), .ref pw, .int (zi ty), .ref pt])), (ps, aI cI 10 sf), (pw, aI cI 12 (zup (zup (zup (zup (zup (zup (zup (zup (zup (zup wf (Int.toNat 0) (48 + (((f_X5_weekYearOf (sf sl.toNat)) / 1000) % 10))) (Int.toNat (0 + 1)) (48 + (((f_X5_weekYearOf (sf sl.toNat)) / 100) % 10))) (Int.toNat ((0 + 1) + 1)) (48 + (((f_X5_weekYearOf (sf sl.toNat)) / 10) % 10))) (Int.toNat (((0 + 1) + 1) + 1)) (48 + (((f_X5_weekYearOf (sf sl.toNat)) / 1) % 10))) (Int.toNat ((((0 + 1) + 1) + 1) + 1)) 45) (Int.toNat (((((0 + 1) + 1) + 1) + 1) + 1)) 87) (Int.toNat ((((((0 + 1) + 1) + 1) + 1) + 1) + 1)) (48 + (((f_X5_weekOf (sf sl.toNat)) / 10) % 10))) (Int.toNat (((((((0 + 1) + 1) + 1) + 1) + 1) + 1) + 1)) (48 + (((f_X5_weekOf (sf sl.toNat)) / 1) % 10))) (Int.toNat ((((((((0 + 1) + 1) + 1) + 1) + 1) + 1) + 1) + 1)) 45) (Int.toNat (((((((((0 + 1) + 1) + 1) + 1) + 1) + 1) + 1) + 1) + 1)) (48 + (((f_X5_weekdayOf (sf sl.toNat)) / 1) % 10))))]) [1, 0, 2] (by decide) rfl
                exact W.iret (v := zi ((((((((((0 + 1) + 1) + 1) + 1) + 1) + 1) + 1) + 1) + 1) + 1)) hx hb hr (fun t ht hW => ⟨⟨zi ((((((((((0 + 1) + 1) + 1) + 1) + 1) + 1) + 1) + 1) + 1) + 1), (), rfl, rfl, by rw [ht]; exact hP9, va_K.moved hW.alike hK, hD9⟩, hS.F ht⟩) hS.2.2 dX5_write_174
            · skip
              exact absurd True.intro (by omega)
        · skip
          exact absurd True.intro (by omega)
      · skip
        exact absurd True.intro (by omega)
    · skip
      exact absurd True.intro (by omega)
  · skip
    exact absurd True.intro (by omega)

set_option maxHeartbeats 4000000 in
set_option maxRecDepth 100000 in
theorem c_X5_write_ok2 (l : Launch)  (dC : Nat → ClassId) (dI : Nat → Nat → Nat) (cI : ClassId) (g0 : Nat) (ps : Nat) (pk : Nat) (pa : Nat) (pb : Nat) (pq : Nat) (pw : Nat) (pt : Nat) (co : Int) (ru : Int) (we : Int) (wr : Int) (ty : Int) (sf : Nat → Int) (wf : Nat → Int) (sl : Int) (sz : Nat) (hp0 : 0 ≤ sl ∧ sl ≤ 9) (hp1 : 0 ≤ sf sl.toNat ∧ sf sl.toNat ≤ 3652058) : Met l yX5_write wsX5_write ({ frames := 6, cells := 0, slots := 0, locals := 128 }) (zPw (dC, dI) [(cI, .int)] sz [.ref g0, .int (zi sl), .int (zi 2)] [(g0, .inr (5, [.int (zi co), .ref ps, .int (zi ru), .ref pk, .ref pa, .ref pb, .ref pq, .int (zi we), .int (zi wr), .ref pw, .int (zi ty), .ref pt])), (ps, aI cI 10 sf), (pw, aI cI 12 wf)]) (va_Qi (fun (r : Int32) (_ : Unit) => r = zi ((((((((0 + 1) + 1) + 1) + 1) + 1) + 1) + 1) + 1)) (zB (dC, dI) [(cI, .int)] (va_A [(g0, .inr (5, [.int (zi co), .ref ps, .int (zi ru), .ref pk, .ref pa, .ref pb, .ref pq, .int (zi we), .int (zi wr), .ref pw, .int (zi ty), .ref pt])), (ps, aI cI 10 sf), (pw, aI cI 12 wf)] sz) [(g0, .inr (5, [.int (zi 0), .ref ps, .int (zi ru), .ref pk, .ref pa, .ref pb, .ref pq, .int (zi we), .int (zi ((((((((0 + 1) + 1) + 1) + 1) + 1) + 1) + 1) + 1)), .ref pw, .int (zi ty), .ref pt])), (ps, aI cI 10 sf), (pw, aI cI 12 (zup (zup (zup (zup (zup (zup (zup (zup wf (Int.toNat 0) (48 + (((f_X5_yearOf (sf sl.toNat)) / 1000) % 10))) (Int.toNat (0 + 1)) (48 + (((f_X5_yearOf (sf sl.toNat)) / 100) % 10))) (Int.toNat ((0 + 1) + 1)) (48 + (((f_X5_yearOf (sf sl.toNat)) / 10) % 10))) (Int.toNat (((0 + 1) + 1) + 1)) (48 + (((f_X5_yearOf (sf sl.toNat)) / 1) % 10))) (Int.toNat ((((0 + 1) + 1) + 1) + 1)) 45) (Int.toNat (((((0 + 1) + 1) + 1) + 1) + 1)) (48 + (((f_X5_toldOf (sf sl.toNat) 7) / 100) % 10))) (Int.toNat ((((((0 + 1) + 1) + 1) + 1) + 1) + 1)) (48 + (((f_X5_toldOf (sf sl.toNat) 7) / 10) % 10))) (Int.toNat (((((((0 + 1) + 1) + 1) + 1) + 1) + 1) + 1)) (48 + (((f_X5_toldOf (sf sl.toNat) 7) / 1) % 10))))]) (va_A [(g0, .inr (5, [.int (zi co), .ref ps, .int (zi ru), .ref pk, .ref pa, .ref pb, .ref pq, .int (zi we), .int (zi wr), .ref pw, .int (zi ty), .ref pt])), (ps, aI cI 10 sf), (pw, aI cI 12 wf)] sz)) 0 0 (va_A [(g0, .inr (5, [.int (zi co), .ref ps, .int (zi ru), .ref pk, .ref pa, .ref pb, .ref pq, .int (zi we), .int (zi wr), .ref pw, .int (zi ty), .ref pt])), (ps, aI cI 10 sf), (pw, aI cI 12 wf)] sz) := by
  refine Met.ofW (cc := cX5_write) (maxL := 4) (ret := (some .int)) (by decide) rfl ?_
  intro p e s m args below meth c s₁ B hml hv
  obtain ⟨rfl, hsz, hP, hK, hD0⟩ := hv
  have hx := B.exec
  have hb := B.bytes
  have hr := B.returns
  have hts := atoms_spec (ws := wsX5_write) B.pre
  have hown : s.vm.findClass RX5 = some m.cls := findClass_of_methodNamed B.named
  have hlocks := B.notSynchronized
  subst hsz
  have hD := hD0.self (sz := s.heap.size)
  generalize hAe : va_A [(g0, .inr (5, [.int (zi co), .ref ps, .int (zi ru), .ref pk, .ref pa, .ref pb, .ref pq, .int (zi we), .int (zi wr), .ref pw, .int (zi ty), .ref pt])), (ps, aI cI 10 sf), (pw, aI cI 12 wf)] s.heap.size = A at hD ⊢
  have hA : ∀ q : Nat, s.heap.size ≤ q → A q := fun q h => by rw [← hAe]; exact Or.inr h
  have hS : va_S A s.heap s.heap [] := va_S.rf
  have hP : va_P (dC, dI) vwCl [(g0, .inr (5, [.int (zi co), .ref ps, .int (zi ru), .ref pk, .ref pa, .ref pb, .ref pq, .int (zi we), .int (zi wr), .ref pw, .int (zi ty), .ref pt])), (ps, aI cI 10 sf), (pw, aI cI 12 wf)] s.heap := hP
  have hl := lv_entry ([.ref g0, .int (zi sl), .int (zi 2)]) (n := 4) (Nat.le_of_ble_eq_true rfl)
  rw [lg_entry_eq]
  generalize (lg_sl ([.ref g0, .int (zi sl), .int (zi 2)]) ++ List.replicate (4 - (lg_sl ([.ref g0, .int (zi sl), .int (zi 2)])).length) Slot.unset).toArray = ls at hl ⊢
  have hl : lv_has ls 4 [(0, .ref g0), (1, .int (zi sl)), (2, .int (zi 2))] := hl
  refine lv_aload_n hx hb dX5_write_0 rfl (lv_at hl 0 rfl) ?_
  refine lv_iload_n hx hb dX5_write_1 rfl (lv_at hl 1 rfl) ?_
  have hh1 := c_X5_isSlot l sl (by omega)
  refine vp_callSi (va_Run.run (va_runS (As := [.int (zi sl)]) (rest := [.ref g0]) ⟨hx, hb, hml, hown, hts⟩ hh1 (va_cwS 1 hts gX5_write_X5_isSlot rfl rfl rfl (by decide +kernel) ⟨Nat.le_of_ble_eq_true rfl, Nat.le_of_ble_eq_true rfl⟩) ⟨fun a U g mk q => q, fun U hU hW => ⟨rfl, trivial⟩⟩ rfl rfl hl.1 rfl (lv_room (Nat.le_of_ble_eq_true rfl)) dX5_write_2 ⟨Nat.zero_le _, Nat.zero_le _⟩)) (fun r1 (hr1 : r1 = zi (f_X5_isSlot sl)) => ?_)
  subst hr1
  have hf1 := b_X5_isSlot sl (by omega)
  refine zw_if_ne (tgt := 12) hx hb dX5_write_5 (by decide) ⟨by omega, by omega⟩ (fun h2 => ?_) (fun h2 => ?_)
  · skip
    refine lv_iload_n hx hb dX5_write_12 rfl (lv_at hl 2 rfl) ?_
    refine zw_iconst hx hb dX5_write_13 ?_
    refine zw_iconst hx hb dX5_write_14 ?_
    have hh3 := c_X5_in l 2 0 2 (by omega) (by omega) (by omega)
    refine vp_callSi (va_Run.run (va_runS (As := [.int (zi 2), .int (zi 0), .int (zi 2)]) (rest := [.ref g0]) ⟨hx, hb, hml, hown, hts⟩ hh3 (va_cwS 3 hts gX5_write_X5_in rfl rfl rfl (by decide +kernel) ⟨Nat.le_of_ble_eq_true rfl, Nat.le_of_ble_eq_true rfl⟩) ⟨fun a U g mk q => q, fun U hU hW => ⟨rfl, trivial⟩⟩ rfl rfl hl.1 rfl (lv_room (Nat.le_of_ble_eq_true rfl)) dX5_write_15 ⟨Nat.zero_le _, Nat.zero_le _⟩)) (fun r3 (hr3 : r3 = zi (f_X5_in 2 0 2)) => ?_)
    subst hr3
    have hf3 := b_X5_in 2 0 2 (by omega) (by omega) (by omega)
    refine zw_if_ne (tgt := 25) hx hb dX5_write_18 (by decide) ⟨by omega, by omega⟩ (fun h4 => ?_) (fun h4 => ?_)
    · skip
      refine lv_aload_n hx hb dX5_write_25 rfl (lv_at hl 0 rfl) ?_
      refine va_get (D := (dC, dI)) (ci := 5) (v := .ref ps) (C := RX5) (T := TX5) (N := 12) hx hb hts (by decide +kernel) hown hK hP 0 rfl rfl 1 (by decide) (hts (.fieldLink RX5 7 "CivilDaysModel" "slots" "[I") (by decide +kernel)) (fun _ h9 => h9) rfl dX5_write_26 ?_
      refine lv_iload_n hx hb dX5_write_29 rfl (lv_at hl 1 rfl) ?_
      refine zw_iald hx hb hK hP 1 0 rfl rfl (by omega) (by omega) ⟨by omega, by omega⟩ dX5_write_30 ?_
      refine zw_if_ge (tgt := 38) hx hb dX5_write_31 (by decide) ⟨by omega, by omega⟩ (fun h5 => ?_) (fun h5 => ?_)
      · skip
        refine zw_iconst hx hb dX5_write_38 ?_
        refine va_put (D := (dC, dI)) (ci := 5) (v := .int (zi 0)) (ty := .int) (C := RX5) (T := TX5) (N := 12) hx hb hts (by decide +kernel) tyX5 tyX5_ok nmX5 hown hK hP hD hS 0 rfl rfl 0 (by decide) (hts (.fieldLink RX5 35 "CivilDaysModel" "code" "I") (by decide +kernel)) (fun _ h9 => h9) rfl (by decide +kernel) rfl rfl (Nat.le_of_ble_eq_true rfl) dX5_write_39 (fun H locs hP hD hS => ?_)
        have hP : va_P (dC, dI) vwCl [(g0, .inr (5, [.int (zi 0), .ref ps, .int (zi ru), .ref pk, .ref pa, .ref pb, .ref pq, .int (zi we), .int (zi wr), .ref pw, .int (zi ty), .ref pt])), (ps, aI cI 10 sf), (pw, aI cI 12 wf)] H := hP
        have hD : va_D A [(g0, .inr (5, [.int (zi 0), .ref ps, .int (zi ru), .ref pk, .ref pa, .ref pb, .ref pq, .int (zi we), .int (zi wr), .ref pw, .int (zi ty), .ref pt])), (ps, aI cI 10 sf), (pw, aI cI 12 wf)] := hD
        refine lv_aload_n hx hb dX5_write_42 rfl (lv_at hl 0 rfl) ?_
        refine va_get (D := (dC, dI)) (ci := 5) (v := .int (zi 0)) (C := RX5) (T := TX5) (N := 12) hx hb hts (by decide +kernel) hown hK hP 0 rfl rfl 0 (by decide) (hts (.fieldLink RX5 35 "CivilDaysModel" "code" "I") (by decide +kernel)) (fun _ h9 => h9) rfl dX5_write_43 ?_
        refine zw_if_le (tgt := 51) hx hb dX5_write_46 (by decide) ⟨by omega, by omega⟩ (fun h6 => ?_) (fun h6 => ?_)
        · skip
          refine lv_aload_n hx hb dX5_write_51 rfl (lv_at hl 0 rfl) ?_
          refine va_get (D := (dC, dI)) (ci := 5) (v := .ref ps) (C := RX5) (T := TX5) (N := 12) hx hb hts (by decide +kernel) hown hK hP 0 rfl rfl 1 (by decide) (hts (.fieldLink RX5 7 "CivilDaysModel" "slots" "[I") (by decide +kernel)) (fun _ h9 => h9) rfl dX5_write_52 ?_
          refine lv_iload_n hx hb dX5_write_55 rfl (lv_at hl 1 rfl) ?_
          refine zw_iald hx hb hK hP 1 0 rfl rfl (by omega) (by omega) ⟨by omega, by omega⟩ dX5_write_56 ?_
          refine zw_top (fun x7 ex7 => ?_)
          refine lv_istore_n (lv' := [(3, .int (zi x7)), (0, .ref g0), (1, .int (zi sl)), (2, .int (zi 2))]) hx hb dX5_write_57 rfl hl (by decide) rfl (fun ls hl => ?_)
          refine lv_aload_n hx hb dX5_write_58 rfl (lv_at hl 1 rfl) ?_
          refine zw_iconst hx hb dX5_write_59 ?_
          refine va_put (D := (dC, dI)) (ci := 5) (v := .int (zi 0)) (ty := .int) (C := RX5) (T := TX5) (N := 12) hx hb hts (by decide +kernel) tyX5 tyX5_ok nmX5 hown hK hP hD hS 0 rfl rfl 8 (by decide) (hts (.fieldLink RX5 134 "CivilDaysModel" "written" "I") (by decide +kernel)) (fun _ h9 => h9) rfl (by decide +kernel) rfl rfl (Nat.le_of_ble_eq_true rfl) dX5_write_60 (fun H locs hP hD hS => ?_)
          have hP : va_P (dC, dI) vwCl [(g0, .inr (5, [.int (zi 0), .ref ps, .int (zi ru), .ref pk, .ref pa, .ref pb, .ref pq, .int (zi we), .int (zi 0), .ref pw, .int (zi ty), .ref pt])), (ps, aI cI 10 sf), (pw, aI cI 12 wf)] H := hP
          have hD : va_D A [(g0, .inr (5, [.int (zi 0), .ref ps, .int (zi ru), .ref pk, .ref pa, .ref pb, .ref pq, .int (zi we), .int (zi 0), .ref pw, .int (zi ty), .ref pt])), (ps, aI cI 10 sf), (pw, aI cI 12 wf)] := hD
          refine lv_aload_n hx hb dX5_write_63 rfl (lv_at hl 1 rfl) ?_
          refine lv_iload_n hx hb dX5_write_64 rfl (lv_at hl 3 rfl) ?_
          refine zw_iconst hx hb dX5_write_65 ?_
          refine zw_icmp_ne (tgt := 76) hx hb dX5_write_66 (by decide) ⟨by omega, by omega⟩ ⟨by omega, by omega⟩ (fun h8 => ?_) (fun h8 => ?_)
          · skip
            refine lv_iload_n hx hb dX5_write_76 rfl (lv_at hl 0 rfl) ?_
            have hh9 := c_X5_yearOf l x7 (by omega)
            refine vp_callSi (va_Run.run (va_runS (As := [.int (zi x7)]) (rest := [.ref g0]) ⟨hx, hb, hml, hown, hts⟩ hh9 (va_cwS 1 hts gX5_write_X5_yearOf rfl rfl rfl (by decide +kernel) ⟨Nat.le_of_ble_eq_true rfl, Nat.le_of_ble_eq_true rfl⟩) ⟨fun a U g mk q => q, fun U hU hW => ⟨rfl, trivial⟩⟩ rfl rfl hl.1 rfl (lv_room (Nat.le_of_ble_eq_true rfl)) dX5_write_77 ⟨Nat.zero_le _, Nat.zero_le _⟩)) (fun r9 (hr9 : r9 = zi (f_X5_yearOf x7)) => ?_)
            subst hr9
            have hf9 := b_X5_yearOf x7 (by omega)
            refine zw_iconst hx hb dX5_write_80 ?_
            have hh10 := c_X5_putNumber_4 l dC dI cI g0 ps pk pa pb pq pw pt 0 ru we 0 ty wf (f_X5_yearOf x7) H.size (by omega) (by omega)
            have hPc := hP.sub (ws' := [(g0, .inr (5, [.int (zi 0), .ref ps, .int (zi ru), .ref pk, .ref pa, .ref pb, .ref pq, .int (zi we), .int (zi 0), .ref pw, .int (zi ty), .ref pt])), (pw, aI cI 12 wf)]) [0, 2] rfl
            have hKc : va_K (dC, dI) vwCl [(cI, .int)] s := hK
            have hDc := hD.sub (ws' := [(g0, .inr (5, [.int (zi 0), .ref ps, .int (zi ru), .ref pk, .ref pa, .ref pb, .ref pq, .int (zi we), .int (zi 0), .ref pw, .int (zi ty), .ref pt])), (pw, aI cI 12 wf)]) [0, 2] (by decide) rfl
            have hFc := va_free (wc := [(g0, .inr (5, [.int (zi 0), .ref ps, .int (zi ru), .ref pk, .ref pa, .ref pb, .ref pq, .int (zi we), .int (zi 0), .ref pw, .int (zi ty), .ref pt])), (pw, aI cI 12 wf)]) hD hS hA [0, 2] rfl
            refine va_callv (va_runV (As := [.int (zi (f_X5_yearOf x7)), .int (zi 4)]) (rest := []) ⟨hx, hb, hml, hown, hts⟩ hh10 (cwV 2 hts gX5_write_X5_putNumber rfl rfl rfl (by decide +kernel) ⟨Nat.le_of_ble_eq_true rfl, Nat.le_of_ble_eq_true rfl⟩) ⟨zPw.blind _ _ _ _ _, va_recv hKc hPc (ci := 5) (q0 := 0) rfl rfl, fun U hU hW => ⟨rfl, by rw [hU], by rw [hU]; exact hPc, va_K.moved hW.alike hKc, hDc.weaken (fun _ _ _ _ => trivial)⟩⟩ rfl rfl hl.1 rfl (lv_room (Nat.le_of_ble_eq_true rfl)) dX5_write_81 ⟨Nat.le_of_ble_eq_true rfl, Nat.le_of_ble_eq_true rfl⟩) hS (fun q _ h => hFc q h) hFc (fun u t H1 locs ht hvm hw hB hz1 hk1 hS => ?_)
            obtain ⟨hP1, hK1, hD1⟩ := hB
            rw [ht] at hP1
            obtain ⟨hP, hD⟩ := va_join (wr := [(ps, aI cI 10 sf)]) (w1 := [(g0, .inr (5, [.int (zi 0), .ref ps, .int (zi ru), .ref pk, .ref pa, .ref pb, .ref pq, .int (zi we), .int (zi ((((0 + 1) + 1) + 1) + 1)), .ref pw, .int (zi ty), .ref pt])), (pw, aI cI 12 (zup (zup (zup (zup wf (Int.toNat 0) (48 + (((f_X5_yearOf x7) / 1000) % 10))) (Int.toNat (0 + 1)) (48 + (((f_X5_yearOf x7) / 100) % 10))) (Int.toNat ((0 + 1) + 1)) (48 + (((f_X5_yearOf x7) / 10) % 10))) (Int.toNat (((0 + 1) + 1) + 1)) (48 + (((f_X5_yearOf x7) / 1) % 10))))]) hP hD [0, 2] [1] rfl rfl (by decide) (by decide) hk1 hFc hP1 hD1
            generalize H1 = H at hP hS ⊢
            have hP : va_P (dC, dI) vwCl [(ps, aI cI 10 sf), (g0, .inr (5, [.int (zi 0), .ref ps, .int (zi ru), .ref pk, .ref pa, .ref pb, .ref pq, .int (zi we), .int (zi ((((0 + 1) + 1) + 1) + 1)), .ref pw, .int (zi ty), .ref pt])), (pw, aI cI 12 (zup (zup (zup (zup wf (Int.toNat 0) (48 + (((f_X5_yearOf x7) / 1000) % 10))) (Int.toNat (0 + 1)) (48 + (((f_X5_yearOf x7) / 100) % 10))) (Int.toNat ((0 + 1) + 1)) (48 + (((f_X5_yearOf x7) / 10) % 10))) (Int.toNat (((0 + 1) + 1) + 1)) (48 + (((f_X5_yearOf x7) / 1) % 10))))] H := hP
            have hD : va_D A [(ps, aI cI 10 sf), (g0, .inr (5, [.int (zi 0), .ref ps, .int (zi ru), .ref pk, .ref pa, .ref pb, .ref pq, .int (zi we), .int (zi ((((0 + 1) + 1) + 1) + 1)), .ref pw, .int (zi ty), .ref pt])), (pw, aI cI 12 (zup (zup (zup (zup wf (Int.toNat 0) (48 + (((f_X5_yearOf x7) / 1000) % 10))) (Int.toNat (0 + 1)) (48 + (((f_X5_yearOf x7) / 100) % 10))) (Int.toNat ((0 + 1) + 1)) (48 + (((f_X5_yearOf x7) / 10) % 10))) (Int.toNat (((0 + 1) + 1) + 1)) (48 + (((f_X5_yearOf x7) / 1) % 10))))] := hD
            refine lv_aload_n hx hb dX5_write_84 rfl (lv_at hl 1 rfl) ?_
            refine zw_bipush hx hb dX5_write_85 (by decide) ?_
            have hh11 := c_X5_put l dC dI cI g0 ps pk pa pb pq pw pt 0 ru we ((((0 + 1) + 1) + 1) + 1) ty (zup (zup (zup (zup wf (Int.toNat 0) (48 + (((f_X5_yearOf x7) / 1000) % 10))) (Int.toNat (0 + 1)) (48 + (((f_X5_yearOf x7) / 100) % 10))) (Int.toNat ((0 + 1) + 1)) (48 + (((f_X5_yearOf x7) / 10) % 10))) (Int.toNat (((0 + 1) + 1) + 1)) (48 + (((f_X5_yearOf x7) / 1) % 10))) 45 H.size (by omega)
            have hPc := hP.sub (ws' := [(g0, .inr (5, [.int (zi 0), .ref ps, .int (zi ru), .ref pk, .ref pa, .ref pb, .ref pq, .int (zi we), .int (zi ((((0 + 1) + 1) + 1) + 1)), .ref pw, .int (zi ty), .ref pt])), (pw, aI cI 12 (zup (zup (zup (zup wf (Int.toNat 0) (48 + (((f_X5_yearOf x7) / 1000) % 10))) (Int.toNat (0 + 1)) (48 + (((f_X5_yearOf x7) / 100) % 10))) (Int.toNat ((0 + 1) + 1)) (48 + (((f_X5_yearOf x7) / 10) % 10))) (Int.toNat (((0 + 1) + 1) + 1)) (48 + (((f_X5_yearOf x7) / 1) % 10))))]) [1, 2] rfl
            have hKc : va_K (dC, dI) vwCl [(cI, .int)] s := hK
            have hDc := hD.sub (ws' := [(g0, .inr (5, [.int (zi 0), .ref ps, .int (zi ru), .ref pk, .ref pa, .ref pb, .ref pq, .int (zi we), .int (zi ((((0 + 1) + 1) + 1) + 1)), .ref pw, .int (zi ty), .ref pt])), (pw, aI cI 12 (zup (zup (zup (zup wf (Int.toNat 0) (48 + (((f_X5_yearOf x7) / 1000) % 10))) (Int.toNat (0 + 1)) (48 + (((f_X5_yearOf x7) / 100) % 10))) (Int.toNat ((0 + 1) + 1)) (48 + (((f_X5_yearOf x7) / 10) % 10))) (Int.toNat (((0 + 1) + 1) + 1)) (48 + (((f_X5_yearOf x7) / 1) % 10))))]) [1, 2] (by decide) rfl
            have hFc := va_free (wc := [(g0, .inr (5, [.int (zi 0), .ref ps, .int (zi ru), .ref pk, .ref pa, .ref pb, .ref pq, .int (zi we), .int (zi ((((0 + 1) + 1) + 1) + 1)), .ref pw, .int (zi ty), .ref pt])), (pw, aI cI 12 (zup (zup (zup (zup wf (Int.toNat 0) (48 + (((f_X5_yearOf x7) / 1000) % 10))) (Int.toNat (0 + 1)) (48 + (((f_X5_yearOf x7) / 100) % 10))) (Int.toNat ((0 + 1) + 1)) (48 + (((f_X5_yearOf x7) / 10) % 10))) (Int.toNat (((0 + 1) + 1) + 1)) (48 + (((f_X5_yearOf x7) / 1) % 10))))]) hD hS hA [1, 2] rfl
            refine va_callv (va_runV (As := [.int (zi 45)]) (rest := []) ⟨hx, hb, hml, hown, hts⟩ hh11 (cwV 1 hts gX5_write_X5_put rfl rfl rfl (by decide +kernel) ⟨Nat.le_of_ble_eq_true rfl, Nat.le_of_ble_eq_true rfl⟩) ⟨zPw.blind _ _ _ _ _, va_recv hKc hPc (ci := 5) (q0 := 0) rfl rfl, fun U hU hW => ⟨rfl, by rw [hU], by rw [hU]; exact hPc, va_K.moved hW.alike hKc, hDc.weaken (fun _ _ _ _ => trivial)⟩⟩ rfl rfl hl.1 rfl (lv_room (Nat.le_of_ble_eq_true rfl)) dX5_write_87 ⟨Nat.le_of_ble_eq_true rfl, Nat.le_of_ble_eq_true rfl⟩) hS (fun q _ h => hFc q h) hFc (fun u t H1 locs ht hvm hw hB hz1 hk1 hS => ?_)
            obtain ⟨hP1, hK1, hD1⟩ := hB
            rw [ht] at hP1
            obtain ⟨hP, hD⟩ := va_join (wr := [(ps, aI cI 10 sf)]) (w1 := [(g0, .inr (5, [.int (zi 0), .ref ps, .int (zi ru), .ref pk, .ref pa, .ref pb, .ref pq, .int (zi we), .int (zi (((((0 + 1) + 1) + 1) + 1) + 1)), .ref pw, .int (zi ty), .ref pt])), (pw, aI cI 12 (zup (zup (zup (zup (zup wf (Int.toNat 0) (48 + (((f_X5_yearOf x7) / 1000) % 10))) (Int.toNat (0 + 1)) (48 + (((f_X5_yearOf x7) / 100) % 10))) (Int.toNat ((0 + 1) + 1)) (48 + (((f_X5_yearOf x7) / 10) % 10))) (Int.toNat (((0 + 1) + 1) + 1)) (48 + (((f_X5_yearOf x7) / 1) % 10))) (Int.toNat ((((0 + 1) + 1) + 1) + 1)) 45))]) hP hD [1, 2] [0] rfl rfl (by decide) (by decide) hk1 hFc hP1 hD1
            generalize H1 = H at hP hS ⊢
            have hP : va_P (dC, dI) vwCl [(ps, aI cI 10 sf), (g0, .inr (5, [.int (zi 0), .ref ps, .int (zi ru), .ref pk, .ref pa, .ref pb, .ref pq, .int (zi we), .int (zi (((((0 + 1) + 1) + 1) + 1) + 1)), .ref pw, .int (zi ty), .ref pt])), (pw, aI cI 12 (zup (zup (zup (zup (zup wf (Int.toNat 0) (48 + (((f_X5_yearOf x7) / 1000) % 10))) (Int.toNat (0 + 1)) (48 + (((f_X5_yearOf x7) / 100) % 10))) (Int.toNat ((0 + 1) + 1)) (48 + (((f_X5_yearOf x7) / 10) % 10))) (Int.toNat (((0 + 1) + 1) + 1)) (48 + (((f_X5_yearOf x7) / 1) % 10))) (Int.toNat ((((0 + 1) + 1) + 1) + 1)) 45))] H := hP
            have hD : va_D A [(ps, aI cI 10 sf), (g0, .inr (5, [.int (zi 0), .ref ps, .int (zi ru), .ref pk, .ref pa, .ref pb, .ref pq, .int (zi we), .int (zi (((((0 + 1) + 1) + 1) + 1) + 1)), .ref pw, .int (zi ty), .ref pt])), (pw, aI cI 12 (zup (zup (zup (zup (zup wf (Int.toNat 0) (48 + (((f_X5_yearOf x7) / 1000) % 10))) (Int.toNat (0 + 1)) (48 + (((f_X5_yearOf x7) / 100) % 10))) (Int.toNat ((0 + 1) + 1)) (48 + (((f_X5_yearOf x7) / 10) % 10))) (Int.toNat (((0 + 1) + 1) + 1)) (48 + (((f_X5_yearOf x7) / 1) % 10))) (Int.toNat ((((0 + 1) + 1) + 1) + 1)) 45))] := hD
            refine lv_iload_n hx hb dX5_write_90 rfl (lv_at hl 3 rfl) ?_
            refine zw_if_ne (tgt := 121) hx hb dX5_write_91 (by decide) ⟨by omega, by omega⟩ (fun h12 => ?_) (fun h12 => ?_)
            · skip
              refine lv_iload_n hx hb dX5_write_121 rfl (lv_at hl 3 rfl) ?_
              refine zw_iconst hx hb dX5_write_122 ?_
              refine zw_icmp_ne (tgt := 159) hx hb dX5_write_123 (by decide) ⟨by omega, by omega⟩ ⟨by omega, by omega⟩ (fun h13 => ?_) (fun h13 => ?_)
              · skip
                refine lv_aload_n hx hb dX5_write_159 rfl (lv_at hl 1 rfl) ?_
                refine lv_iload_n hx hb dX5_write_160 rfl (lv_at hl 0 rfl) ?_
                refine zw_bipush hx hb dX5_write_161 (by decide) ?_
                have hh14 := c_X5_toldOf l x7 7 (by omega) (by omega)
                refine vp_callSi (va_Run.run (va_runS (As := [.int (zi x7), .int (zi 7)]) (rest := [.ref g0]) ⟨hx, hb, hml, hown, hts⟩ hh14 (va_cwS 2 hts gX5_write_X5_toldOf rfl rfl rfl (by decide +kernel) ⟨Nat.le_of_ble_eq_true rfl, Nat.le_of_ble_eq_true rfl⟩) ⟨fun a U g mk q => q, fun U hU hW => ⟨rfl, trivial⟩⟩ rfl rfl hl.1 rfl (lv_room (Nat.le_of_ble_eq_true rfl)) dX5_write_163 ⟨Nat.zero_le _, Nat.zero_le _⟩)) (fun r14 (hr14 : r14 = zi (f_X5_toldOf x7 7)) => ?_)
                subst hr14
                have hf14 := b_X5_toldOf x7 7 (by omega) (by omega)
                refine zw_iconst hx hb dX5_write_166 ?_
                have hh15 := c_X5_putNumber_3 l dC dI cI g0 ps pk pa pb pq pw pt 0 ru we (((((0 + 1) + 1) + 1) + 1) + 1) ty (zup (zup (zup (zup (zup wf (Int.toNat 0) (48 + (((f_X5_yearOf x7) / 1000) % 10))) (Int.toNat (0 + 1)) (48 + (((f_X5_yearOf x7) / 100) % 10))) (Int.toNat ((0 + 1) + 1)) (48 + (((f_X5_yearOf x7) / 10) % 10))) (Int.toNat (((0 + 1) + 1) + 1)) (48 + (((f_X5_yearOf x7) / 1) % 10))) (Int.toNat ((((0 + 1) + 1) + 1) + 1)) 45) (f_X5_toldOf x7 7) H.size (by omega) (by omega)
                have hPc := hP.sub (ws' := [(g0, .inr (5, [.int (zi 0), .ref ps, .int (zi ru), .ref pk, .ref pa, .ref pb, .ref pq, .int (zi we), .int (zi (((((0 + 1) + 1) + 1) + 1) + 1)), .ref pw, .int (zi ty), .ref pt])), (pw, aI cI 12 (zup (zup (zup (zup (zup wf (Int.toNat 0) (48 + (((f_X5_yearOf x7) / 1000) % 10))) (Int.toNat (0 + 1)) (48 + (((f_X5_yearOf x7) / 100) % 10))) (Int.toNat ((0 + 1) + 1)) (48 + (((f_X5_yearOf x7) / 10) % 10))) (Int.toNat (((0 + 1) + 1) + 1)) (48 + (((f_X5_yearOf x7) / 1) % 10))) (Int.toNat ((((0 + 1) + 1) + 1) + 1)) 45))]) [1, 2] rfl
                have hKc : va_K (dC, dI) vwCl [(cI, .int)] s := hK
                have hDc := hD.sub (ws' := [(g0, .inr (5, [.int (zi 0), .ref ps, .int (zi ru), .ref pk, .ref pa, .ref pb, .ref pq, .int (zi we), .int (zi (((((0 + 1) + 1) + 1) + 1) + 1)), .ref pw, .int (zi ty), .ref pt])), (pw, aI cI 12 (zup (zup (zup (zup (zup wf (Int.toNat 0) (48 + (((f_X5_yearOf x7) / 1000) % 10))) (Int.toNat (0 + 1)) (48 + (((f_X5_yearOf x7) / 100) % 10))) (Int.toNat ((0 + 1) + 1)) (48 + (((f_X5_yearOf x7) / 10) % 10))) (Int.toNat (((0 + 1) + 1) + 1)) (48 + (((f_X5_yearOf x7) / 1) % 10))) (Int.toNat ((((0 + 1) + 1) + 1) + 1)) 45))]) [1, 2] (by decide) rfl
                have hFc := va_free (wc := [(g0, .inr (5, [.int (zi 0), .ref ps, .int (zi ru), .ref pk, .ref pa, .ref pb, .ref pq, .int (zi we), .int (zi (((((0 + 1) + 1) + 1) + 1) + 1)), .ref pw, .int (zi ty), .ref pt])), (pw, aI cI 12 (zup (zup (zup (zup (zup wf (Int.toNat 0) (48 + (((f_X5_yearOf x7) / 1000) % 10))) (Int.toNat (0 + 1)) (48 + (((f_X5_yearOf x7) / 100) % 10))) (Int.toNat ((0 + 1) + 1)) (48 + (((f_X5_yearOf x7) / 10) % 10))) (Int.toNat (((0 + 1) + 1) + 1)) (48 + (((f_X5_yearOf x7) / 1) % 10))) (Int.toNat ((((0 + 1) + 1) + 1) + 1)) 45))]) hD hS hA [1, 2] rfl
                refine va_callv (va_runV (As := [.int (zi (f_X5_toldOf x7 7)), .int (zi 3)]) (rest := []) ⟨hx, hb, hml, hown, hts⟩ hh15 (cwV 2 hts gX5_write_X5_putNumber rfl rfl rfl (by decide +kernel) ⟨Nat.le_of_ble_eq_true rfl, Nat.le_of_ble_eq_true rfl⟩) ⟨zPw.blind _ _ _ _ _, va_recv hKc hPc (ci := 5) (q0 := 0) rfl rfl, fun U hU hW => ⟨rfl, by rw [hU], by rw [hU]; exact hPc, va_K.moved hW.alike hKc, hDc.weaken (fun _ _ _ _ => trivial)⟩⟩ rfl rfl hl.1 rfl (lv_room (Nat.le_of_ble_eq_true rfl)) dX5_write_167 ⟨Nat.le_of_ble_eq_true rfl, Nat.le_of_ble_eq_true rfl⟩) hS (fun q _ h => hFc q h) hFc (fun u t H1 locs ht hvm hw hB hz1 hk1 hS => ?_)
                obtain ⟨hP1, hK1, hD1⟩ := hB
                rw [ht] at hP1
                obtain ⟨hP, hD⟩ := va_join (wr := [(ps, aI cI 10 sf)]) (w1 := [(g0, .inr (5, [.int (zi 0), .ref ps, .int (zi ru), .ref pk, .ref pa, .ref pb, .ref pq, .int (zi we), .int (zi ((((((((0 + 1) + 1) + 1) + 1) + 1) + 1) + 1) + 1)), .ref pw, .int (zi ty), .ref pt])), (pw, aI cI 12 (zup (zup (zup (zup (zup (zup (zup (zup wf (Int.toNat 0) (48 + (((f_X5_yearOf x7) / 1000) % 10))) (Int.toNat (0 + 1)) (48 + (((f_X5_yearOf x7) / 100) % 10))) (Int.toNat ((0 + 1) + 1)) (48 + (((f_X5_yearOf x7) / 10) % 10))) (Int.toNat (((0 + 1) + 1) + 1)) (48 + (((f_X5_yearOf x7) / 1) % 10))) (Int.toNat ((((0 + 1) + 1) + 1) + 1)) 45) (Int.toNat (((((0 + 1) + 1) + 1) + 1) + 1)) (48 + (((f_X5_toldOf x7 7) / 100) % 10))) (Int.toNat ((((((0 + 1) + 1) + 1) + 1) + 1) + 1)) (48 + (((f_X5_toldOf x7 7) / 10) % 10))) (Int.toNat (((((((0 + 1) + 1) + 1) + 1) + 1) + 1) + 1)) (48 + (((f_X5_toldOf x7 7) / 1) % 10))))]) hP hD [1, 2] [0] rfl rfl (by decide) (by decide) hk1 hFc hP1 hD1
                generalize H1 = H at hP hS ⊢
                have hP : va_P (dC, dI) vwCl [(ps, aI cI 10 sf), (g0, .inr (5, [.int (zi 0), .ref ps, .int (zi ru), .ref pk, .ref pa, .ref pb, .ref pq, .int (zi we), .int (zi ((((((((0 + 1) + 1) + 1) + 1) + 1) + 1) + 1) + 1)), .ref pw, .int (zi ty), .ref pt])), (pw, aI cI 12 (zup (zup (zup (zup (zup (zup (zup (zup wf (Int.toNat 0) (48 + (((f_X5_yearOf x7) / 1000) % 10))) (Int.toNat (0 + 1)) (48 + (((f_X5_yearOf x7) / 100) % 10))) (Int.toNat ((0 + 1) + 1)) (48 + (((f_X5_yearOf x7) / 10) % 10))) (Int.toNat (((0 + 1) + 1) + 1)) (48 + (((f_X5_yearOf x7) / 1) % 10))) (Int.toNat ((((0 + 1) + 1) + 1) + 1)) 45) (Int.toNat (((((0 + 1) + 1) + 1) + 1) + 1)) (48 + (((f_X5_toldOf x7 7) / 100) % 10))) (Int.toNat ((((((0 + 1) + 1) + 1) + 1) + 1) + 1)) (48 + (((f_X5_toldOf x7 7) / 10) % 10))) (Int.toNat (((((((0 + 1) + 1) + 1) + 1) + 1) + 1) + 1)) (48 + (((f_X5_toldOf x7 7) / 1) % 10))))] H := hP
                have hD : va_D A [(ps, aI cI 10 sf), (g0, .inr (5, [.int (zi 0), .ref ps, .int (zi ru), .ref pk, .ref pa, .ref pb, .ref pq, .int (zi we), .int (zi ((((((((0 + 1) + 1) + 1) + 1) + 1) + 1) + 1) + 1)), .ref pw, .int (zi ty), .ref pt])), (pw, aI cI 12 (zup (zup (zup (zup (zup (zup (zup (zup wf (Int.toNat 0) (48 + (((f_X5_yearOf x7) / 1000) % 10))) (Int.toNat (0 + 1)) (48 + (((f_X5_yearOf x7) / 100) % 10))) (Int.toNat ((0 + 1) + 1)) (48 + (((f_X5_yearOf x7) / 10) % 10))) (Int.toNat (((0 + 1) + 1) + 1)) (48 + (((f_X5_yearOf x7) / 1) % 10))) (Int.toNat ((((0 + 1) + 1) + 1) + 1)) 45) (Int.toNat (((((0 + 1) + 1) + 1) + 1) + 1)) (48 + (((f_X5_toldOf x7 7) / 100) % 10))) (Int.toNat ((((((0 + 1) + 1) + 1) + 1) + 1) + 1)) (48 + (((f_X5_toldOf x7 7) / 10) % 10))) (Int.toNat (((((((0 + 1) + 1) + 1) + 1) + 1) + 1) + 1)) (48 + (((f_X5_toldOf x7 7) / 1) % 10))))] := hD
                refine lv_aload_n hx hb dX5_write_170 rfl (lv_at hl 1 rfl) ?_
                refine va_get (D := (dC, dI)) (ci := 5) (v := .int (zi ((((((((0 + 1) + 1) + 1) + 1) + 1) + 1) + 1) + 1))) (C := RX5) (T := TX5) (N := 12) hx hb hts (by decide +kernel) hown hK hP 1 rfl rfl 8 (by decide) (hts (.fieldLink RX5 134 "CivilDaysModel" "written" "I") (by decide +kernel)) (fun _ h9 => h9) rfl dX5_write_171 ?_
                subst ex7
                have hP9 := hP.sub (ws' := [(g0, .inr (5, [.int (zi 0), .ref ps, .int (zi ru), .ref pk, .ref pa, .ref pb, .ref pq, .int (zi we), .int (zi ((((((((0 + 1) + 1) + 1) + 1) + 1) + 1) + 1) + 1)), .ref pw, .int (zi ty), .ref pt])), (ps, aI cI 10 sf), (pw, aI cI 12 (zup (zup (zup (zup (zup (zup (zup (zup wf (Int.toNat 0) (48 + (((f_X5_yearOf (sf sl.toNat)) / 1000) % 10))) (Int.toNat (0 + 1)) (48 + (((f_X5_yearOf (sf sl.toNat)) / 100) % 10))) (Int.toNat ((0 + 1) + 1)) (48 + (((f_X5_yearOf (sf sl.toNat)) / 10) % 10))) (Int.toNat (((0 + 1) + 1) + 1)) (48 + (((f_X5_yearOf (sf sl.toNat)) / 1) % 10))) (Int.toNat ((((0 + 1) + 1) + 1) + 1)) 45) (Int.toNat (((((0 + 1) + 1) + 1) + 1) + 1)) (48 + (((f_X5_toldOf (sf sl.toNat) 7) / 100) % 10))) (Int.toNat ((((((0 + 1) + 1) + 1) + 1) + 1) + 1)) (48 + (((f_X5_toldOf (sf sl.toNat) 7) / 10) % 10))) (Int.toNat (((((((0 + 1) + 1) + 1) + 1) + 1) + 1) + 1)) (48 + (((f_X5_toldOf (sf sl.toNat) 7) / 1) % 10))))]) [1, 0, 2] rfl
                have hD9 := hD.sub (ws' := [(g0, .inr (5, [.int (zi 0), .ref ps, .int (zi ru), .ref pk, .ref pa, .ref pb, .ref pq, .int (zi we), .int (zi ((((((((0 + 1) + 1) + 1) + 1) + 1) + 1) + 1) + 1)), .ref pw, .int (zi ty), .ref pt])), (ps, aI cI 10 sf), (pw, aI cI 12 (zup (zup (zup (zup (zup (zup (zup (zup wf (Int.toNat 0) (48 + (((f_X5_yearOf (sf sl.toNat)) / 1000) % 10))) (Int.toNat (0 + 1)) (48 + (((f_X5_yearOf (sf sl.toNat)) / 100) % 10))) (Int.toNat ((0 + 1) + 1)) (48 + (((f_X5_yearOf (sf sl.toNat)) / 10) % 10))) (Int.toNat (((0 + 1) + 1) + 1)) (48 + (((f_X5_yearOf (sf sl.toNat)) / 1) % 10))) (Int.toNat ((((0 + 1) + 1) + 1) + 1)) 45) (Int.toNat (((((0 + 1) + 1) + 1) + 1) + 1)) (48 + (((f_X5_toldOf (sf sl.toNat) 7) / 100) % 10))) (Int.toNat ((((((0 + 1) + 1) + 1) + 1) + 1) + 1)) (48 + (((f_X5_toldOf (sf sl.toNat) 7) / 10) % 10))) (Int.toNat (((((((0 + 1) + 1) + 1) + 1) + 1) + 1) + 1)) (48 + (((f_X5_toldOf (sf sl.toNat) 7) / 1) % 10))))]) [1, 0, 2] (by decide) rfl
                exact W.iret (v := zi ((((((((0 + 1) + 1) + 1) + 1) + 1) + 1) + 1) + 1)) hx hb hr (fun t ht hW => ⟨⟨zi ((((((((0 + 1) + 1) + 1) + 1) + 1) + 1) + 1) + 1), (), rfl, rfl, by rw [ht]; exact hP9, va_K.moved hW.alike hK, hD9⟩, hS.F ht⟩) hS.2.2 dX5_write_174
              · skip
                exact absurd True.intro (by omega)
            · skip
              exact absurd True.intro (by omega)
          · skip
            exact absurd True.intro (by omega)
        · skip
          exact absurd True.intro (by omega)
      · skip
        exact absurd True.intro (by omega)
    · skip
      exact absurd True.intro (by omega)
  · skip
    exact absurd True.intro (by omega)

set_option maxHeartbeats 4000000 in
set_option maxRecDepth 100000 in
theorem c_X5_digits_0_4 (l : Launch)  (dC : Nat → ClassId) (dI : Nat → Nat → Nat) (cI : ClassId) (g0 : Nat) (ps : Nat) (pk : Nat) (pa : Nat) (pb : Nat) (pq : Nat) (pw : Nat) (pt : Nat) (co : Int) (ru : Int) (we : Int) (wr : Int) (ty : Int) (tf : Nat → Int)  : Met l yX5_digits wsX5_digits ({ frames := 0, cells := 0, slots := 0, locals := 0 }) (zPr (dC, dI) [(cI, .int)] [.ref g0, .int (zi 0), .int (zi 4)] [(g0, .inr (5, [.int (zi co), .ref ps, .int (zi ru), .ref pk, .ref pa, .ref pb, .ref pq, .int (zi we), .int (zi wr), .ref pw, .int (zi ty), .ref pt])), (pt, aI cI 20 tf)]) (vp_Si (fun r => r = zi (((10 * (((10 * (((10 * ((0 + (tf (Int.toNat 0))) - 48)) + (tf (Int.toNat 1))) - 48)) + (tf (Int.toNat 2))) - 48)) + (tf (Int.toNat 3))) - 48))) 0 0 zN := by
  refine Met.ofW (cc := cX5_digits) (maxL := 5) (ret := (some .int)) (by decide) rfl ?_
  intro p e s m args below meth c s₁ B hml hv
  obtain ⟨rfl, hP, hK⟩ := hv
  have hx := B.exec
  have hb := B.bytes
  have hr := B.returns
  have hts := atoms_spec (ws := wsX5_digits) B.pre
  have hown : s.vm.findClass RX5 = some m.cls := findClass_of_methodNamed B.named
  have hlocks := B.notSynchronized
  have hl := lv_entry ([.ref g0, .int (zi 0), .int (zi 4)]) (n := 5) (Nat.le_of_ble_eq_true rfl)
  rw [lg_entry_eq]
  generalize (lg_sl ([.ref g0, .int (zi 0), .int (zi 4)]) ++ List.replicate (5 - (lg_sl ([.ref g0, .int (zi 0), .int (zi 4)])).length) Slot.unset).toArray = ls at hl ⊢
  have hl : lv_has ls 5 [(0, .ref g0), (1, .int (zi 0)), (2, .int (zi 4))] := hl
  refine zw_iconst hx hb dX5_digits_0 ?_
  refine lv_istore_n (lv' := [(3, .int (zi 0)), (0, .ref g0), (1, .int (zi 0)), (2, .int (zi 4))]) hx hb dX5_digits_1 rfl hl (by decide) rfl (fun ls hl => ?_)
  refine lv_iload_n hx hb dX5_digits_2 rfl (lv_at hl 2 rfl) ?_
  refine lv_istore (lv' := [(4, .int (zi 0)), (3, .int (zi 0)), (0, .ref g0), (1, .int (zi 0)), (2, .int (zi 4))]) hx hb dX5_digits_3 hl (by decide) rfl (fun ls hl => ?_)
  refine lv_iload hx hb dX5_digits_5 (lv_at hl 0 rfl) ?_
  refine lv_iload_n hx hb dX5_digits_7 rfl (lv_at hl 4 rfl) ?_
  refine zw_icmp_ge (tgt := 33) hx hb dX5_digits_8 (by decide) ⟨by omega, by omega⟩ ⟨by omega, by omega⟩ (fun h1 => ?_) (fun h1 => ?_)
  · skip
    exact absurd True.intro (by omega)
  · skip
    refine zw_bipush hx hb dX5_digits_11 (by decide) ?_
    refine lv_iload_n hx hb dX5_digits_13 rfl (lv_at hl 1 rfl) ?_
    refine zw_imul hx hb dX5_digits_14 ?_
    refine lv_aload_n hx hb dX5_digits_15 rfl (lv_at hl 2 rfl) ?_
    refine va_get (D := (dC, dI)) (ci := 5) (v := .ref pt) (C := RX5) (T := TX5) (N := 12) hx hb hts (by decide +kernel) hown hK hP 0 rfl rfl 11 (by decide) (hts (.fieldLink RX5 32 "CivilDaysModel" "typing" "[I") (by decide +kernel)) (fun _ h9 => h9) rfl dX5_digits_16 ?_
    refine lv_iload hx hb dX5_digits_19 (lv_at hl 0 rfl) ?_
    refine zw_iald hx hb hK hP 1 0 rfl rfl (by omega) (by omega) ⟨by omega, by omega⟩ dX5_digits_21 ?_
    refine zw_iadd hx hb dX5_digits_22 ?_
    refine zw_bipush hx hb dX5_digits_23 (by decide) ?_
    refine zw_isub hx hb dX5_digits_25 ?_
    refine zw_top (fun x2 ex2 => ?_)
    refine lv_istore_n (lv' := [(3, .int (zi x2)), (4, .int (zi 0)), (0, .ref g0), (1, .int (zi 0)), (2, .int (zi 4))]) hx hb dX5_digits_26 rfl hl (by decide) rfl (fun ls hl => ?_)
    refine zw_iinc (z := 1) (lv' := [(4, .int (zi 1)), (3, .int (zi x2)), (0, .ref g0), (1, .int (zi 0)), (2, .int (zi 4))]) (k := 1) hx hb (by decide) dX5_digits_27 hl rfl (by decide) rfl (fun ls hl => ?_)
    refine lv_goto (tgt := 5) hx hb dX5_digits_30 (by decide) ?_
    refine lv_iload hx hb dX5_digits_5 (lv_at hl 0 rfl) ?_
    refine lv_iload_n hx hb dX5_digits_7 rfl (lv_at hl 4 rfl) ?_
    refine zw_icmp_ge (tgt := 33) hx hb dX5_digits_8 (by decide) ⟨by omega, by omega⟩ ⟨by omega, by omega⟩ (fun h3 => ?_) (fun h3 => ?_)
    · skip
      exact absurd True.intro (by omega)
    · skip
      refine zw_bipush hx hb dX5_digits_11 (by decide) ?_
      refine lv_iload_n hx hb dX5_digits_13 rfl (lv_at hl 1 rfl) ?_
      refine zw_imul hx hb dX5_digits_14 ?_
      refine lv_aload_n hx hb dX5_digits_15 rfl (lv_at hl 2 rfl) ?_
      refine va_get (D := (dC, dI)) (ci := 5) (v := .ref pt) (C := RX5) (T := TX5) (N := 12) hx hb hts (by decide +kernel) hown hK hP 0 rfl rfl 11 (by decide) (hts (.fieldLink RX5 32 "CivilDaysModel" "typing" "[I") (by decide +kernel)) (fun _ h9 => h9) rfl dX5_digits_16 ?_
      refine lv_iload hx hb dX5_digits_19 (lv_at hl 0 rfl) ?_
      refine zw_iald hx hb hK hP 1 0 rfl rfl (by omega) (by omega) ⟨by omega, by omega⟩ dX5_digits_21 ?_
      refine zw_iadd hx hb dX5_digits_22 ?_
      refine zw_bipush hx hb dX5_digits_23 (by decide) ?_
      refine zw_isub hx hb dX5_digits_25 ?_
      refine zw_top (fun x4 ex4 => ?_)
      refine lv_istore_n (lv' := [(3, .int (zi x4)), (4, .int (zi 1)), (0, .ref g0), (1, .int (zi 0)), (2, .int (zi 4))]) hx hb dX5_digits_26 rfl hl (by decide) rfl (fun ls hl => ?_)
      refine zw_iinc (z := 2) (lv' := [(4, .int (zi 2)), (3, .int (zi x4)), (0, .ref g0), (1, .int (zi 0)), (2, .int (zi 4))]) (k := 1) hx hb (by decide) dX5_digits_27 hl rfl (by decide) rfl (fun ls hl => ?_)
      refine lv_goto (tgt := 5) hx hb dX5_digits_30 (by decide) ?_
      refine lv_iload hx hb dX5_digits_5 (lv_at hl 0 rfl) ?_
      refine lv_iload_n hx hb dX5_digits_7 rfl (lv_at hl 4 rfl) ?_
      refine zw_icmp_ge (tgt := 33) hx hb dX5_digits_8 (by decide) ⟨by omega, by omega⟩ ⟨by omega, by omega⟩ (fun h5 => ?_) (fun h5 => ?_)
      · skip
        exact absurd True.intro (by omega)
      · skip
        refine zw_bipush hx hb dX5_digits_11 (by decide) ?_
        refine lv_iload_n hx hb dX5_digits_13 rfl (lv_at hl 1 rfl) ?_
        refine zw_imul hx hb dX5_digits_14 ?_
        refine lv_aload_n hx hb dX5_digits_15 rfl (lv_at hl 2 rfl) ?_
        refine va_get (D := (dC, dI)) (ci := 5) (v := .ref pt) (C := RX5) (T := TX5) (N := 12) hx hb hts (by decide +kernel) hown hK hP 0 rfl rfl 11 (by decide) (hts (.fieldLink RX5 32 "CivilDaysModel" "typing" "[I") (by decide +kernel)) (fun _ h9 => h9) rfl dX5_digits_16 ?_
        refine lv_iload hx hb dX5_digits_19 (lv_at hl 0 rfl) ?_
        refine zw_iald hx hb hK hP 1 0 rfl rfl (by omega) (by omega) ⟨by omega, by omega⟩ dX5_digits_21 ?_
        refine zw_iadd hx hb dX5_digits_22 ?_
        refine zw_bipush hx hb dX5_digits_23 (by decide) ?_
        refine zw_isub hx hb dX5_digits_25 ?_
        refine zw_top (fun x6 ex6 => ?_)
        refine lv_istore_n (lv' := [(3, .int (zi x6)), (4, .int (zi 2)), (0, .ref g0), (1, .int (zi 0)), (2, .int (zi 4))]) hx hb dX5_digits_26 rfl hl (by decide) rfl (fun ls hl => ?_)
        refine zw_iinc (z := 3) (lv' := [(4, .int (zi 3)), (3, .int (zi x6)), (0, .ref g0), (1, .int (zi 0)), (2, .int (zi 4))]) (k := 1) hx hb (by decide) dX5_digits_27 hl rfl (by decide) rfl (fun ls hl => ?_)
        refine lv_goto (tgt := 5) hx hb dX5_digits_30 (by decide) ?_
        refine lv_iload hx hb dX5_digits_5 (lv_at hl 0 rfl) ?_
        refine lv_iload_n hx hb dX5_digits_7 rfl (lv_at hl 4 rfl) ?_
        refine zw_icmp_ge (tgt := 33) hx hb dX5_digits_8 (by decide) ⟨by omega, by omega⟩ ⟨by omega, by omega⟩ (fun h7 => ?_) (fun h7 => ?_)
        · skip
          exact absurd True.intro (by omega)
        · skip
          refine zw_bipush hx hb dX5_digits_11 (by decide) ?_
          refine lv_iload_n hx hb dX5_digits_13 rfl (lv_at hl 1 rfl) ?_
          refine zw_imul hx hb dX5_digits_14 ?_
          refine lv_aload_n hx hb dX5_digits_15 rfl (lv_at hl 2 rfl) ?_
          refine va_get (D := (dC, dI)) (ci := 5) (v := .ref pt) (C := RX5) (T := TX5) (N := 12) hx hb hts (by decide +kernel) hown hK hP 0 rfl rfl 11 (by decide) (hts (.fieldLink RX5 32 "CivilDaysModel" "typing" "[I") (by decide +kernel)) (fun _ h9 => h9) rfl dX5_digits_16 ?_
          refine lv_iload hx hb dX5_digits_19 (lv_at hl 0 rfl) ?_
          refine zw_iald hx hb hK hP 1 0 rfl rfl (by omega) (by omega) ⟨by omega, by omega⟩ dX5_digits_21 ?_
          refine zw_iadd hx hb dX5_digits_22 ?_
          refine zw_bipush hx hb dX5_digits_23 (by decide) ?_
          refine zw_isub hx hb dX5_digits_25 ?_
          refine zw_top (fun x8 ex8 => ?_)
          refine lv_istore_n (lv' := [(3, .int (zi x8)), (4, .int (zi 3)), (0, .ref g0), (1, .int (zi 0)), (2, .int (zi 4))]) hx hb dX5_digits_26 rfl hl (by decide) rfl (fun ls hl => ?_)
          refine zw_iinc (z := 4) (lv' := [(4, .int (zi 4)), (3, .int (zi x8)), (0, .ref g0), (1, .int (zi 0)), (2, .int (zi 4))]) (k := 1) hx hb (by decide) dX5_digits_27 hl rfl (by decide) rfl (fun ls hl => ?_)
          refine lv_goto (tgt := 5) hx hb dX5_digits_30 (by decide) ?_
          refine lv_iload hx hb dX5_digits_5 (lv_at hl 0 rfl) ?_
          refine lv_iload_n hx hb dX5_digits_7 rfl (lv_at hl 4 rfl) ?_
          refine zw_icmp_ge (tgt := 33) hx hb dX5_digits_8 (by decide) ⟨by omega, by omega⟩ ⟨by omega, by omega⟩ (fun h9 => ?_) (fun h9 => ?_)
          · skip
            refine lv_iload_n hx hb dX5_digits_33 rfl (lv_at hl 1 rfl) ?_
            subst ex2 ex4 ex6 ex8
            exact W.iret (v := zi (((10 * (((10 * (((10 * ((0 + (tf (Int.toNat 0))) - 48)) + (tf (Int.toNat 1))) - 48)) + (tf (Int.toNat 2))) - 48)) + (tf (Int.toNat 3))) - 48)) hx hb hr (fun t ht hW => ⟨zi (((10 * (((10 * (((10 * ((0 + (tf (Int.toNat 0))) - 48)) + (tf (Int.toNat 1))) - 48)) + (tf (Int.toNat 2))) - 48)) + (tf (Int.toNat 3))) - 48), rfl, rfl, ht⟩) (fun q h => by cases h) dX5_digits_34
          · skip
            exact absurd True.intro (by omega)

set_option maxHeartbeats 4000000 in
set_option maxRecDepth 100000 in
theorem c_X5_digits_5_7 (l : Launch)  (dC : Nat → ClassId) (dI : Nat → Nat → Nat) (cI : ClassId) (g0 : Nat) (ps : Nat) (pk : Nat) (pa : Nat) (pb : Nat) (pq : Nat) (pw : Nat) (pt : Nat) (co : Int) (ru : Int) (we : Int) (wr : Int) (ty : Int) (tf : Nat → Int)  : Met l yX5_digits wsX5_digits ({ frames := 0, cells := 0, slots := 0, locals := 0 }) (zPr (dC, dI) [(cI, .int)] [.ref g0, .int (zi 5), .int (zi 7)] [(g0, .inr (5, [.int (zi co), .ref ps, .int (zi ru), .ref pk, .ref pa, .ref pb, .ref pq, .int (zi we), .int (zi wr), .ref pw, .int (zi ty), .ref pt])), (pt, aI cI 20 tf)]) (vp_Si (fun r => r = zi (((10 * ((0 + (tf (Int.toNat 5))) - 48)) + (tf (Int.toNat 6))) - 48))) 0 0 zN := by
  refine Met.ofW (cc := cX5_digits) (maxL := 5) (ret := (some .int)) (by decide) rfl ?_
  intro p e s m args below meth c s₁ B hml hv
  obtain ⟨rfl, hP, hK⟩ := hv
  have hx := B.exec
  have hb := B.bytes
  have hr := B.returns
  have hts := atoms_spec (ws := wsX5_digits) B.pre
  have hown : s.vm.findClass RX5 = some m.cls := findClass_of_methodNamed B.named
  have hlocks := B.notSynchronized
  have hl := lv_entry ([.ref g0, .int (zi 5), .int (zi 7)]) (n := 5) (Nat.le_of_ble_eq_true rfl)
  rw [lg_entry_eq]
  generalize (lg_sl ([.ref g0, .int (zi 5), .int (zi 7)]) ++ List.replicate (5 - (lg_sl ([.ref g0, .int (zi 5), .int (zi 7)])).length) Slot.unset).toArray = ls at hl ⊢
  have hl : lv_has ls 5 [(0, .ref g0), (1, .int (zi 5)), (2, .int (zi 7))] := hl
  refine zw_iconst hx hb dX5_digits_0 ?_
  refine lv_istore_n (lv' := [(3, .int (zi 0)), (0, .ref g0), (1, .int (zi 5)), (2, .int (zi 7))]) hx hb dX5_digits_1 rfl hl (by decide) rfl (fun ls hl => ?_)
  refine lv_iload_n hx hb dX5_digits_2 rfl (lv_at hl 2 rfl) ?_
  refine lv_istore (lv' := [(4, .int (zi 5)), (3, .int (zi 0)), (0, .ref g0), (1, .int (zi 5)), (2, .int (zi 7))]) hx hb dX5_digits_3 hl (by decide) rfl (fun ls hl => ?_)
  refine lv_iload hx hb dX5_digits_5 (lv_at hl 0 rfl) ?_
  refine lv_iload_n hx hb dX5_digits_7 rfl (lv_at hl 4 rfl) ?_
  refine zw_icmp_ge (tgt := 33) hx hb dX5_digits_8 (by decide) ⟨by omega, by omega⟩ ⟨by omega, by omega⟩ (fun h1 => ?_) (fun h1 => ?_)
  · skip
    exact absurd True.intro (by omega)
  · skip
    refine zw_bipush hx hb dX5_digits_11 (by decide) ?_
    refine lv_iload_n hx hb dX5_digits_13 rfl (lv_at hl 1 rfl) ?_
    refine zw_imul hx hb dX5_digits_14 ?_
    refine lv_aload_n hx hb dX5_digits_15 rfl (lv_at hl 2 rfl) ?_
    refine va_get (D := (dC, dI)) (ci := 5) (v := .ref pt) (C := RX5) (T := TX5) (N := 12) hx hb hts (by decide +kernel) hown hK hP 0 rfl rfl 11 (by decide) (hts (.fieldLink RX5 32 "CivilDaysModel" "typing" "[I") (by decide +kernel)) (fun _ h9 => h9) rfl dX5_digits_16 ?_
    refine lv_iload hx hb dX5_digits_19 (lv_at hl 0 rfl) ?_
    refine zw_iald hx hb hK hP 1 0 rfl rfl (by omega) (by omega) ⟨by omega, by omega⟩ dX5_digits_21 ?_
    refine zw_iadd hx hb dX5_digits_22 ?_
    refine zw_bipush hx hb dX5_digits_23 (by decide) ?_
    refine zw_isub hx hb dX5_digits_25 ?_
    refine zw_top (fun x2 ex2 => ?_)
    refine lv_istore_n (lv' := [(3, .int (zi x2)), (4, .int (zi 5)), (0, .ref g0), (1, .int (zi 5)), (2, .int (zi 7))]) hx hb dX5_digits_26 rfl hl (by decide) rfl (fun ls hl => ?_)
    refine zw_iinc (z := 6) (lv' := [(4, .int (zi 6)), (3, .int (zi x2)), (0, .ref g0), (1, .int (zi 5)), (2, .int (zi 7))]) (k := 1) hx hb (by decide) dX5_digits_27 hl rfl (by decide) rfl (fun ls hl => ?_)
    refine lv_goto (tgt := 5) hx hb dX5_digits_30 (by decide) ?_
    refine lv_iload hx hb dX5_digits_5 (lv_at hl 0 rfl) ?_
    refine lv_iload_n hx hb dX5_digits_7 rfl (lv_at hl 4 rfl) ?_
    refine zw_icmp_ge (tgt := 33) hx hb dX5_digits_8 (by decide) ⟨by omega, by omega⟩ ⟨by omega, by omega⟩ (fun h3 => ?_) (fun h3 => ?_)
    · skip
      exact absurd True.intro (by omega)
    · skip
      refine zw_bipush hx hb dX5_digits_11 (by decide) ?_
      refine lv_iload_n hx hb dX5_digits_13 rfl (lv_at hl 1 rfl) ?_
      refine zw_imul hx hb dX5_digits_14 ?_
      refine lv_aload_n hx hb dX5_digits_15 rfl (lv_at hl 2 rfl) ?_
      refine va_get (D := (dC, dI)) (ci := 5) (v := .ref pt) (C := RX5) (T := TX5) (N := 12) hx hb hts (by decide +kernel) hown hK hP 0 rfl rfl 11 (by decide) (hts (.fieldLink RX5 32 "CivilDaysModel" "typing" "[I") (by decide +kernel)) (fun _ h9 => h9) rfl dX5_digits_16 ?_
      refine lv_iload hx hb dX5_digits_19 (lv_at hl 0 rfl) ?_
      refine zw_iald hx hb hK hP 1 0 rfl rfl (by omega) (by omega) ⟨by omega, by omega⟩ dX5_digits_21 ?_
      refine zw_iadd hx hb dX5_digits_22 ?_
      refine zw_bipush hx hb dX5_digits_23 (by decide) ?_
      refine zw_isub hx hb dX5_digits_25 ?_
      refine zw_top (fun x4 ex4 => ?_)
      refine lv_istore_n (lv' := [(3, .int (zi x4)), (4, .int (zi 6)), (0, .ref g0), (1, .int (zi 5)), (2, .int (zi 7))]) hx hb dX5_digits_26 rfl hl (by decide) rfl (fun ls hl => ?_)
      refine zw_iinc (z := 7) (lv' := [(4, .int (zi 7)), (3, .int (zi x4)), (0, .ref g0), (1, .int (zi 5)), (2, .int (zi 7))]) (k := 1) hx hb (by decide) dX5_digits_27 hl rfl (by decide) rfl (fun ls hl => ?_)
      refine lv_goto (tgt := 5) hx hb dX5_digits_30 (by decide) ?_
      refine lv_iload hx hb dX5_digits_5 (lv_at hl 0 rfl) ?_
      refine lv_iload_n hx hb dX5_digits_7 rfl (lv_at hl 4 rfl) ?_
      refine zw_icmp_ge (tgt := 33) hx hb dX5_digits_8 (by decide) ⟨by omega, by omega⟩ ⟨by omega, by omega⟩ (fun h5 => ?_) (fun h5 => ?_)
      · skip
        refine lv_iload_n hx hb dX5_digits_33 rfl (lv_at hl 1 rfl) ?_
        subst ex2 ex4
        exact W.iret (v := zi (((10 * ((0 + (tf (Int.toNat 5))) - 48)) + (tf (Int.toNat 6))) - 48)) hx hb hr (fun t ht hW => ⟨zi (((10 * ((0 + (tf (Int.toNat 5))) - 48)) + (tf (Int.toNat 6))) - 48), rfl, rfl, ht⟩) (fun q h => by cases h) dX5_digits_34
      · skip
        exact absurd True.intro (by omega)

set_option maxHeartbeats 4000000 in
set_option maxRecDepth 100000 in
theorem c_X5_digits_8_10 (l : Launch)  (dC : Nat → ClassId) (dI : Nat → Nat → Nat) (cI : ClassId) (g0 : Nat) (ps : Nat) (pk : Nat) (pa : Nat) (pb : Nat) (pq : Nat) (pw : Nat) (pt : Nat) (co : Int) (ru : Int) (we : Int) (wr : Int) (ty : Int) (tf : Nat → Int)  : Met l yX5_digits wsX5_digits ({ frames := 0, cells := 0, slots := 0, locals := 0 }) (zPr (dC, dI) [(cI, .int)] [.ref g0, .int (zi 8), .int (zi 10)] [(g0, .inr (5, [.int (zi co), .ref ps, .int (zi ru), .ref pk, .ref pa, .ref pb, .ref pq, .int (zi we), .int (zi wr), .ref pw, .int (zi ty), .ref pt])), (pt, aI cI 20 tf)]) (vp_Si (fun r => r = zi (((10 * ((0 + (tf (Int.toNat 8))) - 48)) + (tf (Int.toNat 9))) - 48))) 0 0 zN := by
  refine Met.ofW (cc := cX5_digits) (maxL := 5) (ret := (some .int)) (by decide) rfl ?_
  intro p e s m args below meth c s₁ B hml hv
  obtain ⟨rfl, hP, hK⟩ := hv
  have hx := B.exec
  have hb := B.bytes
  have hr := B.returns
  have hts := atoms_spec (ws := wsX5_digits) B.pre
  have hown : s.vm.findClass RX5 = some m.cls := findClass_of_methodNamed B.named
  have hlocks := B.notSynchronized
  have hl := lv_entry ([.ref g0, .int (zi 8), .int (zi 10)]) (n := 5) (Nat.le_of_ble_eq_true rfl)
  rw [lg_entry_eq]
  generalize (lg_sl ([.ref g0, .int (zi 8), .int (zi 10)]) ++ List.replicate (5 - (lg_sl ([.ref g0, .int (zi 8), .int (zi 10)])).length) Slot.unset).toArray = ls at hl ⊢
  have hl : lv_has ls 5 [(0, .ref g0), (1, .int (zi 8)), (2, .int (zi 10))] := hl
  refine zw_iconst hx hb dX5_digits_0 ?_
  refine lv_istore_n (lv' := [(3, .int (zi 0)), (0, .ref g0), (1, .int (zi 8)), (2, .int (zi 10))]) hx hb dX5_digits_1 rfl hl (by decide) rfl (fun ls hl => ?_)
  refine lv_iload_n hx hb dX5_digits_2 rfl (lv_at hl 2 rfl) ?_
  refine lv_istore (lv' := [(4, .int (zi 8)), (3, .int (zi 0)), (0, .ref g0), (1, .int (zi 8)), (2, .int (zi 10))]) hx hb dX5_digits_3 hl (by decide) rfl (fun ls hl => ?_)
  refine lv_iload hx hb dX5_digits_5 (lv_at hl 0 rfl) ?_
  refine lv_iload_n hx hb dX5_digits_7 rfl (lv_at hl 4 rfl) ?_
  refine zw_icmp_ge (tgt := 33) hx hb dX5_digits_8 (by decide) ⟨by omega, by omega⟩ ⟨by omega, by omega⟩ (fun h1 => ?_) (fun h1 => ?_)
  · skip
    exact absurd True.intro (by omega)
  · skip
    refine zw_bipush hx hb dX5_digits_11 (by decide) ?_
    refine lv_iload_n hx hb dX5_digits_13 rfl (lv_at hl 1 rfl) ?_
    refine zw_imul hx hb dX5_digits_14 ?_
    refine lv_aload_n hx hb dX5_digits_15 rfl (lv_at hl 2 rfl) ?_
    refine va_get (D := (dC, dI)) (ci := 5) (v := .ref pt) (C := RX5) (T := TX5) (N := 12) hx hb hts (by decide +kernel) hown hK hP 0 rfl rfl 11 (by decide) (hts (.fieldLink RX5 32 "CivilDaysModel" "typing" "[I") (by decide +kernel)) (fun _ h9 => h9) rfl dX5_digits_16 ?_
    refine lv_iload hx hb dX5_digits_19 (lv_at hl 0 rfl) ?_
    refine zw_iald hx hb hK hP 1 0 rfl rfl (by omega) (by omega) ⟨by omega, by omega⟩ dX5_digits_21 ?_
    refine zw_iadd hx hb dX5_digits_22 ?_
    refine zw_bipush hx hb dX5_digits_23 (by decide) ?_
    refine zw_isub hx hb dX5_digits_25 ?_
    refine zw_top (fun x2 ex2 => ?_)
    refine lv_istore_n (lv' := [(3, .int (zi x2)), (4, .int (zi 8)), (0, .ref g0), (1, .int (zi 8)), (2, .int (zi 10))]) hx hb dX5_digits_26 rfl hl (by decide) rfl (fun ls hl => ?_)
    refine zw_iinc (z := 9) (lv' := [(4, .int (zi 9)), (3, .int (zi x2)), (0, .ref g0), (1, .int (zi 8)), (2, .int (zi 10))]) (k := 1) hx hb (by decide) dX5_digits_27 hl rfl (by decide) rfl (fun ls hl => ?_)
    refine lv_goto (tgt := 5) hx hb dX5_digits_30 (by decide) ?_
    refine lv_iload hx hb dX5_digits_5 (lv_at hl 0 rfl) ?_
    refine lv_iload_n hx hb dX5_digits_7 rfl (lv_at hl 4 rfl) ?_
    refine zw_icmp_ge (tgt := 33) hx hb dX5_digits_8 (by decide) ⟨by omega, by omega⟩ ⟨by omega, by omega⟩ (fun h3 => ?_) (fun h3 => ?_)
    · skip
      exact absurd True.intro (by omega)
    · skip
      refine zw_bipush hx hb dX5_digits_11 (by decide) ?_
      refine lv_iload_n hx hb dX5_digits_13 rfl (lv_at hl 1 rfl) ?_
      refine zw_imul hx hb dX5_digits_14 ?_
      refine lv_aload_n hx hb dX5_digits_15 rfl (lv_at hl 2 rfl) ?_
      refine va_get (D := (dC, dI)) (ci := 5) (v := .ref pt) (C := RX5) (T := TX5) (N := 12) hx hb hts (by decide +kernel) hown hK hP 0 rfl rfl 11 (by decide) (hts (.fieldLink RX5 32 "CivilDaysModel" "typing" "[I") (by decide +kernel)) (fun _ h9 => h9) rfl dX5_digits_16 ?_
      refine lv_iload hx hb dX5_digits_19 (lv_at hl 0 rfl) ?_
      refine zw_iald hx hb hK hP 1 0 rfl rfl (by omega) (by omega) ⟨by omega, by omega⟩ dX5_digits_21 ?_
      refine zw_iadd hx hb dX5_digits_22 ?_
      refine zw_bipush hx hb dX5_digits_23 (by decide) ?_
      refine zw_isub hx hb dX5_digits_25 ?_
      refine zw_top (fun x4 ex4 => ?_)
      refine lv_istore_n (lv' := [(3, .int (zi x4)), (4, .int (zi 9)), (0, .ref g0), (1, .int (zi 8)), (2, .int (zi 10))]) hx hb dX5_digits_26 rfl hl (by decide) rfl (fun ls hl => ?_)
      refine zw_iinc (z := 10) (lv' := [(4, .int (zi 10)), (3, .int (zi x4)), (0, .ref g0), (1, .int (zi 8)), (2, .int (zi 10))]) (k := 1) hx hb (by decide) dX5_digits_27 hl rfl (by decide) rfl (fun ls hl => ?_)
      refine lv_goto (tgt := 5) hx hb dX5_digits_30 (by decide) ?_
      refine lv_iload hx hb dX5_digits_5 (lv_at hl 0 rfl) ?_
      refine lv_iload_n hx hb dX5_digits_7 rfl (lv_at hl 4 rfl) ?_
      refine zw_icmp_ge (tgt := 33) hx hb dX5_digits_8 (by decide) ⟨by omega, by omega⟩ ⟨by omega, by omega⟩ (fun h5 => ?_) (fun h5 => ?_)
      · skip
        refine lv_iload_n hx hb dX5_digits_33 rfl (lv_at hl 1 rfl) ?_
        subst ex2 ex4
        exact W.iret (v := zi (((10 * ((0 + (tf (Int.toNat 8))) - 48)) + (tf (Int.toNat 9))) - 48)) hx hb hr (fun t ht hW => ⟨zi (((10 * ((0 + (tf (Int.toNat 8))) - 48)) + (tf (Int.toNat 9))) - 48), rfl, rfl, ht⟩) (fun q h => by cases h) dX5_digits_34
      · skip
        exact absurd True.intro (by omega)

set_option maxHeartbeats 4000000 in
set_option maxRecDepth 100000 in
theorem c_X5_digits_6_8 (l : Launch)  (dC : Nat → ClassId) (dI : Nat → Nat → Nat) (cI : ClassId) (g0 : Nat) (ps : Nat) (pk : Nat) (pa : Nat) (pb : Nat) (pq : Nat) (pw : Nat) (pt : Nat) (co : Int) (ru : Int) (we : Int) (wr : Int) (ty : Int) (tf : Nat → Int)  : Met l yX5_digits wsX5_digits ({ frames := 0, cells := 0, slots := 0, locals := 0 }) (zPr (dC, dI) [(cI, .int)] [.ref g0, .int (zi 6), .int (zi 8)] [(g0, .inr (5, [.int (zi co), .ref ps, .int (zi ru), .ref pk, .ref pa, .ref pb, .ref pq, .int (zi we), .int (zi wr), .ref pw, .int (zi ty), .ref pt])), (pt, aI cI 20 tf)]) (vp_Si (fun r => r = zi (((10 * ((0 + (tf (Int.toNat 6))) - 48)) + (tf (Int.toNat 7))) - 48))) 0 0 zN := by
  refine Met.ofW (cc := cX5_digits) (maxL := 5) (ret := (some .int)) (by decide) rfl ?_
  intro p e s m args below meth c s₁ B hml hv
  obtain ⟨rfl, hP, hK⟩ := hv
  have hx := B.exec
  have hb := B.bytes
  have hr := B.returns
  have hts := atoms_spec (ws := wsX5_digits) B.pre
  have hown : s.vm.findClass RX5 = some m.cls := findClass_of_methodNamed B.named
  have hlocks := B.notSynchronized
  have hl := lv_entry ([.ref g0, .int (zi 6), .int (zi 8)]) (n := 5) (Nat.le_of_ble_eq_true rfl)
  rw [lg_entry_eq]
  generalize (lg_sl ([.ref g0, .int (zi 6), .int (zi 8)]) ++ List.replicate (5 - (lg_sl ([.ref g0, .int (zi 6), .int (zi 8)])).length) Slot.unset).toArray = ls at hl ⊢
  have hl : lv_has ls 5 [(0, .ref g0), (1, .int (zi 6)), (2, .int (zi 8))] := hl
  refine zw_iconst hx hb dX5_digits_0 ?_
  refine lv_istore_n (lv' := [(3, .int (zi 0)), (0, .ref g0), (1, .int (zi 6)), (2, .int (zi 8))]) hx hb dX5_digits_1 rfl hl (by decide) rfl (fun ls hl => ?_)
  refine lv_iload_n hx hb dX5_digits_2 rfl (lv_at hl 2 rfl) ?_
  refine lv_istore (lv' := [(4, .int (zi 6)), (3, .int (zi 0)), (0, .ref g0), (1, .int (zi 6)), (2, .int (zi 8))]) hx hb dX5_digits_3 hl (by decide) rfl (fun ls hl => ?_)
  refine lv_iload hx hb dX5_digits_5 (lv_at hl 0 rfl) ?_
  refine lv_iload_n hx hb dX5_digits_7 rfl (lv_at hl 4 rfl) ?_
  refine zw_icmp_ge (tgt := 33) hx hb dX5_digits_8 (by decide) ⟨by omega, by omega⟩ ⟨by omega, by omega⟩ (fun h1 => ?_) (fun h1 => ?_)
  · skip
    exact absurd True.intro (by omega)
  · skip
    refine zw_bipush hx hb dX5_digits_11 (by decide) ?_
    refine lv_iload_n hx hb dX5_digits_13 rfl (lv_at hl 1 rfl) ?_
    refine zw_imul hx hb dX5_digits_14 ?_
    refine lv_aload_n hx hb dX5_digits_15 rfl (lv_at hl 2 rfl) ?_
    refine va_get (D := (dC, dI)) (ci := 5) (v := .ref pt) (C := RX5) (T := TX5) (N := 12) hx hb hts (by decide +kernel) hown hK hP 0 rfl rfl 11 (by decide) (hts (.fieldLink RX5 32 "CivilDaysModel" "typing" "[I") (by decide +kernel)) (fun _ h9 => h9) rfl dX5_digits_16 ?_
    refine lv_iload hx hb dX5_digits_19 (lv_at hl 0 rfl) ?_
    refine zw_iald hx hb hK hP 1 0 rfl rfl (by omega) (by omega) ⟨by omega, by omega⟩ dX5_digits_21 ?_
    refine zw_iadd hx hb dX5_digits_22 ?_
    refine zw_bipush hx hb dX5_digits_23 (by decide) ?_
    refine zw_isub hx hb dX5_digits_25 ?_
    refine zw_top (fun x2 ex2 => ?_)
    refine lv_istore_n (lv' := [(3, .int (zi x2)), (4, .int (zi 6)), (0, .ref g0), (1, .int (zi 6)), (2, .int (zi 8))]) hx hb dX5_digits_26 rfl hl (by decide) rfl (fun ls hl => ?_)
    refine zw_iinc (z := 7) (lv' := [(4, .int (zi 7)), (3, .int (zi x2)), (0, .ref g0), (1, .int (zi 6)), (2, .int (zi 8))]) (k := 1) hx hb (by decide) dX5_digits_27 hl rfl (by decide) rfl (fun ls hl => ?_)
    refine lv_goto (tgt := 5) hx hb dX5_digits_30 (by decide) ?_
    refine lv_iload hx hb dX5_digits_5 (lv_at hl 0 rfl) ?_
    refine lv_iload_n hx hb dX5_digits_7 rfl (lv_at hl 4 rfl) ?_
    refine zw_icmp_ge (tgt := 33) hx hb dX5_digits_8 (by decide) ⟨by omega, by omega⟩ ⟨by omega, by omega⟩ (fun h3 => ?_) (fun h3 => ?_)
    · skip
      exact absurd True.intro (by omega)
    · skip
      refine zw_bipush hx hb dX5_digits_11 (by decide) ?_
      refine lv_iload_n hx hb dX5_digits_13 rfl (lv_at hl 1 rfl) ?_
      refine zw_imul hx hb dX5_digits_14 ?_
      refine lv_aload_n hx hb dX5_digits_15 rfl (lv_at hl 2 rfl) ?_
      refine va_get (D := (dC, dI)) (ci := 5) (v := .ref pt) (C := RX5) (T := TX5) (N := 12) hx hb hts (by decide +kernel) hown hK hP 0 rfl rfl 11 (by decide) (hts (.fieldLink RX5 32 "CivilDaysModel" "typing" "[I") (by decide +kernel)) (fun _ h9 => h9) rfl dX5_digits_16 ?_
      refine lv_iload hx hb dX5_digits_19 (lv_at hl 0 rfl) ?_
      refine zw_iald hx hb hK hP 1 0 rfl rfl (by omega) (by omega) ⟨by omega, by omega⟩ dX5_digits_21 ?_
      refine zw_iadd hx hb dX5_digits_22 ?_
      refine zw_bipush hx hb dX5_digits_23 (by decide) ?_
      refine zw_isub hx hb dX5_digits_25 ?_
      refine zw_top (fun x4 ex4 => ?_)
      refine lv_istore_n (lv' := [(3, .int (zi x4)), (4, .int (zi 7)), (0, .ref g0), (1, .int (zi 6)), (2, .int (zi 8))]) hx hb dX5_digits_26 rfl hl (by decide) rfl (fun ls hl => ?_)
      refine zw_iinc (z := 8) (lv' := [(4, .int (zi 8)), (3, .int (zi x4)), (0, .ref g0), (1, .int (zi 6)), (2, .int (zi 8))]) (k := 1) hx hb (by decide) dX5_digits_27 hl rfl (by decide) rfl (fun ls hl => ?_)
      refine lv_goto (tgt := 5) hx hb dX5_digits_30 (by decide) ?_
      refine lv_iload hx hb dX5_digits_5 (lv_at hl 0 rfl) ?_
      refine lv_iload_n hx hb dX5_digits_7 rfl (lv_at hl 4 rfl) ?_
      refine zw_icmp_ge (tgt := 33) hx hb dX5_digits_8 (by decide) ⟨by omega, by omega⟩ ⟨by omega, by omega⟩ (fun h5 => ?_) (fun h5 => ?_)
      · skip
        refine lv_iload_n hx hb dX5_digits_33 rfl (lv_at hl 1 rfl) ?_
        subst ex2 ex4
        exact W.iret (v := zi (((10 * ((0 + (tf (Int.toNat 6))) - 48)) + (tf (Int.toNat 7))) - 48)) hx hb hr (fun t ht hW => ⟨zi (((10 * ((0 + (tf (Int.toNat 6))) - 48)) + (tf (Int.toNat 7))) - 48), rfl, rfl, ht⟩) (fun q h => by cases h) dX5_digits_34
      · skip
        exact absurd True.intro (by omega)

set_option maxHeartbeats 4000000 in
set_option maxRecDepth 100000 in
theorem c_X5_digits_9_10 (l : Launch)  (dC : Nat → ClassId) (dI : Nat → Nat → Nat) (cI : ClassId) (g0 : Nat) (ps : Nat) (pk : Nat) (pa : Nat) (pb : Nat) (pq : Nat) (pw : Nat) (pt : Nat) (co : Int) (ru : Int) (we : Int) (wr : Int) (ty : Int) (tf : Nat → Int)  : Met l yX5_digits wsX5_digits ({ frames := 0, cells := 0, slots := 0, locals := 0 }) (zPr (dC, dI) [(cI, .int)] [.ref g0, .int (zi 9), .int (zi 10)] [(g0, .inr (5, [.int (zi co), .ref ps, .int (zi ru), .ref pk, .ref pa, .ref pb, .ref pq, .int (zi we), .int (zi wr), .ref pw, .int (zi ty), .ref pt])), (pt, aI cI 20 tf)]) (vp_Si (fun r => r = zi ((0 + (tf (Int.toNat 9))) - 48))) 0 0 zN := by
  refine Met.ofW (cc := cX5_digits) (maxL := 5) (ret := (some .int)) (by decide) rfl ?_
  intro p e s m args below meth c s₁ B hml hv
  obtain ⟨rfl, hP, hK⟩ := hv
  have hx := B.exec
  have hb := B.bytes
  have hr := B.returns
  have hts := atoms_spec (ws := wsX5_digits) B.pre
  have hown : s.vm.findClass RX5 = some m.cls := findClass_of_methodNamed B.named
  have hlocks := B.notSynchronized
  have hl := lv_entry ([.ref g0, .int (zi 9), .int (zi 10)]) (n := 5) (Nat.le_of_ble_eq_true rfl)
  rw [lg_entry_eq]
  generalize (lg_sl ([.ref g0, .int (zi 9), .int (zi 10)]) ++ List.replicate (5 - (lg_sl ([.ref g0, .int (zi 9), .int (zi 10)])).length) Slot.unset).toArray = ls at hl ⊢
  have hl : lv_has ls 5 [(0, .ref g0), (1, .int (zi 9)), (2, .int (zi 10))] := hl
  refine zw_iconst hx hb dX5_digits_0 ?_
  refine lv_istore_n (lv' := [(3, .int (zi 0)), (0, .ref g0), (1, .int (zi 9)), (2, .int (zi 10))]) hx hb dX5_digits_1 rfl hl (by decide) rfl (fun ls hl => ?_)
  refine lv_iload_n hx hb dX5_digits_2 rfl (lv_at hl 2 rfl) ?_
  refine lv_istore (lv' := [(4, .int (zi 9)), (3, .int (zi 0)), (0, .ref g0), (1, .int (zi 9)), (2, .int (zi 10))]) hx hb dX5_digits_3 hl (by decide) rfl (fun ls hl => ?_)
  refine lv_iload hx hb dX5_digits_5 (lv_at hl 0 rfl) ?_
  refine lv_iload_n hx hb dX5_digits_7 rfl (lv_at hl 4 rfl) ?_
  refine zw_icmp_ge (tgt := 33) hx hb dX5_digits_8 (by decide) ⟨by omega, by omega⟩ ⟨by omega, by omega⟩ (fun h1 => ?_) (fun h1 => ?_)
  · skip
    exact absurd True.intro (by omega)
  · skip
    refine zw_bipush hx hb dX5_digits_11 (by decide) ?_
    refine lv_iload_n hx hb dX5_digits_13 rfl (lv_at hl 1 rfl) ?_
    refine zw_imul hx hb dX5_digits_14 ?_
    refine lv_aload_n hx hb dX5_digits_15 rfl (lv_at hl 2 rfl) ?_
    refine va_get (D := (dC, dI)) (ci := 5) (v := .ref pt) (C := RX5) (T := TX5) (N := 12) hx hb hts (by decide +kernel) hown hK hP 0 rfl rfl 11 (by decide) (hts (.fieldLink RX5 32 "CivilDaysModel" "typing" "[I") (by decide +kernel)) (fun _ h9 => h9) rfl dX5_digits_16 ?_
    refine lv_iload hx hb dX5_digits_19 (lv_at hl 0 rfl) ?_
    refine zw_iald hx hb hK hP 1 0 rfl rfl (by omega) (by omega) ⟨by omega, by omega⟩ dX5_digits_21 ?_
    refine zw_iadd hx hb dX5_digits_22 ?_
    refine zw_bipush hx hb dX5_digits_23 (by decide) ?_
    refine zw_isub hx hb dX5_digits_25 ?_
    refine zw_top (fun x2 ex2 => ?_)
    refine lv_istore_n (lv' := [(3, .int (zi x2)), (4, .int (zi 9)), (0, .ref g0), (1, .int (zi 9)), (2, .int (zi 10))]) hx hb dX5_digits_26 rfl hl (by decide) rfl (fun ls hl => ?_)
    refine zw_iinc (z := 10) (lv' := [(4, .int (zi 10)), (3, .int (zi x2)), (0, .ref g0), (1, .int (zi 9)), (2, .int (zi 10))]) (k := 1) hx hb (by decide) dX5_digits_27 hl rfl (by decide) rfl (fun ls hl => ?_)
    refine lv_goto (tgt := 5) hx hb dX5_digits_30 (by decide) ?_
    refine lv_iload hx hb dX5_digits_5 (lv_at hl 0 rfl) ?_
    refine lv_iload_n hx hb dX5_digits_7 rfl (lv_at hl 4 rfl) ?_
    refine zw_icmp_ge (tgt := 33) hx hb dX5_digits_8 (by decide) ⟨by omega, by omega⟩ ⟨by omega, by omega⟩ (fun h3 => ?_) (fun h3 => ?_)
    · skip
      refine lv_iload_n hx hb dX5_digits_33 rfl (lv_at hl 1 rfl) ?_
      subst ex2
      exact W.iret (v := zi ((0 + (tf (Int.toNat 9))) - 48)) hx hb hr (fun t ht hW => ⟨zi ((0 + (tf (Int.toNat 9))) - 48), rfl, rfl, ht⟩) (fun q h => by cases h) dX5_digits_34
    · skip
      exact absurd True.intro (by omega)

set_option maxHeartbeats 4000000 in
set_option maxRecDepth 100000 in
theorem c_X5_digits_5_8 (l : Launch)  (dC : Nat → ClassId) (dI : Nat → Nat → Nat) (cI : ClassId) (g0 : Nat) (ps : Nat) (pk : Nat) (pa : Nat) (pb : Nat) (pq : Nat) (pw : Nat) (pt : Nat) (co : Int) (ru : Int) (we : Int) (wr : Int) (ty : Int) (tf : Nat → Int)  : Met l yX5_digits wsX5_digits ({ frames := 0, cells := 0, slots := 0, locals := 0 }) (zPr (dC, dI) [(cI, .int)] [.ref g0, .int (zi 5), .int (zi 8)] [(g0, .inr (5, [.int (zi co), .ref ps, .int (zi ru), .ref pk, .ref pa, .ref pb, .ref pq, .int (zi we), .int (zi wr), .ref pw, .int (zi ty), .ref pt])), (pt, aI cI 20 tf)]) (vp_Si (fun r => r = zi (((10 * (((10 * ((0 + (tf (Int.toNat 5))) - 48)) + (tf (Int.toNat 6))) - 48)) + (tf (Int.toNat 7))) - 48))) 0 0 zN := by
  refine Met.ofW (cc := cX5_digits) (maxL := 5) (ret := (some .int)) (by decide) rfl ?_
  intro p e s m args below meth c s₁ B hml hv
  obtain ⟨rfl, hP, hK⟩ := hv
  have hx := B.exec
  have hb := B.bytes
  have hr := B.returns
  have hts := atoms_spec (ws := wsX5_digits) B.pre
  have hown : s.vm.findClass RX5 = some m.cls := findClass_of_methodNamed B.named
  have hlocks := B.notSynchronized
  have hl := lv_entry ([.ref g0, .int (zi 5), .int (zi 8)]) (n := 5) (Nat.le_of_ble_eq_true rfl)
  rw [lg_entry_eq]
  generalize (lg_sl ([.ref g0, .int (zi 5), .int (zi 8)]) ++ List.replicate (5 - (lg_sl ([.ref g0, .int (zi 5), .int (zi 8)])).length) Slot.unset).toArray = ls at hl ⊢
  have hl : lv_has ls 5 [(0, .ref g0), (1, .int (zi 5)), (2, .int (zi 8))] := hl
  refine zw_iconst hx hb dX5_digits_0 ?_
  refine lv_istore_n (lv' := [(3, .int (zi 0)), (0, .ref g0), (1, .int (zi 5)), (2, .int (zi 8))]) hx hb dX5_digits_1 rfl hl (by decide) rfl (fun ls hl => ?_)
  refine lv_iload_n hx hb dX5_digits_2 rfl (lv_at hl 2 rfl) ?_
  refine lv_istore (lv' := [(4, .int (zi 5)), (3, .int (zi 0)), (0, .ref g0), (1, .int (zi 5)), (2, .int (zi 8))]) hx hb dX5_digits_3 hl (by decide) rfl (fun ls hl => ?_)
  refine lv_iload hx hb dX5_digits_5 (lv_at hl 0 rfl) ?_
  refine lv_iload_n hx hb dX5_digits_7 rfl (lv_at hl 4 rfl) ?_
  refine zw_icmp_ge (tgt := 33) hx hb dX5_digits_8 (by decide) ⟨by omega, by omega⟩ ⟨by omega, by omega⟩ (fun h1 => ?_) (fun h1 => ?_)
  · skip
    exact absurd True.intro (by omega)
  · skip
    refine zw_bipush hx hb dX5_digits_11 (by decide) ?_
    refine lv_iload_n hx hb dX5_digits_13 rfl (lv_at hl 1 rfl) ?_
    refine zw_imul hx hb dX5_digits_14 ?_
    refine lv_aload_n hx hb dX5_digits_15 rfl (lv_at hl 2 rfl) ?_
    refine va_get (D := (dC, dI)) (ci := 5) (v := .ref pt) (C := RX5) (T := TX5) (N := 12) hx hb hts (by decide +kernel) hown hK hP 0 rfl rfl 11 (by decide) (hts (.fieldLink RX5 32 "CivilDaysModel" "typing" "[I") (by decide +kernel)) (fun _ h9 => h9) rfl dX5_digits_16 ?_
    refine lv_iload hx hb dX5_digits_19 (lv_at hl 0 rfl) ?_
    refine zw_iald hx hb hK hP 1 0 rfl rfl (by omega) (by omega) ⟨by omega, by omega⟩ dX5_digits_21 ?_
    refine zw_iadd hx hb dX5_digits_22 ?_
    refine zw_bipush hx hb dX5_digits_23 (by decide) ?_
    refine zw_isub hx hb dX5_digits_25 ?_
    refine zw_top (fun x2 ex2 => ?_)
    refine lv_istore_n (lv' := [(3, .int (zi x2)), (4, .int (zi 5)), (0, .ref g0), (1, .int (zi 5)), (2, .int (zi 8))]) hx hb dX5_digits_26 rfl hl (by decide) rfl (fun ls hl => ?_)
    refine zw_iinc (z := 6) (lv' := [(4, .int (zi 6)), (3, .int (zi x2)), (0, .ref g0), (1, .int (zi 5)), (2, .int (zi 8))]) (k := 1) hx hb (by decide) dX5_digits_27 hl rfl (by decide) rfl (fun ls hl => ?_)
    refine lv_goto (tgt := 5) hx hb dX5_digits_30 (by decide) ?_
    refine lv_iload hx hb dX5_digits_5 (lv_at hl 0 rfl) ?_
    refine lv_iload_n hx hb dX5_digits_7 rfl (lv_at hl 4 rfl) ?_
    refine zw_icmp_ge (tgt := 33) hx hb dX5_digits_8 (by decide) ⟨by omega, by omega⟩ ⟨by omega, by omega⟩ (fun h3 => ?_) (fun h3 => ?_)
    · skip
      exact absurd True.intro (by omega)
    · skip
      refine zw_bipush hx hb dX5_digits_11 (by decide) ?_
      refine lv_iload_n hx hb dX5_digits_13 rfl (lv_at hl 1 rfl) ?_
      refine zw_imul hx hb dX5_digits_14 ?_
      refine lv_aload_n hx hb dX5_digits_15 rfl (lv_at hl 2 rfl) ?_
      refine va_get (D := (dC, dI)) (ci := 5) (v := .ref pt) (C := RX5) (T := TX5) (N := 12) hx hb hts (by decide +kernel) hown hK hP 0 rfl rfl 11 (by decide) (hts (.fieldLink RX5 32 "CivilDaysModel" "typing" "[I") (by decide +kernel)) (fun _ h9 => h9) rfl dX5_digits_16 ?_
      refine lv_iload hx hb dX5_digits_19 (lv_at hl 0 rfl) ?_
      refine zw_iald hx hb hK hP 1 0 rfl rfl (by omega) (by omega) ⟨by omega, by omega⟩ dX5_digits_21 ?_
      refine zw_iadd hx hb dX5_digits_22 ?_
      refine zw_bipush hx hb dX5_digits_23 (by decide) ?_
      refine zw_isub hx hb dX5_digits_25 ?_
      refine zw_top (fun x4 ex4 => ?_)
      refine lv_istore_n (lv' := [(3, .int (zi x4)), (4, .int (zi 6)), (0, .ref g0), (1, .int (zi 5)), (2, .int (zi 8))]) hx hb dX5_digits_26 rfl hl (by decide) rfl (fun ls hl => ?_)
      refine zw_iinc (z := 7) (lv' := [(4, .int (zi 7)), (3, .int (zi x4)), (0, .ref g0), (1, .int (zi 5)), (2, .int (zi 8))]) (k := 1) hx hb (by decide) dX5_digits_27 hl rfl (by decide) rfl (fun ls hl => ?_)
      refine lv_goto (tgt := 5) hx hb dX5_digits_30 (by decide) ?_
      refine lv_iload hx hb dX5_digits_5 (lv_at hl 0 rfl) ?_
      refine lv_iload_n hx hb dX5_digits_7 rfl (lv_at hl 4 rfl) ?_
      refine zw_icmp_ge (tgt := 33) hx hb dX5_digits_8 (by decide) ⟨by omega, by omega⟩ ⟨by omega, by omega⟩ (fun h5 => ?_) (fun h5 => ?_)
      · skip
        exact absurd True.intro (by omega)
      · skip
        refine zw_bipush hx hb dX5_digits_11 (by decide) ?_
        refine lv_iload_n hx hb dX5_digits_13 rfl (lv_at hl 1 rfl) ?_
        refine zw_imul hx hb dX5_digits_14 ?_
        refine lv_aload_n hx hb dX5_digits_15 rfl (lv_at hl 2 rfl) ?_
        refine va_get (D := (dC, dI)) (ci := 5) (v := .ref pt) (C := RX5) (T := TX5) (N := 12) hx hb hts (by decide +kernel) hown hK hP 0 rfl rfl 11 (by decide) (hts (.fieldLink RX5 32 "CivilDaysModel" "typing" "[I") (by decide +kernel)) (fun _ h9 => h9) rfl dX5_digits_16 ?_
        refine lv_iload hx hb dX5_digits_19 (lv_at hl 0 rfl) ?_
        refine zw_iald hx hb hK hP 1 0 rfl rfl (by omega) (by omega) ⟨by omega, by omega⟩ dX5_digits_21 ?_
        refine zw_iadd hx hb dX5_digits_22 ?_
        refine zw_bipush hx hb dX5_digits_23 (by decide) ?_
        refine zw_isub hx hb dX5_digits_25 ?_
        refine zw_top (fun x6 ex6 => ?_)
        refine lv_istore_n (lv' := [(3, .int (zi x6)), (4, .int (zi 7)), (0, .ref g0), (1, .int (zi 5)), (2, .int (zi 8))]) hx hb dX5_digits_26 rfl hl (by decide) rfl (fun ls hl => ?_)
        refine zw_iinc (z := 8) (lv' := [(4, .int (zi 8)), (3, .int (zi x6)), (0, .ref g0), (1, .int (zi 5)), (2, .int (zi 8))]) (k := 1) hx hb (by decide) dX5_digits_27 hl rfl (by decide) rfl (fun ls hl => ?_)
        refine lv_goto (tgt := 5) hx hb dX5_digits_30 (by decide) ?_
        refine lv_iload hx hb dX5_digits_5 (lv_at hl 0 rfl) ?_
        refine lv_iload_n hx hb dX5_digits_7 rfl (lv_at hl 4 rfl) ?_
        refine zw_icmp_ge (tgt := 33) hx hb dX5_digits_8 (by decide) ⟨by omega, by omega⟩ ⟨by omega, by omega⟩ (fun h7 => ?_) (fun h7 => ?_)
        · skip
          refine lv_iload_n hx hb dX5_digits_33 rfl (lv_at hl 1 rfl) ?_
          subst ex2 ex4 ex6
          exact W.iret (v := zi (((10 * (((10 * ((0 + (tf (Int.toNat 5))) - 48)) + (tf (Int.toNat 6))) - 48)) + (tf (Int.toNat 7))) - 48)) hx hb hr (fun t ht hW => ⟨zi (((10 * (((10 * ((0 + (tf (Int.toNat 5))) - 48)) + (tf (Int.toNat 6))) - 48)) + (tf (Int.toNat 7))) - 48), rfl, rfl, ht⟩) (fun q h => by cases h) dX5_digits_34
        · skip
          exact absurd True.intro (by omega)
