/-! THE REFERENCE'S WORKING DAYS AND READING -/
theorem zmv_s1 {P : Int → Int} {st : Int} {fu : Nat} {n lf n' lf' : Int} (h : 0 < lf) (hn : n' = n + st) (hx : 0 ≤ n' ∧ n' ≤ 3652058) (hP : P n' = 1) (hl : lf' = lf - 1) : zmv P st (fu + 1) n lf = zmv P st fu n' lf' := by
  subst hn
  subst hl
  rw [zmv_s P st fu n lf h hx, if_pos hP]
theorem zmv_s0 {P : Int → Int} {st : Int} {fu : Nat} {n lf n' lf' : Int} (h : 0 < lf) (hn : n' = n + st) (hx : 0 ≤ n' ∧ n' ≤ 3652058) (hP : P n' ≠ 1) (hl : lf' = lf) : zmv P st (fu + 1) n lf = zmv P st fu n' lf' := by
  subst hn
  subst hl
  rw [zmv_s P st fu n lf' h hx, if_neg hP]
theorem zmv_b (P : Int → Int) (st : Int) : ∀ (fu : Nat) (n lf : Int), 0 ≤ n ∧ n ≤ 3652058 → -1 ≤ zmv P st fu n lf ∧ zmv P st fu n lf ≤ 3652058 := by
  intro fu
  induction fu with
  | zero =>
    intro n lf h
    rw [zmv]
    omega
  | succ fu ih =>
    intro n lf h
    by_cases h1 : lf ≤ 0
    · rw [zmv_0 P st fu n lf h1]
      omega
    · by_cases h2 : n + st < 0 ∨ 3652058 < n + st
      · rw [zmv_x P st fu n lf (by omega) h2]
        omega
      · rw [zmv_s P st fu n lf (by omega) (by omega)]
        exact ih _ _ (by omega)
set_option maxHeartbeats 4000000 in
set_option maxRecDepth 100000 in
theorem c_X5_work_1 (l : Launch)  (dC : Nat → ClassId) (dI : Nat → Nat → Nat) (cI : ClassId) (g0 : Nat) (ps : Nat) (pk : Nat) (pa : Nat) (pb : Nat) (pq : Nat) (pw : Nat) (pt : Nat) (co : Int) (ru : Int) (we : Int) (wr : Int) (ty : Int) (sf : Nat → Int) (kf : Nat → Int) (af : Nat → Int) (bf : Nat → Int) (zf : Nat → Int) (sl : Int) (ot : Int) (sz : Nat) (hp0 : -2147483648 ≤ sl ∧ sl ≤ 2147483647) (hp1 : -2147483648 ≤ ot ∧ ot ≤ 2147483647) (hp2 : (sl < 0 ∨ 9 < sl) ∨ (ot < 0 ∨ 9 < ot)) : Met l yX5_work wsX5_work ({ frames := 2, cells := 0, slots := 0, locals := 42 }) (zPw (dC, dI) [(cI, .int)] sz [.ref g0, .int (zi sl), .int (zi ot)] [(g0, .inr (5, [.int (zi co), .ref ps, .int (zi ru), .ref pk, .ref pa, .ref pb, .ref pq, .int (zi we), .int (zi wr), .ref pw, .int (zi ty), .ref pt])), (ps, aI cI 10 sf), (pk, aI cI 12 kf), (pa, aI cI 12 af), (pb, aI cI 12 bf), (pq, aI cI 12 zf)]) (va_Qi (fun (r : Int32) (_ : Unit) => r = zi 0) (zB (dC, dI) [(cI, .int)] (va_A [(g0, .inr (5, [.int (zi co), .ref ps, .int (zi ru), .ref pk, .ref pa, .ref pb, .ref pq, .int (zi we), .int (zi wr), .ref pw, .int (zi ty), .ref pt])), (ps, aI cI 10 sf), (pk, aI cI 12 kf), (pa, aI cI 12 af), (pb, aI cI 12 bf), (pq, aI cI 12 zf)] sz) [(g0, .inr (5, [.int (zi 1), .ref ps, .int (zi ru), .ref pk, .ref pa, .ref pb, .ref pq, .int (zi we), .int (zi wr), .ref pw, .int (zi ty), .ref pt])), (ps, aI cI 10 sf), (pk, aI cI 12 kf), (pa, aI cI 12 af), (pb, aI cI 12 bf), (pq, aI cI 12 zf)]) (va_A [(g0, .inr (5, [.int (zi co), .ref ps, .int (zi ru), .ref pk, .ref pa, .ref pb, .ref pq, .int (zi we), .int (zi wr), .ref pw, .int (zi ty), .ref pt])), (ps, aI cI 10 sf), (pk, aI cI 12 kf), (pa, aI cI 12 af), (pb, aI cI 12 bf), (pq, aI cI 12 zf)] sz)) 0 0 (va_A [(g0, .inr (5, [.int (zi co), .ref ps, .int (zi ru), .ref pk, .ref pa, .ref pb, .ref pq, .int (zi we), .int (zi wr), .ref pw, .int (zi ty), .ref pt])), (ps, aI cI 10 sf), (pk, aI cI 12 kf), (pa, aI cI 12 af), (pb, aI cI 12 bf), (pq, aI cI 12 zf)] sz) := by
  refine Met.ofW (cc := cX5_work) (maxL := 7) (ret := (some .int)) (by decide) rfl ?_
  intro p e s m args below meth c s₁ B hml hv
  obtain ⟨rfl, hsz, hP, hK, hD0⟩ := hv
  have hx := B.exec
  have hb := B.bytes
  have hr := B.returns
  have hts := atoms_spec (ws := wsX5_work) B.pre
  have hown : s.vm.findClass RX5 = some m.cls := findClass_of_methodNamed B.named
  have hlocks := B.notSynchronized
  subst hsz
  have hD := hD0.self (sz := s.heap.size)
  generalize hAe : va_A [(g0, .inr (5, [.int (zi co), .ref ps, .int (zi ru), .ref pk, .ref pa, .ref pb, .ref pq, .int (zi we), .int (zi wr), .ref pw, .int (zi ty), .ref pt])), (ps, aI cI 10 sf), (pk, aI cI 12 kf), (pa, aI cI 12 af), (pb, aI cI 12 bf), (pq, aI cI 12 zf)] s.heap.size = A at hD ⊢
  have hA : ∀ q : Nat, s.heap.size ≤ q → A q := fun q h => by rw [← hAe]; exact Or.inr h
  have hS : va_S A s.heap s.heap [] := va_S.rf
  have hP : va_P (dC, dI) vwCl [(g0, .inr (5, [.int (zi co), .ref ps, .int (zi ru), .ref pk, .ref pa, .ref pb, .ref pq, .int (zi we), .int (zi wr), .ref pw, .int (zi ty), .ref pt])), (ps, aI cI 10 sf), (pk, aI cI 12 kf), (pa, aI cI 12 af), (pb, aI cI 12 bf), (pq, aI cI 12 zf)] s.heap := hP
  have hl := lv_entry ([.ref g0, .int (zi sl), .int (zi ot)]) (n := 7) (Nat.le_of_ble_eq_true rfl)
  rw [lg_entry_eq]
  generalize (lg_sl ([.ref g0, .int (zi sl), .int (zi ot)]) ++ List.replicate (7 - (lg_sl ([.ref g0, .int (zi sl), .int (zi ot)])).length) Slot.unset).toArray = ls at hl ⊢
  have hl : lv_has ls 7 [(0, .ref g0), (1, .int (zi sl)), (2, .int (zi ot))] := hl
  first | have hpr := hp5 | skip
  refine lv_aload_n hx hb dX5_work_0 rfl (lv_at hl 0 rfl) ?_
  refine lv_iload_n hx hb dX5_work_1 rfl (lv_at hl 1 rfl) ?_
  have hh1 := c_X5_isSlot l sl (by omega)
  refine vp_callSi (va_Run.run (va_runS (As := [.int (zi sl)]) (rest := [.ref g0]) ⟨hx, hb, hml, hown, hts⟩ hh1 (va_cwS 1 hts gX5_work_X5_isSlot rfl rfl rfl (by decide +kernel) ⟨Nat.le_of_ble_eq_true rfl, Nat.le_of_ble_eq_true rfl⟩) ⟨fun a U g mk q => q, fun U hU hW => ⟨rfl, trivial⟩⟩ rfl rfl hl.1 rfl (lv_room (Nat.le_of_ble_eq_true rfl)) dX5_work_2 ⟨Nat.zero_le _, Nat.zero_le _⟩)) (fun r1 (hr1 : r1 = zi (f_X5_isSlot sl)) => ?_)
  subst hr1
  have hf1 := b_X5_isSlot sl (by omega)
  refine zw_if_eq (tgt := 15) hx hb dX5_work_5 (by decide) ⟨by omega, by omega⟩ (fun h2 => ?_) (fun h2 => ?_)
  · skip
    refine zw_iconst hx hb dX5_work_15 ?_
    refine lv_goto (tgt := 42) hx hb dX5_work_16 (by decide) ?_
    refine va_put (D := (dC, dI)) (ci := 5) (v := .int (zi 1)) (ty := .int) (C := RX5) (T := TX5) (N := 12) hx hb hts (by decide +kernel) tyX5 tyX5_ok nmX5 hown hK hP hD hS 0 rfl rfl 0 (by decide) (hts (.fieldLink RX5 35 "CivilDaysModel" "code" "I") (by decide +kernel)) (fun _ h9 => h9) rfl (by decide +kernel) rfl rfl (Nat.le_of_ble_eq_true rfl) dX5_work_42 (fun H locs hP hD hS => ?_)
    have hP : va_P (dC, dI) vwCl [(g0, .inr (5, [.int (zi 1), .ref ps, .int (zi ru), .ref pk, .ref pa, .ref pb, .ref pq, .int (zi we), .int (zi wr), .ref pw, .int (zi ty), .ref pt])), (ps, aI cI 10 sf), (pk, aI cI 12 kf), (pa, aI cI 12 af), (pb, aI cI 12 bf), (pq, aI cI 12 zf)] H := hP
    have hD : va_D A [(g0, .inr (5, [.int (zi 1), .ref ps, .int (zi ru), .ref pk, .ref pa, .ref pb, .ref pq, .int (zi we), .int (zi wr), .ref pw, .int (zi ty), .ref pt])), (ps, aI cI 10 sf), (pk, aI cI 12 kf), (pa, aI cI 12 af), (pb, aI cI 12 bf), (pq, aI cI 12 zf)] := hD
    refine lv_aload_n hx hb dX5_work_45 rfl (lv_at hl 0 rfl) ?_
    refine va_get (D := (dC, dI)) (ci := 5) (v := .int (zi 1)) (C := RX5) (T := TX5) (N := 12) hx hb hts (by decide +kernel) hown hK hP 0 rfl rfl 0 (by decide) (hts (.fieldLink RX5 35 "CivilDaysModel" "code" "I") (by decide +kernel)) (fun _ h9 => h9) rfl dX5_work_46 ?_
    refine zw_if_le (tgt := 54) hx hb dX5_work_49 (by decide) ⟨by omega, by omega⟩ (fun h3 => ?_) (fun h3 => ?_)
    · skip
      exact absurd True.intro (by omega)
    · skip
      refine zw_iconst hx hb dX5_work_52 ?_
      have hP9 := hP.sub (ws' := [(g0, .inr (5, [.int (zi 1), .ref ps, .int (zi ru), .ref pk, .ref pa, .ref pb, .ref pq, .int (zi we), .int (zi wr), .ref pw, .int (zi ty), .ref pt])), (ps, aI cI 10 sf), (pk, aI cI 12 kf), (pa, aI cI 12 af), (pb, aI cI 12 bf), (pq, aI cI 12 zf)]) [0, 1, 2, 3, 4, 5] rfl
      have hD9 := hD.sub (ws' := [(g0, .inr (5, [.int (zi 1), .ref ps, .int (zi ru), .ref pk, .ref pa, .ref pb, .ref pq, .int (zi we), .int (zi wr), .ref pw, .int (zi ty), .ref pt])), (ps, aI cI 10 sf), (pk, aI cI 12 kf), (pa, aI cI 12 af), (pb, aI cI 12 bf), (pq, aI cI 12 zf)]) [0, 1, 2, 3, 4, 5] (by decide) rfl
      exact W.iret (v := zi 0) hx hb hr (fun t ht hW => ⟨⟨zi 0, (), rfl, rfl, by rw [ht]; exact hP9, va_K.moved hW.alike hK, hD9⟩, hS.F ht⟩) hS.2.2 dX5_work_53
  · skip
    refine lv_iload_n hx hb dX5_work_8 rfl (lv_at hl 2 rfl) ?_
    have hh4 := c_X5_isSlot l ot (by omega)
    refine vp_callSi (va_Run.run (va_runS (As := [.int (zi ot)]) (rest := [.ref g0]) ⟨hx, hb, hml, hown, hts⟩ hh4 (va_cwS 1 hts gX5_work_X5_isSlot rfl rfl rfl (by decide +kernel) ⟨Nat.le_of_ble_eq_true rfl, Nat.le_of_ble_eq_true rfl⟩) ⟨fun a U g mk q => q, fun U hU hW => ⟨rfl, trivial⟩⟩ rfl rfl hl.1 rfl (lv_room (Nat.le_of_ble_eq_true rfl)) dX5_work_9 ⟨Nat.zero_le _, Nat.zero_le _⟩)) (fun r4 (hr4 : r4 = zi (f_X5_isSlot ot)) => ?_)
    subst hr4
    have hf4 := b_X5_isSlot ot (by omega)
    refine zw_if_ne (tgt := 19) hx hb dX5_work_12 (by decide) ⟨by omega, by omega⟩ (fun h5 => ?_) (fun h5 => ?_)
    · skip
      exact absurd True.intro (by omega)
    · skip
      refine zw_iconst hx hb dX5_work_15 ?_
      refine lv_goto (tgt := 42) hx hb dX5_work_16 (by decide) ?_
      refine va_put (D := (dC, dI)) (ci := 5) (v := .int (zi 1)) (ty := .int) (C := RX5) (T := TX5) (N := 12) hx hb hts (by decide +kernel) tyX5 tyX5_ok nmX5 hown hK hP hD hS 0 rfl rfl 0 (by decide) (hts (.fieldLink RX5 35 "CivilDaysModel" "code" "I") (by decide +kernel)) (fun _ h9 => h9) rfl (by decide +kernel) rfl rfl (Nat.le_of_ble_eq_true rfl) dX5_work_42 (fun H locs hP hD hS => ?_)
      have hP : va_P (dC, dI) vwCl [(g0, .inr (5, [.int (zi 1), .ref ps, .int (zi ru), .ref pk, .ref pa, .ref pb, .ref pq, .int (zi we), .int (zi wr), .ref pw, .int (zi ty), .ref pt])), (ps, aI cI 10 sf), (pk, aI cI 12 kf), (pa, aI cI 12 af), (pb, aI cI 12 bf), (pq, aI cI 12 zf)] H := hP
      have hD : va_D A [(g0, .inr (5, [.int (zi 1), .ref ps, .int (zi ru), .ref pk, .ref pa, .ref pb, .ref pq, .int (zi we), .int (zi wr), .ref pw, .int (zi ty), .ref pt])), (ps, aI cI 10 sf), (pk, aI cI 12 kf), (pa, aI cI 12 af), (pb, aI cI 12 bf), (pq, aI cI 12 zf)] := hD
      refine lv_aload_n hx hb dX5_work_45 rfl (lv_at hl 0 rfl) ?_
      refine va_get (D := (dC, dI)) (ci := 5) (v := .int (zi 1)) (C := RX5) (T := TX5) (N := 12) hx hb hts (by decide +kernel) hown hK hP 0 rfl rfl 0 (by decide) (hts (.fieldLink RX5 35 "CivilDaysModel" "code" "I") (by decide +kernel)) (fun _ h9 => h9) rfl dX5_work_46 ?_
      refine zw_if_le (tgt := 54) hx hb dX5_work_49 (by decide) ⟨by omega, by omega⟩ (fun h6 => ?_) (fun h6 => ?_)
      · skip
        exact absurd True.intro (by omega)
      · skip
        refine zw_iconst hx hb dX5_work_52 ?_
        have hP9 := hP.sub (ws' := [(g0, .inr (5, [.int (zi 1), .ref ps, .int (zi ru), .ref pk, .ref pa, .ref pb, .ref pq, .int (zi we), .int (zi wr), .ref pw, .int (zi ty), .ref pt])), (ps, aI cI 10 sf), (pk, aI cI 12 kf), (pa, aI cI 12 af), (pb, aI cI 12 bf), (pq, aI cI 12 zf)]) [0, 1, 2, 3, 4, 5] rfl
        have hD9 := hD.sub (ws' := [(g0, .inr (5, [.int (zi 1), .ref ps, .int (zi ru), .ref pk, .ref pa, .ref pb, .ref pq, .int (zi we), .int (zi wr), .ref pw, .int (zi ty), .ref pt])), (ps, aI cI 10 sf), (pk, aI cI 12 kf), (pa, aI cI 12 af), (pb, aI cI 12 bf), (pq, aI cI 12 zf)]) [0, 1, 2, 3, 4, 5] (by decide) rfl
        exact W.iret (v := zi 0) hx hb hr (fun t ht hW => ⟨⟨zi 0, (), rfl, rfl, by rw [ht]; exact hP9, va_K.moved hW.alike hK, hD9⟩, hS.F ht⟩) hS.2.2 dX5_work_53

set_option maxHeartbeats 4000000 in
set_option maxRecDepth 100000 in
theorem c_X5_work_2 (l : Launch)  (dC : Nat → ClassId) (dI : Nat → Nat → Nat) (cI : ClassId) (g0 : Nat) (ps : Nat) (pk : Nat) (pa : Nat) (pb : Nat) (pq : Nat) (pw : Nat) (pt : Nat) (co : Int) (ru : Int) (we : Int) (wr : Int) (ty : Int) (sf : Nat → Int) (kf : Nat → Int) (af : Nat → Int) (bf : Nat → Int) (zf : Nat → Int) (sl : Int) (ot : Int) (sz : Nat) (hp0 : 0 ≤ sl ∧ sl ≤ 9) (hp1 : 0 ≤ ot ∧ ot ≤ 9) (hp2 : -1 ≤ (sf sl.toNat) ∧ (sf sl.toNat) ≤ 3652058) (hp3 : -1 ≤ (sf ot.toNat) ∧ (sf ot.toNat) ≤ 3652058) (hp4 : (sf sl.toNat) = -1 ∨ (sf ot.toNat) = -1) : Met l yX5_work wsX5_work ({ frames := 2, cells := 0, slots := 0, locals := 42 }) (zPw (dC, dI) [(cI, .int)] sz [.ref g0, .int (zi sl), .int (zi ot)] [(g0, .inr (5, [.int (zi co), .ref ps, .int (zi ru), .ref pk, .ref pa, .ref pb, .ref pq, .int (zi we), .int (zi wr), .ref pw, .int (zi ty), .ref pt])), (ps, aI cI 10 sf), (pk, aI cI 12 kf), (pa, aI cI 12 af), (pb, aI cI 12 bf), (pq, aI cI 12 zf)]) (va_Qi (fun (r : Int32) (_ : Unit) => r = zi 0) (zB (dC, dI) [(cI, .int)] (va_A [(g0, .inr (5, [.int (zi co), .ref ps, .int (zi ru), .ref pk, .ref pa, .ref pb, .ref pq, .int (zi we), .int (zi wr), .ref pw, .int (zi ty), .ref pt])), (ps, aI cI 10 sf), (pk, aI cI 12 kf), (pa, aI cI 12 af), (pb, aI cI 12 bf), (pq, aI cI 12 zf)] sz) [(g0, .inr (5, [.int (zi 2), .ref ps, .int (zi ru), .ref pk, .ref pa, .ref pb, .ref pq, .int (zi we), .int (zi wr), .ref pw, .int (zi ty), .ref pt])), (ps, aI cI 10 sf), (pk, aI cI 12 kf), (pa, aI cI 12 af), (pb, aI cI 12 bf), (pq, aI cI 12 zf)]) (va_A [(g0, .inr (5, [.int (zi co), .ref ps, .int (zi ru), .ref pk, .ref pa, .ref pb, .ref pq, .int (zi we), .int (zi wr), .ref pw, .int (zi ty), .ref pt])), (ps, aI cI 10 sf), (pk, aI cI 12 kf), (pa, aI cI 12 af), (pb, aI cI 12 bf), (pq, aI cI 12 zf)] sz)) 0 0 (va_A [(g0, .inr (5, [.int (zi co), .ref ps, .int (zi ru), .ref pk, .ref pa, .ref pb, .ref pq, .int (zi we), .int (zi wr), .ref pw, .int (zi ty), .ref pt])), (ps, aI cI 10 sf), (pk, aI cI 12 kf), (pa, aI cI 12 af), (pb, aI cI 12 bf), (pq, aI cI 12 zf)] sz) := by
  refine Met.ofW (cc := cX5_work) (maxL := 7) (ret := (some .int)) (by decide) rfl ?_
  intro p e s m args below meth c s₁ B hml hv
  obtain ⟨rfl, hsz, hP, hK, hD0⟩ := hv
  have hx := B.exec
  have hb := B.bytes
  have hr := B.returns
  have hts := atoms_spec (ws := wsX5_work) B.pre
  have hown : s.vm.findClass RX5 = some m.cls := findClass_of_methodNamed B.named
  have hlocks := B.notSynchronized
  subst hsz
  have hD := hD0.self (sz := s.heap.size)
  generalize hAe : va_A [(g0, .inr (5, [.int (zi co), .ref ps, .int (zi ru), .ref pk, .ref pa, .ref pb, .ref pq, .int (zi we), .int (zi wr), .ref pw, .int (zi ty), .ref pt])), (ps, aI cI 10 sf), (pk, aI cI 12 kf), (pa, aI cI 12 af), (pb, aI cI 12 bf), (pq, aI cI 12 zf)] s.heap.size = A at hD ⊢
  have hA : ∀ q : Nat, s.heap.size ≤ q → A q := fun q h => by rw [← hAe]; exact Or.inr h
  have hS : va_S A s.heap s.heap [] := va_S.rf
  have hP : va_P (dC, dI) vwCl [(g0, .inr (5, [.int (zi co), .ref ps, .int (zi ru), .ref pk, .ref pa, .ref pb, .ref pq, .int (zi we), .int (zi wr), .ref pw, .int (zi ty), .ref pt])), (ps, aI cI 10 sf), (pk, aI cI 12 kf), (pa, aI cI 12 af), (pb, aI cI 12 bf), (pq, aI cI 12 zf)] s.heap := hP
  have hl := lv_entry ([.ref g0, .int (zi sl), .int (zi ot)]) (n := 7) (Nat.le_of_ble_eq_true rfl)
  rw [lg_entry_eq]
  generalize (lg_sl ([.ref g0, .int (zi sl), .int (zi ot)]) ++ List.replicate (7 - (lg_sl ([.ref g0, .int (zi sl), .int (zi ot)])).length) Slot.unset).toArray = ls at hl ⊢
  have hl : lv_has ls 7 [(0, .ref g0), (1, .int (zi sl)), (2, .int (zi ot))] := hl
  first | have hpr := hp5 | skip
  refine lv_aload_n hx hb dX5_work_0 rfl (lv_at hl 0 rfl) ?_
  refine lv_iload_n hx hb dX5_work_1 rfl (lv_at hl 1 rfl) ?_
  have hh1 := c_X5_isSlot l sl (by omega)
  refine vp_callSi (va_Run.run (va_runS (As := [.int (zi sl)]) (rest := [.ref g0]) ⟨hx, hb, hml, hown, hts⟩ hh1 (va_cwS 1 hts gX5_work_X5_isSlot rfl rfl rfl (by decide +kernel) ⟨Nat.le_of_ble_eq_true rfl, Nat.le_of_ble_eq_true rfl⟩) ⟨fun a U g mk q => q, fun U hU hW => ⟨rfl, trivial⟩⟩ rfl rfl hl.1 rfl (lv_room (Nat.le_of_ble_eq_true rfl)) dX5_work_2 ⟨Nat.zero_le _, Nat.zero_le _⟩)) (fun r1 (hr1 : r1 = zi (f_X5_isSlot sl)) => ?_)
  subst hr1
  have hf1 := b_X5_isSlot sl (by omega)
  refine zw_if_eq (tgt := 15) hx hb dX5_work_5 (by decide) ⟨by omega, by omega⟩ (fun h2 => ?_) (fun h2 => ?_)
  · skip
    exact absurd True.intro (by omega)
  · skip
    refine lv_iload_n hx hb dX5_work_8 rfl (lv_at hl 2 rfl) ?_
    have hh3 := c_X5_isSlot l ot (by omega)
    refine vp_callSi (va_Run.run (va_runS (As := [.int (zi ot)]) (rest := [.ref g0]) ⟨hx, hb, hml, hown, hts⟩ hh3 (va_cwS 1 hts gX5_work_X5_isSlot rfl rfl rfl (by decide +kernel) ⟨Nat.le_of_ble_eq_true rfl, Nat.le_of_ble_eq_true rfl⟩) ⟨fun a U g mk q => q, fun U hU hW => ⟨rfl, trivial⟩⟩ rfl rfl hl.1 rfl (lv_room (Nat.le_of_ble_eq_true rfl)) dX5_work_9 ⟨Nat.zero_le _, Nat.zero_le _⟩)) (fun r3 (hr3 : r3 = zi (f_X5_isSlot ot)) => ?_)
    subst hr3
    have hf3 := b_X5_isSlot ot (by omega)
    refine zw_if_ne (tgt := 19) hx hb dX5_work_12 (by decide) ⟨by omega, by omega⟩ (fun h4 => ?_) (fun h4 => ?_)
    · skip
      refine lv_aload_n hx hb dX5_work_19 rfl (lv_at hl 0 rfl) ?_
      refine va_get (D := (dC, dI)) (ci := 5) (v := .ref ps) (C := RX5) (T := TX5) (N := 12) hx hb hts (by decide +kernel) hown hK hP 0 rfl rfl 1 (by decide) (hts (.fieldLink RX5 7 "CivilDaysModel" "slots" "[I") (by decide +kernel)) (fun _ h9 => h9) rfl dX5_work_20 ?_
      refine lv_iload_n hx hb dX5_work_23 rfl (lv_at hl 1 rfl) ?_
      refine zw_iald hx hb hK hP 1 0 rfl rfl (by omega) (by omega) ⟨by omega, by omega⟩ dX5_work_24 ?_
      refine zw_if_lt (tgt := 37) hx hb dX5_work_25 (by decide) ⟨by omega, by omega⟩ (fun h5 => ?_) (fun h5 => ?_)
      · skip
        refine zw_iconst hx hb dX5_work_37 ?_
        refine lv_goto (tgt := 42) hx hb dX5_work_38 (by decide) ?_
        refine va_put (D := (dC, dI)) (ci := 5) (v := .int (zi 2)) (ty := .int) (C := RX5) (T := TX5) (N := 12) hx hb hts (by decide +kernel) tyX5 tyX5_ok nmX5 hown hK hP hD hS 0 rfl rfl 0 (by decide) (hts (.fieldLink RX5 35 "CivilDaysModel" "code" "I") (by decide +kernel)) (fun _ h9 => h9) rfl (by decide +kernel) rfl rfl (Nat.le_of_ble_eq_true rfl) dX5_work_42 (fun H locs hP hD hS => ?_)
        have hP : va_P (dC, dI) vwCl [(g0, .inr (5, [.int (zi 2), .ref ps, .int (zi ru), .ref pk, .ref pa, .ref pb, .ref pq, .int (zi we), .int (zi wr), .ref pw, .int (zi ty), .ref pt])), (ps, aI cI 10 sf), (pk, aI cI 12 kf), (pa, aI cI 12 af), (pb, aI cI 12 bf), (pq, aI cI 12 zf)] H := hP
        have hD : va_D A [(g0, .inr (5, [.int (zi 2), .ref ps, .int (zi ru), .ref pk, .ref pa, .ref pb, .ref pq, .int (zi we), .int (zi wr), .ref pw, .int (zi ty), .ref pt])), (ps, aI cI 10 sf), (pk, aI cI 12 kf), (pa, aI cI 12 af), (pb, aI cI 12 bf), (pq, aI cI 12 zf)] := hD
        refine lv_aload_n hx hb dX5_work_45 rfl (lv_at hl 0 rfl) ?_
        refine va_get (D := (dC, dI)) (ci := 5) (v := .int (zi 2)) (C := RX5) (T := TX5) (N := 12) hx hb hts (by decide +kernel) hown hK hP 0 rfl rfl 0 (by decide) (hts (.fieldLink RX5 35 "CivilDaysModel" "code" "I") (by decide +kernel)) (fun _ h9 => h9) rfl dX5_work_46 ?_
        refine zw_if_le (tgt := 54) hx hb dX5_work_49 (by decide) ⟨by omega, by omega⟩ (fun h6 => ?_) (fun h6 => ?_)
        · skip
          exact absurd True.intro (by omega)
        · skip
          refine zw_iconst hx hb dX5_work_52 ?_
          have hP9 := hP.sub (ws' := [(g0, .inr (5, [.int (zi 2), .ref ps, .int (zi ru), .ref pk, .ref pa, .ref pb, .ref pq, .int (zi we), .int (zi wr), .ref pw, .int (zi ty), .ref pt])), (ps, aI cI 10 sf), (pk, aI cI 12 kf), (pa, aI cI 12 af), (pb, aI cI 12 bf), (pq, aI cI 12 zf)]) [0, 1, 2, 3, 4, 5] rfl
          have hD9 := hD.sub (ws' := [(g0, .inr (5, [.int (zi 2), .ref ps, .int (zi ru), .ref pk, .ref pa, .ref pb, .ref pq, .int (zi we), .int (zi wr), .ref pw, .int (zi ty), .ref pt])), (ps, aI cI 10 sf), (pk, aI cI 12 kf), (pa, aI cI 12 af), (pb, aI cI 12 bf), (pq, aI cI 12 zf)]) [0, 1, 2, 3, 4, 5] (by decide) rfl
          exact W.iret (v := zi 0) hx hb hr (fun t ht hW => ⟨⟨zi 0, (), rfl, rfl, by rw [ht]; exact hP9, va_K.moved hW.alike hK, hD9⟩, hS.F ht⟩) hS.2.2 dX5_work_53
      · skip
        refine lv_aload_n hx hb dX5_work_28 rfl (lv_at hl 0 rfl) ?_
        refine va_get (D := (dC, dI)) (ci := 5) (v := .ref ps) (C := RX5) (T := TX5) (N := 12) hx hb hts (by decide +kernel) hown hK hP 0 rfl rfl 1 (by decide) (hts (.fieldLink RX5 7 "CivilDaysModel" "slots" "[I") (by decide +kernel)) (fun _ h9 => h9) rfl dX5_work_29 ?_
        refine lv_iload_n hx hb dX5_work_32 rfl (lv_at hl 2 rfl) ?_
        refine zw_iald hx hb hK hP 1 0 rfl rfl (by omega) (by omega) ⟨by omega, by omega⟩ dX5_work_33 ?_
        refine zw_if_ge (tgt := 41) hx hb dX5_work_34 (by decide) ⟨by omega, by omega⟩ (fun h7 => ?_) (fun h7 => ?_)
        · skip
          exact absurd True.intro (by omega)
        · skip
          refine zw_iconst hx hb dX5_work_37 ?_
          refine lv_goto (tgt := 42) hx hb dX5_work_38 (by decide) ?_
          refine va_put (D := (dC, dI)) (ci := 5) (v := .int (zi 2)) (ty := .int) (C := RX5) (T := TX5) (N := 12) hx hb hts (by decide +kernel) tyX5 tyX5_ok nmX5 hown hK hP hD hS 0 rfl rfl 0 (by decide) (hts (.fieldLink RX5 35 "CivilDaysModel" "code" "I") (by decide +kernel)) (fun _ h9 => h9) rfl (by decide +kernel) rfl rfl (Nat.le_of_ble_eq_true rfl) dX5_work_42 (fun H locs hP hD hS => ?_)
          have hP : va_P (dC, dI) vwCl [(g0, .inr (5, [.int (zi 2), .ref ps, .int (zi ru), .ref pk, .ref pa, .ref pb, .ref pq, .int (zi we), .int (zi wr), .ref pw, .int (zi ty), .ref pt])), (ps, aI cI 10 sf), (pk, aI cI 12 kf), (pa, aI cI 12 af), (pb, aI cI 12 bf), (pq, aI cI 12 zf)] H := hP
          have hD : va_D A [(g0, .inr (5, [.int (zi 2), .ref ps, .int (zi ru), .ref pk, .ref pa, .ref pb, .ref pq, .int (zi we), .int (zi wr), .ref pw, .int (zi ty), .ref pt])), (ps, aI cI 10 sf), (pk, aI cI 12 kf), (pa, aI cI 12 af), (pb, aI cI 12 bf), (pq, aI cI 12 zf)] := hD
          refine lv_aload_n hx hb dX5_work_45 rfl (lv_at hl 0 rfl) ?_
          refine va_get (D := (dC, dI)) (ci := 5) (v := .int (zi 2)) (C := RX5) (T := TX5) (N := 12) hx hb hts (by decide +kernel) hown hK hP 0 rfl rfl 0 (by decide) (hts (.fieldLink RX5 35 "CivilDaysModel" "code" "I") (by decide +kernel)) (fun _ h9 => h9) rfl dX5_work_46 ?_
          refine zw_if_le (tgt := 54) hx hb dX5_work_49 (by decide) ⟨by omega, by omega⟩ (fun h8 => ?_) (fun h8 => ?_)
          · skip
            exact absurd True.intro (by omega)
          · skip
            refine zw_iconst hx hb dX5_work_52 ?_
            have hP9 := hP.sub (ws' := [(g0, .inr (5, [.int (zi 2), .ref ps, .int (zi ru), .ref pk, .ref pa, .ref pb, .ref pq, .int (zi we), .int (zi wr), .ref pw, .int (zi ty), .ref pt])), (ps, aI cI 10 sf), (pk, aI cI 12 kf), (pa, aI cI 12 af), (pb, aI cI 12 bf), (pq, aI cI 12 zf)]) [0, 1, 2, 3, 4, 5] rfl
            have hD9 := hD.sub (ws' := [(g0, .inr (5, [.int (zi 2), .ref ps, .int (zi ru), .ref pk, .ref pa, .ref pb, .ref pq, .int (zi we), .int (zi wr), .ref pw, .int (zi ty), .ref pt])), (ps, aI cI 10 sf), (pk, aI cI 12 kf), (pa, aI cI 12 af), (pb, aI cI 12 bf), (pq, aI cI 12 zf)]) [0, 1, 2, 3, 4, 5] (by decide) rfl
            exact W.iret (v := zi 0) hx hb hr (fun t ht hW => ⟨⟨zi 0, (), rfl, rfl, by rw [ht]; exact hP9, va_K.moved hW.alike hK, hD9⟩, hS.F ht⟩) hS.2.2 dX5_work_53
    · skip
      exact absurd True.intro (by omega)

set_option maxHeartbeats 4000000 in
set_option maxRecDepth 100000 in
theorem c_X5_work_3lt (l : Launch)  (dC : Nat → ClassId) (dI : Nat → Nat → Nat) (cI : ClassId) (g0 : Nat) (ps : Nat) (pk : Nat) (pa : Nat) (pb : Nat) (pq : Nat) (pw : Nat) (pt : Nat) (co : Int) (ru : Int) (we : Int) (wr : Int) (ty : Int) (sf : Nat → Int) (kf : Nat → Int) (af : Nat → Int) (bf : Nat → Int) (zf : Nat → Int) (sl : Int) (ot : Int) (sz : Nat) (hp0 : 0 ≤ sl ∧ sl ≤ 9) (hp1 : 0 ≤ ot ∧ ot ≤ 9) (hp2 : 0 ≤ (sf sl.toNat) ∧ (sf sl.toNat) ≤ 3652058) (hp3 : 0 ≤ (sf ot.toNat) ∧ (sf ot.toNat) ≤ 3652058) (hp4 : (sf sl.toNat) < (sf ot.toNat)) (hp5 : 4000 < (sf ot.toNat) - (sf sl.toNat)) : Met l yX5_work wsX5_work ({ frames := 2, cells := 0, slots := 0, locals := 42 }) (zPw (dC, dI) [(cI, .int)] sz [.ref g0, .int (zi sl), .int (zi ot)] [(g0, .inr (5, [.int (zi co), .ref ps, .int (zi ru), .ref pk, .ref pa, .ref pb, .ref pq, .int (zi we), .int (zi wr), .ref pw, .int (zi ty), .ref pt])), (ps, aI cI 10 sf), (pk, aI cI 12 kf), (pa, aI cI 12 af), (pb, aI cI 12 bf), (pq, aI cI 12 zf)]) (va_Qi (fun (r : Int32) (_ : Unit) => r = zi 0) (zB (dC, dI) [(cI, .int)] (va_A [(g0, .inr (5, [.int (zi co), .ref ps, .int (zi ru), .ref pk, .ref pa, .ref pb, .ref pq, .int (zi we), .int (zi wr), .ref pw, .int (zi ty), .ref pt])), (ps, aI cI 10 sf), (pk, aI cI 12 kf), (pa, aI cI 12 af), (pb, aI cI 12 bf), (pq, aI cI 12 zf)] sz) [(g0, .inr (5, [.int (zi 3), .ref ps, .int (zi ru), .ref pk, .ref pa, .ref pb, .ref pq, .int (zi we), .int (zi wr), .ref pw, .int (zi ty), .ref pt])), (ps, aI cI 10 sf), (pk, aI cI 12 kf), (pa, aI cI 12 af), (pb, aI cI 12 bf), (pq, aI cI 12 zf)]) (va_A [(g0, .inr (5, [.int (zi co), .ref ps, .int (zi ru), .ref pk, .ref pa, .ref pb, .ref pq, .int (zi we), .int (zi wr), .ref pw, .int (zi ty), .ref pt])), (ps, aI cI 10 sf), (pk, aI cI 12 kf), (pa, aI cI 12 af), (pb, aI cI 12 bf), (pq, aI cI 12 zf)] sz)) 0 0 (va_A [(g0, .inr (5, [.int (zi co), .ref ps, .int (zi ru), .ref pk, .ref pa, .ref pb, .ref pq, .int (zi we), .int (zi wr), .ref pw, .int (zi ty), .ref pt])), (ps, aI cI 10 sf), (pk, aI cI 12 kf), (pa, aI cI 12 af), (pb, aI cI 12 bf), (pq, aI cI 12 zf)] sz) := by
  refine Met.ofW (cc := cX5_work) (maxL := 7) (ret := (some .int)) (by decide) rfl ?_
  intro p e s m args below meth c s₁ B hml hv
  obtain ⟨rfl, hsz, hP, hK, hD0⟩ := hv
  have hx := B.exec
  have hb := B.bytes
  have hr := B.returns
  have hts := atoms_spec (ws := wsX5_work) B.pre
  have hown : s.vm.findClass RX5 = some m.cls := findClass_of_methodNamed B.named
  have hlocks := B.notSynchronized
  subst hsz
  have hD := hD0.self (sz := s.heap.size)
  generalize hAe : va_A [(g0, .inr (5, [.int (zi co), .ref ps, .int (zi ru), .ref pk, .ref pa, .ref pb, .ref pq, .int (zi we), .int (zi wr), .ref pw, .int (zi ty), .ref pt])), (ps, aI cI 10 sf), (pk, aI cI 12 kf), (pa, aI cI 12 af), (pb, aI cI 12 bf), (pq, aI cI 12 zf)] s.heap.size = A at hD ⊢
  have hA : ∀ q : Nat, s.heap.size ≤ q → A q := fun q h => by rw [← hAe]; exact Or.inr h
  have hS : va_S A s.heap s.heap [] := va_S.rf
  have hP : va_P (dC, dI) vwCl [(g0, .inr (5, [.int (zi co), .ref ps, .int (zi ru), .ref pk, .ref pa, .ref pb, .ref pq, .int (zi we), .int (zi wr), .ref pw, .int (zi ty), .ref pt])), (ps, aI cI 10 sf), (pk, aI cI 12 kf), (pa, aI cI 12 af), (pb, aI cI 12 bf), (pq, aI cI 12 zf)] s.heap := hP
  have hl := lv_entry ([.ref g0, .int (zi sl), .int (zi ot)]) (n := 7) (Nat.le_of_ble_eq_true rfl)
  rw [lg_entry_eq]
  generalize (lg_sl ([.ref g0, .int (zi sl), .int (zi ot)]) ++ List.replicate (7 - (lg_sl ([.ref g0, .int (zi sl), .int (zi ot)])).length) Slot.unset).toArray = ls at hl ⊢
  have hl : lv_has ls 7 [(0, .ref g0), (1, .int (zi sl)), (2, .int (zi ot))] := hl
  first | have hpr := hp5 | skip
  refine lv_aload_n hx hb dX5_work_0 rfl (lv_at hl 0 rfl) ?_
  refine lv_iload_n hx hb dX5_work_1 rfl (lv_at hl 1 rfl) ?_
  have hh1 := c_X5_isSlot l sl (by omega)
  refine vp_callSi (va_Run.run (va_runS (As := [.int (zi sl)]) (rest := [.ref g0]) ⟨hx, hb, hml, hown, hts⟩ hh1 (va_cwS 1 hts gX5_work_X5_isSlot rfl rfl rfl (by decide +kernel) ⟨Nat.le_of_ble_eq_true rfl, Nat.le_of_ble_eq_true rfl⟩) ⟨fun a U g mk q => q, fun U hU hW => ⟨rfl, trivial⟩⟩ rfl rfl hl.1 rfl (lv_room (Nat.le_of_ble_eq_true rfl)) dX5_work_2 ⟨Nat.zero_le _, Nat.zero_le _⟩)) (fun r1 (hr1 : r1 = zi (f_X5_isSlot sl)) => ?_)
  subst hr1
  have hf1 := b_X5_isSlot sl (by omega)
  refine zw_if_eq (tgt := 15) hx hb dX5_work_5 (by decide) ⟨by omega, by omega⟩ (fun h2 => ?_) (fun h2 => ?_)
  · skip
    exact absurd True.intro (by omega)
  · skip
    refine lv_iload_n hx hb dX5_work_8 rfl (lv_at hl 2 rfl) ?_
    have hh3 := c_X5_isSlot l ot (by omega)
    refine vp_callSi (va_Run.run (va_runS (As := [.int (zi ot)]) (rest := [.ref g0]) ⟨hx, hb, hml, hown, hts⟩ hh3 (va_cwS 1 hts gX5_work_X5_isSlot rfl rfl rfl (by decide +kernel) ⟨Nat.le_of_ble_eq_true rfl, Nat.le_of_ble_eq_true rfl⟩) ⟨fun a U g mk q => q, fun U hU hW => ⟨rfl, trivial⟩⟩ rfl rfl hl.1 rfl (lv_room (Nat.le_of_ble_eq_true rfl)) dX5_work_9 ⟨Nat.zero_le _, Nat.zero_le _⟩)) (fun r3 (hr3 : r3 = zi (f_X5_isSlot ot)) => ?_)
    subst hr3
    have hf3 := b_X5_isSlot ot (by omega)
    refine zw_if_ne (tgt := 19) hx hb dX5_work_12 (by decide) ⟨by omega, by omega⟩ (fun h4 => ?_) (fun h4 => ?_)
    · skip
      refine lv_aload_n hx hb dX5_work_19 rfl (lv_at hl 0 rfl) ?_
      refine va_get (D := (dC, dI)) (ci := 5) (v := .ref ps) (C := RX5) (T := TX5) (N := 12) hx hb hts (by decide +kernel) hown hK hP 0 rfl rfl 1 (by decide) (hts (.fieldLink RX5 7 "CivilDaysModel" "slots" "[I") (by decide +kernel)) (fun _ h9 => h9) rfl dX5_work_20 ?_
      refine lv_iload_n hx hb dX5_work_23 rfl (lv_at hl 1 rfl) ?_
      refine zw_iald hx hb hK hP 1 0 rfl rfl (by omega) (by omega) ⟨by omega, by omega⟩ dX5_work_24 ?_
      refine zw_if_lt (tgt := 37) hx hb dX5_work_25 (by decide) ⟨by omega, by omega⟩ (fun h5 => ?_) (fun h5 => ?_)
      · skip
        exact absurd True.intro (by omega)
      · skip
        refine lv_aload_n hx hb dX5_work_28 rfl (lv_at hl 0 rfl) ?_
        refine va_get (D := (dC, dI)) (ci := 5) (v := .ref ps) (C := RX5) (T := TX5) (N := 12) hx hb hts (by decide +kernel) hown hK hP 0 rfl rfl 1 (by decide) (hts (.fieldLink RX5 7 "CivilDaysModel" "slots" "[I") (by decide +kernel)) (fun _ h9 => h9) rfl dX5_work_29 ?_
        refine lv_iload_n hx hb dX5_work_32 rfl (lv_at hl 2 rfl) ?_
        refine zw_iald hx hb hK hP 1 0 rfl rfl (by omega) (by omega) ⟨by omega, by omega⟩ dX5_work_33 ?_
        refine zw_if_ge (tgt := 41) hx hb dX5_work_34 (by decide) ⟨by omega, by omega⟩ (fun h6 => ?_) (fun h6 => ?_)
        · skip
          refine zw_iconst hx hb dX5_work_41 ?_
          refine va_put (D := (dC, dI)) (ci := 5) (v := .int (zi 0)) (ty := .int) (C := RX5) (T := TX5) (N := 12) hx hb hts (by decide +kernel) tyX5 tyX5_ok nmX5 hown hK hP hD hS 0 rfl rfl 0 (by decide) (hts (.fieldLink RX5 35 "CivilDaysModel" "code" "I") (by decide +kernel)) (fun _ h9 => h9) rfl (by decide +kernel) rfl rfl (Nat.le_of_ble_eq_true rfl) dX5_work_42 (fun H locs hP hD hS => ?_)
          have hP : va_P (dC, dI) vwCl [(g0, .inr (5, [.int (zi 0), .ref ps, .int (zi ru), .ref pk, .ref pa, .ref pb, .ref pq, .int (zi we), .int (zi wr), .ref pw, .int (zi ty), .ref pt])), (ps, aI cI 10 sf), (pk, aI cI 12 kf), (pa, aI cI 12 af), (pb, aI cI 12 bf), (pq, aI cI 12 zf)] H := hP
          have hD : va_D A [(g0, .inr (5, [.int (zi 0), .ref ps, .int (zi ru), .ref pk, .ref pa, .ref pb, .ref pq, .int (zi we), .int (zi wr), .ref pw, .int (zi ty), .ref pt])), (ps, aI cI 10 sf), (pk, aI cI 12 kf), (pa, aI cI 12 af), (pb, aI cI 12 bf), (pq, aI cI 12 zf)] := hD
          refine lv_aload_n hx hb dX5_work_45 rfl (lv_at hl 0 rfl) ?_
          refine va_get (D := (dC, dI)) (ci := 5) (v := .int (zi 0)) (C := RX5) (T := TX5) (N := 12) hx hb hts (by decide +kernel) hown hK hP 0 rfl rfl 0 (by decide) (hts (.fieldLink RX5 35 "CivilDaysModel" "code" "I") (by decide +kernel)) (fun _ h9 => h9) rfl dX5_work_46 ?_
          refine zw_if_le (tgt := 54) hx hb dX5_work_49 (by decide) ⟨by omega, by omega⟩ (fun h7 => ?_) (fun h7 => ?_)
          · skip
            refine lv_aload_n hx hb dX5_work_54 rfl (lv_at hl 0 rfl) ?_
            refine va_get (D := (dC, dI)) (ci := 5) (v := .ref ps) (C := RX5) (T := TX5) (N := 12) hx hb hts (by decide +kernel) hown hK hP 0 rfl rfl 1 (by decide) (hts (.fieldLink RX5 7 "CivilDaysModel" "slots" "[I") (by decide +kernel)) (fun _ h9 => h9) rfl dX5_work_55 ?_
            refine lv_iload_n hx hb dX5_work_58 rfl (lv_at hl 1 rfl) ?_
            refine zw_iald hx hb hK hP 1 0 rfl rfl (by omega) (by omega) ⟨by omega, by omega⟩ dX5_work_59 ?_
            refine lv_aload_n hx hb dX5_work_60 rfl (lv_at hl 0 rfl) ?_
            refine va_get (D := (dC, dI)) (ci := 5) (v := .ref ps) (C := RX5) (T := TX5) (N := 12) hx hb hts (by decide +kernel) hown hK hP 0 rfl rfl 1 (by decide) (hts (.fieldLink RX5 7 "CivilDaysModel" "slots" "[I") (by decide +kernel)) (fun _ h9 => h9) rfl dX5_work_61 ?_
            refine lv_iload_n hx hb dX5_work_64 rfl (lv_at hl 2 rfl) ?_
            refine zw_iald hx hb hK hP 1 0 rfl rfl (by omega) (by omega) ⟨by omega, by omega⟩ dX5_work_65 ?_
            refine zw_icmp_ge (tgt := 78) hx hb dX5_work_66 (by decide) ⟨by omega, by omega⟩ ⟨by omega, by omega⟩ (fun h8 => ?_) (fun h8 => ?_)
            · skip
              exact absurd True.intro (by omega)
            · skip
              refine lv_aload_n hx hb dX5_work_69 rfl (lv_at hl 0 rfl) ?_
              refine va_get (D := (dC, dI)) (ci := 5) (v := .ref ps) (C := RX5) (T := TX5) (N := 12) hx hb hts (by decide +kernel) hown hK hP 0 rfl rfl 1 (by decide) (hts (.fieldLink RX5 7 "CivilDaysModel" "slots" "[I") (by decide +kernel)) (fun _ h9 => h9) rfl dX5_work_70 ?_
              refine lv_iload_n hx hb dX5_work_73 rfl (lv_at hl 1 rfl) ?_
              refine zw_iald hx hb hK hP 1 0 rfl rfl (by omega) (by omega) ⟨by omega, by omega⟩ dX5_work_74 ?_
              refine lv_goto (tgt := 84) hx hb dX5_work_75 (by decide) ?_
              refine zw_top (fun x9 ex9 => ?_)
              refine lv_istore_n (lv' := [(3, .int (zi x9)), (0, .ref g0), (1, .int (zi sl)), (2, .int (zi ot))]) hx hb dX5_work_84 rfl hl (by decide) rfl (fun ls hl => ?_)
              refine lv_aload_n hx hb dX5_work_85 rfl (lv_at hl 1 rfl) ?_
              refine va_get (D := (dC, dI)) (ci := 5) (v := .ref ps) (C := RX5) (T := TX5) (N := 12) hx hb hts (by decide +kernel) hown hK hP 0 rfl rfl 1 (by decide) (hts (.fieldLink RX5 7 "CivilDaysModel" "slots" "[I") (by decide +kernel)) (fun _ h9 => h9) rfl dX5_work_86 ?_
              refine lv_iload_n hx hb dX5_work_89 rfl (lv_at hl 2 rfl) ?_
              refine zw_iald hx hb hK hP 1 0 rfl rfl (by omega) (by omega) ⟨by omega, by omega⟩ dX5_work_90 ?_
              refine lv_aload_n hx hb dX5_work_91 rfl (lv_at hl 1 rfl) ?_
              refine va_get (D := (dC, dI)) (ci := 5) (v := .ref ps) (C := RX5) (T := TX5) (N := 12) hx hb hts (by decide +kernel) hown hK hP 0 rfl rfl 1 (by decide) (hts (.fieldLink RX5 7 "CivilDaysModel" "slots" "[I") (by decide +kernel)) (fun _ h9 => h9) rfl dX5_work_92 ?_
              refine lv_iload_n hx hb dX5_work_95 rfl (lv_at hl 3 rfl) ?_
              refine zw_iald hx hb hK hP 1 0 rfl rfl (by omega) (by omega) ⟨by omega, by omega⟩ dX5_work_96 ?_
              refine zw_icmp_ge (tgt := 109) hx hb dX5_work_97 (by decide) ⟨by omega, by omega⟩ ⟨by omega, by omega⟩ (fun h10 => ?_) (fun h10 => ?_)
              · skip
                exact absurd True.intro (by omega)
              · skip
                refine lv_aload_n hx hb dX5_work_100 rfl (lv_at hl 1 rfl) ?_
                refine va_get (D := (dC, dI)) (ci := 5) (v := .ref ps) (C := RX5) (T := TX5) (N := 12) hx hb hts (by decide +kernel) hown hK hP 0 rfl rfl 1 (by decide) (hts (.fieldLink RX5 7 "CivilDaysModel" "slots" "[I") (by decide +kernel)) (fun _ h9 => h9) rfl dX5_work_101 ?_
                refine lv_iload_n hx hb dX5_work_104 rfl (lv_at hl 3 rfl) ?_
                refine zw_iald hx hb hK hP 1 0 rfl rfl (by omega) (by omega) ⟨by omega, by omega⟩ dX5_work_105 ?_
                refine lv_goto (tgt := 115) hx hb dX5_work_106 (by decide) ?_
                refine zw_top (fun x11 ex11 => ?_)
                refine lv_istore (lv' := [(4, .int (zi x11)), (3, .int (zi x9)), (0, .ref g0), (1, .int (zi sl)), (2, .int (zi ot))]) hx hb dX5_work_115 hl (by decide) rfl (fun ls hl => ?_)
                refine lv_aload_n hx hb dX5_work_117 rfl (lv_at hl 2 rfl) ?_
                refine lv_iload hx hb dX5_work_118 (lv_at hl 0 rfl) ?_
                refine lv_iload_n hx hb dX5_work_120 rfl (lv_at hl 1 rfl) ?_
                refine zw_isub hx hb dX5_work_121 ?_
                refine zw_sipush hx hb dX5_work_122 (by decide) ?_
                refine zw_icmp_le (tgt := 132) hx hb dX5_work_125 (by decide) ⟨by omega, by omega⟩ ⟨by omega, by omega⟩ (fun h12 => ?_) (fun h12 => ?_)
                · skip
                  exact absurd True.intro (by omega)
                · skip
                  refine zw_iconst hx hb dX5_work_128 ?_
                  refine lv_goto (tgt := 133) hx hb dX5_work_129 (by decide) ?_
                  refine va_put (D := (dC, dI)) (ci := 5) (v := .int (zi 3)) (ty := .int) (C := RX5) (T := TX5) (N := 12) hx hb hts (by decide +kernel) tyX5 tyX5_ok nmX5 hown hK hP hD hS 0 rfl rfl 0 (by decide) (hts (.fieldLink RX5 35 "CivilDaysModel" "code" "I") (by decide +kernel)) (fun _ h9 => h9) rfl (by decide +kernel) rfl rfl (Nat.le_of_ble_eq_true rfl) dX5_work_133 (fun H locs hP hD hS => ?_)
                  have hP : va_P (dC, dI) vwCl [(g0, .inr (5, [.int (zi 3), .ref ps, .int (zi ru), .ref pk, .ref pa, .ref pb, .ref pq, .int (zi we), .int (zi wr), .ref pw, .int (zi ty), .ref pt])), (ps, aI cI 10 sf), (pk, aI cI 12 kf), (pa, aI cI 12 af), (pb, aI cI 12 bf), (pq, aI cI 12 zf)] H := hP
                  have hD : va_D A [(g0, .inr (5, [.int (zi 3), .ref ps, .int (zi ru), .ref pk, .ref pa, .ref pb, .ref pq, .int (zi we), .int (zi wr), .ref pw, .int (zi ty), .ref pt])), (ps, aI cI 10 sf), (pk, aI cI 12 kf), (pa, aI cI 12 af), (pb, aI cI 12 bf), (pq, aI cI 12 zf)] := hD
                  refine zw_iconst hx hb dX5_work_136 ?_
                  refine lv_istore (lv' := [(5, .int (zi 0)), (4, .int (zi x11)), (3, .int (zi x9)), (0, .ref g0), (1, .int (zi sl)), (2, .int (zi ot))]) hx hb dX5_work_137 hl (by decide) rfl (fun ls hl => ?_)
                  refine lv_iload_n hx hb dX5_work_139 rfl (lv_at hl 2 rfl) ?_
                  refine lv_istore (lv' := [(6, .int (zi x9)), (5, .int (zi 0)), (4, .int (zi x11)), (3, .int (zi x9)), (0, .ref g0), (1, .int (zi sl)), (2, .int (zi ot))]) hx hb dX5_work_140 hl (by decide) rfl (fun ls hl => ?_)
                  refine lv_iload hx hb dX5_work_142 (lv_at hl 0 rfl) ?_
                  refine lv_iload hx hb dX5_work_144 (lv_at hl 2 rfl) ?_
                  refine zw_icmp_ge (tgt := 181) hx hb dX5_work_146 (by decide) ⟨by omega, by omega⟩ ⟨by omega, by omega⟩ (fun h13 => ?_) (fun h13 => ?_)
                  · skip
                    refine lv_aload_n hx hb dX5_work_181 rfl (lv_at hl 4 rfl) ?_
                    refine va_get (D := (dC, dI)) (ci := 5) (v := .ref ps) (C := RX5) (T := TX5) (N := 12) hx hb hts (by decide +kernel) hown hK hP 0 rfl rfl 1 (by decide) (hts (.fieldLink RX5 7 "CivilDaysModel" "slots" "[I") (by decide +kernel)) (fun _ h9 => h9) rfl dX5_work_182 ?_
                    refine lv_iload_n hx hb dX5_work_185 rfl (lv_at hl 5 rfl) ?_
                    refine zw_iald hx hb hK hP 1 0 rfl rfl (by omega) (by omega) ⟨by omega, by omega⟩ dX5_work_186 ?_
                    refine lv_aload_n hx hb dX5_work_187 rfl (lv_at hl 4 rfl) ?_
                    refine va_get (D := (dC, dI)) (ci := 5) (v := .ref ps) (C := RX5) (T := TX5) (N := 12) hx hb hts (by decide +kernel) hown hK hP 0 rfl rfl 1 (by decide) (hts (.fieldLink RX5 7 "CivilDaysModel" "slots" "[I") (by decide +kernel)) (fun _ h9 => h9) rfl dX5_work_188 ?_
                    refine lv_iload_n hx hb dX5_work_191 rfl (lv_at hl 6 rfl) ?_
                    refine zw_iald hx hb hK hP 1 0 rfl rfl (by omega) (by omega) ⟨by omega, by omega⟩ dX5_work_192 ?_
                    refine zw_icmp_ge (tgt := 201) hx hb dX5_work_193 (by decide) ⟨by omega, by omega⟩ ⟨by omega, by omega⟩ (fun h14 => ?_) (fun h14 => ?_)
                    · skip
                      exact absurd True.intro (by omega)
                    · skip
                      refine lv_iload hx hb dX5_work_196 (lv_at hl 1 rfl) ?_
                      refine lv_goto (tgt := 204) hx hb dX5_work_198 (by decide) ?_
                      subst ex9 ex11
                      have hP9 := hP.sub (ws' := [(g0, .inr (5, [.int (zi 3), .ref ps, .int (zi ru), .ref pk, .ref pa, .ref pb, .ref pq, .int (zi we), .int (zi wr), .ref pw, .int (zi ty), .ref pt])), (ps, aI cI 10 sf), (pk, aI cI 12 kf), (pa, aI cI 12 af), (pb, aI cI 12 bf), (pq, aI cI 12 zf)]) [0, 1, 2, 3, 4, 5] rfl
                      have hD9 := hD.sub (ws' := [(g0, .inr (5, [.int (zi 3), .ref ps, .int (zi ru), .ref pk, .ref pa, .ref pb, .ref pq, .int (zi we), .int (zi wr), .ref pw, .int (zi ty), .ref pt])), (ps, aI cI 10 sf), (pk, aI cI 12 kf), (pa, aI cI 12 af), (pb, aI cI 12 bf), (pq, aI cI 12 zf)]) [0, 1, 2, 3, 4, 5] (by decide) rfl
                      exact W.iret (v := zi 0) hx hb hr (fun t ht hW => ⟨⟨zi 0, (), rfl, rfl, by rw [ht]; exact hP9, va_K.moved hW.alike hK, hD9⟩, hS.F ht⟩) hS.2.2 dX5_work_204
                  · skip
                    refine lv_aload_n hx hb dX5_work_149 rfl (lv_at hl 4 rfl) ?_
                    refine va_get (D := (dC, dI)) (ci := 5) (v := .int (zi 3)) (C := RX5) (T := TX5) (N := 12) hx hb hts (by decide +kernel) hown hK hP 0 rfl rfl 0 (by decide) (hts (.fieldLink RX5 35 "CivilDaysModel" "code" "I") (by decide +kernel)) (fun _ h9 => h9) rfl dX5_work_150 ?_
                    refine zw_if_ne (tgt := 181) hx hb dX5_work_153 (by decide) ⟨by omega, by omega⟩ (fun h15 => ?_) (fun h15 => ?_)
                    · skip
                      refine lv_aload_n hx hb dX5_work_181 rfl (lv_at hl 4 rfl) ?_
                      refine va_get (D := (dC, dI)) (ci := 5) (v := .ref ps) (C := RX5) (T := TX5) (N := 12) hx hb hts (by decide +kernel) hown hK hP 0 rfl rfl 1 (by decide) (hts (.fieldLink RX5 7 "CivilDaysModel" "slots" "[I") (by decide +kernel)) (fun _ h9 => h9) rfl dX5_work_182 ?_
                      refine lv_iload_n hx hb dX5_work_185 rfl (lv_at hl 5 rfl) ?_
                      refine zw_iald hx hb hK hP 1 0 rfl rfl (by omega) (by omega) ⟨by omega, by omega⟩ dX5_work_186 ?_
                      refine lv_aload_n hx hb dX5_work_187 rfl (lv_at hl 4 rfl) ?_
                      refine va_get (D := (dC, dI)) (ci := 5) (v := .ref ps) (C := RX5) (T := TX5) (N := 12) hx hb hts (by decide +kernel) hown hK hP 0 rfl rfl 1 (by decide) (hts (.fieldLink RX5 7 "CivilDaysModel" "slots" "[I") (by decide +kernel)) (fun _ h9 => h9) rfl dX5_work_188 ?_
                      refine lv_iload_n hx hb dX5_work_191 rfl (lv_at hl 6 rfl) ?_
                      refine zw_iald hx hb hK hP 1 0 rfl rfl (by omega) (by omega) ⟨by omega, by omega⟩ dX5_work_192 ?_
                      refine zw_icmp_ge (tgt := 201) hx hb dX5_work_193 (by decide) ⟨by omega, by omega⟩ ⟨by omega, by omega⟩ (fun h16 => ?_) (fun h16 => ?_)
                      · skip
                        exact absurd True.intro (by omega)
                      · skip
                        refine lv_iload hx hb dX5_work_196 (lv_at hl 1 rfl) ?_
                        refine lv_goto (tgt := 204) hx hb dX5_work_198 (by decide) ?_
                        subst ex9 ex11
                        have hP9 := hP.sub (ws' := [(g0, .inr (5, [.int (zi 3), .ref ps, .int (zi ru), .ref pk, .ref pa, .ref pb, .ref pq, .int (zi we), .int (zi wr), .ref pw, .int (zi ty), .ref pt])), (ps, aI cI 10 sf), (pk, aI cI 12 kf), (pa, aI cI 12 af), (pb, aI cI 12 bf), (pq, aI cI 12 zf)]) [0, 1, 2, 3, 4, 5] rfl
                        have hD9 := hD.sub (ws' := [(g0, .inr (5, [.int (zi 3), .ref ps, .int (zi ru), .ref pk, .ref pa, .ref pb, .ref pq, .int (zi we), .int (zi wr), .ref pw, .int (zi ty), .ref pt])), (ps, aI cI 10 sf), (pk, aI cI 12 kf), (pa, aI cI 12 af), (pb, aI cI 12 bf), (pq, aI cI 12 zf)]) [0, 1, 2, 3, 4, 5] (by decide) rfl
                        exact W.iret (v := zi 0) hx hb hr (fun t ht hW => ⟨⟨zi 0, (), rfl, rfl, by rw [ht]; exact hP9, va_K.moved hW.alike hK, hD9⟩, hS.F ht⟩) hS.2.2 dX5_work_204
                    · skip
                      exact absurd True.intro (by omega)
          · skip
            exact absurd True.intro (by omega)
        · skip
          exact absurd True.intro (by omega)
    · skip
      exact absurd True.intro (by omega)

set_option maxHeartbeats 4000000 in
set_option maxRecDepth 100000 in
theorem c_X5_work_lt (l : Launch)  (dC : Nat → ClassId) (dI : Nat → Nat → Nat) (cI : ClassId) (g0 : Nat) (ps : Nat) (pk : Nat) (pa : Nat) (pb : Nat) (pq : Nat) (pw : Nat) (pt : Nat) (co : Int) (ru : Int) (we : Int) (wr : Int) (ty : Int) (sf : Nat → Int) (kf : Nat → Int) (af : Nat → Int) (bf : Nat → Int) (zf : Nat → Int) (sl : Int) (ot : Int) (sz : Nat) (hp0 : 0 ≤ sl ∧ sl ≤ 9) (hp1 : 0 ≤ ot ∧ ot ≤ 9) (hp2 : 0 ≤ (sf sl.toNat) ∧ (sf sl.toNat) ≤ 3652058) (hp3 : 0 ≤ (sf ot.toNat) ∧ (sf ot.toNat) ≤ 3652058) (hp4 : 0 ≤ ru ∧ ru ≤ 12) (hp5 : ∀ j : Nat, (j : Int) < ru → (0 ≤ (kf j) ∧ (kf j) ≤ 3) ∧ ((kf j) = 1 ∧ -100 ≤ (af j) ∧ (af j) ≤ 100 ∨ (kf j) ≠ 1 ∧ 1 ≤ (af j) ∧ (af j) ≤ 12) ∧ ((kf j) = 1 ∨ (kf j) = 2 ∧ 1 ≤ (bf j) ∧ (bf j) ≤ 7 ∨ (kf j) ≠ 2 ∧ 1 ≤ (bf j) ∧ (bf j) ≤ 31) ∧ ((kf j) ≠ 2 ∨ (zf j) = -1 ∨ 1 ≤ (zf j) ∧ (zf j) ≤ 4)) (hp6 : 0 ≤ we ∧ we ≤ 127) (hp7 : (sf sl.toNat) < (sf ot.toNat)) (hp8 : (sf ot.toNat) - (sf sl.toNat) ≤ 4000) : Met l yX5_work wsX5_work ({ frames := 7, cells := 0, slots := 0, locals := 159 }) (zPw (dC, dI) [(cI, .int)] sz [.ref g0, .int (zi sl), .int (zi ot)] [(g0, .inr (5, [.int (zi co), .ref ps, .int (zi ru), .ref pk, .ref pa, .ref pb, .ref pq, .int (zi we), .int (zi wr), .ref pw, .int (zi ty), .ref pt])), (ps, aI cI 10 sf), (pk, aI cI 12 kf), (pa, aI cI 12 af), (pb, aI cI 12 bf), (pq, aI cI 12 zf)]) (va_Qi (fun (r : Int32) (_ : Unit) => r = zi (zcn (wkX5 we kf af bf zf ru) ((sf ot.toNat) - (sf sl.toNat)).toNat (sf sl.toNat))) (zB (dC, dI) [(cI, .int)] (va_A [(g0, .inr (5, [.int (zi co), .ref ps, .int (zi ru), .ref pk, .ref pa, .ref pb, .ref pq, .int (zi we), .int (zi wr), .ref pw, .int (zi ty), .ref pt])), (ps, aI cI 10 sf), (pk, aI cI 12 kf), (pa, aI cI 12 af), (pb, aI cI 12 bf), (pq, aI cI 12 zf)] sz) [(g0, .inr (5, [.int (zi 0), .ref ps, .int (zi ru), .ref pk, .ref pa, .ref pb, .ref pq, .int (zi we), .int (zi wr), .ref pw, .int (zi ty), .ref pt])), (ps, aI cI 10 sf), (pk, aI cI 12 kf), (pa, aI cI 12 af), (pb, aI cI 12 bf), (pq, aI cI 12 zf)]) (va_A [(g0, .inr (5, [.int (zi co), .ref ps, .int (zi ru), .ref pk, .ref pa, .ref pb, .ref pq, .int (zi we), .int (zi wr), .ref pw, .int (zi ty), .ref pt])), (ps, aI cI 10 sf), (pk, aI cI 12 kf), (pa, aI cI 12 af), (pb, aI cI 12 bf), (pq, aI cI 12 zf)] sz)) 0 0 (va_A [(g0, .inr (5, [.int (zi co), .ref ps, .int (zi ru), .ref pk, .ref pa, .ref pb, .ref pq, .int (zi we), .int (zi wr), .ref pw, .int (zi ty), .ref pt])), (ps, aI cI 10 sf), (pk, aI cI 12 kf), (pa, aI cI 12 af), (pb, aI cI 12 bf), (pq, aI cI 12 zf)] sz) := by
  refine Met.ofW (cc := cX5_work) (maxL := 7) (ret := (some .int)) (by decide) rfl ?_
  intro p e s m args below meth c s₁ B hml hv
  obtain ⟨rfl, hsz, hP, hK, hD0⟩ := hv
  have hx := B.exec
  have hb := B.bytes
  have hr := B.returns
  have hts := atoms_spec (ws := wsX5_work) B.pre
  have hown : s.vm.findClass RX5 = some m.cls := findClass_of_methodNamed B.named
  have hlocks := B.notSynchronized
  subst hsz
  have hD := hD0.self (sz := s.heap.size)
  generalize hAe : va_A [(g0, .inr (5, [.int (zi co), .ref ps, .int (zi ru), .ref pk, .ref pa, .ref pb, .ref pq, .int (zi we), .int (zi wr), .ref pw, .int (zi ty), .ref pt])), (ps, aI cI 10 sf), (pk, aI cI 12 kf), (pa, aI cI 12 af), (pb, aI cI 12 bf), (pq, aI cI 12 zf)] s.heap.size = A at hD ⊢
  have hA : ∀ q : Nat, s.heap.size ≤ q → A q := fun q h => by rw [← hAe]; exact Or.inr h
  have hS : va_S A s.heap s.heap [] := va_S.rf
  have hP : va_P (dC, dI) vwCl [(g0, .inr (5, [.int (zi co), .ref ps, .int (zi ru), .ref pk, .ref pa, .ref pb, .ref pq, .int (zi we), .int (zi wr), .ref pw, .int (zi ty), .ref pt])), (ps, aI cI 10 sf), (pk, aI cI 12 kf), (pa, aI cI 12 af), (pb, aI cI 12 bf), (pq, aI cI 12 zf)] s.heap := hP
  have loop142 : ∀ (fu : Nat) (nn : Int) (dd : Int), ((sf sl.toNat) ≤ dd ∧ dd ≤ (sf ot.toNat)) → (nn + zcn (wkX5 we kf af bf zf ru) ((sf ot.toNat) - dd).toNat dd = zcn (wkX5 we kf af bf zf ru) ((sf ot.toNat) - (sf sl.toNat)).toNat (sf sl.toNat)) → (0 ≤ nn ∧ nn ≤ dd - (sf sl.toNat)) → ((sf ot.toNat) - dd < fu) → ∀ (ls : Array Slot) (H : Heap) (locs : List Loc), lv_has ls 7 [(5, .int (zi nn)), (6, .int (zi dd)), (0, .ref g0), (1, .int (zi sl)), (2, .int (zi ot)), (3, .int (zi (sf sl.toNat))), (4, .int (zi (sf ot.toNat)))] → va_P (dC, dI) vwCl [(g0, .inr (5, [.int (zi 0), .ref ps, .int (zi ru), .ref pk, .ref pa, .ref pb, .ref pq, .int (zi we), .int (zi wr), .ref pw, .int (zi ty), .ref pt])), (ps, aI cI 10 sf), (pk, aI cI 12 kf), (pa, aI cI 12 af), (pb, aI cI 12 bf), (pq, aI cI 12 zf)] H → va_D A [(g0, .inr (5, [.int (zi 0), .ref ps, .int (zi ru), .ref pk, .ref pa, .ref pb, .ref pq, .int (zi we), .int (zi wr), .ref pw, .int (zi ty), .ref pt])), (ps, aI cI 10 sf), (pk, aI cI 12 kf), (pa, aI cI 12 af), (pb, aI cI 12 bf), (pq, aI cI 12 zf)] → va_S A s.heap H locs → W p l e (headSpec wsX5_work ({ frames := 7, cells := 0, slots := 0, locals := 159 })).room s m ([.ref g0, .int (zi sl), .int (zi ot)] : List Value).toArray below meth c H locs 0 0 (MQ below (va_Qi (fun (r : Int32) (_ : Unit) => r = zi (zcn (wkX5 we kf af bf zf ru) ((sf ot.toNat) - (sf sl.toNat)).toNat (sf sl.toNat))) (zB (dC, dI) [(cI, .int)] A [(g0, .inr (5, [.int (zi 0), .ref ps, .int (zi ru), .ref pk, .ref pa, .ref pb, .ref pq, .int (zi we), .int (zi wr), .ref pw, .int (zi ty), .ref pt])), (ps, aI cI 10 sf), (pk, aI cI 12 kf), (pa, aI cI 12 af), (pb, aI cI 12 bf), (pq, aI cI 12 zf)]) A) ([.ref g0, .int (zi sl), .int (zi ot)] : List Value).toArray s 0 0 A) (F0 m 142 ls []) := by
    intro fu
    induction fu with
    | zero =>
      intro nn dd hi0 hi1 hi2 hfu ls H locs hl hP hD hS
      exact absurd hfu (by omega)
    | succ fu ih =>
      intro nn dd hi0 hi1 hi2 hfu ls H locs hl hP hD hS
      have hP : va_P (dC, dI) vwCl [(g0, .inr (5, [.int (zi 0), .ref ps, .int (zi ru), .ref pk, .ref pa, .ref pb, .ref pq, .int (zi we), .int (zi wr), .ref pw, .int (zi ty), .ref pt])), (ps, aI cI 10 sf), (pk, aI cI 12 kf), (pa, aI cI 12 af), (pb, aI cI 12 bf), (pq, aI cI 12 zf)] H := hP
      have hD : va_D A [(g0, .inr (5, [.int (zi 0), .ref ps, .int (zi ru), .ref pk, .ref pa, .ref pb, .ref pq, .int (zi we), .int (zi wr), .ref pw, .int (zi ty), .ref pt])), (ps, aI cI 10 sf), (pk, aI cI 12 kf), (pa, aI cI 12 af), (pb, aI cI 12 bf), (pq, aI cI 12 zf)] := hD
      refine lv_iload hx hb dX5_work_142 (lv_at hl 1 rfl) ?_
      refine lv_iload hx hb dX5_work_144 (lv_at hl 6 rfl) ?_
      refine zw_icmp_ge (tgt := 181) hx hb dX5_work_146 (by decide) ⟨by omega, by omega⟩ ⟨by omega, by omega⟩ (fun h1 => ?_) (fun h1 => ?_)
      · skip
        have hen := zcn_end (wkX5 we kf af bf zf ru) dd (sf ot.toNat) (by omega)
        refine lv_aload_n hx hb dX5_work_181 rfl (lv_at hl 2 rfl) ?_
        refine va_get (D := (dC, dI)) (ci := 5) (v := .ref ps) (C := RX5) (T := TX5) (N := 12) hx hb hts (by decide +kernel) hown hK hP 0 rfl rfl 1 (by decide) (hts (.fieldLink RX5 7 "CivilDaysModel" "slots" "[I") (by decide +kernel)) (fun _ h9 => h9) rfl dX5_work_182 ?_
        refine lv_iload_n hx hb dX5_work_185 rfl (lv_at hl 3 rfl) ?_
        refine zw_iald hx hb hK hP 1 0 rfl rfl (by omega) (by omega) ⟨by omega, by omega⟩ dX5_work_186 ?_
        refine lv_aload_n hx hb dX5_work_187 rfl (lv_at hl 2 rfl) ?_
        refine va_get (D := (dC, dI)) (ci := 5) (v := .ref ps) (C := RX5) (T := TX5) (N := 12) hx hb hts (by decide +kernel) hown hK hP 0 rfl rfl 1 (by decide) (hts (.fieldLink RX5 7 "CivilDaysModel" "slots" "[I") (by decide +kernel)) (fun _ h9 => h9) rfl dX5_work_188 ?_
        refine lv_iload_n hx hb dX5_work_191 rfl (lv_at hl 4 rfl) ?_
        refine zw_iald hx hb hK hP 1 0 rfl rfl (by omega) (by omega) ⟨by omega, by omega⟩ dX5_work_192 ?_
        refine zw_icmp_ge (tgt := 201) hx hb dX5_work_193 (by decide) ⟨by omega, by omega⟩ ⟨by omega, by omega⟩ (fun h2 => ?_) (fun h2 => ?_)
        · skip
          exact absurd True.intro (by omega)
        · skip
          refine lv_iload hx hb dX5_work_196 (lv_at hl 0 rfl) ?_
          refine lv_goto (tgt := 204) hx hb dX5_work_198 (by decide) ?_
          have hP9 := hP.sub (ws' := [(g0, .inr (5, [.int (zi 0), .ref ps, .int (zi ru), .ref pk, .ref pa, .ref pb, .ref pq, .int (zi we), .int (zi wr), .ref pw, .int (zi ty), .ref pt])), (ps, aI cI 10 sf), (pk, aI cI 12 kf), (pa, aI cI 12 af), (pb, aI cI 12 bf), (pq, aI cI 12 zf)]) [0, 1, 2, 3, 4, 5] rfl
          have hD9 := hD.sub (ws' := [(g0, .inr (5, [.int (zi 0), .ref ps, .int (zi ru), .ref pk, .ref pa, .ref pb, .ref pq, .int (zi we), .int (zi wr), .ref pw, .int (zi ty), .ref pt])), (ps, aI cI 10 sf), (pk, aI cI 12 kf), (pa, aI cI 12 af), (pb, aI cI 12 bf), (pq, aI cI 12 zf)]) [0, 1, 2, 3, 4, 5] (by decide) rfl
          exact W.iret (v := zi nn) hx hb hr (fun t ht hW => ⟨⟨zi nn, (), rfl, congrArg zi (by omega), by rw [ht]; exact hP9, va_K.moved hW.alike hK, hD9⟩, hS.F ht⟩) hS.2.2 dX5_work_204
      · skip
        have hst := zcn_step (wkX5 we kf af bf zf ru) dd (sf ot.toNat) (by omega)
        have hcb := zcn_b (wkX5 we kf af bf zf ru) ((sf ot.toNat) - dd).toNat dd
        have hcc := zcn_b (wkX5 we kf af bf zf ru) ((sf ot.toNat) - (dd + 1)).toNat (dd + 1)
        refine lv_aload_n hx hb dX5_work_149 rfl (lv_at hl 2 rfl) ?_
        refine va_get (D := (dC, dI)) (ci := 5) (v := .int (zi 0)) (C := RX5) (T := TX5) (N := 12) hx hb hts (by decide +kernel) hown hK hP 0 rfl rfl 0 (by decide) (hts (.fieldLink RX5 35 "CivilDaysModel" "code" "I") (by decide +kernel)) (fun _ h9 => h9) rfl dX5_work_150 ?_
        refine zw_if_ne (tgt := 181) hx hb dX5_work_153 (by decide) ⟨by omega, by omega⟩ (fun h3 => ?_) (fun h3 => ?_)
        · skip
          exact absurd True.intro (by omega)
        · skip
          refine lv_iload hx hb dX5_work_156 (lv_at hl 0 rfl) ?_
          refine lv_aload_n hx hb dX5_work_158 rfl (lv_at hl 2 rfl) ?_
          refine lv_iload hx hb dX5_work_159 (lv_at hl 1 rfl) ?_
          have hh4 := c_X5_works l dC dI cI g0 ps pk pa pb pq pw pt 0 ru we wr ty kf af bf zf dd (by omega) (by omega) (by first | exact hpr | exact hp5 | exact hp3) (by omega)
          have hPc := hP.sub (ws' := [(g0, .inr (5, [.int (zi 0), .ref ps, .int (zi ru), .ref pk, .ref pa, .ref pb, .ref pq, .int (zi we), .int (zi wr), .ref pw, .int (zi ty), .ref pt])), (pk, aI cI 12 kf), (pa, aI cI 12 af), (pb, aI cI 12 bf), (pq, aI cI 12 zf)]) [0, 2, 3, 4, 5] rfl
          have hKc : va_K (dC, dI) vwCl [(cI, .int)] s := hK
          refine vp_callSi (va_Run.run (va_runV (As := [.int (zi dd)]) (rest := [.int (zi nn)]) ⟨hx, hb, hml, hown, hts⟩ hh4 (cwV 1 hts gX5_work_X5_works rfl rfl rfl (by decide +kernel) ⟨Nat.le_of_ble_eq_true rfl, Nat.le_of_ble_eq_true rfl⟩) ⟨zPr.blind _ _ _ _, va_recv hKc hPc (ci := 5) (q0 := 0) rfl rfl, fun U hU hW => ⟨rfl, by rw [hU]; exact hPc, va_K.moved hW.alike hKc⟩⟩ rfl rfl hl.1 rfl (lv_room (Nat.le_of_ble_eq_true rfl)) dX5_work_161 ⟨Nat.le_of_ble_eq_true rfl, Nat.le_of_ble_eq_true rfl⟩)) (fun r4 (hr4 : r4 = zi (wkX5 we kf af bf zf ru dd)) => ?_)
          subst hr4
          have hf4_0 := wkX5_s we kf af bf zf ru dd
          have hwk := wkX5_s we kf af bf zf ru dd
          refine zw_if_eq (tgt := 171) hx hb dX5_work_164 (by decide) ⟨by omega, by omega⟩ (fun h5 => ?_) (fun h5 => ?_)
          · skip
            refine zw_iconst hx hb dX5_work_171 ?_
            refine zw_iadd hx hb dX5_work_172 ?_
            refine zw_top (fun x6 ex6 => ?_)
            refine lv_istore (lv' := [(5, .int (zi x6)), (6, .int (zi dd)), (0, .ref g0), (1, .int (zi sl)), (2, .int (zi ot)), (3, .int (zi (sf sl.toNat))), (4, .int (zi (sf ot.toNat)))]) hx hb dX5_work_173 hl (by decide) rfl (fun ls hl => ?_)
            obtain ⟨x7, ex7⟩ : ∃ z : Int, z = dd + 1 := ⟨_, rfl⟩
            refine zw_iinc (lv' := [(6, .int (zi x7)), (5, .int (zi x6)), (0, .ref g0), (1, .int (zi sl)), (2, .int (zi ot)), (3, .int (zi (sf sl.toNat))), (4, .int (zi (sf ot.toNat)))]) (k := 1) hx hb ex7 dX5_work_175 hl rfl (by decide) rfl (fun ls hl => ?_)
            refine lv_goto (tgt := 142) hx hb dX5_work_178 (by decide) ?_
            subst ex6 ex7
            have hP9 := hP.sub (ws' := [(g0, .inr (5, [.int (zi 0), .ref ps, .int (zi ru), .ref pk, .ref pa, .ref pb, .ref pq, .int (zi we), .int (zi wr), .ref pw, .int (zi ty), .ref pt])), (ps, aI cI 10 sf), (pk, aI cI 12 kf), (pa, aI cI 12 af), (pb, aI cI 12 bf), (pq, aI cI 12 zf)]) [0, 1, 2, 3, 4, 5] rfl
            have hD9 := hD.sub (ws' := [(g0, .inr (5, [.int (zi 0), .ref ps, .int (zi ru), .ref pk, .ref pa, .ref pb, .ref pq, .int (zi we), .int (zi wr), .ref pw, .int (zi ty), .ref pt])), (ps, aI cI 10 sf), (pk, aI cI 12 kf), (pa, aI cI 12 af), (pb, aI cI 12 bf), (pq, aI cI 12 zf)]) [0, 1, 2, 3, 4, 5] (by decide) rfl
            exact ih (nn + 0) (dd + 1) (by omega) (by omega) (by omega) (by omega) ls _ _ (lv_sub hl [1, 0, 2, 3, 4, 5, 6] rfl) hP9 hD9 hS
          · skip
            refine zw_iconst hx hb dX5_work_167 ?_
            refine lv_goto (tgt := 172) hx hb dX5_work_168 (by decide) ?_
            refine zw_iadd hx hb dX5_work_172 ?_
            refine zw_top (fun x8 ex8 => ?_)
            refine lv_istore (lv' := [(5, .int (zi x8)), (6, .int (zi dd)), (0, .ref g0), (1, .int (zi sl)), (2, .int (zi ot)), (3, .int (zi (sf sl.toNat))), (4, .int (zi (sf ot.toNat)))]) hx hb dX5_work_173 hl (by decide) rfl (fun ls hl => ?_)
            obtain ⟨x9, ex9⟩ : ∃ z : Int, z = dd + 1 := ⟨_, rfl⟩
            refine zw_iinc (lv' := [(6, .int (zi x9)), (5, .int (zi x8)), (0, .ref g0), (1, .int (zi sl)), (2, .int (zi ot)), (3, .int (zi (sf sl.toNat))), (4, .int (zi (sf ot.toNat)))]) (k := 1) hx hb ex9 dX5_work_175 hl rfl (by decide) rfl (fun ls hl => ?_)
            refine lv_goto (tgt := 142) hx hb dX5_work_178 (by decide) ?_
            subst ex8 ex9
            have hP9 := hP.sub (ws' := [(g0, .inr (5, [.int (zi 0), .ref ps, .int (zi ru), .ref pk, .ref pa, .ref pb, .ref pq, .int (zi we), .int (zi wr), .ref pw, .int (zi ty), .ref pt])), (ps, aI cI 10 sf), (pk, aI cI 12 kf), (pa, aI cI 12 af), (pb, aI cI 12 bf), (pq, aI cI 12 zf)]) [0, 1, 2, 3, 4, 5] rfl
            have hD9 := hD.sub (ws' := [(g0, .inr (5, [.int (zi 0), .ref ps, .int (zi ru), .ref pk, .ref pa, .ref pb, .ref pq, .int (zi we), .int (zi wr), .ref pw, .int (zi ty), .ref pt])), (ps, aI cI 10 sf), (pk, aI cI 12 kf), (pa, aI cI 12 af), (pb, aI cI 12 bf), (pq, aI cI 12 zf)]) [0, 1, 2, 3, 4, 5] (by decide) rfl
            exact ih (nn + 1) (dd + 1) (by omega) (by omega) (by omega) (by omega) ls _ _ (lv_sub hl [1, 0, 2, 3, 4, 5, 6] rfl) hP9 hD9 hS
  have hl := lv_entry ([.ref g0, .int (zi sl), .int (zi ot)]) (n := 7) (Nat.le_of_ble_eq_true rfl)
  rw [lg_entry_eq]
  generalize (lg_sl ([.ref g0, .int (zi sl), .int (zi ot)]) ++ List.replicate (7 - (lg_sl ([.ref g0, .int (zi sl), .int (zi ot)])).length) Slot.unset).toArray = ls at hl ⊢
  have hl : lv_has ls 7 [(0, .ref g0), (1, .int (zi sl)), (2, .int (zi ot))] := hl
  have hpr := hp5
  refine lv_aload_n hx hb dX5_work_0 rfl (lv_at hl 0 rfl) ?_
  refine lv_iload_n hx hb dX5_work_1 rfl (lv_at hl 1 rfl) ?_
  have hh10 := c_X5_isSlot l sl (by omega)
  refine vp_callSi (va_Run.run (va_runS (As := [.int (zi sl)]) (rest := [.ref g0]) ⟨hx, hb, hml, hown, hts⟩ hh10 (va_cwS 1 hts gX5_work_X5_isSlot rfl rfl rfl (by decide +kernel) ⟨Nat.le_of_ble_eq_true rfl, Nat.le_of_ble_eq_true rfl⟩) ⟨fun a U g mk q => q, fun U hU hW => ⟨rfl, trivial⟩⟩ rfl rfl hl.1 rfl (lv_room (Nat.le_of_ble_eq_true rfl)) dX5_work_2 ⟨Nat.zero_le _, Nat.zero_le _⟩)) (fun r10 (hr10 : r10 = zi (f_X5_isSlot sl)) => ?_)
  subst hr10
  have hf10 := b_X5_isSlot sl (by omega)
  refine zw_if_eq (tgt := 15) hx hb dX5_work_5 (by decide) ⟨by omega, by omega⟩ (fun h11 => ?_) (fun h11 => ?_)
  · skip
    exact absurd True.intro (by omega)
  · skip
    refine lv_iload_n hx hb dX5_work_8 rfl (lv_at hl 2 rfl) ?_
    have hh12 := c_X5_isSlot l ot (by omega)
    refine vp_callSi (va_Run.run (va_runS (As := [.int (zi ot)]) (rest := [.ref g0]) ⟨hx, hb, hml, hown, hts⟩ hh12 (va_cwS 1 hts gX5_work_X5_isSlot rfl rfl rfl (by decide +kernel) ⟨Nat.le_of_ble_eq_true rfl, Nat.le_of_ble_eq_true rfl⟩) ⟨fun a U g mk q => q, fun U hU hW => ⟨rfl, trivial⟩⟩ rfl rfl hl.1 rfl (lv_room (Nat.le_of_ble_eq_true rfl)) dX5_work_9 ⟨Nat.zero_le _, Nat.zero_le _⟩)) (fun r12 (hr12 : r12 = zi (f_X5_isSlot ot)) => ?_)
    subst hr12
    have hf12 := b_X5_isSlot ot (by omega)
    refine zw_if_ne (tgt := 19) hx hb dX5_work_12 (by decide) ⟨by omega, by omega⟩ (fun h13 => ?_) (fun h13 => ?_)
    · skip
      refine lv_aload_n hx hb dX5_work_19 rfl (lv_at hl 0 rfl) ?_
      refine va_get (D := (dC, dI)) (ci := 5) (v := .ref ps) (C := RX5) (T := TX5) (N := 12) hx hb hts (by decide +kernel) hown hK hP 0 rfl rfl 1 (by decide) (hts (.fieldLink RX5 7 "CivilDaysModel" "slots" "[I") (by decide +kernel)) (fun _ h9 => h9) rfl dX5_work_20 ?_
      refine lv_iload_n hx hb dX5_work_23 rfl (lv_at hl 1 rfl) ?_
      refine zw_iald hx hb hK hP 1 0 rfl rfl (by omega) (by omega) ⟨by omega, by omega⟩ dX5_work_24 ?_
      refine zw_if_lt (tgt := 37) hx hb dX5_work_25 (by decide) ⟨by omega, by omega⟩ (fun h14 => ?_) (fun h14 => ?_)
      · skip
        exact absurd True.intro (by omega)
      · skip
        refine lv_aload_n hx hb dX5_work_28 rfl (lv_at hl 0 rfl) ?_
        refine va_get (D := (dC, dI)) (ci := 5) (v := .ref ps) (C := RX5) (T := TX5) (N := 12) hx hb hts (by decide +kernel) hown hK hP 0 rfl rfl 1 (by decide) (hts (.fieldLink RX5 7 "CivilDaysModel" "slots" "[I") (by decide +kernel)) (fun _ h9 => h9) rfl dX5_work_29 ?_
        refine lv_iload_n hx hb dX5_work_32 rfl (lv_at hl 2 rfl) ?_
        refine zw_iald hx hb hK hP 1 0 rfl rfl (by omega) (by omega) ⟨by omega, by omega⟩ dX5_work_33 ?_
        refine zw_if_ge (tgt := 41) hx hb dX5_work_34 (by decide) ⟨by omega, by omega⟩ (fun h15 => ?_) (fun h15 => ?_)
        · skip
          refine zw_iconst hx hb dX5_work_41 ?_
          refine va_put (D := (dC, dI)) (ci := 5) (v := .int (zi 0)) (ty := .int) (C := RX5) (T := TX5) (N := 12) hx hb hts (by decide +kernel) tyX5 tyX5_ok nmX5 hown hK hP hD hS 0 rfl rfl 0 (by decide) (hts (.fieldLink RX5 35 "CivilDaysModel" "code" "I") (by decide +kernel)) (fun _ h9 => h9) rfl (by decide +kernel) rfl rfl (Nat.le_of_ble_eq_true rfl) dX5_work_42 (fun H locs hP hD hS => ?_)
          have hP : va_P (dC, dI) vwCl [(g0, .inr (5, [.int (zi 0), .ref ps, .int (zi ru), .ref pk, .ref pa, .ref pb, .ref pq, .int (zi we), .int (zi wr), .ref pw, .int (zi ty), .ref pt])), (ps, aI cI 10 sf), (pk, aI cI 12 kf), (pa, aI cI 12 af), (pb, aI cI 12 bf), (pq, aI cI 12 zf)] H := hP
          have hD : va_D A [(g0, .inr (5, [.int (zi 0), .ref ps, .int (zi ru), .ref pk, .ref pa, .ref pb, .ref pq, .int (zi we), .int (zi wr), .ref pw, .int (zi ty), .ref pt])), (ps, aI cI 10 sf), (pk, aI cI 12 kf), (pa, aI cI 12 af), (pb, aI cI 12 bf), (pq, aI cI 12 zf)] := hD
          refine lv_aload_n hx hb dX5_work_45 rfl (lv_at hl 0 rfl) ?_
          refine va_get (D := (dC, dI)) (ci := 5) (v := .int (zi 0)) (C := RX5) (T := TX5) (N := 12) hx hb hts (by decide +kernel) hown hK hP 0 rfl rfl 0 (by decide) (hts (.fieldLink RX5 35 "CivilDaysModel" "code" "I") (by decide +kernel)) (fun _ h9 => h9) rfl dX5_work_46 ?_
          refine zw_if_le (tgt := 54) hx hb dX5_work_49 (by decide) ⟨by omega, by omega⟩ (fun h16 => ?_) (fun h16 => ?_)
          · skip
            refine lv_aload_n hx hb dX5_work_54 rfl (lv_at hl 0 rfl) ?_
            refine va_get (D := (dC, dI)) (ci := 5) (v := .ref ps) (C := RX5) (T := TX5) (N := 12) hx hb hts (by decide +kernel) hown hK hP 0 rfl rfl 1 (by decide) (hts (.fieldLink RX5 7 "CivilDaysModel" "slots" "[I") (by decide +kernel)) (fun _ h9 => h9) rfl dX5_work_55 ?_
            refine lv_iload_n hx hb dX5_work_58 rfl (lv_at hl 1 rfl) ?_
            refine zw_iald hx hb hK hP 1 0 rfl rfl (by omega) (by omega) ⟨by omega, by omega⟩ dX5_work_59 ?_
            refine lv_aload_n hx hb dX5_work_60 rfl (lv_at hl 0 rfl) ?_
            refine va_get (D := (dC, dI)) (ci := 5) (v := .ref ps) (C := RX5) (T := TX5) (N := 12) hx hb hts (by decide +kernel) hown hK hP 0 rfl rfl 1 (by decide) (hts (.fieldLink RX5 7 "CivilDaysModel" "slots" "[I") (by decide +kernel)) (fun _ h9 => h9) rfl dX5_work_61 ?_
            refine lv_iload_n hx hb dX5_work_64 rfl (lv_at hl 2 rfl) ?_
            refine zw_iald hx hb hK hP 1 0 rfl rfl (by omega) (by omega) ⟨by omega, by omega⟩ dX5_work_65 ?_
            refine zw_icmp_ge (tgt := 78) hx hb dX5_work_66 (by decide) ⟨by omega, by omega⟩ ⟨by omega, by omega⟩ (fun h17 => ?_) (fun h17 => ?_)
            · skip
              exact absurd True.intro (by omega)
            · skip
              refine lv_aload_n hx hb dX5_work_69 rfl (lv_at hl 0 rfl) ?_
              refine va_get (D := (dC, dI)) (ci := 5) (v := .ref ps) (C := RX5) (T := TX5) (N := 12) hx hb hts (by decide +kernel) hown hK hP 0 rfl rfl 1 (by decide) (hts (.fieldLink RX5 7 "CivilDaysModel" "slots" "[I") (by decide +kernel)) (fun _ h9 => h9) rfl dX5_work_70 ?_
              refine lv_iload_n hx hb dX5_work_73 rfl (lv_at hl 1 rfl) ?_
              refine zw_iald hx hb hK hP 1 0 rfl rfl (by omega) (by omega) ⟨by omega, by omega⟩ dX5_work_74 ?_
              refine lv_goto (tgt := 84) hx hb dX5_work_75 (by decide) ?_
              refine zw_top (fun x18 ex18 => ?_)
              refine lv_istore_n (lv' := [(3, .int (zi x18)), (0, .ref g0), (1, .int (zi sl)), (2, .int (zi ot))]) hx hb dX5_work_84 rfl hl (by decide) rfl (fun ls hl => ?_)
              refine lv_aload_n hx hb dX5_work_85 rfl (lv_at hl 1 rfl) ?_
              refine va_get (D := (dC, dI)) (ci := 5) (v := .ref ps) (C := RX5) (T := TX5) (N := 12) hx hb hts (by decide +kernel) hown hK hP 0 rfl rfl 1 (by decide) (hts (.fieldLink RX5 7 "CivilDaysModel" "slots" "[I") (by decide +kernel)) (fun _ h9 => h9) rfl dX5_work_86 ?_
              refine lv_iload_n hx hb dX5_work_89 rfl (lv_at hl 2 rfl) ?_
              refine zw_iald hx hb hK hP 1 0 rfl rfl (by omega) (by omega) ⟨by omega, by omega⟩ dX5_work_90 ?_
              refine lv_aload_n hx hb dX5_work_91 rfl (lv_at hl 1 rfl) ?_
              refine va_get (D := (dC, dI)) (ci := 5) (v := .ref ps) (C := RX5) (T := TX5) (N := 12) hx hb hts (by decide +kernel) hown hK hP 0 rfl rfl 1 (by decide) (hts (.fieldLink RX5 7 "CivilDaysModel" "slots" "[I") (by decide +kernel)) (fun _ h9 => h9) rfl dX5_work_92 ?_
              refine lv_iload_n hx hb dX5_work_95 rfl (lv_at hl 3 rfl) ?_
              refine zw_iald hx hb hK hP 1 0 rfl rfl (by omega) (by omega) ⟨by omega, by omega⟩ dX5_work_96 ?_
              refine zw_icmp_ge (tgt := 109) hx hb dX5_work_97 (by decide) ⟨by omega, by omega⟩ ⟨by omega, by omega⟩ (fun h19 => ?_) (fun h19 => ?_)
              · skip
                exact absurd True.intro (by omega)
              · skip
                refine lv_aload_n hx hb dX5_work_100 rfl (lv_at hl 1 rfl) ?_
                refine va_get (D := (dC, dI)) (ci := 5) (v := .ref ps) (C := RX5) (T := TX5) (N := 12) hx hb hts (by decide +kernel) hown hK hP 0 rfl rfl 1 (by decide) (hts (.fieldLink RX5 7 "CivilDaysModel" "slots" "[I") (by decide +kernel)) (fun _ h9 => h9) rfl dX5_work_101 ?_
                refine lv_iload_n hx hb dX5_work_104 rfl (lv_at hl 3 rfl) ?_
                refine zw_iald hx hb hK hP 1 0 rfl rfl (by omega) (by omega) ⟨by omega, by omega⟩ dX5_work_105 ?_
                refine lv_goto (tgt := 115) hx hb dX5_work_106 (by decide) ?_
                refine zw_top (fun x20 ex20 => ?_)
                refine lv_istore (lv' := [(4, .int (zi x20)), (3, .int (zi x18)), (0, .ref g0), (1, .int (zi sl)), (2, .int (zi ot))]) hx hb dX5_work_115 hl (by decide) rfl (fun ls hl => ?_)
                refine lv_aload_n hx hb dX5_work_117 rfl (lv_at hl 2 rfl) ?_
                refine lv_iload hx hb dX5_work_118 (lv_at hl 0 rfl) ?_
                refine lv_iload_n hx hb dX5_work_120 rfl (lv_at hl 1 rfl) ?_
                refine zw_isub hx hb dX5_work_121 ?_
                refine zw_sipush hx hb dX5_work_122 (by decide) ?_
                refine zw_icmp_le (tgt := 132) hx hb dX5_work_125 (by decide) ⟨by omega, by omega⟩ ⟨by omega, by omega⟩ (fun h21 => ?_) (fun h21 => ?_)
                · skip
                  refine zw_iconst hx hb dX5_work_132 ?_
                  refine va_put (D := (dC, dI)) (ci := 5) (v := .int (zi 0)) (ty := .int) (C := RX5) (T := TX5) (N := 12) hx hb hts (by decide +kernel) tyX5 tyX5_ok nmX5 hown hK hP hD hS 0 rfl rfl 0 (by decide) (hts (.fieldLink RX5 35 "CivilDaysModel" "code" "I") (by decide +kernel)) (fun _ h9 => h9) rfl (by decide +kernel) rfl rfl (Nat.le_of_ble_eq_true rfl) dX5_work_133 (fun H locs hP hD hS => ?_)
                  have hP : va_P (dC, dI) vwCl [(g0, .inr (5, [.int (zi 0), .ref ps, .int (zi ru), .ref pk, .ref pa, .ref pb, .ref pq, .int (zi we), .int (zi wr), .ref pw, .int (zi ty), .ref pt])), (ps, aI cI 10 sf), (pk, aI cI 12 kf), (pa, aI cI 12 af), (pb, aI cI 12 bf), (pq, aI cI 12 zf)] H := hP
                  have hD : va_D A [(g0, .inr (5, [.int (zi 0), .ref ps, .int (zi ru), .ref pk, .ref pa, .ref pb, .ref pq, .int (zi we), .int (zi wr), .ref pw, .int (zi ty), .ref pt])), (ps, aI cI 10 sf), (pk, aI cI 12 kf), (pa, aI cI 12 af), (pb, aI cI 12 bf), (pq, aI cI 12 zf)] := hD
                  refine zw_iconst hx hb dX5_work_136 ?_
                  refine lv_istore (lv' := [(5, .int (zi 0)), (4, .int (zi x20)), (3, .int (zi x18)), (0, .ref g0), (1, .int (zi sl)), (2, .int (zi ot))]) hx hb dX5_work_137 hl (by decide) rfl (fun ls hl => ?_)
                  refine lv_iload_n hx hb dX5_work_139 rfl (lv_at hl 2 rfl) ?_
                  refine lv_istore (lv' := [(6, .int (zi x18)), (5, .int (zi 0)), (4, .int (zi x20)), (3, .int (zi x18)), (0, .ref g0), (1, .int (zi sl)), (2, .int (zi ot))]) hx hb dX5_work_140 hl (by decide) rfl (fun ls hl => ?_)
                  subst ex18 ex20
                  have hP9 := hP.sub (ws' := [(g0, .inr (5, [.int (zi 0), .ref ps, .int (zi ru), .ref pk, .ref pa, .ref pb, .ref pq, .int (zi we), .int (zi wr), .ref pw, .int (zi ty), .ref pt])), (ps, aI cI 10 sf), (pk, aI cI 12 kf), (pa, aI cI 12 af), (pb, aI cI 12 bf), (pq, aI cI 12 zf)]) [0, 1, 2, 3, 4, 5] rfl
                  have hD9 := hD.sub (ws' := [(g0, .inr (5, [.int (zi 0), .ref ps, .int (zi ru), .ref pk, .ref pa, .ref pb, .ref pq, .int (zi we), .int (zi wr), .ref pw, .int (zi ty), .ref pt])), (ps, aI cI 10 sf), (pk, aI cI 12 kf), (pa, aI cI 12 af), (pb, aI cI 12 bf), (pq, aI cI 12 zf)]) [0, 1, 2, 3, 4, 5] (by decide) rfl
                  exact loop142 (4001) 0 (sf sl.toNat) (by omega) (by omega) (by omega) (by omega) ls _ _ (lv_sub hl [1, 0, 4, 5, 6, 3, 2] rfl) hP9 hD9 hS
                · skip
                  exact absurd True.intro (by omega)
          · skip
            exact absurd True.intro (by omega)
        · skip
          exact absurd True.intro (by omega)
    · skip
      exact absurd True.intro (by omega)

set_option maxHeartbeats 4000000 in
set_option maxRecDepth 100000 in
theorem c_X5_work_3ge (l : Launch)  (dC : Nat → ClassId) (dI : Nat → Nat → Nat) (cI : ClassId) (g0 : Nat) (ps : Nat) (pk : Nat) (pa : Nat) (pb : Nat) (pq : Nat) (pw : Nat) (pt : Nat) (co : Int) (ru : Int) (we : Int) (wr : Int) (ty : Int) (sf : Nat → Int) (kf : Nat → Int) (af : Nat → Int) (bf : Nat → Int) (zf : Nat → Int) (sl : Int) (ot : Int) (sz : Nat) (hp0 : 0 ≤ sl ∧ sl ≤ 9) (hp1 : 0 ≤ ot ∧ ot ≤ 9) (hp2 : 0 ≤ (sf sl.toNat) ∧ (sf sl.toNat) ≤ 3652058) (hp3 : 0 ≤ (sf ot.toNat) ∧ (sf ot.toNat) ≤ 3652058) (hp4 : (sf ot.toNat) ≤ (sf sl.toNat)) (hp5 : 4000 < (sf sl.toNat) - (sf ot.toNat)) : Met l yX5_work wsX5_work ({ frames := 2, cells := 0, slots := 0, locals := 42 }) (zPw (dC, dI) [(cI, .int)] sz [.ref g0, .int (zi sl), .int (zi ot)] [(g0, .inr (5, [.int (zi co), .ref ps, .int (zi ru), .ref pk, .ref pa, .ref pb, .ref pq, .int (zi we), .int (zi wr), .ref pw, .int (zi ty), .ref pt])), (ps, aI cI 10 sf), (pk, aI cI 12 kf), (pa, aI cI 12 af), (pb, aI cI 12 bf), (pq, aI cI 12 zf)]) (va_Qi (fun (r : Int32) (_ : Unit) => r = zi 0) (zB (dC, dI) [(cI, .int)] (va_A [(g0, .inr (5, [.int (zi co), .ref ps, .int (zi ru), .ref pk, .ref pa, .ref pb, .ref pq, .int (zi we), .int (zi wr), .ref pw, .int (zi ty), .ref pt])), (ps, aI cI 10 sf), (pk, aI cI 12 kf), (pa, aI cI 12 af), (pb, aI cI 12 bf), (pq, aI cI 12 zf)] sz) [(g0, .inr (5, [.int (zi 3), .ref ps, .int (zi ru), .ref pk, .ref pa, .ref pb, .ref pq, .int (zi we), .int (zi wr), .ref pw, .int (zi ty), .ref pt])), (ps, aI cI 10 sf), (pk, aI cI 12 kf), (pa, aI cI 12 af), (pb, aI cI 12 bf), (pq, aI cI 12 zf)]) (va_A [(g0, .inr (5, [.int (zi co), .ref ps, .int (zi ru), .ref pk, .ref pa, .ref pb, .ref pq, .int (zi we), .int (zi wr), .ref pw, .int (zi ty), .ref pt])), (ps, aI cI 10 sf), (pk, aI cI 12 kf), (pa, aI cI 12 af), (pb, aI cI 12 bf), (pq, aI cI 12 zf)] sz)) 0 0 (va_A [(g0, .inr (5, [.int (zi co), .ref ps, .int (zi ru), .ref pk, .ref pa, .ref pb, .ref pq, .int (zi we), .int (zi wr), .ref pw, .int (zi ty), .ref pt])), (ps, aI cI 10 sf), (pk, aI cI 12 kf), (pa, aI cI 12 af), (pb, aI cI 12 bf), (pq, aI cI 12 zf)] sz) := by
  refine Met.ofW (cc := cX5_work) (maxL := 7) (ret := (some .int)) (by decide) rfl ?_
  intro p e s m args below meth c s₁ B hml hv
  obtain ⟨rfl, hsz, hP, hK, hD0⟩ := hv
  have hx := B.exec
  have hb := B.bytes
  have hr := B.returns
  have hts := atoms_spec (ws := wsX5_work) B.pre
  have hown : s.vm.findClass RX5 = some m.cls := findClass_of_methodNamed B.named
  have hlocks := B.notSynchronized
  subst hsz
  have hD := hD0.self (sz := s.heap.size)
  generalize hAe : va_A [(g0, .inr (5, [.int (zi co), .ref ps, .int (zi ru), .ref pk, .ref pa, .ref pb, .ref pq, .int (zi we), .int (zi wr), .ref pw, .int (zi ty), .ref pt])), (ps, aI cI 10 sf), (pk, aI cI 12 kf), (pa, aI cI 12 af), (pb, aI cI 12 bf), (pq, aI cI 12 zf)] s.heap.size = A at hD ⊢
  have hA : ∀ q : Nat, s.heap.size ≤ q → A q := fun q h => by rw [← hAe]; exact Or.inr h
  have hS : va_S A s.heap s.heap [] := va_S.rf
  have hP : va_P (dC, dI) vwCl [(g0, .inr (5, [.int (zi co), .ref ps, .int (zi ru), .ref pk, .ref pa, .ref pb, .ref pq, .int (zi we), .int (zi wr), .ref pw, .int (zi ty), .ref pt])), (ps, aI cI 10 sf), (pk, aI cI 12 kf), (pa, aI cI 12 af), (pb, aI cI 12 bf), (pq, aI cI 12 zf)] s.heap := hP
  have hl := lv_entry ([.ref g0, .int (zi sl), .int (zi ot)]) (n := 7) (Nat.le_of_ble_eq_true rfl)
  rw [lg_entry_eq]
  generalize (lg_sl ([.ref g0, .int (zi sl), .int (zi ot)]) ++ List.replicate (7 - (lg_sl ([.ref g0, .int (zi sl), .int (zi ot)])).length) Slot.unset).toArray = ls at hl ⊢
  have hl : lv_has ls 7 [(0, .ref g0), (1, .int (zi sl)), (2, .int (zi ot))] := hl
  first | have hpr := hp5 | skip
  refine lv_aload_n hx hb dX5_work_0 rfl (lv_at hl 0 rfl) ?_
  refine lv_iload_n hx hb dX5_work_1 rfl (lv_at hl 1 rfl) ?_
  have hh1 := c_X5_isSlot l sl (by omega)
  refine vp_callSi (va_Run.run (va_runS (As := [.int (zi sl)]) (rest := [.ref g0]) ⟨hx, hb, hml, hown, hts⟩ hh1 (va_cwS 1 hts gX5_work_X5_isSlot rfl rfl rfl (by decide +kernel) ⟨Nat.le_of_ble_eq_true rfl, Nat.le_of_ble_eq_true rfl⟩) ⟨fun a U g mk q => q, fun U hU hW => ⟨rfl, trivial⟩⟩ rfl rfl hl.1 rfl (lv_room (Nat.le_of_ble_eq_true rfl)) dX5_work_2 ⟨Nat.zero_le _, Nat.zero_le _⟩)) (fun r1 (hr1 : r1 = zi (f_X5_isSlot sl)) => ?_)
  subst hr1
  have hf1 := b_X5_isSlot sl (by omega)
  refine zw_if_eq (tgt := 15) hx hb dX5_work_5 (by decide) ⟨by omega, by omega⟩ (fun h2 => ?_) (fun h2 => ?_)
  · skip
    exact absurd True.intro (by omega)
  · skip
    refine lv_iload_n hx hb dX5_work_8 rfl (lv_at hl 2 rfl) ?_
    have hh3 := c_X5_isSlot l ot (by omega)
    refine vp_callSi (va_Run.run (va_runS (As := [.int (zi ot)]) (rest := [.ref g0]) ⟨hx, hb, hml, hown, hts⟩ hh3 (va_cwS 1 hts gX5_work_X5_isSlot rfl rfl rfl (by decide +kernel) ⟨Nat.le_of_ble_eq_true rfl, Nat.le_of_ble_eq_true rfl⟩) ⟨fun a U g mk q => q, fun U hU hW => ⟨rfl, trivial⟩⟩ rfl rfl hl.1 rfl (lv_room (Nat.le_of_ble_eq_true rfl)) dX5_work_9 ⟨Nat.zero_le _, Nat.zero_le _⟩)) (fun r3 (hr3 : r3 = zi (f_X5_isSlot ot)) => ?_)
    subst hr3
    have hf3 := b_X5_isSlot ot (by omega)
    refine zw_if_ne (tgt := 19) hx hb dX5_work_12 (by decide) ⟨by omega, by omega⟩ (fun h4 => ?_) (fun h4 => ?_)
    · skip
      refine lv_aload_n hx hb dX5_work_19 rfl (lv_at hl 0 rfl) ?_
      refine va_get (D := (dC, dI)) (ci := 5) (v := .ref ps) (C := RX5) (T := TX5) (N := 12) hx hb hts (by decide +kernel) hown hK hP 0 rfl rfl 1 (by decide) (hts (.fieldLink RX5 7 "CivilDaysModel" "slots" "[I") (by decide +kernel)) (fun _ h9 => h9) rfl dX5_work_20 ?_
      refine lv_iload_n hx hb dX5_work_23 rfl (lv_at hl 1 rfl) ?_
      refine zw_iald hx hb hK hP 1 0 rfl rfl (by omega) (by omega) ⟨by omega, by omega⟩ dX5_work_24 ?_
      refine zw_if_lt (tgt := 37) hx hb dX5_work_25 (by decide) ⟨by omega, by omega⟩ (fun h5 => ?_) (fun h5 => ?_)
      · skip
        exact absurd True.intro (by omega)
      · skip
        refine lv_aload_n hx hb dX5_work_28 rfl (lv_at hl 0 rfl) ?_
        refine va_get (D := (dC, dI)) (ci := 5) (v := .ref ps) (C := RX5) (T := TX5) (N := 12) hx hb hts (by decide +kernel) hown hK hP 0 rfl rfl 1 (by decide) (hts (.fieldLink RX5 7 "CivilDaysModel" "slots" "[I") (by decide +kernel)) (fun _ h9 => h9) rfl dX5_work_29 ?_
        refine lv_iload_n hx hb dX5_work_32 rfl (lv_at hl 2 rfl) ?_
        refine zw_iald hx hb hK hP 1 0 rfl rfl (by omega) (by omega) ⟨by omega, by omega⟩ dX5_work_33 ?_
        refine zw_if_ge (tgt := 41) hx hb dX5_work_34 (by decide) ⟨by omega, by omega⟩ (fun h6 => ?_) (fun h6 => ?_)
        · skip
          refine zw_iconst hx hb dX5_work_41 ?_
          refine va_put (D := (dC, dI)) (ci := 5) (v := .int (zi 0)) (ty := .int) (C := RX5) (T := TX5) (N := 12) hx hb hts (by decide +kernel) tyX5 tyX5_ok nmX5 hown hK hP hD hS 0 rfl rfl 0 (by decide) (hts (.fieldLink RX5 35 "CivilDaysModel" "code" "I") (by decide +kernel)) (fun _ h9 => h9) rfl (by decide +kernel) rfl rfl (Nat.le_of_ble_eq_true rfl) dX5_work_42 (fun H locs hP hD hS => ?_)
          have hP : va_P (dC, dI) vwCl [(g0, .inr (5, [.int (zi 0), .ref ps, .int (zi ru), .ref pk, .ref pa, .ref pb, .ref pq, .int (zi we), .int (zi wr), .ref pw, .int (zi ty), .ref pt])), (ps, aI cI 10 sf), (pk, aI cI 12 kf), (pa, aI cI 12 af), (pb, aI cI 12 bf), (pq, aI cI 12 zf)] H := hP
          have hD : va_D A [(g0, .inr (5, [.int (zi 0), .ref ps, .int (zi ru), .ref pk, .ref pa, .ref pb, .ref pq, .int (zi we), .int (zi wr), .ref pw, .int (zi ty), .ref pt])), (ps, aI cI 10 sf), (pk, aI cI 12 kf), (pa, aI cI 12 af), (pb, aI cI 12 bf), (pq, aI cI 12 zf)] := hD
          refine lv_aload_n hx hb dX5_work_45 rfl (lv_at hl 0 rfl) ?_
          refine va_get (D := (dC, dI)) (ci := 5) (v := .int (zi 0)) (C := RX5) (T := TX5) (N := 12) hx hb hts (by decide +kernel) hown hK hP 0 rfl rfl 0 (by decide) (hts (.fieldLink RX5 35 "CivilDaysModel" "code" "I") (by decide +kernel)) (fun _ h9 => h9) rfl dX5_work_46 ?_
          refine zw_if_le (tgt := 54) hx hb dX5_work_49 (by decide) ⟨by omega, by omega⟩ (fun h7 => ?_) (fun h7 => ?_)
          · skip
            refine lv_aload_n hx hb dX5_work_54 rfl (lv_at hl 0 rfl) ?_
            refine va_get (D := (dC, dI)) (ci := 5) (v := .ref ps) (C := RX5) (T := TX5) (N := 12) hx hb hts (by decide +kernel) hown hK hP 0 rfl rfl 1 (by decide) (hts (.fieldLink RX5 7 "CivilDaysModel" "slots" "[I") (by decide +kernel)) (fun _ h9 => h9) rfl dX5_work_55 ?_
            refine lv_iload_n hx hb dX5_work_58 rfl (lv_at hl 1 rfl) ?_
            refine zw_iald hx hb hK hP 1 0 rfl rfl (by omega) (by omega) ⟨by omega, by omega⟩ dX5_work_59 ?_
            refine lv_aload_n hx hb dX5_work_60 rfl (lv_at hl 0 rfl) ?_
            refine va_get (D := (dC, dI)) (ci := 5) (v := .ref ps) (C := RX5) (T := TX5) (N := 12) hx hb hts (by decide +kernel) hown hK hP 0 rfl rfl 1 (by decide) (hts (.fieldLink RX5 7 "CivilDaysModel" "slots" "[I") (by decide +kernel)) (fun _ h9 => h9) rfl dX5_work_61 ?_
            refine lv_iload_n hx hb dX5_work_64 rfl (lv_at hl 2 rfl) ?_
            refine zw_iald hx hb hK hP 1 0 rfl rfl (by omega) (by omega) ⟨by omega, by omega⟩ dX5_work_65 ?_
            refine zw_icmp_ge (tgt := 78) hx hb dX5_work_66 (by decide) ⟨by omega, by omega⟩ ⟨by omega, by omega⟩ (fun h8 => ?_) (fun h8 => ?_)
            · skip
              refine lv_aload_n hx hb dX5_work_78 rfl (lv_at hl 0 rfl) ?_
              refine va_get (D := (dC, dI)) (ci := 5) (v := .ref ps) (C := RX5) (T := TX5) (N := 12) hx hb hts (by decide +kernel) hown hK hP 0 rfl rfl 1 (by decide) (hts (.fieldLink RX5 7 "CivilDaysModel" "slots" "[I") (by decide +kernel)) (fun _ h9 => h9) rfl dX5_work_79 ?_
              refine lv_iload_n hx hb dX5_work_82 rfl (lv_at hl 2 rfl) ?_
              refine zw_iald hx hb hK hP 1 0 rfl rfl (by omega) (by omega) ⟨by omega, by omega⟩ dX5_work_83 ?_
              refine zw_top (fun x9 ex9 => ?_)
              refine lv_istore_n (lv' := [(3, .int (zi x9)), (0, .ref g0), (1, .int (zi sl)), (2, .int (zi ot))]) hx hb dX5_work_84 rfl hl (by decide) rfl (fun ls hl => ?_)
              refine lv_aload_n hx hb dX5_work_85 rfl (lv_at hl 1 rfl) ?_
              refine va_get (D := (dC, dI)) (ci := 5) (v := .ref ps) (C := RX5) (T := TX5) (N := 12) hx hb hts (by decide +kernel) hown hK hP 0 rfl rfl 1 (by decide) (hts (.fieldLink RX5 7 "CivilDaysModel" "slots" "[I") (by decide +kernel)) (fun _ h9 => h9) rfl dX5_work_86 ?_
              refine lv_iload_n hx hb dX5_work_89 rfl (lv_at hl 2 rfl) ?_
              refine zw_iald hx hb hK hP 1 0 rfl rfl (by omega) (by omega) ⟨by omega, by omega⟩ dX5_work_90 ?_
              refine lv_aload_n hx hb dX5_work_91 rfl (lv_at hl 1 rfl) ?_
              refine va_get (D := (dC, dI)) (ci := 5) (v := .ref ps) (C := RX5) (T := TX5) (N := 12) hx hb hts (by decide +kernel) hown hK hP 0 rfl rfl 1 (by decide) (hts (.fieldLink RX5 7 "CivilDaysModel" "slots" "[I") (by decide +kernel)) (fun _ h9 => h9) rfl dX5_work_92 ?_
              refine lv_iload_n hx hb dX5_work_95 rfl (lv_at hl 3 rfl) ?_
              refine zw_iald hx hb hK hP 1 0 rfl rfl (by omega) (by omega) ⟨by omega, by omega⟩ dX5_work_96 ?_
              refine zw_icmp_ge (tgt := 109) hx hb dX5_work_97 (by decide) ⟨by omega, by omega⟩ ⟨by omega, by omega⟩ (fun h10 => ?_) (fun h10 => ?_)
              · skip
                refine lv_aload_n hx hb dX5_work_109 rfl (lv_at hl 1 rfl) ?_
                refine va_get (D := (dC, dI)) (ci := 5) (v := .ref ps) (C := RX5) (T := TX5) (N := 12) hx hb hts (by decide +kernel) hown hK hP 0 rfl rfl 1 (by decide) (hts (.fieldLink RX5 7 "CivilDaysModel" "slots" "[I") (by decide +kernel)) (fun _ h9 => h9) rfl dX5_work_110 ?_
                refine lv_iload_n hx hb dX5_work_113 rfl (lv_at hl 2 rfl) ?_
                refine zw_iald hx hb hK hP 1 0 rfl rfl (by omega) (by omega) ⟨by omega, by omega⟩ dX5_work_114 ?_
                refine zw_top (fun x11 ex11 => ?_)
                refine lv_istore (lv' := [(4, .int (zi x11)), (3, .int (zi x9)), (0, .ref g0), (1, .int (zi sl)), (2, .int (zi ot))]) hx hb dX5_work_115 hl (by decide) rfl (fun ls hl => ?_)
                refine lv_aload_n hx hb dX5_work_117 rfl (lv_at hl 2 rfl) ?_
                refine lv_iload hx hb dX5_work_118 (lv_at hl 0 rfl) ?_
                refine lv_iload_n hx hb dX5_work_120 rfl (lv_at hl 1 rfl) ?_
                refine zw_isub hx hb dX5_work_121 ?_
                refine zw_sipush hx hb dX5_work_122 (by decide) ?_
                refine zw_icmp_le (tgt := 132) hx hb dX5_work_125 (by decide) ⟨by omega, by omega⟩ ⟨by omega, by omega⟩ (fun h12 => ?_) (fun h12 => ?_)
                · skip
                  exact absurd True.intro (by omega)
                · skip
                  refine zw_iconst hx hb dX5_work_128 ?_
                  refine lv_goto (tgt := 133) hx hb dX5_work_129 (by decide) ?_
                  refine va_put (D := (dC, dI)) (ci := 5) (v := .int (zi 3)) (ty := .int) (C := RX5) (T := TX5) (N := 12) hx hb hts (by decide +kernel) tyX5 tyX5_ok nmX5 hown hK hP hD hS 0 rfl rfl 0 (by decide) (hts (.fieldLink RX5 35 "CivilDaysModel" "code" "I") (by decide +kernel)) (fun _ h9 => h9) rfl (by decide +kernel) rfl rfl (Nat.le_of_ble_eq_true rfl) dX5_work_133 (fun H locs hP hD hS => ?_)
                  have hP : va_P (dC, dI) vwCl [(g0, .inr (5, [.int (zi 3), .ref ps, .int (zi ru), .ref pk, .ref pa, .ref pb, .ref pq, .int (zi we), .int (zi wr), .ref pw, .int (zi ty), .ref pt])), (ps, aI cI 10 sf), (pk, aI cI 12 kf), (pa, aI cI 12 af), (pb, aI cI 12 bf), (pq, aI cI 12 zf)] H := hP
                  have hD : va_D A [(g0, .inr (5, [.int (zi 3), .ref ps, .int (zi ru), .ref pk, .ref pa, .ref pb, .ref pq, .int (zi we), .int (zi wr), .ref pw, .int (zi ty), .ref pt])), (ps, aI cI 10 sf), (pk, aI cI 12 kf), (pa, aI cI 12 af), (pb, aI cI 12 bf), (pq, aI cI 12 zf)] := hD
                  refine zw_iconst hx hb dX5_work_136 ?_
                  refine lv_istore (lv' := [(5, .int (zi 0)), (4, .int (zi x11)), (3, .int (zi x9)), (0, .ref g0), (1, .int (zi sl)), (2, .int (zi ot))]) hx hb dX5_work_137 hl (by decide) rfl (fun ls hl => ?_)
                  refine lv_iload_n hx hb dX5_work_139 rfl (lv_at hl 2 rfl) ?_
                  refine lv_istore (lv' := [(6, .int (zi x9)), (5, .int (zi 0)), (4, .int (zi x11)), (3, .int (zi x9)), (0, .ref g0), (1, .int (zi sl)), (2, .int (zi ot))]) hx hb dX5_work_140 hl (by decide) rfl (fun ls hl => ?_)
                  refine lv_iload hx hb dX5_work_142 (lv_at hl 0 rfl) ?_
                  refine lv_iload hx hb dX5_work_144 (lv_at hl 2 rfl) ?_
                  refine zw_icmp_ge (tgt := 181) hx hb dX5_work_146 (by decide) ⟨by omega, by omega⟩ ⟨by omega, by omega⟩ (fun h13 => ?_) (fun h13 => ?_)
                  · skip
                    refine lv_aload_n hx hb dX5_work_181 rfl (lv_at hl 4 rfl) ?_
                    refine va_get (D := (dC, dI)) (ci := 5) (v := .ref ps) (C := RX5) (T := TX5) (N := 12) hx hb hts (by decide +kernel) hown hK hP 0 rfl rfl 1 (by decide) (hts (.fieldLink RX5 7 "CivilDaysModel" "slots" "[I") (by decide +kernel)) (fun _ h9 => h9) rfl dX5_work_182 ?_
                    refine lv_iload_n hx hb dX5_work_185 rfl (lv_at hl 5 rfl) ?_
                    refine zw_iald hx hb hK hP 1 0 rfl rfl (by omega) (by omega) ⟨by omega, by omega⟩ dX5_work_186 ?_
                    refine lv_aload_n hx hb dX5_work_187 rfl (lv_at hl 4 rfl) ?_
                    refine va_get (D := (dC, dI)) (ci := 5) (v := .ref ps) (C := RX5) (T := TX5) (N := 12) hx hb hts (by decide +kernel) hown hK hP 0 rfl rfl 1 (by decide) (hts (.fieldLink RX5 7 "CivilDaysModel" "slots" "[I") (by decide +kernel)) (fun _ h9 => h9) rfl dX5_work_188 ?_
                    refine lv_iload_n hx hb dX5_work_191 rfl (lv_at hl 6 rfl) ?_
                    refine zw_iald hx hb hK hP 1 0 rfl rfl (by omega) (by omega) ⟨by omega, by omega⟩ dX5_work_192 ?_
                    refine zw_icmp_ge (tgt := 201) hx hb dX5_work_193 (by decide) ⟨by omega, by omega⟩ ⟨by omega, by omega⟩ (fun h14 => ?_) (fun h14 => ?_)
                    · skip
                      refine lv_iload hx hb dX5_work_201 (lv_at hl 1 rfl) ?_
                      refine zw_ineg hx hb dX5_work_203 ?_
                      subst ex9 ex11
                      have hP9 := hP.sub (ws' := [(g0, .inr (5, [.int (zi 3), .ref ps, .int (zi ru), .ref pk, .ref pa, .ref pb, .ref pq, .int (zi we), .int (zi wr), .ref pw, .int (zi ty), .ref pt])), (ps, aI cI 10 sf), (pk, aI cI 12 kf), (pa, aI cI 12 af), (pb, aI cI 12 bf), (pq, aI cI 12 zf)]) [0, 1, 2, 3, 4, 5] rfl
                      have hD9 := hD.sub (ws' := [(g0, .inr (5, [.int (zi 3), .ref ps, .int (zi ru), .ref pk, .ref pa, .ref pb, .ref pq, .int (zi we), .int (zi wr), .ref pw, .int (zi ty), .ref pt])), (ps, aI cI 10 sf), (pk, aI cI 12 kf), (pa, aI cI 12 af), (pb, aI cI 12 bf), (pq, aI cI 12 zf)]) [0, 1, 2, 3, 4, 5] (by decide) rfl
                      exact W.iret (v := zi (-0)) hx hb hr (fun t ht hW => ⟨⟨zi (-0), (), rfl, congrArg zi (by omega), by rw [ht]; exact hP9, va_K.moved hW.alike hK, hD9⟩, hS.F ht⟩) hS.2.2 dX5_work_204
                    · skip
                      exact absurd True.intro (by omega)
                  · skip
                    refine lv_aload_n hx hb dX5_work_149 rfl (lv_at hl 4 rfl) ?_
                    refine va_get (D := (dC, dI)) (ci := 5) (v := .int (zi 3)) (C := RX5) (T := TX5) (N := 12) hx hb hts (by decide +kernel) hown hK hP 0 rfl rfl 0 (by decide) (hts (.fieldLink RX5 35 "CivilDaysModel" "code" "I") (by decide +kernel)) (fun _ h9 => h9) rfl dX5_work_150 ?_
                    refine zw_if_ne (tgt := 181) hx hb dX5_work_153 (by decide) ⟨by omega, by omega⟩ (fun h15 => ?_) (fun h15 => ?_)
                    · skip
                      refine lv_aload_n hx hb dX5_work_181 rfl (lv_at hl 4 rfl) ?_
                      refine va_get (D := (dC, dI)) (ci := 5) (v := .ref ps) (C := RX5) (T := TX5) (N := 12) hx hb hts (by decide +kernel) hown hK hP 0 rfl rfl 1 (by decide) (hts (.fieldLink RX5 7 "CivilDaysModel" "slots" "[I") (by decide +kernel)) (fun _ h9 => h9) rfl dX5_work_182 ?_
                      refine lv_iload_n hx hb dX5_work_185 rfl (lv_at hl 5 rfl) ?_
                      refine zw_iald hx hb hK hP 1 0 rfl rfl (by omega) (by omega) ⟨by omega, by omega⟩ dX5_work_186 ?_
                      refine lv_aload_n hx hb dX5_work_187 rfl (lv_at hl 4 rfl) ?_
                      refine va_get (D := (dC, dI)) (ci := 5) (v := .ref ps) (C := RX5) (T := TX5) (N := 12) hx hb hts (by decide +kernel) hown hK hP 0 rfl rfl 1 (by decide) (hts (.fieldLink RX5 7 "CivilDaysModel" "slots" "[I") (by decide +kernel)) (fun _ h9 => h9) rfl dX5_work_188 ?_
                      refine lv_iload_n hx hb dX5_work_191 rfl (lv_at hl 6 rfl) ?_
                      refine zw_iald hx hb hK hP 1 0 rfl rfl (by omega) (by omega) ⟨by omega, by omega⟩ dX5_work_192 ?_
                      refine zw_icmp_ge (tgt := 201) hx hb dX5_work_193 (by decide) ⟨by omega, by omega⟩ ⟨by omega, by omega⟩ (fun h16 => ?_) (fun h16 => ?_)
                      · skip
                        refine lv_iload hx hb dX5_work_201 (lv_at hl 1 rfl) ?_
                        refine zw_ineg hx hb dX5_work_203 ?_
                        subst ex9 ex11
                        have hP9 := hP.sub (ws' := [(g0, .inr (5, [.int (zi 3), .ref ps, .int (zi ru), .ref pk, .ref pa, .ref pb, .ref pq, .int (zi we), .int (zi wr), .ref pw, .int (zi ty), .ref pt])), (ps, aI cI 10 sf), (pk, aI cI 12 kf), (pa, aI cI 12 af), (pb, aI cI 12 bf), (pq, aI cI 12 zf)]) [0, 1, 2, 3, 4, 5] rfl
                        have hD9 := hD.sub (ws' := [(g0, .inr (5, [.int (zi 3), .ref ps, .int (zi ru), .ref pk, .ref pa, .ref pb, .ref pq, .int (zi we), .int (zi wr), .ref pw, .int (zi ty), .ref pt])), (ps, aI cI 10 sf), (pk, aI cI 12 kf), (pa, aI cI 12 af), (pb, aI cI 12 bf), (pq, aI cI 12 zf)]) [0, 1, 2, 3, 4, 5] (by decide) rfl
                        exact W.iret (v := zi (-0)) hx hb hr (fun t ht hW => ⟨⟨zi (-0), (), rfl, congrArg zi (by omega), by rw [ht]; exact hP9, va_K.moved hW.alike hK, hD9⟩, hS.F ht⟩) hS.2.2 dX5_work_204
                      · skip
                        exact absurd True.intro (by omega)
                    · skip
                      exact absurd True.intro (by omega)
              · skip
                exact absurd True.intro (by omega)
            · skip
              exact absurd True.intro (by omega)
          · skip
            exact absurd True.intro (by omega)
        · skip
          exact absurd True.intro (by omega)
    · skip
      exact absurd True.intro (by omega)

set_option maxHeartbeats 4000000 in
set_option maxRecDepth 100000 in
theorem c_X5_work_ge (l : Launch)  (dC : Nat → ClassId) (dI : Nat → Nat → Nat) (cI : ClassId) (g0 : Nat) (ps : Nat) (pk : Nat) (pa : Nat) (pb : Nat) (pq : Nat) (pw : Nat) (pt : Nat) (co : Int) (ru : Int) (we : Int) (wr : Int) (ty : Int) (sf : Nat → Int) (kf : Nat → Int) (af : Nat → Int) (bf : Nat → Int) (zf : Nat → Int) (sl : Int) (ot : Int) (sz : Nat) (hp0 : 0 ≤ sl ∧ sl ≤ 9) (hp1 : 0 ≤ ot ∧ ot ≤ 9) (hp2 : 0 ≤ (sf sl.toNat) ∧ (sf sl.toNat) ≤ 3652058) (hp3 : 0 ≤ (sf ot.toNat) ∧ (sf ot.toNat) ≤ 3652058) (hp4 : 0 ≤ ru ∧ ru ≤ 12) (hp5 : ∀ j : Nat, (j : Int) < ru → (0 ≤ (kf j) ∧ (kf j) ≤ 3) ∧ ((kf j) = 1 ∧ -100 ≤ (af j) ∧ (af j) ≤ 100 ∨ (kf j) ≠ 1 ∧ 1 ≤ (af j) ∧ (af j) ≤ 12) ∧ ((kf j) = 1 ∨ (kf j) = 2 ∧ 1 ≤ (bf j) ∧ (bf j) ≤ 7 ∨ (kf j) ≠ 2 ∧ 1 ≤ (bf j) ∧ (bf j) ≤ 31) ∧ ((kf j) ≠ 2 ∨ (zf j) = -1 ∨ 1 ≤ (zf j) ∧ (zf j) ≤ 4)) (hp6 : 0 ≤ we ∧ we ≤ 127) (hp7 : (sf ot.toNat) ≤ (sf sl.toNat)) (hp8 : (sf sl.toNat) - (sf ot.toNat) ≤ 4000) : Met l yX5_work wsX5_work ({ frames := 7, cells := 0, slots := 0, locals := 159 }) (zPw (dC, dI) [(cI, .int)] sz [.ref g0, .int (zi sl), .int (zi ot)] [(g0, .inr (5, [.int (zi co), .ref ps, .int (zi ru), .ref pk, .ref pa, .ref pb, .ref pq, .int (zi we), .int (zi wr), .ref pw, .int (zi ty), .ref pt])), (ps, aI cI 10 sf), (pk, aI cI 12 kf), (pa, aI cI 12 af), (pb, aI cI 12 bf), (pq, aI cI 12 zf)]) (va_Qi (fun (r : Int32) (_ : Unit) => r = zi (-(zcn (wkX5 we kf af bf zf ru) ((sf sl.toNat) - (sf ot.toNat)).toNat (sf ot.toNat)))) (zB (dC, dI) [(cI, .int)] (va_A [(g0, .inr (5, [.int (zi co), .ref ps, .int (zi ru), .ref pk, .ref pa, .ref pb, .ref pq, .int (zi we), .int (zi wr), .ref pw, .int (zi ty), .ref pt])), (ps, aI cI 10 sf), (pk, aI cI 12 kf), (pa, aI cI 12 af), (pb, aI cI 12 bf), (pq, aI cI 12 zf)] sz) [(g0, .inr (5, [.int (zi 0), .ref ps, .int (zi ru), .ref pk, .ref pa, .ref pb, .ref pq, .int (zi we), .int (zi wr), .ref pw, .int (zi ty), .ref pt])), (ps, aI cI 10 sf), (pk, aI cI 12 kf), (pa, aI cI 12 af), (pb, aI cI 12 bf), (pq, aI cI 12 zf)]) (va_A [(g0, .inr (5, [.int (zi co), .ref ps, .int (zi ru), .ref pk, .ref pa, .ref pb, .ref pq, .int (zi we), .int (zi wr), .ref pw, .int (zi ty), .ref pt])), (ps, aI cI 10 sf), (pk, aI cI 12 kf), (pa, aI cI 12 af), (pb, aI cI 12 bf), (pq, aI cI 12 zf)] sz)) 0 0 (va_A [(g0, .inr (5, [.int (zi co), .ref ps, .int (zi ru), .ref pk, .ref pa, .ref pb, .ref pq, .int (zi we), .int (zi wr), .ref pw, .int (zi ty), .ref pt])), (ps, aI cI 10 sf), (pk, aI cI 12 kf), (pa, aI cI 12 af), (pb, aI cI 12 bf), (pq, aI cI 12 zf)] sz) := by
  refine Met.ofW (cc := cX5_work) (maxL := 7) (ret := (some .int)) (by decide) rfl ?_
  intro p e s m args below meth c s₁ B hml hv
  obtain ⟨rfl, hsz, hP, hK, hD0⟩ := hv
  have hx := B.exec
  have hb := B.bytes
  have hr := B.returns
  have hts := atoms_spec (ws := wsX5_work) B.pre
  have hown : s.vm.findClass RX5 = some m.cls := findClass_of_methodNamed B.named
  have hlocks := B.notSynchronized
  subst hsz
  have hD := hD0.self (sz := s.heap.size)
  generalize hAe : va_A [(g0, .inr (5, [.int (zi co), .ref ps, .int (zi ru), .ref pk, .ref pa, .ref pb, .ref pq, .int (zi we), .int (zi wr), .ref pw, .int (zi ty), .ref pt])), (ps, aI cI 10 sf), (pk, aI cI 12 kf), (pa, aI cI 12 af), (pb, aI cI 12 bf), (pq, aI cI 12 zf)] s.heap.size = A at hD ⊢
  have hA : ∀ q : Nat, s.heap.size ≤ q → A q := fun q h => by rw [← hAe]; exact Or.inr h
  have hS : va_S A s.heap s.heap [] := va_S.rf
  have hP : va_P (dC, dI) vwCl [(g0, .inr (5, [.int (zi co), .ref ps, .int (zi ru), .ref pk, .ref pa, .ref pb, .ref pq, .int (zi we), .int (zi wr), .ref pw, .int (zi ty), .ref pt])), (ps, aI cI 10 sf), (pk, aI cI 12 kf), (pa, aI cI 12 af), (pb, aI cI 12 bf), (pq, aI cI 12 zf)] s.heap := hP
  have loop142 : ∀ (fu : Nat) (nn : Int) (dd : Int), ((sf ot.toNat) ≤ dd ∧ dd ≤ (sf sl.toNat)) → (nn + zcn (wkX5 we kf af bf zf ru) ((sf sl.toNat) - dd).toNat dd = zcn (wkX5 we kf af bf zf ru) ((sf sl.toNat) - (sf ot.toNat)).toNat (sf ot.toNat)) → (0 ≤ nn ∧ nn ≤ dd - (sf ot.toNat)) → ((sf sl.toNat) - dd < fu) → ∀ (ls : Array Slot) (H : Heap) (locs : List Loc), lv_has ls 7 [(5, .int (zi nn)), (6, .int (zi dd)), (0, .ref g0), (1, .int (zi sl)), (2, .int (zi ot)), (3, .int (zi (sf ot.toNat))), (4, .int (zi (sf sl.toNat)))] → va_P (dC, dI) vwCl [(g0, .inr (5, [.int (zi 0), .ref ps, .int (zi ru), .ref pk, .ref pa, .ref pb, .ref pq, .int (zi we), .int (zi wr), .ref pw, .int (zi ty), .ref pt])), (ps, aI cI 10 sf), (pk, aI cI 12 kf), (pa, aI cI 12 af), (pb, aI cI 12 bf), (pq, aI cI 12 zf)] H → va_D A [(g0, .inr (5, [.int (zi 0), .ref ps, .int (zi ru), .ref pk, .ref pa, .ref pb, .ref pq, .int (zi we), .int (zi wr), .ref pw, .int (zi ty), .ref pt])), (ps, aI cI 10 sf), (pk, aI cI 12 kf), (pa, aI cI 12 af), (pb, aI cI 12 bf), (pq, aI cI 12 zf)] → va_S A s.heap H locs → W p l e (headSpec wsX5_work ({ frames := 7, cells := 0, slots := 0, locals := 159 })).room s m ([.ref g0, .int (zi sl), .int (zi ot)] : List Value).toArray below meth c H locs 0 0 (MQ below (va_Qi (fun (r : Int32) (_ : Unit) => r = zi (-(zcn (wkX5 we kf af bf zf ru) ((sf sl.toNat) - (sf ot.toNat)).toNat (sf ot.toNat)))) (zB (dC, dI) [(cI, .int)] A [(g0, .inr (5, [.int (zi 0), .ref ps, .int (zi ru), .ref pk, .ref pa, .ref pb, .ref pq, .int (zi we), .int (zi wr), .ref pw, .int (zi ty), .ref pt])), (ps, aI cI 10 sf), (pk, aI cI 12 kf), (pa, aI cI 12 af), (pb, aI cI 12 bf), (pq, aI cI 12 zf)]) A) ([.ref g0, .int (zi sl), .int (zi ot)] : List Value).toArray s 0 0 A) (F0 m 142 ls []) := by
    intro fu
    induction fu with
    | zero =>
      intro nn dd hi0 hi1 hi2 hfu ls H locs hl hP hD hS
      exact absurd hfu (by omega)
    | succ fu ih =>
      intro nn dd hi0 hi1 hi2 hfu ls H locs hl hP hD hS
      have hP : va_P (dC, dI) vwCl [(g0, .inr (5, [.int (zi 0), .ref ps, .int (zi ru), .ref pk, .ref pa, .ref pb, .ref pq, .int (zi we), .int (zi wr), .ref pw, .int (zi ty), .ref pt])), (ps, aI cI 10 sf), (pk, aI cI 12 kf), (pa, aI cI 12 af), (pb, aI cI 12 bf), (pq, aI cI 12 zf)] H := hP
      have hD : va_D A [(g0, .inr (5, [.int (zi 0), .ref ps, .int (zi ru), .ref pk, .ref pa, .ref pb, .ref pq, .int (zi we), .int (zi wr), .ref pw, .int (zi ty), .ref pt])), (ps, aI cI 10 sf), (pk, aI cI 12 kf), (pa, aI cI 12 af), (pb, aI cI 12 bf), (pq, aI cI 12 zf)] := hD
      refine lv_iload hx hb dX5_work_142 (lv_at hl 1 rfl) ?_
      refine lv_iload hx hb dX5_work_144 (lv_at hl 6 rfl) ?_
      refine zw_icmp_ge (tgt := 181) hx hb dX5_work_146 (by decide) ⟨by omega, by omega⟩ ⟨by omega, by omega⟩ (fun h1 => ?_) (fun h1 => ?_)
      · skip
        have hen := zcn_end (wkX5 we kf af bf zf ru) dd (sf sl.toNat) (by omega)
        refine lv_aload_n hx hb dX5_work_181 rfl (lv_at hl 2 rfl) ?_
        refine va_get (D := (dC, dI)) (ci := 5) (v := .ref ps) (C := RX5) (T := TX5) (N := 12) hx hb hts (by decide +kernel) hown hK hP 0 rfl rfl 1 (by decide) (hts (.fieldLink RX5 7 "CivilDaysModel" "slots" "[I") (by decide +kernel)) (fun _ h9 => h9) rfl dX5_work_182 ?_
        refine lv_iload_n hx hb dX5_work_185 rfl (lv_at hl 3 rfl) ?_
        refine zw_iald hx hb hK hP 1 0 rfl rfl (by omega) (by omega) ⟨by omega, by omega⟩ dX5_work_186 ?_
        refine lv_aload_n hx hb dX5_work_187 rfl (lv_at hl 2 rfl) ?_
        refine va_get (D := (dC, dI)) (ci := 5) (v := .ref ps) (C := RX5) (T := TX5) (N := 12) hx hb hts (by decide +kernel) hown hK hP 0 rfl rfl 1 (by decide) (hts (.fieldLink RX5 7 "CivilDaysModel" "slots" "[I") (by decide +kernel)) (fun _ h9 => h9) rfl dX5_work_188 ?_
        refine lv_iload_n hx hb dX5_work_191 rfl (lv_at hl 4 rfl) ?_
        refine zw_iald hx hb hK hP 1 0 rfl rfl (by omega) (by omega) ⟨by omega, by omega⟩ dX5_work_192 ?_
        refine zw_icmp_ge (tgt := 201) hx hb dX5_work_193 (by decide) ⟨by omega, by omega⟩ ⟨by omega, by omega⟩ (fun h2 => ?_) (fun h2 => ?_)
        · skip
          refine lv_iload hx hb dX5_work_201 (lv_at hl 0 rfl) ?_
          refine zw_ineg hx hb dX5_work_203 ?_
          have hP9 := hP.sub (ws' := [(g0, .inr (5, [.int (zi 0), .ref ps, .int (zi ru), .ref pk, .ref pa, .ref pb, .ref pq, .int (zi we), .int (zi wr), .ref pw, .int (zi ty), .ref pt])), (ps, aI cI 10 sf), (pk, aI cI 12 kf), (pa, aI cI 12 af), (pb, aI cI 12 bf), (pq, aI cI 12 zf)]) [0, 1, 2, 3, 4, 5] rfl
          have hD9 := hD.sub (ws' := [(g0, .inr (5, [.int (zi 0), .ref ps, .int (zi ru), .ref pk, .ref pa, .ref pb, .ref pq, .int (zi we), .int (zi wr), .ref pw, .int (zi ty), .ref pt])), (ps, aI cI 10 sf), (pk, aI cI 12 kf), (pa, aI cI 12 af), (pb, aI cI 12 bf), (pq, aI cI 12 zf)]) [0, 1, 2, 3, 4, 5] (by decide) rfl
          exact W.iret (v := zi (-nn)) hx hb hr (fun t ht hW => ⟨⟨zi (-nn), (), rfl, congrArg zi (by omega), by rw [ht]; exact hP9, va_K.moved hW.alike hK, hD9⟩, hS.F ht⟩) hS.2.2 dX5_work_204
        · skip
          exact absurd True.intro (by omega)
      · skip
        have hst := zcn_step (wkX5 we kf af bf zf ru) dd (sf sl.toNat) (by omega)
        have hcb := zcn_b (wkX5 we kf af bf zf ru) ((sf sl.toNat) - dd).toNat dd
        have hcc := zcn_b (wkX5 we kf af bf zf ru) ((sf sl.toNat) - (dd + 1)).toNat (dd + 1)
        refine lv_aload_n hx hb dX5_work_149 rfl (lv_at hl 2 rfl) ?_
        refine va_get (D := (dC, dI)) (ci := 5) (v := .int (zi 0)) (C := RX5) (T := TX5) (N := 12) hx hb hts (by decide +kernel) hown hK hP 0 rfl rfl 0 (by decide) (hts (.fieldLink RX5 35 "CivilDaysModel" "code" "I") (by decide +kernel)) (fun _ h9 => h9) rfl dX5_work_150 ?_
        refine zw_if_ne (tgt := 181) hx hb dX5_work_153 (by decide) ⟨by omega, by omega⟩ (fun h3 => ?_) (fun h3 => ?_)
        · skip
          exact absurd True.intro (by omega)
        · skip
          refine lv_iload hx hb dX5_work_156 (lv_at hl 0 rfl) ?_
          refine lv_aload_n hx hb dX5_work_158 rfl (lv_at hl 2 rfl) ?_
          refine lv_iload hx hb dX5_work_159 (lv_at hl 1 rfl) ?_
          have hh4 := c_X5_works l dC dI cI g0 ps pk pa pb pq pw pt 0 ru we wr ty kf af bf zf dd (by omega) (by omega) (by first | exact hpr | exact hp5 | exact hp3) (by omega)
          have hPc := hP.sub (ws' := [(g0, .inr (5, [.int (zi 0), .ref ps, .int (zi ru), .ref pk, .ref pa, .ref pb, .ref pq, .int (zi we), .int (zi wr), .ref pw, .int (zi ty), .ref pt])), (pk, aI cI 12 kf), (pa, aI cI 12 af), (pb, aI cI 12 bf), (pq, aI cI 12 zf)]) [0, 2, 3, 4, 5] rfl
          have hKc : va_K (dC, dI) vwCl [(cI, .int)] s := hK
          refine vp_callSi (va_Run.run (va_runV (As := [.int (zi dd)]) (rest := [.int (zi nn)]) ⟨hx, hb, hml, hown, hts⟩ hh4 (cwV 1 hts gX5_work_X5_works rfl rfl rfl (by decide +kernel) ⟨Nat.le_of_ble_eq_true rfl, Nat.le_of_ble_eq_true rfl⟩) ⟨zPr.blind _ _ _ _, va_recv hKc hPc (ci := 5) (q0 := 0) rfl rfl, fun U hU hW => ⟨rfl, by rw [hU]; exact hPc, va_K.moved hW.alike hKc⟩⟩ rfl rfl hl.1 rfl (lv_room (Nat.le_of_ble_eq_true rfl)) dX5_work_161 ⟨Nat.le_of_ble_eq_true rfl, Nat.le_of_ble_eq_true rfl⟩)) (fun r4 (hr4 : r4 = zi (wkX5 we kf af bf zf ru dd)) => ?_)
          subst hr4
          have hf4_0 := wkX5_s we kf af bf zf ru dd
          have hwk := wkX5_s we kf af bf zf ru dd
          refine zw_if_eq (tgt := 171) hx hb dX5_work_164 (by decide) ⟨by omega, by omega⟩ (fun h5 => ?_) (fun h5 => ?_)
          · skip
            refine zw_iconst hx hb dX5_work_171 ?_
            refine zw_iadd hx hb dX5_work_172 ?_
            refine zw_top (fun x6 ex6 => ?_)
            refine lv_istore (lv' := [(5, .int (zi x6)), (6, .int (zi dd)), (0, .ref g0), (1, .int (zi sl)), (2, .int (zi ot)), (3, .int (zi (sf ot.toNat))), (4, .int (zi (sf sl.toNat)))]) hx hb dX5_work_173 hl (by decide) rfl (fun ls hl => ?_)
            obtain ⟨x7, ex7⟩ : ∃ z : Int, z = dd + 1 := ⟨_, rfl⟩
            refine zw_iinc (lv' := [(6, .int (zi x7)), (5, .int (zi x6)), (0, .ref g0), (1, .int (zi sl)), (2, .int (zi ot)), (3, .int (zi (sf ot.toNat))), (4, .int (zi (sf sl.toNat)))]) (k := 1) hx hb ex7 dX5_work_175 hl rfl (by decide) rfl (fun ls hl => ?_)
            refine lv_goto (tgt := 142) hx hb dX5_work_178 (by decide) ?_
            subst ex6 ex7
            have hP9 := hP.sub (ws' := [(g0, .inr (5, [.int (zi 0), .ref ps, .int (zi ru), .ref pk, .ref pa, .ref pb, .ref pq, .int (zi we), .int (zi wr), .ref pw, .int (zi ty), .ref pt])), (ps, aI cI 10 sf), (pk, aI cI 12 kf), (pa, aI cI 12 af), (pb, aI cI 12 bf), (pq, aI cI 12 zf)]) [0, 1, 2, 3, 4, 5] rfl
            have hD9 := hD.sub (ws' := [(g0, .inr (5, [.int (zi 0), .ref ps, .int (zi ru), .ref pk, .ref pa, .ref pb, .ref pq, .int (zi we), .int (zi wr), .ref pw, .int (zi ty), .ref pt])), (ps, aI cI 10 sf), (pk, aI cI 12 kf), (pa, aI cI 12 af), (pb, aI cI 12 bf), (pq, aI cI 12 zf)]) [0, 1, 2, 3, 4, 5] (by decide) rfl
            exact ih (nn + 0) (dd + 1) (by omega) (by omega) (by omega) (by omega) ls _ _ (lv_sub hl [1, 0, 2, 3, 4, 5, 6] rfl) hP9 hD9 hS
          · skip
            refine zw_iconst hx hb dX5_work_167 ?_
            refine lv_goto (tgt := 172) hx hb dX5_work_168 (by decide) ?_
            refine zw_iadd hx hb dX5_work_172 ?_
            refine zw_top (fun x8 ex8 => ?_)
            refine lv_istore (lv' := [(5, .int (zi x8)), (6, .int (zi dd)), (0, .ref g0), (1, .int (zi sl)), (2, .int (zi ot)), (3, .int (zi (sf ot.toNat))), (4, .int (zi (sf sl.toNat)))]) hx hb dX5_work_173 hl (by decide) rfl (fun ls hl => ?_)
            obtain ⟨x9, ex9⟩ : ∃ z : Int, z = dd + 1 := ⟨_, rfl⟩
            refine zw_iinc (lv' := [(6, .int (zi x9)), (5, .int (zi x8)), (0, .ref g0), (1, .int (zi sl)), (2, .int (zi ot)), (3, .int (zi (sf ot.toNat))), (4, .int (zi (sf sl.toNat)))]) (k := 1) hx hb ex9 dX5_work_175 hl rfl (by decide) rfl (fun ls hl => ?_)
            refine lv_goto (tgt := 142) hx hb dX5_work_178 (by decide) ?_
            subst ex8 ex9
            have hP9 := hP.sub (ws' := [(g0, .inr (5, [.int (zi 0), .ref ps, .int (zi ru), .ref pk, .ref pa, .ref pb, .ref pq, .int (zi we), .int (zi wr), .ref pw, .int (zi ty), .ref pt])), (ps, aI cI 10 sf), (pk, aI cI 12 kf), (pa, aI cI 12 af), (pb, aI cI 12 bf), (pq, aI cI 12 zf)]) [0, 1, 2, 3, 4, 5] rfl
            have hD9 := hD.sub (ws' := [(g0, .inr (5, [.int (zi 0), .ref ps, .int (zi ru), .ref pk, .ref pa, .ref pb, .ref pq, .int (zi we), .int (zi wr), .ref pw, .int (zi ty), .ref pt])), (ps, aI cI 10 sf), (pk, aI cI 12 kf), (pa, aI cI 12 af), (pb, aI cI 12 bf), (pq, aI cI 12 zf)]) [0, 1, 2, 3, 4, 5] (by decide) rfl
            exact ih (nn + 1) (dd + 1) (by omega) (by omega) (by omega) (by omega) ls _ _ (lv_sub hl [1, 0, 2, 3, 4, 5, 6] rfl) hP9 hD9 hS
  have hl := lv_entry ([.ref g0, .int (zi sl), .int (zi ot)]) (n := 7) (Nat.le_of_ble_eq_true rfl)
  rw [lg_entry_eq]
  generalize (lg_sl ([.ref g0, .int (zi sl), .int (zi ot)]) ++ List.replicate (7 - (lg_sl ([.ref g0, .int (zi sl), .int (zi ot)])).length) Slot.unset).toArray = ls at hl ⊢
  have hl : lv_has ls 7 [(0, .ref g0), (1, .int (zi sl)), (2, .int (zi ot))] := hl
  have hpr := hp5
  refine lv_aload_n hx hb dX5_work_0 rfl (lv_at hl 0 rfl) ?_
  refine lv_iload_n hx hb dX5_work_1 rfl (lv_at hl 1 rfl) ?_
  have hh10 := c_X5_isSlot l sl (by omega)
  refine vp_callSi (va_Run.run (va_runS (As := [.int (zi sl)]) (rest := [.ref g0]) ⟨hx, hb, hml, hown, hts⟩ hh10 (va_cwS 1 hts gX5_work_X5_isSlot rfl rfl rfl (by decide +kernel) ⟨Nat.le_of_ble_eq_true rfl, Nat.le_of_ble_eq_true rfl⟩) ⟨fun a U g mk q => q, fun U hU hW => ⟨rfl, trivial⟩⟩ rfl rfl hl.1 rfl (lv_room (Nat.le_of_ble_eq_true rfl)) dX5_work_2 ⟨Nat.zero_le _, Nat.zero_le _⟩)) (fun r10 (hr10 : r10 = zi (f_X5_isSlot sl)) => ?_)
  subst hr10
  have hf10 := b_X5_isSlot sl (by omega)
  refine zw_if_eq (tgt := 15) hx hb dX5_work_5 (by decide) ⟨by omega, by omega⟩ (fun h11 => ?_) (fun h11 => ?_)
  · skip
    exact absurd True.intro (by omega)
  · skip
    refine lv_iload_n hx hb dX5_work_8 rfl (lv_at hl 2 rfl) ?_
    have hh12 := c_X5_isSlot l ot (by omega)
    refine vp_callSi (va_Run.run (va_runS (As := [.int (zi ot)]) (rest := [.ref g0]) ⟨hx, hb, hml, hown, hts⟩ hh12 (va_cwS 1 hts gX5_work_X5_isSlot rfl rfl rfl (by decide +kernel) ⟨Nat.le_of_ble_eq_true rfl, Nat.le_of_ble_eq_true rfl⟩) ⟨fun a U g mk q => q, fun U hU hW => ⟨rfl, trivial⟩⟩ rfl rfl hl.1 rfl (lv_room (Nat.le_of_ble_eq_true rfl)) dX5_work_9 ⟨Nat.zero_le _, Nat.zero_le _⟩)) (fun r12 (hr12 : r12 = zi (f_X5_isSlot ot)) => ?_)
    subst hr12
    have hf12 := b_X5_isSlot ot (by omega)
    refine zw_if_ne (tgt := 19) hx hb dX5_work_12 (by decide) ⟨by omega, by omega⟩ (fun h13 => ?_) (fun h13 => ?_)
    · skip
      refine lv_aload_n hx hb dX5_work_19 rfl (lv_at hl 0 rfl) ?_
      refine va_get (D := (dC, dI)) (ci := 5) (v := .ref ps) (C := RX5) (T := TX5) (N := 12) hx hb hts (by decide +kernel) hown hK hP 0 rfl rfl 1 (by decide) (hts (.fieldLink RX5 7 "CivilDaysModel" "slots" "[I") (by decide +kernel)) (fun _ h9 => h9) rfl dX5_work_20 ?_
      refine lv_iload_n hx hb dX5_work_23 rfl (lv_at hl 1 rfl) ?_
      refine zw_iald hx hb hK hP 1 0 rfl rfl (by omega) (by omega) ⟨by omega, by omega⟩ dX5_work_24 ?_
      refine zw_if_lt (tgt := 37) hx hb dX5_work_25 (by decide) ⟨by omega, by omega⟩ (fun h14 => ?_) (fun h14 => ?_)
      · skip
        exact absurd True.intro (by omega)
      · skip
        refine lv_aload_n hx hb dX5_work_28 rfl (lv_at hl 0 rfl) ?_
        refine va_get (D := (dC, dI)) (ci := 5) (v := .ref ps) (C := RX5) (T := TX5) (N := 12) hx hb hts (by decide +kernel) hown hK hP 0 rfl rfl 1 (by decide) (hts (.fieldLink RX5 7 "CivilDaysModel" "slots" "[I") (by decide +kernel)) (fun _ h9 => h9) rfl dX5_work_29 ?_
        refine lv_iload_n hx hb dX5_work_32 rfl (lv_at hl 2 rfl) ?_
        refine zw_iald hx hb hK hP 1 0 rfl rfl (by omega) (by omega) ⟨by omega, by omega⟩ dX5_work_33 ?_
        refine zw_if_ge (tgt := 41) hx hb dX5_work_34 (by decide) ⟨by omega, by omega⟩ (fun h15 => ?_) (fun h15 => ?_)
        · skip
          refine zw_iconst hx hb dX5_work_41 ?_
          refine va_put (D := (dC, dI)) (ci := 5) (v := .int (zi 0)) (ty := .int) (C := RX5) (T := TX5) (N := 12) hx hb hts (by decide +kernel) tyX5 tyX5_ok nmX5 hown hK hP hD hS 0 rfl rfl 0 (by decide) (hts (.fieldLink RX5 35 "CivilDaysModel" "code" "I") (by decide +kernel)) (fun _ h9 => h9) rfl (by decide +kernel) rfl rfl (Nat.le_of_ble_eq_true rfl) dX5_work_42 (fun H locs hP hD hS => ?_)
          have hP : va_P (dC, dI) vwCl [(g0, .inr (5, [.int (zi 0), .ref ps, .int (zi ru), .ref pk, .ref pa, .ref pb, .ref pq, .int (zi we), .int (zi wr), .ref pw, .int (zi ty), .ref pt])), (ps, aI cI 10 sf), (pk, aI cI 12 kf), (pa, aI cI 12 af), (pb, aI cI 12 bf), (pq, aI cI 12 zf)] H := hP
          have hD : va_D A [(g0, .inr (5, [.int (zi 0), .ref ps, .int (zi ru), .ref pk, .ref pa, .ref pb, .ref pq, .int (zi we), .int (zi wr), .ref pw, .int (zi ty), .ref pt])), (ps, aI cI 10 sf), (pk, aI cI 12 kf), (pa, aI cI 12 af), (pb, aI cI 12 bf), (pq, aI cI 12 zf)] := hD
          refine lv_aload_n hx hb dX5_work_45 rfl (lv_at hl 0 rfl) ?_
          refine va_get (D := (dC, dI)) (ci := 5) (v := .int (zi 0)) (C := RX5) (T := TX5) (N := 12) hx hb hts (by decide +kernel) hown hK hP 0 rfl rfl 0 (by decide) (hts (.fieldLink RX5 35 "CivilDaysModel" "code" "I") (by decide +kernel)) (fun _ h9 => h9) rfl dX5_work_46 ?_
          refine zw_if_le (tgt := 54) hx hb dX5_work_49 (by decide) ⟨by omega, by omega⟩ (fun h16 => ?_) (fun h16 => ?_)
          · skip
            refine lv_aload_n hx hb dX5_work_54 rfl (lv_at hl 0 rfl) ?_
            refine va_get (D := (dC, dI)) (ci := 5) (v := .ref ps) (C := RX5) (T := TX5) (N := 12) hx hb hts (by decide +kernel) hown hK hP 0 rfl rfl 1 (by decide) (hts (.fieldLink RX5 7 "CivilDaysModel" "slots" "[I") (by decide +kernel)) (fun _ h9 => h9) rfl dX5_work_55 ?_
            refine lv_iload_n hx hb dX5_work_58 rfl (lv_at hl 1 rfl) ?_
            refine zw_iald hx hb hK hP 1 0 rfl rfl (by omega) (by omega) ⟨by omega, by omega⟩ dX5_work_59 ?_
            refine lv_aload_n hx hb dX5_work_60 rfl (lv_at hl 0 rfl) ?_
            refine va_get (D := (dC, dI)) (ci := 5) (v := .ref ps) (C := RX5) (T := TX5) (N := 12) hx hb hts (by decide +kernel) hown hK hP 0 rfl rfl 1 (by decide) (hts (.fieldLink RX5 7 "CivilDaysModel" "slots" "[I") (by decide +kernel)) (fun _ h9 => h9) rfl dX5_work_61 ?_
            refine lv_iload_n hx hb dX5_work_64 rfl (lv_at hl 2 rfl) ?_
            refine zw_iald hx hb hK hP 1 0 rfl rfl (by omega) (by omega) ⟨by omega, by omega⟩ dX5_work_65 ?_
            refine zw_icmp_ge (tgt := 78) hx hb dX5_work_66 (by decide) ⟨by omega, by omega⟩ ⟨by omega, by omega⟩ (fun h17 => ?_) (fun h17 => ?_)
            · skip
              refine lv_aload_n hx hb dX5_work_78 rfl (lv_at hl 0 rfl) ?_
              refine va_get (D := (dC, dI)) (ci := 5) (v := .ref ps) (C := RX5) (T := TX5) (N := 12) hx hb hts (by decide +kernel) hown hK hP 0 rfl rfl 1 (by decide) (hts (.fieldLink RX5 7 "CivilDaysModel" "slots" "[I") (by decide +kernel)) (fun _ h9 => h9) rfl dX5_work_79 ?_
              refine lv_iload_n hx hb dX5_work_82 rfl (lv_at hl 2 rfl) ?_
              refine zw_iald hx hb hK hP 1 0 rfl rfl (by omega) (by omega) ⟨by omega, by omega⟩ dX5_work_83 ?_
              refine zw_top (fun x18 ex18 => ?_)
              refine lv_istore_n (lv' := [(3, .int (zi x18)), (0, .ref g0), (1, .int (zi sl)), (2, .int (zi ot))]) hx hb dX5_work_84 rfl hl (by decide) rfl (fun ls hl => ?_)
              refine lv_aload_n hx hb dX5_work_85 rfl (lv_at hl 1 rfl) ?_
              refine va_get (D := (dC, dI)) (ci := 5) (v := .ref ps) (C := RX5) (T := TX5) (N := 12) hx hb hts (by decide +kernel) hown hK hP 0 rfl rfl 1 (by decide) (hts (.fieldLink RX5 7 "CivilDaysModel" "slots" "[I") (by decide +kernel)) (fun _ h9 => h9) rfl dX5_work_86 ?_
              refine lv_iload_n hx hb dX5_work_89 rfl (lv_at hl 2 rfl) ?_
              refine zw_iald hx hb hK hP 1 0 rfl rfl (by omega) (by omega) ⟨by omega, by omega⟩ dX5_work_90 ?_
              refine lv_aload_n hx hb dX5_work_91 rfl (lv_at hl 1 rfl) ?_
              refine va_get (D := (dC, dI)) (ci := 5) (v := .ref ps) (C := RX5) (T := TX5) (N := 12) hx hb hts (by decide +kernel) hown hK hP 0 rfl rfl 1 (by decide) (hts (.fieldLink RX5 7 "CivilDaysModel" "slots" "[I") (by decide +kernel)) (fun _ h9 => h9) rfl dX5_work_92 ?_
              refine lv_iload_n hx hb dX5_work_95 rfl (lv_at hl 3 rfl) ?_
              refine zw_iald hx hb hK hP 1 0 rfl rfl (by omega) (by omega) ⟨by omega, by omega⟩ dX5_work_96 ?_
              refine zw_icmp_ge (tgt := 109) hx hb dX5_work_97 (by decide) ⟨by omega, by omega⟩ ⟨by omega, by omega⟩ (fun h19 => ?_) (fun h19 => ?_)
              · skip
                refine lv_aload_n hx hb dX5_work_109 rfl (lv_at hl 1 rfl) ?_
                refine va_get (D := (dC, dI)) (ci := 5) (v := .ref ps) (C := RX5) (T := TX5) (N := 12) hx hb hts (by decide +kernel) hown hK hP 0 rfl rfl 1 (by decide) (hts (.fieldLink RX5 7 "CivilDaysModel" "slots" "[I") (by decide +kernel)) (fun _ h9 => h9) rfl dX5_work_110 ?_
                refine lv_iload_n hx hb dX5_work_113 rfl (lv_at hl 2 rfl) ?_
                refine zw_iald hx hb hK hP 1 0 rfl rfl (by omega) (by omega) ⟨by omega, by omega⟩ dX5_work_114 ?_
                refine zw_top (fun x20 ex20 => ?_)
                refine lv_istore (lv' := [(4, .int (zi x20)), (3, .int (zi x18)), (0, .ref g0), (1, .int (zi sl)), (2, .int (zi ot))]) hx hb dX5_work_115 hl (by decide) rfl (fun ls hl => ?_)
                refine lv_aload_n hx hb dX5_work_117 rfl (lv_at hl 2 rfl) ?_
                refine lv_iload hx hb dX5_work_118 (lv_at hl 0 rfl) ?_
                refine lv_iload_n hx hb dX5_work_120 rfl (lv_at hl 1 rfl) ?_
                refine zw_isub hx hb dX5_work_121 ?_
                refine zw_sipush hx hb dX5_work_122 (by decide) ?_
                refine zw_icmp_le (tgt := 132) hx hb dX5_work_125 (by decide) ⟨by omega, by omega⟩ ⟨by omega, by omega⟩ (fun h21 => ?_) (fun h21 => ?_)
                · skip
                  refine zw_iconst hx hb dX5_work_132 ?_
                  refine va_put (D := (dC, dI)) (ci := 5) (v := .int (zi 0)) (ty := .int) (C := RX5) (T := TX5) (N := 12) hx hb hts (by decide +kernel) tyX5 tyX5_ok nmX5 hown hK hP hD hS 0 rfl rfl 0 (by decide) (hts (.fieldLink RX5 35 "CivilDaysModel" "code" "I") (by decide +kernel)) (fun _ h9 => h9) rfl (by decide +kernel) rfl rfl (Nat.le_of_ble_eq_true rfl) dX5_work_133 (fun H locs hP hD hS => ?_)
                  have hP : va_P (dC, dI) vwCl [(g0, .inr (5, [.int (zi 0), .ref ps, .int (zi ru), .ref pk, .ref pa, .ref pb, .ref pq, .int (zi we), .int (zi wr), .ref pw, .int (zi ty), .ref pt])), (ps, aI cI 10 sf), (pk, aI cI 12 kf), (pa, aI cI 12 af), (pb, aI cI 12 bf), (pq, aI cI 12 zf)] H := hP
                  have hD : va_D A [(g0, .inr (5, [.int (zi 0), .ref ps, .int (zi ru), .ref pk, .ref pa, .ref pb, .ref pq, .int (zi we), .int (zi wr), .ref pw, .int (zi ty), .ref pt])), (ps, aI cI 10 sf), (pk, aI cI 12 kf), (pa, aI cI 12 af), (pb, aI cI 12 bf), (pq, aI cI 12 zf)] := hD
                  refine zw_iconst hx hb dX5_work_136 ?_
                  refine lv_istore (lv' := [(5, .int (zi 0)), (4, .int (zi x20)), (3, .int (zi x18)), (0, .ref g0), (1, .int (zi sl)), (2, .int (zi ot))]) hx hb dX5_work_137 hl (by decide) rfl (fun ls hl => ?_)
                  refine lv_iload_n hx hb dX5_work_139 rfl (lv_at hl 2 rfl) ?_
                  refine lv_istore (lv' := [(6, .int (zi x18)), (5, .int (zi 0)), (4, .int (zi x20)), (3, .int (zi x18)), (0, .ref g0), (1, .int (zi sl)), (2, .int (zi ot))]) hx hb dX5_work_140 hl (by decide) rfl (fun ls hl => ?_)
                  subst ex18 ex20
                  have hP9 := hP.sub (ws' := [(g0, .inr (5, [.int (zi 0), .ref ps, .int (zi ru), .ref pk, .ref pa, .ref pb, .ref pq, .int (zi we), .int (zi wr), .ref pw, .int (zi ty), .ref pt])), (ps, aI cI 10 sf), (pk, aI cI 12 kf), (pa, aI cI 12 af), (pb, aI cI 12 bf), (pq, aI cI 12 zf)]) [0, 1, 2, 3, 4, 5] rfl
                  have hD9 := hD.sub (ws' := [(g0, .inr (5, [.int (zi 0), .ref ps, .int (zi ru), .ref pk, .ref pa, .ref pb, .ref pq, .int (zi we), .int (zi wr), .ref pw, .int (zi ty), .ref pt])), (ps, aI cI 10 sf), (pk, aI cI 12 kf), (pa, aI cI 12 af), (pb, aI cI 12 bf), (pq, aI cI 12 zf)]) [0, 1, 2, 3, 4, 5] (by decide) rfl
                  exact loop142 (4001) 0 (sf ot.toNat) (by omega) (by omega) (by omega) (by omega) ls _ _ (lv_sub hl [1, 0, 4, 5, 6, 3, 2] rfl) hP9 hD9 hS
                · skip
                  exact absurd True.intro (by omega)
              · skip
                exact absurd True.intro (by omega)
            · skip
              exact absurd True.intro (by omega)
          · skip
            exact absurd True.intro (by omega)
        · skip
          exact absurd True.intro (by omega)
    · skip
      exact absurd True.intro (by omega)

set_option maxHeartbeats 4000000 in
set_option maxRecDepth 100000 in
theorem c_X5_moveWork_1 (l : Launch)  (dC : Nat → ClassId) (dI : Nat → Nat → Nat) (cI : ClassId) (g0 : Nat) (ps : Nat) (pk : Nat) (pa : Nat) (pb : Nat) (pq : Nat) (pw : Nat) (pt : Nat) (co : Int) (ru : Int) (we : Int) (wr : Int) (ty : Int) (sf : Nat → Int) (kf : Nat → Int) (af : Nat → Int) (bf : Nat → Int) (zf : Nat → Int) (sl : Int) (many : Int) (sz : Nat) (hp0 : -2147483648 ≤ sl ∧ sl ≤ 2147483647) (hp1 : sl < 0 ∨ 9 < sl) : Met l yX5_moveWork wsX5_moveWork ({ frames := 2, cells := 0, slots := 0, locals := 42 }) (zPw (dC, dI) [(cI, .int)] sz [.ref g0, .int (zi sl), .int (zi many)] [(g0, .inr (5, [.int (zi co), .ref ps, .int (zi ru), .ref pk, .ref pa, .ref pb, .ref pq, .int (zi we), .int (zi wr), .ref pw, .int (zi ty), .ref pt])), (ps, aI cI 10 sf), (pk, aI cI 12 kf), (pa, aI cI 12 af), (pb, aI cI 12 bf), (pq, aI cI 12 zf)]) (va_Qi (fun (r : Int32) (_ : Unit) => r = zi 0) (zB (dC, dI) [(cI, .int)] (va_A [(g0, .inr (5, [.int (zi co), .ref ps, .int (zi ru), .ref pk, .ref pa, .ref pb, .ref pq, .int (zi we), .int (zi wr), .ref pw, .int (zi ty), .ref pt])), (ps, aI cI 10 sf), (pk, aI cI 12 kf), (pa, aI cI 12 af), (pb, aI cI 12 bf), (pq, aI cI 12 zf)] sz) [(g0, .inr (5, [.int (zi 1), .ref ps, .int (zi ru), .ref pk, .ref pa, .ref pb, .ref pq, .int (zi we), .int (zi wr), .ref pw, .int (zi ty), .ref pt])), (ps, aI cI 10 sf), (pk, aI cI 12 kf), (pa, aI cI 12 af), (pb, aI cI 12 bf), (pq, aI cI 12 zf)]) (va_A [(g0, .inr (5, [.int (zi co), .ref ps, .int (zi ru), .ref pk, .ref pa, .ref pb, .ref pq, .int (zi we), .int (zi wr), .ref pw, .int (zi ty), .ref pt])), (ps, aI cI 10 sf), (pk, aI cI 12 kf), (pa, aI cI 12 af), (pb, aI cI 12 bf), (pq, aI cI 12 zf)] sz)) 0 0 (va_A [(g0, .inr (5, [.int (zi co), .ref ps, .int (zi ru), .ref pk, .ref pa, .ref pb, .ref pq, .int (zi we), .int (zi wr), .ref pw, .int (zi ty), .ref pt])), (ps, aI cI 10 sf), (pk, aI cI 12 kf), (pa, aI cI 12 af), (pb, aI cI 12 bf), (pq, aI cI 12 zf)] sz) := by
  refine Met.ofW (cc := cX5_moveWork) (maxL := 5) (ret := (some .int)) (by decide) rfl ?_
  intro p e s m args below meth c s₁ B hml hv
  obtain ⟨rfl, hsz, hP, hK, hD0⟩ := hv
  have hx := B.exec
  have hb := B.bytes
  have hr := B.returns
  have hts := atoms_spec (ws := wsX5_moveWork) B.pre
  have hown : s.vm.findClass RX5 = some m.cls := findClass_of_methodNamed B.named
  have hlocks := B.notSynchronized
  subst hsz
  have hD := hD0.self (sz := s.heap.size)
  generalize hAe : va_A [(g0, .inr (5, [.int (zi co), .ref ps, .int (zi ru), .ref pk, .ref pa, .ref pb, .ref pq, .int (zi we), .int (zi wr), .ref pw, .int (zi ty), .ref pt])), (ps, aI cI 10 sf), (pk, aI cI 12 kf), (pa, aI cI 12 af), (pb, aI cI 12 bf), (pq, aI cI 12 zf)] s.heap.size = A at hD ⊢
  have hA : ∀ q : Nat, s.heap.size ≤ q → A q := fun q h => by rw [← hAe]; exact Or.inr h
  have hS : va_S A s.heap s.heap [] := va_S.rf
  have hP : va_P (dC, dI) vwCl [(g0, .inr (5, [.int (zi co), .ref ps, .int (zi ru), .ref pk, .ref pa, .ref pb, .ref pq, .int (zi we), .int (zi wr), .ref pw, .int (zi ty), .ref pt])), (ps, aI cI 10 sf), (pk, aI cI 12 kf), (pa, aI cI 12 af), (pb, aI cI 12 bf), (pq, aI cI 12 zf)] s.heap := hP
  have hl := lv_entry ([.ref g0, .int (zi sl), .int (zi many)]) (n := 5) (Nat.le_of_ble_eq_true rfl)
  rw [lg_entry_eq]
  generalize (lg_sl ([.ref g0, .int (zi sl), .int (zi many)]) ++ List.replicate (5 - (lg_sl ([.ref g0, .int (zi sl), .int (zi many)])).length) Slot.unset).toArray = ls at hl ⊢
  have hl : lv_has ls 5 [(0, .ref g0), (1, .int (zi sl)), (2, .int (zi many))] := hl
  refine lv_aload_n hx hb dX5_moveWork_0 rfl (lv_at hl 0 rfl) ?_
  refine lv_iload_n hx hb dX5_moveWork_1 rfl (lv_at hl 1 rfl) ?_
  have hh1 := c_X5_isSlot l sl (by omega)
  refine vp_callSi (va_Run.run (va_runS (As := [.int (zi sl)]) (rest := [.ref g0]) ⟨hx, hb, hml, hown, hts⟩ hh1 (va_cwS 1 hts gX5_moveWork_X5_isSlot rfl rfl rfl (by decide +kernel) ⟨Nat.le_of_ble_eq_true rfl, Nat.le_of_ble_eq_true rfl⟩) ⟨fun a U g mk q => q, fun U hU hW => ⟨rfl, trivial⟩⟩ rfl rfl hl.1 rfl (lv_room (Nat.le_of_ble_eq_true rfl)) dX5_moveWork_2 ⟨Nat.zero_le _, Nat.zero_le _⟩)) (fun r1 (hr1 : r1 = zi (f_X5_isSlot sl)) => ?_)
  subst hr1
  have hf1 := b_X5_isSlot sl (by omega)
  refine zw_if_ne (tgt := 12) hx hb dX5_moveWork_5 (by decide) ⟨by omega, by omega⟩ (fun h2 => ?_) (fun h2 => ?_)
  · skip
    exact absurd True.intro (by omega)
  · skip
    refine zw_iconst hx hb dX5_moveWork_8 ?_
    refine lv_goto (tgt := 43) hx hb dX5_moveWork_9 (by decide) ?_
    refine va_put (D := (dC, dI)) (ci := 5) (v := .int (zi 1)) (ty := .int) (C := RX5) (T := TX5) (N := 12) hx hb hts (by decide +kernel) tyX5 tyX5_ok nmX5 hown hK hP hD hS 0 rfl rfl 0 (by decide) (hts (.fieldLink RX5 35 "CivilDaysModel" "code" "I") (by decide +kernel)) (fun _ h9 => h9) rfl (by decide +kernel) rfl rfl (Nat.le_of_ble_eq_true rfl) dX5_moveWork_43 (fun H locs hP hD hS => ?_)
    have hP : va_P (dC, dI) vwCl [(g0, .inr (5, [.int (zi 1), .ref ps, .int (zi ru), .ref pk, .ref pa, .ref pb, .ref pq, .int (zi we), .int (zi wr), .ref pw, .int (zi ty), .ref pt])), (ps, aI cI 10 sf), (pk, aI cI 12 kf), (pa, aI cI 12 af), (pb, aI cI 12 bf), (pq, aI cI 12 zf)] H := hP
    have hD : va_D A [(g0, .inr (5, [.int (zi 1), .ref ps, .int (zi ru), .ref pk, .ref pa, .ref pb, .ref pq, .int (zi we), .int (zi wr), .ref pw, .int (zi ty), .ref pt])), (ps, aI cI 10 sf), (pk, aI cI 12 kf), (pa, aI cI 12 af), (pb, aI cI 12 bf), (pq, aI cI 12 zf)] := hD
    refine lv_aload_n hx hb dX5_moveWork_46 rfl (lv_at hl 0 rfl) ?_
    refine va_get (D := (dC, dI)) (ci := 5) (v := .int (zi 1)) (C := RX5) (T := TX5) (N := 12) hx hb hts (by decide +kernel) hown hK hP 0 rfl rfl 0 (by decide) (hts (.fieldLink RX5 35 "CivilDaysModel" "code" "I") (by decide +kernel)) (fun _ h9 => h9) rfl dX5_moveWork_47 ?_
    refine zw_if_le (tgt := 55) hx hb dX5_moveWork_50 (by decide) ⟨by omega, by omega⟩ (fun h3 => ?_) (fun h3 => ?_)
    · skip
      exact absurd True.intro (by omega)
    · skip
      refine zw_iconst hx hb dX5_moveWork_53 ?_
      have hP9 := hP.sub (ws' := [(g0, .inr (5, [.int (zi 1), .ref ps, .int (zi ru), .ref pk, .ref pa, .ref pb, .ref pq, .int (zi we), .int (zi wr), .ref pw, .int (zi ty), .ref pt])), (ps, aI cI 10 sf), (pk, aI cI 12 kf), (pa, aI cI 12 af), (pb, aI cI 12 bf), (pq, aI cI 12 zf)]) [0, 1, 2, 3, 4, 5] rfl
      have hD9 := hD.sub (ws' := [(g0, .inr (5, [.int (zi 1), .ref ps, .int (zi ru), .ref pk, .ref pa, .ref pb, .ref pq, .int (zi we), .int (zi wr), .ref pw, .int (zi ty), .ref pt])), (ps, aI cI 10 sf), (pk, aI cI 12 kf), (pa, aI cI 12 af), (pb, aI cI 12 bf), (pq, aI cI 12 zf)]) [0, 1, 2, 3, 4, 5] (by decide) rfl
      exact W.iret (v := zi 0) hx hb hr (fun t ht hW => ⟨⟨zi 0, (), rfl, rfl, by rw [ht]; exact hP9, va_K.moved hW.alike hK, hD9⟩, hS.F ht⟩) hS.2.2 dX5_moveWork_54

set_option maxHeartbeats 4000000 in
set_option maxRecDepth 100000 in
theorem c_X5_moveWork_2 (l : Launch)  (dC : Nat → ClassId) (dI : Nat → Nat → Nat) (cI : ClassId) (g0 : Nat) (ps : Nat) (pk : Nat) (pa : Nat) (pb : Nat) (pq : Nat) (pw : Nat) (pt : Nat) (co : Int) (ru : Int) (we : Int) (wr : Int) (ty : Int) (sf : Nat → Int) (kf : Nat → Int) (af : Nat → Int) (bf : Nat → Int) (zf : Nat → Int) (sl : Int) (many : Int) (sz : Nat) (hp0 : 0 ≤ sl ∧ sl ≤ 9) (hp1 : (sf sl.toNat) = -1) : Met l yX5_moveWork wsX5_moveWork ({ frames := 2, cells := 0, slots := 0, locals := 42 }) (zPw (dC, dI) [(cI, .int)] sz [.ref g0, .int (zi sl), .int (zi many)] [(g0, .inr (5, [.int (zi co), .ref ps, .int (zi ru), .ref pk, .ref pa, .ref pb, .ref pq, .int (zi we), .int (zi wr), .ref pw, .int (zi ty), .ref pt])), (ps, aI cI 10 sf), (pk, aI cI 12 kf), (pa, aI cI 12 af), (pb, aI cI 12 bf), (pq, aI cI 12 zf)]) (va_Qi (fun (r : Int32) (_ : Unit) => r = zi 0) (zB (dC, dI) [(cI, .int)] (va_A [(g0, .inr (5, [.int (zi co), .ref ps, .int (zi ru), .ref pk, .ref pa, .ref pb, .ref pq, .int (zi we), .int (zi wr), .ref pw, .int (zi ty), .ref pt])), (ps, aI cI 10 sf), (pk, aI cI 12 kf), (pa, aI cI 12 af), (pb, aI cI 12 bf), (pq, aI cI 12 zf)] sz) [(g0, .inr (5, [.int (zi 2), .ref ps, .int (zi ru), .ref pk, .ref pa, .ref pb, .ref pq, .int (zi we), .int (zi wr), .ref pw, .int (zi ty), .ref pt])), (ps, aI cI 10 sf), (pk, aI cI 12 kf), (pa, aI cI 12 af), (pb, aI cI 12 bf), (pq, aI cI 12 zf)]) (va_A [(g0, .inr (5, [.int (zi co), .ref ps, .int (zi ru), .ref pk, .ref pa, .ref pb, .ref pq, .int (zi we), .int (zi wr), .ref pw, .int (zi ty), .ref pt])), (ps, aI cI 10 sf), (pk, aI cI 12 kf), (pa, aI cI 12 af), (pb, aI cI 12 bf), (pq, aI cI 12 zf)] sz)) 0 0 (va_A [(g0, .inr (5, [.int (zi co), .ref ps, .int (zi ru), .ref pk, .ref pa, .ref pb, .ref pq, .int (zi we), .int (zi wr), .ref pw, .int (zi ty), .ref pt])), (ps, aI cI 10 sf), (pk, aI cI 12 kf), (pa, aI cI 12 af), (pb, aI cI 12 bf), (pq, aI cI 12 zf)] sz) := by
  refine Met.ofW (cc := cX5_moveWork) (maxL := 5) (ret := (some .int)) (by decide) rfl ?_
  intro p e s m args below meth c s₁ B hml hv
  obtain ⟨rfl, hsz, hP, hK, hD0⟩ := hv
  have hx := B.exec
  have hb := B.bytes
  have hr := B.returns
  have hts := atoms_spec (ws := wsX5_moveWork) B.pre
  have hown : s.vm.findClass RX5 = some m.cls := findClass_of_methodNamed B.named
  have hlocks := B.notSynchronized
  subst hsz
  have hD := hD0.self (sz := s.heap.size)
  generalize hAe : va_A [(g0, .inr (5, [.int (zi co), .ref ps, .int (zi ru), .ref pk, .ref pa, .ref pb, .ref pq, .int (zi we), .int (zi wr), .ref pw, .int (zi ty), .ref pt])), (ps, aI cI 10 sf), (pk, aI cI 12 kf), (pa, aI cI 12 af), (pb, aI cI 12 bf), (pq, aI cI 12 zf)] s.heap.size = A at hD ⊢
  have hA : ∀ q : Nat, s.heap.size ≤ q → A q := fun q h => by rw [← hAe]; exact Or.inr h
  have hS : va_S A s.heap s.heap [] := va_S.rf
  have hP : va_P (dC, dI) vwCl [(g0, .inr (5, [.int (zi co), .ref ps, .int (zi ru), .ref pk, .ref pa, .ref pb, .ref pq, .int (zi we), .int (zi wr), .ref pw, .int (zi ty), .ref pt])), (ps, aI cI 10 sf), (pk, aI cI 12 kf), (pa, aI cI 12 af), (pb, aI cI 12 bf), (pq, aI cI 12 zf)] s.heap := hP
  have hl := lv_entry ([.ref g0, .int (zi sl), .int (zi many)]) (n := 5) (Nat.le_of_ble_eq_true rfl)
  rw [lg_entry_eq]
  generalize (lg_sl ([.ref g0, .int (zi sl), .int (zi many)]) ++ List.replicate (5 - (lg_sl ([.ref g0, .int (zi sl), .int (zi many)])).length) Slot.unset).toArray = ls at hl ⊢
  have hl : lv_has ls 5 [(0, .ref g0), (1, .int (zi sl)), (2, .int (zi many))] := hl
  refine lv_aload_n hx hb dX5_moveWork_0 rfl (lv_at hl 0 rfl) ?_
  refine lv_iload_n hx hb dX5_moveWork_1 rfl (lv_at hl 1 rfl) ?_
  have hh1 := c_X5_isSlot l sl (by omega)
  refine vp_callSi (va_Run.run (va_runS (As := [.int (zi sl)]) (rest := [.ref g0]) ⟨hx, hb, hml, hown, hts⟩ hh1 (va_cwS 1 hts gX5_moveWork_X5_isSlot rfl rfl rfl (by decide +kernel) ⟨Nat.le_of_ble_eq_true rfl, Nat.le_of_ble_eq_true rfl⟩) ⟨fun a U g mk q => q, fun U hU hW => ⟨rfl, trivial⟩⟩ rfl rfl hl.1 rfl (lv_room (Nat.le_of_ble_eq_true rfl)) dX5_moveWork_2 ⟨Nat.zero_le _, Nat.zero_le _⟩)) (fun r1 (hr1 : r1 = zi (f_X5_isSlot sl)) => ?_)
  subst hr1
  have hf1 := b_X5_isSlot sl (by omega)
  refine zw_if_ne (tgt := 12) hx hb dX5_moveWork_5 (by decide) ⟨by omega, by omega⟩ (fun h2 => ?_) (fun h2 => ?_)
  · skip
    refine lv_aload_n hx hb dX5_moveWork_12 rfl (lv_at hl 0 rfl) ?_
    refine va_get (D := (dC, dI)) (ci := 5) (v := .ref ps) (C := RX5) (T := TX5) (N := 12) hx hb hts (by decide +kernel) hown hK hP 0 rfl rfl 1 (by decide) (hts (.fieldLink RX5 7 "CivilDaysModel" "slots" "[I") (by decide +kernel)) (fun _ h9 => h9) rfl dX5_moveWork_13 ?_
    refine lv_iload_n hx hb dX5_moveWork_16 rfl (lv_at hl 1 rfl) ?_
    refine zw_iald hx hb hK hP 1 0 rfl rfl (by omega) (by omega) ⟨by omega, by omega⟩ dX5_moveWork_17 ?_
    refine zw_if_ge (tgt := 25) hx hb dX5_moveWork_18 (by decide) ⟨by omega, by omega⟩ (fun h3 => ?_) (fun h3 => ?_)
    · skip
      exact absurd True.intro (by omega)
    · skip
      refine zw_iconst hx hb dX5_moveWork_21 ?_
      refine lv_goto (tgt := 43) hx hb dX5_moveWork_22 (by decide) ?_
      refine va_put (D := (dC, dI)) (ci := 5) (v := .int (zi 2)) (ty := .int) (C := RX5) (T := TX5) (N := 12) hx hb hts (by decide +kernel) tyX5 tyX5_ok nmX5 hown hK hP hD hS 0 rfl rfl 0 (by decide) (hts (.fieldLink RX5 35 "CivilDaysModel" "code" "I") (by decide +kernel)) (fun _ h9 => h9) rfl (by decide +kernel) rfl rfl (Nat.le_of_ble_eq_true rfl) dX5_moveWork_43 (fun H locs hP hD hS => ?_)
      have hP : va_P (dC, dI) vwCl [(g0, .inr (5, [.int (zi 2), .ref ps, .int (zi ru), .ref pk, .ref pa, .ref pb, .ref pq, .int (zi we), .int (zi wr), .ref pw, .int (zi ty), .ref pt])), (ps, aI cI 10 sf), (pk, aI cI 12 kf), (pa, aI cI 12 af), (pb, aI cI 12 bf), (pq, aI cI 12 zf)] H := hP
      have hD : va_D A [(g0, .inr (5, [.int (zi 2), .ref ps, .int (zi ru), .ref pk, .ref pa, .ref pb, .ref pq, .int (zi we), .int (zi wr), .ref pw, .int (zi ty), .ref pt])), (ps, aI cI 10 sf), (pk, aI cI 12 kf), (pa, aI cI 12 af), (pb, aI cI 12 bf), (pq, aI cI 12 zf)] := hD
      refine lv_aload_n hx hb dX5_moveWork_46 rfl (lv_at hl 0 rfl) ?_
      refine va_get (D := (dC, dI)) (ci := 5) (v := .int (zi 2)) (C := RX5) (T := TX5) (N := 12) hx hb hts (by decide +kernel) hown hK hP 0 rfl rfl 0 (by decide) (hts (.fieldLink RX5 35 "CivilDaysModel" "code" "I") (by decide +kernel)) (fun _ h9 => h9) rfl dX5_moveWork_47 ?_
      refine zw_if_le (tgt := 55) hx hb dX5_moveWork_50 (by decide) ⟨by omega, by omega⟩ (fun h4 => ?_) (fun h4 => ?_)
      · skip
        exact absurd True.intro (by omega)
      · skip
        refine zw_iconst hx hb dX5_moveWork_53 ?_
        have hP9 := hP.sub (ws' := [(g0, .inr (5, [.int (zi 2), .ref ps, .int (zi ru), .ref pk, .ref pa, .ref pb, .ref pq, .int (zi we), .int (zi wr), .ref pw, .int (zi ty), .ref pt])), (ps, aI cI 10 sf), (pk, aI cI 12 kf), (pa, aI cI 12 af), (pb, aI cI 12 bf), (pq, aI cI 12 zf)]) [0, 1, 2, 3, 4, 5] rfl
        have hD9 := hD.sub (ws' := [(g0, .inr (5, [.int (zi 2), .ref ps, .int (zi ru), .ref pk, .ref pa, .ref pb, .ref pq, .int (zi we), .int (zi wr), .ref pw, .int (zi ty), .ref pt])), (ps, aI cI 10 sf), (pk, aI cI 12 kf), (pa, aI cI 12 af), (pb, aI cI 12 bf), (pq, aI cI 12 zf)]) [0, 1, 2, 3, 4, 5] (by decide) rfl
        exact W.iret (v := zi 0) hx hb hr (fun t ht hW => ⟨⟨zi 0, (), rfl, rfl, by rw [ht]; exact hP9, va_K.moved hW.alike hK, hD9⟩, hS.F ht⟩) hS.2.2 dX5_moveWork_54
  · skip
    exact absurd True.intro (by omega)

set_option maxHeartbeats 4000000 in
set_option maxRecDepth 100000 in
theorem c_X5_moveWork_3 (l : Launch)  (dC : Nat → ClassId) (dI : Nat → Nat → Nat) (cI : ClassId) (g0 : Nat) (ps : Nat) (pk : Nat) (pa : Nat) (pb : Nat) (pq : Nat) (pw : Nat) (pt : Nat) (co : Int) (ru : Int) (we : Int) (wr : Int) (ty : Int) (sf : Nat → Int) (kf : Nat → Int) (af : Nat → Int) (bf : Nat → Int) (zf : Nat → Int) (sl : Int) (many : Int) (sz : Nat) (hp0 : 0 ≤ sl ∧ sl ≤ 9) (hp1 : 0 ≤ (sf sl.toNat) ∧ (sf sl.toNat) ≤ 3652058) (hp2 : -2147483648 ≤ many ∧ many ≤ 2147483647) (hp3 : many < -1000 ∨ 1000 < many) : Met l yX5_moveWork wsX5_moveWork ({ frames := 2, cells := 0, slots := 0, locals := 42 }) (zPw (dC, dI) [(cI, .int)] sz [.ref g0, .int (zi sl), .int (zi many)] [(g0, .inr (5, [.int (zi co), .ref ps, .int (zi ru), .ref pk, .ref pa, .ref pb, .ref pq, .int (zi we), .int (zi wr), .ref pw, .int (zi ty), .ref pt])), (ps, aI cI 10 sf), (pk, aI cI 12 kf), (pa, aI cI 12 af), (pb, aI cI 12 bf), (pq, aI cI 12 zf)]) (va_Qi (fun (r : Int32) (_ : Unit) => r = zi 0) (zB (dC, dI) [(cI, .int)] (va_A [(g0, .inr (5, [.int (zi co), .ref ps, .int (zi ru), .ref pk, .ref pa, .ref pb, .ref pq, .int (zi we), .int (zi wr), .ref pw, .int (zi ty), .ref pt])), (ps, aI cI 10 sf), (pk, aI cI 12 kf), (pa, aI cI 12 af), (pb, aI cI 12 bf), (pq, aI cI 12 zf)] sz) [(g0, .inr (5, [.int (zi 3), .ref ps, .int (zi ru), .ref pk, .ref pa, .ref pb, .ref pq, .int (zi we), .int (zi wr), .ref pw, .int (zi ty), .ref pt])), (ps, aI cI 10 sf), (pk, aI cI 12 kf), (pa, aI cI 12 af), (pb, aI cI 12 bf), (pq, aI cI 12 zf)]) (va_A [(g0, .inr (5, [.int (zi co), .ref ps, .int (zi ru), .ref pk, .ref pa, .ref pb, .ref pq, .int (zi we), .int (zi wr), .ref pw, .int (zi ty), .ref pt])), (ps, aI cI 10 sf), (pk, aI cI 12 kf), (pa, aI cI 12 af), (pb, aI cI 12 bf), (pq, aI cI 12 zf)] sz)) 0 0 (va_A [(g0, .inr (5, [.int (zi co), .ref ps, .int (zi ru), .ref pk, .ref pa, .ref pb, .ref pq, .int (zi we), .int (zi wr), .ref pw, .int (zi ty), .ref pt])), (ps, aI cI 10 sf), (pk, aI cI 12 kf), (pa, aI cI 12 af), (pb, aI cI 12 bf), (pq, aI cI 12 zf)] sz) := by
  refine Met.ofW (cc := cX5_moveWork) (maxL := 5) (ret := (some .int)) (by decide) rfl ?_
  intro p e s m args below meth c s₁ B hml hv
  obtain ⟨rfl, hsz, hP, hK, hD0⟩ := hv
  have hx := B.exec
  have hb := B.bytes
  have hr := B.returns
  have hts := atoms_spec (ws := wsX5_moveWork) B.pre
  have hown : s.vm.findClass RX5 = some m.cls := findClass_of_methodNamed B.named
  have hlocks := B.notSynchronized
  subst hsz
  have hD := hD0.self (sz := s.heap.size)
  generalize hAe : va_A [(g0, .inr (5, [.int (zi co), .ref ps, .int (zi ru), .ref pk, .ref pa, .ref pb, .ref pq, .int (zi we), .int (zi wr), .ref pw, .int (zi ty), .ref pt])), (ps, aI cI 10 sf), (pk, aI cI 12 kf), (pa, aI cI 12 af), (pb, aI cI 12 bf), (pq, aI cI 12 zf)] s.heap.size = A at hD ⊢
  have hA : ∀ q : Nat, s.heap.size ≤ q → A q := fun q h => by rw [← hAe]; exact Or.inr h
  have hS : va_S A s.heap s.heap [] := va_S.rf
  have hP : va_P (dC, dI) vwCl [(g0, .inr (5, [.int (zi co), .ref ps, .int (zi ru), .ref pk, .ref pa, .ref pb, .ref pq, .int (zi we), .int (zi wr), .ref pw, .int (zi ty), .ref pt])), (ps, aI cI 10 sf), (pk, aI cI 12 kf), (pa, aI cI 12 af), (pb, aI cI 12 bf), (pq, aI cI 12 zf)] s.heap := hP
  have hl := lv_entry ([.ref g0, .int (zi sl), .int (zi many)]) (n := 5) (Nat.le_of_ble_eq_true rfl)
  rw [lg_entry_eq]
  generalize (lg_sl ([.ref g0, .int (zi sl), .int (zi many)]) ++ List.replicate (5 - (lg_sl ([.ref g0, .int (zi sl), .int (zi many)])).length) Slot.unset).toArray = ls at hl ⊢
  have hl : lv_has ls 5 [(0, .ref g0), (1, .int (zi sl)), (2, .int (zi many))] := hl
  refine lv_aload_n hx hb dX5_moveWork_0 rfl (lv_at hl 0 rfl) ?_
  refine lv_iload_n hx hb dX5_moveWork_1 rfl (lv_at hl 1 rfl) ?_
  have hh1 := c_X5_isSlot l sl (by omega)
  refine vp_callSi (va_Run.run (va_runS (As := [.int (zi sl)]) (rest := [.ref g0]) ⟨hx, hb, hml, hown, hts⟩ hh1 (va_cwS 1 hts gX5_moveWork_X5_isSlot rfl rfl rfl (by decide +kernel) ⟨Nat.le_of_ble_eq_true rfl, Nat.le_of_ble_eq_true rfl⟩) ⟨fun a U g mk q => q, fun U hU hW => ⟨rfl, trivial⟩⟩ rfl rfl hl.1 rfl (lv_room (Nat.le_of_ble_eq_true rfl)) dX5_moveWork_2 ⟨Nat.zero_le _, Nat.zero_le _⟩)) (fun r1 (hr1 : r1 = zi (f_X5_isSlot sl)) => ?_)
  subst hr1
  have hf1 := b_X5_isSlot sl (by omega)
  refine zw_if_ne (tgt := 12) hx hb dX5_moveWork_5 (by decide) ⟨by omega, by omega⟩ (fun h2 => ?_) (fun h2 => ?_)
  · skip
    refine lv_aload_n hx hb dX5_moveWork_12 rfl (lv_at hl 0 rfl) ?_
    refine va_get (D := (dC, dI)) (ci := 5) (v := .ref ps) (C := RX5) (T := TX5) (N := 12) hx hb hts (by decide +kernel) hown hK hP 0 rfl rfl 1 (by decide) (hts (.fieldLink RX5 7 "CivilDaysModel" "slots" "[I") (by decide +kernel)) (fun _ h9 => h9) rfl dX5_moveWork_13 ?_
    refine lv_iload_n hx hb dX5_moveWork_16 rfl (lv_at hl 1 rfl) ?_
    refine zw_iald hx hb hK hP 1 0 rfl rfl (by omega) (by omega) ⟨by omega, by omega⟩ dX5_moveWork_17 ?_
    refine zw_if_ge (tgt := 25) hx hb dX5_moveWork_18 (by decide) ⟨by omega, by omega⟩ (fun h3 => ?_) (fun h3 => ?_)
    · skip
      refine lv_iload_n hx hb dX5_moveWork_25 rfl (lv_at hl 2 rfl) ?_
      refine zw_sipush hx hb dX5_moveWork_26 (by decide) ?_
      refine zw_sipush hx hb dX5_moveWork_29 (by decide) ?_
      have hh4 := c_X5_in l many (-1000) 1000 (by omega) (by omega) (by omega)
      refine vp_callSi (va_Run.run (va_runS (As := [.int (zi many), .int (zi (-1000)), .int (zi 1000)]) (rest := [.ref g0]) ⟨hx, hb, hml, hown, hts⟩ hh4 (va_cwS 3 hts gX5_moveWork_X5_in rfl rfl rfl (by decide +kernel) ⟨Nat.le_of_ble_eq_true rfl, Nat.le_of_ble_eq_true rfl⟩) ⟨fun a U g mk q => q, fun U hU hW => ⟨rfl, trivial⟩⟩ rfl rfl hl.1 rfl (lv_room (Nat.le_of_ble_eq_true rfl)) dX5_moveWork_32 ⟨Nat.zero_le _, Nat.zero_le _⟩)) (fun r4 (hr4 : r4 = zi (f_X5_in many (-1000) 1000)) => ?_)
      subst hr4
      have hf4 := b_X5_in many (-1000) 1000 (by omega) (by omega) (by omega)
      refine zw_if_ne (tgt := 42) hx hb dX5_moveWork_35 (by decide) ⟨by omega, by omega⟩ (fun h5 => ?_) (fun h5 => ?_)
      · skip
        exact absurd True.intro (by omega)
      · skip
        refine zw_iconst hx hb dX5_moveWork_38 ?_
        refine lv_goto (tgt := 43) hx hb dX5_moveWork_39 (by decide) ?_
        refine va_put (D := (dC, dI)) (ci := 5) (v := .int (zi 3)) (ty := .int) (C := RX5) (T := TX5) (N := 12) hx hb hts (by decide +kernel) tyX5 tyX5_ok nmX5 hown hK hP hD hS 0 rfl rfl 0 (by decide) (hts (.fieldLink RX5 35 "CivilDaysModel" "code" "I") (by decide +kernel)) (fun _ h9 => h9) rfl (by decide +kernel) rfl rfl (Nat.le_of_ble_eq_true rfl) dX5_moveWork_43 (fun H locs hP hD hS => ?_)
        have hP : va_P (dC, dI) vwCl [(g0, .inr (5, [.int (zi 3), .ref ps, .int (zi ru), .ref pk, .ref pa, .ref pb, .ref pq, .int (zi we), .int (zi wr), .ref pw, .int (zi ty), .ref pt])), (ps, aI cI 10 sf), (pk, aI cI 12 kf), (pa, aI cI 12 af), (pb, aI cI 12 bf), (pq, aI cI 12 zf)] H := hP
        have hD : va_D A [(g0, .inr (5, [.int (zi 3), .ref ps, .int (zi ru), .ref pk, .ref pa, .ref pb, .ref pq, .int (zi we), .int (zi wr), .ref pw, .int (zi ty), .ref pt])), (ps, aI cI 10 sf), (pk, aI cI 12 kf), (pa, aI cI 12 af), (pb, aI cI 12 bf), (pq, aI cI 12 zf)] := hD
        refine lv_aload_n hx hb dX5_moveWork_46 rfl (lv_at hl 0 rfl) ?_
        refine va_get (D := (dC, dI)) (ci := 5) (v := .int (zi 3)) (C := RX5) (T := TX5) (N := 12) hx hb hts (by decide +kernel) hown hK hP 0 rfl rfl 0 (by decide) (hts (.fieldLink RX5 35 "CivilDaysModel" "code" "I") (by decide +kernel)) (fun _ h9 => h9) rfl dX5_moveWork_47 ?_
        refine zw_if_le (tgt := 55) hx hb dX5_moveWork_50 (by decide) ⟨by omega, by omega⟩ (fun h6 => ?_) (fun h6 => ?_)
        · skip
          exact absurd True.intro (by omega)
        · skip
          refine zw_iconst hx hb dX5_moveWork_53 ?_
          have hP9 := hP.sub (ws' := [(g0, .inr (5, [.int (zi 3), .ref ps, .int (zi ru), .ref pk, .ref pa, .ref pb, .ref pq, .int (zi we), .int (zi wr), .ref pw, .int (zi ty), .ref pt])), (ps, aI cI 10 sf), (pk, aI cI 12 kf), (pa, aI cI 12 af), (pb, aI cI 12 bf), (pq, aI cI 12 zf)]) [0, 1, 2, 3, 4, 5] rfl
          have hD9 := hD.sub (ws' := [(g0, .inr (5, [.int (zi 3), .ref ps, .int (zi ru), .ref pk, .ref pa, .ref pb, .ref pq, .int (zi we), .int (zi wr), .ref pw, .int (zi ty), .ref pt])), (ps, aI cI 10 sf), (pk, aI cI 12 kf), (pa, aI cI 12 af), (pb, aI cI 12 bf), (pq, aI cI 12 zf)]) [0, 1, 2, 3, 4, 5] (by decide) rfl
          exact W.iret (v := zi 0) hx hb hr (fun t ht hW => ⟨⟨zi 0, (), rfl, rfl, by rw [ht]; exact hP9, va_K.moved hW.alike hK, hD9⟩, hS.F ht⟩) hS.2.2 dX5_moveWork_54
    · skip
      exact absurd True.intro (by omega)
  · skip
    exact absurd True.intro (by omega)

set_option maxHeartbeats 4000000 in
set_option maxRecDepth 100000 in
theorem c_X5_moveWork_p (l : Launch)  (dC : Nat → ClassId) (dI : Nat → Nat → Nat) (cI : ClassId) (g0 : Nat) (ps : Nat) (pk : Nat) (pa : Nat) (pb : Nat) (pq : Nat) (pw : Nat) (pt : Nat) (co : Int) (ru : Int) (we : Int) (wr : Int) (ty : Int) (sf : Nat → Int) (kf : Nat → Int) (af : Nat → Int) (bf : Nat → Int) (zf : Nat → Int) (fz : Nat) (rr : Int) (sl : Int) (many : Int) (sz : Nat) (hp0 : 0 ≤ sl ∧ sl ≤ 9) (hp1 : 0 ≤ (sf sl.toNat) ∧ (sf sl.toNat) ≤ 3652058) (hp2 : 0 ≤ ru ∧ ru ≤ 12) (hp3 : ∀ j : Nat, (j : Int) < ru → (0 ≤ (kf j) ∧ (kf j) ≤ 3) ∧ ((kf j) = 1 ∧ -100 ≤ (af j) ∧ (af j) ≤ 100 ∨ (kf j) ≠ 1 ∧ 1 ≤ (af j) ∧ (af j) ≤ 12) ∧ ((kf j) = 1 ∨ (kf j) = 2 ∧ 1 ≤ (bf j) ∧ (bf j) ≤ 7 ∨ (kf j) ≠ 2 ∧ 1 ≤ (bf j) ∧ (bf j) ≤ 31) ∧ ((kf j) ≠ 2 ∨ (zf j) = -1 ∨ 1 ≤ (zf j) ∧ (zf j) ≤ 4)) (hp4 : 0 ≤ we ∧ we ≤ 127) (hp5 : -1000 ≤ many ∧ many ≤ 1000 ∧ 0 ≤ many) (hp6 : 4000000 ≤ fz) (hp7 : zmv (wkX5 we kf af bf zf ru) 1 fz (sf sl.toNat) many = rr) (hp8 : 0 ≤ rr ∧ rr ≤ 3652058) : Met l yX5_moveWork wsX5_moveWork ({ frames := 7, cells := 0, slots := 0, locals := 159 }) (zPw (dC, dI) [(cI, .int)] sz [.ref g0, .int (zi sl), .int (zi many)] [(g0, .inr (5, [.int (zi co), .ref ps, .int (zi ru), .ref pk, .ref pa, .ref pb, .ref pq, .int (zi we), .int (zi wr), .ref pw, .int (zi ty), .ref pt])), (ps, aI cI 10 sf), (pk, aI cI 12 kf), (pa, aI cI 12 af), (pb, aI cI 12 bf), (pq, aI cI 12 zf)]) (va_Qi (fun (r : Int32) (u : (Int) × (Nat → Int)) => r = zi rr ∧ (u.1 = 0 ∧ u.2 = zup sf sl.toNat rr)) (fun (u : (Int) × (Nat → Int)) => zB (dC, dI) [(cI, .int)] (va_A [(g0, .inr (5, [.int (zi co), .ref ps, .int (zi ru), .ref pk, .ref pa, .ref pb, .ref pq, .int (zi we), .int (zi wr), .ref pw, .int (zi ty), .ref pt])), (ps, aI cI 10 sf), (pk, aI cI 12 kf), (pa, aI cI 12 af), (pb, aI cI 12 bf), (pq, aI cI 12 zf)] sz) [(g0, .inr (5, [.int (zi u.1), .ref ps, .int (zi ru), .ref pk, .ref pa, .ref pb, .ref pq, .int (zi we), .int (zi wr), .ref pw, .int (zi ty), .ref pt])), (ps, aI cI 10 u.2), (pk, aI cI 12 kf), (pa, aI cI 12 af), (pb, aI cI 12 bf), (pq, aI cI 12 zf)] ()) (va_A [(g0, .inr (5, [.int (zi co), .ref ps, .int (zi ru), .ref pk, .ref pa, .ref pb, .ref pq, .int (zi we), .int (zi wr), .ref pw, .int (zi ty), .ref pt])), (ps, aI cI 10 sf), (pk, aI cI 12 kf), (pa, aI cI 12 af), (pb, aI cI 12 bf), (pq, aI cI 12 zf)] sz)) 0 0 (va_A [(g0, .inr (5, [.int (zi co), .ref ps, .int (zi ru), .ref pk, .ref pa, .ref pb, .ref pq, .int (zi we), .int (zi wr), .ref pw, .int (zi ty), .ref pt])), (ps, aI cI 10 sf), (pk, aI cI 12 kf), (pa, aI cI 12 af), (pb, aI cI 12 bf), (pq, aI cI 12 zf)] sz) := by
  refine Met.ofW (cc := cX5_moveWork) (maxL := 5) (ret := (some .int)) (by decide) rfl ?_
  intro p e s m args below meth c s₁ B hml hv
  obtain ⟨rfl, hsz, hP, hK, hD0⟩ := hv
  have hx := B.exec
  have hb := B.bytes
  have hr := B.returns
  have hts := atoms_spec (ws := wsX5_moveWork) B.pre
  have hown : s.vm.findClass RX5 = some m.cls := findClass_of_methodNamed B.named
  have hlocks := B.notSynchronized
  subst hsz
  have hD := hD0.self (sz := s.heap.size)
  generalize hAe : va_A [(g0, .inr (5, [.int (zi co), .ref ps, .int (zi ru), .ref pk, .ref pa, .ref pb, .ref pq, .int (zi we), .int (zi wr), .ref pw, .int (zi ty), .ref pt])), (ps, aI cI 10 sf), (pk, aI cI 12 kf), (pa, aI cI 12 af), (pb, aI cI 12 bf), (pq, aI cI 12 zf)] s.heap.size = A at hD ⊢
  have hA : ∀ q : Nat, s.heap.size ≤ q → A q := fun q h => by rw [← hAe]; exact Or.inr h
  have hS : va_S A s.heap s.heap [] := va_S.rf
  have hP : va_P (dC, dI) vwCl [(g0, .inr (5, [.int (zi co), .ref ps, .int (zi ru), .ref pk, .ref pa, .ref pb, .ref pq, .int (zi we), .int (zi wr), .ref pw, .int (zi ty), .ref pt])), (ps, aI cI 10 sf), (pk, aI cI 12 kf), (pa, aI cI 12 af), (pb, aI cI 12 bf), (pq, aI cI 12 zf)] s.heap := hP
  have loop65 : ∀ (fu : Nat) (nn : Int) (lft : Int) (co : Int), (co = 0 ∧ 0 ≤ nn ∧ nn ≤ 3652058 ∨ co = 4 ∧ rr = -1 ∧ 0 < lft) → (co = 0 → zmv (wkX5 we kf af bf zf ru) 1 fu nn lft = rr) → (-2 ≤ nn ∧ nn ≤ 3652060 ∧ 0 ≤ lft ∧ lft ≤ 1000) → (co = 0 ∧ 3652060 - nn < fu ∨ co = 4 ∧ 0 < fu) → ∀ (ls : Array Slot) (H : Heap) (locs : List Loc), lv_has ls 5 [(3, .int (zi nn)), (4, .int (zi lft)), (0, .ref g0), (1, .int (zi sl)), (2, .int (zi many))] → va_P (dC, dI) vwCl [(g0, .inr (5, [.int (zi co), .ref ps, .int (zi ru), .ref pk, .ref pa, .ref pb, .ref pq, .int (zi we), .int (zi wr), .ref pw, .int (zi ty), .ref pt])), (ps, aI cI 10 sf), (pk, aI cI 12 kf), (pa, aI cI 12 af), (pb, aI cI 12 bf), (pq, aI cI 12 zf)] H → va_D A [(g0, .inr (5, [.int (zi co), .ref ps, .int (zi ru), .ref pk, .ref pa, .ref pb, .ref pq, .int (zi we), .int (zi wr), .ref pw, .int (zi ty), .ref pt])), (ps, aI cI 10 sf), (pk, aI cI 12 kf), (pa, aI cI 12 af), (pb, aI cI 12 bf), (pq, aI cI 12 zf)] → va_S A s.heap H locs → W p l e (headSpec wsX5_moveWork ({ frames := 7, cells := 0, slots := 0, locals := 159 })).room s m ([.ref g0, .int (zi sl), .int (zi many)] : List Value).toArray below meth c H locs 0 0 (MQ below (va_Qi (fun (r : Int32) (u : (Int) × (Nat → Int)) => r = zi rr ∧ (u.1 = 0 ∧ u.2 = zup sf sl.toNat rr)) (fun (u : (Int) × (Nat → Int)) => zB (dC, dI) [(cI, .int)] A [(g0, .inr (5, [.int (zi u.1), .ref ps, .int (zi ru), .ref pk, .ref pa, .ref pb, .ref pq, .int (zi we), .int (zi wr), .ref pw, .int (zi ty), .ref pt])), (ps, aI cI 10 u.2), (pk, aI cI 12 kf), (pa, aI cI 12 af), (pb, aI cI 12 bf), (pq, aI cI 12 zf)] ()) A) ([.ref g0, .int (zi sl), .int (zi many)] : List Value).toArray s 0 0 A) (F0 m 65 ls []) := by
    intro fu
    induction fu with
    | zero =>
      intro nn lft co hi0 hi1 hi2 hfu ls H locs hl hP hD hS
      exact absurd hfu (by omega)
    | succ fu ih =>
      intro nn lft co hi0 hi1 hi2 hfu ls H locs hl hP hD hS
      have hP : va_P (dC, dI) vwCl [(g0, .inr (5, [.int (zi co), .ref ps, .int (zi ru), .ref pk, .ref pa, .ref pb, .ref pq, .int (zi we), .int (zi wr), .ref pw, .int (zi ty), .ref pt])), (ps, aI cI 10 sf), (pk, aI cI 12 kf), (pa, aI cI 12 af), (pb, aI cI 12 bf), (pq, aI cI 12 zf)] H := hP
      have hD : va_D A [(g0, .inr (5, [.int (zi co), .ref ps, .int (zi ru), .ref pk, .ref pa, .ref pb, .ref pq, .int (zi we), .int (zi wr), .ref pw, .int (zi ty), .ref pt])), (ps, aI cI 10 sf), (pk, aI cI 12 kf), (pa, aI cI 12 af), (pb, aI cI 12 bf), (pq, aI cI 12 zf)] := hD
      refine lv_iload hx hb dX5_moveWork_65 (lv_at hl 1 rfl) ?_
      refine zw_if_eq (tgt := 142) hx hb dX5_moveWork_67 (by decide) ⟨by omega, by omega⟩ (fun h1 => ?_) (fun h1 => ?_)
      · skip
        first | have hz0 := zmv_0 (wkX5 we kf af bf zf ru) 1 fu nn lft (by omega) | skip
        first | have hzy := hi1 (by omega) | skip
        refine lv_aload_n hx hb dX5_moveWork_142 rfl (lv_at hl 2 rfl) ?_
        refine va_get (D := (dC, dI)) (ci := 5) (v := .int (zi co)) (C := RX5) (T := TX5) (N := 12) hx hb hts (by decide +kernel) hown hK hP 0 rfl rfl 0 (by decide) (hts (.fieldLink RX5 35 "CivilDaysModel" "code" "I") (by decide +kernel)) (fun _ h9 => h9) rfl dX5_moveWork_143 ?_
        refine zw_if_le (tgt := 153) hx hb dX5_moveWork_146 (by decide) ⟨by omega, by omega⟩ (fun h2 => ?_) (fun h2 => ?_)
        · skip
          refine lv_aload_n hx hb dX5_moveWork_153 rfl (lv_at hl 2 rfl) ?_
          refine lv_iload_n hx hb dX5_moveWork_154 rfl (lv_at hl 3 rfl) ?_
          refine lv_iload_n hx hb dX5_moveWork_155 rfl (lv_at hl 0 rfl) ?_
          have hh3 := c_X5_lay l dC dI cI g0 ps pk pa pb pq pw pt co ru we wr ty sf sl nn H.size (by omega) (by omega)
          have hPc := hP.sub (ws' := [(g0, .inr (5, [.int (zi co), .ref ps, .int (zi ru), .ref pk, .ref pa, .ref pb, .ref pq, .int (zi we), .int (zi wr), .ref pw, .int (zi ty), .ref pt])), (ps, aI cI 10 sf)]) [0, 1] rfl
          have hKc : va_K (dC, dI) vwCl [(cI, .int)] s := hK
          have hDc := hD.sub (ws' := [(g0, .inr (5, [.int (zi co), .ref ps, .int (zi ru), .ref pk, .ref pa, .ref pb, .ref pq, .int (zi we), .int (zi wr), .ref pw, .int (zi ty), .ref pt])), (ps, aI cI 10 sf)]) [0, 1] (by decide) rfl
          have hFc := va_free (wc := [(g0, .inr (5, [.int (zi co), .ref ps, .int (zi ru), .ref pk, .ref pa, .ref pb, .ref pq, .int (zi we), .int (zi wr), .ref pw, .int (zi ty), .ref pt])), (ps, aI cI 10 sf)]) hD hS hA [0, 1] rfl
          refine va_calli (va_runV (As := [.int (zi sl), .int (zi nn)]) (rest := []) ⟨hx, hb, hml, hown, hts⟩ hh3 (cwV 2 hts gX5_moveWork_X5_lay rfl rfl rfl (by decide +kernel) ⟨Nat.le_of_ble_eq_true rfl, Nat.le_of_ble_eq_true rfl⟩) ⟨zPw.blind _ _ _ _ _, va_recv hKc hPc (ci := 5) (q0 := 0) rfl rfl, fun U hU hW => ⟨rfl, by rw [hU], by rw [hU]; exact hPc, va_K.moved hW.alike hKc, hDc.weaken (fun _ _ _ _ => trivial)⟩⟩ rfl rfl hl.1 rfl (lv_room (Nat.le_of_ble_eq_true rfl)) dX5_moveWork_156 ⟨Nat.le_of_ble_eq_true rfl, Nat.le_of_ble_eq_true rfl⟩) hS (fun q _ h => hFc q h) hFc (fun r3 u t H1 locs ht hvm hw hB hz1 hk1 hS => ?_)
          obtain ⟨hP1, hK1, hD1⟩ := hB
          rw [ht] at hP1
          obtain ⟨hP, hD⟩ := va_join (wr := [(pk, aI cI 12 kf), (pa, aI cI 12 af), (pb, aI cI 12 bf), (pq, aI cI 12 zf)]) (w1 := [(g0, .inr (5, [.int (zi co), .ref ps, .int (zi ru), .ref pk, .ref pa, .ref pb, .ref pq, .int (zi we), .int (zi wr), .ref pw, .int (zi ty), .ref pt])), (ps, aI cI 10 (zup sf sl.toNat nn))]) hP hD [0, 1] [2, 3, 4, 5] rfl rfl (by decide) (by decide) hk1 hFc hP1 hD1
          generalize H1 = H at hP hS ⊢
          obtain rfl : r3 = zi nn := hw
          have hP : va_P (dC, dI) vwCl [(pk, aI cI 12 kf), (pa, aI cI 12 af), (pb, aI cI 12 bf), (pq, aI cI 12 zf), (g0, .inr (5, [.int (zi co), .ref ps, .int (zi ru), .ref pk, .ref pa, .ref pb, .ref pq, .int (zi we), .int (zi wr), .ref pw, .int (zi ty), .ref pt])), (ps, aI cI 10 (zup sf sl.toNat nn))] H := hP
          have hD : va_D A [(pk, aI cI 12 kf), (pa, aI cI 12 af), (pb, aI cI 12 bf), (pq, aI cI 12 zf), (g0, .inr (5, [.int (zi co), .ref ps, .int (zi ru), .ref pk, .ref pa, .ref pb, .ref pq, .int (zi we), .int (zi wr), .ref pw, .int (zi ty), .ref pt])), (ps, aI cI 10 (zup sf sl.toNat nn))] := hD
          have hP9 := hP.sub (ws' := [(g0, .inr (5, [.int (zi co), .ref ps, .int (zi ru), .ref pk, .ref pa, .ref pb, .ref pq, .int (zi we), .int (zi wr), .ref pw, .int (zi ty), .ref pt])), (ps, aI cI 10 (zup sf sl.toNat nn)), (pk, aI cI 12 kf), (pa, aI cI 12 af), (pb, aI cI 12 bf), (pq, aI cI 12 zf)]) [4, 5, 0, 1, 2, 3] rfl
          have hD9 := hD.sub (ws' := [(g0, .inr (5, [.int (zi co), .ref ps, .int (zi ru), .ref pk, .ref pa, .ref pb, .ref pq, .int (zi we), .int (zi wr), .ref pw, .int (zi ty), .ref pt])), (ps, aI cI 10 (zup sf sl.toNat nn)), (pk, aI cI 12 kf), (pa, aI cI 12 af), (pb, aI cI 12 bf), (pq, aI cI 12 zf)]) [4, 5, 0, 1, 2, 3] (by decide) rfl
          have hp9 : co = 0 ∧ (zup sf sl.toNat nn) = zup sf sl.toNat rr := by
            exact ⟨by omega, by rw [show nn = rr from by omega]⟩
          exact W.iret (v := zi nn) hx hb hr (fun t ht hW => ⟨⟨zi nn, (co, (zup sf sl.toNat nn)), rfl, ⟨congrArg zi (by omega), hp9⟩, by rw [ht]; exact hP9, va_K.moved hW.alike hK, hD9⟩, hS.F ht⟩) hS.2.2 dX5_moveWork_159
        · skip
          exact absurd True.intro (by omega)
      · skip
        refine lv_aload_n hx hb dX5_moveWork_70 rfl (lv_at hl 2 rfl) ?_
        refine va_get (D := (dC, dI)) (ci := 5) (v := .int (zi co)) (C := RX5) (T := TX5) (N := 12) hx hb hts (by decide +kernel) hown hK hP 0 rfl rfl 0 (by decide) (hts (.fieldLink RX5 35 "CivilDaysModel" "code" "I") (by decide +kernel)) (fun _ h9 => h9) rfl dX5_moveWork_71 ?_
        refine zw_if_ne (tgt := 142) hx hb dX5_moveWork_74 (by decide) ⟨by omega, by omega⟩ (fun h4 => ?_) (fun h4 => ?_)
        · skip
          first | have hz0 := zmv_0 (wkX5 we kf af bf zf ru) 1 fu nn lft (by omega) | skip
          first | have hzy := hi1 (by omega) | skip
          refine lv_aload_n hx hb dX5_moveWork_142 rfl (lv_at hl 2 rfl) ?_
          refine va_get (D := (dC, dI)) (ci := 5) (v := .int (zi co)) (C := RX5) (T := TX5) (N := 12) hx hb hts (by decide +kernel) hown hK hP 0 rfl rfl 0 (by decide) (hts (.fieldLink RX5 35 "CivilDaysModel" "code" "I") (by decide +kernel)) (fun _ h9 => h9) rfl dX5_moveWork_143 ?_
          refine zw_if_le (tgt := 153) hx hb dX5_moveWork_146 (by decide) ⟨by omega, by omega⟩ (fun h5 => ?_) (fun h5 => ?_)
          · skip
            refine lv_aload_n hx hb dX5_moveWork_153 rfl (lv_at hl 2 rfl) ?_
            refine lv_iload_n hx hb dX5_moveWork_154 rfl (lv_at hl 3 rfl) ?_
            refine lv_iload_n hx hb dX5_moveWork_155 rfl (lv_at hl 0 rfl) ?_
            have hh6 := c_X5_lay l dC dI cI g0 ps pk pa pb pq pw pt co ru we wr ty sf sl nn H.size (by omega) (by omega)
            have hPc := hP.sub (ws' := [(g0, .inr (5, [.int (zi co), .ref ps, .int (zi ru), .ref pk, .ref pa, .ref pb, .ref pq, .int (zi we), .int (zi wr), .ref pw, .int (zi ty), .ref pt])), (ps, aI cI 10 sf)]) [0, 1] rfl
            have hKc : va_K (dC, dI) vwCl [(cI, .int)] s := hK
            have hDc := hD.sub (ws' := [(g0, .inr (5, [.int (zi co), .ref ps, .int (zi ru), .ref pk, .ref pa, .ref pb, .ref pq, .int (zi we), .int (zi wr), .ref pw, .int (zi ty), .ref pt])), (ps, aI cI 10 sf)]) [0, 1] (by decide) rfl
            have hFc := va_free (wc := [(g0, .inr (5, [.int (zi co), .ref ps, .int (zi ru), .ref pk, .ref pa, .ref pb, .ref pq, .int (zi we), .int (zi wr), .ref pw, .int (zi ty), .ref pt])), (ps, aI cI 10 sf)]) hD hS hA [0, 1] rfl
            refine va_calli (va_runV (As := [.int (zi sl), .int (zi nn)]) (rest := []) ⟨hx, hb, hml, hown, hts⟩ hh6 (cwV 2 hts gX5_moveWork_X5_lay rfl rfl rfl (by decide +kernel) ⟨Nat.le_of_ble_eq_true rfl, Nat.le_of_ble_eq_true rfl⟩) ⟨zPw.blind _ _ _ _ _, va_recv hKc hPc (ci := 5) (q0 := 0) rfl rfl, fun U hU hW => ⟨rfl, by rw [hU], by rw [hU]; exact hPc, va_K.moved hW.alike hKc, hDc.weaken (fun _ _ _ _ => trivial)⟩⟩ rfl rfl hl.1 rfl (lv_room (Nat.le_of_ble_eq_true rfl)) dX5_moveWork_156 ⟨Nat.le_of_ble_eq_true rfl, Nat.le_of_ble_eq_true rfl⟩) hS (fun q _ h => hFc q h) hFc (fun r6 u t H1 locs ht hvm hw hB hz1 hk1 hS => ?_)
            obtain ⟨hP1, hK1, hD1⟩ := hB
            rw [ht] at hP1
            obtain ⟨hP, hD⟩ := va_join (wr := [(pk, aI cI 12 kf), (pa, aI cI 12 af), (pb, aI cI 12 bf), (pq, aI cI 12 zf)]) (w1 := [(g0, .inr (5, [.int (zi co), .ref ps, .int (zi ru), .ref pk, .ref pa, .ref pb, .ref pq, .int (zi we), .int (zi wr), .ref pw, .int (zi ty), .ref pt])), (ps, aI cI 10 (zup sf sl.toNat nn))]) hP hD [0, 1] [2, 3, 4, 5] rfl rfl (by decide) (by decide) hk1 hFc hP1 hD1
            generalize H1 = H at hP hS ⊢
            obtain rfl : r6 = zi nn := hw
            have hP : va_P (dC, dI) vwCl [(pk, aI cI 12 kf), (pa, aI cI 12 af), (pb, aI cI 12 bf), (pq, aI cI 12 zf), (g0, .inr (5, [.int (zi co), .ref ps, .int (zi ru), .ref pk, .ref pa, .ref pb, .ref pq, .int (zi we), .int (zi wr), .ref pw, .int (zi ty), .ref pt])), (ps, aI cI 10 (zup sf sl.toNat nn))] H := hP
            have hD : va_D A [(pk, aI cI 12 kf), (pa, aI cI 12 af), (pb, aI cI 12 bf), (pq, aI cI 12 zf), (g0, .inr (5, [.int (zi co), .ref ps, .int (zi ru), .ref pk, .ref pa, .ref pb, .ref pq, .int (zi we), .int (zi wr), .ref pw, .int (zi ty), .ref pt])), (ps, aI cI 10 (zup sf sl.toNat nn))] := hD
            have hP9 := hP.sub (ws' := [(g0, .inr (5, [.int (zi co), .ref ps, .int (zi ru), .ref pk, .ref pa, .ref pb, .ref pq, .int (zi we), .int (zi wr), .ref pw, .int (zi ty), .ref pt])), (ps, aI cI 10 (zup sf sl.toNat nn)), (pk, aI cI 12 kf), (pa, aI cI 12 af), (pb, aI cI 12 bf), (pq, aI cI 12 zf)]) [4, 5, 0, 1, 2, 3] rfl
            have hD9 := hD.sub (ws' := [(g0, .inr (5, [.int (zi co), .ref ps, .int (zi ru), .ref pk, .ref pa, .ref pb, .ref pq, .int (zi we), .int (zi wr), .ref pw, .int (zi ty), .ref pt])), (ps, aI cI 10 (zup sf sl.toNat nn)), (pk, aI cI 12 kf), (pa, aI cI 12 af), (pb, aI cI 12 bf), (pq, aI cI 12 zf)]) [4, 5, 0, 1, 2, 3] (by decide) rfl
            have hp9 : co = 0 ∧ (zup sf sl.toNat nn) = zup sf sl.toNat rr := by
              exact ⟨by omega, by rw [show nn = rr from by omega]⟩
            exact W.iret (v := zi nn) hx hb hr (fun t ht hW => ⟨⟨zi nn, (co, (zup sf sl.toNat nn)), rfl, ⟨congrArg zi (by omega), hp9⟩, by rw [ht]; exact hP9, va_K.moved hW.alike hK, hD9⟩, hS.F ht⟩) hS.2.2 dX5_moveWork_159
          · skip
            exact absurd True.intro (by omega)
        · skip
          first | have hin := b_X5_in (nn + 1) 0 3652058 (by omega) (by omega) (by omega) | skip
          refine lv_iload_n hx hb dX5_moveWork_77 rfl (lv_at hl 0 rfl) ?_
          refine lv_iload hx hb dX5_moveWork_78 (lv_at hl 1 rfl) ?_
          refine zw_if_le (tgt := 87) hx hb dX5_moveWork_80 (by decide) ⟨by omega, by omega⟩ (fun h7 => ?_) (fun h7 => ?_)
          · skip
            exact absurd True.intro (by omega)
          · skip
            refine zw_iconst hx hb dX5_moveWork_83 ?_
            refine lv_goto (tgt := 88) hx hb dX5_moveWork_84 (by decide) ?_
            refine zw_iadd hx hb dX5_moveWork_88 ?_
            refine zw_top (fun x8 ex8 => ?_)
            refine lv_istore_n (lv' := [(3, .int (zi x8)), (4, .int (zi lft)), (0, .ref g0), (1, .int (zi sl)), (2, .int (zi many))]) hx hb dX5_moveWork_89 rfl hl (by decide) rfl (fun ls hl => ?_)
            refine lv_aload_n hx hb dX5_moveWork_90 rfl (lv_at hl 2 rfl) ?_
            refine lv_iload_n hx hb dX5_moveWork_91 rfl (lv_at hl 0 rfl) ?_
            refine zw_iconst hx hb dX5_moveWork_92 ?_
            refine zw_ldc (n := 3652058) hx hb hown (hts (.constant RX5 89 (3652058)) (by decide +kernel)) dX5_moveWork_93 (by decide) ?_
            have hh9 := c_X5_in l x8 0 3652058 (by omega) (by omega) (by omega)
            refine vp_callSi (va_Run.run (va_runS (As := [.int (zi x8), .int (zi 0), .int (zi 3652058)]) (rest := [.ref g0]) ⟨hx, hb, hml, hown, hts⟩ hh9 (va_cwS 3 hts gX5_moveWork_X5_in rfl rfl rfl (by decide +kernel) ⟨Nat.le_of_ble_eq_true rfl, Nat.le_of_ble_eq_true rfl⟩) ⟨fun a U g mk q => q, fun U hU hW => ⟨rfl, trivial⟩⟩ rfl rfl hl.1 rfl (lv_room (Nat.le_of_ble_eq_true rfl)) dX5_moveWork_95 ⟨Nat.zero_le _, Nat.zero_le _⟩)) (fun r9 (hr9 : r9 = zi (f_X5_in x8 0 3652058)) => ?_)
            subst hr9
            have hf9 := b_X5_in x8 0 3652058 (by omega) (by omega) (by omega)
            refine zw_if_eq (tgt := 105) hx hb dX5_moveWork_98 (by decide) ⟨by omega, by omega⟩ (fun h10 => ?_) (fun h10 => ?_)
            · skip
              have hzx := zmv_x (wkX5 we kf af bf zf ru) 1 fu nn lft (by omega) (by omega)
              have hzy := hi1 (by omega)
              refine zw_iconst hx hb dX5_moveWork_105 ?_
              refine va_put (D := (dC, dI)) (ci := 5) (v := .int (zi 4)) (ty := .int) (C := RX5) (T := TX5) (N := 12) hx hb hts (by decide +kernel) tyX5 tyX5_ok nmX5 hown hK hP hD hS 0 rfl rfl 0 (by decide) (hts (.fieldLink RX5 35 "CivilDaysModel" "code" "I") (by decide +kernel)) (fun _ h9 => h9) rfl (by decide +kernel) rfl rfl (Nat.le_of_ble_eq_true rfl) dX5_moveWork_106 (fun H locs hP hD hS => ?_)
              have hP : va_P (dC, dI) vwCl [(g0, .inr (5, [.int (zi 4), .ref ps, .int (zi ru), .ref pk, .ref pa, .ref pb, .ref pq, .int (zi we), .int (zi wr), .ref pw, .int (zi ty), .ref pt])), (ps, aI cI 10 sf), (pk, aI cI 12 kf), (pa, aI cI 12 af), (pb, aI cI 12 bf), (pq, aI cI 12 zf)] H := hP
              have hD : va_D A [(g0, .inr (5, [.int (zi 4), .ref ps, .int (zi ru), .ref pk, .ref pa, .ref pb, .ref pq, .int (zi we), .int (zi wr), .ref pw, .int (zi ty), .ref pt])), (ps, aI cI 10 sf), (pk, aI cI 12 kf), (pa, aI cI 12 af), (pb, aI cI 12 bf), (pq, aI cI 12 zf)] := hD
              refine lv_aload_n hx hb dX5_moveWork_109 rfl (lv_at hl 2 rfl) ?_
              refine va_get (D := (dC, dI)) (ci := 5) (v := .int (zi 4)) (C := RX5) (T := TX5) (N := 12) hx hb hts (by decide +kernel) hown hK hP 0 rfl rfl 0 (by decide) (hts (.fieldLink RX5 35 "CivilDaysModel" "code" "I") (by decide +kernel)) (fun _ h9 => h9) rfl dX5_moveWork_110 ?_
              refine zw_if_ne (tgt := 65) hx hb dX5_moveWork_113 (by decide) ⟨by omega, by omega⟩ (fun h11 => ?_) (fun h11 => ?_)
              · skip
                subst ex8
                have hP9 := hP.sub (ws' := [(g0, .inr (5, [.int (zi 4), .ref ps, .int (zi ru), .ref pk, .ref pa, .ref pb, .ref pq, .int (zi we), .int (zi wr), .ref pw, .int (zi ty), .ref pt])), (ps, aI cI 10 sf), (pk, aI cI 12 kf), (pa, aI cI 12 af), (pb, aI cI 12 bf), (pq, aI cI 12 zf)]) [0, 1, 2, 3, 4, 5] rfl
                have hD9 := hD.sub (ws' := [(g0, .inr (5, [.int (zi 4), .ref ps, .int (zi ru), .ref pk, .ref pa, .ref pb, .ref pq, .int (zi we), .int (zi wr), .ref pw, .int (zi ty), .ref pt])), (ps, aI cI 10 sf), (pk, aI cI 12 kf), (pa, aI cI 12 af), (pb, aI cI 12 bf), (pq, aI cI 12 zf)]) [0, 1, 2, 3, 4, 5] (by decide) rfl
                exact ih (nn + 1) lft 4 (by omega) (by first | (intro h9; exact absurd h9 (by omega)) | (intro h9; exact hp7) | (intro h9; rw [← hi1 (by omega)]; symm; first | (apply zmv_s1 <;> omega) | (apply zmv_s0 <;> omega))) (by omega) (by omega) ls _ _ (lv_sub hl [0, 1, 2, 3, 4] rfl) hP9 hD9 hS
              · skip
                exact absurd True.intro (by omega)
            · skip
              skip
              refine zw_iconst hx hb dX5_moveWork_101 ?_
              refine lv_goto (tgt := 106) hx hb dX5_moveWork_102 (by decide) ?_
              refine va_put (D := (dC, dI)) (ci := 5) (v := .int (zi 0)) (ty := .int) (C := RX5) (T := TX5) (N := 12) hx hb hts (by decide +kernel) tyX5 tyX5_ok nmX5 hown hK hP hD hS 0 rfl rfl 0 (by decide) (hts (.fieldLink RX5 35 "CivilDaysModel" "code" "I") (by decide +kernel)) (fun _ h9 => h9) rfl (by decide +kernel) rfl rfl (Nat.le_of_ble_eq_true rfl) dX5_moveWork_106 (fun H locs hP hD hS => ?_)
              have hP : va_P (dC, dI) vwCl [(g0, .inr (5, [.int (zi 0), .ref ps, .int (zi ru), .ref pk, .ref pa, .ref pb, .ref pq, .int (zi we), .int (zi wr), .ref pw, .int (zi ty), .ref pt])), (ps, aI cI 10 sf), (pk, aI cI 12 kf), (pa, aI cI 12 af), (pb, aI cI 12 bf), (pq, aI cI 12 zf)] H := hP
              have hD : va_D A [(g0, .inr (5, [.int (zi 0), .ref ps, .int (zi ru), .ref pk, .ref pa, .ref pb, .ref pq, .int (zi we), .int (zi wr), .ref pw, .int (zi ty), .ref pt])), (ps, aI cI 10 sf), (pk, aI cI 12 kf), (pa, aI cI 12 af), (pb, aI cI 12 bf), (pq, aI cI 12 zf)] := hD
              refine lv_aload_n hx hb dX5_moveWork_109 rfl (lv_at hl 2 rfl) ?_
              refine va_get (D := (dC, dI)) (ci := 5) (v := .int (zi 0)) (C := RX5) (T := TX5) (N := 12) hx hb hts (by decide +kernel) hown hK hP 0 rfl rfl 0 (by decide) (hts (.fieldLink RX5 35 "CivilDaysModel" "code" "I") (by decide +kernel)) (fun _ h9 => h9) rfl dX5_moveWork_110 ?_
              refine zw_if_ne (tgt := 65) hx hb dX5_moveWork_113 (by decide) ⟨by omega, by omega⟩ (fun h12 => ?_) (fun h12 => ?_)
              · skip
                exact absurd True.intro (by omega)
              · skip
                refine lv_aload_n hx hb dX5_moveWork_116 rfl (lv_at hl 2 rfl) ?_
                refine lv_iload_n hx hb dX5_moveWork_117 rfl (lv_at hl 0 rfl) ?_
                have hh13 := c_X5_works l dC dI cI g0 ps pk pa pb pq pw pt 0 ru we wr ty kf af bf zf x8 (by omega) (by omega) (by first | exact hpr | exact hp5 | exact hp3) (by omega)
                have hPc := hP.sub (ws' := [(g0, .inr (5, [.int (zi 0), .ref ps, .int (zi ru), .ref pk, .ref pa, .ref pb, .ref pq, .int (zi we), .int (zi wr), .ref pw, .int (zi ty), .ref pt])), (pk, aI cI 12 kf), (pa, aI cI 12 af), (pb, aI cI 12 bf), (pq, aI cI 12 zf)]) [0, 2, 3, 4, 5] rfl
                have hKc : va_K (dC, dI) vwCl [(cI, .int)] s := hK
                refine vp_callSi (va_Run.run (va_runV (As := [.int (zi x8)]) (rest := []) ⟨hx, hb, hml, hown, hts⟩ hh13 (cwV 1 hts gX5_moveWork_X5_works rfl rfl rfl (by decide +kernel) ⟨Nat.le_of_ble_eq_true rfl, Nat.le_of_ble_eq_true rfl⟩) ⟨zPr.blind _ _ _ _, va_recv hKc hPc (ci := 5) (q0 := 0) rfl rfl, fun U hU hW => ⟨rfl, by rw [hU]; exact hPc, va_K.moved hW.alike hKc⟩⟩ rfl rfl hl.1 rfl (lv_room (Nat.le_of_ble_eq_true rfl)) dX5_moveWork_118 ⟨Nat.le_of_ble_eq_true rfl, Nat.le_of_ble_eq_true rfl⟩)) (fun r13 (hr13 : r13 = zi (wkX5 we kf af bf zf ru x8)) => ?_)
                subst hr13
                have hf13_0 := wkX5_s we kf af bf zf ru x8
                have hwk := wkX5_s we kf af bf zf ru (nn + 1)
                refine zw_if_eq (tgt := 65) hx hb dX5_moveWork_121 (by decide) ⟨by omega, by omega⟩ (fun h14 => ?_) (fun h14 => ?_)
                · skip
                  subst ex8
                  have hP9 := hP.sub (ws' := [(g0, .inr (5, [.int (zi 0), .ref ps, .int (zi ru), .ref pk, .ref pa, .ref pb, .ref pq, .int (zi we), .int (zi wr), .ref pw, .int (zi ty), .ref pt])), (ps, aI cI 10 sf), (pk, aI cI 12 kf), (pa, aI cI 12 af), (pb, aI cI 12 bf), (pq, aI cI 12 zf)]) [0, 1, 2, 3, 4, 5] rfl
                  have hD9 := hD.sub (ws' := [(g0, .inr (5, [.int (zi 0), .ref ps, .int (zi ru), .ref pk, .ref pa, .ref pb, .ref pq, .int (zi we), .int (zi wr), .ref pw, .int (zi ty), .ref pt])), (ps, aI cI 10 sf), (pk, aI cI 12 kf), (pa, aI cI 12 af), (pb, aI cI 12 bf), (pq, aI cI 12 zf)]) [0, 1, 2, 3, 4, 5] (by decide) rfl
                  exact ih (nn + 1) lft 0 (by omega) (by first | (intro h9; exact absurd h9 (by omega)) | (intro h9; exact hp7) | (intro h9; rw [← hi1 (by omega)]; symm; first | (apply zmv_s1 <;> omega) | (apply zmv_s0 <;> omega))) (by omega) (by omega) ls _ _ (lv_sub hl [0, 1, 2, 3, 4] rfl) hP9 hD9 hS
                · skip
                  refine lv_iload hx hb dX5_moveWork_124 (lv_at hl 1 rfl) ?_
                  refine lv_iload hx hb dX5_moveWork_126 (lv_at hl 1 rfl) ?_
                  refine zw_if_le (tgt := 135) hx hb dX5_moveWork_128 (by decide) ⟨by omega, by omega⟩ (fun h15 => ?_) (fun h15 => ?_)
                  · skip
                    exact absurd True.intro (by omega)
                  · skip
                    refine zw_iconst hx hb dX5_moveWork_131 ?_
                    refine lv_goto (tgt := 136) hx hb dX5_moveWork_132 (by decide) ?_
                    refine zw_iadd hx hb dX5_moveWork_136 ?_
                    refine zw_top (fun x16 ex16 => ?_)
                    refine lv_istore (lv' := [(4, .int (zi x16)), (3, .int (zi x8)), (0, .ref g0), (1, .int (zi sl)), (2, .int (zi many))]) hx hb dX5_moveWork_137 hl (by decide) rfl (fun ls hl => ?_)
                    refine lv_goto (tgt := 65) hx hb dX5_moveWork_139 (by decide) ?_
                    subst ex8 ex16
                    have hP9 := hP.sub (ws' := [(g0, .inr (5, [.int (zi 0), .ref ps, .int (zi ru), .ref pk, .ref pa, .ref pb, .ref pq, .int (zi we), .int (zi wr), .ref pw, .int (zi ty), .ref pt])), (ps, aI cI 10 sf), (pk, aI cI 12 kf), (pa, aI cI 12 af), (pb, aI cI 12 bf), (pq, aI cI 12 zf)]) [0, 1, 2, 3, 4, 5] rfl
                    have hD9 := hD.sub (ws' := [(g0, .inr (5, [.int (zi 0), .ref ps, .int (zi ru), .ref pk, .ref pa, .ref pb, .ref pq, .int (zi we), .int (zi wr), .ref pw, .int (zi ty), .ref pt])), (ps, aI cI 10 sf), (pk, aI cI 12 kf), (pa, aI cI 12 af), (pb, aI cI 12 bf), (pq, aI cI 12 zf)]) [0, 1, 2, 3, 4, 5] (by decide) rfl
                    exact ih (nn + 1) (lft + (-1)) 0 (by omega) (by first | (intro h9; exact absurd h9 (by omega)) | (intro h9; exact hp7) | (intro h9; rw [← hi1 (by omega)]; symm; first | (apply zmv_s1 <;> omega) | (apply zmv_s0 <;> omega))) (by omega) (by omega) ls _ _ (lv_sub hl [1, 0, 2, 3, 4] rfl) hP9 hD9 hS
  have hl := lv_entry ([.ref g0, .int (zi sl), .int (zi many)]) (n := 5) (Nat.le_of_ble_eq_true rfl)
  rw [lg_entry_eq]
  generalize (lg_sl ([.ref g0, .int (zi sl), .int (zi many)]) ++ List.replicate (5 - (lg_sl ([.ref g0, .int (zi sl), .int (zi many)])).length) Slot.unset).toArray = ls at hl ⊢
  have hl : lv_has ls 5 [(0, .ref g0), (1, .int (zi sl)), (2, .int (zi many))] := hl
  have hpr := hp3
  refine lv_aload_n hx hb dX5_moveWork_0 rfl (lv_at hl 0 rfl) ?_
  refine lv_iload_n hx hb dX5_moveWork_1 rfl (lv_at hl 1 rfl) ?_
  have hh17 := c_X5_isSlot l sl (by omega)
  refine vp_callSi (va_Run.run (va_runS (As := [.int (zi sl)]) (rest := [.ref g0]) ⟨hx, hb, hml, hown, hts⟩ hh17 (va_cwS 1 hts gX5_moveWork_X5_isSlot rfl rfl rfl (by decide +kernel) ⟨Nat.le_of_ble_eq_true rfl, Nat.le_of_ble_eq_true rfl⟩) ⟨fun a U g mk q => q, fun U hU hW => ⟨rfl, trivial⟩⟩ rfl rfl hl.1 rfl (lv_room (Nat.le_of_ble_eq_true rfl)) dX5_moveWork_2 ⟨Nat.zero_le _, Nat.zero_le _⟩)) (fun r17 (hr17 : r17 = zi (f_X5_isSlot sl)) => ?_)
  subst hr17
  have hf17 := b_X5_isSlot sl (by omega)
  refine zw_if_ne (tgt := 12) hx hb dX5_moveWork_5 (by decide) ⟨by omega, by omega⟩ (fun h18 => ?_) (fun h18 => ?_)
  · skip
    refine lv_aload_n hx hb dX5_moveWork_12 rfl (lv_at hl 0 rfl) ?_
    refine va_get (D := (dC, dI)) (ci := 5) (v := .ref ps) (C := RX5) (T := TX5) (N := 12) hx hb hts (by decide +kernel) hown hK hP 0 rfl rfl 1 (by decide) (hts (.fieldLink RX5 7 "CivilDaysModel" "slots" "[I") (by decide +kernel)) (fun _ h9 => h9) rfl dX5_moveWork_13 ?_
    refine lv_iload_n hx hb dX5_moveWork_16 rfl (lv_at hl 1 rfl) ?_
    refine zw_iald hx hb hK hP 1 0 rfl rfl (by omega) (by omega) ⟨by omega, by omega⟩ dX5_moveWork_17 ?_
    refine zw_if_ge (tgt := 25) hx hb dX5_moveWork_18 (by decide) ⟨by omega, by omega⟩ (fun h19 => ?_) (fun h19 => ?_)
    · skip
      refine lv_iload_n hx hb dX5_moveWork_25 rfl (lv_at hl 2 rfl) ?_
      refine zw_sipush hx hb dX5_moveWork_26 (by decide) ?_
      refine zw_sipush hx hb dX5_moveWork_29 (by decide) ?_
      have hh20 := c_X5_in l many (-1000) 1000 (by omega) (by omega) (by omega)
      refine vp_callSi (va_Run.run (va_runS (As := [.int (zi many), .int (zi (-1000)), .int (zi 1000)]) (rest := [.ref g0]) ⟨hx, hb, hml, hown, hts⟩ hh20 (va_cwS 3 hts gX5_moveWork_X5_in rfl rfl rfl (by decide +kernel) ⟨Nat.le_of_ble_eq_true rfl, Nat.le_of_ble_eq_true rfl⟩) ⟨fun a U g mk q => q, fun U hU hW => ⟨rfl, trivial⟩⟩ rfl rfl hl.1 rfl (lv_room (Nat.le_of_ble_eq_true rfl)) dX5_moveWork_32 ⟨Nat.zero_le _, Nat.zero_le _⟩)) (fun r20 (hr20 : r20 = zi (f_X5_in many (-1000) 1000)) => ?_)
      subst hr20
      have hf20 := b_X5_in many (-1000) 1000 (by omega) (by omega) (by omega)
      refine zw_if_ne (tgt := 42) hx hb dX5_moveWork_35 (by decide) ⟨by omega, by omega⟩ (fun h21 => ?_) (fun h21 => ?_)
      · skip
        refine zw_iconst hx hb dX5_moveWork_42 ?_
        refine va_put (D := (dC, dI)) (ci := 5) (v := .int (zi 0)) (ty := .int) (C := RX5) (T := TX5) (N := 12) hx hb hts (by decide +kernel) tyX5 tyX5_ok nmX5 hown hK hP hD hS 0 rfl rfl 0 (by decide) (hts (.fieldLink RX5 35 "CivilDaysModel" "code" "I") (by decide +kernel)) (fun _ h9 => h9) rfl (by decide +kernel) rfl rfl (Nat.le_of_ble_eq_true rfl) dX5_moveWork_43 (fun H locs hP hD hS => ?_)
        have hP : va_P (dC, dI) vwCl [(g0, .inr (5, [.int (zi 0), .ref ps, .int (zi ru), .ref pk, .ref pa, .ref pb, .ref pq, .int (zi we), .int (zi wr), .ref pw, .int (zi ty), .ref pt])), (ps, aI cI 10 sf), (pk, aI cI 12 kf), (pa, aI cI 12 af), (pb, aI cI 12 bf), (pq, aI cI 12 zf)] H := hP
        have hD : va_D A [(g0, .inr (5, [.int (zi 0), .ref ps, .int (zi ru), .ref pk, .ref pa, .ref pb, .ref pq, .int (zi we), .int (zi wr), .ref pw, .int (zi ty), .ref pt])), (ps, aI cI 10 sf), (pk, aI cI 12 kf), (pa, aI cI 12 af), (pb, aI cI 12 bf), (pq, aI cI 12 zf)] := hD
        refine lv_aload_n hx hb dX5_moveWork_46 rfl (lv_at hl 0 rfl) ?_
        refine va_get (D := (dC, dI)) (ci := 5) (v := .int (zi 0)) (C := RX5) (T := TX5) (N := 12) hx hb hts (by decide +kernel) hown hK hP 0 rfl rfl 0 (by decide) (hts (.fieldLink RX5 35 "CivilDaysModel" "code" "I") (by decide +kernel)) (fun _ h9 => h9) rfl dX5_moveWork_47 ?_
        refine zw_if_le (tgt := 55) hx hb dX5_moveWork_50 (by decide) ⟨by omega, by omega⟩ (fun h22 => ?_) (fun h22 => ?_)
        · skip
          refine lv_aload_n hx hb dX5_moveWork_55 rfl (lv_at hl 0 rfl) ?_
          refine va_get (D := (dC, dI)) (ci := 5) (v := .ref ps) (C := RX5) (T := TX5) (N := 12) hx hb hts (by decide +kernel) hown hK hP 0 rfl rfl 1 (by decide) (hts (.fieldLink RX5 7 "CivilDaysModel" "slots" "[I") (by decide +kernel)) (fun _ h9 => h9) rfl dX5_moveWork_56 ?_
          refine lv_iload_n hx hb dX5_moveWork_59 rfl (lv_at hl 1 rfl) ?_
          refine zw_iald hx hb hK hP 1 0 rfl rfl (by omega) (by omega) ⟨by omega, by omega⟩ dX5_moveWork_60 ?_
          refine zw_top (fun x23 ex23 => ?_)
          refine lv_istore_n (lv' := [(3, .int (zi x23)), (0, .ref g0), (1, .int (zi sl)), (2, .int (zi many))]) hx hb dX5_moveWork_61 rfl hl (by decide) rfl (fun ls hl => ?_)
          refine lv_iload_n hx hb dX5_moveWork_62 rfl (lv_at hl 3 rfl) ?_
          refine lv_istore (lv' := [(4, .int (zi many)), (3, .int (zi x23)), (0, .ref g0), (1, .int (zi sl)), (2, .int (zi many))]) hx hb dX5_moveWork_63 hl (by decide) rfl (fun ls hl => ?_)
          subst ex23
          have hP9 := hP.sub (ws' := [(g0, .inr (5, [.int (zi 0), .ref ps, .int (zi ru), .ref pk, .ref pa, .ref pb, .ref pq, .int (zi we), .int (zi wr), .ref pw, .int (zi ty), .ref pt])), (ps, aI cI 10 sf), (pk, aI cI 12 kf), (pa, aI cI 12 af), (pb, aI cI 12 bf), (pq, aI cI 12 zf)]) [0, 1, 2, 3, 4, 5] rfl
          have hD9 := hD.sub (ws' := [(g0, .inr (5, [.int (zi 0), .ref ps, .int (zi ru), .ref pk, .ref pa, .ref pb, .ref pq, .int (zi we), .int (zi wr), .ref pw, .int (zi ty), .ref pt])), (ps, aI cI 10 sf), (pk, aI cI 12 kf), (pa, aI cI 12 af), (pb, aI cI 12 bf), (pq, aI cI 12 zf)]) [0, 1, 2, 3, 4, 5] (by decide) rfl
          exact loop65 (fz) (sf sl.toNat) many 0 (by omega) (by first | (intro h9; exact absurd h9 (by omega)) | (intro h9; exact hp7) | (intro h9; rw [← hi1 (by omega)]; symm; first | (apply zmv_s1 <;> omega) | (apply zmv_s0 <;> omega))) (by omega) (by omega) ls _ _ (lv_sub hl [1, 0, 2, 3, 4] rfl) hP9 hD9 hS
        · skip
          exact absurd True.intro (by omega)
      · skip
        exact absurd True.intro (by omega)
    · skip
      exact absurd True.intro (by omega)
  · skip
    exact absurd True.intro (by omega)

set_option maxHeartbeats 4000000 in
set_option maxRecDepth 100000 in
theorem c_X5_moveWork_p4 (l : Launch)  (dC : Nat → ClassId) (dI : Nat → Nat → Nat) (cI : ClassId) (g0 : Nat) (ps : Nat) (pk : Nat) (pa : Nat) (pb : Nat) (pq : Nat) (pw : Nat) (pt : Nat) (co : Int) (ru : Int) (we : Int) (wr : Int) (ty : Int) (sf : Nat → Int) (kf : Nat → Int) (af : Nat → Int) (bf : Nat → Int) (zf : Nat → Int) (fz : Nat) (rr : Int) (sl : Int) (many : Int) (sz : Nat) (hp0 : 0 ≤ sl ∧ sl ≤ 9) (hp1 : 0 ≤ (sf sl.toNat) ∧ (sf sl.toNat) ≤ 3652058) (hp2 : 0 ≤ ru ∧ ru ≤ 12) (hp3 : ∀ j : Nat, (j : Int) < ru → (0 ≤ (kf j) ∧ (kf j) ≤ 3) ∧ ((kf j) = 1 ∧ -100 ≤ (af j) ∧ (af j) ≤ 100 ∨ (kf j) ≠ 1 ∧ 1 ≤ (af j) ∧ (af j) ≤ 12) ∧ ((kf j) = 1 ∨ (kf j) = 2 ∧ 1 ≤ (bf j) ∧ (bf j) ≤ 7 ∨ (kf j) ≠ 2 ∧ 1 ≤ (bf j) ∧ (bf j) ≤ 31) ∧ ((kf j) ≠ 2 ∨ (zf j) = -1 ∨ 1 ≤ (zf j) ∧ (zf j) ≤ 4)) (hp4 : 0 ≤ we ∧ we ≤ 127) (hp5 : -1000 ≤ many ∧ many ≤ 1000 ∧ 0 ≤ many) (hp6 : 4000000 ≤ fz) (hp7 : zmv (wkX5 we kf af bf zf ru) 1 fz (sf sl.toNat) many = rr) (hp8 : rr = -1) : Met l yX5_moveWork wsX5_moveWork ({ frames := 7, cells := 0, slots := 0, locals := 159 }) (zPw (dC, dI) [(cI, .int)] sz [.ref g0, .int (zi sl), .int (zi many)] [(g0, .inr (5, [.int (zi co), .ref ps, .int (zi ru), .ref pk, .ref pa, .ref pb, .ref pq, .int (zi we), .int (zi wr), .ref pw, .int (zi ty), .ref pt])), (ps, aI cI 10 sf), (pk, aI cI 12 kf), (pa, aI cI 12 af), (pb, aI cI 12 bf), (pq, aI cI 12 zf)]) (va_Qi (fun (r : Int32) (u : (Int)) => r = zi 0 ∧ (u = 4)) (fun (u : (Int)) => zB (dC, dI) [(cI, .int)] (va_A [(g0, .inr (5, [.int (zi co), .ref ps, .int (zi ru), .ref pk, .ref pa, .ref pb, .ref pq, .int (zi we), .int (zi wr), .ref pw, .int (zi ty), .ref pt])), (ps, aI cI 10 sf), (pk, aI cI 12 kf), (pa, aI cI 12 af), (pb, aI cI 12 bf), (pq, aI cI 12 zf)] sz) [(g0, .inr (5, [.int (zi u), .ref ps, .int (zi ru), .ref pk, .ref pa, .ref pb, .ref pq, .int (zi we), .int (zi wr), .ref pw, .int (zi ty), .ref pt])), (ps, aI cI 10 sf), (pk, aI cI 12 kf), (pa, aI cI 12 af), (pb, aI cI 12 bf), (pq, aI cI 12 zf)] ()) (va_A [(g0, .inr (5, [.int (zi co), .ref ps, .int (zi ru), .ref pk, .ref pa, .ref pb, .ref pq, .int (zi we), .int (zi wr), .ref pw, .int (zi ty), .ref pt])), (ps, aI cI 10 sf), (pk, aI cI 12 kf), (pa, aI cI 12 af), (pb, aI cI 12 bf), (pq, aI cI 12 zf)] sz)) 0 0 (va_A [(g0, .inr (5, [.int (zi co), .ref ps, .int (zi ru), .ref pk, .ref pa, .ref pb, .ref pq, .int (zi we), .int (zi wr), .ref pw, .int (zi ty), .ref pt])), (ps, aI cI 10 sf), (pk, aI cI 12 kf), (pa, aI cI 12 af), (pb, aI cI 12 bf), (pq, aI cI 12 zf)] sz) := by
  refine Met.ofW (cc := cX5_moveWork) (maxL := 5) (ret := (some .int)) (by decide) rfl ?_
  intro p e s m args below meth c s₁ B hml hv
  obtain ⟨rfl, hsz, hP, hK, hD0⟩ := hv
  have hx := B.exec
  have hb := B.bytes
  have hr := B.returns
  have hts := atoms_spec (ws := wsX5_moveWork) B.pre
  have hown : s.vm.findClass RX5 = some m.cls := findClass_of_methodNamed B.named
  have hlocks := B.notSynchronized
  subst hsz
  have hD := hD0.self (sz := s.heap.size)
  generalize hAe : va_A [(g0, .inr (5, [.int (zi co), .ref ps, .int (zi ru), .ref pk, .ref pa, .ref pb, .ref pq, .int (zi we), .int (zi wr), .ref pw, .int (zi ty), .ref pt])), (ps, aI cI 10 sf), (pk, aI cI 12 kf), (pa, aI cI 12 af), (pb, aI cI 12 bf), (pq, aI cI 12 zf)] s.heap.size = A at hD ⊢
  have hA : ∀ q : Nat, s.heap.size ≤ q → A q := fun q h => by rw [← hAe]; exact Or.inr h
  have hS : va_S A s.heap s.heap [] := va_S.rf
  have hP : va_P (dC, dI) vwCl [(g0, .inr (5, [.int (zi co), .ref ps, .int (zi ru), .ref pk, .ref pa, .ref pb, .ref pq, .int (zi we), .int (zi wr), .ref pw, .int (zi ty), .ref pt])), (ps, aI cI 10 sf), (pk, aI cI 12 kf), (pa, aI cI 12 af), (pb, aI cI 12 bf), (pq, aI cI 12 zf)] s.heap := hP
  have loop65 : ∀ (fu : Nat) (nn : Int) (lft : Int) (co : Int), (co = 0 ∧ 0 ≤ nn ∧ nn ≤ 3652058 ∨ co = 4 ∧ rr = -1 ∧ 0 < lft) → (co = 0 → zmv (wkX5 we kf af bf zf ru) 1 fu nn lft = rr) → (-2 ≤ nn ∧ nn ≤ 3652060 ∧ 0 ≤ lft ∧ lft ≤ 1000) → (co = 0 ∧ 3652060 - nn < fu ∨ co = 4 ∧ 0 < fu) → ∀ (ls : Array Slot) (H : Heap) (locs : List Loc), lv_has ls 5 [(3, .int (zi nn)), (4, .int (zi lft)), (0, .ref g0), (1, .int (zi sl)), (2, .int (zi many))] → va_P (dC, dI) vwCl [(g0, .inr (5, [.int (zi co), .ref ps, .int (zi ru), .ref pk, .ref pa, .ref pb, .ref pq, .int (zi we), .int (zi wr), .ref pw, .int (zi ty), .ref pt])), (ps, aI cI 10 sf), (pk, aI cI 12 kf), (pa, aI cI 12 af), (pb, aI cI 12 bf), (pq, aI cI 12 zf)] H → va_D A [(g0, .inr (5, [.int (zi co), .ref ps, .int (zi ru), .ref pk, .ref pa, .ref pb, .ref pq, .int (zi we), .int (zi wr), .ref pw, .int (zi ty), .ref pt])), (ps, aI cI 10 sf), (pk, aI cI 12 kf), (pa, aI cI 12 af), (pb, aI cI 12 bf), (pq, aI cI 12 zf)] → va_S A s.heap H locs → W p l e (headSpec wsX5_moveWork ({ frames := 7, cells := 0, slots := 0, locals := 159 })).room s m ([.ref g0, .int (zi sl), .int (zi many)] : List Value).toArray below meth c H locs 0 0 (MQ below (va_Qi (fun (r : Int32) (u : (Int)) => r = zi 0 ∧ (u = 4)) (fun (u : (Int)) => zB (dC, dI) [(cI, .int)] A [(g0, .inr (5, [.int (zi u), .ref ps, .int (zi ru), .ref pk, .ref pa, .ref pb, .ref pq, .int (zi we), .int (zi wr), .ref pw, .int (zi ty), .ref pt])), (ps, aI cI 10 sf), (pk, aI cI 12 kf), (pa, aI cI 12 af), (pb, aI cI 12 bf), (pq, aI cI 12 zf)] ()) A) ([.ref g0, .int (zi sl), .int (zi many)] : List Value).toArray s 0 0 A) (F0 m 65 ls []) := by
    intro fu
    induction fu with
    | zero =>
      intro nn lft co hi0 hi1 hi2 hfu ls H locs hl hP hD hS
      exact absurd hfu (by omega)
    | succ fu ih =>
      intro nn lft co hi0 hi1 hi2 hfu ls H locs hl hP hD hS
      have hP : va_P (dC, dI) vwCl [(g0, .inr (5, [.int (zi co), .ref ps, .int (zi ru), .ref pk, .ref pa, .ref pb, .ref pq, .int (zi we), .int (zi wr), .ref pw, .int (zi ty), .ref pt])), (ps, aI cI 10 sf), (pk, aI cI 12 kf), (pa, aI cI 12 af), (pb, aI cI 12 bf), (pq, aI cI 12 zf)] H := hP
      have hD : va_D A [(g0, .inr (5, [.int (zi co), .ref ps, .int (zi ru), .ref pk, .ref pa, .ref pb, .ref pq, .int (zi we), .int (zi wr), .ref pw, .int (zi ty), .ref pt])), (ps, aI cI 10 sf), (pk, aI cI 12 kf), (pa, aI cI 12 af), (pb, aI cI 12 bf), (pq, aI cI 12 zf)] := hD
      refine lv_iload hx hb dX5_moveWork_65 (lv_at hl 1 rfl) ?_
      refine zw_if_eq (tgt := 142) hx hb dX5_moveWork_67 (by decide) ⟨by omega, by omega⟩ (fun h1 => ?_) (fun h1 => ?_)
      · skip
        first | have hz0 := zmv_0 (wkX5 we kf af bf zf ru) 1 fu nn lft (by omega) | skip
        first | have hzy := hi1 (by omega) | skip
        refine lv_aload_n hx hb dX5_moveWork_142 rfl (lv_at hl 2 rfl) ?_
        refine va_get (D := (dC, dI)) (ci := 5) (v := .int (zi co)) (C := RX5) (T := TX5) (N := 12) hx hb hts (by decide +kernel) hown hK hP 0 rfl rfl 0 (by decide) (hts (.fieldLink RX5 35 "CivilDaysModel" "code" "I") (by decide +kernel)) (fun _ h9 => h9) rfl dX5_moveWork_143 ?_
        refine zw_if_le (tgt := 153) hx hb dX5_moveWork_146 (by decide) ⟨by omega, by omega⟩ (fun h2 => ?_) (fun h2 => ?_)
        · skip
          exact absurd True.intro (by omega)
        · skip
          refine zw_iconst hx hb dX5_moveWork_149 ?_
          refine lv_goto (tgt := 159) hx hb dX5_moveWork_150 (by decide) ?_
          have hP9 := hP.sub (ws' := [(g0, .inr (5, [.int (zi co), .ref ps, .int (zi ru), .ref pk, .ref pa, .ref pb, .ref pq, .int (zi we), .int (zi wr), .ref pw, .int (zi ty), .ref pt])), (ps, aI cI 10 sf), (pk, aI cI 12 kf), (pa, aI cI 12 af), (pb, aI cI 12 bf), (pq, aI cI 12 zf)]) [0, 1, 2, 3, 4, 5] rfl
          have hD9 := hD.sub (ws' := [(g0, .inr (5, [.int (zi co), .ref ps, .int (zi ru), .ref pk, .ref pa, .ref pb, .ref pq, .int (zi we), .int (zi wr), .ref pw, .int (zi ty), .ref pt])), (ps, aI cI 10 sf), (pk, aI cI 12 kf), (pa, aI cI 12 af), (pb, aI cI 12 bf), (pq, aI cI 12 zf)]) [0, 1, 2, 3, 4, 5] (by decide) rfl
          have hp9 : co = 4 := by
            omega
          exact W.iret (v := zi 0) hx hb hr (fun t ht hW => ⟨⟨zi 0, co, rfl, ⟨rfl, hp9⟩, by rw [ht]; exact hP9, va_K.moved hW.alike hK, hD9⟩, hS.F ht⟩) hS.2.2 dX5_moveWork_159
      · skip
        refine lv_aload_n hx hb dX5_moveWork_70 rfl (lv_at hl 2 rfl) ?_
        refine va_get (D := (dC, dI)) (ci := 5) (v := .int (zi co)) (C := RX5) (T := TX5) (N := 12) hx hb hts (by decide +kernel) hown hK hP 0 rfl rfl 0 (by decide) (hts (.fieldLink RX5 35 "CivilDaysModel" "code" "I") (by decide +kernel)) (fun _ h9 => h9) rfl dX5_moveWork_71 ?_
        refine zw_if_ne (tgt := 142) hx hb dX5_moveWork_74 (by decide) ⟨by omega, by omega⟩ (fun h3 => ?_) (fun h3 => ?_)
        · skip
          first | have hz0 := zmv_0 (wkX5 we kf af bf zf ru) 1 fu nn lft (by omega) | skip
          first | have hzy := hi1 (by omega) | skip
          refine lv_aload_n hx hb dX5_moveWork_142 rfl (lv_at hl 2 rfl) ?_
          refine va_get (D := (dC, dI)) (ci := 5) (v := .int (zi co)) (C := RX5) (T := TX5) (N := 12) hx hb hts (by decide +kernel) hown hK hP 0 rfl rfl 0 (by decide) (hts (.fieldLink RX5 35 "CivilDaysModel" "code" "I") (by decide +kernel)) (fun _ h9 => h9) rfl dX5_moveWork_143 ?_
          refine zw_if_le (tgt := 153) hx hb dX5_moveWork_146 (by decide) ⟨by omega, by omega⟩ (fun h4 => ?_) (fun h4 => ?_)
          · skip
            exact absurd True.intro (by omega)
          · skip
            refine zw_iconst hx hb dX5_moveWork_149 ?_
            refine lv_goto (tgt := 159) hx hb dX5_moveWork_150 (by decide) ?_
            have hP9 := hP.sub (ws' := [(g0, .inr (5, [.int (zi co), .ref ps, .int (zi ru), .ref pk, .ref pa, .ref pb, .ref pq, .int (zi we), .int (zi wr), .ref pw, .int (zi ty), .ref pt])), (ps, aI cI 10 sf), (pk, aI cI 12 kf), (pa, aI cI 12 af), (pb, aI cI 12 bf), (pq, aI cI 12 zf)]) [0, 1, 2, 3, 4, 5] rfl
            have hD9 := hD.sub (ws' := [(g0, .inr (5, [.int (zi co), .ref ps, .int (zi ru), .ref pk, .ref pa, .ref pb, .ref pq, .int (zi we), .int (zi wr), .ref pw, .int (zi ty), .ref pt])), (ps, aI cI 10 sf), (pk, aI cI 12 kf), (pa, aI cI 12 af), (pb, aI cI 12 bf), (pq, aI cI 12 zf)]) [0, 1, 2, 3, 4, 5] (by decide) rfl
            have hp9 : co = 4 := by
              omega
            exact W.iret (v := zi 0) hx hb hr (fun t ht hW => ⟨⟨zi 0, co, rfl, ⟨rfl, hp9⟩, by rw [ht]; exact hP9, va_K.moved hW.alike hK, hD9⟩, hS.F ht⟩) hS.2.2 dX5_moveWork_159
        · skip
          first | have hin := b_X5_in (nn + 1) 0 3652058 (by omega) (by omega) (by omega) | skip
          refine lv_iload_n hx hb dX5_moveWork_77 rfl (lv_at hl 0 rfl) ?_
          refine lv_iload hx hb dX5_moveWork_78 (lv_at hl 1 rfl) ?_
          refine zw_if_le (tgt := 87) hx hb dX5_moveWork_80 (by decide) ⟨by omega, by omega⟩ (fun h5 => ?_) (fun h5 => ?_)
          · skip
            exact absurd True.intro (by omega)
          · skip
            refine zw_iconst hx hb dX5_moveWork_83 ?_
            refine lv_goto (tgt := 88) hx hb dX5_moveWork_84 (by decide) ?_
            refine zw_iadd hx hb dX5_moveWork_88 ?_
            refine zw_top (fun x6 ex6 => ?_)
            refine lv_istore_n (lv' := [(3, .int (zi x6)), (4, .int (zi lft)), (0, .ref g0), (1, .int (zi sl)), (2, .int (zi many))]) hx hb dX5_moveWork_89 rfl hl (by decide) rfl (fun ls hl => ?_)
            refine lv_aload_n hx hb dX5_moveWork_90 rfl (lv_at hl 2 rfl) ?_
            refine lv_iload_n hx hb dX5_moveWork_91 rfl (lv_at hl 0 rfl) ?_
            refine zw_iconst hx hb dX5_moveWork_92 ?_
            refine zw_ldc (n := 3652058) hx hb hown (hts (.constant RX5 89 (3652058)) (by decide +kernel)) dX5_moveWork_93 (by decide) ?_
            have hh7 := c_X5_in l x6 0 3652058 (by omega) (by omega) (by omega)
            refine vp_callSi (va_Run.run (va_runS (As := [.int (zi x6), .int (zi 0), .int (zi 3652058)]) (rest := [.ref g0]) ⟨hx, hb, hml, hown, hts⟩ hh7 (va_cwS 3 hts gX5_moveWork_X5_in rfl rfl rfl (by decide +kernel) ⟨Nat.le_of_ble_eq_true rfl, Nat.le_of_ble_eq_true rfl⟩) ⟨fun a U g mk q => q, fun U hU hW => ⟨rfl, trivial⟩⟩ rfl rfl hl.1 rfl (lv_room (Nat.le_of_ble_eq_true rfl)) dX5_moveWork_95 ⟨Nat.zero_le _, Nat.zero_le _⟩)) (fun r7 (hr7 : r7 = zi (f_X5_in x6 0 3652058)) => ?_)
            subst hr7
            have hf7 := b_X5_in x6 0 3652058 (by omega) (by omega) (by omega)
            refine zw_if_eq (tgt := 105) hx hb dX5_moveWork_98 (by decide) ⟨by omega, by omega⟩ (fun h8 => ?_) (fun h8 => ?_)
            · skip
              have hzx := zmv_x (wkX5 we kf af bf zf ru) 1 fu nn lft (by omega) (by omega)
              have hzy := hi1 (by omega)
              refine zw_iconst hx hb dX5_moveWork_105 ?_
              refine va_put (D := (dC, dI)) (ci := 5) (v := .int (zi 4)) (ty := .int) (C := RX5) (T := TX5) (N := 12) hx hb hts (by decide +kernel) tyX5 tyX5_ok nmX5 hown hK hP hD hS 0 rfl rfl 0 (by decide) (hts (.fieldLink RX5 35 "CivilDaysModel" "code" "I") (by decide +kernel)) (fun _ h9 => h9) rfl (by decide +kernel) rfl rfl (Nat.le_of_ble_eq_true rfl) dX5_moveWork_106 (fun H locs hP hD hS => ?_)
              have hP : va_P (dC, dI) vwCl [(g0, .inr (5, [.int (zi 4), .ref ps, .int (zi ru), .ref pk, .ref pa, .ref pb, .ref pq, .int (zi we), .int (zi wr), .ref pw, .int (zi ty), .ref pt])), (ps, aI cI 10 sf), (pk, aI cI 12 kf), (pa, aI cI 12 af), (pb, aI cI 12 bf), (pq, aI cI 12 zf)] H := hP
              have hD : va_D A [(g0, .inr (5, [.int (zi 4), .ref ps, .int (zi ru), .ref pk, .ref pa, .ref pb, .ref pq, .int (zi we), .int (zi wr), .ref pw, .int (zi ty), .ref pt])), (ps, aI cI 10 sf), (pk, aI cI 12 kf), (pa, aI cI 12 af), (pb, aI cI 12 bf), (pq, aI cI 12 zf)] := hD
              refine lv_aload_n hx hb dX5_moveWork_109 rfl (lv_at hl 2 rfl) ?_
              refine va_get (D := (dC, dI)) (ci := 5) (v := .int (zi 4)) (C := RX5) (T := TX5) (N := 12) hx hb hts (by decide +kernel) hown hK hP 0 rfl rfl 0 (by decide) (hts (.fieldLink RX5 35 "CivilDaysModel" "code" "I") (by decide +kernel)) (fun _ h9 => h9) rfl dX5_moveWork_110 ?_
              refine zw_if_ne (tgt := 65) hx hb dX5_moveWork_113 (by decide) ⟨by omega, by omega⟩ (fun h9 => ?_) (fun h9 => ?_)
              · skip
                subst ex6
                have hP9 := hP.sub (ws' := [(g0, .inr (5, [.int (zi 4), .ref ps, .int (zi ru), .ref pk, .ref pa, .ref pb, .ref pq, .int (zi we), .int (zi wr), .ref pw, .int (zi ty), .ref pt])), (ps, aI cI 10 sf), (pk, aI cI 12 kf), (pa, aI cI 12 af), (pb, aI cI 12 bf), (pq, aI cI 12 zf)]) [0, 1, 2, 3, 4, 5] rfl
                have hD9 := hD.sub (ws' := [(g0, .inr (5, [.int (zi 4), .ref ps, .int (zi ru), .ref pk, .ref pa, .ref pb, .ref pq, .int (zi we), .int (zi wr), .ref pw, .int (zi ty), .ref pt])), (ps, aI cI 10 sf), (pk, aI cI 12 kf), (pa, aI cI 12 af), (pb, aI cI 12 bf), (pq, aI cI 12 zf)]) [0, 1, 2, 3, 4, 5] (by decide) rfl
                exact ih (nn + 1) lft 4 (by omega) (by first | (intro h9; exact absurd h9 (by omega)) | (intro h9; exact hp7) | (intro h9; rw [← hi1 (by omega)]; symm; first | (apply zmv_s1 <;> omega) | (apply zmv_s0 <;> omega))) (by omega) (by omega) ls _ _ (lv_sub hl [0, 1, 2, 3, 4] rfl) hP9 hD9 hS
              · skip
                exact absurd True.intro (by omega)
            · skip
              skip
              refine zw_iconst hx hb dX5_moveWork_101 ?_
              refine lv_goto (tgt := 106) hx hb dX5_moveWork_102 (by decide) ?_
              refine va_put (D := (dC, dI)) (ci := 5) (v := .int (zi 0)) (ty := .int) (C := RX5) (T := TX5) (N := 12) hx hb hts (by decide +kernel) tyX5 tyX5_ok nmX5 hown hK hP hD hS 0 rfl rfl 0 (by decide) (hts (.fieldLink RX5 35 "CivilDaysModel" "code" "I") (by decide +kernel)) (fun _ h9 => h9) rfl (by decide +kernel) rfl rfl (Nat.le_of_ble_eq_true rfl) dX5_moveWork_106 (fun H locs hP hD hS => ?_)
              have hP : va_P (dC, dI) vwCl [(g0, .inr (5, [.int (zi 0), .ref ps, .int (zi ru), .ref pk, .ref pa, .ref pb, .ref pq, .int (zi we), .int (zi wr), .ref pw, .int (zi ty), .ref pt])), (ps, aI cI 10 sf), (pk, aI cI 12 kf), (pa, aI cI 12 af), (pb, aI cI 12 bf), (pq, aI cI 12 zf)] H := hP
              have hD : va_D A [(g0, .inr (5, [.int (zi 0), .ref ps, .int (zi ru), .ref pk, .ref pa, .ref pb, .ref pq, .int (zi we), .int (zi wr), .ref pw, .int (zi ty), .ref pt])), (ps, aI cI 10 sf), (pk, aI cI 12 kf), (pa, aI cI 12 af), (pb, aI cI 12 bf), (pq, aI cI 12 zf)] := hD
              refine lv_aload_n hx hb dX5_moveWork_109 rfl (lv_at hl 2 rfl) ?_
              refine va_get (D := (dC, dI)) (ci := 5) (v := .int (zi 0)) (C := RX5) (T := TX5) (N := 12) hx hb hts (by decide +kernel) hown hK hP 0 rfl rfl 0 (by decide) (hts (.fieldLink RX5 35 "CivilDaysModel" "code" "I") (by decide +kernel)) (fun _ h9 => h9) rfl dX5_moveWork_110 ?_
              refine zw_if_ne (tgt := 65) hx hb dX5_moveWork_113 (by decide) ⟨by omega, by omega⟩ (fun h10 => ?_) (fun h10 => ?_)
              · skip
                exact absurd True.intro (by omega)
              · skip
                refine lv_aload_n hx hb dX5_moveWork_116 rfl (lv_at hl 2 rfl) ?_
                refine lv_iload_n hx hb dX5_moveWork_117 rfl (lv_at hl 0 rfl) ?_
                have hh11 := c_X5_works l dC dI cI g0 ps pk pa pb pq pw pt 0 ru we wr ty kf af bf zf x6 (by omega) (by omega) (by first | exact hpr | exact hp5 | exact hp3) (by omega)
                have hPc := hP.sub (ws' := [(g0, .inr (5, [.int (zi 0), .ref ps, .int (zi ru), .ref pk, .ref pa, .ref pb, .ref pq, .int (zi we), .int (zi wr), .ref pw, .int (zi ty), .ref pt])), (pk, aI cI 12 kf), (pa, aI cI 12 af), (pb, aI cI 12 bf), (pq, aI cI 12 zf)]) [0, 2, 3, 4, 5] rfl
                have hKc : va_K (dC, dI) vwCl [(cI, .int)] s := hK
                refine vp_callSi (va_Run.run (va_runV (As := [.int (zi x6)]) (rest := []) ⟨hx, hb, hml, hown, hts⟩ hh11 (cwV 1 hts gX5_moveWork_X5_works rfl rfl rfl (by decide +kernel) ⟨Nat.le_of_ble_eq_true rfl, Nat.le_of_ble_eq_true rfl⟩) ⟨zPr.blind _ _ _ _, va_recv hKc hPc (ci := 5) (q0 := 0) rfl rfl, fun U hU hW => ⟨rfl, by rw [hU]; exact hPc, va_K.moved hW.alike hKc⟩⟩ rfl rfl hl.1 rfl (lv_room (Nat.le_of_ble_eq_true rfl)) dX5_moveWork_118 ⟨Nat.le_of_ble_eq_true rfl, Nat.le_of_ble_eq_true rfl⟩)) (fun r11 (hr11 : r11 = zi (wkX5 we kf af bf zf ru x6)) => ?_)
                subst hr11
                have hf11_0 := wkX5_s we kf af bf zf ru x6
                have hwk := wkX5_s we kf af bf zf ru (nn + 1)
                refine zw_if_eq (tgt := 65) hx hb dX5_moveWork_121 (by decide) ⟨by omega, by omega⟩ (fun h12 => ?_) (fun h12 => ?_)
                · skip
                  subst ex6
                  have hP9 := hP.sub (ws' := [(g0, .inr (5, [.int (zi 0), .ref ps, .int (zi ru), .ref pk, .ref pa, .ref pb, .ref pq, .int (zi we), .int (zi wr), .ref pw, .int (zi ty), .ref pt])), (ps, aI cI 10 sf), (pk, aI cI 12 kf), (pa, aI cI 12 af), (pb, aI cI 12 bf), (pq, aI cI 12 zf)]) [0, 1, 2, 3, 4, 5] rfl
                  have hD9 := hD.sub (ws' := [(g0, .inr (5, [.int (zi 0), .ref ps, .int (zi ru), .ref pk, .ref pa, .ref pb, .ref pq, .int (zi we), .int (zi wr), .ref pw, .int (zi ty), .ref pt])), (ps, aI cI 10 sf), (pk, aI cI 12 kf), (pa, aI cI 12 af), (pb, aI cI 12 bf), (pq, aI cI 12 zf)]) [0, 1, 2, 3, 4, 5] (by decide) rfl
                  exact ih (nn + 1) lft 0 (by omega) (by first | (intro h9; exact absurd h9 (by omega)) | (intro h9; exact hp7) | (intro h9; rw [← hi1 (by omega)]; symm; first | (apply zmv_s1 <;> omega) | (apply zmv_s0 <;> omega))) (by omega) (by omega) ls _ _ (lv_sub hl [0, 1, 2, 3, 4] rfl) hP9 hD9 hS
                · skip
                  refine lv_iload hx hb dX5_moveWork_124 (lv_at hl 1 rfl) ?_
                  refine lv_iload hx hb dX5_moveWork_126 (lv_at hl 1 rfl) ?_
                  refine zw_if_le (tgt := 135) hx hb dX5_moveWork_128 (by decide) ⟨by omega, by omega⟩ (fun h13 => ?_) (fun h13 => ?_)
                  · skip
                    exact absurd True.intro (by omega)
                  · skip
                    refine zw_iconst hx hb dX5_moveWork_131 ?_
                    refine lv_goto (tgt := 136) hx hb dX5_moveWork_132 (by decide) ?_
                    refine zw_iadd hx hb dX5_moveWork_136 ?_
                    refine zw_top (fun x14 ex14 => ?_)
                    refine lv_istore (lv' := [(4, .int (zi x14)), (3, .int (zi x6)), (0, .ref g0), (1, .int (zi sl)), (2, .int (zi many))]) hx hb dX5_moveWork_137 hl (by decide) rfl (fun ls hl => ?_)
                    refine lv_goto (tgt := 65) hx hb dX5_moveWork_139 (by decide) ?_
                    subst ex6 ex14
                    have hP9 := hP.sub (ws' := [(g0, .inr (5, [.int (zi 0), .ref ps, .int (zi ru), .ref pk, .ref pa, .ref pb, .ref pq, .int (zi we), .int (zi wr), .ref pw, .int (zi ty), .ref pt])), (ps, aI cI 10 sf), (pk, aI cI 12 kf), (pa, aI cI 12 af), (pb, aI cI 12 bf), (pq, aI cI 12 zf)]) [0, 1, 2, 3, 4, 5] rfl
                    have hD9 := hD.sub (ws' := [(g0, .inr (5, [.int (zi 0), .ref ps, .int (zi ru), .ref pk, .ref pa, .ref pb, .ref pq, .int (zi we), .int (zi wr), .ref pw, .int (zi ty), .ref pt])), (ps, aI cI 10 sf), (pk, aI cI 12 kf), (pa, aI cI 12 af), (pb, aI cI 12 bf), (pq, aI cI 12 zf)]) [0, 1, 2, 3, 4, 5] (by decide) rfl
                    exact ih (nn + 1) (lft + (-1)) 0 (by omega) (by first | (intro h9; exact absurd h9 (by omega)) | (intro h9; exact hp7) | (intro h9; rw [← hi1 (by omega)]; symm; first | (apply zmv_s1 <;> omega) | (apply zmv_s0 <;> omega))) (by omega) (by omega) ls _ _ (lv_sub hl [1, 0, 2, 3, 4] rfl) hP9 hD9 hS
  have hl := lv_entry ([.ref g0, .int (zi sl), .int (zi many)]) (n := 5) (Nat.le_of_ble_eq_true rfl)
  rw [lg_entry_eq]
  generalize (lg_sl ([.ref g0, .int (zi sl), .int (zi many)]) ++ List.replicate (5 - (lg_sl ([.ref g0, .int (zi sl), .int (zi many)])).length) Slot.unset).toArray = ls at hl ⊢
  have hl : lv_has ls 5 [(0, .ref g0), (1, .int (zi sl)), (2, .int (zi many))] := hl
  have hpr := hp3
  refine lv_aload_n hx hb dX5_moveWork_0 rfl (lv_at hl 0 rfl) ?_
  refine lv_iload_n hx hb dX5_moveWork_1 rfl (lv_at hl 1 rfl) ?_
  have hh15 := c_X5_isSlot l sl (by omega)
  refine vp_callSi (va_Run.run (va_runS (As := [.int (zi sl)]) (rest := [.ref g0]) ⟨hx, hb, hml, hown, hts⟩ hh15 (va_cwS 1 hts gX5_moveWork_X5_isSlot rfl rfl rfl (by decide +kernel) ⟨Nat.le_of_ble_eq_true rfl, Nat.le_of_ble_eq_true rfl⟩) ⟨fun a U g mk q => q, fun U hU hW => ⟨rfl, trivial⟩⟩ rfl rfl hl.1 rfl (lv_room (Nat.le_of_ble_eq_true rfl)) dX5_moveWork_2 ⟨Nat.zero_le _, Nat.zero_le _⟩)) (fun r15 (hr15 : r15 = zi (f_X5_isSlot sl)) => ?_)
  subst hr15
  have hf15 := b_X5_isSlot sl (by omega)
  refine zw_if_ne (tgt := 12) hx hb dX5_moveWork_5 (by decide) ⟨by omega, by omega⟩ (fun h16 => ?_) (fun h16 => ?_)
  · skip
    refine lv_aload_n hx hb dX5_moveWork_12 rfl (lv_at hl 0 rfl) ?_
    refine va_get (D := (dC, dI)) (ci := 5) (v := .ref ps) (C := RX5) (T := TX5) (N := 12) hx hb hts (by decide +kernel) hown hK hP 0 rfl rfl 1 (by decide) (hts (.fieldLink RX5 7 "CivilDaysModel" "slots" "[I") (by decide +kernel)) (fun _ h9 => h9) rfl dX5_moveWork_13 ?_
    refine lv_iload_n hx hb dX5_moveWork_16 rfl (lv_at hl 1 rfl) ?_
    refine zw_iald hx hb hK hP 1 0 rfl rfl (by omega) (by omega) ⟨by omega, by omega⟩ dX5_moveWork_17 ?_
    refine zw_if_ge (tgt := 25) hx hb dX5_moveWork_18 (by decide) ⟨by omega, by omega⟩ (fun h17 => ?_) (fun h17 => ?_)
    · skip
      refine lv_iload_n hx hb dX5_moveWork_25 rfl (lv_at hl 2 rfl) ?_
      refine zw_sipush hx hb dX5_moveWork_26 (by decide) ?_
      refine zw_sipush hx hb dX5_moveWork_29 (by decide) ?_
      have hh18 := c_X5_in l many (-1000) 1000 (by omega) (by omega) (by omega)
      refine vp_callSi (va_Run.run (va_runS (As := [.int (zi many), .int (zi (-1000)), .int (zi 1000)]) (rest := [.ref g0]) ⟨hx, hb, hml, hown, hts⟩ hh18 (va_cwS 3 hts gX5_moveWork_X5_in rfl rfl rfl (by decide +kernel) ⟨Nat.le_of_ble_eq_true rfl, Nat.le_of_ble_eq_true rfl⟩) ⟨fun a U g mk q => q, fun U hU hW => ⟨rfl, trivial⟩⟩ rfl rfl hl.1 rfl (lv_room (Nat.le_of_ble_eq_true rfl)) dX5_moveWork_32 ⟨Nat.zero_le _, Nat.zero_le _⟩)) (fun r18 (hr18 : r18 = zi (f_X5_in many (-1000) 1000)) => ?_)
      subst hr18
      have hf18 := b_X5_in many (-1000) 1000 (by omega) (by omega) (by omega)
      refine zw_if_ne (tgt := 42) hx hb dX5_moveWork_35 (by decide) ⟨by omega, by omega⟩ (fun h19 => ?_) (fun h19 => ?_)
      · skip
        refine zw_iconst hx hb dX5_moveWork_42 ?_
        refine va_put (D := (dC, dI)) (ci := 5) (v := .int (zi 0)) (ty := .int) (C := RX5) (T := TX5) (N := 12) hx hb hts (by decide +kernel) tyX5 tyX5_ok nmX5 hown hK hP hD hS 0 rfl rfl 0 (by decide) (hts (.fieldLink RX5 35 "CivilDaysModel" "code" "I") (by decide +kernel)) (fun _ h9 => h9) rfl (by decide +kernel) rfl rfl (Nat.le_of_ble_eq_true rfl) dX5_moveWork_43 (fun H locs hP hD hS => ?_)
        have hP : va_P (dC, dI) vwCl [(g0, .inr (5, [.int (zi 0), .ref ps, .int (zi ru), .ref pk, .ref pa, .ref pb, .ref pq, .int (zi we), .int (zi wr), .ref pw, .int (zi ty), .ref pt])), (ps, aI cI 10 sf), (pk, aI cI 12 kf), (pa, aI cI 12 af), (pb, aI cI 12 bf), (pq, aI cI 12 zf)] H := hP
        have hD : va_D A [(g0, .inr (5, [.int (zi 0), .ref ps, .int (zi ru), .ref pk, .ref pa, .ref pb, .ref pq, .int (zi we), .int (zi wr), .ref pw, .int (zi ty), .ref pt])), (ps, aI cI 10 sf), (pk, aI cI 12 kf), (pa, aI cI 12 af), (pb, aI cI 12 bf), (pq, aI cI 12 zf)] := hD
        refine lv_aload_n hx hb dX5_moveWork_46 rfl (lv_at hl 0 rfl) ?_
        refine va_get (D := (dC, dI)) (ci := 5) (v := .int (zi 0)) (C := RX5) (T := TX5) (N := 12) hx hb hts (by decide +kernel) hown hK hP 0 rfl rfl 0 (by decide) (hts (.fieldLink RX5 35 "CivilDaysModel" "code" "I") (by decide +kernel)) (fun _ h9 => h9) rfl dX5_moveWork_47 ?_
        refine zw_if_le (tgt := 55) hx hb dX5_moveWork_50 (by decide) ⟨by omega, by omega⟩ (fun h20 => ?_) (fun h20 => ?_)
        · skip
          refine lv_aload_n hx hb dX5_moveWork_55 rfl (lv_at hl 0 rfl) ?_
          refine va_get (D := (dC, dI)) (ci := 5) (v := .ref ps) (C := RX5) (T := TX5) (N := 12) hx hb hts (by decide +kernel) hown hK hP 0 rfl rfl 1 (by decide) (hts (.fieldLink RX5 7 "CivilDaysModel" "slots" "[I") (by decide +kernel)) (fun _ h9 => h9) rfl dX5_moveWork_56 ?_
          refine lv_iload_n hx hb dX5_moveWork_59 rfl (lv_at hl 1 rfl) ?_
          refine zw_iald hx hb hK hP 1 0 rfl rfl (by omega) (by omega) ⟨by omega, by omega⟩ dX5_moveWork_60 ?_
          refine zw_top (fun x21 ex21 => ?_)
          refine lv_istore_n (lv' := [(3, .int (zi x21)), (0, .ref g0), (1, .int (zi sl)), (2, .int (zi many))]) hx hb dX5_moveWork_61 rfl hl (by decide) rfl (fun ls hl => ?_)
          refine lv_iload_n hx hb dX5_moveWork_62 rfl (lv_at hl 3 rfl) ?_
          refine lv_istore (lv' := [(4, .int (zi many)), (3, .int (zi x21)), (0, .ref g0), (1, .int (zi sl)), (2, .int (zi many))]) hx hb dX5_moveWork_63 hl (by decide) rfl (fun ls hl => ?_)
          subst ex21
          have hP9 := hP.sub (ws' := [(g0, .inr (5, [.int (zi 0), .ref ps, .int (zi ru), .ref pk, .ref pa, .ref pb, .ref pq, .int (zi we), .int (zi wr), .ref pw, .int (zi ty), .ref pt])), (ps, aI cI 10 sf), (pk, aI cI 12 kf), (pa, aI cI 12 af), (pb, aI cI 12 bf), (pq, aI cI 12 zf)]) [0, 1, 2, 3, 4, 5] rfl
          have hD9 := hD.sub (ws' := [(g0, .inr (5, [.int (zi 0), .ref ps, .int (zi ru), .ref pk, .ref pa, .ref pb, .ref pq, .int (zi we), .int (zi wr), .ref pw, .int (zi ty), .ref pt])), (ps, aI cI 10 sf), (pk, aI cI 12 kf), (pa, aI cI 12 af), (pb, aI cI 12 bf), (pq, aI cI 12 zf)]) [0, 1, 2, 3, 4, 5] (by decide) rfl
          exact loop65 (fz) (sf sl.toNat) many 0 (by omega) (by first | (intro h9; exact absurd h9 (by omega)) | (intro h9; exact hp7) | (intro h9; rw [← hi1 (by omega)]; symm; first | (apply zmv_s1 <;> omega) | (apply zmv_s0 <;> omega))) (by omega) (by omega) ls _ _ (lv_sub hl [1, 0, 2, 3, 4] rfl) hP9 hD9 hS
        · skip
          exact absurd True.intro (by omega)
      · skip
        exact absurd True.intro (by omega)
    · skip
      exact absurd True.intro (by omega)
  · skip
    exact absurd True.intro (by omega)

set_option maxHeartbeats 4000000 in
set_option maxRecDepth 100000 in
theorem c_X5_moveWork_n (l : Launch)  (dC : Nat → ClassId) (dI : Nat → Nat → Nat) (cI : ClassId) (g0 : Nat) (ps : Nat) (pk : Nat) (pa : Nat) (pb : Nat) (pq : Nat) (pw : Nat) (pt : Nat) (co : Int) (ru : Int) (we : Int) (wr : Int) (ty : Int) (sf : Nat → Int) (kf : Nat → Int) (af : Nat → Int) (bf : Nat → Int) (zf : Nat → Int) (fz : Nat) (rr : Int) (sl : Int) (many : Int) (sz : Nat) (hp0 : 0 ≤ sl ∧ sl ≤ 9) (hp1 : 0 ≤ (sf sl.toNat) ∧ (sf sl.toNat) ≤ 3652058) (hp2 : 0 ≤ ru ∧ ru ≤ 12) (hp3 : ∀ j : Nat, (j : Int) < ru → (0 ≤ (kf j) ∧ (kf j) ≤ 3) ∧ ((kf j) = 1 ∧ -100 ≤ (af j) ∧ (af j) ≤ 100 ∨ (kf j) ≠ 1 ∧ 1 ≤ (af j) ∧ (af j) ≤ 12) ∧ ((kf j) = 1 ∨ (kf j) = 2 ∧ 1 ≤ (bf j) ∧ (bf j) ≤ 7 ∨ (kf j) ≠ 2 ∧ 1 ≤ (bf j) ∧ (bf j) ≤ 31) ∧ ((kf j) ≠ 2 ∨ (zf j) = -1 ∨ 1 ≤ (zf j) ∧ (zf j) ≤ 4)) (hp4 : 0 ≤ we ∧ we ≤ 127) (hp5 : -1000 ≤ many ∧ many ≤ 1000 ∧ many < 0) (hp6 : 4000000 ≤ fz) (hp7 : zmv (wkX5 we kf af bf zf ru) (-1) fz (sf sl.toNat) (-many) = rr) (hp8 : 0 ≤ rr ∧ rr ≤ 3652058) : Met l yX5_moveWork wsX5_moveWork ({ frames := 7, cells := 0, slots := 0, locals := 159 }) (zPw (dC, dI) [(cI, .int)] sz [.ref g0, .int (zi sl), .int (zi many)] [(g0, .inr (5, [.int (zi co), .ref ps, .int (zi ru), .ref pk, .ref pa, .ref pb, .ref pq, .int (zi we), .int (zi wr), .ref pw, .int (zi ty), .ref pt])), (ps, aI cI 10 sf), (pk, aI cI 12 kf), (pa, aI cI 12 af), (pb, aI cI 12 bf), (pq, aI cI 12 zf)]) (va_Qi (fun (r : Int32) (u : (Int) × (Nat → Int)) => r = zi rr ∧ (u.1 = 0 ∧ u.2 = zup sf sl.toNat rr)) (fun (u : (Int) × (Nat → Int)) => zB (dC, dI) [(cI, .int)] (va_A [(g0, .inr (5, [.int (zi co), .ref ps, .int (zi ru), .ref pk, .ref pa, .ref pb, .ref pq, .int (zi we), .int (zi wr), .ref pw, .int (zi ty), .ref pt])), (ps, aI cI 10 sf), (pk, aI cI 12 kf), (pa, aI cI 12 af), (pb, aI cI 12 bf), (pq, aI cI 12 zf)] sz) [(g0, .inr (5, [.int (zi u.1), .ref ps, .int (zi ru), .ref pk, .ref pa, .ref pb, .ref pq, .int (zi we), .int (zi wr), .ref pw, .int (zi ty), .ref pt])), (ps, aI cI 10 u.2), (pk, aI cI 12 kf), (pa, aI cI 12 af), (pb, aI cI 12 bf), (pq, aI cI 12 zf)] ()) (va_A [(g0, .inr (5, [.int (zi co), .ref ps, .int (zi ru), .ref pk, .ref pa, .ref pb, .ref pq, .int (zi we), .int (zi wr), .ref pw, .int (zi ty), .ref pt])), (ps, aI cI 10 sf), (pk, aI cI 12 kf), (pa, aI cI 12 af), (pb, aI cI 12 bf), (pq, aI cI 12 zf)] sz)) 0 0 (va_A [(g0, .inr (5, [.int (zi co), .ref ps, .int (zi ru), .ref pk, .ref pa, .ref pb, .ref pq, .int (zi we), .int (zi wr), .ref pw, .int (zi ty), .ref pt])), (ps, aI cI 10 sf), (pk, aI cI 12 kf), (pa, aI cI 12 af), (pb, aI cI 12 bf), (pq, aI cI 12 zf)] sz) := by
  refine Met.ofW (cc := cX5_moveWork) (maxL := 5) (ret := (some .int)) (by decide) rfl ?_
  intro p e s m args below meth c s₁ B hml hv
  obtain ⟨rfl, hsz, hP, hK, hD0⟩ := hv
  have hx := B.exec
  have hb := B.bytes
  have hr := B.returns
  have hts := atoms_spec (ws := wsX5_moveWork) B.pre
  have hown : s.vm.findClass RX5 = some m.cls := findClass_of_methodNamed B.named
  have hlocks := B.notSynchronized
  subst hsz
  have hD := hD0.self (sz := s.heap.size)
  generalize hAe : va_A [(g0, .inr (5, [.int (zi co), .ref ps, .int (zi ru), .ref pk, .ref pa, .ref pb, .ref pq, .int (zi we), .int (zi wr), .ref pw, .int (zi ty), .ref pt])), (ps, aI cI 10 sf), (pk, aI cI 12 kf), (pa, aI cI 12 af), (pb, aI cI 12 bf), (pq, aI cI 12 zf)] s.heap.size = A at hD ⊢
  have hA : ∀ q : Nat, s.heap.size ≤ q → A q := fun q h => by rw [← hAe]; exact Or.inr h
  have hS : va_S A s.heap s.heap [] := va_S.rf
  have hP : va_P (dC, dI) vwCl [(g0, .inr (5, [.int (zi co), .ref ps, .int (zi ru), .ref pk, .ref pa, .ref pb, .ref pq, .int (zi we), .int (zi wr), .ref pw, .int (zi ty), .ref pt])), (ps, aI cI 10 sf), (pk, aI cI 12 kf), (pa, aI cI 12 af), (pb, aI cI 12 bf), (pq, aI cI 12 zf)] s.heap := hP
  have loop65 : ∀ (fu : Nat) (nn : Int) (lft : Int) (co : Int), (co = 0 ∧ 0 ≤ nn ∧ nn ≤ 3652058 ∨ co = 4 ∧ rr = -1 ∧ 0 < (-lft)) → (co = 0 → zmv (wkX5 we kf af bf zf ru) (-1) fu nn (-lft) = rr) → (-2 ≤ nn ∧ nn ≤ 3652060 ∧ 0 ≤ (-lft) ∧ (-lft) ≤ 1000) → (co = 0 ∧ nn + 2 < fu ∨ co = 4 ∧ 0 < fu) → ∀ (ls : Array Slot) (H : Heap) (locs : List Loc), lv_has ls 5 [(3, .int (zi nn)), (4, .int (zi lft)), (0, .ref g0), (1, .int (zi sl)), (2, .int (zi many))] → va_P (dC, dI) vwCl [(g0, .inr (5, [.int (zi co), .ref ps, .int (zi ru), .ref pk, .ref pa, .ref pb, .ref pq, .int (zi we), .int (zi wr), .ref pw, .int (zi ty), .ref pt])), (ps, aI cI 10 sf), (pk, aI cI 12 kf), (pa, aI cI 12 af), (pb, aI cI 12 bf), (pq, aI cI 12 zf)] H → va_D A [(g0, .inr (5, [.int (zi co), .ref ps, .int (zi ru), .ref pk, .ref pa, .ref pb, .ref pq, .int (zi we), .int (zi wr), .ref pw, .int (zi ty), .ref pt])), (ps, aI cI 10 sf), (pk, aI cI 12 kf), (pa, aI cI 12 af), (pb, aI cI 12 bf), (pq, aI cI 12 zf)] → va_S A s.heap H locs → W p l e (headSpec wsX5_moveWork ({ frames := 7, cells := 0, slots := 0, locals := 159 })).room s m ([.ref g0, .int (zi sl), .int (zi many)] : List Value).toArray below meth c H locs 0 0 (MQ below (va_Qi (fun (r : Int32) (u : (Int) × (Nat → Int)) => r = zi rr ∧ (u.1 = 0 ∧ u.2 = zup sf sl.toNat rr)) (fun (u : (Int) × (Nat → Int)) => zB (dC, dI) [(cI, .int)] A [(g0, .inr (5, [.int (zi u.1), .ref ps, .int (zi ru), .ref pk, .ref pa, .ref pb, .ref pq, .int (zi we), .int (zi wr), .ref pw, .int (zi ty), .ref pt])), (ps, aI cI 10 u.2), (pk, aI cI 12 kf), (pa, aI cI 12 af), (pb, aI cI 12 bf), (pq, aI cI 12 zf)] ()) A) ([.ref g0, .int (zi sl), .int (zi many)] : List Value).toArray s 0 0 A) (F0 m 65 ls []) := by
    intro fu
    induction fu with
    | zero =>
      intro nn lft co hi0 hi1 hi2 hfu ls H locs hl hP hD hS
      exact absurd hfu (by omega)
    | succ fu ih =>
      intro nn lft co hi0 hi1 hi2 hfu ls H locs hl hP hD hS
      have hP : va_P (dC, dI) vwCl [(g0, .inr (5, [.int (zi co), .ref ps, .int (zi ru), .ref pk, .ref pa, .ref pb, .ref pq, .int (zi we), .int (zi wr), .ref pw, .int (zi ty), .ref pt])), (ps, aI cI 10 sf), (pk, aI cI 12 kf), (pa, aI cI 12 af), (pb, aI cI 12 bf), (pq, aI cI 12 zf)] H := hP
      have hD : va_D A [(g0, .inr (5, [.int (zi co), .ref ps, .int (zi ru), .ref pk, .ref pa, .ref pb, .ref pq, .int (zi we), .int (zi wr), .ref pw, .int (zi ty), .ref pt])), (ps, aI cI 10 sf), (pk, aI cI 12 kf), (pa, aI cI 12 af), (pb, aI cI 12 bf), (pq, aI cI 12 zf)] := hD
      refine lv_iload hx hb dX5_moveWork_65 (lv_at hl 1 rfl) ?_
      refine zw_if_eq (tgt := 142) hx hb dX5_moveWork_67 (by decide) ⟨by omega, by omega⟩ (fun h1 => ?_) (fun h1 => ?_)
      · skip
        first | have hz0 := zmv_0 (wkX5 we kf af bf zf ru) (-1) fu nn (-lft) (by omega) | skip
        first | have hzy := hi1 (by omega) | skip
        refine lv_aload_n hx hb dX5_moveWork_142 rfl (lv_at hl 2 rfl) ?_
        refine va_get (D := (dC, dI)) (ci := 5) (v := .int (zi co)) (C := RX5) (T := TX5) (N := 12) hx hb hts (by decide +kernel) hown hK hP 0 rfl rfl 0 (by decide) (hts (.fieldLink RX5 35 "CivilDaysModel" "code" "I") (by decide +kernel)) (fun _ h9 => h9) rfl dX5_moveWork_143 ?_
        refine zw_if_le (tgt := 153) hx hb dX5_moveWork_146 (by decide) ⟨by omega, by omega⟩ (fun h2 => ?_) (fun h2 => ?_)
        · skip
          refine lv_aload_n hx hb dX5_moveWork_153 rfl (lv_at hl 2 rfl) ?_
          refine lv_iload_n hx hb dX5_moveWork_154 rfl (lv_at hl 3 rfl) ?_
          refine lv_iload_n hx hb dX5_moveWork_155 rfl (lv_at hl 0 rfl) ?_
          have hh3 := c_X5_lay l dC dI cI g0 ps pk pa pb pq pw pt co ru we wr ty sf sl nn H.size (by omega) (by omega)
          have hPc := hP.sub (ws' := [(g0, .inr (5, [.int (zi co), .ref ps, .int (zi ru), .ref pk, .ref pa, .ref pb, .ref pq, .int (zi we), .int (zi wr), .ref pw, .int (zi ty), .ref pt])), (ps, aI cI 10 sf)]) [0, 1] rfl
          have hKc : va_K (dC, dI) vwCl [(cI, .int)] s := hK
          have hDc := hD.sub (ws' := [(g0, .inr (5, [.int (zi co), .ref ps, .int (zi ru), .ref pk, .ref pa, .ref pb, .ref pq, .int (zi we), .int (zi wr), .ref pw, .int (zi ty), .ref pt])), (ps, aI cI 10 sf)]) [0, 1] (by decide) rfl
          have hFc := va_free (wc := [(g0, .inr (5, [.int (zi co), .ref ps, .int (zi ru), .ref pk, .ref pa, .ref pb, .ref pq, .int (zi we), .int (zi wr), .ref pw, .int (zi ty), .ref pt])), (ps, aI cI 10 sf)]) hD hS hA [0, 1] rfl
          refine va_calli (va_runV (As := [.int (zi sl), .int (zi nn)]) (rest := []) ⟨hx, hb, hml, hown, hts⟩ hh3 (cwV 2 hts gX5_moveWork_X5_lay rfl rfl rfl (by decide +kernel) ⟨Nat.le_of_ble_eq_true rfl, Nat.le_of_ble_eq_true rfl⟩) ⟨zPw.blind _ _ _ _ _, va_recv hKc hPc (ci := 5) (q0 := 0) rfl rfl, fun U hU hW => ⟨rfl, by rw [hU], by rw [hU]; exact hPc, va_K.moved hW.alike hKc, hDc.weaken (fun _ _ _ _ => trivial)⟩⟩ rfl rfl hl.1 rfl (lv_room (Nat.le_of_ble_eq_true rfl)) dX5_moveWork_156 ⟨Nat.le_of_ble_eq_true rfl, Nat.le_of_ble_eq_true rfl⟩) hS (fun q _ h => hFc q h) hFc (fun r3 u t H1 locs ht hvm hw hB hz1 hk1 hS => ?_)
          obtain ⟨hP1, hK1, hD1⟩ := hB
          rw [ht] at hP1
          obtain ⟨hP, hD⟩ := va_join (wr := [(pk, aI cI 12 kf), (pa, aI cI 12 af), (pb, aI cI 12 bf), (pq, aI cI 12 zf)]) (w1 := [(g0, .inr (5, [.int (zi co), .ref ps, .int (zi ru), .ref pk, .ref pa, .ref pb, .ref pq, .int (zi we), .int (zi wr), .ref pw, .int (zi ty), .ref pt])), (ps, aI cI 10 (zup sf sl.toNat nn))]) hP hD [0, 1] [2, 3, 4, 5] rfl rfl (by decide) (by decide) hk1 hFc hP1 hD1
          generalize H1 = H at hP hS ⊢
          obtain rfl : r3 = zi nn := hw
          have hP : va_P (dC, dI) vwCl [(pk, aI cI 12 kf), (pa, aI cI 12 af), (pb, aI cI 12 bf), (pq, aI cI 12 zf), (g0, .inr (5, [.int (zi co), .ref ps, .int (zi ru), .ref pk, .ref pa, .ref pb, .ref pq, .int (zi we), .int (zi wr), .ref pw, .int (zi ty), .ref pt])), (ps, aI cI 10 (zup sf sl.toNat nn))] H := hP
          have hD : va_D A [(pk, aI cI 12 kf), (pa, aI cI 12 af), (pb, aI cI 12 bf), (pq, aI cI 12 zf), (g0, .inr (5, [.int (zi co), .ref ps, .int (zi ru), .ref pk, .ref pa, .ref pb, .ref pq, .int (zi we), .int (zi wr), .ref pw, .int (zi ty), .ref pt])), (ps, aI cI 10 (zup sf sl.toNat nn))] := hD
          have hP9 := hP.sub (ws' := [(g0, .inr (5, [.int (zi co), .ref ps, .int (zi ru), .ref pk, .ref pa, .ref pb, .ref pq, .int (zi we), .int (zi wr), .ref pw, .int (zi ty), .ref pt])), (ps, aI cI 10 (zup sf sl.toNat nn)), (pk, aI cI 12 kf), (pa, aI cI 12 af), (pb, aI cI 12 bf), (pq, aI cI 12 zf)]) [4, 5, 0, 1, 2, 3] rfl
          have hD9 := hD.sub (ws' := [(g0, .inr (5, [.int (zi co), .ref ps, .int (zi ru), .ref pk, .ref pa, .ref pb, .ref pq, .int (zi we), .int (zi wr), .ref pw, .int (zi ty), .ref pt])), (ps, aI cI 10 (zup sf sl.toNat nn)), (pk, aI cI 12 kf), (pa, aI cI 12 af), (pb, aI cI 12 bf), (pq, aI cI 12 zf)]) [4, 5, 0, 1, 2, 3] (by decide) rfl
          have hp9 : co = 0 ∧ (zup sf sl.toNat nn) = zup sf sl.toNat rr := by
            exact ⟨by omega, by rw [show nn = rr from by omega]⟩
          exact W.iret (v := zi nn) hx hb hr (fun t ht hW => ⟨⟨zi nn, (co, (zup sf sl.toNat nn)), rfl, ⟨congrArg zi (by omega), hp9⟩, by rw [ht]; exact hP9, va_K.moved hW.alike hK, hD9⟩, hS.F ht⟩) hS.2.2 dX5_moveWork_159
        · skip
          exact absurd True.intro (by omega)
      · skip
        refine lv_aload_n hx hb dX5_moveWork_70 rfl (lv_at hl 2 rfl) ?_
        refine va_get (D := (dC, dI)) (ci := 5) (v := .int (zi co)) (C := RX5) (T := TX5) (N := 12) hx hb hts (by decide +kernel) hown hK hP 0 rfl rfl 0 (by decide) (hts (.fieldLink RX5 35 "CivilDaysModel" "code" "I") (by decide +kernel)) (fun _ h9 => h9) rfl dX5_moveWork_71 ?_
        refine zw_if_ne (tgt := 142) hx hb dX5_moveWork_74 (by decide) ⟨by omega, by omega⟩ (fun h4 => ?_) (fun h4 => ?_)
        · skip
          first | have hz0 := zmv_0 (wkX5 we kf af bf zf ru) (-1) fu nn (-lft) (by omega) | skip
          first | have hzy := hi1 (by omega) | skip
          refine lv_aload_n hx hb dX5_moveWork_142 rfl (lv_at hl 2 rfl) ?_
          refine va_get (D := (dC, dI)) (ci := 5) (v := .int (zi co)) (C := RX5) (T := TX5) (N := 12) hx hb hts (by decide +kernel) hown hK hP 0 rfl rfl 0 (by decide) (hts (.fieldLink RX5 35 "CivilDaysModel" "code" "I") (by decide +kernel)) (fun _ h9 => h9) rfl dX5_moveWork_143 ?_
          refine zw_if_le (tgt := 153) hx hb dX5_moveWork_146 (by decide) ⟨by omega, by omega⟩ (fun h5 => ?_) (fun h5 => ?_)
          · skip
            refine lv_aload_n hx hb dX5_moveWork_153 rfl (lv_at hl 2 rfl) ?_
            refine lv_iload_n hx hb dX5_moveWork_154 rfl (lv_at hl 3 rfl) ?_
            refine lv_iload_n hx hb dX5_moveWork_155 rfl (lv_at hl 0 rfl) ?_
            have hh6 := c_X5_lay l dC dI cI g0 ps pk pa pb pq pw pt co ru we wr ty sf sl nn H.size (by omega) (by omega)
            have hPc := hP.sub (ws' := [(g0, .inr (5, [.int (zi co), .ref ps, .int (zi ru), .ref pk, .ref pa, .ref pb, .ref pq, .int (zi we), .int (zi wr), .ref pw, .int (zi ty), .ref pt])), (ps, aI cI 10 sf)]) [0, 1] rfl
            have hKc : va_K (dC, dI) vwCl [(cI, .int)] s := hK
            have hDc := hD.sub (ws' := [(g0, .inr (5, [.int (zi co), .ref ps, .int (zi ru), .ref pk, .ref pa, .ref pb, .ref pq, .int (zi we), .int (zi wr), .ref pw, .int (zi ty), .ref pt])), (ps, aI cI 10 sf)]) [0, 1] (by decide) rfl
            have hFc := va_free (wc := [(g0, .inr (5, [.int (zi co), .ref ps, .int (zi ru), .ref pk, .ref pa, .ref pb, .ref pq, .int (zi we), .int (zi wr), .ref pw, .int (zi ty), .ref pt])), (ps, aI cI 10 sf)]) hD hS hA [0, 1] rfl
            refine va_calli (va_runV (As := [.int (zi sl), .int (zi nn)]) (rest := []) ⟨hx, hb, hml, hown, hts⟩ hh6 (cwV 2 hts gX5_moveWork_X5_lay rfl rfl rfl (by decide +kernel) ⟨Nat.le_of_ble_eq_true rfl, Nat.le_of_ble_eq_true rfl⟩) ⟨zPw.blind _ _ _ _ _, va_recv hKc hPc (ci := 5) (q0 := 0) rfl rfl, fun U hU hW => ⟨rfl, by rw [hU], by rw [hU]; exact hPc, va_K.moved hW.alike hKc, hDc.weaken (fun _ _ _ _ => trivial)⟩⟩ rfl rfl hl.1 rfl (lv_room (Nat.le_of_ble_eq_true rfl)) dX5_moveWork_156 ⟨Nat.le_of_ble_eq_true rfl, Nat.le_of_ble_eq_true rfl⟩) hS (fun q _ h => hFc q h) hFc (fun r6 u t H1 locs ht hvm hw hB hz1 hk1 hS => ?_)
            obtain ⟨hP1, hK1, hD1⟩ := hB
            rw [ht] at hP1
            obtain ⟨hP, hD⟩ := va_join (wr := [(pk, aI cI 12 kf), (pa, aI cI 12 af), (pb, aI cI 12 bf), (pq, aI cI 12 zf)]) (w1 := [(g0, .inr (5, [.int (zi co), .ref ps, .int (zi ru), .ref pk, .ref pa, .ref pb, .ref pq, .int (zi we), .int (zi wr), .ref pw, .int (zi ty), .ref pt])), (ps, aI cI 10 (zup sf sl.toNat nn))]) hP hD [0, 1] [2, 3, 4, 5] rfl rfl (by decide) (by decide) hk1 hFc hP1 hD1
            generalize H1 = H at hP hS ⊢
            obtain rfl : r6 = zi nn := hw
            have hP : va_P (dC, dI) vwCl [(pk, aI cI 12 kf), (pa, aI cI 12 af), (pb, aI cI 12 bf), (pq, aI cI 12 zf), (g0, .inr (5, [.int (zi co), .ref ps, .int (zi ru), .ref pk, .ref pa, .ref pb, .ref pq, .int (zi we), .int (zi wr), .ref pw, .int (zi ty), .ref pt])), (ps, aI cI 10 (zup sf sl.toNat nn))] H := hP
            have hD : va_D A [(pk, aI cI 12 kf), (pa, aI cI 12 af), (pb, aI cI 12 bf), (pq, aI cI 12 zf), (g0, .inr (5, [.int (zi co), .ref ps, .int (zi ru), .ref pk, .ref pa, .ref pb, .ref pq, .int (zi we), .int (zi wr), .ref pw, .int (zi ty), .ref pt])), (ps, aI cI 10 (zup sf sl.toNat nn))] := hD
            have hP9 := hP.sub (ws' := [(g0, .inr (5, [.int (zi co), .ref ps, .int (zi ru), .ref pk, .ref pa, .ref pb, .ref pq, .int (zi we), .int (zi wr), .ref pw, .int (zi ty), .ref pt])), (ps, aI cI 10 (zup sf sl.toNat nn)), (pk, aI cI 12 kf), (pa, aI cI 12 af), (pb, aI cI 12 bf), (pq, aI cI 12 zf)]) [4, 5, 0, 1, 2, 3] rfl
            have hD9 := hD.sub (ws' := [(g0, .inr (5, [.int (zi co), .ref ps, .int (zi ru), .ref pk, .ref pa, .ref pb, .ref pq, .int (zi we), .int (zi wr), .ref pw, .int (zi ty), .ref pt])), (ps, aI cI 10 (zup sf sl.toNat nn)), (pk, aI cI 12 kf), (pa, aI cI 12 af), (pb, aI cI 12 bf), (pq, aI cI 12 zf)]) [4, 5, 0, 1, 2, 3] (by decide) rfl
            have hp9 : co = 0 ∧ (zup sf sl.toNat nn) = zup sf sl.toNat rr := by
              exact ⟨by omega, by rw [show nn = rr from by omega]⟩
            exact W.iret (v := zi nn) hx hb hr (fun t ht hW => ⟨⟨zi nn, (co, (zup sf sl.toNat nn)), rfl, ⟨congrArg zi (by omega), hp9⟩, by rw [ht]; exact hP9, va_K.moved hW.alike hK, hD9⟩, hS.F ht⟩) hS.2.2 dX5_moveWork_159
          · skip
            exact absurd True.intro (by omega)
        · skip
          first | have hin := b_X5_in (nn + (-1)) 0 3652058 (by omega) (by omega) (by omega) | skip
          refine lv_iload_n hx hb dX5_moveWork_77 rfl (lv_at hl 0 rfl) ?_
          refine lv_iload hx hb dX5_moveWork_78 (lv_at hl 1 rfl) ?_
          refine zw_if_le (tgt := 87) hx hb dX5_moveWork_80 (by decide) ⟨by omega, by omega⟩ (fun h7 => ?_) (fun h7 => ?_)
          · skip
            refine zw_iconst hx hb dX5_moveWork_87 ?_
            refine zw_iadd hx hb dX5_moveWork_88 ?_
            refine zw_top (fun x8 ex8 => ?_)
            refine lv_istore_n (lv' := [(3, .int (zi x8)), (4, .int (zi lft)), (0, .ref g0), (1, .int (zi sl)), (2, .int (zi many))]) hx hb dX5_moveWork_89 rfl hl (by decide) rfl (fun ls hl => ?_)
            refine lv_aload_n hx hb dX5_moveWork_90 rfl (lv_at hl 2 rfl) ?_
            refine lv_iload_n hx hb dX5_moveWork_91 rfl (lv_at hl 0 rfl) ?_
            refine zw_iconst hx hb dX5_moveWork_92 ?_
            refine zw_ldc (n := 3652058) hx hb hown (hts (.constant RX5 89 (3652058)) (by decide +kernel)) dX5_moveWork_93 (by decide) ?_
            have hh9 := c_X5_in l x8 0 3652058 (by omega) (by omega) (by omega)
            refine vp_callSi (va_Run.run (va_runS (As := [.int (zi x8), .int (zi 0), .int (zi 3652058)]) (rest := [.ref g0]) ⟨hx, hb, hml, hown, hts⟩ hh9 (va_cwS 3 hts gX5_moveWork_X5_in rfl rfl rfl (by decide +kernel) ⟨Nat.le_of_ble_eq_true rfl, Nat.le_of_ble_eq_true rfl⟩) ⟨fun a U g mk q => q, fun U hU hW => ⟨rfl, trivial⟩⟩ rfl rfl hl.1 rfl (lv_room (Nat.le_of_ble_eq_true rfl)) dX5_moveWork_95 ⟨Nat.zero_le _, Nat.zero_le _⟩)) (fun r9 (hr9 : r9 = zi (f_X5_in x8 0 3652058)) => ?_)
            subst hr9
            have hf9 := b_X5_in x8 0 3652058 (by omega) (by omega) (by omega)
            refine zw_if_eq (tgt := 105) hx hb dX5_moveWork_98 (by decide) ⟨by omega, by omega⟩ (fun h10 => ?_) (fun h10 => ?_)
            · skip
              have hzx := zmv_x (wkX5 we kf af bf zf ru) (-1) fu nn (-lft) (by omega) (by omega)
              have hzy := hi1 (by omega)
              refine zw_iconst hx hb dX5_moveWork_105 ?_
              refine va_put (D := (dC, dI)) (ci := 5) (v := .int (zi 4)) (ty := .int) (C := RX5) (T := TX5) (N := 12) hx hb hts (by decide +kernel) tyX5 tyX5_ok nmX5 hown hK hP hD hS 0 rfl rfl 0 (by decide) (hts (.fieldLink RX5 35 "CivilDaysModel" "code" "I") (by decide +kernel)) (fun _ h9 => h9) rfl (by decide +kernel) rfl rfl (Nat.le_of_ble_eq_true rfl) dX5_moveWork_106 (fun H locs hP hD hS => ?_)
              have hP : va_P (dC, dI) vwCl [(g0, .inr (5, [.int (zi 4), .ref ps, .int (zi ru), .ref pk, .ref pa, .ref pb, .ref pq, .int (zi we), .int (zi wr), .ref pw, .int (zi ty), .ref pt])), (ps, aI cI 10 sf), (pk, aI cI 12 kf), (pa, aI cI 12 af), (pb, aI cI 12 bf), (pq, aI cI 12 zf)] H := hP
              have hD : va_D A [(g0, .inr (5, [.int (zi 4), .ref ps, .int (zi ru), .ref pk, .ref pa, .ref pb, .ref pq, .int (zi we), .int (zi wr), .ref pw, .int (zi ty), .ref pt])), (ps, aI cI 10 sf), (pk, aI cI 12 kf), (pa, aI cI 12 af), (pb, aI cI 12 bf), (pq, aI cI 12 zf)] := hD
              refine lv_aload_n hx hb dX5_moveWork_109 rfl (lv_at hl 2 rfl) ?_
              refine va_get (D := (dC, dI)) (ci := 5) (v := .int (zi 4)) (C := RX5) (T := TX5) (N := 12) hx hb hts (by decide +kernel) hown hK hP 0 rfl rfl 0 (by decide) (hts (.fieldLink RX5 35 "CivilDaysModel" "code" "I") (by decide +kernel)) (fun _ h9 => h9) rfl dX5_moveWork_110 ?_
              refine zw_if_ne (tgt := 65) hx hb dX5_moveWork_113 (by decide) ⟨by omega, by omega⟩ (fun h11 => ?_) (fun h11 => ?_)
              · skip
                subst ex8
                have hP9 := hP.sub (ws' := [(g0, .inr (5, [.int (zi 4), .ref ps, .int (zi ru), .ref pk, .ref pa, .ref pb, .ref pq, .int (zi we), .int (zi wr), .ref pw, .int (zi ty), .ref pt])), (ps, aI cI 10 sf), (pk, aI cI 12 kf), (pa, aI cI 12 af), (pb, aI cI 12 bf), (pq, aI cI 12 zf)]) [0, 1, 2, 3, 4, 5] rfl
                have hD9 := hD.sub (ws' := [(g0, .inr (5, [.int (zi 4), .ref ps, .int (zi ru), .ref pk, .ref pa, .ref pb, .ref pq, .int (zi we), .int (zi wr), .ref pw, .int (zi ty), .ref pt])), (ps, aI cI 10 sf), (pk, aI cI 12 kf), (pa, aI cI 12 af), (pb, aI cI 12 bf), (pq, aI cI 12 zf)]) [0, 1, 2, 3, 4, 5] (by decide) rfl
                exact ih (nn + (-1)) lft 4 (by omega) (by first | (intro h9; exact absurd h9 (by omega)) | (intro h9; exact hp7) | (intro h9; rw [← hi1 (by omega)]; symm; first | (apply zmv_s1 <;> omega) | (apply zmv_s0 <;> omega))) (by omega) (by omega) ls _ _ (lv_sub hl [0, 1, 2, 3, 4] rfl) hP9 hD9 hS
              · skip
                exact absurd True.intro (by omega)
            · skip
              skip
              refine zw_iconst hx hb dX5_moveWork_101 ?_
              refine lv_goto (tgt := 106) hx hb dX5_moveWork_102 (by decide) ?_
              refine va_put (D := (dC, dI)) (ci := 5) (v := .int (zi 0)) (ty := .int) (C := RX5) (T := TX5) (N := 12) hx hb hts (by decide +kernel) tyX5 tyX5_ok nmX5 hown hK hP hD hS 0 rfl rfl 0 (by decide) (hts (.fieldLink RX5 35 "CivilDaysModel" "code" "I") (by decide +kernel)) (fun _ h9 => h9) rfl (by decide +kernel) rfl rfl (Nat.le_of_ble_eq_true rfl) dX5_moveWork_106 (fun H locs hP hD hS => ?_)
              have hP : va_P (dC, dI) vwCl [(g0, .inr (5, [.int (zi 0), .ref ps, .int (zi ru), .ref pk, .ref pa, .ref pb, .ref pq, .int (zi we), .int (zi wr), .ref pw, .int (zi ty), .ref pt])), (ps, aI cI 10 sf), (pk, aI cI 12 kf), (pa, aI cI 12 af), (pb, aI cI 12 bf), (pq, aI cI 12 zf)] H := hP
              have hD : va_D A [(g0, .inr (5, [.int (zi 0), .ref ps, .int (zi ru), .ref pk, .ref pa, .ref pb, .ref pq, .int (zi we), .int (zi wr), .ref pw, .int (zi ty), .ref pt])), (ps, aI cI 10 sf), (pk, aI cI 12 kf), (pa, aI cI 12 af), (pb, aI cI 12 bf), (pq, aI cI 12 zf)] := hD
              refine lv_aload_n hx hb dX5_moveWork_109 rfl (lv_at hl 2 rfl) ?_
              refine va_get (D := (dC, dI)) (ci := 5) (v := .int (zi 0)) (C := RX5) (T := TX5) (N := 12) hx hb hts (by decide +kernel) hown hK hP 0 rfl rfl 0 (by decide) (hts (.fieldLink RX5 35 "CivilDaysModel" "code" "I") (by decide +kernel)) (fun _ h9 => h9) rfl dX5_moveWork_110 ?_
              refine zw_if_ne (tgt := 65) hx hb dX5_moveWork_113 (by decide) ⟨by omega, by omega⟩ (fun h12 => ?_) (fun h12 => ?_)
              · skip
                exact absurd True.intro (by omega)
              · skip
                refine lv_aload_n hx hb dX5_moveWork_116 rfl (lv_at hl 2 rfl) ?_
                refine lv_iload_n hx hb dX5_moveWork_117 rfl (lv_at hl 0 rfl) ?_
                have hh13 := c_X5_works l dC dI cI g0 ps pk pa pb pq pw pt 0 ru we wr ty kf af bf zf x8 (by omega) (by omega) (by first | exact hpr | exact hp5 | exact hp3) (by omega)
                have hPc := hP.sub (ws' := [(g0, .inr (5, [.int (zi 0), .ref ps, .int (zi ru), .ref pk, .ref pa, .ref pb, .ref pq, .int (zi we), .int (zi wr), .ref pw, .int (zi ty), .ref pt])), (pk, aI cI 12 kf), (pa, aI cI 12 af), (pb, aI cI 12 bf), (pq, aI cI 12 zf)]) [0, 2, 3, 4, 5] rfl
                have hKc : va_K (dC, dI) vwCl [(cI, .int)] s := hK
                refine vp_callSi (va_Run.run (va_runV (As := [.int (zi x8)]) (rest := []) ⟨hx, hb, hml, hown, hts⟩ hh13 (cwV 1 hts gX5_moveWork_X5_works rfl rfl rfl (by decide +kernel) ⟨Nat.le_of_ble_eq_true rfl, Nat.le_of_ble_eq_true rfl⟩) ⟨zPr.blind _ _ _ _, va_recv hKc hPc (ci := 5) (q0 := 0) rfl rfl, fun U hU hW => ⟨rfl, by rw [hU]; exact hPc, va_K.moved hW.alike hKc⟩⟩ rfl rfl hl.1 rfl (lv_room (Nat.le_of_ble_eq_true rfl)) dX5_moveWork_118 ⟨Nat.le_of_ble_eq_true rfl, Nat.le_of_ble_eq_true rfl⟩)) (fun r13 (hr13 : r13 = zi (wkX5 we kf af bf zf ru x8)) => ?_)
                subst hr13
                have hf13_0 := wkX5_s we kf af bf zf ru x8
                have hwk := wkX5_s we kf af bf zf ru (nn + (-1))
                refine zw_if_eq (tgt := 65) hx hb dX5_moveWork_121 (by decide) ⟨by omega, by omega⟩ (fun h14 => ?_) (fun h14 => ?_)
                · skip
                  subst ex8
                  have hP9 := hP.sub (ws' := [(g0, .inr (5, [.int (zi 0), .ref ps, .int (zi ru), .ref pk, .ref pa, .ref pb, .ref pq, .int (zi we), .int (zi wr), .ref pw, .int (zi ty), .ref pt])), (ps, aI cI 10 sf), (pk, aI cI 12 kf), (pa, aI cI 12 af), (pb, aI cI 12 bf), (pq, aI cI 12 zf)]) [0, 1, 2, 3, 4, 5] rfl
                  have hD9 := hD.sub (ws' := [(g0, .inr (5, [.int (zi 0), .ref ps, .int (zi ru), .ref pk, .ref pa, .ref pb, .ref pq, .int (zi we), .int (zi wr), .ref pw, .int (zi ty), .ref pt])), (ps, aI cI 10 sf), (pk, aI cI 12 kf), (pa, aI cI 12 af), (pb, aI cI 12 bf), (pq, aI cI 12 zf)]) [0, 1, 2, 3, 4, 5] (by decide) rfl
                  exact ih (nn + (-1)) lft 0 (by omega) (by first | (intro h9; exact absurd h9 (by omega)) | (intro h9; exact hp7) | (intro h9; rw [← hi1 (by omega)]; symm; first | (apply zmv_s1 <;> omega) | (apply zmv_s0 <;> omega))) (by omega) (by omega) ls _ _ (lv_sub hl [0, 1, 2, 3, 4] rfl) hP9 hD9 hS
                · skip
                  refine lv_iload hx hb dX5_moveWork_124 (lv_at hl 1 rfl) ?_
                  refine lv_iload hx hb dX5_moveWork_126 (lv_at hl 1 rfl) ?_
                  refine zw_if_le (tgt := 135) hx hb dX5_moveWork_128 (by decide) ⟨by omega, by omega⟩ (fun h15 => ?_) (fun h15 => ?_)
                  · skip
                    refine zw_iconst hx hb dX5_moveWork_135 ?_
                    refine zw_iadd hx hb dX5_moveWork_136 ?_
                    refine zw_top (fun x16 ex16 => ?_)
                    refine lv_istore (lv' := [(4, .int (zi x16)), (3, .int (zi x8)), (0, .ref g0), (1, .int (zi sl)), (2, .int (zi many))]) hx hb dX5_moveWork_137 hl (by decide) rfl (fun ls hl => ?_)
                    refine lv_goto (tgt := 65) hx hb dX5_moveWork_139 (by decide) ?_
                    subst ex8 ex16
                    have hP9 := hP.sub (ws' := [(g0, .inr (5, [.int (zi 0), .ref ps, .int (zi ru), .ref pk, .ref pa, .ref pb, .ref pq, .int (zi we), .int (zi wr), .ref pw, .int (zi ty), .ref pt])), (ps, aI cI 10 sf), (pk, aI cI 12 kf), (pa, aI cI 12 af), (pb, aI cI 12 bf), (pq, aI cI 12 zf)]) [0, 1, 2, 3, 4, 5] rfl
                    have hD9 := hD.sub (ws' := [(g0, .inr (5, [.int (zi 0), .ref ps, .int (zi ru), .ref pk, .ref pa, .ref pb, .ref pq, .int (zi we), .int (zi wr), .ref pw, .int (zi ty), .ref pt])), (ps, aI cI 10 sf), (pk, aI cI 12 kf), (pa, aI cI 12 af), (pb, aI cI 12 bf), (pq, aI cI 12 zf)]) [0, 1, 2, 3, 4, 5] (by decide) rfl
                    exact ih (nn + (-1)) (lft + 1) 0 (by omega) (by first | (intro h9; exact absurd h9 (by omega)) | (intro h9; exact hp7) | (intro h9; rw [← hi1 (by omega)]; symm; first | (apply zmv_s1 <;> omega) | (apply zmv_s0 <;> omega))) (by omega) (by omega) ls _ _ (lv_sub hl [1, 0, 2, 3, 4] rfl) hP9 hD9 hS
                  · skip
                    exact absurd True.intro (by omega)
          · skip
            exact absurd True.intro (by omega)
  have hl := lv_entry ([.ref g0, .int (zi sl), .int (zi many)]) (n := 5) (Nat.le_of_ble_eq_true rfl)
  rw [lg_entry_eq]
  generalize (lg_sl ([.ref g0, .int (zi sl), .int (zi many)]) ++ List.replicate (5 - (lg_sl ([.ref g0, .int (zi sl), .int (zi many)])).length) Slot.unset).toArray = ls at hl ⊢
  have hl : lv_has ls 5 [(0, .ref g0), (1, .int (zi sl)), (2, .int (zi many))] := hl
  have hpr := hp3
  refine lv_aload_n hx hb dX5_moveWork_0 rfl (lv_at hl 0 rfl) ?_
  refine lv_iload_n hx hb dX5_moveWork_1 rfl (lv_at hl 1 rfl) ?_
  have hh17 := c_X5_isSlot l sl (by omega)
  refine vp_callSi (va_Run.run (va_runS (As := [.int (zi sl)]) (rest := [.ref g0]) ⟨hx, hb, hml, hown, hts⟩ hh17 (va_cwS 1 hts gX5_moveWork_X5_isSlot rfl rfl rfl (by decide +kernel) ⟨Nat.le_of_ble_eq_true rfl, Nat.le_of_ble_eq_true rfl⟩) ⟨fun a U g mk q => q, fun U hU hW => ⟨rfl, trivial⟩⟩ rfl rfl hl.1 rfl (lv_room (Nat.le_of_ble_eq_true rfl)) dX5_moveWork_2 ⟨Nat.zero_le _, Nat.zero_le _⟩)) (fun r17 (hr17 : r17 = zi (f_X5_isSlot sl)) => ?_)
  subst hr17
  have hf17 := b_X5_isSlot sl (by omega)
  refine zw_if_ne (tgt := 12) hx hb dX5_moveWork_5 (by decide) ⟨by omega, by omega⟩ (fun h18 => ?_) (fun h18 => ?_)
  · skip
    refine lv_aload_n hx hb dX5_moveWork_12 rfl (lv_at hl 0 rfl) ?_
    refine va_get (D := (dC, dI)) (ci := 5) (v := .ref ps) (C := RX5) (T := TX5) (N := 12) hx hb hts (by decide +kernel) hown hK hP 0 rfl rfl 1 (by decide) (hts (.fieldLink RX5 7 "CivilDaysModel" "slots" "[I") (by decide +kernel)) (fun _ h9 => h9) rfl dX5_moveWork_13 ?_
    refine lv_iload_n hx hb dX5_moveWork_16 rfl (lv_at hl 1 rfl) ?_
    refine zw_iald hx hb hK hP 1 0 rfl rfl (by omega) (by omega) ⟨by omega, by omega⟩ dX5_moveWork_17 ?_
    refine zw_if_ge (tgt := 25) hx hb dX5_moveWork_18 (by decide) ⟨by omega, by omega⟩ (fun h19 => ?_) (fun h19 => ?_)
    · skip
      refine lv_iload_n hx hb dX5_moveWork_25 rfl (lv_at hl 2 rfl) ?_
      refine zw_sipush hx hb dX5_moveWork_26 (by decide) ?_
      refine zw_sipush hx hb dX5_moveWork_29 (by decide) ?_
      have hh20 := c_X5_in l many (-1000) 1000 (by omega) (by omega) (by omega)
      refine vp_callSi (va_Run.run (va_runS (As := [.int (zi many), .int (zi (-1000)), .int (zi 1000)]) (rest := [.ref g0]) ⟨hx, hb, hml, hown, hts⟩ hh20 (va_cwS 3 hts gX5_moveWork_X5_in rfl rfl rfl (by decide +kernel) ⟨Nat.le_of_ble_eq_true rfl, Nat.le_of_ble_eq_true rfl⟩) ⟨fun a U g mk q => q, fun U hU hW => ⟨rfl, trivial⟩⟩ rfl rfl hl.1 rfl (lv_room (Nat.le_of_ble_eq_true rfl)) dX5_moveWork_32 ⟨Nat.zero_le _, Nat.zero_le _⟩)) (fun r20 (hr20 : r20 = zi (f_X5_in many (-1000) 1000)) => ?_)
      subst hr20
      have hf20 := b_X5_in many (-1000) 1000 (by omega) (by omega) (by omega)
      refine zw_if_ne (tgt := 42) hx hb dX5_moveWork_35 (by decide) ⟨by omega, by omega⟩ (fun h21 => ?_) (fun h21 => ?_)
      · skip
        refine zw_iconst hx hb dX5_moveWork_42 ?_
        refine va_put (D := (dC, dI)) (ci := 5) (v := .int (zi 0)) (ty := .int) (C := RX5) (T := TX5) (N := 12) hx hb hts (by decide +kernel) tyX5 tyX5_ok nmX5 hown hK hP hD hS 0 rfl rfl 0 (by decide) (hts (.fieldLink RX5 35 "CivilDaysModel" "code" "I") (by decide +kernel)) (fun _ h9 => h9) rfl (by decide +kernel) rfl rfl (Nat.le_of_ble_eq_true rfl) dX5_moveWork_43 (fun H locs hP hD hS => ?_)
        have hP : va_P (dC, dI) vwCl [(g0, .inr (5, [.int (zi 0), .ref ps, .int (zi ru), .ref pk, .ref pa, .ref pb, .ref pq, .int (zi we), .int (zi wr), .ref pw, .int (zi ty), .ref pt])), (ps, aI cI 10 sf), (pk, aI cI 12 kf), (pa, aI cI 12 af), (pb, aI cI 12 bf), (pq, aI cI 12 zf)] H := hP
        have hD : va_D A [(g0, .inr (5, [.int (zi 0), .ref ps, .int (zi ru), .ref pk, .ref pa, .ref pb, .ref pq, .int (zi we), .int (zi wr), .ref pw, .int (zi ty), .ref pt])), (ps, aI cI 10 sf), (pk, aI cI 12 kf), (pa, aI cI 12 af), (pb, aI cI 12 bf), (pq, aI cI 12 zf)] := hD
        refine lv_aload_n hx hb dX5_moveWork_46 rfl (lv_at hl 0 rfl) ?_
        refine va_get (D := (dC, dI)) (ci := 5) (v := .int (zi 0)) (C := RX5) (T := TX5) (N := 12) hx hb hts (by decide +kernel) hown hK hP 0 rfl rfl 0 (by decide) (hts (.fieldLink RX5 35 "CivilDaysModel" "code" "I") (by decide +kernel)) (fun _ h9 => h9) rfl dX5_moveWork_47 ?_
        refine zw_if_le (tgt := 55) hx hb dX5_moveWork_50 (by decide) ⟨by omega, by omega⟩ (fun h22 => ?_) (fun h22 => ?_)
        · skip
          refine lv_aload_n hx hb dX5_moveWork_55 rfl (lv_at hl 0 rfl) ?_
          refine va_get (D := (dC, dI)) (ci := 5) (v := .ref ps) (C := RX5) (T := TX5) (N := 12) hx hb hts (by decide +kernel) hown hK hP 0 rfl rfl 1 (by decide) (hts (.fieldLink RX5 7 "CivilDaysModel" "slots" "[I") (by decide +kernel)) (fun _ h9 => h9) rfl dX5_moveWork_56 ?_
          refine lv_iload_n hx hb dX5_moveWork_59 rfl (lv_at hl 1 rfl) ?_
          refine zw_iald hx hb hK hP 1 0 rfl rfl (by omega) (by omega) ⟨by omega, by omega⟩ dX5_moveWork_60 ?_
          refine zw_top (fun x23 ex23 => ?_)
          refine lv_istore_n (lv' := [(3, .int (zi x23)), (0, .ref g0), (1, .int (zi sl)), (2, .int (zi many))]) hx hb dX5_moveWork_61 rfl hl (by decide) rfl (fun ls hl => ?_)
          refine lv_iload_n hx hb dX5_moveWork_62 rfl (lv_at hl 3 rfl) ?_
          refine lv_istore (lv' := [(4, .int (zi many)), (3, .int (zi x23)), (0, .ref g0), (1, .int (zi sl)), (2, .int (zi many))]) hx hb dX5_moveWork_63 hl (by decide) rfl (fun ls hl => ?_)
          subst ex23
          have hP9 := hP.sub (ws' := [(g0, .inr (5, [.int (zi 0), .ref ps, .int (zi ru), .ref pk, .ref pa, .ref pb, .ref pq, .int (zi we), .int (zi wr), .ref pw, .int (zi ty), .ref pt])), (ps, aI cI 10 sf), (pk, aI cI 12 kf), (pa, aI cI 12 af), (pb, aI cI 12 bf), (pq, aI cI 12 zf)]) [0, 1, 2, 3, 4, 5] rfl
          have hD9 := hD.sub (ws' := [(g0, .inr (5, [.int (zi 0), .ref ps, .int (zi ru), .ref pk, .ref pa, .ref pb, .ref pq, .int (zi we), .int (zi wr), .ref pw, .int (zi ty), .ref pt])), (ps, aI cI 10 sf), (pk, aI cI 12 kf), (pa, aI cI 12 af), (pb, aI cI 12 bf), (pq, aI cI 12 zf)]) [0, 1, 2, 3, 4, 5] (by decide) rfl
          exact loop65 (fz) (sf sl.toNat) many 0 (by omega) (by first | (intro h9; exact absurd h9 (by omega)) | (intro h9; exact hp7) | (intro h9; rw [← hi1 (by omega)]; symm; first | (apply zmv_s1 <;> omega) | (apply zmv_s0 <;> omega))) (by omega) (by omega) ls _ _ (lv_sub hl [1, 0, 2, 3, 4] rfl) hP9 hD9 hS
        · skip
          exact absurd True.intro (by omega)
      · skip
        exact absurd True.intro (by omega)
    · skip
      exact absurd True.intro (by omega)
  · skip
    exact absurd True.intro (by omega)

set_option maxHeartbeats 4000000 in
set_option maxRecDepth 100000 in
theorem c_X5_moveWork_n4 (l : Launch)  (dC : Nat → ClassId) (dI : Nat → Nat → Nat) (cI : ClassId) (g0 : Nat) (ps : Nat) (pk : Nat) (pa : Nat) (pb : Nat) (pq : Nat) (pw : Nat) (pt : Nat) (co : Int) (ru : Int) (we : Int) (wr : Int) (ty : Int) (sf : Nat → Int) (kf : Nat → Int) (af : Nat → Int) (bf : Nat → Int) (zf : Nat → Int) (fz : Nat) (rr : Int) (sl : Int) (many : Int) (sz : Nat) (hp0 : 0 ≤ sl ∧ sl ≤ 9) (hp1 : 0 ≤ (sf sl.toNat) ∧ (sf sl.toNat) ≤ 3652058) (hp2 : 0 ≤ ru ∧ ru ≤ 12) (hp3 : ∀ j : Nat, (j : Int) < ru → (0 ≤ (kf j) ∧ (kf j) ≤ 3) ∧ ((kf j) = 1 ∧ -100 ≤ (af j) ∧ (af j) ≤ 100 ∨ (kf j) ≠ 1 ∧ 1 ≤ (af j) ∧ (af j) ≤ 12) ∧ ((kf j) = 1 ∨ (kf j) = 2 ∧ 1 ≤ (bf j) ∧ (bf j) ≤ 7 ∨ (kf j) ≠ 2 ∧ 1 ≤ (bf j) ∧ (bf j) ≤ 31) ∧ ((kf j) ≠ 2 ∨ (zf j) = -1 ∨ 1 ≤ (zf j) ∧ (zf j) ≤ 4)) (hp4 : 0 ≤ we ∧ we ≤ 127) (hp5 : -1000 ≤ many ∧ many ≤ 1000 ∧ many < 0) (hp6 : 4000000 ≤ fz) (hp7 : zmv (wkX5 we kf af bf zf ru) (-1) fz (sf sl.toNat) (-many) = rr) (hp8 : rr = -1) : Met l yX5_moveWork wsX5_moveWork ({ frames := 7, cells := 0, slots := 0, locals := 159 }) (zPw (dC, dI) [(cI, .int)] sz [.ref g0, .int (zi sl), .int (zi many)] [(g0, .inr (5, [.int (zi co), .ref ps, .int (zi ru), .ref pk, .ref pa, .ref pb, .ref pq, .int (zi we), .int (zi wr), .ref pw, .int (zi ty), .ref pt])), (ps, aI cI 10 sf), (pk, aI cI 12 kf), (pa, aI cI 12 af), (pb, aI cI 12 bf), (pq, aI cI 12 zf)]) (va_Qi (fun (r : Int32) (u : (Int)) => r = zi 0 ∧ (u = 4)) (fun (u : (Int)) => zB (dC, dI) [(cI, .int)] (va_A [(g0, .inr (5, [.int (zi co), .ref ps, .int (zi ru), .ref pk, .ref pa, .ref pb, .ref pq, .int (zi we), .int (zi wr), .ref pw, .int (zi ty), .ref pt])), (ps, aI cI 10 sf), (pk, aI cI 12 kf), (pa, aI cI 12 af), (pb, aI cI 12 bf), (pq, aI cI 12 zf)] sz) [(g0, .inr (5, [.int (zi u), .ref ps, .int (zi ru), .ref pk, .ref pa, .ref pb, .ref pq, .int (zi we), .int (zi wr), .ref pw, .int (zi ty), .ref pt])), (ps, aI cI 10 sf), (pk, aI cI 12 kf), (pa, aI cI 12 af), (pb, aI cI 12 bf), (pq, aI cI 12 zf)] ()) (va_A [(g0, .inr (5, [.int (zi co), .ref ps, .int (zi ru), .ref pk, .ref pa, .ref pb, .ref pq, .int (zi we), .int (zi wr), .ref pw, .int (zi ty), .ref pt])), (ps, aI cI 10 sf), (pk, aI cI 12 kf), (pa, aI cI 12 af), (pb, aI cI 12 bf), (pq, aI cI 12 zf)] sz)) 0 0 (va_A [(g0, .inr (5, [.int (zi co), .ref ps, .int (zi ru), .ref pk, .ref pa, .ref pb, .ref pq, .int (zi we), .int (zi wr), .ref pw, .int (zi ty), .ref pt])), (ps, aI cI 10 sf), (pk, aI cI 12 kf), (pa, aI cI 12 af), (pb, aI cI 12 bf), (pq, aI cI 12 zf)] sz) := by
  refine Met.ofW (cc := cX5_moveWork) (maxL := 5) (ret := (some .int)) (by decide) rfl ?_
  intro p e s m args below meth c s₁ B hml hv
  obtain ⟨rfl, hsz, hP, hK, hD0⟩ := hv
  have hx := B.exec
  have hb := B.bytes
  have hr := B.returns
  have hts := atoms_spec (ws := wsX5_moveWork) B.pre
  have hown : s.vm.findClass RX5 = some m.cls := findClass_of_methodNamed B.named
  have hlocks := B.notSynchronized
  subst hsz
  have hD := hD0.self (sz := s.heap.size)
  generalize hAe : va_A [(g0, .inr (5, [.int (zi co), .ref ps, .int (zi ru), .ref pk, .ref pa, .ref pb, .ref pq, .int (zi we), .int (zi wr), .ref pw, .int (zi ty), .ref pt])), (ps, aI cI 10 sf), (pk, aI cI 12 kf), (pa, aI cI 12 af), (pb, aI cI 12 bf), (pq, aI cI 12 zf)] s.heap.size = A at hD ⊢
  have hA : ∀ q : Nat, s.heap.size ≤ q → A q := fun q h => by rw [← hAe]; exact Or.inr h
  have hS : va_S A s.heap s.heap [] := va_S.rf
  have hP : va_P (dC, dI) vwCl [(g0, .inr (5, [.int (zi co), .ref ps, .int (zi ru), .ref pk, .ref pa, .ref pb, .ref pq, .int (zi we), .int (zi wr), .ref pw, .int (zi ty), .ref pt])), (ps, aI cI 10 sf), (pk, aI cI 12 kf), (pa, aI cI 12 af), (pb, aI cI 12 bf), (pq, aI cI 12 zf)] s.heap := hP
  have loop65 : ∀ (fu : Nat) (nn : Int) (lft : Int) (co : Int), (co = 0 ∧ 0 ≤ nn ∧ nn ≤ 3652058 ∨ co = 4 ∧ rr = -1 ∧ 0 < (-lft)) → (co = 0 → zmv (wkX5 we kf af bf zf ru) (-1) fu nn (-lft) = rr) → (-2 ≤ nn ∧ nn ≤ 3652060 ∧ 0 ≤ (-lft) ∧ (-lft) ≤ 1000) → (co = 0 ∧ nn + 2 < fu ∨ co = 4 ∧ 0 < fu) → ∀ (ls : Array Slot) (H : Heap) (locs : List Loc), lv_has ls 5 [(3, .int (zi nn)), (4, .int (zi lft)), (0, .ref g0), (1, .int (zi sl)), (2, .int (zi many))] → va_P (dC, dI) vwCl [(g0, .inr (5, [.int (zi co), .ref ps, .int (zi ru), .ref pk, .ref pa, .ref pb, .ref pq, .int (zi we), .int (zi wr), .ref pw, .int (zi ty), .ref pt])), (ps, aI cI 10 sf), (pk, aI cI 12 kf), (pa, aI cI 12 af), (pb, aI cI 12 bf), (pq, aI cI 12 zf)] H → va_D A [(g0, .inr (5, [.int (zi co), .ref ps, .int (zi ru), .ref pk, .ref pa, .ref pb, .ref pq, .int (zi we), .int (zi wr), .ref pw, .int (zi ty), .ref pt])), (ps, aI cI 10 sf), (pk, aI cI 12 kf), (pa, aI cI 12 af), (pb, aI cI 12 bf), (pq, aI cI 12 zf)] → va_S A s.heap H locs → W p l e (headSpec wsX5_moveWork ({ frames := 7, cells := 0, slots := 0, locals := 159 })).room s m ([.ref g0, .int (zi sl), .int (zi many)] : List Value).toArray below meth c H locs 0 0 (MQ below (va_Qi (fun (r : Int32) (u : (Int)) => r = zi 0 ∧ (u = 4)) (fun (u : (Int)) => zB (dC, dI) [(cI, .int)] A [(g0, .inr (5, [.int (zi u), .ref ps, .int (zi ru), .ref pk, .ref pa, .ref pb, .ref pq, .int (zi we), .int (zi wr), .ref pw, .int (zi ty), .ref pt])), (ps, aI cI 10 sf), (pk, aI cI 12 kf), (pa, aI cI 12 af), (pb, aI cI 12 bf), (pq, aI cI 12 zf)] ()) A) ([.ref g0, .int (zi sl), .int (zi many)] : List Value).toArray s 0 0 A) (F0 m 65 ls []) := by
    intro fu
    induction fu with
    | zero =>
      intro nn lft co hi0 hi1 hi2 hfu ls H locs hl hP hD hS
      exact absurd hfu (by omega)
    | succ fu ih =>
      intro nn lft co hi0 hi1 hi2 hfu ls H locs hl hP hD hS
      have hP : va_P (dC, dI) vwCl [(g0, .inr (5, [.int (zi co), .ref ps, .int (zi ru), .ref pk, .ref pa, .ref pb, .ref pq, .int (zi we), .int (zi wr), .ref pw, .int (zi ty), .ref pt])), (ps, aI cI 10 sf), (pk, aI cI 12 kf), (pa, aI cI 12 af), (pb, aI cI 12 bf), (pq, aI cI 12 zf)] H := hP
      have hD : va_D A [(g0, .inr (5, [.int (zi co), .ref ps, .int (zi ru), .ref pk, .ref pa, .ref pb, .ref pq, .int (zi we), .int (zi wr), .ref pw, .int (zi ty), .ref pt])), (ps, aI cI 10 sf), (pk, aI cI 12 kf), (pa, aI cI 12 af), (pb, aI cI 12 bf), (pq, aI cI 12 zf)] := hD
      refine lv_iload hx hb dX5_moveWork_65 (lv_at hl 1 rfl) ?_
      refine zw_if_eq (tgt := 142) hx hb dX5_moveWork_67 (by decide) ⟨by omega, by omega⟩ (fun h1 => ?_) (fun h1 => ?_)
      · skip
        first | have hz0 := zmv_0 (wkX5 we kf af bf zf ru) (-1) fu nn (-lft) (by omega) | skip
        first | have hzy := hi1 (by omega) | skip
        refine lv_aload_n hx hb dX5_moveWork_142 rfl (lv_at hl 2 rfl) ?_
        refine va_get (D := (dC, dI)) (ci := 5) (v := .int (zi co)) (C := RX5) (T := TX5) (N := 12) hx hb hts (by decide +kernel) hown hK hP 0 rfl rfl 0 (by decide) (hts (.fieldLink RX5 35 "CivilDaysModel" "code" "I") (by decide +kernel)) (fun _ h9 => h9) rfl dX5_moveWork_143 ?_
        refine zw_if_le (tgt := 153) hx hb dX5_moveWork_146 (by decide) ⟨by omega, by omega⟩ (fun h2 => ?_) (fun h2 => ?_)
        · skip
          exact absurd True.intro (by omega)
        · skip
          refine zw_iconst hx hb dX5_moveWork_149 ?_
          refine lv_goto (tgt := 159) hx hb dX5_moveWork_150 (by decide) ?_
          have hP9 := hP.sub (ws' := [(g0, .inr (5, [.int (zi co), .ref ps, .int (zi ru), .ref pk, .ref pa, .ref pb, .ref pq, .int (zi we), .int (zi wr), .ref pw, .int (zi ty), .ref pt])), (ps, aI cI 10 sf), (pk, aI cI 12 kf), (pa, aI cI 12 af), (pb, aI cI 12 bf), (pq, aI cI 12 zf)]) [0, 1, 2, 3, 4, 5] rfl
          have hD9 := hD.sub (ws' := [(g0, .inr (5, [.int (zi co), .ref ps, .int (zi ru), .ref pk, .ref pa, .ref pb, .ref pq, .int (zi we), .int (zi wr), .ref pw, .int (zi ty), .ref pt])), (ps, aI cI 10 sf), (pk, aI cI 12 kf), (pa, aI cI 12 af), (pb, aI cI 12 bf), (pq, aI cI 12 zf)]) [0, 1, 2, 3, 4, 5] (by decide) rfl
          have hp9 : co = 4 := by
            omega
          exact W.iret (v := zi 0) hx hb hr (fun t ht hW => ⟨⟨zi 0, co, rfl, ⟨rfl, hp9⟩, by rw [ht]; exact hP9, va_K.moved hW.alike hK, hD9⟩, hS.F ht⟩) hS.2.2 dX5_moveWork_159
      · skip
        refine lv_aload_n hx hb dX5_moveWork_70 rfl (lv_at hl 2 rfl) ?_
        refine va_get (D := (dC, dI)) (ci := 5) (v := .int (zi co)) (C := RX5) (T := TX5) (N := 12) hx hb hts (by decide +kernel) hown hK hP 0 rfl rfl 0 (by decide) (hts (.fieldLink RX5 35 "CivilDaysModel" "code" "I") (by decide +kernel)) (fun _ h9 => h9) rfl dX5_moveWork_71 ?_
        refine zw_if_ne (tgt := 142) hx hb dX5_moveWork_74 (by decide) ⟨by omega, by omega⟩ (fun h3 => ?_) (fun h3 => ?_)
        · skip
          first | have hz0 := zmv_0 (wkX5 we kf af bf zf ru) (-1) fu nn (-lft) (by omega) | skip
          first | have hzy := hi1 (by omega) | skip
          refine lv_aload_n hx hb dX5_moveWork_142 rfl (lv_at hl 2 rfl) ?_
          refine va_get (D := (dC, dI)) (ci := 5) (v := .int (zi co)) (C := RX5) (T := TX5) (N := 12) hx hb hts (by decide +kernel) hown hK hP 0 rfl rfl 0 (by decide) (hts (.fieldLink RX5 35 "CivilDaysModel" "code" "I") (by decide +kernel)) (fun _ h9 => h9) rfl dX5_moveWork_143 ?_
          refine zw_if_le (tgt := 153) hx hb dX5_moveWork_146 (by decide) ⟨by omega, by omega⟩ (fun h4 => ?_) (fun h4 => ?_)
          · skip
            exact absurd True.intro (by omega)
          · skip
            refine zw_iconst hx hb dX5_moveWork_149 ?_
            refine lv_goto (tgt := 159) hx hb dX5_moveWork_150 (by decide) ?_
            have hP9 := hP.sub (ws' := [(g0, .inr (5, [.int (zi co), .ref ps, .int (zi ru), .ref pk, .ref pa, .ref pb, .ref pq, .int (zi we), .int (zi wr), .ref pw, .int (zi ty), .ref pt])), (ps, aI cI 10 sf), (pk, aI cI 12 kf), (pa, aI cI 12 af), (pb, aI cI 12 bf), (pq, aI cI 12 zf)]) [0, 1, 2, 3, 4, 5] rfl
            have hD9 := hD.sub (ws' := [(g0, .inr (5, [.int (zi co), .ref ps, .int (zi ru), .ref pk, .ref pa, .ref pb, .ref pq, .int (zi we), .int (zi wr), .ref pw, .int (zi ty), .ref pt])), (ps, aI cI 10 sf), (pk, aI cI 12 kf), (pa, aI cI 12 af), (pb, aI cI 12 bf), (pq, aI cI 12 zf)]) [0, 1, 2, 3, 4, 5] (by decide) rfl
            have hp9 : co = 4 := by
              omega
            exact W.iret (v := zi 0) hx hb hr (fun t ht hW => ⟨⟨zi 0, co, rfl, ⟨rfl, hp9⟩, by rw [ht]; exact hP9, va_K.moved hW.alike hK, hD9⟩, hS.F ht⟩) hS.2.2 dX5_moveWork_159
        · skip
          first | have hin := b_X5_in (nn + (-1)) 0 3652058 (by omega) (by omega) (by omega) | skip
          refine lv_iload_n hx hb dX5_moveWork_77 rfl (lv_at hl 0 rfl) ?_
          refine lv_iload hx hb dX5_moveWork_78 (lv_at hl 1 rfl) ?_
          refine zw_if_le (tgt := 87) hx hb dX5_moveWork_80 (by decide) ⟨by omega, by omega⟩ (fun h5 => ?_) (fun h5 => ?_)
          · skip
            refine zw_iconst hx hb dX5_moveWork_87 ?_
            refine zw_iadd hx hb dX5_moveWork_88 ?_
            refine zw_top (fun x6 ex6 => ?_)
            refine lv_istore_n (lv' := [(3, .int (zi x6)), (4, .int (zi lft)), (0, .ref g0), (1, .int (zi sl)), (2, .int (zi many))]) hx hb dX5_moveWork_89 rfl hl (by decide) rfl (fun ls hl => ?_)
            refine lv_aload_n hx hb dX5_moveWork_90 rfl (lv_at hl 2 rfl) ?_
            refine lv_iload_n hx hb dX5_moveWork_91 rfl (lv_at hl 0 rfl) ?_
            refine zw_iconst hx hb dX5_moveWork_92 ?_
            refine zw_ldc (n := 3652058) hx hb hown (hts (.constant RX5 89 (3652058)) (by decide +kernel)) dX5_moveWork_93 (by decide) ?_
            have hh7 := c_X5_in l x6 0 3652058 (by omega) (by omega) (by omega)
            refine vp_callSi (va_Run.run (va_runS (As := [.int (zi x6), .int (zi 0), .int (zi 3652058)]) (rest := [.ref g0]) ⟨hx, hb, hml, hown, hts⟩ hh7 (va_cwS 3 hts gX5_moveWork_X5_in rfl rfl rfl (by decide +kernel) ⟨Nat.le_of_ble_eq_true rfl, Nat.le_of_ble_eq_true rfl⟩) ⟨fun a U g mk q => q, fun U hU hW => ⟨rfl, trivial⟩⟩ rfl rfl hl.1 rfl (lv_room (Nat.le_of_ble_eq_true rfl)) dX5_moveWork_95 ⟨Nat.zero_le _, Nat.zero_le _⟩)) (fun r7 (hr7 : r7 = zi (f_X5_in x6 0 3652058)) => ?_)
            subst hr7
            have hf7 := b_X5_in x6 0 3652058 (by omega) (by omega) (by omega)
            refine zw_if_eq (tgt := 105) hx hb dX5_moveWork_98 (by decide) ⟨by omega, by omega⟩ (fun h8 => ?_) (fun h8 => ?_)
            · skip
              have hzx := zmv_x (wkX5 we kf af bf zf ru) (-1) fu nn (-lft) (by omega) (by omega)
              have hzy := hi1 (by omega)
              refine zw_iconst hx hb dX5_moveWork_105 ?_
              refine va_put (D := (dC, dI)) (ci := 5) (v := .int (zi 4)) (ty := .int) (C := RX5) (T := TX5) (N := 12) hx hb hts (by decide +kernel) tyX5 tyX5_ok nmX5 hown hK hP hD hS 0 rfl rfl 0 (by decide) (hts (.fieldLink RX5 35 "CivilDaysModel" "code" "I") (by decide +kernel)) (fun _ h9 => h9) rfl (by decide +kernel) rfl rfl (Nat.le_of_ble_eq_true rfl) dX5_moveWork_106 (fun H locs hP hD hS => ?_)
              have hP : va_P (dC, dI) vwCl [(g0, .inr (5, [.int (zi 4), .ref ps, .int (zi ru), .ref pk, .ref pa, .ref pb, .ref pq, .int (zi we), .int (zi wr), .ref pw, .int (zi ty), .ref pt])), (ps, aI cI 10 sf), (pk, aI cI 12 kf), (pa, aI cI 12 af), (pb, aI cI 12 bf), (pq, aI cI 12 zf)] H := hP
              have hD : va_D A [(g0, .inr (5, [.int (zi 4), .ref ps, .int (zi ru), .ref pk, .ref pa, .ref pb, .ref pq, .int (zi we), .int (zi wr), .ref pw, .int (zi ty), .ref pt])), (ps, aI cI 10 sf), (pk, aI cI 12 kf), (pa, aI cI 12 af), (pb, aI cI 12 bf), (pq, aI cI 12 zf)] := hD
              refine lv_aload_n hx hb dX5_moveWork_109 rfl (lv_at hl 2 rfl) ?_
              refine va_get (D := (dC, dI)) (ci := 5) (v := .int (zi 4)) (C := RX5) (T := TX5) (N := 12) hx hb hts (by decide +kernel) hown hK hP 0 rfl rfl 0 (by decide) (hts (.fieldLink RX5 35 "CivilDaysModel" "code" "I") (by decide +kernel)) (fun _ h9 => h9) rfl dX5_moveWork_110 ?_
              refine zw_if_ne (tgt := 65) hx hb dX5_moveWork_113 (by decide) ⟨by omega, by omega⟩ (fun h9 => ?_) (fun h9 => ?_)
              · skip
                subst ex6
                have hP9 := hP.sub (ws' := [(g0, .inr (5, [.int (zi 4), .ref ps, .int (zi ru), .ref pk, .ref pa, .ref pb, .ref pq, .int (zi we), .int (zi wr), .ref pw, .int (zi ty), .ref pt])), (ps, aI cI 10 sf), (pk, aI cI 12 kf), (pa, aI cI 12 af), (pb, aI cI 12 bf), (pq, aI cI 12 zf)]) [0, 1, 2, 3, 4, 5] rfl
                have hD9 := hD.sub (ws' := [(g0, .inr (5, [.int (zi 4), .ref ps, .int (zi ru), .ref pk, .ref pa, .ref pb, .ref pq, .int (zi we), .int (zi wr), .ref pw, .int (zi ty), .ref pt])), (ps, aI cI 10 sf), (pk, aI cI 12 kf), (pa, aI cI 12 af), (pb, aI cI 12 bf), (pq, aI cI 12 zf)]) [0, 1, 2, 3, 4, 5] (by decide) rfl
                exact ih (nn + (-1)) lft 4 (by omega) (by first | (intro h9; exact absurd h9 (by omega)) | (intro h9; exact hp7) | (intro h9; rw [← hi1 (by omega)]; symm; first | (apply zmv_s1 <;> omega) | (apply zmv_s0 <;> omega))) (by omega) (by omega) ls _ _ (lv_sub hl [0, 1, 2, 3, 4] rfl) hP9 hD9 hS
              · skip
                exact absurd True.intro (by omega)
            · skip
              skip
              refine zw_iconst hx hb dX5_moveWork_101 ?_
              refine lv_goto (tgt := 106) hx hb dX5_moveWork_102 (by decide) ?_
              refine va_put (D := (dC, dI)) (ci := 5) (v := .int (zi 0)) (ty := .int) (C := RX5) (T := TX5) (N := 12) hx hb hts (by decide +kernel) tyX5 tyX5_ok nmX5 hown hK hP hD hS 0 rfl rfl 0 (by decide) (hts (.fieldLink RX5 35 "CivilDaysModel" "code" "I") (by decide +kernel)) (fun _ h9 => h9) rfl (by decide +kernel) rfl rfl (Nat.le_of_ble_eq_true rfl) dX5_moveWork_106 (fun H locs hP hD hS => ?_)
              have hP : va_P (dC, dI) vwCl [(g0, .inr (5, [.int (zi 0), .ref ps, .int (zi ru), .ref pk, .ref pa, .ref pb, .ref pq, .int (zi we), .int (zi wr), .ref pw, .int (zi ty), .ref pt])), (ps, aI cI 10 sf), (pk, aI cI 12 kf), (pa, aI cI 12 af), (pb, aI cI 12 bf), (pq, aI cI 12 zf)] H := hP
              have hD : va_D A [(g0, .inr (5, [.int (zi 0), .ref ps, .int (zi ru), .ref pk, .ref pa, .ref pb, .ref pq, .int (zi we), .int (zi wr), .ref pw, .int (zi ty), .ref pt])), (ps, aI cI 10 sf), (pk, aI cI 12 kf), (pa, aI cI 12 af), (pb, aI cI 12 bf), (pq, aI cI 12 zf)] := hD
              refine lv_aload_n hx hb dX5_moveWork_109 rfl (lv_at hl 2 rfl) ?_
              refine va_get (D := (dC, dI)) (ci := 5) (v := .int (zi 0)) (C := RX5) (T := TX5) (N := 12) hx hb hts (by decide +kernel) hown hK hP 0 rfl rfl 0 (by decide) (hts (.fieldLink RX5 35 "CivilDaysModel" "code" "I") (by decide +kernel)) (fun _ h9 => h9) rfl dX5_moveWork_110 ?_
              refine zw_if_ne (tgt := 65) hx hb dX5_moveWork_113 (by decide) ⟨by omega, by omega⟩ (fun h10 => ?_) (fun h10 => ?_)
              · skip
                exact absurd True.intro (by omega)
              · skip
                refine lv_aload_n hx hb dX5_moveWork_116 rfl (lv_at hl 2 rfl) ?_
                refine lv_iload_n hx hb dX5_moveWork_117 rfl (lv_at hl 0 rfl) ?_
                have hh11 := c_X5_works l dC dI cI g0 ps pk pa pb pq pw pt 0 ru we wr ty kf af bf zf x6 (by omega) (by omega) (by first | exact hpr | exact hp5 | exact hp3) (by omega)
                have hPc := hP.sub (ws' := [(g0, .inr (5, [.int (zi 0), .ref ps, .int (zi ru), .ref pk, .ref pa, .ref pb, .ref pq, .int (zi we), .int (zi wr), .ref pw, .int (zi ty), .ref pt])), (pk, aI cI 12 kf), (pa, aI cI 12 af), (pb, aI cI 12 bf), (pq, aI cI 12 zf)]) [0, 2, 3, 4, 5] rfl
                have hKc : va_K (dC, dI) vwCl [(cI, .int)] s := hK
                refine vp_callSi (va_Run.run (va_runV (As := [.int (zi x6)]) (rest := []) ⟨hx, hb, hml, hown, hts⟩ hh11 (cwV 1 hts gX5_moveWork_X5_works rfl rfl rfl (by decide +kernel) ⟨Nat.le_of_ble_eq_true rfl, Nat.le_of_ble_eq_true rfl⟩) ⟨zPr.blind _ _ _ _, va_recv hKc hPc (ci := 5) (q0 := 0) rfl rfl, fun U hU hW => ⟨rfl, by rw [hU]; exact hPc, va_K.moved hW.alike hKc⟩⟩ rfl rfl hl.1 rfl (lv_room (Nat.le_of_ble_eq_true rfl)) dX5_moveWork_118 ⟨Nat.le_of_ble_eq_true rfl, Nat.le_of_ble_eq_true rfl⟩)) (fun r11 (hr11 : r11 = zi (wkX5 we kf af bf zf ru x6)) => ?_)
                subst hr11
                have hf11_0 := wkX5_s we kf af bf zf ru x6
                have hwk := wkX5_s we kf af bf zf ru (nn + (-1))
                refine zw_if_eq (tgt := 65) hx hb dX5_moveWork_121 (by decide) ⟨by omega, by omega⟩ (fun h12 => ?_) (fun h12 => ?_)
                · skip
                  subst ex6
                  have hP9 := hP.sub (ws' := [(g0, .inr (5, [.int (zi 0), .ref ps, .int (zi ru), .ref pk, .ref pa, .ref pb, .ref pq, .int (zi we), .int (zi wr), .ref pw, .int (zi ty), .ref pt])), (ps, aI cI 10 sf), (pk, aI cI 12 kf), (pa, aI cI 12 af), (pb, aI cI 12 bf), (pq, aI cI 12 zf)]) [0, 1, 2, 3, 4, 5] rfl
                  have hD9 := hD.sub (ws' := [(g0, .inr (5, [.int (zi 0), .ref ps, .int (zi ru), .ref pk, .ref pa, .ref pb, .ref pq, .int (zi we), .int (zi wr), .ref pw, .int (zi ty), .ref pt])), (ps, aI cI 10 sf), (pk, aI cI 12 kf), (pa, aI cI 12 af), (pb, aI cI 12 bf), (pq, aI cI 12 zf)]) [0, 1, 2, 3, 4, 5] (by decide) rfl
                  exact ih (nn + (-1)) lft 0 (by omega) (by first | (intro h9; exact absurd h9 (by omega)) | (intro h9; exact hp7) | (intro h9; rw [← hi1 (by omega)]; symm; first | (apply zmv_s1 <;> omega) | (apply zmv_s0 <;> omega))) (by omega) (by omega) ls _ _ (lv_sub hl [0, 1, 2, 3, 4] rfl) hP9 hD9 hS
                · skip
                  refine lv_iload hx hb dX5_moveWork_124 (lv_at hl 1 rfl) ?_
                  refine lv_iload hx hb dX5_moveWork_126 (lv_at hl 1 rfl) ?_
                  refine zw_if_le (tgt := 135) hx hb dX5_moveWork_128 (by decide) ⟨by omega, by omega⟩ (fun h13 => ?_) (fun h13 => ?_)
                  · skip
                    refine zw_iconst hx hb dX5_moveWork_135 ?_
                    refine zw_iadd hx hb dX5_moveWork_136 ?_
                    refine zw_top (fun x14 ex14 => ?_)
                    refine lv_istore (lv' := [(4, .int (zi x14)), (3, .int (zi x6)), (0, .ref g0), (1, .int (zi sl)), (2, .int (zi many))]) hx hb dX5_moveWork_137 hl (by decide) rfl (fun ls hl => ?_)
                    refine lv_goto (tgt := 65) hx hb dX5_moveWork_139 (by decide) ?_
                    subst ex6 ex14
                    have hP9 := hP.sub (ws' := [(g0, .inr (5, [.int (zi 0), .ref ps, .int (zi ru), .ref pk, .ref pa, .ref pb, .ref pq, .int (zi we), .int (zi wr), .ref pw, .int (zi ty), .ref pt])), (ps, aI cI 10 sf), (pk, aI cI 12 kf), (pa, aI cI 12 af), (pb, aI cI 12 bf), (pq, aI cI 12 zf)]) [0, 1, 2, 3, 4, 5] rfl
                    have hD9 := hD.sub (ws' := [(g0, .inr (5, [.int (zi 0), .ref ps, .int (zi ru), .ref pk, .ref pa, .ref pb, .ref pq, .int (zi we), .int (zi wr), .ref pw, .int (zi ty), .ref pt])), (ps, aI cI 10 sf), (pk, aI cI 12 kf), (pa, aI cI 12 af), (pb, aI cI 12 bf), (pq, aI cI 12 zf)]) [0, 1, 2, 3, 4, 5] (by decide) rfl
                    exact ih (nn + (-1)) (lft + 1) 0 (by omega) (by first | (intro h9; exact absurd h9 (by omega)) | (intro h9; exact hp7) | (intro h9; rw [← hi1 (by omega)]; symm; first | (apply zmv_s1 <;> omega) | (apply zmv_s0 <;> omega))) (by omega) (by omega) ls _ _ (lv_sub hl [1, 0, 2, 3, 4] rfl) hP9 hD9 hS
                  · skip
                    exact absurd True.intro (by omega)
          · skip
            exact absurd True.intro (by omega)
  have hl := lv_entry ([.ref g0, .int (zi sl), .int (zi many)]) (n := 5) (Nat.le_of_ble_eq_true rfl)
  rw [lg_entry_eq]
  generalize (lg_sl ([.ref g0, .int (zi sl), .int (zi many)]) ++ List.replicate (5 - (lg_sl ([.ref g0, .int (zi sl), .int (zi many)])).length) Slot.unset).toArray = ls at hl ⊢
  have hl : lv_has ls 5 [(0, .ref g0), (1, .int (zi sl)), (2, .int (zi many))] := hl
  have hpr := hp3
  refine lv_aload_n hx hb dX5_moveWork_0 rfl (lv_at hl 0 rfl) ?_
  refine lv_iload_n hx hb dX5_moveWork_1 rfl (lv_at hl 1 rfl) ?_
  have hh15 := c_X5_isSlot l sl (by omega)
  refine vp_callSi (va_Run.run (va_runS (As := [.int (zi sl)]) (rest := [.ref g0]) ⟨hx, hb, hml, hown, hts⟩ hh15 (va_cwS 1 hts gX5_moveWork_X5_isSlot rfl rfl rfl (by decide +kernel) ⟨Nat.le_of_ble_eq_true rfl, Nat.le_of_ble_eq_true rfl⟩) ⟨fun a U g mk q => q, fun U hU hW => ⟨rfl, trivial⟩⟩ rfl rfl hl.1 rfl (lv_room (Nat.le_of_ble_eq_true rfl)) dX5_moveWork_2 ⟨Nat.zero_le _, Nat.zero_le _⟩)) (fun r15 (hr15 : r15 = zi (f_X5_isSlot sl)) => ?_)
  subst hr15
  have hf15 := b_X5_isSlot sl (by omega)
  refine zw_if_ne (tgt := 12) hx hb dX5_moveWork_5 (by decide) ⟨by omega, by omega⟩ (fun h16 => ?_) (fun h16 => ?_)
  · skip
    refine lv_aload_n hx hb dX5_moveWork_12 rfl (lv_at hl 0 rfl) ?_
    refine va_get (D := (dC, dI)) (ci := 5) (v := .ref ps) (C := RX5) (T := TX5) (N := 12) hx hb hts (by decide +kernel) hown hK hP 0 rfl rfl 1 (by decide) (hts (.fieldLink RX5 7 "CivilDaysModel" "slots" "[I") (by decide +kernel)) (fun _ h9 => h9) rfl dX5_moveWork_13 ?_
    refine lv_iload_n hx hb dX5_moveWork_16 rfl (lv_at hl 1 rfl) ?_
    refine zw_iald hx hb hK hP 1 0 rfl rfl (by omega) (by omega) ⟨by omega, by omega⟩ dX5_moveWork_17 ?_
    refine zw_if_ge (tgt := 25) hx hb dX5_moveWork_18 (by decide) ⟨by omega, by omega⟩ (fun h17 => ?_) (fun h17 => ?_)
    · skip
      refine lv_iload_n hx hb dX5_moveWork_25 rfl (lv_at hl 2 rfl) ?_
      refine zw_sipush hx hb dX5_moveWork_26 (by decide) ?_
      refine zw_sipush hx hb dX5_moveWork_29 (by decide) ?_
      have hh18 := c_X5_in l many (-1000) 1000 (by omega) (by omega) (by omega)
      refine vp_callSi (va_Run.run (va_runS (As := [.int (zi many), .int (zi (-1000)), .int (zi 1000)]) (rest := [.ref g0]) ⟨hx, hb, hml, hown, hts⟩ hh18 (va_cwS 3 hts gX5_moveWork_X5_in rfl rfl rfl (by decide +kernel) ⟨Nat.le_of_ble_eq_true rfl, Nat.le_of_ble_eq_true rfl⟩) ⟨fun a U g mk q => q, fun U hU hW => ⟨rfl, trivial⟩⟩ rfl rfl hl.1 rfl (lv_room (Nat.le_of_ble_eq_true rfl)) dX5_moveWork_32 ⟨Nat.zero_le _, Nat.zero_le _⟩)) (fun r18 (hr18 : r18 = zi (f_X5_in many (-1000) 1000)) => ?_)
      subst hr18
      have hf18 := b_X5_in many (-1000) 1000 (by omega) (by omega) (by omega)
      refine zw_if_ne (tgt := 42) hx hb dX5_moveWork_35 (by decide) ⟨by omega, by omega⟩ (fun h19 => ?_) (fun h19 => ?_)
      · skip
        refine zw_iconst hx hb dX5_moveWork_42 ?_
        refine va_put (D := (dC, dI)) (ci := 5) (v := .int (zi 0)) (ty := .int) (C := RX5) (T := TX5) (N := 12) hx hb hts (by decide +kernel) tyX5 tyX5_ok nmX5 hown hK hP hD hS 0 rfl rfl 0 (by decide) (hts (.fieldLink RX5 35 "CivilDaysModel" "code" "I") (by decide +kernel)) (fun _ h9 => h9) rfl (by decide +kernel) rfl rfl (Nat.le_of_ble_eq_true rfl) dX5_moveWork_43 (fun H locs hP hD hS => ?_)
        have hP : va_P (dC, dI) vwCl [(g0, .inr (5, [.int (zi 0), .ref ps, .int (zi ru), .ref pk, .ref pa, .ref pb, .ref pq, .int (zi we), .int (zi wr), .ref pw, .int (zi ty), .ref pt])), (ps, aI cI 10 sf), (pk, aI cI 12 kf), (pa, aI cI 12 af), (pb, aI cI 12 bf), (pq, aI cI 12 zf)] H := hP
        have hD : va_D A [(g0, .inr (5, [.int (zi 0), .ref ps, .int (zi ru), .ref pk, .ref pa, .ref pb, .ref pq, .int (zi we), .int (zi wr), .ref pw, .int (zi ty), .ref pt])), (ps, aI cI 10 sf), (pk, aI cI 12 kf), (pa, aI cI 12 af), (pb, aI cI 12 bf), (pq, aI cI 12 zf)] := hD
        refine lv_aload_n hx hb dX5_moveWork_46 rfl (lv_at hl 0 rfl) ?_
        refine va_get (D := (dC, dI)) (ci := 5) (v := .int (zi 0)) (C := RX5) (T := TX5) (N := 12) hx hb hts (by decide +kernel) hown hK hP 0 rfl rfl 0 (by decide) (hts (.fieldLink RX5 35 "CivilDaysModel" "code" "I") (by decide +kernel)) (fun _ h9 => h9) rfl dX5_moveWork_47 ?_
        refine zw_if_le (tgt := 55) hx hb dX5_moveWork_50 (by decide) ⟨by omega, by omega⟩ (fun h20 => ?_) (fun h20 => ?_)
        · skip
          refine lv_aload_n hx hb dX5_moveWork_55 rfl (lv_at hl 0 rfl) ?_
          refine va_get (D := (dC, dI)) (ci := 5) (v := .ref ps) (C := RX5) (T := TX5) (N := 12) hx hb hts (by decide +kernel) hown hK hP 0 rfl rfl 1 (by decide) (hts (.fieldLink RX5 7 "CivilDaysModel" "slots" "[I") (by decide +kernel)) (fun _ h9 => h9) rfl dX5_moveWork_56 ?_
          refine lv_iload_n hx hb dX5_moveWork_59 rfl (lv_at hl 1 rfl) ?_
          refine zw_iald hx hb hK hP 1 0 rfl rfl (by omega) (by omega) ⟨by omega, by omega⟩ dX5_moveWork_60 ?_
          refine zw_top (fun x21 ex21 => ?_)
          refine lv_istore_n (lv' := [(3, .int (zi x21)), (0, .ref g0), (1, .int (zi sl)), (2, .int (zi many))]) hx hb dX5_moveWork_61 rfl hl (by decide) rfl (fun ls hl => ?_)
          refine lv_iload_n hx hb dX5_moveWork_62 rfl (lv_at hl 3 rfl) ?_
          refine lv_istore (lv' := [(4, .int (zi many)), (3, .int (zi x21)), (0, .ref g0), (1, .int (zi sl)), (2, .int (zi many))]) hx hb dX5_moveWork_63 hl (by decide) rfl (fun ls hl => ?_)
          subst ex21
          have hP9 := hP.sub (ws' := [(g0, .inr (5, [.int (zi 0), .ref ps, .int (zi ru), .ref pk, .ref pa, .ref pb, .ref pq, .int (zi we), .int (zi wr), .ref pw, .int (zi ty), .ref pt])), (ps, aI cI 10 sf), (pk, aI cI 12 kf), (pa, aI cI 12 af), (pb, aI cI 12 bf), (pq, aI cI 12 zf)]) [0, 1, 2, 3, 4, 5] rfl
          have hD9 := hD.sub (ws' := [(g0, .inr (5, [.int (zi 0), .ref ps, .int (zi ru), .ref pk, .ref pa, .ref pb, .ref pq, .int (zi we), .int (zi wr), .ref pw, .int (zi ty), .ref pt])), (ps, aI cI 10 sf), (pk, aI cI 12 kf), (pa, aI cI 12 af), (pb, aI cI 12 bf), (pq, aI cI 12 zf)]) [0, 1, 2, 3, 4, 5] (by decide) rfl
          exact loop65 (fz) (sf sl.toNat) many 0 (by omega) (by first | (intro h9; exact absurd h9 (by omega)) | (intro h9; exact hp7) | (intro h9; rw [← hi1 (by omega)]; symm; first | (apply zmv_s1 <;> omega) | (apply zmv_s0 <;> omega))) (by omega) (by omega) ls _ _ (lv_sub hl [1, 0, 2, 3, 4] rfl) hP9 hD9 hS
        · skip
          exact absurd True.intro (by omega)
      · skip
        exact absurd True.intro (by omega)
    · skip
      exact absurd True.intro (by omega)
  · skip
    exact absurd True.intro (by omega)
