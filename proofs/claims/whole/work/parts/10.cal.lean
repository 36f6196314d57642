set_option maxHeartbeats 4000000 in
set_option maxRecDepth 100000 in
theorem c_X0_isNumber (l : Launch) (nu : Int) (hp0 : -9223372036854775808 ≤ nu ∧ nu ≤ 9223372036854775807) : Met l yX0_isNumber wsX0_isNumber ({ frames := 0, cells := 0, slots := 0, locals := 0 }) (va_Pc [.long (zl nu)] (fun _ => True)) (vp_Si (fun r => r = zi (f_X0_isNumber nu))) 0 0 (fun _ => False) := by
  refine Met.ofW (cc := cX0_isNumber) (maxL := 2) (ret := (some .boolean)) (by decide) rfl ?_
  intro p e s m args below meth c s₁ B hml hv
  obtain ⟨rfl, -⟩ := hv
  have hx := B.exec
  have hb := B.bytes
  have hr := B.returns
  have hts := atoms_spec (ws := wsX0_isNumber) B.pre
  have hown : s.vm.findClass RX0 = some m.cls := findClass_of_methodNamed B.named
  have hlocks := B.notSynchronized
  have hl := lv_entry ([.long (zl nu)]) (n := 2) (Nat.le_of_ble_eq_true rfl)
  rw [lg_entry_eq]
  generalize (lg_sl ([.long (zl nu)]) ++ List.replicate (2 - (lg_sl ([.long (zl nu)])).length) Slot.unset).toArray = ls at hl ⊢
  have hl : lv_has ls 2 [(0, .long (zl nu))] := hl
  refine lv_lload_n hx hb dX0_isNumber_0 rfl (lv_at hl 0 rfl) ?_
  refine zw_lconst (v := 0) hx hb dX0_isNumber_1 (by decide) ?_
  refine zw_lcmp_lt (tgt := 18) hx hb dX0_isNumber_2 dX0_isNumber_3 (by decide) ⟨by omega, by omega⟩ ⟨by omega, by omega⟩ (fun h1 => ?_) (fun h1 => ?_)
  · skip
    refine zw_iconst hx hb dX0_isNumber_18 ?_
    exact W.zret (v := zi 0) hx hb hr (zi_nb (by omega)) (fun t ht hW => ⟨zi 0, rfl, by rw [f_X0_isNumber, if_pos h1], ht⟩) (fun q h => by cases h) dX0_isNumber_19
  · skip
    refine lv_lload_n hx hb dX0_isNumber_6 rfl (lv_at hl 0 rfl) ?_
    refine zw_ldc2 (n := 3652058) hx hb hown (hts (.constantLong RX0 11 (3652058)) (by decide +kernel)) dX0_isNumber_7 (by decide) ?_
    refine zw_lcmp_gt (tgt := 18) hx hb dX0_isNumber_10 dX0_isNumber_11 (by decide) ⟨by omega, by omega⟩ ⟨by omega, by omega⟩ (fun h2 => ?_) (fun h2 => ?_)
    · skip
      refine zw_iconst hx hb dX0_isNumber_18 ?_
      exact W.zret (v := zi 0) hx hb hr (zi_nb (by omega)) (fun t ht hW => ⟨zi 0, rfl, by rw [f_X0_isNumber, if_neg (Int.not_lt.mpr h1), if_neg (Int.not_le.mpr h2)], ht⟩) (fun q h => by cases h) dX0_isNumber_19
    · skip
      refine zw_iconst hx hb dX0_isNumber_14 ?_
      refine lv_goto (tgt := 19) hx hb dX0_isNumber_15 (by decide) ?_
      exact W.zret (v := zi 1) hx hb hr (zi_nb (by omega)) (fun t ht hW => ⟨zi 1, rfl, by rw [f_X0_isNumber, if_neg (Int.not_lt.mpr h1), if_pos h2], ht⟩) (fun q h => by cases h) dX0_isNumber_19

set_option maxHeartbeats 4000000 in
set_option maxRecDepth 100000 in
theorem c_X0_isYear (l : Launch) (nu : Int) (hp0 : -2147483648 ≤ nu ∧ nu ≤ 2147483647) : Met l yX0_isYear wsX0_isYear ({ frames := 0, cells := 0, slots := 0, locals := 0 }) (va_Pc [.int (zi nu)] (fun _ => True)) (vp_Si (fun r => r = zi (f_X0_isYear nu))) 0 0 (fun _ => False) := by
  refine Met.ofW (cc := cX0_isYear) (maxL := 1) (ret := (some .boolean)) (by decide) rfl ?_
  intro p e s m args below meth c s₁ B hml hv
  obtain ⟨rfl, -⟩ := hv
  have hx := B.exec
  have hb := B.bytes
  have hr := B.returns
  have hts := atoms_spec (ws := wsX0_isYear) B.pre
  have hown : s.vm.findClass RX0 = some m.cls := findClass_of_methodNamed B.named
  have hlocks := B.notSynchronized
  have hl := lv_entry ([.int (zi nu)]) (n := 1) (Nat.le_of_ble_eq_true rfl)
  rw [lg_entry_eq]
  generalize (lg_sl ([.int (zi nu)]) ++ List.replicate (1 - (lg_sl ([.int (zi nu)])).length) Slot.unset).toArray = ls at hl ⊢
  have hl : lv_has ls 1 [(0, .int (zi nu))] := hl
  refine lv_iload_n hx hb dX0_isYear_0 rfl (lv_at hl 0 rfl) ?_
  refine zw_iconst hx hb dX0_isYear_1 ?_
  refine zw_icmp_lt (tgt := 16) hx hb dX0_isYear_2 (by decide) ⟨by omega, by omega⟩ ⟨by omega, by omega⟩ (fun h1 => ?_) (fun h1 => ?_)
  · skip
    refine zw_iconst hx hb dX0_isYear_16 ?_
    exact W.zret (v := zi 0) hx hb hr (zi_nb (by omega)) (fun t ht hW => ⟨zi 0, rfl, by rw [f_X0_isYear, if_pos h1], ht⟩) (fun q h => by cases h) dX0_isYear_17
  · skip
    refine lv_iload_n hx hb dX0_isYear_5 rfl (lv_at hl 0 rfl) ?_
    refine zw_sipush hx hb dX0_isYear_6 (by decide) ?_
    refine zw_icmp_gt (tgt := 16) hx hb dX0_isYear_9 (by decide) ⟨by omega, by omega⟩ ⟨by omega, by omega⟩ (fun h2 => ?_) (fun h2 => ?_)
    · skip
      refine zw_iconst hx hb dX0_isYear_16 ?_
      exact W.zret (v := zi 0) hx hb hr (zi_nb (by omega)) (fun t ht hW => ⟨zi 0, rfl, by rw [f_X0_isYear, if_neg (Int.not_lt.mpr h1), if_neg (Int.not_le.mpr h2)], ht⟩) (fun q h => by cases h) dX0_isYear_17
    · skip
      refine zw_iconst hx hb dX0_isYear_12 ?_
      refine lv_goto (tgt := 17) hx hb dX0_isYear_13 (by decide) ?_
      exact W.zret (v := zi 1) hx hb hr (zi_nb (by omega)) (fun t ht hW => ⟨zi 1, rfl, by rw [f_X0_isYear, if_neg (Int.not_lt.mpr h1), if_pos h2], ht⟩) (fun q h => by cases h) dX0_isYear_17

set_option maxHeartbeats 4000000 in
set_option maxRecDepth 100000 in
theorem c_X0_isMonth (l : Launch) (nu : Int) (hp0 : -2147483648 ≤ nu ∧ nu ≤ 2147483647) : Met l yX0_isMonth wsX0_isMonth ({ frames := 0, cells := 0, slots := 0, locals := 0 }) (va_Pc [.int (zi nu)] (fun _ => True)) (vp_Si (fun r => r = zi (f_X0_isMonth nu))) 0 0 (fun _ => False) := by
  refine Met.ofW (cc := cX0_isMonth) (maxL := 1) (ret := (some .boolean)) (by decide) rfl ?_
  intro p e s m args below meth c s₁ B hml hv
  obtain ⟨rfl, -⟩ := hv
  have hx := B.exec
  have hb := B.bytes
  have hr := B.returns
  have hts := atoms_spec (ws := wsX0_isMonth) B.pre
  have hown : s.vm.findClass RX0 = some m.cls := findClass_of_methodNamed B.named
  have hlocks := B.notSynchronized
  have hl := lv_entry ([.int (zi nu)]) (n := 1) (Nat.le_of_ble_eq_true rfl)
  rw [lg_entry_eq]
  generalize (lg_sl ([.int (zi nu)]) ++ List.replicate (1 - (lg_sl ([.int (zi nu)])).length) Slot.unset).toArray = ls at hl ⊢
  have hl : lv_has ls 1 [(0, .int (zi nu))] := hl
  refine lv_iload_n hx hb dX0_isMonth_0 rfl (lv_at hl 0 rfl) ?_
  refine zw_iconst hx hb dX0_isMonth_1 ?_
  refine zw_icmp_lt (tgt := 15) hx hb dX0_isMonth_2 (by decide) ⟨by omega, by omega⟩ ⟨by omega, by omega⟩ (fun h1 => ?_) (fun h1 => ?_)
  · skip
    refine zw_iconst hx hb dX0_isMonth_15 ?_
    exact W.zret (v := zi 0) hx hb hr (zi_nb (by omega)) (fun t ht hW => ⟨zi 0, rfl, by rw [f_X0_isMonth, if_pos h1], ht⟩) (fun q h => by cases h) dX0_isMonth_16
  · skip
    refine lv_iload_n hx hb dX0_isMonth_5 rfl (lv_at hl 0 rfl) ?_
    refine zw_bipush hx hb dX0_isMonth_6 (by decide) ?_
    refine zw_icmp_gt (tgt := 15) hx hb dX0_isMonth_8 (by decide) ⟨by omega, by omega⟩ ⟨by omega, by omega⟩ (fun h2 => ?_) (fun h2 => ?_)
    · skip
      refine zw_iconst hx hb dX0_isMonth_15 ?_
      exact W.zret (v := zi 0) hx hb hr (zi_nb (by omega)) (fun t ht hW => ⟨zi 0, rfl, by rw [f_X0_isMonth, if_neg (Int.not_lt.mpr h1), if_neg (Int.not_le.mpr h2)], ht⟩) (fun q h => by cases h) dX0_isMonth_16
    · skip
      refine zw_iconst hx hb dX0_isMonth_11 ?_
      refine lv_goto (tgt := 16) hx hb dX0_isMonth_12 (by decide) ?_
      exact W.zret (v := zi 1) hx hb hr (zi_nb (by omega)) (fun t ht hW => ⟨zi 1, rfl, by rw [f_X0_isMonth, if_neg (Int.not_lt.mpr h1), if_pos h2], ht⟩) (fun q h => by cases h) dX0_isMonth_16

set_option maxHeartbeats 4000000 in
set_option maxRecDepth 100000 in
theorem c_X0_isWeekday (l : Launch) (nu : Int) (hp0 : -2147483648 ≤ nu ∧ nu ≤ 2147483647) : Met l yX0_isWeekday wsX0_isWeekday ({ frames := 0, cells := 0, slots := 0, locals := 0 }) (va_Pc [.int (zi nu)] (fun _ => True)) (vp_Si (fun r => r = zi (f_X0_isWeekday nu))) 0 0 (fun _ => False) := by
  refine Met.ofW (cc := cX0_isWeekday) (maxL := 1) (ret := (some .boolean)) (by decide) rfl ?_
  intro p e s m args below meth c s₁ B hml hv
  obtain ⟨rfl, -⟩ := hv
  have hx := B.exec
  have hb := B.bytes
  have hr := B.returns
  have hts := atoms_spec (ws := wsX0_isWeekday) B.pre
  have hown : s.vm.findClass RX0 = some m.cls := findClass_of_methodNamed B.named
  have hlocks := B.notSynchronized
  have hl := lv_entry ([.int (zi nu)]) (n := 1) (Nat.le_of_ble_eq_true rfl)
  rw [lg_entry_eq]
  generalize (lg_sl ([.int (zi nu)]) ++ List.replicate (1 - (lg_sl ([.int (zi nu)])).length) Slot.unset).toArray = ls at hl ⊢
  have hl : lv_has ls 1 [(0, .int (zi nu))] := hl
  refine lv_iload_n hx hb dX0_isWeekday_0 rfl (lv_at hl 0 rfl) ?_
  refine zw_iconst hx hb dX0_isWeekday_1 ?_
  refine zw_icmp_lt (tgt := 15) hx hb dX0_isWeekday_2 (by decide) ⟨by omega, by omega⟩ ⟨by omega, by omega⟩ (fun h1 => ?_) (fun h1 => ?_)
  · skip
    refine zw_iconst hx hb dX0_isWeekday_15 ?_
    exact W.zret (v := zi 0) hx hb hr (zi_nb (by omega)) (fun t ht hW => ⟨zi 0, rfl, by rw [f_X0_isWeekday, if_pos h1], ht⟩) (fun q h => by cases h) dX0_isWeekday_16
  · skip
    refine lv_iload_n hx hb dX0_isWeekday_5 rfl (lv_at hl 0 rfl) ?_
    refine zw_bipush hx hb dX0_isWeekday_6 (by decide) ?_
    refine zw_icmp_gt (tgt := 15) hx hb dX0_isWeekday_8 (by decide) ⟨by omega, by omega⟩ ⟨by omega, by omega⟩ (fun h2 => ?_) (fun h2 => ?_)
    · skip
      refine zw_iconst hx hb dX0_isWeekday_15 ?_
      exact W.zret (v := zi 0) hx hb hr (zi_nb (by omega)) (fun t ht hW => ⟨zi 0, rfl, by rw [f_X0_isWeekday, if_neg (Int.not_lt.mpr h1), if_neg (Int.not_le.mpr h2)], ht⟩) (fun q h => by cases h) dX0_isWeekday_16
    · skip
      refine zw_iconst hx hb dX0_isWeekday_11 ?_
      refine lv_goto (tgt := 16) hx hb dX0_isWeekday_12 (by decide) ?_
      exact W.zret (v := zi 1) hx hb hr (zi_nb (by omega)) (fun t ht hW => ⟨zi 1, rfl, by rw [f_X0_isWeekday, if_neg (Int.not_lt.mpr h1), if_pos h2], ht⟩) (fun q h => by cases h) dX0_isWeekday_16

set_option maxHeartbeats 4000000 in
set_option maxRecDepth 100000 in
theorem c_X0_isLeap (l : Launch) (ya : Int) (hp0 : 0 ≤ ya ∧ ya ≤ 2147483647) : Met l yX0_isLeap wsX0_isLeap ({ frames := 0, cells := 0, slots := 0, locals := 0 }) (va_Pc [.int (zi ya)] (fun _ => True)) (vp_Si (fun r => r = zi (f_X0_isLeap ya))) 0 0 (fun _ => False) := by
  refine Met.ofW (cc := cX0_isLeap) (maxL := 1) (ret := (some .boolean)) (by decide) rfl ?_
  intro p e s m args below meth c s₁ B hml hv
  obtain ⟨rfl, -⟩ := hv
  have hx := B.exec
  have hb := B.bytes
  have hr := B.returns
  have hts := atoms_spec (ws := wsX0_isLeap) B.pre
  have hown : s.vm.findClass RX0 = some m.cls := findClass_of_methodNamed B.named
  have hlocks := B.notSynchronized
  have hl := lv_entry ([.int (zi ya)]) (n := 1) (Nat.le_of_ble_eq_true rfl)
  rw [lg_entry_eq]
  generalize (lg_sl ([.int (zi ya)]) ++ List.replicate (1 - (lg_sl ([.int (zi ya)])).length) Slot.unset).toArray = ls at hl ⊢
  have hl : lv_has ls 1 [(0, .int (zi ya))] := hl
  refine lv_iload_n hx hb dX0_isLeap_0 rfl (lv_at hl 0 rfl) ?_
  refine zw_iconst hx hb dX0_isLeap_1 ?_
  refine zw_irem hx hb dX0_isLeap_2 (by omega) ⟨by omega, by omega⟩ ⟨by omega, by omega⟩ (by omega) ?_
  refine zw_if_ne (tgt := 25) hx hb dX0_isLeap_3 (by decide) ⟨by omega, by omega⟩ (fun h1 => ?_) (fun h1 => ?_)
  · skip
    refine zw_iconst hx hb dX0_isLeap_25 ?_
    exact W.zret (v := zi 0) hx hb hr (zi_nb (by omega)) (fun t ht hW => ⟨zi 0, rfl, by rw [f_X0_isLeap, if_neg h1], ht⟩) (fun q h => by cases h) dX0_isLeap_26
  · skip
    refine lv_iload_n hx hb dX0_isLeap_6 rfl (lv_at hl 0 rfl) ?_
    refine zw_bipush hx hb dX0_isLeap_7 (by decide) ?_
    refine zw_irem hx hb dX0_isLeap_9 (by omega) ⟨by omega, by omega⟩ ⟨by omega, by omega⟩ (by omega) ?_
    refine zw_if_ne (tgt := 21) hx hb dX0_isLeap_10 (by decide) ⟨by omega, by omega⟩ (fun h2 => ?_) (fun h2 => ?_)
    · skip
      refine zw_iconst hx hb dX0_isLeap_21 ?_
      refine lv_goto (tgt := 26) hx hb dX0_isLeap_22 (by decide) ?_
      exact W.zret (v := zi 1) hx hb hr (zi_nb (by omega)) (fun t ht hW => ⟨zi 1, rfl, by rw [f_X0_isLeap, if_pos h1, if_neg h2], ht⟩) (fun q h => by cases h) dX0_isLeap_26
    · skip
      refine lv_iload_n hx hb dX0_isLeap_13 rfl (lv_at hl 0 rfl) ?_
      refine zw_sipush hx hb dX0_isLeap_14 (by decide) ?_
      refine zw_irem hx hb dX0_isLeap_17 (by omega) ⟨by omega, by omega⟩ ⟨by omega, by omega⟩ (by omega) ?_
      refine zw_if_ne (tgt := 25) hx hb dX0_isLeap_18 (by decide) ⟨by omega, by omega⟩ (fun h3 => ?_) (fun h3 => ?_)
      · skip
        refine zw_iconst hx hb dX0_isLeap_25 ?_
        exact W.zret (v := zi 0) hx hb hr (zi_nb (by omega)) (fun t ht hW => ⟨zi 0, rfl, by rw [f_X0_isLeap, if_pos h1, if_pos h2, if_neg h3], ht⟩) (fun q h => by cases h) dX0_isLeap_26
      · skip
        refine zw_iconst hx hb dX0_isLeap_21 ?_
        refine lv_goto (tgt := 26) hx hb dX0_isLeap_22 (by decide) ?_
        exact W.zret (v := zi 1) hx hb hr (zi_nb (by omega)) (fun t ht hW => ⟨zi 1, rfl, by rw [f_X0_isLeap, if_pos h1, if_pos h2, if_pos h3], ht⟩) (fun q h => by cases h) dX0_isLeap_26

set_option maxHeartbeats 4000000 in
set_option maxRecDepth 100000 in
theorem c_X0_yearLength (l : Launch) (ya : Int) (hp0 : 0 ≤ ya ∧ ya ≤ 2147483647) : Met l yX0_yearLength wsX0_yearLength ({ frames := 1, cells := 0, slots := 0, locals := 20 }) (va_Pc [.int (zi ya)] (fun _ => True)) (vp_Si (fun r => r = zi (f_X0_yearLength ya))) 0 0 (fun _ => False) := by
  refine Met.ofW (cc := cX0_yearLength) (maxL := 1) (ret := (some .int)) (by decide) rfl ?_
  intro p e s m args below meth c s₁ B hml hv
  obtain ⟨rfl, -⟩ := hv
  have hx := B.exec
  have hb := B.bytes
  have hr := B.returns
  have hts := atoms_spec (ws := wsX0_yearLength) B.pre
  have hown : s.vm.findClass RX0 = some m.cls := findClass_of_methodNamed B.named
  have hlocks := B.notSynchronized
  have hl := lv_entry ([.int (zi ya)]) (n := 1) (Nat.le_of_ble_eq_true rfl)
  rw [lg_entry_eq]
  generalize (lg_sl ([.int (zi ya)]) ++ List.replicate (1 - (lg_sl ([.int (zi ya)])).length) Slot.unset).toArray = ls at hl ⊢
  have hl : lv_has ls 1 [(0, .int (zi ya))] := hl
  refine lv_iload_n hx hb dX0_yearLength_0 rfl (lv_at hl 0 rfl) ?_
  have hh1 := c_X0_isLeap l ya (by omega)
  refine vp_callSi (va_Run.run (va_runS (As := [.int (zi ya)]) (rest := []) ⟨hx, hb, hml, hown, hts⟩ hh1 (va_cwS 1 hts gX0_yearLength_X0_isLeap rfl rfl rfl (by decide +kernel) ⟨Nat.le_of_ble_eq_true rfl, Nat.le_of_ble_eq_true rfl⟩) ⟨fun a U g mk q => q, fun U hU hW => ⟨rfl, trivial⟩⟩ rfl rfl hl.1 rfl (lv_room (Nat.le_of_ble_eq_true rfl)) dX0_yearLength_1 ⟨Nat.zero_le _, Nat.zero_le _⟩)) (fun r1 (hr1 : r1 = zi (f_X0_isLeap ya)) => ?_)
  subst hr1
  have hf1 := b_X0_isLeap ya (by omega)
  refine zw_if_eq (tgt := 13) hx hb dX0_yearLength_4 (by decide) ⟨by omega, by omega⟩ (fun h2 => ?_) (fun h2 => ?_)
  · skip
    refine zw_sipush hx hb dX0_yearLength_13 (by decide) ?_
    exact W.iret (v := zi 365) hx hb hr (fun t ht hW => ⟨zi 365, rfl, by rw [f_X0_yearLength, if_pos h2], ht⟩) (fun q h => by cases h) dX0_yearLength_16
  · skip
    refine zw_sipush hx hb dX0_yearLength_7 (by decide) ?_
    refine lv_goto (tgt := 16) hx hb dX0_yearLength_10 (by decide) ?_
    exact W.iret (v := zi 366) hx hb hr (fun t ht hW => ⟨zi 366, rfl, by rw [f_X0_yearLength, if_neg h2], ht⟩) (fun q h => by cases h) dX0_yearLength_16

set_option maxHeartbeats 4000000 in
set_option maxRecDepth 100000 in
theorem c_X0_monthLength (l : Launch) (ya : Int) (mo : Int) (hp0 : 0 ≤ ya ∧ ya ≤ 2147483647) (hp1 : -2147483648 ≤ mo ∧ mo ≤ 2147483647) : Met l yX0_monthLength wsX0_monthLength ({ frames := 1, cells := 0, slots := 0, locals := 20 }) (va_Pc [.int (zi ya), .int (zi mo)] (fun _ => True)) (vp_Si (fun r => r = zi (f_X0_monthLength ya mo))) 0 0 (fun _ => False) := by
  refine Met.ofW (cc := cX0_monthLength) (maxL := 2) (ret := (some .int)) (by decide) rfl ?_
  intro p e s m args below meth c s₁ B hml hv
  obtain ⟨rfl, -⟩ := hv
  have hx := B.exec
  have hb := B.bytes
  have hr := B.returns
  have hts := atoms_spec (ws := wsX0_monthLength) B.pre
  have hown : s.vm.findClass RX0 = some m.cls := findClass_of_methodNamed B.named
  have hlocks := B.notSynchronized
  have hl := lv_entry ([.int (zi ya), .int (zi mo)]) (n := 2) (Nat.le_of_ble_eq_true rfl)
  rw [lg_entry_eq]
  generalize (lg_sl ([.int (zi ya), .int (zi mo)]) ++ List.replicate (2 - (lg_sl ([.int (zi ya), .int (zi mo)])).length) Slot.unset).toArray = ls at hl ⊢
  have hl : lv_has ls 2 [(0, .int (zi ya)), (1, .int (zi mo))] := hl
  refine lv_iload_n hx hb dX0_monthLength_0 rfl (lv_at hl 1 rfl) ?_
  refine zw_iconst hx hb dX0_monthLength_1 ?_
  refine zw_icmp_ne (tgt := 20) hx hb dX0_monthLength_2 (by decide) ⟨by omega, by omega⟩ ⟨by omega, by omega⟩ (fun h1 => ?_) (fun h1 => ?_)
  · skip
    refine lv_iload_n hx hb dX0_monthLength_20 rfl (lv_at hl 1 rfl) ?_
    refine zw_iconst hx hb dX0_monthLength_21 ?_
    refine zw_icmp_eq (tgt := 43) hx hb dX0_monthLength_22 (by decide) ⟨by omega, by omega⟩ ⟨by omega, by omega⟩ (fun h2 => ?_) (fun h2 => ?_)
    · skip
      refine zw_bipush hx hb dX0_monthLength_43 (by decide) ?_
      refine lv_goto (tgt := 50) hx hb dX0_monthLength_45 (by decide) ?_
      exact W.iret (v := zi 30) hx hb hr (fun t ht hW => ⟨zi 30, rfl, by rw [f_X0_monthLength, if_neg h1, if_pos h2], ht⟩) (fun q h => by cases h) dX0_monthLength_50
    · skip
      refine lv_iload_n hx hb dX0_monthLength_25 rfl (lv_at hl 1 rfl) ?_
      refine zw_bipush hx hb dX0_monthLength_26 (by decide) ?_
      refine zw_icmp_eq (tgt := 43) hx hb dX0_monthLength_28 (by decide) ⟨by omega, by omega⟩ ⟨by omega, by omega⟩ (fun h3 => ?_) (fun h3 => ?_)
      · skip
        refine zw_bipush hx hb dX0_monthLength_43 (by decide) ?_
        refine lv_goto (tgt := 50) hx hb dX0_monthLength_45 (by decide) ?_
        exact W.iret (v := zi 30) hx hb hr (fun t ht hW => ⟨zi 30, rfl, by rw [f_X0_monthLength, if_neg h1, if_neg h2, if_pos h3], ht⟩) (fun q h => by cases h) dX0_monthLength_50
      · skip
        refine lv_iload_n hx hb dX0_monthLength_31 rfl (lv_at hl 1 rfl) ?_
        refine zw_bipush hx hb dX0_monthLength_32 (by decide) ?_
        refine zw_icmp_eq (tgt := 43) hx hb dX0_monthLength_34 (by decide) ⟨by omega, by omega⟩ ⟨by omega, by omega⟩ (fun h4 => ?_) (fun h4 => ?_)
        · skip
          refine zw_bipush hx hb dX0_monthLength_43 (by decide) ?_
          refine lv_goto (tgt := 50) hx hb dX0_monthLength_45 (by decide) ?_
          exact W.iret (v := zi 30) hx hb hr (fun t ht hW => ⟨zi 30, rfl, by rw [f_X0_monthLength, if_neg h1, if_neg h2, if_neg h3, if_pos h4], ht⟩) (fun q h => by cases h) dX0_monthLength_50
        · skip
          refine lv_iload_n hx hb dX0_monthLength_37 rfl (lv_at hl 1 rfl) ?_
          refine zw_bipush hx hb dX0_monthLength_38 (by decide) ?_
          refine zw_icmp_ne (tgt := 48) hx hb dX0_monthLength_40 (by decide) ⟨by omega, by omega⟩ ⟨by omega, by omega⟩ (fun h5 => ?_) (fun h5 => ?_)
          · skip
            refine zw_bipush hx hb dX0_monthLength_48 (by decide) ?_
            exact W.iret (v := zi 31) hx hb hr (fun t ht hW => ⟨zi 31, rfl, by rw [f_X0_monthLength, if_neg h1, if_neg h2, if_neg h3, if_neg h4, if_neg h5], ht⟩) (fun q h => by cases h) dX0_monthLength_50
          · skip
            refine zw_bipush hx hb dX0_monthLength_43 (by decide) ?_
            refine lv_goto (tgt := 50) hx hb dX0_monthLength_45 (by decide) ?_
            exact W.iret (v := zi 30) hx hb hr (fun t ht hW => ⟨zi 30, rfl, by rw [f_X0_monthLength, if_neg h1, if_neg h2, if_neg h3, if_neg h4, if_pos h5], ht⟩) (fun q h => by cases h) dX0_monthLength_50
  · skip
    refine lv_iload_n hx hb dX0_monthLength_5 rfl (lv_at hl 0 rfl) ?_
    have hh6 := c_X0_isLeap l ya (by omega)
    refine vp_callSi (va_Run.run (va_runS (As := [.int (zi ya)]) (rest := []) ⟨hx, hb, hml, hown, hts⟩ hh6 (va_cwS 1 hts gX0_monthLength_X0_isLeap rfl rfl rfl (by decide +kernel) ⟨Nat.le_of_ble_eq_true rfl, Nat.le_of_ble_eq_true rfl⟩) ⟨fun a U g mk q => q, fun U hU hW => ⟨rfl, trivial⟩⟩ rfl rfl hl.1 rfl (lv_room (Nat.le_of_ble_eq_true rfl)) dX0_monthLength_6 ⟨Nat.zero_le _, Nat.zero_le _⟩)) (fun r6 (hr6 : r6 = zi (f_X0_isLeap ya)) => ?_)
    subst hr6
    have hf6 := b_X0_isLeap ya (by omega)
    refine zw_if_eq (tgt := 17) hx hb dX0_monthLength_9 (by decide) ⟨by omega, by omega⟩ (fun h7 => ?_) (fun h7 => ?_)
    · skip
      refine zw_bipush hx hb dX0_monthLength_17 (by decide) ?_
      exact W.iret (v := zi 28) hx hb hr (fun t ht hW => ⟨zi 28, rfl, by rw [f_X0_monthLength, if_pos h1, if_pos h7], ht⟩) (fun q h => by cases h) dX0_monthLength_19
    · skip
      refine zw_bipush hx hb dX0_monthLength_12 (by decide) ?_
      refine lv_goto (tgt := 19) hx hb dX0_monthLength_14 (by decide) ?_
      exact W.iret (v := zi 29) hx hb hr (fun t ht hW => ⟨zi 29, rfl, by rw [f_X0_monthLength, if_pos h1, if_neg h7], ht⟩) (fun q h => by cases h) dX0_monthLength_19

set_option maxHeartbeats 4000000 in
set_option maxRecDepth 100000 in
theorem c_X0_yearStart (l : Launch) (ya : Int) (hp0 : 1 ≤ ya ∧ ya ≤ 10001) : Met l yX0_yearStart wsX0_yearStart ({ frames := 0, cells := 0, slots := 0, locals := 0 }) (va_Pc [.int (zi ya)] (fun _ => True)) (vp_Si (fun r => r = zi (f_X0_yearStart ya))) 0 0 (fun _ => False) := by
  refine Met.ofW (cc := cX0_yearStart) (maxL := 2) (ret := (some .int)) (by decide) rfl ?_
  intro p e s m args below meth c s₁ B hml hv
  obtain ⟨rfl, -⟩ := hv
  have hx := B.exec
  have hb := B.bytes
  have hr := B.returns
  have hts := atoms_spec (ws := wsX0_yearStart) B.pre
  have hown : s.vm.findClass RX0 = some m.cls := findClass_of_methodNamed B.named
  have hlocks := B.notSynchronized
  have hl := lv_entry ([.int (zi ya)]) (n := 2) (Nat.le_of_ble_eq_true rfl)
  rw [lg_entry_eq]
  generalize (lg_sl ([.int (zi ya)]) ++ List.replicate (2 - (lg_sl ([.int (zi ya)])).length) Slot.unset).toArray = ls at hl ⊢
  have hl : lv_has ls 2 [(0, .int (zi ya))] := hl
  refine lv_iload_n hx hb dX0_yearStart_0 rfl (lv_at hl 0 rfl) ?_
  refine zw_iconst hx hb dX0_yearStart_1 ?_
  refine zw_isub hx hb dX0_yearStart_2 ?_
  refine zw_top (fun x1 ex1 => ?_)
  refine lv_istore_n (lv' := [(1, .int (zi x1)), (0, .int (zi ya))]) hx hb dX0_yearStart_3 rfl hl (by decide) rfl (fun ls hl => ?_)
  refine zw_sipush hx hb dX0_yearStart_4 (by decide) ?_
  refine lv_iload_n hx hb dX0_yearStart_7 rfl (lv_at hl 0 rfl) ?_
  refine zw_imul hx hb dX0_yearStart_8 ?_
  refine lv_iload_n hx hb dX0_yearStart_9 rfl (lv_at hl 0 rfl) ?_
  refine zw_iconst hx hb dX0_yearStart_10 ?_
  refine zw_idiv hx hb dX0_yearStart_11 (by omega) ⟨by omega, by omega⟩ ⟨by omega, by omega⟩ (by omega) ?_
  refine zw_iadd hx hb dX0_yearStart_12 ?_
  refine lv_iload_n hx hb dX0_yearStart_13 rfl (lv_at hl 0 rfl) ?_
  refine zw_bipush hx hb dX0_yearStart_14 (by decide) ?_
  refine zw_idiv hx hb dX0_yearStart_16 (by omega) ⟨by omega, by omega⟩ ⟨by omega, by omega⟩ (by omega) ?_
  refine zw_isub hx hb dX0_yearStart_17 ?_
  refine lv_iload_n hx hb dX0_yearStart_18 rfl (lv_at hl 0 rfl) ?_
  refine zw_sipush hx hb dX0_yearStart_19 (by decide) ?_
  refine zw_idiv hx hb dX0_yearStart_22 (by omega) ⟨by omega, by omega⟩ ⟨by omega, by omega⟩ (by omega) ?_
  refine zw_iadd hx hb dX0_yearStart_23 ?_
  subst ex1
  exact W.iret (v := zi ((((365 * (ya - 1)) + ((ya - 1) / 4)) - ((ya - 1) / 100)) + ((ya - 1) / 400))) hx hb hr (fun t ht hW => ⟨zi ((((365 * (ya - 1)) + ((ya - 1) / 4)) - ((ya - 1) / 100)) + ((ya - 1) / 400)), rfl, by rw [f_X0_yearStart], ht⟩) (fun q h => by cases h) dX0_yearStart_24

set_option maxHeartbeats 4000000 in
set_option maxRecDepth 100000 in
theorem c_X0_monthStart (l : Launch) (ya : Int) (mo : Int) (hp0 : 1 ≤ ya ∧ ya ≤ 10000) (hp1 : 1 ≤ mo ∧ mo ≤ 12) : Met l yX0_monthStart wsX0_monthStart ({ frames := 1, cells := 0, slots := 0, locals := 21 }) (va_Pc [.int (zi ya), .int (zi mo)] (fun _ => True)) (vp_Si (fun r => r = zi (f_X0_monthStart ya mo))) 0 0 (fun _ => False) := by
  refine Met.ofW (cc := cX0_monthStart) (maxL := 3) (ret := (some .int)) (by decide) rfl ?_
  intro p e s m args below meth c s₁ B hml hv
  obtain ⟨rfl, -⟩ := hv
  have hx := B.exec
  have hb := B.bytes
  have hr := B.returns
  have hts := atoms_spec (ws := wsX0_monthStart) B.pre
  have hown : s.vm.findClass RX0 = some m.cls := findClass_of_methodNamed B.named
  have hlocks := B.notSynchronized
  have hl := lv_entry ([.int (zi ya), .int (zi mo)]) (n := 3) (Nat.le_of_ble_eq_true rfl)
  rw [lg_entry_eq]
  generalize (lg_sl ([.int (zi ya), .int (zi mo)]) ++ List.replicate (3 - (lg_sl ([.int (zi ya), .int (zi mo)])).length) Slot.unset).toArray = ls at hl ⊢
  have hl : lv_has ls 3 [(0, .int (zi ya)), (1, .int (zi mo))] := hl
  refine zw_sipush hx hb dX0_monthStart_0 (by decide) ?_
  refine lv_iload_n hx hb dX0_monthStart_3 rfl (lv_at hl 1 rfl) ?_
  refine zw_imul hx hb dX0_monthStart_4 ?_
  refine zw_sipush hx hb dX0_monthStart_5 (by decide) ?_
  refine zw_isub hx hb dX0_monthStart_8 ?_
  refine zw_bipush hx hb dX0_monthStart_9 (by decide) ?_
  refine zw_idiv hx hb dX0_monthStart_11 (by omega) ⟨by omega, by omega⟩ ⟨by omega, by omega⟩ (by omega) ?_
  refine zw_top (fun x1 ex1 => ?_)
  refine lv_istore_n (lv' := [(2, .int (zi x1)), (0, .int (zi ya)), (1, .int (zi mo))]) hx hb dX0_monthStart_12 rfl hl (by decide) rfl (fun ls hl => ?_)
  refine lv_iload_n hx hb dX0_monthStart_13 rfl (lv_at hl 2 rfl) ?_
  refine zw_iconst hx hb dX0_monthStart_14 ?_
  refine zw_icmp_le (tgt := 33) hx hb dX0_monthStart_15 (by decide) ⟨by omega, by omega⟩ ⟨by omega, by omega⟩ (fun h2 => ?_) (fun h2 => ?_)
  · skip
    refine lv_iload_n hx hb dX0_monthStart_33 rfl (lv_at hl 1 rfl) ?_
    have hh3 := c_X0_yearStart l ya (by omega)
    refine vp_callSi (va_Run.run (va_runS (As := [.int (zi ya)]) (rest := []) ⟨hx, hb, hml, hown, hts⟩ hh3 (va_cwS 1 hts gX0_monthStart_X0_yearStart rfl rfl rfl (by decide +kernel) ⟨Nat.le_of_ble_eq_true rfl, Nat.le_of_ble_eq_true rfl⟩) ⟨fun a U g mk q => q, fun U hU hW => ⟨rfl, trivial⟩⟩ rfl rfl hl.1 rfl (lv_room (Nat.le_of_ble_eq_true rfl)) dX0_monthStart_34 ⟨Nat.zero_le _, Nat.zero_le _⟩)) (fun r3 (hr3 : r3 = zi (f_X0_yearStart ya)) => ?_)
    subst hr3
    have hf3 := b_X0_yearStart ya (by omega)
    refine lv_iload_n hx hb dX0_monthStart_37 rfl (lv_at hl 0 rfl) ?_
    refine zw_iadd hx hb dX0_monthStart_38 ?_
    subst ex1
    exact W.iret (v := zi ((f_X0_yearStart ya) + (((367 * mo) - 362) / 12))) hx hb hr (fun t ht hW => ⟨zi ((f_X0_yearStart ya) + (((367 * mo) - 362) / 12)), rfl, by rw [f_X0_monthStart, if_pos h2], ht⟩) (fun q h => by cases h) dX0_monthStart_39
  · skip
    refine lv_iload_n hx hb dX0_monthStart_18 rfl (lv_at hl 0 rfl) ?_
    refine lv_iload_n hx hb dX0_monthStart_19 rfl (lv_at hl 1 rfl) ?_
    have hh4 := c_X0_isLeap l ya (by omega)
    refine vp_callSi (va_Run.run (va_runS (As := [.int (zi ya)]) (rest := [.int (zi x1)]) ⟨hx, hb, hml, hown, hts⟩ hh4 (va_cwS 1 hts gX0_monthStart_X0_isLeap rfl rfl rfl (by decide +kernel) ⟨Nat.le_of_ble_eq_true rfl, Nat.le_of_ble_eq_true rfl⟩) ⟨fun a U g mk q => q, fun U hU hW => ⟨rfl, trivial⟩⟩ rfl rfl hl.1 rfl (lv_room (Nat.le_of_ble_eq_true rfl)) dX0_monthStart_20 ⟨Nat.zero_le _, Nat.zero_le _⟩)) (fun r4 (hr4 : r4 = zi (f_X0_isLeap ya)) => ?_)
    subst hr4
    have hf4 := b_X0_isLeap ya (by omega)
    refine zw_if_eq (tgt := 30) hx hb dX0_monthStart_23 (by decide) ⟨by omega, by omega⟩ (fun h5 => ?_) (fun h5 => ?_)
    · skip
      refine zw_iconst hx hb dX0_monthStart_30 ?_
      refine zw_isub hx hb dX0_monthStart_31 ?_
      refine zw_top (fun x6 ex6 => ?_)
      refine lv_istore_n (lv' := [(2, .int (zi x6)), (0, .int (zi ya)), (1, .int (zi mo))]) hx hb dX0_monthStart_32 rfl hl (by decide) rfl (fun ls hl => ?_)
      refine lv_iload_n hx hb dX0_monthStart_33 rfl (lv_at hl 1 rfl) ?_
      have hh7 := c_X0_yearStart l ya (by omega)
      refine vp_callSi (va_Run.run (va_runS (As := [.int (zi ya)]) (rest := []) ⟨hx, hb, hml, hown, hts⟩ hh7 (va_cwS 1 hts gX0_monthStart_X0_yearStart rfl rfl rfl (by decide +kernel) ⟨Nat.le_of_ble_eq_true rfl, Nat.le_of_ble_eq_true rfl⟩) ⟨fun a U g mk q => q, fun U hU hW => ⟨rfl, trivial⟩⟩ rfl rfl hl.1 rfl (lv_room (Nat.le_of_ble_eq_true rfl)) dX0_monthStart_34 ⟨Nat.zero_le _, Nat.zero_le _⟩)) (fun r7 (hr7 : r7 = zi (f_X0_yearStart ya)) => ?_)
      subst hr7
      have hf7 := b_X0_yearStart ya (by omega)
      refine lv_iload_n hx hb dX0_monthStart_37 rfl (lv_at hl 0 rfl) ?_
      refine zw_iadd hx hb dX0_monthStart_38 ?_
      subst ex1 ex6
      exact W.iret (v := zi ((f_X0_yearStart ya) + ((((367 * mo) - 362) / 12) - 2))) hx hb hr (fun t ht hW => ⟨zi ((f_X0_yearStart ya) + ((((367 * mo) - 362) / 12) - 2)), rfl, by rw [f_X0_monthStart, if_neg (Int.not_le.mpr h2), if_pos h5], ht⟩) (fun q h => by cases h) dX0_monthStart_39
    · skip
      refine zw_iconst hx hb dX0_monthStart_26 ?_
      refine lv_goto (tgt := 31) hx hb dX0_monthStart_27 (by decide) ?_
      refine zw_isub hx hb dX0_monthStart_31 ?_
      refine zw_top (fun x8 ex8 => ?_)
      refine lv_istore_n (lv' := [(2, .int (zi x8)), (0, .int (zi ya)), (1, .int (zi mo))]) hx hb dX0_monthStart_32 rfl hl (by decide) rfl (fun ls hl => ?_)
      refine lv_iload_n hx hb dX0_monthStart_33 rfl (lv_at hl 1 rfl) ?_
      have hh9 := c_X0_yearStart l ya (by omega)
      refine vp_callSi (va_Run.run (va_runS (As := [.int (zi ya)]) (rest := []) ⟨hx, hb, hml, hown, hts⟩ hh9 (va_cwS 1 hts gX0_monthStart_X0_yearStart rfl rfl rfl (by decide +kernel) ⟨Nat.le_of_ble_eq_true rfl, Nat.le_of_ble_eq_true rfl⟩) ⟨fun a U g mk q => q, fun U hU hW => ⟨rfl, trivial⟩⟩ rfl rfl hl.1 rfl (lv_room (Nat.le_of_ble_eq_true rfl)) dX0_monthStart_34 ⟨Nat.zero_le _, Nat.zero_le _⟩)) (fun r9 (hr9 : r9 = zi (f_X0_yearStart ya)) => ?_)
      subst hr9
      have hf9 := b_X0_yearStart ya (by omega)
      refine lv_iload_n hx hb dX0_monthStart_37 rfl (lv_at hl 0 rfl) ?_
      refine zw_iadd hx hb dX0_monthStart_38 ?_
      subst ex1 ex8
      exact W.iret (v := zi ((f_X0_yearStart ya) + ((((367 * mo) - 362) / 12) - 1))) hx hb hr (fun t ht hW => ⟨zi ((f_X0_yearStart ya) + ((((367 * mo) - 362) / 12) - 1)), rfl, by rw [f_X0_monthStart, if_neg (Int.not_le.mpr h2), if_neg h5], ht⟩) (fun q h => by cases h) dX0_monthStart_39

set_option maxHeartbeats 4000000 in
set_option maxRecDepth 100000 in
theorem c_X0_firstMonday (l : Launch) (ya : Int) (hp0 : 1 ≤ ya ∧ ya ≤ 10001) : Met l yX0_firstMonday wsX0_firstMonday ({ frames := 1, cells := 0, slots := 0, locals := 21 }) (va_Pc [.int (zi ya)] (fun _ => True)) (vp_Si (fun r => r = zi (f_X0_firstMonday ya))) 0 0 (fun _ => False) := by
  refine Met.ofW (cc := cX0_firstMonday) (maxL := 2) (ret := (some .int)) (by decide) rfl ?_
  intro p e s m args below meth c s₁ B hml hv
  obtain ⟨rfl, -⟩ := hv
  have hx := B.exec
  have hb := B.bytes
  have hr := B.returns
  have hts := atoms_spec (ws := wsX0_firstMonday) B.pre
  have hown : s.vm.findClass RX0 = some m.cls := findClass_of_methodNamed B.named
  have hlocks := B.notSynchronized
  have hl := lv_entry ([.int (zi ya)]) (n := 2) (Nat.le_of_ble_eq_true rfl)
  rw [lg_entry_eq]
  generalize (lg_sl ([.int (zi ya)]) ++ List.replicate (2 - (lg_sl ([.int (zi ya)])).length) Slot.unset).toArray = ls at hl ⊢
  have hl : lv_has ls 2 [(0, .int (zi ya))] := hl
  refine lv_iload_n hx hb dX0_firstMonday_0 rfl (lv_at hl 0 rfl) ?_
  have hh1 := c_X0_yearStart l ya (by omega)
  refine vp_callSi (va_Run.run (va_runS (As := [.int (zi ya)]) (rest := []) ⟨hx, hb, hml, hown, hts⟩ hh1 (va_cwS 1 hts gX0_firstMonday_X0_yearStart rfl rfl rfl (by decide +kernel) ⟨Nat.le_of_ble_eq_true rfl, Nat.le_of_ble_eq_true rfl⟩) ⟨fun a U g mk q => q, fun U hU hW => ⟨rfl, trivial⟩⟩ rfl rfl hl.1 rfl (lv_room (Nat.le_of_ble_eq_true rfl)) dX0_firstMonday_1 ⟨Nat.zero_le _, Nat.zero_le _⟩)) (fun r1 (hr1 : r1 = zi (f_X0_yearStart ya)) => ?_)
  subst hr1
  have hf1 := b_X0_yearStart ya (by omega)
  refine zw_iconst hx hb dX0_firstMonday_4 ?_
  refine zw_iadd hx hb dX0_firstMonday_5 ?_
  refine zw_top (fun x2 ex2 => ?_)
  refine lv_istore_n (lv' := [(1, .int (zi x2)), (0, .int (zi ya))]) hx hb dX0_firstMonday_6 rfl hl (by decide) rfl (fun ls hl => ?_)
  refine lv_iload_n hx hb dX0_firstMonday_7 rfl (lv_at hl 0 rfl) ?_
  refine lv_iload_n hx hb dX0_firstMonday_8 rfl (lv_at hl 0 rfl) ?_
  refine zw_bipush hx hb dX0_firstMonday_9 (by decide) ?_
  refine zw_irem hx hb dX0_firstMonday_11 (by omega) ⟨by omega, by omega⟩ ⟨by omega, by omega⟩ (by omega) ?_
  refine zw_isub hx hb dX0_firstMonday_12 ?_
  subst ex2
  exact W.iret (v := zi (((f_X0_yearStart ya) + 3) - (((f_X0_yearStart ya) + 3) % 7))) hx hb hr (fun t ht hW => ⟨zi (((f_X0_yearStart ya) + 3) - (((f_X0_yearStart ya) + 3) % 7)), rfl, by rw [f_X0_firstMonday], ht⟩) (fun q h => by cases h) dX0_firstMonday_13

set_option maxHeartbeats 4000000 in
set_option maxRecDepth 100000 in
theorem c_X0_weeksIn (l : Launch) (ya : Int) (hp0 : 1 ≤ ya ∧ ya ≤ 10000) : Met l yX0_weeksIn wsX0_weeksIn ({ frames := 2, cells := 0, slots := 0, locals := 42 }) (va_Pc [.int (zi ya)] (fun _ => True)) (vp_Si (fun r => r = zi (f_X0_weeksIn ya))) 0 0 (fun _ => False) := by
  refine Met.ofW (cc := cX0_weeksIn) (maxL := 1) (ret := (some .int)) (by decide) rfl ?_
  intro p e s m args below meth c s₁ B hml hv
  obtain ⟨rfl, -⟩ := hv
  have hx := B.exec
  have hb := B.bytes
  have hr := B.returns
  have hts := atoms_spec (ws := wsX0_weeksIn) B.pre
  have hown : s.vm.findClass RX0 = some m.cls := findClass_of_methodNamed B.named
  have hlocks := B.notSynchronized
  have hl := lv_entry ([.int (zi ya)]) (n := 1) (Nat.le_of_ble_eq_true rfl)
  rw [lg_entry_eq]
  generalize (lg_sl ([.int (zi ya)]) ++ List.replicate (1 - (lg_sl ([.int (zi ya)])).length) Slot.unset).toArray = ls at hl ⊢
  have hl : lv_has ls 1 [(0, .int (zi ya))] := hl
  refine lv_iload_n hx hb dX0_weeksIn_0 rfl (lv_at hl 0 rfl) ?_
  refine zw_iconst hx hb dX0_weeksIn_1 ?_
  refine zw_iadd hx hb dX0_weeksIn_2 ?_
  have hh1 := c_X0_firstMonday l (ya + 1) (by omega)
  refine vp_callSi (va_Run.run (va_runS (As := [.int (zi (ya + 1))]) (rest := []) ⟨hx, hb, hml, hown, hts⟩ hh1 (va_cwS 1 hts gX0_weeksIn_X0_firstMonday rfl rfl rfl (by decide +kernel) ⟨Nat.le_of_ble_eq_true rfl, Nat.le_of_ble_eq_true rfl⟩) ⟨fun a U g mk q => q, fun U hU hW => ⟨rfl, trivial⟩⟩ rfl rfl hl.1 rfl (lv_room (Nat.le_of_ble_eq_true rfl)) dX0_weeksIn_3 ⟨Nat.zero_le _, Nat.zero_le _⟩)) (fun r1 (hr1 : r1 = zi (f_X0_firstMonday (ya + 1))) => ?_)
  subst hr1
  have hf1 := b_X0_firstMonday (ya + 1) (by omega)
  refine lv_iload_n hx hb dX0_weeksIn_6 rfl (lv_at hl 0 rfl) ?_
  have hh2 := c_X0_firstMonday l ya (by omega)
  refine vp_callSi (va_Run.run (va_runS (As := [.int (zi ya)]) (rest := [.int (zi (f_X0_firstMonday (ya + 1)))]) ⟨hx, hb, hml, hown, hts⟩ hh2 (va_cwS 1 hts gX0_weeksIn_X0_firstMonday rfl rfl rfl (by decide +kernel) ⟨Nat.le_of_ble_eq_true rfl, Nat.le_of_ble_eq_true rfl⟩) ⟨fun a U g mk q => q, fun U hU hW => ⟨rfl, trivial⟩⟩ rfl rfl hl.1 rfl (lv_room (Nat.le_of_ble_eq_true rfl)) dX0_weeksIn_7 ⟨Nat.zero_le _, Nat.zero_le _⟩)) (fun r2 (hr2 : r2 = zi (f_X0_firstMonday ya)) => ?_)
  subst hr2
  have hf2 := b_X0_firstMonday ya (by omega)
  refine zw_isub hx hb dX0_weeksIn_10 ?_
  refine zw_bipush hx hb dX0_weeksIn_11 (by decide) ?_
  refine zw_idiv hx hb dX0_weeksIn_13 (by omega) ⟨by omega, by omega⟩ ⟨by omega, by omega⟩ (by omega) ?_
  exact W.iret (v := zi (((f_X0_firstMonday (ya + 1)) - (f_X0_firstMonday ya)) / 7)) hx hb hr (fun t ht hW => ⟨zi (((f_X0_firstMonday (ya + 1)) - (f_X0_firstMonday ya)) / 7), rfl, by rw [f_X0_weeksIn], ht⟩) (fun q h => by cases h) dX0_weeksIn_14

set_option maxHeartbeats 4000000 in
set_option maxRecDepth 100000 in
theorem c_X0_weekdayOf (l : Launch) (nu : Int) (hp0 : 0 ≤ nu ∧ nu ≤ 2147483647) : Met l yX0_weekdayOf wsX0_weekdayOf ({ frames := 0, cells := 0, slots := 0, locals := 0 }) (va_Pc [.int (zi nu)] (fun _ => True)) (vp_Si (fun r => r = zi (f_X0_weekdayOf nu))) 0 0 (fun _ => False) := by
  refine Met.ofW (cc := cX0_weekdayOf) (maxL := 1) (ret := (some .int)) (by decide) rfl ?_
  intro p e s m args below meth c s₁ B hml hv
  obtain ⟨rfl, -⟩ := hv
  have hx := B.exec
  have hb := B.bytes
  have hr := B.returns
  have hts := atoms_spec (ws := wsX0_weekdayOf) B.pre
  have hown : s.vm.findClass RX0 = some m.cls := findClass_of_methodNamed B.named
  have hlocks := B.notSynchronized
  have hl := lv_entry ([.int (zi nu)]) (n := 1) (Nat.le_of_ble_eq_true rfl)
  rw [lg_entry_eq]
  generalize (lg_sl ([.int (zi nu)]) ++ List.replicate (1 - (lg_sl ([.int (zi nu)])).length) Slot.unset).toArray = ls at hl ⊢
  have hl : lv_has ls 1 [(0, .int (zi nu))] := hl
  refine lv_iload_n hx hb dX0_weekdayOf_0 rfl (lv_at hl 0 rfl) ?_
  refine zw_bipush hx hb dX0_weekdayOf_1 (by decide) ?_
  refine zw_irem hx hb dX0_weekdayOf_3 (by omega) ⟨by omega, by omega⟩ ⟨by omega, by omega⟩ (by omega) ?_
  refine zw_iconst hx hb dX0_weekdayOf_4 ?_
  refine zw_iadd hx hb dX0_weekdayOf_5 ?_
  exact W.iret (v := zi ((nu % 7) + 1)) hx hb hr (fun t ht hW => ⟨zi ((nu % 7) + 1), rfl, by rw [f_X0_weekdayOf], ht⟩) (fun q h => by cases h) dX0_weekdayOf_6

set_option maxHeartbeats 4000000 in
set_option maxRecDepth 100000 in
theorem c_X0_onOrBehind (l : Launch) (nu : Int) (wd : Int) (hp0 : 0 ≤ nu ∧ nu ≤ 4000000) (hp1 : 1 ≤ wd ∧ wd ≤ 7) : Met l yX0_onOrBehind wsX0_onOrBehind ({ frames := 1, cells := 0, slots := 0, locals := 20 }) (va_Pc [.int (zi nu), .int (zi wd)] (fun _ => True)) (vp_Si (fun r => r = zi (f_X0_onOrBehind nu wd))) 0 0 (fun _ => False) := by
  refine Met.ofW (cc := cX0_onOrBehind) (maxL := 2) (ret := (some .int)) (by decide) rfl ?_
  intro p e s m args below meth c s₁ B hml hv
  obtain ⟨rfl, -⟩ := hv
  have hx := B.exec
  have hb := B.bytes
  have hr := B.returns
  have hts := atoms_spec (ws := wsX0_onOrBehind) B.pre
  have hown : s.vm.findClass RX0 = some m.cls := findClass_of_methodNamed B.named
  have hlocks := B.notSynchronized
  have hl := lv_entry ([.int (zi nu), .int (zi wd)]) (n := 2) (Nat.le_of_ble_eq_true rfl)
  rw [lg_entry_eq]
  generalize (lg_sl ([.int (zi nu), .int (zi wd)]) ++ List.replicate (2 - (lg_sl ([.int (zi nu), .int (zi wd)])).length) Slot.unset).toArray = ls at hl ⊢
  have hl : lv_has ls 2 [(0, .int (zi nu)), (1, .int (zi wd))] := hl
  refine lv_iload_n hx hb dX0_onOrBehind_0 rfl (lv_at hl 0 rfl) ?_
  refine lv_iload_n hx hb dX0_onOrBehind_1 rfl (lv_at hl 1 rfl) ?_
  refine lv_iload_n hx hb dX0_onOrBehind_2 rfl (lv_at hl 0 rfl) ?_
  have hh1 := c_X0_weekdayOf l nu (by omega)
  refine vp_callSi (va_Run.run (va_runS (As := [.int (zi nu)]) (rest := [.int (zi wd), .int (zi nu)]) ⟨hx, hb, hml, hown, hts⟩ hh1 (va_cwS 1 hts gX0_onOrBehind_X0_weekdayOf rfl rfl rfl (by decide +kernel) ⟨Nat.le_of_ble_eq_true rfl, Nat.le_of_ble_eq_true rfl⟩) ⟨fun a U g mk q => q, fun U hU hW => ⟨rfl, trivial⟩⟩ rfl rfl hl.1 rfl (lv_room (Nat.le_of_ble_eq_true rfl)) dX0_onOrBehind_3 ⟨Nat.zero_le _, Nat.zero_le _⟩)) (fun r1 (hr1 : r1 = zi (f_X0_weekdayOf nu)) => ?_)
  subst hr1
  have hf1 := b_X0_weekdayOf nu (by omega)
  refine zw_isub hx hb dX0_onOrBehind_6 ?_
  refine zw_bipush hx hb dX0_onOrBehind_7 (by decide) ?_
  refine zw_iadd hx hb dX0_onOrBehind_9 ?_
  refine zw_bipush hx hb dX0_onOrBehind_10 (by decide) ?_
  refine zw_irem hx hb dX0_onOrBehind_12 (by omega) ⟨by omega, by omega⟩ ⟨by omega, by omega⟩ (by omega) ?_
  refine zw_iadd hx hb dX0_onOrBehind_13 ?_
  exact W.iret (v := zi (nu + (((wd - (f_X0_weekdayOf nu)) + 7) % 7))) hx hb hr (fun t ht hW => ⟨zi (nu + (((wd - (f_X0_weekdayOf nu)) + 7) % 7)), rfl, by rw [f_X0_onOrBehind], ht⟩) (fun q h => by cases h) dX0_onOrBehind_14

set_option maxHeartbeats 4000000 in
set_option maxRecDepth 100000 in
theorem c_X0_civilNumber (l : Launch) (ya : Int) (mo : Int) (da : Int) (hp0 : -2147483648 ≤ ya ∧ ya ≤ 2147483647) (hp1 : -2147483648 ≤ mo ∧ mo ≤ 2147483647) (hp2 : -2147483648 ≤ da ∧ da ≤ 2147483647) : Met l yX0_civilNumber wsX0_civilNumber ({ frames := 2, cells := 0, slots := 0, locals := 43 }) (va_Pc [.int (zi ya), .int (zi mo), .int (zi da)] (fun _ => True)) (vp_Si (fun r => r = zi (f_X0_civilNumber ya mo da))) 0 0 (fun _ => False) := by
  refine Met.ofW (cc := cX0_civilNumber) (maxL := 3) (ret := (some .int)) (by decide) rfl ?_
  intro p e s m args below meth c s₁ B hml hv
  obtain ⟨rfl, -⟩ := hv
  have hx := B.exec
  have hb := B.bytes
  have hr := B.returns
  have hts := atoms_spec (ws := wsX0_civilNumber) B.pre
  have hown : s.vm.findClass RX0 = some m.cls := findClass_of_methodNamed B.named
  have hlocks := B.notSynchronized
  have hl := lv_entry ([.int (zi ya), .int (zi mo), .int (zi da)]) (n := 3) (Nat.le_of_ble_eq_true rfl)
  rw [lg_entry_eq]
  generalize (lg_sl ([.int (zi ya), .int (zi mo), .int (zi da)]) ++ List.replicate (3 - (lg_sl ([.int (zi ya), .int (zi mo), .int (zi da)])).length) Slot.unset).toArray = ls at hl ⊢
  have hl : lv_has ls 3 [(0, .int (zi ya)), (1, .int (zi mo)), (2, .int (zi da))] := hl
  refine lv_iload_n hx hb dX0_civilNumber_0 rfl (lv_at hl 0 rfl) ?_
  have hh1 := c_X0_isYear l ya (by omega)
  refine vp_callSi (va_Run.run (va_runS (As := [.int (zi ya)]) (rest := []) ⟨hx, hb, hml, hown, hts⟩ hh1 (va_cwS 1 hts gX0_civilNumber_X0_isYear rfl rfl rfl (by decide +kernel) ⟨Nat.le_of_ble_eq_true rfl, Nat.le_of_ble_eq_true rfl⟩) ⟨fun a U g mk q => q, fun U hU hW => ⟨rfl, trivial⟩⟩ rfl rfl hl.1 rfl (lv_room (Nat.le_of_ble_eq_true rfl)) dX0_civilNumber_1 ⟨Nat.zero_le _, Nat.zero_le _⟩)) (fun r1 (hr1 : r1 = zi (f_X0_isYear ya)) => ?_)
  subst hr1
  have hf1 := b_X0_isYear ya (by omega)
  refine zw_if_eq (tgt := 28) hx hb dX0_civilNumber_4 (by decide) ⟨by omega, by omega⟩ (fun h2 => ?_) (fun h2 => ?_)
  · skip
    refine zw_iconst hx hb dX0_civilNumber_28 ?_
    exact W.iret (v := zi (-1)) hx hb hr (fun t ht hW => ⟨zi (-1), rfl, by rw [f_X0_civilNumber, if_pos h2], ht⟩) (fun q h => by cases h) dX0_civilNumber_29
  · skip
    refine lv_iload_n hx hb dX0_civilNumber_7 rfl (lv_at hl 1 rfl) ?_
    have hh3 := c_X0_isMonth l mo (by omega)
    refine vp_callSi (va_Run.run (va_runS (As := [.int (zi mo)]) (rest := []) ⟨hx, hb, hml, hown, hts⟩ hh3 (va_cwS 1 hts gX0_civilNumber_X0_isMonth rfl rfl rfl (by decide +kernel) ⟨Nat.le_of_ble_eq_true rfl, Nat.le_of_ble_eq_true rfl⟩) ⟨fun a U g mk q => q, fun U hU hW => ⟨rfl, trivial⟩⟩ rfl rfl hl.1 rfl (lv_room (Nat.le_of_ble_eq_true rfl)) dX0_civilNumber_8 ⟨Nat.zero_le _, Nat.zero_le _⟩)) (fun r3 (hr3 : r3 = zi (f_X0_isMonth mo)) => ?_)
    subst hr3
    have hf3 := b_X0_isMonth mo (by omega)
    refine zw_if_eq (tgt := 28) hx hb dX0_civilNumber_11 (by decide) ⟨by omega, by omega⟩ (fun h4 => ?_) (fun h4 => ?_)
    · skip
      refine zw_iconst hx hb dX0_civilNumber_28 ?_
      exact W.iret (v := zi (-1)) hx hb hr (fun t ht hW => ⟨zi (-1), rfl, by rw [f_X0_civilNumber, if_neg h2, if_pos h4], ht⟩) (fun q h => by cases h) dX0_civilNumber_29
    · skip
      refine lv_iload_n hx hb dX0_civilNumber_14 rfl (lv_at hl 2 rfl) ?_
      refine zw_iconst hx hb dX0_civilNumber_15 ?_
      refine zw_icmp_lt (tgt := 28) hx hb dX0_civilNumber_16 (by decide) ⟨by omega, by omega⟩ ⟨by omega, by omega⟩ (fun h5 => ?_) (fun h5 => ?_)
      · skip
        refine zw_iconst hx hb dX0_civilNumber_28 ?_
        exact W.iret (v := zi (-1)) hx hb hr (fun t ht hW => ⟨zi (-1), rfl, by rw [f_X0_civilNumber, if_neg h2, if_neg h4, if_pos h5], ht⟩) (fun q h => by cases h) dX0_civilNumber_29
      · skip
        refine lv_iload_n hx hb dX0_civilNumber_19 rfl (lv_at hl 2 rfl) ?_
        refine lv_iload_n hx hb dX0_civilNumber_20 rfl (lv_at hl 0 rfl) ?_
        refine lv_iload_n hx hb dX0_civilNumber_21 rfl (lv_at hl 1 rfl) ?_
        have hh6 := c_X0_monthLength l ya mo (by omega) (by omega)
        refine vp_callSi (va_Run.run (va_runS (As := [.int (zi ya), .int (zi mo)]) (rest := [.int (zi da)]) ⟨hx, hb, hml, hown, hts⟩ hh6 (va_cwS 2 hts gX0_civilNumber_X0_monthLength rfl rfl rfl (by decide +kernel) ⟨Nat.le_of_ble_eq_true rfl, Nat.le_of_ble_eq_true rfl⟩) ⟨fun a U g mk q => q, fun U hU hW => ⟨rfl, trivial⟩⟩ rfl rfl hl.1 rfl (lv_room (Nat.le_of_ble_eq_true rfl)) dX0_civilNumber_22 ⟨Nat.zero_le _, Nat.zero_le _⟩)) (fun r6 (hr6 : r6 = zi (f_X0_monthLength ya mo)) => ?_)
        subst hr6
        have hf6 := b_X0_monthLength ya mo (by omega) (by omega)
        refine zw_icmp_le (tgt := 30) hx hb dX0_civilNumber_25 (by decide) ⟨by omega, by omega⟩ ⟨by omega, by omega⟩ (fun h7 => ?_) (fun h7 => ?_)
        · skip
          refine lv_iload_n hx hb dX0_civilNumber_30 rfl (lv_at hl 0 rfl) ?_
          refine lv_iload_n hx hb dX0_civilNumber_31 rfl (lv_at hl 1 rfl) ?_
          have hh8 := c_X0_monthStart l ya mo (by omega) (by omega)
          refine vp_callSi (va_Run.run (va_runS (As := [.int (zi ya), .int (zi mo)]) (rest := []) ⟨hx, hb, hml, hown, hts⟩ hh8 (va_cwS 2 hts gX0_civilNumber_X0_monthStart rfl rfl rfl (by decide +kernel) ⟨Nat.le_of_ble_eq_true rfl, Nat.le_of_ble_eq_true rfl⟩) ⟨fun a U g mk q => q, fun U hU hW => ⟨rfl, trivial⟩⟩ rfl rfl hl.1 rfl (lv_room (Nat.le_of_ble_eq_true rfl)) dX0_civilNumber_32 ⟨Nat.zero_le _, Nat.zero_le _⟩)) (fun r8 (hr8 : r8 = zi (f_X0_monthStart ya mo)) => ?_)
          subst hr8
          have hf8 := b_X0_monthStart ya mo (by omega) (by omega)
          refine lv_iload_n hx hb dX0_civilNumber_35 rfl (lv_at hl 2 rfl) ?_
          refine zw_iadd hx hb dX0_civilNumber_36 ?_
          refine zw_iconst hx hb dX0_civilNumber_37 ?_
          refine zw_isub hx hb dX0_civilNumber_38 ?_
          exact W.iret (v := zi (((f_X0_monthStart ya mo) + da) - 1)) hx hb hr (fun t ht hW => ⟨zi (((f_X0_monthStart ya mo) + da) - 1), rfl, by rw [f_X0_civilNumber, if_neg h2, if_neg h4, if_neg (Int.not_lt.mpr h5), if_pos h7], ht⟩) (fun q h => by cases h) dX0_civilNumber_39
        · skip
          refine zw_iconst hx hb dX0_civilNumber_28 ?_
          exact W.iret (v := zi (-1)) hx hb hr (fun t ht hW => ⟨zi (-1), rfl, by rw [f_X0_civilNumber, if_neg h2, if_neg h4, if_neg (Int.not_lt.mpr h5), if_neg (Int.not_le.mpr h7)], ht⟩) (fun q h => by cases h) dX0_civilNumber_29

set_option maxHeartbeats 4000000 in
set_option maxRecDepth 100000 in
theorem c_X0_yearDayNumber (l : Launch) (ya : Int) (da : Int) (hp0 : -2147483648 ≤ ya ∧ ya ≤ 2147483647) (hp1 : -2147483648 ≤ da ∧ da ≤ 2147483647) : Met l yX0_yearDayNumber wsX0_yearDayNumber ({ frames := 2, cells := 0, slots := 0, locals := 40 }) (va_Pc [.int (zi ya), .int (zi da)] (fun _ => True)) (vp_Si (fun r => r = zi (f_X0_yearDayNumber ya da))) 0 0 (fun _ => False) := by
  refine Met.ofW (cc := cX0_yearDayNumber) (maxL := 2) (ret := (some .int)) (by decide) rfl ?_
  intro p e s m args below meth c s₁ B hml hv
  obtain ⟨rfl, -⟩ := hv
  have hx := B.exec
  have hb := B.bytes
  have hr := B.returns
  have hts := atoms_spec (ws := wsX0_yearDayNumber) B.pre
  have hown : s.vm.findClass RX0 = some m.cls := findClass_of_methodNamed B.named
  have hlocks := B.notSynchronized
  have hl := lv_entry ([.int (zi ya), .int (zi da)]) (n := 2) (Nat.le_of_ble_eq_true rfl)
  rw [lg_entry_eq]
  generalize (lg_sl ([.int (zi ya), .int (zi da)]) ++ List.replicate (2 - (lg_sl ([.int (zi ya), .int (zi da)])).length) Slot.unset).toArray = ls at hl ⊢
  have hl : lv_has ls 2 [(0, .int (zi ya)), (1, .int (zi da))] := hl
  refine lv_iload_n hx hb dX0_yearDayNumber_0 rfl (lv_at hl 0 rfl) ?_
  have hh1 := c_X0_isYear l ya (by omega)
  refine vp_callSi (va_Run.run (va_runS (As := [.int (zi ya)]) (rest := []) ⟨hx, hb, hml, hown, hts⟩ hh1 (va_cwS 1 hts gX0_yearDayNumber_X0_isYear rfl rfl rfl (by decide +kernel) ⟨Nat.le_of_ble_eq_true rfl, Nat.le_of_ble_eq_true rfl⟩) ⟨fun a U g mk q => q, fun U hU hW => ⟨rfl, trivial⟩⟩ rfl rfl hl.1 rfl (lv_room (Nat.le_of_ble_eq_true rfl)) dX0_yearDayNumber_1 ⟨Nat.zero_le _, Nat.zero_le _⟩)) (fun r1 (hr1 : r1 = zi (f_X0_isYear ya)) => ?_)
  subst hr1
  have hf1 := b_X0_isYear ya (by omega)
  refine zw_if_eq (tgt := 20) hx hb dX0_yearDayNumber_4 (by decide) ⟨by omega, by omega⟩ (fun h2 => ?_) (fun h2 => ?_)
  · skip
    refine zw_iconst hx hb dX0_yearDayNumber_20 ?_
    exact W.iret (v := zi (-1)) hx hb hr (fun t ht hW => ⟨zi (-1), rfl, by rw [f_X0_yearDayNumber, if_pos h2], ht⟩) (fun q h => by cases h) dX0_yearDayNumber_21
  · skip
    refine lv_iload_n hx hb dX0_yearDayNumber_7 rfl (lv_at hl 1 rfl) ?_
    refine zw_iconst hx hb dX0_yearDayNumber_8 ?_
    refine zw_icmp_lt (tgt := 20) hx hb dX0_yearDayNumber_9 (by decide) ⟨by omega, by omega⟩ ⟨by omega, by omega⟩ (fun h3 => ?_) (fun h3 => ?_)
    · skip
      refine zw_iconst hx hb dX0_yearDayNumber_20 ?_
      exact W.iret (v := zi (-1)) hx hb hr (fun t ht hW => ⟨zi (-1), rfl, by rw [f_X0_yearDayNumber, if_neg h2, if_pos h3], ht⟩) (fun q h => by cases h) dX0_yearDayNumber_21
    · skip
      refine lv_iload_n hx hb dX0_yearDayNumber_12 rfl (lv_at hl 1 rfl) ?_
      refine lv_iload_n hx hb dX0_yearDayNumber_13 rfl (lv_at hl 0 rfl) ?_
      have hh4 := c_X0_yearLength l ya (by omega)
      refine vp_callSi (va_Run.run (va_runS (As := [.int (zi ya)]) (rest := [.int (zi da)]) ⟨hx, hb, hml, hown, hts⟩ hh4 (va_cwS 1 hts gX0_yearDayNumber_X0_yearLength rfl rfl rfl (by decide +kernel) ⟨Nat.le_of_ble_eq_true rfl, Nat.le_of_ble_eq_true rfl⟩) ⟨fun a U g mk q => q, fun U hU hW => ⟨rfl, trivial⟩⟩ rfl rfl hl.1 rfl (lv_room (Nat.le_of_ble_eq_true rfl)) dX0_yearDayNumber_14 ⟨Nat.zero_le _, Nat.zero_le _⟩)) (fun r4 (hr4 : r4 = zi (f_X0_yearLength ya)) => ?_)
      subst hr4
      have hf4 := b_X0_yearLength ya (by omega)
      refine zw_icmp_le (tgt := 22) hx hb dX0_yearDayNumber_17 (by decide) ⟨by omega, by omega⟩ ⟨by omega, by omega⟩ (fun h5 => ?_) (fun h5 => ?_)
      · skip
        refine lv_iload_n hx hb dX0_yearDayNumber_22 rfl (lv_at hl 0 rfl) ?_
        have hh6 := c_X0_yearStart l ya (by omega)
        refine vp_callSi (va_Run.run (va_runS (As := [.int (zi ya)]) (rest := []) ⟨hx, hb, hml, hown, hts⟩ hh6 (va_cwS 1 hts gX0_yearDayNumber_X0_yearStart rfl rfl rfl (by decide +kernel) ⟨Nat.le_of_ble_eq_true rfl, Nat.le_of_ble_eq_true rfl⟩) ⟨fun a U g mk q => q, fun U hU hW => ⟨rfl, trivial⟩⟩ rfl rfl hl.1 rfl (lv_room (Nat.le_of_ble_eq_true rfl)) dX0_yearDayNumber_23 ⟨Nat.zero_le _, Nat.zero_le _⟩)) (fun r6 (hr6 : r6 = zi (f_X0_yearStart ya)) => ?_)
        subst hr6
        have hf6 := b_X0_yearStart ya (by omega)
        refine lv_iload_n hx hb dX0_yearDayNumber_26 rfl (lv_at hl 1 rfl) ?_
        refine zw_iadd hx hb dX0_yearDayNumber_27 ?_
        refine zw_iconst hx hb dX0_yearDayNumber_28 ?_
        refine zw_isub hx hb dX0_yearDayNumber_29 ?_
        exact W.iret (v := zi (((f_X0_yearStart ya) + da) - 1)) hx hb hr (fun t ht hW => ⟨zi (((f_X0_yearStart ya) + da) - 1), rfl, by rw [f_X0_yearDayNumber, if_neg h2, if_neg (Int.not_lt.mpr h3), if_pos h5], ht⟩) (fun q h => by cases h) dX0_yearDayNumber_30
      · skip
        refine zw_iconst hx hb dX0_yearDayNumber_20 ?_
        exact W.iret (v := zi (-1)) hx hb hr (fun t ht hW => ⟨zi (-1), rfl, by rw [f_X0_yearDayNumber, if_neg h2, if_neg (Int.not_lt.mpr h3), if_neg (Int.not_le.mpr h5)], ht⟩) (fun q h => by cases h) dX0_yearDayNumber_21

set_option maxHeartbeats 4000000 in
set_option maxRecDepth 100000 in
theorem c_X0_weekNumber (l : Launch) (ya : Int) (wk : Int) (wd : Int) (hp0 : -2147483648 ≤ ya ∧ ya ≤ 2147483647) (hp1 : -2147483648 ≤ wk ∧ wk ≤ 2147483647) (hp2 : -2147483648 ≤ wd ∧ wd ≤ 2147483647) : Met l yX0_weekNumber wsX0_weekNumber ({ frames := 3, cells := 0, slots := 0, locals := 62 }) (va_Pc [.int (zi ya), .int (zi wk), .int (zi wd)] (fun _ => True)) (vp_Si (fun r => r = zi (f_X0_weekNumber ya wk wd))) 0 0 (fun _ => False) := by
  refine Met.ofW (cc := cX0_weekNumber) (maxL := 4) (ret := (some .int)) (by decide) rfl ?_
  intro p e s m args below meth c s₁ B hml hv
  obtain ⟨rfl, -⟩ := hv
  have hx := B.exec
  have hb := B.bytes
  have hr := B.returns
  have hts := atoms_spec (ws := wsX0_weekNumber) B.pre
  have hown : s.vm.findClass RX0 = some m.cls := findClass_of_methodNamed B.named
  have hlocks := B.notSynchronized
  have hl := lv_entry ([.int (zi ya), .int (zi wk), .int (zi wd)]) (n := 4) (Nat.le_of_ble_eq_true rfl)
  rw [lg_entry_eq]
  generalize (lg_sl ([.int (zi ya), .int (zi wk), .int (zi wd)]) ++ List.replicate (4 - (lg_sl ([.int (zi ya), .int (zi wk), .int (zi wd)])).length) Slot.unset).toArray = ls at hl ⊢
  have hl : lv_has ls 4 [(0, .int (zi ya)), (1, .int (zi wk)), (2, .int (zi wd))] := hl
  refine lv_iload_n hx hb dX0_weekNumber_0 rfl (lv_at hl 0 rfl) ?_
  have hh1 := c_X0_isYear l ya (by omega)
  refine vp_callSi (va_Run.run (va_runS (As := [.int (zi ya)]) (rest := []) ⟨hx, hb, hml, hown, hts⟩ hh1 (va_cwS 1 hts gX0_weekNumber_X0_isYear rfl rfl rfl (by decide +kernel) ⟨Nat.le_of_ble_eq_true rfl, Nat.le_of_ble_eq_true rfl⟩) ⟨fun a U g mk q => q, fun U hU hW => ⟨rfl, trivial⟩⟩ rfl rfl hl.1 rfl (lv_room (Nat.le_of_ble_eq_true rfl)) dX0_weekNumber_1 ⟨Nat.zero_le _, Nat.zero_le _⟩)) (fun r1 (hr1 : r1 = zi (f_X0_isYear ya)) => ?_)
  subst hr1
  have hf1 := b_X0_isYear ya (by omega)
  refine zw_if_eq (tgt := 27) hx hb dX0_weekNumber_4 (by decide) ⟨by omega, by omega⟩ (fun h2 => ?_) (fun h2 => ?_)
  · skip
    refine zw_iconst hx hb dX0_weekNumber_27 ?_
    exact W.iret (v := zi (-1)) hx hb hr (fun t ht hW => ⟨zi (-1), rfl, by rw [f_X0_weekNumber, if_pos h2], ht⟩) (fun q h => by cases h) dX0_weekNumber_28
  · skip
    refine lv_iload_n hx hb dX0_weekNumber_7 rfl (lv_at hl 2 rfl) ?_
    have hh3 := c_X0_isWeekday l wd (by omega)
    refine vp_callSi (va_Run.run (va_runS (As := [.int (zi wd)]) (rest := []) ⟨hx, hb, hml, hown, hts⟩ hh3 (va_cwS 1 hts gX0_weekNumber_X0_isWeekday rfl rfl rfl (by decide +kernel) ⟨Nat.le_of_ble_eq_true rfl, Nat.le_of_ble_eq_true rfl⟩) ⟨fun a U g mk q => q, fun U hU hW => ⟨rfl, trivial⟩⟩ rfl rfl hl.1 rfl (lv_room (Nat.le_of_ble_eq_true rfl)) dX0_weekNumber_8 ⟨Nat.zero_le _, Nat.zero_le _⟩)) (fun r3 (hr3 : r3 = zi (f_X0_isWeekday wd)) => ?_)
    subst hr3
    have hf3 := b_X0_isWeekday wd (by omega)
    refine zw_if_eq (tgt := 27) hx hb dX0_weekNumber_11 (by decide) ⟨by omega, by omega⟩ (fun h4 => ?_) (fun h4 => ?_)
    · skip
      refine zw_iconst hx hb dX0_weekNumber_27 ?_
      exact W.iret (v := zi (-1)) hx hb hr (fun t ht hW => ⟨zi (-1), rfl, by rw [f_X0_weekNumber, if_neg h2, if_pos h4], ht⟩) (fun q h => by cases h) dX0_weekNumber_28
    · skip
      refine lv_iload_n hx hb dX0_weekNumber_14 rfl (lv_at hl 1 rfl) ?_
      refine zw_iconst hx hb dX0_weekNumber_15 ?_
      refine zw_icmp_lt (tgt := 27) hx hb dX0_weekNumber_16 (by decide) ⟨by omega, by omega⟩ ⟨by omega, by omega⟩ (fun h5 => ?_) (fun h5 => ?_)
      · skip
        refine zw_iconst hx hb dX0_weekNumber_27 ?_
        exact W.iret (v := zi (-1)) hx hb hr (fun t ht hW => ⟨zi (-1), rfl, by rw [f_X0_weekNumber, if_neg h2, if_neg h4, if_pos h5], ht⟩) (fun q h => by cases h) dX0_weekNumber_28
      · skip
        refine lv_iload_n hx hb dX0_weekNumber_19 rfl (lv_at hl 1 rfl) ?_
        refine lv_iload_n hx hb dX0_weekNumber_20 rfl (lv_at hl 0 rfl) ?_
        have hh6 := c_X0_weeksIn l ya (by omega)
        refine vp_callSi (va_Run.run (va_runS (As := [.int (zi ya)]) (rest := [.int (zi wk)]) ⟨hx, hb, hml, hown, hts⟩ hh6 (va_cwS 1 hts gX0_weekNumber_X0_weeksIn rfl rfl rfl (by decide +kernel) ⟨Nat.le_of_ble_eq_true rfl, Nat.le_of_ble_eq_true rfl⟩) ⟨fun a U g mk q => q, fun U hU hW => ⟨rfl, trivial⟩⟩ rfl rfl hl.1 rfl (lv_room (Nat.le_of_ble_eq_true rfl)) dX0_weekNumber_21 ⟨Nat.zero_le _, Nat.zero_le _⟩)) (fun r6 (hr6 : r6 = zi (f_X0_weeksIn ya)) => ?_)
        subst hr6
        have hf6 := b_X0_weeksIn ya (by omega)
        refine zw_icmp_le (tgt := 29) hx hb dX0_weekNumber_24 (by decide) ⟨by omega, by omega⟩ ⟨by omega, by omega⟩ (fun h7 => ?_) (fun h7 => ?_)
        · skip
          refine lv_iload_n hx hb dX0_weekNumber_29 rfl (lv_at hl 0 rfl) ?_
          have hh8 := c_X0_firstMonday l ya (by omega)
          refine vp_callSi (va_Run.run (va_runS (As := [.int (zi ya)]) (rest := []) ⟨hx, hb, hml, hown, hts⟩ hh8 (va_cwS 1 hts gX0_weekNumber_X0_firstMonday rfl rfl rfl (by decide +kernel) ⟨Nat.le_of_ble_eq_true rfl, Nat.le_of_ble_eq_true rfl⟩) ⟨fun a U g mk q => q, fun U hU hW => ⟨rfl, trivial⟩⟩ rfl rfl hl.1 rfl (lv_room (Nat.le_of_ble_eq_true rfl)) dX0_weekNumber_30 ⟨Nat.zero_le _, Nat.zero_le _⟩)) (fun r8 (hr8 : r8 = zi (f_X0_firstMonday ya)) => ?_)
          subst hr8
          have hf8 := b_X0_firstMonday ya (by omega)
          refine zw_bipush hx hb dX0_weekNumber_33 (by decide) ?_
          refine lv_iload_n hx hb dX0_weekNumber_35 rfl (lv_at hl 1 rfl) ?_
          refine zw_iconst hx hb dX0_weekNumber_36 ?_
          refine zw_isub hx hb dX0_weekNumber_37 ?_
          refine zw_imul hx hb dX0_weekNumber_38 ?_
          refine zw_iadd hx hb dX0_weekNumber_39 ?_
          refine lv_iload_n hx hb dX0_weekNumber_40 rfl (lv_at hl 2 rfl) ?_
          refine zw_iadd hx hb dX0_weekNumber_41 ?_
          refine zw_iconst hx hb dX0_weekNumber_42 ?_
          refine zw_isub hx hb dX0_weekNumber_43 ?_
          refine zw_top (fun x9 ex9 => ?_)
          refine lv_istore_n (lv' := [(3, .int (zi x9)), (0, .int (zi ya)), (1, .int (zi wk)), (2, .int (zi wd))]) hx hb dX0_weekNumber_44 rfl hl (by decide) rfl (fun ls hl => ?_)
          refine lv_iload_n hx hb dX0_weekNumber_45 rfl (lv_at hl 0 rfl) ?_
          refine zw_i2l hx hb dX0_weekNumber_46 ⟨by omega, by omega⟩ ?_
          have hh10 := c_X0_isNumber l x9 (by omega)
          refine vp_callSi (va_Run.run (va_runS (As := [.long (zl x9)]) (rest := []) ⟨hx, hb, hml, hown, hts⟩ hh10 (va_cwS 1 hts gX0_weekNumber_X0_isNumber rfl rfl rfl (by decide +kernel) ⟨Nat.le_of_ble_eq_true rfl, Nat.le_of_ble_eq_true rfl⟩) ⟨fun a U g mk q => q, fun U hU hW => ⟨rfl, trivial⟩⟩ rfl rfl hl.1 rfl (lv_room (Nat.le_of_ble_eq_true rfl)) dX0_weekNumber_47 ⟨Nat.zero_le _, Nat.zero_le _⟩)) (fun r10 (hr10 : r10 = zi (f_X0_isNumber x9)) => ?_)
          subst hr10
          have hf10 := b_X0_isNumber x9 (by omega)
          refine zw_if_eq (tgt := 57) hx hb dX0_weekNumber_50 (by decide) ⟨by omega, by omega⟩ (fun h11 => ?_) (fun h11 => ?_)
          · skip
            refine zw_iconst hx hb dX0_weekNumber_57 ?_
            subst ex9
            exact W.iret (v := zi (-1)) hx hb hr (fun t ht hW => ⟨zi (-1), rfl, by rw [f_X0_weekNumber, if_neg h2, if_neg h4, if_neg (Int.not_lt.mpr h5), if_pos h7, if_pos h11], ht⟩) (fun q h => by cases h) dX0_weekNumber_58
          · skip
            refine lv_iload_n hx hb dX0_weekNumber_53 rfl (lv_at hl 0 rfl) ?_
            refine lv_goto (tgt := 58) hx hb dX0_weekNumber_54 (by decide) ?_
            subst ex9
            exact W.iret (v := zi ((((f_X0_firstMonday ya) + (7 * (wk - 1))) + wd) - 1)) hx hb hr (fun t ht hW => ⟨zi ((((f_X0_firstMonday ya) + (7 * (wk - 1))) + wd) - 1), rfl, by rw [f_X0_weekNumber, if_neg h2, if_neg h4, if_neg (Int.not_lt.mpr h5), if_pos h7, if_neg h11], ht⟩) (fun q h => by cases h) dX0_weekNumber_58
        · skip
          refine zw_iconst hx hb dX0_weekNumber_27 ?_
          exact W.iret (v := zi (-1)) hx hb hr (fun t ht hW => ⟨zi (-1), rfl, by rw [f_X0_weekNumber, if_neg h2, if_neg h4, if_neg (Int.not_lt.mpr h5), if_neg (Int.not_le.mpr h7)], ht⟩) (fun q h => by cases h) dX0_weekNumber_28

set_option maxHeartbeats 4000000 in
set_option maxRecDepth 100000 in
theorem c_X0_easterNumber (l : Launch) (ya : Int) (hp0 : -2147483648 ≤ ya ∧ ya ≤ 2147483647) : Met l yX0_easterNumber wsX0_easterNumber ({ frames := 2, cells := 0, slots := 0, locals := 43 }) (va_Pc [.int (zi ya)] (fun _ => True)) (vp_Si (fun r => r = zi (f_X0_easterNumber ya))) 0 0 (fun _ => False) := by
  refine Met.ofW (cc := cX0_easterNumber) (maxL := 6) (ret := (some .int)) (by decide) rfl ?_
  intro p e s m args below meth c s₁ B hml hv
  obtain ⟨rfl, -⟩ := hv
  have hx := B.exec
  have hb := B.bytes
  have hr := B.returns
  have hts := atoms_spec (ws := wsX0_easterNumber) B.pre
  have hown : s.vm.findClass RX0 = some m.cls := findClass_of_methodNamed B.named
  have hlocks := B.notSynchronized
  have hl := lv_entry ([.int (zi ya)]) (n := 6) (Nat.le_of_ble_eq_true rfl)
  rw [lg_entry_eq]
  generalize (lg_sl ([.int (zi ya)]) ++ List.replicate (6 - (lg_sl ([.int (zi ya)])).length) Slot.unset).toArray = ls at hl ⊢
  have hl : lv_has ls 6 [(0, .int (zi ya))] := hl
  refine lv_iload_n hx hb dX0_easterNumber_0 rfl (lv_at hl 0 rfl) ?_
  refine zw_sipush hx hb dX0_easterNumber_1 (by decide) ?_
  refine zw_icmp_lt (tgt := 14) hx hb dX0_easterNumber_4 (by decide) ⟨by omega, by omega⟩ ⟨by omega, by omega⟩ (fun h1 => ?_) (fun h1 => ?_)
  · skip
    refine zw_iconst hx hb dX0_easterNumber_14 ?_
    exact W.iret (v := zi (-1)) hx hb hr (fun t ht hW => ⟨zi (-1), rfl, by rw [f_X0_easterNumber, if_pos h1], ht⟩) (fun q h => by cases h) dX0_easterNumber_15
  · skip
    refine lv_iload_n hx hb dX0_easterNumber_7 rfl (lv_at hl 0 rfl) ?_
    refine zw_sipush hx hb dX0_easterNumber_8 (by decide) ?_
    refine zw_icmp_le (tgt := 16) hx hb dX0_easterNumber_11 (by decide) ⟨by omega, by omega⟩ ⟨by omega, by omega⟩ (fun h2 => ?_) (fun h2 => ?_)
    · skip
      refine lv_iload_n hx hb dX0_easterNumber_16 rfl (lv_at hl 0 rfl) ?_
      refine zw_bipush hx hb dX0_easterNumber_17 (by decide) ?_
      refine zw_irem hx hb dX0_easterNumber_19 (by omega) ⟨by omega, by omega⟩ ⟨by omega, by omega⟩ (by omega) ?_
      refine zw_top (fun x3 ex3 => ?_)
      refine lv_istore_n (lv' := [(1, .int (zi x3)), (0, .int (zi ya))]) hx hb dX0_easterNumber_20 rfl hl (by decide) rfl (fun ls hl => ?_)
      refine lv_iload_n hx hb dX0_easterNumber_21 rfl (lv_at hl 1 rfl) ?_
      refine zw_bipush hx hb dX0_easterNumber_22 (by decide) ?_
      refine zw_idiv hx hb dX0_easterNumber_24 (by omega) ⟨by omega, by omega⟩ ⟨by omega, by omega⟩ (by omega) ?_
      refine zw_top (fun x4 ex4 => ?_)
      refine lv_istore_n (lv' := [(2, .int (zi x4)), (1, .int (zi x3)), (0, .int (zi ya))]) hx hb dX0_easterNumber_25 rfl hl (by decide) rfl (fun ls hl => ?_)
      refine lv_iload_n hx hb dX0_easterNumber_26 rfl (lv_at hl 0 rfl) ?_
      refine lv_iload_n hx hb dX0_easterNumber_27 rfl (lv_at hl 0 rfl) ?_
      refine zw_iconst hx hb dX0_easterNumber_28 ?_
      refine zw_idiv hx hb dX0_easterNumber_29 (by omega) ⟨by omega, by omega⟩ ⟨by omega, by omega⟩ (by omega) ?_
      refine zw_isub hx hb dX0_easterNumber_30 ?_
      refine zw_bipush hx hb dX0_easterNumber_31 (by decide) ?_
      refine lv_iload_n hx hb dX0_easterNumber_33 rfl (lv_at hl 0 rfl) ?_
      refine zw_imul hx hb dX0_easterNumber_34 ?_
      refine zw_bipush hx hb dX0_easterNumber_35 (by decide) ?_
      refine zw_iadd hx hb dX0_easterNumber_37 ?_
      refine zw_bipush hx hb dX0_easterNumber_38 (by decide) ?_
      refine zw_idiv hx hb dX0_easterNumber_40 (by omega) ⟨by omega, by omega⟩ ⟨by omega, by omega⟩ (by omega) ?_
      refine zw_isub hx hb dX0_easterNumber_41 ?_
      refine zw_bipush hx hb dX0_easterNumber_42 (by decide) ?_
      refine lv_iload_n hx hb dX0_easterNumber_44 rfl (lv_at hl 1 rfl) ?_
      refine zw_imul hx hb dX0_easterNumber_45 ?_
      refine zw_iadd hx hb dX0_easterNumber_46 ?_
      refine zw_bipush hx hb dX0_easterNumber_47 (by decide) ?_
      refine zw_iadd hx hb dX0_easterNumber_49 ?_
      refine zw_bipush hx hb dX0_easterNumber_50 (by decide) ?_
      refine zw_irem hx hb dX0_easterNumber_52 (by omega) ⟨by omega, by omega⟩ ⟨by omega, by omega⟩ (by omega) ?_
      refine zw_top (fun x5 ex5 => ?_)
      refine lv_istore_n (lv' := [(3, .int (zi x5)), (2, .int (zi x4)), (1, .int (zi x3)), (0, .int (zi ya))]) hx hb dX0_easterNumber_53 rfl hl (by decide) rfl (fun ls hl => ?_)
      refine lv_iload_n hx hb dX0_easterNumber_54 rfl (lv_at hl 0 rfl) ?_
      refine zw_bipush hx hb dX0_easterNumber_55 (by decide) ?_
      refine zw_icmp_ne (tgt := 65) hx hb dX0_easterNumber_57 (by decide) ⟨by omega, by omega⟩ ⟨by omega, by omega⟩ (fun h6 => ?_) (fun h6 => ?_)
      · skip
        refine lv_iload_n hx hb dX0_easterNumber_65 rfl (lv_at hl 0 rfl) ?_
        refine zw_bipush hx hb dX0_easterNumber_66 (by decide) ?_
        refine zw_icmp_ne (tgt := 82) hx hb dX0_easterNumber_68 (by decide) ⟨by omega, by omega⟩ ⟨by omega, by omega⟩ (fun h7 => ?_) (fun h7 => ?_)
        · skip
          refine lv_iload_n hx hb dX0_easterNumber_82 rfl (lv_at hl 0 rfl) ?_
          refine lv_istore (lv' := [(4, .int (zi x5)), (3, .int (zi x5)), (2, .int (zi x4)), (1, .int (zi x3)), (0, .int (zi ya))]) hx hb dX0_easterNumber_83 hl (by decide) rfl (fun ls hl => ?_)
          refine lv_iload_n hx hb dX0_easterNumber_85 rfl (lv_at hl 4 rfl) ?_
          refine zw_iconst hx hb dX0_easterNumber_86 ?_
          have hh8 := c_X0_monthStart l ya 3 (by omega) (by omega)
          refine vp_callSi (va_Run.run (va_runS (As := [.int (zi ya), .int (zi 3)]) (rest := []) ⟨hx, hb, hml, hown, hts⟩ hh8 (va_cwS 2 hts gX0_easterNumber_X0_monthStart rfl rfl rfl (by decide +kernel) ⟨Nat.le_of_ble_eq_true rfl, Nat.le_of_ble_eq_true rfl⟩) ⟨fun a U g mk q => q, fun U hU hW => ⟨rfl, trivial⟩⟩ rfl rfl hl.1 rfl (lv_room (Nat.le_of_ble_eq_true rfl)) dX0_easterNumber_87 ⟨Nat.zero_le _, Nat.zero_le _⟩)) (fun r8 (hr8 : r8 = zi (f_X0_monthStart ya 3)) => ?_)
          subst hr8
          have hf8 := b_X0_monthStart ya 3 (by omega) (by omega)
          refine zw_bipush hx hb dX0_easterNumber_90 (by decide) ?_
          refine zw_iadd hx hb dX0_easterNumber_92 ?_
          refine zw_top (fun x9 ex9 => ?_)
          refine lv_istore (lv' := [(5, .int (zi x9)), (4, .int (zi x5)), (3, .int (zi x5)), (2, .int (zi x4)), (1, .int (zi x3)), (0, .int (zi ya))]) hx hb dX0_easterNumber_93 hl (by decide) rfl (fun ls hl => ?_)
          refine lv_iload hx hb dX0_easterNumber_95 (lv_at hl 0 rfl) ?_
          refine lv_iload hx hb dX0_easterNumber_97 (lv_at hl 1 rfl) ?_
          refine zw_iadd hx hb dX0_easterNumber_99 ?_
          refine zw_iconst hx hb dX0_easterNumber_100 ?_
          refine zw_iadd hx hb dX0_easterNumber_101 ?_
          refine zw_bipush hx hb dX0_easterNumber_102 (by decide) ?_
          have hh10 := c_X0_onOrBehind l ((x9 + x5) + 1) 7 (by omega) (by omega)
          refine vp_callSi (va_Run.run (va_runS (As := [.int (zi ((x9 + x5) + 1)), .int (zi 7)]) (rest := []) ⟨hx, hb, hml, hown, hts⟩ hh10 (va_cwS 2 hts gX0_easterNumber_X0_onOrBehind rfl rfl rfl (by decide +kernel) ⟨Nat.le_of_ble_eq_true rfl, Nat.le_of_ble_eq_true rfl⟩) ⟨fun a U g mk q => q, fun U hU hW => ⟨rfl, trivial⟩⟩ rfl rfl hl.1 rfl (lv_room (Nat.le_of_ble_eq_true rfl)) dX0_easterNumber_104 ⟨Nat.zero_le _, Nat.zero_le _⟩)) (fun r10 (hr10 : r10 = zi (f_X0_onOrBehind ((x9 + x5) + 1) 7)) => ?_)
          subst hr10
          have hf10 := b_X0_onOrBehind ((x9 + x5) + 1) 7 (by omega) (by omega)
          subst ex3 ex4 ex5 ex9
          exact W.iret (v := zi (f_X0_onOrBehind ((((f_X0_monthStart ya 3) + 20) + ((((((ya / 100) - ((ya / 100) / 4)) - (((8 * (ya / 100)) + 13) / 25)) + (19 * (ya % 19))) + 15) % 30)) + 1) 7)) hx hb hr (fun t ht hW => ⟨zi (f_X0_onOrBehind ((((f_X0_monthStart ya 3) + 20) + ((((((ya / 100) - ((ya / 100) / 4)) - (((8 * (ya / 100)) + 13) / 25)) + (19 * (ya % 19))) + 15) % 30)) + 1) 7), rfl, by rw [f_X0_easterNumber, if_neg (Int.not_lt.mpr h1), if_pos h2, if_neg h6, if_neg h7], ht⟩) (fun q h => by cases h) dX0_easterNumber_107
        · skip
          refine lv_iload_n hx hb dX0_easterNumber_71 rfl (lv_at hl 2 rfl) ?_
          refine zw_bipush hx hb dX0_easterNumber_72 (by decide) ?_
          refine zw_icmp_le (tgt := 82) hx hb dX0_easterNumber_74 (by decide) ⟨by omega, by omega⟩ ⟨by omega, by omega⟩ (fun h11 => ?_) (fun h11 => ?_)
          · skip
            refine lv_iload_n hx hb dX0_easterNumber_82 rfl (lv_at hl 0 rfl) ?_
            refine lv_istore (lv' := [(4, .int (zi x5)), (3, .int (zi x5)), (2, .int (zi x4)), (1, .int (zi x3)), (0, .int (zi ya))]) hx hb dX0_easterNumber_83 hl (by decide) rfl (fun ls hl => ?_)
            refine lv_iload_n hx hb dX0_easterNumber_85 rfl (lv_at hl 4 rfl) ?_
            refine zw_iconst hx hb dX0_easterNumber_86 ?_
            have hh12 := c_X0_monthStart l ya 3 (by omega) (by omega)
            refine vp_callSi (va_Run.run (va_runS (As := [.int (zi ya), .int (zi 3)]) (rest := []) ⟨hx, hb, hml, hown, hts⟩ hh12 (va_cwS 2 hts gX0_easterNumber_X0_monthStart rfl rfl rfl (by decide +kernel) ⟨Nat.le_of_ble_eq_true rfl, Nat.le_of_ble_eq_true rfl⟩) ⟨fun a U g mk q => q, fun U hU hW => ⟨rfl, trivial⟩⟩ rfl rfl hl.1 rfl (lv_room (Nat.le_of_ble_eq_true rfl)) dX0_easterNumber_87 ⟨Nat.zero_le _, Nat.zero_le _⟩)) (fun r12 (hr12 : r12 = zi (f_X0_monthStart ya 3)) => ?_)
            subst hr12
            have hf12 := b_X0_monthStart ya 3 (by omega) (by omega)
            refine zw_bipush hx hb dX0_easterNumber_90 (by decide) ?_
            refine zw_iadd hx hb dX0_easterNumber_92 ?_
            refine zw_top (fun x13 ex13 => ?_)
            refine lv_istore (lv' := [(5, .int (zi x13)), (4, .int (zi x5)), (3, .int (zi x5)), (2, .int (zi x4)), (1, .int (zi x3)), (0, .int (zi ya))]) hx hb dX0_easterNumber_93 hl (by decide) rfl (fun ls hl => ?_)
            refine lv_iload hx hb dX0_easterNumber_95 (lv_at hl 0 rfl) ?_
            refine lv_iload hx hb dX0_easterNumber_97 (lv_at hl 1 rfl) ?_
            refine zw_iadd hx hb dX0_easterNumber_99 ?_
            refine zw_iconst hx hb dX0_easterNumber_100 ?_
            refine zw_iadd hx hb dX0_easterNumber_101 ?_
            refine zw_bipush hx hb dX0_easterNumber_102 (by decide) ?_
            have hh14 := c_X0_onOrBehind l ((x13 + x5) + 1) 7 (by omega) (by omega)
            refine vp_callSi (va_Run.run (va_runS (As := [.int (zi ((x13 + x5) + 1)), .int (zi 7)]) (rest := []) ⟨hx, hb, hml, hown, hts⟩ hh14 (va_cwS 2 hts gX0_easterNumber_X0_onOrBehind rfl rfl rfl (by decide +kernel) ⟨Nat.le_of_ble_eq_true rfl, Nat.le_of_ble_eq_true rfl⟩) ⟨fun a U g mk q => q, fun U hU hW => ⟨rfl, trivial⟩⟩ rfl rfl hl.1 rfl (lv_room (Nat.le_of_ble_eq_true rfl)) dX0_easterNumber_104 ⟨Nat.zero_le _, Nat.zero_le _⟩)) (fun r14 (hr14 : r14 = zi (f_X0_onOrBehind ((x13 + x5) + 1) 7)) => ?_)
            subst hr14
            have hf14 := b_X0_onOrBehind ((x13 + x5) + 1) 7 (by omega) (by omega)
            subst ex3 ex4 ex5 ex13
            exact W.iret (v := zi (f_X0_onOrBehind ((((f_X0_monthStart ya 3) + 20) + ((((((ya / 100) - ((ya / 100) / 4)) - (((8 * (ya / 100)) + 13) / 25)) + (19 * (ya % 19))) + 15) % 30)) + 1) 7)) hx hb hr (fun t ht hW => ⟨zi (f_X0_onOrBehind ((((f_X0_monthStart ya 3) + 20) + ((((((ya / 100) - ((ya / 100) / 4)) - (((8 * (ya / 100)) + 13) / 25)) + (19 * (ya % 19))) + 15) % 30)) + 1) 7), rfl, by rw [f_X0_easterNumber, if_neg (Int.not_lt.mpr h1), if_pos h2, if_neg h6, if_pos h7, if_pos h11], ht⟩) (fun q h => by cases h) dX0_easterNumber_107
          · skip
            refine zw_bipush hx hb dX0_easterNumber_77 (by decide) ?_
            refine lv_goto (tgt := 83) hx hb dX0_easterNumber_79 (by decide) ?_
            refine lv_istore (lv' := [(4, .int (zi 27)), (3, .int (zi x5)), (2, .int (zi x4)), (1, .int (zi x3)), (0, .int (zi ya))]) hx hb dX0_easterNumber_83 hl (by decide) rfl (fun ls hl => ?_)
            refine lv_iload_n hx hb dX0_easterNumber_85 rfl (lv_at hl 4 rfl) ?_
            refine zw_iconst hx hb dX0_easterNumber_86 ?_
            have hh15 := c_X0_monthStart l ya 3 (by omega) (by omega)
            refine vp_callSi (va_Run.run (va_runS (As := [.int (zi ya), .int (zi 3)]) (rest := []) ⟨hx, hb, hml, hown, hts⟩ hh15 (va_cwS 2 hts gX0_easterNumber_X0_monthStart rfl rfl rfl (by decide +kernel) ⟨Nat.le_of_ble_eq_true rfl, Nat.le_of_ble_eq_true rfl⟩) ⟨fun a U g mk q => q, fun U hU hW => ⟨rfl, trivial⟩⟩ rfl rfl hl.1 rfl (lv_room (Nat.le_of_ble_eq_true rfl)) dX0_easterNumber_87 ⟨Nat.zero_le _, Nat.zero_le _⟩)) (fun r15 (hr15 : r15 = zi (f_X0_monthStart ya 3)) => ?_)
            subst hr15
            have hf15 := b_X0_monthStart ya 3 (by omega) (by omega)
            refine zw_bipush hx hb dX0_easterNumber_90 (by decide) ?_
            refine zw_iadd hx hb dX0_easterNumber_92 ?_
            refine zw_top (fun x16 ex16 => ?_)
            refine lv_istore (lv' := [(5, .int (zi x16)), (4, .int (zi 27)), (3, .int (zi x5)), (2, .int (zi x4)), (1, .int (zi x3)), (0, .int (zi ya))]) hx hb dX0_easterNumber_93 hl (by decide) rfl (fun ls hl => ?_)
            refine lv_iload hx hb dX0_easterNumber_95 (lv_at hl 0 rfl) ?_
            refine lv_iload hx hb dX0_easterNumber_97 (lv_at hl 1 rfl) ?_
            refine zw_iadd hx hb dX0_easterNumber_99 ?_
            refine zw_iconst hx hb dX0_easterNumber_100 ?_
            refine zw_iadd hx hb dX0_easterNumber_101 ?_
            refine zw_bipush hx hb dX0_easterNumber_102 (by decide) ?_
            have hh17 := c_X0_onOrBehind l ((x16 + 27) + 1) 7 (by omega) (by omega)
            refine vp_callSi (va_Run.run (va_runS (As := [.int (zi ((x16 + 27) + 1)), .int (zi 7)]) (rest := []) ⟨hx, hb, hml, hown, hts⟩ hh17 (va_cwS 2 hts gX0_easterNumber_X0_onOrBehind rfl rfl rfl (by decide +kernel) ⟨Nat.le_of_ble_eq_true rfl, Nat.le_of_ble_eq_true rfl⟩) ⟨fun a U g mk q => q, fun U hU hW => ⟨rfl, trivial⟩⟩ rfl rfl hl.1 rfl (lv_room (Nat.le_of_ble_eq_true rfl)) dX0_easterNumber_104 ⟨Nat.zero_le _, Nat.zero_le _⟩)) (fun r17 (hr17 : r17 = zi (f_X0_onOrBehind ((x16 + 27) + 1) 7)) => ?_)
            subst hr17
            have hf17 := b_X0_onOrBehind ((x16 + 27) + 1) 7 (by omega) (by omega)
            subst ex3 ex4 ex5 ex16
            exact W.iret (v := zi (f_X0_onOrBehind ((((f_X0_monthStart ya 3) + 20) + 27) + 1) 7)) hx hb hr (fun t ht hW => ⟨zi (f_X0_onOrBehind ((((f_X0_monthStart ya 3) + 20) + 27) + 1) 7), rfl, by rw [f_X0_easterNumber, if_neg (Int.not_lt.mpr h1), if_pos h2, if_neg h6, if_pos h7, if_neg (Int.not_le.mpr h11)], ht⟩) (fun q h => by cases h) dX0_easterNumber_107
      · skip
        refine zw_bipush hx hb dX0_easterNumber_60 (by decide) ?_
        refine lv_goto (tgt := 83) hx hb dX0_easterNumber_62 (by decide) ?_
        refine lv_istore (lv' := [(4, .int (zi 28)), (3, .int (zi x5)), (2, .int (zi x4)), (1, .int (zi x3)), (0, .int (zi ya))]) hx hb dX0_easterNumber_83 hl (by decide) rfl (fun ls hl => ?_)
        refine lv_iload_n hx hb dX0_easterNumber_85 rfl (lv_at hl 4 rfl) ?_
        refine zw_iconst hx hb dX0_easterNumber_86 ?_
        have hh18 := c_X0_monthStart l ya 3 (by omega) (by omega)
        refine vp_callSi (va_Run.run (va_runS (As := [.int (zi ya), .int (zi 3)]) (rest := []) ⟨hx, hb, hml, hown, hts⟩ hh18 (va_cwS 2 hts gX0_easterNumber_X0_monthStart rfl rfl rfl (by decide +kernel) ⟨Nat.le_of_ble_eq_true rfl, Nat.le_of_ble_eq_true rfl⟩) ⟨fun a U g mk q => q, fun U hU hW => ⟨rfl, trivial⟩⟩ rfl rfl hl.1 rfl (lv_room (Nat.le_of_ble_eq_true rfl)) dX0_easterNumber_87 ⟨Nat.zero_le _, Nat.zero_le _⟩)) (fun r18 (hr18 : r18 = zi (f_X0_monthStart ya 3)) => ?_)
        subst hr18
        have hf18 := b_X0_monthStart ya 3 (by omega) (by omega)
        refine zw_bipush hx hb dX0_easterNumber_90 (by decide) ?_
        refine zw_iadd hx hb dX0_easterNumber_92 ?_
        refine zw_top (fun x19 ex19 => ?_)
        refine lv_istore (lv' := [(5, .int (zi x19)), (4, .int (zi 28)), (3, .int (zi x5)), (2, .int (zi x4)), (1, .int (zi x3)), (0, .int (zi ya))]) hx hb dX0_easterNumber_93 hl (by decide) rfl (fun ls hl => ?_)
        refine lv_iload hx hb dX0_easterNumber_95 (lv_at hl 0 rfl) ?_
        refine lv_iload hx hb dX0_easterNumber_97 (lv_at hl 1 rfl) ?_
        refine zw_iadd hx hb dX0_easterNumber_99 ?_
        refine zw_iconst hx hb dX0_easterNumber_100 ?_
        refine zw_iadd hx hb dX0_easterNumber_101 ?_
        refine zw_bipush hx hb dX0_easterNumber_102 (by decide) ?_
        have hh20 := c_X0_onOrBehind l ((x19 + 28) + 1) 7 (by omega) (by omega)
        refine vp_callSi (va_Run.run (va_runS (As := [.int (zi ((x19 + 28) + 1)), .int (zi 7)]) (rest := []) ⟨hx, hb, hml, hown, hts⟩ hh20 (va_cwS 2 hts gX0_easterNumber_X0_onOrBehind rfl rfl rfl (by decide +kernel) ⟨Nat.le_of_ble_eq_true rfl, Nat.le_of_ble_eq_true rfl⟩) ⟨fun a U g mk q => q, fun U hU hW => ⟨rfl, trivial⟩⟩ rfl rfl hl.1 rfl (lv_room (Nat.le_of_ble_eq_true rfl)) dX0_easterNumber_104 ⟨Nat.zero_le _, Nat.zero_le _⟩)) (fun r20 (hr20 : r20 = zi (f_X0_onOrBehind ((x19 + 28) + 1) 7)) => ?_)
        subst hr20
        have hf20 := b_X0_onOrBehind ((x19 + 28) + 1) 7 (by omega) (by omega)
        subst ex3 ex4 ex5 ex19
        exact W.iret (v := zi (f_X0_onOrBehind ((((f_X0_monthStart ya 3) + 20) + 28) + 1) 7)) hx hb hr (fun t ht hW => ⟨zi (f_X0_onOrBehind ((((f_X0_monthStart ya 3) + 20) + 28) + 1) 7), rfl, by rw [f_X0_easterNumber, if_neg (Int.not_lt.mpr h1), if_pos h2, if_pos h6], ht⟩) (fun q h => by cases h) dX0_easterNumber_107
    · skip
      refine zw_iconst hx hb dX0_easterNumber_14 ?_
      exact W.iret (v := zi (-1)) hx hb hr (fun t ht hW => ⟨zi (-1), rfl, by rw [f_X0_easterNumber, if_neg (Int.not_lt.mpr h1), if_neg (Int.not_le.mpr h2)], ht⟩) (fun q h => by cases h) dX0_easterNumber_15

set_option maxHeartbeats 4000000 in
set_option maxRecDepth 100000 in
theorem c_X0_nthNumber (l : Launch) (ya : Int) (mo : Int) (wd : Int) (nn : Int) (hp0 : -2147483648 ≤ ya ∧ ya ≤ 2147483647) (hp1 : -2147483648 ≤ mo ∧ mo ≤ 2147483647) (hp2 : -2147483648 ≤ wd ∧ wd ≤ 2147483647) (hp3 : -2147483648 ≤ nn ∧ nn ≤ 2147483647) : Met l yX0_nthNumber wsX0_nthNumber ({ frames := 2, cells := 0, slots := 0, locals := 43 }) (va_Pc [.int (zi ya), .int (zi mo), .int (zi wd), .int (zi nn)] (fun _ => True)) (vp_Si (fun r => r = zi (f_X0_nthNumber ya mo wd nn))) 0 0 (fun _ => False) := by
  refine Met.ofW (cc := cX0_nthNumber) (maxL := 7) (ret := (some .int)) (by decide) rfl ?_
  intro p e s m args below meth c s₁ B hml hv
  obtain ⟨rfl, -⟩ := hv
  have hx := B.exec
  have hb := B.bytes
  have hr := B.returns
  have hts := atoms_spec (ws := wsX0_nthNumber) B.pre
  have hown : s.vm.findClass RX0 = some m.cls := findClass_of_methodNamed B.named
  have hlocks := B.notSynchronized
  have hl := lv_entry ([.int (zi ya), .int (zi mo), .int (zi wd), .int (zi nn)]) (n := 7) (Nat.le_of_ble_eq_true rfl)
  rw [lg_entry_eq]
  generalize (lg_sl ([.int (zi ya), .int (zi mo), .int (zi wd), .int (zi nn)]) ++ List.replicate (7 - (lg_sl ([.int (zi ya), .int (zi mo), .int (zi wd), .int (zi nn)])).length) Slot.unset).toArray = ls at hl ⊢
  have hl : lv_has ls 7 [(0, .int (zi ya)), (1, .int (zi mo)), (2, .int (zi wd)), (3, .int (zi nn))] := hl
  refine lv_iload_n hx hb dX0_nthNumber_0 rfl (lv_at hl 0 rfl) ?_
  have hh1 := c_X0_isYear l ya (by omega)
  refine vp_callSi (va_Run.run (va_runS (As := [.int (zi ya)]) (rest := []) ⟨hx, hb, hml, hown, hts⟩ hh1 (va_cwS 1 hts gX0_nthNumber_X0_isYear rfl rfl rfl (by decide +kernel) ⟨Nat.le_of_ble_eq_true rfl, Nat.le_of_ble_eq_true rfl⟩) ⟨fun a U g mk q => q, fun U hU hW => ⟨rfl, trivial⟩⟩ rfl rfl hl.1 rfl (lv_room (Nat.le_of_ble_eq_true rfl)) dX0_nthNumber_1 ⟨Nat.zero_le _, Nat.zero_le _⟩)) (fun r1 (hr1 : r1 = zi (f_X0_isYear ya)) => ?_)
  subst hr1
  have hf1 := b_X0_isYear ya (by omega)
  refine zw_if_eq (tgt := 21) hx hb dX0_nthNumber_4 (by decide) ⟨by omega, by omega⟩ (fun h2 => ?_) (fun h2 => ?_)
  · skip
    refine zw_iconst hx hb dX0_nthNumber_21 ?_
    exact W.iret (v := zi (-1)) hx hb hr (fun t ht hW => ⟨zi (-1), rfl, by rw [f_X0_nthNumber, if_pos h2], ht⟩) (fun q h => by cases h) dX0_nthNumber_22
  · skip
    refine lv_iload_n hx hb dX0_nthNumber_7 rfl (lv_at hl 1 rfl) ?_
    have hh3 := c_X0_isMonth l mo (by omega)
    refine vp_callSi (va_Run.run (va_runS (As := [.int (zi mo)]) (rest := []) ⟨hx, hb, hml, hown, hts⟩ hh3 (va_cwS 1 hts gX0_nthNumber_X0_isMonth rfl rfl rfl (by decide +kernel) ⟨Nat.le_of_ble_eq_true rfl, Nat.le_of_ble_eq_true rfl⟩) ⟨fun a U g mk q => q, fun U hU hW => ⟨rfl, trivial⟩⟩ rfl rfl hl.1 rfl (lv_room (Nat.le_of_ble_eq_true rfl)) dX0_nthNumber_8 ⟨Nat.zero_le _, Nat.zero_le _⟩)) (fun r3 (hr3 : r3 = zi (f_X0_isMonth mo)) => ?_)
    subst hr3
    have hf3 := b_X0_isMonth mo (by omega)
    refine zw_if_eq (tgt := 21) hx hb dX0_nthNumber_11 (by decide) ⟨by omega, by omega⟩ (fun h4 => ?_) (fun h4 => ?_)
    · skip
      refine zw_iconst hx hb dX0_nthNumber_21 ?_
      exact W.iret (v := zi (-1)) hx hb hr (fun t ht hW => ⟨zi (-1), rfl, by rw [f_X0_nthNumber, if_neg h2, if_pos h4], ht⟩) (fun q h => by cases h) dX0_nthNumber_22
    · skip
      refine lv_iload_n hx hb dX0_nthNumber_14 rfl (lv_at hl 2 rfl) ?_
      have hh5 := c_X0_isWeekday l wd (by omega)
      refine vp_callSi (va_Run.run (va_runS (As := [.int (zi wd)]) (rest := []) ⟨hx, hb, hml, hown, hts⟩ hh5 (va_cwS 1 hts gX0_nthNumber_X0_isWeekday rfl rfl rfl (by decide +kernel) ⟨Nat.le_of_ble_eq_true rfl, Nat.le_of_ble_eq_true rfl⟩) ⟨fun a U g mk q => q, fun U hU hW => ⟨rfl, trivial⟩⟩ rfl rfl hl.1 rfl (lv_room (Nat.le_of_ble_eq_true rfl)) dX0_nthNumber_15 ⟨Nat.zero_le _, Nat.zero_le _⟩)) (fun r5 (hr5 : r5 = zi (f_X0_isWeekday wd)) => ?_)
      subst hr5
      have hf5 := b_X0_isWeekday wd (by omega)
      refine zw_if_ne (tgt := 23) hx hb dX0_nthNumber_18 (by decide) ⟨by omega, by omega⟩ (fun h6 => ?_) (fun h6 => ?_)
      · skip
        refine lv_iload_n hx hb dX0_nthNumber_23 rfl (lv_at hl 3 rfl) ?_
        refine zw_if_eq (tgt := 38) hx hb dX0_nthNumber_24 (by decide) ⟨by omega, by omega⟩ (fun h7 => ?_) (fun h7 => ?_)
        · skip
          refine zw_iconst hx hb dX0_nthNumber_38 ?_
          exact W.iret (v := zi (-1)) hx hb hr (fun t ht hW => ⟨zi (-1), rfl, by rw [f_X0_nthNumber, if_neg h2, if_neg h4, if_neg h6, if_pos h7], ht⟩) (fun q h => by cases h) dX0_nthNumber_39
        · skip
          refine lv_iload_n hx hb dX0_nthNumber_27 rfl (lv_at hl 3 rfl) ?_
          refine zw_bipush hx hb dX0_nthNumber_28 (by decide) ?_
          refine zw_icmp_lt (tgt := 38) hx hb dX0_nthNumber_30 (by decide) ⟨by omega, by omega⟩ ⟨by omega, by omega⟩ (fun h8 => ?_) (fun h8 => ?_)
          · skip
            refine zw_iconst hx hb dX0_nthNumber_38 ?_
            exact W.iret (v := zi (-1)) hx hb hr (fun t ht hW => ⟨zi (-1), rfl, by rw [f_X0_nthNumber, if_neg h2, if_neg h4, if_neg h6, if_neg h7, if_pos h8], ht⟩) (fun q h => by cases h) dX0_nthNumber_39
          · skip
            refine lv_iload_n hx hb dX0_nthNumber_33 rfl (lv_at hl 3 rfl) ?_
            refine zw_iconst hx hb dX0_nthNumber_34 ?_
            refine zw_icmp_le (tgt := 40) hx hb dX0_nthNumber_35 (by decide) ⟨by omega, by omega⟩ ⟨by omega, by omega⟩ (fun h9 => ?_) (fun h9 => ?_)
            · skip
              refine lv_iload_n hx hb dX0_nthNumber_40 rfl (lv_at hl 0 rfl) ?_
              refine lv_iload_n hx hb dX0_nthNumber_41 rfl (lv_at hl 1 rfl) ?_
              have hh10 := c_X0_monthStart l ya mo (by omega) (by omega)
              refine vp_callSi (va_Run.run (va_runS (As := [.int (zi ya), .int (zi mo)]) (rest := []) ⟨hx, hb, hml, hown, hts⟩ hh10 (va_cwS 2 hts gX0_nthNumber_X0_monthStart rfl rfl rfl (by decide +kernel) ⟨Nat.le_of_ble_eq_true rfl, Nat.le_of_ble_eq_true rfl⟩) ⟨fun a U g mk q => q, fun U hU hW => ⟨rfl, trivial⟩⟩ rfl rfl hl.1 rfl (lv_room (Nat.le_of_ble_eq_true rfl)) dX0_nthNumber_42 ⟨Nat.zero_le _, Nat.zero_le _⟩)) (fun r10 (hr10 : r10 = zi (f_X0_monthStart ya mo)) => ?_)
              subst hr10
              have hf10 := b_X0_monthStart ya mo (by omega) (by omega)
              refine zw_top (fun x11 ex11 => ?_)
              refine lv_istore (lv' := [(4, .int (zi x11)), (0, .int (zi ya)), (1, .int (zi mo)), (2, .int (zi wd)), (3, .int (zi nn))]) hx hb dX0_nthNumber_45 hl (by decide) rfl (fun ls hl => ?_)
              refine lv_iload hx hb dX0_nthNumber_47 (lv_at hl 0 rfl) ?_
              refine lv_iload_n hx hb dX0_nthNumber_49 rfl (lv_at hl 1 rfl) ?_
              refine lv_iload_n hx hb dX0_nthNumber_50 rfl (lv_at hl 2 rfl) ?_
              have hh12 := c_X0_monthLength l ya mo (by omega) (by omega)
              refine vp_callSi (va_Run.run (va_runS (As := [.int (zi ya), .int (zi mo)]) (rest := [.int (zi x11)]) ⟨hx, hb, hml, hown, hts⟩ hh12 (va_cwS 2 hts gX0_nthNumber_X0_monthLength rfl rfl rfl (by decide +kernel) ⟨Nat.le_of_ble_eq_true rfl, Nat.le_of_ble_eq_true rfl⟩) ⟨fun a U g mk q => q, fun U hU hW => ⟨rfl, trivial⟩⟩ rfl rfl hl.1 rfl (lv_room (Nat.le_of_ble_eq_true rfl)) dX0_nthNumber_51 ⟨Nat.zero_le _, Nat.zero_le _⟩)) (fun r12 (hr12 : r12 = zi (f_X0_monthLength ya mo)) => ?_)
              subst hr12
              have hf12 := b_X0_monthLength ya mo (by omega) (by omega)
              refine zw_iadd hx hb dX0_nthNumber_54 ?_
              refine zw_iconst hx hb dX0_nthNumber_55 ?_
              refine zw_isub hx hb dX0_nthNumber_56 ?_
              refine zw_top (fun x13 ex13 => ?_)
              refine lv_istore (lv' := [(5, .int (zi x13)), (4, .int (zi x11)), (0, .int (zi ya)), (1, .int (zi mo)), (2, .int (zi wd)), (3, .int (zi nn))]) hx hb dX0_nthNumber_57 hl (by decide) rfl (fun ls hl => ?_)
              refine lv_iload_n hx hb dX0_nthNumber_59 rfl (lv_at hl 5 rfl) ?_
              refine zw_if_le (tgt := 79) hx hb dX0_nthNumber_60 (by decide) ⟨by omega, by omega⟩ (fun h14 => ?_) (fun h14 => ?_)
              · skip
                refine lv_iload hx hb dX0_nthNumber_79 (lv_at hl 0 rfl) ?_
                refine zw_bipush hx hb dX0_nthNumber_81 (by decide) ?_
                refine zw_isub hx hb dX0_nthNumber_83 ?_
                refine lv_iload_n hx hb dX0_nthNumber_84 rfl (lv_at hl 4 rfl) ?_
                have hh15 := c_X0_onOrBehind l (x13 - 6) wd (by omega) (by omega)
                refine vp_callSi (va_Run.run (va_runS (As := [.int (zi (x13 - 6)), .int (zi wd)]) (rest := []) ⟨hx, hb, hml, hown, hts⟩ hh15 (va_cwS 2 hts gX0_nthNumber_X0_onOrBehind rfl rfl rfl (by decide +kernel) ⟨Nat.le_of_ble_eq_true rfl, Nat.le_of_ble_eq_true rfl⟩) ⟨fun a U g mk q => q, fun U hU hW => ⟨rfl, trivial⟩⟩ rfl rfl hl.1 rfl (lv_room (Nat.le_of_ble_eq_true rfl)) dX0_nthNumber_85 ⟨Nat.zero_le _, Nat.zero_le _⟩)) (fun r15 (hr15 : r15 = zi (f_X0_onOrBehind (x13 - 6) wd)) => ?_)
                subst hr15
                have hf15 := b_X0_onOrBehind (x13 - 6) wd (by omega) (by omega)
                refine zw_bipush hx hb dX0_nthNumber_88 (by decide) ?_
                refine lv_iload_n hx hb dX0_nthNumber_90 rfl (lv_at hl 5 rfl) ?_
                refine zw_iconst hx hb dX0_nthNumber_91 ?_
                refine zw_iadd hx hb dX0_nthNumber_92 ?_
                refine zw_imul hx hb dX0_nthNumber_93 ?_
                refine zw_iadd hx hb dX0_nthNumber_94 ?_
                refine zw_top (fun x16 ex16 => ?_)
                refine lv_istore (lv' := [(6, .int (zi x16)), (5, .int (zi x13)), (4, .int (zi x11)), (0, .int (zi ya)), (1, .int (zi mo)), (2, .int (zi wd)), (3, .int (zi nn))]) hx hb dX0_nthNumber_95 hl (by decide) rfl (fun ls hl => ?_)
                refine lv_iload hx hb dX0_nthNumber_97 (lv_at hl 0 rfl) ?_
                refine lv_iload hx hb dX0_nthNumber_99 (lv_at hl 2 rfl) ?_
                refine zw_icmp_lt (tgt := 111) hx hb dX0_nthNumber_101 (by decide) ⟨by omega, by omega⟩ ⟨by omega, by omega⟩ (fun h17 => ?_) (fun h17 => ?_)
                · skip
                  refine zw_iconst hx hb dX0_nthNumber_111 ?_
                  refine lv_goto (tgt := 117) hx hb dX0_nthNumber_112 (by decide) ?_
                  subst ex11 ex13 ex16
                  exact W.iret (v := zi (-1)) hx hb hr (fun t ht hW => ⟨zi (-1), rfl, by rw [f_X0_nthNumber, if_neg h2, if_neg h4, if_neg h6, if_neg h7, if_neg (Int.not_lt.mpr h8), if_pos h9, if_pos h14, if_pos h17], ht⟩) (fun q h => by cases h) dX0_nthNumber_117
                · skip
                  refine lv_iload hx hb dX0_nthNumber_104 (lv_at hl 0 rfl) ?_
                  refine lv_iload hx hb dX0_nthNumber_106 (lv_at hl 1 rfl) ?_
                  refine zw_icmp_le (tgt := 115) hx hb dX0_nthNumber_108 (by decide) ⟨by omega, by omega⟩ ⟨by omega, by omega⟩ (fun h18 => ?_) (fun h18 => ?_)
                  · skip
                    refine lv_iload hx hb dX0_nthNumber_115 (lv_at hl 0 rfl) ?_
                    subst ex11 ex13 ex16
                    exact W.iret (v := zi ((f_X0_onOrBehind ((((f_X0_monthStart ya mo) + (f_X0_monthLength ya mo)) - 1) - 6) wd) + (7 * (nn + 1)))) hx hb hr (fun t ht hW => ⟨zi ((f_X0_onOrBehind ((((f_X0_monthStart ya mo) + (f_X0_monthLength ya mo)) - 1) - 6) wd) + (7 * (nn + 1))), rfl, by rw [f_X0_nthNumber, if_neg h2, if_neg h4, if_neg h6, if_neg h7, if_neg (Int.not_lt.mpr h8), if_pos h9, if_pos h14, if_neg (Int.not_lt.mpr h17), if_pos h18], ht⟩) (fun q h => by cases h) dX0_nthNumber_117
                  · skip
                    refine zw_iconst hx hb dX0_nthNumber_111 ?_
                    refine lv_goto (tgt := 117) hx hb dX0_nthNumber_112 (by decide) ?_
                    subst ex11 ex13 ex16
                    exact W.iret (v := zi (-1)) hx hb hr (fun t ht hW => ⟨zi (-1), rfl, by rw [f_X0_nthNumber, if_neg h2, if_neg h4, if_neg h6, if_neg h7, if_neg (Int.not_lt.mpr h8), if_pos h9, if_pos h14, if_neg (Int.not_lt.mpr h17), if_neg (Int.not_le.mpr h18)], ht⟩) (fun q h => by cases h) dX0_nthNumber_117
              · skip
                refine lv_iload hx hb dX0_nthNumber_63 (lv_at hl 1 rfl) ?_
                refine lv_iload_n hx hb dX0_nthNumber_65 rfl (lv_at hl 4 rfl) ?_
                have hh19 := c_X0_onOrBehind l x11 wd (by omega) (by omega)
                refine vp_callSi (va_Run.run (va_runS (As := [.int (zi x11), .int (zi wd)]) (rest := []) ⟨hx, hb, hml, hown, hts⟩ hh19 (va_cwS 2 hts gX0_nthNumber_X0_onOrBehind rfl rfl rfl (by decide +kernel) ⟨Nat.le_of_ble_eq_true rfl, Nat.le_of_ble_eq_true rfl⟩) ⟨fun a U g mk q => q, fun U hU hW => ⟨rfl, trivial⟩⟩ rfl rfl hl.1 rfl (lv_room (Nat.le_of_ble_eq_true rfl)) dX0_nthNumber_66 ⟨Nat.zero_le _, Nat.zero_le _⟩)) (fun r19 (hr19 : r19 = zi (f_X0_onOrBehind x11 wd)) => ?_)
                subst hr19
                have hf19 := b_X0_onOrBehind x11 wd (by omega) (by omega)
                refine zw_bipush hx hb dX0_nthNumber_69 (by decide) ?_
                refine lv_iload_n hx hb dX0_nthNumber_71 rfl (lv_at hl 5 rfl) ?_
                refine zw_iconst hx hb dX0_nthNumber_72 ?_
                refine zw_isub hx hb dX0_nthNumber_73 ?_
                refine zw_imul hx hb dX0_nthNumber_74 ?_
                refine zw_iadd hx hb dX0_nthNumber_75 ?_
                refine lv_goto (tgt := 95) hx hb dX0_nthNumber_76 (by decide) ?_
                refine zw_top (fun x20 ex20 => ?_)
                refine lv_istore (lv' := [(6, .int (zi x20)), (5, .int (zi x13)), (4, .int (zi x11)), (0, .int (zi ya)), (1, .int (zi mo)), (2, .int (zi wd)), (3, .int (zi nn))]) hx hb dX0_nthNumber_95 hl (by decide) rfl (fun ls hl => ?_)
                refine lv_iload hx hb dX0_nthNumber_97 (lv_at hl 0 rfl) ?_
                refine lv_iload hx hb dX0_nthNumber_99 (lv_at hl 2 rfl) ?_
                refine zw_icmp_lt (tgt := 111) hx hb dX0_nthNumber_101 (by decide) ⟨by omega, by omega⟩ ⟨by omega, by omega⟩ (fun h21 => ?_) (fun h21 => ?_)
                · skip
                  refine zw_iconst hx hb dX0_nthNumber_111 ?_
                  refine lv_goto (tgt := 117) hx hb dX0_nthNumber_112 (by decide) ?_
                  subst ex11 ex13 ex20
                  exact W.iret (v := zi (-1)) hx hb hr (fun t ht hW => ⟨zi (-1), rfl, by rw [f_X0_nthNumber, if_neg h2, if_neg h4, if_neg h6, if_neg h7, if_neg (Int.not_lt.mpr h8), if_pos h9, if_neg (Int.not_le.mpr h14), if_pos h21], ht⟩) (fun q h => by cases h) dX0_nthNumber_117
                · skip
                  refine lv_iload hx hb dX0_nthNumber_104 (lv_at hl 0 rfl) ?_
                  refine lv_iload hx hb dX0_nthNumber_106 (lv_at hl 1 rfl) ?_
                  refine zw_icmp_le (tgt := 115) hx hb dX0_nthNumber_108 (by decide) ⟨by omega, by omega⟩ ⟨by omega, by omega⟩ (fun h22 => ?_) (fun h22 => ?_)
                  · skip
                    refine lv_iload hx hb dX0_nthNumber_115 (lv_at hl 0 rfl) ?_
                    subst ex11 ex13 ex20
                    exact W.iret (v := zi ((f_X0_onOrBehind (f_X0_monthStart ya mo) wd) + (7 * (nn - 1)))) hx hb hr (fun t ht hW => ⟨zi ((f_X0_onOrBehind (f_X0_monthStart ya mo) wd) + (7 * (nn - 1))), rfl, by rw [f_X0_nthNumber, if_neg h2, if_neg h4, if_neg h6, if_neg h7, if_neg (Int.not_lt.mpr h8), if_pos h9, if_neg (Int.not_le.mpr h14), if_neg (Int.not_lt.mpr h21), if_pos h22], ht⟩) (fun q h => by cases h) dX0_nthNumber_117
                  · skip
                    refine zw_iconst hx hb dX0_nthNumber_111 ?_
                    refine lv_goto (tgt := 117) hx hb dX0_nthNumber_112 (by decide) ?_
                    subst ex11 ex13 ex20
                    exact W.iret (v := zi (-1)) hx hb hr (fun t ht hW => ⟨zi (-1), rfl, by rw [f_X0_nthNumber, if_neg h2, if_neg h4, if_neg h6, if_neg h7, if_neg (Int.not_lt.mpr h8), if_pos h9, if_neg (Int.not_le.mpr h14), if_neg (Int.not_lt.mpr h21), if_neg (Int.not_le.mpr h22)], ht⟩) (fun q h => by cases h) dX0_nthNumber_117
            · skip
              refine zw_iconst hx hb dX0_nthNumber_38 ?_
              exact W.iret (v := zi (-1)) hx hb hr (fun t ht hW => ⟨zi (-1), rfl, by rw [f_X0_nthNumber, if_neg h2, if_neg h4, if_neg h6, if_neg h7, if_neg (Int.not_lt.mpr h8), if_neg (Int.not_le.mpr h9)], ht⟩) (fun q h => by cases h) dX0_nthNumber_39
      · skip
        refine zw_iconst hx hb dX0_nthNumber_21 ?_
        exact W.iret (v := zi (-1)) hx hb hr (fun t ht hW => ⟨zi (-1), rfl, by rw [f_X0_nthNumber, if_neg h2, if_neg h4, if_pos h6], ht⟩) (fun q h => by cases h) dX0_nthNumber_22

set_option maxHeartbeats 4000000 in
set_option maxRecDepth 100000 in
theorem c_X0_yearOf (l : Launch) (nu : Int) (hp0 : 0 ≤ nu ∧ nu ≤ 3652061) : Met l yX0_yearOf wsX0_yearOf ({ frames := 1, cells := 0, slots := 0, locals := 21 }) (va_Pc [.int (zi nu)] (fun _ => True)) (vp_Si (fun r => r = zi (f_X0_yearOf nu))) 0 0 (fun _ => False) := by
  refine Met.ofW (cc := cX0_yearOf) (maxL := 5) (ret := (some .int)) (by decide) rfl ?_
  intro p e s m args below meth c s₁ B hml hv
  obtain ⟨rfl, -⟩ := hv
  have hx := B.exec
  have hb := B.bytes
  have hr := B.returns
  have hts := atoms_spec (ws := wsX0_yearOf) B.pre
  have hown : s.vm.findClass RX0 = some m.cls := findClass_of_methodNamed B.named
  have hlocks := B.notSynchronized
  have hl := lv_entry ([.int (zi nu)]) (n := 5) (Nat.le_of_ble_eq_true rfl)
  rw [lg_entry_eq]
  generalize (lg_sl ([.int (zi nu)]) ++ List.replicate (5 - (lg_sl ([.int (zi nu)])).length) Slot.unset).toArray = ls at hl ⊢
  have hl : lv_has ls 5 [(0, .int (zi nu))] := hl
  refine lv_iload_n hx hb dX0_yearOf_0 rfl (lv_at hl 0 rfl) ?_
  refine zw_ldc (n := 146097) hx hb hown (hts (.constant RX0 56 (146097)) (by decide +kernel)) dX0_yearOf_1 (by decide) ?_
  refine zw_irem hx hb dX0_yearOf_3 (by omega) ⟨by omega, by omega⟩ ⟨by omega, by omega⟩ (by omega) ?_
  refine zw_top (fun x1 ex1 => ?_)
  refine lv_istore_n (lv' := [(1, .int (zi x1)), (0, .int (zi nu))]) hx hb dX0_yearOf_4 rfl hl (by decide) rfl (fun ls hl => ?_)
  refine lv_iload_n hx hb dX0_yearOf_5 rfl (lv_at hl 0 rfl) ?_
  refine zw_ldc (n := 36524) hx hb hown (hts (.constant RX0 57 (36524)) (by decide +kernel)) dX0_yearOf_6 (by decide) ?_
  refine zw_idiv hx hb dX0_yearOf_8 (by omega) ⟨by omega, by omega⟩ ⟨by omega, by omega⟩ (by omega) ?_
  refine zw_iconst hx hb dX0_yearOf_9 ?_
  refine zw_min hx hb (hml.trans hl.1.symm) hown (hts (.methodLink RX0 58 Lib.Math.min.name) (by decide +kernel)) (hts (.static Lib.Math.min.name) (by decide +kernel)) (hts (.initialized "java/lang/Math") (by decide +kernel)) (hts _ (by decide +kernel)) (Nat.le_of_ble_eq_true rfl) (Nat.le_of_ble_eq_true rfl) (Nat.le_of_ble_eq_true rfl) (Nat.le_of_ble_eq_true rfl) dX0_yearOf_10 ⟨by omega, by omega⟩ ⟨by omega, by omega⟩ ?_
  refine zw_top (fun x2 ex2 => ?_)
  refine lv_istore_n (lv' := [(2, .int (zi x2)), (1, .int (zi x1)), (0, .int (zi nu))]) hx hb dX0_yearOf_13 rfl hl (by decide) rfl (fun ls hl => ?_)
  refine lv_iload_n hx hb dX0_yearOf_14 rfl (lv_at hl 1 rfl) ?_
  refine zw_ldc (n := 36524) hx hb hown (hts (.constant RX0 57 (36524)) (by decide +kernel)) dX0_yearOf_15 (by decide) ?_
  refine lv_iload_n hx hb dX0_yearOf_17 rfl (lv_at hl 0 rfl) ?_
  refine zw_imul hx hb dX0_yearOf_18 ?_
  refine zw_isub hx hb dX0_yearOf_19 ?_
  refine zw_top (fun x3 ex3 => ?_)
  refine lv_istore_n (lv' := [(1, .int (zi x3)), (2, .int (zi x2)), (0, .int (zi nu))]) hx hb dX0_yearOf_20 rfl hl (by decide) rfl (fun ls hl => ?_)
  refine lv_iload_n hx hb dX0_yearOf_21 rfl (lv_at hl 0 rfl) ?_
  refine zw_sipush hx hb dX0_yearOf_22 (by decide) ?_
  refine zw_idiv hx hb dX0_yearOf_25 (by omega) ⟨by omega, by omega⟩ ⟨by omega, by omega⟩ (by omega) ?_
  refine zw_top (fun x4 ex4 => ?_)
  refine lv_istore_n (lv' := [(3, .int (zi x4)), (1, .int (zi x3)), (2, .int (zi x2)), (0, .int (zi nu))]) hx hb dX0_yearOf_26 rfl hl (by decide) rfl (fun ls hl => ?_)
  refine lv_iload_n hx hb dX0_yearOf_27 rfl (lv_at hl 1 rfl) ?_
  refine zw_sipush hx hb dX0_yearOf_28 (by decide) ?_
  refine lv_iload_n hx hb dX0_yearOf_31 rfl (lv_at hl 0 rfl) ?_
  refine zw_imul hx hb dX0_yearOf_32 ?_
  refine zw_isub hx hb dX0_yearOf_33 ?_
  refine zw_top (fun x5 ex5 => ?_)
  refine lv_istore_n (lv' := [(1, .int (zi x5)), (3, .int (zi x4)), (2, .int (zi x2)), (0, .int (zi nu))]) hx hb dX0_yearOf_34 rfl hl (by decide) rfl (fun ls hl => ?_)
  refine lv_iload_n hx hb dX0_yearOf_35 rfl (lv_at hl 0 rfl) ?_
  refine zw_sipush hx hb dX0_yearOf_36 (by decide) ?_
  refine zw_idiv hx hb dX0_yearOf_39 (by omega) ⟨by omega, by omega⟩ ⟨by omega, by omega⟩ (by omega) ?_
  refine zw_iconst hx hb dX0_yearOf_40 ?_
  refine zw_min hx hb (hml.trans hl.1.symm) hown (hts (.methodLink RX0 58 Lib.Math.min.name) (by decide +kernel)) (hts (.static Lib.Math.min.name) (by decide +kernel)) (hts (.initialized "java/lang/Math") (by decide +kernel)) (hts _ (by decide +kernel)) (Nat.le_of_ble_eq_true rfl) (Nat.le_of_ble_eq_true rfl) (Nat.le_of_ble_eq_true rfl) (Nat.le_of_ble_eq_true rfl) dX0_yearOf_41 ⟨by omega, by omega⟩ ⟨by omega, by omega⟩ ?_
  refine zw_top (fun x6 ex6 => ?_)
  refine lv_istore (lv' := [(4, .int (zi x6)), (1, .int (zi x5)), (3, .int (zi x4)), (2, .int (zi x2)), (0, .int (zi nu))]) hx hb dX0_yearOf_44 hl (by decide) rfl (fun ls hl => ?_)
  refine zw_sipush hx hb dX0_yearOf_46 (by decide) ?_
  refine lv_iload_n hx hb dX0_yearOf_49 rfl (lv_at hl 4 rfl) ?_
  refine zw_ldc (n := 146097) hx hb hown (hts (.constant RX0 56 (146097)) (by decide +kernel)) dX0_yearOf_50 (by decide) ?_
  refine zw_idiv hx hb dX0_yearOf_52 (by omega) ⟨by omega, by omega⟩ ⟨by omega, by omega⟩ (by omega) ?_
  refine zw_imul hx hb dX0_yearOf_53 ?_
  refine zw_bipush hx hb dX0_yearOf_54 (by decide) ?_
  refine lv_iload_n hx hb dX0_yearOf_56 rfl (lv_at hl 3 rfl) ?_
  refine zw_imul hx hb dX0_yearOf_57 ?_
  refine zw_iadd hx hb dX0_yearOf_58 ?_
  refine zw_iconst hx hb dX0_yearOf_59 ?_
  refine lv_iload_n hx hb dX0_yearOf_60 rfl (lv_at hl 2 rfl) ?_
  refine zw_imul hx hb dX0_yearOf_61 ?_
  refine zw_iadd hx hb dX0_yearOf_62 ?_
  refine lv_iload hx hb dX0_yearOf_63 (lv_at hl 0 rfl) ?_
  refine zw_iadd hx hb dX0_yearOf_65 ?_
  refine zw_iconst hx hb dX0_yearOf_66 ?_
  refine zw_iadd hx hb dX0_yearOf_67 ?_
  subst ex1 ex2 ex3 ex4 ex5 ex6
  exact W.iret (v := zi (((((400 * (nu / 146097)) + (100 * (min ((nu % 146097) / 36524) 3))) + (4 * (((nu % 146097) - (36524 * (min ((nu % 146097) / 36524) 3))) / 1461))) + (min ((((nu % 146097) - (36524 * (min ((nu % 146097) / 36524) 3))) - (1461 * (((nu % 146097) - (36524 * (min ((nu % 146097) / 36524) 3))) / 1461))) / 365) 3)) + 1)) hx hb hr (fun t ht hW => ⟨zi (((((400 * (nu / 146097)) + (100 * (min ((nu % 146097) / 36524) 3))) + (4 * (((nu % 146097) - (36524 * (min ((nu % 146097) / 36524) 3))) / 1461))) + (min ((((nu % 146097) - (36524 * (min ((nu % 146097) / 36524) 3))) - (1461 * (((nu % 146097) - (36524 * (min ((nu % 146097) / 36524) 3))) / 1461))) / 365) 3)) + 1), rfl, by rw [f_X0_yearOf], ht⟩) (fun q h => by cases h) dX0_yearOf_68

set_option maxHeartbeats 4000000 in
set_option maxRecDepth 100000 in
theorem c_X0_yearDayOf (l : Launch) (nu : Int) (hp0 : 0 ≤ nu ∧ nu ≤ 3652058) : Met l yX0_yearDayOf wsX0_yearDayOf ({ frames := 2, cells := 0, slots := 0, locals := 45 }) (va_Pc [.int (zi nu)] (fun _ => True)) (vp_Si (fun r => r = zi (f_X0_yearDayOf nu))) 0 0 (fun _ => False) := by
  refine Met.ofW (cc := cX0_yearDayOf) (maxL := 1) (ret := (some .int)) (by decide) rfl ?_
  intro p e s m args below meth c s₁ B hml hv
  obtain ⟨rfl, -⟩ := hv
  have hx := B.exec
  have hb := B.bytes
  have hr := B.returns
  have hts := atoms_spec (ws := wsX0_yearDayOf) B.pre
  have hown : s.vm.findClass RX0 = some m.cls := findClass_of_methodNamed B.named
  have hlocks := B.notSynchronized
  have hl := lv_entry ([.int (zi nu)]) (n := 1) (Nat.le_of_ble_eq_true rfl)
  rw [lg_entry_eq]
  generalize (lg_sl ([.int (zi nu)]) ++ List.replicate (1 - (lg_sl ([.int (zi nu)])).length) Slot.unset).toArray = ls at hl ⊢
  have hl : lv_has ls 1 [(0, .int (zi nu))] := hl
  refine lv_iload_n hx hb dX0_yearDayOf_0 rfl (lv_at hl 0 rfl) ?_
  refine lv_iload_n hx hb dX0_yearDayOf_1 rfl (lv_at hl 0 rfl) ?_
  have hh1 := c_X0_yearOf l nu (by omega)
  refine vp_callSi (va_Run.run (va_runS (As := [.int (zi nu)]) (rest := [.int (zi nu)]) ⟨hx, hb, hml, hown, hts⟩ hh1 (va_cwS 1 hts gX0_yearDayOf_X0_yearOf rfl rfl rfl (by decide +kernel) ⟨Nat.le_of_ble_eq_true rfl, Nat.le_of_ble_eq_true rfl⟩) ⟨fun a U g mk q => q, fun U hU hW => ⟨rfl, trivial⟩⟩ rfl rfl hl.1 rfl (lv_room (Nat.le_of_ble_eq_true rfl)) dX0_yearDayOf_2 ⟨Nat.zero_le _, Nat.zero_le _⟩)) (fun r1 (hr1 : r1 = zi (f_X0_yearOf nu)) => ?_)
  subst hr1
  have hf1 := b_X0_yearOf nu (by omega)
  have hh2 := c_X0_yearStart l (f_X0_yearOf nu) (by omega)
  refine vp_callSi (va_Run.run (va_runS (As := [.int (zi (f_X0_yearOf nu))]) (rest := [.int (zi nu)]) ⟨hx, hb, hml, hown, hts⟩ hh2 (va_cwS 1 hts gX0_yearDayOf_X0_yearStart rfl rfl rfl (by decide +kernel) ⟨Nat.le_of_ble_eq_true rfl, Nat.le_of_ble_eq_true rfl⟩) ⟨fun a U g mk q => q, fun U hU hW => ⟨rfl, trivial⟩⟩ rfl rfl hl.1 rfl (lv_room (Nat.le_of_ble_eq_true rfl)) dX0_yearDayOf_5 ⟨Nat.zero_le _, Nat.zero_le _⟩)) (fun r2 (hr2 : r2 = zi (f_X0_yearStart (f_X0_yearOf nu))) => ?_)
  subst hr2
  have hf2 := b_X0_yearStart (f_X0_yearOf nu) (by omega)
  refine zw_isub hx hb dX0_yearDayOf_8 ?_
  refine zw_iconst hx hb dX0_yearDayOf_9 ?_
  refine zw_iadd hx hb dX0_yearDayOf_10 ?_
  exact W.iret (v := zi ((nu - (f_X0_yearStart (f_X0_yearOf nu))) + 1)) hx hb hr (fun t ht hW => ⟨zi ((nu - (f_X0_yearStart (f_X0_yearOf nu))) + 1), rfl, by rw [f_X0_yearDayOf], ht⟩) (fun q h => by cases h) dX0_yearDayOf_11

set_option maxHeartbeats 4000000 in
set_option maxRecDepth 100000 in
theorem c_X0_weekYearOf (l : Launch) (nu : Int) (hp0 : 0 ≤ nu ∧ nu ≤ 3652058) : Met l yX0_weekYearOf wsX0_weekYearOf ({ frames := 2, cells := 0, slots := 0, locals := 45 }) (va_Pc [.int (zi nu)] (fun _ => True)) (vp_Si (fun r => r = zi (f_X0_weekYearOf nu))) 0 0 (fun _ => False) := by
  refine Met.ofW (cc := cX0_weekYearOf) (maxL := 2) (ret := (some .int)) (by decide) rfl ?_
  intro p e s m args below meth c s₁ B hml hv
  obtain ⟨rfl, -⟩ := hv
  have hx := B.exec
  have hb := B.bytes
  have hr := B.returns
  have hts := atoms_spec (ws := wsX0_weekYearOf) B.pre
  have hown : s.vm.findClass RX0 = some m.cls := findClass_of_methodNamed B.named
  have hlocks := B.notSynchronized
  have hl := lv_entry ([.int (zi nu)]) (n := 2) (Nat.le_of_ble_eq_true rfl)
  rw [lg_entry_eq]
  generalize (lg_sl ([.int (zi nu)]) ++ List.replicate (2 - (lg_sl ([.int (zi nu)])).length) Slot.unset).toArray = ls at hl ⊢
  have hl : lv_has ls 2 [(0, .int (zi nu))] := hl
  refine lv_iload_n hx hb dX0_weekYearOf_0 rfl (lv_at hl 0 rfl) ?_
  refine lv_iload_n hx hb dX0_weekYearOf_1 rfl (lv_at hl 0 rfl) ?_
  refine zw_bipush hx hb dX0_weekYearOf_2 (by decide) ?_
  refine zw_irem hx hb dX0_weekYearOf_4 (by omega) ⟨by omega, by omega⟩ ⟨by omega, by omega⟩ (by omega) ?_
  refine zw_isub hx hb dX0_weekYearOf_5 ?_
  refine zw_iconst hx hb dX0_weekYearOf_6 ?_
  refine zw_iadd hx hb dX0_weekYearOf_7 ?_
  refine zw_top (fun x1 ex1 => ?_)
  refine lv_istore_n (lv' := [(1, .int (zi x1)), (0, .int (zi nu))]) hx hb dX0_weekYearOf_8 rfl hl (by decide) rfl (fun ls hl => ?_)
  refine lv_iload_n hx hb dX0_weekYearOf_9 rfl (lv_at hl 0 rfl) ?_
  have hh2 := c_X0_yearOf l x1 (by omega)
  refine vp_callSi (va_Run.run (va_runS (As := [.int (zi x1)]) (rest := []) ⟨hx, hb, hml, hown, hts⟩ hh2 (va_cwS 1 hts gX0_weekYearOf_X0_yearOf rfl rfl rfl (by decide +kernel) ⟨Nat.le_of_ble_eq_true rfl, Nat.le_of_ble_eq_true rfl⟩) ⟨fun a U g mk q => q, fun U hU hW => ⟨rfl, trivial⟩⟩ rfl rfl hl.1 rfl (lv_room (Nat.le_of_ble_eq_true rfl)) dX0_weekYearOf_10 ⟨Nat.zero_le _, Nat.zero_le _⟩)) (fun r2 (hr2 : r2 = zi (f_X0_yearOf x1)) => ?_)
  subst hr2
  have hf2 := b_X0_yearOf x1 (by omega)
  subst ex1
  exact W.iret (v := zi (f_X0_yearOf ((nu - (nu % 7)) + 3))) hx hb hr (fun t ht hW => ⟨zi (f_X0_yearOf ((nu - (nu % 7)) + 3)), rfl, by rw [f_X0_weekYearOf], ht⟩) (fun q h => by cases h) dX0_weekYearOf_13

set_option maxHeartbeats 4000000 in
set_option maxRecDepth 100000 in
theorem c_X0_movedByDays (l : Launch) (nu : Int) (many : Int) (hp0 : 0 ≤ nu ∧ nu ≤ 3652058) (hp1 : -2147483648 ≤ many ∧ many ≤ 2147483647) : Met l yX0_movedByDays wsX0_movedByDays ({ frames := 1, cells := 0, slots := 0, locals := 21 }) (va_Pc [.int (zi nu), .int (zi many)] (fun _ => True)) (vp_Si (fun r => r = zi (f_X0_movedByDays nu many))) 0 0 (fun _ => False) := by
  refine Met.ofW (cc := cX0_movedByDays) (maxL := 4) (ret := (some .int)) (by decide) rfl ?_
  intro p e s m args below meth c s₁ B hml hv
  obtain ⟨rfl, -⟩ := hv
  have hx := B.exec
  have hb := B.bytes
  have hr := B.returns
  have hts := atoms_spec (ws := wsX0_movedByDays) B.pre
  have hown : s.vm.findClass RX0 = some m.cls := findClass_of_methodNamed B.named
  have hlocks := B.notSynchronized
  have hl := lv_entry ([.int (zi nu), .int (zi many)]) (n := 4) (Nat.le_of_ble_eq_true rfl)
  rw [lg_entry_eq]
  generalize (lg_sl ([.int (zi nu), .int (zi many)]) ++ List.replicate (4 - (lg_sl ([.int (zi nu), .int (zi many)])).length) Slot.unset).toArray = ls at hl ⊢
  have hl : lv_has ls 4 [(0, .int (zi nu)), (1, .int (zi many))] := hl
  refine lv_iload_n hx hb dX0_movedByDays_0 rfl (lv_at hl 0 rfl) ?_
  refine zw_i2l hx hb dX0_movedByDays_1 ⟨by omega, by omega⟩ ?_
  refine lv_iload_n hx hb dX0_movedByDays_2 rfl (lv_at hl 1 rfl) ?_
  refine zw_i2l hx hb dX0_movedByDays_3 ⟨by omega, by omega⟩ ?_
  refine zw_ladd hx hb dX0_movedByDays_4 ?_
  refine zw_topl (fun x1 ex1 => ?_)
  refine lv_lstore_n (lv' := [(2, .long (zl x1)), (0, .int (zi nu)), (1, .int (zi many))]) hx hb dX0_movedByDays_5 rfl hl (by decide) rfl (fun ls hl => ?_)
  refine lv_lload_n hx hb dX0_movedByDays_6 rfl (lv_at hl 0 rfl) ?_
  have hh2 := c_X0_isNumber l x1 (by omega)
  refine vp_callSi (va_Run.run (va_runS (As := [.long (zl x1)]) (rest := []) ⟨hx, hb, hml, hown, hts⟩ hh2 (va_cwS 1 hts gX0_movedByDays_X0_isNumber rfl rfl rfl (by decide +kernel) ⟨Nat.le_of_ble_eq_true rfl, Nat.le_of_ble_eq_true rfl⟩) ⟨fun a U g mk q => q, fun U hU hW => ⟨rfl, trivial⟩⟩ rfl rfl hl.1 rfl (lv_room (Nat.le_of_ble_eq_true rfl)) dX0_movedByDays_7 ⟨Nat.zero_le _, Nat.zero_le _⟩)) (fun r2 (hr2 : r2 = zi (f_X0_isNumber x1)) => ?_)
  subst hr2
  have hf2 := b_X0_isNumber x1 (by omega)
  refine zw_if_eq (tgt := 18) hx hb dX0_movedByDays_10 (by decide) ⟨by omega, by omega⟩ (fun h3 => ?_) (fun h3 => ?_)
  · skip
    refine zw_iconst hx hb dX0_movedByDays_18 ?_
    subst ex1
    exact W.iret (v := zi (-1)) hx hb hr (fun t ht hW => ⟨zi (-1), rfl, by rw [f_X0_movedByDays, if_pos h3], ht⟩) (fun q h => by cases h) dX0_movedByDays_19
  · skip
    refine lv_lload_n hx hb dX0_movedByDays_13 rfl (lv_at hl 0 rfl) ?_
    refine zw_l2i hx hb dX0_movedByDays_14 ?_
    refine lv_goto (tgt := 19) hx hb dX0_movedByDays_15 (by decide) ?_
    subst ex1
    exact W.iret (v := zi (nu + many)) hx hb hr (fun t ht hW => ⟨zi (nu + many), rfl, by rw [f_X0_movedByDays, if_neg h3], ht⟩) (fun q h => by cases h) dX0_movedByDays_19

set_option maxHeartbeats 4000000 in
set_option maxRecDepth 100000 in
theorem c_X0_monthOf (l : Launch) (nu : Int) (hp0 : 0 ≤ nu ∧ nu ≤ 3652058) : Met l yX0_monthOf wsX0_monthOf ({ frames := 2, cells := 0, slots := 0, locals := 45 }) (va_Pc [.int (zi nu)] (fun _ => True)) (vp_Si (fun r => r = zi (f_X0_monthOf nu))) 0 0 (fun _ => False) := by
  refine Met.ofW (cc := cX0_monthOf) (maxL := 3) (ret := (some .int)) (by decide) rfl ?_
  intro p e s m args below meth c s₁ B hml hv
  obtain ⟨rfl, -⟩ := hv
  have hx := B.exec
  have hb := B.bytes
  have hr := B.returns
  have hts := atoms_spec (ws := wsX0_monthOf) B.pre
  have hown : s.vm.findClass RX0 = some m.cls := findClass_of_methodNamed B.named
  have hlocks := B.notSynchronized
  have loop : ∀ (fu : Nat) (mo : Int) (ya : Int), (1 ≤ mo ∧ mo ≤ 12) → (1 ≤ ya ∧ ya ≤ 10000) → (mo ≤ fu) → ∀ ls : Array Slot, lv_has ls 3 [(2, .int (zi mo)), (1, .int (zi ya)), (0, .int (zi nu))] → W p l e (headSpec wsX0_monthOf ({ frames := 2, cells := 0, slots := 0, locals := 45 })).room s m ([.int (zi nu)] : List Value).toArray below meth c s.heap [] 0 0 (MQ below (vp_Si (fun r => r = zi (lp_X0_monthOf nu fu mo ya))) ([.int (zi nu)] : List Value).toArray s 0 0 (fun _ => False)) (F0 m 8 ls []) := by
    intro fu
    induction fu with
    | zero =>
      intro mo ya hi0 hi1 hfu ls hl
      exact absurd hfu (by omega)
    | succ fu ih =>
      intro mo ya hi0 hi1 hfu ls hl
      refine lv_iload_n hx hb dX0_monthOf_8 rfl (lv_at hl 0 rfl) ?_
      refine zw_iconst hx hb dX0_monthOf_9 ?_
      refine zw_icmp_le (tgt := 28) hx hb dX0_monthOf_10 (by decide) ⟨by omega, by omega⟩ ⟨by omega, by omega⟩ (fun h1 => ?_) (fun h1 => ?_)
      · skip
        refine lv_iload_n hx hb dX0_monthOf_28 rfl (lv_at hl 0 rfl) ?_
        exact W.iret (v := zi mo) hx hb hr (fun t ht hW => ⟨zi mo, rfl, by rw [lp_X0_monthOf, if_pos h1], ht⟩) (fun q h => by cases h) dX0_monthOf_29
      · skip
        refine lv_iload_n hx hb dX0_monthOf_13 rfl (lv_at hl 2 rfl) ?_
        refine lv_iload_n hx hb dX0_monthOf_14 rfl (lv_at hl 1 rfl) ?_
        refine lv_iload_n hx hb dX0_monthOf_15 rfl (lv_at hl 0 rfl) ?_
        have hh2 := c_X0_monthStart l ya mo (by omega) (by omega)
        refine vp_callSi (va_Run.run (va_runS (As := [.int (zi ya), .int (zi mo)]) (rest := [.int (zi nu)]) ⟨hx, hb, hml, hown, hts⟩ hh2 (va_cwS 2 hts gX0_monthOf_X0_monthStart rfl rfl rfl (by decide +kernel) ⟨Nat.le_of_ble_eq_true rfl, Nat.le_of_ble_eq_true rfl⟩) ⟨fun a U g mk q => q, fun U hU hW => ⟨rfl, trivial⟩⟩ rfl rfl hl.1 rfl (lv_room (Nat.le_of_ble_eq_true rfl)) dX0_monthOf_16 ⟨Nat.zero_le _, Nat.zero_le _⟩)) (fun r2 (hr2 : r2 = zi (f_X0_monthStart ya mo)) => ?_)
        subst hr2
        have hf2 := b_X0_monthStart ya mo (by omega) (by omega)
        refine zw_icmp_ge (tgt := 28) hx hb dX0_monthOf_19 (by decide) ⟨by omega, by omega⟩ ⟨by omega, by omega⟩ (fun h3 => ?_) (fun h3 => ?_)
        · skip
          refine lv_iload_n hx hb dX0_monthOf_28 rfl (lv_at hl 0 rfl) ?_
          exact W.iret (v := zi mo) hx hb hr (fun t ht hW => ⟨zi mo, rfl, by rw [lp_X0_monthOf, if_neg (Int.not_le.mpr h1), if_neg (Int.not_lt.mpr h3)], ht⟩) (fun q h => by cases h) dX0_monthOf_29
        · skip
          obtain ⟨x4, ex4⟩ : ∃ z : Int, z = mo + (-1) := ⟨_, rfl⟩
          refine zw_iinc (lv' := [(2, .int (zi x4)), (1, .int (zi ya)), (0, .int (zi nu))]) (k := 0) hx hb ex4 dX0_monthOf_22 hl rfl (by decide) rfl (fun ls hl => ?_)
          refine lv_goto (tgt := 8) hx hb dX0_monthOf_25 (by decide) ?_
          subst ex4
          rw [show lp_X0_monthOf nu (fu + 1) mo ya = lp_X0_monthOf nu fu (mo + (-1)) ya from by rw [lp_X0_monthOf, if_neg (Int.not_le.mpr h1), if_pos h3]]
          exact ih (mo + (-1)) ya (by omega) (by omega) (by omega) ls (lv_sub hl [0, 1, 2] rfl)
  have hl := lv_entry ([.int (zi nu)]) (n := 3) (Nat.le_of_ble_eq_true rfl)
  rw [lg_entry_eq]
  generalize (lg_sl ([.int (zi nu)]) ++ List.replicate (3 - (lg_sl ([.int (zi nu)])).length) Slot.unset).toArray = ls at hl ⊢
  have hl : lv_has ls 3 [(0, .int (zi nu))] := hl
  refine lv_iload_n hx hb dX0_monthOf_0 rfl (lv_at hl 0 rfl) ?_
  have hh501 := c_X0_yearOf l nu (by omega)
  refine vp_callSi (va_Run.run (va_runS (As := [.int (zi nu)]) (rest := []) ⟨hx, hb, hml, hown, hts⟩ hh501 (va_cwS 1 hts gX0_monthOf_X0_yearOf rfl rfl rfl (by decide +kernel) ⟨Nat.le_of_ble_eq_true rfl, Nat.le_of_ble_eq_true rfl⟩) ⟨fun a U g mk q => q, fun U hU hW => ⟨rfl, trivial⟩⟩ rfl rfl hl.1 rfl (lv_room (Nat.le_of_ble_eq_true rfl)) dX0_monthOf_1 ⟨Nat.zero_le _, Nat.zero_le _⟩)) (fun r501 (hr501 : r501 = zi (f_X0_yearOf nu)) => ?_)
  subst hr501
  have hf501 := b_X0_yearOf nu (by omega)
  refine zw_top (fun x502 ex502 => ?_)
  refine lv_istore_n (lv' := [(1, .int (zi x502)), (0, .int (zi nu))]) hx hb dX0_monthOf_4 rfl hl (by decide) rfl (fun ls hl => ?_)
  refine zw_bipush hx hb dX0_monthOf_5 (by decide) ?_
  refine lv_istore_n (lv' := [(2, .int (zi 12)), (1, .int (zi x502)), (0, .int (zi nu))]) hx hb dX0_monthOf_7 rfl hl (by decide) rfl (fun ls hl => ?_)
  subst ex502
  rw [show f_X0_monthOf nu = lp_X0_monthOf nu (12) 12 (f_X0_yearOf nu) from by rw [f_X0_monthOf]]
  exact loop (12) 12 (f_X0_yearOf nu) (by omega) (by omega) (by omega) ls (lv_sub hl [0, 1, 2] rfl)

set_option maxHeartbeats 4000000 in
set_option maxRecDepth 100000 in
theorem c_X0_dayOf (l : Launch) (nu : Int) (hp0 : 0 ≤ nu ∧ nu ≤ 3652058) : Met l yX0_dayOf wsX0_dayOf ({ frames := 3, cells := 0, slots := 0, locals := 67 }) (va_Pc [.int (zi nu)] (fun _ => True)) (vp_Si (fun r => r = zi (f_X0_dayOf nu))) 0 0 (fun _ => False) := by
  refine Met.ofW (cc := cX0_dayOf) (maxL := 1) (ret := (some .int)) (by decide) rfl ?_
  intro p e s m args below meth c s₁ B hml hv
  obtain ⟨rfl, -⟩ := hv
  have hx := B.exec
  have hb := B.bytes
  have hr := B.returns
  have hts := atoms_spec (ws := wsX0_dayOf) B.pre
  have hown : s.vm.findClass RX0 = some m.cls := findClass_of_methodNamed B.named
  have hlocks := B.notSynchronized
  have hl := lv_entry ([.int (zi nu)]) (n := 1) (Nat.le_of_ble_eq_true rfl)
  rw [lg_entry_eq]
  generalize (lg_sl ([.int (zi nu)]) ++ List.replicate (1 - (lg_sl ([.int (zi nu)])).length) Slot.unset).toArray = ls at hl ⊢
  have hl : lv_has ls 1 [(0, .int (zi nu))] := hl
  refine lv_iload_n hx hb dX0_dayOf_0 rfl (lv_at hl 0 rfl) ?_
  refine lv_iload_n hx hb dX0_dayOf_1 rfl (lv_at hl 0 rfl) ?_
  have hh1 := c_X0_yearOf l nu (by omega)
  refine vp_callSi (va_Run.run (va_runS (As := [.int (zi nu)]) (rest := [.int (zi nu)]) ⟨hx, hb, hml, hown, hts⟩ hh1 (va_cwS 1 hts gX0_dayOf_X0_yearOf rfl rfl rfl (by decide +kernel) ⟨Nat.le_of_ble_eq_true rfl, Nat.le_of_ble_eq_true rfl⟩) ⟨fun a U g mk q => q, fun U hU hW => ⟨rfl, trivial⟩⟩ rfl rfl hl.1 rfl (lv_room (Nat.le_of_ble_eq_true rfl)) dX0_dayOf_2 ⟨Nat.zero_le _, Nat.zero_le _⟩)) (fun r1 (hr1 : r1 = zi (f_X0_yearOf nu)) => ?_)
  subst hr1
  have hf1 := b_X0_yearOf nu (by omega)
  refine lv_iload_n hx hb dX0_dayOf_5 rfl (lv_at hl 0 rfl) ?_
  have hh2 := c_X0_monthOf l nu (by omega)
  refine vp_callSi (va_Run.run (va_runS (As := [.int (zi nu)]) (rest := [.int (zi (f_X0_yearOf nu)), .int (zi nu)]) ⟨hx, hb, hml, hown, hts⟩ hh2 (va_cwS 1 hts gX0_dayOf_X0_monthOf rfl rfl rfl (by decide +kernel) ⟨Nat.le_of_ble_eq_true rfl, Nat.le_of_ble_eq_true rfl⟩) ⟨fun a U g mk q => q, fun U hU hW => ⟨rfl, trivial⟩⟩ rfl rfl hl.1 rfl (lv_room (Nat.le_of_ble_eq_true rfl)) dX0_dayOf_6 ⟨Nat.zero_le _, Nat.zero_le _⟩)) (fun r2 (hr2 : r2 = zi (f_X0_monthOf nu)) => ?_)
  subst hr2
  have hf2 := b_X0_monthOf nu (by omega)
  have hh3 := c_X0_monthStart l (f_X0_yearOf nu) (f_X0_monthOf nu) (by omega) (by omega)
  refine vp_callSi (va_Run.run (va_runS (As := [.int (zi (f_X0_yearOf nu)), .int (zi (f_X0_monthOf nu))]) (rest := [.int (zi nu)]) ⟨hx, hb, hml, hown, hts⟩ hh3 (va_cwS 2 hts gX0_dayOf_X0_monthStart rfl rfl rfl (by decide +kernel) ⟨Nat.le_of_ble_eq_true rfl, Nat.le_of_ble_eq_true rfl⟩) ⟨fun a U g mk q => q, fun U hU hW => ⟨rfl, trivial⟩⟩ rfl rfl hl.1 rfl (lv_room (Nat.le_of_ble_eq_true rfl)) dX0_dayOf_9 ⟨Nat.zero_le _, Nat.zero_le _⟩)) (fun r3 (hr3 : r3 = zi (f_X0_monthStart (f_X0_yearOf nu) (f_X0_monthOf nu))) => ?_)
  subst hr3
  have hf3 := b_X0_monthStart (f_X0_yearOf nu) (f_X0_monthOf nu) (by omega) (by omega)
  refine zw_isub hx hb dX0_dayOf_12 ?_
  refine zw_iconst hx hb dX0_dayOf_13 ?_
  refine zw_iadd hx hb dX0_dayOf_14 ?_
  exact W.iret (v := zi ((nu - (f_X0_monthStart (f_X0_yearOf nu) (f_X0_monthOf nu))) + 1)) hx hb hr (fun t ht hW => ⟨zi ((nu - (f_X0_monthStart (f_X0_yearOf nu) (f_X0_monthOf nu))) + 1), rfl, by rw [f_X0_dayOf], ht⟩) (fun q h => by cases h) dX0_dayOf_15

set_option maxHeartbeats 4000000 in
set_option maxRecDepth 100000 in
theorem c_X0_weekOf (l : Launch) (nu : Int) (hp0 : 0 ≤ nu ∧ nu ≤ 3652058) : Met l yX0_weekOf wsX0_weekOf ({ frames := 3, cells := 0, slots := 0, locals := 66 }) (va_Pc [.int (zi nu)] (fun _ => True)) (vp_Si (fun r => r = zi (f_X0_weekOf nu))) 0 0 (fun _ => False) := by
  refine Met.ofW (cc := cX0_weekOf) (maxL := 1) (ret := (some .int)) (by decide) rfl ?_
  intro p e s m args below meth c s₁ B hml hv
  obtain ⟨rfl, -⟩ := hv
  have hx := B.exec
  have hb := B.bytes
  have hr := B.returns
  have hts := atoms_spec (ws := wsX0_weekOf) B.pre
  have hown : s.vm.findClass RX0 = some m.cls := findClass_of_methodNamed B.named
  have hlocks := B.notSynchronized
  have hl := lv_entry ([.int (zi nu)]) (n := 1) (Nat.le_of_ble_eq_true rfl)
  rw [lg_entry_eq]
  generalize (lg_sl ([.int (zi nu)]) ++ List.replicate (1 - (lg_sl ([.int (zi nu)])).length) Slot.unset).toArray = ls at hl ⊢
  have hl : lv_has ls 1 [(0, .int (zi nu))] := hl
  refine lv_iload_n hx hb dX0_weekOf_0 rfl (lv_at hl 0 rfl) ?_
  refine lv_iload_n hx hb dX0_weekOf_1 rfl (lv_at hl 0 rfl) ?_
  have hh1 := c_X0_weekYearOf l nu (by omega)
  refine vp_callSi (va_Run.run (va_runS (As := [.int (zi nu)]) (rest := [.int (zi nu)]) ⟨hx, hb, hml, hown, hts⟩ hh1 (va_cwS 1 hts gX0_weekOf_X0_weekYearOf rfl rfl rfl (by decide +kernel) ⟨Nat.le_of_ble_eq_true rfl, Nat.le_of_ble_eq_true rfl⟩) ⟨fun a U g mk q => q, fun U hU hW => ⟨rfl, trivial⟩⟩ rfl rfl hl.1 rfl (lv_room (Nat.le_of_ble_eq_true rfl)) dX0_weekOf_2 ⟨Nat.zero_le _, Nat.zero_le _⟩)) (fun r1 (hr1 : r1 = zi (f_X0_weekYearOf nu)) => ?_)
  subst hr1
  have hf1 := b_X0_weekYearOf nu (by omega)
  have hh2 := c_X0_firstMonday l (f_X0_weekYearOf nu) (by omega)
  refine vp_callSi (va_Run.run (va_runS (As := [.int (zi (f_X0_weekYearOf nu))]) (rest := [.int (zi nu)]) ⟨hx, hb, hml, hown, hts⟩ hh2 (va_cwS 1 hts gX0_weekOf_X0_firstMonday rfl rfl rfl (by decide +kernel) ⟨Nat.le_of_ble_eq_true rfl, Nat.le_of_ble_eq_true rfl⟩) ⟨fun a U g mk q => q, fun U hU hW => ⟨rfl, trivial⟩⟩ rfl rfl hl.1 rfl (lv_room (Nat.le_of_ble_eq_true rfl)) dX0_weekOf_5 ⟨Nat.zero_le _, Nat.zero_le _⟩)) (fun r2 (hr2 : r2 = zi (f_X0_firstMonday (f_X0_weekYearOf nu))) => ?_)
  subst hr2
  have hf2 := b_X0_firstMonday (f_X0_weekYearOf nu) (by omega)
  refine zw_isub hx hb dX0_weekOf_8 ?_
  have hmo := m_X0_week nu (by omega)
  refine zw_bipush hx hb dX0_weekOf_9 (by decide) ?_
  refine zw_idiv hx hb dX0_weekOf_11 (by omega) ⟨by omega, by omega⟩ ⟨by omega, by omega⟩ (by omega) ?_
  refine zw_iconst hx hb dX0_weekOf_12 ?_
  refine zw_iadd hx hb dX0_weekOf_13 ?_
  exact W.iret (v := zi (((nu - (f_X0_firstMonday (f_X0_weekYearOf nu))) / 7) + 1)) hx hb hr (fun t ht hW => ⟨zi (((nu - (f_X0_firstMonday (f_X0_weekYearOf nu))) / 7) + 1), rfl, by rw [f_X0_weekOf], ht⟩) (fun q h => by cases h) dX0_weekOf_14

set_option maxHeartbeats 4000000 in
set_option maxRecDepth 100000 in
theorem c_X0_movedByMonths (l : Launch) (nu : Int) (many : Int) (hp0 : 0 ≤ nu ∧ nu ≤ 3652058) (hp1 : -30000000000 ≤ many ∧ many ≤ 30000000000) : Met l yX0_movedByMonths wsX0_movedByMonths ({ frames := 4, cells := 0, slots := 0, locals := 87 }) (va_Pc [.int (zi nu), .long (zl many)] (fun _ => True)) (vp_Si (fun r => r = zi (f_X0_movedByMonths nu many))) 0 0 (fun _ => False) := by
  refine Met.ofW (cc := cX0_movedByMonths) (maxL := 8) (ret := (some .int)) (by decide) rfl ?_
  intro p e s m args below meth c s₁ B hml hv
  obtain ⟨rfl, -⟩ := hv
  have hx := B.exec
  have hb := B.bytes
  have hr := B.returns
  have hts := atoms_spec (ws := wsX0_movedByMonths) B.pre
  have hown : s.vm.findClass RX0 = some m.cls := findClass_of_methodNamed B.named
  have hlocks := B.notSynchronized
  have hl := lv_entry ([.int (zi nu), .long (zl many)]) (n := 8) (Nat.le_of_ble_eq_true rfl)
  rw [lg_entry_eq]
  generalize (lg_sl ([.int (zi nu), .long (zl many)]) ++ List.replicate (8 - (lg_sl ([.int (zi nu), .long (zl many)])).length) Slot.unset).toArray = ls at hl ⊢
  have hl : lv_has ls 8 [(0, .int (zi nu)), (1, .long (zl many))] := hl
  refine zw_ldc2 (n := 12) hx hb hown (hts (.constantLong RX0 72 (12)) (by decide +kernel)) dX0_movedByMonths_0 (by decide) ?_
  refine lv_iload_n hx hb dX0_movedByMonths_3 rfl (lv_at hl 0 rfl) ?_
  have hh1 := c_X0_yearOf l nu (by omega)
  refine vp_callSi (va_Run.run (va_runS (As := [.int (zi nu)]) (rest := [.long (zl 12)]) ⟨hx, hb, hml, hown, hts⟩ hh1 (va_cwS 1 hts gX0_movedByMonths_X0_yearOf rfl rfl rfl (by decide +kernel) ⟨Nat.le_of_ble_eq_true rfl, Nat.le_of_ble_eq_true rfl⟩) ⟨fun a U g mk q => q, fun U hU hW => ⟨rfl, trivial⟩⟩ rfl rfl hl.1 rfl (lv_room (Nat.le_of_ble_eq_true rfl)) dX0_movedByMonths_4 ⟨Nat.zero_le _, Nat.zero_le _⟩)) (fun r1 (hr1 : r1 = zi (f_X0_yearOf nu)) => ?_)
  subst hr1
  have hf1 := b_X0_yearOf nu (by omega)
  refine zw_iconst hx hb dX0_movedByMonths_7 ?_
  refine zw_isub hx hb dX0_movedByMonths_8 ?_
  refine zw_i2l hx hb dX0_movedByMonths_9 ⟨by omega, by omega⟩ ?_
  refine zw_lmul hx hb dX0_movedByMonths_10 ?_
  refine lv_iload_n hx hb dX0_movedByMonths_11 rfl (lv_at hl 0 rfl) ?_
  have hh2 := c_X0_monthOf l nu (by omega)
  refine vp_callSi (va_Run.run (va_runS (As := [.int (zi nu)]) (rest := [.long (zl (12 * ((f_X0_yearOf nu) - 1)))]) ⟨hx, hb, hml, hown, hts⟩ hh2 (va_cwS 1 hts gX0_movedByMonths_X0_monthOf rfl rfl rfl (by decide +kernel) ⟨Nat.le_of_ble_eq_true rfl, Nat.le_of_ble_eq_true rfl⟩) ⟨fun a U g mk q => q, fun U hU hW => ⟨rfl, trivial⟩⟩ rfl rfl hl.1 rfl (lv_room (Nat.le_of_ble_eq_true rfl)) dX0_movedByMonths_12 ⟨Nat.zero_le _, Nat.zero_le _⟩)) (fun r2 (hr2 : r2 = zi (f_X0_monthOf nu)) => ?_)
  subst hr2
  have hf2 := b_X0_monthOf nu (by omega)
  refine zw_i2l hx hb dX0_movedByMonths_15 ⟨by omega, by omega⟩ ?_
  refine zw_ladd hx hb dX0_movedByMonths_16 ?_
  refine zw_lconst (v := 1) hx hb dX0_movedByMonths_17 (by decide) ?_
  refine zw_lsub hx hb dX0_movedByMonths_18 ?_
  refine lv_lload_n hx hb dX0_movedByMonths_19 rfl (lv_at hl 1 rfl) ?_
  refine zw_ladd hx hb dX0_movedByMonths_20 ?_
  refine zw_topl (fun x3 ex3 => ?_)
  refine lv_lstore_n (lv' := [(3, .long (zl x3)), (0, .int (zi nu)), (1, .long (zl many))]) hx hb dX0_movedByMonths_21 rfl hl (by decide) rfl (fun ls hl => ?_)
  refine lv_lload_n hx hb dX0_movedByMonths_22 rfl (lv_at hl 0 rfl) ?_
  refine zw_lconst (v := 0) hx hb dX0_movedByMonths_23 (by decide) ?_
  refine zw_lcmp_lt (tgt := 36) hx hb dX0_movedByMonths_24 dX0_movedByMonths_25 (by decide) ⟨by omega, by omega⟩ ⟨by omega, by omega⟩ (fun h4 => ?_) (fun h4 => ?_)
  · skip
    refine zw_iconst hx hb dX0_movedByMonths_36 ?_
    subst ex3
    exact W.iret (v := zi (-1)) hx hb hr (fun t ht hW => ⟨zi (-1), rfl, by rw [f_X0_movedByMonths, if_pos h4], ht⟩) (fun q h => by cases h) dX0_movedByMonths_37
  · skip
    refine lv_lload_n hx hb dX0_movedByMonths_28 rfl (lv_at hl 0 rfl) ?_
    refine zw_ldc2 (n := 119988) hx hb hown (hts (.constantLong RX0 74 (119988)) (by decide +kernel)) dX0_movedByMonths_29 (by decide) ?_
    refine zw_lcmp_lt (tgt := 38) hx hb dX0_movedByMonths_32 dX0_movedByMonths_33 (by decide) ⟨by omega, by omega⟩ ⟨by omega, by omega⟩ (fun h5 => ?_) (fun h5 => ?_)
    · skip
      refine lv_lload_n hx hb dX0_movedByMonths_38 rfl (lv_at hl 0 rfl) ?_
      refine zw_ldc2 (n := 12) hx hb hown (hts (.constantLong RX0 72 (12)) (by decide +kernel)) dX0_movedByMonths_39 (by decide) ?_
      refine zw_ldiv hx hb dX0_movedByMonths_42 (by omega) ⟨by omega, by omega⟩ ⟨by omega, by omega⟩ (by omega) ?_
      refine zw_l2i hx hb dX0_movedByMonths_43 ?_
      refine zw_iconst hx hb dX0_movedByMonths_44 ?_
      refine zw_iadd hx hb dX0_movedByMonths_45 ?_
      refine zw_top (fun x6 ex6 => ?_)
      refine lv_istore (lv' := [(5, .int (zi x6)), (3, .long (zl x3)), (0, .int (zi nu)), (1, .long (zl many))]) hx hb dX0_movedByMonths_46 hl (by decide) rfl (fun ls hl => ?_)
      refine lv_lload_n hx hb dX0_movedByMonths_48 rfl (lv_at hl 1 rfl) ?_
      refine zw_ldc2 (n := 12) hx hb hown (hts (.constantLong RX0 72 (12)) (by decide +kernel)) dX0_movedByMonths_49 (by decide) ?_
      refine zw_lrem hx hb dX0_movedByMonths_52 (by omega) ⟨by omega, by omega⟩ ⟨by omega, by omega⟩ (by omega) ?_
      refine zw_l2i hx hb dX0_movedByMonths_53 ?_
      refine zw_iconst hx hb dX0_movedByMonths_54 ?_
      refine zw_iadd hx hb dX0_movedByMonths_55 ?_
      refine zw_top (fun x7 ex7 => ?_)
      refine lv_istore (lv' := [(6, .int (zi x7)), (5, .int (zi x6)), (3, .long (zl x3)), (0, .int (zi nu)), (1, .long (zl many))]) hx hb dX0_movedByMonths_56 hl (by decide) rfl (fun ls hl => ?_)
      refine lv_iload_n hx hb dX0_movedByMonths_58 rfl (lv_at hl 3 rfl) ?_
      have hh8 := c_X0_dayOf l nu (by omega)
      refine vp_callSi (va_Run.run (va_runS (As := [.int (zi nu)]) (rest := []) ⟨hx, hb, hml, hown, hts⟩ hh8 (va_cwS 1 hts gX0_movedByMonths_X0_dayOf rfl rfl rfl (by decide +kernel) ⟨Nat.le_of_ble_eq_true rfl, Nat.le_of_ble_eq_true rfl⟩) ⟨fun a U g mk q => q, fun U hU hW => ⟨rfl, trivial⟩⟩ rfl rfl hl.1 rfl (lv_room (Nat.le_of_ble_eq_true rfl)) dX0_movedByMonths_59 ⟨Nat.zero_le _, Nat.zero_le _⟩)) (fun r8 (hr8 : r8 = zi (f_X0_dayOf nu)) => ?_)
      subst hr8
      have hf8 := b_X0_dayOf nu (by omega)
      refine lv_iload hx hb dX0_movedByMonths_62 (lv_at hl 1 rfl) ?_
      refine lv_iload hx hb dX0_movedByMonths_64 (lv_at hl 0 rfl) ?_
      have hh9 := c_X0_monthLength l x6 x7 (by omega) (by omega)
      refine vp_callSi (va_Run.run (va_runS (As := [.int (zi x6), .int (zi x7)]) (rest := [.int (zi (f_X0_dayOf nu))]) ⟨hx, hb, hml, hown, hts⟩ hh9 (va_cwS 2 hts gX0_movedByMonths_X0_monthLength rfl rfl rfl (by decide +kernel) ⟨Nat.le_of_ble_eq_true rfl, Nat.le_of_ble_eq_true rfl⟩) ⟨fun a U g mk q => q, fun U hU hW => ⟨rfl, trivial⟩⟩ rfl rfl hl.1 rfl (lv_room (Nat.le_of_ble_eq_true rfl)) dX0_movedByMonths_66 ⟨Nat.zero_le _, Nat.zero_le _⟩)) (fun r9 (hr9 : r9 = zi (f_X0_monthLength x6 x7)) => ?_)
      subst hr9
      have hf9 := b_X0_monthLength x6 x7 (by omega) (by omega)
      refine zw_min hx hb (hml.trans hl.1.symm) hown (hts (.methodLink RX0 58 Lib.Math.min.name) (by decide +kernel)) (hts (.static Lib.Math.min.name) (by decide +kernel)) (hts (.initialized "java/lang/Math") (by decide +kernel)) (hts _ (by decide +kernel)) (Nat.le_of_ble_eq_true rfl) (Nat.le_of_ble_eq_true rfl) (Nat.le_of_ble_eq_true rfl) (Nat.le_of_ble_eq_true rfl) dX0_movedByMonths_69 ⟨by omega, by omega⟩ ⟨by omega, by omega⟩ ?_
      refine zw_top (fun x10 ex10 => ?_)
      refine lv_istore (lv' := [(7, .int (zi x10)), (6, .int (zi x7)), (5, .int (zi x6)), (3, .long (zl x3)), (0, .int (zi nu)), (1, .long (zl many))]) hx hb dX0_movedByMonths_72 hl (by decide) rfl (fun ls hl => ?_)
      refine lv_iload hx hb dX0_movedByMonths_74 (lv_at hl 2 rfl) ?_
      refine lv_iload hx hb dX0_movedByMonths_76 (lv_at hl 1 rfl) ?_
      have hh11 := c_X0_monthStart l x6 x7 (by omega) (by omega)
      refine vp_callSi (va_Run.run (va_runS (As := [.int (zi x6), .int (zi x7)]) (rest := []) ⟨hx, hb, hml, hown, hts⟩ hh11 (va_cwS 2 hts gX0_movedByMonths_X0_monthStart rfl rfl rfl (by decide +kernel) ⟨Nat.le_of_ble_eq_true rfl, Nat.le_of_ble_eq_true rfl⟩) ⟨fun a U g mk q => q, fun U hU hW => ⟨rfl, trivial⟩⟩ rfl rfl hl.1 rfl (lv_room (Nat.le_of_ble_eq_true rfl)) dX0_movedByMonths_78 ⟨Nat.zero_le _, Nat.zero_le _⟩)) (fun r11 (hr11 : r11 = zi (f_X0_monthStart x6 x7)) => ?_)
      subst hr11
      have hf11 := b_X0_monthStart x6 x7 (by omega) (by omega)
      refine lv_iload hx hb dX0_movedByMonths_81 (lv_at hl 0 rfl) ?_
      refine zw_iadd hx hb dX0_movedByMonths_83 ?_
      refine zw_iconst hx hb dX0_movedByMonths_84 ?_
      refine zw_isub hx hb dX0_movedByMonths_85 ?_
      subst ex3 ex6 ex7 ex10
      exact W.iret (v := zi (((f_X0_monthStart ((((((12 * ((f_X0_yearOf nu) - 1)) + (f_X0_monthOf nu)) - 1) + many) / 12) + 1) ((((((12 * ((f_X0_yearOf nu) - 1)) + (f_X0_monthOf nu)) - 1) + many) % 12) + 1)) + (min (f_X0_dayOf nu) (f_X0_monthLength ((((((12 * ((f_X0_yearOf nu) - 1)) + (f_X0_monthOf nu)) - 1) + many) / 12) + 1) ((((((12 * ((f_X0_yearOf nu) - 1)) + (f_X0_monthOf nu)) - 1) + many) % 12) + 1)))) - 1)) hx hb hr (fun t ht hW => ⟨zi (((f_X0_monthStart ((((((12 * ((f_X0_yearOf nu) - 1)) + (f_X0_monthOf nu)) - 1) + many) / 12) + 1) ((((((12 * ((f_X0_yearOf nu) - 1)) + (f_X0_monthOf nu)) - 1) + many) % 12) + 1)) + (min (f_X0_dayOf nu) (f_X0_monthLength ((((((12 * ((f_X0_yearOf nu) - 1)) + (f_X0_monthOf nu)) - 1) + many) / 12) + 1) ((((((12 * ((f_X0_yearOf nu) - 1)) + (f_X0_monthOf nu)) - 1) + many) % 12) + 1)))) - 1), rfl, by rw [f_X0_movedByMonths, if_neg (Int.not_lt.mpr h4), if_pos h5], ht⟩) (fun q h => by cases h) dX0_movedByMonths_86
    · skip
      refine zw_iconst hx hb dX0_movedByMonths_36 ?_
      subst ex3
      exact W.iret (v := zi (-1)) hx hb hr (fun t ht hW => ⟨zi (-1), rfl, by rw [f_X0_movedByMonths, if_neg (Int.not_lt.mpr h4), if_neg (Int.not_lt.mpr h5)], ht⟩) (fun q h => by cases h) dX0_movedByMonths_37

set_option maxHeartbeats 4000000 in
set_option maxRecDepth 100000 in
theorem c_X0_monthsBetween (l : Launch) (fro : Int) (too : Int) (hp0 : 0 ≤ fro ∧ fro ≤ 3652058) (hp1 : 0 ≤ too ∧ too ≤ 3652058) : Met l yX0_monthsBetween wsX0_monthsBetween ({ frames := 5, cells := 0, slots := 0, locals := 114 }) (va_Pc [.int (zi fro), .int (zi too)] (fun _ => True)) (vp_Si (fun r => r = zi (f_X0_monthsBetween fro too))) 0 0 (fun _ => False) := by
  refine Met.ofW (cc := cX0_monthsBetween) (maxL := 3) (ret := (some .int)) (by decide) rfl ?_
  intro p e s m args below meth c s₁ B hml hv
  obtain ⟨rfl, -⟩ := hv
  have hx := B.exec
  have hb := B.bytes
  have hr := B.returns
  have hts := atoms_spec (ws := wsX0_monthsBetween) B.pre
  have hown : s.vm.findClass RX0 = some m.cls := findClass_of_methodNamed B.named
  have hlocks := B.notSynchronized
  have hl := lv_entry ([.int (zi fro), .int (zi too)]) (n := 3) (Nat.le_of_ble_eq_true rfl)
  rw [lg_entry_eq]
  generalize (lg_sl ([.int (zi fro), .int (zi too)]) ++ List.replicate (3 - (lg_sl ([.int (zi fro), .int (zi too)])).length) Slot.unset).toArray = ls at hl ⊢
  have hl : lv_has ls 3 [(0, .int (zi fro)), (1, .int (zi too))] := hl
  refine zw_bipush hx hb dX0_monthsBetween_0 (by decide) ?_
  refine lv_iload_n hx hb dX0_monthsBetween_2 rfl (lv_at hl 1 rfl) ?_
  have hh1 := c_X0_yearOf l too (by omega)
  refine vp_callSi (va_Run.run (va_runS (As := [.int (zi too)]) (rest := [.int (zi 12)]) ⟨hx, hb, hml, hown, hts⟩ hh1 (va_cwS 1 hts gX0_monthsBetween_X0_yearOf rfl rfl rfl (by decide +kernel) ⟨Nat.le_of_ble_eq_true rfl, Nat.le_of_ble_eq_true rfl⟩) ⟨fun a U g mk q => q, fun U hU hW => ⟨rfl, trivial⟩⟩ rfl rfl hl.1 rfl (lv_room (Nat.le_of_ble_eq_true rfl)) dX0_monthsBetween_3 ⟨Nat.zero_le _, Nat.zero_le _⟩)) (fun r1 (hr1 : r1 = zi (f_X0_yearOf too)) => ?_)
  subst hr1
  have hf1 := b_X0_yearOf too (by omega)
  refine lv_iload_n hx hb dX0_monthsBetween_6 rfl (lv_at hl 0 rfl) ?_
  have hh2 := c_X0_yearOf l fro (by omega)
  refine vp_callSi (va_Run.run (va_runS (As := [.int (zi fro)]) (rest := [.int (zi (f_X0_yearOf too)), .int (zi 12)]) ⟨hx, hb, hml, hown, hts⟩ hh2 (va_cwS 1 hts gX0_monthsBetween_X0_yearOf rfl rfl rfl (by decide +kernel) ⟨Nat.le_of_ble_eq_true rfl, Nat.le_of_ble_eq_true rfl⟩) ⟨fun a U g mk q => q, fun U hU hW => ⟨rfl, trivial⟩⟩ rfl rfl hl.1 rfl (lv_room (Nat.le_of_ble_eq_true rfl)) dX0_monthsBetween_7 ⟨Nat.zero_le _, Nat.zero_le _⟩)) (fun r2 (hr2 : r2 = zi (f_X0_yearOf fro)) => ?_)
  subst hr2
  have hf2 := b_X0_yearOf fro (by omega)
  refine zw_isub hx hb dX0_monthsBetween_10 ?_
  refine zw_imul hx hb dX0_monthsBetween_11 ?_
  refine lv_iload_n hx hb dX0_monthsBetween_12 rfl (lv_at hl 1 rfl) ?_
  have hh3 := c_X0_monthOf l too (by omega)
  refine vp_callSi (va_Run.run (va_runS (As := [.int (zi too)]) (rest := [.int (zi (12 * ((f_X0_yearOf too) - (f_X0_yearOf fro))))]) ⟨hx, hb, hml, hown, hts⟩ hh3 (va_cwS 1 hts gX0_monthsBetween_X0_monthOf rfl rfl rfl (by decide +kernel) ⟨Nat.le_of_ble_eq_true rfl, Nat.le_of_ble_eq_true rfl⟩) ⟨fun a U g mk q => q, fun U hU hW => ⟨rfl, trivial⟩⟩ rfl rfl hl.1 rfl (lv_room (Nat.le_of_ble_eq_true rfl)) dX0_monthsBetween_13 ⟨Nat.zero_le _, Nat.zero_le _⟩)) (fun r3 (hr3 : r3 = zi (f_X0_monthOf too)) => ?_)
  subst hr3
  have hf3 := b_X0_monthOf too (by omega)
  refine zw_iadd hx hb dX0_monthsBetween_16 ?_
  refine lv_iload_n hx hb dX0_monthsBetween_17 rfl (lv_at hl 0 rfl) ?_
  have hh4 := c_X0_monthOf l fro (by omega)
  refine vp_callSi (va_Run.run (va_runS (As := [.int (zi fro)]) (rest := [.int (zi ((12 * ((f_X0_yearOf too) - (f_X0_yearOf fro))) + (f_X0_monthOf too)))]) ⟨hx, hb, hml, hown, hts⟩ hh4 (va_cwS 1 hts gX0_monthsBetween_X0_monthOf rfl rfl rfl (by decide +kernel) ⟨Nat.le_of_ble_eq_true rfl, Nat.le_of_ble_eq_true rfl⟩) ⟨fun a U g mk q => q, fun U hU hW => ⟨rfl, trivial⟩⟩ rfl rfl hl.1 rfl (lv_room (Nat.le_of_ble_eq_true rfl)) dX0_monthsBetween_18 ⟨Nat.zero_le _, Nat.zero_le _⟩)) (fun r4 (hr4 : r4 = zi (f_X0_monthOf fro)) => ?_)
  subst hr4
  have hf4 := b_X0_monthOf fro (by omega)
  refine zw_isub hx hb dX0_monthsBetween_21 ?_
  refine zw_top (fun x5 ex5 => ?_)
  refine lv_istore_n (lv' := [(2, .int (zi x5)), (0, .int (zi fro)), (1, .int (zi too))]) hx hb dX0_monthsBetween_22 rfl hl (by decide) rfl (fun ls hl => ?_)
  refine lv_iload_n hx hb dX0_monthsBetween_23 rfl (lv_at hl 1 rfl) ?_
  refine lv_iload_n hx hb dX0_monthsBetween_24 rfl (lv_at hl 0 rfl) ?_
  refine zw_i2l hx hb dX0_monthsBetween_25 ⟨by omega, by omega⟩ ?_
  have hh6 := c_X0_movedByMonths l fro x5 (by omega) (by omega)
  refine vp_callSi (va_Run.run (va_runS (As := [.int (zi fro), .long (zl x5)]) (rest := []) ⟨hx, hb, hml, hown, hts⟩ hh6 (va_cwS 2 hts gX0_monthsBetween_X0_movedByMonths rfl rfl rfl (by decide +kernel) ⟨Nat.le_of_ble_eq_true rfl, Nat.le_of_ble_eq_true rfl⟩) ⟨fun a U g mk q => q, fun U hU hW => ⟨rfl, trivial⟩⟩ rfl rfl hl.1 rfl (lv_room (Nat.le_of_ble_eq_true rfl)) dX0_monthsBetween_26 ⟨Nat.zero_le _, Nat.zero_le _⟩)) (fun r6 (hr6 : r6 = zi (f_X0_movedByMonths fro x5)) => ?_)
  subst hr6
  have hf6 := b_X0_movedByMonths fro x5 (by omega) (by omega)
  refine lv_iload_n hx hb dX0_monthsBetween_29 rfl (lv_at hl 2 rfl) ?_
  refine zw_icmp_le (tgt := 39) hx hb dX0_monthsBetween_30 (by decide) ⟨by omega, by omega⟩ ⟨by omega, by omega⟩ (fun h7 => ?_) (fun h7 => ?_)
  · skip
    refine lv_iload_n hx hb dX0_monthsBetween_39 rfl (lv_at hl 0 rfl) ?_
    subst ex5
    exact W.iret (v := zi (((12 * ((f_X0_yearOf too) - (f_X0_yearOf fro))) + (f_X0_monthOf too)) - (f_X0_monthOf fro))) hx hb hr (fun t ht hW => ⟨zi (((12 * ((f_X0_yearOf too) - (f_X0_yearOf fro))) + (f_X0_monthOf too)) - (f_X0_monthOf fro)), rfl, by rw [f_X0_monthsBetween, if_pos h7], ht⟩) (fun q h => by cases h) dX0_monthsBetween_40
  · skip
    refine lv_iload_n hx hb dX0_monthsBetween_33 rfl (lv_at hl 0 rfl) ?_
    refine zw_iconst hx hb dX0_monthsBetween_34 ?_
    refine zw_isub hx hb dX0_monthsBetween_35 ?_
    refine lv_goto (tgt := 40) hx hb dX0_monthsBetween_36 (by decide) ?_
    subst ex5
    exact W.iret (v := zi ((((12 * ((f_X0_yearOf too) - (f_X0_yearOf fro))) + (f_X0_monthOf too)) - (f_X0_monthOf fro)) - 1)) hx hb hr (fun t ht hW => ⟨zi ((((12 * ((f_X0_yearOf too) - (f_X0_yearOf fro))) + (f_X0_monthOf too)) - (f_X0_monthOf fro)) - 1), rfl, by rw [f_X0_monthsBetween, if_neg (Int.not_le.mpr h7)], ht⟩) (fun q h => by cases h) dX0_monthsBetween_40

set_option maxHeartbeats 4000000 in
set_option maxRecDepth 100000 in
theorem c_X3_isRule (l : Launch) (kk : Int) (aa : Int) (bb : Int) (cz : Int) (hp0 : -2147483648 ≤ kk ∧ kk ≤ 2147483647) (hp1 : -2147483648 ≤ aa ∧ aa ≤ 2147483647) (hp2 : -2147483648 ≤ bb ∧ bb ≤ 2147483647) (hp3 : -2147483648 ≤ cz ∧ cz ≤ 2147483647) : Met l yX3_isRule wsX3_isRule ({ frames := 3, cells := 0, slots := 0, locals := 65 }) (va_Pc [.int (zi kk), .int (zi aa), .int (zi bb), .int (zi cz)] (fun _ => True)) (vp_Si (fun r => r = zi (f_X3_isRule kk aa bb cz))) 0 0 (fun _ => False) := by
  refine Met.ofW (cc := cX3_isRule) (maxL := 4) (ret := (some .boolean)) (by decide) rfl ?_
  intro p e s m args below meth c s₁ B hml hv
  obtain ⟨rfl, -⟩ := hv
  have hx := B.exec
  have hb := B.bytes
  have hr := B.returns
  have hts := atoms_spec (ws := wsX3_isRule) B.pre
  have hown : s.vm.findClass RX3 = some m.cls := findClass_of_methodNamed B.named
  have hlocks := B.notSynchronized
  have hl := lv_entry ([.int (zi kk), .int (zi aa), .int (zi bb), .int (zi cz)]) (n := 4) (Nat.le_of_ble_eq_true rfl)
  rw [lg_entry_eq]
  generalize (lg_sl ([.int (zi kk), .int (zi aa), .int (zi bb), .int (zi cz)]) ++ List.replicate (4 - (lg_sl ([.int (zi kk), .int (zi aa), .int (zi bb), .int (zi cz)])).length) Slot.unset).toArray = ls at hl ⊢
  have hl : lv_has ls 4 [(0, .int (zi kk)), (1, .int (zi aa)), (2, .int (zi bb)), (3, .int (zi cz))] := hl
  refine lv_iload_n hx hb dX3_isRule_0 rfl (lv_at hl 0 rfl) ?_
  by_cases h1 : kk = 0
  · skip
    refine zw_tableIn (tgt := 32) hx hb dX3_isRule_1 ⟨by omega, by omega⟩ h1 (by decide) (by decide) rfl (by decide) ?_
    refine zw_sipush hx hb dX3_isRule_32 (by decide) ?_
    refine lv_iload_n hx hb dX3_isRule_35 rfl (lv_at hl 1 rfl) ?_
    refine lv_iload_n hx hb dX3_isRule_36 rfl (lv_at hl 2 rfl) ?_
    have hh2 := c_X0_civilNumber l 2000 aa bb (by omega) (by omega) (by omega)
    refine vp_callSi (va_Run.run (va_runS (As := [.int (zi 2000), .int (zi aa), .int (zi bb)]) (rest := []) ⟨hx, hb, hml, hown, hts⟩ hh2 (va_cwS 3 hts gX3_isRule_X0_civilNumber rfl rfl rfl (by decide +kernel) ⟨Nat.le_of_ble_eq_true rfl, Nat.le_of_ble_eq_true rfl⟩) ⟨fun a U g mk q => q, fun U hU hW => ⟨rfl, trivial⟩⟩ rfl rfl hl.1 rfl (lv_room (Nat.le_of_ble_eq_true rfl)) dX3_isRule_37 ⟨Nat.zero_le _, Nat.zero_le _⟩)) (fun r2 (hr2 : r2 = zi (f_X0_civilNumber 2000 aa bb)) => ?_)
    subst hr2
    have hf2 := b_X0_civilNumber 2000 aa bb (by omega) (by omega) (by omega)
    refine zw_iconst hx hb dX3_isRule_40 ?_
    refine zw_icmp_eq (tgt := 48) hx hb dX3_isRule_41 (by decide) ⟨by omega, by omega⟩ ⟨by omega, by omega⟩ (fun h3 => ?_) (fun h3 => ?_)
    · skip
      refine zw_iconst hx hb dX3_isRule_48 ?_
      exact W.zret (v := zi 0) hx hb hr (zi_nb (by omega)) (fun t ht hW => ⟨zi 0, rfl, by rw [f_X3_isRule, if_pos h1, if_pos h3], ht⟩) (fun q h => by cases h) dX3_isRule_49
    · skip
      refine zw_iconst hx hb dX3_isRule_44 ?_
      refine lv_goto (tgt := 49) hx hb dX3_isRule_45 (by decide) ?_
      exact W.zret (v := zi 1) hx hb hr (zi_nb (by omega)) (fun t ht hW => ⟨zi 1, rfl, by rw [f_X3_isRule, if_pos h1, if_neg h3], ht⟩) (fun q h => by cases h) dX3_isRule_49
  by_cases h4 : kk = 1
  · skip
    refine zw_tableIn (tgt := 50) hx hb dX3_isRule_1 ⟨by omega, by omega⟩ h4 (by decide) (by decide) rfl (by decide) ?_
    refine lv_iload_n hx hb dX3_isRule_50 rfl (lv_at hl 1 rfl) ?_
    refine zw_bipush hx hb dX3_isRule_51 (by decide) ?_
    refine zw_icmp_lt (tgt := 66) hx hb dX3_isRule_53 (by decide) ⟨by omega, by omega⟩ ⟨by omega, by omega⟩ (fun h5 => ?_) (fun h5 => ?_)
    · skip
      refine zw_iconst hx hb dX3_isRule_66 ?_
      exact W.zret (v := zi 0) hx hb hr (zi_nb (by omega)) (fun t ht hW => ⟨zi 0, rfl, by rw [f_X3_isRule, if_neg h1, if_pos h4, if_pos h5], ht⟩) (fun q h => by cases h) dX3_isRule_67
    · skip
      refine lv_iload_n hx hb dX3_isRule_56 rfl (lv_at hl 1 rfl) ?_
      refine zw_bipush hx hb dX3_isRule_57 (by decide) ?_
      refine zw_icmp_gt (tgt := 66) hx hb dX3_isRule_59 (by decide) ⟨by omega, by omega⟩ ⟨by omega, by omega⟩ (fun h6 => ?_) (fun h6 => ?_)
      · skip
        refine zw_iconst hx hb dX3_isRule_66 ?_
        exact W.zret (v := zi 0) hx hb hr (zi_nb (by omega)) (fun t ht hW => ⟨zi 0, rfl, by rw [f_X3_isRule, if_neg h1, if_pos h4, if_neg (Int.not_lt.mpr h5), if_neg (Int.not_le.mpr h6)], ht⟩) (fun q h => by cases h) dX3_isRule_67
      · skip
        refine zw_iconst hx hb dX3_isRule_62 ?_
        refine lv_goto (tgt := 67) hx hb dX3_isRule_63 (by decide) ?_
        exact W.zret (v := zi 1) hx hb hr (zi_nb (by omega)) (fun t ht hW => ⟨zi 1, rfl, by rw [f_X3_isRule, if_neg h1, if_pos h4, if_neg (Int.not_lt.mpr h5), if_pos h6], ht⟩) (fun q h => by cases h) dX3_isRule_67
  by_cases h7 : kk = 2
  · skip
    refine zw_tableIn (tgt := 68) hx hb dX3_isRule_1 ⟨by omega, by omega⟩ h7 (by decide) (by decide) rfl (by decide) ?_
    refine lv_iload_n hx hb dX3_isRule_68 rfl (lv_at hl 1 rfl) ?_
    have hh8 := c_X0_isMonth l aa (by omega)
    refine vp_callSi (va_Run.run (va_runS (As := [.int (zi aa)]) (rest := []) ⟨hx, hb, hml, hown, hts⟩ hh8 (va_cwS 1 hts gX3_isRule_X0_isMonth rfl rfl rfl (by decide +kernel) ⟨Nat.le_of_ble_eq_true rfl, Nat.le_of_ble_eq_true rfl⟩) ⟨fun a U g mk q => q, fun U hU hW => ⟨rfl, trivial⟩⟩ rfl rfl hl.1 rfl (lv_room (Nat.le_of_ble_eq_true rfl)) dX3_isRule_69 ⟨Nat.zero_le _, Nat.zero_le _⟩)) (fun r8 (hr8 : r8 = zi (f_X0_isMonth aa)) => ?_)
    subst hr8
    have hf8 := b_X0_isMonth aa (by omega)
    refine zw_if_eq (tgt := 101) hx hb dX3_isRule_72 (by decide) ⟨by omega, by omega⟩ (fun h9 => ?_) (fun h9 => ?_)
    · skip
      refine zw_iconst hx hb dX3_isRule_101 ?_
      exact W.zret (v := zi 0) hx hb hr (zi_nb (by omega)) (fun t ht hW => ⟨zi 0, rfl, by rw [f_X3_isRule, if_neg h1, if_neg h4, if_pos h7, if_pos h9], ht⟩) (fun q h => by cases h) dX3_isRule_102
    · skip
      refine lv_iload_n hx hb dX3_isRule_75 rfl (lv_at hl 2 rfl) ?_
      have hh10 := c_X0_isWeekday l bb (by omega)
      refine vp_callSi (va_Run.run (va_runS (As := [.int (zi bb)]) (rest := []) ⟨hx, hb, hml, hown, hts⟩ hh10 (va_cwS 1 hts gX3_isRule_X0_isWeekday rfl rfl rfl (by decide +kernel) ⟨Nat.le_of_ble_eq_true rfl, Nat.le_of_ble_eq_true rfl⟩) ⟨fun a U g mk q => q, fun U hU hW => ⟨rfl, trivial⟩⟩ rfl rfl hl.1 rfl (lv_room (Nat.le_of_ble_eq_true rfl)) dX3_isRule_76 ⟨Nat.zero_le _, Nat.zero_le _⟩)) (fun r10 (hr10 : r10 = zi (f_X0_isWeekday bb)) => ?_)
      subst hr10
      have hf10 := b_X0_isWeekday bb (by omega)
      refine zw_if_eq (tgt := 101) hx hb dX3_isRule_79 (by decide) ⟨by omega, by omega⟩ (fun h11 => ?_) (fun h11 => ?_)
      · skip
        refine zw_iconst hx hb dX3_isRule_101 ?_
        exact W.zret (v := zi 0) hx hb hr (zi_nb (by omega)) (fun t ht hW => ⟨zi 0, rfl, by rw [f_X3_isRule, if_neg h1, if_neg h4, if_pos h7, if_neg h9, if_pos h11], ht⟩) (fun q h => by cases h) dX3_isRule_102
      · skip
        refine lv_iload_n hx hb dX3_isRule_82 rfl (lv_at hl 3 rfl) ?_
        refine zw_iconst hx hb dX3_isRule_83 ?_
        refine zw_icmp_eq (tgt := 97) hx hb dX3_isRule_84 (by decide) ⟨by omega, by omega⟩ ⟨by omega, by omega⟩ (fun h12 => ?_) (fun h12 => ?_)
        · skip
          refine zw_iconst hx hb dX3_isRule_97 ?_
          refine lv_goto (tgt := 102) hx hb dX3_isRule_98 (by decide) ?_
          exact W.zret (v := zi 1) hx hb hr (zi_nb (by omega)) (fun t ht hW => ⟨zi 1, rfl, by rw [f_X3_isRule, if_neg h1, if_neg h4, if_pos h7, if_neg h9, if_neg h11, if_pos h12], ht⟩) (fun q h => by cases h) dX3_isRule_102
        · skip
          refine lv_iload_n hx hb dX3_isRule_87 rfl (lv_at hl 3 rfl) ?_
          refine zw_iconst hx hb dX3_isRule_88 ?_
          refine zw_icmp_lt (tgt := 101) hx hb dX3_isRule_89 (by decide) ⟨by omega, by omega⟩ ⟨by omega, by omega⟩ (fun h13 => ?_) (fun h13 => ?_)
          · skip
            refine zw_iconst hx hb dX3_isRule_101 ?_
            exact W.zret (v := zi 0) hx hb hr (zi_nb (by omega)) (fun t ht hW => ⟨zi 0, rfl, by rw [f_X3_isRule, if_neg h1, if_neg h4, if_pos h7, if_neg h9, if_neg h11, if_neg h12, if_pos h13], ht⟩) (fun q h => by cases h) dX3_isRule_102
          · skip
            refine lv_iload_n hx hb dX3_isRule_92 rfl (lv_at hl 3 rfl) ?_
            refine zw_iconst hx hb dX3_isRule_93 ?_
            refine zw_icmp_gt (tgt := 101) hx hb dX3_isRule_94 (by decide) ⟨by omega, by omega⟩ ⟨by omega, by omega⟩ (fun h14 => ?_) (fun h14 => ?_)
            · skip
              refine zw_iconst hx hb dX3_isRule_101 ?_
              exact W.zret (v := zi 0) hx hb hr (zi_nb (by omega)) (fun t ht hW => ⟨zi 0, rfl, by rw [f_X3_isRule, if_neg h1, if_neg h4, if_pos h7, if_neg h9, if_neg h11, if_neg h12, if_neg (Int.not_lt.mpr h13), if_neg (Int.not_le.mpr h14)], ht⟩) (fun q h => by cases h) dX3_isRule_102
            · skip
              refine zw_iconst hx hb dX3_isRule_97 ?_
              refine lv_goto (tgt := 102) hx hb dX3_isRule_98 (by decide) ?_
              exact W.zret (v := zi 1) hx hb hr (zi_nb (by omega)) (fun t ht hW => ⟨zi 1, rfl, by rw [f_X3_isRule, if_neg h1, if_neg h4, if_pos h7, if_neg h9, if_neg h11, if_neg h12, if_neg (Int.not_lt.mpr h13), if_pos h14], ht⟩) (fun q h => by cases h) dX3_isRule_102
  by_cases h15 : kk = 3
  · skip
    refine zw_tableIn (tgt := 32) hx hb dX3_isRule_1 ⟨by omega, by omega⟩ h15 (by decide) (by decide) rfl (by decide) ?_
    refine zw_sipush hx hb dX3_isRule_32 (by decide) ?_
    refine lv_iload_n hx hb dX3_isRule_35 rfl (lv_at hl 1 rfl) ?_
    refine lv_iload_n hx hb dX3_isRule_36 rfl (lv_at hl 2 rfl) ?_
    have hh16 := c_X0_civilNumber l 2000 aa bb (by omega) (by omega) (by omega)
    refine vp_callSi (va_Run.run (va_runS (As := [.int (zi 2000), .int (zi aa), .int (zi bb)]) (rest := []) ⟨hx, hb, hml, hown, hts⟩ hh16 (va_cwS 3 hts gX3_isRule_X0_civilNumber rfl rfl rfl (by decide +kernel) ⟨Nat.le_of_ble_eq_true rfl, Nat.le_of_ble_eq_true rfl⟩) ⟨fun a U g mk q => q, fun U hU hW => ⟨rfl, trivial⟩⟩ rfl rfl hl.1 rfl (lv_room (Nat.le_of_ble_eq_true rfl)) dX3_isRule_37 ⟨Nat.zero_le _, Nat.zero_le _⟩)) (fun r16 (hr16 : r16 = zi (f_X0_civilNumber 2000 aa bb)) => ?_)
    subst hr16
    have hf16 := b_X0_civilNumber 2000 aa bb (by omega) (by omega) (by omega)
    refine zw_iconst hx hb dX3_isRule_40 ?_
    refine zw_icmp_eq (tgt := 48) hx hb dX3_isRule_41 (by decide) ⟨by omega, by omega⟩ ⟨by omega, by omega⟩ (fun h17 => ?_) (fun h17 => ?_)
    · skip
      refine zw_iconst hx hb dX3_isRule_48 ?_
      exact W.zret (v := zi 0) hx hb hr (zi_nb (by omega)) (fun t ht hW => ⟨zi 0, rfl, by rw [f_X3_isRule, if_neg h1, if_neg h4, if_neg h7, if_pos h15, if_pos h17], ht⟩) (fun q h => by cases h) dX3_isRule_49
    · skip
      refine zw_iconst hx hb dX3_isRule_44 ?_
      refine lv_goto (tgt := 49) hx hb dX3_isRule_45 (by decide) ?_
      exact W.zret (v := zi 1) hx hb hr (zi_nb (by omega)) (fun t ht hW => ⟨zi 1, rfl, by rw [f_X3_isRule, if_neg h1, if_neg h4, if_neg h7, if_pos h15, if_neg h17], ht⟩) (fun q h => by cases h) dX3_isRule_49
  refine zw_tableOut (tgt := 103) hx hb dX3_isRule_1 ⟨by omega, by omega⟩ (by omega) (by decide) ?_
  refine zw_iconst hx hb dX3_isRule_103 ?_
  exact W.zret (v := zi 0) hx hb hr (zi_nb (by omega)) (fun t ht hW => ⟨zi 0, rfl, by rw [f_X3_isRule, if_neg h1, if_neg h4, if_neg h7, if_neg h15], ht⟩) (fun q h => by cases h) dX3_isRule_104

set_option maxHeartbeats 4000000 in
set_option maxRecDepth 100000 in
theorem c_X3_observed (l : Launch) (nu : Int) (hp0 : -1 ≤ nu ∧ nu ≤ 4000000) : Met l yX3_observed wsX3_observed ({ frames := 1, cells := 0, slots := 0, locals := 20 }) (va_Pc [.int (zi nu)] (fun _ => True)) (vp_Si (fun r => r = zi (f_X3_observed nu))) 0 0 (fun _ => False) := by
  refine Met.ofW (cc := cX3_observed) (maxL := 1) (ret := (some .int)) (by decide) rfl ?_
  intro p e s m args below meth c s₁ B hml hv
  obtain ⟨rfl, -⟩ := hv
  have hx := B.exec
  have hb := B.bytes
  have hr := B.returns
  have hts := atoms_spec (ws := wsX3_observed) B.pre
  have hown : s.vm.findClass RX3 = some m.cls := findClass_of_methodNamed B.named
  have hlocks := B.notSynchronized
  have hl := lv_entry ([.int (zi nu)]) (n := 1) (Nat.le_of_ble_eq_true rfl)
  rw [lg_entry_eq]
  generalize (lg_sl ([.int (zi nu)]) ++ List.replicate (1 - (lg_sl ([.int (zi nu)])).length) Slot.unset).toArray = ls at hl ⊢
  have hl : lv_has ls 1 [(0, .int (zi nu))] := hl
  refine lv_iload_n hx hb dX3_observed_0 rfl (lv_at hl 0 rfl) ?_
  refine zw_iconst hx hb dX3_observed_1 ?_
  refine zw_icmp_ne (tgt := 7) hx hb dX3_observed_2 (by decide) ⟨by omega, by omega⟩ ⟨by omega, by omega⟩ (fun h1 => ?_) (fun h1 => ?_)
  · skip
    refine lv_iload_n hx hb dX3_observed_7 rfl (lv_at hl 0 rfl) ?_
    have hh2 := c_X0_weekdayOf l nu (by omega)
    refine vp_callSi (va_Run.run (va_runS (As := [.int (zi nu)]) (rest := []) ⟨hx, hb, hml, hown, hts⟩ hh2 (va_cwS 1 hts gX3_observed_X0_weekdayOf rfl rfl rfl (by decide +kernel) ⟨Nat.le_of_ble_eq_true rfl, Nat.le_of_ble_eq_true rfl⟩) ⟨fun a U g mk q => q, fun U hU hW => ⟨rfl, trivial⟩⟩ rfl rfl hl.1 rfl (lv_room (Nat.le_of_ble_eq_true rfl)) dX3_observed_8 ⟨Nat.zero_le _, Nat.zero_le _⟩)) (fun r2 (hr2 : r2 = zi (f_X0_weekdayOf nu)) => ?_)
    subst hr2
    have hf2 := b_X0_weekdayOf nu (by omega)
    by_cases h3 : (f_X0_weekdayOf nu) = 6
    · skip
      refine zw_lookup (tgt := 36) (off := 25) hx hb dX3_observed_11 ⟨by omega, by omega⟩ (by decide) (by  exact zi_lk1 h3) (by decide) ?_
      refine lv_iload_n hx hb dX3_observed_36 rfl (lv_at hl 0 rfl) ?_
      refine zw_iconst hx hb dX3_observed_37 ?_
      refine zw_isub hx hb dX3_observed_38 ?_
      exact W.iret (v := zi (nu - 1)) hx hb hr (fun t ht hW => ⟨zi (nu - 1), rfl, by rw [f_X3_observed, if_neg h1, if_pos h3], ht⟩) (fun q h => by cases h) dX3_observed_39
    by_cases h4 : (f_X0_weekdayOf nu) = 7
    · skip
      refine zw_lookup (tgt := 40) (off := 29) hx hb dX3_observed_11 ⟨by omega, by omega⟩ (by decide) (by refine (zi_lk h3).trans ?_;  exact zi_lk1 h4) (by decide) ?_
      refine lv_iload_n hx hb dX3_observed_40 rfl (lv_at hl 0 rfl) ?_
      refine zw_iconst hx hb dX3_observed_41 ?_
      refine zw_iadd hx hb dX3_observed_42 ?_
      exact W.iret (v := zi (nu + 1)) hx hb hr (fun t ht hW => ⟨zi (nu + 1), rfl, by rw [f_X3_observed, if_neg h1, if_neg h3, if_pos h4], ht⟩) (fun q h => by cases h) dX3_observed_43
    refine zw_lookup (tgt := 44) (off := 33) hx hb dX3_observed_11 ⟨by omega, by omega⟩ (by decide) (by refine (zi_lk h3).trans ?_; refine (zi_lk h4).trans ?_;  rfl) (by decide) ?_
    refine lv_iload_n hx hb dX3_observed_44 rfl (lv_at hl 0 rfl) ?_
    exact W.iret (v := zi nu) hx hb hr (fun t ht hW => ⟨zi nu, rfl, by rw [f_X3_observed, if_neg h1, if_neg h3, if_neg h4], ht⟩) (fun q h => by cases h) dX3_observed_45
  · skip
    refine zw_iconst hx hb dX3_observed_5 ?_
    exact W.iret (v := zi (-1)) hx hb hr (fun t ht hW => ⟨zi (-1), rfl, by rw [f_X3_observed, if_pos h1], ht⟩) (fun q h => by cases h) dX3_observed_6

set_option maxHeartbeats 4000000 in
set_option maxRecDepth 100000 in
theorem c_X4_moved (l : Launch) (nu : Int) (many : Int) (un : Int) (hp0 : 0 ≤ nu ∧ nu ≤ 3652058) (hp1 : -2147483648 ≤ many ∧ many ≤ 2147483647) (hp2 : -2147483648 ≤ un ∧ un ≤ 2147483647) : Met l yX4_moved wsX4_moved ({ frames := 5, cells := 0, slots := 0, locals := 114 }) (va_Pc [.int (zi nu), .int (zi many), .int (zi un)] (fun _ => True)) (vp_Si (fun r => r = zi (f_X4_moved nu many un))) 0 0 (fun _ => False) := by
  refine Met.ofW (cc := cX4_moved) (maxL := 3) (ret := (some .int)) (by decide) rfl ?_
  intro p e s m args below meth c s₁ B hml hv
  obtain ⟨rfl, -⟩ := hv
  have hx := B.exec
  have hb := B.bytes
  have hr := B.returns
  have hts := atoms_spec (ws := wsX4_moved) B.pre
  have hown : s.vm.findClass RX4 = some m.cls := findClass_of_methodNamed B.named
  have hlocks := B.notSynchronized
  have hl := lv_entry ([.int (zi nu), .int (zi many), .int (zi un)]) (n := 3) (Nat.le_of_ble_eq_true rfl)
  rw [lg_entry_eq]
  generalize (lg_sl ([.int (zi nu), .int (zi many), .int (zi un)]) ++ List.replicate (3 - (lg_sl ([.int (zi nu), .int (zi many), .int (zi un)])).length) Slot.unset).toArray = ls at hl ⊢
  have hl : lv_has ls 3 [(0, .int (zi nu)), (1, .int (zi many)), (2, .int (zi un))] := hl
  refine lv_iload_n hx hb dX4_moved_0 rfl (lv_at hl 2 rfl) ?_
  by_cases h1 : un = 0
  · skip
    refine zw_lookup (tgt := 28) (off := 27) hx hb dX4_moved_1 ⟨by omega, by omega⟩ (by decide) (by  exact zi_lk1 h1) (by decide) ?_
    refine lv_iload_n hx hb dX4_moved_28 rfl (lv_at hl 0 rfl) ?_
    refine lv_iload_n hx hb dX4_moved_29 rfl (lv_at hl 1 rfl) ?_
    have hh2 := c_X0_movedByDays l nu many (by omega) (by omega)
    refine vp_callSi (va_Run.run (va_runS (As := [.int (zi nu), .int (zi many)]) (rest := []) ⟨hx, hb, hml, hown, hts⟩ hh2 (va_cwS 2 hts gX4_moved_X0_movedByDays rfl rfl rfl (by decide +kernel) ⟨Nat.le_of_ble_eq_true rfl, Nat.le_of_ble_eq_true rfl⟩) ⟨fun a U g mk q => q, fun U hU hW => ⟨rfl, trivial⟩⟩ rfl rfl hl.1 rfl (lv_room (Nat.le_of_ble_eq_true rfl)) dX4_moved_30 ⟨Nat.zero_le _, Nat.zero_le _⟩)) (fun r2 (hr2 : r2 = zi (f_X0_movedByDays nu many)) => ?_)
    subst hr2
    have hf2 := b_X0_movedByDays nu many (by omega) (by omega)
    exact W.iret (v := zi (f_X0_movedByDays nu many)) hx hb hr (fun t ht hW => ⟨zi (f_X0_movedByDays nu many), rfl, by rw [f_X4_moved, if_pos h1], ht⟩) (fun q h => by cases h) dX4_moved_33
  by_cases h3 : un = 1
  · skip
    refine zw_lookup (tgt := 34) (off := 33) hx hb dX4_moved_1 ⟨by omega, by omega⟩ (by decide) (by refine (zi_lk h1).trans ?_;  exact zi_lk1 h3) (by decide) ?_
    refine lv_iload_n hx hb dX4_moved_34 rfl (lv_at hl 0 rfl) ?_
    refine lv_iload_n hx hb dX4_moved_35 rfl (lv_at hl 1 rfl) ?_
    refine zw_i2l hx hb dX4_moved_36 ⟨by omega, by omega⟩ ?_
    have hh4 := c_X0_movedByMonths l nu many (by omega) (by omega)
    refine vp_callSi (va_Run.run (va_runS (As := [.int (zi nu), .long (zl many)]) (rest := []) ⟨hx, hb, hml, hown, hts⟩ hh4 (va_cwS 2 hts gX4_moved_X0_movedByMonths rfl rfl rfl (by decide +kernel) ⟨Nat.le_of_ble_eq_true rfl, Nat.le_of_ble_eq_true rfl⟩) ⟨fun a U g mk q => q, fun U hU hW => ⟨rfl, trivial⟩⟩ rfl rfl hl.1 rfl (lv_room (Nat.le_of_ble_eq_true rfl)) dX4_moved_37 ⟨Nat.zero_le _, Nat.zero_le _⟩)) (fun r4 (hr4 : r4 = zi (f_X0_movedByMonths nu many)) => ?_)
    subst hr4
    have hf4 := b_X0_movedByMonths nu many (by omega) (by omega)
    exact W.iret (v := zi (f_X0_movedByMonths nu many)) hx hb hr (fun t ht hW => ⟨zi (f_X0_movedByMonths nu many), rfl, by rw [f_X4_moved, if_neg h1, if_pos h3], ht⟩) (fun q h => by cases h) dX4_moved_40
  refine zw_lookup (tgt := 41) (off := 40) hx hb dX4_moved_1 ⟨by omega, by omega⟩ (by decide) (by refine (zi_lk h1).trans ?_; refine (zi_lk h3).trans ?_;  rfl) (by decide) ?_
  refine lv_iload_n hx hb dX4_moved_41 rfl (lv_at hl 0 rfl) ?_
  refine zw_ldc2 (n := 12) hx hb hown (hts (.constantLong RX4 246 (12)) (by decide +kernel)) dX4_moved_42 (by decide) ?_
  refine lv_iload_n hx hb dX4_moved_45 rfl (lv_at hl 1 rfl) ?_
  refine zw_i2l hx hb dX4_moved_46 ⟨by omega, by omega⟩ ?_
  refine zw_lmul hx hb dX4_moved_47 ?_
  have hh5 := c_X0_movedByMonths l nu (12 * many) (by omega) (by omega)
  refine vp_callSi (va_Run.run (va_runS (As := [.int (zi nu), .long (zl (12 * many))]) (rest := []) ⟨hx, hb, hml, hown, hts⟩ hh5 (va_cwS 2 hts gX4_moved_X0_movedByMonths rfl rfl rfl (by decide +kernel) ⟨Nat.le_of_ble_eq_true rfl, Nat.le_of_ble_eq_true rfl⟩) ⟨fun a U g mk q => q, fun U hU hW => ⟨rfl, trivial⟩⟩ rfl rfl hl.1 rfl (lv_room (Nat.le_of_ble_eq_true rfl)) dX4_moved_48 ⟨Nat.zero_le _, Nat.zero_le _⟩)) (fun r5 (hr5 : r5 = zi (f_X0_movedByMonths nu (12 * many))) => ?_)
  subst hr5
  have hf5 := b_X0_movedByMonths nu (12 * many) (by omega) (by omega)
  exact W.iret (v := zi (f_X0_movedByMonths nu (12 * many))) hx hb hr (fun t ht hW => ⟨zi (f_X0_movedByMonths nu (12 * many)), rfl, by rw [f_X4_moved, if_neg h1, if_neg h3], ht⟩) (fun q h => by cases h) dX4_moved_51

set_option maxHeartbeats 4000000 in
set_option maxRecDepth 100000 in
theorem c_X4_wholeUnits (l : Launch) (fro : Int) (too : Int) (un : Int) (hp0 : 0 ≤ fro ∧ fro ≤ too ∧ too ≤ 3652058) (hp1 : -2147483648 ≤ un ∧ un ≤ 2147483647) : Met l yX4_wholeUnits wsX4_wholeUnits ({ frames := 6, cells := 0, slots := 0, locals := 136 }) (va_Pc [.int (zi fro), .int (zi too), .int (zi un)] (fun _ => True)) (vp_Si (fun r => r = zi (f_X4_wholeUnits fro too un))) 0 0 (fun _ => False) := by
  refine Met.ofW (cc := cX4_wholeUnits) (maxL := 3) (ret := (some .int)) (by decide) rfl ?_
  intro p e s m args below meth c s₁ B hml hv
  obtain ⟨rfl, -⟩ := hv
  have hx := B.exec
  have hb := B.bytes
  have hr := B.returns
  have hts := atoms_spec (ws := wsX4_wholeUnits) B.pre
  have hown : s.vm.findClass RX4 = some m.cls := findClass_of_methodNamed B.named
  have hlocks := B.notSynchronized
  have hl := lv_entry ([.int (zi fro), .int (zi too), .int (zi un)]) (n := 3) (Nat.le_of_ble_eq_true rfl)
  rw [lg_entry_eq]
  generalize (lg_sl ([.int (zi fro), .int (zi too), .int (zi un)]) ++ List.replicate (3 - (lg_sl ([.int (zi fro), .int (zi too), .int (zi un)])).length) Slot.unset).toArray = ls at hl ⊢
  have hl : lv_has ls 3 [(0, .int (zi fro)), (1, .int (zi too)), (2, .int (zi un))] := hl
  refine lv_iload_n hx hb dX4_wholeUnits_0 rfl (lv_at hl 2 rfl) ?_
  by_cases h1 : un = 0
  · skip
    refine zw_lookup (tgt := 28) (off := 27) hx hb dX4_wholeUnits_1 ⟨by omega, by omega⟩ (by decide) (by  exact zi_lk1 h1) (by decide) ?_
    refine lv_iload_n hx hb dX4_wholeUnits_28 rfl (lv_at hl 1 rfl) ?_
    refine lv_iload_n hx hb dX4_wholeUnits_29 rfl (lv_at hl 0 rfl) ?_
    refine zw_isub hx hb dX4_wholeUnits_30 ?_
    exact W.iret (v := zi (too - fro)) hx hb hr (fun t ht hW => ⟨zi (too - fro), rfl, by rw [f_X4_wholeUnits, if_pos h1], ht⟩) (fun q h => by cases h) dX4_wholeUnits_31
  by_cases h2 : un = 1
  · skip
    refine zw_lookup (tgt := 32) (off := 31) hx hb dX4_wholeUnits_1 ⟨by omega, by omega⟩ (by decide) (by refine (zi_lk h1).trans ?_;  exact zi_lk1 h2) (by decide) ?_
    refine lv_iload_n hx hb dX4_wholeUnits_32 rfl (lv_at hl 0 rfl) ?_
    refine lv_iload_n hx hb dX4_wholeUnits_33 rfl (lv_at hl 1 rfl) ?_
    have hh3 := c_X0_monthsBetween l fro too (by omega) (by omega)
    refine vp_callSi (va_Run.run (va_runS (As := [.int (zi fro), .int (zi too)]) (rest := []) ⟨hx, hb, hml, hown, hts⟩ hh3 (va_cwS 2 hts gX4_wholeUnits_X0_monthsBetween rfl rfl rfl (by decide +kernel) ⟨Nat.le_of_ble_eq_true rfl, Nat.le_of_ble_eq_true rfl⟩) ⟨fun a U g mk q => q, fun U hU hW => ⟨rfl, trivial⟩⟩ rfl rfl hl.1 rfl (lv_room (Nat.le_of_ble_eq_true rfl)) dX4_wholeUnits_34 ⟨Nat.zero_le _, Nat.zero_le _⟩)) (fun r3 (hr3 : r3 = zi (f_X0_monthsBetween fro too)) => ?_)
    subst hr3
    have hf3 := b_X0_monthsBetween fro too (by omega) (by omega)
    exact W.iret (v := zi (f_X0_monthsBetween fro too)) hx hb hr (fun t ht hW => ⟨zi (f_X0_monthsBetween fro too), rfl, by rw [f_X4_wholeUnits, if_neg h1, if_pos h2], ht⟩) (fun q h => by cases h) dX4_wholeUnits_37
  refine zw_lookup (tgt := 38) (off := 37) hx hb dX4_wholeUnits_1 ⟨by omega, by omega⟩ (by decide) (by refine (zi_lk h1).trans ?_; refine (zi_lk h2).trans ?_;  rfl) (by decide) ?_
  refine lv_iload_n hx hb dX4_wholeUnits_38 rfl (lv_at hl 0 rfl) ?_
  refine lv_iload_n hx hb dX4_wholeUnits_39 rfl (lv_at hl 1 rfl) ?_
  have hh4 := c_X0_monthsBetween l fro too (by omega) (by omega)
  refine vp_callSi (va_Run.run (va_runS (As := [.int (zi fro), .int (zi too)]) (rest := []) ⟨hx, hb, hml, hown, hts⟩ hh4 (va_cwS 2 hts gX4_wholeUnits_X0_monthsBetween rfl rfl rfl (by decide +kernel) ⟨Nat.le_of_ble_eq_true rfl, Nat.le_of_ble_eq_true rfl⟩) ⟨fun a U g mk q => q, fun U hU hW => ⟨rfl, trivial⟩⟩ rfl rfl hl.1 rfl (lv_room (Nat.le_of_ble_eq_true rfl)) dX4_wholeUnits_40 ⟨Nat.zero_le _, Nat.zero_le _⟩)) (fun r4 (hr4 : r4 = zi (f_X0_monthsBetween fro too)) => ?_)
  subst hr4
  have hf4 := b_X0_monthsBetween fro too (by omega) (by omega)
  have hmo := m_X0_between fro too (by omega)
  refine zw_bipush hx hb dX4_wholeUnits_43 (by decide) ?_
  refine zw_idiv hx hb dX4_wholeUnits_45 (by omega) ⟨by omega, by omega⟩ ⟨by omega, by omega⟩ (by omega) ?_
  exact W.iret (v := zi ((f_X0_monthsBetween fro too) / 12)) hx hb hr (fun t ht hW => ⟨zi ((f_X0_monthsBetween fro too) / 12), rfl, by rw [f_X4_wholeUnits, if_neg h1, if_neg h2], ht⟩) (fun q h => by cases h) dX4_wholeUnits_46
