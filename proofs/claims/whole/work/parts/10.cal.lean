def f_X0_isNumber (n : Int) : Int :=
  if n < 0 then 0
  else if n ≤ 3652058 then 1
  else 0
set_option maxHeartbeats 4000000 in
set_option maxRecDepth 100000 in
theorem c_X0_isNumber (l : Launch) (n : Int) (hp0 : -9223372036854775808 ≤ n ∧ n ≤ 9223372036854775807) : Met l yX0_isNumber wsX0_isNumber ({ frames := 0, cells := 0, slots := 0, locals := 0 }) (va_Pc [.long (zl n)] (fun _ => True)) (vp_Si (fun r => r = zi (f_X0_isNumber n))) 0 0 (fun _ => False) := by
  refine Met.ofW (cc := cX0_isNumber) (maxL := 2) (ret := (some .boolean)) (by decide) rfl ?_
  intro p e s m args below meth c s₁ B hml hv
  obtain ⟨rfl, -⟩ := hv
  have hx := B.exec
  have hb := B.bytes
  have hr := B.returns
  have hts := atoms_spec (ws := wsX0_isNumber) B.pre
  have hown : s.vm.findClass RX0 = some m.cls := findClass_of_methodNamed B.named
  have hlocks := B.notSynchronized
  have hl := lv_entry ([.long (zl n)]) (n := 2) (Nat.le_of_ble_eq_true rfl)
  rw [lg_entry_eq]
  generalize (lg_sl ([.long (zl n)]) ++ List.replicate (2 - (lg_sl ([.long (zl n)])).length) Slot.unset).toArray = ls at hl ⊢
  have hl : lv_has ls 2 [(0, .long (zl n))] := hl
  refine lv_lload_n hx hb dX0_isNumber_0 rfl (lv_at hl 0 rfl) ?_
  refine zw_lconst (v := 0) hx hb dX0_isNumber_1 (by decide) ?_
  refine zw_lcmp_lt (tgt := 18) hx hb dX0_isNumber_2 dX0_isNumber_3 (by decide) ⟨by omega, by omega⟩ ⟨by omega, by omega⟩ (fun h1 => ?_) (fun h1 => ?_)
  · skip
    refine zw_iconst hx hb dX0_isNumber_18 ?_
    exact W.zret (v := zi 0) hx hb hr (zi_nb (by omega)) (fun t ht hW => ⟨zi 0, rfl, by rw [f_X0_isNumber, if_pos h1], ht⟩) (fun q h => by cases h) dX0_isNumber_19
  · skip
    refine lv_lload_n hx hb dX0_isNumber_6 rfl (lv_at hl 0 rfl) ?_
    refine zw_ldc2 (n := 3652058) hx hb hown (hts (.constantLong RX0 11 (3652058)) (by decide +kernel)) dX0_isNumber_7 (by decide) ?_
    refine zw_lcmp_gt (tgt := 18) hx hb dX0_isNumber_10 dX0_isNumber_11 (by decide) ⟨by omega, by omega⟩ ⟨by omega, by omega⟩ (fun h2 => ?_) (fun h2 => ?_)
    · skip
      refine zw_iconst hx hb dX0_isNumber_18 ?_
      exact W.zret (v := zi 0) hx hb hr (zi_nb (by omega)) (fun t ht hW => ⟨zi 0, rfl, by rw [f_X0_isNumber, if_neg (Int.not_lt.mpr h1), if_neg (Int.not_le.mpr h2)], ht⟩) (fun q h => by cases h) dX0_isNumber_19
    · skip
      refine zw_iconst hx hb dX0_isNumber_14 ?_
      refine lv_goto (tgt := 19) hx hb dX0_isNumber_15 (by decide) ?_
      exact W.zret (v := zi 1) hx hb hr (zi_nb (by omega)) (fun t ht hW => ⟨zi 1, rfl, by rw [f_X0_isNumber, if_neg (Int.not_lt.mpr h1), if_pos h2], ht⟩) (fun q h => by cases h) dX0_isNumber_19
theorem b_X0_isNumber (n : Int) (hp0 : -9223372036854775808 ≤ n ∧ n ≤ 9223372036854775807) : ((f_X0_isNumber n) = 1 ∧ 0 ≤ n ∧ n ≤ 3652058) ∨ ((f_X0_isNumber n) = 0 ∧ (n < 0 ∨ 3652058 < n)) := by
  unfold f_X0_isNumber
  (repeat' split) <;> omega

def f_X0_isYear (n : Int) : Int :=
  if n < 1 then 0
  else if n ≤ 9999 then 1
  else 0
set_option maxHeartbeats 4000000 in
set_option maxRecDepth 100000 in
theorem c_X0_isYear (l : Launch) (n : Int) (hp0 : -2147483648 ≤ n ∧ n ≤ 2147483647) : Met l yX0_isYear wsX0_isYear ({ frames := 0, cells := 0, slots := 0, locals := 0 }) (va_Pc [.int (zi n)] (fun _ => True)) (vp_Si (fun r => r = zi (f_X0_isYear n))) 0 0 (fun _ => False) := by
  refine Met.ofW (cc := cX0_isYear) (maxL := 1) (ret := (some .boolean)) (by decide) rfl ?_
  intro p e s m args below meth c s₁ B hml hv
  obtain ⟨rfl, -⟩ := hv
  have hx := B.exec
  have hb := B.bytes
  have hr := B.returns
  have hts := atoms_spec (ws := wsX0_isYear) B.pre
  have hown : s.vm.findClass RX0 = some m.cls := findClass_of_methodNamed B.named
  have hlocks := B.notSynchronized
  have hl := lv_entry ([.int (zi n)]) (n := 1) (Nat.le_of_ble_eq_true rfl)
  rw [lg_entry_eq]
  generalize (lg_sl ([.int (zi n)]) ++ List.replicate (1 - (lg_sl ([.int (zi n)])).length) Slot.unset).toArray = ls at hl ⊢
  have hl : lv_has ls 1 [(0, .int (zi n))] := hl
  refine lv_iload_n hx hb dX0_isYear_0 rfl (lv_at hl 0 rfl) ?_
  refine zw_iconst hx hb dX0_isYear_1 ?_
  refine zw_icmp_lt (tgt := 16) hx hb dX0_isYear_2 (by decide) ⟨by omega, by omega⟩ ⟨by omega, by omega⟩ (fun h1 => ?_) (fun h1 => ?_)
  · skip
    refine zw_iconst hx hb dX0_isYear_16 ?_
    exact W.zret (v := zi 0) hx hb hr (zi_nb (by omega)) (fun t ht hW => ⟨zi 0, rfl, by rw [f_X0_isYear, if_pos h1], ht⟩) (fun q h => by cases h) dX0_isYear_17
  · skip
    refine lv_iload_n hx hb dX0_isYear_5 rfl (lv_at hl 0 rfl) ?_
    refine zw_sipush hx hb dX0_isYear_6 (by decide) ?_
    refine zw_icmp_gt (tgt := 16) hx hb dX0_isYear_9 (by decide) ⟨by omega, by omega⟩ ⟨by omega, by omega⟩ (fun h2 => ?_) (fun h2 => ?_)
    · skip
      refine zw_iconst hx hb dX0_isYear_16 ?_
      exact W.zret (v := zi 0) hx hb hr (zi_nb (by omega)) (fun t ht hW => ⟨zi 0, rfl, by rw [f_X0_isYear, if_neg (Int.not_lt.mpr h1), if_neg (Int.not_le.mpr h2)], ht⟩) (fun q h => by cases h) dX0_isYear_17
    · skip
      refine zw_iconst hx hb dX0_isYear_12 ?_
      refine lv_goto (tgt := 17) hx hb dX0_isYear_13 (by decide) ?_
      exact W.zret (v := zi 1) hx hb hr (zi_nb (by omega)) (fun t ht hW => ⟨zi 1, rfl, by rw [f_X0_isYear, if_neg (Int.not_lt.mpr h1), if_pos h2], ht⟩) (fun q h => by cases h) dX0_isYear_17
theorem b_X0_isYear (n : Int) (hp0 : -2147483648 ≤ n ∧ n ≤ 2147483647) : ((f_X0_isYear n) = 1 ∧ 1 ≤ n ∧ n ≤ 9999) ∨ ((f_X0_isYear n) = 0 ∧ (n < 1 ∨ 9999 < n)) := by
  unfold f_X0_isYear
  (repeat' split) <;> omega

def f_X0_isMonth (n : Int) : Int :=
  if n < 1 then 0
  else if n ≤ 12 then 1
  else 0
set_option maxHeartbeats 4000000 in
set_option maxRecDepth 100000 in
theorem c_X0_isMonth (l : Launch) (n : Int) (hp0 : -2147483648 ≤ n ∧ n ≤ 2147483647) : Met l yX0_isMonth wsX0_isMonth ({ frames := 0, cells := 0, slots := 0, locals := 0 }) (va_Pc [.int (zi n)] (fun _ => True)) (vp_Si (fun r => r = zi (f_X0_isMonth n))) 0 0 (fun _ => False) := by
  refine Met.ofW (cc := cX0_isMonth) (maxL := 1) (ret := (some .boolean)) (by decide) rfl ?_
  intro p e s m args below meth c s₁ B hml hv
  obtain ⟨rfl, -⟩ := hv
  have hx := B.exec
  have hb := B.bytes
  have hr := B.returns
  have hts := atoms_spec (ws := wsX0_isMonth) B.pre
  have hown : s.vm.findClass RX0 = some m.cls := findClass_of_methodNamed B.named
  have hlocks := B.notSynchronized
  have hl := lv_entry ([.int (zi n)]) (n := 1) (Nat.le_of_ble_eq_true rfl)
  rw [lg_entry_eq]
  generalize (lg_sl ([.int (zi n)]) ++ List.replicate (1 - (lg_sl ([.int (zi n)])).length) Slot.unset).toArray = ls at hl ⊢
  have hl : lv_has ls 1 [(0, .int (zi n))] := hl
  refine lv_iload_n hx hb dX0_isMonth_0 rfl (lv_at hl 0 rfl) ?_
  refine zw_iconst hx hb dX0_isMonth_1 ?_
  refine zw_icmp_lt (tgt := 15) hx hb dX0_isMonth_2 (by decide) ⟨by omega, by omega⟩ ⟨by omega, by omega⟩ (fun h1 => ?_) (fun h1 => ?_)
  · skip
    refine zw_iconst hx hb dX0_isMonth_15 ?_
    exact W.zret (v := zi 0) hx hb hr (zi_nb (by omega)) (fun t ht hW => ⟨zi 0, rfl, by rw [f_X0_isMonth, if_pos h1], ht⟩) (fun q h => by cases h) dX0_isMonth_16
  · skip
    refine lv_iload_n hx hb dX0_isMonth_5 rfl (lv_at hl 0 rfl) ?_
    refine zw_bipush hx hb dX0_isMonth_6 (by decide) ?_
    refine zw_icmp_gt (tgt := 15) hx hb dX0_isMonth_8 (by decide) ⟨by omega, by omega⟩ ⟨by omega, by omega⟩ (fun h2 => ?_) (fun h2 => ?_)
    · skip
      refine zw_iconst hx hb dX0_isMonth_15 ?_
      exact W.zret (v := zi 0) hx hb hr (zi_nb (by omega)) (fun t ht hW => ⟨zi 0, rfl, by rw [f_X0_isMonth, if_neg (Int.not_lt.mpr h1), if_neg (Int.not_le.mpr h2)], ht⟩) (fun q h => by cases h) dX0_isMonth_16
    · skip
      refine zw_iconst hx hb dX0_isMonth_11 ?_
      refine lv_goto (tgt := 16) hx hb dX0_isMonth_12 (by decide) ?_
      exact W.zret (v := zi 1) hx hb hr (zi_nb (by omega)) (fun t ht hW => ⟨zi 1, rfl, by rw [f_X0_isMonth, if_neg (Int.not_lt.mpr h1), if_pos h2], ht⟩) (fun q h => by cases h) dX0_isMonth_16
theorem b_X0_isMonth (n : Int) (hp0 : -2147483648 ≤ n ∧ n ≤ 2147483647) : ((f_X0_isMonth n) = 1 ∧ 1 ≤ n ∧ n ≤ 12) ∨ ((f_X0_isMonth n) = 0 ∧ (n < 1 ∨ 12 < n)) := by
  unfold f_X0_isMonth
  (repeat' split) <;> omega

def f_X0_isWeekday (n : Int) : Int :=
  if n < 1 then 0
  else if n ≤ 7 then 1
  else 0
set_option maxHeartbeats 4000000 in
set_option maxRecDepth 100000 in
theorem c_X0_isWeekday (l : Launch) (n : Int) (hp0 : -2147483648 ≤ n ∧ n ≤ 2147483647) : Met l yX0_isWeekday wsX0_isWeekday ({ frames := 0, cells := 0, slots := 0, locals := 0 }) (va_Pc [.int (zi n)] (fun _ => True)) (vp_Si (fun r => r = zi (f_X0_isWeekday n))) 0 0 (fun _ => False) := by
  refine Met.ofW (cc := cX0_isWeekday) (maxL := 1) (ret := (some .boolean)) (by decide) rfl ?_
  intro p e s m args below meth c s₁ B hml hv
  obtain ⟨rfl, -⟩ := hv
  have hx := B.exec
  have hb := B.bytes
  have hr := B.returns
  have hts := atoms_spec (ws := wsX0_isWeekday) B.pre
  have hown : s.vm.findClass RX0 = some m.cls := findClass_of_methodNamed B.named
  have hlocks := B.notSynchronized
  have hl := lv_entry ([.int (zi n)]) (n := 1) (Nat.le_of_ble_eq_true rfl)
  rw [lg_entry_eq]
  generalize (lg_sl ([.int (zi n)]) ++ List.replicate (1 - (lg_sl ([.int (zi n)])).length) Slot.unset).toArray = ls at hl ⊢
  have hl : lv_has ls 1 [(0, .int (zi n))] := hl
  refine lv_iload_n hx hb dX0_isWeekday_0 rfl (lv_at hl 0 rfl) ?_
  refine zw_iconst hx hb dX0_isWeekday_1 ?_
  refine zw_icmp_lt (tgt := 15) hx hb dX0_isWeekday_2 (by decide) ⟨by omega, by omega⟩ ⟨by omega, by omega⟩ (fun h1 => ?_) (fun h1 => ?_)
  · skip
    refine zw_iconst hx hb dX0_isWeekday_15 ?_
    exact W.zret (v := zi 0) hx hb hr (zi_nb (by omega)) (fun t ht hW => ⟨zi 0, rfl, by rw [f_X0_isWeekday, if_pos h1], ht⟩) (fun q h => by cases h) dX0_isWeekday_16
  · skip
    refine lv_iload_n hx hb dX0_isWeekday_5 rfl (lv_at hl 0 rfl) ?_
    refine zw_bipush hx hb dX0_isWeekday_6 (by decide) ?_
    refine zw_icmp_gt (tgt := 15) hx hb dX0_isWeekday_8 (by decide) ⟨by omega, by omega⟩ ⟨by omega, by omega⟩ (fun h2 => ?_) (fun h2 => ?_)
    · skip
      refine zw_iconst hx hb dX0_isWeekday_15 ?_
      exact W.zret (v := zi 0) hx hb hr (zi_nb (by omega)) (fun t ht hW => ⟨zi 0, rfl, by rw [f_X0_isWeekday, if_neg (Int.not_lt.mpr h1), if_neg (Int.not_le.mpr h2)], ht⟩) (fun q h => by cases h) dX0_isWeekday_16
    · skip
      refine zw_iconst hx hb dX0_isWeekday_11 ?_
      refine lv_goto (tgt := 16) hx hb dX0_isWeekday_12 (by decide) ?_
      exact W.zret (v := zi 1) hx hb hr (zi_nb (by omega)) (fun t ht hW => ⟨zi 1, rfl, by rw [f_X0_isWeekday, if_neg (Int.not_lt.mpr h1), if_pos h2], ht⟩) (fun q h => by cases h) dX0_isWeekday_16
theorem b_X0_isWeekday (n : Int) (hp0 : -2147483648 ≤ n ∧ n ≤ 2147483647) : ((f_X0_isWeekday n) = 1 ∧ 1 ≤ n ∧ n ≤ 7) ∨ ((f_X0_isWeekday n) = 0 ∧ (n < 1 ∨ 7 < n)) := by
  unfold f_X0_isWeekday
  (repeat' split) <;> omega

def f_X0_isLeap (y : Int) : Int :=
  if (y % 4) = 0 then (if (y % 100) = 0 then (if (y % 400) = 0 then 1
      else 0)
    else 1)
  else 0
set_option maxHeartbeats 4000000 in
set_option maxRecDepth 100000 in
theorem c_X0_isLeap (l : Launch) (y : Int) (hp0 : 0 ≤ y ∧ y ≤ 2147483647) : Met l yX0_isLeap wsX0_isLeap ({ frames := 0, cells := 0, slots := 0, locals := 0 }) (va_Pc [.int (zi y)] (fun _ => True)) (vp_Si (fun r => r = zi (f_X0_isLeap y))) 0 0 (fun _ => False) := by
  refine Met.ofW (cc := cX0_isLeap) (maxL := 1) (ret := (some .boolean)) (by decide) rfl ?_
  intro p e s m args below meth c s₁ B hml hv
  obtain ⟨rfl, -⟩ := hv
  have hx := B.exec
  have hb := B.bytes
  have hr := B.returns
  have hts := atoms_spec (ws := wsX0_isLeap) B.pre
  have hown : s.vm.findClass RX0 = some m.cls := findClass_of_methodNamed B.named
  have hlocks := B.notSynchronized
  have hl := lv_entry ([.int (zi y)]) (n := 1) (Nat.le_of_ble_eq_true rfl)
  rw [lg_entry_eq]
  generalize (lg_sl ([.int (zi y)]) ++ List.replicate (1 - (lg_sl ([.int (zi y)])).length) Slot.unset).toArray = ls at hl ⊢
  have hl : lv_has ls 1 [(0, .int (zi y))] := hl
  refine lv_iload_n hx hb dX0_isLeap_0 rfl (lv_at hl 0 rfl) ?_
  refine zw_iconst hx hb dX0_isLeap_1 ?_
  refine zw_irem hx hb dX0_isLeap_2 (by omega) ⟨by omega, by omega⟩ ⟨by omega, by omega⟩ (by omega) ?_
  refine zw_if_ne (tgt := 25) hx hb dX0_isLeap_3 (by decide) ⟨by omega, by omega⟩ (fun h1 => ?_) (fun h1 => ?_)
  · skip
    refine zw_iconst hx hb dX0_isLeap_25 ?_
    exact W.zret (v := zi 0) hx hb hr (zi_nb (by omega)) (fun t ht hW => ⟨zi 0, rfl, by rw [f_X0_isLeap, if_neg h1], ht⟩) (fun q h => by cases h) dX0_isLeap_26
  · skip
    refine lv_iload_n hx hb dX0_isLeap_6 rfl (lv_at hl 0 rfl) ?_
    refine zw_bipush hx hb dX0_isLeap_7 (by decide) ?_
    refine zw_irem hx hb dX0_isLeap_9 (by omega) ⟨by omega, by omega⟩ ⟨by omega, by omega⟩ (by omega) ?_
    refine zw_if_ne (tgt := 21) hx hb dX0_isLeap_10 (by decide) ⟨by omega, by omega⟩ (fun h2 => ?_) (fun h2 => ?_)
    · skip
      refine zw_iconst hx hb dX0_isLeap_21 ?_
      refine lv_goto (tgt := 26) hx hb dX0_isLeap_22 (by decide) ?_
      exact W.zret (v := zi 1) hx hb hr (zi_nb (by omega)) (fun t ht hW => ⟨zi 1, rfl, by rw [f_X0_isLeap, if_pos h1, if_neg h2], ht⟩) (fun q h => by cases h) dX0_isLeap_26
    · skip
      refine lv_iload_n hx hb dX0_isLeap_13 rfl (lv_at hl 0 rfl) ?_
      refine zw_sipush hx hb dX0_isLeap_14 (by decide) ?_
      refine zw_irem hx hb dX0_isLeap_17 (by omega) ⟨by omega, by omega⟩ ⟨by omega, by omega⟩ (by omega) ?_
      refine zw_if_ne (tgt := 25) hx hb dX0_isLeap_18 (by decide) ⟨by omega, by omega⟩ (fun h3 => ?_) (fun h3 => ?_)
      · skip
        refine zw_iconst hx hb dX0_isLeap_25 ?_
        exact W.zret (v := zi 0) hx hb hr (zi_nb (by omega)) (fun t ht hW => ⟨zi 0, rfl, by rw [f_X0_isLeap, if_pos h1, if_pos h2, if_neg h3], ht⟩) (fun q h => by cases h) dX0_isLeap_26
      · skip
        refine zw_iconst hx hb dX0_isLeap_21 ?_
        refine lv_goto (tgt := 26) hx hb dX0_isLeap_22 (by decide) ?_
        exact W.zret (v := zi 1) hx hb hr (zi_nb (by omega)) (fun t ht hW => ⟨zi 1, rfl, by rw [f_X0_isLeap, if_pos h1, if_pos h2, if_pos h3], ht⟩) (fun q h => by cases h) dX0_isLeap_26
theorem b_X0_isLeap (y : Int) (hp0 : 0 ≤ y ∧ y ≤ 2147483647) : (f_X0_isLeap y) = 0 ∨ (f_X0_isLeap y) = 1 := by
  unfold f_X0_isLeap
  (repeat' split) <;> omega

def f_X0_yearLength (y : Int) : Int :=
  if (f_X0_isLeap y) = 0 then 365
  else 366
set_option maxHeartbeats 4000000 in
set_option maxRecDepth 100000 in
theorem c_X0_yearLength (l : Launch) (y : Int) (hp0 : 0 ≤ y ∧ y ≤ 2147483647) : Met l yX0_yearLength wsX0_yearLength ({ frames := 1, cells := 0, slots := 0, locals := 20 }) (va_Pc [.int (zi y)] (fun _ => True)) (vp_Si (fun r => r = zi (f_X0_yearLength y))) 0 0 (fun _ => False) := by
  refine Met.ofW (cc := cX0_yearLength) (maxL := 1) (ret := (some .int)) (by decide) rfl ?_
  intro p e s m args below meth c s₁ B hml hv
  obtain ⟨rfl, -⟩ := hv
  have hx := B.exec
  have hb := B.bytes
  have hr := B.returns
  have hts := atoms_spec (ws := wsX0_yearLength) B.pre
  have hown : s.vm.findClass RX0 = some m.cls := findClass_of_methodNamed B.named
  have hlocks := B.notSynchronized
  have hl := lv_entry ([.int (zi y)]) (n := 1) (Nat.le_of_ble_eq_true rfl)
  rw [lg_entry_eq]
  generalize (lg_sl ([.int (zi y)]) ++ List.replicate (1 - (lg_sl ([.int (zi y)])).length) Slot.unset).toArray = ls at hl ⊢
  have hl : lv_has ls 1 [(0, .int (zi y))] := hl
  refine lv_iload_n hx hb dX0_yearLength_0 rfl (lv_at hl 0 rfl) ?_
  have hh1 := c_X0_isLeap l y (by omega)
  refine vp_callSi (va_Run.run (va_runS (As := [.int (zi y)]) (rest := []) ⟨hx, hb, hml, hown, hts⟩ hh1 (va_cwS 1 hts gX0_yearLength_X0_isLeap rfl rfl rfl (by decide +kernel) ⟨Nat.le_of_ble_eq_true rfl, Nat.le_of_ble_eq_true rfl⟩) ⟨fun a U g mk q => q, fun U hU hW => ⟨rfl, trivial⟩⟩ rfl rfl hl.1 rfl (lv_room (Nat.le_of_ble_eq_true rfl)) dX0_yearLength_1 ⟨Nat.zero_le _, Nat.zero_le _⟩)) (fun r1 (hr1 : r1 = zi (f_X0_isLeap y)) => ?_)
  subst hr1
  have hf1 := b_X0_isLeap y (by omega)
  refine zw_if_eq (tgt := 13) hx hb dX0_yearLength_4 (by decide) ⟨by omega, by omega⟩ (fun h2 => ?_) (fun h2 => ?_)
  · skip
    refine zw_sipush hx hb dX0_yearLength_13 (by decide) ?_
    exact W.iret (v := zi 365) hx hb hr (fun t ht hW => ⟨zi 365, rfl, by rw [f_X0_yearLength, if_pos h2], ht⟩) (fun q h => by cases h) dX0_yearLength_16
  · skip
    refine zw_sipush hx hb dX0_yearLength_7 (by decide) ?_
    refine lv_goto (tgt := 16) hx hb dX0_yearLength_10 (by decide) ?_
    exact W.iret (v := zi 366) hx hb hr (fun t ht hW => ⟨zi 366, rfl, by rw [f_X0_yearLength, if_neg h2], ht⟩) (fun q h => by cases h) dX0_yearLength_16
theorem b_X0_yearLength (y : Int) (hp0 : 0 ≤ y ∧ y ≤ 2147483647) : (f_X0_yearLength y) = 365 ∨ (f_X0_yearLength y) = 366 := by
  unfold f_X0_yearLength
  (repeat' split) <;> omega

def f_X0_monthLength (y : Int) (m : Int) : Int :=
  if m = 2 then (if (f_X0_isLeap y) = 0 then 28
    else 29)
  else if m = 4 then 30
  else if m = 6 then 30
  else if m = 9 then 30
  else if m = 11 then 30
  else 31
set_option maxHeartbeats 4000000 in
set_option maxRecDepth 100000 in
theorem c_X0_monthLength (l : Launch) (y : Int) (m : Int) (hp0 : 0 ≤ y ∧ y ≤ 2147483647) (hp1 : -2147483648 ≤ m ∧ m ≤ 2147483647) : Met l yX0_monthLength wsX0_monthLength ({ frames := 1, cells := 0, slots := 0, locals := 20 }) (va_Pc [.int (zi y), .int (zi m)] (fun _ => True)) (vp_Si (fun r => r = zi (f_X0_monthLength y m))) 0 0 (fun _ => False) := by
  refine Met.ofW (cc := cX0_monthLength) (maxL := 2) (ret := (some .int)) (by decide) rfl ?_
  intro p e s m args below meth c s₁ B hml hv
  obtain ⟨rfl, -⟩ := hv
  have hx := B.exec
  have hb := B.bytes
  have hr := B.returns
  have hts := atoms_spec (ws := wsX0_monthLength) B.pre
  have hown : s.vm.findClass RX0 = some m.cls := findClass_of_methodNamed B.named
  have hlocks := B.notSynchronized
  have hl := lv_entry ([.int (zi y), .int (zi m)]) (n := 2) (Nat.le_of_ble_eq_true rfl)
  rw [lg_entry_eq]
  generalize (lg_sl ([.int (zi y), .int (zi m)]) ++ List.replicate (2 - (lg_sl ([.int (zi y), .int (zi m)])).length) Slot.unset).toArray = ls at hl ⊢
  have hl : lv_has ls 2 [(0, .int (zi y)), (1, .int (zi m))] := hl
  refine lv_iload_n hx hb dX0_monthLength_0 rfl (lv_at hl 1 rfl) ?_
  refine zw_iconst hx hb dX0_monthLength_1 ?_
  refine zw_icmp_ne (tgt := 20) hx hb dX0_monthLength_2 (by decide) ⟨by omega, by omega⟩ ⟨by omega, by omega⟩ (fun h1 => ?_) (fun h1 => ?_)
  · skip
    refine lv_iload_n hx hb dX0_monthLength_20 rfl (lv_at hl 1 rfl) ?_
    refine zw_iconst hx hb dX0_monthLength_21 ?_
    refine zw_icmp_eq (tgt := 43) hx hb dX0_monthLength_22 (by decide) ⟨by omega, by omega⟩ ⟨by omega, by omega⟩ (fun h2 => ?_) (fun h2 => ?_)
    · skip
      refine zw_bipush hx hb dX0_monthLength_43 (by decide) ?_
      refine lv_goto (tgt := 50) hx hb dX0_monthLength_45 (by decide) ?_
      exact W.iret (v := zi 30) hx hb hr (fun t ht hW => ⟨zi 30, rfl, by rw [f_X0_monthLength, if_neg h1, if_pos h2], ht⟩) (fun q h => by cases h) dX0_monthLength_50
    · skip
      refine lv_iload_n hx hb dX0_monthLength_25 rfl (lv_at hl 1 rfl) ?_
      refine zw_bipush hx hb dX0_monthLength_26 (by decide) ?_
      refine zw_icmp_eq (tgt := 43) hx hb dX0_monthLength_28 (by decide) ⟨by omega, by omega⟩ ⟨by omega, by omega⟩ (fun h3 => ?_) (fun h3 => ?_)
      · skip
        refine zw_bipush hx hb dX0_monthLength_43 (by decide) ?_
        refine lv_goto (tgt := 50) hx hb dX0_monthLength_45 (by decide) ?_
        exact W.iret (v := zi 30) hx hb hr (fun t ht hW => ⟨zi 30, rfl, by rw [f_X0_monthLength, if_neg h1, if_neg h2, if_pos h3], ht⟩) (fun q h => by cases h) dX0_monthLength_50
      · skip
        refine lv_iload_n hx hb dX0_monthLength_31 rfl (lv_at hl 1 rfl) ?_
        refine zw_bipush hx hb dX0_monthLength_32 (by decide) ?_
        refine zw_icmp_eq (tgt := 43) hx hb dX0_monthLength_34 (by decide) ⟨by omega, by omega⟩ ⟨by omega, by omega⟩ (fun h4 => ?_) (fun h4 => ?_)
        · skip
          refine zw_bipush hx hb dX0_monthLength_43 (by decide) ?_
          refine lv_goto (tgt := 50) hx hb dX0_monthLength_45 (by decide) ?_
          exact W.iret (v := zi 30) hx hb hr (fun t ht hW => ⟨zi 30, rfl, by rw [f_X0_monthLength, if_neg h1, if_neg h2, if_neg h3, if_pos h4], ht⟩) (fun q h => by cases h) dX0_monthLength_50
        · skip
          refine lv_iload_n hx hb dX0_monthLength_37 rfl (lv_at hl 1 rfl) ?_
          refine zw_bipush hx hb dX0_monthLength_38 (by decide) ?_
          refine zw_icmp_ne (tgt := 48) hx hb dX0_monthLength_40 (by decide) ⟨by omega, by omega⟩ ⟨by omega, by omega⟩ (fun h5 => ?_) (fun h5 => ?_)
          · skip
            refine zw_bipush hx hb dX0_monthLength_48 (by decide) ?_
            exact W.iret (v := zi 31) hx hb hr (fun t ht hW => ⟨zi 31, rfl, by rw [f_X0_monthLength, if_neg h1, if_neg h2, if_neg h3, if_neg h4, if_neg h5], ht⟩) (fun q h => by cases h) dX0_monthLength_50
          · skip
            refine zw_bipush hx hb dX0_monthLength_43 (by decide) ?_
            refine lv_goto (tgt := 50) hx hb dX0_monthLength_45 (by decide) ?_
            exact W.iret (v := zi 30) hx hb hr (fun t ht hW => ⟨zi 30, rfl, by rw [f_X0_monthLength, if_neg h1, if_neg h2, if_neg h3, if_neg h4, if_pos h5], ht⟩) (fun q h => by cases h) dX0_monthLength_50
  · skip
    refine lv_iload_n hx hb dX0_monthLength_5 rfl (lv_at hl 0 rfl) ?_
    have hh6 := c_X0_isLeap l y (by omega)
    refine vp_callSi (va_Run.run (va_runS (As := [.int (zi y)]) (rest := []) ⟨hx, hb, hml, hown, hts⟩ hh6 (va_cwS 1 hts gX0_monthLength_X0_isLeap rfl rfl rfl (by decide +kernel) ⟨Nat.le_of_ble_eq_true rfl, Nat.le_of_ble_eq_true rfl⟩) ⟨fun a U g mk q => q, fun U hU hW => ⟨rfl, trivial⟩⟩ rfl rfl hl.1 rfl (lv_room (Nat.le_of_ble_eq_true rfl)) dX0_monthLength_6 ⟨Nat.zero_le _, Nat.zero_le _⟩)) (fun r6 (hr6 : r6 = zi (f_X0_isLeap y)) => ?_)
    subst hr6
    have hf6 := b_X0_isLeap y (by omega)
    refine zw_if_eq (tgt := 17) hx hb dX0_monthLength_9 (by decide) ⟨by omega, by omega⟩ (fun h7 => ?_) (fun h7 => ?_)
    · skip
      refine zw_bipush hx hb dX0_monthLength_17 (by decide) ?_
      exact W.iret (v := zi 28) hx hb hr (fun t ht hW => ⟨zi 28, rfl, by rw [f_X0_monthLength, if_pos h1, if_pos h7], ht⟩) (fun q h => by cases h) dX0_monthLength_19
    · skip
      refine zw_bipush hx hb dX0_monthLength_12 (by decide) ?_
      refine lv_goto (tgt := 19) hx hb dX0_monthLength_14 (by decide) ?_
      exact W.iret (v := zi 29) hx hb hr (fun t ht hW => ⟨zi 29, rfl, by rw [f_X0_monthLength, if_pos h1, if_neg h7], ht⟩) (fun q h => by cases h) dX0_monthLength_19
theorem b_X0_monthLength (y : Int) (m : Int) (hp0 : 0 ≤ y ∧ y ≤ 2147483647) (hp1 : -2147483648 ≤ m ∧ m ≤ 2147483647) : 28 ≤ (f_X0_monthLength y m) ∧ (f_X0_monthLength y m) ≤ 31 := by
  unfold f_X0_monthLength
  (repeat' split) <;> omega

def f_X0_yearStart (y : Int) : Int :=
  ((((365 * (y - 1)) + ((y - 1) / 4)) - ((y - 1) / 100)) + ((y - 1) / 400))
set_option maxHeartbeats 4000000 in
set_option maxRecDepth 100000 in
theorem c_X0_yearStart (l : Launch) (y : Int) (hp0 : 1 ≤ y ∧ y ≤ 10001) : Met l yX0_yearStart wsX0_yearStart ({ frames := 0, cells := 0, slots := 0, locals := 0 }) (va_Pc [.int (zi y)] (fun _ => True)) (vp_Si (fun r => r = zi (f_X0_yearStart y))) 0 0 (fun _ => False) := by
  refine Met.ofW (cc := cX0_yearStart) (maxL := 2) (ret := (some .int)) (by decide) rfl ?_
  intro p e s m args below meth c s₁ B hml hv
  obtain ⟨rfl, -⟩ := hv
  have hx := B.exec
  have hb := B.bytes
  have hr := B.returns
  have hts := atoms_spec (ws := wsX0_yearStart) B.pre
  have hown : s.vm.findClass RX0 = some m.cls := findClass_of_methodNamed B.named
  have hlocks := B.notSynchronized
  have hl := lv_entry ([.int (zi y)]) (n := 2) (Nat.le_of_ble_eq_true rfl)
  rw [lg_entry_eq]
  generalize (lg_sl ([.int (zi y)]) ++ List.replicate (2 - (lg_sl ([.int (zi y)])).length) Slot.unset).toArray = ls at hl ⊢
  have hl : lv_has ls 2 [(0, .int (zi y))] := hl
  refine lv_iload_n hx hb dX0_yearStart_0 rfl (lv_at hl 0 rfl) ?_
  refine zw_iconst hx hb dX0_yearStart_1 ?_
  refine zw_isub hx hb dX0_yearStart_2 ?_
  refine zw_top (fun x1 ex1 => ?_)
  refine lv_istore_n (lv' := [(1, .int (zi x1)), (0, .int (zi y))]) hx hb dX0_yearStart_3 rfl hl (by decide) rfl (fun ls hl => ?_)
  refine zw_sipush hx hb dX0_yearStart_4 (by decide) ?_
  refine lv_iload_n hx hb dX0_yearStart_7 rfl (lv_at hl 0 rfl) ?_
  refine zw_imul hx hb dX0_yearStart_8 ?_
  refine lv_iload_n hx hb dX0_yearStart_9 rfl (lv_at hl 0 rfl) ?_
  refine zw_iconst hx hb dX0_yearStart_10 ?_
  refine zw_idiv hx hb dX0_yearStart_11 (by omega) ⟨by omega, by omega⟩ ⟨by omega, by omega⟩ (by omega) ?_
  refine zw_iadd hx hb dX0_yearStart_12 ?_
  refine lv_iload_n hx hb dX0_yearStart_13 rfl (lv_at hl 0 rfl) ?_
  refine zw_bipush hx hb dX0_yearStart_14 (by decide) ?_
  refine zw_idiv hx hb dX0_yearStart_16 (by omega) ⟨by omega, by omega⟩ ⟨by omega, by omega⟩ (by omega) ?_
  refine zw_isub hx hb dX0_yearStart_17 ?_
  refine lv_iload_n hx hb dX0_yearStart_18 rfl (lv_at hl 0 rfl) ?_
  refine zw_sipush hx hb dX0_yearStart_19 (by decide) ?_
  refine zw_idiv hx hb dX0_yearStart_22 (by omega) ⟨by omega, by omega⟩ ⟨by omega, by omega⟩ (by omega) ?_
  refine zw_iadd hx hb dX0_yearStart_23 ?_
  subst ex1
  exact W.iret (v := zi ((((365 * (y - 1)) + ((y - 1) / 4)) - ((y - 1) / 100)) + ((y - 1) / 400))) hx hb hr (fun t ht hW => ⟨zi ((((365 * (y - 1)) + ((y - 1) / 4)) - ((y - 1) / 100)) + ((y - 1) / 400)), rfl, by rw [f_X0_yearStart], ht⟩) (fun q h => by cases h) dX0_yearStart_24
theorem b_X0_yearStart (y : Int) (hp0 : 1 ≤ y ∧ y ≤ 10001) : (f_X0_yearStart y) = 365 * (y - 1) + (y - 1) / 4 - (y - 1) / 100 + (y - 1) / 400 := by
  rfl
