set_option maxHeartbeats 4000000 in
set_option maxRecDepth 100000 in
theorem c_X5_in (l : Launch) (vv : Int) (lo : Int) (hi : Int) (hp0 : -2147483648 ≤ vv ∧ vv ≤ 2147483647) (hp1 : -2147483648 ≤ lo ∧ lo ≤ 2147483647) (hp2 : -2147483648 ≤ hi ∧ hi ≤ 2147483647) : Met l yX5_in wsX5_in ({ frames := 0, cells := 0, slots := 0, locals := 0 }) (va_Pc [.int (zi vv), .int (zi lo), .int (zi hi)] (fun _ => True)) (vp_Si (fun r => r = zi (f_X5_in vv lo hi))) 0 0 (fun _ => False) := by
  refine Met.ofW (cc := cX5_in) (maxL := 3) (ret := (some .boolean)) (by decide) rfl ?_
  intro p e s m args below meth c s₁ B hml hv
  obtain ⟨rfl, -⟩ := hv
  have hx := B.exec
  have hb := B.bytes
  have hr := B.returns
  have hts := atoms_spec (ws := wsX5_in) B.pre
  have hown : s.vm.findClass RX5 = some m.cls := findClass_of_methodNamed B.named
  have hlocks := B.notSynchronized
  have hl := lv_entry ([.int (zi vv), .int (zi lo), .int (zi hi)]) (n := 3) (Nat.le_of_ble_eq_true rfl)
  rw [lg_entry_eq]
  generalize (lg_sl ([.int (zi vv), .int (zi lo), .int (zi hi)]) ++ List.replicate (3 - (lg_sl ([.int (zi vv), .int (zi lo), .int (zi hi)])).length) Slot.unset).toArray = ls at hl ⊢
  have hl : lv_has ls 3 [(0, .int (zi vv)), (1, .int (zi lo)), (2, .int (zi hi))] := hl
  refine lv_iload_n hx hb dX5_in_0 rfl (lv_at hl 0 rfl) ?_
  refine lv_iload_n hx hb dX5_in_1 rfl (lv_at hl 1 rfl) ?_
  refine zw_icmp_lt (tgt := 14) hx hb dX5_in_2 (by decide) ⟨by omega, by omega⟩ ⟨by omega, by omega⟩ (fun h1 => ?_) (fun h1 => ?_)
  · skip
    refine zw_iconst hx hb dX5_in_14 ?_
    exact W.zret (v := zi 0) hx hb hr (zi_nb (by omega)) (fun t ht hW => ⟨zi 0, rfl, by rw [f_X5_in, if_pos h1], ht⟩) (fun q h => by cases h) dX5_in_15
  · skip
    refine lv_iload_n hx hb dX5_in_5 rfl (lv_at hl 0 rfl) ?_
    refine lv_iload_n hx hb dX5_in_6 rfl (lv_at hl 2 rfl) ?_
    refine zw_icmp_gt (tgt := 14) hx hb dX5_in_7 (by decide) ⟨by omega, by omega⟩ ⟨by omega, by omega⟩ (fun h2 => ?_) (fun h2 => ?_)
    · skip
      refine zw_iconst hx hb dX5_in_14 ?_
      exact W.zret (v := zi 0) hx hb hr (zi_nb (by omega)) (fun t ht hW => ⟨zi 0, rfl, by rw [f_X5_in, if_neg (Int.not_lt.mpr h1), if_neg (Int.not_le.mpr h2)], ht⟩) (fun q h => by cases h) dX5_in_15
    · skip
      refine zw_iconst hx hb dX5_in_10 ?_
      refine lv_goto (tgt := 15) hx hb dX5_in_11 (by decide) ?_
      exact W.zret (v := zi 1) hx hb hr (zi_nb (by omega)) (fun t ht hW => ⟨zi 1, rfl, by rw [f_X5_in, if_neg (Int.not_lt.mpr h1), if_pos h2], ht⟩) (fun q h => by cases h) dX5_in_15

set_option maxHeartbeats 4000000 in
set_option maxRecDepth 100000 in
theorem c_X5_isSlot (l : Launch) (sl : Int) (hp0 : -2147483648 ≤ sl ∧ sl ≤ 2147483647) : Met l yX5_isSlot wsX5_isSlot ({ frames := 1, cells := 0, slots := 0, locals := 22 }) (va_Pc [.int (zi sl)] (fun _ => True)) (vp_Si (fun r => r = zi (f_X5_isSlot sl))) 0 0 (fun _ => False) := by
  refine Met.ofW (cc := cX5_isSlot) (maxL := 1) (ret := (some .boolean)) (by decide) rfl ?_
  intro p e s m args below meth c s₁ B hml hv
  obtain ⟨rfl, -⟩ := hv
  have hx := B.exec
  have hb := B.bytes
  have hr := B.returns
  have hts := atoms_spec (ws := wsX5_isSlot) B.pre
  have hown : s.vm.findClass RX5 = some m.cls := findClass_of_methodNamed B.named
  have hlocks := B.notSynchronized
  have hl := lv_entry ([.int (zi sl)]) (n := 1) (Nat.le_of_ble_eq_true rfl)
  rw [lg_entry_eq]
  generalize (lg_sl ([.int (zi sl)]) ++ List.replicate (1 - (lg_sl ([.int (zi sl)])).length) Slot.unset).toArray = ls at hl ⊢
  have hl : lv_has ls 1 [(0, .int (zi sl))] := hl
  refine lv_iload_n hx hb dX5_isSlot_0 rfl (lv_at hl 0 rfl) ?_
  refine zw_iconst hx hb dX5_isSlot_1 ?_
  refine zw_bipush hx hb dX5_isSlot_2 (by decide) ?_
  have hh1 := c_X5_in l sl 0 9 (by omega) (by omega) (by omega)
  refine vp_callSi (va_Run.run (va_runS (As := [.int (zi sl), .int (zi 0), .int (zi 9)]) (rest := []) ⟨hx, hb, hml, hown, hts⟩ hh1 (va_cwS 3 hts gX5_isSlot_X5_in rfl rfl rfl (by decide +kernel) ⟨Nat.le_of_ble_eq_true rfl, Nat.le_of_ble_eq_true rfl⟩) ⟨fun a U g mk q => q, fun U hU hW => ⟨rfl, trivial⟩⟩ rfl rfl hl.1 rfl (lv_room (Nat.le_of_ble_eq_true rfl)) dX5_isSlot_4 ⟨Nat.zero_le _, Nat.zero_le _⟩)) (fun r1 (hr1 : r1 = zi (f_X5_in sl 0 9)) => ?_)
  subst hr1
  have hf1 := b_X5_in sl 0 9 (by omega) (by omega) (by omega)
  exact W.zret (v := zi (f_X5_in sl 0 9)) hx hb hr (zi_nb (by omega)) (fun t ht hW => ⟨zi (f_X5_in sl 0 9), rfl, by rw [f_X5_isSlot], ht⟩) (fun q h => by cases h) dX5_isSlot_7

set_option maxHeartbeats 4000000 in
set_option maxRecDepth 100000 in
theorem c_X5_isLeap (l : Launch) (ya : Int) (hp0 : 0 ≤ ya ∧ ya ≤ 2147483647) : Met l yX5_isLeap wsX5_isLeap ({ frames := 0, cells := 0, slots := 0, locals := 0 }) (va_Pc [.int (zi ya)] (fun _ => True)) (vp_Si (fun r => r = zi (f_X5_isLeap ya))) 0 0 (fun _ => False) := by
  refine Met.ofW (cc := cX5_isLeap) (maxL := 1) (ret := (some .boolean)) (by decide) rfl ?_
  intro p e s m args below meth c s₁ B hml hv
  obtain ⟨rfl, -⟩ := hv
  have hx := B.exec
  have hb := B.bytes
  have hr := B.returns
  have hts := atoms_spec (ws := wsX5_isLeap) B.pre
  have hown : s.vm.findClass RX5 = some m.cls := findClass_of_methodNamed B.named
  have hlocks := B.notSynchronized
  have hl := lv_entry ([.int (zi ya)]) (n := 1) (Nat.le_of_ble_eq_true rfl)
  rw [lg_entry_eq]
  generalize (lg_sl ([.int (zi ya)]) ++ List.replicate (1 - (lg_sl ([.int (zi ya)])).length) Slot.unset).toArray = ls at hl ⊢
  have hl : lv_has ls 1 [(0, .int (zi ya))] := hl
  refine lv_iload_n hx hb dX5_isLeap_0 rfl (lv_at hl 0 rfl) ?_
  refine zw_iconst hx hb dX5_isLeap_1 ?_
  refine zw_irem hx hb dX5_isLeap_2 (by omega) ⟨by omega, by omega⟩ ⟨by omega, by omega⟩ (by omega) ?_
  refine zw_if_ne (tgt := 25) hx hb dX5_isLeap_3 (by decide) ⟨by omega, by omega⟩ (fun h1 => ?_) (fun h1 => ?_)
  · skip
    refine zw_iconst hx hb dX5_isLeap_25 ?_
    exact W.zret (v := zi 0) hx hb hr (zi_nb (by omega)) (fun t ht hW => ⟨zi 0, rfl, by rw [f_X5_isLeap, if_neg h1], ht⟩) (fun q h => by cases h) dX5_isLeap_26
  · skip
    refine lv_iload_n hx hb dX5_isLeap_6 rfl (lv_at hl 0 rfl) ?_
    refine zw_bipush hx hb dX5_isLeap_7 (by decide) ?_
    refine zw_irem hx hb dX5_isLeap_9 (by omega) ⟨by omega, by omega⟩ ⟨by omega, by omega⟩ (by omega) ?_
    refine zw_if_ne (tgt := 21) hx hb dX5_isLeap_10 (by decide) ⟨by omega, by omega⟩ (fun h2 => ?_) (fun h2 => ?_)
    · skip
      refine zw_iconst hx hb dX5_isLeap_21 ?_
      refine lv_goto (tgt := 26) hx hb dX5_isLeap_22 (by decide) ?_
      exact W.zret (v := zi 1) hx hb hr (zi_nb (by omega)) (fun t ht hW => ⟨zi 1, rfl, by rw [f_X5_isLeap, if_pos h1, if_neg h2], ht⟩) (fun q h => by cases h) dX5_isLeap_26
    · skip
      refine lv_iload_n hx hb dX5_isLeap_13 rfl (lv_at hl 0 rfl) ?_
      refine zw_sipush hx hb dX5_isLeap_14 (by decide) ?_
      refine zw_irem hx hb dX5_isLeap_17 (by omega) ⟨by omega, by omega⟩ ⟨by omega, by omega⟩ (by omega) ?_
      refine zw_if_ne (tgt := 25) hx hb dX5_isLeap_18 (by decide) ⟨by omega, by omega⟩ (fun h3 => ?_) (fun h3 => ?_)
      · skip
        refine zw_iconst hx hb dX5_isLeap_25 ?_
        exact W.zret (v := zi 0) hx hb hr (zi_nb (by omega)) (fun t ht hW => ⟨zi 0, rfl, by rw [f_X5_isLeap, if_pos h1, if_pos h2, if_neg h3], ht⟩) (fun q h => by cases h) dX5_isLeap_26
      · skip
        refine zw_iconst hx hb dX5_isLeap_21 ?_
        refine lv_goto (tgt := 26) hx hb dX5_isLeap_22 (by decide) ?_
        exact W.zret (v := zi 1) hx hb hr (zi_nb (by omega)) (fun t ht hW => ⟨zi 1, rfl, by rw [f_X5_isLeap, if_pos h1, if_pos h2, if_pos h3], ht⟩) (fun q h => by cases h) dX5_isLeap_26

set_option maxHeartbeats 4000000 in
set_option maxRecDepth 100000 in
theorem c_X5_lengthOf (l : Launch) (ya : Int) (mo : Int) (hp0 : 0 ≤ ya ∧ ya ≤ 2147483647) (hp1 : -2147483648 ≤ mo ∧ mo ≤ 2147483647) : Met l yX5_lengthOf wsX5_lengthOf ({ frames := 1, cells := 0, slots := 0, locals := 20 }) (va_Pc [.int (zi ya), .int (zi mo)] (fun _ => True)) (vp_Si (fun r => r = zi (f_X5_lengthOf ya mo))) 0 0 (fun _ => False) := by
  refine Met.ofW (cc := cX5_lengthOf) (maxL := 2) (ret := (some .int)) (by decide) rfl ?_
  intro p e s m args below meth c s₁ B hml hv
  obtain ⟨rfl, -⟩ := hv
  have hx := B.exec
  have hb := B.bytes
  have hr := B.returns
  have hts := atoms_spec (ws := wsX5_lengthOf) B.pre
  have hown : s.vm.findClass RX5 = some m.cls := findClass_of_methodNamed B.named
  have hlocks := B.notSynchronized
  have hl := lv_entry ([.int (zi ya), .int (zi mo)]) (n := 2) (Nat.le_of_ble_eq_true rfl)
  rw [lg_entry_eq]
  generalize (lg_sl ([.int (zi ya), .int (zi mo)]) ++ List.replicate (2 - (lg_sl ([.int (zi ya), .int (zi mo)])).length) Slot.unset).toArray = ls at hl ⊢
  have hl : lv_has ls 2 [(0, .int (zi ya)), (1, .int (zi mo))] := hl
  refine lv_iload_n hx hb dX5_lengthOf_0 rfl (lv_at hl 1 rfl) ?_
  refine zw_iconst hx hb dX5_lengthOf_1 ?_
  refine zw_icmp_ne (tgt := 22) hx hb dX5_lengthOf_2 (by decide) ⟨by omega, by omega⟩ ⟨by omega, by omega⟩ (fun h1 => ?_) (fun h1 => ?_)
  · skip
    refine lv_iload_n hx hb dX5_lengthOf_22 rfl (lv_at hl 1 rfl) ?_
    refine zw_iconst hx hb dX5_lengthOf_23 ?_
    refine zw_icmp_eq (tgt := 45) hx hb dX5_lengthOf_24 (by decide) ⟨by omega, by omega⟩ ⟨by omega, by omega⟩ (fun h2 => ?_) (fun h2 => ?_)
    · skip
      refine zw_bipush hx hb dX5_lengthOf_45 (by decide) ?_
      refine lv_goto (tgt := 52) hx hb dX5_lengthOf_47 (by decide) ?_
      exact W.iret (v := zi 30) hx hb hr (fun t ht hW => ⟨zi 30, rfl, by rw [f_X5_lengthOf, if_neg h1, if_pos h2], ht⟩) (fun q h => by cases h) dX5_lengthOf_52
    · skip
      refine lv_iload_n hx hb dX5_lengthOf_27 rfl (lv_at hl 1 rfl) ?_
      refine zw_bipush hx hb dX5_lengthOf_28 (by decide) ?_
      refine zw_icmp_eq (tgt := 45) hx hb dX5_lengthOf_30 (by decide) ⟨by omega, by omega⟩ ⟨by omega, by omega⟩ (fun h3 => ?_) (fun h3 => ?_)
      · skip
        refine zw_bipush hx hb dX5_lengthOf_45 (by decide) ?_
        refine lv_goto (tgt := 52) hx hb dX5_lengthOf_47 (by decide) ?_
        exact W.iret (v := zi 30) hx hb hr (fun t ht hW => ⟨zi 30, rfl, by rw [f_X5_lengthOf, if_neg h1, if_neg h2, if_pos h3], ht⟩) (fun q h => by cases h) dX5_lengthOf_52
      · skip
        refine lv_iload_n hx hb dX5_lengthOf_33 rfl (lv_at hl 1 rfl) ?_
        refine zw_bipush hx hb dX5_lengthOf_34 (by decide) ?_
        refine zw_icmp_eq (tgt := 45) hx hb dX5_lengthOf_36 (by decide) ⟨by omega, by omega⟩ ⟨by omega, by omega⟩ (fun h4 => ?_) (fun h4 => ?_)
        · skip
          refine zw_bipush hx hb dX5_lengthOf_45 (by decide) ?_
          refine lv_goto (tgt := 52) hx hb dX5_lengthOf_47 (by decide) ?_
          exact W.iret (v := zi 30) hx hb hr (fun t ht hW => ⟨zi 30, rfl, by rw [f_X5_lengthOf, if_neg h1, if_neg h2, if_neg h3, if_pos h4], ht⟩) (fun q h => by cases h) dX5_lengthOf_52
        · skip
          refine lv_iload_n hx hb dX5_lengthOf_39 rfl (lv_at hl 1 rfl) ?_
          refine zw_bipush hx hb dX5_lengthOf_40 (by decide) ?_
          refine zw_icmp_ne (tgt := 50) hx hb dX5_lengthOf_42 (by decide) ⟨by omega, by omega⟩ ⟨by omega, by omega⟩ (fun h5 => ?_) (fun h5 => ?_)
          · skip
            refine zw_bipush hx hb dX5_lengthOf_50 (by decide) ?_
            exact W.iret (v := zi 31) hx hb hr (fun t ht hW => ⟨zi 31, rfl, by rw [f_X5_lengthOf, if_neg h1, if_neg h2, if_neg h3, if_neg h4, if_neg h5], ht⟩) (fun q h => by cases h) dX5_lengthOf_52
          · skip
            refine zw_bipush hx hb dX5_lengthOf_45 (by decide) ?_
            refine lv_goto (tgt := 52) hx hb dX5_lengthOf_47 (by decide) ?_
            exact W.iret (v := zi 30) hx hb hr (fun t ht hW => ⟨zi 30, rfl, by rw [f_X5_lengthOf, if_neg h1, if_neg h2, if_neg h3, if_neg h4, if_pos h5], ht⟩) (fun q h => by cases h) dX5_lengthOf_52
  · skip
    refine lv_iload_n hx hb dX5_lengthOf_5 rfl (lv_at hl 0 rfl) ?_
    have hh6 := c_X5_isLeap l ya (by omega)
    refine vp_callSi (va_Run.run (va_runS (As := [.int (zi ya)]) (rest := []) ⟨hx, hb, hml, hown, hts⟩ hh6 (va_cwS 1 hts gX5_lengthOf_X5_isLeap rfl rfl rfl (by decide +kernel) ⟨Nat.le_of_ble_eq_true rfl, Nat.le_of_ble_eq_true rfl⟩) ⟨fun a U g mk q => q, fun U hU hW => ⟨rfl, trivial⟩⟩ rfl rfl hl.1 rfl (lv_room (Nat.le_of_ble_eq_true rfl)) dX5_lengthOf_6 ⟨Nat.zero_le _, Nat.zero_le _⟩)) (fun r6 (hr6 : r6 = zi (f_X5_isLeap ya)) => ?_)
    subst hr6
    have hf6 := b_X5_isLeap ya (by omega)
    refine zw_if_eq (tgt := 17) hx hb dX5_lengthOf_9 (by decide) ⟨by omega, by omega⟩ (fun h7 => ?_) (fun h7 => ?_)
    · skip
      refine zw_bipush hx hb dX5_lengthOf_17 (by decide) ?_
      refine lv_goto (tgt := 52) hx hb dX5_lengthOf_19 (by decide) ?_
      exact W.iret (v := zi 28) hx hb hr (fun t ht hW => ⟨zi 28, rfl, by rw [f_X5_lengthOf, if_pos h1, if_pos h7], ht⟩) (fun q h => by cases h) dX5_lengthOf_52
    · skip
      refine zw_bipush hx hb dX5_lengthOf_12 (by decide) ?_
      refine lv_goto (tgt := 52) hx hb dX5_lengthOf_14 (by decide) ?_
      exact W.iret (v := zi 29) hx hb hr (fun t ht hW => ⟨zi 29, rfl, by rw [f_X5_lengthOf, if_pos h1, if_neg h7], ht⟩) (fun q h => by cases h) dX5_lengthOf_52

set_option maxHeartbeats 4000000 in
set_option maxRecDepth 100000 in
theorem c_X5_yearLength (l : Launch) (ya : Int) (hp0 : 0 ≤ ya ∧ ya ≤ 2147483647) : Met l yX5_yearLength wsX5_yearLength ({ frames := 1, cells := 0, slots := 0, locals := 20 }) (va_Pc [.int (zi ya)] (fun _ => True)) (vp_Si (fun r => r = zi (f_X5_yearLength ya))) 0 0 (fun _ => False) := by
  refine Met.ofW (cc := cX5_yearLength) (maxL := 1) (ret := (some .int)) (by decide) rfl ?_
  intro p e s m args below meth c s₁ B hml hv
  obtain ⟨rfl, -⟩ := hv
  have hx := B.exec
  have hb := B.bytes
  have hr := B.returns
  have hts := atoms_spec (ws := wsX5_yearLength) B.pre
  have hown : s.vm.findClass RX5 = some m.cls := findClass_of_methodNamed B.named
  have hlocks := B.notSynchronized
  have hl := lv_entry ([.int (zi ya)]) (n := 1) (Nat.le_of_ble_eq_true rfl)
  rw [lg_entry_eq]
  generalize (lg_sl ([.int (zi ya)]) ++ List.replicate (1 - (lg_sl ([.int (zi ya)])).length) Slot.unset).toArray = ls at hl ⊢
  have hl : lv_has ls 1 [(0, .int (zi ya))] := hl
  refine lv_iload_n hx hb dX5_yearLength_0 rfl (lv_at hl 0 rfl) ?_
  have hh1 := c_X5_isLeap l ya (by omega)
  refine vp_callSi (va_Run.run (va_runS (As := [.int (zi ya)]) (rest := []) ⟨hx, hb, hml, hown, hts⟩ hh1 (va_cwS 1 hts gX5_yearLength_X5_isLeap rfl rfl rfl (by decide +kernel) ⟨Nat.le_of_ble_eq_true rfl, Nat.le_of_ble_eq_true rfl⟩) ⟨fun a U g mk q => q, fun U hU hW => ⟨rfl, trivial⟩⟩ rfl rfl hl.1 rfl (lv_room (Nat.le_of_ble_eq_true rfl)) dX5_yearLength_1 ⟨Nat.zero_le _, Nat.zero_le _⟩)) (fun r1 (hr1 : r1 = zi (f_X5_isLeap ya)) => ?_)
  subst hr1
  have hf1 := b_X5_isLeap ya (by omega)
  refine zw_if_eq (tgt := 13) hx hb dX5_yearLength_4 (by decide) ⟨by omega, by omega⟩ (fun h2 => ?_) (fun h2 => ?_)
  · skip
    refine zw_sipush hx hb dX5_yearLength_13 (by decide) ?_
    exact W.iret (v := zi 365) hx hb hr (fun t ht hW => ⟨zi 365, rfl, by rw [f_X5_yearLength, if_pos h2], ht⟩) (fun q h => by cases h) dX5_yearLength_16
  · skip
    refine zw_sipush hx hb dX5_yearLength_7 (by decide) ?_
    refine lv_goto (tgt := 16) hx hb dX5_yearLength_10 (by decide) ?_
    exact W.iret (v := zi 366) hx hb hr (fun t ht hW => ⟨zi 366, rfl, by rw [f_X5_yearLength, if_neg h2], ht⟩) (fun q h => by cases h) dX5_yearLength_16

set_option maxHeartbeats 4000000 in
set_option maxRecDepth 100000 in
theorem c_X5_beginOf (l : Launch) (ya : Int) (hp0 : 1 ≤ ya ∧ ya ≤ 10001) : Met l yX5_beginOf wsX5_beginOf ({ frames := 0, cells := 0, slots := 0, locals := 0 }) (va_Pc [.int (zi ya)] (fun _ => True)) (vp_Si (fun r => r = zi (f_X5_beginOf ya))) 0 0 (fun _ => False) := by
  refine Met.ofW (cc := cX5_beginOf) (maxL := 2) (ret := (some .int)) (by decide) rfl ?_
  intro p e s m args below meth c s₁ B hml hv
  obtain ⟨rfl, -⟩ := hv
  have hx := B.exec
  have hb := B.bytes
  have hr := B.returns
  have hts := atoms_spec (ws := wsX5_beginOf) B.pre
  have hown : s.vm.findClass RX5 = some m.cls := findClass_of_methodNamed B.named
  have hlocks := B.notSynchronized
  have hl := lv_entry ([.int (zi ya)]) (n := 2) (Nat.le_of_ble_eq_true rfl)
  rw [lg_entry_eq]
  generalize (lg_sl ([.int (zi ya)]) ++ List.replicate (2 - (lg_sl ([.int (zi ya)])).length) Slot.unset).toArray = ls at hl ⊢
  have hl : lv_has ls 2 [(0, .int (zi ya))] := hl
  refine lv_iload_n hx hb dX5_beginOf_0 rfl (lv_at hl 0 rfl) ?_
  refine zw_iconst hx hb dX5_beginOf_1 ?_
  refine zw_isub hx hb dX5_beginOf_2 ?_
  refine zw_top (fun x1 ex1 => ?_)
  refine lv_istore_n (lv' := [(1, .int (zi x1)), (0, .int (zi ya))]) hx hb dX5_beginOf_3 rfl hl (by decide) rfl (fun ls hl => ?_)
  refine zw_sipush hx hb dX5_beginOf_4 (by decide) ?_
  refine lv_iload_n hx hb dX5_beginOf_7 rfl (lv_at hl 0 rfl) ?_
  refine zw_imul hx hb dX5_beginOf_8 ?_
  refine lv_iload_n hx hb dX5_beginOf_9 rfl (lv_at hl 0 rfl) ?_
  refine zw_iconst hx hb dX5_beginOf_10 ?_
  refine zw_idiv hx hb dX5_beginOf_11 (by omega) ⟨by omega, by omega⟩ ⟨by omega, by omega⟩ (by omega) ?_
  refine zw_iadd hx hb dX5_beginOf_12 ?_
  refine lv_iload_n hx hb dX5_beginOf_13 rfl (lv_at hl 0 rfl) ?_
  refine zw_bipush hx hb dX5_beginOf_14 (by decide) ?_
  refine zw_idiv hx hb dX5_beginOf_16 (by omega) ⟨by omega, by omega⟩ ⟨by omega, by omega⟩ (by omega) ?_
  refine zw_isub hx hb dX5_beginOf_17 ?_
  refine lv_iload_n hx hb dX5_beginOf_18 rfl (lv_at hl 0 rfl) ?_
  refine zw_sipush hx hb dX5_beginOf_19 (by decide) ?_
  refine zw_idiv hx hb dX5_beginOf_22 (by omega) ⟨by omega, by omega⟩ ⟨by omega, by omega⟩ (by omega) ?_
  refine zw_iadd hx hb dX5_beginOf_23 ?_
  subst ex1
  exact W.iret (v := zi ((((365 * (ya - 1)) + ((ya - 1) / 4)) - ((ya - 1) / 100)) + ((ya - 1) / 400))) hx hb hr (fun t ht hW => ⟨zi ((((365 * (ya - 1)) + ((ya - 1) / 4)) - ((ya - 1) / 100)) + ((ya - 1) / 400)), rfl, by rw [f_X5_beginOf], ht⟩) (fun q h => by cases h) dX5_beginOf_24

set_option maxHeartbeats 4000000 in
set_option maxRecDepth 100000 in
theorem c_X5_numberOf (l : Launch) (ya : Int) (mo : Int) (da : Int) (hp0 : 1 ≤ ya ∧ ya ≤ 10000) (hp1 : 0 ≤ mo ∧ mo ≤ 12) (hp2 : 1 ≤ da ∧ da ≤ 31) : Met l yX5_numberOf wsX5_numberOf ({ frames := 2, cells := 0, slots := 0, locals := 41 }) (va_Pc [.int (zi ya), .int (zi mo), .int (zi da)] (fun _ => True)) (vp_Si (fun r => r = zi (f_X5_numberOf ya mo da))) 0 0 (fun _ => False) := by
  refine Met.ofW (cc := cX5_numberOf) (maxL := 5) (ret := (some .int)) (by decide) rfl ?_
  intro p e s m args below meth c s₁ B hml hv
  obtain ⟨rfl, -⟩ := hv
  have hx := B.exec
  have hb := B.bytes
  have hr := B.returns
  have hts := atoms_spec (ws := wsX5_numberOf) B.pre
  have hown : s.vm.findClass RX5 = some m.cls := findClass_of_methodNamed B.named
  have hlocks := B.notSynchronized
  have loop : ∀ (fu : Nat) (nn : Int) (kk : Int), (1 ≤ kk ∧ kk ≤ 13) → (0 ≤ nn ∧ nn ≤ 4000000 - 40 * (13 - kk)) → (13 - kk < fu) → ∀ ls : Array Slot, lv_has ls 5 [(3, .int (zi nn)), (4, .int (zi kk)), (0, .int (zi ya)), (1, .int (zi mo)), (2, .int (zi da))] → W p l e (headSpec wsX5_numberOf ({ frames := 2, cells := 0, slots := 0, locals := 41 })).room s m ([.int (zi ya), .int (zi mo), .int (zi da)] : List Value).toArray below meth c s.heap [] 0 0 (MQ below (vp_Si (fun r => r = zi (lp_X5_numberOf ya mo da fu nn kk))) ([.int (zi ya), .int (zi mo), .int (zi da)] : List Value).toArray s 0 0 (fun _ => False)) (F0 m 12 ls []) := by
    intro fu
    induction fu with
    | zero =>
      intro nn kk hi0 hi1 hfu ls hl
      exact absurd hfu (by omega)
    | succ fu ih =>
      intro nn kk hi0 hi1 hfu ls hl
      refine lv_iload hx hb dX5_numberOf_12 (lv_at hl 1 rfl) ?_
      refine lv_iload_n hx hb dX5_numberOf_14 rfl (lv_at hl 3 rfl) ?_
      refine zw_icmp_ge (tgt := 33) hx hb dX5_numberOf_15 (by decide) ⟨by omega, by omega⟩ ⟨by omega, by omega⟩ (fun h1 => ?_) (fun h1 => ?_)
      · skip
        refine lv_iload_n hx hb dX5_numberOf_33 rfl (lv_at hl 0 rfl) ?_
        exact W.iret (v := zi nn) hx hb hr (fun t ht hW => ⟨zi nn, rfl, by rw [lp_X5_numberOf, if_neg (Int.not_lt.mpr h1)], ht⟩) (fun q h => by cases h) dX5_numberOf_34
      · skip
        refine lv_iload_n hx hb dX5_numberOf_18 rfl (lv_at hl 0 rfl) ?_
        refine lv_iload_n hx hb dX5_numberOf_19 rfl (lv_at hl 2 rfl) ?_
        refine lv_iload hx hb dX5_numberOf_20 (lv_at hl 1 rfl) ?_
        have hh2 := c_X5_lengthOf l ya kk (by omega) (by omega)
        refine vp_callSi (va_Run.run (va_runS (As := [.int (zi ya), .int (zi kk)]) (rest := [.int (zi nn)]) ⟨hx, hb, hml, hown, hts⟩ hh2 (va_cwS 2 hts gX5_numberOf_X5_lengthOf rfl rfl rfl (by decide +kernel) ⟨Nat.le_of_ble_eq_true rfl, Nat.le_of_ble_eq_true rfl⟩) ⟨fun a U g mk q => q, fun U hU hW => ⟨rfl, trivial⟩⟩ rfl rfl hl.1 rfl (lv_room (Nat.le_of_ble_eq_true rfl)) dX5_numberOf_22 ⟨Nat.zero_le _, Nat.zero_le _⟩)) (fun r2 (hr2 : r2 = zi (f_X5_lengthOf ya kk)) => ?_)
        subst hr2
        have hf2 := b_X5_lengthOf ya kk (by omega) (by omega)
        refine zw_iadd hx hb dX5_numberOf_25 ?_
        refine zw_top (fun x3 ex3 => ?_)
        refine lv_istore_n (lv' := [(3, .int (zi x3)), (4, .int (zi kk)), (0, .int (zi ya)), (1, .int (zi mo)), (2, .int (zi da))]) hx hb dX5_numberOf_26 rfl hl (by decide) rfl (fun ls hl => ?_)
        obtain ⟨x4, ex4⟩ : ∃ z : Int, z = kk + 1 := ⟨_, rfl⟩
        refine zw_iinc (lv' := [(4, .int (zi x4)), (3, .int (zi x3)), (0, .int (zi ya)), (1, .int (zi mo)), (2, .int (zi da))]) (k := 1) hx hb ex4 dX5_numberOf_27 hl rfl (by decide) rfl (fun ls hl => ?_)
        refine lv_goto (tgt := 12) hx hb dX5_numberOf_30 (by decide) ?_
        subst ex3 ex4
        rw [show lp_X5_numberOf ya mo da (fu + 1) nn kk = lp_X5_numberOf ya mo da fu (nn + (f_X5_lengthOf ya kk)) (kk + 1) from by rw [lp_X5_numberOf, if_pos h1]]
        exact ih (nn + (f_X5_lengthOf ya kk)) (kk + 1) (by omega) (by omega) (by omega) ls (lv_sub hl [1, 0, 2, 3, 4] rfl)
  have hl := lv_entry ([.int (zi ya), .int (zi mo), .int (zi da)]) (n := 5) (Nat.le_of_ble_eq_true rfl)
  rw [lg_entry_eq]
  generalize (lg_sl ([.int (zi ya), .int (zi mo), .int (zi da)]) ++ List.replicate (5 - (lg_sl ([.int (zi ya), .int (zi mo), .int (zi da)])).length) Slot.unset).toArray = ls at hl ⊢
  have hl : lv_has ls 5 [(0, .int (zi ya)), (1, .int (zi mo)), (2, .int (zi da))] := hl
  refine lv_iload_n hx hb dX5_numberOf_0 rfl (lv_at hl 0 rfl) ?_
  have hh501 := c_X5_beginOf l ya (by omega)
  refine vp_callSi (va_Run.run (va_runS (As := [.int (zi ya)]) (rest := []) ⟨hx, hb, hml, hown, hts⟩ hh501 (va_cwS 1 hts gX5_numberOf_X5_beginOf rfl rfl rfl (by decide +kernel) ⟨Nat.le_of_ble_eq_true rfl, Nat.le_of_ble_eq_true rfl⟩) ⟨fun a U g mk q => q, fun U hU hW => ⟨rfl, trivial⟩⟩ rfl rfl hl.1 rfl (lv_room (Nat.le_of_ble_eq_true rfl)) dX5_numberOf_1 ⟨Nat.zero_le _, Nat.zero_le _⟩)) (fun r501 (hr501 : r501 = zi (f_X5_beginOf ya)) => ?_)
  subst hr501
  have hf501 := b_X5_beginOf ya (by omega)
  refine lv_iload_n hx hb dX5_numberOf_4 rfl (lv_at hl 2 rfl) ?_
  refine zw_iadd hx hb dX5_numberOf_5 ?_
  refine zw_iconst hx hb dX5_numberOf_6 ?_
  refine zw_isub hx hb dX5_numberOf_7 ?_
  refine zw_top (fun x502 ex502 => ?_)
  refine lv_istore_n (lv' := [(3, .int (zi x502)), (0, .int (zi ya)), (1, .int (zi mo)), (2, .int (zi da))]) hx hb dX5_numberOf_8 rfl hl (by decide) rfl (fun ls hl => ?_)
  refine zw_iconst hx hb dX5_numberOf_9 ?_
  refine lv_istore (lv' := [(4, .int (zi 1)), (3, .int (zi x502)), (0, .int (zi ya)), (1, .int (zi mo)), (2, .int (zi da))]) hx hb dX5_numberOf_10 hl (by decide) rfl (fun ls hl => ?_)
  subst ex502
  rw [show f_X5_numberOf ya mo da = lp_X5_numberOf ya mo da (14) (((f_X5_beginOf ya) + da) - 1) 1 from by rw [f_X5_numberOf]]
  exact loop (14) (((f_X5_beginOf ya) + da) - 1) 1 (by omega) (by omega) (by omega) ls (lv_sub hl [1, 0, 2, 3, 4] rfl)

set_option maxHeartbeats 4000000 in
set_option maxRecDepth 100000 in
theorem c_X5_yearOf (l : Launch) (nu : Int) (hp0 : 0 ≤ nu ∧ nu ≤ 3652061) : Met l yX5_yearOf wsX5_yearOf ({ frames := 1, cells := 0, slots := 0, locals := 21 }) (va_Pc [.int (zi nu)] (fun _ => True)) (vp_Si (fun r => r = zi (f_X5_yearOf nu))) 0 0 (fun _ => False) := by
  refine Met.ofW (cc := cX5_yearOf) (maxL := 2) (ret := (some .int)) (by decide) rfl ?_
  intro p e s m args below meth c s₁ B hml hv
  obtain ⟨rfl, -⟩ := hv
  have hx := B.exec
  have hb := B.bytes
  have hr := B.returns
  have hts := atoms_spec (ws := wsX5_yearOf) B.pre
  have hown : s.vm.findClass RX5 = some m.cls := findClass_of_methodNamed B.named
  have hlocks := B.notSynchronized
  have loop : ∀ (fu : Nat) (ya : Int), (1 ≤ ya ∧ ya ≤ 10000) → (10000 - ya < fu) → ∀ ls : Array Slot, lv_has ls 2 [(1, .int (zi ya)), (0, .int (zi nu))] → W p l e (headSpec wsX5_yearOf ({ frames := 1, cells := 0, slots := 0, locals := 21 })).room s m ([.int (zi nu)] : List Value).toArray below meth c s.heap [] 0 0 (MQ below (vp_Si (fun r => r = zi (lp_X5_yearOf nu fu ya))) ([.int (zi nu)] : List Value).toArray s 0 0 (fun _ => False)) (F0 m 8 ls []) := by
    intro fu
    induction fu with
    | zero =>
      intro ya hi0 hfu ls hl
      exact absurd hfu (by omega)
    | succ fu ih =>
      intro ya hi0 hfu ls hl
      refine lv_iload_n hx hb dX5_yearOf_8 rfl (lv_at hl 0 rfl) ?_
      refine zw_iconst hx hb dX5_yearOf_9 ?_
      refine zw_iadd hx hb dX5_yearOf_10 ?_
      have hh1 := c_X5_beginOf l (ya + 1) (by omega)
      refine vp_callSi (va_Run.run (va_runS (As := [.int (zi (ya + 1))]) (rest := []) ⟨hx, hb, hml, hown, hts⟩ hh1 (va_cwS 1 hts gX5_yearOf_X5_beginOf rfl rfl rfl (by decide +kernel) ⟨Nat.le_of_ble_eq_true rfl, Nat.le_of_ble_eq_true rfl⟩) ⟨fun a U g mk q => q, fun U hU hW => ⟨rfl, trivial⟩⟩ rfl rfl hl.1 rfl (lv_room (Nat.le_of_ble_eq_true rfl)) dX5_yearOf_11 ⟨Nat.zero_le _, Nat.zero_le _⟩)) (fun r1 (hr1 : r1 = zi (f_X5_beginOf (ya + 1))) => ?_)
      subst hr1
      have hf1 := b_X5_beginOf (ya + 1) (by omega)
      refine lv_iload_n hx hb dX5_yearOf_14 rfl (lv_at hl 1 rfl) ?_
      refine zw_icmp_gt (tgt := 24) hx hb dX5_yearOf_15 (by decide) ⟨by omega, by omega⟩ ⟨by omega, by omega⟩ (fun h2 => ?_) (fun h2 => ?_)
      · skip
        refine lv_iload_n hx hb dX5_yearOf_24 rfl (lv_at hl 0 rfl) ?_
        exact W.iret (v := zi ya) hx hb hr (fun t ht hW => ⟨zi ya, rfl, by rw [lp_X5_yearOf, if_neg (Int.not_le.mpr h2)], ht⟩) (fun q h => by cases h) dX5_yearOf_25
      · skip
        obtain ⟨x3, ex3⟩ : ∃ z : Int, z = ya + 1 := ⟨_, rfl⟩
        refine zw_iinc (lv' := [(1, .int (zi x3)), (0, .int (zi nu))]) (k := 0) hx hb ex3 dX5_yearOf_18 hl rfl (by decide) rfl (fun ls hl => ?_)
        refine lv_goto (tgt := 8) hx hb dX5_yearOf_21 (by decide) ?_
        subst ex3
        rw [show lp_X5_yearOf nu (fu + 1) ya = lp_X5_yearOf nu fu (ya + 1) from by rw [lp_X5_yearOf, if_pos h2]]
        exact ih (ya + 1) (by omega) (by omega) ls (lv_sub hl [0, 1] rfl)
  have hl := lv_entry ([.int (zi nu)]) (n := 2) (Nat.le_of_ble_eq_true rfl)
  rw [lg_entry_eq]
  generalize (lg_sl ([.int (zi nu)]) ++ List.replicate (2 - (lg_sl ([.int (zi nu)])).length) Slot.unset).toArray = ls at hl ⊢
  have hl : lv_has ls 2 [(0, .int (zi nu))] := hl
  refine lv_iload_n hx hb dX5_yearOf_0 rfl (lv_at hl 0 rfl) ?_
  refine zw_sipush hx hb dX5_yearOf_1 (by decide) ?_
  refine zw_idiv hx hb dX5_yearOf_4 (by omega) ⟨by omega, by omega⟩ ⟨by omega, by omega⟩ (by omega) ?_
  refine zw_iconst hx hb dX5_yearOf_5 ?_
  refine zw_iadd hx hb dX5_yearOf_6 ?_
  refine zw_top (fun x501 ex501 => ?_)
  refine lv_istore_n (lv' := [(1, .int (zi x501)), (0, .int (zi nu))]) hx hb dX5_yearOf_7 rfl hl (by decide) rfl (fun ls hl => ?_)
  subst ex501
  rw [show f_X5_yearOf nu = lp_X5_yearOf nu (10001) ((nu / 366) + 1) from by rw [f_X5_yearOf]]
  exact loop (10001) ((nu / 366) + 1) (by omega) (by omega) ls (lv_sub hl [0, 1] rfl)

set_option maxHeartbeats 4000000 in
set_option maxRecDepth 100000 in
theorem c_X5_monthOf (l : Launch) (nu : Int) (hp0 : 0 ≤ nu ∧ nu ≤ 3652058) : Met l yX5_monthOf wsX5_monthOf ({ frames := 3, cells := 0, slots := 0, locals := 65 }) (va_Pc [.int (zi nu)] (fun _ => True)) (vp_Si (fun r => r = zi (f_X5_monthOf nu))) 0 0 (fun _ => False) := by
  refine Met.ofW (cc := cX5_monthOf) (maxL := 3) (ret := (some .int)) (by decide) rfl ?_
  intro p e s m args below meth c s₁ B hml hv
  obtain ⟨rfl, -⟩ := hv
  have hx := B.exec
  have hb := B.bytes
  have hr := B.returns
  have hts := atoms_spec (ws := wsX5_monthOf) B.pre
  have hown : s.vm.findClass RX5 = some m.cls := findClass_of_methodNamed B.named
  have hlocks := B.notSynchronized
  have loop : ∀ (fu : Nat) (mo : Int) (ya : Int), (1 ≤ mo ∧ mo ≤ 12) → (1 ≤ ya ∧ ya ≤ 10000 ∧ f_X5_beginOf ya ≤ nu) → (mo ≤ fu) → ∀ ls : Array Slot, lv_has ls 3 [(2, .int (zi mo)), (1, .int (zi ya)), (0, .int (zi nu))] → W p l e (headSpec wsX5_monthOf ({ frames := 3, cells := 0, slots := 0, locals := 65 })).room s m ([.int (zi nu)] : List Value).toArray below meth c s.heap [] 0 0 (MQ below (vp_Si (fun r => r = zi (lp_X5_monthOf nu fu mo ya))) ([.int (zi nu)] : List Value).toArray s 0 0 (fun _ => False)) (F0 m 8 ls []) := by
    intro fu
    induction fu with
    | zero =>
      intro mo ya hi0 hi1 hfu ls hl
      exact absurd hfu (by omega)
    | succ fu ih =>
      intro mo ya hi0 hi1 hfu ls hl
      refine lv_iload_n hx hb dX5_monthOf_8 rfl (lv_at hl 1 rfl) ?_
      refine lv_iload_n hx hb dX5_monthOf_9 rfl (lv_at hl 0 rfl) ?_
      refine zw_iconst hx hb dX5_monthOf_10 ?_
      have hh1 := c_X5_numberOf l ya mo 1 (by omega) (by omega) (by omega)
      refine vp_callSi (va_Run.run (va_runS (As := [.int (zi ya), .int (zi mo), .int (zi 1)]) (rest := []) ⟨hx, hb, hml, hown, hts⟩ hh1 (va_cwS 3 hts gX5_monthOf_X5_numberOf rfl rfl rfl (by decide +kernel) ⟨Nat.le_of_ble_eq_true rfl, Nat.le_of_ble_eq_true rfl⟩) ⟨fun a U g mk q => q, fun U hU hW => ⟨rfl, trivial⟩⟩ rfl rfl hl.1 rfl (lv_room (Nat.le_of_ble_eq_true rfl)) dX5_monthOf_11 ⟨Nat.zero_le _, Nat.zero_le _⟩)) (fun r1 (hr1 : r1 = zi (f_X5_numberOf ya mo 1)) => ?_)
      subst hr1
      have hf1 := b_X5_numberOf ya mo 1 (by omega) (by omega) (by omega)
      refine lv_iload_n hx hb dX5_monthOf_14 rfl (lv_at hl 2 rfl) ?_
      refine zw_icmp_le (tgt := 24) hx hb dX5_monthOf_15 (by decide) ⟨by omega, by omega⟩ ⟨by omega, by omega⟩ (fun h2 => ?_) (fun h2 => ?_)
      · skip
        refine lv_iload_n hx hb dX5_monthOf_24 rfl (lv_at hl 0 rfl) ?_
        exact W.iret (v := zi mo) hx hb hr (fun t ht hW => ⟨zi mo, rfl, by rw [lp_X5_monthOf, if_pos h2], ht⟩) (fun q h => by cases h) dX5_monthOf_25
      · skip
        obtain ⟨x3, ex3⟩ : ∃ z : Int, z = mo + (-1) := ⟨_, rfl⟩
        refine zw_iinc (lv' := [(2, .int (zi x3)), (1, .int (zi ya)), (0, .int (zi nu))]) (k := 0) hx hb ex3 dX5_monthOf_18 hl rfl (by decide) rfl (fun ls hl => ?_)
        refine lv_goto (tgt := 8) hx hb dX5_monthOf_21 (by decide) ?_
        subst ex3
        rw [show lp_X5_monthOf nu (fu + 1) mo ya = lp_X5_monthOf nu fu (mo + (-1)) ya from by rw [lp_X5_monthOf, if_neg (Int.not_le.mpr h2)]]
        exact ih (mo + (-1)) ya (by omega) (by omega) (by omega) ls (lv_sub hl [0, 1, 2] rfl)
  have hl := lv_entry ([.int (zi nu)]) (n := 3) (Nat.le_of_ble_eq_true rfl)
  rw [lg_entry_eq]
  generalize (lg_sl ([.int (zi nu)]) ++ List.replicate (3 - (lg_sl ([.int (zi nu)])).length) Slot.unset).toArray = ls at hl ⊢
  have hl : lv_has ls 3 [(0, .int (zi nu))] := hl
  refine lv_iload_n hx hb dX5_monthOf_0 rfl (lv_at hl 0 rfl) ?_
  have hh501 := c_X5_yearOf l nu (by omega)
  refine vp_callSi (va_Run.run (va_runS (As := [.int (zi nu)]) (rest := []) ⟨hx, hb, hml, hown, hts⟩ hh501 (va_cwS 1 hts gX5_monthOf_X5_yearOf rfl rfl rfl (by decide +kernel) ⟨Nat.le_of_ble_eq_true rfl, Nat.le_of_ble_eq_true rfl⟩) ⟨fun a U g mk q => q, fun U hU hW => ⟨rfl, trivial⟩⟩ rfl rfl hl.1 rfl (lv_room (Nat.le_of_ble_eq_true rfl)) dX5_monthOf_1 ⟨Nat.zero_le _, Nat.zero_le _⟩)) (fun r501 (hr501 : r501 = zi (f_X5_yearOf nu)) => ?_)
  subst hr501
  have hf501 := b_X5_yearOf nu (by omega)
  refine zw_top (fun x502 ex502 => ?_)
  refine lv_istore_n (lv' := [(1, .int (zi x502)), (0, .int (zi nu))]) hx hb dX5_monthOf_4 rfl hl (by decide) rfl (fun ls hl => ?_)
  refine zw_bipush hx hb dX5_monthOf_5 (by decide) ?_
  refine lv_istore_n (lv' := [(2, .int (zi 12)), (1, .int (zi x502)), (0, .int (zi nu))]) hx hb dX5_monthOf_7 rfl hl (by decide) rfl (fun ls hl => ?_)
  subst ex502
  rw [show f_X5_monthOf nu = lp_X5_monthOf nu (12) 12 (f_X5_yearOf nu) from by rw [f_X5_monthOf]]
  exact loop (12) 12 (f_X5_yearOf nu) (by omega) (by omega) (by omega) ls (lv_sub hl [0, 1, 2] rfl)

set_option maxHeartbeats 4000000 in
set_option maxRecDepth 100000 in
theorem c_X5_dayOf (l : Launch) (nu : Int) (hp0 : 0 ≤ nu ∧ nu ≤ 3652058) : Met l yX5_dayOf wsX5_dayOf ({ frames := 4, cells := 0, slots := 0, locals := 87 }) (va_Pc [.int (zi nu)] (fun _ => True)) (vp_Si (fun r => r = zi (f_X5_dayOf nu))) 0 0 (fun _ => False) := by
  refine Met.ofW (cc := cX5_dayOf) (maxL := 1) (ret := (some .int)) (by decide) rfl ?_
  intro p e s m args below meth c s₁ B hml hv
  obtain ⟨rfl, -⟩ := hv
  have hx := B.exec
  have hb := B.bytes
  have hr := B.returns
  have hts := atoms_spec (ws := wsX5_dayOf) B.pre
  have hown : s.vm.findClass RX5 = some m.cls := findClass_of_methodNamed B.named
  have hlocks := B.notSynchronized
  have hl := lv_entry ([.int (zi nu)]) (n := 1) (Nat.le_of_ble_eq_true rfl)
  rw [lg_entry_eq]
  generalize (lg_sl ([.int (zi nu)]) ++ List.replicate (1 - (lg_sl ([.int (zi nu)])).length) Slot.unset).toArray = ls at hl ⊢
  have hl : lv_has ls 1 [(0, .int (zi nu))] := hl
  refine lv_iload_n hx hb dX5_dayOf_0 rfl (lv_at hl 0 rfl) ?_
  refine lv_iload_n hx hb dX5_dayOf_1 rfl (lv_at hl 0 rfl) ?_
  have hh1 := c_X5_yearOf l nu (by omega)
  refine vp_callSi (va_Run.run (va_runS (As := [.int (zi nu)]) (rest := [.int (zi nu)]) ⟨hx, hb, hml, hown, hts⟩ hh1 (va_cwS 1 hts gX5_dayOf_X5_yearOf rfl rfl rfl (by decide +kernel) ⟨Nat.le_of_ble_eq_true rfl, Nat.le_of_ble_eq_true rfl⟩) ⟨fun a U g mk q => q, fun U hU hW => ⟨rfl, trivial⟩⟩ rfl rfl hl.1 rfl (lv_room (Nat.le_of_ble_eq_true rfl)) dX5_dayOf_2 ⟨Nat.zero_le _, Nat.zero_le _⟩)) (fun r1 (hr1 : r1 = zi (f_X5_yearOf nu)) => ?_)
  subst hr1
  have hf1 := b_X5_yearOf nu (by omega)
  refine lv_iload_n hx hb dX5_dayOf_5 rfl (lv_at hl 0 rfl) ?_
  have hh2 := c_X5_monthOf l nu (by omega)
  refine vp_callSi (va_Run.run (va_runS (As := [.int (zi nu)]) (rest := [.int (zi (f_X5_yearOf nu)), .int (zi nu)]) ⟨hx, hb, hml, hown, hts⟩ hh2 (va_cwS 1 hts gX5_dayOf_X5_monthOf rfl rfl rfl (by decide +kernel) ⟨Nat.le_of_ble_eq_true rfl, Nat.le_of_ble_eq_true rfl⟩) ⟨fun a U g mk q => q, fun U hU hW => ⟨rfl, trivial⟩⟩ rfl rfl hl.1 rfl (lv_room (Nat.le_of_ble_eq_true rfl)) dX5_dayOf_6 ⟨Nat.zero_le _, Nat.zero_le _⟩)) (fun r2 (hr2 : r2 = zi (f_X5_monthOf nu)) => ?_)
  subst hr2
  have hf2 := b_X5_monthOf nu (by omega)
  refine zw_iconst hx hb dX5_dayOf_9 ?_
  have hh3 := c_X5_numberOf l (f_X5_yearOf nu) (f_X5_monthOf nu) 1 (by omega) (by omega) (by omega)
  refine vp_callSi (va_Run.run (va_runS (As := [.int (zi (f_X5_yearOf nu)), .int (zi (f_X5_monthOf nu)), .int (zi 1)]) (rest := [.int (zi nu)]) ⟨hx, hb, hml, hown, hts⟩ hh3 (va_cwS 3 hts gX5_dayOf_X5_numberOf rfl rfl rfl (by decide +kernel) ⟨Nat.le_of_ble_eq_true rfl, Nat.le_of_ble_eq_true rfl⟩) ⟨fun a U g mk q => q, fun U hU hW => ⟨rfl, trivial⟩⟩ rfl rfl hl.1 rfl (lv_room (Nat.le_of_ble_eq_true rfl)) dX5_dayOf_10 ⟨Nat.zero_le _, Nat.zero_le _⟩)) (fun r3 (hr3 : r3 = zi (f_X5_numberOf (f_X5_yearOf nu) (f_X5_monthOf nu) 1)) => ?_)
  subst hr3
  have hf3 := b_X5_numberOf (f_X5_yearOf nu) (f_X5_monthOf nu) 1 (by omega) (by omega) (by omega)
  refine zw_isub hx hb dX5_dayOf_13 ?_
  refine zw_iconst hx hb dX5_dayOf_14 ?_
  refine zw_iadd hx hb dX5_dayOf_15 ?_
  exact W.iret (v := zi ((nu - (f_X5_numberOf (f_X5_yearOf nu) (f_X5_monthOf nu) 1)) + 1)) hx hb hr (fun t ht hW => ⟨zi ((nu - (f_X5_numberOf (f_X5_yearOf nu) (f_X5_monthOf nu) 1)) + 1), rfl, by rw [f_X5_dayOf], ht⟩) (fun q h => by cases h) dX5_dayOf_16

set_option maxHeartbeats 4000000 in
set_option maxRecDepth 100000 in
theorem c_X5_weekdayOf (l : Launch) (nu : Int) (hp0 : 0 ≤ nu ∧ nu ≤ 2147483647) : Met l yX5_weekdayOf wsX5_weekdayOf ({ frames := 0, cells := 0, slots := 0, locals := 0 }) (va_Pc [.int (zi nu)] (fun _ => True)) (vp_Si (fun r => r = zi (f_X5_weekdayOf nu))) 0 0 (fun _ => False) := by
  refine Met.ofW (cc := cX5_weekdayOf) (maxL := 1) (ret := (some .int)) (by decide) rfl ?_
  intro p e s m args below meth c s₁ B hml hv
  obtain ⟨rfl, -⟩ := hv
  have hx := B.exec
  have hb := B.bytes
  have hr := B.returns
  have hts := atoms_spec (ws := wsX5_weekdayOf) B.pre
  have hown : s.vm.findClass RX5 = some m.cls := findClass_of_methodNamed B.named
  have hlocks := B.notSynchronized
  have hl := lv_entry ([.int (zi nu)]) (n := 1) (Nat.le_of_ble_eq_true rfl)
  rw [lg_entry_eq]
  generalize (lg_sl ([.int (zi nu)]) ++ List.replicate (1 - (lg_sl ([.int (zi nu)])).length) Slot.unset).toArray = ls at hl ⊢
  have hl : lv_has ls 1 [(0, .int (zi nu))] := hl
  refine lv_iload_n hx hb dX5_weekdayOf_0 rfl (lv_at hl 0 rfl) ?_
  refine zw_bipush hx hb dX5_weekdayOf_1 (by decide) ?_
  refine zw_irem hx hb dX5_weekdayOf_3 (by omega) ⟨by omega, by omega⟩ ⟨by omega, by omega⟩ (by omega) ?_
  refine zw_iconst hx hb dX5_weekdayOf_4 ?_
  refine zw_iadd hx hb dX5_weekdayOf_5 ?_
  exact W.iret (v := zi ((nu % 7) + 1)) hx hb hr (fun t ht hW => ⟨zi ((nu % 7) + 1), rfl, by rw [f_X5_weekdayOf], ht⟩) (fun q h => by cases h) dX5_weekdayOf_6

set_option maxHeartbeats 4000000 in
set_option maxRecDepth 100000 in
theorem c_X5_isDate (l : Launch) (ya : Int) (mo : Int) (da : Int) (hp0 : -2147483648 ≤ ya ∧ ya ≤ 2147483647) (hp1 : -2147483648 ≤ mo ∧ mo ≤ 2147483647) (hp2 : -2147483648 ≤ da ∧ da ≤ 2147483647) : Met l yX5_isDate wsX5_isDate ({ frames := 2, cells := 0, slots := 0, locals := 41 }) (va_Pc [.int (zi ya), .int (zi mo), .int (zi da)] (fun _ => True)) (vp_Si (fun r => r = zi (f_X5_isDate ya mo da))) 0 0 (fun _ => False) := by
  refine Met.ofW (cc := cX5_isDate) (maxL := 3) (ret := (some .boolean)) (by decide) rfl ?_
  intro p e s m args below meth c s₁ B hml hv
  obtain ⟨rfl, -⟩ := hv
  have hx := B.exec
  have hb := B.bytes
  have hr := B.returns
  have hts := atoms_spec (ws := wsX5_isDate) B.pre
  have hown : s.vm.findClass RX5 = some m.cls := findClass_of_methodNamed B.named
  have hlocks := B.notSynchronized
  have hl := lv_entry ([.int (zi ya), .int (zi mo), .int (zi da)]) (n := 3) (Nat.le_of_ble_eq_true rfl)
  rw [lg_entry_eq]
  generalize (lg_sl ([.int (zi ya), .int (zi mo), .int (zi da)]) ++ List.replicate (3 - (lg_sl ([.int (zi ya), .int (zi mo), .int (zi da)])).length) Slot.unset).toArray = ls at hl ⊢
  have hl : lv_has ls 3 [(0, .int (zi ya)), (1, .int (zi mo)), (2, .int (zi da))] := hl
  refine lv_iload_n hx hb dX5_isDate_0 rfl (lv_at hl 0 rfl) ?_
  refine zw_iconst hx hb dX5_isDate_1 ?_
  refine zw_sipush hx hb dX5_isDate_2 (by decide) ?_
  have hh1 := c_X5_in l ya 1 9999 (by omega) (by omega) (by omega)
  refine vp_callSi (va_Run.run (va_runS (As := [.int (zi ya), .int (zi 1), .int (zi 9999)]) (rest := []) ⟨hx, hb, hml, hown, hts⟩ hh1 (va_cwS 3 hts gX5_isDate_X5_in rfl rfl rfl (by decide +kernel) ⟨Nat.le_of_ble_eq_true rfl, Nat.le_of_ble_eq_true rfl⟩) ⟨fun a U g mk q => q, fun U hU hW => ⟨rfl, trivial⟩⟩ rfl rfl hl.1 rfl (lv_room (Nat.le_of_ble_eq_true rfl)) dX5_isDate_5 ⟨Nat.zero_le _, Nat.zero_le _⟩)) (fun r1 (hr1 : r1 = zi (f_X5_in ya 1 9999)) => ?_)
  subst hr1
  have hf1 := b_X5_in ya 1 9999 (by omega) (by omega) (by omega)
  refine zw_if_eq (tgt := 38) hx hb dX5_isDate_8 (by decide) ⟨by omega, by omega⟩ (fun h2 => ?_) (fun h2 => ?_)
  · skip
    refine zw_iconst hx hb dX5_isDate_38 ?_
    exact W.zret (v := zi 0) hx hb hr (zi_nb (by omega)) (fun t ht hW => ⟨zi 0, rfl, by rw [f_X5_isDate, if_pos h2], ht⟩) (fun q h => by cases h) dX5_isDate_39
  · skip
    refine lv_iload_n hx hb dX5_isDate_11 rfl (lv_at hl 1 rfl) ?_
    refine zw_iconst hx hb dX5_isDate_12 ?_
    refine zw_bipush hx hb dX5_isDate_13 (by decide) ?_
    have hh3 := c_X5_in l mo 1 12 (by omega) (by omega) (by omega)
    refine vp_callSi (va_Run.run (va_runS (As := [.int (zi mo), .int (zi 1), .int (zi 12)]) (rest := []) ⟨hx, hb, hml, hown, hts⟩ hh3 (va_cwS 3 hts gX5_isDate_X5_in rfl rfl rfl (by decide +kernel) ⟨Nat.le_of_ble_eq_true rfl, Nat.le_of_ble_eq_true rfl⟩) ⟨fun a U g mk q => q, fun U hU hW => ⟨rfl, trivial⟩⟩ rfl rfl hl.1 rfl (lv_room (Nat.le_of_ble_eq_true rfl)) dX5_isDate_15 ⟨Nat.zero_le _, Nat.zero_le _⟩)) (fun r3 (hr3 : r3 = zi (f_X5_in mo 1 12)) => ?_)
    subst hr3
    have hf3 := b_X5_in mo 1 12 (by omega) (by omega) (by omega)
    refine zw_if_eq (tgt := 38) hx hb dX5_isDate_18 (by decide) ⟨by omega, by omega⟩ (fun h4 => ?_) (fun h4 => ?_)
    · skip
      refine zw_iconst hx hb dX5_isDate_38 ?_
      exact W.zret (v := zi 0) hx hb hr (zi_nb (by omega)) (fun t ht hW => ⟨zi 0, rfl, by rw [f_X5_isDate, if_neg h2, if_pos h4], ht⟩) (fun q h => by cases h) dX5_isDate_39
    · skip
      refine lv_iload_n hx hb dX5_isDate_21 rfl (lv_at hl 2 rfl) ?_
      refine zw_iconst hx hb dX5_isDate_22 ?_
      refine lv_iload_n hx hb dX5_isDate_23 rfl (lv_at hl 0 rfl) ?_
      refine lv_iload_n hx hb dX5_isDate_24 rfl (lv_at hl 1 rfl) ?_
      have hh5 := c_X5_lengthOf l ya mo (by omega) (by omega)
      refine vp_callSi (va_Run.run (va_runS (As := [.int (zi ya), .int (zi mo)]) (rest := [.int (zi 1), .int (zi da)]) ⟨hx, hb, hml, hown, hts⟩ hh5 (va_cwS 2 hts gX5_isDate_X5_lengthOf rfl rfl rfl (by decide +kernel) ⟨Nat.le_of_ble_eq_true rfl, Nat.le_of_ble_eq_true rfl⟩) ⟨fun a U g mk q => q, fun U hU hW => ⟨rfl, trivial⟩⟩ rfl rfl hl.1 rfl (lv_room (Nat.le_of_ble_eq_true rfl)) dX5_isDate_25 ⟨Nat.zero_le _, Nat.zero_le _⟩)) (fun r5 (hr5 : r5 = zi (f_X5_lengthOf ya mo)) => ?_)
      subst hr5
      have hf5 := b_X5_lengthOf ya mo (by omega) (by omega)
      have hh6 := c_X5_in l da 1 (f_X5_lengthOf ya mo) (by omega) (by omega) (by omega)
      refine vp_callSi (va_Run.run (va_runS (As := [.int (zi da), .int (zi 1), .int (zi (f_X5_lengthOf ya mo))]) (rest := []) ⟨hx, hb, hml, hown, hts⟩ hh6 (va_cwS 3 hts gX5_isDate_X5_in rfl rfl rfl (by decide +kernel) ⟨Nat.le_of_ble_eq_true rfl, Nat.le_of_ble_eq_true rfl⟩) ⟨fun a U g mk q => q, fun U hU hW => ⟨rfl, trivial⟩⟩ rfl rfl hl.1 rfl (lv_room (Nat.le_of_ble_eq_true rfl)) dX5_isDate_28 ⟨Nat.zero_le _, Nat.zero_le _⟩)) (fun r6 (hr6 : r6 = zi (f_X5_in da 1 (f_X5_lengthOf ya mo))) => ?_)
      subst hr6
      have hf6 := b_X5_in da 1 (f_X5_lengthOf ya mo) (by omega) (by omega) (by omega)
      refine zw_if_eq (tgt := 38) hx hb dX5_isDate_31 (by decide) ⟨by omega, by omega⟩ (fun h7 => ?_) (fun h7 => ?_)
      · skip
        refine zw_iconst hx hb dX5_isDate_38 ?_
        exact W.zret (v := zi 0) hx hb hr (zi_nb (by omega)) (fun t ht hW => ⟨zi 0, rfl, by rw [f_X5_isDate, if_neg h2, if_neg h4, if_pos h7], ht⟩) (fun q h => by cases h) dX5_isDate_39
      · skip
        refine zw_iconst hx hb dX5_isDate_34 ?_
        refine lv_goto (tgt := 39) hx hb dX5_isDate_35 (by decide) ?_
        exact W.zret (v := zi 1) hx hb hr (zi_nb (by omega)) (fun t ht hW => ⟨zi 1, rfl, by rw [f_X5_isDate, if_neg h2, if_neg h4, if_neg h7], ht⟩) (fun q h => by cases h) dX5_isDate_39

set_option maxHeartbeats 4000000 in
set_option maxRecDepth 100000 in
theorem c_X5_firstMonday (l : Launch) (ya : Int) (hp0 : 1 ≤ ya ∧ ya ≤ 10001) : Met l yX5_firstMonday wsX5_firstMonday ({ frames := 1, cells := 0, slots := 0, locals := 21 }) (va_Pc [.int (zi ya)] (fun _ => True)) (vp_Si (fun r => r = zi (f_X5_firstMonday ya))) 0 0 (fun _ => False) := by
  refine Met.ofW (cc := cX5_firstMonday) (maxL := 2) (ret := (some .int)) (by decide) rfl ?_
  intro p e s m args below meth c s₁ B hml hv
  obtain ⟨rfl, -⟩ := hv
  have hx := B.exec
  have hb := B.bytes
  have hr := B.returns
  have hts := atoms_spec (ws := wsX5_firstMonday) B.pre
  have hown : s.vm.findClass RX5 = some m.cls := findClass_of_methodNamed B.named
  have hlocks := B.notSynchronized
  have hl := lv_entry ([.int (zi ya)]) (n := 2) (Nat.le_of_ble_eq_true rfl)
  rw [lg_entry_eq]
  generalize (lg_sl ([.int (zi ya)]) ++ List.replicate (2 - (lg_sl ([.int (zi ya)])).length) Slot.unset).toArray = ls at hl ⊢
  have hl : lv_has ls 2 [(0, .int (zi ya))] := hl
  refine lv_iload_n hx hb dX5_firstMonday_0 rfl (lv_at hl 0 rfl) ?_
  have hh1 := c_X5_beginOf l ya (by omega)
  refine vp_callSi (va_Run.run (va_runS (As := [.int (zi ya)]) (rest := []) ⟨hx, hb, hml, hown, hts⟩ hh1 (va_cwS 1 hts gX5_firstMonday_X5_beginOf rfl rfl rfl (by decide +kernel) ⟨Nat.le_of_ble_eq_true rfl, Nat.le_of_ble_eq_true rfl⟩) ⟨fun a U g mk q => q, fun U hU hW => ⟨rfl, trivial⟩⟩ rfl rfl hl.1 rfl (lv_room (Nat.le_of_ble_eq_true rfl)) dX5_firstMonday_1 ⟨Nat.zero_le _, Nat.zero_le _⟩)) (fun r1 (hr1 : r1 = zi (f_X5_beginOf ya)) => ?_)
  subst hr1
  have hf1 := b_X5_beginOf ya (by omega)
  refine zw_iconst hx hb dX5_firstMonday_4 ?_
  refine zw_iadd hx hb dX5_firstMonday_5 ?_
  refine zw_top (fun x2 ex2 => ?_)
  refine lv_istore_n (lv' := [(1, .int (zi x2)), (0, .int (zi ya))]) hx hb dX5_firstMonday_6 rfl hl (by decide) rfl (fun ls hl => ?_)
  refine lv_iload_n hx hb dX5_firstMonday_7 rfl (lv_at hl 0 rfl) ?_
  refine lv_iload_n hx hb dX5_firstMonday_8 rfl (lv_at hl 0 rfl) ?_
  have hh3 := c_X5_weekdayOf l x2 (by omega)
  refine vp_callSi (va_Run.run (va_runS (As := [.int (zi x2)]) (rest := [.int (zi x2)]) ⟨hx, hb, hml, hown, hts⟩ hh3 (va_cwS 1 hts gX5_firstMonday_X5_weekdayOf rfl rfl rfl (by decide +kernel) ⟨Nat.le_of_ble_eq_true rfl, Nat.le_of_ble_eq_true rfl⟩) ⟨fun a U g mk q => q, fun U hU hW => ⟨rfl, trivial⟩⟩ rfl rfl hl.1 rfl (lv_room (Nat.le_of_ble_eq_true rfl)) dX5_firstMonday_9 ⟨Nat.zero_le _, Nat.zero_le _⟩)) (fun r3 (hr3 : r3 = zi (f_X5_weekdayOf x2)) => ?_)
  subst hr3
  have hf3 := b_X5_weekdayOf x2 (by omega)
  refine zw_iconst hx hb dX5_firstMonday_12 ?_
  refine zw_isub hx hb dX5_firstMonday_13 ?_
  refine zw_isub hx hb dX5_firstMonday_14 ?_
  subst ex2
  exact W.iret (v := zi (((f_X5_beginOf ya) + 3) - ((f_X5_weekdayOf ((f_X5_beginOf ya) + 3)) - 1))) hx hb hr (fun t ht hW => ⟨zi (((f_X5_beginOf ya) + 3) - ((f_X5_weekdayOf ((f_X5_beginOf ya) + 3)) - 1)), rfl, by rw [f_X5_firstMonday], ht⟩) (fun q h => by cases h) dX5_firstMonday_15

set_option maxHeartbeats 4000000 in
set_option maxRecDepth 100000 in
theorem c_X5_weeksOf (l : Launch) (ya : Int) (hp0 : 1 ≤ ya ∧ ya ≤ 10000) : Met l yX5_weeksOf wsX5_weeksOf ({ frames := 2, cells := 0, slots := 0, locals := 42 }) (va_Pc [.int (zi ya)] (fun _ => True)) (vp_Si (fun r => r = zi (f_X5_weeksOf ya))) 0 0 (fun _ => False) := by
  refine Met.ofW (cc := cX5_weeksOf) (maxL := 1) (ret := (some .int)) (by decide) rfl ?_
  intro p e s m args below meth c s₁ B hml hv
  obtain ⟨rfl, -⟩ := hv
  have hx := B.exec
  have hb := B.bytes
  have hr := B.returns
  have hts := atoms_spec (ws := wsX5_weeksOf) B.pre
  have hown : s.vm.findClass RX5 = some m.cls := findClass_of_methodNamed B.named
  have hlocks := B.notSynchronized
  have hl := lv_entry ([.int (zi ya)]) (n := 1) (Nat.le_of_ble_eq_true rfl)
  rw [lg_entry_eq]
  generalize (lg_sl ([.int (zi ya)]) ++ List.replicate (1 - (lg_sl ([.int (zi ya)])).length) Slot.unset).toArray = ls at hl ⊢
  have hl : lv_has ls 1 [(0, .int (zi ya))] := hl
  refine lv_iload_n hx hb dX5_weeksOf_0 rfl (lv_at hl 0 rfl) ?_
  refine zw_iconst hx hb dX5_weeksOf_1 ?_
  refine zw_iadd hx hb dX5_weeksOf_2 ?_
  have hh1 := c_X5_firstMonday l (ya + 1) (by omega)
  refine vp_callSi (va_Run.run (va_runS (As := [.int (zi (ya + 1))]) (rest := []) ⟨hx, hb, hml, hown, hts⟩ hh1 (va_cwS 1 hts gX5_weeksOf_X5_firstMonday rfl rfl rfl (by decide +kernel) ⟨Nat.le_of_ble_eq_true rfl, Nat.le_of_ble_eq_true rfl⟩) ⟨fun a U g mk q => q, fun U hU hW => ⟨rfl, trivial⟩⟩ rfl rfl hl.1 rfl (lv_room (Nat.le_of_ble_eq_true rfl)) dX5_weeksOf_3 ⟨Nat.zero_le _, Nat.zero_le _⟩)) (fun r1 (hr1 : r1 = zi (f_X5_firstMonday (ya + 1))) => ?_)
  subst hr1
  have hf1 := b_X5_firstMonday (ya + 1) (by omega)
  refine lv_iload_n hx hb dX5_weeksOf_6 rfl (lv_at hl 0 rfl) ?_
  have hh2 := c_X5_firstMonday l ya (by omega)
  refine vp_callSi (va_Run.run (va_runS (As := [.int (zi ya)]) (rest := [.int (zi (f_X5_firstMonday (ya + 1)))]) ⟨hx, hb, hml, hown, hts⟩ hh2 (va_cwS 1 hts gX5_weeksOf_X5_firstMonday rfl rfl rfl (by decide +kernel) ⟨Nat.le_of_ble_eq_true rfl, Nat.le_of_ble_eq_true rfl⟩) ⟨fun a U g mk q => q, fun U hU hW => ⟨rfl, trivial⟩⟩ rfl rfl hl.1 rfl (lv_room (Nat.le_of_ble_eq_true rfl)) dX5_weeksOf_7 ⟨Nat.zero_le _, Nat.zero_le _⟩)) (fun r2 (hr2 : r2 = zi (f_X5_firstMonday ya)) => ?_)
  subst hr2
  have hf2 := b_X5_firstMonday ya (by omega)
  refine zw_isub hx hb dX5_weeksOf_10 ?_
  refine zw_bipush hx hb dX5_weeksOf_11 (by decide) ?_
  refine zw_idiv hx hb dX5_weeksOf_13 (by omega) ⟨by omega, by omega⟩ ⟨by omega, by omega⟩ (by omega) ?_
  exact W.iret (v := zi (((f_X5_firstMonday (ya + 1)) - (f_X5_firstMonday ya)) / 7)) hx hb hr (fun t ht hW => ⟨zi (((f_X5_firstMonday (ya + 1)) - (f_X5_firstMonday ya)) / 7), rfl, by rw [f_X5_weeksOf], ht⟩) (fun q h => by cases h) dX5_weeksOf_14

set_option maxHeartbeats 4000000 in
set_option maxRecDepth 100000 in
theorem c_X5_weekYearOf (l : Launch) (nu : Int) (hp0 : 0 ≤ nu ∧ nu ≤ 3652058) : Met l yX5_weekYearOf wsX5_weekYearOf ({ frames := 2, cells := 0, slots := 0, locals := 42 }) (va_Pc [.int (zi nu)] (fun _ => True)) (vp_Si (fun r => r = zi (f_X5_weekYearOf nu))) 0 0 (fun _ => False) := by
  refine Met.ofW (cc := cX5_weekYearOf) (maxL := 2) (ret := (some .int)) (by decide) rfl ?_
  intro p e s m args below meth c s₁ B hml hv
  obtain ⟨rfl, -⟩ := hv
  have hx := B.exec
  have hb := B.bytes
  have hr := B.returns
  have hts := atoms_spec (ws := wsX5_weekYearOf) B.pre
  have hown : s.vm.findClass RX5 = some m.cls := findClass_of_methodNamed B.named
  have hlocks := B.notSynchronized
  have hl := lv_entry ([.int (zi nu)]) (n := 2) (Nat.le_of_ble_eq_true rfl)
  rw [lg_entry_eq]
  generalize (lg_sl ([.int (zi nu)]) ++ List.replicate (2 - (lg_sl ([.int (zi nu)])).length) Slot.unset).toArray = ls at hl ⊢
  have hl : lv_has ls 2 [(0, .int (zi nu))] := hl
  refine lv_iload_n hx hb dX5_weekYearOf_0 rfl (lv_at hl 0 rfl) ?_
  refine lv_iload_n hx hb dX5_weekYearOf_1 rfl (lv_at hl 0 rfl) ?_
  have hh1 := c_X5_weekdayOf l nu (by omega)
  refine vp_callSi (va_Run.run (va_runS (As := [.int (zi nu)]) (rest := [.int (zi nu)]) ⟨hx, hb, hml, hown, hts⟩ hh1 (va_cwS 1 hts gX5_weekYearOf_X5_weekdayOf rfl rfl rfl (by decide +kernel) ⟨Nat.le_of_ble_eq_true rfl, Nat.le_of_ble_eq_true rfl⟩) ⟨fun a U g mk q => q, fun U hU hW => ⟨rfl, trivial⟩⟩ rfl rfl hl.1 rfl (lv_room (Nat.le_of_ble_eq_true rfl)) dX5_weekYearOf_2 ⟨Nat.zero_le _, Nat.zero_le _⟩)) (fun r1 (hr1 : r1 = zi (f_X5_weekdayOf nu)) => ?_)
  subst hr1
  have hf1 := b_X5_weekdayOf nu (by omega)
  refine zw_isub hx hb dX5_weekYearOf_5 ?_
  refine zw_iconst hx hb dX5_weekYearOf_6 ?_
  refine zw_iadd hx hb dX5_weekYearOf_7 ?_
  refine zw_top (fun x2 ex2 => ?_)
  refine lv_istore_n (lv' := [(1, .int (zi x2)), (0, .int (zi nu))]) hx hb dX5_weekYearOf_8 rfl hl (by decide) rfl (fun ls hl => ?_)
  refine lv_iload_n hx hb dX5_weekYearOf_9 rfl (lv_at hl 0 rfl) ?_
  have hh3 := c_X5_yearOf l x2 (by omega)
  refine vp_callSi (va_Run.run (va_runS (As := [.int (zi x2)]) (rest := []) ⟨hx, hb, hml, hown, hts⟩ hh3 (va_cwS 1 hts gX5_weekYearOf_X5_yearOf rfl rfl rfl (by decide +kernel) ⟨Nat.le_of_ble_eq_true rfl, Nat.le_of_ble_eq_true rfl⟩) ⟨fun a U g mk q => q, fun U hU hW => ⟨rfl, trivial⟩⟩ rfl rfl hl.1 rfl (lv_room (Nat.le_of_ble_eq_true rfl)) dX5_weekYearOf_10 ⟨Nat.zero_le _, Nat.zero_le _⟩)) (fun r3 (hr3 : r3 = zi (f_X5_yearOf x2)) => ?_)
  subst hr3
  have hf3 := b_X5_yearOf x2 (by omega)
  subst ex2
  exact W.iret (v := zi (f_X5_yearOf ((nu - (f_X5_weekdayOf nu)) + 4))) hx hb hr (fun t ht hW => ⟨zi (f_X5_yearOf ((nu - (f_X5_weekdayOf nu)) + 4)), rfl, by rw [f_X5_weekYearOf], ht⟩) (fun q h => by cases h) dX5_weekYearOf_13

set_option maxHeartbeats 4000000 in
set_option maxRecDepth 100000 in
theorem c_X5_weekOf (l : Launch) (nu : Int) (hp0 : 0 ≤ nu ∧ nu ≤ 3652058) : Met l yX5_weekOf wsX5_weekOf ({ frames := 3, cells := 0, slots := 0, locals := 63 }) (va_Pc [.int (zi nu)] (fun _ => True)) (vp_Si (fun r => r = zi (f_X5_weekOf nu))) 0 0 (fun _ => False) := by
  refine Met.ofW (cc := cX5_weekOf) (maxL := 1) (ret := (some .int)) (by decide) rfl ?_
  intro p e s m args below meth c s₁ B hml hv
  obtain ⟨rfl, -⟩ := hv
  have hx := B.exec
  have hb := B.bytes
  have hr := B.returns
  have hts := atoms_spec (ws := wsX5_weekOf) B.pre
  have hown : s.vm.findClass RX5 = some m.cls := findClass_of_methodNamed B.named
  have hlocks := B.notSynchronized
  have hl := lv_entry ([.int (zi nu)]) (n := 1) (Nat.le_of_ble_eq_true rfl)
  rw [lg_entry_eq]
  generalize (lg_sl ([.int (zi nu)]) ++ List.replicate (1 - (lg_sl ([.int (zi nu)])).length) Slot.unset).toArray = ls at hl ⊢
  have hl : lv_has ls 1 [(0, .int (zi nu))] := hl
  refine lv_iload_n hx hb dX5_weekOf_0 rfl (lv_at hl 0 rfl) ?_
  refine lv_iload_n hx hb dX5_weekOf_1 rfl (lv_at hl 0 rfl) ?_
  have hh1 := c_X5_weekYearOf l nu (by omega)
  refine vp_callSi (va_Run.run (va_runS (As := [.int (zi nu)]) (rest := [.int (zi nu)]) ⟨hx, hb, hml, hown, hts⟩ hh1 (va_cwS 1 hts gX5_weekOf_X5_weekYearOf rfl rfl rfl (by decide +kernel) ⟨Nat.le_of_ble_eq_true rfl, Nat.le_of_ble_eq_true rfl⟩) ⟨fun a U g mk q => q, fun U hU hW => ⟨rfl, trivial⟩⟩ rfl rfl hl.1 rfl (lv_room (Nat.le_of_ble_eq_true rfl)) dX5_weekOf_2 ⟨Nat.zero_le _, Nat.zero_le _⟩)) (fun r1 (hr1 : r1 = zi (f_X5_weekYearOf nu)) => ?_)
  subst hr1
  have hf1 := b_X5_weekYearOf nu (by omega)
  have hh2 := c_X5_firstMonday l (f_X5_weekYearOf nu) (by omega)
  refine vp_callSi (va_Run.run (va_runS (As := [.int (zi (f_X5_weekYearOf nu))]) (rest := [.int (zi nu)]) ⟨hx, hb, hml, hown, hts⟩ hh2 (va_cwS 1 hts gX5_weekOf_X5_firstMonday rfl rfl rfl (by decide +kernel) ⟨Nat.le_of_ble_eq_true rfl, Nat.le_of_ble_eq_true rfl⟩) ⟨fun a U g mk q => q, fun U hU hW => ⟨rfl, trivial⟩⟩ rfl rfl hl.1 rfl (lv_room (Nat.le_of_ble_eq_true rfl)) dX5_weekOf_5 ⟨Nat.zero_le _, Nat.zero_le _⟩)) (fun r2 (hr2 : r2 = zi (f_X5_firstMonday (f_X5_weekYearOf nu))) => ?_)
  subst hr2
  have hf2 := b_X5_firstMonday (f_X5_weekYearOf nu) (by omega)
  refine zw_isub hx hb dX5_weekOf_8 ?_
  have hmo := m_X5_week nu (by omega)
  refine zw_bipush hx hb dX5_weekOf_9 (by decide) ?_
  refine zw_idiv hx hb dX5_weekOf_11 (by omega) ⟨by omega, by omega⟩ ⟨by omega, by omega⟩ (by omega) ?_
  refine zw_iconst hx hb dX5_weekOf_12 ?_
  refine zw_iadd hx hb dX5_weekOf_13 ?_
  exact W.iret (v := zi (((nu - (f_X5_firstMonday (f_X5_weekYearOf nu))) / 7) + 1)) hx hb hr (fun t ht hW => ⟨zi (((nu - (f_X5_firstMonday (f_X5_weekYearOf nu))) / 7) + 1), rfl, by rw [f_X5_weekOf], ht⟩) (fun q h => by cases h) dX5_weekOf_14

set_option maxHeartbeats 4000000 in
set_option maxRecDepth 100000 in
theorem c_X5_easterOf (l : Launch) (ya : Int) (hp0 : 1583 ≤ ya ∧ ya ≤ 9999) : Met l yX5_easterOf wsX5_easterOf ({ frames := 3, cells := 0, slots := 0, locals := 65 }) (va_Pc [.int (zi ya)] (fun _ => True)) (vp_Si (fun r => r = zi (f_X5_easterOf ya))) 0 0 (fun _ => False) := by
  refine Met.ofW (cc := cX5_easterOf) (maxL := 6) (ret := (some .int)) (by decide) rfl ?_
  intro p e s m args below meth c s₁ B hml hv
  obtain ⟨rfl, -⟩ := hv
  have hx := B.exec
  have hb := B.bytes
  have hr := B.returns
  have hts := atoms_spec (ws := wsX5_easterOf) B.pre
  have hown : s.vm.findClass RX5 = some m.cls := findClass_of_methodNamed B.named
  have hlocks := B.notSynchronized
  have loop : ∀ (fu : Nat) (nn : Int), (0 ≤ nn ∧ nn - nn % 7 ≤ 3999000) → (7 - nn % 7 ≤ fu) → ∀ ls : Array Slot, lv_has ls 6 [(5, .int (zi nn)), (0, .int (zi ya))] → W p l e (headSpec wsX5_easterOf ({ frames := 3, cells := 0, slots := 0, locals := 65 })).room s m ([.int (zi ya)] : List Value).toArray below meth c s.heap [] 0 0 (MQ below (vp_Si (fun r => r = zi (lp_X5_easterOf ya fu nn))) ([.int (zi ya)] : List Value).toArray s 0 0 (fun _ => False)) (F0 m 83 ls []) := by
    intro fu
    induction fu with
    | zero =>
      intro nn hi0 hfu ls hl
      exact absurd hfu (by omega)
    | succ fu ih =>
      intro nn hi0 hfu ls hl
      refine lv_iload hx hb dX5_easterOf_83 (lv_at hl 0 rfl) ?_
      have hh1 := c_X5_weekdayOf l nn (by omega)
      refine vp_callSi (va_Run.run (va_runS (As := [.int (zi nn)]) (rest := []) ⟨hx, hb, hml, hown, hts⟩ hh1 (va_cwS 1 hts gX5_easterOf_X5_weekdayOf rfl rfl rfl (by decide +kernel) ⟨Nat.le_of_ble_eq_true rfl, Nat.le_of_ble_eq_true rfl⟩) ⟨fun a U g mk q => q, fun U hU hW => ⟨rfl, trivial⟩⟩ rfl rfl hl.1 rfl (lv_room (Nat.le_of_ble_eq_true rfl)) dX5_easterOf_85 ⟨Nat.zero_le _, Nat.zero_le _⟩)) (fun r1 (hr1 : r1 = zi (f_X5_weekdayOf nn)) => ?_)
      subst hr1
      have hf1 := b_X5_weekdayOf nn (by omega)
      refine zw_bipush hx hb dX5_easterOf_88 (by decide) ?_
      refine zw_icmp_eq (tgt := 99) hx hb dX5_easterOf_90 (by decide) ⟨by omega, by omega⟩ ⟨by omega, by omega⟩ (fun h2 => ?_) (fun h2 => ?_)
      · skip
        refine lv_iload hx hb dX5_easterOf_99 (lv_at hl 0 rfl) ?_
        exact W.iret (v := zi nn) hx hb hr (fun t ht hW => ⟨zi nn, rfl, by rw [lp_X5_easterOf, if_pos h2], ht⟩) (fun q h => by cases h) dX5_easterOf_101
      · skip
        obtain ⟨x3, ex3⟩ : ∃ z : Int, z = nn + 1 := ⟨_, rfl⟩
        refine zw_iinc (lv' := [(5, .int (zi x3)), (0, .int (zi ya))]) (k := 0) hx hb ex3 dX5_easterOf_93 hl rfl (by decide) rfl (fun ls hl => ?_)
        refine lv_goto (tgt := 83) hx hb dX5_easterOf_96 (by decide) ?_
        subst ex3
        rw [show lp_X5_easterOf ya (fu + 1) nn = lp_X5_easterOf ya fu (nn + 1) from by rw [lp_X5_easterOf, if_neg h2]]
        exact ih (nn + 1) (by omega) (by omega) ls (lv_sub hl [0, 1] rfl)
  have hl := lv_entry ([.int (zi ya)]) (n := 6) (Nat.le_of_ble_eq_true rfl)
  rw [lg_entry_eq]
  generalize (lg_sl ([.int (zi ya)]) ++ List.replicate (6 - (lg_sl ([.int (zi ya)])).length) Slot.unset).toArray = ls at hl ⊢
  have hl : lv_has ls 6 [(0, .int (zi ya))] := hl
  refine lv_iload_n hx hb dX5_easterOf_0 rfl (lv_at hl 0 rfl) ?_
  refine zw_bipush hx hb dX5_easterOf_1 (by decide) ?_
  refine zw_irem hx hb dX5_easterOf_3 (by omega) ⟨by omega, by omega⟩ ⟨by omega, by omega⟩ (by omega) ?_
  refine zw_top (fun x501 ex501 => ?_)
  refine lv_istore_n (lv' := [(1, .int (zi x501)), (0, .int (zi ya))]) hx hb dX5_easterOf_4 rfl hl (by decide) rfl (fun ls hl => ?_)
  refine lv_iload_n hx hb dX5_easterOf_5 rfl (lv_at hl 1 rfl) ?_
  refine zw_bipush hx hb dX5_easterOf_6 (by decide) ?_
  refine zw_idiv hx hb dX5_easterOf_8 (by omega) ⟨by omega, by omega⟩ ⟨by omega, by omega⟩ (by omega) ?_
  refine zw_top (fun x502 ex502 => ?_)
  refine lv_istore_n (lv' := [(2, .int (zi x502)), (1, .int (zi x501)), (0, .int (zi ya))]) hx hb dX5_easterOf_9 rfl hl (by decide) rfl (fun ls hl => ?_)
  refine lv_iload_n hx hb dX5_easterOf_10 rfl (lv_at hl 0 rfl) ?_
  refine lv_iload_n hx hb dX5_easterOf_11 rfl (lv_at hl 0 rfl) ?_
  refine zw_iconst hx hb dX5_easterOf_12 ?_
  refine zw_idiv hx hb dX5_easterOf_13 (by omega) ⟨by omega, by omega⟩ ⟨by omega, by omega⟩ (by omega) ?_
  refine zw_isub hx hb dX5_easterOf_14 ?_
  refine zw_bipush hx hb dX5_easterOf_15 (by decide) ?_
  refine lv_iload_n hx hb dX5_easterOf_17 rfl (lv_at hl 0 rfl) ?_
  refine zw_imul hx hb dX5_easterOf_18 ?_
  refine zw_bipush hx hb dX5_easterOf_19 (by decide) ?_
  refine zw_iadd hx hb dX5_easterOf_21 ?_
  refine zw_bipush hx hb dX5_easterOf_22 (by decide) ?_
  refine zw_idiv hx hb dX5_easterOf_24 (by omega) ⟨by omega, by omega⟩ ⟨by omega, by omega⟩ (by omega) ?_
  refine zw_isub hx hb dX5_easterOf_25 ?_
  refine zw_bipush hx hb dX5_easterOf_26 (by decide) ?_
  refine lv_iload_n hx hb dX5_easterOf_28 rfl (lv_at hl 1 rfl) ?_
  refine zw_imul hx hb dX5_easterOf_29 ?_
  refine zw_iadd hx hb dX5_easterOf_30 ?_
  refine zw_bipush hx hb dX5_easterOf_31 (by decide) ?_
  refine zw_iadd hx hb dX5_easterOf_33 ?_
  refine zw_bipush hx hb dX5_easterOf_34 (by decide) ?_
  refine zw_irem hx hb dX5_easterOf_36 (by omega) ⟨by omega, by omega⟩ ⟨by omega, by omega⟩ (by omega) ?_
  refine zw_top (fun x503 ex503 => ?_)
  refine lv_istore_n (lv' := [(3, .int (zi x503)), (2, .int (zi x502)), (1, .int (zi x501)), (0, .int (zi ya))]) hx hb dX5_easterOf_37 rfl hl (by decide) rfl (fun ls hl => ?_)
  refine lv_iload_n hx hb dX5_easterOf_38 rfl (lv_at hl 0 rfl) ?_
  refine zw_bipush hx hb dX5_easterOf_39 (by decide) ?_
  refine zw_icmp_ne (tgt := 49) hx hb dX5_easterOf_41 (by decide) ⟨by omega, by omega⟩ ⟨by omega, by omega⟩ (fun h504 => ?_) (fun h504 => ?_)
  · skip
    refine lv_iload_n hx hb dX5_easterOf_49 rfl (lv_at hl 0 rfl) ?_
    refine zw_bipush hx hb dX5_easterOf_50 (by decide) ?_
    refine zw_icmp_ne (tgt := 66) hx hb dX5_easterOf_52 (by decide) ⟨by omega, by omega⟩ ⟨by omega, by omega⟩ (fun h505 => ?_) (fun h505 => ?_)
    · skip
      refine lv_iload_n hx hb dX5_easterOf_66 rfl (lv_at hl 0 rfl) ?_
      refine lv_istore (lv' := [(4, .int (zi x503)), (3, .int (zi x503)), (2, .int (zi x502)), (1, .int (zi x501)), (0, .int (zi ya))]) hx hb dX5_easterOf_67 hl (by decide) rfl (fun ls hl => ?_)
      refine lv_iload_n hx hb dX5_easterOf_69 rfl (lv_at hl 4 rfl) ?_
      refine zw_iconst hx hb dX5_easterOf_70 ?_
      refine zw_bipush hx hb dX5_easterOf_71 (by decide) ?_
      have hh506 := c_X5_numberOf l ya 3 21 (by omega) (by omega) (by omega)
      refine vp_callSi (va_Run.run (va_runS (As := [.int (zi ya), .int (zi 3), .int (zi 21)]) (rest := []) ⟨hx, hb, hml, hown, hts⟩ hh506 (va_cwS 3 hts gX5_easterOf_X5_numberOf rfl rfl rfl (by decide +kernel) ⟨Nat.le_of_ble_eq_true rfl, Nat.le_of_ble_eq_true rfl⟩) ⟨fun a U g mk q => q, fun U hU hW => ⟨rfl, trivial⟩⟩ rfl rfl hl.1 rfl (lv_room (Nat.le_of_ble_eq_true rfl)) dX5_easterOf_73 ⟨Nat.zero_le _, Nat.zero_le _⟩)) (fun r506 (hr506 : r506 = zi (f_X5_numberOf ya 3 21)) => ?_)
      subst hr506
      have hf506 := b_X5_numberOf ya 3 21 (by omega) (by omega) (by omega)
      refine lv_iload hx hb dX5_easterOf_76 (lv_at hl 0 rfl) ?_
      refine zw_iadd hx hb dX5_easterOf_78 ?_
      refine zw_iconst hx hb dX5_easterOf_79 ?_
      refine zw_iadd hx hb dX5_easterOf_80 ?_
      refine zw_top (fun x507 ex507 => ?_)
      refine lv_istore (lv' := [(5, .int (zi x507)), (4, .int (zi x503)), (3, .int (zi x503)), (2, .int (zi x502)), (1, .int (zi x501)), (0, .int (zi ya))]) hx hb dX5_easterOf_81 hl (by decide) rfl (fun ls hl => ?_)
      subst ex501 ex502 ex503 ex507
      rw [show f_X5_easterOf ya = lp_X5_easterOf ya (7) (((f_X5_numberOf ya 3 21) + ((((((ya / 100) - ((ya / 100) / 4)) - (((8 * (ya / 100)) + 13) / 25)) + (19 * (ya % 19))) + 15) % 30)) + 1) from by rw [f_X5_easterOf, if_neg h504, if_neg h505]]
      exact loop (7) (((f_X5_numberOf ya 3 21) + ((((((ya / 100) - ((ya / 100) / 4)) - (((8 * (ya / 100)) + 13) / 25)) + (19 * (ya % 19))) + 15) % 30)) + 1) (by omega) (by omega) ls (lv_sub hl [0, 5] rfl)
    · skip
      refine lv_iload_n hx hb dX5_easterOf_55 rfl (lv_at hl 2 rfl) ?_
      refine zw_bipush hx hb dX5_easterOf_56 (by decide) ?_
      refine zw_icmp_le (tgt := 66) hx hb dX5_easterOf_58 (by decide) ⟨by omega, by omega⟩ ⟨by omega, by omega⟩ (fun h508 => ?_) (fun h508 => ?_)
      · skip
        refine lv_iload_n hx hb dX5_easterOf_66 rfl (lv_at hl 0 rfl) ?_
        refine lv_istore (lv' := [(4, .int (zi x503)), (3, .int (zi x503)), (2, .int (zi x502)), (1, .int (zi x501)), (0, .int (zi ya))]) hx hb dX5_easterOf_67 hl (by decide) rfl (fun ls hl => ?_)
        refine lv_iload_n hx hb dX5_easterOf_69 rfl (lv_at hl 4 rfl) ?_
        refine zw_iconst hx hb dX5_easterOf_70 ?_
        refine zw_bipush hx hb dX5_easterOf_71 (by decide) ?_
        have hh509 := c_X5_numberOf l ya 3 21 (by omega) (by omega) (by omega)
        refine vp_callSi (va_Run.run (va_runS (As := [.int (zi ya), .int (zi 3), .int (zi 21)]) (rest := []) ⟨hx, hb, hml, hown, hts⟩ hh509 (va_cwS 3 hts gX5_easterOf_X5_numberOf rfl rfl rfl (by decide +kernel) ⟨Nat.le_of_ble_eq_true rfl, Nat.le_of_ble_eq_true rfl⟩) ⟨fun a U g mk q => q, fun U hU hW => ⟨rfl, trivial⟩⟩ rfl rfl hl.1 rfl (lv_room (Nat.le_of_ble_eq_true rfl)) dX5_easterOf_73 ⟨Nat.zero_le _, Nat.zero_le _⟩)) (fun r509 (hr509 : r509 = zi (f_X5_numberOf ya 3 21)) => ?_)
        subst hr509
        have hf509 := b_X5_numberOf ya 3 21 (by omega) (by omega) (by omega)
        refine lv_iload hx hb dX5_easterOf_76 (lv_at hl 0 rfl) ?_
        refine zw_iadd hx hb dX5_easterOf_78 ?_
        refine zw_iconst hx hb dX5_easterOf_79 ?_
        refine zw_iadd hx hb dX5_easterOf_80 ?_
        refine zw_top (fun x510 ex510 => ?_)
        refine lv_istore (lv' := [(5, .int (zi x510)), (4, .int (zi x503)), (3, .int (zi x503)), (2, .int (zi x502)), (1, .int (zi x501)), (0, .int (zi ya))]) hx hb dX5_easterOf_81 hl (by decide) rfl (fun ls hl => ?_)
        subst ex501 ex502 ex503 ex510
        rw [show f_X5_easterOf ya = lp_X5_easterOf ya (7) (((f_X5_numberOf ya 3 21) + ((((((ya / 100) - ((ya / 100) / 4)) - (((8 * (ya / 100)) + 13) / 25)) + (19 * (ya % 19))) + 15) % 30)) + 1) from by rw [f_X5_easterOf, if_neg h504, if_pos h505, if_pos h508]]
        exact loop (7) (((f_X5_numberOf ya 3 21) + ((((((ya / 100) - ((ya / 100) / 4)) - (((8 * (ya / 100)) + 13) / 25)) + (19 * (ya % 19))) + 15) % 30)) + 1) (by omega) (by omega) ls (lv_sub hl [0, 5] rfl)
      · skip
        refine zw_bipush hx hb dX5_easterOf_61 (by decide) ?_
        refine lv_goto (tgt := 67) hx hb dX5_easterOf_63 (by decide) ?_
        refine lv_istore (lv' := [(4, .int (zi 27)), (3, .int (zi x503)), (2, .int (zi x502)), (1, .int (zi x501)), (0, .int (zi ya))]) hx hb dX5_easterOf_67 hl (by decide) rfl (fun ls hl => ?_)
        refine lv_iload_n hx hb dX5_easterOf_69 rfl (lv_at hl 4 rfl) ?_
        refine zw_iconst hx hb dX5_easterOf_70 ?_
        refine zw_bipush hx hb dX5_easterOf_71 (by decide) ?_
        have hh511 := c_X5_numberOf l ya 3 21 (by omega) (by omega) (by omega)
        refine vp_callSi (va_Run.run (va_runS (As := [.int (zi ya), .int (zi 3), .int (zi 21)]) (rest := []) ⟨hx, hb, hml, hown, hts⟩ hh511 (va_cwS 3 hts gX5_easterOf_X5_numberOf rfl rfl rfl (by decide +kernel) ⟨Nat.le_of_ble_eq_true rfl, Nat.le_of_ble_eq_true rfl⟩) ⟨fun a U g mk q => q, fun U hU hW => ⟨rfl, trivial⟩⟩ rfl rfl hl.1 rfl (lv_room (Nat.le_of_ble_eq_true rfl)) dX5_easterOf_73 ⟨Nat.zero_le _, Nat.zero_le _⟩)) (fun r511 (hr511 : r511 = zi (f_X5_numberOf ya 3 21)) => ?_)
        subst hr511
        have hf511 := b_X5_numberOf ya 3 21 (by omega) (by omega) (by omega)
        refine lv_iload hx hb dX5_easterOf_76 (lv_at hl 0 rfl) ?_
        refine zw_iadd hx hb dX5_easterOf_78 ?_
        refine zw_iconst hx hb dX5_easterOf_79 ?_
        refine zw_iadd hx hb dX5_easterOf_80 ?_
        refine zw_top (fun x512 ex512 => ?_)
        refine lv_istore (lv' := [(5, .int (zi x512)), (4, .int (zi 27)), (3, .int (zi x503)), (2, .int (zi x502)), (1, .int (zi x501)), (0, .int (zi ya))]) hx hb dX5_easterOf_81 hl (by decide) rfl (fun ls hl => ?_)
        subst ex501 ex502 ex503 ex512
        rw [show f_X5_easterOf ya = lp_X5_easterOf ya (7) (((f_X5_numberOf ya 3 21) + 27) + 1) from by rw [f_X5_easterOf, if_neg h504, if_pos h505, if_neg (Int.not_le.mpr h508)]]
        exact loop (7) (((f_X5_numberOf ya 3 21) + 27) + 1) (by omega) (by omega) ls (lv_sub hl [0, 5] rfl)
  · skip
    refine zw_bipush hx hb dX5_easterOf_44 (by decide) ?_
    refine lv_goto (tgt := 67) hx hb dX5_easterOf_46 (by decide) ?_
    refine lv_istore (lv' := [(4, .int (zi 28)), (3, .int (zi x503)), (2, .int (zi x502)), (1, .int (zi x501)), (0, .int (zi ya))]) hx hb dX5_easterOf_67 hl (by decide) rfl (fun ls hl => ?_)
    refine lv_iload_n hx hb dX5_easterOf_69 rfl (lv_at hl 4 rfl) ?_
    refine zw_iconst hx hb dX5_easterOf_70 ?_
    refine zw_bipush hx hb dX5_easterOf_71 (by decide) ?_
    have hh513 := c_X5_numberOf l ya 3 21 (by omega) (by omega) (by omega)
    refine vp_callSi (va_Run.run (va_runS (As := [.int (zi ya), .int (zi 3), .int (zi 21)]) (rest := []) ⟨hx, hb, hml, hown, hts⟩ hh513 (va_cwS 3 hts gX5_easterOf_X5_numberOf rfl rfl rfl (by decide +kernel) ⟨Nat.le_of_ble_eq_true rfl, Nat.le_of_ble_eq_true rfl⟩) ⟨fun a U g mk q => q, fun U hU hW => ⟨rfl, trivial⟩⟩ rfl rfl hl.1 rfl (lv_room (Nat.le_of_ble_eq_true rfl)) dX5_easterOf_73 ⟨Nat.zero_le _, Nat.zero_le _⟩)) (fun r513 (hr513 : r513 = zi (f_X5_numberOf ya 3 21)) => ?_)
    subst hr513
    have hf513 := b_X5_numberOf ya 3 21 (by omega) (by omega) (by omega)
    refine lv_iload hx hb dX5_easterOf_76 (lv_at hl 0 rfl) ?_
    refine zw_iadd hx hb dX5_easterOf_78 ?_
    refine zw_iconst hx hb dX5_easterOf_79 ?_
    refine zw_iadd hx hb dX5_easterOf_80 ?_
    refine zw_top (fun x514 ex514 => ?_)
    refine lv_istore (lv' := [(5, .int (zi x514)), (4, .int (zi 28)), (3, .int (zi x503)), (2, .int (zi x502)), (1, .int (zi x501)), (0, .int (zi ya))]) hx hb dX5_easterOf_81 hl (by decide) rfl (fun ls hl => ?_)
    subst ex501 ex502 ex503 ex514
    rw [show f_X5_easterOf ya = lp_X5_easterOf ya (7) (((f_X5_numberOf ya 3 21) + 28) + 1) from by rw [f_X5_easterOf, if_pos h504]]
    exact loop (7) (((f_X5_numberOf ya 3 21) + 28) + 1) (by omega) (by omega) ls (lv_sub hl [0, 5] rfl)

set_option maxHeartbeats 4000000 in
set_option maxRecDepth 100000 in
theorem c_X5_nthOf (l : Launch) (ya : Int) (mo : Int) (wd : Int) (nn : Int) (hp0 : 1 ≤ ya ∧ ya ≤ 9999) (hp1 : 1 ≤ mo ∧ mo ≤ 12) (hp2 : 1 ≤ wd ∧ wd ≤ 7) (hp3 : -2147483648 ≤ nn ∧ nn ≤ 2147483647 ∧ nn ≠ 0) : Met l yX5_nthOf wsX5_nthOf ({ frames := 3, cells := 0, slots := 0, locals := 65 }) (va_Pc [.int (zi ya), .int (zi mo), .int (zi wd), .int (zi nn)] (fun _ => True)) (vp_Si (fun r => r = zi (f_X5_nthOf ya mo wd nn))) 0 0 (fun _ => False) := by
  refine Met.ofW (cc := cX5_nthOf) (maxL := 8) (ret := (some .int)) (by decide) rfl ?_
  intro p e s m args below meth c s₁ B hml hv
  obtain ⟨rfl, -⟩ := hv
  have hx := B.exec
  have hb := B.bytes
  have hr := B.returns
  have hts := atoms_spec (ws := wsX5_nthOf) B.pre
  have hown : s.vm.findClass RX5 = some m.cls := findClass_of_methodNamed B.named
  have hlocks := B.notSynchronized
  have loop : ∀ (fu : Nat) (fir : Int) (las : Int) (see : Int) (day : Int), (0 ≤ fir ∧ fir ≤ 4000000 ∧ fir ≤ las ∧ las ≤ fir + 31) → (fir - 1 ≤ day ∧ day ≤ las + 1) → (0 ≤ see ∧ (0 < nn ∧ see ≤ day - fir ∨ nn ≤ 0 ∧ see ≤ las - day)) → (0 < nn ∧ las + 1 - day < fu ∨ nn ≤ 0 ∧ day + 1 - fir < fu) → ∀ ls : Array Slot, lv_has ls 8 [(4, .int (zi fir)), (5, .int (zi las)), (6, .int (zi see)), (7, .int (zi day)), (0, .int (zi ya)), (1, .int (zi mo)), (2, .int (zi wd)), (3, .int (zi nn))] → W p l e (headSpec wsX5_nthOf ({ frames := 3, cells := 0, slots := 0, locals := 65 })).room s m ([.int (zi ya), .int (zi mo), .int (zi wd), .int (zi nn)] : List Value).toArray below meth c s.heap [] 0 0 (MQ below (vp_Si (fun r => r = zi (lp_X5_nthOf ya mo wd nn fu fir las see day))) ([.int (zi ya), .int (zi mo), .int (zi wd), .int (zi nn)] : List Value).toArray s 0 0 (fun _ => False)) (F0 m 36 ls []) := by
    intro fu
    induction fu with
    | zero =>
      intro fir las see day hi0 hi1 hi2 hfu ls hl
      exact absurd hfu (by omega)
    | succ fu ih =>
      intro fir las see day hi0 hi1 hi2 hfu ls hl
      refine lv_iload hx hb dX5_nthOf_36 (lv_at hl 3 rfl) ?_
      refine lv_iload hx hb dX5_nthOf_38 (lv_at hl 0 rfl) ?_
      refine zw_icmp_lt (tgt := 118) hx hb dX5_nthOf_40 (by decide) ⟨by omega, by omega⟩ ⟨by omega, by omega⟩ (fun h1 => ?_) (fun h1 => ?_)
      · skip
        refine zw_iconst hx hb dX5_nthOf_118 ?_
        exact W.iret (v := zi (-1)) hx hb hr (fun t ht hW => ⟨zi (-1), rfl, by rw [lp_X5_nthOf, if_pos h1], ht⟩) (fun q h => by cases h) dX5_nthOf_119
      · skip
        refine lv_iload hx hb dX5_nthOf_43 (lv_at hl 3 rfl) ?_
        refine lv_iload hx hb dX5_nthOf_45 (lv_at hl 1 rfl) ?_
        refine zw_icmp_gt (tgt := 118) hx hb dX5_nthOf_47 (by decide) ⟨by omega, by omega⟩ ⟨by omega, by omega⟩ (fun h2 => ?_) (fun h2 => ?_)
        · skip
          refine zw_iconst hx hb dX5_nthOf_118 ?_
          exact W.iret (v := zi (-1)) hx hb hr (fun t ht hW => ⟨zi (-1), rfl, by rw [lp_X5_nthOf, if_neg (Int.not_lt.mpr h1), if_neg (Int.not_le.mpr h2)], ht⟩) (fun q h => by cases h) dX5_nthOf_119
        · skip
          refine lv_iload hx hb dX5_nthOf_50 (lv_at hl 2 rfl) ?_
          refine lv_iload hx hb dX5_nthOf_52 (lv_at hl 3 rfl) ?_
          have hh3 := c_X5_weekdayOf l day (by omega)
          refine vp_callSi (va_Run.run (va_runS (As := [.int (zi day)]) (rest := [.int (zi see)]) ⟨hx, hb, hml, hown, hts⟩ hh3 (va_cwS 1 hts gX5_nthOf_X5_weekdayOf rfl rfl rfl (by decide +kernel) ⟨Nat.le_of_ble_eq_true rfl, Nat.le_of_ble_eq_true rfl⟩) ⟨fun a U g mk q => q, fun U hU hW => ⟨rfl, trivial⟩⟩ rfl rfl hl.1 rfl (lv_room (Nat.le_of_ble_eq_true rfl)) dX5_nthOf_54 ⟨Nat.zero_le _, Nat.zero_le _⟩)) (fun r3 (hr3 : r3 = zi (f_X5_weekdayOf day)) => ?_)
          subst hr3
          have hf3 := b_X5_weekdayOf day (by omega)
          refine lv_iload_n hx hb dX5_nthOf_57 rfl (lv_at hl 6 rfl) ?_
          refine zw_icmp_ne (tgt := 65) hx hb dX5_nthOf_58 (by decide) ⟨by omega, by omega⟩ ⟨by omega, by omega⟩ (fun h4 => ?_) (fun h4 => ?_)
          · skip
            refine zw_iconst hx hb dX5_nthOf_65 ?_
            refine zw_iadd hx hb dX5_nthOf_66 ?_
            refine zw_top (fun x5 ex5 => ?_)
            refine lv_istore (lv' := [(6, .int (zi x5)), (4, .int (zi fir)), (5, .int (zi las)), (7, .int (zi day)), (0, .int (zi ya)), (1, .int (zi mo)), (2, .int (zi wd)), (3, .int (zi nn))]) hx hb dX5_nthOf_67 hl (by decide) rfl (fun ls hl => ?_)
            refine lv_iload hx hb dX5_nthOf_69 (lv_at hl 3 rfl) ?_
            have hh6 := c_X5_weekdayOf l day (by omega)
            refine vp_callSi (va_Run.run (va_runS (As := [.int (zi day)]) (rest := []) ⟨hx, hb, hml, hown, hts⟩ hh6 (va_cwS 1 hts gX5_nthOf_X5_weekdayOf rfl rfl rfl (by decide +kernel) ⟨Nat.le_of_ble_eq_true rfl, Nat.le_of_ble_eq_true rfl⟩) ⟨fun a U g mk q => q, fun U hU hW => ⟨rfl, trivial⟩⟩ rfl rfl hl.1 rfl (lv_room (Nat.le_of_ble_eq_true rfl)) dX5_nthOf_71 ⟨Nat.zero_le _, Nat.zero_le _⟩)) (fun r6 (hr6 : r6 = zi (f_X5_weekdayOf day)) => ?_)
            subst hr6
            have hf6 := b_X5_weekdayOf day (by omega)
            refine lv_iload_n hx hb dX5_nthOf_74 rfl (lv_at hl 6 rfl) ?_
            refine zw_icmp_ne (tgt := 101) hx hb dX5_nthOf_75 (by decide) ⟨by omega, by omega⟩ ⟨by omega, by omega⟩ (fun h7 => ?_) (fun h7 => ?_)
            · skip
              refine lv_iload hx hb dX5_nthOf_101 (lv_at hl 3 rfl) ?_
              refine lv_iload_n hx hb dX5_nthOf_103 rfl (lv_at hl 7 rfl) ?_
              refine zw_if_le (tgt := 111) hx hb dX5_nthOf_104 (by decide) ⟨by omega, by omega⟩ (fun h8 => ?_) (fun h8 => ?_)
              · skip
                refine zw_iconst hx hb dX5_nthOf_111 ?_
                refine zw_iadd hx hb dX5_nthOf_112 ?_
                refine zw_top (fun x9 ex9 => ?_)
                refine lv_istore (lv' := [(7, .int (zi x9)), (6, .int (zi x5)), (4, .int (zi fir)), (5, .int (zi las)), (0, .int (zi ya)), (1, .int (zi mo)), (2, .int (zi wd)), (3, .int (zi nn))]) hx hb dX5_nthOf_113 hl (by decide) rfl (fun ls hl => ?_)
                refine lv_goto (tgt := 36) hx hb dX5_nthOf_115 (by decide) ?_
                subst ex5 ex9
                rw [show lp_X5_nthOf ya mo wd nn (fu + 1) fir las see day = lp_X5_nthOf ya mo wd nn fu fir las (see + 0) (day + (-1)) from by rw [lp_X5_nthOf, if_neg (Int.not_lt.mpr h1), if_pos h2, if_neg h4, if_neg h7, if_pos h8]]
                exact ih fir las (see + 0) (day + (-1)) (by omega) (by omega) (by omega) (by omega) ls (lv_sub hl [2, 3, 1, 0, 4, 5, 6, 7] rfl)
              · skip
                refine zw_iconst hx hb dX5_nthOf_107 ?_
                refine lv_goto (tgt := 112) hx hb dX5_nthOf_108 (by decide) ?_
                refine zw_iadd hx hb dX5_nthOf_112 ?_
                refine zw_top (fun x10 ex10 => ?_)
                refine lv_istore (lv' := [(7, .int (zi x10)), (6, .int (zi x5)), (4, .int (zi fir)), (5, .int (zi las)), (0, .int (zi ya)), (1, .int (zi mo)), (2, .int (zi wd)), (3, .int (zi nn))]) hx hb dX5_nthOf_113 hl (by decide) rfl (fun ls hl => ?_)
                refine lv_goto (tgt := 36) hx hb dX5_nthOf_115 (by decide) ?_
                subst ex5 ex10
                rw [show lp_X5_nthOf ya mo wd nn (fu + 1) fir las see day = lp_X5_nthOf ya mo wd nn fu fir las (see + 0) (day + 1) from by rw [lp_X5_nthOf, if_neg (Int.not_lt.mpr h1), if_pos h2, if_neg h4, if_neg h7, if_neg (Int.not_le.mpr h8)]]
                exact ih fir las (see + 0) (day + 1) (by omega) (by omega) (by omega) (by omega) ls (lv_sub hl [2, 3, 1, 0, 4, 5, 6, 7] rfl)
            · skip
              refine lv_iload_n hx hb dX5_nthOf_78 rfl (lv_at hl 7 rfl) ?_
              refine zw_if_le (tgt := 91) hx hb dX5_nthOf_79 (by decide) ⟨by omega, by omega⟩ (fun h11 => ?_) (fun h11 => ?_)
              · skip
                refine lv_iload hx hb dX5_nthOf_91 (lv_at hl 0 rfl) ?_
                refine zw_ineg hx hb dX5_nthOf_93 ?_
                refine lv_iload_n hx hb dX5_nthOf_94 rfl (lv_at hl 7 rfl) ?_
                refine zw_icmp_ne (tgt := 101) hx hb dX5_nthOf_95 (by decide) ⟨by omega, by omega⟩ ⟨by omega, by omega⟩ (fun h12 => ?_) (fun h12 => ?_)
                · skip
                  refine lv_iload hx hb dX5_nthOf_101 (lv_at hl 3 rfl) ?_
                  refine lv_iload_n hx hb dX5_nthOf_103 rfl (lv_at hl 7 rfl) ?_
                  refine zw_if_le (tgt := 111) hx hb dX5_nthOf_104 (by decide) ⟨by omega, by omega⟩ (fun h13 => ?_) (fun h13 => ?_)
                  · skip
                    refine zw_iconst hx hb dX5_nthOf_111 ?_
                    refine zw_iadd hx hb dX5_nthOf_112 ?_
                    refine zw_top (fun x14 ex14 => ?_)
                    refine lv_istore (lv' := [(7, .int (zi x14)), (6, .int (zi x5)), (4, .int (zi fir)), (5, .int (zi las)), (0, .int (zi ya)), (1, .int (zi mo)), (2, .int (zi wd)), (3, .int (zi nn))]) hx hb dX5_nthOf_113 hl (by decide) rfl (fun ls hl => ?_)
                    refine lv_goto (tgt := 36) hx hb dX5_nthOf_115 (by decide) ?_
                    subst ex5 ex14
                    rw [show lp_X5_nthOf ya mo wd nn (fu + 1) fir las see day = lp_X5_nthOf ya mo wd nn fu fir las (see + 0) (day + (-1)) from by rw [lp_X5_nthOf, if_neg (Int.not_lt.mpr h1), if_pos h2, if_neg h4, if_pos h7, if_pos h11, if_neg h12, if_pos h13]]
                    exact ih fir las (see + 0) (day + (-1)) (by omega) (by omega) (by omega) (by omega) ls (lv_sub hl [2, 3, 1, 0, 4, 5, 6, 7] rfl)
                  · skip
                    refine zw_iconst hx hb dX5_nthOf_107 ?_
                    refine lv_goto (tgt := 112) hx hb dX5_nthOf_108 (by decide) ?_
                    refine zw_iadd hx hb dX5_nthOf_112 ?_
                    refine zw_top (fun x15 ex15 => ?_)
                    refine lv_istore (lv' := [(7, .int (zi x15)), (6, .int (zi x5)), (4, .int (zi fir)), (5, .int (zi las)), (0, .int (zi ya)), (1, .int (zi mo)), (2, .int (zi wd)), (3, .int (zi nn))]) hx hb dX5_nthOf_113 hl (by decide) rfl (fun ls hl => ?_)
                    refine lv_goto (tgt := 36) hx hb dX5_nthOf_115 (by decide) ?_
                    subst ex5 ex15
                    rw [show lp_X5_nthOf ya mo wd nn (fu + 1) fir las see day = lp_X5_nthOf ya mo wd nn fu fir las (see + 0) (day + 1) from by rw [lp_X5_nthOf, if_neg (Int.not_lt.mpr h1), if_pos h2, if_neg h4, if_pos h7, if_pos h11, if_neg h12, if_neg (Int.not_le.mpr h13)]]
                    exact ih fir las (see + 0) (day + 1) (by omega) (by omega) (by omega) (by omega) ls (lv_sub hl [2, 3, 1, 0, 4, 5, 6, 7] rfl)
                · skip
                  refine lv_iload hx hb dX5_nthOf_98 (lv_at hl 3 rfl) ?_
                  subst ex5
                  exact W.iret (v := zi day) hx hb hr (fun t ht hW => ⟨zi day, rfl, by rw [lp_X5_nthOf, if_neg (Int.not_lt.mpr h1), if_pos h2, if_neg h4, if_pos h7, if_pos h11, if_pos h12], ht⟩) (fun q h => by cases h) dX5_nthOf_100
              · skip
                refine lv_iload hx hb dX5_nthOf_82 (lv_at hl 0 rfl) ?_
                refine lv_iload_n hx hb dX5_nthOf_84 rfl (lv_at hl 7 rfl) ?_
                refine zw_icmp_ne (tgt := 101) hx hb dX5_nthOf_85 (by decide) ⟨by omega, by omega⟩ ⟨by omega, by omega⟩ (fun h16 => ?_) (fun h16 => ?_)
                · skip
                  refine lv_iload hx hb dX5_nthOf_101 (lv_at hl 3 rfl) ?_
                  refine lv_iload_n hx hb dX5_nthOf_103 rfl (lv_at hl 7 rfl) ?_
                  refine zw_if_le (tgt := 111) hx hb dX5_nthOf_104 (by decide) ⟨by omega, by omega⟩ (fun h17 => ?_) (fun h17 => ?_)
                  · skip
                    refine zw_iconst hx hb dX5_nthOf_111 ?_
                    refine zw_iadd hx hb dX5_nthOf_112 ?_
                    refine zw_top (fun x18 ex18 => ?_)
                    refine lv_istore (lv' := [(7, .int (zi x18)), (6, .int (zi x5)), (4, .int (zi fir)), (5, .int (zi las)), (0, .int (zi ya)), (1, .int (zi mo)), (2, .int (zi wd)), (3, .int (zi nn))]) hx hb dX5_nthOf_113 hl (by decide) rfl (fun ls hl => ?_)
                    refine lv_goto (tgt := 36) hx hb dX5_nthOf_115 (by decide) ?_
                    subst ex5 ex18
                    rw [show lp_X5_nthOf ya mo wd nn (fu + 1) fir las see day = lp_X5_nthOf ya mo wd nn fu fir las (see + 0) (day + (-1)) from by rw [lp_X5_nthOf, if_neg (Int.not_lt.mpr h1), if_pos h2, if_neg h4, if_pos h7, if_neg (Int.not_le.mpr h11), if_neg h16, if_pos h17]]
                    exact ih fir las (see + 0) (day + (-1)) (by omega) (by omega) (by omega) (by omega) ls (lv_sub hl [2, 3, 1, 0, 4, 5, 6, 7] rfl)
                  · skip
                    refine zw_iconst hx hb dX5_nthOf_107 ?_
                    refine lv_goto (tgt := 112) hx hb dX5_nthOf_108 (by decide) ?_
                    refine zw_iadd hx hb dX5_nthOf_112 ?_
                    refine zw_top (fun x19 ex19 => ?_)
                    refine lv_istore (lv' := [(7, .int (zi x19)), (6, .int (zi x5)), (4, .int (zi fir)), (5, .int (zi las)), (0, .int (zi ya)), (1, .int (zi mo)), (2, .int (zi wd)), (3, .int (zi nn))]) hx hb dX5_nthOf_113 hl (by decide) rfl (fun ls hl => ?_)
                    refine lv_goto (tgt := 36) hx hb dX5_nthOf_115 (by decide) ?_
                    subst ex5 ex19
                    rw [show lp_X5_nthOf ya mo wd nn (fu + 1) fir las see day = lp_X5_nthOf ya mo wd nn fu fir las (see + 0) (day + 1) from by rw [lp_X5_nthOf, if_neg (Int.not_lt.mpr h1), if_pos h2, if_neg h4, if_pos h7, if_neg (Int.not_le.mpr h11), if_neg h16, if_neg (Int.not_le.mpr h17)]]
                    exact ih fir las (see + 0) (day + 1) (by omega) (by omega) (by omega) (by omega) ls (lv_sub hl [2, 3, 1, 0, 4, 5, 6, 7] rfl)
                · skip
                  refine lv_goto (tgt := 98) hx hb dX5_nthOf_88 (by decide) ?_
                  refine lv_iload hx hb dX5_nthOf_98 (lv_at hl 3 rfl) ?_
                  subst ex5
                  exact W.iret (v := zi day) hx hb hr (fun t ht hW => ⟨zi day, rfl, by rw [lp_X5_nthOf, if_neg (Int.not_lt.mpr h1), if_pos h2, if_neg h4, if_pos h7, if_neg (Int.not_le.mpr h11), if_pos h16], ht⟩) (fun q h => by cases h) dX5_nthOf_100
          · skip
            refine zw_iconst hx hb dX5_nthOf_61 ?_
            refine lv_goto (tgt := 66) hx hb dX5_nthOf_62 (by decide) ?_
            refine zw_iadd hx hb dX5_nthOf_66 ?_
            refine zw_top (fun x20 ex20 => ?_)
            refine lv_istore (lv' := [(6, .int (zi x20)), (4, .int (zi fir)), (5, .int (zi las)), (7, .int (zi day)), (0, .int (zi ya)), (1, .int (zi mo)), (2, .int (zi wd)), (3, .int (zi nn))]) hx hb dX5_nthOf_67 hl (by decide) rfl (fun ls hl => ?_)
            refine lv_iload hx hb dX5_nthOf_69 (lv_at hl 3 rfl) ?_
            have hh21 := c_X5_weekdayOf l day (by omega)
            refine vp_callSi (va_Run.run (va_runS (As := [.int (zi day)]) (rest := []) ⟨hx, hb, hml, hown, hts⟩ hh21 (va_cwS 1 hts gX5_nthOf_X5_weekdayOf rfl rfl rfl (by decide +kernel) ⟨Nat.le_of_ble_eq_true rfl, Nat.le_of_ble_eq_true rfl⟩) ⟨fun a U g mk q => q, fun U hU hW => ⟨rfl, trivial⟩⟩ rfl rfl hl.1 rfl (lv_room (Nat.le_of_ble_eq_true rfl)) dX5_nthOf_71 ⟨Nat.zero_le _, Nat.zero_le _⟩)) (fun r21 (hr21 : r21 = zi (f_X5_weekdayOf day)) => ?_)
            subst hr21
            have hf21 := b_X5_weekdayOf day (by omega)
            refine lv_iload_n hx hb dX5_nthOf_74 rfl (lv_at hl 6 rfl) ?_
            refine zw_icmp_ne (tgt := 101) hx hb dX5_nthOf_75 (by decide) ⟨by omega, by omega⟩ ⟨by omega, by omega⟩ (fun h22 => ?_) (fun h22 => ?_)
            · skip
              refine lv_iload hx hb dX5_nthOf_101 (lv_at hl 3 rfl) ?_
              refine lv_iload_n hx hb dX5_nthOf_103 rfl (lv_at hl 7 rfl) ?_
              refine zw_if_le (tgt := 111) hx hb dX5_nthOf_104 (by decide) ⟨by omega, by omega⟩ (fun h23 => ?_) (fun h23 => ?_)
              · skip
                refine zw_iconst hx hb dX5_nthOf_111 ?_
                refine zw_iadd hx hb dX5_nthOf_112 ?_
                refine zw_top (fun x24 ex24 => ?_)
                refine lv_istore (lv' := [(7, .int (zi x24)), (6, .int (zi x20)), (4, .int (zi fir)), (5, .int (zi las)), (0, .int (zi ya)), (1, .int (zi mo)), (2, .int (zi wd)), (3, .int (zi nn))]) hx hb dX5_nthOf_113 hl (by decide) rfl (fun ls hl => ?_)
                refine lv_goto (tgt := 36) hx hb dX5_nthOf_115 (by decide) ?_
                subst ex20 ex24
                rw [show lp_X5_nthOf ya mo wd nn (fu + 1) fir las see day = lp_X5_nthOf ya mo wd nn fu fir las (see + 1) (day + (-1)) from by rw [lp_X5_nthOf, if_neg (Int.not_lt.mpr h1), if_pos h2, if_pos h4, if_neg h22, if_pos h23]]
                exact ih fir las (see + 1) (day + (-1)) (by omega) (by omega) (by omega) (by omega) ls (lv_sub hl [2, 3, 1, 0, 4, 5, 6, 7] rfl)
              · skip
                refine zw_iconst hx hb dX5_nthOf_107 ?_
                refine lv_goto (tgt := 112) hx hb dX5_nthOf_108 (by decide) ?_
                refine zw_iadd hx hb dX5_nthOf_112 ?_
                refine zw_top (fun x25 ex25 => ?_)
                refine lv_istore (lv' := [(7, .int (zi x25)), (6, .int (zi x20)), (4, .int (zi fir)), (5, .int (zi las)), (0, .int (zi ya)), (1, .int (zi mo)), (2, .int (zi wd)), (3, .int (zi nn))]) hx hb dX5_nthOf_113 hl (by decide) rfl (fun ls hl => ?_)
                refine lv_goto (tgt := 36) hx hb dX5_nthOf_115 (by decide) ?_
                subst ex20 ex25
                rw [show lp_X5_nthOf ya mo wd nn (fu + 1) fir las see day = lp_X5_nthOf ya mo wd nn fu fir las (see + 1) (day + 1) from by rw [lp_X5_nthOf, if_neg (Int.not_lt.mpr h1), if_pos h2, if_pos h4, if_neg h22, if_neg (Int.not_le.mpr h23)]]
                exact ih fir las (see + 1) (day + 1) (by omega) (by omega) (by omega) (by omega) ls (lv_sub hl [2, 3, 1, 0, 4, 5, 6, 7] rfl)
            · skip
              refine lv_iload_n hx hb dX5_nthOf_78 rfl (lv_at hl 7 rfl) ?_
              refine zw_if_le (tgt := 91) hx hb dX5_nthOf_79 (by decide) ⟨by omega, by omega⟩ (fun h26 => ?_) (fun h26 => ?_)
              · skip
                refine lv_iload hx hb dX5_nthOf_91 (lv_at hl 0 rfl) ?_
                refine zw_ineg hx hb dX5_nthOf_93 ?_
                refine lv_iload_n hx hb dX5_nthOf_94 rfl (lv_at hl 7 rfl) ?_
                refine zw_icmp_ne (tgt := 101) hx hb dX5_nthOf_95 (by decide) ⟨by omega, by omega⟩ ⟨by omega, by omega⟩ (fun h27 => ?_) (fun h27 => ?_)
                · skip
                  refine lv_iload hx hb dX5_nthOf_101 (lv_at hl 3 rfl) ?_
                  refine lv_iload_n hx hb dX5_nthOf_103 rfl (lv_at hl 7 rfl) ?_
                  refine zw_if_le (tgt := 111) hx hb dX5_nthOf_104 (by decide) ⟨by omega, by omega⟩ (fun h28 => ?_) (fun h28 => ?_)
                  · skip
                    refine zw_iconst hx hb dX5_nthOf_111 ?_
                    refine zw_iadd hx hb dX5_nthOf_112 ?_
                    refine zw_top (fun x29 ex29 => ?_)
                    refine lv_istore (lv' := [(7, .int (zi x29)), (6, .int (zi x20)), (4, .int (zi fir)), (5, .int (zi las)), (0, .int (zi ya)), (1, .int (zi mo)), (2, .int (zi wd)), (3, .int (zi nn))]) hx hb dX5_nthOf_113 hl (by decide) rfl (fun ls hl => ?_)
                    refine lv_goto (tgt := 36) hx hb dX5_nthOf_115 (by decide) ?_
                    subst ex20 ex29
                    rw [show lp_X5_nthOf ya mo wd nn (fu + 1) fir las see day = lp_X5_nthOf ya mo wd nn fu fir las (see + 1) (day + (-1)) from by rw [lp_X5_nthOf, if_neg (Int.not_lt.mpr h1), if_pos h2, if_pos h4, if_pos h22, if_pos h26, if_neg h27, if_pos h28]]
                    exact ih fir las (see + 1) (day + (-1)) (by omega) (by omega) (by omega) (by omega) ls (lv_sub hl [2, 3, 1, 0, 4, 5, 6, 7] rfl)
                  · skip
                    refine zw_iconst hx hb dX5_nthOf_107 ?_
                    refine lv_goto (tgt := 112) hx hb dX5_nthOf_108 (by decide) ?_
                    refine zw_iadd hx hb dX5_nthOf_112 ?_
                    refine zw_top (fun x30 ex30 => ?_)
                    refine lv_istore (lv' := [(7, .int (zi x30)), (6, .int (zi x20)), (4, .int (zi fir)), (5, .int (zi las)), (0, .int (zi ya)), (1, .int (zi mo)), (2, .int (zi wd)), (3, .int (zi nn))]) hx hb dX5_nthOf_113 hl (by decide) rfl (fun ls hl => ?_)
                    refine lv_goto (tgt := 36) hx hb dX5_nthOf_115 (by decide) ?_
                    subst ex20 ex30
                    rw [show lp_X5_nthOf ya mo wd nn (fu + 1) fir las see day = lp_X5_nthOf ya mo wd nn fu fir las (see + 1) (day + 1) from by rw [lp_X5_nthOf, if_neg (Int.not_lt.mpr h1), if_pos h2, if_pos h4, if_pos h22, if_pos h26, if_neg h27, if_neg (Int.not_le.mpr h28)]]
                    exact ih fir las (see + 1) (day + 1) (by omega) (by omega) (by omega) (by omega) ls (lv_sub hl [2, 3, 1, 0, 4, 5, 6, 7] rfl)
                · skip
                  refine lv_iload hx hb dX5_nthOf_98 (lv_at hl 3 rfl) ?_
                  subst ex20
                  exact W.iret (v := zi day) hx hb hr (fun t ht hW => ⟨zi day, rfl, by rw [lp_X5_nthOf, if_neg (Int.not_lt.mpr h1), if_pos h2, if_pos h4, if_pos h22, if_pos h26, if_pos h27], ht⟩) (fun q h => by cases h) dX5_nthOf_100
              · skip
                refine lv_iload hx hb dX5_nthOf_82 (lv_at hl 0 rfl) ?_
                refine lv_iload_n hx hb dX5_nthOf_84 rfl (lv_at hl 7 rfl) ?_
                refine zw_icmp_ne (tgt := 101) hx hb dX5_nthOf_85 (by decide) ⟨by omega, by omega⟩ ⟨by omega, by omega⟩ (fun h31 => ?_) (fun h31 => ?_)
                · skip
                  refine lv_iload hx hb dX5_nthOf_101 (lv_at hl 3 rfl) ?_
                  refine lv_iload_n hx hb dX5_nthOf_103 rfl (lv_at hl 7 rfl) ?_
                  refine zw_if_le (tgt := 111) hx hb dX5_nthOf_104 (by decide) ⟨by omega, by omega⟩ (fun h32 => ?_) (fun h32 => ?_)
                  · skip
                    refine zw_iconst hx hb dX5_nthOf_111 ?_
                    refine zw_iadd hx hb dX5_nthOf_112 ?_
                    refine zw_top (fun x33 ex33 => ?_)
                    refine lv_istore (lv' := [(7, .int (zi x33)), (6, .int (zi x20)), (4, .int (zi fir)), (5, .int (zi las)), (0, .int (zi ya)), (1, .int (zi mo)), (2, .int (zi wd)), (3, .int (zi nn))]) hx hb dX5_nthOf_113 hl (by decide) rfl (fun ls hl => ?_)
                    refine lv_goto (tgt := 36) hx hb dX5_nthOf_115 (by decide) ?_
                    subst ex20 ex33
                    rw [show lp_X5_nthOf ya mo wd nn (fu + 1) fir las see day = lp_X5_nthOf ya mo wd nn fu fir las (see + 1) (day + (-1)) from by rw [lp_X5_nthOf, if_neg (Int.not_lt.mpr h1), if_pos h2, if_pos h4, if_pos h22, if_neg (Int.not_le.mpr h26), if_neg h31, if_pos h32]]
                    exact ih fir las (see + 1) (day + (-1)) (by omega) (by omega) (by omega) (by omega) ls (lv_sub hl [2, 3, 1, 0, 4, 5, 6, 7] rfl)
                  · skip
                    refine zw_iconst hx hb dX5_nthOf_107 ?_
                    refine lv_goto (tgt := 112) hx hb dX5_nthOf_108 (by decide) ?_
                    refine zw_iadd hx hb dX5_nthOf_112 ?_
                    refine zw_top (fun x34 ex34 => ?_)
                    refine lv_istore (lv' := [(7, .int (zi x34)), (6, .int (zi x20)), (4, .int (zi fir)), (5, .int (zi las)), (0, .int (zi ya)), (1, .int (zi mo)), (2, .int (zi wd)), (3, .int (zi nn))]) hx hb dX5_nthOf_113 hl (by decide) rfl (fun ls hl => ?_)
                    refine lv_goto (tgt := 36) hx hb dX5_nthOf_115 (by decide) ?_
                    subst ex20 ex34
                    rw [show lp_X5_nthOf ya mo wd nn (fu + 1) fir las see day = lp_X5_nthOf ya mo wd nn fu fir las (see + 1) (day + 1) from by rw [lp_X5_nthOf, if_neg (Int.not_lt.mpr h1), if_pos h2, if_pos h4, if_pos h22, if_neg (Int.not_le.mpr h26), if_neg h31, if_neg (Int.not_le.mpr h32)]]
                    exact ih fir las (see + 1) (day + 1) (by omega) (by omega) (by omega) (by omega) ls (lv_sub hl [2, 3, 1, 0, 4, 5, 6, 7] rfl)
                · skip
                  refine lv_goto (tgt := 98) hx hb dX5_nthOf_88 (by decide) ?_
                  refine lv_iload hx hb dX5_nthOf_98 (lv_at hl 3 rfl) ?_
                  subst ex20
                  exact W.iret (v := zi day) hx hb hr (fun t ht hW => ⟨zi day, rfl, by rw [lp_X5_nthOf, if_neg (Int.not_lt.mpr h1), if_pos h2, if_pos h4, if_pos h22, if_neg (Int.not_le.mpr h26), if_pos h31], ht⟩) (fun q h => by cases h) dX5_nthOf_100
  have hl := lv_entry ([.int (zi ya), .int (zi mo), .int (zi wd), .int (zi nn)]) (n := 8) (Nat.le_of_ble_eq_true rfl)
  rw [lg_entry_eq]
  generalize (lg_sl ([.int (zi ya), .int (zi mo), .int (zi wd), .int (zi nn)]) ++ List.replicate (8 - (lg_sl ([.int (zi ya), .int (zi mo), .int (zi wd), .int (zi nn)])).length) Slot.unset).toArray = ls at hl ⊢
  have hl : lv_has ls 8 [(0, .int (zi ya)), (1, .int (zi mo)), (2, .int (zi wd)), (3, .int (zi nn))] := hl
  refine lv_iload_n hx hb dX5_nthOf_0 rfl (lv_at hl 0 rfl) ?_
  refine lv_iload_n hx hb dX5_nthOf_1 rfl (lv_at hl 1 rfl) ?_
  refine zw_iconst hx hb dX5_nthOf_2 ?_
  have hh501 := c_X5_numberOf l ya mo 1 (by omega) (by omega) (by omega)
  refine vp_callSi (va_Run.run (va_runS (As := [.int (zi ya), .int (zi mo), .int (zi 1)]) (rest := []) ⟨hx, hb, hml, hown, hts⟩ hh501 (va_cwS 3 hts gX5_nthOf_X5_numberOf rfl rfl rfl (by decide +kernel) ⟨Nat.le_of_ble_eq_true rfl, Nat.le_of_ble_eq_true rfl⟩) ⟨fun a U g mk q => q, fun U hU hW => ⟨rfl, trivial⟩⟩ rfl rfl hl.1 rfl (lv_room (Nat.le_of_ble_eq_true rfl)) dX5_nthOf_3 ⟨Nat.zero_le _, Nat.zero_le _⟩)) (fun r501 (hr501 : r501 = zi (f_X5_numberOf ya mo 1)) => ?_)
  subst hr501
  have hf501 := b_X5_numberOf ya mo 1 (by omega) (by omega) (by omega)
  refine zw_top (fun x502 ex502 => ?_)
  refine lv_istore (lv' := [(4, .int (zi x502)), (0, .int (zi ya)), (1, .int (zi mo)), (2, .int (zi wd)), (3, .int (zi nn))]) hx hb dX5_nthOf_6 hl (by decide) rfl (fun ls hl => ?_)
  refine lv_iload hx hb dX5_nthOf_8 (lv_at hl 0 rfl) ?_
  refine lv_iload_n hx hb dX5_nthOf_10 rfl (lv_at hl 1 rfl) ?_
  refine lv_iload_n hx hb dX5_nthOf_11 rfl (lv_at hl 2 rfl) ?_
  have hh503 := c_X5_lengthOf l ya mo (by omega) (by omega)
  refine vp_callSi (va_Run.run (va_runS (As := [.int (zi ya), .int (zi mo)]) (rest := [.int (zi x502)]) ⟨hx, hb, hml, hown, hts⟩ hh503 (va_cwS 2 hts gX5_nthOf_X5_lengthOf rfl rfl rfl (by decide +kernel) ⟨Nat.le_of_ble_eq_true rfl, Nat.le_of_ble_eq_true rfl⟩) ⟨fun a U g mk q => q, fun U hU hW => ⟨rfl, trivial⟩⟩ rfl rfl hl.1 rfl (lv_room (Nat.le_of_ble_eq_true rfl)) dX5_nthOf_12 ⟨Nat.zero_le _, Nat.zero_le _⟩)) (fun r503 (hr503 : r503 = zi (f_X5_lengthOf ya mo)) => ?_)
  subst hr503
  have hf503 := b_X5_lengthOf ya mo (by omega) (by omega)
  refine zw_iadd hx hb dX5_nthOf_15 ?_
  refine zw_iconst hx hb dX5_nthOf_16 ?_
  refine zw_isub hx hb dX5_nthOf_17 ?_
  refine zw_top (fun x504 ex504 => ?_)
  refine lv_istore (lv' := [(5, .int (zi x504)), (4, .int (zi x502)), (0, .int (zi ya)), (1, .int (zi mo)), (2, .int (zi wd)), (3, .int (zi nn))]) hx hb dX5_nthOf_18 hl (by decide) rfl (fun ls hl => ?_)
  refine zw_iconst hx hb dX5_nthOf_20 ?_
  refine lv_istore (lv' := [(6, .int (zi 0)), (5, .int (zi x504)), (4, .int (zi x502)), (0, .int (zi ya)), (1, .int (zi mo)), (2, .int (zi wd)), (3, .int (zi nn))]) hx hb dX5_nthOf_21 hl (by decide) rfl (fun ls hl => ?_)
  refine lv_iload_n hx hb dX5_nthOf_23 rfl (lv_at hl 6 rfl) ?_
  refine zw_if_le (tgt := 32) hx hb dX5_nthOf_24 (by decide) ⟨by omega, by omega⟩ (fun h505 => ?_) (fun h505 => ?_)
  · skip
    refine lv_iload hx hb dX5_nthOf_32 (lv_at hl 1 rfl) ?_
    refine lv_istore (lv' := [(7, .int (zi x504)), (6, .int (zi 0)), (5, .int (zi x504)), (4, .int (zi x502)), (0, .int (zi ya)), (1, .int (zi mo)), (2, .int (zi wd)), (3, .int (zi nn))]) hx hb dX5_nthOf_34 hl (by decide) rfl (fun ls hl => ?_)
    subst ex502 ex504
    rw [show f_X5_nthOf ya mo wd nn = lp_X5_nthOf ya mo wd nn (40) (f_X5_numberOf ya mo 1) (((f_X5_numberOf ya mo 1) + (f_X5_lengthOf ya mo)) - 1) 0 (((f_X5_numberOf ya mo 1) + (f_X5_lengthOf ya mo)) - 1) from by rw [f_X5_nthOf, if_pos h505]]
    exact loop (40) (f_X5_numberOf ya mo 1) (((f_X5_numberOf ya mo 1) + (f_X5_lengthOf ya mo)) - 1) 0 (((f_X5_numberOf ya mo 1) + (f_X5_lengthOf ya mo)) - 1) (by omega) (by omega) (by omega) (by omega) ls (lv_sub hl [3, 2, 1, 0, 4, 5, 6, 7] rfl)
  · skip
    refine lv_iload hx hb dX5_nthOf_27 (lv_at hl 2 rfl) ?_
    refine lv_goto (tgt := 34) hx hb dX5_nthOf_29 (by decide) ?_
    refine lv_istore (lv' := [(7, .int (zi x502)), (6, .int (zi 0)), (5, .int (zi x504)), (4, .int (zi x502)), (0, .int (zi ya)), (1, .int (zi mo)), (2, .int (zi wd)), (3, .int (zi nn))]) hx hb dX5_nthOf_34 hl (by decide) rfl (fun ls hl => ?_)
    subst ex502 ex504
    rw [show f_X5_nthOf ya mo wd nn = lp_X5_nthOf ya mo wd nn (40) (f_X5_numberOf ya mo 1) (((f_X5_numberOf ya mo 1) + (f_X5_lengthOf ya mo)) - 1) 0 (f_X5_numberOf ya mo 1) from by rw [f_X5_nthOf, if_neg (Int.not_le.mpr h505)]]
    exact loop (40) (f_X5_numberOf ya mo 1) (((f_X5_numberOf ya mo 1) + (f_X5_lengthOf ya mo)) - 1) 0 (f_X5_numberOf ya mo 1) (by omega) (by omega) (by omega) (by omega) ls (lv_sub hl [3, 2, 1, 0, 4, 5, 6, 7] rfl)

set_option maxHeartbeats 4000000 in
set_option maxRecDepth 100000 in
theorem c_X5_byMonths (l : Launch) (nu : Int) (many : Int) (hp0 : 0 ≤ nu ∧ nu ≤ 3652058) (hp1 : -30000000000 ≤ many ∧ many ≤ 30000000000) : Met l yX5_byMonths wsX5_byMonths ({ frames := 5, cells := 0, slots := 0, locals := 107 }) (va_Pc [.int (zi nu), .long (zl many)] (fun _ => True)) (vp_Si (fun r => r = zi (f_X5_byMonths nu many))) 0 0 (fun _ => False) := by
  refine Met.ofW (cc := cX5_byMonths) (maxL := 8) (ret := (some .int)) (by decide) rfl ?_
  intro p e s m args below meth c s₁ B hml hv
  obtain ⟨rfl, -⟩ := hv
  have hx := B.exec
  have hb := B.bytes
  have hr := B.returns
  have hts := atoms_spec (ws := wsX5_byMonths) B.pre
  have hown : s.vm.findClass RX5 = some m.cls := findClass_of_methodNamed B.named
  have hlocks := B.notSynchronized
  have hl := lv_entry ([.int (zi nu), .long (zl many)]) (n := 8) (Nat.le_of_ble_eq_true rfl)
  rw [lg_entry_eq]
  generalize (lg_sl ([.int (zi nu), .long (zl many)]) ++ List.replicate (8 - (lg_sl ([.int (zi nu), .long (zl many)])).length) Slot.unset).toArray = ls at hl ⊢
  have hl : lv_has ls 8 [(0, .int (zi nu)), (1, .long (zl many))] := hl
  refine zw_ldc2 (n := 12) hx hb hown (hts (.constantLong RX5 73 (12)) (by decide +kernel)) dX5_byMonths_0 (by decide) ?_
  refine lv_iload_n hx hb dX5_byMonths_3 rfl (lv_at hl 0 rfl) ?_
  have hh1 := c_X5_yearOf l nu (by omega)
  refine vp_callSi (va_Run.run (va_runS (As := [.int (zi nu)]) (rest := [.long (zl 12)]) ⟨hx, hb, hml, hown, hts⟩ hh1 (va_cwS 1 hts gX5_byMonths_X5_yearOf rfl rfl rfl (by decide +kernel) ⟨Nat.le_of_ble_eq_true rfl, Nat.le_of_ble_eq_true rfl⟩) ⟨fun a U g mk q => q, fun U hU hW => ⟨rfl, trivial⟩⟩ rfl rfl hl.1 rfl (lv_room (Nat.le_of_ble_eq_true rfl)) dX5_byMonths_4 ⟨Nat.zero_le _, Nat.zero_le _⟩)) (fun r1 (hr1 : r1 = zi (f_X5_yearOf nu)) => ?_)
  subst hr1
  have hf1 := b_X5_yearOf nu (by omega)
  refine zw_i2l hx hb dX5_byMonths_7 ⟨by omega, by omega⟩ ?_
  refine zw_lmul hx hb dX5_byMonths_8 ?_
  refine lv_iload_n hx hb dX5_byMonths_9 rfl (lv_at hl 0 rfl) ?_
  have hh2 := c_X5_monthOf l nu (by omega)
  refine vp_callSi (va_Run.run (va_runS (As := [.int (zi nu)]) (rest := [.long (zl (12 * (f_X5_yearOf nu)))]) ⟨hx, hb, hml, hown, hts⟩ hh2 (va_cwS 1 hts gX5_byMonths_X5_monthOf rfl rfl rfl (by decide +kernel) ⟨Nat.le_of_ble_eq_true rfl, Nat.le_of_ble_eq_true rfl⟩) ⟨fun a U g mk q => q, fun U hU hW => ⟨rfl, trivial⟩⟩ rfl rfl hl.1 rfl (lv_room (Nat.le_of_ble_eq_true rfl)) dX5_byMonths_10 ⟨Nat.zero_le _, Nat.zero_le _⟩)) (fun r2 (hr2 : r2 = zi (f_X5_monthOf nu)) => ?_)
  subst hr2
  have hf2 := b_X5_monthOf nu (by omega)
  refine zw_i2l hx hb dX5_byMonths_13 ⟨by omega, by omega⟩ ?_
  refine zw_ladd hx hb dX5_byMonths_14 ?_
  refine zw_lconst (v := 1) hx hb dX5_byMonths_15 (by decide) ?_
  refine zw_lsub hx hb dX5_byMonths_16 ?_
  refine lv_lload_n hx hb dX5_byMonths_17 rfl (lv_at hl 1 rfl) ?_
  refine zw_ladd hx hb dX5_byMonths_18 ?_
  refine zw_topl (fun x3 ex3 => ?_)
  refine lv_lstore_n (lv' := [(3, .long (zl x3)), (0, .int (zi nu)), (1, .long (zl many))]) hx hb dX5_byMonths_19 rfl hl (by decide) rfl (fun ls hl => ?_)
  refine lv_lload_n hx hb dX5_byMonths_20 rfl (lv_at hl 0 rfl) ?_
  refine zw_ldc2 (n := 12) hx hb hown (hts (.constantLong RX5 73 (12)) (by decide +kernel)) dX5_byMonths_21 (by decide) ?_
  refine zw_lcmp_lt (tgt := 36) hx hb dX5_byMonths_24 dX5_byMonths_25 (by decide) ⟨by omega, by omega⟩ ⟨by omega, by omega⟩ (fun h4 => ?_) (fun h4 => ?_)
  · skip
    refine zw_iconst hx hb dX5_byMonths_36 ?_
    subst ex3
    exact W.iret (v := zi (-1)) hx hb hr (fun t ht hW => ⟨zi (-1), rfl, by rw [f_X5_byMonths, if_pos h4], ht⟩) (fun q h => by cases h) dX5_byMonths_37
  · skip
    refine lv_lload_n hx hb dX5_byMonths_28 rfl (lv_at hl 0 rfl) ?_
    refine zw_ldc2 (n := 119999) hx hb hown (hts (.constantLong RX5 75 (119999)) (by decide +kernel)) dX5_byMonths_29 (by decide) ?_
    refine zw_lcmp_le (tgt := 38) hx hb dX5_byMonths_32 dX5_byMonths_33 (by decide) ⟨by omega, by omega⟩ ⟨by omega, by omega⟩ (fun h5 => ?_) (fun h5 => ?_)
    · skip
      refine lv_lload_n hx hb dX5_byMonths_38 rfl (lv_at hl 0 rfl) ?_
      refine zw_ldc2 (n := 12) hx hb hown (hts (.constantLong RX5 73 (12)) (by decide +kernel)) dX5_byMonths_39 (by decide) ?_
      refine zw_ldiv hx hb dX5_byMonths_42 (by omega) ⟨by omega, by omega⟩ ⟨by omega, by omega⟩ (by omega) ?_
      refine zw_l2i hx hb dX5_byMonths_43 ?_
      refine zw_top (fun x6 ex6 => ?_)
      refine lv_istore (lv' := [(5, .int (zi x6)), (3, .long (zl x3)), (0, .int (zi nu)), (1, .long (zl many))]) hx hb dX5_byMonths_44 hl (by decide) rfl (fun ls hl => ?_)
      refine lv_lload_n hx hb dX5_byMonths_46 rfl (lv_at hl 1 rfl) ?_
      refine zw_ldc2 (n := 12) hx hb hown (hts (.constantLong RX5 73 (12)) (by decide +kernel)) dX5_byMonths_47 (by decide) ?_
      refine zw_lrem hx hb dX5_byMonths_50 (by omega) ⟨by omega, by omega⟩ ⟨by omega, by omega⟩ (by omega) ?_
      refine zw_l2i hx hb dX5_byMonths_51 ?_
      refine zw_iconst hx hb dX5_byMonths_52 ?_
      refine zw_iadd hx hb dX5_byMonths_53 ?_
      refine zw_top (fun x7 ex7 => ?_)
      refine lv_istore (lv' := [(6, .int (zi x7)), (5, .int (zi x6)), (3, .long (zl x3)), (0, .int (zi nu)), (1, .long (zl many))]) hx hb dX5_byMonths_54 hl (by decide) rfl (fun ls hl => ?_)
      refine lv_iload_n hx hb dX5_byMonths_56 rfl (lv_at hl 3 rfl) ?_
      have hh8 := c_X5_dayOf l nu (by omega)
      refine vp_callSi (va_Run.run (va_runS (As := [.int (zi nu)]) (rest := []) ⟨hx, hb, hml, hown, hts⟩ hh8 (va_cwS 1 hts gX5_byMonths_X5_dayOf rfl rfl rfl (by decide +kernel) ⟨Nat.le_of_ble_eq_true rfl, Nat.le_of_ble_eq_true rfl⟩) ⟨fun a U g mk q => q, fun U hU hW => ⟨rfl, trivial⟩⟩ rfl rfl hl.1 rfl (lv_room (Nat.le_of_ble_eq_true rfl)) dX5_byMonths_57 ⟨Nat.zero_le _, Nat.zero_le _⟩)) (fun r8 (hr8 : r8 = zi (f_X5_dayOf nu)) => ?_)
      subst hr8
      have hf8 := b_X5_dayOf nu (by omega)
      refine zw_top (fun x9 ex9 => ?_)
      refine lv_istore (lv' := [(7, .int (zi x9)), (6, .int (zi x7)), (5, .int (zi x6)), (3, .long (zl x3)), (0, .int (zi nu)), (1, .long (zl many))]) hx hb dX5_byMonths_60 hl (by decide) rfl (fun ls hl => ?_)
      refine lv_iload hx hb dX5_byMonths_62 (lv_at hl 2 rfl) ?_
      refine lv_iload hx hb dX5_byMonths_64 (lv_at hl 1 rfl) ?_
      refine lv_iload hx hb dX5_byMonths_66 (lv_at hl 0 rfl) ?_
      refine lv_iload hx hb dX5_byMonths_68 (lv_at hl 2 rfl) ?_
      refine lv_iload hx hb dX5_byMonths_70 (lv_at hl 1 rfl) ?_
      have hh10 := c_X5_lengthOf l x6 x7 (by omega) (by omega)
      refine vp_callSi (va_Run.run (va_runS (As := [.int (zi x6), .int (zi x7)]) (rest := [.int (zi x9), .int (zi x7), .int (zi x6)]) ⟨hx, hb, hml, hown, hts⟩ hh10 (va_cwS 2 hts gX5_byMonths_X5_lengthOf rfl rfl rfl (by decide +kernel) ⟨Nat.le_of_ble_eq_true rfl, Nat.le_of_ble_eq_true rfl⟩) ⟨fun a U g mk q => q, fun U hU hW => ⟨rfl, trivial⟩⟩ rfl rfl hl.1 rfl (lv_room (Nat.le_of_ble_eq_true rfl)) dX5_byMonths_72 ⟨Nat.zero_le _, Nat.zero_le _⟩)) (fun r10 (hr10 : r10 = zi (f_X5_lengthOf x6 x7)) => ?_)
      subst hr10
      have hf10 := b_X5_lengthOf x6 x7 (by omega) (by omega)
      refine zw_icmp_ge (tgt := 83) hx hb dX5_byMonths_75 (by decide) ⟨by omega, by omega⟩ ⟨by omega, by omega⟩ (fun h11 => ?_) (fun h11 => ?_)
      · skip
        refine lv_iload hx hb dX5_byMonths_83 (lv_at hl 2 rfl) ?_
        refine lv_iload hx hb dX5_byMonths_85 (lv_at hl 1 rfl) ?_
        have hh12 := c_X5_lengthOf l x6 x7 (by omega) (by omega)
        refine vp_callSi (va_Run.run (va_runS (As := [.int (zi x6), .int (zi x7)]) (rest := [.int (zi x7), .int (zi x6)]) ⟨hx, hb, hml, hown, hts⟩ hh12 (va_cwS 2 hts gX5_byMonths_X5_lengthOf rfl rfl rfl (by decide +kernel) ⟨Nat.le_of_ble_eq_true rfl, Nat.le_of_ble_eq_true rfl⟩) ⟨fun a U g mk q => q, fun U hU hW => ⟨rfl, trivial⟩⟩ rfl rfl hl.1 rfl (lv_room (Nat.le_of_ble_eq_true rfl)) dX5_byMonths_87 ⟨Nat.zero_le _, Nat.zero_le _⟩)) (fun r12 (hr12 : r12 = zi (f_X5_lengthOf x6 x7)) => ?_)
        subst hr12
        have hf12 := b_X5_lengthOf x6 x7 (by omega) (by omega)
        have hh13 := c_X5_numberOf l x6 x7 (f_X5_lengthOf x6 x7) (by omega) (by omega) (by omega)
        refine vp_callSi (va_Run.run (va_runS (As := [.int (zi x6), .int (zi x7), .int (zi (f_X5_lengthOf x6 x7))]) (rest := []) ⟨hx, hb, hml, hown, hts⟩ hh13 (va_cwS 3 hts gX5_byMonths_X5_numberOf rfl rfl rfl (by decide +kernel) ⟨Nat.le_of_ble_eq_true rfl, Nat.le_of_ble_eq_true rfl⟩) ⟨fun a U g mk q => q, fun U hU hW => ⟨rfl, trivial⟩⟩ rfl rfl hl.1 rfl (lv_room (Nat.le_of_ble_eq_true rfl)) dX5_byMonths_90 ⟨Nat.zero_le _, Nat.zero_le _⟩)) (fun r13 (hr13 : r13 = zi (f_X5_numberOf x6 x7 (f_X5_lengthOf x6 x7))) => ?_)
        subst hr13
        have hf13 := b_X5_numberOf x6 x7 (f_X5_lengthOf x6 x7) (by omega) (by omega) (by omega)
        subst ex3 ex6 ex7 ex9
        exact W.iret (v := zi (f_X5_numberOf (((((12 * (f_X5_yearOf nu)) + (f_X5_monthOf nu)) - 1) + many) / 12) ((((((12 * (f_X5_yearOf nu)) + (f_X5_monthOf nu)) - 1) + many) % 12) + 1) (f_X5_lengthOf (((((12 * (f_X5_yearOf nu)) + (f_X5_monthOf nu)) - 1) + many) / 12) ((((((12 * (f_X5_yearOf nu)) + (f_X5_monthOf nu)) - 1) + many) % 12) + 1)))) hx hb hr (fun t ht hW => ⟨zi (f_X5_numberOf (((((12 * (f_X5_yearOf nu)) + (f_X5_monthOf nu)) - 1) + many) / 12) ((((((12 * (f_X5_yearOf nu)) + (f_X5_monthOf nu)) - 1) + many) % 12) + 1) (f_X5_lengthOf (((((12 * (f_X5_yearOf nu)) + (f_X5_monthOf nu)) - 1) + many) / 12) ((((((12 * (f_X5_yearOf nu)) + (f_X5_monthOf nu)) - 1) + many) % 12) + 1))), rfl, by rw [f_X5_byMonths, if_neg (Int.not_lt.mpr h4), if_pos h5, if_neg (Int.not_lt.mpr h11)], ht⟩) (fun q h => by cases h) dX5_byMonths_93
      · skip
        refine lv_iload hx hb dX5_byMonths_78 (lv_at hl 0 rfl) ?_
        refine lv_goto (tgt := 90) hx hb dX5_byMonths_80 (by decide) ?_
        have hh14 := c_X5_numberOf l x6 x7 x9 (by omega) (by omega) (by omega)
        refine vp_callSi (va_Run.run (va_runS (As := [.int (zi x6), .int (zi x7), .int (zi x9)]) (rest := []) ⟨hx, hb, hml, hown, hts⟩ hh14 (va_cwS 3 hts gX5_byMonths_X5_numberOf rfl rfl rfl (by decide +kernel) ⟨Nat.le_of_ble_eq_true rfl, Nat.le_of_ble_eq_true rfl⟩) ⟨fun a U g mk q => q, fun U hU hW => ⟨rfl, trivial⟩⟩ rfl rfl hl.1 rfl (lv_room (Nat.le_of_ble_eq_true rfl)) dX5_byMonths_90 ⟨Nat.zero_le _, Nat.zero_le _⟩)) (fun r14 (hr14 : r14 = zi (f_X5_numberOf x6 x7 x9)) => ?_)
        subst hr14
        have hf14 := b_X5_numberOf x6 x7 x9 (by omega) (by omega) (by omega)
        subst ex3 ex6 ex7 ex9
        exact W.iret (v := zi (f_X5_numberOf (((((12 * (f_X5_yearOf nu)) + (f_X5_monthOf nu)) - 1) + many) / 12) ((((((12 * (f_X5_yearOf nu)) + (f_X5_monthOf nu)) - 1) + many) % 12) + 1) (f_X5_dayOf nu))) hx hb hr (fun t ht hW => ⟨zi (f_X5_numberOf (((((12 * (f_X5_yearOf nu)) + (f_X5_monthOf nu)) - 1) + many) / 12) ((((((12 * (f_X5_yearOf nu)) + (f_X5_monthOf nu)) - 1) + many) % 12) + 1) (f_X5_dayOf nu)), rfl, by rw [f_X5_byMonths, if_neg (Int.not_lt.mpr h4), if_pos h5, if_pos h11], ht⟩) (fun q h => by cases h) dX5_byMonths_93
    · skip
      refine zw_iconst hx hb dX5_byMonths_36 ?_
      subst ex3
      exact W.iret (v := zi (-1)) hx hb hr (fun t ht hW => ⟨zi (-1), rfl, by rw [f_X5_byMonths, if_neg (Int.not_lt.mpr h4), if_neg (Int.not_le.mpr h5)], ht⟩) (fun q h => by cases h) dX5_byMonths_37

set_option maxHeartbeats 4000000 in
set_option maxRecDepth 100000 in
theorem c_X5_wholes_1 (l : Launch) (fro : Int) (too : Int) (hp0 : 0 ≤ fro ∧ fro ≤ too ∧ too ≤ 3652058) : Met l yX5_wholes wsX5_wholes ({ frames := 6, cells := 0, slots := 0, locals := 134 }) (va_Pc [.int (zi fro), .int (zi too), .int (zi 1)] (fun _ => True)) (vp_Si (fun r => r = zi (f_X5_wholes_1 fro too))) 0 0 (fun _ => False) := by
  refine Met.ofW (cc := cX5_wholes) (maxL := 5) (ret := (some .int)) (by decide) rfl ?_
  intro p e s m args below meth c s₁ B hml hv
  obtain ⟨rfl, -⟩ := hv
  have hx := B.exec
  have hb := B.bytes
  have hr := B.returns
  have hts := atoms_spec (ws := wsX5_wholes) B.pre
  have hown : s.vm.findClass RX5 = some m.cls := findClass_of_methodNamed B.named
  have hlocks := B.notSynchronized
  have loop : ∀ (fu : Nat) (nn : Int) (the : Int), (0 ≤ nn ∧ nn ≤ 130000) → (-1 ≤ the ∧ the ≤ 3652058) → (nn < fu) → ∀ ls : Array Slot, lv_has ls 5 [(3, .int (zi nn)), (4, .int (zi the)), (0, .int (zi fro)), (1, .int (zi too)), (2, .int (zi 1))] → W p l e (headSpec wsX5_wholes ({ frames := 6, cells := 0, slots := 0, locals := 134 })).room s m ([.int (zi fro), .int (zi too), .int (zi 1)] : List Value).toArray below meth c s.heap [] 0 0 (MQ below (vp_Si (fun r => r = zi (lp_X5_wholes_1 fro too fu nn the))) ([.int (zi fro), .int (zi too), .int (zi 1)] : List Value).toArray s 0 0 (fun _ => False)) (F0 m 38 ls []) := by
    intro fu
    induction fu with
    | zero =>
      intro nn the hi0 hi1 hfu ls hl
      exact absurd hfu (by omega)
    | succ fu ih =>
      intro nn the hi0 hi1 hfu ls hl
      refine lv_iload_n hx hb dX5_wholes_38 rfl (lv_at hl 0 rfl) ?_
      refine zw_if_le (tgt := 70) hx hb dX5_wholes_39 (by decide) ⟨by omega, by omega⟩ (fun h1 => ?_) (fun h1 => ?_)
      · skip
        refine lv_iload_n hx hb dX5_wholes_70 rfl (lv_at hl 0 rfl) ?_
        exact W.iret (v := zi nn) hx hb hr (fun t ht hW => ⟨zi nn, rfl, by rw [lp_X5_wholes_1, if_pos h1], ht⟩) (fun q h => by cases h) dX5_wholes_71
      · skip
        refine lv_iload hx hb dX5_wholes_42 (lv_at hl 1 rfl) ?_
        refine zw_if_lt (tgt := 53) hx hb dX5_wholes_44 (by decide) ⟨by omega, by omega⟩ (fun h2 => ?_) (fun h2 => ?_)
        · skip
          obtain ⟨x3, ex3⟩ : ∃ z : Int, z = nn + (-1) := ⟨_, rfl⟩
          refine zw_iinc (lv' := [(3, .int (zi x3)), (4, .int (zi the)), (0, .int (zi fro)), (1, .int (zi too)), (2, .int (zi 1))]) (k := 0) hx hb ex3 dX5_wholes_53 hl rfl (by decide) rfl (fun ls hl => ?_)
          refine lv_iload_n hx hb dX5_wholes_56 rfl (lv_at hl 2 rfl) ?_
          refine lv_iload_n hx hb dX5_wholes_57 rfl (lv_at hl 0 rfl) ?_
          refine zw_i2l hx hb dX5_wholes_58 ⟨by omega, by omega⟩ ?_
          refine lv_iload_n hx hb dX5_wholes_59 rfl (lv_at hl 4 rfl) ?_
          refine zw_i2l hx hb dX5_wholes_60 ⟨by omega, by omega⟩ ?_
          refine zw_lmul hx hb dX5_wholes_61 ?_
          have hh4 := c_X5_byMonths l fro (x3 * 1) (by omega) (by omega)
          refine vp_callSi (va_Run.run (va_runS (As := [.int (zi fro), .long (zl (x3 * 1))]) (rest := []) ⟨hx, hb, hml, hown, hts⟩ hh4 (va_cwS 2 hts gX5_wholes_X5_byMonths rfl rfl rfl (by decide +kernel) ⟨Nat.le_of_ble_eq_true rfl, Nat.le_of_ble_eq_true rfl⟩) ⟨fun a U g mk q => q, fun U hU hW => ⟨rfl, trivial⟩⟩ rfl rfl hl.1 rfl (lv_room (Nat.le_of_ble_eq_true rfl)) dX5_wholes_62 ⟨Nat.zero_le _, Nat.zero_le _⟩)) (fun r4 (hr4 : r4 = zi (f_X5_byMonths fro (x3 * 1))) => ?_)
          subst hr4
          have hf4 := b_X5_byMonths fro (x3 * 1) (by omega) (by omega)
          refine zw_top (fun x5 ex5 => ?_)
          refine lv_istore (lv' := [(4, .int (zi x5)), (3, .int (zi x3)), (0, .int (zi fro)), (1, .int (zi too)), (2, .int (zi 1))]) hx hb dX5_wholes_65 hl (by decide) rfl (fun ls hl => ?_)
          refine lv_goto (tgt := 38) hx hb dX5_wholes_67 (by decide) ?_
          subst ex3 ex5
          rw [show lp_X5_wholes_1 fro too (fu + 1) nn the = lp_X5_wholes_1 fro too fu (nn + (-1)) (f_X5_byMonths fro ((nn + (-1)) * 1)) from by rw [lp_X5_wholes_1, if_neg (Int.not_le.mpr h1), if_pos h2]]
          exact ih (nn + (-1)) (f_X5_byMonths fro ((nn + (-1)) * 1)) (by omega) (by omega) (by omega) ls (lv_sub hl [1, 0, 2, 3, 4] rfl)
        · skip
          refine lv_iload hx hb dX5_wholes_47 (lv_at hl 1 rfl) ?_
          refine lv_iload_n hx hb dX5_wholes_49 rfl (lv_at hl 3 rfl) ?_
          refine zw_icmp_le (tgt := 70) hx hb dX5_wholes_50 (by decide) ⟨by omega, by omega⟩ ⟨by omega, by omega⟩ (fun h6 => ?_) (fun h6 => ?_)
          · skip
            refine lv_iload_n hx hb dX5_wholes_70 rfl (lv_at hl 0 rfl) ?_
            exact W.iret (v := zi nn) hx hb hr (fun t ht hW => ⟨zi nn, rfl, by rw [lp_X5_wholes_1, if_neg (Int.not_le.mpr h1), if_neg (Int.not_lt.mpr h2), if_pos h6], ht⟩) (fun q h => by cases h) dX5_wholes_71
          · skip
            obtain ⟨x7, ex7⟩ : ∃ z : Int, z = nn + (-1) := ⟨_, rfl⟩
            refine zw_iinc (lv' := [(3, .int (zi x7)), (4, .int (zi the)), (0, .int (zi fro)), (1, .int (zi too)), (2, .int (zi 1))]) (k := 0) hx hb ex7 dX5_wholes_53 hl rfl (by decide) rfl (fun ls hl => ?_)
            refine lv_iload_n hx hb dX5_wholes_56 rfl (lv_at hl 2 rfl) ?_
            refine lv_iload_n hx hb dX5_wholes_57 rfl (lv_at hl 0 rfl) ?_
            refine zw_i2l hx hb dX5_wholes_58 ⟨by omega, by omega⟩ ?_
            refine lv_iload_n hx hb dX5_wholes_59 rfl (lv_at hl 4 rfl) ?_
            refine zw_i2l hx hb dX5_wholes_60 ⟨by omega, by omega⟩ ?_
            refine zw_lmul hx hb dX5_wholes_61 ?_
            have hh8 := c_X5_byMonths l fro (x7 * 1) (by omega) (by omega)
            refine vp_callSi (va_Run.run (va_runS (As := [.int (zi fro), .long (zl (x7 * 1))]) (rest := []) ⟨hx, hb, hml, hown, hts⟩ hh8 (va_cwS 2 hts gX5_wholes_X5_byMonths rfl rfl rfl (by decide +kernel) ⟨Nat.le_of_ble_eq_true rfl, Nat.le_of_ble_eq_true rfl⟩) ⟨fun a U g mk q => q, fun U hU hW => ⟨rfl, trivial⟩⟩ rfl rfl hl.1 rfl (lv_room (Nat.le_of_ble_eq_true rfl)) dX5_wholes_62 ⟨Nat.zero_le _, Nat.zero_le _⟩)) (fun r8 (hr8 : r8 = zi (f_X5_byMonths fro (x7 * 1))) => ?_)
            subst hr8
            have hf8 := b_X5_byMonths fro (x7 * 1) (by omega) (by omega)
            refine zw_top (fun x9 ex9 => ?_)
            refine lv_istore (lv' := [(4, .int (zi x9)), (3, .int (zi x7)), (0, .int (zi fro)), (1, .int (zi too)), (2, .int (zi 1))]) hx hb dX5_wholes_65 hl (by decide) rfl (fun ls hl => ?_)
            refine lv_goto (tgt := 38) hx hb dX5_wholes_67 (by decide) ?_
            subst ex7 ex9
            rw [show lp_X5_wholes_1 fro too (fu + 1) nn the = lp_X5_wholes_1 fro too fu (nn + (-1)) (f_X5_byMonths fro ((nn + (-1)) * 1)) from by rw [lp_X5_wholes_1, if_neg (Int.not_le.mpr h1), if_neg (Int.not_lt.mpr h2), if_neg (Int.not_le.mpr h6)]]
            exact ih (nn + (-1)) (f_X5_byMonths fro ((nn + (-1)) * 1)) (by omega) (by omega) (by omega) ls (lv_sub hl [1, 0, 2, 3, 4] rfl)
  have hl := lv_entry ([.int (zi fro), .int (zi too), .int (zi 1)]) (n := 5) (Nat.le_of_ble_eq_true rfl)
  rw [lg_entry_eq]
  generalize (lg_sl ([.int (zi fro), .int (zi too), .int (zi 1)]) ++ List.replicate (5 - (lg_sl ([.int (zi fro), .int (zi too), .int (zi 1)])).length) Slot.unset).toArray = ls at hl ⊢
  have hl : lv_has ls 5 [(0, .int (zi fro)), (1, .int (zi too)), (2, .int (zi 1))] := hl
  refine zw_bipush hx hb dX5_wholes_0 (by decide) ?_
  refine lv_iload_n hx hb dX5_wholes_2 rfl (lv_at hl 1 rfl) ?_
  have hh501 := c_X5_yearOf l too (by omega)
  refine vp_callSi (va_Run.run (va_runS (As := [.int (zi too)]) (rest := [.int (zi 12)]) ⟨hx, hb, hml, hown, hts⟩ hh501 (va_cwS 1 hts gX5_wholes_X5_yearOf rfl rfl rfl (by decide +kernel) ⟨Nat.le_of_ble_eq_true rfl, Nat.le_of_ble_eq_true rfl⟩) ⟨fun a U g mk q => q, fun U hU hW => ⟨rfl, trivial⟩⟩ rfl rfl hl.1 rfl (lv_room (Nat.le_of_ble_eq_true rfl)) dX5_wholes_3 ⟨Nat.zero_le _, Nat.zero_le _⟩)) (fun r501 (hr501 : r501 = zi (f_X5_yearOf too)) => ?_)
  subst hr501
  have hf501 := b_X5_yearOf too (by omega)
  refine lv_iload_n hx hb dX5_wholes_6 rfl (lv_at hl 0 rfl) ?_
  have hh502 := c_X5_yearOf l fro (by omega)
  refine vp_callSi (va_Run.run (va_runS (As := [.int (zi fro)]) (rest := [.int (zi (f_X5_yearOf too)), .int (zi 12)]) ⟨hx, hb, hml, hown, hts⟩ hh502 (va_cwS 1 hts gX5_wholes_X5_yearOf rfl rfl rfl (by decide +kernel) ⟨Nat.le_of_ble_eq_true rfl, Nat.le_of_ble_eq_true rfl⟩) ⟨fun a U g mk q => q, fun U hU hW => ⟨rfl, trivial⟩⟩ rfl rfl hl.1 rfl (lv_room (Nat.le_of_ble_eq_true rfl)) dX5_wholes_7 ⟨Nat.zero_le _, Nat.zero_le _⟩)) (fun r502 (hr502 : r502 = zi (f_X5_yearOf fro)) => ?_)
  subst hr502
  have hf502 := b_X5_yearOf fro (by omega)
  refine zw_isub hx hb dX5_wholes_10 ?_
  refine zw_imul hx hb dX5_wholes_11 ?_
  refine lv_iload_n hx hb dX5_wholes_12 rfl (lv_at hl 1 rfl) ?_
  have hh503 := c_X5_monthOf l too (by omega)
  refine vp_callSi (va_Run.run (va_runS (As := [.int (zi too)]) (rest := [.int (zi (12 * ((f_X5_yearOf too) - (f_X5_yearOf fro))))]) ⟨hx, hb, hml, hown, hts⟩ hh503 (va_cwS 1 hts gX5_wholes_X5_monthOf rfl rfl rfl (by decide +kernel) ⟨Nat.le_of_ble_eq_true rfl, Nat.le_of_ble_eq_true rfl⟩) ⟨fun a U g mk q => q, fun U hU hW => ⟨rfl, trivial⟩⟩ rfl rfl hl.1 rfl (lv_room (Nat.le_of_ble_eq_true rfl)) dX5_wholes_13 ⟨Nat.zero_le _, Nat.zero_le _⟩)) (fun r503 (hr503 : r503 = zi (f_X5_monthOf too)) => ?_)
  subst hr503
  have hf503 := b_X5_monthOf too (by omega)
  refine zw_iadd hx hb dX5_wholes_16 ?_
  refine lv_iload_n hx hb dX5_wholes_17 rfl (lv_at hl 0 rfl) ?_
  have hh504 := c_X5_monthOf l fro (by omega)
  refine vp_callSi (va_Run.run (va_runS (As := [.int (zi fro)]) (rest := [.int (zi ((12 * ((f_X5_yearOf too) - (f_X5_yearOf fro))) + (f_X5_monthOf too)))]) ⟨hx, hb, hml, hown, hts⟩ hh504 (va_cwS 1 hts gX5_wholes_X5_monthOf rfl rfl rfl (by decide +kernel) ⟨Nat.le_of_ble_eq_true rfl, Nat.le_of_ble_eq_true rfl⟩) ⟨fun a U g mk q => q, fun U hU hW => ⟨rfl, trivial⟩⟩ rfl rfl hl.1 rfl (lv_room (Nat.le_of_ble_eq_true rfl)) dX5_wholes_18 ⟨Nat.zero_le _, Nat.zero_le _⟩)) (fun r504 (hr504 : r504 = zi (f_X5_monthOf fro)) => ?_)
  subst hr504
  have hf504 := b_X5_monthOf fro (by omega)
  refine zw_isub hx hb dX5_wholes_21 ?_
  refine lv_iload_n hx hb dX5_wholes_22 rfl (lv_at hl 2 rfl) ?_
  have hmo := m_X5_mono fro too (by omega)
  refine zw_idiv hx hb dX5_wholes_23 (by omega) ⟨by omega, by omega⟩ ⟨by omega, by omega⟩ (by omega) ?_
  refine zw_iconst hx hb dX5_wholes_24 ?_
  refine zw_iadd hx hb dX5_wholes_25 ?_
  refine zw_top (fun x505 ex505 => ?_)
  refine lv_istore_n (lv' := [(3, .int (zi x505)), (0, .int (zi fro)), (1, .int (zi too)), (2, .int (zi 1))]) hx hb dX5_wholes_26 rfl hl (by decide) rfl (fun ls hl => ?_)
  refine lv_iload_n hx hb dX5_wholes_27 rfl (lv_at hl 1 rfl) ?_
  refine lv_iload_n hx hb dX5_wholes_28 rfl (lv_at hl 0 rfl) ?_
  refine zw_i2l hx hb dX5_wholes_29 ⟨by omega, by omega⟩ ?_
  refine lv_iload_n hx hb dX5_wholes_30 rfl (lv_at hl 3 rfl) ?_
  refine zw_i2l hx hb dX5_wholes_31 ⟨by omega, by omega⟩ ?_
  refine zw_lmul hx hb dX5_wholes_32 ?_
  have hh506 := c_X5_byMonths l fro (x505 * 1) (by omega) (by omega)
  refine vp_callSi (va_Run.run (va_runS (As := [.int (zi fro), .long (zl (x505 * 1))]) (rest := []) ⟨hx, hb, hml, hown, hts⟩ hh506 (va_cwS 2 hts gX5_wholes_X5_byMonths rfl rfl rfl (by decide +kernel) ⟨Nat.le_of_ble_eq_true rfl, Nat.le_of_ble_eq_true rfl⟩) ⟨fun a U g mk q => q, fun U hU hW => ⟨rfl, trivial⟩⟩ rfl rfl hl.1 rfl (lv_room (Nat.le_of_ble_eq_true rfl)) dX5_wholes_33 ⟨Nat.zero_le _, Nat.zero_le _⟩)) (fun r506 (hr506 : r506 = zi (f_X5_byMonths fro (x505 * 1))) => ?_)
  subst hr506
  have hf506 := b_X5_byMonths fro (x505 * 1) (by omega) (by omega)
  refine zw_top (fun x507 ex507 => ?_)
  refine lv_istore (lv' := [(4, .int (zi x507)), (3, .int (zi x505)), (0, .int (zi fro)), (1, .int (zi too)), (2, .int (zi 1))]) hx hb dX5_wholes_36 hl (by decide) rfl (fun ls hl => ?_)
  subst ex505 ex507
  rw [show f_X5_wholes_1 fro too = lp_X5_wholes_1 fro too (130001) (((((12 * ((f_X5_yearOf too) - (f_X5_yearOf fro))) + (f_X5_monthOf too)) - (f_X5_monthOf fro)) / 1) + 1) (f_X5_byMonths fro ((((((12 * ((f_X5_yearOf too) - (f_X5_yearOf fro))) + (f_X5_monthOf too)) - (f_X5_monthOf fro)) / 1) + 1) * 1)) from by rw [f_X5_wholes_1]]
  exact loop (130001) (((((12 * ((f_X5_yearOf too) - (f_X5_yearOf fro))) + (f_X5_monthOf too)) - (f_X5_monthOf fro)) / 1) + 1) (f_X5_byMonths fro ((((((12 * ((f_X5_yearOf too) - (f_X5_yearOf fro))) + (f_X5_monthOf too)) - (f_X5_monthOf fro)) / 1) + 1) * 1)) (by omega) (by omega) (by omega) ls (lv_sub hl [1, 0, 2, 3, 4] rfl)

set_option maxHeartbeats 4000000 in
set_option maxRecDepth 100000 in
theorem c_X5_wholes_12 (l : Launch) (fro : Int) (too : Int) (hp0 : 0 ≤ fro ∧ fro ≤ too ∧ too ≤ 3652058) : Met l yX5_wholes wsX5_wholes ({ frames := 6, cells := 0, slots := 0, locals := 134 }) (va_Pc [.int (zi fro), .int (zi too), .int (zi 12)] (fun _ => True)) (vp_Si (fun r => r = zi (f_X5_wholes_12 fro too))) 0 0 (fun _ => False) := by
  refine Met.ofW (cc := cX5_wholes) (maxL := 5) (ret := (some .int)) (by decide) rfl ?_
  intro p e s m args below meth c s₁ B hml hv
  obtain ⟨rfl, -⟩ := hv
  have hx := B.exec
  have hb := B.bytes
  have hr := B.returns
  have hts := atoms_spec (ws := wsX5_wholes) B.pre
  have hown : s.vm.findClass RX5 = some m.cls := findClass_of_methodNamed B.named
  have hlocks := B.notSynchronized
  have loop : ∀ (fu : Nat) (nn : Int) (the : Int), (0 ≤ nn ∧ nn ≤ 130000) → (-1 ≤ the ∧ the ≤ 3652058) → (nn < fu) → ∀ ls : Array Slot, lv_has ls 5 [(3, .int (zi nn)), (4, .int (zi the)), (0, .int (zi fro)), (1, .int (zi too)), (2, .int (zi 12))] → W p l e (headSpec wsX5_wholes ({ frames := 6, cells := 0, slots := 0, locals := 134 })).room s m ([.int (zi fro), .int (zi too), .int (zi 12)] : List Value).toArray below meth c s.heap [] 0 0 (MQ below (vp_Si (fun r => r = zi (lp_X5_wholes_12 fro too fu nn the))) ([.int (zi fro), .int (zi too), .int (zi 12)] : List Value).toArray s 0 0 (fun _ => False)) (F0 m 38 ls []) := by
    intro fu
    induction fu with
    | zero =>
      intro nn the hi0 hi1 hfu ls hl
      exact absurd hfu (by omega)
    | succ fu ih =>
      intro nn the hi0 hi1 hfu ls hl
      refine lv_iload_n hx hb dX5_wholes_38 rfl (lv_at hl 0 rfl) ?_
      refine zw_if_le (tgt := 70) hx hb dX5_wholes_39 (by decide) ⟨by omega, by omega⟩ (fun h1 => ?_) (fun h1 => ?_)
      · skip
        refine lv_iload_n hx hb dX5_wholes_70 rfl (lv_at hl 0 rfl) ?_
        exact W.iret (v := zi nn) hx hb hr (fun t ht hW => ⟨zi nn, rfl, by rw [lp_X5_wholes_12, if_pos h1], ht⟩) (fun q h => by cases h) dX5_wholes_71
      · skip
        refine lv_iload hx hb dX5_wholes_42 (lv_at hl 1 rfl) ?_
        refine zw_if_lt (tgt := 53) hx hb dX5_wholes_44 (by decide) ⟨by omega, by omega⟩ (fun h2 => ?_) (fun h2 => ?_)
        · skip
          obtain ⟨x3, ex3⟩ : ∃ z : Int, z = nn + (-1) := ⟨_, rfl⟩
          refine zw_iinc (lv' := [(3, .int (zi x3)), (4, .int (zi the)), (0, .int (zi fro)), (1, .int (zi too)), (2, .int (zi 12))]) (k := 0) hx hb ex3 dX5_wholes_53 hl rfl (by decide) rfl (fun ls hl => ?_)
          refine lv_iload_n hx hb dX5_wholes_56 rfl (lv_at hl 2 rfl) ?_
          refine lv_iload_n hx hb dX5_wholes_57 rfl (lv_at hl 0 rfl) ?_
          refine zw_i2l hx hb dX5_wholes_58 ⟨by omega, by omega⟩ ?_
          refine lv_iload_n hx hb dX5_wholes_59 rfl (lv_at hl 4 rfl) ?_
          refine zw_i2l hx hb dX5_wholes_60 ⟨by omega, by omega⟩ ?_
          refine zw_lmul hx hb dX5_wholes_61 ?_
          have hh4 := c_X5_byMonths l fro (x3 * 12) (by omega) (by omega)
          refine vp_callSi (va_Run.run (va_runS (As := [.int (zi fro), .long (zl (x3 * 12))]) (rest := []) ⟨hx, hb, hml, hown, hts⟩ hh4 (va_cwS 2 hts gX5_wholes_X5_byMonths rfl rfl rfl (by decide +kernel) ⟨Nat.le_of_ble_eq_true rfl, Nat.le_of_ble_eq_true rfl⟩) ⟨fun a U g mk q => q, fun U hU hW => ⟨rfl, trivial⟩⟩ rfl rfl hl.1 rfl (lv_room (Nat.le_of_ble_eq_true rfl)) dX5_wholes_62 ⟨Nat.zero_le _, Nat.zero_le _⟩)) (fun r4 (hr4 : r4 = zi (f_X5_byMonths fro (x3 * 12))) => ?_)
          subst hr4
          have hf4 := b_X5_byMonths fro (x3 * 12) (by omega) (by omega)
          refine zw_top (fun x5 ex5 => ?_)
          refine lv_istore (lv' := [(4, .int (zi x5)), (3, .int (zi x3)), (0, .int (zi fro)), (1, .int (zi too)), (2, .int (zi 12))]) hx hb dX5_wholes_65 hl (by decide) rfl (fun ls hl => ?_)
          refine lv_goto (tgt := 38) hx hb dX5_wholes_67 (by decide) ?_
          subst ex3 ex5
          rw [show lp_X5_wholes_12 fro too (fu + 1) nn the = lp_X5_wholes_12 fro too fu (nn + (-1)) (f_X5_byMonths fro ((nn + (-1)) * 12)) from by rw [lp_X5_wholes_12, if_neg (Int.not_le.mpr h1), if_pos h2]]
          exact ih (nn + (-1)) (f_X5_byMonths fro ((nn + (-1)) * 12)) (by omega) (by omega) (by omega) ls (lv_sub hl [1, 0, 2, 3, 4] rfl)
        · skip
          refine lv_iload hx hb dX5_wholes_47 (lv_at hl 1 rfl) ?_
          refine lv_iload_n hx hb dX5_wholes_49 rfl (lv_at hl 3 rfl) ?_
          refine zw_icmp_le (tgt := 70) hx hb dX5_wholes_50 (by decide) ⟨by omega, by omega⟩ ⟨by omega, by omega⟩ (fun h6 => ?_) (fun h6 => ?_)
          · skip
            refine lv_iload_n hx hb dX5_wholes_70 rfl (lv_at hl 0 rfl) ?_
            exact W.iret (v := zi nn) hx hb hr (fun t ht hW => ⟨zi nn, rfl, by rw [lp_X5_wholes_12, if_neg (Int.not_le.mpr h1), if_neg (Int.not_lt.mpr h2), if_pos h6], ht⟩) (fun q h => by cases h) dX5_wholes_71
          · skip
            obtain ⟨x7, ex7⟩ : ∃ z : Int, z = nn + (-1) := ⟨_, rfl⟩
            refine zw_iinc (lv' := [(3, .int (zi x7)), (4, .int (zi the)), (0, .int (zi fro)), (1, .int (zi too)), (2, .int (zi 12))]) (k := 0) hx hb ex7 dX5_wholes_53 hl rfl (by decide) rfl (fun ls hl => ?_)
            refine lv_iload_n hx hb dX5_wholes_56 rfl (lv_at hl 2 rfl) ?_
            refine lv_iload_n hx hb dX5_wholes_57 rfl (lv_at hl 0 rfl) ?_
            refine zw_i2l hx hb dX5_wholes_58 ⟨by omega, by omega⟩ ?_
            refine lv_iload_n hx hb dX5_wholes_59 rfl (lv_at hl 4 rfl) ?_
            refine zw_i2l hx hb dX5_wholes_60 ⟨by omega, by omega⟩ ?_
            refine zw_lmul hx hb dX5_wholes_61 ?_
            have hh8 := c_X5_byMonths l fro (x7 * 12) (by omega) (by omega)
            refine vp_callSi (va_Run.run (va_runS (As := [.int (zi fro), .long (zl (x7 * 12))]) (rest := []) ⟨hx, hb, hml, hown, hts⟩ hh8 (va_cwS 2 hts gX5_wholes_X5_byMonths rfl rfl rfl (by decide +kernel) ⟨Nat.le_of_ble_eq_true rfl, Nat.le_of_ble_eq_true rfl⟩) ⟨fun a U g mk q => q, fun U hU hW => ⟨rfl, trivial⟩⟩ rfl rfl hl.1 rfl (lv_room (Nat.le_of_ble_eq_true rfl)) dX5_wholes_62 ⟨Nat.zero_le _, Nat.zero_le _⟩)) (fun r8 (hr8 : r8 = zi (f_X5_byMonths fro (x7 * 12))) => ?_)
            subst hr8
            have hf8 := b_X5_byMonths fro (x7 * 12) (by omega) (by omega)
            refine zw_top (fun x9 ex9 => ?_)
            refine lv_istore (lv' := [(4, .int (zi x9)), (3, .int (zi x7)), (0, .int (zi fro)), (1, .int (zi too)), (2, .int (zi 12))]) hx hb dX5_wholes_65 hl (by decide) rfl (fun ls hl => ?_)
            refine lv_goto (tgt := 38) hx hb dX5_wholes_67 (by decide) ?_
            subst ex7 ex9
            rw [show lp_X5_wholes_12 fro too (fu + 1) nn the = lp_X5_wholes_12 fro too fu (nn + (-1)) (f_X5_byMonths fro ((nn + (-1)) * 12)) from by rw [lp_X5_wholes_12, if_neg (Int.not_le.mpr h1), if_neg (Int.not_lt.mpr h2), if_neg (Int.not_le.mpr h6)]]
            exact ih (nn + (-1)) (f_X5_byMonths fro ((nn + (-1)) * 12)) (by omega) (by omega) (by omega) ls (lv_sub hl [1, 0, 2, 3, 4] rfl)
  have hl := lv_entry ([.int (zi fro), .int (zi too), .int (zi 12)]) (n := 5) (Nat.le_of_ble_eq_true rfl)
  rw [lg_entry_eq]
  generalize (lg_sl ([.int (zi fro), .int (zi too), .int (zi 12)]) ++ List.replicate (5 - (lg_sl ([.int (zi fro), .int (zi too), .int (zi 12)])).length) Slot.unset).toArray = ls at hl ⊢
  have hl : lv_has ls 5 [(0, .int (zi fro)), (1, .int (zi too)), (2, .int (zi 12))] := hl
  refine zw_bipush hx hb dX5_wholes_0 (by decide) ?_
  refine lv_iload_n hx hb dX5_wholes_2 rfl (lv_at hl 1 rfl) ?_
  have hh501 := c_X5_yearOf l too (by omega)
  refine vp_callSi (va_Run.run (va_runS (As := [.int (zi too)]) (rest := [.int (zi 12)]) ⟨hx, hb, hml, hown, hts⟩ hh501 (va_cwS 1 hts gX5_wholes_X5_yearOf rfl rfl rfl (by decide +kernel) ⟨Nat.le_of_ble_eq_true rfl, Nat.le_of_ble_eq_true rfl⟩) ⟨fun a U g mk q => q, fun U hU hW => ⟨rfl, trivial⟩⟩ rfl rfl hl.1 rfl (lv_room (Nat.le_of_ble_eq_true rfl)) dX5_wholes_3 ⟨Nat.zero_le _, Nat.zero_le _⟩)) (fun r501 (hr501 : r501 = zi (f_X5_yearOf too)) => ?_)
  subst hr501
  have hf501 := b_X5_yearOf too (by omega)
  refine lv_iload_n hx hb dX5_wholes_6 rfl (lv_at hl 0 rfl) ?_
  have hh502 := c_X5_yearOf l fro (by omega)
  refine vp_callSi (va_Run.run (va_runS (As := [.int (zi fro)]) (rest := [.int (zi (f_X5_yearOf too)), .int (zi 12)]) ⟨hx, hb, hml, hown, hts⟩ hh502 (va_cwS 1 hts gX5_wholes_X5_yearOf rfl rfl rfl (by decide +kernel) ⟨Nat.le_of_ble_eq_true rfl, Nat.le_of_ble_eq_true rfl⟩) ⟨fun a U g mk q => q, fun U hU hW => ⟨rfl, trivial⟩⟩ rfl rfl hl.1 rfl (lv_room (Nat.le_of_ble_eq_true rfl)) dX5_wholes_7 ⟨Nat.zero_le _, Nat.zero_le _⟩)) (fun r502 (hr502 : r502 = zi (f_X5_yearOf fro)) => ?_)
  subst hr502
  have hf502 := b_X5_yearOf fro (by omega)
  refine zw_isub hx hb dX5_wholes_10 ?_
  refine zw_imul hx hb dX5_wholes_11 ?_
  refine lv_iload_n hx hb dX5_wholes_12 rfl (lv_at hl 1 rfl) ?_
  have hh503 := c_X5_monthOf l too (by omega)
  refine vp_callSi (va_Run.run (va_runS (As := [.int (zi too)]) (rest := [.int (zi (12 * ((f_X5_yearOf too) - (f_X5_yearOf fro))))]) ⟨hx, hb, hml, hown, hts⟩ hh503 (va_cwS 1 hts gX5_wholes_X5_monthOf rfl rfl rfl (by decide +kernel) ⟨Nat.le_of_ble_eq_true rfl, Nat.le_of_ble_eq_true rfl⟩) ⟨fun a U g mk q => q, fun U hU hW => ⟨rfl, trivial⟩⟩ rfl rfl hl.1 rfl (lv_room (Nat.le_of_ble_eq_true rfl)) dX5_wholes_13 ⟨Nat.zero_le _, Nat.zero_le _⟩)) (fun r503 (hr503 : r503 = zi (f_X5_monthOf too)) => ?_)
  subst hr503
  have hf503 := b_X5_monthOf too (by omega)
  refine zw_iadd hx hb dX5_wholes_16 ?_
  refine lv_iload_n hx hb dX5_wholes_17 rfl (lv_at hl 0 rfl) ?_
  have hh504 := c_X5_monthOf l fro (by omega)
  refine vp_callSi (va_Run.run (va_runS (As := [.int (zi fro)]) (rest := [.int (zi ((12 * ((f_X5_yearOf too) - (f_X5_yearOf fro))) + (f_X5_monthOf too)))]) ⟨hx, hb, hml, hown, hts⟩ hh504 (va_cwS 1 hts gX5_wholes_X5_monthOf rfl rfl rfl (by decide +kernel) ⟨Nat.le_of_ble_eq_true rfl, Nat.le_of_ble_eq_true rfl⟩) ⟨fun a U g mk q => q, fun U hU hW => ⟨rfl, trivial⟩⟩ rfl rfl hl.1 rfl (lv_room (Nat.le_of_ble_eq_true rfl)) dX5_wholes_18 ⟨Nat.zero_le _, Nat.zero_le _⟩)) (fun r504 (hr504 : r504 = zi (f_X5_monthOf fro)) => ?_)
  subst hr504
  have hf504 := b_X5_monthOf fro (by omega)
  refine zw_isub hx hb dX5_wholes_21 ?_
  refine lv_iload_n hx hb dX5_wholes_22 rfl (lv_at hl 2 rfl) ?_
  have hmo := m_X5_mono fro too (by omega)
  refine zw_idiv hx hb dX5_wholes_23 (by omega) ⟨by omega, by omega⟩ ⟨by omega, by omega⟩ (by omega) ?_
  refine zw_iconst hx hb dX5_wholes_24 ?_
  refine zw_iadd hx hb dX5_wholes_25 ?_
  refine zw_top (fun x505 ex505 => ?_)
  refine lv_istore_n (lv' := [(3, .int (zi x505)), (0, .int (zi fro)), (1, .int (zi too)), (2, .int (zi 12))]) hx hb dX5_wholes_26 rfl hl (by decide) rfl (fun ls hl => ?_)
  refine lv_iload_n hx hb dX5_wholes_27 rfl (lv_at hl 1 rfl) ?_
  refine lv_iload_n hx hb dX5_wholes_28 rfl (lv_at hl 0 rfl) ?_
  refine zw_i2l hx hb dX5_wholes_29 ⟨by omega, by omega⟩ ?_
  refine lv_iload_n hx hb dX5_wholes_30 rfl (lv_at hl 3 rfl) ?_
  refine zw_i2l hx hb dX5_wholes_31 ⟨by omega, by omega⟩ ?_
  refine zw_lmul hx hb dX5_wholes_32 ?_
  have hh506 := c_X5_byMonths l fro (x505 * 12) (by omega) (by omega)
  refine vp_callSi (va_Run.run (va_runS (As := [.int (zi fro), .long (zl (x505 * 12))]) (rest := []) ⟨hx, hb, hml, hown, hts⟩ hh506 (va_cwS 2 hts gX5_wholes_X5_byMonths rfl rfl rfl (by decide +kernel) ⟨Nat.le_of_ble_eq_true rfl, Nat.le_of_ble_eq_true rfl⟩) ⟨fun a U g mk q => q, fun U hU hW => ⟨rfl, trivial⟩⟩ rfl rfl hl.1 rfl (lv_room (Nat.le_of_ble_eq_true rfl)) dX5_wholes_33 ⟨Nat.zero_le _, Nat.zero_le _⟩)) (fun r506 (hr506 : r506 = zi (f_X5_byMonths fro (x505 * 12))) => ?_)
  subst hr506
  have hf506 := b_X5_byMonths fro (x505 * 12) (by omega) (by omega)
  refine zw_top (fun x507 ex507 => ?_)
  refine lv_istore (lv' := [(4, .int (zi x507)), (3, .int (zi x505)), (0, .int (zi fro)), (1, .int (zi too)), (2, .int (zi 12))]) hx hb dX5_wholes_36 hl (by decide) rfl (fun ls hl => ?_)
  subst ex505 ex507
  rw [show f_X5_wholes_12 fro too = lp_X5_wholes_12 fro too (130001) (((((12 * ((f_X5_yearOf too) - (f_X5_yearOf fro))) + (f_X5_monthOf too)) - (f_X5_monthOf fro)) / 12) + 1) (f_X5_byMonths fro ((((((12 * ((f_X5_yearOf too) - (f_X5_yearOf fro))) + (f_X5_monthOf too)) - (f_X5_monthOf fro)) / 12) + 1) * 12)) from by rw [f_X5_wholes_12]]
  exact loop (130001) (((((12 * ((f_X5_yearOf too) - (f_X5_yearOf fro))) + (f_X5_monthOf too)) - (f_X5_monthOf fro)) / 12) + 1) (f_X5_byMonths fro ((((((12 * ((f_X5_yearOf too) - (f_X5_yearOf fro))) + (f_X5_monthOf too)) - (f_X5_monthOf fro)) / 12) + 1) * 12)) (by omega) (by omega) (by omega) ls (lv_sub hl [1, 0, 2, 3, 4] rfl)

set_option maxHeartbeats 4000000 in
set_option maxRecDepth 100000 in
theorem c_X5_byWeek (l : Launch) (ya : Int) (wk : Int) (wd : Int) (hp0 : -2147483648 ≤ ya ∧ ya ≤ 2147483647) (hp1 : -2147483648 ≤ wk ∧ wk ≤ 2147483647) (hp2 : -2147483648 ≤ wd ∧ wd ≤ 2147483647) : Met l yX5_byWeek wsX5_byWeek ({ frames := 3, cells := 0, slots := 0, locals := 62 }) (va_Pc [.int (zi ya), .int (zi wk), .int (zi wd)] (fun _ => True)) (vp_Si (fun r => r = zi (f_X5_byWeek ya wk wd))) 0 0 (fun _ => False) := by
  refine Met.ofW (cc := cX5_byWeek) (maxL := 4) (ret := (some .int)) (by decide) rfl ?_
  intro p e s m args below meth c s₁ B hml hv
  obtain ⟨rfl, -⟩ := hv
  have hx := B.exec
  have hb := B.bytes
  have hr := B.returns
  have hts := atoms_spec (ws := wsX5_byWeek) B.pre
  have hown : s.vm.findClass RX5 = some m.cls := findClass_of_methodNamed B.named
  have hlocks := B.notSynchronized
  have hl := lv_entry ([.int (zi ya), .int (zi wk), .int (zi wd)]) (n := 4) (Nat.le_of_ble_eq_true rfl)
  rw [lg_entry_eq]
  generalize (lg_sl ([.int (zi ya), .int (zi wk), .int (zi wd)]) ++ List.replicate (4 - (lg_sl ([.int (zi ya), .int (zi wk), .int (zi wd)])).length) Slot.unset).toArray = ls at hl ⊢
  have hl : lv_has ls 4 [(0, .int (zi ya)), (1, .int (zi wk)), (2, .int (zi wd))] := hl
  refine lv_iload_n hx hb dX5_byWeek_0 rfl (lv_at hl 0 rfl) ?_
  refine zw_iconst hx hb dX5_byWeek_1 ?_
  refine zw_sipush hx hb dX5_byWeek_2 (by decide) ?_
  have hh1 := c_X5_in l ya 1 9999 (by omega) (by omega) (by omega)
  refine vp_callSi (va_Run.run (va_runS (As := [.int (zi ya), .int (zi 1), .int (zi 9999)]) (rest := []) ⟨hx, hb, hml, hown, hts⟩ hh1 (va_cwS 3 hts gX5_byWeek_X5_in rfl rfl rfl (by decide +kernel) ⟨Nat.le_of_ble_eq_true rfl, Nat.le_of_ble_eq_true rfl⟩) ⟨fun a U g mk q => q, fun U hU hW => ⟨rfl, trivial⟩⟩ rfl rfl hl.1 rfl (lv_room (Nat.le_of_ble_eq_true rfl)) dX5_byWeek_5 ⟨Nat.zero_le _, Nat.zero_le _⟩)) (fun r1 (hr1 : r1 = zi (f_X5_in ya 1 9999)) => ?_)
  subst hr1
  have hf1 := b_X5_in ya 1 9999 (by omega) (by omega) (by omega)
  refine zw_if_eq (tgt := 33) hx hb dX5_byWeek_8 (by decide) ⟨by omega, by omega⟩ (fun h2 => ?_) (fun h2 => ?_)
  · skip
    refine zw_iconst hx hb dX5_byWeek_33 ?_
    exact W.iret (v := zi (-1)) hx hb hr (fun t ht hW => ⟨zi (-1), rfl, by rw [f_X5_byWeek, if_pos h2], ht⟩) (fun q h => by cases h) dX5_byWeek_34
  · skip
    refine lv_iload_n hx hb dX5_byWeek_11 rfl (lv_at hl 2 rfl) ?_
    refine zw_iconst hx hb dX5_byWeek_12 ?_
    refine zw_bipush hx hb dX5_byWeek_13 (by decide) ?_
    have hh3 := c_X5_in l wd 1 7 (by omega) (by omega) (by omega)
    refine vp_callSi (va_Run.run (va_runS (As := [.int (zi wd), .int (zi 1), .int (zi 7)]) (rest := []) ⟨hx, hb, hml, hown, hts⟩ hh3 (va_cwS 3 hts gX5_byWeek_X5_in rfl rfl rfl (by decide +kernel) ⟨Nat.le_of_ble_eq_true rfl, Nat.le_of_ble_eq_true rfl⟩) ⟨fun a U g mk q => q, fun U hU hW => ⟨rfl, trivial⟩⟩ rfl rfl hl.1 rfl (lv_room (Nat.le_of_ble_eq_true rfl)) dX5_byWeek_15 ⟨Nat.zero_le _, Nat.zero_le _⟩)) (fun r3 (hr3 : r3 = zi (f_X5_in wd 1 7)) => ?_)
    subst hr3
    have hf3 := b_X5_in wd 1 7 (by omega) (by omega) (by omega)
    refine zw_if_eq (tgt := 33) hx hb dX5_byWeek_18 (by decide) ⟨by omega, by omega⟩ (fun h4 => ?_) (fun h4 => ?_)
    · skip
      refine zw_iconst hx hb dX5_byWeek_33 ?_
      exact W.iret (v := zi (-1)) hx hb hr (fun t ht hW => ⟨zi (-1), rfl, by rw [f_X5_byWeek, if_neg h2, if_pos h4], ht⟩) (fun q h => by cases h) dX5_byWeek_34
    · skip
      refine lv_iload_n hx hb dX5_byWeek_21 rfl (lv_at hl 1 rfl) ?_
      refine zw_iconst hx hb dX5_byWeek_22 ?_
      refine lv_iload_n hx hb dX5_byWeek_23 rfl (lv_at hl 0 rfl) ?_
      have hh5 := c_X5_weeksOf l ya (by omega)
      refine vp_callSi (va_Run.run (va_runS (As := [.int (zi ya)]) (rest := [.int (zi 1), .int (zi wk)]) ⟨hx, hb, hml, hown, hts⟩ hh5 (va_cwS 1 hts gX5_byWeek_X5_weeksOf rfl rfl rfl (by decide +kernel) ⟨Nat.le_of_ble_eq_true rfl, Nat.le_of_ble_eq_true rfl⟩) ⟨fun a U g mk q => q, fun U hU hW => ⟨rfl, trivial⟩⟩ rfl rfl hl.1 rfl (lv_room (Nat.le_of_ble_eq_true rfl)) dX5_byWeek_24 ⟨Nat.zero_le _, Nat.zero_le _⟩)) (fun r5 (hr5 : r5 = zi (f_X5_weeksOf ya)) => ?_)
      subst hr5
      have hf5 := b_X5_weeksOf ya (by omega)
      have hh6 := c_X5_in l wk 1 (f_X5_weeksOf ya) (by omega) (by omega) (by omega)
      refine vp_callSi (va_Run.run (va_runS (As := [.int (zi wk), .int (zi 1), .int (zi (f_X5_weeksOf ya))]) (rest := []) ⟨hx, hb, hml, hown, hts⟩ hh6 (va_cwS 3 hts gX5_byWeek_X5_in rfl rfl rfl (by decide +kernel) ⟨Nat.le_of_ble_eq_true rfl, Nat.le_of_ble_eq_true rfl⟩) ⟨fun a U g mk q => q, fun U hU hW => ⟨rfl, trivial⟩⟩ rfl rfl hl.1 rfl (lv_room (Nat.le_of_ble_eq_true rfl)) dX5_byWeek_27 ⟨Nat.zero_le _, Nat.zero_le _⟩)) (fun r6 (hr6 : r6 = zi (f_X5_in wk 1 (f_X5_weeksOf ya))) => ?_)
      subst hr6
      have hf6 := b_X5_in wk 1 (f_X5_weeksOf ya) (by omega) (by omega) (by omega)
      refine zw_if_ne (tgt := 35) hx hb dX5_byWeek_30 (by decide) ⟨by omega, by omega⟩ (fun h7 => ?_) (fun h7 => ?_)
      · skip
        refine lv_iload_n hx hb dX5_byWeek_35 rfl (lv_at hl 0 rfl) ?_
        have hh8 := c_X5_firstMonday l ya (by omega)
        refine vp_callSi (va_Run.run (va_runS (As := [.int (zi ya)]) (rest := []) ⟨hx, hb, hml, hown, hts⟩ hh8 (va_cwS 1 hts gX5_byWeek_X5_firstMonday rfl rfl rfl (by decide +kernel) ⟨Nat.le_of_ble_eq_true rfl, Nat.le_of_ble_eq_true rfl⟩) ⟨fun a U g mk q => q, fun U hU hW => ⟨rfl, trivial⟩⟩ rfl rfl hl.1 rfl (lv_room (Nat.le_of_ble_eq_true rfl)) dX5_byWeek_36 ⟨Nat.zero_le _, Nat.zero_le _⟩)) (fun r8 (hr8 : r8 = zi (f_X5_firstMonday ya)) => ?_)
        subst hr8
        have hf8 := b_X5_firstMonday ya (by omega)
        refine zw_bipush hx hb dX5_byWeek_39 (by decide) ?_
        refine lv_iload_n hx hb dX5_byWeek_41 rfl (lv_at hl 1 rfl) ?_
        refine zw_iconst hx hb dX5_byWeek_42 ?_
        refine zw_isub hx hb dX5_byWeek_43 ?_
        refine zw_imul hx hb dX5_byWeek_44 ?_
        refine zw_iadd hx hb dX5_byWeek_45 ?_
        refine lv_iload_n hx hb dX5_byWeek_46 rfl (lv_at hl 2 rfl) ?_
        refine zw_iadd hx hb dX5_byWeek_47 ?_
        refine zw_iconst hx hb dX5_byWeek_48 ?_
        refine zw_isub hx hb dX5_byWeek_49 ?_
        refine zw_top (fun x9 ex9 => ?_)
        refine lv_istore_n (lv' := [(3, .int (zi x9)), (0, .int (zi ya)), (1, .int (zi wk)), (2, .int (zi wd))]) hx hb dX5_byWeek_50 rfl hl (by decide) rfl (fun ls hl => ?_)
        refine lv_iload_n hx hb dX5_byWeek_51 rfl (lv_at hl 0 rfl) ?_
        refine zw_iconst hx hb dX5_byWeek_52 ?_
        refine zw_ldc (n := 3652058) hx hb hown (hts (.constant RX5 89 (3652058)) (by decide +kernel)) dX5_byWeek_53 (by decide) ?_
        have hh10 := c_X5_in l x9 0 3652058 (by omega) (by omega) (by omega)
        refine vp_callSi (va_Run.run (va_runS (As := [.int (zi x9), .int (zi 0), .int (zi 3652058)]) (rest := []) ⟨hx, hb, hml, hown, hts⟩ hh10 (va_cwS 3 hts gX5_byWeek_X5_in rfl rfl rfl (by decide +kernel) ⟨Nat.le_of_ble_eq_true rfl, Nat.le_of_ble_eq_true rfl⟩) ⟨fun a U g mk q => q, fun U hU hW => ⟨rfl, trivial⟩⟩ rfl rfl hl.1 rfl (lv_room (Nat.le_of_ble_eq_true rfl)) dX5_byWeek_55 ⟨Nat.zero_le _, Nat.zero_le _⟩)) (fun r10 (hr10 : r10 = zi (f_X5_in x9 0 3652058)) => ?_)
        subst hr10
        have hf10 := b_X5_in x9 0 3652058 (by omega) (by omega) (by omega)
        refine zw_if_eq (tgt := 65) hx hb dX5_byWeek_58 (by decide) ⟨by omega, by omega⟩ (fun h11 => ?_) (fun h11 => ?_)
        · skip
          refine zw_iconst hx hb dX5_byWeek_65 ?_
          subst ex9
          exact W.iret (v := zi (-1)) hx hb hr (fun t ht hW => ⟨zi (-1), rfl, by rw [f_X5_byWeek, if_neg h2, if_neg h4, if_neg h7, if_pos h11], ht⟩) (fun q h => by cases h) dX5_byWeek_66
        · skip
          refine lv_iload_n hx hb dX5_byWeek_61 rfl (lv_at hl 0 rfl) ?_
          refine lv_goto (tgt := 66) hx hb dX5_byWeek_62 (by decide) ?_
          subst ex9
          exact W.iret (v := zi ((((f_X5_firstMonday ya) + (7 * (wk - 1))) + wd) - 1)) hx hb hr (fun t ht hW => ⟨zi ((((f_X5_firstMonday ya) + (7 * (wk - 1))) + wd) - 1), rfl, by rw [f_X5_byWeek, if_neg h2, if_neg h4, if_neg h7, if_neg h11], ht⟩) (fun q h => by cases h) dX5_byWeek_66
      · skip
        refine zw_iconst hx hb dX5_byWeek_33 ?_
        exact W.iret (v := zi (-1)) hx hb hr (fun t ht hW => ⟨zi (-1), rfl, by rw [f_X5_byWeek, if_neg h2, if_neg h4, if_pos h7], ht⟩) (fun q h => by cases h) dX5_byWeek_34

set_option maxHeartbeats 4000000 in
set_option maxRecDepth 100000 in
theorem c_X5_toldOf (l : Launch) (nu : Int) (wh : Int) (hp0 : 0 ≤ nu ∧ nu ≤ 3652058) (hp1 : -2147483648 ≤ wh ∧ wh ≤ 2147483647) : Met l yX5_toldOf wsX5_toldOf ({ frames := 5, cells := 0, slots := 0, locals := 107 }) (va_Pc [.int (zi nu), .int (zi wh)] (fun _ => True)) (vp_Si (fun r => r = zi (f_X5_toldOf nu wh))) 0 0 (fun _ => False) := by
  refine Met.ofW (cc := cX5_toldOf) (maxL := 2) (ret := (some .int)) (by decide) rfl ?_
  intro p e s m args below meth c s₁ B hml hv
  obtain ⟨rfl, -⟩ := hv
  have hx := B.exec
  have hb := B.bytes
  have hr := B.returns
  have hts := atoms_spec (ws := wsX5_toldOf) B.pre
  have hown : s.vm.findClass RX5 = some m.cls := findClass_of_methodNamed B.named
  have hlocks := B.notSynchronized
  have hl := lv_entry ([.int (zi nu), .int (zi wh)]) (n := 2) (Nat.le_of_ble_eq_true rfl)
  rw [lg_entry_eq]
  generalize (lg_sl ([.int (zi nu), .int (zi wh)]) ++ List.replicate (2 - (lg_sl ([.int (zi nu), .int (zi wh)])).length) Slot.unset).toArray = ls at hl ⊢
  have hl : lv_has ls 2 [(0, .int (zi nu)), (1, .int (zi wh))] := hl
  refine lv_iload_n hx hb dX5_toldOf_0 rfl (lv_at hl 1 rfl) ?_
  by_cases h1 : wh = 0
  · skip
    refine zw_tableIn (tgt := 56) hx hb dX5_toldOf_1 ⟨by omega, by omega⟩ h1 (by decide) (by decide) rfl (by decide) ?_
    refine lv_iload_n hx hb dX5_toldOf_56 rfl (lv_at hl 0 rfl) ?_
    exact W.iret (v := zi nu) hx hb hr (fun t ht hW => ⟨zi nu, rfl, by rw [f_X5_toldOf, if_pos h1], ht⟩) (fun q h => by cases h) dX5_toldOf_57
  by_cases h2 : wh = 1
  · skip
    refine zw_tableIn (tgt := 58) hx hb dX5_toldOf_1 ⟨by omega, by omega⟩ h2 (by decide) (by decide) rfl (by decide) ?_
    refine lv_iload_n hx hb dX5_toldOf_58 rfl (lv_at hl 0 rfl) ?_
    have hh3 := c_X5_yearOf l nu (by omega)
    refine vp_callSi (va_Run.run (va_runS (As := [.int (zi nu)]) (rest := []) ⟨hx, hb, hml, hown, hts⟩ hh3 (va_cwS 1 hts gX5_toldOf_X5_yearOf rfl rfl rfl (by decide +kernel) ⟨Nat.le_of_ble_eq_true rfl, Nat.le_of_ble_eq_true rfl⟩) ⟨fun a U g mk q => q, fun U hU hW => ⟨rfl, trivial⟩⟩ rfl rfl hl.1 rfl (lv_room (Nat.le_of_ble_eq_true rfl)) dX5_toldOf_59 ⟨Nat.zero_le _, Nat.zero_le _⟩)) (fun r3 (hr3 : r3 = zi (f_X5_yearOf nu)) => ?_)
    subst hr3
    have hf3 := b_X5_yearOf nu (by omega)
    exact W.iret (v := zi (f_X5_yearOf nu)) hx hb hr (fun t ht hW => ⟨zi (f_X5_yearOf nu), rfl, by rw [f_X5_toldOf, if_neg h1, if_pos h2], ht⟩) (fun q h => by cases h) dX5_toldOf_62
  by_cases h4 : wh = 2
  · skip
    refine zw_tableIn (tgt := 63) hx hb dX5_toldOf_1 ⟨by omega, by omega⟩ h4 (by decide) (by decide) rfl (by decide) ?_
    refine lv_iload_n hx hb dX5_toldOf_63 rfl (lv_at hl 0 rfl) ?_
    have hh5 := c_X5_monthOf l nu (by omega)
    refine vp_callSi (va_Run.run (va_runS (As := [.int (zi nu)]) (rest := []) ⟨hx, hb, hml, hown, hts⟩ hh5 (va_cwS 1 hts gX5_toldOf_X5_monthOf rfl rfl rfl (by decide +kernel) ⟨Nat.le_of_ble_eq_true rfl, Nat.le_of_ble_eq_true rfl⟩) ⟨fun a U g mk q => q, fun U hU hW => ⟨rfl, trivial⟩⟩ rfl rfl hl.1 rfl (lv_room (Nat.le_of_ble_eq_true rfl)) dX5_toldOf_64 ⟨Nat.zero_le _, Nat.zero_le _⟩)) (fun r5 (hr5 : r5 = zi (f_X5_monthOf nu)) => ?_)
    subst hr5
    have hf5 := b_X5_monthOf nu (by omega)
    exact W.iret (v := zi (f_X5_monthOf nu)) hx hb hr (fun t ht hW => ⟨zi (f_X5_monthOf nu), rfl, by rw [f_X5_toldOf, if_neg h1, if_neg h2, if_pos h4], ht⟩) (fun q h => by cases h) dX5_toldOf_67
  by_cases h6 : wh = 3
  · skip
    refine zw_tableIn (tgt := 68) hx hb dX5_toldOf_1 ⟨by omega, by omega⟩ h6 (by decide) (by decide) rfl (by decide) ?_
    refine lv_iload_n hx hb dX5_toldOf_68 rfl (lv_at hl 0 rfl) ?_
    have hh7 := c_X5_dayOf l nu (by omega)
    refine vp_callSi (va_Run.run (va_runS (As := [.int (zi nu)]) (rest := []) ⟨hx, hb, hml, hown, hts⟩ hh7 (va_cwS 1 hts gX5_toldOf_X5_dayOf rfl rfl rfl (by decide +kernel) ⟨Nat.le_of_ble_eq_true rfl, Nat.le_of_ble_eq_true rfl⟩) ⟨fun a U g mk q => q, fun U hU hW => ⟨rfl, trivial⟩⟩ rfl rfl hl.1 rfl (lv_room (Nat.le_of_ble_eq_true rfl)) dX5_toldOf_69 ⟨Nat.zero_le _, Nat.zero_le _⟩)) (fun r7 (hr7 : r7 = zi (f_X5_dayOf nu)) => ?_)
    subst hr7
    have hf7 := b_X5_dayOf nu (by omega)
    exact W.iret (v := zi (f_X5_dayOf nu)) hx hb hr (fun t ht hW => ⟨zi (f_X5_dayOf nu), rfl, by rw [f_X5_toldOf, if_neg h1, if_neg h2, if_neg h4, if_pos h6], ht⟩) (fun q h => by cases h) dX5_toldOf_72
  by_cases h8 : wh = 4
  · skip
    refine zw_tableIn (tgt := 73) hx hb dX5_toldOf_1 ⟨by omega, by omega⟩ h8 (by decide) (by decide) rfl (by decide) ?_
    refine lv_iload_n hx hb dX5_toldOf_73 rfl (lv_at hl 0 rfl) ?_
    have hh9 := c_X5_weekdayOf l nu (by omega)
    refine vp_callSi (va_Run.run (va_runS (As := [.int (zi nu)]) (rest := []) ⟨hx, hb, hml, hown, hts⟩ hh9 (va_cwS 1 hts gX5_toldOf_X5_weekdayOf rfl rfl rfl (by decide +kernel) ⟨Nat.le_of_ble_eq_true rfl, Nat.le_of_ble_eq_true rfl⟩) ⟨fun a U g mk q => q, fun U hU hW => ⟨rfl, trivial⟩⟩ rfl rfl hl.1 rfl (lv_room (Nat.le_of_ble_eq_true rfl)) dX5_toldOf_74 ⟨Nat.zero_le _, Nat.zero_le _⟩)) (fun r9 (hr9 : r9 = zi (f_X5_weekdayOf nu)) => ?_)
    subst hr9
    have hf9 := b_X5_weekdayOf nu (by omega)
    exact W.iret (v := zi (f_X5_weekdayOf nu)) hx hb hr (fun t ht hW => ⟨zi (f_X5_weekdayOf nu), rfl, by rw [f_X5_toldOf, if_neg h1, if_neg h2, if_neg h4, if_neg h6, if_pos h8], ht⟩) (fun q h => by cases h) dX5_toldOf_77
  by_cases h10 : wh = 5
  · skip
    refine zw_tableIn (tgt := 78) hx hb dX5_toldOf_1 ⟨by omega, by omega⟩ h10 (by decide) (by decide) rfl (by decide) ?_
    refine lv_iload_n hx hb dX5_toldOf_78 rfl (lv_at hl 0 rfl) ?_
    have hh11 := c_X5_weekYearOf l nu (by omega)
    refine vp_callSi (va_Run.run (va_runS (As := [.int (zi nu)]) (rest := []) ⟨hx, hb, hml, hown, hts⟩ hh11 (va_cwS 1 hts gX5_toldOf_X5_weekYearOf rfl rfl rfl (by decide +kernel) ⟨Nat.le_of_ble_eq_true rfl, Nat.le_of_ble_eq_true rfl⟩) ⟨fun a U g mk q => q, fun U hU hW => ⟨rfl, trivial⟩⟩ rfl rfl hl.1 rfl (lv_room (Nat.le_of_ble_eq_true rfl)) dX5_toldOf_79 ⟨Nat.zero_le _, Nat.zero_le _⟩)) (fun r11 (hr11 : r11 = zi (f_X5_weekYearOf nu)) => ?_)
    subst hr11
    have hf11 := b_X5_weekYearOf nu (by omega)
    exact W.iret (v := zi (f_X5_weekYearOf nu)) hx hb hr (fun t ht hW => ⟨zi (f_X5_weekYearOf nu), rfl, by rw [f_X5_toldOf, if_neg h1, if_neg h2, if_neg h4, if_neg h6, if_neg h8, if_pos h10], ht⟩) (fun q h => by cases h) dX5_toldOf_82
  by_cases h12 : wh = 6
  · skip
    refine zw_tableIn (tgt := 83) hx hb dX5_toldOf_1 ⟨by omega, by omega⟩ h12 (by decide) (by decide) rfl (by decide) ?_
    refine lv_iload_n hx hb dX5_toldOf_83 rfl (lv_at hl 0 rfl) ?_
    have hh13 := c_X5_weekOf l nu (by omega)
    refine vp_callSi (va_Run.run (va_runS (As := [.int (zi nu)]) (rest := []) ⟨hx, hb, hml, hown, hts⟩ hh13 (va_cwS 1 hts gX5_toldOf_X5_weekOf rfl rfl rfl (by decide +kernel) ⟨Nat.le_of_ble_eq_true rfl, Nat.le_of_ble_eq_true rfl⟩) ⟨fun a U g mk q => q, fun U hU hW => ⟨rfl, trivial⟩⟩ rfl rfl hl.1 rfl (lv_room (Nat.le_of_ble_eq_true rfl)) dX5_toldOf_84 ⟨Nat.zero_le _, Nat.zero_le _⟩)) (fun r13 (hr13 : r13 = zi (f_X5_weekOf nu)) => ?_)
    subst hr13
    have hf13 := b_X5_weekOf nu (by omega)
    exact W.iret (v := zi (f_X5_weekOf nu)) hx hb hr (fun t ht hW => ⟨zi (f_X5_weekOf nu), rfl, by rw [f_X5_toldOf, if_neg h1, if_neg h2, if_neg h4, if_neg h6, if_neg h8, if_neg h10, if_pos h12], ht⟩) (fun q h => by cases h) dX5_toldOf_87
  by_cases h14 : wh = 7
  · skip
    refine zw_tableIn (tgt := 88) hx hb dX5_toldOf_1 ⟨by omega, by omega⟩ h14 (by decide) (by decide) rfl (by decide) ?_
    refine lv_iload_n hx hb dX5_toldOf_88 rfl (lv_at hl 0 rfl) ?_
    refine lv_iload_n hx hb dX5_toldOf_89 rfl (lv_at hl 0 rfl) ?_
    have hh15 := c_X5_yearOf l nu (by omega)
    refine vp_callSi (va_Run.run (va_runS (As := [.int (zi nu)]) (rest := [.int (zi nu)]) ⟨hx, hb, hml, hown, hts⟩ hh15 (va_cwS 1 hts gX5_toldOf_X5_yearOf rfl rfl rfl (by decide +kernel) ⟨Nat.le_of_ble_eq_true rfl, Nat.le_of_ble_eq_true rfl⟩) ⟨fun a U g mk q => q, fun U hU hW => ⟨rfl, trivial⟩⟩ rfl rfl hl.1 rfl (lv_room (Nat.le_of_ble_eq_true rfl)) dX5_toldOf_90 ⟨Nat.zero_le _, Nat.zero_le _⟩)) (fun r15 (hr15 : r15 = zi (f_X5_yearOf nu)) => ?_)
    subst hr15
    have hf15 := b_X5_yearOf nu (by omega)
    have hh16 := c_X5_beginOf l (f_X5_yearOf nu) (by omega)
    refine vp_callSi (va_Run.run (va_runS (As := [.int (zi (f_X5_yearOf nu))]) (rest := [.int (zi nu)]) ⟨hx, hb, hml, hown, hts⟩ hh16 (va_cwS 1 hts gX5_toldOf_X5_beginOf rfl rfl rfl (by decide +kernel) ⟨Nat.le_of_ble_eq_true rfl, Nat.le_of_ble_eq_true rfl⟩) ⟨fun a U g mk q => q, fun U hU hW => ⟨rfl, trivial⟩⟩ rfl rfl hl.1 rfl (lv_room (Nat.le_of_ble_eq_true rfl)) dX5_toldOf_93 ⟨Nat.zero_le _, Nat.zero_le _⟩)) (fun r16 (hr16 : r16 = zi (f_X5_beginOf (f_X5_yearOf nu))) => ?_)
    subst hr16
    have hf16 := b_X5_beginOf (f_X5_yearOf nu) (by omega)
    refine zw_isub hx hb dX5_toldOf_96 ?_
    refine zw_iconst hx hb dX5_toldOf_97 ?_
    refine zw_iadd hx hb dX5_toldOf_98 ?_
    exact W.iret (v := zi ((nu - (f_X5_beginOf (f_X5_yearOf nu))) + 1)) hx hb hr (fun t ht hW => ⟨zi ((nu - (f_X5_beginOf (f_X5_yearOf nu))) + 1), rfl, by rw [f_X5_toldOf, if_neg h1, if_neg h2, if_neg h4, if_neg h6, if_neg h8, if_neg h10, if_neg h12, if_pos h14], ht⟩) (fun q h => by cases h) dX5_toldOf_99
  by_cases h17 : wh = 8
  · skip
    refine zw_tableIn (tgt := 100) hx hb dX5_toldOf_1 ⟨by omega, by omega⟩ h17 (by decide) (by decide) rfl (by decide) ?_
    refine lv_iload_n hx hb dX5_toldOf_100 rfl (lv_at hl 0 rfl) ?_
    have hh18 := c_X5_yearOf l nu (by omega)
    refine vp_callSi (va_Run.run (va_runS (As := [.int (zi nu)]) (rest := []) ⟨hx, hb, hml, hown, hts⟩ hh18 (va_cwS 1 hts gX5_toldOf_X5_yearOf rfl rfl rfl (by decide +kernel) ⟨Nat.le_of_ble_eq_true rfl, Nat.le_of_ble_eq_true rfl⟩) ⟨fun a U g mk q => q, fun U hU hW => ⟨rfl, trivial⟩⟩ rfl rfl hl.1 rfl (lv_room (Nat.le_of_ble_eq_true rfl)) dX5_toldOf_101 ⟨Nat.zero_le _, Nat.zero_le _⟩)) (fun r18 (hr18 : r18 = zi (f_X5_yearOf nu)) => ?_)
    subst hr18
    have hf18 := b_X5_yearOf nu (by omega)
    have hh19 := c_X5_isLeap l (f_X5_yearOf nu) (by omega)
    refine vp_callSi (va_Run.run (va_runS (As := [.int (zi (f_X5_yearOf nu))]) (rest := []) ⟨hx, hb, hml, hown, hts⟩ hh19 (va_cwS 1 hts gX5_toldOf_X5_isLeap rfl rfl rfl (by decide +kernel) ⟨Nat.le_of_ble_eq_true rfl, Nat.le_of_ble_eq_true rfl⟩) ⟨fun a U g mk q => q, fun U hU hW => ⟨rfl, trivial⟩⟩ rfl rfl hl.1 rfl (lv_room (Nat.le_of_ble_eq_true rfl)) dX5_toldOf_104 ⟨Nat.zero_le _, Nat.zero_le _⟩)) (fun r19 (hr19 : r19 = zi (f_X5_isLeap (f_X5_yearOf nu))) => ?_)
    subst hr19
    have hf19 := b_X5_isLeap (f_X5_yearOf nu) (by omega)
    refine zw_if_eq (tgt := 114) hx hb dX5_toldOf_107 (by decide) ⟨by omega, by omega⟩ (fun h20 => ?_) (fun h20 => ?_)
    · skip
      refine zw_iconst hx hb dX5_toldOf_114 ?_
      exact W.iret (v := zi 0) hx hb hr (fun t ht hW => ⟨zi 0, rfl, by rw [f_X5_toldOf, if_neg h1, if_neg h2, if_neg h4, if_neg h6, if_neg h8, if_neg h10, if_neg h12, if_neg h14, if_pos h17, if_pos h20], ht⟩) (fun q h => by cases h) dX5_toldOf_115
    · skip
      refine zw_iconst hx hb dX5_toldOf_110 ?_
      refine lv_goto (tgt := 115) hx hb dX5_toldOf_111 (by decide) ?_
      exact W.iret (v := zi 1) hx hb hr (fun t ht hW => ⟨zi 1, rfl, by rw [f_X5_toldOf, if_neg h1, if_neg h2, if_neg h4, if_neg h6, if_neg h8, if_neg h10, if_neg h12, if_neg h14, if_pos h17, if_neg h20], ht⟩) (fun q h => by cases h) dX5_toldOf_115
  by_cases h21 : wh = 9
  · skip
    refine zw_tableIn (tgt := 116) hx hb dX5_toldOf_1 ⟨by omega, by omega⟩ h21 (by decide) (by decide) rfl (by decide) ?_
    refine lv_iload_n hx hb dX5_toldOf_116 rfl (lv_at hl 0 rfl) ?_
    have hh22 := c_X5_yearOf l nu (by omega)
    refine vp_callSi (va_Run.run (va_runS (As := [.int (zi nu)]) (rest := []) ⟨hx, hb, hml, hown, hts⟩ hh22 (va_cwS 1 hts gX5_toldOf_X5_yearOf rfl rfl rfl (by decide +kernel) ⟨Nat.le_of_ble_eq_true rfl, Nat.le_of_ble_eq_true rfl⟩) ⟨fun a U g mk q => q, fun U hU hW => ⟨rfl, trivial⟩⟩ rfl rfl hl.1 rfl (lv_room (Nat.le_of_ble_eq_true rfl)) dX5_toldOf_117 ⟨Nat.zero_le _, Nat.zero_le _⟩)) (fun r22 (hr22 : r22 = zi (f_X5_yearOf nu)) => ?_)
    subst hr22
    have hf22 := b_X5_yearOf nu (by omega)
    refine lv_iload_n hx hb dX5_toldOf_120 rfl (lv_at hl 0 rfl) ?_
    have hh23 := c_X5_monthOf l nu (by omega)
    refine vp_callSi (va_Run.run (va_runS (As := [.int (zi nu)]) (rest := [.int (zi (f_X5_yearOf nu))]) ⟨hx, hb, hml, hown, hts⟩ hh23 (va_cwS 1 hts gX5_toldOf_X5_monthOf rfl rfl rfl (by decide +kernel) ⟨Nat.le_of_ble_eq_true rfl, Nat.le_of_ble_eq_true rfl⟩) ⟨fun a U g mk q => q, fun U hU hW => ⟨rfl, trivial⟩⟩ rfl rfl hl.1 rfl (lv_room (Nat.le_of_ble_eq_true rfl)) dX5_toldOf_121 ⟨Nat.zero_le _, Nat.zero_le _⟩)) (fun r23 (hr23 : r23 = zi (f_X5_monthOf nu)) => ?_)
    subst hr23
    have hf23 := b_X5_monthOf nu (by omega)
    have hh24 := c_X5_lengthOf l (f_X5_yearOf nu) (f_X5_monthOf nu) (by omega) (by omega)
    refine vp_callSi (va_Run.run (va_runS (As := [.int (zi (f_X5_yearOf nu)), .int (zi (f_X5_monthOf nu))]) (rest := []) ⟨hx, hb, hml, hown, hts⟩ hh24 (va_cwS 2 hts gX5_toldOf_X5_lengthOf rfl rfl rfl (by decide +kernel) ⟨Nat.le_of_ble_eq_true rfl, Nat.le_of_ble_eq_true rfl⟩) ⟨fun a U g mk q => q, fun U hU hW => ⟨rfl, trivial⟩⟩ rfl rfl hl.1 rfl (lv_room (Nat.le_of_ble_eq_true rfl)) dX5_toldOf_124 ⟨Nat.zero_le _, Nat.zero_le _⟩)) (fun r24 (hr24 : r24 = zi (f_X5_lengthOf (f_X5_yearOf nu) (f_X5_monthOf nu))) => ?_)
    subst hr24
    have hf24 := b_X5_lengthOf (f_X5_yearOf nu) (f_X5_monthOf nu) (by omega) (by omega)
    exact W.iret (v := zi (f_X5_lengthOf (f_X5_yearOf nu) (f_X5_monthOf nu))) hx hb hr (fun t ht hW => ⟨zi (f_X5_lengthOf (f_X5_yearOf nu) (f_X5_monthOf nu)), rfl, by rw [f_X5_toldOf, if_neg h1, if_neg h2, if_neg h4, if_neg h6, if_neg h8, if_neg h10, if_neg h12, if_neg h14, if_neg h17, if_pos h21], ht⟩) (fun q h => by cases h) dX5_toldOf_127
  refine zw_tableOut (tgt := 128) hx hb dX5_toldOf_1 ⟨by omega, by omega⟩ (by omega) (by decide) ?_
  refine lv_iload_n hx hb dX5_toldOf_128 rfl (lv_at hl 0 rfl) ?_
  have hh25 := c_X5_weekYearOf l nu (by omega)
  refine vp_callSi (va_Run.run (va_runS (As := [.int (zi nu)]) (rest := []) ⟨hx, hb, hml, hown, hts⟩ hh25 (va_cwS 1 hts gX5_toldOf_X5_weekYearOf rfl rfl rfl (by decide +kernel) ⟨Nat.le_of_ble_eq_true rfl, Nat.le_of_ble_eq_true rfl⟩) ⟨fun a U g mk q => q, fun U hU hW => ⟨rfl, trivial⟩⟩ rfl rfl hl.1 rfl (lv_room (Nat.le_of_ble_eq_true rfl)) dX5_toldOf_129 ⟨Nat.zero_le _, Nat.zero_le _⟩)) (fun r25 (hr25 : r25 = zi (f_X5_weekYearOf nu)) => ?_)
  subst hr25
  have hf25 := b_X5_weekYearOf nu (by omega)
  have hh26 := c_X5_weeksOf l (f_X5_weekYearOf nu) (by omega)
  refine vp_callSi (va_Run.run (va_runS (As := [.int (zi (f_X5_weekYearOf nu))]) (rest := []) ⟨hx, hb, hml, hown, hts⟩ hh26 (va_cwS 1 hts gX5_toldOf_X5_weeksOf rfl rfl rfl (by decide +kernel) ⟨Nat.le_of_ble_eq_true rfl, Nat.le_of_ble_eq_true rfl⟩) ⟨fun a U g mk q => q, fun U hU hW => ⟨rfl, trivial⟩⟩ rfl rfl hl.1 rfl (lv_room (Nat.le_of_ble_eq_true rfl)) dX5_toldOf_132 ⟨Nat.zero_le _, Nat.zero_le _⟩)) (fun r26 (hr26 : r26 = zi (f_X5_weeksOf (f_X5_weekYearOf nu))) => ?_)
  subst hr26
  have hf26 := b_X5_weeksOf (f_X5_weekYearOf nu) (by omega)
  exact W.iret (v := zi (f_X5_weeksOf (f_X5_weekYearOf nu))) hx hb hr (fun t ht hW => ⟨zi (f_X5_weeksOf (f_X5_weekYearOf nu)), rfl, by rw [f_X5_toldOf, if_neg h1, if_neg h2, if_neg h4, if_neg h6, if_neg h8, if_neg h10, if_neg h12, if_neg h14, if_neg h17, if_neg h21], ht⟩) (fun q h => by cases h) dX5_toldOf_135

set_option maxHeartbeats 4000000 in
set_option maxRecDepth 100000 in
theorem c_X5_isRule (l : Launch) (kk : Int) (aa : Int) (bb : Int) (cz : Int) (hp0 : -2147483648 ≤ kk ∧ kk ≤ 2147483647) (hp1 : -2147483648 ≤ aa ∧ aa ≤ 2147483647) (hp2 : -2147483648 ≤ bb ∧ bb ≤ 2147483647) (hp3 : -2147483648 ≤ cz ∧ cz ≤ 2147483647) : Met l yX5_isRule wsX5_isRule ({ frames := 2, cells := 0, slots := 0, locals := 41 }) (va_Pc [.int (zi kk), .int (zi aa), .int (zi bb), .int (zi cz)] (fun _ => True)) (vp_Si (fun r => r = zi (f_X5_isRule kk aa bb cz))) 0 0 (fun _ => False) := by
  refine Met.ofW (cc := cX5_isRule) (maxL := 4) (ret := (some .boolean)) (by decide) rfl ?_
  intro p e s m args below meth c s₁ B hml hv
  obtain ⟨rfl, -⟩ := hv
  have hx := B.exec
  have hb := B.bytes
  have hr := B.returns
  have hts := atoms_spec (ws := wsX5_isRule) B.pre
  have hown : s.vm.findClass RX5 = some m.cls := findClass_of_methodNamed B.named
  have hlocks := B.notSynchronized
  have hl := lv_entry ([.int (zi kk), .int (zi aa), .int (zi bb), .int (zi cz)]) (n := 4) (Nat.le_of_ble_eq_true rfl)
  rw [lg_entry_eq]
  generalize (lg_sl ([.int (zi kk), .int (zi aa), .int (zi bb), .int (zi cz)]) ++ List.replicate (4 - (lg_sl ([.int (zi kk), .int (zi aa), .int (zi bb), .int (zi cz)])).length) Slot.unset).toArray = ls at hl ⊢
  have hl : lv_has ls 4 [(0, .int (zi kk)), (1, .int (zi aa)), (2, .int (zi bb)), (3, .int (zi cz))] := hl
  refine lv_iload_n hx hb dX5_isRule_0 rfl (lv_at hl 0 rfl) ?_
  by_cases h1 : kk = 0
  · skip
    refine zw_tableIn (tgt := 32) hx hb dX5_isRule_1 ⟨by omega, by omega⟩ h1 (by decide) (by decide) rfl (by decide) ?_
    refine lv_iload_n hx hb dX5_isRule_32 rfl (lv_at hl 1 rfl) ?_
    refine zw_iconst hx hb dX5_isRule_33 ?_
    refine zw_bipush hx hb dX5_isRule_34 (by decide) ?_
    have hh2 := c_X5_in l aa 1 12 (by omega) (by omega) (by omega)
    refine vp_callSi (va_Run.run (va_runS (As := [.int (zi aa), .int (zi 1), .int (zi 12)]) (rest := []) ⟨hx, hb, hml, hown, hts⟩ hh2 (va_cwS 3 hts gX5_isRule_X5_in rfl rfl rfl (by decide +kernel) ⟨Nat.le_of_ble_eq_true rfl, Nat.le_of_ble_eq_true rfl⟩) ⟨fun a U g mk q => q, fun U hU hW => ⟨rfl, trivial⟩⟩ rfl rfl hl.1 rfl (lv_room (Nat.le_of_ble_eq_true rfl)) dX5_isRule_36 ⟨Nat.zero_le _, Nat.zero_le _⟩)) (fun r2 (hr2 : r2 = zi (f_X5_in aa 1 12)) => ?_)
    subst hr2
    have hf2 := b_X5_in aa 1 12 (by omega) (by omega) (by omega)
    refine zw_if_eq (tgt := 59) hx hb dX5_isRule_39 (by decide) ⟨by omega, by omega⟩ (fun h3 => ?_) (fun h3 => ?_)
    · skip
      refine zw_iconst hx hb dX5_isRule_59 ?_
      exact W.zret (v := zi 0) hx hb hr (zi_nb (by omega)) (fun t ht hW => ⟨zi 0, rfl, by rw [f_X5_isRule, if_pos h1, if_pos h3], ht⟩) (fun q h => by cases h) dX5_isRule_60
    · skip
      refine lv_iload_n hx hb dX5_isRule_42 rfl (lv_at hl 2 rfl) ?_
      refine zw_iconst hx hb dX5_isRule_43 ?_
      refine zw_iconst hx hb dX5_isRule_44 ?_
      refine lv_iload_n hx hb dX5_isRule_45 rfl (lv_at hl 1 rfl) ?_
      have hh4 := c_X5_lengthOf l 4 aa (by omega) (by omega)
      refine vp_callSi (va_Run.run (va_runS (As := [.int (zi 4), .int (zi aa)]) (rest := [.int (zi 1), .int (zi bb)]) ⟨hx, hb, hml, hown, hts⟩ hh4 (va_cwS 2 hts gX5_isRule_X5_lengthOf rfl rfl rfl (by decide +kernel) ⟨Nat.le_of_ble_eq_true rfl, Nat.le_of_ble_eq_true rfl⟩) ⟨fun a U g mk q => q, fun U hU hW => ⟨rfl, trivial⟩⟩ rfl rfl hl.1 rfl (lv_room (Nat.le_of_ble_eq_true rfl)) dX5_isRule_46 ⟨Nat.zero_le _, Nat.zero_le _⟩)) (fun r4 (hr4 : r4 = zi (f_X5_lengthOf 4 aa)) => ?_)
      subst hr4
      have hf4 := b_X5_lengthOf 4 aa (by omega) (by omega)
      have hh5 := c_X5_in l bb 1 (f_X5_lengthOf 4 aa) (by omega) (by omega) (by omega)
      refine vp_callSi (va_Run.run (va_runS (As := [.int (zi bb), .int (zi 1), .int (zi (f_X5_lengthOf 4 aa))]) (rest := []) ⟨hx, hb, hml, hown, hts⟩ hh5 (va_cwS 3 hts gX5_isRule_X5_in rfl rfl rfl (by decide +kernel) ⟨Nat.le_of_ble_eq_true rfl, Nat.le_of_ble_eq_true rfl⟩) ⟨fun a U g mk q => q, fun U hU hW => ⟨rfl, trivial⟩⟩ rfl rfl hl.1 rfl (lv_room (Nat.le_of_ble_eq_true rfl)) dX5_isRule_49 ⟨Nat.zero_le _, Nat.zero_le _⟩)) (fun r5 (hr5 : r5 = zi (f_X5_in bb 1 (f_X5_lengthOf 4 aa))) => ?_)
      subst hr5
      have hf5 := b_X5_in bb 1 (f_X5_lengthOf 4 aa) (by omega) (by omega) (by omega)
      refine zw_if_eq (tgt := 59) hx hb dX5_isRule_52 (by decide) ⟨by omega, by omega⟩ (fun h6 => ?_) (fun h6 => ?_)
      · skip
        refine zw_iconst hx hb dX5_isRule_59 ?_
        exact W.zret (v := zi 0) hx hb hr (zi_nb (by omega)) (fun t ht hW => ⟨zi 0, rfl, by rw [f_X5_isRule, if_pos h1, if_neg h3, if_pos h6], ht⟩) (fun q h => by cases h) dX5_isRule_60
      · skip
        refine zw_iconst hx hb dX5_isRule_55 ?_
        refine lv_goto (tgt := 60) hx hb dX5_isRule_56 (by decide) ?_
        exact W.zret (v := zi 1) hx hb hr (zi_nb (by omega)) (fun t ht hW => ⟨zi 1, rfl, by rw [f_X5_isRule, if_pos h1, if_neg h3, if_neg h6], ht⟩) (fun q h => by cases h) dX5_isRule_60
  by_cases h7 : kk = 1
  · skip
    refine zw_tableIn (tgt := 61) hx hb dX5_isRule_1 ⟨by omega, by omega⟩ h7 (by decide) (by decide) rfl (by decide) ?_
    refine lv_iload_n hx hb dX5_isRule_61 rfl (lv_at hl 1 rfl) ?_
    refine zw_bipush hx hb dX5_isRule_62 (by decide) ?_
    refine zw_bipush hx hb dX5_isRule_64 (by decide) ?_
    have hh8 := c_X5_in l aa (-100) 100 (by omega) (by omega) (by omega)
    refine vp_callSi (va_Run.run (va_runS (As := [.int (zi aa), .int (zi (-100)), .int (zi 100)]) (rest := []) ⟨hx, hb, hml, hown, hts⟩ hh8 (va_cwS 3 hts gX5_isRule_X5_in rfl rfl rfl (by decide +kernel) ⟨Nat.le_of_ble_eq_true rfl, Nat.le_of_ble_eq_true rfl⟩) ⟨fun a U g mk q => q, fun U hU hW => ⟨rfl, trivial⟩⟩ rfl rfl hl.1 rfl (lv_room (Nat.le_of_ble_eq_true rfl)) dX5_isRule_66 ⟨Nat.zero_le _, Nat.zero_le _⟩)) (fun r8 (hr8 : r8 = zi (f_X5_in aa (-100) 100)) => ?_)
    subst hr8
    have hf8 := b_X5_in aa (-100) 100 (by omega) (by omega) (by omega)
    exact W.zret (v := zi (f_X5_in aa (-100) 100)) hx hb hr (zi_nb (by omega)) (fun t ht hW => ⟨zi (f_X5_in aa (-100) 100), rfl, by rw [f_X5_isRule, if_neg h1, if_pos h7], ht⟩) (fun q h => by cases h) dX5_isRule_69
  by_cases h9 : kk = 2
  · skip
    refine zw_tableIn (tgt := 70) hx hb dX5_isRule_1 ⟨by omega, by omega⟩ h9 (by decide) (by decide) rfl (by decide) ?_
    refine lv_iload_n hx hb dX5_isRule_70 rfl (lv_at hl 1 rfl) ?_
    refine zw_iconst hx hb dX5_isRule_71 ?_
    refine zw_bipush hx hb dX5_isRule_72 (by decide) ?_
    have hh10 := c_X5_in l aa 1 12 (by omega) (by omega) (by omega)
    refine vp_callSi (va_Run.run (va_runS (As := [.int (zi aa), .int (zi 1), .int (zi 12)]) (rest := []) ⟨hx, hb, hml, hown, hts⟩ hh10 (va_cwS 3 hts gX5_isRule_X5_in rfl rfl rfl (by decide +kernel) ⟨Nat.le_of_ble_eq_true rfl, Nat.le_of_ble_eq_true rfl⟩) ⟨fun a U g mk q => q, fun U hU hW => ⟨rfl, trivial⟩⟩ rfl rfl hl.1 rfl (lv_room (Nat.le_of_ble_eq_true rfl)) dX5_isRule_74 ⟨Nat.zero_le _, Nat.zero_le _⟩)) (fun r10 (hr10 : r10 = zi (f_X5_in aa 1 12)) => ?_)
    subst hr10
    have hf10 := b_X5_in aa 1 12 (by omega) (by omega) (by omega)
    refine zw_if_eq (tgt := 108) hx hb dX5_isRule_77 (by decide) ⟨by omega, by omega⟩ (fun h11 => ?_) (fun h11 => ?_)
    · skip
      refine zw_iconst hx hb dX5_isRule_108 ?_
      exact W.zret (v := zi 0) hx hb hr (zi_nb (by omega)) (fun t ht hW => ⟨zi 0, rfl, by rw [f_X5_isRule, if_neg h1, if_neg h7, if_pos h9, if_pos h11], ht⟩) (fun q h => by cases h) dX5_isRule_109
    · skip
      refine lv_iload_n hx hb dX5_isRule_80 rfl (lv_at hl 2 rfl) ?_
      refine zw_iconst hx hb dX5_isRule_81 ?_
      refine zw_bipush hx hb dX5_isRule_82 (by decide) ?_
      have hh12 := c_X5_in l bb 1 7 (by omega) (by omega) (by omega)
      refine vp_callSi (va_Run.run (va_runS (As := [.int (zi bb), .int (zi 1), .int (zi 7)]) (rest := []) ⟨hx, hb, hml, hown, hts⟩ hh12 (va_cwS 3 hts gX5_isRule_X5_in rfl rfl rfl (by decide +kernel) ⟨Nat.le_of_ble_eq_true rfl, Nat.le_of_ble_eq_true rfl⟩) ⟨fun a U g mk q => q, fun U hU hW => ⟨rfl, trivial⟩⟩ rfl rfl hl.1 rfl (lv_room (Nat.le_of_ble_eq_true rfl)) dX5_isRule_84 ⟨Nat.zero_le _, Nat.zero_le _⟩)) (fun r12 (hr12 : r12 = zi (f_X5_in bb 1 7)) => ?_)
      subst hr12
      have hf12 := b_X5_in bb 1 7 (by omega) (by omega) (by omega)
      refine zw_if_eq (tgt := 108) hx hb dX5_isRule_87 (by decide) ⟨by omega, by omega⟩ (fun h13 => ?_) (fun h13 => ?_)
      · skip
        refine zw_iconst hx hb dX5_isRule_108 ?_
        exact W.zret (v := zi 0) hx hb hr (zi_nb (by omega)) (fun t ht hW => ⟨zi 0, rfl, by rw [f_X5_isRule, if_neg h1, if_neg h7, if_pos h9, if_neg h11, if_pos h13], ht⟩) (fun q h => by cases h) dX5_isRule_109
      · skip
        refine lv_iload_n hx hb dX5_isRule_90 rfl (lv_at hl 3 rfl) ?_
        refine zw_iconst hx hb dX5_isRule_91 ?_
        refine zw_iconst hx hb dX5_isRule_92 ?_
        have hh14 := c_X5_in l cz 1 4 (by omega) (by omega) (by omega)
        refine vp_callSi (va_Run.run (va_runS (As := [.int (zi cz), .int (zi 1), .int (zi 4)]) (rest := []) ⟨hx, hb, hml, hown, hts⟩ hh14 (va_cwS 3 hts gX5_isRule_X5_in rfl rfl rfl (by decide +kernel) ⟨Nat.le_of_ble_eq_true rfl, Nat.le_of_ble_eq_true rfl⟩) ⟨fun a U g mk q => q, fun U hU hW => ⟨rfl, trivial⟩⟩ rfl rfl hl.1 rfl (lv_room (Nat.le_of_ble_eq_true rfl)) dX5_isRule_93 ⟨Nat.zero_le _, Nat.zero_le _⟩)) (fun r14 (hr14 : r14 = zi (f_X5_in cz 1 4)) => ?_)
        subst hr14
        have hf14 := b_X5_in cz 1 4 (by omega) (by omega) (by omega)
        refine zw_if_ne (tgt := 104) hx hb dX5_isRule_96 (by decide) ⟨by omega, by omega⟩ (fun h15 => ?_) (fun h15 => ?_)
        · skip
          refine zw_iconst hx hb dX5_isRule_104 ?_
          refine lv_goto (tgt := 109) hx hb dX5_isRule_105 (by decide) ?_
          exact W.zret (v := zi 1) hx hb hr (zi_nb (by omega)) (fun t ht hW => ⟨zi 1, rfl, by rw [f_X5_isRule, if_neg h1, if_neg h7, if_pos h9, if_neg h11, if_neg h13, if_neg h15], ht⟩) (fun q h => by cases h) dX5_isRule_109
        · skip
          refine lv_iload_n hx hb dX5_isRule_99 rfl (lv_at hl 3 rfl) ?_
          refine zw_iconst hx hb dX5_isRule_100 ?_
          refine zw_icmp_ne (tgt := 108) hx hb dX5_isRule_101 (by decide) ⟨by omega, by omega⟩ ⟨by omega, by omega⟩ (fun h16 => ?_) (fun h16 => ?_)
          · skip
            refine zw_iconst hx hb dX5_isRule_108 ?_
            exact W.zret (v := zi 0) hx hb hr (zi_nb (by omega)) (fun t ht hW => ⟨zi 0, rfl, by rw [f_X5_isRule, if_neg h1, if_neg h7, if_pos h9, if_neg h11, if_neg h13, if_pos h15, if_neg h16], ht⟩) (fun q h => by cases h) dX5_isRule_109
          · skip
            refine zw_iconst hx hb dX5_isRule_104 ?_
            refine lv_goto (tgt := 109) hx hb dX5_isRule_105 (by decide) ?_
            exact W.zret (v := zi 1) hx hb hr (zi_nb (by omega)) (fun t ht hW => ⟨zi 1, rfl, by rw [f_X5_isRule, if_neg h1, if_neg h7, if_pos h9, if_neg h11, if_neg h13, if_pos h15, if_pos h16], ht⟩) (fun q h => by cases h) dX5_isRule_109
  by_cases h17 : kk = 3
  · skip
    refine zw_tableIn (tgt := 32) hx hb dX5_isRule_1 ⟨by omega, by omega⟩ h17 (by decide) (by decide) rfl (by decide) ?_
    refine lv_iload_n hx hb dX5_isRule_32 rfl (lv_at hl 1 rfl) ?_
    refine zw_iconst hx hb dX5_isRule_33 ?_
    refine zw_bipush hx hb dX5_isRule_34 (by decide) ?_
    have hh18 := c_X5_in l aa 1 12 (by omega) (by omega) (by omega)
    refine vp_callSi (va_Run.run (va_runS (As := [.int (zi aa), .int (zi 1), .int (zi 12)]) (rest := []) ⟨hx, hb, hml, hown, hts⟩ hh18 (va_cwS 3 hts gX5_isRule_X5_in rfl rfl rfl (by decide +kernel) ⟨Nat.le_of_ble_eq_true rfl, Nat.le_of_ble_eq_true rfl⟩) ⟨fun a U g mk q => q, fun U hU hW => ⟨rfl, trivial⟩⟩ rfl rfl hl.1 rfl (lv_room (Nat.le_of_ble_eq_true rfl)) dX5_isRule_36 ⟨Nat.zero_le _, Nat.zero_le _⟩)) (fun r18 (hr18 : r18 = zi (f_X5_in aa 1 12)) => ?_)
    subst hr18
    have hf18 := b_X5_in aa 1 12 (by omega) (by omega) (by omega)
    refine zw_if_eq (tgt := 59) hx hb dX5_isRule_39 (by decide) ⟨by omega, by omega⟩ (fun h19 => ?_) (fun h19 => ?_)
    · skip
      refine zw_iconst hx hb dX5_isRule_59 ?_
      exact W.zret (v := zi 0) hx hb hr (zi_nb (by omega)) (fun t ht hW => ⟨zi 0, rfl, by rw [f_X5_isRule, if_neg h1, if_neg h7, if_neg h9, if_pos h17, if_pos h19], ht⟩) (fun q h => by cases h) dX5_isRule_60
    · skip
      refine lv_iload_n hx hb dX5_isRule_42 rfl (lv_at hl 2 rfl) ?_
      refine zw_iconst hx hb dX5_isRule_43 ?_
      refine zw_iconst hx hb dX5_isRule_44 ?_
      refine lv_iload_n hx hb dX5_isRule_45 rfl (lv_at hl 1 rfl) ?_
      have hh20 := c_X5_lengthOf l 4 aa (by omega) (by omega)
      refine vp_callSi (va_Run.run (va_runS (As := [.int (zi 4), .int (zi aa)]) (rest := [.int (zi 1), .int (zi bb)]) ⟨hx, hb, hml, hown, hts⟩ hh20 (va_cwS 2 hts gX5_isRule_X5_lengthOf rfl rfl rfl (by decide +kernel) ⟨Nat.le_of_ble_eq_true rfl, Nat.le_of_ble_eq_true rfl⟩) ⟨fun a U g mk q => q, fun U hU hW => ⟨rfl, trivial⟩⟩ rfl rfl hl.1 rfl (lv_room (Nat.le_of_ble_eq_true rfl)) dX5_isRule_46 ⟨Nat.zero_le _, Nat.zero_le _⟩)) (fun r20 (hr20 : r20 = zi (f_X5_lengthOf 4 aa)) => ?_)
      subst hr20
      have hf20 := b_X5_lengthOf 4 aa (by omega) (by omega)
      have hh21 := c_X5_in l bb 1 (f_X5_lengthOf 4 aa) (by omega) (by omega) (by omega)
      refine vp_callSi (va_Run.run (va_runS (As := [.int (zi bb), .int (zi 1), .int (zi (f_X5_lengthOf 4 aa))]) (rest := []) ⟨hx, hb, hml, hown, hts⟩ hh21 (va_cwS 3 hts gX5_isRule_X5_in rfl rfl rfl (by decide +kernel) ⟨Nat.le_of_ble_eq_true rfl, Nat.le_of_ble_eq_true rfl⟩) ⟨fun a U g mk q => q, fun U hU hW => ⟨rfl, trivial⟩⟩ rfl rfl hl.1 rfl (lv_room (Nat.le_of_ble_eq_true rfl)) dX5_isRule_49 ⟨Nat.zero_le _, Nat.zero_le _⟩)) (fun r21 (hr21 : r21 = zi (f_X5_in bb 1 (f_X5_lengthOf 4 aa))) => ?_)
      subst hr21
      have hf21 := b_X5_in bb 1 (f_X5_lengthOf 4 aa) (by omega) (by omega) (by omega)
      refine zw_if_eq (tgt := 59) hx hb dX5_isRule_52 (by decide) ⟨by omega, by omega⟩ (fun h22 => ?_) (fun h22 => ?_)
      · skip
        refine zw_iconst hx hb dX5_isRule_59 ?_
        exact W.zret (v := zi 0) hx hb hr (zi_nb (by omega)) (fun t ht hW => ⟨zi 0, rfl, by rw [f_X5_isRule, if_neg h1, if_neg h7, if_neg h9, if_pos h17, if_neg h19, if_pos h22], ht⟩) (fun q h => by cases h) dX5_isRule_60
      · skip
        refine zw_iconst hx hb dX5_isRule_55 ?_
        refine lv_goto (tgt := 60) hx hb dX5_isRule_56 (by decide) ?_
        exact W.zret (v := zi 1) hx hb hr (zi_nb (by omega)) (fun t ht hW => ⟨zi 1, rfl, by rw [f_X5_isRule, if_neg h1, if_neg h7, if_neg h9, if_pos h17, if_neg h19, if_neg h22], ht⟩) (fun q h => by cases h) dX5_isRule_60
  refine zw_tableOut (tgt := 110) hx hb dX5_isRule_1 ⟨by omega, by omega⟩ (by omega) (by decide) ?_
  refine zw_iconst hx hb dX5_isRule_110 ?_
  exact W.zret (v := zi 0) hx hb hr (zi_nb (by omega)) (fun t ht hW => ⟨zi 0, rfl, by rw [f_X5_isRule, if_neg h1, if_neg h7, if_neg h9, if_neg h17], ht⟩) (fun q h => by cases h) dX5_isRule_111

set_option maxHeartbeats 4000000 in
set_option maxRecDepth 100000 in
theorem c_X5_textLength (l : Launch) (tx : Int) (hp0 : -2147483648 ≤ tx ∧ tx ≤ 2147483647) : Met l yX5_textLength wsX5_textLength ({ frames := 0, cells := 0, slots := 0, locals := 0 }) (va_Pc [.int (zi tx)] (fun _ => True)) (vp_Si (fun r => r = zi (f_X5_textLength tx))) 0 0 (fun _ => False) := by
  refine Met.ofW (cc := cX5_textLength) (maxL := 1) (ret := (some .int)) (by decide) rfl ?_
  intro p e s m args below meth c s₁ B hml hv
  obtain ⟨rfl, -⟩ := hv
  have hx := B.exec
  have hb := B.bytes
  have hr := B.returns
  have hts := atoms_spec (ws := wsX5_textLength) B.pre
  have hown : s.vm.findClass RX5 = some m.cls := findClass_of_methodNamed B.named
  have hlocks := B.notSynchronized
  have hl := lv_entry ([.int (zi tx)]) (n := 1) (Nat.le_of_ble_eq_true rfl)
  rw [lg_entry_eq]
  generalize (lg_sl ([.int (zi tx)]) ++ List.replicate (1 - (lg_sl ([.int (zi tx)])).length) Slot.unset).toArray = ls at hl ⊢
  have hl : lv_has ls 1 [(0, .int (zi tx))] := hl
  refine lv_iload_n hx hb dX5_textLength_0 rfl (lv_at hl 0 rfl) ?_
  refine zw_iconst hx hb dX5_textLength_1 ?_
  refine zw_icmp_ne (tgt := 10) hx hb dX5_textLength_2 (by decide) ⟨by omega, by omega⟩ ⟨by omega, by omega⟩ (fun h1 => ?_) (fun h1 => ?_)
  · skip
    refine zw_bipush hx hb dX5_textLength_10 (by decide) ?_
    exact W.iret (v := zi 10) hx hb hr (fun t ht hW => ⟨zi 10, rfl, by rw [f_X5_textLength, if_neg h1], ht⟩) (fun q h => by cases h) dX5_textLength_12
  · skip
    refine zw_bipush hx hb dX5_textLength_5 (by decide) ?_
    refine lv_goto (tgt := 12) hx hb dX5_textLength_7 (by decide) ?_
    exact W.iret (v := zi 8) hx hb hr (fun t ht hW => ⟨zi 8, rfl, by rw [f_X5_textLength, if_pos h1], ht⟩) (fun q h => by cases h) dX5_textLength_12

set_option maxHeartbeats 4000000 in
set_option maxRecDepth 100000 in
theorem c_X5_fits (l : Launch) (tx : Int) (pl : Int) (ch : Int) (hp0 : -2147483648 ≤ tx ∧ tx ≤ 2147483647) (hp1 : -2147483648 ≤ pl ∧ pl ≤ 2147483647) (hp2 : -2147483648 ≤ ch ∧ ch ≤ 2147483647) : Met l yX5_fits wsX5_fits ({ frames := 1, cells := 0, slots := 0, locals := 22 }) (va_Pc [.int (zi tx), .int (zi pl), .int (zi ch)] (fun _ => True)) (vp_Si (fun r => r = zi (f_X5_fits tx pl ch))) 0 0 (fun _ => False) := by
  refine Met.ofW (cc := cX5_fits) (maxL := 3) (ret := (some .boolean)) (by decide) rfl ?_
  intro p e s m args below meth c s₁ B hml hv
  obtain ⟨rfl, -⟩ := hv
  have hx := B.exec
  have hb := B.bytes
  have hr := B.returns
  have hts := atoms_spec (ws := wsX5_fits) B.pre
  have hown : s.vm.findClass RX5 = some m.cls := findClass_of_methodNamed B.named
  have hlocks := B.notSynchronized
  have hl := lv_entry ([.int (zi tx), .int (zi pl), .int (zi ch)]) (n := 3) (Nat.le_of_ble_eq_true rfl)
  rw [lg_entry_eq]
  generalize (lg_sl ([.int (zi tx), .int (zi pl), .int (zi ch)]) ++ List.replicate (3 - (lg_sl ([.int (zi tx), .int (zi pl), .int (zi ch)])).length) Slot.unset).toArray = ls at hl ⊢
  have hl : lv_has ls 3 [(0, .int (zi tx)), (1, .int (zi pl)), (2, .int (zi ch))] := hl
  refine lv_iload_n hx hb dX5_fits_0 rfl (lv_at hl 1 rfl) ?_
  refine lv_iload_n hx hb dX5_fits_1 rfl (lv_at hl 0 rfl) ?_
  have hh1 := c_X5_textLength l tx (by omega)
  refine vp_callSi (va_Run.run (va_runS (As := [.int (zi tx)]) (rest := [.int (zi pl)]) ⟨hx, hb, hml, hown, hts⟩ hh1 (va_cwS 1 hts gX5_fits_X5_textLength rfl rfl rfl (by decide +kernel) ⟨Nat.le_of_ble_eq_true rfl, Nat.le_of_ble_eq_true rfl⟩) ⟨fun a U g mk q => q, fun U hU hW => ⟨rfl, trivial⟩⟩ rfl rfl hl.1 rfl (lv_room (Nat.le_of_ble_eq_true rfl)) dX5_fits_2 ⟨Nat.zero_le _, Nat.zero_le _⟩)) (fun r1 (hr1 : r1 = zi (f_X5_textLength tx)) => ?_)
  subst hr1
  have hf1 := b_X5_textLength tx (by omega)
  refine zw_icmp_lt (tgt := 10) hx hb dX5_fits_5 (by decide) ⟨by omega, by omega⟩ ⟨by omega, by omega⟩ (fun h2 => ?_) (fun h2 => ?_)
  · skip
    refine lv_iload_n hx hb dX5_fits_10 rfl (lv_at hl 1 rfl) ?_
    refine zw_iconst hx hb dX5_fits_11 ?_
    refine zw_icmp_eq (tgt := 36) hx hb dX5_fits_12 (by decide) ⟨by omega, by omega⟩ ⟨by omega, by omega⟩ (fun h3 => ?_) (fun h3 => ?_)
    · skip
      refine lv_iload_n hx hb dX5_fits_36 rfl (lv_at hl 2 rfl) ?_
      refine zw_bipush hx hb dX5_fits_37 (by decide) ?_
      refine zw_icmp_ne (tgt := 46) hx hb dX5_fits_39 (by decide) ⟨by omega, by omega⟩ ⟨by omega, by omega⟩ (fun h4 => ?_) (fun h4 => ?_)
      · skip
        refine zw_iconst hx hb dX5_fits_46 ?_
        exact W.zret (v := zi 0) hx hb hr (zi_nb (by omega)) (fun t ht hW => ⟨zi 0, rfl, by rw [f_X5_fits, if_pos h2, if_pos h3, if_neg h4], ht⟩) (fun q h => by cases h) dX5_fits_47
      · skip
        refine zw_iconst hx hb dX5_fits_42 ?_
        refine lv_goto (tgt := 47) hx hb dX5_fits_43 (by decide) ?_
        exact W.zret (v := zi 1) hx hb hr (zi_nb (by omega)) (fun t ht hW => ⟨zi 1, rfl, by rw [f_X5_fits, if_pos h2, if_pos h3, if_pos h4], ht⟩) (fun q h => by cases h) dX5_fits_47
    · skip
      refine lv_iload_n hx hb dX5_fits_15 rfl (lv_at hl 0 rfl) ?_
      refine zw_if_ne (tgt := 25) hx hb dX5_fits_16 (by decide) ⟨by omega, by omega⟩ (fun h5 => ?_) (fun h5 => ?_)
      · skip
        refine lv_iload_n hx hb dX5_fits_25 rfl (lv_at hl 0 rfl) ?_
        refine zw_iconst hx hb dX5_fits_26 ?_
        refine zw_icmp_ne (tgt := 48) hx hb dX5_fits_27 (by decide) ⟨by omega, by omega⟩ ⟨by omega, by omega⟩ (fun h6 => ?_) (fun h6 => ?_)
        · skip
          refine lv_iload_n hx hb dX5_fits_48 rfl (lv_at hl 0 rfl) ?_
          refine zw_iconst hx hb dX5_fits_49 ?_
          refine zw_icmp_ne (tgt := 72) hx hb dX5_fits_50 (by decide) ⟨by omega, by omega⟩ ⟨by omega, by omega⟩ (fun h7 => ?_) (fun h7 => ?_)
          · skip
            refine lv_iload_n hx hb dX5_fits_72 rfl (lv_at hl 2 rfl) ?_
            refine zw_bipush hx hb dX5_fits_73 (by decide) ?_
            refine zw_bipush hx hb dX5_fits_75 (by decide) ?_
            have hh8 := c_X5_in l ch 48 57 (by omega) (by omega) (by omega)
            refine vp_callSi (va_Run.run (va_runS (As := [.int (zi ch), .int (zi 48), .int (zi 57)]) (rest := []) ⟨hx, hb, hml, hown, hts⟩ hh8 (va_cwS 3 hts gX5_fits_X5_in rfl rfl rfl (by decide +kernel) ⟨Nat.le_of_ble_eq_true rfl, Nat.le_of_ble_eq_true rfl⟩) ⟨fun a U g mk q => q, fun U hU hW => ⟨rfl, trivial⟩⟩ rfl rfl hl.1 rfl (lv_room (Nat.le_of_ble_eq_true rfl)) dX5_fits_77 ⟨Nat.zero_le _, Nat.zero_le _⟩)) (fun r8 (hr8 : r8 = zi (f_X5_in ch 48 57)) => ?_)
            subst hr8
            have hf8 := b_X5_in ch 48 57 (by omega) (by omega) (by omega)
            exact W.zret (v := zi (f_X5_in ch 48 57)) hx hb hr (zi_nb (by omega)) (fun t ht hW => ⟨zi (f_X5_in ch 48 57), rfl, by rw [f_X5_fits, if_pos h2, if_neg h3, if_neg h5, if_neg h6, if_neg h7], ht⟩) (fun q h => by cases h) dX5_fits_80
          · skip
            refine lv_iload_n hx hb dX5_fits_53 rfl (lv_at hl 1 rfl) ?_
            refine zw_iconst hx hb dX5_fits_54 ?_
            refine zw_icmp_ne (tgt := 72) hx hb dX5_fits_55 (by decide) ⟨by omega, by omega⟩ ⟨by omega, by omega⟩ (fun h9 => ?_) (fun h9 => ?_)
            · skip
              refine lv_iload_n hx hb dX5_fits_72 rfl (lv_at hl 2 rfl) ?_
              refine zw_bipush hx hb dX5_fits_73 (by decide) ?_
              refine zw_bipush hx hb dX5_fits_75 (by decide) ?_
              have hh10 := c_X5_in l ch 48 57 (by omega) (by omega) (by omega)
              refine vp_callSi (va_Run.run (va_runS (As := [.int (zi ch), .int (zi 48), .int (zi 57)]) (rest := []) ⟨hx, hb, hml, hown, hts⟩ hh10 (va_cwS 3 hts gX5_fits_X5_in rfl rfl rfl (by decide +kernel) ⟨Nat.le_of_ble_eq_true rfl, Nat.le_of_ble_eq_true rfl⟩) ⟨fun a U g mk q => q, fun U hU hW => ⟨rfl, trivial⟩⟩ rfl rfl hl.1 rfl (lv_room (Nat.le_of_ble_eq_true rfl)) dX5_fits_77 ⟨Nat.zero_le _, Nat.zero_le _⟩)) (fun r10 (hr10 : r10 = zi (f_X5_in ch 48 57)) => ?_)
              subst hr10
              have hf10 := b_X5_in ch 48 57 (by omega) (by omega) (by omega)
              exact W.zret (v := zi (f_X5_in ch 48 57)) hx hb hr (zi_nb (by omega)) (fun t ht hW => ⟨zi (f_X5_in ch 48 57), rfl, by rw [f_X5_fits, if_pos h2, if_neg h3, if_neg h5, if_neg h6, if_pos h7, if_neg h9], ht⟩) (fun q h => by cases h) dX5_fits_80
            · skip
              refine lv_iload_n hx hb dX5_fits_58 rfl (lv_at hl 2 rfl) ?_
              refine zw_bipush hx hb dX5_fits_59 (by decide) ?_
              refine zw_icmp_ne (tgt := 68) hx hb dX5_fits_61 (by decide) ⟨by omega, by omega⟩ ⟨by omega, by omega⟩ (fun h11 => ?_) (fun h11 => ?_)
              · skip
                refine zw_iconst hx hb dX5_fits_68 ?_
                refine lv_goto (tgt := 80) hx hb dX5_fits_69 (by decide) ?_
                exact W.zret (v := zi 0) hx hb hr (zi_nb (by omega)) (fun t ht hW => ⟨zi 0, rfl, by rw [f_X5_fits, if_pos h2, if_neg h3, if_neg h5, if_neg h6, if_pos h7, if_pos h9, if_neg h11], ht⟩) (fun q h => by cases h) dX5_fits_80
              · skip
                refine zw_iconst hx hb dX5_fits_64 ?_
                refine lv_goto (tgt := 80) hx hb dX5_fits_65 (by decide) ?_
                exact W.zret (v := zi 1) hx hb hr (zi_nb (by omega)) (fun t ht hW => ⟨zi 1, rfl, by rw [f_X5_fits, if_pos h2, if_neg h3, if_neg h5, if_neg h6, if_pos h7, if_pos h9, if_pos h11], ht⟩) (fun q h => by cases h) dX5_fits_80
        · skip
          refine lv_iload_n hx hb dX5_fits_30 rfl (lv_at hl 1 rfl) ?_
          refine zw_bipush hx hb dX5_fits_31 (by decide) ?_
          refine zw_icmp_ne (tgt := 48) hx hb dX5_fits_33 (by decide) ⟨by omega, by omega⟩ ⟨by omega, by omega⟩ (fun h12 => ?_) (fun h12 => ?_)
          · skip
            refine lv_iload_n hx hb dX5_fits_48 rfl (lv_at hl 0 rfl) ?_
            refine zw_iconst hx hb dX5_fits_49 ?_
            refine zw_icmp_ne (tgt := 72) hx hb dX5_fits_50 (by decide) ⟨by omega, by omega⟩ ⟨by omega, by omega⟩ (fun h13 => ?_) (fun h13 => ?_)
            · skip
              refine lv_iload_n hx hb dX5_fits_72 rfl (lv_at hl 2 rfl) ?_
              refine zw_bipush hx hb dX5_fits_73 (by decide) ?_
              refine zw_bipush hx hb dX5_fits_75 (by decide) ?_
              have hh14 := c_X5_in l ch 48 57 (by omega) (by omega) (by omega)
              refine vp_callSi (va_Run.run (va_runS (As := [.int (zi ch), .int (zi 48), .int (zi 57)]) (rest := []) ⟨hx, hb, hml, hown, hts⟩ hh14 (va_cwS 3 hts gX5_fits_X5_in rfl rfl rfl (by decide +kernel) ⟨Nat.le_of_ble_eq_true rfl, Nat.le_of_ble_eq_true rfl⟩) ⟨fun a U g mk q => q, fun U hU hW => ⟨rfl, trivial⟩⟩ rfl rfl hl.1 rfl (lv_room (Nat.le_of_ble_eq_true rfl)) dX5_fits_77 ⟨Nat.zero_le _, Nat.zero_le _⟩)) (fun r14 (hr14 : r14 = zi (f_X5_in ch 48 57)) => ?_)
              subst hr14
              have hf14 := b_X5_in ch 48 57 (by omega) (by omega) (by omega)
              exact W.zret (v := zi (f_X5_in ch 48 57)) hx hb hr (zi_nb (by omega)) (fun t ht hW => ⟨zi (f_X5_in ch 48 57), rfl, by rw [f_X5_fits, if_pos h2, if_neg h3, if_neg h5, if_pos h6, if_neg h12, if_neg h13], ht⟩) (fun q h => by cases h) dX5_fits_80
            · skip
              refine lv_iload_n hx hb dX5_fits_53 rfl (lv_at hl 1 rfl) ?_
              refine zw_iconst hx hb dX5_fits_54 ?_
              refine zw_icmp_ne (tgt := 72) hx hb dX5_fits_55 (by decide) ⟨by omega, by omega⟩ ⟨by omega, by omega⟩ (fun h15 => ?_) (fun h15 => ?_)
              · skip
                refine lv_iload_n hx hb dX5_fits_72 rfl (lv_at hl 2 rfl) ?_
                refine zw_bipush hx hb dX5_fits_73 (by decide) ?_
                refine zw_bipush hx hb dX5_fits_75 (by decide) ?_
                have hh16 := c_X5_in l ch 48 57 (by omega) (by omega) (by omega)
                refine vp_callSi (va_Run.run (va_runS (As := [.int (zi ch), .int (zi 48), .int (zi 57)]) (rest := []) ⟨hx, hb, hml, hown, hts⟩ hh16 (va_cwS 3 hts gX5_fits_X5_in rfl rfl rfl (by decide +kernel) ⟨Nat.le_of_ble_eq_true rfl, Nat.le_of_ble_eq_true rfl⟩) ⟨fun a U g mk q => q, fun U hU hW => ⟨rfl, trivial⟩⟩ rfl rfl hl.1 rfl (lv_room (Nat.le_of_ble_eq_true rfl)) dX5_fits_77 ⟨Nat.zero_le _, Nat.zero_le _⟩)) (fun r16 (hr16 : r16 = zi (f_X5_in ch 48 57)) => ?_)
                subst hr16
                have hf16 := b_X5_in ch 48 57 (by omega) (by omega) (by omega)
                exact W.zret (v := zi (f_X5_in ch 48 57)) hx hb hr (zi_nb (by omega)) (fun t ht hW => ⟨zi (f_X5_in ch 48 57), rfl, by rw [f_X5_fits, if_pos h2, if_neg h3, if_neg h5, if_pos h6, if_neg h12, if_pos h13, if_neg h15], ht⟩) (fun q h => by cases h) dX5_fits_80
              · skip
                refine lv_iload_n hx hb dX5_fits_58 rfl (lv_at hl 2 rfl) ?_
                refine zw_bipush hx hb dX5_fits_59 (by decide) ?_
                refine zw_icmp_ne (tgt := 68) hx hb dX5_fits_61 (by decide) ⟨by omega, by omega⟩ ⟨by omega, by omega⟩ (fun h17 => ?_) (fun h17 => ?_)
                · skip
                  refine zw_iconst hx hb dX5_fits_68 ?_
                  refine lv_goto (tgt := 80) hx hb dX5_fits_69 (by decide) ?_
                  exact W.zret (v := zi 0) hx hb hr (zi_nb (by omega)) (fun t ht hW => ⟨zi 0, rfl, by rw [f_X5_fits, if_pos h2, if_neg h3, if_neg h5, if_pos h6, if_neg h12, if_pos h13, if_pos h15, if_neg h17], ht⟩) (fun q h => by cases h) dX5_fits_80
                · skip
                  refine zw_iconst hx hb dX5_fits_64 ?_
                  refine lv_goto (tgt := 80) hx hb dX5_fits_65 (by decide) ?_
                  exact W.zret (v := zi 1) hx hb hr (zi_nb (by omega)) (fun t ht hW => ⟨zi 1, rfl, by rw [f_X5_fits, if_pos h2, if_neg h3, if_neg h5, if_pos h6, if_neg h12, if_pos h13, if_pos h15, if_pos h17], ht⟩) (fun q h => by cases h) dX5_fits_80
          · skip
            refine lv_iload_n hx hb dX5_fits_36 rfl (lv_at hl 2 rfl) ?_
            refine zw_bipush hx hb dX5_fits_37 (by decide) ?_
            refine zw_icmp_ne (tgt := 46) hx hb dX5_fits_39 (by decide) ⟨by omega, by omega⟩ ⟨by omega, by omega⟩ (fun h18 => ?_) (fun h18 => ?_)
            · skip
              refine zw_iconst hx hb dX5_fits_46 ?_
              exact W.zret (v := zi 0) hx hb hr (zi_nb (by omega)) (fun t ht hW => ⟨zi 0, rfl, by rw [f_X5_fits, if_pos h2, if_neg h3, if_neg h5, if_pos h6, if_pos h12, if_neg h18], ht⟩) (fun q h => by cases h) dX5_fits_47
            · skip
              refine zw_iconst hx hb dX5_fits_42 ?_
              refine lv_goto (tgt := 47) hx hb dX5_fits_43 (by decide) ?_
              exact W.zret (v := zi 1) hx hb hr (zi_nb (by omega)) (fun t ht hW => ⟨zi 1, rfl, by rw [f_X5_fits, if_pos h2, if_neg h3, if_neg h5, if_pos h6, if_pos h12, if_pos h18], ht⟩) (fun q h => by cases h) dX5_fits_47
      · skip
        refine lv_iload_n hx hb dX5_fits_19 rfl (lv_at hl 1 rfl) ?_
        refine zw_bipush hx hb dX5_fits_20 (by decide) ?_
        refine zw_icmp_eq (tgt := 36) hx hb dX5_fits_22 (by decide) ⟨by omega, by omega⟩ ⟨by omega, by omega⟩ (fun h19 => ?_) (fun h19 => ?_)
        · skip
          refine lv_iload_n hx hb dX5_fits_36 rfl (lv_at hl 2 rfl) ?_
          refine zw_bipush hx hb dX5_fits_37 (by decide) ?_
          refine zw_icmp_ne (tgt := 46) hx hb dX5_fits_39 (by decide) ⟨by omega, by omega⟩ ⟨by omega, by omega⟩ (fun h20 => ?_) (fun h20 => ?_)
          · skip
            refine zw_iconst hx hb dX5_fits_46 ?_
            exact W.zret (v := zi 0) hx hb hr (zi_nb (by omega)) (fun t ht hW => ⟨zi 0, rfl, by rw [f_X5_fits, if_pos h2, if_neg h3, if_pos h5, if_pos h19, if_neg h20], ht⟩) (fun q h => by cases h) dX5_fits_47
          · skip
            refine zw_iconst hx hb dX5_fits_42 ?_
            refine lv_goto (tgt := 47) hx hb dX5_fits_43 (by decide) ?_
            exact W.zret (v := zi 1) hx hb hr (zi_nb (by omega)) (fun t ht hW => ⟨zi 1, rfl, by rw [f_X5_fits, if_pos h2, if_neg h3, if_pos h5, if_pos h19, if_pos h20], ht⟩) (fun q h => by cases h) dX5_fits_47
        · skip
          refine lv_iload_n hx hb dX5_fits_25 rfl (lv_at hl 0 rfl) ?_
          refine zw_iconst hx hb dX5_fits_26 ?_
          refine zw_icmp_ne (tgt := 48) hx hb dX5_fits_27 (by decide) ⟨by omega, by omega⟩ ⟨by omega, by omega⟩ (fun h21 => ?_) (fun h21 => ?_)
          · skip
            refine lv_iload_n hx hb dX5_fits_48 rfl (lv_at hl 0 rfl) ?_
            refine zw_iconst hx hb dX5_fits_49 ?_
            refine zw_icmp_ne (tgt := 72) hx hb dX5_fits_50 (by decide) ⟨by omega, by omega⟩ ⟨by omega, by omega⟩ (fun h22 => ?_) (fun h22 => ?_)
            · skip
              refine lv_iload_n hx hb dX5_fits_72 rfl (lv_at hl 2 rfl) ?_
              refine zw_bipush hx hb dX5_fits_73 (by decide) ?_
              refine zw_bipush hx hb dX5_fits_75 (by decide) ?_
              have hh23 := c_X5_in l ch 48 57 (by omega) (by omega) (by omega)
              refine vp_callSi (va_Run.run (va_runS (As := [.int (zi ch), .int (zi 48), .int (zi 57)]) (rest := []) ⟨hx, hb, hml, hown, hts⟩ hh23 (va_cwS 3 hts gX5_fits_X5_in rfl rfl rfl (by decide +kernel) ⟨Nat.le_of_ble_eq_true rfl, Nat.le_of_ble_eq_true rfl⟩) ⟨fun a U g mk q => q, fun U hU hW => ⟨rfl, trivial⟩⟩ rfl rfl hl.1 rfl (lv_room (Nat.le_of_ble_eq_true rfl)) dX5_fits_77 ⟨Nat.zero_le _, Nat.zero_le _⟩)) (fun r23 (hr23 : r23 = zi (f_X5_in ch 48 57)) => ?_)
              subst hr23
              have hf23 := b_X5_in ch 48 57 (by omega) (by omega) (by omega)
              exact W.zret (v := zi (f_X5_in ch 48 57)) hx hb hr (zi_nb (by omega)) (fun t ht hW => ⟨zi (f_X5_in ch 48 57), rfl, by rw [f_X5_fits, if_pos h2, if_neg h3, if_pos h5, if_neg h19, if_neg h21, if_neg h22], ht⟩) (fun q h => by cases h) dX5_fits_80
            · skip
              refine lv_iload_n hx hb dX5_fits_53 rfl (lv_at hl 1 rfl) ?_
              refine zw_iconst hx hb dX5_fits_54 ?_
              refine zw_icmp_ne (tgt := 72) hx hb dX5_fits_55 (by decide) ⟨by omega, by omega⟩ ⟨by omega, by omega⟩ (fun h24 => ?_) (fun h24 => ?_)
              · skip
                refine lv_iload_n hx hb dX5_fits_72 rfl (lv_at hl 2 rfl) ?_
                refine zw_bipush hx hb dX5_fits_73 (by decide) ?_
                refine zw_bipush hx hb dX5_fits_75 (by decide) ?_
                have hh25 := c_X5_in l ch 48 57 (by omega) (by omega) (by omega)
                refine vp_callSi (va_Run.run (va_runS (As := [.int (zi ch), .int (zi 48), .int (zi 57)]) (rest := []) ⟨hx, hb, hml, hown, hts⟩ hh25 (va_cwS 3 hts gX5_fits_X5_in rfl rfl rfl (by decide +kernel) ⟨Nat.le_of_ble_eq_true rfl, Nat.le_of_ble_eq_true rfl⟩) ⟨fun a U g mk q => q, fun U hU hW => ⟨rfl, trivial⟩⟩ rfl rfl hl.1 rfl (lv_room (Nat.le_of_ble_eq_true rfl)) dX5_fits_77 ⟨Nat.zero_le _, Nat.zero_le _⟩)) (fun r25 (hr25 : r25 = zi (f_X5_in ch 48 57)) => ?_)
                subst hr25
                have hf25 := b_X5_in ch 48 57 (by omega) (by omega) (by omega)
                exact W.zret (v := zi (f_X5_in ch 48 57)) hx hb hr (zi_nb (by omega)) (fun t ht hW => ⟨zi (f_X5_in ch 48 57), rfl, by rw [f_X5_fits, if_pos h2, if_neg h3, if_pos h5, if_neg h19, if_neg h21, if_pos h22, if_neg h24], ht⟩) (fun q h => by cases h) dX5_fits_80
              · skip
                refine lv_iload_n hx hb dX5_fits_58 rfl (lv_at hl 2 rfl) ?_
                refine zw_bipush hx hb dX5_fits_59 (by decide) ?_
                refine zw_icmp_ne (tgt := 68) hx hb dX5_fits_61 (by decide) ⟨by omega, by omega⟩ ⟨by omega, by omega⟩ (fun h26 => ?_) (fun h26 => ?_)
                · skip
                  refine zw_iconst hx hb dX5_fits_68 ?_
                  refine lv_goto (tgt := 80) hx hb dX5_fits_69 (by decide) ?_
                  exact W.zret (v := zi 0) hx hb hr (zi_nb (by omega)) (fun t ht hW => ⟨zi 0, rfl, by rw [f_X5_fits, if_pos h2, if_neg h3, if_pos h5, if_neg h19, if_neg h21, if_pos h22, if_pos h24, if_neg h26], ht⟩) (fun q h => by cases h) dX5_fits_80
                · skip
                  refine zw_iconst hx hb dX5_fits_64 ?_
                  refine lv_goto (tgt := 80) hx hb dX5_fits_65 (by decide) ?_
                  exact W.zret (v := zi 1) hx hb hr (zi_nb (by omega)) (fun t ht hW => ⟨zi 1, rfl, by rw [f_X5_fits, if_pos h2, if_neg h3, if_pos h5, if_neg h19, if_neg h21, if_pos h22, if_pos h24, if_pos h26], ht⟩) (fun q h => by cases h) dX5_fits_80
          · skip
            refine lv_iload_n hx hb dX5_fits_30 rfl (lv_at hl 1 rfl) ?_
            refine zw_bipush hx hb dX5_fits_31 (by decide) ?_
            refine zw_icmp_ne (tgt := 48) hx hb dX5_fits_33 (by decide) ⟨by omega, by omega⟩ ⟨by omega, by omega⟩ (fun h27 => ?_) (fun h27 => ?_)
            · skip
              refine lv_iload_n hx hb dX5_fits_48 rfl (lv_at hl 0 rfl) ?_
              refine zw_iconst hx hb dX5_fits_49 ?_
              refine zw_icmp_ne (tgt := 72) hx hb dX5_fits_50 (by decide) ⟨by omega, by omega⟩ ⟨by omega, by omega⟩ (fun h28 => ?_) (fun h28 => ?_)
              · skip
                refine lv_iload_n hx hb dX5_fits_72 rfl (lv_at hl 2 rfl) ?_
                refine zw_bipush hx hb dX5_fits_73 (by decide) ?_
                refine zw_bipush hx hb dX5_fits_75 (by decide) ?_
                have hh29 := c_X5_in l ch 48 57 (by omega) (by omega) (by omega)
                refine vp_callSi (va_Run.run (va_runS (As := [.int (zi ch), .int (zi 48), .int (zi 57)]) (rest := []) ⟨hx, hb, hml, hown, hts⟩ hh29 (va_cwS 3 hts gX5_fits_X5_in rfl rfl rfl (by decide +kernel) ⟨Nat.le_of_ble_eq_true rfl, Nat.le_of_ble_eq_true rfl⟩) ⟨fun a U g mk q => q, fun U hU hW => ⟨rfl, trivial⟩⟩ rfl rfl hl.1 rfl (lv_room (Nat.le_of_ble_eq_true rfl)) dX5_fits_77 ⟨Nat.zero_le _, Nat.zero_le _⟩)) (fun r29 (hr29 : r29 = zi (f_X5_in ch 48 57)) => ?_)
                subst hr29
                have hf29 := b_X5_in ch 48 57 (by omega) (by omega) (by omega)
                exact W.zret (v := zi (f_X5_in ch 48 57)) hx hb hr (zi_nb (by omega)) (fun t ht hW => ⟨zi (f_X5_in ch 48 57), rfl, by rw [f_X5_fits, if_pos h2, if_neg h3, if_pos h5, if_neg h19, if_pos h21, if_neg h27, if_neg h28], ht⟩) (fun q h => by cases h) dX5_fits_80
              · skip
                refine lv_iload_n hx hb dX5_fits_53 rfl (lv_at hl 1 rfl) ?_
                refine zw_iconst hx hb dX5_fits_54 ?_
                refine zw_icmp_ne (tgt := 72) hx hb dX5_fits_55 (by decide) ⟨by omega, by omega⟩ ⟨by omega, by omega⟩ (fun h30 => ?_) (fun h30 => ?_)
                · skip
                  refine lv_iload_n hx hb dX5_fits_72 rfl (lv_at hl 2 rfl) ?_
                  refine zw_bipush hx hb dX5_fits_73 (by decide) ?_
                  refine zw_bipush hx hb dX5_fits_75 (by decide) ?_
                  have hh31 := c_X5_in l ch 48 57 (by omega) (by omega) (by omega)
                  refine vp_callSi (va_Run.run (va_runS (As := [.int (zi ch), .int (zi 48), .int (zi 57)]) (rest := []) ⟨hx, hb, hml, hown, hts⟩ hh31 (va_cwS 3 hts gX5_fits_X5_in rfl rfl rfl (by decide +kernel) ⟨Nat.le_of_ble_eq_true rfl, Nat.le_of_ble_eq_true rfl⟩) ⟨fun a U g mk q => q, fun U hU hW => ⟨rfl, trivial⟩⟩ rfl rfl hl.1 rfl (lv_room (Nat.le_of_ble_eq_true rfl)) dX5_fits_77 ⟨Nat.zero_le _, Nat.zero_le _⟩)) (fun r31 (hr31 : r31 = zi (f_X5_in ch 48 57)) => ?_)
                  subst hr31
                  have hf31 := b_X5_in ch 48 57 (by omega) (by omega) (by omega)
                  exact W.zret (v := zi (f_X5_in ch 48 57)) hx hb hr (zi_nb (by omega)) (fun t ht hW => ⟨zi (f_X5_in ch 48 57), rfl, by rw [f_X5_fits, if_pos h2, if_neg h3, if_pos h5, if_neg h19, if_pos h21, if_neg h27, if_pos h28, if_neg h30], ht⟩) (fun q h => by cases h) dX5_fits_80
                · skip
                  refine lv_iload_n hx hb dX5_fits_58 rfl (lv_at hl 2 rfl) ?_
                  refine zw_bipush hx hb dX5_fits_59 (by decide) ?_
                  refine zw_icmp_ne (tgt := 68) hx hb dX5_fits_61 (by decide) ⟨by omega, by omega⟩ ⟨by omega, by omega⟩ (fun h32 => ?_) (fun h32 => ?_)
                  · skip
                    refine zw_iconst hx hb dX5_fits_68 ?_
                    refine lv_goto (tgt := 80) hx hb dX5_fits_69 (by decide) ?_
                    exact W.zret (v := zi 0) hx hb hr (zi_nb (by omega)) (fun t ht hW => ⟨zi 0, rfl, by rw [f_X5_fits, if_pos h2, if_neg h3, if_pos h5, if_neg h19, if_pos h21, if_neg h27, if_pos h28, if_pos h30, if_neg h32], ht⟩) (fun q h => by cases h) dX5_fits_80
                  · skip
                    refine zw_iconst hx hb dX5_fits_64 ?_
                    refine lv_goto (tgt := 80) hx hb dX5_fits_65 (by decide) ?_
                    exact W.zret (v := zi 1) hx hb hr (zi_nb (by omega)) (fun t ht hW => ⟨zi 1, rfl, by rw [f_X5_fits, if_pos h2, if_neg h3, if_pos h5, if_neg h19, if_pos h21, if_neg h27, if_pos h28, if_pos h30, if_pos h32], ht⟩) (fun q h => by cases h) dX5_fits_80
            · skip
              refine lv_iload_n hx hb dX5_fits_36 rfl (lv_at hl 2 rfl) ?_
              refine zw_bipush hx hb dX5_fits_37 (by decide) ?_
              refine zw_icmp_ne (tgt := 46) hx hb dX5_fits_39 (by decide) ⟨by omega, by omega⟩ ⟨by omega, by omega⟩ (fun h33 => ?_) (fun h33 => ?_)
              · skip
                refine zw_iconst hx hb dX5_fits_46 ?_
                exact W.zret (v := zi 0) hx hb hr (zi_nb (by omega)) (fun t ht hW => ⟨zi 0, rfl, by rw [f_X5_fits, if_pos h2, if_neg h3, if_pos h5, if_neg h19, if_pos h21, if_pos h27, if_neg h33], ht⟩) (fun q h => by cases h) dX5_fits_47
              · skip
                refine zw_iconst hx hb dX5_fits_42 ?_
                refine lv_goto (tgt := 47) hx hb dX5_fits_43 (by decide) ?_
                exact W.zret (v := zi 1) hx hb hr (zi_nb (by omega)) (fun t ht hW => ⟨zi 1, rfl, by rw [f_X5_fits, if_pos h2, if_neg h3, if_pos h5, if_neg h19, if_pos h21, if_pos h27, if_pos h33], ht⟩) (fun q h => by cases h) dX5_fits_47
  · skip
    refine zw_iconst hx hb dX5_fits_8 ?_
    exact W.zret (v := zi 0) hx hb hr (zi_nb (by omega)) (fun t ht hW => ⟨zi 0, rfl, by rw [f_X5_fits, if_neg (Int.not_lt.mpr h2)], ht⟩) (fun q h => by cases h) dX5_fits_9
