set_option maxHeartbeats 4000000 in
set_option maxRecDepth 100000 in
theorem c_X4_needSlot (l : Launch)  (sl : Int) (hp0 : 0 ≤ sl ∧ sl ≤ 9) : Met l yX4_needSlot wsX4_needSlot ({ frames := 0, cells := 0, slots := 0, locals := 0 }) (va_Pc [.int (zi sl)] (fun _ => True)) (va_Sv (fun _ => True)) 0 0 zN := by
  refine Met.ofW (cc := cX4_needSlot) (maxL := 1) (ret := none) (by decide) rfl ?_
  intro p e s m args below meth c s₁ B hml hv
  obtain ⟨rfl, -⟩ := hv
  have hx := B.exec
  have hb := B.bytes
  have hr := B.returns
  have hts := atoms_spec (ws := wsX4_needSlot) B.pre
  have hown : s.vm.findClass RX4 = some m.cls := findClass_of_methodNamed B.named
  have hlocks := B.notSynchronized
  have hl := lv_entry ([.int (zi sl)]) (n := 1) (Nat.le_of_ble_eq_true rfl)
  rw [lg_entry_eq]
  generalize (lg_sl ([.int (zi sl)]) ++ List.replicate (1 - (lg_sl ([.int (zi sl)])).length) Slot.unset).toArray = ls at hl ⊢
  have hl : lv_has ls 1 [(0, .int (zi sl))] := hl
  refine lv_iload_n hx hb dX4_needSlot_0 rfl (lv_at hl 0 rfl) ?_
  refine zw_if_lt (tgt := 10) hx hb dX4_needSlot_1 (by decide) ⟨by omega, by omega⟩ (fun h1 => ?_) (fun h1 => ?_)
  · skip
    exact absurd True.intro (by omega)
  · skip
    refine lv_iload_n hx hb dX4_needSlot_4 rfl (lv_at hl 0 rfl) ?_
    refine zw_bipush hx hb dX4_needSlot_5 (by decide) ?_
    refine zw_icmp_lt (tgt := 20) hx hb dX4_needSlot_7 (by decide) ⟨by omega, by omega⟩ ⟨by omega, by omega⟩ (fun h2 => ?_) (fun h2 => ?_)
    · skip
      exact W.vret hx hb hr (fun t ht hW => ⟨rfl, trivial, ht⟩) (fun q h => by cases h) dX4_needSlot_20
    · skip
      exact absurd True.intro (by omega)

set_option maxHeartbeats 4000000 in
set_option maxRecDepth 100000 in
theorem t_X4_needSlot (l : Launch) (hst : l.stackTraces = false) (sl : Int) (hp0 : -2147483648 ≤ sl ∧ sl ≤ 2147483647) (hp1 : sl < 0 ∨ 9 < sl) : vx_Met l yX4_needSlot wsX4_needSlot ({ frames := 6, cells := 1, slots := 6, locals := 90 }) (zP [.int (zi sl)]) zNo (zX "java/lang/IndexOutOfBoundsException") 1 6 zN := by
  refine vx_ofW (cc := cX4_needSlot) (maxL := 1) (ret := none) (by decide) rfl ?_
  intro p e s m args below meth c s₁ B hml hno hv
  obtain ⟨rfl, hE⟩ := hv
  have hx := B.exec
  have hb := B.bytes
  have hr := B.returns
  have hts := atoms_spec (ws := wsX4_needSlot) B.pre
  have hown : s.vm.findClass RX4 = some m.cls := findClass_of_methodNamed B.named
  have hlocks := B.notSynchronized
  have hl := lv_entry ([.int (zi sl)]) (n := 1) (Nat.le_of_ble_eq_true rfl)
  rw [lg_entry_eq]
  generalize (lg_sl ([.int (zi sl)]) ++ List.replicate (1 - (lg_sl ([.int (zi sl)])).length) Slot.unset).toArray = ls at hl ⊢
  have hl : lv_has ls 1 [(0, .int (zi sl))] := hl
  refine lv_iload_n hx hb dX4_needSlot_0 rfl (lv_at hl 0 rfl) ?_
  refine zw_if_lt (tgt := 10) hx hb dX4_needSlot_1 (by decide) ⟨by omega, by omega⟩ (fun h1 => ?_) (fun h1 => ?_)
  · skip
    exact zt_throw (cls := "java/lang/IndexOutOfBoundsException") (text := "there is no such slot") (ik := 145) (is := 228) (ic := 147) hx hb hst hown hE (by decide +kernel) (hts (.classLink RX4 145 "java/lang/IndexOutOfBoundsException") (by decide +kernel)) (hts (.initialized "java/lang/IndexOutOfBoundsException") (by decide +kernel)) (by decide) (fun w h => hts w (List.mem_cons_of_mem _ (List.mem_append_right _ h))) (by decide +kernel) (by decide +kernel) (hl.1.trans hml.symm) dX4_needSlot_10 dX4_needSlot_13 dX4_needSlot_14 dX4_needSlot_16 dX4_needSlot_19 hno (Nat.le_of_ble_eq_true rfl) (Nat.le_of_ble_eq_true rfl) (Nat.le_of_ble_eq_true rfl) (Nat.le_of_ble_eq_true rfl) hlocks
  · skip
    refine lv_iload_n hx hb dX4_needSlot_4 rfl (lv_at hl 0 rfl) ?_
    refine zw_bipush hx hb dX4_needSlot_5 (by decide) ?_
    refine zw_icmp_lt (tgt := 20) hx hb dX4_needSlot_7 (by decide) ⟨by omega, by omega⟩ ⟨by omega, by omega⟩ (fun h2 => ?_) (fun h2 => ?_)
    · skip
      exact absurd True.intro (by omega)
    · skip
      exact zt_throw (cls := "java/lang/IndexOutOfBoundsException") (text := "there is no such slot") (ik := 145) (is := 228) (ic := 147) hx hb hst hown hE (by decide +kernel) (hts (.classLink RX4 145 "java/lang/IndexOutOfBoundsException") (by decide +kernel)) (hts (.initialized "java/lang/IndexOutOfBoundsException") (by decide +kernel)) (by decide) (fun w h => hts w (List.mem_cons_of_mem _ (List.mem_append_right _ h))) (by decide +kernel) (by decide +kernel) (hl.1.trans hml.symm) dX4_needSlot_10 dX4_needSlot_13 dX4_needSlot_14 dX4_needSlot_16 dX4_needSlot_19 hno (Nat.le_of_ble_eq_true rfl) (Nat.le_of_ble_eq_true rfl) (Nat.le_of_ble_eq_true rfl) (Nat.le_of_ble_eq_true rfl) hlocks

set_option maxHeartbeats 4000000 in
set_option maxRecDepth 100000 in
theorem c_X4_needUnit (l : Launch)  (un : Int) (hp0 : 0 ≤ un ∧ un ≤ 2) : Met l yX4_needUnit wsX4_needUnit ({ frames := 0, cells := 0, slots := 0, locals := 0 }) (va_Pc [.int (zi un)] (fun _ => True)) (va_Sv (fun _ => True)) 0 0 zN := by
  refine Met.ofW (cc := cX4_needUnit) (maxL := 1) (ret := none) (by decide) rfl ?_
  intro p e s m args below meth c s₁ B hml hv
  obtain ⟨rfl, -⟩ := hv
  have hx := B.exec
  have hb := B.bytes
  have hr := B.returns
  have hts := atoms_spec (ws := wsX4_needUnit) B.pre
  have hown : s.vm.findClass RX4 = some m.cls := findClass_of_methodNamed B.named
  have hlocks := B.notSynchronized
  have hl := lv_entry ([.int (zi un)]) (n := 1) (Nat.le_of_ble_eq_true rfl)
  rw [lg_entry_eq]
  generalize (lg_sl ([.int (zi un)]) ++ List.replicate (1 - (lg_sl ([.int (zi un)])).length) Slot.unset).toArray = ls at hl ⊢
  have hl : lv_has ls 1 [(0, .int (zi un))] := hl
  refine lv_iload_n hx hb dX4_needUnit_0 rfl (lv_at hl 0 rfl) ?_
  refine zw_if_lt (tgt := 9) hx hb dX4_needUnit_1 (by decide) ⟨by omega, by omega⟩ (fun h1 => ?_) (fun h1 => ?_)
  · skip
    exact absurd True.intro (by omega)
  · skip
    refine lv_iload_n hx hb dX4_needUnit_4 rfl (lv_at hl 0 rfl) ?_
    refine zw_iconst hx hb dX4_needUnit_5 ?_
    refine zw_icmp_le (tgt := 19) hx hb dX4_needUnit_6 (by decide) ⟨by omega, by omega⟩ ⟨by omega, by omega⟩ (fun h2 => ?_) (fun h2 => ?_)
    · skip
      exact W.vret hx hb hr (fun t ht hW => ⟨rfl, trivial, ht⟩) (fun q h => by cases h) dX4_needUnit_19
    · skip
      exact absurd True.intro (by omega)

set_option maxHeartbeats 4000000 in
set_option maxRecDepth 100000 in
theorem t_X4_needUnit (l : Launch) (hst : l.stackTraces = false) (un : Int) (hp0 : -2147483648 ≤ un ∧ un ≤ 2147483647) (hp1 : un < 0 ∨ 2 < un) : vx_Met l yX4_needUnit wsX4_needUnit ({ frames := 6, cells := 1, slots := 6, locals := 90 }) (zP [.int (zi un)]) zNo (zX "java/lang/IllegalArgumentException") 1 6 zN := by
  refine vx_ofW (cc := cX4_needUnit) (maxL := 1) (ret := none) (by decide) rfl ?_
  intro p e s m args below meth c s₁ B hml hno hv
  obtain ⟨rfl, hE⟩ := hv
  have hx := B.exec
  have hb := B.bytes
  have hr := B.returns
  have hts := atoms_spec (ws := wsX4_needUnit) B.pre
  have hown : s.vm.findClass RX4 = some m.cls := findClass_of_methodNamed B.named
  have hlocks := B.notSynchronized
  have hl := lv_entry ([.int (zi un)]) (n := 1) (Nat.le_of_ble_eq_true rfl)
  rw [lg_entry_eq]
  generalize (lg_sl ([.int (zi un)]) ++ List.replicate (1 - (lg_sl ([.int (zi un)])).length) Slot.unset).toArray = ls at hl ⊢
  have hl : lv_has ls 1 [(0, .int (zi un))] := hl
  refine lv_iload_n hx hb dX4_needUnit_0 rfl (lv_at hl 0 rfl) ?_
  refine zw_if_lt (tgt := 9) hx hb dX4_needUnit_1 (by decide) ⟨by omega, by omega⟩ (fun h1 => ?_) (fun h1 => ?_)
  · skip
    exact zt_throw (cls := "java/lang/IllegalArgumentException") (text := "there is no such unit") (ik := 88) (is := 230) (ic := 92) hx hb hst hown hE (by decide +kernel) (hts (.classLink RX4 88 "java/lang/IllegalArgumentException") (by decide +kernel)) (hts (.initialized "java/lang/IllegalArgumentException") (by decide +kernel)) (by decide) (fun w h => hts w (List.mem_cons_of_mem _ (List.mem_append_right _ h))) (by decide +kernel) (by decide +kernel) (hl.1.trans hml.symm) dX4_needUnit_9 dX4_needUnit_12 dX4_needUnit_13 dX4_needUnit_15 dX4_needUnit_18 hno (Nat.le_of_ble_eq_true rfl) (Nat.le_of_ble_eq_true rfl) (Nat.le_of_ble_eq_true rfl) (Nat.le_of_ble_eq_true rfl) hlocks
  · skip
    refine lv_iload_n hx hb dX4_needUnit_4 rfl (lv_at hl 0 rfl) ?_
    refine zw_iconst hx hb dX4_needUnit_5 ?_
    refine zw_icmp_le (tgt := 19) hx hb dX4_needUnit_6 (by decide) ⟨by omega, by omega⟩ ⟨by omega, by omega⟩ (fun h2 => ?_) (fun h2 => ?_)
    · skip
      exact absurd True.intro (by omega)
    · skip
      exact zt_throw (cls := "java/lang/IllegalArgumentException") (text := "there is no such unit") (ik := 88) (is := 230) (ic := 92) hx hb hst hown hE (by decide +kernel) (hts (.classLink RX4 88 "java/lang/IllegalArgumentException") (by decide +kernel)) (hts (.initialized "java/lang/IllegalArgumentException") (by decide +kernel)) (by decide) (fun w h => hts w (List.mem_cons_of_mem _ (List.mem_append_right _ h))) (by decide +kernel) (by decide +kernel) (hl.1.trans hml.symm) dX4_needUnit_9 dX4_needUnit_12 dX4_needUnit_13 dX4_needUnit_15 dX4_needUnit_18 hno (Nat.le_of_ble_eq_true rfl) (Nat.le_of_ble_eq_true rfl) (Nat.le_of_ble_eq_true rfl) (Nat.le_of_ble_eq_true rfl) hlocks

set_option maxHeartbeats 4000000 in
set_option maxRecDepth 100000 in
theorem c_X4_dateIn (l : Launch)  (dC : Nat → ClassId) (dI : Nat → Nat → Nat) (cI : ClassId) (h0 qs qr qm qw qt : Nat) (we : Int) (sf : Nat → Int) (sl : Int) (hp0 : 0 ≤ sl ∧ sl ≤ 9) (hp1 : 0 ≤ sf sl.toNat ∧ sf sl.toNat ≤ 3652058) : Met l yX4_dateIn wsX4_dateIn ({ frames := 0, cells := 0, slots := 0, locals := 0 }) (zPr (dC, dI) [(cI, .int)] [.ref h0, .int (zi sl)] [(h0, .inr (4, [.ref qs, .ref qr, .ref qm, .ref qw, .ref qt, .int (zi we)])), (qs, aI cI 10 sf)]) (vp_Si (fun r => r = zi (sf sl.toNat))) 0 0 zN := by
  refine Met.ofW (cc := cX4_dateIn) (maxL := 3) (ret := (some .int)) (by decide) rfl ?_
  intro p e s m args below meth c s₁ B hml hv
  obtain ⟨rfl, hP, hK⟩ := hv
  have hx := B.exec
  have hb := B.bytes
  have hr := B.returns
  have hts := atoms_spec (ws := wsX4_dateIn) B.pre
  have hown : s.vm.findClass RX4 = some m.cls := findClass_of_methodNamed B.named
  have hlocks := B.notSynchronized
  have hl := lv_entry ([.ref h0, .int (zi sl)]) (n := 3) (Nat.le_of_ble_eq_true rfl)
  rw [lg_entry_eq]
  generalize (lg_sl ([.ref h0, .int (zi sl)]) ++ List.replicate (3 - (lg_sl ([.ref h0, .int (zi sl)])).length) Slot.unset).toArray = ls at hl ⊢
  have hl : lv_has ls 3 [(0, .ref h0), (1, .int (zi sl))] := hl
  refine lv_aload_n hx hb dX4_dateIn_0 rfl (lv_at hl 0 rfl) ?_
  refine va_get (D := (dC, dI)) (ci := 4) (v := .ref qs) (C := RX4) (T := TX4) (N := 6) hx hb hts (by decide +kernel) hown hK hP 0 rfl rfl 0 (by decide) (hts (.fieldLink RX4 9 "CivilDays" "slots" "[I") (by decide +kernel)) (fun _ h9 => h9) rfl dX4_dateIn_1 ?_
  refine lv_iload_n hx hb dX4_dateIn_4 rfl (lv_at hl 1 rfl) ?_
  refine zw_iald hx hb hK hP 1 0 rfl rfl (by omega) (by omega) ⟨by omega, by omega⟩ dX4_dateIn_5 ?_
  refine zw_top (fun x1 ex1 => ?_)
  refine lv_istore_n (lv' := [(2, .int (zi x1)), (0, .ref h0), (1, .int (zi sl))]) hx hb dX4_dateIn_6 rfl hl (by decide) rfl (fun ls hl => ?_)
  refine lv_iload_n hx hb dX4_dateIn_7 rfl (lv_at hl 0 rfl) ?_
  refine zw_iconst hx hb dX4_dateIn_8 ?_
  refine zw_icmp_ne (tgt := 22) hx hb dX4_dateIn_9 (by decide) ⟨by omega, by omega⟩ ⟨by omega, by omega⟩ (fun h2 => ?_) (fun h2 => ?_)
  · skip
    refine lv_iload_n hx hb dX4_dateIn_22 rfl (lv_at hl 0 rfl) ?_
    subst ex1
    exact W.iret (v := zi (sf sl.toNat)) hx hb hr (fun t ht hW => ⟨zi (sf sl.toNat), rfl, rfl, ht⟩) (fun q h => by cases h) dX4_dateIn_23
  · skip
    exact absurd True.intro (by omega)

set_option maxHeartbeats 4000000 in
set_option maxRecDepth 100000 in
theorem t_X4_dateIn (l : Launch) (hst : l.stackTraces = false) (dC : Nat → ClassId) (dI : Nat → Nat → Nat) (cI : ClassId) (h0 qs qr qm qw qt : Nat) (we : Int) (sf : Nat → Int) (sl : Int) (hp0 : 0 ≤ sl ∧ sl ≤ 9) (hp1 : sf sl.toNat = -1) : vx_Met l yX4_dateIn wsX4_dateIn ({ frames := 6, cells := 1, slots := 6, locals := 90 }) (zPt (dC, dI) [(cI, .int)] [.ref h0, .int (zi sl)] [(h0, .inr (4, [.ref qs, .ref qr, .ref qm, .ref qw, .ref qt, .int (zi we)])), (qs, aI cI 10 sf)]) zNo (zX "java/lang/IllegalStateException") 1 6 zN := by
  refine vx_ofW (cc := cX4_dateIn) (maxL := 3) (ret := (some .int)) (by decide) rfl ?_
  intro p e s m args below meth c s₁ B hml hno hv
  obtain ⟨rfl, hE, hP, hK⟩ := hv
  have hx := B.exec
  have hb := B.bytes
  have hr := B.returns
  have hts := atoms_spec (ws := wsX4_dateIn) B.pre
  have hown : s.vm.findClass RX4 = some m.cls := findClass_of_methodNamed B.named
  have hlocks := B.notSynchronized
  have hl := lv_entry ([.ref h0, .int (zi sl)]) (n := 3) (Nat.le_of_ble_eq_true rfl)
  rw [lg_entry_eq]
  generalize (lg_sl ([.ref h0, .int (zi sl)]) ++ List.replicate (3 - (lg_sl ([.ref h0, .int (zi sl)])).length) Slot.unset).toArray = ls at hl ⊢
  have hl : lv_has ls 3 [(0, .ref h0), (1, .int (zi sl))] := hl
  refine lv_aload_n hx hb dX4_dateIn_0 rfl (lv_at hl 0 rfl) ?_
  refine va_get (D := (dC, dI)) (ci := 4) (v := .ref qs) (C := RX4) (T := TX4) (N := 6) hx hb hts (by decide +kernel) hown hK hP 0 rfl rfl 0 (by decide) (hts (.fieldLink RX4 9 "CivilDays" "slots" "[I") (by decide +kernel)) (fun _ h9 => h9) rfl dX4_dateIn_1 ?_
  refine lv_iload_n hx hb dX4_dateIn_4 rfl (lv_at hl 1 rfl) ?_
  refine zw_iald hx hb hK hP 1 0 rfl rfl (by omega) (by omega) ⟨by omega, by omega⟩ dX4_dateIn_5 ?_
  refine zw_top (fun x1 ex1 => ?_)
  refine lv_istore_n (lv' := [(2, .int (zi x1)), (0, .ref h0), (1, .int (zi sl))]) hx hb dX4_dateIn_6 rfl hl (by decide) rfl (fun ls hl => ?_)
  refine lv_iload_n hx hb dX4_dateIn_7 rfl (lv_at hl 0 rfl) ?_
  refine zw_iconst hx hb dX4_dateIn_8 ?_
  refine zw_icmp_ne (tgt := 22) hx hb dX4_dateIn_9 (by decide) ⟨by omega, by omega⟩ ⟨by omega, by omega⟩ (fun h2 => ?_) (fun h2 => ?_)
  · skip
    exact absurd True.intro (by omega)
  · skip
    exact zt_throw (cls := "java/lang/IllegalStateException") (text := "the slot has no date") (ik := 232) (is := 234) (ic := 236) hx hb hst hown hE (by decide +kernel) (hts (.classLink RX4 232 "java/lang/IllegalStateException") (by decide +kernel)) (hts (.initialized "java/lang/IllegalStateException") (by decide +kernel)) (by decide) (fun w h => hts w (List.mem_cons_of_mem _ (List.mem_append_right _ h))) (by decide +kernel) (by decide +kernel) (hl.1.trans hml.symm) dX4_dateIn_12 dX4_dateIn_15 dX4_dateIn_16 dX4_dateIn_18 dX4_dateIn_21 hno (Nat.le_of_ble_eq_true rfl) (Nat.le_of_ble_eq_true rfl) (Nat.le_of_ble_eq_true rfl) (Nat.le_of_ble_eq_true rfl) hlocks

set_option maxHeartbeats 4000000 in
set_option maxRecDepth 100000 in
theorem c_X4_keep (l : Launch)  (dC : Nat → ClassId) (dI : Nat → Nat → Nat) (cI : ClassId) (h0 qs qr qm qw qt : Nat) (we : Int) (sf : Nat → Int) (sl nu : Int) (sz : Nat) (hp0 : 0 ≤ sl ∧ sl ≤ 9) (hp1 : -2147483648 ≤ nu ∧ nu ≤ 2147483647) (hp2 : nu ≠ -1) : Met l yX4_keep wsX4_keep ({ frames := 0, cells := 0, slots := 0, locals := 0 }) (zPw (dC, dI) [(cI, .int)] sz [.ref h0, .int (zi sl), .int (zi nu)] [(h0, .inr (4, [.ref qs, .ref qr, .ref qm, .ref qw, .ref qt, .int (zi we)])), (qs, aI cI 10 sf)]) (va_Qi (fun (r : Int32) (_ : Unit) => r = zi nu) (zB (dC, dI) [(cI, .int)] (va_A [(h0, .inr (4, [.ref qs, .ref qr, .ref qm, .ref qw, .ref qt, .int (zi we)])), (qs, aI cI 10 sf)] sz) [(h0, .inr (4, [.ref qs, .ref qr, .ref qm, .ref qw, .ref qt, .int (zi we)])), (qs, aI cI 10 (zup sf sl.toNat nu))]) (va_A [(h0, .inr (4, [.ref qs, .ref qr, .ref qm, .ref qw, .ref qt, .int (zi we)])), (qs, aI cI 10 sf)] sz)) 0 0 (va_A [(h0, .inr (4, [.ref qs, .ref qr, .ref qm, .ref qw, .ref qt, .int (zi we)])), (qs, aI cI 10 sf)] sz) := by
  refine Met.ofW (cc := cX4_keep) (maxL := 3) (ret := (some .int)) (by decide) rfl ?_
  intro p e s m args below meth c s₁ B hml hv
  obtain ⟨rfl, hsz, hP, hK, hD0⟩ := hv
  have hx := B.exec
  have hb := B.bytes
  have hr := B.returns
  have hts := atoms_spec (ws := wsX4_keep) B.pre
  have hown : s.vm.findClass RX4 = some m.cls := findClass_of_methodNamed B.named
  have hlocks := B.notSynchronized
  subst hsz
  have hD := hD0.self (sz := s.heap.size)
  generalize hAe : va_A [(h0, .inr (4, [.ref qs, .ref qr, .ref qm, .ref qw, .ref qt, .int (zi we)])), (qs, aI cI 10 sf)] s.heap.size = A at hD ⊢
  have hA : ∀ q : Nat, s.heap.size ≤ q → A q := fun q h => by rw [← hAe]; exact Or.inr h
  have hS : va_S A s.heap s.heap [] := va_S.rf
  have hP : va_P (dC, dI) vwCl [(h0, .inr (4, [.ref qs, .ref qr, .ref qm, .ref qw, .ref qt, .int (zi we)])), (qs, aI cI 10 sf)] s.heap := hP
  have hl := lv_entry ([.ref h0, .int (zi sl), .int (zi nu)]) (n := 3) (Nat.le_of_ble_eq_true rfl)
  rw [lg_entry_eq]
  generalize (lg_sl ([.ref h0, .int (zi sl), .int (zi nu)]) ++ List.replicate (3 - (lg_sl ([.ref h0, .int (zi sl), .int (zi nu)])).length) Slot.unset).toArray = ls at hl ⊢
  have hl : lv_has ls 3 [(0, .ref h0), (1, .int (zi sl)), (2, .int (zi nu))] := hl
  refine lv_iload_n hx hb dX4_keep_0 rfl (lv_at hl 2 rfl) ?_
  refine zw_iconst hx hb dX4_keep_1 ?_
  refine zw_icmp_ne (tgt := 15) hx hb dX4_keep_2 (by decide) ⟨by omega, by omega⟩ ⟨by omega, by omega⟩ (fun h1 => ?_) (fun h1 => ?_)
  · skip
    refine lv_aload_n hx hb dX4_keep_15 rfl (lv_at hl 0 rfl) ?_
    refine va_get (D := (dC, dI)) (ci := 4) (v := .ref qs) (C := RX4) (T := TX4) (N := 6) hx hb hts (by decide +kernel) hown hK hP 0 rfl rfl 0 (by decide) (hts (.fieldLink RX4 9 "CivilDays" "slots" "[I") (by decide +kernel)) (fun _ h9 => h9) rfl dX4_keep_16 ?_
    refine lv_iload_n hx hb dX4_keep_19 rfl (lv_at hl 1 rfl) ?_
    refine lv_iload_n hx hb dX4_keep_20 rfl (lv_at hl 2 rfl) ?_
    refine zw_iast hx hb hK hP hD hS 1 0 rfl rfl (by omega) (by omega) ⟨by omega, by omega⟩ dX4_keep_21 (fun H locs hP hD hS => ?_)
    have hP : va_P (dC, dI) vwCl [(h0, .inr (4, [.ref qs, .ref qr, .ref qm, .ref qw, .ref qt, .int (zi we)])), (qs, aI cI 10 (zup sf sl.toNat nu))] H := hP
    have hD : va_D A [(h0, .inr (4, [.ref qs, .ref qr, .ref qm, .ref qw, .ref qt, .int (zi we)])), (qs, aI cI 10 (zup sf sl.toNat nu))] := hD
    refine lv_iload_n hx hb dX4_keep_22 rfl (lv_at hl 2 rfl) ?_
    have hP9 := hP.sub (ws' := [(h0, .inr (4, [.ref qs, .ref qr, .ref qm, .ref qw, .ref qt, .int (zi we)])), (qs, aI cI 10 (zup sf sl.toNat nu))]) [0, 1] rfl
    have hD9 := hD.sub (ws' := [(h0, .inr (4, [.ref qs, .ref qr, .ref qm, .ref qw, .ref qt, .int (zi we)])), (qs, aI cI 10 (zup sf sl.toNat nu))]) [0, 1] (by decide) rfl
    exact W.iret (v := zi nu) hx hb hr (fun t ht hW => ⟨⟨zi nu, (), rfl, rfl, by rw [ht]; exact hP9, va_K.moved hW.alike hK, hD9⟩, hS.F ht⟩) hS.2.2 dX4_keep_23
  · skip
    exact absurd True.intro (by omega)

set_option maxHeartbeats 4000000 in
set_option maxRecDepth 100000 in
theorem t_X4_keep (l : Launch) (hst : l.stackTraces = false) (dC : Nat → ClassId) (dI : Nat → Nat → Nat) (cI : ClassId) (h0 qs qr qm qw qt : Nat) (we : Int) (sf : Nat → Int) (sl nu : Int) (hp0 : 0 ≤ sl ∧ sl ≤ 9) (hp1 : -2147483648 ≤ nu ∧ nu ≤ 2147483647) (hp2 : nu = -1) : vx_Met l yX4_keep wsX4_keep ({ frames := 6, cells := 1, slots := 6, locals := 90 }) (zPt (dC, dI) [(cI, .int)] [.ref h0, .int (zi sl), .int (zi nu)] [(h0, .inr (4, [.ref qs, .ref qr, .ref qm, .ref qw, .ref qt, .int (zi we)])), (qs, aI cI 10 sf)]) zNo (zX "java/lang/IllegalArgumentException") 1 6 zN := by
  refine vx_ofW (cc := cX4_keep) (maxL := 3) (ret := (some .int)) (by decide) rfl ?_
  intro p e s m args below meth c s₁ B hml hno hv
  obtain ⟨rfl, hE, hP, hK⟩ := hv
  have hx := B.exec
  have hb := B.bytes
  have hr := B.returns
  have hts := atoms_spec (ws := wsX4_keep) B.pre
  have hown : s.vm.findClass RX4 = some m.cls := findClass_of_methodNamed B.named
  have hlocks := B.notSynchronized
  have hl := lv_entry ([.ref h0, .int (zi sl), .int (zi nu)]) (n := 3) (Nat.le_of_ble_eq_true rfl)
  rw [lg_entry_eq]
  generalize (lg_sl ([.ref h0, .int (zi sl), .int (zi nu)]) ++ List.replicate (3 - (lg_sl ([.ref h0, .int (zi sl), .int (zi nu)])).length) Slot.unset).toArray = ls at hl ⊢
  have hl : lv_has ls 3 [(0, .ref h0), (1, .int (zi sl)), (2, .int (zi nu))] := hl
  refine lv_iload_n hx hb dX4_keep_0 rfl (lv_at hl 2 rfl) ?_
  refine zw_iconst hx hb dX4_keep_1 ?_
  refine zw_icmp_ne (tgt := 15) hx hb dX4_keep_2 (by decide) ⟨by omega, by omega⟩ ⟨by omega, by omega⟩ (fun h1 => ?_) (fun h1 => ?_)
  · skip
    exact absurd True.intro (by omega)
  · skip
    exact zt_throw (cls := "java/lang/IllegalArgumentException") (text := "there is no such date") (ik := 88) (is := 237) (ic := 92) hx hb hst hown hE (by decide +kernel) (hts (.classLink RX4 88 "java/lang/IllegalArgumentException") (by decide +kernel)) (hts (.initialized "java/lang/IllegalArgumentException") (by decide +kernel)) (by decide) (fun w h => hts w (List.mem_cons_of_mem _ (List.mem_append_right _ h))) (by decide +kernel) (by decide +kernel) (hl.1.trans hml.symm) dX4_keep_5 dX4_keep_8 dX4_keep_9 dX4_keep_11 dX4_keep_14 hno (Nat.le_of_ble_eq_true rfl) (Nat.le_of_ble_eq_true rfl) (Nat.le_of_ble_eq_true rfl) (Nat.le_of_ble_eq_true rfl) hlocks
