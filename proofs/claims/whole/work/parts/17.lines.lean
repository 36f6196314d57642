set_option maxHeartbeats 4000000 in
set_option maxRecDepth 100000 in
theorem c_X1_size (l : Launch)  (dC : Nat → ClassId) (dI : Nat → Nat → Nat) (cI : ClassId) (h0 : Nat) (qc : Nat) (le : Int) (cf : Nat → Int)  : Met l yX1_size wsX1_size ({ frames := 0, cells := 0, slots := 0, locals := 0 }) (zPr (dC, dI) [(cI, .int)] [.ref h0] [(h0, .inr (1, [.ref qc, .int (zi le)])), (qc, aI cI 20 cf)]) (vp_Si (fun r => r = zi le)) 0 0 zN := by
  refine Met.ofW (cc := cX1_size) (maxL := 1) (ret := (some .int)) (by decide) rfl ?_
  intro p e s m args below meth c s₁ B hml hv
  obtain ⟨rfl, hP, hK⟩ := hv
  have hx := B.exec
  have hb := B.bytes
  have hr := B.returns
  have hts := atoms_spec (ws := wsX1_size) B.pre
  have hown : s.vm.findClass RX1 = some m.cls := findClass_of_methodNamed B.named
  have hlocks := B.notSynchronized
  have hl := lv_entry ([.ref h0]) (n := 1) (Nat.le_of_ble_eq_true rfl)
  rw [lg_entry_eq]
  generalize (lg_sl ([.ref h0]) ++ List.replicate (1 - (lg_sl ([.ref h0])).length) Slot.unset).toArray = ls at hl ⊢
  have hl : lv_has ls 1 [(0, .ref h0)] := hl
  refine lv_aload_n hx hb dX1_size_0 rfl (lv_at hl 0 rfl) ?_
  refine va_get (D := (dC, dI)) (ci := 1) (v := .int (zi le)) (C := RX1) (T := TX1) (N := 2) hx hb hts (by decide +kernel) hown hK hP 0 rfl rfl 1 (by decide) (hts (.fieldLink RX1 15 "CivilDays$Line" "length" "I") (by decide +kernel)) (fun _ h9 => h9) rfl dX1_size_1 ?_
  exact W.iret (v := zi le) hx hb hr (fun t ht hW => ⟨zi le, rfl, rfl, ht⟩) (fun q h => by cases h) dX1_size_4

set_option maxHeartbeats 4000000 in
set_option maxRecDepth 100000 in
theorem c_X1_isFull_0 (l : Launch)  (dC : Nat → ClassId) (dI : Nat → Nat → Nat) (cI : ClassId) (h0 : Nat) (qc : Nat) (le : Int) (cf : Nat → Int) (hp0 : 0 ≤ le ∧ le < 20) : Met l yX1_isFull wsX1_isFull ({ frames := 0, cells := 0, slots := 0, locals := 0 }) (zPr (dC, dI) [(cI, .int)] [.ref h0] [(h0, .inr (1, [.ref qc, .int (zi le)])), (qc, aI cI 20 cf)]) (vp_Si (fun r => r = zi 0)) 0 0 zN := by
  refine Met.ofW (cc := cX1_isFull) (maxL := 1) (ret := (some .boolean)) (by decide) rfl ?_
  intro p e s m args below meth c s₁ B hml hv
  obtain ⟨rfl, hP, hK⟩ := hv
  have hx := B.exec
  have hb := B.bytes
  have hr := B.returns
  have hts := atoms_spec (ws := wsX1_isFull) B.pre
  have hown : s.vm.findClass RX1 = some m.cls := findClass_of_methodNamed B.named
  have hlocks := B.notSynchronized
  have hl := lv_entry ([.ref h0]) (n := 1) (Nat.le_of_ble_eq_true rfl)
  rw [lg_entry_eq]
  generalize (lg_sl ([.ref h0]) ++ List.replicate (1 - (lg_sl ([.ref h0])).length) Slot.unset).toArray = ls at hl ⊢
  have hl : lv_has ls 1 [(0, .ref h0)] := hl
  refine lv_aload_n hx hb dX1_isFull_0 rfl (lv_at hl 0 rfl) ?_
  refine va_get (D := (dC, dI)) (ci := 1) (v := .int (zi le)) (C := RX1) (T := TX1) (N := 2) hx hb hts (by decide +kernel) hown hK hP 0 rfl rfl 1 (by decide) (hts (.fieldLink RX1 15 "CivilDays$Line" "length" "I") (by decide +kernel)) (fun _ h9 => h9) rfl dX1_isFull_1 ?_
  refine zw_bipush hx hb dX1_isFull_4 (by decide) ?_
  refine zw_icmp_lt (tgt := 13) hx hb dX1_isFull_6 (by decide) ⟨by omega, by omega⟩ ⟨by omega, by omega⟩ (fun h1 => ?_) (fun h1 => ?_)
  · skip
    refine zw_iconst hx hb dX1_isFull_13 ?_
    exact W.zret (v := zi 0) hx hb hr (zi_nb (by omega)) (fun t ht hW => ⟨zi 0, rfl, rfl, ht⟩) (fun q h => by cases h) dX1_isFull_14
  · skip
    exact absurd True.intro (by omega)

set_option maxHeartbeats 4000000 in
set_option maxRecDepth 100000 in
theorem c_X1_isFull_1 (l : Launch)  (dC : Nat → ClassId) (dI : Nat → Nat → Nat) (cI : ClassId) (h0 : Nat) (qc : Nat) (le : Int) (cf : Nat → Int) (hp0 : le = 20) : Met l yX1_isFull wsX1_isFull ({ frames := 0, cells := 0, slots := 0, locals := 0 }) (zPr (dC, dI) [(cI, .int)] [.ref h0] [(h0, .inr (1, [.ref qc, .int (zi le)])), (qc, aI cI 20 cf)]) (vp_Si (fun r => r = zi 1)) 0 0 zN := by
  refine Met.ofW (cc := cX1_isFull) (maxL := 1) (ret := (some .boolean)) (by decide) rfl ?_
  intro p e s m args below meth c s₁ B hml hv
  obtain ⟨rfl, hP, hK⟩ := hv
  have hx := B.exec
  have hb := B.bytes
  have hr := B.returns
  have hts := atoms_spec (ws := wsX1_isFull) B.pre
  have hown : s.vm.findClass RX1 = some m.cls := findClass_of_methodNamed B.named
  have hlocks := B.notSynchronized
  have hl := lv_entry ([.ref h0]) (n := 1) (Nat.le_of_ble_eq_true rfl)
  rw [lg_entry_eq]
  generalize (lg_sl ([.ref h0]) ++ List.replicate (1 - (lg_sl ([.ref h0])).length) Slot.unset).toArray = ls at hl ⊢
  have hl : lv_has ls 1 [(0, .ref h0)] := hl
  refine lv_aload_n hx hb dX1_isFull_0 rfl (lv_at hl 0 rfl) ?_
  refine va_get (D := (dC, dI)) (ci := 1) (v := .int (zi le)) (C := RX1) (T := TX1) (N := 2) hx hb hts (by decide +kernel) hown hK hP 0 rfl rfl 1 (by decide) (hts (.fieldLink RX1 15 "CivilDays$Line" "length" "I") (by decide +kernel)) (fun _ h9 => h9) rfl dX1_isFull_1 ?_
  refine zw_bipush hx hb dX1_isFull_4 (by decide) ?_
  refine zw_icmp_lt (tgt := 13) hx hb dX1_isFull_6 (by decide) ⟨by omega, by omega⟩ ⟨by omega, by omega⟩ (fun h1 => ?_) (fun h1 => ?_)
  · skip
    exact absurd True.intro (by omega)
  · skip
    refine zw_iconst hx hb dX1_isFull_9 ?_
    refine lv_goto (tgt := 14) hx hb dX1_isFull_10 (by decide) ?_
    exact W.zret (v := zi 1) hx hb hr (zi_nb (by omega)) (fun t ht hW => ⟨zi 1, rfl, rfl, ht⟩) (fun q h => by cases h) dX1_isFull_14

set_option maxHeartbeats 4000000 in
set_option maxRecDepth 100000 in
theorem c_X1_empty (l : Launch)  (dC : Nat → ClassId) (dI : Nat → Nat → Nat) (cI : ClassId) (h0 : Nat) (qc : Nat) (le : Int) (cf : Nat → Int) (sz : Nat)  : Met l yX1_empty wsX1_empty ({ frames := 0, cells := 0, slots := 0, locals := 0 }) (zPw (dC, dI) [(cI, .int)] sz [.ref h0] [(h0, .inr (1, [.ref qc, .int (zi le)])), (qc, aI cI 20 cf)]) (va_Qv (fun (_ : Unit) => True) (zB (dC, dI) [(cI, .int)] (va_A [(h0, .inr (1, [.ref qc, .int (zi le)])), (qc, aI cI 20 cf)] sz) [(h0, .inr (1, [.ref qc, .int (zi 0)])), (qc, aI cI 20 cf)]) (va_A [(h0, .inr (1, [.ref qc, .int (zi le)])), (qc, aI cI 20 cf)] sz)) 0 0 (va_A [(h0, .inr (1, [.ref qc, .int (zi le)])), (qc, aI cI 20 cf)] sz) := by
  refine Met.ofW (cc := cX1_empty) (maxL := 1) (ret := none) (by decide) rfl ?_
  intro p e s m args below meth c s₁ B hml hv
  obtain ⟨rfl, hsz, hP, hK, hD0⟩ := hv
  have hx := B.exec
  have hb := B.bytes
  have hr := B.returns
  have hts := atoms_spec (ws := wsX1_empty) B.pre
  have hown : s.vm.findClass RX1 = some m.cls := findClass_of_methodNamed B.named
  have hlocks := B.notSynchronized
  subst hsz
  have hD := hD0.self (sz := s.heap.size)
  generalize hAe : va_A [(h0, .inr (1, [.ref qc, .int (zi le)])), (qc, aI cI 20 cf)] s.heap.size = A at hD ⊢
  have hA : ∀ q : Nat, s.heap.size ≤ q → A q := fun q h => by rw [← hAe]; exact Or.inr h
  have hS : va_S A s.heap s.heap [] := va_S.rf
  have hP : va_P (dC, dI) vwCl [(h0, .inr (1, [.ref qc, .int (zi le)])), (qc, aI cI 20 cf)] s.heap := hP
  have hl := lv_entry ([.ref h0]) (n := 1) (Nat.le_of_ble_eq_true rfl)
  rw [lg_entry_eq]
  generalize (lg_sl ([.ref h0]) ++ List.replicate (1 - (lg_sl ([.ref h0])).length) Slot.unset).toArray = ls at hl ⊢
  have hl : lv_has ls 1 [(0, .ref h0)] := hl
  refine lv_aload_n hx hb dX1_empty_0 rfl (lv_at hl 0 rfl) ?_
  refine zw_iconst hx hb dX1_empty_1 ?_
  refine va_put (D := (dC, dI)) (ci := 1) (v := .int (zi 0)) (ty := .int) (C := RX1) (T := TX1) (N := 2) hx hb hts (by decide +kernel) tyX1 tyX1_ok nmX1 hown hK hP hD hS 0 rfl rfl 1 (by decide) (hts (.fieldLink RX1 15 "CivilDays$Line" "length" "I") (by decide +kernel)) (fun _ h9 => h9) rfl (by decide +kernel) rfl rfl (Nat.le_of_ble_eq_true rfl) dX1_empty_2 (fun H locs hP hD hS => ?_)
  have hP : va_P (dC, dI) vwCl [(h0, .inr (1, [.ref qc, .int (zi 0)])), (qc, aI cI 20 cf)] H := hP
  have hD : va_D A [(h0, .inr (1, [.ref qc, .int (zi 0)])), (qc, aI cI 20 cf)] := hD
  have hP9 := hP.sub (ws' := [(h0, .inr (1, [.ref qc, .int (zi 0)])), (qc, aI cI 20 cf)]) [0, 1] rfl
  have hD9 := hD.sub (ws' := [(h0, .inr (1, [.ref qc, .int (zi 0)])), (qc, aI cI 20 cf)]) [0, 1] (by decide) rfl
  exact W.vret hx hb hr (fun t ht hW => ⟨⟨(), rfl, trivial, by rw [ht]; exact hP9, va_K.moved hW.alike hK, hD9⟩, hS.F ht⟩) hS.2.2 dX1_empty_5

set_option maxHeartbeats 4000000 in
set_option maxRecDepth 100000 in
theorem c_X1_add (l : Launch)  (dC : Nat → ClassId) (dI : Nat → Nat → Nat) (cI : ClassId) (h0 : Nat) (qc : Nat) (le : Int) (cf : Nat → Int) (ch : Int) (sz : Nat) (hp0 : 0 ≤ le ∧ le < 20) : Met l yX1_add wsX1_add ({ frames := 0, cells := 0, slots := 0, locals := 0 }) (zPw (dC, dI) [(cI, .int)] sz [.ref h0, .int (zi ch)] [(h0, .inr (1, [.ref qc, .int (zi le)])), (qc, aI cI 20 cf)]) (va_Qv (fun (_ : Unit) => True) (zB (dC, dI) [(cI, .int)] (va_A [(h0, .inr (1, [.ref qc, .int (zi le)])), (qc, aI cI 20 cf)] sz) [(h0, .inr (1, [.ref qc, .int (zi (le + 1))])), (qc, aI cI 20 (zup cf le.toNat ch))]) (va_A [(h0, .inr (1, [.ref qc, .int (zi le)])), (qc, aI cI 20 cf)] sz)) 0 0 (va_A [(h0, .inr (1, [.ref qc, .int (zi le)])), (qc, aI cI 20 cf)] sz) := by
  refine Met.ofW (cc := cX1_add) (maxL := 2) (ret := none) (by decide) rfl ?_
  intro p e s m args below meth c s₁ B hml hv
  obtain ⟨rfl, hsz, hP, hK, hD0⟩ := hv
  have hx := B.exec
  have hb := B.bytes
  have hr := B.returns
  have hts := atoms_spec (ws := wsX1_add) B.pre
  have hown : s.vm.findClass RX1 = some m.cls := findClass_of_methodNamed B.named
  have hlocks := B.notSynchronized
  subst hsz
  have hD := hD0.self (sz := s.heap.size)
  generalize hAe : va_A [(h0, .inr (1, [.ref qc, .int (zi le)])), (qc, aI cI 20 cf)] s.heap.size = A at hD ⊢
  have hA : ∀ q : Nat, s.heap.size ≤ q → A q := fun q h => by rw [← hAe]; exact Or.inr h
  have hS : va_S A s.heap s.heap [] := va_S.rf
  have hP : va_P (dC, dI) vwCl [(h0, .inr (1, [.ref qc, .int (zi le)])), (qc, aI cI 20 cf)] s.heap := hP
  have hl := lv_entry ([.ref h0, .int (zi ch)]) (n := 2) (Nat.le_of_ble_eq_true rfl)
  rw [lg_entry_eq]
  generalize (lg_sl ([.ref h0, .int (zi ch)]) ++ List.replicate (2 - (lg_sl ([.ref h0, .int (zi ch)])).length) Slot.unset).toArray = ls at hl ⊢
  have hl : lv_has ls 2 [(0, .ref h0), (1, .int (zi ch))] := hl
  refine lv_aload_n hx hb dX1_add_0 rfl (lv_at hl 0 rfl) ?_
  refine va_get (D := (dC, dI)) (ci := 1) (v := .int (zi le)) (C := RX1) (T := TX1) (N := 2) hx hb hts (by decide +kernel) hown hK hP 0 rfl rfl 1 (by decide) (hts (.fieldLink RX1 15 "CivilDays$Line" "length" "I") (by decide +kernel)) (fun _ h9 => h9) rfl dX1_add_1 ?_
  refine zw_bipush hx hb dX1_add_4 (by decide) ?_
  refine zw_icmp_ge (tgt := 29) hx hb dX1_add_6 (by decide) ⟨by omega, by omega⟩ ⟨by omega, by omega⟩ (fun h1 => ?_) (fun h1 => ?_)
  · skip
    exact absurd True.intro (by omega)
  · skip
    refine lv_aload_n hx hb dX1_add_9 rfl (lv_at hl 0 rfl) ?_
    refine va_get (D := (dC, dI)) (ci := 1) (v := .ref qc) (C := RX1) (T := TX1) (N := 2) hx hb hts (by decide +kernel) hown hK hP 0 rfl rfl 0 (by decide) (hts (.fieldLink RX1 11 "CivilDays$Line" "characters" "[I") (by decide +kernel)) (fun _ h9 => h9) rfl dX1_add_10 ?_
    refine lv_aload_n hx hb dX1_add_13 rfl (lv_at hl 0 rfl) ?_
    refine va_get (D := (dC, dI)) (ci := 1) (v := .int (zi le)) (C := RX1) (T := TX1) (N := 2) hx hb hts (by decide +kernel) hown hK hP 0 rfl rfl 1 (by decide) (hts (.fieldLink RX1 15 "CivilDays$Line" "length" "I") (by decide +kernel)) (fun _ h9 => h9) rfl dX1_add_14 ?_
    refine lv_iload_n hx hb dX1_add_17 rfl (lv_at hl 1 rfl) ?_
    refine zw_iast hx hb hK hP hD hS 1 0 rfl rfl (by omega) (by omega) ⟨by omega, by omega⟩ dX1_add_18 (fun H locs hP hD hS => ?_)
    have hP : va_P (dC, dI) vwCl [(h0, .inr (1, [.ref qc, .int (zi le)])), (qc, aI cI 20 (zup cf le.toNat ch))] H := hP
    have hD : va_D A [(h0, .inr (1, [.ref qc, .int (zi le)])), (qc, aI cI 20 (zup cf le.toNat ch))] := hD
    refine lv_aload_n hx hb dX1_add_19 rfl (lv_at hl 0 rfl) ?_
    refine lv_dup hx hb dX1_add_20 rfl ?_
    refine va_get (D := (dC, dI)) (ci := 1) (v := .int (zi le)) (C := RX1) (T := TX1) (N := 2) hx hb hts (by decide +kernel) hown hK hP 0 rfl rfl 1 (by decide) (hts (.fieldLink RX1 15 "CivilDays$Line" "length" "I") (by decide +kernel)) (fun _ h9 => h9) rfl dX1_add_21 ?_
    refine zw_iconst hx hb dX1_add_24 ?_
    refine zw_iadd hx hb dX1_add_25 ?_
    refine va_put (D := (dC, dI)) (ci := 1) (v := .int (zi (le + 1))) (ty := .int) (C := RX1) (T := TX1) (N := 2) hx hb hts (by decide +kernel) tyX1 tyX1_ok nmX1 hown hK hP hD hS 0 rfl rfl 1 (by decide) (hts (.fieldLink RX1 15 "CivilDays$Line" "length" "I") (by decide +kernel)) (fun _ h9 => h9) rfl (by decide +kernel) rfl rfl (Nat.le_of_ble_eq_true rfl) dX1_add_26 (fun H locs hP hD hS => ?_)
    have hP : va_P (dC, dI) vwCl [(h0, .inr (1, [.ref qc, .int (zi (le + 1))])), (qc, aI cI 20 (zup cf le.toNat ch))] H := hP
    have hD : va_D A [(h0, .inr (1, [.ref qc, .int (zi (le + 1))])), (qc, aI cI 20 (zup cf le.toNat ch))] := hD
    have hP9 := hP.sub (ws' := [(h0, .inr (1, [.ref qc, .int (zi (le + 1))])), (qc, aI cI 20 (zup cf le.toNat ch))]) [0, 1] rfl
    have hD9 := hD.sub (ws' := [(h0, .inr (1, [.ref qc, .int (zi (le + 1))])), (qc, aI cI 20 (zup cf le.toNat ch))]) [0, 1] (by decide) rfl
    exact W.vret hx hb hr (fun t ht hW => ⟨⟨(), rfl, trivial, by rw [ht]; exact hP9, va_K.moved hW.alike hK, hD9⟩, hS.F ht⟩) hS.2.2 dX1_add_29

set_option maxHeartbeats 4000000 in
set_option maxRecDepth 100000 in
theorem c_X1_addDigits_1000 (l : Launch)  (dC : Nat → ClassId) (dI : Nat → Nat → Nat) (cI : ClassId) (h0 : Nat) (qc : Nat) (le : Int) (cf : Nat → Int) (va : Int) (sz : Nat) (hp0 : 0 ≤ le ∧ le ≤ 16) (hp1 : 0 ≤ va ∧ va ≤ 99999) : Met l yX1_addDigits wsX1_addDigits ({ frames := 1, cells := 0, slots := 0, locals := 21 }) (zPw (dC, dI) [(cI, .int)] sz [.ref h0, .int (zi va), .int (zi 1000)] [(h0, .inr (1, [.ref qc, .int (zi le)])), (qc, aI cI 20 cf)]) (va_Qv (fun (_ : Unit) => True) (zB (dC, dI) [(cI, .int)] (va_A [(h0, .inr (1, [.ref qc, .int (zi le)])), (qc, aI cI 20 cf)] sz) [(h0, .inr (1, [.ref qc, .int (zi ((((le + 1) + 1) + 1) + 1))])), (qc, aI cI 20 (zup (zup (zup (zup cf le.toNat (48 + ((va / 1000) % 10))) (Int.toNat (le + 1)) (48 + ((va / 100) % 10))) (Int.toNat ((le + 1) + 1)) (48 + ((va / 10) % 10))) (Int.toNat (((le + 1) + 1) + 1)) (48 + ((va / 1) % 10))))]) (va_A [(h0, .inr (1, [.ref qc, .int (zi le)])), (qc, aI cI 20 cf)] sz)) 0 0 (va_A [(h0, .inr (1, [.ref qc, .int (zi le)])), (qc, aI cI 20 cf)] sz) := by
  refine Met.ofW (cc := cX1_addDigits) (maxL := 4) (ret := none) (by decide) rfl ?_
  intro p e s m args below meth c s₁ B hml hv
  obtain ⟨rfl, hsz, hP, hK, hD0⟩ := hv
  have hx := B.exec
  have hb := B.bytes
  have hr := B.returns
  have hts := atoms_spec (ws := wsX1_addDigits) B.pre
  have hown : s.vm.findClass RX1 = some m.cls := findClass_of_methodNamed B.named
  have hlocks := B.notSynchronized
  subst hsz
  have hD := hD0.self (sz := s.heap.size)
  generalize hAe : va_A [(h0, .inr (1, [.ref qc, .int (zi le)])), (qc, aI cI 20 cf)] s.heap.size = A at hD ⊢
  have hA : ∀ q : Nat, s.heap.size ≤ q → A q := fun q h => by rw [← hAe]; exact Or.inr h
  have hS : va_S A s.heap s.heap [] := va_S.rf
  have hP : va_P (dC, dI) vwCl [(h0, .inr (1, [.ref qc, .int (zi le)])), (qc, aI cI 20 cf)] s.heap := hP
  have hl := lv_entry ([.ref h0, .int (zi va), .int (zi 1000)]) (n := 4) (Nat.le_of_ble_eq_true rfl)
  rw [lg_entry_eq]
  generalize (lg_sl ([.ref h0, .int (zi va), .int (zi 1000)]) ++ List.replicate (4 - (lg_sl ([.ref h0, .int (zi va), .int (zi 1000)])).length) Slot.unset).toArray = ls at hl ⊢
  have hl : lv_has ls 4 [(0, .ref h0), (1, .int (zi va)), (2, .int (zi 1000))] := hl
  refine lv_iload_n hx hb dX1_addDigits_0 rfl (lv_at hl 2 rfl) ?_
  refine lv_istore_n (lv' := [(3, .int (zi 1000)), (0, .ref h0), (1, .int (zi va)), (2, .int (zi 1000))]) hx hb dX1_addDigits_1 rfl hl (by decide) rfl (fun ls hl => ?_)
  refine lv_iload_n hx hb dX1_addDigits_2 rfl (lv_at hl 0 rfl) ?_
  refine zw_if_le (tgt := 27) hx hb dX1_addDigits_3 (by decide) ⟨by omega, by omega⟩ (fun h1 => ?_) (fun h1 => ?_)
  · skip
    exact absurd True.intro (by omega)
  · skip
    refine lv_aload_n hx hb dX1_addDigits_6 rfl (lv_at hl 1 rfl) ?_
    refine zw_bipush hx hb dX1_addDigits_7 (by decide) ?_
    refine lv_iload_n hx hb dX1_addDigits_9 rfl (lv_at hl 2 rfl) ?_
    refine lv_iload_n hx hb dX1_addDigits_10 rfl (lv_at hl 0 rfl) ?_
    refine zw_idiv hx hb dX1_addDigits_11 (by omega) ⟨by omega, by omega⟩ ⟨by omega, by omega⟩ (by omega) ?_
    refine zw_bipush hx hb dX1_addDigits_12 (by decide) ?_
    refine zw_irem hx hb dX1_addDigits_14 (by omega) ⟨by omega, by omega⟩ ⟨by omega, by omega⟩ (by omega) ?_
    refine zw_iadd hx hb dX1_addDigits_15 ?_
    have hh2 := c_X1_add l dC dI cI h0 qc le cf (48 + ((va / 1000) % 10)) s.heap.size (by omega)
    have hPc := hP.sub (ws' := [(h0, .inr (1, [.ref qc, .int (zi le)])), (qc, aI cI 20 cf)]) [0, 1] rfl
    have hKc : va_K (dC, dI) vwCl [(cI, .int)] s := hK
    have hDc := hD.sub (ws' := [(h0, .inr (1, [.ref qc, .int (zi le)])), (qc, aI cI 20 cf)]) [0, 1] (by decide) rfl
    have hFc := va_free (wc := [(h0, .inr (1, [.ref qc, .int (zi le)])), (qc, aI cI 20 cf)]) hD hS hA [0, 1] rfl
    refine va_callv (va_runV (As := [.int (zi (48 + ((va / 1000) % 10)))]) (rest := []) ⟨hx, hb, hml, hown, hts⟩ hh2 (cwV 1 hts gX1_addDigits_X1_add rfl rfl rfl (by decide +kernel) ⟨Nat.le_of_ble_eq_true rfl, Nat.le_of_ble_eq_true rfl⟩) ⟨zPw.blind _ _ _ _ _, va_recv hKc hPc (ci := 1) (q0 := 0) rfl rfl, fun U hU hW => ⟨rfl, by rw [hU], by rw [hU]; exact hPc, va_K.moved hW.alike hKc, hDc.weaken (fun _ _ _ _ => trivial)⟩⟩ rfl rfl hl.1 rfl (lv_room (Nat.le_of_ble_eq_true rfl)) dX1_addDigits_16 ⟨Nat.le_of_ble_eq_true rfl, Nat.le_of_ble_eq_true rfl⟩) hS (fun q _ h => hFc q h) hFc (fun u t H1 locs ht hvm hw hB hz1 hk1 hS => ?_)
    obtain ⟨hP1, hK1, hD1⟩ := hB
    rw [ht] at hP1
    obtain ⟨hP, hD⟩ := va_join (wr := []) (w1 := [(h0, .inr (1, [.ref qc, .int (zi (le + 1))])), (qc, aI cI 20 (zup cf le.toNat (48 + ((va / 1000) % 10))))]) hP hD [0, 1] [] rfl rfl (by decide) (by decide) hk1 hFc hP1 hD1
    generalize H1 = H at hP hS ⊢
    have hP : va_P (dC, dI) vwCl [(h0, .inr (1, [.ref qc, .int (zi (le + 1))])), (qc, aI cI 20 (zup cf le.toNat (48 + ((va / 1000) % 10))))] H := hP
    have hD : va_D A [(h0, .inr (1, [.ref qc, .int (zi (le + 1))])), (qc, aI cI 20 (zup cf le.toNat (48 + ((va / 1000) % 10))))] := hD
    refine lv_iload_n hx hb dX1_addDigits_19 rfl (lv_at hl 0 rfl) ?_
    refine zw_bipush hx hb dX1_addDigits_20 (by decide) ?_
    refine zw_idiv hx hb dX1_addDigits_22 (by omega) ⟨by omega, by omega⟩ ⟨by omega, by omega⟩ (by omega) ?_
    refine lv_istore_n (lv' := [(3, .int (zi 100)), (0, .ref h0), (1, .int (zi va)), (2, .int (zi 1000))]) hx hb dX1_addDigits_23 rfl hl (by decide) rfl (fun ls hl => ?_)
    refine lv_goto (tgt := 2) hx hb dX1_addDigits_24 (by decide) ?_
    refine lv_iload_n hx hb dX1_addDigits_2 rfl (lv_at hl 0 rfl) ?_
    refine zw_if_le (tgt := 27) hx hb dX1_addDigits_3 (by decide) ⟨by omega, by omega⟩ (fun h3 => ?_) (fun h3 => ?_)
    · skip
      exact absurd True.intro (by omega)
    · skip
      refine lv_aload_n hx hb dX1_addDigits_6 rfl (lv_at hl 1 rfl) ?_
      refine zw_bipush hx hb dX1_addDigits_7 (by decide) ?_
      refine lv_iload_n hx hb dX1_addDigits_9 rfl (lv_at hl 2 rfl) ?_
      refine lv_iload_n hx hb dX1_addDigits_10 rfl (lv_at hl 0 rfl) ?_
      refine zw_idiv hx hb dX1_addDigits_11 (by omega) ⟨by omega, by omega⟩ ⟨by omega, by omega⟩ (by omega) ?_
      refine zw_bipush hx hb dX1_addDigits_12 (by decide) ?_
      refine zw_irem hx hb dX1_addDigits_14 (by omega) ⟨by omega, by omega⟩ ⟨by omega, by omega⟩ (by omega) ?_
      refine zw_iadd hx hb dX1_addDigits_15 ?_
      have hh4 := c_X1_add l dC dI cI h0 qc (le + 1) (zup cf le.toNat (48 + ((va / 1000) % 10))) (48 + ((va / 100) % 10)) H.size (by omega)
      have hPc := hP.sub (ws' := [(h0, .inr (1, [.ref qc, .int (zi (le + 1))])), (qc, aI cI 20 (zup cf le.toNat (48 + ((va / 1000) % 10))))]) [0, 1] rfl
      have hKc : va_K (dC, dI) vwCl [(cI, .int)] s := hK
      have hDc := hD.sub (ws' := [(h0, .inr (1, [.ref qc, .int (zi (le + 1))])), (qc, aI cI 20 (zup cf le.toNat (48 + ((va / 1000) % 10))))]) [0, 1] (by decide) rfl
      have hFc := va_free (wc := [(h0, .inr (1, [.ref qc, .int (zi (le + 1))])), (qc, aI cI 20 (zup cf le.toNat (48 + ((va / 1000) % 10))))]) hD hS hA [0, 1] rfl
      refine va_callv (va_runV (As := [.int (zi (48 + ((va / 100) % 10)))]) (rest := []) ⟨hx, hb, hml, hown, hts⟩ hh4 (cwV 1 hts gX1_addDigits_X1_add rfl rfl rfl (by decide +kernel) ⟨Nat.le_of_ble_eq_true rfl, Nat.le_of_ble_eq_true rfl⟩) ⟨zPw.blind _ _ _ _ _, va_recv hKc hPc (ci := 1) (q0 := 0) rfl rfl, fun U hU hW => ⟨rfl, by rw [hU], by rw [hU]; exact hPc, va_K.moved hW.alike hKc, hDc.weaken (fun _ _ _ _ => trivial)⟩⟩ rfl rfl hl.1 rfl (lv_room (Nat.le_of_ble_eq_true rfl)) dX1_addDigits_16 ⟨Nat.le_of_ble_eq_true rfl, Nat.le_of_ble_eq_true rfl⟩) hS (fun q _ h => hFc q h) hFc (fun u t H1 locs ht hvm hw hB hz1 hk1 hS => ?_)
      obtain ⟨hP1, hK1, hD1⟩ := hB
      rw [ht] at hP1
      obtain ⟨hP, hD⟩ := va_join (wr := []) (w1 := [(h0, .inr (1, [.ref qc, .int (zi ((le + 1) + 1))])), (qc, aI cI 20 (zup (zup cf le.toNat (48 + ((va / 1000) % 10))) (Int.toNat (le + 1)) (48 + ((va / 100) % 10))))]) hP hD [0, 1] [] rfl rfl (by decide) (by decide) hk1 hFc hP1 hD1
      generalize H1 = H at hP hS ⊢
      have hP : va_P (dC, dI) vwCl [(h0, .inr (1, [.ref qc, .int (zi ((le + 1) + 1))])), (qc, aI cI 20 (zup (zup cf le.toNat (48 + ((va / 1000) % 10))) (Int.toNat (le + 1)) (48 + ((va / 100) % 10))))] H := hP
      have hD : va_D A [(h0, .inr (1, [.ref qc, .int (zi ((le + 1) + 1))])), (qc, aI cI 20 (zup (zup cf le.toNat (48 + ((va / 1000) % 10))) (Int.toNat (le + 1)) (48 + ((va / 100) % 10))))] := hD
      refine lv_iload_n hx hb dX1_addDigits_19 rfl (lv_at hl 0 rfl) ?_
      refine zw_bipush hx hb dX1_addDigits_20 (by decide) ?_
      refine zw_idiv hx hb dX1_addDigits_22 (by omega) ⟨by omega, by omega⟩ ⟨by omega, by omega⟩ (by omega) ?_
      refine lv_istore_n (lv' := [(3, .int (zi 10)), (0, .ref h0), (1, .int (zi va)), (2, .int (zi 1000))]) hx hb dX1_addDigits_23 rfl hl (by decide) rfl (fun ls hl => ?_)
      refine lv_goto (tgt := 2) hx hb dX1_addDigits_24 (by decide) ?_
      refine lv_iload_n hx hb dX1_addDigits_2 rfl (lv_at hl 0 rfl) ?_
      refine zw_if_le (tgt := 27) hx hb dX1_addDigits_3 (by decide) ⟨by omega, by omega⟩ (fun h5 => ?_) (fun h5 => ?_)
      · skip
        exact absurd True.intro (by omega)
      · skip
        refine lv_aload_n hx hb dX1_addDigits_6 rfl (lv_at hl 1 rfl) ?_
        refine zw_bipush hx hb dX1_addDigits_7 (by decide) ?_
        refine lv_iload_n hx hb dX1_addDigits_9 rfl (lv_at hl 2 rfl) ?_
        refine lv_iload_n hx hb dX1_addDigits_10 rfl (lv_at hl 0 rfl) ?_
        refine zw_idiv hx hb dX1_addDigits_11 (by omega) ⟨by omega, by omega⟩ ⟨by omega, by omega⟩ (by omega) ?_
        refine zw_bipush hx hb dX1_addDigits_12 (by decide) ?_
        refine zw_irem hx hb dX1_addDigits_14 (by omega) ⟨by omega, by omega⟩ ⟨by omega, by omega⟩ (by omega) ?_
        refine zw_iadd hx hb dX1_addDigits_15 ?_
        have hh6 := c_X1_add l dC dI cI h0 qc ((le + 1) + 1) (zup (zup cf le.toNat (48 + ((va / 1000) % 10))) (Int.toNat (le + 1)) (48 + ((va / 100) % 10))) (48 + ((va / 10) % 10)) H.size (by omega)
        have hPc := hP.sub (ws' := [(h0, .inr (1, [.ref qc, .int (zi ((le + 1) + 1))])), (qc, aI cI 20 (zup (zup cf le.toNat (48 + ((va / 1000) % 10))) (Int.toNat (le + 1)) (48 + ((va / 100) % 10))))]) [0, 1] rfl
        have hKc : va_K (dC, dI) vwCl [(cI, .int)] s := hK
        have hDc := hD.sub (ws' := [(h0, .inr (1, [.ref qc, .int (zi ((le + 1) + 1))])), (qc, aI cI 20 (zup (zup cf le.toNat (48 + ((va / 1000) % 10))) (Int.toNat (le + 1)) (48 + ((va / 100) % 10))))]) [0, 1] (by decide) rfl
        have hFc := va_free (wc := [(h0, .inr (1, [.ref qc, .int (zi ((le + 1) + 1))])), (qc, aI cI 20 (zup (zup cf le.toNat (48 + ((va / 1000) % 10))) (Int.toNat (le + 1)) (48 + ((va / 100) % 10))))]) hD hS hA [0, 1] rfl
        refine va_callv (va_runV (As := [.int (zi (48 + ((va / 10) % 10)))]) (rest := []) ⟨hx, hb, hml, hown, hts⟩ hh6 (cwV 1 hts gX1_addDigits_X1_add rfl rfl rfl (by decide +kernel) ⟨Nat.le_of_ble_eq_true rfl, Nat.le_of_ble_eq_true rfl⟩) ⟨zPw.blind _ _ _ _ _, va_recv hKc hPc (ci := 1) (q0 := 0) rfl rfl, fun U hU hW => ⟨rfl, by rw [hU], by rw [hU]; exact hPc, va_K.moved hW.alike hKc, hDc.weaken (fun _ _ _ _ => trivial)⟩⟩ rfl rfl hl.1 rfl (lv_room (Nat.le_of_ble_eq_true rfl)) dX1_addDigits_16 ⟨Nat.le_of_ble_eq_true rfl, Nat.le_of_ble_eq_true rfl⟩) hS (fun q _ h => hFc q h) hFc (fun u t H1 locs ht hvm hw hB hz1 hk1 hS => ?_)
        obtain ⟨hP1, hK1, hD1⟩ := hB
        rw [ht] at hP1
        obtain ⟨hP, hD⟩ := va_join (wr := []) (w1 := [(h0, .inr (1, [.ref qc, .int (zi (((le + 1) + 1) + 1))])), (qc, aI cI 20 (zup (zup (zup cf le.toNat (48 + ((va / 1000) % 10))) (Int.toNat (le + 1)) (48 + ((va / 100) % 10))) (Int.toNat ((le + 1) + 1)) (48 + ((va / 10) % 10))))]) hP hD [0, 1] [] rfl rfl (by decide) (by decide) hk1 hFc hP1 hD1
        generalize H1 = H at hP hS ⊢
        have hP : va_P (dC, dI) vwCl [(h0, .inr (1, [.ref qc, .int (zi (((le + 1) + 1) + 1))])), (qc, aI cI 20 (zup (zup (zup cf le.toNat (48 + ((va / 1000) % 10))) (Int.toNat (le + 1)) (48 + ((va / 100) % 10))) (Int.toNat ((le + 1) + 1)) (48 + ((va / 10) % 10))))] H := hP
        have hD : va_D A [(h0, .inr (1, [.ref qc, .int (zi (((le + 1) + 1) + 1))])), (qc, aI cI 20 (zup (zup (zup cf le.toNat (48 + ((va / 1000) % 10))) (Int.toNat (le + 1)) (48 + ((va / 100) % 10))) (Int.toNat ((le + 1) + 1)) (48 + ((va / 10) % 10))))] := hD
        refine lv_iload_n hx hb dX1_addDigits_19 rfl (lv_at hl 0 rfl) ?_
        refine zw_bipush hx hb dX1_addDigits_20 (by decide) ?_
        refine zw_idiv hx hb dX1_addDigits_22 (by omega) ⟨by omega, by omega⟩ ⟨by omega, by omega⟩ (by omega) ?_
        refine lv_istore_n (lv' := [(3, .int (zi 1)), (0, .ref h0), (1, .int (zi va)), (2, .int (zi 1000))]) hx hb dX1_addDigits_23 rfl hl (by decide) rfl (fun ls hl => ?_)
        refine lv_goto (tgt := 2) hx hb dX1_addDigits_24 (by decide) ?_
        refine lv_iload_n hx hb dX1_addDigits_2 rfl (lv_at hl 0 rfl) ?_
        refine zw_if_le (tgt := 27) hx hb dX1_addDigits_3 (by decide) ⟨by omega, by omega⟩ (fun h7 => ?_) (fun h7 => ?_)
        · skip
          exact absurd True.intro (by omega)
        · skip
          refine lv_aload_n hx hb dX1_addDigits_6 rfl (lv_at hl 1 rfl) ?_
          refine zw_bipush hx hb dX1_addDigits_7 (by decide) ?_
          refine lv_iload_n hx hb dX1_addDigits_9 rfl (lv_at hl 2 rfl) ?_
          refine lv_iload_n hx hb dX1_addDigits_10 rfl (lv_at hl 0 rfl) ?_
          refine zw_idiv hx hb dX1_addDigits_11 (by omega) ⟨by omega, by omega⟩ ⟨by omega, by omega⟩ (by omega) ?_
          refine zw_bipush hx hb dX1_addDigits_12 (by decide) ?_
          refine zw_irem hx hb dX1_addDigits_14 (by omega) ⟨by omega, by omega⟩ ⟨by omega, by omega⟩ (by omega) ?_
          refine zw_iadd hx hb dX1_addDigits_15 ?_
          have hh8 := c_X1_add l dC dI cI h0 qc (((le + 1) + 1) + 1) (zup (zup (zup cf le.toNat (48 + ((va / 1000) % 10))) (Int.toNat (le + 1)) (48 + ((va / 100) % 10))) (Int.toNat ((le + 1) + 1)) (48 + ((va / 10) % 10))) (48 + ((va / 1) % 10)) H.size (by omega)
          have hPc := hP.sub (ws' := [(h0, .inr (1, [.ref qc, .int (zi (((le + 1) + 1) + 1))])), (qc, aI cI 20 (zup (zup (zup cf le.toNat (48 + ((va / 1000) % 10))) (Int.toNat (le + 1)) (48 + ((va / 100) % 10))) (Int.toNat ((le + 1) + 1)) (48 + ((va / 10) % 10))))]) [0, 1] rfl
          have hKc : va_K (dC, dI) vwCl [(cI, .int)] s := hK
          have hDc := hD.sub (ws' := [(h0, .inr (1, [.ref qc, .int (zi (((le + 1) + 1) + 1))])), (qc, aI cI 20 (zup (zup (zup cf le.toNat (48 + ((va / 1000) % 10))) (Int.toNat (le + 1)) (48 + ((va / 100) % 10))) (Int.toNat ((le + 1) + 1)) (48 + ((va / 10) % 10))))]) [0, 1] (by decide) rfl
          have hFc := va_free (wc := [(h0, .inr (1, [.ref qc, .int (zi (((le + 1) + 1) + 1))])), (qc, aI cI 20 (zup (zup (zup cf le.toNat (48 + ((va / 1000) % 10))) (Int.toNat (le + 1)) (48 + ((va / 100) % 10))) (Int.toNat ((le + 1) + 1)) (48 + ((va / 10) % 10))))]) hD hS hA [0, 1] rfl
          refine va_callv (va_runV (As := [.int (zi (48 + ((va / 1) % 10)))]) (rest := []) ⟨hx, hb, hml, hown, hts⟩ hh8 (cwV 1 hts gX1_addDigits_X1_add rfl rfl rfl (by decide +kernel) ⟨Nat.le_of_ble_eq_true rfl, Nat.le_of_ble_eq_true rfl⟩) ⟨zPw.blind _ _ _ _ _, va_recv hKc hPc (ci := 1) (q0 := 0) rfl rfl, fun U hU hW => ⟨rfl, by rw [hU], by rw [hU]; exact hPc, va_K.moved hW.alike hKc, hDc.weaken (fun _ _ _ _ => trivial)⟩⟩ rfl rfl hl.1 rfl (lv_room (Nat.le_of_ble_eq_true rfl)) dX1_addDigits_16 ⟨Nat.le_of_ble_eq_true rfl, Nat.le_of_ble_eq_true rfl⟩) hS (fun q _ h => hFc q h) hFc (fun u t H1 locs ht hvm hw hB hz1 hk1 hS => ?_)
          obtain ⟨hP1, hK1, hD1⟩ := hB
          rw [ht] at hP1
          obtain ⟨hP, hD⟩ := va_join (wr := []) (w1 := [(h0, .inr (1, [.ref qc, .int (zi ((((le + 1) + 1) + 1) + 1))])), (qc, aI cI 20 (zup (zup (zup (zup cf le.toNat (48 + ((va / 1000) % 10))) (Int.toNat (le + 1)) (48 + ((va / 100) % 10))) (Int.toNat ((le + 1) + 1)) (48 + ((va / 10) % 10))) (Int.toNat (((le + 1) + 1) + 1)) (48 + ((va / 1) % 10))))]) hP hD [0, 1] [] rfl rfl (by decide) (by decide) hk1 hFc hP1 hD1
          generalize H1 = H at hP hS ⊢
          have hP : va_P (dC, dI) vwCl [(h0, .inr (1, [.ref qc, .int (zi ((((le + 1) + 1) + 1) + 1))])), (qc, aI cI 20 (zup (zup (zup (zup cf le.toNat (48 + ((va / 1000) % 10))) (Int.toNat (le + 1)) (48 + ((va / 100) % 10))) (Int.toNat ((le + 1) + 1)) (48 + ((va / 10) % 10))) (Int.toNat (((le + 1) + 1) + 1)) (48 + ((va / 1) % 10))))] H := hP
          have hD : va_D A [(h0, .inr (1, [.ref qc, .int (zi ((((le + 1) + 1) + 1) + 1))])), (qc, aI cI 20 (zup (zup (zup (zup cf le.toNat (48 + ((va / 1000) % 10))) (Int.toNat (le + 1)) (48 + ((va / 100) % 10))) (Int.toNat ((le + 1) + 1)) (48 + ((va / 10) % 10))) (Int.toNat (((le + 1) + 1) + 1)) (48 + ((va / 1) % 10))))] := hD
          refine lv_iload_n hx hb dX1_addDigits_19 rfl (lv_at hl 0 rfl) ?_
          refine zw_bipush hx hb dX1_addDigits_20 (by decide) ?_
          refine zw_idiv hx hb dX1_addDigits_22 (by omega) ⟨by omega, by omega⟩ ⟨by omega, by omega⟩ (by omega) ?_
          refine lv_istore_n (lv' := [(3, .int (zi 0)), (0, .ref h0), (1, .int (zi va)), (2, .int (zi 1000))]) hx hb dX1_addDigits_23 rfl hl (by decide) rfl (fun ls hl => ?_)
          refine lv_goto (tgt := 2) hx hb dX1_addDigits_24 (by decide) ?_
          refine lv_iload_n hx hb dX1_addDigits_2 rfl (lv_at hl 0 rfl) ?_
          refine zw_if_le (tgt := 27) hx hb dX1_addDigits_3 (by decide) ⟨by omega, by omega⟩ (fun h9 => ?_) (fun h9 => ?_)
          · skip
            have hP9 := hP.sub (ws' := [(h0, .inr (1, [.ref qc, .int (zi ((((le + 1) + 1) + 1) + 1))])), (qc, aI cI 20 (zup (zup (zup (zup cf le.toNat (48 + ((va / 1000) % 10))) (Int.toNat (le + 1)) (48 + ((va / 100) % 10))) (Int.toNat ((le + 1) + 1)) (48 + ((va / 10) % 10))) (Int.toNat (((le + 1) + 1) + 1)) (48 + ((va / 1) % 10))))]) [0, 1] rfl
            have hD9 := hD.sub (ws' := [(h0, .inr (1, [.ref qc, .int (zi ((((le + 1) + 1) + 1) + 1))])), (qc, aI cI 20 (zup (zup (zup (zup cf le.toNat (48 + ((va / 1000) % 10))) (Int.toNat (le + 1)) (48 + ((va / 100) % 10))) (Int.toNat ((le + 1) + 1)) (48 + ((va / 10) % 10))) (Int.toNat (((le + 1) + 1) + 1)) (48 + ((va / 1) % 10))))]) [0, 1] (by decide) rfl
            exact W.vret hx hb hr (fun t ht hW => ⟨⟨(), rfl, trivial, by rw [ht]; exact hP9, va_K.moved hW.alike hK, hD9⟩, hS.F ht⟩) hS.2.2 dX1_addDigits_27
          · skip
            exact absurd True.intro (by omega)

set_option maxHeartbeats 4000000 in
set_option maxRecDepth 100000 in
theorem c_X1_addDigits_100 (l : Launch)  (dC : Nat → ClassId) (dI : Nat → Nat → Nat) (cI : ClassId) (h0 : Nat) (qc : Nat) (le : Int) (cf : Nat → Int) (va : Int) (sz : Nat) (hp0 : 0 ≤ le ∧ le ≤ 17) (hp1 : 0 ≤ va ∧ va ≤ 99999) : Met l yX1_addDigits wsX1_addDigits ({ frames := 1, cells := 0, slots := 0, locals := 21 }) (zPw (dC, dI) [(cI, .int)] sz [.ref h0, .int (zi va), .int (zi 100)] [(h0, .inr (1, [.ref qc, .int (zi le)])), (qc, aI cI 20 cf)]) (va_Qv (fun (_ : Unit) => True) (zB (dC, dI) [(cI, .int)] (va_A [(h0, .inr (1, [.ref qc, .int (zi le)])), (qc, aI cI 20 cf)] sz) [(h0, .inr (1, [.ref qc, .int (zi (((le + 1) + 1) + 1))])), (qc, aI cI 20 (zup (zup (zup cf le.toNat (48 + ((va / 100) % 10))) (Int.toNat (le + 1)) (48 + ((va / 10) % 10))) (Int.toNat ((le + 1) + 1)) (48 + ((va / 1) % 10))))]) (va_A [(h0, .inr (1, [.ref qc, .int (zi le)])), (qc, aI cI 20 cf)] sz)) 0 0 (va_A [(h0, .inr (1, [.ref qc, .int (zi le)])), (qc, aI cI 20 cf)] sz) := by
  refine Met.ofW (cc := cX1_addDigits) (maxL := 4) (ret := none) (by decide) rfl ?_
  intro p e s m args below meth c s₁ B hml hv
  obtain ⟨rfl, hsz, hP, hK, hD0⟩ := hv
  have hx := B.exec
  have hb := B.bytes
  have hr := B.returns
  have hts := atoms_spec (ws := wsX1_addDigits) B.pre
  have hown : s.vm.findClass RX1 = some m.cls := findClass_of_methodNamed B.named
  have hlocks := B.notSynchronized
  subst hsz
  have hD := hD0.self (sz := s.heap.size)
  generalize hAe : va_A [(h0, .inr (1, [.ref qc, .int (zi le)])), (qc, aI cI 20 cf)] s.heap.size = A at hD ⊢
  have hA : ∀ q : Nat, s.heap.size ≤ q → A q := fun q h => by rw [← hAe]; exact Or.inr h
  have hS : va_S A s.heap s.heap [] := va_S.rf
  have hP : va_P (dC, dI) vwCl [(h0, .inr (1, [.ref qc, .int (zi le)])), (qc, aI cI 20 cf)] s.heap := hP
  have hl := lv_entry ([.ref h0, .int (zi va), .int (zi 100)]) (n := 4) (Nat.le_of_ble_eq_true rfl)
  rw [lg_entry_eq]
  generalize (lg_sl ([.ref h0, .int (zi va), .int (zi 100)]) ++ List.replicate (4 - (lg_sl ([.ref h0, .int (zi va), .int (zi 100)])).length) Slot.unset).toArray = ls at hl ⊢
  have hl : lv_has ls 4 [(0, .ref h0), (1, .int (zi va)), (2, .int (zi 100))] := hl
  refine lv_iload_n hx hb dX1_addDigits_0 rfl (lv_at hl 2 rfl) ?_
  refine lv_istore_n (lv' := [(3, .int (zi 100)), (0, .ref h0), (1, .int (zi va)), (2, .int (zi 100))]) hx hb dX1_addDigits_1 rfl hl (by decide) rfl (fun ls hl => ?_)
  refine lv_iload_n hx hb dX1_addDigits_2 rfl (lv_at hl 0 rfl) ?_
  refine zw_if_le (tgt := 27) hx hb dX1_addDigits_3 (by decide) ⟨by omega, by omega⟩ (fun h1 => ?_) (fun h1 => ?_)
  · skip
    exact absurd True.intro (by omega)
  · skip
    refine lv_aload_n hx hb dX1_addDigits_6 rfl (lv_at hl 1 rfl) ?_
    refine zw_bipush hx hb dX1_addDigits_7 (by decide) ?_
    refine lv_iload_n hx hb dX1_addDigits_9 rfl (lv_at hl 2 rfl) ?_
    refine lv_iload_n hx hb dX1_addDigits_10 rfl (lv_at hl 0 rfl) ?_
    refine zw_idiv hx hb dX1_addDigits_11 (by omega) ⟨by omega, by omega⟩ ⟨by omega, by omega⟩ (by omega) ?_
    refine zw_bipush hx hb dX1_addDigits_12 (by decide) ?_
    refine zw_irem hx hb dX1_addDigits_14 (by omega) ⟨by omega, by omega⟩ ⟨by omega, by omega⟩ (by omega) ?_
    refine zw_iadd hx hb dX1_addDigits_15 ?_
    have hh2 := c_X1_add l dC dI cI h0 qc le cf (48 + ((va / 100) % 10)) s.heap.size (by omega)
    have hPc := hP.sub (ws' := [(h0, .inr (1, [.ref qc, .int (zi le)])), (qc, aI cI 20 cf)]) [0, 1] rfl
    have hKc : va_K (dC, dI) vwCl [(cI, .int)] s := hK
    have hDc := hD.sub (ws' := [(h0, .inr (1, [.ref qc, .int (zi le)])), (qc, aI cI 20 cf)]) [0, 1] (by decide) rfl
    have hFc := va_free (wc := [(h0, .inr (1, [.ref qc, .int (zi le)])), (qc, aI cI 20 cf)]) hD hS hA [0, 1] rfl
    refine va_callv (va_runV (As := [.int (zi (48 + ((va / 100) % 10)))]) (rest := []) ⟨hx, hb, hml, hown, hts⟩ hh2 (cwV 1 hts gX1_addDigits_X1_add rfl rfl rfl (by decide +kernel) ⟨Nat.le_of_ble_eq_true rfl, Nat.le_of_ble_eq_true rfl⟩) ⟨zPw.blind _ _ _ _ _, va_recv hKc hPc (ci := 1) (q0 := 0) rfl rfl, fun U hU hW => ⟨rfl, by rw [hU], by rw [hU]; exact hPc, va_K.moved hW.alike hKc, hDc.weaken (fun _ _ _ _ => trivial)⟩⟩ rfl rfl hl.1 rfl (lv_room (Nat.le_of_ble_eq_true rfl)) dX1_addDigits_16 ⟨Nat.le_of_ble_eq_true rfl, Nat.le_of_ble_eq_true rfl⟩) hS (fun q _ h => hFc q h) hFc (fun u t H1 locs ht hvm hw hB hz1 hk1 hS => ?_)
    obtain ⟨hP1, hK1, hD1⟩ := hB
    rw [ht] at hP1
    obtain ⟨hP, hD⟩ := va_join (wr := []) (w1 := [(h0, .inr (1, [.ref qc, .int (zi (le + 1))])), (qc, aI cI 20 (zup cf le.toNat (48 + ((va / 100) % 10))))]) hP hD [0, 1] [] rfl rfl (by decide) (by decide) hk1 hFc hP1 hD1
    generalize H1 = H at hP hS ⊢
    have hP : va_P (dC, dI) vwCl [(h0, .inr (1, [.ref qc, .int (zi (le + 1))])), (qc, aI cI 20 (zup cf le.toNat (48 + ((va / 100) % 10))))] H := hP
    have hD : va_D A [(h0, .inr (1, [.ref qc, .int (zi (le + 1))])), (qc, aI cI 20 (zup cf le.toNat (48 + ((va / 100) % 10))))] := hD
    refine lv_iload_n hx hb dX1_addDigits_19 rfl (lv_at hl 0 rfl) ?_
    refine zw_bipush hx hb dX1_addDigits_20 (by decide) ?_
    refine zw_idiv hx hb dX1_addDigits_22 (by omega) ⟨by omega, by omega⟩ ⟨by omega, by omega⟩ (by omega) ?_
    refine lv_istore_n (lv' := [(3, .int (zi 10)), (0, .ref h0), (1, .int (zi va)), (2, .int (zi 100))]) hx hb dX1_addDigits_23 rfl hl (by decide) rfl (fun ls hl => ?_)
    refine lv_goto (tgt := 2) hx hb dX1_addDigits_24 (by decide) ?_
    refine lv_iload_n hx hb dX1_addDigits_2 rfl (lv_at hl 0 rfl) ?_
    refine zw_if_le (tgt := 27) hx hb dX1_addDigits_3 (by decide) ⟨by omega, by omega⟩ (fun h3 => ?_) (fun h3 => ?_)
    · skip
      exact absurd True.intro (by omega)
    · skip
      refine lv_aload_n hx hb dX1_addDigits_6 rfl (lv_at hl 1 rfl) ?_
      refine zw_bipush hx hb dX1_addDigits_7 (by decide) ?_
      refine lv_iload_n hx hb dX1_addDigits_9 rfl (lv_at hl 2 rfl) ?_
      refine lv_iload_n hx hb dX1_addDigits_10 rfl (lv_at hl 0 rfl) ?_
      refine zw_idiv hx hb dX1_addDigits_11 (by omega) ⟨by omega, by omega⟩ ⟨by omega, by omega⟩ (by omega) ?_
      refine zw_bipush hx hb dX1_addDigits_12 (by decide) ?_
      refine zw_irem hx hb dX1_addDigits_14 (by omega) ⟨by omega, by omega⟩ ⟨by omega, by omega⟩ (by omega) ?_
      refine zw_iadd hx hb dX1_addDigits_15 ?_
      have hh4 := c_X1_add l dC dI cI h0 qc (le + 1) (zup cf le.toNat (48 + ((va / 100) % 10))) (48 + ((va / 10) % 10)) H.size (by omega)
      have hPc := hP.sub (ws' := [(h0, .inr (1, [.ref qc, .int (zi (le + 1))])), (qc, aI cI 20 (zup cf le.toNat (48 + ((va / 100) % 10))))]) [0, 1] rfl
      have hKc : va_K (dC, dI) vwCl [(cI, .int)] s := hK
      have hDc := hD.sub (ws' := [(h0, .inr (1, [.ref qc, .int (zi (le + 1))])), (qc, aI cI 20 (zup cf le.toNat (48 + ((va / 100) % 10))))]) [0, 1] (by decide) rfl
      have hFc := va_free (wc := [(h0, .inr (1, [.ref qc, .int (zi (le + 1))])), (qc, aI cI 20 (zup cf le.toNat (48 + ((va / 100) % 10))))]) hD hS hA [0, 1] rfl
      refine va_callv (va_runV (As := [.int (zi (48 + ((va / 10) % 10)))]) (rest := []) ⟨hx, hb, hml, hown, hts⟩ hh4 (cwV 1 hts gX1_addDigits_X1_add rfl rfl rfl (by decide +kernel) ⟨Nat.le_of_ble_eq_true rfl, Nat.le_of_ble_eq_true rfl⟩) ⟨zPw.blind _ _ _ _ _, va_recv hKc hPc (ci := 1) (q0 := 0) rfl rfl, fun U hU hW => ⟨rfl, by rw [hU], by rw [hU]; exact hPc, va_K.moved hW.alike hKc, hDc.weaken (fun _ _ _ _ => trivial)⟩⟩ rfl rfl hl.1 rfl (lv_room (Nat.le_of_ble_eq_true rfl)) dX1_addDigits_16 ⟨Nat.le_of_ble_eq_true rfl, Nat.le_of_ble_eq_true rfl⟩) hS (fun q _ h => hFc q h) hFc (fun u t H1 locs ht hvm hw hB hz1 hk1 hS => ?_)
      obtain ⟨hP1, hK1, hD1⟩ := hB
      rw [ht] at hP1
      obtain ⟨hP, hD⟩ := va_join (wr := []) (w1 := [(h0, .inr (1, [.ref qc, .int (zi ((le + 1) + 1))])), (qc, aI cI 20 (zup (zup cf le.toNat (48 + ((va / 100) % 10))) (Int.toNat (le + 1)) (48 + ((va / 10) % 10))))]) hP hD [0, 1] [] rfl rfl (by decide) (by decide) hk1 hFc hP1 hD1
      generalize H1 = H at hP hS ⊢
      have hP : va_P (dC, dI) vwCl [(h0, .inr (1, [.ref qc, .int (zi ((le + 1) + 1))])), (qc, aI cI 20 (zup (zup cf le.toNat (48 + ((va / 100) % 10))) (Int.toNat (le + 1)) (48 + ((va / 10) % 10))))] H := hP
      have hD : va_D A [(h0, .inr (1, [.ref qc, .int (zi ((le + 1) + 1))])), (qc, aI cI 20 (zup (zup cf le.toNat (48 + ((va / 100) % 10))) (Int.toNat (le + 1)) (48 + ((va / 10) % 10))))] := hD
      refine lv_iload_n hx hb dX1_addDigits_19 rfl (lv_at hl 0 rfl) ?_
      refine zw_bipush hx hb dX1_addDigits_20 (by decide) ?_
      refine zw_idiv hx hb dX1_addDigits_22 (by omega) ⟨by omega, by omega⟩ ⟨by omega, by omega⟩ (by omega) ?_
      refine lv_istore_n (lv' := [(3, .int (zi 1)), (0, .ref h0), (1, .int (zi va)), (2, .int (zi 100))]) hx hb dX1_addDigits_23 rfl hl (by decide) rfl (fun ls hl => ?_)
      refine lv_goto (tgt := 2) hx hb dX1_addDigits_24 (by decide) ?_
      refine lv_iload_n hx hb dX1_addDigits_2 rfl (lv_at hl 0 rfl) ?_
      refine zw_if_le (tgt := 27) hx hb dX1_addDigits_3 (by decide) ⟨by omega, by omega⟩ (fun h5 => ?_) (fun h5 => ?_)
      · skip
        exact absurd True.intro (by omega)
      · skip
        refine lv_aload_n hx hb dX1_addDigits_6 rfl (lv_at hl 1 rfl) ?_
        refine zw_bipush hx hb dX1_addDigits_7 (by decide) ?_
        refine lv_iload_n hx hb dX1_addDigits_9 rfl (lv_at hl 2 rfl) ?_
        refine lv_iload_n hx hb dX1_addDigits_10 rfl (lv_at hl 0 rfl) ?_
        refine zw_idiv hx hb dX1_addDigits_11 (by omega) ⟨by omega, by omega⟩ ⟨by omega, by omega⟩ (by omega) ?_
        refine zw_bipush hx hb dX1_addDigits_12 (by decide) ?_
        refine zw_irem hx hb dX1_addDigits_14 (by omega) ⟨by omega, by omega⟩ ⟨by omega, by omega⟩ (by omega) ?_
        refine zw_iadd hx hb dX1_addDigits_15 ?_
        have hh6 := c_X1_add l dC dI cI h0 qc ((le + 1) + 1) (zup (zup cf le.toNat (48 + ((va / 100) % 10))) (Int.toNat (le + 1)) (48 + ((va / 10) % 10))) (48 + ((va / 1) % 10)) H.size (by omega)
        have hPc := hP.sub (ws' := [(h0, .inr (1, [.ref qc, .int (zi ((le + 1) + 1))])), (qc, aI cI 20 (zup (zup cf le.toNat (48 + ((va / 100) % 10))) (Int.toNat (le + 1)) (48 + ((va / 10) % 10))))]) [0, 1] rfl
        have hKc : va_K (dC, dI) vwCl [(cI, .int)] s := hK
        have hDc := hD.sub (ws' := [(h0, .inr (1, [.ref qc, .int (zi ((le + 1) + 1))])), (qc, aI cI 20 (zup (zup cf le.toNat (48 + ((va / 100) % 10))) (Int.toNat (le + 1)) (48 + ((va / 10) % 10))))]) [0, 1] (by decide) rfl
        have hFc := va_free (wc := [(h0, .inr (1, [.ref qc, .int (zi ((le + 1) + 1))])), (qc, aI cI 20 (zup (zup cf le.toNat (48 + ((va / 100) % 10))) (Int.toNat (le + 1)) (48 + ((va / 10) % 10))))]) hD hS hA [0, 1] rfl
        refine va_callv (va_runV (As := [.int (zi (48 + ((va / 1) % 10)))]) (rest := []) ⟨hx, hb, hml, hown, hts⟩ hh6 (cwV 1 hts gX1_addDigits_X1_add rfl rfl rfl (by decide +kernel) ⟨Nat.le_of_ble_eq_true rfl, Nat.le_of_ble_eq_true rfl⟩) ⟨zPw.blind _ _ _ _ _, va_recv hKc hPc (ci := 1) (q0 := 0) rfl rfl, fun U hU hW => ⟨rfl, by rw [hU], by rw [hU]; exact hPc, va_K.moved hW.alike hKc, hDc.weaken (fun _ _ _ _ => trivial)⟩⟩ rfl rfl hl.1 rfl (lv_room (Nat.le_of_ble_eq_true rfl)) dX1_addDigits_16 ⟨Nat.le_of_ble_eq_true rfl, Nat.le_of_ble_eq_true rfl⟩) hS (fun q _ h => hFc q h) hFc (fun u t H1 locs ht hvm hw hB hz1 hk1 hS => ?_)
        obtain ⟨hP1, hK1, hD1⟩ := hB
        rw [ht] at hP1
        obtain ⟨hP, hD⟩ := va_join (wr := []) (w1 := [(h0, .inr (1, [.ref qc, .int (zi (((le + 1) + 1) + 1))])), (qc, aI cI 20 (zup (zup (zup cf le.toNat (48 + ((va / 100) % 10))) (Int.toNat (le + 1)) (48 + ((va / 10) % 10))) (Int.toNat ((le + 1) + 1)) (48 + ((va / 1) % 10))))]) hP hD [0, 1] [] rfl rfl (by decide) (by decide) hk1 hFc hP1 hD1
        generalize H1 = H at hP hS ⊢
        have hP : va_P (dC, dI) vwCl [(h0, .inr (1, [.ref qc, .int (zi (((le + 1) + 1) + 1))])), (qc, aI cI 20 (zup (zup (zup cf le.toNat (48 + ((va / 100) % 10))) (Int.toNat (le + 1)) (48 + ((va / 10) % 10))) (Int.toNat ((le + 1) + 1)) (48 + ((va / 1) % 10))))] H := hP
        have hD : va_D A [(h0, .inr (1, [.ref qc, .int (zi (((le + 1) + 1) + 1))])), (qc, aI cI 20 (zup (zup (zup cf le.toNat (48 + ((va / 100) % 10))) (Int.toNat (le + 1)) (48 + ((va / 10) % 10))) (Int.toNat ((le + 1) + 1)) (48 + ((va / 1) % 10))))] := hD
        refine lv_iload_n hx hb dX1_addDigits_19 rfl (lv_at hl 0 rfl) ?_
        refine zw_bipush hx hb dX1_addDigits_20 (by decide) ?_
        refine zw_idiv hx hb dX1_addDigits_22 (by omega) ⟨by omega, by omega⟩ ⟨by omega, by omega⟩ (by omega) ?_
        refine lv_istore_n (lv' := [(3, .int (zi 0)), (0, .ref h0), (1, .int (zi va)), (2, .int (zi 100))]) hx hb dX1_addDigits_23 rfl hl (by decide) rfl (fun ls hl => ?_)
        refine lv_goto (tgt := 2) hx hb dX1_addDigits_24 (by decide) ?_
        refine lv_iload_n hx hb dX1_addDigits_2 rfl (lv_at hl 0 rfl) ?_
        refine zw_if_le (tgt := 27) hx hb dX1_addDigits_3 (by decide) ⟨by omega, by omega⟩ (fun h7 => ?_) (fun h7 => ?_)
        · skip
          have hP9 := hP.sub (ws' := [(h0, .inr (1, [.ref qc, .int (zi (((le + 1) + 1) + 1))])), (qc, aI cI 20 (zup (zup (zup cf le.toNat (48 + ((va / 100) % 10))) (Int.toNat (le + 1)) (48 + ((va / 10) % 10))) (Int.toNat ((le + 1) + 1)) (48 + ((va / 1) % 10))))]) [0, 1] rfl
          have hD9 := hD.sub (ws' := [(h0, .inr (1, [.ref qc, .int (zi (((le + 1) + 1) + 1))])), (qc, aI cI 20 (zup (zup (zup cf le.toNat (48 + ((va / 100) % 10))) (Int.toNat (le + 1)) (48 + ((va / 10) % 10))) (Int.toNat ((le + 1) + 1)) (48 + ((va / 1) % 10))))]) [0, 1] (by decide) rfl
          exact W.vret hx hb hr (fun t ht hW => ⟨⟨(), rfl, trivial, by rw [ht]; exact hP9, va_K.moved hW.alike hK, hD9⟩, hS.F ht⟩) hS.2.2 dX1_addDigits_27
        · skip
          exact absurd True.intro (by omega)

set_option maxHeartbeats 4000000 in
set_option maxRecDepth 100000 in
theorem c_X1_addDigits_10 (l : Launch)  (dC : Nat → ClassId) (dI : Nat → Nat → Nat) (cI : ClassId) (h0 : Nat) (qc : Nat) (le : Int) (cf : Nat → Int) (va : Int) (sz : Nat) (hp0 : 0 ≤ le ∧ le ≤ 18) (hp1 : 0 ≤ va ∧ va ≤ 99999) : Met l yX1_addDigits wsX1_addDigits ({ frames := 1, cells := 0, slots := 0, locals := 21 }) (zPw (dC, dI) [(cI, .int)] sz [.ref h0, .int (zi va), .int (zi 10)] [(h0, .inr (1, [.ref qc, .int (zi le)])), (qc, aI cI 20 cf)]) (va_Qv (fun (_ : Unit) => True) (zB (dC, dI) [(cI, .int)] (va_A [(h0, .inr (1, [.ref qc, .int (zi le)])), (qc, aI cI 20 cf)] sz) [(h0, .inr (1, [.ref qc, .int (zi ((le + 1) + 1))])), (qc, aI cI 20 (zup (zup cf le.toNat (48 + ((va / 10) % 10))) (Int.toNat (le + 1)) (48 + ((va / 1) % 10))))]) (va_A [(h0, .inr (1, [.ref qc, .int (zi le)])), (qc, aI cI 20 cf)] sz)) 0 0 (va_A [(h0, .inr (1, [.ref qc, .int (zi le)])), (qc, aI cI 20 cf)] sz) := by
  refine Met.ofW (cc := cX1_addDigits) (maxL := 4) (ret := none) (by decide) rfl ?_
  intro p e s m args below meth c s₁ B hml hv
  obtain ⟨rfl, hsz, hP, hK, hD0⟩ := hv
  have hx := B.exec
  have hb := B.bytes
  have hr := B.returns
  have hts := atoms_spec (ws := wsX1_addDigits) B.pre
  have hown : s.vm.findClass RX1 = some m.cls := findClass_of_methodNamed B.named
  have hlocks := B.notSynchronized
  subst hsz
  have hD := hD0.self (sz := s.heap.size)
  generalize hAe : va_A [(h0, .inr (1, [.ref qc, .int (zi le)])), (qc, aI cI 20 cf)] s.heap.size = A at hD ⊢
  have hA : ∀ q : Nat, s.heap.size ≤ q → A q := fun q h => by rw [← hAe]; exact Or.inr h
  have hS : va_S A s.heap s.heap [] := va_S.rf
  have hP : va_P (dC, dI) vwCl [(h0, .inr (1, [.ref qc, .int (zi le)])), (qc, aI cI 20 cf)] s.heap := hP
  have hl := lv_entry ([.ref h0, .int (zi va), .int (zi 10)]) (n := 4) (Nat.le_of_ble_eq_true rfl)
  rw [lg_entry_eq]
  generalize (lg_sl ([.ref h0, .int (zi va), .int (zi 10)]) ++ List.replicate (4 - (lg_sl ([.ref h0, .int (zi va), .int (zi 10)])).length) Slot.unset).toArray = ls at hl ⊢
  have hl : lv_has ls 4 [(0, .ref h0), (1, .int (zi va)), (2, .int (zi 10))] := hl
  refine lv_iload_n hx hb dX1_addDigits_0 rfl (lv_at hl 2 rfl) ?_
  refine lv_istore_n (lv' := [(3, .int (zi 10)), (0, .ref h0), (1, .int (zi va)), (2, .int (zi 10))]) hx hb dX1_addDigits_1 rfl hl (by decide) rfl (fun ls hl => ?_)
  refine lv_iload_n hx hb dX1_addDigits_2 rfl (lv_at hl 0 rfl) ?_
  refine zw_if_le (tgt := 27) hx hb dX1_addDigits_3 (by decide) ⟨by omega, by omega⟩ (fun h1 => ?_) (fun h1 => ?_)
  · skip
    exact absurd True.intro (by omega)
  · skip
    refine lv_aload_n hx hb dX1_addDigits_6 rfl (lv_at hl 1 rfl) ?_
    refine zw_bipush hx hb dX1_addDigits_7 (by decide) ?_
    refine lv_iload_n hx hb dX1_addDigits_9 rfl (lv_at hl 2 rfl) ?_
    refine lv_iload_n hx hb dX1_addDigits_10 rfl (lv_at hl 0 rfl) ?_
    refine zw_idiv hx hb dX1_addDigits_11 (by omega) ⟨by omega, by omega⟩ ⟨by omega, by omega⟩ (by omega) ?_
    refine zw_bipush hx hb dX1_addDigits_12 (by decide) ?_
    refine zw_irem hx hb dX1_addDigits_14 (by omega) ⟨by omega, by omega⟩ ⟨by omega, by omega⟩ (by omega) ?_
    refine zw_iadd hx hb dX1_addDigits_15 ?_
    have hh2 := c_X1_add l dC dI cI h0 qc le cf (48 + ((va / 10) % 10)) s.heap.size (by omega)
    have hPc := hP.sub (ws' := [(h0, .inr (1, [.ref qc, .int (zi le)])), (qc, aI cI 20 cf)]) [0, 1] rfl
    have hKc : va_K (dC, dI) vwCl [(cI, .int)] s := hK
    have hDc := hD.sub (ws' := [(h0, .inr (1, [.ref qc, .int (zi le)])), (qc, aI cI 20 cf)]) [0, 1] (by decide) rfl
    have hFc := va_free (wc := [(h0, .inr (1, [.ref qc, .int (zi le)])), (qc, aI cI 20 cf)]) hD hS hA [0, 1] rfl
    refine va_callv (va_runV (As := [.int (zi (48 + ((va / 10) % 10)))]) (rest := []) ⟨hx, hb, hml, hown, hts⟩ hh2 (cwV 1 hts gX1_addDigits_X1_add rfl rfl rfl (by decide +kernel) ⟨Nat.le_of_ble_eq_true rfl, Nat.le_of_ble_eq_true rfl⟩) ⟨zPw.blind _ _ _ _ _, va_recv hKc hPc (ci := 1) (q0 := 0) rfl rfl, fun U hU hW => ⟨rfl, by rw [hU], by rw [hU]; exact hPc, va_K.moved hW.alike hKc, hDc.weaken (fun _ _ _ _ => trivial)⟩⟩ rfl rfl hl.1 rfl (lv_room (Nat.le_of_ble_eq_true rfl)) dX1_addDigits_16 ⟨Nat.le_of_ble_eq_true rfl, Nat.le_of_ble_eq_true rfl⟩) hS (fun q _ h => hFc q h) hFc (fun u t H1 locs ht hvm hw hB hz1 hk1 hS => ?_)
    obtain ⟨hP1, hK1, hD1⟩ := hB
    rw [ht] at hP1
    obtain ⟨hP, hD⟩ := va_join (wr := []) (w1 := [(h0, .inr (1, [.ref qc, .int (zi (le + 1))])), (qc, aI cI 20 (zup cf le.toNat (48 + ((va / 10) % 10))))]) hP hD [0, 1] [] rfl rfl (by decide) (by decide) hk1 hFc hP1 hD1
    generalize H1 = H at hP hS ⊢
    have hP : va_P (dC, dI) vwCl [(h0, .inr (1, [.ref qc, .int (zi (le + 1))])), (qc, aI cI 20 (zup cf le.toNat (48 + ((va / 10) % 10))))] H := hP
    have hD : va_D A [(h0, .inr (1, [.ref qc, .int (zi (le + 1))])), (qc, aI cI 20 (zup cf le.toNat (48 + ((va / 10) % 10))))] := hD
    refine lv_iload_n hx hb dX1_addDigits_19 rfl (lv_at hl 0 rfl) ?_
    refine zw_bipush hx hb dX1_addDigits_20 (by decide) ?_
    refine zw_idiv hx hb dX1_addDigits_22 (by omega) ⟨by omega, by omega⟩ ⟨by omega, by omega⟩ (by omega) ?_
    refine lv_istore_n (lv' := [(3, .int (zi 1)), (0, .ref h0), (1, .int (zi va)), (2, .int (zi 10))]) hx hb dX1_addDigits_23 rfl hl (by decide) rfl (fun ls hl => ?_)
    refine lv_goto (tgt := 2) hx hb dX1_addDigits_24 (by decide) ?_
    refine lv_iload_n hx hb dX1_addDigits_2 rfl (lv_at hl 0 rfl) ?_
    refine zw_if_le (tgt := 27) hx hb dX1_addDigits_3 (by decide) ⟨by omega, by omega⟩ (fun h3 => ?_) (fun h3 => ?_)
    · skip
      exact absurd True.intro (by omega)
    · skip
      refine lv_aload_n hx hb dX1_addDigits_6 rfl (lv_at hl 1 rfl) ?_
      refine zw_bipush hx hb dX1_addDigits_7 (by decide) ?_
      refine lv_iload_n hx hb dX1_addDigits_9 rfl (lv_at hl 2 rfl) ?_
      refine lv_iload_n hx hb dX1_addDigits_10 rfl (lv_at hl 0 rfl) ?_
      refine zw_idiv hx hb dX1_addDigits_11 (by omega) ⟨by omega, by omega⟩ ⟨by omega, by omega⟩ (by omega) ?_
      refine zw_bipush hx hb dX1_addDigits_12 (by decide) ?_
      refine zw_irem hx hb dX1_addDigits_14 (by omega) ⟨by omega, by omega⟩ ⟨by omega, by omega⟩ (by omega) ?_
      refine zw_iadd hx hb dX1_addDigits_15 ?_
      have hh4 := c_X1_add l dC dI cI h0 qc (le + 1) (zup cf le.toNat (48 + ((va / 10) % 10))) (48 + ((va / 1) % 10)) H.size (by omega)
      have hPc := hP.sub (ws' := [(h0, .inr (1, [.ref qc, .int (zi (le + 1))])), (qc, aI cI 20 (zup cf le.toNat (48 + ((va / 10) % 10))))]) [0, 1] rfl
      have hKc : va_K (dC, dI) vwCl [(cI, .int)] s := hK
      have hDc := hD.sub (ws' := [(h0, .inr (1, [.ref qc, .int (zi (le + 1))])), (qc, aI cI 20 (zup cf le.toNat (48 + ((va / 10) % 10))))]) [0, 1] (by decide) rfl
      have hFc := va_free (wc := [(h0, .inr (1, [.ref qc, .int (zi (le + 1))])), (qc, aI cI 20 (zup cf le.toNat (48 + ((va / 10) % 10))))]) hD hS hA [0, 1] rfl
      refine va_callv (va_runV (As := [.int (zi (48 + ((va / 1) % 10)))]) (rest := []) ⟨hx, hb, hml, hown, hts⟩ hh4 (cwV 1 hts gX1_addDigits_X1_add rfl rfl rfl (by decide +kernel) ⟨Nat.le_of_ble_eq_true rfl, Nat.le_of_ble_eq_true rfl⟩) ⟨zPw.blind _ _ _ _ _, va_recv hKc hPc (ci := 1) (q0 := 0) rfl rfl, fun U hU hW => ⟨rfl, by rw [hU], by rw [hU]; exact hPc, va_K.moved hW.alike hKc, hDc.weaken (fun _ _ _ _ => trivial)⟩⟩ rfl rfl hl.1 rfl (lv_room (Nat.le_of_ble_eq_true rfl)) dX1_addDigits_16 ⟨Nat.le_of_ble_eq_true rfl, Nat.le_of_ble_eq_true rfl⟩) hS (fun q _ h => hFc q h) hFc (fun u t H1 locs ht hvm hw hB hz1 hk1 hS => ?_)
      obtain ⟨hP1, hK1, hD1⟩ := hB
      rw [ht] at hP1
      obtain ⟨hP, hD⟩ := va_join (wr := []) (w1 := [(h0, .inr (1, [.ref qc, .int (zi ((le + 1) + 1))])), (qc, aI cI 20 (zup (zup cf le.toNat (48 + ((va / 10) % 10))) (Int.toNat (le + 1)) (48 + ((va / 1) % 10))))]) hP hD [0, 1] [] rfl rfl (by decide) (by decide) hk1 hFc hP1 hD1
      generalize H1 = H at hP hS ⊢
      have hP : va_P (dC, dI) vwCl [(h0, .inr (1, [.ref qc, .int (zi ((le + 1) + 1))])), (qc, aI cI 20 (zup (zup cf le.toNat (48 + ((va / 10) % 10))) (Int.toNat (le + 1)) (48 + ((va / 1) % 10))))] H := hP
      have hD : va_D A [(h0, .inr (1, [.ref qc, .int (zi ((le + 1) + 1))])), (qc, aI cI 20 (zup (zup cf le.toNat (48 + ((va / 10) % 10))) (Int.toNat (le + 1)) (48 + ((va / 1) % 10))))] := hD
      refine lv_iload_n hx hb dX1_addDigits_19 rfl (lv_at hl 0 rfl) ?_
      refine zw_bipush hx hb dX1_addDigits_20 (by decide) ?_
      refine zw_idiv hx hb dX1_addDigits_22 (by omega) ⟨by omega, by omega⟩ ⟨by omega, by omega⟩ (by omega) ?_
      refine lv_istore_n (lv' := [(3, .int (zi 0)), (0, .ref h0), (1, .int (zi va)), (2, .int (zi 10))]) hx hb dX1_addDigits_23 rfl hl (by decide) rfl (fun ls hl => ?_)
      refine lv_goto (tgt := 2) hx hb dX1_addDigits_24 (by decide) ?_
      refine lv_iload_n hx hb dX1_addDigits_2 rfl (lv_at hl 0 rfl) ?_
      refine zw_if_le (tgt := 27) hx hb dX1_addDigits_3 (by decide) ⟨by omega, by omega⟩ (fun h5 => ?_) (fun h5 => ?_)
      · skip
        have hP9 := hP.sub (ws' := [(h0, .inr (1, [.ref qc, .int (zi ((le + 1) + 1))])), (qc, aI cI 20 (zup (zup cf le.toNat (48 + ((va / 10) % 10))) (Int.toNat (le + 1)) (48 + ((va / 1) % 10))))]) [0, 1] rfl
        have hD9 := hD.sub (ws' := [(h0, .inr (1, [.ref qc, .int (zi ((le + 1) + 1))])), (qc, aI cI 20 (zup (zup cf le.toNat (48 + ((va / 10) % 10))) (Int.toNat (le + 1)) (48 + ((va / 1) % 10))))]) [0, 1] (by decide) rfl
        exact W.vret hx hb hr (fun t ht hW => ⟨⟨(), rfl, trivial, by rw [ht]; exact hP9, va_K.moved hW.alike hK, hD9⟩, hS.F ht⟩) hS.2.2 dX1_addDigits_27
      · skip
        exact absurd True.intro (by omega)

set_option maxHeartbeats 4000000 in
set_option maxRecDepth 100000 in
theorem c_X1_addDigits_1 (l : Launch)  (dC : Nat → ClassId) (dI : Nat → Nat → Nat) (cI : ClassId) (h0 : Nat) (qc : Nat) (le : Int) (cf : Nat → Int) (va : Int) (sz : Nat) (hp0 : 0 ≤ le ∧ le ≤ 19) (hp1 : 0 ≤ va ∧ va ≤ 99999) : Met l yX1_addDigits wsX1_addDigits ({ frames := 1, cells := 0, slots := 0, locals := 21 }) (zPw (dC, dI) [(cI, .int)] sz [.ref h0, .int (zi va), .int (zi 1)] [(h0, .inr (1, [.ref qc, .int (zi le)])), (qc, aI cI 20 cf)]) (va_Qv (fun (_ : Unit) => True) (zB (dC, dI) [(cI, .int)] (va_A [(h0, .inr (1, [.ref qc, .int (zi le)])), (qc, aI cI 20 cf)] sz) [(h0, .inr (1, [.ref qc, .int (zi (le + 1))])), (qc, aI cI 20 (zup cf le.toNat (48 + ((va / 1) % 10))))]) (va_A [(h0, .inr (1, [.ref qc, .int (zi le)])), (qc, aI cI 20 cf)] sz)) 0 0 (va_A [(h0, .inr (1, [.ref qc, .int (zi le)])), (qc, aI cI 20 cf)] sz) := by
  refine Met.ofW (cc := cX1_addDigits) (maxL := 4) (ret := none) (by decide) rfl ?_
  intro p e s m args below meth c s₁ B hml hv
  obtain ⟨rfl, hsz, hP, hK, hD0⟩ := hv
  have hx := B.exec
  have hb := B.bytes
  have hr := B.returns
  have hts := atoms_spec (ws := wsX1_addDigits) B.pre
  have hown : s.vm.findClass RX1 = some m.cls := findClass_of_methodNamed B.named
  have hlocks := B.notSynchronized
  subst hsz
  have hD := hD0.self (sz := s.heap.size)
  generalize hAe : va_A [(h0, .inr (1, [.ref qc, .int (zi le)])), (qc, aI cI 20 cf)] s.heap.size = A at hD ⊢
  have hA : ∀ q : Nat, s.heap.size ≤ q → A q := fun q h => by rw [← hAe]; exact Or.inr h
  have hS : va_S A s.heap s.heap [] := va_S.rf
  have hP : va_P (dC, dI) vwCl [(h0, .inr (1, [.ref qc, .int (zi le)])), (qc, aI cI 20 cf)] s.heap := hP
  have hl := lv_entry ([.ref h0, .int (zi va), .int (zi 1)]) (n := 4) (Nat.le_of_ble_eq_true rfl)
  rw [lg_entry_eq]
  generalize (lg_sl ([.ref h0, .int (zi va), .int (zi 1)]) ++ List.replicate (4 - (lg_sl ([.ref h0, .int (zi va), .int (zi 1)])).length) Slot.unset).toArray = ls at hl ⊢
  have hl : lv_has ls 4 [(0, .ref h0), (1, .int (zi va)), (2, .int (zi 1))] := hl
  refine lv_iload_n hx hb dX1_addDigits_0 rfl (lv_at hl 2 rfl) ?_
  refine lv_istore_n (lv' := [(3, .int (zi 1)), (0, .ref h0), (1, .int (zi va)), (2, .int (zi 1))]) hx hb dX1_addDigits_1 rfl hl (by decide) rfl (fun ls hl => ?_)
  refine lv_iload_n hx hb dX1_addDigits_2 rfl (lv_at hl 0 rfl) ?_
  refine zw_if_le (tgt := 27) hx hb dX1_addDigits_3 (by decide) ⟨by omega, by omega⟩ (fun h1 => ?_) (fun h1 => ?_)
  · skip
    exact absurd True.intro (by omega)
  · skip
    refine lv_aload_n hx hb dX1_addDigits_6 rfl (lv_at hl 1 rfl) ?_
    refine zw_bipush hx hb dX1_addDigits_7 (by decide) ?_
    refine lv_iload_n hx hb dX1_addDigits_9 rfl (lv_at hl 2 rfl) ?_
    refine lv_iload_n hx hb dX1_addDigits_10 rfl (lv_at hl 0 rfl) ?_
    refine zw_idiv hx hb dX1_addDigits_11 (by omega) ⟨by omega, by omega⟩ ⟨by omega, by omega⟩ (by omega) ?_
    refine zw_bipush hx hb dX1_addDigits_12 (by decide) ?_
    refine zw_irem hx hb dX1_addDigits_14 (by omega) ⟨by omega, by omega⟩ ⟨by omega, by omega⟩ (by omega) ?_
    refine zw_iadd hx hb dX1_addDigits_15 ?_
    have hh2 := c_X1_add l dC dI cI h0 qc le cf (48 + ((va / 1) % 10)) s.heap.size (by omega)
    have hPc := hP.sub (ws' := [(h0, .inr (1, [.ref qc, .int (zi le)])), (qc, aI cI 20 cf)]) [0, 1] rfl
    have hKc : va_K (dC, dI) vwCl [(cI, .int)] s := hK
    have hDc := hD.sub (ws' := [(h0, .inr (1, [.ref qc, .int (zi le)])), (qc, aI cI 20 cf)]) [0, 1] (by decide) rfl
    have hFc := va_free (wc := [(h0, .inr (1, [.ref qc, .int (zi le)])), (qc, aI cI 20 cf)]) hD hS hA [0, 1] rfl
    refine va_callv (va_runV (As := [.int (zi (48 + ((va / 1) % 10)))]) (rest := []) ⟨hx, hb, hml, hown, hts⟩ hh2 (cwV 1 hts gX1_addDigits_X1_add rfl rfl rfl (by decide +kernel) ⟨Nat.le_of_ble_eq_true rfl, Nat.le_of_ble_eq_true rfl⟩) ⟨zPw.blind _ _ _ _ _, va_recv hKc hPc (ci := 1) (q0 := 0) rfl rfl, fun U hU hW => ⟨rfl, by rw [hU], by rw [hU]; exact hPc, va_K.moved hW.alike hKc, hDc.weaken (fun _ _ _ _ => trivial)⟩⟩ rfl rfl hl.1 rfl (lv_room (Nat.le_of_ble_eq_true rfl)) dX1_addDigits_16 ⟨Nat.le_of_ble_eq_true rfl, Nat.le_of_ble_eq_true rfl⟩) hS (fun q _ h => hFc q h) hFc (fun u t H1 locs ht hvm hw hB hz1 hk1 hS => ?_)
    obtain ⟨hP1, hK1, hD1⟩ := hB
    rw [ht] at hP1
    obtain ⟨hP, hD⟩ := va_join (wr := []) (w1 := [(h0, .inr (1, [.ref qc, .int (zi (le + 1))])), (qc, aI cI 20 (zup cf le.toNat (48 + ((va / 1) % 10))))]) hP hD [0, 1] [] rfl rfl (by decide) (by decide) hk1 hFc hP1 hD1
    generalize H1 = H at hP hS ⊢
    have hP : va_P (dC, dI) vwCl [(h0, .inr (1, [.ref qc, .int (zi (le + 1))])), (qc, aI cI 20 (zup cf le.toNat (48 + ((va / 1) % 10))))] H := hP
    have hD : va_D A [(h0, .inr (1, [.ref qc, .int (zi (le + 1))])), (qc, aI cI 20 (zup cf le.toNat (48 + ((va / 1) % 10))))] := hD
    refine lv_iload_n hx hb dX1_addDigits_19 rfl (lv_at hl 0 rfl) ?_
    refine zw_bipush hx hb dX1_addDigits_20 (by decide) ?_
    refine zw_idiv hx hb dX1_addDigits_22 (by omega) ⟨by omega, by omega⟩ ⟨by omega, by omega⟩ (by omega) ?_
    refine lv_istore_n (lv' := [(3, .int (zi 0)), (0, .ref h0), (1, .int (zi va)), (2, .int (zi 1))]) hx hb dX1_addDigits_23 rfl hl (by decide) rfl (fun ls hl => ?_)
    refine lv_goto (tgt := 2) hx hb dX1_addDigits_24 (by decide) ?_
    refine lv_iload_n hx hb dX1_addDigits_2 rfl (lv_at hl 0 rfl) ?_
    refine zw_if_le (tgt := 27) hx hb dX1_addDigits_3 (by decide) ⟨by omega, by omega⟩ (fun h3 => ?_) (fun h3 => ?_)
    · skip
      have hP9 := hP.sub (ws' := [(h0, .inr (1, [.ref qc, .int (zi (le + 1))])), (qc, aI cI 20 (zup cf le.toNat (48 + ((va / 1) % 10))))]) [0, 1] rfl
      have hD9 := hD.sub (ws' := [(h0, .inr (1, [.ref qc, .int (zi (le + 1))])), (qc, aI cI 20 (zup cf le.toNat (48 + ((va / 1) % 10))))]) [0, 1] (by decide) rfl
      exact W.vret hx hb hr (fun t ht hW => ⟨⟨(), rfl, trivial, by rw [ht]; exact hP9, va_K.moved hW.alike hK, hD9⟩, hS.F ht⟩) hS.2.2 dX1_addDigits_27
    · skip
      exact absurd True.intro (by omega)

set_option maxHeartbeats 4000000 in
set_option maxRecDepth 100000 in
theorem c_X1_at (l : Launch)  (dC : Nat → ClassId) (dI : Nat → Nat → Nat) (cI : ClassId) (h0 : Nat) (qc : Nat) (le : Int) (cf : Nat → Int) (ix : Int) (hp0 : 0 ≤ ix ∧ ix < le ∧ le ≤ 20) : Met l yX1_at wsX1_at ({ frames := 0, cells := 0, slots := 0, locals := 0 }) (zPr (dC, dI) [(cI, .int)] [.ref h0, .int (zi ix)] [(h0, .inr (1, [.ref qc, .int (zi le)])), (qc, aI cI 20 cf)]) (vp_Si (fun r => r = zi (cf ix.toNat))) 0 0 zN := by
  refine Met.ofW (cc := cX1_at) (maxL := 2) (ret := (some .int)) (by decide) rfl ?_
  intro p e s m args below meth c s₁ B hml hv
  obtain ⟨rfl, hP, hK⟩ := hv
  have hx := B.exec
  have hb := B.bytes
  have hr := B.returns
  have hts := atoms_spec (ws := wsX1_at) B.pre
  have hown : s.vm.findClass RX1 = some m.cls := findClass_of_methodNamed B.named
  have hlocks := B.notSynchronized
  have hl := lv_entry ([.ref h0, .int (zi ix)]) (n := 2) (Nat.le_of_ble_eq_true rfl)
  rw [lg_entry_eq]
  generalize (lg_sl ([.ref h0, .int (zi ix)]) ++ List.replicate (2 - (lg_sl ([.ref h0, .int (zi ix)])).length) Slot.unset).toArray = ls at hl ⊢
  have hl : lv_has ls 2 [(0, .ref h0), (1, .int (zi ix))] := hl
  refine lv_iload_n hx hb dX1_at_0 rfl (lv_at hl 1 rfl) ?_
  refine zw_if_lt (tgt := 21) hx hb dX1_at_1 (by decide) ⟨by omega, by omega⟩ (fun h1 => ?_) (fun h1 => ?_)
  · skip
    exact absurd True.intro (by omega)
  · skip
    refine lv_iload_n hx hb dX1_at_4 rfl (lv_at hl 1 rfl) ?_
    refine lv_aload_n hx hb dX1_at_5 rfl (lv_at hl 0 rfl) ?_
    refine va_get (D := (dC, dI)) (ci := 1) (v := .int (zi le)) (C := RX1) (T := TX1) (N := 2) hx hb hts (by decide +kernel) hown hK hP 0 rfl rfl 1 (by decide) (hts (.fieldLink RX1 15 "CivilDays$Line" "length" "I") (by decide +kernel)) (fun _ h9 => h9) rfl dX1_at_6 ?_
    refine zw_icmp_ge (tgt := 21) hx hb dX1_at_9 (by decide) ⟨by omega, by omega⟩ ⟨by omega, by omega⟩ (fun h2 => ?_) (fun h2 => ?_)
    · skip
      exact absurd True.intro (by omega)
    · skip
      refine lv_aload_n hx hb dX1_at_12 rfl (lv_at hl 0 rfl) ?_
      refine va_get (D := (dC, dI)) (ci := 1) (v := .ref qc) (C := RX1) (T := TX1) (N := 2) hx hb hts (by decide +kernel) hown hK hP 0 rfl rfl 0 (by decide) (hts (.fieldLink RX1 11 "CivilDays$Line" "characters" "[I") (by decide +kernel)) (fun _ h9 => h9) rfl dX1_at_13 ?_
      refine lv_iload_n hx hb dX1_at_16 rfl (lv_at hl 1 rfl) ?_
      refine zw_iald hx hb hK hP 1 0 rfl rfl (by omega) (by omega) ⟨by omega, by omega⟩ dX1_at_17 ?_
      refine lv_goto (tgt := 22) hx hb dX1_at_18 (by decide) ?_
      exact W.iret (v := zi (cf ix.toNat)) hx hb hr (fun t ht hW => ⟨zi (cf ix.toNat), rfl, rfl, ht⟩) (fun q h => by cases h) dX1_at_22

set_option maxHeartbeats 4000000 in
set_option maxRecDepth 100000 in
theorem c_X1_digits_0_4 (l : Launch)  (dC : Nat → ClassId) (dI : Nat → Nat → Nat) (cI : ClassId) (h0 : Nat) (qc : Nat) (le : Int) (cf : Nat → Int) (hp0 : 4 ≤ le ∧ le ≤ 20) : Met l yX1_digits wsX1_digits ({ frames := 1, cells := 0, slots := 0, locals := 21 }) (zPr (dC, dI) [(cI, .int)] [.ref h0, .int (zi 0), .int (zi 4)] [(h0, .inr (1, [.ref qc, .int (zi le)])), (qc, aI cI 20 cf)]) (vp_Si (fun r => r = zi (((10 * (((10 * (((10 * ((0 + (cf (Int.toNat 0))) - 48)) + (cf (Int.toNat 1))) - 48)) + (cf (Int.toNat 2))) - 48)) + (cf (Int.toNat 3))) - 48))) 0 0 zN := by
  refine Met.ofW (cc := cX1_digits) (maxL := 5) (ret := (some .int)) (by decide) rfl ?_
  intro p e s m args below meth c s₁ B hml hv
  obtain ⟨rfl, hP, hK⟩ := hv
  have hx := B.exec
  have hb := B.bytes
  have hr := B.returns
  have hts := atoms_spec (ws := wsX1_digits) B.pre
  have hown : s.vm.findClass RX1 = some m.cls := findClass_of_methodNamed B.named
  have hlocks := B.notSynchronized
  have hl := lv_entry ([.ref h0, .int (zi 0), .int (zi 4)]) (n := 5) (Nat.le_of_ble_eq_true rfl)
  rw [lg_entry_eq]
  generalize (lg_sl ([.ref h0, .int (zi 0), .int (zi 4)]) ++ List.replicate (5 - (lg_sl ([.ref h0, .int (zi 0), .int (zi 4)])).length) Slot.unset).toArray = ls at hl ⊢
  have hl : lv_has ls 5 [(0, .ref h0), (1, .int (zi 0)), (2, .int (zi 4))] := hl
  refine zw_iconst hx hb dX1_digits_0 ?_
  refine lv_istore_n (lv' := [(3, .int (zi 0)), (0, .ref h0), (1, .int (zi 0)), (2, .int (zi 4))]) hx hb dX1_digits_1 rfl hl (by decide) rfl (fun ls hl => ?_)
  refine lv_iload_n hx hb dX1_digits_2 rfl (lv_at hl 2 rfl) ?_
  refine lv_istore (lv' := [(4, .int (zi 0)), (3, .int (zi 0)), (0, .ref h0), (1, .int (zi 0)), (2, .int (zi 4))]) hx hb dX1_digits_3 hl (by decide) rfl (fun ls hl => ?_)
  refine lv_iload hx hb dX1_digits_5 (lv_at hl 0 rfl) ?_
  refine lv_iload_n hx hb dX1_digits_7 rfl (lv_at hl 3 rfl) ?_
  refine lv_iload_n hx hb dX1_digits_8 rfl (lv_at hl 4 rfl) ?_
  refine zw_iadd hx hb dX1_digits_9 ?_
  refine zw_icmp_ge (tgt := 34) hx hb dX1_digits_10 (by decide) ⟨by omega, by omega⟩ ⟨by omega, by omega⟩ (fun h1 => ?_) (fun h1 => ?_)
  · skip
    exact absurd True.intro (by omega)
  · skip
    refine zw_bipush hx hb dX1_digits_13 (by decide) ?_
    refine lv_iload_n hx hb dX1_digits_15 rfl (lv_at hl 1 rfl) ?_
    refine zw_imul hx hb dX1_digits_16 ?_
    refine lv_aload_n hx hb dX1_digits_17 rfl (lv_at hl 2 rfl) ?_
    refine lv_iload hx hb dX1_digits_18 (lv_at hl 0 rfl) ?_
    have hh2 := c_X1_at l dC dI cI h0 qc le cf 0 (by omega)
    have hPc := hP.sub (ws' := [(h0, .inr (1, [.ref qc, .int (zi le)])), (qc, aI cI 20 cf)]) [0, 1] rfl
    have hKc : va_K (dC, dI) vwCl [(cI, .int)] s := hK
    refine vp_callSi (va_Run.run (va_runV (As := [.int (zi 0)]) (rest := [.int (zi 0)]) ⟨hx, hb, hml, hown, hts⟩ hh2 (cwV 1 hts gX1_digits_X1_at rfl rfl rfl (by decide +kernel) ⟨Nat.le_of_ble_eq_true rfl, Nat.le_of_ble_eq_true rfl⟩) ⟨zPr.blind _ _ _ _, va_recv hKc hPc (ci := 1) (q0 := 0) rfl rfl, fun U hU hW => ⟨rfl, by rw [hU]; exact hPc, va_K.moved hW.alike hKc⟩⟩ rfl rfl hl.1 rfl (lv_room (Nat.le_of_ble_eq_true rfl)) dX1_digits_20 ⟨Nat.le_of_ble_eq_true rfl, Nat.le_of_ble_eq_true rfl⟩)) (fun r2 (hr2 : r2 = zi (cf (Int.toNat 0))) => ?_)
    subst hr2
    refine zw_iadd hx hb dX1_digits_23 ?_
    refine zw_bipush hx hb dX1_digits_24 (by decide) ?_
    refine zw_isub hx hb dX1_digits_26 ?_
    refine zw_top (fun x3 ex3 => ?_)
    refine lv_istore_n (lv' := [(3, .int (zi x3)), (4, .int (zi 0)), (0, .ref h0), (1, .int (zi 0)), (2, .int (zi 4))]) hx hb dX1_digits_27 rfl hl (by decide) rfl (fun ls hl => ?_)
    refine zw_iinc (z := 1) (lv' := [(4, .int (zi 1)), (3, .int (zi x3)), (0, .ref h0), (1, .int (zi 0)), (2, .int (zi 4))]) (k := 1) hx hb (by decide) dX1_digits_28 hl rfl (by decide) rfl (fun ls hl => ?_)
    refine lv_goto (tgt := 5) hx hb dX1_digits_31 (by decide) ?_
    refine lv_iload hx hb dX1_digits_5 (lv_at hl 0 rfl) ?_
    refine lv_iload_n hx hb dX1_digits_7 rfl (lv_at hl 3 rfl) ?_
    refine lv_iload_n hx hb dX1_digits_8 rfl (lv_at hl 4 rfl) ?_
    refine zw_iadd hx hb dX1_digits_9 ?_
    refine zw_icmp_ge (tgt := 34) hx hb dX1_digits_10 (by decide) ⟨by omega, by omega⟩ ⟨by omega, by omega⟩ (fun h4 => ?_) (fun h4 => ?_)
    · skip
      exact absurd True.intro (by omega)
    · skip
      refine zw_bipush hx hb dX1_digits_13 (by decide) ?_
      refine lv_iload_n hx hb dX1_digits_15 rfl (lv_at hl 1 rfl) ?_
      refine zw_imul hx hb dX1_digits_16 ?_
      refine lv_aload_n hx hb dX1_digits_17 rfl (lv_at hl 2 rfl) ?_
      refine lv_iload hx hb dX1_digits_18 (lv_at hl 0 rfl) ?_
      have hh5 := c_X1_at l dC dI cI h0 qc le cf 1 (by omega)
      have hPc := hP.sub (ws' := [(h0, .inr (1, [.ref qc, .int (zi le)])), (qc, aI cI 20 cf)]) [0, 1] rfl
      have hKc : va_K (dC, dI) vwCl [(cI, .int)] s := hK
      refine vp_callSi (va_Run.run (va_runV (As := [.int (zi 1)]) (rest := [.int (zi (10 * x3))]) ⟨hx, hb, hml, hown, hts⟩ hh5 (cwV 1 hts gX1_digits_X1_at rfl rfl rfl (by decide +kernel) ⟨Nat.le_of_ble_eq_true rfl, Nat.le_of_ble_eq_true rfl⟩) ⟨zPr.blind _ _ _ _, va_recv hKc hPc (ci := 1) (q0 := 0) rfl rfl, fun U hU hW => ⟨rfl, by rw [hU]; exact hPc, va_K.moved hW.alike hKc⟩⟩ rfl rfl hl.1 rfl (lv_room (Nat.le_of_ble_eq_true rfl)) dX1_digits_20 ⟨Nat.le_of_ble_eq_true rfl, Nat.le_of_ble_eq_true rfl⟩)) (fun r5 (hr5 : r5 = zi (cf (Int.toNat 1))) => ?_)
      subst hr5
      refine zw_iadd hx hb dX1_digits_23 ?_
      refine zw_bipush hx hb dX1_digits_24 (by decide) ?_
      refine zw_isub hx hb dX1_digits_26 ?_
      refine zw_top (fun x6 ex6 => ?_)
      refine lv_istore_n (lv' := [(3, .int (zi x6)), (4, .int (zi 1)), (0, .ref h0), (1, .int (zi 0)), (2, .int (zi 4))]) hx hb dX1_digits_27 rfl hl (by decide) rfl (fun ls hl => ?_)
      refine zw_iinc (z := 2) (lv' := [(4, .int (zi 2)), (3, .int (zi x6)), (0, .ref h0), (1, .int (zi 0)), (2, .int (zi 4))]) (k := 1) hx hb (by decide) dX1_digits_28 hl rfl (by decide) rfl (fun ls hl => ?_)
      refine lv_goto (tgt := 5) hx hb dX1_digits_31 (by decide) ?_
      refine lv_iload hx hb dX1_digits_5 (lv_at hl 0 rfl) ?_
      refine lv_iload_n hx hb dX1_digits_7 rfl (lv_at hl 3 rfl) ?_
      refine lv_iload_n hx hb dX1_digits_8 rfl (lv_at hl 4 rfl) ?_
      refine zw_iadd hx hb dX1_digits_9 ?_
      refine zw_icmp_ge (tgt := 34) hx hb dX1_digits_10 (by decide) ⟨by omega, by omega⟩ ⟨by omega, by omega⟩ (fun h7 => ?_) (fun h7 => ?_)
      · skip
        exact absurd True.intro (by omega)
      · skip
        refine zw_bipush hx hb dX1_digits_13 (by decide) ?_
        refine lv_iload_n hx hb dX1_digits_15 rfl (lv_at hl 1 rfl) ?_
        refine zw_imul hx hb dX1_digits_16 ?_
        refine lv_aload_n hx hb dX1_digits_17 rfl (lv_at hl 2 rfl) ?_
        refine lv_iload hx hb dX1_digits_18 (lv_at hl 0 rfl) ?_
        have hh8 := c_X1_at l dC dI cI h0 qc le cf 2 (by omega)
        have hPc := hP.sub (ws' := [(h0, .inr (1, [.ref qc, .int (zi le)])), (qc, aI cI 20 cf)]) [0, 1] rfl
        have hKc : va_K (dC, dI) vwCl [(cI, .int)] s := hK
        refine vp_callSi (va_Run.run (va_runV (As := [.int (zi 2)]) (rest := [.int (zi (10 * x6))]) ⟨hx, hb, hml, hown, hts⟩ hh8 (cwV 1 hts gX1_digits_X1_at rfl rfl rfl (by decide +kernel) ⟨Nat.le_of_ble_eq_true rfl, Nat.le_of_ble_eq_true rfl⟩) ⟨zPr.blind _ _ _ _, va_recv hKc hPc (ci := 1) (q0 := 0) rfl rfl, fun U hU hW => ⟨rfl, by rw [hU]; exact hPc, va_K.moved hW.alike hKc⟩⟩ rfl rfl hl.1 rfl (lv_room (Nat.le_of_ble_eq_true rfl)) dX1_digits_20 ⟨Nat.le_of_ble_eq_true rfl, Nat.le_of_ble_eq_true rfl⟩)) (fun r8 (hr8 : r8 = zi (cf (Int.toNat 2))) => ?_)
        subst hr8
        refine zw_iadd hx hb dX1_digits_23 ?_
        refine zw_bipush hx hb dX1_digits_24 (by decide) ?_
        refine zw_isub hx hb dX1_digits_26 ?_
        refine zw_top (fun x9 ex9 => ?_)
        refine lv_istore_n (lv' := [(3, .int (zi x9)), (4, .int (zi 2)), (0, .ref h0), (1, .int (zi 0)), (2, .int (zi 4))]) hx hb dX1_digits_27 rfl hl (by decide) rfl (fun ls hl => ?_)
        refine zw_iinc (z := 3) (lv' := [(4, .int (zi 3)), (3, .int (zi x9)), (0, .ref h0), (1, .int (zi 0)), (2, .int (zi 4))]) (k := 1) hx hb (by decide) dX1_digits_28 hl rfl (by decide) rfl (fun ls hl => ?_)
        refine lv_goto (tgt := 5) hx hb dX1_digits_31 (by decide) ?_
        refine lv_iload hx hb dX1_digits_5 (lv_at hl 0 rfl) ?_
        refine lv_iload_n hx hb dX1_digits_7 rfl (lv_at hl 3 rfl) ?_
        refine lv_iload_n hx hb dX1_digits_8 rfl (lv_at hl 4 rfl) ?_
        refine zw_iadd hx hb dX1_digits_9 ?_
        refine zw_icmp_ge (tgt := 34) hx hb dX1_digits_10 (by decide) ⟨by omega, by omega⟩ ⟨by omega, by omega⟩ (fun h10 => ?_) (fun h10 => ?_)
        · skip
          exact absurd True.intro (by omega)
        · skip
          refine zw_bipush hx hb dX1_digits_13 (by decide) ?_
          refine lv_iload_n hx hb dX1_digits_15 rfl (lv_at hl 1 rfl) ?_
          refine zw_imul hx hb dX1_digits_16 ?_
          refine lv_aload_n hx hb dX1_digits_17 rfl (lv_at hl 2 rfl) ?_
          refine lv_iload hx hb dX1_digits_18 (lv_at hl 0 rfl) ?_
          have hh11 := c_X1_at l dC dI cI h0 qc le cf 3 (by omega)
          have hPc := hP.sub (ws' := [(h0, .inr (1, [.ref qc, .int (zi le)])), (qc, aI cI 20 cf)]) [0, 1] rfl
          have hKc : va_K (dC, dI) vwCl [(cI, .int)] s := hK
          refine vp_callSi (va_Run.run (va_runV (As := [.int (zi 3)]) (rest := [.int (zi (10 * x9))]) ⟨hx, hb, hml, hown, hts⟩ hh11 (cwV 1 hts gX1_digits_X1_at rfl rfl rfl (by decide +kernel) ⟨Nat.le_of_ble_eq_true rfl, Nat.le_of_ble_eq_true rfl⟩) ⟨zPr.blind _ _ _ _, va_recv hKc hPc (ci := 1) (q0 := 0) rfl rfl, fun U hU hW => ⟨rfl, by rw [hU]; exact hPc, va_K.moved hW.alike hKc⟩⟩ rfl rfl hl.1 rfl (lv_room (Nat.le_of_ble_eq_true rfl)) dX1_digits_20 ⟨Nat.le_of_ble_eq_true rfl, Nat.le_of_ble_eq_true rfl⟩)) (fun r11 (hr11 : r11 = zi (cf (Int.toNat 3))) => ?_)
          subst hr11
          refine zw_iadd hx hb dX1_digits_23 ?_
          refine zw_bipush hx hb dX1_digits_24 (by decide) ?_
          refine zw_isub hx hb dX1_digits_26 ?_
          refine zw_top (fun x12 ex12 => ?_)
          refine lv_istore_n (lv' := [(3, .int (zi x12)), (4, .int (zi 3)), (0, .ref h0), (1, .int (zi 0)), (2, .int (zi 4))]) hx hb dX1_digits_27 rfl hl (by decide) rfl (fun ls hl => ?_)
          refine zw_iinc (z := 4) (lv' := [(4, .int (zi 4)), (3, .int (zi x12)), (0, .ref h0), (1, .int (zi 0)), (2, .int (zi 4))]) (k := 1) hx hb (by decide) dX1_digits_28 hl rfl (by decide) rfl (fun ls hl => ?_)
          refine lv_goto (tgt := 5) hx hb dX1_digits_31 (by decide) ?_
          refine lv_iload hx hb dX1_digits_5 (lv_at hl 0 rfl) ?_
          refine lv_iload_n hx hb dX1_digits_7 rfl (lv_at hl 3 rfl) ?_
          refine lv_iload_n hx hb dX1_digits_8 rfl (lv_at hl 4 rfl) ?_
          refine zw_iadd hx hb dX1_digits_9 ?_
          refine zw_icmp_ge (tgt := 34) hx hb dX1_digits_10 (by decide) ⟨by omega, by omega⟩ ⟨by omega, by omega⟩ (fun h13 => ?_) (fun h13 => ?_)
          · skip
            refine lv_iload_n hx hb dX1_digits_34 rfl (lv_at hl 1 rfl) ?_
            subst ex3 ex6 ex9 ex12
            exact W.iret (v := zi (((10 * (((10 * (((10 * ((0 + (cf (Int.toNat 0))) - 48)) + (cf (Int.toNat 1))) - 48)) + (cf (Int.toNat 2))) - 48)) + (cf (Int.toNat 3))) - 48)) hx hb hr (fun t ht hW => ⟨zi (((10 * (((10 * (((10 * ((0 + (cf (Int.toNat 0))) - 48)) + (cf (Int.toNat 1))) - 48)) + (cf (Int.toNat 2))) - 48)) + (cf (Int.toNat 3))) - 48), rfl, rfl, ht⟩) (fun q h => by cases h) dX1_digits_35
          · skip
            exact absurd True.intro (by omega)

set_option maxHeartbeats 4000000 in
set_option maxRecDepth 100000 in
theorem c_X1_digits_5_2 (l : Launch)  (dC : Nat → ClassId) (dI : Nat → Nat → Nat) (cI : ClassId) (h0 : Nat) (qc : Nat) (le : Int) (cf : Nat → Int) (hp0 : 7 ≤ le ∧ le ≤ 20) : Met l yX1_digits wsX1_digits ({ frames := 1, cells := 0, slots := 0, locals := 21 }) (zPr (dC, dI) [(cI, .int)] [.ref h0, .int (zi 5), .int (zi 2)] [(h0, .inr (1, [.ref qc, .int (zi le)])), (qc, aI cI 20 cf)]) (vp_Si (fun r => r = zi (((10 * ((0 + (cf (Int.toNat 5))) - 48)) + (cf (Int.toNat 6))) - 48))) 0 0 zN := by
  refine Met.ofW (cc := cX1_digits) (maxL := 5) (ret := (some .int)) (by decide) rfl ?_
  intro p e s m args below meth c s₁ B hml hv
  obtain ⟨rfl, hP, hK⟩ := hv
  have hx := B.exec
  have hb := B.bytes
  have hr := B.returns
  have hts := atoms_spec (ws := wsX1_digits) B.pre
  have hown : s.vm.findClass RX1 = some m.cls := findClass_of_methodNamed B.named
  have hlocks := B.notSynchronized
  have hl := lv_entry ([.ref h0, .int (zi 5), .int (zi 2)]) (n := 5) (Nat.le_of_ble_eq_true rfl)
  rw [lg_entry_eq]
  generalize (lg_sl ([.ref h0, .int (zi 5), .int (zi 2)]) ++ List.replicate (5 - (lg_sl ([.ref h0, .int (zi 5), .int (zi 2)])).length) Slot.unset).toArray = ls at hl ⊢
  have hl : lv_has ls 5 [(0, .ref h0), (1, .int (zi 5)), (2, .int (zi 2))] := hl
  refine zw_iconst hx hb dX1_digits_0 ?_
  refine lv_istore_n (lv' := [(3, .int (zi 0)), (0, .ref h0), (1, .int (zi 5)), (2, .int (zi 2))]) hx hb dX1_digits_1 rfl hl (by decide) rfl (fun ls hl => ?_)
  refine lv_iload_n hx hb dX1_digits_2 rfl (lv_at hl 2 rfl) ?_
  refine lv_istore (lv' := [(4, .int (zi 5)), (3, .int (zi 0)), (0, .ref h0), (1, .int (zi 5)), (2, .int (zi 2))]) hx hb dX1_digits_3 hl (by decide) rfl (fun ls hl => ?_)
  refine lv_iload hx hb dX1_digits_5 (lv_at hl 0 rfl) ?_
  refine lv_iload_n hx hb dX1_digits_7 rfl (lv_at hl 3 rfl) ?_
  refine lv_iload_n hx hb dX1_digits_8 rfl (lv_at hl 4 rfl) ?_
  refine zw_iadd hx hb dX1_digits_9 ?_
  refine zw_icmp_ge (tgt := 34) hx hb dX1_digits_10 (by decide) ⟨by omega, by omega⟩ ⟨by omega, by omega⟩ (fun h1 => ?_) (fun h1 => ?_)
  · skip
    exact absurd True.intro (by omega)
  · skip
    refine zw_bipush hx hb dX1_digits_13 (by decide) ?_
    refine lv_iload_n hx hb dX1_digits_15 rfl (lv_at hl 1 rfl) ?_
    refine zw_imul hx hb dX1_digits_16 ?_
    refine lv_aload_n hx hb dX1_digits_17 rfl (lv_at hl 2 rfl) ?_
    refine lv_iload hx hb dX1_digits_18 (lv_at hl 0 rfl) ?_
    have hh2 := c_X1_at l dC dI cI h0 qc le cf 5 (by omega)
    have hPc := hP.sub (ws' := [(h0, .inr (1, [.ref qc, .int (zi le)])), (qc, aI cI 20 cf)]) [0, 1] rfl
    have hKc : va_K (dC, dI) vwCl [(cI, .int)] s := hK
    refine vp_callSi (va_Run.run (va_runV (As := [.int (zi 5)]) (rest := [.int (zi 0)]) ⟨hx, hb, hml, hown, hts⟩ hh2 (cwV 1 hts gX1_digits_X1_at rfl rfl rfl (by decide +kernel) ⟨Nat.le_of_ble_eq_true rfl, Nat.le_of_ble_eq_true rfl⟩) ⟨zPr.blind _ _ _ _, va_recv hKc hPc (ci := 1) (q0 := 0) rfl rfl, fun U hU hW => ⟨rfl, by rw [hU]; exact hPc, va_K.moved hW.alike hKc⟩⟩ rfl rfl hl.1 rfl (lv_room (Nat.le_of_ble_eq_true rfl)) dX1_digits_20 ⟨Nat.le_of_ble_eq_true rfl, Nat.le_of_ble_eq_true rfl⟩)) (fun r2 (hr2 : r2 = zi (cf (Int.toNat 5))) => ?_)
    subst hr2
    refine zw_iadd hx hb dX1_digits_23 ?_
    refine zw_bipush hx hb dX1_digits_24 (by decide) ?_
    refine zw_isub hx hb dX1_digits_26 ?_
    refine zw_top (fun x3 ex3 => ?_)
    refine lv_istore_n (lv' := [(3, .int (zi x3)), (4, .int (zi 5)), (0, .ref h0), (1, .int (zi 5)), (2, .int (zi 2))]) hx hb dX1_digits_27 rfl hl (by decide) rfl (fun ls hl => ?_)
    refine zw_iinc (z := 6) (lv' := [(4, .int (zi 6)), (3, .int (zi x3)), (0, .ref h0), (1, .int (zi 5)), (2, .int (zi 2))]) (k := 1) hx hb (by decide) dX1_digits_28 hl rfl (by decide) rfl (fun ls hl => ?_)
    refine lv_goto (tgt := 5) hx hb dX1_digits_31 (by decide) ?_
    refine lv_iload hx hb dX1_digits_5 (lv_at hl 0 rfl) ?_
    refine lv_iload_n hx hb dX1_digits_7 rfl (lv_at hl 3 rfl) ?_
    refine lv_iload_n hx hb dX1_digits_8 rfl (lv_at hl 4 rfl) ?_
    refine zw_iadd hx hb dX1_digits_9 ?_
    refine zw_icmp_ge (tgt := 34) hx hb dX1_digits_10 (by decide) ⟨by omega, by omega⟩ ⟨by omega, by omega⟩ (fun h4 => ?_) (fun h4 => ?_)
    · skip
      exact absurd True.intro (by omega)
    · skip
      refine zw_bipush hx hb dX1_digits_13 (by decide) ?_
      refine lv_iload_n hx hb dX1_digits_15 rfl (lv_at hl 1 rfl) ?_
      refine zw_imul hx hb dX1_digits_16 ?_
      refine lv_aload_n hx hb dX1_digits_17 rfl (lv_at hl 2 rfl) ?_
      refine lv_iload hx hb dX1_digits_18 (lv_at hl 0 rfl) ?_
      have hh5 := c_X1_at l dC dI cI h0 qc le cf 6 (by omega)
      have hPc := hP.sub (ws' := [(h0, .inr (1, [.ref qc, .int (zi le)])), (qc, aI cI 20 cf)]) [0, 1] rfl
      have hKc : va_K (dC, dI) vwCl [(cI, .int)] s := hK
      refine vp_callSi (va_Run.run (va_runV (As := [.int (zi 6)]) (rest := [.int (zi (10 * x3))]) ⟨hx, hb, hml, hown, hts⟩ hh5 (cwV 1 hts gX1_digits_X1_at rfl rfl rfl (by decide +kernel) ⟨Nat.le_of_ble_eq_true rfl, Nat.le_of_ble_eq_true rfl⟩) ⟨zPr.blind _ _ _ _, va_recv hKc hPc (ci := 1) (q0 := 0) rfl rfl, fun U hU hW => ⟨rfl, by rw [hU]; exact hPc, va_K.moved hW.alike hKc⟩⟩ rfl rfl hl.1 rfl (lv_room (Nat.le_of_ble_eq_true rfl)) dX1_digits_20 ⟨Nat.le_of_ble_eq_true rfl, Nat.le_of_ble_eq_true rfl⟩)) (fun r5 (hr5 : r5 = zi (cf (Int.toNat 6))) => ?_)
      subst hr5
      refine zw_iadd hx hb dX1_digits_23 ?_
      refine zw_bipush hx hb dX1_digits_24 (by decide) ?_
      refine zw_isub hx hb dX1_digits_26 ?_
      refine zw_top (fun x6 ex6 => ?_)
      refine lv_istore_n (lv' := [(3, .int (zi x6)), (4, .int (zi 6)), (0, .ref h0), (1, .int (zi 5)), (2, .int (zi 2))]) hx hb dX1_digits_27 rfl hl (by decide) rfl (fun ls hl => ?_)
      refine zw_iinc (z := 7) (lv' := [(4, .int (zi 7)), (3, .int (zi x6)), (0, .ref h0), (1, .int (zi 5)), (2, .int (zi 2))]) (k := 1) hx hb (by decide) dX1_digits_28 hl rfl (by decide) rfl (fun ls hl => ?_)
      refine lv_goto (tgt := 5) hx hb dX1_digits_31 (by decide) ?_
      refine lv_iload hx hb dX1_digits_5 (lv_at hl 0 rfl) ?_
      refine lv_iload_n hx hb dX1_digits_7 rfl (lv_at hl 3 rfl) ?_
      refine lv_iload_n hx hb dX1_digits_8 rfl (lv_at hl 4 rfl) ?_
      refine zw_iadd hx hb dX1_digits_9 ?_
      refine zw_icmp_ge (tgt := 34) hx hb dX1_digits_10 (by decide) ⟨by omega, by omega⟩ ⟨by omega, by omega⟩ (fun h7 => ?_) (fun h7 => ?_)
      · skip
        refine lv_iload_n hx hb dX1_digits_34 rfl (lv_at hl 1 rfl) ?_
        subst ex3 ex6
        exact W.iret (v := zi (((10 * ((0 + (cf (Int.toNat 5))) - 48)) + (cf (Int.toNat 6))) - 48)) hx hb hr (fun t ht hW => ⟨zi (((10 * ((0 + (cf (Int.toNat 5))) - 48)) + (cf (Int.toNat 6))) - 48), rfl, rfl, ht⟩) (fun q h => by cases h) dX1_digits_35
      · skip
        exact absurd True.intro (by omega)

set_option maxHeartbeats 4000000 in
set_option maxRecDepth 100000 in
theorem c_X1_digits_8_2 (l : Launch)  (dC : Nat → ClassId) (dI : Nat → Nat → Nat) (cI : ClassId) (h0 : Nat) (qc : Nat) (le : Int) (cf : Nat → Int) (hp0 : 10 ≤ le ∧ le ≤ 20) : Met l yX1_digits wsX1_digits ({ frames := 1, cells := 0, slots := 0, locals := 21 }) (zPr (dC, dI) [(cI, .int)] [.ref h0, .int (zi 8), .int (zi 2)] [(h0, .inr (1, [.ref qc, .int (zi le)])), (qc, aI cI 20 cf)]) (vp_Si (fun r => r = zi (((10 * ((0 + (cf (Int.toNat 8))) - 48)) + (cf (Int.toNat 9))) - 48))) 0 0 zN := by
  refine Met.ofW (cc := cX1_digits) (maxL := 5) (ret := (some .int)) (by decide) rfl ?_
  intro p e s m args below meth c s₁ B hml hv
  obtain ⟨rfl, hP, hK⟩ := hv
  have hx := B.exec
  have hb := B.bytes
  have hr := B.returns
  have hts := atoms_spec (ws := wsX1_digits) B.pre
  have hown : s.vm.findClass RX1 = some m.cls := findClass_of_methodNamed B.named
  have hlocks := B.notSynchronized
  have hl := lv_entry ([.ref h0, .int (zi 8), .int (zi 2)]) (n := 5) (Nat.le_of_ble_eq_true rfl)
  rw [lg_entry_eq]
  generalize (lg_sl ([.ref h0, .int (zi 8), .int (zi 2)]) ++ List.replicate (5 - (lg_sl ([.ref h0, .int (zi 8), .int (zi 2)])).length) Slot.unset).toArray = ls at hl ⊢
  have hl : lv_has ls 5 [(0, .ref h0), (1, .int (zi 8)), (2, .int (zi 2))] := hl
  refine zw_iconst hx hb dX1_digits_0 ?_
  refine lv_istore_n (lv' := [(3, .int (zi 0)), (0, .ref h0), (1, .int (zi 8)), (2, .int (zi 2))]) hx hb dX1_digits_1 rfl hl (by decide) rfl (fun ls hl => ?_)
  refine lv_iload_n hx hb dX1_digits_2 rfl (lv_at hl 2 rfl) ?_
  refine lv_istore (lv' := [(4, .int (zi 8)), (3, .int (zi 0)), (0, .ref h0), (1, .int (zi 8)), (2, .int (zi 2))]) hx hb dX1_digits_3 hl (by decide) rfl (fun ls hl => ?_)
  refine lv_iload hx hb dX1_digits_5 (lv_at hl 0 rfl) ?_
  refine lv_iload_n hx hb dX1_digits_7 rfl (lv_at hl 3 rfl) ?_
  refine lv_iload_n hx hb dX1_digits_8 rfl (lv_at hl 4 rfl) ?_
  refine zw_iadd hx hb dX1_digits_9 ?_
  refine zw_icmp_ge (tgt := 34) hx hb dX1_digits_10 (by decide) ⟨by omega, by omega⟩ ⟨by omega, by omega⟩ (fun h1 => ?_) (fun h1 => ?_)
  · skip
    exact absurd True.intro (by omega)
  · skip
    refine zw_bipush hx hb dX1_digits_13 (by decide) ?_
    refine lv_iload_n hx hb dX1_digits_15 rfl (lv_at hl 1 rfl) ?_
    refine zw_imul hx hb dX1_digits_16 ?_
    refine lv_aload_n hx hb dX1_digits_17 rfl (lv_at hl 2 rfl) ?_
    refine lv_iload hx hb dX1_digits_18 (lv_at hl 0 rfl) ?_
    have hh2 := c_X1_at l dC dI cI h0 qc le cf 8 (by omega)
    have hPc := hP.sub (ws' := [(h0, .inr (1, [.ref qc, .int (zi le)])), (qc, aI cI 20 cf)]) [0, 1] rfl
    have hKc : va_K (dC, dI) vwCl [(cI, .int)] s := hK
    refine vp_callSi (va_Run.run (va_runV (As := [.int (zi 8)]) (rest := [.int (zi 0)]) ⟨hx, hb, hml, hown, hts⟩ hh2 (cwV 1 hts gX1_digits_X1_at rfl rfl rfl (by decide +kernel) ⟨Nat.le_of_ble_eq_true rfl, Nat.le_of_ble_eq_true rfl⟩) ⟨zPr.blind _ _ _ _, va_recv hKc hPc (ci := 1) (q0 := 0) rfl rfl, fun U hU hW => ⟨rfl, by rw [hU]; exact hPc, va_K.moved hW.alike hKc⟩⟩ rfl rfl hl.1 rfl (lv_room (Nat.le_of_ble_eq_true rfl)) dX1_digits_20 ⟨Nat.le_of_ble_eq_true rfl, Nat.le_of_ble_eq_true rfl⟩)) (fun r2 (hr2 : r2 = zi (cf (Int.toNat 8))) => ?_)
    subst hr2
    refine zw_iadd hx hb dX1_digits_23 ?_
    refine zw_bipush hx hb dX1_digits_24 (by decide) ?_
    refine zw_isub hx hb dX1_digits_26 ?_
    refine zw_top (fun x3 ex3 => ?_)
    refine lv_istore_n (lv' := [(3, .int (zi x3)), (4, .int (zi 8)), (0, .ref h0), (1, .int (zi 8)), (2, .int (zi 2))]) hx hb dX1_digits_27 rfl hl (by decide) rfl (fun ls hl => ?_)
    refine zw_iinc (z := 9) (lv' := [(4, .int (zi 9)), (3, .int (zi x3)), (0, .ref h0), (1, .int (zi 8)), (2, .int (zi 2))]) (k := 1) hx hb (by decide) dX1_digits_28 hl rfl (by decide) rfl (fun ls hl => ?_)
    refine lv_goto (tgt := 5) hx hb dX1_digits_31 (by decide) ?_
    refine lv_iload hx hb dX1_digits_5 (lv_at hl 0 rfl) ?_
    refine lv_iload_n hx hb dX1_digits_7 rfl (lv_at hl 3 rfl) ?_
    refine lv_iload_n hx hb dX1_digits_8 rfl (lv_at hl 4 rfl) ?_
    refine zw_iadd hx hb dX1_digits_9 ?_
    refine zw_icmp_ge (tgt := 34) hx hb dX1_digits_10 (by decide) ⟨by omega, by omega⟩ ⟨by omega, by omega⟩ (fun h4 => ?_) (fun h4 => ?_)
    · skip
      exact absurd True.intro (by omega)
    · skip
      refine zw_bipush hx hb dX1_digits_13 (by decide) ?_
      refine lv_iload_n hx hb dX1_digits_15 rfl (lv_at hl 1 rfl) ?_
      refine zw_imul hx hb dX1_digits_16 ?_
      refine lv_aload_n hx hb dX1_digits_17 rfl (lv_at hl 2 rfl) ?_
      refine lv_iload hx hb dX1_digits_18 (lv_at hl 0 rfl) ?_
      have hh5 := c_X1_at l dC dI cI h0 qc le cf 9 (by omega)
      have hPc := hP.sub (ws' := [(h0, .inr (1, [.ref qc, .int (zi le)])), (qc, aI cI 20 cf)]) [0, 1] rfl
      have hKc : va_K (dC, dI) vwCl [(cI, .int)] s := hK
      refine vp_callSi (va_Run.run (va_runV (As := [.int (zi 9)]) (rest := [.int (zi (10 * x3))]) ⟨hx, hb, hml, hown, hts⟩ hh5 (cwV 1 hts gX1_digits_X1_at rfl rfl rfl (by decide +kernel) ⟨Nat.le_of_ble_eq_true rfl, Nat.le_of_ble_eq_true rfl⟩) ⟨zPr.blind _ _ _ _, va_recv hKc hPc (ci := 1) (q0 := 0) rfl rfl, fun U hU hW => ⟨rfl, by rw [hU]; exact hPc, va_K.moved hW.alike hKc⟩⟩ rfl rfl hl.1 rfl (lv_room (Nat.le_of_ble_eq_true rfl)) dX1_digits_20 ⟨Nat.le_of_ble_eq_true rfl, Nat.le_of_ble_eq_true rfl⟩)) (fun r5 (hr5 : r5 = zi (cf (Int.toNat 9))) => ?_)
      subst hr5
      refine zw_iadd hx hb dX1_digits_23 ?_
      refine zw_bipush hx hb dX1_digits_24 (by decide) ?_
      refine zw_isub hx hb dX1_digits_26 ?_
      refine zw_top (fun x6 ex6 => ?_)
      refine lv_istore_n (lv' := [(3, .int (zi x6)), (4, .int (zi 9)), (0, .ref h0), (1, .int (zi 8)), (2, .int (zi 2))]) hx hb dX1_digits_27 rfl hl (by decide) rfl (fun ls hl => ?_)
      refine zw_iinc (z := 10) (lv' := [(4, .int (zi 10)), (3, .int (zi x6)), (0, .ref h0), (1, .int (zi 8)), (2, .int (zi 2))]) (k := 1) hx hb (by decide) dX1_digits_28 hl rfl (by decide) rfl (fun ls hl => ?_)
      refine lv_goto (tgt := 5) hx hb dX1_digits_31 (by decide) ?_
      refine lv_iload hx hb dX1_digits_5 (lv_at hl 0 rfl) ?_
      refine lv_iload_n hx hb dX1_digits_7 rfl (lv_at hl 3 rfl) ?_
      refine lv_iload_n hx hb dX1_digits_8 rfl (lv_at hl 4 rfl) ?_
      refine zw_iadd hx hb dX1_digits_9 ?_
      refine zw_icmp_ge (tgt := 34) hx hb dX1_digits_10 (by decide) ⟨by omega, by omega⟩ ⟨by omega, by omega⟩ (fun h7 => ?_) (fun h7 => ?_)
      · skip
        refine lv_iload_n hx hb dX1_digits_34 rfl (lv_at hl 1 rfl) ?_
        subst ex3 ex6
        exact W.iret (v := zi (((10 * ((0 + (cf (Int.toNat 8))) - 48)) + (cf (Int.toNat 9))) - 48)) hx hb hr (fun t ht hW => ⟨zi (((10 * ((0 + (cf (Int.toNat 8))) - 48)) + (cf (Int.toNat 9))) - 48), rfl, rfl, ht⟩) (fun q h => by cases h) dX1_digits_35
      · skip
        exact absurd True.intro (by omega)

set_option maxHeartbeats 4000000 in
set_option maxRecDepth 100000 in
theorem c_X1_digits_6_2 (l : Launch)  (dC : Nat → ClassId) (dI : Nat → Nat → Nat) (cI : ClassId) (h0 : Nat) (qc : Nat) (le : Int) (cf : Nat → Int) (hp0 : 8 ≤ le ∧ le ≤ 20) : Met l yX1_digits wsX1_digits ({ frames := 1, cells := 0, slots := 0, locals := 21 }) (zPr (dC, dI) [(cI, .int)] [.ref h0, .int (zi 6), .int (zi 2)] [(h0, .inr (1, [.ref qc, .int (zi le)])), (qc, aI cI 20 cf)]) (vp_Si (fun r => r = zi (((10 * ((0 + (cf (Int.toNat 6))) - 48)) + (cf (Int.toNat 7))) - 48))) 0 0 zN := by
  refine Met.ofW (cc := cX1_digits) (maxL := 5) (ret := (some .int)) (by decide) rfl ?_
  intro p e s m args below meth c s₁ B hml hv
  obtain ⟨rfl, hP, hK⟩ := hv
  have hx := B.exec
  have hb := B.bytes
  have hr := B.returns
  have hts := atoms_spec (ws := wsX1_digits) B.pre
  have hown : s.vm.findClass RX1 = some m.cls := findClass_of_methodNamed B.named
  have hlocks := B.notSynchronized
  have hl := lv_entry ([.ref h0, .int (zi 6), .int (zi 2)]) (n := 5) (Nat.le_of_ble_eq_true rfl)
  rw [lg_entry_eq]
  generalize (lg_sl ([.ref h0, .int (zi 6), .int (zi 2)]) ++ List.replicate (5 - (lg_sl ([.ref h0, .int (zi 6), .int (zi 2)])).length) Slot.unset).toArray = ls at hl ⊢
  have hl : lv_has ls 5 [(0, .ref h0), (1, .int (zi 6)), (2, .int (zi 2))] := hl
  refine zw_iconst hx hb dX1_digits_0 ?_
  refine lv_istore_n (lv' := [(3, .int (zi 0)), (0, .ref h0), (1, .int (zi 6)), (2, .int (zi 2))]) hx hb dX1_digits_1 rfl hl (by decide) rfl (fun ls hl => ?_)
  refine lv_iload_n hx hb dX1_digits_2 rfl (lv_at hl 2 rfl) ?_
  refine lv_istore (lv' := [(4, .int (zi 6)), (3, .int (zi 0)), (0, .ref h0), (1, .int (zi 6)), (2, .int (zi 2))]) hx hb dX1_digits_3 hl (by decide) rfl (fun ls hl => ?_)
  refine lv_iload hx hb dX1_digits_5 (lv_at hl 0 rfl) ?_
  refine lv_iload_n hx hb dX1_digits_7 rfl (lv_at hl 3 rfl) ?_
  refine lv_iload_n hx hb dX1_digits_8 rfl (lv_at hl 4 rfl) ?_
  refine zw_iadd hx hb dX1_digits_9 ?_
  refine zw_icmp_ge (tgt := 34) hx hb dX1_digits_10 (by decide) ⟨by omega, by omega⟩ ⟨by omega, by omega⟩ (fun h1 => ?_) (fun h1 => ?_)
  · skip
    exact absurd True.intro (by omega)
  · skip
    refine zw_bipush hx hb dX1_digits_13 (by decide) ?_
    refine lv_iload_n hx hb dX1_digits_15 rfl (lv_at hl 1 rfl) ?_
    refine zw_imul hx hb dX1_digits_16 ?_
    refine lv_aload_n hx hb dX1_digits_17 rfl (lv_at hl 2 rfl) ?_
    refine lv_iload hx hb dX1_digits_18 (lv_at hl 0 rfl) ?_
    have hh2 := c_X1_at l dC dI cI h0 qc le cf 6 (by omega)
    have hPc := hP.sub (ws' := [(h0, .inr (1, [.ref qc, .int (zi le)])), (qc, aI cI 20 cf)]) [0, 1] rfl
    have hKc : va_K (dC, dI) vwCl [(cI, .int)] s := hK
    refine vp_callSi (va_Run.run (va_runV (As := [.int (zi 6)]) (rest := [.int (zi 0)]) ⟨hx, hb, hml, hown, hts⟩ hh2 (cwV 1 hts gX1_digits_X1_at rfl rfl rfl (by decide +kernel) ⟨Nat.le_of_ble_eq_true rfl, Nat.le_of_ble_eq_true rfl⟩) ⟨zPr.blind _ _ _ _, va_recv hKc hPc (ci := 1) (q0 := 0) rfl rfl, fun U hU hW => ⟨rfl, by rw [hU]; exact hPc, va_K.moved hW.alike hKc⟩⟩ rfl rfl hl.1 rfl (lv_room (Nat.le_of_ble_eq_true rfl)) dX1_digits_20 ⟨Nat.le_of_ble_eq_true rfl, Nat.le_of_ble_eq_true rfl⟩)) (fun r2 (hr2 : r2 = zi (cf (Int.toNat 6))) => ?_)
    subst hr2
    refine zw_iadd hx hb dX1_digits_23 ?_
    refine zw_bipush hx hb dX1_digits_24 (by decide) ?_
    refine zw_isub hx hb dX1_digits_26 ?_
    refine zw_top (fun x3 ex3 => ?_)
    refine lv_istore_n (lv' := [(3, .int (zi x3)), (4, .int (zi 6)), (0, .ref h0), (1, .int (zi 6)), (2, .int (zi 2))]) hx hb dX1_digits_27 rfl hl (by decide) rfl (fun ls hl => ?_)
    refine zw_iinc (z := 7) (lv' := [(4, .int (zi 7)), (3, .int (zi x3)), (0, .ref h0), (1, .int (zi 6)), (2, .int (zi 2))]) (k := 1) hx hb (by decide) dX1_digits_28 hl rfl (by decide) rfl (fun ls hl => ?_)
    refine lv_goto (tgt := 5) hx hb dX1_digits_31 (by decide) ?_
    refine lv_iload hx hb dX1_digits_5 (lv_at hl 0 rfl) ?_
    refine lv_iload_n hx hb dX1_digits_7 rfl (lv_at hl 3 rfl) ?_
    refine lv_iload_n hx hb dX1_digits_8 rfl (lv_at hl 4 rfl) ?_
    refine zw_iadd hx hb dX1_digits_9 ?_
    refine zw_icmp_ge (tgt := 34) hx hb dX1_digits_10 (by decide) ⟨by omega, by omega⟩ ⟨by omega, by omega⟩ (fun h4 => ?_) (fun h4 => ?_)
    · skip
      exact absurd True.intro (by omega)
    · skip
      refine zw_bipush hx hb dX1_digits_13 (by decide) ?_
      refine lv_iload_n hx hb dX1_digits_15 rfl (lv_at hl 1 rfl) ?_
      refine zw_imul hx hb dX1_digits_16 ?_
      refine lv_aload_n hx hb dX1_digits_17 rfl (lv_at hl 2 rfl) ?_
      refine lv_iload hx hb dX1_digits_18 (lv_at hl 0 rfl) ?_
      have hh5 := c_X1_at l dC dI cI h0 qc le cf 7 (by omega)
      have hPc := hP.sub (ws' := [(h0, .inr (1, [.ref qc, .int (zi le)])), (qc, aI cI 20 cf)]) [0, 1] rfl
      have hKc : va_K (dC, dI) vwCl [(cI, .int)] s := hK
      refine vp_callSi (va_Run.run (va_runV (As := [.int (zi 7)]) (rest := [.int (zi (10 * x3))]) ⟨hx, hb, hml, hown, hts⟩ hh5 (cwV 1 hts gX1_digits_X1_at rfl rfl rfl (by decide +kernel) ⟨Nat.le_of_ble_eq_true rfl, Nat.le_of_ble_eq_true rfl⟩) ⟨zPr.blind _ _ _ _, va_recv hKc hPc (ci := 1) (q0 := 0) rfl rfl, fun U hU hW => ⟨rfl, by rw [hU]; exact hPc, va_K.moved hW.alike hKc⟩⟩ rfl rfl hl.1 rfl (lv_room (Nat.le_of_ble_eq_true rfl)) dX1_digits_20 ⟨Nat.le_of_ble_eq_true rfl, Nat.le_of_ble_eq_true rfl⟩)) (fun r5 (hr5 : r5 = zi (cf (Int.toNat 7))) => ?_)
      subst hr5
      refine zw_iadd hx hb dX1_digits_23 ?_
      refine zw_bipush hx hb dX1_digits_24 (by decide) ?_
      refine zw_isub hx hb dX1_digits_26 ?_
      refine zw_top (fun x6 ex6 => ?_)
      refine lv_istore_n (lv' := [(3, .int (zi x6)), (4, .int (zi 7)), (0, .ref h0), (1, .int (zi 6)), (2, .int (zi 2))]) hx hb dX1_digits_27 rfl hl (by decide) rfl (fun ls hl => ?_)
      refine zw_iinc (z := 8) (lv' := [(4, .int (zi 8)), (3, .int (zi x6)), (0, .ref h0), (1, .int (zi 6)), (2, .int (zi 2))]) (k := 1) hx hb (by decide) dX1_digits_28 hl rfl (by decide) rfl (fun ls hl => ?_)
      refine lv_goto (tgt := 5) hx hb dX1_digits_31 (by decide) ?_
      refine lv_iload hx hb dX1_digits_5 (lv_at hl 0 rfl) ?_
      refine lv_iload_n hx hb dX1_digits_7 rfl (lv_at hl 3 rfl) ?_
      refine lv_iload_n hx hb dX1_digits_8 rfl (lv_at hl 4 rfl) ?_
      refine zw_iadd hx hb dX1_digits_9 ?_
      refine zw_icmp_ge (tgt := 34) hx hb dX1_digits_10 (by decide) ⟨by omega, by omega⟩ ⟨by omega, by omega⟩ (fun h7 => ?_) (fun h7 => ?_)
      · skip
        refine lv_iload_n hx hb dX1_digits_34 rfl (lv_at hl 1 rfl) ?_
        subst ex3 ex6
        exact W.iret (v := zi (((10 * ((0 + (cf (Int.toNat 6))) - 48)) + (cf (Int.toNat 7))) - 48)) hx hb hr (fun t ht hW => ⟨zi (((10 * ((0 + (cf (Int.toNat 6))) - 48)) + (cf (Int.toNat 7))) - 48), rfl, rfl, ht⟩) (fun q h => by cases h) dX1_digits_35
      · skip
        exact absurd True.intro (by omega)

set_option maxHeartbeats 4000000 in
set_option maxRecDepth 100000 in
theorem c_X1_digits_9_1 (l : Launch)  (dC : Nat → ClassId) (dI : Nat → Nat → Nat) (cI : ClassId) (h0 : Nat) (qc : Nat) (le : Int) (cf : Nat → Int) (hp0 : 10 ≤ le ∧ le ≤ 20) : Met l yX1_digits wsX1_digits ({ frames := 1, cells := 0, slots := 0, locals := 21 }) (zPr (dC, dI) [(cI, .int)] [.ref h0, .int (zi 9), .int (zi 1)] [(h0, .inr (1, [.ref qc, .int (zi le)])), (qc, aI cI 20 cf)]) (vp_Si (fun r => r = zi ((0 + (cf (Int.toNat 9))) - 48))) 0 0 zN := by
  refine Met.ofW (cc := cX1_digits) (maxL := 5) (ret := (some .int)) (by decide) rfl ?_
  intro p e s m args below meth c s₁ B hml hv
  obtain ⟨rfl, hP, hK⟩ := hv
  have hx := B.exec
  have hb := B.bytes
  have hr := B.returns
  have hts := atoms_spec (ws := wsX1_digits) B.pre
  have hown : s.vm.findClass RX1 = some m.cls := findClass_of_methodNamed B.named
  have hlocks := B.notSynchronized
  have hl := lv_entry ([.ref h0, .int (zi 9), .int (zi 1)]) (n := 5) (Nat.le_of_ble_eq_true rfl)
  rw [lg_entry_eq]
  generalize (lg_sl ([.ref h0, .int (zi 9), .int (zi 1)]) ++ List.replicate (5 - (lg_sl ([.ref h0, .int (zi 9), .int (zi 1)])).length) Slot.unset).toArray = ls at hl ⊢
  have hl : lv_has ls 5 [(0, .ref h0), (1, .int (zi 9)), (2, .int (zi 1))] := hl
  refine zw_iconst hx hb dX1_digits_0 ?_
  refine lv_istore_n (lv' := [(3, .int (zi 0)), (0, .ref h0), (1, .int (zi 9)), (2, .int (zi 1))]) hx hb dX1_digits_1 rfl hl (by decide) rfl (fun ls hl => ?_)
  refine lv_iload_n hx hb dX1_digits_2 rfl (lv_at hl 2 rfl) ?_
  refine lv_istore (lv' := [(4, .int (zi 9)), (3, .int (zi 0)), (0, .ref h0), (1, .int (zi 9)), (2, .int (zi 1))]) hx hb dX1_digits_3 hl (by decide) rfl (fun ls hl => ?_)
  refine lv_iload hx hb dX1_digits_5 (lv_at hl 0 rfl) ?_
  refine lv_iload_n hx hb dX1_digits_7 rfl (lv_at hl 3 rfl) ?_
  refine lv_iload_n hx hb dX1_digits_8 rfl (lv_at hl 4 rfl) ?_
  refine zw_iadd hx hb dX1_digits_9 ?_
  refine zw_icmp_ge (tgt := 34) hx hb dX1_digits_10 (by decide) ⟨by omega, by omega⟩ ⟨by omega, by omega⟩ (fun h1 => ?_) (fun h1 => ?_)
  · skip
    exact absurd True.intro (by omega)
  · skip
    refine zw_bipush hx hb dX1_digits_13 (by decide) ?_
    refine lv_iload_n hx hb dX1_digits_15 rfl (lv_at hl 1 rfl) ?_
    refine zw_imul hx hb dX1_digits_16 ?_
    refine lv_aload_n hx hb dX1_digits_17 rfl (lv_at hl 2 rfl) ?_
    refine lv_iload hx hb dX1_digits_18 (lv_at hl 0 rfl) ?_
    have hh2 := c_X1_at l dC dI cI h0 qc le cf 9 (by omega)
    have hPc := hP.sub (ws' := [(h0, .inr (1, [.ref qc, .int (zi le)])), (qc, aI cI 20 cf)]) [0, 1] rfl
    have hKc : va_K (dC, dI) vwCl [(cI, .int)] s := hK
    refine vp_callSi (va_Run.run (va_runV (As := [.int (zi 9)]) (rest := [.int (zi 0)]) ⟨hx, hb, hml, hown, hts⟩ hh2 (cwV 1 hts gX1_digits_X1_at rfl rfl rfl (by decide +kernel) ⟨Nat.le_of_ble_eq_true rfl, Nat.le_of_ble_eq_true rfl⟩) ⟨zPr.blind _ _ _ _, va_recv hKc hPc (ci := 1) (q0 := 0) rfl rfl, fun U hU hW => ⟨rfl, by rw [hU]; exact hPc, va_K.moved hW.alike hKc⟩⟩ rfl rfl hl.1 rfl (lv_room (Nat.le_of_ble_eq_true rfl)) dX1_digits_20 ⟨Nat.le_of_ble_eq_true rfl, Nat.le_of_ble_eq_true rfl⟩)) (fun r2 (hr2 : r2 = zi (cf (Int.toNat 9))) => ?_)
    subst hr2
    refine zw_iadd hx hb dX1_digits_23 ?_
    refine zw_bipush hx hb dX1_digits_24 (by decide) ?_
    refine zw_isub hx hb dX1_digits_26 ?_
    refine zw_top (fun x3 ex3 => ?_)
    refine lv_istore_n (lv' := [(3, .int (zi x3)), (4, .int (zi 9)), (0, .ref h0), (1, .int (zi 9)), (2, .int (zi 1))]) hx hb dX1_digits_27 rfl hl (by decide) rfl (fun ls hl => ?_)
    refine zw_iinc (z := 10) (lv' := [(4, .int (zi 10)), (3, .int (zi x3)), (0, .ref h0), (1, .int (zi 9)), (2, .int (zi 1))]) (k := 1) hx hb (by decide) dX1_digits_28 hl rfl (by decide) rfl (fun ls hl => ?_)
    refine lv_goto (tgt := 5) hx hb dX1_digits_31 (by decide) ?_
    refine lv_iload hx hb dX1_digits_5 (lv_at hl 0 rfl) ?_
    refine lv_iload_n hx hb dX1_digits_7 rfl (lv_at hl 3 rfl) ?_
    refine lv_iload_n hx hb dX1_digits_8 rfl (lv_at hl 4 rfl) ?_
    refine zw_iadd hx hb dX1_digits_9 ?_
    refine zw_icmp_ge (tgt := 34) hx hb dX1_digits_10 (by decide) ⟨by omega, by omega⟩ ⟨by omega, by omega⟩ (fun h4 => ?_) (fun h4 => ?_)
    · skip
      refine lv_iload_n hx hb dX1_digits_34 rfl (lv_at hl 1 rfl) ?_
      subst ex3
      exact W.iret (v := zi ((0 + (cf (Int.toNat 9))) - 48)) hx hb hr (fun t ht hW => ⟨zi ((0 + (cf (Int.toNat 9))) - 48), rfl, rfl, ht⟩) (fun q h => by cases h) dX1_digits_35
    · skip
      exact absurd True.intro (by omega)

set_option maxHeartbeats 4000000 in
set_option maxRecDepth 100000 in
theorem c_X1_digits_5_3 (l : Launch)  (dC : Nat → ClassId) (dI : Nat → Nat → Nat) (cI : ClassId) (h0 : Nat) (qc : Nat) (le : Int) (cf : Nat → Int) (hp0 : 8 ≤ le ∧ le ≤ 20) : Met l yX1_digits wsX1_digits ({ frames := 1, cells := 0, slots := 0, locals := 21 }) (zPr (dC, dI) [(cI, .int)] [.ref h0, .int (zi 5), .int (zi 3)] [(h0, .inr (1, [.ref qc, .int (zi le)])), (qc, aI cI 20 cf)]) (vp_Si (fun r => r = zi (((10 * (((10 * ((0 + (cf (Int.toNat 5))) - 48)) + (cf (Int.toNat 6))) - 48)) + (cf (Int.toNat 7))) - 48))) 0 0 zN := by
  refine Met.ofW (cc := cX1_digits) (maxL := 5) (ret := (some .int)) (by decide) rfl ?_
  intro p e s m args below meth c s₁ B hml hv
  obtain ⟨rfl, hP, hK⟩ := hv
  have hx := B.exec
  have hb := B.bytes
  have hr := B.returns
  have hts := atoms_spec (ws := wsX1_digits) B.pre
  have hown : s.vm.findClass RX1 = some m.cls := findClass_of_methodNamed B.named
  have hlocks := B.notSynchronized
  have hl := lv_entry ([.ref h0, .int (zi 5), .int (zi 3)]) (n := 5) (Nat.le_of_ble_eq_true rfl)
  rw [lg_entry_eq]
  generalize (lg_sl ([.ref h0, .int (zi 5), .int (zi 3)]) ++ List.replicate (5 - (lg_sl ([.ref h0, .int (zi 5), .int (zi 3)])).length) Slot.unset).toArray = ls at hl ⊢
  have hl : lv_has ls 5 [(0, .ref h0), (1, .int (zi 5)), (2, .int (zi 3))] := hl
  refine zw_iconst hx hb dX1_digits_0 ?_
  refine lv_istore_n (lv' := [(3, .int (zi 0)), (0, .ref h0), (1, .int (zi 5)), (2, .int (zi 3))]) hx hb dX1_digits_1 rfl hl (by decide) rfl (fun ls hl => ?_)
  refine lv_iload_n hx hb dX1_digits_2 rfl (lv_at hl 2 rfl) ?_
  refine lv_istore (lv' := [(4, .int (zi 5)), (3, .int (zi 0)), (0, .ref h0), (1, .int (zi 5)), (2, .int (zi 3))]) hx hb dX1_digits_3 hl (by decide) rfl (fun ls hl => ?_)
  refine lv_iload hx hb dX1_digits_5 (lv_at hl 0 rfl) ?_
  refine lv_iload_n hx hb dX1_digits_7 rfl (lv_at hl 3 rfl) ?_
  refine lv_iload_n hx hb dX1_digits_8 rfl (lv_at hl 4 rfl) ?_
  refine zw_iadd hx hb dX1_digits_9 ?_
  refine zw_icmp_ge (tgt := 34) hx hb dX1_digits_10 (by decide) ⟨by omega, by omega⟩ ⟨by omega, by omega⟩ (fun h1 => ?_) (fun h1 => ?_)
  · skip
    exact absurd True.intro (by omega)
  · skip
    refine zw_bipush hx hb dX1_digits_13 (by decide) ?_
    refine lv_iload_n hx hb dX1_digits_15 rfl (lv_at hl 1 rfl) ?_
    refine zw_imul hx hb dX1_digits_16 ?_
    refine lv_aload_n hx hb dX1_digits_17 rfl (lv_at hl 2 rfl) ?_
    refine lv_iload hx hb dX1_digits_18 (lv_at hl 0 rfl) ?_
    have hh2 := c_X1_at l dC dI cI h0 qc le cf 5 (by omega)
    have hPc := hP.sub (ws' := [(h0, .inr (1, [.ref qc, .int (zi le)])), (qc, aI cI 20 cf)]) [0, 1] rfl
    have hKc : va_K (dC, dI) vwCl [(cI, .int)] s := hK
    refine vp_callSi (va_Run.run (va_runV (As := [.int (zi 5)]) (rest := [.int (zi 0)]) ⟨hx, hb, hml, hown, hts⟩ hh2 (cwV 1 hts gX1_digits_X1_at rfl rfl rfl (by decide +kernel) ⟨Nat.le_of_ble_eq_true rfl, Nat.le_of_ble_eq_true rfl⟩) ⟨zPr.blind _ _ _ _, va_recv hKc hPc (ci := 1) (q0 := 0) rfl rfl, fun U hU hW => ⟨rfl, by rw [hU]; exact hPc, va_K.moved hW.alike hKc⟩⟩ rfl rfl hl.1 rfl (lv_room (Nat.le_of_ble_eq_true rfl)) dX1_digits_20 ⟨Nat.le_of_ble_eq_true rfl, Nat.le_of_ble_eq_true rfl⟩)) (fun r2 (hr2 : r2 = zi (cf (Int.toNat 5))) => ?_)
    subst hr2
    refine zw_iadd hx hb dX1_digits_23 ?_
    refine zw_bipush hx hb dX1_digits_24 (by decide) ?_
    refine zw_isub hx hb dX1_digits_26 ?_
    refine zw_top (fun x3 ex3 => ?_)
    refine lv_istore_n (lv' := [(3, .int (zi x3)), (4, .int (zi 5)), (0, .ref h0), (1, .int (zi 5)), (2, .int (zi 3))]) hx hb dX1_digits_27 rfl hl (by decide) rfl (fun ls hl => ?_)
    refine zw_iinc (z := 6) (lv' := [(4, .int (zi 6)), (3, .int (zi x3)), (0, .ref h0), (1, .int (zi 5)), (2, .int (zi 3))]) (k := 1) hx hb (by decide) dX1_digits_28 hl rfl (by decide) rfl (fun ls hl => ?_)
    refine lv_goto (tgt := 5) hx hb dX1_digits_31 (by decide) ?_
    refine lv_iload hx hb dX1_digits_5 (lv_at hl 0 rfl) ?_
    refine lv_iload_n hx hb dX1_digits_7 rfl (lv_at hl 3 rfl) ?_
    refine lv_iload_n hx hb dX1_digits_8 rfl (lv_at hl 4 rfl) ?_
    refine zw_iadd hx hb dX1_digits_9 ?_
    refine zw_icmp_ge (tgt := 34) hx hb dX1_digits_10 (by decide) ⟨by omega, by omega⟩ ⟨by omega, by omega⟩ (fun h4 => ?_) (fun h4 => ?_)
    · skip
      exact absurd True.intro (by omega)
    · skip
      refine zw_bipush hx hb dX1_digits_13 (by decide) ?_
      refine lv_iload_n hx hb dX1_digits_15 rfl (lv_at hl 1 rfl) ?_
      refine zw_imul hx hb dX1_digits_16 ?_
      refine lv_aload_n hx hb dX1_digits_17 rfl (lv_at hl 2 rfl) ?_
      refine lv_iload hx hb dX1_digits_18 (lv_at hl 0 rfl) ?_
      have hh5 := c_X1_at l dC dI cI h0 qc le cf 6 (by omega)
      have hPc := hP.sub (ws' := [(h0, .inr (1, [.ref qc, .int (zi le)])), (qc, aI cI 20 cf)]) [0, 1] rfl
      have hKc : va_K (dC, dI) vwCl [(cI, .int)] s := hK
      refine vp_callSi (va_Run.run (va_runV (As := [.int (zi 6)]) (rest := [.int (zi (10 * x3))]) ⟨hx, hb, hml, hown, hts⟩ hh5 (cwV 1 hts gX1_digits_X1_at rfl rfl rfl (by decide +kernel) ⟨Nat.le_of_ble_eq_true rfl, Nat.le_of_ble_eq_true rfl⟩) ⟨zPr.blind _ _ _ _, va_recv hKc hPc (ci := 1) (q0 := 0) rfl rfl, fun U hU hW => ⟨rfl, by rw [hU]; exact hPc, va_K.moved hW.alike hKc⟩⟩ rfl rfl hl.1 rfl (lv_room (Nat.le_of_ble_eq_true rfl)) dX1_digits_20 ⟨Nat.le_of_ble_eq_true rfl, Nat.le_of_ble_eq_true rfl⟩)) (fun r5 (hr5 : r5 = zi (cf (Int.toNat 6))) => ?_)
      subst hr5
      refine zw_iadd hx hb dX1_digits_23 ?_
      refine zw_bipush hx hb dX1_digits_24 (by decide) ?_
      refine zw_isub hx hb dX1_digits_26 ?_
      refine zw_top (fun x6 ex6 => ?_)
      refine lv_istore_n (lv' := [(3, .int (zi x6)), (4, .int (zi 6)), (0, .ref h0), (1, .int (zi 5)), (2, .int (zi 3))]) hx hb dX1_digits_27 rfl hl (by decide) rfl (fun ls hl => ?_)
      refine zw_iinc (z := 7) (lv' := [(4, .int (zi 7)), (3, .int (zi x6)), (0, .ref h0), (1, .int (zi 5)), (2, .int (zi 3))]) (k := 1) hx hb (by decide) dX1_digits_28 hl rfl (by decide) rfl (fun ls hl => ?_)
      refine lv_goto (tgt := 5) hx hb dX1_digits_31 (by decide) ?_
      refine lv_iload hx hb dX1_digits_5 (lv_at hl 0 rfl) ?_
      refine lv_iload_n hx hb dX1_digits_7 rfl (lv_at hl 3 rfl) ?_
      refine lv_iload_n hx hb dX1_digits_8 rfl (lv_at hl 4 rfl) ?_
      refine zw_iadd hx hb dX1_digits_9 ?_
      refine zw_icmp_ge (tgt := 34) hx hb dX1_digits_10 (by decide) ⟨by omega, by omega⟩ ⟨by omega, by omega⟩ (fun h7 => ?_) (fun h7 => ?_)
      · skip
        exact absurd True.intro (by omega)
      · skip
        refine zw_bipush hx hb dX1_digits_13 (by decide) ?_
        refine lv_iload_n hx hb dX1_digits_15 rfl (lv_at hl 1 rfl) ?_
        refine zw_imul hx hb dX1_digits_16 ?_
        refine lv_aload_n hx hb dX1_digits_17 rfl (lv_at hl 2 rfl) ?_
        refine lv_iload hx hb dX1_digits_18 (lv_at hl 0 rfl) ?_
        have hh8 := c_X1_at l dC dI cI h0 qc le cf 7 (by omega)
        have hPc := hP.sub (ws' := [(h0, .inr (1, [.ref qc, .int (zi le)])), (qc, aI cI 20 cf)]) [0, 1] rfl
        have hKc : va_K (dC, dI) vwCl [(cI, .int)] s := hK
        refine vp_callSi (va_Run.run (va_runV (As := [.int (zi 7)]) (rest := [.int (zi (10 * x6))]) ⟨hx, hb, hml, hown, hts⟩ hh8 (cwV 1 hts gX1_digits_X1_at rfl rfl rfl (by decide +kernel) ⟨Nat.le_of_ble_eq_true rfl, Nat.le_of_ble_eq_true rfl⟩) ⟨zPr.blind _ _ _ _, va_recv hKc hPc (ci := 1) (q0 := 0) rfl rfl, fun U hU hW => ⟨rfl, by rw [hU]; exact hPc, va_K.moved hW.alike hKc⟩⟩ rfl rfl hl.1 rfl (lv_room (Nat.le_of_ble_eq_true rfl)) dX1_digits_20 ⟨Nat.le_of_ble_eq_true rfl, Nat.le_of_ble_eq_true rfl⟩)) (fun r8 (hr8 : r8 = zi (cf (Int.toNat 7))) => ?_)
        subst hr8
        refine zw_iadd hx hb dX1_digits_23 ?_
        refine zw_bipush hx hb dX1_digits_24 (by decide) ?_
        refine zw_isub hx hb dX1_digits_26 ?_
        refine zw_top (fun x9 ex9 => ?_)
        refine lv_istore_n (lv' := [(3, .int (zi x9)), (4, .int (zi 7)), (0, .ref h0), (1, .int (zi 5)), (2, .int (zi 3))]) hx hb dX1_digits_27 rfl hl (by decide) rfl (fun ls hl => ?_)
        refine zw_iinc (z := 8) (lv' := [(4, .int (zi 8)), (3, .int (zi x9)), (0, .ref h0), (1, .int (zi 5)), (2, .int (zi 3))]) (k := 1) hx hb (by decide) dX1_digits_28 hl rfl (by decide) rfl (fun ls hl => ?_)
        refine lv_goto (tgt := 5) hx hb dX1_digits_31 (by decide) ?_
        refine lv_iload hx hb dX1_digits_5 (lv_at hl 0 rfl) ?_
        refine lv_iload_n hx hb dX1_digits_7 rfl (lv_at hl 3 rfl) ?_
        refine lv_iload_n hx hb dX1_digits_8 rfl (lv_at hl 4 rfl) ?_
        refine zw_iadd hx hb dX1_digits_9 ?_
        refine zw_icmp_ge (tgt := 34) hx hb dX1_digits_10 (by decide) ⟨by omega, by omega⟩ ⟨by omega, by omega⟩ (fun h10 => ?_) (fun h10 => ?_)
        · skip
          refine lv_iload_n hx hb dX1_digits_34 rfl (lv_at hl 1 rfl) ?_
          subst ex3 ex6 ex9
          exact W.iret (v := zi (((10 * (((10 * ((0 + (cf (Int.toNat 5))) - 48)) + (cf (Int.toNat 6))) - 48)) + (cf (Int.toNat 7))) - 48)) hx hb hr (fun t ht hW => ⟨zi (((10 * (((10 * ((0 + (cf (Int.toNat 5))) - 48)) + (cf (Int.toNat 6))) - 48)) + (cf (Int.toNat 7))) - 48), rfl, rfl, ht⟩) (fun q h => by cases h) dX1_digits_35
        · skip
          exact absurd True.intro (by omega)

set_option maxHeartbeats 4000000 in
set_option maxRecDepth 100000 in
theorem c_X1_fits (l : Launch) (ch : Int) (wa : Int) (hp0 : -2147483648 ≤ ch ∧ ch ≤ 2147483647) (hp1 : -2147483648 ≤ wa ∧ wa ≤ 2147483647) : Met l yX1_fits wsX1_fits ({ frames := 0, cells := 0, slots := 0, locals := 0 }) (va_Pc [.int (zi ch), .int (zi wa)] (fun _ => True)) (vp_Si (fun r => r = zi (f_X1_fits ch wa))) 0 0 (fun _ => False) := by
  refine Met.ofW (cc := cX1_fits) (maxL := 2) (ret := (some .boolean)) (by decide) rfl ?_
  intro p e s m args below meth c s₁ B hml hv
  obtain ⟨rfl, -⟩ := hv
  have hx := B.exec
  have hb := B.bytes
  have hr := B.returns
  have hts := atoms_spec (ws := wsX1_fits) B.pre
  have hown : s.vm.findClass RX1 = some m.cls := findClass_of_methodNamed B.named
  have hlocks := B.notSynchronized
  have hl := lv_entry ([.int (zi ch), .int (zi wa)]) (n := 2) (Nat.le_of_ble_eq_true rfl)
  rw [lg_entry_eq]
  generalize (lg_sl ([.int (zi ch), .int (zi wa)]) ++ List.replicate (2 - (lg_sl ([.int (zi ch), .int (zi wa)])).length) Slot.unset).toArray = ls at hl ⊢
  have hl : lv_has ls 2 [(0, .int (zi ch)), (1, .int (zi wa))] := hl
  refine lv_iload_n hx hb dX1_fits_0 rfl (lv_at hl 1 rfl) ?_
  refine zw_bipush hx hb dX1_fits_1 (by decide) ?_
  refine zw_icmp_ne (tgt := 26) hx hb dX1_fits_3 (by decide) ⟨by omega, by omega⟩ ⟨by omega, by omega⟩ (fun h1 => ?_) (fun h1 => ?_)
  · skip
    refine lv_iload_n hx hb dX1_fits_26 rfl (lv_at hl 0 rfl) ?_
    refine lv_iload_n hx hb dX1_fits_27 rfl (lv_at hl 1 rfl) ?_
    refine zw_icmp_ne (tgt := 35) hx hb dX1_fits_28 (by decide) ⟨by omega, by omega⟩ ⟨by omega, by omega⟩ (fun h2 => ?_) (fun h2 => ?_)
    · skip
      refine zw_iconst hx hb dX1_fits_35 ?_
      exact W.zret (v := zi 0) hx hb hr (zi_nb (by omega)) (fun t ht hW => ⟨zi 0, rfl, by rw [f_X1_fits, if_neg h1, if_neg h2], ht⟩) (fun q h => by cases h) dX1_fits_36
    · skip
      refine zw_iconst hx hb dX1_fits_31 ?_
      refine lv_goto (tgt := 36) hx hb dX1_fits_32 (by decide) ?_
      exact W.zret (v := zi 1) hx hb hr (zi_nb (by omega)) (fun t ht hW => ⟨zi 1, rfl, by rw [f_X1_fits, if_neg h1, if_pos h2], ht⟩) (fun q h => by cases h) dX1_fits_36
  · skip
    refine lv_iload_n hx hb dX1_fits_6 rfl (lv_at hl 0 rfl) ?_
    refine zw_bipush hx hb dX1_fits_7 (by decide) ?_
    refine zw_icmp_lt (tgt := 22) hx hb dX1_fits_9 (by decide) ⟨by omega, by omega⟩ ⟨by omega, by omega⟩ (fun h3 => ?_) (fun h3 => ?_)
    · skip
      refine zw_iconst hx hb dX1_fits_22 ?_
      refine lv_goto (tgt := 36) hx hb dX1_fits_23 (by decide) ?_
      exact W.zret (v := zi 0) hx hb hr (zi_nb (by omega)) (fun t ht hW => ⟨zi 0, rfl, by rw [f_X1_fits, if_pos h1, if_pos h3], ht⟩) (fun q h => by cases h) dX1_fits_36
    · skip
      refine lv_iload_n hx hb dX1_fits_12 rfl (lv_at hl 0 rfl) ?_
      refine zw_bipush hx hb dX1_fits_13 (by decide) ?_
      refine zw_icmp_gt (tgt := 22) hx hb dX1_fits_15 (by decide) ⟨by omega, by omega⟩ ⟨by omega, by omega⟩ (fun h4 => ?_) (fun h4 => ?_)
      · skip
        refine zw_iconst hx hb dX1_fits_22 ?_
        refine lv_goto (tgt := 36) hx hb dX1_fits_23 (by decide) ?_
        exact W.zret (v := zi 0) hx hb hr (zi_nb (by omega)) (fun t ht hW => ⟨zi 0, rfl, by rw [f_X1_fits, if_pos h1, if_neg (Int.not_lt.mpr h3), if_neg (Int.not_le.mpr h4)], ht⟩) (fun q h => by cases h) dX1_fits_36
      · skip
        refine zw_iconst hx hb dX1_fits_18 ?_
        refine lv_goto (tgt := 36) hx hb dX1_fits_19 (by decide) ?_
        exact W.zret (v := zi 1) hx hb hr (zi_nb (by omega)) (fun t ht hW => ⟨zi 1, rfl, by rw [f_X1_fits, if_pos h1, if_neg (Int.not_lt.mpr h3), if_pos h4], ht⟩) (fun q h => by cases h) dX1_fits_36

set_option maxHeartbeats 4000000 in
set_option maxRecDepth 100000 in
theorem c_X4_weekend (l : Launch)  (dC : Nat → ClassId) (dI : Nat → Nat → Nat) (cI : ClassId) (h0 : Nat) (qs : Nat) (qr : Nat) (qm : Nat) (qw : Nat) (qt : Nat) (we : Int) (se : Int) (sz : Nat) (hp0 : 0 ≤ se ∧ se ≤ 126) : Met l yX4_weekend wsX4_weekend ({ frames := 0, cells := 0, slots := 0, locals := 0 }) (zPw (dC, dI) [(cI, .int)] sz [.ref h0, .int (zi se)] [(h0, .inr (4, [.ref qs, .ref qr, .ref qm, .ref qw, .ref qt, .int (zi we)]))]) (va_Qi (fun (r : Int32) (_ : Unit) => r = zi we) (zB (dC, dI) [(cI, .int)] (va_A [(h0, .inr (4, [.ref qs, .ref qr, .ref qm, .ref qw, .ref qt, .int (zi we)]))] sz) [(h0, .inr (4, [.ref qs, .ref qr, .ref qm, .ref qw, .ref qt, .int (zi se)]))]) (va_A [(h0, .inr (4, [.ref qs, .ref qr, .ref qm, .ref qw, .ref qt, .int (zi we)]))] sz)) 0 0 (va_A [(h0, .inr (4, [.ref qs, .ref qr, .ref qm, .ref qw, .ref qt, .int (zi we)]))] sz) := by
  refine Met.ofW (cc := cX4_weekend) (maxL := 3) (ret := (some .int)) (by decide) rfl ?_
  intro p e s m args below meth c s₁ B hml hv
  obtain ⟨rfl, hsz, hP, hK, hD0⟩ := hv
  have hx := B.exec
  have hb := B.bytes
  have hr := B.returns
  have hts := atoms_spec (ws := wsX4_weekend) B.pre
  have hown : s.vm.findClass RX4 = some m.cls := findClass_of_methodNamed B.named
  have hlocks := B.notSynchronized
  subst hsz
  have hD := hD0.self (sz := s.heap.size)
  generalize hAe : va_A [(h0, .inr (4, [.ref qs, .ref qr, .ref qm, .ref qw, .ref qt, .int (zi we)]))] s.heap.size = A at hD ⊢
  have hA : ∀ q : Nat, s.heap.size ≤ q → A q := fun q h => by rw [← hAe]; exact Or.inr h
  have hS : va_S A s.heap s.heap [] := va_S.rf
  have hP : va_P (dC, dI) vwCl [(h0, .inr (4, [.ref qs, .ref qr, .ref qm, .ref qw, .ref qt, .int (zi we)]))] s.heap := hP
  have hl := lv_entry ([.ref h0, .int (zi se)]) (n := 3) (Nat.le_of_ble_eq_true rfl)
  rw [lg_entry_eq]
  generalize (lg_sl ([.ref h0, .int (zi se)]) ++ List.replicate (3 - (lg_sl ([.ref h0, .int (zi se)])).length) Slot.unset).toArray = ls at hl ⊢
  have hl : lv_has ls 3 [(0, .ref h0), (1, .int (zi se))] := hl
  refine lv_iload_n hx hb dX4_weekend_0 rfl (lv_at hl 1 rfl) ?_
  refine zw_if_lt (tgt := 10) hx hb dX4_weekend_1 (by decide) ⟨by omega, by omega⟩ (fun h1 => ?_) (fun h1 => ?_)
  · skip
    exact absurd True.intro (by omega)
  · skip
    refine lv_iload_n hx hb dX4_weekend_4 rfl (lv_at hl 1 rfl) ?_
    refine zw_bipush hx hb dX4_weekend_5 (by decide) ?_
    refine zw_icmp_le (tgt := 20) hx hb dX4_weekend_7 (by decide) ⟨by omega, by omega⟩ ⟨by omega, by omega⟩ (fun h2 => ?_) (fun h2 => ?_)
    · skip
      refine lv_aload_n hx hb dX4_weekend_20 rfl (lv_at hl 0 rfl) ?_
      refine va_get (D := (dC, dI)) (ci := 4) (v := .int (zi we)) (C := RX4) (T := TX4) (N := 6) hx hb hts (by decide +kernel) hown hK hP 0 rfl rfl 5 (by decide) (hts (.fieldLink RX4 154 "CivilDays" "weekendSet" "I") (by decide +kernel)) (fun _ h9 => h9) rfl dX4_weekend_21 ?_
      refine lv_istore_n (lv' := [(2, .int (zi we)), (0, .ref h0), (1, .int (zi se))]) hx hb dX4_weekend_24 rfl hl (by decide) rfl (fun ls hl => ?_)
      refine lv_aload_n hx hb dX4_weekend_25 rfl (lv_at hl 1 rfl) ?_
      refine lv_iload_n hx hb dX4_weekend_26 rfl (lv_at hl 2 rfl) ?_
      refine va_put (D := (dC, dI)) (ci := 4) (v := .int (zi se)) (ty := .int) (C := RX4) (T := TX4) (N := 6) hx hb hts (by decide +kernel) tyX4 tyX4_ok nmX4 hown hK hP hD hS 0 rfl rfl 5 (by decide) (hts (.fieldLink RX4 154 "CivilDays" "weekendSet" "I") (by decide +kernel)) (fun _ h9 => h9) rfl (by decide +kernel) rfl rfl (Nat.le_of_ble_eq_true rfl) dX4_weekend_27 (fun H locs hP hD hS => ?_)
      have hP : va_P (dC, dI) vwCl [(h0, .inr (4, [.ref qs, .ref qr, .ref qm, .ref qw, .ref qt, .int (zi se)]))] H := hP
      have hD : va_D A [(h0, .inr (4, [.ref qs, .ref qr, .ref qm, .ref qw, .ref qt, .int (zi se)]))] := hD
      refine lv_iload_n hx hb dX4_weekend_30 rfl (lv_at hl 0 rfl) ?_
      have hP9 := hP.sub (ws' := [(h0, .inr (4, [.ref qs, .ref qr, .ref qm, .ref qw, .ref qt, .int (zi se)]))]) [0] rfl
      have hD9 := hD.sub (ws' := [(h0, .inr (4, [.ref qs, .ref qr, .ref qm, .ref qw, .ref qt, .int (zi se)]))]) [0] (by decide) rfl
      exact W.iret (v := zi we) hx hb hr (fun t ht hW => ⟨⟨zi we, (), rfl, rfl, by rw [ht]; exact hP9, va_K.moved hW.alike hK, hD9⟩, hS.F ht⟩) hS.2.2 dX4_weekend_31
    · skip
      exact absurd True.intro (by omega)

set_option maxHeartbeats 4000000 in
set_option maxRecDepth 100000 in
theorem t_X4_weekend (l : Launch) (hst : l.stackTraces = false) (h0 : Nat) (se : Int) (hp0 : -2147483648 ≤ se ∧ se ≤ 2147483647) (hp1 : se < 0 ∨ 126 < se) : vx_Met l yX4_weekend wsX4_weekend ({ frames := 6, cells := 1, slots := 6, locals := 90 }) (zP [.ref h0, .int (zi se)]) zNo (zX "java/lang/IllegalArgumentException") 1 6 zN := by
  refine vx_ofW (cc := cX4_weekend) (maxL := 3) (ret := (some .int)) (by decide) rfl ?_
  intro p e s m args below meth c s₁ B hml hno hv
  obtain ⟨rfl, hE⟩ := hv
  have hx := B.exec
  have hb := B.bytes
  have hr := B.returns
  have hts := atoms_spec (ws := wsX4_weekend) B.pre
  have hown : s.vm.findClass RX4 = some m.cls := findClass_of_methodNamed B.named
  have hlocks := B.notSynchronized
  have hl := lv_entry ([.ref h0, .int (zi se)]) (n := 3) (Nat.le_of_ble_eq_true rfl)
  rw [lg_entry_eq]
  generalize (lg_sl ([.ref h0, .int (zi se)]) ++ List.replicate (3 - (lg_sl ([.ref h0, .int (zi se)])).length) Slot.unset).toArray = ls at hl ⊢
  have hl : lv_has ls 3 [(0, .ref h0), (1, .int (zi se))] := hl
  refine lv_iload_n hx hb dX4_weekend_0 rfl (lv_at hl 1 rfl) ?_
  refine zw_if_lt (tgt := 10) hx hb dX4_weekend_1 (by decide) ⟨by omega, by omega⟩ (fun h1 => ?_) (fun h1 => ?_)
  · skip
    exact zt_throw (cls := "java/lang/IllegalArgumentException") (text := "this is no weekend") (ik := 88) (is := 152) (ic := 92) hx hb hst hown hE (by decide +kernel) (hts (.classLink RX4 88 "java/lang/IllegalArgumentException") (by decide +kernel)) (hts (.initialized "java/lang/IllegalArgumentException") (by decide +kernel)) (by decide) (fun w h => hts w (List.mem_cons_of_mem _ (List.mem_append_right _ h))) (by decide +kernel) (by decide +kernel) (hl.1.trans hml.symm) dX4_weekend_10 dX4_weekend_13 dX4_weekend_14 dX4_weekend_16 dX4_weekend_19 hno (Nat.le_of_ble_eq_true rfl) (Nat.le_of_ble_eq_true rfl) (Nat.le_of_ble_eq_true rfl) (Nat.le_of_ble_eq_true rfl) hlocks
  · skip
    refine lv_iload_n hx hb dX4_weekend_4 rfl (lv_at hl 1 rfl) ?_
    refine zw_bipush hx hb dX4_weekend_5 (by decide) ?_
    refine zw_icmp_le (tgt := 20) hx hb dX4_weekend_7 (by decide) ⟨by omega, by omega⟩ ⟨by omega, by omega⟩ (fun h2 => ?_) (fun h2 => ?_)
    · skip
      exact absurd True.intro (by omega)
    · skip
      exact zt_throw (cls := "java/lang/IllegalArgumentException") (text := "this is no weekend") (ik := 88) (is := 152) (ic := 92) hx hb hst hown hE (by decide +kernel) (hts (.classLink RX4 88 "java/lang/IllegalArgumentException") (by decide +kernel)) (hts (.initialized "java/lang/IllegalArgumentException") (by decide +kernel)) (by decide) (fun w h => hts w (List.mem_cons_of_mem _ (List.mem_append_right _ h))) (by decide +kernel) (by decide +kernel) (hl.1.trans hml.symm) dX4_weekend_10 dX4_weekend_13 dX4_weekend_14 dX4_weekend_16 dX4_weekend_19 hno (Nat.le_of_ble_eq_true rfl) (Nat.le_of_ble_eq_true rfl) (Nat.le_of_ble_eq_true rfl) (Nat.le_of_ble_eq_true rfl) hlocks

set_option maxHeartbeats 4000000 in
set_option maxRecDepth 100000 in
theorem c_X4_charAt (l : Launch)  (dC : Nat → ClassId) (dI : Nat → Nat → Nat) (cI : ClassId) (h0 : Nat) (qs : Nat) (qr : Nat) (qm : Nat) (qw : Nat) (qt : Nat) (we : Int) (wc : Nat) (wl : Int) (wf : Nat → Int) (ix : Int) (hp0 : 0 ≤ ix ∧ ix < wl ∧ wl ≤ 20) : Met l yX4_charAt wsX4_charAt ({ frames := 1, cells := 0, slots := 0, locals := 21 }) (zPr (dC, dI) [(cI, .int)] [.ref h0, .int (zi ix)] [(h0, .inr (4, [.ref qs, .ref qr, .ref qm, .ref qw, .ref qt, .int (zi we)])), (qw, .inr (1, [.ref wc, .int (zi wl)])), (wc, aI cI 20 wf)]) (vp_Si (fun r => r = zi (wf ix.toNat))) 0 0 zN := by
  refine Met.ofW (cc := cX4_charAt) (maxL := 2) (ret := (some .int)) (by decide) rfl ?_
  intro p e s m args below meth c s₁ B hml hv
  obtain ⟨rfl, hP, hK⟩ := hv
  have hx := B.exec
  have hb := B.bytes
  have hr := B.returns
  have hts := atoms_spec (ws := wsX4_charAt) B.pre
  have hown : s.vm.findClass RX4 = some m.cls := findClass_of_methodNamed B.named
  have hlocks := B.notSynchronized
  have hl := lv_entry ([.ref h0, .int (zi ix)]) (n := 2) (Nat.le_of_ble_eq_true rfl)
  rw [lg_entry_eq]
  generalize (lg_sl ([.ref h0, .int (zi ix)]) ++ List.replicate (2 - (lg_sl ([.ref h0, .int (zi ix)])).length) Slot.unset).toArray = ls at hl ⊢
  have hl : lv_has ls 2 [(0, .ref h0), (1, .int (zi ix))] := hl
  refine lv_iload_n hx hb dX4_charAt_0 rfl (lv_at hl 1 rfl) ?_
  refine zw_if_lt (tgt := 15) hx hb dX4_charAt_1 (by decide) ⟨by omega, by omega⟩ (fun h1 => ?_) (fun h1 => ?_)
  · skip
    exact absurd True.intro (by omega)
  · skip
    refine lv_iload_n hx hb dX4_charAt_4 rfl (lv_at hl 1 rfl) ?_
    refine lv_aload_n hx hb dX4_charAt_5 rfl (lv_at hl 0 rfl) ?_
    refine va_get (D := (dC, dI)) (ci := 4) (v := .ref qw) (C := RX4) (T := TX4) (N := 6) hx hb hts (by decide +kernel) hown hK hP 0 rfl rfl 3 (by decide) (hts (.fieldLink RX4 30 "CivilDays" "written" "LCivilDays$Line;") (by decide +kernel)) (fun _ h9 => h9) rfl dX4_charAt_6 ?_
    have hh2 := c_X1_size l dC dI cI qw wc wl wf 
    have hPc := hP.sub (ws' := [(qw, .inr (1, [.ref wc, .int (zi wl)])), (wc, aI cI 20 wf)]) [1, 2] rfl
    have hKc : va_K (dC, dI) vwCl [(cI, .int)] s := hK
    refine vp_callSi (va_Run.run (va_runV (As := []) (rest := [.int (zi ix)]) ⟨hx, hb, hml, hown, hts⟩ hh2 (cwV 0 hts gX4_charAt_X1_size rfl rfl rfl (by decide +kernel) ⟨Nat.le_of_ble_eq_true rfl, Nat.le_of_ble_eq_true rfl⟩) ⟨zPr.blind _ _ _ _, va_recv hKc hPc (ci := 1) (q0 := 0) rfl rfl, fun U hU hW => ⟨rfl, by rw [hU]; exact hPc, va_K.moved hW.alike hKc⟩⟩ rfl rfl hl.1 rfl (lv_room (Nat.le_of_ble_eq_true rfl)) dX4_charAt_9 ⟨Nat.le_of_ble_eq_true rfl, Nat.le_of_ble_eq_true rfl⟩)) (fun r2 (hr2 : r2 = zi wl) => ?_)
    subst hr2
    refine zw_icmp_lt (tgt := 25) hx hb dX4_charAt_12 (by decide) ⟨by omega, by omega⟩ ⟨by omega, by omega⟩ (fun h3 => ?_) (fun h3 => ?_)
    · skip
      refine lv_aload_n hx hb dX4_charAt_25 rfl (lv_at hl 0 rfl) ?_
      refine va_get (D := (dC, dI)) (ci := 4) (v := .ref qw) (C := RX4) (T := TX4) (N := 6) hx hb hts (by decide +kernel) hown hK hP 0 rfl rfl 3 (by decide) (hts (.fieldLink RX4 30 "CivilDays" "written" "LCivilDays$Line;") (by decide +kernel)) (fun _ h9 => h9) rfl dX4_charAt_26 ?_
      refine lv_iload_n hx hb dX4_charAt_29 rfl (lv_at hl 1 rfl) ?_
      have hh4 := c_X1_at l dC dI cI qw wc wl wf ix (by omega)
      have hPc := hP.sub (ws' := [(qw, .inr (1, [.ref wc, .int (zi wl)])), (wc, aI cI 20 wf)]) [1, 2] rfl
      have hKc : va_K (dC, dI) vwCl [(cI, .int)] s := hK
      refine vp_callSi (va_Run.run (va_runV (As := [.int (zi ix)]) (rest := []) ⟨hx, hb, hml, hown, hts⟩ hh4 (cwV 1 hts gX4_charAt_X1_at rfl rfl rfl (by decide +kernel) ⟨Nat.le_of_ble_eq_true rfl, Nat.le_of_ble_eq_true rfl⟩) ⟨zPr.blind _ _ _ _, va_recv hKc hPc (ci := 1) (q0 := 0) rfl rfl, fun U hU hW => ⟨rfl, by rw [hU]; exact hPc, va_K.moved hW.alike hKc⟩⟩ rfl rfl hl.1 rfl (lv_room (Nat.le_of_ble_eq_true rfl)) dX4_charAt_30 ⟨Nat.le_of_ble_eq_true rfl, Nat.le_of_ble_eq_true rfl⟩)) (fun r4 (hr4 : r4 = zi (wf ix.toNat)) => ?_)
      subst hr4
      exact W.iret (v := zi (wf ix.toNat)) hx hb hr (fun t ht hW => ⟨zi (wf ix.toNat), rfl, rfl, ht⟩) (fun q h => by cases h) dX4_charAt_33
    · skip
      exact absurd True.intro (by omega)

set_option maxHeartbeats 4000000 in
set_option maxRecDepth 100000 in
theorem t_X4_charAt (l : Launch) (hst : l.stackTraces = false) (dC : Nat → ClassId) (dI : Nat → Nat → Nat) (cI : ClassId) (h0 : Nat) (qs : Nat) (qr : Nat) (qm : Nat) (qw : Nat) (qt : Nat) (we : Int) (wc : Nat) (wl : Int) (wf : Nat → Int) (ix : Int) (hp0 : -2147483648 ≤ ix ∧ ix ≤ 2147483647) (hp1 : 0 ≤ wl ∧ wl ≤ 20) (hp2 : ix < 0 ∨ wl ≤ ix) : vx_Met l yX4_charAt wsX4_charAt ({ frames := 6, cells := 1, slots := 6, locals := 90 }) (zPt (dC, dI) [(cI, .int)] [.ref h0, .int (zi ix)] [(h0, .inr (4, [.ref qs, .ref qr, .ref qm, .ref qw, .ref qt, .int (zi we)])), (qw, .inr (1, [.ref wc, .int (zi wl)])), (wc, aI cI 20 wf)]) zNo (zX "java/lang/IndexOutOfBoundsException") 1 6 zN := by
  refine vx_ofW (cc := cX4_charAt) (maxL := 2) (ret := (some .int)) (by decide) rfl ?_
  intro p e s m args below meth c s₁ B hml hno hv
  obtain ⟨rfl, hE, hP, hK⟩ := hv
  have hx := B.exec
  have hb := B.bytes
  have hr := B.returns
  have hts := atoms_spec (ws := wsX4_charAt) B.pre
  have hown : s.vm.findClass RX4 = some m.cls := findClass_of_methodNamed B.named
  have hlocks := B.notSynchronized
  have hl := lv_entry ([.ref h0, .int (zi ix)]) (n := 2) (Nat.le_of_ble_eq_true rfl)
  rw [lg_entry_eq]
  generalize (lg_sl ([.ref h0, .int (zi ix)]) ++ List.replicate (2 - (lg_sl ([.ref h0, .int (zi ix)])).length) Slot.unset).toArray = ls at hl ⊢
  have hl : lv_has ls 2 [(0, .ref h0), (1, .int (zi ix))] := hl
  refine lv_iload_n hx hb dX4_charAt_0 rfl (lv_at hl 1 rfl) ?_
  refine zw_if_lt (tgt := 15) hx hb dX4_charAt_1 (by decide) ⟨by omega, by omega⟩ (fun h1 => ?_) (fun h1 => ?_)
  · skip
    exact zt_throw (cls := "java/lang/IndexOutOfBoundsException") (text := "there is no such character") (ik := 145) (is := 200) (ic := 147) hx hb hst hown hE (by decide +kernel) (hts (.classLink RX4 145 "java/lang/IndexOutOfBoundsException") (by decide +kernel)) (hts (.initialized "java/lang/IndexOutOfBoundsException") (by decide +kernel)) (by decide) (fun w h => hts w (List.mem_cons_of_mem _ (List.mem_append_right _ h))) (by decide +kernel) (by decide +kernel) (hl.1.trans hml.symm) dX4_charAt_15 dX4_charAt_18 dX4_charAt_19 dX4_charAt_21 dX4_charAt_24 hno (Nat.le_of_ble_eq_true rfl) (Nat.le_of_ble_eq_true rfl) (Nat.le_of_ble_eq_true rfl) (Nat.le_of_ble_eq_true rfl) hlocks
  · skip
    refine lv_iload_n hx hb dX4_charAt_4 rfl (lv_at hl 1 rfl) ?_
    refine lv_aload_n hx hb dX4_charAt_5 rfl (lv_at hl 0 rfl) ?_
    refine va_get (D := (dC, dI)) (ci := 4) (v := .ref qw) (C := RX4) (T := TX4) (N := 6) hx hb hts (by decide +kernel) hown hK hP 0 rfl rfl 3 (by decide) (hts (.fieldLink RX4 30 "CivilDays" "written" "LCivilDays$Line;") (by decide +kernel)) (fun _ h9 => h9) rfl dX4_charAt_6 ?_
    have hh2 := c_X1_size l dC dI cI qw wc wl wf 
    have hPc := hP.sub (ws' := [(qw, .inr (1, [.ref wc, .int (zi wl)])), (wc, aI cI 20 wf)]) [1, 2] rfl
    have hKc : va_K (dC, dI) vwCl [(cI, .int)] s := hK
    refine vp_callSi (va_Run.run (va_runV (As := []) (rest := [.int (zi ix)]) ⟨hx, hb, hml, hown, hts⟩ hh2 (cwV 0 hts gX4_charAt_X1_size rfl rfl rfl (by decide +kernel) ⟨Nat.le_of_ble_eq_true rfl, Nat.le_of_ble_eq_true rfl⟩) ⟨zPr.blind _ _ _ _, va_recv hKc hPc (ci := 1) (q0 := 0) rfl rfl, fun U hU hW => ⟨rfl, by rw [hU]; exact hPc, va_K.moved hW.alike hKc⟩⟩ rfl rfl hl.1 rfl (lv_room (Nat.le_of_ble_eq_true rfl)) dX4_charAt_9 ⟨Nat.le_of_ble_eq_true rfl, Nat.le_of_ble_eq_true rfl⟩)) (fun r2 (hr2 : r2 = zi wl) => ?_)
    subst hr2
    refine zw_icmp_lt (tgt := 25) hx hb dX4_charAt_12 (by decide) ⟨by omega, by omega⟩ ⟨by omega, by omega⟩ (fun h3 => ?_) (fun h3 => ?_)
    · skip
      exact absurd True.intro (by omega)
    · skip
      exact zt_throw (cls := "java/lang/IndexOutOfBoundsException") (text := "there is no such character") (ik := 145) (is := 200) (ic := 147) hx hb hst hown hE (by decide +kernel) (hts (.classLink RX4 145 "java/lang/IndexOutOfBoundsException") (by decide +kernel)) (hts (.initialized "java/lang/IndexOutOfBoundsException") (by decide +kernel)) (by decide) (fun w h => hts w (List.mem_cons_of_mem _ (List.mem_append_right _ h))) (by decide +kernel) (by decide +kernel) (hl.1.trans hml.symm) dX4_charAt_15 dX4_charAt_18 dX4_charAt_19 dX4_charAt_21 dX4_charAt_24 hno (Nat.le_of_ble_eq_true rfl) (Nat.le_of_ble_eq_true rfl) (Nat.le_of_ble_eq_true rfl) (Nat.le_of_ble_eq_true rfl) hlocks

set_option maxHeartbeats 4000000 in
set_option maxRecDepth 100000 in
theorem c_X4_type (l : Launch)  (dC : Nat → ClassId) (dI : Nat → Nat → Nat) (cI : ClassId) (h0 : Nat) (qs : Nat) (qr : Nat) (qm : Nat) (qw : Nat) (qt : Nat) (we : Int) (tc : Nat) (tl : Int) (tf : Nat → Int) (ch : Int) (sz : Nat) (hp0 : 32 ≤ ch ∧ ch ≤ 126) (hp1 : 0 ≤ tl ∧ tl < 20) : Met l yX4_type wsX4_type ({ frames := 1, cells := 0, slots := 0, locals := 21 }) (zPw (dC, dI) [(cI, .int)] sz [.ref h0, .int (zi ch)] [(h0, .inr (4, [.ref qs, .ref qr, .ref qm, .ref qw, .ref qt, .int (zi we)])), (qt, .inr (1, [.ref tc, .int (zi tl)])), (tc, aI cI 20 tf)]) (va_Qi (fun (r : Int32) (_ : Unit) => r = zi (tl + 1)) (zB (dC, dI) [(cI, .int)] (va_A [(h0, .inr (4, [.ref qs, .ref qr, .ref qm, .ref qw, .ref qt, .int (zi we)])), (qt, .inr (1, [.ref tc, .int (zi tl)])), (tc, aI cI 20 tf)] sz) [(h0, .inr (4, [.ref qs, .ref qr, .ref qm, .ref qw, .ref qt, .int (zi we)])), (qt, .inr (1, [.ref tc, .int (zi (tl + 1))])), (tc, aI cI 20 (zup tf tl.toNat ch))]) (va_A [(h0, .inr (4, [.ref qs, .ref qr, .ref qm, .ref qw, .ref qt, .int (zi we)])), (qt, .inr (1, [.ref tc, .int (zi tl)])), (tc, aI cI 20 tf)] sz)) 0 0 (va_A [(h0, .inr (4, [.ref qs, .ref qr, .ref qm, .ref qw, .ref qt, .int (zi we)])), (qt, .inr (1, [.ref tc, .int (zi tl)])), (tc, aI cI 20 tf)] sz) := by
  refine Met.ofW (cc := cX4_type) (maxL := 2) (ret := (some .int)) (by decide) rfl ?_
  intro p e s m args below meth c s₁ B hml hv
  obtain ⟨rfl, hsz, hP, hK, hD0⟩ := hv
  have hx := B.exec
  have hb := B.bytes
  have hr := B.returns
  have hts := atoms_spec (ws := wsX4_type) B.pre
  have hown : s.vm.findClass RX4 = some m.cls := findClass_of_methodNamed B.named
  have hlocks := B.notSynchronized
  subst hsz
  have hD := hD0.self (sz := s.heap.size)
  generalize hAe : va_A [(h0, .inr (4, [.ref qs, .ref qr, .ref qm, .ref qw, .ref qt, .int (zi we)])), (qt, .inr (1, [.ref tc, .int (zi tl)])), (tc, aI cI 20 tf)] s.heap.size = A at hD ⊢
  have hA : ∀ q : Nat, s.heap.size ≤ q → A q := fun q h => by rw [← hAe]; exact Or.inr h
  have hS : va_S A s.heap s.heap [] := va_S.rf
  have hP : va_P (dC, dI) vwCl [(h0, .inr (4, [.ref qs, .ref qr, .ref qm, .ref qw, .ref qt, .int (zi we)])), (qt, .inr (1, [.ref tc, .int (zi tl)])), (tc, aI cI 20 tf)] s.heap := hP
  have hl := lv_entry ([.ref h0, .int (zi ch)]) (n := 2) (Nat.le_of_ble_eq_true rfl)
  rw [lg_entry_eq]
  generalize (lg_sl ([.ref h0, .int (zi ch)]) ++ List.replicate (2 - (lg_sl ([.ref h0, .int (zi ch)])).length) Slot.unset).toArray = ls at hl ⊢
  have hl : lv_has ls 2 [(0, .ref h0), (1, .int (zi ch))] := hl
  refine lv_iload_n hx hb dX4_type_0 rfl (lv_at hl 1 rfl) ?_
  refine zw_bipush hx hb dX4_type_1 (by decide) ?_
  refine zw_icmp_lt (tgt := 12) hx hb dX4_type_3 (by decide) ⟨by omega, by omega⟩ ⟨by omega, by omega⟩ (fun h1 => ?_) (fun h1 => ?_)
  · skip
    exact absurd True.intro (by omega)
  · skip
    refine lv_iload_n hx hb dX4_type_6 rfl (lv_at hl 1 rfl) ?_
    refine zw_bipush hx hb dX4_type_7 (by decide) ?_
    refine zw_icmp_le (tgt := 22) hx hb dX4_type_9 (by decide) ⟨by omega, by omega⟩ ⟨by omega, by omega⟩ (fun h2 => ?_) (fun h2 => ?_)
    · skip
      refine lv_aload_n hx hb dX4_type_22 rfl (lv_at hl 0 rfl) ?_
      refine va_get (D := (dC, dI)) (ci := 4) (v := .ref qt) (C := RX4) (T := TX4) (N := 6) hx hb hts (by decide +kernel) hown hK hP 0 rfl rfl 4 (by decide) (hts (.fieldLink RX4 34 "CivilDays" "typed" "LCivilDays$Line;") (by decide +kernel)) (fun _ h9 => h9) rfl dX4_type_23 ?_
      have hh3 := c_X1_isFull_0 l dC dI cI qt tc tl tf (by omega)
      have hPc := hP.sub (ws' := [(qt, .inr (1, [.ref tc, .int (zi tl)])), (tc, aI cI 20 tf)]) [1, 2] rfl
      have hKc : va_K (dC, dI) vwCl [(cI, .int)] s := hK
      refine vp_callSi (va_Run.run (va_runV (As := []) (rest := []) ⟨hx, hb, hml, hown, hts⟩ hh3 (cwV 0 hts gX4_type_X1_isFull rfl rfl rfl (by decide +kernel) ⟨Nat.le_of_ble_eq_true rfl, Nat.le_of_ble_eq_true rfl⟩) ⟨zPr.blind _ _ _ _, va_recv hKc hPc (ci := 1) (q0 := 0) rfl rfl, fun U hU hW => ⟨rfl, by rw [hU]; exact hPc, va_K.moved hW.alike hKc⟩⟩ rfl rfl hl.1 rfl (lv_room (Nat.le_of_ble_eq_true rfl)) dX4_type_26 ⟨Nat.le_of_ble_eq_true rfl, Nat.le_of_ble_eq_true rfl⟩)) (fun r3 (hr3 : r3 = zi 0) => ?_)
      subst hr3
      refine zw_if_eq (tgt := 42) hx hb dX4_type_29 (by decide) ⟨by omega, by omega⟩ (fun h4 => ?_) (fun h4 => ?_)
      · skip
        refine lv_aload_n hx hb dX4_type_42 rfl (lv_at hl 0 rfl) ?_
        refine va_get (D := (dC, dI)) (ci := 4) (v := .ref qt) (C := RX4) (T := TX4) (N := 6) hx hb hts (by decide +kernel) hown hK hP 0 rfl rfl 4 (by decide) (hts (.fieldLink RX4 34 "CivilDays" "typed" "LCivilDays$Line;") (by decide +kernel)) (fun _ h9 => h9) rfl dX4_type_43 ?_
        refine lv_iload_n hx hb dX4_type_46 rfl (lv_at hl 1 rfl) ?_
        have hh5 := c_X1_add l dC dI cI qt tc tl tf ch s.heap.size (by omega)
        have hPc := hP.sub (ws' := [(qt, .inr (1, [.ref tc, .int (zi tl)])), (tc, aI cI 20 tf)]) [1, 2] rfl
        have hKc : va_K (dC, dI) vwCl [(cI, .int)] s := hK
        have hDc := hD.sub (ws' := [(qt, .inr (1, [.ref tc, .int (zi tl)])), (tc, aI cI 20 tf)]) [1, 2] (by decide) rfl
        have hFc := va_free (wc := [(qt, .inr (1, [.ref tc, .int (zi tl)])), (tc, aI cI 20 tf)]) hD hS hA [1, 2] rfl
        refine va_callv (va_runV (As := [.int (zi ch)]) (rest := []) ⟨hx, hb, hml, hown, hts⟩ hh5 (cwV 1 hts gX4_type_X1_add rfl rfl rfl (by decide +kernel) ⟨Nat.le_of_ble_eq_true rfl, Nat.le_of_ble_eq_true rfl⟩) ⟨zPw.blind _ _ _ _ _, va_recv hKc hPc (ci := 1) (q0 := 0) rfl rfl, fun U hU hW => ⟨rfl, by rw [hU], by rw [hU]; exact hPc, va_K.moved hW.alike hKc, hDc.weaken (fun _ _ _ _ => trivial)⟩⟩ rfl rfl hl.1 rfl (lv_room (Nat.le_of_ble_eq_true rfl)) dX4_type_47 ⟨Nat.le_of_ble_eq_true rfl, Nat.le_of_ble_eq_true rfl⟩) hS (fun q _ h => hFc q h) hFc (fun u t H1 locs ht hvm hw hB hz1 hk1 hS => ?_)
        obtain ⟨hP1, hK1, hD1⟩ := hB
        rw [ht] at hP1
        obtain ⟨hP, hD⟩ := va_join (wr := [(h0, .inr (4, [.ref qs, .ref qr, .ref qm, .ref qw, .ref qt, .int (zi we)]))]) (w1 := [(qt, .inr (1, [.ref tc, .int (zi (tl + 1))])), (tc, aI cI 20 (zup tf tl.toNat ch))]) hP hD [1, 2] [0] rfl rfl (by decide) (by decide) hk1 hFc hP1 hD1
        generalize H1 = H at hP hS ⊢
        have hP : va_P (dC, dI) vwCl [(h0, .inr (4, [.ref qs, .ref qr, .ref qm, .ref qw, .ref qt, .int (zi we)])), (qt, .inr (1, [.ref tc, .int (zi (tl + 1))])), (tc, aI cI 20 (zup tf tl.toNat ch))] H := hP
        have hD : va_D A [(h0, .inr (4, [.ref qs, .ref qr, .ref qm, .ref qw, .ref qt, .int (zi we)])), (qt, .inr (1, [.ref tc, .int (zi (tl + 1))])), (tc, aI cI 20 (zup tf tl.toNat ch))] := hD
        refine lv_aload_n hx hb dX4_type_50 rfl (lv_at hl 0 rfl) ?_
        refine va_get (D := (dC, dI)) (ci := 4) (v := .ref qt) (C := RX4) (T := TX4) (N := 6) hx hb hts (by decide +kernel) hown hK hP 0 rfl rfl 4 (by decide) (hts (.fieldLink RX4 34 "CivilDays" "typed" "LCivilDays$Line;") (by decide +kernel)) (fun _ h9 => h9) rfl dX4_type_51 ?_
        have hh6 := c_X1_size l dC dI cI qt tc (tl + 1) (zup tf tl.toNat ch) 
        have hPc := hP.sub (ws' := [(qt, .inr (1, [.ref tc, .int (zi (tl + 1))])), (tc, aI cI 20 (zup tf tl.toNat ch))]) [1, 2] rfl
        have hKc : va_K (dC, dI) vwCl [(cI, .int)] s := hK
        refine vp_callSi (va_Run.run (va_runV (As := []) (rest := []) ⟨hx, hb, hml, hown, hts⟩ hh6 (cwV 0 hts gX4_type_X1_size rfl rfl rfl (by decide +kernel) ⟨Nat.le_of_ble_eq_true rfl, Nat.le_of_ble_eq_true rfl⟩) ⟨zPr.blind _ _ _ _, va_recv hKc hPc (ci := 1) (q0 := 0) rfl rfl, fun U hU hW => ⟨rfl, by rw [hU]; exact hPc, va_K.moved hW.alike hKc⟩⟩ rfl rfl hl.1 rfl (lv_room (Nat.le_of_ble_eq_true rfl)) dX4_type_54 ⟨Nat.le_of_ble_eq_true rfl, Nat.le_of_ble_eq_true rfl⟩)) (fun r6 (hr6 : r6 = zi (tl + 1)) => ?_)
        subst hr6
        have hP9 := hP.sub (ws' := [(h0, .inr (4, [.ref qs, .ref qr, .ref qm, .ref qw, .ref qt, .int (zi we)])), (qt, .inr (1, [.ref tc, .int (zi (tl + 1))])), (tc, aI cI 20 (zup tf tl.toNat ch))]) [0, 1, 2] rfl
        have hD9 := hD.sub (ws' := [(h0, .inr (4, [.ref qs, .ref qr, .ref qm, .ref qw, .ref qt, .int (zi we)])), (qt, .inr (1, [.ref tc, .int (zi (tl + 1))])), (tc, aI cI 20 (zup tf tl.toNat ch))]) [0, 1, 2] (by decide) rfl
        exact W.iret (v := zi (tl + 1)) hx hb hr (fun t ht hW => ⟨⟨zi (tl + 1), (), rfl, rfl, by rw [ht]; exact hP9, va_K.moved hW.alike hK, hD9⟩, hS.F ht⟩) hS.2.2 dX4_type_57
      · skip
        exact absurd True.intro (by omega)
    · skip
      exact absurd True.intro (by omega)

set_option maxHeartbeats 4000000 in
set_option maxRecDepth 100000 in
theorem t_X4_type_1 (l : Launch) (hst : l.stackTraces = false) (h0 : Nat) (ch : Int) (hp0 : -2147483648 ≤ ch ∧ ch ≤ 2147483647) (hp1 : ch < 32 ∨ 126 < ch) : vx_Met l yX4_type wsX4_type ({ frames := 6, cells := 1, slots := 6, locals := 90 }) (zP [.ref h0, .int (zi ch)]) zNo (zX "java/lang/IllegalArgumentException") 1 6 zN := by
  refine vx_ofW (cc := cX4_type) (maxL := 2) (ret := (some .int)) (by decide) rfl ?_
  intro p e s m args below meth c s₁ B hml hno hv
  obtain ⟨rfl, hE⟩ := hv
  have hx := B.exec
  have hb := B.bytes
  have hr := B.returns
  have hts := atoms_spec (ws := wsX4_type) B.pre
  have hown : s.vm.findClass RX4 = some m.cls := findClass_of_methodNamed B.named
  have hlocks := B.notSynchronized
  have hl := lv_entry ([.ref h0, .int (zi ch)]) (n := 2) (Nat.le_of_ble_eq_true rfl)
  rw [lg_entry_eq]
  generalize (lg_sl ([.ref h0, .int (zi ch)]) ++ List.replicate (2 - (lg_sl ([.ref h0, .int (zi ch)])).length) Slot.unset).toArray = ls at hl ⊢
  have hl : lv_has ls 2 [(0, .ref h0), (1, .int (zi ch))] := hl
  refine lv_iload_n hx hb dX4_type_0 rfl (lv_at hl 1 rfl) ?_
  refine zw_bipush hx hb dX4_type_1 (by decide) ?_
  refine zw_icmp_lt (tgt := 12) hx hb dX4_type_3 (by decide) ⟨by omega, by omega⟩ ⟨by omega, by omega⟩ (fun h1 => ?_) (fun h1 => ?_)
  · skip
    exact zt_throw (cls := "java/lang/IllegalArgumentException") (text := "this is no character that can be typed") (ik := 88) (is := 205) (ic := 92) hx hb hst hown hE (by decide +kernel) (hts (.classLink RX4 88 "java/lang/IllegalArgumentException") (by decide +kernel)) (hts (.initialized "java/lang/IllegalArgumentException") (by decide +kernel)) (by decide) (fun w h => hts w (List.mem_cons_of_mem _ (List.mem_append_left _ (List.mem_append_right _ h)))) (by decide +kernel) (by decide +kernel) (hl.1.trans hml.symm) dX4_type_12 dX4_type_15 dX4_type_16 dX4_type_18 dX4_type_21 hno (Nat.le_of_ble_eq_true rfl) (Nat.le_of_ble_eq_true rfl) (Nat.le_of_ble_eq_true rfl) (Nat.le_of_ble_eq_true rfl) hlocks
  · skip
    refine lv_iload_n hx hb dX4_type_6 rfl (lv_at hl 1 rfl) ?_
    refine zw_bipush hx hb dX4_type_7 (by decide) ?_
    refine zw_icmp_le (tgt := 22) hx hb dX4_type_9 (by decide) ⟨by omega, by omega⟩ ⟨by omega, by omega⟩ (fun h2 => ?_) (fun h2 => ?_)
    · skip
      exact absurd True.intro (by omega)
    · skip
      exact zt_throw (cls := "java/lang/IllegalArgumentException") (text := "this is no character that can be typed") (ik := 88) (is := 205) (ic := 92) hx hb hst hown hE (by decide +kernel) (hts (.classLink RX4 88 "java/lang/IllegalArgumentException") (by decide +kernel)) (hts (.initialized "java/lang/IllegalArgumentException") (by decide +kernel)) (by decide) (fun w h => hts w (List.mem_cons_of_mem _ (List.mem_append_left _ (List.mem_append_right _ h)))) (by decide +kernel) (by decide +kernel) (hl.1.trans hml.symm) dX4_type_12 dX4_type_15 dX4_type_16 dX4_type_18 dX4_type_21 hno (Nat.le_of_ble_eq_true rfl) (Nat.le_of_ble_eq_true rfl) (Nat.le_of_ble_eq_true rfl) (Nat.le_of_ble_eq_true rfl) hlocks

set_option maxHeartbeats 4000000 in
set_option maxRecDepth 100000 in
theorem t_X4_type_2 (l : Launch) (hst : l.stackTraces = false) (dC : Nat → ClassId) (dI : Nat → Nat → Nat) (cI : ClassId) (h0 : Nat) (qs : Nat) (qr : Nat) (qm : Nat) (qw : Nat) (qt : Nat) (we : Int) (tc : Nat) (tl : Int) (tf : Nat → Int) (ch : Int) (hp0 : 32 ≤ ch ∧ ch ≤ 126) (hp1 : tl = 20) : vx_Met l yX4_type wsX4_type ({ frames := 6, cells := 1, slots := 6, locals := 90 }) (zPt (dC, dI) [(cI, .int)] [.ref h0, .int (zi ch)] [(h0, .inr (4, [.ref qs, .ref qr, .ref qm, .ref qw, .ref qt, .int (zi we)])), (qt, .inr (1, [.ref tc, .int (zi tl)])), (tc, aI cI 20 tf)]) zNo (zX "java/lang/UnsupportedOperationException") 1 6 zN := by
  refine vx_ofW (cc := cX4_type) (maxL := 2) (ret := (some .int)) (by decide) rfl ?_
  intro p e s m args below meth c s₁ B hml hno hv
  obtain ⟨rfl, hE, hP, hK⟩ := hv
  have hx := B.exec
  have hb := B.bytes
  have hr := B.returns
  have hts := atoms_spec (ws := wsX4_type) B.pre
  have hown : s.vm.findClass RX4 = some m.cls := findClass_of_methodNamed B.named
  have hlocks := B.notSynchronized
  have hl := lv_entry ([.ref h0, .int (zi ch)]) (n := 2) (Nat.le_of_ble_eq_true rfl)
  rw [lg_entry_eq]
  generalize (lg_sl ([.ref h0, .int (zi ch)]) ++ List.replicate (2 - (lg_sl ([.ref h0, .int (zi ch)])).length) Slot.unset).toArray = ls at hl ⊢
  have hl : lv_has ls 2 [(0, .ref h0), (1, .int (zi ch))] := hl
  refine lv_iload_n hx hb dX4_type_0 rfl (lv_at hl 1 rfl) ?_
  refine zw_bipush hx hb dX4_type_1 (by decide) ?_
  refine zw_icmp_lt (tgt := 12) hx hb dX4_type_3 (by decide) ⟨by omega, by omega⟩ ⟨by omega, by omega⟩ (fun h1 => ?_) (fun h1 => ?_)
  · skip
    exact absurd True.intro (by omega)
  · skip
    refine lv_iload_n hx hb dX4_type_6 rfl (lv_at hl 1 rfl) ?_
    refine zw_bipush hx hb dX4_type_7 (by decide) ?_
    refine zw_icmp_le (tgt := 22) hx hb dX4_type_9 (by decide) ⟨by omega, by omega⟩ ⟨by omega, by omega⟩ (fun h2 => ?_) (fun h2 => ?_)
    · skip
      refine lv_aload_n hx hb dX4_type_22 rfl (lv_at hl 0 rfl) ?_
      refine va_get (D := (dC, dI)) (ci := 4) (v := .ref qt) (C := RX4) (T := TX4) (N := 6) hx hb hts (by decide +kernel) hown hK hP 0 rfl rfl 4 (by decide) (hts (.fieldLink RX4 34 "CivilDays" "typed" "LCivilDays$Line;") (by decide +kernel)) (fun _ h9 => h9) rfl dX4_type_23 ?_
      have hh3 := c_X1_isFull_1 l dC dI cI qt tc tl tf (by omega)
      have hPc := hP.sub (ws' := [(qt, .inr (1, [.ref tc, .int (zi tl)])), (tc, aI cI 20 tf)]) [1, 2] rfl
      have hKc : va_K (dC, dI) vwCl [(cI, .int)] s := hK
      refine vp_callSi (va_Run.run (va_runV (As := []) (rest := []) ⟨hx, hb, hml, hown, hts⟩ hh3 (cwV 0 hts gX4_type_X1_isFull rfl rfl rfl (by decide +kernel) ⟨Nat.le_of_ble_eq_true rfl, Nat.le_of_ble_eq_true rfl⟩) ⟨zPr.blind _ _ _ _, va_recv hKc hPc (ci := 1) (q0 := 0) rfl rfl, fun U hU hW => ⟨rfl, by rw [hU]; exact hPc, va_K.moved hW.alike hKc⟩⟩ rfl rfl hl.1 rfl (lv_room (Nat.le_of_ble_eq_true rfl)) dX4_type_26 ⟨Nat.le_of_ble_eq_true rfl, Nat.le_of_ble_eq_true rfl⟩)) (fun r3 (hr3 : r3 = zi 1) => ?_)
      subst hr3
      refine zw_if_eq (tgt := 42) hx hb dX4_type_29 (by decide) ⟨by omega, by omega⟩ (fun h4 => ?_) (fun h4 => ?_)
      · skip
        exact absurd True.intro (by omega)
      · skip
        exact zt_throw (cls := "java/lang/UnsupportedOperationException") (text := "as much is typed as may be") (ik := 81) (is := 211) (ic := 85) hx hb hst hown hE (by decide +kernel) (hts (.classLink RX4 81 "java/lang/UnsupportedOperationException") (by decide +kernel)) (hts (.initialized "java/lang/UnsupportedOperationException") (by decide +kernel)) (by decide) (fun w h => hts w (List.mem_cons_of_mem _ (List.mem_append_right _ h))) (by decide +kernel) (by decide +kernel) (hl.1.trans hml.symm) dX4_type_32 dX4_type_35 dX4_type_36 dX4_type_38 dX4_type_41 hno (Nat.le_of_ble_eq_true rfl) (Nat.le_of_ble_eq_true rfl) (Nat.le_of_ble_eq_true rfl) (Nat.le_of_ble_eq_true rfl) hlocks
    · skip
      exact absurd True.intro (by omega)

set_option maxHeartbeats 4000000 in
set_option maxRecDepth 100000 in
theorem c_X4_putCivil (l : Launch)  (dC : Nat → ClassId) (dI : Nat → Nat → Nat) (cI : ClassId) (h0 : Nat) (qs : Nat) (qr : Nat) (qm : Nat) (qw : Nat) (qt : Nat) (we : Int) (wc : Nat) (wf : Nat → Int) (nu : Int) (sz : Nat) (hp0 : 0 ≤ nu ∧ nu ≤ 3652058) : Met l yX4_putCivil wsX4_putCivil ({ frames := 4, cells := 0, slots := 0, locals := 87 }) (zPw (dC, dI) [(cI, .int)] sz [.ref h0, .int (zi nu)] [(h0, .inr (4, [.ref qs, .ref qr, .ref qm, .ref qw, .ref qt, .int (zi we)])), (qw, .inr (1, [.ref wc, .int (zi 0)])), (wc, aI cI 20 wf)]) (va_Qv (fun (_ : Unit) => True) (zB (dC, dI) [(cI, .int)] (va_A [(h0, .inr (4, [.ref qs, .ref qr, .ref qm, .ref qw, .ref qt, .int (zi we)])), (qw, .inr (1, [.ref wc, .int (zi 0)])), (wc, aI cI 20 wf)] sz) [(h0, .inr (4, [.ref qs, .ref qr, .ref qm, .ref qw, .ref qt, .int (zi we)])), (qw, .inr (1, [.ref wc, .int (zi ((((((((((0 + 1) + 1) + 1) + 1) + 1) + 1) + 1) + 1) + 1) + 1))])), (wc, aI cI 20 (zup (zup (zup (zup (zup (zup (zup (zup (zup (zup wf (Int.toNat 0) (48 + (((f_X0_yearOf nu) / 1000) % 10))) (Int.toNat (0 + 1)) (48 + (((f_X0_yearOf nu) / 100) % 10))) (Int.toNat ((0 + 1) + 1)) (48 + (((f_X0_yearOf nu) / 10) % 10))) (Int.toNat (((0 + 1) + 1) + 1)) (48 + (((f_X0_yearOf nu) / 1) % 10))) (Int.toNat ((((0 + 1) + 1) + 1) + 1)) 45) (Int.toNat (((((0 + 1) + 1) + 1) + 1) + 1)) (48 + (((f_X0_monthOf nu) / 10) % 10))) (Int.toNat ((((((0 + 1) + 1) + 1) + 1) + 1) + 1)) (48 + (((f_X0_monthOf nu) / 1) % 10))) (Int.toNat (((((((0 + 1) + 1) + 1) + 1) + 1) + 1) + 1)) 45) (Int.toNat ((((((((0 + 1) + 1) + 1) + 1) + 1) + 1) + 1) + 1)) (48 + (((f_X0_dayOf nu) / 10) % 10))) (Int.toNat (((((((((0 + 1) + 1) + 1) + 1) + 1) + 1) + 1) + 1) + 1)) (48 + (((f_X0_dayOf nu) / 1) % 10))))]) (va_A [(h0, .inr (4, [.ref qs, .ref qr, .ref qm, .ref qw, .ref qt, .int (zi we)])), (qw, .inr (1, [.ref wc, .int (zi 0)])), (wc, aI cI 20 wf)] sz)) 0 0 (va_A [(h0, .inr (4, [.ref qs, .ref qr, .ref qm, .ref qw, .ref qt, .int (zi we)])), (qw, .inr (1, [.ref wc, .int (zi 0)])), (wc, aI cI 20 wf)] sz) := by
  refine Met.ofW (cc := cX4_putCivil) (maxL := 2) (ret := none) (by decide) rfl ?_
  intro p e s m args below meth c s₁ B hml hv
  obtain ⟨rfl, hsz, hP, hK, hD0⟩ := hv
  have hx := B.exec
  have hb := B.bytes
  have hr := B.returns
  have hts := atoms_spec (ws := wsX4_putCivil) B.pre
  have hown : s.vm.findClass RX4 = some m.cls := findClass_of_methodNamed B.named
  have hlocks := B.notSynchronized
  subst hsz
  have hD := hD0.self (sz := s.heap.size)
  generalize hAe : va_A [(h0, .inr (4, [.ref qs, .ref qr, .ref qm, .ref qw, .ref qt, .int (zi we)])), (qw, .inr (1, [.ref wc, .int (zi 0)])), (wc, aI cI 20 wf)] s.heap.size = A at hD ⊢
  have hA : ∀ q : Nat, s.heap.size ≤ q → A q := fun q h => by rw [← hAe]; exact Or.inr h
  have hS : va_S A s.heap s.heap [] := va_S.rf
  have hP : va_P (dC, dI) vwCl [(h0, .inr (4, [.ref qs, .ref qr, .ref qm, .ref qw, .ref qt, .int (zi we)])), (qw, .inr (1, [.ref wc, .int (zi 0)])), (wc, aI cI 20 wf)] s.heap := hP
  have hl := lv_entry ([.ref h0, .int (zi nu)]) (n := 2) (Nat.le_of_ble_eq_true rfl)
  rw [lg_entry_eq]
  generalize (lg_sl ([.ref h0, .int (zi nu)]) ++ List.replicate (2 - (lg_sl ([.ref h0, .int (zi nu)])).length) Slot.unset).toArray = ls at hl ⊢
  have hl : lv_has ls 2 [(0, .ref h0), (1, .int (zi nu))] := hl
  refine lv_aload_n hx hb dX4_putCivil_0 rfl (lv_at hl 0 rfl) ?_
  refine va_get (D := (dC, dI)) (ci := 4) (v := .ref qw) (C := RX4) (T := TX4) (N := 6) hx hb hts (by decide +kernel) hown hK hP 0 rfl rfl 3 (by decide) (hts (.fieldLink RX4 30 "CivilDays" "written" "LCivilDays$Line;") (by decide +kernel)) (fun _ h9 => h9) rfl dX4_putCivil_1 ?_
  refine lv_iload_n hx hb dX4_putCivil_4 rfl (lv_at hl 1 rfl) ?_
  have hh1 := c_X0_yearOf l nu (by omega)
  refine vp_callSi (va_Run.run (va_runS (As := [.int (zi nu)]) (rest := [.ref qw]) ⟨hx, hb, hml, hown, hts⟩ hh1 (va_cwS 1 hts gX4_putCivil_X0_yearOf rfl rfl rfl (by decide +kernel) ⟨Nat.le_of_ble_eq_true rfl, Nat.le_of_ble_eq_true rfl⟩) ⟨fun a U g mk q => q, fun U hU hW => ⟨rfl, trivial⟩⟩ rfl rfl hl.1 rfl (lv_room (Nat.le_of_ble_eq_true rfl)) dX4_putCivil_5 ⟨Nat.zero_le _, Nat.zero_le _⟩)) (fun r1 (hr1 : r1 = zi (f_X0_yearOf nu)) => ?_)
  subst hr1
  have hf1 := b_X0_yearOf nu (by omega)
  refine zw_sipush hx hb dX4_putCivil_8 (by decide) ?_
  have hh2 := c_X1_addDigits_1000 l dC dI cI qw wc 0 wf (f_X0_yearOf nu) s.heap.size (by omega) (by omega)
  have hPc := hP.sub (ws' := [(qw, .inr (1, [.ref wc, .int (zi 0)])), (wc, aI cI 20 wf)]) [1, 2] rfl
  have hKc : va_K (dC, dI) vwCl [(cI, .int)] s := hK
  have hDc := hD.sub (ws' := [(qw, .inr (1, [.ref wc, .int (zi 0)])), (wc, aI cI 20 wf)]) [1, 2] (by decide) rfl
  have hFc := va_free (wc := [(qw, .inr (1, [.ref wc, .int (zi 0)])), (wc, aI cI 20 wf)]) hD hS hA [1, 2] rfl
  refine va_callv (va_runV (As := [.int (zi (f_X0_yearOf nu)), .int (zi 1000)]) (rest := []) ⟨hx, hb, hml, hown, hts⟩ hh2 (cwV 2 hts gX4_putCivil_X1_addDigits rfl rfl rfl (by decide +kernel) ⟨Nat.le_of_ble_eq_true rfl, Nat.le_of_ble_eq_true rfl⟩) ⟨zPw.blind _ _ _ _ _, va_recv hKc hPc (ci := 1) (q0 := 0) rfl rfl, fun U hU hW => ⟨rfl, by rw [hU], by rw [hU]; exact hPc, va_K.moved hW.alike hKc, hDc.weaken (fun _ _ _ _ => trivial)⟩⟩ rfl rfl hl.1 rfl (lv_room (Nat.le_of_ble_eq_true rfl)) dX4_putCivil_11 ⟨Nat.le_of_ble_eq_true rfl, Nat.le_of_ble_eq_true rfl⟩) hS (fun q _ h => hFc q h) hFc (fun u t H1 locs ht hvm hw hB hz1 hk1 hS => ?_)
  obtain ⟨hP1, hK1, hD1⟩ := hB
  rw [ht] at hP1
  obtain ⟨hP, hD⟩ := va_join (wr := [(h0, .inr (4, [.ref qs, .ref qr, .ref qm, .ref qw, .ref qt, .int (zi we)]))]) (w1 := [(qw, .inr (1, [.ref wc, .int (zi ((((0 + 1) + 1) + 1) + 1))])), (wc, aI cI 20 (zup (zup (zup (zup wf (Int.toNat 0) (48 + (((f_X0_yearOf nu) / 1000) % 10))) (Int.toNat (0 + 1)) (48 + (((f_X0_yearOf nu) / 100) % 10))) (Int.toNat ((0 + 1) + 1)) (48 + (((f_X0_yearOf nu) / 10) % 10))) (Int.toNat (((0 + 1) + 1) + 1)) (48 + (((f_X0_yearOf nu) / 1) % 10))))]) hP hD [1, 2] [0] rfl rfl (by decide) (by decide) hk1 hFc hP1 hD1
  generalize H1 = H at hP hS ⊢
  have hP : va_P (dC, dI) vwCl [(h0, .inr (4, [.ref qs, .ref qr, .ref qm, .ref qw, .ref qt, .int (zi we)])), (qw, .inr (1, [.ref wc, .int (zi ((((0 + 1) + 1) + 1) + 1))])), (wc, aI cI 20 (zup (zup (zup (zup wf (Int.toNat 0) (48 + (((f_X0_yearOf nu) / 1000) % 10))) (Int.toNat (0 + 1)) (48 + (((f_X0_yearOf nu) / 100) % 10))) (Int.toNat ((0 + 1) + 1)) (48 + (((f_X0_yearOf nu) / 10) % 10))) (Int.toNat (((0 + 1) + 1) + 1)) (48 + (((f_X0_yearOf nu) / 1) % 10))))] H := hP
  have hD : va_D A [(h0, .inr (4, [.ref qs, .ref qr, .ref qm, .ref qw, .ref qt, .int (zi we)])), (qw, .inr (1, [.ref wc, .int (zi ((((0 + 1) + 1) + 1) + 1))])), (wc, aI cI 20 (zup (zup (zup (zup wf (Int.toNat 0) (48 + (((f_X0_yearOf nu) / 1000) % 10))) (Int.toNat (0 + 1)) (48 + (((f_X0_yearOf nu) / 100) % 10))) (Int.toNat ((0 + 1) + 1)) (48 + (((f_X0_yearOf nu) / 10) % 10))) (Int.toNat (((0 + 1) + 1) + 1)) (48 + (((f_X0_yearOf nu) / 1) % 10))))] := hD
  refine lv_aload_n hx hb dX4_putCivil_14 rfl (lv_at hl 0 rfl) ?_
  refine va_get (D := (dC, dI)) (ci := 4) (v := .ref qw) (C := RX4) (T := TX4) (N := 6) hx hb hts (by decide +kernel) hown hK hP 0 rfl rfl 3 (by decide) (hts (.fieldLink RX4 30 "CivilDays" "written" "LCivilDays$Line;") (by decide +kernel)) (fun _ h9 => h9) rfl dX4_putCivil_15 ?_
  refine zw_bipush hx hb dX4_putCivil_18 (by decide) ?_
  have hh3 := c_X1_add l dC dI cI qw wc ((((0 + 1) + 1) + 1) + 1) (zup (zup (zup (zup wf (Int.toNat 0) (48 + (((f_X0_yearOf nu) / 1000) % 10))) (Int.toNat (0 + 1)) (48 + (((f_X0_yearOf nu) / 100) % 10))) (Int.toNat ((0 + 1) + 1)) (48 + (((f_X0_yearOf nu) / 10) % 10))) (Int.toNat (((0 + 1) + 1) + 1)) (48 + (((f_X0_yearOf nu) / 1) % 10))) 45 H.size (by omega)
  have hPc := hP.sub (ws' := [(qw, .inr (1, [.ref wc, .int (zi ((((0 + 1) + 1) + 1) + 1))])), (wc, aI cI 20 (zup (zup (zup (zup wf (Int.toNat 0) (48 + (((f_X0_yearOf nu) / 1000) % 10))) (Int.toNat (0 + 1)) (48 + (((f_X0_yearOf nu) / 100) % 10))) (Int.toNat ((0 + 1) + 1)) (48 + (((f_X0_yearOf nu) / 10) % 10))) (Int.toNat (((0 + 1) + 1) + 1)) (48 + (((f_X0_yearOf nu) / 1) % 10))))]) [1, 2] rfl
  have hKc : va_K (dC, dI) vwCl [(cI, .int)] s := hK
  have hDc := hD.sub (ws' := [(qw, .inr (1, [.ref wc, .int (zi ((((0 + 1) + 1) + 1) + 1))])), (wc, aI cI 20 (zup (zup (zup (zup wf (Int.toNat 0) (48 + (((f_X0_yearOf nu) / 1000) % 10))) (Int.toNat (0 + 1)) (48 + (((f_X0_yearOf nu) / 100) % 10))) (Int.toNat ((0 + 1) + 1)) (48 + (((f_X0_yearOf nu) / 10) % 10))) (Int.toNat (((0 + 1) + 1) + 1)) (48 + (((f_X0_yearOf nu) / 1) % 10))))]) [1, 2] (by decide) rfl
  have hFc := va_free (wc := [(qw, .inr (1, [.ref wc, .int (zi ((((0 + 1) + 1) + 1) + 1))])), (wc, aI cI 20 (zup (zup (zup (zup wf (Int.toNat 0) (48 + (((f_X0_yearOf nu) / 1000) % 10))) (Int.toNat (0 + 1)) (48 + (((f_X0_yearOf nu) / 100) % 10))) (Int.toNat ((0 + 1) + 1)) (48 + (((f_X0_yearOf nu) / 10) % 10))) (Int.toNat (((0 + 1) + 1) + 1)) (48 + (((f_X0_yearOf nu) / 1) % 10))))]) hD hS hA [1, 2] rfl
  refine va_callv (va_runV (As := [.int (zi 45)]) (rest := []) ⟨hx, hb, hml, hown, hts⟩ hh3 (cwV 1 hts gX4_putCivil_X1_add rfl rfl rfl (by decide +kernel) ⟨Nat.le_of_ble_eq_true rfl, Nat.le_of_ble_eq_true rfl⟩) ⟨zPw.blind _ _ _ _ _, va_recv hKc hPc (ci := 1) (q0 := 0) rfl rfl, fun U hU hW => ⟨rfl, by rw [hU], by rw [hU]; exact hPc, va_K.moved hW.alike hKc, hDc.weaken (fun _ _ _ _ => trivial)⟩⟩ rfl rfl hl.1 rfl (lv_room (Nat.le_of_ble_eq_true rfl)) dX4_putCivil_20 ⟨Nat.le_of_ble_eq_true rfl, Nat.le_of_ble_eq_true rfl⟩) hS (fun q _ h => hFc q h) hFc (fun u t H1 locs ht hvm hw hB hz1 hk1 hS => ?_)
  obtain ⟨hP1, hK1, hD1⟩ := hB
  rw [ht] at hP1
  obtain ⟨hP, hD⟩ := va_join (wr := [(h0, .inr (4, [.ref qs, .ref qr, .ref qm, .ref qw, .ref qt, .int (zi we)]))]) (w1 := [(qw, .inr (1, [.ref wc, .int (zi (((((0 + 1) + 1) + 1) + 1) + 1))])), (wc, aI cI 20 (zup (zup (zup (zup (zup wf (Int.toNat 0) (48 + (((f_X0_yearOf nu) / 1000) % 10))) (Int.toNat (0 + 1)) (48 + (((f_X0_yearOf nu) / 100) % 10))) (Int.toNat ((0 + 1) + 1)) (48 + (((f_X0_yearOf nu) / 10) % 10))) (Int.toNat (((0 + 1) + 1) + 1)) (48 + (((f_X0_yearOf nu) / 1) % 10))) (Int.toNat ((((0 + 1) + 1) + 1) + 1)) 45))]) hP hD [1, 2] [0] rfl rfl (by decide) (by decide) hk1 hFc hP1 hD1
  generalize H1 = H at hP hS ⊢
  have hP : va_P (dC, dI) vwCl [(h0, .inr (4, [.ref qs, .ref qr, .ref qm, .ref qw, .ref qt, .int (zi we)])), (qw, .inr (1, [.ref wc, .int (zi (((((0 + 1) + 1) + 1) + 1) + 1))])), (wc, aI cI 20 (zup (zup (zup (zup (zup wf (Int.toNat 0) (48 + (((f_X0_yearOf nu) / 1000) % 10))) (Int.toNat (0 + 1)) (48 + (((f_X0_yearOf nu) / 100) % 10))) (Int.toNat ((0 + 1) + 1)) (48 + (((f_X0_yearOf nu) / 10) % 10))) (Int.toNat (((0 + 1) + 1) + 1)) (48 + (((f_X0_yearOf nu) / 1) % 10))) (Int.toNat ((((0 + 1) + 1) + 1) + 1)) 45))] H := hP
  have hD : va_D A [(h0, .inr (4, [.ref qs, .ref qr, .ref qm, .ref qw, .ref qt, .int (zi we)])), (qw, .inr (1, [.ref wc, .int (zi (((((0 + 1) + 1) + 1) + 1) + 1))])), (wc, aI cI 20 (zup (zup (zup (zup (zup wf (Int.toNat 0) (48 + (((f_X0_yearOf nu) / 1000) % 10))) (Int.toNat (0 + 1)) (48 + (((f_X0_yearOf nu) / 100) % 10))) (Int.toNat ((0 + 1) + 1)) (48 + (((f_X0_yearOf nu) / 10) % 10))) (Int.toNat (((0 + 1) + 1) + 1)) (48 + (((f_X0_yearOf nu) / 1) % 10))) (Int.toNat ((((0 + 1) + 1) + 1) + 1)) 45))] := hD
  refine lv_aload_n hx hb dX4_putCivil_23 rfl (lv_at hl 0 rfl) ?_
  refine va_get (D := (dC, dI)) (ci := 4) (v := .ref qw) (C := RX4) (T := TX4) (N := 6) hx hb hts (by decide +kernel) hown hK hP 0 rfl rfl 3 (by decide) (hts (.fieldLink RX4 30 "CivilDays" "written" "LCivilDays$Line;") (by decide +kernel)) (fun _ h9 => h9) rfl dX4_putCivil_24 ?_
  refine lv_iload_n hx hb dX4_putCivil_27 rfl (lv_at hl 1 rfl) ?_
  have hh4 := c_X0_monthOf l nu (by omega)
  refine vp_callSi (va_Run.run (va_runS (As := [.int (zi nu)]) (rest := [.ref qw]) ⟨hx, hb, hml, hown, hts⟩ hh4 (va_cwS 1 hts gX4_putCivil_X0_monthOf rfl rfl rfl (by decide +kernel) ⟨Nat.le_of_ble_eq_true rfl, Nat.le_of_ble_eq_true rfl⟩) ⟨fun a U g mk q => q, fun U hU hW => ⟨rfl, trivial⟩⟩ rfl rfl hl.1 rfl (lv_room (Nat.le_of_ble_eq_true rfl)) dX4_putCivil_28 ⟨Nat.zero_le _, Nat.zero_le _⟩)) (fun r4 (hr4 : r4 = zi (f_X0_monthOf nu)) => ?_)
  subst hr4
  have hf4 := b_X0_monthOf nu (by omega)
  refine zw_bipush hx hb dX4_putCivil_31 (by decide) ?_
  have hh5 := c_X1_addDigits_10 l dC dI cI qw wc (((((0 + 1) + 1) + 1) + 1) + 1) (zup (zup (zup (zup (zup wf (Int.toNat 0) (48 + (((f_X0_yearOf nu) / 1000) % 10))) (Int.toNat (0 + 1)) (48 + (((f_X0_yearOf nu) / 100) % 10))) (Int.toNat ((0 + 1) + 1)) (48 + (((f_X0_yearOf nu) / 10) % 10))) (Int.toNat (((0 + 1) + 1) + 1)) (48 + (((f_X0_yearOf nu) / 1) % 10))) (Int.toNat ((((0 + 1) + 1) + 1) + 1)) 45) (f_X0_monthOf nu) H.size (by omega) (by omega)
  have hPc := hP.sub (ws' := [(qw, .inr (1, [.ref wc, .int (zi (((((0 + 1) + 1) + 1) + 1) + 1))])), (wc, aI cI 20 (zup (zup (zup (zup (zup wf (Int.toNat 0) (48 + (((f_X0_yearOf nu) / 1000) % 10))) (Int.toNat (0 + 1)) (48 + (((f_X0_yearOf nu) / 100) % 10))) (Int.toNat ((0 + 1) + 1)) (48 + (((f_X0_yearOf nu) / 10) % 10))) (Int.toNat (((0 + 1) + 1) + 1)) (48 + (((f_X0_yearOf nu) / 1) % 10))) (Int.toNat ((((0 + 1) + 1) + 1) + 1)) 45))]) [1, 2] rfl
  have hKc : va_K (dC, dI) vwCl [(cI, .int)] s := hK
  have hDc := hD.sub (ws' := [(qw, .inr (1, [.ref wc, .int (zi (((((0 + 1) + 1) + 1) + 1) + 1))])), (wc, aI cI 20 (zup (zup (zup (zup (zup wf (Int.toNat 0) (48 + (((f_X0_yearOf nu) / 1000) % 10))) (Int.toNat (0 + 1)) (48 + (((f_X0_yearOf nu) / 100) % 10))) (Int.toNat ((0 + 1) + 1)) (48 + (((f_X0_yearOf nu) / 10) % 10))) (Int.toNat (((0 + 1) + 1) + 1)) (48 + (((f_X0_yearOf nu) / 1) % 10))) (Int.toNat ((((0 + 1) + 1) + 1) + 1)) 45))]) [1, 2] (by decide) rfl
  have hFc := va_free (wc := [(qw, .inr (1, [.ref wc, .int (zi (((((0 + 1) + 1) + 1) + 1) + 1))])), (wc, aI cI 20 (zup (zup (zup (zup (zup wf (Int.toNat 0) (48 + (((f_X0_yearOf nu) / 1000) % 10))) (Int.toNat (0 + 1)) (48 + (((f_X0_yearOf nu) / 100) % 10))) (Int.toNat ((0 + 1) + 1)) (48 + (((f_X0_yearOf nu) / 10) % 10))) (Int.toNat (((0 + 1) + 1) + 1)) (48 + (((f_X0_yearOf nu) / 1) % 10))) (Int.toNat ((((0 + 1) + 1) + 1) + 1)) 45))]) hD hS hA [1, 2] rfl
  refine va_callv (va_runV (As := [.int (zi (f_X0_monthOf nu)), .int (zi 10)]) (rest := []) ⟨hx, hb, hml, hown, hts⟩ hh5 (cwV 2 hts gX4_putCivil_X1_addDigits rfl rfl rfl (by decide +kernel) ⟨Nat.le_of_ble_eq_true rfl, Nat.le_of_ble_eq_true rfl⟩) ⟨zPw.blind _ _ _ _ _, va_recv hKc hPc (ci := 1) (q0 := 0) rfl rfl, fun U hU hW => ⟨rfl, by rw [hU], by rw [hU]; exact hPc, va_K.moved hW.alike hKc, hDc.weaken (fun _ _ _ _ => trivial)⟩⟩ rfl rfl hl.1 rfl (lv_room (Nat.le_of_ble_eq_true rfl)) dX4_putCivil_33 ⟨Nat.le_of_ble_eq_true rfl, Nat.le_of_ble_eq_true rfl⟩) hS (fun q _ h => hFc q h) hFc (fun u t H1 locs ht hvm hw hB hz1 hk1 hS => ?_)
  obtain ⟨hP1, hK1, hD1⟩ := hB
  rw [ht] at hP1
  obtain ⟨hP, hD⟩ := va_join (wr := [(h0, .inr (4, [.ref qs, .ref qr, .ref qm, .ref qw, .ref qt, .int (zi we)]))]) (w1 := [(qw, .inr (1, [.ref wc, .int (zi (((((((0 + 1) + 1) + 1) + 1) + 1) + 1) + 1))])), (wc, aI cI 20 (zup (zup (zup (zup (zup (zup (zup wf (Int.toNat 0) (48 + (((f_X0_yearOf nu) / 1000) % 10))) (Int.toNat (0 + 1)) (48 + (((f_X0_yearOf nu) / 100) % 10))) (Int.toNat ((0 + 1) + 1)) (48 + (((f_X0_yearOf nu) / 10) % 10))) (Int.toNat (((0 + 1) + 1) + 1)) (48 + (((f_X0_yearOf nu) / 1) % 10))) (Int.toNat ((((0 + 1) + 1) + 1) + 1)) 45) (Int.toNat (((((0 + 1) + 1) + 1) + 1) + 1)) (48 + (((f_X0_monthOf nu) / 10) % 10))) (Int.toNat ((((((0 + 1) + 1) + 1) + 1) + 1) + 1)) (48 + (((f_X0_monthOf nu) / 1) % 10))))]) hP hD [1, 2] [0] rfl rfl (by decide) (by decide) hk1 hFc hP1 hD1
  generalize H1 = H at hP hS ⊢
  have hP : va_P (dC, dI) vwCl [(h0, .inr (4, [.ref qs, .ref qr, .ref qm, .ref qw, .ref qt, .int (zi we)])), (qw, .inr (1, [.ref wc, .int (zi (((((((0 + 1) + 1) + 1) + 1) + 1) + 1) + 1))])), (wc, aI cI 20 (zup (zup (zup (zup (zup (zup (zup wf (Int.toNat 0) (48 + (((f_X0_yearOf nu) / 1000) % 10))) (Int.toNat (0 + 1)) (48 + (((f_X0_yearOf nu) / 100) % 10))) (Int.toNat ((0 + 1) + 1)) (48 + (((f_X0_yearOf nu) / 10) % 10))) (Int.toNat (((0 + 1) + 1) + 1)) (48 + (((f_X0_yearOf nu) / 1) % 10))) (Int.toNat ((((0 + 1) + 1) + 1) + 1)) 45) (Int.toNat (((((0 + 1) + 1) + 1) + 1) + 1)) (48 + (((f_X0_monthOf nu) / 10) % 10))) (Int.toNat ((((((0 + 1) + 1) + 1) + 1) + 1) + 1)) (48 + (((f_X0_monthOf nu) / 1) % 10))))] H := hP
  have hD : va_D A [(h0, .inr (4, [.ref qs, .ref qr, .ref qm, .ref qw, .ref qt, .int (zi we)])), (qw, .inr (1, [.ref wc, .int (zi (((((((0 + 1) + 1) + 1) + 1) + 1) + 1) + 1))])), (wc, aI cI 20 (zup (zup (zup (zup (zup (zup (zup wf (Int.toNat 0) (48 + (((f_X0_yearOf nu) / 1000) % 10))) (Int.toNat (0 + 1)) (48 + (((f_X0_yearOf nu) / 100) % 10))) (Int.toNat ((0 + 1) + 1)) (48 + (((f_X0_yearOf nu) / 10) % 10))) (Int.toNat (((0 + 1) + 1) + 1)) (48 + (((f_X0_yearOf nu) / 1) % 10))) (Int.toNat ((((0 + 1) + 1) + 1) + 1)) 45) (Int.toNat (((((0 + 1) + 1) + 1) + 1) + 1)) (48 + (((f_X0_monthOf nu) / 10) % 10))) (Int.toNat ((((((0 + 1) + 1) + 1) + 1) + 1) + 1)) (48 + (((f_X0_monthOf nu) / 1) % 10))))] := hD
  refine lv_aload_n hx hb dX4_putCivil_36 rfl (lv_at hl 0 rfl) ?_
  refine va_get (D := (dC, dI)) (ci := 4) (v := .ref qw) (C := RX4) (T := TX4) (N := 6) hx hb hts (by decide +kernel) hown hK hP 0 rfl rfl 3 (by decide) (hts (.fieldLink RX4 30 "CivilDays" "written" "LCivilDays$Line;") (by decide +kernel)) (fun _ h9 => h9) rfl dX4_putCivil_37 ?_
  refine zw_bipush hx hb dX4_putCivil_40 (by decide) ?_
  have hh6 := c_X1_add l dC dI cI qw wc (((((((0 + 1) + 1) + 1) + 1) + 1) + 1) + 1) (zup (zup (zup (zup (zup (zup (zup wf (Int.toNat 0) (48 + (((f_X0_yearOf nu) / 1000) % 10))) (Int.toNat (0 + 1)) (48 + (((f_X0_yearOf nu) / 100) % 10))) (Int.toNat ((0 + 1) + 1)) (48 + (((f_X0_yearOf nu) / 10) % 10))) (Int.toNat (((0 + 1) + 1) + 1)) (48 + (((f_X0_yearOf nu) / 1) % 10))) (Int.toNat ((((0 + 1) + 1) + 1) + 1)) 45) (Int.toNat (((((0 + 1) + 1) + 1) + 1) + 1)) (48 + (((f_X0_monthOf nu) / 10) % 10))) (Int.toNat ((((((0 + 1) + 1) + 1) + 1) + 1) + 1)) (48 + (((f_X0_monthOf nu) / 1) % 10))) 45 H.size (by omega)
  have hPc := hP.sub (ws' := [(qw, .inr (1, [.ref wc, .int (zi (((((((0 + 1) + 1) + 1) + 1) + 1) + 1) + 1))])), (wc, aI cI 20 (zup (zup (zup (zup (zup (zup (zup wf (Int.toNat 0) (48 + (((f_X0_yearOf nu) / 1000) % 10))) (Int.toNat (0 + 1)) (48 + (((f_X0_yearOf nu) / 100) % 10))) (Int.toNat ((0 + 1) + 1)) (48 + (((f_X0_yearOf nu) / 10) % 10))) (Int.toNat (((0 + 1) + 1) + 1)) (48 + (((f_X0_yearOf nu) / 1) % 10))) (Int.toNat ((((0 + 1) + 1) + 1) + 1)) 45) (Int.toNat (((((0 + 1) + 1) + 1) + 1) + 1)) (48 + (((f_X0_monthOf nu) / 10) % 10))) (Int.toNat ((((((0 + 1) + 1) + 1) + 1) + 1) + 1)) (48 + (((f_X0_monthOf nu) / 1) % 10))))]) [1, 2] rfl
  have hKc : va_K (dC, dI) vwCl [(cI, .int)] s := hK
  have hDc := hD.sub (ws' := [(qw, .inr (1, [.ref wc, .int (zi (((((((0 + 1) + 1) + 1) + 1) + 1) + 1) + 1))])), (wc, aI cI 20 (zup (zup (zup (zup (zup (zup (zup wf (Int.toNat 0) (48 + (((f_X0_yearOf nu) / 1000) % 10))) (Int.toNat (0 + 1)) (48 + (((f_X0_yearOf nu) / 100) % 10))) (Int.toNat ((0 + 1) + 1)) (48 + (((f_X0_yearOf nu) / 10) % 10))) (Int.toNat (((0 + 1) + 1) + 1)) (48 + (((f_X0_yearOf nu) / 1) % 10))) (Int.toNat ((((0 + 1) + 1) + 1) + 1)) 45) (Int.toNat (((((0 + 1) + 1) + 1) + 1) + 1)) (48 + (((f_X0_monthOf nu) / 10) % 10))) (Int.toNat ((((((0 + 1) + 1) + 1) + 1) + 1) + 1)) (48 + (((f_X0_monthOf nu) / 1) % 10))))]) [1, 2] (by decide) rfl
  have hFc := va_free (wc := [(qw, .inr (1, [.ref wc, .int (zi (((((((0 + 1) + 1) + 1) + 1) + 1) + 1) + 1))])), (wc, aI cI 20 (zup (zup (zup (zup (zup (zup (zup wf (Int.toNat 0) (48 + (((f_X0_yearOf nu) / 1000) % 10))) (Int.toNat (0 + 1)) (48 + (((f_X0_yearOf nu) / 100) % 10))) (Int.toNat ((0 + 1) + 1)) (48 + (((f_X0_yearOf nu) / 10) % 10))) (Int.toNat (((0 + 1) + 1) + 1)) (48 + (((f_X0_yearOf nu) / 1) % 10))) (Int.toNat ((((0 + 1) + 1) + 1) + 1)) 45) (Int.toNat (((((0 + 1) + 1) + 1) + 1) + 1)) (48 + (((f_X0_monthOf nu) / 10) % 10))) (Int.toNat ((((((0 + 1) + 1) + 1) + 1) + 1) + 1)) (48 + (((f_X0_monthOf nu) / 1) % 10))))]) hD hS hA [1, 2] rfl
  refine va_callv (va_runV (As := [.int (zi 45)]) (rest := []) ⟨hx, hb, hml, hown, hts⟩ hh6 (cwV 1 hts gX4_putCivil_X1_add rfl rfl rfl (by decide +kernel) ⟨Nat.le_of_ble_eq_true rfl, Nat.le_of_ble_eq_true rfl⟩) ⟨zPw.blind _ _ _ _ _, va_recv hKc hPc (ci := 1) (q0 := 0) rfl rfl, fun U hU hW => ⟨rfl, by rw [hU], by rw [hU]; exact hPc, va_K.moved hW.alike hKc, hDc.weaken (fun _ _ _ _ => trivial)⟩⟩ rfl rfl hl.1 rfl (lv_room (Nat.le_of_ble_eq_true rfl)) dX4_putCivil_42 ⟨Nat.le_of_ble_eq_true rfl, Nat.le_of_ble_eq_true rfl⟩) hS (fun q _ h => hFc q h) hFc (fun u t H1 locs ht hvm hw hB hz1 hk1 hS => ?_)
  obtain ⟨hP1, hK1, hD1⟩ := hB
  rw [ht] at hP1
  obtain ⟨hP, hD⟩ := va_join (wr := [(h0, .inr (4, [.ref qs, .ref qr, .ref qm, .ref qw, .ref qt, .int (zi we)]))]) (w1 := [(qw, .inr (1, [.ref wc, .int (zi ((((((((0 + 1) + 1) + 1) + 1) + 1) + 1) + 1) + 1))])), (wc, aI cI 20 (zup (zup (zup (zup (zup (zup (zup (zup wf (Int.toNat 0) (48 + (((f_X0_yearOf nu) / 1000) % 10))) (Int.toNat (0 + 1)) (48 + (((f_X0_yearOf nu) / 100) % 10))) (Int.toNat ((0 + 1) + 1)) (48 + (((f_X0_yearOf nu) / 10) % 10))) (Int.toNat (((0 + 1) + 1) + 1)) (48 + (((f_X0_yearOf nu) / 1) % 10))) (Int.toNat ((((0 + 1) + 1) + 1) + 1)) 45) (Int.toNat (((((0 + 1) + 1) + 1) + 1) + 1)) (48 + (((f_X0_monthOf nu) / 10) % 10))) (Int.toNat ((((((0 + 1) + 1) + 1) + 1) + 1) + 1)) (48 + (((f_X0_monthOf nu) / 1) % 10))) (Int.toNat (((((((0 + 1) + 1) + 1) + 1) + 1) + 1) + 1)) 45))]) hP hD [1, 2] [0] rfl rfl (by decide) (by decide) hk1 hFc hP1 hD1
  generalize H1 = H at hP hS ⊢
  have hP : va_P (dC, dI) vwCl [(h0, .inr (4, [.ref qs, .ref qr, .ref qm, .ref qw, .ref qt, .int (zi we)])), (qw, .inr (1, [.ref wc, .int (zi ((((((((0 + 1) + 1) + 1) + 1) + 1) + 1) + 1) + 1))])), (wc, aI cI 20 (zup (zup (zup (zup (zup (zup (zup (zup wf (Int.toNat 0) (48 + (((f_X0_yearOf nu) / 1000) % 10))) (Int.toNat (0 + 1)) (48 + (((f_X0_yearOf nu) / 100) % 10))) (Int.toNat ((0 + 1) + 1)) (48 + (((f_X0_yearOf nu) / 10) % 10))) (Int.toNat (((0 + 1) + 1) + 1)) (48 + (((f_X0_yearOf nu) / 1) % 10))) (Int.toNat ((((0 + 1) + 1) + 1) + 1)) 45) (Int.toNat (((((0 + 1) + 1) + 1) + 1) + 1)) (48 + (((f_X0_monthOf nu) / 10) % 10))) (Int.toNat ((((((0 + 1) + 1) + 1) + 1) + 1) + 1)) (48 + (((f_X0_monthOf nu) / 1) % 10))) (Int.toNat (((((((0 + 1) + 1) + 1) + 1) + 1) + 1) + 1)) 45))] H := hP
  have hD : va_D A [(h0, .inr (4, [.ref qs, .ref qr, .ref qm, .ref qw, .ref qt, .int (zi we)])), (qw, .inr (1, [.ref wc, .int (zi ((((((((0 + 1) + 1) + 1) + 1) + 1) + 1) + 1) + 1))])), (wc, aI cI 20 (zup (zup (zup (zup (zup (zup (zup (zup wf (Int.toNat 0) (48 + (((f_X0_yearOf nu) / 1000) % 10))) (Int.toNat (0 + 1)) (48 + (((f_X0_yearOf nu) / 100) % 10))) (Int.toNat ((0 + 1) + 1)) (48 + (((f_X0_yearOf nu) / 10) % 10))) (Int.toNat (((0 + 1) + 1) + 1)) (48 + (((f_X0_yearOf nu) / 1) % 10))) (Int.toNat ((((0 + 1) + 1) + 1) + 1)) 45) (Int.toNat (((((0 + 1) + 1) + 1) + 1) + 1)) (48 + (((f_X0_monthOf nu) / 10) % 10))) (Int.toNat ((((((0 + 1) + 1) + 1) + 1) + 1) + 1)) (48 + (((f_X0_monthOf nu) / 1) % 10))) (Int.toNat (((((((0 + 1) + 1) + 1) + 1) + 1) + 1) + 1)) 45))] := hD
  refine lv_aload_n hx hb dX4_putCivil_45 rfl (lv_at hl 0 rfl) ?_
  refine va_get (D := (dC, dI)) (ci := 4) (v := .ref qw) (C := RX4) (T := TX4) (N := 6) hx hb hts (by decide +kernel) hown hK hP 0 rfl rfl 3 (by decide) (hts (.fieldLink RX4 30 "CivilDays" "written" "LCivilDays$Line;") (by decide +kernel)) (fun _ h9 => h9) rfl dX4_putCivil_46 ?_
  refine lv_iload_n hx hb dX4_putCivil_49 rfl (lv_at hl 1 rfl) ?_
  have hh7 := c_X0_dayOf l nu (by omega)
  refine vp_callSi (va_Run.run (va_runS (As := [.int (zi nu)]) (rest := [.ref qw]) ⟨hx, hb, hml, hown, hts⟩ hh7 (va_cwS 1 hts gX4_putCivil_X0_dayOf rfl rfl rfl (by decide +kernel) ⟨Nat.le_of_ble_eq_true rfl, Nat.le_of_ble_eq_true rfl⟩) ⟨fun a U g mk q => q, fun U hU hW => ⟨rfl, trivial⟩⟩ rfl rfl hl.1 rfl (lv_room (Nat.le_of_ble_eq_true rfl)) dX4_putCivil_50 ⟨Nat.zero_le _, Nat.zero_le _⟩)) (fun r7 (hr7 : r7 = zi (f_X0_dayOf nu)) => ?_)
  subst hr7
  have hf7 := b_X0_dayOf nu (by omega)
  refine zw_bipush hx hb dX4_putCivil_53 (by decide) ?_
  have hh8 := c_X1_addDigits_10 l dC dI cI qw wc ((((((((0 + 1) + 1) + 1) + 1) + 1) + 1) + 1) + 1) (zup (zup (zup (zup (zup (zup (zup (zup wf (Int.toNat 0) (48 + (((f_X0_yearOf nu) / 1000) % 10))) (Int.toNat (0 + 1)) (48 + (((f_X0_yearOf nu) / 100) % 10))) (Int.toNat ((0 + 1) + 1)) (48 + (((f_X0_yearOf nu) / 10) % 10))) (Int.toNat (((0 + 1) + 1) + 1)) (48 + (((f_X0_yearOf nu) / 1) % 10))) (Int.toNat ((((0 + 1) + 1) + 1) + 1)) 45) (Int.toNat (((((0 + 1) + 1) + 1) + 1) + 1)) (48 + (((f_X0_monthOf nu) / 10) % 10))) (Int.toNat ((((((0 + 1) + 1) + 1) + 1) + 1) + 1)) (48 + (((f_X0_monthOf nu) / 1) % 10))) (Int.toNat (((((((0 + 1) + 1) + 1) + 1) + 1) + 1) + 1)) 45) (f_X0_dayOf nu) H.size (by omega) (by omega)
  have hPc := hP.sub (ws' := [(qw, .inr (1, [.ref wc, .int (zi ((((((((0 + 1) + 1) + 1) + 1) + 1) + 1) + 1) + 1))])), (wc, aI cI 20 (zup (zup (zup (zup (zup (zup (zup (zup wf (Int.toNat 0) (48 + (((f_X0_yearOf nu) / 1000) % 10))) (Int.toNat (0 + 1)) (48 + (((f_X0_yearOf nu) / 100) % 10))) (Int.toNat ((0 + 1) + 1)) (48 + (((f_X0_yearOf nu) / 10) % 10))) (Int.toNat (((0 + 1) + 1) + 1)) (48 + (((f_X0_yearOf nu) / 1) % 10))) (Int.toNat ((((0 + 1) + 1) + 1) + 1)) 45) (Int.toNat (((((0 + 1) + 1) + 1) + 1) + 1)) (48 + (((f_X0_monthOf nu) / 10) % 10))) (Int.toNat ((((((0 + 1) + 1) + 1) + 1) + 1) + 1)) (48 + (((f_X0_monthOf nu) / 1) % 10))) (Int.toNat (((((((0 + 1) + 1) + 1) + 1) + 1) + 1) + 1)) 45))]) [1, 2] rfl
  have hKc : va_K (dC, dI) vwCl [(cI, .int)] s := hK
  have hDc := hD.sub (ws' := [(qw, .inr (1, [.ref wc, .int (zi ((((((((0 + 1) + 1) + 1) + 1) + 1) + 1) + 1) + 1))])), (wc, aI cI 20 (zup (zup (zup (zup (zup (zup (zup (zup wf (Int.toNat 0) (48 + (((f_X0_yearOf nu) / 1000) % 10))) (Int.toNat (0 + 1)) (48 + (((f_X0_yearOf nu) / 100) % 10))) (Int.toNat ((0 + 1) + 1)) (48 + (((f_X0_yearOf nu) / 10) % 10))) (Int.toNat (((0 + 1) + 1) + 1)) (48 + (((f_X0_yearOf nu) / 1) % 10))) (Int.toNat ((((0 + 1) + 1) + 1) + 1)) 45) (Int.toNat (((((0 + 1) + 1) + 1) + 1) + 1)) (48 + (((f_X0_monthOf nu) / 10) % 10))) (Int.toNat ((((((0 + 1) + 1) + 1) + 1) + 1) + 1)) (48 + (((f_X0_monthOf nu) / 1) % 10))) (Int.toNat (((((((0 + 1) + 1) + 1) + 1) + 1) + 1) + 1)) 45))]) [1, 2] (by decide) rfl
  have hFc := va_free (wc := [(qw, .inr (1, [.ref wc, .int (zi ((((((((0 + 1) + 1) + 1) + 1) + 1) + 1) + 1) + 1))])), (wc, aI cI 20 (zup (zup (zup (zup (zup (zup (zup (zup wf (Int.toNat 0) (48 + (((f_X0_yearOf nu) / 1000) % 10))) (Int.toNat (0 + 1)) (48 + (((f_X0_yearOf nu) / 100) % 10))) (Int.toNat ((0 + 1) + 1)) (48 + (((f_X0_yearOf nu) / 10) % 10))) (Int.toNat (((0 + 1) + 1) + 1)) (48 + (((f_X0_yearOf nu) / 1) % 10))) (Int.toNat ((((0 + 1) + 1) + 1) + 1)) 45) (Int.toNat (((((0 + 1) + 1) + 1) + 1) + 1)) (48 + (((f_X0_monthOf nu) / 10) % 10))) (Int.toNat ((((((0 + 1) + 1) + 1) + 1) + 1) + 1)) (48 + (((f_X0_monthOf nu) / 1) % 10))) (Int.toNat (((((((0 + 1) + 1) + 1) + 1) + 1) + 1) + 1)) 45))]) hD hS hA [1, 2] rfl
  refine va_callv (va_runV (As := [.int (zi (f_X0_dayOf nu)), .int (zi 10)]) (rest := []) ⟨hx, hb, hml, hown, hts⟩ hh8 (cwV 2 hts gX4_putCivil_X1_addDigits rfl rfl rfl (by decide +kernel) ⟨Nat.le_of_ble_eq_true rfl, Nat.le_of_ble_eq_true rfl⟩) ⟨zPw.blind _ _ _ _ _, va_recv hKc hPc (ci := 1) (q0 := 0) rfl rfl, fun U hU hW => ⟨rfl, by rw [hU], by rw [hU]; exact hPc, va_K.moved hW.alike hKc, hDc.weaken (fun _ _ _ _ => trivial)⟩⟩ rfl rfl hl.1 rfl (lv_room (Nat.le_of_ble_eq_true rfl)) dX4_putCivil_55 ⟨Nat.le_of_ble_eq_true rfl, Nat.le_of_ble_eq_true rfl⟩) hS (fun q _ h => hFc q h) hFc (fun u t H1 locs ht hvm hw hB hz1 hk1 hS => ?_)
  obtain ⟨hP1, hK1, hD1⟩ := hB
  rw [ht] at hP1
  obtain ⟨hP, hD⟩ := va_join (wr := [(h0, .inr (4, [.ref qs, .ref qr, .ref qm, .ref qw, .ref qt, .int (zi we)]))]) (w1 := [(qw, .inr (1, [.ref wc, .int (zi ((((((((((0 + 1) + 1) + 1) + 1) + 1) + 1) + 1) + 1) + 1) + 1))])), (wc, aI cI 20 (zup (zup (zup (zup (zup (zup (zup (zup (zup (zup wf (Int.toNat 0) (48 + (((f_X0_yearOf nu) / 1000) % 10))) (Int.toNat (0 + 1)) (48 + (((f_X0_yearOf nu) / 100) % 10))) (Int.toNat ((0 + 1) + 1)) (48 + (((f_X0_yearOf nu) / 10) % 10))) (Int.toNat (((0 + 1) + 1) + 1)) (48 + (((f_X0_yearOf nu) / 1) % 10))) (Int.toNat ((((0 + 1) + 1) + 1) + 1)) 45) (Int.toNat (((((0 + 1) + 1) + 1) + 1) + 1)) (48 + (((f_X0_monthOf nu) / 10) % 10))) (Int.toNat ((((((0 + 1) + 1) + 1) + 1) + 1) + 1)) (48 + (((f_X0_monthOf nu) / 1) % 10))) (Int.toNat (((((((0 + 1) + 1) + 1) + 1) + 1) + 1) + 1)) 45) (Int.toNat ((((((((0 + 1) + 1) + 1) + 1) + 1) + 1) + 1) + 1)) (48 + (((f_X0_dayOf nu) / 10) % 10))) (Int.toNat (((((((((0 + 1) + 1) + 1) + 1) + 1) + 1) + 1) + 1) + 1)) (48 + (((f_X0_dayOf nu) / 1) % 10))))]) hP hD [1, 2] [0] rfl rfl (by decide) (by decide) hk1 hFc hP1 hD1
  generalize H1 = H at hP hS ⊢
  have hP : va_P (dC, dI) vwCl [(h0, .inr (4, [.ref qs, .ref qr, .ref qm, .ref qw, .ref qt, .int (zi we)])), (qw, .inr (1, [.ref wc, .int (zi ((((((((((0 + 1) + 1) + 1) + 1) + 1) + 1) + 1) + 1) + 1) + 1))])), (wc, aI cI 20 (zup (zup (zup (zup (zup (zup (zup (zup (zup (zup wf (Int.toNat 0) (48 + (((f_X0_yearOf nu) / 1000) % 10))) (Int.toNat (0 + 1)) (48 + (((f_X0_yearOf nu) / 100) % 10))) (Int.toNat ((0 + 1) + 1)) (48 + (((f_X0_yearOf nu) / 10) % 10))) (Int.toNat (((0 + 1) + 1) + 1)) (48 + (((f_X0_yearOf nu) / 1) % 10))) (Int.toNat ((((0 + 1) + 1) + 1) + 1)) 45) (Int.toNat (((((0 + 1) + 1) + 1) + 1) + 1)) (48 + (((f_X0_monthOf nu) / 10) % 10))) (Int.toNat ((((((0 + 1) + 1) + 1) + 1) + 1) + 1)) (48 + (((f_X0_monthOf nu) / 1) % 10))) (Int.toNat (((((((0 + 1) + 1) + 1) + 1) + 1) + 1) + 1)) 45) (Int.toNat ((((((((0 + 1) + 1) + 1) + 1) + 1) + 1) + 1) + 1)) (48 + (((f_X0_dayOf nu) / 10) % 10))) (Int.toNat (((((((((0 + 1) + 1) + 1) + 1) + 1) + 1) + 1) + 1) + 1)) (48 + (((f_X0_dayOf nu) / 1) % 10))))] H := hP
  have hD : va_D A [(h0, .inr (4, [.ref qs, .ref qr, .ref qm, .ref qw, .ref qt, .int (zi we)])), (qw, .inr (1, [.ref wc, .int (zi ((((((((((0 + 1) + 1) + 1) + 1) + 1) + 1) + 1) + 1) + 1) + 1))])), (wc, aI cI 20 (zup (zup (zup (zup (zup (zup (zup (zup (zup (zup wf (Int.toNat 0) (48 + (((f_X0_yearOf nu) / 1000) % 10))) (Int.toNat (0 + 1)) (48 + (((f_X0_yearOf nu) / 100) % 10))) (Int.toNat ((0 + 1) + 1)) (48 + (((f_X0_yearOf nu) / 10) % 10))) (Int.toNat (((0 + 1) + 1) + 1)) (48 + (((f_X0_yearOf nu) / 1) % 10))) (Int.toNat ((((0 + 1) + 1) + 1) + 1)) 45) (Int.toNat (((((0 + 1) + 1) + 1) + 1) + 1)) (48 + (((f_X0_monthOf nu) / 10) % 10))) (Int.toNat ((((((0 + 1) + 1) + 1) + 1) + 1) + 1)) (48 + (((f_X0_monthOf nu) / 1) % 10))) (Int.toNat (((((((0 + 1) + 1) + 1) + 1) + 1) + 1) + 1)) 45) (Int.toNat ((((((((0 + 1) + 1) + 1) + 1) + 1) + 1) + 1) + 1)) (48 + (((f_X0_dayOf nu) / 10) % 10))) (Int.toNat (((((((((0 + 1) + 1) + 1) + 1) + 1) + 1) + 1) + 1) + 1)) (48 + (((f_X0_dayOf nu) / 1) % 10))))] := hD
  have hP9 := hP.sub (ws' := [(h0, .inr (4, [.ref qs, .ref qr, .ref qm, .ref qw, .ref qt, .int (zi we)])), (qw, .inr (1, [.ref wc, .int (zi ((((((((((0 + 1) + 1) + 1) + 1) + 1) + 1) + 1) + 1) + 1) + 1))])), (wc, aI cI 20 (zup (zup (zup (zup (zup (zup (zup (zup (zup (zup wf (Int.toNat 0) (48 + (((f_X0_yearOf nu) / 1000) % 10))) (Int.toNat (0 + 1)) (48 + (((f_X0_yearOf nu) / 100) % 10))) (Int.toNat ((0 + 1) + 1)) (48 + (((f_X0_yearOf nu) / 10) % 10))) (Int.toNat (((0 + 1) + 1) + 1)) (48 + (((f_X0_yearOf nu) / 1) % 10))) (Int.toNat ((((0 + 1) + 1) + 1) + 1)) 45) (Int.toNat (((((0 + 1) + 1) + 1) + 1) + 1)) (48 + (((f_X0_monthOf nu) / 10) % 10))) (Int.toNat ((((((0 + 1) + 1) + 1) + 1) + 1) + 1)) (48 + (((f_X0_monthOf nu) / 1) % 10))) (Int.toNat (((((((0 + 1) + 1) + 1) + 1) + 1) + 1) + 1)) 45) (Int.toNat ((((((((0 + 1) + 1) + 1) + 1) + 1) + 1) + 1) + 1)) (48 + (((f_X0_dayOf nu) / 10) % 10))) (Int.toNat (((((((((0 + 1) + 1) + 1) + 1) + 1) + 1) + 1) + 1) + 1)) (48 + (((f_X0_dayOf nu) / 1) % 10))))]) [0, 1, 2] rfl
  have hD9 := hD.sub (ws' := [(h0, .inr (4, [.ref qs, .ref qr, .ref qm, .ref qw, .ref qt, .int (zi we)])), (qw, .inr (1, [.ref wc, .int (zi ((((((((((0 + 1) + 1) + 1) + 1) + 1) + 1) + 1) + 1) + 1) + 1))])), (wc, aI cI 20 (zup (zup (zup (zup (zup (zup (zup (zup (zup (zup wf (Int.toNat 0) (48 + (((f_X0_yearOf nu) / 1000) % 10))) (Int.toNat (0 + 1)) (48 + (((f_X0_yearOf nu) / 100) % 10))) (Int.toNat ((0 + 1) + 1)) (48 + (((f_X0_yearOf nu) / 10) % 10))) (Int.toNat (((0 + 1) + 1) + 1)) (48 + (((f_X0_yearOf nu) / 1) % 10))) (Int.toNat ((((0 + 1) + 1) + 1) + 1)) 45) (Int.toNat (((((0 + 1) + 1) + 1) + 1) + 1)) (48 + (((f_X0_monthOf nu) / 10) % 10))) (Int.toNat ((((((0 + 1) + 1) + 1) + 1) + 1) + 1)) (48 + (((f_X0_monthOf nu) / 1) % 10))) (Int.toNat (((((((0 + 1) + 1) + 1) + 1) + 1) + 1) + 1)) 45) (Int.toNat ((((((((0 + 1) + 1) + 1) + 1) + 1) + 1) + 1) + 1)) (48 + (((f_X0_dayOf nu) / 10) % 10))) (Int.toNat (((((((((0 + 1) + 1) + 1) + 1) + 1) + 1) + 1) + 1) + 1)) (48 + (((f_X0_dayOf nu) / 1) % 10))))]) [0, 1, 2] (by decide) rfl
  exact W.vret hx hb hr (fun t ht hW => ⟨⟨(), rfl, trivial, by rw [ht]; exact hP9, va_K.moved hW.alike hK, hD9⟩, hS.F ht⟩) hS.2.2 dX4_putCivil_58

set_option maxHeartbeats 4000000 in
set_option maxRecDepth 100000 in
theorem c_X4_putWeek (l : Launch)  (dC : Nat → ClassId) (dI : Nat → Nat → Nat) (cI : ClassId) (h0 : Nat) (qs : Nat) (qr : Nat) (qm : Nat) (qw : Nat) (qt : Nat) (we : Int) (wc : Nat) (wf : Nat → Int) (nu : Int) (sz : Nat) (hp0 : 0 ≤ nu ∧ nu ≤ 3652058) : Met l yX4_putWeek wsX4_putWeek ({ frames := 4, cells := 0, slots := 0, locals := 86 }) (zPw (dC, dI) [(cI, .int)] sz [.ref h0, .int (zi nu)] [(h0, .inr (4, [.ref qs, .ref qr, .ref qm, .ref qw, .ref qt, .int (zi we)])), (qw, .inr (1, [.ref wc, .int (zi 0)])), (wc, aI cI 20 wf)]) (va_Qv (fun (_ : Unit) => True) (zB (dC, dI) [(cI, .int)] (va_A [(h0, .inr (4, [.ref qs, .ref qr, .ref qm, .ref qw, .ref qt, .int (zi we)])), (qw, .inr (1, [.ref wc, .int (zi 0)])), (wc, aI cI 20 wf)] sz) [(h0, .inr (4, [.ref qs, .ref qr, .ref qm, .ref qw, .ref qt, .int (zi we)])), (qw, .inr (1, [.ref wc, .int (zi ((((((((((0 + 1) + 1) + 1) + 1) + 1) + 1) + 1) + 1) + 1) + 1))])), (wc, aI cI 20 (zup (zup (zup (zup (zup (zup (zup (zup (zup (zup wf (Int.toNat 0) (48 + (((f_X0_weekYearOf nu) / 1000) % 10))) (Int.toNat (0 + 1)) (48 + (((f_X0_weekYearOf nu) / 100) % 10))) (Int.toNat ((0 + 1) + 1)) (48 + (((f_X0_weekYearOf nu) / 10) % 10))) (Int.toNat (((0 + 1) + 1) + 1)) (48 + (((f_X0_weekYearOf nu) / 1) % 10))) (Int.toNat ((((0 + 1) + 1) + 1) + 1)) 45) (Int.toNat (((((0 + 1) + 1) + 1) + 1) + 1)) 87) (Int.toNat ((((((0 + 1) + 1) + 1) + 1) + 1) + 1)) (48 + (((f_X0_weekOf nu) / 10) % 10))) (Int.toNat (((((((0 + 1) + 1) + 1) + 1) + 1) + 1) + 1)) (48 + (((f_X0_weekOf nu) / 1) % 10))) (Int.toNat ((((((((0 + 1) + 1) + 1) + 1) + 1) + 1) + 1) + 1)) 45) (Int.toNat (((((((((0 + 1) + 1) + 1) + 1) + 1) + 1) + 1) + 1) + 1)) (48 + (((f_X0_weekdayOf nu) / 1) % 10))))]) (va_A [(h0, .inr (4, [.ref qs, .ref qr, .ref qm, .ref qw, .ref qt, .int (zi we)])), (qw, .inr (1, [.ref wc, .int (zi 0)])), (wc, aI cI 20 wf)] sz)) 0 0 (va_A [(h0, .inr (4, [.ref qs, .ref qr, .ref qm, .ref qw, .ref qt, .int (zi we)])), (qw, .inr (1, [.ref wc, .int (zi 0)])), (wc, aI cI 20 wf)] sz) := by
  refine Met.ofW (cc := cX4_putWeek) (maxL := 2) (ret := none) (by decide) rfl ?_
  intro p e s m args below meth c s₁ B hml hv
  obtain ⟨rfl, hsz, hP, hK, hD0⟩ := hv
  have hx := B.exec
  have hb := B.bytes
  have hr := B.returns
  have hts := atoms_spec (ws := wsX4_putWeek) B.pre
  have hown : s.vm.findClass RX4 = some m.cls := findClass_of_methodNamed B.named
  have hlocks := B.notSynchronized
  subst hsz
  have hD := hD0.self (sz := s.heap.size)
  generalize hAe : va_A [(h0, .inr (4, [.ref qs, .ref qr, .ref qm, .ref qw, .ref qt, .int (zi we)])), (qw, .inr (1, [.ref wc, .int (zi 0)])), (wc, aI cI 20 wf)] s.heap.size = A at hD ⊢
  have hA : ∀ q : Nat, s.heap.size ≤ q → A q := fun q h => by rw [← hAe]; exact Or.inr h
  have hS : va_S A s.heap s.heap [] := va_S.rf
  have hP : va_P (dC, dI) vwCl [(h0, .inr (4, [.ref qs, .ref qr, .ref qm, .ref qw, .ref qt, .int (zi we)])), (qw, .inr (1, [.ref wc, .int (zi 0)])), (wc, aI cI 20 wf)] s.heap := hP
  have hl := lv_entry ([.ref h0, .int (zi nu)]) (n := 2) (Nat.le_of_ble_eq_true rfl)
  rw [lg_entry_eq]
  generalize (lg_sl ([.ref h0, .int (zi nu)]) ++ List.replicate (2 - (lg_sl ([.ref h0, .int (zi nu)])).length) Slot.unset).toArray = ls at hl ⊢
  have hl : lv_has ls 2 [(0, .ref h0), (1, .int (zi nu))] := hl
  refine lv_aload_n hx hb dX4_putWeek_0 rfl (lv_at hl 0 rfl) ?_
  refine va_get (D := (dC, dI)) (ci := 4) (v := .ref qw) (C := RX4) (T := TX4) (N := 6) hx hb hts (by decide +kernel) hown hK hP 0 rfl rfl 3 (by decide) (hts (.fieldLink RX4 30 "CivilDays" "written" "LCivilDays$Line;") (by decide +kernel)) (fun _ h9 => h9) rfl dX4_putWeek_1 ?_
  refine lv_iload_n hx hb dX4_putWeek_4 rfl (lv_at hl 1 rfl) ?_
  have hh1 := c_X0_weekYearOf l nu (by omega)
  refine vp_callSi (va_Run.run (va_runS (As := [.int (zi nu)]) (rest := [.ref qw]) ⟨hx, hb, hml, hown, hts⟩ hh1 (va_cwS 1 hts gX4_putWeek_X0_weekYearOf rfl rfl rfl (by decide +kernel) ⟨Nat.le_of_ble_eq_true rfl, Nat.le_of_ble_eq_true rfl⟩) ⟨fun a U g mk q => q, fun U hU hW => ⟨rfl, trivial⟩⟩ rfl rfl hl.1 rfl (lv_room (Nat.le_of_ble_eq_true rfl)) dX4_putWeek_5 ⟨Nat.zero_le _, Nat.zero_le _⟩)) (fun r1 (hr1 : r1 = zi (f_X0_weekYearOf nu)) => ?_)
  subst hr1
  have hf1 := b_X0_weekYearOf nu (by omega)
  refine zw_sipush hx hb dX4_putWeek_8 (by decide) ?_
  have hh2 := c_X1_addDigits_1000 l dC dI cI qw wc 0 wf (f_X0_weekYearOf nu) s.heap.size (by omega) (by omega)
  have hPc := hP.sub (ws' := [(qw, .inr (1, [.ref wc, .int (zi 0)])), (wc, aI cI 20 wf)]) [1, 2] rfl
  have hKc : va_K (dC, dI) vwCl [(cI, .int)] s := hK
  have hDc := hD.sub (ws' := [(qw, .inr (1, [.ref wc, .int (zi 0)])), (wc, aI cI 20 wf)]) [1, 2] (by decide) rfl
  have hFc := va_free (wc := [(qw, .inr (1, [.ref wc, .int (zi 0)])), (wc, aI cI 20 wf)]) hD hS hA [1, 2] rfl
  refine va_callv (va_runV (As := [.int (zi (f_X0_weekYearOf nu)), .int (zi 1000)]) (rest := []) ⟨hx, hb, hml, hown, hts⟩ hh2 (cwV 2 hts gX4_putWeek_X1_addDigits rfl rfl rfl (by decide +kernel) ⟨Nat.le_of_ble_eq_true rfl, Nat.le_of_ble_eq_true rfl⟩) ⟨zPw.blind _ _ _ _ _, va_recv hKc hPc (ci := 1) (q0 := 0) rfl rfl, fun U hU hW => ⟨rfl, by rw [hU], by rw [hU]; exact hPc, va_K.moved hW.alike hKc, hDc.weaken (fun _ _ _ _ => trivial)⟩⟩ rfl rfl hl.1 rfl (lv_room (Nat.le_of_ble_eq_true rfl)) dX4_putWeek_11 ⟨Nat.le_of_ble_eq_true rfl, Nat.le_of_ble_eq_true rfl⟩) hS (fun q _ h => hFc q h) hFc (fun u t H1 locs ht hvm hw hB hz1 hk1 hS => ?_)
  obtain ⟨hP1, hK1, hD1⟩ := hB
  rw [ht] at hP1
  obtain ⟨hP, hD⟩ := va_join (wr := [(h0, .inr (4, [.ref qs, .ref qr, .ref qm, .ref qw, .ref qt, .int (zi we)]))]) (w1 := [(qw, .inr (1, [.ref wc, .int (zi ((((0 + 1) + 1) + 1) + 1))])), (wc, aI cI 20 (zup (zup (zup (zup wf (Int.toNat 0) (48 + (((f_X0_weekYearOf nu) / 1000) % 10))) (Int.toNat (0 + 1)) (48 + (((f_X0_weekYearOf nu) / 100) % 10))) (Int.toNat ((0 + 1) + 1)) (48 + (((f_X0_weekYearOf nu) / 10) % 10))) (Int.toNat (((0 + 1) + 1) + 1)) (48 + (((f_X0_weekYearOf nu) / 1) % 10))))]) hP hD [1, 2] [0] rfl rfl (by decide) (by decide) hk1 hFc hP1 hD1
  generalize H1 = H at hP hS ⊢
  have hP : va_P (dC, dI) vwCl [(h0, .inr (4, [.ref qs, .ref qr, .ref qm, .ref qw, .ref qt, .int (zi we)])), (qw, .inr (1, [.ref wc, .int (zi ((((0 + 1) + 1) + 1) + 1))])), (wc, aI cI 20 (zup (zup (zup (zup wf (Int.toNat 0) (48 + (((f_X0_weekYearOf nu) / 1000) % 10))) (Int.toNat (0 + 1)) (48 + (((f_X0_weekYearOf nu) / 100) % 10))) (Int.toNat ((0 + 1) + 1)) (48 + (((f_X0_weekYearOf nu) / 10) % 10))) (Int.toNat (((0 + 1) + 1) + 1)) (48 + (((f_X0_weekYearOf nu) / 1) % 10))))] H := hP
  have hD : va_D A [(h0, .inr (4, [.ref qs, .ref qr, .ref qm, .ref qw, .ref qt, .int (zi we)])), (qw, .inr (1, [.ref wc, .int (zi ((((0 + 1) + 1) + 1) + 1))])), (wc, aI cI 20 (zup (zup (zup (zup wf (Int.toNat 0) (48 + (((f_X0_weekYearOf nu) / 1000) % 10))) (Int.toNat (0 + 1)) (48 + (((f_X0_weekYearOf nu) / 100) % 10))) (Int.toNat ((0 + 1) + 1)) (48 + (((f_X0_weekYearOf nu) / 10) % 10))) (Int.toNat (((0 + 1) + 1) + 1)) (48 + (((f_X0_weekYearOf nu) / 1) % 10))))] := hD
  refine lv_aload_n hx hb dX4_putWeek_14 rfl (lv_at hl 0 rfl) ?_
  refine va_get (D := (dC, dI)) (ci := 4) (v := .ref qw) (C := RX4) (T := TX4) (N := 6) hx hb hts (by decide +kernel) hown hK hP 0 rfl rfl 3 (by decide) (hts (.fieldLink RX4 30 "CivilDays" "written" "LCivilDays$Line;") (by decide +kernel)) (fun _ h9 => h9) rfl dX4_putWeek_15 ?_
  refine zw_bipush hx hb dX4_putWeek_18 (by decide) ?_
  have hh3 := c_X1_add l dC dI cI qw wc ((((0 + 1) + 1) + 1) + 1) (zup (zup (zup (zup wf (Int.toNat 0) (48 + (((f_X0_weekYearOf nu) / 1000) % 10))) (Int.toNat (0 + 1)) (48 + (((f_X0_weekYearOf nu) / 100) % 10))) (Int.toNat ((0 + 1) + 1)) (48 + (((f_X0_weekYearOf nu) / 10) % 10))) (Int.toNat (((0 + 1) + 1) + 1)) (48 + (((f_X0_weekYearOf nu) / 1) % 10))) 45 H.size (by omega)
  have hPc := hP.sub (ws' := [(qw, .inr (1, [.ref wc, .int (zi ((((0 + 1) + 1) + 1) + 1))])), (wc, aI cI 20 (zup (zup (zup (zup wf (Int.toNat 0) (48 + (((f_X0_weekYearOf nu) / 1000) % 10))) (Int.toNat (0 + 1)) (48 + (((f_X0_weekYearOf nu) / 100) % 10))) (Int.toNat ((0 + 1) + 1)) (48 + (((f_X0_weekYearOf nu) / 10) % 10))) (Int.toNat (((0 + 1) + 1) + 1)) (48 + (((f_X0_weekYearOf nu) / 1) % 10))))]) [1, 2] rfl
  have hKc : va_K (dC, dI) vwCl [(cI, .int)] s := hK
  have hDc := hD.sub (ws' := [(qw, .inr (1, [.ref wc, .int (zi ((((0 + 1) + 1) + 1) + 1))])), (wc, aI cI 20 (zup (zup (zup (zup wf (Int.toNat 0) (48 + (((f_X0_weekYearOf nu) / 1000) % 10))) (Int.toNat (0 + 1)) (48 + (((f_X0_weekYearOf nu) / 100) % 10))) (Int.toNat ((0 + 1) + 1)) (48 + (((f_X0_weekYearOf nu) / 10) % 10))) (Int.toNat (((0 + 1) + 1) + 1)) (48 + (((f_X0_weekYearOf nu) / 1) % 10))))]) [1, 2] (by decide) rfl
  have hFc := va_free (wc := [(qw, .inr (1, [.ref wc, .int (zi ((((0 + 1) + 1) + 1) + 1))])), (wc, aI cI 20 (zup (zup (zup (zup wf (Int.toNat 0) (48 + (((f_X0_weekYearOf nu) / 1000) % 10))) (Int.toNat (0 + 1)) (48 + (((f_X0_weekYearOf nu) / 100) % 10))) (Int.toNat ((0 + 1) + 1)) (48 + (((f_X0_weekYearOf nu) / 10) % 10))) (Int.toNat (((0 + 1) + 1) + 1)) (48 + (((f_X0_weekYearOf nu) / 1) % 10))))]) hD hS hA [1, 2] rfl
  refine va_callv (va_runV (As := [.int (zi 45)]) (rest := []) ⟨hx, hb, hml, hown, hts⟩ hh3 (cwV 1 hts gX4_putWeek_X1_add rfl rfl rfl (by decide +kernel) ⟨Nat.le_of_ble_eq_true rfl, Nat.le_of_ble_eq_true rfl⟩) ⟨zPw.blind _ _ _ _ _, va_recv hKc hPc (ci := 1) (q0 := 0) rfl rfl, fun U hU hW => ⟨rfl, by rw [hU], by rw [hU]; exact hPc, va_K.moved hW.alike hKc, hDc.weaken (fun _ _ _ _ => trivial)⟩⟩ rfl rfl hl.1 rfl (lv_room (Nat.le_of_ble_eq_true rfl)) dX4_putWeek_20 ⟨Nat.le_of_ble_eq_true rfl, Nat.le_of_ble_eq_true rfl⟩) hS (fun q _ h => hFc q h) hFc (fun u t H1 locs ht hvm hw hB hz1 hk1 hS => ?_)
  obtain ⟨hP1, hK1, hD1⟩ := hB
  rw [ht] at hP1
  obtain ⟨hP, hD⟩ := va_join (wr := [(h0, .inr (4, [.ref qs, .ref qr, .ref qm, .ref qw, .ref qt, .int (zi we)]))]) (w1 := [(qw, .inr (1, [.ref wc, .int (zi (((((0 + 1) + 1) + 1) + 1) + 1))])), (wc, aI cI 20 (zup (zup (zup (zup (zup wf (Int.toNat 0) (48 + (((f_X0_weekYearOf nu) / 1000) % 10))) (Int.toNat (0 + 1)) (48 + (((f_X0_weekYearOf nu) / 100) % 10))) (Int.toNat ((0 + 1) + 1)) (48 + (((f_X0_weekYearOf nu) / 10) % 10))) (Int.toNat (((0 + 1) + 1) + 1)) (48 + (((f_X0_weekYearOf nu) / 1) % 10))) (Int.toNat ((((0 + 1) + 1) + 1) + 1)) 45))]) hP hD [1, 2] [0] rfl rfl (by decide) (by decide) hk1 hFc hP1 hD1
  generalize H1 = H at hP hS ⊢
  have hP : va_P (dC, dI) vwCl [(h0, .inr (4, [.ref qs, .ref qr, .ref qm, .ref qw, .ref qt, .int (zi we)])), (qw, .inr (1, [.ref wc, .int (zi (((((0 + 1) + 1) + 1) + 1) + 1))])), (wc, aI cI 20 (zup (zup (zup (zup (zup wf (Int.toNat 0) (48 + (((f_X0_weekYearOf nu) / 1000) % 10))) (Int.toNat (0 + 1)) (48 + (((f_X0_weekYearOf nu) / 100) % 10))) (Int.toNat ((0 + 1) + 1)) (48 + (((f_X0_weekYearOf nu) / 10) % 10))) (Int.toNat (((0 + 1) + 1) + 1)) (48 + (((f_X0_weekYearOf nu) / 1) % 10))) (Int.toNat ((((0 + 1) + 1) + 1) + 1)) 45))] H := hP
  have hD : va_D A [(h0, .inr (4, [.ref qs, .ref qr, .ref qm, .ref qw, .ref qt, .int (zi we)])), (qw, .inr (1, [.ref wc, .int (zi (((((0 + 1) + 1) + 1) + 1) + 1))])), (wc, aI cI 20 (zup (zup (zup (zup (zup wf (Int.toNat 0) (48 + (((f_X0_weekYearOf nu) / 1000) % 10))) (Int.toNat (0 + 1)) (48 + (((f_X0_weekYearOf nu) / 100) % 10))) (Int.toNat ((0 + 1) + 1)) (48 + (((f_X0_weekYearOf nu) / 10) % 10))) (Int.toNat (((0 + 1) + 1) + 1)) (48 + (((f_X0_weekYearOf nu) / 1) % 10))) (Int.toNat ((((0 + 1) + 1) + 1) + 1)) 45))] := hD
  refine lv_aload_n hx hb dX4_putWeek_23 rfl (lv_at hl 0 rfl) ?_
  refine va_get (D := (dC, dI)) (ci := 4) (v := .ref qw) (C := RX4) (T := TX4) (N := 6) hx hb hts (by decide +kernel) hown hK hP 0 rfl rfl 3 (by decide) (hts (.fieldLink RX4 30 "CivilDays" "written" "LCivilDays$Line;") (by decide +kernel)) (fun _ h9 => h9) rfl dX4_putWeek_24 ?_
  refine zw_bipush hx hb dX4_putWeek_27 (by decide) ?_
  have hh4 := c_X1_add l dC dI cI qw wc (((((0 + 1) + 1) + 1) + 1) + 1) (zup (zup (zup (zup (zup wf (Int.toNat 0) (48 + (((f_X0_weekYearOf nu) / 1000) % 10))) (Int.toNat (0 + 1)) (48 + (((f_X0_weekYearOf nu) / 100) % 10))) (Int.toNat ((0 + 1) + 1)) (48 + (((f_X0_weekYearOf nu) / 10) % 10))) (Int.toNat (((0 + 1) + 1) + 1)) (48 + (((f_X0_weekYearOf nu) / 1) % 10))) (Int.toNat ((((0 + 1) + 1) + 1) + 1)) 45) 87 H.size (by omega)
  have hPc := hP.sub (ws' := [(qw, .inr (1, [.ref wc, .int (zi (((((0 + 1) + 1) + 1) + 1) + 1))])), (wc, aI cI 20 (zup (zup (zup (zup (zup wf (Int.toNat 0) (48 + (((f_X0_weekYearOf nu) / 1000) % 10))) (Int.toNat (0 + 1)) (48 + (((f_X0_weekYearOf nu) / 100) % 10))) (Int.toNat ((0 + 1) + 1)) (48 + (((f_X0_weekYearOf nu) / 10) % 10))) (Int.toNat (((0 + 1) + 1) + 1)) (48 + (((f_X0_weekYearOf nu) / 1) % 10))) (Int.toNat ((((0 + 1) + 1) + 1) + 1)) 45))]) [1, 2] rfl
  have hKc : va_K (dC, dI) vwCl [(cI, .int)] s := hK
  have hDc := hD.sub (ws' := [(qw, .inr (1, [.ref wc, .int (zi (((((0 + 1) + 1) + 1) + 1) + 1))])), (wc, aI cI 20 (zup (zup (zup (zup (zup wf (Int.toNat 0) (48 + (((f_X0_weekYearOf nu) / 1000) % 10))) (Int.toNat (0 + 1)) (48 + (((f_X0_weekYearOf nu) / 100) % 10))) (Int.toNat ((0 + 1) + 1)) (48 + (((f_X0_weekYearOf nu) / 10) % 10))) (Int.toNat (((0 + 1) + 1) + 1)) (48 + (((f_X0_weekYearOf nu) / 1) % 10))) (Int.toNat ((((0 + 1) + 1) + 1) + 1)) 45))]) [1, 2] (by decide) rfl
  have hFc := va_free (wc := [(qw, .inr (1, [.ref wc, .int (zi (((((0 + 1) + 1) + 1) + 1) + 1))])), (wc, aI cI 20 (zup (zup (zup (zup (zup wf (Int.toNat 0) (48 + (((f_X0_weekYearOf nu) / 1000) % 10))) (Int.toNat (0 + 1)) (48 + (((f_X0_weekYearOf nu) / 100) % 10))) (Int.toNat ((0 + 1) + 1)) (48 + (((f_X0_weekYearOf nu) / 10) % 10))) (Int.toNat (((0 + 1) + 1) + 1)) (48 + (((f_X0_weekYearOf nu) / 1) % 10))) (Int.toNat ((((0 + 1) + 1) + 1) + 1)) 45))]) hD hS hA [1, 2] rfl
  refine va_callv (va_runV (As := [.int (zi 87)]) (rest := []) ⟨hx, hb, hml, hown, hts⟩ hh4 (cwV 1 hts gX4_putWeek_X1_add rfl rfl rfl (by decide +kernel) ⟨Nat.le_of_ble_eq_true rfl, Nat.le_of_ble_eq_true rfl⟩) ⟨zPw.blind _ _ _ _ _, va_recv hKc hPc (ci := 1) (q0 := 0) rfl rfl, fun U hU hW => ⟨rfl, by rw [hU], by rw [hU]; exact hPc, va_K.moved hW.alike hKc, hDc.weaken (fun _ _ _ _ => trivial)⟩⟩ rfl rfl hl.1 rfl (lv_room (Nat.le_of_ble_eq_true rfl)) dX4_putWeek_29 ⟨Nat.le_of_ble_eq_true rfl, Nat.le_of_ble_eq_true rfl⟩) hS (fun q _ h => hFc q h) hFc (fun u t H1 locs ht hvm hw hB hz1 hk1 hS => ?_)
  obtain ⟨hP1, hK1, hD1⟩ := hB
  rw [ht] at hP1
  obtain ⟨hP, hD⟩ := va_join (wr := [(h0, .inr (4, [.ref qs, .ref qr, .ref qm, .ref qw, .ref qt, .int (zi we)]))]) (w1 := [(qw, .inr (1, [.ref wc, .int (zi ((((((0 + 1) + 1) + 1) + 1) + 1) + 1))])), (wc, aI cI 20 (zup (zup (zup (zup (zup (zup wf (Int.toNat 0) (48 + (((f_X0_weekYearOf nu) / 1000) % 10))) (Int.toNat (0 + 1)) (48 + (((f_X0_weekYearOf nu) / 100) % 10))) (Int.toNat ((0 + 1) + 1)) (48 + (((f_X0_weekYearOf nu) / 10) % 10))) (Int.toNat (((0 + 1) + 1) + 1)) (48 + (((f_X0_weekYearOf nu) / 1) % 10))) (Int.toNat ((((0 + 1) + 1) + 1) + 1)) 45) (Int.toNat (((((0 + 1) + 1) + 1) + 1) + 1)) 87))]) hP hD [1, 2] [0] rfl rfl (by decide) (by decide) hk1 hFc hP1 hD1
  generalize H1 = H at hP hS ⊢
  have hP : va_P (dC, dI) vwCl [(h0, .inr (4, [.ref qs, .ref qr, .ref qm, .ref qw, .ref qt, .int (zi we)])), (qw, .inr (1, [.ref wc, .int (zi ((((((0 + 1) + 1) + 1) + 1) + 1) + 1))])), (wc, aI cI 20 (zup (zup (zup (zup (zup (zup wf (Int.toNat 0) (48 + (((f_X0_weekYearOf nu) / 1000) % 10))) (Int.toNat (0 + 1)) (48 + (((f_X0_weekYearOf nu) / 100) % 10))) (Int.toNat ((0 + 1) + 1)) (48 + (((f_X0_weekYearOf nu) / 10) % 10))) (Int.toNat (((0 + 1) + 1) + 1)) (48 + (((f_X0_weekYearOf nu) / 1) % 10))) (Int.toNat ((((0 + 1) + 1) + 1) + 1)) 45) (Int.toNat (((((0 + 1) + 1) + 1) + 1) + 1)) 87))] H := hP
  have hD : va_D A [(h0, .inr (4, [.ref qs, .ref qr, .ref qm, .ref qw, .ref qt, .int (zi we)])), (qw, .inr (1, [.ref wc, .int (zi ((((((0 + 1) + 1) + 1) + 1) + 1) + 1))])), (wc, aI cI 20 (zup (zup (zup (zup (zup (zup wf (Int.toNat 0) (48 + (((f_X0_weekYearOf nu) / 1000) % 10))) (Int.toNat (0 + 1)) (48 + (((f_X0_weekYearOf nu) / 100) % 10))) (Int.toNat ((0 + 1) + 1)) (48 + (((f_X0_weekYearOf nu) / 10) % 10))) (Int.toNat (((0 + 1) + 1) + 1)) (48 + (((f_X0_weekYearOf nu) / 1) % 10))) (Int.toNat ((((0 + 1) + 1) + 1) + 1)) 45) (Int.toNat (((((0 + 1) + 1) + 1) + 1) + 1)) 87))] := hD
  refine lv_aload_n hx hb dX4_putWeek_32 rfl (lv_at hl 0 rfl) ?_
  refine va_get (D := (dC, dI)) (ci := 4) (v := .ref qw) (C := RX4) (T := TX4) (N := 6) hx hb hts (by decide +kernel) hown hK hP 0 rfl rfl 3 (by decide) (hts (.fieldLink RX4 30 "CivilDays" "written" "LCivilDays$Line;") (by decide +kernel)) (fun _ h9 => h9) rfl dX4_putWeek_33 ?_
  refine lv_iload_n hx hb dX4_putWeek_36 rfl (lv_at hl 1 rfl) ?_
  have hh5 := c_X0_weekOf l nu (by omega)
  refine vp_callSi (va_Run.run (va_runS (As := [.int (zi nu)]) (rest := [.ref qw]) ⟨hx, hb, hml, hown, hts⟩ hh5 (va_cwS 1 hts gX4_putWeek_X0_weekOf rfl rfl rfl (by decide +kernel) ⟨Nat.le_of_ble_eq_true rfl, Nat.le_of_ble_eq_true rfl⟩) ⟨fun a U g mk q => q, fun U hU hW => ⟨rfl, trivial⟩⟩ rfl rfl hl.1 rfl (lv_room (Nat.le_of_ble_eq_true rfl)) dX4_putWeek_37 ⟨Nat.zero_le _, Nat.zero_le _⟩)) (fun r5 (hr5 : r5 = zi (f_X0_weekOf nu)) => ?_)
  subst hr5
  have hf5 := b_X0_weekOf nu (by omega)
  refine zw_bipush hx hb dX4_putWeek_40 (by decide) ?_
  have hh6 := c_X1_addDigits_10 l dC dI cI qw wc ((((((0 + 1) + 1) + 1) + 1) + 1) + 1) (zup (zup (zup (zup (zup (zup wf (Int.toNat 0) (48 + (((f_X0_weekYearOf nu) / 1000) % 10))) (Int.toNat (0 + 1)) (48 + (((f_X0_weekYearOf nu) / 100) % 10))) (Int.toNat ((0 + 1) + 1)) (48 + (((f_X0_weekYearOf nu) / 10) % 10))) (Int.toNat (((0 + 1) + 1) + 1)) (48 + (((f_X0_weekYearOf nu) / 1) % 10))) (Int.toNat ((((0 + 1) + 1) + 1) + 1)) 45) (Int.toNat (((((0 + 1) + 1) + 1) + 1) + 1)) 87) (f_X0_weekOf nu) H.size (by omega) (by omega)
  have hPc := hP.sub (ws' := [(qw, .inr (1, [.ref wc, .int (zi ((((((0 + 1) + 1) + 1) + 1) + 1) + 1))])), (wc, aI cI 20 (zup (zup (zup (zup (zup (zup wf (Int.toNat 0) (48 + (((f_X0_weekYearOf nu) / 1000) % 10))) (Int.toNat (0 + 1)) (48 + (((f_X0_weekYearOf nu) / 100) % 10))) (Int.toNat ((0 + 1) + 1)) (48 + (((f_X0_weekYearOf nu) / 10) % 10))) (Int.toNat (((0 + 1) + 1) + 1)) (48 + (((f_X0_weekYearOf nu) / 1) % 10))) (Int.toNat ((((0 + 1) + 1) + 1) + 1)) 45) (Int.toNat (((((0 + 1) + 1) + 1) + 1) + 1)) 87))]) [1, 2] rfl
  have hKc : va_K (dC, dI) vwCl [(cI, .int)] s := hK
  have hDc := hD.sub (ws' := [(qw, .inr (1, [.ref wc, .int (zi ((((((0 + 1) + 1) + 1) + 1) + 1) + 1))])), (wc, aI cI 20 (zup (zup (zup (zup (zup (zup wf (Int.toNat 0) (48 + (((f_X0_weekYearOf nu) / 1000) % 10))) (Int.toNat (0 + 1)) (48 + (((f_X0_weekYearOf nu) / 100) % 10))) (Int.toNat ((0 + 1) + 1)) (48 + (((f_X0_weekYearOf nu) / 10) % 10))) (Int.toNat (((0 + 1) + 1) + 1)) (48 + (((f_X0_weekYearOf nu) / 1) % 10))) (Int.toNat ((((0 + 1) + 1) + 1) + 1)) 45) (Int.toNat (((((0 + 1) + 1) + 1) + 1) + 1)) 87))]) [1, 2] (by decide) rfl
  have hFc := va_free (wc := [(qw, .inr (1, [.ref wc, .int (zi ((((((0 + 1) + 1) + 1) + 1) + 1) + 1))])), (wc, aI cI 20 (zup (zup (zup (zup (zup (zup wf (Int.toNat 0) (48 + (((f_X0_weekYearOf nu) / 1000) % 10))) (Int.toNat (0 + 1)) (48 + (((f_X0_weekYearOf nu) / 100) % 10))) (Int.toNat ((0 + 1) + 1)) (48 + (((f_X0_weekYearOf nu) / 10) % 10))) (Int.toNat (((0 + 1) + 1) + 1)) (48 + (((f_X0_weekYearOf nu) / 1) % 10))) (Int.toNat ((((0 + 1) + 1) + 1) + 1)) 45) (Int.toNat (((((0 + 1) + 1) + 1) + 1) + 1)) 87))]) hD hS hA [1, 2] rfl
  refine va_callv (va_runV (As := [.int (zi (f_X0_weekOf nu)), .int (zi 10)]) (rest := []) ⟨hx, hb, hml, hown, hts⟩ hh6 (cwV 2 hts gX4_putWeek_X1_addDigits rfl rfl rfl (by decide +kernel) ⟨Nat.le_of_ble_eq_true rfl, Nat.le_of_ble_eq_true rfl⟩) ⟨zPw.blind _ _ _ _ _, va_recv hKc hPc (ci := 1) (q0 := 0) rfl rfl, fun U hU hW => ⟨rfl, by rw [hU], by rw [hU]; exact hPc, va_K.moved hW.alike hKc, hDc.weaken (fun _ _ _ _ => trivial)⟩⟩ rfl rfl hl.1 rfl (lv_room (Nat.le_of_ble_eq_true rfl)) dX4_putWeek_42 ⟨Nat.le_of_ble_eq_true rfl, Nat.le_of_ble_eq_true rfl⟩) hS (fun q _ h => hFc q h) hFc (fun u t H1 locs ht hvm hw hB hz1 hk1 hS => ?_)
  obtain ⟨hP1, hK1, hD1⟩ := hB
  rw [ht] at hP1
  obtain ⟨hP, hD⟩ := va_join (wr := [(h0, .inr (4, [.ref qs, .ref qr, .ref qm, .ref qw, .ref qt, .int (zi we)]))]) (w1 := [(qw, .inr (1, [.ref wc, .int (zi ((((((((0 + 1) + 1) + 1) + 1) + 1) + 1) + 1) + 1))])), (wc, aI cI 20 (zup (zup (zup (zup (zup (zup (zup (zup wf (Int.toNat 0) (48 + (((f_X0_weekYearOf nu) / 1000) % 10))) (Int.toNat (0 + 1)) (48 + (((f_X0_weekYearOf nu) / 100) % 10))) (Int.toNat ((0 + 1) + 1)) (48 + (((f_X0_weekYearOf nu) / 10) % 10))) (Int.toNat (((0 + 1) + 1) + 1)) (48 + (((f_X0_weekYearOf nu) / 1) % 10))) (Int.toNat ((((0 + 1) + 1) + 1) + 1)) 45) (Int.toNat (((((0 + 1) + 1) + 1) + 1) + 1)) 87) (Int.toNat ((((((0 + 1) + 1) + 1) + 1) + 1) + 1)) (48 + (((f_X0_weekOf nu) / 10) % 10))) (Int.toNat (((((((0 + 1) + 1) + 1) + 1) + 1) + 1) + 1)) (48 + (((f_X0_weekOf nu) / 1) % 10))))]) hP hD [1, 2] [0] rfl rfl (by decide) (by decide) hk1 hFc hP1 hD1
  generalize H1 = H at hP hS ⊢
  have hP : va_P (dC, dI) vwCl [(h0, .inr (4, [.ref qs, .ref qr, .ref qm, .ref qw, .ref qt, .int (zi we)])), (qw, .inr (1, [.ref wc, .int (zi ((((((((0 + 1) + 1) + 1) + 1) + 1) + 1) + 1) + 1))])), (wc, aI cI 20 (zup (zup (zup (zup (zup (zup (zup (zup wf (Int.toNat 0) (48 + (((f_X0_weekYearOf nu) / 1000) % 10))) (Int.toNat (0 + 1)) (48 + (((f_X0_weekYearOf nu) / 100) % 10))) (Int.toNat ((0 + 1) + 1)) (48 + (((f_X0_weekYearOf nu) / 10) % 10))) (Int.toNat (((0 + 1) + 1) + 1)) (48 + (((f_X0_weekYearOf nu) / 1) % 10))) (Int.toNat ((((0 + 1) + 1) + 1) + 1)) 45) (Int.toNat (((((0 + 1) + 1) + 1) + 1) + 1)) 87) (Int.toNat ((((((0 + 1) + 1) + 1) + 1) + 1) + 1)) (48 + (((f_X0_weekOf nu) / 10) % 10))) (Int.toNat (((((((0 + 1) + 1) + 1) + 1) + 1) + 1) + 1)) (48 + (((f_X0_weekOf nu) / 1) % 10))))] H := hP
  have hD : va_D A [(h0, .inr (4, [.ref qs, .ref qr, .ref qm, .ref qw, .ref qt, .int (zi we)])), (qw, .inr (1, [.ref wc, .int (zi ((((((((0 + 1) + 1) + 1) + 1) + 1) + 1) + 1) + 1))])), (wc, aI cI 20 (zup (zup (zup (zup (zup (zup (zup (zup wf (Int.toNat 0) (48 + (((f_X0_weekYearOf nu) / 1000) % 10))) (Int.toNat (0 + 1)) (48 + (((f_X0_weekYearOf nu) / 100) % 10))) (Int.toNat ((0 + 1) + 1)) (48 + (((f_X0_weekYearOf nu) / 10) % 10))) (Int.toNat (((0 + 1) + 1) + 1)) (48 + (((f_X0_weekYearOf nu) / 1) % 10))) (Int.toNat ((((0 + 1) + 1) + 1) + 1)) 45) (Int.toNat (((((0 + 1) + 1) + 1) + 1) + 1)) 87) (Int.toNat ((((((0 + 1) + 1) + 1) + 1) + 1) + 1)) (48 + (((f_X0_weekOf nu) / 10) % 10))) (Int.toNat (((((((0 + 1) + 1) + 1) + 1) + 1) + 1) + 1)) (48 + (((f_X0_weekOf nu) / 1) % 10))))] := hD
  refine lv_aload_n hx hb dX4_putWeek_45 rfl (lv_at hl 0 rfl) ?_
  refine va_get (D := (dC, dI)) (ci := 4) (v := .ref qw) (C := RX4) (T := TX4) (N := 6) hx hb hts (by decide +kernel) hown hK hP 0 rfl rfl 3 (by decide) (hts (.fieldLink RX4 30 "CivilDays" "written" "LCivilDays$Line;") (by decide +kernel)) (fun _ h9 => h9) rfl dX4_putWeek_46 ?_
  refine zw_bipush hx hb dX4_putWeek_49 (by decide) ?_
  have hh7 := c_X1_add l dC dI cI qw wc ((((((((0 + 1) + 1) + 1) + 1) + 1) + 1) + 1) + 1) (zup (zup (zup (zup (zup (zup (zup (zup wf (Int.toNat 0) (48 + (((f_X0_weekYearOf nu) / 1000) % 10))) (Int.toNat (0 + 1)) (48 + (((f_X0_weekYearOf nu) / 100) % 10))) (Int.toNat ((0 + 1) + 1)) (48 + (((f_X0_weekYearOf nu) / 10) % 10))) (Int.toNat (((0 + 1) + 1) + 1)) (48 + (((f_X0_weekYearOf nu) / 1) % 10))) (Int.toNat ((((0 + 1) + 1) + 1) + 1)) 45) (Int.toNat (((((0 + 1) + 1) + 1) + 1) + 1)) 87) (Int.toNat ((((((0 + 1) + 1) + 1) + 1) + 1) + 1)) (48 + (((f_X0_weekOf nu) / 10) % 10))) (Int.toNat (((((((0 + 1) + 1) + 1) + 1) + 1) + 1) + 1)) (48 + (((f_X0_weekOf nu) / 1) % 10))) 45 H.size (by omega)
  have hPc := hP.sub (ws' := [(qw, .inr (1, [.ref wc, .int (zi ((((((((0 + 1) + 1) + 1) + 1) + 1) + 1) + 1) + 1))])), (wc, aI cI 20 (zup (zup (zup (zup (zup (zup (zup (zup wf (Int.toNat 0) (48 + (((f_X0_weekYearOf nu) / 1000) % 10))) (Int.toNat (0 + 1)) (48 + (((f_X0_weekYearOf nu) / 100) % 10))) (Int.toNat ((0 + 1) + 1)) (48 + (((f_X0_weekYearOf nu) / 10) % 10))) (Int.toNat (((0 + 1) + 1) + 1)) (48 + (((f_X0_weekYearOf nu) / 1) % 10))) (Int.toNat ((((0 + 1) + 1) + 1) + 1)) 45) (Int.toNat (((((0 + 1) + 1) + 1) + 1) + 1)) 87) (Int.toNat ((((((0 + 1) + 1) + 1) + 1) + 1) + 1)) (48 + (((f_X0_weekOf nu) / 10) % 10))) (Int.toNat (((((((0 + 1) + 1) + 1) + 1) + 1) + 1) + 1)) (48 + (((f_X0_weekOf nu) / 1) % 10))))]) [1, 2] rfl
  have hKc : va_K (dC, dI) vwCl [(cI, .int)] s := hK
  have hDc := hD.sub (ws' := [(qw, .inr (1, [.ref wc, .int (zi ((((((((0 + 1) + 1) + 1) + 1) + 1) + 1) + 1) + 1))])), (wc, aI cI 20 (zup (zup (zup (zup (zup (zup (zup (zup wf (Int.toNat 0) (48 + (((f_X0_weekYearOf nu) / 1000) % 10))) (Int.toNat (0 + 1)) (48 + (((f_X0_weekYearOf nu) / 100) % 10))) (Int.toNat ((0 + 1) + 1)) (48 + (((f_X0_weekYearOf nu) / 10) % 10))) (Int.toNat (((0 + 1) + 1) + 1)) (48 + (((f_X0_weekYearOf nu) / 1) % 10))) (Int.toNat ((((0 + 1) + 1) + 1) + 1)) 45) (Int.toNat (((((0 + 1) + 1) + 1) + 1) + 1)) 87) (Int.toNat ((((((0 + 1) + 1) + 1) + 1) + 1) + 1)) (48 + (((f_X0_weekOf nu) / 10) % 10))) (Int.toNat (((((((0 + 1) + 1) + 1) + 1) + 1) + 1) + 1)) (48 + (((f_X0_weekOf nu) / 1) % 10))))]) [1, 2] (by decide) rfl
  have hFc := va_free (wc := [(qw, .inr (1, [.ref wc, .int (zi ((((((((0 + 1) + 1) + 1) + 1) + 1) + 1) + 1) + 1))])), (wc, aI cI 20 (zup (zup (zup (zup (zup (zup (zup (zup wf (Int.toNat 0) (48 + (((f_X0_weekYearOf nu) / 1000) % 10))) (Int.toNat (0 + 1)) (48 + (((f_X0_weekYearOf nu) / 100) % 10))) (Int.toNat ((0 + 1) + 1)) (48 + (((f_X0_weekYearOf nu) / 10) % 10))) (Int.toNat (((0 + 1) + 1) + 1)) (48 + (((f_X0_weekYearOf nu) / 1) % 10))) (Int.toNat ((((0 + 1) + 1) + 1) + 1)) 45) (Int.toNat (((((0 + 1) + 1) + 1) + 1) + 1)) 87) (Int.toNat ((((((0 + 1) + 1) + 1) + 1) + 1) + 1)) (48 + (((f_X0_weekOf nu) / 10) % 10))) (Int.toNat (((((((0 + 1) + 1) + 1) + 1) + 1) + 1) + 1)) (48 + (((f_X0_weekOf nu) / 1) % 10))))]) hD hS hA [1, 2] rfl
  refine va_callv (va_runV (As := [.int (zi 45)]) (rest := []) ⟨hx, hb, hml, hown, hts⟩ hh7 (cwV 1 hts gX4_putWeek_X1_add rfl rfl rfl (by decide +kernel) ⟨Nat.le_of_ble_eq_true rfl, Nat.le_of_ble_eq_true rfl⟩) ⟨zPw.blind _ _ _ _ _, va_recv hKc hPc (ci := 1) (q0 := 0) rfl rfl, fun U hU hW => ⟨rfl, by rw [hU], by rw [hU]; exact hPc, va_K.moved hW.alike hKc, hDc.weaken (fun _ _ _ _ => trivial)⟩⟩ rfl rfl hl.1 rfl (lv_room (Nat.le_of_ble_eq_true rfl)) dX4_putWeek_51 ⟨Nat.le_of_ble_eq_true rfl, Nat.le_of_ble_eq_true rfl⟩) hS (fun q _ h => hFc q h) hFc (fun u t H1 locs ht hvm hw hB hz1 hk1 hS => ?_)
  obtain ⟨hP1, hK1, hD1⟩ := hB
  rw [ht] at hP1
  obtain ⟨hP, hD⟩ := va_join (wr := [(h0, .inr (4, [.ref qs, .ref qr, .ref qm, .ref qw, .ref qt, .int (zi we)]))]) (w1 := [(qw, .inr (1, [.ref wc, .int (zi (((((((((0 + 1) + 1) + 1) + 1) + 1) + 1) + 1) + 1) + 1))])), (wc, aI cI 20 (zup (zup (zup (zup (zup (zup (zup (zup (zup wf (Int.toNat 0) (48 + (((f_X0_weekYearOf nu) / 1000) % 10))) (Int.toNat (0 + 1)) (48 + (((f_X0_weekYearOf nu) / 100) % 10))) (Int.toNat ((0 + 1) + 1)) (48 + (((f_X0_weekYearOf nu) / 10) % 10))) (Int.toNat (((0 + 1) + 1) + 1)) (48 + (((f_X0_weekYearOf nu) / 1) % 10))) (Int.toNat ((((0 + 1) + 1) + 1) + 1)) 45) (Int.toNat (((((0 + 1) + 1) + 1) + 1) + 1)) 87) (Int.toNat ((((((0 + 1) + 1) + 1) + 1) + 1) + 1)) (48 + (((f_X0_weekOf nu) / 10) % 10))) (Int.toNat (((((((0 + 1) + 1) + 1) + 1) + 1) + 1) + 1)) (48 + (((f_X0_weekOf nu) / 1) % 10))) (Int.toNat ((((((((0 + 1) + 1) + 1) + 1) + 1) + 1) + 1) + 1)) 45))]) hP hD [1, 2] [0] rfl rfl (by decide) (by decide) hk1 hFc hP1 hD1
  generalize H1 = H at hP hS ⊢
  have hP : va_P (dC, dI) vwCl [(h0, .inr (4, [.ref qs, .ref qr, .ref qm, .ref qw, .ref qt, .int (zi we)])), (qw, .inr (1, [.ref wc, .int (zi (((((((((0 + 1) + 1) + 1) + 1) + 1) + 1) + 1) + 1) + 1))])), (wc, aI cI 20 (zup (zup (zup (zup (zup (zup (zup (zup (zup wf (Int.toNat 0) (48 + (((f_X0_weekYearOf nu) / 1000) % 10))) (Int.toNat (0 + 1)) (48 + (((f_X0_weekYearOf nu) / 100) % 10))) (Int.toNat ((0 + 1) + 1)) (48 + (((f_X0_weekYearOf nu) / 10) % 10))) (Int.toNat (((0 + 1) + 1) + 1)) (48 + (((f_X0_weekYearOf nu) / 1) % 10))) (Int.toNat ((((0 + 1) + 1) + 1) + 1)) 45) (Int.toNat (((((0 + 1) + 1) + 1) + 1) + 1)) 87) (Int.toNat ((((((0 + 1) + 1) + 1) + 1) + 1) + 1)) (48 + (((f_X0_weekOf nu) / 10) % 10))) (Int.toNat (((((((0 + 1) + 1) + 1) + 1) + 1) + 1) + 1)) (48 + (((f_X0_weekOf nu) / 1) % 10))) (Int.toNat ((((((((0 + 1) + 1) + 1) + 1) + 1) + 1) + 1) + 1)) 45))] H := hP
  have hD : va_D A [(h0, .inr (4, [.ref qs, .ref qr, .ref qm, .ref qw, .ref qt, .int (zi we)])), (qw, .inr (1, [.ref wc, .int (zi (((((((((0 + 1) + 1) + 1) + 1) + 1) + 1) + 1) + 1) + 1))])), (wc, aI cI 20 (zup (zup (zup (zup (zup (zup (zup (zup (zup wf (Int.toNat 0) (48 + (((f_X0_weekYearOf nu) / 1000) % 10))) (Int.toNat (0 + 1)) (48 + (((f_X0_weekYearOf nu) / 100) % 10))) (Int.toNat ((0 + 1) + 1)) (48 + (((f_X0_weekYearOf nu) / 10) % 10))) (Int.toNat (((0 + 1) + 1) + 1)) (48 + (((f_X0_weekYearOf nu) / 1) % 10))) (Int.toNat ((((0 + 1) + 1) + 1) + 1)) 45) (Int.toNat (((((0 + 1) + 1) + 1) + 1) + 1)) 87) (Int.toNat ((((((0 + 1) + 1) + 1) + 1) + 1) + 1)) (48 + (((f_X0_weekOf nu) / 10) % 10))) (Int.toNat (((((((0 + 1) + 1) + 1) + 1) + 1) + 1) + 1)) (48 + (((f_X0_weekOf nu) / 1) % 10))) (Int.toNat ((((((((0 + 1) + 1) + 1) + 1) + 1) + 1) + 1) + 1)) 45))] := hD
  refine lv_aload_n hx hb dX4_putWeek_54 rfl (lv_at hl 0 rfl) ?_
  refine va_get (D := (dC, dI)) (ci := 4) (v := .ref qw) (C := RX4) (T := TX4) (N := 6) hx hb hts (by decide +kernel) hown hK hP 0 rfl rfl 3 (by decide) (hts (.fieldLink RX4 30 "CivilDays" "written" "LCivilDays$Line;") (by decide +kernel)) (fun _ h9 => h9) rfl dX4_putWeek_55 ?_
  refine lv_iload_n hx hb dX4_putWeek_58 rfl (lv_at hl 1 rfl) ?_
  have hh8 := c_X0_weekdayOf l nu (by omega)
  refine vp_callSi (va_Run.run (va_runS (As := [.int (zi nu)]) (rest := [.ref qw]) ⟨hx, hb, hml, hown, hts⟩ hh8 (va_cwS 1 hts gX4_putWeek_X0_weekdayOf rfl rfl rfl (by decide +kernel) ⟨Nat.le_of_ble_eq_true rfl, Nat.le_of_ble_eq_true rfl⟩) ⟨fun a U g mk q => q, fun U hU hW => ⟨rfl, trivial⟩⟩ rfl rfl hl.1 rfl (lv_room (Nat.le_of_ble_eq_true rfl)) dX4_putWeek_59 ⟨Nat.zero_le _, Nat.zero_le _⟩)) (fun r8 (hr8 : r8 = zi (f_X0_weekdayOf nu)) => ?_)
  subst hr8
  have hf8 := b_X0_weekdayOf nu (by omega)
  refine zw_iconst hx hb dX4_putWeek_62 ?_
  have hh9 := c_X1_addDigits_1 l dC dI cI qw wc (((((((((0 + 1) + 1) + 1) + 1) + 1) + 1) + 1) + 1) + 1) (zup (zup (zup (zup (zup (zup (zup (zup (zup wf (Int.toNat 0) (48 + (((f_X0_weekYearOf nu) / 1000) % 10))) (Int.toNat (0 + 1)) (48 + (((f_X0_weekYearOf nu) / 100) % 10))) (Int.toNat ((0 + 1) + 1)) (48 + (((f_X0_weekYearOf nu) / 10) % 10))) (Int.toNat (((0 + 1) + 1) + 1)) (48 + (((f_X0_weekYearOf nu) / 1) % 10))) (Int.toNat ((((0 + 1) + 1) + 1) + 1)) 45) (Int.toNat (((((0 + 1) + 1) + 1) + 1) + 1)) 87) (Int.toNat ((((((0 + 1) + 1) + 1) + 1) + 1) + 1)) (48 + (((f_X0_weekOf nu) / 10) % 10))) (Int.toNat (((((((0 + 1) + 1) + 1) + 1) + 1) + 1) + 1)) (48 + (((f_X0_weekOf nu) / 1) % 10))) (Int.toNat ((((((((0 + 1) + 1) + 1) + 1) + 1) + 1) + 1) + 1)) 45) (f_X0_weekdayOf nu) H.size (by omega) (by omega)
  have hPc := hP.sub (ws' := [(qw, .inr (1, [.ref wc, .int (zi (((((((((0 + 1) + 1) + 1) + 1) + 1) + 1) + 1) + 1) + 1))])), (wc, aI cI 20 (zup (zup (zup (zup (zup (zup (zup (zup (zup wf (Int.toNat 0) (48 + (((f_X0_weekYearOf nu) / 1000) % 10))) (Int.toNat (0 + 1)) (48 + (((f_X0_weekYearOf nu) / 100) % 10))) (Int.toNat ((0 + 1) + 1)) (48 + (((f_X0_weekYearOf nu) / 10) % 10))) (Int.toNat (((0 + 1) + 1) + 1)) (48 + (((f_X0_weekYearOf nu) / 1) % 10))) (Int.toNat ((((0 + 1) + 1) + 1) + 1)) 45) (Int.toNat (((((0 + 1) + 1) + 1) + 1) + 1)) 87) (Int.toNat ((((((0 + 1) + 1) + 1) + 1) + 1) + 1)) (48 + (((f_X0_weekOf nu) / 10) % 10))) (Int.toNat (((((((0 + 1) + 1) + 1) + 1) + 1) + 1) + 1)) (48 + (((f_X0_weekOf nu) / 1) % 10))) (Int.toNat ((((((((0 + 1) + 1) + 1) + 1) + 1) + 1) + 1) + 1)) 45))]) [1, 2] rfl
  have hKc : va_K (dC, dI) vwCl [(cI, .int)] s := hK
  have hDc := hD.sub (ws' := [(qw, .inr (1, [.ref wc, .int (zi (((((((((0 + 1) + 1) + 1) + 1) + 1) + 1) + 1) + 1) + 1))])), (wc, aI cI 20 (zup (zup (zup (zup (zup (zup (zup (zup (zup wf (Int.toNat 0) (48 + (((f_X0_weekYearOf nu) / 1000) % 10))) (Int.toNat (0 + 1)) (48 + (((f_X0_weekYearOf nu) / 100) % 10))) (Int.toNat ((0 + 1) + 1)) (48 + (((f_X0_weekYearOf nu) / 10) % 10))) (Int.toNat (((0 + 1) + 1) + 1)) (48 + (((f_X0_weekYearOf nu) / 1) % 10))) (Int.toNat ((((0 + 1) + 1) + 1) + 1)) 45) (Int.toNat (((((0 + 1) + 1) + 1) + 1) + 1)) 87) (Int.toNat ((((((0 + 1) + 1) + 1) + 1) + 1) + 1)) (48 + (((f_X0_weekOf nu) / 10) % 10))) (Int.toNat (((((((0 + 1) + 1) + 1) + 1) + 1) + 1) + 1)) (48 + (((f_X0_weekOf nu) / 1) % 10))) (Int.toNat ((((((((0 + 1) + 1) + 1) + 1) + 1) + 1) + 1) + 1)) 45))]) [1, 2] (by decide) rfl
  have hFc := va_free (wc := [(qw, .inr (1, [.ref wc, .int (zi (((((((((0 + 1) + 1) + 1) + 1) + 1) + 1) + 1) + 1) + 1))])), (wc, aI cI 20 (zup (zup (zup (zup (zup (zup (zup (zup (zup wf (Int.toNat 0) (48 + (((f_X0_weekYearOf nu) / 1000) % 10))) (Int.toNat (0 + 1)) (48 + (((f_X0_weekYearOf nu) / 100) % 10))) (Int.toNat ((0 + 1) + 1)) (48 + (((f_X0_weekYearOf nu) / 10) % 10))) (Int.toNat (((0 + 1) + 1) + 1)) (48 + (((f_X0_weekYearOf nu) / 1) % 10))) (Int.toNat ((((0 + 1) + 1) + 1) + 1)) 45) (Int.toNat (((((0 + 1) + 1) + 1) + 1) + 1)) 87) (Int.toNat ((((((0 + 1) + 1) + 1) + 1) + 1) + 1)) (48 + (((f_X0_weekOf nu) / 10) % 10))) (Int.toNat (((((((0 + 1) + 1) + 1) + 1) + 1) + 1) + 1)) (48 + (((f_X0_weekOf nu) / 1) % 10))) (Int.toNat ((((((((0 + 1) + 1) + 1) + 1) + 1) + 1) + 1) + 1)) 45))]) hD hS hA [1, 2] rfl
  refine va_callv (va_runV (As := [.int (zi (f_X0_weekdayOf nu)), .int (zi 1)]) (rest := []) ⟨hx, hb, hml, hown, hts⟩ hh9 (cwV 2 hts gX4_putWeek_X1_addDigits rfl rfl rfl (by decide +kernel) ⟨Nat.le_of_ble_eq_true rfl, Nat.le_of_ble_eq_true rfl⟩) ⟨zPw.blind _ _ _ _ _, va_recv hKc hPc (ci := 1) (q0 := 0) rfl rfl, fun U hU hW => ⟨rfl, by rw [hU], by rw [hU]; exact hPc, va_K.moved hW.alike hKc, hDc.weaken (fun _ _ _ _ => trivial)⟩⟩ rfl rfl hl.1 rfl (lv_room (Nat.le_of_ble_eq_true rfl)) dX4_putWeek_63 ⟨Nat.le_of_ble_eq_true rfl, Nat.le_of_ble_eq_true rfl⟩) hS (fun q _ h => hFc q h) hFc (fun u t H1 locs ht hvm hw hB hz1 hk1 hS => ?_)
  obtain ⟨hP1, hK1, hD1⟩ := hB
  rw [ht] at hP1
  obtain ⟨hP, hD⟩ := va_join (wr := [(h0, .inr (4, [.ref qs, .ref qr, .ref qm, .ref qw, .ref qt, .int (zi we)]))]) (w1 := [(qw, .inr (1, [.ref wc, .int (zi ((((((((((0 + 1) + 1) + 1) + 1) + 1) + 1) + 1) + 1) + 1) + 1))])), (wc, aI cI 20 (zup (zup (zup (zup (zup (zup (zup (zup (zup (zup wf (Int.toNat 0) (48 + (((f_X0_weekYearOf nu) / 1000) % 10))) (Int.toNat (0 + 1)) (48 + (((f_X0_weekYearOf nu) / 100) % 10))) (Int.toNat ((0 + 1) + 1)) (48 + (((f_X0_weekYearOf nu) / 10) % 10))) (Int.toNat (((0 + 1) + 1) + 1)) (48 + (((f_X0_weekYearOf nu) / 1) % 10))) (Int.toNat ((((0 + 1) + 1) + 1) + 1)) 45) (Int.toNat (((((0 + 1) + 1) + 1) + 1) + 1)) 87) (Int.toNat ((((((0 + 1) + 1) + 1) + 1) + 1) + 1)) (48 + (((f_X0_weekOf nu) / 10) % 10))) (Int.toNat (((((((0 + 1) + 1) + 1) + 1) + 1) + 1) + 1)) (48 + (((f_X0_weekOf nu) / 1) % 10))) (Int.toNat ((((((((0 + 1) + 1) + 1) + 1) + 1) + 1) + 1) + 1)) 45) (Int.toNat (((((((((0 + 1) + 1) + 1) + 1) + 1) + 1) + 1) + 1) + 1)) (48 + (((f_X0_weekdayOf nu) / 1) % 10))))]) hP hD [1, 2] [0] rfl rfl (by decide) (by decide) hk1 hFc hP1 hD1
  generalize H1 = H at hP hS ⊢
  have hP : va_P (dC, dI) vwCl [(h0, .inr (4, [.ref qs, .ref qr, .ref qm, .ref qw, .ref qt, .int (zi we)])), (qw, .inr (1, [.ref wc, .int (zi ((((((((((0 + 1) + 1) + 1) + 1) + 1) + 1) + 1) + 1) + 1) + 1))])), (wc, aI cI 20 (zup (zup (zup (zup (zup (zup (zup (zup (zup (zup wf (Int.toNat 0) (48 + (((f_X0_weekYearOf nu) / 1000) % 10))) (Int.toNat (0 + 1)) (48 + (((f_X0_weekYearOf nu) / 100) % 10))) (Int.toNat ((0 + 1) + 1)) (48 + (((f_X0_weekYearOf nu) / 10) % 10))) (Int.toNat (((0 + 1) + 1) + 1)) (48 + (((f_X0_weekYearOf nu) / 1) % 10))) (Int.toNat ((((0 + 1) + 1) + 1) + 1)) 45) (Int.toNat (((((0 + 1) + 1) + 1) + 1) + 1)) 87) (Int.toNat ((((((0 + 1) + 1) + 1) + 1) + 1) + 1)) (48 + (((f_X0_weekOf nu) / 10) % 10))) (Int.toNat (((((((0 + 1) + 1) + 1) + 1) + 1) + 1) + 1)) (48 + (((f_X0_weekOf nu) / 1) % 10))) (Int.toNat ((((((((0 + 1) + 1) + 1) + 1) + 1) + 1) + 1) + 1)) 45) (Int.toNat (((((((((0 + 1) + 1) + 1) + 1) + 1) + 1) + 1) + 1) + 1)) (48 + (((f_X0_weekdayOf nu) / 1) % 10))))] H := hP
  have hD : va_D A [(h0, .inr (4, [.ref qs, .ref qr, .ref qm, .ref qw, .ref qt, .int (zi we)])), (qw, .inr (1, [.ref wc, .int (zi ((((((((((0 + 1) + 1) + 1) + 1) + 1) + 1) + 1) + 1) + 1) + 1))])), (wc, aI cI 20 (zup (zup (zup (zup (zup (zup (zup (zup (zup (zup wf (Int.toNat 0) (48 + (((f_X0_weekYearOf nu) / 1000) % 10))) (Int.toNat (0 + 1)) (48 + (((f_X0_weekYearOf nu) / 100) % 10))) (Int.toNat ((0 + 1) + 1)) (48 + (((f_X0_weekYearOf nu) / 10) % 10))) (Int.toNat (((0 + 1) + 1) + 1)) (48 + (((f_X0_weekYearOf nu) / 1) % 10))) (Int.toNat ((((0 + 1) + 1) + 1) + 1)) 45) (Int.toNat (((((0 + 1) + 1) + 1) + 1) + 1)) 87) (Int.toNat ((((((0 + 1) + 1) + 1) + 1) + 1) + 1)) (48 + (((f_X0_weekOf nu) / 10) % 10))) (Int.toNat (((((((0 + 1) + 1) + 1) + 1) + 1) + 1) + 1)) (48 + (((f_X0_weekOf nu) / 1) % 10))) (Int.toNat ((((((((0 + 1) + 1) + 1) + 1) + 1) + 1) + 1) + 1)) 45) (Int.toNat (((((((((0 + 1) + 1) + 1) + 1) + 1) + 1) + 1) + 1) + 1)) (48 + (((f_X0_weekdayOf nu) / 1) % 10))))] := hD
  have hP9 := hP.sub (ws' := [(h0, .inr (4, [.ref qs, .ref qr, .ref qm, .ref qw, .ref qt, .int (zi we)])), (qw, .inr (1, [.ref wc, .int (zi ((((((((((0 + 1) + 1) + 1) + 1) + 1) + 1) + 1) + 1) + 1) + 1))])), (wc, aI cI 20 (zup (zup (zup (zup (zup (zup (zup (zup (zup (zup wf (Int.toNat 0) (48 + (((f_X0_weekYearOf nu) / 1000) % 10))) (Int.toNat (0 + 1)) (48 + (((f_X0_weekYearOf nu) / 100) % 10))) (Int.toNat ((0 + 1) + 1)) (48 + (((f_X0_weekYearOf nu) / 10) % 10))) (Int.toNat (((0 + 1) + 1) + 1)) (48 + (((f_X0_weekYearOf nu) / 1) % 10))) (Int.toNat ((((0 + 1) + 1) + 1) + 1)) 45) (Int.toNat (((((0 + 1) + 1) + 1) + 1) + 1)) 87) (Int.toNat ((((((0 + 1) + 1) + 1) + 1) + 1) + 1)) (48 + (((f_X0_weekOf nu) / 10) % 10))) (Int.toNat (((((((0 + 1) + 1) + 1) + 1) + 1) + 1) + 1)) (48 + (((f_X0_weekOf nu) / 1) % 10))) (Int.toNat ((((((((0 + 1) + 1) + 1) + 1) + 1) + 1) + 1) + 1)) 45) (Int.toNat (((((((((0 + 1) + 1) + 1) + 1) + 1) + 1) + 1) + 1) + 1)) (48 + (((f_X0_weekdayOf nu) / 1) % 10))))]) [0, 1, 2] rfl
  have hD9 := hD.sub (ws' := [(h0, .inr (4, [.ref qs, .ref qr, .ref qm, .ref qw, .ref qt, .int (zi we)])), (qw, .inr (1, [.ref wc, .int (zi ((((((((((0 + 1) + 1) + 1) + 1) + 1) + 1) + 1) + 1) + 1) + 1))])), (wc, aI cI 20 (zup (zup (zup (zup (zup (zup (zup (zup (zup (zup wf (Int.toNat 0) (48 + (((f_X0_weekYearOf nu) / 1000) % 10))) (Int.toNat (0 + 1)) (48 + (((f_X0_weekYearOf nu) / 100) % 10))) (Int.toNat ((0 + 1) + 1)) (48 + (((f_X0_weekYearOf nu) / 10) % 10))) (Int.toNat (((0 + 1) + 1) + 1)) (48 + (((f_X0_weekYearOf nu) / 1) % 10))) (Int.toNat ((((0 + 1) + 1) + 1) + 1)) 45) (Int.toNat (((((0 + 1) + 1) + 1) + 1) + 1)) 87) (Int.toNat ((((((0 + 1) + 1) + 1) + 1) + 1) + 1)) (48 + (((f_X0_weekOf nu) / 10) % 10))) (Int.toNat (((((((0 + 1) + 1) + 1) + 1) + 1) + 1) + 1)) (48 + (((f_X0_weekOf nu) / 1) % 10))) (Int.toNat ((((((((0 + 1) + 1) + 1) + 1) + 1) + 1) + 1) + 1)) 45) (Int.toNat (((((((((0 + 1) + 1) + 1) + 1) + 1) + 1) + 1) + 1) + 1)) (48 + (((f_X0_weekdayOf nu) / 1) % 10))))]) [0, 1, 2] (by decide) rfl
  exact W.vret hx hb hr (fun t ht hW => ⟨⟨(), rfl, trivial, by rw [ht]; exact hP9, va_K.moved hW.alike hK, hD9⟩, hS.F ht⟩) hS.2.2 dX4_putWeek_66

set_option maxHeartbeats 4000000 in
set_option maxRecDepth 100000 in
theorem c_X4_putYearDay (l : Launch)  (dC : Nat → ClassId) (dI : Nat → Nat → Nat) (cI : ClassId) (h0 : Nat) (qs : Nat) (qr : Nat) (qm : Nat) (qw : Nat) (qt : Nat) (we : Int) (wc : Nat) (wf : Nat → Int) (nu : Int) (sz : Nat) (hp0 : 0 ≤ nu ∧ nu ≤ 3652058) : Met l yX4_putYearDay wsX4_putYearDay ({ frames := 3, cells := 0, slots := 0, locals := 65 }) (zPw (dC, dI) [(cI, .int)] sz [.ref h0, .int (zi nu)] [(h0, .inr (4, [.ref qs, .ref qr, .ref qm, .ref qw, .ref qt, .int (zi we)])), (qw, .inr (1, [.ref wc, .int (zi 0)])), (wc, aI cI 20 wf)]) (va_Qv (fun (_ : Unit) => True) (zB (dC, dI) [(cI, .int)] (va_A [(h0, .inr (4, [.ref qs, .ref qr, .ref qm, .ref qw, .ref qt, .int (zi we)])), (qw, .inr (1, [.ref wc, .int (zi 0)])), (wc, aI cI 20 wf)] sz) [(h0, .inr (4, [.ref qs, .ref qr, .ref qm, .ref qw, .ref qt, .int (zi we)])), (qw, .inr (1, [.ref wc, .int (zi ((((((((0 + 1) + 1) + 1) + 1) + 1) + 1) + 1) + 1))])), (wc, aI cI 20 (zup (zup (zup (zup (zup (zup (zup (zup wf (Int.toNat 0) (48 + (((f_X0_yearOf nu) / 1000) % 10))) (Int.toNat (0 + 1)) (48 + (((f_X0_yearOf nu) / 100) % 10))) (Int.toNat ((0 + 1) + 1)) (48 + (((f_X0_yearOf nu) / 10) % 10))) (Int.toNat (((0 + 1) + 1) + 1)) (48 + (((f_X0_yearOf nu) / 1) % 10))) (Int.toNat ((((0 + 1) + 1) + 1) + 1)) 45) (Int.toNat (((((0 + 1) + 1) + 1) + 1) + 1)) (48 + (((f_X0_yearDayOf nu) / 100) % 10))) (Int.toNat ((((((0 + 1) + 1) + 1) + 1) + 1) + 1)) (48 + (((f_X0_yearDayOf nu) / 10) % 10))) (Int.toNat (((((((0 + 1) + 1) + 1) + 1) + 1) + 1) + 1)) (48 + (((f_X0_yearDayOf nu) / 1) % 10))))]) (va_A [(h0, .inr (4, [.ref qs, .ref qr, .ref qm, .ref qw, .ref qt, .int (zi we)])), (qw, .inr (1, [.ref wc, .int (zi 0)])), (wc, aI cI 20 wf)] sz)) 0 0 (va_A [(h0, .inr (4, [.ref qs, .ref qr, .ref qm, .ref qw, .ref qt, .int (zi we)])), (qw, .inr (1, [.ref wc, .int (zi 0)])), (wc, aI cI 20 wf)] sz) := by
  refine Met.ofW (cc := cX4_putYearDay) (maxL := 2) (ret := none) (by decide) rfl ?_
  intro p e s m args below meth c s₁ B hml hv
  obtain ⟨rfl, hsz, hP, hK, hD0⟩ := hv
  have hx := B.exec
  have hb := B.bytes
  have hr := B.returns
  have hts := atoms_spec (ws := wsX4_putYearDay) B.pre
  have hown : s.vm.findClass RX4 = some m.cls := findClass_of_methodNamed B.named
  have hlocks := B.notSynchronized
  subst hsz
  have hD := hD0.self (sz := s.heap.size)
  generalize hAe : va_A [(h0, .inr (4, [.ref qs, .ref qr, .ref qm, .ref qw, .ref qt, .int (zi we)])), (qw, .inr (1, [.ref wc, .int (zi 0)])), (wc, aI cI 20 wf)] s.heap.size = A at hD ⊢
  have hA : ∀ q : Nat, s.heap.size ≤ q → A q := fun q h => by rw [← hAe]; exact Or.inr h
  have hS : va_S A s.heap s.heap [] := va_S.rf
  have hP : va_P (dC, dI) vwCl [(h0, .inr (4, [.ref qs, .ref qr, .ref qm, .ref qw, .ref qt, .int (zi we)])), (qw, .inr (1, [.ref wc, .int (zi 0)])), (wc, aI cI 20 wf)] s.heap := hP
  have hl := lv_entry ([.ref h0, .int (zi nu)]) (n := 2) (Nat.le_of_ble_eq_true rfl)
  rw [lg_entry_eq]
  generalize (lg_sl ([.ref h0, .int (zi nu)]) ++ List.replicate (2 - (lg_sl ([.ref h0, .int (zi nu)])).length) Slot.unset).toArray = ls at hl ⊢
  have hl : lv_has ls 2 [(0, .ref h0), (1, .int (zi nu))] := hl
  refine lv_aload_n hx hb dX4_putYearDay_0 rfl (lv_at hl 0 rfl) ?_
  refine va_get (D := (dC, dI)) (ci := 4) (v := .ref qw) (C := RX4) (T := TX4) (N := 6) hx hb hts (by decide +kernel) hown hK hP 0 rfl rfl 3 (by decide) (hts (.fieldLink RX4 30 "CivilDays" "written" "LCivilDays$Line;") (by decide +kernel)) (fun _ h9 => h9) rfl dX4_putYearDay_1 ?_
  refine lv_iload_n hx hb dX4_putYearDay_4 rfl (lv_at hl 1 rfl) ?_
  have hh1 := c_X0_yearOf l nu (by omega)
  refine vp_callSi (va_Run.run (va_runS (As := [.int (zi nu)]) (rest := [.ref qw]) ⟨hx, hb, hml, hown, hts⟩ hh1 (va_cwS 1 hts gX4_putYearDay_X0_yearOf rfl rfl rfl (by decide +kernel) ⟨Nat.le_of_ble_eq_true rfl, Nat.le_of_ble_eq_true rfl⟩) ⟨fun a U g mk q => q, fun U hU hW => ⟨rfl, trivial⟩⟩ rfl rfl hl.1 rfl (lv_room (Nat.le_of_ble_eq_true rfl)) dX4_putYearDay_5 ⟨Nat.zero_le _, Nat.zero_le _⟩)) (fun r1 (hr1 : r1 = zi (f_X0_yearOf nu)) => ?_)
  subst hr1
  have hf1 := b_X0_yearOf nu (by omega)
  refine zw_sipush hx hb dX4_putYearDay_8 (by decide) ?_
  have hh2 := c_X1_addDigits_1000 l dC dI cI qw wc 0 wf (f_X0_yearOf nu) s.heap.size (by omega) (by omega)
  have hPc := hP.sub (ws' := [(qw, .inr (1, [.ref wc, .int (zi 0)])), (wc, aI cI 20 wf)]) [1, 2] rfl
  have hKc : va_K (dC, dI) vwCl [(cI, .int)] s := hK
  have hDc := hD.sub (ws' := [(qw, .inr (1, [.ref wc, .int (zi 0)])), (wc, aI cI 20 wf)]) [1, 2] (by decide) rfl
  have hFc := va_free (wc := [(qw, .inr (1, [.ref wc, .int (zi 0)])), (wc, aI cI 20 wf)]) hD hS hA [1, 2] rfl
  refine va_callv (va_runV (As := [.int (zi (f_X0_yearOf nu)), .int (zi 1000)]) (rest := []) ⟨hx, hb, hml, hown, hts⟩ hh2 (cwV 2 hts gX4_putYearDay_X1_addDigits rfl rfl rfl (by decide +kernel) ⟨Nat.le_of_ble_eq_true rfl, Nat.le_of_ble_eq_true rfl⟩) ⟨zPw.blind _ _ _ _ _, va_recv hKc hPc (ci := 1) (q0 := 0) rfl rfl, fun U hU hW => ⟨rfl, by rw [hU], by rw [hU]; exact hPc, va_K.moved hW.alike hKc, hDc.weaken (fun _ _ _ _ => trivial)⟩⟩ rfl rfl hl.1 rfl (lv_room (Nat.le_of_ble_eq_true rfl)) dX4_putYearDay_11 ⟨Nat.le_of_ble_eq_true rfl, Nat.le_of_ble_eq_true rfl⟩) hS (fun q _ h => hFc q h) hFc (fun u t H1 locs ht hvm hw hB hz1 hk1 hS => ?_)
  obtain ⟨hP1, hK1, hD1⟩ := hB
  rw [ht] at hP1
  obtain ⟨hP, hD⟩ := va_join (wr := [(h0, .inr (4, [.ref qs, .ref qr, .ref qm, .ref qw, .ref qt, .int (zi we)]))]) (w1 := [(qw, .inr (1, [.ref wc, .int (zi ((((0 + 1) + 1) + 1) + 1))])), (wc, aI cI 20 (zup (zup (zup (zup wf (Int.toNat 0) (48 + (((f_X0_yearOf nu) / 1000) % 10))) (Int.toNat (0 + 1)) (48 + (((f_X0_yearOf nu) / 100) % 10))) (Int.toNat ((0 + 1) + 1)) (48 + (((f_X0_yearOf nu) / 10) % 10))) (Int.toNat (((0 + 1) + 1) + 1)) (48 + (((f_X0_yearOf nu) / 1) % 10))))]) hP hD [1, 2] [0] rfl rfl (by decide) (by decide) hk1 hFc hP1 hD1
  generalize H1 = H at hP hS ⊢
  have hP : va_P (dC, dI) vwCl [(h0, .inr (4, [.ref qs, .ref qr, .ref qm, .ref qw, .ref qt, .int (zi we)])), (qw, .inr (1, [.ref wc, .int (zi ((((0 + 1) + 1) + 1) + 1))])), (wc, aI cI 20 (zup (zup (zup (zup wf (Int.toNat 0) (48 + (((f_X0_yearOf nu) / 1000) % 10))) (Int.toNat (0 + 1)) (48 + (((f_X0_yearOf nu) / 100) % 10))) (Int.toNat ((0 + 1) + 1)) (48 + (((f_X0_yearOf nu) / 10) % 10))) (Int.toNat (((0 + 1) + 1) + 1)) (48 + (((f_X0_yearOf nu) / 1) % 10))))] H := hP
  have hD : va_D A [(h0, .inr (4, [.ref qs, .ref qr, .ref qm, .ref qw, .ref qt, .int (zi we)])), (qw, .inr (1, [.ref wc, .int (zi ((((0 + 1) + 1) + 1) + 1))])), (wc, aI cI 20 (zup (zup (zup (zup wf (Int.toNat 0) (48 + (((f_X0_yearOf nu) / 1000) % 10))) (Int.toNat (0 + 1)) (48 + (((f_X0_yearOf nu) / 100) % 10))) (Int.toNat ((0 + 1) + 1)) (48 + (((f_X0_yearOf nu) / 10) % 10))) (Int.toNat (((0 + 1) + 1) + 1)) (48 + (((f_X0_yearOf nu) / 1) % 10))))] := hD
  refine lv_aload_n hx hb dX4_putYearDay_14 rfl (lv_at hl 0 rfl) ?_
  refine va_get (D := (dC, dI)) (ci := 4) (v := .ref qw) (C := RX4) (T := TX4) (N := 6) hx hb hts (by decide +kernel) hown hK hP 0 rfl rfl 3 (by decide) (hts (.fieldLink RX4 30 "CivilDays" "written" "LCivilDays$Line;") (by decide +kernel)) (fun _ h9 => h9) rfl dX4_putYearDay_15 ?_
  refine zw_bipush hx hb dX4_putYearDay_18 (by decide) ?_
  have hh3 := c_X1_add l dC dI cI qw wc ((((0 + 1) + 1) + 1) + 1) (zup (zup (zup (zup wf (Int.toNat 0) (48 + (((f_X0_yearOf nu) / 1000) % 10))) (Int.toNat (0 + 1)) (48 + (((f_X0_yearOf nu) / 100) % 10))) (Int.toNat ((0 + 1) + 1)) (48 + (((f_X0_yearOf nu) / 10) % 10))) (Int.toNat (((0 + 1) + 1) + 1)) (48 + (((f_X0_yearOf nu) / 1) % 10))) 45 H.size (by omega)
  have hPc := hP.sub (ws' := [(qw, .inr (1, [.ref wc, .int (zi ((((0 + 1) + 1) + 1) + 1))])), (wc, aI cI 20 (zup (zup (zup (zup wf (Int.toNat 0) (48 + (((f_X0_yearOf nu) / 1000) % 10))) (Int.toNat (0 + 1)) (48 + (((f_X0_yearOf nu) / 100) % 10))) (Int.toNat ((0 + 1) + 1)) (48 + (((f_X0_yearOf nu) / 10) % 10))) (Int.toNat (((0 + 1) + 1) + 1)) (48 + (((f_X0_yearOf nu) / 1) % 10))))]) [1, 2] rfl
  have hKc : va_K (dC, dI) vwCl [(cI, .int)] s := hK
  have hDc := hD.sub (ws' := [(qw, .inr (1, [.ref wc, .int (zi ((((0 + 1) + 1) + 1) + 1))])), (wc, aI cI 20 (zup (zup (zup (zup wf (Int.toNat 0) (48 + (((f_X0_yearOf nu) / 1000) % 10))) (Int.toNat (0 + 1)) (48 + (((f_X0_yearOf nu) / 100) % 10))) (Int.toNat ((0 + 1) + 1)) (48 + (((f_X0_yearOf nu) / 10) % 10))) (Int.toNat (((0 + 1) + 1) + 1)) (48 + (((f_X0_yearOf nu) / 1) % 10))))]) [1, 2] (by decide) rfl
  have hFc := va_free (wc := [(qw, .inr (1, [.ref wc, .int (zi ((((0 + 1) + 1) + 1) + 1))])), (wc, aI cI 20 (zup (zup (zup (zup wf (Int.toNat 0) (48 + (((f_X0_yearOf nu) / 1000) % 10))) (Int.toNat (0 + 1)) (48 + (((f_X0_yearOf nu) / 100) % 10))) (Int.toNat ((0 + 1) + 1)) (48 + (((f_X0_yearOf nu) / 10) % 10))) (Int.toNat (((0 + 1) + 1) + 1)) (48 + (((f_X0_yearOf nu) / 1) % 10))))]) hD hS hA [1, 2] rfl
  refine va_callv (va_runV (As := [.int (zi 45)]) (rest := []) ⟨hx, hb, hml, hown, hts⟩ hh3 (cwV 1 hts gX4_putYearDay_X1_add rfl rfl rfl (by decide +kernel) ⟨Nat.le_of_ble_eq_true rfl, Nat.le_of_ble_eq_true rfl⟩) ⟨zPw.blind _ _ _ _ _, va_recv hKc hPc (ci := 1) (q0 := 0) rfl rfl, fun U hU hW => ⟨rfl, by rw [hU], by rw [hU]; exact hPc, va_K.moved hW.alike hKc, hDc.weaken (fun _ _ _ _ => trivial)⟩⟩ rfl rfl hl.1 rfl (lv_room (Nat.le_of_ble_eq_true rfl)) dX4_putYearDay_20 ⟨Nat.le_of_ble_eq_true rfl, Nat.le_of_ble_eq_true rfl⟩) hS (fun q _ h => hFc q h) hFc (fun u t H1 locs ht hvm hw hB hz1 hk1 hS => ?_)
  obtain ⟨hP1, hK1, hD1⟩ := hB
  rw [ht] at hP1
  obtain ⟨hP, hD⟩ := va_join (wr := [(h0, .inr (4, [.ref qs, .ref qr, .ref qm, .ref qw, .ref qt, .int (zi we)]))]) (w1 := [(qw, .inr (1, [.ref wc, .int (zi (((((0 + 1) + 1) + 1) + 1) + 1))])), (wc, aI cI 20 (zup (zup (zup (zup (zup wf (Int.toNat 0) (48 + (((f_X0_yearOf nu) / 1000) % 10))) (Int.toNat (0 + 1)) (48 + (((f_X0_yearOf nu) / 100) % 10))) (Int.toNat ((0 + 1) + 1)) (48 + (((f_X0_yearOf nu) / 10) % 10))) (Int.toNat (((0 + 1) + 1) + 1)) (48 + (((f_X0_yearOf nu) / 1) % 10))) (Int.toNat ((((0 + 1) + 1) + 1) + 1)) 45))]) hP hD [1, 2] [0] rfl rfl (by decide) (by decide) hk1 hFc hP1 hD1
  generalize H1 = H at hP hS ⊢
  have hP : va_P (dC, dI) vwCl [(h0, .inr (4, [.ref qs, .ref qr, .ref qm, .ref qw, .ref qt, .int (zi we)])), (qw, .inr (1, [.ref wc, .int (zi (((((0 + 1) + 1) + 1) + 1) + 1))])), (wc, aI cI 20 (zup (zup (zup (zup (zup wf (Int.toNat 0) (48 + (((f_X0_yearOf nu) / 1000) % 10))) (Int.toNat (0 + 1)) (48 + (((f_X0_yearOf nu) / 100) % 10))) (Int.toNat ((0 + 1) + 1)) (48 + (((f_X0_yearOf nu) / 10) % 10))) (Int.toNat (((0 + 1) + 1) + 1)) (48 + (((f_X0_yearOf nu) / 1) % 10))) (Int.toNat ((((0 + 1) + 1) + 1) + 1)) 45))] H := hP
  have hD : va_D A [(h0, .inr (4, [.ref qs, .ref qr, .ref qm, .ref qw, .ref qt, .int (zi we)])), (qw, .inr (1, [.ref wc, .int (zi (((((0 + 1) + 1) + 1) + 1) + 1))])), (wc, aI cI 20 (zup (zup (zup (zup (zup wf (Int.toNat 0) (48 + (((f_X0_yearOf nu) / 1000) % 10))) (Int.toNat (0 + 1)) (48 + (((f_X0_yearOf nu) / 100) % 10))) (Int.toNat ((0 + 1) + 1)) (48 + (((f_X0_yearOf nu) / 10) % 10))) (Int.toNat (((0 + 1) + 1) + 1)) (48 + (((f_X0_yearOf nu) / 1) % 10))) (Int.toNat ((((0 + 1) + 1) + 1) + 1)) 45))] := hD
  refine lv_aload_n hx hb dX4_putYearDay_23 rfl (lv_at hl 0 rfl) ?_
  refine va_get (D := (dC, dI)) (ci := 4) (v := .ref qw) (C := RX4) (T := TX4) (N := 6) hx hb hts (by decide +kernel) hown hK hP 0 rfl rfl 3 (by decide) (hts (.fieldLink RX4 30 "CivilDays" "written" "LCivilDays$Line;") (by decide +kernel)) (fun _ h9 => h9) rfl dX4_putYearDay_24 ?_
  refine lv_iload_n hx hb dX4_putYearDay_27 rfl (lv_at hl 1 rfl) ?_
  have hh4 := c_X0_yearDayOf l nu (by omega)
  refine vp_callSi (va_Run.run (va_runS (As := [.int (zi nu)]) (rest := [.ref qw]) ⟨hx, hb, hml, hown, hts⟩ hh4 (va_cwS 1 hts gX4_putYearDay_X0_yearDayOf rfl rfl rfl (by decide +kernel) ⟨Nat.le_of_ble_eq_true rfl, Nat.le_of_ble_eq_true rfl⟩) ⟨fun a U g mk q => q, fun U hU hW => ⟨rfl, trivial⟩⟩ rfl rfl hl.1 rfl (lv_room (Nat.le_of_ble_eq_true rfl)) dX4_putYearDay_28 ⟨Nat.zero_le _, Nat.zero_le _⟩)) (fun r4 (hr4 : r4 = zi (f_X0_yearDayOf nu)) => ?_)
  subst hr4
  have hf4 := b_X0_yearDayOf nu (by omega)
  refine zw_bipush hx hb dX4_putYearDay_31 (by decide) ?_
  have hh5 := c_X1_addDigits_100 l dC dI cI qw wc (((((0 + 1) + 1) + 1) + 1) + 1) (zup (zup (zup (zup (zup wf (Int.toNat 0) (48 + (((f_X0_yearOf nu) / 1000) % 10))) (Int.toNat (0 + 1)) (48 + (((f_X0_yearOf nu) / 100) % 10))) (Int.toNat ((0 + 1) + 1)) (48 + (((f_X0_yearOf nu) / 10) % 10))) (Int.toNat (((0 + 1) + 1) + 1)) (48 + (((f_X0_yearOf nu) / 1) % 10))) (Int.toNat ((((0 + 1) + 1) + 1) + 1)) 45) (f_X0_yearDayOf nu) H.size (by omega) (by omega)
  have hPc := hP.sub (ws' := [(qw, .inr (1, [.ref wc, .int (zi (((((0 + 1) + 1) + 1) + 1) + 1))])), (wc, aI cI 20 (zup (zup (zup (zup (zup wf (Int.toNat 0) (48 + (((f_X0_yearOf nu) / 1000) % 10))) (Int.toNat (0 + 1)) (48 + (((f_X0_yearOf nu) / 100) % 10))) (Int.toNat ((0 + 1) + 1)) (48 + (((f_X0_yearOf nu) / 10) % 10))) (Int.toNat (((0 + 1) + 1) + 1)) (48 + (((f_X0_yearOf nu) / 1) % 10))) (Int.toNat ((((0 + 1) + 1) + 1) + 1)) 45))]) [1, 2] rfl
  have hKc : va_K (dC, dI) vwCl [(cI, .int)] s := hK
  have hDc := hD.sub (ws' := [(qw, .inr (1, [.ref wc, .int (zi (((((0 + 1) + 1) + 1) + 1) + 1))])), (wc, aI cI 20 (zup (zup (zup (zup (zup wf (Int.toNat 0) (48 + (((f_X0_yearOf nu) / 1000) % 10))) (Int.toNat (0 + 1)) (48 + (((f_X0_yearOf nu) / 100) % 10))) (Int.toNat ((0 + 1) + 1)) (48 + (((f_X0_yearOf nu) / 10) % 10))) (Int.toNat (((0 + 1) + 1) + 1)) (48 + (((f_X0_yearOf nu) / 1) % 10))) (Int.toNat ((((0 + 1) + 1) + 1) + 1)) 45))]) [1, 2] (by decide) rfl
  have hFc := va_free (wc := [(qw, .inr (1, [.ref wc, .int (zi (((((0 + 1) + 1) + 1) + 1) + 1))])), (wc, aI cI 20 (zup (zup (zup (zup (zup wf (Int.toNat 0) (48 + (((f_X0_yearOf nu) / 1000) % 10))) (Int.toNat (0 + 1)) (48 + (((f_X0_yearOf nu) / 100) % 10))) (Int.toNat ((0 + 1) + 1)) (48 + (((f_X0_yearOf nu) / 10) % 10))) (Int.toNat (((0 + 1) + 1) + 1)) (48 + (((f_X0_yearOf nu) / 1) % 10))) (Int.toNat ((((0 + 1) + 1) + 1) + 1)) 45))]) hD hS hA [1, 2] rfl
  refine va_callv (va_runV (As := [.int (zi (f_X0_yearDayOf nu)), .int (zi 100)]) (rest := []) ⟨hx, hb, hml, hown, hts⟩ hh5 (cwV 2 hts gX4_putYearDay_X1_addDigits rfl rfl rfl (by decide +kernel) ⟨Nat.le_of_ble_eq_true rfl, Nat.le_of_ble_eq_true rfl⟩) ⟨zPw.blind _ _ _ _ _, va_recv hKc hPc (ci := 1) (q0 := 0) rfl rfl, fun U hU hW => ⟨rfl, by rw [hU], by rw [hU]; exact hPc, va_K.moved hW.alike hKc, hDc.weaken (fun _ _ _ _ => trivial)⟩⟩ rfl rfl hl.1 rfl (lv_room (Nat.le_of_ble_eq_true rfl)) dX4_putYearDay_33 ⟨Nat.le_of_ble_eq_true rfl, Nat.le_of_ble_eq_true rfl⟩) hS (fun q _ h => hFc q h) hFc (fun u t H1 locs ht hvm hw hB hz1 hk1 hS => ?_)
  obtain ⟨hP1, hK1, hD1⟩ := hB
  rw [ht] at hP1
  obtain ⟨hP, hD⟩ := va_join (wr := [(h0, .inr (4, [.ref qs, .ref qr, .ref qm, .ref qw, .ref qt, .int (zi we)]))]) (w1 := [(qw, .inr (1, [.ref wc, .int (zi ((((((((0 + 1) + 1) + 1) + 1) + 1) + 1) + 1) + 1))])), (wc, aI cI 20 (zup (zup (zup (zup (zup (zup (zup (zup wf (Int.toNat 0) (48 + (((f_X0_yearOf nu) / 1000) % 10))) (Int.toNat (0 + 1)) (48 + (((f_X0_yearOf nu) / 100) % 10))) (Int.toNat ((0 + 1) + 1)) (48 + (((f_X0_yearOf nu) / 10) % 10))) (Int.toNat (((0 + 1) + 1) + 1)) (48 + (((f_X0_yearOf nu) / 1) % 10))) (Int.toNat ((((0 + 1) + 1) + 1) + 1)) 45) (Int.toNat (((((0 + 1) + 1) + 1) + 1) + 1)) (48 + (((f_X0_yearDayOf nu) / 100) % 10))) (Int.toNat ((((((0 + 1) + 1) + 1) + 1) + 1) + 1)) (48 + (((f_X0_yearDayOf nu) / 10) % 10))) (Int.toNat (((((((0 + 1) + 1) + 1) + 1) + 1) + 1) + 1)) (48 + (((f_X0_yearDayOf nu) / 1) % 10))))]) hP hD [1, 2] [0] rfl rfl (by decide) (by decide) hk1 hFc hP1 hD1
  generalize H1 = H at hP hS ⊢
  have hP : va_P (dC, dI) vwCl [(h0, .inr (4, [.ref qs, .ref qr, .ref qm, .ref qw, .ref qt, .int (zi we)])), (qw, .inr (1, [.ref wc, .int (zi ((((((((0 + 1) + 1) + 1) + 1) + 1) + 1) + 1) + 1))])), (wc, aI cI 20 (zup (zup (zup (zup (zup (zup (zup (zup wf (Int.toNat 0) (48 + (((f_X0_yearOf nu) / 1000) % 10))) (Int.toNat (0 + 1)) (48 + (((f_X0_yearOf nu) / 100) % 10))) (Int.toNat ((0 + 1) + 1)) (48 + (((f_X0_yearOf nu) / 10) % 10))) (Int.toNat (((0 + 1) + 1) + 1)) (48 + (((f_X0_yearOf nu) / 1) % 10))) (Int.toNat ((((0 + 1) + 1) + 1) + 1)) 45) (Int.toNat (((((0 + 1) + 1) + 1) + 1) + 1)) (48 + (((f_X0_yearDayOf nu) / 100) % 10))) (Int.toNat ((((((0 + 1) + 1) + 1) + 1) + 1) + 1)) (48 + (((f_X0_yearDayOf nu) / 10) % 10))) (Int.toNat (((((((0 + 1) + 1) + 1) + 1) + 1) + 1) + 1)) (48 + (((f_X0_yearDayOf nu) / 1) % 10))))] H := hP
  have hD : va_D A [(h0, .inr (4, [.ref qs, .ref qr, .ref qm, .ref qw, .ref qt, .int (zi we)])), (qw, .inr (1, [.ref wc, .int (zi ((((((((0 + 1) + 1) + 1) + 1) + 1) + 1) + 1) + 1))])), (wc, aI cI 20 (zup (zup (zup (zup (zup (zup (zup (zup wf (Int.toNat 0) (48 + (((f_X0_yearOf nu) / 1000) % 10))) (Int.toNat (0 + 1)) (48 + (((f_X0_yearOf nu) / 100) % 10))) (Int.toNat ((0 + 1) + 1)) (48 + (((f_X0_yearOf nu) / 10) % 10))) (Int.toNat (((0 + 1) + 1) + 1)) (48 + (((f_X0_yearOf nu) / 1) % 10))) (Int.toNat ((((0 + 1) + 1) + 1) + 1)) 45) (Int.toNat (((((0 + 1) + 1) + 1) + 1) + 1)) (48 + (((f_X0_yearDayOf nu) / 100) % 10))) (Int.toNat ((((((0 + 1) + 1) + 1) + 1) + 1) + 1)) (48 + (((f_X0_yearDayOf nu) / 10) % 10))) (Int.toNat (((((((0 + 1) + 1) + 1) + 1) + 1) + 1) + 1)) (48 + (((f_X0_yearDayOf nu) / 1) % 10))))] := hD
  have hP9 := hP.sub (ws' := [(h0, .inr (4, [.ref qs, .ref qr, .ref qm, .ref qw, .ref qt, .int (zi we)])), (qw, .inr (1, [.ref wc, .int (zi ((((((((0 + 1) + 1) + 1) + 1) + 1) + 1) + 1) + 1))])), (wc, aI cI 20 (zup (zup (zup (zup (zup (zup (zup (zup wf (Int.toNat 0) (48 + (((f_X0_yearOf nu) / 1000) % 10))) (Int.toNat (0 + 1)) (48 + (((f_X0_yearOf nu) / 100) % 10))) (Int.toNat ((0 + 1) + 1)) (48 + (((f_X0_yearOf nu) / 10) % 10))) (Int.toNat (((0 + 1) + 1) + 1)) (48 + (((f_X0_yearOf nu) / 1) % 10))) (Int.toNat ((((0 + 1) + 1) + 1) + 1)) 45) (Int.toNat (((((0 + 1) + 1) + 1) + 1) + 1)) (48 + (((f_X0_yearDayOf nu) / 100) % 10))) (Int.toNat ((((((0 + 1) + 1) + 1) + 1) + 1) + 1)) (48 + (((f_X0_yearDayOf nu) / 10) % 10))) (Int.toNat (((((((0 + 1) + 1) + 1) + 1) + 1) + 1) + 1)) (48 + (((f_X0_yearDayOf nu) / 1) % 10))))]) [0, 1, 2] rfl
  have hD9 := hD.sub (ws' := [(h0, .inr (4, [.ref qs, .ref qr, .ref qm, .ref qw, .ref qt, .int (zi we)])), (qw, .inr (1, [.ref wc, .int (zi ((((((((0 + 1) + 1) + 1) + 1) + 1) + 1) + 1) + 1))])), (wc, aI cI 20 (zup (zup (zup (zup (zup (zup (zup (zup wf (Int.toNat 0) (48 + (((f_X0_yearOf nu) / 1000) % 10))) (Int.toNat (0 + 1)) (48 + (((f_X0_yearOf nu) / 100) % 10))) (Int.toNat ((0 + 1) + 1)) (48 + (((f_X0_yearOf nu) / 10) % 10))) (Int.toNat (((0 + 1) + 1) + 1)) (48 + (((f_X0_yearOf nu) / 1) % 10))) (Int.toNat ((((0 + 1) + 1) + 1) + 1)) 45) (Int.toNat (((((0 + 1) + 1) + 1) + 1) + 1)) (48 + (((f_X0_yearDayOf nu) / 100) % 10))) (Int.toNat ((((((0 + 1) + 1) + 1) + 1) + 1) + 1)) (48 + (((f_X0_yearDayOf nu) / 10) % 10))) (Int.toNat (((((((0 + 1) + 1) + 1) + 1) + 1) + 1) + 1)) (48 + (((f_X0_yearDayOf nu) / 1) % 10))))]) [0, 1, 2] (by decide) rfl
  exact W.vret hx hb hr (fun t ht hW => ⟨⟨(), rfl, trivial, by rw [ht]; exact hP9, va_K.moved hW.alike hK, hD9⟩, hS.F ht⟩) hS.2.2 dX4_putYearDay_36

set_option maxHeartbeats 4000000 in
set_option maxRecDepth 100000 in
theorem t_X4_write_1 (l : Launch) (hst : l.stackTraces = false) (h0 : Nat) (sl : Int) (tx : Int) (hp0 : -2147483648 ≤ sl ∧ sl ≤ 2147483647) (hp1 : sl < 0 ∨ 9 < sl) : vx_Met l yX4_write wsX4_write ({ frames := 7, cells := 1, slots := 6, locals := 110 }) (zP [.ref h0, .int (zi sl), .int (zi tx)]) zNo (zX "java/lang/IndexOutOfBoundsException") 1 6 zN := by
  refine vx_ofW (cc := cX4_write) (maxL := 4) (ret := (some .int)) (by decide) rfl ?_
  intro p e s m args below meth c s₁ B hml hno hv
  obtain ⟨rfl, hE⟩ := hv
  have hx := B.exec
  have hb := B.bytes
  have hr := B.returns
  have hts := atoms_spec (ws := wsX4_write) B.pre
  have hown : s.vm.findClass RX4 = some m.cls := findClass_of_methodNamed B.named
  have hlocks := B.notSynchronized
  have hl := lv_entry ([.ref h0, .int (zi sl), .int (zi tx)]) (n := 4) (Nat.le_of_ble_eq_true rfl)
  rw [lg_entry_eq]
  generalize (lg_sl ([.ref h0, .int (zi sl), .int (zi tx)]) ++ List.replicate (4 - (lg_sl ([.ref h0, .int (zi sl), .int (zi tx)])).length) Slot.unset).toArray = ls at hl ⊢
  have hl : lv_has ls 4 [(0, .ref h0), (1, .int (zi sl)), (2, .int (zi tx))] := hl
  refine lv_iload_n hx hb dX4_write_0 rfl (lv_at hl 1 rfl) ?_
  have hh1 := t_X4_needSlot l hst sl (by omega) (by omega)
  exact zt_pass (vx_runS (As := [.int (zi sl)]) (rest := []) ⟨hx, hb, hml, hown, hts⟩ hh1 (va_cwS 1 hts gX4_write_X4_needSlot rfl rfl rfl (by decide +kernel) ⟨Nat.le_of_ble_eq_true rfl, Nat.le_of_ble_eq_true rfl⟩) ⟨zP.blind _, fun U hU hW => ⟨rfl, hE.call va_S.rf (fun q h => by rw [hU] at h; exact h) hU hW⟩⟩ rfl rfl hl.1 rfl (lv_room (Nat.le_of_ble_eq_true rfl)) dX4_write_1 ⟨Nat.le_of_ble_eq_true rfl, Nat.le_of_ble_eq_true rfl⟩) hno hlocks

set_option maxHeartbeats 4000000 in
set_option maxRecDepth 100000 in
theorem t_X4_write_2 (l : Launch) (hst : l.stackTraces = false) (h0 : Nat) (sl : Int) (tx : Int) (hp0 : 0 ≤ sl ∧ sl ≤ 9) (hp1 : -2147483648 ≤ tx ∧ tx ≤ 2147483647) (hp2 : tx < 0 ∨ 2 < tx) : vx_Met l yX4_write wsX4_write ({ frames := 6, cells := 1, slots := 6, locals := 90 }) (zP [.ref h0, .int (zi sl), .int (zi tx)]) zNo (zX "java/lang/IllegalArgumentException") 1 6 zN := by
  refine vx_ofW (cc := cX4_write) (maxL := 4) (ret := (some .int)) (by decide) rfl ?_
  intro p e s m args below meth c s₁ B hml hno hv
  obtain ⟨rfl, hE⟩ := hv
  have hx := B.exec
  have hb := B.bytes
  have hr := B.returns
  have hts := atoms_spec (ws := wsX4_write) B.pre
  have hown : s.vm.findClass RX4 = some m.cls := findClass_of_methodNamed B.named
  have hlocks := B.notSynchronized
  have hl := lv_entry ([.ref h0, .int (zi sl), .int (zi tx)]) (n := 4) (Nat.le_of_ble_eq_true rfl)
  rw [lg_entry_eq]
  generalize (lg_sl ([.ref h0, .int (zi sl), .int (zi tx)]) ++ List.replicate (4 - (lg_sl ([.ref h0, .int (zi sl), .int (zi tx)])).length) Slot.unset).toArray = ls at hl ⊢
  have hl : lv_has ls 4 [(0, .ref h0), (1, .int (zi sl)), (2, .int (zi tx))] := hl
  refine lv_iload_n hx hb dX4_write_0 rfl (lv_at hl 1 rfl) ?_
  have hh1 := c_X4_needSlot l sl (by omega)
  refine va_csv (va_Run.run (va_runS (As := [.int (zi sl)]) (rest := []) ⟨hx, hb, hml, hown, hts⟩ hh1 (va_cwS 1 hts gX4_write_X4_needSlot rfl rfl rfl (by decide +kernel) ⟨Nat.le_of_ble_eq_true rfl, Nat.le_of_ble_eq_true rfl⟩) ⟨fun a U g mk q => q, fun U hU hW => ⟨rfl, trivial⟩⟩ rfl rfl hl.1 rfl (lv_room (Nat.le_of_ble_eq_true rfl)) dX4_write_1 ⟨Nat.le_of_ble_eq_true rfl, Nat.le_of_ble_eq_true rfl⟩)) (fun _ => ?_)
  refine lv_iload_n hx hb dX4_write_4 rfl (lv_at hl 2 rfl) ?_
  refine zw_if_lt (tgt := 13) hx hb dX4_write_5 (by decide) ⟨by omega, by omega⟩ (fun h2 => ?_) (fun h2 => ?_)
  · skip
    exact zt_throw (cls := "java/lang/IllegalArgumentException") (text := "there is no such text") (ik := 88) (is := 185) (ic := 92) hx hb hst hown hE (by decide +kernel) (hts (.classLink RX4 88 "java/lang/IllegalArgumentException") (by decide +kernel)) (hts (.initialized "java/lang/IllegalArgumentException") (by decide +kernel)) (by decide) (fun w h => hts w (List.mem_cons_of_mem _ (List.mem_append_left _ (List.mem_append_left _ (List.mem_append_right _ h))))) (by decide +kernel) (by decide +kernel) (hl.1.trans hml.symm) dX4_write_13 dX4_write_16 dX4_write_17 dX4_write_19 dX4_write_22 hno (Nat.le_of_ble_eq_true rfl) (Nat.le_of_ble_eq_true rfl) (Nat.le_of_ble_eq_true rfl) (Nat.le_of_ble_eq_true rfl) hlocks
  · skip
    refine lv_iload_n hx hb dX4_write_8 rfl (lv_at hl 2 rfl) ?_
    refine zw_iconst hx hb dX4_write_9 ?_
    refine zw_icmp_le (tgt := 23) hx hb dX4_write_10 (by decide) ⟨by omega, by omega⟩ ⟨by omega, by omega⟩ (fun h3 => ?_) (fun h3 => ?_)
    · skip
      exact absurd True.intro (by omega)
    · skip
      exact zt_throw (cls := "java/lang/IllegalArgumentException") (text := "there is no such text") (ik := 88) (is := 185) (ic := 92) hx hb hst hown hE (by decide +kernel) (hts (.classLink RX4 88 "java/lang/IllegalArgumentException") (by decide +kernel)) (hts (.initialized "java/lang/IllegalArgumentException") (by decide +kernel)) (by decide) (fun w h => hts w (List.mem_cons_of_mem _ (List.mem_append_left _ (List.mem_append_left _ (List.mem_append_right _ h))))) (by decide +kernel) (by decide +kernel) (hl.1.trans hml.symm) dX4_write_13 dX4_write_16 dX4_write_17 dX4_write_19 dX4_write_22 hno (Nat.le_of_ble_eq_true rfl) (Nat.le_of_ble_eq_true rfl) (Nat.le_of_ble_eq_true rfl) (Nat.le_of_ble_eq_true rfl) hlocks

set_option maxHeartbeats 4000000 in
set_option maxRecDepth 100000 in
theorem t_X4_write_3 (l : Launch) (hst : l.stackTraces = false) (dC : Nat → ClassId) (dI : Nat → Nat → Nat) (cI : ClassId) (h0 : Nat) (qs : Nat) (qr : Nat) (qm : Nat) (qw : Nat) (qt : Nat) (we : Int) (sf : Nat → Int) (sl : Int) (tx : Int) (hp0 : 0 ≤ sl ∧ sl ≤ 9) (hp1 : 0 ≤ tx ∧ tx ≤ 2) (hp2 : sf sl.toNat = -1) : vx_Met l yX4_write wsX4_write ({ frames := 7, cells := 1, slots := 6, locals := 112 }) (zPt (dC, dI) [(cI, .int)] [.ref h0, .int (zi sl), .int (zi tx)] [(h0, .inr (4, [.ref qs, .ref qr, .ref qm, .ref qw, .ref qt, .int (zi we)])), (qs, aI cI 10 sf)]) zNo (zX "java/lang/IllegalStateException") 1 6 zN := by
  refine vx_ofW (cc := cX4_write) (maxL := 4) (ret := (some .int)) (by decide) rfl ?_
  intro p e s m args below meth c s₁ B hml hno hv
  obtain ⟨rfl, hE, hP, hK⟩ := hv
  have hx := B.exec
  have hb := B.bytes
  have hr := B.returns
  have hts := atoms_spec (ws := wsX4_write) B.pre
  have hown : s.vm.findClass RX4 = some m.cls := findClass_of_methodNamed B.named
  have hlocks := B.notSynchronized
  have hl := lv_entry ([.ref h0, .int (zi sl), .int (zi tx)]) (n := 4) (Nat.le_of_ble_eq_true rfl)
  rw [lg_entry_eq]
  generalize (lg_sl ([.ref h0, .int (zi sl), .int (zi tx)]) ++ List.replicate (4 - (lg_sl ([.ref h0, .int (zi sl), .int (zi tx)])).length) Slot.unset).toArray = ls at hl ⊢
  have hl : lv_has ls 4 [(0, .ref h0), (1, .int (zi sl)), (2, .int (zi tx))] := hl
  refine lv_iload_n hx hb dX4_write_0 rfl (lv_at hl 1 rfl) ?_
  have hh1 := c_X4_needSlot l sl (by omega)
  refine va_csv (va_Run.run (va_runS (As := [.int (zi sl)]) (rest := []) ⟨hx, hb, hml, hown, hts⟩ hh1 (va_cwS 1 hts gX4_write_X4_needSlot rfl rfl rfl (by decide +kernel) ⟨Nat.le_of_ble_eq_true rfl, Nat.le_of_ble_eq_true rfl⟩) ⟨fun a U g mk q => q, fun U hU hW => ⟨rfl, trivial⟩⟩ rfl rfl hl.1 rfl (lv_room (Nat.le_of_ble_eq_true rfl)) dX4_write_1 ⟨Nat.le_of_ble_eq_true rfl, Nat.le_of_ble_eq_true rfl⟩)) (fun _ => ?_)
  refine lv_iload_n hx hb dX4_write_4 rfl (lv_at hl 2 rfl) ?_
  refine zw_if_lt (tgt := 13) hx hb dX4_write_5 (by decide) ⟨by omega, by omega⟩ (fun h2 => ?_) (fun h2 => ?_)
  · skip
    exact absurd True.intro (by omega)
  · skip
    refine lv_iload_n hx hb dX4_write_8 rfl (lv_at hl 2 rfl) ?_
    refine zw_iconst hx hb dX4_write_9 ?_
    refine zw_icmp_le (tgt := 23) hx hb dX4_write_10 (by decide) ⟨by omega, by omega⟩ ⟨by omega, by omega⟩ (fun h3 => ?_) (fun h3 => ?_)
    · skip
      refine lv_aload_n hx hb dX4_write_23 rfl (lv_at hl 0 rfl) ?_
      refine lv_iload_n hx hb dX4_write_24 rfl (lv_at hl 1 rfl) ?_
      have hh4 := t_X4_dateIn l hst dC dI cI h0 qs qr qm qw qt we sf sl (by omega) (by omega)
      have hPc := hP.sub (ws' := [(h0, .inr (4, [.ref qs, .ref qr, .ref qm, .ref qw, .ref qt, .int (zi we)])), (qs, aI cI 10 sf)]) [0, 1] rfl
      have hKc : va_K (dC, dI) vwCl [(cI, .int)] s := hK
      exact zt_pass (vx_runV (As := [.int (zi sl)]) (rest := []) ⟨hx, hb, hml, hown, hts⟩ hh4 (cwV 1 hts gX4_write_X4_dateIn rfl rfl rfl (by decide +kernel) ⟨Nat.le_of_ble_eq_true rfl, Nat.le_of_ble_eq_true rfl⟩) ⟨zPt.blind _ _ _ _, va_recv hKc hPc (ci := 4) (q0 := 0) rfl rfl, fun U hU hW => ⟨rfl, hE.call va_S.rf (fun q h => by rw [hU] at h; exact h) hU hW, by rw [hU]; exact hPc, va_K.moved hW.alike hKc⟩⟩ rfl rfl hl.1 rfl (lv_room (Nat.le_of_ble_eq_true rfl)) dX4_write_25 ⟨Nat.le_of_ble_eq_true rfl, Nat.le_of_ble_eq_true rfl⟩) hno hlocks
    · skip
      exact absurd True.intro (by omega)

set_option maxHeartbeats 4000000 in
set_option maxRecDepth 100000 in
theorem c_X4_write_0 (l : Launch)  (dC : Nat → ClassId) (dI : Nat → Nat → Nat) (cI : ClassId) (h0 : Nat) (qs : Nat) (qr : Nat) (qm : Nat) (qw : Nat) (qt : Nat) (we : Int) (sf : Nat → Int) (wc : Nat) (wl : Int) (wf : Nat → Int) (sl : Int) (sz : Nat) (hp0 : 0 ≤ sl ∧ sl ≤ 9) (hp1 : 0 ≤ sf sl.toNat ∧ sf sl.toNat ≤ 3652058) : Met l yX4_write wsX4_write ({ frames := 5, cells := 0, slots := 0, locals := 108 }) (zPw (dC, dI) [(cI, .int)] sz [.ref h0, .int (zi sl), .int (zi 0)] [(h0, .inr (4, [.ref qs, .ref qr, .ref qm, .ref qw, .ref qt, .int (zi we)])), (qs, aI cI 10 sf), (qw, .inr (1, [.ref wc, .int (zi wl)])), (wc, aI cI 20 wf)]) (va_Qi (fun (r : Int32) (_ : Unit) => r = zi ((((((((((0 + 1) + 1) + 1) + 1) + 1) + 1) + 1) + 1) + 1) + 1)) (zB (dC, dI) [(cI, .int)] (va_A [(h0, .inr (4, [.ref qs, .ref qr, .ref qm, .ref qw, .ref qt, .int (zi we)])), (qs, aI cI 10 sf), (qw, .inr (1, [.ref wc, .int (zi wl)])), (wc, aI cI 20 wf)] sz) [(h0, .inr (4, [.ref qs, .ref qr, .ref qm, .ref qw, .ref qt, .int (zi we)])), (qs, aI cI 10 sf), (qw, .inr (1, [.ref wc, .int (zi ((((((((((0 + 1) + 1) + 1) + 1) + 1) + 1) + 1) + 1) + 1) + 1))])), (wc, aI cI 20 (zup (zup (zup (zup (zup (zup (zup (zup (zup (zup wf (Int.toNat 0) (48 + (((f_X0_yearOf (sf sl.toNat)) / 1000) % 10))) (Int.toNat (0 + 1)) (48 + (((f_X0_yearOf (sf sl.toNat)) / 100) % 10))) (Int.toNat ((0 + 1) + 1)) (48 + (((f_X0_yearOf (sf sl.toNat)) / 10) % 10))) (Int.toNat (((0 + 1) + 1) + 1)) (48 + (((f_X0_yearOf (sf sl.toNat)) / 1) % 10))) (Int.toNat ((((0 + 1) + 1) + 1) + 1)) 45) (Int.toNat (((((0 + 1) + 1) + 1) + 1) + 1)) (48 + (((f_X0_monthOf (sf sl.toNat)) / 10) % 10))) (Int.toNat ((((((0 + 1) + 1) + 1) + 1) + 1) + 1)) (48 + (((f_X0_monthOf (sf sl.toNat)) / 1) % 10))) (Int.toNat (((((((0 + 1) + 1) + 1) + 1) + 1) + 1) + 1)) 45) (Int.toNat ((((((((0 + 1) + 1) + 1) + 1) + 1) + 1) + 1) + 1)) (48 + (((f_X0_dayOf (sf sl.toNat)) / 10) % 10))) (Int.toNat (((((((((0 + 1) + 1) + 1) + 1) + 1) + 1) + 1) + 1) + 1)) (48 + (((f_X0_dayOf (sf sl.toNat)) / 1) % 10))))]) (va_A [(h0, .inr (4, [.ref qs, .ref qr, .ref qm, .ref qw, .ref qt, .int (zi we)])), (qs, aI cI 10 sf), (qw, .inr (1, [.ref wc, .int (zi wl)])), (wc, aI cI 20 wf)] sz)) 0 0 (va_A [(h0, .inr (4, [.ref qs, .ref qr, .ref qm, .ref qw, .ref qt, .int (zi we)])), (qs, aI cI 10 sf), (qw, .inr (1, [.ref wc, .int (zi wl)])), (wc, aI cI 20 wf)] sz) := by
  refine Met.ofW (cc := cX4_write) (maxL := 4) (ret := (some .int)) (by decide) rfl ?_
  intro p e s m args below meth c s₁ B hml hv
  obtain ⟨rfl, hsz, hP, hK, hD0⟩ := hv
  have hx := B.exec
  have hb := B.bytes
  have hr := B.returns
  have hts := atoms_spec (ws := wsX4_write) B.pre
  have hown : s.vm.findClass RX4 = some m.cls := findClass_of_methodNamed B.named
  have hlocks := B.notSynchronized
  subst hsz
  have hD := hD0.self (sz := s.heap.size)
  generalize hAe : va_A [(h0, .inr (4, [.ref qs, .ref qr, .ref qm, .ref qw, .ref qt, .int (zi we)])), (qs, aI cI 10 sf), (qw, .inr (1, [.ref wc, .int (zi wl)])), (wc, aI cI 20 wf)] s.heap.size = A at hD ⊢
  have hA : ∀ q : Nat, s.heap.size ≤ q → A q := fun q h => by rw [← hAe]; exact Or.inr h
  have hS : va_S A s.heap s.heap [] := va_S.rf
  have hP : va_P (dC, dI) vwCl [(h0, .inr (4, [.ref qs, .ref qr, .ref qm, .ref qw, .ref qt, .int (zi we)])), (qs, aI cI 10 sf), (qw, .inr (1, [.ref wc, .int (zi wl)])), (wc, aI cI 20 wf)] s.heap := hP
  have hl := lv_entry ([.ref h0, .int (zi sl), .int (zi 0)]) (n := 4) (Nat.le_of_ble_eq_true rfl)
  rw [lg_entry_eq]
  generalize (lg_sl ([.ref h0, .int (zi sl), .int (zi 0)]) ++ List.replicate (4 - (lg_sl ([.ref h0, .int (zi sl), .int (zi 0)])).length) Slot.unset).toArray = ls at hl ⊢
  have hl : lv_has ls 4 [(0, .ref h0), (1, .int (zi sl)), (2, .int (zi 0))] := hl
  refine lv_iload_n hx hb dX4_write_0 rfl (lv_at hl 1 rfl) ?_
  have hh1 := c_X4_needSlot l sl (by omega)
  refine va_csv (va_Run.run (va_runS (As := [.int (zi sl)]) (rest := []) ⟨hx, hb, hml, hown, hts⟩ hh1 (va_cwS 1 hts gX4_write_X4_needSlot rfl rfl rfl (by decide +kernel) ⟨Nat.le_of_ble_eq_true rfl, Nat.le_of_ble_eq_true rfl⟩) ⟨fun a U g mk q => q, fun U hU hW => ⟨rfl, trivial⟩⟩ rfl rfl hl.1 rfl (lv_room (Nat.le_of_ble_eq_true rfl)) dX4_write_1 ⟨Nat.le_of_ble_eq_true rfl, Nat.le_of_ble_eq_true rfl⟩)) (fun _ => ?_)
  refine lv_iload_n hx hb dX4_write_4 rfl (lv_at hl 2 rfl) ?_
  refine zw_if_lt (tgt := 13) hx hb dX4_write_5 (by decide) ⟨by omega, by omega⟩ (fun h2 => ?_) (fun h2 => ?_)
  · skip
    exact absurd True.intro (by omega)
  · skip
    refine lv_iload_n hx hb dX4_write_8 rfl (lv_at hl 2 rfl) ?_
    refine zw_iconst hx hb dX4_write_9 ?_
    refine zw_icmp_le (tgt := 23) hx hb dX4_write_10 (by decide) ⟨by omega, by omega⟩ ⟨by omega, by omega⟩ (fun h3 => ?_) (fun h3 => ?_)
    · skip
      refine lv_aload_n hx hb dX4_write_23 rfl (lv_at hl 0 rfl) ?_
      refine lv_iload_n hx hb dX4_write_24 rfl (lv_at hl 1 rfl) ?_
      have hh4 := c_X4_dateIn l dC dI cI h0 qs qr qm qw qt we sf sl (by omega) (by omega)
      have hPc := hP.sub (ws' := [(h0, .inr (4, [.ref qs, .ref qr, .ref qm, .ref qw, .ref qt, .int (zi we)])), (qs, aI cI 10 sf)]) [0, 1] rfl
      have hKc : va_K (dC, dI) vwCl [(cI, .int)] s := hK
      refine vp_callSi (va_Run.run (va_runV (As := [.int (zi sl)]) (rest := []) ⟨hx, hb, hml, hown, hts⟩ hh4 (cwV 1 hts gX4_write_X4_dateIn rfl rfl rfl (by decide +kernel) ⟨Nat.le_of_ble_eq_true rfl, Nat.le_of_ble_eq_true rfl⟩) ⟨zPr.blind _ _ _ _, va_recv hKc hPc (ci := 4) (q0 := 0) rfl rfl, fun U hU hW => ⟨rfl, by rw [hU]; exact hPc, va_K.moved hW.alike hKc⟩⟩ rfl rfl hl.1 rfl (lv_room (Nat.le_of_ble_eq_true rfl)) dX4_write_25 ⟨Nat.le_of_ble_eq_true rfl, Nat.le_of_ble_eq_true rfl⟩)) (fun r4 (hr4 : r4 = zi (sf sl.toNat)) => ?_)
      subst hr4
      refine zw_top (fun x5 ex5 => ?_)
      refine lv_istore_n (lv' := [(3, .int (zi x5)), (0, .ref h0), (1, .int (zi sl)), (2, .int (zi 0))]) hx hb dX4_write_28 rfl hl (by decide) rfl (fun ls hl => ?_)
      refine lv_aload_n hx hb dX4_write_29 rfl (lv_at hl 1 rfl) ?_
      refine va_get (D := (dC, dI)) (ci := 4) (v := .ref qw) (C := RX4) (T := TX4) (N := 6) hx hb hts (by decide +kernel) hown hK hP 0 rfl rfl 3 (by decide) (hts (.fieldLink RX4 30 "CivilDays" "written" "LCivilDays$Line;") (by decide +kernel)) (fun _ h9 => h9) rfl dX4_write_30 ?_
      have hh6 := c_X1_empty l dC dI cI qw wc wl wf s.heap.size 
      have hPc := hP.sub (ws' := [(qw, .inr (1, [.ref wc, .int (zi wl)])), (wc, aI cI 20 wf)]) [2, 3] rfl
      have hKc : va_K (dC, dI) vwCl [(cI, .int)] s := hK
      have hDc := hD.sub (ws' := [(qw, .inr (1, [.ref wc, .int (zi wl)])), (wc, aI cI 20 wf)]) [2, 3] (by decide) rfl
      have hFc := va_free (wc := [(qw, .inr (1, [.ref wc, .int (zi wl)])), (wc, aI cI 20 wf)]) hD hS hA [2, 3] rfl
      refine va_callv (va_runV (As := []) (rest := []) ⟨hx, hb, hml, hown, hts⟩ hh6 (cwV 0 hts gX4_write_X1_empty rfl rfl rfl (by decide +kernel) ⟨Nat.le_of_ble_eq_true rfl, Nat.le_of_ble_eq_true rfl⟩) ⟨zPw.blind _ _ _ _ _, va_recv hKc hPc (ci := 1) (q0 := 0) rfl rfl, fun U hU hW => ⟨rfl, by rw [hU], by rw [hU]; exact hPc, va_K.moved hW.alike hKc, hDc.weaken (fun _ _ _ _ => trivial)⟩⟩ rfl rfl hl.1 rfl (lv_room (Nat.le_of_ble_eq_true rfl)) dX4_write_33 ⟨Nat.le_of_ble_eq_true rfl, Nat.le_of_ble_eq_true rfl⟩) hS (fun q _ h => hFc q h) hFc (fun u t H1 locs ht hvm hw hB hz1 hk1 hS => ?_)
      obtain ⟨hP1, hK1, hD1⟩ := hB
      rw [ht] at hP1
      obtain ⟨hP, hD⟩ := va_join (wr := [(h0, .inr (4, [.ref qs, .ref qr, .ref qm, .ref qw, .ref qt, .int (zi we)])), (qs, aI cI 10 sf)]) (w1 := [(qw, .inr (1, [.ref wc, .int (zi 0)])), (wc, aI cI 20 wf)]) hP hD [2, 3] [0, 1] rfl rfl (by decide) (by decide) hk1 hFc hP1 hD1
      generalize H1 = H at hP hS ⊢
      have hP : va_P (dC, dI) vwCl [(h0, .inr (4, [.ref qs, .ref qr, .ref qm, .ref qw, .ref qt, .int (zi we)])), (qs, aI cI 10 sf), (qw, .inr (1, [.ref wc, .int (zi 0)])), (wc, aI cI 20 wf)] H := hP
      have hD : va_D A [(h0, .inr (4, [.ref qs, .ref qr, .ref qm, .ref qw, .ref qt, .int (zi we)])), (qs, aI cI 10 sf), (qw, .inr (1, [.ref wc, .int (zi 0)])), (wc, aI cI 20 wf)] := hD
      refine lv_iload_n hx hb dX4_write_36 rfl (lv_at hl 3 rfl) ?_
      refine zw_lookup (tgt := 64) (off := 27) hx hb dX4_write_37 ⟨by omega, by omega⟩ (by decide) (by decide) (by decide) ?_
      refine lv_aload_n hx hb dX4_write_64 rfl (lv_at hl 1 rfl) ?_
      refine lv_iload_n hx hb dX4_write_65 rfl (lv_at hl 0 rfl) ?_
      have hh7 := c_X4_putCivil l dC dI cI h0 qs qr qm qw qt we wc wf x5 H.size (by omega)
      have hPc := hP.sub (ws' := [(h0, .inr (4, [.ref qs, .ref qr, .ref qm, .ref qw, .ref qt, .int (zi we)])), (qw, .inr (1, [.ref wc, .int (zi 0)])), (wc, aI cI 20 wf)]) [0, 2, 3] rfl
      have hKc : va_K (dC, dI) vwCl [(cI, .int)] s := hK
      have hDc := hD.sub (ws' := [(h0, .inr (4, [.ref qs, .ref qr, .ref qm, .ref qw, .ref qt, .int (zi we)])), (qw, .inr (1, [.ref wc, .int (zi 0)])), (wc, aI cI 20 wf)]) [0, 2, 3] (by decide) rfl
      have hFc := va_free (wc := [(h0, .inr (4, [.ref qs, .ref qr, .ref qm, .ref qw, .ref qt, .int (zi we)])), (qw, .inr (1, [.ref wc, .int (zi 0)])), (wc, aI cI 20 wf)]) hD hS hA [0, 2, 3] rfl
      refine va_callv (va_runV (As := [.int (zi x5)]) (rest := []) ⟨hx, hb, hml, hown, hts⟩ hh7 (cwV 1 hts gX4_write_X4_putCivil rfl rfl rfl (by decide +kernel) ⟨Nat.le_of_ble_eq_true rfl, Nat.le_of_ble_eq_true rfl⟩) ⟨zPw.blind _ _ _ _ _, va_recv hKc hPc (ci := 4) (q0 := 0) rfl rfl, fun U hU hW => ⟨rfl, by rw [hU], by rw [hU]; exact hPc, va_K.moved hW.alike hKc, hDc.weaken (fun _ _ _ _ => trivial)⟩⟩ rfl rfl hl.1 rfl (lv_room (Nat.le_of_ble_eq_true rfl)) dX4_write_66 ⟨Nat.le_of_ble_eq_true rfl, Nat.le_of_ble_eq_true rfl⟩) hS (fun q _ h => hFc q h) hFc (fun u t H1 locs ht hvm hw hB hz1 hk1 hS => ?_)
      obtain ⟨hP1, hK1, hD1⟩ := hB
      rw [ht] at hP1
      obtain ⟨hP, hD⟩ := va_join (wr := [(qs, aI cI 10 sf)]) (w1 := [(h0, .inr (4, [.ref qs, .ref qr, .ref qm, .ref qw, .ref qt, .int (zi we)])), (qw, .inr (1, [.ref wc, .int (zi ((((((((((0 + 1) + 1) + 1) + 1) + 1) + 1) + 1) + 1) + 1) + 1))])), (wc, aI cI 20 (zup (zup (zup (zup (zup (zup (zup (zup (zup (zup wf (Int.toNat 0) (48 + (((f_X0_yearOf x5) / 1000) % 10))) (Int.toNat (0 + 1)) (48 + (((f_X0_yearOf x5) / 100) % 10))) (Int.toNat ((0 + 1) + 1)) (48 + (((f_X0_yearOf x5) / 10) % 10))) (Int.toNat (((0 + 1) + 1) + 1)) (48 + (((f_X0_yearOf x5) / 1) % 10))) (Int.toNat ((((0 + 1) + 1) + 1) + 1)) 45) (Int.toNat (((((0 + 1) + 1) + 1) + 1) + 1)) (48 + (((f_X0_monthOf x5) / 10) % 10))) (Int.toNat ((((((0 + 1) + 1) + 1) + 1) + 1) + 1)) (48 + (((f_X0_monthOf x5) / 1) % 10))) (Int.toNat (((((((0 + 1) + 1) + 1) + 1) + 1) + 1) + 1)) 45) (Int.toNat ((((((((0 + 1) + 1) + 1) + 1) + 1) + 1) + 1) + 1)) (48 + (((f_X0_dayOf x5) / 10) % 10))) (Int.toNat (((((((((0 + 1) + 1) + 1) + 1) + 1) + 1) + 1) + 1) + 1)) (48 + (((f_X0_dayOf x5) / 1) % 10))))]) hP hD [0, 2, 3] [1] rfl rfl (by decide) (by decide) hk1 hFc hP1 hD1
      generalize H1 = H at hP hS ⊢
      have hP : va_P (dC, dI) vwCl [(qs, aI cI 10 sf), (h0, .inr (4, [.ref qs, .ref qr, .ref qm, .ref qw, .ref qt, .int (zi we)])), (qw, .inr (1, [.ref wc, .int (zi ((((((((((0 + 1) + 1) + 1) + 1) + 1) + 1) + 1) + 1) + 1) + 1))])), (wc, aI cI 20 (zup (zup (zup (zup (zup (zup (zup (zup (zup (zup wf (Int.toNat 0) (48 + (((f_X0_yearOf x5) / 1000) % 10))) (Int.toNat (0 + 1)) (48 + (((f_X0_yearOf x5) / 100) % 10))) (Int.toNat ((0 + 1) + 1)) (48 + (((f_X0_yearOf x5) / 10) % 10))) (Int.toNat (((0 + 1) + 1) + 1)) (48 + (((f_X0_yearOf x5) / 1) % 10))) (Int.toNat ((((0 + 1) + 1) + 1) + 1)) 45) (Int.toNat (((((0 + 1) + 1) + 1) + 1) + 1)) (48 + (((f_X0_monthOf x5) / 10) % 10))) (Int.toNat ((((((0 + 1) + 1) + 1) + 1) + 1) + 1)) (48 + (((f_X0_monthOf x5) / 1) % 10))) (Int.toNat (((((((0 + 1) + 1) + 1) + 1) + 1) + 1) + 1)) 45) (Int.toNat ((((((((0 + 1) + 1) + 1) + 1) + 1) + 1) + 1) + 1)) (48 + (((f_X0_dayOf x5) / 10) % 10))) (Int.toNat (((((((((0 + 1) + 1) + 1) + 1) + 1) + 1) + 1) + 1) + 1)) (48 + (((f_X0_dayOf x5) / 1) % 10))))] H := hP
      have hD : va_D A [(qs, aI cI 10 sf), (h0, .inr (4, [.ref qs, .ref qr, .ref qm, .ref qw, .ref qt, .int (zi we)])), (qw, .inr (1, [.ref wc, .int (zi ((((((((((0 + 1) + 1) + 1) + 1) + 1) + 1) + 1) + 1) + 1) + 1))])), (wc, aI cI 20 (zup (zup (zup (zup (zup (zup (zup (zup (zup (zup wf (Int.toNat 0) (48 + (((f_X0_yearOf x5) / 1000) % 10))) (Int.toNat (0 + 1)) (48 + (((f_X0_yearOf x5) / 100) % 10))) (Int.toNat ((0 + 1) + 1)) (48 + (((f_X0_yearOf x5) / 10) % 10))) (Int.toNat (((0 + 1) + 1) + 1)) (48 + (((f_X0_yearOf x5) / 1) % 10))) (Int.toNat ((((0 + 1) + 1) + 1) + 1)) 45) (Int.toNat (((((0 + 1) + 1) + 1) + 1) + 1)) (48 + (((f_X0_monthOf x5) / 10) % 10))) (Int.toNat ((((((0 + 1) + 1) + 1) + 1) + 1) + 1)) (48 + (((f_X0_monthOf x5) / 1) % 10))) (Int.toNat (((((((0 + 1) + 1) + 1) + 1) + 1) + 1) + 1)) 45) (Int.toNat ((((((((0 + 1) + 1) + 1) + 1) + 1) + 1) + 1) + 1)) (48 + (((f_X0_dayOf x5) / 10) % 10))) (Int.toNat (((((((((0 + 1) + 1) + 1) + 1) + 1) + 1) + 1) + 1) + 1)) (48 + (((f_X0_dayOf x5) / 1) % 10))))] := hD
      refine lv_goto (tgt := 85) hx hb dX4_write_69 (by decide) ?_
      refine lv_aload_n hx hb dX4_write_85 rfl (lv_at hl 1 rfl) ?_
      refine va_get (D := (dC, dI)) (ci := 4) (v := .ref qw) (C := RX4) (T := TX4) (N := 6) hx hb hts (by decide +kernel) hown hK hP 1 rfl rfl 3 (by decide) (hts (.fieldLink RX4 30 "CivilDays" "written" "LCivilDays$Line;") (by decide +kernel)) (fun _ h9 => h9) rfl dX4_write_86 ?_
      have hh8 := c_X1_size l dC dI cI qw wc ((((((((((0 + 1) + 1) + 1) + 1) + 1) + 1) + 1) + 1) + 1) + 1) (zup (zup (zup (zup (zup (zup (zup (zup (zup (zup wf (Int.toNat 0) (48 + (((f_X0_yearOf x5) / 1000) % 10))) (Int.toNat (0 + 1)) (48 + (((f_X0_yearOf x5) / 100) % 10))) (Int.toNat ((0 + 1) + 1)) (48 + (((f_X0_yearOf x5) / 10) % 10))) (Int.toNat (((0 + 1) + 1) + 1)) (48 + (((f_X0_yearOf x5) / 1) % 10))) (Int.toNat ((((0 + 1) + 1) + 1) + 1)) 45) (Int.toNat (((((0 + 1) + 1) + 1) + 1) + 1)) (48 + (((f_X0_monthOf x5) / 10) % 10))) (Int.toNat ((((((0 + 1) + 1) + 1) + 1) + 1) + 1)) (48 + (((f_X0_monthOf x5) / 1) % 10))) (Int.toNat (((((((0 + 1) + 1) + 1) + 1) + 1) + 1) + 1)) 45) (Int.toNat ((((((((0 + 1) + 1) + 1) + 1) + 1) + 1) + 1) + 1)) (48 + (((f_X0_dayOf x5) / 10) % 10))) (Int.toNat (((((((((0 + 1) + 1) + 1) + 1) + 1) + 1) + 1) + 1) + 1)) (48 + (((f_X0_dayOf x5) / 1) % 10))) 
      have hPc := hP.sub (ws' := [(qw, .inr (1, [.ref wc, .int (zi ((((((((((0 + 1) + 1) + 1) + 1) + 1) + 1) + 1) + 1) + 1) + 1))])), (wc, aI cI 20 (zup (zup (zup (zup (zup (zup (zup (zup (zup (zup wf (Int.toNat 0) (48 + (((f_X0_yearOf x5) / 1000) % 10))) (Int.toNat (0 + 1)) (48 + (((f_X0_yearOf x5) / 100) % 10))) (Int.toNat ((0 + 1) + 1)) (48 + (((f_X0_yearOf x5) / 10) % 10))) (Int.toNat (((0 + 1) + 1) + 1)) (48 + (((f_X0_yearOf x5) / 1) % 10))) (Int.toNat ((((0 + 1) + 1) + 1) + 1)) 45) (Int.toNat (((((0 + 1) + 1) + 1) + 1) + 1)) (48 + (((f_X0_monthOf x5) / 10) % 10))) (Int.toNat ((((((0 + 1) + 1) + 1) + 1) + 1) + 1)) (48 + (((f_X0_monthOf x5) / 1) % 10))) (Int.toNat (((((((0 + 1) + 1) + 1) + 1) + 1) + 1) + 1)) 45) (Int.toNat ((((((((0 + 1) + 1) + 1) + 1) + 1) + 1) + 1) + 1)) (48 + (((f_X0_dayOf x5) / 10) % 10))) (Int.toNat (((((((((0 + 1) + 1) + 1) + 1) + 1) + 1) + 1) + 1) + 1)) (48 + (((f_X0_dayOf x5) / 1) % 10))))]) [2, 3] rfl
      have hKc : va_K (dC, dI) vwCl [(cI, .int)] s := hK
      refine vp_callSi (va_Run.run (va_runV (As := []) (rest := []) ⟨hx, hb, hml, hown, hts⟩ hh8 (cwV 0 hts gX4_write_X1_size rfl rfl rfl (by decide +kernel) ⟨Nat.le_of_ble_eq_true rfl, Nat.le_of_ble_eq_true rfl⟩) ⟨zPr.blind _ _ _ _, va_recv hKc hPc (ci := 1) (q0 := 0) rfl rfl, fun U hU hW => ⟨rfl, by rw [hU]; exact hPc, va_K.moved hW.alike hKc⟩⟩ rfl rfl hl.1 rfl (lv_room (Nat.le_of_ble_eq_true rfl)) dX4_write_89 ⟨Nat.le_of_ble_eq_true rfl, Nat.le_of_ble_eq_true rfl⟩)) (fun r8 (hr8 : r8 = zi ((((((((((0 + 1) + 1) + 1) + 1) + 1) + 1) + 1) + 1) + 1) + 1)) => ?_)
      subst hr8
      subst ex5
      have hP9 := hP.sub (ws' := [(h0, .inr (4, [.ref qs, .ref qr, .ref qm, .ref qw, .ref qt, .int (zi we)])), (qs, aI cI 10 sf), (qw, .inr (1, [.ref wc, .int (zi ((((((((((0 + 1) + 1) + 1) + 1) + 1) + 1) + 1) + 1) + 1) + 1))])), (wc, aI cI 20 (zup (zup (zup (zup (zup (zup (zup (zup (zup (zup wf (Int.toNat 0) (48 + (((f_X0_yearOf (sf sl.toNat)) / 1000) % 10))) (Int.toNat (0 + 1)) (48 + (((f_X0_yearOf (sf sl.toNat)) / 100) % 10))) (Int.toNat ((0 + 1) + 1)) (48 + (((f_X0_yearOf (sf sl.toNat)) / 10) % 10))) (Int.toNat (((0 + 1) + 1) + 1)) (48 + (((f_X0_yearOf (sf sl.toNat)) / 1) % 10))) (Int.toNat ((((0 + 1) + 1) + 1) + 1)) 45) (Int.toNat (((((0 + 1) + 1) + 1) + 1) + 1)) (48 + (((f_X0_monthOf (sf sl.toNat)) / 10) % 10))) (Int.toNat ((((((0 + 1) + 1) + 1) + 1) + 1) + 1)) (48 + (((f_X0_monthOf (sf sl.toNat)) / 1) % 10))) (Int.toNat (((((((0 + 1) + 1) + 1) + 1) + 1) + 1) + 1)) 45) (Int.toNat ((((((((0 + 1) + 1) + 1) + 1) + 1) + 1) + 1) + 1)) (48 + (((f_X0_dayOf (sf sl.toNat)) / 10) % 10))) (Int.toNat (((((((((0 + 1) + 1) + 1) + 1) + 1) + 1) + 1) + 1) + 1)) (48 + (((f_X0_dayOf (sf sl.toNat)) / 1) % 10))))]) [1, 0, 2, 3] rfl
      have hD9 := hD.sub (ws' := [(h0, .inr (4, [.ref qs, .ref qr, .ref qm, .ref qw, .ref qt, .int (zi we)])), (qs, aI cI 10 sf), (qw, .inr (1, [.ref wc, .int (zi ((((((((((0 + 1) + 1) + 1) + 1) + 1) + 1) + 1) + 1) + 1) + 1))])), (wc, aI cI 20 (zup (zup (zup (zup (zup (zup (zup (zup (zup (zup wf (Int.toNat 0) (48 + (((f_X0_yearOf (sf sl.toNat)) / 1000) % 10))) (Int.toNat (0 + 1)) (48 + (((f_X0_yearOf (sf sl.toNat)) / 100) % 10))) (Int.toNat ((0 + 1) + 1)) (48 + (((f_X0_yearOf (sf sl.toNat)) / 10) % 10))) (Int.toNat (((0 + 1) + 1) + 1)) (48 + (((f_X0_yearOf (sf sl.toNat)) / 1) % 10))) (Int.toNat ((((0 + 1) + 1) + 1) + 1)) 45) (Int.toNat (((((0 + 1) + 1) + 1) + 1) + 1)) (48 + (((f_X0_monthOf (sf sl.toNat)) / 10) % 10))) (Int.toNat ((((((0 + 1) + 1) + 1) + 1) + 1) + 1)) (48 + (((f_X0_monthOf (sf sl.toNat)) / 1) % 10))) (Int.toNat (((((((0 + 1) + 1) + 1) + 1) + 1) + 1) + 1)) 45) (Int.toNat ((((((((0 + 1) + 1) + 1) + 1) + 1) + 1) + 1) + 1)) (48 + (((f_X0_dayOf (sf sl.toNat)) / 10) % 10))) (Int.toNat (((((((((0 + 1) + 1) + 1) + 1) + 1) + 1) + 1) + 1) + 1)) (48 + (((f_X0_dayOf (sf sl.toNat)) / 1) % 10))))]) [1, 0, 2, 3] (by decide) rfl
      exact W.iret (v := zi ((((((((((0 + 1) + 1) + 1) + 1) + 1) + 1) + 1) + 1) + 1) + 1)) hx hb hr (fun t ht hW => ⟨⟨zi ((((((((((0 + 1) + 1) + 1) + 1) + 1) + 1) + 1) + 1) + 1) + 1), (), rfl, rfl, by rw [ht]; exact hP9, va_K.moved hW.alike hK, hD9⟩, hS.F ht⟩) hS.2.2 dX4_write_92
    · skip
      exact absurd True.intro (by omega)

set_option maxHeartbeats 4000000 in
set_option maxRecDepth 100000 in
theorem c_X4_write_1 (l : Launch)  (dC : Nat → ClassId) (dI : Nat → Nat → Nat) (cI : ClassId) (h0 : Nat) (qs : Nat) (qr : Nat) (qm : Nat) (qw : Nat) (qt : Nat) (we : Int) (sf : Nat → Int) (wc : Nat) (wl : Int) (wf : Nat → Int) (sl : Int) (sz : Nat) (hp0 : 0 ≤ sl ∧ sl ≤ 9) (hp1 : 0 ≤ sf sl.toNat ∧ sf sl.toNat ≤ 3652058) : Met l yX4_write wsX4_write ({ frames := 5, cells := 0, slots := 0, locals := 107 }) (zPw (dC, dI) [(cI, .int)] sz [.ref h0, .int (zi sl), .int (zi 1)] [(h0, .inr (4, [.ref qs, .ref qr, .ref qm, .ref qw, .ref qt, .int (zi we)])), (qs, aI cI 10 sf), (qw, .inr (1, [.ref wc, .int (zi wl)])), (wc, aI cI 20 wf)]) (va_Qi (fun (r : Int32) (_ : Unit) => r = zi ((((((((((0 + 1) + 1) + 1) + 1) + 1) + 1) + 1) + 1) + 1) + 1)) (zB (dC, dI) [(cI, .int)] (va_A [(h0, .inr (4, [.ref qs, .ref qr, .ref qm, .ref qw, .ref qt, .int (zi we)])), (qs, aI cI 10 sf), (qw, .inr (1, [.ref wc, .int (zi wl)])), (wc, aI cI 20 wf)] sz) [(h0, .inr (4, [.ref qs, .ref qr, .ref qm, .ref qw, .ref qt, .int (zi we)])), (qs, aI cI 10 sf), (qw, .inr (1, [.ref wc, .int (zi ((((((((((0 + 1) + 1) + 1) + 1) + 1) + 1) + 1) + 1) + 1) + 1))])), (wc, aI cI 20 (zup (zup (zup (zup (zup (zup (zup (zup (zup (zup wf (Int.toNat 0) (48 + (((f_X0_weekYearOf (sf sl.toNat)) / 1000) % 10))) (Int.toNat (0 + 1)) (48 + (((f_X0_weekYearOf (sf sl.toNat)) / 100) % 10))) (Int.toNat ((0 + 1) + 1)) (48 + (((f_X0_weekYearOf (sf sl.toNat)) / 10) % 10))) (Int.toNat (((0 + 1) + 1) + 1)) (48 + (((f_X0_weekYearOf (sf sl.toNat)) / 1) % 10))) (Int.toNat ((((0 + 1) + 1) + 1) + 1)) 45) (Int.toNat (((((0 + 1) + 1) + 1) + 1) + 1)) 87) (Int.toNat ((((((0 + 1) + 1) + 1) + 1) + 1) + 1)) (48 + (((f_X0_weekOf (sf sl.toNat)) / 10) % 10))) (Int.toNat (((((((0 + 1) + 1) + 1) + 1) + 1) + 1) + 1)) (48 + (((f_X0_weekOf (sf sl.toNat)) / 1) % 10))) (Int.toNat ((((((((0 + 1) + 1) + 1) + 1) + 1) + 1) + 1) + 1)) 45) (Int.toNat (((((((((0 + 1) + 1) + 1) + 1) + 1) + 1) + 1) + 1) + 1)) (48 + (((f_X0_weekdayOf (sf sl.toNat)) / 1) % 10))))]) (va_A [(h0, .inr (4, [.ref qs, .ref qr, .ref qm, .ref qw, .ref qt, .int (zi we)])), (qs, aI cI 10 sf), (qw, .inr (1, [.ref wc, .int (zi wl)])), (wc, aI cI 20 wf)] sz)) 0 0 (va_A [(h0, .inr (4, [.ref qs, .ref qr, .ref qm, .ref qw, .ref qt, .int (zi we)])), (qs, aI cI 10 sf), (qw, .inr (1, [.ref wc, .int (zi wl)])), (wc, aI cI 20 wf)] sz) := by
  refine Met.ofW (cc := cX4_write) (maxL := 4) (ret := (some .int)) (by decide) rfl ?_
  intro p e s m args below meth c s₁ B hml hv
  obtain ⟨rfl, hsz, hP, hK, hD0⟩ := hv
  have hx := B.exec
  have hb := B.bytes
  have hr := B.returns
  have hts := atoms_spec (ws := wsX4_write) B.pre
  have hown : s.vm.findClass RX4 = some m.cls := findClass_of_methodNamed B.named
  have hlocks := B.notSynchronized
  subst hsz
  have hD := hD0.self (sz := s.heap.size)
  generalize hAe : va_A [(h0, .inr (4, [.ref qs, .ref qr, .ref qm, .ref qw, .ref qt, .int (zi we)])), (qs, aI cI 10 sf), (qw, .inr (1, [.ref wc, .int (zi wl)])), (wc, aI cI 20 wf)] s.heap.size = A at hD ⊢
  have hA : ∀ q : Nat, s.heap.size ≤ q → A q := fun q h => by rw [← hAe]; exact Or.inr h
  have hS : va_S A s.heap s.heap [] := va_S.rf
  have hP : va_P (dC, dI) vwCl [(h0, .inr (4, [.ref qs, .ref qr, .ref qm, .ref qw, .ref qt, .int (zi we)])), (qs, aI cI 10 sf), (qw, .inr (1, [.ref wc, .int (zi wl)])), (wc, aI cI 20 wf)] s.heap := hP
  have hl := lv_entry ([.ref h0, .int (zi sl), .int (zi 1)]) (n := 4) (Nat.le_of_ble_eq_true rfl)
  rw [lg_entry_eq]
  generalize (lg_sl ([.ref h0, .int (zi sl), .int (zi 1)]) ++ List.replicate (4 - (lg_sl ([.ref h0, .int (zi sl), .int (zi 1)])).length) Slot.unset).toArray = ls at hl ⊢
  have hl : lv_has ls 4 [(0, .ref h0), (1, .int (zi sl)), (2, .int (zi 1))] := hl
  refine lv_iload_n hx hb dX4_write_0 rfl (lv_at hl 1 rfl) ?_
  have hh1 := c_X4_needSlot l sl (by omega)
  refine va_csv (va_Run.run (va_runS (As := [.int (zi sl)]) (rest := []) ⟨hx, hb, hml, hown, hts⟩ hh1 (va_cwS 1 hts gX4_write_X4_needSlot rfl rfl rfl (by decide +kernel) ⟨Nat.le_of_ble_eq_true rfl, Nat.le_of_ble_eq_true rfl⟩) ⟨fun a U g mk q => q, fun U hU hW => ⟨rfl, trivial⟩⟩ rfl rfl hl.1 rfl (lv_room (Nat.le_of_ble_eq_true rfl)) dX4_write_1 ⟨Nat.le_of_ble_eq_true rfl, Nat.le_of_ble_eq_true rfl⟩)) (fun _ => ?_)
  refine lv_iload_n hx hb dX4_write_4 rfl (lv_at hl 2 rfl) ?_
  refine zw_if_lt (tgt := 13) hx hb dX4_write_5 (by decide) ⟨by omega, by omega⟩ (fun h2 => ?_) (fun h2 => ?_)
  · skip
    exact absurd True.intro (by omega)
  · skip
    refine lv_iload_n hx hb dX4_write_8 rfl (lv_at hl 2 rfl) ?_
    refine zw_iconst hx hb dX4_write_9 ?_
    refine zw_icmp_le (tgt := 23) hx hb dX4_write_10 (by decide) ⟨by omega, by omega⟩ ⟨by omega, by omega⟩ (fun h3 => ?_) (fun h3 => ?_)
    · skip
      refine lv_aload_n hx hb dX4_write_23 rfl (lv_at hl 0 rfl) ?_
      refine lv_iload_n hx hb dX4_write_24 rfl (lv_at hl 1 rfl) ?_
      have hh4 := c_X4_dateIn l dC dI cI h0 qs qr qm qw qt we sf sl (by omega) (by omega)
      have hPc := hP.sub (ws' := [(h0, .inr (4, [.ref qs, .ref qr, .ref qm, .ref qw, .ref qt, .int (zi we)])), (qs, aI cI 10 sf)]) [0, 1] rfl
      have hKc : va_K (dC, dI) vwCl [(cI, .int)] s := hK
      refine vp_callSi (va_Run.run (va_runV (As := [.int (zi sl)]) (rest := []) ⟨hx, hb, hml, hown, hts⟩ hh4 (cwV 1 hts gX4_write_X4_dateIn rfl rfl rfl (by decide +kernel) ⟨Nat.le_of_ble_eq_true rfl, Nat.le_of_ble_eq_true rfl⟩) ⟨zPr.blind _ _ _ _, va_recv hKc hPc (ci := 4) (q0 := 0) rfl rfl, fun U hU hW => ⟨rfl, by rw [hU]; exact hPc, va_K.moved hW.alike hKc⟩⟩ rfl rfl hl.1 rfl (lv_room (Nat.le_of_ble_eq_true rfl)) dX4_write_25 ⟨Nat.le_of_ble_eq_true rfl, Nat.le_of_ble_eq_true rfl⟩)) (fun r4 (hr4 : r4 = zi (sf sl.toNat)) => ?_)
      subst hr4
      refine zw_top (fun x5 ex5 => ?_)
      refine lv_istore_n (lv' := [(3, .int (zi x5)), (0, .ref h0), (1, .int (zi sl)), (2, .int (zi 1))]) hx hb dX4_write_28 rfl hl (by decide) rfl (fun ls hl => ?_)
      refine lv_aload_n hx hb dX4_write_29 rfl (lv_at hl 1 rfl) ?_
      refine va_get (D := (dC, dI)) (ci := 4) (v := .ref qw) (C := RX4) (T := TX4) (N := 6) hx hb hts (by decide +kernel) hown hK hP 0 rfl rfl 3 (by decide) (hts (.fieldLink RX4 30 "CivilDays" "written" "LCivilDays$Line;") (by decide +kernel)) (fun _ h9 => h9) rfl dX4_write_30 ?_
      have hh6 := c_X1_empty l dC dI cI qw wc wl wf s.heap.size 
      have hPc := hP.sub (ws' := [(qw, .inr (1, [.ref wc, .int (zi wl)])), (wc, aI cI 20 wf)]) [2, 3] rfl
      have hKc : va_K (dC, dI) vwCl [(cI, .int)] s := hK
      have hDc := hD.sub (ws' := [(qw, .inr (1, [.ref wc, .int (zi wl)])), (wc, aI cI 20 wf)]) [2, 3] (by decide) rfl
      have hFc := va_free (wc := [(qw, .inr (1, [.ref wc, .int (zi wl)])), (wc, aI cI 20 wf)]) hD hS hA [2, 3] rfl
      refine va_callv (va_runV (As := []) (rest := []) ⟨hx, hb, hml, hown, hts⟩ hh6 (cwV 0 hts gX4_write_X1_empty rfl rfl rfl (by decide +kernel) ⟨Nat.le_of_ble_eq_true rfl, Nat.le_of_ble_eq_true rfl⟩) ⟨zPw.blind _ _ _ _ _, va_recv hKc hPc (ci := 1) (q0 := 0) rfl rfl, fun U hU hW => ⟨rfl, by rw [hU], by rw [hU]; exact hPc, va_K.moved hW.alike hKc, hDc.weaken (fun _ _ _ _ => trivial)⟩⟩ rfl rfl hl.1 rfl (lv_room (Nat.le_of_ble_eq_true rfl)) dX4_write_33 ⟨Nat.le_of_ble_eq_true rfl, Nat.le_of_ble_eq_true rfl⟩) hS (fun q _ h => hFc q h) hFc (fun u t H1 locs ht hvm hw hB hz1 hk1 hS => ?_)
      obtain ⟨hP1, hK1, hD1⟩ := hB
      rw [ht] at hP1
      obtain ⟨hP, hD⟩ := va_join (wr := [(h0, .inr (4, [.ref qs, .ref qr, .ref qm, .ref qw, .ref qt, .int (zi we)])), (qs, aI cI 10 sf)]) (w1 := [(qw, .inr (1, [.ref wc, .int (zi 0)])), (wc, aI cI 20 wf)]) hP hD [2, 3] [0, 1] rfl rfl (by decide) (by decide) hk1 hFc hP1 hD1
      generalize H1 = H at hP hS ⊢
      have hP : va_P (dC, dI) vwCl [(h0, .inr (4, [.ref qs, .ref qr, .ref qm, .ref qw, .ref qt, .int (zi we)])), (qs, aI cI 10 sf), (qw, .inr (1, [.ref wc, .int (zi 0)])), (wc, aI cI 20 wf)] H := hP
      have hD : va_D A [(h0, .inr (4, [.ref qs, .ref qr, .ref qm, .ref qw, .ref qt, .int (zi we)])), (qs, aI cI 10 sf), (qw, .inr (1, [.ref wc, .int (zi 0)])), (wc, aI cI 20 wf)] := hD
      refine lv_iload_n hx hb dX4_write_36 rfl (lv_at hl 3 rfl) ?_
      refine zw_lookup (tgt := 72) (off := 35) hx hb dX4_write_37 ⟨by omega, by omega⟩ (by decide) (by decide) (by decide) ?_
      refine lv_aload_n hx hb dX4_write_72 rfl (lv_at hl 1 rfl) ?_
      refine lv_iload_n hx hb dX4_write_73 rfl (lv_at hl 0 rfl) ?_
      have hh7 := c_X4_putWeek l dC dI cI h0 qs qr qm qw qt we wc wf x5 H.size (by omega)
      have hPc := hP.sub (ws' := [(h0, .inr (4, [.ref qs, .ref qr, .ref qm, .ref qw, .ref qt, .int (zi we)])), (qw, .inr (1, [.ref wc, .int (zi 0)])), (wc, aI cI 20 wf)]) [0, 2, 3] rfl
      have hKc : va_K (dC, dI) vwCl [(cI, .int)] s := hK
      have hDc := hD.sub (ws' := [(h0, .inr (4, [.ref qs, .ref qr, .ref qm, .ref qw, .ref qt, .int (zi we)])), (qw, .inr (1, [.ref wc, .int (zi 0)])), (wc, aI cI 20 wf)]) [0, 2, 3] (by decide) rfl
      have hFc := va_free (wc := [(h0, .inr (4, [.ref qs, .ref qr, .ref qm, .ref qw, .ref qt, .int (zi we)])), (qw, .inr (1, [.ref wc, .int (zi 0)])), (wc, aI cI 20 wf)]) hD hS hA [0, 2, 3] rfl
      refine va_callv (va_runV (As := [.int (zi x5)]) (rest := []) ⟨hx, hb, hml, hown, hts⟩ hh7 (cwV 1 hts gX4_write_X4_putWeek rfl rfl rfl (by decide +kernel) ⟨Nat.le_of_ble_eq_true rfl, Nat.le_of_ble_eq_true rfl⟩) ⟨zPw.blind _ _ _ _ _, va_recv hKc hPc (ci := 4) (q0 := 0) rfl rfl, fun U hU hW => ⟨rfl, by rw [hU], by rw [hU]; exact hPc, va_K.moved hW.alike hKc, hDc.weaken (fun _ _ _ _ => trivial)⟩⟩ rfl rfl hl.1 rfl (lv_room (Nat.le_of_ble_eq_true rfl)) dX4_write_74 ⟨Nat.le_of_ble_eq_true rfl, Nat.le_of_ble_eq_true rfl⟩) hS (fun q _ h => hFc q h) hFc (fun u t H1 locs ht hvm hw hB hz1 hk1 hS => ?_)
      obtain ⟨hP1, hK1, hD1⟩ := hB
      rw [ht] at hP1
      obtain ⟨hP, hD⟩ := va_join (wr := [(qs, aI cI 10 sf)]) (w1 := [(h0, .inr (4, [.ref qs, .ref qr, .ref qm, .ref qw, .ref qt, .int (zi we)])), (qw, .inr (1, [.ref wc, .int (zi ((((((((((0 + 1) + 1) + 1) + 1) + 1) + 1) + 1) + 1) + 1) + 1))])), (wc, aI cI 20 (zup (zup (zup (zup (zup (zup (zup (zup (zup (zup wf (Int.toNat 0) (48 + (((f_X0_weekYearOf x5) / 1000) % 10))) (Int.toNat (0 + 1)) (48 + (((f_X0_weekYearOf x5) / 100) % 10))) (Int.toNat ((0 + 1) + 1)) (48 + (((f_X0_weekYearOf x5) / 10) % 10))) (Int.toNat (((0 + 1) + 1) + 1)) (48 + (((f_X0_weekYearOf x5) / 1) % 10))) (Int.toNat ((((0 + 1) + 1) + 1) + 1)) 45) (Int.toNat (((((0 + 1) + 1) + 1) + 1) + 1)) 87) (Int.toNat ((((((0 + 1) + 1) + 1) + 1) + 1) + 1)) (48 + (((f_X0_weekOf x5) / 10) % 10))) (Int.toNat (((((((0 + 1) + 1) + 1) + 1) + 1) + 1) + 1)) (48 + (((f_X0_weekOf x5) / 1) % 10))) (Int.toNat ((((((((0 + 1) + 1) + 1) + 1) + 1) + 1) + 1) + 1)) 45) (Int.toNat (((((((((0 + 1) + 1) + 1) + 1) + 1) + 1) + 1) + 1) + 1)) (48 + (((f_X0_weekdayOf x5) / 1) % 10))))]) hP hD [0, 2, 3] [1] rfl rfl (by decide) (by decide) hk1 hFc hP1 hD1
      generalize H1 = H at hP hS ⊢
      have hP : va_P (dC, dI) vwCl [(qs, aI cI 10 sf), (h0, .inr (4, [.ref qs, .ref qr, .ref qm, .ref qw, .ref qt, .int (zi we)])), (qw, .inr (1, [.ref wc, .int (zi ((((((((((0 + 1) + 1) + 1) + 1) + 1) + 1) + 1) + 1) + 1) + 1))])), (wc, aI cI 20 (zup (zup (zup (zup (zup (zup (zup (zup (zup (zup wf (Int.toNat 0) (48 + (((f_X0_weekYearOf x5) / 1000) % 10))) (Int.toNat (0 + 1)) (48 + (((f_X0_weekYearOf x5) / 100) % 10))) (Int.toNat ((0 + 1) + 1)) (48 + (((f_X0_weekYearOf x5) / 10) % 10))) (Int.toNat (((0 + 1) + 1) + 1)) (48 + (((f_X0_weekYearOf x5) / 1) % 10))) (Int.toNat ((((0 + 1) + 1) + 1) + 1)) 45) (Int.toNat (((((0 + 1) + 1) + 1) + 1) + 1)) 87) (Int.toNat ((((((0 + 1) + 1) + 1) + 1) + 1) + 1)) (48 + (((f_X0_weekOf x5) / 10) % 10))) (Int.toNat (((((((0 + 1) + 1) + 1) + 1) + 1) + 1) + 1)) (48 + (((f_X0_weekOf x5) / 1) % 10))) (Int.toNat ((((((((0 + 1) + 1) + 1) + 1) + 1) + 1) + 1) + 1)) 45) (Int.toNat (((((((((0 + 1) + 1) + 1) + 1) + 1) + 1) + 1) + 1) + 1)) (48 + (((f_X0_weekdayOf x5) / 1) % 10))))] H := hP
      have hD : va_D A [(qs, aI cI 10 sf), (h0, .inr (4, [.ref qs, .ref qr, .ref qm, .ref qw, .ref qt, .int (zi we)])), (qw, .inr (1, [.ref wc, .int (zi ((((((((((0 + 1) + 1) + 1) + 1) + 1) + 1) + 1) + 1) + 1) + 1))])), (wc, aI cI 20 (zup (zup (zup (zup (zup (zup (zup (zup (zup (zup wf (Int.toNat 0) (48 + (((f_X0_weekYearOf x5) / 1000) % 10))) (Int.toNat (0 + 1)) (48 + (((f_X0_weekYearOf x5) / 100) % 10))) (Int.toNat ((0 + 1) + 1)) (48 + (((f_X0_weekYearOf x5) / 10) % 10))) (Int.toNat (((0 + 1) + 1) + 1)) (48 + (((f_X0_weekYearOf x5) / 1) % 10))) (Int.toNat ((((0 + 1) + 1) + 1) + 1)) 45) (Int.toNat (((((0 + 1) + 1) + 1) + 1) + 1)) 87) (Int.toNat ((((((0 + 1) + 1) + 1) + 1) + 1) + 1)) (48 + (((f_X0_weekOf x5) / 10) % 10))) (Int.toNat (((((((0 + 1) + 1) + 1) + 1) + 1) + 1) + 1)) (48 + (((f_X0_weekOf x5) / 1) % 10))) (Int.toNat ((((((((0 + 1) + 1) + 1) + 1) + 1) + 1) + 1) + 1)) 45) (Int.toNat (((((((((0 + 1) + 1) + 1) + 1) + 1) + 1) + 1) + 1) + 1)) (48 + (((f_X0_weekdayOf x5) / 1) % 10))))] := hD
      refine lv_goto (tgt := 85) hx hb dX4_write_77 (by decide) ?_
      refine lv_aload_n hx hb dX4_write_85 rfl (lv_at hl 1 rfl) ?_
      refine va_get (D := (dC, dI)) (ci := 4) (v := .ref qw) (C := RX4) (T := TX4) (N := 6) hx hb hts (by decide +kernel) hown hK hP 1 rfl rfl 3 (by decide) (hts (.fieldLink RX4 30 "CivilDays" "written" "LCivilDays$Line;") (by decide +kernel)) (fun _ h9 => h9) rfl dX4_write_86 ?_
      have hh8 := c_X1_size l dC dI cI qw wc ((((((((((0 + 1) + 1) + 1) + 1) + 1) + 1) + 1) + 1) + 1) + 1) (zup (zup (zup (zup (zup (zup (zup (zup (zup (zup wf (Int.toNat 0) (48 + (((f_X0_weekYearOf x5) / 1000) % 10))) (Int.toNat (0 + 1)) (48 + (((f_X0_weekYearOf x5) / 100) % 10))) (Int.toNat ((0 + 1) + 1)) (48 + (((f_X0_weekYearOf x5) / 10) % 10))) (Int.toNat (((0 + 1) + 1) + 1)) (48 + (((f_X0_weekYearOf x5) / 1) % 10))) (Int.toNat ((((0 + 1) + 1) + 1) + 1)) 45) (Int.toNat (((((0 + 1) + 1) + 1) + 1) + 1)) 87) (Int.toNat ((((((0 + 1) + 1) + 1) + 1) + 1) + 1)) (48 + (((f_X0_weekOf x5) / 10) % 10))) (Int.toNat (((((((0 + 1) + 1) + 1) + 1) + 1) + 1) + 1)) (48 + (((f_X0_weekOf x5) / 1) % 10))) (Int.toNat ((((((((0 + 1) + 1) + 1) + 1) + 1) + 1) + 1) + 1)) 45) (Int.toNat (((((((((0 + 1) + 1) + 1) + 1) + 1) + 1) + 1) + 1) + 1)) (48 + (((f_X0_weekdayOf x5) / 1) % 10))) 
      have hPc := hP.sub (ws' := [(qw, .inr (1, [.ref wc, .int (zi ((((((((((0 + 1) + 1) + 1) + 1) + 1) + 1) + 1) + 1) + 1) + 1))])), (wc, aI cI 20 (zup (zup (zup (zup (zup (zup (zup (zup (zup (zup wf (Int.toNat 0) (48 + (((f_X0_weekYearOf x5) / 1000) % 10))) (Int.toNat (0 + 1)) (48 + (((f_X0_weekYearOf x5) / 100) % 10))) (Int.toNat ((0 + 1) + 1)) (48 + (((f_X0_weekYearOf x5) / 10) % 10))) (Int.toNat (((0 + 1) + 1) + 1)) (48 + (((f_X0_weekYearOf x5) / 1) % 10))) (Int.toNat ((((0 + 1) + 1) + 1) + 1)) 45) (Int.toNat (((((0 + 1) + 1) + 1) + 1) + 1)) 87) (Int.toNat ((((((0 + 1) + 1) + 1) + 1) + 1) + 1)) (48 + (((f_X0_weekOf x5) / 10) % 10))) (Int.toNat (((((((0 + 1) + 1) + 1) + 1) + 1) + 1) + 1)) (48 + (((f_X0_weekOf x5) / 1) % 10))) (Int.toNat ((((((((0 + 1) + 1) + 1) + 1) + 1) + 1) + 1) + 1)) 45) (Int.toNat (((((((((0 + 1) + 1) + 1) + 1) + 1) + 1) + 1) + 1) + 1)) (48 + (((f_X0_weekdayOf x5) / 1) % 10))))]) [2, 3] rfl
      have hKc : va_K (dC, dI) vwCl [(cI, .int)] s := hK
      refine vp_callSi (va_Run.run (va_runV (As := []) (rest := []) ⟨hx, hb, hml, hown, hts⟩ hh8 (cwV 0 hts gX4_write_X1_size rfl rfl rfl (by decide +kernel) ⟨Nat.le_of_ble_eq_true rfl, Nat.le_of_ble_eq_true rfl⟩) ⟨zPr.blind _ _ _ _, va_recv hKc hPc (ci := 1) (q0 := 0) rfl rfl, fun U hU hW => ⟨rfl, by rw [hU]; exact hPc, va_K.moved hW.alike hKc⟩⟩ rfl rfl hl.1 rfl (lv_room (Nat.le_of_ble_eq_true rfl)) dX4_write_89 ⟨Nat.le_of_ble_eq_true rfl, Nat.le_of_ble_eq_true rfl⟩)) (fun r8 (hr8 : r8 = zi ((((((((((0 + 1) + 1) + 1) + 1) + 1) + 1) + 1) + 1) + 1) + 1)) => ?_)
      subst hr8
      subst ex5
      have hP9 := hP.sub (ws' := [(h0, .inr (4, [.ref qs, .ref qr, .ref qm, .ref qw, .ref qt, .int (zi we)])), (qs, aI cI 10 sf), (qw, .inr (1, [.ref wc, .int (zi ((((((((((0 + 1) + 1) + 1) + 1) + 1) + 1) + 1) + 1) + 1) + 1))])), (wc, aI cI 20 (zup (zup (zup (zup (zup (zup (zup (zup (zup (zup wf (Int.toNat 0) (48 + (((f_X0_weekYearOf (sf sl.toNat)) / 1000) % 10))) (Int.toNat (0 + 1)) (48 + (((f_X0_weekYearOf (sf sl.toNat)) / 100) % 10))) (Int.toNat ((0 + 1) + 1)) (48 + (((f_X0_weekYearOf (sf sl.toNat)) / 10) % 10))) (Int.toNat (((0 + 1) + 1) + 1)) (48 + (((f_X0_weekYearOf (sf sl.toNat)) / 1) % 10))) (Int.toNat ((((0 + 1) + 1) + 1) + 1)) 45) (Int.toNat (((((0 + 1) + 1) + 1) + 1) + 1)) 87) (Int.toNat ((((((0 + 1) + 1) + 1) + 1) + 1) + 1)) (48 + (((f_X0_weekOf (sf sl.toNat)) / 10) % 10))) (Int.toNat (((((((0 + 1) + 1) + 1) + 1) + 1) + 1) + 1)) (48 + (((f_X0_weekOf (sf sl.toNat)) / 1) % 10))) (Int.toNat ((((((((0 + 1) + 1) + 1) + 1) + 1) + 1) + 1) + 1)) 45) (Int.toNat (((((((((0 + 1) + 1) + 1) + 1) + 1) + 1) + 1) + 1) + 1)) (48 + (((f_X0_weekdayOf (sf sl.toNat)) / 1) % 10))))]) [1, 0, 2, 3] rfl
      have hD9 := hD.sub (ws' := [(h0, .inr (4, [.ref qs, .ref qr, .ref qm, .ref qw, .ref qt, .int (zi we)])), (qs, aI cI 10 sf), (qw, .inr (1, [.ref wc, .int (zi ((((((((((0 + 1) + 1) + 1) + 1) + 1) + 1) + 1) + 1) + 1) + 1))])), (wc, aI cI 20 (zup (zup (zup (zup (zup (zup (zup (zup (zup (zup wf (Int.toNat 0) (48 + (((f_X0_weekYearOf (sf sl.toNat)) / 1000) % 10))) (Int.toNat (0 + 1)) (48 + (((f_X0_weekYearOf (sf sl.toNat)) / 100) % 10))) (Int.toNat ((0 + 1) + 1)) (48 + (((f_X0_weekYearOf (sf sl.toNat)) / 10) % 10))) (Int.toNat (((0 + 1) + 1) + 1)) (48 + (((f_X0_weekYearOf (sf sl.toNat)) / 1) % 10))) (Int.toNat ((((0 + 1) + 1) + 1) + 1)) 45) (Int.toNat (((((0 + 1) + 1) + 1) + 1) + 1)) 87) (Int.toNat ((((((0 + 1) + 1) + 1) + 1) + 1) + 1)) (48 + (((f_X0_weekOf (sf sl.toNat)) / 10) % 10))) (Int.toNat (((((((0 + 1) + 1) + 1) + 1) + 1) + 1) + 1)) (48 + (((f_X0_weekOf (sf sl.toNat)) / 1) % 10))) (Int.toNat ((((((((0 + 1) + 1) + 1) + 1) + 1) + 1) + 1) + 1)) 45) (Int.toNat (((((((((0 + 1) + 1) + 1) + 1) + 1) + 1) + 1) + 1) + 1)) (48 + (((f_X0_weekdayOf (sf sl.toNat)) / 1) % 10))))]) [1, 0, 2, 3] (by decide) rfl
      exact W.iret (v := zi ((((((((((0 + 1) + 1) + 1) + 1) + 1) + 1) + 1) + 1) + 1) + 1)) hx hb hr (fun t ht hW => ⟨⟨zi ((((((((((0 + 1) + 1) + 1) + 1) + 1) + 1) + 1) + 1) + 1) + 1), (), rfl, rfl, by rw [ht]; exact hP9, va_K.moved hW.alike hK, hD9⟩, hS.F ht⟩) hS.2.2 dX4_write_92
    · skip
      exact absurd True.intro (by omega)

set_option maxHeartbeats 4000000 in
set_option maxRecDepth 100000 in
theorem c_X4_write_2 (l : Launch)  (dC : Nat → ClassId) (dI : Nat → Nat → Nat) (cI : ClassId) (h0 : Nat) (qs : Nat) (qr : Nat) (qm : Nat) (qw : Nat) (qt : Nat) (we : Int) (sf : Nat → Int) (wc : Nat) (wl : Int) (wf : Nat → Int) (sl : Int) (sz : Nat) (hp0 : 0 ≤ sl ∧ sl ≤ 9) (hp1 : 0 ≤ sf sl.toNat ∧ sf sl.toNat ≤ 3652058) : Met l yX4_write wsX4_write ({ frames := 4, cells := 0, slots := 0, locals := 86 }) (zPw (dC, dI) [(cI, .int)] sz [.ref h0, .int (zi sl), .int (zi 2)] [(h0, .inr (4, [.ref qs, .ref qr, .ref qm, .ref qw, .ref qt, .int (zi we)])), (qs, aI cI 10 sf), (qw, .inr (1, [.ref wc, .int (zi wl)])), (wc, aI cI 20 wf)]) (va_Qi (fun (r : Int32) (_ : Unit) => r = zi ((((((((0 + 1) + 1) + 1) + 1) + 1) + 1) + 1) + 1)) (zB (dC, dI) [(cI, .int)] (va_A [(h0, .inr (4, [.ref qs, .ref qr, .ref qm, .ref qw, .ref qt, .int (zi we)])), (qs, aI cI 10 sf), (qw, .inr (1, [.ref wc, .int (zi wl)])), (wc, aI cI 20 wf)] sz) [(h0, .inr (4, [.ref qs, .ref qr, .ref qm, .ref qw, .ref qt, .int (zi we)])), (qs, aI cI 10 sf), (qw, .inr (1, [.ref wc, .int (zi ((((((((0 + 1) + 1) + 1) + 1) + 1) + 1) + 1) + 1))])), (wc, aI cI 20 (zup (zup (zup (zup (zup (zup (zup (zup wf (Int.toNat 0) (48 + (((f_X0_yearOf (sf sl.toNat)) / 1000) % 10))) (Int.toNat (0 + 1)) (48 + (((f_X0_yearOf (sf sl.toNat)) / 100) % 10))) (Int.toNat ((0 + 1) + 1)) (48 + (((f_X0_yearOf (sf sl.toNat)) / 10) % 10))) (Int.toNat (((0 + 1) + 1) + 1)) (48 + (((f_X0_yearOf (sf sl.toNat)) / 1) % 10))) (Int.toNat ((((0 + 1) + 1) + 1) + 1)) 45) (Int.toNat (((((0 + 1) + 1) + 1) + 1) + 1)) (48 + (((f_X0_yearDayOf (sf sl.toNat)) / 100) % 10))) (Int.toNat ((((((0 + 1) + 1) + 1) + 1) + 1) + 1)) (48 + (((f_X0_yearDayOf (sf sl.toNat)) / 10) % 10))) (Int.toNat (((((((0 + 1) + 1) + 1) + 1) + 1) + 1) + 1)) (48 + (((f_X0_yearDayOf (sf sl.toNat)) / 1) % 10))))]) (va_A [(h0, .inr (4, [.ref qs, .ref qr, .ref qm, .ref qw, .ref qt, .int (zi we)])), (qs, aI cI 10 sf), (qw, .inr (1, [.ref wc, .int (zi wl)])), (wc, aI cI 20 wf)] sz)) 0 0 (va_A [(h0, .inr (4, [.ref qs, .ref qr, .ref qm, .ref qw, .ref qt, .int (zi we)])), (qs, aI cI 10 sf), (qw, .inr (1, [.ref wc, .int (zi wl)])), (wc, aI cI 20 wf)] sz) := by
  refine Met.ofW (cc := cX4_write) (maxL := 4) (ret := (some .int)) (by decide) rfl ?_
  intro p e s m args below meth c s₁ B hml hv
  obtain ⟨rfl, hsz, hP, hK, hD0⟩ := hv
  have hx := B.exec
  have hb := B.bytes
  have hr := B.returns
  have hts := atoms_spec (ws := wsX4_write) B.pre
  have hown : s.vm.findClass RX4 = some m.cls := findClass_of_methodNamed B.named
  have hlocks := B.notSynchronized
  subst hsz
  have hD := hD0.self (sz := s.heap.size)
  generalize hAe : va_A [(h0, .inr (4, [.ref qs, .ref qr, .ref qm, .ref qw, .ref qt, .int (zi we)])), (qs, aI cI 10 sf), (qw, .inr (1, [.ref wc, .int (zi wl)])), (wc, aI cI 20 wf)] s.heap.size = A at hD ⊢
  have hA : ∀ q : Nat, s.heap.size ≤ q → A q := fun q h => by rw [← hAe]; exact Or.inr h
  have hS : va_S A s.heap s.heap [] := va_S.rf
  have hP : va_P (dC, dI) vwCl [(h0, .inr (4, [.ref qs, .ref qr, .ref qm, .ref qw, .ref qt, .int (zi we)])), (qs, aI cI 10 sf), (qw, .inr (1, [.ref wc, .int (zi wl)])), (wc, aI cI 20 wf)] s.heap := hP
  have hl := lv_entry ([.ref h0, .int (zi sl), .int (zi 2)]) (n := 4) (Nat.le_of_ble_eq_true rfl)
  rw [lg_entry_eq]
  generalize (lg_sl ([.ref h0, .int (zi sl), .int (zi 2)]) ++ List.replicate (4 - (lg_sl ([.ref h0, .int (zi sl), .int (zi 2)])).length) Slot.unset).toArray = ls at hl ⊢
  have hl : lv_has ls 4 [(0, .ref h0), (1, .int (zi sl)), (2, .int (zi 2))] := hl
  refine lv_iload_n hx hb dX4_write_0 rfl (lv_at hl 1 rfl) ?_
  have hh1 := c_X4_needSlot l sl (by omega)
  refine va_csv (va_Run.run (va_runS (As := [.int (zi sl)]) (rest := []) ⟨hx, hb, hml, hown, hts⟩ hh1 (va_cwS 1 hts gX4_write_X4_needSlot rfl rfl rfl (by decide +kernel) ⟨Nat.le_of_ble_eq_true rfl, Nat.le_of_ble_eq_true rfl⟩) ⟨fun a U g mk q => q, fun U hU hW => ⟨rfl, trivial⟩⟩ rfl rfl hl.1 rfl (lv_room (Nat.le_of_ble_eq_true rfl)) dX4_write_1 ⟨Nat.le_of_ble_eq_true rfl, Nat.le_of_ble_eq_true rfl⟩)) (fun _ => ?_)
  refine lv_iload_n hx hb dX4_write_4 rfl (lv_at hl 2 rfl) ?_
  refine zw_if_lt (tgt := 13) hx hb dX4_write_5 (by decide) ⟨by omega, by omega⟩ (fun h2 => ?_) (fun h2 => ?_)
  · skip
    exact absurd True.intro (by omega)
  · skip
    refine lv_iload_n hx hb dX4_write_8 rfl (lv_at hl 2 rfl) ?_
    refine zw_iconst hx hb dX4_write_9 ?_
    refine zw_icmp_le (tgt := 23) hx hb dX4_write_10 (by decide) ⟨by omega, by omega⟩ ⟨by omega, by omega⟩ (fun h3 => ?_) (fun h3 => ?_)
    · skip
      refine lv_aload_n hx hb dX4_write_23 rfl (lv_at hl 0 rfl) ?_
      refine lv_iload_n hx hb dX4_write_24 rfl (lv_at hl 1 rfl) ?_
      have hh4 := c_X4_dateIn l dC dI cI h0 qs qr qm qw qt we sf sl (by omega) (by omega)
      have hPc := hP.sub (ws' := [(h0, .inr (4, [.ref qs, .ref qr, .ref qm, .ref qw, .ref qt, .int (zi we)])), (qs, aI cI 10 sf)]) [0, 1] rfl
      have hKc : va_K (dC, dI) vwCl [(cI, .int)] s := hK
      refine vp_callSi (va_Run.run (va_runV (As := [.int (zi sl)]) (rest := []) ⟨hx, hb, hml, hown, hts⟩ hh4 (cwV 1 hts gX4_write_X4_dateIn rfl rfl rfl (by decide +kernel) ⟨Nat.le_of_ble_eq_true rfl, Nat.le_of_ble_eq_true rfl⟩) ⟨zPr.blind _ _ _ _, va_recv hKc hPc (ci := 4) (q0 := 0) rfl rfl, fun U hU hW => ⟨rfl, by rw [hU]; exact hPc, va_K.moved hW.alike hKc⟩⟩ rfl rfl hl.1 rfl (lv_room (Nat.le_of_ble_eq_true rfl)) dX4_write_25 ⟨Nat.le_of_ble_eq_true rfl, Nat.le_of_ble_eq_true rfl⟩)) (fun r4 (hr4 : r4 = zi (sf sl.toNat)) => ?_)
      subst hr4
      refine zw_top (fun x5 ex5 => ?_)
      refine lv_istore_n (lv' := [(3, .int (zi x5)), (0, .ref h0), (1, .int (zi sl)), (2, .int (zi 2))]) hx hb dX4_write_28 rfl hl (by decide) rfl (fun ls hl => ?_)
      refine lv_aload_n hx hb dX4_write_29 rfl (lv_at hl 1 rfl) ?_
      refine va_get (D := (dC, dI)) (ci := 4) (v := .ref qw) (C := RX4) (T := TX4) (N := 6) hx hb hts (by decide +kernel) hown hK hP 0 rfl rfl 3 (by decide) (hts (.fieldLink RX4 30 "CivilDays" "written" "LCivilDays$Line;") (by decide +kernel)) (fun _ h9 => h9) rfl dX4_write_30 ?_
      have hh6 := c_X1_empty l dC dI cI qw wc wl wf s.heap.size 
      have hPc := hP.sub (ws' := [(qw, .inr (1, [.ref wc, .int (zi wl)])), (wc, aI cI 20 wf)]) [2, 3] rfl
      have hKc : va_K (dC, dI) vwCl [(cI, .int)] s := hK
      have hDc := hD.sub (ws' := [(qw, .inr (1, [.ref wc, .int (zi wl)])), (wc, aI cI 20 wf)]) [2, 3] (by decide) rfl
      have hFc := va_free (wc := [(qw, .inr (1, [.ref wc, .int (zi wl)])), (wc, aI cI 20 wf)]) hD hS hA [2, 3] rfl
      refine va_callv (va_runV (As := []) (rest := []) ⟨hx, hb, hml, hown, hts⟩ hh6 (cwV 0 hts gX4_write_X1_empty rfl rfl rfl (by decide +kernel) ⟨Nat.le_of_ble_eq_true rfl, Nat.le_of_ble_eq_true rfl⟩) ⟨zPw.blind _ _ _ _ _, va_recv hKc hPc (ci := 1) (q0 := 0) rfl rfl, fun U hU hW => ⟨rfl, by rw [hU], by rw [hU]; exact hPc, va_K.moved hW.alike hKc, hDc.weaken (fun _ _ _ _ => trivial)⟩⟩ rfl rfl hl.1 rfl (lv_room (Nat.le_of_ble_eq_true rfl)) dX4_write_33 ⟨Nat.le_of_ble_eq_true rfl, Nat.le_of_ble_eq_true rfl⟩) hS (fun q _ h => hFc q h) hFc (fun u t H1 locs ht hvm hw hB hz1 hk1 hS => ?_)
      obtain ⟨hP1, hK1, hD1⟩ := hB
      rw [ht] at hP1
      obtain ⟨hP, hD⟩ := va_join (wr := [(h0, .inr (4, [.ref qs, .ref qr, .ref qm, .ref qw, .ref qt, .int (zi we)])), (qs, aI cI 10 sf)]) (w1 := [(qw, .inr (1, [.ref wc, .int (zi 0)])), (wc, aI cI 20 wf)]) hP hD [2, 3] [0, 1] rfl rfl (by decide) (by decide) hk1 hFc hP1 hD1
      generalize H1 = H at hP hS ⊢
      have hP : va_P (dC, dI) vwCl [(h0, .inr (4, [.ref qs, .ref qr, .ref qm, .ref qw, .ref qt, .int (zi we)])), (qs, aI cI 10 sf), (qw, .inr (1, [.ref wc, .int (zi 0)])), (wc, aI cI 20 wf)] H := hP
      have hD : va_D A [(h0, .inr (4, [.ref qs, .ref qr, .ref qm, .ref qw, .ref qt, .int (zi we)])), (qs, aI cI 10 sf), (qw, .inr (1, [.ref wc, .int (zi 0)])), (wc, aI cI 20 wf)] := hD
      refine lv_iload_n hx hb dX4_write_36 rfl (lv_at hl 3 rfl) ?_
      refine zw_lookup (tgt := 80) (off := 43) hx hb dX4_write_37 ⟨by omega, by omega⟩ (by decide) (by decide) (by decide) ?_
      refine lv_aload_n hx hb dX4_write_80 rfl (lv_at hl 1 rfl) ?_
      refine lv_iload_n hx hb dX4_write_81 rfl (lv_at hl 0 rfl) ?_
      have hh7 := c_X4_putYearDay l dC dI cI h0 qs qr qm qw qt we wc wf x5 H.size (by omega)
      have hPc := hP.sub (ws' := [(h0, .inr (4, [.ref qs, .ref qr, .ref qm, .ref qw, .ref qt, .int (zi we)])), (qw, .inr (1, [.ref wc, .int (zi 0)])), (wc, aI cI 20 wf)]) [0, 2, 3] rfl
      have hKc : va_K (dC, dI) vwCl [(cI, .int)] s := hK
      have hDc := hD.sub (ws' := [(h0, .inr (4, [.ref qs, .ref qr, .ref qm, .ref qw, .ref qt, .int (zi we)])), (qw, .inr (1, [.ref wc, .int (zi 0)])), (wc, aI cI 20 wf)]) [0, 2, 3] (by decide) rfl
      have hFc := va_free (wc := [(h0, .inr (4, [.ref qs, .ref qr, .ref qm, .ref qw, .ref qt, .int (zi we)])), (qw, .inr (1, [.ref wc, .int (zi 0)])), (wc, aI cI 20 wf)]) hD hS hA [0, 2, 3] rfl
      refine va_callv (va_runV (As := [.int (zi x5)]) (rest := []) ⟨hx, hb, hml, hown, hts⟩ hh7 (cwV 1 hts gX4_write_X4_putYearDay rfl rfl rfl (by decide +kernel) ⟨Nat.le_of_ble_eq_true rfl, Nat.le_of_ble_eq_true rfl⟩) ⟨zPw.blind _ _ _ _ _, va_recv hKc hPc (ci := 4) (q0 := 0) rfl rfl, fun U hU hW => ⟨rfl, by rw [hU], by rw [hU]; exact hPc, va_K.moved hW.alike hKc, hDc.weaken (fun _ _ _ _ => trivial)⟩⟩ rfl rfl hl.1 rfl (lv_room (Nat.le_of_ble_eq_true rfl)) dX4_write_82 ⟨Nat.le_of_ble_eq_true rfl, Nat.le_of_ble_eq_true rfl⟩) hS (fun q _ h => hFc q h) hFc (fun u t H1 locs ht hvm hw hB hz1 hk1 hS => ?_)
      obtain ⟨hP1, hK1, hD1⟩ := hB
      rw [ht] at hP1
      obtain ⟨hP, hD⟩ := va_join (wr := [(qs, aI cI 10 sf)]) (w1 := [(h0, .inr (4, [.ref qs, .ref qr, .ref qm, .ref qw, .ref qt, .int (zi we)])), (qw, .inr (1, [.ref wc, .int (zi ((((((((0 + 1) + 1) + 1) + 1) + 1) + 1) + 1) + 1))])), (wc, aI cI 20 (zup (zup (zup (zup (zup (zup (zup (zup wf (Int.toNat 0) (48 + (((f_X0_yearOf x5) / 1000) % 10))) (Int.toNat (0 + 1)) (48 + (((f_X0_yearOf x5) / 100) % 10))) (Int.toNat ((0 + 1) + 1)) (48 + (((f_X0_yearOf x5) / 10) % 10))) (Int.toNat (((0 + 1) + 1) + 1)) (48 + (((f_X0_yearOf x5) / 1) % 10))) (Int.toNat ((((0 + 1) + 1) + 1) + 1)) 45) (Int.toNat (((((0 + 1) + 1) + 1) + 1) + 1)) (48 + (((f_X0_yearDayOf x5) / 100) % 10))) (Int.toNat ((((((0 + 1) + 1) + 1) + 1) + 1) + 1)) (48 + (((f_X0_yearDayOf x5) / 10) % 10))) (Int.toNat (((((((0 + 1) + 1) + 1) + 1) + 1) + 1) + 1)) (48 + (((f_X0_yearDayOf x5) / 1) % 10))))]) hP hD [0, 2, 3] [1] rfl rfl (by decide) (by decide) hk1 hFc hP1 hD1
      generalize H1 = H at hP hS ⊢
      have hP : va_P (dC, dI) vwCl [(qs, aI cI 10 sf), (h0, .inr (4, [.ref qs, .ref qr, .ref qm, .ref qw, .ref qt, .int (zi we)])), (qw, .inr (1, [.ref wc, .int (zi ((((((((0 + 1) + 1) + 1) + 1) + 1) + 1) + 1) + 1))])), (wc, aI cI 20 (zup (zup (zup (zup (zup (zup (zup (zup wf (Int.toNat 0) (48 + (((f_X0_yearOf x5) / 1000) % 10))) (Int.toNat (0 + 1)) (48 + (((f_X0_yearOf x5) / 100) % 10))) (Int.toNat ((0 + 1) + 1)) (48 + (((f_X0_yearOf x5) / 10) % 10))) (Int.toNat (((0 + 1) + 1) + 1)) (48 + (((f_X0_yearOf x5) / 1) % 10))) (Int.toNat ((((0 + 1) + 1) + 1) + 1)) 45) (Int.toNat (((((0 + 1) + 1) + 1) + 1) + 1)) (48 + (((f_X0_yearDayOf x5) / 100) % 10))) (Int.toNat ((((((0 + 1) + 1) + 1) + 1) + 1) + 1)) (48 + (((f_X0_yearDayOf x5) / 10) % 10))) (Int.toNat (((((((0 + 1) + 1) + 1) + 1) + 1) + 1) + 1)) (48 + (((f_X0_yearDayOf x5) / 1) % 10))))] H := hP
      have hD : va_D A [(qs, aI cI 10 sf), (h0, .inr (4, [.ref qs, .ref qr, .ref qm, .ref qw, .ref qt, .int (zi we)])), (qw, .inr (1, [.ref wc, .int (zi ((((((((0 + 1) + 1) + 1) + 1) + 1) + 1) + 1) + 1))])), (wc, aI cI 20 (zup (zup (zup (zup (zup (zup (zup (zup wf (Int.toNat 0) (48 + (((f_X0_yearOf x5) / 1000) % 10))) (Int.toNat (0 + 1)) (48 + (((f_X0_yearOf x5) / 100) % 10))) (Int.toNat ((0 + 1) + 1)) (48 + (((f_X0_yearOf x5) / 10) % 10))) (Int.toNat (((0 + 1) + 1) + 1)) (48 + (((f_X0_yearOf x5) / 1) % 10))) (Int.toNat ((((0 + 1) + 1) + 1) + 1)) 45) (Int.toNat (((((0 + 1) + 1) + 1) + 1) + 1)) (48 + (((f_X0_yearDayOf x5) / 100) % 10))) (Int.toNat ((((((0 + 1) + 1) + 1) + 1) + 1) + 1)) (48 + (((f_X0_yearDayOf x5) / 10) % 10))) (Int.toNat (((((((0 + 1) + 1) + 1) + 1) + 1) + 1) + 1)) (48 + (((f_X0_yearDayOf x5) / 1) % 10))))] := hD
      refine lv_aload_n hx hb dX4_write_85 rfl (lv_at hl 1 rfl) ?_
      refine va_get (D := (dC, dI)) (ci := 4) (v := .ref qw) (C := RX4) (T := TX4) (N := 6) hx hb hts (by decide +kernel) hown hK hP 1 rfl rfl 3 (by decide) (hts (.fieldLink RX4 30 "CivilDays" "written" "LCivilDays$Line;") (by decide +kernel)) (fun _ h9 => h9) rfl dX4_write_86 ?_
      have hh8 := c_X1_size l dC dI cI qw wc ((((((((0 + 1) + 1) + 1) + 1) + 1) + 1) + 1) + 1) (zup (zup (zup (zup (zup (zup (zup (zup wf (Int.toNat 0) (48 + (((f_X0_yearOf x5) / 1000) % 10))) (Int.toNat (0 + 1)) (48 + (((f_X0_yearOf x5) / 100) % 10))) (Int.toNat ((0 + 1) + 1)) (48 + (((f_X0_yearOf x5) / 10) % 10))) (Int.toNat (((0 + 1) + 1) + 1)) (48 + (((f_X0_yearOf x5) / 1) % 10))) (Int.toNat ((((0 + 1) + 1) + 1) + 1)) 45) (Int.toNat (((((0 + 1) + 1) + 1) + 1) + 1)) (48 + (((f_X0_yearDayOf x5) / 100) % 10))) (Int.toNat ((((((0 + 1) + 1) + 1) + 1) + 1) + 1)) (48 + (((f_X0_yearDayOf x5) / 10) % 10))) (Int.toNat (((((((0 + 1) + 1) + 1) + 1) + 1) + 1) + 1)) (48 + (((f_X0_yearDayOf x5) / 1) % 10))) 
      have hPc := hP.sub (ws' := [(qw, .inr (1, [.ref wc, .int (zi ((((((((0 + 1) + 1) + 1) + 1) + 1) + 1) + 1) + 1))])), (wc, aI cI 20 (zup (zup (zup (zup (zup (zup (zup (zup wf (Int.toNat 0) (48 + (((f_X0_yearOf x5) / 1000) % 10))) (Int.toNat (0 + 1)) (48 + (((f_X0_yearOf x5) / 100) % 10))) (Int.toNat ((0 + 1) + 1)) (48 + (((f_X0_yearOf x5) / 10) % 10))) (Int.toNat (((0 + 1) + 1) + 1)) (48 + (((f_X0_yearOf x5) / 1) % 10))) (Int.toNat ((((0 + 1) + 1) + 1) + 1)) 45) (Int.toNat (((((0 + 1) + 1) + 1) + 1) + 1)) (48 + (((f_X0_yearDayOf x5) / 100) % 10))) (Int.toNat ((((((0 + 1) + 1) + 1) + 1) + 1) + 1)) (48 + (((f_X0_yearDayOf x5) / 10) % 10))) (Int.toNat (((((((0 + 1) + 1) + 1) + 1) + 1) + 1) + 1)) (48 + (((f_X0_yearDayOf x5) / 1) % 10))))]) [2, 3] rfl
      have hKc : va_K (dC, dI) vwCl [(cI, .int)] s := hK
      refine vp_callSi (va_Run.run (va_runV (As := []) (rest := []) ⟨hx, hb, hml, hown, hts⟩ hh8 (cwV 0 hts gX4_write_X1_size rfl rfl rfl (by decide +kernel) ⟨Nat.le_of_ble_eq_true rfl, Nat.le_of_ble_eq_true rfl⟩) ⟨zPr.blind _ _ _ _, va_recv hKc hPc (ci := 1) (q0 := 0) rfl rfl, fun U hU hW => ⟨rfl, by rw [hU]; exact hPc, va_K.moved hW.alike hKc⟩⟩ rfl rfl hl.1 rfl (lv_room (Nat.le_of_ble_eq_true rfl)) dX4_write_89 ⟨Nat.le_of_ble_eq_true rfl, Nat.le_of_ble_eq_true rfl⟩)) (fun r8 (hr8 : r8 = zi ((((((((0 + 1) + 1) + 1) + 1) + 1) + 1) + 1) + 1)) => ?_)
      subst hr8
      subst ex5
      have hP9 := hP.sub (ws' := [(h0, .inr (4, [.ref qs, .ref qr, .ref qm, .ref qw, .ref qt, .int (zi we)])), (qs, aI cI 10 sf), (qw, .inr (1, [.ref wc, .int (zi ((((((((0 + 1) + 1) + 1) + 1) + 1) + 1) + 1) + 1))])), (wc, aI cI 20 (zup (zup (zup (zup (zup (zup (zup (zup wf (Int.toNat 0) (48 + (((f_X0_yearOf (sf sl.toNat)) / 1000) % 10))) (Int.toNat (0 + 1)) (48 + (((f_X0_yearOf (sf sl.toNat)) / 100) % 10))) (Int.toNat ((0 + 1) + 1)) (48 + (((f_X0_yearOf (sf sl.toNat)) / 10) % 10))) (Int.toNat (((0 + 1) + 1) + 1)) (48 + (((f_X0_yearOf (sf sl.toNat)) / 1) % 10))) (Int.toNat ((((0 + 1) + 1) + 1) + 1)) 45) (Int.toNat (((((0 + 1) + 1) + 1) + 1) + 1)) (48 + (((f_X0_yearDayOf (sf sl.toNat)) / 100) % 10))) (Int.toNat ((((((0 + 1) + 1) + 1) + 1) + 1) + 1)) (48 + (((f_X0_yearDayOf (sf sl.toNat)) / 10) % 10))) (Int.toNat (((((((0 + 1) + 1) + 1) + 1) + 1) + 1) + 1)) (48 + (((f_X0_yearDayOf (sf sl.toNat)) / 1) % 10))))]) [1, 0, 2, 3] rfl
      have hD9 := hD.sub (ws' := [(h0, .inr (4, [.ref qs, .ref qr, .ref qm, .ref qw, .ref qt, .int (zi we)])), (qs, aI cI 10 sf), (qw, .inr (1, [.ref wc, .int (zi ((((((((0 + 1) + 1) + 1) + 1) + 1) + 1) + 1) + 1))])), (wc, aI cI 20 (zup (zup (zup (zup (zup (zup (zup (zup wf (Int.toNat 0) (48 + (((f_X0_yearOf (sf sl.toNat)) / 1000) % 10))) (Int.toNat (0 + 1)) (48 + (((f_X0_yearOf (sf sl.toNat)) / 100) % 10))) (Int.toNat ((0 + 1) + 1)) (48 + (((f_X0_yearOf (sf sl.toNat)) / 10) % 10))) (Int.toNat (((0 + 1) + 1) + 1)) (48 + (((f_X0_yearOf (sf sl.toNat)) / 1) % 10))) (Int.toNat ((((0 + 1) + 1) + 1) + 1)) 45) (Int.toNat (((((0 + 1) + 1) + 1) + 1) + 1)) (48 + (((f_X0_yearDayOf (sf sl.toNat)) / 100) % 10))) (Int.toNat ((((((0 + 1) + 1) + 1) + 1) + 1) + 1)) (48 + (((f_X0_yearDayOf (sf sl.toNat)) / 10) % 10))) (Int.toNat (((((((0 + 1) + 1) + 1) + 1) + 1) + 1) + 1)) (48 + (((f_X0_yearDayOf (sf sl.toNat)) / 1) % 10))))]) [1, 0, 2, 3] (by decide) rfl
      exact W.iret (v := zi ((((((((0 + 1) + 1) + 1) + 1) + 1) + 1) + 1) + 1)) hx hb hr (fun t ht hW => ⟨⟨zi ((((((((0 + 1) + 1) + 1) + 1) + 1) + 1) + 1) + 1), (), rfl, rfl, by rw [ht]; exact hP9, va_K.moved hW.alike hK, hD9⟩, hS.F ht⟩) hS.2.2 dX4_write_92
    · skip
      exact absurd True.intro (by omega)
