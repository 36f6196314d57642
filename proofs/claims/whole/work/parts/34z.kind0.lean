/-! THE LIST BEFORE ITS FIRST RULE: its array is the JDK's own empty one, which nobody writes -/
def zO2 (qd mi : Nat) (A : Nat → Prop) (U : State) (H : Heap) : Prop := zO qd mi A U H ∧ va_T (.object "java/lang/Object") qd 0 (fun _ => .null) A U H
theorem zT_ok {ty : FieldType} {t N : Nat} {f : Nat → Value} : zF (fun A U H => va_T ty t N f A U H) :=
  ⟨fun _ _ _ _ hW h => h.moved hW.alike, fun _ s U _ hv h => h.moved (by rw [hv]; exact Vm.Alike.refl s.vm), fun _ _ _ _ hq h => h.kept hq, fun _ _ _ _ hAB h => h.narrow hAB⟩
theorem zO2_ok {qd mi : Nat} : zF (zO2 qd mi) := zF.and zO_ok zT_ok
section ZO2
variable {qd mi : Nat} {A : Nat → Prop} {s : State} {H0 : Heap}
theorem zO2_z (h : zO2 qd mi A s H0) : va_Z "java/util/ArrayList" "DEFAULTCAPACITY_EMPTY_ELEMENTDATA" "[Ljava/lang/Object;" (.ref qd) A s H0 := h.1.1
theorem zO2_a (h : zO2 qd mi A s H0) : va_AO "java/lang/Object" s := h.1.2.1
theorem zO2_t (h : zO2 qd mi A s H0) : va_T (.object "java/lang/Object") qd 0 (fun _ => .null) A s H0 := h.2
theorem zO2_c (h : zO2 qd mi A s H0) : ∀ comp c0 : ClassId, s.vm.findClass "java/lang/Object" = some comp → s.vm.findClass "CivilDays$Rule" = some c0 → s.vm.assignable c0 comp = true := by
  intro comp c0 h1 h2
  obtain ⟨c, t, g1, g2, g3⟩ := Cond.castable_spec h.1.2.2.2.2.1
  cases Option.some.inj (g1.symm.trans h2)
  cases Option.some.inj (g2.symm.trans h1)
  exact g3
theorem zO2_n22 (h : zO2 qd mi A s H0) : va_Nw (.methodLinkNest RX4 22 yX2_init RX4) s := h.1.2.2.2.2.2.1
theorem zO2_n29 (h : zO2 qd mi A s H0) : va_Nw (.methodLinkNest RX4 29 yX1_init RX4) s := h.1.2.2.2.2.2.2
end ZO2
set_option maxHeartbeats 4000000 in
set_option maxRecDepth 100000 in
theorem c_Jz_growB (l : Launch)  (dC : Nat → ClassId) (dI : Nat → Nat → Nat) (cO : ClassId) (h0 : Nat) (mc : Int) (qd : Nat) (mi : Nat) (sz : Nat)  : Met l yJx4a65c_grow_92f84 wsJx4a65c_grow_92f84 ({ frames := 1, cells := 1, slots := 10, locals := 21 }) (zPwF (dC, dI) [(cO, .object "java/lang/Object")] sz [.ref h0, .int (zi 1)] [(h0, .inr (0, [.int (zi mc), .ref qd, .int (zi 0)]))] (zO2 qd mi)) (va_Qq (fun (r : Option Nat) (u : (Nat) × (Nat → Option Nat)) => r = (some u.1) ∧ (True)) (fun (u : (Nat) × (Nat → Option Nat)) => zB (dC, dI) [(cO, .object "java/lang/Object")] (va_A [(h0, .inr (0, [.int (zi mc), .ref qd, .int (zi 0)]))] sz) [(h0, .inr (0, [.int (zi mc), .ref u.1, .int (zi 0)])), (u.1, aR cO 10 u.2)] ()) (va_A [(h0, .inr (0, [.int (zi mc), .ref qd, .int (zi 0)]))] sz)) 1 10 (va_A [(h0, .inr (0, [.int (zi mc), .ref qd, .int (zi 0)]))] sz) := by
  refine Met.ofW (cc := cJx4a65c_grow_92f84) (maxL := 4) (ret := (some (.array (.object "java/lang/Object")))) (by decide) rfl ?_
  intro p e s m args below meth c s₁ B hml hv
  obtain ⟨rfl, hsz, hP, hK, hD0, hG⟩ := hv
  have hx := B.exec
  have hb := B.bytes
  have hr := B.returns
  have hts := atoms_spec (ws := wsJx4a65c_grow_92f84) B.pre
  have hown : s.vm.findClass RJx4a65c = some m.cls := findClass_of_methodNamed B.named
  have hlocks := B.notSynchronized
  subst hsz
  have hD := hD0.self (sz := s.heap.size)
  generalize hAe : va_A [(h0, .inr (0, [.int (zi mc), .ref qd, .int (zi 0)]))] s.heap.size = A at hD hG ⊢
  have hA : ∀ q : Nat, s.heap.size ≤ q → A q := fun q h => by rw [← hAe]; exact Or.inr h
  have hS : va_S A s.heap s.heap [] := va_S.rf
  have hP : va_P (dC, dI) vwCl [(h0, .inr (0, [.int (zi mc), .ref qd, .int (zi 0)]))] s.heap := hP
  have hl := lv_entry ([.ref h0, .int (zi 1)]) (n := 4) (Nat.le_of_ble_eq_true rfl)
  rw [lg_entry_eq]
  generalize (lg_sl ([.ref h0, .int (zi 1)]) ++ List.replicate (4 - (lg_sl ([.ref h0, .int (zi 1)])).length) Slot.unset).toArray = ls at hl ⊢
  have hl : lv_has ls 4 [(0, .ref h0), (1, .int (zi 1))] := hl
  refine lv_aload_n hx hb dJx4a65c_grow_92f84_0 rfl (lv_at hl 0 rfl) ?_
  refine va_get (D := (dC, dI)) (ci := 0) (v := .ref qd) (C := RJx4a65c) (T := TJx4a65c) (N := 3) hx hb hts (by decide +kernel) hown hK hP 0 rfl rfl 1 (by decide) (hts (.fieldLink RJx4a65c 9 "java/util/ArrayList" "elementData" "[Ljava/lang/Object;") (by decide +kernel)) (fun _ h9 => h9) rfl dJx4a65c_grow_92f84_1 ?_
  refine va_tlen hx hb (zO2_t hG) hS (show Int32.ofNat 0 = zi 0 from by decide) dJx4a65c_grow_92f84_4 ?_
  refine lv_istore_n (lv' := [(2, .int (zi 0)), (0, .ref h0), (1, .int (zi 1))]) hx hb dJx4a65c_grow_92f84_5 rfl hl (by decide) rfl (fun ls hl => ?_)
  refine lv_iload_n hx hb dJx4a65c_grow_92f84_6 rfl (lv_at hl 0 rfl) ?_
  refine zw_if_gt (tgt := 20) hx hb dJx4a65c_grow_92f84_7 (by decide) ⟨by omega, by omega⟩ (fun h1 => ?_) (fun h1 => ?_)
  · skip
    exact absurd True.intro (by omega)
  · skip
    refine lv_aload_n hx hb dJx4a65c_grow_92f84_10 rfl (lv_at hl 1 rfl) ?_
    refine va_get (D := (dC, dI)) (ci := 0) (v := .ref qd) (C := RJx4a65c) (T := TJx4a65c) (N := 3) hx hb hts (by decide +kernel) hown hK hP 0 rfl rfl 1 (by decide) (hts (.fieldLink RJx4a65c 9 "java/util/ArrayList" "elementData" "[Ljava/lang/Object;") (by decide +kernel)) (fun _ h9 => h9) rfl dJx4a65c_grow_92f84_11 ?_
    refine va_gets (C := "java/util/ArrayList") hx hb (zO2_z hG) hS hown (hts (.fieldLink RJx4a65c 39 "java/util/ArrayList" "DEFAULTCAPACITY_EMPTY_ELEMENTDATA" "[Ljava/lang/Object;") (by decide +kernel)) (fun _ h9 => h9) dJx4a65c_grow_92f84_14 ?_
    refine lv_acmp_eq (rx := some qd) (ry := some qd) (tgt := 45) hx hb dJx4a65c_grow_92f84_17 (by decide) (fun h2 => ?_) (fun h2 => ?_)
    · skip
      refine lv_aload_n hx hb dJx4a65c_grow_92f84_45 rfl (lv_at hl 1 rfl) ?_
      refine zw_bipush hx hb dJx4a65c_grow_92f84_46 (by decide) ?_
      refine lv_iload_n hx hb dJx4a65c_grow_92f84_48 rfl (lv_at hl 2 rfl) ?_
      refine zw_max hx hb (hml.trans hl.1.symm) hown (hts (.methodLink RJx4a65c 79 Lib.Math.max.name) (by decide +kernel)) (hts (.static Lib.Math.max.name) (by decide +kernel)) (hts (.initialized "java/lang/Math") (by decide +kernel)) (hts _ (by decide +kernel)) (Nat.le_of_ble_eq_true rfl) (Nat.le_of_ble_eq_true rfl) (Nat.le_of_ble_eq_true rfl) (Nat.le_of_ble_eq_true rfl) dJx4a65c_grow_92f84_49 ⟨by omega, by omega⟩ ⟨by omega, by omega⟩ ?_
      refine zw_newq (N9 := 10) (C := "java/lang/Object") hx hb hown (hts (.classLink RJx4a65c 7 "java/lang/Object") (by decide +kernel)) (zO2_a hG) hK hP hD hS hA (by omega) (Nat.le_of_ble_eq_true rfl) (Nat.le_of_ble_eq_true rfl) (Nat.le_of_ble_eq_true rfl) dJx4a65c_grow_92f84_52 (fun q3 cA3 H hKn hP hD hS => ?_)
      obtain rfl : cO = cA3 := zK_same hKn 0 1 rfl rfl
      have hP : va_P (dC, dI) vwCl [(h0, .inr (0, [.int (zi mc), .ref qd, .int (zi 0)])), (q3, aR cO 10 (fun _ => none))] H := hP
      have hD : va_D A [(h0, .inr (0, [.int (zi mc), .ref qd, .int (zi 0)])), (q3, aR cO 10 (fun _ => none))] := hD
      refine lv_dup_x1 hx hb dJx4a65c_grow_92f84_55 rfl rfl ?_
      refine va_put (D := (dC, dI)) (ci := 0) (v := .ref q3) (ty := (.array (.object "java/lang/Object"))) (C := RJx4a65c) (T := TJx4a65c) (N := 3) hx hb hts (by decide +kernel) tyJx4a65c tyJx4a65c_ok nmJx4a65c hown hK hP hD hS 0 rfl rfl 1 (by decide) (hts (.fieldLink RJx4a65c 9 "java/util/ArrayList" "elementData" "[Ljava/lang/Object;") (by decide +kernel)) (fun _ h9 => h9) rfl (by decide +kernel) rfl rfl (Nat.le_of_ble_eq_true rfl) dJx4a65c_grow_92f84_56 (fun H locs hP hD hS => ?_)
      have hP : va_P (dC, dI) vwCl [(h0, .inr (0, [.int (zi mc), .ref q3, .int (zi 0)])), (q3, aR cO 10 (fun _ => none))] H := hP
      have hD : va_D A [(h0, .inr (0, [.int (zi mc), .ref q3, .int (zi 0)])), (q3, aR cO 10 (fun _ => none))] := hD
      have hP9 := hP.sub (ws' := [(h0, .inr (0, [.int (zi mc), .ref q3, .int (zi 0)])), (q3, aR cO 10 (fun _ => none))]) [0, 1] rfl
      have hD9 := hD.sub (ws' := [(h0, .inr (0, [.int (zi mc), .ref q3, .int (zi 0)])), (q3, aR cO 10 (fun _ => none))]) [0, 1] (by decide) rfl
      have hp9 : True := by
        trivial
      refine W.widen (k := 1) (n := 10) (Nat.le_of_ble_eq_true rfl) (Nat.le_of_ble_eq_true rfl) ?_
      exact W.aret (v := va_rf (some q3)) hx hb hr (Or.inr ⟨_, rfl⟩) (va_rf_or _) (fun t ht hW => ⟨⟨(some q3), (q3, (fun _ => none)), rfl, ⟨rfl, hp9⟩, by rw [ht]; exact hP9, va_K.moved hW.alike hK, hD9⟩, hS.F ht⟩) hS.2.2 dJx4a65c_grow_92f84_59
    · skip
      exact absurd (rfl) h2

set_option maxHeartbeats 4000000 in
set_option maxRecDepth 100000 in
theorem c_Jz_grow (l : Launch)  (dC : Nat → ClassId) (dI : Nat → Nat → Nat) (cO : ClassId) (h0 : Nat) (mc : Int) (qd : Nat) (mi : Nat) (sz : Nat)  : Met l yJx4a65c_grow_d5877 wsJx4a65c_grow_d5877 ({ frames := 2, cells := 1, slots := 10, locals := 44 }) (zPwF (dC, dI) [(cO, .object "java/lang/Object")] sz [.ref h0] [(h0, .inr (0, [.int (zi mc), .ref qd, .int (zi 0)]))] (zO2 qd mi)) (va_Qq (fun (r : Option Nat) (u : (Nat) × (Nat → Option Nat)) => r = (some u.1) ∧ (True)) (fun (u : (Nat) × (Nat → Option Nat)) => zB (dC, dI) [(cO, .object "java/lang/Object")] (va_A [(h0, .inr (0, [.int (zi mc), .ref qd, .int (zi 0)]))] sz) [(h0, .inr (0, [.int (zi mc), .ref u.1, .int (zi 0)])), (u.1, aR cO 10 u.2)] ()) (va_A [(h0, .inr (0, [.int (zi mc), .ref qd, .int (zi 0)]))] sz)) 1 10 (va_A [(h0, .inr (0, [.int (zi mc), .ref qd, .int (zi 0)]))] sz) := by
  refine Met.ofW (cc := cJx4a65c_grow_d5877) (maxL := 1) (ret := (some (.array (.object "java/lang/Object")))) (by decide) rfl ?_
  intro p e s m args below meth c s₁ B hml hv
  obtain ⟨rfl, hsz, hP, hK, hD0, hG⟩ := hv
  have hx := B.exec
  have hb := B.bytes
  have hr := B.returns
  have hts := atoms_spec (ws := wsJx4a65c_grow_d5877) B.pre
  have hown : s.vm.findClass RJx4a65c = some m.cls := findClass_of_methodNamed B.named
  have hlocks := B.notSynchronized
  subst hsz
  have hD := hD0.self (sz := s.heap.size)
  generalize hAe : va_A [(h0, .inr (0, [.int (zi mc), .ref qd, .int (zi 0)]))] s.heap.size = A at hD hG ⊢
  have hA : ∀ q : Nat, s.heap.size ≤ q → A q := fun q h => by rw [← hAe]; exact Or.inr h
  have hS : va_S A s.heap s.heap [] := va_S.rf
  have hP : va_P (dC, dI) vwCl [(h0, .inr (0, [.int (zi mc), .ref qd, .int (zi 0)]))] s.heap := hP
  have hl := lv_entry ([.ref h0]) (n := 1) (Nat.le_of_ble_eq_true rfl)
  rw [lg_entry_eq]
  generalize (lg_sl ([.ref h0]) ++ List.replicate (1 - (lg_sl ([.ref h0])).length) Slot.unset).toArray = ls at hl ⊢
  have hl : lv_has ls 1 [(0, .ref h0)] := hl
  refine lv_aload_n hx hb dJx4a65c_grow_d5877_0 rfl (lv_at hl 0 rfl) ?_
  refine lv_aload_n hx hb dJx4a65c_grow_d5877_1 rfl (lv_at hl 0 rfl) ?_
  refine va_get (D := (dC, dI)) (ci := 0) (v := .int (zi 0)) (C := RJx4a65c) (T := TJx4a65c) (N := 3) hx hb hts (by decide +kernel) hown hK hP 0 rfl rfl 2 (by decide) (hts (.fieldLink RJx4a65c 48 "java/util/ArrayList" "size" "I") (by decide +kernel)) (fun _ h9 => h9) rfl dJx4a65c_grow_d5877_2 ?_
  refine zw_iconst hx hb dJx4a65c_grow_d5877_5 ?_
  refine zw_iadd hx hb dJx4a65c_grow_d5877_6 ?_
  have hh1 := c_Jz_growB l dC dI cO h0 mc qd mi s.heap.size 
  have hPc := hP.sub (ws' := [(h0, .inr (0, [.int (zi mc), .ref qd, .int (zi 0)]))]) [0] rfl
  have hKc : va_K (dC, dI) vwCl [(cO, .object "java/lang/Object")] s := hK
  have hDc := hD.sub (ws' := [(h0, .inr (0, [.int (zi mc), .ref qd, .int (zi 0)]))]) [0] (by decide) rfl
  have hFc := va_free (wc := [(h0, .inr (0, [.int (zi mc), .ref qd, .int (zi 0)]))]) hD hS hA [0] rfl
  refine va_callq (va_runV (As := [.int (zi 1)]) (rest := []) ⟨hx, hb, hml, hown, hts⟩ hh1 (cwV 1 hts gJx4a65c_grow_d5877_Jx4a65c_grow_92f84 rfl rfl rfl (by decide +kernel) ⟨Nat.le_of_ble_eq_true rfl, Nat.le_of_ble_eq_true rfl⟩) ⟨zPwF.blind _ _ _ _ _ zO2_ok, va_recv hKc hPc (ci := 0) (q0 := 0) rfl rfl, fun U hU hW => ⟨rfl, by rw [hU], by rw [hU]; exact hPc, va_K.moved hW.alike hKc, hDc.weaken (fun _ _ _ _ => trivial), zF.call zO2_ok hG hS hFc hU hW⟩⟩ rfl rfl hl.1 rfl (lv_room (Nat.le_of_ble_eq_true rfl)) dJx4a65c_grow_d5877_7 ⟨Nat.le_of_ble_eq_true rfl, Nat.le_of_ble_eq_true rfl⟩) hS (fun q _ h => hFc q h) hFc (fun r1 u t H1 locs ht hvm hw hB hz1 hk1 hS => ?_)
  obtain ⟨qf_2, eg_2⟩ := u
  obtain ⟨hw, hw1⟩ := hw
  replace hw1 : True := hw1
  obtain ⟨hP1, hK1, hD1⟩ := hB
  rw [ht] at hP1
  replace hP1 : va_P (dC, dI) vwCl [(h0, .inr (0, [.int (zi mc), .ref qf_2, .int (zi 0)])), (qf_2, aR cO 10 eg_2)] H1 := hP1
  replace hD1 : va_D _ [(h0, .inr (0, [.int (zi mc), .ref qf_2, .int (zi 0)])), (qf_2, aR cO 10 eg_2)] := hD1
  obtain ⟨hP, hD⟩ := va_join (wr := []) (w1 := [(h0, .inr (0, [.int (zi mc), .ref qf_2, .int (zi 0)])), (qf_2, aR cO 10 eg_2)]) hP hD [0] [] rfl rfl (by decide) (by decide) hk1 hFc hP1 hD1
  generalize H1 = H at hP hS ⊢
  obtain rfl : r1 = (some qf_2) := hw
  rw [show va_rf (some qf_2) = Value.ref qf_2 from rfl]
  have hP : va_P (dC, dI) vwCl [(h0, .inr (0, [.int (zi mc), .ref qf_2, .int (zi 0)])), (qf_2, aR cO 10 eg_2)] H := hP
  have hD : va_D A [(h0, .inr (0, [.int (zi mc), .ref qf_2, .int (zi 0)])), (qf_2, aR cO 10 eg_2)] := hD
  have hP9 := hP.sub (ws' := [(h0, .inr (0, [.int (zi mc), .ref qf_2, .int (zi 0)])), (qf_2, aR cO 10 eg_2)]) [0, 1] rfl
  have hD9 := hD.sub (ws' := [(h0, .inr (0, [.int (zi mc), .ref qf_2, .int (zi 0)])), (qf_2, aR cO 10 eg_2)]) [0, 1] (by decide) rfl
  have hp9 : True := by
    trivial
  refine W.widen (k := 1) (n := 10) (Nat.le_of_ble_eq_true rfl) (Nat.le_of_ble_eq_true rfl) ?_
  exact W.aret (v := va_rf (some qf_2)) hx hb hr (Or.inr ⟨_, rfl⟩) (va_rf_or _) (fun t ht hW => ⟨⟨(some qf_2), (qf_2, eg_2), rfl, ⟨rfl, hp9⟩, by rw [ht]; exact hP9, va_K.moved hW.alike hK, hD9⟩, hS.F ht⟩) hS.2.2 dJx4a65c_grow_d5877_10

set_option maxHeartbeats 4000000 in
set_option maxRecDepth 100000 in
theorem c_Jz_addB (l : Launch)  (dC : Nat → ClassId) (dI : Nat → Nat → Nat) (cO : ClassId) (h0 : Nat) (mc : Int) (qd : Nat) (mi : Nat) (va : Nat) (kd : Int) (ad : Int) (bd : Int) (cd : Int) (sz : Nat)  : Met l yJx4a65c_add_72be8 wsJx4a65c_add_72be8 ({ frames := 3, cells := 1, slots := 10, locals := 64 }) (zPwF (dC, dI) [(cO, .object "java/lang/Object")] sz [.ref h0, .ref va, .ref qd, .int (zi 0)] [(h0, .inr (0, [.int (zi mc), .ref qd, .int (zi 0)])), (va, .inr (3, [.int (zi kd), .int (zi ad), .int (zi bd), .int (zi cd)]))] (zO2 qd mi)) (va_Qv (fun (u : (Nat) × (Nat → Option Nat)) => u.2 (Int.toNat 0) = some va) (fun (u : (Nat) × (Nat → Option Nat)) => zB (dC, dI) [(cO, .object "java/lang/Object")] (va_A [(h0, .inr (0, [.int (zi mc), .ref qd, .int (zi 0)])), (va, .inr (3, [.int (zi kd), .int (zi ad), .int (zi bd), .int (zi cd)]))] sz) [(h0, .inr (0, [.int (zi mc), .ref u.1, .int (zi 1)])), (u.1, aR cO 10 u.2), (va, .inr (3, [.int (zi kd), .int (zi ad), .int (zi bd), .int (zi cd)]))] ()) (va_A [(h0, .inr (0, [.int (zi mc), .ref qd, .int (zi 0)])), (va, .inr (3, [.int (zi kd), .int (zi ad), .int (zi bd), .int (zi cd)]))] sz)) 1 10 (va_A [(h0, .inr (0, [.int (zi mc), .ref qd, .int (zi 0)])), (va, .inr (3, [.int (zi kd), .int (zi ad), .int (zi bd), .int (zi cd)]))] sz) := by
  refine Met.ofW (cc := cJx4a65c_add_72be8) (maxL := 4) (ret := none) (by decide) rfl ?_
  intro p e s m args below meth c s₁ B hml hv
  obtain ⟨rfl, hsz, hP, hK, hD0, hG⟩ := hv
  have hx := B.exec
  have hb := B.bytes
  have hr := B.returns
  have hts := atoms_spec (ws := wsJx4a65c_add_72be8) B.pre
  have hown : s.vm.findClass RJx4a65c = some m.cls := findClass_of_methodNamed B.named
  have hlocks := B.notSynchronized
  subst hsz
  have hD := hD0.self (sz := s.heap.size)
  generalize hAe : va_A [(h0, .inr (0, [.int (zi mc), .ref qd, .int (zi 0)])), (va, .inr (3, [.int (zi kd), .int (zi ad), .int (zi bd), .int (zi cd)]))] s.heap.size = A at hD hG ⊢
  have hA : ∀ q : Nat, s.heap.size ≤ q → A q := fun q h => by rw [← hAe]; exact Or.inr h
  have hS : va_S A s.heap s.heap [] := va_S.rf
  have hP : va_P (dC, dI) vwCl [(h0, .inr (0, [.int (zi mc), .ref qd, .int (zi 0)])), (va, .inr (3, [.int (zi kd), .int (zi ad), .int (zi bd), .int (zi cd)]))] s.heap := hP
  have hl := lv_entry ([.ref h0, .ref va, .ref qd, .int (zi 0)]) (n := 4) (Nat.le_of_ble_eq_true rfl)
  rw [lg_entry_eq]
  generalize (lg_sl ([.ref h0, .ref va, .ref qd, .int (zi 0)]) ++ List.replicate (4 - (lg_sl ([.ref h0, .ref va, .ref qd, .int (zi 0)])).length) Slot.unset).toArray = ls at hl ⊢
  have hl : lv_has ls 4 [(0, .ref h0), (1, .ref va), (2, .ref qd), (3, .int (zi 0))] := hl
  refine lv_iload_n hx hb dJx4a65c_add_72be8_0 rfl (lv_at hl 3 rfl) ?_
  refine lv_aload_n hx hb dJx4a65c_add_72be8_1 rfl (lv_at hl 2 rfl) ?_
  refine va_tlen hx hb (zO2_t hG) hS (show Int32.ofNat 0 = zi 0 from by decide) dJx4a65c_add_72be8_2 ?_
  refine zw_icmp_ne (tgt := 11) hx hb dJx4a65c_add_72be8_3 (by decide) ⟨by omega, by omega⟩ ⟨by omega, by omega⟩ (fun h1 => ?_) (fun h1 => ?_)
  · skip
    exact absurd True.intro (by omega)
  · skip
    refine lv_aload_n hx hb dJx4a65c_add_72be8_6 rfl (lv_at hl 0 rfl) ?_
    have hh2 := c_Jz_grow l dC dI cO h0 mc qd mi s.heap.size 
    have hPc := hP.sub (ws' := [(h0, .inr (0, [.int (zi mc), .ref qd, .int (zi 0)]))]) [0] rfl
    have hKc : va_K (dC, dI) vwCl [(cO, .object "java/lang/Object")] s := hK
    have hDc := hD.sub (ws' := [(h0, .inr (0, [.int (zi mc), .ref qd, .int (zi 0)]))]) [0] (by decide) rfl
    have hFc := va_free (wc := [(h0, .inr (0, [.int (zi mc), .ref qd, .int (zi 0)]))]) hD hS hA [0] rfl
    refine va_callq (va_runV (As := []) (rest := []) ⟨hx, hb, hml, hown, hts⟩ hh2 (cwV 0 hts gJx4a65c_add_72be8_Jx4a65c_grow_d5877 rfl rfl rfl (by decide +kernel) ⟨Nat.le_of_ble_eq_true rfl, Nat.le_of_ble_eq_true rfl⟩) ⟨zPwF.blind _ _ _ _ _ zO2_ok, va_recv hKc hPc (ci := 0) (q0 := 0) rfl rfl, fun U hU hW => ⟨rfl, by rw [hU], by rw [hU]; exact hPc, va_K.moved hW.alike hKc, hDc.weaken (fun _ _ _ _ => trivial), zF.call zO2_ok hG hS hFc hU hW⟩⟩ rfl rfl hl.1 rfl (lv_room (Nat.le_of_ble_eq_true rfl)) dJx4a65c_add_72be8_7 ⟨Nat.le_of_ble_eq_true rfl, Nat.le_of_ble_eq_true rfl⟩) hS (fun q _ h => hFc q h) hFc (fun r2 u t H1 locs ht hvm hw hB hz1 hk1 hS => ?_)
    obtain ⟨qf_3, eg_3⟩ := u
    obtain ⟨hw, hw2⟩ := hw
    replace hw2 : True := hw2
    obtain ⟨hP1, hK1, hD1⟩ := hB
    rw [ht] at hP1
    replace hP1 : va_P (dC, dI) vwCl [(h0, .inr (0, [.int (zi mc), .ref qf_3, .int (zi 0)])), (qf_3, aR cO 10 eg_3)] H1 := hP1
    replace hD1 : va_D _ [(h0, .inr (0, [.int (zi mc), .ref qf_3, .int (zi 0)])), (qf_3, aR cO 10 eg_3)] := hD1
    obtain ⟨hP, hD⟩ := va_join (wr := [(va, .inr (3, [.int (zi kd), .int (zi ad), .int (zi bd), .int (zi cd)]))]) (w1 := [(h0, .inr (0, [.int (zi mc), .ref qf_3, .int (zi 0)])), (qf_3, aR cO 10 eg_3)]) hP hD [0] [1] rfl rfl (by decide) (by decide) hk1 hFc hP1 hD1
    generalize H1 = H at hP hS ⊢
    obtain rfl : r2 = (some qf_3) := hw
    rw [show va_rf (some qf_3) = Value.ref qf_3 from rfl]
    have hP : va_P (dC, dI) vwCl [(va, .inr (3, [.int (zi kd), .int (zi ad), .int (zi bd), .int (zi cd)])), (h0, .inr (0, [.int (zi mc), .ref qf_3, .int (zi 0)])), (qf_3, aR cO 10 eg_3)] H := hP
    have hD : va_D A [(va, .inr (3, [.int (zi kd), .int (zi ad), .int (zi bd), .int (zi cd)])), (h0, .inr (0, [.int (zi mc), .ref qf_3, .int (zi 0)])), (qf_3, aR cO 10 eg_3)] := hD
    refine lv_astore_n (lv' := [(2, .ref qf_3), (0, .ref h0), (1, .ref va), (3, .int (zi 0))]) hx hb dJx4a65c_add_72be8_10 rfl hl (by decide) rfl (fun ls hl => ?_)
    refine lv_aload_n hx hb dJx4a65c_add_72be8_11 rfl (lv_at hl 0 rfl) ?_
    refine lv_iload_n hx hb dJx4a65c_add_72be8_12 rfl (lv_at hl 3 rfl) ?_
    refine lv_aload_n hx hb dJx4a65c_add_72be8_13 rfl (lv_at hl 2 rfl) ?_
    refine zw_aast hx hb hK hP hD hS 2 0 rfl rfl (va_rAny hK hP (q0 := 0) (ci := 3) rfl rfl (zO2_c hG)) (by omega) (by omega) ⟨by omega, by omega⟩ dJx4a65c_add_72be8_14 (fun H locs hP hD hS => ?_)
    have hP : va_P (dC, dI) vwCl [(va, .inr (3, [.int (zi kd), .int (zi ad), .int (zi bd), .int (zi cd)])), (h0, .inr (0, [.int (zi mc), .ref qf_3, .int (zi 0)])), (qf_3, aR cO 10 (va_up eg_3 (Int.toNat 0) (some va)))] H := hP
    have hD : va_D A [(va, .inr (3, [.int (zi kd), .int (zi ad), .int (zi bd), .int (zi cd)])), (h0, .inr (0, [.int (zi mc), .ref qf_3, .int (zi 0)])), (qf_3, aR cO 10 (va_up eg_3 (Int.toNat 0) (some va)))] := hD
    refine lv_aload_n hx hb dJx4a65c_add_72be8_15 rfl (lv_at hl 1 rfl) ?_
    refine lv_iload_n hx hb dJx4a65c_add_72be8_16 rfl (lv_at hl 3 rfl) ?_
    refine zw_iconst hx hb dJx4a65c_add_72be8_17 ?_
    refine zw_iadd hx hb dJx4a65c_add_72be8_18 ?_
    refine va_put (D := (dC, dI)) (ci := 0) (v := .int (zi 1)) (ty := .int) (C := RJx4a65c) (T := TJx4a65c) (N := 3) hx hb hts (by decide +kernel) tyJx4a65c tyJx4a65c_ok nmJx4a65c hown hK hP hD hS 1 rfl rfl 2 (by decide) (hts (.fieldLink RJx4a65c 48 "java/util/ArrayList" "size" "I") (by decide +kernel)) (fun _ h9 => h9) rfl (by decide +kernel) rfl rfl (Nat.le_of_ble_eq_true rfl) dJx4a65c_add_72be8_19 (fun H locs hP hD hS => ?_)
    have hP : va_P (dC, dI) vwCl [(va, .inr (3, [.int (zi kd), .int (zi ad), .int (zi bd), .int (zi cd)])), (h0, .inr (0, [.int (zi mc), .ref qf_3, .int (zi 1)])), (qf_3, aR cO 10 (va_up eg_3 (Int.toNat 0) (some va)))] H := hP
    have hD : va_D A [(va, .inr (3, [.int (zi kd), .int (zi ad), .int (zi bd), .int (zi cd)])), (h0, .inr (0, [.int (zi mc), .ref qf_3, .int (zi 1)])), (qf_3, aR cO 10 (va_up eg_3 (Int.toNat 0) (some va)))] := hD
    have hP9 := hP.sub (ws' := [(h0, .inr (0, [.int (zi mc), .ref qf_3, .int (zi 1)])), (qf_3, aR cO 10 (va_up eg_3 (Int.toNat 0) (some va))), (va, .inr (3, [.int (zi kd), .int (zi ad), .int (zi bd), .int (zi cd)]))]) [1, 2, 0] rfl
    have hD9 := hD.sub (ws' := [(h0, .inr (0, [.int (zi mc), .ref qf_3, .int (zi 1)])), (qf_3, aR cO 10 (va_up eg_3 (Int.toNat 0) (some va))), (va, .inr (3, [.int (zi kd), .int (zi ad), .int (zi bd), .int (zi cd)]))]) [1, 2, 0] (by decide) rfl
    have hp9 : (va_up eg_3 (Int.toNat 0) (some va)) (Int.toNat 0) = some va := by
      exact if_pos rfl
    refine W.widen (k := 1) (n := 10) (Nat.le_of_ble_eq_true rfl) (Nat.le_of_ble_eq_true rfl) ?_
    exact W.vret hx hb hr (fun t ht hW => ⟨⟨(qf_3, (va_up eg_3 (Int.toNat 0) (some va))), rfl, hp9, by rw [ht]; exact hP9, va_K.moved hW.alike hK, hD9⟩, hS.F ht⟩) hS.2.2 dJx4a65c_add_72be8_22

set_option maxHeartbeats 4000000 in
set_option maxRecDepth 100000 in
theorem c_Jz_add (l : Launch)  (dC : Nat → ClassId) (dI : Nat → Nat → Nat) (cO : ClassId) (h0 : Nat) (mc : Int) (qd : Nat) (mi : Nat) (va : Nat) (kd : Int) (ad : Int) (bd : Int) (cd : Int) (sz : Nat)  : Met l yJx4a65c_add_9ea2d wsJx4a65c_add_9ea2d ({ frames := 4, cells := 1, slots := 10, locals := 87 }) (zPwF (dC, dI) [(cO, .object "java/lang/Object")] sz [.ref h0, .ref va] [(h0, .inr (0, [.int (zi mc), .ref qd, .int (zi 0)])), (va, .inr (3, [.int (zi kd), .int (zi ad), .int (zi bd), .int (zi cd)]))] (zO2 qd mi)) (va_Qi (fun (r : Int32) (u : (Nat) × (Nat → Option Nat)) => r = zi 1 ∧ (u.2 (Int.toNat 0) = some va)) (fun (u : (Nat) × (Nat → Option Nat)) => zB (dC, dI) [(cO, .object "java/lang/Object")] (va_A [(h0, .inr (0, [.int (zi mc), .ref qd, .int (zi 0)])), (va, .inr (3, [.int (zi kd), .int (zi ad), .int (zi bd), .int (zi cd)]))] sz) [(h0, .inr (0, [.int (zi (mc + 1)), .ref u.1, .int (zi 1)])), (u.1, aR cO 10 u.2), (va, .inr (3, [.int (zi kd), .int (zi ad), .int (zi bd), .int (zi cd)]))] ()) (va_A [(h0, .inr (0, [.int (zi mc), .ref qd, .int (zi 0)])), (va, .inr (3, [.int (zi kd), .int (zi ad), .int (zi bd), .int (zi cd)]))] sz)) 1 10 (va_A [(h0, .inr (0, [.int (zi mc), .ref qd, .int (zi 0)])), (va, .inr (3, [.int (zi kd), .int (zi ad), .int (zi bd), .int (zi cd)]))] sz) := by
  refine Met.ofW (cc := cJx4a65c_add_9ea2d) (maxL := 2) (ret := (some .boolean)) (by decide) rfl ?_
  intro p e s m args below meth c s₁ B hml hv
  obtain ⟨rfl, hsz, hP, hK, hD0, hG⟩ := hv
  have hx := B.exec
  have hb := B.bytes
  have hr := B.returns
  have hts := atoms_spec (ws := wsJx4a65c_add_9ea2d) B.pre
  have hown : s.vm.findClass RJx4a65c = some m.cls := findClass_of_methodNamed B.named
  have hlocks := B.notSynchronized
  subst hsz
  have hD := hD0.self (sz := s.heap.size)
  generalize hAe : va_A [(h0, .inr (0, [.int (zi mc), .ref qd, .int (zi 0)])), (va, .inr (3, [.int (zi kd), .int (zi ad), .int (zi bd), .int (zi cd)]))] s.heap.size = A at hD hG ⊢
  have hA : ∀ q : Nat, s.heap.size ≤ q → A q := fun q h => by rw [← hAe]; exact Or.inr h
  have hS : va_S A s.heap s.heap [] := va_S.rf
  have hP : va_P (dC, dI) vwCl [(h0, .inr (0, [.int (zi mc), .ref qd, .int (zi 0)])), (va, .inr (3, [.int (zi kd), .int (zi ad), .int (zi bd), .int (zi cd)]))] s.heap := hP
  have hl := lv_entry ([.ref h0, .ref va]) (n := 2) (Nat.le_of_ble_eq_true rfl)
  rw [lg_entry_eq]
  generalize (lg_sl ([.ref h0, .ref va]) ++ List.replicate (2 - (lg_sl ([.ref h0, .ref va])).length) Slot.unset).toArray = ls at hl ⊢
  have hl : lv_has ls 2 [(0, .ref h0), (1, .ref va)] := hl
  refine lv_aload_n hx hb dJx4a65c_add_9ea2d_0 rfl (lv_at hl 0 rfl) ?_
  refine lv_dup hx hb dJx4a65c_add_9ea2d_1 rfl ?_
  refine va_get (D := (dC, dI)) (ci := 0) (v := .int (zi mc)) (C := RJx4a65c) (T := TJx4a65c) (N := 3) hx hb hts (by decide +kernel) hown hK hP 0 rfl rfl 0 (by decide) (hts (.fieldLink RJx4a65c 63 "java/util/ArrayList" "modCount" "I") (by decide +kernel)) (fun x9 h9 => u_same (hts (.sameField "java/util/ArrayList" "java/util/AbstractList" "modCount" "I") (by decide +kernel)) x9 h9) rfl dJx4a65c_add_9ea2d_2 ?_
  refine zw_iconst hx hb dJx4a65c_add_9ea2d_5 ?_
  refine zw_iadd hx hb dJx4a65c_add_9ea2d_6 ?_
  refine va_put (D := (dC, dI)) (ci := 0) (v := .int (zi (mc + 1))) (ty := .int) (C := RJx4a65c) (T := TJx4a65c) (N := 3) hx hb hts (by decide +kernel) tyJx4a65c tyJx4a65c_ok nmJx4a65c hown hK hP hD hS 0 rfl rfl 0 (by decide) (hts (.fieldLink RJx4a65c 63 "java/util/ArrayList" "modCount" "I") (by decide +kernel)) (fun x9 h9 => u_same (hts (.sameField "java/util/ArrayList" "java/util/AbstractList" "modCount" "I") (by decide +kernel)) x9 h9) rfl (by decide +kernel) rfl rfl (Nat.le_of_ble_eq_true rfl) dJx4a65c_add_9ea2d_7 (fun H locs hP hD hS => ?_)
  have hP : va_P (dC, dI) vwCl [(h0, .inr (0, [.int (zi (mc + 1)), .ref qd, .int (zi 0)])), (va, .inr (3, [.int (zi kd), .int (zi ad), .int (zi bd), .int (zi cd)]))] H := hP
  have hD : va_D A [(h0, .inr (0, [.int (zi (mc + 1)), .ref qd, .int (zi 0)])), (va, .inr (3, [.int (zi kd), .int (zi ad), .int (zi bd), .int (zi cd)]))] := hD
  refine lv_aload_n hx hb dJx4a65c_add_9ea2d_10 rfl (lv_at hl 0 rfl) ?_
  refine lv_aload_n hx hb dJx4a65c_add_9ea2d_11 rfl (lv_at hl 1 rfl) ?_
  refine lv_aload_n hx hb dJx4a65c_add_9ea2d_12 rfl (lv_at hl 0 rfl) ?_
  refine va_get (D := (dC, dI)) (ci := 0) (v := .ref qd) (C := RJx4a65c) (T := TJx4a65c) (N := 3) hx hb hts (by decide +kernel) hown hK hP 0 rfl rfl 1 (by decide) (hts (.fieldLink RJx4a65c 9 "java/util/ArrayList" "elementData" "[Ljava/lang/Object;") (by decide +kernel)) (fun _ h9 => h9) rfl dJx4a65c_add_9ea2d_13 ?_
  refine lv_aload_n hx hb dJx4a65c_add_9ea2d_16 rfl (lv_at hl 0 rfl) ?_
  refine va_get (D := (dC, dI)) (ci := 0) (v := .int (zi 0)) (C := RJx4a65c) (T := TJx4a65c) (N := 3) hx hb hts (by decide +kernel) hown hK hP 0 rfl rfl 2 (by decide) (hts (.fieldLink RJx4a65c 48 "java/util/ArrayList" "size" "I") (by decide +kernel)) (fun _ h9 => h9) rfl dJx4a65c_add_9ea2d_17 ?_
  have hh1 := c_Jz_addB l dC dI cO h0 (mc + 1) qd mi va kd ad bd cd H.size 
  have hPc := hP.sub (ws' := [(h0, .inr (0, [.int (zi (mc + 1)), .ref qd, .int (zi 0)])), (va, .inr (3, [.int (zi kd), .int (zi ad), .int (zi bd), .int (zi cd)]))]) [0, 1] rfl
  have hKc : va_K (dC, dI) vwCl [(cO, .object "java/lang/Object")] s := hK
  have hDc := hD.sub (ws' := [(h0, .inr (0, [.int (zi (mc + 1)), .ref qd, .int (zi 0)])), (va, .inr (3, [.int (zi kd), .int (zi ad), .int (zi bd), .int (zi cd)]))]) [0, 1] (by decide) rfl
  have hFc := va_free (wc := [(h0, .inr (0, [.int (zi (mc + 1)), .ref qd, .int (zi 0)])), (va, .inr (3, [.int (zi kd), .int (zi ad), .int (zi bd), .int (zi cd)]))]) hD hS hA [0, 1] rfl
  refine va_callv (va_runV (As := [.ref va, .ref qd, .int (zi 0)]) (rest := []) ⟨hx, hb, hml, hown, hts⟩ hh1 (cwV 3 hts gJx4a65c_add_9ea2d_Jx4a65c_add_72be8 rfl rfl rfl (by decide +kernel) ⟨Nat.le_of_ble_eq_true rfl, Nat.le_of_ble_eq_true rfl⟩) ⟨zPwF.blind _ _ _ _ _ zO2_ok, va_recv hKc hPc (ci := 0) (q0 := 0) rfl rfl, fun U hU hW => ⟨rfl, by rw [hU], by rw [hU]; exact hPc, va_K.moved hW.alike hKc, hDc.weaken (fun _ _ _ _ => trivial), zF.call zO2_ok hG hS hFc hU hW⟩⟩ rfl rfl hl.1 rfl (lv_room (Nat.le_of_ble_eq_true rfl)) dJx4a65c_add_9ea2d_20 ⟨Nat.le_of_ble_eq_true rfl, Nat.le_of_ble_eq_true rfl⟩) hS (fun q _ h => hFc q h) hFc (fun u t H1 locs ht hvm hw hB hz1 hk1 hS => ?_)
  obtain ⟨qf_2, eg_2⟩ := u
  have hw1 := hw
  replace hw1 : eg_2 (Int.toNat 0) = some va := hw1
  obtain ⟨hP1, hK1, hD1⟩ := hB
  rw [ht] at hP1
  replace hP1 : va_P (dC, dI) vwCl [(h0, .inr (0, [.int (zi (mc + 1)), .ref qf_2, .int (zi 1)])), (qf_2, aR cO 10 eg_2), (va, .inr (3, [.int (zi kd), .int (zi ad), .int (zi bd), .int (zi cd)]))] H1 := hP1
  replace hD1 : va_D _ [(h0, .inr (0, [.int (zi (mc + 1)), .ref qf_2, .int (zi 1)])), (qf_2, aR cO 10 eg_2), (va, .inr (3, [.int (zi kd), .int (zi ad), .int (zi bd), .int (zi cd)]))] := hD1
  obtain ⟨hP, hD⟩ := va_join (wr := []) (w1 := [(h0, .inr (0, [.int (zi (mc + 1)), .ref qf_2, .int (zi 1)])), (qf_2, aR cO 10 eg_2), (va, .inr (3, [.int (zi kd), .int (zi ad), .int (zi bd), .int (zi cd)]))]) hP hD [0, 1] [] rfl rfl (by decide) (by decide) hk1 hFc hP1 hD1
  generalize H1 = H at hP hS ⊢
  have hP : va_P (dC, dI) vwCl [(h0, .inr (0, [.int (zi (mc + 1)), .ref qf_2, .int (zi 1)])), (qf_2, aR cO 10 eg_2), (va, .inr (3, [.int (zi kd), .int (zi ad), .int (zi bd), .int (zi cd)]))] H := hP
  have hD : va_D A [(h0, .inr (0, [.int (zi (mc + 1)), .ref qf_2, .int (zi 1)])), (qf_2, aR cO 10 eg_2), (va, .inr (3, [.int (zi kd), .int (zi ad), .int (zi bd), .int (zi cd)]))] := hD
  refine zw_iconst hx hb dJx4a65c_add_9ea2d_23 ?_
  have hP9 := hP.sub (ws' := [(h0, .inr (0, [.int (zi (mc + 1)), .ref qf_2, .int (zi 1)])), (qf_2, aR cO 10 eg_2), (va, .inr (3, [.int (zi kd), .int (zi ad), .int (zi bd), .int (zi cd)]))]) [0, 1, 2] rfl
  have hD9 := hD.sub (ws' := [(h0, .inr (0, [.int (zi (mc + 1)), .ref qf_2, .int (zi 1)])), (qf_2, aR cO 10 eg_2), (va, .inr (3, [.int (zi kd), .int (zi ad), .int (zi bd), .int (zi cd)]))]) [0, 1, 2] (by decide) rfl
  have hp9 : eg_2 (Int.toNat 0) = some va := by
    assumption
  refine W.widen (k := 1) (n := 10) (Nat.le_of_ble_eq_true rfl) (Nat.le_of_ble_eq_true rfl) ?_
  exact W.zret (v := zi 1) hx hb hr (zi_nb (by omega)) (fun t ht hW => ⟨⟨zi 1, (qf_2, eg_2), rfl, ⟨rfl, hp9⟩, by rw [ht]; exact hP9, va_K.moved hW.alike hK, hD9⟩, hS.F ht⟩) hS.2.2 dJx4a65c_add_9ea2d_24

set_option maxHeartbeats 4000000 in
set_option maxRecDepth 100000 in
theorem c_Jz_clear (l : Launch)  (dC : Nat → ClassId) (dI : Nat → Nat → Nat) (h0 : Nat) (mc : Int) (qd : Nat) (sz : Nat)  : Met l yJx4a65c_clear_da8c8 wsJx4a65c_clear_da8c8 ({ frames := 0, cells := 0, slots := 0, locals := 0 }) (zPw (dC, dI) [] sz [.ref h0] [(h0, .inr (0, [.int (zi mc), .ref qd, .int (zi 0)]))]) (va_Qv (fun (_ : Unit) => True) (zB (dC, dI) [] (va_A [(h0, .inr (0, [.int (zi mc), .ref qd, .int (zi 0)]))] sz) [(h0, .inr (0, [.int (zi (mc + 1)), .ref qd, .int (zi 0)]))]) (va_A [(h0, .inr (0, [.int (zi mc), .ref qd, .int (zi 0)]))] sz)) 0 0 (va_A [(h0, .inr (0, [.int (zi mc), .ref qd, .int (zi 0)]))] sz) := by
  refine Met.ofW (cc := cJx4a65c_clear_da8c8) (maxL := 4) (ret := none) (by decide) rfl ?_
  intro p e s m args below meth c s₁ B hml hv
  obtain ⟨rfl, hsz, hP, hK, hD0⟩ := hv
  have hx := B.exec
  have hb := B.bytes
  have hr := B.returns
  have hts := atoms_spec (ws := wsJx4a65c_clear_da8c8) B.pre
  have hown : s.vm.findClass RJx4a65c = some m.cls := findClass_of_methodNamed B.named
  have hlocks := B.notSynchronized
  subst hsz
  have hD := hD0.self (sz := s.heap.size)
  generalize hAe : va_A [(h0, .inr (0, [.int (zi mc), .ref qd, .int (zi 0)]))] s.heap.size = A at hD ⊢
  have hA : ∀ q : Nat, s.heap.size ≤ q → A q := fun q h => by rw [← hAe]; exact Or.inr h
  have hS : va_S A s.heap s.heap [] := va_S.rf
  have hP : va_P (dC, dI) vwCl [(h0, .inr (0, [.int (zi mc), .ref qd, .int (zi 0)]))] s.heap := hP
  have hl := lv_entry ([.ref h0]) (n := 4) (Nat.le_of_ble_eq_true rfl)
  rw [lg_entry_eq]
  generalize (lg_sl ([.ref h0]) ++ List.replicate (4 - (lg_sl ([.ref h0])).length) Slot.unset).toArray = ls at hl ⊢
  have hl : lv_has ls 4 [(0, .ref h0)] := hl
  refine lv_aload_n hx hb dJx4a65c_clear_da8c8_0 rfl (lv_at hl 0 rfl) ?_
  refine lv_dup hx hb dJx4a65c_clear_da8c8_1 rfl ?_
  refine va_get (D := (dC, dI)) (ci := 0) (v := .int (zi mc)) (C := RJx4a65c) (T := TJx4a65c) (N := 3) hx hb hts (by decide +kernel) hown hK hP 0 rfl rfl 0 (by decide) (hts (.fieldLink RJx4a65c 63 "java/util/ArrayList" "modCount" "I") (by decide +kernel)) (fun x9 h9 => u_same (hts (.sameField "java/util/ArrayList" "java/util/AbstractList" "modCount" "I") (by decide +kernel)) x9 h9) rfl dJx4a65c_clear_da8c8_2 ?_
  refine zw_iconst hx hb dJx4a65c_clear_da8c8_5 ?_
  refine zw_iadd hx hb dJx4a65c_clear_da8c8_6 ?_
  refine va_put (D := (dC, dI)) (ci := 0) (v := .int (zi (mc + 1))) (ty := .int) (C := RJx4a65c) (T := TJx4a65c) (N := 3) hx hb hts (by decide +kernel) tyJx4a65c tyJx4a65c_ok nmJx4a65c hown hK hP hD hS 0 rfl rfl 0 (by decide) (hts (.fieldLink RJx4a65c 63 "java/util/ArrayList" "modCount" "I") (by decide +kernel)) (fun x9 h9 => u_same (hts (.sameField "java/util/ArrayList" "java/util/AbstractList" "modCount" "I") (by decide +kernel)) x9 h9) rfl (by decide +kernel) rfl rfl (Nat.le_of_ble_eq_true rfl) dJx4a65c_clear_da8c8_7 (fun H locs hP hD hS => ?_)
  have hP : va_P (dC, dI) vwCl [(h0, .inr (0, [.int (zi (mc + 1)), .ref qd, .int (zi 0)]))] H := hP
  have hD : va_D A [(h0, .inr (0, [.int (zi (mc + 1)), .ref qd, .int (zi 0)]))] := hD
  refine lv_aload_n hx hb dJx4a65c_clear_da8c8_10 rfl (lv_at hl 0 rfl) ?_
  refine va_get (D := (dC, dI)) (ci := 0) (v := .ref qd) (C := RJx4a65c) (T := TJx4a65c) (N := 3) hx hb hts (by decide +kernel) hown hK hP 0 rfl rfl 1 (by decide) (hts (.fieldLink RJx4a65c 9 "java/util/ArrayList" "elementData" "[Ljava/lang/Object;") (by decide +kernel)) (fun _ h9 => h9) rfl dJx4a65c_clear_da8c8_11 ?_
  refine lv_astore_n (lv' := [(1, .ref qd), (0, .ref h0)]) hx hb dJx4a65c_clear_da8c8_14 rfl hl (by decide) rfl (fun ls hl => ?_)
  refine lv_aload_n hx hb dJx4a65c_clear_da8c8_15 rfl (lv_at hl 1 rfl) ?_
  refine va_get (D := (dC, dI)) (ci := 0) (v := .int (zi 0)) (C := RJx4a65c) (T := TJx4a65c) (N := 3) hx hb hts (by decide +kernel) hown hK hP 0 rfl rfl 2 (by decide) (hts (.fieldLink RJx4a65c 48 "java/util/ArrayList" "size" "I") (by decide +kernel)) (fun _ h9 => h9) rfl dJx4a65c_clear_da8c8_16 ?_
  refine lv_istore_n (lv' := [(2, .int (zi 0)), (1, .ref qd), (0, .ref h0)]) hx hb dJx4a65c_clear_da8c8_19 rfl hl (by decide) rfl (fun ls hl => ?_)
  refine lv_aload_n hx hb dJx4a65c_clear_da8c8_20 rfl (lv_at hl 2 rfl) ?_
  refine zw_iconst hx hb dJx4a65c_clear_da8c8_21 ?_
  refine lv_dup_x1 hx hb dJx4a65c_clear_da8c8_22 rfl rfl ?_
  refine va_put (D := (dC, dI)) (ci := 0) (v := .int (zi 0)) (ty := .int) (C := RJx4a65c) (T := TJx4a65c) (N := 3) hx hb hts (by decide +kernel) tyJx4a65c tyJx4a65c_ok nmJx4a65c hown hK hP hD hS 0 rfl rfl 2 (by decide) (hts (.fieldLink RJx4a65c 48 "java/util/ArrayList" "size" "I") (by decide +kernel)) (fun _ h9 => h9) rfl (by decide +kernel) rfl rfl (Nat.le_of_ble_eq_true rfl) dJx4a65c_clear_da8c8_23 (fun H locs hP hD hS => ?_)
  have hP : va_P (dC, dI) vwCl [(h0, .inr (0, [.int (zi (mc + 1)), .ref qd, .int (zi 0)]))] H := hP
  have hD : va_D A [(h0, .inr (0, [.int (zi (mc + 1)), .ref qd, .int (zi 0)]))] := hD
  refine lv_istore_n (lv' := [(3, .int (zi 0)), (2, .int (zi 0)), (1, .ref qd), (0, .ref h0)]) hx hb dJx4a65c_clear_da8c8_26 rfl hl (by decide) rfl (fun ls hl => ?_)
  refine lv_iload_n hx hb dJx4a65c_clear_da8c8_27 rfl (lv_at hl 0 rfl) ?_
  refine lv_iload_n hx hb dJx4a65c_clear_da8c8_28 rfl (lv_at hl 1 rfl) ?_
  refine zw_icmp_ge (tgt := 42) hx hb dJx4a65c_clear_da8c8_29 (by decide) ⟨by omega, by omega⟩ ⟨by omega, by omega⟩ (fun h1 => ?_) (fun h1 => ?_)
  · skip
    have hP9 := hP.sub (ws' := [(h0, .inr (0, [.int (zi (mc + 1)), .ref qd, .int (zi 0)]))]) [0] rfl
    have hD9 := hD.sub (ws' := [(h0, .inr (0, [.int (zi (mc + 1)), .ref qd, .int (zi 0)]))]) [0] (by decide) rfl
    exact W.vret hx hb hr (fun t ht hW => ⟨⟨(), rfl, trivial, by rw [ht]; exact hP9, va_K.moved hW.alike hK, hD9⟩, hS.F ht⟩) hS.2.2 dJx4a65c_clear_da8c8_42
  · skip
    exact absurd True.intro (by omega)

set_option maxHeartbeats 4000000 in
set_option maxRecDepth 100000 in
theorem c_Xz_holiday (l : Launch)  (dC : Nat → ClassId) (dI : Nat → Nat → Nat) (cO : ClassId) (h0 : Nat) (qs : Nat) (qr : Nat) (qm : Nat) (qw : Nat) (qt : Nat) (we : Int) (mc : Int) (qd : Nat) (mi : Nat) (kk : Int) (aa : Int) (bb : Int) (cz : Int) (sz : Nat) (hp0 : -2147483648 ≤ kk ∧ kk ≤ 2147483647) (hp1 : -2147483648 ≤ aa ∧ aa ≤ 2147483647) (hp2 : -2147483648 ≤ bb ∧ bb ≤ 2147483647) (hp3 : -2147483648 ≤ cz ∧ cz ≤ 2147483647) (hp4 : (f_X3_isRule kk aa bb cz) = 1) : Met l yX4_holiday wsX4_holiday ({ frames := 5, cells := 2, slots := 14, locals := 108 }) (zPwF (dC, dI) [(cO, .object "java/lang/Object")] sz [.ref h0, .int (zi kk), .int (zi aa), .int (zi bb), .int (zi cz)] [(h0, .inr (4, [.ref qs, .ref qr, .ref qm, .ref qw, .ref qt, .int (zi we)])), (qr, .inr (0, [.int (zi mc), .ref qd, .int (zi 0)]))] (zO2 qd mi)) (va_Qi (fun (r : Int32) (u : (Nat) × (Nat → Option Nat) × (Nat)) => r = zi 1 ∧ (u.2.1 (Int.toNat 0) = some u.2.2)) (fun (u : (Nat) × (Nat → Option Nat) × (Nat)) => zB (dC, dI) [(cO, .object "java/lang/Object")] (va_A [(h0, .inr (4, [.ref qs, .ref qr, .ref qm, .ref qw, .ref qt, .int (zi we)])), (qr, .inr (0, [.int (zi mc), .ref qd, .int (zi 0)]))] sz) [(h0, .inr (4, [.ref qs, .ref qr, .ref qm, .ref qw, .ref qt, .int (zi we)])), (qr, .inr (0, [.int (zi (mc + 1)), .ref u.1, .int (zi 1)])), (u.1, aR cO 10 u.2.1), (u.2.2, .inr (3, [.int (zi kk), .int (zi aa), .int (zi bb), .int (zi cz)]))] ()) (va_A [(h0, .inr (4, [.ref qs, .ref qr, .ref qm, .ref qw, .ref qt, .int (zi we)])), (qr, .inr (0, [.int (zi mc), .ref qd, .int (zi 0)]))] sz)) 2 14 (va_A [(h0, .inr (4, [.ref qs, .ref qr, .ref qm, .ref qw, .ref qt, .int (zi we)])), (qr, .inr (0, [.int (zi mc), .ref qd, .int (zi 0)]))] sz) := by
  refine Met.ofW (cc := cX4_holiday) (maxL := 5) (ret := (some .int)) (by decide) rfl ?_
  intro p e s m args below meth c s₁ B hml hv
  obtain ⟨rfl, hsz, hP, hK, hD0, hG⟩ := hv
  have hx := B.exec
  have hb := B.bytes
  have hr := B.returns
  have hts := atoms_spec (ws := wsX4_holiday) B.pre
  have hown : s.vm.findClass RX4 = some m.cls := findClass_of_methodNamed B.named
  have hlocks := B.notSynchronized
  subst hsz
  have hD := hD0.self (sz := s.heap.size)
  generalize hAe : va_A [(h0, .inr (4, [.ref qs, .ref qr, .ref qm, .ref qw, .ref qt, .int (zi we)])), (qr, .inr (0, [.int (zi mc), .ref qd, .int (zi 0)]))] s.heap.size = A at hD hG ⊢
  have hA : ∀ q : Nat, s.heap.size ≤ q → A q := fun q h => by rw [← hAe]; exact Or.inr h
  have hS : va_S A s.heap s.heap [] := va_S.rf
  have hP : va_P (dC, dI) vwCl [(h0, .inr (4, [.ref qs, .ref qr, .ref qm, .ref qw, .ref qt, .int (zi we)])), (qr, .inr (0, [.int (zi mc), .ref qd, .int (zi 0)]))] s.heap := hP
  have hl := lv_entry ([.ref h0, .int (zi kk), .int (zi aa), .int (zi bb), .int (zi cz)]) (n := 5) (Nat.le_of_ble_eq_true rfl)
  rw [lg_entry_eq]
  generalize (lg_sl ([.ref h0, .int (zi kk), .int (zi aa), .int (zi bb), .int (zi cz)]) ++ List.replicate (5 - (lg_sl ([.ref h0, .int (zi kk), .int (zi aa), .int (zi bb), .int (zi cz)])).length) Slot.unset).toArray = ls at hl ⊢
  have hl : lv_has ls 5 [(0, .ref h0), (1, .int (zi kk)), (2, .int (zi aa)), (3, .int (zi bb)), (4, .int (zi cz))] := hl
  refine lv_iload_n hx hb dX4_holiday_0 rfl (lv_at hl 1 rfl) ?_
  refine lv_iload_n hx hb dX4_holiday_1 rfl (lv_at hl 2 rfl) ?_
  refine lv_iload_n hx hb dX4_holiday_2 rfl (lv_at hl 3 rfl) ?_
  refine lv_iload hx hb dX4_holiday_3 (lv_at hl 4 rfl) ?_
  have hh1 := c_X3_isRule l kk aa bb cz (by omega) (by omega) (by omega) (by omega)
  refine vp_callSi (va_Run.run (va_runS (As := [.int (zi kk), .int (zi aa), .int (zi bb), .int (zi cz)]) (rest := []) ⟨hx, hb, hml, hown, hts⟩ hh1 (va_cwS 4 hts gX4_holiday_X3_isRule rfl rfl rfl (by decide +kernel) ⟨Nat.le_of_ble_eq_true rfl, Nat.le_of_ble_eq_true rfl⟩) ⟨fun a U g mk q => q, fun U hU hW => ⟨rfl, trivial⟩⟩ rfl rfl hl.1 rfl (lv_room (Nat.le_of_ble_eq_true rfl)) dX4_holiday_5 ⟨Nat.zero_le _, Nat.zero_le _⟩)) (fun r1 (hr1 : r1 = zi (f_X3_isRule kk aa bb cz)) => ?_)
  subst hr1
  have hf1 := b_X3_isRule kk aa bb cz (by omega) (by omega) (by omega) (by omega)
  refine zw_if_ne (tgt := 21) hx hb dX4_holiday_8 (by decide) ⟨by omega, by omega⟩ (fun h2 => ?_) (fun h2 => ?_)
  · skip
    refine lv_aload_n hx hb dX4_holiday_21 rfl (lv_at hl 0 rfl) ?_
    refine va_get (D := (dC, dI)) (ci := 4) (v := .ref qr) (C := RX4) (T := TX4) (N := 6) hx hb hts (by decide +kernel) hown hK hP 0 rfl rfl 1 (by decide) (hts (.fieldLink RX4 16 "CivilDays" "rules" "Ljava/util/ArrayList;") (by decide +kernel)) (fun _ h9 => h9) rfl dX4_holiday_22 ?_
    have hh3 := c_Jx_size l dC dI qr mc qd 0 
    have hPc := hP.sub (ws' := [(qr, .inr (0, [.int (zi mc), .ref qd, .int (zi 0)]))]) [1] rfl
    have hKc : va_K (dC, dI) vwCl [] s := hK.sub (tys' := []) [] rfl
    refine vp_callSi (va_Run.run (va_runV (As := []) (rest := []) ⟨hx, hb, hml, hown, hts⟩ hh3 (cwV 0 hts gX4_holiday_Jx4a65c_size_8abf5 rfl rfl rfl (by decide +kernel) ⟨Nat.le_of_ble_eq_true rfl, Nat.le_of_ble_eq_true rfl⟩) ⟨zPr.blind _ _ _ _, va_recv hKc hPc (ci := 0) (q0 := 0) rfl rfl, fun U hU hW => ⟨rfl, by rw [hU]; exact hPc, va_K.moved hW.alike hKc⟩⟩ rfl rfl hl.1 rfl (lv_room (Nat.le_of_ble_eq_true rfl)) dX4_holiday_25 ⟨Nat.le_of_ble_eq_true rfl, Nat.le_of_ble_eq_true rfl⟩)) (fun r3 (hr3 : r3 = zi 0) => ?_)
    subst hr3
    refine zw_bipush hx hb dX4_holiday_28 (by decide) ?_
    refine zw_icmp_lt (tgt := 43) hx hb dX4_holiday_30 (by decide) ⟨by omega, by omega⟩ ⟨by omega, by omega⟩ (fun h4 => ?_) (fun h4 => ?_)
    · skip
      refine lv_aload_n hx hb dX4_holiday_43 rfl (lv_at hl 0 rfl) ?_
      refine va_get (D := (dC, dI)) (ci := 4) (v := .ref qr) (C := RX4) (T := TX4) (N := 6) hx hb hts (by decide +kernel) hown hK hP 0 rfl rfl 1 (by decide) (hts (.fieldLink RX4 16 "CivilDays" "rules" "Ljava/util/ArrayList;") (by decide +kernel)) (fun _ h9 => h9) rfl dX4_holiday_44 ?_
      refine va_new (C := RX3) (T := TX3) (N := 4) (ci := 3) (fs := [.int (zi 0), .int (zi 0), .int (zi 0), .int (zi 0)]) hx hb hts (by decide +kernel) tyX3 tyX3_ok hown (hts (.classLink RX4 125 RX3) (by decide +kernel)) (hts (.instantiable RX3 4) (by decide +kernel)) (hts (.initialized RX3) (by decide +kernel)) hK hP hD hS hA rfl (by decide +kernel) (Nat.le_of_ble_eq_true rfl) (Nat.le_of_ble_eq_true rfl) dX4_holiday_47 (fun q5 H hP hD hS => ?_)
      have hP : va_P (dC, dI) vwCl [(h0, .inr (4, [.ref qs, .ref qr, .ref qm, .ref qw, .ref qt, .int (zi we)])), (qr, .inr (0, [.int (zi mc), .ref qd, .int (zi 0)])), (q5, .inr (3, [.int (zi 0), .int (zi 0), .int (zi 0), .int (zi 0)]))] H := hP
      have hD : va_D A [(h0, .inr (4, [.ref qs, .ref qr, .ref qm, .ref qw, .ref qt, .int (zi we)])), (qr, .inr (0, [.int (zi mc), .ref qd, .int (zi 0)])), (q5, .inr (3, [.int (zi 0), .int (zi 0), .int (zi 0), .int (zi 0)]))] := hD
      refine lv_dup hx hb dX4_holiday_50 rfl ?_
      refine lv_iload_n hx hb dX4_holiday_51 rfl (lv_at hl 1 rfl) ?_
      refine lv_iload_n hx hb dX4_holiday_52 rfl (lv_at hl 2 rfl) ?_
      refine lv_iload_n hx hb dX4_holiday_53 rfl (lv_at hl 3 rfl) ?_
      refine lv_iload hx hb dX4_holiday_54 (lv_at hl 4 rfl) ?_
      have hh6 := c_X3_init l dC dI q5 kk aa bb cz H.size 
      have hPc := hP.sub (ws' := [(q5, .inr (3, [.int (zi 0), .int (zi 0), .int (zi 0), .int (zi 0)]))]) [2] rfl
      have hKc : va_K (dC, dI) vwCl [] s := hK.sub (tys' := []) [] rfl
      have hDc := hD.sub (ws' := [(q5, .inr (3, [.int (zi 0), .int (zi 0), .int (zi 0), .int (zi 0)]))]) [2] (by decide) rfl
      have hFc := va_free (wc := [(q5, .inr (3, [.int (zi 0), .int (zi 0), .int (zi 0), .int (zi 0)]))]) hD hS hA [2] rfl
      refine va_callv (va_runI (As := [.int (zi kk), .int (zi aa), .int (zi bb), .int (zi cz)]) (rest := [.ref q5, .ref qr]) ⟨hx, hb, hml, hown, hts⟩ hh6 (cwI 4 hts gX4_holiday_X3_init rfl rfl rfl (hts (.initialized RX3) (by decide +kernel)) (hts (.methodLink RX4 138 yX3_init) (by decide +kernel)) (hts (.instanceMethod yX3_init) (by decide +kernel)) rfl (by decide +kernel) ⟨Nat.le_of_ble_eq_true rfl, Nat.le_of_ble_eq_true rfl⟩) ⟨zPw.blind _ _ _ _ _, fun U hU hW => ⟨rfl, by rw [hU], by rw [hU]; exact hPc, va_K.moved hW.alike hKc, hDc.weaken (fun _ _ _ _ => trivial)⟩⟩ rfl rfl hl.1 rfl (lv_room (Nat.le_of_ble_eq_true rfl)) dX4_holiday_56 ⟨Nat.le_of_ble_eq_true rfl, Nat.le_of_ble_eq_true rfl⟩) hS (fun q _ h => hFc q h) hFc (fun u t H1 locs ht hvm hw hB hz1 hk1 hS => ?_)
      obtain ⟨hP1, hK1, hD1⟩ := hB
      rw [ht] at hP1
      obtain ⟨hP, hD⟩ := va_join (wr := [(h0, .inr (4, [.ref qs, .ref qr, .ref qm, .ref qw, .ref qt, .int (zi we)])), (qr, .inr (0, [.int (zi mc), .ref qd, .int (zi 0)]))]) (w1 := [(q5, .inr (3, [.int (zi kk), .int (zi aa), .int (zi bb), .int (zi cz)]))]) hP hD [2] [0, 1] rfl rfl (by decide) (by decide) hk1 hFc hP1 hD1
      generalize H1 = H at hP hS ⊢
      have hP : va_P (dC, dI) vwCl [(h0, .inr (4, [.ref qs, .ref qr, .ref qm, .ref qw, .ref qt, .int (zi we)])), (qr, .inr (0, [.int (zi mc), .ref qd, .int (zi 0)])), (q5, .inr (3, [.int (zi kk), .int (zi aa), .int (zi bb), .int (zi cz)]))] H := hP
      have hD : va_D A [(h0, .inr (4, [.ref qs, .ref qr, .ref qm, .ref qw, .ref qt, .int (zi we)])), (qr, .inr (0, [.int (zi mc), .ref qd, .int (zi 0)])), (q5, .inr (3, [.int (zi kk), .int (zi aa), .int (zi bb), .int (zi cz)]))] := hD
      have hh7 := c_Jz_add l dC dI cO qr mc qd mi q5 kk aa bb cz H.size 
      have hPc := hP.sub (ws' := [(qr, .inr (0, [.int (zi mc), .ref qd, .int (zi 0)])), (q5, .inr (3, [.int (zi kk), .int (zi aa), .int (zi bb), .int (zi cz)]))]) [1, 2] rfl
      have hKc : va_K (dC, dI) vwCl [(cO, .object "java/lang/Object")] s := hK
      have hDc := hD.sub (ws' := [(qr, .inr (0, [.int (zi mc), .ref qd, .int (zi 0)])), (q5, .inr (3, [.int (zi kk), .int (zi aa), .int (zi bb), .int (zi cz)]))]) [1, 2] (by decide) rfl
      have hFc := va_free (wc := [(qr, .inr (0, [.int (zi mc), .ref qd, .int (zi 0)])), (q5, .inr (3, [.int (zi kk), .int (zi aa), .int (zi bb), .int (zi cz)]))]) hD hS hA [1, 2] rfl
      refine va_calli (va_runV (As := [.ref q5]) (rest := []) ⟨hx, hb, hml, hown, hts⟩ hh7 (cwV 1 hts gX4_holiday_Jx4a65c_add_9ea2d rfl rfl rfl (by decide +kernel) ⟨Nat.le_of_ble_eq_true rfl, Nat.le_of_ble_eq_true rfl⟩) ⟨zPwF.blind _ _ _ _ _ zO2_ok, va_recv hKc hPc (ci := 0) (q0 := 0) rfl rfl, fun U hU hW => ⟨rfl, by rw [hU], by rw [hU]; exact hPc, va_K.moved hW.alike hKc, hDc.weaken (fun _ _ _ _ => trivial), zF.call zO2_ok hG hS hFc hU hW⟩⟩ rfl rfl hl.1 rfl (lv_room (Nat.le_of_ble_eq_true rfl)) dX4_holiday_59 ⟨Nat.le_of_ble_eq_true rfl, Nat.le_of_ble_eq_true rfl⟩) hS (fun q _ h => hFc q h) hFc (fun r7 u t H1 locs ht hvm hw hB hz1 hk1 hS => ?_)
      obtain ⟨qf_8, eg_8⟩ := u
      obtain ⟨hw, hw7⟩ := hw
      replace hw7 : eg_8 (Int.toNat 0) = some q5 := hw7
      obtain ⟨hP1, hK1, hD1⟩ := hB
      rw [ht] at hP1
      replace hP1 : va_P (dC, dI) vwCl [(qr, .inr (0, [.int (zi (mc + 1)), .ref qf_8, .int (zi 1)])), (qf_8, aR cO 10 eg_8), (q5, .inr (3, [.int (zi kk), .int (zi aa), .int (zi bb), .int (zi cz)]))] H1 := hP1
      replace hD1 : va_D _ [(qr, .inr (0, [.int (zi (mc + 1)), .ref qf_8, .int (zi 1)])), (qf_8, aR cO 10 eg_8), (q5, .inr (3, [.int (zi kk), .int (zi aa), .int (zi bb), .int (zi cz)]))] := hD1
      obtain ⟨hP, hD⟩ := va_join (wr := [(h0, .inr (4, [.ref qs, .ref qr, .ref qm, .ref qw, .ref qt, .int (zi we)]))]) (w1 := [(qr, .inr (0, [.int (zi (mc + 1)), .ref qf_8, .int (zi 1)])), (qf_8, aR cO 10 eg_8), (q5, .inr (3, [.int (zi kk), .int (zi aa), .int (zi bb), .int (zi cz)]))]) hP hD [1, 2] [0] rfl rfl (by decide) (by decide) hk1 hFc hP1 hD1
      generalize H1 = H at hP hS ⊢
      obtain rfl : r7 = zi 1 := hw
      have hP : va_P (dC, dI) vwCl [(h0, .inr (4, [.ref qs, .ref qr, .ref qm, .ref qw, .ref qt, .int (zi we)])), (qr, .inr (0, [.int (zi (mc + 1)), .ref qf_8, .int (zi 1)])), (qf_8, aR cO 10 eg_8), (q5, .inr (3, [.int (zi kk), .int (zi aa), .int (zi bb), .int (zi cz)]))] H := hP
      have hD : va_D A [(h0, .inr (4, [.ref qs, .ref qr, .ref qm, .ref qw, .ref qt, .int (zi we)])), (qr, .inr (0, [.int (zi (mc + 1)), .ref qf_8, .int (zi 1)])), (qf_8, aR cO 10 eg_8), (q5, .inr (3, [.int (zi kk), .int (zi aa), .int (zi bb), .int (zi cz)]))] := hD
      refine lv_pop hx hb dX4_holiday_62 rfl ?_
      refine lv_aload_n hx hb dX4_holiday_63 rfl (lv_at hl 0 rfl) ?_
      refine va_get (D := (dC, dI)) (ci := 4) (v := .ref qr) (C := RX4) (T := TX4) (N := 6) hx hb hts (by decide +kernel) hown hK hP 0 rfl rfl 1 (by decide) (hts (.fieldLink RX4 16 "CivilDays" "rules" "Ljava/util/ArrayList;") (by decide +kernel)) (fun _ h9 => h9) rfl dX4_holiday_64 ?_
      have hh9 := c_Jx_size l dC dI qr (mc + 1) qf_8 1 
      have hPc := hP.sub (ws' := [(qr, .inr (0, [.int (zi (mc + 1)), .ref qf_8, .int (zi 1)]))]) [1] rfl
      have hKc : va_K (dC, dI) vwCl [] s := hK.sub (tys' := []) [] rfl
      refine vp_callSi (va_Run.run (va_runV (As := []) (rest := []) ⟨hx, hb, hml, hown, hts⟩ hh9 (cwV 0 hts gX4_holiday_Jx4a65c_size_8abf5 rfl rfl rfl (by decide +kernel) ⟨Nat.le_of_ble_eq_true rfl, Nat.le_of_ble_eq_true rfl⟩) ⟨zPr.blind _ _ _ _, va_recv hKc hPc (ci := 0) (q0 := 0) rfl rfl, fun U hU hW => ⟨rfl, by rw [hU]; exact hPc, va_K.moved hW.alike hKc⟩⟩ rfl rfl hl.1 rfl (lv_room (Nat.le_of_ble_eq_true rfl)) dX4_holiday_67 ⟨Nat.le_of_ble_eq_true rfl, Nat.le_of_ble_eq_true rfl⟩)) (fun r9 (hr9 : r9 = zi 1) => ?_)
      subst hr9
      have hP9 := hP.sub (ws' := [(h0, .inr (4, [.ref qs, .ref qr, .ref qm, .ref qw, .ref qt, .int (zi we)])), (qr, .inr (0, [.int (zi (mc + 1)), .ref qf_8, .int (zi 1)])), (qf_8, aR cO 10 eg_8), (q5, .inr (3, [.int (zi kk), .int (zi aa), .int (zi bb), .int (zi cz)]))]) [0, 1, 2, 3] rfl
      have hD9 := hD.sub (ws' := [(h0, .inr (4, [.ref qs, .ref qr, .ref qm, .ref qw, .ref qt, .int (zi we)])), (qr, .inr (0, [.int (zi (mc + 1)), .ref qf_8, .int (zi 1)])), (qf_8, aR cO 10 eg_8), (q5, .inr (3, [.int (zi kk), .int (zi aa), .int (zi bb), .int (zi cz)]))]) [0, 1, 2, 3] (by decide) rfl
      have hp9 : eg_8 (Int.toNat 0) = some q5 := by
        assumption
      refine W.widen (k := 2) (n := 14) (Nat.le_of_ble_eq_true rfl) (Nat.le_of_ble_eq_true rfl) ?_
      exact W.iret (v := zi 1) hx hb hr (fun t ht hW => ⟨⟨zi 1, (qf_8, eg_8, q5), rfl, ⟨rfl, hp9⟩, by rw [ht]; exact hP9, va_K.moved hW.alike hK, hD9⟩, hS.F ht⟩) hS.2.2 dX4_holiday_70
    · skip
      exact absurd True.intro (by omega)
  · skip
    exact absurd True.intro (by omega)

set_option maxHeartbeats 4000000 in
set_option maxRecDepth 100000 in
theorem c_Xz_clear (l : Launch)  (dC : Nat → ClassId) (dI : Nat → Nat → Nat) (cI : ClassId) (h0 : Nat) (qs : Nat) (qr : Nat) (qm : Nat) (qw : Nat) (qt : Nat) (we : Int) (sf : Nat → Int) (mc : Int) (qd : Nat) (wc : Nat) (wl : Int) (wf : Nat → Int) (tc : Nat) (tl : Int) (tf : Nat → Int) (sz : Nat)  : Met l yX4_clear wsX4_clear ({ frames := 1, cells := 0, slots := 0, locals := 23 }) (zPw (dC, dI) [(cI, .int)] sz [.ref h0] [(h0, .inr (4, [.ref qs, .ref qr, .ref qm, .ref qw, .ref qt, .int (zi we)])), (qs, aI cI 10 sf), (qr, .inr (0, [.int (zi mc), .ref qd, .int (zi 0)])), (qw, .inr (1, [.ref wc, .int (zi wl)])), (wc, aI cI 20 wf), (qt, .inr (1, [.ref tc, .int (zi tl)])), (tc, aI cI 20 tf)]) (va_Qv (fun (u : (Nat → Int)) => ∀ j : Nat, u j = if j < 10 then (-1) else sf j) (fun (u : (Nat → Int)) => zB (dC, dI) [(cI, .int)] (va_A [(h0, .inr (4, [.ref qs, .ref qr, .ref qm, .ref qw, .ref qt, .int (zi we)])), (qs, aI cI 10 sf), (qr, .inr (0, [.int (zi mc), .ref qd, .int (zi 0)])), (qw, .inr (1, [.ref wc, .int (zi wl)])), (wc, aI cI 20 wf), (qt, .inr (1, [.ref tc, .int (zi tl)])), (tc, aI cI 20 tf)] sz) [(h0, .inr (4, [.ref qs, .ref qr, .ref qm, .ref qw, .ref qt, .int (zi 96)])), (qs, aI cI 10 u), (qr, .inr (0, [.int (zi (mc + 1)), .ref qd, .int (zi 0)])), (qw, .inr (1, [.ref wc, .int (zi 0)])), (wc, aI cI 20 wf), (qt, .inr (1, [.ref tc, .int (zi 0)])), (tc, aI cI 20 tf)] ()) (va_A [(h0, .inr (4, [.ref qs, .ref qr, .ref qm, .ref qw, .ref qt, .int (zi we)])), (qs, aI cI 10 sf), (qr, .inr (0, [.int (zi mc), .ref qd, .int (zi 0)])), (qw, .inr (1, [.ref wc, .int (zi wl)])), (wc, aI cI 20 wf), (qt, .inr (1, [.ref tc, .int (zi tl)])), (tc, aI cI 20 tf)] sz)) 0 0 (va_A [(h0, .inr (4, [.ref qs, .ref qr, .ref qm, .ref qw, .ref qt, .int (zi we)])), (qs, aI cI 10 sf), (qr, .inr (0, [.int (zi mc), .ref qd, .int (zi 0)])), (qw, .inr (1, [.ref wc, .int (zi wl)])), (wc, aI cI 20 wf), (qt, .inr (1, [.ref tc, .int (zi tl)])), (tc, aI cI 20 tf)] sz) := by
  refine Met.ofW (cc := cX4_clear) (maxL := 1) (ret := none) (by decide) rfl ?_
  intro p e s m args below meth c s₁ B hml hv
  obtain ⟨rfl, hsz, hP, hK, hD0⟩ := hv
  have hx := B.exec
  have hb := B.bytes
  have hr := B.returns
  have hts := atoms_spec (ws := wsX4_clear) B.pre
  have hown : s.vm.findClass RX4 = some m.cls := findClass_of_methodNamed B.named
  have hlocks := B.notSynchronized
  subst hsz
  have hD := hD0.self (sz := s.heap.size)
  generalize hAe : va_A [(h0, .inr (4, [.ref qs, .ref qr, .ref qm, .ref qw, .ref qt, .int (zi we)])), (qs, aI cI 10 sf), (qr, .inr (0, [.int (zi mc), .ref qd, .int (zi 0)])), (qw, .inr (1, [.ref wc, .int (zi wl)])), (wc, aI cI 20 wf), (qt, .inr (1, [.ref tc, .int (zi tl)])), (tc, aI cI 20 tf)] s.heap.size = A at hD ⊢
  have hA : ∀ q : Nat, s.heap.size ≤ q → A q := fun q h => by rw [← hAe]; exact Or.inr h
  have hS : va_S A s.heap s.heap [] := va_S.rf
  have hP : va_P (dC, dI) vwCl [(h0, .inr (4, [.ref qs, .ref qr, .ref qm, .ref qw, .ref qt, .int (zi we)])), (qs, aI cI 10 sf), (qr, .inr (0, [.int (zi mc), .ref qd, .int (zi 0)])), (qw, .inr (1, [.ref wc, .int (zi wl)])), (wc, aI cI 20 wf), (qt, .inr (1, [.ref tc, .int (zi tl)])), (tc, aI cI 20 tf)] s.heap := hP
  have hl := lv_entry ([.ref h0]) (n := 1) (Nat.le_of_ble_eq_true rfl)
  rw [lg_entry_eq]
  generalize (lg_sl ([.ref h0]) ++ List.replicate (1 - (lg_sl ([.ref h0])).length) Slot.unset).toArray = ls at hl ⊢
  have hl : lv_has ls 1 [(0, .ref h0)] := hl
  refine lv_aload_n hx hb dX4_clear_0 rfl (lv_at hl 0 rfl) ?_
  refine va_get (D := (dC, dI)) (ci := 4) (v := .ref qs) (C := RX4) (T := TX4) (N := 6) hx hb hts (by decide +kernel) hown hK hP 0 rfl rfl 0 (by decide) (hts (.fieldLink RX4 9 "CivilDays" "slots" "[I") (by decide +kernel)) (fun _ h9 => h9) rfl dX4_clear_1 ?_
  refine zw_iconst hx hb dX4_clear_4 ?_
  have hh1 := c_J7_fill l dC dI cI qs 10 sf (-1) s.heap.size (by omega)
  have hPc := hP.sub (ws' := [(qs, aI cI 10 sf)]) [1] rfl
  have hKc : va_K (dC, dI) vwCl [(cI, .int)] s := hK
  have hDc := hD.sub (ws' := [(qs, aI cI 10 sf)]) [1] (by decide) rfl
  have hFc := va_free (wc := [(qs, aI cI 10 sf)]) hD hS hA [1] rfl
  refine va_callv (va_runS (As := [.ref qs, .int (zi (-1))]) (rest := []) ⟨hx, hb, hml, hown, hts⟩ hh1 (va_cwS 2 hts gX4_clear_J7_fill_53178 rfl rfl rfl (by decide +kernel) ⟨Nat.le_of_ble_eq_true rfl, Nat.le_of_ble_eq_true rfl⟩) ⟨zPw.blind _ _ _ _ _, fun U hU hW => ⟨rfl, by rw [hU], by rw [hU]; exact hPc, va_K.moved hW.alike hKc, hDc.weaken (fun _ _ _ _ => trivial)⟩⟩ rfl rfl hl.1 rfl (lv_room (Nat.le_of_ble_eq_true rfl)) dX4_clear_5 ⟨Nat.le_of_ble_eq_true rfl, Nat.le_of_ble_eq_true rfl⟩) hS (fun q _ h => hFc q h) hFc (fun u t H1 locs ht hvm hw hB hz1 hk1 hS => ?_)
  generalize u = fg_2 at hw hB
  have hw1 := hw
  replace hw1 : ∀ j : Nat, fg_2 j = if j < 10 then (-1) else sf j := hw1
  obtain ⟨hP1, hK1, hD1⟩ := hB
  rw [ht] at hP1
  replace hP1 : va_P (dC, dI) vwCl [(qs, aI cI 10 fg_2)] H1 := hP1
  replace hD1 : va_D _ [(qs, aI cI 10 fg_2)] := hD1
  obtain ⟨hP, hD⟩ := va_join (wr := [(h0, .inr (4, [.ref qs, .ref qr, .ref qm, .ref qw, .ref qt, .int (zi we)])), (qr, .inr (0, [.int (zi mc), .ref qd, .int (zi 0)])), (qw, .inr (1, [.ref wc, .int (zi wl)])), (wc, aI cI 20 wf), (qt, .inr (1, [.ref tc, .int (zi tl)])), (tc, aI cI 20 tf)]) (w1 := [(qs, aI cI 10 fg_2)]) hP hD [1] [0, 2, 3, 4, 5, 6] rfl rfl (by decide) (by decide) hk1 hFc hP1 hD1
  generalize H1 = H at hP hS ⊢
  have hP : va_P (dC, dI) vwCl [(h0, .inr (4, [.ref qs, .ref qr, .ref qm, .ref qw, .ref qt, .int (zi we)])), (qr, .inr (0, [.int (zi mc), .ref qd, .int (zi 0)])), (qw, .inr (1, [.ref wc, .int (zi wl)])), (wc, aI cI 20 wf), (qt, .inr (1, [.ref tc, .int (zi tl)])), (tc, aI cI 20 tf), (qs, aI cI 10 fg_2)] H := hP
  have hD : va_D A [(h0, .inr (4, [.ref qs, .ref qr, .ref qm, .ref qw, .ref qt, .int (zi we)])), (qr, .inr (0, [.int (zi mc), .ref qd, .int (zi 0)])), (qw, .inr (1, [.ref wc, .int (zi wl)])), (wc, aI cI 20 wf), (qt, .inr (1, [.ref tc, .int (zi tl)])), (tc, aI cI 20 tf), (qs, aI cI 10 fg_2)] := hD
  refine lv_aload_n hx hb dX4_clear_8 rfl (lv_at hl 0 rfl) ?_
  refine va_get (D := (dC, dI)) (ci := 4) (v := .ref qr) (C := RX4) (T := TX4) (N := 6) hx hb hts (by decide +kernel) hown hK hP 0 rfl rfl 1 (by decide) (hts (.fieldLink RX4 16 "CivilDays" "rules" "Ljava/util/ArrayList;") (by decide +kernel)) (fun _ h9 => h9) rfl dX4_clear_9 ?_
  have hh3 := c_Jz_clear l dC dI qr mc qd H.size 
  have hPc := hP.sub (ws' := [(qr, .inr (0, [.int (zi mc), .ref qd, .int (zi 0)]))]) [1] rfl
  have hKc : va_K (dC, dI) vwCl [] s := hK.sub (tys' := []) [] rfl
  have hDc := hD.sub (ws' := [(qr, .inr (0, [.int (zi mc), .ref qd, .int (zi 0)]))]) [1] (by decide) rfl
  have hFc := va_free (wc := [(qr, .inr (0, [.int (zi mc), .ref qd, .int (zi 0)]))]) hD hS hA [1] rfl
  refine va_callv (va_runV (As := []) (rest := []) ⟨hx, hb, hml, hown, hts⟩ hh3 (cwV 0 hts gX4_clear_Jx4a65c_clear_da8c8 rfl rfl rfl (by decide +kernel) ⟨Nat.le_of_ble_eq_true rfl, Nat.le_of_ble_eq_true rfl⟩) ⟨zPw.blind _ _ _ _ _, va_recv hKc hPc (ci := 0) (q0 := 0) rfl rfl, fun U hU hW => ⟨rfl, by rw [hU], by rw [hU]; exact hPc, va_K.moved hW.alike hKc, hDc.weaken (fun _ _ _ _ => trivial)⟩⟩ rfl rfl hl.1 rfl (lv_room (Nat.le_of_ble_eq_true rfl)) dX4_clear_12 ⟨Nat.le_of_ble_eq_true rfl, Nat.le_of_ble_eq_true rfl⟩) hS (fun q _ h => hFc q h) hFc (fun u t H1 locs ht hvm hw hB hz1 hk1 hS => ?_)
  obtain ⟨hP1, hK1, hD1⟩ := hB
  rw [ht] at hP1
  obtain ⟨hP, hD⟩ := va_join (wr := [(h0, .inr (4, [.ref qs, .ref qr, .ref qm, .ref qw, .ref qt, .int (zi we)])), (qw, .inr (1, [.ref wc, .int (zi wl)])), (wc, aI cI 20 wf), (qt, .inr (1, [.ref tc, .int (zi tl)])), (tc, aI cI 20 tf), (qs, aI cI 10 fg_2)]) (w1 := [(qr, .inr (0, [.int (zi (mc + 1)), .ref qd, .int (zi 0)]))]) hP hD [1] [0, 2, 3, 4, 5, 6] rfl rfl (by decide) (by decide) hk1 hFc hP1 hD1
  generalize H1 = H at hP hS ⊢
  have hP : va_P (dC, dI) vwCl [(h0, .inr (4, [.ref qs, .ref qr, .ref qm, .ref qw, .ref qt, .int (zi we)])), (qw, .inr (1, [.ref wc, .int (zi wl)])), (wc, aI cI 20 wf), (qt, .inr (1, [.ref tc, .int (zi tl)])), (tc, aI cI 20 tf), (qs, aI cI 10 fg_2), (qr, .inr (0, [.int (zi (mc + 1)), .ref qd, .int (zi 0)]))] H := hP
  have hD : va_D A [(h0, .inr (4, [.ref qs, .ref qr, .ref qm, .ref qw, .ref qt, .int (zi we)])), (qw, .inr (1, [.ref wc, .int (zi wl)])), (wc, aI cI 20 wf), (qt, .inr (1, [.ref tc, .int (zi tl)])), (tc, aI cI 20 tf), (qs, aI cI 10 fg_2), (qr, .inr (0, [.int (zi (mc + 1)), .ref qd, .int (zi 0)]))] := hD
  refine lv_aload_n hx hb dX4_clear_15 rfl (lv_at hl 0 rfl) ?_
  refine va_get (D := (dC, dI)) (ci := 4) (v := .ref qw) (C := RX4) (T := TX4) (N := 6) hx hb hts (by decide +kernel) hown hK hP 0 rfl rfl 3 (by decide) (hts (.fieldLink RX4 30 "CivilDays" "written" "LCivilDays$Line;") (by decide +kernel)) (fun _ h9 => h9) rfl dX4_clear_16 ?_
  have hh4 := c_X1_empty l dC dI cI qw wc wl wf H.size 
  have hPc := hP.sub (ws' := [(qw, .inr (1, [.ref wc, .int (zi wl)])), (wc, aI cI 20 wf)]) [1, 2] rfl
  have hKc : va_K (dC, dI) vwCl [(cI, .int)] s := hK
  have hDc := hD.sub (ws' := [(qw, .inr (1, [.ref wc, .int (zi wl)])), (wc, aI cI 20 wf)]) [1, 2] (by decide) rfl
  have hFc := va_free (wc := [(qw, .inr (1, [.ref wc, .int (zi wl)])), (wc, aI cI 20 wf)]) hD hS hA [1, 2] rfl
  refine va_callv (va_runV (As := []) (rest := []) ⟨hx, hb, hml, hown, hts⟩ hh4 (cwV 0 hts gX4_clear_X1_empty rfl rfl rfl (by decide +kernel) ⟨Nat.le_of_ble_eq_true rfl, Nat.le_of_ble_eq_true rfl⟩) ⟨zPw.blind _ _ _ _ _, va_recv hKc hPc (ci := 1) (q0 := 0) rfl rfl, fun U hU hW => ⟨rfl, by rw [hU], by rw [hU]; exact hPc, va_K.moved hW.alike hKc, hDc.weaken (fun _ _ _ _ => trivial)⟩⟩ rfl rfl hl.1 rfl (lv_room (Nat.le_of_ble_eq_true rfl)) dX4_clear_19 ⟨Nat.le_of_ble_eq_true rfl, Nat.le_of_ble_eq_true rfl⟩) hS (fun q _ h => hFc q h) hFc (fun u t H1 locs ht hvm hw hB hz1 hk1 hS => ?_)
  obtain ⟨hP1, hK1, hD1⟩ := hB
  rw [ht] at hP1
  obtain ⟨hP, hD⟩ := va_join (wr := [(h0, .inr (4, [.ref qs, .ref qr, .ref qm, .ref qw, .ref qt, .int (zi we)])), (qt, .inr (1, [.ref tc, .int (zi tl)])), (tc, aI cI 20 tf), (qs, aI cI 10 fg_2), (qr, .inr (0, [.int (zi (mc + 1)), .ref qd, .int (zi 0)]))]) (w1 := [(qw, .inr (1, [.ref wc, .int (zi 0)])), (wc, aI cI 20 wf)]) hP hD [1, 2] [0, 3, 4, 5, 6] rfl rfl (by decide) (by decide) hk1 hFc hP1 hD1
  generalize H1 = H at hP hS ⊢
  have hP : va_P (dC, dI) vwCl [(h0, .inr (4, [.ref qs, .ref qr, .ref qm, .ref qw, .ref qt, .int (zi we)])), (qt, .inr (1, [.ref tc, .int (zi tl)])), (tc, aI cI 20 tf), (qs, aI cI 10 fg_2), (qr, .inr (0, [.int (zi (mc + 1)), .ref qd, .int (zi 0)])), (qw, .inr (1, [.ref wc, .int (zi 0)])), (wc, aI cI 20 wf)] H := hP
  have hD : va_D A [(h0, .inr (4, [.ref qs, .ref qr, .ref qm, .ref qw, .ref qt, .int (zi we)])), (qt, .inr (1, [.ref tc, .int (zi tl)])), (tc, aI cI 20 tf), (qs, aI cI 10 fg_2), (qr, .inr (0, [.int (zi (mc + 1)), .ref qd, .int (zi 0)])), (qw, .inr (1, [.ref wc, .int (zi 0)])), (wc, aI cI 20 wf)] := hD
  refine lv_aload_n hx hb dX4_clear_22 rfl (lv_at hl 0 rfl) ?_
  refine va_get (D := (dC, dI)) (ci := 4) (v := .ref qt) (C := RX4) (T := TX4) (N := 6) hx hb hts (by decide +kernel) hown hK hP 0 rfl rfl 4 (by decide) (hts (.fieldLink RX4 34 "CivilDays" "typed" "LCivilDays$Line;") (by decide +kernel)) (fun _ h9 => h9) rfl dX4_clear_23 ?_
  have hh5 := c_X1_empty l dC dI cI qt tc tl tf H.size 
  have hPc := hP.sub (ws' := [(qt, .inr (1, [.ref tc, .int (zi tl)])), (tc, aI cI 20 tf)]) [1, 2] rfl
  have hKc : va_K (dC, dI) vwCl [(cI, .int)] s := hK
  have hDc := hD.sub (ws' := [(qt, .inr (1, [.ref tc, .int (zi tl)])), (tc, aI cI 20 tf)]) [1, 2] (by decide) rfl
  have hFc := va_free (wc := [(qt, .inr (1, [.ref tc, .int (zi tl)])), (tc, aI cI 20 tf)]) hD hS hA [1, 2] rfl
  refine va_callv (va_runV (As := []) (rest := []) ⟨hx, hb, hml, hown, hts⟩ hh5 (cwV 0 hts gX4_clear_X1_empty rfl rfl rfl (by decide +kernel) ⟨Nat.le_of_ble_eq_true rfl, Nat.le_of_ble_eq_true rfl⟩) ⟨zPw.blind _ _ _ _ _, va_recv hKc hPc (ci := 1) (q0 := 0) rfl rfl, fun U hU hW => ⟨rfl, by rw [hU], by rw [hU]; exact hPc, va_K.moved hW.alike hKc, hDc.weaken (fun _ _ _ _ => trivial)⟩⟩ rfl rfl hl.1 rfl (lv_room (Nat.le_of_ble_eq_true rfl)) dX4_clear_26 ⟨Nat.le_of_ble_eq_true rfl, Nat.le_of_ble_eq_true rfl⟩) hS (fun q _ h => hFc q h) hFc (fun u t H1 locs ht hvm hw hB hz1 hk1 hS => ?_)
  obtain ⟨hP1, hK1, hD1⟩ := hB
  rw [ht] at hP1
  obtain ⟨hP, hD⟩ := va_join (wr := [(h0, .inr (4, [.ref qs, .ref qr, .ref qm, .ref qw, .ref qt, .int (zi we)])), (qs, aI cI 10 fg_2), (qr, .inr (0, [.int (zi (mc + 1)), .ref qd, .int (zi 0)])), (qw, .inr (1, [.ref wc, .int (zi 0)])), (wc, aI cI 20 wf)]) (w1 := [(qt, .inr (1, [.ref tc, .int (zi 0)])), (tc, aI cI 20 tf)]) hP hD [1, 2] [0, 3, 4, 5, 6] rfl rfl (by decide) (by decide) hk1 hFc hP1 hD1
  generalize H1 = H at hP hS ⊢
  have hP : va_P (dC, dI) vwCl [(h0, .inr (4, [.ref qs, .ref qr, .ref qm, .ref qw, .ref qt, .int (zi we)])), (qs, aI cI 10 fg_2), (qr, .inr (0, [.int (zi (mc + 1)), .ref qd, .int (zi 0)])), (qw, .inr (1, [.ref wc, .int (zi 0)])), (wc, aI cI 20 wf), (qt, .inr (1, [.ref tc, .int (zi 0)])), (tc, aI cI 20 tf)] H := hP
  have hD : va_D A [(h0, .inr (4, [.ref qs, .ref qr, .ref qm, .ref qw, .ref qt, .int (zi we)])), (qs, aI cI 10 fg_2), (qr, .inr (0, [.int (zi (mc + 1)), .ref qd, .int (zi 0)])), (qw, .inr (1, [.ref wc, .int (zi 0)])), (wc, aI cI 20 wf), (qt, .inr (1, [.ref tc, .int (zi 0)])), (tc, aI cI 20 tf)] := hD
  refine lv_aload_n hx hb dX4_clear_29 rfl (lv_at hl 0 rfl) ?_
  refine zw_bipush hx hb dX4_clear_30 (by decide) ?_
  refine va_put (D := (dC, dI)) (ci := 4) (v := .int (zi 96)) (ty := .int) (C := RX4) (T := TX4) (N := 6) hx hb hts (by decide +kernel) tyX4 tyX4_ok nmX4 hown hK hP hD hS 0 rfl rfl 5 (by decide) (hts (.fieldLink RX4 154 "CivilDays" "weekendSet" "I") (by decide +kernel)) (fun _ h9 => h9) rfl (by decide +kernel) rfl rfl (Nat.le_of_ble_eq_true rfl) dX4_clear_32 (fun H locs hP hD hS => ?_)
  have hP : va_P (dC, dI) vwCl [(h0, .inr (4, [.ref qs, .ref qr, .ref qm, .ref qw, .ref qt, .int (zi 96)])), (qs, aI cI 10 fg_2), (qr, .inr (0, [.int (zi (mc + 1)), .ref qd, .int (zi 0)])), (qw, .inr (1, [.ref wc, .int (zi 0)])), (wc, aI cI 20 wf), (qt, .inr (1, [.ref tc, .int (zi 0)])), (tc, aI cI 20 tf)] H := hP
  have hD : va_D A [(h0, .inr (4, [.ref qs, .ref qr, .ref qm, .ref qw, .ref qt, .int (zi 96)])), (qs, aI cI 10 fg_2), (qr, .inr (0, [.int (zi (mc + 1)), .ref qd, .int (zi 0)])), (qw, .inr (1, [.ref wc, .int (zi 0)])), (wc, aI cI 20 wf), (qt, .inr (1, [.ref tc, .int (zi 0)])), (tc, aI cI 20 tf)] := hD
  have hP9 := hP.sub (ws' := [(h0, .inr (4, [.ref qs, .ref qr, .ref qm, .ref qw, .ref qt, .int (zi 96)])), (qs, aI cI 10 fg_2), (qr, .inr (0, [.int (zi (mc + 1)), .ref qd, .int (zi 0)])), (qw, .inr (1, [.ref wc, .int (zi 0)])), (wc, aI cI 20 wf), (qt, .inr (1, [.ref tc, .int (zi 0)])), (tc, aI cI 20 tf)]) [0, 1, 2, 3, 4, 5, 6] rfl
  have hD9 := hD.sub (ws' := [(h0, .inr (4, [.ref qs, .ref qr, .ref qm, .ref qw, .ref qt, .int (zi 96)])), (qs, aI cI 10 fg_2), (qr, .inr (0, [.int (zi (mc + 1)), .ref qd, .int (zi 0)])), (qw, .inr (1, [.ref wc, .int (zi 0)])), (wc, aI cI 20 wf), (qt, .inr (1, [.ref tc, .int (zi 0)])), (tc, aI cI 20 tf)]) [0, 1, 2, 3, 4, 5, 6] (by decide) rfl
  have hp9 : ∀ j : Nat, fg_2 j = if j < 10 then (-1) else sf j := by
    assumption
  exact W.vret hx hb hr (fun t ht hW => ⟨⟨fg_2, rfl, hp9, by rw [ht]; exact hP9, va_K.moved hW.alike hK, hD9⟩, hS.F ht⟩) hS.2.2 dX4_clear_35

set_option maxHeartbeats 4000000 in
set_option maxRecDepth 100000 in
theorem c_Jz_init (l : Launch)  (dC : Nat → ClassId) (dI : Nat → Nat → Nat) (h0 : Nat) (qd : Nat) (mi : Nat) (sz : Nat)  : Met l yJx4a65c_init_da8c8 wsJx4a65c_init_da8c8 ({ frames := 3, cells := 0, slots := 0, locals := 64 }) (zPwF (dC, dI) [] sz [.ref h0] [(h0, .inr (0, [.int (zi 0), .null, .int (zi 0)]))] (zO2 qd mi)) (va_Qv (fun (_ : Unit) => True) (zB (dC, dI) [] (va_A [(h0, .inr (0, [.int (zi 0), .null, .int (zi 0)]))] sz) [(h0, .inr (0, [.int (zi 0), .ref qd, .int (zi 0)]))]) (va_A [(h0, .inr (0, [.int (zi 0), .null, .int (zi 0)]))] sz)) 0 0 (va_A [(h0, .inr (0, [.int (zi 0), .null, .int (zi 0)]))] sz) := by
  refine Met.ofW (cc := cJx4a65c_init_da8c8) (maxL := 1) (ret := none) (by decide) rfl ?_
  intro p e s m args below meth c s₁ B hml hv
  obtain ⟨rfl, hsz, hP, hK, hD0, hG⟩ := hv
  have hini9 : meth.name = "<init>" := (name_of_methodNamed B.named B.method).1
  have hx := B.exec
  have hb := B.bytes
  have hr := B.returns
  have hts := atoms_spec (ws := wsJx4a65c_init_da8c8) B.pre
  have hown : s.vm.findClass RJx4a65c = some m.cls := findClass_of_methodNamed B.named
  have hlocks := B.notSynchronized
  subst hsz
  have hD := hD0.self (sz := s.heap.size)
  generalize hAe : va_A [(h0, .inr (0, [.int (zi 0), .null, .int (zi 0)]))] s.heap.size = A at hD hG ⊢
  have hA : ∀ q : Nat, s.heap.size ≤ q → A q := fun q h => by rw [← hAe]; exact Or.inr h
  have hS : va_S A s.heap s.heap [] := va_S.rf
  have hP : va_P (dC, dI) vwCl [(h0, .inr (0, [.int (zi 0), .null, .int (zi 0)]))] s.heap := hP
  have hl := lv_entry ([.ref h0]) (n := 1) (Nat.le_of_ble_eq_true rfl)
  rw [lg_entry_eq]
  generalize (lg_sl ([.ref h0]) ++ List.replicate (1 - (lg_sl ([.ref h0])).length) Slot.unset).toArray = ls at hl ⊢
  have hl : lv_has ls 1 [(0, .ref h0)] := hl
  refine lv_aload_n hx hb dJx4a65c_init_da8c8_0 rfl (lv_at hl 0 rfl) ?_
  have hh1 := c_Jxc_init l dC dI h0 s.heap.size 
  have hPc := hP.sub (ws' := [(h0, .inr (0, [.int (zi 0), .null, .int (zi 0)]))]) [0] rfl
  have hKc : va_K (dC, dI) vwCl [] s := hK
  have hDc := hD.sub (ws' := [(h0, .inr (0, [.int (zi 0), .null, .int (zi 0)]))]) [0] (by decide) rfl
  have hFc := va_free (wc := [(h0, .inr (0, [.int (zi 0), .null, .int (zi 0)]))]) hD hS hA [0] rfl
  refine va_callv (va_runI (As := []) (rest := []) ⟨hx, hb, hml, hown, hts⟩ hh1 (cwI 0 hts gJx4a65c_init_da8c8_Jxc12de_init_da8c8 rfl rfl rfl (hts (.initialized RJxc12de) (by decide +kernel)) (hts (.methodLink RJx4a65c 1 yJxc12de_init_da8c8) (by decide +kernel)) (hts (.instanceMethod yJxc12de_init_da8c8) (by decide +kernel)) rfl (by decide +kernel) ⟨Nat.le_of_ble_eq_true rfl, Nat.le_of_ble_eq_true rfl⟩) ⟨zPw.blind _ _ _ _ _, fun U hU hW => ⟨rfl, by rw [hU], by rw [hU]; exact hPc, va_K.moved hW.alike hKc, hDc.weaken (fun _ _ _ _ => trivial)⟩⟩ rfl rfl hl.1 rfl (lv_room (Nat.le_of_ble_eq_true rfl)) dJx4a65c_init_da8c8_1 ⟨Nat.le_of_ble_eq_true rfl, Nat.le_of_ble_eq_true rfl⟩) hS (fun q _ h => hFc q h) hFc (fun u t H1 locs ht hvm hw hB hz1 hk1 hS => ?_)
  obtain ⟨hP1, hK1, hD1⟩ := hB
  rw [ht] at hP1
  obtain ⟨hP, hD⟩ := va_join (wr := []) (w1 := [(h0, .inr (0, [.int (zi 0), .null, .int (zi 0)]))]) hP hD [0] [] rfl rfl (by decide) (by decide) hk1 hFc hP1 hD1
  generalize H1 = H at hP hS ⊢
  have hP : va_P (dC, dI) vwCl [(h0, .inr (0, [.int (zi 0), .null, .int (zi 0)]))] H := hP
  have hD : va_D A [(h0, .inr (0, [.int (zi 0), .null, .int (zi 0)]))] := hD
  refine lv_aload_n hx hb dJx4a65c_init_da8c8_4 rfl (lv_at hl 0 rfl) ?_
  refine va_gets (C := "java/util/ArrayList") hx hb (zO2_z hG) hS hown (hts (.fieldLink RJx4a65c 39 "java/util/ArrayList" "DEFAULTCAPACITY_EMPTY_ELEMENTDATA" "[Ljava/lang/Object;") (by decide +kernel)) (fun _ h9 => h9) dJx4a65c_init_da8c8_5 ?_
  refine va_put (D := (dC, dI)) (ci := 0) (v := .ref qd) (ty := (.array (.object "java/lang/Object"))) (C := RJx4a65c) (T := TJx4a65c) (N := 3) hx hb hts (by decide +kernel) tyJx4a65c tyJx4a65c_ok nmJx4a65c hown hK hP hD hS 0 rfl rfl 1 (by decide) (hts (.fieldLink RJx4a65c 9 "java/util/ArrayList" "elementData" "[Ljava/lang/Object;") (by decide +kernel)) (fun _ h9 => h9) rfl (by decide +kernel) rfl rfl (Nat.le_of_ble_eq_true rfl) dJx4a65c_init_da8c8_8 (fun H locs hP hD hS => ?_)
  have hP : va_P (dC, dI) vwCl [(h0, .inr (0, [.int (zi 0), .ref qd, .int (zi 0)]))] H := hP
  have hD : va_D A [(h0, .inr (0, [.int (zi 0), .ref qd, .int (zi 0)]))] := hD
  have hP9 := hP.sub (ws' := [(h0, .inr (0, [.int (zi 0), .ref qd, .int (zi 0)]))]) [0] rfl
  have hD9 := hD.sub (ws' := [(h0, .inr (0, [.int (zi 0), .ref qd, .int (zi 0)]))]) [0] (by decide) rfl
  exact W.vret hx hb hr (fun t ht hW => ⟨⟨(), rfl, trivial, by rw [ht]; exact hP9, va_K.moved hW.alike hK, hD9⟩, hS.F ht⟩) hS.2.2 dJx4a65c_init_da8c8_11

set_option maxHeartbeats 4000000 in
set_option maxRecDepth 100000 in
theorem c_Xz_init (l : Launch)  (dC : Nat → ClassId) (dI : Nat → Nat → Nat) (cI : ClassId) (h0 : Nat) (qd : Nat) (mi : Nat) (sz : Nat)  : Met l yX4_init wsX4_init ({ frames := 4, cells := 8, slots := 426, locals := 84 }) (zPwF (dC, dI) [(cI, .int)] sz [.ref h0] [(h0, .inr (4, [.null, .null, .null, .null, .null, .int (zi 0)]))] (zO2 qd mi)) (va_Qv (fun (u : (Nat → Int) × (Nat) × (Nat) × (Nat) × (Nat) × (Nat) × (Nat) × (Nat) × (Nat)) => ∀ j : Nat, u.1 j = if j < 10 then (-1) else 0) (fun (u : (Nat → Int) × (Nat) × (Nat) × (Nat) × (Nat) × (Nat) × (Nat) × (Nat) × (Nat)) => zB (dC, dI) [(cI, .int)] (va_A [(h0, .inr (4, [.null, .null, .null, .null, .null, .int (zi 0)]))] sz) [(h0, .inr (4, [.ref u.2.1, .ref u.2.2.1, .ref u.2.2.2.1, .ref u.2.2.2.2.1, .ref u.2.2.2.2.2.1, .int (zi 96)])), (u.2.1, aI cI 10 u.1), (u.2.2.1, .inr (0, [.int (zi 1), .ref qd, .int (zi 0)])), (u.2.2.2.1, .inr (2, [.ref u.2.2.2.2.2.2.1, .int (zi 0), .int (zi 0)])), (u.2.2.2.2.2.2.1, aI cI 366 (fun _ => 0)), (u.2.2.2.2.1, .inr (1, [.ref u.2.2.2.2.2.2.2.1, .int (zi 0)])), (u.2.2.2.2.2.2.2.1, aI cI 20 (fun _ => 0)), (u.2.2.2.2.2.1, .inr (1, [.ref u.2.2.2.2.2.2.2.2, .int (zi 0)])), (u.2.2.2.2.2.2.2.2, aI cI 20 (fun _ => 0))] ()) (va_A [(h0, .inr (4, [.null, .null, .null, .null, .null, .int (zi 0)]))] sz)) 8 426 (va_A [(h0, .inr (4, [.null, .null, .null, .null, .null, .int (zi 0)]))] sz) := by
  refine Met.ofW (cc := cX4_init) (maxL := 1) (ret := none) (by decide) rfl ?_
  intro p e s m args below meth c s₁ B hml hv
  obtain ⟨rfl, hsz, hP, hK, hD0, hG⟩ := hv
  have hini9 : meth.name = "<init>" := (name_of_methodNamed B.named B.method).1
  have hx := B.exec
  have hb := B.bytes
  have hr := B.returns
  have hts := atoms_spec (ws := wsX4_init) B.pre
  have hown : s.vm.findClass RX4 = some m.cls := findClass_of_methodNamed B.named
  have hlocks := B.notSynchronized
  subst hsz
  have hD := hD0.self (sz := s.heap.size)
  generalize hAe : va_A [(h0, .inr (4, [.null, .null, .null, .null, .null, .int (zi 0)]))] s.heap.size = A at hD hG ⊢
  have hA : ∀ q : Nat, s.heap.size ≤ q → A q := fun q h => by rw [← hAe]; exact Or.inr h
  have hS : va_S A s.heap s.heap [] := va_S.rf
  have hP : va_P (dC, dI) vwCl [(h0, .inr (4, [.null, .null, .null, .null, .null, .int (zi 0)]))] s.heap := hP
  have hl := lv_entry ([.ref h0]) (n := 1) (Nat.le_of_ble_eq_true rfl)
  rw [lg_entry_eq]
  generalize (lg_sl ([.ref h0]) ++ List.replicate (1 - (lg_sl ([.ref h0])).length) Slot.unset).toArray = ls at hl ⊢
  have hl : lv_has ls 1 [(0, .ref h0)] := hl
  refine lv_aload_n hx hb dX4_init_0 rfl (lv_at hl 0 rfl) ?_
  refine zw_objInit hx hb hown (hts (.methodLink RX4 1 objectInit) (by decide +kernel)) (hts (.instanceMethod objectInit) (by decide +kernel)) (hts (.code objectInit ⟨#[0xb1]⟩ 1 none) (by decide +kernel)) (hl.1.trans hml.symm) dX4_init_1 (Nat.le_of_ble_eq_true rfl) (Nat.le_of_ble_eq_true rfl) ?_
  refine lv_aload_n hx hb dX4_init_4 rfl (lv_at hl 0 rfl) ?_
  refine zw_bipush hx hb dX4_init_5 (by decide) ?_
  refine zw_newI (N9 := 10) hx hb (hts (.arrayClass .int) (by decide +kernel)) hK hP hD hS hA rfl (Nat.le_of_ble_eq_true rfl) (Nat.le_of_ble_eq_true rfl) (Nat.le_of_ble_eq_true rfl) dX4_init_7 (fun q1 cA1 H hKn hP hD hS => ?_)
  obtain rfl : cI = cA1 := zK_same hKn 0 1 rfl rfl
  have hP : va_P (dC, dI) vwCl [(h0, .inr (4, [.null, .null, .null, .null, .null, .int (zi 0)])), (q1, aI cI 10 (fun _ => 0))] H := hP
  have hD : va_D A [(h0, .inr (4, [.null, .null, .null, .null, .null, .int (zi 0)])), (q1, aI cI 10 (fun _ => 0))] := hD
  refine va_putF (D := (dC, dI)) (ci := 4) (v := .ref q1) (ty := (.array .int)) (C := RX4) (T := TX4) (N := 6) hx hb hts (by decide +kernel) tyX4 tyX4_ok nmX4 hown hK hP hD hS 0 rfl rfl 0 (by decide) (hts (.fieldLink RX4 9 "CivilDays" "slots" "[I") (by decide +kernel)) (fun _ h9 => h9) rfl hini9 rfl (by decide +kernel) rfl rfl (Nat.le_of_ble_eq_true rfl) dX4_init_9 (fun H locs hP hD hS => ?_)
  have hP : va_P (dC, dI) vwCl [(h0, .inr (4, [.ref q1, .null, .null, .null, .null, .int (zi 0)])), (q1, aI cI 10 (fun _ => 0))] H := hP
  have hD : va_D A [(h0, .inr (4, [.ref q1, .null, .null, .null, .null, .int (zi 0)])), (q1, aI cI 10 (fun _ => 0))] := hD
  refine lv_aload_n hx hb dX4_init_12 rfl (lv_at hl 0 rfl) ?_
  refine va_new (C := RJx4a65c) (T := TJx4a65c) (N := 3) (ci := 0) (fs := [.int (zi 0), .null, .int (zi 0)]) hx hb hts (by decide +kernel) tyJx4a65c tyJx4a65c_ok hown (hts (.classLink RX4 13 RJx4a65c) (by decide +kernel)) (hts (.instantiable RJx4a65c 3) (by decide +kernel)) (hts (.initialized RJx4a65c) (by decide +kernel)) hK hP hD hS hA rfl (by decide +kernel) (Nat.le_of_ble_eq_true rfl) (Nat.le_of_ble_eq_true rfl) dX4_init_13 (fun q2 H hP hD hS => ?_)
  have hP : va_P (dC, dI) vwCl [(h0, .inr (4, [.ref q1, .null, .null, .null, .null, .int (zi 0)])), (q1, aI cI 10 (fun _ => 0)), (q2, .inr (0, [.int (zi 0), .null, .int (zi 0)]))] H := hP
  have hD : va_D A [(h0, .inr (4, [.ref q1, .null, .null, .null, .null, .int (zi 0)])), (q1, aI cI 10 (fun _ => 0)), (q2, .inr (0, [.int (zi 0), .null, .int (zi 0)]))] := hD
  refine lv_dup hx hb dX4_init_16 rfl ?_
  have hh3 := c_Jz_init l dC dI q2 qd mi H.size 
  have hPc := hP.sub (ws' := [(q2, .inr (0, [.int (zi 0), .null, .int (zi 0)]))]) [2] rfl
  have hKc : va_K (dC, dI) vwCl [] s := hK.sub (tys' := []) [] rfl
  have hDc := hD.sub (ws' := [(q2, .inr (0, [.int (zi 0), .null, .int (zi 0)]))]) [2] (by decide) rfl
  have hFc := va_free (wc := [(q2, .inr (0, [.int (zi 0), .null, .int (zi 0)]))]) hD hS hA [2] rfl
  refine va_callv (va_runI (As := []) (rest := [.ref q2, .ref h0]) ⟨hx, hb, hml, hown, hts⟩ hh3 (cwI 0 hts gX4_init_Jx4a65c_init_da8c8 rfl rfl rfl (hts (.initialized RJx4a65c) (by decide +kernel)) (hts (.methodLink RX4 15 yJx4a65c_init_da8c8) (by decide +kernel)) (hts (.instanceMethod yJx4a65c_init_da8c8) (by decide +kernel)) rfl (by decide +kernel) ⟨Nat.le_of_ble_eq_true rfl, Nat.le_of_ble_eq_true rfl⟩) ⟨zPwF.blind _ _ _ _ _ zO2_ok, fun U hU hW => ⟨rfl, by rw [hU], by rw [hU]; exact hPc, va_K.moved hW.alike hKc, hDc.weaken (fun _ _ _ _ => trivial), zF.call zO2_ok hG hS hFc hU hW⟩⟩ rfl rfl hl.1 rfl (lv_room (Nat.le_of_ble_eq_true rfl)) dX4_init_17 ⟨Nat.le_of_ble_eq_true rfl, Nat.le_of_ble_eq_true rfl⟩) hS (fun q _ h => hFc q h) hFc (fun u t H1 locs ht hvm hw hB hz1 hk1 hS => ?_)
  obtain ⟨hP1, hK1, hD1⟩ := hB
  rw [ht] at hP1
  obtain ⟨hP, hD⟩ := va_join (wr := [(h0, .inr (4, [.ref q1, .null, .null, .null, .null, .int (zi 0)])), (q1, aI cI 10 (fun _ => 0))]) (w1 := [(q2, .inr (0, [.int (zi 0), .ref qd, .int (zi 0)]))]) hP hD [2] [0, 1] rfl rfl (by decide) (by decide) hk1 hFc hP1 hD1
  generalize H1 = H at hP hS ⊢
  have hP : va_P (dC, dI) vwCl [(h0, .inr (4, [.ref q1, .null, .null, .null, .null, .int (zi 0)])), (q1, aI cI 10 (fun _ => 0)), (q2, .inr (0, [.int (zi 0), .ref qd, .int (zi 0)]))] H := hP
  have hD : va_D A [(h0, .inr (4, [.ref q1, .null, .null, .null, .null, .int (zi 0)])), (q1, aI cI 10 (fun _ => 0)), (q2, .inr (0, [.int (zi 0), .ref qd, .int (zi 0)]))] := hD
  refine va_putF (D := (dC, dI)) (ci := 4) (v := .ref q2) (ty := (.object "java/util/ArrayList")) (C := RX4) (T := TX4) (N := 6) hx hb hts (by decide +kernel) tyX4 tyX4_ok nmX4 hown hK hP hD hS 0 rfl rfl 1 (by decide) (hts (.fieldLink RX4 16 "CivilDays" "rules" "Ljava/util/ArrayList;") (by decide +kernel)) (fun _ h9 => h9) rfl hini9 rfl (by decide +kernel) rfl rfl (Nat.le_of_ble_eq_true rfl) dX4_init_20 (fun H locs hP hD hS => ?_)
  have hP : va_P (dC, dI) vwCl [(h0, .inr (4, [.ref q1, .ref q2, .null, .null, .null, .int (zi 0)])), (q1, aI cI 10 (fun _ => 0)), (q2, .inr (0, [.int (zi 0), .ref qd, .int (zi 0)]))] H := hP
  have hD : va_D A [(h0, .inr (4, [.ref q1, .ref q2, .null, .null, .null, .int (zi 0)])), (q1, aI cI 10 (fun _ => 0)), (q2, .inr (0, [.int (zi 0), .ref qd, .int (zi 0)]))] := hD
  refine lv_aload_n hx hb dX4_init_23 rfl (lv_at hl 0 rfl) ?_
  refine va_new (C := RX2) (T := TX2) (N := 3) (ci := 2) (fs := [.null, .int (zi 0), .int (zi 0)]) hx hb hts (by decide +kernel) tyX2 tyX2_ok hown (hts (.classLink RX4 20 RX2) (by decide +kernel)) (hts (.instantiable RX2 3) (by decide +kernel)) (hts (.initialized RX2) (by decide +kernel)) hK hP hD hS hA rfl (by decide +kernel) (Nat.le_of_ble_eq_true rfl) (Nat.le_of_ble_eq_true rfl) dX4_init_24 (fun q4 H hP hD hS => ?_)
  have hP : va_P (dC, dI) vwCl [(h0, .inr (4, [.ref q1, .ref q2, .null, .null, .null, .int (zi 0)])), (q1, aI cI 10 (fun _ => 0)), (q2, .inr (0, [.int (zi 0), .ref qd, .int (zi 0)])), (q4, .inr (2, [.null, .int (zi 0), .int (zi 0)]))] H := hP
  have hD : va_D A [(h0, .inr (4, [.ref q1, .ref q2, .null, .null, .null, .int (zi 0)])), (q1, aI cI 10 (fun _ => 0)), (q2, .inr (0, [.int (zi 0), .ref qd, .int (zi 0)])), (q4, .inr (2, [.null, .int (zi 0), .int (zi 0)]))] := hD
  refine lv_dup hx hb dX4_init_27 rfl ?_
  have hh5 := c_X2_init l dC dI cI q4 H.size 
  have hPc := hP.sub (ws' := [(q4, .inr (2, [.null, .int (zi 0), .int (zi 0)]))]) [3] rfl
  have hKc : va_K (dC, dI) vwCl [(cI, .int)] s := hK
  have hDc := hD.sub (ws' := [(q4, .inr (2, [.null, .int (zi 0), .int (zi 0)]))]) [3] (by decide) rfl
  have hFc := va_free (wc := [(q4, .inr (2, [.null, .int (zi 0), .int (zi 0)]))]) hD hS hA [3] rfl
  refine va_callv (va_runIN (As := []) (rest := [.ref q4, .ref h0]) ⟨hx, hb, hml, hown, hts⟩ hh5 ⟨va_cnB (host := RX4) 0 hts gX4_init_X2_init_n22 rfl rfl rfl (zO2_n22 hG) (hts (.initialized RX2) (by decide +kernel)) (by decide +kernel) ⟨Nat.le_of_ble_eq_true rfl, Nat.le_of_ble_eq_true rfl⟩, rfl, (hts (.instanceMethod yX2_init) (by decide +kernel))⟩ ⟨zPw.blind _ _ _ _ _, fun U hU hW => ⟨rfl, by rw [hU], by rw [hU]; exact hPc, va_K.moved hW.alike hKc, hDc.weaken (fun _ _ _ _ => trivial)⟩⟩ rfl rfl hl.1 rfl (lv_room (Nat.le_of_ble_eq_true rfl)) dX4_init_28 ⟨Nat.le_of_ble_eq_true rfl, Nat.le_of_ble_eq_true rfl⟩) hS (fun q _ h => hFc q h) hFc (fun u t H1 locs ht hvm hw hB hz1 hk1 hS => ?_)
  generalize u = qa_6 at hw hB
  have hw5 := hw
  replace hw5 : True := hw5
  obtain ⟨hP1, hK1, hD1⟩ := hB
  rw [ht] at hP1
  replace hP1 : va_P (dC, dI) vwCl [(q4, .inr (2, [.ref qa_6, .int (zi 0), .int (zi 0)])), (qa_6, aI cI 366 (fun _ => 0))] H1 := hP1
  replace hD1 : va_D _ [(q4, .inr (2, [.ref qa_6, .int (zi 0), .int (zi 0)])), (qa_6, aI cI 366 (fun _ => 0))] := hD1
  obtain ⟨hP, hD⟩ := va_join (wr := [(h0, .inr (4, [.ref q1, .ref q2, .null, .null, .null, .int (zi 0)])), (q1, aI cI 10 (fun _ => 0)), (q2, .inr (0, [.int (zi 0), .ref qd, .int (zi 0)]))]) (w1 := [(q4, .inr (2, [.ref qa_6, .int (zi 0), .int (zi 0)])), (qa_6, aI cI 366 (fun _ => 0))]) hP hD [3] [0, 1, 2] rfl rfl (by decide) (by decide) hk1 hFc hP1 hD1
  generalize H1 = H at hP hS ⊢
  have hP : va_P (dC, dI) vwCl [(h0, .inr (4, [.ref q1, .ref q2, .null, .null, .null, .int (zi 0)])), (q1, aI cI 10 (fun _ => 0)), (q2, .inr (0, [.int (zi 0), .ref qd, .int (zi 0)])), (q4, .inr (2, [.ref qa_6, .int (zi 0), .int (zi 0)])), (qa_6, aI cI 366 (fun _ => 0))] H := hP
  have hD : va_D A [(h0, .inr (4, [.ref q1, .ref q2, .null, .null, .null, .int (zi 0)])), (q1, aI cI 10 (fun _ => 0)), (q2, .inr (0, [.int (zi 0), .ref qd, .int (zi 0)])), (q4, .inr (2, [.ref qa_6, .int (zi 0), .int (zi 0)])), (qa_6, aI cI 366 (fun _ => 0))] := hD
  refine va_putF (D := (dC, dI)) (ci := 4) (v := .ref q4) (ty := (.object "CivilDays$MarkedYear")) (C := RX4) (T := TX4) (N := 6) hx hb hts (by decide +kernel) tyX4 tyX4_ok nmX4 hown hK hP hD hS 0 rfl rfl 2 (by decide) (hts (.fieldLink RX4 23 "CivilDays" "marked" "LCivilDays$MarkedYear;") (by decide +kernel)) (fun _ h9 => h9) rfl hini9 rfl (by decide +kernel) rfl rfl (Nat.le_of_ble_eq_true rfl) dX4_init_31 (fun H locs hP hD hS => ?_)
  have hP : va_P (dC, dI) vwCl [(h0, .inr (4, [.ref q1, .ref q2, .ref q4, .null, .null, .int (zi 0)])), (q1, aI cI 10 (fun _ => 0)), (q2, .inr (0, [.int (zi 0), .ref qd, .int (zi 0)])), (q4, .inr (2, [.ref qa_6, .int (zi 0), .int (zi 0)])), (qa_6, aI cI 366 (fun _ => 0))] H := hP
  have hD : va_D A [(h0, .inr (4, [.ref q1, .ref q2, .ref q4, .null, .null, .int (zi 0)])), (q1, aI cI 10 (fun _ => 0)), (q2, .inr (0, [.int (zi 0), .ref qd, .int (zi 0)])), (q4, .inr (2, [.ref qa_6, .int (zi 0), .int (zi 0)])), (qa_6, aI cI 366 (fun _ => 0))] := hD
  refine lv_aload_n hx hb dX4_init_34 rfl (lv_at hl 0 rfl) ?_
  refine va_new (C := RX1) (T := TX1) (N := 2) (ci := 1) (fs := [.null, .int (zi 0)]) hx hb hts (by decide +kernel) tyX1 tyX1_ok hown (hts (.classLink RX4 27 RX1) (by decide +kernel)) (hts (.instantiable RX1 2) (by decide +kernel)) (hts (.initialized RX1) (by decide +kernel)) hK hP hD hS hA rfl (by decide +kernel) (Nat.le_of_ble_eq_true rfl) (Nat.le_of_ble_eq_true rfl) dX4_init_35 (fun q7 H hP hD hS => ?_)
  have hP : va_P (dC, dI) vwCl [(h0, .inr (4, [.ref q1, .ref q2, .ref q4, .null, .null, .int (zi 0)])), (q1, aI cI 10 (fun _ => 0)), (q2, .inr (0, [.int (zi 0), .ref qd, .int (zi 0)])), (q4, .inr (2, [.ref qa_6, .int (zi 0), .int (zi 0)])), (qa_6, aI cI 366 (fun _ => 0)), (q7, .inr (1, [.null, .int (zi 0)]))] H := hP
  have hD : va_D A [(h0, .inr (4, [.ref q1, .ref q2, .ref q4, .null, .null, .int (zi 0)])), (q1, aI cI 10 (fun _ => 0)), (q2, .inr (0, [.int (zi 0), .ref qd, .int (zi 0)])), (q4, .inr (2, [.ref qa_6, .int (zi 0), .int (zi 0)])), (qa_6, aI cI 366 (fun _ => 0)), (q7, .inr (1, [.null, .int (zi 0)]))] := hD
  refine lv_dup hx hb dX4_init_38 rfl ?_
  have hh8 := c_X1_init l dC dI cI q7 H.size 
  have hPc := hP.sub (ws' := [(q7, .inr (1, [.null, .int (zi 0)]))]) [5] rfl
  have hKc : va_K (dC, dI) vwCl [(cI, .int)] s := hK
  have hDc := hD.sub (ws' := [(q7, .inr (1, [.null, .int (zi 0)]))]) [5] (by decide) rfl
  have hFc := va_free (wc := [(q7, .inr (1, [.null, .int (zi 0)]))]) hD hS hA [5] rfl
  refine va_callv (va_runIN (As := []) (rest := [.ref q7, .ref h0]) ⟨hx, hb, hml, hown, hts⟩ hh8 ⟨va_cnB (host := RX4) 0 hts gX4_init_X1_init_n29 rfl rfl rfl (zO2_n29 hG) (hts (.initialized RX1) (by decide +kernel)) (by decide +kernel) ⟨Nat.le_of_ble_eq_true rfl, Nat.le_of_ble_eq_true rfl⟩, rfl, (hts (.instanceMethod yX1_init) (by decide +kernel))⟩ ⟨zPw.blind _ _ _ _ _, fun U hU hW => ⟨rfl, by rw [hU], by rw [hU]; exact hPc, va_K.moved hW.alike hKc, hDc.weaken (fun _ _ _ _ => trivial)⟩⟩ rfl rfl hl.1 rfl (lv_room (Nat.le_of_ble_eq_true rfl)) dX4_init_39 ⟨Nat.le_of_ble_eq_true rfl, Nat.le_of_ble_eq_true rfl⟩) hS (fun q _ h => hFc q h) hFc (fun u t H1 locs ht hvm hw hB hz1 hk1 hS => ?_)
  generalize u = qa_9 at hw hB
  have hw8 := hw
  replace hw8 : True := hw8
  obtain ⟨hP1, hK1, hD1⟩ := hB
  rw [ht] at hP1
  replace hP1 : va_P (dC, dI) vwCl [(q7, .inr (1, [.ref qa_9, .int (zi 0)])), (qa_9, aI cI 20 (fun _ => 0))] H1 := hP1
  replace hD1 : va_D _ [(q7, .inr (1, [.ref qa_9, .int (zi 0)])), (qa_9, aI cI 20 (fun _ => 0))] := hD1
  obtain ⟨hP, hD⟩ := va_join (wr := [(h0, .inr (4, [.ref q1, .ref q2, .ref q4, .null, .null, .int (zi 0)])), (q1, aI cI 10 (fun _ => 0)), (q2, .inr (0, [.int (zi 0), .ref qd, .int (zi 0)])), (q4, .inr (2, [.ref qa_6, .int (zi 0), .int (zi 0)])), (qa_6, aI cI 366 (fun _ => 0))]) (w1 := [(q7, .inr (1, [.ref qa_9, .int (zi 0)])), (qa_9, aI cI 20 (fun _ => 0))]) hP hD [5] [0, 1, 2, 3, 4] rfl rfl (by decide) (by decide) hk1 hFc hP1 hD1
  generalize H1 = H at hP hS ⊢
  have hP : va_P (dC, dI) vwCl [(h0, .inr (4, [.ref q1, .ref q2, .ref q4, .null, .null, .int (zi 0)])), (q1, aI cI 10 (fun _ => 0)), (q2, .inr (0, [.int (zi 0), .ref qd, .int (zi 0)])), (q4, .inr (2, [.ref qa_6, .int (zi 0), .int (zi 0)])), (qa_6, aI cI 366 (fun _ => 0)), (q7, .inr (1, [.ref qa_9, .int (zi 0)])), (qa_9, aI cI 20 (fun _ => 0))] H := hP
  have hD : va_D A [(h0, .inr (4, [.ref q1, .ref q2, .ref q4, .null, .null, .int (zi 0)])), (q1, aI cI 10 (fun _ => 0)), (q2, .inr (0, [.int (zi 0), .ref qd, .int (zi 0)])), (q4, .inr (2, [.ref qa_6, .int (zi 0), .int (zi 0)])), (qa_6, aI cI 366 (fun _ => 0)), (q7, .inr (1, [.ref qa_9, .int (zi 0)])), (qa_9, aI cI 20 (fun _ => 0))] := hD
  refine va_putF (D := (dC, dI)) (ci := 4) (v := .ref q7) (ty := (.object "CivilDays$Line")) (C := RX4) (T := TX4) (N := 6) hx hb hts (by decide +kernel) tyX4 tyX4_ok nmX4 hown hK hP hD hS 0 rfl rfl 3 (by decide) (hts (.fieldLink RX4 30 "CivilDays" "written" "LCivilDays$Line;") (by decide +kernel)) (fun _ h9 => h9) rfl hini9 rfl (by decide +kernel) rfl rfl (Nat.le_of_ble_eq_true rfl) dX4_init_42 (fun H locs hP hD hS => ?_)
  have hP : va_P (dC, dI) vwCl [(h0, .inr (4, [.ref q1, .ref q2, .ref q4, .ref q7, .null, .int (zi 0)])), (q1, aI cI 10 (fun _ => 0)), (q2, .inr (0, [.int (zi 0), .ref qd, .int (zi 0)])), (q4, .inr (2, [.ref qa_6, .int (zi 0), .int (zi 0)])), (qa_6, aI cI 366 (fun _ => 0)), (q7, .inr (1, [.ref qa_9, .int (zi 0)])), (qa_9, aI cI 20 (fun _ => 0))] H := hP
  have hD : va_D A [(h0, .inr (4, [.ref q1, .ref q2, .ref q4, .ref q7, .null, .int (zi 0)])), (q1, aI cI 10 (fun _ => 0)), (q2, .inr (0, [.int (zi 0), .ref qd, .int (zi 0)])), (q4, .inr (2, [.ref qa_6, .int (zi 0), .int (zi 0)])), (qa_6, aI cI 366 (fun _ => 0)), (q7, .inr (1, [.ref qa_9, .int (zi 0)])), (qa_9, aI cI 20 (fun _ => 0))] := hD
  refine lv_aload_n hx hb dX4_init_45 rfl (lv_at hl 0 rfl) ?_
  refine va_new (C := RX1) (T := TX1) (N := 2) (ci := 1) (fs := [.null, .int (zi 0)]) hx hb hts (by decide +kernel) tyX1 tyX1_ok hown (hts (.classLink RX4 27 RX1) (by decide +kernel)) (hts (.instantiable RX1 2) (by decide +kernel)) (hts (.initialized RX1) (by decide +kernel)) hK hP hD hS hA rfl (by decide +kernel) (Nat.le_of_ble_eq_true rfl) (Nat.le_of_ble_eq_true rfl) dX4_init_46 (fun q10 H hP hD hS => ?_)
  have hP : va_P (dC, dI) vwCl [(h0, .inr (4, [.ref q1, .ref q2, .ref q4, .ref q7, .null, .int (zi 0)])), (q1, aI cI 10 (fun _ => 0)), (q2, .inr (0, [.int (zi 0), .ref qd, .int (zi 0)])), (q4, .inr (2, [.ref qa_6, .int (zi 0), .int (zi 0)])), (qa_6, aI cI 366 (fun _ => 0)), (q7, .inr (1, [.ref qa_9, .int (zi 0)])), (qa_9, aI cI 20 (fun _ => 0)), (q10, .inr (1, [.null, .int (zi 0)]))] H := hP
  have hD : va_D A [(h0, .inr (4, [.ref q1, .ref q2, .ref q4, .ref q7, .null, .int (zi 0)])), (q1, aI cI 10 (fun _ => 0)), (q2, .inr (0, [.int (zi 0), .ref qd, .int (zi 0)])), (q4, .inr (2, [.ref qa_6, .int (zi 0), .int (zi 0)])), (qa_6, aI cI 366 (fun _ => 0)), (q7, .inr (1, [.ref qa_9, .int (zi 0)])), (qa_9, aI cI 20 (fun _ => 0)), (q10, .inr (1, [.null, .int (zi 0)]))] := hD
  refine lv_dup hx hb dX4_init_49 rfl ?_
  have hh11 := c_X1_init l dC dI cI q10 H.size 
  have hPc := hP.sub (ws' := [(q10, .inr (1, [.null, .int (zi 0)]))]) [7] rfl
  have hKc : va_K (dC, dI) vwCl [(cI, .int)] s := hK
  have hDc := hD.sub (ws' := [(q10, .inr (1, [.null, .int (zi 0)]))]) [7] (by decide) rfl
  have hFc := va_free (wc := [(q10, .inr (1, [.null, .int (zi 0)]))]) hD hS hA [7] rfl
  refine va_callv (va_runIN (As := []) (rest := [.ref q10, .ref h0]) ⟨hx, hb, hml, hown, hts⟩ hh11 ⟨va_cnB (host := RX4) 0 hts gX4_init_X1_init_n29 rfl rfl rfl (zO2_n29 hG) (hts (.initialized RX1) (by decide +kernel)) (by decide +kernel) ⟨Nat.le_of_ble_eq_true rfl, Nat.le_of_ble_eq_true rfl⟩, rfl, (hts (.instanceMethod yX1_init) (by decide +kernel))⟩ ⟨zPw.blind _ _ _ _ _, fun U hU hW => ⟨rfl, by rw [hU], by rw [hU]; exact hPc, va_K.moved hW.alike hKc, hDc.weaken (fun _ _ _ _ => trivial)⟩⟩ rfl rfl hl.1 rfl (lv_room (Nat.le_of_ble_eq_true rfl)) dX4_init_50 ⟨Nat.le_of_ble_eq_true rfl, Nat.le_of_ble_eq_true rfl⟩) hS (fun q _ h => hFc q h) hFc (fun u t H1 locs ht hvm hw hB hz1 hk1 hS => ?_)
  generalize u = qa_12 at hw hB
  have hw11 := hw
  replace hw11 : True := hw11
  obtain ⟨hP1, hK1, hD1⟩ := hB
  rw [ht] at hP1
  replace hP1 : va_P (dC, dI) vwCl [(q10, .inr (1, [.ref qa_12, .int (zi 0)])), (qa_12, aI cI 20 (fun _ => 0))] H1 := hP1
  replace hD1 : va_D _ [(q10, .inr (1, [.ref qa_12, .int (zi 0)])), (qa_12, aI cI 20 (fun _ => 0))] := hD1
  obtain ⟨hP, hD⟩ := va_join (wr := [(h0, .inr (4, [.ref q1, .ref q2, .ref q4, .ref q7, .null, .int (zi 0)])), (q1, aI cI 10 (fun _ => 0)), (q2, .inr (0, [.int (zi 0), .ref qd, .int (zi 0)])), (q4, .inr (2, [.ref qa_6, .int (zi 0), .int (zi 0)])), (qa_6, aI cI 366 (fun _ => 0)), (q7, .inr (1, [.ref qa_9, .int (zi 0)])), (qa_9, aI cI 20 (fun _ => 0))]) (w1 := [(q10, .inr (1, [.ref qa_12, .int (zi 0)])), (qa_12, aI cI 20 (fun _ => 0))]) hP hD [7] [0, 1, 2, 3, 4, 5, 6] rfl rfl (by decide) (by decide) hk1 hFc hP1 hD1
  generalize H1 = H at hP hS ⊢
  have hP : va_P (dC, dI) vwCl [(h0, .inr (4, [.ref q1, .ref q2, .ref q4, .ref q7, .null, .int (zi 0)])), (q1, aI cI 10 (fun _ => 0)), (q2, .inr (0, [.int (zi 0), .ref qd, .int (zi 0)])), (q4, .inr (2, [.ref qa_6, .int (zi 0), .int (zi 0)])), (qa_6, aI cI 366 (fun _ => 0)), (q7, .inr (1, [.ref qa_9, .int (zi 0)])), (qa_9, aI cI 20 (fun _ => 0)), (q10, .inr (1, [.ref qa_12, .int (zi 0)])), (qa_12, aI cI 20 (fun _ => 0))] H := hP
  have hD : va_D A [(h0, .inr (4, [.ref q1, .ref q2, .ref q4, .ref q7, .null, .int (zi 0)])), (q1, aI cI 10 (fun _ => 0)), (q2, .inr (0, [.int (zi 0), .ref qd, .int (zi 0)])), (q4, .inr (2, [.ref qa_6, .int (zi 0), .int (zi 0)])), (qa_6, aI cI 366 (fun _ => 0)), (q7, .inr (1, [.ref qa_9, .int (zi 0)])), (qa_9, aI cI 20 (fun _ => 0)), (q10, .inr (1, [.ref qa_12, .int (zi 0)])), (qa_12, aI cI 20 (fun _ => 0))] := hD
  refine va_putF (D := (dC, dI)) (ci := 4) (v := .ref q10) (ty := (.object "CivilDays$Line")) (C := RX4) (T := TX4) (N := 6) hx hb hts (by decide +kernel) tyX4 tyX4_ok nmX4 hown hK hP hD hS 0 rfl rfl 4 (by decide) (hts (.fieldLink RX4 34 "CivilDays" "typed" "LCivilDays$Line;") (by decide +kernel)) (fun _ h9 => h9) rfl hini9 rfl (by decide +kernel) rfl rfl (Nat.le_of_ble_eq_true rfl) dX4_init_53 (fun H locs hP hD hS => ?_)
  have hP : va_P (dC, dI) vwCl [(h0, .inr (4, [.ref q1, .ref q2, .ref q4, .ref q7, .ref q10, .int (zi 0)])), (q1, aI cI 10 (fun _ => 0)), (q2, .inr (0, [.int (zi 0), .ref qd, .int (zi 0)])), (q4, .inr (2, [.ref qa_6, .int (zi 0), .int (zi 0)])), (qa_6, aI cI 366 (fun _ => 0)), (q7, .inr (1, [.ref qa_9, .int (zi 0)])), (qa_9, aI cI 20 (fun _ => 0)), (q10, .inr (1, [.ref qa_12, .int (zi 0)])), (qa_12, aI cI 20 (fun _ => 0))] H := hP
  have hD : va_D A [(h0, .inr (4, [.ref q1, .ref q2, .ref q4, .ref q7, .ref q10, .int (zi 0)])), (q1, aI cI 10 (fun _ => 0)), (q2, .inr (0, [.int (zi 0), .ref qd, .int (zi 0)])), (q4, .inr (2, [.ref qa_6, .int (zi 0), .int (zi 0)])), (qa_6, aI cI 366 (fun _ => 0)), (q7, .inr (1, [.ref qa_9, .int (zi 0)])), (qa_9, aI cI 20 (fun _ => 0)), (q10, .inr (1, [.ref qa_12, .int (zi 0)])), (qa_12, aI cI 20 (fun _ => 0))] := hD
  refine lv_aload_n hx hb dX4_init_56 rfl (lv_at hl 0 rfl) ?_
  have hh13 := c_Xz_clear l dC dI cI h0 q1 q2 q4 q7 q10 0 (fun _ => 0) 0 qd qa_9 0 (fun _ => 0) qa_12 0 (fun _ => 0) H.size 
  have hPc := hP.sub (ws' := [(h0, .inr (4, [.ref q1, .ref q2, .ref q4, .ref q7, .ref q10, .int (zi 0)])), (q1, aI cI 10 (fun _ => 0)), (q2, .inr (0, [.int (zi 0), .ref qd, .int (zi 0)])), (q7, .inr (1, [.ref qa_9, .int (zi 0)])), (qa_9, aI cI 20 (fun _ => 0)), (q10, .inr (1, [.ref qa_12, .int (zi 0)])), (qa_12, aI cI 20 (fun _ => 0))]) [0, 1, 2, 5, 6, 7, 8] rfl
  have hKc : va_K (dC, dI) vwCl [(cI, .int)] s := hK
  have hDc := hD.sub (ws' := [(h0, .inr (4, [.ref q1, .ref q2, .ref q4, .ref q7, .ref q10, .int (zi 0)])), (q1, aI cI 10 (fun _ => 0)), (q2, .inr (0, [.int (zi 0), .ref qd, .int (zi 0)])), (q7, .inr (1, [.ref qa_9, .int (zi 0)])), (qa_9, aI cI 20 (fun _ => 0)), (q10, .inr (1, [.ref qa_12, .int (zi 0)])), (qa_12, aI cI 20 (fun _ => 0))]) [0, 1, 2, 5, 6, 7, 8] (by decide) rfl
  have hFc := va_free (wc := [(h0, .inr (4, [.ref q1, .ref q2, .ref q4, .ref q7, .ref q10, .int (zi 0)])), (q1, aI cI 10 (fun _ => 0)), (q2, .inr (0, [.int (zi 0), .ref qd, .int (zi 0)])), (q7, .inr (1, [.ref qa_9, .int (zi 0)])), (qa_9, aI cI 20 (fun _ => 0)), (q10, .inr (1, [.ref qa_12, .int (zi 0)])), (qa_12, aI cI 20 (fun _ => 0))]) hD hS hA [0, 1, 2, 5, 6, 7, 8] rfl
  refine va_callv (va_runV (As := []) (rest := []) ⟨hx, hb, hml, hown, hts⟩ hh13 (cwV 0 hts gX4_init_X4_clear rfl rfl rfl (by decide +kernel) ⟨Nat.le_of_ble_eq_true rfl, Nat.le_of_ble_eq_true rfl⟩) ⟨zPw.blind _ _ _ _ _, va_recv hKc hPc (ci := 4) (q0 := 0) rfl rfl, fun U hU hW => ⟨rfl, by rw [hU], by rw [hU]; exact hPc, va_K.moved hW.alike hKc, hDc.weaken (fun _ _ _ _ => trivial)⟩⟩ rfl rfl hl.1 rfl (lv_room (Nat.le_of_ble_eq_true rfl)) dX4_init_57 ⟨Nat.le_of_ble_eq_true rfl, Nat.le_of_ble_eq_true rfl⟩) hS (fun q _ h => hFc q h) hFc (fun u t H1 locs ht hvm hw hB hz1 hk1 hS => ?_)
  generalize u = sg_14 at hw hB
  have hw13 := hw
  replace hw13 : ∀ j : Nat, sg_14 j = if j < 10 then (-1) else (fun _ => 0) j := hw13
  obtain ⟨hP1, hK1, hD1⟩ := hB
  rw [ht] at hP1
  replace hP1 : va_P (dC, dI) vwCl [(h0, .inr (4, [.ref q1, .ref q2, .ref q4, .ref q7, .ref q10, .int (zi 96)])), (q1, aI cI 10 sg_14), (q2, .inr (0, [.int (zi (0 + 1)), .ref qd, .int (zi 0)])), (q7, .inr (1, [.ref qa_9, .int (zi 0)])), (qa_9, aI cI 20 (fun _ => 0)), (q10, .inr (1, [.ref qa_12, .int (zi 0)])), (qa_12, aI cI 20 (fun _ => 0))] H1 := hP1
  replace hD1 : va_D _ [(h0, .inr (4, [.ref q1, .ref q2, .ref q4, .ref q7, .ref q10, .int (zi 96)])), (q1, aI cI 10 sg_14), (q2, .inr (0, [.int (zi (0 + 1)), .ref qd, .int (zi 0)])), (q7, .inr (1, [.ref qa_9, .int (zi 0)])), (qa_9, aI cI 20 (fun _ => 0)), (q10, .inr (1, [.ref qa_12, .int (zi 0)])), (qa_12, aI cI 20 (fun _ => 0))] := hD1
  obtain ⟨hP, hD⟩ := va_join (wr := [(q4, .inr (2, [.ref qa_6, .int (zi 0), .int (zi 0)])), (qa_6, aI cI 366 (fun _ => 0))]) (w1 := [(h0, .inr (4, [.ref q1, .ref q2, .ref q4, .ref q7, .ref q10, .int (zi 96)])), (q1, aI cI 10 sg_14), (q2, .inr (0, [.int (zi (0 + 1)), .ref qd, .int (zi 0)])), (q7, .inr (1, [.ref qa_9, .int (zi 0)])), (qa_9, aI cI 20 (fun _ => 0)), (q10, .inr (1, [.ref qa_12, .int (zi 0)])), (qa_12, aI cI 20 (fun _ => 0))]) hP hD [0, 1, 2, 5, 6, 7, 8] [3, 4] rfl rfl (by decide) (by decide) hk1 hFc hP1 hD1
  generalize H1 = H at hP hS ⊢
  have hP : va_P (dC, dI) vwCl [(q4, .inr (2, [.ref qa_6, .int (zi 0), .int (zi 0)])), (qa_6, aI cI 366 (fun _ => 0)), (h0, .inr (4, [.ref q1, .ref q2, .ref q4, .ref q7, .ref q10, .int (zi 96)])), (q1, aI cI 10 sg_14), (q2, .inr (0, [.int (zi (0 + 1)), .ref qd, .int (zi 0)])), (q7, .inr (1, [.ref qa_9, .int (zi 0)])), (qa_9, aI cI 20 (fun _ => 0)), (q10, .inr (1, [.ref qa_12, .int (zi 0)])), (qa_12, aI cI 20 (fun _ => 0))] H := hP
  have hD : va_D A [(q4, .inr (2, [.ref qa_6, .int (zi 0), .int (zi 0)])), (qa_6, aI cI 366 (fun _ => 0)), (h0, .inr (4, [.ref q1, .ref q2, .ref q4, .ref q7, .ref q10, .int (zi 96)])), (q1, aI cI 10 sg_14), (q2, .inr (0, [.int (zi (0 + 1)), .ref qd, .int (zi 0)])), (q7, .inr (1, [.ref qa_9, .int (zi 0)])), (qa_9, aI cI 20 (fun _ => 0)), (q10, .inr (1, [.ref qa_12, .int (zi 0)])), (qa_12, aI cI 20 (fun _ => 0))] := hD
  have hP9 := hP.sub (ws' := [(h0, .inr (4, [.ref q1, .ref q2, .ref q4, .ref q7, .ref q10, .int (zi 96)])), (q1, aI cI 10 sg_14), (q2, .inr (0, [.int (zi (0 + 1)), .ref qd, .int (zi 0)])), (q4, .inr (2, [.ref qa_6, .int (zi 0), .int (zi 0)])), (qa_6, aI cI 366 (fun _ => 0)), (q7, .inr (1, [.ref qa_9, .int (zi 0)])), (qa_9, aI cI 20 (fun _ => 0)), (q10, .inr (1, [.ref qa_12, .int (zi 0)])), (qa_12, aI cI 20 (fun _ => 0))]) [2, 3, 4, 0, 1, 5, 6, 7, 8] rfl
  have hD9 := hD.sub (ws' := [(h0, .inr (4, [.ref q1, .ref q2, .ref q4, .ref q7, .ref q10, .int (zi 96)])), (q1, aI cI 10 sg_14), (q2, .inr (0, [.int (zi (0 + 1)), .ref qd, .int (zi 0)])), (q4, .inr (2, [.ref qa_6, .int (zi 0), .int (zi 0)])), (qa_6, aI cI 366 (fun _ => 0)), (q7, .inr (1, [.ref qa_9, .int (zi 0)])), (qa_9, aI cI 20 (fun _ => 0)), (q10, .inr (1, [.ref qa_12, .int (zi 0)])), (qa_12, aI cI 20 (fun _ => 0))]) [2, 3, 4, 0, 1, 5, 6, 7, 8] (by decide) rfl
  have hp9 : ∀ j : Nat, sg_14 j = if j < 10 then (-1) else 0 := by
    assumption
  refine W.widen (k := 8) (n := 426) (Nat.le_of_ble_eq_true rfl) (Nat.le_of_ble_eq_true rfl) ?_
  exact W.vret hx hb hr (fun t ht hW => ⟨⟨(sg_14, q1, q2, q4, q7, q10, qa_6, qa_9, qa_12), rfl, hp9, by rw [ht]; exact hP9, va_K.moved hW.alike hK, hD9⟩, hS.F ht⟩) hS.2.2 dX4_init_60

set_option maxHeartbeats 4000000 in
set_option maxRecDepth 100000 in
theorem c_Xz_mark (l : Launch)  (dC : Nat → ClassId) (dI : Nat → Nat → Nat) (cI : ClassId) (h0 : Nat) (qk : Nat) (fi : Int) (ln : Int) (mf : Nat → Int) (ql : Nat) (mc : Int) (qd : Nat) (kf : Nat → Int) (af : Nat → Int) (bf : Nat → Int) (zf : Nat → Int) (ya : Int) (sz : Nat) (hp0 : 1 ≤ ya ∧ ya ≤ 9999) (hp1 : 0 ≤ fi ∧ fi ≤ 4000000 ∧ 0 ≤ ln ∧ ln ≤ 366) : Met l yX2_mark wsX2_mark ({ frames := 2, cells := 0, slots := 0, locals := 40 }) (zPw (dC, dI) [(cI, .int)] sz [.ref h0, .int (zi ya), .ref ql] [(h0, .inr (2, [.ref qk, .int (zi fi), .int (zi ln)])), (qk, aI cI 366 mf), (ql, .inr (0, [.int (zi mc), .ref qd, .int (zi 0)]))]) (va_Qv (fun (u : (Nat → Int)) => mkX2 kf af bf zf ya (f_X0_yearStart ya) (f_X0_yearLength ya) (Int.toNat 0) u) (fun (u : (Nat → Int)) => zB (dC, dI) [(cI, .int)] (va_A [(h0, .inr (2, [.ref qk, .int (zi fi), .int (zi ln)])), (qk, aI cI 366 mf), (ql, .inr (0, [.int (zi mc), .ref qd, .int (zi 0)]))] sz) [(h0, .inr (2, [.ref qk, .int (zi (f_X0_yearStart ya)), .int (zi (f_X0_yearLength ya))])), (qk, aI cI 366 u), (ql, .inr (0, [.int (zi mc), .ref qd, .int (zi 0)]))] ()) (va_A [(h0, .inr (2, [.ref qk, .int (zi fi), .int (zi ln)])), (qk, aI cI 366 mf), (ql, .inr (0, [.int (zi mc), .ref qd, .int (zi 0)]))] sz)) 0 0 (va_A [(h0, .inr (2, [.ref qk, .int (zi fi), .int (zi ln)])), (qk, aI cI 366 mf), (ql, .inr (0, [.int (zi mc), .ref qd, .int (zi 0)]))] sz) := by
  refine Met.ofW (cc := cX2_mark) (maxL := 5) (ret := none) (by decide) rfl ?_
  intro p e s m args below meth c s₁ B hml hv
  obtain ⟨rfl, hsz, hP, hK, hD0⟩ := hv
  have hx := B.exec
  have hb := B.bytes
  have hr := B.returns
  have hts := atoms_spec (ws := wsX2_mark) B.pre
  have hown : s.vm.findClass RX2 = some m.cls := findClass_of_methodNamed B.named
  have hlocks := B.notSynchronized
  subst hsz
  have hD := hD0.self (sz := s.heap.size)
  generalize hAe : va_A [(h0, .inr (2, [.ref qk, .int (zi fi), .int (zi ln)])), (qk, aI cI 366 mf), (ql, .inr (0, [.int (zi mc), .ref qd, .int (zi 0)]))] s.heap.size = A at hD ⊢
  have hA : ∀ q : Nat, s.heap.size ≤ q → A q := fun q h => by rw [← hAe]; exact Or.inr h
  have hS : va_S A s.heap s.heap [] := va_S.rf
  have hP : va_P (dC, dI) vwCl [(h0, .inr (2, [.ref qk, .int (zi fi), .int (zi ln)])), (qk, aI cI 366 mf), (ql, .inr (0, [.int (zi mc), .ref qd, .int (zi 0)]))] s.heap := hP
  have hl := lv_entry ([.ref h0, .int (zi ya), .ref ql]) (n := 5) (Nat.le_of_ble_eq_true rfl)
  rw [lg_entry_eq]
  generalize (lg_sl ([.ref h0, .int (zi ya), .ref ql]) ++ List.replicate (5 - (lg_sl ([.ref h0, .int (zi ya), .ref ql])).length) Slot.unset).toArray = ls at hl ⊢
  have hl : lv_has ls 5 [(0, .ref h0), (1, .int (zi ya)), (2, .ref ql)] := hl
  have hyb := b_X0_yearStart ya (by omega)
  have hyl := b_X0_yearLength ya (by omega)
  refine lv_aload_n hx hb dX2_mark_0 rfl (lv_at hl 0 rfl) ?_
  refine lv_iload_n hx hb dX2_mark_1 rfl (lv_at hl 1 rfl) ?_
  have hh1 := c_X0_yearStart l ya (by omega)
  refine vp_callSi (va_Run.run (va_runS (As := [.int (zi ya)]) (rest := [.ref h0]) ⟨hx, hb, hml, hown, hts⟩ hh1 (va_cwS 1 hts gX2_mark_X0_yearStart rfl rfl rfl (by decide +kernel) ⟨Nat.le_of_ble_eq_true rfl, Nat.le_of_ble_eq_true rfl⟩) ⟨fun a U g mk q => q, fun U hU hW => ⟨rfl, trivial⟩⟩ rfl rfl hl.1 rfl (lv_room (Nat.le_of_ble_eq_true rfl)) dX2_mark_2 ⟨Nat.zero_le _, Nat.zero_le _⟩)) (fun r1 (hr1 : r1 = zi (f_X0_yearStart ya)) => ?_)
  subst hr1
  have hf1 := b_X0_yearStart ya (by omega)
  refine va_put (D := (dC, dI)) (ci := 2) (v := .int (zi (f_X0_yearStart ya))) (ty := .int) (C := RX2) (T := TX2) (N := 3) hx hb hts (by decide +kernel) tyX2 tyX2_ok nmX2 hown hK hP hD hS 0 rfl rfl 1 (by decide) (hts (.fieldLink RX2 13 "CivilDays$MarkedYear" "first" "I") (by decide +kernel)) (fun _ h9 => h9) rfl (by decide +kernel) rfl rfl (Nat.le_of_ble_eq_true rfl) dX2_mark_5 (fun H locs hP hD hS => ?_)
  have hP : va_P (dC, dI) vwCl [(h0, .inr (2, [.ref qk, .int (zi (f_X0_yearStart ya)), .int (zi ln)])), (qk, aI cI 366 mf), (ql, .inr (0, [.int (zi mc), .ref qd, .int (zi 0)]))] H := hP
  have hD : va_D A [(h0, .inr (2, [.ref qk, .int (zi (f_X0_yearStart ya)), .int (zi ln)])), (qk, aI cI 366 mf), (ql, .inr (0, [.int (zi mc), .ref qd, .int (zi 0)]))] := hD
  refine lv_aload_n hx hb dX2_mark_8 rfl (lv_at hl 0 rfl) ?_
  refine lv_iload_n hx hb dX2_mark_9 rfl (lv_at hl 1 rfl) ?_
  have hh2 := c_X0_yearLength l ya (by omega)
  refine vp_callSi (va_Run.run (va_runS (As := [.int (zi ya)]) (rest := [.ref h0]) ⟨hx, hb, hml, hown, hts⟩ hh2 (va_cwS 1 hts gX2_mark_X0_yearLength rfl rfl rfl (by decide +kernel) ⟨Nat.le_of_ble_eq_true rfl, Nat.le_of_ble_eq_true rfl⟩) ⟨fun a U g mk q => q, fun U hU hW => ⟨rfl, trivial⟩⟩ rfl rfl hl.1 rfl (lv_room (Nat.le_of_ble_eq_true rfl)) dX2_mark_10 ⟨Nat.zero_le _, Nat.zero_le _⟩)) (fun r2 (hr2 : r2 = zi (f_X0_yearLength ya)) => ?_)
  subst hr2
  have hf2 := b_X0_yearLength ya (by omega)
  refine va_put (D := (dC, dI)) (ci := 2) (v := .int (zi (f_X0_yearLength ya))) (ty := .int) (C := RX2) (T := TX2) (N := 3) hx hb hts (by decide +kernel) tyX2 tyX2_ok nmX2 hown hK hP hD hS 0 rfl rfl 2 (by decide) (hts (.fieldLink RX2 17 "CivilDays$MarkedYear" "length" "I") (by decide +kernel)) (fun _ h9 => h9) rfl (by decide +kernel) rfl rfl (Nat.le_of_ble_eq_true rfl) dX2_mark_13 (fun H locs hP hD hS => ?_)
  have hP : va_P (dC, dI) vwCl [(h0, .inr (2, [.ref qk, .int (zi (f_X0_yearStart ya)), .int (zi (f_X0_yearLength ya))])), (qk, aI cI 366 mf), (ql, .inr (0, [.int (zi mc), .ref qd, .int (zi 0)]))] H := hP
  have hD : va_D A [(h0, .inr (2, [.ref qk, .int (zi (f_X0_yearStart ya)), .int (zi (f_X0_yearLength ya))])), (qk, aI cI 366 mf), (ql, .inr (0, [.int (zi mc), .ref qd, .int (zi 0)]))] := hD
  refine lv_aload_n hx hb dX2_mark_16 rfl (lv_at hl 0 rfl) ?_
  refine va_get (D := (dC, dI)) (ci := 2) (v := .ref qk) (C := RX2) (T := TX2) (N := 3) hx hb hts (by decide +kernel) hown hK hP 0 rfl rfl 0 (by decide) (hts (.fieldLink RX2 9 "CivilDays$MarkedYear" "marks" "[I") (by decide +kernel)) (fun _ h9 => h9) rfl dX2_mark_17 ?_
  refine zw_iconst hx hb dX2_mark_20 ?_
  have hh3 := c_J7_fill l dC dI cI qk 366 mf 0 H.size (by omega)
  have hPc := hP.sub (ws' := [(qk, aI cI 366 mf)]) [1] rfl
  have hKc : va_K (dC, dI) vwCl [(cI, .int)] s := hK
  have hDc := hD.sub (ws' := [(qk, aI cI 366 mf)]) [1] (by decide) rfl
  have hFc := va_free (wc := [(qk, aI cI 366 mf)]) hD hS hA [1] rfl
  refine va_callv (va_runS (As := [.ref qk, .int (zi 0)]) (rest := []) ⟨hx, hb, hml, hown, hts⟩ hh3 (va_cwS 2 hts gX2_mark_J7_fill_53178 rfl rfl rfl (by decide +kernel) ⟨Nat.le_of_ble_eq_true rfl, Nat.le_of_ble_eq_true rfl⟩) ⟨zPw.blind _ _ _ _ _, fun U hU hW => ⟨rfl, by rw [hU], by rw [hU]; exact hPc, va_K.moved hW.alike hKc, hDc.weaken (fun _ _ _ _ => trivial)⟩⟩ rfl rfl hl.1 rfl (lv_room (Nat.le_of_ble_eq_true rfl)) dX2_mark_21 ⟨Nat.le_of_ble_eq_true rfl, Nat.le_of_ble_eq_true rfl⟩) hS (fun q _ h => hFc q h) hFc (fun u t H1 locs ht hvm hw hB hz1 hk1 hS => ?_)
  generalize u = fg_4 at hw hB
  have hw3 := hw
  replace hw3 : ∀ j : Nat, fg_4 j = if j < 366 then 0 else mf j := hw3
  obtain ⟨hP1, hK1, hD1⟩ := hB
  rw [ht] at hP1
  replace hP1 : va_P (dC, dI) vwCl [(qk, aI cI 366 fg_4)] H1 := hP1
  replace hD1 : va_D _ [(qk, aI cI 366 fg_4)] := hD1
  obtain ⟨hP, hD⟩ := va_join (wr := [(h0, .inr (2, [.ref qk, .int (zi (f_X0_yearStart ya)), .int (zi (f_X0_yearLength ya))])), (ql, .inr (0, [.int (zi mc), .ref qd, .int (zi 0)]))]) (w1 := [(qk, aI cI 366 fg_4)]) hP hD [1] [0, 2] rfl rfl (by decide) (by decide) hk1 hFc hP1 hD1
  generalize H1 = H at hP hS ⊢
  have hP : va_P (dC, dI) vwCl [(h0, .inr (2, [.ref qk, .int (zi (f_X0_yearStart ya)), .int (zi (f_X0_yearLength ya))])), (ql, .inr (0, [.int (zi mc), .ref qd, .int (zi 0)])), (qk, aI cI 366 fg_4)] H := hP
  have hD : va_D A [(h0, .inr (2, [.ref qk, .int (zi (f_X0_yearStart ya)), .int (zi (f_X0_yearLength ya))])), (ql, .inr (0, [.int (zi mc), .ref qd, .int (zi 0)])), (qk, aI cI 366 fg_4)] := hD
  refine zw_iconst hx hb dX2_mark_24 ?_
  refine lv_istore_n (lv' := [(3, .int (zi 0)), (0, .ref h0), (1, .int (zi ya)), (2, .ref ql)]) hx hb dX2_mark_25 rfl hl (by decide) rfl (fun ls hl => ?_)
  refine lv_iload_n hx hb dX2_mark_26 rfl (lv_at hl 0 rfl) ?_
  refine lv_aload_n hx hb dX2_mark_27 rfl (lv_at hl 3 rfl) ?_
  have hh5 := c_Jx_size l dC dI ql mc qd 0 
  have hPc := hP.sub (ws' := [(ql, .inr (0, [.int (zi mc), .ref qd, .int (zi 0)]))]) [1] rfl
  have hKc : va_K (dC, dI) vwCl [] s := hK.sub (tys' := []) [] rfl
  refine vp_callSi (va_Run.run (va_runV (As := []) (rest := [.int (zi 0)]) ⟨hx, hb, hml, hown, hts⟩ hh5 (cwV 0 hts gX2_mark_Jx4a65c_size_8abf5 rfl rfl rfl (by decide +kernel) ⟨Nat.le_of_ble_eq_true rfl, Nat.le_of_ble_eq_true rfl⟩) ⟨zPr.blind _ _ _ _, va_recv hKc hPc (ci := 0) (q0 := 0) rfl rfl, fun U hU hW => ⟨rfl, by rw [hU]; exact hPc, va_K.moved hW.alike hKc⟩⟩ rfl rfl hl.1 rfl (lv_room (Nat.le_of_ble_eq_true rfl)) dX2_mark_28 ⟨Nat.le_of_ble_eq_true rfl, Nat.le_of_ble_eq_true rfl⟩)) (fun r5 (hr5 : r5 = zi 0) => ?_)
  subst hr5
  refine zw_icmp_ge (tgt := 84) hx hb dX2_mark_31 (by decide) ⟨by omega, by omega⟩ ⟨by omega, by omega⟩ (fun h6 => ?_) (fun h6 => ?_)
  · skip
    have hP9 := hP.sub (ws' := [(h0, .inr (2, [.ref qk, .int (zi (f_X0_yearStart ya)), .int (zi (f_X0_yearLength ya))])), (qk, aI cI 366 fg_4), (ql, .inr (0, [.int (zi mc), .ref qd, .int (zi 0)]))]) [0, 2, 1] rfl
    have hD9 := hD.sub (ws' := [(h0, .inr (2, [.ref qk, .int (zi (f_X0_yearStart ya)), .int (zi (f_X0_yearLength ya))])), (qk, aI cI 366 fg_4), (ql, .inr (0, [.int (zi mc), .ref qd, .int (zi 0)]))]) [0, 2, 1] (by decide) rfl
    have hp9 : mkX2 kf af bf zf ya (f_X0_yearStart ya) (f_X0_yearLength ya) (Int.toNat 0) fg_4 := by
      exact mkX2_0 _ _ _ _ _ _ _ _ (mkX2_f (by assumption)) (by omega)
    exact W.vret hx hb hr (fun t ht hW => ⟨⟨fg_4, rfl, hp9, by rw [ht]; exact hP9, va_K.moved hW.alike hK, hD9⟩, hS.F ht⟩) hS.2.2 dX2_mark_84
  · skip
    exact absurd True.intro (by omega)

set_option maxHeartbeats 4000000 in
set_option maxRecDepth 100000 in
theorem c_Xz_isWorking (l : Launch)  (dC : Nat → ClassId) (dI : Nat → Nat → Nat) (cI : ClassId) (h0 : Nat) (qs : Nat) (qr : Nat) (qm : Nat) (qw : Nat) (qt : Nat) (we : Int) (qk : Nat) (fi : Int) (ln : Int) (mf : Nat → Int) (mc : Int) (qd : Nat) (kf : Nat → Int) (af : Nat → Int) (bf : Nat → Int) (zf : Nat → Int) (nu : Int) (sz : Nat) (hp0 : 0 ≤ nu ∧ nu ≤ 3652058) (hp1 : 0 ≤ we ∧ we ≤ 127) (hp2 : mkOk kf af bf zf 0 fi ln mf) : Met l yX4_isWorking wsX4_isWorking ({ frames := 3, cells := 0, slots := 0, locals := 64 }) (zPw (dC, dI) [(cI, .int)] sz [.ref h0, .int (zi nu)] [(h0, .inr (4, [.ref qs, .ref qr, .ref qm, .ref qw, .ref qt, .int (zi we)])), (qm, .inr (2, [.ref qk, .int (zi fi), .int (zi ln)])), (qk, aI cI 366 mf), (qr, .inr (0, [.int (zi mc), .ref qd, .int (zi 0)]))]) (va_Qi (fun (r : Int32) (u : (Int) × (Int) × (Nat → Int)) => r = zi (wkX4 we kf af bf zf 0 nu) ∧ (mkOk kf af bf zf 0 u.1 u.2.1 u.2.2)) (fun (u : (Int) × (Int) × (Nat → Int)) => zB (dC, dI) [(cI, .int)] (va_A [(h0, .inr (4, [.ref qs, .ref qr, .ref qm, .ref qw, .ref qt, .int (zi we)])), (qm, .inr (2, [.ref qk, .int (zi fi), .int (zi ln)])), (qk, aI cI 366 mf), (qr, .inr (0, [.int (zi mc), .ref qd, .int (zi 0)]))] sz) [(h0, .inr (4, [.ref qs, .ref qr, .ref qm, .ref qw, .ref qt, .int (zi we)])), (qm, .inr (2, [.ref qk, .int (zi u.1), .int (zi u.2.1)])), (qk, aI cI 366 u.2.2), (qr, .inr (0, [.int (zi mc), .ref qd, .int (zi 0)]))] ()) (va_A [(h0, .inr (4, [.ref qs, .ref qr, .ref qm, .ref qw, .ref qt, .int (zi we)])), (qm, .inr (2, [.ref qk, .int (zi fi), .int (zi ln)])), (qk, aI cI 366 mf), (qr, .inr (0, [.int (zi mc), .ref qd, .int (zi 0)]))] sz)) 0 0 (va_A [(h0, .inr (4, [.ref qs, .ref qr, .ref qm, .ref qw, .ref qt, .int (zi we)])), (qm, .inr (2, [.ref qk, .int (zi fi), .int (zi ln)])), (qk, aI cI 366 mf), (qr, .inr (0, [.int (zi mc), .ref qd, .int (zi 0)]))] sz) := by
  refine Met.ofW (cc := cX4_isWorking) (maxL := 2) (ret := (some .boolean)) (by decide) rfl ?_
  intro p e s m args below meth c s₁ B hml hv
  obtain ⟨rfl, hsz, hP, hK, hD0⟩ := hv
  have hx := B.exec
  have hb := B.bytes
  have hr := B.returns
  have hts := atoms_spec (ws := wsX4_isWorking) B.pre
  have hown : s.vm.findClass RX4 = some m.cls := findClass_of_methodNamed B.named
  have hlocks := B.notSynchronized
  subst hsz
  have hD := hD0.self (sz := s.heap.size)
  generalize hAe : va_A [(h0, .inr (4, [.ref qs, .ref qr, .ref qm, .ref qw, .ref qt, .int (zi we)])), (qm, .inr (2, [.ref qk, .int (zi fi), .int (zi ln)])), (qk, aI cI 366 mf), (qr, .inr (0, [.int (zi mc), .ref qd, .int (zi 0)]))] s.heap.size = A at hD ⊢
  have hA : ∀ q : Nat, s.heap.size ≤ q → A q := fun q h => by rw [← hAe]; exact Or.inr h
  have hS : va_S A s.heap s.heap [] := va_S.rf
  have hP : va_P (dC, dI) vwCl [(h0, .inr (4, [.ref qs, .ref qr, .ref qm, .ref qw, .ref qt, .int (zi we)])), (qm, .inr (2, [.ref qk, .int (zi fi), .int (zi ln)])), (qk, aI cI 366 mf), (qr, .inr (0, [.int (zi mc), .ref qd, .int (zi 0)]))] s.heap := hP
  have hl := lv_entry ([.ref h0, .int (zi nu)]) (n := 2) (Nat.le_of_ble_eq_true rfl)
  rw [lg_entry_eq]
  generalize (lg_sl ([.ref h0, .int (zi nu)]) ++ List.replicate (2 - (lg_sl ([.ref h0, .int (zi nu)])).length) Slot.unset).toArray = ls at hl ⊢
  have hl : lv_has ls 2 [(0, .ref h0), (1, .int (zi nu))] := hl
  have hfl := mkOk_b hp2
  have hwk := wkX4_s we kf af bf zf 0 nu
  have hwd := b_X0_weekdayOf nu (by omega)
  have hyr := yr_b nu (by omega)
  have hcv := mk_cov nu (by omega)
  have hyb := b_X0_yearStart (f_X0_yearOf nu) (by omega)
  have hyl := b_X0_yearLength (f_X0_yearOf nu) (by omega)
  refine lv_aload_n hx hb dX4_isWorking_0 rfl (lv_at hl 0 rfl) ?_
  refine va_get (D := (dC, dI)) (ci := 4) (v := .int (zi we)) (C := RX4) (T := TX4) (N := 6) hx hb hts (by decide +kernel) hown hK hP 0 rfl rfl 5 (by decide) (hts (.fieldLink RX4 154 "CivilDays" "weekendSet" "I") (by decide +kernel)) (fun _ h9 => h9) rfl dX4_isWorking_1 ?_
  refine lv_iload_n hx hb dX4_isWorking_4 rfl (lv_at hl 1 rfl) ?_
  have hh1 := c_X0_weekdayOf l nu (by omega)
  refine vp_callSi (va_Run.run (va_runS (As := [.int (zi nu)]) (rest := [.int (zi we)]) ⟨hx, hb, hml, hown, hts⟩ hh1 (va_cwS 1 hts gX4_isWorking_X0_weekdayOf rfl rfl rfl (by decide +kernel) ⟨Nat.le_of_ble_eq_true rfl, Nat.le_of_ble_eq_true rfl⟩) ⟨fun a U g mk q => q, fun U hU hW => ⟨rfl, trivial⟩⟩ rfl rfl hl.1 rfl (lv_room (Nat.le_of_ble_eq_true rfl)) dX4_isWorking_5 ⟨Nat.zero_le _, Nat.zero_le _⟩)) (fun r1 (hr1 : r1 = zi (f_X0_weekdayOf nu)) => ?_)
  subst hr1
  have hf1 := b_X0_weekdayOf nu (by omega)
  refine zw_iconst hx hb dX4_isWorking_8 ?_
  refine zw_isub hx hb dX4_isWorking_9 ?_
  refine zw_ishr hx hb dX4_isWorking_10 (by omega) (by omega) ?_
  have hsr2 := zsr_b we ((f_X0_weekdayOf nu) - 1) (by omega)
  refine zw_iconst hx hb dX4_isWorking_11 ?_
  refine zw_iand1 hx hb dX4_isWorking_12 (by omega) ?_
  refine zw_iconst hx hb dX4_isWorking_13 ?_
  refine zw_icmp_ne (tgt := 19) hx hb dX4_isWorking_14 (by decide) ⟨by omega, by omega⟩ ⟨by omega, by omega⟩ (fun h3 => ?_) (fun h3 => ?_)
  · skip
    refine lv_aload_n hx hb dX4_isWorking_19 rfl (lv_at hl 0 rfl) ?_
    refine va_get (D := (dC, dI)) (ci := 4) (v := .ref qm) (C := RX4) (T := TX4) (N := 6) hx hb hts (by decide +kernel) hown hK hP 0 rfl rfl 2 (by decide) (hts (.fieldLink RX4 23 "CivilDays" "marked" "LCivilDays$MarkedYear;") (by decide +kernel)) (fun _ h9 => h9) rfl dX4_isWorking_20 ?_
    refine lv_iload_n hx hb dX4_isWorking_23 rfl (lv_at hl 1 rfl) ?_
    have hh4 := c_X2_covers l dC dI cI qm qk fi ln mf nu (by omega) (by omega)
    have hPc := hP.sub (ws' := [(qm, .inr (2, [.ref qk, .int (zi fi), .int (zi ln)])), (qk, aI cI 366 mf)]) [1, 2] rfl
    have hKc : va_K (dC, dI) vwCl [(cI, .int)] s := hK
    refine vp_callSi (va_Run.run (va_runV (As := [.int (zi nu)]) (rest := []) ⟨hx, hb, hml, hown, hts⟩ hh4 (cwV 1 hts gX4_isWorking_X2_covers rfl rfl rfl (by decide +kernel) ⟨Nat.le_of_ble_eq_true rfl, Nat.le_of_ble_eq_true rfl⟩) ⟨zPr.blind _ _ _ _, va_recv hKc hPc (ci := 2) (q0 := 0) rfl rfl, fun U hU hW => ⟨rfl, by rw [hU]; exact hPc, va_K.moved hW.alike hKc⟩⟩ rfl rfl hl.1 rfl (lv_room (Nat.le_of_ble_eq_true rfl)) dX4_isWorking_24 ⟨Nat.le_of_ble_eq_true rfl, Nat.le_of_ble_eq_true rfl⟩)) (fun r4 (hr4 : r4 = zi (cvX2 fi ln nu)) => ?_)
    subst hr4
    have hf4_0 := cvX2_s fi ln nu
    refine zw_if_ne (tgt := 45) hx hb dX4_isWorking_27 (by decide) ⟨by omega, by omega⟩ (fun h5 => ?_) (fun h5 => ?_)
    · skip
      first | have hm := mkOk_at hp2 nu (by omega) (by omega) | have hm := mkX2_in (y := f_X0_yearOf nu) (ru := 0) (nu := nu) (by assumption) (by omega)
      refine lv_aload_n hx hb dX4_isWorking_45 rfl (lv_at hl 0 rfl) ?_
      refine va_get (D := (dC, dI)) (ci := 4) (v := .ref qm) (C := RX4) (T := TX4) (N := 6) hx hb hts (by decide +kernel) hown hK hP 0 rfl rfl 2 (by decide) (hts (.fieldLink RX4 23 "CivilDays" "marked" "LCivilDays$MarkedYear;") (by decide +kernel)) (fun _ h9 => h9) rfl dX4_isWorking_46 ?_
      refine lv_iload_n hx hb dX4_isWorking_49 rfl (lv_at hl 1 rfl) ?_
      have hh6 := c_X2_isMarked l dC dI cI qm qk fi ln mf nu (by omega) (by omega) (by omega) (by omega)
      have hPc := hP.sub (ws' := [(qm, .inr (2, [.ref qk, .int (zi fi), .int (zi ln)])), (qk, aI cI 366 mf)]) [1, 2] rfl
      have hKc : va_K (dC, dI) vwCl [(cI, .int)] s := hK
      refine vp_callSi (va_Run.run (va_runV (As := [.int (zi nu)]) (rest := []) ⟨hx, hb, hml, hown, hts⟩ hh6 (cwV 1 hts gX4_isWorking_X2_isMarked rfl rfl rfl (by decide +kernel) ⟨Nat.le_of_ble_eq_true rfl, Nat.le_of_ble_eq_true rfl⟩) ⟨zPr.blind _ _ _ _, va_recv hKc hPc (ci := 2) (q0 := 0) rfl rfl, fun U hU hW => ⟨rfl, by rw [hU]; exact hPc, va_K.moved hW.alike hKc⟩⟩ rfl rfl hl.1 rfl (lv_room (Nat.le_of_ble_eq_true rfl)) dX4_isWorking_50 ⟨Nat.le_of_ble_eq_true rfl, Nat.le_of_ble_eq_true rfl⟩)) (fun r6 (hr6 : r6 = zi (mf (nu - fi).toNat)) => ?_)
      subst hr6
      refine zw_if_ne (tgt := 60) hx hb dX4_isWorking_53 (by decide) ⟨by omega, by omega⟩ (fun h7 => ?_) (fun h7 => ?_)
      · skip
        refine zw_iconst hx hb dX4_isWorking_60 ?_
        have hP9 := hP.sub (ws' := [(h0, .inr (4, [.ref qs, .ref qr, .ref qm, .ref qw, .ref qt, .int (zi we)])), (qm, .inr (2, [.ref qk, .int (zi fi), .int (zi ln)])), (qk, aI cI 366 mf), (qr, .inr (0, [.int (zi mc), .ref qd, .int (zi 0)]))]) [0, 1, 2, 3] rfl
        have hD9 := hD.sub (ws' := [(h0, .inr (4, [.ref qs, .ref qr, .ref qm, .ref qw, .ref qt, .int (zi we)])), (qm, .inr (2, [.ref qk, .int (zi fi), .int (zi ln)])), (qk, aI cI 366 mf), (qr, .inr (0, [.int (zi mc), .ref qd, .int (zi 0)]))]) [0, 1, 2, 3] (by decide) rfl
        have hp9 : mkOk kf af bf zf 0 fi ln mf := by
          first | exact hp2 | exact mkOk_new (by assumption) (by omega)
        exact W.zret (v := zi 0) hx hb hr (zi_nb (by omega)) (fun t ht hW => ⟨⟨zi 0, (fi, ln, mf), rfl, ⟨congrArg zi (by omega), hp9⟩, by rw [ht]; exact hP9, va_K.moved hW.alike hK, hD9⟩, hS.F ht⟩) hS.2.2 dX4_isWorking_61
      · skip
        refine zw_iconst hx hb dX4_isWorking_56 ?_
        refine lv_goto (tgt := 61) hx hb dX4_isWorking_57 (by decide) ?_
        have hP9 := hP.sub (ws' := [(h0, .inr (4, [.ref qs, .ref qr, .ref qm, .ref qw, .ref qt, .int (zi we)])), (qm, .inr (2, [.ref qk, .int (zi fi), .int (zi ln)])), (qk, aI cI 366 mf), (qr, .inr (0, [.int (zi mc), .ref qd, .int (zi 0)]))]) [0, 1, 2, 3] rfl
        have hD9 := hD.sub (ws' := [(h0, .inr (4, [.ref qs, .ref qr, .ref qm, .ref qw, .ref qt, .int (zi we)])), (qm, .inr (2, [.ref qk, .int (zi fi), .int (zi ln)])), (qk, aI cI 366 mf), (qr, .inr (0, [.int (zi mc), .ref qd, .int (zi 0)]))]) [0, 1, 2, 3] (by decide) rfl
        have hp9 : mkOk kf af bf zf 0 fi ln mf := by
          first | exact hp2 | exact mkOk_new (by assumption) (by omega)
        exact W.zret (v := zi 1) hx hb hr (zi_nb (by omega)) (fun t ht hW => ⟨⟨zi 1, (fi, ln, mf), rfl, ⟨congrArg zi (by omega), hp9⟩, by rw [ht]; exact hP9, va_K.moved hW.alike hK, hD9⟩, hS.F ht⟩) hS.2.2 dX4_isWorking_61
    · skip
      refine lv_aload_n hx hb dX4_isWorking_30 rfl (lv_at hl 0 rfl) ?_
      refine va_get (D := (dC, dI)) (ci := 4) (v := .ref qm) (C := RX4) (T := TX4) (N := 6) hx hb hts (by decide +kernel) hown hK hP 0 rfl rfl 2 (by decide) (hts (.fieldLink RX4 23 "CivilDays" "marked" "LCivilDays$MarkedYear;") (by decide +kernel)) (fun _ h9 => h9) rfl dX4_isWorking_31 ?_
      refine lv_iload_n hx hb dX4_isWorking_34 rfl (lv_at hl 1 rfl) ?_
      have hh8 := c_X0_yearOf l nu (by omega)
      refine vp_callSi (va_Run.run (va_runS (As := [.int (zi nu)]) (rest := [.ref qm]) ⟨hx, hb, hml, hown, hts⟩ hh8 (va_cwS 1 hts gX4_isWorking_X0_yearOf rfl rfl rfl (by decide +kernel) ⟨Nat.le_of_ble_eq_true rfl, Nat.le_of_ble_eq_true rfl⟩) ⟨fun a U g mk q => q, fun U hU hW => ⟨rfl, trivial⟩⟩ rfl rfl hl.1 rfl (lv_room (Nat.le_of_ble_eq_true rfl)) dX4_isWorking_35 ⟨Nat.zero_le _, Nat.zero_le _⟩)) (fun r8 (hr8 : r8 = zi (f_X0_yearOf nu)) => ?_)
      subst hr8
      have hf8 := b_X0_yearOf nu (by omega)
      refine lv_aload_n hx hb dX4_isWorking_38 rfl (lv_at hl 0 rfl) ?_
      refine va_get (D := (dC, dI)) (ci := 4) (v := .ref qr) (C := RX4) (T := TX4) (N := 6) hx hb hts (by decide +kernel) hown hK hP 0 rfl rfl 1 (by decide) (hts (.fieldLink RX4 16 "CivilDays" "rules" "Ljava/util/ArrayList;") (by decide +kernel)) (fun _ h9 => h9) rfl dX4_isWorking_39 ?_
      have hh9 := c_Xz_mark l dC dI cI qm qk fi ln mf qr mc qd kf af bf zf (f_X0_yearOf nu) s.heap.size (by omega) (by omega)
      have hPc := hP.sub (ws' := [(qm, .inr (2, [.ref qk, .int (zi fi), .int (zi ln)])), (qk, aI cI 366 mf), (qr, .inr (0, [.int (zi mc), .ref qd, .int (zi 0)]))]) [1, 2, 3] rfl
      have hKc : va_K (dC, dI) vwCl [(cI, .int)] s := hK
      have hDc := hD.sub (ws' := [(qm, .inr (2, [.ref qk, .int (zi fi), .int (zi ln)])), (qk, aI cI 366 mf), (qr, .inr (0, [.int (zi mc), .ref qd, .int (zi 0)]))]) [1, 2, 3] (by decide) rfl
      have hFc := va_free (wc := [(qm, .inr (2, [.ref qk, .int (zi fi), .int (zi ln)])), (qk, aI cI 366 mf), (qr, .inr (0, [.int (zi mc), .ref qd, .int (zi 0)]))]) hD hS hA [1, 2, 3] rfl
      refine va_callv (va_runV (As := [.int (zi (f_X0_yearOf nu)), .ref qr]) (rest := []) ⟨hx, hb, hml, hown, hts⟩ hh9 (cwV 2 hts gX4_isWorking_X2_mark rfl rfl rfl (by decide +kernel) ⟨Nat.le_of_ble_eq_true rfl, Nat.le_of_ble_eq_true rfl⟩) ⟨zPw.blind _ _ _ _ _, va_recv hKc hPc (ci := 2) (q0 := 0) rfl rfl, fun U hU hW => ⟨rfl, by rw [hU], by rw [hU]; exact hPc, va_K.moved hW.alike hKc, hDc.weaken (fun _ _ _ _ => trivial)⟩⟩ rfl rfl hl.1 rfl (lv_room (Nat.le_of_ble_eq_true rfl)) dX4_isWorking_42 ⟨Nat.le_of_ble_eq_true rfl, Nat.le_of_ble_eq_true rfl⟩) hS (fun q _ h => hFc q h) hFc (fun u t H1 locs ht hvm hw hB hz1 hk1 hS => ?_)
      generalize u = mg_10 at hw hB
      have hw9 := hw
      replace hw9 : mkX2 kf af bf zf (f_X0_yearOf nu) (f_X0_yearStart (f_X0_yearOf nu)) (f_X0_yearLength (f_X0_yearOf nu)) (Int.toNat 0) mg_10 := hw9
      obtain ⟨hP1, hK1, hD1⟩ := hB
      rw [ht] at hP1
      replace hP1 : va_P (dC, dI) vwCl [(qm, .inr (2, [.ref qk, .int (zi (f_X0_yearStart (f_X0_yearOf nu))), .int (zi (f_X0_yearLength (f_X0_yearOf nu)))])), (qk, aI cI 366 mg_10), (qr, .inr (0, [.int (zi mc), .ref qd, .int (zi 0)]))] H1 := hP1
      replace hD1 : va_D _ [(qm, .inr (2, [.ref qk, .int (zi (f_X0_yearStart (f_X0_yearOf nu))), .int (zi (f_X0_yearLength (f_X0_yearOf nu)))])), (qk, aI cI 366 mg_10), (qr, .inr (0, [.int (zi mc), .ref qd, .int (zi 0)]))] := hD1
      obtain ⟨hP, hD⟩ := va_join (wr := [(h0, .inr (4, [.ref qs, .ref qr, .ref qm, .ref qw, .ref qt, .int (zi we)]))]) (w1 := [(qm, .inr (2, [.ref qk, .int (zi (f_X0_yearStart (f_X0_yearOf nu))), .int (zi (f_X0_yearLength (f_X0_yearOf nu)))])), (qk, aI cI 366 mg_10), (qr, .inr (0, [.int (zi mc), .ref qd, .int (zi 0)]))]) hP hD [1, 2, 3] [0] rfl rfl (by decide) (by decide) hk1 hFc hP1 hD1
      generalize H1 = H at hP hS ⊢
      have hP : va_P (dC, dI) vwCl [(h0, .inr (4, [.ref qs, .ref qr, .ref qm, .ref qw, .ref qt, .int (zi we)])), (qm, .inr (2, [.ref qk, .int (zi (f_X0_yearStart (f_X0_yearOf nu))), .int (zi (f_X0_yearLength (f_X0_yearOf nu)))])), (qk, aI cI 366 mg_10), (qr, .inr (0, [.int (zi mc), .ref qd, .int (zi 0)]))] H := hP
      have hD : va_D A [(h0, .inr (4, [.ref qs, .ref qr, .ref qm, .ref qw, .ref qt, .int (zi we)])), (qm, .inr (2, [.ref qk, .int (zi (f_X0_yearStart (f_X0_yearOf nu))), .int (zi (f_X0_yearLength (f_X0_yearOf nu)))])), (qk, aI cI 366 mg_10), (qr, .inr (0, [.int (zi mc), .ref qd, .int (zi 0)]))] := hD
      first | have hm := mkOk_at hp2 nu (by omega) (by omega) | have hm := mkX2_in (y := f_X0_yearOf nu) (ru := 0) (nu := nu) (by assumption) (by omega)
      refine lv_aload_n hx hb dX4_isWorking_45 rfl (lv_at hl 0 rfl) ?_
      refine va_get (D := (dC, dI)) (ci := 4) (v := .ref qm) (C := RX4) (T := TX4) (N := 6) hx hb hts (by decide +kernel) hown hK hP 0 rfl rfl 2 (by decide) (hts (.fieldLink RX4 23 "CivilDays" "marked" "LCivilDays$MarkedYear;") (by decide +kernel)) (fun _ h9 => h9) rfl dX4_isWorking_46 ?_
      refine lv_iload_n hx hb dX4_isWorking_49 rfl (lv_at hl 1 rfl) ?_
      have hh11 := c_X2_isMarked l dC dI cI qm qk (f_X0_yearStart (f_X0_yearOf nu)) (f_X0_yearLength (f_X0_yearOf nu)) mg_10 nu (by omega) (by omega) (by omega) (by omega)
      have hPc := hP.sub (ws' := [(qm, .inr (2, [.ref qk, .int (zi (f_X0_yearStart (f_X0_yearOf nu))), .int (zi (f_X0_yearLength (f_X0_yearOf nu)))])), (qk, aI cI 366 mg_10)]) [1, 2] rfl
      have hKc : va_K (dC, dI) vwCl [(cI, .int)] s := hK
      refine vp_callSi (va_Run.run (va_runV (As := [.int (zi nu)]) (rest := []) ⟨hx, hb, hml, hown, hts⟩ hh11 (cwV 1 hts gX4_isWorking_X2_isMarked rfl rfl rfl (by decide +kernel) ⟨Nat.le_of_ble_eq_true rfl, Nat.le_of_ble_eq_true rfl⟩) ⟨zPr.blind _ _ _ _, va_recv hKc hPc (ci := 2) (q0 := 0) rfl rfl, fun U hU hW => ⟨rfl, by rw [hU]; exact hPc, va_K.moved hW.alike hKc⟩⟩ rfl rfl hl.1 rfl (lv_room (Nat.le_of_ble_eq_true rfl)) dX4_isWorking_50 ⟨Nat.le_of_ble_eq_true rfl, Nat.le_of_ble_eq_true rfl⟩)) (fun r11 (hr11 : r11 = zi (mg_10 (nu - (f_X0_yearStart (f_X0_yearOf nu))).toNat)) => ?_)
      subst hr11
      refine zw_if_ne (tgt := 60) hx hb dX4_isWorking_53 (by decide) ⟨by omega, by omega⟩ (fun h12 => ?_) (fun h12 => ?_)
      · skip
        refine zw_iconst hx hb dX4_isWorking_60 ?_
        have hP9 := hP.sub (ws' := [(h0, .inr (4, [.ref qs, .ref qr, .ref qm, .ref qw, .ref qt, .int (zi we)])), (qm, .inr (2, [.ref qk, .int (zi (f_X0_yearStart (f_X0_yearOf nu))), .int (zi (f_X0_yearLength (f_X0_yearOf nu)))])), (qk, aI cI 366 mg_10), (qr, .inr (0, [.int (zi mc), .ref qd, .int (zi 0)]))]) [0, 1, 2, 3] rfl
        have hD9 := hD.sub (ws' := [(h0, .inr (4, [.ref qs, .ref qr, .ref qm, .ref qw, .ref qt, .int (zi we)])), (qm, .inr (2, [.ref qk, .int (zi (f_X0_yearStart (f_X0_yearOf nu))), .int (zi (f_X0_yearLength (f_X0_yearOf nu)))])), (qk, aI cI 366 mg_10), (qr, .inr (0, [.int (zi mc), .ref qd, .int (zi 0)]))]) [0, 1, 2, 3] (by decide) rfl
        have hp9 : mkOk kf af bf zf 0 (f_X0_yearStart (f_X0_yearOf nu)) (f_X0_yearLength (f_X0_yearOf nu)) mg_10 := by
          first | exact hp2 | exact mkOk_new (by assumption) (by omega)
        exact W.zret (v := zi 0) hx hb hr (zi_nb (by omega)) (fun t ht hW => ⟨⟨zi 0, ((f_X0_yearStart (f_X0_yearOf nu)), (f_X0_yearLength (f_X0_yearOf nu)), mg_10), rfl, ⟨congrArg zi (by omega), hp9⟩, by rw [ht]; exact hP9, va_K.moved hW.alike hK, hD9⟩, hS.F ht⟩) hS.2.2 dX4_isWorking_61
      · skip
        refine zw_iconst hx hb dX4_isWorking_56 ?_
        refine lv_goto (tgt := 61) hx hb dX4_isWorking_57 (by decide) ?_
        have hP9 := hP.sub (ws' := [(h0, .inr (4, [.ref qs, .ref qr, .ref qm, .ref qw, .ref qt, .int (zi we)])), (qm, .inr (2, [.ref qk, .int (zi (f_X0_yearStart (f_X0_yearOf nu))), .int (zi (f_X0_yearLength (f_X0_yearOf nu)))])), (qk, aI cI 366 mg_10), (qr, .inr (0, [.int (zi mc), .ref qd, .int (zi 0)]))]) [0, 1, 2, 3] rfl
        have hD9 := hD.sub (ws' := [(h0, .inr (4, [.ref qs, .ref qr, .ref qm, .ref qw, .ref qt, .int (zi we)])), (qm, .inr (2, [.ref qk, .int (zi (f_X0_yearStart (f_X0_yearOf nu))), .int (zi (f_X0_yearLength (f_X0_yearOf nu)))])), (qk, aI cI 366 mg_10), (qr, .inr (0, [.int (zi mc), .ref qd, .int (zi 0)]))]) [0, 1, 2, 3] (by decide) rfl
        have hp9 : mkOk kf af bf zf 0 (f_X0_yearStart (f_X0_yearOf nu)) (f_X0_yearLength (f_X0_yearOf nu)) mg_10 := by
          first | exact hp2 | exact mkOk_new (by assumption) (by omega)
        exact W.zret (v := zi 1) hx hb hr (zi_nb (by omega)) (fun t ht hW => ⟨⟨zi 1, ((f_X0_yearStart (f_X0_yearOf nu)), (f_X0_yearLength (f_X0_yearOf nu)), mg_10), rfl, ⟨congrArg zi (by omega), hp9⟩, by rw [ht]; exact hP9, va_K.moved hW.alike hK, hD9⟩, hS.F ht⟩) hS.2.2 dX4_isWorking_61
  · skip
    refine zw_iconst hx hb dX4_isWorking_17 ?_
    have hP9 := hP.sub (ws' := [(h0, .inr (4, [.ref qs, .ref qr, .ref qm, .ref qw, .ref qt, .int (zi we)])), (qm, .inr (2, [.ref qk, .int (zi fi), .int (zi ln)])), (qk, aI cI 366 mf), (qr, .inr (0, [.int (zi mc), .ref qd, .int (zi 0)]))]) [0, 1, 2, 3] rfl
    have hD9 := hD.sub (ws' := [(h0, .inr (4, [.ref qs, .ref qr, .ref qm, .ref qw, .ref qt, .int (zi we)])), (qm, .inr (2, [.ref qk, .int (zi fi), .int (zi ln)])), (qk, aI cI 366 mf), (qr, .inr (0, [.int (zi mc), .ref qd, .int (zi 0)]))]) [0, 1, 2, 3] (by decide) rfl
    have hp9 : mkOk kf af bf zf 0 fi ln mf := by
      first | exact hp2 | exact mkOk_new (by assumption) (by omega)
    exact W.zret (v := zi 0) hx hb hr (zi_nb (by omega)) (fun t ht hW => ⟨⟨zi 0, (fi, ln, mf), rfl, ⟨congrArg zi (by omega), hp9⟩, by rw [ht]; exact hP9, va_K.moved hW.alike hK, hD9⟩, hS.F ht⟩) hS.2.2 dX4_isWorking_18

set_option maxHeartbeats 4000000 in
set_option maxRecDepth 100000 in
theorem c_Xz_isHoliday (l : Launch)  (dC : Nat → ClassId) (dI : Nat → Nat → Nat) (cI : ClassId) (h0 : Nat) (qs : Nat) (qr : Nat) (qm : Nat) (qw : Nat) (qt : Nat) (we : Int) (sf : Nat → Int) (mc : Int) (qd : Nat) (sl : Int) (hp0 : 0 ≤ sl ∧ sl ≤ 9) (hp1 : 0 ≤ (sf sl.toNat) ∧ (sf sl.toNat) ≤ 3652058) : Met l yX4_isHoliday wsX4_isHoliday ({ frames := 1, cells := 0, slots := 0, locals := 22 }) (zPr (dC, dI) [(cI, .int)] [.ref h0, .int (zi sl)] [(h0, .inr (4, [.ref qs, .ref qr, .ref qm, .ref qw, .ref qt, .int (zi we)])), (qs, aI cI 10 sf), (qr, .inr (0, [.int (zi mc), .ref qd, .int (zi 0)]))]) (vp_Si (fun r => r = zi (-1))) 0 0 zN := by
  refine Met.ofW (cc := cX4_isHoliday) (maxL := 4) (ret := (some .int)) (by decide) rfl ?_
  intro p e s m args below meth c s₁ B hml hv
  obtain ⟨rfl, hP, hK⟩ := hv
  have hx := B.exec
  have hb := B.bytes
  have hr := B.returns
  have hts := atoms_spec (ws := wsX4_isHoliday) B.pre
  have hown : s.vm.findClass RX4 = some m.cls := findClass_of_methodNamed B.named
  have hlocks := B.notSynchronized
  have hl := lv_entry ([.ref h0, .int (zi sl)]) (n := 4) (Nat.le_of_ble_eq_true rfl)
  rw [lg_entry_eq]
  generalize (lg_sl ([.ref h0, .int (zi sl)]) ++ List.replicate (4 - (lg_sl ([.ref h0, .int (zi sl)])).length) Slot.unset).toArray = ls at hl ⊢
  have hl : lv_has ls 4 [(0, .ref h0), (1, .int (zi sl))] := hl
  refine lv_iload_n hx hb dX4_isHoliday_0 rfl (lv_at hl 1 rfl) ?_
  have hh1 := c_X4_needSlot l sl (by omega)
  refine va_csv (va_Run.run (va_runS (As := [.int (zi sl)]) (rest := []) ⟨hx, hb, hml, hown, hts⟩ hh1 (va_cwS 1 hts gX4_isHoliday_X4_needSlot rfl rfl rfl (by decide +kernel) ⟨Nat.le_of_ble_eq_true rfl, Nat.le_of_ble_eq_true rfl⟩) ⟨fun a U g mk q => q, fun U hU hW => ⟨rfl, trivial⟩⟩ rfl rfl hl.1 rfl (lv_room (Nat.le_of_ble_eq_true rfl)) dX4_isHoliday_1 ⟨Nat.le_of_ble_eq_true rfl, Nat.le_of_ble_eq_true rfl⟩)) (fun _ => ?_)
  refine lv_aload_n hx hb dX4_isHoliday_4 rfl (lv_at hl 0 rfl) ?_
  refine lv_iload_n hx hb dX4_isHoliday_5 rfl (lv_at hl 1 rfl) ?_
  have hh2 := c_X4_dateIn l dC dI cI h0 qs qr qm qw qt we sf sl (by omega) (by omega)
  have hPc := hP.sub (ws' := [(h0, .inr (4, [.ref qs, .ref qr, .ref qm, .ref qw, .ref qt, .int (zi we)])), (qs, aI cI 10 sf)]) [0, 1] rfl
  have hKc : va_K (dC, dI) vwCl [(cI, .int)] s := hK
  refine vp_callSi (va_Run.run (va_runV (As := [.int (zi sl)]) (rest := []) ⟨hx, hb, hml, hown, hts⟩ hh2 (cwV 1 hts gX4_isHoliday_X4_dateIn rfl rfl rfl (by decide +kernel) ⟨Nat.le_of_ble_eq_true rfl, Nat.le_of_ble_eq_true rfl⟩) ⟨zPr.blind _ _ _ _, va_recv hKc hPc (ci := 4) (q0 := 0) rfl rfl, fun U hU hW => ⟨rfl, by rw [hU]; exact hPc, va_K.moved hW.alike hKc⟩⟩ rfl rfl hl.1 rfl (lv_room (Nat.le_of_ble_eq_true rfl)) dX4_isHoliday_6 ⟨Nat.le_of_ble_eq_true rfl, Nat.le_of_ble_eq_true rfl⟩)) (fun r2 (hr2 : r2 = zi (sf sl.toNat)) => ?_)
  subst hr2
  refine zw_top (fun x3 ex3 => ?_)
  refine lv_istore_n (lv' := [(2, .int (zi x3)), (0, .ref h0), (1, .int (zi sl))]) hx hb dX4_isHoliday_9 rfl hl (by decide) rfl (fun ls hl => ?_)
  refine zw_iconst hx hb dX4_isHoliday_10 ?_
  refine lv_istore_n (lv' := [(3, .int (zi 0)), (2, .int (zi x3)), (0, .ref h0), (1, .int (zi sl))]) hx hb dX4_isHoliday_11 rfl hl (by decide) rfl (fun ls hl => ?_)
  refine lv_iload_n hx hb dX4_isHoliday_12 rfl (lv_at hl 0 rfl) ?_
  refine lv_aload_n hx hb dX4_isHoliday_13 rfl (lv_at hl 2 rfl) ?_
  refine va_get (D := (dC, dI)) (ci := 4) (v := .ref qr) (C := RX4) (T := TX4) (N := 6) hx hb hts (by decide +kernel) hown hK hP 0 rfl rfl 1 (by decide) (hts (.fieldLink RX4 16 "CivilDays" "rules" "Ljava/util/ArrayList;") (by decide +kernel)) (fun _ h9 => h9) rfl dX4_isHoliday_14 ?_
  have hh4 := c_Jx_size l dC dI qr mc qd 0 
  have hPc := hP.sub (ws' := [(qr, .inr (0, [.int (zi mc), .ref qd, .int (zi 0)]))]) [2] rfl
  have hKc : va_K (dC, dI) vwCl [] s := hK.sub (tys' := []) [] rfl
  refine vp_callSi (va_Run.run (va_runV (As := []) (rest := [.int (zi 0)]) ⟨hx, hb, hml, hown, hts⟩ hh4 (cwV 0 hts gX4_isHoliday_Jx4a65c_size_8abf5 rfl rfl rfl (by decide +kernel) ⟨Nat.le_of_ble_eq_true rfl, Nat.le_of_ble_eq_true rfl⟩) ⟨zPr.blind _ _ _ _, va_recv hKc hPc (ci := 0) (q0 := 0) rfl rfl, fun U hU hW => ⟨rfl, by rw [hU]; exact hPc, va_K.moved hW.alike hKc⟩⟩ rfl rfl hl.1 rfl (lv_room (Nat.le_of_ble_eq_true rfl)) dX4_isHoliday_17 ⟨Nat.le_of_ble_eq_true rfl, Nat.le_of_ble_eq_true rfl⟩)) (fun r4 (hr4 : r4 = zi 0) => ?_)
  subst hr4
  refine zw_icmp_ge (tgt := 49) hx hb dX4_isHoliday_20 (by decide) ⟨by omega, by omega⟩ ⟨by omega, by omega⟩ (fun h5 => ?_) (fun h5 => ?_)
  · skip
    refine zw_iconst hx hb dX4_isHoliday_49 ?_
    subst ex3
    exact W.iret (v := zi (-1)) hx hb hr (fun t ht hW => ⟨zi (-1), rfl, rfl, ht⟩) (fun q h => by cases h) dX4_isHoliday_50
  · skip
    exact absurd True.intro (by omega)

set_option maxHeartbeats 4000000 in
set_option maxRecDepth 100000 in
theorem c_Xz_work (l : Launch)  (dC : Nat → ClassId) (dI : Nat → Nat → Nat) (cI : ClassId) (h0 : Nat) (qs : Nat) (qr : Nat) (qm : Nat) (qw : Nat) (qt : Nat) (we : Int) (sf : Nat → Int) (qk : Nat) (fi : Int) (ln : Int) (mf : Nat → Int) (mc : Int) (qd : Nat) (kf : Nat → Int) (af : Nat → Int) (bf : Nat → Int) (zf : Nat → Int) (sl : Int) (ot : Int) (sz : Nat) (hp0 : 0 ≤ sl ∧ sl ≤ 9) (hp1 : 0 ≤ ot ∧ ot ≤ 9) (hp2 : 0 ≤ (sf sl.toNat) ∧ (sf sl.toNat) ≤ 3652058) (hp3 : 0 ≤ (sf ot.toNat) ∧ (sf ot.toNat) ≤ 3652058) (hp4 : 0 ≤ we ∧ we ≤ 127) (hp5 : 0 ≤ fi ∧ fi ≤ 4000000 ∧ 0 ≤ ln ∧ ln ≤ 366) (hp6 : (max (sf sl.toNat) (sf ot.toNat)) - (min (sf sl.toNat) (sf ot.toNat)) ≤ 4000) : Met l yX4_work wsX4_work ({ frames := 4, cells := 0, slots := 0, locals := 85 }) (zPw (dC, dI) [(cI, .int)] sz [.ref h0, .int (zi sl), .int (zi ot)] [(h0, .inr (4, [.ref qs, .ref qr, .ref qm, .ref qw, .ref qt, .int (zi we)])), (qs, aI cI 10 sf), (qm, .inr (2, [.ref qk, .int (zi fi), .int (zi ln)])), (qk, aI cI 366 mf), (qr, .inr (0, [.int (zi mc), .ref qd, .int (zi 0)]))]) (va_Qi (fun (r : Int32) (u : (Int) × (Int) × (Nat → Int)) => r = zi (if (sf ot.toNat) < (sf sl.toNat) then -(zcn (wkX4 we kf af bf zf 0) ((max (sf sl.toNat) (sf ot.toNat)) - (min (sf sl.toNat) (sf ot.toNat))).toNat (min (sf sl.toNat) (sf ot.toNat))) else zcn (wkX4 we kf af bf zf 0) ((max (sf sl.toNat) (sf ot.toNat)) - (min (sf sl.toNat) (sf ot.toNat))).toNat (min (sf sl.toNat) (sf ot.toNat))) ∧ (0 ≤ u.1 ∧ u.1 ≤ 4000000 ∧ 0 ≤ u.2.1 ∧ u.2.1 ≤ 366)) (fun (u : (Int) × (Int) × (Nat → Int)) => zB (dC, dI) [(cI, .int)] (va_A [(h0, .inr (4, [.ref qs, .ref qr, .ref qm, .ref qw, .ref qt, .int (zi we)])), (qs, aI cI 10 sf), (qm, .inr (2, [.ref qk, .int (zi fi), .int (zi ln)])), (qk, aI cI 366 mf), (qr, .inr (0, [.int (zi mc), .ref qd, .int (zi 0)]))] sz) [(h0, .inr (4, [.ref qs, .ref qr, .ref qm, .ref qw, .ref qt, .int (zi we)])), (qs, aI cI 10 sf), (qm, .inr (2, [.ref qk, .int (zi u.1), .int (zi u.2.1)])), (qk, aI cI 366 u.2.2), (qr, .inr (0, [.int (zi mc), .ref qd, .int (zi 0)]))] ()) (va_A [(h0, .inr (4, [.ref qs, .ref qr, .ref qm, .ref qw, .ref qt, .int (zi we)])), (qs, aI cI 10 sf), (qm, .inr (2, [.ref qk, .int (zi fi), .int (zi ln)])), (qk, aI cI 366 mf), (qr, .inr (0, [.int (zi mc), .ref qd, .int (zi 0)]))] sz)) 0 0 (va_A [(h0, .inr (4, [.ref qs, .ref qr, .ref qm, .ref qw, .ref qt, .int (zi we)])), (qs, aI cI 10 sf), (qm, .inr (2, [.ref qk, .int (zi fi), .int (zi ln)])), (qk, aI cI 366 mf), (qr, .inr (0, [.int (zi mc), .ref qd, .int (zi 0)]))] sz) := by
  refine Met.ofW (cc := cX4_work) (maxL := 8) (ret := (some .int)) (by decide) rfl ?_
  intro p e s m args below meth c s₁ B hml hv
  obtain ⟨rfl, hsz, hP, hK, hD0⟩ := hv
  have hx := B.exec
  have hb := B.bytes
  have hr := B.returns
  have hts := atoms_spec (ws := wsX4_work) B.pre
  have hown : s.vm.findClass RX4 = some m.cls := findClass_of_methodNamed B.named
  have hlocks := B.notSynchronized
  subst hsz
  have hD := hD0.self (sz := s.heap.size)
  generalize hAe : va_A [(h0, .inr (4, [.ref qs, .ref qr, .ref qm, .ref qw, .ref qt, .int (zi we)])), (qs, aI cI 10 sf), (qm, .inr (2, [.ref qk, .int (zi fi), .int (zi ln)])), (qk, aI cI 366 mf), (qr, .inr (0, [.int (zi mc), .ref qd, .int (zi 0)]))] s.heap.size = A at hD ⊢
  have hA : ∀ q : Nat, s.heap.size ≤ q → A q := fun q h => by rw [← hAe]; exact Or.inr h
  have hS : va_S A s.heap s.heap [] := va_S.rf
  have hP : va_P (dC, dI) vwCl [(h0, .inr (4, [.ref qs, .ref qr, .ref qm, .ref qw, .ref qt, .int (zi we)])), (qs, aI cI 10 sf), (qm, .inr (2, [.ref qk, .int (zi fi), .int (zi ln)])), (qk, aI cI 366 mf), (qr, .inr (0, [.int (zi mc), .ref qd, .int (zi 0)]))] s.heap := hP
  have loop70 : ∀ (fu : Nat) (nn : Int) (dd : Int) (fj : Int) (lj : Int) (mg : Nat → Int), ((min (sf sl.toNat) (sf ot.toNat)) ≤ dd ∧ dd ≤ (max (sf sl.toNat) (sf ot.toNat))) → (nn + zcn (wkX4 we kf af bf zf 0) ((max (sf sl.toNat) (sf ot.toNat)) - dd).toNat dd = zcn (wkX4 we kf af bf zf 0) ((max (sf sl.toNat) (sf ot.toNat)) - (min (sf sl.toNat) (sf ot.toNat))).toNat (min (sf sl.toNat) (sf ot.toNat))) → (0 ≤ nn ∧ nn ≤ dd - (min (sf sl.toNat) (sf ot.toNat))) → (mkOk kf af bf zf 0 fj lj mg) → ((max (sf sl.toNat) (sf ot.toNat)) - dd < fu) → ∀ (ls : Array Slot) (H : Heap) (locs : List Loc), lv_has ls 8 [(6, .int (zi nn)), (7, .int (zi dd)), (0, .ref h0), (1, .int (zi sl)), (2, .int (zi ot)), (3, .int (zi (sf sl.toNat))), (4, .int (zi (sf ot.toNat))), (5, .int (zi (max (sf sl.toNat) (sf ot.toNat))))] → va_P (dC, dI) vwCl [(h0, .inr (4, [.ref qs, .ref qr, .ref qm, .ref qw, .ref qt, .int (zi we)])), (qs, aI cI 10 sf), (qm, .inr (2, [.ref qk, .int (zi fj), .int (zi lj)])), (qk, aI cI 366 mg), (qr, .inr (0, [.int (zi mc), .ref qd, .int (zi 0)]))] H → va_D A [(h0, .inr (4, [.ref qs, .ref qr, .ref qm, .ref qw, .ref qt, .int (zi we)])), (qs, aI cI 10 sf), (qm, .inr (2, [.ref qk, .int (zi fj), .int (zi lj)])), (qk, aI cI 366 mg), (qr, .inr (0, [.int (zi mc), .ref qd, .int (zi 0)]))] → va_S A s.heap H locs → W p l e (headSpec wsX4_work ({ frames := 4, cells := 0, slots := 0, locals := 85 })).room s m ([.ref h0, .int (zi sl), .int (zi ot)] : List Value).toArray below meth c H locs 0 0 (MQ below (va_Qi (fun (r : Int32) (u : (Int) × (Int) × (Nat → Int)) => r = zi (if (sf ot.toNat) < (sf sl.toNat) then -(zcn (wkX4 we kf af bf zf 0) ((max (sf sl.toNat) (sf ot.toNat)) - (min (sf sl.toNat) (sf ot.toNat))).toNat (min (sf sl.toNat) (sf ot.toNat))) else zcn (wkX4 we kf af bf zf 0) ((max (sf sl.toNat) (sf ot.toNat)) - (min (sf sl.toNat) (sf ot.toNat))).toNat (min (sf sl.toNat) (sf ot.toNat))) ∧ (0 ≤ u.1 ∧ u.1 ≤ 4000000 ∧ 0 ≤ u.2.1 ∧ u.2.1 ≤ 366)) (fun (u : (Int) × (Int) × (Nat → Int)) => zB (dC, dI) [(cI, .int)] A [(h0, .inr (4, [.ref qs, .ref qr, .ref qm, .ref qw, .ref qt, .int (zi we)])), (qs, aI cI 10 sf), (qm, .inr (2, [.ref qk, .int (zi u.1), .int (zi u.2.1)])), (qk, aI cI 366 u.2.2), (qr, .inr (0, [.int (zi mc), .ref qd, .int (zi 0)]))] ()) A) ([.ref h0, .int (zi sl), .int (zi ot)] : List Value).toArray s 0 0 A) (F0 m 70 ls []) := by
    intro fu
    induction fu with
    | zero =>
      intro nn dd fj lj mg hi0 hi1 hi2 hi3 hfu ls H locs hl hP hD hS
      exact absurd hfu (by omega)
    | succ fu ih =>
      intro nn dd fj lj mg hi0 hi1 hi2 hi3 hfu ls H locs hl hP hD hS
      have hP : va_P (dC, dI) vwCl [(h0, .inr (4, [.ref qs, .ref qr, .ref qm, .ref qw, .ref qt, .int (zi we)])), (qs, aI cI 10 sf), (qm, .inr (2, [.ref qk, .int (zi fj), .int (zi lj)])), (qk, aI cI 366 mg), (qr, .inr (0, [.int (zi mc), .ref qd, .int (zi 0)]))] H := hP
      have hD : va_D A [(h0, .inr (4, [.ref qs, .ref qr, .ref qm, .ref qw, .ref qt, .int (zi we)])), (qs, aI cI 10 sf), (qm, .inr (2, [.ref qk, .int (zi fj), .int (zi lj)])), (qk, aI cI 366 mg), (qr, .inr (0, [.int (zi mc), .ref qd, .int (zi 0)]))] := hD
      first | have hmb := mkOk_b hi3 | skip
      refine lv_iload hx hb dX4_work_70 (lv_at hl 1 rfl) ?_
      refine lv_iload hx hb dX4_work_72 (lv_at hl 7 rfl) ?_
      refine zw_icmp_ge (tgt := 95) hx hb dX4_work_74 (by decide) ⟨by omega, by omega⟩ ⟨by omega, by omega⟩ (fun h1 => ?_) (fun h1 => ?_)
      · skip
        have hen := zcn_end (wkX4 we kf af bf zf 0) dd (max (sf sl.toNat) (sf ot.toNat)) (by omega)
        refine lv_iload hx hb dX4_work_95 (lv_at hl 6 rfl) ?_
        refine lv_iload_n hx hb dX4_work_97 rfl (lv_at hl 5 rfl) ?_
        refine zw_icmp_ge (tgt := 107) hx hb dX4_work_98 (by decide) ⟨by omega, by omega⟩ ⟨by omega, by omega⟩ (fun h2 => ?_) (fun h2 => ?_)
        · skip
          refine lv_iload hx hb dX4_work_107 (lv_at hl 0 rfl) ?_
          have hP9 := hP.sub (ws' := [(h0, .inr (4, [.ref qs, .ref qr, .ref qm, .ref qw, .ref qt, .int (zi we)])), (qs, aI cI 10 sf), (qm, .inr (2, [.ref qk, .int (zi fj), .int (zi lj)])), (qk, aI cI 366 mg), (qr, .inr (0, [.int (zi mc), .ref qd, .int (zi 0)]))]) [0, 1, 2, 3, 4] rfl
          have hD9 := hD.sub (ws' := [(h0, .inr (4, [.ref qs, .ref qr, .ref qm, .ref qw, .ref qt, .int (zi we)])), (qs, aI cI 10 sf), (qm, .inr (2, [.ref qk, .int (zi fj), .int (zi lj)])), (qk, aI cI 366 mg), (qr, .inr (0, [.int (zi mc), .ref qd, .int (zi 0)]))]) [0, 1, 2, 3, 4] (by decide) rfl
          have hp9 : 0 ≤ fj ∧ fj ≤ 4000000 ∧ 0 ≤ lj ∧ lj ≤ 366 := by
            exact mkOk_b hi3
          exact W.iret (v := zi nn) hx hb hr (fun t ht hW => ⟨⟨zi nn, (fj, lj, mg), rfl, ⟨congrArg zi (by omega), hp9⟩, by rw [ht]; exact hP9, va_K.moved hW.alike hK, hD9⟩, hS.F ht⟩) hS.2.2 dX4_work_109
        · skip
          refine lv_iload hx hb dX4_work_101 (lv_at hl 0 rfl) ?_
          refine zw_ineg hx hb dX4_work_103 ?_
          refine lv_goto (tgt := 109) hx hb dX4_work_104 (by decide) ?_
          have hP9 := hP.sub (ws' := [(h0, .inr (4, [.ref qs, .ref qr, .ref qm, .ref qw, .ref qt, .int (zi we)])), (qs, aI cI 10 sf), (qm, .inr (2, [.ref qk, .int (zi fj), .int (zi lj)])), (qk, aI cI 366 mg), (qr, .inr (0, [.int (zi mc), .ref qd, .int (zi 0)]))]) [0, 1, 2, 3, 4] rfl
          have hD9 := hD.sub (ws' := [(h0, .inr (4, [.ref qs, .ref qr, .ref qm, .ref qw, .ref qt, .int (zi we)])), (qs, aI cI 10 sf), (qm, .inr (2, [.ref qk, .int (zi fj), .int (zi lj)])), (qk, aI cI 366 mg), (qr, .inr (0, [.int (zi mc), .ref qd, .int (zi 0)]))]) [0, 1, 2, 3, 4] (by decide) rfl
          have hp9 : 0 ≤ fj ∧ fj ≤ 4000000 ∧ 0 ≤ lj ∧ lj ≤ 366 := by
            exact mkOk_b hi3
          exact W.iret (v := zi (-nn)) hx hb hr (fun t ht hW => ⟨⟨zi (-nn), (fj, lj, mg), rfl, ⟨congrArg zi (by omega), hp9⟩, by rw [ht]; exact hP9, va_K.moved hW.alike hK, hD9⟩, hS.F ht⟩) hS.2.2 dX4_work_109
      · skip
        have hst := zcn_step (wkX4 we kf af bf zf 0) dd (max (sf sl.toNat) (sf ot.toNat)) (by omega)
        have hcb := zcn_b (wkX4 we kf af bf zf 0) ((max (sf sl.toNat) (sf ot.toNat)) - dd).toNat dd
        have hcc := zcn_b (wkX4 we kf af bf zf 0) ((max (sf sl.toNat) (sf ot.toNat)) - (dd + 1)).toNat (dd + 1)
        refine lv_aload_n hx hb dX4_work_77 rfl (lv_at hl 2 rfl) ?_
        refine lv_iload hx hb dX4_work_78 (lv_at hl 1 rfl) ?_
        have hh3 := c_Xz_isWorking l dC dI cI h0 qs qr qm qw qt we qk fj lj mg mc qd kf af bf zf dd H.size (by omega) (by omega) (by assumption)
        have hPc := hP.sub (ws' := [(h0, .inr (4, [.ref qs, .ref qr, .ref qm, .ref qw, .ref qt, .int (zi we)])), (qm, .inr (2, [.ref qk, .int (zi fj), .int (zi lj)])), (qk, aI cI 366 mg), (qr, .inr (0, [.int (zi mc), .ref qd, .int (zi 0)]))]) [0, 2, 3, 4] rfl
        have hKc : va_K (dC, dI) vwCl [(cI, .int)] s := hK
        have hDc := hD.sub (ws' := [(h0, .inr (4, [.ref qs, .ref qr, .ref qm, .ref qw, .ref qt, .int (zi we)])), (qm, .inr (2, [.ref qk, .int (zi fj), .int (zi lj)])), (qk, aI cI 366 mg), (qr, .inr (0, [.int (zi mc), .ref qd, .int (zi 0)]))]) [0, 2, 3, 4] (by decide) rfl
        have hFc := va_free (wc := [(h0, .inr (4, [.ref qs, .ref qr, .ref qm, .ref qw, .ref qt, .int (zi we)])), (qm, .inr (2, [.ref qk, .int (zi fj), .int (zi lj)])), (qk, aI cI 366 mg), (qr, .inr (0, [.int (zi mc), .ref qd, .int (zi 0)]))]) hD hS hA [0, 2, 3, 4] rfl
        refine va_calli (va_runV (As := [.int (zi dd)]) (rest := []) ⟨hx, hb, hml, hown, hts⟩ hh3 (cwV 1 hts gX4_work_X4_isWorking rfl rfl rfl (by decide +kernel) ⟨Nat.le_of_ble_eq_true rfl, Nat.le_of_ble_eq_true rfl⟩) ⟨zPw.blind _ _ _ _ _, va_recv hKc hPc (ci := 4) (q0 := 0) rfl rfl, fun U hU hW => ⟨rfl, by rw [hU], by rw [hU]; exact hPc, va_K.moved hW.alike hKc, hDc.weaken (fun _ _ _ _ => trivial)⟩⟩ rfl rfl hl.1 rfl (lv_room (Nat.le_of_ble_eq_true rfl)) dX4_work_80 ⟨Nat.le_of_ble_eq_true rfl, Nat.le_of_ble_eq_true rfl⟩) hS (fun q _ h => hFc q h) hFc (fun r3 u t H1 locs ht hvm hw hB hz1 hk1 hS => ?_)
        obtain ⟨fj_4, lj_4, mg_4⟩ := u
        obtain ⟨hw, hw3⟩ := hw
        replace hw3 : mkOk kf af bf zf 0 fj_4 lj_4 mg_4 := hw3
        obtain ⟨hP1, hK1, hD1⟩ := hB
        rw [ht] at hP1
        replace hP1 : va_P (dC, dI) vwCl [(h0, .inr (4, [.ref qs, .ref qr, .ref qm, .ref qw, .ref qt, .int (zi we)])), (qm, .inr (2, [.ref qk, .int (zi fj_4), .int (zi lj_4)])), (qk, aI cI 366 mg_4), (qr, .inr (0, [.int (zi mc), .ref qd, .int (zi 0)]))] H1 := hP1
        replace hD1 : va_D _ [(h0, .inr (4, [.ref qs, .ref qr, .ref qm, .ref qw, .ref qt, .int (zi we)])), (qm, .inr (2, [.ref qk, .int (zi fj_4), .int (zi lj_4)])), (qk, aI cI 366 mg_4), (qr, .inr (0, [.int (zi mc), .ref qd, .int (zi 0)]))] := hD1
        obtain ⟨hP, hD⟩ := va_join (wr := [(qs, aI cI 10 sf)]) (w1 := [(h0, .inr (4, [.ref qs, .ref qr, .ref qm, .ref qw, .ref qt, .int (zi we)])), (qm, .inr (2, [.ref qk, .int (zi fj_4), .int (zi lj_4)])), (qk, aI cI 366 mg_4), (qr, .inr (0, [.int (zi mc), .ref qd, .int (zi 0)]))]) hP hD [0, 2, 3, 4] [1] rfl rfl (by decide) (by decide) hk1 hFc hP1 hD1
        generalize H1 = H at hP hS ⊢
        obtain rfl : r3 = zi (wkX4 we kf af bf zf 0 dd) := hw
        have hP : va_P (dC, dI) vwCl [(qs, aI cI 10 sf), (h0, .inr (4, [.ref qs, .ref qr, .ref qm, .ref qw, .ref qt, .int (zi we)])), (qm, .inr (2, [.ref qk, .int (zi fj_4), .int (zi lj_4)])), (qk, aI cI 366 mg_4), (qr, .inr (0, [.int (zi mc), .ref qd, .int (zi 0)]))] H := hP
        have hD : va_D A [(qs, aI cI 10 sf), (h0, .inr (4, [.ref qs, .ref qr, .ref qm, .ref qw, .ref qt, .int (zi we)])), (qm, .inr (2, [.ref qk, .int (zi fj_4), .int (zi lj_4)])), (qk, aI cI 366 mg_4), (qr, .inr (0, [.int (zi mc), .ref qd, .int (zi 0)]))] := hD
        have hf3_0 := wkX4_s we kf af bf zf 0 dd
        refine zw_if_eq (tgt := 89) hx hb dX4_work_83 (by decide) ⟨by omega, by omega⟩ (fun h5 => ?_) (fun h5 => ?_)
        · skip
          obtain ⟨x6, ex6⟩ : ∃ z : Int, z = dd + 1 := ⟨_, rfl⟩
          refine zw_iinc (lv' := [(7, .int (zi x6)), (6, .int (zi nn)), (0, .ref h0), (1, .int (zi sl)), (2, .int (zi ot)), (3, .int (zi (sf sl.toNat))), (4, .int (zi (sf ot.toNat))), (5, .int (zi (max (sf sl.toNat) (sf ot.toNat))))]) (k := 1) hx hb ex6 dX4_work_89 hl rfl (by decide) rfl (fun ls hl => ?_)
          refine lv_goto (tgt := 70) hx hb dX4_work_92 (by decide) ?_
          first | have hmb := mkOk_b hi3 | skip
          subst ex6
          have hP9 := hP.sub (ws' := [(h0, .inr (4, [.ref qs, .ref qr, .ref qm, .ref qw, .ref qt, .int (zi we)])), (qs, aI cI 10 sf), (qm, .inr (2, [.ref qk, .int (zi fj_4), .int (zi lj_4)])), (qk, aI cI 366 mg_4), (qr, .inr (0, [.int (zi mc), .ref qd, .int (zi 0)]))]) [1, 0, 2, 3, 4] rfl
          have hD9 := hD.sub (ws' := [(h0, .inr (4, [.ref qs, .ref qr, .ref qm, .ref qw, .ref qt, .int (zi we)])), (qs, aI cI 10 sf), (qm, .inr (2, [.ref qk, .int (zi fj_4), .int (zi lj_4)])), (qk, aI cI 366 mg_4), (qr, .inr (0, [.int (zi mc), .ref qd, .int (zi 0)]))]) [1, 0, 2, 3, 4] (by decide) rfl
          exact ih nn (dd + 1) fj_4 lj_4 mg_4 (by omega) (by omega) (by omega) (by first | assumption | exact Or.inl ⟨by omega, by omega, rfl⟩) (by omega) ls _ _ (lv_sub hl [1, 0, 2, 3, 4, 5, 6, 7] rfl) hP9 hD9 hS
        · skip
          obtain ⟨x7, ex7⟩ : ∃ z : Int, z = nn + 1 := ⟨_, rfl⟩
          refine zw_iinc (lv' := [(6, .int (zi x7)), (7, .int (zi dd)), (0, .ref h0), (1, .int (zi sl)), (2, .int (zi ot)), (3, .int (zi (sf sl.toNat))), (4, .int (zi (sf ot.toNat))), (5, .int (zi (max (sf sl.toNat) (sf ot.toNat))))]) (k := 0) hx hb ex7 dX4_work_86 hl rfl (by decide) rfl (fun ls hl => ?_)
          obtain ⟨x8, ex8⟩ : ∃ z : Int, z = dd + 1 := ⟨_, rfl⟩
          refine zw_iinc (lv' := [(7, .int (zi x8)), (6, .int (zi x7)), (0, .ref h0), (1, .int (zi sl)), (2, .int (zi ot)), (3, .int (zi (sf sl.toNat))), (4, .int (zi (sf ot.toNat))), (5, .int (zi (max (sf sl.toNat) (sf ot.toNat))))]) (k := 1) hx hb ex8 dX4_work_89 hl rfl (by decide) rfl (fun ls hl => ?_)
          refine lv_goto (tgt := 70) hx hb dX4_work_92 (by decide) ?_
          first | have hmb := mkOk_b hi3 | skip
          subst ex7 ex8
          have hP9 := hP.sub (ws' := [(h0, .inr (4, [.ref qs, .ref qr, .ref qm, .ref qw, .ref qt, .int (zi we)])), (qs, aI cI 10 sf), (qm, .inr (2, [.ref qk, .int (zi fj_4), .int (zi lj_4)])), (qk, aI cI 366 mg_4), (qr, .inr (0, [.int (zi mc), .ref qd, .int (zi 0)]))]) [1, 0, 2, 3, 4] rfl
          have hD9 := hD.sub (ws' := [(h0, .inr (4, [.ref qs, .ref qr, .ref qm, .ref qw, .ref qt, .int (zi we)])), (qs, aI cI 10 sf), (qm, .inr (2, [.ref qk, .int (zi fj_4), .int (zi lj_4)])), (qk, aI cI 366 mg_4), (qr, .inr (0, [.int (zi mc), .ref qd, .int (zi 0)]))]) [1, 0, 2, 3, 4] (by decide) rfl
          exact ih (nn + 1) (dd + 1) fj_4 lj_4 mg_4 (by omega) (by omega) (by omega) (by first | assumption | exact Or.inl ⟨by omega, by omega, rfl⟩) (by omega) ls _ _ (lv_sub hl [1, 0, 2, 3, 4, 5, 6, 7] rfl) hP9 hD9 hS
  have hl := lv_entry ([.ref h0, .int (zi sl), .int (zi ot)]) (n := 8) (Nat.le_of_ble_eq_true rfl)
  rw [lg_entry_eq]
  generalize (lg_sl ([.ref h0, .int (zi sl), .int (zi ot)]) ++ List.replicate (8 - (lg_sl ([.ref h0, .int (zi sl), .int (zi ot)])).length) Slot.unset).toArray = ls at hl ⊢
  have hl : lv_has ls 8 [(0, .ref h0), (1, .int (zi sl)), (2, .int (zi ot))] := hl
  refine lv_iload_n hx hb dX4_work_0 rfl (lv_at hl 1 rfl) ?_
  have hh9 := c_X4_needSlot l sl (by omega)
  refine va_csv (va_Run.run (va_runS (As := [.int (zi sl)]) (rest := []) ⟨hx, hb, hml, hown, hts⟩ hh9 (va_cwS 1 hts gX4_work_X4_needSlot rfl rfl rfl (by decide +kernel) ⟨Nat.le_of_ble_eq_true rfl, Nat.le_of_ble_eq_true rfl⟩) ⟨fun a U g mk q => q, fun U hU hW => ⟨rfl, trivial⟩⟩ rfl rfl hl.1 rfl (lv_room (Nat.le_of_ble_eq_true rfl)) dX4_work_1 ⟨Nat.le_of_ble_eq_true rfl, Nat.le_of_ble_eq_true rfl⟩)) (fun _ => ?_)
  refine lv_iload_n hx hb dX4_work_4 rfl (lv_at hl 2 rfl) ?_
  have hh10 := c_X4_needSlot l ot (by omega)
  refine va_csv (va_Run.run (va_runS (As := [.int (zi ot)]) (rest := []) ⟨hx, hb, hml, hown, hts⟩ hh10 (va_cwS 1 hts gX4_work_X4_needSlot rfl rfl rfl (by decide +kernel) ⟨Nat.le_of_ble_eq_true rfl, Nat.le_of_ble_eq_true rfl⟩) ⟨fun a U g mk q => q, fun U hU hW => ⟨rfl, trivial⟩⟩ rfl rfl hl.1 rfl (lv_room (Nat.le_of_ble_eq_true rfl)) dX4_work_5 ⟨Nat.le_of_ble_eq_true rfl, Nat.le_of_ble_eq_true rfl⟩)) (fun _ => ?_)
  refine lv_aload_n hx hb dX4_work_8 rfl (lv_at hl 0 rfl) ?_
  refine lv_iload_n hx hb dX4_work_9 rfl (lv_at hl 1 rfl) ?_
  have hh11 := c_X4_dateIn l dC dI cI h0 qs qr qm qw qt we sf sl (by omega) (by omega)
  have hPc := hP.sub (ws' := [(h0, .inr (4, [.ref qs, .ref qr, .ref qm, .ref qw, .ref qt, .int (zi we)])), (qs, aI cI 10 sf)]) [0, 1] rfl
  have hKc : va_K (dC, dI) vwCl [(cI, .int)] s := hK
  refine vp_callSi (va_Run.run (va_runV (As := [.int (zi sl)]) (rest := []) ⟨hx, hb, hml, hown, hts⟩ hh11 (cwV 1 hts gX4_work_X4_dateIn rfl rfl rfl (by decide +kernel) ⟨Nat.le_of_ble_eq_true rfl, Nat.le_of_ble_eq_true rfl⟩) ⟨zPr.blind _ _ _ _, va_recv hKc hPc (ci := 4) (q0 := 0) rfl rfl, fun U hU hW => ⟨rfl, by rw [hU]; exact hPc, va_K.moved hW.alike hKc⟩⟩ rfl rfl hl.1 rfl (lv_room (Nat.le_of_ble_eq_true rfl)) dX4_work_10 ⟨Nat.le_of_ble_eq_true rfl, Nat.le_of_ble_eq_true rfl⟩)) (fun r11 (hr11 : r11 = zi (sf sl.toNat)) => ?_)
  subst hr11
  refine zw_top (fun x12 ex12 => ?_)
  refine lv_istore_n (lv' := [(3, .int (zi x12)), (0, .ref h0), (1, .int (zi sl)), (2, .int (zi ot))]) hx hb dX4_work_13 rfl hl (by decide) rfl (fun ls hl => ?_)
  refine lv_aload_n hx hb dX4_work_14 rfl (lv_at hl 1 rfl) ?_
  refine lv_iload_n hx hb dX4_work_15 rfl (lv_at hl 3 rfl) ?_
  have hh13 := c_X4_dateIn l dC dI cI h0 qs qr qm qw qt we sf ot (by omega) (by omega)
  have hPc := hP.sub (ws' := [(h0, .inr (4, [.ref qs, .ref qr, .ref qm, .ref qw, .ref qt, .int (zi we)])), (qs, aI cI 10 sf)]) [0, 1] rfl
  have hKc : va_K (dC, dI) vwCl [(cI, .int)] s := hK
  refine vp_callSi (va_Run.run (va_runV (As := [.int (zi ot)]) (rest := []) ⟨hx, hb, hml, hown, hts⟩ hh13 (cwV 1 hts gX4_work_X4_dateIn rfl rfl rfl (by decide +kernel) ⟨Nat.le_of_ble_eq_true rfl, Nat.le_of_ble_eq_true rfl⟩) ⟨zPr.blind _ _ _ _, va_recv hKc hPc (ci := 4) (q0 := 0) rfl rfl, fun U hU hW => ⟨rfl, by rw [hU]; exact hPc, va_K.moved hW.alike hKc⟩⟩ rfl rfl hl.1 rfl (lv_room (Nat.le_of_ble_eq_true rfl)) dX4_work_16 ⟨Nat.le_of_ble_eq_true rfl, Nat.le_of_ble_eq_true rfl⟩)) (fun r13 (hr13 : r13 = zi (sf ot.toNat)) => ?_)
  subst hr13
  refine zw_top (fun x14 ex14 => ?_)
  refine lv_istore (lv' := [(4, .int (zi x14)), (3, .int (zi x12)), (0, .ref h0), (1, .int (zi sl)), (2, .int (zi ot))]) hx hb dX4_work_19 hl (by decide) rfl (fun ls hl => ?_)
  refine lv_iload hx hb dX4_work_21 (lv_at hl 0 rfl) ?_
  refine lv_iload_n hx hb dX4_work_23 rfl (lv_at hl 1 rfl) ?_
  refine zw_isub hx hb dX4_work_24 ?_
  refine zw_abs hx hb (hml.trans hl.1.symm) hown (hts (.methodLink RX4 164 Lib.Math.abs.name) (by decide +kernel)) (hts (.static Lib.Math.abs.name) (by decide +kernel)) (hts (.initialized "java/lang/Math") (by decide +kernel)) (hts _ (by decide +kernel)) (Nat.le_of_ble_eq_true rfl) (Nat.le_of_ble_eq_true rfl) (Nat.le_of_ble_eq_true rfl) (Nat.le_of_ble_eq_true rfl) dX4_work_25 ⟨by omega, by omega⟩ ?_
  refine zw_sipush hx hb dX4_work_28 (by decide) ?_
  refine zw_icmp_le (tgt := 44) hx hb dX4_work_31 (by decide) ⟨by omega, by omega⟩ ⟨by omega, by omega⟩ (fun h15 => ?_) (fun h15 => ?_)
  · skip
    refine lv_iload_n hx hb dX4_work_44 rfl (lv_at hl 1 rfl) ?_
    refine lv_iload hx hb dX4_work_45 (lv_at hl 0 rfl) ?_
    refine zw_max hx hb (hml.trans hl.1.symm) hown (hts (.methodLink RX4 171 Lib.Math.max.name) (by decide +kernel)) (hts (.static Lib.Math.max.name) (by decide +kernel)) (hts (.initialized "java/lang/Math") (by decide +kernel)) (hts _ (by decide +kernel)) (Nat.le_of_ble_eq_true rfl) (Nat.le_of_ble_eq_true rfl) (Nat.le_of_ble_eq_true rfl) (Nat.le_of_ble_eq_true rfl) dX4_work_47 ⟨by omega, by omega⟩ ⟨by omega, by omega⟩ ?_
    refine zw_top (fun x16 ex16 => ?_)
    refine lv_istore (lv' := [(5, .int (zi x16)), (4, .int (zi x14)), (3, .int (zi x12)), (0, .ref h0), (1, .int (zi sl)), (2, .int (zi ot))]) hx hb dX4_work_50 hl (by decide) rfl (fun ls hl => ?_)
    refine zw_iconst hx hb dX4_work_52 ?_
    refine lv_istore (lv' := [(6, .int (zi 0)), (5, .int (zi x16)), (4, .int (zi x14)), (3, .int (zi x12)), (0, .ref h0), (1, .int (zi sl)), (2, .int (zi ot))]) hx hb dX4_work_53 hl (by decide) rfl (fun ls hl => ?_)
    refine lv_aload_n hx hb dX4_work_55 rfl (lv_at hl 4 rfl) ?_
    refine va_get (D := (dC, dI)) (ci := 4) (v := .ref qm) (C := RX4) (T := TX4) (N := 6) hx hb hts (by decide +kernel) hown hK hP 0 rfl rfl 2 (by decide) (hts (.fieldLink RX4 23 "CivilDays" "marked" "LCivilDays$MarkedYear;") (by decide +kernel)) (fun _ h9 => h9) rfl dX4_work_56 ?_
    have hh17 := c_X2_forget l dC dI cI qm qk fi ln mf s.heap.size 
    have hPc := hP.sub (ws' := [(qm, .inr (2, [.ref qk, .int (zi fi), .int (zi ln)])), (qk, aI cI 366 mf)]) [2, 3] rfl
    have hKc : va_K (dC, dI) vwCl [(cI, .int)] s := hK
    have hDc := hD.sub (ws' := [(qm, .inr (2, [.ref qk, .int (zi fi), .int (zi ln)])), (qk, aI cI 366 mf)]) [2, 3] (by decide) rfl
    have hFc := va_free (wc := [(qm, .inr (2, [.ref qk, .int (zi fi), .int (zi ln)])), (qk, aI cI 366 mf)]) hD hS hA [2, 3] rfl
    refine va_callv (va_runV (As := []) (rest := []) ⟨hx, hb, hml, hown, hts⟩ hh17 (cwV 0 hts gX4_work_X2_forget rfl rfl rfl (by decide +kernel) ⟨Nat.le_of_ble_eq_true rfl, Nat.le_of_ble_eq_true rfl⟩) ⟨zPw.blind _ _ _ _ _, va_recv hKc hPc (ci := 2) (q0 := 0) rfl rfl, fun U hU hW => ⟨rfl, by rw [hU], by rw [hU]; exact hPc, va_K.moved hW.alike hKc, hDc.weaken (fun _ _ _ _ => trivial)⟩⟩ rfl rfl hl.1 rfl (lv_room (Nat.le_of_ble_eq_true rfl)) dX4_work_59 ⟨Nat.le_of_ble_eq_true rfl, Nat.le_of_ble_eq_true rfl⟩) hS (fun q _ h => hFc q h) hFc (fun u t H1 locs ht hvm hw hB hz1 hk1 hS => ?_)
    obtain ⟨hP1, hK1, hD1⟩ := hB
    rw [ht] at hP1
    obtain ⟨hP, hD⟩ := va_join (wr := [(h0, .inr (4, [.ref qs, .ref qr, .ref qm, .ref qw, .ref qt, .int (zi we)])), (qs, aI cI 10 sf), (qr, .inr (0, [.int (zi mc), .ref qd, .int (zi 0)]))]) (w1 := [(qm, .inr (2, [.ref qk, .int (zi fi), .int (zi 0)])), (qk, aI cI 366 mf)]) hP hD [2, 3] [0, 1, 4] rfl rfl (by decide) (by decide) hk1 hFc hP1 hD1
    generalize H1 = H at hP hS ⊢
    have hP : va_P (dC, dI) vwCl [(h0, .inr (4, [.ref qs, .ref qr, .ref qm, .ref qw, .ref qt, .int (zi we)])), (qs, aI cI 10 sf), (qr, .inr (0, [.int (zi mc), .ref qd, .int (zi 0)])), (qm, .inr (2, [.ref qk, .int (zi fi), .int (zi 0)])), (qk, aI cI 366 mf)] H := hP
    have hD : va_D A [(h0, .inr (4, [.ref qs, .ref qr, .ref qm, .ref qw, .ref qt, .int (zi we)])), (qs, aI cI 10 sf), (qr, .inr (0, [.int (zi mc), .ref qd, .int (zi 0)])), (qm, .inr (2, [.ref qk, .int (zi fi), .int (zi 0)])), (qk, aI cI 366 mf)] := hD
    refine lv_iload_n hx hb dX4_work_62 rfl (lv_at hl 3 rfl) ?_
    refine lv_iload hx hb dX4_work_63 (lv_at hl 2 rfl) ?_
    refine zw_min hx hb (hml.trans hl.1.symm) hown (hts (.methodLink RX4 177 Lib.Math.min.name) (by decide +kernel)) (hts (.static Lib.Math.min.name) (by decide +kernel)) (hts (.initialized "java/lang/Math") (by decide +kernel)) (hts _ (by decide +kernel)) (Nat.le_of_ble_eq_true rfl) (Nat.le_of_ble_eq_true rfl) (Nat.le_of_ble_eq_true rfl) (Nat.le_of_ble_eq_true rfl) dX4_work_65 ⟨by omega, by omega⟩ ⟨by omega, by omega⟩ ?_
    refine zw_top (fun x18 ex18 => ?_)
    refine lv_istore (lv' := [(7, .int (zi x18)), (6, .int (zi 0)), (5, .int (zi x16)), (4, .int (zi x14)), (3, .int (zi x12)), (0, .ref h0), (1, .int (zi sl)), (2, .int (zi ot))]) hx hb dX4_work_68 hl (by decide) rfl (fun ls hl => ?_)
    first | have hmb := mkOk_b hi3 | skip
    subst ex12 ex14 ex16 ex18
    have hP9 := hP.sub (ws' := [(h0, .inr (4, [.ref qs, .ref qr, .ref qm, .ref qw, .ref qt, .int (zi we)])), (qs, aI cI 10 sf), (qm, .inr (2, [.ref qk, .int (zi fi), .int (zi 0)])), (qk, aI cI 366 mf), (qr, .inr (0, [.int (zi mc), .ref qd, .int (zi 0)]))]) [0, 1, 3, 4, 2] rfl
    have hD9 := hD.sub (ws' := [(h0, .inr (4, [.ref qs, .ref qr, .ref qm, .ref qw, .ref qt, .int (zi we)])), (qs, aI cI 10 sf), (qm, .inr (2, [.ref qk, .int (zi fi), .int (zi 0)])), (qk, aI cI 366 mf), (qr, .inr (0, [.int (zi mc), .ref qd, .int (zi 0)]))]) [0, 1, 3, 4, 2] (by decide) rfl
    exact loop70 (4001) 0 (min (sf sl.toNat) (sf ot.toNat)) fi 0 mf (by omega) (by omega) (by omega) (by first | assumption | exact Or.inl ⟨by omega, by omega, rfl⟩) (by omega) ls _ _ (lv_sub hl [1, 0, 5, 6, 7, 4, 3, 2] rfl) hP9 hD9 hS
  · skip
    exact absurd True.intro (by omega)

set_option maxHeartbeats 4000000 in
set_option maxRecDepth 100000 in
theorem c_Xz_moveWork_p (l : Launch)  (dC : Nat → ClassId) (dI : Nat → Nat → Nat) (cI : ClassId) (h0 : Nat) (qs : Nat) (qr : Nat) (qm : Nat) (qw : Nat) (qt : Nat) (we : Int) (sf : Nat → Int) (qk : Nat) (fi : Int) (ln : Int) (mf : Nat → Int) (mc : Int) (qd : Nat) (kf : Nat → Int) (af : Nat → Int) (bf : Nat → Int) (zf : Nat → Int) (fz : Nat) (rr : Int) (sl : Int) (many : Int) (sz : Nat) (hp0 : 0 ≤ sl ∧ sl ≤ 9) (hp1 : 0 ≤ (sf sl.toNat) ∧ (sf sl.toNat) ≤ 3652058) (hp2 : 0 ≤ we ∧ we ≤ 127) (hp3 : 0 ≤ fi ∧ fi ≤ 4000000 ∧ 0 ≤ ln ∧ ln ≤ 366) (hp4 : -1000 ≤ many ∧ many ≤ 1000 ∧ 0 ≤ many) (hp5 : 4000000 ≤ fz) (hp6 : zmv (wkX4 we kf af bf zf 0) 1 fz (sf sl.toNat) many = rr) (hp7 : 0 ≤ rr ∧ rr ≤ 3652058) : Met l yX4_moveWork wsX4_moveWork ({ frames := 4, cells := 0, slots := 0, locals := 85 }) (zPw (dC, dI) [(cI, .int)] sz [.ref h0, .int (zi sl), .int (zi many)] [(h0, .inr (4, [.ref qs, .ref qr, .ref qm, .ref qw, .ref qt, .int (zi we)])), (qs, aI cI 10 sf), (qm, .inr (2, [.ref qk, .int (zi fi), .int (zi ln)])), (qk, aI cI 366 mf), (qr, .inr (0, [.int (zi mc), .ref qd, .int (zi 0)]))]) (va_Qi (fun (r : Int32) (u : (Int) × (Int) × (Nat → Int) × (Nat → Int)) => r = zi rr ∧ ((0 ≤ u.1 ∧ u.1 ≤ 4000000 ∧ 0 ≤ u.2.1 ∧ u.2.1 ≤ 366) ∧ u.2.2.2 = zup sf sl.toNat rr)) (fun (u : (Int) × (Int) × (Nat → Int) × (Nat → Int)) => zB (dC, dI) [(cI, .int)] (va_A [(h0, .inr (4, [.ref qs, .ref qr, .ref qm, .ref qw, .ref qt, .int (zi we)])), (qs, aI cI 10 sf), (qm, .inr (2, [.ref qk, .int (zi fi), .int (zi ln)])), (qk, aI cI 366 mf), (qr, .inr (0, [.int (zi mc), .ref qd, .int (zi 0)]))] sz) [(h0, .inr (4, [.ref qs, .ref qr, .ref qm, .ref qw, .ref qt, .int (zi we)])), (qs, aI cI 10 u.2.2.2), (qm, .inr (2, [.ref qk, .int (zi u.1), .int (zi u.2.1)])), (qk, aI cI 366 u.2.2.1), (qr, .inr (0, [.int (zi mc), .ref qd, .int (zi 0)]))] ()) (va_A [(h0, .inr (4, [.ref qs, .ref qr, .ref qm, .ref qw, .ref qt, .int (zi we)])), (qs, aI cI 10 sf), (qm, .inr (2, [.ref qk, .int (zi fi), .int (zi ln)])), (qk, aI cI 366 mf), (qr, .inr (0, [.int (zi mc), .ref qd, .int (zi 0)]))] sz)) 0 0 (va_A [(h0, .inr (4, [.ref qs, .ref qr, .ref qm, .ref qw, .ref qt, .int (zi we)])), (qs, aI cI 10 sf), (qm, .inr (2, [.ref qk, .int (zi fi), .int (zi ln)])), (qk, aI cI 366 mf), (qr, .inr (0, [.int (zi mc), .ref qd, .int (zi 0)]))] sz) := by
  refine Met.ofW (cc := cX4_moveWork) (maxL := 6) (ret := (some .int)) (by decide) rfl ?_
  intro p e s m args below meth c s₁ B hml hv
  obtain ⟨rfl, hsz, hP, hK, hD0⟩ := hv
  have hx := B.exec
  have hb := B.bytes
  have hr := B.returns
  have hts := atoms_spec (ws := wsX4_moveWork) B.pre
  have hown : s.vm.findClass RX4 = some m.cls := findClass_of_methodNamed B.named
  have hlocks := B.notSynchronized
  subst hsz
  have hD := hD0.self (sz := s.heap.size)
  generalize hAe : va_A [(h0, .inr (4, [.ref qs, .ref qr, .ref qm, .ref qw, .ref qt, .int (zi we)])), (qs, aI cI 10 sf), (qm, .inr (2, [.ref qk, .int (zi fi), .int (zi ln)])), (qk, aI cI 366 mf), (qr, .inr (0, [.int (zi mc), .ref qd, .int (zi 0)]))] s.heap.size = A at hD ⊢
  have hA : ∀ q : Nat, s.heap.size ≤ q → A q := fun q h => by rw [← hAe]; exact Or.inr h
  have hS : va_S A s.heap s.heap [] := va_S.rf
  have hP : va_P (dC, dI) vwCl [(h0, .inr (4, [.ref qs, .ref qr, .ref qm, .ref qw, .ref qt, .int (zi we)])), (qs, aI cI 10 sf), (qm, .inr (2, [.ref qk, .int (zi fi), .int (zi ln)])), (qk, aI cI 366 mf), (qr, .inr (0, [.int (zi mc), .ref qd, .int (zi 0)]))] s.heap := hP
  have loop58 : ∀ (fu : Nat) (nn : Int) (lft : Int) (fj : Int) (lj : Int) (mg : Nat → Int), (zmv (wkX4 we kf af bf zf 0) 1 fu nn lft = rr) → (0 ≤ nn ∧ nn ≤ 3652058 ∧ 0 ≤ lft ∧ lft ≤ 1000) → (mkOk kf af bf zf 0 fj lj mg) → (3652060 - nn < fu) → ∀ (ls : Array Slot) (H : Heap) (locs : List Loc), lv_has ls 6 [(3, .int (zi nn)), (5, .int (zi lft)), (0, .ref h0), (1, .int (zi sl)), (2, .int (zi many)), (4, .int (zi 1))] → va_P (dC, dI) vwCl [(h0, .inr (4, [.ref qs, .ref qr, .ref qm, .ref qw, .ref qt, .int (zi we)])), (qs, aI cI 10 sf), (qm, .inr (2, [.ref qk, .int (zi fj), .int (zi lj)])), (qk, aI cI 366 mg), (qr, .inr (0, [.int (zi mc), .ref qd, .int (zi 0)]))] H → va_D A [(h0, .inr (4, [.ref qs, .ref qr, .ref qm, .ref qw, .ref qt, .int (zi we)])), (qs, aI cI 10 sf), (qm, .inr (2, [.ref qk, .int (zi fj), .int (zi lj)])), (qk, aI cI 366 mg), (qr, .inr (0, [.int (zi mc), .ref qd, .int (zi 0)]))] → va_S A s.heap H locs → W p l e (headSpec wsX4_moveWork ({ frames := 4, cells := 0, slots := 0, locals := 85 })).room s m ([.ref h0, .int (zi sl), .int (zi many)] : List Value).toArray below meth c H locs 0 0 (MQ below (va_Qi (fun (r : Int32) (u : (Int) × (Int) × (Nat → Int) × (Nat → Int)) => r = zi rr ∧ ((0 ≤ u.1 ∧ u.1 ≤ 4000000 ∧ 0 ≤ u.2.1 ∧ u.2.1 ≤ 366) ∧ u.2.2.2 = zup sf sl.toNat rr)) (fun (u : (Int) × (Int) × (Nat → Int) × (Nat → Int)) => zB (dC, dI) [(cI, .int)] A [(h0, .inr (4, [.ref qs, .ref qr, .ref qm, .ref qw, .ref qt, .int (zi we)])), (qs, aI cI 10 u.2.2.2), (qm, .inr (2, [.ref qk, .int (zi u.1), .int (zi u.2.1)])), (qk, aI cI 366 u.2.2.1), (qr, .inr (0, [.int (zi mc), .ref qd, .int (zi 0)]))] ()) A) ([.ref h0, .int (zi sl), .int (zi many)] : List Value).toArray s 0 0 A) (F0 m 58 ls []) := by
    intro fu
    induction fu with
    | zero =>
      intro nn lft fj lj mg hi0 hi1 hi2 hfu ls H locs hl hP hD hS
      exact absurd hfu (by omega)
    | succ fu ih =>
      intro nn lft fj lj mg hi0 hi1 hi2 hfu ls H locs hl hP hD hS
      have hP : va_P (dC, dI) vwCl [(h0, .inr (4, [.ref qs, .ref qr, .ref qm, .ref qw, .ref qt, .int (zi we)])), (qs, aI cI 10 sf), (qm, .inr (2, [.ref qk, .int (zi fj), .int (zi lj)])), (qk, aI cI 366 mg), (qr, .inr (0, [.int (zi mc), .ref qd, .int (zi 0)]))] H := hP
      have hD : va_D A [(h0, .inr (4, [.ref qs, .ref qr, .ref qm, .ref qw, .ref qt, .int (zi we)])), (qs, aI cI 10 sf), (qm, .inr (2, [.ref qk, .int (zi fj), .int (zi lj)])), (qk, aI cI 366 mg), (qr, .inr (0, [.int (zi mc), .ref qd, .int (zi 0)]))] := hD
      first | have hmb := mkOk_b hi2 | skip
      refine lv_iload hx hb dX4_moveWork_58 (lv_at hl 1 rfl) ?_
      refine zw_if_le (tgt := 93) hx hb dX4_moveWork_60 (by decide) ⟨by omega, by omega⟩ (fun h1 => ?_) (fun h1 => ?_)
      · skip
        first | have hz := zmv_0 (wkX4 we kf af bf zf 0) 1 fu nn lft (by omega) | have hz := zmv_x (wkX4 we kf af bf zf 0) 1 fu nn lft (by omega) (by omega)
        refine lv_iload hx hb dX4_moveWork_93 (lv_at hl 1 rfl) ?_
        refine zw_if_le (tgt := 108) hx hb dX4_moveWork_95 (by decide) ⟨by omega, by omega⟩ (fun h2 => ?_) (fun h2 => ?_)
        · skip
          refine lv_aload_n hx hb dX4_moveWork_108 rfl (lv_at hl 2 rfl) ?_
          refine lv_iload_n hx hb dX4_moveWork_109 rfl (lv_at hl 3 rfl) ?_
          refine lv_iload_n hx hb dX4_moveWork_110 rfl (lv_at hl 0 rfl) ?_
          have hh3 := c_X4_keep l dC dI cI h0 qs qr qm qw qt we sf sl nn H.size (by omega) (by omega) (by omega)
          have hPc := hP.sub (ws' := [(h0, .inr (4, [.ref qs, .ref qr, .ref qm, .ref qw, .ref qt, .int (zi we)])), (qs, aI cI 10 sf)]) [0, 1] rfl
          have hKc : va_K (dC, dI) vwCl [(cI, .int)] s := hK
          have hDc := hD.sub (ws' := [(h0, .inr (4, [.ref qs, .ref qr, .ref qm, .ref qw, .ref qt, .int (zi we)])), (qs, aI cI 10 sf)]) [0, 1] (by decide) rfl
          have hFc := va_free (wc := [(h0, .inr (4, [.ref qs, .ref qr, .ref qm, .ref qw, .ref qt, .int (zi we)])), (qs, aI cI 10 sf)]) hD hS hA [0, 1] rfl
          refine va_calli (va_runV (As := [.int (zi sl), .int (zi nn)]) (rest := []) ⟨hx, hb, hml, hown, hts⟩ hh3 (cwV 2 hts gX4_moveWork_X4_keep rfl rfl rfl (by decide +kernel) ⟨Nat.le_of_ble_eq_true rfl, Nat.le_of_ble_eq_true rfl⟩) ⟨zPw.blind _ _ _ _ _, va_recv hKc hPc (ci := 4) (q0 := 0) rfl rfl, fun U hU hW => ⟨rfl, by rw [hU], by rw [hU]; exact hPc, va_K.moved hW.alike hKc, hDc.weaken (fun _ _ _ _ => trivial)⟩⟩ rfl rfl hl.1 rfl (lv_room (Nat.le_of_ble_eq_true rfl)) dX4_moveWork_111 ⟨Nat.le_of_ble_eq_true rfl, Nat.le_of_ble_eq_true rfl⟩) hS (fun q _ h => hFc q h) hFc (fun r3 u t H1 locs ht hvm hw hB hz1 hk1 hS => ?_)
          obtain ⟨hP1, hK1, hD1⟩ := hB
          rw [ht] at hP1
          obtain ⟨hP, hD⟩ := va_join (wr := [(qm, .inr (2, [.ref qk, .int (zi fj), .int (zi lj)])), (qk, aI cI 366 mg), (qr, .inr (0, [.int (zi mc), .ref qd, .int (zi 0)]))]) (w1 := [(h0, .inr (4, [.ref qs, .ref qr, .ref qm, .ref qw, .ref qt, .int (zi we)])), (qs, aI cI 10 (zup sf sl.toNat nn))]) hP hD [0, 1] [2, 3, 4] rfl rfl (by decide) (by decide) hk1 hFc hP1 hD1
          generalize H1 = H at hP hS ⊢
          obtain rfl : r3 = zi nn := hw
          have hP : va_P (dC, dI) vwCl [(qm, .inr (2, [.ref qk, .int (zi fj), .int (zi lj)])), (qk, aI cI 366 mg), (qr, .inr (0, [.int (zi mc), .ref qd, .int (zi 0)])), (h0, .inr (4, [.ref qs, .ref qr, .ref qm, .ref qw, .ref qt, .int (zi we)])), (qs, aI cI 10 (zup sf sl.toNat nn))] H := hP
          have hD : va_D A [(qm, .inr (2, [.ref qk, .int (zi fj), .int (zi lj)])), (qk, aI cI 366 mg), (qr, .inr (0, [.int (zi mc), .ref qd, .int (zi 0)])), (h0, .inr (4, [.ref qs, .ref qr, .ref qm, .ref qw, .ref qt, .int (zi we)])), (qs, aI cI 10 (zup sf sl.toNat nn))] := hD
          have hP9 := hP.sub (ws' := [(h0, .inr (4, [.ref qs, .ref qr, .ref qm, .ref qw, .ref qt, .int (zi we)])), (qs, aI cI 10 (zup sf sl.toNat nn)), (qm, .inr (2, [.ref qk, .int (zi fj), .int (zi lj)])), (qk, aI cI 366 mg), (qr, .inr (0, [.int (zi mc), .ref qd, .int (zi 0)]))]) [3, 4, 0, 1, 2] rfl
          have hD9 := hD.sub (ws' := [(h0, .inr (4, [.ref qs, .ref qr, .ref qm, .ref qw, .ref qt, .int (zi we)])), (qs, aI cI 10 (zup sf sl.toNat nn)), (qm, .inr (2, [.ref qk, .int (zi fj), .int (zi lj)])), (qk, aI cI 366 mg), (qr, .inr (0, [.int (zi mc), .ref qd, .int (zi 0)]))]) [3, 4, 0, 1, 2] (by decide) rfl
          have hp9 : (0 ≤ fj ∧ fj ≤ 4000000 ∧ 0 ≤ lj ∧ lj ≤ 366) ∧ (zup sf sl.toNat nn) = zup sf sl.toNat rr := by
            exact ⟨mkOk_b hi2, by rw [show nn = rr from by omega]⟩
          exact W.iret (v := zi nn) hx hb hr (fun t ht hW => ⟨⟨zi nn, (fj, lj, mg, (zup sf sl.toNat nn)), rfl, ⟨congrArg zi (by omega), hp9⟩, by rw [ht]; exact hP9, va_K.moved hW.alike hK, hD9⟩, hS.F ht⟩) hS.2.2 dX4_moveWork_114
        · skip
          exact absurd True.intro (by omega)
      · skip
        refine lv_iload_n hx hb dX4_moveWork_63 rfl (lv_at hl 0 rfl) ?_
        refine lv_iload hx hb dX4_moveWork_64 (lv_at hl 5 rfl) ?_
        refine zw_iadd hx hb dX4_moveWork_66 ?_
        refine zw_i2l hx hb dX4_moveWork_67 ⟨by omega, by omega⟩ ?_
        have hh4 := c_X0_isNumber l (nn + 1) (by omega)
        refine vp_callSi (va_Run.run (va_runS (As := [.long (zl (nn + 1))]) (rest := []) ⟨hx, hb, hml, hown, hts⟩ hh4 (va_cwS 1 hts gX4_moveWork_X0_isNumber rfl rfl rfl (by decide +kernel) ⟨Nat.le_of_ble_eq_true rfl, Nat.le_of_ble_eq_true rfl⟩) ⟨fun a U g mk q => q, fun U hU hW => ⟨rfl, trivial⟩⟩ rfl rfl hl.1 rfl (lv_room (Nat.le_of_ble_eq_true rfl)) dX4_moveWork_68 ⟨Nat.zero_le _, Nat.zero_le _⟩)) (fun r4 (hr4 : r4 = zi (f_X0_isNumber (nn + 1))) => ?_)
        subst hr4
        have hf4 := b_X0_isNumber (nn + 1) (by omega)
        refine zw_if_eq (tgt := 93) hx hb dX4_moveWork_71 (by decide) ⟨by omega, by omega⟩ (fun h5 => ?_) (fun h5 => ?_)
        · skip
          first | have hz := zmv_0 (wkX4 we kf af bf zf 0) 1 fu nn lft (by omega) | have hz := zmv_x (wkX4 we kf af bf zf 0) 1 fu nn lft (by omega) (by omega)
          refine lv_iload hx hb dX4_moveWork_93 (lv_at hl 1 rfl) ?_
          refine zw_if_le (tgt := 108) hx hb dX4_moveWork_95 (by decide) ⟨by omega, by omega⟩ (fun h6 => ?_) (fun h6 => ?_)
          · skip
            refine lv_aload_n hx hb dX4_moveWork_108 rfl (lv_at hl 2 rfl) ?_
            refine lv_iload_n hx hb dX4_moveWork_109 rfl (lv_at hl 3 rfl) ?_
            refine lv_iload_n hx hb dX4_moveWork_110 rfl (lv_at hl 0 rfl) ?_
            have hh7 := c_X4_keep l dC dI cI h0 qs qr qm qw qt we sf sl nn H.size (by omega) (by omega) (by omega)
            have hPc := hP.sub (ws' := [(h0, .inr (4, [.ref qs, .ref qr, .ref qm, .ref qw, .ref qt, .int (zi we)])), (qs, aI cI 10 sf)]) [0, 1] rfl
            have hKc : va_K (dC, dI) vwCl [(cI, .int)] s := hK
            have hDc := hD.sub (ws' := [(h0, .inr (4, [.ref qs, .ref qr, .ref qm, .ref qw, .ref qt, .int (zi we)])), (qs, aI cI 10 sf)]) [0, 1] (by decide) rfl
            have hFc := va_free (wc := [(h0, .inr (4, [.ref qs, .ref qr, .ref qm, .ref qw, .ref qt, .int (zi we)])), (qs, aI cI 10 sf)]) hD hS hA [0, 1] rfl
            refine va_calli (va_runV (As := [.int (zi sl), .int (zi nn)]) (rest := []) ⟨hx, hb, hml, hown, hts⟩ hh7 (cwV 2 hts gX4_moveWork_X4_keep rfl rfl rfl (by decide +kernel) ⟨Nat.le_of_ble_eq_true rfl, Nat.le_of_ble_eq_true rfl⟩) ⟨zPw.blind _ _ _ _ _, va_recv hKc hPc (ci := 4) (q0 := 0) rfl rfl, fun U hU hW => ⟨rfl, by rw [hU], by rw [hU]; exact hPc, va_K.moved hW.alike hKc, hDc.weaken (fun _ _ _ _ => trivial)⟩⟩ rfl rfl hl.1 rfl (lv_room (Nat.le_of_ble_eq_true rfl)) dX4_moveWork_111 ⟨Nat.le_of_ble_eq_true rfl, Nat.le_of_ble_eq_true rfl⟩) hS (fun q _ h => hFc q h) hFc (fun r7 u t H1 locs ht hvm hw hB hz1 hk1 hS => ?_)
            obtain ⟨hP1, hK1, hD1⟩ := hB
            rw [ht] at hP1
            obtain ⟨hP, hD⟩ := va_join (wr := [(qm, .inr (2, [.ref qk, .int (zi fj), .int (zi lj)])), (qk, aI cI 366 mg), (qr, .inr (0, [.int (zi mc), .ref qd, .int (zi 0)]))]) (w1 := [(h0, .inr (4, [.ref qs, .ref qr, .ref qm, .ref qw, .ref qt, .int (zi we)])), (qs, aI cI 10 (zup sf sl.toNat nn))]) hP hD [0, 1] [2, 3, 4] rfl rfl (by decide) (by decide) hk1 hFc hP1 hD1
            generalize H1 = H at hP hS ⊢
            obtain rfl : r7 = zi nn := hw
            have hP : va_P (dC, dI) vwCl [(qm, .inr (2, [.ref qk, .int (zi fj), .int (zi lj)])), (qk, aI cI 366 mg), (qr, .inr (0, [.int (zi mc), .ref qd, .int (zi 0)])), (h0, .inr (4, [.ref qs, .ref qr, .ref qm, .ref qw, .ref qt, .int (zi we)])), (qs, aI cI 10 (zup sf sl.toNat nn))] H := hP
            have hD : va_D A [(qm, .inr (2, [.ref qk, .int (zi fj), .int (zi lj)])), (qk, aI cI 366 mg), (qr, .inr (0, [.int (zi mc), .ref qd, .int (zi 0)])), (h0, .inr (4, [.ref qs, .ref qr, .ref qm, .ref qw, .ref qt, .int (zi we)])), (qs, aI cI 10 (zup sf sl.toNat nn))] := hD
            have hP9 := hP.sub (ws' := [(h0, .inr (4, [.ref qs, .ref qr, .ref qm, .ref qw, .ref qt, .int (zi we)])), (qs, aI cI 10 (zup sf sl.toNat nn)), (qm, .inr (2, [.ref qk, .int (zi fj), .int (zi lj)])), (qk, aI cI 366 mg), (qr, .inr (0, [.int (zi mc), .ref qd, .int (zi 0)]))]) [3, 4, 0, 1, 2] rfl
            have hD9 := hD.sub (ws' := [(h0, .inr (4, [.ref qs, .ref qr, .ref qm, .ref qw, .ref qt, .int (zi we)])), (qs, aI cI 10 (zup sf sl.toNat nn)), (qm, .inr (2, [.ref qk, .int (zi fj), .int (zi lj)])), (qk, aI cI 366 mg), (qr, .inr (0, [.int (zi mc), .ref qd, .int (zi 0)]))]) [3, 4, 0, 1, 2] (by decide) rfl
            have hp9 : (0 ≤ fj ∧ fj ≤ 4000000 ∧ 0 ≤ lj ∧ lj ≤ 366) ∧ (zup sf sl.toNat nn) = zup sf sl.toNat rr := by
              exact ⟨mkOk_b hi2, by rw [show nn = rr from by omega]⟩
            exact W.iret (v := zi nn) hx hb hr (fun t ht hW => ⟨⟨zi nn, (fj, lj, mg, (zup sf sl.toNat nn)), rfl, ⟨congrArg zi (by omega), hp9⟩, by rw [ht]; exact hP9, va_K.moved hW.alike hK, hD9⟩, hS.F ht⟩) hS.2.2 dX4_moveWork_114
          · skip
            exact absurd True.intro (by omega)
        · skip
          refine lv_iload_n hx hb dX4_moveWork_74 rfl (lv_at hl 0 rfl) ?_
          refine lv_iload hx hb dX4_moveWork_75 (lv_at hl 5 rfl) ?_
          refine zw_iadd hx hb dX4_moveWork_77 ?_
          refine zw_top (fun x8 ex8 => ?_)
          refine lv_istore_n (lv' := [(3, .int (zi x8)), (5, .int (zi lft)), (0, .ref h0), (1, .int (zi sl)), (2, .int (zi many)), (4, .int (zi 1))]) hx hb dX4_moveWork_78 rfl hl (by decide) rfl (fun ls hl => ?_)
          refine lv_aload_n hx hb dX4_moveWork_79 rfl (lv_at hl 2 rfl) ?_
          refine lv_iload_n hx hb dX4_moveWork_80 rfl (lv_at hl 0 rfl) ?_
          have hh9 := c_Xz_isWorking l dC dI cI h0 qs qr qm qw qt we qk fj lj mg mc qd kf af bf zf x8 H.size (by omega) (by omega) (by assumption)
          have hPc := hP.sub (ws' := [(h0, .inr (4, [.ref qs, .ref qr, .ref qm, .ref qw, .ref qt, .int (zi we)])), (qm, .inr (2, [.ref qk, .int (zi fj), .int (zi lj)])), (qk, aI cI 366 mg), (qr, .inr (0, [.int (zi mc), .ref qd, .int (zi 0)]))]) [0, 2, 3, 4] rfl
          have hKc : va_K (dC, dI) vwCl [(cI, .int)] s := hK
          have hDc := hD.sub (ws' := [(h0, .inr (4, [.ref qs, .ref qr, .ref qm, .ref qw, .ref qt, .int (zi we)])), (qm, .inr (2, [.ref qk, .int (zi fj), .int (zi lj)])), (qk, aI cI 366 mg), (qr, .inr (0, [.int (zi mc), .ref qd, .int (zi 0)]))]) [0, 2, 3, 4] (by decide) rfl
          have hFc := va_free (wc := [(h0, .inr (4, [.ref qs, .ref qr, .ref qm, .ref qw, .ref qt, .int (zi we)])), (qm, .inr (2, [.ref qk, .int (zi fj), .int (zi lj)])), (qk, aI cI 366 mg), (qr, .inr (0, [.int (zi mc), .ref qd, .int (zi 0)]))]) hD hS hA [0, 2, 3, 4] rfl
          refine va_calli (va_runV (As := [.int (zi x8)]) (rest := []) ⟨hx, hb, hml, hown, hts⟩ hh9 (cwV 1 hts gX4_moveWork_X4_isWorking rfl rfl rfl (by decide +kernel) ⟨Nat.le_of_ble_eq_true rfl, Nat.le_of_ble_eq_true rfl⟩) ⟨zPw.blind _ _ _ _ _, va_recv hKc hPc (ci := 4) (q0 := 0) rfl rfl, fun U hU hW => ⟨rfl, by rw [hU], by rw [hU]; exact hPc, va_K.moved hW.alike hKc, hDc.weaken (fun _ _ _ _ => trivial)⟩⟩ rfl rfl hl.1 rfl (lv_room (Nat.le_of_ble_eq_true rfl)) dX4_moveWork_81 ⟨Nat.le_of_ble_eq_true rfl, Nat.le_of_ble_eq_true rfl⟩) hS (fun q _ h => hFc q h) hFc (fun r9 u t H1 locs ht hvm hw hB hz1 hk1 hS => ?_)
          obtain ⟨fj_10, lj_10, mg_10⟩ := u
          obtain ⟨hw, hw9⟩ := hw
          replace hw9 : mkOk kf af bf zf 0 fj_10 lj_10 mg_10 := hw9
          obtain ⟨hP1, hK1, hD1⟩ := hB
          rw [ht] at hP1
          replace hP1 : va_P (dC, dI) vwCl [(h0, .inr (4, [.ref qs, .ref qr, .ref qm, .ref qw, .ref qt, .int (zi we)])), (qm, .inr (2, [.ref qk, .int (zi fj_10), .int (zi lj_10)])), (qk, aI cI 366 mg_10), (qr, .inr (0, [.int (zi mc), .ref qd, .int (zi 0)]))] H1 := hP1
          replace hD1 : va_D _ [(h0, .inr (4, [.ref qs, .ref qr, .ref qm, .ref qw, .ref qt, .int (zi we)])), (qm, .inr (2, [.ref qk, .int (zi fj_10), .int (zi lj_10)])), (qk, aI cI 366 mg_10), (qr, .inr (0, [.int (zi mc), .ref qd, .int (zi 0)]))] := hD1
          obtain ⟨hP, hD⟩ := va_join (wr := [(qs, aI cI 10 sf)]) (w1 := [(h0, .inr (4, [.ref qs, .ref qr, .ref qm, .ref qw, .ref qt, .int (zi we)])), (qm, .inr (2, [.ref qk, .int (zi fj_10), .int (zi lj_10)])), (qk, aI cI 366 mg_10), (qr, .inr (0, [.int (zi mc), .ref qd, .int (zi 0)]))]) hP hD [0, 2, 3, 4] [1] rfl rfl (by decide) (by decide) hk1 hFc hP1 hD1
          generalize H1 = H at hP hS ⊢
          obtain rfl : r9 = zi (wkX4 we kf af bf zf 0 x8) := hw
          have hP : va_P (dC, dI) vwCl [(qs, aI cI 10 sf), (h0, .inr (4, [.ref qs, .ref qr, .ref qm, .ref qw, .ref qt, .int (zi we)])), (qm, .inr (2, [.ref qk, .int (zi fj_10), .int (zi lj_10)])), (qk, aI cI 366 mg_10), (qr, .inr (0, [.int (zi mc), .ref qd, .int (zi 0)]))] H := hP
          have hD : va_D A [(qs, aI cI 10 sf), (h0, .inr (4, [.ref qs, .ref qr, .ref qm, .ref qw, .ref qt, .int (zi we)])), (qm, .inr (2, [.ref qk, .int (zi fj_10), .int (zi lj_10)])), (qk, aI cI 366 mg_10), (qr, .inr (0, [.int (zi mc), .ref qd, .int (zi 0)]))] := hD
          have hf9_0 := wkX4_s we kf af bf zf 0 x8
          refine zw_if_eq (tgt := 58) hx hb dX4_moveWork_84 (by decide) ⟨by omega, by omega⟩ (fun h11 => ?_) (fun h11 => ?_)
          · skip
            first | have hmb := mkOk_b hi2 | skip
            subst ex8
            have hP9 := hP.sub (ws' := [(h0, .inr (4, [.ref qs, .ref qr, .ref qm, .ref qw, .ref qt, .int (zi we)])), (qs, aI cI 10 sf), (qm, .inr (2, [.ref qk, .int (zi fj_10), .int (zi lj_10)])), (qk, aI cI 366 mg_10), (qr, .inr (0, [.int (zi mc), .ref qd, .int (zi 0)]))]) [1, 0, 2, 3, 4] rfl
            have hD9 := hD.sub (ws' := [(h0, .inr (4, [.ref qs, .ref qr, .ref qm, .ref qw, .ref qt, .int (zi we)])), (qs, aI cI 10 sf), (qm, .inr (2, [.ref qk, .int (zi fj_10), .int (zi lj_10)])), (qk, aI cI 366 mg_10), (qr, .inr (0, [.int (zi mc), .ref qd, .int (zi 0)]))]) [1, 0, 2, 3, 4] (by decide) rfl
            exact ih (nn + 1) lft fj_10 lj_10 mg_10 (by first | (rw [← hi0]; symm; first | (apply zmv_s1 <;> omega) | (apply zmv_s0 <;> omega)) | (rw [show (if 0 ≤ many then many else 0 - many) = many from by omega]; exact hp6)) (by omega) (by first | assumption | exact Or.inl ⟨by omega, by omega, rfl⟩) (by omega) ls _ _ (lv_sub hl [0, 1, 2, 3, 4, 5] rfl) hP9 hD9 hS
          · skip
            obtain ⟨x12, ex12⟩ : ∃ z : Int, z = lft + (-1) := ⟨_, rfl⟩
            refine zw_iinc (lv' := [(5, .int (zi x12)), (3, .int (zi x8)), (0, .ref h0), (1, .int (zi sl)), (2, .int (zi many)), (4, .int (zi 1))]) (k := 1) hx hb ex12 dX4_moveWork_87 hl rfl (by decide) rfl (fun ls hl => ?_)
            refine lv_goto (tgt := 58) hx hb dX4_moveWork_90 (by decide) ?_
            first | have hmb := mkOk_b hi2 | skip
            subst ex8 ex12
            have hP9 := hP.sub (ws' := [(h0, .inr (4, [.ref qs, .ref qr, .ref qm, .ref qw, .ref qt, .int (zi we)])), (qs, aI cI 10 sf), (qm, .inr (2, [.ref qk, .int (zi fj_10), .int (zi lj_10)])), (qk, aI cI 366 mg_10), (qr, .inr (0, [.int (zi mc), .ref qd, .int (zi 0)]))]) [1, 0, 2, 3, 4] rfl
            have hD9 := hD.sub (ws' := [(h0, .inr (4, [.ref qs, .ref qr, .ref qm, .ref qw, .ref qt, .int (zi we)])), (qs, aI cI 10 sf), (qm, .inr (2, [.ref qk, .int (zi fj_10), .int (zi lj_10)])), (qk, aI cI 366 mg_10), (qr, .inr (0, [.int (zi mc), .ref qd, .int (zi 0)]))]) [1, 0, 2, 3, 4] (by decide) rfl
            exact ih (nn + 1) (lft + (-1)) fj_10 lj_10 mg_10 (by first | (rw [← hi0]; symm; first | (apply zmv_s1 <;> omega) | (apply zmv_s0 <;> omega)) | (rw [show (if 0 ≤ many then many else 0 - many) = many from by omega]; exact hp6)) (by omega) (by first | assumption | exact Or.inl ⟨by omega, by omega, rfl⟩) (by omega) ls _ _ (lv_sub hl [1, 0, 2, 3, 4, 5] rfl) hP9 hD9 hS
  have hl := lv_entry ([.ref h0, .int (zi sl), .int (zi many)]) (n := 6) (Nat.le_of_ble_eq_true rfl)
  rw [lg_entry_eq]
  generalize (lg_sl ([.ref h0, .int (zi sl), .int (zi many)]) ++ List.replicate (6 - (lg_sl ([.ref h0, .int (zi sl), .int (zi many)])).length) Slot.unset).toArray = ls at hl ⊢
  have hl : lv_has ls 6 [(0, .ref h0), (1, .int (zi sl)), (2, .int (zi many))] := hl
  refine lv_iload_n hx hb dX4_moveWork_0 rfl (lv_at hl 1 rfl) ?_
  have hh13 := c_X4_needSlot l sl (by omega)
  refine va_csv (va_Run.run (va_runS (As := [.int (zi sl)]) (rest := []) ⟨hx, hb, hml, hown, hts⟩ hh13 (va_cwS 1 hts gX4_moveWork_X4_needSlot rfl rfl rfl (by decide +kernel) ⟨Nat.le_of_ble_eq_true rfl, Nat.le_of_ble_eq_true rfl⟩) ⟨fun a U g mk q => q, fun U hU hW => ⟨rfl, trivial⟩⟩ rfl rfl hl.1 rfl (lv_room (Nat.le_of_ble_eq_true rfl)) dX4_moveWork_1 ⟨Nat.le_of_ble_eq_true rfl, Nat.le_of_ble_eq_true rfl⟩)) (fun _ => ?_)
  refine lv_aload_n hx hb dX4_moveWork_4 rfl (lv_at hl 0 rfl) ?_
  refine lv_iload_n hx hb dX4_moveWork_5 rfl (lv_at hl 1 rfl) ?_
  have hh14 := c_X4_dateIn l dC dI cI h0 qs qr qm qw qt we sf sl (by omega) (by omega)
  have hPc := hP.sub (ws' := [(h0, .inr (4, [.ref qs, .ref qr, .ref qm, .ref qw, .ref qt, .int (zi we)])), (qs, aI cI 10 sf)]) [0, 1] rfl
  have hKc : va_K (dC, dI) vwCl [(cI, .int)] s := hK
  refine vp_callSi (va_Run.run (va_runV (As := [.int (zi sl)]) (rest := []) ⟨hx, hb, hml, hown, hts⟩ hh14 (cwV 1 hts gX4_moveWork_X4_dateIn rfl rfl rfl (by decide +kernel) ⟨Nat.le_of_ble_eq_true rfl, Nat.le_of_ble_eq_true rfl⟩) ⟨zPr.blind _ _ _ _, va_recv hKc hPc (ci := 4) (q0 := 0) rfl rfl, fun U hU hW => ⟨rfl, by rw [hU]; exact hPc, va_K.moved hW.alike hKc⟩⟩ rfl rfl hl.1 rfl (lv_room (Nat.le_of_ble_eq_true rfl)) dX4_moveWork_6 ⟨Nat.le_of_ble_eq_true rfl, Nat.le_of_ble_eq_true rfl⟩)) (fun r14 (hr14 : r14 = zi (sf sl.toNat)) => ?_)
  subst hr14
  refine zw_top (fun x15 ex15 => ?_)
  refine lv_istore_n (lv' := [(3, .int (zi x15)), (0, .ref h0), (1, .int (zi sl)), (2, .int (zi many))]) hx hb dX4_moveWork_9 rfl hl (by decide) rfl (fun ls hl => ?_)
  refine lv_iload_n hx hb dX4_moveWork_10 rfl (lv_at hl 3 rfl) ?_
  refine zw_sipush hx hb dX4_moveWork_11 (by decide) ?_
  refine zw_icmp_lt (tgt := 24) hx hb dX4_moveWork_14 (by decide) ⟨by omega, by omega⟩ ⟨by omega, by omega⟩ (fun h16 => ?_) (fun h16 => ?_)
  · skip
    exact absurd True.intro (by omega)
  · skip
    refine lv_iload_n hx hb dX4_moveWork_17 rfl (lv_at hl 3 rfl) ?_
    refine zw_sipush hx hb dX4_moveWork_18 (by decide) ?_
    refine zw_icmp_le (tgt := 34) hx hb dX4_moveWork_21 (by decide) ⟨by omega, by omega⟩ ⟨by omega, by omega⟩ (fun h17 => ?_) (fun h17 => ?_)
    · skip
      refine lv_iload_n hx hb dX4_moveWork_34 rfl (lv_at hl 3 rfl) ?_
      refine zw_if_ge (tgt := 42) hx hb dX4_moveWork_35 (by decide) ⟨by omega, by omega⟩ (fun h18 => ?_) (fun h18 => ?_)
      · skip
        refine zw_iconst hx hb dX4_moveWork_42 ?_
        refine lv_istore (lv' := [(4, .int (zi 1)), (3, .int (zi x15)), (0, .ref h0), (1, .int (zi sl)), (2, .int (zi many))]) hx hb dX4_moveWork_43 hl (by decide) rfl (fun ls hl => ?_)
        refine lv_iload_n hx hb dX4_moveWork_45 rfl (lv_at hl 4 rfl) ?_
        refine zw_abs hx hb (hml.trans hl.1.symm) hown (hts (.methodLink RX4 164 Lib.Math.abs.name) (by decide +kernel)) (hts (.static Lib.Math.abs.name) (by decide +kernel)) (hts (.initialized "java/lang/Math") (by decide +kernel)) (hts _ (by decide +kernel)) (Nat.le_of_ble_eq_true rfl) (Nat.le_of_ble_eq_true rfl) (Nat.le_of_ble_eq_true rfl) (Nat.le_of_ble_eq_true rfl) dX4_moveWork_46 ⟨by omega, by omega⟩ ?_
        refine zw_top (fun x19 ex19 => ?_)
        refine lv_istore (lv' := [(5, .int (zi x19)), (4, .int (zi 1)), (3, .int (zi x15)), (0, .ref h0), (1, .int (zi sl)), (2, .int (zi many))]) hx hb dX4_moveWork_49 hl (by decide) rfl (fun ls hl => ?_)
        refine lv_aload_n hx hb dX4_moveWork_51 rfl (lv_at hl 3 rfl) ?_
        refine va_get (D := (dC, dI)) (ci := 4) (v := .ref qm) (C := RX4) (T := TX4) (N := 6) hx hb hts (by decide +kernel) hown hK hP 0 rfl rfl 2 (by decide) (hts (.fieldLink RX4 23 "CivilDays" "marked" "LCivilDays$MarkedYear;") (by decide +kernel)) (fun _ h9 => h9) rfl dX4_moveWork_52 ?_
        have hh20 := c_X2_forget l dC dI cI qm qk fi ln mf s.heap.size 
        have hPc := hP.sub (ws' := [(qm, .inr (2, [.ref qk, .int (zi fi), .int (zi ln)])), (qk, aI cI 366 mf)]) [2, 3] rfl
        have hKc : va_K (dC, dI) vwCl [(cI, .int)] s := hK
        have hDc := hD.sub (ws' := [(qm, .inr (2, [.ref qk, .int (zi fi), .int (zi ln)])), (qk, aI cI 366 mf)]) [2, 3] (by decide) rfl
        have hFc := va_free (wc := [(qm, .inr (2, [.ref qk, .int (zi fi), .int (zi ln)])), (qk, aI cI 366 mf)]) hD hS hA [2, 3] rfl
        refine va_callv (va_runV (As := []) (rest := []) ⟨hx, hb, hml, hown, hts⟩ hh20 (cwV 0 hts gX4_moveWork_X2_forget rfl rfl rfl (by decide +kernel) ⟨Nat.le_of_ble_eq_true rfl, Nat.le_of_ble_eq_true rfl⟩) ⟨zPw.blind _ _ _ _ _, va_recv hKc hPc (ci := 2) (q0 := 0) rfl rfl, fun U hU hW => ⟨rfl, by rw [hU], by rw [hU]; exact hPc, va_K.moved hW.alike hKc, hDc.weaken (fun _ _ _ _ => trivial)⟩⟩ rfl rfl hl.1 rfl (lv_room (Nat.le_of_ble_eq_true rfl)) dX4_moveWork_55 ⟨Nat.le_of_ble_eq_true rfl, Nat.le_of_ble_eq_true rfl⟩) hS (fun q _ h => hFc q h) hFc (fun u t H1 locs ht hvm hw hB hz1 hk1 hS => ?_)
        obtain ⟨hP1, hK1, hD1⟩ := hB
        rw [ht] at hP1
        obtain ⟨hP, hD⟩ := va_join (wr := [(h0, .inr (4, [.ref qs, .ref qr, .ref qm, .ref qw, .ref qt, .int (zi we)])), (qs, aI cI 10 sf), (qr, .inr (0, [.int (zi mc), .ref qd, .int (zi 0)]))]) (w1 := [(qm, .inr (2, [.ref qk, .int (zi fi), .int (zi 0)])), (qk, aI cI 366 mf)]) hP hD [2, 3] [0, 1, 4] rfl rfl (by decide) (by decide) hk1 hFc hP1 hD1
        generalize H1 = H at hP hS ⊢
        have hP : va_P (dC, dI) vwCl [(h0, .inr (4, [.ref qs, .ref qr, .ref qm, .ref qw, .ref qt, .int (zi we)])), (qs, aI cI 10 sf), (qr, .inr (0, [.int (zi mc), .ref qd, .int (zi 0)])), (qm, .inr (2, [.ref qk, .int (zi fi), .int (zi 0)])), (qk, aI cI 366 mf)] H := hP
        have hD : va_D A [(h0, .inr (4, [.ref qs, .ref qr, .ref qm, .ref qw, .ref qt, .int (zi we)])), (qs, aI cI 10 sf), (qr, .inr (0, [.int (zi mc), .ref qd, .int (zi 0)])), (qm, .inr (2, [.ref qk, .int (zi fi), .int (zi 0)])), (qk, aI cI 366 mf)] := hD
        first | have hmb := mkOk_b hi2 | skip
        subst ex15 ex19
        have hP9 := hP.sub (ws' := [(h0, .inr (4, [.ref qs, .ref qr, .ref qm, .ref qw, .ref qt, .int (zi we)])), (qs, aI cI 10 sf), (qm, .inr (2, [.ref qk, .int (zi fi), .int (zi 0)])), (qk, aI cI 366 mf), (qr, .inr (0, [.int (zi mc), .ref qd, .int (zi 0)]))]) [0, 1, 3, 4, 2] rfl
        have hD9 := hD.sub (ws' := [(h0, .inr (4, [.ref qs, .ref qr, .ref qm, .ref qw, .ref qt, .int (zi we)])), (qs, aI cI 10 sf), (qm, .inr (2, [.ref qk, .int (zi fi), .int (zi 0)])), (qk, aI cI 366 mf), (qr, .inr (0, [.int (zi mc), .ref qd, .int (zi 0)]))]) [0, 1, 3, 4, 2] (by decide) rfl
        exact loop58 (fz) (sf sl.toNat) (if 0 ≤ many then many else 0 - many) fi 0 mf (by first | (rw [← hi0]; symm; first | (apply zmv_s1 <;> omega) | (apply zmv_s0 <;> omega)) | (rw [show (if 0 ≤ many then many else 0 - many) = many from by omega]; exact hp6)) (by omega) (by first | assumption | exact Or.inl ⟨by omega, by omega, rfl⟩) (by omega) ls _ _ (lv_sub hl [2, 0, 3, 4, 5, 1] rfl) hP9 hD9 hS
      · skip
        exact absurd True.intro (by omega)
    · skip
      exact absurd True.intro (by omega)

set_option maxHeartbeats 4000000 in
set_option maxRecDepth 100000 in
theorem t_Xz_moveWork_4p (l : Launch) (hst : l.stackTraces = false) (dC : Nat → ClassId) (dI : Nat → Nat → Nat) (cI : ClassId) (h0 : Nat) (qs : Nat) (qr : Nat) (qm : Nat) (qw : Nat) (qt : Nat) (we : Int) (sf : Nat → Int) (qk : Nat) (fi : Int) (ln : Int) (mf : Nat → Int) (mc : Int) (qd : Nat) (kf : Nat → Int) (af : Nat → Int) (bf : Nat → Int) (zf : Nat → Int) (rf : Nat → Nat) (fz : Nat) (rr : Int) (sl : Int) (many : Int) (sz : Nat) (hp0 : 0 ≤ sl ∧ sl ≤ 9) (hp1 : 0 ≤ (sf sl.toNat) ∧ (sf sl.toNat) ≤ 3652058) (hp2 : 0 ≤ we ∧ we ≤ 127) (hp3 : 0 ≤ fi ∧ fi ≤ 4000000 ∧ 0 ≤ ln ∧ ln ≤ 366) (hp4 : -1000 ≤ many ∧ many ≤ 1000 ∧ 0 ≤ many) (hp5 : 4000000 ≤ fz) (hp6 : zmv (wkX4 we kf af bf zf 0) 1 fz (sf sl.toNat) many = rr) (hp7 : rr = -1) : vx_Met l yX4_moveWork wsX4_moveWork ({ frames := 6, cells := 1, slots := 6, locals := 90 }) (zPwF (dC, dI) [(cI, .int)] sz [.ref h0, .int (zi sl), .int (zi many)] [(h0, .inr (4, [.ref qs, .ref qr, .ref qm, .ref qw, .ref qt, .int (zi we)])), (qs, aI cI 10 sf), (qm, .inr (2, [.ref qk, .int (zi fi), .int (zi ln)])), (qk, aI cI 366 mf), (qr, .inr (0, [.int (zi mc), .ref qd, .int (zi 0)]))] (zRE (dC, dI) 0 rf kf af bf zf)) zNo (vx_X (fun (u : (Int) × (Int) × (Nat → Int)) => 0 ≤ u.1 ∧ u.1 ≤ 4000000 ∧ 0 ≤ u.2.1 ∧ u.2.1 ≤ 366) (fun E9 (u : (Int) × (Int) × (Nat → Int)) t9 => E9 = "java/lang/UnsupportedOperationException" ∧ zB (dC, dI) [(cI, .int)] (va_A [(h0, .inr (4, [.ref qs, .ref qr, .ref qm, .ref qw, .ref qt, .int (zi we)])), (qs, aI cI 10 sf), (qm, .inr (2, [.ref qk, .int (zi fi), .int (zi ln)])), (qk, aI cI 366 mf), (qr, .inr (0, [.int (zi mc), .ref qd, .int (zi 0)]))] sz) [(h0, .inr (4, [.ref qs, .ref qr, .ref qm, .ref qw, .ref qt, .int (zi we)])), (qs, aI cI 10 sf), (qm, .inr (2, [.ref qk, .int (zi u.1), .int (zi u.2.1)])), (qk, aI cI 366 u.2.2), (qr, .inr (0, [.int (zi mc), .ref qd, .int (zi 0)]))] () t9) (va_A [(h0, .inr (4, [.ref qs, .ref qr, .ref qm, .ref qw, .ref qt, .int (zi we)])), (qs, aI cI 10 sf), (qm, .inr (2, [.ref qk, .int (zi fi), .int (zi ln)])), (qk, aI cI 366 mf), (qr, .inr (0, [.int (zi mc), .ref qd, .int (zi 0)]))] sz)) 1 6 (va_A [(h0, .inr (4, [.ref qs, .ref qr, .ref qm, .ref qw, .ref qt, .int (zi we)])), (qs, aI cI 10 sf), (qm, .inr (2, [.ref qk, .int (zi fi), .int (zi ln)])), (qk, aI cI 366 mf), (qr, .inr (0, [.int (zi mc), .ref qd, .int (zi 0)]))] sz) := by
  refine vx_ofW (cc := cX4_moveWork) (maxL := 6) (ret := (some .int)) (by decide) rfl ?_
  intro p e s m args below meth c s₁ B hml hno hv
  obtain ⟨rfl, hsz, hP, hK, hD0, hG, hE⟩ := hv
  have hx := B.exec
  have hb := B.bytes
  have hr := B.returns
  have hts := atoms_spec (ws := wsX4_moveWork) B.pre
  have hown : s.vm.findClass RX4 = some m.cls := findClass_of_methodNamed B.named
  have hlocks := B.notSynchronized
  subst hsz
  have hD := hD0.self (sz := s.heap.size)
  generalize hAe : va_A [(h0, .inr (4, [.ref qs, .ref qr, .ref qm, .ref qw, .ref qt, .int (zi we)])), (qs, aI cI 10 sf), (qm, .inr (2, [.ref qk, .int (zi fi), .int (zi ln)])), (qk, aI cI 366 mf), (qr, .inr (0, [.int (zi mc), .ref qd, .int (zi 0)]))] s.heap.size = A at hD hG hE ⊢
  have hA : ∀ q : Nat, s.heap.size ≤ q → A q := fun q h => by rw [← hAe]; exact Or.inr h
  have hS : va_S A s.heap s.heap [] := va_S.rf
  have hP : va_P (dC, dI) vwCl [(h0, .inr (4, [.ref qs, .ref qr, .ref qm, .ref qw, .ref qt, .int (zi we)])), (qs, aI cI 10 sf), (qm, .inr (2, [.ref qk, .int (zi fi), .int (zi ln)])), (qk, aI cI 366 mf), (qr, .inr (0, [.int (zi mc), .ref qd, .int (zi 0)]))] s.heap := hP
  have loop58 : ∀ (fu : Nat) (nn : Int) (lft : Int) (fj : Int) (lj : Int) (mg : Nat → Int), (zmv (wkX4 we kf af bf zf 0) 1 fu nn lft = rr) → (0 ≤ nn ∧ nn ≤ 3652058 ∧ 0 ≤ lft ∧ lft ≤ 1000) → (mkOk kf af bf zf 0 fj lj mg) → (3652060 - nn < fu) → ∀ (ls : Array Slot) (H : Heap) (locs : List Loc), lv_has ls 6 [(3, .int (zi nn)), (5, .int (zi lft)), (0, .ref h0), (1, .int (zi sl)), (2, .int (zi many)), (4, .int (zi 1))] → va_P (dC, dI) vwCl [(h0, .inr (4, [.ref qs, .ref qr, .ref qm, .ref qw, .ref qt, .int (zi we)])), (qs, aI cI 10 sf), (qm, .inr (2, [.ref qk, .int (zi fj), .int (zi lj)])), (qk, aI cI 366 mg), (qr, .inr (0, [.int (zi mc), .ref qd, .int (zi 0)]))] H → va_D A [(h0, .inr (4, [.ref qs, .ref qr, .ref qm, .ref qw, .ref qt, .int (zi we)])), (qs, aI cI 10 sf), (qm, .inr (2, [.ref qk, .int (zi fj), .int (zi lj)])), (qk, aI cI 366 mg), (qr, .inr (0, [.int (zi mc), .ref qd, .int (zi 0)]))] → va_S A s.heap H locs → W p l e (headSpec wsX4_moveWork ({ frames := 6, cells := 1, slots := 6, locals := 90 })).room s m ([.ref h0, .int (zi sl), .int (zi many)] : List Value).toArray below meth c H locs 0 0 (vx_MQ below zNo (vx_X (fun (u : (Int) × (Int) × (Nat → Int)) => 0 ≤ u.1 ∧ u.1 ≤ 4000000 ∧ 0 ≤ u.2.1 ∧ u.2.1 ≤ 366) (fun E9 (u : (Int) × (Int) × (Nat → Int)) t9 => E9 = "java/lang/UnsupportedOperationException" ∧ zB (dC, dI) [(cI, .int)] A [(h0, .inr (4, [.ref qs, .ref qr, .ref qm, .ref qw, .ref qt, .int (zi we)])), (qs, aI cI 10 sf), (qm, .inr (2, [.ref qk, .int (zi u.1), .int (zi u.2.1)])), (qk, aI cI 366 u.2.2), (qr, .inr (0, [.int (zi mc), .ref qd, .int (zi 0)]))] () t9) A) ([.ref h0, .int (zi sl), .int (zi many)] : List Value).toArray s 1 6 A) (F0 m 58 ls []) := by
    intro fu
    induction fu with
    | zero =>
      intro nn lft fj lj mg hi0 hi1 hi2 hfu ls H locs hl hP hD hS
      exact absurd hfu (by omega)
    | succ fu ih =>
      intro nn lft fj lj mg hi0 hi1 hi2 hfu ls H locs hl hP hD hS
      have hP : va_P (dC, dI) vwCl [(h0, .inr (4, [.ref qs, .ref qr, .ref qm, .ref qw, .ref qt, .int (zi we)])), (qs, aI cI 10 sf), (qm, .inr (2, [.ref qk, .int (zi fj), .int (zi lj)])), (qk, aI cI 366 mg), (qr, .inr (0, [.int (zi mc), .ref qd, .int (zi 0)]))] H := hP
      have hD : va_D A [(h0, .inr (4, [.ref qs, .ref qr, .ref qm, .ref qw, .ref qt, .int (zi we)])), (qs, aI cI 10 sf), (qm, .inr (2, [.ref qk, .int (zi fj), .int (zi lj)])), (qk, aI cI 366 mg), (qr, .inr (0, [.int (zi mc), .ref qd, .int (zi 0)]))] := hD
      first | have hmb := mkOk_b hi2 | skip
      refine lv_iload hx hb dX4_moveWork_58 (lv_at hl 1 rfl) ?_
      refine zw_if_le (tgt := 93) hx hb dX4_moveWork_60 (by decide) ⟨by omega, by omega⟩ (fun h1 => ?_) (fun h1 => ?_)
      · skip
        first | have hz := zmv_0 (wkX4 we kf af bf zf 0) 1 fu nn lft (by omega) | have hz := zmv_x (wkX4 we kf af bf zf 0) 1 fu nn lft (by omega) (by omega)
        refine lv_iload hx hb dX4_moveWork_93 (lv_at hl 1 rfl) ?_
        refine zw_if_le (tgt := 108) hx hb dX4_moveWork_95 (by decide) ⟨by omega, by omega⟩ (fun h2 => ?_) (fun h2 => ?_)
        · skip
          exact absurd True.intro (by omega)
        · skip
          have hP9 := hP.sub (ws' := [(h0, .inr (4, [.ref qs, .ref qr, .ref qm, .ref qw, .ref qt, .int (zi we)])), (qs, aI cI 10 sf), (qm, .inr (2, [.ref qk, .int (zi fj), .int (zi lj)])), (qk, aI cI 366 mg), (qr, .inr (0, [.int (zi mc), .ref qd, .int (zi 0)]))]) [0, 1, 2, 3, 4] rfl
          have hD9 := hD.sub (ws' := [(h0, .inr (4, [.ref qs, .ref qr, .ref qm, .ref qw, .ref qt, .int (zi we)])), (qs, aI cI 10 sf), (qm, .inr (2, [.ref qk, .int (zi fj), .int (zi lj)])), (qk, aI cI 366 mg), (qr, .inr (0, [.int (zi mc), .ref qd, .int (zi 0)]))]) [0, 1, 2, 3, 4] (by decide) rfl
          have hp9 : 0 ≤ fj ∧ fj ≤ 4000000 ∧ 0 ≤ lj ∧ lj ≤ 366 := by
            exact mkOk_b hi2
          exact zt_throwW (cls := "java/lang/UnsupportedOperationException") (text := "the date is beyond the years") (ik := 81) (is := 83) (ic := 85) hx hb hst hown hE (by decide +kernel) (hts (.classLink RX4 81 "java/lang/UnsupportedOperationException") (by decide +kernel)) (hts (.initialized "java/lang/UnsupportedOperationException") (by decide +kernel)) (by decide) (fun w h => hts w (List.mem_cons_of_mem _ (List.mem_append_left _ (List.mem_append_left _ (List.mem_append_right _ h))))) (by decide +kernel) (by decide +kernel) (hl.1.trans hml.symm) dX4_moveWork_98 dX4_moveWork_101 dX4_moveWork_102 dX4_moveWork_104 dX4_moveWork_107 hno (Nat.le_of_ble_eq_true rfl) (Nat.le_of_ble_eq_true rfl) (Nat.le_of_ble_eq_true rfl) (Nat.le_of_ble_eq_true rfl) hlocks hS (fj, lj, mg) hp9 (fun t ha hz hk => ⟨zk_world hP9 hk, va_K.moved ha hK, hD9⟩)
      · skip
        refine lv_iload_n hx hb dX4_moveWork_63 rfl (lv_at hl 0 rfl) ?_
        refine lv_iload hx hb dX4_moveWork_64 (lv_at hl 5 rfl) ?_
        refine zw_iadd hx hb dX4_moveWork_66 ?_
        refine zw_i2l hx hb dX4_moveWork_67 ⟨by omega, by omega⟩ ?_
        have hh3 := c_X0_isNumber l (nn + 1) (by omega)
        refine vp_callSi (va_Run.run (va_runS (As := [.long (zl (nn + 1))]) (rest := []) ⟨hx, hb, hml, hown, hts⟩ hh3 (va_cwS 1 hts gX4_moveWork_X0_isNumber rfl rfl rfl (by decide +kernel) ⟨Nat.le_of_ble_eq_true rfl, Nat.le_of_ble_eq_true rfl⟩) ⟨fun a U g mk q => q, fun U hU hW => ⟨rfl, trivial⟩⟩ rfl rfl hl.1 rfl (lv_room (Nat.le_of_ble_eq_true rfl)) dX4_moveWork_68 ⟨Nat.zero_le _, Nat.zero_le _⟩)) (fun r3 (hr3 : r3 = zi (f_X0_isNumber (nn + 1))) => ?_)
        subst hr3
        have hf3 := b_X0_isNumber (nn + 1) (by omega)
        refine zw_if_eq (tgt := 93) hx hb dX4_moveWork_71 (by decide) ⟨by omega, by omega⟩ (fun h4 => ?_) (fun h4 => ?_)
        · skip
          first | have hz := zmv_0 (wkX4 we kf af bf zf 0) 1 fu nn lft (by omega) | have hz := zmv_x (wkX4 we kf af bf zf 0) 1 fu nn lft (by omega) (by omega)
          refine lv_iload hx hb dX4_moveWork_93 (lv_at hl 1 rfl) ?_
          refine zw_if_le (tgt := 108) hx hb dX4_moveWork_95 (by decide) ⟨by omega, by omega⟩ (fun h5 => ?_) (fun h5 => ?_)
          · skip
            exact absurd True.intro (by omega)
          · skip
            have hP9 := hP.sub (ws' := [(h0, .inr (4, [.ref qs, .ref qr, .ref qm, .ref qw, .ref qt, .int (zi we)])), (qs, aI cI 10 sf), (qm, .inr (2, [.ref qk, .int (zi fj), .int (zi lj)])), (qk, aI cI 366 mg), (qr, .inr (0, [.int (zi mc), .ref qd, .int (zi 0)]))]) [0, 1, 2, 3, 4] rfl
            have hD9 := hD.sub (ws' := [(h0, .inr (4, [.ref qs, .ref qr, .ref qm, .ref qw, .ref qt, .int (zi we)])), (qs, aI cI 10 sf), (qm, .inr (2, [.ref qk, .int (zi fj), .int (zi lj)])), (qk, aI cI 366 mg), (qr, .inr (0, [.int (zi mc), .ref qd, .int (zi 0)]))]) [0, 1, 2, 3, 4] (by decide) rfl
            have hp9 : 0 ≤ fj ∧ fj ≤ 4000000 ∧ 0 ≤ lj ∧ lj ≤ 366 := by
              exact mkOk_b hi2
            exact zt_throwW (cls := "java/lang/UnsupportedOperationException") (text := "the date is beyond the years") (ik := 81) (is := 83) (ic := 85) hx hb hst hown hE (by decide +kernel) (hts (.classLink RX4 81 "java/lang/UnsupportedOperationException") (by decide +kernel)) (hts (.initialized "java/lang/UnsupportedOperationException") (by decide +kernel)) (by decide) (fun w h => hts w (List.mem_cons_of_mem _ (List.mem_append_left _ (List.mem_append_left _ (List.mem_append_right _ h))))) (by decide +kernel) (by decide +kernel) (hl.1.trans hml.symm) dX4_moveWork_98 dX4_moveWork_101 dX4_moveWork_102 dX4_moveWork_104 dX4_moveWork_107 hno (Nat.le_of_ble_eq_true rfl) (Nat.le_of_ble_eq_true rfl) (Nat.le_of_ble_eq_true rfl) (Nat.le_of_ble_eq_true rfl) hlocks hS (fj, lj, mg) hp9 (fun t ha hz hk => ⟨zk_world hP9 hk, va_K.moved ha hK, hD9⟩)
        · skip
          refine lv_iload_n hx hb dX4_moveWork_74 rfl (lv_at hl 0 rfl) ?_
          refine lv_iload hx hb dX4_moveWork_75 (lv_at hl 5 rfl) ?_
          refine zw_iadd hx hb dX4_moveWork_77 ?_
          refine zw_top (fun x6 ex6 => ?_)
          refine lv_istore_n (lv' := [(3, .int (zi x6)), (5, .int (zi lft)), (0, .ref h0), (1, .int (zi sl)), (2, .int (zi many)), (4, .int (zi 1))]) hx hb dX4_moveWork_78 rfl hl (by decide) rfl (fun ls hl => ?_)
          refine lv_aload_n hx hb dX4_moveWork_79 rfl (lv_at hl 2 rfl) ?_
          refine lv_iload_n hx hb dX4_moveWork_80 rfl (lv_at hl 0 rfl) ?_
          have hh7 := c_Xz_isWorking l dC dI cI h0 qs qr qm qw qt we qk fj lj mg mc qd kf af bf zf x6 H.size (by omega) (by omega) (by assumption)
          have hPc := hP.sub (ws' := [(h0, .inr (4, [.ref qs, .ref qr, .ref qm, .ref qw, .ref qt, .int (zi we)])), (qm, .inr (2, [.ref qk, .int (zi fj), .int (zi lj)])), (qk, aI cI 366 mg), (qr, .inr (0, [.int (zi mc), .ref qd, .int (zi 0)]))]) [0, 2, 3, 4] rfl
          have hKc : va_K (dC, dI) vwCl [(cI, .int)] s := hK
          have hDc := hD.sub (ws' := [(h0, .inr (4, [.ref qs, .ref qr, .ref qm, .ref qw, .ref qt, .int (zi we)])), (qm, .inr (2, [.ref qk, .int (zi fj), .int (zi lj)])), (qk, aI cI 366 mg), (qr, .inr (0, [.int (zi mc), .ref qd, .int (zi 0)]))]) [0, 2, 3, 4] (by decide) rfl
          have hFc := va_free (wc := [(h0, .inr (4, [.ref qs, .ref qr, .ref qm, .ref qw, .ref qt, .int (zi we)])), (qm, .inr (2, [.ref qk, .int (zi fj), .int (zi lj)])), (qk, aI cI 366 mg), (qr, .inr (0, [.int (zi mc), .ref qd, .int (zi 0)]))]) hD hS hA [0, 2, 3, 4] rfl
          refine va_calli (va_runV (As := [.int (zi x6)]) (rest := []) ⟨hx, hb, hml, hown, hts⟩ hh7 (cwV 1 hts gX4_moveWork_X4_isWorking rfl rfl rfl (by decide +kernel) ⟨Nat.le_of_ble_eq_true rfl, Nat.le_of_ble_eq_true rfl⟩) ⟨zPw.blind _ _ _ _ _, va_recv hKc hPc (ci := 4) (q0 := 0) rfl rfl, fun U hU hW => ⟨rfl, by rw [hU], by rw [hU]; exact hPc, va_K.moved hW.alike hKc, hDc.weaken (fun _ _ _ _ => trivial)⟩⟩ rfl rfl hl.1 rfl (lv_room (Nat.le_of_ble_eq_true rfl)) dX4_moveWork_81 ⟨Nat.le_of_ble_eq_true rfl, Nat.le_of_ble_eq_true rfl⟩) hS (fun q _ h => hFc q h) hFc (fun r7 u t H1 locs ht hvm hw hB hz1 hk1 hS => ?_)
          obtain ⟨fj_8, lj_8, mg_8⟩ := u
          obtain ⟨hw, hw7⟩ := hw
          replace hw7 : mkOk kf af bf zf 0 fj_8 lj_8 mg_8 := hw7
          obtain ⟨hP1, hK1, hD1⟩ := hB
          rw [ht] at hP1
          replace hP1 : va_P (dC, dI) vwCl [(h0, .inr (4, [.ref qs, .ref qr, .ref qm, .ref qw, .ref qt, .int (zi we)])), (qm, .inr (2, [.ref qk, .int (zi fj_8), .int (zi lj_8)])), (qk, aI cI 366 mg_8), (qr, .inr (0, [.int (zi mc), .ref qd, .int (zi 0)]))] H1 := hP1
          replace hD1 : va_D _ [(h0, .inr (4, [.ref qs, .ref qr, .ref qm, .ref qw, .ref qt, .int (zi we)])), (qm, .inr (2, [.ref qk, .int (zi fj_8), .int (zi lj_8)])), (qk, aI cI 366 mg_8), (qr, .inr (0, [.int (zi mc), .ref qd, .int (zi 0)]))] := hD1
          obtain ⟨hP, hD⟩ := va_join (wr := [(qs, aI cI 10 sf)]) (w1 := [(h0, .inr (4, [.ref qs, .ref qr, .ref qm, .ref qw, .ref qt, .int (zi we)])), (qm, .inr (2, [.ref qk, .int (zi fj_8), .int (zi lj_8)])), (qk, aI cI 366 mg_8), (qr, .inr (0, [.int (zi mc), .ref qd, .int (zi 0)]))]) hP hD [0, 2, 3, 4] [1] rfl rfl (by decide) (by decide) hk1 hFc hP1 hD1
          generalize H1 = H at hP hS ⊢
          obtain rfl : r7 = zi (wkX4 we kf af bf zf 0 x6) := hw
          have hP : va_P (dC, dI) vwCl [(qs, aI cI 10 sf), (h0, .inr (4, [.ref qs, .ref qr, .ref qm, .ref qw, .ref qt, .int (zi we)])), (qm, .inr (2, [.ref qk, .int (zi fj_8), .int (zi lj_8)])), (qk, aI cI 366 mg_8), (qr, .inr (0, [.int (zi mc), .ref qd, .int (zi 0)]))] H := hP
          have hD : va_D A [(qs, aI cI 10 sf), (h0, .inr (4, [.ref qs, .ref qr, .ref qm, .ref qw, .ref qt, .int (zi we)])), (qm, .inr (2, [.ref qk, .int (zi fj_8), .int (zi lj_8)])), (qk, aI cI 366 mg_8), (qr, .inr (0, [.int (zi mc), .ref qd, .int (zi 0)]))] := hD
          have hf7_0 := wkX4_s we kf af bf zf 0 x6
          refine zw_if_eq (tgt := 58) hx hb dX4_moveWork_84 (by decide) ⟨by omega, by omega⟩ (fun h9 => ?_) (fun h9 => ?_)
          · skip
            first | have hmb := mkOk_b hi2 | skip
            subst ex6
            have hP9 := hP.sub (ws' := [(h0, .inr (4, [.ref qs, .ref qr, .ref qm, .ref qw, .ref qt, .int (zi we)])), (qs, aI cI 10 sf), (qm, .inr (2, [.ref qk, .int (zi fj_8), .int (zi lj_8)])), (qk, aI cI 366 mg_8), (qr, .inr (0, [.int (zi mc), .ref qd, .int (zi 0)]))]) [1, 0, 2, 3, 4] rfl
            have hD9 := hD.sub (ws' := [(h0, .inr (4, [.ref qs, .ref qr, .ref qm, .ref qw, .ref qt, .int (zi we)])), (qs, aI cI 10 sf), (qm, .inr (2, [.ref qk, .int (zi fj_8), .int (zi lj_8)])), (qk, aI cI 366 mg_8), (qr, .inr (0, [.int (zi mc), .ref qd, .int (zi 0)]))]) [1, 0, 2, 3, 4] (by decide) rfl
            exact ih (nn + 1) lft fj_8 lj_8 mg_8 (by first | (rw [← hi0]; symm; first | (apply zmv_s1 <;> omega) | (apply zmv_s0 <;> omega)) | (rw [show (if 0 ≤ many then many else 0 - many) = many from by omega]; exact hp6)) (by omega) (by first | assumption | exact Or.inl ⟨by omega, by omega, rfl⟩) (by omega) ls _ _ (lv_sub hl [0, 1, 2, 3, 4, 5] rfl) hP9 hD9 hS
          · skip
            obtain ⟨x10, ex10⟩ : ∃ z : Int, z = lft + (-1) := ⟨_, rfl⟩
            refine zw_iinc (lv' := [(5, .int (zi x10)), (3, .int (zi x6)), (0, .ref h0), (1, .int (zi sl)), (2, .int (zi many)), (4, .int (zi 1))]) (k := 1) hx hb ex10 dX4_moveWork_87 hl rfl (by decide) rfl (fun ls hl => ?_)
            refine lv_goto (tgt := 58) hx hb dX4_moveWork_90 (by decide) ?_
            first | have hmb := mkOk_b hi2 | skip
            subst ex6 ex10
            have hP9 := hP.sub (ws' := [(h0, .inr (4, [.ref qs, .ref qr, .ref qm, .ref qw, .ref qt, .int (zi we)])), (qs, aI cI 10 sf), (qm, .inr (2, [.ref qk, .int (zi fj_8), .int (zi lj_8)])), (qk, aI cI 366 mg_8), (qr, .inr (0, [.int (zi mc), .ref qd, .int (zi 0)]))]) [1, 0, 2, 3, 4] rfl
            have hD9 := hD.sub (ws' := [(h0, .inr (4, [.ref qs, .ref qr, .ref qm, .ref qw, .ref qt, .int (zi we)])), (qs, aI cI 10 sf), (qm, .inr (2, [.ref qk, .int (zi fj_8), .int (zi lj_8)])), (qk, aI cI 366 mg_8), (qr, .inr (0, [.int (zi mc), .ref qd, .int (zi 0)]))]) [1, 0, 2, 3, 4] (by decide) rfl
            exact ih (nn + 1) (lft + (-1)) fj_8 lj_8 mg_8 (by first | (rw [← hi0]; symm; first | (apply zmv_s1 <;> omega) | (apply zmv_s0 <;> omega)) | (rw [show (if 0 ≤ many then many else 0 - many) = many from by omega]; exact hp6)) (by omega) (by first | assumption | exact Or.inl ⟨by omega, by omega, rfl⟩) (by omega) ls _ _ (lv_sub hl [1, 0, 2, 3, 4, 5] rfl) hP9 hD9 hS
  have hl := lv_entry ([.ref h0, .int (zi sl), .int (zi many)]) (n := 6) (Nat.le_of_ble_eq_true rfl)
  rw [lg_entry_eq]
  generalize (lg_sl ([.ref h0, .int (zi sl), .int (zi many)]) ++ List.replicate (6 - (lg_sl ([.ref h0, .int (zi sl), .int (zi many)])).length) Slot.unset).toArray = ls at hl ⊢
  have hl : lv_has ls 6 [(0, .ref h0), (1, .int (zi sl)), (2, .int (zi many))] := hl
  refine lv_iload_n hx hb dX4_moveWork_0 rfl (lv_at hl 1 rfl) ?_
  have hh11 := c_X4_needSlot l sl (by omega)
  refine va_csv (va_Run.run (va_runS (As := [.int (zi sl)]) (rest := []) ⟨hx, hb, hml, hown, hts⟩ hh11 (va_cwS 1 hts gX4_moveWork_X4_needSlot rfl rfl rfl (by decide +kernel) ⟨Nat.le_of_ble_eq_true rfl, Nat.le_of_ble_eq_true rfl⟩) ⟨fun a U g mk q => q, fun U hU hW => ⟨rfl, trivial⟩⟩ rfl rfl hl.1 rfl (lv_room (Nat.le_of_ble_eq_true rfl)) dX4_moveWork_1 ⟨Nat.le_of_ble_eq_true rfl, Nat.le_of_ble_eq_true rfl⟩)) (fun _ => ?_)
  refine lv_aload_n hx hb dX4_moveWork_4 rfl (lv_at hl 0 rfl) ?_
  refine lv_iload_n hx hb dX4_moveWork_5 rfl (lv_at hl 1 rfl) ?_
  have hh12 := c_X4_dateIn l dC dI cI h0 qs qr qm qw qt we sf sl (by omega) (by omega)
  have hPc := hP.sub (ws' := [(h0, .inr (4, [.ref qs, .ref qr, .ref qm, .ref qw, .ref qt, .int (zi we)])), (qs, aI cI 10 sf)]) [0, 1] rfl
  have hKc : va_K (dC, dI) vwCl [(cI, .int)] s := hK
  refine vp_callSi (va_Run.run (va_runV (As := [.int (zi sl)]) (rest := []) ⟨hx, hb, hml, hown, hts⟩ hh12 (cwV 1 hts gX4_moveWork_X4_dateIn rfl rfl rfl (by decide +kernel) ⟨Nat.le_of_ble_eq_true rfl, Nat.le_of_ble_eq_true rfl⟩) ⟨zPr.blind _ _ _ _, va_recv hKc hPc (ci := 4) (q0 := 0) rfl rfl, fun U hU hW => ⟨rfl, by rw [hU]; exact hPc, va_K.moved hW.alike hKc⟩⟩ rfl rfl hl.1 rfl (lv_room (Nat.le_of_ble_eq_true rfl)) dX4_moveWork_6 ⟨Nat.le_of_ble_eq_true rfl, Nat.le_of_ble_eq_true rfl⟩)) (fun r12 (hr12 : r12 = zi (sf sl.toNat)) => ?_)
  subst hr12
  refine zw_top (fun x13 ex13 => ?_)
  refine lv_istore_n (lv' := [(3, .int (zi x13)), (0, .ref h0), (1, .int (zi sl)), (2, .int (zi many))]) hx hb dX4_moveWork_9 rfl hl (by decide) rfl (fun ls hl => ?_)
  refine lv_iload_n hx hb dX4_moveWork_10 rfl (lv_at hl 3 rfl) ?_
  refine zw_sipush hx hb dX4_moveWork_11 (by decide) ?_
  refine zw_icmp_lt (tgt := 24) hx hb dX4_moveWork_14 (by decide) ⟨by omega, by omega⟩ ⟨by omega, by omega⟩ (fun h14 => ?_) (fun h14 => ?_)
  · skip
    exact absurd True.intro (by omega)
  · skip
    refine lv_iload_n hx hb dX4_moveWork_17 rfl (lv_at hl 3 rfl) ?_
    refine zw_sipush hx hb dX4_moveWork_18 (by decide) ?_
    refine zw_icmp_le (tgt := 34) hx hb dX4_moveWork_21 (by decide) ⟨by omega, by omega⟩ ⟨by omega, by omega⟩ (fun h15 => ?_) (fun h15 => ?_)
    · skip
      refine lv_iload_n hx hb dX4_moveWork_34 rfl (lv_at hl 3 rfl) ?_
      refine zw_if_ge (tgt := 42) hx hb dX4_moveWork_35 (by decide) ⟨by omega, by omega⟩ (fun h16 => ?_) (fun h16 => ?_)
      · skip
        refine zw_iconst hx hb dX4_moveWork_42 ?_
        refine lv_istore (lv' := [(4, .int (zi 1)), (3, .int (zi x13)), (0, .ref h0), (1, .int (zi sl)), (2, .int (zi many))]) hx hb dX4_moveWork_43 hl (by decide) rfl (fun ls hl => ?_)
        refine lv_iload_n hx hb dX4_moveWork_45 rfl (lv_at hl 4 rfl) ?_
        refine zw_abs hx hb (hml.trans hl.1.symm) hown (hts (.methodLink RX4 164 Lib.Math.abs.name) (by decide +kernel)) (hts (.static Lib.Math.abs.name) (by decide +kernel)) (hts (.initialized "java/lang/Math") (by decide +kernel)) (hts _ (by decide +kernel)) (Nat.le_of_ble_eq_true rfl) (Nat.le_of_ble_eq_true rfl) (Nat.le_of_ble_eq_true rfl) (Nat.le_of_ble_eq_true rfl) dX4_moveWork_46 ⟨by omega, by omega⟩ ?_
        refine zw_top (fun x17 ex17 => ?_)
        refine lv_istore (lv' := [(5, .int (zi x17)), (4, .int (zi 1)), (3, .int (zi x13)), (0, .ref h0), (1, .int (zi sl)), (2, .int (zi many))]) hx hb dX4_moveWork_49 hl (by decide) rfl (fun ls hl => ?_)
        refine lv_aload_n hx hb dX4_moveWork_51 rfl (lv_at hl 3 rfl) ?_
        refine va_get (D := (dC, dI)) (ci := 4) (v := .ref qm) (C := RX4) (T := TX4) (N := 6) hx hb hts (by decide +kernel) hown hK hP 0 rfl rfl 2 (by decide) (hts (.fieldLink RX4 23 "CivilDays" "marked" "LCivilDays$MarkedYear;") (by decide +kernel)) (fun _ h9 => h9) rfl dX4_moveWork_52 ?_
        have hh18 := c_X2_forget l dC dI cI qm qk fi ln mf s.heap.size 
        have hPc := hP.sub (ws' := [(qm, .inr (2, [.ref qk, .int (zi fi), .int (zi ln)])), (qk, aI cI 366 mf)]) [2, 3] rfl
        have hKc : va_K (dC, dI) vwCl [(cI, .int)] s := hK
        have hDc := hD.sub (ws' := [(qm, .inr (2, [.ref qk, .int (zi fi), .int (zi ln)])), (qk, aI cI 366 mf)]) [2, 3] (by decide) rfl
        have hFc := va_free (wc := [(qm, .inr (2, [.ref qk, .int (zi fi), .int (zi ln)])), (qk, aI cI 366 mf)]) hD hS hA [2, 3] rfl
        refine va_callv (va_runV (As := []) (rest := []) ⟨hx, hb, hml, hown, hts⟩ hh18 (cwV 0 hts gX4_moveWork_X2_forget rfl rfl rfl (by decide +kernel) ⟨Nat.le_of_ble_eq_true rfl, Nat.le_of_ble_eq_true rfl⟩) ⟨zPw.blind _ _ _ _ _, va_recv hKc hPc (ci := 2) (q0 := 0) rfl rfl, fun U hU hW => ⟨rfl, by rw [hU], by rw [hU]; exact hPc, va_K.moved hW.alike hKc, hDc.weaken (fun _ _ _ _ => trivial)⟩⟩ rfl rfl hl.1 rfl (lv_room (Nat.le_of_ble_eq_true rfl)) dX4_moveWork_55 ⟨Nat.le_of_ble_eq_true rfl, Nat.le_of_ble_eq_true rfl⟩) hS (fun q _ h => hFc q h) hFc (fun u t H1 locs ht hvm hw hB hz1 hk1 hS => ?_)
        obtain ⟨hP1, hK1, hD1⟩ := hB
        rw [ht] at hP1
        obtain ⟨hP, hD⟩ := va_join (wr := [(h0, .inr (4, [.ref qs, .ref qr, .ref qm, .ref qw, .ref qt, .int (zi we)])), (qs, aI cI 10 sf), (qr, .inr (0, [.int (zi mc), .ref qd, .int (zi 0)]))]) (w1 := [(qm, .inr (2, [.ref qk, .int (zi fi), .int (zi 0)])), (qk, aI cI 366 mf)]) hP hD [2, 3] [0, 1, 4] rfl rfl (by decide) (by decide) hk1 hFc hP1 hD1
        generalize H1 = H at hP hS ⊢
        have hP : va_P (dC, dI) vwCl [(h0, .inr (4, [.ref qs, .ref qr, .ref qm, .ref qw, .ref qt, .int (zi we)])), (qs, aI cI 10 sf), (qr, .inr (0, [.int (zi mc), .ref qd, .int (zi 0)])), (qm, .inr (2, [.ref qk, .int (zi fi), .int (zi 0)])), (qk, aI cI 366 mf)] H := hP
        have hD : va_D A [(h0, .inr (4, [.ref qs, .ref qr, .ref qm, .ref qw, .ref qt, .int (zi we)])), (qs, aI cI 10 sf), (qr, .inr (0, [.int (zi mc), .ref qd, .int (zi 0)])), (qm, .inr (2, [.ref qk, .int (zi fi), .int (zi 0)])), (qk, aI cI 366 mf)] := hD
        first | have hmb := mkOk_b hi2 | skip
        subst ex13 ex17
        have hP9 := hP.sub (ws' := [(h0, .inr (4, [.ref qs, .ref qr, .ref qm, .ref qw, .ref qt, .int (zi we)])), (qs, aI cI 10 sf), (qm, .inr (2, [.ref qk, .int (zi fi), .int (zi 0)])), (qk, aI cI 366 mf), (qr, .inr (0, [.int (zi mc), .ref qd, .int (zi 0)]))]) [0, 1, 3, 4, 2] rfl
        have hD9 := hD.sub (ws' := [(h0, .inr (4, [.ref qs, .ref qr, .ref qm, .ref qw, .ref qt, .int (zi we)])), (qs, aI cI 10 sf), (qm, .inr (2, [.ref qk, .int (zi fi), .int (zi 0)])), (qk, aI cI 366 mf), (qr, .inr (0, [.int (zi mc), .ref qd, .int (zi 0)]))]) [0, 1, 3, 4, 2] (by decide) rfl
        exact loop58 (fz) (sf sl.toNat) (if 0 ≤ many then many else 0 - many) fi 0 mf (by first | (rw [← hi0]; symm; first | (apply zmv_s1 <;> omega) | (apply zmv_s0 <;> omega)) | (rw [show (if 0 ≤ many then many else 0 - many) = many from by omega]; exact hp6)) (by omega) (by first | assumption | exact Or.inl ⟨by omega, by omega, rfl⟩) (by omega) ls _ _ (lv_sub hl [2, 0, 3, 4, 5, 1] rfl) hP9 hD9 hS
      · skip
        exact absurd True.intro (by omega)
    · skip
      exact absurd True.intro (by omega)

set_option maxHeartbeats 4000000 in
set_option maxRecDepth 100000 in
theorem c_Xz_moveWork_n (l : Launch)  (dC : Nat → ClassId) (dI : Nat → Nat → Nat) (cI : ClassId) (h0 : Nat) (qs : Nat) (qr : Nat) (qm : Nat) (qw : Nat) (qt : Nat) (we : Int) (sf : Nat → Int) (qk : Nat) (fi : Int) (ln : Int) (mf : Nat → Int) (mc : Int) (qd : Nat) (kf : Nat → Int) (af : Nat → Int) (bf : Nat → Int) (zf : Nat → Int) (fz : Nat) (rr : Int) (sl : Int) (many : Int) (sz : Nat) (hp0 : 0 ≤ sl ∧ sl ≤ 9) (hp1 : 0 ≤ (sf sl.toNat) ∧ (sf sl.toNat) ≤ 3652058) (hp2 : 0 ≤ we ∧ we ≤ 127) (hp3 : 0 ≤ fi ∧ fi ≤ 4000000 ∧ 0 ≤ ln ∧ ln ≤ 366) (hp4 : -1000 ≤ many ∧ many ≤ 1000 ∧ many < 0) (hp5 : 4000000 ≤ fz) (hp6 : zmv (wkX4 we kf af bf zf 0) (-1) fz (sf sl.toNat) (-many) = rr) (hp7 : 0 ≤ rr ∧ rr ≤ 3652058) : Met l yX4_moveWork wsX4_moveWork ({ frames := 4, cells := 0, slots := 0, locals := 85 }) (zPw (dC, dI) [(cI, .int)] sz [.ref h0, .int (zi sl), .int (zi many)] [(h0, .inr (4, [.ref qs, .ref qr, .ref qm, .ref qw, .ref qt, .int (zi we)])), (qs, aI cI 10 sf), (qm, .inr (2, [.ref qk, .int (zi fi), .int (zi ln)])), (qk, aI cI 366 mf), (qr, .inr (0, [.int (zi mc), .ref qd, .int (zi 0)]))]) (va_Qi (fun (r : Int32) (u : (Int) × (Int) × (Nat → Int) × (Nat → Int)) => r = zi rr ∧ ((0 ≤ u.1 ∧ u.1 ≤ 4000000 ∧ 0 ≤ u.2.1 ∧ u.2.1 ≤ 366) ∧ u.2.2.2 = zup sf sl.toNat rr)) (fun (u : (Int) × (Int) × (Nat → Int) × (Nat → Int)) => zB (dC, dI) [(cI, .int)] (va_A [(h0, .inr (4, [.ref qs, .ref qr, .ref qm, .ref qw, .ref qt, .int (zi we)])), (qs, aI cI 10 sf), (qm, .inr (2, [.ref qk, .int (zi fi), .int (zi ln)])), (qk, aI cI 366 mf), (qr, .inr (0, [.int (zi mc), .ref qd, .int (zi 0)]))] sz) [(h0, .inr (4, [.ref qs, .ref qr, .ref qm, .ref qw, .ref qt, .int (zi we)])), (qs, aI cI 10 u.2.2.2), (qm, .inr (2, [.ref qk, .int (zi u.1), .int (zi u.2.1)])), (qk, aI cI 366 u.2.2.1), (qr, .inr (0, [.int (zi mc), .ref qd, .int (zi 0)]))] ()) (va_A [(h0, .inr (4, [.ref qs, .ref qr, .ref qm, .ref qw, .ref qt, .int (zi we)])), (qs, aI cI 10 sf), (qm, .inr (2, [.ref qk, .int (zi fi), .int (zi ln)])), (qk, aI cI 366 mf), (qr, .inr (0, [.int (zi mc), .ref qd, .int (zi 0)]))] sz)) 0 0 (va_A [(h0, .inr (4, [.ref qs, .ref qr, .ref qm, .ref qw, .ref qt, .int (zi we)])), (qs, aI cI 10 sf), (qm, .inr (2, [.ref qk, .int (zi fi), .int (zi ln)])), (qk, aI cI 366 mf), (qr, .inr (0, [.int (zi mc), .ref qd, .int (zi 0)]))] sz) := by
  refine Met.ofW (cc := cX4_moveWork) (maxL := 6) (ret := (some .int)) (by decide) rfl ?_
  intro p e s m args below meth c s₁ B hml hv
  obtain ⟨rfl, hsz, hP, hK, hD0⟩ := hv
  have hx := B.exec
  have hb := B.bytes
  have hr := B.returns
  have hts := atoms_spec (ws := wsX4_moveWork) B.pre
  have hown : s.vm.findClass RX4 = some m.cls := findClass_of_methodNamed B.named
  have hlocks := B.notSynchronized
  subst hsz
  have hD := hD0.self (sz := s.heap.size)
  generalize hAe : va_A [(h0, .inr (4, [.ref qs, .ref qr, .ref qm, .ref qw, .ref qt, .int (zi we)])), (qs, aI cI 10 sf), (qm, .inr (2, [.ref qk, .int (zi fi), .int (zi ln)])), (qk, aI cI 366 mf), (qr, .inr (0, [.int (zi mc), .ref qd, .int (zi 0)]))] s.heap.size = A at hD ⊢
  have hA : ∀ q : Nat, s.heap.size ≤ q → A q := fun q h => by rw [← hAe]; exact Or.inr h
  have hS : va_S A s.heap s.heap [] := va_S.rf
  have hP : va_P (dC, dI) vwCl [(h0, .inr (4, [.ref qs, .ref qr, .ref qm, .ref qw, .ref qt, .int (zi we)])), (qs, aI cI 10 sf), (qm, .inr (2, [.ref qk, .int (zi fi), .int (zi ln)])), (qk, aI cI 366 mf), (qr, .inr (0, [.int (zi mc), .ref qd, .int (zi 0)]))] s.heap := hP
  have loop58 : ∀ (fu : Nat) (nn : Int) (lft : Int) (fj : Int) (lj : Int) (mg : Nat → Int), (zmv (wkX4 we kf af bf zf 0) (-1) fu nn lft = rr) → (0 ≤ nn ∧ nn ≤ 3652058 ∧ 0 ≤ lft ∧ lft ≤ 1000) → (mkOk kf af bf zf 0 fj lj mg) → (nn + 2 < fu) → ∀ (ls : Array Slot) (H : Heap) (locs : List Loc), lv_has ls 6 [(3, .int (zi nn)), (5, .int (zi lft)), (0, .ref h0), (1, .int (zi sl)), (2, .int (zi many)), (4, .int (zi (-1)))] → va_P (dC, dI) vwCl [(h0, .inr (4, [.ref qs, .ref qr, .ref qm, .ref qw, .ref qt, .int (zi we)])), (qs, aI cI 10 sf), (qm, .inr (2, [.ref qk, .int (zi fj), .int (zi lj)])), (qk, aI cI 366 mg), (qr, .inr (0, [.int (zi mc), .ref qd, .int (zi 0)]))] H → va_D A [(h0, .inr (4, [.ref qs, .ref qr, .ref qm, .ref qw, .ref qt, .int (zi we)])), (qs, aI cI 10 sf), (qm, .inr (2, [.ref qk, .int (zi fj), .int (zi lj)])), (qk, aI cI 366 mg), (qr, .inr (0, [.int (zi mc), .ref qd, .int (zi 0)]))] → va_S A s.heap H locs → W p l e (headSpec wsX4_moveWork ({ frames := 4, cells := 0, slots := 0, locals := 85 })).room s m ([.ref h0, .int (zi sl), .int (zi many)] : List Value).toArray below meth c H locs 0 0 (MQ below (va_Qi (fun (r : Int32) (u : (Int) × (Int) × (Nat → Int) × (Nat → Int)) => r = zi rr ∧ ((0 ≤ u.1 ∧ u.1 ≤ 4000000 ∧ 0 ≤ u.2.1 ∧ u.2.1 ≤ 366) ∧ u.2.2.2 = zup sf sl.toNat rr)) (fun (u : (Int) × (Int) × (Nat → Int) × (Nat → Int)) => zB (dC, dI) [(cI, .int)] A [(h0, .inr (4, [.ref qs, .ref qr, .ref qm, .ref qw, .ref qt, .int (zi we)])), (qs, aI cI 10 u.2.2.2), (qm, .inr (2, [.ref qk, .int (zi u.1), .int (zi u.2.1)])), (qk, aI cI 366 u.2.2.1), (qr, .inr (0, [.int (zi mc), .ref qd, .int (zi 0)]))] ()) A) ([.ref h0, .int (zi sl), .int (zi many)] : List Value).toArray s 0 0 A) (F0 m 58 ls []) := by
    intro fu
    induction fu with
    | zero =>
      intro nn lft fj lj mg hi0 hi1 hi2 hfu ls H locs hl hP hD hS
      exact absurd hfu (by omega)
    | succ fu ih =>
      intro nn lft fj lj mg hi0 hi1 hi2 hfu ls H locs hl hP hD hS
      have hP : va_P (dC, dI) vwCl [(h0, .inr (4, [.ref qs, .ref qr, .ref qm, .ref qw, .ref qt, .int (zi we)])), (qs, aI cI 10 sf), (qm, .inr (2, [.ref qk, .int (zi fj), .int (zi lj)])), (qk, aI cI 366 mg), (qr, .inr (0, [.int (zi mc), .ref qd, .int (zi 0)]))] H := hP
      have hD : va_D A [(h0, .inr (4, [.ref qs, .ref qr, .ref qm, .ref qw, .ref qt, .int (zi we)])), (qs, aI cI 10 sf), (qm, .inr (2, [.ref qk, .int (zi fj), .int (zi lj)])), (qk, aI cI 366 mg), (qr, .inr (0, [.int (zi mc), .ref qd, .int (zi 0)]))] := hD
      first | have hmb := mkOk_b hi2 | skip
      refine lv_iload hx hb dX4_moveWork_58 (lv_at hl 1 rfl) ?_
      refine zw_if_le (tgt := 93) hx hb dX4_moveWork_60 (by decide) ⟨by omega, by omega⟩ (fun h1 => ?_) (fun h1 => ?_)
      · skip
        first | have hz := zmv_0 (wkX4 we kf af bf zf 0) (-1) fu nn lft (by omega) | have hz := zmv_x (wkX4 we kf af bf zf 0) (-1) fu nn lft (by omega) (by omega)
        refine lv_iload hx hb dX4_moveWork_93 (lv_at hl 1 rfl) ?_
        refine zw_if_le (tgt := 108) hx hb dX4_moveWork_95 (by decide) ⟨by omega, by omega⟩ (fun h2 => ?_) (fun h2 => ?_)
        · skip
          refine lv_aload_n hx hb dX4_moveWork_108 rfl (lv_at hl 2 rfl) ?_
          refine lv_iload_n hx hb dX4_moveWork_109 rfl (lv_at hl 3 rfl) ?_
          refine lv_iload_n hx hb dX4_moveWork_110 rfl (lv_at hl 0 rfl) ?_
          have hh3 := c_X4_keep l dC dI cI h0 qs qr qm qw qt we sf sl nn H.size (by omega) (by omega) (by omega)
          have hPc := hP.sub (ws' := [(h0, .inr (4, [.ref qs, .ref qr, .ref qm, .ref qw, .ref qt, .int (zi we)])), (qs, aI cI 10 sf)]) [0, 1] rfl
          have hKc : va_K (dC, dI) vwCl [(cI, .int)] s := hK
          have hDc := hD.sub (ws' := [(h0, .inr (4, [.ref qs, .ref qr, .ref qm, .ref qw, .ref qt, .int (zi we)])), (qs, aI cI 10 sf)]) [0, 1] (by decide) rfl
          have hFc := va_free (wc := [(h0, .inr (4, [.ref qs, .ref qr, .ref qm, .ref qw, .ref qt, .int (zi we)])), (qs, aI cI 10 sf)]) hD hS hA [0, 1] rfl
          refine va_calli (va_runV (As := [.int (zi sl), .int (zi nn)]) (rest := []) ⟨hx, hb, hml, hown, hts⟩ hh3 (cwV 2 hts gX4_moveWork_X4_keep rfl rfl rfl (by decide +kernel) ⟨Nat.le_of_ble_eq_true rfl, Nat.le_of_ble_eq_true rfl⟩) ⟨zPw.blind _ _ _ _ _, va_recv hKc hPc (ci := 4) (q0 := 0) rfl rfl, fun U hU hW => ⟨rfl, by rw [hU], by rw [hU]; exact hPc, va_K.moved hW.alike hKc, hDc.weaken (fun _ _ _ _ => trivial)⟩⟩ rfl rfl hl.1 rfl (lv_room (Nat.le_of_ble_eq_true rfl)) dX4_moveWork_111 ⟨Nat.le_of_ble_eq_true rfl, Nat.le_of_ble_eq_true rfl⟩) hS (fun q _ h => hFc q h) hFc (fun r3 u t H1 locs ht hvm hw hB hz1 hk1 hS => ?_)
          obtain ⟨hP1, hK1, hD1⟩ := hB
          rw [ht] at hP1
          obtain ⟨hP, hD⟩ := va_join (wr := [(qm, .inr (2, [.ref qk, .int (zi fj), .int (zi lj)])), (qk, aI cI 366 mg), (qr, .inr (0, [.int (zi mc), .ref qd, .int (zi 0)]))]) (w1 := [(h0, .inr (4, [.ref qs, .ref qr, .ref qm, .ref qw, .ref qt, .int (zi we)])), (qs, aI cI 10 (zup sf sl.toNat nn))]) hP hD [0, 1] [2, 3, 4] rfl rfl (by decide) (by decide) hk1 hFc hP1 hD1
          generalize H1 = H at hP hS ⊢
          obtain rfl : r3 = zi nn := hw
          have hP : va_P (dC, dI) vwCl [(qm, .inr (2, [.ref qk, .int (zi fj), .int (zi lj)])), (qk, aI cI 366 mg), (qr, .inr (0, [.int (zi mc), .ref qd, .int (zi 0)])), (h0, .inr (4, [.ref qs, .ref qr, .ref qm, .ref qw, .ref qt, .int (zi we)])), (qs, aI cI 10 (zup sf sl.toNat nn))] H := hP
          have hD : va_D A [(qm, .inr (2, [.ref qk, .int (zi fj), .int (zi lj)])), (qk, aI cI 366 mg), (qr, .inr (0, [.int (zi mc), .ref qd, .int (zi 0)])), (h0, .inr (4, [.ref qs, .ref qr, .ref qm, .ref qw, .ref qt, .int (zi we)])), (qs, aI cI 10 (zup sf sl.toNat nn))] := hD
          have hP9 := hP.sub (ws' := [(h0, .inr (4, [.ref qs, .ref qr, .ref qm, .ref qw, .ref qt, .int (zi we)])), (qs, aI cI 10 (zup sf sl.toNat nn)), (qm, .inr (2, [.ref qk, .int (zi fj), .int (zi lj)])), (qk, aI cI 366 mg), (qr, .inr (0, [.int (zi mc), .ref qd, .int (zi 0)]))]) [3, 4, 0, 1, 2] rfl
          have hD9 := hD.sub (ws' := [(h0, .inr (4, [.ref qs, .ref qr, .ref qm, .ref qw, .ref qt, .int (zi we)])), (qs, aI cI 10 (zup sf sl.toNat nn)), (qm, .inr (2, [.ref qk, .int (zi fj), .int (zi lj)])), (qk, aI cI 366 mg), (qr, .inr (0, [.int (zi mc), .ref qd, .int (zi 0)]))]) [3, 4, 0, 1, 2] (by decide) rfl
          have hp9 : (0 ≤ fj ∧ fj ≤ 4000000 ∧ 0 ≤ lj ∧ lj ≤ 366) ∧ (zup sf sl.toNat nn) = zup sf sl.toNat rr := by
            exact ⟨mkOk_b hi2, by rw [show nn = rr from by omega]⟩
          exact W.iret (v := zi nn) hx hb hr (fun t ht hW => ⟨⟨zi nn, (fj, lj, mg, (zup sf sl.toNat nn)), rfl, ⟨congrArg zi (by omega), hp9⟩, by rw [ht]; exact hP9, va_K.moved hW.alike hK, hD9⟩, hS.F ht⟩) hS.2.2 dX4_moveWork_114
        · skip
          exact absurd True.intro (by omega)
      · skip
        refine lv_iload_n hx hb dX4_moveWork_63 rfl (lv_at hl 0 rfl) ?_
        refine lv_iload hx hb dX4_moveWork_64 (lv_at hl 5 rfl) ?_
        refine zw_iadd hx hb dX4_moveWork_66 ?_
        refine zw_i2l hx hb dX4_moveWork_67 ⟨by omega, by omega⟩ ?_
        have hh4 := c_X0_isNumber l (nn + (-1)) (by omega)
        refine vp_callSi (va_Run.run (va_runS (As := [.long (zl (nn + (-1)))]) (rest := []) ⟨hx, hb, hml, hown, hts⟩ hh4 (va_cwS 1 hts gX4_moveWork_X0_isNumber rfl rfl rfl (by decide +kernel) ⟨Nat.le_of_ble_eq_true rfl, Nat.le_of_ble_eq_true rfl⟩) ⟨fun a U g mk q => q, fun U hU hW => ⟨rfl, trivial⟩⟩ rfl rfl hl.1 rfl (lv_room (Nat.le_of_ble_eq_true rfl)) dX4_moveWork_68 ⟨Nat.zero_le _, Nat.zero_le _⟩)) (fun r4 (hr4 : r4 = zi (f_X0_isNumber (nn + (-1)))) => ?_)
        subst hr4
        have hf4 := b_X0_isNumber (nn + (-1)) (by omega)
        refine zw_if_eq (tgt := 93) hx hb dX4_moveWork_71 (by decide) ⟨by omega, by omega⟩ (fun h5 => ?_) (fun h5 => ?_)
        · skip
          first | have hz := zmv_0 (wkX4 we kf af bf zf 0) (-1) fu nn lft (by omega) | have hz := zmv_x (wkX4 we kf af bf zf 0) (-1) fu nn lft (by omega) (by omega)
          refine lv_iload hx hb dX4_moveWork_93 (lv_at hl 1 rfl) ?_
          refine zw_if_le (tgt := 108) hx hb dX4_moveWork_95 (by decide) ⟨by omega, by omega⟩ (fun h6 => ?_) (fun h6 => ?_)
          · skip
            refine lv_aload_n hx hb dX4_moveWork_108 rfl (lv_at hl 2 rfl) ?_
            refine lv_iload_n hx hb dX4_moveWork_109 rfl (lv_at hl 3 rfl) ?_
            refine lv_iload_n hx hb dX4_moveWork_110 rfl (lv_at hl 0 rfl) ?_
            have hh7 := c_X4_keep l dC dI cI h0 qs qr qm qw qt we sf sl nn H.size (by omega) (by omega) (by omega)
            have hPc := hP.sub (ws' := [(h0, .inr (4, [.ref qs, .ref qr, .ref qm, .ref qw, .ref qt, .int (zi we)])), (qs, aI cI 10 sf)]) [0, 1] rfl
            have hKc : va_K (dC, dI) vwCl [(cI, .int)] s := hK
            have hDc := hD.sub (ws' := [(h0, .inr (4, [.ref qs, .ref qr, .ref qm, .ref qw, .ref qt, .int (zi we)])), (qs, aI cI 10 sf)]) [0, 1] (by decide) rfl
            have hFc := va_free (wc := [(h0, .inr (4, [.ref qs, .ref qr, .ref qm, .ref qw, .ref qt, .int (zi we)])), (qs, aI cI 10 sf)]) hD hS hA [0, 1] rfl
            refine va_calli (va_runV (As := [.int (zi sl), .int (zi nn)]) (rest := []) ⟨hx, hb, hml, hown, hts⟩ hh7 (cwV 2 hts gX4_moveWork_X4_keep rfl rfl rfl (by decide +kernel) ⟨Nat.le_of_ble_eq_true rfl, Nat.le_of_ble_eq_true rfl⟩) ⟨zPw.blind _ _ _ _ _, va_recv hKc hPc (ci := 4) (q0 := 0) rfl rfl, fun U hU hW => ⟨rfl, by rw [hU], by rw [hU]; exact hPc, va_K.moved hW.alike hKc, hDc.weaken (fun _ _ _ _ => trivial)⟩⟩ rfl rfl hl.1 rfl (lv_room (Nat.le_of_ble_eq_true rfl)) dX4_moveWork_111 ⟨Nat.le_of_ble_eq_true rfl, Nat.le_of_ble_eq_true rfl⟩) hS (fun q _ h => hFc q h) hFc (fun r7 u t H1 locs ht hvm hw hB hz1 hk1 hS => ?_)
            obtain ⟨hP1, hK1, hD1⟩ := hB
            rw [ht] at hP1
            obtain ⟨hP, hD⟩ := va_join (wr := [(qm, .inr (2, [.ref qk, .int (zi fj), .int (zi lj)])), (qk, aI cI 366 mg), (qr, .inr (0, [.int (zi mc), .ref qd, .int (zi 0)]))]) (w1 := [(h0, .inr (4, [.ref qs, .ref qr, .ref qm, .ref qw, .ref qt, .int (zi we)])), (qs, aI cI 10 (zup sf sl.toNat nn))]) hP hD [0, 1] [2, 3, 4] rfl rfl (by decide) (by decide) hk1 hFc hP1 hD1
            generalize H1 = H at hP hS ⊢
            obtain rfl : r7 = zi nn := hw
            have hP : va_P (dC, dI) vwCl [(qm, .inr (2, [.ref qk, .int (zi fj), .int (zi lj)])), (qk, aI cI 366 mg), (qr, .inr (0, [.int (zi mc), .ref qd, .int (zi 0)])), (h0, .inr (4, [.ref qs, .ref qr, .ref qm, .ref qw, .ref qt, .int (zi we)])), (qs, aI cI 10 (zup sf sl.toNat nn))] H := hP
            have hD : va_D A [(qm, .inr (2, [.ref qk, .int (zi fj), .int (zi lj)])), (qk, aI cI 366 mg), (qr, .inr (0, [.int (zi mc), .ref qd, .int (zi 0)])), (h0, .inr (4, [.ref qs, .ref qr, .ref qm, .ref qw, .ref qt, .int (zi we)])), (qs, aI cI 10 (zup sf sl.toNat nn))] := hD
            have hP9 := hP.sub (ws' := [(h0, .inr (4, [.ref qs, .ref qr, .ref qm, .ref qw, .ref qt, .int (zi we)])), (qs, aI cI 10 (zup sf sl.toNat nn)), (qm, .inr (2, [.ref qk, .int (zi fj), .int (zi lj)])), (qk, aI cI 366 mg), (qr, .inr (0, [.int (zi mc), .ref qd, .int (zi 0)]))]) [3, 4, 0, 1, 2] rfl
            have hD9 := hD.sub (ws' := [(h0, .inr (4, [.ref qs, .ref qr, .ref qm, .ref qw, .ref qt, .int (zi we)])), (qs, aI cI 10 (zup sf sl.toNat nn)), (qm, .inr (2, [.ref qk, .int (zi fj), .int (zi lj)])), (qk, aI cI 366 mg), (qr, .inr (0, [.int (zi mc), .ref qd, .int (zi 0)]))]) [3, 4, 0, 1, 2] (by decide) rfl
            have hp9 : (0 ≤ fj ∧ fj ≤ 4000000 ∧ 0 ≤ lj ∧ lj ≤ 366) ∧ (zup sf sl.toNat nn) = zup sf sl.toNat rr := by
              exact ⟨mkOk_b hi2, by rw [show nn = rr from by omega]⟩
            exact W.iret (v := zi nn) hx hb hr (fun t ht hW => ⟨⟨zi nn, (fj, lj, mg, (zup sf sl.toNat nn)), rfl, ⟨congrArg zi (by omega), hp9⟩, by rw [ht]; exact hP9, va_K.moved hW.alike hK, hD9⟩, hS.F ht⟩) hS.2.2 dX4_moveWork_114
          · skip
            exact absurd True.intro (by omega)
        · skip
          refine lv_iload_n hx hb dX4_moveWork_74 rfl (lv_at hl 0 rfl) ?_
          refine lv_iload hx hb dX4_moveWork_75 (lv_at hl 5 rfl) ?_
          refine zw_iadd hx hb dX4_moveWork_77 ?_
          refine zw_top (fun x8 ex8 => ?_)
          refine lv_istore_n (lv' := [(3, .int (zi x8)), (5, .int (zi lft)), (0, .ref h0), (1, .int (zi sl)), (2, .int (zi many)), (4, .int (zi (-1)))]) hx hb dX4_moveWork_78 rfl hl (by decide) rfl (fun ls hl => ?_)
          refine lv_aload_n hx hb dX4_moveWork_79 rfl (lv_at hl 2 rfl) ?_
          refine lv_iload_n hx hb dX4_moveWork_80 rfl (lv_at hl 0 rfl) ?_
          have hh9 := c_Xz_isWorking l dC dI cI h0 qs qr qm qw qt we qk fj lj mg mc qd kf af bf zf x8 H.size (by omega) (by omega) (by assumption)
          have hPc := hP.sub (ws' := [(h0, .inr (4, [.ref qs, .ref qr, .ref qm, .ref qw, .ref qt, .int (zi we)])), (qm, .inr (2, [.ref qk, .int (zi fj), .int (zi lj)])), (qk, aI cI 366 mg), (qr, .inr (0, [.int (zi mc), .ref qd, .int (zi 0)]))]) [0, 2, 3, 4] rfl
          have hKc : va_K (dC, dI) vwCl [(cI, .int)] s := hK
          have hDc := hD.sub (ws' := [(h0, .inr (4, [.ref qs, .ref qr, .ref qm, .ref qw, .ref qt, .int (zi we)])), (qm, .inr (2, [.ref qk, .int (zi fj), .int (zi lj)])), (qk, aI cI 366 mg), (qr, .inr (0, [.int (zi mc), .ref qd, .int (zi 0)]))]) [0, 2, 3, 4] (by decide) rfl
          have hFc := va_free (wc := [(h0, .inr (4, [.ref qs, .ref qr, .ref qm, .ref qw, .ref qt, .int (zi we)])), (qm, .inr (2, [.ref qk, .int (zi fj), .int (zi lj)])), (qk, aI cI 366 mg), (qr, .inr (0, [.int (zi mc), .ref qd, .int (zi 0)]))]) hD hS hA [0, 2, 3, 4] rfl
          refine va_calli (va_runV (As := [.int (zi x8)]) (rest := []) ⟨hx, hb, hml, hown, hts⟩ hh9 (cwV 1 hts gX4_moveWork_X4_isWorking rfl rfl rfl (by decide +kernel) ⟨Nat.le_of_ble_eq_true rfl, Nat.le_of_ble_eq_true rfl⟩) ⟨zPw.blind _ _ _ _ _, va_recv hKc hPc (ci := 4) (q0 := 0) rfl rfl, fun U hU hW => ⟨rfl, by rw [hU], by rw [hU]; exact hPc, va_K.moved hW.alike hKc, hDc.weaken (fun _ _ _ _ => trivial)⟩⟩ rfl rfl hl.1 rfl (lv_room (Nat.le_of_ble_eq_true rfl)) dX4_moveWork_81 ⟨Nat.le_of_ble_eq_true rfl, Nat.le_of_ble_eq_true rfl⟩) hS (fun q _ h => hFc q h) hFc (fun r9 u t H1 locs ht hvm hw hB hz1 hk1 hS => ?_)
          obtain ⟨fj_10, lj_10, mg_10⟩ := u
          obtain ⟨hw, hw9⟩ := hw
          replace hw9 : mkOk kf af bf zf 0 fj_10 lj_10 mg_10 := hw9
          obtain ⟨hP1, hK1, hD1⟩ := hB
          rw [ht] at hP1
          replace hP1 : va_P (dC, dI) vwCl [(h0, .inr (4, [.ref qs, .ref qr, .ref qm, .ref qw, .ref qt, .int (zi we)])), (qm, .inr (2, [.ref qk, .int (zi fj_10), .int (zi lj_10)])), (qk, aI cI 366 mg_10), (qr, .inr (0, [.int (zi mc), .ref qd, .int (zi 0)]))] H1 := hP1
          replace hD1 : va_D _ [(h0, .inr (4, [.ref qs, .ref qr, .ref qm, .ref qw, .ref qt, .int (zi we)])), (qm, .inr (2, [.ref qk, .int (zi fj_10), .int (zi lj_10)])), (qk, aI cI 366 mg_10), (qr, .inr (0, [.int (zi mc), .ref qd, .int (zi 0)]))] := hD1
          obtain ⟨hP, hD⟩ := va_join (wr := [(qs, aI cI 10 sf)]) (w1 := [(h0, .inr (4, [.ref qs, .ref qr, .ref qm, .ref qw, .ref qt, .int (zi we)])), (qm, .inr (2, [.ref qk, .int (zi fj_10), .int (zi lj_10)])), (qk, aI cI 366 mg_10), (qr, .inr (0, [.int (zi mc), .ref qd, .int (zi 0)]))]) hP hD [0, 2, 3, 4] [1] rfl rfl (by decide) (by decide) hk1 hFc hP1 hD1
          generalize H1 = H at hP hS ⊢
          obtain rfl : r9 = zi (wkX4 we kf af bf zf 0 x8) := hw
          have hP : va_P (dC, dI) vwCl [(qs, aI cI 10 sf), (h0, .inr (4, [.ref qs, .ref qr, .ref qm, .ref qw, .ref qt, .int (zi we)])), (qm, .inr (2, [.ref qk, .int (zi fj_10), .int (zi lj_10)])), (qk, aI cI 366 mg_10), (qr, .inr (0, [.int (zi mc), .ref qd, .int (zi 0)]))] H := hP
          have hD : va_D A [(qs, aI cI 10 sf), (h0, .inr (4, [.ref qs, .ref qr, .ref qm, .ref qw, .ref qt, .int (zi we)])), (qm, .inr (2, [.ref qk, .int (zi fj_10), .int (zi lj_10)])), (qk, aI cI 366 mg_10), (qr, .inr (0, [.int (zi mc), .ref qd, .int (zi 0)]))] := hD
          have hf9_0 := wkX4_s we kf af bf zf 0 x8
          refine zw_if_eq (tgt := 58) hx hb dX4_moveWork_84 (by decide) ⟨by omega, by omega⟩ (fun h11 => ?_) (fun h11 => ?_)
          · skip
            first | have hmb := mkOk_b hi2 | skip
            subst ex8
            have hP9 := hP.sub (ws' := [(h0, .inr (4, [.ref qs, .ref qr, .ref qm, .ref qw, .ref qt, .int (zi we)])), (qs, aI cI 10 sf), (qm, .inr (2, [.ref qk, .int (zi fj_10), .int (zi lj_10)])), (qk, aI cI 366 mg_10), (qr, .inr (0, [.int (zi mc), .ref qd, .int (zi 0)]))]) [1, 0, 2, 3, 4] rfl
            have hD9 := hD.sub (ws' := [(h0, .inr (4, [.ref qs, .ref qr, .ref qm, .ref qw, .ref qt, .int (zi we)])), (qs, aI cI 10 sf), (qm, .inr (2, [.ref qk, .int (zi fj_10), .int (zi lj_10)])), (qk, aI cI 366 mg_10), (qr, .inr (0, [.int (zi mc), .ref qd, .int (zi 0)]))]) [1, 0, 2, 3, 4] (by decide) rfl
            exact ih (nn + (-1)) lft fj_10 lj_10 mg_10 (by first | (rw [← hi0]; symm; first | (apply zmv_s1 <;> omega) | (apply zmv_s0 <;> omega)) | (rw [show (if 0 ≤ many then many else 0 - many) = (-many) from by omega]; exact hp6)) (by omega) (by first | assumption | exact Or.inl ⟨by omega, by omega, rfl⟩) (by omega) ls _ _ (lv_sub hl [0, 1, 2, 3, 4, 5] rfl) hP9 hD9 hS
          · skip
            obtain ⟨x12, ex12⟩ : ∃ z : Int, z = lft + (-1) := ⟨_, rfl⟩
            refine zw_iinc (lv' := [(5, .int (zi x12)), (3, .int (zi x8)), (0, .ref h0), (1, .int (zi sl)), (2, .int (zi many)), (4, .int (zi (-1)))]) (k := 1) hx hb ex12 dX4_moveWork_87 hl rfl (by decide) rfl (fun ls hl => ?_)
            refine lv_goto (tgt := 58) hx hb dX4_moveWork_90 (by decide) ?_
            first | have hmb := mkOk_b hi2 | skip
            subst ex8 ex12
            have hP9 := hP.sub (ws' := [(h0, .inr (4, [.ref qs, .ref qr, .ref qm, .ref qw, .ref qt, .int (zi we)])), (qs, aI cI 10 sf), (qm, .inr (2, [.ref qk, .int (zi fj_10), .int (zi lj_10)])), (qk, aI cI 366 mg_10), (qr, .inr (0, [.int (zi mc), .ref qd, .int (zi 0)]))]) [1, 0, 2, 3, 4] rfl
            have hD9 := hD.sub (ws' := [(h0, .inr (4, [.ref qs, .ref qr, .ref qm, .ref qw, .ref qt, .int (zi we)])), (qs, aI cI 10 sf), (qm, .inr (2, [.ref qk, .int (zi fj_10), .int (zi lj_10)])), (qk, aI cI 366 mg_10), (qr, .inr (0, [.int (zi mc), .ref qd, .int (zi 0)]))]) [1, 0, 2, 3, 4] (by decide) rfl
            exact ih (nn + (-1)) (lft + (-1)) fj_10 lj_10 mg_10 (by first | (rw [← hi0]; symm; first | (apply zmv_s1 <;> omega) | (apply zmv_s0 <;> omega)) | (rw [show (if 0 ≤ many then many else 0 - many) = (-many) from by omega]; exact hp6)) (by omega) (by first | assumption | exact Or.inl ⟨by omega, by omega, rfl⟩) (by omega) ls _ _ (lv_sub hl [1, 0, 2, 3, 4, 5] rfl) hP9 hD9 hS
  have hl := lv_entry ([.ref h0, .int (zi sl), .int (zi many)]) (n := 6) (Nat.le_of_ble_eq_true rfl)
  rw [lg_entry_eq]
  generalize (lg_sl ([.ref h0, .int (zi sl), .int (zi many)]) ++ List.replicate (6 - (lg_sl ([.ref h0, .int (zi sl), .int (zi many)])).length) Slot.unset).toArray = ls at hl ⊢
  have hl : lv_has ls 6 [(0, .ref h0), (1, .int (zi sl)), (2, .int (zi many))] := hl
  refine lv_iload_n hx hb dX4_moveWork_0 rfl (lv_at hl 1 rfl) ?_
  have hh13 := c_X4_needSlot l sl (by omega)
  refine va_csv (va_Run.run (va_runS (As := [.int (zi sl)]) (rest := []) ⟨hx, hb, hml, hown, hts⟩ hh13 (va_cwS 1 hts gX4_moveWork_X4_needSlot rfl rfl rfl (by decide +kernel) ⟨Nat.le_of_ble_eq_true rfl, Nat.le_of_ble_eq_true rfl⟩) ⟨fun a U g mk q => q, fun U hU hW => ⟨rfl, trivial⟩⟩ rfl rfl hl.1 rfl (lv_room (Nat.le_of_ble_eq_true rfl)) dX4_moveWork_1 ⟨Nat.le_of_ble_eq_true rfl, Nat.le_of_ble_eq_true rfl⟩)) (fun _ => ?_)
  refine lv_aload_n hx hb dX4_moveWork_4 rfl (lv_at hl 0 rfl) ?_
  refine lv_iload_n hx hb dX4_moveWork_5 rfl (lv_at hl 1 rfl) ?_
  have hh14 := c_X4_dateIn l dC dI cI h0 qs qr qm qw qt we sf sl (by omega) (by omega)
  have hPc := hP.sub (ws' := [(h0, .inr (4, [.ref qs, .ref qr, .ref qm, .ref qw, .ref qt, .int (zi we)])), (qs, aI cI 10 sf)]) [0, 1] rfl
  have hKc : va_K (dC, dI) vwCl [(cI, .int)] s := hK
  refine vp_callSi (va_Run.run (va_runV (As := [.int (zi sl)]) (rest := []) ⟨hx, hb, hml, hown, hts⟩ hh14 (cwV 1 hts gX4_moveWork_X4_dateIn rfl rfl rfl (by decide +kernel) ⟨Nat.le_of_ble_eq_true rfl, Nat.le_of_ble_eq_true rfl⟩) ⟨zPr.blind _ _ _ _, va_recv hKc hPc (ci := 4) (q0 := 0) rfl rfl, fun U hU hW => ⟨rfl, by rw [hU]; exact hPc, va_K.moved hW.alike hKc⟩⟩ rfl rfl hl.1 rfl (lv_room (Nat.le_of_ble_eq_true rfl)) dX4_moveWork_6 ⟨Nat.le_of_ble_eq_true rfl, Nat.le_of_ble_eq_true rfl⟩)) (fun r14 (hr14 : r14 = zi (sf sl.toNat)) => ?_)
  subst hr14
  refine zw_top (fun x15 ex15 => ?_)
  refine lv_istore_n (lv' := [(3, .int (zi x15)), (0, .ref h0), (1, .int (zi sl)), (2, .int (zi many))]) hx hb dX4_moveWork_9 rfl hl (by decide) rfl (fun ls hl => ?_)
  refine lv_iload_n hx hb dX4_moveWork_10 rfl (lv_at hl 3 rfl) ?_
  refine zw_sipush hx hb dX4_moveWork_11 (by decide) ?_
  refine zw_icmp_lt (tgt := 24) hx hb dX4_moveWork_14 (by decide) ⟨by omega, by omega⟩ ⟨by omega, by omega⟩ (fun h16 => ?_) (fun h16 => ?_)
  · skip
    exact absurd True.intro (by omega)
  · skip
    refine lv_iload_n hx hb dX4_moveWork_17 rfl (lv_at hl 3 rfl) ?_
    refine zw_sipush hx hb dX4_moveWork_18 (by decide) ?_
    refine zw_icmp_le (tgt := 34) hx hb dX4_moveWork_21 (by decide) ⟨by omega, by omega⟩ ⟨by omega, by omega⟩ (fun h17 => ?_) (fun h17 => ?_)
    · skip
      refine lv_iload_n hx hb dX4_moveWork_34 rfl (lv_at hl 3 rfl) ?_
      refine zw_if_ge (tgt := 42) hx hb dX4_moveWork_35 (by decide) ⟨by omega, by omega⟩ (fun h18 => ?_) (fun h18 => ?_)
      · skip
        exact absurd True.intro (by omega)
      · skip
        refine zw_iconst hx hb dX4_moveWork_38 ?_
        refine lv_goto (tgt := 43) hx hb dX4_moveWork_39 (by decide) ?_
        refine lv_istore (lv' := [(4, .int (zi (-1))), (3, .int (zi x15)), (0, .ref h0), (1, .int (zi sl)), (2, .int (zi many))]) hx hb dX4_moveWork_43 hl (by decide) rfl (fun ls hl => ?_)
        refine lv_iload_n hx hb dX4_moveWork_45 rfl (lv_at hl 4 rfl) ?_
        refine zw_abs hx hb (hml.trans hl.1.symm) hown (hts (.methodLink RX4 164 Lib.Math.abs.name) (by decide +kernel)) (hts (.static Lib.Math.abs.name) (by decide +kernel)) (hts (.initialized "java/lang/Math") (by decide +kernel)) (hts _ (by decide +kernel)) (Nat.le_of_ble_eq_true rfl) (Nat.le_of_ble_eq_true rfl) (Nat.le_of_ble_eq_true rfl) (Nat.le_of_ble_eq_true rfl) dX4_moveWork_46 ⟨by omega, by omega⟩ ?_
        refine zw_top (fun x19 ex19 => ?_)
        refine lv_istore (lv' := [(5, .int (zi x19)), (4, .int (zi (-1))), (3, .int (zi x15)), (0, .ref h0), (1, .int (zi sl)), (2, .int (zi many))]) hx hb dX4_moveWork_49 hl (by decide) rfl (fun ls hl => ?_)
        refine lv_aload_n hx hb dX4_moveWork_51 rfl (lv_at hl 3 rfl) ?_
        refine va_get (D := (dC, dI)) (ci := 4) (v := .ref qm) (C := RX4) (T := TX4) (N := 6) hx hb hts (by decide +kernel) hown hK hP 0 rfl rfl 2 (by decide) (hts (.fieldLink RX4 23 "CivilDays" "marked" "LCivilDays$MarkedYear;") (by decide +kernel)) (fun _ h9 => h9) rfl dX4_moveWork_52 ?_
        have hh20 := c_X2_forget l dC dI cI qm qk fi ln mf s.heap.size 
        have hPc := hP.sub (ws' := [(qm, .inr (2, [.ref qk, .int (zi fi), .int (zi ln)])), (qk, aI cI 366 mf)]) [2, 3] rfl
        have hKc : va_K (dC, dI) vwCl [(cI, .int)] s := hK
        have hDc := hD.sub (ws' := [(qm, .inr (2, [.ref qk, .int (zi fi), .int (zi ln)])), (qk, aI cI 366 mf)]) [2, 3] (by decide) rfl
        have hFc := va_free (wc := [(qm, .inr (2, [.ref qk, .int (zi fi), .int (zi ln)])), (qk, aI cI 366 mf)]) hD hS hA [2, 3] rfl
        refine va_callv (va_runV (As := []) (rest := []) ⟨hx, hb, hml, hown, hts⟩ hh20 (cwV 0 hts gX4_moveWork_X2_forget rfl rfl rfl (by decide +kernel) ⟨Nat.le_of_ble_eq_true rfl, Nat.le_of_ble_eq_true rfl⟩) ⟨zPw.blind _ _ _ _ _, va_recv hKc hPc (ci := 2) (q0 := 0) rfl rfl, fun U hU hW => ⟨rfl, by rw [hU], by rw [hU]; exact hPc, va_K.moved hW.alike hKc, hDc.weaken (fun _ _ _ _ => trivial)⟩⟩ rfl rfl hl.1 rfl (lv_room (Nat.le_of_ble_eq_true rfl)) dX4_moveWork_55 ⟨Nat.le_of_ble_eq_true rfl, Nat.le_of_ble_eq_true rfl⟩) hS (fun q _ h => hFc q h) hFc (fun u t H1 locs ht hvm hw hB hz1 hk1 hS => ?_)
        obtain ⟨hP1, hK1, hD1⟩ := hB
        rw [ht] at hP1
        obtain ⟨hP, hD⟩ := va_join (wr := [(h0, .inr (4, [.ref qs, .ref qr, .ref qm, .ref qw, .ref qt, .int (zi we)])), (qs, aI cI 10 sf), (qr, .inr (0, [.int (zi mc), .ref qd, .int (zi 0)]))]) (w1 := [(qm, .inr (2, [.ref qk, .int (zi fi), .int (zi 0)])), (qk, aI cI 366 mf)]) hP hD [2, 3] [0, 1, 4] rfl rfl (by decide) (by decide) hk1 hFc hP1 hD1
        generalize H1 = H at hP hS ⊢
        have hP : va_P (dC, dI) vwCl [(h0, .inr (4, [.ref qs, .ref qr, .ref qm, .ref qw, .ref qt, .int (zi we)])), (qs, aI cI 10 sf), (qr, .inr (0, [.int (zi mc), .ref qd, .int (zi 0)])), (qm, .inr (2, [.ref qk, .int (zi fi), .int (zi 0)])), (qk, aI cI 366 mf)] H := hP
        have hD : va_D A [(h0, .inr (4, [.ref qs, .ref qr, .ref qm, .ref qw, .ref qt, .int (zi we)])), (qs, aI cI 10 sf), (qr, .inr (0, [.int (zi mc), .ref qd, .int (zi 0)])), (qm, .inr (2, [.ref qk, .int (zi fi), .int (zi 0)])), (qk, aI cI 366 mf)] := hD
        first | have hmb := mkOk_b hi2 | skip
        subst ex15 ex19
        have hP9 := hP.sub (ws' := [(h0, .inr (4, [.ref qs, .ref qr, .ref qm, .ref qw, .ref qt, .int (zi we)])), (qs, aI cI 10 sf), (qm, .inr (2, [.ref qk, .int (zi fi), .int (zi 0)])), (qk, aI cI 366 mf), (qr, .inr (0, [.int (zi mc), .ref qd, .int (zi 0)]))]) [0, 1, 3, 4, 2] rfl
        have hD9 := hD.sub (ws' := [(h0, .inr (4, [.ref qs, .ref qr, .ref qm, .ref qw, .ref qt, .int (zi we)])), (qs, aI cI 10 sf), (qm, .inr (2, [.ref qk, .int (zi fi), .int (zi 0)])), (qk, aI cI 366 mf), (qr, .inr (0, [.int (zi mc), .ref qd, .int (zi 0)]))]) [0, 1, 3, 4, 2] (by decide) rfl
        exact loop58 (fz) (sf sl.toNat) (if 0 ≤ many then many else 0 - many) fi 0 mf (by first | (rw [← hi0]; symm; first | (apply zmv_s1 <;> omega) | (apply zmv_s0 <;> omega)) | (rw [show (if 0 ≤ many then many else 0 - many) = (-many) from by omega]; exact hp6)) (by omega) (by first | assumption | exact Or.inl ⟨by omega, by omega, rfl⟩) (by omega) ls _ _ (lv_sub hl [2, 0, 3, 4, 5, 1] rfl) hP9 hD9 hS
    · skip
      exact absurd True.intro (by omega)

set_option maxHeartbeats 4000000 in
set_option maxRecDepth 100000 in
theorem t_Xz_moveWork_4n (l : Launch) (hst : l.stackTraces = false) (dC : Nat → ClassId) (dI : Nat → Nat → Nat) (cI : ClassId) (h0 : Nat) (qs : Nat) (qr : Nat) (qm : Nat) (qw : Nat) (qt : Nat) (we : Int) (sf : Nat → Int) (qk : Nat) (fi : Int) (ln : Int) (mf : Nat → Int) (mc : Int) (qd : Nat) (kf : Nat → Int) (af : Nat → Int) (bf : Nat → Int) (zf : Nat → Int) (rf : Nat → Nat) (fz : Nat) (rr : Int) (sl : Int) (many : Int) (sz : Nat) (hp0 : 0 ≤ sl ∧ sl ≤ 9) (hp1 : 0 ≤ (sf sl.toNat) ∧ (sf sl.toNat) ≤ 3652058) (hp2 : 0 ≤ we ∧ we ≤ 127) (hp3 : 0 ≤ fi ∧ fi ≤ 4000000 ∧ 0 ≤ ln ∧ ln ≤ 366) (hp4 : -1000 ≤ many ∧ many ≤ 1000 ∧ many < 0) (hp5 : 4000000 ≤ fz) (hp6 : zmv (wkX4 we kf af bf zf 0) (-1) fz (sf sl.toNat) (-many) = rr) (hp7 : rr = -1) : vx_Met l yX4_moveWork wsX4_moveWork ({ frames := 6, cells := 1, slots := 6, locals := 90 }) (zPwF (dC, dI) [(cI, .int)] sz [.ref h0, .int (zi sl), .int (zi many)] [(h0, .inr (4, [.ref qs, .ref qr, .ref qm, .ref qw, .ref qt, .int (zi we)])), (qs, aI cI 10 sf), (qm, .inr (2, [.ref qk, .int (zi fi), .int (zi ln)])), (qk, aI cI 366 mf), (qr, .inr (0, [.int (zi mc), .ref qd, .int (zi 0)]))] (zRE (dC, dI) 0 rf kf af bf zf)) zNo (vx_X (fun (u : (Int) × (Int) × (Nat → Int)) => 0 ≤ u.1 ∧ u.1 ≤ 4000000 ∧ 0 ≤ u.2.1 ∧ u.2.1 ≤ 366) (fun E9 (u : (Int) × (Int) × (Nat → Int)) t9 => E9 = "java/lang/UnsupportedOperationException" ∧ zB (dC, dI) [(cI, .int)] (va_A [(h0, .inr (4, [.ref qs, .ref qr, .ref qm, .ref qw, .ref qt, .int (zi we)])), (qs, aI cI 10 sf), (qm, .inr (2, [.ref qk, .int (zi fi), .int (zi ln)])), (qk, aI cI 366 mf), (qr, .inr (0, [.int (zi mc), .ref qd, .int (zi 0)]))] sz) [(h0, .inr (4, [.ref qs, .ref qr, .ref qm, .ref qw, .ref qt, .int (zi we)])), (qs, aI cI 10 sf), (qm, .inr (2, [.ref qk, .int (zi u.1), .int (zi u.2.1)])), (qk, aI cI 366 u.2.2), (qr, .inr (0, [.int (zi mc), .ref qd, .int (zi 0)]))] () t9) (va_A [(h0, .inr (4, [.ref qs, .ref qr, .ref qm, .ref qw, .ref qt, .int (zi we)])), (qs, aI cI 10 sf), (qm, .inr (2, [.ref qk, .int (zi fi), .int (zi ln)])), (qk, aI cI 366 mf), (qr, .inr (0, [.int (zi mc), .ref qd, .int (zi 0)]))] sz)) 1 6 (va_A [(h0, .inr (4, [.ref qs, .ref qr, .ref qm, .ref qw, .ref qt, .int (zi we)])), (qs, aI cI 10 sf), (qm, .inr (2, [.ref qk, .int (zi fi), .int (zi ln)])), (qk, aI cI 366 mf), (qr, .inr (0, [.int (zi mc), .ref qd, .int (zi 0)]))] sz) := by
  refine vx_ofW (cc := cX4_moveWork) (maxL := 6) (ret := (some .int)) (by decide) rfl ?_
  intro p e s m args below meth c s₁ B hml hno hv
  obtain ⟨rfl, hsz, hP, hK, hD0, hG, hE⟩ := hv
  have hx := B.exec
  have hb := B.bytes
  have hr := B.returns
  have hts := atoms_spec (ws := wsX4_moveWork) B.pre
  have hown : s.vm.findClass RX4 = some m.cls := findClass_of_methodNamed B.named
  have hlocks := B.notSynchronized
  subst hsz
  have hD := hD0.self (sz := s.heap.size)
  generalize hAe : va_A [(h0, .inr (4, [.ref qs, .ref qr, .ref qm, .ref qw, .ref qt, .int (zi we)])), (qs, aI cI 10 sf), (qm, .inr (2, [.ref qk, .int (zi fi), .int (zi ln)])), (qk, aI cI 366 mf), (qr, .inr (0, [.int (zi mc), .ref qd, .int (zi 0)]))] s.heap.size = A at hD hG hE ⊢
  have hA : ∀ q : Nat, s.heap.size ≤ q → A q := fun q h => by rw [← hAe]; exact Or.inr h
  have hS : va_S A s.heap s.heap [] := va_S.rf
  have hP : va_P (dC, dI) vwCl [(h0, .inr (4, [.ref qs, .ref qr, .ref qm, .ref qw, .ref qt, .int (zi we)])), (qs, aI cI 10 sf), (qm, .inr (2, [.ref qk, .int (zi fi), .int (zi ln)])), (qk, aI cI 366 mf), (qr, .inr (0, [.int (zi mc), .ref qd, .int (zi 0)]))] s.heap := hP
  have loop58 : ∀ (fu : Nat) (nn : Int) (lft : Int) (fj : Int) (lj : Int) (mg : Nat → Int), (zmv (wkX4 we kf af bf zf 0) (-1) fu nn lft = rr) → (0 ≤ nn ∧ nn ≤ 3652058 ∧ 0 ≤ lft ∧ lft ≤ 1000) → (mkOk kf af bf zf 0 fj lj mg) → (nn + 2 < fu) → ∀ (ls : Array Slot) (H : Heap) (locs : List Loc), lv_has ls 6 [(3, .int (zi nn)), (5, .int (zi lft)), (0, .ref h0), (1, .int (zi sl)), (2, .int (zi many)), (4, .int (zi (-1)))] → va_P (dC, dI) vwCl [(h0, .inr (4, [.ref qs, .ref qr, .ref qm, .ref qw, .ref qt, .int (zi we)])), (qs, aI cI 10 sf), (qm, .inr (2, [.ref qk, .int (zi fj), .int (zi lj)])), (qk, aI cI 366 mg), (qr, .inr (0, [.int (zi mc), .ref qd, .int (zi 0)]))] H → va_D A [(h0, .inr (4, [.ref qs, .ref qr, .ref qm, .ref qw, .ref qt, .int (zi we)])), (qs, aI cI 10 sf), (qm, .inr (2, [.ref qk, .int (zi fj), .int (zi lj)])), (qk, aI cI 366 mg), (qr, .inr (0, [.int (zi mc), .ref qd, .int (zi 0)]))] → va_S A s.heap H locs → W p l e (headSpec wsX4_moveWork ({ frames := 6, cells := 1, slots := 6, locals := 90 })).room s m ([.ref h0, .int (zi sl), .int (zi many)] : List Value).toArray below meth c H locs 0 0 (vx_MQ below zNo (vx_X (fun (u : (Int) × (Int) × (Nat → Int)) => 0 ≤ u.1 ∧ u.1 ≤ 4000000 ∧ 0 ≤ u.2.1 ∧ u.2.1 ≤ 366) (fun E9 (u : (Int) × (Int) × (Nat → Int)) t9 => E9 = "java/lang/UnsupportedOperationException" ∧ zB (dC, dI) [(cI, .int)] A [(h0, .inr (4, [.ref qs, .ref qr, .ref qm, .ref qw, .ref qt, .int (zi we)])), (qs, aI cI 10 sf), (qm, .inr (2, [.ref qk, .int (zi u.1), .int (zi u.2.1)])), (qk, aI cI 366 u.2.2), (qr, .inr (0, [.int (zi mc), .ref qd, .int (zi 0)]))] () t9) A) ([.ref h0, .int (zi sl), .int (zi many)] : List Value).toArray s 1 6 A) (F0 m 58 ls []) := by
    intro fu
    induction fu with
    | zero =>
      intro nn lft fj lj mg hi0 hi1 hi2 hfu ls H locs hl hP hD hS
      exact absurd hfu (by omega)
    | succ fu ih =>
      intro nn lft fj lj mg hi0 hi1 hi2 hfu ls H locs hl hP hD hS
      have hP : va_P (dC, dI) vwCl [(h0, .inr (4, [.ref qs, .ref qr, .ref qm, .ref qw, .ref qt, .int (zi we)])), (qs, aI cI 10 sf), (qm, .inr (2, [.ref qk, .int (zi fj), .int (zi lj)])), (qk, aI cI 366 mg), (qr, .inr (0, [.int (zi mc), .ref qd, .int (zi 0)]))] H := hP
      have hD : va_D A [(h0, .inr (4, [.ref qs, .ref qr, .ref qm, .ref qw, .ref qt, .int (zi we)])), (qs, aI cI 10 sf), (qm, .inr (2, [.ref qk, .int (zi fj), .int (zi lj)])), (qk, aI cI 366 mg), (qr, .inr (0, [.int (zi mc), .ref qd, .int (zi 0)]))] := hD
      first | have hmb := mkOk_b hi2 | skip
      refine lv_iload hx hb dX4_moveWork_58 (lv_at hl 1 rfl) ?_
      refine zw_if_le (tgt := 93) hx hb dX4_moveWork_60 (by decide) ⟨by omega, by omega⟩ (fun h1 => ?_) (fun h1 => ?_)
      · skip
        first | have hz := zmv_0 (wkX4 we kf af bf zf 0) (-1) fu nn lft (by omega) | have hz := zmv_x (wkX4 we kf af bf zf 0) (-1) fu nn lft (by omega) (by omega)
        refine lv_iload hx hb dX4_moveWork_93 (lv_at hl 1 rfl) ?_
        refine zw_if_le (tgt := 108) hx hb dX4_moveWork_95 (by decide) ⟨by omega, by omega⟩ (fun h2 => ?_) (fun h2 => ?_)
        · skip
          exact absurd True.intro (by omega)
        · skip
          have hP9 := hP.sub (ws' := [(h0, .inr (4, [.ref qs, .ref qr, .ref qm, .ref qw, .ref qt, .int (zi we)])), (qs, aI cI 10 sf), (qm, .inr (2, [.ref qk, .int (zi fj), .int (zi lj)])), (qk, aI cI 366 mg), (qr, .inr (0, [.int (zi mc), .ref qd, .int (zi 0)]))]) [0, 1, 2, 3, 4] rfl
          have hD9 := hD.sub (ws' := [(h0, .inr (4, [.ref qs, .ref qr, .ref qm, .ref qw, .ref qt, .int (zi we)])), (qs, aI cI 10 sf), (qm, .inr (2, [.ref qk, .int (zi fj), .int (zi lj)])), (qk, aI cI 366 mg), (qr, .inr (0, [.int (zi mc), .ref qd, .int (zi 0)]))]) [0, 1, 2, 3, 4] (by decide) rfl
          have hp9 : 0 ≤ fj ∧ fj ≤ 4000000 ∧ 0 ≤ lj ∧ lj ≤ 366 := by
            exact mkOk_b hi2
          exact zt_throwW (cls := "java/lang/UnsupportedOperationException") (text := "the date is beyond the years") (ik := 81) (is := 83) (ic := 85) hx hb hst hown hE (by decide +kernel) (hts (.classLink RX4 81 "java/lang/UnsupportedOperationException") (by decide +kernel)) (hts (.initialized "java/lang/UnsupportedOperationException") (by decide +kernel)) (by decide) (fun w h => hts w (List.mem_cons_of_mem _ (List.mem_append_left _ (List.mem_append_left _ (List.mem_append_right _ h))))) (by decide +kernel) (by decide +kernel) (hl.1.trans hml.symm) dX4_moveWork_98 dX4_moveWork_101 dX4_moveWork_102 dX4_moveWork_104 dX4_moveWork_107 hno (Nat.le_of_ble_eq_true rfl) (Nat.le_of_ble_eq_true rfl) (Nat.le_of_ble_eq_true rfl) (Nat.le_of_ble_eq_true rfl) hlocks hS (fj, lj, mg) hp9 (fun t ha hz hk => ⟨zk_world hP9 hk, va_K.moved ha hK, hD9⟩)
      · skip
        refine lv_iload_n hx hb dX4_moveWork_63 rfl (lv_at hl 0 rfl) ?_
        refine lv_iload hx hb dX4_moveWork_64 (lv_at hl 5 rfl) ?_
        refine zw_iadd hx hb dX4_moveWork_66 ?_
        refine zw_i2l hx hb dX4_moveWork_67 ⟨by omega, by omega⟩ ?_
        have hh3 := c_X0_isNumber l (nn + (-1)) (by omega)
        refine vp_callSi (va_Run.run (va_runS (As := [.long (zl (nn + (-1)))]) (rest := []) ⟨hx, hb, hml, hown, hts⟩ hh3 (va_cwS 1 hts gX4_moveWork_X0_isNumber rfl rfl rfl (by decide +kernel) ⟨Nat.le_of_ble_eq_true rfl, Nat.le_of_ble_eq_true rfl⟩) ⟨fun a U g mk q => q, fun U hU hW => ⟨rfl, trivial⟩⟩ rfl rfl hl.1 rfl (lv_room (Nat.le_of_ble_eq_true rfl)) dX4_moveWork_68 ⟨Nat.zero_le _, Nat.zero_le _⟩)) (fun r3 (hr3 : r3 = zi (f_X0_isNumber (nn + (-1)))) => ?_)
        subst hr3
        have hf3 := b_X0_isNumber (nn + (-1)) (by omega)
        refine zw_if_eq (tgt := 93) hx hb dX4_moveWork_71 (by decide) ⟨by omega, by omega⟩ (fun h4 => ?_) (fun h4 => ?_)
        · skip
          first | have hz := zmv_0 (wkX4 we kf af bf zf 0) (-1) fu nn lft (by omega) | have hz := zmv_x (wkX4 we kf af bf zf 0) (-1) fu nn lft (by omega) (by omega)
          refine lv_iload hx hb dX4_moveWork_93 (lv_at hl 1 rfl) ?_
          refine zw_if_le (tgt := 108) hx hb dX4_moveWork_95 (by decide) ⟨by omega, by omega⟩ (fun h5 => ?_) (fun h5 => ?_)
          · skip
            exact absurd True.intro (by omega)
          · skip
            have hP9 := hP.sub (ws' := [(h0, .inr (4, [.ref qs, .ref qr, .ref qm, .ref qw, .ref qt, .int (zi we)])), (qs, aI cI 10 sf), (qm, .inr (2, [.ref qk, .int (zi fj), .int (zi lj)])), (qk, aI cI 366 mg), (qr, .inr (0, [.int (zi mc), .ref qd, .int (zi 0)]))]) [0, 1, 2, 3, 4] rfl
            have hD9 := hD.sub (ws' := [(h0, .inr (4, [.ref qs, .ref qr, .ref qm, .ref qw, .ref qt, .int (zi we)])), (qs, aI cI 10 sf), (qm, .inr (2, [.ref qk, .int (zi fj), .int (zi lj)])), (qk, aI cI 366 mg), (qr, .inr (0, [.int (zi mc), .ref qd, .int (zi 0)]))]) [0, 1, 2, 3, 4] (by decide) rfl
            have hp9 : 0 ≤ fj ∧ fj ≤ 4000000 ∧ 0 ≤ lj ∧ lj ≤ 366 := by
              exact mkOk_b hi2
            exact zt_throwW (cls := "java/lang/UnsupportedOperationException") (text := "the date is beyond the years") (ik := 81) (is := 83) (ic := 85) hx hb hst hown hE (by decide +kernel) (hts (.classLink RX4 81 "java/lang/UnsupportedOperationException") (by decide +kernel)) (hts (.initialized "java/lang/UnsupportedOperationException") (by decide +kernel)) (by decide) (fun w h => hts w (List.mem_cons_of_mem _ (List.mem_append_left _ (List.mem_append_left _ (List.mem_append_right _ h))))) (by decide +kernel) (by decide +kernel) (hl.1.trans hml.symm) dX4_moveWork_98 dX4_moveWork_101 dX4_moveWork_102 dX4_moveWork_104 dX4_moveWork_107 hno (Nat.le_of_ble_eq_true rfl) (Nat.le_of_ble_eq_true rfl) (Nat.le_of_ble_eq_true rfl) (Nat.le_of_ble_eq_true rfl) hlocks hS (fj, lj, mg) hp9 (fun t ha hz hk => ⟨zk_world hP9 hk, va_K.moved ha hK, hD9⟩)
        · skip
          refine lv_iload_n hx hb dX4_moveWork_74 rfl (lv_at hl 0 rfl) ?_
          refine lv_iload hx hb dX4_moveWork_75 (lv_at hl 5 rfl) ?_
          refine zw_iadd hx hb dX4_moveWork_77 ?_
          refine zw_top (fun x6 ex6 => ?_)
          refine lv_istore_n (lv' := [(3, .int (zi x6)), (5, .int (zi lft)), (0, .ref h0), (1, .int (zi sl)), (2, .int (zi many)), (4, .int (zi (-1)))]) hx hb dX4_moveWork_78 rfl hl (by decide) rfl (fun ls hl => ?_)
          refine lv_aload_n hx hb dX4_moveWork_79 rfl (lv_at hl 2 rfl) ?_
          refine lv_iload_n hx hb dX4_moveWork_80 rfl (lv_at hl 0 rfl) ?_
          have hh7 := c_Xz_isWorking l dC dI cI h0 qs qr qm qw qt we qk fj lj mg mc qd kf af bf zf x6 H.size (by omega) (by omega) (by assumption)
          have hPc := hP.sub (ws' := [(h0, .inr (4, [.ref qs, .ref qr, .ref qm, .ref qw, .ref qt, .int (zi we)])), (qm, .inr (2, [.ref qk, .int (zi fj), .int (zi lj)])), (qk, aI cI 366 mg), (qr, .inr (0, [.int (zi mc), .ref qd, .int (zi 0)]))]) [0, 2, 3, 4] rfl
          have hKc : va_K (dC, dI) vwCl [(cI, .int)] s := hK
          have hDc := hD.sub (ws' := [(h0, .inr (4, [.ref qs, .ref qr, .ref qm, .ref qw, .ref qt, .int (zi we)])), (qm, .inr (2, [.ref qk, .int (zi fj), .int (zi lj)])), (qk, aI cI 366 mg), (qr, .inr (0, [.int (zi mc), .ref qd, .int (zi 0)]))]) [0, 2, 3, 4] (by decide) rfl
          have hFc := va_free (wc := [(h0, .inr (4, [.ref qs, .ref qr, .ref qm, .ref qw, .ref qt, .int (zi we)])), (qm, .inr (2, [.ref qk, .int (zi fj), .int (zi lj)])), (qk, aI cI 366 mg), (qr, .inr (0, [.int (zi mc), .ref qd, .int (zi 0)]))]) hD hS hA [0, 2, 3, 4] rfl
          refine va_calli (va_runV (As := [.int (zi x6)]) (rest := []) ⟨hx, hb, hml, hown, hts⟩ hh7 (cwV 1 hts gX4_moveWork_X4_isWorking rfl rfl rfl (by decide +kernel) ⟨Nat.le_of_ble_eq_true rfl, Nat.le_of_ble_eq_true rfl⟩) ⟨zPw.blind _ _ _ _ _, va_recv hKc hPc (ci := 4) (q0 := 0) rfl rfl, fun U hU hW => ⟨rfl, by rw [hU], by rw [hU]; exact hPc, va_K.moved hW.alike hKc, hDc.weaken (fun _ _ _ _ => trivial)⟩⟩ rfl rfl hl.1 rfl (lv_room (Nat.le_of_ble_eq_true rfl)) dX4_moveWork_81 ⟨Nat.le_of_ble_eq_true rfl, Nat.le_of_ble_eq_true rfl⟩) hS (fun q _ h => hFc q h) hFc (fun r7 u t H1 locs ht hvm hw hB hz1 hk1 hS => ?_)
          obtain ⟨fj_8, lj_8, mg_8⟩ := u
          obtain ⟨hw, hw7⟩ := hw
          replace hw7 : mkOk kf af bf zf 0 fj_8 lj_8 mg_8 := hw7
          obtain ⟨hP1, hK1, hD1⟩ := hB
          rw [ht] at hP1
          replace hP1 : va_P (dC, dI) vwCl [(h0, .inr (4, [.ref qs, .ref qr, .ref qm, .ref qw, .ref qt, .int (zi we)])), (qm, .inr (2, [.ref qk, .int (zi fj_8), .int (zi lj_8)])), (qk, aI cI 366 mg_8), (qr, .inr (0, [.int (zi mc), .ref qd, .int (zi 0)]))] H1 := hP1
          replace hD1 : va_D _ [(h0, .inr (4, [.ref qs, .ref qr, .ref qm, .ref qw, .ref qt, .int (zi we)])), (qm, .inr (2, [.ref qk, .int (zi fj_8), .int (zi lj_8)])), (qk, aI cI 366 mg_8), (qr, .inr (0, [.int (zi mc), .ref qd, .int (zi 0)]))] := hD1
          obtain ⟨hP, hD⟩ := va_join (wr := [(qs, aI cI 10 sf)]) (w1 := [(h0, .inr (4, [.ref qs, .ref qr, .ref qm, .ref qw, .ref qt, .int (zi we)])), (qm, .inr (2, [.ref qk, .int (zi fj_8), .int (zi lj_8)])), (qk, aI cI 366 mg_8), (qr, .inr (0, [.int (zi mc), .ref qd, .int (zi 0)]))]) hP hD [0, 2, 3, 4] [1] rfl rfl (by decide) (by decide) hk1 hFc hP1 hD1
          generalize H1 = H at hP hS ⊢
          obtain rfl : r7 = zi (wkX4 we kf af bf zf 0 x6) := hw
          have hP : va_P (dC, dI) vwCl [(qs, aI cI 10 sf), (h0, .inr (4, [.ref qs, .ref qr, .ref qm, .ref qw, .ref qt, .int (zi we)])), (qm, .inr (2, [.ref qk, .int (zi fj_8), .int (zi lj_8)])), (qk, aI cI 366 mg_8), (qr, .inr (0, [.int (zi mc), .ref qd, .int (zi 0)]))] H := hP
          have hD : va_D A [(qs, aI cI 10 sf), (h0, .inr (4, [.ref qs, .ref qr, .ref qm, .ref qw, .ref qt, .int (zi we)])), (qm, .inr (2, [.ref qk, .int (zi fj_8), .int (zi lj_8)])), (qk, aI cI 366 mg_8), (qr, .inr (0, [.int (zi mc), .ref qd, .int (zi 0)]))] := hD
          have hf7_0 := wkX4_s we kf af bf zf 0 x6
          refine zw_if_eq (tgt := 58) hx hb dX4_moveWork_84 (by decide) ⟨by omega, by omega⟩ (fun h9 => ?_) (fun h9 => ?_)
          · skip
            first | have hmb := mkOk_b hi2 | skip
            subst ex6
            have hP9 := hP.sub (ws' := [(h0, .inr (4, [.ref qs, .ref qr, .ref qm, .ref qw, .ref qt, .int (zi we)])), (qs, aI cI 10 sf), (qm, .inr (2, [.ref qk, .int (zi fj_8), .int (zi lj_8)])), (qk, aI cI 366 mg_8), (qr, .inr (0, [.int (zi mc), .ref qd, .int (zi 0)]))]) [1, 0, 2, 3, 4] rfl
            have hD9 := hD.sub (ws' := [(h0, .inr (4, [.ref qs, .ref qr, .ref qm, .ref qw, .ref qt, .int (zi we)])), (qs, aI cI 10 sf), (qm, .inr (2, [.ref qk, .int (zi fj_8), .int (zi lj_8)])), (qk, aI cI 366 mg_8), (qr, .inr (0, [.int (zi mc), .ref qd, .int (zi 0)]))]) [1, 0, 2, 3, 4] (by decide) rfl
            exact ih (nn + (-1)) lft fj_8 lj_8 mg_8 (by first | (rw [← hi0]; symm; first | (apply zmv_s1 <;> omega) | (apply zmv_s0 <;> omega)) | (rw [show (if 0 ≤ many then many else 0 - many) = (-many) from by omega]; exact hp6)) (by omega) (by first | assumption | exact Or.inl ⟨by omega, by omega, rfl⟩) (by omega) ls _ _ (lv_sub hl [0, 1, 2, 3, 4, 5] rfl) hP9 hD9 hS
          · skip
            obtain ⟨x10, ex10⟩ : ∃ z : Int, z = lft + (-1) := ⟨_, rfl⟩
            refine zw_iinc (lv' := [(5, .int (zi x10)), (3, .int (zi x6)), (0, .ref h0), (1, .int (zi sl)), (2, .int (zi many)), (4, .int (zi (-1)))]) (k := 1) hx hb ex10 dX4_moveWork_87 hl rfl (by decide) rfl (fun ls hl => ?_)
            refine lv_goto (tgt := 58) hx hb dX4_moveWork_90 (by decide) ?_
            first | have hmb := mkOk_b hi2 | skip
            subst ex6 ex10
            have hP9 := hP.sub (ws' := [(h0, .inr (4, [.ref qs, .ref qr, .ref qm, .ref qw, .ref qt, .int (zi we)])), (qs, aI cI 10 sf), (qm, .inr (2, [.ref qk, .int (zi fj_8), .int (zi lj_8)])), (qk, aI cI 366 mg_8), (qr, .inr (0, [.int (zi mc), .ref qd, .int (zi 0)]))]) [1, 0, 2, 3, 4] rfl
            have hD9 := hD.sub (ws' := [(h0, .inr (4, [.ref qs, .ref qr, .ref qm, .ref qw, .ref qt, .int (zi we)])), (qs, aI cI 10 sf), (qm, .inr (2, [.ref qk, .int (zi fj_8), .int (zi lj_8)])), (qk, aI cI 366 mg_8), (qr, .inr (0, [.int (zi mc), .ref qd, .int (zi 0)]))]) [1, 0, 2, 3, 4] (by decide) rfl
            exact ih (nn + (-1)) (lft + (-1)) fj_8 lj_8 mg_8 (by first | (rw [← hi0]; symm; first | (apply zmv_s1 <;> omega) | (apply zmv_s0 <;> omega)) | (rw [show (if 0 ≤ many then many else 0 - many) = (-many) from by omega]; exact hp6)) (by omega) (by first | assumption | exact Or.inl ⟨by omega, by omega, rfl⟩) (by omega) ls _ _ (lv_sub hl [1, 0, 2, 3, 4, 5] rfl) hP9 hD9 hS
  have hl := lv_entry ([.ref h0, .int (zi sl), .int (zi many)]) (n := 6) (Nat.le_of_ble_eq_true rfl)
  rw [lg_entry_eq]
  generalize (lg_sl ([.ref h0, .int (zi sl), .int (zi many)]) ++ List.replicate (6 - (lg_sl ([.ref h0, .int (zi sl), .int (zi many)])).length) Slot.unset).toArray = ls at hl ⊢
  have hl : lv_has ls 6 [(0, .ref h0), (1, .int (zi sl)), (2, .int (zi many))] := hl
  refine lv_iload_n hx hb dX4_moveWork_0 rfl (lv_at hl 1 rfl) ?_
  have hh11 := c_X4_needSlot l sl (by omega)
  refine va_csv (va_Run.run (va_runS (As := [.int (zi sl)]) (rest := []) ⟨hx, hb, hml, hown, hts⟩ hh11 (va_cwS 1 hts gX4_moveWork_X4_needSlot rfl rfl rfl (by decide +kernel) ⟨Nat.le_of_ble_eq_true rfl, Nat.le_of_ble_eq_true rfl⟩) ⟨fun a U g mk q => q, fun U hU hW => ⟨rfl, trivial⟩⟩ rfl rfl hl.1 rfl (lv_room (Nat.le_of_ble_eq_true rfl)) dX4_moveWork_1 ⟨Nat.le_of_ble_eq_true rfl, Nat.le_of_ble_eq_true rfl⟩)) (fun _ => ?_)
  refine lv_aload_n hx hb dX4_moveWork_4 rfl (lv_at hl 0 rfl) ?_
  refine lv_iload_n hx hb dX4_moveWork_5 rfl (lv_at hl 1 rfl) ?_
  have hh12 := c_X4_dateIn l dC dI cI h0 qs qr qm qw qt we sf sl (by omega) (by omega)
  have hPc := hP.sub (ws' := [(h0, .inr (4, [.ref qs, .ref qr, .ref qm, .ref qw, .ref qt, .int (zi we)])), (qs, aI cI 10 sf)]) [0, 1] rfl
  have hKc : va_K (dC, dI) vwCl [(cI, .int)] s := hK
  refine vp_callSi (va_Run.run (va_runV (As := [.int (zi sl)]) (rest := []) ⟨hx, hb, hml, hown, hts⟩ hh12 (cwV 1 hts gX4_moveWork_X4_dateIn rfl rfl rfl (by decide +kernel) ⟨Nat.le_of_ble_eq_true rfl, Nat.le_of_ble_eq_true rfl⟩) ⟨zPr.blind _ _ _ _, va_recv hKc hPc (ci := 4) (q0 := 0) rfl rfl, fun U hU hW => ⟨rfl, by rw [hU]; exact hPc, va_K.moved hW.alike hKc⟩⟩ rfl rfl hl.1 rfl (lv_room (Nat.le_of_ble_eq_true rfl)) dX4_moveWork_6 ⟨Nat.le_of_ble_eq_true rfl, Nat.le_of_ble_eq_true rfl⟩)) (fun r12 (hr12 : r12 = zi (sf sl.toNat)) => ?_)
  subst hr12
  refine zw_top (fun x13 ex13 => ?_)
  refine lv_istore_n (lv' := [(3, .int (zi x13)), (0, .ref h0), (1, .int (zi sl)), (2, .int (zi many))]) hx hb dX4_moveWork_9 rfl hl (by decide) rfl (fun ls hl => ?_)
  refine lv_iload_n hx hb dX4_moveWork_10 rfl (lv_at hl 3 rfl) ?_
  refine zw_sipush hx hb dX4_moveWork_11 (by decide) ?_
  refine zw_icmp_lt (tgt := 24) hx hb dX4_moveWork_14 (by decide) ⟨by omega, by omega⟩ ⟨by omega, by omega⟩ (fun h14 => ?_) (fun h14 => ?_)
  · skip
    exact absurd True.intro (by omega)
  · skip
    refine lv_iload_n hx hb dX4_moveWork_17 rfl (lv_at hl 3 rfl) ?_
    refine zw_sipush hx hb dX4_moveWork_18 (by decide) ?_
    refine zw_icmp_le (tgt := 34) hx hb dX4_moveWork_21 (by decide) ⟨by omega, by omega⟩ ⟨by omega, by omega⟩ (fun h15 => ?_) (fun h15 => ?_)
    · skip
      refine lv_iload_n hx hb dX4_moveWork_34 rfl (lv_at hl 3 rfl) ?_
      refine zw_if_ge (tgt := 42) hx hb dX4_moveWork_35 (by decide) ⟨by omega, by omega⟩ (fun h16 => ?_) (fun h16 => ?_)
      · skip
        exact absurd True.intro (by omega)
      · skip
        refine zw_iconst hx hb dX4_moveWork_38 ?_
        refine lv_goto (tgt := 43) hx hb dX4_moveWork_39 (by decide) ?_
        refine lv_istore (lv' := [(4, .int (zi (-1))), (3, .int (zi x13)), (0, .ref h0), (1, .int (zi sl)), (2, .int (zi many))]) hx hb dX4_moveWork_43 hl (by decide) rfl (fun ls hl => ?_)
        refine lv_iload_n hx hb dX4_moveWork_45 rfl (lv_at hl 4 rfl) ?_
        refine zw_abs hx hb (hml.trans hl.1.symm) hown (hts (.methodLink RX4 164 Lib.Math.abs.name) (by decide +kernel)) (hts (.static Lib.Math.abs.name) (by decide +kernel)) (hts (.initialized "java/lang/Math") (by decide +kernel)) (hts _ (by decide +kernel)) (Nat.le_of_ble_eq_true rfl) (Nat.le_of_ble_eq_true rfl) (Nat.le_of_ble_eq_true rfl) (Nat.le_of_ble_eq_true rfl) dX4_moveWork_46 ⟨by omega, by omega⟩ ?_
        refine zw_top (fun x17 ex17 => ?_)
        refine lv_istore (lv' := [(5, .int (zi x17)), (4, .int (zi (-1))), (3, .int (zi x13)), (0, .ref h0), (1, .int (zi sl)), (2, .int (zi many))]) hx hb dX4_moveWork_49 hl (by decide) rfl (fun ls hl => ?_)
        refine lv_aload_n hx hb dX4_moveWork_51 rfl (lv_at hl 3 rfl) ?_
        refine va_get (D := (dC, dI)) (ci := 4) (v := .ref qm) (C := RX4) (T := TX4) (N := 6) hx hb hts (by decide +kernel) hown hK hP 0 rfl rfl 2 (by decide) (hts (.fieldLink RX4 23 "CivilDays" "marked" "LCivilDays$MarkedYear;") (by decide +kernel)) (fun _ h9 => h9) rfl dX4_moveWork_52 ?_
        have hh18 := c_X2_forget l dC dI cI qm qk fi ln mf s.heap.size 
        have hPc := hP.sub (ws' := [(qm, .inr (2, [.ref qk, .int (zi fi), .int (zi ln)])), (qk, aI cI 366 mf)]) [2, 3] rfl
        have hKc : va_K (dC, dI) vwCl [(cI, .int)] s := hK
        have hDc := hD.sub (ws' := [(qm, .inr (2, [.ref qk, .int (zi fi), .int (zi ln)])), (qk, aI cI 366 mf)]) [2, 3] (by decide) rfl
        have hFc := va_free (wc := [(qm, .inr (2, [.ref qk, .int (zi fi), .int (zi ln)])), (qk, aI cI 366 mf)]) hD hS hA [2, 3] rfl
        refine va_callv (va_runV (As := []) (rest := []) ⟨hx, hb, hml, hown, hts⟩ hh18 (cwV 0 hts gX4_moveWork_X2_forget rfl rfl rfl (by decide +kernel) ⟨Nat.le_of_ble_eq_true rfl, Nat.le_of_ble_eq_true rfl⟩) ⟨zPw.blind _ _ _ _ _, va_recv hKc hPc (ci := 2) (q0 := 0) rfl rfl, fun U hU hW => ⟨rfl, by rw [hU], by rw [hU]; exact hPc, va_K.moved hW.alike hKc, hDc.weaken (fun _ _ _ _ => trivial)⟩⟩ rfl rfl hl.1 rfl (lv_room (Nat.le_of_ble_eq_true rfl)) dX4_moveWork_55 ⟨Nat.le_of_ble_eq_true rfl, Nat.le_of_ble_eq_true rfl⟩) hS (fun q _ h => hFc q h) hFc (fun u t H1 locs ht hvm hw hB hz1 hk1 hS => ?_)
        obtain ⟨hP1, hK1, hD1⟩ := hB
        rw [ht] at hP1
        obtain ⟨hP, hD⟩ := va_join (wr := [(h0, .inr (4, [.ref qs, .ref qr, .ref qm, .ref qw, .ref qt, .int (zi we)])), (qs, aI cI 10 sf), (qr, .inr (0, [.int (zi mc), .ref qd, .int (zi 0)]))]) (w1 := [(qm, .inr (2, [.ref qk, .int (zi fi), .int (zi 0)])), (qk, aI cI 366 mf)]) hP hD [2, 3] [0, 1, 4] rfl rfl (by decide) (by decide) hk1 hFc hP1 hD1
        generalize H1 = H at hP hS ⊢
        have hP : va_P (dC, dI) vwCl [(h0, .inr (4, [.ref qs, .ref qr, .ref qm, .ref qw, .ref qt, .int (zi we)])), (qs, aI cI 10 sf), (qr, .inr (0, [.int (zi mc), .ref qd, .int (zi 0)])), (qm, .inr (2, [.ref qk, .int (zi fi), .int (zi 0)])), (qk, aI cI 366 mf)] H := hP
        have hD : va_D A [(h0, .inr (4, [.ref qs, .ref qr, .ref qm, .ref qw, .ref qt, .int (zi we)])), (qs, aI cI 10 sf), (qr, .inr (0, [.int (zi mc), .ref qd, .int (zi 0)])), (qm, .inr (2, [.ref qk, .int (zi fi), .int (zi 0)])), (qk, aI cI 366 mf)] := hD
        first | have hmb := mkOk_b hi2 | skip
        subst ex13 ex17
        have hP9 := hP.sub (ws' := [(h0, .inr (4, [.ref qs, .ref qr, .ref qm, .ref qw, .ref qt, .int (zi we)])), (qs, aI cI 10 sf), (qm, .inr (2, [.ref qk, .int (zi fi), .int (zi 0)])), (qk, aI cI 366 mf), (qr, .inr (0, [.int (zi mc), .ref qd, .int (zi 0)]))]) [0, 1, 3, 4, 2] rfl
        have hD9 := hD.sub (ws' := [(h0, .inr (4, [.ref qs, .ref qr, .ref qm, .ref qw, .ref qt, .int (zi we)])), (qs, aI cI 10 sf), (qm, .inr (2, [.ref qk, .int (zi fi), .int (zi 0)])), (qk, aI cI 366 mf), (qr, .inr (0, [.int (zi mc), .ref qd, .int (zi 0)]))]) [0, 1, 3, 4, 2] (by decide) rfl
        exact loop58 (fz) (sf sl.toNat) (if 0 ≤ many then many else 0 - many) fi 0 mf (by first | (rw [← hi0]; symm; first | (apply zmv_s1 <;> omega) | (apply zmv_s0 <;> omega)) | (rw [show (if 0 ≤ many then many else 0 - many) = (-many) from by omega]; exact hp6)) (by omega) (by first | assumption | exact Or.inl ⟨by omega, by omega, rfl⟩) (by omega) ls _ _ (lv_sub hl [2, 0, 3, 4, 5, 1] rfl) hP9 hD9 hS
    · skip
      exact absurd True.intro (by omega)

set_option maxHeartbeats 4000000 in
set_option maxRecDepth 100000 in
theorem c_Lz_isHoliday (l : Launch)  (dC : Nat → ClassId) (dI : Nat → Nat → Nat) (cI : ClassId) (cL : ClassId) (cO : ClassId) (h0 : Nat) (qs : Nat) (qr : Nat) (qm : Nat) (qw : Nat) (qt : Nat) (we : Int) (sf : Nat → Int) (mc : Int) (qd : Nat) (qo : Nat) (of : Nat → Int) (sl : Int) (sz : Nat) (hp0 : 0 ≤ sl ∧ sl ≤ 9) (hp1 : 0 ≤ (sf sl.toNat) ∧ (sf sl.toNat) ≤ 3652058) : Met l yL_isHoliday wsL_isHoliday ({ frames := 2, cells := 0, slots := 0, locals := 45 }) (zPw (dC, dI) [(cI, .int), (cL, .long), (cO, .object "java/lang/Object")] sz [.ref h0, .int (zi sl), .ref qo] [(h0, .inr (4, [.ref qs, .ref qr, .ref qm, .ref qw, .ref qt, .int (zi we)])), (qs, aI cI 10 sf), (qr, .inr (0, [.int (zi mc), .ref qd, .int (zi 0)])), (qo, aL cL 1 of)]) (va_Qi (fun (r : Int32) (_ : Unit) => r = zi 0) (zB (dC, dI) [(cI, .int), (cL, .long), (cO, .object "java/lang/Object")] (va_A [(h0, .inr (4, [.ref qs, .ref qr, .ref qm, .ref qw, .ref qt, .int (zi we)])), (qs, aI cI 10 sf), (qr, .inr (0, [.int (zi mc), .ref qd, .int (zi 0)])), (qo, aL cL 1 of)] sz) [(h0, .inr (4, [.ref qs, .ref qr, .ref qm, .ref qw, .ref qt, .int (zi we)])), (qs, aI cI 10 sf), (qr, .inr (0, [.int (zi mc), .ref qd, .int (zi 0)])), (qo, aL cL 1 (zup of (Int.toNat 0) (-1)))]) (va_A [(h0, .inr (4, [.ref qs, .ref qr, .ref qm, .ref qw, .ref qt, .int (zi we)])), (qs, aI cI 10 sf), (qr, .inr (0, [.int (zi mc), .ref qd, .int (zi 0)])), (qo, aL cL 1 of)] sz)) 0 0 (va_A [(h0, .inr (4, [.ref qs, .ref qr, .ref qm, .ref qw, .ref qt, .int (zi we)])), (qs, aI cI 10 sf), (qr, .inr (0, [.int (zi mc), .ref qd, .int (zi 0)])), (qo, aL cL 1 of)] sz) := by
  refine va_MetW (hh := [(0, 9, 12, 13), (0, 9, 15, 35)]) (cc := cL_isHoliday) (maxL := 4) (ret := (some .int)) (by decide) rfl ?_
  intro p e s m args below meth c s₁ B hml hv
  obtain ⟨rfl, hsz, hP, hK, hD0⟩ := hv
  have hx := B.exec
  have hb := B.bytes
  have hr := B.returns
  have hts := atoms_spec (ws := wsL_isHoliday) B.pre
  have hown : s.vm.findClass RL = some m.cls := findClass_of_methodNamed B.named
  have hlocks := B.notSynchronized
  subst hsz
  have hD := hD0.self (sz := s.heap.size)
  generalize hAe : va_A [(h0, .inr (4, [.ref qs, .ref qr, .ref qm, .ref qw, .ref qt, .int (zi we)])), (qs, aI cI 10 sf), (qr, .inr (0, [.int (zi mc), .ref qd, .int (zi 0)])), (qo, aL cL 1 of)] s.heap.size = A at hD ⊢
  have hA : ∀ q : Nat, s.heap.size ≤ q → A q := fun q h => by rw [← hAe]; exact Or.inr h
  have hS : va_S A s.heap s.heap [] := va_S.rf
  have hP : va_P (dC, dI) vwCl [(h0, .inr (4, [.ref qs, .ref qr, .ref qm, .ref qw, .ref qt, .int (zi we)])), (qs, aI cI 10 sf), (qr, .inr (0, [.int (zi mc), .ref qd, .int (zi 0)])), (qo, aL cL 1 of)] s.heap := hP
  have hl := lv_entry ([.ref h0, .int (zi sl), .ref qo]) (n := 4) (Nat.le_of_ble_eq_true rfl)
  rw [lg_entry_eq]
  generalize (lg_sl ([.ref h0, .int (zi sl), .ref qo]) ++ List.replicate (4 - (lg_sl ([.ref h0, .int (zi sl), .ref qo])).length) Slot.unset).toArray = ls at hl ⊢
  have hl : lv_has ls 4 [(0, .ref h0), (1, .int (zi sl)), (2, .ref qo)] := hl
  refine lv_aload_n hx hb dL_isHoliday_0 rfl (lv_at hl 2 rfl) ?_
  refine zw_iconst hx hb dL_isHoliday_1 ?_
  refine lv_aload_n hx hb dL_isHoliday_2 rfl (lv_at hl 0 rfl) ?_
  refine lv_iload_n hx hb dL_isHoliday_3 rfl (lv_at hl 1 rfl) ?_
  have hh1 := c_Xz_isHoliday l dC dI cI h0 qs qr qm qw qt we sf mc qd sl (by first | exact hp0 | omega) (by first | exact hp1 | omega)
  have hPc := hP.sub (ws' := [(h0, .inr (4, [.ref qs, .ref qr, .ref qm, .ref qw, .ref qt, .int (zi we)])), (qs, aI cI 10 sf), (qr, .inr (0, [.int (zi mc), .ref qd, .int (zi 0)]))]) [0, 1, 2] rfl
  have hKc : va_K (dC, dI) vwCl [(cI, .int)] s := hK.sub (tys' := [(cI, .int)]) [0] rfl
  refine vp_callSi (va_Run.run (va_runV (As := [.int (zi sl)]) (rest := [.int (zi 0), .ref qo]) ⟨hx, hb, hml, hown, hts⟩ hh1 (cwV 1 hts gL_isHoliday_X4_isHoliday rfl rfl rfl (by decide +kernel) ⟨Nat.le_of_ble_eq_true rfl, Nat.le_of_ble_eq_true rfl⟩) ⟨zPr.blind _ _ _ _, va_recv hKc hPc (ci := 4) (q0 := 0) rfl rfl, fun U hU hW => ⟨rfl, by rw [hU]; exact hPc, va_K.moved hW.alike hKc⟩⟩ rfl rfl hl.1 rfl (lv_room (Nat.le_of_ble_eq_true rfl)) dL_isHoliday_4 ⟨Nat.le_of_ble_eq_true rfl, Nat.le_of_ble_eq_true rfl⟩)) (fun r1 (hr1 : r1 = zi (-1)) => ?_)
  subst hr1
  refine zw_i2l hx hb dL_isHoliday_7 ⟨by omega, by omega⟩ ?_
  refine zw_last hx hb hK hP hD hS 3 1 rfl rfl (by omega) (by omega) ⟨by omega, by omega⟩ dL_isHoliday_8 (fun H locs hP hD hS => ?_)
  have hP : va_P (dC, dI) vwCl [(h0, .inr (4, [.ref qs, .ref qr, .ref qm, .ref qw, .ref qt, .int (zi we)])), (qs, aI cI 10 sf), (qr, .inr (0, [.int (zi mc), .ref qd, .int (zi 0)])), (qo, aL cL 1 (zup of (Int.toNat 0) (-1)))] H := hP
  have hD : va_D A [(h0, .inr (4, [.ref qs, .ref qr, .ref qm, .ref qw, .ref qt, .int (zi we)])), (qs, aI cI 10 sf), (qr, .inr (0, [.int (zi mc), .ref qd, .int (zi 0)])), (qo, aL cL 1 (zup of (Int.toNat 0) (-1)))] := hD
  refine lv_goto (tgt := 18) hx hb dL_isHoliday_9 (by decide) ?_
  refine zw_iconst hx hb dL_isHoliday_18 ?_
  have hP9 := hP.sub (ws' := [(h0, .inr (4, [.ref qs, .ref qr, .ref qm, .ref qw, .ref qt, .int (zi we)])), (qs, aI cI 10 sf), (qr, .inr (0, [.int (zi mc), .ref qd, .int (zi 0)])), (qo, aL cL 1 (zup of (Int.toNat 0) (-1)))]) [0, 1, 2, 3] rfl
  have hD9 := hD.sub (ws' := [(h0, .inr (4, [.ref qs, .ref qr, .ref qm, .ref qw, .ref qt, .int (zi we)])), (qs, aI cI 10 sf), (qr, .inr (0, [.int (zi mc), .ref qd, .int (zi 0)])), (qo, aL cL 1 (zup of (Int.toNat 0) (-1)))]) [0, 1, 2, 3] (by decide) rfl
  exact W.iret (v := zi 0) hx hb hr (fun t ht hW => ⟨⟨zi 0, (), rfl, rfl, by rw [ht]; exact hP9, va_K.moved hW.alike hK, hD9⟩, hS.F ht⟩) hS.2.2 dL_isHoliday_19

set_option maxHeartbeats 4000000 in
set_option maxRecDepth 100000 in
theorem c_Lz_work (l : Launch)  (dC : Nat → ClassId) (dI : Nat → Nat → Nat) (cI : ClassId) (cL : ClassId) (cO : ClassId) (h0 : Nat) (qs : Nat) (qr : Nat) (qm : Nat) (qw : Nat) (qt : Nat) (we : Int) (sf : Nat → Int) (qk : Nat) (fi : Int) (ln : Int) (mf : Nat → Int) (mc : Int) (qd : Nat) (qo : Nat) (of : Nat → Int) (sl : Int) (ot : Int) (kf : Nat → Int) (af : Nat → Int) (bf : Nat → Int) (zf : Nat → Int) (sz : Nat) (hp0 : 0 ≤ sl ∧ sl ≤ 9) (hp1 : 0 ≤ ot ∧ ot ≤ 9) (hp2 : 0 ≤ (sf sl.toNat) ∧ (sf sl.toNat) ≤ 3652058) (hp3 : 0 ≤ (sf ot.toNat) ∧ (sf ot.toNat) ≤ 3652058) (hp4 : 0 ≤ we ∧ we ≤ 127) (hp5 : 0 ≤ fi ∧ fi ≤ 4000000 ∧ 0 ≤ ln ∧ ln ≤ 366) (hp6 : (max (sf sl.toNat) (sf ot.toNat)) - (min (sf sl.toNat) (sf ot.toNat)) ≤ 4000) : Met l yL_work wsL_work ({ frames := 5, cells := 0, slots := 0, locals := 112 }) (zPw (dC, dI) [(cI, .int), (cL, .long), (cO, .object "java/lang/Object")] sz [.ref h0, .int (zi sl), .int (zi ot), .ref qo] [(h0, .inr (4, [.ref qs, .ref qr, .ref qm, .ref qw, .ref qt, .int (zi we)])), (qs, aI cI 10 sf), (qm, .inr (2, [.ref qk, .int (zi fi), .int (zi ln)])), (qk, aI cI 366 mf), (qr, .inr (0, [.int (zi mc), .ref qd, .int (zi 0)])), (qo, aL cL 1 of)]) (va_Qi (fun (r : Int32) (u : (Int) × (Int) × (Nat → Int)) => r = zi 0 ∧ (0 ≤ u.1 ∧ u.1 ≤ 4000000 ∧ 0 ≤ u.2.1 ∧ u.2.1 ≤ 366)) (fun (u : (Int) × (Int) × (Nat → Int)) => zB (dC, dI) [(cI, .int), (cL, .long), (cO, .object "java/lang/Object")] (va_A [(h0, .inr (4, [.ref qs, .ref qr, .ref qm, .ref qw, .ref qt, .int (zi we)])), (qs, aI cI 10 sf), (qm, .inr (2, [.ref qk, .int (zi fi), .int (zi ln)])), (qk, aI cI 366 mf), (qr, .inr (0, [.int (zi mc), .ref qd, .int (zi 0)])), (qo, aL cL 1 of)] sz) [(h0, .inr (4, [.ref qs, .ref qr, .ref qm, .ref qw, .ref qt, .int (zi we)])), (qs, aI cI 10 sf), (qm, .inr (2, [.ref qk, .int (zi u.1), .int (zi u.2.1)])), (qk, aI cI 366 u.2.2), (qr, .inr (0, [.int (zi mc), .ref qd, .int (zi 0)])), (qo, aL cL 1 (zup of (Int.toNat 0) (if (sf ot.toNat) < (sf sl.toNat) then -(zcn (wkX4 we kf af bf zf 0) ((max (sf sl.toNat) (sf ot.toNat)) - (min (sf sl.toNat) (sf ot.toNat))).toNat (min (sf sl.toNat) (sf ot.toNat))) else zcn (wkX4 we kf af bf zf 0) ((max (sf sl.toNat) (sf ot.toNat)) - (min (sf sl.toNat) (sf ot.toNat))).toNat (min (sf sl.toNat) (sf ot.toNat)))))] ()) (va_A [(h0, .inr (4, [.ref qs, .ref qr, .ref qm, .ref qw, .ref qt, .int (zi we)])), (qs, aI cI 10 sf), (qm, .inr (2, [.ref qk, .int (zi fi), .int (zi ln)])), (qk, aI cI 366 mf), (qr, .inr (0, [.int (zi mc), .ref qd, .int (zi 0)])), (qo, aL cL 1 of)] sz)) 0 0 (va_A [(h0, .inr (4, [.ref qs, .ref qr, .ref qm, .ref qw, .ref qt, .int (zi we)])), (qs, aI cI 10 sf), (qm, .inr (2, [.ref qk, .int (zi fi), .int (zi ln)])), (qk, aI cI 366 mf), (qr, .inr (0, [.int (zi mc), .ref qd, .int (zi 0)])), (qo, aL cL 1 of)] sz) := by
  refine va_MetW (hh := [(0, 10, 13, 13), (0, 10, 17, 35), (0, 10, 21, 15)]) (cc := cL_work) (maxL := 5) (ret := (some .int)) (by decide) rfl ?_
  intro p e s m args below meth c s₁ B hml hv
  obtain ⟨rfl, hsz, hP, hK, hD0⟩ := hv
  have hx := B.exec
  have hb := B.bytes
  have hr := B.returns
  have hts := atoms_spec (ws := wsL_work) B.pre
  have hown : s.vm.findClass RL = some m.cls := findClass_of_methodNamed B.named
  have hlocks := B.notSynchronized
  subst hsz
  have hD := hD0.self (sz := s.heap.size)
  generalize hAe : va_A [(h0, .inr (4, [.ref qs, .ref qr, .ref qm, .ref qw, .ref qt, .int (zi we)])), (qs, aI cI 10 sf), (qm, .inr (2, [.ref qk, .int (zi fi), .int (zi ln)])), (qk, aI cI 366 mf), (qr, .inr (0, [.int (zi mc), .ref qd, .int (zi 0)])), (qo, aL cL 1 of)] s.heap.size = A at hD ⊢
  have hA : ∀ q : Nat, s.heap.size ≤ q → A q := fun q h => by rw [← hAe]; exact Or.inr h
  have hS : va_S A s.heap s.heap [] := va_S.rf
  have hP : va_P (dC, dI) vwCl [(h0, .inr (4, [.ref qs, .ref qr, .ref qm, .ref qw, .ref qt, .int (zi we)])), (qs, aI cI 10 sf), (qm, .inr (2, [.ref qk, .int (zi fi), .int (zi ln)])), (qk, aI cI 366 mf), (qr, .inr (0, [.int (zi mc), .ref qd, .int (zi 0)])), (qo, aL cL 1 of)] s.heap := hP
  have hl := lv_entry ([.ref h0, .int (zi sl), .int (zi ot), .ref qo]) (n := 5) (Nat.le_of_ble_eq_true rfl)
  rw [lg_entry_eq]
  generalize (lg_sl ([.ref h0, .int (zi sl), .int (zi ot), .ref qo]) ++ List.replicate (5 - (lg_sl ([.ref h0, .int (zi sl), .int (zi ot), .ref qo])).length) Slot.unset).toArray = ls at hl ⊢
  have hl : lv_has ls 5 [(0, .ref h0), (1, .int (zi sl)), (2, .int (zi ot)), (3, .ref qo)] := hl
  have hzb := zcn_b (wkX4 we kf af bf zf 0) ((max (sf sl.toNat) (sf ot.toNat)) - (min (sf sl.toNat) (sf ot.toNat))).toNat (min (sf sl.toNat) (sf ot.toNat))
  refine lv_aload_n hx hb dL_work_0 rfl (lv_at hl 3 rfl) ?_
  refine zw_iconst hx hb dL_work_1 ?_
  refine lv_aload_n hx hb dL_work_2 rfl (lv_at hl 0 rfl) ?_
  refine lv_iload_n hx hb dL_work_3 rfl (lv_at hl 1 rfl) ?_
  refine lv_iload_n hx hb dL_work_4 rfl (lv_at hl 2 rfl) ?_
  have hh1 := c_Xz_work l dC dI cI h0 qs qr qm qw qt we sf qk fi ln mf mc qd kf af bf zf sl ot s.heap.size (by first | exact hp0 | omega) (by first | exact hp1 | omega) (by first | exact hp2 | omega) (by first | exact hp3 | omega) (by first | exact hp4 | omega) (by first | exact hp5 | omega) (by first | exact hp6 | omega)
  have hPc := hP.sub (ws' := [(h0, .inr (4, [.ref qs, .ref qr, .ref qm, .ref qw, .ref qt, .int (zi we)])), (qs, aI cI 10 sf), (qm, .inr (2, [.ref qk, .int (zi fi), .int (zi ln)])), (qk, aI cI 366 mf), (qr, .inr (0, [.int (zi mc), .ref qd, .int (zi 0)]))]) [0, 1, 2, 3, 4] rfl
  have hKc : va_K (dC, dI) vwCl [(cI, .int)] s := hK.sub (tys' := [(cI, .int)]) [0] rfl
  have hDc := hD.sub (ws' := [(h0, .inr (4, [.ref qs, .ref qr, .ref qm, .ref qw, .ref qt, .int (zi we)])), (qs, aI cI 10 sf), (qm, .inr (2, [.ref qk, .int (zi fi), .int (zi ln)])), (qk, aI cI 366 mf), (qr, .inr (0, [.int (zi mc), .ref qd, .int (zi 0)]))]) [0, 1, 2, 3, 4] (by decide) rfl
  have hFc := va_free (wc := [(h0, .inr (4, [.ref qs, .ref qr, .ref qm, .ref qw, .ref qt, .int (zi we)])), (qs, aI cI 10 sf), (qm, .inr (2, [.ref qk, .int (zi fi), .int (zi ln)])), (qk, aI cI 366 mf), (qr, .inr (0, [.int (zi mc), .ref qd, .int (zi 0)]))]) hD hS hA [0, 1, 2, 3, 4] rfl
  refine va_calli (va_runV (As := [.int (zi sl), .int (zi ot)]) (rest := [.int (zi 0), .ref qo]) ⟨hx, hb, hml, hown, hts⟩ hh1 (cwV 2 hts gL_work_X4_work rfl rfl rfl (by decide +kernel) ⟨Nat.le_of_ble_eq_true rfl, Nat.le_of_ble_eq_true rfl⟩) ⟨zPw.blind _ _ _ _ _, va_recv hKc hPc (ci := 4) (q0 := 0) rfl rfl, fun U hU hW => ⟨rfl, by rw [hU], by rw [hU]; exact hPc, va_K.moved hW.alike hKc, hDc.weaken (fun _ _ _ _ => trivial)⟩⟩ rfl rfl hl.1 rfl (lv_room (Nat.le_of_ble_eq_true rfl)) dL_work_5 ⟨Nat.le_of_ble_eq_true rfl, Nat.le_of_ble_eq_true rfl⟩) hS (fun q _ h => hFc q h) hFc (fun r1 u t H1 locs ht hvm hw hB hz1 hk1 hS => ?_)
  obtain ⟨fk_2, lk_2, mk_2⟩ := u
  obtain ⟨hw, hw1⟩ := hw
  replace hw1 : 0 ≤ fk_2 ∧ fk_2 ≤ 4000000 ∧ 0 ≤ lk_2 ∧ lk_2 ≤ 366 := hw1
  obtain ⟨hP1, hK1, hD1⟩ := hB
  rw [ht] at hP1
  replace hP1 : va_P (dC, dI) vwCl [(h0, .inr (4, [.ref qs, .ref qr, .ref qm, .ref qw, .ref qt, .int (zi we)])), (qs, aI cI 10 sf), (qm, .inr (2, [.ref qk, .int (zi fk_2), .int (zi lk_2)])), (qk, aI cI 366 mk_2), (qr, .inr (0, [.int (zi mc), .ref qd, .int (zi 0)]))] H1 := hP1
  replace hD1 : va_D _ [(h0, .inr (4, [.ref qs, .ref qr, .ref qm, .ref qw, .ref qt, .int (zi we)])), (qs, aI cI 10 sf), (qm, .inr (2, [.ref qk, .int (zi fk_2), .int (zi lk_2)])), (qk, aI cI 366 mk_2), (qr, .inr (0, [.int (zi mc), .ref qd, .int (zi 0)]))] := hD1
  obtain ⟨hP, hD⟩ := va_join (wr := [(qo, aL cL 1 of)]) (w1 := [(h0, .inr (4, [.ref qs, .ref qr, .ref qm, .ref qw, .ref qt, .int (zi we)])), (qs, aI cI 10 sf), (qm, .inr (2, [.ref qk, .int (zi fk_2), .int (zi lk_2)])), (qk, aI cI 366 mk_2), (qr, .inr (0, [.int (zi mc), .ref qd, .int (zi 0)]))]) hP hD [0, 1, 2, 3, 4] [5] rfl rfl (by decide) (by decide) hk1 hFc hP1 hD1
  generalize H1 = H at hP hS ⊢
  obtain rfl : r1 = zi (if (sf ot.toNat) < (sf sl.toNat) then -(zcn (wkX4 we kf af bf zf 0) ((max (sf sl.toNat) (sf ot.toNat)) - (min (sf sl.toNat) (sf ot.toNat))).toNat (min (sf sl.toNat) (sf ot.toNat))) else zcn (wkX4 we kf af bf zf 0) ((max (sf sl.toNat) (sf ot.toNat)) - (min (sf sl.toNat) (sf ot.toNat))).toNat (min (sf sl.toNat) (sf ot.toNat))) := hw
  have hP : va_P (dC, dI) vwCl [(qo, aL cL 1 of), (h0, .inr (4, [.ref qs, .ref qr, .ref qm, .ref qw, .ref qt, .int (zi we)])), (qs, aI cI 10 sf), (qm, .inr (2, [.ref qk, .int (zi fk_2), .int (zi lk_2)])), (qk, aI cI 366 mk_2), (qr, .inr (0, [.int (zi mc), .ref qd, .int (zi 0)]))] H := hP
  have hD : va_D A [(qo, aL cL 1 of), (h0, .inr (4, [.ref qs, .ref qr, .ref qm, .ref qw, .ref qt, .int (zi we)])), (qs, aI cI 10 sf), (qm, .inr (2, [.ref qk, .int (zi fk_2), .int (zi lk_2)])), (qk, aI cI 366 mk_2), (qr, .inr (0, [.int (zi mc), .ref qd, .int (zi 0)]))] := hD
  refine zw_i2l hx hb dL_work_8 ⟨by omega, by omega⟩ ?_
  refine zw_last hx hb hK hP hD hS 0 1 rfl rfl (by omega) (by omega) ⟨by omega, by omega⟩ dL_work_9 (fun H locs hP hD hS => ?_)
  have hP : va_P (dC, dI) vwCl [(qo, aL cL 1 (zup of (Int.toNat 0) (if (sf ot.toNat) < (sf sl.toNat) then -(zcn (wkX4 we kf af bf zf 0) ((max (sf sl.toNat) (sf ot.toNat)) - (min (sf sl.toNat) (sf ot.toNat))).toNat (min (sf sl.toNat) (sf ot.toNat))) else zcn (wkX4 we kf af bf zf 0) ((max (sf sl.toNat) (sf ot.toNat)) - (min (sf sl.toNat) (sf ot.toNat))).toNat (min (sf sl.toNat) (sf ot.toNat))))), (h0, .inr (4, [.ref qs, .ref qr, .ref qm, .ref qw, .ref qt, .int (zi we)])), (qs, aI cI 10 sf), (qm, .inr (2, [.ref qk, .int (zi fk_2), .int (zi lk_2)])), (qk, aI cI 366 mk_2), (qr, .inr (0, [.int (zi mc), .ref qd, .int (zi 0)]))] H := hP
  have hD : va_D A [(qo, aL cL 1 (zup of (Int.toNat 0) (if (sf ot.toNat) < (sf sl.toNat) then -(zcn (wkX4 we kf af bf zf 0) ((max (sf sl.toNat) (sf ot.toNat)) - (min (sf sl.toNat) (sf ot.toNat))).toNat (min (sf sl.toNat) (sf ot.toNat))) else zcn (wkX4 we kf af bf zf 0) ((max (sf sl.toNat) (sf ot.toNat)) - (min (sf sl.toNat) (sf ot.toNat))).toNat (min (sf sl.toNat) (sf ot.toNat))))), (h0, .inr (4, [.ref qs, .ref qr, .ref qm, .ref qw, .ref qt, .int (zi we)])), (qs, aI cI 10 sf), (qm, .inr (2, [.ref qk, .int (zi fk_2), .int (zi lk_2)])), (qk, aI cI 366 mk_2), (qr, .inr (0, [.int (zi mc), .ref qd, .int (zi 0)]))] := hD
  refine lv_goto (tgt := 25) hx hb dL_work_10 (by decide) ?_
  refine zw_iconst hx hb dL_work_25 ?_
  have hP9 := hP.sub (ws' := [(h0, .inr (4, [.ref qs, .ref qr, .ref qm, .ref qw, .ref qt, .int (zi we)])), (qs, aI cI 10 sf), (qm, .inr (2, [.ref qk, .int (zi fk_2), .int (zi lk_2)])), (qk, aI cI 366 mk_2), (qr, .inr (0, [.int (zi mc), .ref qd, .int (zi 0)])), (qo, aL cL 1 (zup of (Int.toNat 0) (if (sf ot.toNat) < (sf sl.toNat) then -(zcn (wkX4 we kf af bf zf 0) ((max (sf sl.toNat) (sf ot.toNat)) - (min (sf sl.toNat) (sf ot.toNat))).toNat (min (sf sl.toNat) (sf ot.toNat))) else zcn (wkX4 we kf af bf zf 0) ((max (sf sl.toNat) (sf ot.toNat)) - (min (sf sl.toNat) (sf ot.toNat))).toNat (min (sf sl.toNat) (sf ot.toNat)))))]) [1, 2, 3, 4, 5, 0] rfl
  have hD9 := hD.sub (ws' := [(h0, .inr (4, [.ref qs, .ref qr, .ref qm, .ref qw, .ref qt, .int (zi we)])), (qs, aI cI 10 sf), (qm, .inr (2, [.ref qk, .int (zi fk_2), .int (zi lk_2)])), (qk, aI cI 366 mk_2), (qr, .inr (0, [.int (zi mc), .ref qd, .int (zi 0)])), (qo, aL cL 1 (zup of (Int.toNat 0) (if (sf ot.toNat) < (sf sl.toNat) then -(zcn (wkX4 we kf af bf zf 0) ((max (sf sl.toNat) (sf ot.toNat)) - (min (sf sl.toNat) (sf ot.toNat))).toNat (min (sf sl.toNat) (sf ot.toNat))) else zcn (wkX4 we kf af bf zf 0) ((max (sf sl.toNat) (sf ot.toNat)) - (min (sf sl.toNat) (sf ot.toNat))).toNat (min (sf sl.toNat) (sf ot.toNat)))))]) [1, 2, 3, 4, 5, 0] (by decide) rfl
  have hp9 : 0 ≤ fk_2 ∧ fk_2 ≤ 4000000 ∧ 0 ≤ lk_2 ∧ lk_2 ≤ 366 := by
    assumption
  exact W.iret (v := zi 0) hx hb hr (fun t ht hW => ⟨⟨zi 0, (fk_2, lk_2, mk_2), rfl, ⟨rfl, hp9⟩, by rw [ht]; exact hP9, va_K.moved hW.alike hK, hD9⟩, hS.F ht⟩) hS.2.2 dL_work_26

set_option maxHeartbeats 4000000 in
set_option maxRecDepth 100000 in
theorem c_Lz_moveWork_p (l : Launch)  (dC : Nat → ClassId) (dI : Nat → Nat → Nat) (cI : ClassId) (cL : ClassId) (cO : ClassId) (h0 : Nat) (qs : Nat) (qr : Nat) (qm : Nat) (qw : Nat) (qt : Nat) (we : Int) (sf : Nat → Int) (qk : Nat) (fi : Int) (ln : Int) (mf : Nat → Int) (mc : Int) (qd : Nat) (qo : Nat) (of : Nat → Int) (sl : Int) (many : Int) (fz : Nat) (rr : Int) (kf : Nat → Int) (af : Nat → Int) (bf : Nat → Int) (zf : Nat → Int) (sz : Nat) (hp0 : 0 ≤ sl ∧ sl ≤ 9) (hp1 : 0 ≤ (sf sl.toNat) ∧ (sf sl.toNat) ≤ 3652058) (hp2 : 0 ≤ we ∧ we ≤ 127) (hp3 : 0 ≤ fi ∧ fi ≤ 4000000 ∧ 0 ≤ ln ∧ ln ≤ 366) (hp4 : -1000 ≤ many ∧ many ≤ 1000 ∧ 0 ≤ many) (hp5 : 4000000 ≤ fz) (hp6 : zmv (wkX4 we kf af bf zf 0) 1 fz (sf sl.toNat) many = rr) (hp7 : 0 ≤ rr ∧ rr ≤ 3652058) : Met l yL_moveWork wsL_moveWork ({ frames := 5, cells := 0, slots := 0, locals := 110 }) (zPw (dC, dI) [(cI, .int), (cL, .long), (cO, .object "java/lang/Object")] sz [.ref h0, .int (zi sl), .int (zi many), .ref qo] [(h0, .inr (4, [.ref qs, .ref qr, .ref qm, .ref qw, .ref qt, .int (zi we)])), (qs, aI cI 10 sf), (qm, .inr (2, [.ref qk, .int (zi fi), .int (zi ln)])), (qk, aI cI 366 mf), (qr, .inr (0, [.int (zi mc), .ref qd, .int (zi 0)])), (qo, aL cL 1 of)]) (va_Qi (fun (r : Int32) (u : (Int) × (Int) × (Nat → Int) × (Nat → Int)) => r = zi 0 ∧ ((0 ≤ u.1 ∧ u.1 ≤ 4000000 ∧ 0 ≤ u.2.1 ∧ u.2.1 ≤ 366) ∧ u.2.2.2 = zup sf sl.toNat rr)) (fun (u : (Int) × (Int) × (Nat → Int) × (Nat → Int)) => zB (dC, dI) [(cI, .int), (cL, .long), (cO, .object "java/lang/Object")] (va_A [(h0, .inr (4, [.ref qs, .ref qr, .ref qm, .ref qw, .ref qt, .int (zi we)])), (qs, aI cI 10 sf), (qm, .inr (2, [.ref qk, .int (zi fi), .int (zi ln)])), (qk, aI cI 366 mf), (qr, .inr (0, [.int (zi mc), .ref qd, .int (zi 0)])), (qo, aL cL 1 of)] sz) [(h0, .inr (4, [.ref qs, .ref qr, .ref qm, .ref qw, .ref qt, .int (zi we)])), (qs, aI cI 10 u.2.2.2), (qm, .inr (2, [.ref qk, .int (zi u.1), .int (zi u.2.1)])), (qk, aI cI 366 u.2.2.1), (qr, .inr (0, [.int (zi mc), .ref qd, .int (zi 0)])), (qo, aL cL 1 (zup of (Int.toNat 0) rr))] ()) (va_A [(h0, .inr (4, [.ref qs, .ref qr, .ref qm, .ref qw, .ref qt, .int (zi we)])), (qs, aI cI 10 sf), (qm, .inr (2, [.ref qk, .int (zi fi), .int (zi ln)])), (qk, aI cI 366 mf), (qr, .inr (0, [.int (zi mc), .ref qd, .int (zi 0)])), (qo, aL cL 1 of)] sz)) 0 0 (va_A [(h0, .inr (4, [.ref qs, .ref qr, .ref qm, .ref qw, .ref qt, .int (zi we)])), (qs, aI cI 10 sf), (qm, .inr (2, [.ref qk, .int (zi fi), .int (zi ln)])), (qk, aI cI 366 mf), (qr, .inr (0, [.int (zi mc), .ref qd, .int (zi 0)])), (qo, aL cL 1 of)] sz) := by
  refine va_MetW (hh := [(0, 10, 13, 13), (0, 10, 17, 35), (0, 10, 21, 15), (0, 10, 25, 37)]) (cc := cL_moveWork) (maxL := 5) (ret := (some .int)) (by decide) rfl ?_
  intro p e s m args below meth c s₁ B hml hv
  obtain ⟨rfl, hsz, hP, hK, hD0⟩ := hv
  have hx := B.exec
  have hb := B.bytes
  have hr := B.returns
  have hts := atoms_spec (ws := wsL_moveWork) B.pre
  have hown : s.vm.findClass RL = some m.cls := findClass_of_methodNamed B.named
  have hlocks := B.notSynchronized
  subst hsz
  have hD := hD0.self (sz := s.heap.size)
  generalize hAe : va_A [(h0, .inr (4, [.ref qs, .ref qr, .ref qm, .ref qw, .ref qt, .int (zi we)])), (qs, aI cI 10 sf), (qm, .inr (2, [.ref qk, .int (zi fi), .int (zi ln)])), (qk, aI cI 366 mf), (qr, .inr (0, [.int (zi mc), .ref qd, .int (zi 0)])), (qo, aL cL 1 of)] s.heap.size = A at hD ⊢
  have hA : ∀ q : Nat, s.heap.size ≤ q → A q := fun q h => by rw [← hAe]; exact Or.inr h
  have hS : va_S A s.heap s.heap [] := va_S.rf
  have hP : va_P (dC, dI) vwCl [(h0, .inr (4, [.ref qs, .ref qr, .ref qm, .ref qw, .ref qt, .int (zi we)])), (qs, aI cI 10 sf), (qm, .inr (2, [.ref qk, .int (zi fi), .int (zi ln)])), (qk, aI cI 366 mf), (qr, .inr (0, [.int (zi mc), .ref qd, .int (zi 0)])), (qo, aL cL 1 of)] s.heap := hP
  have hl := lv_entry ([.ref h0, .int (zi sl), .int (zi many), .ref qo]) (n := 5) (Nat.le_of_ble_eq_true rfl)
  rw [lg_entry_eq]
  generalize (lg_sl ([.ref h0, .int (zi sl), .int (zi many), .ref qo]) ++ List.replicate (5 - (lg_sl ([.ref h0, .int (zi sl), .int (zi many), .ref qo])).length) Slot.unset).toArray = ls at hl ⊢
  have hl : lv_has ls 5 [(0, .ref h0), (1, .int (zi sl)), (2, .int (zi many)), (3, .ref qo)] := hl
  refine lv_aload_n hx hb dL_moveWork_0 rfl (lv_at hl 3 rfl) ?_
  refine zw_iconst hx hb dL_moveWork_1 ?_
  refine lv_aload_n hx hb dL_moveWork_2 rfl (lv_at hl 0 rfl) ?_
  refine lv_iload_n hx hb dL_moveWork_3 rfl (lv_at hl 1 rfl) ?_
  refine lv_iload_n hx hb dL_moveWork_4 rfl (lv_at hl 2 rfl) ?_
  have hh1 := c_Xz_moveWork_p l dC dI cI h0 qs qr qm qw qt we sf qk fi ln mf mc qd kf af bf zf fz rr sl many s.heap.size (by first | exact hp0 | omega) (by first | exact hp1 | omega) (by first | exact hp2 | omega) (by first | exact hp3 | omega) (by first | exact hp4 | omega) (by first | exact hp5 | omega) (by first | exact hp6 | omega) (by first | exact hp7 | omega)
  have hPc := hP.sub (ws' := [(h0, .inr (4, [.ref qs, .ref qr, .ref qm, .ref qw, .ref qt, .int (zi we)])), (qs, aI cI 10 sf), (qm, .inr (2, [.ref qk, .int (zi fi), .int (zi ln)])), (qk, aI cI 366 mf), (qr, .inr (0, [.int (zi mc), .ref qd, .int (zi 0)]))]) [0, 1, 2, 3, 4] rfl
  have hKc : va_K (dC, dI) vwCl [(cI, .int)] s := hK.sub (tys' := [(cI, .int)]) [0] rfl
  have hDc := hD.sub (ws' := [(h0, .inr (4, [.ref qs, .ref qr, .ref qm, .ref qw, .ref qt, .int (zi we)])), (qs, aI cI 10 sf), (qm, .inr (2, [.ref qk, .int (zi fi), .int (zi ln)])), (qk, aI cI 366 mf), (qr, .inr (0, [.int (zi mc), .ref qd, .int (zi 0)]))]) [0, 1, 2, 3, 4] (by decide) rfl
  have hFc := va_free (wc := [(h0, .inr (4, [.ref qs, .ref qr, .ref qm, .ref qw, .ref qt, .int (zi we)])), (qs, aI cI 10 sf), (qm, .inr (2, [.ref qk, .int (zi fi), .int (zi ln)])), (qk, aI cI 366 mf), (qr, .inr (0, [.int (zi mc), .ref qd, .int (zi 0)]))]) hD hS hA [0, 1, 2, 3, 4] rfl
  refine va_calli (va_runV (As := [.int (zi sl), .int (zi many)]) (rest := [.int (zi 0), .ref qo]) ⟨hx, hb, hml, hown, hts⟩ hh1 (cwV 2 hts gL_moveWork_X4_moveWork rfl rfl rfl (by decide +kernel) ⟨Nat.le_of_ble_eq_true rfl, Nat.le_of_ble_eq_true rfl⟩) ⟨zPw.blind _ _ _ _ _, va_recv hKc hPc (ci := 4) (q0 := 0) rfl rfl, fun U hU hW => ⟨rfl, by rw [hU], by rw [hU]; exact hPc, va_K.moved hW.alike hKc, hDc.weaken (fun _ _ _ _ => trivial)⟩⟩ rfl rfl hl.1 rfl (lv_room (Nat.le_of_ble_eq_true rfl)) dL_moveWork_5 ⟨Nat.le_of_ble_eq_true rfl, Nat.le_of_ble_eq_true rfl⟩) hS (fun q _ h => hFc q h) hFc (fun r1 u t H1 locs ht hvm hw hB hz1 hk1 hS => ?_)
  obtain ⟨fk_2, lk_2, mk_2, sg_2⟩ := u
  obtain ⟨hw, hw1⟩ := hw
  replace hw1 : (0 ≤ fk_2 ∧ fk_2 ≤ 4000000 ∧ 0 ≤ lk_2 ∧ lk_2 ≤ 366) ∧ sg_2 = zup sf sl.toNat rr := hw1
  obtain ⟨hP1, hK1, hD1⟩ := hB
  rw [ht] at hP1
  replace hP1 : va_P (dC, dI) vwCl [(h0, .inr (4, [.ref qs, .ref qr, .ref qm, .ref qw, .ref qt, .int (zi we)])), (qs, aI cI 10 sg_2), (qm, .inr (2, [.ref qk, .int (zi fk_2), .int (zi lk_2)])), (qk, aI cI 366 mk_2), (qr, .inr (0, [.int (zi mc), .ref qd, .int (zi 0)]))] H1 := hP1
  replace hD1 : va_D _ [(h0, .inr (4, [.ref qs, .ref qr, .ref qm, .ref qw, .ref qt, .int (zi we)])), (qs, aI cI 10 sg_2), (qm, .inr (2, [.ref qk, .int (zi fk_2), .int (zi lk_2)])), (qk, aI cI 366 mk_2), (qr, .inr (0, [.int (zi mc), .ref qd, .int (zi 0)]))] := hD1
  obtain ⟨hP, hD⟩ := va_join (wr := [(qo, aL cL 1 of)]) (w1 := [(h0, .inr (4, [.ref qs, .ref qr, .ref qm, .ref qw, .ref qt, .int (zi we)])), (qs, aI cI 10 sg_2), (qm, .inr (2, [.ref qk, .int (zi fk_2), .int (zi lk_2)])), (qk, aI cI 366 mk_2), (qr, .inr (0, [.int (zi mc), .ref qd, .int (zi 0)]))]) hP hD [0, 1, 2, 3, 4] [5] rfl rfl (by decide) (by decide) hk1 hFc hP1 hD1
  generalize H1 = H at hP hS ⊢
  obtain rfl : r1 = zi rr := hw
  have hP : va_P (dC, dI) vwCl [(qo, aL cL 1 of), (h0, .inr (4, [.ref qs, .ref qr, .ref qm, .ref qw, .ref qt, .int (zi we)])), (qs, aI cI 10 sg_2), (qm, .inr (2, [.ref qk, .int (zi fk_2), .int (zi lk_2)])), (qk, aI cI 366 mk_2), (qr, .inr (0, [.int (zi mc), .ref qd, .int (zi 0)]))] H := hP
  have hD : va_D A [(qo, aL cL 1 of), (h0, .inr (4, [.ref qs, .ref qr, .ref qm, .ref qw, .ref qt, .int (zi we)])), (qs, aI cI 10 sg_2), (qm, .inr (2, [.ref qk, .int (zi fk_2), .int (zi lk_2)])), (qk, aI cI 366 mk_2), (qr, .inr (0, [.int (zi mc), .ref qd, .int (zi 0)]))] := hD
  refine zw_i2l hx hb dL_moveWork_8 ⟨by omega, by omega⟩ ?_
  refine zw_last hx hb hK hP hD hS 0 1 rfl rfl (by omega) (by omega) ⟨by omega, by omega⟩ dL_moveWork_9 (fun H locs hP hD hS => ?_)
  have hP : va_P (dC, dI) vwCl [(qo, aL cL 1 (zup of (Int.toNat 0) rr)), (h0, .inr (4, [.ref qs, .ref qr, .ref qm, .ref qw, .ref qt, .int (zi we)])), (qs, aI cI 10 sg_2), (qm, .inr (2, [.ref qk, .int (zi fk_2), .int (zi lk_2)])), (qk, aI cI 366 mk_2), (qr, .inr (0, [.int (zi mc), .ref qd, .int (zi 0)]))] H := hP
  have hD : va_D A [(qo, aL cL 1 (zup of (Int.toNat 0) rr)), (h0, .inr (4, [.ref qs, .ref qr, .ref qm, .ref qw, .ref qt, .int (zi we)])), (qs, aI cI 10 sg_2), (qm, .inr (2, [.ref qk, .int (zi fk_2), .int (zi lk_2)])), (qk, aI cI 366 mk_2), (qr, .inr (0, [.int (zi mc), .ref qd, .int (zi 0)]))] := hD
  refine lv_goto (tgt := 29) hx hb dL_moveWork_10 (by decide) ?_
  refine zw_iconst hx hb dL_moveWork_29 ?_
  have hP9 := hP.sub (ws' := [(h0, .inr (4, [.ref qs, .ref qr, .ref qm, .ref qw, .ref qt, .int (zi we)])), (qs, aI cI 10 sg_2), (qm, .inr (2, [.ref qk, .int (zi fk_2), .int (zi lk_2)])), (qk, aI cI 366 mk_2), (qr, .inr (0, [.int (zi mc), .ref qd, .int (zi 0)])), (qo, aL cL 1 (zup of (Int.toNat 0) rr))]) [1, 2, 3, 4, 5, 0] rfl
  have hD9 := hD.sub (ws' := [(h0, .inr (4, [.ref qs, .ref qr, .ref qm, .ref qw, .ref qt, .int (zi we)])), (qs, aI cI 10 sg_2), (qm, .inr (2, [.ref qk, .int (zi fk_2), .int (zi lk_2)])), (qk, aI cI 366 mk_2), (qr, .inr (0, [.int (zi mc), .ref qd, .int (zi 0)])), (qo, aL cL 1 (zup of (Int.toNat 0) rr))]) [1, 2, 3, 4, 5, 0] (by decide) rfl
  have hp9 : (0 ≤ fk_2 ∧ fk_2 ≤ 4000000 ∧ 0 ≤ lk_2 ∧ lk_2 ≤ 366) ∧ sg_2 = zup sf sl.toNat rr := by
    assumption
  exact W.iret (v := zi 0) hx hb hr (fun t ht hW => ⟨⟨zi 0, (fk_2, lk_2, mk_2, sg_2), rfl, ⟨rfl, hp9⟩, by rw [ht]; exact hP9, va_K.moved hW.alike hK, hD9⟩, hS.F ht⟩) hS.2.2 dL_moveWork_30

set_option maxHeartbeats 4000000 in
set_option maxRecDepth 100000 in
theorem c_Lz_moveWork_4p (l : Launch) (hst : l.stackTraces = false) (dC : Nat → ClassId) (dI : Nat → Nat → Nat) (cI : ClassId) (cL : ClassId) (cO : ClassId) (h0 : Nat) (qs : Nat) (qr : Nat) (qm : Nat) (qw : Nat) (qt : Nat) (we : Int) (sf : Nat → Int) (qk : Nat) (fi : Int) (ln : Int) (mf : Nat → Int) (mc : Int) (qd : Nat) (qo : Nat) (of : Nat → Int) (sl : Int) (many : Int) (fz : Nat) (rr : Int) (rf : Nat → Nat) (kf : Nat → Int) (af : Nat → Int) (bf : Nat → Int) (zf : Nat → Int) (sz : Nat) (hp0 : 0 ≤ sl ∧ sl ≤ 9) (hp1 : 0 ≤ (sf sl.toNat) ∧ (sf sl.toNat) ≤ 3652058) (hp2 : 0 ≤ we ∧ we ≤ 127) (hp3 : 0 ≤ fi ∧ fi ≤ 4000000 ∧ 0 ≤ ln ∧ ln ≤ 366) (hp4 : -1000 ≤ many ∧ many ≤ 1000 ∧ 0 ≤ many) (hp5 : 4000000 ≤ fz) (hp6 : zmv (wkX4 we kf af bf zf 0) 1 fz (sf sl.toNat) many = rr) (hp7 : rr = -1) : Met l yL_moveWork wsL_moveWork ({ frames := 7, cells := 1, slots := 6, locals := 115 }) (zPxF (dC, dI) [(cI, .int), (cL, .long), (cO, .object "java/lang/Object")] sz [.ref h0, .int (zi sl), .int (zi many), .ref qo] [(h0, .inr (4, [.ref qs, .ref qr, .ref qm, .ref qw, .ref qt, .int (zi we)])), (qs, aI cI 10 sf), (qm, .inr (2, [.ref qk, .int (zi fi), .int (zi ln)])), (qk, aI cI 366 mf), (qr, .inr (0, [.int (zi mc), .ref qd, .int (zi 0)])), (qo, aL cL 1 of)] (zRE (dC, dI) 0 rf kf af bf zf)) (va_Qi (fun (r : Int32) (u : (Int) × (Int) × (Nat → Int)) => r = zi 4 ∧ (0 ≤ u.1 ∧ u.1 ≤ 4000000 ∧ 0 ≤ u.2.1 ∧ u.2.1 ≤ 366)) (fun (u : (Int) × (Int) × (Nat → Int)) => zB (dC, dI) [(cI, .int), (cL, .long), (cO, .object "java/lang/Object")] (va_A [(h0, .inr (4, [.ref qs, .ref qr, .ref qm, .ref qw, .ref qt, .int (zi we)])), (qs, aI cI 10 sf), (qm, .inr (2, [.ref qk, .int (zi fi), .int (zi ln)])), (qk, aI cI 366 mf), (qr, .inr (0, [.int (zi mc), .ref qd, .int (zi 0)])), (qo, aL cL 1 of)] sz) [(h0, .inr (4, [.ref qs, .ref qr, .ref qm, .ref qw, .ref qt, .int (zi we)])), (qs, aI cI 10 sf), (qm, .inr (2, [.ref qk, .int (zi u.1), .int (zi u.2.1)])), (qk, aI cI 366 u.2.2), (qr, .inr (0, [.int (zi mc), .ref qd, .int (zi 0)])), (qo, aL cL 1 of)] ()) (va_A [(h0, .inr (4, [.ref qs, .ref qr, .ref qm, .ref qw, .ref qt, .int (zi we)])), (qs, aI cI 10 sf), (qm, .inr (2, [.ref qk, .int (zi fi), .int (zi ln)])), (qk, aI cI 366 mf), (qr, .inr (0, [.int (zi mc), .ref qd, .int (zi 0)])), (qo, aL cL 1 of)] sz)) 1 6 (va_A [(h0, .inr (4, [.ref qs, .ref qr, .ref qm, .ref qw, .ref qt, .int (zi we)])), (qs, aI cI 10 sf), (qm, .inr (2, [.ref qk, .int (zi fi), .int (zi ln)])), (qk, aI cI 366 mf), (qr, .inr (0, [.int (zi mc), .ref qd, .int (zi 0)])), (qo, aL cL 1 of)] sz) := by
  refine va_MetW (hh := [(0, 10, 13, 13), (0, 10, 17, 35), (0, 10, 21, 15), (0, 10, 25, 37)]) (cc := cL_moveWork) (maxL := 5) (ret := (some .int)) (by decide) rfl ?_
  intro p e s m args below meth c s₁ B hml hv
  obtain ⟨rfl, hsz, hE, hP, hK, hD0, hG⟩ := hv
  have hx := B.exec
  have hb := B.bytes
  have hr := B.returns
  have hts := atoms_spec (ws := wsL_moveWork) B.pre
  have hown : s.vm.findClass RL = some m.cls := findClass_of_methodNamed B.named
  have hlocks := B.notSynchronized
  have hex : c.exceptionTable.toList = [⟨0, 10, 13, 13⟩, ⟨0, 10, 17, 35⟩, ⟨0, 10, 21, 15⟩, ⟨0, 10, 25, 37⟩] := vx_table (x := yL_moveWork) B (hts _ List.mem_cons_self)
  subst hsz
  have hD := hD0.self (sz := s.heap.size)
  generalize hAe : va_A [(h0, .inr (4, [.ref qs, .ref qr, .ref qm, .ref qw, .ref qt, .int (zi we)])), (qs, aI cI 10 sf), (qm, .inr (2, [.ref qk, .int (zi fi), .int (zi ln)])), (qk, aI cI 366 mf), (qr, .inr (0, [.int (zi mc), .ref qd, .int (zi 0)])), (qo, aL cL 1 of)] s.heap.size = A at hD hG ⊢
  have hA : ∀ q : Nat, s.heap.size ≤ q → A q := fun q h => by rw [← hAe]; exact Or.inr h
  have hS : va_S A s.heap s.heap [] := va_S.rf
  have hP : va_P (dC, dI) vwCl [(h0, .inr (4, [.ref qs, .ref qr, .ref qm, .ref qw, .ref qt, .int (zi we)])), (qs, aI cI 10 sf), (qm, .inr (2, [.ref qk, .int (zi fi), .int (zi ln)])), (qk, aI cI 366 mf), (qr, .inr (0, [.int (zi mc), .ref qd, .int (zi 0)])), (qo, aL cL 1 of)] s.heap := hP
  have hl := lv_entry ([.ref h0, .int (zi sl), .int (zi many), .ref qo]) (n := 5) (Nat.le_of_ble_eq_true rfl)
  rw [lg_entry_eq]
  generalize (lg_sl ([.ref h0, .int (zi sl), .int (zi many), .ref qo]) ++ List.replicate (5 - (lg_sl ([.ref h0, .int (zi sl), .int (zi many), .ref qo])).length) Slot.unset).toArray = ls at hl ⊢
  have hl : lv_has ls 5 [(0, .ref h0), (1, .int (zi sl)), (2, .int (zi many)), (3, .ref qo)] := hl
  refine lv_aload_n hx hb dL_moveWork_0 rfl (lv_at hl 3 rfl) ?_
  refine zw_iconst hx hb dL_moveWork_1 ?_
  refine lv_aload_n hx hb dL_moveWork_2 rfl (lv_at hl 0 rfl) ?_
  refine lv_iload_n hx hb dL_moveWork_3 rfl (lv_at hl 1 rfl) ?_
  refine lv_iload_n hx hb dL_moveWork_4 rfl (lv_at hl 2 rfl) ?_
  have hh1 := t_Xz_moveWork_4p l hst dC dI cI h0 qs qr qm qw qt we sf qk fi ln mf mc qd kf af bf zf rf fz rr sl many s.heap.size (by first | exact hp0 | omega) (by first | exact hp1 | omega) (by first | exact hp2 | omega) (by first | exact hp3 | omega) (by first | exact hp4 | omega) (by first | exact hp5 | omega) (by first | exact hp6 | omega) (by first | exact hp7 | omega)
  have hPc := hP.sub (ws' := [(h0, .inr (4, [.ref qs, .ref qr, .ref qm, .ref qw, .ref qt, .int (zi we)])), (qs, aI cI 10 sf), (qm, .inr (2, [.ref qk, .int (zi fi), .int (zi ln)])), (qk, aI cI 366 mf), (qr, .inr (0, [.int (zi mc), .ref qd, .int (zi 0)]))]) [0, 1, 2, 3, 4] rfl
  have hKc : va_K (dC, dI) vwCl [(cI, .int)] s := hK.sub (tys' := [(cI, .int)]) [0] rfl
  have hDc := hD.sub (ws' := [(h0, .inr (4, [.ref qs, .ref qr, .ref qm, .ref qw, .ref qt, .int (zi we)])), (qs, aI cI 10 sf), (qm, .inr (2, [.ref qk, .int (zi fi), .int (zi ln)])), (qk, aI cI 366 mf), (qr, .inr (0, [.int (zi mc), .ref qd, .int (zi 0)]))]) [0, 1, 2, 3, 4] (by decide) rfl
  have hFc := va_free (wc := [(h0, .inr (4, [.ref qs, .ref qr, .ref qm, .ref qw, .ref qt, .int (zi we)])), (qs, aI cI 10 sf), (qm, .inr (2, [.ref qk, .int (zi fi), .int (zi ln)])), (qk, aI cI 366 mf), (qr, .inr (0, [.int (zi mc), .ref qd, .int (zi 0)]))]) hD hS hA [0, 1, 2, 3, 4] rfl
  refine zt_catchW (own := RL) (name := "java/lang/UnsupportedOperationException") (vx_runV (As := [.int (zi sl), .int (zi many)]) (rest := [.int (zi 0), .ref qo]) ⟨hx, hb, hml, hown, hts⟩ hh1 (cwV 2 hts gL_moveWork_X4_moveWork rfl rfl rfl (by decide +kernel) ⟨Nat.le_of_ble_eq_true rfl, Nat.le_of_ble_eq_true rfl⟩) ⟨zPwF.blind _ _ _ _ _ zRE_ok, va_recv hKc hPc (ci := 4) (q0 := 0) rfl rfl, fun U hU hW => ⟨rfl, by rw [hU], by rw [hU]; exact hPc, va_K.moved hW.alike hKc, hDc.weaken (fun _ _ _ _ => trivial), zF.call zRE_ok hG hS hFc hU hW⟩⟩ rfl rfl hl.1 rfl (lv_room (Nat.le_of_ble_eq_true rfl)) dL_moveWork_5 ⟨Nat.le_of_ble_eq_true rfl, Nat.le_of_ble_eq_true rfl⟩) hS (fun q _ h => hFc q h) hFc hown [⟨0, 10, 13, 13⟩, ⟨0, 10, 17, 35⟩, ⟨0, 10, 21, 15⟩] ⟨0, 10, 25, 37⟩ [] hex (List.forall_mem_cons.mpr ⟨⟨by decide, by decide, "java/lang/IndexOutOfBoundsException", (hts (.classLink RL 13 "java/lang/IndexOutOfBoundsException") (by decide +kernel)), hE.2.2.2.2 ("java/lang/UnsupportedOperationException", "java/lang/IndexOutOfBoundsException") (by decide)⟩, List.forall_mem_cons.mpr ⟨⟨by decide, by decide, "java/lang/IllegalStateException", (hts (.classLink RL 35 "java/lang/IllegalStateException") (by decide +kernel)), hE.2.2.2.2 ("java/lang/UnsupportedOperationException", "java/lang/IllegalStateException") (by decide)⟩, List.forall_mem_cons.mpr ⟨⟨by decide, by decide, "java/lang/IllegalArgumentException", (hts (.classLink RL 15 "java/lang/IllegalArgumentException") (by decide +kernel)), hE.2.2.2.2 ("java/lang/UnsupportedOperationException", "java/lang/IllegalArgumentException") (by decide)⟩, List.forall_mem_nil _⟩⟩⟩) (by decide) (by decide) (hts (.classLink RL 37 "java/lang/UnsupportedOperationException") (by decide +kernel)) (va_any rfl (hE.2.2.1 (.castable "java/lang/UnsupportedOperationException" "java/lang/UnsupportedOperationException") (by decide +kernel))) (fun qx u t H1 locs ht hw hB hz1 hk1 hS => ?_)
  obtain ⟨fk_2, lk_2, mk_2⟩ := u
  replace hw : 0 ≤ fk_2 ∧ fk_2 ≤ 4000000 ∧ 0 ≤ lk_2 ∧ lk_2 ≤ 366 := hw
  have hw1 := hw
  obtain ⟨hP1, hK1, hD1⟩ := hB
  rw [ht] at hP1
  replace hP1 : va_P (dC, dI) vwCl [(h0, .inr (4, [.ref qs, .ref qr, .ref qm, .ref qw, .ref qt, .int (zi we)])), (qs, aI cI 10 sf), (qm, .inr (2, [.ref qk, .int (zi fk_2), .int (zi lk_2)])), (qk, aI cI 366 mk_2), (qr, .inr (0, [.int (zi mc), .ref qd, .int (zi 0)]))] H1 := hP1
  replace hD1 : va_D _ [(h0, .inr (4, [.ref qs, .ref qr, .ref qm, .ref qw, .ref qt, .int (zi we)])), (qs, aI cI 10 sf), (qm, .inr (2, [.ref qk, .int (zi fk_2), .int (zi lk_2)])), (qk, aI cI 366 mk_2), (qr, .inr (0, [.int (zi mc), .ref qd, .int (zi 0)]))] := hD1
  obtain ⟨hP, hD⟩ := va_join (wr := [(qo, aL cL 1 of)]) (w1 := [(h0, .inr (4, [.ref qs, .ref qr, .ref qm, .ref qw, .ref qt, .int (zi we)])), (qs, aI cI 10 sf), (qm, .inr (2, [.ref qk, .int (zi fk_2), .int (zi lk_2)])), (qk, aI cI 366 mk_2), (qr, .inr (0, [.int (zi mc), .ref qd, .int (zi 0)]))]) hP hD [0, 1, 2, 3, 4] [5] rfl rfl (by decide) (by decide) hk1 hFc hP1 hD1
  generalize H1 = H at hP hS ⊢
  have hP : va_P (dC, dI) vwCl [(qo, aL cL 1 of), (h0, .inr (4, [.ref qs, .ref qr, .ref qm, .ref qw, .ref qt, .int (zi we)])), (qs, aI cI 10 sf), (qm, .inr (2, [.ref qk, .int (zi fk_2), .int (zi lk_2)])), (qk, aI cI 366 mk_2), (qr, .inr (0, [.int (zi mc), .ref qd, .int (zi 0)]))] H := hP
  have hD : va_D A [(qo, aL cL 1 of), (h0, .inr (4, [.ref qs, .ref qr, .ref qm, .ref qw, .ref qt, .int (zi we)])), (qs, aI cI 10 sf), (qm, .inr (2, [.ref qk, .int (zi fk_2), .int (zi lk_2)])), (qk, aI cI 366 mk_2), (qr, .inr (0, [.int (zi mc), .ref qd, .int (zi 0)]))] := hD
  refine lv_astore (lv' := [(4, .ref qx), (0, .ref h0), (1, .int (zi sl)), (2, .int (zi many)), (3, .ref qo)]) hx hb dL_moveWork_25 hl (by decide) rfl (fun ls hl => ?_)
  refine zw_iconst hx hb dL_moveWork_27 ?_
  have hP9 := hP.sub (ws' := [(h0, .inr (4, [.ref qs, .ref qr, .ref qm, .ref qw, .ref qt, .int (zi we)])), (qs, aI cI 10 sf), (qm, .inr (2, [.ref qk, .int (zi fk_2), .int (zi lk_2)])), (qk, aI cI 366 mk_2), (qr, .inr (0, [.int (zi mc), .ref qd, .int (zi 0)])), (qo, aL cL 1 of)]) [1, 2, 3, 4, 5, 0] rfl
  have hD9 := hD.sub (ws' := [(h0, .inr (4, [.ref qs, .ref qr, .ref qm, .ref qw, .ref qt, .int (zi we)])), (qs, aI cI 10 sf), (qm, .inr (2, [.ref qk, .int (zi fk_2), .int (zi lk_2)])), (qk, aI cI 366 mk_2), (qr, .inr (0, [.int (zi mc), .ref qd, .int (zi 0)])), (qo, aL cL 1 of)]) [1, 2, 3, 4, 5, 0] (by decide) rfl
  have hp9 : 0 ≤ fk_2 ∧ fk_2 ≤ 4000000 ∧ 0 ≤ lk_2 ∧ lk_2 ≤ 366 := by
    assumption
  exact W.iret (v := zi 4) hx hb hr (fun t ht hW => ⟨⟨zi 4, (fk_2, lk_2, mk_2), rfl, ⟨rfl, hp9⟩, by rw [ht]; exact hP9, va_K.moved hW.alike hK, hD9⟩, hS.F ht⟩) hS.2.2 dL_moveWork_28

set_option maxHeartbeats 4000000 in
set_option maxRecDepth 100000 in
theorem c_Lz_moveWork_n (l : Launch)  (dC : Nat → ClassId) (dI : Nat → Nat → Nat) (cI : ClassId) (cL : ClassId) (cO : ClassId) (h0 : Nat) (qs : Nat) (qr : Nat) (qm : Nat) (qw : Nat) (qt : Nat) (we : Int) (sf : Nat → Int) (qk : Nat) (fi : Int) (ln : Int) (mf : Nat → Int) (mc : Int) (qd : Nat) (qo : Nat) (of : Nat → Int) (sl : Int) (many : Int) (fz : Nat) (rr : Int) (kf : Nat → Int) (af : Nat → Int) (bf : Nat → Int) (zf : Nat → Int) (sz : Nat) (hp0 : 0 ≤ sl ∧ sl ≤ 9) (hp1 : 0 ≤ (sf sl.toNat) ∧ (sf sl.toNat) ≤ 3652058) (hp2 : 0 ≤ we ∧ we ≤ 127) (hp3 : 0 ≤ fi ∧ fi ≤ 4000000 ∧ 0 ≤ ln ∧ ln ≤ 366) (hp4 : -1000 ≤ many ∧ many ≤ 1000 ∧ many < 0) (hp5 : 4000000 ≤ fz) (hp6 : zmv (wkX4 we kf af bf zf 0) (-1) fz (sf sl.toNat) (-many) = rr) (hp7 : 0 ≤ rr ∧ rr ≤ 3652058) : Met l yL_moveWork wsL_moveWork ({ frames := 5, cells := 0, slots := 0, locals := 110 }) (zPw (dC, dI) [(cI, .int), (cL, .long), (cO, .object "java/lang/Object")] sz [.ref h0, .int (zi sl), .int (zi many), .ref qo] [(h0, .inr (4, [.ref qs, .ref qr, .ref qm, .ref qw, .ref qt, .int (zi we)])), (qs, aI cI 10 sf), (qm, .inr (2, [.ref qk, .int (zi fi), .int (zi ln)])), (qk, aI cI 366 mf), (qr, .inr (0, [.int (zi mc), .ref qd, .int (zi 0)])), (qo, aL cL 1 of)]) (va_Qi (fun (r : Int32) (u : (Int) × (Int) × (Nat → Int) × (Nat → Int)) => r = zi 0 ∧ ((0 ≤ u.1 ∧ u.1 ≤ 4000000 ∧ 0 ≤ u.2.1 ∧ u.2.1 ≤ 366) ∧ u.2.2.2 = zup sf sl.toNat rr)) (fun (u : (Int) × (Int) × (Nat → Int) × (Nat → Int)) => zB (dC, dI) [(cI, .int), (cL, .long), (cO, .object "java/lang/Object")] (va_A [(h0, .inr (4, [.ref qs, .ref qr, .ref qm, .ref qw, .ref qt, .int (zi we)])), (qs, aI cI 10 sf), (qm, .inr (2, [.ref qk, .int (zi fi), .int (zi ln)])), (qk, aI cI 366 mf), (qr, .inr (0, [.int (zi mc), .ref qd, .int (zi 0)])), (qo, aL cL 1 of)] sz) [(h0, .inr (4, [.ref qs, .ref qr, .ref qm, .ref qw, .ref qt, .int (zi we)])), (qs, aI cI 10 u.2.2.2), (qm, .inr (2, [.ref qk, .int (zi u.1), .int (zi u.2.1)])), (qk, aI cI 366 u.2.2.1), (qr, .inr (0, [.int (zi mc), .ref qd, .int (zi 0)])), (qo, aL cL 1 (zup of (Int.toNat 0) rr))] ()) (va_A [(h0, .inr (4, [.ref qs, .ref qr, .ref qm, .ref qw, .ref qt, .int (zi we)])), (qs, aI cI 10 sf), (qm, .inr (2, [.ref qk, .int (zi fi), .int (zi ln)])), (qk, aI cI 366 mf), (qr, .inr (0, [.int (zi mc), .ref qd, .int (zi 0)])), (qo, aL cL 1 of)] sz)) 0 0 (va_A [(h0, .inr (4, [.ref qs, .ref qr, .ref qm, .ref qw, .ref qt, .int (zi we)])), (qs, aI cI 10 sf), (qm, .inr (2, [.ref qk, .int (zi fi), .int (zi ln)])), (qk, aI cI 366 mf), (qr, .inr (0, [.int (zi mc), .ref qd, .int (zi 0)])), (qo, aL cL 1 of)] sz) := by
  refine va_MetW (hh := [(0, 10, 13, 13), (0, 10, 17, 35), (0, 10, 21, 15), (0, 10, 25, 37)]) (cc := cL_moveWork) (maxL := 5) (ret := (some .int)) (by decide) rfl ?_
  intro p e s m args below meth c s₁ B hml hv
  obtain ⟨rfl, hsz, hP, hK, hD0⟩ := hv
  have hx := B.exec
  have hb := B.bytes
  have hr := B.returns
  have hts := atoms_spec (ws := wsL_moveWork) B.pre
  have hown : s.vm.findClass RL = some m.cls := findClass_of_methodNamed B.named
  have hlocks := B.notSynchronized
  subst hsz
  have hD := hD0.self (sz := s.heap.size)
  generalize hAe : va_A [(h0, .inr (4, [.ref qs, .ref qr, .ref qm, .ref qw, .ref qt, .int (zi we)])), (qs, aI cI 10 sf), (qm, .inr (2, [.ref qk, .int (zi fi), .int (zi ln)])), (qk, aI cI 366 mf), (qr, .inr (0, [.int (zi mc), .ref qd, .int (zi 0)])), (qo, aL cL 1 of)] s.heap.size = A at hD ⊢
  have hA : ∀ q : Nat, s.heap.size ≤ q → A q := fun q h => by rw [← hAe]; exact Or.inr h
  have hS : va_S A s.heap s.heap [] := va_S.rf
  have hP : va_P (dC, dI) vwCl [(h0, .inr (4, [.ref qs, .ref qr, .ref qm, .ref qw, .ref qt, .int (zi we)])), (qs, aI cI 10 sf), (qm, .inr (2, [.ref qk, .int (zi fi), .int (zi ln)])), (qk, aI cI 366 mf), (qr, .inr (0, [.int (zi mc), .ref qd, .int (zi 0)])), (qo, aL cL 1 of)] s.heap := hP
  have hl := lv_entry ([.ref h0, .int (zi sl), .int (zi many), .ref qo]) (n := 5) (Nat.le_of_ble_eq_true rfl)
  rw [lg_entry_eq]
  generalize (lg_sl ([.ref h0, .int (zi sl), .int (zi many), .ref qo]) ++ List.replicate (5 - (lg_sl ([.ref h0, .int (zi sl), .int (zi many), .ref qo])).length) Slot.unset).toArray = ls at hl ⊢
  have hl : lv_has ls 5 [(0, .ref h0), (1, .int (zi sl)), (2, .int (zi many)), (3, .ref qo)] := hl
  refine lv_aload_n hx hb dL_moveWork_0 rfl (lv_at hl 3 rfl) ?_
  refine zw_iconst hx hb dL_moveWork_1 ?_
  refine lv_aload_n hx hb dL_moveWork_2 rfl (lv_at hl 0 rfl) ?_
  refine lv_iload_n hx hb dL_moveWork_3 rfl (lv_at hl 1 rfl) ?_
  refine lv_iload_n hx hb dL_moveWork_4 rfl (lv_at hl 2 rfl) ?_
  have hh1 := c_Xz_moveWork_n l dC dI cI h0 qs qr qm qw qt we sf qk fi ln mf mc qd kf af bf zf fz rr sl many s.heap.size (by first | exact hp0 | omega) (by first | exact hp1 | omega) (by first | exact hp2 | omega) (by first | exact hp3 | omega) (by first | exact hp4 | omega) (by first | exact hp5 | omega) (by first | exact hp6 | omega) (by first | exact hp7 | omega)
  have hPc := hP.sub (ws' := [(h0, .inr (4, [.ref qs, .ref qr, .ref qm, .ref qw, .ref qt, .int (zi we)])), (qs, aI cI 10 sf), (qm, .inr (2, [.ref qk, .int (zi fi), .int (zi ln)])), (qk, aI cI 366 mf), (qr, .inr (0, [.int (zi mc), .ref qd, .int (zi 0)]))]) [0, 1, 2, 3, 4] rfl
  have hKc : va_K (dC, dI) vwCl [(cI, .int)] s := hK.sub (tys' := [(cI, .int)]) [0] rfl
  have hDc := hD.sub (ws' := [(h0, .inr (4, [.ref qs, .ref qr, .ref qm, .ref qw, .ref qt, .int (zi we)])), (qs, aI cI 10 sf), (qm, .inr (2, [.ref qk, .int (zi fi), .int (zi ln)])), (qk, aI cI 366 mf), (qr, .inr (0, [.int (zi mc), .ref qd, .int (zi 0)]))]) [0, 1, 2, 3, 4] (by decide) rfl
  have hFc := va_free (wc := [(h0, .inr (4, [.ref qs, .ref qr, .ref qm, .ref qw, .ref qt, .int (zi we)])), (qs, aI cI 10 sf), (qm, .inr (2, [.ref qk, .int (zi fi), .int (zi ln)])), (qk, aI cI 366 mf), (qr, .inr (0, [.int (zi mc), .ref qd, .int (zi 0)]))]) hD hS hA [0, 1, 2, 3, 4] rfl
  refine va_calli (va_runV (As := [.int (zi sl), .int (zi many)]) (rest := [.int (zi 0), .ref qo]) ⟨hx, hb, hml, hown, hts⟩ hh1 (cwV 2 hts gL_moveWork_X4_moveWork rfl rfl rfl (by decide +kernel) ⟨Nat.le_of_ble_eq_true rfl, Nat.le_of_ble_eq_true rfl⟩) ⟨zPw.blind _ _ _ _ _, va_recv hKc hPc (ci := 4) (q0 := 0) rfl rfl, fun U hU hW => ⟨rfl, by rw [hU], by rw [hU]; exact hPc, va_K.moved hW.alike hKc, hDc.weaken (fun _ _ _ _ => trivial)⟩⟩ rfl rfl hl.1 rfl (lv_room (Nat.le_of_ble_eq_true rfl)) dL_moveWork_5 ⟨Nat.le_of_ble_eq_true rfl, Nat.le_of_ble_eq_true rfl⟩) hS (fun q _ h => hFc q h) hFc (fun r1 u t H1 locs ht hvm hw hB hz1 hk1 hS => ?_)
  obtain ⟨fk_2, lk_2, mk_2, sg_2⟩ := u
  obtain ⟨hw, hw1⟩ := hw
  replace hw1 : (0 ≤ fk_2 ∧ fk_2 ≤ 4000000 ∧ 0 ≤ lk_2 ∧ lk_2 ≤ 366) ∧ sg_2 = zup sf sl.toNat rr := hw1
  obtain ⟨hP1, hK1, hD1⟩ := hB
  rw [ht] at hP1
  replace hP1 : va_P (dC, dI) vwCl [(h0, .inr (4, [.ref qs, .ref qr, .ref qm, .ref qw, .ref qt, .int (zi we)])), (qs, aI cI 10 sg_2), (qm, .inr (2, [.ref qk, .int (zi fk_2), .int (zi lk_2)])), (qk, aI cI 366 mk_2), (qr, .inr (0, [.int (zi mc), .ref qd, .int (zi 0)]))] H1 := hP1
  replace hD1 : va_D _ [(h0, .inr (4, [.ref qs, .ref qr, .ref qm, .ref qw, .ref qt, .int (zi we)])), (qs, aI cI 10 sg_2), (qm, .inr (2, [.ref qk, .int (zi fk_2), .int (zi lk_2)])), (qk, aI cI 366 mk_2), (qr, .inr (0, [.int (zi mc), .ref qd, .int (zi 0)]))] := hD1
  obtain ⟨hP, hD⟩ := va_join (wr := [(qo, aL cL 1 of)]) (w1 := [(h0, .inr (4, [.ref qs, .ref qr, .ref qm, .ref qw, .ref qt, .int (zi we)])), (qs, aI cI 10 sg_2), (qm, .inr (2, [.ref qk, .int (zi fk_2), .int (zi lk_2)])), (qk, aI cI 366 mk_2), (qr, .inr (0, [.int (zi mc), .ref qd, .int (zi 0)]))]) hP hD [0, 1, 2, 3, 4] [5] rfl rfl (by decide) (by decide) hk1 hFc hP1 hD1
  generalize H1 = H at hP hS ⊢
  obtain rfl : r1 = zi rr := hw
  have hP : va_P (dC, dI) vwCl [(qo, aL cL 1 of), (h0, .inr (4, [.ref qs, .ref qr, .ref qm, .ref qw, .ref qt, .int (zi we)])), (qs, aI cI 10 sg_2), (qm, .inr (2, [.ref qk, .int (zi fk_2), .int (zi lk_2)])), (qk, aI cI 366 mk_2), (qr, .inr (0, [.int (zi mc), .ref qd, .int (zi 0)]))] H := hP
  have hD : va_D A [(qo, aL cL 1 of), (h0, .inr (4, [.ref qs, .ref qr, .ref qm, .ref qw, .ref qt, .int (zi we)])), (qs, aI cI 10 sg_2), (qm, .inr (2, [.ref qk, .int (zi fk_2), .int (zi lk_2)])), (qk, aI cI 366 mk_2), (qr, .inr (0, [.int (zi mc), .ref qd, .int (zi 0)]))] := hD
  refine zw_i2l hx hb dL_moveWork_8 ⟨by omega, by omega⟩ ?_
  refine zw_last hx hb hK hP hD hS 0 1 rfl rfl (by omega) (by omega) ⟨by omega, by omega⟩ dL_moveWork_9 (fun H locs hP hD hS => ?_)
  have hP : va_P (dC, dI) vwCl [(qo, aL cL 1 (zup of (Int.toNat 0) rr)), (h0, .inr (4, [.ref qs, .ref qr, .ref qm, .ref qw, .ref qt, .int (zi we)])), (qs, aI cI 10 sg_2), (qm, .inr (2, [.ref qk, .int (zi fk_2), .int (zi lk_2)])), (qk, aI cI 366 mk_2), (qr, .inr (0, [.int (zi mc), .ref qd, .int (zi 0)]))] H := hP
  have hD : va_D A [(qo, aL cL 1 (zup of (Int.toNat 0) rr)), (h0, .inr (4, [.ref qs, .ref qr, .ref qm, .ref qw, .ref qt, .int (zi we)])), (qs, aI cI 10 sg_2), (qm, .inr (2, [.ref qk, .int (zi fk_2), .int (zi lk_2)])), (qk, aI cI 366 mk_2), (qr, .inr (0, [.int (zi mc), .ref qd, .int (zi 0)]))] := hD
  refine lv_goto (tgt := 29) hx hb dL_moveWork_10 (by decide) ?_
  refine zw_iconst hx hb dL_moveWork_29 ?_
  have hP9 := hP.sub (ws' := [(h0, .inr (4, [.ref qs, .ref qr, .ref qm, .ref qw, .ref qt, .int (zi we)])), (qs, aI cI 10 sg_2), (qm, .inr (2, [.ref qk, .int (zi fk_2), .int (zi lk_2)])), (qk, aI cI 366 mk_2), (qr, .inr (0, [.int (zi mc), .ref qd, .int (zi 0)])), (qo, aL cL 1 (zup of (Int.toNat 0) rr))]) [1, 2, 3, 4, 5, 0] rfl
  have hD9 := hD.sub (ws' := [(h0, .inr (4, [.ref qs, .ref qr, .ref qm, .ref qw, .ref qt, .int (zi we)])), (qs, aI cI 10 sg_2), (qm, .inr (2, [.ref qk, .int (zi fk_2), .int (zi lk_2)])), (qk, aI cI 366 mk_2), (qr, .inr (0, [.int (zi mc), .ref qd, .int (zi 0)])), (qo, aL cL 1 (zup of (Int.toNat 0) rr))]) [1, 2, 3, 4, 5, 0] (by decide) rfl
  have hp9 : (0 ≤ fk_2 ∧ fk_2 ≤ 4000000 ∧ 0 ≤ lk_2 ∧ lk_2 ≤ 366) ∧ sg_2 = zup sf sl.toNat rr := by
    assumption
  exact W.iret (v := zi 0) hx hb hr (fun t ht hW => ⟨⟨zi 0, (fk_2, lk_2, mk_2, sg_2), rfl, ⟨rfl, hp9⟩, by rw [ht]; exact hP9, va_K.moved hW.alike hK, hD9⟩, hS.F ht⟩) hS.2.2 dL_moveWork_30

set_option maxHeartbeats 4000000 in
set_option maxRecDepth 100000 in
theorem c_Lz_moveWork_4n (l : Launch) (hst : l.stackTraces = false) (dC : Nat → ClassId) (dI : Nat → Nat → Nat) (cI : ClassId) (cL : ClassId) (cO : ClassId) (h0 : Nat) (qs : Nat) (qr : Nat) (qm : Nat) (qw : Nat) (qt : Nat) (we : Int) (sf : Nat → Int) (qk : Nat) (fi : Int) (ln : Int) (mf : Nat → Int) (mc : Int) (qd : Nat) (qo : Nat) (of : Nat → Int) (sl : Int) (many : Int) (fz : Nat) (rr : Int) (rf : Nat → Nat) (kf : Nat → Int) (af : Nat → Int) (bf : Nat → Int) (zf : Nat → Int) (sz : Nat) (hp0 : 0 ≤ sl ∧ sl ≤ 9) (hp1 : 0 ≤ (sf sl.toNat) ∧ (sf sl.toNat) ≤ 3652058) (hp2 : 0 ≤ we ∧ we ≤ 127) (hp3 : 0 ≤ fi ∧ fi ≤ 4000000 ∧ 0 ≤ ln ∧ ln ≤ 366) (hp4 : -1000 ≤ many ∧ many ≤ 1000 ∧ many < 0) (hp5 : 4000000 ≤ fz) (hp6 : zmv (wkX4 we kf af bf zf 0) (-1) fz (sf sl.toNat) (-many) = rr) (hp7 : rr = -1) : Met l yL_moveWork wsL_moveWork ({ frames := 7, cells := 1, slots := 6, locals := 115 }) (zPxF (dC, dI) [(cI, .int), (cL, .long), (cO, .object "java/lang/Object")] sz [.ref h0, .int (zi sl), .int (zi many), .ref qo] [(h0, .inr (4, [.ref qs, .ref qr, .ref qm, .ref qw, .ref qt, .int (zi we)])), (qs, aI cI 10 sf), (qm, .inr (2, [.ref qk, .int (zi fi), .int (zi ln)])), (qk, aI cI 366 mf), (qr, .inr (0, [.int (zi mc), .ref qd, .int (zi 0)])), (qo, aL cL 1 of)] (zRE (dC, dI) 0 rf kf af bf zf)) (va_Qi (fun (r : Int32) (u : (Int) × (Int) × (Nat → Int)) => r = zi 4 ∧ (0 ≤ u.1 ∧ u.1 ≤ 4000000 ∧ 0 ≤ u.2.1 ∧ u.2.1 ≤ 366)) (fun (u : (Int) × (Int) × (Nat → Int)) => zB (dC, dI) [(cI, .int), (cL, .long), (cO, .object "java/lang/Object")] (va_A [(h0, .inr (4, [.ref qs, .ref qr, .ref qm, .ref qw, .ref qt, .int (zi we)])), (qs, aI cI 10 sf), (qm, .inr (2, [.ref qk, .int (zi fi), .int (zi ln)])), (qk, aI cI 366 mf), (qr, .inr (0, [.int (zi mc), .ref qd, .int (zi 0)])), (qo, aL cL 1 of)] sz) [(h0, .inr (4, [.ref qs, .ref qr, .ref qm, .ref qw, .ref qt, .int (zi we)])), (qs, aI cI 10 sf), (qm, .inr (2, [.ref qk, .int (zi u.1), .int (zi u.2.1)])), (qk, aI cI 366 u.2.2), (qr, .inr (0, [.int (zi mc), .ref qd, .int (zi 0)])), (qo, aL cL 1 of)] ()) (va_A [(h0, .inr (4, [.ref qs, .ref qr, .ref qm, .ref qw, .ref qt, .int (zi we)])), (qs, aI cI 10 sf), (qm, .inr (2, [.ref qk, .int (zi fi), .int (zi ln)])), (qk, aI cI 366 mf), (qr, .inr (0, [.int (zi mc), .ref qd, .int (zi 0)])), (qo, aL cL 1 of)] sz)) 1 6 (va_A [(h0, .inr (4, [.ref qs, .ref qr, .ref qm, .ref qw, .ref qt, .int (zi we)])), (qs, aI cI 10 sf), (qm, .inr (2, [.ref qk, .int (zi fi), .int (zi ln)])), (qk, aI cI 366 mf), (qr, .inr (0, [.int (zi mc), .ref qd, .int (zi 0)])), (qo, aL cL 1 of)] sz) := by
  refine va_MetW (hh := [(0, 10, 13, 13), (0, 10, 17, 35), (0, 10, 21, 15), (0, 10, 25, 37)]) (cc := cL_moveWork) (maxL := 5) (ret := (some .int)) (by decide) rfl ?_
  intro p e s m args below meth c s₁ B hml hv
  obtain ⟨rfl, hsz, hE, hP, hK, hD0, hG⟩ := hv
  have hx := B.exec
  have hb := B.bytes
  have hr := B.returns
  have hts := atoms_spec (ws := wsL_moveWork) B.pre
  have hown : s.vm.findClass RL = some m.cls := findClass_of_methodNamed B.named
  have hlocks := B.notSynchronized
  have hex : c.exceptionTable.toList = [⟨0, 10, 13, 13⟩, ⟨0, 10, 17, 35⟩, ⟨0, 10, 21, 15⟩, ⟨0, 10, 25, 37⟩] := vx_table (x := yL_moveWork) B (hts _ List.mem_cons_self)
  subst hsz
  have hD := hD0.self (sz := s.heap.size)
  generalize hAe : va_A [(h0, .inr (4, [.ref qs, .ref qr, .ref qm, .ref qw, .ref qt, .int (zi we)])), (qs, aI cI 10 sf), (qm, .inr (2, [.ref qk, .int (zi fi), .int (zi ln)])), (qk, aI cI 366 mf), (qr, .inr (0, [.int (zi mc), .ref qd, .int (zi 0)])), (qo, aL cL 1 of)] s.heap.size = A at hD hG ⊢
  have hA : ∀ q : Nat, s.heap.size ≤ q → A q := fun q h => by rw [← hAe]; exact Or.inr h
  have hS : va_S A s.heap s.heap [] := va_S.rf
  have hP : va_P (dC, dI) vwCl [(h0, .inr (4, [.ref qs, .ref qr, .ref qm, .ref qw, .ref qt, .int (zi we)])), (qs, aI cI 10 sf), (qm, .inr (2, [.ref qk, .int (zi fi), .int (zi ln)])), (qk, aI cI 366 mf), (qr, .inr (0, [.int (zi mc), .ref qd, .int (zi 0)])), (qo, aL cL 1 of)] s.heap := hP
  have hl := lv_entry ([.ref h0, .int (zi sl), .int (zi many), .ref qo]) (n := 5) (Nat.le_of_ble_eq_true rfl)
  rw [lg_entry_eq]
  generalize (lg_sl ([.ref h0, .int (zi sl), .int (zi many), .ref qo]) ++ List.replicate (5 - (lg_sl ([.ref h0, .int (zi sl), .int (zi many), .ref qo])).length) Slot.unset).toArray = ls at hl ⊢
  have hl : lv_has ls 5 [(0, .ref h0), (1, .int (zi sl)), (2, .int (zi many)), (3, .ref qo)] := hl
  refine lv_aload_n hx hb dL_moveWork_0 rfl (lv_at hl 3 rfl) ?_
  refine zw_iconst hx hb dL_moveWork_1 ?_
  refine lv_aload_n hx hb dL_moveWork_2 rfl (lv_at hl 0 rfl) ?_
  refine lv_iload_n hx hb dL_moveWork_3 rfl (lv_at hl 1 rfl) ?_
  refine lv_iload_n hx hb dL_moveWork_4 rfl (lv_at hl 2 rfl) ?_
  have hh1 := t_Xz_moveWork_4n l hst dC dI cI h0 qs qr qm qw qt we sf qk fi ln mf mc qd kf af bf zf rf fz rr sl many s.heap.size (by first | exact hp0 | omega) (by first | exact hp1 | omega) (by first | exact hp2 | omega) (by first | exact hp3 | omega) (by first | exact hp4 | omega) (by first | exact hp5 | omega) (by first | exact hp6 | omega) (by first | exact hp7 | omega)
  have hPc := hP.sub (ws' := [(h0, .inr (4, [.ref qs, .ref qr, .ref qm, .ref qw, .ref qt, .int (zi we)])), (qs, aI cI 10 sf), (qm, .inr (2, [.ref qk, .int (zi fi), .int (zi ln)])), (qk, aI cI 366 mf), (qr, .inr (0, [.int (zi mc), .ref qd, .int (zi 0)]))]) [0, 1, 2, 3, 4] rfl
  have hKc : va_K (dC, dI) vwCl [(cI, .int)] s := hK.sub (tys' := [(cI, .int)]) [0] rfl
  have hDc := hD.sub (ws' := [(h0, .inr (4, [.ref qs, .ref qr, .ref qm, .ref qw, .ref qt, .int (zi we)])), (qs, aI cI 10 sf), (qm, .inr (2, [.ref qk, .int (zi fi), .int (zi ln)])), (qk, aI cI 366 mf), (qr, .inr (0, [.int (zi mc), .ref qd, .int (zi 0)]))]) [0, 1, 2, 3, 4] (by decide) rfl
  have hFc := va_free (wc := [(h0, .inr (4, [.ref qs, .ref qr, .ref qm, .ref qw, .ref qt, .int (zi we)])), (qs, aI cI 10 sf), (qm, .inr (2, [.ref qk, .int (zi fi), .int (zi ln)])), (qk, aI cI 366 mf), (qr, .inr (0, [.int (zi mc), .ref qd, .int (zi 0)]))]) hD hS hA [0, 1, 2, 3, 4] rfl
  refine zt_catchW (own := RL) (name := "java/lang/UnsupportedOperationException") (vx_runV (As := [.int (zi sl), .int (zi many)]) (rest := [.int (zi 0), .ref qo]) ⟨hx, hb, hml, hown, hts⟩ hh1 (cwV 2 hts gL_moveWork_X4_moveWork rfl rfl rfl (by decide +kernel) ⟨Nat.le_of_ble_eq_true rfl, Nat.le_of_ble_eq_true rfl⟩) ⟨zPwF.blind _ _ _ _ _ zRE_ok, va_recv hKc hPc (ci := 4) (q0 := 0) rfl rfl, fun U hU hW => ⟨rfl, by rw [hU], by rw [hU]; exact hPc, va_K.moved hW.alike hKc, hDc.weaken (fun _ _ _ _ => trivial), zF.call zRE_ok hG hS hFc hU hW⟩⟩ rfl rfl hl.1 rfl (lv_room (Nat.le_of_ble_eq_true rfl)) dL_moveWork_5 ⟨Nat.le_of_ble_eq_true rfl, Nat.le_of_ble_eq_true rfl⟩) hS (fun q _ h => hFc q h) hFc hown [⟨0, 10, 13, 13⟩, ⟨0, 10, 17, 35⟩, ⟨0, 10, 21, 15⟩] ⟨0, 10, 25, 37⟩ [] hex (List.forall_mem_cons.mpr ⟨⟨by decide, by decide, "java/lang/IndexOutOfBoundsException", (hts (.classLink RL 13 "java/lang/IndexOutOfBoundsException") (by decide +kernel)), hE.2.2.2.2 ("java/lang/UnsupportedOperationException", "java/lang/IndexOutOfBoundsException") (by decide)⟩, List.forall_mem_cons.mpr ⟨⟨by decide, by decide, "java/lang/IllegalStateException", (hts (.classLink RL 35 "java/lang/IllegalStateException") (by decide +kernel)), hE.2.2.2.2 ("java/lang/UnsupportedOperationException", "java/lang/IllegalStateException") (by decide)⟩, List.forall_mem_cons.mpr ⟨⟨by decide, by decide, "java/lang/IllegalArgumentException", (hts (.classLink RL 15 "java/lang/IllegalArgumentException") (by decide +kernel)), hE.2.2.2.2 ("java/lang/UnsupportedOperationException", "java/lang/IllegalArgumentException") (by decide)⟩, List.forall_mem_nil _⟩⟩⟩) (by decide) (by decide) (hts (.classLink RL 37 "java/lang/UnsupportedOperationException") (by decide +kernel)) (va_any rfl (hE.2.2.1 (.castable "java/lang/UnsupportedOperationException" "java/lang/UnsupportedOperationException") (by decide +kernel))) (fun qx u t H1 locs ht hw hB hz1 hk1 hS => ?_)
  obtain ⟨fk_2, lk_2, mk_2⟩ := u
  replace hw : 0 ≤ fk_2 ∧ fk_2 ≤ 4000000 ∧ 0 ≤ lk_2 ∧ lk_2 ≤ 366 := hw
  have hw1 := hw
  obtain ⟨hP1, hK1, hD1⟩ := hB
  rw [ht] at hP1
  replace hP1 : va_P (dC, dI) vwCl [(h0, .inr (4, [.ref qs, .ref qr, .ref qm, .ref qw, .ref qt, .int (zi we)])), (qs, aI cI 10 sf), (qm, .inr (2, [.ref qk, .int (zi fk_2), .int (zi lk_2)])), (qk, aI cI 366 mk_2), (qr, .inr (0, [.int (zi mc), .ref qd, .int (zi 0)]))] H1 := hP1
  replace hD1 : va_D _ [(h0, .inr (4, [.ref qs, .ref qr, .ref qm, .ref qw, .ref qt, .int (zi we)])), (qs, aI cI 10 sf), (qm, .inr (2, [.ref qk, .int (zi fk_2), .int (zi lk_2)])), (qk, aI cI 366 mk_2), (qr, .inr (0, [.int (zi mc), .ref qd, .int (zi 0)]))] := hD1
  obtain ⟨hP, hD⟩ := va_join (wr := [(qo, aL cL 1 of)]) (w1 := [(h0, .inr (4, [.ref qs, .ref qr, .ref qm, .ref qw, .ref qt, .int (zi we)])), (qs, aI cI 10 sf), (qm, .inr (2, [.ref qk, .int (zi fk_2), .int (zi lk_2)])), (qk, aI cI 366 mk_2), (qr, .inr (0, [.int (zi mc), .ref qd, .int (zi 0)]))]) hP hD [0, 1, 2, 3, 4] [5] rfl rfl (by decide) (by decide) hk1 hFc hP1 hD1
  generalize H1 = H at hP hS ⊢
  have hP : va_P (dC, dI) vwCl [(qo, aL cL 1 of), (h0, .inr (4, [.ref qs, .ref qr, .ref qm, .ref qw, .ref qt, .int (zi we)])), (qs, aI cI 10 sf), (qm, .inr (2, [.ref qk, .int (zi fk_2), .int (zi lk_2)])), (qk, aI cI 366 mk_2), (qr, .inr (0, [.int (zi mc), .ref qd, .int (zi 0)]))] H := hP
  have hD : va_D A [(qo, aL cL 1 of), (h0, .inr (4, [.ref qs, .ref qr, .ref qm, .ref qw, .ref qt, .int (zi we)])), (qs, aI cI 10 sf), (qm, .inr (2, [.ref qk, .int (zi fk_2), .int (zi lk_2)])), (qk, aI cI 366 mk_2), (qr, .inr (0, [.int (zi mc), .ref qd, .int (zi 0)]))] := hD
  refine lv_astore (lv' := [(4, .ref qx), (0, .ref h0), (1, .int (zi sl)), (2, .int (zi many)), (3, .ref qo)]) hx hb dL_moveWork_25 hl (by decide) rfl (fun ls hl => ?_)
  refine zw_iconst hx hb dL_moveWork_27 ?_
  have hP9 := hP.sub (ws' := [(h0, .inr (4, [.ref qs, .ref qr, .ref qm, .ref qw, .ref qt, .int (zi we)])), (qs, aI cI 10 sf), (qm, .inr (2, [.ref qk, .int (zi fk_2), .int (zi lk_2)])), (qk, aI cI 366 mk_2), (qr, .inr (0, [.int (zi mc), .ref qd, .int (zi 0)])), (qo, aL cL 1 of)]) [1, 2, 3, 4, 5, 0] rfl
  have hD9 := hD.sub (ws' := [(h0, .inr (4, [.ref qs, .ref qr, .ref qm, .ref qw, .ref qt, .int (zi we)])), (qs, aI cI 10 sf), (qm, .inr (2, [.ref qk, .int (zi fk_2), .int (zi lk_2)])), (qk, aI cI 366 mk_2), (qr, .inr (0, [.int (zi mc), .ref qd, .int (zi 0)])), (qo, aL cL 1 of)]) [1, 2, 3, 4, 5, 0] (by decide) rfl
  have hp9 : 0 ≤ fk_2 ∧ fk_2 ≤ 4000000 ∧ 0 ≤ lk_2 ∧ lk_2 ≤ 366 := by
    assumption
  exact W.iret (v := zi 4) hx hb hr (fun t ht hW => ⟨⟨zi 4, (fk_2, lk_2, mk_2), rfl, ⟨rfl, hp9⟩, by rw [ht]; exact hP9, va_K.moved hW.alike hK, hD9⟩, hS.F ht⟩) hS.2.2 dL_moveWork_28

set_option maxHeartbeats 4000000 in
set_option maxRecDepth 100000 in
theorem c_Lz_holiday (l : Launch)  (dC : Nat → ClassId) (dI : Nat → Nat → Nat) (cI : ClassId) (cL : ClassId) (cO : ClassId) (h0 : Nat) (qs : Nat) (qr : Nat) (qm : Nat) (qw : Nat) (qt : Nat) (we : Int) (mc : Int) (qd : Nat) (qo : Nat) (of : Nat → Int) (kk : Int) (aa : Int) (bb : Int) (cz : Int) (mi : Nat) (sz : Nat) (hp0 : -2147483648 ≤ kk ∧ kk ≤ 2147483647) (hp1 : -2147483648 ≤ aa ∧ aa ≤ 2147483647) (hp2 : -2147483648 ≤ bb ∧ bb ≤ 2147483647) (hp3 : -2147483648 ≤ cz ∧ cz ≤ 2147483647) (hp4 : (f_X3_isRule kk aa bb cz) = 1) : Met l yL_holiday wsL_holiday ({ frames := 6, cells := 2, slots := 14, locals := 132 }) (zPwF (dC, dI) [(cI, .int), (cL, .long), (cO, .object "java/lang/Object")] sz [.ref h0, .int (zi kk), .int (zi aa), .int (zi bb), .int (zi cz), .ref qo] [(h0, .inr (4, [.ref qs, .ref qr, .ref qm, .ref qw, .ref qt, .int (zi we)])), (qr, .inr (0, [.int (zi mc), .ref qd, .int (zi 0)])), (qo, aL cL 1 of)] (zO2 qd mi)) (va_Qi (fun (r : Int32) (u : (Nat) × (Nat → Option Nat) × (Nat)) => r = zi 0 ∧ (u.2.1 (Int.toNat 0) = some u.2.2)) (fun (u : (Nat) × (Nat → Option Nat) × (Nat)) => zB (dC, dI) [(cI, .int), (cL, .long), (cO, .object "java/lang/Object")] (va_A [(h0, .inr (4, [.ref qs, .ref qr, .ref qm, .ref qw, .ref qt, .int (zi we)])), (qr, .inr (0, [.int (zi mc), .ref qd, .int (zi 0)])), (qo, aL cL 1 of)] sz) [(h0, .inr (4, [.ref qs, .ref qr, .ref qm, .ref qw, .ref qt, .int (zi we)])), (qr, .inr (0, [.int (zi (mc + 1)), .ref u.1, .int (zi 1)])), (u.1, aR cO 10 u.2.1), (u.2.2, .inr (3, [.int (zi kk), .int (zi aa), .int (zi bb), .int (zi cz)])), (qo, aL cL 1 (zup of (Int.toNat 0) 1))] ()) (va_A [(h0, .inr (4, [.ref qs, .ref qr, .ref qm, .ref qw, .ref qt, .int (zi we)])), (qr, .inr (0, [.int (zi mc), .ref qd, .int (zi 0)])), (qo, aL cL 1 of)] sz)) 2 14 (va_A [(h0, .inr (4, [.ref qs, .ref qr, .ref qm, .ref qw, .ref qt, .int (zi we)])), (qr, .inr (0, [.int (zi mc), .ref qd, .int (zi 0)])), (qo, aL cL 1 of)] sz) := by
  refine va_MetW (hh := [(0, 14, 17, 15), (0, 14, 21, 37)]) (cc := cL_holiday) (maxL := 7) (ret := (some .int)) (by decide) rfl ?_
  intro p e s m args below meth c s₁ B hml hv
  obtain ⟨rfl, hsz, hP, hK, hD0, hG⟩ := hv
  have hx := B.exec
  have hb := B.bytes
  have hr := B.returns
  have hts := atoms_spec (ws := wsL_holiday) B.pre
  have hown : s.vm.findClass RL = some m.cls := findClass_of_methodNamed B.named
  have hlocks := B.notSynchronized
  subst hsz
  have hD := hD0.self (sz := s.heap.size)
  generalize hAe : va_A [(h0, .inr (4, [.ref qs, .ref qr, .ref qm, .ref qw, .ref qt, .int (zi we)])), (qr, .inr (0, [.int (zi mc), .ref qd, .int (zi 0)])), (qo, aL cL 1 of)] s.heap.size = A at hD hG ⊢
  have hA : ∀ q : Nat, s.heap.size ≤ q → A q := fun q h => by rw [← hAe]; exact Or.inr h
  have hS : va_S A s.heap s.heap [] := va_S.rf
  have hP : va_P (dC, dI) vwCl [(h0, .inr (4, [.ref qs, .ref qr, .ref qm, .ref qw, .ref qt, .int (zi we)])), (qr, .inr (0, [.int (zi mc), .ref qd, .int (zi 0)])), (qo, aL cL 1 of)] s.heap := hP
  have hl := lv_entry ([.ref h0, .int (zi kk), .int (zi aa), .int (zi bb), .int (zi cz), .ref qo]) (n := 7) (Nat.le_of_ble_eq_true rfl)
  rw [lg_entry_eq]
  generalize (lg_sl ([.ref h0, .int (zi kk), .int (zi aa), .int (zi bb), .int (zi cz), .ref qo]) ++ List.replicate (7 - (lg_sl ([.ref h0, .int (zi kk), .int (zi aa), .int (zi bb), .int (zi cz), .ref qo])).length) Slot.unset).toArray = ls at hl ⊢
  have hl : lv_has ls 7 [(0, .ref h0), (1, .int (zi kk)), (2, .int (zi aa)), (3, .int (zi bb)), (4, .int (zi cz)), (5, .ref qo)] := hl
  refine lv_aload hx hb dL_holiday_0 (lv_at hl 5 rfl) ?_
  refine zw_iconst hx hb dL_holiday_2 ?_
  refine lv_aload_n hx hb dL_holiday_3 rfl (lv_at hl 0 rfl) ?_
  refine lv_iload_n hx hb dL_holiday_4 rfl (lv_at hl 1 rfl) ?_
  refine lv_iload_n hx hb dL_holiday_5 rfl (lv_at hl 2 rfl) ?_
  refine lv_iload_n hx hb dL_holiday_6 rfl (lv_at hl 3 rfl) ?_
  refine lv_iload hx hb dL_holiday_7 (lv_at hl 4 rfl) ?_
  have hh1 := c_Xz_holiday l dC dI cO h0 qs qr qm qw qt we mc qd mi kk aa bb cz s.heap.size (by first | exact hp0 | omega) (by first | exact hp1 | omega) (by first | exact hp2 | omega) (by first | exact hp3 | omega) (by first | exact hp4 | omega)
  have hPc := hP.sub (ws' := [(h0, .inr (4, [.ref qs, .ref qr, .ref qm, .ref qw, .ref qt, .int (zi we)])), (qr, .inr (0, [.int (zi mc), .ref qd, .int (zi 0)]))]) [0, 1] rfl
  have hKc : va_K (dC, dI) vwCl [(cO, .object "java/lang/Object")] s := hK.sub (tys' := [(cO, .object "java/lang/Object")]) [2] rfl
  have hDc := hD.sub (ws' := [(h0, .inr (4, [.ref qs, .ref qr, .ref qm, .ref qw, .ref qt, .int (zi we)])), (qr, .inr (0, [.int (zi mc), .ref qd, .int (zi 0)]))]) [0, 1] (by decide) rfl
  have hFc := va_free (wc := [(h0, .inr (4, [.ref qs, .ref qr, .ref qm, .ref qw, .ref qt, .int (zi we)])), (qr, .inr (0, [.int (zi mc), .ref qd, .int (zi 0)]))]) hD hS hA [0, 1] rfl
  refine va_calli (va_runV (As := [.int (zi kk), .int (zi aa), .int (zi bb), .int (zi cz)]) (rest := [.int (zi 0), .ref qo]) ⟨hx, hb, hml, hown, hts⟩ hh1 (cwV 4 hts gL_holiday_X4_holiday rfl rfl rfl (by decide +kernel) ⟨Nat.le_of_ble_eq_true rfl, Nat.le_of_ble_eq_true rfl⟩) ⟨zPwF.blind _ _ _ _ _ zO2_ok, va_recv hKc hPc (ci := 4) (q0 := 0) rfl rfl, fun U hU hW => ⟨rfl, by rw [hU], by rw [hU]; exact hPc, va_K.moved hW.alike hKc, hDc.weaken (fun _ _ _ _ => trivial), zF.call zO2_ok hG hS hFc hU hW⟩⟩ rfl rfl hl.1 rfl (lv_room (Nat.le_of_ble_eq_true rfl)) dL_holiday_9 ⟨Nat.le_of_ble_eq_true rfl, Nat.le_of_ble_eq_true rfl⟩) hS (fun q _ h => hFc q h) hFc (fun r1 u t H1 locs ht hvm hw hB hz1 hk1 hS => ?_)
  obtain ⟨qf_2, eg_2, qn_2⟩ := u
  obtain ⟨hw, hw1⟩ := hw
  replace hw1 : eg_2 (Int.toNat 0) = some qn_2 := hw1
  obtain ⟨hP1, hK1, hD1⟩ := hB
  rw [ht] at hP1
  replace hP1 : va_P (dC, dI) vwCl [(h0, .inr (4, [.ref qs, .ref qr, .ref qm, .ref qw, .ref qt, .int (zi we)])), (qr, .inr (0, [.int (zi (mc + 1)), .ref qf_2, .int (zi 1)])), (qf_2, aR cO 10 eg_2), (qn_2, .inr (3, [.int (zi kk), .int (zi aa), .int (zi bb), .int (zi cz)]))] H1 := hP1
  replace hD1 : va_D _ [(h0, .inr (4, [.ref qs, .ref qr, .ref qm, .ref qw, .ref qt, .int (zi we)])), (qr, .inr (0, [.int (zi (mc + 1)), .ref qf_2, .int (zi 1)])), (qf_2, aR cO 10 eg_2), (qn_2, .inr (3, [.int (zi kk), .int (zi aa), .int (zi bb), .int (zi cz)]))] := hD1
  obtain ⟨hP, hD⟩ := va_join (wr := [(qo, aL cL 1 of)]) (w1 := [(h0, .inr (4, [.ref qs, .ref qr, .ref qm, .ref qw, .ref qt, .int (zi we)])), (qr, .inr (0, [.int (zi (mc + 1)), .ref qf_2, .int (zi 1)])), (qf_2, aR cO 10 eg_2), (qn_2, .inr (3, [.int (zi kk), .int (zi aa), .int (zi bb), .int (zi cz)]))]) hP hD [0, 1] [2] rfl rfl (by decide) (by decide) hk1 hFc hP1 hD1
  generalize H1 = H at hP hS ⊢
  obtain rfl : r1 = zi 1 := hw
  have hP : va_P (dC, dI) vwCl [(qo, aL cL 1 of), (h0, .inr (4, [.ref qs, .ref qr, .ref qm, .ref qw, .ref qt, .int (zi we)])), (qr, .inr (0, [.int (zi (mc + 1)), .ref qf_2, .int (zi 1)])), (qf_2, aR cO 10 eg_2), (qn_2, .inr (3, [.int (zi kk), .int (zi aa), .int (zi bb), .int (zi cz)]))] H := hP
  have hD : va_D A [(qo, aL cL 1 of), (h0, .inr (4, [.ref qs, .ref qr, .ref qm, .ref qw, .ref qt, .int (zi we)])), (qr, .inr (0, [.int (zi (mc + 1)), .ref qf_2, .int (zi 1)])), (qf_2, aR cO 10 eg_2), (qn_2, .inr (3, [.int (zi kk), .int (zi aa), .int (zi bb), .int (zi cz)]))] := hD
  refine zw_i2l hx hb dL_holiday_12 ⟨by omega, by omega⟩ ?_
  refine zw_last hx hb hK hP hD hS 0 1 rfl rfl (by omega) (by omega) ⟨by omega, by omega⟩ dL_holiday_13 (fun H locs hP hD hS => ?_)
  have hP : va_P (dC, dI) vwCl [(qo, aL cL 1 (zup of (Int.toNat 0) 1)), (h0, .inr (4, [.ref qs, .ref qr, .ref qm, .ref qw, .ref qt, .int (zi we)])), (qr, .inr (0, [.int (zi (mc + 1)), .ref qf_2, .int (zi 1)])), (qf_2, aR cO 10 eg_2), (qn_2, .inr (3, [.int (zi kk), .int (zi aa), .int (zi bb), .int (zi cz)]))] H := hP
  have hD : va_D A [(qo, aL cL 1 (zup of (Int.toNat 0) 1)), (h0, .inr (4, [.ref qs, .ref qr, .ref qm, .ref qw, .ref qt, .int (zi we)])), (qr, .inr (0, [.int (zi (mc + 1)), .ref qf_2, .int (zi 1)])), (qf_2, aR cO 10 eg_2), (qn_2, .inr (3, [.int (zi kk), .int (zi aa), .int (zi bb), .int (zi cz)]))] := hD
  refine lv_goto (tgt := 25) hx hb dL_holiday_14 (by decide) ?_
  refine zw_iconst hx hb dL_holiday_25 ?_
  have hP9 := hP.sub (ws' := [(h0, .inr (4, [.ref qs, .ref qr, .ref qm, .ref qw, .ref qt, .int (zi we)])), (qr, .inr (0, [.int (zi (mc + 1)), .ref qf_2, .int (zi 1)])), (qf_2, aR cO 10 eg_2), (qn_2, .inr (3, [.int (zi kk), .int (zi aa), .int (zi bb), .int (zi cz)])), (qo, aL cL 1 (zup of (Int.toNat 0) 1))]) [1, 2, 3, 4, 0] rfl
  have hD9 := hD.sub (ws' := [(h0, .inr (4, [.ref qs, .ref qr, .ref qm, .ref qw, .ref qt, .int (zi we)])), (qr, .inr (0, [.int (zi (mc + 1)), .ref qf_2, .int (zi 1)])), (qf_2, aR cO 10 eg_2), (qn_2, .inr (3, [.int (zi kk), .int (zi aa), .int (zi bb), .int (zi cz)])), (qo, aL cL 1 (zup of (Int.toNat 0) 1))]) [1, 2, 3, 4, 0] (by decide) rfl
  have hp9 : eg_2 (Int.toNat 0) = some qn_2 := by
    assumption
  refine W.widen (k := 2) (n := 14) (Nat.le_of_ble_eq_true rfl) (Nat.le_of_ble_eq_true rfl) ?_
  exact W.iret (v := zi 0) hx hb hr (fun t ht hW => ⟨⟨zi 0, (qf_2, eg_2, qn_2), rfl, ⟨rfl, hp9⟩, by rw [ht]; exact hP9, va_K.moved hW.alike hK, hD9⟩, hS.F ht⟩) hS.2.2 dL_holiday_26
