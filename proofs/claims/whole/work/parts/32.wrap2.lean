/-! THE LAW'S OWN METHODS, THE REST -/
set_option maxHeartbeats 4000000 in
set_option maxRecDepth 100000 in
theorem c_L_isHoliday_1 (l : Launch) (hst : l.stackTraces = false) (dC : Nat → ClassId) (dI : Nat → Nat → Nat) (cI : ClassId) (cL : ClassId) (cO : ClassId) (h0 : Nat) (qs : Nat) (qr : Nat) (qm : Nat) (qw : Nat) (qt : Nat) (we : Int) (qo : Nat) (of : Nat → Int) (sl : Int) (sz : Nat) (hp0 : -2147483648 ≤ sl ∧ sl ≤ 2147483647) (hp1 : sl < 0 ∨ 9 < sl) : Met l yL_isHoliday wsL_isHoliday ({ frames := 8, cells := 1, slots := 6, locals := 133 }) (zPx (dC, dI) [(cI, .int), (cL, .long), (cO, .object "java/lang/Object")] sz [.ref h0, .int (zi sl), .ref qo] [(h0, .inr (4, [.ref qs, .ref qr, .ref qm, .ref qw, .ref qt, .int (zi we)])), (qo, aL cL 1 of)]) (va_Qi (fun (r : Int32) (_ : Unit) => r = zi 1) (zB (dC, dI) [(cI, .int), (cL, .long), (cO, .object "java/lang/Object")] (va_A [(h0, .inr (4, [.ref qs, .ref qr, .ref qm, .ref qw, .ref qt, .int (zi we)])), (qo, aL cL 1 of)] sz) [(h0, .inr (4, [.ref qs, .ref qr, .ref qm, .ref qw, .ref qt, .int (zi we)])), (qo, aL cL 1 of)]) (va_A [(h0, .inr (4, [.ref qs, .ref qr, .ref qm, .ref qw, .ref qt, .int (zi we)])), (qo, aL cL 1 of)] sz)) 1 6 (va_A [(h0, .inr (4, [.ref qs, .ref qr, .ref qm, .ref qw, .ref qt, .int (zi we)])), (qo, aL cL 1 of)] sz) := by
  refine va_MetW (hh := [(0, 9, 12, 13), (0, 9, 15, 35)]) (cc := cL_isHoliday) (maxL := 4) (ret := (some .int)) (by decide) rfl ?_
  intro p e s m args below meth c s₁ B hml hv
  obtain ⟨rfl, hsz, hE, hP, hK, hD0⟩ := hv
  have hx := B.exec
  have hb := B.bytes
  have hr := B.returns
  have hts := atoms_spec (ws := wsL_isHoliday) B.pre
  have hown : s.vm.findClass RL = some m.cls := findClass_of_methodNamed B.named
  have hlocks := B.notSynchronized
  have hex : c.exceptionTable.toList = [⟨0, 9, 12, 13⟩, ⟨0, 9, 15, 35⟩] := vx_table (x := yL_isHoliday) B (hts _ List.mem_cons_self)
  subst hsz
  have hD := hD0.self (sz := s.heap.size)
  generalize hAe : va_A [(h0, .inr (4, [.ref qs, .ref qr, .ref qm, .ref qw, .ref qt, .int (zi we)])), (qo, aL cL 1 of)] s.heap.size = A at hD ⊢
  have hA : ∀ q : Nat, s.heap.size ≤ q → A q := fun q h => by rw [← hAe]; exact Or.inr h
  have hS : va_S A s.heap s.heap [] := va_S.rf
  have hP : va_P (dC, dI) vwCl [(h0, .inr (4, [.ref qs, .ref qr, .ref qm, .ref qw, .ref qt, .int (zi we)])), (qo, aL cL 1 of)] s.heap := hP
  have hl := lv_entry ([.ref h0, .int (zi sl), .ref qo]) (n := 4) (Nat.le_of_ble_eq_true rfl)
  rw [lg_entry_eq]
  generalize (lg_sl ([.ref h0, .int (zi sl), .ref qo]) ++ List.replicate (4 - (lg_sl ([.ref h0, .int (zi sl), .ref qo])).length) Slot.unset).toArray = ls at hl ⊢
  have hl : lv_has ls 4 [(0, .ref h0), (1, .int (zi sl)), (2, .ref qo)] := hl
  refine lv_aload_n hx hb dL_isHoliday_0 rfl (lv_at hl 2 rfl) ?_
  refine zw_iconst hx hb dL_isHoliday_1 ?_
  refine lv_aload_n hx hb dL_isHoliday_2 rfl (lv_at hl 0 rfl) ?_
  refine lv_iload_n hx hb dL_isHoliday_3 rfl (lv_at hl 1 rfl) ?_
  have hh1 := t_X4_isHoliday_1 l hst h0 sl (by first | exact hp0 | omega) (by first | exact hp1 | omega)
  refine zt_catch (own := RL) (name := "java/lang/IndexOutOfBoundsException") (vx_runV (As := [.int (zi sl)]) (rest := [.int (zi 0), .ref qo]) ⟨hx, hb, hml, hown, hts⟩ hh1 (cwV 1 hts gL_isHoliday_X4_isHoliday rfl rfl rfl (by decide +kernel) ⟨Nat.le_of_ble_eq_true rfl, Nat.le_of_ble_eq_true rfl⟩) ⟨zP.blind _, va_recv hK hP (ci := 4) (q0 := 0) rfl rfl, fun U hU hW => ⟨rfl, hE.call va_S.rf (fun q h => by rw [hU] at h; exact h) hU hW⟩⟩ rfl rfl hl.1 rfl (lv_room (Nat.le_of_ble_eq_true rfl)) dL_isHoliday_4 ⟨Nat.le_of_ble_eq_true rfl, Nat.le_of_ble_eq_true rfl⟩) hown [] ⟨0, 9, 12, 13⟩ [⟨0, 9, 15, 35⟩] hex (List.forall_mem_nil _) (by decide) (by decide) (hts (.classLink RL 13 "java/lang/IndexOutOfBoundsException") (by decide +kernel)) (va_any rfl (hE.2.2.1 (.castable "java/lang/IndexOutOfBoundsException" "java/lang/IndexOutOfBoundsException") (by decide +kernel))) (fun qx H1 hz1 hk1 => ?_)
  have hP : va_P (dC, dI) vwCl [(h0, .inr (4, [.ref qs, .ref qr, .ref qm, .ref qw, .ref qt, .int (zi we)])), (qo, aL cL 1 of)] H1 := zk_world hP hk1
  have hS : va_S A s.heap H1 [] := zk_S hz1 hk1
  refine lv_astore_n (lv' := [(3, .ref qx), (0, .ref h0), (1, .int (zi sl)), (2, .ref qo)]) hx hb dL_isHoliday_12 rfl hl (by decide) rfl (fun ls hl => ?_)
  refine zw_iconst hx hb dL_isHoliday_13 ?_
  have hP9 := hP.sub (ws' := [(h0, .inr (4, [.ref qs, .ref qr, .ref qm, .ref qw, .ref qt, .int (zi we)])), (qo, aL cL 1 of)]) [0, 1] rfl
  have hD9 := hD.sub (ws' := [(h0, .inr (4, [.ref qs, .ref qr, .ref qm, .ref qw, .ref qt, .int (zi we)])), (qo, aL cL 1 of)]) [0, 1] (by decide) rfl
  exact W.iret (v := zi 1) hx hb hr (fun t ht hW => ⟨⟨zi 1, (), rfl, rfl, by rw [ht]; exact hP9, va_K.moved hW.alike hK, hD9⟩, hS.F ht⟩) hS.2.2 dL_isHoliday_14

set_option maxHeartbeats 4000000 in
set_option maxRecDepth 100000 in
theorem c_L_isHoliday_2 (l : Launch) (hst : l.stackTraces = false) (dC : Nat → ClassId) (dI : Nat → Nat → Nat) (cI : ClassId) (cL : ClassId) (cO : ClassId) (h0 : Nat) (qs : Nat) (qr : Nat) (qm : Nat) (qw : Nat) (qt : Nat) (we : Int) (sf : Nat → Int) (qo : Nat) (of : Nat → Int) (sl : Int) (sz : Nat) (hp0 : 0 ≤ sl ∧ sl ≤ 9) (hp1 : (sf sl.toNat) = -1) : Met l yL_isHoliday wsL_isHoliday ({ frames := 8, cells := 1, slots := 6, locals := 135 }) (zPx (dC, dI) [(cI, .int), (cL, .long), (cO, .object "java/lang/Object")] sz [.ref h0, .int (zi sl), .ref qo] [(h0, .inr (4, [.ref qs, .ref qr, .ref qm, .ref qw, .ref qt, .int (zi we)])), (qs, aI cI 10 sf), (qo, aL cL 1 of)]) (va_Qi (fun (r : Int32) (_ : Unit) => r = zi 2) (zB (dC, dI) [(cI, .int), (cL, .long), (cO, .object "java/lang/Object")] (va_A [(h0, .inr (4, [.ref qs, .ref qr, .ref qm, .ref qw, .ref qt, .int (zi we)])), (qs, aI cI 10 sf), (qo, aL cL 1 of)] sz) [(h0, .inr (4, [.ref qs, .ref qr, .ref qm, .ref qw, .ref qt, .int (zi we)])), (qs, aI cI 10 sf), (qo, aL cL 1 of)]) (va_A [(h0, .inr (4, [.ref qs, .ref qr, .ref qm, .ref qw, .ref qt, .int (zi we)])), (qs, aI cI 10 sf), (qo, aL cL 1 of)] sz)) 1 6 (va_A [(h0, .inr (4, [.ref qs, .ref qr, .ref qm, .ref qw, .ref qt, .int (zi we)])), (qs, aI cI 10 sf), (qo, aL cL 1 of)] sz) := by
  refine va_MetW (hh := [(0, 9, 12, 13), (0, 9, 15, 35)]) (cc := cL_isHoliday) (maxL := 4) (ret := (some .int)) (by decide) rfl ?_
  intro p e s m args below meth c s₁ B hml hv
  obtain ⟨rfl, hsz, hE, hP, hK, hD0⟩ := hv
  have hx := B.exec
  have hb := B.bytes
  have hr := B.returns
  have hts := atoms_spec (ws := wsL_isHoliday) B.pre
  have hown : s.vm.findClass RL = some m.cls := findClass_of_methodNamed B.named
  have hlocks := B.notSynchronized
  have hex : c.exceptionTable.toList = [⟨0, 9, 12, 13⟩, ⟨0, 9, 15, 35⟩] := vx_table (x := yL_isHoliday) B (hts _ List.mem_cons_self)
  subst hsz
  have hD := hD0.self (sz := s.heap.size)
  generalize hAe : va_A [(h0, .inr (4, [.ref qs, .ref qr, .ref qm, .ref qw, .ref qt, .int (zi we)])), (qs, aI cI 10 sf), (qo, aL cL 1 of)] s.heap.size = A at hD ⊢
  have hA : ∀ q : Nat, s.heap.size ≤ q → A q := fun q h => by rw [← hAe]; exact Or.inr h
  have hS : va_S A s.heap s.heap [] := va_S.rf
  have hP : va_P (dC, dI) vwCl [(h0, .inr (4, [.ref qs, .ref qr, .ref qm, .ref qw, .ref qt, .int (zi we)])), (qs, aI cI 10 sf), (qo, aL cL 1 of)] s.heap := hP
  have hl := lv_entry ([.ref h0, .int (zi sl), .ref qo]) (n := 4) (Nat.le_of_ble_eq_true rfl)
  rw [lg_entry_eq]
  generalize (lg_sl ([.ref h0, .int (zi sl), .ref qo]) ++ List.replicate (4 - (lg_sl ([.ref h0, .int (zi sl), .ref qo])).length) Slot.unset).toArray = ls at hl ⊢
  have hl : lv_has ls 4 [(0, .ref h0), (1, .int (zi sl)), (2, .ref qo)] := hl
  refine lv_aload_n hx hb dL_isHoliday_0 rfl (lv_at hl 2 rfl) ?_
  refine zw_iconst hx hb dL_isHoliday_1 ?_
  refine lv_aload_n hx hb dL_isHoliday_2 rfl (lv_at hl 0 rfl) ?_
  refine lv_iload_n hx hb dL_isHoliday_3 rfl (lv_at hl 1 rfl) ?_
  have hh1 := t_X4_isHoliday_2 l hst dC dI cI h0 qs qr qm qw qt we sf sl (by first | exact hp0 | omega) (by first | exact hp1 | omega)
  have hPc := hP.sub (ws' := [(h0, .inr (4, [.ref qs, .ref qr, .ref qm, .ref qw, .ref qt, .int (zi we)])), (qs, aI cI 10 sf)]) [0, 1] rfl
  have hKc : va_K (dC, dI) vwCl [(cI, .int)] s := hK.sub (tys' := [(cI, .int)]) [0] rfl
  refine zt_catch (own := RL) (name := "java/lang/IllegalStateException") (vx_runV (As := [.int (zi sl)]) (rest := [.int (zi 0), .ref qo]) ⟨hx, hb, hml, hown, hts⟩ hh1 (cwV 1 hts gL_isHoliday_X4_isHoliday rfl rfl rfl (by decide +kernel) ⟨Nat.le_of_ble_eq_true rfl, Nat.le_of_ble_eq_true rfl⟩) ⟨zPt.blind _ _ _ _, va_recv hKc hPc (ci := 4) (q0 := 0) rfl rfl, fun U hU hW => ⟨rfl, hE.call va_S.rf (fun q h => by rw [hU] at h; exact h) hU hW, by rw [hU]; exact hPc, va_K.moved hW.alike hKc⟩⟩ rfl rfl hl.1 rfl (lv_room (Nat.le_of_ble_eq_true rfl)) dL_isHoliday_4 ⟨Nat.le_of_ble_eq_true rfl, Nat.le_of_ble_eq_true rfl⟩) hown [⟨0, 9, 12, 13⟩] ⟨0, 9, 15, 35⟩ [] hex (List.forall_mem_cons.mpr ⟨⟨by decide, by decide, "java/lang/IndexOutOfBoundsException", (hts (.classLink RL 13 "java/lang/IndexOutOfBoundsException") (by decide +kernel)), hE.2.2.2.2 ("java/lang/IllegalStateException", "java/lang/IndexOutOfBoundsException") (by decide)⟩, List.forall_mem_nil _⟩) (by decide) (by decide) (hts (.classLink RL 35 "java/lang/IllegalStateException") (by decide +kernel)) (va_any rfl (hE.2.2.1 (.castable "java/lang/IllegalStateException" "java/lang/IllegalStateException") (by decide +kernel))) (fun qx H1 hz1 hk1 => ?_)
  have hP : va_P (dC, dI) vwCl [(h0, .inr (4, [.ref qs, .ref qr, .ref qm, .ref qw, .ref qt, .int (zi we)])), (qs, aI cI 10 sf), (qo, aL cL 1 of)] H1 := zk_world hP hk1
  have hS : va_S A s.heap H1 [] := zk_S hz1 hk1
  refine lv_astore_n (lv' := [(3, .ref qx), (0, .ref h0), (1, .int (zi sl)), (2, .ref qo)]) hx hb dL_isHoliday_15 rfl hl (by decide) rfl (fun ls hl => ?_)
  refine zw_iconst hx hb dL_isHoliday_16 ?_
  have hP9 := hP.sub (ws' := [(h0, .inr (4, [.ref qs, .ref qr, .ref qm, .ref qw, .ref qt, .int (zi we)])), (qs, aI cI 10 sf), (qo, aL cL 1 of)]) [0, 1, 2] rfl
  have hD9 := hD.sub (ws' := [(h0, .inr (4, [.ref qs, .ref qr, .ref qm, .ref qw, .ref qt, .int (zi we)])), (qs, aI cI 10 sf), (qo, aL cL 1 of)]) [0, 1, 2] (by decide) rfl
  exact W.iret (v := zi 2) hx hb hr (fun t ht hW => ⟨⟨zi 2, (), rfl, rfl, by rw [ht]; exact hP9, va_K.moved hW.alike hK, hD9⟩, hS.F ht⟩) hS.2.2 dL_isHoliday_17

set_option maxHeartbeats 4000000 in
set_option maxRecDepth 100000 in
theorem c_L_isHoliday (l : Launch)  (dC : Nat → ClassId) (dI : Nat → Nat → Nat) (cI : ClassId) (cL : ClassId) (cO : ClassId) (h0 : Nat) (qs : Nat) (qr : Nat) (qm : Nat) (qw : Nat) (qt : Nat) (we : Int) (sf : Nat → Int) (mc : Int) (qe : Nat) (ru : Int) (ef : Nat → Option Nat) (cap : Nat) (qo : Nat) (of : Nat → Int) (sl : Int) (rf : Nat → Nat) (kf : Nat → Int) (af : Nat → Int) (bf : Nat → Int) (zf : Nat → Int) (sz : Nat) (hp0 : 0 ≤ sl ∧ sl ≤ 9) (hp1 : 0 ≤ (sf sl.toNat) ∧ (sf sl.toNat) ≤ 3652058) (hp2 : 0 ≤ ru ∧ ru ≤ 12 ∧ ru ≤ (cap : Int) ∧ (cap : Int) ≤ 1000) (hp3 : ∀ j : Nat, (j : Int) < ru → (0 ≤ (kf j) ∧ (kf j) ≤ 3) ∧ ((kf j) = 1 ∧ -100 ≤ (af j) ∧ (af j) ≤ 100 ∨ (kf j) ≠ 1 ∧ 1 ≤ (af j) ∧ (af j) ≤ 12) ∧ ((kf j) = 1 ∨ (kf j) = 2 ∧ 1 ≤ (bf j) ∧ (bf j) ≤ 7 ∨ (kf j) ≠ 2 ∧ 1 ≤ (bf j) ∧ (bf j) ≤ 31) ∧ ((kf j) ≠ 2 ∨ (zf j) = -1 ∨ 1 ≤ (zf j) ∧ (zf j) ≤ 4)) (hp4 : ∀ j : Nat, (j : Int) < ru → ef j = some (rf j)) : Met l yL_isHoliday wsL_isHoliday ({ frames := 6, cells := 0, slots := 0, locals := 135 }) (zPwF (dC, dI) [(cI, .int), (cL, .long), (cO, .object "java/lang/Object")] sz [.ref h0, .int (zi sl), .ref qo] [(h0, .inr (4, [.ref qs, .ref qr, .ref qm, .ref qw, .ref qt, .int (zi we)])), (qs, aI cI 10 sf), (qr, .inr (0, [.int (zi mc), .ref qe, .int (zi ru)])), (qe, aR cO cap ef), (qo, aL cL 1 of)] (zRu (dC, dI) ru rf kf af bf zf)) (va_Qi (fun (r : Int32) (_ : Unit) => r = zi 0) (zB (dC, dI) [(cI, .int), (cL, .long), (cO, .object "java/lang/Object")] (va_A [(h0, .inr (4, [.ref qs, .ref qr, .ref qm, .ref qw, .ref qt, .int (zi we)])), (qs, aI cI 10 sf), (qr, .inr (0, [.int (zi mc), .ref qe, .int (zi ru)])), (qe, aR cO cap ef), (qo, aL cL 1 of)] sz) [(h0, .inr (4, [.ref qs, .ref qr, .ref qm, .ref qw, .ref qt, .int (zi we)])), (qs, aI cI 10 sf), (qr, .inr (0, [.int (zi mc), .ref qe, .int (zi ru)])), (qe, aR cO cap ef), (qo, aL cL 1 (zup of (Int.toNat 0) (zfr (rhX3 kf af bf zf (f_X0_yearOf (sf sl.toNat)) (sf sl.toNat)) ru.toNat 0)))]) (va_A [(h0, .inr (4, [.ref qs, .ref qr, .ref qm, .ref qw, .ref qt, .int (zi we)])), (qs, aI cI 10 sf), (qr, .inr (0, [.int (zi mc), .ref qe, .int (zi ru)])), (qe, aR cO cap ef), (qo, aL cL 1 of)] sz)) 0 0 (va_A [(h0, .inr (4, [.ref qs, .ref qr, .ref qm, .ref qw, .ref qt, .int (zi we)])), (qs, aI cI 10 sf), (qr, .inr (0, [.int (zi mc), .ref qe, .int (zi ru)])), (qe, aR cO cap ef), (qo, aL cL 1 of)] sz) := by
  refine va_MetW (hh := [(0, 9, 12, 13), (0, 9, 15, 35)]) (cc := cL_isHoliday) (maxL := 4) (ret := (some .int)) (by decide) rfl ?_
  intro p e s m args below meth c s₁ B hml hv
  obtain ⟨rfl, hsz, hP, hK, hD0, hG⟩ := hv
  have hx := B.exec
  have hb := B.bytes
  have hr := B.returns
  have hts := atoms_spec (ws := wsL_isHoliday) B.pre
  have hown : s.vm.findClass RL = some m.cls := findClass_of_methodNamed B.named
  have hlocks := B.notSynchronized
  subst hsz
  have hD := hD0.self (sz := s.heap.size)
  generalize hAe : va_A [(h0, .inr (4, [.ref qs, .ref qr, .ref qm, .ref qw, .ref qt, .int (zi we)])), (qs, aI cI 10 sf), (qr, .inr (0, [.int (zi mc), .ref qe, .int (zi ru)])), (qe, aR cO cap ef), (qo, aL cL 1 of)] s.heap.size = A at hD hG ⊢
  have hA : ∀ q : Nat, s.heap.size ≤ q → A q := fun q h => by rw [← hAe]; exact Or.inr h
  have hS : va_S A s.heap s.heap [] := va_S.rf
  have hP : va_P (dC, dI) vwCl [(h0, .inr (4, [.ref qs, .ref qr, .ref qm, .ref qw, .ref qt, .int (zi we)])), (qs, aI cI 10 sf), (qr, .inr (0, [.int (zi mc), .ref qe, .int (zi ru)])), (qe, aR cO cap ef), (qo, aL cL 1 of)] s.heap := hP
  have hl := lv_entry ([.ref h0, .int (zi sl), .ref qo]) (n := 4) (Nat.le_of_ble_eq_true rfl)
  rw [lg_entry_eq]
  generalize (lg_sl ([.ref h0, .int (zi sl), .ref qo]) ++ List.replicate (4 - (lg_sl ([.ref h0, .int (zi sl), .ref qo])).length) Slot.unset).toArray = ls at hl ⊢
  have hl : lv_has ls 4 [(0, .ref h0), (1, .int (zi sl)), (2, .ref qo)] := hl
  first | have hzb := zfr_b (rhX3 kf af bf zf (f_X0_yearOf (sf sl.toNat)) (sf sl.toNat)) ru.toNat 0 | skip
  refine lv_aload_n hx hb dL_isHoliday_0 rfl (lv_at hl 2 rfl) ?_
  refine zw_iconst hx hb dL_isHoliday_1 ?_
  refine lv_aload_n hx hb dL_isHoliday_2 rfl (lv_at hl 0 rfl) ?_
  refine lv_iload_n hx hb dL_isHoliday_3 rfl (lv_at hl 1 rfl) ?_
  have hh1 := c_X4_isHoliday l dC dI cI cO h0 qs qr qm qw qt we sf mc qe ru cap ef rf kf af bf zf sl (by first | exact hp0 | omega) (by first | exact hp1 | omega) (by first | exact hp2 | omega) (by first | exact hp3 | omega) (by first | exact hp4 | omega)
  have hPc := hP.sub (ws' := [(h0, .inr (4, [.ref qs, .ref qr, .ref qm, .ref qw, .ref qt, .int (zi we)])), (qs, aI cI 10 sf), (qr, .inr (0, [.int (zi mc), .ref qe, .int (zi ru)])), (qe, aR cO cap ef)]) [0, 1, 2, 3] rfl
  have hKc : va_K (dC, dI) vwCl [(cI, .int), (cO, .object "java/lang/Object")] s := hK.sub (tys' := [(cI, .int), (cO, .object "java/lang/Object")]) [0, 2] rfl
  refine vp_callSi (va_Run.run (va_runV (As := [.int (zi sl)]) (rest := [.int (zi 0), .ref qo]) ⟨hx, hb, hml, hown, hts⟩ hh1 (cwV 1 hts gL_isHoliday_X4_isHoliday rfl rfl rfl (by decide +kernel) ⟨Nat.le_of_ble_eq_true rfl, Nat.le_of_ble_eq_true rfl⟩) ⟨zPrF.blind _ _ _ _ zRu_ok, va_recv hKc hPc (ci := 4) (q0 := 0) rfl rfl, fun U hU hW => ⟨rfl, by rw [hU]; exact hPc, va_K.moved hW.alike hKc, zF.call zRu_ok hG hS (fun _ h => h.elim) hU hW⟩⟩ rfl rfl hl.1 rfl (lv_room (Nat.le_of_ble_eq_true rfl)) dL_isHoliday_4 ⟨Nat.le_of_ble_eq_true rfl, Nat.le_of_ble_eq_true rfl⟩)) (fun r1 (hr1 : r1 = zi (zfr (rhX3 kf af bf zf (f_X0_yearOf (sf sl.toNat)) (sf sl.toNat)) ru.toNat 0)) => ?_)
  subst hr1
  refine zw_i2l hx hb dL_isHoliday_7 ⟨by omega, by omega⟩ ?_
  refine zw_last hx hb hK hP hD hS 4 1 rfl rfl (by omega) (by omega) ⟨by omega, by omega⟩ dL_isHoliday_8 (fun H locs hP hD hS => ?_)
  have hP : va_P (dC, dI) vwCl [(h0, .inr (4, [.ref qs, .ref qr, .ref qm, .ref qw, .ref qt, .int (zi we)])), (qs, aI cI 10 sf), (qr, .inr (0, [.int (zi mc), .ref qe, .int (zi ru)])), (qe, aR cO cap ef), (qo, aL cL 1 (zup of (Int.toNat 0) (zfr (rhX3 kf af bf zf (f_X0_yearOf (sf sl.toNat)) (sf sl.toNat)) ru.toNat 0)))] H := hP
  have hD : va_D A [(h0, .inr (4, [.ref qs, .ref qr, .ref qm, .ref qw, .ref qt, .int (zi we)])), (qs, aI cI 10 sf), (qr, .inr (0, [.int (zi mc), .ref qe, .int (zi ru)])), (qe, aR cO cap ef), (qo, aL cL 1 (zup of (Int.toNat 0) (zfr (rhX3 kf af bf zf (f_X0_yearOf (sf sl.toNat)) (sf sl.toNat)) ru.toNat 0)))] := hD
  refine lv_goto (tgt := 18) hx hb dL_isHoliday_9 (by decide) ?_
  refine zw_iconst hx hb dL_isHoliday_18 ?_
  have hP9 := hP.sub (ws' := [(h0, .inr (4, [.ref qs, .ref qr, .ref qm, .ref qw, .ref qt, .int (zi we)])), (qs, aI cI 10 sf), (qr, .inr (0, [.int (zi mc), .ref qe, .int (zi ru)])), (qe, aR cO cap ef), (qo, aL cL 1 (zup of (Int.toNat 0) (zfr (rhX3 kf af bf zf (f_X0_yearOf (sf sl.toNat)) (sf sl.toNat)) ru.toNat 0)))]) [0, 1, 2, 3, 4] rfl
  have hD9 := hD.sub (ws' := [(h0, .inr (4, [.ref qs, .ref qr, .ref qm, .ref qw, .ref qt, .int (zi we)])), (qs, aI cI 10 sf), (qr, .inr (0, [.int (zi mc), .ref qe, .int (zi ru)])), (qe, aR cO cap ef), (qo, aL cL 1 (zup of (Int.toNat 0) (zfr (rhX3 kf af bf zf (f_X0_yearOf (sf sl.toNat)) (sf sl.toNat)) ru.toNat 0)))]) [0, 1, 2, 3, 4] (by decide) rfl
  exact W.iret (v := zi 0) hx hb hr (fun t ht hW => ⟨⟨zi 0, (), rfl, rfl, by rw [ht]; exact hP9, va_K.moved hW.alike hK, hD9⟩, hS.F ht⟩) hS.2.2 dL_isHoliday_19

set_option maxHeartbeats 4000000 in
set_option maxRecDepth 100000 in
theorem c_L_work_1 (l : Launch) (hst : l.stackTraces = false) (dC : Nat → ClassId) (dI : Nat → Nat → Nat) (cI : ClassId) (cL : ClassId) (cO : ClassId) (h0 : Nat) (qs : Nat) (qr : Nat) (qm : Nat) (qw : Nat) (qt : Nat) (we : Int) (qo : Nat) (of : Nat → Int) (sl : Int) (ot : Int) (sz : Nat) (hp0 : -2147483648 ≤ sl ∧ sl ≤ 2147483647) (hp1 : sl < 0 ∨ 9 < sl) : Met l yL_work wsL_work ({ frames := 8, cells := 1, slots := 6, locals := 137 }) (zPx (dC, dI) [(cI, .int), (cL, .long), (cO, .object "java/lang/Object")] sz [.ref h0, .int (zi sl), .int (zi ot), .ref qo] [(h0, .inr (4, [.ref qs, .ref qr, .ref qm, .ref qw, .ref qt, .int (zi we)])), (qo, aL cL 1 of)]) (va_Qi (fun (r : Int32) (_ : Unit) => r = zi 1) (zB (dC, dI) [(cI, .int), (cL, .long), (cO, .object "java/lang/Object")] (va_A [(h0, .inr (4, [.ref qs, .ref qr, .ref qm, .ref qw, .ref qt, .int (zi we)])), (qo, aL cL 1 of)] sz) [(h0, .inr (4, [.ref qs, .ref qr, .ref qm, .ref qw, .ref qt, .int (zi we)])), (qo, aL cL 1 of)]) (va_A [(h0, .inr (4, [.ref qs, .ref qr, .ref qm, .ref qw, .ref qt, .int (zi we)])), (qo, aL cL 1 of)] sz)) 1 6 (va_A [(h0, .inr (4, [.ref qs, .ref qr, .ref qm, .ref qw, .ref qt, .int (zi we)])), (qo, aL cL 1 of)] sz) := by
  refine va_MetW (hh := [(0, 10, 13, 13), (0, 10, 17, 35), (0, 10, 21, 15)]) (cc := cL_work) (maxL := 5) (ret := (some .int)) (by decide) rfl ?_
  intro p e s m args below meth c s₁ B hml hv
  obtain ⟨rfl, hsz, hE, hP, hK, hD0⟩ := hv
  have hx := B.exec
  have hb := B.bytes
  have hr := B.returns
  have hts := atoms_spec (ws := wsL_work) B.pre
  have hown : s.vm.findClass RL = some m.cls := findClass_of_methodNamed B.named
  have hlocks := B.notSynchronized
  have hex : c.exceptionTable.toList = [⟨0, 10, 13, 13⟩, ⟨0, 10, 17, 35⟩, ⟨0, 10, 21, 15⟩] := vx_table (x := yL_work) B (hts _ List.mem_cons_self)
  subst hsz
  have hD := hD0.self (sz := s.heap.size)
  generalize hAe : va_A [(h0, .inr (4, [.ref qs, .ref qr, .ref qm, .ref qw, .ref qt, .int (zi we)])), (qo, aL cL 1 of)] s.heap.size = A at hD ⊢
  have hA : ∀ q : Nat, s.heap.size ≤ q → A q := fun q h => by rw [← hAe]; exact Or.inr h
  have hS : va_S A s.heap s.heap [] := va_S.rf
  have hP : va_P (dC, dI) vwCl [(h0, .inr (4, [.ref qs, .ref qr, .ref qm, .ref qw, .ref qt, .int (zi we)])), (qo, aL cL 1 of)] s.heap := hP
  have hl := lv_entry ([.ref h0, .int (zi sl), .int (zi ot), .ref qo]) (n := 5) (Nat.le_of_ble_eq_true rfl)
  rw [lg_entry_eq]
  generalize (lg_sl ([.ref h0, .int (zi sl), .int (zi ot), .ref qo]) ++ List.replicate (5 - (lg_sl ([.ref h0, .int (zi sl), .int (zi ot), .ref qo])).length) Slot.unset).toArray = ls at hl ⊢
  have hl : lv_has ls 5 [(0, .ref h0), (1, .int (zi sl)), (2, .int (zi ot)), (3, .ref qo)] := hl
  refine lv_aload_n hx hb dL_work_0 rfl (lv_at hl 3 rfl) ?_
  refine zw_iconst hx hb dL_work_1 ?_
  refine lv_aload_n hx hb dL_work_2 rfl (lv_at hl 0 rfl) ?_
  refine lv_iload_n hx hb dL_work_3 rfl (lv_at hl 1 rfl) ?_
  refine lv_iload_n hx hb dL_work_4 rfl (lv_at hl 2 rfl) ?_
  have hh1 := t_X4_work_1 l hst h0 sl ot (by first | exact hp0 | omega) (by first | exact hp1 | omega)
  refine zt_catch (own := RL) (name := "java/lang/IndexOutOfBoundsException") (vx_runV (As := [.int (zi sl), .int (zi ot)]) (rest := [.int (zi 0), .ref qo]) ⟨hx, hb, hml, hown, hts⟩ hh1 (cwV 2 hts gL_work_X4_work rfl rfl rfl (by decide +kernel) ⟨Nat.le_of_ble_eq_true rfl, Nat.le_of_ble_eq_true rfl⟩) ⟨zP.blind _, va_recv hK hP (ci := 4) (q0 := 0) rfl rfl, fun U hU hW => ⟨rfl, hE.call va_S.rf (fun q h => by rw [hU] at h; exact h) hU hW⟩⟩ rfl rfl hl.1 rfl (lv_room (Nat.le_of_ble_eq_true rfl)) dL_work_5 ⟨Nat.le_of_ble_eq_true rfl, Nat.le_of_ble_eq_true rfl⟩) hown [] ⟨0, 10, 13, 13⟩ [⟨0, 10, 17, 35⟩, ⟨0, 10, 21, 15⟩] hex (List.forall_mem_nil _) (by decide) (by decide) (hts (.classLink RL 13 "java/lang/IndexOutOfBoundsException") (by decide +kernel)) (va_any rfl (hE.2.2.1 (.castable "java/lang/IndexOutOfBoundsException" "java/lang/IndexOutOfBoundsException") (by decide +kernel))) (fun qx H1 hz1 hk1 => ?_)
  have hP : va_P (dC, dI) vwCl [(h0, .inr (4, [.ref qs, .ref qr, .ref qm, .ref qw, .ref qt, .int (zi we)])), (qo, aL cL 1 of)] H1 := zk_world hP hk1
  have hS : va_S A s.heap H1 [] := zk_S hz1 hk1
  refine lv_astore (lv' := [(4, .ref qx), (0, .ref h0), (1, .int (zi sl)), (2, .int (zi ot)), (3, .ref qo)]) hx hb dL_work_13 hl (by decide) rfl (fun ls hl => ?_)
  refine zw_iconst hx hb dL_work_15 ?_
  have hP9 := hP.sub (ws' := [(h0, .inr (4, [.ref qs, .ref qr, .ref qm, .ref qw, .ref qt, .int (zi we)])), (qo, aL cL 1 of)]) [0, 1] rfl
  have hD9 := hD.sub (ws' := [(h0, .inr (4, [.ref qs, .ref qr, .ref qm, .ref qw, .ref qt, .int (zi we)])), (qo, aL cL 1 of)]) [0, 1] (by decide) rfl
  exact W.iret (v := zi 1) hx hb hr (fun t ht hW => ⟨⟨zi 1, (), rfl, rfl, by rw [ht]; exact hP9, va_K.moved hW.alike hK, hD9⟩, hS.F ht⟩) hS.2.2 dL_work_16

set_option maxHeartbeats 4000000 in
set_option maxRecDepth 100000 in
theorem c_L_work_1b (l : Launch) (hst : l.stackTraces = false) (dC : Nat → ClassId) (dI : Nat → Nat → Nat) (cI : ClassId) (cL : ClassId) (cO : ClassId) (h0 : Nat) (qs : Nat) (qr : Nat) (qm : Nat) (qw : Nat) (qt : Nat) (we : Int) (qo : Nat) (of : Nat → Int) (sl : Int) (ot : Int) (sz : Nat) (hp0 : 0 ≤ sl ∧ sl ≤ 9) (hp1 : -2147483648 ≤ ot ∧ ot ≤ 2147483647) (hp2 : ot < 0 ∨ 9 < ot) : Met l yL_work wsL_work ({ frames := 8, cells := 1, slots := 6, locals := 137 }) (zPx (dC, dI) [(cI, .int), (cL, .long), (cO, .object "java/lang/Object")] sz [.ref h0, .int (zi sl), .int (zi ot), .ref qo] [(h0, .inr (4, [.ref qs, .ref qr, .ref qm, .ref qw, .ref qt, .int (zi we)])), (qo, aL cL 1 of)]) (va_Qi (fun (r : Int32) (_ : Unit) => r = zi 1) (zB (dC, dI) [(cI, .int), (cL, .long), (cO, .object "java/lang/Object")] (va_A [(h0, .inr (4, [.ref qs, .ref qr, .ref qm, .ref qw, .ref qt, .int (zi we)])), (qo, aL cL 1 of)] sz) [(h0, .inr (4, [.ref qs, .ref qr, .ref qm, .ref qw, .ref qt, .int (zi we)])), (qo, aL cL 1 of)]) (va_A [(h0, .inr (4, [.ref qs, .ref qr, .ref qm, .ref qw, .ref qt, .int (zi we)])), (qo, aL cL 1 of)] sz)) 1 6 (va_A [(h0, .inr (4, [.ref qs, .ref qr, .ref qm, .ref qw, .ref qt, .int (zi we)])), (qo, aL cL 1 of)] sz) := by
  refine va_MetW (hh := [(0, 10, 13, 13), (0, 10, 17, 35), (0, 10, 21, 15)]) (cc := cL_work) (maxL := 5) (ret := (some .int)) (by decide) rfl ?_
  intro p e s m args below meth c s₁ B hml hv
  obtain ⟨rfl, hsz, hE, hP, hK, hD0⟩ := hv
  have hx := B.exec
  have hb := B.bytes
  have hr := B.returns
  have hts := atoms_spec (ws := wsL_work) B.pre
  have hown : s.vm.findClass RL = some m.cls := findClass_of_methodNamed B.named
  have hlocks := B.notSynchronized
  have hex : c.exceptionTable.toList = [⟨0, 10, 13, 13⟩, ⟨0, 10, 17, 35⟩, ⟨0, 10, 21, 15⟩] := vx_table (x := yL_work) B (hts _ List.mem_cons_self)
  subst hsz
  have hD := hD0.self (sz := s.heap.size)
  generalize hAe : va_A [(h0, .inr (4, [.ref qs, .ref qr, .ref qm, .ref qw, .ref qt, .int (zi we)])), (qo, aL cL 1 of)] s.heap.size = A at hD ⊢
  have hA : ∀ q : Nat, s.heap.size ≤ q → A q := fun q h => by rw [← hAe]; exact Or.inr h
  have hS : va_S A s.heap s.heap [] := va_S.rf
  have hP : va_P (dC, dI) vwCl [(h0, .inr (4, [.ref qs, .ref qr, .ref qm, .ref qw, .ref qt, .int (zi we)])), (qo, aL cL 1 of)] s.heap := hP
  have hl := lv_entry ([.ref h0, .int (zi sl), .int (zi ot), .ref qo]) (n := 5) (Nat.le_of_ble_eq_true rfl)
  rw [lg_entry_eq]
  generalize (lg_sl ([.ref h0, .int (zi sl), .int (zi ot), .ref qo]) ++ List.replicate (5 - (lg_sl ([.ref h0, .int (zi sl), .int (zi ot), .ref qo])).length) Slot.unset).toArray = ls at hl ⊢
  have hl : lv_has ls 5 [(0, .ref h0), (1, .int (zi sl)), (2, .int (zi ot)), (3, .ref qo)] := hl
  refine lv_aload_n hx hb dL_work_0 rfl (lv_at hl 3 rfl) ?_
  refine zw_iconst hx hb dL_work_1 ?_
  refine lv_aload_n hx hb dL_work_2 rfl (lv_at hl 0 rfl) ?_
  refine lv_iload_n hx hb dL_work_3 rfl (lv_at hl 1 rfl) ?_
  refine lv_iload_n hx hb dL_work_4 rfl (lv_at hl 2 rfl) ?_
  have hh1 := t_X4_work_1b l hst h0 sl ot (by first | exact hp0 | omega) (by first | exact hp1 | omega) (by first | exact hp2 | omega)
  refine zt_catch (own := RL) (name := "java/lang/IndexOutOfBoundsException") (vx_runV (As := [.int (zi sl), .int (zi ot)]) (rest := [.int (zi 0), .ref qo]) ⟨hx, hb, hml, hown, hts⟩ hh1 (cwV 2 hts gL_work_X4_work rfl rfl rfl (by decide +kernel) ⟨Nat.le_of_ble_eq_true rfl, Nat.le_of_ble_eq_true rfl⟩) ⟨zP.blind _, va_recv hK hP (ci := 4) (q0 := 0) rfl rfl, fun U hU hW => ⟨rfl, hE.call va_S.rf (fun q h => by rw [hU] at h; exact h) hU hW⟩⟩ rfl rfl hl.1 rfl (lv_room (Nat.le_of_ble_eq_true rfl)) dL_work_5 ⟨Nat.le_of_ble_eq_true rfl, Nat.le_of_ble_eq_true rfl⟩) hown [] ⟨0, 10, 13, 13⟩ [⟨0, 10, 17, 35⟩, ⟨0, 10, 21, 15⟩] hex (List.forall_mem_nil _) (by decide) (by decide) (hts (.classLink RL 13 "java/lang/IndexOutOfBoundsException") (by decide +kernel)) (va_any rfl (hE.2.2.1 (.castable "java/lang/IndexOutOfBoundsException" "java/lang/IndexOutOfBoundsException") (by decide +kernel))) (fun qx H1 hz1 hk1 => ?_)
  have hP : va_P (dC, dI) vwCl [(h0, .inr (4, [.ref qs, .ref qr, .ref qm, .ref qw, .ref qt, .int (zi we)])), (qo, aL cL 1 of)] H1 := zk_world hP hk1
  have hS : va_S A s.heap H1 [] := zk_S hz1 hk1
  refine lv_astore (lv' := [(4, .ref qx), (0, .ref h0), (1, .int (zi sl)), (2, .int (zi ot)), (3, .ref qo)]) hx hb dL_work_13 hl (by decide) rfl (fun ls hl => ?_)
  refine zw_iconst hx hb dL_work_15 ?_
  have hP9 := hP.sub (ws' := [(h0, .inr (4, [.ref qs, .ref qr, .ref qm, .ref qw, .ref qt, .int (zi we)])), (qo, aL cL 1 of)]) [0, 1] rfl
  have hD9 := hD.sub (ws' := [(h0, .inr (4, [.ref qs, .ref qr, .ref qm, .ref qw, .ref qt, .int (zi we)])), (qo, aL cL 1 of)]) [0, 1] (by decide) rfl
  exact W.iret (v := zi 1) hx hb hr (fun t ht hW => ⟨⟨zi 1, (), rfl, rfl, by rw [ht]; exact hP9, va_K.moved hW.alike hK, hD9⟩, hS.F ht⟩) hS.2.2 dL_work_16

set_option maxHeartbeats 4000000 in
set_option maxRecDepth 100000 in
theorem c_L_work_2 (l : Launch) (hst : l.stackTraces = false) (dC : Nat → ClassId) (dI : Nat → Nat → Nat) (cI : ClassId) (cL : ClassId) (cO : ClassId) (h0 : Nat) (qs : Nat) (qr : Nat) (qm : Nat) (qw : Nat) (qt : Nat) (we : Int) (sf : Nat → Int) (qo : Nat) (of : Nat → Int) (sl : Int) (ot : Int) (sz : Nat) (hp0 : 0 ≤ sl ∧ sl ≤ 9) (hp1 : 0 ≤ ot ∧ ot ≤ 9) (hp2 : (sf sl.toNat) = -1) : Met l yL_work wsL_work ({ frames := 8, cells := 1, slots := 6, locals := 139 }) (zPx (dC, dI) [(cI, .int), (cL, .long), (cO, .object "java/lang/Object")] sz [.ref h0, .int (zi sl), .int (zi ot), .ref qo] [(h0, .inr (4, [.ref qs, .ref qr, .ref qm, .ref qw, .ref qt, .int (zi we)])), (qs, aI cI 10 sf), (qo, aL cL 1 of)]) (va_Qi (fun (r : Int32) (_ : Unit) => r = zi 2) (zB (dC, dI) [(cI, .int), (cL, .long), (cO, .object "java/lang/Object")] (va_A [(h0, .inr (4, [.ref qs, .ref qr, .ref qm, .ref qw, .ref qt, .int (zi we)])), (qs, aI cI 10 sf), (qo, aL cL 1 of)] sz) [(h0, .inr (4, [.ref qs, .ref qr, .ref qm, .ref qw, .ref qt, .int (zi we)])), (qs, aI cI 10 sf), (qo, aL cL 1 of)]) (va_A [(h0, .inr (4, [.ref qs, .ref qr, .ref qm, .ref qw, .ref qt, .int (zi we)])), (qs, aI cI 10 sf), (qo, aL cL 1 of)] sz)) 1 6 (va_A [(h0, .inr (4, [.ref qs, .ref qr, .ref qm, .ref qw, .ref qt, .int (zi we)])), (qs, aI cI 10 sf), (qo, aL cL 1 of)] sz) := by
  refine va_MetW (hh := [(0, 10, 13, 13), (0, 10, 17, 35), (0, 10, 21, 15)]) (cc := cL_work) (maxL := 5) (ret := (some .int)) (by decide) rfl ?_
  intro p e s m args below meth c s₁ B hml hv
  obtain ⟨rfl, hsz, hE, hP, hK, hD0⟩ := hv
  have hx := B.exec
  have hb := B.bytes
  have hr := B.returns
  have hts := atoms_spec (ws := wsL_work) B.pre
  have hown : s.vm.findClass RL = some m.cls := findClass_of_methodNamed B.named
  have hlocks := B.notSynchronized
  have hex : c.exceptionTable.toList = [⟨0, 10, 13, 13⟩, ⟨0, 10, 17, 35⟩, ⟨0, 10, 21, 15⟩] := vx_table (x := yL_work) B (hts _ List.mem_cons_self)
  subst hsz
  have hD := hD0.self (sz := s.heap.size)
  generalize hAe : va_A [(h0, .inr (4, [.ref qs, .ref qr, .ref qm, .ref qw, .ref qt, .int (zi we)])), (qs, aI cI 10 sf), (qo, aL cL 1 of)] s.heap.size = A at hD ⊢
  have hA : ∀ q : Nat, s.heap.size ≤ q → A q := fun q h => by rw [← hAe]; exact Or.inr h
  have hS : va_S A s.heap s.heap [] := va_S.rf
  have hP : va_P (dC, dI) vwCl [(h0, .inr (4, [.ref qs, .ref qr, .ref qm, .ref qw, .ref qt, .int (zi we)])), (qs, aI cI 10 sf), (qo, aL cL 1 of)] s.heap := hP
  have hl := lv_entry ([.ref h0, .int (zi sl), .int (zi ot), .ref qo]) (n := 5) (Nat.le_of_ble_eq_true rfl)
  rw [lg_entry_eq]
  generalize (lg_sl ([.ref h0, .int (zi sl), .int (zi ot), .ref qo]) ++ List.replicate (5 - (lg_sl ([.ref h0, .int (zi sl), .int (zi ot), .ref qo])).length) Slot.unset).toArray = ls at hl ⊢
  have hl : lv_has ls 5 [(0, .ref h0), (1, .int (zi sl)), (2, .int (zi ot)), (3, .ref qo)] := hl
  refine lv_aload_n hx hb dL_work_0 rfl (lv_at hl 3 rfl) ?_
  refine zw_iconst hx hb dL_work_1 ?_
  refine lv_aload_n hx hb dL_work_2 rfl (lv_at hl 0 rfl) ?_
  refine lv_iload_n hx hb dL_work_3 rfl (lv_at hl 1 rfl) ?_
  refine lv_iload_n hx hb dL_work_4 rfl (lv_at hl 2 rfl) ?_
  have hh1 := t_X4_work_2 l hst dC dI cI h0 qs qr qm qw qt we sf sl ot (by first | exact hp0 | omega) (by first | exact hp1 | omega) (by first | exact hp2 | omega)
  have hPc := hP.sub (ws' := [(h0, .inr (4, [.ref qs, .ref qr, .ref qm, .ref qw, .ref qt, .int (zi we)])), (qs, aI cI 10 sf)]) [0, 1] rfl
  have hKc : va_K (dC, dI) vwCl [(cI, .int)] s := hK.sub (tys' := [(cI, .int)]) [0] rfl
  refine zt_catch (own := RL) (name := "java/lang/IllegalStateException") (vx_runV (As := [.int (zi sl), .int (zi ot)]) (rest := [.int (zi 0), .ref qo]) ⟨hx, hb, hml, hown, hts⟩ hh1 (cwV 2 hts gL_work_X4_work rfl rfl rfl (by decide +kernel) ⟨Nat.le_of_ble_eq_true rfl, Nat.le_of_ble_eq_true rfl⟩) ⟨zPt.blind _ _ _ _, va_recv hKc hPc (ci := 4) (q0 := 0) rfl rfl, fun U hU hW => ⟨rfl, hE.call va_S.rf (fun q h => by rw [hU] at h; exact h) hU hW, by rw [hU]; exact hPc, va_K.moved hW.alike hKc⟩⟩ rfl rfl hl.1 rfl (lv_room (Nat.le_of_ble_eq_true rfl)) dL_work_5 ⟨Nat.le_of_ble_eq_true rfl, Nat.le_of_ble_eq_true rfl⟩) hown [⟨0, 10, 13, 13⟩] ⟨0, 10, 17, 35⟩ [⟨0, 10, 21, 15⟩] hex (List.forall_mem_cons.mpr ⟨⟨by decide, by decide, "java/lang/IndexOutOfBoundsException", (hts (.classLink RL 13 "java/lang/IndexOutOfBoundsException") (by decide +kernel)), hE.2.2.2.2 ("java/lang/IllegalStateException", "java/lang/IndexOutOfBoundsException") (by decide)⟩, List.forall_mem_nil _⟩) (by decide) (by decide) (hts (.classLink RL 35 "java/lang/IllegalStateException") (by decide +kernel)) (va_any rfl (hE.2.2.1 (.castable "java/lang/IllegalStateException" "java/lang/IllegalStateException") (by decide +kernel))) (fun qx H1 hz1 hk1 => ?_)
  have hP : va_P (dC, dI) vwCl [(h0, .inr (4, [.ref qs, .ref qr, .ref qm, .ref qw, .ref qt, .int (zi we)])), (qs, aI cI 10 sf), (qo, aL cL 1 of)] H1 := zk_world hP hk1
  have hS : va_S A s.heap H1 [] := zk_S hz1 hk1
  refine lv_astore (lv' := [(4, .ref qx), (0, .ref h0), (1, .int (zi sl)), (2, .int (zi ot)), (3, .ref qo)]) hx hb dL_work_17 hl (by decide) rfl (fun ls hl => ?_)
  refine zw_iconst hx hb dL_work_19 ?_
  have hP9 := hP.sub (ws' := [(h0, .inr (4, [.ref qs, .ref qr, .ref qm, .ref qw, .ref qt, .int (zi we)])), (qs, aI cI 10 sf), (qo, aL cL 1 of)]) [0, 1, 2] rfl
  have hD9 := hD.sub (ws' := [(h0, .inr (4, [.ref qs, .ref qr, .ref qm, .ref qw, .ref qt, .int (zi we)])), (qs, aI cI 10 sf), (qo, aL cL 1 of)]) [0, 1, 2] (by decide) rfl
  exact W.iret (v := zi 2) hx hb hr (fun t ht hW => ⟨⟨zi 2, (), rfl, rfl, by rw [ht]; exact hP9, va_K.moved hW.alike hK, hD9⟩, hS.F ht⟩) hS.2.2 dL_work_20

set_option maxHeartbeats 4000000 in
set_option maxRecDepth 100000 in
theorem c_L_work_2b (l : Launch) (hst : l.stackTraces = false) (dC : Nat → ClassId) (dI : Nat → Nat → Nat) (cI : ClassId) (cL : ClassId) (cO : ClassId) (h0 : Nat) (qs : Nat) (qr : Nat) (qm : Nat) (qw : Nat) (qt : Nat) (we : Int) (sf : Nat → Int) (qo : Nat) (of : Nat → Int) (sl : Int) (ot : Int) (sz : Nat) (hp0 : 0 ≤ sl ∧ sl ≤ 9) (hp1 : 0 ≤ ot ∧ ot ≤ 9) (hp2 : 0 ≤ (sf sl.toNat) ∧ (sf sl.toNat) ≤ 3652058) (hp3 : (sf ot.toNat) = -1) : Met l yL_work wsL_work ({ frames := 8, cells := 1, slots := 6, locals := 139 }) (zPx (dC, dI) [(cI, .int), (cL, .long), (cO, .object "java/lang/Object")] sz [.ref h0, .int (zi sl), .int (zi ot), .ref qo] [(h0, .inr (4, [.ref qs, .ref qr, .ref qm, .ref qw, .ref qt, .int (zi we)])), (qs, aI cI 10 sf), (qo, aL cL 1 of)]) (va_Qi (fun (r : Int32) (_ : Unit) => r = zi 2) (zB (dC, dI) [(cI, .int), (cL, .long), (cO, .object "java/lang/Object")] (va_A [(h0, .inr (4, [.ref qs, .ref qr, .ref qm, .ref qw, .ref qt, .int (zi we)])), (qs, aI cI 10 sf), (qo, aL cL 1 of)] sz) [(h0, .inr (4, [.ref qs, .ref qr, .ref qm, .ref qw, .ref qt, .int (zi we)])), (qs, aI cI 10 sf), (qo, aL cL 1 of)]) (va_A [(h0, .inr (4, [.ref qs, .ref qr, .ref qm, .ref qw, .ref qt, .int (zi we)])), (qs, aI cI 10 sf), (qo, aL cL 1 of)] sz)) 1 6 (va_A [(h0, .inr (4, [.ref qs, .ref qr, .ref qm, .ref qw, .ref qt, .int (zi we)])), (qs, aI cI 10 sf), (qo, aL cL 1 of)] sz) := by
  refine va_MetW (hh := [(0, 10, 13, 13), (0, 10, 17, 35), (0, 10, 21, 15)]) (cc := cL_work) (maxL := 5) (ret := (some .int)) (by decide) rfl ?_
  intro p e s m args below meth c s₁ B hml hv
  obtain ⟨rfl, hsz, hE, hP, hK, hD0⟩ := hv
  have hx := B.exec
  have hb := B.bytes
  have hr := B.returns
  have hts := atoms_spec (ws := wsL_work) B.pre
  have hown : s.vm.findClass RL = some m.cls := findClass_of_methodNamed B.named
  have hlocks := B.notSynchronized
  have hex : c.exceptionTable.toList = [⟨0, 10, 13, 13⟩, ⟨0, 10, 17, 35⟩, ⟨0, 10, 21, 15⟩] := vx_table (x := yL_work) B (hts _ List.mem_cons_self)
  subst hsz
  have hD := hD0.self (sz := s.heap.size)
  generalize hAe : va_A [(h0, .inr (4, [.ref qs, .ref qr, .ref qm, .ref qw, .ref qt, .int (zi we)])), (qs, aI cI 10 sf), (qo, aL cL 1 of)] s.heap.size = A at hD ⊢
  have hA : ∀ q : Nat, s.heap.size ≤ q → A q := fun q h => by rw [← hAe]; exact Or.inr h
  have hS : va_S A s.heap s.heap [] := va_S.rf
  have hP : va_P (dC, dI) vwCl [(h0, .inr (4, [.ref qs, .ref qr, .ref qm, .ref qw, .ref qt, .int (zi we)])), (qs, aI cI 10 sf), (qo, aL cL 1 of)] s.heap := hP
  have hl := lv_entry ([.ref h0, .int (zi sl), .int (zi ot), .ref qo]) (n := 5) (Nat.le_of_ble_eq_true rfl)
  rw [lg_entry_eq]
  generalize (lg_sl ([.ref h0, .int (zi sl), .int (zi ot), .ref qo]) ++ List.replicate (5 - (lg_sl ([.ref h0, .int (zi sl), .int (zi ot), .ref qo])).length) Slot.unset).toArray = ls at hl ⊢
  have hl : lv_has ls 5 [(0, .ref h0), (1, .int (zi sl)), (2, .int (zi ot)), (3, .ref qo)] := hl
  refine lv_aload_n hx hb dL_work_0 rfl (lv_at hl 3 rfl) ?_
  refine zw_iconst hx hb dL_work_1 ?_
  refine lv_aload_n hx hb dL_work_2 rfl (lv_at hl 0 rfl) ?_
  refine lv_iload_n hx hb dL_work_3 rfl (lv_at hl 1 rfl) ?_
  refine lv_iload_n hx hb dL_work_4 rfl (lv_at hl 2 rfl) ?_
  have hh1 := t_X4_work_2b l hst dC dI cI h0 qs qr qm qw qt we sf sl ot (by first | exact hp0 | omega) (by first | exact hp1 | omega) (by first | exact hp2 | omega) (by first | exact hp3 | omega)
  have hPc := hP.sub (ws' := [(h0, .inr (4, [.ref qs, .ref qr, .ref qm, .ref qw, .ref qt, .int (zi we)])), (qs, aI cI 10 sf)]) [0, 1] rfl
  have hKc : va_K (dC, dI) vwCl [(cI, .int)] s := hK.sub (tys' := [(cI, .int)]) [0] rfl
  refine zt_catch (own := RL) (name := "java/lang/IllegalStateException") (vx_runV (As := [.int (zi sl), .int (zi ot)]) (rest := [.int (zi 0), .ref qo]) ⟨hx, hb, hml, hown, hts⟩ hh1 (cwV 2 hts gL_work_X4_work rfl rfl rfl (by decide +kernel) ⟨Nat.le_of_ble_eq_true rfl, Nat.le_of_ble_eq_true rfl⟩) ⟨zPt.blind _ _ _ _, va_recv hKc hPc (ci := 4) (q0 := 0) rfl rfl, fun U hU hW => ⟨rfl, hE.call va_S.rf (fun q h => by rw [hU] at h; exact h) hU hW, by rw [hU]; exact hPc, va_K.moved hW.alike hKc⟩⟩ rfl rfl hl.1 rfl (lv_room (Nat.le_of_ble_eq_true rfl)) dL_work_5 ⟨Nat.le_of_ble_eq_true rfl, Nat.le_of_ble_eq_true rfl⟩) hown [⟨0, 10, 13, 13⟩] ⟨0, 10, 17, 35⟩ [⟨0, 10, 21, 15⟩] hex (List.forall_mem_cons.mpr ⟨⟨by decide, by decide, "java/lang/IndexOutOfBoundsException", (hts (.classLink RL 13 "java/lang/IndexOutOfBoundsException") (by decide +kernel)), hE.2.2.2.2 ("java/lang/IllegalStateException", "java/lang/IndexOutOfBoundsException") (by decide)⟩, List.forall_mem_nil _⟩) (by decide) (by decide) (hts (.classLink RL 35 "java/lang/IllegalStateException") (by decide +kernel)) (va_any rfl (hE.2.2.1 (.castable "java/lang/IllegalStateException" "java/lang/IllegalStateException") (by decide +kernel))) (fun qx H1 hz1 hk1 => ?_)
  have hP : va_P (dC, dI) vwCl [(h0, .inr (4, [.ref qs, .ref qr, .ref qm, .ref qw, .ref qt, .int (zi we)])), (qs, aI cI 10 sf), (qo, aL cL 1 of)] H1 := zk_world hP hk1
  have hS : va_S A s.heap H1 [] := zk_S hz1 hk1
  refine lv_astore (lv' := [(4, .ref qx), (0, .ref h0), (1, .int (zi sl)), (2, .int (zi ot)), (3, .ref qo)]) hx hb dL_work_17 hl (by decide) rfl (fun ls hl => ?_)
  refine zw_iconst hx hb dL_work_19 ?_
  have hP9 := hP.sub (ws' := [(h0, .inr (4, [.ref qs, .ref qr, .ref qm, .ref qw, .ref qt, .int (zi we)])), (qs, aI cI 10 sf), (qo, aL cL 1 of)]) [0, 1, 2] rfl
  have hD9 := hD.sub (ws' := [(h0, .inr (4, [.ref qs, .ref qr, .ref qm, .ref qw, .ref qt, .int (zi we)])), (qs, aI cI 10 sf), (qo, aL cL 1 of)]) [0, 1, 2] (by decide) rfl
  exact W.iret (v := zi 2) hx hb hr (fun t ht hW => ⟨⟨zi 2, (), rfl, rfl, by rw [ht]; exact hP9, va_K.moved hW.alike hK, hD9⟩, hS.F ht⟩) hS.2.2 dL_work_20

set_option maxHeartbeats 4000000 in
set_option maxRecDepth 100000 in
theorem c_L_work_3 (l : Launch) (hst : l.stackTraces = false) (dC : Nat → ClassId) (dI : Nat → Nat → Nat) (cI : ClassId) (cL : ClassId) (cO : ClassId) (h0 : Nat) (qs : Nat) (qr : Nat) (qm : Nat) (qw : Nat) (qt : Nat) (we : Int) (sf : Nat → Int) (qo : Nat) (of : Nat → Int) (sl : Int) (ot : Int) (sz : Nat) (hp0 : 0 ≤ sl ∧ sl ≤ 9) (hp1 : 0 ≤ ot ∧ ot ≤ 9) (hp2 : 0 ≤ (sf sl.toNat) ∧ (sf sl.toNat) ≤ 3652058) (hp3 : 0 ≤ (sf ot.toNat) ∧ (sf ot.toNat) ≤ 3652058) (hp4 : 4000 < (sf sl.toNat) - (sf ot.toNat) ∨ 4000 < (sf ot.toNat) - (sf sl.toNat)) : Met l yL_work wsL_work ({ frames := 7, cells := 1, slots := 6, locals := 117 }) (zPx (dC, dI) [(cI, .int), (cL, .long), (cO, .object "java/lang/Object")] sz [.ref h0, .int (zi sl), .int (zi ot), .ref qo] [(h0, .inr (4, [.ref qs, .ref qr, .ref qm, .ref qw, .ref qt, .int (zi we)])), (qs, aI cI 10 sf), (qo, aL cL 1 of)]) (va_Qi (fun (r : Int32) (_ : Unit) => r = zi 3) (zB (dC, dI) [(cI, .int), (cL, .long), (cO, .object "java/lang/Object")] (va_A [(h0, .inr (4, [.ref qs, .ref qr, .ref qm, .ref qw, .ref qt, .int (zi we)])), (qs, aI cI 10 sf), (qo, aL cL 1 of)] sz) [(h0, .inr (4, [.ref qs, .ref qr, .ref qm, .ref qw, .ref qt, .int (zi we)])), (qs, aI cI 10 sf), (qo, aL cL 1 of)]) (va_A [(h0, .inr (4, [.ref qs, .ref qr, .ref qm, .ref qw, .ref qt, .int (zi we)])), (qs, aI cI 10 sf), (qo, aL cL 1 of)] sz)) 1 6 (va_A [(h0, .inr (4, [.ref qs, .ref qr, .ref qm, .ref qw, .ref qt, .int (zi we)])), (qs, aI cI 10 sf), (qo, aL cL 1 of)] sz) := by
  refine va_MetW (hh := [(0, 10, 13, 13), (0, 10, 17, 35), (0, 10, 21, 15)]) (cc := cL_work) (maxL := 5) (ret := (some .int)) (by decide) rfl ?_
  intro p e s m args below meth c s₁ B hml hv
  obtain ⟨rfl, hsz, hE, hP, hK, hD0⟩ := hv
  have hx := B.exec
  have hb := B.bytes
  have hr := B.returns
  have hts := atoms_spec (ws := wsL_work) B.pre
  have hown : s.vm.findClass RL = some m.cls := findClass_of_methodNamed B.named
  have hlocks := B.notSynchronized
  have hex : c.exceptionTable.toList = [⟨0, 10, 13, 13⟩, ⟨0, 10, 17, 35⟩, ⟨0, 10, 21, 15⟩] := vx_table (x := yL_work) B (hts _ List.mem_cons_self)
  subst hsz
  have hD := hD0.self (sz := s.heap.size)
  generalize hAe : va_A [(h0, .inr (4, [.ref qs, .ref qr, .ref qm, .ref qw, .ref qt, .int (zi we)])), (qs, aI cI 10 sf), (qo, aL cL 1 of)] s.heap.size = A at hD ⊢
  have hA : ∀ q : Nat, s.heap.size ≤ q → A q := fun q h => by rw [← hAe]; exact Or.inr h
  have hS : va_S A s.heap s.heap [] := va_S.rf
  have hP : va_P (dC, dI) vwCl [(h0, .inr (4, [.ref qs, .ref qr, .ref qm, .ref qw, .ref qt, .int (zi we)])), (qs, aI cI 10 sf), (qo, aL cL 1 of)] s.heap := hP
  have hl := lv_entry ([.ref h0, .int (zi sl), .int (zi ot), .ref qo]) (n := 5) (Nat.le_of_ble_eq_true rfl)
  rw [lg_entry_eq]
  generalize (lg_sl ([.ref h0, .int (zi sl), .int (zi ot), .ref qo]) ++ List.replicate (5 - (lg_sl ([.ref h0, .int (zi sl), .int (zi ot), .ref qo])).length) Slot.unset).toArray = ls at hl ⊢
  have hl : lv_has ls 5 [(0, .ref h0), (1, .int (zi sl)), (2, .int (zi ot)), (3, .ref qo)] := hl
  refine lv_aload_n hx hb dL_work_0 rfl (lv_at hl 3 rfl) ?_
  refine zw_iconst hx hb dL_work_1 ?_
  refine lv_aload_n hx hb dL_work_2 rfl (lv_at hl 0 rfl) ?_
  refine lv_iload_n hx hb dL_work_3 rfl (lv_at hl 1 rfl) ?_
  refine lv_iload_n hx hb dL_work_4 rfl (lv_at hl 2 rfl) ?_
  have hh1 := t_X4_work_3 l hst dC dI cI h0 qs qr qm qw qt we sf sl ot (by first | exact hp0 | omega) (by first | exact hp1 | omega) (by first | exact hp2 | omega) (by first | exact hp3 | omega) (by first | exact hp4 | omega)
  have hPc := hP.sub (ws' := [(h0, .inr (4, [.ref qs, .ref qr, .ref qm, .ref qw, .ref qt, .int (zi we)])), (qs, aI cI 10 sf)]) [0, 1] rfl
  have hKc : va_K (dC, dI) vwCl [(cI, .int)] s := hK.sub (tys' := [(cI, .int)]) [0] rfl
  refine zt_catch (own := RL) (name := "java/lang/IllegalArgumentException") (vx_runV (As := [.int (zi sl), .int (zi ot)]) (rest := [.int (zi 0), .ref qo]) ⟨hx, hb, hml, hown, hts⟩ hh1 (cwV 2 hts gL_work_X4_work rfl rfl rfl (by decide +kernel) ⟨Nat.le_of_ble_eq_true rfl, Nat.le_of_ble_eq_true rfl⟩) ⟨zPt.blind _ _ _ _, va_recv hKc hPc (ci := 4) (q0 := 0) rfl rfl, fun U hU hW => ⟨rfl, hE.call va_S.rf (fun q h => by rw [hU] at h; exact h) hU hW, by rw [hU]; exact hPc, va_K.moved hW.alike hKc⟩⟩ rfl rfl hl.1 rfl (lv_room (Nat.le_of_ble_eq_true rfl)) dL_work_5 ⟨Nat.le_of_ble_eq_true rfl, Nat.le_of_ble_eq_true rfl⟩) hown [⟨0, 10, 13, 13⟩, ⟨0, 10, 17, 35⟩] ⟨0, 10, 21, 15⟩ [] hex (List.forall_mem_cons.mpr ⟨⟨by decide, by decide, "java/lang/IndexOutOfBoundsException", (hts (.classLink RL 13 "java/lang/IndexOutOfBoundsException") (by decide +kernel)), hE.2.2.2.2 ("java/lang/IllegalArgumentException", "java/lang/IndexOutOfBoundsException") (by decide)⟩, List.forall_mem_cons.mpr ⟨⟨by decide, by decide, "java/lang/IllegalStateException", (hts (.classLink RL 35 "java/lang/IllegalStateException") (by decide +kernel)), hE.2.2.2.2 ("java/lang/IllegalArgumentException", "java/lang/IllegalStateException") (by decide)⟩, List.forall_mem_nil _⟩⟩) (by decide) (by decide) (hts (.classLink RL 15 "java/lang/IllegalArgumentException") (by decide +kernel)) (va_any rfl (hE.2.2.1 (.castable "java/lang/IllegalArgumentException" "java/lang/IllegalArgumentException") (by decide +kernel))) (fun qx H1 hz1 hk1 => ?_)
  have hP : va_P (dC, dI) vwCl [(h0, .inr (4, [.ref qs, .ref qr, .ref qm, .ref qw, .ref qt, .int (zi we)])), (qs, aI cI 10 sf), (qo, aL cL 1 of)] H1 := zk_world hP hk1
  have hS : va_S A s.heap H1 [] := zk_S hz1 hk1
  refine lv_astore (lv' := [(4, .ref qx), (0, .ref h0), (1, .int (zi sl)), (2, .int (zi ot)), (3, .ref qo)]) hx hb dL_work_21 hl (by decide) rfl (fun ls hl => ?_)
  refine zw_iconst hx hb dL_work_23 ?_
  have hP9 := hP.sub (ws' := [(h0, .inr (4, [.ref qs, .ref qr, .ref qm, .ref qw, .ref qt, .int (zi we)])), (qs, aI cI 10 sf), (qo, aL cL 1 of)]) [0, 1, 2] rfl
  have hD9 := hD.sub (ws' := [(h0, .inr (4, [.ref qs, .ref qr, .ref qm, .ref qw, .ref qt, .int (zi we)])), (qs, aI cI 10 sf), (qo, aL cL 1 of)]) [0, 1, 2] (by decide) rfl
  exact W.iret (v := zi 3) hx hb hr (fun t ht hW => ⟨⟨zi 3, (), rfl, rfl, by rw [ht]; exact hP9, va_K.moved hW.alike hK, hD9⟩, hS.F ht⟩) hS.2.2 dL_work_24

set_option maxHeartbeats 4000000 in
set_option maxRecDepth 100000 in
theorem c_L_work (l : Launch)  (dC : Nat → ClassId) (dI : Nat → Nat → Nat) (cI : ClassId) (cL : ClassId) (cO : ClassId) (h0 : Nat) (qs : Nat) (qr : Nat) (qm : Nat) (qw : Nat) (qt : Nat) (we : Int) (sf : Nat → Int) (qk : Nat) (fi : Int) (ln : Int) (mf : Nat → Int) (mc : Int) (qe : Nat) (ru : Int) (ef : Nat → Option Nat) (cap : Nat) (qo : Nat) (of : Nat → Int) (sl : Int) (ot : Int) (rf : Nat → Nat) (kf : Nat → Int) (af : Nat → Int) (bf : Nat → Int) (zf : Nat → Int) (sz : Nat) (hp0 : 0 ≤ sl ∧ sl ≤ 9) (hp1 : 0 ≤ ot ∧ ot ≤ 9) (hp2 : 0 ≤ (sf sl.toNat) ∧ (sf sl.toNat) ≤ 3652058) (hp3 : 0 ≤ (sf ot.toNat) ∧ (sf ot.toNat) ≤ 3652058) (hp4 : 0 ≤ ru ∧ ru ≤ 12 ∧ ru ≤ (cap : Int) ∧ (cap : Int) ≤ 1000) (hp5 : ∀ j : Nat, (j : Int) < ru → (0 ≤ (kf j) ∧ (kf j) ≤ 3) ∧ ((kf j) = 1 ∧ -100 ≤ (af j) ∧ (af j) ≤ 100 ∨ (kf j) ≠ 1 ∧ 1 ≤ (af j) ∧ (af j) ≤ 12) ∧ ((kf j) = 1 ∨ (kf j) = 2 ∧ 1 ≤ (bf j) ∧ (bf j) ≤ 7 ∨ (kf j) ≠ 2 ∧ 1 ≤ (bf j) ∧ (bf j) ≤ 31) ∧ ((kf j) ≠ 2 ∨ (zf j) = -1 ∨ 1 ≤ (zf j) ∧ (zf j) ≤ 4)) (hp6 : ∀ j : Nat, (j : Int) < ru → ef j = some (rf j)) (hp7 : 0 ≤ we ∧ we ≤ 127) (hp8 : 0 ≤ fi ∧ fi ≤ 4000000 ∧ 0 ≤ ln ∧ ln ≤ 366) (hp9 : (max (sf sl.toNat) (sf ot.toNat)) - (min (sf sl.toNat) (sf ot.toNat)) ≤ 4000) : Met l yL_work wsL_work ({ frames := 7, cells := 0, slots := 0, locals := 162 }) (zPwF (dC, dI) [(cI, .int), (cL, .long), (cO, .object "java/lang/Object")] sz [.ref h0, .int (zi sl), .int (zi ot), .ref qo] [(h0, .inr (4, [.ref qs, .ref qr, .ref qm, .ref qw, .ref qt, .int (zi we)])), (qs, aI cI 10 sf), (qm, .inr (2, [.ref qk, .int (zi fi), .int (zi ln)])), (qk, aI cI 366 mf), (qr, .inr (0, [.int (zi mc), .ref qe, .int (zi ru)])), (qe, aR cO cap ef), (qo, aL cL 1 of)] (zRu (dC, dI) ru rf kf af bf zf)) (va_Qi (fun (r : Int32) (u : (Int) × (Int) × (Nat → Int)) => r = zi 0 ∧ (0 ≤ u.1 ∧ u.1 ≤ 4000000 ∧ 0 ≤ u.2.1 ∧ u.2.1 ≤ 366)) (fun (u : (Int) × (Int) × (Nat → Int)) => zB (dC, dI) [(cI, .int), (cL, .long), (cO, .object "java/lang/Object")] (va_A [(h0, .inr (4, [.ref qs, .ref qr, .ref qm, .ref qw, .ref qt, .int (zi we)])), (qs, aI cI 10 sf), (qm, .inr (2, [.ref qk, .int (zi fi), .int (zi ln)])), (qk, aI cI 366 mf), (qr, .inr (0, [.int (zi mc), .ref qe, .int (zi ru)])), (qe, aR cO cap ef), (qo, aL cL 1 of)] sz) [(h0, .inr (4, [.ref qs, .ref qr, .ref qm, .ref qw, .ref qt, .int (zi we)])), (qs, aI cI 10 sf), (qm, .inr (2, [.ref qk, .int (zi u.1), .int (zi u.2.1)])), (qk, aI cI 366 u.2.2), (qr, .inr (0, [.int (zi mc), .ref qe, .int (zi ru)])), (qe, aR cO cap ef), (qo, aL cL 1 (zup of (Int.toNat 0) (if (sf ot.toNat) < (sf sl.toNat) then -(zcn (wkX4 we kf af bf zf ru) ((max (sf sl.toNat) (sf ot.toNat)) - (min (sf sl.toNat) (sf ot.toNat))).toNat (min (sf sl.toNat) (sf ot.toNat))) else zcn (wkX4 we kf af bf zf ru) ((max (sf sl.toNat) (sf ot.toNat)) - (min (sf sl.toNat) (sf ot.toNat))).toNat (min (sf sl.toNat) (sf ot.toNat)))))] ()) (va_A [(h0, .inr (4, [.ref qs, .ref qr, .ref qm, .ref qw, .ref qt, .int (zi we)])), (qs, aI cI 10 sf), (qm, .inr (2, [.ref qk, .int (zi fi), .int (zi ln)])), (qk, aI cI 366 mf), (qr, .inr (0, [.int (zi mc), .ref qe, .int (zi ru)])), (qe, aR cO cap ef), (qo, aL cL 1 of)] sz)) 0 0 (va_A [(h0, .inr (4, [.ref qs, .ref qr, .ref qm, .ref qw, .ref qt, .int (zi we)])), (qs, aI cI 10 sf), (qm, .inr (2, [.ref qk, .int (zi fi), .int (zi ln)])), (qk, aI cI 366 mf), (qr, .inr (0, [.int (zi mc), .ref qe, .int (zi ru)])), (qe, aR cO cap ef), (qo, aL cL 1 of)] sz) := by
  refine va_MetW (hh := [(0, 10, 13, 13), (0, 10, 17, 35), (0, 10, 21, 15)]) (cc := cL_work) (maxL := 5) (ret := (some .int)) (by decide) rfl ?_
  intro p e s m args below meth c s₁ B hml hv
  obtain ⟨rfl, hsz, hP, hK, hD0, hG⟩ := hv
  have hx := B.exec
  have hb := B.bytes
  have hr := B.returns
  have hts := atoms_spec (ws := wsL_work) B.pre
  have hown : s.vm.findClass RL = some m.cls := findClass_of_methodNamed B.named
  have hlocks := B.notSynchronized
  subst hsz
  have hD := hD0.self (sz := s.heap.size)
  generalize hAe : va_A [(h0, .inr (4, [.ref qs, .ref qr, .ref qm, .ref qw, .ref qt, .int (zi we)])), (qs, aI cI 10 sf), (qm, .inr (2, [.ref qk, .int (zi fi), .int (zi ln)])), (qk, aI cI 366 mf), (qr, .inr (0, [.int (zi mc), .ref qe, .int (zi ru)])), (qe, aR cO cap ef), (qo, aL cL 1 of)] s.heap.size = A at hD hG ⊢
  have hA : ∀ q : Nat, s.heap.size ≤ q → A q := fun q h => by rw [← hAe]; exact Or.inr h
  have hS : va_S A s.heap s.heap [] := va_S.rf
  have hP : va_P (dC, dI) vwCl [(h0, .inr (4, [.ref qs, .ref qr, .ref qm, .ref qw, .ref qt, .int (zi we)])), (qs, aI cI 10 sf), (qm, .inr (2, [.ref qk, .int (zi fi), .int (zi ln)])), (qk, aI cI 366 mf), (qr, .inr (0, [.int (zi mc), .ref qe, .int (zi ru)])), (qe, aR cO cap ef), (qo, aL cL 1 of)] s.heap := hP
  have hl := lv_entry ([.ref h0, .int (zi sl), .int (zi ot), .ref qo]) (n := 5) (Nat.le_of_ble_eq_true rfl)
  rw [lg_entry_eq]
  generalize (lg_sl ([.ref h0, .int (zi sl), .int (zi ot), .ref qo]) ++ List.replicate (5 - (lg_sl ([.ref h0, .int (zi sl), .int (zi ot), .ref qo])).length) Slot.unset).toArray = ls at hl ⊢
  have hl : lv_has ls 5 [(0, .ref h0), (1, .int (zi sl)), (2, .int (zi ot)), (3, .ref qo)] := hl
  first | have hzb := zcn_b (wkX4 we kf af bf zf ru) ((max (sf sl.toNat) (sf ot.toNat)) - (min (sf sl.toNat) (sf ot.toNat))).toNat (min (sf sl.toNat) (sf ot.toNat)) | skip
  refine lv_aload_n hx hb dL_work_0 rfl (lv_at hl 3 rfl) ?_
  refine zw_iconst hx hb dL_work_1 ?_
  refine lv_aload_n hx hb dL_work_2 rfl (lv_at hl 0 rfl) ?_
  refine lv_iload_n hx hb dL_work_3 rfl (lv_at hl 1 rfl) ?_
  refine lv_iload_n hx hb dL_work_4 rfl (lv_at hl 2 rfl) ?_
  have hh1 := c_X4_work l dC dI cI cO h0 qs qr qm qw qt we sf qk fi ln mf mc qe ru cap ef rf kf af bf zf sl ot s.heap.size (by first | exact hp0 | omega) (by first | exact hp1 | omega) (by first | exact hp2 | omega) (by first | exact hp3 | omega) (by first | exact hp4 | omega) (by first | exact hp5 | omega) (by first | exact hp6 | omega) (by first | exact hp7 | omega) (by first | exact hp8 | omega) (by first | exact hp9 | omega)
  have hPc := hP.sub (ws' := [(h0, .inr (4, [.ref qs, .ref qr, .ref qm, .ref qw, .ref qt, .int (zi we)])), (qs, aI cI 10 sf), (qm, .inr (2, [.ref qk, .int (zi fi), .int (zi ln)])), (qk, aI cI 366 mf), (qr, .inr (0, [.int (zi mc), .ref qe, .int (zi ru)])), (qe, aR cO cap ef)]) [0, 1, 2, 3, 4, 5] rfl
  have hKc : va_K (dC, dI) vwCl [(cI, .int), (cO, .object "java/lang/Object")] s := hK.sub (tys' := [(cI, .int), (cO, .object "java/lang/Object")]) [0, 2] rfl
  have hDc := hD.sub (ws' := [(h0, .inr (4, [.ref qs, .ref qr, .ref qm, .ref qw, .ref qt, .int (zi we)])), (qs, aI cI 10 sf), (qm, .inr (2, [.ref qk, .int (zi fi), .int (zi ln)])), (qk, aI cI 366 mf), (qr, .inr (0, [.int (zi mc), .ref qe, .int (zi ru)])), (qe, aR cO cap ef)]) [0, 1, 2, 3, 4, 5] (by decide) rfl
  have hFc := va_free (wc := [(h0, .inr (4, [.ref qs, .ref qr, .ref qm, .ref qw, .ref qt, .int (zi we)])), (qs, aI cI 10 sf), (qm, .inr (2, [.ref qk, .int (zi fi), .int (zi ln)])), (qk, aI cI 366 mf), (qr, .inr (0, [.int (zi mc), .ref qe, .int (zi ru)])), (qe, aR cO cap ef)]) hD hS hA [0, 1, 2, 3, 4, 5] rfl
  refine va_calli (va_runV (As := [.int (zi sl), .int (zi ot)]) (rest := [.int (zi 0), .ref qo]) ⟨hx, hb, hml, hown, hts⟩ hh1 (cwV 2 hts gL_work_X4_work rfl rfl rfl (by decide +kernel) ⟨Nat.le_of_ble_eq_true rfl, Nat.le_of_ble_eq_true rfl⟩) ⟨zPwF.blind _ _ _ _ _ zRu_ok, va_recv hKc hPc (ci := 4) (q0 := 0) rfl rfl, fun U hU hW => ⟨rfl, by rw [hU], by rw [hU]; exact hPc, va_K.moved hW.alike hKc, hDc.weaken (fun _ _ _ _ => trivial), zF.call zRu_ok hG hS hFc hU hW⟩⟩ rfl rfl hl.1 rfl (lv_room (Nat.le_of_ble_eq_true rfl)) dL_work_5 ⟨Nat.le_of_ble_eq_true rfl, Nat.le_of_ble_eq_true rfl⟩) hS (fun q _ h => hFc q h) hFc (fun r1 u t H1 locs ht hvm hw hB hz1 hk1 hS => ?_)
  obtain ⟨fk_2, lk_2, mk_2⟩ := u
  obtain ⟨hw, hw1⟩ := hw
  replace hw1 : 0 ≤ fk_2 ∧ fk_2 ≤ 4000000 ∧ 0 ≤ lk_2 ∧ lk_2 ≤ 366 := hw1
  obtain ⟨hP1, hK1, hD1⟩ := hB
  rw [ht] at hP1
  replace hP1 : va_P (dC, dI) vwCl [(h0, .inr (4, [.ref qs, .ref qr, .ref qm, .ref qw, .ref qt, .int (zi we)])), (qs, aI cI 10 sf), (qm, .inr (2, [.ref qk, .int (zi fk_2), .int (zi lk_2)])), (qk, aI cI 366 mk_2), (qr, .inr (0, [.int (zi mc), .ref qe, .int (zi ru)])), (qe, aR cO cap ef)] H1 := hP1
  replace hD1 : va_D _ [(h0, .inr (4, [.ref qs, .ref qr, .ref qm, .ref qw, .ref qt, .int (zi we)])), (qs, aI cI 10 sf), (qm, .inr (2, [.ref qk, .int (zi fk_2), .int (zi lk_2)])), (qk, aI cI 366 mk_2), (qr, .inr (0, [.int (zi mc), .ref qe, .int (zi ru)])), (qe, aR cO cap ef)] := hD1
  obtain ⟨hP, hD⟩ := va_join (wr := [(qo, aL cL 1 of)]) (w1 := [(h0, .inr (4, [.ref qs, .ref qr, .ref qm, .ref qw, .ref qt, .int (zi we)])), (qs, aI cI 10 sf), (qm, .inr (2, [.ref qk, .int (zi fk_2), .int (zi lk_2)])), (qk, aI cI 366 mk_2), (qr, .inr (0, [.int (zi mc), .ref qe, .int (zi ru)])), (qe, aR cO cap ef)]) hP hD [0, 1, 2, 3, 4, 5] [6] rfl rfl (by decide) (by decide) hk1 hFc hP1 hD1
  generalize H1 = H at hP hS ⊢
  obtain rfl : r1 = zi (if (sf ot.toNat) < (sf sl.toNat) then -(zcn (wkX4 we kf af bf zf ru) ((max (sf sl.toNat) (sf ot.toNat)) - (min (sf sl.toNat) (sf ot.toNat))).toNat (min (sf sl.toNat) (sf ot.toNat))) else zcn (wkX4 we kf af bf zf ru) ((max (sf sl.toNat) (sf ot.toNat)) - (min (sf sl.toNat) (sf ot.toNat))).toNat (min (sf sl.toNat) (sf ot.toNat))) := hw
  have hP : va_P (dC, dI) vwCl [(qo, aL cL 1 of), (h0, .inr (4, [.ref qs, .ref qr, .ref qm, .ref qw, .ref qt, .int (zi we)])), (qs, aI cI 10 sf), (qm, .inr (2, [.ref qk, .int (zi fk_2), .int (zi lk_2)])), (qk, aI cI 366 mk_2), (qr, .inr (0, [.int (zi mc), .ref qe, .int (zi ru)])), (qe, aR cO cap ef)] H := hP
  have hD : va_D A [(qo, aL cL 1 of), (h0, .inr (4, [.ref qs, .ref qr, .ref qm, .ref qw, .ref qt, .int (zi we)])), (qs, aI cI 10 sf), (qm, .inr (2, [.ref qk, .int (zi fk_2), .int (zi lk_2)])), (qk, aI cI 366 mk_2), (qr, .inr (0, [.int (zi mc), .ref qe, .int (zi ru)])), (qe, aR cO cap ef)] := hD
  refine zw_i2l hx hb dL_work_8 ⟨by omega, by omega⟩ ?_
  refine zw_last hx hb hK hP hD hS 0 1 rfl rfl (by omega) (by omega) ⟨by omega, by omega⟩ dL_work_9 (fun H locs hP hD hS => ?_)
  have hP : va_P (dC, dI) vwCl [(qo, aL cL 1 (zup of (Int.toNat 0) (if (sf ot.toNat) < (sf sl.toNat) then -(zcn (wkX4 we kf af bf zf ru) ((max (sf sl.toNat) (sf ot.toNat)) - (min (sf sl.toNat) (sf ot.toNat))).toNat (min (sf sl.toNat) (sf ot.toNat))) else zcn (wkX4 we kf af bf zf ru) ((max (sf sl.toNat) (sf ot.toNat)) - (min (sf sl.toNat) (sf ot.toNat))).toNat (min (sf sl.toNat) (sf ot.toNat))))), (h0, .inr (4, [.ref qs, .ref qr, .ref qm, .ref qw, .ref qt, .int (zi we)])), (qs, aI cI 10 sf), (qm, .inr (2, [.ref qk, .int (zi fk_2), .int (zi lk_2)])), (qk, aI cI 366 mk_2), (qr, .inr (0, [.int (zi mc), .ref qe, .int (zi ru)])), (qe, aR cO cap ef)] H := hP
  have hD : va_D A [(qo, aL cL 1 (zup of (Int.toNat 0) (if (sf ot.toNat) < (sf sl.toNat) then -(zcn (wkX4 we kf af bf zf ru) ((max (sf sl.toNat) (sf ot.toNat)) - (min (sf sl.toNat) (sf ot.toNat))).toNat (min (sf sl.toNat) (sf ot.toNat))) else zcn (wkX4 we kf af bf zf ru) ((max (sf sl.toNat) (sf ot.toNat)) - (min (sf sl.toNat) (sf ot.toNat))).toNat (min (sf sl.toNat) (sf ot.toNat))))), (h0, .inr (4, [.ref qs, .ref qr, .ref qm, .ref qw, .ref qt, .int (zi we)])), (qs, aI cI 10 sf), (qm, .inr (2, [.ref qk, .int (zi fk_2), .int (zi lk_2)])), (qk, aI cI 366 mk_2), (qr, .inr (0, [.int (zi mc), .ref qe, .int (zi ru)])), (qe, aR cO cap ef)] := hD
  refine lv_goto (tgt := 25) hx hb dL_work_10 (by decide) ?_
  refine zw_iconst hx hb dL_work_25 ?_
  have hP9 := hP.sub (ws' := [(h0, .inr (4, [.ref qs, .ref qr, .ref qm, .ref qw, .ref qt, .int (zi we)])), (qs, aI cI 10 sf), (qm, .inr (2, [.ref qk, .int (zi fk_2), .int (zi lk_2)])), (qk, aI cI 366 mk_2), (qr, .inr (0, [.int (zi mc), .ref qe, .int (zi ru)])), (qe, aR cO cap ef), (qo, aL cL 1 (zup of (Int.toNat 0) (if (sf ot.toNat) < (sf sl.toNat) then -(zcn (wkX4 we kf af bf zf ru) ((max (sf sl.toNat) (sf ot.toNat)) - (min (sf sl.toNat) (sf ot.toNat))).toNat (min (sf sl.toNat) (sf ot.toNat))) else zcn (wkX4 we kf af bf zf ru) ((max (sf sl.toNat) (sf ot.toNat)) - (min (sf sl.toNat) (sf ot.toNat))).toNat (min (sf sl.toNat) (sf ot.toNat)))))]) [1, 2, 3, 4, 5, 6, 0] rfl
  have hD9 := hD.sub (ws' := [(h0, .inr (4, [.ref qs, .ref qr, .ref qm, .ref qw, .ref qt, .int (zi we)])), (qs, aI cI 10 sf), (qm, .inr (2, [.ref qk, .int (zi fk_2), .int (zi lk_2)])), (qk, aI cI 366 mk_2), (qr, .inr (0, [.int (zi mc), .ref qe, .int (zi ru)])), (qe, aR cO cap ef), (qo, aL cL 1 (zup of (Int.toNat 0) (if (sf ot.toNat) < (sf sl.toNat) then -(zcn (wkX4 we kf af bf zf ru) ((max (sf sl.toNat) (sf ot.toNat)) - (min (sf sl.toNat) (sf ot.toNat))).toNat (min (sf sl.toNat) (sf ot.toNat))) else zcn (wkX4 we kf af bf zf ru) ((max (sf sl.toNat) (sf ot.toNat)) - (min (sf sl.toNat) (sf ot.toNat))).toNat (min (sf sl.toNat) (sf ot.toNat)))))]) [1, 2, 3, 4, 5, 6, 0] (by decide) rfl
  have hp9 : 0 ≤ fk_2 ∧ fk_2 ≤ 4000000 ∧ 0 ≤ lk_2 ∧ lk_2 ≤ 366 := by
    assumption
  exact W.iret (v := zi 0) hx hb hr (fun t ht hW => ⟨⟨zi 0, (fk_2, lk_2, mk_2), rfl, ⟨rfl, hp9⟩, by rw [ht]; exact hP9, va_K.moved hW.alike hK, hD9⟩, hS.F ht⟩) hS.2.2 dL_work_26

set_option maxHeartbeats 4000000 in
set_option maxRecDepth 100000 in
theorem c_L_moveWork_1 (l : Launch) (hst : l.stackTraces = false) (dC : Nat → ClassId) (dI : Nat → Nat → Nat) (cI : ClassId) (cL : ClassId) (cO : ClassId) (h0 : Nat) (qs : Nat) (qr : Nat) (qm : Nat) (qw : Nat) (qt : Nat) (we : Int) (qo : Nat) (of : Nat → Int) (sl : Int) (many : Int) (sz : Nat) (hp0 : -2147483648 ≤ sl ∧ sl ≤ 2147483647) (hp1 : sl < 0 ∨ 9 < sl) : Met l yL_moveWork wsL_moveWork ({ frames := 8, cells := 1, slots := 6, locals := 135 }) (zPx (dC, dI) [(cI, .int), (cL, .long), (cO, .object "java/lang/Object")] sz [.ref h0, .int (zi sl), .int (zi many), .ref qo] [(h0, .inr (4, [.ref qs, .ref qr, .ref qm, .ref qw, .ref qt, .int (zi we)])), (qo, aL cL 1 of)]) (va_Qi (fun (r : Int32) (_ : Unit) => r = zi 1) (zB (dC, dI) [(cI, .int), (cL, .long), (cO, .object "java/lang/Object")] (va_A [(h0, .inr (4, [.ref qs, .ref qr, .ref qm, .ref qw, .ref qt, .int (zi we)])), (qo, aL cL 1 of)] sz) [(h0, .inr (4, [.ref qs, .ref qr, .ref qm, .ref qw, .ref qt, .int (zi we)])), (qo, aL cL 1 of)]) (va_A [(h0, .inr (4, [.ref qs, .ref qr, .ref qm, .ref qw, .ref qt, .int (zi we)])), (qo, aL cL 1 of)] sz)) 1 6 (va_A [(h0, .inr (4, [.ref qs, .ref qr, .ref qm, .ref qw, .ref qt, .int (zi we)])), (qo, aL cL 1 of)] sz) := by
  refine va_MetW (hh := [(0, 10, 13, 13), (0, 10, 17, 35), (0, 10, 21, 15), (0, 10, 25, 37)]) (cc := cL_moveWork) (maxL := 5) (ret := (some .int)) (by decide) rfl ?_
  intro p e s m args below meth c s₁ B hml hv
  obtain ⟨rfl, hsz, hE, hP, hK, hD0⟩ := hv
  have hx := B.exec
  have hb := B.bytes
  have hr := B.returns
  have hts := atoms_spec (ws := wsL_moveWork) B.pre
  have hown : s.vm.findClass RL = some m.cls := findClass_of_methodNamed B.named
  have hlocks := B.notSynchronized
  have hex : c.exceptionTable.toList = [⟨0, 10, 13, 13⟩, ⟨0, 10, 17, 35⟩, ⟨0, 10, 21, 15⟩, ⟨0, 10, 25, 37⟩] := vx_table (x := yL_moveWork) B (hts _ List.mem_cons_self)
  subst hsz
  have hD := hD0.self (sz := s.heap.size)
  generalize hAe : va_A [(h0, .inr (4, [.ref qs, .ref qr, .ref qm, .ref qw, .ref qt, .int (zi we)])), (qo, aL cL 1 of)] s.heap.size = A at hD ⊢
  have hA : ∀ q : Nat, s.heap.size ≤ q → A q := fun q h => by rw [← hAe]; exact Or.inr h
  have hS : va_S A s.heap s.heap [] := va_S.rf
  have hP : va_P (dC, dI) vwCl [(h0, .inr (4, [.ref qs, .ref qr, .ref qm, .ref qw, .ref qt, .int (zi we)])), (qo, aL cL 1 of)] s.heap := hP
  have hl := lv_entry ([.ref h0, .int (zi sl), .int (zi many), .ref qo]) (n := 5) (Nat.le_of_ble_eq_true rfl)
  rw [lg_entry_eq]
  generalize (lg_sl ([.ref h0, .int (zi sl), .int (zi many), .ref qo]) ++ List.replicate (5 - (lg_sl ([.ref h0, .int (zi sl), .int (zi many), .ref qo])).length) Slot.unset).toArray = ls at hl ⊢
  have hl : lv_has ls 5 [(0, .ref h0), (1, .int (zi sl)), (2, .int (zi many)), (3, .ref qo)] := hl
  refine lv_aload_n hx hb dL_moveWork_0 rfl (lv_at hl 3 rfl) ?_
  refine zw_iconst hx hb dL_moveWork_1 ?_
  refine lv_aload_n hx hb dL_moveWork_2 rfl (lv_at hl 0 rfl) ?_
  refine lv_iload_n hx hb dL_moveWork_3 rfl (lv_at hl 1 rfl) ?_
  refine lv_iload_n hx hb dL_moveWork_4 rfl (lv_at hl 2 rfl) ?_
  have hh1 := t_X4_moveWork_1 l hst h0 sl many (by first | exact hp0 | omega) (by first | exact hp1 | omega)
  refine zt_catch (own := RL) (name := "java/lang/IndexOutOfBoundsException") (vx_runV (As := [.int (zi sl), .int (zi many)]) (rest := [.int (zi 0), .ref qo]) ⟨hx, hb, hml, hown, hts⟩ hh1 (cwV 2 hts gL_moveWork_X4_moveWork rfl rfl rfl (by decide +kernel) ⟨Nat.le_of_ble_eq_true rfl, Nat.le_of_ble_eq_true rfl⟩) ⟨zP.blind _, va_recv hK hP (ci := 4) (q0 := 0) rfl rfl, fun U hU hW => ⟨rfl, hE.call va_S.rf (fun q h => by rw [hU] at h; exact h) hU hW⟩⟩ rfl rfl hl.1 rfl (lv_room (Nat.le_of_ble_eq_true rfl)) dL_moveWork_5 ⟨Nat.le_of_ble_eq_true rfl, Nat.le_of_ble_eq_true rfl⟩) hown [] ⟨0, 10, 13, 13⟩ [⟨0, 10, 17, 35⟩, ⟨0, 10, 21, 15⟩, ⟨0, 10, 25, 37⟩] hex (List.forall_mem_nil _) (by decide) (by decide) (hts (.classLink RL 13 "java/lang/IndexOutOfBoundsException") (by decide +kernel)) (va_any rfl (hE.2.2.1 (.castable "java/lang/IndexOutOfBoundsException" "java/lang/IndexOutOfBoundsException") (by decide +kernel))) (fun qx H1 hz1 hk1 => ?_)
  have hP : va_P (dC, dI) vwCl [(h0, .inr (4, [.ref qs, .ref qr, .ref qm, .ref qw, .ref qt, .int (zi we)])), (qo, aL cL 1 of)] H1 := zk_world hP hk1
  have hS : va_S A s.heap H1 [] := zk_S hz1 hk1
  refine lv_astore (lv' := [(4, .ref qx), (0, .ref h0), (1, .int (zi sl)), (2, .int (zi many)), (3, .ref qo)]) hx hb dL_moveWork_13 hl (by decide) rfl (fun ls hl => ?_)
  refine zw_iconst hx hb dL_moveWork_15 ?_
  have hP9 := hP.sub (ws' := [(h0, .inr (4, [.ref qs, .ref qr, .ref qm, .ref qw, .ref qt, .int (zi we)])), (qo, aL cL 1 of)]) [0, 1] rfl
  have hD9 := hD.sub (ws' := [(h0, .inr (4, [.ref qs, .ref qr, .ref qm, .ref qw, .ref qt, .int (zi we)])), (qo, aL cL 1 of)]) [0, 1] (by decide) rfl
  exact W.iret (v := zi 1) hx hb hr (fun t ht hW => ⟨⟨zi 1, (), rfl, rfl, by rw [ht]; exact hP9, va_K.moved hW.alike hK, hD9⟩, hS.F ht⟩) hS.2.2 dL_moveWork_16

set_option maxHeartbeats 4000000 in
set_option maxRecDepth 100000 in
theorem c_L_moveWork_2 (l : Launch) (hst : l.stackTraces = false) (dC : Nat → ClassId) (dI : Nat → Nat → Nat) (cI : ClassId) (cL : ClassId) (cO : ClassId) (h0 : Nat) (qs : Nat) (qr : Nat) (qm : Nat) (qw : Nat) (qt : Nat) (we : Int) (sf : Nat → Int) (qo : Nat) (of : Nat → Int) (sl : Int) (many : Int) (sz : Nat) (hp0 : 0 ≤ sl ∧ sl ≤ 9) (hp1 : (sf sl.toNat) = -1) : Met l yL_moveWork wsL_moveWork ({ frames := 8, cells := 1, slots := 6, locals := 137 }) (zPx (dC, dI) [(cI, .int), (cL, .long), (cO, .object "java/lang/Object")] sz [.ref h0, .int (zi sl), .int (zi many), .ref qo] [(h0, .inr (4, [.ref qs, .ref qr, .ref qm, .ref qw, .ref qt, .int (zi we)])), (qs, aI cI 10 sf), (qo, aL cL 1 of)]) (va_Qi (fun (r : Int32) (_ : Unit) => r = zi 2) (zB (dC, dI) [(cI, .int), (cL, .long), (cO, .object "java/lang/Object")] (va_A [(h0, .inr (4, [.ref qs, .ref qr, .ref qm, .ref qw, .ref qt, .int (zi we)])), (qs, aI cI 10 sf), (qo, aL cL 1 of)] sz) [(h0, .inr (4, [.ref qs, .ref qr, .ref qm, .ref qw, .ref qt, .int (zi we)])), (qs, aI cI 10 sf), (qo, aL cL 1 of)]) (va_A [(h0, .inr (4, [.ref qs, .ref qr, .ref qm, .ref qw, .ref qt, .int (zi we)])), (qs, aI cI 10 sf), (qo, aL cL 1 of)] sz)) 1 6 (va_A [(h0, .inr (4, [.ref qs, .ref qr, .ref qm, .ref qw, .ref qt, .int (zi we)])), (qs, aI cI 10 sf), (qo, aL cL 1 of)] sz) := by
  refine va_MetW (hh := [(0, 10, 13, 13), (0, 10, 17, 35), (0, 10, 21, 15), (0, 10, 25, 37)]) (cc := cL_moveWork) (maxL := 5) (ret := (some .int)) (by decide) rfl ?_
  intro p e s m args below meth c s₁ B hml hv
  obtain ⟨rfl, hsz, hE, hP, hK, hD0⟩ := hv
  have hx := B.exec
  have hb := B.bytes
  have hr := B.returns
  have hts := atoms_spec (ws := wsL_moveWork) B.pre
  have hown : s.vm.findClass RL = some m.cls := findClass_of_methodNamed B.named
  have hlocks := B.notSynchronized
  have hex : c.exceptionTable.toList = [⟨0, 10, 13, 13⟩, ⟨0, 10, 17, 35⟩, ⟨0, 10, 21, 15⟩, ⟨0, 10, 25, 37⟩] := vx_table (x := yL_moveWork) B (hts _ List.mem_cons_self)
  subst hsz
  have hD := hD0.self (sz := s.heap.size)
  generalize hAe : va_A [(h0, .inr (4, [.ref qs, .ref qr, .ref qm, .ref qw, .ref qt, .int (zi we)])), (qs, aI cI 10 sf), (qo, aL cL 1 of)] s.heap.size = A at hD ⊢
  have hA : ∀ q : Nat, s.heap.size ≤ q → A q := fun q h => by rw [← hAe]; exact Or.inr h
  have hS : va_S A s.heap s.heap [] := va_S.rf
  have hP : va_P (dC, dI) vwCl [(h0, .inr (4, [.ref qs, .ref qr, .ref qm, .ref qw, .ref qt, .int (zi we)])), (qs, aI cI 10 sf), (qo, aL cL 1 of)] s.heap := hP
  have hl := lv_entry ([.ref h0, .int (zi sl), .int (zi many), .ref qo]) (n := 5) (Nat.le_of_ble_eq_true rfl)
  rw [lg_entry_eq]
  generalize (lg_sl ([.ref h0, .int (zi sl), .int (zi many), .ref qo]) ++ List.replicate (5 - (lg_sl ([.ref h0, .int (zi sl), .int (zi many), .ref qo])).length) Slot.unset).toArray = ls at hl ⊢
  have hl : lv_has ls 5 [(0, .ref h0), (1, .int (zi sl)), (2, .int (zi many)), (3, .ref qo)] := hl
  refine lv_aload_n hx hb dL_moveWork_0 rfl (lv_at hl 3 rfl) ?_
  refine zw_iconst hx hb dL_moveWork_1 ?_
  refine lv_aload_n hx hb dL_moveWork_2 rfl (lv_at hl 0 rfl) ?_
  refine lv_iload_n hx hb dL_moveWork_3 rfl (lv_at hl 1 rfl) ?_
  refine lv_iload_n hx hb dL_moveWork_4 rfl (lv_at hl 2 rfl) ?_
  have hh1 := t_X4_moveWork_2 l hst dC dI cI h0 qs qr qm qw qt we sf sl many (by first | exact hp0 | omega) (by first | exact hp1 | omega)
  have hPc := hP.sub (ws' := [(h0, .inr (4, [.ref qs, .ref qr, .ref qm, .ref qw, .ref qt, .int (zi we)])), (qs, aI cI 10 sf)]) [0, 1] rfl
  have hKc : va_K (dC, dI) vwCl [(cI, .int)] s := hK.sub (tys' := [(cI, .int)]) [0] rfl
  refine zt_catch (own := RL) (name := "java/lang/IllegalStateException") (vx_runV (As := [.int (zi sl), .int (zi many)]) (rest := [.int (zi 0), .ref qo]) ⟨hx, hb, hml, hown, hts⟩ hh1 (cwV 2 hts gL_moveWork_X4_moveWork rfl rfl rfl (by decide +kernel) ⟨Nat.le_of_ble_eq_true rfl, Nat.le_of_ble_eq_true rfl⟩) ⟨zPt.blind _ _ _ _, va_recv hKc hPc (ci := 4) (q0 := 0) rfl rfl, fun U hU hW => ⟨rfl, hE.call va_S.rf (fun q h => by rw [hU] at h; exact h) hU hW, by rw [hU]; exact hPc, va_K.moved hW.alike hKc⟩⟩ rfl rfl hl.1 rfl (lv_room (Nat.le_of_ble_eq_true rfl)) dL_moveWork_5 ⟨Nat.le_of_ble_eq_true rfl, Nat.le_of_ble_eq_true rfl⟩) hown [⟨0, 10, 13, 13⟩] ⟨0, 10, 17, 35⟩ [⟨0, 10, 21, 15⟩, ⟨0, 10, 25, 37⟩] hex (List.forall_mem_cons.mpr ⟨⟨by decide, by decide, "java/lang/IndexOutOfBoundsException", (hts (.classLink RL 13 "java/lang/IndexOutOfBoundsException") (by decide +kernel)), hE.2.2.2.2 ("java/lang/IllegalStateException", "java/lang/IndexOutOfBoundsException") (by decide)⟩, List.forall_mem_nil _⟩) (by decide) (by decide) (hts (.classLink RL 35 "java/lang/IllegalStateException") (by decide +kernel)) (va_any rfl (hE.2.2.1 (.castable "java/lang/IllegalStateException" "java/lang/IllegalStateException") (by decide +kernel))) (fun qx H1 hz1 hk1 => ?_)
  have hP : va_P (dC, dI) vwCl [(h0, .inr (4, [.ref qs, .ref qr, .ref qm, .ref qw, .ref qt, .int (zi we)])), (qs, aI cI 10 sf), (qo, aL cL 1 of)] H1 := zk_world hP hk1
  have hS : va_S A s.heap H1 [] := zk_S hz1 hk1
  refine lv_astore (lv' := [(4, .ref qx), (0, .ref h0), (1, .int (zi sl)), (2, .int (zi many)), (3, .ref qo)]) hx hb dL_moveWork_17 hl (by decide) rfl (fun ls hl => ?_)
  refine zw_iconst hx hb dL_moveWork_19 ?_
  have hP9 := hP.sub (ws' := [(h0, .inr (4, [.ref qs, .ref qr, .ref qm, .ref qw, .ref qt, .int (zi we)])), (qs, aI cI 10 sf), (qo, aL cL 1 of)]) [0, 1, 2] rfl
  have hD9 := hD.sub (ws' := [(h0, .inr (4, [.ref qs, .ref qr, .ref qm, .ref qw, .ref qt, .int (zi we)])), (qs, aI cI 10 sf), (qo, aL cL 1 of)]) [0, 1, 2] (by decide) rfl
  exact W.iret (v := zi 2) hx hb hr (fun t ht hW => ⟨⟨zi 2, (), rfl, rfl, by rw [ht]; exact hP9, va_K.moved hW.alike hK, hD9⟩, hS.F ht⟩) hS.2.2 dL_moveWork_20

set_option maxHeartbeats 4000000 in
set_option maxRecDepth 100000 in
theorem c_L_moveWork_3 (l : Launch) (hst : l.stackTraces = false) (dC : Nat → ClassId) (dI : Nat → Nat → Nat) (cI : ClassId) (cL : ClassId) (cO : ClassId) (h0 : Nat) (qs : Nat) (qr : Nat) (qm : Nat) (qw : Nat) (qt : Nat) (we : Int) (sf : Nat → Int) (qo : Nat) (of : Nat → Int) (sl : Int) (many : Int) (sz : Nat) (hp0 : 0 ≤ sl ∧ sl ≤ 9) (hp1 : 0 ≤ (sf sl.toNat) ∧ (sf sl.toNat) ≤ 3652058) (hp2 : -2147483648 ≤ many ∧ many ≤ 2147483647) (hp3 : many < -1000 ∨ 1000 < many) : Met l yL_moveWork wsL_moveWork ({ frames := 7, cells := 1, slots := 6, locals := 115 }) (zPx (dC, dI) [(cI, .int), (cL, .long), (cO, .object "java/lang/Object")] sz [.ref h0, .int (zi sl), .int (zi many), .ref qo] [(h0, .inr (4, [.ref qs, .ref qr, .ref qm, .ref qw, .ref qt, .int (zi we)])), (qs, aI cI 10 sf), (qo, aL cL 1 of)]) (va_Qi (fun (r : Int32) (_ : Unit) => r = zi 3) (zB (dC, dI) [(cI, .int), (cL, .long), (cO, .object "java/lang/Object")] (va_A [(h0, .inr (4, [.ref qs, .ref qr, .ref qm, .ref qw, .ref qt, .int (zi we)])), (qs, aI cI 10 sf), (qo, aL cL 1 of)] sz) [(h0, .inr (4, [.ref qs, .ref qr, .ref qm, .ref qw, .ref qt, .int (zi we)])), (qs, aI cI 10 sf), (qo, aL cL 1 of)]) (va_A [(h0, .inr (4, [.ref qs, .ref qr, .ref qm, .ref qw, .ref qt, .int (zi we)])), (qs, aI cI 10 sf), (qo, aL cL 1 of)] sz)) 1 6 (va_A [(h0, .inr (4, [.ref qs, .ref qr, .ref qm, .ref qw, .ref qt, .int (zi we)])), (qs, aI cI 10 sf), (qo, aL cL 1 of)] sz) := by
  refine va_MetW (hh := [(0, 10, 13, 13), (0, 10, 17, 35), (0, 10, 21, 15), (0, 10, 25, 37)]) (cc := cL_moveWork) (maxL := 5) (ret := (some .int)) (by decide) rfl ?_
  intro p e s m args below meth c s₁ B hml hv
  obtain ⟨rfl, hsz, hE, hP, hK, hD0⟩ := hv
  have hx := B.exec
  have hb := B.bytes
  have hr := B.returns
  have hts := atoms_spec (ws := wsL_moveWork) B.pre
  have hown : s.vm.findClass RL = some m.cls := findClass_of_methodNamed B.named
  have hlocks := B.notSynchronized
  have hex : c.exceptionTable.toList = [⟨0, 10, 13, 13⟩, ⟨0, 10, 17, 35⟩, ⟨0, 10, 21, 15⟩, ⟨0, 10, 25, 37⟩] := vx_table (x := yL_moveWork) B (hts _ List.mem_cons_self)
  subst hsz
  have hD := hD0.self (sz := s.heap.size)
  generalize hAe : va_A [(h0, .inr (4, [.ref qs, .ref qr, .ref qm, .ref qw, .ref qt, .int (zi we)])), (qs, aI cI 10 sf), (qo, aL cL 1 of)] s.heap.size = A at hD ⊢
  have hA : ∀ q : Nat, s.heap.size ≤ q → A q := fun q h => by rw [← hAe]; exact Or.inr h
  have hS : va_S A s.heap s.heap [] := va_S.rf
  have hP : va_P (dC, dI) vwCl [(h0, .inr (4, [.ref qs, .ref qr, .ref qm, .ref qw, .ref qt, .int (zi we)])), (qs, aI cI 10 sf), (qo, aL cL 1 of)] s.heap := hP
  have hl := lv_entry ([.ref h0, .int (zi sl), .int (zi many), .ref qo]) (n := 5) (Nat.le_of_ble_eq_true rfl)
  rw [lg_entry_eq]
  generalize (lg_sl ([.ref h0, .int (zi sl), .int (zi many), .ref qo]) ++ List.replicate (5 - (lg_sl ([.ref h0, .int (zi sl), .int (zi many), .ref qo])).length) Slot.unset).toArray = ls at hl ⊢
  have hl : lv_has ls 5 [(0, .ref h0), (1, .int (zi sl)), (2, .int (zi many)), (3, .ref qo)] := hl
  refine lv_aload_n hx hb dL_moveWork_0 rfl (lv_at hl 3 rfl) ?_
  refine zw_iconst hx hb dL_moveWork_1 ?_
  refine lv_aload_n hx hb dL_moveWork_2 rfl (lv_at hl 0 rfl) ?_
  refine lv_iload_n hx hb dL_moveWork_3 rfl (lv_at hl 1 rfl) ?_
  refine lv_iload_n hx hb dL_moveWork_4 rfl (lv_at hl 2 rfl) ?_
  have hh1 := t_X4_moveWork_3 l hst dC dI cI h0 qs qr qm qw qt we sf sl many (by first | exact hp0 | omega) (by first | exact hp1 | omega) (by first | exact hp2 | omega) (by first | exact hp3 | omega)
  have hPc := hP.sub (ws' := [(h0, .inr (4, [.ref qs, .ref qr, .ref qm, .ref qw, .ref qt, .int (zi we)])), (qs, aI cI 10 sf)]) [0, 1] rfl
  have hKc : va_K (dC, dI) vwCl [(cI, .int)] s := hK.sub (tys' := [(cI, .int)]) [0] rfl
  refine zt_catch (own := RL) (name := "java/lang/IllegalArgumentException") (vx_runV (As := [.int (zi sl), .int (zi many)]) (rest := [.int (zi 0), .ref qo]) ⟨hx, hb, hml, hown, hts⟩ hh1 (cwV 2 hts gL_moveWork_X4_moveWork rfl rfl rfl (by decide +kernel) ⟨Nat.le_of_ble_eq_true rfl, Nat.le_of_ble_eq_true rfl⟩) ⟨zPt.blind _ _ _ _, va_recv hKc hPc (ci := 4) (q0 := 0) rfl rfl, fun U hU hW => ⟨rfl, hE.call va_S.rf (fun q h => by rw [hU] at h; exact h) hU hW, by rw [hU]; exact hPc, va_K.moved hW.alike hKc⟩⟩ rfl rfl hl.1 rfl (lv_room (Nat.le_of_ble_eq_true rfl)) dL_moveWork_5 ⟨Nat.le_of_ble_eq_true rfl, Nat.le_of_ble_eq_true rfl⟩) hown [⟨0, 10, 13, 13⟩, ⟨0, 10, 17, 35⟩] ⟨0, 10, 21, 15⟩ [⟨0, 10, 25, 37⟩] hex (List.forall_mem_cons.mpr ⟨⟨by decide, by decide, "java/lang/IndexOutOfBoundsException", (hts (.classLink RL 13 "java/lang/IndexOutOfBoundsException") (by decide +kernel)), hE.2.2.2.2 ("java/lang/IllegalArgumentException", "java/lang/IndexOutOfBoundsException") (by decide)⟩, List.forall_mem_cons.mpr ⟨⟨by decide, by decide, "java/lang/IllegalStateException", (hts (.classLink RL 35 "java/lang/IllegalStateException") (by decide +kernel)), hE.2.2.2.2 ("java/lang/IllegalArgumentException", "java/lang/IllegalStateException") (by decide)⟩, List.forall_mem_nil _⟩⟩) (by decide) (by decide) (hts (.classLink RL 15 "java/lang/IllegalArgumentException") (by decide +kernel)) (va_any rfl (hE.2.2.1 (.castable "java/lang/IllegalArgumentException" "java/lang/IllegalArgumentException") (by decide +kernel))) (fun qx H1 hz1 hk1 => ?_)
  have hP : va_P (dC, dI) vwCl [(h0, .inr (4, [.ref qs, .ref qr, .ref qm, .ref qw, .ref qt, .int (zi we)])), (qs, aI cI 10 sf), (qo, aL cL 1 of)] H1 := zk_world hP hk1
  have hS : va_S A s.heap H1 [] := zk_S hz1 hk1
  refine lv_astore (lv' := [(4, .ref qx), (0, .ref h0), (1, .int (zi sl)), (2, .int (zi many)), (3, .ref qo)]) hx hb dL_moveWork_21 hl (by decide) rfl (fun ls hl => ?_)
  refine zw_iconst hx hb dL_moveWork_23 ?_
  have hP9 := hP.sub (ws' := [(h0, .inr (4, [.ref qs, .ref qr, .ref qm, .ref qw, .ref qt, .int (zi we)])), (qs, aI cI 10 sf), (qo, aL cL 1 of)]) [0, 1, 2] rfl
  have hD9 := hD.sub (ws' := [(h0, .inr (4, [.ref qs, .ref qr, .ref qm, .ref qw, .ref qt, .int (zi we)])), (qs, aI cI 10 sf), (qo, aL cL 1 of)]) [0, 1, 2] (by decide) rfl
  exact W.iret (v := zi 3) hx hb hr (fun t ht hW => ⟨⟨zi 3, (), rfl, rfl, by rw [ht]; exact hP9, va_K.moved hW.alike hK, hD9⟩, hS.F ht⟩) hS.2.2 dL_moveWork_24

set_option maxHeartbeats 4000000 in
set_option maxRecDepth 100000 in
theorem c_L_moveWork_4p (l : Launch) (hst : l.stackTraces = false) (dC : Nat → ClassId) (dI : Nat → Nat → Nat) (cI : ClassId) (cL : ClassId) (cO : ClassId) (h0 : Nat) (qs : Nat) (qr : Nat) (qm : Nat) (qw : Nat) (qt : Nat) (we : Int) (sf : Nat → Int) (qk : Nat) (fi : Int) (ln : Int) (mf : Nat → Int) (mc : Int) (qe : Nat) (ru : Int) (ef : Nat → Option Nat) (cap : Nat) (qo : Nat) (of : Nat → Int) (sl : Int) (many : Int) (fz : Nat) (rr : Int) (rf : Nat → Nat) (kf : Nat → Int) (af : Nat → Int) (bf : Nat → Int) (zf : Nat → Int) (sz : Nat) (hp0 : 0 ≤ sl ∧ sl ≤ 9) (hp1 : 0 ≤ (sf sl.toNat) ∧ (sf sl.toNat) ≤ 3652058) (hp2 : 0 ≤ ru ∧ ru ≤ 12 ∧ ru ≤ (cap : Int) ∧ (cap : Int) ≤ 1000) (hp3 : ∀ j : Nat, (j : Int) < ru → (0 ≤ (kf j) ∧ (kf j) ≤ 3) ∧ ((kf j) = 1 ∧ -100 ≤ (af j) ∧ (af j) ≤ 100 ∨ (kf j) ≠ 1 ∧ 1 ≤ (af j) ∧ (af j) ≤ 12) ∧ ((kf j) = 1 ∨ (kf j) = 2 ∧ 1 ≤ (bf j) ∧ (bf j) ≤ 7 ∨ (kf j) ≠ 2 ∧ 1 ≤ (bf j) ∧ (bf j) ≤ 31) ∧ ((kf j) ≠ 2 ∨ (zf j) = -1 ∨ 1 ≤ (zf j) ∧ (zf j) ≤ 4)) (hp4 : ∀ j : Nat, (j : Int) < ru → ef j = some (rf j)) (hp5 : 0 ≤ we ∧ we ≤ 127) (hp6 : 0 ≤ fi ∧ fi ≤ 4000000 ∧ 0 ≤ ln ∧ ln ≤ 366) (hp7 : -1000 ≤ many ∧ many ≤ 1000 ∧ 0 ≤ many) (hp8 : 4000000 ≤ fz) (hp9 : zmv (wkX4 we kf af bf zf ru) 1 fz (sf sl.toNat) many = rr) (hp10 : rr = -1) : Met l yL_moveWork wsL_moveWork ({ frames := 7, cells := 1, slots := 6, locals := 160 }) (zPxF (dC, dI) [(cI, .int), (cL, .long), (cO, .object "java/lang/Object")] sz [.ref h0, .int (zi sl), .int (zi many), .ref qo] [(h0, .inr (4, [.ref qs, .ref qr, .ref qm, .ref qw, .ref qt, .int (zi we)])), (qs, aI cI 10 sf), (qm, .inr (2, [.ref qk, .int (zi fi), .int (zi ln)])), (qk, aI cI 366 mf), (qr, .inr (0, [.int (zi mc), .ref qe, .int (zi ru)])), (qe, aR cO cap ef), (qo, aL cL 1 of)] (zRE (dC, dI) ru rf kf af bf zf)) (va_Qi (fun (r : Int32) (u : (Int) × (Int) × (Nat → Int)) => r = zi 4 ∧ (0 ≤ u.1 ∧ u.1 ≤ 4000000 ∧ 0 ≤ u.2.1 ∧ u.2.1 ≤ 366)) (fun (u : (Int) × (Int) × (Nat → Int)) => zB (dC, dI) [(cI, .int), (cL, .long), (cO, .object "java/lang/Object")] (va_A [(h0, .inr (4, [.ref qs, .ref qr, .ref qm, .ref qw, .ref qt, .int (zi we)])), (qs, aI cI 10 sf), (qm, .inr (2, [.ref qk, .int (zi fi), .int (zi ln)])), (qk, aI cI 366 mf), (qr, .inr (0, [.int (zi mc), .ref qe, .int (zi ru)])), (qe, aR cO cap ef), (qo, aL cL 1 of)] sz) [(h0, .inr (4, [.ref qs, .ref qr, .ref qm, .ref qw, .ref qt, .int (zi we)])), (qs, aI cI 10 sf), (qm, .inr (2, [.ref qk, .int (zi u.1), .int (zi u.2.1)])), (qk, aI cI 366 u.2.2), (qr, .inr (0, [.int (zi mc), .ref qe, .int (zi ru)])), (qe, aR cO cap ef), (qo, aL cL 1 of)] ()) (va_A [(h0, .inr (4, [.ref qs, .ref qr, .ref qm, .ref qw, .ref qt, .int (zi we)])), (qs, aI cI 10 sf), (qm, .inr (2, [.ref qk, .int (zi fi), .int (zi ln)])), (qk, aI cI 366 mf), (qr, .inr (0, [.int (zi mc), .ref qe, .int (zi ru)])), (qe, aR cO cap ef), (qo, aL cL 1 of)] sz)) 1 6 (va_A [(h0, .inr (4, [.ref qs, .ref qr, .ref qm, .ref qw, .ref qt, .int (zi we)])), (qs, aI cI 10 sf), (qm, .inr (2, [.ref qk, .int (zi fi), .int (zi ln)])), (qk, aI cI 366 mf), (qr, .inr (0, [.int (zi mc), .ref qe, .int (zi ru)])), (qe, aR cO cap ef), (qo, aL cL 1 of)] sz) := by
  refine va_MetW (hh := [(0, 10, 13, 13), (0, 10, 17, 35), (0, 10, 21, 15), (0, 10, 25, 37)]) (cc := cL_moveWork) (maxL := 5) (ret := (some .int)) (by decide) rfl ?_
  intro p e s m args below meth c s₁ B hml hv
  obtain ⟨rfl, hsz, hE, hP, hK, hD0, hG⟩ := hv
  have hx := B.exec
  have hb := B.bytes
  have hr := B.returns
  have hts := atoms_spec (ws := wsL_moveWork) B.pre
  have hown : s.vm.findClass RL = some m.cls := findClass_of_methodNamed B.named
  have hlocks := B.notSynchronized
  have hex : c.exceptionTable.toList = [⟨0, 10, 13, 13⟩, ⟨0, 10, 17, 35⟩, ⟨0, 10, 21, 15⟩, ⟨0, 10, 25, 37⟩] := vx_table (x := yL_moveWork) B (hts _ List.mem_cons_self)
  subst hsz
  have hD := hD0.self (sz := s.heap.size)
  generalize hAe : va_A [(h0, .inr (4, [.ref qs, .ref qr, .ref qm, .ref qw, .ref qt, .int (zi we)])), (qs, aI cI 10 sf), (qm, .inr (2, [.ref qk, .int (zi fi), .int (zi ln)])), (qk, aI cI 366 mf), (qr, .inr (0, [.int (zi mc), .ref qe, .int (zi ru)])), (qe, aR cO cap ef), (qo, aL cL 1 of)] s.heap.size = A at hD hG ⊢
  have hA : ∀ q : Nat, s.heap.size ≤ q → A q := fun q h => by rw [← hAe]; exact Or.inr h
  have hS : va_S A s.heap s.heap [] := va_S.rf
  have hP : va_P (dC, dI) vwCl [(h0, .inr (4, [.ref qs, .ref qr, .ref qm, .ref qw, .ref qt, .int (zi we)])), (qs, aI cI 10 sf), (qm, .inr (2, [.ref qk, .int (zi fi), .int (zi ln)])), (qk, aI cI 366 mf), (qr, .inr (0, [.int (zi mc), .ref qe, .int (zi ru)])), (qe, aR cO cap ef), (qo, aL cL 1 of)] s.heap := hP
  have hl := lv_entry ([.ref h0, .int (zi sl), .int (zi many), .ref qo]) (n := 5) (Nat.le_of_ble_eq_true rfl)
  rw [lg_entry_eq]
  generalize (lg_sl ([.ref h0, .int (zi sl), .int (zi many), .ref qo]) ++ List.replicate (5 - (lg_sl ([.ref h0, .int (zi sl), .int (zi many), .ref qo])).length) Slot.unset).toArray = ls at hl ⊢
  have hl : lv_has ls 5 [(0, .ref h0), (1, .int (zi sl)), (2, .int (zi many)), (3, .ref qo)] := hl
  refine lv_aload_n hx hb dL_moveWork_0 rfl (lv_at hl 3 rfl) ?_
  refine zw_iconst hx hb dL_moveWork_1 ?_
  refine lv_aload_n hx hb dL_moveWork_2 rfl (lv_at hl 0 rfl) ?_
  refine lv_iload_n hx hb dL_moveWork_3 rfl (lv_at hl 1 rfl) ?_
  refine lv_iload_n hx hb dL_moveWork_4 rfl (lv_at hl 2 rfl) ?_
  have hh1 := t_X4_moveWork_4p l hst dC dI cI cO h0 qs qr qm qw qt we sf qk fi ln mf mc qe ru cap ef rf kf af bf zf fz rr sl many s.heap.size (by first | exact hp0 | omega) (by first | exact hp1 | omega) (by first | exact hp2 | omega) (by first | exact hp3 | omega) (by first | exact hp4 | omega) (by first | exact hp5 | omega) (by first | exact hp6 | omega) (by first | exact hp7 | omega) (by first | exact hp8 | omega) (by first | exact hp9 | omega) (by first | exact hp10 | omega)
  have hPc := hP.sub (ws' := [(h0, .inr (4, [.ref qs, .ref qr, .ref qm, .ref qw, .ref qt, .int (zi we)])), (qs, aI cI 10 sf), (qm, .inr (2, [.ref qk, .int (zi fi), .int (zi ln)])), (qk, aI cI 366 mf), (qr, .inr (0, [.int (zi mc), .ref qe, .int (zi ru)])), (qe, aR cO cap ef)]) [0, 1, 2, 3, 4, 5] rfl
  have hKc : va_K (dC, dI) vwCl [(cI, .int), (cO, .object "java/lang/Object")] s := hK.sub (tys' := [(cI, .int), (cO, .object "java/lang/Object")]) [0, 2] rfl
  have hDc := hD.sub (ws' := [(h0, .inr (4, [.ref qs, .ref qr, .ref qm, .ref qw, .ref qt, .int (zi we)])), (qs, aI cI 10 sf), (qm, .inr (2, [.ref qk, .int (zi fi), .int (zi ln)])), (qk, aI cI 366 mf), (qr, .inr (0, [.int (zi mc), .ref qe, .int (zi ru)])), (qe, aR cO cap ef)]) [0, 1, 2, 3, 4, 5] (by decide) rfl
  have hFc := va_free (wc := [(h0, .inr (4, [.ref qs, .ref qr, .ref qm, .ref qw, .ref qt, .int (zi we)])), (qs, aI cI 10 sf), (qm, .inr (2, [.ref qk, .int (zi fi), .int (zi ln)])), (qk, aI cI 366 mf), (qr, .inr (0, [.int (zi mc), .ref qe, .int (zi ru)])), (qe, aR cO cap ef)]) hD hS hA [0, 1, 2, 3, 4, 5] rfl
  refine zt_catchW (own := RL) (name := "java/lang/UnsupportedOperationException") (vx_runV (As := [.int (zi sl), .int (zi many)]) (rest := [.int (zi 0), .ref qo]) ⟨hx, hb, hml, hown, hts⟩ hh1 (cwV 2 hts gL_moveWork_X4_moveWork rfl rfl rfl (by decide +kernel) ⟨Nat.le_of_ble_eq_true rfl, Nat.le_of_ble_eq_true rfl⟩) ⟨zPwF.blind _ _ _ _ _ zRE_ok, va_recv hKc hPc (ci := 4) (q0 := 0) rfl rfl, fun U hU hW => ⟨rfl, by rw [hU], by rw [hU]; exact hPc, va_K.moved hW.alike hKc, hDc.weaken (fun _ _ _ _ => trivial), zF.call zRE_ok hG hS hFc hU hW⟩⟩ rfl rfl hl.1 rfl (lv_room (Nat.le_of_ble_eq_true rfl)) dL_moveWork_5 ⟨Nat.le_of_ble_eq_true rfl, Nat.le_of_ble_eq_true rfl⟩) hS (fun q _ h => hFc q h) hFc hown [⟨0, 10, 13, 13⟩, ⟨0, 10, 17, 35⟩, ⟨0, 10, 21, 15⟩] ⟨0, 10, 25, 37⟩ [] hex (List.forall_mem_cons.mpr ⟨⟨by decide, by decide, "java/lang/IndexOutOfBoundsException", (hts (.classLink RL 13 "java/lang/IndexOutOfBoundsException") (by decide +kernel)), hE.2.2.2.2 ("java/lang/UnsupportedOperationException", "java/lang/IndexOutOfBoundsException") (by decide)⟩, List.forall_mem_cons.mpr ⟨⟨by decide, by decide, "java/lang/IllegalStateException", (hts (.classLink RL 35 "java/lang/IllegalStateException") (by decide +kernel)), hE.2.2.2.2 ("java/lang/UnsupportedOperationException", "java/lang/IllegalStateException") (by decide)⟩, List.forall_mem_cons.mpr ⟨⟨by decide, by decide, "java/lang/IllegalArgumentException", (hts (.classLink RL 15 "java/lang/IllegalArgumentException") (by decide +kernel)), hE.2.2.2.2 ("java/lang/UnsupportedOperationException", "java/lang/IllegalArgumentException") (by decide)⟩, List.forall_mem_nil _⟩⟩⟩) (by decide) (by decide) (hts (.classLink RL 37 "java/lang/UnsupportedOperationException") (by decide +kernel)) (va_any rfl (hE.2.2.1 (.castable "java/lang/UnsupportedOperationException" "java/lang/UnsupportedOperationException") (by decide +kernel))) (fun qx u t H1 locs ht hw hB hz1 hk1 hS => ?_)
  obtain ⟨fk_2, lk_2, mk_2⟩ := u
  replace hw : 0 ≤ fk_2 ∧ fk_2 ≤ 4000000 ∧ 0 ≤ lk_2 ∧ lk_2 ≤ 366 := hw
  have hw1 := hw
  obtain ⟨hP1, hK1, hD1⟩ := hB
  rw [ht] at hP1
  replace hP1 : va_P (dC, dI) vwCl [(h0, .inr (4, [.ref qs, .ref qr, .ref qm, .ref qw, .ref qt, .int (zi we)])), (qs, aI cI 10 sf), (qm, .inr (2, [.ref qk, .int (zi fk_2), .int (zi lk_2)])), (qk, aI cI 366 mk_2), (qr, .inr (0, [.int (zi mc), .ref qe, .int (zi ru)])), (qe, aR cO cap ef)] H1 := hP1
  replace hD1 : va_D _ [(h0, .inr (4, [.ref qs, .ref qr, .ref qm, .ref qw, .ref qt, .int (zi we)])), (qs, aI cI 10 sf), (qm, .inr (2, [.ref qk, .int (zi fk_2), .int (zi lk_2)])), (qk, aI cI 366 mk_2), (qr, .inr (0, [.int (zi mc), .ref qe, .int (zi ru)])), (qe, aR cO cap ef)] := hD1
  obtain ⟨hP, hD⟩ := va_join (wr := [(qo, aL cL 1 of)]) (w1 := [(h0, .inr (4, [.ref qs, .ref qr, .ref qm, .ref qw, .ref qt, .int (zi we)])), (qs, aI cI 10 sf), (qm, .inr (2, [.ref qk, .int (zi fk_2), .int (zi lk_2)])), (qk, aI cI 366 mk_2), (qr, .inr (0, [.int (zi mc), .ref qe, .int (zi ru)])), (qe, aR cO cap ef)]) hP hD [0, 1, 2, 3, 4, 5] [6] rfl rfl (by decide) (by decide) hk1 hFc hP1 hD1
  generalize H1 = H at hP hS ⊢
  have hP : va_P (dC, dI) vwCl [(qo, aL cL 1 of), (h0, .inr (4, [.ref qs, .ref qr, .ref qm, .ref qw, .ref qt, .int (zi we)])), (qs, aI cI 10 sf), (qm, .inr (2, [.ref qk, .int (zi fk_2), .int (zi lk_2)])), (qk, aI cI 366 mk_2), (qr, .inr (0, [.int (zi mc), .ref qe, .int (zi ru)])), (qe, aR cO cap ef)] H := hP
  have hD : va_D A [(qo, aL cL 1 of), (h0, .inr (4, [.ref qs, .ref qr, .ref qm, .ref qw, .ref qt, .int (zi we)])), (qs, aI cI 10 sf), (qm, .inr (2, [.ref qk, .int (zi fk_2), .int (zi lk_2)])), (qk, aI cI 366 mk_2), (qr, .inr (0, [.int (zi mc), .ref qe, .int (zi ru)])), (qe, aR cO cap ef)] := hD
  refine lv_astore (lv' := [(4, .ref qx), (0, .ref h0), (1, .int (zi sl)), (2, .int (zi many)), (3, .ref qo)]) hx hb dL_moveWork_25 hl (by decide) rfl (fun ls hl => ?_)
  refine zw_iconst hx hb dL_moveWork_27 ?_
  have hP9 := hP.sub (ws' := [(h0, .inr (4, [.ref qs, .ref qr, .ref qm, .ref qw, .ref qt, .int (zi we)])), (qs, aI cI 10 sf), (qm, .inr (2, [.ref qk, .int (zi fk_2), .int (zi lk_2)])), (qk, aI cI 366 mk_2), (qr, .inr (0, [.int (zi mc), .ref qe, .int (zi ru)])), (qe, aR cO cap ef), (qo, aL cL 1 of)]) [1, 2, 3, 4, 5, 6, 0] rfl
  have hD9 := hD.sub (ws' := [(h0, .inr (4, [.ref qs, .ref qr, .ref qm, .ref qw, .ref qt, .int (zi we)])), (qs, aI cI 10 sf), (qm, .inr (2, [.ref qk, .int (zi fk_2), .int (zi lk_2)])), (qk, aI cI 366 mk_2), (qr, .inr (0, [.int (zi mc), .ref qe, .int (zi ru)])), (qe, aR cO cap ef), (qo, aL cL 1 of)]) [1, 2, 3, 4, 5, 6, 0] (by decide) rfl
  have hp9 : 0 ≤ fk_2 ∧ fk_2 ≤ 4000000 ∧ 0 ≤ lk_2 ∧ lk_2 ≤ 366 := by
    assumption
  exact W.iret (v := zi 4) hx hb hr (fun t ht hW => ⟨⟨zi 4, (fk_2, lk_2, mk_2), rfl, ⟨rfl, hp9⟩, by rw [ht]; exact hP9, va_K.moved hW.alike hK, hD9⟩, hS.F ht⟩) hS.2.2 dL_moveWork_28

set_option maxHeartbeats 4000000 in
set_option maxRecDepth 100000 in
theorem c_L_moveWork_p (l : Launch)  (dC : Nat → ClassId) (dI : Nat → Nat → Nat) (cI : ClassId) (cL : ClassId) (cO : ClassId) (h0 : Nat) (qs : Nat) (qr : Nat) (qm : Nat) (qw : Nat) (qt : Nat) (we : Int) (sf : Nat → Int) (qk : Nat) (fi : Int) (ln : Int) (mf : Nat → Int) (mc : Int) (qe : Nat) (ru : Int) (ef : Nat → Option Nat) (cap : Nat) (qo : Nat) (of : Nat → Int) (sl : Int) (many : Int) (fz : Nat) (rr : Int) (rf : Nat → Nat) (kf : Nat → Int) (af : Nat → Int) (bf : Nat → Int) (zf : Nat → Int) (sz : Nat) (hp0 : 0 ≤ sl ∧ sl ≤ 9) (hp1 : 0 ≤ (sf sl.toNat) ∧ (sf sl.toNat) ≤ 3652058) (hp2 : 0 ≤ ru ∧ ru ≤ 12 ∧ ru ≤ (cap : Int) ∧ (cap : Int) ≤ 1000) (hp3 : ∀ j : Nat, (j : Int) < ru → (0 ≤ (kf j) ∧ (kf j) ≤ 3) ∧ ((kf j) = 1 ∧ -100 ≤ (af j) ∧ (af j) ≤ 100 ∨ (kf j) ≠ 1 ∧ 1 ≤ (af j) ∧ (af j) ≤ 12) ∧ ((kf j) = 1 ∨ (kf j) = 2 ∧ 1 ≤ (bf j) ∧ (bf j) ≤ 7 ∨ (kf j) ≠ 2 ∧ 1 ≤ (bf j) ∧ (bf j) ≤ 31) ∧ ((kf j) ≠ 2 ∨ (zf j) = -1 ∨ 1 ≤ (zf j) ∧ (zf j) ≤ 4)) (hp4 : ∀ j : Nat, (j : Int) < ru → ef j = some (rf j)) (hp5 : 0 ≤ we ∧ we ≤ 127) (hp6 : 0 ≤ fi ∧ fi ≤ 4000000 ∧ 0 ≤ ln ∧ ln ≤ 366) (hp7 : -1000 ≤ many ∧ many ≤ 1000 ∧ 0 ≤ many) (hp8 : 4000000 ≤ fz) (hp9 : zmv (wkX4 we kf af bf zf ru) 1 fz (sf sl.toNat) many = rr) (hp10 : 0 ≤ rr ∧ rr ≤ 3652058) : Met l yL_moveWork wsL_moveWork ({ frames := 7, cells := 0, slots := 0, locals := 160 }) (zPwF (dC, dI) [(cI, .int), (cL, .long), (cO, .object "java/lang/Object")] sz [.ref h0, .int (zi sl), .int (zi many), .ref qo] [(h0, .inr (4, [.ref qs, .ref qr, .ref qm, .ref qw, .ref qt, .int (zi we)])), (qs, aI cI 10 sf), (qm, .inr (2, [.ref qk, .int (zi fi), .int (zi ln)])), (qk, aI cI 366 mf), (qr, .inr (0, [.int (zi mc), .ref qe, .int (zi ru)])), (qe, aR cO cap ef), (qo, aL cL 1 of)] (zRu (dC, dI) ru rf kf af bf zf)) (va_Qi (fun (r : Int32) (u : (Int) × (Int) × (Nat → Int) × (Nat → Int)) => r = zi 0 ∧ ((0 ≤ u.1 ∧ u.1 ≤ 4000000 ∧ 0 ≤ u.2.1 ∧ u.2.1 ≤ 366) ∧ u.2.2.2 = zup sf sl.toNat rr)) (fun (u : (Int) × (Int) × (Nat → Int) × (Nat → Int)) => zB (dC, dI) [(cI, .int), (cL, .long), (cO, .object "java/lang/Object")] (va_A [(h0, .inr (4, [.ref qs, .ref qr, .ref qm, .ref qw, .ref qt, .int (zi we)])), (qs, aI cI 10 sf), (qm, .inr (2, [.ref qk, .int (zi fi), .int (zi ln)])), (qk, aI cI 366 mf), (qr, .inr (0, [.int (zi mc), .ref qe, .int (zi ru)])), (qe, aR cO cap ef), (qo, aL cL 1 of)] sz) [(h0, .inr (4, [.ref qs, .ref qr, .ref qm, .ref qw, .ref qt, .int (zi we)])), (qs, aI cI 10 u.2.2.2), (qm, .inr (2, [.ref qk, .int (zi u.1), .int (zi u.2.1)])), (qk, aI cI 366 u.2.2.1), (qr, .inr (0, [.int (zi mc), .ref qe, .int (zi ru)])), (qe, aR cO cap ef), (qo, aL cL 1 (zup of (Int.toNat 0) rr))] ()) (va_A [(h0, .inr (4, [.ref qs, .ref qr, .ref qm, .ref qw, .ref qt, .int (zi we)])), (qs, aI cI 10 sf), (qm, .inr (2, [.ref qk, .int (zi fi), .int (zi ln)])), (qk, aI cI 366 mf), (qr, .inr (0, [.int (zi mc), .ref qe, .int (zi ru)])), (qe, aR cO cap ef), (qo, aL cL 1 of)] sz)) 0 0 (va_A [(h0, .inr (4, [.ref qs, .ref qr, .ref qm, .ref qw, .ref qt, .int (zi we)])), (qs, aI cI 10 sf), (qm, .inr (2, [.ref qk, .int (zi fi), .int (zi ln)])), (qk, aI cI 366 mf), (qr, .inr (0, [.int (zi mc), .ref qe, .int (zi ru)])), (qe, aR cO cap ef), (qo, aL cL 1 of)] sz) := by
  refine va_MetW (hh := [(0, 10, 13, 13), (0, 10, 17, 35), (0, 10, 21, 15), (0, 10, 25, 37)]) (cc := cL_moveWork) (maxL := 5) (ret := (some .int)) (by decide) rfl ?_
  intro p e s m args below meth c s₁ B hml hv
  obtain ⟨rfl, hsz, hP, hK, hD0, hG⟩ := hv
  have hx := B.exec
  have hb := B.bytes
  have hr := B.returns
  have hts := atoms_spec (ws := wsL_moveWork) B.pre
  have hown : s.vm.findClass RL = some m.cls := findClass_of_methodNamed B.named
  have hlocks := B.notSynchronized
  subst hsz
  have hD := hD0.self (sz := s.heap.size)
  generalize hAe : va_A [(h0, .inr (4, [.ref qs, .ref qr, .ref qm, .ref qw, .ref qt, .int (zi we)])), (qs, aI cI 10 sf), (qm, .inr (2, [.ref qk, .int (zi fi), .int (zi ln)])), (qk, aI cI 366 mf), (qr, .inr (0, [.int (zi mc), .ref qe, .int (zi ru)])), (qe, aR cO cap ef), (qo, aL cL 1 of)] s.heap.size = A at hD hG ⊢
  have hA : ∀ q : Nat, s.heap.size ≤ q → A q := fun q h => by rw [← hAe]; exact Or.inr h
  have hS : va_S A s.heap s.heap [] := va_S.rf
  have hP : va_P (dC, dI) vwCl [(h0, .inr (4, [.ref qs, .ref qr, .ref qm, .ref qw, .ref qt, .int (zi we)])), (qs, aI cI 10 sf), (qm, .inr (2, [.ref qk, .int (zi fi), .int (zi ln)])), (qk, aI cI 366 mf), (qr, .inr (0, [.int (zi mc), .ref qe, .int (zi ru)])), (qe, aR cO cap ef), (qo, aL cL 1 of)] s.heap := hP
  have hl := lv_entry ([.ref h0, .int (zi sl), .int (zi many), .ref qo]) (n := 5) (Nat.le_of_ble_eq_true rfl)
  rw [lg_entry_eq]
  generalize (lg_sl ([.ref h0, .int (zi sl), .int (zi many), .ref qo]) ++ List.replicate (5 - (lg_sl ([.ref h0, .int (zi sl), .int (zi many), .ref qo])).length) Slot.unset).toArray = ls at hl ⊢
  have hl : lv_has ls 5 [(0, .ref h0), (1, .int (zi sl)), (2, .int (zi many)), (3, .ref qo)] := hl
  refine lv_aload_n hx hb dL_moveWork_0 rfl (lv_at hl 3 rfl) ?_
  refine zw_iconst hx hb dL_moveWork_1 ?_
  refine lv_aload_n hx hb dL_moveWork_2 rfl (lv_at hl 0 rfl) ?_
  refine lv_iload_n hx hb dL_moveWork_3 rfl (lv_at hl 1 rfl) ?_
  refine lv_iload_n hx hb dL_moveWork_4 rfl (lv_at hl 2 rfl) ?_
  have hh1 := c_X4_moveWork_p l dC dI cI cO h0 qs qr qm qw qt we sf qk fi ln mf mc qe ru cap ef rf kf af bf zf fz rr sl many s.heap.size (by first | exact hp0 | omega) (by first | exact hp1 | omega) (by first | exact hp2 | omega) (by first | exact hp3 | omega) (by first | exact hp4 | omega) (by first | exact hp5 | omega) (by first | exact hp6 | omega) (by first | exact hp7 | omega) (by first | exact hp8 | omega) (by first | exact hp9 | omega) (by first | exact hp10 | omega)
  have hPc := hP.sub (ws' := [(h0, .inr (4, [.ref qs, .ref qr, .ref qm, .ref qw, .ref qt, .int (zi we)])), (qs, aI cI 10 sf), (qm, .inr (2, [.ref qk, .int (zi fi), .int (zi ln)])), (qk, aI cI 366 mf), (qr, .inr (0, [.int (zi mc), .ref qe, .int (zi ru)])), (qe, aR cO cap ef)]) [0, 1, 2, 3, 4, 5] rfl
  have hKc : va_K (dC, dI) vwCl [(cI, .int), (cO, .object "java/lang/Object")] s := hK.sub (tys' := [(cI, .int), (cO, .object "java/lang/Object")]) [0, 2] rfl
  have hDc := hD.sub (ws' := [(h0, .inr (4, [.ref qs, .ref qr, .ref qm, .ref qw, .ref qt, .int (zi we)])), (qs, aI cI 10 sf), (qm, .inr (2, [.ref qk, .int (zi fi), .int (zi ln)])), (qk, aI cI 366 mf), (qr, .inr (0, [.int (zi mc), .ref qe, .int (zi ru)])), (qe, aR cO cap ef)]) [0, 1, 2, 3, 4, 5] (by decide) rfl
  have hFc := va_free (wc := [(h0, .inr (4, [.ref qs, .ref qr, .ref qm, .ref qw, .ref qt, .int (zi we)])), (qs, aI cI 10 sf), (qm, .inr (2, [.ref qk, .int (zi fi), .int (zi ln)])), (qk, aI cI 366 mf), (qr, .inr (0, [.int (zi mc), .ref qe, .int (zi ru)])), (qe, aR cO cap ef)]) hD hS hA [0, 1, 2, 3, 4, 5] rfl
  refine va_calli (va_runV (As := [.int (zi sl), .int (zi many)]) (rest := [.int (zi 0), .ref qo]) ⟨hx, hb, hml, hown, hts⟩ hh1 (cwV 2 hts gL_moveWork_X4_moveWork rfl rfl rfl (by decide +kernel) ⟨Nat.le_of_ble_eq_true rfl, Nat.le_of_ble_eq_true rfl⟩) ⟨zPwF.blind _ _ _ _ _ zRu_ok, va_recv hKc hPc (ci := 4) (q0 := 0) rfl rfl, fun U hU hW => ⟨rfl, by rw [hU], by rw [hU]; exact hPc, va_K.moved hW.alike hKc, hDc.weaken (fun _ _ _ _ => trivial), zF.call zRu_ok hG hS hFc hU hW⟩⟩ rfl rfl hl.1 rfl (lv_room (Nat.le_of_ble_eq_true rfl)) dL_moveWork_5 ⟨Nat.le_of_ble_eq_true rfl, Nat.le_of_ble_eq_true rfl⟩) hS (fun q _ h => hFc q h) hFc (fun r1 u t H1 locs ht hvm hw hB hz1 hk1 hS => ?_)
  obtain ⟨fk_2, lk_2, mk_2, sg_2⟩ := u
  obtain ⟨hw, hw1⟩ := hw
  replace hw1 : (0 ≤ fk_2 ∧ fk_2 ≤ 4000000 ∧ 0 ≤ lk_2 ∧ lk_2 ≤ 366) ∧ sg_2 = zup sf sl.toNat rr := hw1
  obtain ⟨hP1, hK1, hD1⟩ := hB
  rw [ht] at hP1
  replace hP1 : va_P (dC, dI) vwCl [(h0, .inr (4, [.ref qs, .ref qr, .ref qm, .ref qw, .ref qt, .int (zi we)])), (qs, aI cI 10 sg_2), (qm, .inr (2, [.ref qk, .int (zi fk_2), .int (zi lk_2)])), (qk, aI cI 366 mk_2), (qr, .inr (0, [.int (zi mc), .ref qe, .int (zi ru)])), (qe, aR cO cap ef)] H1 := hP1
  replace hD1 : va_D _ [(h0, .inr (4, [.ref qs, .ref qr, .ref qm, .ref qw, .ref qt, .int (zi we)])), (qs, aI cI 10 sg_2), (qm, .inr (2, [.ref qk, .int (zi fk_2), .int (zi lk_2)])), (qk, aI cI 366 mk_2), (qr, .inr (0, [.int (zi mc), .ref qe, .int (zi ru)])), (qe, aR cO cap ef)] := hD1
  obtain ⟨hP, hD⟩ := va_join (wr := [(qo, aL cL 1 of)]) (w1 := [(h0, .inr (4, [.ref qs, .ref qr, .ref qm, .ref qw, .ref qt, .int (zi we)])), (qs, aI cI 10 sg_2), (qm, .inr (2, [.ref qk, .int (zi fk_2), .int (zi lk_2)])), (qk, aI cI 366 mk_2), (qr, .inr (0, [.int (zi mc), .ref qe, .int (zi ru)])), (qe, aR cO cap ef)]) hP hD [0, 1, 2, 3, 4, 5] [6] rfl rfl (by decide) (by decide) hk1 hFc hP1 hD1
  generalize H1 = H at hP hS ⊢
  obtain rfl : r1 = zi rr := hw
  have hP : va_P (dC, dI) vwCl [(qo, aL cL 1 of), (h0, .inr (4, [.ref qs, .ref qr, .ref qm, .ref qw, .ref qt, .int (zi we)])), (qs, aI cI 10 sg_2), (qm, .inr (2, [.ref qk, .int (zi fk_2), .int (zi lk_2)])), (qk, aI cI 366 mk_2), (qr, .inr (0, [.int (zi mc), .ref qe, .int (zi ru)])), (qe, aR cO cap ef)] H := hP
  have hD : va_D A [(qo, aL cL 1 of), (h0, .inr (4, [.ref qs, .ref qr, .ref qm, .ref qw, .ref qt, .int (zi we)])), (qs, aI cI 10 sg_2), (qm, .inr (2, [.ref qk, .int (zi fk_2), .int (zi lk_2)])), (qk, aI cI 366 mk_2), (qr, .inr (0, [.int (zi mc), .ref qe, .int (zi ru)])), (qe, aR cO cap ef)] := hD
  refine zw_i2l hx hb dL_moveWork_8 ⟨by omega, by omega⟩ ?_
  refine zw_last hx hb hK hP hD hS 0 1 rfl rfl (by omega) (by omega) ⟨by omega, by omega⟩ dL_moveWork_9 (fun H locs hP hD hS => ?_)
  have hP : va_P (dC, dI) vwCl [(qo, aL cL 1 (zup of (Int.toNat 0) rr)), (h0, .inr (4, [.ref qs, .ref qr, .ref qm, .ref qw, .ref qt, .int (zi we)])), (qs, aI cI 10 sg_2), (qm, .inr (2, [.ref qk, .int (zi fk_2), .int (zi lk_2)])), (qk, aI cI 366 mk_2), (qr, .inr (0, [.int (zi mc), .ref qe, .int (zi ru)])), (qe, aR cO cap ef)] H := hP
  have hD : va_D A [(qo, aL cL 1 (zup of (Int.toNat 0) rr)), (h0, .inr (4, [.ref qs, .ref qr, .ref qm, .ref qw, .ref qt, .int (zi we)])), (qs, aI cI 10 sg_2), (qm, .inr (2, [.ref qk, .int (zi fk_2), .int (zi lk_2)])), (qk, aI cI 366 mk_2), (qr, .inr (0, [.int (zi mc), .ref qe, .int (zi ru)])), (qe, aR cO cap ef)] := hD
  refine lv_goto (tgt := 29) hx hb dL_moveWork_10 (by decide) ?_
  refine zw_iconst hx hb dL_moveWork_29 ?_
  have hP9 := hP.sub (ws' := [(h0, .inr (4, [.ref qs, .ref qr, .ref qm, .ref qw, .ref qt, .int (zi we)])), (qs, aI cI 10 sg_2), (qm, .inr (2, [.ref qk, .int (zi fk_2), .int (zi lk_2)])), (qk, aI cI 366 mk_2), (qr, .inr (0, [.int (zi mc), .ref qe, .int (zi ru)])), (qe, aR cO cap ef), (qo, aL cL 1 (zup of (Int.toNat 0) rr))]) [1, 2, 3, 4, 5, 6, 0] rfl
  have hD9 := hD.sub (ws' := [(h0, .inr (4, [.ref qs, .ref qr, .ref qm, .ref qw, .ref qt, .int (zi we)])), (qs, aI cI 10 sg_2), (qm, .inr (2, [.ref qk, .int (zi fk_2), .int (zi lk_2)])), (qk, aI cI 366 mk_2), (qr, .inr (0, [.int (zi mc), .ref qe, .int (zi ru)])), (qe, aR cO cap ef), (qo, aL cL 1 (zup of (Int.toNat 0) rr))]) [1, 2, 3, 4, 5, 6, 0] (by decide) rfl
  have hp9 : (0 ≤ fk_2 ∧ fk_2 ≤ 4000000 ∧ 0 ≤ lk_2 ∧ lk_2 ≤ 366) ∧ sg_2 = zup sf sl.toNat rr := by
    assumption
  exact W.iret (v := zi 0) hx hb hr (fun t ht hW => ⟨⟨zi 0, (fk_2, lk_2, mk_2, sg_2), rfl, ⟨rfl, hp9⟩, by rw [ht]; exact hP9, va_K.moved hW.alike hK, hD9⟩, hS.F ht⟩) hS.2.2 dL_moveWork_30

set_option maxHeartbeats 4000000 in
set_option maxRecDepth 100000 in
theorem c_L_moveWork_4n (l : Launch) (hst : l.stackTraces = false) (dC : Nat → ClassId) (dI : Nat → Nat → Nat) (cI : ClassId) (cL : ClassId) (cO : ClassId) (h0 : Nat) (qs : Nat) (qr : Nat) (qm : Nat) (qw : Nat) (qt : Nat) (we : Int) (sf : Nat → Int) (qk : Nat) (fi : Int) (ln : Int) (mf : Nat → Int) (mc : Int) (qe : Nat) (ru : Int) (ef : Nat → Option Nat) (cap : Nat) (qo : Nat) (of : Nat → Int) (sl : Int) (many : Int) (fz : Nat) (rr : Int) (rf : Nat → Nat) (kf : Nat → Int) (af : Nat → Int) (bf : Nat → Int) (zf : Nat → Int) (sz : Nat) (hp0 : 0 ≤ sl ∧ sl ≤ 9) (hp1 : 0 ≤ (sf sl.toNat) ∧ (sf sl.toNat) ≤ 3652058) (hp2 : 0 ≤ ru ∧ ru ≤ 12 ∧ ru ≤ (cap : Int) ∧ (cap : Int) ≤ 1000) (hp3 : ∀ j : Nat, (j : Int) < ru → (0 ≤ (kf j) ∧ (kf j) ≤ 3) ∧ ((kf j) = 1 ∧ -100 ≤ (af j) ∧ (af j) ≤ 100 ∨ (kf j) ≠ 1 ∧ 1 ≤ (af j) ∧ (af j) ≤ 12) ∧ ((kf j) = 1 ∨ (kf j) = 2 ∧ 1 ≤ (bf j) ∧ (bf j) ≤ 7 ∨ (kf j) ≠ 2 ∧ 1 ≤ (bf j) ∧ (bf j) ≤ 31) ∧ ((kf j) ≠ 2 ∨ (zf j) = -1 ∨ 1 ≤ (zf j) ∧ (zf j) ≤ 4)) (hp4 : ∀ j : Nat, (j : Int) < ru → ef j = some (rf j)) (hp5 : 0 ≤ we ∧ we ≤ 127) (hp6 : 0 ≤ fi ∧ fi ≤ 4000000 ∧ 0 ≤ ln ∧ ln ≤ 366) (hp7 : -1000 ≤ many ∧ many ≤ 1000 ∧ many < 0) (hp8 : 4000000 ≤ fz) (hp9 : zmv (wkX4 we kf af bf zf ru) (-1) fz (sf sl.toNat) (-many) = rr) (hp10 : rr = -1) : Met l yL_moveWork wsL_moveWork ({ frames := 7, cells := 1, slots := 6, locals := 160 }) (zPxF (dC, dI) [(cI, .int), (cL, .long), (cO, .object "java/lang/Object")] sz [.ref h0, .int (zi sl), .int (zi many), .ref qo] [(h0, .inr (4, [.ref qs, .ref qr, .ref qm, .ref qw, .ref qt, .int (zi we)])), (qs, aI cI 10 sf), (qm, .inr (2, [.ref qk, .int (zi fi), .int (zi ln)])), (qk, aI cI 366 mf), (qr, .inr (0, [.int (zi mc), .ref qe, .int (zi ru)])), (qe, aR cO cap ef), (qo, aL cL 1 of)] (zRE (dC, dI) ru rf kf af bf zf)) (va_Qi (fun (r : Int32) (u : (Int) × (Int) × (Nat → Int)) => r = zi 4 ∧ (0 ≤ u.1 ∧ u.1 ≤ 4000000 ∧ 0 ≤ u.2.1 ∧ u.2.1 ≤ 366)) (fun (u : (Int) × (Int) × (Nat → Int)) => zB (dC, dI) [(cI, .int), (cL, .long), (cO, .object "java/lang/Object")] (va_A [(h0, .inr (4, [.ref qs, .ref qr, .ref qm, .ref qw, .ref qt, .int (zi we)])), (qs, aI cI 10 sf), (qm, .inr (2, [.ref qk, .int (zi fi), .int (zi ln)])), (qk, aI cI 366 mf), (qr, .inr (0, [.int (zi mc), .ref qe, .int (zi ru)])), (qe, aR cO cap ef), (qo, aL cL 1 of)] sz) [(h0, .inr (4, [.ref qs, .ref qr, .ref qm, .ref qw, .ref qt, .int (zi we)])), (qs, aI cI 10 sf), (qm, .inr (2, [.ref qk, .int (zi u.1), .int (zi u.2.1)])), (qk, aI cI 366 u.2.2), (qr, .inr (0, [.int (zi mc), .ref qe, .int (zi ru)])), (qe, aR cO cap ef), (qo, aL cL 1 of)] ()) (va_A [(h0, .inr (4, [.ref qs, .ref qr, .ref qm, .ref qw, .ref qt, .int (zi we)])), (qs, aI cI 10 sf), (qm, .inr (2, [.ref qk, .int (zi fi), .int (zi ln)])), (qk, aI cI 366 mf), (qr, .inr (0, [.int (zi mc), .ref qe, .int (zi ru)])), (qe, aR cO cap ef), (qo, aL cL 1 of)] sz)) 1 6 (va_A [(h0, .inr (4, [.ref qs, .ref qr, .ref qm, .ref qw, .ref qt, .int (zi we)])), (qs, aI cI 10 sf), (qm, .inr (2, [.ref qk, .int (zi fi), .int (zi ln)])), (qk, aI cI 366 mf), (qr, .inr (0, [.int (zi mc), .ref qe, .int (zi ru)])), (qe, aR cO cap ef), (qo, aL cL 1 of)] sz) := by
  refine va_MetW (hh := [(0, 10, 13, 13), (0, 10, 17, 35), (0, 10, 21, 15), (0, 10, 25, 37)]) (cc := cL_moveWork) (maxL := 5) (ret := (some .int)) (by decide) rfl ?_
  intro p e s m args below meth c s₁ B hml hv
  obtain ⟨rfl, hsz, hE, hP, hK, hD0, hG⟩ := hv
  have hx := B.exec
  have hb := B.bytes
  have hr := B.returns
  have hts := atoms_spec (ws := wsL_moveWork) B.pre
  have hown : s.vm.findClass RL = some m.cls := findClass_of_methodNamed B.named
  have hlocks := B.notSynchronized
  have hex : c.exceptionTable.toList = [⟨0, 10, 13, 13⟩, ⟨0, 10, 17, 35⟩, ⟨0, 10, 21, 15⟩, ⟨0, 10, 25, 37⟩] := vx_table (x := yL_moveWork) B (hts _ List.mem_cons_self)
  subst hsz
  have hD := hD0.self (sz := s.heap.size)
  generalize hAe : va_A [(h0, .inr (4, [.ref qs, .ref qr, .ref qm, .ref qw, .ref qt, .int (zi we)])), (qs, aI cI 10 sf), (qm, .inr (2, [.ref qk, .int (zi fi), .int (zi ln)])), (qk, aI cI 366 mf), (qr, .inr (0, [.int (zi mc), .ref qe, .int (zi ru)])), (qe, aR cO cap ef), (qo, aL cL 1 of)] s.heap.size = A at hD hG ⊢
  have hA : ∀ q : Nat, s.heap.size ≤ q → A q := fun q h => by rw [← hAe]; exact Or.inr h
  have hS : va_S A s.heap s.heap [] := va_S.rf
  have hP : va_P (dC, dI) vwCl [(h0, .inr (4, [.ref qs, .ref qr, .ref qm, .ref qw, .ref qt, .int (zi we)])), (qs, aI cI 10 sf), (qm, .inr (2, [.ref qk, .int (zi fi), .int (zi ln)])), (qk, aI cI 366 mf), (qr, .inr (0, [.int (zi mc), .ref qe, .int (zi ru)])), (qe, aR cO cap ef), (qo, aL cL 1 of)] s.heap := hP
  have hl := lv_entry ([.ref h0, .int (zi sl), .int (zi many), .ref qo]) (n := 5) (Nat.le_of_ble_eq_true rfl)
  rw [lg_entry_eq]
  generalize (lg_sl ([.ref h0, .int (zi sl), .int (zi many), .ref qo]) ++ List.replicate (5 - (lg_sl ([.ref h0, .int (zi sl), .int (zi many), .ref qo])).length) Slot.unset).toArray = ls at hl ⊢
  have hl : lv_has ls 5 [(0, .ref h0), (1, .int (zi sl)), (2, .int (zi many)), (3, .ref qo)] := hl
  refine lv_aload_n hx hb dL_moveWork_0 rfl (lv_at hl 3 rfl) ?_
  refine zw_iconst hx hb dL_moveWork_1 ?_
  refine lv_aload_n hx hb dL_moveWork_2 rfl (lv_at hl 0 rfl) ?_
  refine lv_iload_n hx hb dL_moveWork_3 rfl (lv_at hl 1 rfl) ?_
  refine lv_iload_n hx hb dL_moveWork_4 rfl (lv_at hl 2 rfl) ?_
  have hh1 := t_X4_moveWork_4n l hst dC dI cI cO h0 qs qr qm qw qt we sf qk fi ln mf mc qe ru cap ef rf kf af bf zf fz rr sl many s.heap.size (by first | exact hp0 | omega) (by first | exact hp1 | omega) (by first | exact hp2 | omega) (by first | exact hp3 | omega) (by first | exact hp4 | omega) (by first | exact hp5 | omega) (by first | exact hp6 | omega) (by first | exact hp7 | omega) (by first | exact hp8 | omega) (by first | exact hp9 | omega) (by first | exact hp10 | omega)
  have hPc := hP.sub (ws' := [(h0, .inr (4, [.ref qs, .ref qr, .ref qm, .ref qw, .ref qt, .int (zi we)])), (qs, aI cI 10 sf), (qm, .inr (2, [.ref qk, .int (zi fi), .int (zi ln)])), (qk, aI cI 366 mf), (qr, .inr (0, [.int (zi mc), .ref qe, .int (zi ru)])), (qe, aR cO cap ef)]) [0, 1, 2, 3, 4, 5] rfl
  have hKc : va_K (dC, dI) vwCl [(cI, .int), (cO, .object "java/lang/Object")] s := hK.sub (tys' := [(cI, .int), (cO, .object "java/lang/Object")]) [0, 2] rfl
  have hDc := hD.sub (ws' := [(h0, .inr (4, [.ref qs, .ref qr, .ref qm, .ref qw, .ref qt, .int (zi we)])), (qs, aI cI 10 sf), (qm, .inr (2, [.ref qk, .int (zi fi), .int (zi ln)])), (qk, aI cI 366 mf), (qr, .inr (0, [.int (zi mc), .ref qe, .int (zi ru)])), (qe, aR cO cap ef)]) [0, 1, 2, 3, 4, 5] (by decide) rfl
  have hFc := va_free (wc := [(h0, .inr (4, [.ref qs, .ref qr, .ref qm, .ref qw, .ref qt, .int (zi we)])), (qs, aI cI 10 sf), (qm, .inr (2, [.ref qk, .int (zi fi), .int (zi ln)])), (qk, aI cI 366 mf), (qr, .inr (0, [.int (zi mc), .ref qe, .int (zi ru)])), (qe, aR cO cap ef)]) hD hS hA [0, 1, 2, 3, 4, 5] rfl
  refine zt_catchW (own := RL) (name := "java/lang/UnsupportedOperationException") (vx_runV (As := [.int (zi sl), .int (zi many)]) (rest := [.int (zi 0), .ref qo]) ⟨hx, hb, hml, hown, hts⟩ hh1 (cwV 2 hts gL_moveWork_X4_moveWork rfl rfl rfl (by decide +kernel) ⟨Nat.le_of_ble_eq_true rfl, Nat.le_of_ble_eq_true rfl⟩) ⟨zPwF.blind _ _ _ _ _ zRE_ok, va_recv hKc hPc (ci := 4) (q0 := 0) rfl rfl, fun U hU hW => ⟨rfl, by rw [hU], by rw [hU]; exact hPc, va_K.moved hW.alike hKc, hDc.weaken (fun _ _ _ _ => trivial), zF.call zRE_ok hG hS hFc hU hW⟩⟩ rfl rfl hl.1 rfl (lv_room (Nat.le_of_ble_eq_true rfl)) dL_moveWork_5 ⟨Nat.le_of_ble_eq_true rfl, Nat.le_of_ble_eq_true rfl⟩) hS (fun q _ h => hFc q h) hFc hown [⟨0, 10, 13, 13⟩, ⟨0, 10, 17, 35⟩, ⟨0, 10, 21, 15⟩] ⟨0, 10, 25, 37⟩ [] hex (List.forall_mem_cons.mpr ⟨⟨by decide, by decide, "java/lang/IndexOutOfBoundsException", (hts (.classLink RL 13 "java/lang/IndexOutOfBoundsException") (by decide +kernel)), hE.2.2.2.2 ("java/lang/UnsupportedOperationException", "java/lang/IndexOutOfBoundsException") (by decide)⟩, List.forall_mem_cons.mpr ⟨⟨by decide, by decide, "java/lang/IllegalStateException", (hts (.classLink RL 35 "java/lang/IllegalStateException") (by decide +kernel)), hE.2.2.2.2 ("java/lang/UnsupportedOperationException", "java/lang/IllegalStateException") (by decide)⟩, List.forall_mem_cons.mpr ⟨⟨by decide, by decide, "java/lang/IllegalArgumentException", (hts (.classLink RL 15 "java/lang/IllegalArgumentException") (by decide +kernel)), hE.2.2.2.2 ("java/lang/UnsupportedOperationException", "java/lang/IllegalArgumentException") (by decide)⟩, List.forall_mem_nil _⟩⟩⟩) (by decide) (by decide) (hts (.classLink RL 37 "java/lang/UnsupportedOperationException") (by decide +kernel)) (va_any rfl (hE.2.2.1 (.castable "java/lang/UnsupportedOperationException" "java/lang/UnsupportedOperationException") (by decide +kernel))) (fun qx u t H1 locs ht hw hB hz1 hk1 hS => ?_)
  obtain ⟨fk_2, lk_2, mk_2⟩ := u
  replace hw : 0 ≤ fk_2 ∧ fk_2 ≤ 4000000 ∧ 0 ≤ lk_2 ∧ lk_2 ≤ 366 := hw
  have hw1 := hw
  obtain ⟨hP1, hK1, hD1⟩ := hB
  rw [ht] at hP1
  replace hP1 : va_P (dC, dI) vwCl [(h0, .inr (4, [.ref qs, .ref qr, .ref qm, .ref qw, .ref qt, .int (zi we)])), (qs, aI cI 10 sf), (qm, .inr (2, [.ref qk, .int (zi fk_2), .int (zi lk_2)])), (qk, aI cI 366 mk_2), (qr, .inr (0, [.int (zi mc), .ref qe, .int (zi ru)])), (qe, aR cO cap ef)] H1 := hP1
  replace hD1 : va_D _ [(h0, .inr (4, [.ref qs, .ref qr, .ref qm, .ref qw, .ref qt, .int (zi we)])), (qs, aI cI 10 sf), (qm, .inr (2, [.ref qk, .int (zi fk_2), .int (zi lk_2)])), (qk, aI cI 366 mk_2), (qr, .inr (0, [.int (zi mc), .ref qe, .int (zi ru)])), (qe, aR cO cap ef)] := hD1
  obtain ⟨hP, hD⟩ := va_join (wr := [(qo, aL cL 1 of)]) (w1 := [(h0, .inr (4, [.ref qs, .ref qr, .ref qm, .ref qw, .ref qt, .int (zi we)])), (qs, aI cI 10 sf), (qm, .inr (2, [.ref qk, .int (zi fk_2), .int (zi lk_2)])), (qk, aI cI 366 mk_2), (qr, .inr (0, [.int (zi mc), .ref qe, .int (zi ru)])), (qe, aR cO cap ef)]) hP hD [0, 1, 2, 3, 4, 5] [6] rfl rfl (by decide) (by decide) hk1 hFc hP1 hD1
  generalize H1 = H at hP hS ⊢
  have hP : va_P (dC, dI) vwCl [(qo, aL cL 1 of), (h0, .inr (4, [.ref qs, .ref qr, .ref qm, .ref qw, .ref qt, .int (zi we)])), (qs, aI cI 10 sf), (qm, .inr (2, [.ref qk, .int (zi fk_2), .int (zi lk_2)])), (qk, aI cI 366 mk_2), (qr, .inr (0, [.int (zi mc), .ref qe, .int (zi ru)])), (qe, aR cO cap ef)] H := hP
  have hD : va_D A [(qo, aL cL 1 of), (h0, .inr (4, [.ref qs, .ref qr, .ref qm, .ref qw, .ref qt, .int (zi we)])), (qs, aI cI 10 sf), (qm, .inr (2, [.ref qk, .int (zi fk_2), .int (zi lk_2)])), (qk, aI cI 366 mk_2), (qr, .inr (0, [.int (zi mc), .ref qe, .int (zi ru)])), (qe, aR cO cap ef)] := hD
  refine lv_astore (lv' := [(4, .ref qx), (0, .ref h0), (1, .int (zi sl)), (2, .int (zi many)), (3, .ref qo)]) hx hb dL_moveWork_25 hl (by decide) rfl (fun ls hl => ?_)
  refine zw_iconst hx hb dL_moveWork_27 ?_
  have hP9 := hP.sub (ws' := [(h0, .inr (4, [.ref qs, .ref qr, .ref qm, .ref qw, .ref qt, .int (zi we)])), (qs, aI cI 10 sf), (qm, .inr (2, [.ref qk, .int (zi fk_2), .int (zi lk_2)])), (qk, aI cI 366 mk_2), (qr, .inr (0, [.int (zi mc), .ref qe, .int (zi ru)])), (qe, aR cO cap ef), (qo, aL cL 1 of)]) [1, 2, 3, 4, 5, 6, 0] rfl
  have hD9 := hD.sub (ws' := [(h0, .inr (4, [.ref qs, .ref qr, .ref qm, .ref qw, .ref qt, .int (zi we)])), (qs, aI cI 10 sf), (qm, .inr (2, [.ref qk, .int (zi fk_2), .int (zi lk_2)])), (qk, aI cI 366 mk_2), (qr, .inr (0, [.int (zi mc), .ref qe, .int (zi ru)])), (qe, aR cO cap ef), (qo, aL cL 1 of)]) [1, 2, 3, 4, 5, 6, 0] (by decide) rfl
  have hp9 : 0 ≤ fk_2 ∧ fk_2 ≤ 4000000 ∧ 0 ≤ lk_2 ∧ lk_2 ≤ 366 := by
    assumption
  exact W.iret (v := zi 4) hx hb hr (fun t ht hW => ⟨⟨zi 4, (fk_2, lk_2, mk_2), rfl, ⟨rfl, hp9⟩, by rw [ht]; exact hP9, va_K.moved hW.alike hK, hD9⟩, hS.F ht⟩) hS.2.2 dL_moveWork_28

set_option maxHeartbeats 4000000 in
set_option maxRecDepth 100000 in
theorem c_L_moveWork_n (l : Launch)  (dC : Nat → ClassId) (dI : Nat → Nat → Nat) (cI : ClassId) (cL : ClassId) (cO : ClassId) (h0 : Nat) (qs : Nat) (qr : Nat) (qm : Nat) (qw : Nat) (qt : Nat) (we : Int) (sf : Nat → Int) (qk : Nat) (fi : Int) (ln : Int) (mf : Nat → Int) (mc : Int) (qe : Nat) (ru : Int) (ef : Nat → Option Nat) (cap : Nat) (qo : Nat) (of : Nat → Int) (sl : Int) (many : Int) (fz : Nat) (rr : Int) (rf : Nat → Nat) (kf : Nat → Int) (af : Nat → Int) (bf : Nat → Int) (zf : Nat → Int) (sz : Nat) (hp0 : 0 ≤ sl ∧ sl ≤ 9) (hp1 : 0 ≤ (sf sl.toNat) ∧ (sf sl.toNat) ≤ 3652058) (hp2 : 0 ≤ ru ∧ ru ≤ 12 ∧ ru ≤ (cap : Int) ∧ (cap : Int) ≤ 1000) (hp3 : ∀ j : Nat, (j : Int) < ru → (0 ≤ (kf j) ∧ (kf j) ≤ 3) ∧ ((kf j) = 1 ∧ -100 ≤ (af j) ∧ (af j) ≤ 100 ∨ (kf j) ≠ 1 ∧ 1 ≤ (af j) ∧ (af j) ≤ 12) ∧ ((kf j) = 1 ∨ (kf j) = 2 ∧ 1 ≤ (bf j) ∧ (bf j) ≤ 7 ∨ (kf j) ≠ 2 ∧ 1 ≤ (bf j) ∧ (bf j) ≤ 31) ∧ ((kf j) ≠ 2 ∨ (zf j) = -1 ∨ 1 ≤ (zf j) ∧ (zf j) ≤ 4)) (hp4 : ∀ j : Nat, (j : Int) < ru → ef j = some (rf j)) (hp5 : 0 ≤ we ∧ we ≤ 127) (hp6 : 0 ≤ fi ∧ fi ≤ 4000000 ∧ 0 ≤ ln ∧ ln ≤ 366) (hp7 : -1000 ≤ many ∧ many ≤ 1000 ∧ many < 0) (hp8 : 4000000 ≤ fz) (hp9 : zmv (wkX4 we kf af bf zf ru) (-1) fz (sf sl.toNat) (-many) = rr) (hp10 : 0 ≤ rr ∧ rr ≤ 3652058) : Met l yL_moveWork wsL_moveWork ({ frames := 7, cells := 0, slots := 0, locals := 160 }) (zPwF (dC, dI) [(cI, .int), (cL, .long), (cO, .object "java/lang/Object")] sz [.ref h0, .int (zi sl), .int (zi many), .ref qo] [(h0, .inr (4, [.ref qs, .ref qr, .ref qm, .ref qw, .ref qt, .int (zi we)])), (qs, aI cI 10 sf), (qm, .inr (2, [.ref qk, .int (zi fi), .int (zi ln)])), (qk, aI cI 366 mf), (qr, .inr (0, [.int (zi mc), .ref qe, .int (zi ru)])), (qe, aR cO cap ef), (qo, aL cL 1 of)] (zRu (dC, dI) ru rf kf af bf zf)) (va_Qi (fun (r : Int32) (u : (Int) × (Int) × (Nat → Int) × (Nat → Int)) => r = zi 0 ∧ ((0 ≤ u.1 ∧ u.1 ≤ 4000000 ∧ 0 ≤ u.2.1 ∧ u.2.1 ≤ 366) ∧ u.2.2.2 = zup sf sl.toNat rr)) (fun (u : (Int) × (Int) × (Nat → Int) × (Nat → Int)) => zB (dC, dI) [(cI, .int), (cL, .long), (cO, .object "java/lang/Object")] (va_A [(h0, .inr (4, [.ref qs, .ref qr, .ref qm, .ref qw, .ref qt, .int (zi we)])), (qs, aI cI 10 sf), (qm, .inr (2, [.ref qk, .int (zi fi), .int (zi ln)])), (qk, aI cI 366 mf), (qr, .inr (0, [.int (zi mc), .ref qe, .int (zi ru)])), (qe, aR cO cap ef), (qo, aL cL 1 of)] sz) [(h0, .inr (4, [.ref qs, .ref qr, .ref qm, .ref qw, .ref qt, .int (zi we)])), (qs, aI cI 10 u.2.2.2), (qm, .inr (2, [.ref qk, .int (zi u.1), .int (zi u.2.1)])), (qk, aI cI 366 u.2.2.1), (qr, .inr (0, [.int (zi mc), .ref qe, .int (zi ru)])), (qe, aR cO cap ef), (qo, aL cL 1 (zup of (Int.toNat 0) rr))] ()) (va_A [(h0, .inr (4, [.ref qs, .ref qr, .ref qm, .ref qw, .ref qt, .int (zi we)])), (qs, aI cI 10 sf), (qm, .inr (2, [.ref qk, .int (zi fi), .int (zi ln)])), (qk, aI cI 366 mf), (qr, .inr (0, [.int (zi mc), .ref qe, .int (zi ru)])), (qe, aR cO cap ef), (qo, aL cL 1 of)] sz)) 0 0 (va_A [(h0, .inr (4, [.ref qs, .ref qr, .ref qm, .ref qw, .ref qt, .int (zi we)])), (qs, aI cI 10 sf), (qm, .inr (2, [.ref qk, .int (zi fi), .int (zi ln)])), (qk, aI cI 366 mf), (qr, .inr (0, [.int (zi mc), .ref qe, .int (zi ru)])), (qe, aR cO cap ef), (qo, aL cL 1 of)] sz) := by
  refine va_MetW (hh := [(0, 10, 13, 13), (0, 10, 17, 35), (0, 10, 21, 15), (0, 10, 25, 37)]) (cc := cL_moveWork) (maxL := 5) (ret := (some .int)) (by decide) rfl ?_
  intro p e s m args below meth c s₁ B hml hv
  obtain ⟨rfl, hsz, hP, hK, hD0, hG⟩ := hv
  have hx := B.exec
  have hb := B.bytes
  have hr := B.returns
  have hts := atoms_spec (ws := wsL_moveWork) B.pre
  have hown : s.vm.findClass RL = some m.cls := findClass_of_methodNamed B.named
  have hlocks := B.notSynchronized
  subst hsz
  have hD := hD0.self (sz := s.heap.size)
  generalize hAe : va_A [(h0, .inr (4, [.ref qs, .ref qr, .ref qm, .ref qw, .ref qt, .int (zi we)])), (qs, aI cI 10 sf), (qm, .inr (2, [.ref qk, .int (zi fi), .int (zi ln)])), (qk, aI cI 366 mf), (qr, .inr (0, [.int (zi mc), .ref qe, .int (zi ru)])), (qe, aR cO cap ef), (qo, aL cL 1 of)] s.heap.size = A at hD hG ⊢
  have hA : ∀ q : Nat, s.heap.size ≤ q → A q := fun q h => by rw [← hAe]; exact Or.inr h
  have hS : va_S A s.heap s.heap [] := va_S.rf
  have hP : va_P (dC, dI) vwCl [(h0, .inr (4, [.ref qs, .ref qr, .ref qm, .ref qw, .ref qt, .int (zi we)])), (qs, aI cI 10 sf), (qm, .inr (2, [.ref qk, .int (zi fi), .int (zi ln)])), (qk, aI cI 366 mf), (qr, .inr (0, [.int (zi mc), .ref qe, .int (zi ru)])), (qe, aR cO cap ef), (qo, aL cL 1 of)] s.heap := hP
  have hl := lv_entry ([.ref h0, .int (zi sl), .int (zi many), .ref qo]) (n := 5) (Nat.le_of_ble_eq_true rfl)
  rw [lg_entry_eq]
  generalize (lg_sl ([.ref h0, .int (zi sl), .int (zi many), .ref qo]) ++ List.replicate (5 - (lg_sl ([.ref h0, .int (zi sl), .int (zi many), .ref qo])).length) Slot.unset).toArray = ls at hl ⊢
  have hl : lv_has ls 5 [(0, .ref h0), (1, .int (zi sl)), (2, .int (zi many)), (3, .ref qo)] := hl
  refine lv_aload_n hx hb dL_moveWork_0 rfl (lv_at hl 3 rfl) ?_
  refine zw_iconst hx hb dL_moveWork_1 ?_
  refine lv_aload_n hx hb dL_moveWork_2 rfl (lv_at hl 0 rfl) ?_
  refine lv_iload_n hx hb dL_moveWork_3 rfl (lv_at hl 1 rfl) ?_
  refine lv_iload_n hx hb dL_moveWork_4 rfl (lv_at hl 2 rfl) ?_
  have hh1 := c_X4_moveWork_n l dC dI cI cO h0 qs qr qm qw qt we sf qk fi ln mf mc qe ru cap ef rf kf af bf zf fz rr sl many s.heap.size (by first | exact hp0 | omega) (by first | exact hp1 | omega) (by first | exact hp2 | omega) (by first | exact hp3 | omega) (by first | exact hp4 | omega) (by first | exact hp5 | omega) (by first | exact hp6 | omega) (by first | exact hp7 | omega) (by first | exact hp8 | omega) (by first | exact hp9 | omega) (by first | exact hp10 | omega)
  have hPc := hP.sub (ws' := [(h0, .inr (4, [.ref qs, .ref qr, .ref qm, .ref qw, .ref qt, .int (zi we)])), (qs, aI cI 10 sf), (qm, .inr (2, [.ref qk, .int (zi fi), .int (zi ln)])), (qk, aI cI 366 mf), (qr, .inr (0, [.int (zi mc), .ref qe, .int (zi ru)])), (qe, aR cO cap ef)]) [0, 1, 2, 3, 4, 5] rfl
  have hKc : va_K (dC, dI) vwCl [(cI, .int), (cO, .object "java/lang/Object")] s := hK.sub (tys' := [(cI, .int), (cO, .object "java/lang/Object")]) [0, 2] rfl
  have hDc := hD.sub (ws' := [(h0, .inr (4, [.ref qs, .ref qr, .ref qm, .ref qw, .ref qt, .int (zi we)])), (qs, aI cI 10 sf), (qm, .inr (2, [.ref qk, .int (zi fi), .int (zi ln)])), (qk, aI cI 366 mf), (qr, .inr (0, [.int (zi mc), .ref qe, .int (zi ru)])), (qe, aR cO cap ef)]) [0, 1, 2, 3, 4, 5] (by decide) rfl
  have hFc := va_free (wc := [(h0, .inr (4, [.ref qs, .ref qr, .ref qm, .ref qw, .ref qt, .int (zi we)])), (qs, aI cI 10 sf), (qm, .inr (2, [.ref qk, .int (zi fi), .int (zi ln)])), (qk, aI cI 366 mf), (qr, .inr (0, [.int (zi mc), .ref qe, .int (zi ru)])), (qe, aR cO cap ef)]) hD hS hA [0, 1, 2, 3, 4, 5] rfl
  refine va_calli (va_runV (As := [.int (zi sl), .int (zi many)]) (rest := [.int (zi 0), .ref qo]) ⟨hx, hb, hml, hown, hts⟩ hh1 (cwV 2 hts gL_moveWork_X4_moveWork rfl rfl rfl (by decide +kernel) ⟨Nat.le_of_ble_eq_true rfl, Nat.le_of_ble_eq_true rfl⟩) ⟨zPwF.blind _ _ _ _ _ zRu_ok, va_recv hKc hPc (ci := 4) (q0 := 0) rfl rfl, fun U hU hW => ⟨rfl, by rw [hU], by rw [hU]; exact hPc, va_K.moved hW.alike hKc, hDc.weaken (fun _ _ _ _ => trivial), zF.call zRu_ok hG hS hFc hU hW⟩⟩ rfl rfl hl.1 rfl (lv_room (Nat.le_of_ble_eq_true rfl)) dL_moveWork_5 ⟨Nat.le_of_ble_eq_true rfl, Nat.le_of_ble_eq_true rfl⟩) hS (fun q _ h => hFc q h) hFc (fun r1 u t H1 locs ht hvm hw hB hz1 hk1 hS => ?_)
  obtain ⟨fk_2, lk_2, mk_2, sg_2⟩ := u
  obtain ⟨hw, hw1⟩ := hw
  replace hw1 : (0 ≤ fk_2 ∧ fk_2 ≤ 4000000 ∧ 0 ≤ lk_2 ∧ lk_2 ≤ 366) ∧ sg_2 = zup sf sl.toNat rr := hw1
  obtain ⟨hP1, hK1, hD1⟩ := hB
  rw [ht] at hP1
  replace hP1 : va_P (dC, dI) vwCl [(h0, .inr (4, [.ref qs, .ref qr, .ref qm, .ref qw, .ref qt, .int (zi we)])), (qs, aI cI 10 sg_2), (qm, .inr (2, [.ref qk, .int (zi fk_2), .int (zi lk_2)])), (qk, aI cI 366 mk_2), (qr, .inr (0, [.int (zi mc), .ref qe, .int (zi ru)])), (qe, aR cO cap ef)] H1 := hP1
  replace hD1 : va_D _ [(h0, .inr (4, [.ref qs, .ref qr, .ref qm, .ref qw, .ref qt, .int (zi we)])), (qs, aI cI 10 sg_2), (qm, .inr (2, [.ref qk, .int (zi fk_2), .int (zi lk_2)])), (qk, aI cI 366 mk_2), (qr, .inr (0, [.int (zi mc), .ref qe, .int (zi ru)])), (qe, aR cO cap ef)] := hD1
  obtain ⟨hP, hD⟩ := va_join (wr := [(qo, aL cL 1 of)]) (w1 := [(h0, .inr (4, [.ref qs, .ref qr, .ref qm, .ref qw, .ref qt, .int (zi we)])), (qs, aI cI 10 sg_2), (qm, .inr (2, [.ref qk, .int (zi fk_2), .int (zi lk_2)])), (qk, aI cI 366 mk_2), (qr, .inr (0, [.int (zi mc), .ref qe, .int (zi ru)])), (qe, aR cO cap ef)]) hP hD [0, 1, 2, 3, 4, 5] [6] rfl rfl (by decide) (by decide) hk1 hFc hP1 hD1
  generalize H1 = H at hP hS ⊢
  obtain rfl : r1 = zi rr := hw
  have hP : va_P (dC, dI) vwCl [(qo, aL cL 1 of), (h0, .inr (4, [.ref qs, .ref qr, .ref qm, .ref qw, .ref qt, .int (zi we)])), (qs, aI cI 10 sg_2), (qm, .inr (2, [.ref qk, .int (zi fk_2), .int (zi lk_2)])), (qk, aI cI 366 mk_2), (qr, .inr (0, [.int (zi mc), .ref qe, .int (zi ru)])), (qe, aR cO cap ef)] H := hP
  have hD : va_D A [(qo, aL cL 1 of), (h0, .inr (4, [.ref qs, .ref qr, .ref qm, .ref qw, .ref qt, .int (zi we)])), (qs, aI cI 10 sg_2), (qm, .inr (2, [.ref qk, .int (zi fk_2), .int (zi lk_2)])), (qk, aI cI 366 mk_2), (qr, .inr (0, [.int (zi mc), .ref qe, .int (zi ru)])), (qe, aR cO cap ef)] := hD
  refine zw_i2l hx hb dL_moveWork_8 ⟨by omega, by omega⟩ ?_
  refine zw_last hx hb hK hP hD hS 0 1 rfl rfl (by omega) (by omega) ⟨by omega, by omega⟩ dL_moveWork_9 (fun H locs hP hD hS => ?_)
  have hP : va_P (dC, dI) vwCl [(qo, aL cL 1 (zup of (Int.toNat 0) rr)), (h0, .inr (4, [.ref qs, .ref qr, .ref qm, .ref qw, .ref qt, .int (zi we)])), (qs, aI cI 10 sg_2), (qm, .inr (2, [.ref qk, .int (zi fk_2), .int (zi lk_2)])), (qk, aI cI 366 mk_2), (qr, .inr (0, [.int (zi mc), .ref qe, .int (zi ru)])), (qe, aR cO cap ef)] H := hP
  have hD : va_D A [(qo, aL cL 1 (zup of (Int.toNat 0) rr)), (h0, .inr (4, [.ref qs, .ref qr, .ref qm, .ref qw, .ref qt, .int (zi we)])), (qs, aI cI 10 sg_2), (qm, .inr (2, [.ref qk, .int (zi fk_2), .int (zi lk_2)])), (qk, aI cI 366 mk_2), (qr, .inr (0, [.int (zi mc), .ref qe, .int (zi ru)])), (qe, aR cO cap ef)] := hD
  refine lv_goto (tgt := 29) hx hb dL_moveWork_10 (by decide) ?_
  refine zw_iconst hx hb dL_moveWork_29 ?_
  have hP9 := hP.sub (ws' := [(h0, .inr (4, [.ref qs, .ref qr, .ref qm, .ref qw, .ref qt, .int (zi we)])), (qs, aI cI 10 sg_2), (qm, .inr (2, [.ref qk, .int (zi fk_2), .int (zi lk_2)])), (qk, aI cI 366 mk_2), (qr, .inr (0, [.int (zi mc), .ref qe, .int (zi ru)])), (qe, aR cO cap ef), (qo, aL cL 1 (zup of (Int.toNat 0) rr))]) [1, 2, 3, 4, 5, 6, 0] rfl
  have hD9 := hD.sub (ws' := [(h0, .inr (4, [.ref qs, .ref qr, .ref qm, .ref qw, .ref qt, .int (zi we)])), (qs, aI cI 10 sg_2), (qm, .inr (2, [.ref qk, .int (zi fk_2), .int (zi lk_2)])), (qk, aI cI 366 mk_2), (qr, .inr (0, [.int (zi mc), .ref qe, .int (zi ru)])), (qe, aR cO cap ef), (qo, aL cL 1 (zup of (Int.toNat 0) rr))]) [1, 2, 3, 4, 5, 6, 0] (by decide) rfl
  have hp9 : (0 ≤ fk_2 ∧ fk_2 ≤ 4000000 ∧ 0 ≤ lk_2 ∧ lk_2 ≤ 366) ∧ sg_2 = zup sf sl.toNat rr := by
    assumption
  exact W.iret (v := zi 0) hx hb hr (fun t ht hW => ⟨⟨zi 0, (fk_2, lk_2, mk_2, sg_2), rfl, ⟨rfl, hp9⟩, by rw [ht]; exact hP9, va_K.moved hW.alike hK, hD9⟩, hS.F ht⟩) hS.2.2 dL_moveWork_30

set_option maxHeartbeats 4000000 in
set_option maxRecDepth 100000 in
theorem c_L_holiday_1 (l : Launch) (hst : l.stackTraces = false) (dC : Nat → ClassId) (dI : Nat → Nat → Nat) (cI : ClassId) (cL : ClassId) (cO : ClassId) (h0 : Nat) (qs : Nat) (qr : Nat) (qm : Nat) (qw : Nat) (qt : Nat) (we : Int) (qo : Nat) (of : Nat → Int) (kk : Int) (aa : Int) (bb : Int) (cz : Int) (sz : Nat) (hp0 : -2147483648 ≤ kk ∧ kk ≤ 2147483647) (hp1 : -2147483648 ≤ aa ∧ aa ≤ 2147483647) (hp2 : -2147483648 ≤ bb ∧ bb ≤ 2147483647) (hp3 : -2147483648 ≤ cz ∧ cz ≤ 2147483647) (hp4 : (f_X3_isRule kk aa bb cz) = 0) : Met l yL_holiday wsL_holiday ({ frames := 7, cells := 1, slots := 6, locals := 114 }) (zPx (dC, dI) [(cI, .int), (cL, .long), (cO, .object "java/lang/Object")] sz [.ref h0, .int (zi kk), .int (zi aa), .int (zi bb), .int (zi cz), .ref qo] [(h0, .inr (4, [.ref qs, .ref qr, .ref qm, .ref qw, .ref qt, .int (zi we)])), (qo, aL cL 1 of)]) (va_Qi (fun (r : Int32) (_ : Unit) => r = zi 1) (zB (dC, dI) [(cI, .int), (cL, .long), (cO, .object "java/lang/Object")] (va_A [(h0, .inr (4, [.ref qs, .ref qr, .ref qm, .ref qw, .ref qt, .int (zi we)])), (qo, aL cL 1 of)] sz) [(h0, .inr (4, [.ref qs, .ref qr, .ref qm, .ref qw, .ref qt, .int (zi we)])), (qo, aL cL 1 of)]) (va_A [(h0, .inr (4, [.ref qs, .ref qr, .ref qm, .ref qw, .ref qt, .int (zi we)])), (qo, aL cL 1 of)] sz)) 1 6 (va_A [(h0, .inr (4, [.ref qs, .ref qr, .ref qm, .ref qw, .ref qt, .int (zi we)])), (qo, aL cL 1 of)] sz) := by
  refine va_MetW (hh := [(0, 14, 17, 15), (0, 14, 21, 37)]) (cc := cL_holiday) (maxL := 7) (ret := (some .int)) (by decide) rfl ?_
  intro p e s m args below meth c s₁ B hml hv
  obtain ⟨rfl, hsz, hE, hP, hK, hD0⟩ := hv
  have hx := B.exec
  have hb := B.bytes
  have hr := B.returns
  have hts := atoms_spec (ws := wsL_holiday) B.pre
  have hown : s.vm.findClass RL = some m.cls := findClass_of_methodNamed B.named
  have hlocks := B.notSynchronized
  have hex : c.exceptionTable.toList = [⟨0, 14, 17, 15⟩, ⟨0, 14, 21, 37⟩] := vx_table (x := yL_holiday) B (hts _ List.mem_cons_self)
  subst hsz
  have hD := hD0.self (sz := s.heap.size)
  generalize hAe : va_A [(h0, .inr (4, [.ref qs, .ref qr, .ref qm, .ref qw, .ref qt, .int (zi we)])), (qo, aL cL 1 of)] s.heap.size = A at hD ⊢
  have hA : ∀ q : Nat, s.heap.size ≤ q → A q := fun q h => by rw [← hAe]; exact Or.inr h
  have hS : va_S A s.heap s.heap [] := va_S.rf
  have hP : va_P (dC, dI) vwCl [(h0, .inr (4, [.ref qs, .ref qr, .ref qm, .ref qw, .ref qt, .int (zi we)])), (qo, aL cL 1 of)] s.heap := hP
  have hl := lv_entry ([.ref h0, .int (zi kk), .int (zi aa), .int (zi bb), .int (zi cz), .ref qo]) (n := 7) (Nat.le_of_ble_eq_true rfl)
  rw [lg_entry_eq]
  generalize (lg_sl ([.ref h0, .int (zi kk), .int (zi aa), .int (zi bb), .int (zi cz), .ref qo]) ++ List.replicate (7 - (lg_sl ([.ref h0, .int (zi kk), .int (zi aa), .int (zi bb), .int (zi cz), .ref qo])).length) Slot.unset).toArray = ls at hl ⊢
  have hl : lv_has ls 7 [(0, .ref h0), (1, .int (zi kk)), (2, .int (zi aa)), (3, .int (zi bb)), (4, .int (zi cz)), (5, .ref qo)] := hl
  refine lv_aload hx hb dL_holiday_0 (lv_at hl 5 rfl) ?_
  refine zw_iconst hx hb dL_holiday_2 ?_
  refine lv_aload_n hx hb dL_holiday_3 rfl (lv_at hl 0 rfl) ?_
  refine lv_iload_n hx hb dL_holiday_4 rfl (lv_at hl 1 rfl) ?_
  refine lv_iload_n hx hb dL_holiday_5 rfl (lv_at hl 2 rfl) ?_
  refine lv_iload_n hx hb dL_holiday_6 rfl (lv_at hl 3 rfl) ?_
  refine lv_iload hx hb dL_holiday_7 (lv_at hl 4 rfl) ?_
  have hh1 := t_X4_holiday_1 l hst h0 kk aa bb cz (by first | exact hp0 | omega) (by first | exact hp1 | omega) (by first | exact hp2 | omega) (by first | exact hp3 | omega) (by first | exact hp4 | omega)
  refine zt_catch (own := RL) (name := "java/lang/IllegalArgumentException") (vx_runV (As := [.int (zi kk), .int (zi aa), .int (zi bb), .int (zi cz)]) (rest := [.int (zi 0), .ref qo]) ⟨hx, hb, hml, hown, hts⟩ hh1 (cwV 4 hts gL_holiday_X4_holiday rfl rfl rfl (by decide +kernel) ⟨Nat.le_of_ble_eq_true rfl, Nat.le_of_ble_eq_true rfl⟩) ⟨zP.blind _, va_recv hK hP (ci := 4) (q0 := 0) rfl rfl, fun U hU hW => ⟨rfl, hE.call va_S.rf (fun q h => by rw [hU] at h; exact h) hU hW⟩⟩ rfl rfl hl.1 rfl (lv_room (Nat.le_of_ble_eq_true rfl)) dL_holiday_9 ⟨Nat.le_of_ble_eq_true rfl, Nat.le_of_ble_eq_true rfl⟩) hown [] ⟨0, 14, 17, 15⟩ [⟨0, 14, 21, 37⟩] hex (List.forall_mem_nil _) (by decide) (by decide) (hts (.classLink RL 15 "java/lang/IllegalArgumentException") (by decide +kernel)) (va_any rfl (hE.2.2.1 (.castable "java/lang/IllegalArgumentException" "java/lang/IllegalArgumentException") (by decide +kernel))) (fun qx H1 hz1 hk1 => ?_)
  have hP : va_P (dC, dI) vwCl [(h0, .inr (4, [.ref qs, .ref qr, .ref qm, .ref qw, .ref qt, .int (zi we)])), (qo, aL cL 1 of)] H1 := zk_world hP hk1
  have hS : va_S A s.heap H1 [] := zk_S hz1 hk1
  refine lv_astore (lv' := [(6, .ref qx), (0, .ref h0), (1, .int (zi kk)), (2, .int (zi aa)), (3, .int (zi bb)), (4, .int (zi cz)), (5, .ref qo)]) hx hb dL_holiday_17 hl (by decide) rfl (fun ls hl => ?_)
  refine zw_iconst hx hb dL_holiday_19 ?_
  have hP9 := hP.sub (ws' := [(h0, .inr (4, [.ref qs, .ref qr, .ref qm, .ref qw, .ref qt, .int (zi we)])), (qo, aL cL 1 of)]) [0, 1] rfl
  have hD9 := hD.sub (ws' := [(h0, .inr (4, [.ref qs, .ref qr, .ref qm, .ref qw, .ref qt, .int (zi we)])), (qo, aL cL 1 of)]) [0, 1] (by decide) rfl
  exact W.iret (v := zi 1) hx hb hr (fun t ht hW => ⟨⟨zi 1, (), rfl, rfl, by rw [ht]; exact hP9, va_K.moved hW.alike hK, hD9⟩, hS.F ht⟩) hS.2.2 dL_holiday_20

set_option maxHeartbeats 4000000 in
set_option maxRecDepth 100000 in
theorem c_L_holiday_2 (l : Launch) (hst : l.stackTraces = false) (dC : Nat → ClassId) (dI : Nat → Nat → Nat) (cI : ClassId) (cL : ClassId) (cO : ClassId) (h0 : Nat) (qs : Nat) (qr : Nat) (qm : Nat) (qw : Nat) (qt : Nat) (we : Int) (mc : Int) (qe : Nat) (ru : Int) (qo : Nat) (of : Nat → Int) (kk : Int) (aa : Int) (bb : Int) (cz : Int) (sz : Nat) (hp0 : -2147483648 ≤ kk ∧ kk ≤ 2147483647) (hp1 : -2147483648 ≤ aa ∧ aa ≤ 2147483647) (hp2 : -2147483648 ≤ bb ∧ bb ≤ 2147483647) (hp3 : -2147483648 ≤ cz ∧ cz ≤ 2147483647) (hp4 : (f_X3_isRule kk aa bb cz) = 1) (hp5 : ru = 12) : Met l yL_holiday wsL_holiday ({ frames := 7, cells := 1, slots := 6, locals := 114 }) (zPx (dC, dI) [(cI, .int), (cL, .long), (cO, .object "java/lang/Object")] sz [.ref h0, .int (zi kk), .int (zi aa), .int (zi bb), .int (zi cz), .ref qo] [(h0, .inr (4, [.ref qs, .ref qr, .ref qm, .ref qw, .ref qt, .int (zi we)])), (qr, .inr (0, [.int (zi mc), .ref qe, .int (zi ru)])), (qo, aL cL 1 of)]) (va_Qi (fun (r : Int32) (_ : Unit) => r = zi 2) (zB (dC, dI) [(cI, .int), (cL, .long), (cO, .object "java/lang/Object")] (va_A [(h0, .inr (4, [.ref qs, .ref qr, .ref qm, .ref qw, .ref qt, .int (zi we)])), (qr, .inr (0, [.int (zi mc), .ref qe, .int (zi ru)])), (qo, aL cL 1 of)] sz) [(h0, .inr (4, [.ref qs, .ref qr, .ref qm, .ref qw, .ref qt, .int (zi we)])), (qr, .inr (0, [.int (zi mc), .ref qe, .int (zi ru)])), (qo, aL cL 1 of)]) (va_A [(h0, .inr (4, [.ref qs, .ref qr, .ref qm, .ref qw, .ref qt, .int (zi we)])), (qr, .inr (0, [.int (zi mc), .ref qe, .int (zi ru)])), (qo, aL cL 1 of)] sz)) 1 6 (va_A [(h0, .inr (4, [.ref qs, .ref qr, .ref qm, .ref qw, .ref qt, .int (zi we)])), (qr, .inr (0, [.int (zi mc), .ref qe, .int (zi ru)])), (qo, aL cL 1 of)] sz) := by
  refine va_MetW (hh := [(0, 14, 17, 15), (0, 14, 21, 37)]) (cc := cL_holiday) (maxL := 7) (ret := (some .int)) (by decide) rfl ?_
  intro p e s m args below meth c s₁ B hml hv
  obtain ⟨rfl, hsz, hE, hP, hK, hD0⟩ := hv
  have hx := B.exec
  have hb := B.bytes
  have hr := B.returns
  have hts := atoms_spec (ws := wsL_holiday) B.pre
  have hown : s.vm.findClass RL = some m.cls := findClass_of_methodNamed B.named
  have hlocks := B.notSynchronized
  have hex : c.exceptionTable.toList = [⟨0, 14, 17, 15⟩, ⟨0, 14, 21, 37⟩] := vx_table (x := yL_holiday) B (hts _ List.mem_cons_self)
  subst hsz
  have hD := hD0.self (sz := s.heap.size)
  generalize hAe : va_A [(h0, .inr (4, [.ref qs, .ref qr, .ref qm, .ref qw, .ref qt, .int (zi we)])), (qr, .inr (0, [.int (zi mc), .ref qe, .int (zi ru)])), (qo, aL cL 1 of)] s.heap.size = A at hD ⊢
  have hA : ∀ q : Nat, s.heap.size ≤ q → A q := fun q h => by rw [← hAe]; exact Or.inr h
  have hS : va_S A s.heap s.heap [] := va_S.rf
  have hP : va_P (dC, dI) vwCl [(h0, .inr (4, [.ref qs, .ref qr, .ref qm, .ref qw, .ref qt, .int (zi we)])), (qr, .inr (0, [.int (zi mc), .ref qe, .int (zi ru)])), (qo, aL cL 1 of)] s.heap := hP
  have hl := lv_entry ([.ref h0, .int (zi kk), .int (zi aa), .int (zi bb), .int (zi cz), .ref qo]) (n := 7) (Nat.le_of_ble_eq_true rfl)
  rw [lg_entry_eq]
  generalize (lg_sl ([.ref h0, .int (zi kk), .int (zi aa), .int (zi bb), .int (zi cz), .ref qo]) ++ List.replicate (7 - (lg_sl ([.ref h0, .int (zi kk), .int (zi aa), .int (zi bb), .int (zi cz), .ref qo])).length) Slot.unset).toArray = ls at hl ⊢
  have hl : lv_has ls 7 [(0, .ref h0), (1, .int (zi kk)), (2, .int (zi aa)), (3, .int (zi bb)), (4, .int (zi cz)), (5, .ref qo)] := hl
  refine lv_aload hx hb dL_holiday_0 (lv_at hl 5 rfl) ?_
  refine zw_iconst hx hb dL_holiday_2 ?_
  refine lv_aload_n hx hb dL_holiday_3 rfl (lv_at hl 0 rfl) ?_
  refine lv_iload_n hx hb dL_holiday_4 rfl (lv_at hl 1 rfl) ?_
  refine lv_iload_n hx hb dL_holiday_5 rfl (lv_at hl 2 rfl) ?_
  refine lv_iload_n hx hb dL_holiday_6 rfl (lv_at hl 3 rfl) ?_
  refine lv_iload hx hb dL_holiday_7 (lv_at hl 4 rfl) ?_
  have hh1 := t_X4_holiday_2 l hst dC dI h0 qs qr qm qw qt we mc qe ru kk aa bb cz (by first | exact hp0 | omega) (by first | exact hp1 | omega) (by first | exact hp2 | omega) (by first | exact hp3 | omega) (by first | exact hp4 | omega) (by first | exact hp5 | omega)
  have hPc := hP.sub (ws' := [(h0, .inr (4, [.ref qs, .ref qr, .ref qm, .ref qw, .ref qt, .int (zi we)])), (qr, .inr (0, [.int (zi mc), .ref qe, .int (zi ru)]))]) [0, 1] rfl
  have hKc : va_K (dC, dI) vwCl [] s := hK.sub (tys' := []) [] rfl
  refine zt_catch (own := RL) (name := "java/lang/UnsupportedOperationException") (vx_runV (As := [.int (zi kk), .int (zi aa), .int (zi bb), .int (zi cz)]) (rest := [.int (zi 0), .ref qo]) ⟨hx, hb, hml, hown, hts⟩ hh1 (cwV 4 hts gL_holiday_X4_holiday rfl rfl rfl (by decide +kernel) ⟨Nat.le_of_ble_eq_true rfl, Nat.le_of_ble_eq_true rfl⟩) ⟨zPt.blind _ _ _ _, va_recv hKc hPc (ci := 4) (q0 := 0) rfl rfl, fun U hU hW => ⟨rfl, hE.call va_S.rf (fun q h => by rw [hU] at h; exact h) hU hW, by rw [hU]; exact hPc, va_K.moved hW.alike hKc⟩⟩ rfl rfl hl.1 rfl (lv_room (Nat.le_of_ble_eq_true rfl)) dL_holiday_9 ⟨Nat.le_of_ble_eq_true rfl, Nat.le_of_ble_eq_true rfl⟩) hown [⟨0, 14, 17, 15⟩] ⟨0, 14, 21, 37⟩ [] hex (List.forall_mem_cons.mpr ⟨⟨by decide, by decide, "java/lang/IllegalArgumentException", (hts (.classLink RL 15 "java/lang/IllegalArgumentException") (by decide +kernel)), hE.2.2.2.2 ("java/lang/UnsupportedOperationException", "java/lang/IllegalArgumentException") (by decide)⟩, List.forall_mem_nil _⟩) (by decide) (by decide) (hts (.classLink RL 37 "java/lang/UnsupportedOperationException") (by decide +kernel)) (va_any rfl (hE.2.2.1 (.castable "java/lang/UnsupportedOperationException" "java/lang/UnsupportedOperationException") (by decide +kernel))) (fun qx H1 hz1 hk1 => ?_)
  have hP : va_P (dC, dI) vwCl [(h0, .inr (4, [.ref qs, .ref qr, .ref qm, .ref qw, .ref qt, .int (zi we)])), (qr, .inr (0, [.int (zi mc), .ref qe, .int (zi ru)])), (qo, aL cL 1 of)] H1 := zk_world hP hk1
  have hS : va_S A s.heap H1 [] := zk_S hz1 hk1
  refine lv_astore (lv' := [(6, .ref qx), (0, .ref h0), (1, .int (zi kk)), (2, .int (zi aa)), (3, .int (zi bb)), (4, .int (zi cz)), (5, .ref qo)]) hx hb dL_holiday_21 hl (by decide) rfl (fun ls hl => ?_)
  refine zw_iconst hx hb dL_holiday_23 ?_
  have hP9 := hP.sub (ws' := [(h0, .inr (4, [.ref qs, .ref qr, .ref qm, .ref qw, .ref qt, .int (zi we)])), (qr, .inr (0, [.int (zi mc), .ref qe, .int (zi ru)])), (qo, aL cL 1 of)]) [0, 1, 2] rfl
  have hD9 := hD.sub (ws' := [(h0, .inr (4, [.ref qs, .ref qr, .ref qm, .ref qw, .ref qt, .int (zi we)])), (qr, .inr (0, [.int (zi mc), .ref qe, .int (zi ru)])), (qo, aL cL 1 of)]) [0, 1, 2] (by decide) rfl
  exact W.iret (v := zi 2) hx hb hr (fun t ht hW => ⟨⟨zi 2, (), rfl, rfl, by rw [ht]; exact hP9, va_K.moved hW.alike hK, hD9⟩, hS.F ht⟩) hS.2.2 dL_holiday_24

set_option maxHeartbeats 4000000 in
set_option maxRecDepth 100000 in
theorem c_L_holiday (l : Launch)  (dC : Nat → ClassId) (dI : Nat → Nat → Nat) (cI : ClassId) (cL : ClassId) (cO : ClassId) (h0 : Nat) (qs : Nat) (qr : Nat) (qm : Nat) (qw : Nat) (qt : Nat) (we : Int) (mc : Int) (qe : Nat) (ru : Int) (ef : Nat → Option Nat) (cap : Nat) (qo : Nat) (of : Nat → Int) (kk : Int) (aa : Int) (bb : Int) (cz : Int) (rf : Nat → Nat) (kf : Nat → Int) (af : Nat → Int) (bf : Nat → Int) (zf : Nat → Int) (qd : Nat) (mi : Nat) (sz : Nat) (hp0 : -2147483648 ≤ kk ∧ kk ≤ 2147483647) (hp1 : -2147483648 ≤ aa ∧ aa ≤ 2147483647) (hp2 : -2147483648 ≤ bb ∧ bb ≤ 2147483647) (hp3 : -2147483648 ≤ cz ∧ cz ≤ 2147483647) (hp4 : (f_X3_isRule kk aa bb cz) = 1) (hp5 : 0 ≤ ru ∧ ru ≤ 11) (hp6 : cap = 10 ∧ ru ≤ 10 ∨ cap = 15 ∧ ru ≤ 11) (hp7 : ∀ j : Nat, (j : Int) < ru → ef j = some (rf j)) : Met l yL_holiday wsL_holiday ({ frames := 8, cells := 2, slots := 19, locals := 215 }) (zPwF (dC, dI) [(cI, .int), (cL, .long), (cO, .object "java/lang/Object")] sz [.ref h0, .int (zi kk), .int (zi aa), .int (zi bb), .int (zi cz), .ref qo] [(h0, .inr (4, [.ref qs, .ref qr, .ref qm, .ref qw, .ref qt, .int (zi we)])), (qr, .inr (0, [.int (zi mc), .ref qe, .int (zi ru)])), (qe, aR cO cap ef), (qo, aL cL 1 of)] (zRO (dC, dI) ru rf kf af bf zf qd mi)) (va_Qi (fun (r : Int32) (u : (Nat) × (Nat) × (Nat → Option Nat) × (Nat)) => r = zi 0 ∧ (((∀ j : Nat, (j : Int) < ru → u.2.2.1 j = ef j) ∧ u.2.2.1 (Int.toNat ru) = some u.2.2.2) ∧ (u.2.1 = 10 ∧ (ru : Int) < 10 ∨ u.2.1 = 15 ∧ (ru : Int) < 15))) (fun (u : (Nat) × (Nat) × (Nat → Option Nat) × (Nat)) => zB (dC, dI) [(cI, .int), (cL, .long), (cO, .object "java/lang/Object")] (va_A [(h0, .inr (4, [.ref qs, .ref qr, .ref qm, .ref qw, .ref qt, .int (zi we)])), (qr, .inr (0, [.int (zi mc), .ref qe, .int (zi ru)])), (qe, aR cO cap ef), (qo, aL cL 1 of)] sz) [(h0, .inr (4, [.ref qs, .ref qr, .ref qm, .ref qw, .ref qt, .int (zi we)])), (qr, .inr (0, [.int (zi (mc + 1)), .ref u.1, .int (zi (ru + 1))])), (u.1, aR cO u.2.1 u.2.2.1), (u.2.2.2, .inr (3, [.int (zi kk), .int (zi aa), .int (zi bb), .int (zi cz)])), (qo, aL cL 1 (zup of (Int.toNat 0) (ru + 1)))] ()) (va_A [(h0, .inr (4, [.ref qs, .ref qr, .ref qm, .ref qw, .ref qt, .int (zi we)])), (qr, .inr (0, [.int (zi mc), .ref qe, .int (zi ru)])), (qe, aR cO cap ef), (qo, aL cL 1 of)] sz)) 2 19 (va_A [(h0, .inr (4, [.ref qs, .ref qr, .ref qm, .ref qw, .ref qt, .int (zi we)])), (qr, .inr (0, [.int (zi mc), .ref qe, .int (zi ru)])), (qe, aR cO cap ef), (qo, aL cL 1 of)] sz) := by
  refine va_MetW (hh := [(0, 14, 17, 15), (0, 14, 21, 37)]) (cc := cL_holiday) (maxL := 7) (ret := (some .int)) (by decide) rfl ?_
  intro p e s m args below meth c s₁ B hml hv
  obtain ⟨rfl, hsz, hP, hK, hD0, hG⟩ := hv
  have hx := B.exec
  have hb := B.bytes
  have hr := B.returns
  have hts := atoms_spec (ws := wsL_holiday) B.pre
  have hown : s.vm.findClass RL = some m.cls := findClass_of_methodNamed B.named
  have hlocks := B.notSynchronized
  subst hsz
  have hD := hD0.self (sz := s.heap.size)
  generalize hAe : va_A [(h0, .inr (4, [.ref qs, .ref qr, .ref qm, .ref qw, .ref qt, .int (zi we)])), (qr, .inr (0, [.int (zi mc), .ref qe, .int (zi ru)])), (qe, aR cO cap ef), (qo, aL cL 1 of)] s.heap.size = A at hD hG ⊢
  have hA : ∀ q : Nat, s.heap.size ≤ q → A q := fun q h => by rw [← hAe]; exact Or.inr h
  have hS : va_S A s.heap s.heap [] := va_S.rf
  have hP : va_P (dC, dI) vwCl [(h0, .inr (4, [.ref qs, .ref qr, .ref qm, .ref qw, .ref qt, .int (zi we)])), (qr, .inr (0, [.int (zi mc), .ref qe, .int (zi ru)])), (qe, aR cO cap ef), (qo, aL cL 1 of)] s.heap := hP
  have hl := lv_entry ([.ref h0, .int (zi kk), .int (zi aa), .int (zi bb), .int (zi cz), .ref qo]) (n := 7) (Nat.le_of_ble_eq_true rfl)
  rw [lg_entry_eq]
  generalize (lg_sl ([.ref h0, .int (zi kk), .int (zi aa), .int (zi bb), .int (zi cz), .ref qo]) ++ List.replicate (7 - (lg_sl ([.ref h0, .int (zi kk), .int (zi aa), .int (zi bb), .int (zi cz), .ref qo])).length) Slot.unset).toArray = ls at hl ⊢
  have hl : lv_has ls 7 [(0, .ref h0), (1, .int (zi kk)), (2, .int (zi aa)), (3, .int (zi bb)), (4, .int (zi cz)), (5, .ref qo)] := hl
  refine lv_aload hx hb dL_holiday_0 (lv_at hl 5 rfl) ?_
  refine zw_iconst hx hb dL_holiday_2 ?_
  refine lv_aload_n hx hb dL_holiday_3 rfl (lv_at hl 0 rfl) ?_
  refine lv_iload_n hx hb dL_holiday_4 rfl (lv_at hl 1 rfl) ?_
  refine lv_iload_n hx hb dL_holiday_5 rfl (lv_at hl 2 rfl) ?_
  refine lv_iload_n hx hb dL_holiday_6 rfl (lv_at hl 3 rfl) ?_
  refine lv_iload hx hb dL_holiday_7 (lv_at hl 4 rfl) ?_
  have hh1 := c_X4_holiday l dC dI cO h0 qs qr qm qw qt we mc qe ru cap ef rf kf af bf zf qd mi kk aa bb cz s.heap.size (by first | exact hp0 | omega) (by first | exact hp1 | omega) (by first | exact hp2 | omega) (by first | exact hp3 | omega) (by first | exact hp4 | omega) (by first | exact hp5 | omega) (by first | exact hp6 | omega) (by first | exact hp7 | omega)
  have hPc := hP.sub (ws' := [(h0, .inr (4, [.ref qs, .ref qr, .ref qm, .ref qw, .ref qt, .int (zi we)])), (qr, .inr (0, [.int (zi mc), .ref qe, .int (zi ru)])), (qe, aR cO cap ef)]) [0, 1, 2] rfl
  have hKc : va_K (dC, dI) vwCl [(cO, .object "java/lang/Object")] s := hK.sub (tys' := [(cO, .object "java/lang/Object")]) [2] rfl
  have hDc := hD.sub (ws' := [(h0, .inr (4, [.ref qs, .ref qr, .ref qm, .ref qw, .ref qt, .int (zi we)])), (qr, .inr (0, [.int (zi mc), .ref qe, .int (zi ru)])), (qe, aR cO cap ef)]) [0, 1, 2] (by decide) rfl
  have hFc := va_free (wc := [(h0, .inr (4, [.ref qs, .ref qr, .ref qm, .ref qw, .ref qt, .int (zi we)])), (qr, .inr (0, [.int (zi mc), .ref qe, .int (zi ru)])), (qe, aR cO cap ef)]) hD hS hA [0, 1, 2] rfl
  refine va_calli (va_runV (As := [.int (zi kk), .int (zi aa), .int (zi bb), .int (zi cz)]) (rest := [.int (zi 0), .ref qo]) ⟨hx, hb, hml, hown, hts⟩ hh1 (cwV 4 hts gL_holiday_X4_holiday rfl rfl rfl (by decide +kernel) ⟨Nat.le_of_ble_eq_true rfl, Nat.le_of_ble_eq_true rfl⟩) ⟨zPwF.blind _ _ _ _ _ zRO_ok, va_recv hKc hPc (ci := 4) (q0 := 0) rfl rfl, fun U hU hW => ⟨rfl, by rw [hU], by rw [hU]; exact hPc, va_K.moved hW.alike hKc, hDc.weaken (fun _ _ _ _ => trivial), zF.call zRO_ok hG hS hFc hU hW⟩⟩ rfl rfl hl.1 rfl (lv_room (Nat.le_of_ble_eq_true rfl)) dL_holiday_9 ⟨Nat.le_of_ble_eq_true rfl, Nat.le_of_ble_eq_true rfl⟩) hS (fun q _ h => hFc q h) hFc (fun r1 u t H1 locs ht hvm hw hB hz1 hk1 hS => ?_)
  obtain ⟨qf_2, cp_2, eg_2, qn_2⟩ := u
  obtain ⟨hw, hw1⟩ := hw
  replace hw1 : ((∀ j : Nat, (j : Int) < ru → eg_2 j = ef j) ∧ eg_2 (Int.toNat ru) = some qn_2) ∧ (cp_2 = 10 ∧ (ru : Int) < 10 ∨ cp_2 = 15 ∧ (ru : Int) < 15) := hw1
  obtain ⟨hP1, hK1, hD1⟩ := hB
  rw [ht] at hP1
  replace hP1 : va_P (dC, dI) vwCl [(h0, .inr (4, [.ref qs, .ref qr, .ref qm, .ref qw, .ref qt, .int (zi we)])), (qr, .inr (0, [.int (zi (mc + 1)), .ref qf_2, .int (zi (ru + 1))])), (qf_2, aR cO cp_2 eg_2), (qn_2, .inr (3, [.int (zi kk), .int (zi aa), .int (zi bb), .int (zi cz)]))] H1 := hP1
  replace hD1 : va_D _ [(h0, .inr (4, [.ref qs, .ref qr, .ref qm, .ref qw, .ref qt, .int (zi we)])), (qr, .inr (0, [.int (zi (mc + 1)), .ref qf_2, .int (zi (ru + 1))])), (qf_2, aR cO cp_2 eg_2), (qn_2, .inr (3, [.int (zi kk), .int (zi aa), .int (zi bb), .int (zi cz)]))] := hD1
  obtain ⟨hP, hD⟩ := va_join (wr := [(qo, aL cL 1 of)]) (w1 := [(h0, .inr (4, [.ref qs, .ref qr, .ref qm, .ref qw, .ref qt, .int (zi we)])), (qr, .inr (0, [.int (zi (mc + 1)), .ref qf_2, .int (zi (ru + 1))])), (qf_2, aR cO cp_2 eg_2), (qn_2, .inr (3, [.int (zi kk), .int (zi aa), .int (zi bb), .int (zi cz)]))]) hP hD [0, 1, 2] [3] rfl rfl (by decide) (by decide) hk1 hFc hP1 hD1
  generalize H1 = H at hP hS ⊢
  obtain rfl : r1 = zi (ru + 1) := hw
  have hP : va_P (dC, dI) vwCl [(qo, aL cL 1 of), (h0, .inr (4, [.ref qs, .ref qr, .ref qm, .ref qw, .ref qt, .int (zi we)])), (qr, .inr (0, [.int (zi (mc + 1)), .ref qf_2, .int (zi (ru + 1))])), (qf_2, aR cO cp_2 eg_2), (qn_2, .inr (3, [.int (zi kk), .int (zi aa), .int (zi bb), .int (zi cz)]))] H := hP
  have hD : va_D A [(qo, aL cL 1 of), (h0, .inr (4, [.ref qs, .ref qr, .ref qm, .ref qw, .ref qt, .int (zi we)])), (qr, .inr (0, [.int (zi (mc + 1)), .ref qf_2, .int (zi (ru + 1))])), (qf_2, aR cO cp_2 eg_2), (qn_2, .inr (3, [.int (zi kk), .int (zi aa), .int (zi bb), .int (zi cz)]))] := hD
  refine zw_i2l hx hb dL_holiday_12 ⟨by omega, by omega⟩ ?_
  refine zw_last hx hb hK hP hD hS 0 1 rfl rfl (by omega) (by omega) ⟨by omega, by omega⟩ dL_holiday_13 (fun H locs hP hD hS => ?_)
  have hP : va_P (dC, dI) vwCl [(qo, aL cL 1 (zup of (Int.toNat 0) (ru + 1))), (h0, .inr (4, [.ref qs, .ref qr, .ref qm, .ref qw, .ref qt, .int (zi we)])), (qr, .inr (0, [.int (zi (mc + 1)), .ref qf_2, .int (zi (ru + 1))])), (qf_2, aR cO cp_2 eg_2), (qn_2, .inr (3, [.int (zi kk), .int (zi aa), .int (zi bb), .int (zi cz)]))] H := hP
  have hD : va_D A [(qo, aL cL 1 (zup of (Int.toNat 0) (ru + 1))), (h0, .inr (4, [.ref qs, .ref qr, .ref qm, .ref qw, .ref qt, .int (zi we)])), (qr, .inr (0, [.int (zi (mc + 1)), .ref qf_2, .int (zi (ru + 1))])), (qf_2, aR cO cp_2 eg_2), (qn_2, .inr (3, [.int (zi kk), .int (zi aa), .int (zi bb), .int (zi cz)]))] := hD
  refine lv_goto (tgt := 25) hx hb dL_holiday_14 (by decide) ?_
  refine zw_iconst hx hb dL_holiday_25 ?_
  have hP9 := hP.sub (ws' := [(h0, .inr (4, [.ref qs, .ref qr, .ref qm, .ref qw, .ref qt, .int (zi we)])), (qr, .inr (0, [.int (zi (mc + 1)), .ref qf_2, .int (zi (ru + 1))])), (qf_2, aR cO cp_2 eg_2), (qn_2, .inr (3, [.int (zi kk), .int (zi aa), .int (zi bb), .int (zi cz)])), (qo, aL cL 1 (zup of (Int.toNat 0) (ru + 1)))]) [1, 2, 3, 4, 0] rfl
  have hD9 := hD.sub (ws' := [(h0, .inr (4, [.ref qs, .ref qr, .ref qm, .ref qw, .ref qt, .int (zi we)])), (qr, .inr (0, [.int (zi (mc + 1)), .ref qf_2, .int (zi (ru + 1))])), (qf_2, aR cO cp_2 eg_2), (qn_2, .inr (3, [.int (zi kk), .int (zi aa), .int (zi bb), .int (zi cz)])), (qo, aL cL 1 (zup of (Int.toNat 0) (ru + 1)))]) [1, 2, 3, 4, 0] (by decide) rfl
  have hp9 : ((∀ j : Nat, (j : Int) < ru → eg_2 j = ef j) ∧ eg_2 (Int.toNat ru) = some qn_2) ∧ (cp_2 = 10 ∧ (ru : Int) < 10 ∨ cp_2 = 15 ∧ (ru : Int) < 15) := by
    assumption
  refine W.widen (k := 2) (n := 19) (Nat.le_of_ble_eq_true rfl) (Nat.le_of_ble_eq_true rfl) ?_
  exact W.iret (v := zi 0) hx hb hr (fun t ht hW => ⟨⟨zi 0, (qf_2, cp_2, eg_2, qn_2), rfl, ⟨rfl, hp9⟩, by rw [ht]; exact hP9, va_K.moved hW.alike hK, hD9⟩, hS.F ht⟩) hS.2.2 dL_holiday_26

set_option maxHeartbeats 4000000 in
set_option maxRecDepth 100000 in
theorem c_L_holiday_0 (l : Launch)  (dC : Nat → ClassId) (dI : Nat → Nat → Nat) (cI : ClassId) (cL : ClassId) (cO : ClassId) (h0 : Nat) (qs : Nat) (qr : Nat) (qm : Nat) (qw : Nat) (qt : Nat) (we : Int) (mc : Int) (qd : Nat) (ef : Nat → Option Nat) (qo : Nat) (of : Nat → Int) (kk : Int) (aa : Int) (bb : Int) (cz : Int) (rf : Nat → Nat) (kf : Nat → Int) (af : Nat → Int) (bf : Nat → Int) (zf : Nat → Int) (mi : Nat) (sz : Nat) (hp0 : -2147483648 ≤ kk ∧ kk ≤ 2147483647) (hp1 : -2147483648 ≤ aa ∧ aa ≤ 2147483647) (hp2 : -2147483648 ≤ bb ∧ bb ≤ 2147483647) (hp3 : -2147483648 ≤ cz ∧ cz ≤ 2147483647) (hp4 : (f_X3_isRule kk aa bb cz) = 1) : Met l yL_holiday wsL_holiday ({ frames := 8, cells := 2, slots := 19, locals := 215 }) (zPwF (dC, dI) [(cI, .int), (cL, .long), (cO, .object "java/lang/Object")] sz [.ref h0, .int (zi kk), .int (zi aa), .int (zi bb), .int (zi cz), .ref qo] [(h0, .inr (4, [.ref qs, .ref qr, .ref qm, .ref qw, .ref qt, .int (zi we)])), (qr, .inr (0, [.int (zi mc), .ref qd, .int (zi 0)])), (qd, aR cO 0 ef), (qo, aL cL 1 of)] (zRO (dC, dI) 0 rf kf af bf zf qd mi)) (va_Qi (fun (r : Int32) (u : (Nat) × (Nat) × (Nat → Option Nat) × (Nat)) => r = zi 0 ∧ (((∀ j : Nat, (j : Int) < (0 : Int) → u.2.2.1 j = ef j) ∧ u.2.2.1 (Int.toNat (0 : Int)) = some u.2.2.2) ∧ (u.2.1 = 10 ∧ (0 : Int) < 10 ∨ u.2.1 = 15 ∧ (0 : Int) < 15))) (fun (u : (Nat) × (Nat) × (Nat → Option Nat) × (Nat)) => zB (dC, dI) [(cI, .int), (cL, .long), (cO, .object "java/lang/Object")] (va_A [(h0, .inr (4, [.ref qs, .ref qr, .ref qm, .ref qw, .ref qt, .int (zi we)])), (qr, .inr (0, [.int (zi mc), .ref qd, .int (zi 0)])), (qd, aR cO 0 ef), (qo, aL cL 1 of)] sz) [(h0, .inr (4, [.ref qs, .ref qr, .ref qm, .ref qw, .ref qt, .int (zi we)])), (qr, .inr (0, [.int (zi (mc + 1)), .ref u.1, .int (zi 1)])), (u.1, aR cO u.2.1 u.2.2.1), (u.2.2.2, .inr (3, [.int (zi kk), .int (zi aa), .int (zi bb), .int (zi cz)])), (qd, aR cO 0 ef), (qo, aL cL 1 (zup of (Int.toNat 0) 1))] ()) (va_A [(h0, .inr (4, [.ref qs, .ref qr, .ref qm, .ref qw, .ref qt, .int (zi we)])), (qr, .inr (0, [.int (zi mc), .ref qd, .int (zi 0)])), (qd, aR cO 0 ef), (qo, aL cL 1 of)] sz)) 2 19 (va_A [(h0, .inr (4, [.ref qs, .ref qr, .ref qm, .ref qw, .ref qt, .int (zi we)])), (qr, .inr (0, [.int (zi mc), .ref qd, .int (zi 0)])), (qd, aR cO 0 ef), (qo, aL cL 1 of)] sz) := by
  refine va_MetW (hh := [(0, 14, 17, 15), (0, 14, 21, 37)]) (cc := cL_holiday) (maxL := 7) (ret := (some .int)) (by decide) rfl ?_
  intro p e s m args below meth c s₁ B hml hv
  obtain ⟨rfl, hsz, hP, hK, hD0, hG⟩ := hv
  have hx := B.exec
  have hb := B.bytes
  have hr := B.returns
  have hts := atoms_spec (ws := wsL_holiday) B.pre
  have hown : s.vm.findClass RL = some m.cls := findClass_of_methodNamed B.named
  have hlocks := B.notSynchronized
  subst hsz
  have hD := hD0.self (sz := s.heap.size)
  generalize hAe : va_A [(h0, .inr (4, [.ref qs, .ref qr, .ref qm, .ref qw, .ref qt, .int (zi we)])), (qr, .inr (0, [.int (zi mc), .ref qd, .int (zi 0)])), (qd, aR cO 0 ef), (qo, aL cL 1 of)] s.heap.size = A at hD hG ⊢
  have hA : ∀ q : Nat, s.heap.size ≤ q → A q := fun q h => by rw [← hAe]; exact Or.inr h
  have hS : va_S A s.heap s.heap [] := va_S.rf
  have hP : va_P (dC, dI) vwCl [(h0, .inr (4, [.ref qs, .ref qr, .ref qm, .ref qw, .ref qt, .int (zi we)])), (qr, .inr (0, [.int (zi mc), .ref qd, .int (zi 0)])), (qd, aR cO 0 ef), (qo, aL cL 1 of)] s.heap := hP
  have hl := lv_entry ([.ref h0, .int (zi kk), .int (zi aa), .int (zi bb), .int (zi cz), .ref qo]) (n := 7) (Nat.le_of_ble_eq_true rfl)
  rw [lg_entry_eq]
  generalize (lg_sl ([.ref h0, .int (zi kk), .int (zi aa), .int (zi bb), .int (zi cz), .ref qo]) ++ List.replicate (7 - (lg_sl ([.ref h0, .int (zi kk), .int (zi aa), .int (zi bb), .int (zi cz), .ref qo])).length) Slot.unset).toArray = ls at hl ⊢
  have hl : lv_has ls 7 [(0, .ref h0), (1, .int (zi kk)), (2, .int (zi aa)), (3, .int (zi bb)), (4, .int (zi cz)), (5, .ref qo)] := hl
  refine lv_aload hx hb dL_holiday_0 (lv_at hl 5 rfl) ?_
  refine zw_iconst hx hb dL_holiday_2 ?_
  refine lv_aload_n hx hb dL_holiday_3 rfl (lv_at hl 0 rfl) ?_
  refine lv_iload_n hx hb dL_holiday_4 rfl (lv_at hl 1 rfl) ?_
  refine lv_iload_n hx hb dL_holiday_5 rfl (lv_at hl 2 rfl) ?_
  refine lv_iload_n hx hb dL_holiday_6 rfl (lv_at hl 3 rfl) ?_
  refine lv_iload hx hb dL_holiday_7 (lv_at hl 4 rfl) ?_
  have hh1 := c_X4_holiday_0 l dC dI cO h0 qs qr qm qw qt we mc ef rf kf af bf zf qd mi kk aa bb cz s.heap.size (by first | exact hp0 | omega) (by first | exact hp1 | omega) (by first | exact hp2 | omega) (by first | exact hp3 | omega) (by first | exact hp4 | omega)
  have hPc := hP.sub (ws' := [(h0, .inr (4, [.ref qs, .ref qr, .ref qm, .ref qw, .ref qt, .int (zi we)])), (qr, .inr (0, [.int (zi mc), .ref qd, .int (zi 0)])), (qd, aR cO 0 ef)]) [0, 1, 2] rfl
  have hKc : va_K (dC, dI) vwCl [(cO, .object "java/lang/Object")] s := hK.sub (tys' := [(cO, .object "java/lang/Object")]) [2] rfl
  have hDc := hD.sub (ws' := [(h0, .inr (4, [.ref qs, .ref qr, .ref qm, .ref qw, .ref qt, .int (zi we)])), (qr, .inr (0, [.int (zi mc), .ref qd, .int (zi 0)])), (qd, aR cO 0 ef)]) [0, 1, 2] (by decide) rfl
  have hFc := va_free (wc := [(h0, .inr (4, [.ref qs, .ref qr, .ref qm, .ref qw, .ref qt, .int (zi we)])), (qr, .inr (0, [.int (zi mc), .ref qd, .int (zi 0)])), (qd, aR cO 0 ef)]) hD hS hA [0, 1, 2] rfl
  refine va_calli (va_runV (As := [.int (zi kk), .int (zi aa), .int (zi bb), .int (zi cz)]) (rest := [.int (zi 0), .ref qo]) ⟨hx, hb, hml, hown, hts⟩ hh1 (cwV 4 hts gL_holiday_X4_holiday rfl rfl rfl (by decide +kernel) ⟨Nat.le_of_ble_eq_true rfl, Nat.le_of_ble_eq_true rfl⟩) ⟨zPwF.blind _ _ _ _ _ zRO_ok, va_recv hKc hPc (ci := 4) (q0 := 0) rfl rfl, fun U hU hW => ⟨rfl, by rw [hU], by rw [hU]; exact hPc, va_K.moved hW.alike hKc, hDc.weaken (fun _ _ _ _ => trivial), zF.call zRO_ok hG hS hFc hU hW⟩⟩ rfl rfl hl.1 rfl (lv_room (Nat.le_of_ble_eq_true rfl)) dL_holiday_9 ⟨Nat.le_of_ble_eq_true rfl, Nat.le_of_ble_eq_true rfl⟩) hS (fun q _ h => hFc q h) hFc (fun r1 u t H1 locs ht hvm hw hB hz1 hk1 hS => ?_)
  obtain ⟨qf_2, cp_2, eg_2, qn_2⟩ := u
  obtain ⟨hw, hw1⟩ := hw
  replace hw1 : ((∀ j : Nat, (j : Int) < (0 : Int) → eg_2 j = ef j) ∧ eg_2 (Int.toNat (0 : Int)) = some qn_2) ∧ (cp_2 = 10 ∧ (0 : Int) < 10 ∨ cp_2 = 15 ∧ (0 : Int) < 15) := hw1
  obtain ⟨hP1, hK1, hD1⟩ := hB
  rw [ht] at hP1
  replace hP1 : va_P (dC, dI) vwCl [(h0, .inr (4, [.ref qs, .ref qr, .ref qm, .ref qw, .ref qt, .int (zi we)])), (qr, .inr (0, [.int (zi (mc + 1)), .ref qf_2, .int (zi 1)])), (qf_2, aR cO cp_2 eg_2), (qn_2, .inr (3, [.int (zi kk), .int (zi aa), .int (zi bb), .int (zi cz)])), (qd, aR cO 0 ef)] H1 := hP1
  replace hD1 : va_D _ [(h0, .inr (4, [.ref qs, .ref qr, .ref qm, .ref qw, .ref qt, .int (zi we)])), (qr, .inr (0, [.int (zi (mc + 1)), .ref qf_2, .int (zi 1)])), (qf_2, aR cO cp_2 eg_2), (qn_2, .inr (3, [.int (zi kk), .int (zi aa), .int (zi bb), .int (zi cz)])), (qd, aR cO 0 ef)] := hD1
  obtain ⟨hP, hD⟩ := va_join (wr := [(qo, aL cL 1 of)]) (w1 := [(h0, .inr (4, [.ref qs, .ref qr, .ref qm, .ref qw, .ref qt, .int (zi we)])), (qr, .inr (0, [.int (zi (mc + 1)), .ref qf_2, .int (zi 1)])), (qf_2, aR cO cp_2 eg_2), (qn_2, .inr (3, [.int (zi kk), .int (zi aa), .int (zi bb), .int (zi cz)])), (qd, aR cO 0 ef)]) hP hD [0, 1, 2] [3] rfl rfl (by decide) (by decide) hk1 hFc hP1 hD1
  generalize H1 = H at hP hS ⊢
  obtain rfl : r1 = zi 1 := hw
  have hP : va_P (dC, dI) vwCl [(qo, aL cL 1 of), (h0, .inr (4, [.ref qs, .ref qr, .ref qm, .ref qw, .ref qt, .int (zi we)])), (qr, .inr (0, [.int (zi (mc + 1)), .ref qf_2, .int (zi 1)])), (qf_2, aR cO cp_2 eg_2), (qn_2, .inr (3, [.int (zi kk), .int (zi aa), .int (zi bb), .int (zi cz)])), (qd, aR cO 0 ef)] H := hP
  have hD : va_D A [(qo, aL cL 1 of), (h0, .inr (4, [.ref qs, .ref qr, .ref qm, .ref qw, .ref qt, .int (zi we)])), (qr, .inr (0, [.int (zi (mc + 1)), .ref qf_2, .int (zi 1)])), (qf_2, aR cO cp_2 eg_2), (qn_2, .inr (3, [.int (zi kk), .int (zi aa), .int (zi bb), .int (zi cz)])), (qd, aR cO 0 ef)] := hD
  refine zw_i2l hx hb dL_holiday_12 ⟨by omega, by omega⟩ ?_
  refine zw_last hx hb hK hP hD hS 0 1 rfl rfl (by omega) (by omega) ⟨by omega, by omega⟩ dL_holiday_13 (fun H locs hP hD hS => ?_)
  have hP : va_P (dC, dI) vwCl [(qo, aL cL 1 (zup of (Int.toNat 0) 1)), (h0, .inr (4, [.ref qs, .ref qr, .ref qm, .ref qw, .ref qt, .int (zi we)])), (qr, .inr (0, [.int (zi (mc + 1)), .ref qf_2, .int (zi 1)])), (qf_2, aR cO cp_2 eg_2), (qn_2, .inr (3, [.int (zi kk), .int (zi aa), .int (zi bb), .int (zi cz)])), (qd, aR cO 0 ef)] H := hP
  have hD : va_D A [(qo, aL cL 1 (zup of (Int.toNat 0) 1)), (h0, .inr (4, [.ref qs, .ref qr, .ref qm, .ref qw, .ref qt, .int (zi we)])), (qr, .inr (0, [.int (zi (mc + 1)), .ref qf_2, .int (zi 1)])), (qf_2, aR cO cp_2 eg_2), (qn_2, .inr (3, [.int (zi kk), .int (zi aa), .int (zi bb), .int (zi cz)])), (qd, aR cO 0 ef)] := hD
  refine lv_goto (tgt := 25) hx hb dL_holiday_14 (by decide) ?_
  refine zw_iconst hx hb dL_holiday_25 ?_
  have hP9 := hP.sub (ws' := [(h0, .inr (4, [.ref qs, .ref qr, .ref qm, .ref qw, .ref qt, .int (zi we)])), (qr, .inr (0, [.int (zi (mc + 1)), .ref qf_2, .int (zi 1)])), (qf_2, aR cO cp_2 eg_2), (qn_2, .inr (3, [.int (zi kk), .int (zi aa), .int (zi bb), .int (zi cz)])), (qd, aR cO 0 ef), (qo, aL cL 1 (zup of (Int.toNat 0) 1))]) [1, 2, 3, 4, 5, 0] rfl
  have hD9 := hD.sub (ws' := [(h0, .inr (4, [.ref qs, .ref qr, .ref qm, .ref qw, .ref qt, .int (zi we)])), (qr, .inr (0, [.int (zi (mc + 1)), .ref qf_2, .int (zi 1)])), (qf_2, aR cO cp_2 eg_2), (qn_2, .inr (3, [.int (zi kk), .int (zi aa), .int (zi bb), .int (zi cz)])), (qd, aR cO 0 ef), (qo, aL cL 1 (zup of (Int.toNat 0) 1))]) [1, 2, 3, 4, 5, 0] (by decide) rfl
  have hp9 : ((∀ j : Nat, (j : Int) < (0 : Int) → eg_2 j = ef j) ∧ eg_2 (Int.toNat (0 : Int)) = some qn_2) ∧ (cp_2 = 10 ∧ (0 : Int) < 10 ∨ cp_2 = 15 ∧ (0 : Int) < 15) := by
    assumption
  refine W.widen (k := 2) (n := 19) (Nat.le_of_ble_eq_true rfl) (Nat.le_of_ble_eq_true rfl) ?_
  exact W.iret (v := zi 0) hx hb hr (fun t ht hW => ⟨⟨zi 0, (qf_2, cp_2, eg_2, qn_2), rfl, ⟨rfl, hp9⟩, by rw [ht]; exact hP9, va_K.moved hW.alike hK, hD9⟩, hS.F ht⟩) hS.2.2 dL_holiday_26

set_option maxHeartbeats 4000000 in
set_option maxRecDepth 100000 in
theorem c_L_noHoliday_1 (l : Launch) (hst : l.stackTraces = false) (dC : Nat → ClassId) (dI : Nat → Nat → Nat) (cI : ClassId) (cL : ClassId) (cO : ClassId) (h0 : Nat) (qs : Nat) (qr : Nat) (qm : Nat) (qw : Nat) (qt : Nat) (we : Int) (mc : Int) (qe : Nat) (ru : Int) (qo : Nat) (of : Nat → Int) (ix : Int) (sz : Nat) (hp0 : 0 ≤ ru ∧ ru ≤ 12) (hp1 : -2147483648 ≤ ix ∧ ix ≤ 2147483647) (hp2 : ix < 0 ∨ ru ≤ ix) : Met l yL_noHoliday wsL_noHoliday ({ frames := 7, cells := 1, slots := 6, locals := 111 }) (zPx (dC, dI) [(cI, .int), (cL, .long), (cO, .object "java/lang/Object")] sz [.ref h0, .int (zi ix), .ref qo] [(h0, .inr (4, [.ref qs, .ref qr, .ref qm, .ref qw, .ref qt, .int (zi we)])), (qr, .inr (0, [.int (zi mc), .ref qe, .int (zi ru)])), (qo, aL cL 1 of)]) (va_Qi (fun (r : Int32) (_ : Unit) => r = zi 1) (zB (dC, dI) [(cI, .int), (cL, .long), (cO, .object "java/lang/Object")] (va_A [(h0, .inr (4, [.ref qs, .ref qr, .ref qm, .ref qw, .ref qt, .int (zi we)])), (qr, .inr (0, [.int (zi mc), .ref qe, .int (zi ru)])), (qo, aL cL 1 of)] sz) [(h0, .inr (4, [.ref qs, .ref qr, .ref qm, .ref qw, .ref qt, .int (zi we)])), (qr, .inr (0, [.int (zi mc), .ref qe, .int (zi ru)])), (qo, aL cL 1 of)]) (va_A [(h0, .inr (4, [.ref qs, .ref qr, .ref qm, .ref qw, .ref qt, .int (zi we)])), (qr, .inr (0, [.int (zi mc), .ref qe, .int (zi ru)])), (qo, aL cL 1 of)] sz)) 1 6 (va_A [(h0, .inr (4, [.ref qs, .ref qr, .ref qm, .ref qw, .ref qt, .int (zi we)])), (qr, .inr (0, [.int (zi mc), .ref qe, .int (zi ru)])), (qo, aL cL 1 of)] sz) := by
  refine va_MetW (hh := [(0, 9, 12, 13)]) (cc := cL_noHoliday) (maxL := 4) (ret := (some .int)) (by decide) rfl ?_
  intro p e s m args below meth c s₁ B hml hv
  obtain ⟨rfl, hsz, hE, hP, hK, hD0⟩ := hv
  have hx := B.exec
  have hb := B.bytes
  have hr := B.returns
  have hts := atoms_spec (ws := wsL_noHoliday) B.pre
  have hown : s.vm.findClass RL = some m.cls := findClass_of_methodNamed B.named
  have hlocks := B.notSynchronized
  have hex : c.exceptionTable.toList = [⟨0, 9, 12, 13⟩] := vx_table (x := yL_noHoliday) B (hts _ List.mem_cons_self)
  subst hsz
  have hD := hD0.self (sz := s.heap.size)
  generalize hAe : va_A [(h0, .inr (4, [.ref qs, .ref qr, .ref qm, .ref qw, .ref qt, .int (zi we)])), (qr, .inr (0, [.int (zi mc), .ref qe, .int (zi ru)])), (qo, aL cL 1 of)] s.heap.size = A at hD ⊢
  have hA : ∀ q : Nat, s.heap.size ≤ q → A q := fun q h => by rw [← hAe]; exact Or.inr h
  have hS : va_S A s.heap s.heap [] := va_S.rf
  have hP : va_P (dC, dI) vwCl [(h0, .inr (4, [.ref qs, .ref qr, .ref qm, .ref qw, .ref qt, .int (zi we)])), (qr, .inr (0, [.int (zi mc), .ref qe, .int (zi ru)])), (qo, aL cL 1 of)] s.heap := hP
  have hl := lv_entry ([.ref h0, .int (zi ix), .ref qo]) (n := 4) (Nat.le_of_ble_eq_true rfl)
  rw [lg_entry_eq]
  generalize (lg_sl ([.ref h0, .int (zi ix), .ref qo]) ++ List.replicate (4 - (lg_sl ([.ref h0, .int (zi ix), .ref qo])).length) Slot.unset).toArray = ls at hl ⊢
  have hl : lv_has ls 4 [(0, .ref h0), (1, .int (zi ix)), (2, .ref qo)] := hl
  refine lv_aload_n hx hb dL_noHoliday_0 rfl (lv_at hl 2 rfl) ?_
  refine zw_iconst hx hb dL_noHoliday_1 ?_
  refine lv_aload_n hx hb dL_noHoliday_2 rfl (lv_at hl 0 rfl) ?_
  refine lv_iload_n hx hb dL_noHoliday_3 rfl (lv_at hl 1 rfl) ?_
  have hh1 := t_X4_noHoliday l hst dC dI h0 qs qr qm qw qt we mc qe ru ix (by first | exact hp0 | omega) (by first | exact hp1 | omega) (by first | exact hp2 | omega)
  have hPc := hP.sub (ws' := [(h0, .inr (4, [.ref qs, .ref qr, .ref qm, .ref qw, .ref qt, .int (zi we)])), (qr, .inr (0, [.int (zi mc), .ref qe, .int (zi ru)]))]) [0, 1] rfl
  have hKc : va_K (dC, dI) vwCl [] s := hK.sub (tys' := []) [] rfl
  refine zt_catch (own := RL) (name := "java/lang/IndexOutOfBoundsException") (vx_runV (As := [.int (zi ix)]) (rest := [.int (zi 0), .ref qo]) ⟨hx, hb, hml, hown, hts⟩ hh1 (cwV 1 hts gL_noHoliday_X4_noHoliday rfl rfl rfl (by decide +kernel) ⟨Nat.le_of_ble_eq_true rfl, Nat.le_of_ble_eq_true rfl⟩) ⟨zPt.blind _ _ _ _, va_recv hKc hPc (ci := 4) (q0 := 0) rfl rfl, fun U hU hW => ⟨rfl, hE.call va_S.rf (fun q h => by rw [hU] at h; exact h) hU hW, by rw [hU]; exact hPc, va_K.moved hW.alike hKc⟩⟩ rfl rfl hl.1 rfl (lv_room (Nat.le_of_ble_eq_true rfl)) dL_noHoliday_4 ⟨Nat.le_of_ble_eq_true rfl, Nat.le_of_ble_eq_true rfl⟩) hown [] ⟨0, 9, 12, 13⟩ [] hex (List.forall_mem_nil _) (by decide) (by decide) (hts (.classLink RL 13 "java/lang/IndexOutOfBoundsException") (by decide +kernel)) (va_any rfl (hE.2.2.1 (.castable "java/lang/IndexOutOfBoundsException" "java/lang/IndexOutOfBoundsException") (by decide +kernel))) (fun qx H1 hz1 hk1 => ?_)
  have hP : va_P (dC, dI) vwCl [(h0, .inr (4, [.ref qs, .ref qr, .ref qm, .ref qw, .ref qt, .int (zi we)])), (qr, .inr (0, [.int (zi mc), .ref qe, .int (zi ru)])), (qo, aL cL 1 of)] H1 := zk_world hP hk1
  have hS : va_S A s.heap H1 [] := zk_S hz1 hk1
  refine lv_astore_n (lv' := [(3, .ref qx), (0, .ref h0), (1, .int (zi ix)), (2, .ref qo)]) hx hb dL_noHoliday_12 rfl hl (by decide) rfl (fun ls hl => ?_)
  refine zw_iconst hx hb dL_noHoliday_13 ?_
  have hP9 := hP.sub (ws' := [(h0, .inr (4, [.ref qs, .ref qr, .ref qm, .ref qw, .ref qt, .int (zi we)])), (qr, .inr (0, [.int (zi mc), .ref qe, .int (zi ru)])), (qo, aL cL 1 of)]) [0, 1, 2] rfl
  have hD9 := hD.sub (ws' := [(h0, .inr (4, [.ref qs, .ref qr, .ref qm, .ref qw, .ref qt, .int (zi we)])), (qr, .inr (0, [.int (zi mc), .ref qe, .int (zi ru)])), (qo, aL cL 1 of)]) [0, 1, 2] (by decide) rfl
  exact W.iret (v := zi 1) hx hb hr (fun t ht hW => ⟨⟨zi 1, (), rfl, rfl, by rw [ht]; exact hP9, va_K.moved hW.alike hK, hD9⟩, hS.F ht⟩) hS.2.2 dL_noHoliday_14

set_option maxHeartbeats 4000000 in
set_option maxRecDepth 100000 in
theorem c_L_noHoliday (l : Launch)  (dC : Nat → ClassId) (dI : Nat → Nat → Nat) (cI : ClassId) (cL : ClassId) (cO : ClassId) (h0 : Nat) (qs : Nat) (qr : Nat) (qm : Nat) (qw : Nat) (qt : Nat) (we : Int) (mc : Int) (qe : Nat) (ru : Int) (ef : Nat → Option Nat) (cap : Nat) (qo : Nat) (of : Nat → Int) (ix : Int) (rf : Nat → Nat) (kf : Nat → Int) (af : Nat → Int) (bf : Nat → Int) (zf : Nat → Int) (qd : Nat) (mi : Nat) (sz : Nat) (hp0 : 0 ≤ ix ∧ ix < ru ∧ ru ≤ (cap : Int) ∧ (cap : Int) ≤ 1000) (hp1 : ∀ j : Nat, (j : Int) < ru → ef j = some (rf j)) : Met l yL_noHoliday wsL_noHoliday ({ frames := 4, cells := 0, slots := 0, locals := 127 }) (zPwF (dC, dI) [(cI, .int), (cL, .long), (cO, .object "java/lang/Object")] sz [.ref h0, .int (zi ix), .ref qo] [(h0, .inr (4, [.ref qs, .ref qr, .ref qm, .ref qw, .ref qt, .int (zi we)])), (qr, .inr (0, [.int (zi mc), .ref qe, .int (zi ru)])), (qe, aR cO cap ef), (qo, aL cL 1 of)] (zRO (dC, dI) ru rf kf af bf zf qd mi)) (va_Qi (fun (r : Int32) (u : (Nat → Option Nat)) => r = zi 0 ∧ (∀ j : Nat, (j : Int) < ru - 1 → u j = if (j : Int) < ix then ef j else ef (j + 1))) (fun (u : (Nat → Option Nat)) => zB (dC, dI) [(cI, .int), (cL, .long), (cO, .object "java/lang/Object")] (va_A [(h0, .inr (4, [.ref qs, .ref qr, .ref qm, .ref qw, .ref qt, .int (zi we)])), (qr, .inr (0, [.int (zi mc), .ref qe, .int (zi ru)])), (qe, aR cO cap ef), (qo, aL cL 1 of)] sz) [(h0, .inr (4, [.ref qs, .ref qr, .ref qm, .ref qw, .ref qt, .int (zi we)])), (qr, .inr (0, [.int (zi (mc + 1)), .ref qe, .int (zi (ru - 1))])), (qe, aR cO cap u), (qo, aL cL 1 (zup of (Int.toNat 0) (ru - 1)))] ()) (va_A [(h0, .inr (4, [.ref qs, .ref qr, .ref qm, .ref qw, .ref qt, .int (zi we)])), (qr, .inr (0, [.int (zi mc), .ref qe, .int (zi ru)])), (qe, aR cO cap ef), (qo, aL cL 1 of)] sz)) 0 0 (va_A [(h0, .inr (4, [.ref qs, .ref qr, .ref qm, .ref qw, .ref qt, .int (zi we)])), (qr, .inr (0, [.int (zi mc), .ref qe, .int (zi ru)])), (qe, aR cO cap ef), (qo, aL cL 1 of)] sz) := by
  refine va_MetW (hh := [(0, 9, 12, 13)]) (cc := cL_noHoliday) (maxL := 4) (ret := (some .int)) (by decide) rfl ?_
  intro p e s m args below meth c s₁ B hml hv
  obtain ⟨rfl, hsz, hP, hK, hD0, hG⟩ := hv
  have hx := B.exec
  have hb := B.bytes
  have hr := B.returns
  have hts := atoms_spec (ws := wsL_noHoliday) B.pre
  have hown : s.vm.findClass RL = some m.cls := findClass_of_methodNamed B.named
  have hlocks := B.notSynchronized
  subst hsz
  have hD := hD0.self (sz := s.heap.size)
  generalize hAe : va_A [(h0, .inr (4, [.ref qs, .ref qr, .ref qm, .ref qw, .ref qt, .int (zi we)])), (qr, .inr (0, [.int (zi mc), .ref qe, .int (zi ru)])), (qe, aR cO cap ef), (qo, aL cL 1 of)] s.heap.size = A at hD hG ⊢
  have hA : ∀ q : Nat, s.heap.size ≤ q → A q := fun q h => by rw [← hAe]; exact Or.inr h
  have hS : va_S A s.heap s.heap [] := va_S.rf
  have hP : va_P (dC, dI) vwCl [(h0, .inr (4, [.ref qs, .ref qr, .ref qm, .ref qw, .ref qt, .int (zi we)])), (qr, .inr (0, [.int (zi mc), .ref qe, .int (zi ru)])), (qe, aR cO cap ef), (qo, aL cL 1 of)] s.heap := hP
  have hl := lv_entry ([.ref h0, .int (zi ix), .ref qo]) (n := 4) (Nat.le_of_ble_eq_true rfl)
  rw [lg_entry_eq]
  generalize (lg_sl ([.ref h0, .int (zi ix), .ref qo]) ++ List.replicate (4 - (lg_sl ([.ref h0, .int (zi ix), .ref qo])).length) Slot.unset).toArray = ls at hl ⊢
  have hl : lv_has ls 4 [(0, .ref h0), (1, .int (zi ix)), (2, .ref qo)] := hl
  refine lv_aload_n hx hb dL_noHoliday_0 rfl (lv_at hl 2 rfl) ?_
  refine zw_iconst hx hb dL_noHoliday_1 ?_
  refine lv_aload_n hx hb dL_noHoliday_2 rfl (lv_at hl 0 rfl) ?_
  refine lv_iload_n hx hb dL_noHoliday_3 rfl (lv_at hl 1 rfl) ?_
  have hh1 := c_X4_noHoliday l dC dI cO h0 qs qr qm qw qt we mc qe ru cap ef rf kf af bf zf qd mi ix s.heap.size (by first | exact hp0 | omega) (by first | exact hp1 | omega)
  have hPc := hP.sub (ws' := [(h0, .inr (4, [.ref qs, .ref qr, .ref qm, .ref qw, .ref qt, .int (zi we)])), (qr, .inr (0, [.int (zi mc), .ref qe, .int (zi ru)])), (qe, aR cO cap ef)]) [0, 1, 2] rfl
  have hKc : va_K (dC, dI) vwCl [(cO, .object "java/lang/Object")] s := hK.sub (tys' := [(cO, .object "java/lang/Object")]) [2] rfl
  have hDc := hD.sub (ws' := [(h0, .inr (4, [.ref qs, .ref qr, .ref qm, .ref qw, .ref qt, .int (zi we)])), (qr, .inr (0, [.int (zi mc), .ref qe, .int (zi ru)])), (qe, aR cO cap ef)]) [0, 1, 2] (by decide) rfl
  have hFc := va_free (wc := [(h0, .inr (4, [.ref qs, .ref qr, .ref qm, .ref qw, .ref qt, .int (zi we)])), (qr, .inr (0, [.int (zi mc), .ref qe, .int (zi ru)])), (qe, aR cO cap ef)]) hD hS hA [0, 1, 2] rfl
  refine va_calli (va_runV (As := [.int (zi ix)]) (rest := [.int (zi 0), .ref qo]) ⟨hx, hb, hml, hown, hts⟩ hh1 (cwV 1 hts gL_noHoliday_X4_noHoliday rfl rfl rfl (by decide +kernel) ⟨Nat.le_of_ble_eq_true rfl, Nat.le_of_ble_eq_true rfl⟩) ⟨zPwF.blind _ _ _ _ _ zRO_ok, va_recv hKc hPc (ci := 4) (q0 := 0) rfl rfl, fun U hU hW => ⟨rfl, by rw [hU], by rw [hU]; exact hPc, va_K.moved hW.alike hKc, hDc.weaken (fun _ _ _ _ => trivial), zF.call zRO_ok hG hS hFc hU hW⟩⟩ rfl rfl hl.1 rfl (lv_room (Nat.le_of_ble_eq_true rfl)) dL_noHoliday_4 ⟨Nat.le_of_ble_eq_true rfl, Nat.le_of_ble_eq_true rfl⟩) hS (fun q _ h => hFc q h) hFc (fun r1 u t H1 locs ht hvm hw hB hz1 hk1 hS => ?_)
  generalize u = eg_2 at hw hB
  obtain ⟨hw, hw1⟩ := hw
  replace hw1 : ∀ j : Nat, (j : Int) < ru - 1 → eg_2 j = if (j : Int) < ix then ef j else ef (j + 1) := hw1
  obtain ⟨hP1, hK1, hD1⟩ := hB
  rw [ht] at hP1
  replace hP1 : va_P (dC, dI) vwCl [(h0, .inr (4, [.ref qs, .ref qr, .ref qm, .ref qw, .ref qt, .int (zi we)])), (qr, .inr (0, [.int (zi (mc + 1)), .ref qe, .int (zi (ru - 1))])), (qe, aR cO cap eg_2)] H1 := hP1
  replace hD1 : va_D _ [(h0, .inr (4, [.ref qs, .ref qr, .ref qm, .ref qw, .ref qt, .int (zi we)])), (qr, .inr (0, [.int (zi (mc + 1)), .ref qe, .int (zi (ru - 1))])), (qe, aR cO cap eg_2)] := hD1
  obtain ⟨hP, hD⟩ := va_join (wr := [(qo, aL cL 1 of)]) (w1 := [(h0, .inr (4, [.ref qs, .ref qr, .ref qm, .ref qw, .ref qt, .int (zi we)])), (qr, .inr (0, [.int (zi (mc + 1)), .ref qe, .int (zi (ru - 1))])), (qe, aR cO cap eg_2)]) hP hD [0, 1, 2] [3] rfl rfl (by decide) (by decide) hk1 hFc hP1 hD1
  generalize H1 = H at hP hS ⊢
  obtain rfl : r1 = zi (ru - 1) := hw
  have hP : va_P (dC, dI) vwCl [(qo, aL cL 1 of), (h0, .inr (4, [.ref qs, .ref qr, .ref qm, .ref qw, .ref qt, .int (zi we)])), (qr, .inr (0, [.int (zi (mc + 1)), .ref qe, .int (zi (ru - 1))])), (qe, aR cO cap eg_2)] H := hP
  have hD : va_D A [(qo, aL cL 1 of), (h0, .inr (4, [.ref qs, .ref qr, .ref qm, .ref qw, .ref qt, .int (zi we)])), (qr, .inr (0, [.int (zi (mc + 1)), .ref qe, .int (zi (ru - 1))])), (qe, aR cO cap eg_2)] := hD
  refine zw_i2l hx hb dL_noHoliday_7 ⟨by omega, by omega⟩ ?_
  refine zw_last hx hb hK hP hD hS 0 1 rfl rfl (by omega) (by omega) ⟨by omega, by omega⟩ dL_noHoliday_8 (fun H locs hP hD hS => ?_)
  have hP : va_P (dC, dI) vwCl [(qo, aL cL 1 (zup of (Int.toNat 0) (ru - 1))), (h0, .inr (4, [.ref qs, .ref qr, .ref qm, .ref qw, .ref qt, .int (zi we)])), (qr, .inr (0, [.int (zi (mc + 1)), .ref qe, .int (zi (ru - 1))])), (qe, aR cO cap eg_2)] H := hP
  have hD : va_D A [(qo, aL cL 1 (zup of (Int.toNat 0) (ru - 1))), (h0, .inr (4, [.ref qs, .ref qr, .ref qm, .ref qw, .ref qt, .int (zi we)])), (qr, .inr (0, [.int (zi (mc + 1)), .ref qe, .int (zi (ru - 1))])), (qe, aR cO cap eg_2)] := hD
  refine lv_goto (tgt := 15) hx hb dL_noHoliday_9 (by decide) ?_
  refine zw_iconst hx hb dL_noHoliday_15 ?_
  have hP9 := hP.sub (ws' := [(h0, .inr (4, [.ref qs, .ref qr, .ref qm, .ref qw, .ref qt, .int (zi we)])), (qr, .inr (0, [.int (zi (mc + 1)), .ref qe, .int (zi (ru - 1))])), (qe, aR cO cap eg_2), (qo, aL cL 1 (zup of (Int.toNat 0) (ru - 1)))]) [1, 2, 3, 0] rfl
  have hD9 := hD.sub (ws' := [(h0, .inr (4, [.ref qs, .ref qr, .ref qm, .ref qw, .ref qt, .int (zi we)])), (qr, .inr (0, [.int (zi (mc + 1)), .ref qe, .int (zi (ru - 1))])), (qe, aR cO cap eg_2), (qo, aL cL 1 (zup of (Int.toNat 0) (ru - 1)))]) [1, 2, 3, 0] (by decide) rfl
  have hp9 : ∀ j : Nat, (j : Int) < ru - 1 → eg_2 j = if (j : Int) < ix then ef j else ef (j + 1) := by
    assumption
  exact W.iret (v := zi 0) hx hb hr (fun t ht hW => ⟨⟨zi 0, eg_2, rfl, ⟨rfl, hp9⟩, by rw [ht]; exact hP9, va_K.moved hW.alike hK, hD9⟩, hS.F ht⟩) hS.2.2 dL_noHoliday_16

set_option maxHeartbeats 4000000 in
set_option maxRecDepth 100000 in
theorem c_L_read_1 (l : Launch) (hst : l.stackTraces = false) (dC : Nat → ClassId) (dI : Nat → Nat → Nat) (cI : ClassId) (cL : ClassId) (cO : ClassId) (h0 : Nat) (qs : Nat) (qr : Nat) (qm : Nat) (qw : Nat) (qt : Nat) (we : Int) (qo : Nat) (of : Nat → Int) (sl : Int) (sz : Nat) (hp0 : -2147483648 ≤ sl ∧ sl ≤ 2147483647) (hp1 : sl < 0 ∨ 9 < sl) : Met l yL_read wsL_read ({ frames := 8, cells := 1, slots := 6, locals := 133 }) (zPx (dC, dI) [(cI, .int), (cL, .long), (cO, .object "java/lang/Object")] sz [.ref h0, .int (zi sl), .ref qo] [(h0, .inr (4, [.ref qs, .ref qr, .ref qm, .ref qw, .ref qt, .int (zi we)])), (qo, aL cL 1 of)]) (va_Qi (fun (r : Int32) (_ : Unit) => r = zi 1) (zB (dC, dI) [(cI, .int), (cL, .long), (cO, .object "java/lang/Object")] (va_A [(h0, .inr (4, [.ref qs, .ref qr, .ref qm, .ref qw, .ref qt, .int (zi we)])), (qo, aL cL 1 of)] sz) [(h0, .inr (4, [.ref qs, .ref qr, .ref qm, .ref qw, .ref qt, .int (zi we)])), (qo, aL cL 1 of)]) (va_A [(h0, .inr (4, [.ref qs, .ref qr, .ref qm, .ref qw, .ref qt, .int (zi we)])), (qo, aL cL 1 of)] sz)) 1 6 (va_A [(h0, .inr (4, [.ref qs, .ref qr, .ref qm, .ref qw, .ref qt, .int (zi we)])), (qo, aL cL 1 of)] sz) := by
  refine va_MetW (hh := [(0, 9, 12, 13)]) (cc := cL_read) (maxL := 4) (ret := (some .int)) (by decide) rfl ?_
  intro p e s m args below meth c s₁ B hml hv
  obtain ⟨rfl, hsz, hE, hP, hK, hD0⟩ := hv
  have hx := B.exec
  have hb := B.bytes
  have hr := B.returns
  have hts := atoms_spec (ws := wsL_read) B.pre
  have hown : s.vm.findClass RL = some m.cls := findClass_of_methodNamed B.named
  have hlocks := B.notSynchronized
  have hex : c.exceptionTable.toList = [⟨0, 9, 12, 13⟩] := vx_table (x := yL_read) B (hts _ List.mem_cons_self)
  subst hsz
  have hD := hD0.self (sz := s.heap.size)
  generalize hAe : va_A [(h0, .inr (4, [.ref qs, .ref qr, .ref qm, .ref qw, .ref qt, .int (zi we)])), (qo, aL cL 1 of)] s.heap.size = A at hD ⊢
  have hA : ∀ q : Nat, s.heap.size ≤ q → A q := fun q h => by rw [← hAe]; exact Or.inr h
  have hS : va_S A s.heap s.heap [] := va_S.rf
  have hP : va_P (dC, dI) vwCl [(h0, .inr (4, [.ref qs, .ref qr, .ref qm, .ref qw, .ref qt, .int (zi we)])), (qo, aL cL 1 of)] s.heap := hP
  have hl := lv_entry ([.ref h0, .int (zi sl), .ref qo]) (n := 4) (Nat.le_of_ble_eq_true rfl)
  rw [lg_entry_eq]
  generalize (lg_sl ([.ref h0, .int (zi sl), .ref qo]) ++ List.replicate (4 - (lg_sl ([.ref h0, .int (zi sl), .ref qo])).length) Slot.unset).toArray = ls at hl ⊢
  have hl : lv_has ls 4 [(0, .ref h0), (1, .int (zi sl)), (2, .ref qo)] := hl
  refine lv_aload_n hx hb dL_read_0 rfl (lv_at hl 2 rfl) ?_
  refine zw_iconst hx hb dL_read_1 ?_
  refine lv_aload_n hx hb dL_read_2 rfl (lv_at hl 0 rfl) ?_
  refine lv_iload_n hx hb dL_read_3 rfl (lv_at hl 1 rfl) ?_
  have hh1 := t_X4_read l hst h0 sl (by first | exact hp0 | omega) (by first | exact hp1 | omega)
  refine zt_catch (own := RL) (name := "java/lang/IndexOutOfBoundsException") (vx_runV (As := [.int (zi sl)]) (rest := [.int (zi 0), .ref qo]) ⟨hx, hb, hml, hown, hts⟩ hh1 (cwV 1 hts gL_read_X4_read rfl rfl rfl (by decide +kernel) ⟨Nat.le_of_ble_eq_true rfl, Nat.le_of_ble_eq_true rfl⟩) ⟨zP.blind _, va_recv hK hP (ci := 4) (q0 := 0) rfl rfl, fun U hU hW => ⟨rfl, hE.call va_S.rf (fun q h => by rw [hU] at h; exact h) hU hW⟩⟩ rfl rfl hl.1 rfl (lv_room (Nat.le_of_ble_eq_true rfl)) dL_read_4 ⟨Nat.le_of_ble_eq_true rfl, Nat.le_of_ble_eq_true rfl⟩) hown [] ⟨0, 9, 12, 13⟩ [] hex (List.forall_mem_nil _) (by decide) (by decide) (hts (.classLink RL 13 "java/lang/IndexOutOfBoundsException") (by decide +kernel)) (va_any rfl (hE.2.2.1 (.castable "java/lang/IndexOutOfBoundsException" "java/lang/IndexOutOfBoundsException") (by decide +kernel))) (fun qx H1 hz1 hk1 => ?_)
  have hP : va_P (dC, dI) vwCl [(h0, .inr (4, [.ref qs, .ref qr, .ref qm, .ref qw, .ref qt, .int (zi we)])), (qo, aL cL 1 of)] H1 := zk_world hP hk1
  have hS : va_S A s.heap H1 [] := zk_S hz1 hk1
  refine lv_astore_n (lv' := [(3, .ref qx), (0, .ref h0), (1, .int (zi sl)), (2, .ref qo)]) hx hb dL_read_12 rfl hl (by decide) rfl (fun ls hl => ?_)
  refine zw_iconst hx hb dL_read_13 ?_
  have hP9 := hP.sub (ws' := [(h0, .inr (4, [.ref qs, .ref qr, .ref qm, .ref qw, .ref qt, .int (zi we)])), (qo, aL cL 1 of)]) [0, 1] rfl
  have hD9 := hD.sub (ws' := [(h0, .inr (4, [.ref qs, .ref qr, .ref qm, .ref qw, .ref qt, .int (zi we)])), (qo, aL cL 1 of)]) [0, 1] (by decide) rfl
  exact W.iret (v := zi 1) hx hb hr (fun t ht hW => ⟨⟨zi 1, (), rfl, rfl, by rw [ht]; exact hP9, va_K.moved hW.alike hK, hD9⟩, hS.F ht⟩) hS.2.2 dL_read_14

set_option maxHeartbeats 4000000 in
set_option maxRecDepth 100000 in
theorem c_L_read_n (l : Launch)  (dC : Nat → ClassId) (dI : Nat → Nat → Nat) (cI : ClassId) (cL : ClassId) (cO : ClassId) (h0 : Nat) (qs : Nat) (qr : Nat) (qm : Nat) (qw : Nat) (qt : Nat) (we : Int) (sf : Nat → Int) (tc : Nat) (tl : Int) (tf : Nat → Int) (qo : Nat) (of : Nat → Int) (sl : Int) (x0 : Nat) (v0 : Nat) (x1 : Nat) (v1 : Nat) (x2 : Nat) (v2 : Nat) (qy : Option Nat) (sz : Nat) (hp0 : 0 ≤ sl ∧ sl ≤ 9) (hp1 : 0 ≤ tl ∧ tl ≤ 20) (hp2 : ∀ j : Nat, 0 ≤ tf j ∧ tf j ≤ 126) (hp3 : (f_X4_typedText tf tl) < 0) : Met l yL_read wsL_read ({ frames := 7, cells := 0, slots := 0, locals := 155 }) (zPwF (dC, dI) [(cI, .int), (cL, .long), (cO, .object "java/lang/Object")] sz [.ref h0, .int (zi sl), .ref qo] [(h0, .inr (4, [.ref qs, .ref qr, .ref qm, .ref qw, .ref qt, .int (zi we)])), (qs, aI cI 10 sf), (qt, .inr (1, [.ref tc, .int (zi tl)])), (tc, aI cI 20 tf), (qo, aL cL 1 of)] (zP3 x0 v0 x1 v1 x2 v2 qy)) (va_Qi (fun (r : Int32) (_ : Unit) => r = zi 0) (zB (dC, dI) [(cI, .int), (cL, .long), (cO, .object "java/lang/Object")] (va_A [(h0, .inr (4, [.ref qs, .ref qr, .ref qm, .ref qw, .ref qt, .int (zi we)])), (qs, aI cI 10 sf), (qt, .inr (1, [.ref tc, .int (zi tl)])), (tc, aI cI 20 tf), (qo, aL cL 1 of)] sz) [(h0, .inr (4, [.ref qs, .ref qr, .ref qm, .ref qw, .ref qt, .int (zi we)])), (qs, aI cI 10 sf), (qt, .inr (1, [.ref tc, .int (zi 0)])), (tc, aI cI 20 tf), (qo, aL cL 1 (zup of (Int.toNat 0) (f_X4_typedText tf tl)))]) (va_A [(h0, .inr (4, [.ref qs, .ref qr, .ref qm, .ref qw, .ref qt, .int (zi we)])), (qs, aI cI 10 sf), (qt, .inr (1, [.ref tc, .int (zi tl)])), (tc, aI cI 20 tf), (qo, aL cL 1 of)] sz)) 0 0 (va_A [(h0, .inr (4, [.ref qs, .ref qr, .ref qm, .ref qw, .ref qt, .int (zi we)])), (qs, aI cI 10 sf), (qt, .inr (1, [.ref tc, .int (zi tl)])), (tc, aI cI 20 tf), (qo, aL cL 1 of)] sz) := by
  refine va_MetW (hh := [(0, 9, 12, 13)]) (cc := cL_read) (maxL := 4) (ret := (some .int)) (by decide) rfl ?_
  intro p e s m args below meth c s₁ B hml hv
  obtain ⟨rfl, hsz, hP, hK, hD0, hG⟩ := hv
  have hx := B.exec
  have hb := B.bytes
  have hr := B.returns
  have hts := atoms_spec (ws := wsL_read) B.pre
  have hown : s.vm.findClass RL = some m.cls := findClass_of_methodNamed B.named
  have hlocks := B.notSynchronized
  subst hsz
  have hD := hD0.self (sz := s.heap.size)
  generalize hAe : va_A [(h0, .inr (4, [.ref qs, .ref qr, .ref qm, .ref qw, .ref qt, .int (zi we)])), (qs, aI cI 10 sf), (qt, .inr (1, [.ref tc, .int (zi tl)])), (tc, aI cI 20 tf), (qo, aL cL 1 of)] s.heap.size = A at hD hG ⊢
  have hA : ∀ q : Nat, s.heap.size ≤ q → A q := fun q h => by rw [← hAe]; exact Or.inr h
  have hS : va_S A s.heap s.heap [] := va_S.rf
  have hP : va_P (dC, dI) vwCl [(h0, .inr (4, [.ref qs, .ref qr, .ref qm, .ref qw, .ref qt, .int (zi we)])), (qs, aI cI 10 sf), (qt, .inr (1, [.ref tc, .int (zi tl)])), (tc, aI cI 20 tf), (qo, aL cL 1 of)] s.heap := hP
  have hl := lv_entry ([.ref h0, .int (zi sl), .ref qo]) (n := 4) (Nat.le_of_ble_eq_true rfl)
  rw [lg_entry_eq]
  generalize (lg_sl ([.ref h0, .int (zi sl), .ref qo]) ++ List.replicate (4 - (lg_sl ([.ref h0, .int (zi sl), .ref qo])).length) Slot.unset).toArray = ls at hl ⊢
  have hl : lv_has ls 4 [(0, .ref h0), (1, .int (zi sl)), (2, .ref qo)] := hl
  first | have hbt := b_X4_typedText tf tl (by omega) | skip
  refine lv_aload_n hx hb dL_read_0 rfl (lv_at hl 2 rfl) ?_
  refine zw_iconst hx hb dL_read_1 ?_
  refine lv_aload_n hx hb dL_read_2 rfl (lv_at hl 0 rfl) ?_
  refine lv_iload_n hx hb dL_read_3 rfl (lv_at hl 1 rfl) ?_
  have hh1 := c_X4_read_n l dC dI cI h0 qs qr qm qw qt we sf tc tl tf x0 v0 x1 v1 x2 v2 qy sl s.heap.size (by first | exact hp0 | omega) (by first | exact hp1 | omega) (by first | exact hp2 | omega) (by first | exact hp3 | omega)
  have hPc := hP.sub (ws' := [(h0, .inr (4, [.ref qs, .ref qr, .ref qm, .ref qw, .ref qt, .int (zi we)])), (qs, aI cI 10 sf), (qt, .inr (1, [.ref tc, .int (zi tl)])), (tc, aI cI 20 tf)]) [0, 1, 2, 3] rfl
  have hKc : va_K (dC, dI) vwCl [(cI, .int)] s := hK.sub (tys' := [(cI, .int)]) [0] rfl
  have hDc := hD.sub (ws' := [(h0, .inr (4, [.ref qs, .ref qr, .ref qm, .ref qw, .ref qt, .int (zi we)])), (qs, aI cI 10 sf), (qt, .inr (1, [.ref tc, .int (zi tl)])), (tc, aI cI 20 tf)]) [0, 1, 2, 3] (by decide) rfl
  have hFc := va_free (wc := [(h0, .inr (4, [.ref qs, .ref qr, .ref qm, .ref qw, .ref qt, .int (zi we)])), (qs, aI cI 10 sf), (qt, .inr (1, [.ref tc, .int (zi tl)])), (tc, aI cI 20 tf)]) hD hS hA [0, 1, 2, 3] rfl
  refine va_calli (va_runV (As := [.int (zi sl)]) (rest := [.int (zi 0), .ref qo]) ⟨hx, hb, hml, hown, hts⟩ hh1 (cwV 1 hts gL_read_X4_read rfl rfl rfl (by decide +kernel) ⟨Nat.le_of_ble_eq_true rfl, Nat.le_of_ble_eq_true rfl⟩) ⟨zPwF.blind _ _ _ _ _ zP3_ok, va_recv hKc hPc (ci := 4) (q0 := 0) rfl rfl, fun U hU hW => ⟨rfl, by rw [hU], by rw [hU]; exact hPc, va_K.moved hW.alike hKc, hDc.weaken (fun _ _ _ _ => trivial), zF.call zP3_ok hG hS hFc hU hW⟩⟩ rfl rfl hl.1 rfl (lv_room (Nat.le_of_ble_eq_true rfl)) dL_read_4 ⟨Nat.le_of_ble_eq_true rfl, Nat.le_of_ble_eq_true rfl⟩) hS (fun q _ h => hFc q h) hFc (fun r1 u t H1 locs ht hvm hw hB hz1 hk1 hS => ?_)
  obtain ⟨hP1, hK1, hD1⟩ := hB
  rw [ht] at hP1
  obtain ⟨hP, hD⟩ := va_join (wr := [(qo, aL cL 1 of)]) (w1 := [(h0, .inr (4, [.ref qs, .ref qr, .ref qm, .ref qw, .ref qt, .int (zi we)])), (qs, aI cI 10 sf), (qt, .inr (1, [.ref tc, .int (zi 0)])), (tc, aI cI 20 tf)]) hP hD [0, 1, 2, 3] [4] rfl rfl (by decide) (by decide) hk1 hFc hP1 hD1
  generalize H1 = H at hP hS ⊢
  obtain rfl : r1 = zi (f_X4_typedText tf tl) := hw
  have hP : va_P (dC, dI) vwCl [(qo, aL cL 1 of), (h0, .inr (4, [.ref qs, .ref qr, .ref qm, .ref qw, .ref qt, .int (zi we)])), (qs, aI cI 10 sf), (qt, .inr (1, [.ref tc, .int (zi 0)])), (tc, aI cI 20 tf)] H := hP
  have hD : va_D A [(qo, aL cL 1 of), (h0, .inr (4, [.ref qs, .ref qr, .ref qm, .ref qw, .ref qt, .int (zi we)])), (qs, aI cI 10 sf), (qt, .inr (1, [.ref tc, .int (zi 0)])), (tc, aI cI 20 tf)] := hD
  refine zw_i2l hx hb dL_read_7 ⟨by omega, by omega⟩ ?_
  refine zw_last hx hb hK hP hD hS 0 1 rfl rfl (by omega) (by omega) ⟨by omega, by omega⟩ dL_read_8 (fun H locs hP hD hS => ?_)
  have hP : va_P (dC, dI) vwCl [(qo, aL cL 1 (zup of (Int.toNat 0) (f_X4_typedText tf tl))), (h0, .inr (4, [.ref qs, .ref qr, .ref qm, .ref qw, .ref qt, .int (zi we)])), (qs, aI cI 10 sf), (qt, .inr (1, [.ref tc, .int (zi 0)])), (tc, aI cI 20 tf)] H := hP
  have hD : va_D A [(qo, aL cL 1 (zup of (Int.toNat 0) (f_X4_typedText tf tl))), (h0, .inr (4, [.ref qs, .ref qr, .ref qm, .ref qw, .ref qt, .int (zi we)])), (qs, aI cI 10 sf), (qt, .inr (1, [.ref tc, .int (zi 0)])), (tc, aI cI 20 tf)] := hD
  refine lv_goto (tgt := 15) hx hb dL_read_9 (by decide) ?_
  refine zw_iconst hx hb dL_read_15 ?_
  have hP9 := hP.sub (ws' := [(h0, .inr (4, [.ref qs, .ref qr, .ref qm, .ref qw, .ref qt, .int (zi we)])), (qs, aI cI 10 sf), (qt, .inr (1, [.ref tc, .int (zi 0)])), (tc, aI cI 20 tf), (qo, aL cL 1 (zup of (Int.toNat 0) (f_X4_typedText tf tl)))]) [1, 2, 3, 4, 0] rfl
  have hD9 := hD.sub (ws' := [(h0, .inr (4, [.ref qs, .ref qr, .ref qm, .ref qw, .ref qt, .int (zi we)])), (qs, aI cI 10 sf), (qt, .inr (1, [.ref tc, .int (zi 0)])), (tc, aI cI 20 tf), (qo, aL cL 1 (zup of (Int.toNat 0) (f_X4_typedText tf tl)))]) [1, 2, 3, 4, 0] (by decide) rfl
  exact W.iret (v := zi 0) hx hb hr (fun t ht hW => ⟨⟨zi 0, (), rfl, rfl, by rw [ht]; exact hP9, va_K.moved hW.alike hK, hD9⟩, hS.F ht⟩) hS.2.2 dL_read_16

set_option maxHeartbeats 4000000 in
set_option maxRecDepth 100000 in
theorem c_L_read_d (l : Launch)  (dC : Nat → ClassId) (dI : Nat → Nat → Nat) (cI : ClassId) (cL : ClassId) (cO : ClassId) (h0 : Nat) (qs : Nat) (qr : Nat) (qm : Nat) (qw : Nat) (qt : Nat) (we : Int) (sf : Nat → Int) (tc : Nat) (tl : Int) (tf : Nat → Int) (qo : Nat) (of : Nat → Int) (sl : Int) (x0 : Nat) (v0 : Nat) (x1 : Nat) (v1 : Nat) (x2 : Nat) (v2 : Nat) (qy : Option Nat) (sz : Nat) (hp0 : 0 ≤ sl ∧ sl ≤ 9) (hp1 : 0 ≤ tl ∧ tl ≤ 20) (hp2 : ∀ j : Nat, 0 ≤ tf j ∧ tf j ≤ 126) (hp3 : 0 ≤ (f_X4_typedText tf tl)) (hp4 : (f_X4_typedNumber tf (f_X4_typedText tf tl)) = -1) : Met l yL_read wsL_read ({ frames := 7, cells := 0, slots := 0, locals := 155 }) (zPwF (dC, dI) [(cI, .int), (cL, .long), (cO, .object "java/lang/Object")] sz [.ref h0, .int (zi sl), .ref qo] [(h0, .inr (4, [.ref qs, .ref qr, .ref qm, .ref qw, .ref qt, .int (zi we)])), (qs, aI cI 10 sf), (qt, .inr (1, [.ref tc, .int (zi tl)])), (tc, aI cI 20 tf), (qo, aL cL 1 of)] (zP3 x0 v0 x1 v1 x2 v2 qy)) (va_Qi (fun (r : Int32) (_ : Unit) => r = zi 0) (zB (dC, dI) [(cI, .int), (cL, .long), (cO, .object "java/lang/Object")] (va_A [(h0, .inr (4, [.ref qs, .ref qr, .ref qm, .ref qw, .ref qt, .int (zi we)])), (qs, aI cI 10 sf), (qt, .inr (1, [.ref tc, .int (zi tl)])), (tc, aI cI 20 tf), (qo, aL cL 1 of)] sz) [(h0, .inr (4, [.ref qs, .ref qr, .ref qm, .ref qw, .ref qt, .int (zi we)])), (qs, aI cI 10 sf), (qt, .inr (1, [.ref tc, .int (zi 0)])), (tc, aI cI 20 tf), (qo, aL cL 1 (zup of (Int.toNat 0) (-30)))]) (va_A [(h0, .inr (4, [.ref qs, .ref qr, .ref qm, .ref qw, .ref qt, .int (zi we)])), (qs, aI cI 10 sf), (qt, .inr (1, [.ref tc, .int (zi tl)])), (tc, aI cI 20 tf), (qo, aL cL 1 of)] sz)) 0 0 (va_A [(h0, .inr (4, [.ref qs, .ref qr, .ref qm, .ref qw, .ref qt, .int (zi we)])), (qs, aI cI 10 sf), (qt, .inr (1, [.ref tc, .int (zi tl)])), (tc, aI cI 20 tf), (qo, aL cL 1 of)] sz) := by
  refine va_MetW (hh := [(0, 9, 12, 13)]) (cc := cL_read) (maxL := 4) (ret := (some .int)) (by decide) rfl ?_
  intro p e s m args below meth c s₁ B hml hv
  obtain ⟨rfl, hsz, hP, hK, hD0, hG⟩ := hv
  have hx := B.exec
  have hb := B.bytes
  have hr := B.returns
  have hts := atoms_spec (ws := wsL_read) B.pre
  have hown : s.vm.findClass RL = some m.cls := findClass_of_methodNamed B.named
  have hlocks := B.notSynchronized
  subst hsz
  have hD := hD0.self (sz := s.heap.size)
  generalize hAe : va_A [(h0, .inr (4, [.ref qs, .ref qr, .ref qm, .ref qw, .ref qt, .int (zi we)])), (qs, aI cI 10 sf), (qt, .inr (1, [.ref tc, .int (zi tl)])), (tc, aI cI 20 tf), (qo, aL cL 1 of)] s.heap.size = A at hD hG ⊢
  have hA : ∀ q : Nat, s.heap.size ≤ q → A q := fun q h => by rw [← hAe]; exact Or.inr h
  have hS : va_S A s.heap s.heap [] := va_S.rf
  have hP : va_P (dC, dI) vwCl [(h0, .inr (4, [.ref qs, .ref qr, .ref qm, .ref qw, .ref qt, .int (zi we)])), (qs, aI cI 10 sf), (qt, .inr (1, [.ref tc, .int (zi tl)])), (tc, aI cI 20 tf), (qo, aL cL 1 of)] s.heap := hP
  have hl := lv_entry ([.ref h0, .int (zi sl), .ref qo]) (n := 4) (Nat.le_of_ble_eq_true rfl)
  rw [lg_entry_eq]
  generalize (lg_sl ([.ref h0, .int (zi sl), .ref qo]) ++ List.replicate (4 - (lg_sl ([.ref h0, .int (zi sl), .ref qo])).length) Slot.unset).toArray = ls at hl ⊢
  have hl : lv_has ls 4 [(0, .ref h0), (1, .int (zi sl)), (2, .ref qo)] := hl
  first | have hbt := b_X4_typedText tf tl (by omega) | skip
  refine lv_aload_n hx hb dL_read_0 rfl (lv_at hl 2 rfl) ?_
  refine zw_iconst hx hb dL_read_1 ?_
  refine lv_aload_n hx hb dL_read_2 rfl (lv_at hl 0 rfl) ?_
  refine lv_iload_n hx hb dL_read_3 rfl (lv_at hl 1 rfl) ?_
  have hh1 := c_X4_read_d l dC dI cI h0 qs qr qm qw qt we sf tc tl tf x0 v0 x1 v1 x2 v2 qy sl s.heap.size (by first | exact hp0 | omega) (by first | exact hp1 | omega) (by first | exact hp2 | omega) (by first | exact hp3 | omega) (by first | exact hp4 | omega)
  have hPc := hP.sub (ws' := [(h0, .inr (4, [.ref qs, .ref qr, .ref qm, .ref qw, .ref qt, .int (zi we)])), (qs, aI cI 10 sf), (qt, .inr (1, [.ref tc, .int (zi tl)])), (tc, aI cI 20 tf)]) [0, 1, 2, 3] rfl
  have hKc : va_K (dC, dI) vwCl [(cI, .int)] s := hK.sub (tys' := [(cI, .int)]) [0] rfl
  have hDc := hD.sub (ws' := [(h0, .inr (4, [.ref qs, .ref qr, .ref qm, .ref qw, .ref qt, .int (zi we)])), (qs, aI cI 10 sf), (qt, .inr (1, [.ref tc, .int (zi tl)])), (tc, aI cI 20 tf)]) [0, 1, 2, 3] (by decide) rfl
  have hFc := va_free (wc := [(h0, .inr (4, [.ref qs, .ref qr, .ref qm, .ref qw, .ref qt, .int (zi we)])), (qs, aI cI 10 sf), (qt, .inr (1, [.ref tc, .int (zi tl)])), (tc, aI cI 20 tf)]) hD hS hA [0, 1, 2, 3] rfl
  refine va_calli (va_runV (As := [.int (zi sl)]) (rest := [.int (zi 0), .ref qo]) ⟨hx, hb, hml, hown, hts⟩ hh1 (cwV 1 hts gL_read_X4_read rfl rfl rfl (by decide +kernel) ⟨Nat.le_of_ble_eq_true rfl, Nat.le_of_ble_eq_true rfl⟩) ⟨zPwF.blind _ _ _ _ _ zP3_ok, va_recv hKc hPc (ci := 4) (q0 := 0) rfl rfl, fun U hU hW => ⟨rfl, by rw [hU], by rw [hU]; exact hPc, va_K.moved hW.alike hKc, hDc.weaken (fun _ _ _ _ => trivial), zF.call zP3_ok hG hS hFc hU hW⟩⟩ rfl rfl hl.1 rfl (lv_room (Nat.le_of_ble_eq_true rfl)) dL_read_4 ⟨Nat.le_of_ble_eq_true rfl, Nat.le_of_ble_eq_true rfl⟩) hS (fun q _ h => hFc q h) hFc (fun r1 u t H1 locs ht hvm hw hB hz1 hk1 hS => ?_)
  obtain ⟨hP1, hK1, hD1⟩ := hB
  rw [ht] at hP1
  obtain ⟨hP, hD⟩ := va_join (wr := [(qo, aL cL 1 of)]) (w1 := [(h0, .inr (4, [.ref qs, .ref qr, .ref qm, .ref qw, .ref qt, .int (zi we)])), (qs, aI cI 10 sf), (qt, .inr (1, [.ref tc, .int (zi 0)])), (tc, aI cI 20 tf)]) hP hD [0, 1, 2, 3] [4] rfl rfl (by decide) (by decide) hk1 hFc hP1 hD1
  generalize H1 = H at hP hS ⊢
  obtain rfl : r1 = zi (-30) := hw
  have hP : va_P (dC, dI) vwCl [(qo, aL cL 1 of), (h0, .inr (4, [.ref qs, .ref qr, .ref qm, .ref qw, .ref qt, .int (zi we)])), (qs, aI cI 10 sf), (qt, .inr (1, [.ref tc, .int (zi 0)])), (tc, aI cI 20 tf)] H := hP
  have hD : va_D A [(qo, aL cL 1 of), (h0, .inr (4, [.ref qs, .ref qr, .ref qm, .ref qw, .ref qt, .int (zi we)])), (qs, aI cI 10 sf), (qt, .inr (1, [.ref tc, .int (zi 0)])), (tc, aI cI 20 tf)] := hD
  refine zw_i2l hx hb dL_read_7 ⟨by omega, by omega⟩ ?_
  refine zw_last hx hb hK hP hD hS 0 1 rfl rfl (by omega) (by omega) ⟨by omega, by omega⟩ dL_read_8 (fun H locs hP hD hS => ?_)
  have hP : va_P (dC, dI) vwCl [(qo, aL cL 1 (zup of (Int.toNat 0) (-30))), (h0, .inr (4, [.ref qs, .ref qr, .ref qm, .ref qw, .ref qt, .int (zi we)])), (qs, aI cI 10 sf), (qt, .inr (1, [.ref tc, .int (zi 0)])), (tc, aI cI 20 tf)] H := hP
  have hD : va_D A [(qo, aL cL 1 (zup of (Int.toNat 0) (-30))), (h0, .inr (4, [.ref qs, .ref qr, .ref qm, .ref qw, .ref qt, .int (zi we)])), (qs, aI cI 10 sf), (qt, .inr (1, [.ref tc, .int (zi 0)])), (tc, aI cI 20 tf)] := hD
  refine lv_goto (tgt := 15) hx hb dL_read_9 (by decide) ?_
  refine zw_iconst hx hb dL_read_15 ?_
  have hP9 := hP.sub (ws' := [(h0, .inr (4, [.ref qs, .ref qr, .ref qm, .ref qw, .ref qt, .int (zi we)])), (qs, aI cI 10 sf), (qt, .inr (1, [.ref tc, .int (zi 0)])), (tc, aI cI 20 tf), (qo, aL cL 1 (zup of (Int.toNat 0) (-30)))]) [1, 2, 3, 4, 0] rfl
  have hD9 := hD.sub (ws' := [(h0, .inr (4, [.ref qs, .ref qr, .ref qm, .ref qw, .ref qt, .int (zi we)])), (qs, aI cI 10 sf), (qt, .inr (1, [.ref tc, .int (zi 0)])), (tc, aI cI 20 tf), (qo, aL cL 1 (zup of (Int.toNat 0) (-30)))]) [1, 2, 3, 4, 0] (by decide) rfl
  exact W.iret (v := zi 0) hx hb hr (fun t ht hW => ⟨⟨zi 0, (), rfl, rfl, by rw [ht]; exact hP9, va_K.moved hW.alike hK, hD9⟩, hS.F ht⟩) hS.2.2 dL_read_16

set_option maxHeartbeats 4000000 in
set_option maxRecDepth 100000 in
theorem c_L_read_ok (l : Launch)  (dC : Nat → ClassId) (dI : Nat → Nat → Nat) (cI : ClassId) (cL : ClassId) (cO : ClassId) (h0 : Nat) (qs : Nat) (qr : Nat) (qm : Nat) (qw : Nat) (qt : Nat) (we : Int) (sf : Nat → Int) (tc : Nat) (tl : Int) (tf : Nat → Int) (qo : Nat) (of : Nat → Int) (sl : Int) (x0 : Nat) (v0 : Nat) (x1 : Nat) (v1 : Nat) (x2 : Nat) (v2 : Nat) (qy : Option Nat) (sz : Nat) (hp0 : 0 ≤ sl ∧ sl ≤ 9) (hp1 : 0 ≤ tl ∧ tl ≤ 20) (hp2 : ∀ j : Nat, 0 ≤ tf j ∧ tf j ≤ 126) (hp3 : 0 ≤ (f_X4_typedText tf tl)) (hp4 : (f_X4_typedNumber tf (f_X4_typedText tf tl)) ≠ -1) : Met l yL_read wsL_read ({ frames := 7, cells := 0, slots := 0, locals := 155 }) (zPwF (dC, dI) [(cI, .int), (cL, .long), (cO, .object "java/lang/Object")] sz [.ref h0, .int (zi sl), .ref qo] [(h0, .inr (4, [.ref qs, .ref qr, .ref qm, .ref qw, .ref qt, .int (zi we)])), (qs, aI cI 10 sf), (qt, .inr (1, [.ref tc, .int (zi tl)])), (tc, aI cI 20 tf), (qo, aL cL 1 of)] (zP3 x0 v0 x1 v1 x2 v2 qy)) (va_Qi (fun (r : Int32) (_ : Unit) => r = zi 0) (zB (dC, dI) [(cI, .int), (cL, .long), (cO, .object "java/lang/Object")] (va_A [(h0, .inr (4, [.ref qs, .ref qr, .ref qm, .ref qw, .ref qt, .int (zi we)])), (qs, aI cI 10 sf), (qt, .inr (1, [.ref tc, .int (zi tl)])), (tc, aI cI 20 tf), (qo, aL cL 1 of)] sz) [(h0, .inr (4, [.ref qs, .ref qr, .ref qm, .ref qw, .ref qt, .int (zi we)])), (qs, aI cI 10 (zup sf sl.toNat (f_X4_typedNumber tf (f_X4_typedText tf tl)))), (qt, .inr (1, [.ref tc, .int (zi 0)])), (tc, aI cI 20 tf), (qo, aL cL 1 (zup of (Int.toNat 0) (f_X4_typedText tf tl)))]) (va_A [(h0, .inr (4, [.ref qs, .ref qr, .ref qm, .ref qw, .ref qt, .int (zi we)])), (qs, aI cI 10 sf), (qt, .inr (1, [.ref tc, .int (zi tl)])), (tc, aI cI 20 tf), (qo, aL cL 1 of)] sz)) 0 0 (va_A [(h0, .inr (4, [.ref qs, .ref qr, .ref qm, .ref qw, .ref qt, .int (zi we)])), (qs, aI cI 10 sf), (qt, .inr (1, [.ref tc, .int (zi tl)])), (tc, aI cI 20 tf), (qo, aL cL 1 of)] sz) := by
  refine va_MetW (hh := [(0, 9, 12, 13)]) (cc := cL_read) (maxL := 4) (ret := (some .int)) (by decide) rfl ?_
  intro p e s m args below meth c s₁ B hml hv
  obtain ⟨rfl, hsz, hP, hK, hD0, hG⟩ := hv
  have hx := B.exec
  have hb := B.bytes
  have hr := B.returns
  have hts := atoms_spec (ws := wsL_read) B.pre
  have hown : s.vm.findClass RL = some m.cls := findClass_of_methodNamed B.named
  have hlocks := B.notSynchronized
  subst hsz
  have hD := hD0.self (sz := s.heap.size)
  generalize hAe : va_A [(h0, .inr (4, [.ref qs, .ref qr, .ref qm, .ref qw, .ref qt, .int (zi we)])), (qs, aI cI 10 sf), (qt, .inr (1, [.ref tc, .int (zi tl)])), (tc, aI cI 20 tf), (qo, aL cL 1 of)] s.heap.size = A at hD hG ⊢
  have hA : ∀ q : Nat, s.heap.size ≤ q → A q := fun q h => by rw [← hAe]; exact Or.inr h
  have hS : va_S A s.heap s.heap [] := va_S.rf
  have hP : va_P (dC, dI) vwCl [(h0, .inr (4, [.ref qs, .ref qr, .ref qm, .ref qw, .ref qt, .int (zi we)])), (qs, aI cI 10 sf), (qt, .inr (1, [.ref tc, .int (zi tl)])), (tc, aI cI 20 tf), (qo, aL cL 1 of)] s.heap := hP
  have hl := lv_entry ([.ref h0, .int (zi sl), .ref qo]) (n := 4) (Nat.le_of_ble_eq_true rfl)
  rw [lg_entry_eq]
  generalize (lg_sl ([.ref h0, .int (zi sl), .ref qo]) ++ List.replicate (4 - (lg_sl ([.ref h0, .int (zi sl), .ref qo])).length) Slot.unset).toArray = ls at hl ⊢
  have hl : lv_has ls 4 [(0, .ref h0), (1, .int (zi sl)), (2, .ref qo)] := hl
  first | have hbt := b_X4_typedText tf tl (by omega) | skip
  refine lv_aload_n hx hb dL_read_0 rfl (lv_at hl 2 rfl) ?_
  refine zw_iconst hx hb dL_read_1 ?_
  refine lv_aload_n hx hb dL_read_2 rfl (lv_at hl 0 rfl) ?_
  refine lv_iload_n hx hb dL_read_3 rfl (lv_at hl 1 rfl) ?_
  have hh1 := c_X4_read l dC dI cI h0 qs qr qm qw qt we sf tc tl tf x0 v0 x1 v1 x2 v2 qy sl s.heap.size (by first | exact hp0 | omega) (by first | exact hp1 | omega) (by first | exact hp2 | omega) (by first | exact hp3 | omega) (by first | exact hp4 | omega)
  have hPc := hP.sub (ws' := [(h0, .inr (4, [.ref qs, .ref qr, .ref qm, .ref qw, .ref qt, .int (zi we)])), (qs, aI cI 10 sf), (qt, .inr (1, [.ref tc, .int (zi tl)])), (tc, aI cI 20 tf)]) [0, 1, 2, 3] rfl
  have hKc : va_K (dC, dI) vwCl [(cI, .int)] s := hK.sub (tys' := [(cI, .int)]) [0] rfl
  have hDc := hD.sub (ws' := [(h0, .inr (4, [.ref qs, .ref qr, .ref qm, .ref qw, .ref qt, .int (zi we)])), (qs, aI cI 10 sf), (qt, .inr (1, [.ref tc, .int (zi tl)])), (tc, aI cI 20 tf)]) [0, 1, 2, 3] (by decide) rfl
  have hFc := va_free (wc := [(h0, .inr (4, [.ref qs, .ref qr, .ref qm, .ref qw, .ref qt, .int (zi we)])), (qs, aI cI 10 sf), (qt, .inr (1, [.ref tc, .int (zi tl)])), (tc, aI cI 20 tf)]) hD hS hA [0, 1, 2, 3] rfl
  refine va_calli (va_runV (As := [.int (zi sl)]) (rest := [.int (zi 0), .ref qo]) ⟨hx, hb, hml, hown, hts⟩ hh1 (cwV 1 hts gL_read_X4_read rfl rfl rfl (by decide +kernel) ⟨Nat.le_of_ble_eq_true rfl, Nat.le_of_ble_eq_true rfl⟩) ⟨zPwF.blind _ _ _ _ _ zP3_ok, va_recv hKc hPc (ci := 4) (q0 := 0) rfl rfl, fun U hU hW => ⟨rfl, by rw [hU], by rw [hU]; exact hPc, va_K.moved hW.alike hKc, hDc.weaken (fun _ _ _ _ => trivial), zF.call zP3_ok hG hS hFc hU hW⟩⟩ rfl rfl hl.1 rfl (lv_room (Nat.le_of_ble_eq_true rfl)) dL_read_4 ⟨Nat.le_of_ble_eq_true rfl, Nat.le_of_ble_eq_true rfl⟩) hS (fun q _ h => hFc q h) hFc (fun r1 u t H1 locs ht hvm hw hB hz1 hk1 hS => ?_)
  obtain ⟨hP1, hK1, hD1⟩ := hB
  rw [ht] at hP1
  obtain ⟨hP, hD⟩ := va_join (wr := [(qo, aL cL 1 of)]) (w1 := [(h0, .inr (4, [.ref qs, .ref qr, .ref qm, .ref qw, .ref qt, .int (zi we)])), (qs, aI cI 10 (zup sf sl.toNat (f_X4_typedNumber tf (f_X4_typedText tf tl)))), (qt, .inr (1, [.ref tc, .int (zi 0)])), (tc, aI cI 20 tf)]) hP hD [0, 1, 2, 3] [4] rfl rfl (by decide) (by decide) hk1 hFc hP1 hD1
  generalize H1 = H at hP hS ⊢
  obtain rfl : r1 = zi (f_X4_typedText tf tl) := hw
  have hP : va_P (dC, dI) vwCl [(qo, aL cL 1 of), (h0, .inr (4, [.ref qs, .ref qr, .ref qm, .ref qw, .ref qt, .int (zi we)])), (qs, aI cI 10 (zup sf sl.toNat (f_X4_typedNumber tf (f_X4_typedText tf tl)))), (qt, .inr (1, [.ref tc, .int (zi 0)])), (tc, aI cI 20 tf)] H := hP
  have hD : va_D A [(qo, aL cL 1 of), (h0, .inr (4, [.ref qs, .ref qr, .ref qm, .ref qw, .ref qt, .int (zi we)])), (qs, aI cI 10 (zup sf sl.toNat (f_X4_typedNumber tf (f_X4_typedText tf tl)))), (qt, .inr (1, [.ref tc, .int (zi 0)])), (tc, aI cI 20 tf)] := hD
  refine zw_i2l hx hb dL_read_7 ⟨by omega, by omega⟩ ?_
  refine zw_last hx hb hK hP hD hS 0 1 rfl rfl (by omega) (by omega) ⟨by omega, by omega⟩ dL_read_8 (fun H locs hP hD hS => ?_)
  have hP : va_P (dC, dI) vwCl [(qo, aL cL 1 (zup of (Int.toNat 0) (f_X4_typedText tf tl))), (h0, .inr (4, [.ref qs, .ref qr, .ref qm, .ref qw, .ref qt, .int (zi we)])), (qs, aI cI 10 (zup sf sl.toNat (f_X4_typedNumber tf (f_X4_typedText tf tl)))), (qt, .inr (1, [.ref tc, .int (zi 0)])), (tc, aI cI 20 tf)] H := hP
  have hD : va_D A [(qo, aL cL 1 (zup of (Int.toNat 0) (f_X4_typedText tf tl))), (h0, .inr (4, [.ref qs, .ref qr, .ref qm, .ref qw, .ref qt, .int (zi we)])), (qs, aI cI 10 (zup sf sl.toNat (f_X4_typedNumber tf (f_X4_typedText tf tl)))), (qt, .inr (1, [.ref tc, .int (zi 0)])), (tc, aI cI 20 tf)] := hD
  refine lv_goto (tgt := 15) hx hb dL_read_9 (by decide) ?_
  refine zw_iconst hx hb dL_read_15 ?_
  have hP9 := hP.sub (ws' := [(h0, .inr (4, [.ref qs, .ref qr, .ref qm, .ref qw, .ref qt, .int (zi we)])), (qs, aI cI 10 (zup sf sl.toNat (f_X4_typedNumber tf (f_X4_typedText tf tl)))), (qt, .inr (1, [.ref tc, .int (zi 0)])), (tc, aI cI 20 tf), (qo, aL cL 1 (zup of (Int.toNat 0) (f_X4_typedText tf tl)))]) [1, 2, 3, 4, 0] rfl
  have hD9 := hD.sub (ws' := [(h0, .inr (4, [.ref qs, .ref qr, .ref qm, .ref qw, .ref qt, .int (zi we)])), (qs, aI cI 10 (zup sf sl.toNat (f_X4_typedNumber tf (f_X4_typedText tf tl)))), (qt, .inr (1, [.ref tc, .int (zi 0)])), (tc, aI cI 20 tf), (qo, aL cL 1 (zup of (Int.toNat 0) (f_X4_typedText tf tl)))]) [1, 2, 3, 4, 0] (by decide) rfl
  exact W.iret (v := zi 0) hx hb hr (fun t ht hW => ⟨⟨zi 0, (), rfl, rfl, by rw [ht]; exact hP9, va_K.moved hW.alike hK, hD9⟩, hS.F ht⟩) hS.2.2 dL_read_16
