/-! THE LIST: ROWS, AND WHAT IT NEEDS OF THE START -/
def zO (qd mi : Nat) (A : Nat → Prop) (U : State) (H : Heap) : Prop :=
  va_Z "java/util/ArrayList" "DEFAULTCAPACITY_EMPTY_ELEMENTDATA" "[Ljava/lang/Object;" (.ref qd) A U H ∧ va_AO "java/lang/Object" U ∧ va_Mi "[Ljava/lang/Object;" mi U ∧ va_Dc U ∧ va_Nw (.castable "CivilDays$Rule" "java/lang/Object") U ∧ va_Nw (.methodLinkNest RX4 22 yX2_init RX4) U ∧ va_Nw (.methodLinkNest RX4 29 yX1_init RX4) U
theorem zNw_c {x y : String} {u U : State} (hvm : u.vm.Alike U.vm) (h : va_Nw (.castable x y) u) : va_Nw (.castable x y) U := by
  have tr : ∀ {c : Cond}, c.onTables = true → c.before #[] (u.setVm U.vm) = true → c.before #[] U = true := by
    intro c hc h
    have e := Cond.onTables_vm (A := #[]) (A' := #[]) (U := u) (U' := U) U.vm c hc
    have hU : U.setVm U.vm = U := rfl
    rw [hU] at e
    rw [← e]
    exact h
  refine tr rfl ?_
  rw [Cond.castable_setVm hvm]
  exact h
theorem zDc {u U : State} (hvm : u.vm.Alike U.vm) (h : va_Dc u) : va_Dc U := by
  have tr : ∀ {c : Cond}, c.onTables = true → c.before #[] (u.setVm U.vm) = true → c.before #[] U = true := by
    intro c hc h
    have e := Cond.onTables_vm (A := #[]) (A' := #[]) (U := u) (U' := U) U.vm c hc
    have hU : U.setVm U.vm = U := rfl
    rw [hU] at e
    rw [← e]
    exact h
  refine tr rfl ?_
  rw [Cond.declares_setVm hvm]
  exact h
theorem zO_ok {qd mi : Nat} : zF (zO qd mi) := by
  refine ⟨fun A s U H hW h => ?_, fun A s U H hv h => ?_, fun A U H H1 hq h => ?_, fun A B U H hAB h => ?_⟩
  · obtain ⟨h1, h2, h3, h4, h5, h6, h7⟩ := h
    exact ⟨h1.moved hW.alike, h2.moved hW.alike, h3.moved hW.alike, zDc hW.alike h4, zNw_c hW.alike h5, h6.warmM hW, h7.warmM hW⟩
  · obtain ⟨h1, h2, h3, h4, h5, h6, h7⟩ := h
    have ha : s.vm.Alike U.vm := by rw [hv]; exact Vm.Alike.refl s.vm
    exact ⟨h1.moved ha, h2.moved ha, h3.moved ha, zDc ha h4, zNw_c ha h5, h6.same rfl hv.symm, h7.same rfl hv.symm⟩
  · obtain ⟨h1, h2⟩ := h
    exact ⟨h1.kept hq, h2⟩
  · obtain ⟨h1, h2⟩ := h
    exact ⟨h1.narrow hAB, h2⟩
def zRO (D : va_G) (ru : Int) (rf : Nat → Nat) (kf af bf zf : Nat → Int) (qd mi : Nat) (A : Nat → Prop) (U : State) (H : Heap) : Prop := zRu D ru rf kf af bf zf A U H ∧ zO qd mi A U H
theorem zRO_ok {D : va_G} {ru : Int} {rf : Nat → Nat} {kf af bf zf : Nat → Int} {qd mi : Nat} : zF (zRO D ru rf kf af bf zf qd mi) := zF.and zRu_ok zO_ok
section ZRO
variable {D : va_G} {ru : Int} {rf : Nat → Nat} {kf af bf zf : Nat → Int} {qd mi : Nat} {A : Nat → Prop} {s : State} {H0 : Heap}
theorem zRO_z (h : zRO D ru rf kf af bf zf qd mi A s H0) : va_Z "java/util/ArrayList" "DEFAULTCAPACITY_EMPTY_ELEMENTDATA" "[Ljava/lang/Object;" (.ref qd) A s H0 := h.2.1
theorem zRO_a (h : zRO D ru rf kf af bf zf qd mi A s H0) : va_AO "java/lang/Object" s := h.2.2.1
theorem zRO_m (h : zRO D ru rf kf af bf zf qd mi A s H0) : va_Mi "[Ljava/lang/Object;" mi s := h.2.2.2.1
theorem zRO_d {args : Array Value} (h : zRO D ru rf kf af bf zf qd mi A s H0) : (Cond.declares ⟨"java/lang/Object", "getClass", "()Ljava/lang/Class;"⟩).before args s = true := va_any rfl h.2.2.2.2.1
theorem zRO_c (h : zRO D ru rf kf af bf zf qd mi A s H0) : ∀ comp c0 : ClassId, s.vm.findClass "java/lang/Object" = some comp → s.vm.findClass "CivilDays$Rule" = some c0 → s.vm.assignable c0 comp = true := by
  intro comp c0 h1 h2
  obtain ⟨c, t, g1, g2, g3⟩ := Cond.castable_spec h.2.2.2.2.2.1
  cases Option.some.inj (g1.symm.trans h2)
  cases Option.some.inj (g2.symm.trans h1)
  exact g3
theorem zRO_n22 (h : zRO D ru rf kf af bf zf qd mi A s H0) : va_Nw (.methodLinkNest RX4 22 yX2_init RX4) s := h.2.2.2.2.2.2.1
theorem zRO_n29 (h : zRO D ru rf kf af bf zf qd mi A s H0) : va_Nw (.methodLinkNest RX4 29 yX1_init RX4) s := h.2.2.2.2.2.2.2
theorem zRO_el {tys : List (ClassId × FieldType)} {H : Heap} {locs : List Loc} {ef : Nat → Option Nat} (hG : zRO D ru rf kf af bf zf qd mi A s s.heap) (hS : va_S A s.heap H locs) (hK : va_K D vwCl tys s) (hef : ∀ j : Nat, (j : Int) < ru → ef j = some (rf j)) {j y : Nat} (hj : (j : Int) < ru) (h : ef j = some y) : va_Any "java/lang/Object" s H y := by
  rw [hef j hj] at h
  cases h
  exact va_rAny hK (zRu_at hG.1 hS j hj).2 (q0 := 0) (ci := 3) rfl rfl (zRO_c hG)
end ZRO
theorem zK_same {D : va_G} {cl : List vw_C} {tys : List (ClassId × FieldType)} {s : State} {a b : ClassId} {ty : FieldType} (hK : va_K D cl tys s) (t0 t1 : Nat) (h0 : tys[t0]? = some (a, ty)) (h1 : tys[t1]? = some (b, ty)) : a = b := by
  have k0 := (hK.2 t0 _ h0).2
  have k1 := (hK.2 t1 _ h1).2
  cases ty with
  | object C =>
    obtain ⟨_, _, _, _, _, g0⟩ := k0
    obtain ⟨_, _, _, _, _, g1⟩ := k1
    exact Option.some.inj (g0.symm.trans g1)
  | array t => exact Option.some.inj (k0.symm.trans k1)
  | byte => exact Option.some.inj (k0.symm.trans k1)
  | char => exact Option.some.inj (k0.symm.trans k1)
  | double => exact Option.some.inj (k0.symm.trans k1)
  | float => exact Option.some.inj (k0.symm.trans k1)
  | int => exact Option.some.inj (k0.symm.trans k1)
  | long => exact Option.some.inj (k0.symm.trans k1)
  | short => exact Option.some.inj (k0.symm.trans k1)
  | boolean => exact Option.some.inj (k0.symm.trans k1)
theorem zK_arr {D : va_G} {cl : List vw_C} {tys : List (ClassId × FieldType)} {s : State} {H : Heap} {ws : va_W} {a : Nat} {cA : ClassId} {x : vp_A} (hK : va_K D cl tys s) (hP : va_P D cl ws H) (q0 t0 : Nat) (ha : ws[q0]? = some (a, .inl (cA, x))) (ht : tys[t0]? = some (cA, .object "java/lang/Object")) : ∃ cell : Cell, H[a]? = some cell ∧ cell.vm.isStatics = false ∧ s.vm.findClass "[Ljava/lang/Object;" = some cell.cls := by
  obtain ⟨_, _, _, _, _, g⟩ := (hK.2 t0 _ ht).2
  refine ⟨vp_cell cA x, hP q0 _ ha, ?_, ?_⟩
  · obtain ⟨n, x⟩ := x
    rcases x with x | x | x | x | x <;> rfl
  · obtain ⟨n, x⟩ := x
    rcases x with x | x | x | x | x <;> exact g
section ZLW
variable {p : Program} {l : Launch} {e : Env} {R : Room} {s : State} {m : MethodId} {args : Array Value} {below : List Frame} {meth : Method} {c : Code} {H H0 : Heap} {locs : List Loc} {cells slots : Nat} {Q : State → Prop} {cc : ByteArray} {pc : Nat} {ls : Array Slot} {rest : List Value} {D : va_G} {cl : List vw_C} {tys : List (ClassId × FieldType)} {ws : va_W} {A : Nat → Prop} {a : Nat}
theorem zi_ge {a : Int} (h0 : 0 ≤ a) (h : zI a) : ¬ zi a < 0 := fun q => zi_in (n := a.toNat + 1) h0 (by omega) h (Or.inl q)
theorem zw_objInit (hx : p.tables.exec = Jvm.exec) (hb : c.code = cc) {own : String} (hown : s.vm.findClass own = some m.cls) {idx : Nat} (hlink : (Cond.methodLink own idx objectInit).before args s = true) (hinst : (Cond.instanceMethod objectInit).before args s = true) (hcode : (Cond.code objectInit ⟨#[0xb1]⟩ 1 none).before args s = true) (hsize : ls.size = c.maxLocals) (hd : decode cc pc = .ok (.invokespecial idx, 3))
    (hframes : 1 ≤ R.frames) (hlocals : 2 * 0 + (rest.map fun v => v.category).sum + 12 ≤ R.locals) (k : W p l e R s m args below meth c H locs cells slots Q (F0 m (pc + 3) ls rest)) : W p l e R s m args below meth c H locs cells slots Q (F0 m pc ls (.ref a :: rest)) :=
  W.objInit hx hb hown hlink hinst hcode (g := F0 m pc ls (.ref a :: rest)) rfl hsize rfl hd hframes hlocals k
theorem zw_newq (hx : p.tables.exec = Jvm.exec) (hb : c.code = cc) {own C : String} {index : Nat} (hown : s.vm.findClass own = some m.cls) (hclink : (Cond.classLink own index C).before args s = true) (hover : va_AO C s) (hK : va_K D cl tys s) (hP : va_P D cl ws H) (hD : va_D A ws) (hS : va_S A H0 H locs) (hA : ∀ q, H0.size ≤ q → A q)
    {i : Int} {N9 : Nat} (hi : i = (N9 : Int)) (hN : N9 ≤ 1000) (hcells : cells + 1 ≤ R.cells) (hslots : slots + N9 ≤ R.slots) (hdg : decode cc pc = .ok (.anewarray index, 3))
    (kk : ∀ (q : Nat) (cA : ClassId) (H1 : Heap), va_K D cl (tys ++ [(cA, .object C)]) s → va_P D cl (ws ++ [(q, .inl (cA, N9, .inr (.inr (.inr (.inr (fun _ => none))))))]) H1 → va_D A (ws ++ [(q, .inl (cA, N9, .inr (.inr (.inr (.inr (fun _ => none))))))]) → va_S A H0 H1 locs →
      W p l e R s m args below meth c H1 locs (cells + 1) (slots + N9) Q (F0 m (pc + 3) ls (.ref q :: rest))) : W p l e R s m args below meth c H locs cells slots Q (F0 m pc ls (.int (zi i) :: rest)) := by
  have hz : zI i := ⟨by omega, by omega⟩
  exact va_newq hx hb hown hclink hover hK hP hD hS hA (zi_ge (by omega) hz) (by rw [zi_clamp (by omega) hz]; omega) (by omega) hcells hslots hdg kk
theorem zw_newI (hx : p.tables.exec = Jvm.exec) (hb : c.code = cc) (harr : (Cond.arrayClass .int).before args s = true) (hK : va_K D cl tys s) (hP : va_P D cl ws H) (hD : va_D A ws) (hS : va_S A H0 H locs) (hA : ∀ q, H0.size ≤ q → A q)
    {i : Int} {N9 : Nat} (hi : i = (N9 : Int)) (hN : N9 ≤ 1000) (hcells : cells + 1 ≤ R.cells) (hslots : slots + N9 ≤ R.slots) (hdg : decode cc pc = .ok (.newarray .int, 2))
    (kk : ∀ (q : Nat) (cA : ClassId) (H1 : Heap), va_K D cl (tys ++ [(cA, .int)]) s → va_P D cl (ws ++ [(q, aI cA N9 (fun _ => 0))]) H1 → va_D A (ws ++ [(q, aI cA N9 (fun _ => 0))]) → va_S A H0 H1 locs →
      W p l e R s m args below meth c H1 locs (cells + 1) (slots + N9) Q (F0 m (pc + 2) ls (.ref q :: rest))) : W p l e R s m args below meth c H locs cells slots Q (F0 m pc ls (.int (zi i) :: rest)) := by
  have hz : zI i := ⟨by omega, by omega⟩
  have hz0 : zi 0 = 0 := by decide
  have hf0 : (fun j : Nat => zi ((fun _ : Nat => (0 : Int)) j)) = fun _ : Nat => (0 : Int32) := by
    funext j
    exact hz0
  refine va_newa (atype := .int) (ty := .int) (a0 := (N9, .inl (fun _ => (0 : Int32)))) hx hb harr rfl hK hP hD hS hA (fun cA => vp_cell_i cA N9 _) (zi_ge (by omega) hz) (by rw [zi_clamp (by omega) hz]; omega) (by show N9 * 4 ≤ _; omega) hcells hslots hdg (fun q cA H1 h1 h2 h3 h4 => ?_)
  rw [← hf0] at h2 h3
  exact kk q cA H1 h1 h2 h3 h4
theorem zw_aast (hx : p.tables.exec = Jvm.exec) (hb : c.code = cc) (hK : va_K D cl tys s) (hP : va_P D cl ws H) (hD : va_D A ws) (hS : va_S A H0 H locs) (q0 t0 : Nat) {E : String} {cA : ClassId} {n v : Nat} {f : Nat → Option Nat} (ha : ws[q0]? = some (a, .inl (cA, n, .inr (.inr (.inr (.inr f)))))) (ht : tys[t0]? = some (cA, .object E)) (hr : va_Any E s H v) {i : Int} (h0 : 0 ≤ i) (h1 : i < n) (hi : zI i) (hd : decode cc pc = .ok (.aastore, 1))
    (k : ∀ (H1 : Heap) (locs1 : List Loc), va_P D cl (ws.set q0 (a, .inl (cA, n, .inr (.inr (.inr (.inr (va_up f i.toNat (some v)))))))) H1 → va_D A (ws.set q0 (a, .inl (cA, n, .inr (.inr (.inr (.inr (va_up f i.toNat (some v)))))))) → va_S A H0 H1 locs1 → W p l e R s m args below meth c H1 locs1 cells slots Q (F0 m (pc + 1) ls rest)) : W p l e R s m args below meth c H locs cells slots Q (F0 m pc ls (.ref v :: .int (zi i) :: .ref a :: rest)) := by
  refine va_astqM hx hb hK hP hD hS q0 t0 ha ht hr (zi_in h0 h1 hi) hd ?_
  rw [zi_clamp h0 hi]
  exact k
theorem zw_aastN (hx : p.tables.exec = Jvm.exec) (hb : c.code = cc) (hK : va_K D cl tys s) (hP : va_P D cl ws H) (hD : va_D A ws) (hS : va_S A H0 H locs) (q0 t0 : Nat) {E : String} {cA : ClassId} {n : Nat} {f : Nat → Option Nat} (ha : ws[q0]? = some (a, .inl (cA, n, .inr (.inr (.inr (.inr f)))))) (ht : tys[t0]? = some (cA, .object E)) {i : Int} (h0 : 0 ≤ i) (h1 : i < n) (hi : zI i) (hd : decode cc pc = .ok (.aastore, 1))
    (k : ∀ (H1 : Heap) (locs1 : List Loc), va_P D cl (ws.set q0 (a, .inl (cA, n, .inr (.inr (.inr (.inr (va_up f i.toNat none))))))) H1 → va_D A (ws.set q0 (a, .inl (cA, n, .inr (.inr (.inr (.inr (va_up f i.toNat none))))))) → va_S A H0 H1 locs1 → W p l e R s m args below meth c H1 locs1 cells slots Q (F0 m (pc + 1) ls rest)) : W p l e R s m args below meth c H locs cells slots Q (F0 m pc ls (.null :: .int (zi i) :: .ref a :: rest)) := by
  refine va_astqN hx hb hK hP hD hS q0 t0 ha ht (zi_in h0 h1 hi) hd ?_
  rw [zi_clamp h0 hi]
  exact k
theorem zw_copyM (hx : p.tables.exec = Jvm.exec) (hb : c.code = cc) (hml : c.maxLocals = ls.size) {own : String} {index : Nat} (hown : s.vm.findClass own = some m.cls) (hlink : (Cond.methodLink own index arraycopyName).before args s = true) (hnat : (Cond.native arraycopyName).before args s = true) (hstat : (Cond.static arraycopyName).before args s = true) (hini : (Cond.initialized "java/lang/System").before args s = true)
    (hK : va_K D cl tys s) (hP : va_P D cl ws H) (hD : va_D A ws) (hS : va_S A H0 H locs) (q0 q1 t0 t1 : Nat) {a0 : Nat} {c0 c1 : ClassId} {n0 n1 : Nat} {f g : Nat → Option Nat} {E0 E1 : String} (ha0 : ws[q0]? = some (a0, .inl (c0, n0, .inr (.inr (.inr (.inr f)))))) (ha1 : ws[q1]? = some (a, .inl (c1, n1, .inr (.inr (.inr (.inr g)))))) (ht0 : tys[t0]? = some (c0, .object E0)) (ht1 : tys[t1]? = some (c1, .object E1))
    {sp dp n : Int} (h1 : 0 ≤ sp ∧ sp ≤ 1000) (h2 : 0 ≤ dp ∧ dp ≤ 1000) (h3 : 0 ≤ n ∧ n ≤ 1000) (h4 : sp + n ≤ (n0 : Int)) (h5 : dp + n ≤ (n1 : Int)) (hel : ∀ i : Nat, i < n.toNat → ∀ y : Nat, f (sp.toNat + i) = some y → va_Any E1 s H y)
    (hframes : 1 ≤ R.frames) (hlocals : (rest.map fun v => v.category).sum + (nativeFrameWords "java/lang/System" "arraycopy" 5 + 11) ≤ R.locals) (hdg : decode cc pc = .ok (.invokestatic index, 3))
    (k : ∀ (H1 : Heap) (locs1 : List Loc), va_P D cl (ws.set q1 (a, .inl (c1, n1, .inr (.inr (.inr (.inr (va_cpy f g sp.toNat dp.toNat n.toNat))))))) H1 → va_D A (ws.set q1 (a, .inl (c1, n1, .inr (.inr (.inr (.inr (va_cpy f g sp.toNat dp.toNat n.toNat))))))) → va_S A H0 H1 locs1 → W p l e R s m args below meth c H1 locs1 cells slots Q (F0 m (pc + 3) ls rest)) : W p l e R s m args below meth c H locs cells slots Q (F0 m pc ls (.int (zi n) :: .int (zi dp) :: .ref a :: .int (zi sp) :: .ref a0 :: rest)) := by
  have z1 : zI sp := ⟨by omega, by omega⟩
  have z2 : zI dp := ⟨by omega, by omega⟩
  have z3 : zI n := ⟨by omega, by omega⟩
  have e1 := zi_clamp (a := sp) (by omega) z1
  have e2 := zi_clamp (a := dp) (by omega) z2
  have e3 := zi_clamp (a := n) (by omega) z3
  refine va_copyM hx hb hml hown hlink hnat hstat hini hK hP hD hS q0 q1 t0 t1 ha0 ha1 ht0 ht1 (zi_ge (by omega) z1) (zi_ge (by omega) z2) (zi_ge (by omega) z3) (by rw [e1, e3]; omega) (by rw [e2, e3]; omega) (by rw [e1, e3]; exact hel) hframes hlocals hdg ?_
  rw [e1, e2, e3]
  exact k
end ZLW
theorem zrm_1 (ef : Nat → Option Nat) (ix ru : Int) (h : 0 ≤ ix ∧ ix < ru - 1) (sp dp n k : Nat) (hs : (sp : Int) = ix + 1) (hd : (dp : Int) = ix) (hn : (n : Int) = ru - 1 - ix) (hk : (k : Int) = ru - 1) : ∀ j : Nat, (j : Int) < ru - 1 → va_up (va_cpy ef ef sp dp n) k none j = if (j : Int) < ix then ef j else ef (j + 1) := by
  intro j hj
  unfold va_up va_cpy
  rw [if_neg (by omega)]
  by_cases e : (j : Int) < ix
  · rw [if_pos e, if_neg (by omega)]
  · rw [if_neg e, if_pos (by omega)]
    congr 1
    omega
theorem zrm_0 (ef : Nat → Option Nat) (ix ru : Int) (h : ix = ru - 1) (k : Nat) (hk : (k : Int) = ru - 1) : ∀ j : Nat, (j : Int) < ru - 1 → va_up ef k none j = if (j : Int) < ix then ef j else ef (j + 1) := by
  intro j hj
  unfold va_up
  rw [if_neg (by omega), if_pos (by omega)]
theorem zcp_10 (ef g : Nat → Option Nat) (sp dp n : Nat) (h1 : sp = 0) (h2 : dp = 0) (h3 : n = 10) : ∀ j : Nat, (j : Int) < 10 → va_cpy ef g sp dp n j = ef j := by
  intro j hj
  subst h1
  subst h2
  subst h3
  unfold va_cpy
  rw [if_pos (by omega)]
  congr 1
  omega
theorem zad (ef eh : Nat → Option Nat) (ru : Int) (v k : Nat) (hk : (k : Int) = ru) (h : ∀ j : Nat, (j : Int) < ru → eh j = ef j) : (∀ j : Nat, (j : Int) < ru → va_up eh k (some v) j = ef j) ∧ va_up eh k (some v) ru.toNat = some v := by
  refine ⟨fun j hj => ?_, ?_⟩
  · unfold va_up
    rw [if_neg (by omega)]
    exact h j hj
  · unfold va_up
    rw [if_pos (by omega)]
set_option maxHeartbeats 4000000 in
set_option maxRecDepth 100000 in
theorem c_J8_newLength (l : Launch)  (dC : Nat → ClassId) (dI : Nat → Nat → Nat)  : Met l yJ8_newLength_cabcc wsJ8_newLength_cabcc ({ frames := 1, cells := 0, slots := 0, locals := 21 }) (zPr (dC, dI) [] [.int (zi 10), .int (zi 1), .int (zi 5)] []) (vp_Si (fun r => r = zi 15)) 0 0 zN := by
  refine Met.ofW (cc := cJ8_newLength_cabcc) (maxL := 4) (ret := (some .int)) (by decide) rfl ?_
  intro p e s m args below meth c s₁ B hml hv
  obtain ⟨rfl, hP, hK⟩ := hv
  have hx := B.exec
  have hb := B.bytes
  have hr := B.returns
  have hts := atoms_spec (ws := wsJ8_newLength_cabcc) B.pre
  have hown : s.vm.findClass RJ8 = some m.cls := findClass_of_methodNamed B.named
  have hlocks := B.notSynchronized
  have hl := lv_entry ([.int (zi 10), .int (zi 1), .int (zi 5)]) (n := 4) (Nat.le_of_ble_eq_true rfl)
  rw [lg_entry_eq]
  generalize (lg_sl ([.int (zi 10), .int (zi 1), .int (zi 5)]) ++ List.replicate (4 - (lg_sl ([.int (zi 10), .int (zi 1), .int (zi 5)])).length) Slot.unset).toArray = ls at hl ⊢
  have hl : lv_has ls 4 [(0, .int (zi 10)), (1, .int (zi 1)), (2, .int (zi 5))] := hl
  refine lv_iload_n hx hb dJ8_newLength_cabcc_0 rfl (lv_at hl 0 rfl) ?_
  refine lv_iload_n hx hb dJ8_newLength_cabcc_1 rfl (lv_at hl 1 rfl) ?_
  refine lv_iload_n hx hb dJ8_newLength_cabcc_2 rfl (lv_at hl 2 rfl) ?_
  refine zw_max hx hb (hml.trans hl.1.symm) hown (hts (.methodLink RJ8 194 Lib.Math.max.name) (by decide +kernel)) (hts (.static Lib.Math.max.name) (by decide +kernel)) (hts (.initialized "java/lang/Math") (by decide +kernel)) (hts _ (by decide +kernel)) (Nat.le_of_ble_eq_true rfl) (Nat.le_of_ble_eq_true rfl) (Nat.le_of_ble_eq_true rfl) (Nat.le_of_ble_eq_true rfl) dJ8_newLength_cabcc_3 ⟨by omega, by omega⟩ ⟨by omega, by omega⟩ ?_
  refine zw_iadd hx hb dJ8_newLength_cabcc_6 ?_
  refine zw_top (fun x1 ex1 => ?_)
  refine lv_istore_n (lv' := [(3, .int (zi x1)), (0, .int (zi 10)), (1, .int (zi 1)), (2, .int (zi 5))]) hx hb dJ8_newLength_cabcc_7 rfl hl (by decide) rfl (fun ls hl => ?_)
  refine zw_iconst hx hb dJ8_newLength_cabcc_8 ?_
  refine lv_iload_n hx hb dJ8_newLength_cabcc_9 rfl (lv_at hl 0 rfl) ?_
  refine zw_icmp_ge (tgt := 21) hx hb dJ8_newLength_cabcc_10 (by decide) ⟨by omega, by omega⟩ ⟨by omega, by omega⟩ (fun h2 => ?_) (fun h2 => ?_)
  · skip
    exact absurd True.intro (by omega)
  · skip
    refine lv_iload_n hx hb dJ8_newLength_cabcc_13 rfl (lv_at hl 0 rfl) ?_
    refine zw_ldc (n := 2147483639) hx hb hown (hts (.constant RJ8 200 (2147483639)) (by decide +kernel)) dJ8_newLength_cabcc_14 (by decide) ?_
    refine zw_icmp_gt (tgt := 21) hx hb dJ8_newLength_cabcc_16 (by decide) ⟨by omega, by omega⟩ ⟨by omega, by omega⟩ (fun h3 => ?_) (fun h3 => ?_)
    · skip
      exact absurd True.intro (by omega)
    · skip
      refine lv_iload_n hx hb dJ8_newLength_cabcc_19 rfl (lv_at hl 0 rfl) ?_
      subst ex1
      exact W.iret (v := zi (10 + (max 1 5))) hx hb hr (fun t ht hW => ⟨zi (10 + (max 1 5)), rfl, congrArg zi (by omega), ht⟩) (fun q h => by cases h) dJ8_newLength_cabcc_20

set_option maxHeartbeats 4000000 in
set_option maxRecDepth 100000 in
theorem c_J7_copyOf3 (l : Launch)  (dC : Nat → ClassId) (dI : Nat → Nat → Nat) (cO : ClassId) (qe : Nat) (ef : Nat → Option Nat) (rf : Nat → Nat) (kf : Nat → Int) (af : Nat → Int) (bf : Nat → Int) (zf : Nat → Int) (qd : Nat) (mi : Nat) (sz : Nat) (hp0 : ∀ j : Nat, (j : Int) < 10 → ef j = some (rf j)) : Met l yJ7_copyOf_6403c wsJ7_copyOf_6403c ({ frames := 1, cells := 1, slots := 15, locals := 60 }) (zPwF (dC, dI) [(cO, .object "java/lang/Object")] sz [.ref qe, .int (zi 15), .ref mi] [(qe, aR cO 10 ef)] (zRO (dC, dI) 10 rf kf af bf zf qd mi)) (va_Qq (fun (r : Option Nat) (u : (Nat) × (Nat → Option Nat)) => r = (some u.1) ∧ (∀ j : Nat, (j : Int) < 10 → u.2 j = ef j)) (fun (u : (Nat) × (Nat → Option Nat)) => zB (dC, dI) [(cO, .object "java/lang/Object")] (va_A [(qe, aR cO 10 ef)] sz) [(qe, aR cO 10 ef), (u.1, aR cO 15 u.2)] ()) (va_A [(qe, aR cO 10 ef)] sz)) 1 15 (va_A [(qe, aR cO 10 ef)] sz) := by
  refine Met.ofW (cc := cJ7_copyOf_6403c) (maxL := 4) (ret := (some (.array (.object "java/lang/Object")))) (by decide) rfl ?_
  intro p e s m args below meth c s₁ B hml hv
  obtain ⟨rfl, hsz, hP, hK, hD0, hG⟩ := hv
  have hx := B.exec
  have hb := B.bytes
  have hr := B.returns
  have hts := atoms_spec (ws := wsJ7_copyOf_6403c) B.pre
  have hown : s.vm.findClass RJ7 = some m.cls := findClass_of_methodNamed B.named
  have hlocks := B.notSynchronized
  subst hsz
  have hD := hD0.self (sz := s.heap.size)
  generalize hAe : va_A [(qe, aR cO 10 ef)] s.heap.size = A at hD hG ⊢
  have hA : ∀ q : Nat, s.heap.size ≤ q → A q := fun q h => by rw [← hAe]; exact Or.inr h
  have hS : va_S A s.heap s.heap [] := va_S.rf
  have hP : va_P (dC, dI) vwCl [(qe, aR cO 10 ef)] s.heap := hP
  have hl := lv_entry ([.ref qe, .int (zi 15), .ref mi]) (n := 4) (Nat.le_of_ble_eq_true rfl)
  rw [lg_entry_eq]
  generalize (lg_sl ([.ref qe, .int (zi 15), .ref mi]) ++ List.replicate (4 - (lg_sl ([.ref qe, .int (zi 15), .ref mi])).length) Slot.unset).toArray = ls at hl ⊢
  have hl : lv_has ls 4 [(0, .ref qe), (1, .int (zi 15)), (2, .ref mi)] := hl
  refine lv_aload_n hx hb dJ7_copyOf_6403c_0 rfl (lv_at hl 2 rfl) ?_
  refine va_ldcM (mi := mi) hx hb hown (hts (.classLink RJ7 110 "[Ljava/lang/Object;") (by decide +kernel)) (zRO_m hG) dJ7_copyOf_6403c_1 ?_
  refine lv_acmp_ne (rx := some mi) (ry := some mi) (tgt := 13) hx hb dJ7_copyOf_6403c_3 (by decide) (fun h1 => ?_) (fun h1 => ?_)
  · skip
    exact absurd (rfl) h1
  · skip
    refine lv_iload_n hx hb dJ7_copyOf_6403c_6 rfl (lv_at hl 1 rfl) ?_
    refine zw_newq (N9 := 15) (C := "java/lang/Object") hx hb hown (hts (.classLink RJ7 2 "java/lang/Object") (by decide +kernel)) (zRO_a hG) hK hP hD hS hA (by omega) (Nat.le_of_ble_eq_true rfl) (Nat.le_of_ble_eq_true rfl) (Nat.le_of_ble_eq_true rfl) dJ7_copyOf_6403c_7 (fun q2 cA2 H hKn hP hD hS => ?_)
    obtain rfl : cO = cA2 := zK_same hKn 0 1 rfl rfl
    have hP : va_P (dC, dI) vwCl [(qe, aR cO 10 ef), (q2, aR cO 15 (fun _ => none))] H := hP
    have hD : va_D A [(qe, aR cO 10 ef), (q2, aR cO 15 (fun _ => none))] := hD
    refine lv_goto (tgt := 24) hx hb dJ7_copyOf_6403c_10 (by decide) ?_
    refine lv_astore_n (lv' := [(3, .ref q2), (0, .ref qe), (1, .int (zi 15)), (2, .ref mi)]) hx hb dJ7_copyOf_6403c_24 rfl hl (by decide) rfl (fun ls hl => ?_)
    refine lv_aload_n hx hb dJ7_copyOf_6403c_25 rfl (lv_at hl 1 rfl) ?_
    refine zw_iconst hx hb dJ7_copyOf_6403c_26 ?_
    refine lv_aload_n hx hb dJ7_copyOf_6403c_27 rfl (lv_at hl 0 rfl) ?_
    refine zw_iconst hx hb dJ7_copyOf_6403c_28 ?_
    refine lv_aload_n hx hb dJ7_copyOf_6403c_29 rfl (lv_at hl 1 rfl) ?_
    refine zw_alen hx hb hK hP 0 0 rfl rfl dJ7_copyOf_6403c_30 ?_
    refine lv_iload_n hx hb dJ7_copyOf_6403c_31 rfl (lv_at hl 2 rfl) ?_
    refine zw_min hx hb (hml.trans hl.1.symm) hown (hts (.methodLink RJ7 304 Lib.Math.min.name) (by decide +kernel)) (hts (.static Lib.Math.min.name) (by decide +kernel)) (hts (.initialized "java/lang/Math") (by decide +kernel)) (hts _ (by decide +kernel)) (Nat.le_of_ble_eq_true rfl) (Nat.le_of_ble_eq_true rfl) (Nat.le_of_ble_eq_true rfl) (Nat.le_of_ble_eq_true rfl) dJ7_copyOf_6403c_32 ⟨by omega, by omega⟩ ⟨by omega, by omega⟩ ?_
    refine zw_copyM hx hb (hml.trans hl.1.symm) hown (hts (.methodLink RJ7 150 arraycopyName) (by decide +kernel)) (hts (.native arraycopyName) (by decide +kernel)) (hts (.static arraycopyName) (by decide +kernel)) (hts (.initialized "java/lang/System") (by decide +kernel)) hK hP hD hS 0 1 0 0 rfl rfl rfl rfl (by omega) (by omega) (by omega) (by omega) (by omega) (fun i hi y hy => zRO_el hG hS hK hp0 (by omega) hy) (Nat.le_of_ble_eq_true rfl) (Nat.le_of_ble_eq_true rfl) dJ7_copyOf_6403c_35 (fun H locs hP hD hS => ?_)
    have hP : va_P (dC, dI) vwCl [(qe, aR cO 10 ef), (q2, aR cO 15 (va_cpy ef (fun _ => none) (Int.toNat 0) (Int.toNat 0) (Int.toNat (min 10 15))))] H := hP
    have hD : va_D A [(qe, aR cO 10 ef), (q2, aR cO 15 (va_cpy ef (fun _ => none) (Int.toNat 0) (Int.toNat 0) (Int.toNat (min 10 15))))] := hD
    refine lv_aload_n hx hb dJ7_copyOf_6403c_38 rfl (lv_at hl 0 rfl) ?_
    have hP9 := hP.sub (ws' := [(qe, aR cO 10 ef), (q2, aR cO 15 (va_cpy ef (fun _ => none) (Int.toNat 0) (Int.toNat 0) (Int.toNat (min 10 15))))]) [0, 1] rfl
    have hD9 := hD.sub (ws' := [(qe, aR cO 10 ef), (q2, aR cO 15 (va_cpy ef (fun _ => none) (Int.toNat 0) (Int.toNat 0) (Int.toNat (min 10 15))))]) [0, 1] (by decide) rfl
    have hp9 : ∀ j : Nat, (j : Int) < 10 → (va_cpy ef (fun _ => none) (Int.toNat 0) (Int.toNat 0) (Int.toNat (min 10 15))) j = ef j := by
      exact zcp_10 _ _ _ _ _ (by omega) (by omega) (by omega)
    refine W.widen (k := 1) (n := 15) (Nat.le_of_ble_eq_true rfl) (Nat.le_of_ble_eq_true rfl) ?_
    exact W.aret (v := va_rf (some q2)) hx hb hr (Or.inr ⟨_, rfl⟩) (va_rf_or _) (fun t ht hW => ⟨⟨(some q2), (q2, (va_cpy ef (fun _ => none) (Int.toNat 0) (Int.toNat 0) (Int.toNat (min 10 15)))), rfl, ⟨rfl, hp9⟩, by rw [ht]; exact hP9, va_K.moved hW.alike hK, hD9⟩, hS.F ht⟩) hS.2.2 dJ7_copyOf_6403c_39

set_option maxHeartbeats 4000000 in
set_option maxRecDepth 100000 in
theorem c_J7_copyOf2 (l : Launch)  (dC : Nat → ClassId) (dI : Nat → Nat → Nat) (cO : ClassId) (qe : Nat) (ef : Nat → Option Nat) (rf : Nat → Nat) (kf : Nat → Int) (af : Nat → Int) (bf : Nat → Int) (zf : Nat → Int) (qd : Nat) (mi : Nat) (sz : Nat) (hp0 : ∀ j : Nat, (j : Int) < 10 → ef j = some (rf j)) : Met l yJ7_copyOf_1904c wsJ7_copyOf_1904c ({ frames := 2, cells := 1, slots := 15, locals := 83 }) (zPwF (dC, dI) [(cO, .object "java/lang/Object")] sz [.ref qe, .int (zi 15)] [(qe, aR cO 10 ef)] (zRO (dC, dI) 10 rf kf af bf zf qd mi)) (va_Qq (fun (r : Option Nat) (u : (Nat) × (Nat → Option Nat)) => r = (some u.1) ∧ (∀ j : Nat, (j : Int) < 10 → u.2 j = ef j)) (fun (u : (Nat) × (Nat → Option Nat)) => zB (dC, dI) [(cO, .object "java/lang/Object")] (va_A [(qe, aR cO 10 ef)] sz) [(qe, aR cO 10 ef), (u.1, aR cO 15 u.2)] ()) (va_A [(qe, aR cO 10 ef)] sz)) 1 15 (va_A [(qe, aR cO 10 ef)] sz) := by
  refine Met.ofW (cc := cJ7_copyOf_1904c) (maxL := 2) (ret := (some (.array (.object "java/lang/Object")))) (by decide) rfl ?_
  intro p e s m args below meth c s₁ B hml hv
  obtain ⟨rfl, hsz, hP, hK, hD0, hG⟩ := hv
  have hx := B.exec
  have hb := B.bytes
  have hr := B.returns
  have hts := atoms_spec (ws := wsJ7_copyOf_1904c) B.pre
  have hown : s.vm.findClass RJ7 = some m.cls := findClass_of_methodNamed B.named
  have hlocks := B.notSynchronized
  subst hsz
  have hD := hD0.self (sz := s.heap.size)
  generalize hAe : va_A [(qe, aR cO 10 ef)] s.heap.size = A at hD hG ⊢
  have hA : ∀ q : Nat, s.heap.size ≤ q → A q := fun q h => by rw [← hAe]; exact Or.inr h
  have hS : va_S A s.heap s.heap [] := va_S.rf
  have hP : va_P (dC, dI) vwCl [(qe, aR cO 10 ef)] s.heap := hP
  have hl := lv_entry ([.ref qe, .int (zi 15)]) (n := 2) (Nat.le_of_ble_eq_true rfl)
  rw [lg_entry_eq]
  generalize (lg_sl ([.ref qe, .int (zi 15)]) ++ List.replicate (2 - (lg_sl ([.ref qe, .int (zi 15)])).length) Slot.unset).toArray = ls at hl ⊢
  have hl : lv_has ls 2 [(0, .ref qe), (1, .int (zi 15))] := hl
  refine lv_aload_n hx hb dJ7_copyOf_1904c_0 rfl (lv_at hl 0 rfl) ?_
  refine lv_iload_n hx hb dJ7_copyOf_1904c_1 rfl (lv_at hl 1 rfl) ?_
  refine lv_aload_n hx hb dJ7_copyOf_1904c_2 rfl (lv_at hl 0 rfl) ?_
  refine va_getC (C := "[Ljava/lang/Object;") (mi := mi) hx hb (hml.trans hl.1.symm) hown (hts (.methodLink RJ7 86 ⟨"java/lang/Object", "getClass", "()Ljava/lang/Class;"⟩) (by decide +kernel)) (zRO_d hG) (hts (.selects "[Ljava/lang/Object;" ⟨"java/lang/Object", "getClass", "()Ljava/lang/Class;"⟩ ⟨"java/lang/Object", "getClass", "()Ljava/lang/Class;"⟩) (by decide +kernel)) (hts (.instanceMethod ⟨"java/lang/Object", "getClass", "()Ljava/lang/Class;"⟩) (by decide +kernel)) (hts (.native ⟨"java/lang/Object", "getClass", "()Ljava/lang/Class;"⟩) (by decide +kernel)) (zRO_m hG) (zK_arr hK hP 0 0 rfl rfl) (Nat.le_of_ble_eq_true rfl) (Nat.le_of_ble_eq_true rfl) dJ7_copyOf_1904c_3 ?_
  have hh1 := c_J7_copyOf3 l dC dI cO qe ef rf kf af bf zf qd mi s.heap.size (by exact hp0)
  have hPc := hP.sub (ws' := [(qe, aR cO 10 ef)]) [0] rfl
  have hKc : va_K (dC, dI) vwCl [(cO, .object "java/lang/Object")] s := hK
  have hDc := hD.sub (ws' := [(qe, aR cO 10 ef)]) [0] (by decide) rfl
  have hFc := va_free (wc := [(qe, aR cO 10 ef)]) hD hS hA [0] rfl
  refine va_callq (va_runS (As := [.ref qe, .int (zi 15), .ref mi]) (rest := []) ⟨hx, hb, hml, hown, hts⟩ hh1 (va_cwS 3 hts gJ7_copyOf_1904c_J7_copyOf_6403c rfl rfl rfl (by decide +kernel) ⟨Nat.le_of_ble_eq_true rfl, Nat.le_of_ble_eq_true rfl⟩) ⟨zPwF.blind _ _ _ _ _ zRO_ok, fun U hU hW => ⟨rfl, by rw [hU], by rw [hU]; exact hPc, va_K.moved hW.alike hKc, hDc.weaken (fun _ _ _ _ => trivial), zF.call zRO_ok hG hS hFc hU hW⟩⟩ rfl rfl hl.1 rfl (lv_room (Nat.le_of_ble_eq_true rfl)) dJ7_copyOf_1904c_6 ⟨Nat.le_of_ble_eq_true rfl, Nat.le_of_ble_eq_true rfl⟩) hS (fun q _ h => hFc q h) hFc (fun r1 u t H1 locs ht hvm hw hB hz1 hk1 hS => ?_)
  obtain ⟨qf_2, eg_2⟩ := u
  obtain ⟨hw, hw1⟩ := hw
  replace hw1 : ∀ j : Nat, (j : Int) < 10 → eg_2 j = ef j := hw1
  obtain ⟨hP1, hK1, hD1⟩ := hB
  rw [ht] at hP1
  replace hP1 : va_P (dC, dI) vwCl [(qe, aR cO 10 ef), (qf_2, aR cO 15 eg_2)] H1 := hP1
  replace hD1 : va_D _ [(qe, aR cO 10 ef), (qf_2, aR cO 15 eg_2)] := hD1
  obtain ⟨hP, hD⟩ := va_join (wr := []) (w1 := [(qe, aR cO 10 ef), (qf_2, aR cO 15 eg_2)]) hP hD [0] [] rfl rfl (by decide) (by decide) hk1 hFc hP1 hD1
  generalize H1 = H at hP hS ⊢
  obtain rfl : r1 = (some qf_2) := hw
  rw [show va_rf (some qf_2) = Value.ref qf_2 from rfl]
  have hP : va_P (dC, dI) vwCl [(qe, aR cO 10 ef), (qf_2, aR cO 15 eg_2)] H := hP
  have hD : va_D A [(qe, aR cO 10 ef), (qf_2, aR cO 15 eg_2)] := hD
  have hP9 := hP.sub (ws' := [(qe, aR cO 10 ef), (qf_2, aR cO 15 eg_2)]) [0, 1] rfl
  have hD9 := hD.sub (ws' := [(qe, aR cO 10 ef), (qf_2, aR cO 15 eg_2)]) [0, 1] (by decide) rfl
  have hp9 : ∀ j : Nat, (j : Int) < 10 → eg_2 j = ef j := by
    assumption
  refine W.widen (k := 1) (n := 15) (Nat.le_of_ble_eq_true rfl) (Nat.le_of_ble_eq_true rfl) ?_
  exact W.aret (v := va_rf (some qf_2)) hx hb hr (Or.inr ⟨_, rfl⟩) (va_rf_or _) (fun t ht hW => ⟨⟨(some qf_2), (qf_2, eg_2), rfl, ⟨rfl, hp9⟩, by rw [ht]; exact hP9, va_K.moved hW.alike hK, hD9⟩, hS.F ht⟩) hS.2.2 dJ7_copyOf_1904c_9

set_option maxHeartbeats 4000000 in
set_option maxRecDepth 100000 in
theorem c_Jx_growB_0 (l : Launch)  (dC : Nat → ClassId) (dI : Nat → Nat → Nat) (cO : ClassId) (h0 : Nat) (mc : Int) (ef : Nat → Option Nat) (rf : Nat → Nat) (kf : Nat → Int) (af : Nat → Int) (bf : Nat → Int) (zf : Nat → Int) (qd : Nat) (mi : Nat) (sz : Nat)  : Met l yJx4a65c_grow_92f84 wsJx4a65c_grow_92f84 ({ frames := 1, cells := 1, slots := 10, locals := 21 }) (zPwF (dC, dI) [(cO, .object "java/lang/Object")] sz [.ref h0, .int (zi 1)] [(h0, .inr (0, [.int (zi mc), .ref qd, .int (zi 0)])), (qd, aR cO 0 ef)] (zRO (dC, dI) 0 rf kf af bf zf qd mi)) (va_Qq (fun (r : Option Nat) (u : (Nat) × (Nat → Option Nat)) => r = (some u.1) ∧ (∀ j : Nat, (j : Int) < 0 → u.2 j = ef j)) (fun (u : (Nat) × (Nat → Option Nat)) => zB (dC, dI) [(cO, .object "java/lang/Object")] (va_A [(h0, .inr (0, [.int (zi mc), .ref qd, .int (zi 0)])), (qd, aR cO 0 ef)] sz) [(h0, .inr (0, [.int (zi mc), .ref u.1, .int (zi 0)])), (u.1, aR cO 10 u.2), (qd, aR cO 0 ef)] ()) (va_A [(h0, .inr (0, [.int (zi mc), .ref qd, .int (zi 0)])), (qd, aR cO 0 ef)] sz)) 1 10 (va_A [(h0, .inr (0, [.int (zi mc), .ref qd, .int (zi 0)])), (qd, aR cO 0 ef)] sz) := by
  refine Met.ofW (cc := cJx4a65c_grow_92f84) (maxL := 4) (ret := (some (.array (.object "java/lang/Object")))) (by decide) rfl ?_
  intro p e s m args below meth c s₁ B hml hv
  obtain ⟨rfl, hsz, hP, hK, hD0, hG⟩ := hv
  have hx := B.exec
  have hb := B.bytes
  have hr := B.returns
  have hts := atoms_spec (ws := wsJx4a65c_grow_92f84) B.pre
  have hown : s.vm.findClass RJx4a65c = some m.cls := findClass_of_methodNamed B.named
  have hlocks := B.notSynchronized
  subst hsz
  have hD := hD0.self (sz := s.heap.size)
  generalize hAe : va_A [(h0, .inr (0, [.int (zi mc), .ref qd, .int (zi 0)])), (qd, aR cO 0 ef)] s.heap.size = A at hD hG ⊢
  have hA : ∀ q : Nat, s.heap.size ≤ q → A q := fun q h => by rw [← hAe]; exact Or.inr h
  have hS : va_S A s.heap s.heap [] := va_S.rf
  have hP : va_P (dC, dI) vwCl [(h0, .inr (0, [.int (zi mc), .ref qd, .int (zi 0)])), (qd, aR cO 0 ef)] s.heap := hP
  have hl := lv_entry ([.ref h0, .int (zi 1)]) (n := 4) (Nat.le_of_ble_eq_true rfl)
  rw [lg_entry_eq]
  generalize (lg_sl ([.ref h0, .int (zi 1)]) ++ List.replicate (4 - (lg_sl ([.ref h0, .int (zi 1)])).length) Slot.unset).toArray = ls at hl ⊢
  have hl : lv_has ls 4 [(0, .ref h0), (1, .int (zi 1))] := hl
  refine lv_aload_n hx hb dJx4a65c_grow_92f84_0 rfl (lv_at hl 0 rfl) ?_
  refine va_get (D := (dC, dI)) (ci := 0) (v := .ref qd) (C := RJx4a65c) (T := TJx4a65c) (N := 3) hx hb hts (by decide +kernel) hown hK hP 0 rfl rfl 1 (by decide) (hts (.fieldLink RJx4a65c 9 "java/util/ArrayList" "elementData" "[Ljava/lang/Object;") (by decide +kernel)) (fun _ h9 => h9) rfl dJx4a65c_grow_92f84_1 ?_
  refine zw_alen hx hb hK hP 1 0 rfl rfl dJx4a65c_grow_92f84_4 ?_
  refine lv_istore_n (lv' := [(2, .int (zi 0)), (0, .ref h0), (1, .int (zi 1))]) hx hb dJx4a65c_grow_92f84_5 rfl hl (by decide) rfl (fun ls hl => ?_)
  refine lv_iload_n hx hb dJx4a65c_grow_92f84_6 rfl (lv_at hl 0 rfl) ?_
  refine zw_if_gt (tgt := 20) hx hb dJx4a65c_grow_92f84_7 (by decide) ⟨by omega, by omega⟩ (fun h1 => ?_) (fun h1 => ?_)
  · skip
    exact absurd True.intro (by omega)
  · skip
    refine lv_aload_n hx hb dJx4a65c_grow_92f84_10 rfl (lv_at hl 1 rfl) ?_
    refine va_get (D := (dC, dI)) (ci := 0) (v := .ref qd) (C := RJx4a65c) (T := TJx4a65c) (N := 3) hx hb hts (by decide +kernel) hown hK hP 0 rfl rfl 1 (by decide) (hts (.fieldLink RJx4a65c 9 "java/util/ArrayList" "elementData" "[Ljava/lang/Object;") (by decide +kernel)) (fun _ h9 => h9) rfl dJx4a65c_grow_92f84_11 ?_
    refine va_gets (C := "java/util/ArrayList") hx hb (zRO_z hG) hS hown (hts (.fieldLink RJx4a65c 39 "java/util/ArrayList" "DEFAULTCAPACITY_EMPTY_ELEMENTDATA" "[Ljava/lang/Object;") (by decide +kernel)) (fun _ h9 => h9) dJx4a65c_grow_92f84_14 ?_
    refine lv_acmp_eq (rx := some qd) (ry := some qd) (tgt := 45) hx hb dJx4a65c_grow_92f84_17 (by decide) (fun h2 => ?_) (fun h2 => ?_)
    · skip
      refine lv_aload_n hx hb dJx4a65c_grow_92f84_45 rfl (lv_at hl 1 rfl) ?_
      refine zw_bipush hx hb dJx4a65c_grow_92f84_46 (by decide) ?_
      refine lv_iload_n hx hb dJx4a65c_grow_92f84_48 rfl (lv_at hl 2 rfl) ?_
      refine zw_max hx hb (hml.trans hl.1.symm) hown (hts (.methodLink RJx4a65c 79 Lib.Math.max.name) (by decide +kernel)) (hts (.static Lib.Math.max.name) (by decide +kernel)) (hts (.initialized "java/lang/Math") (by decide +kernel)) (hts _ (by decide +kernel)) (Nat.le_of_ble_eq_true rfl) (Nat.le_of_ble_eq_true rfl) (Nat.le_of_ble_eq_true rfl) (Nat.le_of_ble_eq_true rfl) dJx4a65c_grow_92f84_49 ⟨by omega, by omega⟩ ⟨by omega, by omega⟩ ?_
      refine zw_newq (N9 := 10) (C := "java/lang/Object") hx hb hown (hts (.classLink RJx4a65c 7 "java/lang/Object") (by decide +kernel)) (zRO_a hG) hK hP hD hS hA (by omega) (Nat.le_of_ble_eq_true rfl) (Nat.le_of_ble_eq_true rfl) (Nat.le_of_ble_eq_true rfl) dJx4a65c_grow_92f84_52 (fun q3 cA3 H hKn hP hD hS => ?_)
      obtain rfl : cO = cA3 := zK_same hKn 0 1 rfl rfl
      have hP : va_P (dC, dI) vwCl [(h0, .inr (0, [.int (zi mc), .ref qd, .int (zi 0)])), (qd, aR cO 0 ef), (q3, aR cO 10 (fun _ => none))] H := hP
      have hD : va_D A [(h0, .inr (0, [.int (zi mc), .ref qd, .int (zi 0)])), (qd, aR cO 0 ef), (q3, aR cO 10 (fun _ => none))] := hD
      refine lv_dup_x1 hx hb dJx4a65c_grow_92f84_55 rfl rfl ?_
      refine va_put (D := (dC, dI)) (ci := 0) (v := .ref q3) (ty := (.array (.object "java/lang/Object"))) (C := RJx4a65c) (T := TJx4a65c) (N := 3) hx hb hts (by decide +kernel) tyJx4a65c tyJx4a65c_ok nmJx4a65c hown hK hP hD hS 0 rfl rfl 1 (by decide) (hts (.fieldLink RJx4a65c 9 "java/util/ArrayList" "elementData" "[Ljava/lang/Object;") (by decide +kernel)) (fun _ h9 => h9) rfl (by decide +kernel) rfl rfl (Nat.le_of_ble_eq_true rfl) dJx4a65c_grow_92f84_56 (fun H locs hP hD hS => ?_)
      have hP : va_P (dC, dI) vwCl [(h0, .inr (0, [.int (zi mc), .ref q3, .int (zi 0)])), (qd, aR cO 0 ef), (q3, aR cO 10 (fun _ => none))] H := hP
      have hD : va_D A [(h0, .inr (0, [.int (zi mc), .ref q3, .int (zi 0)])), (qd, aR cO 0 ef), (q3, aR cO 10 (fun _ => none))] := hD
      have hP9 := hP.sub (ws' := [(h0, .inr (0, [.int (zi mc), .ref q3, .int (zi 0)])), (q3, aR cO 10 (fun _ => none)), (qd, aR cO 0 ef)]) [0, 2, 1] rfl
      have hD9 := hD.sub (ws' := [(h0, .inr (0, [.int (zi mc), .ref q3, .int (zi 0)])), (q3, aR cO 10 (fun _ => none)), (qd, aR cO 0 ef)]) [0, 2, 1] (by decide) rfl
      have hp9 : ∀ j : Nat, (j : Int) < 0 → (fun _ => none) j = ef j := by
        intro j hj; omega
      refine W.widen (k := 1) (n := 10) (Nat.le_of_ble_eq_true rfl) (Nat.le_of_ble_eq_true rfl) ?_
      exact W.aret (v := va_rf (some q3)) hx hb hr (Or.inr ⟨_, rfl⟩) (va_rf_or _) (fun t ht hW => ⟨⟨(some q3), (q3, (fun _ => none)), rfl, ⟨rfl, hp9⟩, by rw [ht]; exact hP9, va_K.moved hW.alike hK, hD9⟩, hS.F ht⟩) hS.2.2 dJx4a65c_grow_92f84_59
    · skip
      exact absurd (rfl) h2

set_option maxHeartbeats 4000000 in
set_option maxRecDepth 100000 in
theorem c_Jx_growB_10 (l : Launch)  (dC : Nat → ClassId) (dI : Nat → Nat → Nat) (cO : ClassId) (h0 : Nat) (mc : Int) (qe : Nat) (ef : Nat → Option Nat) (rf : Nat → Nat) (kf : Nat → Int) (af : Nat → Int) (bf : Nat → Int) (zf : Nat → Int) (qd : Nat) (mi : Nat) (sz : Nat) (hp0 : ∀ j : Nat, (j : Int) < 10 → ef j = some (rf j)) : Met l yJx4a65c_grow_92f84 wsJx4a65c_grow_92f84 ({ frames := 3, cells := 1, slots := 15, locals := 104 }) (zPwF (dC, dI) [(cO, .object "java/lang/Object")] sz [.ref h0, .int (zi 11)] [(h0, .inr (0, [.int (zi mc), .ref qe, .int (zi 10)])), (qe, aR cO 10 ef)] (zRO (dC, dI) 10 rf kf af bf zf qd mi)) (va_Qq (fun (r : Option Nat) (u : (Nat) × (Nat → Option Nat)) => r = (some u.1) ∧ (∀ j : Nat, (j : Int) < 10 → u.2 j = ef j)) (fun (u : (Nat) × (Nat → Option Nat)) => zB (dC, dI) [(cO, .object "java/lang/Object")] (va_A [(h0, .inr (0, [.int (zi mc), .ref qe, .int (zi 10)])), (qe, aR cO 10 ef)] sz) [(h0, .inr (0, [.int (zi mc), .ref u.1, .int (zi 10)])), (u.1, aR cO 15 u.2)] ()) (va_A [(h0, .inr (0, [.int (zi mc), .ref qe, .int (zi 10)])), (qe, aR cO 10 ef)] sz)) 1 15 (va_A [(h0, .inr (0, [.int (zi mc), .ref qe, .int (zi 10)])), (qe, aR cO 10 ef)] sz) := by
  refine Met.ofW (cc := cJx4a65c_grow_92f84) (maxL := 4) (ret := (some (.array (.object "java/lang/Object")))) (by decide) rfl ?_
  intro p e s m args below meth c s₁ B hml hv
  obtain ⟨rfl, hsz, hP, hK, hD0, hG⟩ := hv
  have hx := B.exec
  have hb := B.bytes
  have hr := B.returns
  have hts := atoms_spec (ws := wsJx4a65c_grow_92f84) B.pre
  have hown : s.vm.findClass RJx4a65c = some m.cls := findClass_of_methodNamed B.named
  have hlocks := B.notSynchronized
  subst hsz
  have hD := hD0.self (sz := s.heap.size)
  generalize hAe : va_A [(h0, .inr (0, [.int (zi mc), .ref qe, .int (zi 10)])), (qe, aR cO 10 ef)] s.heap.size = A at hD hG ⊢
  have hA : ∀ q : Nat, s.heap.size ≤ q → A q := fun q h => by rw [← hAe]; exact Or.inr h
  have hS : va_S A s.heap s.heap [] := va_S.rf
  have hP : va_P (dC, dI) vwCl [(h0, .inr (0, [.int (zi mc), .ref qe, .int (zi 10)])), (qe, aR cO 10 ef)] s.heap := hP
  have hl := lv_entry ([.ref h0, .int (zi 11)]) (n := 4) (Nat.le_of_ble_eq_true rfl)
  rw [lg_entry_eq]
  generalize (lg_sl ([.ref h0, .int (zi 11)]) ++ List.replicate (4 - (lg_sl ([.ref h0, .int (zi 11)])).length) Slot.unset).toArray = ls at hl ⊢
  have hl : lv_has ls 4 [(0, .ref h0), (1, .int (zi 11))] := hl
  refine lv_aload_n hx hb dJx4a65c_grow_92f84_0 rfl (lv_at hl 0 rfl) ?_
  refine va_get (D := (dC, dI)) (ci := 0) (v := .ref qe) (C := RJx4a65c) (T := TJx4a65c) (N := 3) hx hb hts (by decide +kernel) hown hK hP 0 rfl rfl 1 (by decide) (hts (.fieldLink RJx4a65c 9 "java/util/ArrayList" "elementData" "[Ljava/lang/Object;") (by decide +kernel)) (fun _ h9 => h9) rfl dJx4a65c_grow_92f84_1 ?_
  refine zw_alen hx hb hK hP 1 0 rfl rfl dJx4a65c_grow_92f84_4 ?_
  refine lv_istore_n (lv' := [(2, .int (zi 10)), (0, .ref h0), (1, .int (zi 11))]) hx hb dJx4a65c_grow_92f84_5 rfl hl (by decide) rfl (fun ls hl => ?_)
  refine lv_iload_n hx hb dJx4a65c_grow_92f84_6 rfl (lv_at hl 0 rfl) ?_
  refine zw_if_gt (tgt := 20) hx hb dJx4a65c_grow_92f84_7 (by decide) ⟨by omega, by omega⟩ (fun h1 => ?_) (fun h1 => ?_)
  · skip
    refine lv_iload_n hx hb dJx4a65c_grow_92f84_20 rfl (lv_at hl 0 rfl) ?_
    refine lv_iload_n hx hb dJx4a65c_grow_92f84_21 rfl (lv_at hl 2 rfl) ?_
    refine lv_iload_n hx hb dJx4a65c_grow_92f84_22 rfl (lv_at hl 0 rfl) ?_
    refine zw_isub hx hb dJx4a65c_grow_92f84_23 ?_
    refine lv_iload_n hx hb dJx4a65c_grow_92f84_24 rfl (lv_at hl 0 rfl) ?_
    refine zw_iconst hx hb dJx4a65c_grow_92f84_25 ?_
    refine zw_ishr hx hb dJx4a65c_grow_92f84_26 (by omega) (by omega) ?_
    rw [show zsr 10 1 = 5 from by decide]
    have hh2 := c_J8_newLength l dC dI 
    have hPc := hP.sub (ws' := []) [] rfl
    have hKc : va_K (dC, dI) vwCl [] s := hK.sub (tys' := []) [] rfl
    refine vp_callSi (va_Run.run (va_runS (As := [.int (zi 10), .int (zi 1), .int (zi 5)]) (rest := []) ⟨hx, hb, hml, hown, hts⟩ hh2 (va_cwS 3 hts gJx4a65c_grow_92f84_J8_newLength_cabcc rfl rfl rfl (by decide +kernel) ⟨Nat.le_of_ble_eq_true rfl, Nat.le_of_ble_eq_true rfl⟩) ⟨zPr.blind _ _ _ _, fun U hU hW => ⟨rfl, by rw [hU]; exact hPc, va_K.moved hW.alike hKc⟩⟩ rfl rfl hl.1 rfl (lv_room (Nat.le_of_ble_eq_true rfl)) dJx4a65c_grow_92f84_27 ⟨Nat.le_of_ble_eq_true rfl, Nat.le_of_ble_eq_true rfl⟩)) (fun r2 (hr2 : r2 = zi 15) => ?_)
    subst hr2
    refine lv_istore_n (lv' := [(3, .int (zi 15)), (2, .int (zi 10)), (0, .ref h0), (1, .int (zi 11))]) hx hb dJx4a65c_grow_92f84_30 rfl hl (by decide) rfl (fun ls hl => ?_)
    refine lv_aload_n hx hb dJx4a65c_grow_92f84_31 rfl (lv_at hl 2 rfl) ?_
    refine lv_aload_n hx hb dJx4a65c_grow_92f84_32 rfl (lv_at hl 2 rfl) ?_
    refine va_get (D := (dC, dI)) (ci := 0) (v := .ref qe) (C := RJx4a65c) (T := TJx4a65c) (N := 3) hx hb hts (by decide +kernel) hown hK hP 0 rfl rfl 1 (by decide) (hts (.fieldLink RJx4a65c 9 "java/util/ArrayList" "elementData" "[Ljava/lang/Object;") (by decide +kernel)) (fun _ h9 => h9) rfl dJx4a65c_grow_92f84_33 ?_
    refine lv_iload_n hx hb dJx4a65c_grow_92f84_36 rfl (lv_at hl 0 rfl) ?_
    have hh3 := c_J7_copyOf2 l dC dI cO qe ef rf kf af bf zf qd mi s.heap.size (by exact hp0)
    have hPc := hP.sub (ws' := [(qe, aR cO 10 ef)]) [1] rfl
    have hKc : va_K (dC, dI) vwCl [(cO, .object "java/lang/Object")] s := hK
    have hDc := hD.sub (ws' := [(qe, aR cO 10 ef)]) [1] (by decide) rfl
    have hFc := va_free (wc := [(qe, aR cO 10 ef)]) hD hS hA [1] rfl
    refine va_callq (va_runS (As := [.ref qe, .int (zi 15)]) (rest := [.ref h0]) ⟨hx, hb, hml, hown, hts⟩ hh3 (va_cwS 2 hts gJx4a65c_grow_92f84_J7_copyOf_1904c rfl rfl rfl (by decide +kernel) ⟨Nat.le_of_ble_eq_true rfl, Nat.le_of_ble_eq_true rfl⟩) ⟨zPwF.blind _ _ _ _ _ zRO_ok, fun U hU hW => ⟨rfl, by rw [hU], by rw [hU]; exact hPc, va_K.moved hW.alike hKc, hDc.weaken (fun _ _ _ _ => trivial), zF.call zRO_ok hG hS hFc hU hW⟩⟩ rfl rfl hl.1 rfl (lv_room (Nat.le_of_ble_eq_true rfl)) dJx4a65c_grow_92f84_37 ⟨Nat.le_of_ble_eq_true rfl, Nat.le_of_ble_eq_true rfl⟩) hS (fun q _ h => hFc q h) hFc (fun r3 u t H1 locs ht hvm hw hB hz1 hk1 hS => ?_)
    obtain ⟨qf_4, eg_4⟩ := u
    obtain ⟨hw, hw3⟩ := hw
    replace hw3 : ∀ j : Nat, (j : Int) < 10 → eg_4 j = ef j := hw3
    obtain ⟨hP1, hK1, hD1⟩ := hB
    rw [ht] at hP1
    replace hP1 : va_P (dC, dI) vwCl [(qe, aR cO 10 ef), (qf_4, aR cO 15 eg_4)] H1 := hP1
    replace hD1 : va_D _ [(qe, aR cO 10 ef), (qf_4, aR cO 15 eg_4)] := hD1
    obtain ⟨hP, hD⟩ := va_join (wr := [(h0, .inr (0, [.int (zi mc), .ref qe, .int (zi 10)]))]) (w1 := [(qe, aR cO 10 ef), (qf_4, aR cO 15 eg_4)]) hP hD [1] [0] rfl rfl (by decide) (by decide) hk1 hFc hP1 hD1
    generalize H1 = H at hP hS ⊢
    obtain rfl : r3 = (some qf_4) := hw
    rw [show va_rf (some qf_4) = Value.ref qf_4 from rfl]
    have hP : va_P (dC, dI) vwCl [(h0, .inr (0, [.int (zi mc), .ref qe, .int (zi 10)])), (qe, aR cO 10 ef), (qf_4, aR cO 15 eg_4)] H := hP
    have hD : va_D A [(h0, .inr (0, [.int (zi mc), .ref qe, .int (zi 10)])), (qe, aR cO 10 ef), (qf_4, aR cO 15 eg_4)] := hD
    refine lv_dup_x1 hx hb dJx4a65c_grow_92f84_40 rfl rfl ?_
    refine va_put (D := (dC, dI)) (ci := 0) (v := .ref qf_4) (ty := (.array (.object "java/lang/Object"))) (C := RJx4a65c) (T := TJx4a65c) (N := 3) hx hb hts (by decide +kernel) tyJx4a65c tyJx4a65c_ok nmJx4a65c hown hK hP hD hS 0 rfl rfl 1 (by decide) (hts (.fieldLink RJx4a65c 9 "java/util/ArrayList" "elementData" "[Ljava/lang/Object;") (by decide +kernel)) (fun _ h9 => h9) rfl (by decide +kernel) rfl rfl (Nat.le_of_ble_eq_true rfl) dJx4a65c_grow_92f84_41 (fun H locs hP hD hS => ?_)
    have hP : va_P (dC, dI) vwCl [(h0, .inr (0, [.int (zi mc), .ref qf_4, .int (zi 10)])), (qe, aR cO 10 ef), (qf_4, aR cO 15 eg_4)] H := hP
    have hD : va_D A [(h0, .inr (0, [.int (zi mc), .ref qf_4, .int (zi 10)])), (qe, aR cO 10 ef), (qf_4, aR cO 15 eg_4)] := hD
    have hP9 := hP.sub (ws' := [(h0, .inr (0, [.int (zi mc), .ref qf_4, .int (zi 10)])), (qf_4, aR cO 15 eg_4)]) [0, 2] rfl
    have hD9 := hD.sub (ws' := [(h0, .inr (0, [.int (zi mc), .ref qf_4, .int (zi 10)])), (qf_4, aR cO 15 eg_4)]) [0, 2] (by decide) rfl
    have hp9 : ∀ j : Nat, (j : Int) < 10 → eg_4 j = ef j := by
      assumption
    refine W.widen (k := 1) (n := 15) (Nat.le_of_ble_eq_true rfl) (Nat.le_of_ble_eq_true rfl) ?_
    exact W.aret (v := va_rf (some qf_4)) hx hb hr (Or.inr ⟨_, rfl⟩) (va_rf_or _) (fun t ht hW => ⟨⟨(some qf_4), (qf_4, eg_4), rfl, ⟨rfl, hp9⟩, by rw [ht]; exact hP9, va_K.moved hW.alike hK, hD9⟩, hS.F ht⟩) hS.2.2 dJx4a65c_grow_92f84_44
  · skip
    exact absurd True.intro (by omega)

set_option maxHeartbeats 4000000 in
set_option maxRecDepth 100000 in
theorem c_Jx_grow_0 (l : Launch)  (dC : Nat → ClassId) (dI : Nat → Nat → Nat) (cO : ClassId) (h0 : Nat) (mc : Int) (ef : Nat → Option Nat) (rf : Nat → Nat) (kf : Nat → Int) (af : Nat → Int) (bf : Nat → Int) (zf : Nat → Int) (qd : Nat) (mi : Nat) (sz : Nat)  : Met l yJx4a65c_grow_d5877 wsJx4a65c_grow_d5877 ({ frames := 2, cells := 1, slots := 10, locals := 44 }) (zPwF (dC, dI) [(cO, .object "java/lang/Object")] sz [.ref h0] [(h0, .inr (0, [.int (zi mc), .ref qd, .int (zi 0)])), (qd, aR cO 0 ef)] (zRO (dC, dI) 0 rf kf af bf zf qd mi)) (va_Qq (fun (r : Option Nat) (u : (Nat) × (Nat → Option Nat)) => r = (some u.1) ∧ (∀ j : Nat, (j : Int) < 0 → u.2 j = ef j)) (fun (u : (Nat) × (Nat → Option Nat)) => zB (dC, dI) [(cO, .object "java/lang/Object")] (va_A [(h0, .inr (0, [.int (zi mc), .ref qd, .int (zi 0)])), (qd, aR cO 0 ef)] sz) [(h0, .inr (0, [.int (zi mc), .ref u.1, .int (zi 0)])), (u.1, aR cO 10 u.2), (qd, aR cO 0 ef)] ()) (va_A [(h0, .inr (0, [.int (zi mc), .ref qd, .int (zi 0)])), (qd, aR cO 0 ef)] sz)) 1 10 (va_A [(h0, .inr (0, [.int (zi mc), .ref qd, .int (zi 0)])), (qd, aR cO 0 ef)] sz) := by
  refine Met.ofW (cc := cJx4a65c_grow_d5877) (maxL := 1) (ret := (some (.array (.object "java/lang/Object")))) (by decide) rfl ?_
  intro p e s m args below meth c s₁ B hml hv
  obtain ⟨rfl, hsz, hP, hK, hD0, hG⟩ := hv
  have hx := B.exec
  have hb := B.bytes
  have hr := B.returns
  have hts := atoms_spec (ws := wsJx4a65c_grow_d5877) B.pre
  have hown : s.vm.findClass RJx4a65c = some m.cls := findClass_of_methodNamed B.named
  have hlocks := B.notSynchronized
  subst hsz
  have hD := hD0.self (sz := s.heap.size)
  generalize hAe : va_A [(h0, .inr (0, [.int (zi mc), .ref qd, .int (zi 0)])), (qd, aR cO 0 ef)] s.heap.size = A at hD hG ⊢
  have hA : ∀ q : Nat, s.heap.size ≤ q → A q := fun q h => by rw [← hAe]; exact Or.inr h
  have hS : va_S A s.heap s.heap [] := va_S.rf
  have hP : va_P (dC, dI) vwCl [(h0, .inr (0, [.int (zi mc), .ref qd, .int (zi 0)])), (qd, aR cO 0 ef)] s.heap := hP
  have hl := lv_entry ([.ref h0]) (n := 1) (Nat.le_of_ble_eq_true rfl)
  rw [lg_entry_eq]
  generalize (lg_sl ([.ref h0]) ++ List.replicate (1 - (lg_sl ([.ref h0])).length) Slot.unset).toArray = ls at hl ⊢
  have hl : lv_has ls 1 [(0, .ref h0)] := hl
  refine lv_aload_n hx hb dJx4a65c_grow_d5877_0 rfl (lv_at hl 0 rfl) ?_
  refine lv_aload_n hx hb dJx4a65c_grow_d5877_1 rfl (lv_at hl 0 rfl) ?_
  refine va_get (D := (dC, dI)) (ci := 0) (v := .int (zi 0)) (C := RJx4a65c) (T := TJx4a65c) (N := 3) hx hb hts (by decide +kernel) hown hK hP 0 rfl rfl 2 (by decide) (hts (.fieldLink RJx4a65c 48 "java/util/ArrayList" "size" "I") (by decide +kernel)) (fun _ h9 => h9) rfl dJx4a65c_grow_d5877_2 ?_
  refine zw_iconst hx hb dJx4a65c_grow_d5877_5 ?_
  refine zw_iadd hx hb dJx4a65c_grow_d5877_6 ?_
  have hh1 := c_Jx_growB_0 l dC dI cO h0 mc ef rf kf af bf zf qd mi s.heap.size 
  have hPc := hP.sub (ws' := [(h0, .inr (0, [.int (zi mc), .ref qd, .int (zi 0)])), (qd, aR cO 0 ef)]) [0, 1] rfl
  have hKc : va_K (dC, dI) vwCl [(cO, .object "java/lang/Object")] s := hK
  have hDc := hD.sub (ws' := [(h0, .inr (0, [.int (zi mc), .ref qd, .int (zi 0)])), (qd, aR cO 0 ef)]) [0, 1] (by decide) rfl
  have hFc := va_free (wc := [(h0, .inr (0, [.int (zi mc), .ref qd, .int (zi 0)])), (qd, aR cO 0 ef)]) hD hS hA [0, 1] rfl
  refine va_callq (va_runV (As := [.int (zi 1)]) (rest := []) ⟨hx, hb, hml, hown, hts⟩ hh1 (cwV 1 hts gJx4a65c_grow_d5877_Jx4a65c_grow_92f84 rfl rfl rfl (by decide +kernel) ⟨Nat.le_of_ble_eq_true rfl, Nat.le_of_ble_eq_true rfl⟩) ⟨zPwF.blind _ _ _ _ _ zRO_ok, va_recv hKc hPc (ci := 0) (q0 := 0) rfl rfl, fun U hU hW => ⟨rfl, by rw [hU], by rw [hU]; exact hPc, va_K.moved hW.alike hKc, hDc.weaken (fun _ _ _ _ => trivial), zF.call zRO_ok hG hS hFc hU hW⟩⟩ rfl rfl hl.1 rfl (lv_room (Nat.le_of_ble_eq_true rfl)) dJx4a65c_grow_d5877_7 ⟨Nat.le_of_ble_eq_true rfl, Nat.le_of_ble_eq_true rfl⟩) hS (fun q _ h => hFc q h) hFc (fun r1 u t H1 locs ht hvm hw hB hz1 hk1 hS => ?_)
  obtain ⟨qf_2, eg_2⟩ := u
  obtain ⟨hw, hw1⟩ := hw
  replace hw1 : ∀ j : Nat, (j : Int) < 0 → eg_2 j = ef j := hw1
  obtain ⟨hP1, hK1, hD1⟩ := hB
  rw [ht] at hP1
  replace hP1 : va_P (dC, dI) vwCl [(h0, .inr (0, [.int (zi mc), .ref qf_2, .int (zi 0)])), (qf_2, aR cO 10 eg_2), (qd, aR cO 0 ef)] H1 := hP1
  replace hD1 : va_D _ [(h0, .inr (0, [.int (zi mc), .ref qf_2, .int (zi 0)])), (qf_2, aR cO 10 eg_2), (qd, aR cO 0 ef)] := hD1
  obtain ⟨hP, hD⟩ := va_join (wr := []) (w1 := [(h0, .inr (0, [.int (zi mc), .ref qf_2, .int (zi 0)])), (qf_2, aR cO 10 eg_2), (qd, aR cO 0 ef)]) hP hD [0, 1] [] rfl rfl (by decide) (by decide) hk1 hFc hP1 hD1
  generalize H1 = H at hP hS ⊢
  obtain rfl : r1 = (some qf_2) := hw
  rw [show va_rf (some qf_2) = Value.ref qf_2 from rfl]
  have hP : va_P (dC, dI) vwCl [(h0, .inr (0, [.int (zi mc), .ref qf_2, .int (zi 0)])), (qf_2, aR cO 10 eg_2), (qd, aR cO 0 ef)] H := hP
  have hD : va_D A [(h0, .inr (0, [.int (zi mc), .ref qf_2, .int (zi 0)])), (qf_2, aR cO 10 eg_2), (qd, aR cO 0 ef)] := hD
  have hP9 := hP.sub (ws' := [(h0, .inr (0, [.int (zi mc), .ref qf_2, .int (zi 0)])), (qf_2, aR cO 10 eg_2), (qd, aR cO 0 ef)]) [0, 1, 2] rfl
  have hD9 := hD.sub (ws' := [(h0, .inr (0, [.int (zi mc), .ref qf_2, .int (zi 0)])), (qf_2, aR cO 10 eg_2), (qd, aR cO 0 ef)]) [0, 1, 2] (by decide) rfl
  have hp9 : ∀ j : Nat, (j : Int) < 0 → eg_2 j = ef j := by
    assumption
  refine W.widen (k := 1) (n := 10) (Nat.le_of_ble_eq_true rfl) (Nat.le_of_ble_eq_true rfl) ?_
  exact W.aret (v := va_rf (some qf_2)) hx hb hr (Or.inr ⟨_, rfl⟩) (va_rf_or _) (fun t ht hW => ⟨⟨(some qf_2), (qf_2, eg_2), rfl, ⟨rfl, hp9⟩, by rw [ht]; exact hP9, va_K.moved hW.alike hK, hD9⟩, hS.F ht⟩) hS.2.2 dJx4a65c_grow_d5877_10

set_option maxHeartbeats 4000000 in
set_option maxRecDepth 100000 in
theorem c_Jx_grow_10 (l : Launch)  (dC : Nat → ClassId) (dI : Nat → Nat → Nat) (cO : ClassId) (h0 : Nat) (mc : Int) (qe : Nat) (ef : Nat → Option Nat) (rf : Nat → Nat) (kf : Nat → Int) (af : Nat → Int) (bf : Nat → Int) (zf : Nat → Int) (qd : Nat) (mi : Nat) (sz : Nat) (hp0 : ∀ j : Nat, (j : Int) < 10 → ef j = some (rf j)) : Met l yJx4a65c_grow_d5877 wsJx4a65c_grow_d5877 ({ frames := 4, cells := 1, slots := 15, locals := 127 }) (zPwF (dC, dI) [(cO, .object "java/lang/Object")] sz [.ref h0] [(h0, .inr (0, [.int (zi mc), .ref qe, .int (zi 10)])), (qe, aR cO 10 ef)] (zRO (dC, dI) 10 rf kf af bf zf qd mi)) (va_Qq (fun (r : Option Nat) (u : (Nat) × (Nat → Option Nat)) => r = (some u.1) ∧ (∀ j : Nat, (j : Int) < 10 → u.2 j = ef j)) (fun (u : (Nat) × (Nat → Option Nat)) => zB (dC, dI) [(cO, .object "java/lang/Object")] (va_A [(h0, .inr (0, [.int (zi mc), .ref qe, .int (zi 10)])), (qe, aR cO 10 ef)] sz) [(h0, .inr (0, [.int (zi mc), .ref u.1, .int (zi 10)])), (u.1, aR cO 15 u.2)] ()) (va_A [(h0, .inr (0, [.int (zi mc), .ref qe, .int (zi 10)])), (qe, aR cO 10 ef)] sz)) 1 15 (va_A [(h0, .inr (0, [.int (zi mc), .ref qe, .int (zi 10)])), (qe, aR cO 10 ef)] sz) := by
  refine Met.ofW (cc := cJx4a65c_grow_d5877) (maxL := 1) (ret := (some (.array (.object "java/lang/Object")))) (by decide) rfl ?_
  intro p e s m args below meth c s₁ B hml hv
  obtain ⟨rfl, hsz, hP, hK, hD0, hG⟩ := hv
  have hx := B.exec
  have hb := B.bytes
  have hr := B.returns
  have hts := atoms_spec (ws := wsJx4a65c_grow_d5877) B.pre
  have hown : s.vm.findClass RJx4a65c = some m.cls := findClass_of_methodNamed B.named
  have hlocks := B.notSynchronized
  subst hsz
  have hD := hD0.self (sz := s.heap.size)
  generalize hAe : va_A [(h0, .inr (0, [.int (zi mc), .ref qe, .int (zi 10)])), (qe, aR cO 10 ef)] s.heap.size = A at hD hG ⊢
  have hA : ∀ q : Nat, s.heap.size ≤ q → A q := fun q h => by rw [← hAe]; exact Or.inr h
  have hS : va_S A s.heap s.heap [] := va_S.rf
  have hP : va_P (dC, dI) vwCl [(h0, .inr (0, [.int (zi mc), .ref qe, .int (zi 10)])), (qe, aR cO 10 ef)] s.heap := hP
  have hl := lv_entry ([.ref h0]) (n := 1) (Nat.le_of_ble_eq_true rfl)
  rw [lg_entry_eq]
  generalize (lg_sl ([.ref h0]) ++ List.replicate (1 - (lg_sl ([.ref h0])).length) Slot.unset).toArray = ls at hl ⊢
  have hl : lv_has ls 1 [(0, .ref h0)] := hl
  refine lv_aload_n hx hb dJx4a65c_grow_d5877_0 rfl (lv_at hl 0 rfl) ?_
  refine lv_aload_n hx hb dJx4a65c_grow_d5877_1 rfl (lv_at hl 0 rfl) ?_
  refine va_get (D := (dC, dI)) (ci := 0) (v := .int (zi 10)) (C := RJx4a65c) (T := TJx4a65c) (N := 3) hx hb hts (by decide +kernel) hown hK hP 0 rfl rfl 2 (by decide) (hts (.fieldLink RJx4a65c 48 "java/util/ArrayList" "size" "I") (by decide +kernel)) (fun _ h9 => h9) rfl dJx4a65c_grow_d5877_2 ?_
  refine zw_iconst hx hb dJx4a65c_grow_d5877_5 ?_
  refine zw_iadd hx hb dJx4a65c_grow_d5877_6 ?_
  have hh1 := c_Jx_growB_10 l dC dI cO h0 mc qe ef rf kf af bf zf qd mi s.heap.size (by exact hp0)
  have hPc := hP.sub (ws' := [(h0, .inr (0, [.int (zi mc), .ref qe, .int (zi 10)])), (qe, aR cO 10 ef)]) [0, 1] rfl
  have hKc : va_K (dC, dI) vwCl [(cO, .object "java/lang/Object")] s := hK
  have hDc := hD.sub (ws' := [(h0, .inr (0, [.int (zi mc), .ref qe, .int (zi 10)])), (qe, aR cO 10 ef)]) [0, 1] (by decide) rfl
  have hFc := va_free (wc := [(h0, .inr (0, [.int (zi mc), .ref qe, .int (zi 10)])), (qe, aR cO 10 ef)]) hD hS hA [0, 1] rfl
  refine va_callq (va_runV (As := [.int (zi 11)]) (rest := []) ⟨hx, hb, hml, hown, hts⟩ hh1 (cwV 1 hts gJx4a65c_grow_d5877_Jx4a65c_grow_92f84 rfl rfl rfl (by decide +kernel) ⟨Nat.le_of_ble_eq_true rfl, Nat.le_of_ble_eq_true rfl⟩) ⟨zPwF.blind _ _ _ _ _ zRO_ok, va_recv hKc hPc (ci := 0) (q0 := 0) rfl rfl, fun U hU hW => ⟨rfl, by rw [hU], by rw [hU]; exact hPc, va_K.moved hW.alike hKc, hDc.weaken (fun _ _ _ _ => trivial), zF.call zRO_ok hG hS hFc hU hW⟩⟩ rfl rfl hl.1 rfl (lv_room (Nat.le_of_ble_eq_true rfl)) dJx4a65c_grow_d5877_7 ⟨Nat.le_of_ble_eq_true rfl, Nat.le_of_ble_eq_true rfl⟩) hS (fun q _ h => hFc q h) hFc (fun r1 u t H1 locs ht hvm hw hB hz1 hk1 hS => ?_)
  obtain ⟨qf_2, eg_2⟩ := u
  obtain ⟨hw, hw1⟩ := hw
  replace hw1 : ∀ j : Nat, (j : Int) < 10 → eg_2 j = ef j := hw1
  obtain ⟨hP1, hK1, hD1⟩ := hB
  rw [ht] at hP1
  replace hP1 : va_P (dC, dI) vwCl [(h0, .inr (0, [.int (zi mc), .ref qf_2, .int (zi 10)])), (qf_2, aR cO 15 eg_2)] H1 := hP1
  replace hD1 : va_D _ [(h0, .inr (0, [.int (zi mc), .ref qf_2, .int (zi 10)])), (qf_2, aR cO 15 eg_2)] := hD1
  obtain ⟨hP, hD⟩ := va_join (wr := []) (w1 := [(h0, .inr (0, [.int (zi mc), .ref qf_2, .int (zi 10)])), (qf_2, aR cO 15 eg_2)]) hP hD [0, 1] [] rfl rfl (by decide) (by decide) hk1 hFc hP1 hD1
  generalize H1 = H at hP hS ⊢
  obtain rfl : r1 = (some qf_2) := hw
  rw [show va_rf (some qf_2) = Value.ref qf_2 from rfl]
  have hP : va_P (dC, dI) vwCl [(h0, .inr (0, [.int (zi mc), .ref qf_2, .int (zi 10)])), (qf_2, aR cO 15 eg_2)] H := hP
  have hD : va_D A [(h0, .inr (0, [.int (zi mc), .ref qf_2, .int (zi 10)])), (qf_2, aR cO 15 eg_2)] := hD
  have hP9 := hP.sub (ws' := [(h0, .inr (0, [.int (zi mc), .ref qf_2, .int (zi 10)])), (qf_2, aR cO 15 eg_2)]) [0, 1] rfl
  have hD9 := hD.sub (ws' := [(h0, .inr (0, [.int (zi mc), .ref qf_2, .int (zi 10)])), (qf_2, aR cO 15 eg_2)]) [0, 1] (by decide) rfl
  have hp9 : ∀ j : Nat, (j : Int) < 10 → eg_2 j = ef j := by
    assumption
  refine W.widen (k := 1) (n := 15) (Nat.le_of_ble_eq_true rfl) (Nat.le_of_ble_eq_true rfl) ?_
  exact W.aret (v := va_rf (some qf_2)) hx hb hr (Or.inr ⟨_, rfl⟩) (va_rf_or _) (fun t ht hW => ⟨⟨(some qf_2), (qf_2, eg_2), rfl, ⟨rfl, hp9⟩, by rw [ht]; exact hP9, va_K.moved hW.alike hK, hD9⟩, hS.F ht⟩) hS.2.2 dJx4a65c_grow_d5877_10

set_option maxHeartbeats 4000000 in
set_option maxRecDepth 100000 in
theorem c_Jx_addB_10 (l : Launch)  (dC : Nat → ClassId) (dI : Nat → Nat → Nat) (cO : ClassId) (h0 : Nat) (mc : Int) (qe : Nat) (ef : Nat → Option Nat) (va : Nat) (kd : Int) (ad : Int) (bd : Int) (cd : Int) (rf : Nat → Nat) (kf : Nat → Int) (af : Nat → Int) (bf : Nat → Int) (zf : Nat → Int) (qd : Nat) (mi : Nat) (sz : Nat) (hp0 : ∀ j : Nat, (j : Int) < 10 → ef j = some (rf j)) : Met l yJx4a65c_add_72be8 wsJx4a65c_add_72be8 ({ frames := 5, cells := 1, slots := 15, locals := 147 }) (zPwF (dC, dI) [(cO, .object "java/lang/Object")] sz [.ref h0, .ref va, .ref qe, .int (zi 10)] [(h0, .inr (0, [.int (zi mc), .ref qe, .int (zi 10)])), (qe, aR cO 10 ef), (va, .inr (3, [.int (zi kd), .int (zi ad), .int (zi bd), .int (zi cd)]))] (zRO (dC, dI) 10 rf kf af bf zf qd mi)) (va_Qv (fun (u : (Nat) × (Nat) × (Nat → Option Nat)) => ((∀ j : Nat, (j : Int) < 10 → u.2.2 j = ef j) ∧ u.2.2 (Int.toNat 10) = some va) ∧ (u.2.1 = 10 ∧ (10 : Int) < 10 ∨ u.2.1 = 15 ∧ (10 : Int) < 15)) (fun (u : (Nat) × (Nat) × (Nat → Option Nat)) => zB (dC, dI) [(cO, .object "java/lang/Object")] (va_A [(h0, .inr (0, [.int (zi mc), .ref qe, .int (zi 10)])), (qe, aR cO 10 ef), (va, .inr (3, [.int (zi kd), .int (zi ad), .int (zi bd), .int (zi cd)]))] sz) [(h0, .inr (0, [.int (zi mc), .ref u.1, .int (zi 11)])), (u.1, aR cO u.2.1 u.2.2), (va, .inr (3, [.int (zi kd), .int (zi ad), .int (zi bd), .int (zi cd)]))] ()) (va_A [(h0, .inr (0, [.int (zi mc), .ref qe, .int (zi 10)])), (qe, aR cO 10 ef), (va, .inr (3, [.int (zi kd), .int (zi ad), .int (zi bd), .int (zi cd)]))] sz)) 1 15 (va_A [(h0, .inr (0, [.int (zi mc), .ref qe, .int (zi 10)])), (qe, aR cO 10 ef), (va, .inr (3, [.int (zi kd), .int (zi ad), .int (zi bd), .int (zi cd)]))] sz) := by
  refine Met.ofW (cc := cJx4a65c_add_72be8) (maxL := 4) (ret := none) (by decide) rfl ?_
  intro p e s m args below meth c s₁ B hml hv
  obtain ⟨rfl, hsz, hP, hK, hD0, hG⟩ := hv
  have hx := B.exec
  have hb := B.bytes
  have hr := B.returns
  have hts := atoms_spec (ws := wsJx4a65c_add_72be8) B.pre
  have hown : s.vm.findClass RJx4a65c = some m.cls := findClass_of_methodNamed B.named
  have hlocks := B.notSynchronized
  subst hsz
  have hD := hD0.self (sz := s.heap.size)
  generalize hAe : va_A [(h0, .inr (0, [.int (zi mc), .ref qe, .int (zi 10)])), (qe, aR cO 10 ef), (va, .inr (3, [.int (zi kd), .int (zi ad), .int (zi bd), .int (zi cd)]))] s.heap.size = A at hD hG ⊢
  have hA : ∀ q : Nat, s.heap.size ≤ q → A q := fun q h => by rw [← hAe]; exact Or.inr h
  have hS : va_S A s.heap s.heap [] := va_S.rf
  have hP : va_P (dC, dI) vwCl [(h0, .inr (0, [.int (zi mc), .ref qe, .int (zi 10)])), (qe, aR cO 10 ef), (va, .inr (3, [.int (zi kd), .int (zi ad), .int (zi bd), .int (zi cd)]))] s.heap := hP
  have hl := lv_entry ([.ref h0, .ref va, .ref qe, .int (zi 10)]) (n := 4) (Nat.le_of_ble_eq_true rfl)
  rw [lg_entry_eq]
  generalize (lg_sl ([.ref h0, .ref va, .ref qe, .int (zi 10)]) ++ List.replicate (4 - (lg_sl ([.ref h0, .ref va, .ref qe, .int (zi 10)])).length) Slot.unset).toArray = ls at hl ⊢
  have hl : lv_has ls 4 [(0, .ref h0), (1, .ref va), (2, .ref qe), (3, .int (zi 10))] := hl
  refine lv_iload_n hx hb dJx4a65c_add_72be8_0 rfl (lv_at hl 3 rfl) ?_
  refine lv_aload_n hx hb dJx4a65c_add_72be8_1 rfl (lv_at hl 2 rfl) ?_
  refine zw_alen hx hb hK hP 1 0 rfl rfl dJx4a65c_add_72be8_2 ?_
  refine zw_icmp_ne (tgt := 11) hx hb dJx4a65c_add_72be8_3 (by decide) ⟨by omega, by omega⟩ ⟨by omega, by omega⟩ (fun h1 => ?_) (fun h1 => ?_)
  · skip
    exact absurd True.intro (by omega)
  · skip
    refine lv_aload_n hx hb dJx4a65c_add_72be8_6 rfl (lv_at hl 0 rfl) ?_
    have hh2 := c_Jx_grow_10 l dC dI cO h0 mc qe ef rf kf af bf zf qd mi s.heap.size (by exact hp0)
    have hPc := hP.sub (ws' := [(h0, .inr (0, [.int (zi mc), .ref qe, .int (zi 10)])), (qe, aR cO 10 ef)]) [0, 1] rfl
    have hKc : va_K (dC, dI) vwCl [(cO, .object "java/lang/Object")] s := hK
    have hDc := hD.sub (ws' := [(h0, .inr (0, [.int (zi mc), .ref qe, .int (zi 10)])), (qe, aR cO 10 ef)]) [0, 1] (by decide) rfl
    have hFc := va_free (wc := [(h0, .inr (0, [.int (zi mc), .ref qe, .int (zi 10)])), (qe, aR cO 10 ef)]) hD hS hA [0, 1] rfl
    refine va_callq (va_runV (As := []) (rest := []) ⟨hx, hb, hml, hown, hts⟩ hh2 (cwV 0 hts gJx4a65c_add_72be8_Jx4a65c_grow_d5877 rfl rfl rfl (by decide +kernel) ⟨Nat.le_of_ble_eq_true rfl, Nat.le_of_ble_eq_true rfl⟩) ⟨zPwF.blind _ _ _ _ _ zRO_ok, va_recv hKc hPc (ci := 0) (q0 := 0) rfl rfl, fun U hU hW => ⟨rfl, by rw [hU], by rw [hU]; exact hPc, va_K.moved hW.alike hKc, hDc.weaken (fun _ _ _ _ => trivial), zF.call zRO_ok hG hS hFc hU hW⟩⟩ rfl rfl hl.1 rfl (lv_room (Nat.le_of_ble_eq_true rfl)) dJx4a65c_add_72be8_7 ⟨Nat.le_of_ble_eq_true rfl, Nat.le_of_ble_eq_true rfl⟩) hS (fun q _ h => hFc q h) hFc (fun r2 u t H1 locs ht hvm hw hB hz1 hk1 hS => ?_)
    obtain ⟨qf_3, eg_3⟩ := u
    obtain ⟨hw, hw2⟩ := hw
    replace hw2 : ∀ j : Nat, (j : Int) < 10 → eg_3 j = ef j := hw2
    obtain ⟨hP1, hK1, hD1⟩ := hB
    rw [ht] at hP1
    replace hP1 : va_P (dC, dI) vwCl [(h0, .inr (0, [.int (zi mc), .ref qf_3, .int (zi 10)])), (qf_3, aR cO 15 eg_3)] H1 := hP1
    replace hD1 : va_D _ [(h0, .inr (0, [.int (zi mc), .ref qf_3, .int (zi 10)])), (qf_3, aR cO 15 eg_3)] := hD1
    obtain ⟨hP, hD⟩ := va_join (wr := [(va, .inr (3, [.int (zi kd), .int (zi ad), .int (zi bd), .int (zi cd)]))]) (w1 := [(h0, .inr (0, [.int (zi mc), .ref qf_3, .int (zi 10)])), (qf_3, aR cO 15 eg_3)]) hP hD [0, 1] [2] rfl rfl (by decide) (by decide) hk1 hFc hP1 hD1
    generalize H1 = H at hP hS ⊢
    obtain rfl : r2 = (some qf_3) := hw
    rw [show va_rf (some qf_3) = Value.ref qf_3 from rfl]
    have hP : va_P (dC, dI) vwCl [(va, .inr (3, [.int (zi kd), .int (zi ad), .int (zi bd), .int (zi cd)])), (h0, .inr (0, [.int (zi mc), .ref qf_3, .int (zi 10)])), (qf_3, aR cO 15 eg_3)] H := hP
    have hD : va_D A [(va, .inr (3, [.int (zi kd), .int (zi ad), .int (zi bd), .int (zi cd)])), (h0, .inr (0, [.int (zi mc), .ref qf_3, .int (zi 10)])), (qf_3, aR cO 15 eg_3)] := hD
    refine lv_astore_n (lv' := [(2, .ref qf_3), (0, .ref h0), (1, .ref va), (3, .int (zi 10))]) hx hb dJx4a65c_add_72be8_10 rfl hl (by decide) rfl (fun ls hl => ?_)
    refine lv_aload_n hx hb dJx4a65c_add_72be8_11 rfl (lv_at hl 0 rfl) ?_
    refine lv_iload_n hx hb dJx4a65c_add_72be8_12 rfl (lv_at hl 3 rfl) ?_
    refine lv_aload_n hx hb dJx4a65c_add_72be8_13 rfl (lv_at hl 2 rfl) ?_
    refine zw_aast hx hb hK hP hD hS 2 0 rfl rfl (va_rAny hK hP (q0 := 0) (ci := 3) rfl rfl (zRO_c hG)) (by omega) (by omega) ⟨by omega, by omega⟩ dJx4a65c_add_72be8_14 (fun H locs hP hD hS => ?_)
    have hP : va_P (dC, dI) vwCl [(va, .inr (3, [.int (zi kd), .int (zi ad), .int (zi bd), .int (zi cd)])), (h0, .inr (0, [.int (zi mc), .ref qf_3, .int (zi 10)])), (qf_3, aR cO 15 (va_up eg_3 (Int.toNat 10) (some va)))] H := hP
    have hD : va_D A [(va, .inr (3, [.int (zi kd), .int (zi ad), .int (zi bd), .int (zi cd)])), (h0, .inr (0, [.int (zi mc), .ref qf_3, .int (zi 10)])), (qf_3, aR cO 15 (va_up eg_3 (Int.toNat 10) (some va)))] := hD
    refine lv_aload_n hx hb dJx4a65c_add_72be8_15 rfl (lv_at hl 1 rfl) ?_
    refine lv_iload_n hx hb dJx4a65c_add_72be8_16 rfl (lv_at hl 3 rfl) ?_
    refine zw_iconst hx hb dJx4a65c_add_72be8_17 ?_
    refine zw_iadd hx hb dJx4a65c_add_72be8_18 ?_
    refine va_put (D := (dC, dI)) (ci := 0) (v := .int (zi 11)) (ty := .int) (C := RJx4a65c) (T := TJx4a65c) (N := 3) hx hb hts (by decide +kernel) tyJx4a65c tyJx4a65c_ok nmJx4a65c hown hK hP hD hS 1 rfl rfl 2 (by decide) (hts (.fieldLink RJx4a65c 48 "java/util/ArrayList" "size" "I") (by decide +kernel)) (fun _ h9 => h9) rfl (by decide +kernel) rfl rfl (Nat.le_of_ble_eq_true rfl) dJx4a65c_add_72be8_19 (fun H locs hP hD hS => ?_)
    have hP : va_P (dC, dI) vwCl [(va, .inr (3, [.int (zi kd), .int (zi ad), .int (zi bd), .int (zi cd)])), (h0, .inr (0, [.int (zi mc), .ref qf_3, .int (zi 11)])), (qf_3, aR cO 15 (va_up eg_3 (Int.toNat 10) (some va)))] H := hP
    have hD : va_D A [(va, .inr (3, [.int (zi kd), .int (zi ad), .int (zi bd), .int (zi cd)])), (h0, .inr (0, [.int (zi mc), .ref qf_3, .int (zi 11)])), (qf_3, aR cO 15 (va_up eg_3 (Int.toNat 10) (some va)))] := hD
    have hP9 := hP.sub (ws' := [(h0, .inr (0, [.int (zi mc), .ref qf_3, .int (zi 11)])), (qf_3, aR cO 15 (va_up eg_3 (Int.toNat 10) (some va))), (va, .inr (3, [.int (zi kd), .int (zi ad), .int (zi bd), .int (zi cd)]))]) [1, 2, 0] rfl
    have hD9 := hD.sub (ws' := [(h0, .inr (0, [.int (zi mc), .ref qf_3, .int (zi 11)])), (qf_3, aR cO 15 (va_up eg_3 (Int.toNat 10) (some va))), (va, .inr (3, [.int (zi kd), .int (zi ad), .int (zi bd), .int (zi cd)]))]) [1, 2, 0] (by decide) rfl
    have hp9 : ((∀ j : Nat, (j : Int) < 10 → (va_up eg_3 (Int.toNat 10) (some va)) j = ef j) ∧ (va_up eg_3 (Int.toNat 10) (some va)) (Int.toNat 10) = some va) ∧ (15 = 10 ∧ (10 : Int) < 10 ∨ 15 = 15 ∧ (10 : Int) < 15) := by
      exact ⟨zad _ _ _ _ _ (by omega) (by first | assumption | exact fun _ _ => rfl), by omega⟩
    refine W.widen (k := 1) (n := 15) (Nat.le_of_ble_eq_true rfl) (Nat.le_of_ble_eq_true rfl) ?_
    exact W.vret hx hb hr (fun t ht hW => ⟨⟨(qf_3, 15, (va_up eg_3 (Int.toNat 10) (some va))), rfl, hp9, by rw [ht]; exact hP9, va_K.moved hW.alike hK, hD9⟩, hS.F ht⟩) hS.2.2 dJx4a65c_add_72be8_22

set_option maxHeartbeats 4000000 in
set_option maxRecDepth 100000 in
theorem c_Jx_add_10 (l : Launch)  (dC : Nat → ClassId) (dI : Nat → Nat → Nat) (cO : ClassId) (h0 : Nat) (mc : Int) (qe : Nat) (ef : Nat → Option Nat) (va : Nat) (kd : Int) (ad : Int) (bd : Int) (cd : Int) (rf : Nat → Nat) (kf : Nat → Int) (af : Nat → Int) (bf : Nat → Int) (zf : Nat → Int) (qd : Nat) (mi : Nat) (sz : Nat) (hp0 : ∀ j : Nat, (j : Int) < 10 → ef j = some (rf j)) : Met l yJx4a65c_add_9ea2d wsJx4a65c_add_9ea2d ({ frames := 6, cells := 1, slots := 15, locals := 170 }) (zPwF (dC, dI) [(cO, .object "java/lang/Object")] sz [.ref h0, .ref va] [(h0, .inr (0, [.int (zi mc), .ref qe, .int (zi 10)])), (qe, aR cO 10 ef), (va, .inr (3, [.int (zi kd), .int (zi ad), .int (zi bd), .int (zi cd)]))] (zRO (dC, dI) 10 rf kf af bf zf qd mi)) (va_Qi (fun (r : Int32) (u : (Nat) × (Nat) × (Nat → Option Nat)) => r = zi 1 ∧ (((∀ j : Nat, (j : Int) < 10 → u.2.2 j = ef j) ∧ u.2.2 (Int.toNat 10) = some va) ∧ (u.2.1 = 10 ∧ (10 : Int) < 10 ∨ u.2.1 = 15 ∧ (10 : Int) < 15))) (fun (u : (Nat) × (Nat) × (Nat → Option Nat)) => zB (dC, dI) [(cO, .object "java/lang/Object")] (va_A [(h0, .inr (0, [.int (zi mc), .ref qe, .int (zi 10)])), (qe, aR cO 10 ef), (va, .inr (3, [.int (zi kd), .int (zi ad), .int (zi bd), .int (zi cd)]))] sz) [(h0, .inr (0, [.int (zi (mc + 1)), .ref u.1, .int (zi 11)])), (u.1, aR cO u.2.1 u.2.2), (va, .inr (3, [.int (zi kd), .int (zi ad), .int (zi bd), .int (zi cd)]))] ()) (va_A [(h0, .inr (0, [.int (zi mc), .ref qe, .int (zi 10)])), (qe, aR cO 10 ef), (va, .inr (3, [.int (zi kd), .int (zi ad), .int (zi bd), .int (zi cd)]))] sz)) 1 15 (va_A [(h0, .inr (0, [.int (zi mc), .ref qe, .int (zi 10)])), (qe, aR cO 10 ef), (va, .inr (3, [.int (zi kd), .int (zi ad), .int (zi bd), .int (zi cd)]))] sz) := by
  refine Met.ofW (cc := cJx4a65c_add_9ea2d) (maxL := 2) (ret := (some .boolean)) (by decide) rfl ?_
  intro p e s m args below meth c s₁ B hml hv
  obtain ⟨rfl, hsz, hP, hK, hD0, hG⟩ := hv
  have hx := B.exec
  have hb := B.bytes
  have hr := B.returns
  have hts := atoms_spec (ws := wsJx4a65c_add_9ea2d) B.pre
  have hown : s.vm.findClass RJx4a65c = some m.cls := findClass_of_methodNamed B.named
  have hlocks := B.notSynchronized
  subst hsz
  have hD := hD0.self (sz := s.heap.size)
  generalize hAe : va_A [(h0, .inr (0, [.int (zi mc), .ref qe, .int (zi 10)])), (qe, aR cO 10 ef), (va, .inr (3, [.int (zi kd), .int (zi ad), .int (zi bd), .int (zi cd)]))] s.heap.size = A at hD hG ⊢
  have hA : ∀ q : Nat, s.heap.size ≤ q → A q := fun q h => by rw [← hAe]; exact Or.inr h
  have hS : va_S A s.heap s.heap [] := va_S.rf
  have hP : va_P (dC, dI) vwCl [(h0, .inr (0, [.int (zi mc), .ref qe, .int (zi 10)])), (qe, aR cO 10 ef), (va, .inr (3, [.int (zi kd), .int (zi ad), .int (zi bd), .int (zi cd)]))] s.heap := hP
  have hl := lv_entry ([.ref h0, .ref va]) (n := 2) (Nat.le_of_ble_eq_true rfl)
  rw [lg_entry_eq]
  generalize (lg_sl ([.ref h0, .ref va]) ++ List.replicate (2 - (lg_sl ([.ref h0, .ref va])).length) Slot.unset).toArray = ls at hl ⊢
  have hl : lv_has ls 2 [(0, .ref h0), (1, .ref va)] := hl
  refine lv_aload_n hx hb dJx4a65c_add_9ea2d_0 rfl (lv_at hl 0 rfl) ?_
  refine lv_dup hx hb dJx4a65c_add_9ea2d_1 rfl ?_
  refine va_get (D := (dC, dI)) (ci := 0) (v := .int (zi mc)) (C := RJx4a65c) (T := TJx4a65c) (N := 3) hx hb hts (by decide +kernel) hown hK hP 0 rfl rfl 0 (by decide) (hts (.fieldLink RJx4a65c 63 "java/util/ArrayList" "modCount" "I") (by decide +kernel)) (fun x9 h9 => u_same (hts (.sameField "java/util/ArrayList" "java/util/AbstractList" "modCount" "I") (by decide +kernel)) x9 h9) rfl dJx4a65c_add_9ea2d_2 ?_
  refine zw_iconst hx hb dJx4a65c_add_9ea2d_5 ?_
  refine zw_iadd hx hb dJx4a65c_add_9ea2d_6 ?_
  refine va_put (D := (dC, dI)) (ci := 0) (v := .int (zi (mc + 1))) (ty := .int) (C := RJx4a65c) (T := TJx4a65c) (N := 3) hx hb hts (by decide +kernel) tyJx4a65c tyJx4a65c_ok nmJx4a65c hown hK hP hD hS 0 rfl rfl 0 (by decide) (hts (.fieldLink RJx4a65c 63 "java/util/ArrayList" "modCount" "I") (by decide +kernel)) (fun x9 h9 => u_same (hts (.sameField "java/util/ArrayList" "java/util/AbstractList" "modCount" "I") (by decide +kernel)) x9 h9) rfl (by decide +kernel) rfl rfl (Nat.le_of_ble_eq_true rfl) dJx4a65c_add_9ea2d_7 (fun H locs hP hD hS => ?_)
  have hP : va_P (dC, dI) vwCl [(h0, .inr (0, [.int (zi (mc + 1)), .ref qe, .int (zi 10)])), (qe, aR cO 10 ef), (va, .inr (3, [.int (zi kd), .int (zi ad), .int (zi bd), .int (zi cd)]))] H := hP
  have hD : va_D A [(h0, .inr (0, [.int (zi (mc + 1)), .ref qe, .int (zi 10)])), (qe, aR cO 10 ef), (va, .inr (3, [.int (zi kd), .int (zi ad), .int (zi bd), .int (zi cd)]))] := hD
  refine lv_aload_n hx hb dJx4a65c_add_9ea2d_10 rfl (lv_at hl 0 rfl) ?_
  refine lv_aload_n hx hb dJx4a65c_add_9ea2d_11 rfl (lv_at hl 1 rfl) ?_
  refine lv_aload_n hx hb dJx4a65c_add_9ea2d_12 rfl (lv_at hl 0 rfl) ?_
  refine va_get (D := (dC, dI)) (ci := 0) (v := .ref qe) (C := RJx4a65c) (T := TJx4a65c) (N := 3) hx hb hts (by decide +kernel) hown hK hP 0 rfl rfl 1 (by decide) (hts (.fieldLink RJx4a65c 9 "java/util/ArrayList" "elementData" "[Ljava/lang/Object;") (by decide +kernel)) (fun _ h9 => h9) rfl dJx4a65c_add_9ea2d_13 ?_
  refine lv_aload_n hx hb dJx4a65c_add_9ea2d_16 rfl (lv_at hl 0 rfl) ?_
  refine va_get (D := (dC, dI)) (ci := 0) (v := .int (zi 10)) (C := RJx4a65c) (T := TJx4a65c) (N := 3) hx hb hts (by decide +kernel) hown hK hP 0 rfl rfl 2 (by decide) (hts (.fieldLink RJx4a65c 48 "java/util/ArrayList" "size" "I") (by decide +kernel)) (fun _ h9 => h9) rfl dJx4a65c_add_9ea2d_17 ?_
  have hh1 := c_Jx_addB_10 l dC dI cO h0 (mc + 1) qe ef va kd ad bd cd rf kf af bf zf qd mi H.size (by first | exact hp0 | omega)
  have hPc := hP.sub (ws' := [(h0, .inr (0, [.int (zi (mc + 1)), .ref qe, .int (zi 10)])), (qe, aR cO 10 ef), (va, .inr (3, [.int (zi kd), .int (zi ad), .int (zi bd), .int (zi cd)]))]) [0, 1, 2] rfl
  have hKc : va_K (dC, dI) vwCl [(cO, .object "java/lang/Object")] s := hK
  have hDc := hD.sub (ws' := [(h0, .inr (0, [.int (zi (mc + 1)), .ref qe, .int (zi 10)])), (qe, aR cO 10 ef), (va, .inr (3, [.int (zi kd), .int (zi ad), .int (zi bd), .int (zi cd)]))]) [0, 1, 2] (by decide) rfl
  have hFc := va_free (wc := [(h0, .inr (0, [.int (zi (mc + 1)), .ref qe, .int (zi 10)])), (qe, aR cO 10 ef), (va, .inr (3, [.int (zi kd), .int (zi ad), .int (zi bd), .int (zi cd)]))]) hD hS hA [0, 1, 2] rfl
  refine va_callv (va_runV (As := [.ref va, .ref qe, .int (zi 10)]) (rest := []) ⟨hx, hb, hml, hown, hts⟩ hh1 (cwV 3 hts gJx4a65c_add_9ea2d_Jx4a65c_add_72be8 rfl rfl rfl (by decide +kernel) ⟨Nat.le_of_ble_eq_true rfl, Nat.le_of_ble_eq_true rfl⟩) ⟨zPwF.blind _ _ _ _ _ zRO_ok, va_recv hKc hPc (ci := 0) (q0 := 0) rfl rfl, fun U hU hW => ⟨rfl, by rw [hU], by rw [hU]; exact hPc, va_K.moved hW.alike hKc, hDc.weaken (fun _ _ _ _ => trivial), zF.call zRO_ok hG hS hFc hU hW⟩⟩ rfl rfl hl.1 rfl (lv_room (Nat.le_of_ble_eq_true rfl)) dJx4a65c_add_9ea2d_20 ⟨Nat.le_of_ble_eq_true rfl, Nat.le_of_ble_eq_true rfl⟩) hS (fun q _ h => hFc q h) hFc (fun u t H1 locs ht hvm hw hB hz1 hk1 hS => ?_)
  obtain ⟨qf_2, cp_2, eg_2⟩ := u
  have hw1 := hw
  replace hw1 : ((∀ j : Nat, (j : Int) < 10 → eg_2 j = ef j) ∧ eg_2 (Int.toNat 10) = some va) ∧ (cp_2 = 10 ∧ (10 : Int) < 10 ∨ cp_2 = 15 ∧ (10 : Int) < 15) := hw1
  obtain ⟨hP1, hK1, hD1⟩ := hB
  rw [ht] at hP1
  replace hP1 : va_P (dC, dI) vwCl [(h0, .inr (0, [.int (zi (mc + 1)), .ref qf_2, .int (zi 11)])), (qf_2, aR cO cp_2 eg_2), (va, .inr (3, [.int (zi kd), .int (zi ad), .int (zi bd), .int (zi cd)]))] H1 := hP1
  replace hD1 : va_D _ [(h0, .inr (0, [.int (zi (mc + 1)), .ref qf_2, .int (zi 11)])), (qf_2, aR cO cp_2 eg_2), (va, .inr (3, [.int (zi kd), .int (zi ad), .int (zi bd), .int (zi cd)]))] := hD1
  obtain ⟨hP, hD⟩ := va_join (wr := []) (w1 := [(h0, .inr (0, [.int (zi (mc + 1)), .ref qf_2, .int (zi 11)])), (qf_2, aR cO cp_2 eg_2), (va, .inr (3, [.int (zi kd), .int (zi ad), .int (zi bd), .int (zi cd)]))]) hP hD [0, 1, 2] [] rfl rfl (by decide) (by decide) hk1 hFc hP1 hD1
  generalize H1 = H at hP hS ⊢
  have hP : va_P (dC, dI) vwCl [(h0, .inr (0, [.int (zi (mc + 1)), .ref qf_2, .int (zi 11)])), (qf_2, aR cO cp_2 eg_2), (va, .inr (3, [.int (zi kd), .int (zi ad), .int (zi bd), .int (zi cd)]))] H := hP
  have hD : va_D A [(h0, .inr (0, [.int (zi (mc + 1)), .ref qf_2, .int (zi 11)])), (qf_2, aR cO cp_2 eg_2), (va, .inr (3, [.int (zi kd), .int (zi ad), .int (zi bd), .int (zi cd)]))] := hD
  refine zw_iconst hx hb dJx4a65c_add_9ea2d_23 ?_
  have hP9 := hP.sub (ws' := [(h0, .inr (0, [.int (zi (mc + 1)), .ref qf_2, .int (zi 11)])), (qf_2, aR cO cp_2 eg_2), (va, .inr (3, [.int (zi kd), .int (zi ad), .int (zi bd), .int (zi cd)]))]) [0, 1, 2] rfl
  have hD9 := hD.sub (ws' := [(h0, .inr (0, [.int (zi (mc + 1)), .ref qf_2, .int (zi 11)])), (qf_2, aR cO cp_2 eg_2), (va, .inr (3, [.int (zi kd), .int (zi ad), .int (zi bd), .int (zi cd)]))]) [0, 1, 2] (by decide) rfl
  have hp9 : ((∀ j : Nat, (j : Int) < 10 → eg_2 j = ef j) ∧ eg_2 (Int.toNat 10) = some va) ∧ (cp_2 = 10 ∧ (10 : Int) < 10 ∨ cp_2 = 15 ∧ (10 : Int) < 15) := by
    assumption
  refine W.widen (k := 1) (n := 15) (Nat.le_of_ble_eq_true rfl) (Nat.le_of_ble_eq_true rfl) ?_
  exact W.zret (v := zi 1) hx hb hr (zi_nb (by omega)) (fun t ht hW => ⟨⟨zi 1, (qf_2, cp_2, eg_2), rfl, ⟨rfl, hp9⟩, by rw [ht]; exact hP9, va_K.moved hW.alike hK, hD9⟩, hS.F ht⟩) hS.2.2 dJx4a65c_add_9ea2d_24

set_option maxHeartbeats 4000000 in
set_option maxRecDepth 100000 in
theorem c_Jx_addB_0 (l : Launch)  (dC : Nat → ClassId) (dI : Nat → Nat → Nat) (cO : ClassId) (h0 : Nat) (mc : Int) (ef : Nat → Option Nat) (va : Nat) (kd : Int) (ad : Int) (bd : Int) (cd : Int) (rf : Nat → Nat) (kf : Nat → Int) (af : Nat → Int) (bf : Nat → Int) (zf : Nat → Int) (qd : Nat) (mi : Nat) (sz : Nat)  : Met l yJx4a65c_add_72be8 wsJx4a65c_add_72be8 ({ frames := 5, cells := 1, slots := 15, locals := 147 }) (zPwF (dC, dI) [(cO, .object "java/lang/Object")] sz [.ref h0, .ref va, .ref qd, .int (zi 0)] [(h0, .inr (0, [.int (zi mc), .ref qd, .int (zi 0)])), (qd, aR cO 0 ef), (va, .inr (3, [.int (zi kd), .int (zi ad), .int (zi bd), .int (zi cd)]))] (zRO (dC, dI) 0 rf kf af bf zf qd mi)) (va_Qv (fun (u : (Nat) × (Nat) × (Nat → Option Nat)) => ((∀ j : Nat, (j : Int) < 0 → u.2.2 j = ef j) ∧ u.2.2 (Int.toNat 0) = some va) ∧ (u.2.1 = 10 ∧ (0 : Int) < 10 ∨ u.2.1 = 15 ∧ (0 : Int) < 15)) (fun (u : (Nat) × (Nat) × (Nat → Option Nat)) => zB (dC, dI) [(cO, .object "java/lang/Object")] (va_A [(h0, .inr (0, [.int (zi mc), .ref qd, .int (zi 0)])), (qd, aR cO 0 ef), (va, .inr (3, [.int (zi kd), .int (zi ad), .int (zi bd), .int (zi cd)]))] sz) [(h0, .inr (0, [.int (zi mc), .ref u.1, .int (zi 1)])), (u.1, aR cO u.2.1 u.2.2), (va, .inr (3, [.int (zi kd), .int (zi ad), .int (zi bd), .int (zi cd)])), (qd, aR cO 0 ef)] ()) (va_A [(h0, .inr (0, [.int (zi mc), .ref qd, .int (zi 0)])), (qd, aR cO 0 ef), (va, .inr (3, [.int (zi kd), .int (zi ad), .int (zi bd), .int (zi cd)]))] sz)) 1 15 (va_A [(h0, .inr (0, [.int (zi mc), .ref qd, .int (zi 0)])), (qd, aR cO 0 ef), (va, .inr (3, [.int (zi kd), .int (zi ad), .int (zi bd), .int (zi cd)]))] sz) := by
  refine Met.ofW (cc := cJx4a65c_add_72be8) (maxL := 4) (ret := none) (by decide) rfl ?_
  intro p e s m args below meth c s₁ B hml hv
  obtain ⟨rfl, hsz, hP, hK, hD0, hG⟩ := hv
  have hx := B.exec
  have hb := B.bytes
  have hr := B.returns
  have hts := atoms_spec (ws := wsJx4a65c_add_72be8) B.pre
  have hown : s.vm.findClass RJx4a65c = some m.cls := findClass_of_methodNamed B.named
  have hlocks := B.notSynchronized
  subst hsz
  have hD := hD0.self (sz := s.heap.size)
  generalize hAe : va_A [(h0, .inr (0, [.int (zi mc), .ref qd, .int (zi 0)])), (qd, aR cO 0 ef), (va, .inr (3, [.int (zi kd), .int (zi ad), .int (zi bd), .int (zi cd)]))] s.heap.size = A at hD hG ⊢
  have hA : ∀ q : Nat, s.heap.size ≤ q → A q := fun q h => by rw [← hAe]; exact Or.inr h
  have hS : va_S A s.heap s.heap [] := va_S.rf
  have hP : va_P (dC, dI) vwCl [(h0, .inr (0, [.int (zi mc), .ref qd, .int (zi 0)])), (qd, aR cO 0 ef), (va, .inr (3, [.int (zi kd), .int (zi ad), .int (zi bd), .int (zi cd)]))] s.heap := hP
  have hl := lv_entry ([.ref h0, .ref va, .ref qd, .int (zi 0)]) (n := 4) (Nat.le_of_ble_eq_true rfl)
  rw [lg_entry_eq]
  generalize (lg_sl ([.ref h0, .ref va, .ref qd, .int (zi 0)]) ++ List.replicate (4 - (lg_sl ([.ref h0, .ref va, .ref qd, .int (zi 0)])).length) Slot.unset).toArray = ls at hl ⊢
  have hl : lv_has ls 4 [(0, .ref h0), (1, .ref va), (2, .ref qd), (3, .int (zi 0))] := hl
  refine lv_iload_n hx hb dJx4a65c_add_72be8_0 rfl (lv_at hl 3 rfl) ?_
  refine lv_aload_n hx hb dJx4a65c_add_72be8_1 rfl (lv_at hl 2 rfl) ?_
  refine zw_alen hx hb hK hP 1 0 rfl rfl dJx4a65c_add_72be8_2 ?_
  refine zw_icmp_ne (tgt := 11) hx hb dJx4a65c_add_72be8_3 (by decide) ⟨by omega, by omega⟩ ⟨by omega, by omega⟩ (fun h1 => ?_) (fun h1 => ?_)
  · skip
    exact absurd True.intro (by omega)
  · skip
    refine lv_aload_n hx hb dJx4a65c_add_72be8_6 rfl (lv_at hl 0 rfl) ?_
    have hh2 := c_Jx_grow_0 l dC dI cO h0 mc ef rf kf af bf zf qd mi s.heap.size 
    have hPc := hP.sub (ws' := [(h0, .inr (0, [.int (zi mc), .ref qd, .int (zi 0)])), (qd, aR cO 0 ef)]) [0, 1] rfl
    have hKc : va_K (dC, dI) vwCl [(cO, .object "java/lang/Object")] s := hK
    have hDc := hD.sub (ws' := [(h0, .inr (0, [.int (zi mc), .ref qd, .int (zi 0)])), (qd, aR cO 0 ef)]) [0, 1] (by decide) rfl
    have hFc := va_free (wc := [(h0, .inr (0, [.int (zi mc), .ref qd, .int (zi 0)])), (qd, aR cO 0 ef)]) hD hS hA [0, 1] rfl
    refine va_callq (va_runV (As := []) (rest := []) ⟨hx, hb, hml, hown, hts⟩ hh2 (cwV 0 hts gJx4a65c_add_72be8_Jx4a65c_grow_d5877 rfl rfl rfl (by decide +kernel) ⟨Nat.le_of_ble_eq_true rfl, Nat.le_of_ble_eq_true rfl⟩) ⟨zPwF.blind _ _ _ _ _ zRO_ok, va_recv hKc hPc (ci := 0) (q0 := 0) rfl rfl, fun U hU hW => ⟨rfl, by rw [hU], by rw [hU]; exact hPc, va_K.moved hW.alike hKc, hDc.weaken (fun _ _ _ _ => trivial), zF.call zRO_ok hG hS hFc hU hW⟩⟩ rfl rfl hl.1 rfl (lv_room (Nat.le_of_ble_eq_true rfl)) dJx4a65c_add_72be8_7 ⟨Nat.le_of_ble_eq_true rfl, Nat.le_of_ble_eq_true rfl⟩) hS (fun q _ h => hFc q h) hFc (fun r2 u t H1 locs ht hvm hw hB hz1 hk1 hS => ?_)
    obtain ⟨qf_3, eg_3⟩ := u
    obtain ⟨hw, hw2⟩ := hw
    replace hw2 : ∀ j : Nat, (j : Int) < 0 → eg_3 j = ef j := hw2
    obtain ⟨hP1, hK1, hD1⟩ := hB
    rw [ht] at hP1
    replace hP1 : va_P (dC, dI) vwCl [(h0, .inr (0, [.int (zi mc), .ref qf_3, .int (zi 0)])), (qf_3, aR cO 10 eg_3), (qd, aR cO 0 ef)] H1 := hP1
    replace hD1 : va_D _ [(h0, .inr (0, [.int (zi mc), .ref qf_3, .int (zi 0)])), (qf_3, aR cO 10 eg_3), (qd, aR cO 0 ef)] := hD1
    obtain ⟨hP, hD⟩ := va_join (wr := [(va, .inr (3, [.int (zi kd), .int (zi ad), .int (zi bd), .int (zi cd)]))]) (w1 := [(h0, .inr (0, [.int (zi mc), .ref qf_3, .int (zi 0)])), (qf_3, aR cO 10 eg_3), (qd, aR cO 0 ef)]) hP hD [0, 1] [2] rfl rfl (by decide) (by decide) hk1 hFc hP1 hD1
    generalize H1 = H at hP hS ⊢
    obtain rfl : r2 = (some qf_3) := hw
    rw [show va_rf (some qf_3) = Value.ref qf_3 from rfl]
    have hP : va_P (dC, dI) vwCl [(va, .inr (3, [.int (zi kd), .int (zi ad), .int (zi bd), .int (zi cd)])), (h0, .inr (0, [.int (zi mc), .ref qf_3, .int (zi 0)])), (qf_3, aR cO 10 eg_3), (qd, aR cO 0 ef)] H := hP
    have hD : va_D A [(va, .inr (3, [.int (zi kd), .int (zi ad), .int (zi bd), .int (zi cd)])), (h0, .inr (0, [.int (zi mc), .ref qf_3, .int (zi 0)])), (qf_3, aR cO 10 eg_3), (qd, aR cO 0 ef)] := hD
    refine lv_astore_n (lv' := [(2, .ref qf_3), (0, .ref h0), (1, .ref va), (3, .int (zi 0))]) hx hb dJx4a65c_add_72be8_10 rfl hl (by decide) rfl (fun ls hl => ?_)
    refine lv_aload_n hx hb dJx4a65c_add_72be8_11 rfl (lv_at hl 0 rfl) ?_
    refine lv_iload_n hx hb dJx4a65c_add_72be8_12 rfl (lv_at hl 3 rfl) ?_
    refine lv_aload_n hx hb dJx4a65c_add_72be8_13 rfl (lv_at hl 2 rfl) ?_
    refine zw_aast hx hb hK hP hD hS 2 0 rfl rfl (va_rAny hK hP (q0 := 0) (ci := 3) rfl rfl (zRO_c hG)) (by omega) (by omega) ⟨by omega, by omega⟩ dJx4a65c_add_72be8_14 (fun H locs hP hD hS => ?_)
    have hP : va_P (dC, dI) vwCl [(va, .inr (3, [.int (zi kd), .int (zi ad), .int (zi bd), .int (zi cd)])), (h0, .inr (0, [.int (zi mc), .ref qf_3, .int (zi 0)])), (qf_3, aR cO 10 (va_up eg_3 (Int.toNat 0) (some va))), (qd, aR cO 0 ef)] H := hP
    have hD : va_D A [(va, .inr (3, [.int (zi kd), .int (zi ad), .int (zi bd), .int (zi cd)])), (h0, .inr (0, [.int (zi mc), .ref qf_3, .int (zi 0)])), (qf_3, aR cO 10 (va_up eg_3 (Int.toNat 0) (some va))), (qd, aR cO 0 ef)] := hD
    refine lv_aload_n hx hb dJx4a65c_add_72be8_15 rfl (lv_at hl 1 rfl) ?_
    refine lv_iload_n hx hb dJx4a65c_add_72be8_16 rfl (lv_at hl 3 rfl) ?_
    refine zw_iconst hx hb dJx4a65c_add_72be8_17 ?_
    refine zw_iadd hx hb dJx4a65c_add_72be8_18 ?_
    refine va_put (D := (dC, dI)) (ci := 0) (v := .int (zi 1)) (ty := .int) (C := RJx4a65c) (T := TJx4a65c) (N := 3) hx hb hts (by decide +kernel) tyJx4a65c tyJx4a65c_ok nmJx4a65c hown hK hP hD hS 1 rfl rfl 2 (by decide) (hts (.fieldLink RJx4a65c 48 "java/util/ArrayList" "size" "I") (by decide +kernel)) (fun _ h9 => h9) rfl (by decide +kernel) rfl rfl (Nat.le_of_ble_eq_true rfl) dJx4a65c_add_72be8_19 (fun H locs hP hD hS => ?_)
    have hP : va_P (dC, dI) vwCl [(va, .inr (3, [.int (zi kd), .int (zi ad), .int (zi bd), .int (zi cd)])), (h0, .inr (0, [.int (zi mc), .ref qf_3, .int (zi 1)])), (qf_3, aR cO 10 (va_up eg_3 (Int.toNat 0) (some va))), (qd, aR cO 0 ef)] H := hP
    have hD : va_D A [(va, .inr (3, [.int (zi kd), .int (zi ad), .int (zi bd), .int (zi cd)])), (h0, .inr (0, [.int (zi mc), .ref qf_3, .int (zi 1)])), (qf_3, aR cO 10 (va_up eg_3 (Int.toNat 0) (some va))), (qd, aR cO 0 ef)] := hD
    have hP9 := hP.sub (ws' := [(h0, .inr (0, [.int (zi mc), .ref qf_3, .int (zi 1)])), (qf_3, aR cO 10 (va_up eg_3 (Int.toNat 0) (some va))), (va, .inr (3, [.int (zi kd), .int (zi ad), .int (zi bd), .int (zi cd)])), (qd, aR cO 0 ef)]) [1, 2, 0, 3] rfl
    have hD9 := hD.sub (ws' := [(h0, .inr (0, [.int (zi mc), .ref qf_3, .int (zi 1)])), (qf_3, aR cO 10 (va_up eg_3 (Int.toNat 0) (some va))), (va, .inr (3, [.int (zi kd), .int (zi ad), .int (zi bd), .int (zi cd)])), (qd, aR cO 0 ef)]) [1, 2, 0, 3] (by decide) rfl
    have hp9 : ((∀ j : Nat, (j : Int) < 0 → (va_up eg_3 (Int.toNat 0) (some va)) j = ef j) ∧ (va_up eg_3 (Int.toNat 0) (some va)) (Int.toNat 0) = some va) ∧ (10 = 10 ∧ (0 : Int) < 10 ∨ 10 = 15 ∧ (0 : Int) < 15) := by
      exact ⟨zad _ _ _ _ _ (by omega) (by first | assumption | exact fun _ _ => rfl), by omega⟩
    refine W.widen (k := 1) (n := 15) (Nat.le_of_ble_eq_true rfl) (Nat.le_of_ble_eq_true rfl) ?_
    exact W.vret hx hb hr (fun t ht hW => ⟨⟨(qf_3, 10, (va_up eg_3 (Int.toNat 0) (some va))), rfl, hp9, by rw [ht]; exact hP9, va_K.moved hW.alike hK, hD9⟩, hS.F ht⟩) hS.2.2 dJx4a65c_add_72be8_22

set_option maxHeartbeats 4000000 in
set_option maxRecDepth 100000 in
theorem c_Jx_add_0 (l : Launch)  (dC : Nat → ClassId) (dI : Nat → Nat → Nat) (cO : ClassId) (h0 : Nat) (mc : Int) (ef : Nat → Option Nat) (va : Nat) (kd : Int) (ad : Int) (bd : Int) (cd : Int) (rf : Nat → Nat) (kf : Nat → Int) (af : Nat → Int) (bf : Nat → Int) (zf : Nat → Int) (qd : Nat) (mi : Nat) (sz : Nat)  : Met l yJx4a65c_add_9ea2d wsJx4a65c_add_9ea2d ({ frames := 6, cells := 1, slots := 15, locals := 170 }) (zPwF (dC, dI) [(cO, .object "java/lang/Object")] sz [.ref h0, .ref va] [(h0, .inr (0, [.int (zi mc), .ref qd, .int (zi 0)])), (qd, aR cO 0 ef), (va, .inr (3, [.int (zi kd), .int (zi ad), .int (zi bd), .int (zi cd)]))] (zRO (dC, dI) 0 rf kf af bf zf qd mi)) (va_Qi (fun (r : Int32) (u : (Nat) × (Nat) × (Nat → Option Nat)) => r = zi 1 ∧ (((∀ j : Nat, (j : Int) < 0 → u.2.2 j = ef j) ∧ u.2.2 (Int.toNat 0) = some va) ∧ (u.2.1 = 10 ∧ (0 : Int) < 10 ∨ u.2.1 = 15 ∧ (0 : Int) < 15))) (fun (u : (Nat) × (Nat) × (Nat → Option Nat)) => zB (dC, dI) [(cO, .object "java/lang/Object")] (va_A [(h0, .inr (0, [.int (zi mc), .ref qd, .int (zi 0)])), (qd, aR cO 0 ef), (va, .inr (3, [.int (zi kd), .int (zi ad), .int (zi bd), .int (zi cd)]))] sz) [(h0, .inr (0, [.int (zi (mc + 1)), .ref u.1, .int (zi 1)])), (u.1, aR cO u.2.1 u.2.2), (va, .inr (3, [.int (zi kd), .int (zi ad), .int (zi bd), .int (zi cd)])), (qd, aR cO 0 ef)] ()) (va_A [(h0, .inr (0, [.int (zi mc), .ref qd, .int (zi 0)])), (qd, aR cO 0 ef), (va, .inr (3, [.int (zi kd), .int (zi ad), .int (zi bd), .int (zi cd)]))] sz)) 1 15 (va_A [(h0, .inr (0, [.int (zi mc), .ref qd, .int (zi 0)])), (qd, aR cO 0 ef), (va, .inr (3, [.int (zi kd), .int (zi ad), .int (zi bd), .int (zi cd)]))] sz) := by
  refine Met.ofW (cc := cJx4a65c_add_9ea2d) (maxL := 2) (ret := (some .boolean)) (by decide) rfl ?_
  intro p e s m args below meth c s₁ B hml hv
  obtain ⟨rfl, hsz, hP, hK, hD0, hG⟩ := hv
  have hx := B.exec
  have hb := B.bytes
  have hr := B.returns
  have hts := atoms_spec (ws := wsJx4a65c_add_9ea2d) B.pre
  have hown : s.vm.findClass RJx4a65c = some m.cls := findClass_of_methodNamed B.named
  have hlocks := B.notSynchronized
  subst hsz
  have hD := hD0.self (sz := s.heap.size)
  generalize hAe : va_A [(h0, .inr (0, [.int (zi mc), .ref qd, .int (zi 0)])), (qd, aR cO 0 ef), (va, .inr (3, [.int (zi kd), .int (zi ad), .int (zi bd), .int (zi cd)]))] s.heap.size = A at hD hG ⊢
  have hA : ∀ q : Nat, s.heap.size ≤ q → A q := fun q h => by rw [← hAe]; exact Or.inr h
  have hS : va_S A s.heap s.heap [] := va_S.rf
  have hP : va_P (dC, dI) vwCl [(h0, .inr (0, [.int (zi mc), .ref qd, .int (zi 0)])), (qd, aR cO 0 ef), (va, .inr (3, [.int (zi kd), .int (zi ad), .int (zi bd), .int (zi cd)]))] s.heap := hP
  have hl := lv_entry ([.ref h0, .ref va]) (n := 2) (Nat.le_of_ble_eq_true rfl)
  rw [lg_entry_eq]
  generalize (lg_sl ([.ref h0, .ref va]) ++ List.replicate (2 - (lg_sl ([.ref h0, .ref va])).length) Slot.unset).toArray = ls at hl ⊢
  have hl : lv_has ls 2 [(0, .ref h0), (1, .ref va)] := hl
  refine lv_aload_n hx hb dJx4a65c_add_9ea2d_0 rfl (lv_at hl 0 rfl) ?_
  refine lv_dup hx hb dJx4a65c_add_9ea2d_1 rfl ?_
  refine va_get (D := (dC, dI)) (ci := 0) (v := .int (zi mc)) (C := RJx4a65c) (T := TJx4a65c) (N := 3) hx hb hts (by decide +kernel) hown hK hP 0 rfl rfl 0 (by decide) (hts (.fieldLink RJx4a65c 63 "java/util/ArrayList" "modCount" "I") (by decide +kernel)) (fun x9 h9 => u_same (hts (.sameField "java/util/ArrayList" "java/util/AbstractList" "modCount" "I") (by decide +kernel)) x9 h9) rfl dJx4a65c_add_9ea2d_2 ?_
  refine zw_iconst hx hb dJx4a65c_add_9ea2d_5 ?_
  refine zw_iadd hx hb dJx4a65c_add_9ea2d_6 ?_
  refine va_put (D := (dC, dI)) (ci := 0) (v := .int (zi (mc + 1))) (ty := .int) (C := RJx4a65c) (T := TJx4a65c) (N := 3) hx hb hts (by decide +kernel) tyJx4a65c tyJx4a65c_ok nmJx4a65c hown hK hP hD hS 0 rfl rfl 0 (by decide) (hts (.fieldLink RJx4a65c 63 "java/util/ArrayList" "modCount" "I") (by decide +kernel)) (fun x9 h9 => u_same (hts (.sameField "java/util/ArrayList" "java/util/AbstractList" "modCount" "I") (by decide +kernel)) x9 h9) rfl (by decide +kernel) rfl rfl (Nat.le_of_ble_eq_true rfl) dJx4a65c_add_9ea2d_7 (fun H locs hP hD hS => ?_)
  have hP : va_P (dC, dI) vwCl [(h0, .inr (0, [.int (zi (mc + 1)), .ref qd, .int (zi 0)])), (qd, aR cO 0 ef), (va, .inr (3, [.int (zi kd), .int (zi ad), .int (zi bd), .int (zi cd)]))] H := hP
  have hD : va_D A [(h0, .inr (0, [.int (zi (mc + 1)), .ref qd, .int (zi 0)])), (qd, aR cO 0 ef), (va, .inr (3, [.int (zi kd), .int (zi ad), .int (zi bd), .int (zi cd)]))] := hD
  refine lv_aload_n hx hb dJx4a65c_add_9ea2d_10 rfl (lv_at hl 0 rfl) ?_
  refine lv_aload_n hx hb dJx4a65c_add_9ea2d_11 rfl (lv_at hl 1 rfl) ?_
  refine lv_aload_n hx hb dJx4a65c_add_9ea2d_12 rfl (lv_at hl 0 rfl) ?_
  refine va_get (D := (dC, dI)) (ci := 0) (v := .ref qd) (C := RJx4a65c) (T := TJx4a65c) (N := 3) hx hb hts (by decide +kernel) hown hK hP 0 rfl rfl 1 (by decide) (hts (.fieldLink RJx4a65c 9 "java/util/ArrayList" "elementData" "[Ljava/lang/Object;") (by decide +kernel)) (fun _ h9 => h9) rfl dJx4a65c_add_9ea2d_13 ?_
  refine lv_aload_n hx hb dJx4a65c_add_9ea2d_16 rfl (lv_at hl 0 rfl) ?_
  refine va_get (D := (dC, dI)) (ci := 0) (v := .int (zi 0)) (C := RJx4a65c) (T := TJx4a65c) (N := 3) hx hb hts (by decide +kernel) hown hK hP 0 rfl rfl 2 (by decide) (hts (.fieldLink RJx4a65c 48 "java/util/ArrayList" "size" "I") (by decide +kernel)) (fun _ h9 => h9) rfl dJx4a65c_add_9ea2d_17 ?_
  have hh1 := c_Jx_addB_0 l dC dI cO h0 (mc + 1) ef va kd ad bd cd rf kf af bf zf qd mi H.size 
  have hPc := hP.sub (ws' := [(h0, .inr (0, [.int (zi (mc + 1)), .ref qd, .int (zi 0)])), (qd, aR cO 0 ef), (va, .inr (3, [.int (zi kd), .int (zi ad), .int (zi bd), .int (zi cd)]))]) [0, 1, 2] rfl
  have hKc : va_K (dC, dI) vwCl [(cO, .object "java/lang/Object")] s := hK
  have hDc := hD.sub (ws' := [(h0, .inr (0, [.int (zi (mc + 1)), .ref qd, .int (zi 0)])), (qd, aR cO 0 ef), (va, .inr (3, [.int (zi kd), .int (zi ad), .int (zi bd), .int (zi cd)]))]) [0, 1, 2] (by decide) rfl
  have hFc := va_free (wc := [(h0, .inr (0, [.int (zi (mc + 1)), .ref qd, .int (zi 0)])), (qd, aR cO 0 ef), (va, .inr (3, [.int (zi kd), .int (zi ad), .int (zi bd), .int (zi cd)]))]) hD hS hA [0, 1, 2] rfl
  refine va_callv (va_runV (As := [.ref va, .ref qd, .int (zi 0)]) (rest := []) ⟨hx, hb, hml, hown, hts⟩ hh1 (cwV 3 hts gJx4a65c_add_9ea2d_Jx4a65c_add_72be8 rfl rfl rfl (by decide +kernel) ⟨Nat.le_of_ble_eq_true rfl, Nat.le_of_ble_eq_true rfl⟩) ⟨zPwF.blind _ _ _ _ _ zRO_ok, va_recv hKc hPc (ci := 0) (q0 := 0) rfl rfl, fun U hU hW => ⟨rfl, by rw [hU], by rw [hU]; exact hPc, va_K.moved hW.alike hKc, hDc.weaken (fun _ _ _ _ => trivial), zF.call zRO_ok hG hS hFc hU hW⟩⟩ rfl rfl hl.1 rfl (lv_room (Nat.le_of_ble_eq_true rfl)) dJx4a65c_add_9ea2d_20 ⟨Nat.le_of_ble_eq_true rfl, Nat.le_of_ble_eq_true rfl⟩) hS (fun q _ h => hFc q h) hFc (fun u t H1 locs ht hvm hw hB hz1 hk1 hS => ?_)
  obtain ⟨qf_2, cp_2, eg_2⟩ := u
  have hw1 := hw
  replace hw1 : ((∀ j : Nat, (j : Int) < 0 → eg_2 j = ef j) ∧ eg_2 (Int.toNat 0) = some va) ∧ (cp_2 = 10 ∧ (0 : Int) < 10 ∨ cp_2 = 15 ∧ (0 : Int) < 15) := hw1
  obtain ⟨hP1, hK1, hD1⟩ := hB
  rw [ht] at hP1
  replace hP1 : va_P (dC, dI) vwCl [(h0, .inr (0, [.int (zi (mc + 1)), .ref qf_2, .int (zi 1)])), (qf_2, aR cO cp_2 eg_2), (va, .inr (3, [.int (zi kd), .int (zi ad), .int (zi bd), .int (zi cd)])), (qd, aR cO 0 ef)] H1 := hP1
  replace hD1 : va_D _ [(h0, .inr (0, [.int (zi (mc + 1)), .ref qf_2, .int (zi 1)])), (qf_2, aR cO cp_2 eg_2), (va, .inr (3, [.int (zi kd), .int (zi ad), .int (zi bd), .int (zi cd)])), (qd, aR cO 0 ef)] := hD1
  obtain ⟨hP, hD⟩ := va_join (wr := []) (w1 := [(h0, .inr (0, [.int (zi (mc + 1)), .ref qf_2, .int (zi 1)])), (qf_2, aR cO cp_2 eg_2), (va, .inr (3, [.int (zi kd), .int (zi ad), .int (zi bd), .int (zi cd)])), (qd, aR cO 0 ef)]) hP hD [0, 1, 2] [] rfl rfl (by decide) (by decide) hk1 hFc hP1 hD1
  generalize H1 = H at hP hS ⊢
  have hP : va_P (dC, dI) vwCl [(h0, .inr (0, [.int (zi (mc + 1)), .ref qf_2, .int (zi 1)])), (qf_2, aR cO cp_2 eg_2), (va, .inr (3, [.int (zi kd), .int (zi ad), .int (zi bd), .int (zi cd)])), (qd, aR cO 0 ef)] H := hP
  have hD : va_D A [(h0, .inr (0, [.int (zi (mc + 1)), .ref qf_2, .int (zi 1)])), (qf_2, aR cO cp_2 eg_2), (va, .inr (3, [.int (zi kd), .int (zi ad), .int (zi bd), .int (zi cd)])), (qd, aR cO 0 ef)] := hD
  refine zw_iconst hx hb dJx4a65c_add_9ea2d_23 ?_
  have hP9 := hP.sub (ws' := [(h0, .inr (0, [.int (zi (mc + 1)), .ref qf_2, .int (zi 1)])), (qf_2, aR cO cp_2 eg_2), (va, .inr (3, [.int (zi kd), .int (zi ad), .int (zi bd), .int (zi cd)])), (qd, aR cO 0 ef)]) [0, 1, 2, 3] rfl
  have hD9 := hD.sub (ws' := [(h0, .inr (0, [.int (zi (mc + 1)), .ref qf_2, .int (zi 1)])), (qf_2, aR cO cp_2 eg_2), (va, .inr (3, [.int (zi kd), .int (zi ad), .int (zi bd), .int (zi cd)])), (qd, aR cO 0 ef)]) [0, 1, 2, 3] (by decide) rfl
  have hp9 : ((∀ j : Nat, (j : Int) < 0 → eg_2 j = ef j) ∧ eg_2 (Int.toNat 0) = some va) ∧ (cp_2 = 10 ∧ (0 : Int) < 10 ∨ cp_2 = 15 ∧ (0 : Int) < 15) := by
    assumption
  refine W.widen (k := 1) (n := 15) (Nat.le_of_ble_eq_true rfl) (Nat.le_of_ble_eq_true rfl) ?_
  exact W.zret (v := zi 1) hx hb hr (zi_nb (by omega)) (fun t ht hW => ⟨⟨zi 1, (qf_2, cp_2, eg_2), rfl, ⟨rfl, hp9⟩, by rw [ht]; exact hP9, va_K.moved hW.alike hK, hD9⟩, hS.F ht⟩) hS.2.2 dJx4a65c_add_9ea2d_24

set_option maxHeartbeats 4000000 in
set_option maxRecDepth 100000 in
theorem c_Jx_addB (l : Launch)  (dC : Nat → ClassId) (dI : Nat → Nat → Nat) (cO : ClassId) (h0 : Nat) (mc : Int) (qe : Nat) (ru : Int) (cap : Nat) (ef : Nat → Option Nat) (va : Nat) (kd : Int) (ad : Int) (bd : Int) (cd : Int) (rf : Nat → Nat) (kf : Nat → Int) (af : Nat → Int) (bf : Nat → Int) (zf : Nat → Int) (qd : Nat) (mi : Nat) (sz : Nat) (hp0 : 0 ≤ ru ∧ ru < (cap : Int)) (hp1 : cap = 10 ∨ cap = 15) : Met l yJx4a65c_add_72be8 wsJx4a65c_add_72be8 ({ frames := 5, cells := 1, slots := 15, locals := 147 }) (zPwF (dC, dI) [(cO, .object "java/lang/Object")] sz [.ref h0, .ref va, .ref qe, .int (zi ru)] [(h0, .inr (0, [.int (zi mc), .ref qe, .int (zi ru)])), (qe, aR cO cap ef), (va, .inr (3, [.int (zi kd), .int (zi ad), .int (zi bd), .int (zi cd)]))] (zRO (dC, dI) ru rf kf af bf zf qd mi)) (va_Qv (fun (u : (Nat) × (Nat) × (Nat → Option Nat)) => ((∀ j : Nat, (j : Int) < ru → u.2.2 j = ef j) ∧ u.2.2 (Int.toNat ru) = some va) ∧ (u.2.1 = 10 ∧ (ru : Int) < 10 ∨ u.2.1 = 15 ∧ (ru : Int) < 15)) (fun (u : (Nat) × (Nat) × (Nat → Option Nat)) => zB (dC, dI) [(cO, .object "java/lang/Object")] (va_A [(h0, .inr (0, [.int (zi mc), .ref qe, .int (zi ru)])), (qe, aR cO cap ef), (va, .inr (3, [.int (zi kd), .int (zi ad), .int (zi bd), .int (zi cd)]))] sz) [(h0, .inr (0, [.int (zi mc), .ref u.1, .int (zi (ru + 1))])), (u.1, aR cO u.2.1 u.2.2), (va, .inr (3, [.int (zi kd), .int (zi ad), .int (zi bd), .int (zi cd)]))] ()) (va_A [(h0, .inr (0, [.int (zi mc), .ref qe, .int (zi ru)])), (qe, aR cO cap ef), (va, .inr (3, [.int (zi kd), .int (zi ad), .int (zi bd), .int (zi cd)]))] sz)) 1 15 (va_A [(h0, .inr (0, [.int (zi mc), .ref qe, .int (zi ru)])), (qe, aR cO cap ef), (va, .inr (3, [.int (zi kd), .int (zi ad), .int (zi bd), .int (zi cd)]))] sz) := by
  refine Met.ofW (cc := cJx4a65c_add_72be8) (maxL := 4) (ret := none) (by decide) rfl ?_
  intro p e s m args below meth c s₁ B hml hv
  obtain ⟨rfl, hsz, hP, hK, hD0, hG⟩ := hv
  have hx := B.exec
  have hb := B.bytes
  have hr := B.returns
  have hts := atoms_spec (ws := wsJx4a65c_add_72be8) B.pre
  have hown : s.vm.findClass RJx4a65c = some m.cls := findClass_of_methodNamed B.named
  have hlocks := B.notSynchronized
  subst hsz
  have hD := hD0.self (sz := s.heap.size)
  generalize hAe : va_A [(h0, .inr (0, [.int (zi mc), .ref qe, .int (zi ru)])), (qe, aR cO cap ef), (va, .inr (3, [.int (zi kd), .int (zi ad), .int (zi bd), .int (zi cd)]))] s.heap.size = A at hD hG ⊢
  have hA : ∀ q : Nat, s.heap.size ≤ q → A q := fun q h => by rw [← hAe]; exact Or.inr h
  have hS : va_S A s.heap s.heap [] := va_S.rf
  have hP : va_P (dC, dI) vwCl [(h0, .inr (0, [.int (zi mc), .ref qe, .int (zi ru)])), (qe, aR cO cap ef), (va, .inr (3, [.int (zi kd), .int (zi ad), .int (zi bd), .int (zi cd)]))] s.heap := hP
  have hl := lv_entry ([.ref h0, .ref va, .ref qe, .int (zi ru)]) (n := 4) (Nat.le_of_ble_eq_true rfl)
  rw [lg_entry_eq]
  generalize (lg_sl ([.ref h0, .ref va, .ref qe, .int (zi ru)]) ++ List.replicate (4 - (lg_sl ([.ref h0, .ref va, .ref qe, .int (zi ru)])).length) Slot.unset).toArray = ls at hl ⊢
  have hl : lv_has ls 4 [(0, .ref h0), (1, .ref va), (2, .ref qe), (3, .int (zi ru))] := hl
  refine lv_iload_n hx hb dJx4a65c_add_72be8_0 rfl (lv_at hl 3 rfl) ?_
  refine lv_aload_n hx hb dJx4a65c_add_72be8_1 rfl (lv_at hl 2 rfl) ?_
  refine zw_alen hx hb hK hP 1 0 rfl rfl dJx4a65c_add_72be8_2 ?_
  refine zw_icmp_ne (tgt := 11) hx hb dJx4a65c_add_72be8_3 (by decide) ⟨by omega, by omega⟩ ⟨by omega, by omega⟩ (fun h1 => ?_) (fun h1 => ?_)
  · skip
    refine lv_aload_n hx hb dJx4a65c_add_72be8_11 rfl (lv_at hl 2 rfl) ?_
    refine lv_iload_n hx hb dJx4a65c_add_72be8_12 rfl (lv_at hl 3 rfl) ?_
    refine lv_aload_n hx hb dJx4a65c_add_72be8_13 rfl (lv_at hl 1 rfl) ?_
    refine zw_aast hx hb hK hP hD hS 1 0 rfl rfl (va_rAny hK hP (q0 := 2) (ci := 3) rfl rfl (zRO_c hG)) (by omega) (by omega) ⟨by omega, by omega⟩ dJx4a65c_add_72be8_14 (fun H locs hP hD hS => ?_)
    have hP : va_P (dC, dI) vwCl [(h0, .inr (0, [.int (zi mc), .ref qe, .int (zi ru)])), (qe, aR cO cap (va_up ef ru.toNat (some va))), (va, .inr (3, [.int (zi kd), .int (zi ad), .int (zi bd), .int (zi cd)]))] H := hP
    have hD : va_D A [(h0, .inr (0, [.int (zi mc), .ref qe, .int (zi ru)])), (qe, aR cO cap (va_up ef ru.toNat (some va))), (va, .inr (3, [.int (zi kd), .int (zi ad), .int (zi bd), .int (zi cd)]))] := hD
    refine lv_aload_n hx hb dJx4a65c_add_72be8_15 rfl (lv_at hl 0 rfl) ?_
    refine lv_iload_n hx hb dJx4a65c_add_72be8_16 rfl (lv_at hl 3 rfl) ?_
    refine zw_iconst hx hb dJx4a65c_add_72be8_17 ?_
    refine zw_iadd hx hb dJx4a65c_add_72be8_18 ?_
    refine va_put (D := (dC, dI)) (ci := 0) (v := .int (zi (ru + 1))) (ty := .int) (C := RJx4a65c) (T := TJx4a65c) (N := 3) hx hb hts (by decide +kernel) tyJx4a65c tyJx4a65c_ok nmJx4a65c hown hK hP hD hS 0 rfl rfl 2 (by decide) (hts (.fieldLink RJx4a65c 48 "java/util/ArrayList" "size" "I") (by decide +kernel)) (fun _ h9 => h9) rfl (by decide +kernel) rfl rfl (Nat.le_of_ble_eq_true rfl) dJx4a65c_add_72be8_19 (fun H locs hP hD hS => ?_)
    have hP : va_P (dC, dI) vwCl [(h0, .inr (0, [.int (zi mc), .ref qe, .int (zi (ru + 1))])), (qe, aR cO cap (va_up ef ru.toNat (some va))), (va, .inr (3, [.int (zi kd), .int (zi ad), .int (zi bd), .int (zi cd)]))] H := hP
    have hD : va_D A [(h0, .inr (0, [.int (zi mc), .ref qe, .int (zi (ru + 1))])), (qe, aR cO cap (va_up ef ru.toNat (some va))), (va, .inr (3, [.int (zi kd), .int (zi ad), .int (zi bd), .int (zi cd)]))] := hD
    have hP9 := hP.sub (ws' := [(h0, .inr (0, [.int (zi mc), .ref qe, .int (zi (ru + 1))])), (qe, aR cO cap (va_up ef ru.toNat (some va))), (va, .inr (3, [.int (zi kd), .int (zi ad), .int (zi bd), .int (zi cd)]))]) [0, 1, 2] rfl
    have hD9 := hD.sub (ws' := [(h0, .inr (0, [.int (zi mc), .ref qe, .int (zi (ru + 1))])), (qe, aR cO cap (va_up ef ru.toNat (some va))), (va, .inr (3, [.int (zi kd), .int (zi ad), .int (zi bd), .int (zi cd)]))]) [0, 1, 2] (by decide) rfl
    have hp9 : ((∀ j : Nat, (j : Int) < ru → (va_up ef ru.toNat (some va)) j = ef j) ∧ (va_up ef ru.toNat (some va)) (Int.toNat ru) = some va) ∧ (cap = 10 ∧ (ru : Int) < 10 ∨ cap = 15 ∧ (ru : Int) < 15) := by
      exact ⟨zad _ _ _ _ _ (by omega) (by first | assumption | exact fun _ _ => rfl), by omega⟩
    refine W.widen (k := 1) (n := 15) (Nat.le_of_ble_eq_true rfl) (Nat.le_of_ble_eq_true rfl) ?_
    exact W.vret hx hb hr (fun t ht hW => ⟨⟨(qe, cap, (va_up ef ru.toNat (some va))), rfl, hp9, by rw [ht]; exact hP9, va_K.moved hW.alike hK, hD9⟩, hS.F ht⟩) hS.2.2 dJx4a65c_add_72be8_22
  · skip
    exact absurd True.intro (by omega)

set_option maxHeartbeats 4000000 in
set_option maxRecDepth 100000 in
theorem c_Jx_add (l : Launch)  (dC : Nat → ClassId) (dI : Nat → Nat → Nat) (cO : ClassId) (h0 : Nat) (mc : Int) (qe : Nat) (ru : Int) (cap : Nat) (ef : Nat → Option Nat) (va : Nat) (kd : Int) (ad : Int) (bd : Int) (cd : Int) (rf : Nat → Nat) (kf : Nat → Int) (af : Nat → Int) (bf : Nat → Int) (zf : Nat → Int) (qd : Nat) (mi : Nat) (sz : Nat) (hp0 : 0 ≤ ru ∧ ru < (cap : Int)) (hp1 : cap = 10 ∨ cap = 15) : Met l yJx4a65c_add_9ea2d wsJx4a65c_add_9ea2d ({ frames := 6, cells := 1, slots := 15, locals := 170 }) (zPwF (dC, dI) [(cO, .object "java/lang/Object")] sz [.ref h0, .ref va] [(h0, .inr (0, [.int (zi mc), .ref qe, .int (zi ru)])), (qe, aR cO cap ef), (va, .inr (3, [.int (zi kd), .int (zi ad), .int (zi bd), .int (zi cd)]))] (zRO (dC, dI) ru rf kf af bf zf qd mi)) (va_Qi (fun (r : Int32) (u : (Nat) × (Nat) × (Nat → Option Nat)) => r = zi 1 ∧ (((∀ j : Nat, (j : Int) < ru → u.2.2 j = ef j) ∧ u.2.2 (Int.toNat ru) = some va) ∧ (u.2.1 = 10 ∧ (ru : Int) < 10 ∨ u.2.1 = 15 ∧ (ru : Int) < 15))) (fun (u : (Nat) × (Nat) × (Nat → Option Nat)) => zB (dC, dI) [(cO, .object "java/lang/Object")] (va_A [(h0, .inr (0, [.int (zi mc), .ref qe, .int (zi ru)])), (qe, aR cO cap ef), (va, .inr (3, [.int (zi kd), .int (zi ad), .int (zi bd), .int (zi cd)]))] sz) [(h0, .inr (0, [.int (zi (mc + 1)), .ref u.1, .int (zi (ru + 1))])), (u.1, aR cO u.2.1 u.2.2), (va, .inr (3, [.int (zi kd), .int (zi ad), .int (zi bd), .int (zi cd)]))] ()) (va_A [(h0, .inr (0, [.int (zi mc), .ref qe, .int (zi ru)])), (qe, aR cO cap ef), (va, .inr (3, [.int (zi kd), .int (zi ad), .int (zi bd), .int (zi cd)]))] sz)) 1 15 (va_A [(h0, .inr (0, [.int (zi mc), .ref qe, .int (zi ru)])), (qe, aR cO cap ef), (va, .inr (3, [.int (zi kd), .int (zi ad), .int (zi bd), .int (zi cd)]))] sz) := by
  refine Met.ofW (cc := cJx4a65c_add_9ea2d) (maxL := 2) (ret := (some .boolean)) (by decide) rfl ?_
  intro p e s m args below meth c s₁ B hml hv
  obtain ⟨rfl, hsz, hP, hK, hD0, hG⟩ := hv
  have hx := B.exec
  have hb := B.bytes
  have hr := B.returns
  have hts := atoms_spec (ws := wsJx4a65c_add_9ea2d) B.pre
  have hown : s.vm.findClass RJx4a65c = some m.cls := findClass_of_methodNamed B.named
  have hlocks := B.notSynchronized
  subst hsz
  have hD := hD0.self (sz := s.heap.size)
  generalize hAe : va_A [(h0, .inr (0, [.int (zi mc), .ref qe, .int (zi ru)])), (qe, aR cO cap ef), (va, .inr (3, [.int (zi kd), .int (zi ad), .int (zi bd), .int (zi cd)]))] s.heap.size = A at hD hG ⊢
  have hA : ∀ q : Nat, s.heap.size ≤ q → A q := fun q h => by rw [← hAe]; exact Or.inr h
  have hS : va_S A s.heap s.heap [] := va_S.rf
  have hP : va_P (dC, dI) vwCl [(h0, .inr (0, [.int (zi mc), .ref qe, .int (zi ru)])), (qe, aR cO cap ef), (va, .inr (3, [.int (zi kd), .int (zi ad), .int (zi bd), .int (zi cd)]))] s.heap := hP
  have hl := lv_entry ([.ref h0, .ref va]) (n := 2) (Nat.le_of_ble_eq_true rfl)
  rw [lg_entry_eq]
  generalize (lg_sl ([.ref h0, .ref va]) ++ List.replicate (2 - (lg_sl ([.ref h0, .ref va])).length) Slot.unset).toArray = ls at hl ⊢
  have hl : lv_has ls 2 [(0, .ref h0), (1, .ref va)] := hl
  refine lv_aload_n hx hb dJx4a65c_add_9ea2d_0 rfl (lv_at hl 0 rfl) ?_
  refine lv_dup hx hb dJx4a65c_add_9ea2d_1 rfl ?_
  refine va_get (D := (dC, dI)) (ci := 0) (v := .int (zi mc)) (C := RJx4a65c) (T := TJx4a65c) (N := 3) hx hb hts (by decide +kernel) hown hK hP 0 rfl rfl 0 (by decide) (hts (.fieldLink RJx4a65c 63 "java/util/ArrayList" "modCount" "I") (by decide +kernel)) (fun x9 h9 => u_same (hts (.sameField "java/util/ArrayList" "java/util/AbstractList" "modCount" "I") (by decide +kernel)) x9 h9) rfl dJx4a65c_add_9ea2d_2 ?_
  refine zw_iconst hx hb dJx4a65c_add_9ea2d_5 ?_
  refine zw_iadd hx hb dJx4a65c_add_9ea2d_6 ?_
  refine va_put (D := (dC, dI)) (ci := 0) (v := .int (zi (mc + 1))) (ty := .int) (C := RJx4a65c) (T := TJx4a65c) (N := 3) hx hb hts (by decide +kernel) tyJx4a65c tyJx4a65c_ok nmJx4a65c hown hK hP hD hS 0 rfl rfl 0 (by decide) (hts (.fieldLink RJx4a65c 63 "java/util/ArrayList" "modCount" "I") (by decide +kernel)) (fun x9 h9 => u_same (hts (.sameField "java/util/ArrayList" "java/util/AbstractList" "modCount" "I") (by decide +kernel)) x9 h9) rfl (by decide +kernel) rfl rfl (Nat.le_of_ble_eq_true rfl) dJx4a65c_add_9ea2d_7 (fun H locs hP hD hS => ?_)
  have hP : va_P (dC, dI) vwCl [(h0, .inr (0, [.int (zi (mc + 1)), .ref qe, .int (zi ru)])), (qe, aR cO cap ef), (va, .inr (3, [.int (zi kd), .int (zi ad), .int (zi bd), .int (zi cd)]))] H := hP
  have hD : va_D A [(h0, .inr (0, [.int (zi (mc + 1)), .ref qe, .int (zi ru)])), (qe, aR cO cap ef), (va, .inr (3, [.int (zi kd), .int (zi ad), .int (zi bd), .int (zi cd)]))] := hD
  refine lv_aload_n hx hb dJx4a65c_add_9ea2d_10 rfl (lv_at hl 0 rfl) ?_
  refine lv_aload_n hx hb dJx4a65c_add_9ea2d_11 rfl (lv_at hl 1 rfl) ?_
  refine lv_aload_n hx hb dJx4a65c_add_9ea2d_12 rfl (lv_at hl 0 rfl) ?_
  refine va_get (D := (dC, dI)) (ci := 0) (v := .ref qe) (C := RJx4a65c) (T := TJx4a65c) (N := 3) hx hb hts (by decide +kernel) hown hK hP 0 rfl rfl 1 (by decide) (hts (.fieldLink RJx4a65c 9 "java/util/ArrayList" "elementData" "[Ljava/lang/Object;") (by decide +kernel)) (fun _ h9 => h9) rfl dJx4a65c_add_9ea2d_13 ?_
  refine lv_aload_n hx hb dJx4a65c_add_9ea2d_16 rfl (lv_at hl 0 rfl) ?_
  refine va_get (D := (dC, dI)) (ci := 0) (v := .int (zi ru)) (C := RJx4a65c) (T := TJx4a65c) (N := 3) hx hb hts (by decide +kernel) hown hK hP 0 rfl rfl 2 (by decide) (hts (.fieldLink RJx4a65c 48 "java/util/ArrayList" "size" "I") (by decide +kernel)) (fun _ h9 => h9) rfl dJx4a65c_add_9ea2d_17 ?_
  have hh1 := c_Jx_addB l dC dI cO h0 (mc + 1) qe ru cap ef va kd ad bd cd rf kf af bf zf qd mi H.size (by first | exact hp0 | omega) (by first | exact hp1 | omega)
  have hPc := hP.sub (ws' := [(h0, .inr (0, [.int (zi (mc + 1)), .ref qe, .int (zi ru)])), (qe, aR cO cap ef), (va, .inr (3, [.int (zi kd), .int (zi ad), .int (zi bd), .int (zi cd)]))]) [0, 1, 2] rfl
  have hKc : va_K (dC, dI) vwCl [(cO, .object "java/lang/Object")] s := hK
  have hDc := hD.sub (ws' := [(h0, .inr (0, [.int (zi (mc + 1)), .ref qe, .int (zi ru)])), (qe, aR cO cap ef), (va, .inr (3, [.int (zi kd), .int (zi ad), .int (zi bd), .int (zi cd)]))]) [0, 1, 2] (by decide) rfl
  have hFc := va_free (wc := [(h0, .inr (0, [.int (zi (mc + 1)), .ref qe, .int (zi ru)])), (qe, aR cO cap ef), (va, .inr (3, [.int (zi kd), .int (zi ad), .int (zi bd), .int (zi cd)]))]) hD hS hA [0, 1, 2] rfl
  refine va_callv (va_runV (As := [.ref va, .ref qe, .int (zi ru)]) (rest := []) ⟨hx, hb, hml, hown, hts⟩ hh1 (cwV 3 hts gJx4a65c_add_9ea2d_Jx4a65c_add_72be8 rfl rfl rfl (by decide +kernel) ⟨Nat.le_of_ble_eq_true rfl, Nat.le_of_ble_eq_true rfl⟩) ⟨zPwF.blind _ _ _ _ _ zRO_ok, va_recv hKc hPc (ci := 0) (q0 := 0) rfl rfl, fun U hU hW => ⟨rfl, by rw [hU], by rw [hU]; exact hPc, va_K.moved hW.alike hKc, hDc.weaken (fun _ _ _ _ => trivial), zF.call zRO_ok hG hS hFc hU hW⟩⟩ rfl rfl hl.1 rfl (lv_room (Nat.le_of_ble_eq_true rfl)) dJx4a65c_add_9ea2d_20 ⟨Nat.le_of_ble_eq_true rfl, Nat.le_of_ble_eq_true rfl⟩) hS (fun q _ h => hFc q h) hFc (fun u t H1 locs ht hvm hw hB hz1 hk1 hS => ?_)
  obtain ⟨qf_2, cp_2, eg_2⟩ := u
  have hw1 := hw
  replace hw1 : ((∀ j : Nat, (j : Int) < ru → eg_2 j = ef j) ∧ eg_2 (Int.toNat ru) = some va) ∧ (cp_2 = 10 ∧ (ru : Int) < 10 ∨ cp_2 = 15 ∧ (ru : Int) < 15) := hw1
  obtain ⟨hP1, hK1, hD1⟩ := hB
  rw [ht] at hP1
  replace hP1 : va_P (dC, dI) vwCl [(h0, .inr (0, [.int (zi (mc + 1)), .ref qf_2, .int (zi (ru + 1))])), (qf_2, aR cO cp_2 eg_2), (va, .inr (3, [.int (zi kd), .int (zi ad), .int (zi bd), .int (zi cd)]))] H1 := hP1
  replace hD1 : va_D _ [(h0, .inr (0, [.int (zi (mc + 1)), .ref qf_2, .int (zi (ru + 1))])), (qf_2, aR cO cp_2 eg_2), (va, .inr (3, [.int (zi kd), .int (zi ad), .int (zi bd), .int (zi cd)]))] := hD1
  obtain ⟨hP, hD⟩ := va_join (wr := []) (w1 := [(h0, .inr (0, [.int (zi (mc + 1)), .ref qf_2, .int (zi (ru + 1))])), (qf_2, aR cO cp_2 eg_2), (va, .inr (3, [.int (zi kd), .int (zi ad), .int (zi bd), .int (zi cd)]))]) hP hD [0, 1, 2] [] rfl rfl (by decide) (by decide) hk1 hFc hP1 hD1
  generalize H1 = H at hP hS ⊢
  have hP : va_P (dC, dI) vwCl [(h0, .inr (0, [.int (zi (mc + 1)), .ref qf_2, .int (zi (ru + 1))])), (qf_2, aR cO cp_2 eg_2), (va, .inr (3, [.int (zi kd), .int (zi ad), .int (zi bd), .int (zi cd)]))] H := hP
  have hD : va_D A [(h0, .inr (0, [.int (zi (mc + 1)), .ref qf_2, .int (zi (ru + 1))])), (qf_2, aR cO cp_2 eg_2), (va, .inr (3, [.int (zi kd), .int (zi ad), .int (zi bd), .int (zi cd)]))] := hD
  refine zw_iconst hx hb dJx4a65c_add_9ea2d_23 ?_
  have hP9 := hP.sub (ws' := [(h0, .inr (0, [.int (zi (mc + 1)), .ref qf_2, .int (zi (ru + 1))])), (qf_2, aR cO cp_2 eg_2), (va, .inr (3, [.int (zi kd), .int (zi ad), .int (zi bd), .int (zi cd)]))]) [0, 1, 2] rfl
  have hD9 := hD.sub (ws' := [(h0, .inr (0, [.int (zi (mc + 1)), .ref qf_2, .int (zi (ru + 1))])), (qf_2, aR cO cp_2 eg_2), (va, .inr (3, [.int (zi kd), .int (zi ad), .int (zi bd), .int (zi cd)]))]) [0, 1, 2] (by decide) rfl
  have hp9 : ((∀ j : Nat, (j : Int) < ru → eg_2 j = ef j) ∧ eg_2 (Int.toNat ru) = some va) ∧ (cp_2 = 10 ∧ (ru : Int) < 10 ∨ cp_2 = 15 ∧ (ru : Int) < 15) := by
    assumption
  refine W.widen (k := 1) (n := 15) (Nat.le_of_ble_eq_true rfl) (Nat.le_of_ble_eq_true rfl) ?_
  exact W.zret (v := zi 1) hx hb hr (zi_nb (by omega)) (fun t ht hW => ⟨⟨zi 1, (qf_2, cp_2, eg_2), rfl, ⟨rfl, hp9⟩, by rw [ht]; exact hP9, va_K.moved hW.alike hK, hD9⟩, hS.F ht⟩) hS.2.2 dJx4a65c_add_9ea2d_24

theorem c_Jx_addA (l : Launch)  (dC : Nat → ClassId) (dI : Nat → Nat → Nat) (cO : ClassId) (h0 : Nat) (mc : Int) (qe : Nat) (ru : Int) (cap : Nat) (ef : Nat → Option Nat) (va : Nat) (kd : Int) (ad : Int) (bd : Int) (cd : Int) (rf : Nat → Nat) (kf : Nat → Int) (af : Nat → Int) (bf : Nat → Int) (zf : Nat → Int) (qd : Nat) (mi : Nat) (sz : Nat) (hp0 : 0 ≤ ru ∧ ru ≤ 11) (hp1 : cap = 10 ∧ ru ≤ 10 ∨ cap = 15 ∧ ru ≤ 11) (hp2 : ∀ j : Nat, (j : Int) < ru → ef j = some (rf j)) : Met l yJx4a65c_add_9ea2d wsJx4a65c_add_9ea2d ({ frames := 6, cells := 1, slots := 15, locals := 170 }) (zPwF (dC, dI) [(cO, .object "java/lang/Object")] sz [.ref h0, .ref va] [(h0, .inr (0, [.int (zi mc), .ref qe, .int (zi ru)])), (qe, aR cO cap ef), (va, .inr (3, [.int (zi kd), .int (zi ad), .int (zi bd), .int (zi cd)]))] (zRO (dC, dI) ru rf kf af bf zf qd mi)) (va_Qi (fun (r : Int32) (u : (Nat) × (Nat) × (Nat → Option Nat)) => r = zi 1 ∧ (((∀ j : Nat, (j : Int) < ru → u.2.2 j = ef j) ∧ u.2.2 (Int.toNat ru) = some va) ∧ (u.2.1 = 10 ∧ (ru : Int) < 10 ∨ u.2.1 = 15 ∧ (ru : Int) < 15))) (fun (u : (Nat) × (Nat) × (Nat → Option Nat)) => zB (dC, dI) [(cO, .object "java/lang/Object")] (va_A [(h0, .inr (0, [.int (zi mc), .ref qe, .int (zi ru)])), (qe, aR cO cap ef), (va, .inr (3, [.int (zi kd), .int (zi ad), .int (zi bd), .int (zi cd)]))] sz) [(h0, .inr (0, [.int (zi (mc + 1)), .ref u.1, .int (zi (ru + 1))])), (u.1, aR cO u.2.1 u.2.2), (va, .inr (3, [.int (zi kd), .int (zi ad), .int (zi bd), .int (zi cd)]))] ()) (va_A [(h0, .inr (0, [.int (zi mc), .ref qe, .int (zi ru)])), (qe, aR cO cap ef), (va, .inr (3, [.int (zi kd), .int (zi ad), .int (zi bd), .int (zi cd)]))] sz)) 1 15 (va_A [(h0, .inr (0, [.int (zi mc), .ref qe, .int (zi ru)])), (qe, aR cO cap ef), (va, .inr (3, [.int (zi kd), .int (zi ad), .int (zi bd), .int (zi cd)]))] sz) := by
  rcases hp1 with ⟨rfl, h⟩ | ⟨rfl, h⟩
  · by_cases h2 : ru = 10
    · subst h2
      rw [show (10 : Int) + 1 = 11 from rfl]
      exact c_Jx_add_10 l dC dI cO h0 mc qe ef va kd ad bd cd rf kf af bf zf qd mi sz hp2
    · exact c_Jx_add l dC dI cO h0 mc qe ru 10 ef va kd ad bd cd rf kf af bf zf qd mi sz ⟨hp0.1, by omega⟩ (Or.inl rfl)
  · exact c_Jx_add l dC dI cO h0 mc qe ru 15 ef va kd ad bd cd rf kf af bf zf qd mi sz ⟨hp0.1, by omega⟩ (Or.inr rfl)

set_option maxHeartbeats 4000000 in
set_option maxRecDepth 100000 in
theorem c_Jx_fastRemove (l : Launch)  (dC : Nat → ClassId) (dI : Nat → Nat → Nat) (cO : ClassId) (h0 : Nat) (mc : Int) (qe : Nat) (ru : Int) (cap : Nat) (ef : Nat → Option Nat) (rf : Nat → Nat) (kf : Nat → Int) (af : Nat → Int) (bf : Nat → Int) (zf : Nat → Int) (qd : Nat) (mi : Nat) (ix : Int) (sz : Nat) (hp0 : 0 ≤ ix ∧ ix < ru ∧ ru ≤ (cap : Int) ∧ (cap : Int) ≤ 1000) (hp1 : ∀ j : Nat, (j : Int) < ru → ef j = some (rf j)) : Met l yJx4a65c_fastRemove_b59b0 wsJx4a65c_fastRemove_b59b0 ({ frames := 1, cells := 0, slots := 0, locals := 60 }) (zPwF (dC, dI) [(cO, .object "java/lang/Object")] sz [.ref h0, .ref qe, .int (zi ix)] [(h0, .inr (0, [.int (zi mc), .ref qe, .int (zi ru)])), (qe, aR cO cap ef)] (zRO (dC, dI) ru rf kf af bf zf qd mi)) (va_Qv (fun (u : (Nat → Option Nat)) => ∀ j : Nat, (j : Int) < ru - 1 → u j = if (j : Int) < ix then ef j else ef (j + 1)) (fun (u : (Nat → Option Nat)) => zB (dC, dI) [(cO, .object "java/lang/Object")] (va_A [(h0, .inr (0, [.int (zi mc), .ref qe, .int (zi ru)])), (qe, aR cO cap ef)] sz) [(h0, .inr (0, [.int (zi (mc + 1)), .ref qe, .int (zi (ru - 1))])), (qe, aR cO cap u)] ()) (va_A [(h0, .inr (0, [.int (zi mc), .ref qe, .int (zi ru)])), (qe, aR cO cap ef)] sz)) 0 0 (va_A [(h0, .inr (0, [.int (zi mc), .ref qe, .int (zi ru)])), (qe, aR cO cap ef)] sz) := by
  refine Met.ofW (cc := cJx4a65c_fastRemove_b59b0) (maxL := 4) (ret := none) (by decide) rfl ?_
  intro p e s m args below meth c s₁ B hml hv
  obtain ⟨rfl, hsz, hP, hK, hD0, hG⟩ := hv
  have hx := B.exec
  have hb := B.bytes
  have hr := B.returns
  have hts := atoms_spec (ws := wsJx4a65c_fastRemove_b59b0) B.pre
  have hown : s.vm.findClass RJx4a65c = some m.cls := findClass_of_methodNamed B.named
  have hlocks := B.notSynchronized
  subst hsz
  have hD := hD0.self (sz := s.heap.size)
  generalize hAe : va_A [(h0, .inr (0, [.int (zi mc), .ref qe, .int (zi ru)])), (qe, aR cO cap ef)] s.heap.size = A at hD hG ⊢
  have hA : ∀ q : Nat, s.heap.size ≤ q → A q := fun q h => by rw [← hAe]; exact Or.inr h
  have hS : va_S A s.heap s.heap [] := va_S.rf
  have hP : va_P (dC, dI) vwCl [(h0, .inr (0, [.int (zi mc), .ref qe, .int (zi ru)])), (qe, aR cO cap ef)] s.heap := hP
  have hl := lv_entry ([.ref h0, .ref qe, .int (zi ix)]) (n := 4) (Nat.le_of_ble_eq_true rfl)
  rw [lg_entry_eq]
  generalize (lg_sl ([.ref h0, .ref qe, .int (zi ix)]) ++ List.replicate (4 - (lg_sl ([.ref h0, .ref qe, .int (zi ix)])).length) Slot.unset).toArray = ls at hl ⊢
  have hl : lv_has ls 4 [(0, .ref h0), (1, .ref qe), (2, .int (zi ix))] := hl
  refine lv_aload_n hx hb dJx4a65c_fastRemove_b59b0_0 rfl (lv_at hl 0 rfl) ?_
  refine lv_dup hx hb dJx4a65c_fastRemove_b59b0_1 rfl ?_
  refine va_get (D := (dC, dI)) (ci := 0) (v := .int (zi mc)) (C := RJx4a65c) (T := TJx4a65c) (N := 3) hx hb hts (by decide +kernel) hown hK hP 0 rfl rfl 0 (by decide) (hts (.fieldLink RJx4a65c 63 "java/util/ArrayList" "modCount" "I") (by decide +kernel)) (fun x9 h9 => u_same (hts (.sameField "java/util/ArrayList" "java/util/AbstractList" "modCount" "I") (by decide +kernel)) x9 h9) rfl dJx4a65c_fastRemove_b59b0_2 ?_
  refine zw_iconst hx hb dJx4a65c_fastRemove_b59b0_5 ?_
  refine zw_iadd hx hb dJx4a65c_fastRemove_b59b0_6 ?_
  refine va_put (D := (dC, dI)) (ci := 0) (v := .int (zi (mc + 1))) (ty := .int) (C := RJx4a65c) (T := TJx4a65c) (N := 3) hx hb hts (by decide +kernel) tyJx4a65c tyJx4a65c_ok nmJx4a65c hown hK hP hD hS 0 rfl rfl 0 (by decide) (hts (.fieldLink RJx4a65c 63 "java/util/ArrayList" "modCount" "I") (by decide +kernel)) (fun x9 h9 => u_same (hts (.sameField "java/util/ArrayList" "java/util/AbstractList" "modCount" "I") (by decide +kernel)) x9 h9) rfl (by decide +kernel) rfl rfl (Nat.le_of_ble_eq_true rfl) dJx4a65c_fastRemove_b59b0_7 (fun H locs hP hD hS => ?_)
  have hP : va_P (dC, dI) vwCl [(h0, .inr (0, [.int (zi (mc + 1)), .ref qe, .int (zi ru)])), (qe, aR cO cap ef)] H := hP
  have hD : va_D A [(h0, .inr (0, [.int (zi (mc + 1)), .ref qe, .int (zi ru)])), (qe, aR cO cap ef)] := hD
  refine lv_aload_n hx hb dJx4a65c_fastRemove_b59b0_10 rfl (lv_at hl 0 rfl) ?_
  refine va_get (D := (dC, dI)) (ci := 0) (v := .int (zi ru)) (C := RJx4a65c) (T := TJx4a65c) (N := 3) hx hb hts (by decide +kernel) hown hK hP 0 rfl rfl 2 (by decide) (hts (.fieldLink RJx4a65c 48 "java/util/ArrayList" "size" "I") (by decide +kernel)) (fun _ h9 => h9) rfl dJx4a65c_fastRemove_b59b0_11 ?_
  refine zw_iconst hx hb dJx4a65c_fastRemove_b59b0_14 ?_
  refine zw_isub hx hb dJx4a65c_fastRemove_b59b0_15 ?_
  refine lv_dup hx hb dJx4a65c_fastRemove_b59b0_16 rfl ?_
  refine zw_top (fun x1 ex1 => ?_)
  refine lv_istore_n (lv' := [(3, .int (zi x1)), (0, .ref h0), (1, .ref qe), (2, .int (zi ix))]) hx hb dJx4a65c_fastRemove_b59b0_17 rfl hl (by decide) rfl (fun ls hl => ?_)
  refine lv_iload_n hx hb dJx4a65c_fastRemove_b59b0_18 rfl (lv_at hl 3 rfl) ?_
  refine zw_icmp_le (tgt := 34) hx hb dJx4a65c_fastRemove_b59b0_19 (by decide) ⟨by omega, by omega⟩ ⟨by omega, by omega⟩ (fun h2 => ?_) (fun h2 => ?_)
  · skip
    refine lv_aload_n hx hb dJx4a65c_fastRemove_b59b0_34 rfl (lv_at hl 2 rfl) ?_
    refine lv_aload_n hx hb dJx4a65c_fastRemove_b59b0_35 rfl (lv_at hl 1 rfl) ?_
    refine lv_iload_n hx hb dJx4a65c_fastRemove_b59b0_36 rfl (lv_at hl 0 rfl) ?_
    refine lv_dup_x1 hx hb dJx4a65c_fastRemove_b59b0_37 rfl rfl ?_
    refine va_put (D := (dC, dI)) (ci := 0) (v := .int (zi x1)) (ty := .int) (C := RJx4a65c) (T := TJx4a65c) (N := 3) hx hb hts (by decide +kernel) tyJx4a65c tyJx4a65c_ok nmJx4a65c hown hK hP hD hS 0 rfl rfl 2 (by decide) (hts (.fieldLink RJx4a65c 48 "java/util/ArrayList" "size" "I") (by decide +kernel)) (fun _ h9 => h9) rfl (by decide +kernel) rfl rfl (Nat.le_of_ble_eq_true rfl) dJx4a65c_fastRemove_b59b0_38 (fun H locs hP hD hS => ?_)
    have hP : va_P (dC, dI) vwCl [(h0, .inr (0, [.int (zi (mc + 1)), .ref qe, .int (zi x1)])), (qe, aR cO cap ef)] H := hP
    have hD : va_D A [(h0, .inr (0, [.int (zi (mc + 1)), .ref qe, .int (zi x1)])), (qe, aR cO cap ef)] := hD
    refine lv_null hx hb dJx4a65c_fastRemove_b59b0_41 ?_
    refine zw_aastN hx hb hK hP hD hS 1 0 rfl rfl (by omega) (by omega) ⟨by omega, by omega⟩ dJx4a65c_fastRemove_b59b0_42 (fun H locs hP hD hS => ?_)
    have hP : va_P (dC, dI) vwCl [(h0, .inr (0, [.int (zi (mc + 1)), .ref qe, .int (zi x1)])), (qe, aR cO cap (va_up ef x1.toNat none))] H := hP
    have hD : va_D A [(h0, .inr (0, [.int (zi (mc + 1)), .ref qe, .int (zi x1)])), (qe, aR cO cap (va_up ef x1.toNat none))] := hD
    subst ex1
    have hP9 := hP.sub (ws' := [(h0, .inr (0, [.int (zi (mc + 1)), .ref qe, .int (zi (ru - 1))])), (qe, aR cO cap (va_up ef (ru - 1).toNat none))]) [0, 1] rfl
    have hD9 := hD.sub (ws' := [(h0, .inr (0, [.int (zi (mc + 1)), .ref qe, .int (zi (ru - 1))])), (qe, aR cO cap (va_up ef (ru - 1).toNat none))]) [0, 1] (by decide) rfl
    have hp9 : ∀ j : Nat, (j : Int) < ru - 1 → (va_up ef (ru - 1).toNat none) j = if (j : Int) < ix then ef j else ef (j + 1) := by
      first | exact zrm_1 _ _ _ (by omega) _ _ _ _ (by omega) (by omega) (by omega) (by omega) | exact zrm_0 _ _ _ (by omega) _ (by omega)
    exact W.vret hx hb hr (fun t ht hW => ⟨⟨(va_up ef (ru - 1).toNat none), rfl, hp9, by rw [ht]; exact hP9, va_K.moved hW.alike hK, hD9⟩, hS.F ht⟩) hS.2.2 dJx4a65c_fastRemove_b59b0_43
  · skip
    refine lv_aload_n hx hb dJx4a65c_fastRemove_b59b0_22 rfl (lv_at hl 2 rfl) ?_
    refine lv_iload_n hx hb dJx4a65c_fastRemove_b59b0_23 rfl (lv_at hl 3 rfl) ?_
    refine zw_iconst hx hb dJx4a65c_fastRemove_b59b0_24 ?_
    refine zw_iadd hx hb dJx4a65c_fastRemove_b59b0_25 ?_
    refine lv_aload_n hx hb dJx4a65c_fastRemove_b59b0_26 rfl (lv_at hl 2 rfl) ?_
    refine lv_iload_n hx hb dJx4a65c_fastRemove_b59b0_27 rfl (lv_at hl 3 rfl) ?_
    refine lv_iload_n hx hb dJx4a65c_fastRemove_b59b0_28 rfl (lv_at hl 0 rfl) ?_
    refine lv_iload_n hx hb dJx4a65c_fastRemove_b59b0_29 rfl (lv_at hl 3 rfl) ?_
    refine zw_isub hx hb dJx4a65c_fastRemove_b59b0_30 ?_
    refine zw_copyM hx hb (hml.trans hl.1.symm) hown (hts (.methodLink RJx4a65c 112 arraycopyName) (by decide +kernel)) (hts (.native arraycopyName) (by decide +kernel)) (hts (.static arraycopyName) (by decide +kernel)) (hts (.initialized "java/lang/System") (by decide +kernel)) hK hP hD hS 1 1 0 0 rfl rfl rfl rfl (by omega) (by omega) (by omega) (by omega) (by omega) (fun i hi y hy => zRO_el hG hS hK hp1 (by omega) hy) (Nat.le_of_ble_eq_true rfl) (Nat.le_of_ble_eq_true rfl) dJx4a65c_fastRemove_b59b0_31 (fun H locs hP hD hS => ?_)
    have hP : va_P (dC, dI) vwCl [(h0, .inr (0, [.int (zi (mc + 1)), .ref qe, .int (zi ru)])), (qe, aR cO cap (va_cpy ef ef (Int.toNat (ix + 1)) ix.toNat (Int.toNat (x1 - ix))))] H := hP
    have hD : va_D A [(h0, .inr (0, [.int (zi (mc + 1)), .ref qe, .int (zi ru)])), (qe, aR cO cap (va_cpy ef ef (Int.toNat (ix + 1)) ix.toNat (Int.toNat (x1 - ix))))] := hD
    refine lv_aload_n hx hb dJx4a65c_fastRemove_b59b0_34 rfl (lv_at hl 2 rfl) ?_
    refine lv_aload_n hx hb dJx4a65c_fastRemove_b59b0_35 rfl (lv_at hl 1 rfl) ?_
    refine lv_iload_n hx hb dJx4a65c_fastRemove_b59b0_36 rfl (lv_at hl 0 rfl) ?_
    refine lv_dup_x1 hx hb dJx4a65c_fastRemove_b59b0_37 rfl rfl ?_
    refine va_put (D := (dC, dI)) (ci := 0) (v := .int (zi x1)) (ty := .int) (C := RJx4a65c) (T := TJx4a65c) (N := 3) hx hb hts (by decide +kernel) tyJx4a65c tyJx4a65c_ok nmJx4a65c hown hK hP hD hS 0 rfl rfl 2 (by decide) (hts (.fieldLink RJx4a65c 48 "java/util/ArrayList" "size" "I") (by decide +kernel)) (fun _ h9 => h9) rfl (by decide +kernel) rfl rfl (Nat.le_of_ble_eq_true rfl) dJx4a65c_fastRemove_b59b0_38 (fun H locs hP hD hS => ?_)
    have hP : va_P (dC, dI) vwCl [(h0, .inr (0, [.int (zi (mc + 1)), .ref qe, .int (zi x1)])), (qe, aR cO cap (va_cpy ef ef (Int.toNat (ix + 1)) ix.toNat (Int.toNat (x1 - ix))))] H := hP
    have hD : va_D A [(h0, .inr (0, [.int (zi (mc + 1)), .ref qe, .int (zi x1)])), (qe, aR cO cap (va_cpy ef ef (Int.toNat (ix + 1)) ix.toNat (Int.toNat (x1 - ix))))] := hD
    refine lv_null hx hb dJx4a65c_fastRemove_b59b0_41 ?_
    refine zw_aastN hx hb hK hP hD hS 1 0 rfl rfl (by omega) (by omega) ⟨by omega, by omega⟩ dJx4a65c_fastRemove_b59b0_42 (fun H locs hP hD hS => ?_)
    have hP : va_P (dC, dI) vwCl [(h0, .inr (0, [.int (zi (mc + 1)), .ref qe, .int (zi x1)])), (qe, aR cO cap (va_up (va_cpy ef ef (Int.toNat (ix + 1)) ix.toNat (Int.toNat (x1 - ix))) x1.toNat none))] H := hP
    have hD : va_D A [(h0, .inr (0, [.int (zi (mc + 1)), .ref qe, .int (zi x1)])), (qe, aR cO cap (va_up (va_cpy ef ef (Int.toNat (ix + 1)) ix.toNat (Int.toNat (x1 - ix))) x1.toNat none))] := hD
    subst ex1
    have hP9 := hP.sub (ws' := [(h0, .inr (0, [.int (zi (mc + 1)), .ref qe, .int (zi (ru - 1))])), (qe, aR cO cap (va_up (va_cpy ef ef (Int.toNat (ix + 1)) ix.toNat (Int.toNat ((ru - 1) - ix))) (ru - 1).toNat none))]) [0, 1] rfl
    have hD9 := hD.sub (ws' := [(h0, .inr (0, [.int (zi (mc + 1)), .ref qe, .int (zi (ru - 1))])), (qe, aR cO cap (va_up (va_cpy ef ef (Int.toNat (ix + 1)) ix.toNat (Int.toNat ((ru - 1) - ix))) (ru - 1).toNat none))]) [0, 1] (by decide) rfl
    have hp9 : ∀ j : Nat, (j : Int) < ru - 1 → (va_up (va_cpy ef ef (Int.toNat (ix + 1)) ix.toNat (Int.toNat ((ru - 1) - ix))) (ru - 1).toNat none) j = if (j : Int) < ix then ef j else ef (j + 1) := by
      first | exact zrm_1 _ _ _ (by omega) _ _ _ _ (by omega) (by omega) (by omega) (by omega) | exact zrm_0 _ _ _ (by omega) _ (by omega)
    exact W.vret hx hb hr (fun t ht hW => ⟨⟨(va_up (va_cpy ef ef (Int.toNat (ix + 1)) ix.toNat (Int.toNat ((ru - 1) - ix))) (ru - 1).toNat none), rfl, hp9, by rw [ht]; exact hP9, va_K.moved hW.alike hK, hD9⟩, hS.F ht⟩) hS.2.2 dJx4a65c_fastRemove_b59b0_43

set_option maxHeartbeats 4000000 in
set_option maxRecDepth 100000 in
theorem c_Jx_remove (l : Launch)  (dC : Nat → ClassId) (dI : Nat → Nat → Nat) (cO : ClassId) (h0 : Nat) (mc : Int) (qe : Nat) (ru : Int) (cap : Nat) (ef : Nat → Option Nat) (rf : Nat → Nat) (kf : Nat → Int) (af : Nat → Int) (bf : Nat → Int) (zf : Nat → Int) (qd : Nat) (mi : Nat) (ix : Int) (sz : Nat) (hp0 : 0 ≤ ix ∧ ix < ru ∧ ru ≤ (cap : Int) ∧ (cap : Int) ≤ 1000) (hp1 : ∀ j : Nat, (j : Int) < ru → ef j = some (rf j)) : Met l yJx4a65c_remove_915e3 wsJx4a65c_remove_915e3 ({ frames := 2, cells := 0, slots := 0, locals := 83 }) (zPwF (dC, dI) [(cO, .object "java/lang/Object")] sz [.ref h0, .int (zi ix)] [(h0, .inr (0, [.int (zi mc), .ref qe, .int (zi ru)])), (qe, aR cO cap ef)] (zRO (dC, dI) ru rf kf af bf zf qd mi)) (va_Qq (fun (r : Option Nat) (u : (Nat → Option Nat)) => r = (some (rf ix.toNat)) ∧ (∀ j : Nat, (j : Int) < ru - 1 → u j = if (j : Int) < ix then ef j else ef (j + 1))) (fun (u : (Nat → Option Nat)) => zB (dC, dI) [(cO, .object "java/lang/Object")] (va_A [(h0, .inr (0, [.int (zi mc), .ref qe, .int (zi ru)])), (qe, aR cO cap ef)] sz) [(h0, .inr (0, [.int (zi (mc + 1)), .ref qe, .int (zi (ru - 1))])), (qe, aR cO cap u)] ()) (va_A [(h0, .inr (0, [.int (zi mc), .ref qe, .int (zi ru)])), (qe, aR cO cap ef)] sz)) 0 0 (va_A [(h0, .inr (0, [.int (zi mc), .ref qe, .int (zi ru)])), (qe, aR cO cap ef)] sz) := by
  refine Met.ofW (cc := cJx4a65c_remove_915e3) (maxL := 4) (ret := (some (.object "java/lang/Object"))) (by decide) rfl ?_
  intro p e s m args below meth c s₁ B hml hv
  obtain ⟨rfl, hsz, hP, hK, hD0, hG⟩ := hv
  have hx := B.exec
  have hb := B.bytes
  have hr := B.returns
  have hts := atoms_spec (ws := wsJx4a65c_remove_915e3) B.pre
  have hown : s.vm.findClass RJx4a65c = some m.cls := findClass_of_methodNamed B.named
  have hlocks := B.notSynchronized
  subst hsz
  have hD := hD0.self (sz := s.heap.size)
  generalize hAe : va_A [(h0, .inr (0, [.int (zi mc), .ref qe, .int (zi ru)])), (qe, aR cO cap ef)] s.heap.size = A at hD hG ⊢
  have hA : ∀ q : Nat, s.heap.size ≤ q → A q := fun q h => by rw [← hAe]; exact Or.inr h
  have hS : va_S A s.heap s.heap [] := va_S.rf
  have hP : va_P (dC, dI) vwCl [(h0, .inr (0, [.int (zi mc), .ref qe, .int (zi ru)])), (qe, aR cO cap ef)] s.heap := hP
  have hl := lv_entry ([.ref h0, .int (zi ix)]) (n := 4) (Nat.le_of_ble_eq_true rfl)
  rw [lg_entry_eq]
  generalize (lg_sl ([.ref h0, .int (zi ix)]) ++ List.replicate (4 - (lg_sl ([.ref h0, .int (zi ix)])).length) Slot.unset).toArray = ls at hl ⊢
  have hl : lv_has ls 4 [(0, .ref h0), (1, .int (zi ix))] := hl
  refine lv_iload_n hx hb dJx4a65c_remove_915e3_0 rfl (lv_at hl 1 rfl) ?_
  refine lv_aload_n hx hb dJx4a65c_remove_915e3_1 rfl (lv_at hl 0 rfl) ?_
  refine va_get (D := (dC, dI)) (ci := 0) (v := .int (zi ru)) (C := RJx4a65c) (T := TJx4a65c) (N := 3) hx hb hts (by decide +kernel) hown hK hP 0 rfl rfl 2 (by decide) (hts (.fieldLink RJx4a65c 48 "java/util/ArrayList" "size" "I") (by decide +kernel)) (fun _ h9 => h9) rfl dJx4a65c_remove_915e3_2 ?_
  have hh1 := c_J15_checkIndex l dC dI ix ru (by omega)
  have hPc := hP.sub (ws' := []) [] rfl
  have hKc : va_K (dC, dI) vwCl [] s := hK.sub (tys' := []) [] rfl
  refine vp_callSi (va_Run.run (va_runS (As := [.int (zi ix), .int (zi ru)]) (rest := []) ⟨hx, hb, hml, hown, hts⟩ hh1 (va_cwS 2 hts gJx4a65c_remove_915e3_J15_checkIndex_7cf53 rfl rfl rfl (by decide +kernel) ⟨Nat.le_of_ble_eq_true rfl, Nat.le_of_ble_eq_true rfl⟩) ⟨zPr.blind _ _ _ _, fun U hU hW => ⟨rfl, by rw [hU]; exact hPc, va_K.moved hW.alike hKc⟩⟩ rfl rfl hl.1 rfl (lv_room (Nat.le_of_ble_eq_true rfl)) dJx4a65c_remove_915e3_5 ⟨Nat.le_of_ble_eq_true rfl, Nat.le_of_ble_eq_true rfl⟩)) (fun r1 (hr1 : r1 = zi ix) => ?_)
  subst hr1
  refine lv_pop hx hb dJx4a65c_remove_915e3_8 rfl ?_
  refine lv_aload_n hx hb dJx4a65c_remove_915e3_9 rfl (lv_at hl 0 rfl) ?_
  refine va_get (D := (dC, dI)) (ci := 0) (v := .ref qe) (C := RJx4a65c) (T := TJx4a65c) (N := 3) hx hb hts (by decide +kernel) hown hK hP 0 rfl rfl 1 (by decide) (hts (.fieldLink RJx4a65c 9 "java/util/ArrayList" "elementData" "[Ljava/lang/Object;") (by decide +kernel)) (fun _ h9 => h9) rfl dJx4a65c_remove_915e3_10 ?_
  refine lv_astore_n (lv' := [(2, .ref qe), (0, .ref h0), (1, .int (zi ix))]) hx hb dJx4a65c_remove_915e3_13 rfl hl (by decide) rfl (fun ls hl => ?_)
  refine lv_aload_n hx hb dJx4a65c_remove_915e3_14 rfl (lv_at hl 0 rfl) ?_
  refine lv_iload_n hx hb dJx4a65c_remove_915e3_15 rfl (lv_at hl 2 rfl) ?_
  refine zw_aald hx hb hK hP 1 0 rfl rfl (by omega) (by omega) ⟨by omega, by omega⟩ dJx4a65c_remove_915e3_16 ?_
  rw [hp1 ix.toNat (by omega)]
  rw [show va_rf (some (rf ix.toNat)) = Value.ref (rf ix.toNat) from rfl]
  refine lv_astore_n (lv' := [(3, .ref (rf ix.toNat)), (2, .ref qe), (0, .ref h0), (1, .int (zi ix))]) hx hb dJx4a65c_remove_915e3_17 rfl hl (by decide) rfl (fun ls hl => ?_)
  refine lv_aload_n hx hb dJx4a65c_remove_915e3_18 rfl (lv_at hl 2 rfl) ?_
  refine lv_aload_n hx hb dJx4a65c_remove_915e3_19 rfl (lv_at hl 1 rfl) ?_
  refine lv_iload_n hx hb dJx4a65c_remove_915e3_20 rfl (lv_at hl 3 rfl) ?_
  have hh2 := c_Jx_fastRemove l dC dI cO h0 mc qe ru cap ef rf kf af bf zf qd mi ix s.heap.size (by omega) (by exact hp1)
  have hPc := hP.sub (ws' := [(h0, .inr (0, [.int (zi mc), .ref qe, .int (zi ru)])), (qe, aR cO cap ef)]) [0, 1] rfl
  have hKc : va_K (dC, dI) vwCl [(cO, .object "java/lang/Object")] s := hK
  have hDc := hD.sub (ws' := [(h0, .inr (0, [.int (zi mc), .ref qe, .int (zi ru)])), (qe, aR cO cap ef)]) [0, 1] (by decide) rfl
  have hFc := va_free (wc := [(h0, .inr (0, [.int (zi mc), .ref qe, .int (zi ru)])), (qe, aR cO cap ef)]) hD hS hA [0, 1] rfl
  refine va_callv (va_runV (As := [.ref qe, .int (zi ix)]) (rest := []) ⟨hx, hb, hml, hown, hts⟩ hh2 (cwV 2 hts gJx4a65c_remove_915e3_Jx4a65c_fastRemove_b59b0 rfl rfl rfl (by decide +kernel) ⟨Nat.le_of_ble_eq_true rfl, Nat.le_of_ble_eq_true rfl⟩) ⟨zPwF.blind _ _ _ _ _ zRO_ok, va_recv hKc hPc (ci := 0) (q0 := 0) rfl rfl, fun U hU hW => ⟨rfl, by rw [hU], by rw [hU]; exact hPc, va_K.moved hW.alike hKc, hDc.weaken (fun _ _ _ _ => trivial), zF.call zRO_ok hG hS hFc hU hW⟩⟩ rfl rfl hl.1 rfl (lv_room (Nat.le_of_ble_eq_true rfl)) dJx4a65c_remove_915e3_21 ⟨Nat.le_of_ble_eq_true rfl, Nat.le_of_ble_eq_true rfl⟩) hS (fun q _ h => hFc q h) hFc (fun u t H1 locs ht hvm hw hB hz1 hk1 hS => ?_)
  generalize u = eg_3 at hw hB
  have hw2 := hw
  replace hw2 : ∀ j : Nat, (j : Int) < ru - 1 → eg_3 j = if (j : Int) < ix then ef j else ef (j + 1) := hw2
  obtain ⟨hP1, hK1, hD1⟩ := hB
  rw [ht] at hP1
  replace hP1 : va_P (dC, dI) vwCl [(h0, .inr (0, [.int (zi (mc + 1)), .ref qe, .int (zi (ru - 1))])), (qe, aR cO cap eg_3)] H1 := hP1
  replace hD1 : va_D _ [(h0, .inr (0, [.int (zi (mc + 1)), .ref qe, .int (zi (ru - 1))])), (qe, aR cO cap eg_3)] := hD1
  obtain ⟨hP, hD⟩ := va_join (wr := []) (w1 := [(h0, .inr (0, [.int (zi (mc + 1)), .ref qe, .int (zi (ru - 1))])), (qe, aR cO cap eg_3)]) hP hD [0, 1] [] rfl rfl (by decide) (by decide) hk1 hFc hP1 hD1
  generalize H1 = H at hP hS ⊢
  have hP : va_P (dC, dI) vwCl [(h0, .inr (0, [.int (zi (mc + 1)), .ref qe, .int (zi (ru - 1))])), (qe, aR cO cap eg_3)] H := hP
  have hD : va_D A [(h0, .inr (0, [.int (zi (mc + 1)), .ref qe, .int (zi (ru - 1))])), (qe, aR cO cap eg_3)] := hD
  refine lv_aload_n hx hb dJx4a65c_remove_915e3_24 rfl (lv_at hl 0 rfl) ?_
  have hP9 := hP.sub (ws' := [(h0, .inr (0, [.int (zi (mc + 1)), .ref qe, .int (zi (ru - 1))])), (qe, aR cO cap eg_3)]) [0, 1] rfl
  have hD9 := hD.sub (ws' := [(h0, .inr (0, [.int (zi (mc + 1)), .ref qe, .int (zi (ru - 1))])), (qe, aR cO cap eg_3)]) [0, 1] (by decide) rfl
  have hp9 : ∀ j : Nat, (j : Int) < ru - 1 → eg_3 j = if (j : Int) < ix then ef j else ef (j + 1) := by
    assumption
  exact W.aret (v := va_rf (some (rf ix.toNat))) hx hb hr (Or.inl ⟨_, rfl⟩) (va_rf_or _) (fun t ht hW => ⟨⟨(some (rf ix.toNat)), eg_3, rfl, ⟨rfl, hp9⟩, by rw [ht]; exact hP9, va_K.moved hW.alike hK, hD9⟩, hS.F ht⟩) hS.2.2 dJx4a65c_remove_915e3_25

set_option maxHeartbeats 4000000 in
set_option maxRecDepth 100000 in
theorem c_Jx_clear (l : Launch)  (dC : Nat → ClassId) (dI : Nat → Nat → Nat) (cO : ClassId) (h0 : Nat) (mc : Int) (qe : Nat) (ru : Int) (cap : Nat) (ef : Nat → Option Nat) (sz : Nat) (hp0 : 0 ≤ ru ∧ ru ≤ 12 ∧ ru ≤ (cap : Int) ∧ (cap : Int) ≤ 1000) : Met l yJx4a65c_clear_da8c8 wsJx4a65c_clear_da8c8 ({ frames := 0, cells := 0, slots := 0, locals := 0 }) (zPw (dC, dI) [(cO, .object "java/lang/Object")] sz [.ref h0] [(h0, .inr (0, [.int (zi mc), .ref qe, .int (zi ru)])), (qe, aR cO cap ef)]) (va_Qv (fun (u : (Nat → Option Nat)) => True) (fun (u : (Nat → Option Nat)) => zB (dC, dI) [(cO, .object "java/lang/Object")] (va_A [(h0, .inr (0, [.int (zi mc), .ref qe, .int (zi ru)])), (qe, aR cO cap ef)] sz) [(h0, .inr (0, [.int (zi (mc + 1)), .ref qe, .int (zi 0)])), (qe, aR cO cap u)] ()) (va_A [(h0, .inr (0, [.int (zi mc), .ref qe, .int (zi ru)])), (qe, aR cO cap ef)] sz)) 0 0 (va_A [(h0, .inr (0, [.int (zi mc), .ref qe, .int (zi ru)])), (qe, aR cO cap ef)] sz) := by
  refine Met.ofW (cc := cJx4a65c_clear_da8c8) (maxL := 4) (ret := none) (by decide) rfl ?_
  intro p e s m args below meth c s₁ B hml hv
  obtain ⟨rfl, hsz, hP, hK, hD0⟩ := hv
  have hx := B.exec
  have hb := B.bytes
  have hr := B.returns
  have hts := atoms_spec (ws := wsJx4a65c_clear_da8c8) B.pre
  have hown : s.vm.findClass RJx4a65c = some m.cls := findClass_of_methodNamed B.named
  have hlocks := B.notSynchronized
  subst hsz
  have hD := hD0.self (sz := s.heap.size)
  generalize hAe : va_A [(h0, .inr (0, [.int (zi mc), .ref qe, .int (zi ru)])), (qe, aR cO cap ef)] s.heap.size = A at hD ⊢
  have hA : ∀ q : Nat, s.heap.size ≤ q → A q := fun q h => by rw [← hAe]; exact Or.inr h
  have hS : va_S A s.heap s.heap [] := va_S.rf
  have hP : va_P (dC, dI) vwCl [(h0, .inr (0, [.int (zi mc), .ref qe, .int (zi ru)])), (qe, aR cO cap ef)] s.heap := hP
  have loop27 : ∀ (fu : Nat) (ii : Int) (eh : Nat → Option Nat), (0 ≤ ii ∧ ii ≤ ru) → (ru - ii < fu) → ∀ (ls : Array Slot) (H : Heap) (locs : List Loc), lv_has ls 4 [(3, .int (zi ii)), (0, .ref h0), (1, .ref qe), (2, .int (zi ru))] → va_P (dC, dI) vwCl [(h0, .inr (0, [.int (zi (mc + 1)), .ref qe, .int (zi 0)])), (qe, aR cO cap eh)] H → va_D A [(h0, .inr (0, [.int (zi (mc + 1)), .ref qe, .int (zi 0)])), (qe, aR cO cap eh)] → va_S A s.heap H locs → W p l e (headSpec wsJx4a65c_clear_da8c8 ({ frames := 0, cells := 0, slots := 0, locals := 0 })).room s m ([.ref h0] : List Value).toArray below meth c H locs 0 0 (MQ below (va_Qv (fun (u : (Nat → Option Nat)) => True) (fun (u : (Nat → Option Nat)) => zB (dC, dI) [(cO, .object "java/lang/Object")] A [(h0, .inr (0, [.int (zi (mc + 1)), .ref qe, .int (zi 0)])), (qe, aR cO cap u)] ()) A) ([.ref h0] : List Value).toArray s 0 0 A) (F0 m 27 ls []) := by
    intro fu
    induction fu with
    | zero =>
      intro ii eh hi0 hfu ls H locs hl hP hD hS
      exact absurd hfu (by omega)
    | succ fu ih =>
      intro ii eh hi0 hfu ls H locs hl hP hD hS
      have hP : va_P (dC, dI) vwCl [(h0, .inr (0, [.int (zi (mc + 1)), .ref qe, .int (zi 0)])), (qe, aR cO cap eh)] H := hP
      have hD : va_D A [(h0, .inr (0, [.int (zi (mc + 1)), .ref qe, .int (zi 0)])), (qe, aR cO cap eh)] := hD
      refine lv_iload_n hx hb dJx4a65c_clear_da8c8_27 rfl (lv_at hl 0 rfl) ?_
      refine lv_iload_n hx hb dJx4a65c_clear_da8c8_28 rfl (lv_at hl 3 rfl) ?_
      refine zw_icmp_ge (tgt := 42) hx hb dJx4a65c_clear_da8c8_29 (by decide) ⟨by omega, by omega⟩ ⟨by omega, by omega⟩ (fun h1 => ?_) (fun h1 => ?_)
      · skip
        have hP9 := hP.sub (ws' := [(h0, .inr (0, [.int (zi (mc + 1)), .ref qe, .int (zi 0)])), (qe, aR cO cap eh)]) [0, 1] rfl
        have hD9 := hD.sub (ws' := [(h0, .inr (0, [.int (zi (mc + 1)), .ref qe, .int (zi 0)])), (qe, aR cO cap eh)]) [0, 1] (by decide) rfl
        have hp9 : True := by
          trivial
        exact W.vret hx hb hr (fun t ht hW => ⟨⟨eh, rfl, hp9, by rw [ht]; exact hP9, va_K.moved hW.alike hK, hD9⟩, hS.F ht⟩) hS.2.2 dJx4a65c_clear_da8c8_42
      · skip
        refine lv_aload_n hx hb dJx4a65c_clear_da8c8_32 rfl (lv_at hl 2 rfl) ?_
        refine lv_iload_n hx hb dJx4a65c_clear_da8c8_33 rfl (lv_at hl 0 rfl) ?_
        refine lv_null hx hb dJx4a65c_clear_da8c8_34 ?_
        refine zw_aastN hx hb hK hP hD hS 1 0 rfl rfl (by omega) (by omega) ⟨by omega, by omega⟩ dJx4a65c_clear_da8c8_35 (fun H locs hP hD hS => ?_)
        have hP : va_P (dC, dI) vwCl [(h0, .inr (0, [.int (zi (mc + 1)), .ref qe, .int (zi 0)])), (qe, aR cO cap (va_up eh ii.toNat none))] H := hP
        have hD : va_D A [(h0, .inr (0, [.int (zi (mc + 1)), .ref qe, .int (zi 0)])), (qe, aR cO cap (va_up eh ii.toNat none))] := hD
        obtain ⟨x2, ex2⟩ : ∃ z : Int, z = ii + 1 := ⟨_, rfl⟩
        refine zw_iinc (lv' := [(3, .int (zi x2)), (0, .ref h0), (1, .ref qe), (2, .int (zi ru))]) (k := 0) hx hb ex2 dJx4a65c_clear_da8c8_36 hl rfl (by decide) rfl (fun ls hl => ?_)
        refine lv_goto (tgt := 27) hx hb dJx4a65c_clear_da8c8_39 (by decide) ?_
        subst ex2
        have hP9 := hP.sub (ws' := [(h0, .inr (0, [.int (zi (mc + 1)), .ref qe, .int (zi 0)])), (qe, aR cO cap (va_up eh ii.toNat none))]) [0, 1] rfl
        have hD9 := hD.sub (ws' := [(h0, .inr (0, [.int (zi (mc + 1)), .ref qe, .int (zi 0)])), (qe, aR cO cap (va_up eh ii.toNat none))]) [0, 1] (by decide) rfl
        exact ih (ii + 1) (va_up eh ii.toNat none) (by omega) (by omega) ls _ _ (lv_sub hl [0, 1, 2, 3] rfl) hP9 hD9 hS
  have hl := lv_entry ([.ref h0]) (n := 4) (Nat.le_of_ble_eq_true rfl)
  rw [lg_entry_eq]
  generalize (lg_sl ([.ref h0]) ++ List.replicate (4 - (lg_sl ([.ref h0])).length) Slot.unset).toArray = ls at hl ⊢
  have hl : lv_has ls 4 [(0, .ref h0)] := hl
  refine lv_aload_n hx hb dJx4a65c_clear_da8c8_0 rfl (lv_at hl 0 rfl) ?_
  refine lv_dup hx hb dJx4a65c_clear_da8c8_1 rfl ?_
  refine va_get (D := (dC, dI)) (ci := 0) (v := .int (zi mc)) (C := RJx4a65c) (T := TJx4a65c) (N := 3) hx hb hts (by decide +kernel) hown hK hP 0 rfl rfl 0 (by decide) (hts (.fieldLink RJx4a65c 63 "java/util/ArrayList" "modCount" "I") (by decide +kernel)) (fun x9 h9 => u_same (hts (.sameField "java/util/ArrayList" "java/util/AbstractList" "modCount" "I") (by decide +kernel)) x9 h9) rfl dJx4a65c_clear_da8c8_2 ?_
  refine zw_iconst hx hb dJx4a65c_clear_da8c8_5 ?_
  refine zw_iadd hx hb dJx4a65c_clear_da8c8_6 ?_
  refine va_put (D := (dC, dI)) (ci := 0) (v := .int (zi (mc + 1))) (ty := .int) (C := RJx4a65c) (T := TJx4a65c) (N := 3) hx hb hts (by decide +kernel) tyJx4a65c tyJx4a65c_ok nmJx4a65c hown hK hP hD hS 0 rfl rfl 0 (by decide) (hts (.fieldLink RJx4a65c 63 "java/util/ArrayList" "modCount" "I") (by decide +kernel)) (fun x9 h9 => u_same (hts (.sameField "java/util/ArrayList" "java/util/AbstractList" "modCount" "I") (by decide +kernel)) x9 h9) rfl (by decide +kernel) rfl rfl (Nat.le_of_ble_eq_true rfl) dJx4a65c_clear_da8c8_7 (fun H locs hP hD hS => ?_)
  have hP : va_P (dC, dI) vwCl [(h0, .inr (0, [.int (zi (mc + 1)), .ref qe, .int (zi ru)])), (qe, aR cO cap ef)] H := hP
  have hD : va_D A [(h0, .inr (0, [.int (zi (mc + 1)), .ref qe, .int (zi ru)])), (qe, aR cO cap ef)] := hD
  refine lv_aload_n hx hb dJx4a65c_clear_da8c8_10 rfl (lv_at hl 0 rfl) ?_
  refine va_get (D := (dC, dI)) (ci := 0) (v := .ref qe) (C := RJx4a65c) (T := TJx4a65c) (N := 3) hx hb hts (by decide +kernel) hown hK hP 0 rfl rfl 1 (by decide) (hts (.fieldLink RJx4a65c 9 "java/util/ArrayList" "elementData" "[Ljava/lang/Object;") (by decide +kernel)) (fun _ h9 => h9) rfl dJx4a65c_clear_da8c8_11 ?_
  refine lv_astore_n (lv' := [(1, .ref qe), (0, .ref h0)]) hx hb dJx4a65c_clear_da8c8_14 rfl hl (by decide) rfl (fun ls hl => ?_)
  refine lv_aload_n hx hb dJx4a65c_clear_da8c8_15 rfl (lv_at hl 1 rfl) ?_
  refine va_get (D := (dC, dI)) (ci := 0) (v := .int (zi ru)) (C := RJx4a65c) (T := TJx4a65c) (N := 3) hx hb hts (by decide +kernel) hown hK hP 0 rfl rfl 2 (by decide) (hts (.fieldLink RJx4a65c 48 "java/util/ArrayList" "size" "I") (by decide +kernel)) (fun _ h9 => h9) rfl dJx4a65c_clear_da8c8_16 ?_
  refine lv_istore_n (lv' := [(2, .int (zi ru)), (1, .ref qe), (0, .ref h0)]) hx hb dJx4a65c_clear_da8c8_19 rfl hl (by decide) rfl (fun ls hl => ?_)
  refine lv_aload_n hx hb dJx4a65c_clear_da8c8_20 rfl (lv_at hl 2 rfl) ?_
  refine zw_iconst hx hb dJx4a65c_clear_da8c8_21 ?_
  refine lv_dup_x1 hx hb dJx4a65c_clear_da8c8_22 rfl rfl ?_
  refine va_put (D := (dC, dI)) (ci := 0) (v := .int (zi 0)) (ty := .int) (C := RJx4a65c) (T := TJx4a65c) (N := 3) hx hb hts (by decide +kernel) tyJx4a65c tyJx4a65c_ok nmJx4a65c hown hK hP hD hS 0 rfl rfl 2 (by decide) (hts (.fieldLink RJx4a65c 48 "java/util/ArrayList" "size" "I") (by decide +kernel)) (fun _ h9 => h9) rfl (by decide +kernel) rfl rfl (Nat.le_of_ble_eq_true rfl) dJx4a65c_clear_da8c8_23 (fun H locs hP hD hS => ?_)
  have hP : va_P (dC, dI) vwCl [(h0, .inr (0, [.int (zi (mc + 1)), .ref qe, .int (zi 0)])), (qe, aR cO cap ef)] H := hP
  have hD : va_D A [(h0, .inr (0, [.int (zi (mc + 1)), .ref qe, .int (zi 0)])), (qe, aR cO cap ef)] := hD
  refine lv_istore_n (lv' := [(3, .int (zi 0)), (2, .int (zi ru)), (1, .ref qe), (0, .ref h0)]) hx hb dJx4a65c_clear_da8c8_26 rfl hl (by decide) rfl (fun ls hl => ?_)
  have hP9 := hP.sub (ws' := [(h0, .inr (0, [.int (zi (mc + 1)), .ref qe, .int (zi 0)])), (qe, aR cO cap ef)]) [0, 1] rfl
  have hD9 := hD.sub (ws' := [(h0, .inr (0, [.int (zi (mc + 1)), .ref qe, .int (zi 0)])), (qe, aR cO cap ef)]) [0, 1] (by decide) rfl
  exact loop27 (13) 0 ef (by omega) (by omega) ls _ _ (lv_sub hl [0, 3, 2, 1] rfl) hP9 hD9 hS

set_option maxHeartbeats 4000000 in
set_option maxRecDepth 100000 in
theorem c_X3_init (l : Launch)  (dC : Nat → ClassId) (dI : Nat → Nat → Nat) (h0 : Nat) (kk : Int) (aa : Int) (bb : Int) (cz : Int) (sz : Nat)  : Met l yX3_init wsX3_init ({ frames := 1, cells := 0, slots := 0, locals := 24 }) (zPw (dC, dI) [] sz [.ref h0, .int (zi kk), .int (zi aa), .int (zi bb), .int (zi cz)] [(h0, .inr (3, [.int (zi 0), .int (zi 0), .int (zi 0), .int (zi 0)]))]) (va_Qv (fun (_ : Unit) => True) (zB (dC, dI) [] (va_A [(h0, .inr (3, [.int (zi 0), .int (zi 0), .int (zi 0), .int (zi 0)]))] sz) [(h0, .inr (3, [.int (zi kk), .int (zi aa), .int (zi bb), .int (zi cz)]))]) (va_A [(h0, .inr (3, [.int (zi 0), .int (zi 0), .int (zi 0), .int (zi 0)]))] sz)) 0 0 (va_A [(h0, .inr (3, [.int (zi 0), .int (zi 0), .int (zi 0), .int (zi 0)]))] sz) := by
  refine Met.ofW (cc := cX3_init) (maxL := 5) (ret := none) (by decide) rfl ?_
  intro p e s m args below meth c s₁ B hml hv
  obtain ⟨rfl, hsz, hP, hK, hD0⟩ := hv
  have hini9 : meth.name = "<init>" := (name_of_methodNamed B.named B.method).1
  have hx := B.exec
  have hb := B.bytes
  have hr := B.returns
  have hts := atoms_spec (ws := wsX3_init) B.pre
  have hown : s.vm.findClass RX3 = some m.cls := findClass_of_methodNamed B.named
  have hlocks := B.notSynchronized
  subst hsz
  have hD := hD0.self (sz := s.heap.size)
  generalize hAe : va_A [(h0, .inr (3, [.int (zi 0), .int (zi 0), .int (zi 0), .int (zi 0)]))] s.heap.size = A at hD ⊢
  have hA : ∀ q : Nat, s.heap.size ≤ q → A q := fun q h => by rw [← hAe]; exact Or.inr h
  have hS : va_S A s.heap s.heap [] := va_S.rf
  have hP : va_P (dC, dI) vwCl [(h0, .inr (3, [.int (zi 0), .int (zi 0), .int (zi 0), .int (zi 0)]))] s.heap := hP
  have hl := lv_entry ([.ref h0, .int (zi kk), .int (zi aa), .int (zi bb), .int (zi cz)]) (n := 5) (Nat.le_of_ble_eq_true rfl)
  rw [lg_entry_eq]
  generalize (lg_sl ([.ref h0, .int (zi kk), .int (zi aa), .int (zi bb), .int (zi cz)]) ++ List.replicate (5 - (lg_sl ([.ref h0, .int (zi kk), .int (zi aa), .int (zi bb), .int (zi cz)])).length) Slot.unset).toArray = ls at hl ⊢
  have hl : lv_has ls 5 [(0, .ref h0), (1, .int (zi kk)), (2, .int (zi aa)), (3, .int (zi bb)), (4, .int (zi cz))] := hl
  refine lv_aload_n hx hb dX3_init_0 rfl (lv_at hl 0 rfl) ?_
  refine zw_objInit hx hb hown (hts (.methodLink RX3 3 objectInit) (by decide +kernel)) (hts (.instanceMethod objectInit) (by decide +kernel)) (hts (.code objectInit ⟨#[0xb1]⟩ 1 none) (by decide +kernel)) (hl.1.trans hml.symm) dX3_init_1 (Nat.le_of_ble_eq_true rfl) (Nat.le_of_ble_eq_true rfl) ?_
  refine lv_aload_n hx hb dX3_init_4 rfl (lv_at hl 0 rfl) ?_
  refine lv_iload_n hx hb dX3_init_5 rfl (lv_at hl 1 rfl) ?_
  refine va_putF (D := (dC, dI)) (ci := 3) (v := .int (zi kk)) (ty := .int) (C := RX3) (T := TX3) (N := 4) hx hb hts (by decide +kernel) tyX3 tyX3_ok nmX3 hown hK hP hD hS 0 rfl rfl 0 (by decide) (hts (.fieldLink RX3 9 "CivilDays$Rule" "kind" "I") (by decide +kernel)) (fun _ h9 => h9) rfl hini9 rfl (by decide +kernel) rfl rfl (Nat.le_of_ble_eq_true rfl) dX3_init_6 (fun H locs hP hD hS => ?_)
  have hP : va_P (dC, dI) vwCl [(h0, .inr (3, [.int (zi kk), .int (zi 0), .int (zi 0), .int (zi 0)]))] H := hP
  have hD : va_D A [(h0, .inr (3, [.int (zi kk), .int (zi 0), .int (zi 0), .int (zi 0)]))] := hD
  refine lv_aload_n hx hb dX3_init_9 rfl (lv_at hl 0 rfl) ?_
  refine lv_iload_n hx hb dX3_init_10 rfl (lv_at hl 2 rfl) ?_
  refine va_putF (D := (dC, dI)) (ci := 3) (v := .int (zi aa)) (ty := .int) (C := RX3) (T := TX3) (N := 4) hx hb hts (by decide +kernel) tyX3 tyX3_ok nmX3 hown hK hP hD hS 0 rfl rfl 1 (by decide) (hts (.fieldLink RX3 15 "CivilDays$Rule" "a" "I") (by decide +kernel)) (fun _ h9 => h9) rfl hini9 rfl (by decide +kernel) rfl rfl (Nat.le_of_ble_eq_true rfl) dX3_init_11 (fun H locs hP hD hS => ?_)
  have hP : va_P (dC, dI) vwCl [(h0, .inr (3, [.int (zi kk), .int (zi aa), .int (zi 0), .int (zi 0)]))] H := hP
  have hD : va_D A [(h0, .inr (3, [.int (zi kk), .int (zi aa), .int (zi 0), .int (zi 0)]))] := hD
  refine lv_aload_n hx hb dX3_init_14 rfl (lv_at hl 0 rfl) ?_
  refine lv_iload_n hx hb dX3_init_15 rfl (lv_at hl 3 rfl) ?_
  refine va_putF (D := (dC, dI)) (ci := 3) (v := .int (zi bb)) (ty := .int) (C := RX3) (T := TX3) (N := 4) hx hb hts (by decide +kernel) tyX3 tyX3_ok nmX3 hown hK hP hD hS 0 rfl rfl 2 (by decide) (hts (.fieldLink RX3 18 "CivilDays$Rule" "b" "I") (by decide +kernel)) (fun _ h9 => h9) rfl hini9 rfl (by decide +kernel) rfl rfl (Nat.le_of_ble_eq_true rfl) dX3_init_16 (fun H locs hP hD hS => ?_)
  have hP : va_P (dC, dI) vwCl [(h0, .inr (3, [.int (zi kk), .int (zi aa), .int (zi bb), .int (zi 0)]))] H := hP
  have hD : va_D A [(h0, .inr (3, [.int (zi kk), .int (zi aa), .int (zi bb), .int (zi 0)]))] := hD
  refine lv_aload_n hx hb dX3_init_19 rfl (lv_at hl 0 rfl) ?_
  refine lv_iload hx hb dX3_init_20 (lv_at hl 4 rfl) ?_
  refine va_putF (D := (dC, dI)) (ci := 3) (v := .int (zi cz)) (ty := .int) (C := RX3) (T := TX3) (N := 4) hx hb hts (by decide +kernel) tyX3 tyX3_ok nmX3 hown hK hP hD hS 0 rfl rfl 3 (by decide) (hts (.fieldLink RX3 21 "CivilDays$Rule" "c" "I") (by decide +kernel)) (fun _ h9 => h9) rfl hini9 rfl (by decide +kernel) rfl rfl (Nat.le_of_ble_eq_true rfl) dX3_init_22 (fun H locs hP hD hS => ?_)
  have hP : va_P (dC, dI) vwCl [(h0, .inr (3, [.int (zi kk), .int (zi aa), .int (zi bb), .int (zi cz)]))] H := hP
  have hD : va_D A [(h0, .inr (3, [.int (zi kk), .int (zi aa), .int (zi bb), .int (zi cz)]))] := hD
  have hP9 := hP.sub (ws' := [(h0, .inr (3, [.int (zi kk), .int (zi aa), .int (zi bb), .int (zi cz)]))]) [0] rfl
  have hD9 := hD.sub (ws' := [(h0, .inr (3, [.int (zi kk), .int (zi aa), .int (zi bb), .int (zi cz)]))]) [0] (by decide) rfl
  exact W.vret hx hb hr (fun t ht hW => ⟨⟨(), rfl, trivial, by rw [ht]; exact hP9, va_K.moved hW.alike hK, hD9⟩, hS.F ht⟩) hS.2.2 dX3_init_25

set_option maxHeartbeats 4000000 in
set_option maxRecDepth 100000 in
theorem t_X4_holiday_1 (l : Launch) (hst : l.stackTraces = false) (h0 : Nat) (kk : Int) (aa : Int) (bb : Int) (cz : Int) (hp0 : -2147483648 ≤ kk ∧ kk ≤ 2147483647) (hp1 : -2147483648 ≤ aa ∧ aa ≤ 2147483647) (hp2 : -2147483648 ≤ bb ∧ bb ≤ 2147483647) (hp3 : -2147483648 ≤ cz ∧ cz ≤ 2147483647) (hp4 : (f_X3_isRule kk aa bb cz) = 0) : vx_Met l yX4_holiday wsX4_holiday ({ frames := 6, cells := 1, slots := 6, locals := 90 }) (zP [.ref h0, .int (zi kk), .int (zi aa), .int (zi bb), .int (zi cz)]) zNo (zX "java/lang/IllegalArgumentException") 1 6 zN := by
  refine vx_ofW (cc := cX4_holiday) (maxL := 5) (ret := (some .int)) (by decide) rfl ?_
  intro p e s m args below meth c s₁ B hml hno hv
  obtain ⟨rfl, hE⟩ := hv
  have hx := B.exec
  have hb := B.bytes
  have hr := B.returns
  have hts := atoms_spec (ws := wsX4_holiday) B.pre
  have hown : s.vm.findClass RX4 = some m.cls := findClass_of_methodNamed B.named
  have hlocks := B.notSynchronized
  have hl := lv_entry ([.ref h0, .int (zi kk), .int (zi aa), .int (zi bb), .int (zi cz)]) (n := 5) (Nat.le_of_ble_eq_true rfl)
  rw [lg_entry_eq]
  generalize (lg_sl ([.ref h0, .int (zi kk), .int (zi aa), .int (zi bb), .int (zi cz)]) ++ List.replicate (5 - (lg_sl ([.ref h0, .int (zi kk), .int (zi aa), .int (zi bb), .int (zi cz)])).length) Slot.unset).toArray = ls at hl ⊢
  have hl : lv_has ls 5 [(0, .ref h0), (1, .int (zi kk)), (2, .int (zi aa)), (3, .int (zi bb)), (4, .int (zi cz))] := hl
  refine lv_iload_n hx hb dX4_holiday_0 rfl (lv_at hl 1 rfl) ?_
  refine lv_iload_n hx hb dX4_holiday_1 rfl (lv_at hl 2 rfl) ?_
  refine lv_iload_n hx hb dX4_holiday_2 rfl (lv_at hl 3 rfl) ?_
  refine lv_iload hx hb dX4_holiday_3 (lv_at hl 4 rfl) ?_
  have hh1 := c_X3_isRule l kk aa bb cz (by omega) (by omega) (by omega) (by omega)
  refine vp_callSi (va_Run.run (va_runS (As := [.int (zi kk), .int (zi aa), .int (zi bb), .int (zi cz)]) (rest := []) ⟨hx, hb, hml, hown, hts⟩ hh1 (va_cwS 4 hts gX4_holiday_X3_isRule rfl rfl rfl (by decide +kernel) ⟨Nat.le_of_ble_eq_true rfl, Nat.le_of_ble_eq_true rfl⟩) ⟨fun a U g mk q => q, fun U hU hW => ⟨rfl, trivial⟩⟩ rfl rfl hl.1 rfl (lv_room (Nat.le_of_ble_eq_true rfl)) dX4_holiday_5 ⟨Nat.zero_le _, Nat.zero_le _⟩)) (fun r1 (hr1 : r1 = zi (f_X3_isRule kk aa bb cz)) => ?_)
  subst hr1
  have hf1 := b_X3_isRule kk aa bb cz (by omega) (by omega) (by omega) (by omega)
  refine zw_if_ne (tgt := 21) hx hb dX4_holiday_8 (by decide) ⟨by omega, by omega⟩ (fun h2 => ?_) (fun h2 => ?_)
  · skip
    exact absurd True.intro (by omega)
  · skip
    exact zt_throw (cls := "java/lang/IllegalArgumentException") (text := "there is no such rule") (ik := 88) (is := 130) (ic := 92) hx hb hst hown hE (by decide +kernel) (hts (.classLink RX4 88 "java/lang/IllegalArgumentException") (by decide +kernel)) (hts (.initialized "java/lang/IllegalArgumentException") (by decide +kernel)) (by decide) (fun w h => hts w (List.mem_cons_of_mem _ (List.mem_append_left _ (List.mem_append_right _ h)))) (by decide +kernel) (by decide +kernel) (hl.1.trans hml.symm) dX4_holiday_11 dX4_holiday_14 dX4_holiday_15 dX4_holiday_17 dX4_holiday_20 hno (Nat.le_of_ble_eq_true rfl) (Nat.le_of_ble_eq_true rfl) (Nat.le_of_ble_eq_true rfl) (Nat.le_of_ble_eq_true rfl) hlocks

set_option maxHeartbeats 4000000 in
set_option maxRecDepth 100000 in
theorem t_X4_holiday_2 (l : Launch) (hst : l.stackTraces = false) (dC : Nat → ClassId) (dI : Nat → Nat → Nat) (h0 : Nat) (qs : Nat) (qr : Nat) (qm : Nat) (qw : Nat) (qt : Nat) (we : Int) (mc : Int) (qe : Nat) (ru : Int) (kk : Int) (aa : Int) (bb : Int) (cz : Int) (hp0 : -2147483648 ≤ kk ∧ kk ≤ 2147483647) (hp1 : -2147483648 ≤ aa ∧ aa ≤ 2147483647) (hp2 : -2147483648 ≤ bb ∧ bb ≤ 2147483647) (hp3 : -2147483648 ≤ cz ∧ cz ≤ 2147483647) (hp4 : (f_X3_isRule kk aa bb cz) = 1) (hp5 : ru = 12) : vx_Met l yX4_holiday wsX4_holiday ({ frames := 6, cells := 1, slots := 6, locals := 90 }) (zPt (dC, dI) [] [.ref h0, .int (zi kk), .int (zi aa), .int (zi bb), .int (zi cz)] [(h0, .inr (4, [.ref qs, .ref qr, .ref qm, .ref qw, .ref qt, .int (zi we)])), (qr, .inr (0, [.int (zi mc), .ref qe, .int (zi ru)]))]) zNo (zX "java/lang/UnsupportedOperationException") 1 6 zN := by
  refine vx_ofW (cc := cX4_holiday) (maxL := 5) (ret := (some .int)) (by decide) rfl ?_
  intro p e s m args below meth c s₁ B hml hno hv
  obtain ⟨rfl, hE, hP, hK⟩ := hv
  have hx := B.exec
  have hb := B.bytes
  have hr := B.returns
  have hts := atoms_spec (ws := wsX4_holiday) B.pre
  have hown : s.vm.findClass RX4 = some m.cls := findClass_of_methodNamed B.named
  have hlocks := B.notSynchronized
  have hl := lv_entry ([.ref h0, .int (zi kk), .int (zi aa), .int (zi bb), .int (zi cz)]) (n := 5) (Nat.le_of_ble_eq_true rfl)
  rw [lg_entry_eq]
  generalize (lg_sl ([.ref h0, .int (zi kk), .int (zi aa), .int (zi bb), .int (zi cz)]) ++ List.replicate (5 - (lg_sl ([.ref h0, .int (zi kk), .int (zi aa), .int (zi bb), .int (zi cz)])).length) Slot.unset).toArray = ls at hl ⊢
  have hl : lv_has ls 5 [(0, .ref h0), (1, .int (zi kk)), (2, .int (zi aa)), (3, .int (zi bb)), (4, .int (zi cz))] := hl
  refine lv_iload_n hx hb dX4_holiday_0 rfl (lv_at hl 1 rfl) ?_
  refine lv_iload_n hx hb dX4_holiday_1 rfl (lv_at hl 2 rfl) ?_
  refine lv_iload_n hx hb dX4_holiday_2 rfl (lv_at hl 3 rfl) ?_
  refine lv_iload hx hb dX4_holiday_3 (lv_at hl 4 rfl) ?_
  have hh1 := c_X3_isRule l kk aa bb cz (by omega) (by omega) (by omega) (by omega)
  refine vp_callSi (va_Run.run (va_runS (As := [.int (zi kk), .int (zi aa), .int (zi bb), .int (zi cz)]) (rest := []) ⟨hx, hb, hml, hown, hts⟩ hh1 (va_cwS 4 hts gX4_holiday_X3_isRule rfl rfl rfl (by decide +kernel) ⟨Nat.le_of_ble_eq_true rfl, Nat.le_of_ble_eq_true rfl⟩) ⟨fun a U g mk q => q, fun U hU hW => ⟨rfl, trivial⟩⟩ rfl rfl hl.1 rfl (lv_room (Nat.le_of_ble_eq_true rfl)) dX4_holiday_5 ⟨Nat.zero_le _, Nat.zero_le _⟩)) (fun r1 (hr1 : r1 = zi (f_X3_isRule kk aa bb cz)) => ?_)
  subst hr1
  have hf1 := b_X3_isRule kk aa bb cz (by omega) (by omega) (by omega) (by omega)
  refine zw_if_ne (tgt := 21) hx hb dX4_holiday_8 (by decide) ⟨by omega, by omega⟩ (fun h2 => ?_) (fun h2 => ?_)
  · skip
    refine lv_aload_n hx hb dX4_holiday_21 rfl (lv_at hl 0 rfl) ?_
    refine va_get (D := (dC, dI)) (ci := 4) (v := .ref qr) (C := RX4) (T := TX4) (N := 6) hx hb hts (by decide +kernel) hown hK hP 0 rfl rfl 1 (by decide) (hts (.fieldLink RX4 16 "CivilDays" "rules" "Ljava/util/ArrayList;") (by decide +kernel)) (fun _ h9 => h9) rfl dX4_holiday_22 ?_
    have hh3 := c_Jx_size l dC dI qr mc qe ru 
    have hPc := hP.sub (ws' := [(qr, .inr (0, [.int (zi mc), .ref qe, .int (zi ru)]))]) [1] rfl
    have hKc : va_K (dC, dI) vwCl [] s := hK
    refine vp_callSi (va_Run.run (va_runV (As := []) (rest := []) ⟨hx, hb, hml, hown, hts⟩ hh3 (cwV 0 hts gX4_holiday_Jx4a65c_size_8abf5 rfl rfl rfl (by decide +kernel) ⟨Nat.le_of_ble_eq_true rfl, Nat.le_of_ble_eq_true rfl⟩) ⟨zPr.blind _ _ _ _, va_recv hKc hPc (ci := 0) (q0 := 0) rfl rfl, fun U hU hW => ⟨rfl, by rw [hU]; exact hPc, va_K.moved hW.alike hKc⟩⟩ rfl rfl hl.1 rfl (lv_room (Nat.le_of_ble_eq_true rfl)) dX4_holiday_25 ⟨Nat.le_of_ble_eq_true rfl, Nat.le_of_ble_eq_true rfl⟩)) (fun r3 (hr3 : r3 = zi ru) => ?_)
    subst hr3
    refine zw_bipush hx hb dX4_holiday_28 (by decide) ?_
    refine zw_icmp_lt (tgt := 43) hx hb dX4_holiday_30 (by decide) ⟨by omega, by omega⟩ ⟨by omega, by omega⟩ (fun h4 => ?_) (fun h4 => ?_)
    · skip
      exact absurd True.intro (by omega)
    · skip
      exact zt_throw (cls := "java/lang/UnsupportedOperationException") (text := "there are as many rules as there may be") (ik := 81) (is := 136) (ic := 85) hx hb hst hown hE (by decide +kernel) (hts (.classLink RX4 81 "java/lang/UnsupportedOperationException") (by decide +kernel)) (hts (.initialized "java/lang/UnsupportedOperationException") (by decide +kernel)) (by decide) (fun w h => hts w (List.mem_cons_of_mem _ (List.mem_append_right _ h))) (by decide +kernel) (by decide +kernel) (hl.1.trans hml.symm) dX4_holiday_33 dX4_holiday_36 dX4_holiday_37 dX4_holiday_39 dX4_holiday_42 hno (Nat.le_of_ble_eq_true rfl) (Nat.le_of_ble_eq_true rfl) (Nat.le_of_ble_eq_true rfl) (Nat.le_of_ble_eq_true rfl) hlocks
  · skip
    exact absurd True.intro (by omega)

set_option maxHeartbeats 4000000 in
set_option maxRecDepth 100000 in
theorem c_X4_holiday (l : Launch)  (dC : Nat → ClassId) (dI : Nat → Nat → Nat) (cO : ClassId) (h0 : Nat) (qs : Nat) (qr : Nat) (qm : Nat) (qw : Nat) (qt : Nat) (we : Int) (mc : Int) (qe : Nat) (ru : Int) (cap : Nat) (ef : Nat → Option Nat) (rf : Nat → Nat) (kf : Nat → Int) (af : Nat → Int) (bf : Nat → Int) (zf : Nat → Int) (qd : Nat) (mi : Nat) (kk : Int) (aa : Int) (bb : Int) (cz : Int) (sz : Nat) (hp0 : -2147483648 ≤ kk ∧ kk ≤ 2147483647) (hp1 : -2147483648 ≤ aa ∧ aa ≤ 2147483647) (hp2 : -2147483648 ≤ bb ∧ bb ≤ 2147483647) (hp3 : -2147483648 ≤ cz ∧ cz ≤ 2147483647) (hp4 : (f_X3_isRule kk aa bb cz) = 1) (hp5 : 0 ≤ ru ∧ ru ≤ 11) (hp6 : cap = 10 ∧ ru ≤ 10 ∨ cap = 15 ∧ ru ≤ 11) (hp7 : ∀ j : Nat, (j : Int) < ru → ef j = some (rf j)) : Met l yX4_holiday wsX4_holiday ({ frames := 7, cells := 2, slots := 19, locals := 191 }) (zPwF (dC, dI) [(cO, .object "java/lang/Object")] sz [.ref h0, .int (zi kk), .int (zi aa), .int (zi bb), .int (zi cz)] [(h0, .inr (4, [.ref qs, .ref qr, .ref qm, .ref qw, .ref qt, .int (zi we)])), (qr, .inr (0, [.int (zi mc), .ref qe, .int (zi ru)])), (qe, aR cO cap ef)] (zRO (dC, dI) ru rf kf af bf zf qd mi)) (va_Qi (fun (r : Int32) (u : (Nat) × (Nat) × (Nat → Option Nat) × (Nat)) => r = zi (ru + 1) ∧ (((∀ j : Nat, (j : Int) < ru → u.2.2.1 j = ef j) ∧ u.2.2.1 (Int.toNat ru) = some u.2.2.2) ∧ (u.2.1 = 10 ∧ (ru : Int) < 10 ∨ u.2.1 = 15 ∧ (ru : Int) < 15))) (fun (u : (Nat) × (Nat) × (Nat → Option Nat) × (Nat)) => zB (dC, dI) [(cO, .object "java/lang/Object")] (va_A [(h0, .inr (4, [.ref qs, .ref qr, .ref qm, .ref qw, .ref qt, .int (zi we)])), (qr, .inr (0, [.int (zi mc), .ref qe, .int (zi ru)])), (qe, aR cO cap ef)] sz) [(h0, .inr (4, [.ref qs, .ref qr, .ref qm, .ref qw, .ref qt, .int (zi we)])), (qr, .inr (0, [.int (zi (mc + 1)), .ref u.1, .int (zi (ru + 1))])), (u.1, aR cO u.2.1 u.2.2.1), (u.2.2.2, .inr (3, [.int (zi kk), .int (zi aa), .int (zi bb), .int (zi cz)]))] ()) (va_A [(h0, .inr (4, [.ref qs, .ref qr, .ref qm, .ref qw, .ref qt, .int (zi we)])), (qr, .inr (0, [.int (zi mc), .ref qe, .int (zi ru)])), (qe, aR cO cap ef)] sz)) 2 19 (va_A [(h0, .inr (4, [.ref qs, .ref qr, .ref qm, .ref qw, .ref qt, .int (zi we)])), (qr, .inr (0, [.int (zi mc), .ref qe, .int (zi ru)])), (qe, aR cO cap ef)] sz) := by
  refine Met.ofW (cc := cX4_holiday) (maxL := 5) (ret := (some .int)) (by decide) rfl ?_
  intro p e s m args below meth c s₁ B hml hv
  obtain ⟨rfl, hsz, hP, hK, hD0, hG⟩ := hv
  have hx := B.exec
  have hb := B.bytes
  have hr := B.returns
  have hts := atoms_spec (ws := wsX4_holiday) B.pre
  have hown : s.vm.findClass RX4 = some m.cls := findClass_of_methodNamed B.named
  have hlocks := B.notSynchronized
  subst hsz
  have hD := hD0.self (sz := s.heap.size)
  generalize hAe : va_A [(h0, .inr (4, [.ref qs, .ref qr, .ref qm, .ref qw, .ref qt, .int (zi we)])), (qr, .inr (0, [.int (zi mc), .ref qe, .int (zi ru)])), (qe, aR cO cap ef)] s.heap.size = A at hD hG ⊢
  have hA : ∀ q : Nat, s.heap.size ≤ q → A q := fun q h => by rw [← hAe]; exact Or.inr h
  have hS : va_S A s.heap s.heap [] := va_S.rf
  have hP : va_P (dC, dI) vwCl [(h0, .inr (4, [.ref qs, .ref qr, .ref qm, .ref qw, .ref qt, .int (zi we)])), (qr, .inr (0, [.int (zi mc), .ref qe, .int (zi ru)])), (qe, aR cO cap ef)] s.heap := hP
  have hl := lv_entry ([.ref h0, .int (zi kk), .int (zi aa), .int (zi bb), .int (zi cz)]) (n := 5) (Nat.le_of_ble_eq_true rfl)
  rw [lg_entry_eq]
  generalize (lg_sl ([.ref h0, .int (zi kk), .int (zi aa), .int (zi bb), .int (zi cz)]) ++ List.replicate (5 - (lg_sl ([.ref h0, .int (zi kk), .int (zi aa), .int (zi bb), .int (zi cz)])).length) Slot.unset).toArray = ls at hl ⊢
  have hl : lv_has ls 5 [(0, .ref h0), (1, .int (zi kk)), (2, .int (zi aa)), (3, .int (zi bb)), (4, .int (zi cz))] := hl
  refine lv_iload_n hx hb dX4_holiday_0 rfl (lv_at hl 1 rfl) ?_
  refine lv_iload_n hx hb dX4_holiday_1 rfl (lv_at hl 2 rfl) ?_
  refine lv_iload_n hx hb dX4_holiday_2 rfl (lv_at hl 3 rfl) ?_
  refine lv_iload hx hb dX4_holiday_3 (lv_at hl 4 rfl) ?_
  have hh1 := c_X3_isRule l kk aa bb cz (by omega) (by omega) (by omega) (by omega)
  refine vp_callSi (va_Run.run (va_runS (As := [.int (zi kk), .int (zi aa), .int (zi bb), .int (zi cz)]) (rest := []) ⟨hx, hb, hml, hown, hts⟩ hh1 (va_cwS 4 hts gX4_holiday_X3_isRule rfl rfl rfl (by decide +kernel) ⟨Nat.le_of_ble_eq_true rfl, Nat.le_of_ble_eq_true rfl⟩) ⟨fun a U g mk q => q, fun U hU hW => ⟨rfl, trivial⟩⟩ rfl rfl hl.1 rfl (lv_room (Nat.le_of_ble_eq_true rfl)) dX4_holiday_5 ⟨Nat.zero_le _, Nat.zero_le _⟩)) (fun r1 (hr1 : r1 = zi (f_X3_isRule kk aa bb cz)) => ?_)
  subst hr1
  have hf1 := b_X3_isRule kk aa bb cz (by omega) (by omega) (by omega) (by omega)
  refine zw_if_ne (tgt := 21) hx hb dX4_holiday_8 (by decide) ⟨by omega, by omega⟩ (fun h2 => ?_) (fun h2 => ?_)
  · skip
    refine lv_aload_n hx hb dX4_holiday_21 rfl (lv_at hl 0 rfl) ?_
    refine va_get (D := (dC, dI)) (ci := 4) (v := .ref qr) (C := RX4) (T := TX4) (N := 6) hx hb hts (by decide +kernel) hown hK hP 0 rfl rfl 1 (by decide) (hts (.fieldLink RX4 16 "CivilDays" "rules" "Ljava/util/ArrayList;") (by decide +kernel)) (fun _ h9 => h9) rfl dX4_holiday_22 ?_
    have hh3 := c_Jx_size l dC dI qr mc qe ru 
    have hPc := hP.sub (ws' := [(qr, .inr (0, [.int (zi mc), .ref qe, .int (zi ru)]))]) [1] rfl
    have hKc : va_K (dC, dI) vwCl [] s := hK.sub (tys' := []) [] rfl
    refine vp_callSi (va_Run.run (va_runV (As := []) (rest := []) ⟨hx, hb, hml, hown, hts⟩ hh3 (cwV 0 hts gX4_holiday_Jx4a65c_size_8abf5 rfl rfl rfl (by decide +kernel) ⟨Nat.le_of_ble_eq_true rfl, Nat.le_of_ble_eq_true rfl⟩) ⟨zPr.blind _ _ _ _, va_recv hKc hPc (ci := 0) (q0 := 0) rfl rfl, fun U hU hW => ⟨rfl, by rw [hU]; exact hPc, va_K.moved hW.alike hKc⟩⟩ rfl rfl hl.1 rfl (lv_room (Nat.le_of_ble_eq_true rfl)) dX4_holiday_25 ⟨Nat.le_of_ble_eq_true rfl, Nat.le_of_ble_eq_true rfl⟩)) (fun r3 (hr3 : r3 = zi ru) => ?_)
    subst hr3
    refine zw_bipush hx hb dX4_holiday_28 (by decide) ?_
    refine zw_icmp_lt (tgt := 43) hx hb dX4_holiday_30 (by decide) ⟨by omega, by omega⟩ ⟨by omega, by omega⟩ (fun h4 => ?_) (fun h4 => ?_)
    · skip
      refine lv_aload_n hx hb dX4_holiday_43 rfl (lv_at hl 0 rfl) ?_
      refine va_get (D := (dC, dI)) (ci := 4) (v := .ref qr) (C := RX4) (T := TX4) (N := 6) hx hb hts (by decide +kernel) hown hK hP 0 rfl rfl 1 (by decide) (hts (.fieldLink RX4 16 "CivilDays" "rules" "Ljava/util/ArrayList;") (by decide +kernel)) (fun _ h9 => h9) rfl dX4_holiday_44 ?_
      refine va_new (C := RX3) (T := TX3) (N := 4) (ci := 3) (fs := [.int (zi 0), .int (zi 0), .int (zi 0), .int (zi 0)]) hx hb hts (by decide +kernel) tyX3 tyX3_ok hown (hts (.classLink RX4 125 RX3) (by decide +kernel)) (hts (.instantiable RX3 4) (by decide +kernel)) (hts (.initialized RX3) (by decide +kernel)) hK hP hD hS hA rfl (by decide +kernel) (Nat.le_of_ble_eq_true rfl) (Nat.le_of_ble_eq_true rfl) dX4_holiday_47 (fun q5 H hP hD hS => ?_)
      have hP : va_P (dC, dI) vwCl [(h0, .inr (4, [.ref qs, .ref qr, .ref qm, .ref qw, .ref qt, .int (zi we)])), (qr, .inr (0, [.int (zi mc), .ref qe, .int (zi ru)])), (qe, aR cO cap ef), (q5, .inr (3, [.int (zi 0), .int (zi 0), .int (zi 0), .int (zi 0)]))] H := hP
      have hD : va_D A [(h0, .inr (4, [.ref qs, .ref qr, .ref qm, .ref qw, .ref qt, .int (zi we)])), (qr, .inr (0, [.int (zi mc), .ref qe, .int (zi ru)])), (qe, aR cO cap ef), (q5, .inr (3, [.int (zi 0), .int (zi 0), .int (zi 0), .int (zi 0)]))] := hD
      refine lv_dup hx hb dX4_holiday_50 rfl ?_
      refine lv_iload_n hx hb dX4_holiday_51 rfl (lv_at hl 1 rfl) ?_
      refine lv_iload_n hx hb dX4_holiday_52 rfl (lv_at hl 2 rfl) ?_
      refine lv_iload_n hx hb dX4_holiday_53 rfl (lv_at hl 3 rfl) ?_
      refine lv_iload hx hb dX4_holiday_54 (lv_at hl 4 rfl) ?_
      have hh6 := c_X3_init l dC dI q5 kk aa bb cz H.size 
      have hPc := hP.sub (ws' := [(q5, .inr (3, [.int (zi 0), .int (zi 0), .int (zi 0), .int (zi 0)]))]) [3] rfl
      have hKc : va_K (dC, dI) vwCl [] s := hK.sub (tys' := []) [] rfl
      have hDc := hD.sub (ws' := [(q5, .inr (3, [.int (zi 0), .int (zi 0), .int (zi 0), .int (zi 0)]))]) [3] (by decide) rfl
      have hFc := va_free (wc := [(q5, .inr (3, [.int (zi 0), .int (zi 0), .int (zi 0), .int (zi 0)]))]) hD hS hA [3] rfl
      refine va_callv (va_runI (As := [.int (zi kk), .int (zi aa), .int (zi bb), .int (zi cz)]) (rest := [.ref q5, .ref qr]) ⟨hx, hb, hml, hown, hts⟩ hh6 (cwI 4 hts gX4_holiday_X3_init rfl rfl rfl (hts (.initialized RX3) (by decide +kernel)) (hts (.methodLink RX4 138 yX3_init) (by decide +kernel)) (hts (.instanceMethod yX3_init) (by decide +kernel)) rfl (by decide +kernel) ⟨Nat.le_of_ble_eq_true rfl, Nat.le_of_ble_eq_true rfl⟩) ⟨zPw.blind _ _ _ _ _, fun U hU hW => ⟨rfl, by rw [hU], by rw [hU]; exact hPc, va_K.moved hW.alike hKc, hDc.weaken (fun _ _ _ _ => trivial)⟩⟩ rfl rfl hl.1 rfl (lv_room (Nat.le_of_ble_eq_true rfl)) dX4_holiday_56 ⟨Nat.le_of_ble_eq_true rfl, Nat.le_of_ble_eq_true rfl⟩) hS (fun q _ h => hFc q h) hFc (fun u t H1 locs ht hvm hw hB hz1 hk1 hS => ?_)
      obtain ⟨hP1, hK1, hD1⟩ := hB
      rw [ht] at hP1
      obtain ⟨hP, hD⟩ := va_join (wr := [(h0, .inr (4, [.ref qs, .ref qr, .ref qm, .ref qw, .ref qt, .int (zi we)])), (qr, .inr (0, [.int (zi mc), .ref qe, .int (zi ru)])), (qe, aR cO cap ef)]) (w1 := [(q5, .inr (3, [.int (zi kk), .int (zi aa), .int (zi bb), .int (zi cz)]))]) hP hD [3] [0, 1, 2] rfl rfl (by decide) (by decide) hk1 hFc hP1 hD1
      generalize H1 = H at hP hS ⊢
      have hP : va_P (dC, dI) vwCl [(h0, .inr (4, [.ref qs, .ref qr, .ref qm, .ref qw, .ref qt, .int (zi we)])), (qr, .inr (0, [.int (zi mc), .ref qe, .int (zi ru)])), (qe, aR cO cap ef), (q5, .inr (3, [.int (zi kk), .int (zi aa), .int (zi bb), .int (zi cz)]))] H := hP
      have hD : va_D A [(h0, .inr (4, [.ref qs, .ref qr, .ref qm, .ref qw, .ref qt, .int (zi we)])), (qr, .inr (0, [.int (zi mc), .ref qe, .int (zi ru)])), (qe, aR cO cap ef), (q5, .inr (3, [.int (zi kk), .int (zi aa), .int (zi bb), .int (zi cz)]))] := hD
      have hh7 := c_Jx_addA l dC dI cO qr mc qe ru cap ef q5 kk aa bb cz rf kf af bf zf qd mi H.size (by omega) (by exact hp6) (by exact hp7)
      have hPc := hP.sub (ws' := [(qr, .inr (0, [.int (zi mc), .ref qe, .int (zi ru)])), (qe, aR cO cap ef), (q5, .inr (3, [.int (zi kk), .int (zi aa), .int (zi bb), .int (zi cz)]))]) [1, 2, 3] rfl
      have hKc : va_K (dC, dI) vwCl [(cO, .object "java/lang/Object")] s := hK
      have hDc := hD.sub (ws' := [(qr, .inr (0, [.int (zi mc), .ref qe, .int (zi ru)])), (qe, aR cO cap ef), (q5, .inr (3, [.int (zi kk), .int (zi aa), .int (zi bb), .int (zi cz)]))]) [1, 2, 3] (by decide) rfl
      have hFc := va_free (wc := [(qr, .inr (0, [.int (zi mc), .ref qe, .int (zi ru)])), (qe, aR cO cap ef), (q5, .inr (3, [.int (zi kk), .int (zi aa), .int (zi bb), .int (zi cz)]))]) hD hS hA [1, 2, 3] rfl
      refine va_calli (va_runV (As := [.ref q5]) (rest := []) ⟨hx, hb, hml, hown, hts⟩ hh7 (cwV 1 hts gX4_holiday_Jx4a65c_add_9ea2d rfl rfl rfl (by decide +kernel) ⟨Nat.le_of_ble_eq_true rfl, Nat.le_of_ble_eq_true rfl⟩) ⟨zPwF.blind _ _ _ _ _ zRO_ok, va_recv hKc hPc (ci := 0) (q0 := 0) rfl rfl, fun U hU hW => ⟨rfl, by rw [hU], by rw [hU]; exact hPc, va_K.moved hW.alike hKc, hDc.weaken (fun _ _ _ _ => trivial), zF.call zRO_ok hG hS hFc hU hW⟩⟩ rfl rfl hl.1 rfl (lv_room (Nat.le_of_ble_eq_true rfl)) dX4_holiday_59 ⟨Nat.le_of_ble_eq_true rfl, Nat.le_of_ble_eq_true rfl⟩) hS (fun q _ h => hFc q h) hFc (fun r7 u t H1 locs ht hvm hw hB hz1 hk1 hS => ?_)
      obtain ⟨qf_8, cp_8, eg_8⟩ := u
      obtain ⟨hw, hw7⟩ := hw
      replace hw7 : ((∀ j : Nat, (j : Int) < ru → eg_8 j = ef j) ∧ eg_8 (Int.toNat ru) = some q5) ∧ (cp_8 = 10 ∧ (ru : Int) < 10 ∨ cp_8 = 15 ∧ (ru : Int) < 15) := hw7
      obtain ⟨hP1, hK1, hD1⟩ := hB
      rw [ht] at hP1
      replace hP1 : va_P (dC, dI) vwCl [(qr, .inr (0, [.int (zi (mc + 1)), .ref qf_8, .int (zi (ru + 1))])), (qf_8, aR cO cp_8 eg_8), (q5, .inr (3, [.int (zi kk), .int (zi aa), .int (zi bb), .int (zi cz)]))] H1 := hP1
      replace hD1 : va_D _ [(qr, .inr (0, [.int (zi (mc + 1)), .ref qf_8, .int (zi (ru + 1))])), (qf_8, aR cO cp_8 eg_8), (q5, .inr (3, [.int (zi kk), .int (zi aa), .int (zi bb), .int (zi cz)]))] := hD1
      obtain ⟨hP, hD⟩ := va_join (wr := [(h0, .inr (4, [.ref qs, .ref qr, .ref qm, .ref qw, .ref qt, .int (zi we)]))]) (w1 := [(qr, .inr (0, [.int (zi (mc + 1)), .ref qf_8, .int (zi (ru + 1))])), (qf_8, aR cO cp_8 eg_8), (q5, .inr (3, [.int (zi kk), .int (zi aa), .int (zi bb), .int (zi cz)]))]) hP hD [1, 2, 3] [0] rfl rfl (by decide) (by decide) hk1 hFc hP1 hD1
      generalize H1 = H at hP hS ⊢
      obtain rfl : r7 = zi 1 := hw
      have hP : va_P (dC, dI) vwCl [(h0, .inr (4, [.ref qs, .ref qr, .ref qm, .ref qw, .ref qt, .int (zi we)])), (qr, .inr (0, [.int (zi (mc + 1)), .ref qf_8, .int (zi (ru + 1))])), (qf_8, aR cO cp_8 eg_8), (q5, .inr (3, [.int (zi kk), .int (zi aa), .int (zi bb), .int (zi cz)]))] H := hP
      have hD : va_D A [(h0, .inr (4, [.ref qs, .ref qr, .ref qm, .ref qw, .ref qt, .int (zi we)])), (qr, .inr (0, [.int (zi (mc + 1)), .ref qf_8, .int (zi (ru + 1))])), (qf_8, aR cO cp_8 eg_8), (q5, .inr (3, [.int (zi kk), .int (zi aa), .int (zi bb), .int (zi cz)]))] := hD
      refine lv_pop hx hb dX4_holiday_62 rfl ?_
      refine lv_aload_n hx hb dX4_holiday_63 rfl (lv_at hl 0 rfl) ?_
      refine va_get (D := (dC, dI)) (ci := 4) (v := .ref qr) (C := RX4) (T := TX4) (N := 6) hx hb hts (by decide +kernel) hown hK hP 0 rfl rfl 1 (by decide) (hts (.fieldLink RX4 16 "CivilDays" "rules" "Ljava/util/ArrayList;") (by decide +kernel)) (fun _ h9 => h9) rfl dX4_holiday_64 ?_
      have hh9 := c_Jx_size l dC dI qr (mc + 1) qf_8 (ru + 1) 
      have hPc := hP.sub (ws' := [(qr, .inr (0, [.int (zi (mc + 1)), .ref qf_8, .int (zi (ru + 1))]))]) [1] rfl
      have hKc : va_K (dC, dI) vwCl [] s := hK.sub (tys' := []) [] rfl
      refine vp_callSi (va_Run.run (va_runV (As := []) (rest := []) ⟨hx, hb, hml, hown, hts⟩ hh9 (cwV 0 hts gX4_holiday_Jx4a65c_size_8abf5 rfl rfl rfl (by decide +kernel) ⟨Nat.le_of_ble_eq_true rfl, Nat.le_of_ble_eq_true rfl⟩) ⟨zPr.blind _ _ _ _, va_recv hKc hPc (ci := 0) (q0 := 0) rfl rfl, fun U hU hW => ⟨rfl, by rw [hU]; exact hPc, va_K.moved hW.alike hKc⟩⟩ rfl rfl hl.1 rfl (lv_room (Nat.le_of_ble_eq_true rfl)) dX4_holiday_67 ⟨Nat.le_of_ble_eq_true rfl, Nat.le_of_ble_eq_true rfl⟩)) (fun r9 (hr9 : r9 = zi (ru + 1)) => ?_)
      subst hr9
      have hP9 := hP.sub (ws' := [(h0, .inr (4, [.ref qs, .ref qr, .ref qm, .ref qw, .ref qt, .int (zi we)])), (qr, .inr (0, [.int (zi (mc + 1)), .ref qf_8, .int (zi (ru + 1))])), (qf_8, aR cO cp_8 eg_8), (q5, .inr (3, [.int (zi kk), .int (zi aa), .int (zi bb), .int (zi cz)]))]) [0, 1, 2, 3] rfl
      have hD9 := hD.sub (ws' := [(h0, .inr (4, [.ref qs, .ref qr, .ref qm, .ref qw, .ref qt, .int (zi we)])), (qr, .inr (0, [.int (zi (mc + 1)), .ref qf_8, .int (zi (ru + 1))])), (qf_8, aR cO cp_8 eg_8), (q5, .inr (3, [.int (zi kk), .int (zi aa), .int (zi bb), .int (zi cz)]))]) [0, 1, 2, 3] (by decide) rfl
      have hp9 : ((∀ j : Nat, (j : Int) < ru → eg_8 j = ef j) ∧ eg_8 (Int.toNat ru) = some q5) ∧ (cp_8 = 10 ∧ (ru : Int) < 10 ∨ cp_8 = 15 ∧ (ru : Int) < 15) := by
        assumption
      refine W.widen (k := 2) (n := 19) (Nat.le_of_ble_eq_true rfl) (Nat.le_of_ble_eq_true rfl) ?_
      exact W.iret (v := zi (ru + 1)) hx hb hr (fun t ht hW => ⟨⟨zi (ru + 1), (qf_8, cp_8, eg_8, q5), rfl, ⟨rfl, hp9⟩, by rw [ht]; exact hP9, va_K.moved hW.alike hK, hD9⟩, hS.F ht⟩) hS.2.2 dX4_holiday_70
    · skip
      exact absurd True.intro (by omega)
  · skip
    exact absurd True.intro (by omega)

set_option maxHeartbeats 4000000 in
set_option maxRecDepth 100000 in
theorem c_X4_holiday_0 (l : Launch)  (dC : Nat → ClassId) (dI : Nat → Nat → Nat) (cO : ClassId) (h0 : Nat) (qs : Nat) (qr : Nat) (qm : Nat) (qw : Nat) (qt : Nat) (we : Int) (mc : Int) (ef : Nat → Option Nat) (rf : Nat → Nat) (kf : Nat → Int) (af : Nat → Int) (bf : Nat → Int) (zf : Nat → Int) (qd : Nat) (mi : Nat) (kk : Int) (aa : Int) (bb : Int) (cz : Int) (sz : Nat) (hp0 : -2147483648 ≤ kk ∧ kk ≤ 2147483647) (hp1 : -2147483648 ≤ aa ∧ aa ≤ 2147483647) (hp2 : -2147483648 ≤ bb ∧ bb ≤ 2147483647) (hp3 : -2147483648 ≤ cz ∧ cz ≤ 2147483647) (hp4 : (f_X3_isRule kk aa bb cz) = 1) : Met l yX4_holiday wsX4_holiday ({ frames := 7, cells := 2, slots := 19, locals := 191 }) (zPwF (dC, dI) [(cO, .object "java/lang/Object")] sz [.ref h0, .int (zi kk), .int (zi aa), .int (zi bb), .int (zi cz)] [(h0, .inr (4, [.ref qs, .ref qr, .ref qm, .ref qw, .ref qt, .int (zi we)])), (qr, .inr (0, [.int (zi mc), .ref qd, .int (zi 0)])), (qd, aR cO 0 ef)] (zRO (dC, dI) 0 rf kf af bf zf qd mi)) (va_Qi (fun (r : Int32) (u : (Nat) × (Nat) × (Nat → Option Nat) × (Nat)) => r = zi 1 ∧ (((∀ j : Nat, (j : Int) < (0 : Int) → u.2.2.1 j = ef j) ∧ u.2.2.1 (Int.toNat (0 : Int)) = some u.2.2.2) ∧ (u.2.1 = 10 ∧ (0 : Int) < 10 ∨ u.2.1 = 15 ∧ (0 : Int) < 15))) (fun (u : (Nat) × (Nat) × (Nat → Option Nat) × (Nat)) => zB (dC, dI) [(cO, .object "java/lang/Object")] (va_A [(h0, .inr (4, [.ref qs, .ref qr, .ref qm, .ref qw, .ref qt, .int (zi we)])), (qr, .inr (0, [.int (zi mc), .ref qd, .int (zi 0)])), (qd, aR cO 0 ef)] sz) [(h0, .inr (4, [.ref qs, .ref qr, .ref qm, .ref qw, .ref qt, .int (zi we)])), (qr, .inr (0, [.int (zi (mc + 1)), .ref u.1, .int (zi 1)])), (u.1, aR cO u.2.1 u.2.2.1), (u.2.2.2, .inr (3, [.int (zi kk), .int (zi aa), .int (zi bb), .int (zi cz)])), (qd, aR cO 0 ef)] ()) (va_A [(h0, .inr (4, [.ref qs, .ref qr, .ref qm, .ref qw, .ref qt, .int (zi we)])), (qr, .inr (0, [.int (zi mc), .ref qd, .int (zi 0)])), (qd, aR cO 0 ef)] sz)) 2 19 (va_A [(h0, .inr (4, [.ref qs, .ref qr, .ref qm, .ref qw, .ref qt, .int (zi we)])), (qr, .inr (0, [.int (zi mc), .ref qd, .int (zi 0)])), (qd, aR cO 0 ef)] sz) := by
  refine Met.ofW (cc := cX4_holiday) (maxL := 5) (ret := (some .int)) (by decide) rfl ?_
  intro p e s m args below meth c s₁ B hml hv
  obtain ⟨rfl, hsz, hP, hK, hD0, hG⟩ := hv
  have hx := B.exec
  have hb := B.bytes
  have hr := B.returns
  have hts := atoms_spec (ws := wsX4_holiday) B.pre
  have hown : s.vm.findClass RX4 = some m.cls := findClass_of_methodNamed B.named
  have hlocks := B.notSynchronized
  subst hsz
  have hD := hD0.self (sz := s.heap.size)
  generalize hAe : va_A [(h0, .inr (4, [.ref qs, .ref qr, .ref qm, .ref qw, .ref qt, .int (zi we)])), (qr, .inr (0, [.int (zi mc), .ref qd, .int (zi 0)])), (qd, aR cO 0 ef)] s.heap.size = A at hD hG ⊢
  have hA : ∀ q : Nat, s.heap.size ≤ q → A q := fun q h => by rw [← hAe]; exact Or.inr h
  have hS : va_S A s.heap s.heap [] := va_S.rf
  have hP : va_P (dC, dI) vwCl [(h0, .inr (4, [.ref qs, .ref qr, .ref qm, .ref qw, .ref qt, .int (zi we)])), (qr, .inr (0, [.int (zi mc), .ref qd, .int (zi 0)])), (qd, aR cO 0 ef)] s.heap := hP
  have hl := lv_entry ([.ref h0, .int (zi kk), .int (zi aa), .int (zi bb), .int (zi cz)]) (n := 5) (Nat.le_of_ble_eq_true rfl)
  rw [lg_entry_eq]
  generalize (lg_sl ([.ref h0, .int (zi kk), .int (zi aa), .int (zi bb), .int (zi cz)]) ++ List.replicate (5 - (lg_sl ([.ref h0, .int (zi kk), .int (zi aa), .int (zi bb), .int (zi cz)])).length) Slot.unset).toArray = ls at hl ⊢
  have hl : lv_has ls 5 [(0, .ref h0), (1, .int (zi kk)), (2, .int (zi aa)), (3, .int (zi bb)), (4, .int (zi cz))] := hl
  refine lv_iload_n hx hb dX4_holiday_0 rfl (lv_at hl 1 rfl) ?_
  refine lv_iload_n hx hb dX4_holiday_1 rfl (lv_at hl 2 rfl) ?_
  refine lv_iload_n hx hb dX4_holiday_2 rfl (lv_at hl 3 rfl) ?_
  refine lv_iload hx hb dX4_holiday_3 (lv_at hl 4 rfl) ?_
  have hh1 := c_X3_isRule l kk aa bb cz (by omega) (by omega) (by omega) (by omega)
  refine vp_callSi (va_Run.run (va_runS (As := [.int (zi kk), .int (zi aa), .int (zi bb), .int (zi cz)]) (rest := []) ⟨hx, hb, hml, hown, hts⟩ hh1 (va_cwS 4 hts gX4_holiday_X3_isRule rfl rfl rfl (by decide +kernel) ⟨Nat.le_of_ble_eq_true rfl, Nat.le_of_ble_eq_true rfl⟩) ⟨fun a U g mk q => q, fun U hU hW => ⟨rfl, trivial⟩⟩ rfl rfl hl.1 rfl (lv_room (Nat.le_of_ble_eq_true rfl)) dX4_holiday_5 ⟨Nat.zero_le _, Nat.zero_le _⟩)) (fun r1 (hr1 : r1 = zi (f_X3_isRule kk aa bb cz)) => ?_)
  subst hr1
  have hf1 := b_X3_isRule kk aa bb cz (by omega) (by omega) (by omega) (by omega)
  refine zw_if_ne (tgt := 21) hx hb dX4_holiday_8 (by decide) ⟨by omega, by omega⟩ (fun h2 => ?_) (fun h2 => ?_)
  · skip
    refine lv_aload_n hx hb dX4_holiday_21 rfl (lv_at hl 0 rfl) ?_
    refine va_get (D := (dC, dI)) (ci := 4) (v := .ref qr) (C := RX4) (T := TX4) (N := 6) hx hb hts (by decide +kernel) hown hK hP 0 rfl rfl 1 (by decide) (hts (.fieldLink RX4 16 "CivilDays" "rules" "Ljava/util/ArrayList;") (by decide +kernel)) (fun _ h9 => h9) rfl dX4_holiday_22 ?_
    have hh3 := c_Jx_size l dC dI qr mc qd 0 
    have hPc := hP.sub (ws' := [(qr, .inr (0, [.int (zi mc), .ref qd, .int (zi 0)]))]) [1] rfl
    have hKc : va_K (dC, dI) vwCl [] s := hK.sub (tys' := []) [] rfl
    refine vp_callSi (va_Run.run (va_runV (As := []) (rest := []) ⟨hx, hb, hml, hown, hts⟩ hh3 (cwV 0 hts gX4_holiday_Jx4a65c_size_8abf5 rfl rfl rfl (by decide +kernel) ⟨Nat.le_of_ble_eq_true rfl, Nat.le_of_ble_eq_true rfl⟩) ⟨zPr.blind _ _ _ _, va_recv hKc hPc (ci := 0) (q0 := 0) rfl rfl, fun U hU hW => ⟨rfl, by rw [hU]; exact hPc, va_K.moved hW.alike hKc⟩⟩ rfl rfl hl.1 rfl (lv_room (Nat.le_of_ble_eq_true rfl)) dX4_holiday_25 ⟨Nat.le_of_ble_eq_true rfl, Nat.le_of_ble_eq_true rfl⟩)) (fun r3 (hr3 : r3 = zi 0) => ?_)
    subst hr3
    refine zw_bipush hx hb dX4_holiday_28 (by decide) ?_
    refine zw_icmp_lt (tgt := 43) hx hb dX4_holiday_30 (by decide) ⟨by omega, by omega⟩ ⟨by omega, by omega⟩ (fun h4 => ?_) (fun h4 => ?_)
    · skip
      refine lv_aload_n hx hb dX4_holiday_43 rfl (lv_at hl 0 rfl) ?_
      refine va_get (D := (dC, dI)) (ci := 4) (v := .ref qr) (C := RX4) (T := TX4) (N := 6) hx hb hts (by decide +kernel) hown hK hP 0 rfl rfl 1 (by decide) (hts (.fieldLink RX4 16 "CivilDays" "rules" "Ljava/util/ArrayList;") (by decide +kernel)) (fun _ h9 => h9) rfl dX4_holiday_44 ?_
      refine va_new (C := RX3) (T := TX3) (N := 4) (ci := 3) (fs := [.int (zi 0), .int (zi 0), .int (zi 0), .int (zi 0)]) hx hb hts (by decide +kernel) tyX3 tyX3_ok hown (hts (.classLink RX4 125 RX3) (by decide +kernel)) (hts (.instantiable RX3 4) (by decide +kernel)) (hts (.initialized RX3) (by decide +kernel)) hK hP hD hS hA rfl (by decide +kernel) (Nat.le_of_ble_eq_true rfl) (Nat.le_of_ble_eq_true rfl) dX4_holiday_47 (fun q5 H hP hD hS => ?_)
      have hP : va_P (dC, dI) vwCl [(h0, .inr (4, [.ref qs, .ref qr, .ref qm, .ref qw, .ref qt, .int (zi we)])), (qr, .inr (0, [.int (zi mc), .ref qd, .int (zi 0)])), (qd, aR cO 0 ef), (q5, .inr (3, [.int (zi 0), .int (zi 0), .int (zi 0), .int (zi 0)]))] H := hP
      have hD : va_D A [(h0, .inr (4, [.ref qs, .ref qr, .ref qm, .ref qw, .ref qt, .int (zi we)])), (qr, .inr (0, [.int (zi mc), .ref qd, .int (zi 0)])), (qd, aR cO 0 ef), (q5, .inr (3, [.int (zi 0), .int (zi 0), .int (zi 0), .int (zi 0)]))] := hD
      refine lv_dup hx hb dX4_holiday_50 rfl ?_
      refine lv_iload_n hx hb dX4_holiday_51 rfl (lv_at hl 1 rfl) ?_
      refine lv_iload_n hx hb dX4_holiday_52 rfl (lv_at hl 2 rfl) ?_
      refine lv_iload_n hx hb dX4_holiday_53 rfl (lv_at hl 3 rfl) ?_
      refine lv_iload hx hb dX4_holiday_54 (lv_at hl 4 rfl) ?_
      have hh6 := c_X3_init l dC dI q5 kk aa bb cz H.size 
      have hPc := hP.sub (ws' := [(q5, .inr (3, [.int (zi 0), .int (zi 0), .int (zi 0), .int (zi 0)]))]) [3] rfl
      have hKc : va_K (dC, dI) vwCl [] s := hK.sub (tys' := []) [] rfl
      have hDc := hD.sub (ws' := [(q5, .inr (3, [.int (zi 0), .int (zi 0), .int (zi 0), .int (zi 0)]))]) [3] (by decide) rfl
      have hFc := va_free (wc := [(q5, .inr (3, [.int (zi 0), .int (zi 0), .int (zi 0), .int (zi 0)]))]) hD hS hA [3] rfl
      refine va_callv (va_runI (As := [.int (zi kk), .int (zi aa), .int (zi bb), .int (zi cz)]) (rest := [.ref q5, .ref qr]) ⟨hx, hb, hml, hown, hts⟩ hh6 (cwI 4 hts gX4_holiday_X3_init rfl rfl rfl (hts (.initialized RX3) (by decide +kernel)) (hts (.methodLink RX4 138 yX3_init) (by decide +kernel)) (hts (.instanceMethod yX3_init) (by decide +kernel)) rfl (by decide +kernel) ⟨Nat.le_of_ble_eq_true rfl, Nat.le_of_ble_eq_true rfl⟩) ⟨zPw.blind _ _ _ _ _, fun U hU hW => ⟨rfl, by rw [hU], by rw [hU]; exact hPc, va_K.moved hW.alike hKc, hDc.weaken (fun _ _ _ _ => trivial)⟩⟩ rfl rfl hl.1 rfl (lv_room (Nat.le_of_ble_eq_true rfl)) dX4_holiday_56 ⟨Nat.le_of_ble_eq_true rfl, Nat.le_of_ble_eq_true rfl⟩) hS (fun q _ h => hFc q h) hFc (fun u t H1 locs ht hvm hw hB hz1 hk1 hS => ?_)
      obtain ⟨hP1, hK1, hD1⟩ := hB
      rw [ht] at hP1
      obtain ⟨hP, hD⟩ := va_join (wr := [(h0, .inr (4, [.ref qs, .ref qr, .ref qm, .ref qw, .ref qt, .int (zi we)])), (qr, .inr (0, [.int (zi mc), .ref qd, .int (zi 0)])), (qd, aR cO 0 ef)]) (w1 := [(q5, .inr (3, [.int (zi kk), .int (zi aa), .int (zi bb), .int (zi cz)]))]) hP hD [3] [0, 1, 2] rfl rfl (by decide) (by decide) hk1 hFc hP1 hD1
      generalize H1 = H at hP hS ⊢
      have hP : va_P (dC, dI) vwCl [(h0, .inr (4, [.ref qs, .ref qr, .ref qm, .ref qw, .ref qt, .int (zi we)])), (qr, .inr (0, [.int (zi mc), .ref qd, .int (zi 0)])), (qd, aR cO 0 ef), (q5, .inr (3, [.int (zi kk), .int (zi aa), .int (zi bb), .int (zi cz)]))] H := hP
      have hD : va_D A [(h0, .inr (4, [.ref qs, .ref qr, .ref qm, .ref qw, .ref qt, .int (zi we)])), (qr, .inr (0, [.int (zi mc), .ref qd, .int (zi 0)])), (qd, aR cO 0 ef), (q5, .inr (3, [.int (zi kk), .int (zi aa), .int (zi bb), .int (zi cz)]))] := hD
      have hh7 := c_Jx_add_0 l dC dI cO qr mc ef q5 kk aa bb cz rf kf af bf zf qd mi H.size 
      have hPc := hP.sub (ws' := [(qr, .inr (0, [.int (zi mc), .ref qd, .int (zi 0)])), (qd, aR cO 0 ef), (q5, .inr (3, [.int (zi kk), .int (zi aa), .int (zi bb), .int (zi cz)]))]) [1, 2, 3] rfl
      have hKc : va_K (dC, dI) vwCl [(cO, .object "java/lang/Object")] s := hK
      have hDc := hD.sub (ws' := [(qr, .inr (0, [.int (zi mc), .ref qd, .int (zi 0)])), (qd, aR cO 0 ef), (q5, .inr (3, [.int (zi kk), .int (zi aa), .int (zi bb), .int (zi cz)]))]) [1, 2, 3] (by decide) rfl
      have hFc := va_free (wc := [(qr, .inr (0, [.int (zi mc), .ref qd, .int (zi 0)])), (qd, aR cO 0 ef), (q5, .inr (3, [.int (zi kk), .int (zi aa), .int (zi bb), .int (zi cz)]))]) hD hS hA [1, 2, 3] rfl
      refine va_calli (va_runV (As := [.ref q5]) (rest := []) ⟨hx, hb, hml, hown, hts⟩ hh7 (cwV 1 hts gX4_holiday_Jx4a65c_add_9ea2d rfl rfl rfl (by decide +kernel) ⟨Nat.le_of_ble_eq_true rfl, Nat.le_of_ble_eq_true rfl⟩) ⟨zPwF.blind _ _ _ _ _ zRO_ok, va_recv hKc hPc (ci := 0) (q0 := 0) rfl rfl, fun U hU hW => ⟨rfl, by rw [hU], by rw [hU]; exact hPc, va_K.moved hW.alike hKc, hDc.weaken (fun _ _ _ _ => trivial), zF.call zRO_ok hG hS hFc hU hW⟩⟩ rfl rfl hl.1 rfl (lv_room (Nat.le_of_ble_eq_true rfl)) dX4_holiday_59 ⟨Nat.le_of_ble_eq_true rfl, Nat.le_of_ble_eq_true rfl⟩) hS (fun q _ h => hFc q h) hFc (fun r7 u t H1 locs ht hvm hw hB hz1 hk1 hS => ?_)
      obtain ⟨qf_8, cp_8, eg_8⟩ := u
      obtain ⟨hw, hw7⟩ := hw
      replace hw7 : ((∀ j : Nat, (j : Int) < 0 → eg_8 j = ef j) ∧ eg_8 (Int.toNat 0) = some q5) ∧ (cp_8 = 10 ∧ (0 : Int) < 10 ∨ cp_8 = 15 ∧ (0 : Int) < 15) := hw7
      obtain ⟨hP1, hK1, hD1⟩ := hB
      rw [ht] at hP1
      replace hP1 : va_P (dC, dI) vwCl [(qr, .inr (0, [.int (zi (mc + 1)), .ref qf_8, .int (zi 1)])), (qf_8, aR cO cp_8 eg_8), (q5, .inr (3, [.int (zi kk), .int (zi aa), .int (zi bb), .int (zi cz)])), (qd, aR cO 0 ef)] H1 := hP1
      replace hD1 : va_D _ [(qr, .inr (0, [.int (zi (mc + 1)), .ref qf_8, .int (zi 1)])), (qf_8, aR cO cp_8 eg_8), (q5, .inr (3, [.int (zi kk), .int (zi aa), .int (zi bb), .int (zi cz)])), (qd, aR cO 0 ef)] := hD1
      obtain ⟨hP, hD⟩ := va_join (wr := [(h0, .inr (4, [.ref qs, .ref qr, .ref qm, .ref qw, .ref qt, .int (zi we)]))]) (w1 := [(qr, .inr (0, [.int (zi (mc + 1)), .ref qf_8, .int (zi 1)])), (qf_8, aR cO cp_8 eg_8), (q5, .inr (3, [.int (zi kk), .int (zi aa), .int (zi bb), .int (zi cz)])), (qd, aR cO 0 ef)]) hP hD [1, 2, 3] [0] rfl rfl (by decide) (by decide) hk1 hFc hP1 hD1
      generalize H1 = H at hP hS ⊢
      obtain rfl : r7 = zi 1 := hw
      have hP : va_P (dC, dI) vwCl [(h0, .inr (4, [.ref qs, .ref qr, .ref qm, .ref qw, .ref qt, .int (zi we)])), (qr, .inr (0, [.int (zi (mc + 1)), .ref qf_8, .int (zi 1)])), (qf_8, aR cO cp_8 eg_8), (q5, .inr (3, [.int (zi kk), .int (zi aa), .int (zi bb), .int (zi cz)])), (qd, aR cO 0 ef)] H := hP
      have hD : va_D A [(h0, .inr (4, [.ref qs, .ref qr, .ref qm, .ref qw, .ref qt, .int (zi we)])), (qr, .inr (0, [.int (zi (mc + 1)), .ref qf_8, .int (zi 1)])), (qf_8, aR cO cp_8 eg_8), (q5, .inr (3, [.int (zi kk), .int (zi aa), .int (zi bb), .int (zi cz)])), (qd, aR cO 0 ef)] := hD
      refine lv_pop hx hb dX4_holiday_62 rfl ?_
      refine lv_aload_n hx hb dX4_holiday_63 rfl (lv_at hl 0 rfl) ?_
      refine va_get (D := (dC, dI)) (ci := 4) (v := .ref qr) (C := RX4) (T := TX4) (N := 6) hx hb hts (by decide +kernel) hown hK hP 0 rfl rfl 1 (by decide) (hts (.fieldLink RX4 16 "CivilDays" "rules" "Ljava/util/ArrayList;") (by decide +kernel)) (fun _ h9 => h9) rfl dX4_holiday_64 ?_
      have hh9 := c_Jx_size l dC dI qr (mc + 1) qf_8 1 
      have hPc := hP.sub (ws' := [(qr, .inr (0, [.int (zi (mc + 1)), .ref qf_8, .int (zi 1)]))]) [1] rfl
      have hKc : va_K (dC, dI) vwCl [] s := hK.sub (tys' := []) [] rfl
      refine vp_callSi (va_Run.run (va_runV (As := []) (rest := []) ⟨hx, hb, hml, hown, hts⟩ hh9 (cwV 0 hts gX4_holiday_Jx4a65c_size_8abf5 rfl rfl rfl (by decide +kernel) ⟨Nat.le_of_ble_eq_true rfl, Nat.le_of_ble_eq_true rfl⟩) ⟨zPr.blind _ _ _ _, va_recv hKc hPc (ci := 0) (q0 := 0) rfl rfl, fun U hU hW => ⟨rfl, by rw [hU]; exact hPc, va_K.moved hW.alike hKc⟩⟩ rfl rfl hl.1 rfl (lv_room (Nat.le_of_ble_eq_true rfl)) dX4_holiday_67 ⟨Nat.le_of_ble_eq_true rfl, Nat.le_of_ble_eq_true rfl⟩)) (fun r9 (hr9 : r9 = zi 1) => ?_)
      subst hr9
      have hP9 := hP.sub (ws' := [(h0, .inr (4, [.ref qs, .ref qr, .ref qm, .ref qw, .ref qt, .int (zi we)])), (qr, .inr (0, [.int (zi (mc + 1)), .ref qf_8, .int (zi 1)])), (qf_8, aR cO cp_8 eg_8), (q5, .inr (3, [.int (zi kk), .int (zi aa), .int (zi bb), .int (zi cz)])), (qd, aR cO 0 ef)]) [0, 1, 2, 3, 4] rfl
      have hD9 := hD.sub (ws' := [(h0, .inr (4, [.ref qs, .ref qr, .ref qm, .ref qw, .ref qt, .int (zi we)])), (qr, .inr (0, [.int (zi (mc + 1)), .ref qf_8, .int (zi 1)])), (qf_8, aR cO cp_8 eg_8), (q5, .inr (3, [.int (zi kk), .int (zi aa), .int (zi bb), .int (zi cz)])), (qd, aR cO 0 ef)]) [0, 1, 2, 3, 4] (by decide) rfl
      have hp9 : ((∀ j : Nat, (j : Int) < (0 : Int) → eg_8 j = ef j) ∧ eg_8 (Int.toNat (0 : Int)) = some q5) ∧ (cp_8 = 10 ∧ (0 : Int) < 10 ∨ cp_8 = 15 ∧ (0 : Int) < 15) := by
        assumption
      refine W.widen (k := 2) (n := 19) (Nat.le_of_ble_eq_true rfl) (Nat.le_of_ble_eq_true rfl) ?_
      exact W.iret (v := zi 1) hx hb hr (fun t ht hW => ⟨⟨zi 1, (qf_8, cp_8, eg_8, q5), rfl, ⟨rfl, hp9⟩, by rw [ht]; exact hP9, va_K.moved hW.alike hK, hD9⟩, hS.F ht⟩) hS.2.2 dX4_holiday_70
    · skip
      exact absurd True.intro (by omega)
  · skip
    exact absurd True.intro (by omega)

set_option maxHeartbeats 4000000 in
set_option maxRecDepth 100000 in
theorem t_X4_noHoliday (l : Launch) (hst : l.stackTraces = false) (dC : Nat → ClassId) (dI : Nat → Nat → Nat) (h0 : Nat) (qs : Nat) (qr : Nat) (qm : Nat) (qw : Nat) (qt : Nat) (we : Int) (mc : Int) (qe : Nat) (ru : Int) (ix : Int) (hp0 : 0 ≤ ru ∧ ru ≤ 12) (hp1 : -2147483648 ≤ ix ∧ ix ≤ 2147483647) (hp2 : ix < 0 ∨ ru ≤ ix) : vx_Met l yX4_noHoliday wsX4_noHoliday ({ frames := 6, cells := 1, slots := 6, locals := 90 }) (zPt (dC, dI) [] [.ref h0, .int (zi ix)] [(h0, .inr (4, [.ref qs, .ref qr, .ref qm, .ref qw, .ref qt, .int (zi we)])), (qr, .inr (0, [.int (zi mc), .ref qe, .int (zi ru)]))]) zNo (zX "java/lang/IndexOutOfBoundsException") 1 6 zN := by
  refine vx_ofW (cc := cX4_noHoliday) (maxL := 2) (ret := (some .int)) (by decide) rfl ?_
  intro p e s m args below meth c s₁ B hml hno hv
  obtain ⟨rfl, hE, hP, hK⟩ := hv
  have hx := B.exec
  have hb := B.bytes
  have hr := B.returns
  have hts := atoms_spec (ws := wsX4_noHoliday) B.pre
  have hown : s.vm.findClass RX4 = some m.cls := findClass_of_methodNamed B.named
  have hlocks := B.notSynchronized
  have hl := lv_entry ([.ref h0, .int (zi ix)]) (n := 2) (Nat.le_of_ble_eq_true rfl)
  rw [lg_entry_eq]
  generalize (lg_sl ([.ref h0, .int (zi ix)]) ++ List.replicate (2 - (lg_sl ([.ref h0, .int (zi ix)])).length) Slot.unset).toArray = ls at hl ⊢
  have hl : lv_has ls 2 [(0, .ref h0), (1, .int (zi ix))] := hl
  refine lv_iload_n hx hb dX4_noHoliday_0 rfl (lv_at hl 1 rfl) ?_
  refine zw_if_lt (tgt := 15) hx hb dX4_noHoliday_1 (by decide) ⟨by omega, by omega⟩ (fun h1 => ?_) (fun h1 => ?_)
  · skip
    exact zt_throw (cls := "java/lang/IndexOutOfBoundsException") (text := "there is no such rule") (ik := 145) (is := 130) (ic := 147) hx hb hst hown hE (by decide +kernel) (hts (.classLink RX4 145 "java/lang/IndexOutOfBoundsException") (by decide +kernel)) (hts (.initialized "java/lang/IndexOutOfBoundsException") (by decide +kernel)) (by decide) (fun w h => hts w (List.mem_cons_of_mem _ (List.mem_append_right _ h))) (by decide +kernel) (by decide +kernel) (hl.1.trans hml.symm) dX4_noHoliday_15 dX4_noHoliday_18 dX4_noHoliday_19 dX4_noHoliday_21 dX4_noHoliday_24 hno (Nat.le_of_ble_eq_true rfl) (Nat.le_of_ble_eq_true rfl) (Nat.le_of_ble_eq_true rfl) (Nat.le_of_ble_eq_true rfl) hlocks
  · skip
    refine lv_iload_n hx hb dX4_noHoliday_4 rfl (lv_at hl 1 rfl) ?_
    refine lv_aload_n hx hb dX4_noHoliday_5 rfl (lv_at hl 0 rfl) ?_
    refine va_get (D := (dC, dI)) (ci := 4) (v := .ref qr) (C := RX4) (T := TX4) (N := 6) hx hb hts (by decide +kernel) hown hK hP 0 rfl rfl 1 (by decide) (hts (.fieldLink RX4 16 "CivilDays" "rules" "Ljava/util/ArrayList;") (by decide +kernel)) (fun _ h9 => h9) rfl dX4_noHoliday_6 ?_
    have hh2 := c_Jx_size l dC dI qr mc qe ru 
    have hPc := hP.sub (ws' := [(qr, .inr (0, [.int (zi mc), .ref qe, .int (zi ru)]))]) [1] rfl
    have hKc : va_K (dC, dI) vwCl [] s := hK
    refine vp_callSi (va_Run.run (va_runV (As := []) (rest := [.int (zi ix)]) ⟨hx, hb, hml, hown, hts⟩ hh2 (cwV 0 hts gX4_noHoliday_Jx4a65c_size_8abf5 rfl rfl rfl (by decide +kernel) ⟨Nat.le_of_ble_eq_true rfl, Nat.le_of_ble_eq_true rfl⟩) ⟨zPr.blind _ _ _ _, va_recv hKc hPc (ci := 0) (q0 := 0) rfl rfl, fun U hU hW => ⟨rfl, by rw [hU]; exact hPc, va_K.moved hW.alike hKc⟩⟩ rfl rfl hl.1 rfl (lv_room (Nat.le_of_ble_eq_true rfl)) dX4_noHoliday_9 ⟨Nat.le_of_ble_eq_true rfl, Nat.le_of_ble_eq_true rfl⟩)) (fun r2 (hr2 : r2 = zi ru) => ?_)
    subst hr2
    refine zw_icmp_lt (tgt := 25) hx hb dX4_noHoliday_12 (by decide) ⟨by omega, by omega⟩ ⟨by omega, by omega⟩ (fun h3 => ?_) (fun h3 => ?_)
    · skip
      exact absurd True.intro (by omega)
    · skip
      exact zt_throw (cls := "java/lang/IndexOutOfBoundsException") (text := "there is no such rule") (ik := 145) (is := 130) (ic := 147) hx hb hst hown hE (by decide +kernel) (hts (.classLink RX4 145 "java/lang/IndexOutOfBoundsException") (by decide +kernel)) (hts (.initialized "java/lang/IndexOutOfBoundsException") (by decide +kernel)) (by decide) (fun w h => hts w (List.mem_cons_of_mem _ (List.mem_append_right _ h))) (by decide +kernel) (by decide +kernel) (hl.1.trans hml.symm) dX4_noHoliday_15 dX4_noHoliday_18 dX4_noHoliday_19 dX4_noHoliday_21 dX4_noHoliday_24 hno (Nat.le_of_ble_eq_true rfl) (Nat.le_of_ble_eq_true rfl) (Nat.le_of_ble_eq_true rfl) (Nat.le_of_ble_eq_true rfl) hlocks

set_option maxHeartbeats 4000000 in
set_option maxRecDepth 100000 in
theorem c_X4_noHoliday (l : Launch)  (dC : Nat → ClassId) (dI : Nat → Nat → Nat) (cO : ClassId) (h0 : Nat) (qs : Nat) (qr : Nat) (qm : Nat) (qw : Nat) (qt : Nat) (we : Int) (mc : Int) (qe : Nat) (ru : Int) (cap : Nat) (ef : Nat → Option Nat) (rf : Nat → Nat) (kf : Nat → Int) (af : Nat → Int) (bf : Nat → Int) (zf : Nat → Int) (qd : Nat) (mi : Nat) (ix : Int) (sz : Nat) (hp0 : 0 ≤ ix ∧ ix < ru ∧ ru ≤ (cap : Int) ∧ (cap : Int) ≤ 1000) (hp1 : ∀ j : Nat, (j : Int) < ru → ef j = some (rf j)) : Met l yX4_noHoliday wsX4_noHoliday ({ frames := 3, cells := 0, slots := 0, locals := 106 }) (zPwF (dC, dI) [(cO, .object "java/lang/Object")] sz [.ref h0, .int (zi ix)] [(h0, .inr (4, [.ref qs, .ref qr, .ref qm, .ref qw, .ref qt, .int (zi we)])), (qr, .inr (0, [.int (zi mc), .ref qe, .int (zi ru)])), (qe, aR cO cap ef)] (zRO (dC, dI) ru rf kf af bf zf qd mi)) (va_Qi (fun (r : Int32) (u : (Nat → Option Nat)) => r = zi (ru - 1) ∧ (∀ j : Nat, (j : Int) < ru - 1 → u j = if (j : Int) < ix then ef j else ef (j + 1))) (fun (u : (Nat → Option Nat)) => zB (dC, dI) [(cO, .object "java/lang/Object")] (va_A [(h0, .inr (4, [.ref qs, .ref qr, .ref qm, .ref qw, .ref qt, .int (zi we)])), (qr, .inr (0, [.int (zi mc), .ref qe, .int (zi ru)])), (qe, aR cO cap ef)] sz) [(h0, .inr (4, [.ref qs, .ref qr, .ref qm, .ref qw, .ref qt, .int (zi we)])), (qr, .inr (0, [.int (zi (mc + 1)), .ref qe, .int (zi (ru - 1))])), (qe, aR cO cap u)] ()) (va_A [(h0, .inr (4, [.ref qs, .ref qr, .ref qm, .ref qw, .ref qt, .int (zi we)])), (qr, .inr (0, [.int (zi mc), .ref qe, .int (zi ru)])), (qe, aR cO cap ef)] sz)) 0 0 (va_A [(h0, .inr (4, [.ref qs, .ref qr, .ref qm, .ref qw, .ref qt, .int (zi we)])), (qr, .inr (0, [.int (zi mc), .ref qe, .int (zi ru)])), (qe, aR cO cap ef)] sz) := by
  refine Met.ofW (cc := cX4_noHoliday) (maxL := 2) (ret := (some .int)) (by decide) rfl ?_
  intro p e s m args below meth c s₁ B hml hv
  obtain ⟨rfl, hsz, hP, hK, hD0, hG⟩ := hv
  have hx := B.exec
  have hb := B.bytes
  have hr := B.returns
  have hts := atoms_spec (ws := wsX4_noHoliday) B.pre
  have hown : s.vm.findClass RX4 = some m.cls := findClass_of_methodNamed B.named
  have hlocks := B.notSynchronized
  subst hsz
  have hD := hD0.self (sz := s.heap.size)
  generalize hAe : va_A [(h0, .inr (4, [.ref qs, .ref qr, .ref qm, .ref qw, .ref qt, .int (zi we)])), (qr, .inr (0, [.int (zi mc), .ref qe, .int (zi ru)])), (qe, aR cO cap ef)] s.heap.size = A at hD hG ⊢
  have hA : ∀ q : Nat, s.heap.size ≤ q → A q := fun q h => by rw [← hAe]; exact Or.inr h
  have hS : va_S A s.heap s.heap [] := va_S.rf
  have hP : va_P (dC, dI) vwCl [(h0, .inr (4, [.ref qs, .ref qr, .ref qm, .ref qw, .ref qt, .int (zi we)])), (qr, .inr (0, [.int (zi mc), .ref qe, .int (zi ru)])), (qe, aR cO cap ef)] s.heap := hP
  have hl := lv_entry ([.ref h0, .int (zi ix)]) (n := 2) (Nat.le_of_ble_eq_true rfl)
  rw [lg_entry_eq]
  generalize (lg_sl ([.ref h0, .int (zi ix)]) ++ List.replicate (2 - (lg_sl ([.ref h0, .int (zi ix)])).length) Slot.unset).toArray = ls at hl ⊢
  have hl : lv_has ls 2 [(0, .ref h0), (1, .int (zi ix))] := hl
  refine lv_iload_n hx hb dX4_noHoliday_0 rfl (lv_at hl 1 rfl) ?_
  refine zw_if_lt (tgt := 15) hx hb dX4_noHoliday_1 (by decide) ⟨by omega, by omega⟩ (fun h1 => ?_) (fun h1 => ?_)
  · skip
    exact absurd True.intro (by omega)
  · skip
    refine lv_iload_n hx hb dX4_noHoliday_4 rfl (lv_at hl 1 rfl) ?_
    refine lv_aload_n hx hb dX4_noHoliday_5 rfl (lv_at hl 0 rfl) ?_
    refine va_get (D := (dC, dI)) (ci := 4) (v := .ref qr) (C := RX4) (T := TX4) (N := 6) hx hb hts (by decide +kernel) hown hK hP 0 rfl rfl 1 (by decide) (hts (.fieldLink RX4 16 "CivilDays" "rules" "Ljava/util/ArrayList;") (by decide +kernel)) (fun _ h9 => h9) rfl dX4_noHoliday_6 ?_
    have hh2 := c_Jx_size l dC dI qr mc qe ru 
    have hPc := hP.sub (ws' := [(qr, .inr (0, [.int (zi mc), .ref qe, .int (zi ru)]))]) [1] rfl
    have hKc : va_K (dC, dI) vwCl [] s := hK.sub (tys' := []) [] rfl
    refine vp_callSi (va_Run.run (va_runV (As := []) (rest := [.int (zi ix)]) ⟨hx, hb, hml, hown, hts⟩ hh2 (cwV 0 hts gX4_noHoliday_Jx4a65c_size_8abf5 rfl rfl rfl (by decide +kernel) ⟨Nat.le_of_ble_eq_true rfl, Nat.le_of_ble_eq_true rfl⟩) ⟨zPr.blind _ _ _ _, va_recv hKc hPc (ci := 0) (q0 := 0) rfl rfl, fun U hU hW => ⟨rfl, by rw [hU]; exact hPc, va_K.moved hW.alike hKc⟩⟩ rfl rfl hl.1 rfl (lv_room (Nat.le_of_ble_eq_true rfl)) dX4_noHoliday_9 ⟨Nat.le_of_ble_eq_true rfl, Nat.le_of_ble_eq_true rfl⟩)) (fun r2 (hr2 : r2 = zi ru) => ?_)
    subst hr2
    refine zw_icmp_lt (tgt := 25) hx hb dX4_noHoliday_12 (by decide) ⟨by omega, by omega⟩ ⟨by omega, by omega⟩ (fun h3 => ?_) (fun h3 => ?_)
    · skip
      refine lv_aload_n hx hb dX4_noHoliday_25 rfl (lv_at hl 0 rfl) ?_
      refine va_get (D := (dC, dI)) (ci := 4) (v := .ref qr) (C := RX4) (T := TX4) (N := 6) hx hb hts (by decide +kernel) hown hK hP 0 rfl rfl 1 (by decide) (hts (.fieldLink RX4 16 "CivilDays" "rules" "Ljava/util/ArrayList;") (by decide +kernel)) (fun _ h9 => h9) rfl dX4_noHoliday_26 ?_
      refine lv_iload_n hx hb dX4_noHoliday_29 rfl (lv_at hl 1 rfl) ?_
      have hh4 := c_Jx_remove l dC dI cO qr mc qe ru cap ef rf kf af bf zf qd mi ix s.heap.size (by omega) (by exact hp1)
      have hPc := hP.sub (ws' := [(qr, .inr (0, [.int (zi mc), .ref qe, .int (zi ru)])), (qe, aR cO cap ef)]) [1, 2] rfl
      have hKc : va_K (dC, dI) vwCl [(cO, .object "java/lang/Object")] s := hK
      have hDc := hD.sub (ws' := [(qr, .inr (0, [.int (zi mc), .ref qe, .int (zi ru)])), (qe, aR cO cap ef)]) [1, 2] (by decide) rfl
      have hFc := va_free (wc := [(qr, .inr (0, [.int (zi mc), .ref qe, .int (zi ru)])), (qe, aR cO cap ef)]) hD hS hA [1, 2] rfl
      refine va_callq (va_runV (As := [.int (zi ix)]) (rest := []) ⟨hx, hb, hml, hown, hts⟩ hh4 (cwV 1 hts gX4_noHoliday_Jx4a65c_remove_915e3 rfl rfl rfl (by decide +kernel) ⟨Nat.le_of_ble_eq_true rfl, Nat.le_of_ble_eq_true rfl⟩) ⟨zPwF.blind _ _ _ _ _ zRO_ok, va_recv hKc hPc (ci := 0) (q0 := 0) rfl rfl, fun U hU hW => ⟨rfl, by rw [hU], by rw [hU]; exact hPc, va_K.moved hW.alike hKc, hDc.weaken (fun _ _ _ _ => trivial), zF.call zRO_ok hG hS hFc hU hW⟩⟩ rfl rfl hl.1 rfl (lv_room (Nat.le_of_ble_eq_true rfl)) dX4_noHoliday_30 ⟨Nat.le_of_ble_eq_true rfl, Nat.le_of_ble_eq_true rfl⟩) hS (fun q _ h => hFc q h) hFc (fun r4 u t H1 locs ht hvm hw hB hz1 hk1 hS => ?_)
      generalize u = eg_5 at hw hB
      obtain ⟨hw, hw4⟩ := hw
      replace hw4 : ∀ j : Nat, (j : Int) < ru - 1 → eg_5 j = if (j : Int) < ix then ef j else ef (j + 1) := hw4
      obtain ⟨hP1, hK1, hD1⟩ := hB
      rw [ht] at hP1
      replace hP1 : va_P (dC, dI) vwCl [(qr, .inr (0, [.int (zi (mc + 1)), .ref qe, .int (zi (ru - 1))])), (qe, aR cO cap eg_5)] H1 := hP1
      replace hD1 : va_D _ [(qr, .inr (0, [.int (zi (mc + 1)), .ref qe, .int (zi (ru - 1))])), (qe, aR cO cap eg_5)] := hD1
      obtain ⟨hP, hD⟩ := va_join (wr := [(h0, .inr (4, [.ref qs, .ref qr, .ref qm, .ref qw, .ref qt, .int (zi we)]))]) (w1 := [(qr, .inr (0, [.int (zi (mc + 1)), .ref qe, .int (zi (ru - 1))])), (qe, aR cO cap eg_5)]) hP hD [1, 2] [0] rfl rfl (by decide) (by decide) hk1 hFc hP1 hD1
      generalize H1 = H at hP hS ⊢
      obtain rfl : r4 = (some (rf ix.toNat)) := hw
      have hP : va_P (dC, dI) vwCl [(h0, .inr (4, [.ref qs, .ref qr, .ref qm, .ref qw, .ref qt, .int (zi we)])), (qr, .inr (0, [.int (zi (mc + 1)), .ref qe, .int (zi (ru - 1))])), (qe, aR cO cap eg_5)] H := hP
      have hD : va_D A [(h0, .inr (4, [.ref qs, .ref qr, .ref qm, .ref qw, .ref qt, .int (zi we)])), (qr, .inr (0, [.int (zi (mc + 1)), .ref qe, .int (zi (ru - 1))])), (qe, aR cO cap eg_5)] := hD
      refine lv_pop hx hb dX4_noHoliday_33 rfl ?_
      refine lv_aload_n hx hb dX4_noHoliday_34 rfl (lv_at hl 0 rfl) ?_
      refine va_get (D := (dC, dI)) (ci := 4) (v := .ref qr) (C := RX4) (T := TX4) (N := 6) hx hb hts (by decide +kernel) hown hK hP 0 rfl rfl 1 (by decide) (hts (.fieldLink RX4 16 "CivilDays" "rules" "Ljava/util/ArrayList;") (by decide +kernel)) (fun _ h9 => h9) rfl dX4_noHoliday_35 ?_
      have hh6 := c_Jx_size l dC dI qr (mc + 1) qe (ru - 1) 
      have hPc := hP.sub (ws' := [(qr, .inr (0, [.int (zi (mc + 1)), .ref qe, .int (zi (ru - 1))]))]) [1] rfl
      have hKc : va_K (dC, dI) vwCl [] s := hK.sub (tys' := []) [] rfl
      refine vp_callSi (va_Run.run (va_runV (As := []) (rest := []) ⟨hx, hb, hml, hown, hts⟩ hh6 (cwV 0 hts gX4_noHoliday_Jx4a65c_size_8abf5 rfl rfl rfl (by decide +kernel) ⟨Nat.le_of_ble_eq_true rfl, Nat.le_of_ble_eq_true rfl⟩) ⟨zPr.blind _ _ _ _, va_recv hKc hPc (ci := 0) (q0 := 0) rfl rfl, fun U hU hW => ⟨rfl, by rw [hU]; exact hPc, va_K.moved hW.alike hKc⟩⟩ rfl rfl hl.1 rfl (lv_room (Nat.le_of_ble_eq_true rfl)) dX4_noHoliday_38 ⟨Nat.le_of_ble_eq_true rfl, Nat.le_of_ble_eq_true rfl⟩)) (fun r6 (hr6 : r6 = zi (ru - 1)) => ?_)
      subst hr6
      have hP9 := hP.sub (ws' := [(h0, .inr (4, [.ref qs, .ref qr, .ref qm, .ref qw, .ref qt, .int (zi we)])), (qr, .inr (0, [.int (zi (mc + 1)), .ref qe, .int (zi (ru - 1))])), (qe, aR cO cap eg_5)]) [0, 1, 2] rfl
      have hD9 := hD.sub (ws' := [(h0, .inr (4, [.ref qs, .ref qr, .ref qm, .ref qw, .ref qt, .int (zi we)])), (qr, .inr (0, [.int (zi (mc + 1)), .ref qe, .int (zi (ru - 1))])), (qe, aR cO cap eg_5)]) [0, 1, 2] (by decide) rfl
      have hp9 : ∀ j : Nat, (j : Int) < ru - 1 → eg_5 j = if (j : Int) < ix then ef j else ef (j + 1) := by
        assumption
      exact W.iret (v := zi (ru - 1)) hx hb hr (fun t ht hW => ⟨⟨zi (ru - 1), eg_5, rfl, ⟨rfl, hp9⟩, by rw [ht]; exact hP9, va_K.moved hW.alike hK, hD9⟩, hS.F ht⟩) hS.2.2 dX4_noHoliday_41
    · skip
      exact absurd True.intro (by omega)

set_option maxHeartbeats 4000000 in
set_option maxRecDepth 100000 in
theorem c_X4_clear (l : Launch)  (dC : Nat → ClassId) (dI : Nat → Nat → Nat) (cI : ClassId) (cO : ClassId) (h0 : Nat) (qs : Nat) (qr : Nat) (qm : Nat) (qw : Nat) (qt : Nat) (we : Int) (sf : Nat → Int) (mc : Int) (qe : Nat) (ru : Int) (cap : Nat) (ef : Nat → Option Nat) (wc : Nat) (wl : Int) (wf : Nat → Int) (tc : Nat) (tl : Int) (tf : Nat → Int) (sz : Nat) (hp0 : 0 ≤ ru ∧ ru ≤ 12 ∧ ru ≤ (cap : Int) ∧ (cap : Int) ≤ 1000) : Met l yX4_clear wsX4_clear ({ frames := 1, cells := 0, slots := 0, locals := 23 }) (zPw (dC, dI) [(cI, .int), (cO, .object "java/lang/Object")] sz [.ref h0] [(h0, .inr (4, [.ref qs, .ref qr, .ref qm, .ref qw, .ref qt, .int (zi we)])), (qs, aI cI 10 sf), (qr, .inr (0, [.int (zi mc), .ref qe, .int (zi ru)])), (qe, aR cO cap ef), (qw, .inr (1, [.ref wc, .int (zi wl)])), (wc, aI cI 20 wf), (qt, .inr (1, [.ref tc, .int (zi tl)])), (tc, aI cI 20 tf)]) (va_Qv (fun (u : (Nat → Int) × (Nat → Option Nat)) => ∀ j : Nat, u.1 j = if j < 10 then (-1) else sf j) (fun (u : (Nat → Int) × (Nat → Option Nat)) => zB (dC, dI) [(cI, .int), (cO, .object "java/lang/Object")] (va_A [(h0, .inr (4, [.ref qs, .ref qr, .ref qm, .ref qw, .ref qt, .int (zi we)])), (qs, aI cI 10 sf), (qr, .inr (0, [.int (zi mc), .ref qe, .int (zi ru)])), (qe, aR cO cap ef), (qw, .inr (1, [.ref wc, .int (zi wl)])), (wc, aI cI 20 wf), (qt, .inr (1, [.ref tc, .int (zi tl)])), (tc, aI cI 20 tf)] sz) [(h0, .inr (4, [.ref qs, .ref qr, .ref qm, .ref qw, .ref qt, .int (zi 96)])), (qs, aI cI 10 u.1), (qr, .inr (0, [.int (zi (mc + 1)), .ref qe, .int (zi 0)])), (qe, aR cO cap u.2), (qw, .inr (1, [.ref wc, .int (zi 0)])), (wc, aI cI 20 wf), (qt, .inr (1, [.ref tc, .int (zi 0)])), (tc, aI cI 20 tf)] ()) (va_A [(h0, .inr (4, [.ref qs, .ref qr, .ref qm, .ref qw, .ref qt, .int (zi we)])), (qs, aI cI 10 sf), (qr, .inr (0, [.int (zi mc), .ref qe, .int (zi ru)])), (qe, aR cO cap ef), (qw, .inr (1, [.ref wc, .int (zi wl)])), (wc, aI cI 20 wf), (qt, .inr (1, [.ref tc, .int (zi tl)])), (tc, aI cI 20 tf)] sz)) 0 0 (va_A [(h0, .inr (4, [.ref qs, .ref qr, .ref qm, .ref qw, .ref qt, .int (zi we)])), (qs, aI cI 10 sf), (qr, .inr (0, [.int (zi mc), .ref qe, .int (zi ru)])), (qe, aR cO cap ef), (qw, .inr (1, [.ref wc, .int (zi wl)])), (wc, aI cI 20 wf), (qt, .inr (1, [.ref tc, .int (zi tl)])), (tc, aI cI 20 tf)] sz) := by
  refine Met.ofW (cc := cX4_clear) (maxL := 1) (ret := none) (by decide) rfl ?_
  intro p e s m args below meth c s₁ B hml hv
  obtain ⟨rfl, hsz, hP, hK, hD0⟩ := hv
  have hx := B.exec
  have hb := B.bytes
  have hr := B.returns
  have hts := atoms_spec (ws := wsX4_clear) B.pre
  have hown : s.vm.findClass RX4 = some m.cls := findClass_of_methodNamed B.named
  have hlocks := B.notSynchronized
  subst hsz
  have hD := hD0.self (sz := s.heap.size)
  generalize hAe : va_A [(h0, .inr (4, [.ref qs, .ref qr, .ref qm, .ref qw, .ref qt, .int (zi we)])), (qs, aI cI 10 sf), (qr, .inr (0, [.int (zi mc), .ref qe, .int (zi ru)])), (qe, aR cO cap ef), (qw, .inr (1, [.ref wc, .int (zi wl)])), (wc, aI cI 20 wf), (qt, .inr (1, [.ref tc, .int (zi tl)])), (tc, aI cI 20 tf)] s.heap.size = A at hD ⊢
  have hA : ∀ q : Nat, s.heap.size ≤ q → A q := fun q h => by rw [← hAe]; exact Or.inr h
  have hS : va_S A s.heap s.heap [] := va_S.rf
  have hP : va_P (dC, dI) vwCl [(h0, .inr (4, [.ref qs, .ref qr, .ref qm, .ref qw, .ref qt, .int (zi we)])), (qs, aI cI 10 sf), (qr, .inr (0, [.int (zi mc), .ref qe, .int (zi ru)])), (qe, aR cO cap ef), (qw, .inr (1, [.ref wc, .int (zi wl)])), (wc, aI cI 20 wf), (qt, .inr (1, [.ref tc, .int (zi tl)])), (tc, aI cI 20 tf)] s.heap := hP
  have hl := lv_entry ([.ref h0]) (n := 1) (Nat.le_of_ble_eq_true rfl)
  rw [lg_entry_eq]
  generalize (lg_sl ([.ref h0]) ++ List.replicate (1 - (lg_sl ([.ref h0])).length) Slot.unset).toArray = ls at hl ⊢
  have hl : lv_has ls 1 [(0, .ref h0)] := hl
  refine lv_aload_n hx hb dX4_clear_0 rfl (lv_at hl 0 rfl) ?_
  refine va_get (D := (dC, dI)) (ci := 4) (v := .ref qs) (C := RX4) (T := TX4) (N := 6) hx hb hts (by decide +kernel) hown hK hP 0 rfl rfl 0 (by decide) (hts (.fieldLink RX4 9 "CivilDays" "slots" "[I") (by decide +kernel)) (fun _ h9 => h9) rfl dX4_clear_1 ?_
  refine zw_iconst hx hb dX4_clear_4 ?_
  have hh1 := c_J7_fill l dC dI cI qs 10 sf (-1) s.heap.size (by omega)
  have hPc := hP.sub (ws' := [(qs, aI cI 10 sf)]) [1] rfl
  have hKc : va_K (dC, dI) vwCl [(cI, .int)] s := hK.sub (tys' := [(cI, .int)]) [0] rfl
  have hDc := hD.sub (ws' := [(qs, aI cI 10 sf)]) [1] (by decide) rfl
  have hFc := va_free (wc := [(qs, aI cI 10 sf)]) hD hS hA [1] rfl
  refine va_callv (va_runS (As := [.ref qs, .int (zi (-1))]) (rest := []) ⟨hx, hb, hml, hown, hts⟩ hh1 (va_cwS 2 hts gX4_clear_J7_fill_53178 rfl rfl rfl (by decide +kernel) ⟨Nat.le_of_ble_eq_true rfl, Nat.le_of_ble_eq_true rfl⟩) ⟨zPw.blind _ _ _ _ _, fun U hU hW => ⟨rfl, by rw [hU], by rw [hU]; exact hPc, va_K.moved hW.alike hKc, hDc.weaken (fun _ _ _ _ => trivial)⟩⟩ rfl rfl hl.1 rfl (lv_room (Nat.le_of_ble_eq_true rfl)) dX4_clear_5 ⟨Nat.le_of_ble_eq_true rfl, Nat.le_of_ble_eq_true rfl⟩) hS (fun q _ h => hFc q h) hFc (fun u t H1 locs ht hvm hw hB hz1 hk1 hS => ?_)
  generalize u = fg_2 at hw hB
  have hw1 := hw
  replace hw1 : ∀ j : Nat, fg_2 j = if j < 10 then (-1) else sf j := hw1
  obtain ⟨hP1, hK1, hD1⟩ := hB
  rw [ht] at hP1
  replace hP1 : va_P (dC, dI) vwCl [(qs, aI cI 10 fg_2)] H1 := hP1
  replace hD1 : va_D _ [(qs, aI cI 10 fg_2)] := hD1
  obtain ⟨hP, hD⟩ := va_join (wr := [(h0, .inr (4, [.ref qs, .ref qr, .ref qm, .ref qw, .ref qt, .int (zi we)])), (qr, .inr (0, [.int (zi mc), .ref qe, .int (zi ru)])), (qe, aR cO cap ef), (qw, .inr (1, [.ref wc, .int (zi wl)])), (wc, aI cI 20 wf), (qt, .inr (1, [.ref tc, .int (zi tl)])), (tc, aI cI 20 tf)]) (w1 := [(qs, aI cI 10 fg_2)]) hP hD [1] [0, 2, 3, 4, 5, 6, 7] rfl rfl (by decide) (by decide) hk1 hFc hP1 hD1
  generalize H1 = H at hP hS ⊢
  have hP : va_P (dC, dI) vwCl [(h0, .inr (4, [.ref qs, .ref qr, .ref qm, .ref qw, .ref qt, .int (zi we)])), (qr, .inr (0, [.int (zi mc), .ref qe, .int (zi ru)])), (qe, aR cO cap ef), (qw, .inr (1, [.ref wc, .int (zi wl)])), (wc, aI cI 20 wf), (qt, .inr (1, [.ref tc, .int (zi tl)])), (tc, aI cI 20 tf), (qs, aI cI 10 fg_2)] H := hP
  have hD : va_D A [(h0, .inr (4, [.ref qs, .ref qr, .ref qm, .ref qw, .ref qt, .int (zi we)])), (qr, .inr (0, [.int (zi mc), .ref qe, .int (zi ru)])), (qe, aR cO cap ef), (qw, .inr (1, [.ref wc, .int (zi wl)])), (wc, aI cI 20 wf), (qt, .inr (1, [.ref tc, .int (zi tl)])), (tc, aI cI 20 tf), (qs, aI cI 10 fg_2)] := hD
  refine lv_aload_n hx hb dX4_clear_8 rfl (lv_at hl 0 rfl) ?_
  refine va_get (D := (dC, dI)) (ci := 4) (v := .ref qr) (C := RX4) (T := TX4) (N := 6) hx hb hts (by decide +kernel) hown hK hP 0 rfl rfl 1 (by decide) (hts (.fieldLink RX4 16 "CivilDays" "rules" "Ljava/util/ArrayList;") (by decide +kernel)) (fun _ h9 => h9) rfl dX4_clear_9 ?_
  have hh3 := c_Jx_clear l dC dI cO qr mc qe ru cap ef H.size (by omega)
  have hPc := hP.sub (ws' := [(qr, .inr (0, [.int (zi mc), .ref qe, .int (zi ru)])), (qe, aR cO cap ef)]) [1, 2] rfl
  have hKc : va_K (dC, dI) vwCl [(cO, .object "java/lang/Object")] s := hK.sub (tys' := [(cO, .object "java/lang/Object")]) [1] rfl
  have hDc := hD.sub (ws' := [(qr, .inr (0, [.int (zi mc), .ref qe, .int (zi ru)])), (qe, aR cO cap ef)]) [1, 2] (by decide) rfl
  have hFc := va_free (wc := [(qr, .inr (0, [.int (zi mc), .ref qe, .int (zi ru)])), (qe, aR cO cap ef)]) hD hS hA [1, 2] rfl
  refine va_callv (va_runV (As := []) (rest := []) ⟨hx, hb, hml, hown, hts⟩ hh3 (cwV 0 hts gX4_clear_Jx4a65c_clear_da8c8 rfl rfl rfl (by decide +kernel) ⟨Nat.le_of_ble_eq_true rfl, Nat.le_of_ble_eq_true rfl⟩) ⟨zPw.blind _ _ _ _ _, va_recv hKc hPc (ci := 0) (q0 := 0) rfl rfl, fun U hU hW => ⟨rfl, by rw [hU], by rw [hU]; exact hPc, va_K.moved hW.alike hKc, hDc.weaken (fun _ _ _ _ => trivial)⟩⟩ rfl rfl hl.1 rfl (lv_room (Nat.le_of_ble_eq_true rfl)) dX4_clear_12 ⟨Nat.le_of_ble_eq_true rfl, Nat.le_of_ble_eq_true rfl⟩) hS (fun q _ h => hFc q h) hFc (fun u t H1 locs ht hvm hw hB hz1 hk1 hS => ?_)
  generalize u = eg_4 at hw hB
  have hw3 := hw
  replace hw3 : True := hw3
  obtain ⟨hP1, hK1, hD1⟩ := hB
  rw [ht] at hP1
  replace hP1 : va_P (dC, dI) vwCl [(qr, .inr (0, [.int (zi (mc + 1)), .ref qe, .int (zi 0)])), (qe, aR cO cap eg_4)] H1 := hP1
  replace hD1 : va_D _ [(qr, .inr (0, [.int (zi (mc + 1)), .ref qe, .int (zi 0)])), (qe, aR cO cap eg_4)] := hD1
  obtain ⟨hP, hD⟩ := va_join (wr := [(h0, .inr (4, [.ref qs, .ref qr, .ref qm, .ref qw, .ref qt, .int (zi we)])), (qw, .inr (1, [.ref wc, .int (zi wl)])), (wc, aI cI 20 wf), (qt, .inr (1, [.ref tc, .int (zi tl)])), (tc, aI cI 20 tf), (qs, aI cI 10 fg_2)]) (w1 := [(qr, .inr (0, [.int (zi (mc + 1)), .ref qe, .int (zi 0)])), (qe, aR cO cap eg_4)]) hP hD [1, 2] [0, 3, 4, 5, 6, 7] rfl rfl (by decide) (by decide) hk1 hFc hP1 hD1
  generalize H1 = H at hP hS ⊢
  have hP : va_P (dC, dI) vwCl [(h0, .inr (4, [.ref qs, .ref qr, .ref qm, .ref qw, .ref qt, .int (zi we)])), (qw, .inr (1, [.ref wc, .int (zi wl)])), (wc, aI cI 20 wf), (qt, .inr (1, [.ref tc, .int (zi tl)])), (tc, aI cI 20 tf), (qs, aI cI 10 fg_2), (qr, .inr (0, [.int (zi (mc + 1)), .ref qe, .int (zi 0)])), (qe, aR cO cap eg_4)] H := hP
  have hD : va_D A [(h0, .inr (4, [.ref qs, .ref qr, .ref qm, .ref qw, .ref qt, .int (zi we)])), (qw, .inr (1, [.ref wc, .int (zi wl)])), (wc, aI cI 20 wf), (qt, .inr (1, [.ref tc, .int (zi tl)])), (tc, aI cI 20 tf), (qs, aI cI 10 fg_2), (qr, .inr (0, [.int (zi (mc + 1)), .ref qe, .int (zi 0)])), (qe, aR cO cap eg_4)] := hD
  refine lv_aload_n hx hb dX4_clear_15 rfl (lv_at hl 0 rfl) ?_
  refine va_get (D := (dC, dI)) (ci := 4) (v := .ref qw) (C := RX4) (T := TX4) (N := 6) hx hb hts (by decide +kernel) hown hK hP 0 rfl rfl 3 (by decide) (hts (.fieldLink RX4 30 "CivilDays" "written" "LCivilDays$Line;") (by decide +kernel)) (fun _ h9 => h9) rfl dX4_clear_16 ?_
  have hh5 := c_X1_empty l dC dI cI qw wc wl wf H.size 
  have hPc := hP.sub (ws' := [(qw, .inr (1, [.ref wc, .int (zi wl)])), (wc, aI cI 20 wf)]) [1, 2] rfl
  have hKc : va_K (dC, dI) vwCl [(cI, .int)] s := hK.sub (tys' := [(cI, .int)]) [0] rfl
  have hDc := hD.sub (ws' := [(qw, .inr (1, [.ref wc, .int (zi wl)])), (wc, aI cI 20 wf)]) [1, 2] (by decide) rfl
  have hFc := va_free (wc := [(qw, .inr (1, [.ref wc, .int (zi wl)])), (wc, aI cI 20 wf)]) hD hS hA [1, 2] rfl
  refine va_callv (va_runV (As := []) (rest := []) ⟨hx, hb, hml, hown, hts⟩ hh5 (cwV 0 hts gX4_clear_X1_empty rfl rfl rfl (by decide +kernel) ⟨Nat.le_of_ble_eq_true rfl, Nat.le_of_ble_eq_true rfl⟩) ⟨zPw.blind _ _ _ _ _, va_recv hKc hPc (ci := 1) (q0 := 0) rfl rfl, fun U hU hW => ⟨rfl, by rw [hU], by rw [hU]; exact hPc, va_K.moved hW.alike hKc, hDc.weaken (fun _ _ _ _ => trivial)⟩⟩ rfl rfl hl.1 rfl (lv_room (Nat.le_of_ble_eq_true rfl)) dX4_clear_19 ⟨Nat.le_of_ble_eq_true rfl, Nat.le_of_ble_eq_true rfl⟩) hS (fun q _ h => hFc q h) hFc (fun u t H1 locs ht hvm hw hB hz1 hk1 hS => ?_)
  obtain ⟨hP1, hK1, hD1⟩ := hB
  rw [ht] at hP1
  obtain ⟨hP, hD⟩ := va_join (wr := [(h0, .inr (4, [.ref qs, .ref qr, .ref qm, .ref qw, .ref qt, .int (zi we)])), (qt, .inr (1, [.ref tc, .int (zi tl)])), (tc, aI cI 20 tf), (qs, aI cI 10 fg_2), (qr, .inr (0, [.int (zi (mc + 1)), .ref qe, .int (zi 0)])), (qe, aR cO cap eg_4)]) (w1 := [(qw, .inr (1, [.ref wc, .int (zi 0)])), (wc, aI cI 20 wf)]) hP hD [1, 2] [0, 3, 4, 5, 6, 7] rfl rfl (by decide) (by decide) hk1 hFc hP1 hD1
  generalize H1 = H at hP hS ⊢
  have hP : va_P (dC, dI) vwCl [(h0, .inr (4, [.ref qs, .ref qr, .ref qm, .ref qw, .ref qt, .int (zi we)])), (qt, .inr (1, [.ref tc, .int (zi tl)])), (tc, aI cI 20 tf), (qs, aI cI 10 fg_2), (qr, .inr (0, [.int (zi (mc + 1)), .ref qe, .int (zi 0)])), (qe, aR cO cap eg_4), (qw, .inr (1, [.ref wc, .int (zi 0)])), (wc, aI cI 20 wf)] H := hP
  have hD : va_D A [(h0, .inr (4, [.ref qs, .ref qr, .ref qm, .ref qw, .ref qt, .int (zi we)])), (qt, .inr (1, [.ref tc, .int (zi tl)])), (tc, aI cI 20 tf), (qs, aI cI 10 fg_2), (qr, .inr (0, [.int (zi (mc + 1)), .ref qe, .int (zi 0)])), (qe, aR cO cap eg_4), (qw, .inr (1, [.ref wc, .int (zi 0)])), (wc, aI cI 20 wf)] := hD
  refine lv_aload_n hx hb dX4_clear_22 rfl (lv_at hl 0 rfl) ?_
  refine va_get (D := (dC, dI)) (ci := 4) (v := .ref qt) (C := RX4) (T := TX4) (N := 6) hx hb hts (by decide +kernel) hown hK hP 0 rfl rfl 4 (by decide) (hts (.fieldLink RX4 34 "CivilDays" "typed" "LCivilDays$Line;") (by decide +kernel)) (fun _ h9 => h9) rfl dX4_clear_23 ?_
  have hh6 := c_X1_empty l dC dI cI qt tc tl tf H.size 
  have hPc := hP.sub (ws' := [(qt, .inr (1, [.ref tc, .int (zi tl)])), (tc, aI cI 20 tf)]) [1, 2] rfl
  have hKc : va_K (dC, dI) vwCl [(cI, .int)] s := hK.sub (tys' := [(cI, .int)]) [0] rfl
  have hDc := hD.sub (ws' := [(qt, .inr (1, [.ref tc, .int (zi tl)])), (tc, aI cI 20 tf)]) [1, 2] (by decide) rfl
  have hFc := va_free (wc := [(qt, .inr (1, [.ref tc, .int (zi tl)])), (tc, aI cI 20 tf)]) hD hS hA [1, 2] rfl
  refine va_callv (va_runV (As := []) (rest := []) ⟨hx, hb, hml, hown, hts⟩ hh6 (cwV 0 hts gX4_clear_X1_empty rfl rfl rfl (by decide +kernel) ⟨Nat.le_of_ble_eq_true rfl, Nat.le_of_ble_eq_true rfl⟩) ⟨zPw.blind _ _ _ _ _, va_recv hKc hPc (ci := 1) (q0 := 0) rfl rfl, fun U hU hW => ⟨rfl, by rw [hU], by rw [hU]; exact hPc, va_K.moved hW.alike hKc, hDc.weaken (fun _ _ _ _ => trivial)⟩⟩ rfl rfl hl.1 rfl (lv_room (Nat.le_of_ble_eq_true rfl)) dX4_clear_26 ⟨Nat.le_of_ble_eq_true rfl, Nat.le_of_ble_eq_true rfl⟩) hS (fun q _ h => hFc q h) hFc (fun u t H1 locs ht hvm hw hB hz1 hk1 hS => ?_)
  obtain ⟨hP1, hK1, hD1⟩ := hB
  rw [ht] at hP1
  obtain ⟨hP, hD⟩ := va_join (wr := [(h0, .inr (4, [.ref qs, .ref qr, .ref qm, .ref qw, .ref qt, .int (zi we)])), (qs, aI cI 10 fg_2), (qr, .inr (0, [.int (zi (mc + 1)), .ref qe, .int (zi 0)])), (qe, aR cO cap eg_4), (qw, .inr (1, [.ref wc, .int (zi 0)])), (wc, aI cI 20 wf)]) (w1 := [(qt, .inr (1, [.ref tc, .int (zi 0)])), (tc, aI cI 20 tf)]) hP hD [1, 2] [0, 3, 4, 5, 6, 7] rfl rfl (by decide) (by decide) hk1 hFc hP1 hD1
  generalize H1 = H at hP hS ⊢
  have hP : va_P (dC, dI) vwCl [(h0, .inr (4, [.ref qs, .ref qr, .ref qm, .ref qw, .ref qt, .int (zi we)])), (qs, aI cI 10 fg_2), (qr, .inr (0, [.int (zi (mc + 1)), .ref qe, .int (zi 0)])), (qe, aR cO cap eg_4), (qw, .inr (1, [.ref wc, .int (zi 0)])), (wc, aI cI 20 wf), (qt, .inr (1, [.ref tc, .int (zi 0)])), (tc, aI cI 20 tf)] H := hP
  have hD : va_D A [(h0, .inr (4, [.ref qs, .ref qr, .ref qm, .ref qw, .ref qt, .int (zi we)])), (qs, aI cI 10 fg_2), (qr, .inr (0, [.int (zi (mc + 1)), .ref qe, .int (zi 0)])), (qe, aR cO cap eg_4), (qw, .inr (1, [.ref wc, .int (zi 0)])), (wc, aI cI 20 wf), (qt, .inr (1, [.ref tc, .int (zi 0)])), (tc, aI cI 20 tf)] := hD
  refine lv_aload_n hx hb dX4_clear_29 rfl (lv_at hl 0 rfl) ?_
  refine zw_bipush hx hb dX4_clear_30 (by decide) ?_
  refine va_put (D := (dC, dI)) (ci := 4) (v := .int (zi 96)) (ty := .int) (C := RX4) (T := TX4) (N := 6) hx hb hts (by decide +kernel) tyX4 tyX4_ok nmX4 hown hK hP hD hS 0 rfl rfl 5 (by decide) (hts (.fieldLink RX4 154 "CivilDays" "weekendSet" "I") (by decide +kernel)) (fun _ h9 => h9) rfl (by decide +kernel) rfl rfl (Nat.le_of_ble_eq_true rfl) dX4_clear_32 (fun H locs hP hD hS => ?_)
  have hP : va_P (dC, dI) vwCl [(h0, .inr (4, [.ref qs, .ref qr, .ref qm, .ref qw, .ref qt, .int (zi 96)])), (qs, aI cI 10 fg_2), (qr, .inr (0, [.int (zi (mc + 1)), .ref qe, .int (zi 0)])), (qe, aR cO cap eg_4), (qw, .inr (1, [.ref wc, .int (zi 0)])), (wc, aI cI 20 wf), (qt, .inr (1, [.ref tc, .int (zi 0)])), (tc, aI cI 20 tf)] H := hP
  have hD : va_D A [(h0, .inr (4, [.ref qs, .ref qr, .ref qm, .ref qw, .ref qt, .int (zi 96)])), (qs, aI cI 10 fg_2), (qr, .inr (0, [.int (zi (mc + 1)), .ref qe, .int (zi 0)])), (qe, aR cO cap eg_4), (qw, .inr (1, [.ref wc, .int (zi 0)])), (wc, aI cI 20 wf), (qt, .inr (1, [.ref tc, .int (zi 0)])), (tc, aI cI 20 tf)] := hD
  have hP9 := hP.sub (ws' := [(h0, .inr (4, [.ref qs, .ref qr, .ref qm, .ref qw, .ref qt, .int (zi 96)])), (qs, aI cI 10 fg_2), (qr, .inr (0, [.int (zi (mc + 1)), .ref qe, .int (zi 0)])), (qe, aR cO cap eg_4), (qw, .inr (1, [.ref wc, .int (zi 0)])), (wc, aI cI 20 wf), (qt, .inr (1, [.ref tc, .int (zi 0)])), (tc, aI cI 20 tf)]) [0, 1, 2, 3, 4, 5, 6, 7] rfl
  have hD9 := hD.sub (ws' := [(h0, .inr (4, [.ref qs, .ref qr, .ref qm, .ref qw, .ref qt, .int (zi 96)])), (qs, aI cI 10 fg_2), (qr, .inr (0, [.int (zi (mc + 1)), .ref qe, .int (zi 0)])), (qe, aR cO cap eg_4), (qw, .inr (1, [.ref wc, .int (zi 0)])), (wc, aI cI 20 wf), (qt, .inr (1, [.ref tc, .int (zi 0)])), (tc, aI cI 20 tf)]) [0, 1, 2, 3, 4, 5, 6, 7] (by decide) rfl
  have hp9 : ∀ j : Nat, fg_2 j = if j < 10 then (-1) else sf j := by
    assumption
  exact W.vret hx hb hr (fun t ht hW => ⟨⟨(fg_2, eg_4), rfl, hp9, by rw [ht]; exact hP9, va_K.moved hW.alike hK, hD9⟩, hS.F ht⟩) hS.2.2 dX4_clear_35
