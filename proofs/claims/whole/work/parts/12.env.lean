/-! WHAT A THROW NEEDS OF THE START, CARRIED FROM CALL TO CALL: the two statics of Throwable, the words that the lists of words can't carry, the texts -/
abbrev zNN : List String := ["java/lang/RuntimeException", "java/lang/Exception"]
def zW : List Cond := [.declares (Bundle.initS "java/lang/RuntimeException"), .declares (Bundle.initS "java/lang/Exception"), .declares (Bundle.initS Bundle.tN), .castable "java/lang/IndexOutOfBoundsException" "java/lang/IndexOutOfBoundsException", .castable "java/lang/IllegalArgumentException" "java/lang/IllegalArgumentException", .castable "java/lang/IllegalStateException" "java/lang/IllegalStateException", .castable "java/lang/UnsupportedOperationException" "java/lang/UnsupportedOperationException"]
def zS : List (Nat × String) := [(237, "there is no such date"), (230, "there is no such unit"), (152, "this is no weekend"), (228, "there is no such slot"), (130, "there is no such rule"), (205, "this is no character that can be typed"), (234, "the slot has no date"), (185, "there is no such text"), (90, "nothing of a date is told by this number"), (200, "there is no such character"), (183, "this is too far to move by working days"), (83, "the date is beyond the years"), (211, "as much is typed as may be"), (136, "there are as many rules as there may be"), (169, "the dates are too far from each other")]
def zC : List (String × String) := [("java/lang/IllegalArgumentException", "java/lang/IndexOutOfBoundsException"), ("java/lang/IllegalStateException", "java/lang/IndexOutOfBoundsException"), ("java/lang/UnsupportedOperationException", "java/lang/IndexOutOfBoundsException"), ("java/lang/IllegalStateException", "java/lang/IllegalArgumentException"), ("java/lang/UnsupportedOperationException", "java/lang/IllegalArgumentException"), ("java/lang/UnsupportedOperationException", "java/lang/IllegalStateException"), ("java/lang/IllegalArgumentException", "java/lang/IllegalStateException")]
def zE (A : Nat → Prop) (U : State) (H : Heap) : Prop :=
  vx_Zq Bundle.tN "UNASSIGNED_STACK" Bundle.steD A U H ∧ vx_Zq Bundle.tN "SUPPRESSED_SENTINEL" Bundle.listD A U H ∧ (∀ w ∈ zW, w.before #[] U = true) ∧ (∀ q ∈ zS, ∃ sa : Nat, vk_R RX4 q.1 q.2 sa U) ∧ ∀ q ∈ zC, va_Nc q.1 q.2 U
theorem zW_ot : ∀ w ∈ zW, w.onTables = true := by decide +kernel
theorem zW_moved {w : Cond} (hw : w ∈ zW) {u U : State} (hvm : u.vm.Alike U.vm) (h : w.before #[] u = true) : w.before #[] U = true := by
  have tr : ∀ {c : Cond}, c.onTables = true → c.before #[] (u.setVm U.vm) = true → c.before #[] U = true := by
    intro c hc h
    have e := Cond.onTables_vm (A := #[]) (A' := #[]) (U := u) (U' := U) U.vm c hc
    have hU : U.setVm U.vm = U := rfl
    rw [hU] at e
    rw [← e]
    exact h
  refine tr (zW_ot w hw) ?_
  simp only [zW, List.mem_cons, List.not_mem_nil, or_false] at hw
  rcases hw with rfl | rfl | rfl | rfl | rfl | rfl | rfl
  · rw [Cond.declares_setVm hvm]; exact h
  · rw [Cond.declares_setVm hvm]; exact h
  · rw [Cond.declares_setVm hvm]; exact h
  · rw [Cond.castable_setVm hvm]; exact h
  · rw [Cond.castable_setVm hvm]; exact h
  · rw [Cond.castable_setVm hvm]; exact h
  · rw [Cond.castable_setVm hvm]; exact h
theorem zE.call {A B : Nat → Prop} {s U : State} {H : Heap} {locs : List Loc} (h : zE A s s.heap) (hS : va_S A s.heap H locs) (hAB : ∀ q, B q → A q) (hU : U.heap = H) (hW : s.WarmedH U.vm) : zE B U U.heap := by
  obtain ⟨h1, h2, h3, h4, h5⟩ := h
  subst hU
  exact ⟨((h1.kept hS.2.1).narrow hAB).moved hW.alike, ((h2.kept hS.2.1).narrow hAB).moved hW.alike, fun w hw => zW_moved hw hW.alike (h3 w hw), fun q hq => (h4 q hq).elim fun sa hs => ⟨sa, hs.warm hW⟩, fun q hq => (h5 q hq).moved hW.alike⟩
theorem zE.blind {A : Nat → Prop} {U : State} {g : JFrame} {mk : MethodId} {a : Array Value} (h : zE A U U.heap) : zE A (U.calling g mk a) (U.calling g mk a).heap := by
  obtain ⟨h1, h2, h3, h4, h5⟩ := h
  exact ⟨h1.moved (Vm.Alike.refl U.vm), h2.moved (Vm.Alike.refl U.vm), fun w hw => zW_moved hw (Vm.Alike.refl U.vm) (h3 w hw), fun q hq => (h4 q hq).elim fun sa hs => ⟨sa, hs.same rfl⟩, fun q hq => (h5 q hq).moved (Vm.Alike.refl U.vm)⟩
/-- what a method leaves that throws, and has changed nothing: E is thrown, every cell that was there is as it was -/
def zX (E0 : String) : String → State → State → Prop := fun E st t => E = E0 ∧ st.heap.size ≤ t.heap.size ∧ ∀ q : Nat, q < st.heap.size → t.heap[q]? = st.heap[q]?
abbrev zNo : Array Value → State → Outcome → State → Prop := fun _ _ _ _ => False
abbrev zN : Nat → Prop := fun _ => False
/-- a contract's start where it may throw -/
abbrev zP (av : List Value) : Array Value → State → Prop := va_Pc av (fun U => zE (fun q => U.heap.size ≤ q) U U.heap)
theorem zP.blind (av : List Value) : FrameBlind (zP av) := fun _ _ _ _ q => ⟨q.1, q.2.blind⟩
section ZT
variable {p : Program} {l : Launch} {e : Env} {R : Room} {s : State} {m : MethodId} {args : Array Value} {below : List Frame} {meth : Method} {c : Code} {cc : ByteArray} {pc : Nat} {ls : Array Slot} {rest : List Value} {Qc : Array Value → State → Outcome → State → Prop}
theorem zt_throw {cls text : String} {ik is ic : Nat} (hx : p.tables.exec = Jvm.exec) (hb : c.code = cc) (hst : l.stackTraces = false) (hown : s.vm.findClass RX4 = some m.cls) (hE : zE (fun q => s.heap.size ≤ q) s s.heap)
    (hcls : Bundle.fit cls = true) (hk : (Cond.classLink RX4 ik cls).before args s = true) (hini : (Cond.initialized cls).before args s = true) (hs : (is, text) ∈ zS)
    (hat1 : ∀ w ∈ (vx_atS RX4 ic cls zNN).filter goodWord, w.before args s = true) (hat2 : ∀ w ∈ (vx_atS RX4 ic cls zNN).filter (fun w => !goodWord w), w ∈ zW)
    (hgood : ∀ w ∈ Cond.classLink RX4 ik cls :: Cond.initialized cls :: vx_atS RX4 ic cls zNN, vx_ot w = true) (hsize : ls.size = c.maxLocals)
    (d0 : decode cc pc = .ok (.new ik, 3)) (d3 : decode cc (pc + 3) = .ok (.dup, 1)) (d4 : decode cc (pc + 4) = .ok (.ldc is, 2)) (d6 : decode cc (pc + 6) = .ok (.invokespecial ic, 3)) (d9 : decode cc (pc + 9) = .ok (.athrow, 1))
    (hno : ∀ x ∈ c.exceptionTable.toList, False) (hRf : 5 < R.frames) (hRl : (rest.map fun v => v.category).sum + 82 ≤ R.locals) (hRc : 1 ≤ R.cells) (hRs : 6 ≤ R.slots) (hlocks : meth.locks = false) :
    W p l e R s m args below meth c s.heap [] 0 0 (vx_MQ below Qc (zX cls) args s 1 6 zN) (F0 m pc ls rest) := by
  obtain ⟨h1, h2, h3, h4, -⟩ := hE
  obtain ⟨sa, hsa⟩ := h4 _ hs
  exact vx_throwS (A := fun q => s.heap.size ≤ q) (names := zNN) hx hb hst hown hcls (by decide +kernel) hk hini hsa
    (vx_hat hat1 hat2 (fun w hw => va_any (zW_ot w hw) (h3 w hw))) hgood h1 h2 va_S.rf hsize d0 d3 d4 d6 d9 (fun x h => (hno x h).elim) hRf hRl (by omega) (by omega) hlocks
    (fun t ha hz hk => ⟨rfl, hz, hk⟩) (fun z h => by cases h) (by omega) (by omega)
/-- a call that throws, nothing changed before it, nothing here catches it: so does the caller -/
theorem zt_pass {E0 : String} {st0 : List Value} (hr : vx_Run p l e R s m args below meth c s.heap [] 0 0 1 6 (F0 m pc ls st0) rest (fun _ _ _ => False) (zX E0) zN)
    (hno : ∀ x ∈ c.exceptionTable.toList, False) (hlocks : meth.locks = false) : W p l e R s m args below meth c s.heap [] 0 0 (vx_MQ below Qc (zX E0) args s 1 6 zN) (F0 m pc ls st0) := by
  intro T hT X
  rcases hr T hT X with ⟨v, st₀, t, T', L, h0, X', hL, e1, e2, hq, st⟩ | ⟨q, st₀, t, T', L, E, ce, h0, X', hL, e1, e2, ⟨hE, hz, hk⟩, hce, hcv, hcl, st⟩
  · exact hq.elim
  · subst hE
    obtain ⟨t2, a1, b1⟩ := vx_out (Qc := Qc) (XC := zX E) (free := zN) (mc := 1) (ms := 6) (pc := pc) (ls := ls) (rest := rest) (H := T'.heap) (locs := [] ++ L) (cells := 0 + 1) (slots := 0 + 6) (fun x h => (hno x h).elim) hlocks (by rw [e1]; exact hce) hcv hcl
      (fun u hu _ => ⟨rfl, by rw [hu, e1, ← h0]; exact hz, fun z hz9 => by rw [hu, e1, ← h0]; exact hk z (by rw [h0]; exact hz9)⟩) (fun z h => hL z (by simpa using h)) (by omega) (by omega) T' rfl X'
    exact ⟨t2, st.trans a1, b1⟩
end ZT
