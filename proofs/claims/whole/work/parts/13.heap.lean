/-! WORLDS IN WHOLE NUMBERS: rows of arrays, contracts' starts and ends -/
def zup (sf : Nat → Int) (k : Nat) (v : Int) : Nat → Int := fun j => if j = k then v else sf j
theorem zup_zi (sf : Nat → Int) (k : Nat) (v : Int) : upd (fun j => zi (sf j)) k (zi v) = fun j => zi (zup sf k v j) := by
  funext j
  unfold upd zup
  by_cases h : j = k
  · rw [if_pos h, if_pos h]
  · rw [if_neg h, if_neg h]
theorem zup_zl (sf : Nat → Int) (k : Nat) (v : Int) : vp_updL (fun j => zl (sf j)) k (zl v) = fun j => zl (zup sf k v j) := by
  funext j
  unfold vp_updL zup
  by_cases h : j = k
  · rw [if_pos h, if_pos h]
  · rw [if_neg h, if_neg h]
section ZH
variable {p : Program} {l : Launch} {e : Env} {R : Room} {s : State} {m : MethodId} {args : Array Value} {below : List Frame} {meth : Method} {c : Code} {H H0 : Heap} {locs : List Loc} {cells slots : Nat} {Q : State → Prop} {cc : ByteArray} {pc : Nat} {ls : Array Slot} {rest : List Value} {D : va_G} {cl : List vw_C} {tys : List (ClassId × FieldType)} {ws : va_W} {A : Nat → Prop} {a : Nat}
theorem zw_iald (hx : p.tables.exec = Jvm.exec) (hb : c.code = cc) (hK : va_K D cl tys s) (hP : va_P D cl ws H) (q0 t0 : Nat) {cA : ClassId} {n : Nat} {sf : Nat → Int} (ha : ws[q0]? = some (a, .inl (cA, n, .inl (fun j => zi (sf j))))) (ht : tys[t0]? = some (cA, .int)) {i : Int} (h0 : 0 ≤ i) (h1 : i < n) (hi : zI i) (hd : decode cc pc = .ok (.iaload, 1))
    (k : W p l e R s m args below meth c H locs cells slots Q (F0 m (pc + 1) ls (.int (zi (sf i.toNat)) :: rest))) : W p l e R s m args below meth c H locs cells slots Q (F0 m pc ls (.int (zi i) :: .ref a :: rest)) := by
  refine va_iald hx hb hK hP q0 t0 ha ht (zi_in h0 h1 hi) hd ?_
  show W p l e R s m args below meth c H locs cells slots Q (F0 m (pc + 1) ls (.int (zi (sf (zi i).toNatClampNeg)) :: rest))
  rw [zi_clamp h0 hi]
  exact k
theorem zw_iast (hx : p.tables.exec = Jvm.exec) (hb : c.code = cc) (hK : va_K D cl tys s) (hP : va_P D cl ws H) (hD : va_D A ws) (hS : va_S A H0 H locs) (q0 t0 : Nat) {cA : ClassId} {n : Nat} {sf : Nat → Int} (ha : ws[q0]? = some (a, .inl (cA, n, .inl (fun j => zi (sf j))))) (ht : tys[t0]? = some (cA, .int)) {i v : Int} (h0 : 0 ≤ i) (h1 : i < n) (hi : zI i) (hd : decode cc pc = .ok (.iastore, 1))
    (k : ∀ (H1 : Heap) (locs1 : List Loc), va_P D cl (ws.set q0 (a, .inl (cA, n, .inl (fun j => zi (zup sf i.toNat v j))))) H1 → va_D A (ws.set q0 (a, .inl (cA, n, .inl (fun j => zi (zup sf i.toNat v j))))) → va_S A H0 H1 locs1 → W p l e R s m args below meth c H1 locs1 cells slots Q (F0 m (pc + 1) ls rest)) : W p l e R s m args below meth c H locs cells slots Q (F0 m pc ls (.int (zi v) :: .int (zi i) :: .ref a :: rest)) := by
  refine va_iast hx hb hK hP hD hS q0 t0 ha ht (zi_in h0 h1 hi) hd ?_
  rw [zi_clamp h0 hi, zup_zi]
  exact k
theorem zw_last (hx : p.tables.exec = Jvm.exec) (hb : c.code = cc) (hK : va_K D cl tys s) (hP : va_P D cl ws H) (hD : va_D A ws) (hS : va_S A H0 H locs) (q0 t0 : Nat) {cA : ClassId} {n : Nat} {sf : Nat → Int} (ha : ws[q0]? = some (a, .inl (cA, n, .inr (.inl (fun j => zl (sf j)))))) (ht : tys[t0]? = some (cA, .long)) {i v : Int} (h0 : 0 ≤ i) (h1 : i < n) (hi : zI i) (hd : decode cc pc = .ok (.lastore, 1))
    (k : ∀ (H1 : Heap) (locs1 : List Loc), va_P D cl (ws.set q0 (a, .inl (cA, n, .inr (.inl (fun j => zl (zup sf i.toNat v j)))))) H1 → va_D A (ws.set q0 (a, .inl (cA, n, .inr (.inl (fun j => zl (zup sf i.toNat v j)))))) → va_S A H0 H1 locs1 → W p l e R s m args below meth c H1 locs1 cells slots Q (F0 m (pc + 1) ls rest)) : W p l e R s m args below meth c H locs cells slots Q (F0 m pc ls (.long (zl v) :: .int (zi i) :: .ref a :: rest)) := by
  refine va_last hx hb hK hP hD hS q0 t0 ha ht (zi_in h0 h1 hi) hd ?_
  rw [zi_clamp h0 hi, zup_zl]
  exact k
theorem zw_lald (hx : p.tables.exec = Jvm.exec) (hb : c.code = cc) (hK : va_K D cl tys s) (hP : va_P D cl ws H) (q0 t0 : Nat) {cA : ClassId} {n : Nat} {sf : Nat → Int} (ha : ws[q0]? = some (a, .inl (cA, n, .inr (.inl (fun j => zl (sf j)))))) (ht : tys[t0]? = some (cA, .long)) {i : Int} (h0 : 0 ≤ i) (h1 : i < n) (hi : zI i) (hd : decode cc pc = .ok (.laload, 1))
    (k : W p l e R s m args below meth c H locs cells slots Q (F0 m (pc + 1) ls (.long (zl (sf i.toNat)) :: rest))) : W p l e R s m args below meth c H locs cells slots Q (F0 m pc ls (.int (zi i) :: .ref a :: rest)) := by
  refine va_lald hx hb hK hP q0 t0 ha ht (zi_in h0 h1 hi) hd ?_
  show W p l e R s m args below meth c H locs cells slots Q (F0 m (pc + 1) ls (.long (zl (sf (zi i).toNatClampNeg)) :: rest))
  rw [zi_clamp h0 hi]
  exact k
/-- behind a catch: the world is what it was -/
theorem zk_world {H1 : Heap} (hP : va_P D cl ws H) (hk : ∀ z : Nat, z < H.size → H1[z]? = H[z]?) : va_P D cl ws H1 := hP.kept (fun k q hq => hk q.1 ((hP k q hq).lt))
theorem zk_S {H1 : Heap} (hz : H0.size ≤ H1.size) (hk : ∀ z : Nat, z < H0.size → H1[z]? = H0[z]?) : va_S A H0 H1 [] := ⟨hz, fun q h _ => hk q h, fun _ h => by cases h⟩
end ZH
/-- starts: a method that only reads; one that writes; one that throws -/
abbrev zPr (D : va_G) (tys : List (ClassId × FieldType)) (av : List Value) (ws : va_W) : Array Value → State → Prop := va_Pc av (fun U => va_P D vwCl ws U.heap ∧ va_K D vwCl tys U)
abbrev zPw (D : va_G) (tys : List (ClassId × FieldType)) (sz : Nat) (av : List Value) (ws : va_W) : Array Value → State → Prop := va_Pc av (fun U => U.heap.size = sz ∧ va_P D vwCl ws U.heap ∧ va_K D vwCl tys U ∧ va_D (fun _ => True) ws)
abbrev zPt (D : va_G) (tys : List (ClassId × FieldType)) (av : List Value) (ws : va_W) : Array Value → State → Prop := va_Pc av (fun U => zE (fun q => U.heap.size ≤ q) U U.heap ∧ va_P D vwCl ws U.heap ∧ va_K D vwCl tys U)
abbrev zB (D : va_G) (tys : List (ClassId × FieldType)) (A : Nat → Prop) (ws : va_W) : Unit → State → Prop := fun _ t => va_P D vwCl ws t.heap ∧ va_K D vwCl tys t ∧ va_D A ws
theorem zPr.blind (D : va_G) (tys : List (ClassId × FieldType)) (av : List Value) (ws : va_W) : FrameBlind (zPr D tys av ws) := fun a U g mk q => ⟨q.1, q.2.1, va_K.moved (u := U) (U := U.calling g mk a) (Vm.Alike.refl U.vm) q.2.2⟩
theorem zPw.blind (D : va_G) (tys : List (ClassId × FieldType)) (sz : Nat) (av : List Value) (ws : va_W) : FrameBlind (zPw D tys sz av ws) := fun a U g mk q => ⟨q.1, q.2.1, q.2.2.1, va_K.moved (u := U) (U := U.calling g mk a) (Vm.Alike.refl U.vm) q.2.2.2.1, q.2.2.2.2⟩
theorem zPt.blind (D : va_G) (tys : List (ClassId × FieldType)) (av : List Value) (ws : va_W) : FrameBlind (zPt D tys av ws) := fun a U g mk q => ⟨q.1, q.2.1.blind, q.2.2.1, va_K.moved (u := U) (U := U.calling g mk a) (Vm.Alike.refl U.vm) q.2.2.2⟩
/-- the objects of the class, by their fields -/
abbrev oX4 (qs qr qm qw qt : Nat) (we : Int) : va_E := .inr (4, [.ref qs, .ref qr, .ref qm, .ref qw, .ref qt, .int (zi we)])
abbrev aI (cI : ClassId) (n : Nat) (sf : Nat → Int) : va_E := .inl (cI, n, .inl (fun j => zi (sf j)))
abbrev aL (cL : ClassId) (n : Nat) (sf : Nat → Int) : va_E := .inl (cL, n, .inr (.inl (fun j => zl (sf j))))
abbrev zPx (D : va_G) (tys : List (ClassId × FieldType)) (sz : Nat) (av : List Value) (ws : va_W) : Array Value → State → Prop := va_Pc av (fun U => U.heap.size = sz ∧ zE (fun q => U.heap.size ≤ q) U U.heap ∧ va_P D vwCl ws U.heap ∧ va_K D vwCl tys U ∧ va_D (fun _ => True) ws)
theorem zPx.blind (D : va_G) (tys : List (ClassId × FieldType)) (sz : Nat) (av : List Value) (ws : va_W) : FrameBlind (zPx D tys sz av ws) := fun a U g mk q => ⟨q.1, q.2.1, q.2.2.1.blind, q.2.2.2.1, va_K.moved (u := U) (U := U.calling g mk a) (Vm.Alike.refl U.vm) q.2.2.2.2.1, q.2.2.2.2.2⟩
