/-! THE LAW'S START: what the Statement gives, in the form that the walks want -/
theorem ls_int {args : Array Value} {s : State} (h : (Cond.arrayClass .int).before args s = true) : ∃ cA : ClassId, ArrOfT s cA .int ∧ va_RA s cA .int := by
  obtain ⟨c, k, comp, h1, h2, h3⟩ := Cond.arrayClass_spec h
  exact ⟨c, fun n z => ⟨fun q hq => (by cases hq), k, h2, comp, h3⟩, h1⟩
theorem ls_long {args : Array Value} {s : State} (h : (Cond.arrayClass .long).before args s = true) : ∃ cA : ClassId, ArrOfT s cA .long ∧ va_RA s cA .long := by
  obtain ⟨c, k, comp, h1, h2, h3⟩ := Cond.arrayClass_spec h
  exact ⟨c, fun n z => ⟨fun q hq => (by cases hq), k, h2, comp, h3⟩, h1⟩
theorem ls_obj {args : Array Value} {s : State} (h : (Cond.arrayOver (.object "java/lang/Object")).before args s = true) : ∃ cA : ClassId, ArrOfT s cA (.object "java/lang/Object") ∧ va_RA s cA (.object "java/lang/Object") := by
  obtain ⟨comp, c, k, g1, -, g3, g4, g5⟩ := Cond.arrayOver_spec h
  exact ⟨c, fun n z => ⟨fun q hq => (by cases hq), k, g3, comp, g4⟩, k, comp, g3, g4, g1, g5⟩
theorem ls_tx {args : Array Value} {s : State} {A : Nat → Prop} {k len : Nat} {tx : String} {bf : Nat → Int} {qy : Option Nat} (hA : ∀ a : Nat, a < s.heap.size → ¬ A a) (href : (Cond.stringRef RX4 k tx).before args s = true) (hex : (Cond.exactly (.string RX4 k) "java/lang/String").before args s = true) (hco : (Cond.eq (.field (.string RX4 k) "java/lang/String" "coder" "B") (.int 0)).before args s = true)
    (har : (Cond.arrayOf (.field (.string RX4 k) "java/lang/String" "value" "[B") .byte).before args s = true) (hle : (Cond.eq (.length (.field (.string RX4 k) "java/lang/String" "value" "[B")) (.int (Int32.ofNat len))).before args s = true)
    (hel : ∀ j : Nat, j < len → (Cond.eq (.elem (.field (.string RX4 k) "java/lang/String" "value" "[B") (.int (Int32.ofNat j))) (.int (zi (bf j)))).before args s = true) (hN : len < 2 ^ 31)
    (hc : va_Z "java/lang/String" "COMPACT_STRINGS" "Z" (.int (zi 1)) A s s.heap) (hf : va_Z "jdk/internal/util/Preconditions" "SIOOBE_FORMATTER" "Ljava/util/function/BiFunction;" (va_rf qy) A s s.heap) : ∃ a v : Nat, zTx a v len bf qy A s s.heap ∧ vk_R RX4 k tx a s := by
  obtain ⟨a, c, cA, kA, q1, q2, q3, q4, q5, q6, -⟩ := Cond.exactly_spec (args := args) (first := s) (o := none) (s := s) (idx := []) (t := .string RX4 k) (cls := "java/lang/String") hex
  obtain ⟨t, ht, hT⟩ := va_Tof (f := fun j => .int (zi (bf j))) (A := A) hN har (va_eqt hle) (fun j hj => va_eqt (hel j hj)) hA
  have z0 : zi 0 = 0 := by decide
  have hco2 : va_OF "java/lang/String" "coder" "B" (.int (zi 0)) a A s s.heap := by
    rw [z0]
    exact vk_OFof q1 (va_eqt hco) hA
  exact ⟨a, t, ⟨⟨⟨cA, q3, q5, by rw [q6]; exact q2, hA a (Array.getElem?_eq_some_iff.mp q3).1⟩, hco2, vk_OFof q1 ht hA, hT⟩, hc, hf⟩, vk_R.of href q1⟩
theorem ls_w1 : ∀ w ∈ zW, w ∈ lw_tbl := by decide +kernel
theorem ls_w2 : ∀ q ∈ zS, Cond.stringRef RX4 q.1 q.2 ∈ lw_tbl := by decide +kernel
theorem ls_w3 : ∀ q ∈ zS, Cond.exactly (.string RX4 q.1) "java/lang/String" ∈ flatC (Jvm.Cond.and given_1 narrow_1) := by decide +kernel
theorem ls_w4 : ∀ q ∈ zC, Cond.not (.castable q.1 q.2) ∈ flatC (Jvm.Cond.and given_1 narrow_1) := by decide +kernel
theorem ls_zE {args : Array Value} {s : State} {A : Nat → Prop} (hts : ∀ w ∈ lw_tbl, w.before args s = true) (hs : ∀ w ∈ flatC (Jvm.Cond.and given_1 narrow_1), w.before args s = true) (hA : ∀ a : Nat, a < s.heap.size → ¬ A a) : zE A s s.heap := by
  refine ⟨vx_Zqof (hts _ (by decide +kernel)) (hts _ (by decide +kernel)) (hs _ (by decide +kernel)) hA, vx_Zqof (hts _ (by decide +kernel)) (hts _ (by decide +kernel)) (hs _ (by decide +kernel)) hA, fun w hw => va_any (zW_ot w hw) (hts w (ls_w1 w hw)), fun q hq => ?_, fun q hq => va_Nc.of (hs _ (ls_w4 q hq))⟩
  obtain ⟨a, c, cA, kA, q1, -⟩ := Cond.exactly_spec (args := args) (first := s) (o := none) (s := s) (idx := []) (t := .string RX4 q.1) (cls := "java/lang/String") (hs _ (ls_w3 q hq))
  exact ⟨a, vk_R.of (hts _ (ls_w2 q hq)) q1⟩
theorem ls_zO {args : Array Value} {s : State} {A : Nat → Prop} (hts : ∀ w ∈ lw_tbl, w.before args s = true) (hs : ∀ w ∈ flatC (Jvm.Cond.and given_1 narrow_1), w.before args s = true) (hA : ∀ a : Nat, a < s.heap.size → ¬ A a) : ∃ qd mi : Nat, zO2 qd mi A s s.heap := by
  obtain ⟨mi, hmi⟩ := va_Mi.of (hs (Cond.isRef (.mirror "[Ljava/lang/Object;")) (by decide +kernel))
  obtain ⟨qd, hq, hT⟩ := va_Tof (tm := .static "java/util/ArrayList" "DEFAULTCAPACITY_EMPTY_ELEMENTDATA" "[Ljava/lang/Object;") (ty := .object "java/lang/Object") (N := 0) (f := fun _ => .null) (A := A) (by decide) (hs _ (by decide +kernel)) (va_eqt (hs _ (by decide +kernel))) (fun j hj => absurd hj (Nat.not_lt_zero j)) hA
  exact ⟨qd, mi, ⟨va_Zref (hts _ (by decide +kernel)) (hts _ (by decide +kernel)) hq hA, va_AO.of (hts _ (by decide +kernel)), hmi, va_any rfl (hts (Cond.declares ⟨"java/lang/Object", "getClass", "()Ljava/lang/Class;"⟩) (by decide +kernel)), va_Nw.of rfl (hts _ (by decide +kernel)), va_Nw.of rfl (hts _ (by decide +kernel)), va_Nw.of rfl (hts _ (by decide +kernel))⟩, hT⟩
theorem ls_e0 : ∀ j : Nat, j < 10 → Cond.eq (.elem (.field (.string RX4 278) "java/lang/String" "value" "[B") (.int (Int32.ofNat j))) (.int (zi (pat0 j))) ∈ flatC (Jvm.Cond.and given_1 narrow_1) := by decide +kernel
theorem ls_e1 : ∀ j : Nat, j < 10 → Cond.eq (.elem (.field (.string RX4 280) "java/lang/String" "value" "[B") (.int (Int32.ofNat j))) (.int (zi (pat1 j))) ∈ flatC (Jvm.Cond.and given_1 narrow_1) := by decide +kernel
theorem ls_e2 : ∀ j : Nat, j < 8 → Cond.eq (.elem (.field (.string RX4 282) "java/lang/String" "value" "[B") (.int (Int32.ofNat j))) (.int (zi (pat2 j))) ∈ flatC (Jvm.Cond.and given_1 narrow_1) := by decide +kernel
theorem ls_z3 {args : Array Value} {s : State} {A : Nat → Prop} (hts : ∀ w ∈ lw_tbl, w.before args s = true) (hs : ∀ w ∈ flatC (Jvm.Cond.and given_1 narrow_1), w.before args s = true) (hA : ∀ a : Nat, a < s.heap.size → ¬ A a) : ∃ (x0 v0 x1 v1 x2 v2 : Nat) (qy : Option Nat), zP3 x0 v0 x1 v1 x2 v2 qy A s s.heap := by
  have z1 : zi 1 = 1 := by decide
  have hc : va_Z "java/lang/String" "COMPACT_STRINGS" "Z" (.int (zi 1)) A s s.heap := by
    rw [z1]
    exact va_Zof (hts _ (by decide +kernel)) (hts _ (by decide +kernel)) (va_eqi (hs _ (by decide +kernel))) hA
  have hf : ∃ qy : Option Nat, va_Z "jdk/internal/util/Preconditions" "SIOOBE_FORMATTER" "Ljava/util/function/BiFunction;" (va_rf qy) A s s.heap := by
    rcases va_Zqof (C := "jdk/internal/util/Preconditions") (n := "SIOOBE_FORMATTER") (d := "Ljava/util/function/BiFunction;") (A := A) (hts _ (by decide +kernel)) (hts _ (by decide +kernel)) (hs _ (by decide +kernel)) hA with h | ⟨t, h⟩
    · exact ⟨none, h⟩
    · exact ⟨some t, h⟩
  obtain ⟨qy, hf⟩ := hf
  obtain ⟨x0, v0, h0, r0⟩ := ls_tx (k := 278) (tx := "0000-00-00") (len := 10) (bf := pat0) hA (hts _ (by decide +kernel)) (hs _ (by decide +kernel)) (hs _ (by decide +kernel)) (hs _ (by decide +kernel)) (hs _ (by decide +kernel)) (fun j hj => hs _ (ls_e0 j hj)) (by decide) hc hf
  obtain ⟨x1, v1, h1, r1⟩ := ls_tx (k := 280) (tx := "0000-W00-0") (len := 10) (bf := pat1) hA (hts _ (by decide +kernel)) (hs _ (by decide +kernel)) (hs _ (by decide +kernel)) (hs _ (by decide +kernel)) (hs _ (by decide +kernel)) (fun j hj => hs _ (ls_e1 j hj)) (by decide) hc hf
  obtain ⟨x2, v2, h2, r2⟩ := ls_tx (k := 282) (tx := "0000-000") (len := 8) (bf := pat2) hA (hts _ (by decide +kernel)) (hs _ (by decide +kernel)) (hs _ (by decide +kernel)) (hs _ (by decide +kernel)) (hs _ (by decide +kernel)) (fun j hj => hs _ (ls_e2 j hj)) (by decide) hc hf
  exact ⟨x0, v0, x1, v1, x2, v2, qy, ⟨⟨h0, h1⟩, h2⟩, r0, r1, r2⟩
theorem ls_K {args : Array Value} {s : State} (hts : ∀ w ∈ lw_tbl, w.before args s = true) : ∃ (dC : Nat → ClassId) (dI : Nat → Nat → Nat) (cI cL cO : ClassId), va_K (dC, dI) vwCl [(cI, .int), (cL, .long), (cO, .object "java/lang/Object")] s := by
  obtain ⟨c0, i0, k0⟩ := u_known (C := RJx4a65c) (T := TJx4a65c) (N := 3) (n := 3) hts inWJx4a65c (hts (.instantiable RJx4a65c 3) (by decide +kernel))
  obtain ⟨c1, i1, k1⟩ := u_known (C := RX1) (T := TX1) (N := 2) (n := 2) hts inWX1 (hts (.instantiable RX1 2) (by decide +kernel))
  obtain ⟨c2, i2, k2⟩ := u_known (C := RX2) (T := TX2) (N := 3) (n := 3) hts inWX2 (hts (.instantiable RX2 3) (by decide +kernel))
  obtain ⟨c3, i3, k3⟩ := u_known (C := RX3) (T := TX3) (N := 4) (n := 4) hts inWX3 (hts (.instantiable RX3 4) (by decide +kernel))
  obtain ⟨c4, i4, k4⟩ := u_known (C := RX4) (T := TX4) (N := 6) (n := 6) hts inWX4 (hts (.instantiable RX4 6) (by decide +kernel))
  obtain ⟨c5, i5, k5⟩ := u_known (C := RX5) (T := TX5) (N := 12) (n := 12) hts inWX5 (hts (.instantiable RX5 12) (by decide +kernel))
  obtain ⟨cI, a1, a2⟩ := ls_int (hts _ (by decide +kernel))
  obtain ⟨cL, b1, b2⟩ := ls_long (hts _ (by decide +kernel))
  obtain ⟨cO, e1, e2⟩ := ls_obj (hts _ (by decide +kernel))
  refine ⟨fun k => match k with | 0 => c0 | 1 => c1 | 2 => c2 | 3 => c3 | 4 => c4 | _ => c5, fun k => match k with | 0 => i0 | 1 => i1 | 2 => i2 | 3 => i3 | 4 => i4 | _ => i5, cI, cL, cO, fun k q hq => ?_, fun k q hq => ?_⟩
  · match k, hq with
    | 0, hq => cases hq; exact k0
    | 1, hq => cases hq; exact k1
    | 2, hq => cases hq; exact k2
    | 3, hq => cases hq; exact k3
    | 4, hq => cases hq; exact k4
    | 5, hq => cases hq; exact k5
    | k + 6, hq => cases hq
  · match k, hq with
    | 0, hq => cases hq; exact ⟨a1, a2⟩
    | 1, hq => cases hq; exact ⟨b1, b2⟩
    | 2, hq => cases hq; exact ⟨e1, e2⟩
    | k + 3, hq => cases hq
section ZNL
variable {p : Program} {l : Launch} {e : Env} {R : Room} {s : State} {m : MethodId} {args : Array Value} {below : List Frame} {meth : Method} {c : Code} {H H0 : Heap} {locs : List Loc} {cells slots : Nat} {Q : State → Prop} {cc : ByteArray} {pc : Nat} {ls : Array Slot} {rest : List Value} {D : va_G} {cl : List vw_C} {tys : List (ClassId × FieldType)} {ws : va_W} {A : Nat → Prop}
theorem zw_newL (hx : p.tables.exec = Jvm.exec) (hb : c.code = cc) (harr : (Cond.arrayClass .long).before args s = true) (hK : va_K D cl tys s) (hP : va_P D cl ws H) (hD : va_D A ws) (hS : va_S A H0 H locs) (hA : ∀ q, H0.size ≤ q → A q)
    {i : Int} {N9 : Nat} (hi : i = (N9 : Int)) (hN : N9 ≤ 1000) (hcells : cells + 1 ≤ R.cells) (hslots : slots + N9 ≤ R.slots) (hdg : decode cc pc = .ok (.newarray .long, 2))
    (kk : ∀ (q : Nat) (cA : ClassId) (H1 : Heap), va_K D cl (tys ++ [(cA, .long)]) s → va_P D cl (ws ++ [(q, aL cA N9 (fun _ => 0))]) H1 → va_D A (ws ++ [(q, aL cA N9 (fun _ => 0))]) → va_S A H0 H1 locs →
      W p l e R s m args below meth c H1 locs (cells + 1) (slots + N9) Q (F0 m (pc + 2) ls (.ref q :: rest))) : W p l e R s m args below meth c H locs cells slots Q (F0 m pc ls (.int (zi i) :: rest)) := by
  have hz : zI i := ⟨by omega, by omega⟩
  have hz0 : zl 0 = 0 := by decide
  have hf0 : (fun j : Nat => zl ((fun _ : Nat => (0 : Int)) j)) = fun _ : Nat => (0 : Int64) := by
    funext j
    exact hz0
  refine va_newa (atype := .long) (ty := .long) (a0 := (N9, .inr (.inl (fun _ => (0 : Int64))))) hx hb harr rfl hK hP hD hS hA (fun cA => vp_cell_l cA N9 _) (zi_ge (by omega) hz) (by rw [zi_clamp (by omega) hz]; omega) (by show N9 * 8 ≤ _; omega) hcells hslots hdg (fun q cA H1 h1 h2 h3 h4 => ?_)
  rw [← hf0] at h2 h3
  exact kk q cA H1 h1 h2 h3 h4
end ZNL
