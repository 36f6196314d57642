/-! TEXT CONSTANTS: what is known of one, rows -/
def zTx (a v n : Nat) (bf : Nat → Int) (qy : Option Nat) (A : Nat → Prop) (U : State) (H : Heap) : Prop :=
  (va_O "java/lang/String" a A U H ∧ va_OF "java/lang/String" "coder" "B" (.int (zi 0)) a A U H ∧ va_OF "java/lang/String" "value" "[B" (.ref v) a A U H ∧ va_T .byte v n (fun j => .int (zi (bf j))) A U H) ∧ va_Z "java/lang/String" "COMPACT_STRINGS" "Z" (.int (zi 1)) A U H ∧ va_Z "jdk/internal/util/Preconditions" "SIOOBE_FORMATTER" "Ljava/util/function/BiFunction;" (va_rf qy) A U H
theorem zTx_ok {a v n : Nat} {qy : Option Nat} {bf : Nat → Int} : zF (zTx a v n bf qy) := by
  refine ⟨fun A s U H hW h => ?_, fun A s U H hv h => ?_, fun A U H H1 hq h => ?_, fun A B U H hAB h => ?_⟩
  · obtain ⟨⟨h1, h2, h3, h4⟩, h5, h6⟩ := h
    exact ⟨⟨h1.moved hW.alike, h2.moved hW.alike, h3.moved hW.alike, h4.moved hW.alike⟩, h5.moved hW.alike, h6.moved hW.alike⟩
  · obtain ⟨⟨h1, h2, h3, h4⟩, h5, h6⟩ := h
    have ha : s.vm.Alike U.vm := by rw [hv]; exact Vm.Alike.refl s.vm
    exact ⟨⟨h1.moved ha, h2.moved ha, h3.moved ha, h4.moved ha⟩, h5.moved ha, h6.moved ha⟩
  · obtain ⟨⟨h1, h2, h3, h4⟩, h5, h6⟩ := h
    exact ⟨⟨h1.kept hq, h2.kept hq, h3.kept hq, h4.kept hq⟩, h5.kept hq, h6.kept hq⟩
  · obtain ⟨⟨h1, h2, h3, h4⟩, h5, h6⟩ := h
    exact ⟨⟨h1.narrow hAB, h2.narrow hAB, h3.narrow hAB, h4.narrow hAB⟩, h5.narrow hAB, h6.narrow hAB⟩
section ZTX
variable {a v n : Nat} {qy : Option Nat} {bf : Nat → Int} {A : Nat → Prop} {s : State} {H0 H : Heap} {locs : List Loc}
theorem zTx_o (h : zTx a v n bf qy A s H0) : va_OF "java/lang/String" "coder" "B" (.int (zi 0)) a A s H0 := h.1.2.1
theorem zTx_v (h : zTx a v n bf qy A s H0) : va_OF "java/lang/String" "value" "[B" (.ref v) a A s H0 := h.1.2.2.1
theorem zTx_t (h : zTx a v n bf qy A s H0) : va_T .byte v n (fun j => .int (zi (bf j))) A s H0 := h.1.2.2.2
theorem zTx_c (h : zTx a v n bf qy A s H0) : va_Z "java/lang/String" "COMPACT_STRINGS" "Z" (.int (zi 1)) A s H0 := h.2.1
theorem zTx_f (h : zTx a v n bf qy A s H0) : va_Z "jdk/internal/util/Preconditions" "SIOOBE_FORMATTER" "Ljava/util/function/BiFunction;" (va_rf qy) A s H0 := h.2.2
theorem zTx_r (h : zTx a v n bf qy A s s.heap) (hS : va_S A s.heap H locs) : ∃ cell : Cell, H[a]? = some cell ∧ cell.vm.isStatics = false ∧ s.vm.findClass "java/lang/String" = some cell.cls := by
  obtain ⟨cell, h1, h2, h3, -⟩ := h.1.1.kept hS.2.1
  exact ⟨cell, h1, h2, h3⟩
end ZTX
theorem zsr_0 {x : Int} (h : 0 ≤ x) : zsr x 0 = x := by
  unfold zsr
  have e : x.toNat / 2 ^ (Int.toNat 0) = x.toNat := Nat.div_one _
  rw [e]
  omega
theorem zi_and255 : ∀ a : Fin 128, (zi ((a.val : Nat) : Int)) &&& (zi 255) = zi ((a.val : Nat) : Int) := by decide +kernel
theorem zi_i2c : ∀ a : Fin 128, ((zi ((a.val : Nat) : Int)).toUInt32 % 65536).toInt32 = zi ((a.val : Nat) : Int) := by decide +kernel
theorem zi_ncf : ∀ a : Fin 128, (zi ((a.val : Nat) : Int)).toUInt32.toUInt16.toUInt32.toInt32 = zi ((a.val : Nat) : Int) := by decide +kernel
theorem zi_nc {a : Int} (h : 0 ≤ a ∧ a ≤ 127) : narrow .char (.int (zi a)) = .int (zi a) := by
  have q := zi_ncf ⟨a.toNat, by omega⟩
  have e1 : ((a.toNat : Nat) : Int) = a := by omega
  rw [e1] at q
  show Value.int _ = _
  rw [q]
section ZTW
variable {p : Program} {l : Launch} {e : Env} {R : Room} {s : State} {m : MethodId} {args : Array Value} {below : List Frame} {meth : Method} {c : Code} {H : Heap} {locs : List Loc} {cells slots : Nat} {Q : State → Prop} {cc : ByteArray} {pc : Nat} {ls : Array Slot} {rest : List Value} {A : Nat → Prop}
theorem zw_iand255 (hx : p.tables.exec = Jvm.exec) (hb : c.code = cc) {a : Int} (hd : decode cc pc = .ok (.iand, 1)) (ha : 0 ≤ a ∧ a ≤ 127) (k : W p l e R s m args below meth c H locs cells slots Q (F0 m (pc + 1) ls (.int (zi a) :: rest))) : W p l e R s m args below meth c H locs cells slots Q (F0 m pc ls (.int (zi 255) :: .int (zi a) :: rest)) := by
  refine lv_iand hx hb hd ?_
  have h := zi_and255 ⟨a.toNat, by omega⟩
  have e1 : ((a.toNat : Nat) : Int) = a := by omega
  rw [e1] at h
  rw [h]
  exact k
theorem zw_i2c (hx : p.tables.exec = Jvm.exec) (hb : c.code = cc) {a : Int} (hd : decode cc pc = .ok (.i2c, 1)) (ha : 0 ≤ a ∧ a ≤ 127) (k : W p l e R s m args below meth c H locs cells slots Q (F0 m (pc + 1) ls (.int (zi a) :: rest))) : W p l e R s m args below meth c H locs cells slots Q (F0 m pc ls (.int (zi a) :: rest)) := by
  have h := zi_i2c ⟨a.toNat, by omega⟩
  have e1 : ((a.toNat : Nat) : Int) = a := by omega
  rw [e1] at h
  exact lv_i2c hx hb hd h k
theorem zw_tb (hx : p.tables.exec = Jvm.exec) (hb : c.code = cc) {t n : Nat} {bf : Nat → Int} (hT : va_T .byte t n (fun j => .int (zi (bf j))) A s s.heap) (hS : va_S A s.heap H locs) {i : Int} (h0 : 0 ≤ i) (h1 : i < n) (hi : zI i) (hd : decode cc pc = .ok (.baload, 1))
    (k : W p l e R s m args below meth c H locs cells slots Q (F0 m (pc + 1) ls (.int (zi (bf i.toNat)) :: rest))) : W p l e R s m args below meth c H locs cells slots Q (F0 m pc ls (.int (zi i) :: .ref t :: rest)) := by
  refine va_tb hx hb hT hS (zi_in h0 h1 hi) (v := .int (zi (bf i.toNat))) ?_ hd k
  rw [zi_clamp h0 hi]
theorem zw_ldcwS (hx : p.tables.exec = Jvm.exec) (hb : c.code = cc) {own tx : String} {index q : Nat} (hown : s.vm.findClass own = some m.cls) (hZ : vk_R own index tx q s) (hdg : decode cc pc = .ok (.ldc_w index, 3))
    (k : W p l e R s m args below meth c H locs cells slots Q (F0 m (pc + 3) ls (.ref q :: rest))) : W p l e R s m args below meth c H locs cells slots Q (F0 m pc ls rest) := by
  intro T hT X
  obtain ⟨t, a1, b1⟩ := k T hT X
  refine ⟨t, ?_, b1⟩
  obtain ⟨k0, cf, i, a', hk, hcf, hcp, -, hr, hev'⟩ := Cond.stringRef_spec hown hZ.1
  cases hZ.2.symm.trans hev'
  obtain ⟨k', hk', he⟩ := X.warmed.alike.2.2 _ _ hk
  have hr' : k'.resolved[index]? = some (some (.string q)) := by
    rcases X.warmed.entry hk hk' index with h | ⟨h, -⟩
    · rw [h]; exact hr
    · rw [hr] at h; cases h
  subst hb
  jvm_step X.here [hx, hdg, ldc_w.wp_string (e := e) (s := T) (f := F0 m pc ls rest) X.here.top hk' (by rw [he]; exact hcf) hcp hr']
  exact a1
end ZTW
def pat0 : Nat → Int := fun j => ([48, 48, 48, 48, 45, 48, 48, 45, 48, 48] : List Int).getD j 0
def pat1 : Nat → Int := fun j => ([48, 48, 48, 48, 45, 87, 48, 48, 45, 48] : List Int).getD j 0
def pat2 : Nat → Int := fun j => ([48, 48, 48, 48, 45, 48, 48, 48] : List Int).getD j 0
theorem pat_b (L : List Int) (h : ∀ x ∈ L, 0 ≤ x ∧ x ≤ 127) (j : Nat) : 0 ≤ L.getD j 0 ∧ L.getD j 0 ≤ 127 := by
  rw [List.getD_eq_getElem?_getD]
  cases hj : L[j]? with
  | none => exact ⟨by decide, by decide⟩
  | some x => exact h x (List.mem_of_getElem? hj)
theorem pat0_b (j : Nat) : 0 ≤ pat0 j ∧ pat0 j ≤ 127 := pat_b _ (by decide) j
theorem pat1_b (j : Nat) : 0 ≤ pat1 j ∧ pat1 j ≤ 127 := pat_b _ (by decide) j
theorem pat2_b (j : Nat) : 0 ≤ pat2 j ∧ pat2 j ≤ 127 := pat_b _ (by decide) j
def zP3 (x0 v0 x1 v1 x2 v2 : Nat) (qy : Option Nat) (A : Nat → Prop) (U : State) (H : Heap) : Prop :=
  ((zTx x0 v0 10 pat0 qy A U H ∧ zTx x1 v1 10 pat1 qy A U H) ∧ zTx x2 v2 8 pat2 qy A U H) ∧ (vk_R RX4 278 "0000-00-00" x0 U ∧ vk_R RX4 280 "0000-W00-0" x1 U ∧ vk_R RX4 282 "0000-000" x2 U)
theorem zP3_ok {x0 v0 x1 v1 x2 v2 : Nat} {qy : Option Nat} : zF (zP3 x0 v0 x1 v1 x2 v2 qy) :=
  zF.and (F := fun A U H => (zTx x0 v0 10 pat0 qy A U H ∧ zTx x1 v1 10 pat1 qy A U H) ∧ zTx x2 v2 8 pat2 qy A U H) (G := fun _ U _ => vk_R RX4 278 "0000-00-00" x0 U ∧ vk_R RX4 280 "0000-W00-0" x1 U ∧ vk_R RX4 282 "0000-000" x2 U) (zF.and (zF.and zTx_ok zTx_ok) zTx_ok)
    ⟨fun _ _ _ _ hW h => ⟨h.1.warm hW, h.2.1.warm hW, h.2.2.warm hW⟩, fun _ _ _ _ hv h => ⟨h.1.same hv, h.2.1.same hv, h.2.2.same hv⟩, fun _ _ _ _ _ h => h, fun _ _ _ _ _ h => h⟩
section ZP3
variable {x0 v0 x1 v1 x2 v2 : Nat} {qy : Option Nat} {A : Nat → Prop} {s : State} {H0 : Heap}
theorem zP3_0 (h : zP3 x0 v0 x1 v1 x2 v2 qy A s H0) : zTx x0 v0 10 pat0 qy A s H0 := h.1.1.1
theorem zP3_1 (h : zP3 x0 v0 x1 v1 x2 v2 qy A s H0) : zTx x1 v1 10 pat1 qy A s H0 := h.1.1.2
theorem zP3_2 (h : zP3 x0 v0 x1 v1 x2 v2 qy A s H0) : zTx x2 v2 8 pat2 qy A s H0 := h.1.2
theorem zP3_278 (h : zP3 x0 v0 x1 v1 x2 v2 qy A s H0) : vk_R RX4 278 "0000-00-00" x0 s := h.2.1
theorem zP3_280 (h : zP3 x0 v0 x1 v1 x2 v2 qy A s H0) : vk_R RX4 280 "0000-W00-0" x1 s := h.2.2.1
theorem zP3_282 (h : zP3 x0 v0 x1 v1 x2 v2 qy A s H0) : vk_R RX4 282 "0000-000" x2 s := h.2.2.2
end ZP3
def pX1 (cf bf : Nat → Int) (k : Nat) : Int := f_X1_fits (cf k) (bf k)
theorem pX1_e (cf bf : Nat → Int) (k : Nat) : pX1 cf bf k = f_X1_fits (cf k) (bf k) := rfl
def f_X4_typedText (tf : Nat → Int) (tl : Int) : Int :=
  if (zpf (pX1 tf pat0) (min tl ((10 : Nat) : Int)).toNat 0) = ((10 : Nat) : Int) then (if (zpf (pX1 tf pat0) (min tl ((10 : Nat) : Int)).toNat 0) = tl then 0
    else if (zpf (pX1 tf pat1) (min tl ((10 : Nat) : Int)).toNat 0) = ((10 : Nat) : Int) then (if (zpf (pX1 tf pat1) (min tl ((10 : Nat) : Int)).toNat 0) = tl then 1
      else if (zpf (pX1 tf pat2) (min tl ((8 : Nat) : Int)).toNat 0) = ((8 : Nat) : Int) then (if (zpf (pX1 tf pat2) (min tl ((8 : Nat) : Int)).toNat 0) = tl then 2
        else ((-1) - (max (max (max 0 (zpf (pX1 tf pat0) (min tl ((10 : Nat) : Int)).toNat 0)) (zpf (pX1 tf pat1) (min tl ((10 : Nat) : Int)).toNat 0)) (zpf (pX1 tf pat2) (min tl ((8 : Nat) : Int)).toNat 0))))
      else ((-1) - (max (max (max 0 (zpf (pX1 tf pat0) (min tl ((10 : Nat) : Int)).toNat 0)) (zpf (pX1 tf pat1) (min tl ((10 : Nat) : Int)).toNat 0)) (zpf (pX1 tf pat2) (min tl ((8 : Nat) : Int)).toNat 0))))
    else if (zpf (pX1 tf pat2) (min tl ((8 : Nat) : Int)).toNat 0) = ((8 : Nat) : Int) then (if (zpf (pX1 tf pat2) (min tl ((8 : Nat) : Int)).toNat 0) = tl then 2
      else ((-1) - (max (max (max 0 (zpf (pX1 tf pat0) (min tl ((10 : Nat) : Int)).toNat 0)) (zpf (pX1 tf pat1) (min tl ((10 : Nat) : Int)).toNat 0)) (zpf (pX1 tf pat2) (min tl ((8 : Nat) : Int)).toNat 0))))
    else ((-1) - (max (max (max 0 (zpf (pX1 tf pat0) (min tl ((10 : Nat) : Int)).toNat 0)) (zpf (pX1 tf pat1) (min tl ((10 : Nat) : Int)).toNat 0)) (zpf (pX1 tf pat2) (min tl ((8 : Nat) : Int)).toNat 0))))
  else if (zpf (pX1 tf pat1) (min tl ((10 : Nat) : Int)).toNat 0) = ((10 : Nat) : Int) then (if (zpf (pX1 tf pat1) (min tl ((10 : Nat) : Int)).toNat 0) = tl then 1
    else if (zpf (pX1 tf pat2) (min tl ((8 : Nat) : Int)).toNat 0) = ((8 : Nat) : Int) then (if (zpf (pX1 tf pat2) (min tl ((8 : Nat) : Int)).toNat 0) = tl then 2
      else ((-1) - (max (max (max 0 (zpf (pX1 tf pat0) (min tl ((10 : Nat) : Int)).toNat 0)) (zpf (pX1 tf pat1) (min tl ((10 : Nat) : Int)).toNat 0)) (zpf (pX1 tf pat2) (min tl ((8 : Nat) : Int)).toNat 0))))
    else ((-1) - (max (max (max 0 (zpf (pX1 tf pat0) (min tl ((10 : Nat) : Int)).toNat 0)) (zpf (pX1 tf pat1) (min tl ((10 : Nat) : Int)).toNat 0)) (zpf (pX1 tf pat2) (min tl ((8 : Nat) : Int)).toNat 0))))
  else if (zpf (pX1 tf pat2) (min tl ((8 : Nat) : Int)).toNat 0) = ((8 : Nat) : Int) then (if (zpf (pX1 tf pat2) (min tl ((8 : Nat) : Int)).toNat 0) = tl then 2
    else ((-1) - (max (max (max 0 (zpf (pX1 tf pat0) (min tl ((10 : Nat) : Int)).toNat 0)) (zpf (pX1 tf pat1) (min tl ((10 : Nat) : Int)).toNat 0)) (zpf (pX1 tf pat2) (min tl ((8 : Nat) : Int)).toNat 0))))
  else ((-1) - (max (max (max 0 (zpf (pX1 tf pat0) (min tl ((10 : Nat) : Int)).toNat 0)) (zpf (pX1 tf pat1) (min tl ((10 : Nat) : Int)).toNat 0)) (zpf (pX1 tf pat2) (min tl ((8 : Nat) : Int)).toNat 0)))
def f_X4_typedNumber (tf : Nat → Int) (tx : Int) : Int :=
  if tx = 0 then (f_X0_civilNumber (((10 * (((10 * (((10 * ((0 + (tf (Int.toNat 0))) - 48)) + (tf (Int.toNat 1))) - 48)) + (tf (Int.toNat 2))) - 48)) + (tf (Int.toNat 3))) - 48) (((10 * ((0 + (tf (Int.toNat 5))) - 48)) + (tf (Int.toNat 6))) - 48) (((10 * ((0 + (tf (Int.toNat 8))) - 48)) + (tf (Int.toNat 9))) - 48))
  else if tx = 1 then (f_X0_weekNumber (((10 * (((10 * (((10 * ((0 + (tf (Int.toNat 0))) - 48)) + (tf (Int.toNat 1))) - 48)) + (tf (Int.toNat 2))) - 48)) + (tf (Int.toNat 3))) - 48) (((10 * ((0 + (tf (Int.toNat 6))) - 48)) + (tf (Int.toNat 7))) - 48) ((0 + (tf (Int.toNat 9))) - 48))
  else (f_X0_yearDayNumber (((10 * (((10 * (((10 * ((0 + (tf (Int.toNat 0))) - 48)) + (tf (Int.toNat 1))) - 48)) + (tf (Int.toNat 2))) - 48)) + (tf (Int.toNat 3))) - 48) (((10 * (((10 * ((0 + (tf (Int.toNat 5))) - 48)) + (tf (Int.toNat 6))) - 48)) + (tf (Int.toNat 7))) - 48))
theorem b_X4_typedText (tf : Nat → Int) (tl : Int) (h : 0 ≤ tl ∧ tl ≤ 20) : (-21 ≤ f_X4_typedText tf tl ∧ f_X4_typedText tf tl ≤ 2) ∧ (f_X4_typedText tf tl < 0 ∨ f_X4_typedText tf tl = 2 ∧ tl = 8 ∨ f_X4_typedText tf tl < 2 ∧ tl = 10) := by
  have hz0 := zpf_b (pX1 tf pat0) (min tl ((10 : Nat) : Int)).toNat 0
  have hz1 := zpf_b (pX1 tf pat1) (min tl ((10 : Nat) : Int)).toNat 0
  have hz2 := zpf_b (pX1 tf pat2) (min tl ((8 : Nat) : Int)).toNat 0
  unfold f_X4_typedText
  generalize zpf (pX1 tf pat0) (min tl ((10 : Nat) : Int)).toNat 0 = z0 at hz0 ⊢
  generalize zpf (pX1 tf pat1) (min tl ((10 : Nat) : Int)).toNat 0 = z1 at hz1 ⊢
  generalize zpf (pX1 tf pat2) (min tl ((8 : Nat) : Int)).toNat 0 = z2 at hz2 ⊢
  (repeat' split) <;> omega
theorem b_X4_typedNumber (tf : Nat → Int) (tx : Int) (h : 0 ≤ tx ∧ tx ≤ 2) (ht : ∀ j : Nat, 0 ≤ tf j ∧ tf j ≤ 126) : -1 ≤ f_X4_typedNumber tf tx ∧ f_X4_typedNumber tf tx ≤ 4000000 := by
  have ht0 := ht (Int.toNat 0)
  have ht1 := ht (Int.toNat 1)
  have ht2 := ht (Int.toNat 2)
  have ht3 := ht (Int.toNat 3)
  have ht5 := ht (Int.toNat 5)
  have ht6 := ht (Int.toNat 6)
  have ht7 := ht (Int.toNat 7)
  have ht8 := ht (Int.toNat 8)
  have ht9 := ht (Int.toNat 9)
  have hy : -200000 ≤ (((10 * (((10 * (((10 * ((0 + (tf (Int.toNat 0))) - 48)) + (tf (Int.toNat 1))) - 48)) + (tf (Int.toNat 2))) - 48)) + (tf (Int.toNat 3))) - 48) ∧ (((10 * (((10 * (((10 * ((0 + (tf (Int.toNat 0))) - 48)) + (tf (Int.toNat 1))) - 48)) + (tf (Int.toNat 2))) - 48)) + (tf (Int.toNat 3))) - 48) ≤ 200000 := by omega
  have hmo : -200000 ≤ (((10 * ((0 + (tf (Int.toNat 5))) - 48)) + (tf (Int.toNat 6))) - 48) ∧ (((10 * ((0 + (tf (Int.toNat 5))) - 48)) + (tf (Int.toNat 6))) - 48) ≤ 200000 := by omega
  have hda : -200000 ≤ (((10 * ((0 + (tf (Int.toNat 8))) - 48)) + (tf (Int.toNat 9))) - 48) ∧ (((10 * ((0 + (tf (Int.toNat 8))) - 48)) + (tf (Int.toNat 9))) - 48) ≤ 200000 := by omega
  have hwk : -200000 ≤ (((10 * ((0 + (tf (Int.toNat 6))) - 48)) + (tf (Int.toNat 7))) - 48) ∧ (((10 * ((0 + (tf (Int.toNat 6))) - 48)) + (tf (Int.toNat 7))) - 48) ≤ 200000 := by omega
  have hwd : -200000 ≤ ((0 + (tf (Int.toNat 9))) - 48) ∧ ((0 + (tf (Int.toNat 9))) - 48) ≤ 200000 := by omega
  have hyd : -200000 ≤ (((10 * (((10 * ((0 + (tf (Int.toNat 5))) - 48)) + (tf (Int.toNat 6))) - 48)) + (tf (Int.toNat 7))) - 48) ∧ (((10 * (((10 * ((0 + (tf (Int.toNat 5))) - 48)) + (tf (Int.toNat 6))) - 48)) + (tf (Int.toNat 7))) - 48) ≤ 200000 := by omega
  unfold f_X4_typedNumber
  generalize (((10 * (((10 * (((10 * ((0 + (tf (Int.toNat 0))) - 48)) + (tf (Int.toNat 1))) - 48)) + (tf (Int.toNat 2))) - 48)) + (tf (Int.toNat 3))) - 48) = y at hy ⊢
  generalize (((10 * (((10 * ((0 + (tf (Int.toNat 5))) - 48)) + (tf (Int.toNat 6))) - 48)) + (tf (Int.toNat 7))) - 48) = yd at hyd ⊢
  generalize (((10 * ((0 + (tf (Int.toNat 5))) - 48)) + (tf (Int.toNat 6))) - 48) = mo at hmo ⊢
  generalize (((10 * ((0 + (tf (Int.toNat 8))) - 48)) + (tf (Int.toNat 9))) - 48) = da at hda ⊢
  generalize (((10 * ((0 + (tf (Int.toNat 6))) - 48)) + (tf (Int.toNat 7))) - 48) = wk at hwk ⊢
  generalize ((0 + (tf (Int.toNat 9))) - 48) = wd at hwd ⊢
  clear ht0 ht1 ht2 ht3 ht5 ht6 ht7 ht8 ht9
  have q1 := b_X0_civilNumber y mo da (by omega) (by omega) (by omega)
  have q2 := b_X0_weekNumber y wk wd (by omega) (by omega) (by omega)
  have q3 := b_X0_yearDayNumber y yd (by omega) (by omega)
  (repeat' split) <;> omega
set_option maxHeartbeats 4000000 in
set_option maxRecDepth 100000 in
theorem c_J0_coder (l : Launch)  (dC : Nat → ClassId) (dI : Nat → Nat → Nat) (qx : Nat) (qv : Nat) (n9 : Nat) (bf : Nat → Int) (qy : Option Nat)  : Met l yJ0_coder_7d493 wsJ0_coder_7d493 ({ frames := 0, cells := 0, slots := 0, locals := 0 }) (zPrF (dC, dI) [] [.ref qx] [] (zTx qx qv n9 bf qy)) (vp_Si (fun r => r = zi 0)) 0 0 zN := by
  refine Met.ofW (cc := cJ0_coder_7d493) (maxL := 1) (ret := (some .byte)) (by decide) rfl ?_
  intro p e s m args below meth c s₁ B hml hv
  obtain ⟨rfl, hP, hK, hG⟩ := hv
  have hx := B.exec
  have hb := B.bytes
  have hr := B.returns
  have hts := atoms_spec (ws := wsJ0_coder_7d493) B.pre
  have hown : s.vm.findClass RJ0 = some m.cls := findClass_of_methodNamed B.named
  have hlocks := B.notSynchronized
  have hl := lv_entry ([.ref qx]) (n := 1) (Nat.le_of_ble_eq_true rfl)
  rw [lg_entry_eq]
  generalize (lg_sl ([.ref qx]) ++ List.replicate (1 - (lg_sl ([.ref qx])).length) Slot.unset).toArray = ls at hl ⊢
  have hl : lv_has ls 1 [(0, .ref qx)] := hl
  refine va_gets (C := "java/lang/String") hx hb (zTx_c hG) va_S.rf hown (hts (.fieldLink RJ0 38 "java/lang/String" "COMPACT_STRINGS" "Z") (by decide +kernel)) (fun _ h9 => h9) dJ0_coder_7d493_0 ?_
  refine zw_if_eq (tgt := 13) hx hb dJ0_coder_7d493_3 (by decide) ⟨by omega, by omega⟩ (fun h1 => ?_) (fun h1 => ?_)
  · skip
    exact absurd True.intro (by omega)
  · skip
    refine lv_aload_n hx hb dJ0_coder_7d493_6 rfl (lv_at hl 0 rfl) ?_
    refine vk_getf (o := "java/lang/String") hx hb (zTx_o hG) va_S.rf hown (hts (.fieldLink RJ0 15 "java/lang/String" "coder" "B") (by decide +kernel)) (fun _ h9 => h9) dJ0_coder_7d493_7 ?_
    refine lv_goto (tgt := 14) hx hb dJ0_coder_7d493_10 (by decide) ?_
    exact W.zret (v := zi 0) hx hb hr (by decide) (fun t ht hW => ⟨zi 0, rfl, rfl, ht⟩) (fun q h => by cases h) dJ0_coder_7d493_14

set_option maxHeartbeats 4000000 in
set_option maxRecDepth 100000 in
theorem c_J0_isLatin1 (l : Launch)  (dC : Nat → ClassId) (dI : Nat → Nat → Nat) (qx : Nat) (qv : Nat) (n9 : Nat) (bf : Nat → Int) (qy : Option Nat)  : Met l yJ0_isLatin1_aae02 wsJ0_isLatin1_aae02 ({ frames := 0, cells := 0, slots := 0, locals := 0 }) (zPrF (dC, dI) [] [.ref qx] [] (zTx qx qv n9 bf qy)) (vp_Si (fun r => r = zi 1)) 0 0 zN := by
  refine Met.ofW (cc := cJ0_isLatin1_aae02) (maxL := 1) (ret := (some .boolean)) (by decide) rfl ?_
  intro p e s m args below meth c s₁ B hml hv
  obtain ⟨rfl, hP, hK, hG⟩ := hv
  have hx := B.exec
  have hb := B.bytes
  have hr := B.returns
  have hts := atoms_spec (ws := wsJ0_isLatin1_aae02) B.pre
  have hown : s.vm.findClass RJ0 = some m.cls := findClass_of_methodNamed B.named
  have hlocks := B.notSynchronized
  have hl := lv_entry ([.ref qx]) (n := 1) (Nat.le_of_ble_eq_true rfl)
  rw [lg_entry_eq]
  generalize (lg_sl ([.ref qx]) ++ List.replicate (1 - (lg_sl ([.ref qx])).length) Slot.unset).toArray = ls at hl ⊢
  have hl : lv_has ls 1 [(0, .ref qx)] := hl
  refine va_gets (C := "java/lang/String") hx hb (zTx_c hG) va_S.rf hown (hts (.fieldLink RJ0 38 "java/lang/String" "COMPACT_STRINGS" "Z") (by decide +kernel)) (fun _ h9 => h9) dJ0_isLatin1_aae02_0 ?_
  refine zw_if_eq (tgt := 17) hx hb dJ0_isLatin1_aae02_3 (by decide) ⟨by omega, by omega⟩ (fun h1 => ?_) (fun h1 => ?_)
  · skip
    exact absurd True.intro (by omega)
  · skip
    refine lv_aload_n hx hb dJ0_isLatin1_aae02_6 rfl (lv_at hl 0 rfl) ?_
    refine vk_getf (o := "java/lang/String") hx hb (zTx_o hG) va_S.rf hown (hts (.fieldLink RJ0 15 "java/lang/String" "coder" "B") (by decide +kernel)) (fun _ h9 => h9) dJ0_isLatin1_aae02_7 ?_
    refine zw_if_ne (tgt := 17) hx hb dJ0_isLatin1_aae02_10 (by decide) ⟨by omega, by omega⟩ (fun h2 => ?_) (fun h2 => ?_)
    · skip
      exact absurd True.intro (by omega)
    · skip
      refine zw_iconst hx hb dJ0_isLatin1_aae02_13 ?_
      refine lv_goto (tgt := 18) hx hb dJ0_isLatin1_aae02_14 (by decide) ?_
      exact W.zret (v := zi 1) hx hb hr (zi_nb (by omega)) (fun t ht hW => ⟨zi 1, rfl, rfl, ht⟩) (fun q h => by cases h) dJ0_isLatin1_aae02_18

set_option maxHeartbeats 4000000 in
set_option maxRecDepth 100000 in
theorem c_J0_length (l : Launch)  (dC : Nat → ClassId) (dI : Nat → Nat → Nat) (qx : Nat) (qv : Nat) (n9 : Nat) (bf : Nat → Int) (qy : Option Nat) (hp0 : n9 ≤ 100) : Met l yJ0_length_8abf5 wsJ0_length_8abf5 ({ frames := 1, cells := 0, slots := 0, locals := 20 }) (zPrF (dC, dI) [] [.ref qx] [] (zTx qx qv n9 bf qy)) (vp_Si (fun r => r = zi ((n9 : Nat) : Int))) 0 0 zN := by
  refine Met.ofW (cc := cJ0_length_8abf5) (maxL := 1) (ret := (some .int)) (by decide) rfl ?_
  intro p e s m args below meth c s₁ B hml hv
  obtain ⟨rfl, hP, hK, hG⟩ := hv
  have hx := B.exec
  have hb := B.bytes
  have hr := B.returns
  have hts := atoms_spec (ws := wsJ0_length_8abf5) B.pre
  have hown : s.vm.findClass RJ0 = some m.cls := findClass_of_methodNamed B.named
  have hlocks := B.notSynchronized
  have hl := lv_entry ([.ref qx]) (n := 1) (Nat.le_of_ble_eq_true rfl)
  rw [lg_entry_eq]
  generalize (lg_sl ([.ref qx]) ++ List.replicate (1 - (lg_sl ([.ref qx])).length) Slot.unset).toArray = ls at hl ⊢
  have hl : lv_has ls 1 [(0, .ref qx)] := hl
  refine lv_aload_n hx hb dJ0_length_8abf5_0 rfl (lv_at hl 0 rfl) ?_
  refine vk_getf (o := "java/lang/String") hx hb (zTx_v hG) va_S.rf hown (hts (.fieldLink RJ0 9 "java/lang/String" "value" "[B") (by decide +kernel)) (fun _ h9 => h9) dJ0_length_8abf5_1 ?_
  refine va_tlen hx hb (zTx_t hG) va_S.rf (zi_nat _).symm dJ0_length_8abf5_4 ?_
  refine lv_aload_n hx hb dJ0_length_8abf5_5 rfl (lv_at hl 0 rfl) ?_
  have hh1 := c_J0_coder l dC dI qx qv n9 bf qy 
  have hPc := hP.sub (ws' := []) [] rfl
  have hKc : va_K (dC, dI) vwCl [] s := hK
  refine vp_callSi (va_Run.run (va_runV (As := []) (rest := [.int (zi ((n9 : Nat) : Int))]) ⟨hx, hb, hml, hown, hts⟩ hh1 (cwV 0 hts gJ0_length_8abf5_J0_coder_7d493 rfl rfl rfl (by decide +kernel) ⟨Nat.le_of_ble_eq_true rfl, Nat.le_of_ble_eq_true rfl⟩) ⟨zPrF.blind _ _ _ _ zTx_ok, zTx_r hG va_S.rf, fun U hU hW => ⟨rfl, by rw [hU]; exact hPc, va_K.moved hW.alike hKc, zF.call zTx_ok hG va_S.rf (fun _ h => h.elim) hU hW⟩⟩ rfl rfl hl.1 rfl (lv_room (Nat.le_of_ble_eq_true rfl)) dJ0_length_8abf5_6 ⟨Nat.le_of_ble_eq_true rfl, Nat.le_of_ble_eq_true rfl⟩)) (fun r1 (hr1 : r1 = zi 0) => ?_)
  subst hr1
  refine zw_ishr hx hb dJ0_length_8abf5_9 (by omega) (by omega) ?_
  rw [zsr_0 (by omega)]
  exact W.iret (v := zi ((n9 : Nat) : Int)) hx hb hr (fun t ht hW => ⟨zi ((n9 : Nat) : Int), rfl, rfl, ht⟩) (fun q h => by cases h) dJ0_length_8abf5_10

set_option maxHeartbeats 4000000 in
set_option maxRecDepth 100000 in
theorem c_J3_checkIndexQ (l : Launch)  (dC : Nat → ClassId) (dI : Nat → Nat → Nat) (ix : Int) (n8 : Int) (qz : Nat) (hp0 : 0 ≤ ix ∧ ix < n8 ∧ n8 ≤ 2147483647) : Met l yJ3_checkIndex_8e157 wsJ3_checkIndex_8e157 ({ frames := 0, cells := 0, slots := 0, locals := 0 }) (zPr (dC, dI) [] [.int (zi ix), .int (zi n8), .ref qz] []) (vp_Si (fun r => r = zi ix)) 0 0 zN := by
  refine Met.ofW (cc := cJ3_checkIndex_8e157) (maxL := 3) (ret := (some .int)) (by decide) rfl ?_
  intro p e s m args below meth c s₁ B hml hv
  obtain ⟨rfl, hP, hK⟩ := hv
  have hx := B.exec
  have hb := B.bytes
  have hr := B.returns
  have hts := atoms_spec (ws := wsJ3_checkIndex_8e157) B.pre
  have hown : s.vm.findClass RJ3 = some m.cls := findClass_of_methodNamed B.named
  have hlocks := B.notSynchronized
  have hl := lv_entry ([.int (zi ix), .int (zi n8), .ref qz]) (n := 3) (Nat.le_of_ble_eq_true rfl)
  rw [lg_entry_eq]
  generalize (lg_sl ([.int (zi ix), .int (zi n8), .ref qz]) ++ List.replicate (3 - (lg_sl ([.int (zi ix), .int (zi n8), .ref qz])).length) Slot.unset).toArray = ls at hl ⊢
  have hl : lv_has ls 3 [(0, .int (zi ix)), (1, .int (zi n8)), (2, .ref qz)] := hl
  refine lv_iload_n hx hb dJ3_checkIndex_8e157_0 rfl (lv_at hl 0 rfl) ?_
  refine zw_if_lt (tgt := 9) hx hb dJ3_checkIndex_8e157_1 (by decide) ⟨by omega, by omega⟩ (fun h1 => ?_) (fun h1 => ?_)
  · skip
    exact absurd True.intro (by omega)
  · skip
    refine lv_iload_n hx hb dJ3_checkIndex_8e157_4 rfl (lv_at hl 0 rfl) ?_
    refine lv_iload_n hx hb dJ3_checkIndex_8e157_5 rfl (lv_at hl 1 rfl) ?_
    refine zw_icmp_lt (tgt := 16) hx hb dJ3_checkIndex_8e157_6 (by decide) ⟨by omega, by omega⟩ ⟨by omega, by omega⟩ (fun h2 => ?_) (fun h2 => ?_)
    · skip
      refine lv_iload_n hx hb dJ3_checkIndex_8e157_16 rfl (lv_at hl 0 rfl) ?_
      exact W.iret (v := zi ix) hx hb hr (fun t ht hW => ⟨zi ix, rfl, rfl, ht⟩) (fun q h => by cases h) dJ3_checkIndex_8e157_17
    · skip
      exact absurd True.intro (by omega)

set_option maxHeartbeats 4000000 in
set_option maxRecDepth 100000 in
theorem c_J0_checkIndexR (l : Launch)  (dC : Nat → ClassId) (dI : Nat → Nat → Nat) (qx : Nat) (qv : Nat) (n9 : Nat) (bf : Nat → Int) (qz : Nat) (ix : Int) (n8 : Int) (hp0 : 0 ≤ ix ∧ ix < n8 ∧ n8 ≤ 2147483647) : Met l yJ0_checkIndex_df160 wsJ0_checkIndex_df160 ({ frames := 1, cells := 0, slots := 0, locals := 22 }) (zPrF (dC, dI) [] [.int (zi ix), .int (zi n8)] [] (zTx qx qv n9 bf (some qz))) (va_Sv (fun _ => True)) 0 0 zN := by
  refine Met.ofW (cc := cJ0_checkIndex_df160) (maxL := 2) (ret := none) (by decide) rfl ?_
  intro p e s m args below meth c s₁ B hml hv
  obtain ⟨rfl, hP, hK, hG⟩ := hv
  have hx := B.exec
  have hb := B.bytes
  have hr := B.returns
  have hts := atoms_spec (ws := wsJ0_checkIndex_df160) B.pre
  have hown : s.vm.findClass RJ0 = some m.cls := findClass_of_methodNamed B.named
  have hlocks := B.notSynchronized
  have hl := lv_entry ([.int (zi ix), .int (zi n8)]) (n := 2) (Nat.le_of_ble_eq_true rfl)
  rw [lg_entry_eq]
  generalize (lg_sl ([.int (zi ix), .int (zi n8)]) ++ List.replicate (2 - (lg_sl ([.int (zi ix), .int (zi n8)])).length) Slot.unset).toArray = ls at hl ⊢
  have hl : lv_has ls 2 [(0, .int (zi ix)), (1, .int (zi n8))] := hl
  refine lv_iload_n hx hb dJ0_checkIndex_df160_0 rfl (lv_at hl 0 rfl) ?_
  refine lv_iload_n hx hb dJ0_checkIndex_df160_1 rfl (lv_at hl 1 rfl) ?_
  refine va_gets (C := "jdk/internal/util/Preconditions") hx hb (zTx_f hG) va_S.rf hown (hts (.fieldLink RJ0 1053 "jdk/internal/util/Preconditions" "SIOOBE_FORMATTER" "Ljava/util/function/BiFunction;") (by decide +kernel)) (fun _ h9 => h9) dJ0_checkIndex_df160_2 ?_
  have hh1 := c_J3_checkIndexQ l dC dI ix n8 qz (by omega)
  have hPc := hP.sub (ws' := []) [] rfl
  have hKc : va_K (dC, dI) vwCl [] s := hK
  refine vp_callSi (va_Run.run (va_runS (As := [.int (zi ix), .int (zi n8), .ref qz]) (rest := []) ⟨hx, hb, hml, hown, hts⟩ hh1 (va_cwS 3 hts gJ0_checkIndex_df160_J3_checkIndex_8e157 rfl rfl rfl (by decide +kernel) ⟨Nat.le_of_ble_eq_true rfl, Nat.le_of_ble_eq_true rfl⟩) ⟨zPr.blind _ _ _ _, fun U hU hW => ⟨rfl, by rw [hU]; exact hPc, va_K.moved hW.alike hKc⟩⟩ rfl rfl hl.1 rfl (lv_room (Nat.le_of_ble_eq_true rfl)) dJ0_checkIndex_df160_5 ⟨Nat.le_of_ble_eq_true rfl, Nat.le_of_ble_eq_true rfl⟩)) (fun r1 (hr1 : r1 = zi ix) => ?_)
  subst hr1
  refine lv_pop hx hb dJ0_checkIndex_df160_8 rfl ?_
  exact W.vret hx hb hr (fun t ht hW => ⟨rfl, trivial, ht⟩) (fun q h => by cases h) dJ0_checkIndex_df160_9

set_option maxHeartbeats 4000000 in
set_option maxRecDepth 100000 in
theorem c_J0_checkIndexN (l : Launch)  (dC : Nat → ClassId) (dI : Nat → Nat → Nat) (qx : Nat) (qv : Nat) (n9 : Nat) (bf : Nat → Int) (ix : Int) (n8 : Int) (hp0 : 0 ≤ ix ∧ ix < n8 ∧ n8 ≤ 2147483647) : Met l yJ0_checkIndex_df160 wsJ0_checkIndex_df160 ({ frames := 1, cells := 0, slots := 0, locals := 22 }) (zPrF (dC, dI) [] [.int (zi ix), .int (zi n8)] [] (zTx qx qv n9 bf none)) (va_Sv (fun _ => True)) 0 0 zN := by
  refine Met.ofW (cc := cJ0_checkIndex_df160) (maxL := 2) (ret := none) (by decide) rfl ?_
  intro p e s m args below meth c s₁ B hml hv
  obtain ⟨rfl, hP, hK, hG⟩ := hv
  have hx := B.exec
  have hb := B.bytes
  have hr := B.returns
  have hts := atoms_spec (ws := wsJ0_checkIndex_df160) B.pre
  have hown : s.vm.findClass RJ0 = some m.cls := findClass_of_methodNamed B.named
  have hlocks := B.notSynchronized
  have hl := lv_entry ([.int (zi ix), .int (zi n8)]) (n := 2) (Nat.le_of_ble_eq_true rfl)
  rw [lg_entry_eq]
  generalize (lg_sl ([.int (zi ix), .int (zi n8)]) ++ List.replicate (2 - (lg_sl ([.int (zi ix), .int (zi n8)])).length) Slot.unset).toArray = ls at hl ⊢
  have hl : lv_has ls 2 [(0, .int (zi ix)), (1, .int (zi n8))] := hl
  refine lv_iload_n hx hb dJ0_checkIndex_df160_0 rfl (lv_at hl 0 rfl) ?_
  refine lv_iload_n hx hb dJ0_checkIndex_df160_1 rfl (lv_at hl 1 rfl) ?_
  refine va_gets (C := "jdk/internal/util/Preconditions") hx hb (zTx_f hG) va_S.rf hown (hts (.fieldLink RJ0 1053 "jdk/internal/util/Preconditions" "SIOOBE_FORMATTER" "Ljava/util/function/BiFunction;") (by decide +kernel)) (fun _ h9 => h9) dJ0_checkIndex_df160_2 ?_
  have hh1 := c_J3_checkIndex l dC dI ix n8 (by omega)
  have hPc := hP.sub (ws' := []) [] rfl
  have hKc : va_K (dC, dI) vwCl [] s := hK
  refine vp_callSi (va_Run.run (va_runS (As := [.int (zi ix), .int (zi n8), .null]) (rest := []) ⟨hx, hb, hml, hown, hts⟩ hh1 (va_cwS 3 hts gJ0_checkIndex_df160_J3_checkIndex_8e157 rfl rfl rfl (by decide +kernel) ⟨Nat.le_of_ble_eq_true rfl, Nat.le_of_ble_eq_true rfl⟩) ⟨zPr.blind _ _ _ _, fun U hU hW => ⟨rfl, by rw [hU]; exact hPc, va_K.moved hW.alike hKc⟩⟩ rfl rfl hl.1 rfl (lv_room (Nat.le_of_ble_eq_true rfl)) dJ0_checkIndex_df160_5 ⟨Nat.le_of_ble_eq_true rfl, Nat.le_of_ble_eq_true rfl⟩)) (fun r1 (hr1 : r1 = zi ix) => ?_)
  subst hr1
  refine lv_pop hx hb dJ0_checkIndex_df160_8 rfl ?_
  exact W.vret hx hb hr (fun t ht hW => ⟨rfl, trivial, ht⟩) (fun q h => by cases h) dJ0_checkIndex_df160_9

theorem c_J0_checkIndex (l : Launch)  (dC : Nat → ClassId) (dI : Nat → Nat → Nat) (qx : Nat) (qv : Nat) (n9 : Nat) (bf : Nat → Int) (qy : Option Nat) (ix : Int) (n8 : Int) (hp0 : 0 ≤ ix ∧ ix < n8 ∧ n8 ≤ 2147483647) : Met l yJ0_checkIndex_df160 wsJ0_checkIndex_df160 ({ frames := 1, cells := 0, slots := 0, locals := 22 }) (zPrF (dC, dI) [] [.int (zi ix), .int (zi n8)] [] (zTx qx qv n9 bf qy)) (va_Sv (fun _ => True)) 0 0 zN := by
  cases qy with
  | none => exact c_J0_checkIndexN l dC dI qx qv n9 bf ix n8 hp0
  | some qz => exact c_J0_checkIndexR l dC dI qx qv n9 bf qz ix n8 hp0

set_option maxHeartbeats 4000000 in
set_option maxRecDepth 100000 in
theorem c_J1_charAt (l : Launch)  (dC : Nat → ClassId) (dI : Nat → Nat → Nat) (qx : Nat) (qv : Nat) (n9 : Nat) (bf : Nat → Int) (qy : Option Nat) (ix : Int) (hp0 : 0 ≤ ix ∧ ix < (n9 : Int) ∧ n9 ≤ 100) (hp1 : ∀ j : Nat, 0 ≤ bf j ∧ bf j ≤ 127) : Met l yJ1_charAt_3b067 wsJ1_charAt_3b067 ({ frames := 2, cells := 0, slots := 0, locals := 43 }) (zPrF (dC, dI) [] [.ref qv, .int (zi ix)] [] (zTx qx qv n9 bf qy)) (vp_Si (fun r => r = zi (bf ix.toNat))) 0 0 zN := by
  refine Met.ofW (cc := cJ1_charAt_3b067) (maxL := 2) (ret := (some .char)) (by decide) rfl ?_
  intro p e s m args below meth c s₁ B hml hv
  obtain ⟨rfl, hP, hK, hG⟩ := hv
  have hx := B.exec
  have hb := B.bytes
  have hr := B.returns
  have hts := atoms_spec (ws := wsJ1_charAt_3b067) B.pre
  have hown : s.vm.findClass RJ1 = some m.cls := findClass_of_methodNamed B.named
  have hlocks := B.notSynchronized
  have hl := lv_entry ([.ref qv, .int (zi ix)]) (n := 2) (Nat.le_of_ble_eq_true rfl)
  rw [lg_entry_eq]
  generalize (lg_sl ([.ref qv, .int (zi ix)]) ++ List.replicate (2 - (lg_sl ([.ref qv, .int (zi ix)])).length) Slot.unset).toArray = ls at hl ⊢
  have hl : lv_has ls 2 [(0, .ref qv), (1, .int (zi ix))] := hl
  have hbb := hp1 ix.toNat
  refine lv_iload_n hx hb dJ1_charAt_3b067_0 rfl (lv_at hl 1 rfl) ?_
  refine lv_aload_n hx hb dJ1_charAt_3b067_1 rfl (lv_at hl 0 rfl) ?_
  refine va_tlen hx hb (zTx_t hG) va_S.rf (zi_nat _).symm dJ1_charAt_3b067_2 ?_
  have hh1 := c_J0_checkIndex l dC dI qx qv n9 bf qy ix ((n9 : Nat) : Int) (by omega)
  have hPc := hP.sub (ws' := []) [] rfl
  have hKc : va_K (dC, dI) vwCl [] s := hK
  refine va_csv (va_Run.run (va_runS (As := [.int (zi ix), .int (zi ((n9 : Nat) : Int))]) (rest := []) ⟨hx, hb, hml, hown, hts⟩ hh1 (va_cwS 2 hts gJ1_charAt_3b067_J0_checkIndex_df160 rfl rfl rfl (by decide +kernel) ⟨Nat.le_of_ble_eq_true rfl, Nat.le_of_ble_eq_true rfl⟩) ⟨zPrF.blind _ _ _ _ zTx_ok, fun U hU hW => ⟨rfl, by rw [hU]; exact hPc, va_K.moved hW.alike hKc, zF.call zTx_ok hG va_S.rf (fun _ h => h.elim) hU hW⟩⟩ rfl rfl hl.1 rfl (lv_room (Nat.le_of_ble_eq_true rfl)) dJ1_charAt_3b067_3 ⟨Nat.le_of_ble_eq_true rfl, Nat.le_of_ble_eq_true rfl⟩)) (fun _ => ?_)
  refine lv_aload_n hx hb dJ1_charAt_3b067_6 rfl (lv_at hl 0 rfl) ?_
  refine lv_iload_n hx hb dJ1_charAt_3b067_7 rfl (lv_at hl 1 rfl) ?_
  refine zw_tb hx hb (zTx_t hG) va_S.rf (by omega) (by omega) ⟨by omega, by omega⟩ dJ1_charAt_3b067_8 ?_
  refine zw_sipush hx hb dJ1_charAt_3b067_9 (by decide) ?_
  refine zw_iand255 hx hb dJ1_charAt_3b067_12 (by omega) ?_
  refine zw_i2c hx hb dJ1_charAt_3b067_13 (by omega) ?_
  exact W.zret (v := zi (bf ix.toNat)) hx hb hr (zi_nc (by omega)) (fun t ht hW => ⟨zi (bf ix.toNat), rfl, rfl, ht⟩) (fun q h => by cases h) dJ1_charAt_3b067_14

set_option maxHeartbeats 4000000 in
set_option maxRecDepth 100000 in
theorem c_J0_charAt (l : Launch)  (dC : Nat → ClassId) (dI : Nat → Nat → Nat) (qx : Nat) (qv : Nat) (n9 : Nat) (bf : Nat → Int) (qy : Option Nat) (ix : Int) (hp0 : 0 ≤ ix ∧ ix < (n9 : Int) ∧ n9 ≤ 100) (hp1 : ∀ j : Nat, 0 ≤ bf j ∧ bf j ≤ 127) : Met l yJ0_charAt_5068e wsJ0_charAt_5068e ({ frames := 3, cells := 0, slots := 0, locals := 64 }) (zPrF (dC, dI) [] [.ref qx, .int (zi ix)] [] (zTx qx qv n9 bf qy)) (vp_Si (fun r => r = zi (bf ix.toNat))) 0 0 zN := by
  refine Met.ofW (cc := cJ0_charAt_5068e) (maxL := 2) (ret := (some .char)) (by decide) rfl ?_
  intro p e s m args below meth c s₁ B hml hv
  obtain ⟨rfl, hP, hK, hG⟩ := hv
  have hx := B.exec
  have hb := B.bytes
  have hr := B.returns
  have hts := atoms_spec (ws := wsJ0_charAt_5068e) B.pre
  have hown : s.vm.findClass RJ0 = some m.cls := findClass_of_methodNamed B.named
  have hlocks := B.notSynchronized
  have hl := lv_entry ([.ref qx, .int (zi ix)]) (n := 2) (Nat.le_of_ble_eq_true rfl)
  rw [lg_entry_eq]
  generalize (lg_sl ([.ref qx, .int (zi ix)]) ++ List.replicate (2 - (lg_sl ([.ref qx, .int (zi ix)])).length) Slot.unset).toArray = ls at hl ⊢
  have hl : lv_has ls 2 [(0, .ref qx), (1, .int (zi ix))] := hl
  have hbb := hp1 ix.toNat
  refine lv_aload_n hx hb dJ0_charAt_5068e_0 rfl (lv_at hl 0 rfl) ?_
  have hh1 := c_J0_isLatin1 l dC dI qx qv n9 bf qy 
  have hPc := hP.sub (ws' := []) [] rfl
  have hKc : va_K (dC, dI) vwCl [] s := hK
  refine vp_callSi (va_Run.run (va_runV (As := []) (rest := []) ⟨hx, hb, hml, hown, hts⟩ hh1 (cwV 0 hts gJ0_charAt_5068e_J0_isLatin1_aae02 rfl rfl rfl (by decide +kernel) ⟨Nat.le_of_ble_eq_true rfl, Nat.le_of_ble_eq_true rfl⟩) ⟨zPrF.blind _ _ _ _ zTx_ok, zTx_r hG va_S.rf, fun U hU hW => ⟨rfl, by rw [hU]; exact hPc, va_K.moved hW.alike hKc, zF.call zTx_ok hG va_S.rf (fun _ h => h.elim) hU hW⟩⟩ rfl rfl hl.1 rfl (lv_room (Nat.le_of_ble_eq_true rfl)) dJ0_charAt_5068e_1 ⟨Nat.le_of_ble_eq_true rfl, Nat.le_of_ble_eq_true rfl⟩)) (fun r1 (hr1 : r1 = zi 1) => ?_)
  subst hr1
  refine zw_if_eq (tgt := 16) hx hb dJ0_charAt_5068e_4 (by decide) ⟨by omega, by omega⟩ (fun h2 => ?_) (fun h2 => ?_)
  · skip
    exact absurd True.intro (by omega)
  · skip
    refine lv_aload_n hx hb dJ0_charAt_5068e_7 rfl (lv_at hl 0 rfl) ?_
    refine vk_getf (o := "java/lang/String") hx hb (zTx_v hG) va_S.rf hown (hts (.fieldLink RJ0 9 "java/lang/String" "value" "[B") (by decide +kernel)) (fun _ h9 => h9) dJ0_charAt_5068e_8 ?_
    refine lv_iload_n hx hb dJ0_charAt_5068e_11 rfl (lv_at hl 1 rfl) ?_
    have hh3 := c_J1_charAt l dC dI qx qv n9 bf qy ix (by omega) (by exact hp1)
    have hPc := hP.sub (ws' := []) [] rfl
    have hKc : va_K (dC, dI) vwCl [] s := hK
    refine vp_callSi (va_Run.run (va_runS (As := [.ref qv, .int (zi ix)]) (rest := []) ⟨hx, hb, hml, hown, hts⟩ hh3 (va_cwS 2 hts gJ0_charAt_5068e_J1_charAt_3b067 rfl rfl rfl (by decide +kernel) ⟨Nat.le_of_ble_eq_true rfl, Nat.le_of_ble_eq_true rfl⟩) ⟨zPrF.blind _ _ _ _ zTx_ok, fun U hU hW => ⟨rfl, by rw [hU]; exact hPc, va_K.moved hW.alike hKc, zF.call zTx_ok hG va_S.rf (fun _ h => h.elim) hU hW⟩⟩ rfl rfl hl.1 rfl (lv_room (Nat.le_of_ble_eq_true rfl)) dJ0_charAt_5068e_12 ⟨Nat.le_of_ble_eq_true rfl, Nat.le_of_ble_eq_true rfl⟩)) (fun r3 (hr3 : r3 = zi (bf ix.toNat)) => ?_)
    subst hr3
    exact W.zret (v := zi (bf ix.toNat)) hx hb hr (zi_nc (by omega)) (fun t ht hW => ⟨zi (bf ix.toNat), rfl, rfl, ht⟩) (fun q h => by cases h) dJ0_charAt_5068e_15

set_option maxHeartbeats 4000000 in
set_option maxRecDepth 100000 in
theorem c_X1_fitting (l : Launch)  (dC : Nat → ClassId) (dI : Nat → Nat → Nat) (cI : ClassId) (h0 : Nat) (qc : Nat) (le : Int) (cf : Nat → Int) (qx : Nat) (qv : Nat) (n9 : Nat) (bf : Nat → Int) (qy : Option Nat) (hp0 : 0 ≤ le ∧ le ≤ 20 ∧ n9 ≤ 100) (hp1 : ∀ j : Nat, 0 ≤ bf j ∧ bf j ≤ 127) (hp2 : ∀ j : Nat, 0 ≤ cf j ∧ cf j ≤ 126) : Met l yX1_fitting wsX1_fitting ({ frames := 4, cells := 0, slots := 0, locals := 85 }) (zPrF (dC, dI) [(cI, .int)] [.ref h0, .ref qx] [(h0, .inr (1, [.ref qc, .int (zi le)])), (qc, aI cI 20 cf)] (zTx qx qv n9 bf qy)) (vp_Si (fun r => r = zi (zpf (pX1 cf bf) (min le ((n9 : Nat) : Int)).toNat 0))) 0 0 zN := by
  refine Met.ofW (cc := cX1_fitting) (maxL := 4) (ret := (some .int)) (by decide) rfl ?_
  intro p e s m args below meth c s₁ B hml hv
  obtain ⟨rfl, hP, hK, hG⟩ := hv
  have hx := B.exec
  have hb := B.bytes
  have hr := B.returns
  have hts := atoms_spec (ws := wsX1_fitting) B.pre
  have hown : s.vm.findClass RX1 = some m.cls := findClass_of_methodNamed B.named
  have hlocks := B.notSynchronized
  have loop14 : ∀ (fu : Nat) (kk : Int), (0 ≤ kk ∧ kk ≤ (min le ((n9 : Nat) : Int))) → (zpf (pX1 cf bf) ((min le ((n9 : Nat) : Int)) - kk).toNat kk.toNat = zpf (pX1 cf bf) (min le ((n9 : Nat) : Int)).toNat 0) → ((min le ((n9 : Nat) : Int)) - kk < fu) → ∀ (ls : Array Slot), lv_has ls 4 [(3, .int (zi kk)), (0, .ref h0), (1, .ref qx), (2, .int (zi (min le ((n9 : Nat) : Int))))] → W p l e (headSpec wsX1_fitting ({ frames := 4, cells := 0, slots := 0, locals := 85 })).room s m ([.ref h0, .ref qx] : List Value).toArray below meth c s.heap [] 0 0 (MQ below (vp_Si (fun r => r = zi (zpf (pX1 cf bf) (min le ((n9 : Nat) : Int)).toNat 0))) ([.ref h0, .ref qx] : List Value).toArray s 0 0 zN) (F0 m 14 ls []) := by
    intro fu
    induction fu with
    | zero =>
      intro kk hi0 hi1 hfu ls hl
      exact absurd hfu (by omega)
    | succ fu ih =>
      intro kk hi0 hi1 hfu ls hl
      have hBB := hp1
      first | have hcb := hp2 kk.toNat | skip
      first | have hbb := hp1 kk.toNat | skip
      refine lv_iload_n hx hb dX1_fitting_14 rfl (lv_at hl 0 rfl) ?_
      refine lv_iload_n hx hb dX1_fitting_15 rfl (lv_at hl 3 rfl) ?_
      refine zw_icmp_ge (tgt := 41) hx hb dX1_fitting_16 (by decide) ⟨by omega, by omega⟩ ⟨by omega, by omega⟩ (fun h1 => ?_) (fun h1 => ?_)
      · skip
        first | have hen := zpf_end (pX1 cf bf) (min le ((n9 : Nat) : Int)) kk (by omega) | skip
        refine lv_iload_n hx hb dX1_fitting_41 rfl (lv_at hl 0 rfl) ?_
        exact W.iret (v := zi kk) hx hb hr (fun t ht hW => ⟨zi kk, rfl, congrArg zi (by omega), ht⟩) (fun q h => by cases h) dX1_fitting_42
      · skip
        have hst := zpf_step (pX1 cf bf) (min le ((n9 : Nat) : Int)) kk (by omega)
        have hpe := pX1_e cf bf kk.toNat
        refine lv_aload_n hx hb dX1_fitting_19 rfl (lv_at hl 1 rfl) ?_
        refine lv_iload_n hx hb dX1_fitting_20 rfl (lv_at hl 0 rfl) ?_
        have hh2 := c_X1_at l dC dI cI h0 qc le cf kk (by omega)
        have hPc := hP.sub (ws' := [(h0, .inr (1, [.ref qc, .int (zi le)])), (qc, aI cI 20 cf)]) [0, 1] rfl
        have hKc : va_K (dC, dI) vwCl [(cI, .int)] s := hK
        refine vp_callSi (va_Run.run (va_runV (As := [.int (zi kk)]) (rest := []) ⟨hx, hb, hml, hown, hts⟩ hh2 (cwV 1 hts gX1_fitting_X1_at rfl rfl rfl (by decide +kernel) ⟨Nat.le_of_ble_eq_true rfl, Nat.le_of_ble_eq_true rfl⟩) ⟨zPr.blind _ _ _ _, va_recv hKc hPc (ci := 1) (q0 := 0) rfl rfl, fun U hU hW => ⟨rfl, by rw [hU]; exact hPc, va_K.moved hW.alike hKc⟩⟩ rfl rfl hl.1 rfl (lv_room (Nat.le_of_ble_eq_true rfl)) dX1_fitting_21 ⟨Nat.le_of_ble_eq_true rfl, Nat.le_of_ble_eq_true rfl⟩)) (fun r2 (hr2 : r2 = zi (cf kk.toNat)) => ?_)
        subst hr2
        refine lv_aload_n hx hb dX1_fitting_24 rfl (lv_at hl 2 rfl) ?_
        refine lv_iload_n hx hb dX1_fitting_25 rfl (lv_at hl 0 rfl) ?_
        have hh3 := c_J0_charAt l dC dI qx qv n9 bf qy kk (by omega) (by first | exact hBB | exact hp1)
        have hPc := hP.sub (ws' := []) [] rfl
        have hKc : va_K (dC, dI) vwCl [] s := hK.sub (tys' := []) [] rfl
        refine vp_callSi (va_Run.run (va_runV (As := [.int (zi kk)]) (rest := [.int (zi (cf kk.toNat))]) ⟨hx, hb, hml, hown, hts⟩ hh3 (cwV 1 hts gX1_fitting_J0_charAt_5068e rfl rfl rfl (by decide +kernel) ⟨Nat.le_of_ble_eq_true rfl, Nat.le_of_ble_eq_true rfl⟩) ⟨zPrF.blind _ _ _ _ zTx_ok, zTx_r hG va_S.rf, fun U hU hW => ⟨rfl, by rw [hU]; exact hPc, va_K.moved hW.alike hKc, zF.call zTx_ok hG va_S.rf (fun _ h => h.elim) hU hW⟩⟩ rfl rfl hl.1 rfl (lv_room (Nat.le_of_ble_eq_true rfl)) dX1_fitting_26 ⟨Nat.le_of_ble_eq_true rfl, Nat.le_of_ble_eq_true rfl⟩)) (fun r3 (hr3 : r3 = zi (bf kk.toNat)) => ?_)
        subst hr3
        have hh4 := c_X1_fits l (cf kk.toNat) (bf kk.toNat) (by omega) (by omega)
        refine vp_callSi (va_Run.run (va_runS (As := [.int (zi (cf kk.toNat)), .int (zi (bf kk.toNat))]) (rest := []) ⟨hx, hb, hml, hown, hts⟩ hh4 (va_cwS 2 hts gX1_fitting_X1_fits rfl rfl rfl (by decide +kernel) ⟨Nat.le_of_ble_eq_true rfl, Nat.le_of_ble_eq_true rfl⟩) ⟨fun a U g mk q => q, fun U hU hW => ⟨rfl, trivial⟩⟩ rfl rfl hl.1 rfl (lv_room (Nat.le_of_ble_eq_true rfl)) dX1_fitting_29 ⟨Nat.zero_le _, Nat.zero_le _⟩)) (fun r4 (hr4 : r4 = zi (f_X1_fits (cf kk.toNat) (bf kk.toNat))) => ?_)
        subst hr4
        have hf4 := b_X1_fits (cf kk.toNat) (bf kk.toNat) (by omega) (by omega)
        refine zw_if_eq (tgt := 41) hx hb dX1_fitting_32 (by decide) ⟨by omega, by omega⟩ (fun h5 => ?_) (fun h5 => ?_)
        · skip
          first | have hen := zpf_end (pX1 cf bf) (min le ((n9 : Nat) : Int)) kk (by omega) | skip
          refine lv_iload_n hx hb dX1_fitting_41 rfl (lv_at hl 0 rfl) ?_
          exact W.iret (v := zi kk) hx hb hr (fun t ht hW => ⟨zi kk, rfl, congrArg zi (by omega), ht⟩) (fun q h => by cases h) dX1_fitting_42
        · skip
          obtain ⟨x6, ex6⟩ : ∃ z : Int, z = kk + 1 := ⟨_, rfl⟩
          refine zw_iinc (lv' := [(3, .int (zi x6)), (0, .ref h0), (1, .ref qx), (2, .int (zi (min le ((n9 : Nat) : Int))))]) (k := 0) hx hb ex6 dX1_fitting_35 hl rfl (by decide) rfl (fun ls hl => ?_)
          refine lv_goto (tgt := 14) hx hb dX1_fitting_38 (by decide) ?_
          have hBB := hp1
          first | have hcb := hp2 kk.toNat | skip
          first | have hbb := hp1 kk.toNat | skip
          subst ex6
          exact ih (kk + 1) (by omega) (by first | omega | simp) (by omega) ls (lv_sub hl [0, 1, 2, 3] rfl)
  have hl := lv_entry ([.ref h0, .ref qx]) (n := 4) (Nat.le_of_ble_eq_true rfl)
  rw [lg_entry_eq]
  generalize (lg_sl ([.ref h0, .ref qx]) ++ List.replicate (4 - (lg_sl ([.ref h0, .ref qx])).length) Slot.unset).toArray = ls at hl ⊢
  have hl : lv_has ls 4 [(0, .ref h0), (1, .ref qx)] := hl
  refine lv_aload_n hx hb dX1_fitting_0 rfl (lv_at hl 0 rfl) ?_
  refine va_get (D := (dC, dI)) (ci := 1) (v := .int (zi le)) (C := RX1) (T := TX1) (N := 2) hx hb hts (by decide +kernel) hown hK hP 0 rfl rfl 1 (by decide) (hts (.fieldLink RX1 15 "CivilDays$Line" "length" "I") (by decide +kernel)) (fun _ h9 => h9) rfl dX1_fitting_1 ?_
  refine lv_aload_n hx hb dX1_fitting_4 rfl (lv_at hl 1 rfl) ?_
  have hh7 := c_J0_length l dC dI qx qv n9 bf qy (by omega)
  have hPc := hP.sub (ws' := []) [] rfl
  have hKc : va_K (dC, dI) vwCl [] s := hK.sub (tys' := []) [] rfl
  refine vp_callSi (va_Run.run (va_runV (As := []) (rest := [.int (zi le)]) ⟨hx, hb, hml, hown, hts⟩ hh7 (cwV 0 hts gX1_fitting_J0_length_8abf5 rfl rfl rfl (by decide +kernel) ⟨Nat.le_of_ble_eq_true rfl, Nat.le_of_ble_eq_true rfl⟩) ⟨zPrF.blind _ _ _ _ zTx_ok, zTx_r hG va_S.rf, fun U hU hW => ⟨rfl, by rw [hU]; exact hPc, va_K.moved hW.alike hKc, zF.call zTx_ok hG va_S.rf (fun _ h => h.elim) hU hW⟩⟩ rfl rfl hl.1 rfl (lv_room (Nat.le_of_ble_eq_true rfl)) dX1_fitting_5 ⟨Nat.le_of_ble_eq_true rfl, Nat.le_of_ble_eq_true rfl⟩)) (fun r7 (hr7 : r7 = zi ((n9 : Nat) : Int)) => ?_)
  subst hr7
  refine zw_min hx hb (hml.trans hl.1.symm) hown (hts (.methodLink RX1 28 Lib.Math.min.name) (by decide +kernel)) (hts (.static Lib.Math.min.name) (by decide +kernel)) (hts (.initialized "java/lang/Math") (by decide +kernel)) (hts _ (by decide +kernel)) (Nat.le_of_ble_eq_true rfl) (Nat.le_of_ble_eq_true rfl) (Nat.le_of_ble_eq_true rfl) (Nat.le_of_ble_eq_true rfl) dX1_fitting_8 ⟨by omega, by omega⟩ ⟨by omega, by omega⟩ ?_
  refine zw_top (fun x8 ex8 => ?_)
  refine lv_istore_n (lv' := [(2, .int (zi x8)), (0, .ref h0), (1, .ref qx)]) hx hb dX1_fitting_11 rfl hl (by decide) rfl (fun ls hl => ?_)
  refine zw_iconst hx hb dX1_fitting_12 ?_
  refine lv_istore_n (lv' := [(3, .int (zi 0)), (2, .int (zi x8)), (0, .ref h0), (1, .ref qx)]) hx hb dX1_fitting_13 rfl hl (by decide) rfl (fun ls hl => ?_)
  have hBB := hp1
  first | have hcb := hp2 kk.toNat | skip
  first | have hbb := hp1 kk.toNat | skip
  subst ex8
  exact loop14 (101) 0 (by omega) (by first | omega | simp) (by omega) ls (lv_sub hl [0, 2, 3, 1] rfl)

set_option maxHeartbeats 4000000 in
set_option maxRecDepth 100000 in
theorem c_X4_patternOf_0 (l : Launch)  (dC : Nat → ClassId) (dI : Nat → Nat → Nat) (x0 : Nat) (v0 : Nat) (x1 : Nat) (v1 : Nat) (x2 : Nat) (v2 : Nat) (qy : Option Nat)  : Met l yX4_patternOf wsX4_patternOf ({ frames := 0, cells := 0, slots := 0, locals := 0 }) (zPrF (dC, dI) [] [.int (zi 0)] [] (zP3 x0 v0 x1 v1 x2 v2 qy)) (va_Sq (fun r => r = (some x0))) 0 0 zN := by
  refine Met.ofW (cc := cX4_patternOf) (maxL := 1) (ret := (some (.object "java/lang/String"))) (by decide) rfl ?_
  intro p e s m args below meth c s₁ B hml hv
  obtain ⟨rfl, hP, hK, hG⟩ := hv
  have hx := B.exec
  have hb := B.bytes
  have hr := B.returns
  have hts := atoms_spec (ws := wsX4_patternOf) B.pre
  have hown : s.vm.findClass RX4 = some m.cls := findClass_of_methodNamed B.named
  have hlocks := B.notSynchronized
  have hl := lv_entry ([.int (zi 0)]) (n := 1) (Nat.le_of_ble_eq_true rfl)
  rw [lg_entry_eq]
  generalize (lg_sl ([.int (zi 0)]) ++ List.replicate (1 - (lg_sl ([.int (zi 0)])).length) Slot.unset).toArray = ls at hl ⊢
  have hl : lv_has ls 1 [(0, .int (zi 0))] := hl
  refine lv_iload_n hx hb dX4_patternOf_0 rfl (lv_at hl 0 rfl) ?_
  refine zw_lookup (tgt := 28) (off := 27) hx hb dX4_patternOf_1 ⟨by omega, by omega⟩ (by decide) (by decide) (by decide) ?_
  refine zw_ldcwS hx hb hown (zP3_278 hG) dX4_patternOf_28 ?_
  exact W.aret (v := va_rf (some x0)) hx hb hr (Or.inl ⟨_, rfl⟩) (va_rf_or _) (fun t ht hW => ⟨some x0, rfl, rfl, ht⟩) (fun q h => by cases h) dX4_patternOf_31

set_option maxHeartbeats 4000000 in
set_option maxRecDepth 100000 in
theorem c_X4_patternOf_1 (l : Launch)  (dC : Nat → ClassId) (dI : Nat → Nat → Nat) (x0 : Nat) (v0 : Nat) (x1 : Nat) (v1 : Nat) (x2 : Nat) (v2 : Nat) (qy : Option Nat)  : Met l yX4_patternOf wsX4_patternOf ({ frames := 0, cells := 0, slots := 0, locals := 0 }) (zPrF (dC, dI) [] [.int (zi 1)] [] (zP3 x0 v0 x1 v1 x2 v2 qy)) (va_Sq (fun r => r = (some x1))) 0 0 zN := by
  refine Met.ofW (cc := cX4_patternOf) (maxL := 1) (ret := (some (.object "java/lang/String"))) (by decide) rfl ?_
  intro p e s m args below meth c s₁ B hml hv
  obtain ⟨rfl, hP, hK, hG⟩ := hv
  have hx := B.exec
  have hb := B.bytes
  have hr := B.returns
  have hts := atoms_spec (ws := wsX4_patternOf) B.pre
  have hown : s.vm.findClass RX4 = some m.cls := findClass_of_methodNamed B.named
  have hlocks := B.notSynchronized
  have hl := lv_entry ([.int (zi 1)]) (n := 1) (Nat.le_of_ble_eq_true rfl)
  rw [lg_entry_eq]
  generalize (lg_sl ([.int (zi 1)]) ++ List.replicate (1 - (lg_sl ([.int (zi 1)])).length) Slot.unset).toArray = ls at hl ⊢
  have hl : lv_has ls 1 [(0, .int (zi 1))] := hl
  refine lv_iload_n hx hb dX4_patternOf_0 rfl (lv_at hl 0 rfl) ?_
  refine zw_lookup (tgt := 32) (off := 31) hx hb dX4_patternOf_1 ⟨by omega, by omega⟩ (by decide) (by decide) (by decide) ?_
  refine zw_ldcwS hx hb hown (zP3_280 hG) dX4_patternOf_32 ?_
  exact W.aret (v := va_rf (some x1)) hx hb hr (Or.inl ⟨_, rfl⟩) (va_rf_or _) (fun t ht hW => ⟨some x1, rfl, rfl, ht⟩) (fun q h => by cases h) dX4_patternOf_35

set_option maxHeartbeats 4000000 in
set_option maxRecDepth 100000 in
theorem c_X4_patternOf_2 (l : Launch)  (dC : Nat → ClassId) (dI : Nat → Nat → Nat) (x0 : Nat) (v0 : Nat) (x1 : Nat) (v1 : Nat) (x2 : Nat) (v2 : Nat) (qy : Option Nat)  : Met l yX4_patternOf wsX4_patternOf ({ frames := 0, cells := 0, slots := 0, locals := 0 }) (zPrF (dC, dI) [] [.int (zi 2)] [] (zP3 x0 v0 x1 v1 x2 v2 qy)) (va_Sq (fun r => r = (some x2))) 0 0 zN := by
  refine Met.ofW (cc := cX4_patternOf) (maxL := 1) (ret := (some (.object "java/lang/String"))) (by decide) rfl ?_
  intro p e s m args below meth c s₁ B hml hv
  obtain ⟨rfl, hP, hK, hG⟩ := hv
  have hx := B.exec
  have hb := B.bytes
  have hr := B.returns
  have hts := atoms_spec (ws := wsX4_patternOf) B.pre
  have hown : s.vm.findClass RX4 = some m.cls := findClass_of_methodNamed B.named
  have hlocks := B.notSynchronized
  have hl := lv_entry ([.int (zi 2)]) (n := 1) (Nat.le_of_ble_eq_true rfl)
  rw [lg_entry_eq]
  generalize (lg_sl ([.int (zi 2)]) ++ List.replicate (1 - (lg_sl ([.int (zi 2)])).length) Slot.unset).toArray = ls at hl ⊢
  have hl : lv_has ls 1 [(0, .int (zi 2))] := hl
  refine lv_iload_n hx hb dX4_patternOf_0 rfl (lv_at hl 0 rfl) ?_
  refine zw_lookup (tgt := 36) (off := 35) hx hb dX4_patternOf_1 ⟨by omega, by omega⟩ (by decide) (by decide) (by decide) ?_
  refine zw_ldcwS hx hb hown (zP3_282 hG) dX4_patternOf_36 ?_
  exact W.aret (v := va_rf (some x2)) hx hb hr (Or.inl ⟨_, rfl⟩) (va_rf_or _) (fun t ht hW => ⟨some x2, rfl, rfl, ht⟩) (fun q h => by cases h) dX4_patternOf_39

set_option maxHeartbeats 4000000 in
set_option maxRecDepth 100000 in
theorem c_X4_typedText (l : Launch)  (dC : Nat → ClassId) (dI : Nat → Nat → Nat) (cI : ClassId) (h0 : Nat) (qs : Nat) (qr : Nat) (qm : Nat) (qw : Nat) (qt : Nat) (we : Int) (tc : Nat) (tl : Int) (tf : Nat → Int) (x0 : Nat) (v0 : Nat) (x1 : Nat) (v1 : Nat) (x2 : Nat) (v2 : Nat) (qy : Option Nat) (hp0 : 0 ≤ tl ∧ tl ≤ 20) (hp1 : ∀ j : Nat, 0 ≤ tf j ∧ tf j ≤ 126) : Met l yX4_typedText wsX4_typedText ({ frames := 5, cells := 0, slots := 0, locals := 108 }) (zPrF (dC, dI) [(cI, .int)] [.ref h0] [(h0, .inr (4, [.ref qs, .ref qr, .ref qm, .ref qw, .ref qt, .int (zi we)])), (qt, .inr (1, [.ref tc, .int (zi tl)])), (tc, aI cI 20 tf)] (zP3 x0 v0 x1 v1 x2 v2 qy)) (vp_Si (fun r => r = zi (f_X4_typedText tf tl))) 0 0 zN := by
  refine Met.ofW (cc := cX4_typedText) (maxL := 5) (ret := (some .int)) (by decide) rfl ?_
  intro p e s m args below meth c s₁ B hml hv
  obtain ⟨rfl, hP, hK, hG⟩ := hv
  have hx := B.exec
  have hb := B.bytes
  have hr := B.returns
  have hts := atoms_spec (ws := wsX4_typedText) B.pre
  have hown : s.vm.findClass RX4 = some m.cls := findClass_of_methodNamed B.named
  have hlocks := B.notSynchronized
  have hl := lv_entry ([.ref h0]) (n := 5) (Nat.le_of_ble_eq_true rfl)
  rw [lg_entry_eq]
  generalize (lg_sl ([.ref h0]) ++ List.replicate (5 - (lg_sl ([.ref h0])).length) Slot.unset).toArray = ls at hl ⊢
  have hl : lv_has ls 5 [(0, .ref h0)] := hl
  have hz0 := zpf_b (pX1 tf pat0) (min tl ((10 : Nat) : Int)).toNat 0
  have hz1 := zpf_b (pX1 tf pat1) (min tl ((10 : Nat) : Int)).toNat 0
  have hz2 := zpf_b (pX1 tf pat2) (min tl ((8 : Nat) : Int)).toNat 0
  refine zw_iconst hx hb dX4_typedText_0 ?_
  refine lv_istore_n (lv' := [(1, .int (zi 0)), (0, .ref h0)]) hx hb dX4_typedText_1 rfl hl (by decide) rfl (fun ls hl => ?_)
  refine zw_iconst hx hb dX4_typedText_2 ?_
  refine lv_istore_n (lv' := [(2, .int (zi 0)), (1, .int (zi 0)), (0, .ref h0)]) hx hb dX4_typedText_3 rfl hl (by decide) rfl (fun ls hl => ?_)
  refine lv_iload_n hx hb dX4_typedText_4 rfl (lv_at hl 0 rfl) ?_
  refine zw_iconst hx hb dX4_typedText_5 ?_
  refine zw_icmp_gt (tgt := 60) hx hb dX4_typedText_6 (by decide) ⟨by omega, by omega⟩ ⟨by omega, by omega⟩ (fun h1 => ?_) (fun h1 => ?_)
  · skip
    exact absurd True.intro (by omega)
  · skip
    refine lv_iload_n hx hb dX4_typedText_9 rfl (lv_at hl 0 rfl) ?_
    have hh2 := c_X4_patternOf_0 l dC dI x0 v0 x1 v1 x2 v2 qy 
    have hPc := hP.sub (ws' := []) [] rfl
    have hKc : va_K (dC, dI) vwCl [] s := hK.sub (tys' := []) [] rfl
    refine va_csq (va_Run.run (va_runS (As := [.int (zi 0)]) (rest := []) ⟨hx, hb, hml, hown, hts⟩ hh2 (va_cwS 1 hts gX4_typedText_X4_patternOf rfl rfl rfl (by decide +kernel) ⟨Nat.le_of_ble_eq_true rfl, Nat.le_of_ble_eq_true rfl⟩) ⟨zPrF.blind _ _ _ _ zP3_ok, fun U hU hW => ⟨rfl, by rw [hU]; exact hPc, va_K.moved hW.alike hKc, zF.call zP3_ok hG va_S.rf (fun _ h => h.elim) hU hW⟩⟩ rfl rfl hl.1 rfl (lv_room (Nat.le_of_ble_eq_true rfl)) dX4_typedText_10 ⟨Nat.le_of_ble_eq_true rfl, Nat.le_of_ble_eq_true rfl⟩)) (fun r2 (hr2 : r2 = (some x0)) => ?_)
    subst hr2
    rw [show va_rf (some x0) = Value.ref x0 from rfl]
    refine lv_astore_n (lv' := [(3, .ref x0), (2, .int (zi 0)), (1, .int (zi 0)), (0, .ref h0)]) hx hb dX4_typedText_13 rfl hl (by decide) rfl (fun ls hl => ?_)
    refine lv_aload_n hx hb dX4_typedText_14 rfl (lv_at hl 3 rfl) ?_
    refine va_get (D := (dC, dI)) (ci := 4) (v := .ref qt) (C := RX4) (T := TX4) (N := 6) hx hb hts (by decide +kernel) hown hK hP 0 rfl rfl 4 (by decide) (hts (.fieldLink RX4 34 "CivilDays" "typed" "LCivilDays$Line;") (by decide +kernel)) (fun _ h9 => h9) rfl dX4_typedText_15 ?_
    refine lv_aload_n hx hb dX4_typedText_18 rfl (lv_at hl 0 rfl) ?_
    have hh3 := c_X1_fitting l dC dI cI qt tc tl tf x0 v0 10 pat0 qy (by omega) pat0_b (by first | exact hp1 | exact hTB)
    have hPc := hP.sub (ws' := [(qt, .inr (1, [.ref tc, .int (zi tl)])), (tc, aI cI 20 tf)]) [1, 2] rfl
    have hKc : va_K (dC, dI) vwCl [(cI, .int)] s := hK
    refine vp_callSi (va_Run.run (va_runV (As := [.ref x0]) (rest := []) ⟨hx, hb, hml, hown, hts⟩ hh3 (cwV 1 hts gX4_typedText_X1_fitting rfl rfl rfl (by decide +kernel) ⟨Nat.le_of_ble_eq_true rfl, Nat.le_of_ble_eq_true rfl⟩) ⟨zPrF.blind _ _ _ _ zTx_ok, va_recv hKc hPc (ci := 1) (q0 := 0) rfl rfl, fun U hU hW => ⟨rfl, by rw [hU]; exact hPc, va_K.moved hW.alike hKc, zF.call zTx_ok (zP3_0 hG) va_S.rf (fun _ h => h.elim) hU hW⟩⟩ rfl rfl hl.1 rfl (lv_room (Nat.le_of_ble_eq_true rfl)) dX4_typedText_19 ⟨Nat.le_of_ble_eq_true rfl, Nat.le_of_ble_eq_true rfl⟩)) (fun r3 (hr3 : r3 = zi (zpf (pX1 tf pat0) (min tl ((10 : Nat) : Int)).toNat 0)) => ?_)
    subst hr3
    refine zw_top (fun x4 ex4 => ?_)
    refine lv_istore (lv' := [(4, .int (zi x4)), (3, .ref x0), (2, .int (zi 0)), (1, .int (zi 0)), (0, .ref h0)]) hx hb dX4_typedText_22 hl (by decide) rfl (fun ls hl => ?_)
    refine lv_iload hx hb dX4_typedText_24 (lv_at hl 0 rfl) ?_
    refine lv_aload_n hx hb dX4_typedText_26 rfl (lv_at hl 1 rfl) ?_
    have hh5 := c_J0_length l dC dI x0 v0 10 pat0 qy (by omega)
    have hPc := hP.sub (ws' := []) [] rfl
    have hKc : va_K (dC, dI) vwCl [] s := hK.sub (tys' := []) [] rfl
    refine vp_callSi (va_Run.run (va_runV (As := []) (rest := [.int (zi x4)]) ⟨hx, hb, hml, hown, hts⟩ hh5 (cwV 0 hts gX4_typedText_J0_length_8abf5 rfl rfl rfl (by decide +kernel) ⟨Nat.le_of_ble_eq_true rfl, Nat.le_of_ble_eq_true rfl⟩) ⟨zPrF.blind _ _ _ _ zTx_ok, zTx_r (zP3_0 hG) va_S.rf, fun U hU hW => ⟨rfl, by rw [hU]; exact hPc, va_K.moved hW.alike hKc, zF.call zTx_ok (zP3_0 hG) va_S.rf (fun _ h => h.elim) hU hW⟩⟩ rfl rfl hl.1 rfl (lv_room (Nat.le_of_ble_eq_true rfl)) dX4_typedText_27 ⟨Nat.le_of_ble_eq_true rfl, Nat.le_of_ble_eq_true rfl⟩)) (fun r5 (hr5 : r5 = zi ((10 : Nat) : Int)) => ?_)
    subst hr5
    refine zw_icmp_ne (tgt := 47) hx hb dX4_typedText_30 (by decide) ⟨by omega, by omega⟩ ⟨by omega, by omega⟩ (fun h6 => ?_) (fun h6 => ?_)
    · skip
      refine lv_iload_n hx hb dX4_typedText_47 rfl (lv_at hl 3 rfl) ?_
      refine lv_iload hx hb dX4_typedText_48 (lv_at hl 0 rfl) ?_
      refine zw_max hx hb (hml.trans hl.1.symm) hown (hts (.methodLink RX4 171 Lib.Math.max.name) (by decide +kernel)) (hts (.static Lib.Math.max.name) (by decide +kernel)) (hts (.initialized "java/lang/Math") (by decide +kernel)) (hts _ (by decide +kernel)) (Nat.le_of_ble_eq_true rfl) (Nat.le_of_ble_eq_true rfl) (Nat.le_of_ble_eq_true rfl) (Nat.le_of_ble_eq_true rfl) dX4_typedText_50 ⟨by omega, by omega⟩ ⟨by omega, by omega⟩ ?_
      refine zw_top (fun x7 ex7 => ?_)
      refine lv_istore_n (lv' := [(1, .int (zi x7)), (4, .int (zi x4)), (3, .ref x0), (2, .int (zi 0)), (0, .ref h0)]) hx hb dX4_typedText_53 rfl hl (by decide) rfl (fun ls hl => ?_)
      refine zw_iinc (z := 1) (lv' := [(2, .int (zi 1)), (1, .int (zi x7)), (4, .int (zi x4)), (3, .ref x0), (0, .ref h0)]) (k := 3) hx hb (by decide) dX4_typedText_54 hl rfl (by decide) rfl (fun ls hl => ?_)
      refine lv_goto (tgt := 4) hx hb dX4_typedText_57 (by decide) ?_
      refine lv_iload_n hx hb dX4_typedText_4 rfl (lv_at hl 0 rfl) ?_
      refine zw_iconst hx hb dX4_typedText_5 ?_
      refine zw_icmp_gt (tgt := 60) hx hb dX4_typedText_6 (by decide) ⟨by omega, by omega⟩ ⟨by omega, by omega⟩ (fun h8 => ?_) (fun h8 => ?_)
      · skip
        exact absurd True.intro (by omega)
      · skip
        refine lv_iload_n hx hb dX4_typedText_9 rfl (lv_at hl 0 rfl) ?_
        have hh9 := c_X4_patternOf_1 l dC dI x0 v0 x1 v1 x2 v2 qy 
        have hPc := hP.sub (ws' := []) [] rfl
        have hKc : va_K (dC, dI) vwCl [] s := hK.sub (tys' := []) [] rfl
        refine va_csq (va_Run.run (va_runS (As := [.int (zi 1)]) (rest := []) ⟨hx, hb, hml, hown, hts⟩ hh9 (va_cwS 1 hts gX4_typedText_X4_patternOf rfl rfl rfl (by decide +kernel) ⟨Nat.le_of_ble_eq_true rfl, Nat.le_of_ble_eq_true rfl⟩) ⟨zPrF.blind _ _ _ _ zP3_ok, fun U hU hW => ⟨rfl, by rw [hU]; exact hPc, va_K.moved hW.alike hKc, zF.call zP3_ok hG va_S.rf (fun _ h => h.elim) hU hW⟩⟩ rfl rfl hl.1 rfl (lv_room (Nat.le_of_ble_eq_true rfl)) dX4_typedText_10 ⟨Nat.le_of_ble_eq_true rfl, Nat.le_of_ble_eq_true rfl⟩)) (fun r9 (hr9 : r9 = (some x1)) => ?_)
        subst hr9
        rw [show va_rf (some x1) = Value.ref x1 from rfl]
        refine lv_astore_n (lv' := [(3, .ref x1), (2, .int (zi 1)), (1, .int (zi x7)), (4, .int (zi x4)), (0, .ref h0)]) hx hb dX4_typedText_13 rfl hl (by decide) rfl (fun ls hl => ?_)
        refine lv_aload_n hx hb dX4_typedText_14 rfl (lv_at hl 4 rfl) ?_
        refine va_get (D := (dC, dI)) (ci := 4) (v := .ref qt) (C := RX4) (T := TX4) (N := 6) hx hb hts (by decide +kernel) hown hK hP 0 rfl rfl 4 (by decide) (hts (.fieldLink RX4 34 "CivilDays" "typed" "LCivilDays$Line;") (by decide +kernel)) (fun _ h9 => h9) rfl dX4_typedText_15 ?_
        refine lv_aload_n hx hb dX4_typedText_18 rfl (lv_at hl 0 rfl) ?_
        have hh10 := c_X1_fitting l dC dI cI qt tc tl tf x1 v1 10 pat1 qy (by omega) pat1_b (by first | exact hp1 | exact hTB)
        have hPc := hP.sub (ws' := [(qt, .inr (1, [.ref tc, .int (zi tl)])), (tc, aI cI 20 tf)]) [1, 2] rfl
        have hKc : va_K (dC, dI) vwCl [(cI, .int)] s := hK
        refine vp_callSi (va_Run.run (va_runV (As := [.ref x1]) (rest := []) ⟨hx, hb, hml, hown, hts⟩ hh10 (cwV 1 hts gX4_typedText_X1_fitting rfl rfl rfl (by decide +kernel) ⟨Nat.le_of_ble_eq_true rfl, Nat.le_of_ble_eq_true rfl⟩) ⟨zPrF.blind _ _ _ _ zTx_ok, va_recv hKc hPc (ci := 1) (q0 := 0) rfl rfl, fun U hU hW => ⟨rfl, by rw [hU]; exact hPc, va_K.moved hW.alike hKc, zF.call zTx_ok (zP3_1 hG) va_S.rf (fun _ h => h.elim) hU hW⟩⟩ rfl rfl hl.1 rfl (lv_room (Nat.le_of_ble_eq_true rfl)) dX4_typedText_19 ⟨Nat.le_of_ble_eq_true rfl, Nat.le_of_ble_eq_true rfl⟩)) (fun r10 (hr10 : r10 = zi (zpf (pX1 tf pat1) (min tl ((10 : Nat) : Int)).toNat 0)) => ?_)
        subst hr10
        refine zw_top (fun x11 ex11 => ?_)
        refine lv_istore (lv' := [(4, .int (zi x11)), (3, .ref x1), (2, .int (zi 1)), (1, .int (zi x7)), (0, .ref h0)]) hx hb dX4_typedText_22 hl (by decide) rfl (fun ls hl => ?_)
        refine lv_iload hx hb dX4_typedText_24 (lv_at hl 0 rfl) ?_
        refine lv_aload_n hx hb dX4_typedText_26 rfl (lv_at hl 1 rfl) ?_
        have hh12 := c_J0_length l dC dI x1 v1 10 pat1 qy (by omega)
        have hPc := hP.sub (ws' := []) [] rfl
        have hKc : va_K (dC, dI) vwCl [] s := hK.sub (tys' := []) [] rfl
        refine vp_callSi (va_Run.run (va_runV (As := []) (rest := [.int (zi x11)]) ⟨hx, hb, hml, hown, hts⟩ hh12 (cwV 0 hts gX4_typedText_J0_length_8abf5 rfl rfl rfl (by decide +kernel) ⟨Nat.le_of_ble_eq_true rfl, Nat.le_of_ble_eq_true rfl⟩) ⟨zPrF.blind _ _ _ _ zTx_ok, zTx_r (zP3_1 hG) va_S.rf, fun U hU hW => ⟨rfl, by rw [hU]; exact hPc, va_K.moved hW.alike hKc, zF.call zTx_ok (zP3_1 hG) va_S.rf (fun _ h => h.elim) hU hW⟩⟩ rfl rfl hl.1 rfl (lv_room (Nat.le_of_ble_eq_true rfl)) dX4_typedText_27 ⟨Nat.le_of_ble_eq_true rfl, Nat.le_of_ble_eq_true rfl⟩)) (fun r12 (hr12 : r12 = zi ((10 : Nat) : Int)) => ?_)
        subst hr12
        refine zw_icmp_ne (tgt := 47) hx hb dX4_typedText_30 (by decide) ⟨by omega, by omega⟩ ⟨by omega, by omega⟩ (fun h13 => ?_) (fun h13 => ?_)
        · skip
          refine lv_iload_n hx hb dX4_typedText_47 rfl (lv_at hl 3 rfl) ?_
          refine lv_iload hx hb dX4_typedText_48 (lv_at hl 0 rfl) ?_
          refine zw_max hx hb (hml.trans hl.1.symm) hown (hts (.methodLink RX4 171 Lib.Math.max.name) (by decide +kernel)) (hts (.static Lib.Math.max.name) (by decide +kernel)) (hts (.initialized "java/lang/Math") (by decide +kernel)) (hts _ (by decide +kernel)) (Nat.le_of_ble_eq_true rfl) (Nat.le_of_ble_eq_true rfl) (Nat.le_of_ble_eq_true rfl) (Nat.le_of_ble_eq_true rfl) dX4_typedText_50 ⟨by omega, by omega⟩ ⟨by omega, by omega⟩ ?_
          refine zw_top (fun x14 ex14 => ?_)
          refine lv_istore_n (lv' := [(1, .int (zi x14)), (4, .int (zi x11)), (3, .ref x1), (2, .int (zi 1)), (0, .ref h0)]) hx hb dX4_typedText_53 rfl hl (by decide) rfl (fun ls hl => ?_)
          refine zw_iinc (z := 2) (lv' := [(2, .int (zi 2)), (1, .int (zi x14)), (4, .int (zi x11)), (3, .ref x1), (0, .ref h0)]) (k := 3) hx hb (by decide) dX4_typedText_54 hl rfl (by decide) rfl (fun ls hl => ?_)
          refine lv_goto (tgt := 4) hx hb dX4_typedText_57 (by decide) ?_
          refine lv_iload_n hx hb dX4_typedText_4 rfl (lv_at hl 0 rfl) ?_
          refine zw_iconst hx hb dX4_typedText_5 ?_
          refine zw_icmp_gt (tgt := 60) hx hb dX4_typedText_6 (by decide) ⟨by omega, by omega⟩ ⟨by omega, by omega⟩ (fun h15 => ?_) (fun h15 => ?_)
          · skip
            exact absurd True.intro (by omega)
          · skip
            refine lv_iload_n hx hb dX4_typedText_9 rfl (lv_at hl 0 rfl) ?_
            have hh16 := c_X4_patternOf_2 l dC dI x0 v0 x1 v1 x2 v2 qy 
            have hPc := hP.sub (ws' := []) [] rfl
            have hKc : va_K (dC, dI) vwCl [] s := hK.sub (tys' := []) [] rfl
            refine va_csq (va_Run.run (va_runS (As := [.int (zi 2)]) (rest := []) ⟨hx, hb, hml, hown, hts⟩ hh16 (va_cwS 1 hts gX4_typedText_X4_patternOf rfl rfl rfl (by decide +kernel) ⟨Nat.le_of_ble_eq_true rfl, Nat.le_of_ble_eq_true rfl⟩) ⟨zPrF.blind _ _ _ _ zP3_ok, fun U hU hW => ⟨rfl, by rw [hU]; exact hPc, va_K.moved hW.alike hKc, zF.call zP3_ok hG va_S.rf (fun _ h => h.elim) hU hW⟩⟩ rfl rfl hl.1 rfl (lv_room (Nat.le_of_ble_eq_true rfl)) dX4_typedText_10 ⟨Nat.le_of_ble_eq_true rfl, Nat.le_of_ble_eq_true rfl⟩)) (fun r16 (hr16 : r16 = (some x2)) => ?_)
            subst hr16
            rw [show va_rf (some x2) = Value.ref x2 from rfl]
            refine lv_astore_n (lv' := [(3, .ref x2), (2, .int (zi 2)), (1, .int (zi x14)), (4, .int (zi x11)), (0, .ref h0)]) hx hb dX4_typedText_13 rfl hl (by decide) rfl (fun ls hl => ?_)
            refine lv_aload_n hx hb dX4_typedText_14 rfl (lv_at hl 4 rfl) ?_
            refine va_get (D := (dC, dI)) (ci := 4) (v := .ref qt) (C := RX4) (T := TX4) (N := 6) hx hb hts (by decide +kernel) hown hK hP 0 rfl rfl 4 (by decide) (hts (.fieldLink RX4 34 "CivilDays" "typed" "LCivilDays$Line;") (by decide +kernel)) (fun _ h9 => h9) rfl dX4_typedText_15 ?_
            refine lv_aload_n hx hb dX4_typedText_18 rfl (lv_at hl 0 rfl) ?_
            have hh17 := c_X1_fitting l dC dI cI qt tc tl tf x2 v2 8 pat2 qy (by omega) pat2_b (by first | exact hp1 | exact hTB)
            have hPc := hP.sub (ws' := [(qt, .inr (1, [.ref tc, .int (zi tl)])), (tc, aI cI 20 tf)]) [1, 2] rfl
            have hKc : va_K (dC, dI) vwCl [(cI, .int)] s := hK
            refine vp_callSi (va_Run.run (va_runV (As := [.ref x2]) (rest := []) ⟨hx, hb, hml, hown, hts⟩ hh17 (cwV 1 hts gX4_typedText_X1_fitting rfl rfl rfl (by decide +kernel) ⟨Nat.le_of_ble_eq_true rfl, Nat.le_of_ble_eq_true rfl⟩) ⟨zPrF.blind _ _ _ _ zTx_ok, va_recv hKc hPc (ci := 1) (q0 := 0) rfl rfl, fun U hU hW => ⟨rfl, by rw [hU]; exact hPc, va_K.moved hW.alike hKc, zF.call zTx_ok (zP3_2 hG) va_S.rf (fun _ h => h.elim) hU hW⟩⟩ rfl rfl hl.1 rfl (lv_room (Nat.le_of_ble_eq_true rfl)) dX4_typedText_19 ⟨Nat.le_of_ble_eq_true rfl, Nat.le_of_ble_eq_true rfl⟩)) (fun r17 (hr17 : r17 = zi (zpf (pX1 tf pat2) (min tl ((8 : Nat) : Int)).toNat 0)) => ?_)
            subst hr17
            refine zw_top (fun x18 ex18 => ?_)
            refine lv_istore (lv' := [(4, .int (zi x18)), (3, .ref x2), (2, .int (zi 2)), (1, .int (zi x14)), (0, .ref h0)]) hx hb dX4_typedText_22 hl (by decide) rfl (fun ls hl => ?_)
            refine lv_iload hx hb dX4_typedText_24 (lv_at hl 0 rfl) ?_
            refine lv_aload_n hx hb dX4_typedText_26 rfl (lv_at hl 1 rfl) ?_
            have hh19 := c_J0_length l dC dI x2 v2 8 pat2 qy (by omega)
            have hPc := hP.sub (ws' := []) [] rfl
            have hKc : va_K (dC, dI) vwCl [] s := hK.sub (tys' := []) [] rfl
            refine vp_callSi (va_Run.run (va_runV (As := []) (rest := [.int (zi x18)]) ⟨hx, hb, hml, hown, hts⟩ hh19 (cwV 0 hts gX4_typedText_J0_length_8abf5 rfl rfl rfl (by decide +kernel) ⟨Nat.le_of_ble_eq_true rfl, Nat.le_of_ble_eq_true rfl⟩) ⟨zPrF.blind _ _ _ _ zTx_ok, zTx_r (zP3_2 hG) va_S.rf, fun U hU hW => ⟨rfl, by rw [hU]; exact hPc, va_K.moved hW.alike hKc, zF.call zTx_ok (zP3_2 hG) va_S.rf (fun _ h => h.elim) hU hW⟩⟩ rfl rfl hl.1 rfl (lv_room (Nat.le_of_ble_eq_true rfl)) dX4_typedText_27 ⟨Nat.le_of_ble_eq_true rfl, Nat.le_of_ble_eq_true rfl⟩)) (fun r19 (hr19 : r19 = zi ((8 : Nat) : Int)) => ?_)
            subst hr19
            refine zw_icmp_ne (tgt := 47) hx hb dX4_typedText_30 (by decide) ⟨by omega, by omega⟩ ⟨by omega, by omega⟩ (fun h20 => ?_) (fun h20 => ?_)
            · skip
              refine lv_iload_n hx hb dX4_typedText_47 rfl (lv_at hl 3 rfl) ?_
              refine lv_iload hx hb dX4_typedText_48 (lv_at hl 0 rfl) ?_
              refine zw_max hx hb (hml.trans hl.1.symm) hown (hts (.methodLink RX4 171 Lib.Math.max.name) (by decide +kernel)) (hts (.static Lib.Math.max.name) (by decide +kernel)) (hts (.initialized "java/lang/Math") (by decide +kernel)) (hts _ (by decide +kernel)) (Nat.le_of_ble_eq_true rfl) (Nat.le_of_ble_eq_true rfl) (Nat.le_of_ble_eq_true rfl) (Nat.le_of_ble_eq_true rfl) dX4_typedText_50 ⟨by omega, by omega⟩ ⟨by omega, by omega⟩ ?_
              refine zw_top (fun x21 ex21 => ?_)
              refine lv_istore_n (lv' := [(1, .int (zi x21)), (4, .int (zi x18)), (3, .ref x2), (2, .int (zi 2)), (0, .ref h0)]) hx hb dX4_typedText_53 rfl hl (by decide) rfl (fun ls hl => ?_)
              refine zw_iinc (z := 3) (lv' := [(2, .int (zi 3)), (1, .int (zi x21)), (4, .int (zi x18)), (3, .ref x2), (0, .ref h0)]) (k := 3) hx hb (by decide) dX4_typedText_54 hl rfl (by decide) rfl (fun ls hl => ?_)
              refine lv_goto (tgt := 4) hx hb dX4_typedText_57 (by decide) ?_
              refine lv_iload_n hx hb dX4_typedText_4 rfl (lv_at hl 0 rfl) ?_
              refine zw_iconst hx hb dX4_typedText_5 ?_
              refine zw_icmp_gt (tgt := 60) hx hb dX4_typedText_6 (by decide) ⟨by omega, by omega⟩ ⟨by omega, by omega⟩ (fun h22 => ?_) (fun h22 => ?_)
              · skip
                refine zw_iconst hx hb dX4_typedText_60 ?_
                refine lv_iload_n hx hb dX4_typedText_61 rfl (lv_at hl 1 rfl) ?_
                refine zw_isub hx hb dX4_typedText_62 ?_
                subst ex4 ex7 ex11 ex14 ex18 ex21
                exact W.iret (v := zi ((-1) - (max (max (max 0 (zpf (pX1 tf pat0) (min tl ((10 : Nat) : Int)).toNat 0)) (zpf (pX1 tf pat1) (min tl ((10 : Nat) : Int)).toNat 0)) (zpf (pX1 tf pat2) (min tl ((8 : Nat) : Int)).toNat 0)))) hx hb hr (fun t ht hW => ⟨zi ((-1) - (max (max (max 0 (zpf (pX1 tf pat0) (min tl ((10 : Nat) : Int)).toNat 0)) (zpf (pX1 tf pat1) (min tl ((10 : Nat) : Int)).toNat 0)) (zpf (pX1 tf pat2) (min tl ((8 : Nat) : Int)).toNat 0))), rfl, by rw [f_X4_typedText, if_neg h6, if_neg h13, if_neg h20], ht⟩) (fun q h => by cases h) dX4_typedText_63
              · skip
                exact absurd True.intro (by omega)
            · skip
              refine lv_iload hx hb dX4_typedText_33 (lv_at hl 0 rfl) ?_
              refine lv_aload_n hx hb dX4_typedText_35 rfl (lv_at hl 4 rfl) ?_
              refine va_get (D := (dC, dI)) (ci := 4) (v := .ref qt) (C := RX4) (T := TX4) (N := 6) hx hb hts (by decide +kernel) hown hK hP 0 rfl rfl 4 (by decide) (hts (.fieldLink RX4 34 "CivilDays" "typed" "LCivilDays$Line;") (by decide +kernel)) (fun _ h9 => h9) rfl dX4_typedText_36 ?_
              have hh23 := c_X1_size l dC dI cI qt tc tl tf 
              have hPc := hP.sub (ws' := [(qt, .inr (1, [.ref tc, .int (zi tl)])), (tc, aI cI 20 tf)]) [1, 2] rfl
              have hKc : va_K (dC, dI) vwCl [(cI, .int)] s := hK
              refine vp_callSi (va_Run.run (va_runV (As := []) (rest := [.int (zi x18)]) ⟨hx, hb, hml, hown, hts⟩ hh23 (cwV 0 hts gX4_typedText_X1_size rfl rfl rfl (by decide +kernel) ⟨Nat.le_of_ble_eq_true rfl, Nat.le_of_ble_eq_true rfl⟩) ⟨zPr.blind _ _ _ _, va_recv hKc hPc (ci := 1) (q0 := 0) rfl rfl, fun U hU hW => ⟨rfl, by rw [hU]; exact hPc, va_K.moved hW.alike hKc⟩⟩ rfl rfl hl.1 rfl (lv_room (Nat.le_of_ble_eq_true rfl)) dX4_typedText_39 ⟨Nat.le_of_ble_eq_true rfl, Nat.le_of_ble_eq_true rfl⟩)) (fun r23 (hr23 : r23 = zi tl) => ?_)
              subst hr23
              refine zw_icmp_ne (tgt := 47) hx hb dX4_typedText_42 (by decide) ⟨by omega, by omega⟩ ⟨by omega, by omega⟩ (fun h24 => ?_) (fun h24 => ?_)
              · skip
                refine lv_iload_n hx hb dX4_typedText_47 rfl (lv_at hl 3 rfl) ?_
                refine lv_iload hx hb dX4_typedText_48 (lv_at hl 0 rfl) ?_
                refine zw_max hx hb (hml.trans hl.1.symm) hown (hts (.methodLink RX4 171 Lib.Math.max.name) (by decide +kernel)) (hts (.static Lib.Math.max.name) (by decide +kernel)) (hts (.initialized "java/lang/Math") (by decide +kernel)) (hts _ (by decide +kernel)) (Nat.le_of_ble_eq_true rfl) (Nat.le_of_ble_eq_true rfl) (Nat.le_of_ble_eq_true rfl) (Nat.le_of_ble_eq_true rfl) dX4_typedText_50 ⟨by omega, by omega⟩ ⟨by omega, by omega⟩ ?_
                refine zw_top (fun x25 ex25 => ?_)
                refine lv_istore_n (lv' := [(1, .int (zi x25)), (4, .int (zi x18)), (3, .ref x2), (2, .int (zi 2)), (0, .ref h0)]) hx hb dX4_typedText_53 rfl hl (by decide) rfl (fun ls hl => ?_)
                refine zw_iinc (z := 3) (lv' := [(2, .int (zi 3)), (1, .int (zi x25)), (4, .int (zi x18)), (3, .ref x2), (0, .ref h0)]) (k := 3) hx hb (by decide) dX4_typedText_54 hl rfl (by decide) rfl (fun ls hl => ?_)
                refine lv_goto (tgt := 4) hx hb dX4_typedText_57 (by decide) ?_
                refine lv_iload_n hx hb dX4_typedText_4 rfl (lv_at hl 0 rfl) ?_
                refine zw_iconst hx hb dX4_typedText_5 ?_
                refine zw_icmp_gt (tgt := 60) hx hb dX4_typedText_6 (by decide) ⟨by omega, by omega⟩ ⟨by omega, by omega⟩ (fun h26 => ?_) (fun h26 => ?_)
                · skip
                  refine zw_iconst hx hb dX4_typedText_60 ?_
                  refine lv_iload_n hx hb dX4_typedText_61 rfl (lv_at hl 1 rfl) ?_
                  refine zw_isub hx hb dX4_typedText_62 ?_
                  subst ex4 ex7 ex11 ex14 ex18 ex25
                  exact W.iret (v := zi ((-1) - (max (max (max 0 (zpf (pX1 tf pat0) (min tl ((10 : Nat) : Int)).toNat 0)) (zpf (pX1 tf pat1) (min tl ((10 : Nat) : Int)).toNat 0)) (zpf (pX1 tf pat2) (min tl ((8 : Nat) : Int)).toNat 0)))) hx hb hr (fun t ht hW => ⟨zi ((-1) - (max (max (max 0 (zpf (pX1 tf pat0) (min tl ((10 : Nat) : Int)).toNat 0)) (zpf (pX1 tf pat1) (min tl ((10 : Nat) : Int)).toNat 0)) (zpf (pX1 tf pat2) (min tl ((8 : Nat) : Int)).toNat 0))), rfl, by rw [f_X4_typedText, if_neg h6, if_neg h13, if_pos h20, if_neg h24], ht⟩) (fun q h => by cases h) dX4_typedText_63
                · skip
                  exact absurd True.intro (by omega)
              · skip
                refine lv_iload_n hx hb dX4_typedText_45 rfl (lv_at hl 2 rfl) ?_
                subst ex4 ex7 ex11 ex14 ex18
                exact W.iret (v := zi 2) hx hb hr (fun t ht hW => ⟨zi 2, rfl, by rw [f_X4_typedText, if_neg h6, if_neg h13, if_pos h20, if_pos h24], ht⟩) (fun q h => by cases h) dX4_typedText_46
        · skip
          refine lv_iload hx hb dX4_typedText_33 (lv_at hl 0 rfl) ?_
          refine lv_aload_n hx hb dX4_typedText_35 rfl (lv_at hl 4 rfl) ?_
          refine va_get (D := (dC, dI)) (ci := 4) (v := .ref qt) (C := RX4) (T := TX4) (N := 6) hx hb hts (by decide +kernel) hown hK hP 0 rfl rfl 4 (by decide) (hts (.fieldLink RX4 34 "CivilDays" "typed" "LCivilDays$Line;") (by decide +kernel)) (fun _ h9 => h9) rfl dX4_typedText_36 ?_
          have hh27 := c_X1_size l dC dI cI qt tc tl tf 
          have hPc := hP.sub (ws' := [(qt, .inr (1, [.ref tc, .int (zi tl)])), (tc, aI cI 20 tf)]) [1, 2] rfl
          have hKc : va_K (dC, dI) vwCl [(cI, .int)] s := hK
          refine vp_callSi (va_Run.run (va_runV (As := []) (rest := [.int (zi x11)]) ⟨hx, hb, hml, hown, hts⟩ hh27 (cwV 0 hts gX4_typedText_X1_size rfl rfl rfl (by decide +kernel) ⟨Nat.le_of_ble_eq_true rfl, Nat.le_of_ble_eq_true rfl⟩) ⟨zPr.blind _ _ _ _, va_recv hKc hPc (ci := 1) (q0 := 0) rfl rfl, fun U hU hW => ⟨rfl, by rw [hU]; exact hPc, va_K.moved hW.alike hKc⟩⟩ rfl rfl hl.1 rfl (lv_room (Nat.le_of_ble_eq_true rfl)) dX4_typedText_39 ⟨Nat.le_of_ble_eq_true rfl, Nat.le_of_ble_eq_true rfl⟩)) (fun r27 (hr27 : r27 = zi tl) => ?_)
          subst hr27
          refine zw_icmp_ne (tgt := 47) hx hb dX4_typedText_42 (by decide) ⟨by omega, by omega⟩ ⟨by omega, by omega⟩ (fun h28 => ?_) (fun h28 => ?_)
          · skip
            refine lv_iload_n hx hb dX4_typedText_47 rfl (lv_at hl 3 rfl) ?_
            refine lv_iload hx hb dX4_typedText_48 (lv_at hl 0 rfl) ?_
            refine zw_max hx hb (hml.trans hl.1.symm) hown (hts (.methodLink RX4 171 Lib.Math.max.name) (by decide +kernel)) (hts (.static Lib.Math.max.name) (by decide +kernel)) (hts (.initialized "java/lang/Math") (by decide +kernel)) (hts _ (by decide +kernel)) (Nat.le_of_ble_eq_true rfl) (Nat.le_of_ble_eq_true rfl) (Nat.le_of_ble_eq_true rfl) (Nat.le_of_ble_eq_true rfl) dX4_typedText_50 ⟨by omega, by omega⟩ ⟨by omega, by omega⟩ ?_
            refine zw_top (fun x29 ex29 => ?_)
            refine lv_istore_n (lv' := [(1, .int (zi x29)), (4, .int (zi x11)), (3, .ref x1), (2, .int (zi 1)), (0, .ref h0)]) hx hb dX4_typedText_53 rfl hl (by decide) rfl (fun ls hl => ?_)
            refine zw_iinc (z := 2) (lv' := [(2, .int (zi 2)), (1, .int (zi x29)), (4, .int (zi x11)), (3, .ref x1), (0, .ref h0)]) (k := 3) hx hb (by decide) dX4_typedText_54 hl rfl (by decide) rfl (fun ls hl => ?_)
            refine lv_goto (tgt := 4) hx hb dX4_typedText_57 (by decide) ?_
            refine lv_iload_n hx hb dX4_typedText_4 rfl (lv_at hl 0 rfl) ?_
            refine zw_iconst hx hb dX4_typedText_5 ?_
            refine zw_icmp_gt (tgt := 60) hx hb dX4_typedText_6 (by decide) ⟨by omega, by omega⟩ ⟨by omega, by omega⟩ (fun h30 => ?_) (fun h30 => ?_)
            · skip
              exact absurd True.intro (by omega)
            · skip
              refine lv_iload_n hx hb dX4_typedText_9 rfl (lv_at hl 0 rfl) ?_
              have hh31 := c_X4_patternOf_2 l dC dI x0 v0 x1 v1 x2 v2 qy 
              have hPc := hP.sub (ws' := []) [] rfl
              have hKc : va_K (dC, dI) vwCl [] s := hK.sub (tys' := []) [] rfl
              refine va_csq (va_Run.run (va_runS (As := [.int (zi 2)]) (rest := []) ⟨hx, hb, hml, hown, hts⟩ hh31 (va_cwS 1 hts gX4_typedText_X4_patternOf rfl rfl rfl (by decide +kernel) ⟨Nat.le_of_ble_eq_true rfl, Nat.le_of_ble_eq_true rfl⟩) ⟨zPrF.blind _ _ _ _ zP3_ok, fun U hU hW => ⟨rfl, by rw [hU]; exact hPc, va_K.moved hW.alike hKc, zF.call zP3_ok hG va_S.rf (fun _ h => h.elim) hU hW⟩⟩ rfl rfl hl.1 rfl (lv_room (Nat.le_of_ble_eq_true rfl)) dX4_typedText_10 ⟨Nat.le_of_ble_eq_true rfl, Nat.le_of_ble_eq_true rfl⟩)) (fun r31 (hr31 : r31 = (some x2)) => ?_)
              subst hr31
              rw [show va_rf (some x2) = Value.ref x2 from rfl]
              refine lv_astore_n (lv' := [(3, .ref x2), (2, .int (zi 2)), (1, .int (zi x29)), (4, .int (zi x11)), (0, .ref h0)]) hx hb dX4_typedText_13 rfl hl (by decide) rfl (fun ls hl => ?_)
              refine lv_aload_n hx hb dX4_typedText_14 rfl (lv_at hl 4 rfl) ?_
              refine va_get (D := (dC, dI)) (ci := 4) (v := .ref qt) (C := RX4) (T := TX4) (N := 6) hx hb hts (by decide +kernel) hown hK hP 0 rfl rfl 4 (by decide) (hts (.fieldLink RX4 34 "CivilDays" "typed" "LCivilDays$Line;") (by decide +kernel)) (fun _ h9 => h9) rfl dX4_typedText_15 ?_
              refine lv_aload_n hx hb dX4_typedText_18 rfl (lv_at hl 0 rfl) ?_
              have hh32 := c_X1_fitting l dC dI cI qt tc tl tf x2 v2 8 pat2 qy (by omega) pat2_b (by first | exact hp1 | exact hTB)
              have hPc := hP.sub (ws' := [(qt, .inr (1, [.ref tc, .int (zi tl)])), (tc, aI cI 20 tf)]) [1, 2] rfl
              have hKc : va_K (dC, dI) vwCl [(cI, .int)] s := hK
              refine vp_callSi (va_Run.run (va_runV (As := [.ref x2]) (rest := []) ⟨hx, hb, hml, hown, hts⟩ hh32 (cwV 1 hts gX4_typedText_X1_fitting rfl rfl rfl (by decide +kernel) ⟨Nat.le_of_ble_eq_true rfl, Nat.le_of_ble_eq_true rfl⟩) ⟨zPrF.blind _ _ _ _ zTx_ok, va_recv hKc hPc (ci := 1) (q0 := 0) rfl rfl, fun U hU hW => ⟨rfl, by rw [hU]; exact hPc, va_K.moved hW.alike hKc, zF.call zTx_ok (zP3_2 hG) va_S.rf (fun _ h => h.elim) hU hW⟩⟩ rfl rfl hl.1 rfl (lv_room (Nat.le_of_ble_eq_true rfl)) dX4_typedText_19 ⟨Nat.le_of_ble_eq_true rfl, Nat.le_of_ble_eq_true rfl⟩)) (fun r32 (hr32 : r32 = zi (zpf (pX1 tf pat2) (min tl ((8 : Nat) : Int)).toNat 0)) => ?_)
              subst hr32
              refine zw_top (fun x33 ex33 => ?_)
              refine lv_istore (lv' := [(4, .int (zi x33)), (3, .ref x2), (2, .int (zi 2)), (1, .int (zi x29)), (0, .ref h0)]) hx hb dX4_typedText_22 hl (by decide) rfl (fun ls hl => ?_)
              refine lv_iload hx hb dX4_typedText_24 (lv_at hl 0 rfl) ?_
              refine lv_aload_n hx hb dX4_typedText_26 rfl (lv_at hl 1 rfl) ?_
              have hh34 := c_J0_length l dC dI x2 v2 8 pat2 qy (by omega)
              have hPc := hP.sub (ws' := []) [] rfl
              have hKc : va_K (dC, dI) vwCl [] s := hK.sub (tys' := []) [] rfl
              refine vp_callSi (va_Run.run (va_runV (As := []) (rest := [.int (zi x33)]) ⟨hx, hb, hml, hown, hts⟩ hh34 (cwV 0 hts gX4_typedText_J0_length_8abf5 rfl rfl rfl (by decide +kernel) ⟨Nat.le_of_ble_eq_true rfl, Nat.le_of_ble_eq_true rfl⟩) ⟨zPrF.blind _ _ _ _ zTx_ok, zTx_r (zP3_2 hG) va_S.rf, fun U hU hW => ⟨rfl, by rw [hU]; exact hPc, va_K.moved hW.alike hKc, zF.call zTx_ok (zP3_2 hG) va_S.rf (fun _ h => h.elim) hU hW⟩⟩ rfl rfl hl.1 rfl (lv_room (Nat.le_of_ble_eq_true rfl)) dX4_typedText_27 ⟨Nat.le_of_ble_eq_true rfl, Nat.le_of_ble_eq_true rfl⟩)) (fun r34 (hr34 : r34 = zi ((8 : Nat) : Int)) => ?_)
              subst hr34
              refine zw_icmp_ne (tgt := 47) hx hb dX4_typedText_30 (by decide) ⟨by omega, by omega⟩ ⟨by omega, by omega⟩ (fun h35 => ?_) (fun h35 => ?_)
              · skip
                refine lv_iload_n hx hb dX4_typedText_47 rfl (lv_at hl 3 rfl) ?_
                refine lv_iload hx hb dX4_typedText_48 (lv_at hl 0 rfl) ?_
                refine zw_max hx hb (hml.trans hl.1.symm) hown (hts (.methodLink RX4 171 Lib.Math.max.name) (by decide +kernel)) (hts (.static Lib.Math.max.name) (by decide +kernel)) (hts (.initialized "java/lang/Math") (by decide +kernel)) (hts _ (by decide +kernel)) (Nat.le_of_ble_eq_true rfl) (Nat.le_of_ble_eq_true rfl) (Nat.le_of_ble_eq_true rfl) (Nat.le_of_ble_eq_true rfl) dX4_typedText_50 ⟨by omega, by omega⟩ ⟨by omega, by omega⟩ ?_
                refine zw_top (fun x36 ex36 => ?_)
                refine lv_istore_n (lv' := [(1, .int (zi x36)), (4, .int (zi x33)), (3, .ref x2), (2, .int (zi 2)), (0, .ref h0)]) hx hb dX4_typedText_53 rfl hl (by decide) rfl (fun ls hl => ?_)
                refine zw_iinc (z := 3) (lv' := [(2, .int (zi 3)), (1, .int (zi x36)), (4, .int (zi x33)), (3, .ref x2), (0, .ref h0)]) (k := 3) hx hb (by decide) dX4_typedText_54 hl rfl (by decide) rfl (fun ls hl => ?_)
                refine lv_goto (tgt := 4) hx hb dX4_typedText_57 (by decide) ?_
                refine lv_iload_n hx hb dX4_typedText_4 rfl (lv_at hl 0 rfl) ?_
                refine zw_iconst hx hb dX4_typedText_5 ?_
                refine zw_icmp_gt (tgt := 60) hx hb dX4_typedText_6 (by decide) ⟨by omega, by omega⟩ ⟨by omega, by omega⟩ (fun h37 => ?_) (fun h37 => ?_)
                · skip
                  refine zw_iconst hx hb dX4_typedText_60 ?_
                  refine lv_iload_n hx hb dX4_typedText_61 rfl (lv_at hl 1 rfl) ?_
                  refine zw_isub hx hb dX4_typedText_62 ?_
                  subst ex4 ex7 ex11 ex29 ex33 ex36
                  exact W.iret (v := zi ((-1) - (max (max (max 0 (zpf (pX1 tf pat0) (min tl ((10 : Nat) : Int)).toNat 0)) (zpf (pX1 tf pat1) (min tl ((10 : Nat) : Int)).toNat 0)) (zpf (pX1 tf pat2) (min tl ((8 : Nat) : Int)).toNat 0)))) hx hb hr (fun t ht hW => ⟨zi ((-1) - (max (max (max 0 (zpf (pX1 tf pat0) (min tl ((10 : Nat) : Int)).toNat 0)) (zpf (pX1 tf pat1) (min tl ((10 : Nat) : Int)).toNat 0)) (zpf (pX1 tf pat2) (min tl ((8 : Nat) : Int)).toNat 0))), rfl, by rw [f_X4_typedText, if_neg h6, if_pos h13, if_neg h28, if_neg h35], ht⟩) (fun q h => by cases h) dX4_typedText_63
                · skip
                  exact absurd True.intro (by omega)
              · skip
                refine lv_iload hx hb dX4_typedText_33 (lv_at hl 0 rfl) ?_
                refine lv_aload_n hx hb dX4_typedText_35 rfl (lv_at hl 4 rfl) ?_
                refine va_get (D := (dC, dI)) (ci := 4) (v := .ref qt) (C := RX4) (T := TX4) (N := 6) hx hb hts (by decide +kernel) hown hK hP 0 rfl rfl 4 (by decide) (hts (.fieldLink RX4 34 "CivilDays" "typed" "LCivilDays$Line;") (by decide +kernel)) (fun _ h9 => h9) rfl dX4_typedText_36 ?_
                have hh38 := c_X1_size l dC dI cI qt tc tl tf 
                have hPc := hP.sub (ws' := [(qt, .inr (1, [.ref tc, .int (zi tl)])), (tc, aI cI 20 tf)]) [1, 2] rfl
                have hKc : va_K (dC, dI) vwCl [(cI, .int)] s := hK
                refine vp_callSi (va_Run.run (va_runV (As := []) (rest := [.int (zi x33)]) ⟨hx, hb, hml, hown, hts⟩ hh38 (cwV 0 hts gX4_typedText_X1_size rfl rfl rfl (by decide +kernel) ⟨Nat.le_of_ble_eq_true rfl, Nat.le_of_ble_eq_true rfl⟩) ⟨zPr.blind _ _ _ _, va_recv hKc hPc (ci := 1) (q0 := 0) rfl rfl, fun U hU hW => ⟨rfl, by rw [hU]; exact hPc, va_K.moved hW.alike hKc⟩⟩ rfl rfl hl.1 rfl (lv_room (Nat.le_of_ble_eq_true rfl)) dX4_typedText_39 ⟨Nat.le_of_ble_eq_true rfl, Nat.le_of_ble_eq_true rfl⟩)) (fun r38 (hr38 : r38 = zi tl) => ?_)
                subst hr38
                refine zw_icmp_ne (tgt := 47) hx hb dX4_typedText_42 (by decide) ⟨by omega, by omega⟩ ⟨by omega, by omega⟩ (fun h39 => ?_) (fun h39 => ?_)
                · skip
                  refine lv_iload_n hx hb dX4_typedText_47 rfl (lv_at hl 3 rfl) ?_
                  refine lv_iload hx hb dX4_typedText_48 (lv_at hl 0 rfl) ?_
                  refine zw_max hx hb (hml.trans hl.1.symm) hown (hts (.methodLink RX4 171 Lib.Math.max.name) (by decide +kernel)) (hts (.static Lib.Math.max.name) (by decide +kernel)) (hts (.initialized "java/lang/Math") (by decide +kernel)) (hts _ (by decide +kernel)) (Nat.le_of_ble_eq_true rfl) (Nat.le_of_ble_eq_true rfl) (Nat.le_of_ble_eq_true rfl) (Nat.le_of_ble_eq_true rfl) dX4_typedText_50 ⟨by omega, by omega⟩ ⟨by omega, by omega⟩ ?_
                  refine zw_top (fun x40 ex40 => ?_)
                  refine lv_istore_n (lv' := [(1, .int (zi x40)), (4, .int (zi x33)), (3, .ref x2), (2, .int (zi 2)), (0, .ref h0)]) hx hb dX4_typedText_53 rfl hl (by decide) rfl (fun ls hl => ?_)
                  refine zw_iinc (z := 3) (lv' := [(2, .int (zi 3)), (1, .int (zi x40)), (4, .int (zi x33)), (3, .ref x2), (0, .ref h0)]) (k := 3) hx hb (by decide) dX4_typedText_54 hl rfl (by decide) rfl (fun ls hl => ?_)
                  refine lv_goto (tgt := 4) hx hb dX4_typedText_57 (by decide) ?_
                  refine lv_iload_n hx hb dX4_typedText_4 rfl (lv_at hl 0 rfl) ?_
                  refine zw_iconst hx hb dX4_typedText_5 ?_
                  refine zw_icmp_gt (tgt := 60) hx hb dX4_typedText_6 (by decide) ⟨by omega, by omega⟩ ⟨by omega, by omega⟩ (fun h41 => ?_) (fun h41 => ?_)
                  · skip
                    refine zw_iconst hx hb dX4_typedText_60 ?_
                    refine lv_iload_n hx hb dX4_typedText_61 rfl (lv_at hl 1 rfl) ?_
                    refine zw_isub hx hb dX4_typedText_62 ?_
                    subst ex4 ex7 ex11 ex29 ex33 ex40
                    exact W.iret (v := zi ((-1) - (max (max (max 0 (zpf (pX1 tf pat0) (min tl ((10 : Nat) : Int)).toNat 0)) (zpf (pX1 tf pat1) (min tl ((10 : Nat) : Int)).toNat 0)) (zpf (pX1 tf pat2) (min tl ((8 : Nat) : Int)).toNat 0)))) hx hb hr (fun t ht hW => ⟨zi ((-1) - (max (max (max 0 (zpf (pX1 tf pat0) (min tl ((10 : Nat) : Int)).toNat 0)) (zpf (pX1 tf pat1) (min tl ((10 : Nat) : Int)).toNat 0)) (zpf (pX1 tf pat2) (min tl ((8 : Nat) : Int)).toNat 0))), rfl, by rw [f_X4_typedText, if_neg h6, if_pos h13, if_neg h28, if_pos h35, if_neg h39], ht⟩) (fun q h => by cases h) dX4_typedText_63
                  · skip
                    exact absurd True.intro (by omega)
                · skip
                  refine lv_iload_n hx hb dX4_typedText_45 rfl (lv_at hl 2 rfl) ?_
                  subst ex4 ex7 ex11 ex29 ex33
                  exact W.iret (v := zi 2) hx hb hr (fun t ht hW => ⟨zi 2, rfl, by rw [f_X4_typedText, if_neg h6, if_pos h13, if_neg h28, if_pos h35, if_pos h39], ht⟩) (fun q h => by cases h) dX4_typedText_46
          · skip
            refine lv_iload_n hx hb dX4_typedText_45 rfl (lv_at hl 2 rfl) ?_
            subst ex4 ex7 ex11
            exact W.iret (v := zi 1) hx hb hr (fun t ht hW => ⟨zi 1, rfl, by rw [f_X4_typedText, if_neg h6, if_pos h13, if_pos h28], ht⟩) (fun q h => by cases h) dX4_typedText_46
    · skip
      refine lv_iload hx hb dX4_typedText_33 (lv_at hl 0 rfl) ?_
      refine lv_aload_n hx hb dX4_typedText_35 rfl (lv_at hl 4 rfl) ?_
      refine va_get (D := (dC, dI)) (ci := 4) (v := .ref qt) (C := RX4) (T := TX4) (N := 6) hx hb hts (by decide +kernel) hown hK hP 0 rfl rfl 4 (by decide) (hts (.fieldLink RX4 34 "CivilDays" "typed" "LCivilDays$Line;") (by decide +kernel)) (fun _ h9 => h9) rfl dX4_typedText_36 ?_
      have hh42 := c_X1_size l dC dI cI qt tc tl tf 
      have hPc := hP.sub (ws' := [(qt, .inr (1, [.ref tc, .int (zi tl)])), (tc, aI cI 20 tf)]) [1, 2] rfl
      have hKc : va_K (dC, dI) vwCl [(cI, .int)] s := hK
      refine vp_callSi (va_Run.run (va_runV (As := []) (rest := [.int (zi x4)]) ⟨hx, hb, hml, hown, hts⟩ hh42 (cwV 0 hts gX4_typedText_X1_size rfl rfl rfl (by decide +kernel) ⟨Nat.le_of_ble_eq_true rfl, Nat.le_of_ble_eq_true rfl⟩) ⟨zPr.blind _ _ _ _, va_recv hKc hPc (ci := 1) (q0 := 0) rfl rfl, fun U hU hW => ⟨rfl, by rw [hU]; exact hPc, va_K.moved hW.alike hKc⟩⟩ rfl rfl hl.1 rfl (lv_room (Nat.le_of_ble_eq_true rfl)) dX4_typedText_39 ⟨Nat.le_of_ble_eq_true rfl, Nat.le_of_ble_eq_true rfl⟩)) (fun r42 (hr42 : r42 = zi tl) => ?_)
      subst hr42
      refine zw_icmp_ne (tgt := 47) hx hb dX4_typedText_42 (by decide) ⟨by omega, by omega⟩ ⟨by omega, by omega⟩ (fun h43 => ?_) (fun h43 => ?_)
      · skip
        refine lv_iload_n hx hb dX4_typedText_47 rfl (lv_at hl 3 rfl) ?_
        refine lv_iload hx hb dX4_typedText_48 (lv_at hl 0 rfl) ?_
        refine zw_max hx hb (hml.trans hl.1.symm) hown (hts (.methodLink RX4 171 Lib.Math.max.name) (by decide +kernel)) (hts (.static Lib.Math.max.name) (by decide +kernel)) (hts (.initialized "java/lang/Math") (by decide +kernel)) (hts _ (by decide +kernel)) (Nat.le_of_ble_eq_true rfl) (Nat.le_of_ble_eq_true rfl) (Nat.le_of_ble_eq_true rfl) (Nat.le_of_ble_eq_true rfl) dX4_typedText_50 ⟨by omega, by omega⟩ ⟨by omega, by omega⟩ ?_
        refine zw_top (fun x44 ex44 => ?_)
        refine lv_istore_n (lv' := [(1, .int (zi x44)), (4, .int (zi x4)), (3, .ref x0), (2, .int (zi 0)), (0, .ref h0)]) hx hb dX4_typedText_53 rfl hl (by decide) rfl (fun ls hl => ?_)
        refine zw_iinc (z := 1) (lv' := [(2, .int (zi 1)), (1, .int (zi x44)), (4, .int (zi x4)), (3, .ref x0), (0, .ref h0)]) (k := 3) hx hb (by decide) dX4_typedText_54 hl rfl (by decide) rfl (fun ls hl => ?_)
        refine lv_goto (tgt := 4) hx hb dX4_typedText_57 (by decide) ?_
        refine lv_iload_n hx hb dX4_typedText_4 rfl (lv_at hl 0 rfl) ?_
        refine zw_iconst hx hb dX4_typedText_5 ?_
        refine zw_icmp_gt (tgt := 60) hx hb dX4_typedText_6 (by decide) ⟨by omega, by omega⟩ ⟨by omega, by omega⟩ (fun h45 => ?_) (fun h45 => ?_)
        · skip
          exact absurd True.intro (by omega)
        · skip
          refine lv_iload_n hx hb dX4_typedText_9 rfl (lv_at hl 0 rfl) ?_
          have hh46 := c_X4_patternOf_1 l dC dI x0 v0 x1 v1 x2 v2 qy 
          have hPc := hP.sub (ws' := []) [] rfl
          have hKc : va_K (dC, dI) vwCl [] s := hK.sub (tys' := []) [] rfl
          refine va_csq (va_Run.run (va_runS (As := [.int (zi 1)]) (rest := []) ⟨hx, hb, hml, hown, hts⟩ hh46 (va_cwS 1 hts gX4_typedText_X4_patternOf rfl rfl rfl (by decide +kernel) ⟨Nat.le_of_ble_eq_true rfl, Nat.le_of_ble_eq_true rfl⟩) ⟨zPrF.blind _ _ _ _ zP3_ok, fun U hU hW => ⟨rfl, by rw [hU]; exact hPc, va_K.moved hW.alike hKc, zF.call zP3_ok hG va_S.rf (fun _ h => h.elim) hU hW⟩⟩ rfl rfl hl.1 rfl (lv_room (Nat.le_of_ble_eq_true rfl)) dX4_typedText_10 ⟨Nat.le_of_ble_eq_true rfl, Nat.le_of_ble_eq_true rfl⟩)) (fun r46 (hr46 : r46 = (some x1)) => ?_)
          subst hr46
          rw [show va_rf (some x1) = Value.ref x1 from rfl]
          refine lv_astore_n (lv' := [(3, .ref x1), (2, .int (zi 1)), (1, .int (zi x44)), (4, .int (zi x4)), (0, .ref h0)]) hx hb dX4_typedText_13 rfl hl (by decide) rfl (fun ls hl => ?_)
          refine lv_aload_n hx hb dX4_typedText_14 rfl (lv_at hl 4 rfl) ?_
          refine va_get (D := (dC, dI)) (ci := 4) (v := .ref qt) (C := RX4) (T := TX4) (N := 6) hx hb hts (by decide +kernel) hown hK hP 0 rfl rfl 4 (by decide) (hts (.fieldLink RX4 34 "CivilDays" "typed" "LCivilDays$Line;") (by decide +kernel)) (fun _ h9 => h9) rfl dX4_typedText_15 ?_
          refine lv_aload_n hx hb dX4_typedText_18 rfl (lv_at hl 0 rfl) ?_
          have hh47 := c_X1_fitting l dC dI cI qt tc tl tf x1 v1 10 pat1 qy (by omega) pat1_b (by first | exact hp1 | exact hTB)
          have hPc := hP.sub (ws' := [(qt, .inr (1, [.ref tc, .int (zi tl)])), (tc, aI cI 20 tf)]) [1, 2] rfl
          have hKc : va_K (dC, dI) vwCl [(cI, .int)] s := hK
          refine vp_callSi (va_Run.run (va_runV (As := [.ref x1]) (rest := []) ⟨hx, hb, hml, hown, hts⟩ hh47 (cwV 1 hts gX4_typedText_X1_fitting rfl rfl rfl (by decide +kernel) ⟨Nat.le_of_ble_eq_true rfl, Nat.le_of_ble_eq_true rfl⟩) ⟨zPrF.blind _ _ _ _ zTx_ok, va_recv hKc hPc (ci := 1) (q0 := 0) rfl rfl, fun U hU hW => ⟨rfl, by rw [hU]; exact hPc, va_K.moved hW.alike hKc, zF.call zTx_ok (zP3_1 hG) va_S.rf (fun _ h => h.elim) hU hW⟩⟩ rfl rfl hl.1 rfl (lv_room (Nat.le_of_ble_eq_true rfl)) dX4_typedText_19 ⟨Nat.le_of_ble_eq_true rfl, Nat.le_of_ble_eq_true rfl⟩)) (fun r47 (hr47 : r47 = zi (zpf (pX1 tf pat1) (min tl ((10 : Nat) : Int)).toNat 0)) => ?_)
          subst hr47
          refine zw_top (fun x48 ex48 => ?_)
          refine lv_istore (lv' := [(4, .int (zi x48)), (3, .ref x1), (2, .int (zi 1)), (1, .int (zi x44)), (0, .ref h0)]) hx hb dX4_typedText_22 hl (by decide) rfl (fun ls hl => ?_)
          refine lv_iload hx hb dX4_typedText_24 (lv_at hl 0 rfl) ?_
          refine lv_aload_n hx hb dX4_typedText_26 rfl (lv_at hl 1 rfl) ?_
          have hh49 := c_J0_length l dC dI x1 v1 10 pat1 qy (by omega)
          have hPc := hP.sub (ws' := []) [] rfl
          have hKc : va_K (dC, dI) vwCl [] s := hK.sub (tys' := []) [] rfl
          refine vp_callSi (va_Run.run (va_runV (As := []) (rest := [.int (zi x48)]) ⟨hx, hb, hml, hown, hts⟩ hh49 (cwV 0 hts gX4_typedText_J0_length_8abf5 rfl rfl rfl (by decide +kernel) ⟨Nat.le_of_ble_eq_true rfl, Nat.le_of_ble_eq_true rfl⟩) ⟨zPrF.blind _ _ _ _ zTx_ok, zTx_r (zP3_1 hG) va_S.rf, fun U hU hW => ⟨rfl, by rw [hU]; exact hPc, va_K.moved hW.alike hKc, zF.call zTx_ok (zP3_1 hG) va_S.rf (fun _ h => h.elim) hU hW⟩⟩ rfl rfl hl.1 rfl (lv_room (Nat.le_of_ble_eq_true rfl)) dX4_typedText_27 ⟨Nat.le_of_ble_eq_true rfl, Nat.le_of_ble_eq_true rfl⟩)) (fun r49 (hr49 : r49 = zi ((10 : Nat) : Int)) => ?_)
          subst hr49
          refine zw_icmp_ne (tgt := 47) hx hb dX4_typedText_30 (by decide) ⟨by omega, by omega⟩ ⟨by omega, by omega⟩ (fun h50 => ?_) (fun h50 => ?_)
          · skip
            refine lv_iload_n hx hb dX4_typedText_47 rfl (lv_at hl 3 rfl) ?_
            refine lv_iload hx hb dX4_typedText_48 (lv_at hl 0 rfl) ?_
            refine zw_max hx hb (hml.trans hl.1.symm) hown (hts (.methodLink RX4 171 Lib.Math.max.name) (by decide +kernel)) (hts (.static Lib.Math.max.name) (by decide +kernel)) (hts (.initialized "java/lang/Math") (by decide +kernel)) (hts _ (by decide +kernel)) (Nat.le_of_ble_eq_true rfl) (Nat.le_of_ble_eq_true rfl) (Nat.le_of_ble_eq_true rfl) (Nat.le_of_ble_eq_true rfl) dX4_typedText_50 ⟨by omega, by omega⟩ ⟨by omega, by omega⟩ ?_
            refine zw_top (fun x51 ex51 => ?_)
            refine lv_istore_n (lv' := [(1, .int (zi x51)), (4, .int (zi x48)), (3, .ref x1), (2, .int (zi 1)), (0, .ref h0)]) hx hb dX4_typedText_53 rfl hl (by decide) rfl (fun ls hl => ?_)
            refine zw_iinc (z := 2) (lv' := [(2, .int (zi 2)), (1, .int (zi x51)), (4, .int (zi x48)), (3, .ref x1), (0, .ref h0)]) (k := 3) hx hb (by decide) dX4_typedText_54 hl rfl (by decide) rfl (fun ls hl => ?_)
            refine lv_goto (tgt := 4) hx hb dX4_typedText_57 (by decide) ?_
            refine lv_iload_n hx hb dX4_typedText_4 rfl (lv_at hl 0 rfl) ?_
            refine zw_iconst hx hb dX4_typedText_5 ?_
            refine zw_icmp_gt (tgt := 60) hx hb dX4_typedText_6 (by decide) ⟨by omega, by omega⟩ ⟨by omega, by omega⟩ (fun h52 => ?_) (fun h52 => ?_)
            · skip
              exact absurd True.intro (by omega)
            · skip
              refine lv_iload_n hx hb dX4_typedText_9 rfl (lv_at hl 0 rfl) ?_
              have hh53 := c_X4_patternOf_2 l dC dI x0 v0 x1 v1 x2 v2 qy 
              have hPc := hP.sub (ws' := []) [] rfl
              have hKc : va_K (dC, dI) vwCl [] s := hK.sub (tys' := []) [] rfl
              refine va_csq (va_Run.run (va_runS (As := [.int (zi 2)]) (rest := []) ⟨hx, hb, hml, hown, hts⟩ hh53 (va_cwS 1 hts gX4_typedText_X4_patternOf rfl rfl rfl (by decide +kernel) ⟨Nat.le_of_ble_eq_true rfl, Nat.le_of_ble_eq_true rfl⟩) ⟨zPrF.blind _ _ _ _ zP3_ok, fun U hU hW => ⟨rfl, by rw [hU]; exact hPc, va_K.moved hW.alike hKc, zF.call zP3_ok hG va_S.rf (fun _ h => h.elim) hU hW⟩⟩ rfl rfl hl.1 rfl (lv_room (Nat.le_of_ble_eq_true rfl)) dX4_typedText_10 ⟨Nat.le_of_ble_eq_true rfl, Nat.le_of_ble_eq_true rfl⟩)) (fun r53 (hr53 : r53 = (some x2)) => ?_)
              subst hr53
              rw [show va_rf (some x2) = Value.ref x2 from rfl]
              refine lv_astore_n (lv' := [(3, .ref x2), (2, .int (zi 2)), (1, .int (zi x51)), (4, .int (zi x48)), (0, .ref h0)]) hx hb dX4_typedText_13 rfl hl (by decide) rfl (fun ls hl => ?_)
              refine lv_aload_n hx hb dX4_typedText_14 rfl (lv_at hl 4 rfl) ?_
              refine va_get (D := (dC, dI)) (ci := 4) (v := .ref qt) (C := RX4) (T := TX4) (N := 6) hx hb hts (by decide +kernel) hown hK hP 0 rfl rfl 4 (by decide) (hts (.fieldLink RX4 34 "CivilDays" "typed" "LCivilDays$Line;") (by decide +kernel)) (fun _ h9 => h9) rfl dX4_typedText_15 ?_
              refine lv_aload_n hx hb dX4_typedText_18 rfl (lv_at hl 0 rfl) ?_
              have hh54 := c_X1_fitting l dC dI cI qt tc tl tf x2 v2 8 pat2 qy (by omega) pat2_b (by first | exact hp1 | exact hTB)
              have hPc := hP.sub (ws' := [(qt, .inr (1, [.ref tc, .int (zi tl)])), (tc, aI cI 20 tf)]) [1, 2] rfl
              have hKc : va_K (dC, dI) vwCl [(cI, .int)] s := hK
              refine vp_callSi (va_Run.run (va_runV (As := [.ref x2]) (rest := []) ⟨hx, hb, hml, hown, hts⟩ hh54 (cwV 1 hts gX4_typedText_X1_fitting rfl rfl rfl (by decide +kernel) ⟨Nat.le_of_ble_eq_true rfl, Nat.le_of_ble_eq_true rfl⟩) ⟨zPrF.blind _ _ _ _ zTx_ok, va_recv hKc hPc (ci := 1) (q0 := 0) rfl rfl, fun U hU hW => ⟨rfl, by rw [hU]; exact hPc, va_K.moved hW.alike hKc, zF.call zTx_ok (zP3_2 hG) va_S.rf (fun _ h => h.elim) hU hW⟩⟩ rfl rfl hl.1 rfl (lv_room (Nat.le_of_ble_eq_true rfl)) dX4_typedText_19 ⟨Nat.le_of_ble_eq_true rfl, Nat.le_of_ble_eq_true rfl⟩)) (fun r54 (hr54 : r54 = zi (zpf (pX1 tf pat2) (min tl ((8 : Nat) : Int)).toNat 0)) => ?_)
              subst hr54
              refine zw_top (fun x55 ex55 => ?_)
              refine lv_istore (lv' := [(4, .int (zi x55)), (3, .ref x2), (2, .int (zi 2)), (1, .int (zi x51)), (0, .ref h0)]) hx hb dX4_typedText_22 hl (by decide) rfl (fun ls hl => ?_)
              refine lv_iload hx hb dX4_typedText_24 (lv_at hl 0 rfl) ?_
              refine lv_aload_n hx hb dX4_typedText_26 rfl (lv_at hl 1 rfl) ?_
              have hh56 := c_J0_length l dC dI x2 v2 8 pat2 qy (by omega)
              have hPc := hP.sub (ws' := []) [] rfl
              have hKc : va_K (dC, dI) vwCl [] s := hK.sub (tys' := []) [] rfl
              refine vp_callSi (va_Run.run (va_runV (As := []) (rest := [.int (zi x55)]) ⟨hx, hb, hml, hown, hts⟩ hh56 (cwV 0 hts gX4_typedText_J0_length_8abf5 rfl rfl rfl (by decide +kernel) ⟨Nat.le_of_ble_eq_true rfl, Nat.le_of_ble_eq_true rfl⟩) ⟨zPrF.blind _ _ _ _ zTx_ok, zTx_r (zP3_2 hG) va_S.rf, fun U hU hW => ⟨rfl, by rw [hU]; exact hPc, va_K.moved hW.alike hKc, zF.call zTx_ok (zP3_2 hG) va_S.rf (fun _ h => h.elim) hU hW⟩⟩ rfl rfl hl.1 rfl (lv_room (Nat.le_of_ble_eq_true rfl)) dX4_typedText_27 ⟨Nat.le_of_ble_eq_true rfl, Nat.le_of_ble_eq_true rfl⟩)) (fun r56 (hr56 : r56 = zi ((8 : Nat) : Int)) => ?_)
              subst hr56
              refine zw_icmp_ne (tgt := 47) hx hb dX4_typedText_30 (by decide) ⟨by omega, by omega⟩ ⟨by omega, by omega⟩ (fun h57 => ?_) (fun h57 => ?_)
              · skip
                refine lv_iload_n hx hb dX4_typedText_47 rfl (lv_at hl 3 rfl) ?_
                refine lv_iload hx hb dX4_typedText_48 (lv_at hl 0 rfl) ?_
                refine zw_max hx hb (hml.trans hl.1.symm) hown (hts (.methodLink RX4 171 Lib.Math.max.name) (by decide +kernel)) (hts (.static Lib.Math.max.name) (by decide +kernel)) (hts (.initialized "java/lang/Math") (by decide +kernel)) (hts _ (by decide +kernel)) (Nat.le_of_ble_eq_true rfl) (Nat.le_of_ble_eq_true rfl) (Nat.le_of_ble_eq_true rfl) (Nat.le_of_ble_eq_true rfl) dX4_typedText_50 ⟨by omega, by omega⟩ ⟨by omega, by omega⟩ ?_
                refine zw_top (fun x58 ex58 => ?_)
                refine lv_istore_n (lv' := [(1, .int (zi x58)), (4, .int (zi x55)), (3, .ref x2), (2, .int (zi 2)), (0, .ref h0)]) hx hb dX4_typedText_53 rfl hl (by decide) rfl (fun ls hl => ?_)
                refine zw_iinc (z := 3) (lv' := [(2, .int (zi 3)), (1, .int (zi x58)), (4, .int (zi x55)), (3, .ref x2), (0, .ref h0)]) (k := 3) hx hb (by decide) dX4_typedText_54 hl rfl (by decide) rfl (fun ls hl => ?_)
                refine lv_goto (tgt := 4) hx hb dX4_typedText_57 (by decide) ?_
                refine lv_iload_n hx hb dX4_typedText_4 rfl (lv_at hl 0 rfl) ?_
                refine zw_iconst hx hb dX4_typedText_5 ?_
                refine zw_icmp_gt (tgt := 60) hx hb dX4_typedText_6 (by decide) ⟨by omega, by omega⟩ ⟨by omega, by omega⟩ (fun h59 => ?_) (fun h59 => ?_)
                · skip
                  refine zw_iconst hx hb dX4_typedText_60 ?_
                  refine lv_iload_n hx hb dX4_typedText_61 rfl (lv_at hl 1 rfl) ?_
                  refine zw_isub hx hb dX4_typedText_62 ?_
                  subst ex4 ex44 ex48 ex51 ex55 ex58
                  exact W.iret (v := zi ((-1) - (max (max (max 0 (zpf (pX1 tf pat0) (min tl ((10 : Nat) : Int)).toNat 0)) (zpf (pX1 tf pat1) (min tl ((10 : Nat) : Int)).toNat 0)) (zpf (pX1 tf pat2) (min tl ((8 : Nat) : Int)).toNat 0)))) hx hb hr (fun t ht hW => ⟨zi ((-1) - (max (max (max 0 (zpf (pX1 tf pat0) (min tl ((10 : Nat) : Int)).toNat 0)) (zpf (pX1 tf pat1) (min tl ((10 : Nat) : Int)).toNat 0)) (zpf (pX1 tf pat2) (min tl ((8 : Nat) : Int)).toNat 0))), rfl, by rw [f_X4_typedText, if_pos h6, if_neg h43, if_neg h50, if_neg h57], ht⟩) (fun q h => by cases h) dX4_typedText_63
                · skip
                  exact absurd True.intro (by omega)
              · skip
                refine lv_iload hx hb dX4_typedText_33 (lv_at hl 0 rfl) ?_
                refine lv_aload_n hx hb dX4_typedText_35 rfl (lv_at hl 4 rfl) ?_
                refine va_get (D := (dC, dI)) (ci := 4) (v := .ref qt) (C := RX4) (T := TX4) (N := 6) hx hb hts (by decide +kernel) hown hK hP 0 rfl rfl 4 (by decide) (hts (.fieldLink RX4 34 "CivilDays" "typed" "LCivilDays$Line;") (by decide +kernel)) (fun _ h9 => h9) rfl dX4_typedText_36 ?_
                have hh60 := c_X1_size l dC dI cI qt tc tl tf 
                have hPc := hP.sub (ws' := [(qt, .inr (1, [.ref tc, .int (zi tl)])), (tc, aI cI 20 tf)]) [1, 2] rfl
                have hKc : va_K (dC, dI) vwCl [(cI, .int)] s := hK
                refine vp_callSi (va_Run.run (va_runV (As := []) (rest := [.int (zi x55)]) ⟨hx, hb, hml, hown, hts⟩ hh60 (cwV 0 hts gX4_typedText_X1_size rfl rfl rfl (by decide +kernel) ⟨Nat.le_of_ble_eq_true rfl, Nat.le_of_ble_eq_true rfl⟩) ⟨zPr.blind _ _ _ _, va_recv hKc hPc (ci := 1) (q0 := 0) rfl rfl, fun U hU hW => ⟨rfl, by rw [hU]; exact hPc, va_K.moved hW.alike hKc⟩⟩ rfl rfl hl.1 rfl (lv_room (Nat.le_of_ble_eq_true rfl)) dX4_typedText_39 ⟨Nat.le_of_ble_eq_true rfl, Nat.le_of_ble_eq_true rfl⟩)) (fun r60 (hr60 : r60 = zi tl) => ?_)
                subst hr60
                refine zw_icmp_ne (tgt := 47) hx hb dX4_typedText_42 (by decide) ⟨by omega, by omega⟩ ⟨by omega, by omega⟩ (fun h61 => ?_) (fun h61 => ?_)
                · skip
                  refine lv_iload_n hx hb dX4_typedText_47 rfl (lv_at hl 3 rfl) ?_
                  refine lv_iload hx hb dX4_typedText_48 (lv_at hl 0 rfl) ?_
                  refine zw_max hx hb (hml.trans hl.1.symm) hown (hts (.methodLink RX4 171 Lib.Math.max.name) (by decide +kernel)) (hts (.static Lib.Math.max.name) (by decide +kernel)) (hts (.initialized "java/lang/Math") (by decide +kernel)) (hts _ (by decide +kernel)) (Nat.le_of_ble_eq_true rfl) (Nat.le_of_ble_eq_true rfl) (Nat.le_of_ble_eq_true rfl) (Nat.le_of_ble_eq_true rfl) dX4_typedText_50 ⟨by omega, by omega⟩ ⟨by omega, by omega⟩ ?_
                  refine zw_top (fun x62 ex62 => ?_)
                  refine lv_istore_n (lv' := [(1, .int (zi x62)), (4, .int (zi x55)), (3, .ref x2), (2, .int (zi 2)), (0, .ref h0)]) hx hb dX4_typedText_53 rfl hl (by decide) rfl (fun ls hl => ?_)
                  refine zw_iinc (z := 3) (lv' := [(2, .int (zi 3)), (1, .int (zi x62)), (4, .int (zi x55)), (3, .ref x2), (0, .ref h0)]) (k := 3) hx hb (by decide) dX4_typedText_54 hl rfl (by decide) rfl (fun ls hl => ?_)
                  refine lv_goto (tgt := 4) hx hb dX4_typedText_57 (by decide) ?_
                  refine lv_iload_n hx hb dX4_typedText_4 rfl (lv_at hl 0 rfl) ?_
                  refine zw_iconst hx hb dX4_typedText_5 ?_
                  refine zw_icmp_gt (tgt := 60) hx hb dX4_typedText_6 (by decide) ⟨by omega, by omega⟩ ⟨by omega, by omega⟩ (fun h63 => ?_) (fun h63 => ?_)
                  · skip
                    refine zw_iconst hx hb dX4_typedText_60 ?_
                    refine lv_iload_n hx hb dX4_typedText_61 rfl (lv_at hl 1 rfl) ?_
                    refine zw_isub hx hb dX4_typedText_62 ?_
                    subst ex4 ex44 ex48 ex51 ex55 ex62
                    exact W.iret (v := zi ((-1) - (max (max (max 0 (zpf (pX1 tf pat0) (min tl ((10 : Nat) : Int)).toNat 0)) (zpf (pX1 tf pat1) (min tl ((10 : Nat) : Int)).toNat 0)) (zpf (pX1 tf pat2) (min tl ((8 : Nat) : Int)).toNat 0)))) hx hb hr (fun t ht hW => ⟨zi ((-1) - (max (max (max 0 (zpf (pX1 tf pat0) (min tl ((10 : Nat) : Int)).toNat 0)) (zpf (pX1 tf pat1) (min tl ((10 : Nat) : Int)).toNat 0)) (zpf (pX1 tf pat2) (min tl ((8 : Nat) : Int)).toNat 0))), rfl, by rw [f_X4_typedText, if_pos h6, if_neg h43, if_neg h50, if_pos h57, if_neg h61], ht⟩) (fun q h => by cases h) dX4_typedText_63
                  · skip
                    exact absurd True.intro (by omega)
                · skip
                  refine lv_iload_n hx hb dX4_typedText_45 rfl (lv_at hl 2 rfl) ?_
                  subst ex4 ex44 ex48 ex51 ex55
                  exact W.iret (v := zi 2) hx hb hr (fun t ht hW => ⟨zi 2, rfl, by rw [f_X4_typedText, if_pos h6, if_neg h43, if_neg h50, if_pos h57, if_pos h61], ht⟩) (fun q h => by cases h) dX4_typedText_46
          · skip
            refine lv_iload hx hb dX4_typedText_33 (lv_at hl 0 rfl) ?_
            refine lv_aload_n hx hb dX4_typedText_35 rfl (lv_at hl 4 rfl) ?_
            refine va_get (D := (dC, dI)) (ci := 4) (v := .ref qt) (C := RX4) (T := TX4) (N := 6) hx hb hts (by decide +kernel) hown hK hP 0 rfl rfl 4 (by decide) (hts (.fieldLink RX4 34 "CivilDays" "typed" "LCivilDays$Line;") (by decide +kernel)) (fun _ h9 => h9) rfl dX4_typedText_36 ?_
            have hh64 := c_X1_size l dC dI cI qt tc tl tf 
            have hPc := hP.sub (ws' := [(qt, .inr (1, [.ref tc, .int (zi tl)])), (tc, aI cI 20 tf)]) [1, 2] rfl
            have hKc : va_K (dC, dI) vwCl [(cI, .int)] s := hK
            refine vp_callSi (va_Run.run (va_runV (As := []) (rest := [.int (zi x48)]) ⟨hx, hb, hml, hown, hts⟩ hh64 (cwV 0 hts gX4_typedText_X1_size rfl rfl rfl (by decide +kernel) ⟨Nat.le_of_ble_eq_true rfl, Nat.le_of_ble_eq_true rfl⟩) ⟨zPr.blind _ _ _ _, va_recv hKc hPc (ci := 1) (q0 := 0) rfl rfl, fun U hU hW => ⟨rfl, by rw [hU]; exact hPc, va_K.moved hW.alike hKc⟩⟩ rfl rfl hl.1 rfl (lv_room (Nat.le_of_ble_eq_true rfl)) dX4_typedText_39 ⟨Nat.le_of_ble_eq_true rfl, Nat.le_of_ble_eq_true rfl⟩)) (fun r64 (hr64 : r64 = zi tl) => ?_)
            subst hr64
            refine zw_icmp_ne (tgt := 47) hx hb dX4_typedText_42 (by decide) ⟨by omega, by omega⟩ ⟨by omega, by omega⟩ (fun h65 => ?_) (fun h65 => ?_)
            · skip
              refine lv_iload_n hx hb dX4_typedText_47 rfl (lv_at hl 3 rfl) ?_
              refine lv_iload hx hb dX4_typedText_48 (lv_at hl 0 rfl) ?_
              refine zw_max hx hb (hml.trans hl.1.symm) hown (hts (.methodLink RX4 171 Lib.Math.max.name) (by decide +kernel)) (hts (.static Lib.Math.max.name) (by decide +kernel)) (hts (.initialized "java/lang/Math") (by decide +kernel)) (hts _ (by decide +kernel)) (Nat.le_of_ble_eq_true rfl) (Nat.le_of_ble_eq_true rfl) (Nat.le_of_ble_eq_true rfl) (Nat.le_of_ble_eq_true rfl) dX4_typedText_50 ⟨by omega, by omega⟩ ⟨by omega, by omega⟩ ?_
              refine zw_top (fun x66 ex66 => ?_)
              refine lv_istore_n (lv' := [(1, .int (zi x66)), (4, .int (zi x48)), (3, .ref x1), (2, .int (zi 1)), (0, .ref h0)]) hx hb dX4_typedText_53 rfl hl (by decide) rfl (fun ls hl => ?_)
              refine zw_iinc (z := 2) (lv' := [(2, .int (zi 2)), (1, .int (zi x66)), (4, .int (zi x48)), (3, .ref x1), (0, .ref h0)]) (k := 3) hx hb (by decide) dX4_typedText_54 hl rfl (by decide) rfl (fun ls hl => ?_)
              refine lv_goto (tgt := 4) hx hb dX4_typedText_57 (by decide) ?_
              refine lv_iload_n hx hb dX4_typedText_4 rfl (lv_at hl 0 rfl) ?_
              refine zw_iconst hx hb dX4_typedText_5 ?_
              refine zw_icmp_gt (tgt := 60) hx hb dX4_typedText_6 (by decide) ⟨by omega, by omega⟩ ⟨by omega, by omega⟩ (fun h67 => ?_) (fun h67 => ?_)
              · skip
                exact absurd True.intro (by omega)
              · skip
                refine lv_iload_n hx hb dX4_typedText_9 rfl (lv_at hl 0 rfl) ?_
                have hh68 := c_X4_patternOf_2 l dC dI x0 v0 x1 v1 x2 v2 qy 
                have hPc := hP.sub (ws' := []) [] rfl
                have hKc : va_K (dC, dI) vwCl [] s := hK.sub (tys' := []) [] rfl
                refine va_csq (va_Run.run (va_runS (As := [.int (zi 2)]) (rest := []) ⟨hx, hb, hml, hown, hts⟩ hh68 (va_cwS 1 hts gX4_typedText_X4_patternOf rfl rfl rfl (by decide +kernel) ⟨Nat.le_of_ble_eq_true rfl, Nat.le_of_ble_eq_true rfl⟩) ⟨zPrF.blind _ _ _ _ zP3_ok, fun U hU hW => ⟨rfl, by rw [hU]; exact hPc, va_K.moved hW.alike hKc, zF.call zP3_ok hG va_S.rf (fun _ h => h.elim) hU hW⟩⟩ rfl rfl hl.1 rfl (lv_room (Nat.le_of_ble_eq_true rfl)) dX4_typedText_10 ⟨Nat.le_of_ble_eq_true rfl, Nat.le_of_ble_eq_true rfl⟩)) (fun r68 (hr68 : r68 = (some x2)) => ?_)
                subst hr68
                rw [show va_rf (some x2) = Value.ref x2 from rfl]
                refine lv_astore_n (lv' := [(3, .ref x2), (2, .int (zi 2)), (1, .int (zi x66)), (4, .int (zi x48)), (0, .ref h0)]) hx hb dX4_typedText_13 rfl hl (by decide) rfl (fun ls hl => ?_)
                refine lv_aload_n hx hb dX4_typedText_14 rfl (lv_at hl 4 rfl) ?_
                refine va_get (D := (dC, dI)) (ci := 4) (v := .ref qt) (C := RX4) (T := TX4) (N := 6) hx hb hts (by decide +kernel) hown hK hP 0 rfl rfl 4 (by decide) (hts (.fieldLink RX4 34 "CivilDays" "typed" "LCivilDays$Line;") (by decide +kernel)) (fun _ h9 => h9) rfl dX4_typedText_15 ?_
                refine lv_aload_n hx hb dX4_typedText_18 rfl (lv_at hl 0 rfl) ?_
                have hh69 := c_X1_fitting l dC dI cI qt tc tl tf x2 v2 8 pat2 qy (by omega) pat2_b (by first | exact hp1 | exact hTB)
                have hPc := hP.sub (ws' := [(qt, .inr (1, [.ref tc, .int (zi tl)])), (tc, aI cI 20 tf)]) [1, 2] rfl
                have hKc : va_K (dC, dI) vwCl [(cI, .int)] s := hK
                refine vp_callSi (va_Run.run (va_runV (As := [.ref x2]) (rest := []) ⟨hx, hb, hml, hown, hts⟩ hh69 (cwV 1 hts gX4_typedText_X1_fitting rfl rfl rfl (by decide +kernel) ⟨Nat.le_of_ble_eq_true rfl, Nat.le_of_ble_eq_true rfl⟩) ⟨zPrF.blind _ _ _ _ zTx_ok, va_recv hKc hPc (ci := 1) (q0 := 0) rfl rfl, fun U hU hW => ⟨rfl, by rw [hU]; exact hPc, va_K.moved hW.alike hKc, zF.call zTx_ok (zP3_2 hG) va_S.rf (fun _ h => h.elim) hU hW⟩⟩ rfl rfl hl.1 rfl (lv_room (Nat.le_of_ble_eq_true rfl)) dX4_typedText_19 ⟨Nat.le_of_ble_eq_true rfl, Nat.le_of_ble_eq_true rfl⟩)) (fun r69 (hr69 : r69 = zi (zpf (pX1 tf pat2) (min tl ((8 : Nat) : Int)).toNat 0)) => ?_)
                subst hr69
                refine zw_top (fun x70 ex70 => ?_)
                refine lv_istore (lv' := [(4, .int (zi x70)), (3, .ref x2), (2, .int (zi 2)), (1, .int (zi x66)), (0, .ref h0)]) hx hb dX4_typedText_22 hl (by decide) rfl (fun ls hl => ?_)
                refine lv_iload hx hb dX4_typedText_24 (lv_at hl 0 rfl) ?_
                refine lv_aload_n hx hb dX4_typedText_26 rfl (lv_at hl 1 rfl) ?_
                have hh71 := c_J0_length l dC dI x2 v2 8 pat2 qy (by omega)
                have hPc := hP.sub (ws' := []) [] rfl
                have hKc : va_K (dC, dI) vwCl [] s := hK.sub (tys' := []) [] rfl
                refine vp_callSi (va_Run.run (va_runV (As := []) (rest := [.int (zi x70)]) ⟨hx, hb, hml, hown, hts⟩ hh71 (cwV 0 hts gX4_typedText_J0_length_8abf5 rfl rfl rfl (by decide +kernel) ⟨Nat.le_of_ble_eq_true rfl, Nat.le_of_ble_eq_true rfl⟩) ⟨zPrF.blind _ _ _ _ zTx_ok, zTx_r (zP3_2 hG) va_S.rf, fun U hU hW => ⟨rfl, by rw [hU]; exact hPc, va_K.moved hW.alike hKc, zF.call zTx_ok (zP3_2 hG) va_S.rf (fun _ h => h.elim) hU hW⟩⟩ rfl rfl hl.1 rfl (lv_room (Nat.le_of_ble_eq_true rfl)) dX4_typedText_27 ⟨Nat.le_of_ble_eq_true rfl, Nat.le_of_ble_eq_true rfl⟩)) (fun r71 (hr71 : r71 = zi ((8 : Nat) : Int)) => ?_)
                subst hr71
                refine zw_icmp_ne (tgt := 47) hx hb dX4_typedText_30 (by decide) ⟨by omega, by omega⟩ ⟨by omega, by omega⟩ (fun h72 => ?_) (fun h72 => ?_)
                · skip
                  refine lv_iload_n hx hb dX4_typedText_47 rfl (lv_at hl 3 rfl) ?_
                  refine lv_iload hx hb dX4_typedText_48 (lv_at hl 0 rfl) ?_
                  refine zw_max hx hb (hml.trans hl.1.symm) hown (hts (.methodLink RX4 171 Lib.Math.max.name) (by decide +kernel)) (hts (.static Lib.Math.max.name) (by decide +kernel)) (hts (.initialized "java/lang/Math") (by decide +kernel)) (hts _ (by decide +kernel)) (Nat.le_of_ble_eq_true rfl) (Nat.le_of_ble_eq_true rfl) (Nat.le_of_ble_eq_true rfl) (Nat.le_of_ble_eq_true rfl) dX4_typedText_50 ⟨by omega, by omega⟩ ⟨by omega, by omega⟩ ?_
                  refine zw_top (fun x73 ex73 => ?_)
                  refine lv_istore_n (lv' := [(1, .int (zi x73)), (4, .int (zi x70)), (3, .ref x2), (2, .int (zi 2)), (0, .ref h0)]) hx hb dX4_typedText_53 rfl hl (by decide) rfl (fun ls hl => ?_)
                  refine zw_iinc (z := 3) (lv' := [(2, .int (zi 3)), (1, .int (zi x73)), (4, .int (zi x70)), (3, .ref x2), (0, .ref h0)]) (k := 3) hx hb (by decide) dX4_typedText_54 hl rfl (by decide) rfl (fun ls hl => ?_)
                  refine lv_goto (tgt := 4) hx hb dX4_typedText_57 (by decide) ?_
                  refine lv_iload_n hx hb dX4_typedText_4 rfl (lv_at hl 0 rfl) ?_
                  refine zw_iconst hx hb dX4_typedText_5 ?_
                  refine zw_icmp_gt (tgt := 60) hx hb dX4_typedText_6 (by decide) ⟨by omega, by omega⟩ ⟨by omega, by omega⟩ (fun h74 => ?_) (fun h74 => ?_)
                  · skip
                    refine zw_iconst hx hb dX4_typedText_60 ?_
                    refine lv_iload_n hx hb dX4_typedText_61 rfl (lv_at hl 1 rfl) ?_
                    refine zw_isub hx hb dX4_typedText_62 ?_
                    subst ex4 ex44 ex48 ex66 ex70 ex73
                    exact W.iret (v := zi ((-1) - (max (max (max 0 (zpf (pX1 tf pat0) (min tl ((10 : Nat) : Int)).toNat 0)) (zpf (pX1 tf pat1) (min tl ((10 : Nat) : Int)).toNat 0)) (zpf (pX1 tf pat2) (min tl ((8 : Nat) : Int)).toNat 0)))) hx hb hr (fun t ht hW => ⟨zi ((-1) - (max (max (max 0 (zpf (pX1 tf pat0) (min tl ((10 : Nat) : Int)).toNat 0)) (zpf (pX1 tf pat1) (min tl ((10 : Nat) : Int)).toNat 0)) (zpf (pX1 tf pat2) (min tl ((8 : Nat) : Int)).toNat 0))), rfl, by rw [f_X4_typedText, if_pos h6, if_neg h43, if_pos h50, if_neg h65, if_neg h72], ht⟩) (fun q h => by cases h) dX4_typedText_63
                  · skip
                    exact absurd True.intro (by omega)
                · skip
                  refine lv_iload hx hb dX4_typedText_33 (lv_at hl 0 rfl) ?_
                  refine lv_aload_n hx hb dX4_typedText_35 rfl (lv_at hl 4 rfl) ?_
                  refine va_get (D := (dC, dI)) (ci := 4) (v := .ref qt) (C := RX4) (T := TX4) (N := 6) hx hb hts (by decide +kernel) hown hK hP 0 rfl rfl 4 (by decide) (hts (.fieldLink RX4 34 "CivilDays" "typed" "LCivilDays$Line;") (by decide +kernel)) (fun _ h9 => h9) rfl dX4_typedText_36 ?_
                  have hh75 := c_X1_size l dC dI cI qt tc tl tf 
                  have hPc := hP.sub (ws' := [(qt, .inr (1, [.ref tc, .int (zi tl)])), (tc, aI cI 20 tf)]) [1, 2] rfl
                  have hKc : va_K (dC, dI) vwCl [(cI, .int)] s := hK
                  refine vp_callSi (va_Run.run (va_runV (As := []) (rest := [.int (zi x70)]) ⟨hx, hb, hml, hown, hts⟩ hh75 (cwV 0 hts gX4_typedText_X1_size rfl rfl rfl (by decide +kernel) ⟨Nat.le_of_ble_eq_true rfl, Nat.le_of_ble_eq_true rfl⟩) ⟨zPr.blind _ _ _ _, va_recv hKc hPc (ci := 1) (q0 := 0) rfl rfl, fun U hU hW => ⟨rfl, by rw [hU]; exact hPc, va_K.moved hW.alike hKc⟩⟩ rfl rfl hl.1 rfl (lv_room (Nat.le_of_ble_eq_true rfl)) dX4_typedText_39 ⟨Nat.le_of_ble_eq_true rfl, Nat.le_of_ble_eq_true rfl⟩)) (fun r75 (hr75 : r75 = zi tl) => ?_)
                  subst hr75
                  refine zw_icmp_ne (tgt := 47) hx hb dX4_typedText_42 (by decide) ⟨by omega, by omega⟩ ⟨by omega, by omega⟩ (fun h76 => ?_) (fun h76 => ?_)
                  · skip
                    refine lv_iload_n hx hb dX4_typedText_47 rfl (lv_at hl 3 rfl) ?_
                    refine lv_iload hx hb dX4_typedText_48 (lv_at hl 0 rfl) ?_
                    refine zw_max hx hb (hml.trans hl.1.symm) hown (hts (.methodLink RX4 171 Lib.Math.max.name) (by decide +kernel)) (hts (.static Lib.Math.max.name) (by decide +kernel)) (hts (.initialized "java/lang/Math") (by decide +kernel)) (hts _ (by decide +kernel)) (Nat.le_of_ble_eq_true rfl) (Nat.le_of_ble_eq_true rfl) (Nat.le_of_ble_eq_true rfl) (Nat.le_of_ble_eq_true rfl) dX4_typedText_50 ⟨by omega, by omega⟩ ⟨by omega, by omega⟩ ?_
                    refine zw_top (fun x77 ex77 => ?_)
                    refine lv_istore_n (lv' := [(1, .int (zi x77)), (4, .int (zi x70)), (3, .ref x2), (2, .int (zi 2)), (0, .ref h0)]) hx hb dX4_typedText_53 rfl hl (by decide) rfl (fun ls hl => ?_)
                    refine zw_iinc (z := 3) (lv' := [(2, .int (zi 3)), (1, .int (zi x77)), (4, .int (zi x70)), (3, .ref x2), (0, .ref h0)]) (k := 3) hx hb (by decide) dX4_typedText_54 hl rfl (by decide) rfl (fun ls hl => ?_)
                    refine lv_goto (tgt := 4) hx hb dX4_typedText_57 (by decide) ?_
                    refine lv_iload_n hx hb dX4_typedText_4 rfl (lv_at hl 0 rfl) ?_
                    refine zw_iconst hx hb dX4_typedText_5 ?_
                    refine zw_icmp_gt (tgt := 60) hx hb dX4_typedText_6 (by decide) ⟨by omega, by omega⟩ ⟨by omega, by omega⟩ (fun h78 => ?_) (fun h78 => ?_)
                    · skip
                      refine zw_iconst hx hb dX4_typedText_60 ?_
                      refine lv_iload_n hx hb dX4_typedText_61 rfl (lv_at hl 1 rfl) ?_
                      refine zw_isub hx hb dX4_typedText_62 ?_
                      subst ex4 ex44 ex48 ex66 ex70 ex77
                      exact W.iret (v := zi ((-1) - (max (max (max 0 (zpf (pX1 tf pat0) (min tl ((10 : Nat) : Int)).toNat 0)) (zpf (pX1 tf pat1) (min tl ((10 : Nat) : Int)).toNat 0)) (zpf (pX1 tf pat2) (min tl ((8 : Nat) : Int)).toNat 0)))) hx hb hr (fun t ht hW => ⟨zi ((-1) - (max (max (max 0 (zpf (pX1 tf pat0) (min tl ((10 : Nat) : Int)).toNat 0)) (zpf (pX1 tf pat1) (min tl ((10 : Nat) : Int)).toNat 0)) (zpf (pX1 tf pat2) (min tl ((8 : Nat) : Int)).toNat 0))), rfl, by rw [f_X4_typedText, if_pos h6, if_neg h43, if_pos h50, if_neg h65, if_pos h72, if_neg h76], ht⟩) (fun q h => by cases h) dX4_typedText_63
                    · skip
                      exact absurd True.intro (by omega)
                  · skip
                    refine lv_iload_n hx hb dX4_typedText_45 rfl (lv_at hl 2 rfl) ?_
                    subst ex4 ex44 ex48 ex66 ex70
                    exact W.iret (v := zi 2) hx hb hr (fun t ht hW => ⟨zi 2, rfl, by rw [f_X4_typedText, if_pos h6, if_neg h43, if_pos h50, if_neg h65, if_pos h72, if_pos h76], ht⟩) (fun q h => by cases h) dX4_typedText_46
            · skip
              refine lv_iload_n hx hb dX4_typedText_45 rfl (lv_at hl 2 rfl) ?_
              subst ex4 ex44 ex48
              exact W.iret (v := zi 1) hx hb hr (fun t ht hW => ⟨zi 1, rfl, by rw [f_X4_typedText, if_pos h6, if_neg h43, if_pos h50, if_pos h65], ht⟩) (fun q h => by cases h) dX4_typedText_46
      · skip
        refine lv_iload_n hx hb dX4_typedText_45 rfl (lv_at hl 2 rfl) ?_
        subst ex4
        exact W.iret (v := zi 0) hx hb hr (fun t ht hW => ⟨zi 0, rfl, by rw [f_X4_typedText, if_pos h6, if_pos h43], ht⟩) (fun q h => by cases h) dX4_typedText_46

set_option maxHeartbeats 4000000 in
set_option maxRecDepth 100000 in
theorem c_X4_typedNumber (l : Launch)  (dC : Nat → ClassId) (dI : Nat → Nat → Nat) (cI : ClassId) (h0 : Nat) (qs : Nat) (qr : Nat) (qm : Nat) (qw : Nat) (qt : Nat) (we : Int) (tc : Nat) (tl : Int) (tf : Nat → Int) (tx : Int) (hp0 : 0 ≤ tx ∧ tx ≤ 2) (hp1 : 8 ≤ tl ∧ tl ≤ 20 ∧ (tx = 2 ∨ 10 ≤ tl)) (hp2 : ∀ j : Nat, 0 ≤ tf j ∧ tf j ≤ 126) : Met l yX4_typedNumber wsX4_typedNumber ({ frames := 4, cells := 0, slots := 0, locals := 85 }) (zPr (dC, dI) [(cI, .int)] [.ref h0, .int (zi tx)] [(h0, .inr (4, [.ref qs, .ref qr, .ref qm, .ref qw, .ref qt, .int (zi we)])), (qt, .inr (1, [.ref tc, .int (zi tl)])), (tc, aI cI 20 tf)]) (vp_Si (fun r => r = zi (f_X4_typedNumber tf tx))) 0 0 zN := by
  refine Met.ofW (cc := cX4_typedNumber) (maxL := 3) (ret := (some .int)) (by decide) rfl ?_
  intro p e s m args below meth c s₁ B hml hv
  obtain ⟨rfl, hP, hK⟩ := hv
  have hx := B.exec
  have hb := B.bytes
  have hr := B.returns
  have hts := atoms_spec (ws := wsX4_typedNumber) B.pre
  have hown : s.vm.findClass RX4 = some m.cls := findClass_of_methodNamed B.named
  have hlocks := B.notSynchronized
  have hl := lv_entry ([.ref h0, .int (zi tx)]) (n := 3) (Nat.le_of_ble_eq_true rfl)
  rw [lg_entry_eq]
  generalize (lg_sl ([.ref h0, .int (zi tx)]) ++ List.replicate (3 - (lg_sl ([.ref h0, .int (zi tx)])).length) Slot.unset).toArray = ls at hl ⊢
  have hl : lv_has ls 3 [(0, .ref h0), (1, .int (zi tx))] := hl
  have ht0 := hp2 (Int.toNat 0)
  have ht1 := hp2 (Int.toNat 1)
  have ht2 := hp2 (Int.toNat 2)
  have ht3 := hp2 (Int.toNat 3)
  have ht4 := hp2 (Int.toNat 4)
  have ht5 := hp2 (Int.toNat 5)
  have ht6 := hp2 (Int.toNat 6)
  have ht7 := hp2 (Int.toNat 7)
  have ht8 := hp2 (Int.toNat 8)
  have ht9 := hp2 (Int.toNat 9)
  refine lv_aload_n hx hb dX4_typedNumber_0 rfl (lv_at hl 0 rfl) ?_
  refine va_get (D := (dC, dI)) (ci := 4) (v := .ref qt) (C := RX4) (T := TX4) (N := 6) hx hb hts (by decide +kernel) hown hK hP 0 rfl rfl 4 (by decide) (hts (.fieldLink RX4 34 "CivilDays" "typed" "LCivilDays$Line;") (by decide +kernel)) (fun _ h9 => h9) rfl dX4_typedNumber_1 ?_
  refine zw_iconst hx hb dX4_typedNumber_4 ?_
  refine zw_iconst hx hb dX4_typedNumber_5 ?_
  have hh1 := c_X1_digits_0_4 l dC dI cI qt tc tl tf (by omega)
  have hPc := hP.sub (ws' := [(qt, .inr (1, [.ref tc, .int (zi tl)])), (tc, aI cI 20 tf)]) [1, 2] rfl
  have hKc : va_K (dC, dI) vwCl [(cI, .int)] s := hK
  refine vp_callSi (va_Run.run (va_runV (As := [.int (zi 0), .int (zi 4)]) (rest := []) ⟨hx, hb, hml, hown, hts⟩ hh1 (cwV 2 hts gX4_typedNumber_X1_digits rfl rfl rfl (by decide +kernel) ⟨Nat.le_of_ble_eq_true rfl, Nat.le_of_ble_eq_true rfl⟩) ⟨zPr.blind _ _ _ _, va_recv hKc hPc (ci := 1) (q0 := 0) rfl rfl, fun U hU hW => ⟨rfl, by rw [hU]; exact hPc, va_K.moved hW.alike hKc⟩⟩ rfl rfl hl.1 rfl (lv_room (Nat.le_of_ble_eq_true rfl)) dX4_typedNumber_6 ⟨Nat.le_of_ble_eq_true rfl, Nat.le_of_ble_eq_true rfl⟩)) (fun r1 (hr1 : r1 = zi (((10 * (((10 * (((10 * ((0 + (tf (Int.toNat 0))) - 48)) + (tf (Int.toNat 1))) - 48)) + (tf (Int.toNat 2))) - 48)) + (tf (Int.toNat 3))) - 48)) => ?_)
  subst hr1
  refine zw_top (fun x2 ex2 => ?_)
  refine lv_istore_n (lv' := [(2, .int (zi x2)), (0, .ref h0), (1, .int (zi tx))]) hx hb dX4_typedNumber_9 rfl hl (by decide) rfl (fun ls hl => ?_)
  refine lv_iload_n hx hb dX4_typedNumber_10 rfl (lv_at hl 2 rfl) ?_
  by_cases h3 : tx = 0
  · skip
    refine zw_lookup (tgt := 36) (off := 25) hx hb dX4_typedNumber_11 ⟨by omega, by omega⟩ (by decide) (by  exact zi_lk1 h3) (by decide) ?_
    refine lv_iload_n hx hb dX4_typedNumber_36 rfl (lv_at hl 0 rfl) ?_
    refine lv_aload_n hx hb dX4_typedNumber_37 rfl (lv_at hl 1 rfl) ?_
    refine va_get (D := (dC, dI)) (ci := 4) (v := .ref qt) (C := RX4) (T := TX4) (N := 6) hx hb hts (by decide +kernel) hown hK hP 0 rfl rfl 4 (by decide) (hts (.fieldLink RX4 34 "CivilDays" "typed" "LCivilDays$Line;") (by decide +kernel)) (fun _ h9 => h9) rfl dX4_typedNumber_38 ?_
    refine zw_iconst hx hb dX4_typedNumber_41 ?_
    refine zw_iconst hx hb dX4_typedNumber_42 ?_
    have hh4 := c_X1_digits_5_2 l dC dI cI qt tc tl tf (by omega)
    have hPc := hP.sub (ws' := [(qt, .inr (1, [.ref tc, .int (zi tl)])), (tc, aI cI 20 tf)]) [1, 2] rfl
    have hKc : va_K (dC, dI) vwCl [(cI, .int)] s := hK
    refine vp_callSi (va_Run.run (va_runV (As := [.int (zi 5), .int (zi 2)]) (rest := [.int (zi x2)]) ⟨hx, hb, hml, hown, hts⟩ hh4 (cwV 2 hts gX4_typedNumber_X1_digits rfl rfl rfl (by decide +kernel) ⟨Nat.le_of_ble_eq_true rfl, Nat.le_of_ble_eq_true rfl⟩) ⟨zPr.blind _ _ _ _, va_recv hKc hPc (ci := 1) (q0 := 0) rfl rfl, fun U hU hW => ⟨rfl, by rw [hU]; exact hPc, va_K.moved hW.alike hKc⟩⟩ rfl rfl hl.1 rfl (lv_room (Nat.le_of_ble_eq_true rfl)) dX4_typedNumber_43 ⟨Nat.le_of_ble_eq_true rfl, Nat.le_of_ble_eq_true rfl⟩)) (fun r4 (hr4 : r4 = zi (((10 * ((0 + (tf (Int.toNat 5))) - 48)) + (tf (Int.toNat 6))) - 48)) => ?_)
    subst hr4
    refine lv_aload_n hx hb dX4_typedNumber_46 rfl (lv_at hl 1 rfl) ?_
    refine va_get (D := (dC, dI)) (ci := 4) (v := .ref qt) (C := RX4) (T := TX4) (N := 6) hx hb hts (by decide +kernel) hown hK hP 0 rfl rfl 4 (by decide) (hts (.fieldLink RX4 34 "CivilDays" "typed" "LCivilDays$Line;") (by decide +kernel)) (fun _ h9 => h9) rfl dX4_typedNumber_47 ?_
    refine zw_bipush hx hb dX4_typedNumber_50 (by decide) ?_
    refine zw_iconst hx hb dX4_typedNumber_52 ?_
    have hh5 := c_X1_digits_8_2 l dC dI cI qt tc tl tf (by omega)
    have hPc := hP.sub (ws' := [(qt, .inr (1, [.ref tc, .int (zi tl)])), (tc, aI cI 20 tf)]) [1, 2] rfl
    have hKc : va_K (dC, dI) vwCl [(cI, .int)] s := hK
    refine vp_callSi (va_Run.run (va_runV (As := [.int (zi 8), .int (zi 2)]) (rest := [.int (zi (((10 * ((0 + (tf (Int.toNat 5))) - 48)) + (tf (Int.toNat 6))) - 48)), .int (zi x2)]) ⟨hx, hb, hml, hown, hts⟩ hh5 (cwV 2 hts gX4_typedNumber_X1_digits rfl rfl rfl (by decide +kernel) ⟨Nat.le_of_ble_eq_true rfl, Nat.le_of_ble_eq_true rfl⟩) ⟨zPr.blind _ _ _ _, va_recv hKc hPc (ci := 1) (q0 := 0) rfl rfl, fun U hU hW => ⟨rfl, by rw [hU]; exact hPc, va_K.moved hW.alike hKc⟩⟩ rfl rfl hl.1 rfl (lv_room (Nat.le_of_ble_eq_true rfl)) dX4_typedNumber_53 ⟨Nat.le_of_ble_eq_true rfl, Nat.le_of_ble_eq_true rfl⟩)) (fun r5 (hr5 : r5 = zi (((10 * ((0 + (tf (Int.toNat 8))) - 48)) + (tf (Int.toNat 9))) - 48)) => ?_)
    subst hr5
    have hh6 := c_X0_civilNumber l x2 (((10 * ((0 + (tf (Int.toNat 5))) - 48)) + (tf (Int.toNat 6))) - 48) (((10 * ((0 + (tf (Int.toNat 8))) - 48)) + (tf (Int.toNat 9))) - 48) (by omega) (by omega) (by omega)
    refine vp_callSi (va_Run.run (va_runS (As := [.int (zi x2), .int (zi (((10 * ((0 + (tf (Int.toNat 5))) - 48)) + (tf (Int.toNat 6))) - 48)), .int (zi (((10 * ((0 + (tf (Int.toNat 8))) - 48)) + (tf (Int.toNat 9))) - 48))]) (rest := []) ⟨hx, hb, hml, hown, hts⟩ hh6 (va_cwS 3 hts gX4_typedNumber_X0_civilNumber rfl rfl rfl (by decide +kernel) ⟨Nat.le_of_ble_eq_true rfl, Nat.le_of_ble_eq_true rfl⟩) ⟨fun a U g mk q => q, fun U hU hW => ⟨rfl, trivial⟩⟩ rfl rfl hl.1 rfl (lv_room (Nat.le_of_ble_eq_true rfl)) dX4_typedNumber_56 ⟨Nat.zero_le _, Nat.zero_le _⟩)) (fun r6 (hr6 : r6 = zi (f_X0_civilNumber x2 (((10 * ((0 + (tf (Int.toNat 5))) - 48)) + (tf (Int.toNat 6))) - 48) (((10 * ((0 + (tf (Int.toNat 8))) - 48)) + (tf (Int.toNat 9))) - 48))) => ?_)
    subst hr6
    have hf6 := b_X0_civilNumber x2 (((10 * ((0 + (tf (Int.toNat 5))) - 48)) + (tf (Int.toNat 6))) - 48) (((10 * ((0 + (tf (Int.toNat 8))) - 48)) + (tf (Int.toNat 9))) - 48) (by omega) (by omega) (by omega)
    subst ex2
    exact W.iret (v := zi (f_X0_civilNumber (((10 * (((10 * (((10 * ((0 + (tf (Int.toNat 0))) - 48)) + (tf (Int.toNat 1))) - 48)) + (tf (Int.toNat 2))) - 48)) + (tf (Int.toNat 3))) - 48) (((10 * ((0 + (tf (Int.toNat 5))) - 48)) + (tf (Int.toNat 6))) - 48) (((10 * ((0 + (tf (Int.toNat 8))) - 48)) + (tf (Int.toNat 9))) - 48))) hx hb hr (fun t ht hW => ⟨zi (f_X0_civilNumber (((10 * (((10 * (((10 * ((0 + (tf (Int.toNat 0))) - 48)) + (tf (Int.toNat 1))) - 48)) + (tf (Int.toNat 2))) - 48)) + (tf (Int.toNat 3))) - 48) (((10 * ((0 + (tf (Int.toNat 5))) - 48)) + (tf (Int.toNat 6))) - 48) (((10 * ((0 + (tf (Int.toNat 8))) - 48)) + (tf (Int.toNat 9))) - 48)), rfl, by rw [f_X4_typedNumber, if_pos h3], ht⟩) (fun q h => by cases h) dX4_typedNumber_59
  by_cases h7 : tx = 1
  · skip
    refine zw_lookup (tgt := 60) (off := 49) hx hb dX4_typedNumber_11 ⟨by omega, by omega⟩ (by decide) (by refine (zi_lk h3).trans ?_;  exact zi_lk1 h7) (by decide) ?_
    refine lv_iload_n hx hb dX4_typedNumber_60 rfl (lv_at hl 0 rfl) ?_
    refine lv_aload_n hx hb dX4_typedNumber_61 rfl (lv_at hl 1 rfl) ?_
    refine va_get (D := (dC, dI)) (ci := 4) (v := .ref qt) (C := RX4) (T := TX4) (N := 6) hx hb hts (by decide +kernel) hown hK hP 0 rfl rfl 4 (by decide) (hts (.fieldLink RX4 34 "CivilDays" "typed" "LCivilDays$Line;") (by decide +kernel)) (fun _ h9 => h9) rfl dX4_typedNumber_62 ?_
    refine zw_bipush hx hb dX4_typedNumber_65 (by decide) ?_
    refine zw_iconst hx hb dX4_typedNumber_67 ?_
    have hh8 := c_X1_digits_6_2 l dC dI cI qt tc tl tf (by omega)
    have hPc := hP.sub (ws' := [(qt, .inr (1, [.ref tc, .int (zi tl)])), (tc, aI cI 20 tf)]) [1, 2] rfl
    have hKc : va_K (dC, dI) vwCl [(cI, .int)] s := hK
    refine vp_callSi (va_Run.run (va_runV (As := [.int (zi 6), .int (zi 2)]) (rest := [.int (zi x2)]) ⟨hx, hb, hml, hown, hts⟩ hh8 (cwV 2 hts gX4_typedNumber_X1_digits rfl rfl rfl (by decide +kernel) ⟨Nat.le_of_ble_eq_true rfl, Nat.le_of_ble_eq_true rfl⟩) ⟨zPr.blind _ _ _ _, va_recv hKc hPc (ci := 1) (q0 := 0) rfl rfl, fun U hU hW => ⟨rfl, by rw [hU]; exact hPc, va_K.moved hW.alike hKc⟩⟩ rfl rfl hl.1 rfl (lv_room (Nat.le_of_ble_eq_true rfl)) dX4_typedNumber_68 ⟨Nat.le_of_ble_eq_true rfl, Nat.le_of_ble_eq_true rfl⟩)) (fun r8 (hr8 : r8 = zi (((10 * ((0 + (tf (Int.toNat 6))) - 48)) + (tf (Int.toNat 7))) - 48)) => ?_)
    subst hr8
    refine lv_aload_n hx hb dX4_typedNumber_71 rfl (lv_at hl 1 rfl) ?_
    refine va_get (D := (dC, dI)) (ci := 4) (v := .ref qt) (C := RX4) (T := TX4) (N := 6) hx hb hts (by decide +kernel) hown hK hP 0 rfl rfl 4 (by decide) (hts (.fieldLink RX4 34 "CivilDays" "typed" "LCivilDays$Line;") (by decide +kernel)) (fun _ h9 => h9) rfl dX4_typedNumber_72 ?_
    refine zw_bipush hx hb dX4_typedNumber_75 (by decide) ?_
    refine zw_iconst hx hb dX4_typedNumber_77 ?_
    have hh9 := c_X1_digits_9_1 l dC dI cI qt tc tl tf (by omega)
    have hPc := hP.sub (ws' := [(qt, .inr (1, [.ref tc, .int (zi tl)])), (tc, aI cI 20 tf)]) [1, 2] rfl
    have hKc : va_K (dC, dI) vwCl [(cI, .int)] s := hK
    refine vp_callSi (va_Run.run (va_runV (As := [.int (zi 9), .int (zi 1)]) (rest := [.int (zi (((10 * ((0 + (tf (Int.toNat 6))) - 48)) + (tf (Int.toNat 7))) - 48)), .int (zi x2)]) ⟨hx, hb, hml, hown, hts⟩ hh9 (cwV 2 hts gX4_typedNumber_X1_digits rfl rfl rfl (by decide +kernel) ⟨Nat.le_of_ble_eq_true rfl, Nat.le_of_ble_eq_true rfl⟩) ⟨zPr.blind _ _ _ _, va_recv hKc hPc (ci := 1) (q0 := 0) rfl rfl, fun U hU hW => ⟨rfl, by rw [hU]; exact hPc, va_K.moved hW.alike hKc⟩⟩ rfl rfl hl.1 rfl (lv_room (Nat.le_of_ble_eq_true rfl)) dX4_typedNumber_78 ⟨Nat.le_of_ble_eq_true rfl, Nat.le_of_ble_eq_true rfl⟩)) (fun r9 (hr9 : r9 = zi ((0 + (tf (Int.toNat 9))) - 48)) => ?_)
    subst hr9
    have hh10 := c_X0_weekNumber l x2 (((10 * ((0 + (tf (Int.toNat 6))) - 48)) + (tf (Int.toNat 7))) - 48) ((0 + (tf (Int.toNat 9))) - 48) (by omega) (by omega) (by omega)
    refine vp_callSi (va_Run.run (va_runS (As := [.int (zi x2), .int (zi (((10 * ((0 + (tf (Int.toNat 6))) - 48)) + (tf (Int.toNat 7))) - 48)), .int (zi ((0 + (tf (Int.toNat 9))) - 48))]) (rest := []) ⟨hx, hb, hml, hown, hts⟩ hh10 (va_cwS 3 hts gX4_typedNumber_X0_weekNumber rfl rfl rfl (by decide +kernel) ⟨Nat.le_of_ble_eq_true rfl, Nat.le_of_ble_eq_true rfl⟩) ⟨fun a U g mk q => q, fun U hU hW => ⟨rfl, trivial⟩⟩ rfl rfl hl.1 rfl (lv_room (Nat.le_of_ble_eq_true rfl)) dX4_typedNumber_81 ⟨Nat.zero_le _, Nat.zero_le _⟩)) (fun r10 (hr10 : r10 = zi (f_X0_weekNumber x2 (((10 * ((0 + (tf (Int.toNat 6))) - 48)) + (tf (Int.toNat 7))) - 48) ((0 + (tf (Int.toNat 9))) - 48))) => ?_)
    subst hr10
    have hf10 := b_X0_weekNumber x2 (((10 * ((0 + (tf (Int.toNat 6))) - 48)) + (tf (Int.toNat 7))) - 48) ((0 + (tf (Int.toNat 9))) - 48) (by omega) (by omega) (by omega)
    subst ex2
    exact W.iret (v := zi (f_X0_weekNumber (((10 * (((10 * (((10 * ((0 + (tf (Int.toNat 0))) - 48)) + (tf (Int.toNat 1))) - 48)) + (tf (Int.toNat 2))) - 48)) + (tf (Int.toNat 3))) - 48) (((10 * ((0 + (tf (Int.toNat 6))) - 48)) + (tf (Int.toNat 7))) - 48) ((0 + (tf (Int.toNat 9))) - 48))) hx hb hr (fun t ht hW => ⟨zi (f_X0_weekNumber (((10 * (((10 * (((10 * ((0 + (tf (Int.toNat 0))) - 48)) + (tf (Int.toNat 1))) - 48)) + (tf (Int.toNat 2))) - 48)) + (tf (Int.toNat 3))) - 48) (((10 * ((0 + (tf (Int.toNat 6))) - 48)) + (tf (Int.toNat 7))) - 48) ((0 + (tf (Int.toNat 9))) - 48)), rfl, by rw [f_X4_typedNumber, if_neg h3, if_pos h7], ht⟩) (fun q h => by cases h) dX4_typedNumber_84
  refine zw_lookup (tgt := 85) (off := 74) hx hb dX4_typedNumber_11 ⟨by omega, by omega⟩ (by decide) (by refine (zi_lk h3).trans ?_; refine (zi_lk h7).trans ?_;  rfl) (by decide) ?_
  refine lv_iload_n hx hb dX4_typedNumber_85 rfl (lv_at hl 0 rfl) ?_
  refine lv_aload_n hx hb dX4_typedNumber_86 rfl (lv_at hl 1 rfl) ?_
  refine va_get (D := (dC, dI)) (ci := 4) (v := .ref qt) (C := RX4) (T := TX4) (N := 6) hx hb hts (by decide +kernel) hown hK hP 0 rfl rfl 4 (by decide) (hts (.fieldLink RX4 34 "CivilDays" "typed" "LCivilDays$Line;") (by decide +kernel)) (fun _ h9 => h9) rfl dX4_typedNumber_87 ?_
  refine zw_iconst hx hb dX4_typedNumber_90 ?_
  refine zw_iconst hx hb dX4_typedNumber_91 ?_
  have hh11 := c_X1_digits_5_3 l dC dI cI qt tc tl tf (by omega)
  have hPc := hP.sub (ws' := [(qt, .inr (1, [.ref tc, .int (zi tl)])), (tc, aI cI 20 tf)]) [1, 2] rfl
  have hKc : va_K (dC, dI) vwCl [(cI, .int)] s := hK
  refine vp_callSi (va_Run.run (va_runV (As := [.int (zi 5), .int (zi 3)]) (rest := [.int (zi x2)]) ⟨hx, hb, hml, hown, hts⟩ hh11 (cwV 2 hts gX4_typedNumber_X1_digits rfl rfl rfl (by decide +kernel) ⟨Nat.le_of_ble_eq_true rfl, Nat.le_of_ble_eq_true rfl⟩) ⟨zPr.blind _ _ _ _, va_recv hKc hPc (ci := 1) (q0 := 0) rfl rfl, fun U hU hW => ⟨rfl, by rw [hU]; exact hPc, va_K.moved hW.alike hKc⟩⟩ rfl rfl hl.1 rfl (lv_room (Nat.le_of_ble_eq_true rfl)) dX4_typedNumber_92 ⟨Nat.le_of_ble_eq_true rfl, Nat.le_of_ble_eq_true rfl⟩)) (fun r11 (hr11 : r11 = zi (((10 * (((10 * ((0 + (tf (Int.toNat 5))) - 48)) + (tf (Int.toNat 6))) - 48)) + (tf (Int.toNat 7))) - 48)) => ?_)
  subst hr11
  have hh12 := c_X0_yearDayNumber l x2 (((10 * (((10 * ((0 + (tf (Int.toNat 5))) - 48)) + (tf (Int.toNat 6))) - 48)) + (tf (Int.toNat 7))) - 48) (by omega) (by omega)
  refine vp_callSi (va_Run.run (va_runS (As := [.int (zi x2), .int (zi (((10 * (((10 * ((0 + (tf (Int.toNat 5))) - 48)) + (tf (Int.toNat 6))) - 48)) + (tf (Int.toNat 7))) - 48))]) (rest := []) ⟨hx, hb, hml, hown, hts⟩ hh12 (va_cwS 2 hts gX4_typedNumber_X0_yearDayNumber rfl rfl rfl (by decide +kernel) ⟨Nat.le_of_ble_eq_true rfl, Nat.le_of_ble_eq_true rfl⟩) ⟨fun a U g mk q => q, fun U hU hW => ⟨rfl, trivial⟩⟩ rfl rfl hl.1 rfl (lv_room (Nat.le_of_ble_eq_true rfl)) dX4_typedNumber_95 ⟨Nat.zero_le _, Nat.zero_le _⟩)) (fun r12 (hr12 : r12 = zi (f_X0_yearDayNumber x2 (((10 * (((10 * ((0 + (tf (Int.toNat 5))) - 48)) + (tf (Int.toNat 6))) - 48)) + (tf (Int.toNat 7))) - 48))) => ?_)
  subst hr12
  have hf12 := b_X0_yearDayNumber x2 (((10 * (((10 * ((0 + (tf (Int.toNat 5))) - 48)) + (tf (Int.toNat 6))) - 48)) + (tf (Int.toNat 7))) - 48) (by omega) (by omega)
  subst ex2
  exact W.iret (v := zi (f_X0_yearDayNumber (((10 * (((10 * (((10 * ((0 + (tf (Int.toNat 0))) - 48)) + (tf (Int.toNat 1))) - 48)) + (tf (Int.toNat 2))) - 48)) + (tf (Int.toNat 3))) - 48) (((10 * (((10 * ((0 + (tf (Int.toNat 5))) - 48)) + (tf (Int.toNat 6))) - 48)) + (tf (Int.toNat 7))) - 48))) hx hb hr (fun t ht hW => ⟨zi (f_X0_yearDayNumber (((10 * (((10 * (((10 * ((0 + (tf (Int.toNat 0))) - 48)) + (tf (Int.toNat 1))) - 48)) + (tf (Int.toNat 2))) - 48)) + (tf (Int.toNat 3))) - 48) (((10 * (((10 * ((0 + (tf (Int.toNat 5))) - 48)) + (tf (Int.toNat 6))) - 48)) + (tf (Int.toNat 7))) - 48)), rfl, by rw [f_X4_typedNumber, if_neg h3, if_neg h7], ht⟩) (fun q h => by cases h) dX4_typedNumber_98

set_option maxHeartbeats 4000000 in
set_option maxRecDepth 100000 in
theorem t_X4_read (l : Launch) (hst : l.stackTraces = false) (h0 : Nat) (sl : Int) (hp0 : -2147483648 ≤ sl ∧ sl ≤ 2147483647) (hp1 : sl < 0 ∨ 9 < sl) : vx_Met l yX4_read wsX4_read ({ frames := 7, cells := 1, slots := 6, locals := 110 }) (zP [.ref h0, .int (zi sl)]) zNo (zX "java/lang/IndexOutOfBoundsException") 1 6 zN := by
  refine vx_ofW (cc := cX4_read) (maxL := 4) (ret := (some .int)) (by decide) rfl ?_
  intro p e s m args below meth c s₁ B hml hno hv
  obtain ⟨rfl, hE⟩ := hv
  have hx := B.exec
  have hb := B.bytes
  have hr := B.returns
  have hts := atoms_spec (ws := wsX4_read) B.pre
  have hown : s.vm.findClass RX4 = some m.cls := findClass_of_methodNamed B.named
  have hlocks := B.notSynchronized
  have hl := lv_entry ([.ref h0, .int (zi sl)]) (n := 4) (Nat.le_of_ble_eq_true rfl)
  rw [lg_entry_eq]
  generalize (lg_sl ([.ref h0, .int (zi sl)]) ++ List.replicate (4 - (lg_sl ([.ref h0, .int (zi sl)])).length) Slot.unset).toArray = ls at hl ⊢
  have hl : lv_has ls 4 [(0, .ref h0), (1, .int (zi sl))] := hl
  refine lv_iload_n hx hb dX4_read_0 rfl (lv_at hl 1 rfl) ?_
  have hh1 := t_X4_needSlot l hst sl (by omega) (by omega)
  exact zt_pass (vx_runS (As := [.int (zi sl)]) (rest := []) ⟨hx, hb, hml, hown, hts⟩ hh1 (va_cwS 1 hts gX4_read_X4_needSlot rfl rfl rfl (by decide +kernel) ⟨Nat.le_of_ble_eq_true rfl, Nat.le_of_ble_eq_true rfl⟩) ⟨zP.blind _, fun U hU hW => ⟨rfl, hE.call va_S.rf (fun q h => by rw [hU] at h; exact h) hU hW⟩⟩ rfl rfl hl.1 rfl (lv_room (Nat.le_of_ble_eq_true rfl)) dX4_read_1 ⟨Nat.le_of_ble_eq_true rfl, Nat.le_of_ble_eq_true rfl⟩) hno hlocks

set_option maxHeartbeats 4000000 in
set_option maxRecDepth 100000 in
theorem c_X4_read_n (l : Launch)  (dC : Nat → ClassId) (dI : Nat → Nat → Nat) (cI : ClassId) (h0 : Nat) (qs : Nat) (qr : Nat) (qm : Nat) (qw : Nat) (qt : Nat) (we : Int) (sf : Nat → Int) (tc : Nat) (tl : Int) (tf : Nat → Int) (x0 : Nat) (v0 : Nat) (x1 : Nat) (v1 : Nat) (x2 : Nat) (v2 : Nat) (qy : Option Nat) (sl : Int) (sz : Nat) (hp0 : 0 ≤ sl ∧ sl ≤ 9) (hp1 : 0 ≤ tl ∧ tl ≤ 20) (hp2 : ∀ j : Nat, 0 ≤ tf j ∧ tf j ≤ 126) (hp3 : (f_X4_typedText tf tl) < 0) : Met l yX4_read wsX4_read ({ frames := 6, cells := 0, slots := 0, locals := 132 }) (zPwF (dC, dI) [(cI, .int)] sz [.ref h0, .int (zi sl)] [(h0, .inr (4, [.ref qs, .ref qr, .ref qm, .ref qw, .ref qt, .int (zi we)])), (qs, aI cI 10 sf), (qt, .inr (1, [.ref tc, .int (zi tl)])), (tc, aI cI 20 tf)] (zP3 x0 v0 x1 v1 x2 v2 qy)) (va_Qi (fun (r : Int32) (_ : Unit) => r = zi (f_X4_typedText tf tl)) (zB (dC, dI) [(cI, .int)] (va_A [(h0, .inr (4, [.ref qs, .ref qr, .ref qm, .ref qw, .ref qt, .int (zi we)])), (qs, aI cI 10 sf), (qt, .inr (1, [.ref tc, .int (zi tl)])), (tc, aI cI 20 tf)] sz) [(h0, .inr (4, [.ref qs, .ref qr, .ref qm, .ref qw, .ref qt, .int (zi we)])), (qs, aI cI 10 sf), (qt, .inr (1, [.ref tc, .int (zi 0)])), (tc, aI cI 20 tf)]) (va_A [(h0, .inr (4, [.ref qs, .ref qr, .ref qm, .ref qw, .ref qt, .int (zi we)])), (qs, aI cI 10 sf), (qt, .inr (1, [.ref tc, .int (zi tl)])), (tc, aI cI 20 tf)] sz)) 0 0 (va_A [(h0, .inr (4, [.ref qs, .ref qr, .ref qm, .ref qw, .ref qt, .int (zi we)])), (qs, aI cI 10 sf), (qt, .inr (1, [.ref tc, .int (zi tl)])), (tc, aI cI 20 tf)] sz) := by
  refine Met.ofW (cc := cX4_read) (maxL := 4) (ret := (some .int)) (by decide) rfl ?_
  intro p e s m args below meth c s₁ B hml hv
  obtain ⟨rfl, hsz, hP, hK, hD0, hG⟩ := hv
  have hx := B.exec
  have hb := B.bytes
  have hr := B.returns
  have hts := atoms_spec (ws := wsX4_read) B.pre
  have hown : s.vm.findClass RX4 = some m.cls := findClass_of_methodNamed B.named
  have hlocks := B.notSynchronized
  subst hsz
  have hD := hD0.self (sz := s.heap.size)
  generalize hAe : va_A [(h0, .inr (4, [.ref qs, .ref qr, .ref qm, .ref qw, .ref qt, .int (zi we)])), (qs, aI cI 10 sf), (qt, .inr (1, [.ref tc, .int (zi tl)])), (tc, aI cI 20 tf)] s.heap.size = A at hD hG ⊢
  have hA : ∀ q : Nat, s.heap.size ≤ q → A q := fun q h => by rw [← hAe]; exact Or.inr h
  have hS : va_S A s.heap s.heap [] := va_S.rf
  have hP : va_P (dC, dI) vwCl [(h0, .inr (4, [.ref qs, .ref qr, .ref qm, .ref qw, .ref qt, .int (zi we)])), (qs, aI cI 10 sf), (qt, .inr (1, [.ref tc, .int (zi tl)])), (tc, aI cI 20 tf)] s.heap := hP
  have hl := lv_entry ([.ref h0, .int (zi sl)]) (n := 4) (Nat.le_of_ble_eq_true rfl)
  rw [lg_entry_eq]
  generalize (lg_sl ([.ref h0, .int (zi sl)]) ++ List.replicate (4 - (lg_sl ([.ref h0, .int (zi sl)])).length) Slot.unset).toArray = ls at hl ⊢
  have hl : lv_has ls 4 [(0, .ref h0), (1, .int (zi sl))] := hl
  have hTB := hp2
  have hbt := b_X4_typedText tf tl (by omega)
  refine lv_iload_n hx hb dX4_read_0 rfl (lv_at hl 1 rfl) ?_
  have hh1 := c_X4_needSlot l sl (by omega)
  refine va_csv (va_Run.run (va_runS (As := [.int (zi sl)]) (rest := []) ⟨hx, hb, hml, hown, hts⟩ hh1 (va_cwS 1 hts gX4_read_X4_needSlot rfl rfl rfl (by decide +kernel) ⟨Nat.le_of_ble_eq_true rfl, Nat.le_of_ble_eq_true rfl⟩) ⟨fun a U g mk q => q, fun U hU hW => ⟨rfl, trivial⟩⟩ rfl rfl hl.1 rfl (lv_room (Nat.le_of_ble_eq_true rfl)) dX4_read_1 ⟨Nat.le_of_ble_eq_true rfl, Nat.le_of_ble_eq_true rfl⟩)) (fun _ => ?_)
  refine lv_aload_n hx hb dX4_read_4 rfl (lv_at hl 0 rfl) ?_
  have hh2 := c_X4_typedText l dC dI cI h0 qs qr qm qw qt we tc tl tf x0 v0 x1 v1 x2 v2 qy (by omega) (by first | exact hTB)
  have hPc := hP.sub (ws' := [(h0, .inr (4, [.ref qs, .ref qr, .ref qm, .ref qw, .ref qt, .int (zi we)])), (qt, .inr (1, [.ref tc, .int (zi tl)])), (tc, aI cI 20 tf)]) [0, 2, 3] rfl
  have hKc : va_K (dC, dI) vwCl [(cI, .int)] s := hK
  refine vp_callSi (va_Run.run (va_runV (As := []) (rest := []) ⟨hx, hb, hml, hown, hts⟩ hh2 (cwV 0 hts gX4_read_X4_typedText rfl rfl rfl (by decide +kernel) ⟨Nat.le_of_ble_eq_true rfl, Nat.le_of_ble_eq_true rfl⟩) ⟨zPrF.blind _ _ _ _ zP3_ok, va_recv hKc hPc (ci := 4) (q0 := 0) rfl rfl, fun U hU hW => ⟨rfl, by rw [hU]; exact hPc, va_K.moved hW.alike hKc, zF.call zP3_ok hG hS (fun _ h => h.elim) hU hW⟩⟩ rfl rfl hl.1 rfl (lv_room (Nat.le_of_ble_eq_true rfl)) dX4_read_5 ⟨Nat.le_of_ble_eq_true rfl, Nat.le_of_ble_eq_true rfl⟩)) (fun r2 (hr2 : r2 = zi (f_X4_typedText tf tl)) => ?_)
  subst hr2
  have hf2_0 := b_X4_typedText tf tl (by omega)
  refine zw_top (fun x3 ex3 => ?_)
  refine lv_istore_n (lv' := [(2, .int (zi x3)), (0, .ref h0), (1, .int (zi sl))]) hx hb dX4_read_8 rfl hl (by decide) rfl (fun ls hl => ?_)
  refine lv_iload_n hx hb dX4_read_9 rfl (lv_at hl 0 rfl) ?_
  refine zw_if_ge (tgt := 17) hx hb dX4_read_10 (by decide) ⟨by omega, by omega⟩ (fun h4 => ?_) (fun h4 => ?_)
  · skip
    subst ex3
    exact absurd True.intro (by omega)
  · skip
    refine zw_iconst hx hb dX4_read_13 ?_
    refine lv_goto (tgt := 22) hx hb dX4_read_14 (by decide) ?_
    refine lv_istore_n (lv' := [(3, .int (zi (-1))), (2, .int (zi x3)), (0, .ref h0), (1, .int (zi sl))]) hx hb dX4_read_22 rfl hl (by decide) rfl (fun ls hl => ?_)
    refine lv_aload_n hx hb dX4_read_23 rfl (lv_at hl 2 rfl) ?_
    refine va_get (D := (dC, dI)) (ci := 4) (v := .ref qt) (C := RX4) (T := TX4) (N := 6) hx hb hts (by decide +kernel) hown hK hP 0 rfl rfl 4 (by decide) (hts (.fieldLink RX4 34 "CivilDays" "typed" "LCivilDays$Line;") (by decide +kernel)) (fun _ h9 => h9) rfl dX4_read_24 ?_
    have hh5 := c_X1_empty l dC dI cI qt tc tl tf s.heap.size 
    have hPc := hP.sub (ws' := [(qt, .inr (1, [.ref tc, .int (zi tl)])), (tc, aI cI 20 tf)]) [2, 3] rfl
    have hKc : va_K (dC, dI) vwCl [(cI, .int)] s := hK
    have hDc := hD.sub (ws' := [(qt, .inr (1, [.ref tc, .int (zi tl)])), (tc, aI cI 20 tf)]) [2, 3] (by decide) rfl
    have hFc := va_free (wc := [(qt, .inr (1, [.ref tc, .int (zi tl)])), (tc, aI cI 20 tf)]) hD hS hA [2, 3] rfl
    refine va_callv (va_runV (As := []) (rest := []) ⟨hx, hb, hml, hown, hts⟩ hh5 (cwV 0 hts gX4_read_X1_empty rfl rfl rfl (by decide +kernel) ⟨Nat.le_of_ble_eq_true rfl, Nat.le_of_ble_eq_true rfl⟩) ⟨zPw.blind _ _ _ _ _, va_recv hKc hPc (ci := 1) (q0 := 0) rfl rfl, fun U hU hW => ⟨rfl, by rw [hU], by rw [hU]; exact hPc, va_K.moved hW.alike hKc, hDc.weaken (fun _ _ _ _ => trivial)⟩⟩ rfl rfl hl.1 rfl (lv_room (Nat.le_of_ble_eq_true rfl)) dX4_read_27 ⟨Nat.le_of_ble_eq_true rfl, Nat.le_of_ble_eq_true rfl⟩) hS (fun q _ h => hFc q h) hFc (fun u t H1 locs ht hvm hw hB hz1 hk1 hS => ?_)
    obtain ⟨hP1, hK1, hD1⟩ := hB
    rw [ht] at hP1
    obtain ⟨hP, hD⟩ := va_join (wr := [(h0, .inr (4, [.ref qs, .ref qr, .ref qm, .ref qw, .ref qt, .int (zi we)])), (qs, aI cI 10 sf)]) (w1 := [(qt, .inr (1, [.ref tc, .int (zi 0)])), (tc, aI cI 20 tf)]) hP hD [2, 3] [0, 1] rfl rfl (by decide) (by decide) hk1 hFc hP1 hD1
    generalize H1 = H at hP hS ⊢
    have hP : va_P (dC, dI) vwCl [(h0, .inr (4, [.ref qs, .ref qr, .ref qm, .ref qw, .ref qt, .int (zi we)])), (qs, aI cI 10 sf), (qt, .inr (1, [.ref tc, .int (zi 0)])), (tc, aI cI 20 tf)] H := hP
    have hD : va_D A [(h0, .inr (4, [.ref qs, .ref qr, .ref qm, .ref qw, .ref qt, .int (zi we)])), (qs, aI cI 10 sf), (qt, .inr (1, [.ref tc, .int (zi 0)])), (tc, aI cI 20 tf)] := hD
    refine lv_iload_n hx hb dX4_read_30 rfl (lv_at hl 1 rfl) ?_
    refine zw_if_lt (tgt := 42) hx hb dX4_read_31 (by decide) ⟨by omega, by omega⟩ (fun h6 => ?_) (fun h6 => ?_)
    · skip
      refine lv_iload_n hx hb dX4_read_42 rfl (lv_at hl 1 rfl) ?_
      refine zw_if_lt (tgt := 53) hx hb dX4_read_43 (by decide) ⟨by omega, by omega⟩ (fun h7 => ?_) (fun h7 => ?_)
      · skip
        refine lv_iload_n hx hb dX4_read_53 rfl (lv_at hl 1 rfl) ?_
        subst ex3
        have hP9 := hP.sub (ws' := [(h0, .inr (4, [.ref qs, .ref qr, .ref qm, .ref qw, .ref qt, .int (zi we)])), (qs, aI cI 10 sf), (qt, .inr (1, [.ref tc, .int (zi 0)])), (tc, aI cI 20 tf)]) [0, 1, 2, 3] rfl
        have hD9 := hD.sub (ws' := [(h0, .inr (4, [.ref qs, .ref qr, .ref qm, .ref qw, .ref qt, .int (zi we)])), (qs, aI cI 10 sf), (qt, .inr (1, [.ref tc, .int (zi 0)])), (tc, aI cI 20 tf)]) [0, 1, 2, 3] (by decide) rfl
        exact W.iret (v := zi (f_X4_typedText tf tl)) hx hb hr (fun t ht hW => ⟨⟨zi (f_X4_typedText tf tl), (), rfl, rfl, by rw [ht]; exact hP9, va_K.moved hW.alike hK, hD9⟩, hS.F ht⟩) hS.2.2 dX4_read_54
      · skip
        subst ex3
        exact absurd True.intro (by omega)
    · skip
      subst ex3
      exact absurd True.intro (by omega)

set_option maxHeartbeats 4000000 in
set_option maxRecDepth 100000 in
theorem c_X4_read_d (l : Launch)  (dC : Nat → ClassId) (dI : Nat → Nat → Nat) (cI : ClassId) (h0 : Nat) (qs : Nat) (qr : Nat) (qm : Nat) (qw : Nat) (qt : Nat) (we : Int) (sf : Nat → Int) (tc : Nat) (tl : Int) (tf : Nat → Int) (x0 : Nat) (v0 : Nat) (x1 : Nat) (v1 : Nat) (x2 : Nat) (v2 : Nat) (qy : Option Nat) (sl : Int) (sz : Nat) (hp0 : 0 ≤ sl ∧ sl ≤ 9) (hp1 : 0 ≤ tl ∧ tl ≤ 20) (hp2 : ∀ j : Nat, 0 ≤ tf j ∧ tf j ≤ 126) (hp3 : 0 ≤ (f_X4_typedText tf tl)) (hp4 : (f_X4_typedNumber tf (f_X4_typedText tf tl)) = -1) : Met l yX4_read wsX4_read ({ frames := 6, cells := 0, slots := 0, locals := 132 }) (zPwF (dC, dI) [(cI, .int)] sz [.ref h0, .int (zi sl)] [(h0, .inr (4, [.ref qs, .ref qr, .ref qm, .ref qw, .ref qt, .int (zi we)])), (qs, aI cI 10 sf), (qt, .inr (1, [.ref tc, .int (zi tl)])), (tc, aI cI 20 tf)] (zP3 x0 v0 x1 v1 x2 v2 qy)) (va_Qi (fun (r : Int32) (_ : Unit) => r = zi (-30)) (zB (dC, dI) [(cI, .int)] (va_A [(h0, .inr (4, [.ref qs, .ref qr, .ref qm, .ref qw, .ref qt, .int (zi we)])), (qs, aI cI 10 sf), (qt, .inr (1, [.ref tc, .int (zi tl)])), (tc, aI cI 20 tf)] sz) [(h0, .inr (4, [.ref qs, .ref qr, .ref qm, .ref qw, .ref qt, .int (zi we)])), (qs, aI cI 10 sf), (qt, .inr (1, [.ref tc, .int (zi 0)])), (tc, aI cI 20 tf)]) (va_A [(h0, .inr (4, [.ref qs, .ref qr, .ref qm, .ref qw, .ref qt, .int (zi we)])), (qs, aI cI 10 sf), (qt, .inr (1, [.ref tc, .int (zi tl)])), (tc, aI cI 20 tf)] sz)) 0 0 (va_A [(h0, .inr (4, [.ref qs, .ref qr, .ref qm, .ref qw, .ref qt, .int (zi we)])), (qs, aI cI 10 sf), (qt, .inr (1, [.ref tc, .int (zi tl)])), (tc, aI cI 20 tf)] sz) := by
  refine Met.ofW (cc := cX4_read) (maxL := 4) (ret := (some .int)) (by decide) rfl ?_
  intro p e s m args below meth c s₁ B hml hv
  obtain ⟨rfl, hsz, hP, hK, hD0, hG⟩ := hv
  have hx := B.exec
  have hb := B.bytes
  have hr := B.returns
  have hts := atoms_spec (ws := wsX4_read) B.pre
  have hown : s.vm.findClass RX4 = some m.cls := findClass_of_methodNamed B.named
  have hlocks := B.notSynchronized
  subst hsz
  have hD := hD0.self (sz := s.heap.size)
  generalize hAe : va_A [(h0, .inr (4, [.ref qs, .ref qr, .ref qm, .ref qw, .ref qt, .int (zi we)])), (qs, aI cI 10 sf), (qt, .inr (1, [.ref tc, .int (zi tl)])), (tc, aI cI 20 tf)] s.heap.size = A at hD hG ⊢
  have hA : ∀ q : Nat, s.heap.size ≤ q → A q := fun q h => by rw [← hAe]; exact Or.inr h
  have hS : va_S A s.heap s.heap [] := va_S.rf
  have hP : va_P (dC, dI) vwCl [(h0, .inr (4, [.ref qs, .ref qr, .ref qm, .ref qw, .ref qt, .int (zi we)])), (qs, aI cI 10 sf), (qt, .inr (1, [.ref tc, .int (zi tl)])), (tc, aI cI 20 tf)] s.heap := hP
  have hl := lv_entry ([.ref h0, .int (zi sl)]) (n := 4) (Nat.le_of_ble_eq_true rfl)
  rw [lg_entry_eq]
  generalize (lg_sl ([.ref h0, .int (zi sl)]) ++ List.replicate (4 - (lg_sl ([.ref h0, .int (zi sl)])).length) Slot.unset).toArray = ls at hl ⊢
  have hl : lv_has ls 4 [(0, .ref h0), (1, .int (zi sl))] := hl
  have hTB := hp2
  have hbt := b_X4_typedText tf tl (by omega)
  refine lv_iload_n hx hb dX4_read_0 rfl (lv_at hl 1 rfl) ?_
  have hh1 := c_X4_needSlot l sl (by omega)
  refine va_csv (va_Run.run (va_runS (As := [.int (zi sl)]) (rest := []) ⟨hx, hb, hml, hown, hts⟩ hh1 (va_cwS 1 hts gX4_read_X4_needSlot rfl rfl rfl (by decide +kernel) ⟨Nat.le_of_ble_eq_true rfl, Nat.le_of_ble_eq_true rfl⟩) ⟨fun a U g mk q => q, fun U hU hW => ⟨rfl, trivial⟩⟩ rfl rfl hl.1 rfl (lv_room (Nat.le_of_ble_eq_true rfl)) dX4_read_1 ⟨Nat.le_of_ble_eq_true rfl, Nat.le_of_ble_eq_true rfl⟩)) (fun _ => ?_)
  refine lv_aload_n hx hb dX4_read_4 rfl (lv_at hl 0 rfl) ?_
  have hh2 := c_X4_typedText l dC dI cI h0 qs qr qm qw qt we tc tl tf x0 v0 x1 v1 x2 v2 qy (by omega) (by first | exact hTB)
  have hPc := hP.sub (ws' := [(h0, .inr (4, [.ref qs, .ref qr, .ref qm, .ref qw, .ref qt, .int (zi we)])), (qt, .inr (1, [.ref tc, .int (zi tl)])), (tc, aI cI 20 tf)]) [0, 2, 3] rfl
  have hKc : va_K (dC, dI) vwCl [(cI, .int)] s := hK
  refine vp_callSi (va_Run.run (va_runV (As := []) (rest := []) ⟨hx, hb, hml, hown, hts⟩ hh2 (cwV 0 hts gX4_read_X4_typedText rfl rfl rfl (by decide +kernel) ⟨Nat.le_of_ble_eq_true rfl, Nat.le_of_ble_eq_true rfl⟩) ⟨zPrF.blind _ _ _ _ zP3_ok, va_recv hKc hPc (ci := 4) (q0 := 0) rfl rfl, fun U hU hW => ⟨rfl, by rw [hU]; exact hPc, va_K.moved hW.alike hKc, zF.call zP3_ok hG hS (fun _ h => h.elim) hU hW⟩⟩ rfl rfl hl.1 rfl (lv_room (Nat.le_of_ble_eq_true rfl)) dX4_read_5 ⟨Nat.le_of_ble_eq_true rfl, Nat.le_of_ble_eq_true rfl⟩)) (fun r2 (hr2 : r2 = zi (f_X4_typedText tf tl)) => ?_)
  subst hr2
  have hf2_0 := b_X4_typedText tf tl (by omega)
  refine zw_top (fun x3 ex3 => ?_)
  refine lv_istore_n (lv' := [(2, .int (zi x3)), (0, .ref h0), (1, .int (zi sl))]) hx hb dX4_read_8 rfl hl (by decide) rfl (fun ls hl => ?_)
  refine lv_iload_n hx hb dX4_read_9 rfl (lv_at hl 0 rfl) ?_
  refine zw_if_ge (tgt := 17) hx hb dX4_read_10 (by decide) ⟨by omega, by omega⟩ (fun h4 => ?_) (fun h4 => ?_)
  · skip
    refine lv_aload_n hx hb dX4_read_17 rfl (lv_at hl 1 rfl) ?_
    refine lv_iload_n hx hb dX4_read_18 rfl (lv_at hl 0 rfl) ?_
    have hh5 := c_X4_typedNumber l dC dI cI h0 qs qr qm qw qt we tc tl tf x3 (by omega) (by omega) (by exact hTB)
    have hPc := hP.sub (ws' := [(h0, .inr (4, [.ref qs, .ref qr, .ref qm, .ref qw, .ref qt, .int (zi we)])), (qt, .inr (1, [.ref tc, .int (zi tl)])), (tc, aI cI 20 tf)]) [0, 2, 3] rfl
    have hKc : va_K (dC, dI) vwCl [(cI, .int)] s := hK
    refine vp_callSi (va_Run.run (va_runV (As := [.int (zi x3)]) (rest := []) ⟨hx, hb, hml, hown, hts⟩ hh5 (cwV 1 hts gX4_read_X4_typedNumber rfl rfl rfl (by decide +kernel) ⟨Nat.le_of_ble_eq_true rfl, Nat.le_of_ble_eq_true rfl⟩) ⟨zPr.blind _ _ _ _, va_recv hKc hPc (ci := 4) (q0 := 0) rfl rfl, fun U hU hW => ⟨rfl, by rw [hU]; exact hPc, va_K.moved hW.alike hKc⟩⟩ rfl rfl hl.1 rfl (lv_room (Nat.le_of_ble_eq_true rfl)) dX4_read_19 ⟨Nat.le_of_ble_eq_true rfl, Nat.le_of_ble_eq_true rfl⟩)) (fun r5 (hr5 : r5 = zi (f_X4_typedNumber tf x3)) => ?_)
    subst hr5
    have hf5_0 := b_X4_typedNumber tf x3 (by omega) (by exact hTB)
    refine zw_top (fun x6 ex6 => ?_)
    refine lv_istore_n (lv' := [(3, .int (zi x6)), (2, .int (zi x3)), (0, .ref h0), (1, .int (zi sl))]) hx hb dX4_read_22 rfl hl (by decide) rfl (fun ls hl => ?_)
    refine lv_aload_n hx hb dX4_read_23 rfl (lv_at hl 2 rfl) ?_
    refine va_get (D := (dC, dI)) (ci := 4) (v := .ref qt) (C := RX4) (T := TX4) (N := 6) hx hb hts (by decide +kernel) hown hK hP 0 rfl rfl 4 (by decide) (hts (.fieldLink RX4 34 "CivilDays" "typed" "LCivilDays$Line;") (by decide +kernel)) (fun _ h9 => h9) rfl dX4_read_24 ?_
    have hh7 := c_X1_empty l dC dI cI qt tc tl tf s.heap.size 
    have hPc := hP.sub (ws' := [(qt, .inr (1, [.ref tc, .int (zi tl)])), (tc, aI cI 20 tf)]) [2, 3] rfl
    have hKc : va_K (dC, dI) vwCl [(cI, .int)] s := hK
    have hDc := hD.sub (ws' := [(qt, .inr (1, [.ref tc, .int (zi tl)])), (tc, aI cI 20 tf)]) [2, 3] (by decide) rfl
    have hFc := va_free (wc := [(qt, .inr (1, [.ref tc, .int (zi tl)])), (tc, aI cI 20 tf)]) hD hS hA [2, 3] rfl
    refine va_callv (va_runV (As := []) (rest := []) ⟨hx, hb, hml, hown, hts⟩ hh7 (cwV 0 hts gX4_read_X1_empty rfl rfl rfl (by decide +kernel) ⟨Nat.le_of_ble_eq_true rfl, Nat.le_of_ble_eq_true rfl⟩) ⟨zPw.blind _ _ _ _ _, va_recv hKc hPc (ci := 1) (q0 := 0) rfl rfl, fun U hU hW => ⟨rfl, by rw [hU], by rw [hU]; exact hPc, va_K.moved hW.alike hKc, hDc.weaken (fun _ _ _ _ => trivial)⟩⟩ rfl rfl hl.1 rfl (lv_room (Nat.le_of_ble_eq_true rfl)) dX4_read_27 ⟨Nat.le_of_ble_eq_true rfl, Nat.le_of_ble_eq_true rfl⟩) hS (fun q _ h => hFc q h) hFc (fun u t H1 locs ht hvm hw hB hz1 hk1 hS => ?_)
    obtain ⟨hP1, hK1, hD1⟩ := hB
    rw [ht] at hP1
    obtain ⟨hP, hD⟩ := va_join (wr := [(h0, .inr (4, [.ref qs, .ref qr, .ref qm, .ref qw, .ref qt, .int (zi we)])), (qs, aI cI 10 sf)]) (w1 := [(qt, .inr (1, [.ref tc, .int (zi 0)])), (tc, aI cI 20 tf)]) hP hD [2, 3] [0, 1] rfl rfl (by decide) (by decide) hk1 hFc hP1 hD1
    generalize H1 = H at hP hS ⊢
    have hP : va_P (dC, dI) vwCl [(h0, .inr (4, [.ref qs, .ref qr, .ref qm, .ref qw, .ref qt, .int (zi we)])), (qs, aI cI 10 sf), (qt, .inr (1, [.ref tc, .int (zi 0)])), (tc, aI cI 20 tf)] H := hP
    have hD : va_D A [(h0, .inr (4, [.ref qs, .ref qr, .ref qm, .ref qw, .ref qt, .int (zi we)])), (qs, aI cI 10 sf), (qt, .inr (1, [.ref tc, .int (zi 0)])), (tc, aI cI 20 tf)] := hD
    refine lv_iload_n hx hb dX4_read_30 rfl (lv_at hl 1 rfl) ?_
    refine zw_if_lt (tgt := 42) hx hb dX4_read_31 (by decide) ⟨by omega, by omega⟩ (fun h8 => ?_) (fun h8 => ?_)
    · skip
      subst ex3 ex6
      exact absurd True.intro (by omega)
    · skip
      refine lv_iload_n hx hb dX4_read_34 rfl (lv_at hl 0 rfl) ?_
      refine zw_iconst hx hb dX4_read_35 ?_
      refine zw_icmp_ne (tgt := 42) hx hb dX4_read_36 (by decide) ⟨by omega, by omega⟩ ⟨by omega, by omega⟩ (fun h9 => ?_) (fun h9 => ?_)
      · skip
        subst ex3 ex6
        exact absurd True.intro (by omega)
      · skip
        refine zw_bipush hx hb dX4_read_39 (by decide) ?_
        subst ex3 ex6
        have hP9 := hP.sub (ws' := [(h0, .inr (4, [.ref qs, .ref qr, .ref qm, .ref qw, .ref qt, .int (zi we)])), (qs, aI cI 10 sf), (qt, .inr (1, [.ref tc, .int (zi 0)])), (tc, aI cI 20 tf)]) [0, 1, 2, 3] rfl
        have hD9 := hD.sub (ws' := [(h0, .inr (4, [.ref qs, .ref qr, .ref qm, .ref qw, .ref qt, .int (zi we)])), (qs, aI cI 10 sf), (qt, .inr (1, [.ref tc, .int (zi 0)])), (tc, aI cI 20 tf)]) [0, 1, 2, 3] (by decide) rfl
        exact W.iret (v := zi (-30)) hx hb hr (fun t ht hW => ⟨⟨zi (-30), (), rfl, rfl, by rw [ht]; exact hP9, va_K.moved hW.alike hK, hD9⟩, hS.F ht⟩) hS.2.2 dX4_read_41
  · skip
    subst ex3
    exact absurd True.intro (by omega)

set_option maxHeartbeats 4000000 in
set_option maxRecDepth 100000 in
theorem c_X4_read (l : Launch)  (dC : Nat → ClassId) (dI : Nat → Nat → Nat) (cI : ClassId) (h0 : Nat) (qs : Nat) (qr : Nat) (qm : Nat) (qw : Nat) (qt : Nat) (we : Int) (sf : Nat → Int) (tc : Nat) (tl : Int) (tf : Nat → Int) (x0 : Nat) (v0 : Nat) (x1 : Nat) (v1 : Nat) (x2 : Nat) (v2 : Nat) (qy : Option Nat) (sl : Int) (sz : Nat) (hp0 : 0 ≤ sl ∧ sl ≤ 9) (hp1 : 0 ≤ tl ∧ tl ≤ 20) (hp2 : ∀ j : Nat, 0 ≤ tf j ∧ tf j ≤ 126) (hp3 : 0 ≤ (f_X4_typedText tf tl)) (hp4 : (f_X4_typedNumber tf (f_X4_typedText tf tl)) ≠ -1) : Met l yX4_read wsX4_read ({ frames := 6, cells := 0, slots := 0, locals := 132 }) (zPwF (dC, dI) [(cI, .int)] sz [.ref h0, .int (zi sl)] [(h0, .inr (4, [.ref qs, .ref qr, .ref qm, .ref qw, .ref qt, .int (zi we)])), (qs, aI cI 10 sf), (qt, .inr (1, [.ref tc, .int (zi tl)])), (tc, aI cI 20 tf)] (zP3 x0 v0 x1 v1 x2 v2 qy)) (va_Qi (fun (r : Int32) (_ : Unit) => r = zi (f_X4_typedText tf tl)) (zB (dC, dI) [(cI, .int)] (va_A [(h0, .inr (4, [.ref qs, .ref qr, .ref qm, .ref qw, .ref qt, .int (zi we)])), (qs, aI cI 10 sf), (qt, .inr (1, [.ref tc, .int (zi tl)])), (tc, aI cI 20 tf)] sz) [(h0, .inr (4, [.ref qs, .ref qr, .ref qm, .ref qw, .ref qt, .int (zi we)])), (qs, aI cI 10 (zup sf sl.toNat (f_X4_typedNumber tf (f_X4_typedText tf tl)))), (qt, .inr (1, [.ref tc, .int (zi 0)])), (tc, aI cI 20 tf)]) (va_A [(h0, .inr (4, [.ref qs, .ref qr, .ref qm, .ref qw, .ref qt, .int (zi we)])), (qs, aI cI 10 sf), (qt, .inr (1, [.ref tc, .int (zi tl)])), (tc, aI cI 20 tf)] sz)) 0 0 (va_A [(h0, .inr (4, [.ref qs, .ref qr, .ref qm, .ref qw, .ref qt, .int (zi we)])), (qs, aI cI 10 sf), (qt, .inr (1, [.ref tc, .int (zi tl)])), (tc, aI cI 20 tf)] sz) := by
  refine Met.ofW (cc := cX4_read) (maxL := 4) (ret := (some .int)) (by decide) rfl ?_
  intro p e s m args below meth c s₁ B hml hv
  obtain ⟨rfl, hsz, hP, hK, hD0, hG⟩ := hv
  have hx := B.exec
  have hb := B.bytes
  have hr := B.returns
  have hts := atoms_spec (ws := wsX4_read) B.pre
  have hown : s.vm.findClass RX4 = some m.cls := findClass_of_methodNamed B.named
  have hlocks := B.notSynchronized
  subst hsz
  have hD := hD0.self (sz := s.heap.size)
  generalize hAe : va_A [(h0, .inr (4, [.ref qs, .ref qr, .ref qm, .ref qw, .ref qt, .int (zi we)])), (qs, aI cI 10 sf), (qt, .inr (1, [.ref tc, .int (zi tl)])), (tc, aI cI 20 tf)] s.heap.size = A at hD hG ⊢
  have hA : ∀ q : Nat, s.heap.size ≤ q → A q := fun q h => by rw [← hAe]; exact Or.inr h
  have hS : va_S A s.heap s.heap [] := va_S.rf
  have hP : va_P (dC, dI) vwCl [(h0, .inr (4, [.ref qs, .ref qr, .ref qm, .ref qw, .ref qt, .int (zi we)])), (qs, aI cI 10 sf), (qt, .inr (1, [.ref tc, .int (zi tl)])), (tc, aI cI 20 tf)] s.heap := hP
  have hl := lv_entry ([.ref h0, .int (zi sl)]) (n := 4) (Nat.le_of_ble_eq_true rfl)
  rw [lg_entry_eq]
  generalize (lg_sl ([.ref h0, .int (zi sl)]) ++ List.replicate (4 - (lg_sl ([.ref h0, .int (zi sl)])).length) Slot.unset).toArray = ls at hl ⊢
  have hl : lv_has ls 4 [(0, .ref h0), (1, .int (zi sl))] := hl
  have hTB := hp2
  have hbt := b_X4_typedText tf tl (by omega)
  refine lv_iload_n hx hb dX4_read_0 rfl (lv_at hl 1 rfl) ?_
  have hh1 := c_X4_needSlot l sl (by omega)
  refine va_csv (va_Run.run (va_runS (As := [.int (zi sl)]) (rest := []) ⟨hx, hb, hml, hown, hts⟩ hh1 (va_cwS 1 hts gX4_read_X4_needSlot rfl rfl rfl (by decide +kernel) ⟨Nat.le_of_ble_eq_true rfl, Nat.le_of_ble_eq_true rfl⟩) ⟨fun a U g mk q => q, fun U hU hW => ⟨rfl, trivial⟩⟩ rfl rfl hl.1 rfl (lv_room (Nat.le_of_ble_eq_true rfl)) dX4_read_1 ⟨Nat.le_of_ble_eq_true rfl, Nat.le_of_ble_eq_true rfl⟩)) (fun _ => ?_)
  refine lv_aload_n hx hb dX4_read_4 rfl (lv_at hl 0 rfl) ?_
  have hh2 := c_X4_typedText l dC dI cI h0 qs qr qm qw qt we tc tl tf x0 v0 x1 v1 x2 v2 qy (by omega) (by first | exact hTB)
  have hPc := hP.sub (ws' := [(h0, .inr (4, [.ref qs, .ref qr, .ref qm, .ref qw, .ref qt, .int (zi we)])), (qt, .inr (1, [.ref tc, .int (zi tl)])), (tc, aI cI 20 tf)]) [0, 2, 3] rfl
  have hKc : va_K (dC, dI) vwCl [(cI, .int)] s := hK
  refine vp_callSi (va_Run.run (va_runV (As := []) (rest := []) ⟨hx, hb, hml, hown, hts⟩ hh2 (cwV 0 hts gX4_read_X4_typedText rfl rfl rfl (by decide +kernel) ⟨Nat.le_of_ble_eq_true rfl, Nat.le_of_ble_eq_true rfl⟩) ⟨zPrF.blind _ _ _ _ zP3_ok, va_recv hKc hPc (ci := 4) (q0 := 0) rfl rfl, fun U hU hW => ⟨rfl, by rw [hU]; exact hPc, va_K.moved hW.alike hKc, zF.call zP3_ok hG hS (fun _ h => h.elim) hU hW⟩⟩ rfl rfl hl.1 rfl (lv_room (Nat.le_of_ble_eq_true rfl)) dX4_read_5 ⟨Nat.le_of_ble_eq_true rfl, Nat.le_of_ble_eq_true rfl⟩)) (fun r2 (hr2 : r2 = zi (f_X4_typedText tf tl)) => ?_)
  subst hr2
  have hf2_0 := b_X4_typedText tf tl (by omega)
  refine zw_top (fun x3 ex3 => ?_)
  refine lv_istore_n (lv' := [(2, .int (zi x3)), (0, .ref h0), (1, .int (zi sl))]) hx hb dX4_read_8 rfl hl (by decide) rfl (fun ls hl => ?_)
  refine lv_iload_n hx hb dX4_read_9 rfl (lv_at hl 0 rfl) ?_
  refine zw_if_ge (tgt := 17) hx hb dX4_read_10 (by decide) ⟨by omega, by omega⟩ (fun h4 => ?_) (fun h4 => ?_)
  · skip
    refine lv_aload_n hx hb dX4_read_17 rfl (lv_at hl 1 rfl) ?_
    refine lv_iload_n hx hb dX4_read_18 rfl (lv_at hl 0 rfl) ?_
    have hh5 := c_X4_typedNumber l dC dI cI h0 qs qr qm qw qt we tc tl tf x3 (by omega) (by omega) (by exact hTB)
    have hPc := hP.sub (ws' := [(h0, .inr (4, [.ref qs, .ref qr, .ref qm, .ref qw, .ref qt, .int (zi we)])), (qt, .inr (1, [.ref tc, .int (zi tl)])), (tc, aI cI 20 tf)]) [0, 2, 3] rfl
    have hKc : va_K (dC, dI) vwCl [(cI, .int)] s := hK
    refine vp_callSi (va_Run.run (va_runV (As := [.int (zi x3)]) (rest := []) ⟨hx, hb, hml, hown, hts⟩ hh5 (cwV 1 hts gX4_read_X4_typedNumber rfl rfl rfl (by decide +kernel) ⟨Nat.le_of_ble_eq_true rfl, Nat.le_of_ble_eq_true rfl⟩) ⟨zPr.blind _ _ _ _, va_recv hKc hPc (ci := 4) (q0 := 0) rfl rfl, fun U hU hW => ⟨rfl, by rw [hU]; exact hPc, va_K.moved hW.alike hKc⟩⟩ rfl rfl hl.1 rfl (lv_room (Nat.le_of_ble_eq_true rfl)) dX4_read_19 ⟨Nat.le_of_ble_eq_true rfl, Nat.le_of_ble_eq_true rfl⟩)) (fun r5 (hr5 : r5 = zi (f_X4_typedNumber tf x3)) => ?_)
    subst hr5
    have hf5_0 := b_X4_typedNumber tf x3 (by omega) (by exact hTB)
    refine zw_top (fun x6 ex6 => ?_)
    refine lv_istore_n (lv' := [(3, .int (zi x6)), (2, .int (zi x3)), (0, .ref h0), (1, .int (zi sl))]) hx hb dX4_read_22 rfl hl (by decide) rfl (fun ls hl => ?_)
    refine lv_aload_n hx hb dX4_read_23 rfl (lv_at hl 2 rfl) ?_
    refine va_get (D := (dC, dI)) (ci := 4) (v := .ref qt) (C := RX4) (T := TX4) (N := 6) hx hb hts (by decide +kernel) hown hK hP 0 rfl rfl 4 (by decide) (hts (.fieldLink RX4 34 "CivilDays" "typed" "LCivilDays$Line;") (by decide +kernel)) (fun _ h9 => h9) rfl dX4_read_24 ?_
    have hh7 := c_X1_empty l dC dI cI qt tc tl tf s.heap.size 
    have hPc := hP.sub (ws' := [(qt, .inr (1, [.ref tc, .int (zi tl)])), (tc, aI cI 20 tf)]) [2, 3] rfl
    have hKc : va_K (dC, dI) vwCl [(cI, .int)] s := hK
    have hDc := hD.sub (ws' := [(qt, .inr (1, [.ref tc, .int (zi tl)])), (tc, aI cI 20 tf)]) [2, 3] (by decide) rfl
    have hFc := va_free (wc := [(qt, .inr (1, [.ref tc, .int (zi tl)])), (tc, aI cI 20 tf)]) hD hS hA [2, 3] rfl
    refine va_callv (va_runV (As := []) (rest := []) ⟨hx, hb, hml, hown, hts⟩ hh7 (cwV 0 hts gX4_read_X1_empty rfl rfl rfl (by decide +kernel) ⟨Nat.le_of_ble_eq_true rfl, Nat.le_of_ble_eq_true rfl⟩) ⟨zPw.blind _ _ _ _ _, va_recv hKc hPc (ci := 1) (q0 := 0) rfl rfl, fun U hU hW => ⟨rfl, by rw [hU], by rw [hU]; exact hPc, va_K.moved hW.alike hKc, hDc.weaken (fun _ _ _ _ => trivial)⟩⟩ rfl rfl hl.1 rfl (lv_room (Nat.le_of_ble_eq_true rfl)) dX4_read_27 ⟨Nat.le_of_ble_eq_true rfl, Nat.le_of_ble_eq_true rfl⟩) hS (fun q _ h => hFc q h) hFc (fun u t H1 locs ht hvm hw hB hz1 hk1 hS => ?_)
    obtain ⟨hP1, hK1, hD1⟩ := hB
    rw [ht] at hP1
    obtain ⟨hP, hD⟩ := va_join (wr := [(h0, .inr (4, [.ref qs, .ref qr, .ref qm, .ref qw, .ref qt, .int (zi we)])), (qs, aI cI 10 sf)]) (w1 := [(qt, .inr (1, [.ref tc, .int (zi 0)])), (tc, aI cI 20 tf)]) hP hD [2, 3] [0, 1] rfl rfl (by decide) (by decide) hk1 hFc hP1 hD1
    generalize H1 = H at hP hS ⊢
    have hP : va_P (dC, dI) vwCl [(h0, .inr (4, [.ref qs, .ref qr, .ref qm, .ref qw, .ref qt, .int (zi we)])), (qs, aI cI 10 sf), (qt, .inr (1, [.ref tc, .int (zi 0)])), (tc, aI cI 20 tf)] H := hP
    have hD : va_D A [(h0, .inr (4, [.ref qs, .ref qr, .ref qm, .ref qw, .ref qt, .int (zi we)])), (qs, aI cI 10 sf), (qt, .inr (1, [.ref tc, .int (zi 0)])), (tc, aI cI 20 tf)] := hD
    refine lv_iload_n hx hb dX4_read_30 rfl (lv_at hl 1 rfl) ?_
    refine zw_if_lt (tgt := 42) hx hb dX4_read_31 (by decide) ⟨by omega, by omega⟩ (fun h8 => ?_) (fun h8 => ?_)
    · skip
      subst ex3 ex6
      exact absurd True.intro (by omega)
    · skip
      refine lv_iload_n hx hb dX4_read_34 rfl (lv_at hl 0 rfl) ?_
      refine zw_iconst hx hb dX4_read_35 ?_
      refine zw_icmp_ne (tgt := 42) hx hb dX4_read_36 (by decide) ⟨by omega, by omega⟩ ⟨by omega, by omega⟩ (fun h9 => ?_) (fun h9 => ?_)
      · skip
        refine lv_iload_n hx hb dX4_read_42 rfl (lv_at hl 1 rfl) ?_
        refine zw_if_lt (tgt := 53) hx hb dX4_read_43 (by decide) ⟨by omega, by omega⟩ (fun h10 => ?_) (fun h10 => ?_)
        · skip
          subst ex3 ex6
          exact absurd True.intro (by omega)
        · skip
          refine lv_aload_n hx hb dX4_read_46 rfl (lv_at hl 2 rfl) ?_
          refine va_get (D := (dC, dI)) (ci := 4) (v := .ref qs) (C := RX4) (T := TX4) (N := 6) hx hb hts (by decide +kernel) hown hK hP 0 rfl rfl 0 (by decide) (hts (.fieldLink RX4 9 "CivilDays" "slots" "[I") (by decide +kernel)) (fun _ h9 => h9) rfl dX4_read_47 ?_
          refine lv_iload_n hx hb dX4_read_50 rfl (lv_at hl 3 rfl) ?_
          refine lv_iload_n hx hb dX4_read_51 rfl (lv_at hl 0 rfl) ?_
          refine zw_iast hx hb hK hP hD hS 1 0 rfl rfl (by omega) (by omega) ⟨by omega, by omega⟩ dX4_read_52 (fun H locs hP hD hS => ?_)
          have hP : va_P (dC, dI) vwCl [(h0, .inr (4, [.ref qs, .ref qr, .ref qm, .ref qw, .ref qt, .int (zi we)])), (qs, aI cI 10 (zup sf sl.toNat x6)), (qt, .inr (1, [.ref tc, .int (zi 0)])), (tc, aI cI 20 tf)] H := hP
          have hD : va_D A [(h0, .inr (4, [.ref qs, .ref qr, .ref qm, .ref qw, .ref qt, .int (zi we)])), (qs, aI cI 10 (zup sf sl.toNat x6)), (qt, .inr (1, [.ref tc, .int (zi 0)])), (tc, aI cI 20 tf)] := hD
          refine lv_iload_n hx hb dX4_read_53 rfl (lv_at hl 1 rfl) ?_
          subst ex3 ex6
          have hP9 := hP.sub (ws' := [(h0, .inr (4, [.ref qs, .ref qr, .ref qm, .ref qw, .ref qt, .int (zi we)])), (qs, aI cI 10 (zup sf sl.toNat (f_X4_typedNumber tf (f_X4_typedText tf tl)))), (qt, .inr (1, [.ref tc, .int (zi 0)])), (tc, aI cI 20 tf)]) [0, 1, 2, 3] rfl
          have hD9 := hD.sub (ws' := [(h0, .inr (4, [.ref qs, .ref qr, .ref qm, .ref qw, .ref qt, .int (zi we)])), (qs, aI cI 10 (zup sf sl.toNat (f_X4_typedNumber tf (f_X4_typedText tf tl)))), (qt, .inr (1, [.ref tc, .int (zi 0)])), (tc, aI cI 20 tf)]) [0, 1, 2, 3] (by decide) rfl
          exact W.iret (v := zi (f_X4_typedText tf tl)) hx hb hr (fun t ht hW => ⟨⟨zi (f_X4_typedText tf tl), (), rfl, rfl, by rw [ht]; exact hP9, va_K.moved hW.alike hK, hD9⟩, hS.F ht⟩) hS.2.2 dX4_read_54
      · skip
        subst ex3 ex6
        exact absurd True.intro (by omega)
  · skip
    subst ex3
    exact absurd True.intro (by omega)
