/-! SHIFTS, FACTS THAT ARE CARRIED, AND WHAT THE RULES AND THE WORKING DAYS ARE, IN WHOLE NUMBERS -/
def zsr (x k : Int) : Int := ((x.toNat / 2 ^ k.toNat : Nat) : Int)
theorem zsr_fin : ∀ a : Fin 128, ∀ b : Fin 8, (zi ((a.val : Nat) : Int)) >>> ((zi ((b.val : Nat) : Int)) &&& 31) = zi (zsr ((a.val : Nat) : Int) ((b.val : Nat) : Int)) := by decide +kernel
theorem zsr_b (x k : Int) (h : 0 ≤ x ∧ x ≤ 127) : 0 ≤ zsr x k ∧ zsr x k ≤ 127 := by
  unfold zsr
  have h1 : x.toNat / 2 ^ k.toNat ≤ x.toNat := Nat.div_le_self _ _
  generalize x.toNat / 2 ^ k.toNat = y at h1 ⊢
  omega
theorem zand_fin : ∀ a : Fin 128, (zi ((a.val : Nat) : Int)) &&& (zi 1) = zi (((a.val : Nat) : Int) % 2) := by decide +kernel
section ZX
variable {p : Program} {l : Launch} {e : Env} {R : Room} {s : State} {m : MethodId} {args : Array Value} {below : List Frame} {meth : Method} {c : Code} {H : Heap} {locs : List Loc} {cells slots : Nat} {Q : State → Prop} {cc : ByteArray} {pc : Nat} {ls : Array Slot} {rest : List Value}
theorem zw_ishr (hx : p.tables.exec = Jvm.exec) (hb : c.code = cc) {a b : Int} (hd : decode cc pc = .ok (.ishr, 1)) (ha : 0 ≤ a ∧ a ≤ 127) (hk : 0 ≤ b ∧ b ≤ 7) (k : W p l e R s m args below meth c H locs cells slots Q (F0 m (pc + 1) ls (.int (zi (zsr a b)) :: rest))) : W p l e R s m args below meth c H locs cells slots Q (F0 m pc ls (.int (zi b) :: .int (zi a) :: rest)) := by
  refine lv_ishr hx hb hd ?_
  have h := zsr_fin ⟨a.toNat, by omega⟩ ⟨b.toNat, by omega⟩
  have e1 : ((a.toNat : Nat) : Int) = a := by omega
  have e2 : ((b.toNat : Nat) : Int) = b := by omega
  rw [e1, e2] at h
  rw [h]
  exact k
theorem zw_iand1 (hx : p.tables.exec = Jvm.exec) (hb : c.code = cc) {a : Int} (hd : decode cc pc = .ok (.iand, 1)) (ha : 0 ≤ a ∧ a ≤ 127) (k : W p l e R s m args below meth c H locs cells slots Q (F0 m (pc + 1) ls (.int (zi (a % 2)) :: rest))) : W p l e R s m args below meth c H locs cells slots Q (F0 m pc ls (.int (zi 1) :: .int (zi a) :: rest)) := by
  refine lv_iand hx hb hd ?_
  have h := zand_fin ⟨a.toNat, by omega⟩
  have e1 : ((a.toNat : Nat) : Int) = a := by omega
  rw [e1] at h
  rw [h]
  exact k
end ZX
/-- a fact of the start that is carried: it moves with the tables, it is kept where its cells are, it may be narrowed -/
def zF (F : (Nat → Prop) → State → Heap → Prop) : Prop := (∀ (A : Nat → Prop) (s U : State) (H : Heap), s.WarmedH U.vm → F A s H → F A U H) ∧ (∀ (A : Nat → Prop) (s U : State) (H : Heap), U.vm = s.vm → F A s H → F A U H) ∧ (∀ (A : Nat → Prop) (U : State) (H H1 : Heap), (∀ q : Nat, q < H.size → ¬ A q → H1[q]? = H[q]?) → F A U H → F A U H1) ∧ ∀ (A B : Nat → Prop) (U : State) (H : Heap), (∀ q, B q → A q) → F A U H → F B U H
theorem zF.call {F : (Nat → Prop) → State → Heap → Prop} {A B : Nat → Prop} {s U : State} {H : Heap} {locs : List Loc} (ok : zF F) (h : F A s s.heap) (hS : va_S A s.heap H locs) (hAB : ∀ q, B q → A q) (hU : U.heap = H) (hW : s.WarmedH U.vm) : F B U U.heap := by
  subst hU
  exact ok.1 B s U _ hW (ok.2.2.2 A B s _ hAB (ok.2.2.1 A s _ _ hS.2.1 h))
theorem zF.and {F G : (Nat → Prop) → State → Heap → Prop} (f : zF F) (g : zF G) : zF (fun A U H => F A U H ∧ G A U H) :=
  ⟨fun A s U H hW h => ⟨f.1 A s U H hW h.1, g.1 A s U H hW h.2⟩, fun A s U H hW h => ⟨f.2.1 A s U H hW h.1, g.2.1 A s U H hW h.2⟩, fun A U H H1 hq h => ⟨f.2.2.1 A U H H1 hq h.1, g.2.2.1 A U H H1 hq h.2⟩, fun A B U H hq h => ⟨f.2.2.2 A B U H hq h.1, g.2.2.2 A B U H hq h.2⟩⟩
abbrev zPrF (D : va_G) (tys : List (ClassId × FieldType)) (av : List Value) (ws : va_W) (F : (Nat → Prop) → State → Heap → Prop) : Array Value → State → Prop := va_Pc av (fun U => va_P D vwCl ws U.heap ∧ va_K D vwCl tys U ∧ F zN U U.heap)
abbrev zPwF (D : va_G) (tys : List (ClassId × FieldType)) (sz : Nat) (av : List Value) (ws : va_W) (F : (Nat → Prop) → State → Heap → Prop) : Array Value → State → Prop := va_Pc av (fun U => U.heap.size = sz ∧ va_P D vwCl ws U.heap ∧ va_K D vwCl tys U ∧ va_D (fun _ => True) ws ∧ F (va_A ws sz) U U.heap)
abbrev zPtF (D : va_G) (tys : List (ClassId × FieldType)) (av : List Value) (ws : va_W) (F : (Nat → Prop) → State → Heap → Prop) : Array Value → State → Prop := va_Pc av (fun U => zE (fun q => U.heap.size ≤ q) U U.heap ∧ va_P D vwCl ws U.heap ∧ va_K D vwCl tys U ∧ F (fun q => U.heap.size ≤ q) U U.heap)
abbrev zPxF (D : va_G) (tys : List (ClassId × FieldType)) (sz : Nat) (av : List Value) (ws : va_W) (F : (Nat → Prop) → State → Heap → Prop) : Array Value → State → Prop := va_Pc av (fun U => U.heap.size = sz ∧ zE (fun q => U.heap.size ≤ q) U U.heap ∧ va_P D vwCl ws U.heap ∧ va_K D vwCl tys U ∧ va_D (fun _ => True) ws ∧ F (va_A ws sz) U U.heap)
theorem zPrF.blind (D : va_G) (tys : List (ClassId × FieldType)) (av : List Value) (ws : va_W) {F : (Nat → Prop) → State → Heap → Prop} (ok : zF F) : FrameBlind (zPrF D tys av ws F) := fun a U g mk q => ⟨q.1, q.2.1, va_K.moved (u := U) (U := U.calling g mk a) (Vm.Alike.refl U.vm) q.2.2.1, ok.2.1 _ U _ _ rfl q.2.2.2⟩
theorem zPwF.blind (D : va_G) (tys : List (ClassId × FieldType)) (sz : Nat) (av : List Value) (ws : va_W) {F : (Nat → Prop) → State → Heap → Prop} (ok : zF F) : FrameBlind (zPwF D tys sz av ws F) := fun a U g mk q => ⟨q.1, q.2.1, q.2.2.1, va_K.moved (u := U) (U := U.calling g mk a) (Vm.Alike.refl U.vm) q.2.2.2.1, q.2.2.2.2.1, ok.2.1 _ U _ _ rfl q.2.2.2.2.2⟩
theorem zPtF.blind (D : va_G) (tys : List (ClassId × FieldType)) (av : List Value) (ws : va_W) {F : (Nat → Prop) → State → Heap → Prop} (ok : zF F) : FrameBlind (zPtF D tys av ws F) := fun a U g mk q => ⟨q.1, q.2.1.blind, q.2.2.1, va_K.moved (u := U) (U := U.calling g mk a) (Vm.Alike.refl U.vm) q.2.2.2.1, ok.2.1 _ U _ _ rfl q.2.2.2.2⟩
theorem zPxF.blind (D : va_G) (tys : List (ClassId × FieldType)) (sz : Nat) (av : List Value) (ws : va_W) {F : (Nat → Prop) → State → Heap → Prop} (ok : zF F) : FrameBlind (zPxF D tys sz av ws F) := fun a U g mk q => ⟨q.1, q.2.1, q.2.2.1.blind, q.2.2.2.1, va_K.moved (u := U) (U := U.calling g mk a) (Vm.Alike.refl U.vm) q.2.2.2.2.1, q.2.2.2.2.2.1, ok.2.1 _ U _ _ rfl q.2.2.2.2.2.2⟩
/-- the first k of 0 .. n - 1 with P k = 1, or -1 -/
def zfr (P : Nat → Int) : Nat → Nat → Int
  | 0, _ => -1
  | n + 1, k => if P k = 1 then (k : Int) else zfr P n (k + 1)
theorem zfr_step (P : Nat → Int) (ru k : Int) (h : 0 ≤ k ∧ k < ru) : zfr P (ru - k).toNat k.toNat = if P k.toNat = 1 then k else zfr P (ru - (k + 1)).toNat (k + 1).toNat := by
  have e1 : (ru - k).toNat = (ru - (k + 1)).toNat + 1 := by omega
  have e2 : (k + 1).toNat = k.toNat + 1 := by omega
  have e3 : ((k.toNat : Nat) : Int) = k := by omega
  rw [e1, e2, zfr, e3]
theorem zfr_end (P : Nat → Int) (ru k : Int) (h : ru ≤ k) : zfr P (ru - k).toNat k.toNat = -1 := by
  have e1 : (ru - k).toNat = 0 := by omega
  rw [e1, zfr]
theorem zfr_b (P : Nat → Int) : ∀ (n k : Nat), -1 ≤ zfr P n k ∧ zfr P n k < (n : Int) + k := by
  intro n
  induction n with
  | zero =>
    intro k
    rw [zfr]
    omega
  | succ n ih =>
    intro k
    rw [zfr]
    have h := ih (k + 1)
    split <;> omega
/-- how many of n days from d on have P = 1 -/
def zcn (P : Int → Int) : Nat → Int → Int
  | 0, _ => 0
  | n + 1, d => (if P d = 1 then 1 else 0) + zcn P n (d + 1)
theorem zcn_step (P : Int → Int) (d b : Int) (h : d < b) : zcn P (b - d).toNat d = (if P d = 1 then 1 else 0) + zcn P (b - (d + 1)).toNat (d + 1) := by
  have e1 : (b - d).toNat = (b - (d + 1)).toNat + 1 := by omega
  rw [e1, zcn]
theorem zcn_end (P : Int → Int) (d b : Int) (h : b ≤ d) : zcn P (b - d).toNat d = 0 := by
  have e1 : (b - d).toNat = 0 := by omega
  rw [e1, zcn]
theorem zcn_b (P : Int → Int) : ∀ (n : Nat) (d : Int), 0 ≤ zcn P n d ∧ zcn P n d ≤ n := by
  intro n
  induction n with
  | zero =>
    intro d
    rw [zcn]
    omega
  | succ n ih =>
    intro d
    rw [zcn]
    have h := ih (d + 1)
    split <;> omega
/-- moved from n by so many days with P = 1, in steps of st; -1: beyond -/
def zmv (P : Int → Int) (st : Int) : Nat → Int → Int → Int
  | 0, _, _ => -1
  | fu + 1, n, lf => if lf ≤ 0 then n else if n + st < 0 ∨ 3652058 < n + st then -1 else zmv P st fu (n + st) (if P (n + st) = 1 then lf - 1 else lf)
theorem zmv_0 (P : Int → Int) (st : Int) (fu : Nat) (n lf : Int) (h : lf ≤ 0) : zmv P st (fu + 1) n lf = n := by
  rw [zmv, if_pos h]
theorem zmv_x (P : Int → Int) (st : Int) (fu : Nat) (n lf : Int) (h : 0 < lf) (hx : n + st < 0 ∨ 3652058 < n + st) : zmv P st (fu + 1) n lf = -1 := by
  rw [zmv, if_neg (by omega), if_pos hx]
theorem zmv_s (P : Int → Int) (st : Int) (fu : Nat) (n lf : Int) (h : 0 < lf) (hx : 0 ≤ n + st ∧ n + st ≤ 3652058) : zmv P st (fu + 1) n lf = zmv P st fu (n + st) (if P (n + st) = 1 then lf - 1 else lf) := by
  rw [zmv, if_neg (by omega), if_neg (by omega)]
theorem zsplit (a b c : Int) : (if a = 1 then b else c) = b ∧ a = 1 ∨ (if a = 1 then b else c) = c ∧ a ≠ 1 := by
  by_cases h : a = 1
  · rw [if_pos h]; exact Or.inl ⟨rfl, h⟩
  · rw [if_neg h]; exact Or.inr ⟨rfl, h⟩
