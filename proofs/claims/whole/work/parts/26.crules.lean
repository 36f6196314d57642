/-! THE CLASS'S RULES: rule objects, the list's reading, the marked year -/
abbrev aR (cO : ClassId) (n : Nat) (ef : Nat → Option Nat) : va_E := .inl (cO, n, .inr (.inr (.inr (.inr ef))))
abbrev oX3 (a b c d : Int) : va_E := .inr (3, [.int (zi a), .int (zi b), .int (zi c), .int (zi d)])
/-- the rules' objects, which nobody changes -/
def zRu (D : va_G) (ru : Int) (rf : Nat → Nat) (kf af bf zf : Nat → Int) (A : Nat → Prop) (_ : State) (H : Heap) : Prop := ∀ k : Nat, (k : Int) < ru → ¬ A (rf k) ∧ va_P D vwCl [(rf k, oX3 (kf k) (af k) (bf k) (zf k))] H
theorem zRu_ok {D : va_G} {ru : Int} {rf : Nat → Nat} {kf af bf zf : Nat → Int} : zF (zRu D ru rf kf af bf zf) := by
  refine ⟨fun A s U H _ h => h, fun A s U H _ h => h, fun A U H H1 hq h k hk => ?_, fun A B U H hAB h k hk => ⟨fun q => (h k hk).1 (hAB _ q), (h k hk).2⟩⟩
  obtain ⟨h1, h2⟩ := h k hk
  refine ⟨h1, h2.kept (fun i q hi => ?_)⟩
  have hl := (h2 i q hi).lt
  cases i with
  | zero =>
    cases hi
    exact hq _ hl h1
  | succ i => cases hi
theorem zRu_at {D : va_G} {ru : Int} {rf : Nat → Nat} {kf af bf zf : Nat → Int} {A : Nat → Prop} {s : State} {H : Heap} {locs : List Loc} (h : zRu D ru rf kf af bf zf A s s.heap) (hS : va_S A s.heap H locs) : ∀ k : Nat, (k : Int) < ru → ¬ A (rf k) ∧ va_P D vwCl [(rf k, oX3 (kf k) (af k) (bf k) (zf k))] H := zRu_ok.2.2.1 A s _ _ hS.2.1 h
section ZR
variable {p : Program} {l : Launch} {e : Env} {R : Room} {s : State} {m : MethodId} {args : Array Value} {below : List Frame} {meth : Method} {c : Code} {H : Heap} {locs : List Loc} {cells slots : Nat} {Q : State → Prop} {cc : ByteArray} {pc : Nat} {ls : Array Slot} {rest : List Value} {D : va_G} {cl : List vw_C} {tys : List (ClassId × FieldType)} {ws : va_W} {a : Nat}
theorem zw_alen (hx : p.tables.exec = Jvm.exec) (hb : c.code = cc) (hK : va_K D cl tys s) (hP : va_P D cl ws H) (q0 t0 : Nat) {cA : ClassId} {x : vp_A} (ha : ws[q0]? = some (a, .inl (cA, x))) {ty : FieldType} (ht : tys[t0]? = some (cA, ty)) (hd : decode cc pc = .ok (.arraylength, 1))
    (k : W p l e R s m args below meth c H locs cells slots Q (F0 m (pc + 1) ls (.int (zi ((x.1 : Nat) : Int)) :: rest))) : W p l e R s m args below meth c H locs cells slots Q (F0 m pc ls (.ref a :: rest)) := va_alen hx hb hK hP q0 t0 ha ht (zi_nat x.1).symm hd k
theorem zw_aald (hx : p.tables.exec = Jvm.exec) (hb : c.code = cc) (hK : va_K D cl tys s) (hP : va_P D cl ws H) (q0 t0 : Nat) {cA : ClassId} {C : String} {n : Nat} {f : Nat → Option Nat} (ha : ws[q0]? = some (a, .inl (cA, n, .inr (.inr (.inr (.inr f)))))) (ht : tys[t0]? = some (cA, .object C)) {i : Int} (h0 : 0 ≤ i) (h1 : i < n) (hi : zI i) (hd : decode cc pc = .ok (.aaload, 1))
    (k : W p l e R s m args below meth c H locs cells slots Q (F0 m (pc + 1) ls (va_rf (f i.toNat) :: rest))) : W p l e R s m args below meth c H locs cells slots Q (F0 m pc ls (.int (zi i) :: .ref a :: rest)) := by
  refine va_aldq hx hb hK hP q0 t0 ha ht (zi_in h0 h1 hi) hd ?_
  rw [zi_clamp h0 hi]
  exact k
theorem zw_castR (hx : p.tables.exec = Jvm.exec) (hb : c.code = cc) {own nm : String} {index : Nat} {o : Option Nat} (hown : s.vm.findClass own = some m.cls) (hlink : (Cond.classLink own index nm).before args s = true) (ho : o = some a)
    (hr : ∃ cell : Cell, H[a]? = some cell ∧ cell.vm.isStatics = false ∧ s.vm.findClass nm = some cell.cls) (hd : decode cc pc = .ok (.checkcast index, 3))
    (k : W p l e R s m args below meth c H locs cells slots Q (F0 m (pc + 3) ls (.ref a :: rest))) : W p l e R s m args below meth c H locs cells slots Q (F0 m pc ls (va_rf o :: rest)) := by
  subst ho
  obtain ⟨cell, h1, h2, h3⟩ := hr
  intro T hT X
  obtain ⟨vm', X', st⟩ := X.checkcastYes hx hown hlink (by rw [hT]; exact h1) h2 h3 (va_asg _ _) (g := F0 m pc ls (.ref a :: rest)) rfl rfl (by rw [hb]; exact hd)
  obtain ⟨t, a1, b1⟩ := k (T.setVm vm') hT X'
  exact ⟨t, st t a1, b1⟩
end ZR
def f_X3_behindEaster (ea : Int) (ad : Int) : Int :=
  if ea = (-1) then (-1)
  else (ea + ad)
def f_X3_dayFor (kd : Int) (ad : Int) (bd : Int) (cd : Int) (ya : Int) : Int :=
  if kd = 0 then (f_X0_civilNumber ya ad bd)
  else if kd = 1 then (f_X3_behindEaster (f_X0_easterNumber ya) ad)
  else if kd = 2 then (f_X0_nthNumber ya ad bd cd)
  else (f_X3_observed (f_X0_civilNumber ya ad bd))
theorem b_X3_dayFor (kd ad bd cd ya : Int) (h1 : -1 ≤ ya ∧ ya ≤ 10001) (h2 : (0 ≤ kd ∧ kd ≤ 3) ∧ (kd = 1 ∧ -100 ≤ ad ∧ ad ≤ 100 ∨ kd ≠ 1 ∧ 1 ≤ ad ∧ ad ≤ 12) ∧ (kd = 1 ∨ kd = 2 ∧ 1 ≤ bd ∧ bd ≤ 7 ∨ kd ≠ 2 ∧ 1 ≤ bd ∧ bd ≤ 31) ∧ (kd ≠ 2 ∨ cd = -1 ∨ 1 ≤ cd ∧ cd ≤ 4)) : -1000 ≤ f_X3_dayFor kd ad bd cd ya ∧ f_X3_dayFor kd ad bd cd ya ≤ 5000000 := by
  unfold f_X3_dayFor
  have q2 := b_X0_easterNumber ya (by omega)
  by_cases hk1 : kd = 1
  · unfold f_X3_behindEaster
    (repeat' split) <;> omega
  · by_cases hk2 : kd = 2
    · have q3 := b_X0_nthNumber ya ad bd cd (by omega) (by omega) (by omega) (by omega)
      (repeat' split) <;> omega
    · have q1 := b_X0_civilNumber ya ad bd (by omega) (by omega) (by omega)
      have q4 := b_X3_observed (f_X0_civilNumber ya ad bd) (by omega)
      (repeat' split) <;> omega
/-- rule k gives day n, whose year is y -/
def rhX3 (kf af bf zf : Nat → Int) (y n : Int) (k : Nat) : Int :=
  if f_X3_dayFor (kf k) (af k) (bf k) (zf k) y = n ∨ f_X3_dayFor (kf k) (af k) (bf k) (zf k) (y - 1) = n ∨ f_X3_dayFor (kf k) (af k) (bf k) (zf k) (y + 1) = n then 1 else 0
theorem rhX3_s (kf af bf zf : Nat → Int) (y n : Int) (k : Nat) : rhX3 kf af bf zf y n k = 1 ∧ (f_X3_dayFor (kf k) (af k) (bf k) (zf k) y = n ∨ f_X3_dayFor (kf k) (af k) (bf k) (zf k) (y - 1) = n ∨ f_X3_dayFor (kf k) (af k) (bf k) (zf k) (y + 1) = n) ∨ rhX3 kf af bf zf y n k = 0 ∧ ¬ (f_X3_dayFor (kf k) (af k) (bf k) (zf k) y = n ∨ f_X3_dayFor (kf k) (af k) (bf k) (zf k) (y - 1) = n ∨ f_X3_dayFor (kf k) (af k) (bf k) (zf k) (y + 1) = n) := by
  unfold rhX3
  split
  · exact Or.inl ⟨rfl, by assumption⟩
  · exact Or.inr ⟨rfl, by assumption⟩
def gvX3 (kd ad bd cd n : Int) : Int := if f_X3_dayFor kd ad bd cd (f_X0_yearOf n) = n ∨ f_X3_dayFor kd ad bd cd (f_X0_yearOf n - 1) = n ∨ f_X3_dayFor kd ad bd cd (f_X0_yearOf n + 1) = n then 1 else 0
theorem gvX3_s (kd ad bd cd n : Int) : gvX3 kd ad bd cd n = 1 ∧ (f_X3_dayFor kd ad bd cd (f_X0_yearOf n) = n ∨ f_X3_dayFor kd ad bd cd (f_X0_yearOf n - 1) = n ∨ f_X3_dayFor kd ad bd cd (f_X0_yearOf n + 1) = n) ∨ gvX3 kd ad bd cd n = 0 ∧ ¬ (f_X3_dayFor kd ad bd cd (f_X0_yearOf n) = n ∨ f_X3_dayFor kd ad bd cd (f_X0_yearOf n - 1) = n ∨ f_X3_dayFor kd ad bd cd (f_X0_yearOf n + 1) = n) := by
  unfold gvX3
  split
  · exact Or.inl ⟨rfl, by assumption⟩
  · exact Or.inr ⟨rfl, by assumption⟩
theorem gvX3_e (kf af bf zf : Nat → Int) (n : Int) (k : Nat) : gvX3 (kf k) (af k) (bf k) (zf k) n = rhX3 kf af bf zf (f_X0_yearOf n) n k := rfl
def cvX2 (fi ln nu : Int) : Int := if fi ≤ nu ∧ nu - fi < ln then 1 else 0
theorem cvX2_s (fi ln nu : Int) : cvX2 fi ln nu = 1 ∧ fi ≤ nu ∧ nu - fi < ln ∨ cvX2 fi ln nu = 0 ∧ ¬ (fi ≤ nu ∧ nu - fi < ln) := by
  unfold cvX2
  split
  · exact Or.inl ⟨rfl, by assumption⟩
  · exact Or.inr ⟨rfl, by assumption⟩
theorem zfl_step (sf fg : Nat → Int) (va ii : Int) (h0 : 0 ≤ ii) (h : ∀ j : Nat, fg j = if (j : Int) < ii then va else sf j) : ∀ j : Nat, zup fg ii.toNat va j = if (j : Int) < ii + 1 then va else sf j := by
  intro j
  unfold zup
  by_cases e : j = ii.toNat
  · rw [if_pos e, if_pos (by omega)]
  · rw [if_neg e, h]
    by_cases e2 : (j : Int) < ii
    · rw [if_pos e2, if_pos (by omega)]
    · rw [if_neg e2, if_neg (by omega)]
theorem zfl_end {sf fg : Nat → Int} {va ii : Int} {n : Nat} (h : ∀ j : Nat, fg j = if (j : Int) < ii then va else sf j) (e : ii = (n : Int)) : ∀ j : Nat, fg j = if j < n then va else sf j := by
  intro j
  rw [h]
  by_cases e2 : j < n
  · rw [if_pos e2, if_pos (by omega)]
  · rw [if_neg e2, if_neg (by omega)]
theorem zmk_on (mf : Nat → Int) (fi ln nu : Int) (h : fi ≤ nu ∧ nu - fi < ln) : ∀ j : Nat, zup mf (nu - fi).toNat 1 j = if fi + (j : Int) = nu ∧ (j : Int) < ln then 1 else mf j := by
  intro j
  unfold zup
  by_cases e : j = (nu - fi).toNat
  · rw [if_pos e, if_pos (by omega)]
  · rw [if_neg e, if_neg (by omega)]
/-- what the marks of a year say, of the first k rules -/
def mkX2 (kf af bf zf : Nat → Int) (y fi ln : Int) (k : Nat) (mf : Nat → Int) : Prop := ∀ j : Nat, (j : Int) < ln → mf j = if zfr (rhX3 kf af bf zf y (fi + (j : Int))) k 0 = -1 then 0 else 1
theorem zfr_ge (P : Nat → Int) : ∀ (n k : Nat), zfr P n k = -1 ∨ (k : Int) ≤ zfr P n k := by
  intro n
  induction n with
  | zero =>
    intro k
    exact Or.inl rfl
  | succ n ih =>
    intro k
    rw [zfr]
    have h := ih (k + 1)
    split <;> omega
theorem zfr_n (P : Nat → Int) (n k : Nat) : zfr P (n + 1) k = if P k = 1 then (k : Int) else zfr P n (k + 1) := rfl
theorem zfr_add (P : Nat → Int) : ∀ (n k : Nat), zfr P (n + 1) k = -1 ↔ zfr P n k = -1 ∧ P (k + n) ≠ 1 := by
  intro n
  induction n with
  | zero =>
    intro k
    rw [zfr, zfr, zfr]
    by_cases h : P k = 1
    · rw [if_pos h]
      have : P (k + 0) = 1 := h
      omega
    · rw [if_neg h]
      exact ⟨fun _ => ⟨rfl, h⟩, fun _ => rfl⟩
  | succ n ih =>
    intro k
    rw [zfr_n P (n + 1) k, zfr_n P n k]
    by_cases h : P k = 1
    · rw [if_pos h, if_pos h]
      omega
    · rw [if_neg h, if_neg h, ih (k + 1)]
      have e : k + 1 + n = k + (n + 1) := by omega
      rw [e]
theorem mkX2_0 (kf af bf zf : Nat → Int) (y fi ln : Int) (mf : Nat → Int) (h : ∀ j : Nat, mf j = if j < 366 then 0 else mf j) (h2 : ln ≤ 366) : mkX2 kf af bf zf y fi ln 0 mf := by
  intro j hj
  rw [zfr, if_pos rfl, h, if_pos (by omega)]
theorem mkX2_step (kf af bf zf : Nat → Int) (y fi ln : Int) (k : Nat) (mf m1 m2 m3 : Nat → Int) (h : mkX2 kf af bf zf y fi ln k mf)
    (h1 : ∀ j : Nat, m1 j = if fi + (j : Int) = f_X3_dayFor (kf k) (af k) (bf k) (zf k) (y - 1) ∧ (j : Int) < ln then 1 else mf j)
    (h2 : ∀ j : Nat, m2 j = if fi + (j : Int) = f_X3_dayFor (kf k) (af k) (bf k) (zf k) y ∧ (j : Int) < ln then 1 else m1 j)
    (h3 : ∀ j : Nat, m3 j = if fi + (j : Int) = f_X3_dayFor (kf k) (af k) (bf k) (zf k) (y + 1) ∧ (j : Int) < ln then 1 else m2 j) : mkX2 kf af bf zf y fi ln (k + 1) m3 := by
  intro j hj
  have hs := rhX3_s kf af bf zf y (fi + (j : Int)) k
  have ha := zfr_add (rhX3 kf af bf zf y (fi + (j : Int))) k 0
  have e0 : 0 + k = k := by omega
  rw [e0] at ha
  have hz := h j hj
  rw [h3, h2, h1, hz]
  by_cases hb : rhX3 kf af bf zf y (fi + (j : Int)) k = 1
  · have hn : ¬ zfr (rhX3 kf af bf zf y (fi + (j : Int))) (k + 1) 0 = -1 := fun q => (ha.mp q).2 hb
    rw [if_neg hn]
    have hs2 : f_X3_dayFor (kf k) (af k) (bf k) (zf k) y = fi + (j : Int) ∨ f_X3_dayFor (kf k) (af k) (bf k) (zf k) (y - 1) = fi + (j : Int) ∨ f_X3_dayFor (kf k) (af k) (bf k) (zf k) (y + 1) = fi + (j : Int) := by omega
    clear hs ha hn hz
    by_cases c1 : fi + (j : Int) = f_X3_dayFor (kf k) (af k) (bf k) (zf k) (y + 1) ∧ (j : Int) < ln
    · rw [if_pos c1]
    · rw [if_neg c1]
      by_cases c2 : fi + (j : Int) = f_X3_dayFor (kf k) (af k) (bf k) (zf k) y ∧ (j : Int) < ln
      · rw [if_pos c2]
      · rw [if_neg c2, if_pos (by omega)]
  · have hs2 : ¬ (f_X3_dayFor (kf k) (af k) (bf k) (zf k) y = fi + (j : Int) ∨ f_X3_dayFor (kf k) (af k) (bf k) (zf k) (y - 1) = fi + (j : Int) ∨ f_X3_dayFor (kf k) (af k) (bf k) (zf k) (y + 1) = fi + (j : Int)) := by omega
    rw [if_neg (by omega), if_neg (by omega), if_neg (by omega)]
    by_cases c : zfr (rhX3 kf af bf zf y (fi + (j : Int))) k 0 = -1
    · rw [if_pos c, if_pos (ha.mpr ⟨c, hb⟩)]
    · rw [if_neg c, if_neg (fun q => c (ha.mp q).1)]
theorem mkX2_at {kf af bf zf : Nat → Int} {y fi ln : Int} {k k' : Nat} {mf : Nat → Int} (e : k' = k) (h : mkX2 kf af bf zf y fi ln k mf) : mkX2 kf af bf zf y fi ln k' mf := by
  subst e
  exact h
theorem mkX2_f {mf sf : Nat → Int} (h : ∀ j : Nat, mf j = if j < 366 then 0 else sf j) : ∀ j : Nat, mf j = if j < 366 then 0 else mf j := by
  intro j
  by_cases e : j < 366
  · rw [if_pos e, h, if_pos e]
  · rw [if_neg e]
set_option maxHeartbeats 4000000 in
set_option maxRecDepth 100000 in
theorem c_X3_behindEaster (l : Launch)  (dC : Nat → ClassId) (dI : Nat → Nat → Nat) (h0 : Nat) (kd : Int) (ad : Int) (bd : Int) (cd : Int) (ea : Int) (hp0 : -1 ≤ ea ∧ ea ≤ 4000000) : Met l yX3_behindEaster wsX3_behindEaster ({ frames := 0, cells := 0, slots := 0, locals := 0 }) (zPr (dC, dI) [] [.ref h0, .int (zi ea)] [(h0, .inr (3, [.int (zi kd), .int (zi ad), .int (zi bd), .int (zi cd)]))]) (vp_Si (fun r => r = zi (f_X3_behindEaster ea ad))) 0 0 zN := by
  refine Met.ofW (cc := cX3_behindEaster) (maxL := 2) (ret := (some .int)) (by decide) rfl ?_
  intro p e s m args below meth c s₁ B hml hv
  obtain ⟨rfl, hP, hK⟩ := hv
  have hx := B.exec
  have hb := B.bytes
  have hr := B.returns
  have hts := atoms_spec (ws := wsX3_behindEaster) B.pre
  have hown : s.vm.findClass RX3 = some m.cls := findClass_of_methodNamed B.named
  have hlocks := B.notSynchronized
  have hl := lv_entry ([.ref h0, .int (zi ea)]) (n := 2) (Nat.le_of_ble_eq_true rfl)
  rw [lg_entry_eq]
  generalize (lg_sl ([.ref h0, .int (zi ea)]) ++ List.replicate (2 - (lg_sl ([.ref h0, .int (zi ea)])).length) Slot.unset).toArray = ls at hl ⊢
  have hl : lv_has ls 2 [(0, .ref h0), (1, .int (zi ea))] := hl
  refine lv_iload_n hx hb dX3_behindEaster_0 rfl (lv_at hl 1 rfl) ?_
  refine zw_iconst hx hb dX3_behindEaster_1 ?_
  refine zw_icmp_ne (tgt := 9) hx hb dX3_behindEaster_2 (by decide) ⟨by omega, by omega⟩ ⟨by omega, by omega⟩ (fun h1 => ?_) (fun h1 => ?_)
  · skip
    refine lv_iload_n hx hb dX3_behindEaster_9 rfl (lv_at hl 1 rfl) ?_
    refine lv_aload_n hx hb dX3_behindEaster_10 rfl (lv_at hl 0 rfl) ?_
    refine va_get (D := (dC, dI)) (ci := 3) (v := .int (zi ad)) (C := RX3) (T := TX3) (N := 4) hx hb hts (by decide +kernel) hown hK hP 0 rfl rfl 1 (by decide) (hts (.fieldLink RX3 15 "CivilDays$Rule" "a" "I") (by decide +kernel)) (fun _ h9 => h9) rfl dX3_behindEaster_11 ?_
    refine zw_iadd hx hb dX3_behindEaster_14 ?_
    exact W.iret (v := zi (ea + ad)) hx hb hr (fun t ht hW => ⟨zi (ea + ad), rfl, by rw [f_X3_behindEaster, if_neg h1], ht⟩) (fun q h => by cases h) dX3_behindEaster_15
  · skip
    refine zw_iconst hx hb dX3_behindEaster_5 ?_
    refine lv_goto (tgt := 15) hx hb dX3_behindEaster_6 (by decide) ?_
    exact W.iret (v := zi (-1)) hx hb hr (fun t ht hW => ⟨zi (-1), rfl, by rw [f_X3_behindEaster, if_pos h1], ht⟩) (fun q h => by cases h) dX3_behindEaster_15

set_option maxHeartbeats 4000000 in
set_option maxRecDepth 100000 in
theorem c_X3_dayFor (l : Launch)  (dC : Nat → ClassId) (dI : Nat → Nat → Nat) (h0 : Nat) (kd : Int) (ad : Int) (bd : Int) (cd : Int) (ya : Int) (hp0 : -1 ≤ ya ∧ ya ≤ 10001) (hp1 : (0 ≤ kd ∧ kd ≤ 3) ∧ (kd = 1 ∧ -100 ≤ ad ∧ ad ≤ 100 ∨ kd ≠ 1 ∧ 1 ≤ ad ∧ ad ≤ 12) ∧ (kd = 1 ∨ kd = 2 ∧ 1 ≤ bd ∧ bd ≤ 7 ∨ kd ≠ 2 ∧ 1 ≤ bd ∧ bd ≤ 31) ∧ (kd ≠ 2 ∨ cd = -1 ∨ 1 ≤ cd ∧ cd ≤ 4)) : Met l yX3_dayFor wsX3_dayFor ({ frames := 3, cells := 0, slots := 0, locals := 69 }) (zPr (dC, dI) [] [.ref h0, .int (zi ya)] [(h0, .inr (3, [.int (zi kd), .int (zi ad), .int (zi bd), .int (zi cd)]))]) (vp_Si (fun r => r = zi (f_X3_dayFor kd ad bd cd ya))) 0 0 zN := by
  refine Met.ofW (cc := cX3_dayFor) (maxL := 2) (ret := (some .int)) (by decide) rfl ?_
  intro p e s m args below meth c s₁ B hml hv
  obtain ⟨rfl, hP, hK⟩ := hv
  have hx := B.exec
  have hb := B.bytes
  have hr := B.returns
  have hts := atoms_spec (ws := wsX3_dayFor) B.pre
  have hown : s.vm.findClass RX3 = some m.cls := findClass_of_methodNamed B.named
  have hlocks := B.notSynchronized
  have hl := lv_entry ([.ref h0, .int (zi ya)]) (n := 2) (Nat.le_of_ble_eq_true rfl)
  rw [lg_entry_eq]
  generalize (lg_sl ([.ref h0, .int (zi ya)]) ++ List.replicate (2 - (lg_sl ([.ref h0, .int (zi ya)])).length) Slot.unset).toArray = ls at hl ⊢
  have hl : lv_has ls 2 [(0, .ref h0), (1, .int (zi ya))] := hl
  refine lv_aload_n hx hb dX3_dayFor_0 rfl (lv_at hl 0 rfl) ?_
  refine va_get (D := (dC, dI)) (ci := 3) (v := .int (zi kd)) (C := RX3) (T := TX3) (N := 4) hx hb hts (by decide +kernel) hown hK hP 0 rfl rfl 0 (by decide) (hts (.fieldLink RX3 9 "CivilDays$Rule" "kind" "I") (by decide +kernel)) (fun _ h9 => h9) rfl dX3_dayFor_1 ?_
  by_cases h1 : kd = 0
  · skip
    refine zw_tableIn (tgt := 32) hx hb dX3_dayFor_4 ⟨by omega, by omega⟩ h1 (by decide) (by decide) rfl (by decide) ?_
    refine lv_iload_n hx hb dX3_dayFor_32 rfl (lv_at hl 1 rfl) ?_
    refine lv_aload_n hx hb dX3_dayFor_33 rfl (lv_at hl 0 rfl) ?_
    refine va_get (D := (dC, dI)) (ci := 3) (v := .int (zi ad)) (C := RX3) (T := TX3) (N := 4) hx hb hts (by decide +kernel) hown hK hP 0 rfl rfl 1 (by decide) (hts (.fieldLink RX3 15 "CivilDays$Rule" "a" "I") (by decide +kernel)) (fun _ h9 => h9) rfl dX3_dayFor_34 ?_
    refine lv_aload_n hx hb dX3_dayFor_37 rfl (lv_at hl 0 rfl) ?_
    refine va_get (D := (dC, dI)) (ci := 3) (v := .int (zi bd)) (C := RX3) (T := TX3) (N := 4) hx hb hts (by decide +kernel) hown hK hP 0 rfl rfl 2 (by decide) (hts (.fieldLink RX3 18 "CivilDays$Rule" "b" "I") (by decide +kernel)) (fun _ h9 => h9) rfl dX3_dayFor_38 ?_
    have hh2 := c_X0_civilNumber l ya ad bd (by omega) (by omega) (by omega)
    refine vp_callSi (va_Run.run (va_runS (As := [.int (zi ya), .int (zi ad), .int (zi bd)]) (rest := []) ⟨hx, hb, hml, hown, hts⟩ hh2 (va_cwS 3 hts gX3_dayFor_X0_civilNumber rfl rfl rfl (by decide +kernel) ⟨Nat.le_of_ble_eq_true rfl, Nat.le_of_ble_eq_true rfl⟩) ⟨fun a U g mk q => q, fun U hU hW => ⟨rfl, trivial⟩⟩ rfl rfl hl.1 rfl (lv_room (Nat.le_of_ble_eq_true rfl)) dX3_dayFor_41 ⟨Nat.zero_le _, Nat.zero_le _⟩)) (fun r2 (hr2 : r2 = zi (f_X0_civilNumber ya ad bd)) => ?_)
    subst hr2
    have hf2 := b_X0_civilNumber ya ad bd (by omega) (by omega) (by omega)
    exact W.iret (v := zi (f_X0_civilNumber ya ad bd)) hx hb hr (fun t ht hW => ⟨zi (f_X0_civilNumber ya ad bd), rfl, by rw [f_X3_dayFor, if_pos h1], ht⟩) (fun q h => by cases h) dX3_dayFor_44
  by_cases h3 : kd = 1
  · skip
    refine zw_tableIn (tgt := 45) hx hb dX3_dayFor_4 ⟨by omega, by omega⟩ h3 (by decide) (by decide) rfl (by decide) ?_
    refine lv_aload_n hx hb dX3_dayFor_45 rfl (lv_at hl 0 rfl) ?_
    refine lv_iload_n hx hb dX3_dayFor_46 rfl (lv_at hl 1 rfl) ?_
    have hh4 := c_X0_easterNumber l ya (by omega)
    refine vp_callSi (va_Run.run (va_runS (As := [.int (zi ya)]) (rest := [.ref h0]) ⟨hx, hb, hml, hown, hts⟩ hh4 (va_cwS 1 hts gX3_dayFor_X0_easterNumber rfl rfl rfl (by decide +kernel) ⟨Nat.le_of_ble_eq_true rfl, Nat.le_of_ble_eq_true rfl⟩) ⟨fun a U g mk q => q, fun U hU hW => ⟨rfl, trivial⟩⟩ rfl rfl hl.1 rfl (lv_room (Nat.le_of_ble_eq_true rfl)) dX3_dayFor_47 ⟨Nat.zero_le _, Nat.zero_le _⟩)) (fun r4 (hr4 : r4 = zi (f_X0_easterNumber ya)) => ?_)
    subst hr4
    have hf4 := b_X0_easterNumber ya (by omega)
    have hh5 := c_X3_behindEaster l dC dI h0 kd ad bd cd (f_X0_easterNumber ya) (by omega)
    have hPc := hP.sub (ws' := [(h0, .inr (3, [.int (zi kd), .int (zi ad), .int (zi bd), .int (zi cd)]))]) [0] rfl
    have hKc : va_K (dC, dI) vwCl [] s := hK
    refine vp_callSi (va_Run.run (va_runV (As := [.int (zi (f_X0_easterNumber ya))]) (rest := []) ⟨hx, hb, hml, hown, hts⟩ hh5 (cwV 1 hts gX3_dayFor_X3_behindEaster rfl rfl rfl (by decide +kernel) ⟨Nat.le_of_ble_eq_true rfl, Nat.le_of_ble_eq_true rfl⟩) ⟨zPr.blind _ _ _ _, va_recv hKc hPc (ci := 3) (q0 := 0) rfl rfl, fun U hU hW => ⟨rfl, by rw [hU]; exact hPc, va_K.moved hW.alike hKc⟩⟩ rfl rfl hl.1 rfl (lv_room (Nat.le_of_ble_eq_true rfl)) dX3_dayFor_50 ⟨Nat.le_of_ble_eq_true rfl, Nat.le_of_ble_eq_true rfl⟩)) (fun r5 (hr5 : r5 = zi (f_X3_behindEaster (f_X0_easterNumber ya) ad)) => ?_)
    subst hr5
    exact W.iret (v := zi (f_X3_behindEaster (f_X0_easterNumber ya) ad)) hx hb hr (fun t ht hW => ⟨zi (f_X3_behindEaster (f_X0_easterNumber ya) ad), rfl, by rw [f_X3_dayFor, if_neg h1, if_pos h3], ht⟩) (fun q h => by cases h) dX3_dayFor_53
  by_cases h6 : kd = 2
  · skip
    refine zw_tableIn (tgt := 54) hx hb dX3_dayFor_4 ⟨by omega, by omega⟩ h6 (by decide) (by decide) rfl (by decide) ?_
    refine lv_iload_n hx hb dX3_dayFor_54 rfl (lv_at hl 1 rfl) ?_
    refine lv_aload_n hx hb dX3_dayFor_55 rfl (lv_at hl 0 rfl) ?_
    refine va_get (D := (dC, dI)) (ci := 3) (v := .int (zi ad)) (C := RX3) (T := TX3) (N := 4) hx hb hts (by decide +kernel) hown hK hP 0 rfl rfl 1 (by decide) (hts (.fieldLink RX3 15 "CivilDays$Rule" "a" "I") (by decide +kernel)) (fun _ h9 => h9) rfl dX3_dayFor_56 ?_
    refine lv_aload_n hx hb dX3_dayFor_59 rfl (lv_at hl 0 rfl) ?_
    refine va_get (D := (dC, dI)) (ci := 3) (v := .int (zi bd)) (C := RX3) (T := TX3) (N := 4) hx hb hts (by decide +kernel) hown hK hP 0 rfl rfl 2 (by decide) (hts (.fieldLink RX3 18 "CivilDays$Rule" "b" "I") (by decide +kernel)) (fun _ h9 => h9) rfl dX3_dayFor_60 ?_
    refine lv_aload_n hx hb dX3_dayFor_63 rfl (lv_at hl 0 rfl) ?_
    refine va_get (D := (dC, dI)) (ci := 3) (v := .int (zi cd)) (C := RX3) (T := TX3) (N := 4) hx hb hts (by decide +kernel) hown hK hP 0 rfl rfl 3 (by decide) (hts (.fieldLink RX3 21 "CivilDays$Rule" "c" "I") (by decide +kernel)) (fun _ h9 => h9) rfl dX3_dayFor_64 ?_
    have hh7 := c_X0_nthNumber l ya ad bd cd (by omega) (by omega) (by omega) (by omega)
    refine vp_callSi (va_Run.run (va_runS (As := [.int (zi ya), .int (zi ad), .int (zi bd), .int (zi cd)]) (rest := []) ⟨hx, hb, hml, hown, hts⟩ hh7 (va_cwS 4 hts gX3_dayFor_X0_nthNumber rfl rfl rfl (by decide +kernel) ⟨Nat.le_of_ble_eq_true rfl, Nat.le_of_ble_eq_true rfl⟩) ⟨fun a U g mk q => q, fun U hU hW => ⟨rfl, trivial⟩⟩ rfl rfl hl.1 rfl (lv_room (Nat.le_of_ble_eq_true rfl)) dX3_dayFor_67 ⟨Nat.zero_le _, Nat.zero_le _⟩)) (fun r7 (hr7 : r7 = zi (f_X0_nthNumber ya ad bd cd)) => ?_)
    subst hr7
    have hf7 := b_X0_nthNumber ya ad bd cd (by omega) (by omega) (by omega) (by omega)
    exact W.iret (v := zi (f_X0_nthNumber ya ad bd cd)) hx hb hr (fun t ht hW => ⟨zi (f_X0_nthNumber ya ad bd cd), rfl, by rw [f_X3_dayFor, if_neg h1, if_neg h3, if_pos h6], ht⟩) (fun q h => by cases h) dX3_dayFor_70
  refine zw_tableOut (tgt := 71) hx hb dX3_dayFor_4 ⟨by omega, by omega⟩ (by omega) (by decide) ?_
  refine lv_iload_n hx hb dX3_dayFor_71 rfl (lv_at hl 1 rfl) ?_
  refine lv_aload_n hx hb dX3_dayFor_72 rfl (lv_at hl 0 rfl) ?_
  refine va_get (D := (dC, dI)) (ci := 3) (v := .int (zi ad)) (C := RX3) (T := TX3) (N := 4) hx hb hts (by decide +kernel) hown hK hP 0 rfl rfl 1 (by decide) (hts (.fieldLink RX3 15 "CivilDays$Rule" "a" "I") (by decide +kernel)) (fun _ h9 => h9) rfl dX3_dayFor_73 ?_
  refine lv_aload_n hx hb dX3_dayFor_76 rfl (lv_at hl 0 rfl) ?_
  refine va_get (D := (dC, dI)) (ci := 3) (v := .int (zi bd)) (C := RX3) (T := TX3) (N := 4) hx hb hts (by decide +kernel) hown hK hP 0 rfl rfl 2 (by decide) (hts (.fieldLink RX3 18 "CivilDays$Rule" "b" "I") (by decide +kernel)) (fun _ h9 => h9) rfl dX3_dayFor_77 ?_
  have hh8 := c_X0_civilNumber l ya ad bd (by omega) (by omega) (by omega)
  refine vp_callSi (va_Run.run (va_runS (As := [.int (zi ya), .int (zi ad), .int (zi bd)]) (rest := []) ⟨hx, hb, hml, hown, hts⟩ hh8 (va_cwS 3 hts gX3_dayFor_X0_civilNumber rfl rfl rfl (by decide +kernel) ⟨Nat.le_of_ble_eq_true rfl, Nat.le_of_ble_eq_true rfl⟩) ⟨fun a U g mk q => q, fun U hU hW => ⟨rfl, trivial⟩⟩ rfl rfl hl.1 rfl (lv_room (Nat.le_of_ble_eq_true rfl)) dX3_dayFor_80 ⟨Nat.zero_le _, Nat.zero_le _⟩)) (fun r8 (hr8 : r8 = zi (f_X0_civilNumber ya ad bd)) => ?_)
  subst hr8
  have hf8 := b_X0_civilNumber ya ad bd (by omega) (by omega) (by omega)
  have hh9 := c_X3_observed l (f_X0_civilNumber ya ad bd) (by omega)
  refine vp_callSi (va_Run.run (va_runS (As := [.int (zi (f_X0_civilNumber ya ad bd))]) (rest := []) ⟨hx, hb, hml, hown, hts⟩ hh9 (va_cwS 1 hts gX3_dayFor_X3_observed rfl rfl rfl (by decide +kernel) ⟨Nat.le_of_ble_eq_true rfl, Nat.le_of_ble_eq_true rfl⟩) ⟨fun a U g mk q => q, fun U hU hW => ⟨rfl, trivial⟩⟩ rfl rfl hl.1 rfl (lv_room (Nat.le_of_ble_eq_true rfl)) dX3_dayFor_83 ⟨Nat.zero_le _, Nat.zero_le _⟩)) (fun r9 (hr9 : r9 = zi (f_X3_observed (f_X0_civilNumber ya ad bd))) => ?_)
  subst hr9
  have hf9 := b_X3_observed (f_X0_civilNumber ya ad bd) (by omega)
  exact W.iret (v := zi (f_X3_observed (f_X0_civilNumber ya ad bd))) hx hb hr (fun t ht hW => ⟨zi (f_X3_observed (f_X0_civilNumber ya ad bd)), rfl, by rw [f_X3_dayFor, if_neg h1, if_neg h3, if_neg h6], ht⟩) (fun q h => by cases h) dX3_dayFor_86

set_option maxHeartbeats 4000000 in
set_option maxRecDepth 100000 in
theorem c_X3_givesDay (l : Launch)  (dC : Nat → ClassId) (dI : Nat → Nat → Nat) (h0 : Nat) (kd : Int) (ad : Int) (bd : Int) (cd : Int) (nu : Int) (hp0 : 0 ≤ nu ∧ nu ≤ 3652058) (hp1 : (0 ≤ kd ∧ kd ≤ 3) ∧ (kd = 1 ∧ -100 ≤ ad ∧ ad ≤ 100 ∨ kd ≠ 1 ∧ 1 ≤ ad ∧ ad ≤ 12) ∧ (kd = 1 ∨ kd = 2 ∧ 1 ≤ bd ∧ bd ≤ 7 ∨ kd ≠ 2 ∧ 1 ≤ bd ∧ bd ≤ 31) ∧ (kd ≠ 2 ∨ cd = -1 ∨ 1 ≤ cd ∧ cd ≤ 4)) : Met l yX3_givesDay wsX3_givesDay ({ frames := 4, cells := 0, slots := 0, locals := 90 }) (zPr (dC, dI) [] [.ref h0, .int (zi nu)] [(h0, .inr (3, [.int (zi kd), .int (zi ad), .int (zi bd), .int (zi cd)]))]) (vp_Si (fun r => r = zi (gvX3 kd ad bd cd nu))) 0 0 zN := by
  refine Met.ofW (cc := cX3_givesDay) (maxL := 3) (ret := (some .boolean)) (by decide) rfl ?_
  intro p e s m args below meth c s₁ B hml hv
  obtain ⟨rfl, hP, hK⟩ := hv
  have hx := B.exec
  have hb := B.bytes
  have hr := B.returns
  have hts := atoms_spec (ws := wsX3_givesDay) B.pre
  have hown : s.vm.findClass RX3 = some m.cls := findClass_of_methodNamed B.named
  have hlocks := B.notSynchronized
  have hl := lv_entry ([.ref h0, .int (zi nu)]) (n := 3) (Nat.le_of_ble_eq_true rfl)
  rw [lg_entry_eq]
  generalize (lg_sl ([.ref h0, .int (zi nu)]) ++ List.replicate (3 - (lg_sl ([.ref h0, .int (zi nu)])).length) Slot.unset).toArray = ls at hl ⊢
  have hl : lv_has ls 3 [(0, .ref h0), (1, .int (zi nu))] := hl
  refine lv_iload_n hx hb dX3_givesDay_0 rfl (lv_at hl 1 rfl) ?_
  have hh1 := c_X0_yearOf l nu (by omega)
  refine vp_callSi (va_Run.run (va_runS (As := [.int (zi nu)]) (rest := []) ⟨hx, hb, hml, hown, hts⟩ hh1 (va_cwS 1 hts gX3_givesDay_X0_yearOf rfl rfl rfl (by decide +kernel) ⟨Nat.le_of_ble_eq_true rfl, Nat.le_of_ble_eq_true rfl⟩) ⟨fun a U g mk q => q, fun U hU hW => ⟨rfl, trivial⟩⟩ rfl rfl hl.1 rfl (lv_room (Nat.le_of_ble_eq_true rfl)) dX3_givesDay_1 ⟨Nat.zero_le _, Nat.zero_le _⟩)) (fun r1 (hr1 : r1 = zi (f_X0_yearOf nu)) => ?_)
  subst hr1
  have hf1 := b_X0_yearOf nu (by omega)
  refine zw_top (fun x2 ex2 => ?_)
  refine lv_istore_n (lv' := [(2, .int (zi x2)), (0, .ref h0), (1, .int (zi nu))]) hx hb dX3_givesDay_4 rfl hl (by decide) rfl (fun ls hl => ?_)
  refine lv_aload_n hx hb dX3_givesDay_5 rfl (lv_at hl 1 rfl) ?_
  refine lv_iload_n hx hb dX3_givesDay_6 rfl (lv_at hl 0 rfl) ?_
  have hh3 := c_X3_dayFor l dC dI h0 kd ad bd cd x2 (by omega) (by omega)
  have hPc := hP.sub (ws' := [(h0, .inr (3, [.int (zi kd), .int (zi ad), .int (zi bd), .int (zi cd)]))]) [0] rfl
  have hKc : va_K (dC, dI) vwCl [] s := hK
  refine vp_callSi (va_Run.run (va_runV (As := [.int (zi x2)]) (rest := []) ⟨hx, hb, hml, hown, hts⟩ hh3 (cwV 1 hts gX3_givesDay_X3_dayFor rfl rfl rfl (by decide +kernel) ⟨Nat.le_of_ble_eq_true rfl, Nat.le_of_ble_eq_true rfl⟩) ⟨zPr.blind _ _ _ _, va_recv hKc hPc (ci := 3) (q0 := 0) rfl rfl, fun U hU hW => ⟨rfl, by rw [hU]; exact hPc, va_K.moved hW.alike hKc⟩⟩ rfl rfl hl.1 rfl (lv_room (Nat.le_of_ble_eq_true rfl)) dX3_givesDay_7 ⟨Nat.le_of_ble_eq_true rfl, Nat.le_of_ble_eq_true rfl⟩)) (fun r3 (hr3 : r3 = zi (f_X3_dayFor kd ad bd cd x2)) => ?_)
  subst hr3
  have hf3_0 := b_X3_dayFor kd ad bd cd x2 (by omega) (by omega)
  refine lv_iload_n hx hb dX3_givesDay_10 rfl (lv_at hl 2 rfl) ?_
  refine zw_icmp_eq (tgt := 36) hx hb dX3_givesDay_11 (by decide) ⟨by omega, by omega⟩ ⟨by omega, by omega⟩ (fun h4 => ?_) (fun h4 => ?_)
  · skip
    have hgs := gvX3_s kd ad bd cd nu
    refine zw_iconst hx hb dX3_givesDay_36 ?_
    refine lv_goto (tgt := 41) hx hb dX3_givesDay_37 (by decide) ?_
    subst ex2
    exact W.zret (v := zi 1) hx hb hr (zi_nb (by omega)) (fun t ht hW => ⟨zi 1, rfl, congrArg zi (by omega), ht⟩) (fun q h => by cases h) dX3_givesDay_41
  · skip
    refine lv_aload_n hx hb dX3_givesDay_14 rfl (lv_at hl 1 rfl) ?_
    refine lv_iload_n hx hb dX3_givesDay_15 rfl (lv_at hl 0 rfl) ?_
    refine zw_iconst hx hb dX3_givesDay_16 ?_
    refine zw_isub hx hb dX3_givesDay_17 ?_
    have hh5 := c_X3_dayFor l dC dI h0 kd ad bd cd (x2 - 1) (by omega) (by omega)
    have hPc := hP.sub (ws' := [(h0, .inr (3, [.int (zi kd), .int (zi ad), .int (zi bd), .int (zi cd)]))]) [0] rfl
    have hKc : va_K (dC, dI) vwCl [] s := hK
    refine vp_callSi (va_Run.run (va_runV (As := [.int (zi (x2 - 1))]) (rest := []) ⟨hx, hb, hml, hown, hts⟩ hh5 (cwV 1 hts gX3_givesDay_X3_dayFor rfl rfl rfl (by decide +kernel) ⟨Nat.le_of_ble_eq_true rfl, Nat.le_of_ble_eq_true rfl⟩) ⟨zPr.blind _ _ _ _, va_recv hKc hPc (ci := 3) (q0 := 0) rfl rfl, fun U hU hW => ⟨rfl, by rw [hU]; exact hPc, va_K.moved hW.alike hKc⟩⟩ rfl rfl hl.1 rfl (lv_room (Nat.le_of_ble_eq_true rfl)) dX3_givesDay_18 ⟨Nat.le_of_ble_eq_true rfl, Nat.le_of_ble_eq_true rfl⟩)) (fun r5 (hr5 : r5 = zi (f_X3_dayFor kd ad bd cd (x2 - 1))) => ?_)
    subst hr5
    have hf5_0 := b_X3_dayFor kd ad bd cd (x2 - 1) (by omega) (by omega)
    refine lv_iload_n hx hb dX3_givesDay_21 rfl (lv_at hl 2 rfl) ?_
    refine zw_icmp_eq (tgt := 36) hx hb dX3_givesDay_22 (by decide) ⟨by omega, by omega⟩ ⟨by omega, by omega⟩ (fun h6 => ?_) (fun h6 => ?_)
    · skip
      have hgs := gvX3_s kd ad bd cd nu
      refine zw_iconst hx hb dX3_givesDay_36 ?_
      refine lv_goto (tgt := 41) hx hb dX3_givesDay_37 (by decide) ?_
      subst ex2
      exact W.zret (v := zi 1) hx hb hr (zi_nb (by omega)) (fun t ht hW => ⟨zi 1, rfl, congrArg zi (by omega), ht⟩) (fun q h => by cases h) dX3_givesDay_41
    · skip
      refine lv_aload_n hx hb dX3_givesDay_25 rfl (lv_at hl 1 rfl) ?_
      refine lv_iload_n hx hb dX3_givesDay_26 rfl (lv_at hl 0 rfl) ?_
      refine zw_iconst hx hb dX3_givesDay_27 ?_
      refine zw_iadd hx hb dX3_givesDay_28 ?_
      have hh7 := c_X3_dayFor l dC dI h0 kd ad bd cd (x2 + 1) (by omega) (by omega)
      have hPc := hP.sub (ws' := [(h0, .inr (3, [.int (zi kd), .int (zi ad), .int (zi bd), .int (zi cd)]))]) [0] rfl
      have hKc : va_K (dC, dI) vwCl [] s := hK
      refine vp_callSi (va_Run.run (va_runV (As := [.int (zi (x2 + 1))]) (rest := []) ⟨hx, hb, hml, hown, hts⟩ hh7 (cwV 1 hts gX3_givesDay_X3_dayFor rfl rfl rfl (by decide +kernel) ⟨Nat.le_of_ble_eq_true rfl, Nat.le_of_ble_eq_true rfl⟩) ⟨zPr.blind _ _ _ _, va_recv hKc hPc (ci := 3) (q0 := 0) rfl rfl, fun U hU hW => ⟨rfl, by rw [hU]; exact hPc, va_K.moved hW.alike hKc⟩⟩ rfl rfl hl.1 rfl (lv_room (Nat.le_of_ble_eq_true rfl)) dX3_givesDay_29 ⟨Nat.le_of_ble_eq_true rfl, Nat.le_of_ble_eq_true rfl⟩)) (fun r7 (hr7 : r7 = zi (f_X3_dayFor kd ad bd cd (x2 + 1))) => ?_)
      subst hr7
      have hf7_0 := b_X3_dayFor kd ad bd cd (x2 + 1) (by omega) (by omega)
      refine lv_iload_n hx hb dX3_givesDay_32 rfl (lv_at hl 2 rfl) ?_
      refine zw_icmp_ne (tgt := 40) hx hb dX3_givesDay_33 (by decide) ⟨by omega, by omega⟩ ⟨by omega, by omega⟩ (fun h8 => ?_) (fun h8 => ?_)
      · skip
        have hgs := gvX3_s kd ad bd cd nu
        refine zw_iconst hx hb dX3_givesDay_40 ?_
        subst ex2
        exact W.zret (v := zi 0) hx hb hr (zi_nb (by omega)) (fun t ht hW => ⟨zi 0, rfl, congrArg zi (by omega), ht⟩) (fun q h => by cases h) dX3_givesDay_41
      · skip
        have hgs := gvX3_s kd ad bd cd nu
        refine zw_iconst hx hb dX3_givesDay_36 ?_
        refine lv_goto (tgt := 41) hx hb dX3_givesDay_37 (by decide) ?_
        subst ex2
        exact W.zret (v := zi 1) hx hb hr (zi_nb (by omega)) (fun t ht hW => ⟨zi 1, rfl, congrArg zi (by omega), ht⟩) (fun q h => by cases h) dX3_givesDay_41

set_option maxHeartbeats 4000000 in
set_option maxRecDepth 100000 in
theorem c_Jx_size (l : Launch)  (dC : Nat → ClassId) (dI : Nat → Nat → Nat) (h0 : Nat) (mc : Int) (qe : Nat) (ru : Int)  : Met l yJx4a65c_size_8abf5 wsJx4a65c_size_8abf5 ({ frames := 0, cells := 0, slots := 0, locals := 0 }) (zPr (dC, dI) [] [.ref h0] [(h0, .inr (0, [.int (zi mc), .ref qe, .int (zi ru)]))]) (vp_Si (fun r => r = zi ru)) 0 0 zN := by
  refine Met.ofW (cc := cJx4a65c_size_8abf5) (maxL := 1) (ret := (some .int)) (by decide) rfl ?_
  intro p e s m args below meth c s₁ B hml hv
  obtain ⟨rfl, hP, hK⟩ := hv
  have hx := B.exec
  have hb := B.bytes
  have hr := B.returns
  have hts := atoms_spec (ws := wsJx4a65c_size_8abf5) B.pre
  have hown : s.vm.findClass RJx4a65c = some m.cls := findClass_of_methodNamed B.named
  have hlocks := B.notSynchronized
  have hl := lv_entry ([.ref h0]) (n := 1) (Nat.le_of_ble_eq_true rfl)
  rw [lg_entry_eq]
  generalize (lg_sl ([.ref h0]) ++ List.replicate (1 - (lg_sl ([.ref h0])).length) Slot.unset).toArray = ls at hl ⊢
  have hl : lv_has ls 1 [(0, .ref h0)] := hl
  refine lv_aload_n hx hb dJx4a65c_size_8abf5_0 rfl (lv_at hl 0 rfl) ?_
  refine va_get (D := (dC, dI)) (ci := 0) (v := .int (zi ru)) (C := RJx4a65c) (T := TJx4a65c) (N := 3) hx hb hts (by decide +kernel) hown hK hP 0 rfl rfl 2 (by decide) (hts (.fieldLink RJx4a65c 48 "java/util/ArrayList" "size" "I") (by decide +kernel)) (fun _ h9 => h9) rfl dJx4a65c_size_8abf5_1 ?_
  exact W.iret (v := zi ru) hx hb hr (fun t ht hW => ⟨zi ru, rfl, rfl, ht⟩) (fun q h => by cases h) dJx4a65c_size_8abf5_4

set_option maxHeartbeats 4000000 in
set_option maxRecDepth 100000 in
theorem c_J3_checkIndex (l : Launch)  (dC : Nat → ClassId) (dI : Nat → Nat → Nat) (ix : Int) (n9 : Int) (hp0 : 0 ≤ ix ∧ ix < n9 ∧ n9 ≤ 2147483647) : Met l yJ3_checkIndex_8e157 wsJ3_checkIndex_8e157 ({ frames := 0, cells := 0, slots := 0, locals := 0 }) (zPr (dC, dI) [] [.int (zi ix), .int (zi n9), .null] []) (vp_Si (fun r => r = zi ix)) 0 0 zN := by
  refine Met.ofW (cc := cJ3_checkIndex_8e157) (maxL := 3) (ret := (some .int)) (by decide) rfl ?_
  intro p e s m args below meth c s₁ B hml hv
  obtain ⟨rfl, hP, hK⟩ := hv
  have hx := B.exec
  have hb := B.bytes
  have hr := B.returns
  have hts := atoms_spec (ws := wsJ3_checkIndex_8e157) B.pre
  have hown : s.vm.findClass RJ3 = some m.cls := findClass_of_methodNamed B.named
  have hlocks := B.notSynchronized
  have hl := lv_entry ([.int (zi ix), .int (zi n9), .null]) (n := 3) (Nat.le_of_ble_eq_true rfl)
  rw [lg_entry_eq]
  generalize (lg_sl ([.int (zi ix), .int (zi n9), .null]) ++ List.replicate (3 - (lg_sl ([.int (zi ix), .int (zi n9), .null])).length) Slot.unset).toArray = ls at hl ⊢
  have hl : lv_has ls 3 [(0, .int (zi ix)), (1, .int (zi n9)), (2, .null)] := hl
  refine lv_iload_n hx hb dJ3_checkIndex_8e157_0 rfl (lv_at hl 0 rfl) ?_
  refine zw_if_lt (tgt := 9) hx hb dJ3_checkIndex_8e157_1 (by decide) ⟨by omega, by omega⟩ (fun h1 => ?_) (fun h1 => ?_)
  · skip
    exact absurd True.intro (by omega)
  · skip
    refine lv_iload_n hx hb dJ3_checkIndex_8e157_4 rfl (lv_at hl 0 rfl) ?_
    refine lv_iload_n hx hb dJ3_checkIndex_8e157_5 rfl (lv_at hl 1 rfl) ?_
    refine zw_icmp_lt (tgt := 16) hx hb dJ3_checkIndex_8e157_6 (by decide) ⟨by omega, by omega⟩ ⟨by omega, by omega⟩ (fun h2 => ?_) (fun h2 => ?_)
    · skip
      refine lv_iload_n hx hb dJ3_checkIndex_8e157_16 rfl (lv_at hl 0 rfl) ?_
      exact W.iret (v := zi ix) hx hb hr (fun t ht hW => ⟨zi ix, rfl, rfl, ht⟩) (fun q h => by cases h) dJ3_checkIndex_8e157_17
    · skip
      exact absurd True.intro (by omega)

set_option maxHeartbeats 4000000 in
set_option maxRecDepth 100000 in
theorem c_J15_checkIndex (l : Launch)  (dC : Nat → ClassId) (dI : Nat → Nat → Nat) (ix : Int) (n9 : Int) (hp0 : 0 ≤ ix ∧ ix < n9 ∧ n9 ≤ 2147483647) : Met l yJ15_checkIndex_7cf53 wsJ15_checkIndex_7cf53 ({ frames := 1, cells := 0, slots := 0, locals := 22 }) (zPr (dC, dI) [] [.int (zi ix), .int (zi n9)] []) (vp_Si (fun r => r = zi ix)) 0 0 zN := by
  refine Met.ofW (cc := cJ15_checkIndex_7cf53) (maxL := 2) (ret := (some .int)) (by decide) rfl ?_
  intro p e s m args below meth c s₁ B hml hv
  obtain ⟨rfl, hP, hK⟩ := hv
  have hx := B.exec
  have hb := B.bytes
  have hr := B.returns
  have hts := atoms_spec (ws := wsJ15_checkIndex_7cf53) B.pre
  have hown : s.vm.findClass RJ15 = some m.cls := findClass_of_methodNamed B.named
  have hlocks := B.notSynchronized
  have hl := lv_entry ([.int (zi ix), .int (zi n9)]) (n := 2) (Nat.le_of_ble_eq_true rfl)
  rw [lg_entry_eq]
  generalize (lg_sl ([.int (zi ix), .int (zi n9)]) ++ List.replicate (2 - (lg_sl ([.int (zi ix), .int (zi n9)])).length) Slot.unset).toArray = ls at hl ⊢
  have hl : lv_has ls 2 [(0, .int (zi ix)), (1, .int (zi n9))] := hl
  refine lv_iload_n hx hb dJ15_checkIndex_7cf53_0 rfl (lv_at hl 0 rfl) ?_
  refine lv_iload_n hx hb dJ15_checkIndex_7cf53_1 rfl (lv_at hl 1 rfl) ?_
  refine lv_null hx hb dJ15_checkIndex_7cf53_2 ?_
  have hh1 := c_J3_checkIndex l dC dI ix n9 (by omega)
  have hPc := hP.sub (ws' := []) [] rfl
  have hKc : va_K (dC, dI) vwCl [] s := hK
  refine vp_callSi (va_Run.run (va_runS (As := [.int (zi ix), .int (zi n9), .null]) (rest := []) ⟨hx, hb, hml, hown, hts⟩ hh1 (va_cwS 3 hts gJ15_checkIndex_7cf53_J3_checkIndex_8e157 rfl rfl rfl (by decide +kernel) ⟨Nat.le_of_ble_eq_true rfl, Nat.le_of_ble_eq_true rfl⟩) ⟨zPr.blind _ _ _ _, fun U hU hW => ⟨rfl, by rw [hU]; exact hPc, va_K.moved hW.alike hKc⟩⟩ rfl rfl hl.1 rfl (lv_room (Nat.le_of_ble_eq_true rfl)) dJ15_checkIndex_7cf53_3 ⟨Nat.le_of_ble_eq_true rfl, Nat.le_of_ble_eq_true rfl⟩)) (fun r1 (hr1 : r1 = zi ix) => ?_)
  subst hr1
  exact W.iret (v := zi ix) hx hb hr (fun t ht hW => ⟨zi ix, rfl, rfl, ht⟩) (fun q h => by cases h) dJ15_checkIndex_7cf53_6

set_option maxHeartbeats 4000000 in
set_option maxRecDepth 100000 in
theorem c_Jx_elementData (l : Launch)  (dC : Nat → ClassId) (dI : Nat → Nat → Nat) (cO : ClassId) (h0 : Nat) (mc : Int) (qe : Nat) (ru : Int) (cap : Nat) (ef : Nat → Option Nat) (ix : Int) (hp0 : 0 ≤ ix ∧ ix < (cap : Int) ∧ (cap : Int) ≤ 1000) : Met l yJx4a65c_elementData_915e3 wsJx4a65c_elementData_915e3 ({ frames := 0, cells := 0, slots := 0, locals := 0 }) (zPr (dC, dI) [(cO, .object "java/lang/Object")] [.ref h0, .int (zi ix)] [(h0, .inr (0, [.int (zi mc), .ref qe, .int (zi ru)])), (qe, aR cO cap ef)]) (va_Sq (fun r => r = (ef ix.toNat))) 0 0 zN := by
  refine Met.ofW (cc := cJx4a65c_elementData_915e3) (maxL := 2) (ret := (some (.object "java/lang/Object"))) (by decide) rfl ?_
  intro p e s m args below meth c s₁ B hml hv
  obtain ⟨rfl, hP, hK⟩ := hv
  have hx := B.exec
  have hb := B.bytes
  have hr := B.returns
  have hts := atoms_spec (ws := wsJx4a65c_elementData_915e3) B.pre
  have hown : s.vm.findClass RJx4a65c = some m.cls := findClass_of_methodNamed B.named
  have hlocks := B.notSynchronized
  have hl := lv_entry ([.ref h0, .int (zi ix)]) (n := 2) (Nat.le_of_ble_eq_true rfl)
  rw [lg_entry_eq]
  generalize (lg_sl ([.ref h0, .int (zi ix)]) ++ List.replicate (2 - (lg_sl ([.ref h0, .int (zi ix)])).length) Slot.unset).toArray = ls at hl ⊢
  have hl : lv_has ls 2 [(0, .ref h0), (1, .int (zi ix))] := hl
  refine lv_aload_n hx hb dJx4a65c_elementData_915e3_0 rfl (lv_at hl 0 rfl) ?_
  refine va_get (D := (dC, dI)) (ci := 0) (v := .ref qe) (C := RJx4a65c) (T := TJx4a65c) (N := 3) hx hb hts (by decide +kernel) hown hK hP 0 rfl rfl 1 (by decide) (hts (.fieldLink RJx4a65c 9 "java/util/ArrayList" "elementData" "[Ljava/lang/Object;") (by decide +kernel)) (fun _ h9 => h9) rfl dJx4a65c_elementData_915e3_1 ?_
  refine lv_iload_n hx hb dJx4a65c_elementData_915e3_4 rfl (lv_at hl 1 rfl) ?_
  refine zw_aald hx hb hK hP 1 0 rfl rfl (by omega) (by omega) ⟨by omega, by omega⟩ dJx4a65c_elementData_915e3_5 ?_
  exact W.aret (v := va_rf (ef ix.toNat)) hx hb hr (Or.inl ⟨_, rfl⟩) (va_rf_or _) (fun t ht hW => ⟨(ef ix.toNat), rfl, rfl, ht⟩) (fun q h => by cases h) dJx4a65c_elementData_915e3_6

set_option maxHeartbeats 4000000 in
set_option maxRecDepth 100000 in
theorem c_Jx_get (l : Launch)  (dC : Nat → ClassId) (dI : Nat → Nat → Nat) (cO : ClassId) (h0 : Nat) (mc : Int) (qe : Nat) (ru : Int) (cap : Nat) (ef : Nat → Option Nat) (ix : Int) (hp0 : 0 ≤ ix ∧ ix < ru ∧ ru ≤ (cap : Int) ∧ (cap : Int) ≤ 1000) : Met l yJx4a65c_get_915e3 wsJx4a65c_get_915e3 ({ frames := 2, cells := 0, slots := 0, locals := 43 }) (zPr (dC, dI) [(cO, .object "java/lang/Object")] [.ref h0, .int (zi ix)] [(h0, .inr (0, [.int (zi mc), .ref qe, .int (zi ru)])), (qe, aR cO cap ef)]) (va_Sq (fun r => r = (ef ix.toNat))) 0 0 zN := by
  refine Met.ofW (cc := cJx4a65c_get_915e3) (maxL := 2) (ret := (some (.object "java/lang/Object"))) (by decide) rfl ?_
  intro p e s m args below meth c s₁ B hml hv
  obtain ⟨rfl, hP, hK⟩ := hv
  have hx := B.exec
  have hb := B.bytes
  have hr := B.returns
  have hts := atoms_spec (ws := wsJx4a65c_get_915e3) B.pre
  have hown : s.vm.findClass RJx4a65c = some m.cls := findClass_of_methodNamed B.named
  have hlocks := B.notSynchronized
  have hl := lv_entry ([.ref h0, .int (zi ix)]) (n := 2) (Nat.le_of_ble_eq_true rfl)
  rw [lg_entry_eq]
  generalize (lg_sl ([.ref h0, .int (zi ix)]) ++ List.replicate (2 - (lg_sl ([.ref h0, .int (zi ix)])).length) Slot.unset).toArray = ls at hl ⊢
  have hl : lv_has ls 2 [(0, .ref h0), (1, .int (zi ix))] := hl
  refine lv_iload_n hx hb dJx4a65c_get_915e3_0 rfl (lv_at hl 1 rfl) ?_
  refine lv_aload_n hx hb dJx4a65c_get_915e3_1 rfl (lv_at hl 0 rfl) ?_
  refine va_get (D := (dC, dI)) (ci := 0) (v := .int (zi ru)) (C := RJx4a65c) (T := TJx4a65c) (N := 3) hx hb hts (by decide +kernel) hown hK hP 0 rfl rfl 2 (by decide) (hts (.fieldLink RJx4a65c 48 "java/util/ArrayList" "size" "I") (by decide +kernel)) (fun _ h9 => h9) rfl dJx4a65c_get_915e3_2 ?_
  have hh1 := c_J15_checkIndex l dC dI ix ru (by omega)
  have hPc := hP.sub (ws' := []) [] rfl
  have hKc : va_K (dC, dI) vwCl [] s := hK.sub (tys' := []) [] rfl
  refine vp_callSi (va_Run.run (va_runS (As := [.int (zi ix), .int (zi ru)]) (rest := []) ⟨hx, hb, hml, hown, hts⟩ hh1 (va_cwS 2 hts gJx4a65c_get_915e3_J15_checkIndex_7cf53 rfl rfl rfl (by decide +kernel) ⟨Nat.le_of_ble_eq_true rfl, Nat.le_of_ble_eq_true rfl⟩) ⟨zPr.blind _ _ _ _, fun U hU hW => ⟨rfl, by rw [hU]; exact hPc, va_K.moved hW.alike hKc⟩⟩ rfl rfl hl.1 rfl (lv_room (Nat.le_of_ble_eq_true rfl)) dJx4a65c_get_915e3_5 ⟨Nat.le_of_ble_eq_true rfl, Nat.le_of_ble_eq_true rfl⟩)) (fun r1 (hr1 : r1 = zi ix) => ?_)
  subst hr1
  refine lv_pop hx hb dJx4a65c_get_915e3_8 rfl ?_
  refine lv_aload_n hx hb dJx4a65c_get_915e3_9 rfl (lv_at hl 0 rfl) ?_
  refine lv_iload_n hx hb dJx4a65c_get_915e3_10 rfl (lv_at hl 1 rfl) ?_
  have hh2 := c_Jx_elementData l dC dI cO h0 mc qe ru cap ef ix (by omega)
  have hPc := hP.sub (ws' := [(h0, .inr (0, [.int (zi mc), .ref qe, .int (zi ru)])), (qe, aR cO cap ef)]) [0, 1] rfl
  have hKc : va_K (dC, dI) vwCl [(cO, .object "java/lang/Object")] s := hK
  refine va_csq (va_Run.run (va_runV (As := [.int (zi ix)]) (rest := []) ⟨hx, hb, hml, hown, hts⟩ hh2 (cwV 1 hts gJx4a65c_get_915e3_Jx4a65c_elementData_915e3 rfl rfl rfl (by decide +kernel) ⟨Nat.le_of_ble_eq_true rfl, Nat.le_of_ble_eq_true rfl⟩) ⟨zPr.blind _ _ _ _, va_recv hKc hPc (ci := 0) (q0 := 0) rfl rfl, fun U hU hW => ⟨rfl, by rw [hU]; exact hPc, va_K.moved hW.alike hKc⟩⟩ rfl rfl hl.1 rfl (lv_room (Nat.le_of_ble_eq_true rfl)) dJx4a65c_get_915e3_11 ⟨Nat.le_of_ble_eq_true rfl, Nat.le_of_ble_eq_true rfl⟩)) (fun r2 (hr2 : r2 = (ef ix.toNat)) => ?_)
  subst hr2
  exact W.aret (v := va_rf (ef ix.toNat)) hx hb hr (Or.inl ⟨_, rfl⟩) (va_rf_or _) (fun t ht hW => ⟨(ef ix.toNat), rfl, rfl, ht⟩) (fun q h => by cases h) dJx4a65c_get_915e3_14

set_option maxHeartbeats 4000000 in
set_option maxRecDepth 100000 in
theorem c_J7_fill (l : Launch)  (dC : Nat → ClassId) (dI : Nat → Nat → Nat) (cI : ClassId) (qa : Nat) (nn_ : Nat) (sf : Nat → Int) (va : Int) (sz : Nat) (hp0 : (nn_ : Int) ≤ 1000) : Met l yJ7_fill_53178 wsJ7_fill_53178 ({ frames := 0, cells := 0, slots := 0, locals := 0 }) (zPw (dC, dI) [(cI, .int)] sz [.ref qa, .int (zi va)] [(qa, aI cI nn_ sf)]) (va_Qv (fun (u : (Nat → Int)) => ∀ j : Nat, u j = if j < nn_ then va else sf j) (fun (u : (Nat → Int)) => zB (dC, dI) [(cI, .int)] (va_A [(qa, aI cI nn_ sf)] sz) [(qa, aI cI nn_ u)] ()) (va_A [(qa, aI cI nn_ sf)] sz)) 0 0 (va_A [(qa, aI cI nn_ sf)] sz) := by
  refine Met.ofW (cc := cJ7_fill_53178) (maxL := 4) (ret := none) (by decide) rfl ?_
  intro p e s m args below meth c s₁ B hml hv
  obtain ⟨rfl, hsz, hP, hK, hD0⟩ := hv
  have hx := B.exec
  have hb := B.bytes
  have hr := B.returns
  have hts := atoms_spec (ws := wsJ7_fill_53178) B.pre
  have hown : s.vm.findClass RJ7 = some m.cls := findClass_of_methodNamed B.named
  have hlocks := B.notSynchronized
  subst hsz
  have hD := hD0.self (sz := s.heap.size)
  generalize hAe : va_A [(qa, aI cI nn_ sf)] s.heap.size = A at hD ⊢
  have hA : ∀ q : Nat, s.heap.size ≤ q → A q := fun q h => by rw [← hAe]; exact Or.inr h
  have hS : va_S A s.heap s.heap [] := va_S.rf
  have hP : va_P (dC, dI) vwCl [(qa, aI cI nn_ sf)] s.heap := hP
  have loop5 : ∀ (fu : Nat) (ii : Int) (fg : Nat → Int), (0 ≤ ii ∧ ii ≤ (nn_ : Int)) → (∀ j : Nat, fg j = if (j : Int) < ii then va else sf j) → ((nn_ : Int) - ii < fu) → ∀ (ls : Array Slot) (H : Heap) (locs : List Loc), lv_has ls 4 [(2, .int (zi ii)), (0, .ref qa), (1, .int (zi va)), (3, .int (zi ((nn_ : Nat) : Int)))] → va_P (dC, dI) vwCl [(qa, aI cI nn_ fg)] H → va_D A [(qa, aI cI nn_ fg)] → va_S A s.heap H locs → W p l e (headSpec wsJ7_fill_53178 ({ frames := 0, cells := 0, slots := 0, locals := 0 })).room s m ([.ref qa, .int (zi va)] : List Value).toArray below meth c H locs 0 0 (MQ below (va_Qv (fun (u : (Nat → Int)) => ∀ j : Nat, u j = if j < nn_ then va else sf j) (fun (u : (Nat → Int)) => zB (dC, dI) [(cI, .int)] A [(qa, aI cI nn_ u)] ()) A) ([.ref qa, .int (zi va)] : List Value).toArray s 0 0 A) (F0 m 5 ls []) := by
    intro fu
    induction fu with
    | zero =>
      intro ii fg hi0 hi1 hfu ls H locs hl hP hD hS
      exact absurd hfu (by omega)
    | succ fu ih =>
      intro ii fg hi0 hi1 hfu ls H locs hl hP hD hS
      have hP : va_P (dC, dI) vwCl [(qa, aI cI nn_ fg)] H := hP
      have hD : va_D A [(qa, aI cI nn_ fg)] := hD
      refine lv_iload_n hx hb dJ7_fill_53178_5 rfl (lv_at hl 0 rfl) ?_
      refine lv_iload_n hx hb dJ7_fill_53178_6 rfl (lv_at hl 3 rfl) ?_
      refine zw_icmp_ge (tgt := 20) hx hb dJ7_fill_53178_7 (by decide) ⟨by omega, by omega⟩ ⟨by omega, by omega⟩ (fun h1 => ?_) (fun h1 => ?_)
      · skip
        have hP9 := hP.sub (ws' := [(qa, aI cI nn_ fg)]) [0] rfl
        have hD9 := hD.sub (ws' := [(qa, aI cI nn_ fg)]) [0] (by decide) rfl
        have hp9 : ∀ j : Nat, fg j = if j < nn_ then va else sf j := by
          exact zfl_end hi1 (by omega)
        exact W.vret hx hb hr (fun t ht hW => ⟨⟨fg, rfl, hp9, by rw [ht]; exact hP9, va_K.moved hW.alike hK, hD9⟩, hS.F ht⟩) hS.2.2 dJ7_fill_53178_20
      · skip
        refine lv_aload_n hx hb dJ7_fill_53178_10 rfl (lv_at hl 1 rfl) ?_
        refine lv_iload_n hx hb dJ7_fill_53178_11 rfl (lv_at hl 0 rfl) ?_
        refine lv_iload_n hx hb dJ7_fill_53178_12 rfl (lv_at hl 2 rfl) ?_
        refine zw_iast hx hb hK hP hD hS 0 0 rfl rfl (by omega) (by omega) ⟨by omega, by omega⟩ dJ7_fill_53178_13 (fun H locs hP hD hS => ?_)
        have hP : va_P (dC, dI) vwCl [(qa, aI cI nn_ (zup fg ii.toNat va))] H := hP
        have hD : va_D A [(qa, aI cI nn_ (zup fg ii.toNat va))] := hD
        obtain ⟨x2, ex2⟩ : ∃ z : Int, z = ii + 1 := ⟨_, rfl⟩
        refine zw_iinc (lv' := [(2, .int (zi x2)), (0, .ref qa), (1, .int (zi va)), (3, .int (zi ((nn_ : Nat) : Int)))]) (k := 0) hx hb ex2 dJ7_fill_53178_14 hl rfl (by decide) rfl (fun ls hl => ?_)
        refine lv_goto (tgt := 5) hx hb dJ7_fill_53178_17 (by decide) ?_
        subst ex2
        have hP9 := hP.sub (ws' := [(qa, aI cI nn_ (zup fg ii.toNat va))]) [0] rfl
        have hD9 := hD.sub (ws' := [(qa, aI cI nn_ (zup fg ii.toNat va))]) [0] (by decide) rfl
        exact ih (ii + 1) (zup fg ii.toNat va) (by omega) (by first | exact zfl_step _ _ _ _ (by omega) hi1 | (intro j; rw [if_neg (by omega)])) (by omega) ls _ _ (lv_sub hl [0, 1, 2, 3] rfl) hP9 hD9 hS
  have hl := lv_entry ([.ref qa, .int (zi va)]) (n := 4) (Nat.le_of_ble_eq_true rfl)
  rw [lg_entry_eq]
  generalize (lg_sl ([.ref qa, .int (zi va)]) ++ List.replicate (4 - (lg_sl ([.ref qa, .int (zi va)])).length) Slot.unset).toArray = ls at hl ⊢
  have hl : lv_has ls 4 [(0, .ref qa), (1, .int (zi va))] := hl
  refine zw_iconst hx hb dJ7_fill_53178_0 ?_
  refine lv_istore_n (lv' := [(2, .int (zi 0)), (0, .ref qa), (1, .int (zi va))]) hx hb dJ7_fill_53178_1 rfl hl (by decide) rfl (fun ls hl => ?_)
  refine lv_aload_n hx hb dJ7_fill_53178_2 rfl (lv_at hl 1 rfl) ?_
  refine zw_alen hx hb hK hP 0 0 rfl rfl dJ7_fill_53178_3 ?_
  refine zw_top (fun x3 ex3 => ?_)
  refine lv_istore_n (lv' := [(3, .int (zi x3)), (2, .int (zi 0)), (0, .ref qa), (1, .int (zi va))]) hx hb dJ7_fill_53178_4 rfl hl (by decide) rfl (fun ls hl => ?_)
  subst ex3
  have hP9 := hP.sub (ws' := [(qa, aI cI nn_ sf)]) [0] rfl
  have hD9 := hD.sub (ws' := [(qa, aI cI nn_ sf)]) [0] (by decide) rfl
  exact loop5 (1001) 0 sf (by omega) (by first | exact zfl_step _ _ _ _ (by omega) hi1 | (intro j; rw [if_neg (by omega)])) (by omega) ls _ _ (lv_sub hl [1, 2, 3, 0] rfl) hP9 hD9 hS

set_option maxHeartbeats 4000000 in
set_option maxRecDepth 100000 in
theorem c_X2_forget (l : Launch)  (dC : Nat → ClassId) (dI : Nat → Nat → Nat) (cI : ClassId) (h0 : Nat) (qk : Nat) (fi : Int) (ln : Int) (mf : Nat → Int) (sz : Nat)  : Met l yX2_forget wsX2_forget ({ frames := 0, cells := 0, slots := 0, locals := 0 }) (zPw (dC, dI) [(cI, .int)] sz [.ref h0] [(h0, .inr (2, [.ref qk, .int (zi fi), .int (zi ln)])), (qk, aI cI 366 mf)]) (va_Qv (fun (_ : Unit) => True) (zB (dC, dI) [(cI, .int)] (va_A [(h0, .inr (2, [.ref qk, .int (zi fi), .int (zi ln)])), (qk, aI cI 366 mf)] sz) [(h0, .inr (2, [.ref qk, .int (zi fi), .int (zi 0)])), (qk, aI cI 366 mf)]) (va_A [(h0, .inr (2, [.ref qk, .int (zi fi), .int (zi ln)])), (qk, aI cI 366 mf)] sz)) 0 0 (va_A [(h0, .inr (2, [.ref qk, .int (zi fi), .int (zi ln)])), (qk, aI cI 366 mf)] sz) := by
  refine Met.ofW (cc := cX2_forget) (maxL := 1) (ret := none) (by decide) rfl ?_
  intro p e s m args below meth c s₁ B hml hv
  obtain ⟨rfl, hsz, hP, hK, hD0⟩ := hv
  have hx := B.exec
  have hb := B.bytes
  have hr := B.returns
  have hts := atoms_spec (ws := wsX2_forget) B.pre
  have hown : s.vm.findClass RX2 = some m.cls := findClass_of_methodNamed B.named
  have hlocks := B.notSynchronized
  subst hsz
  have hD := hD0.self (sz := s.heap.size)
  generalize hAe : va_A [(h0, .inr (2, [.ref qk, .int (zi fi), .int (zi ln)])), (qk, aI cI 366 mf)] s.heap.size = A at hD ⊢
  have hA : ∀ q : Nat, s.heap.size ≤ q → A q := fun q h => by rw [← hAe]; exact Or.inr h
  have hS : va_S A s.heap s.heap [] := va_S.rf
  have hP : va_P (dC, dI) vwCl [(h0, .inr (2, [.ref qk, .int (zi fi), .int (zi ln)])), (qk, aI cI 366 mf)] s.heap := hP
  have hl := lv_entry ([.ref h0]) (n := 1) (Nat.le_of_ble_eq_true rfl)
  rw [lg_entry_eq]
  generalize (lg_sl ([.ref h0]) ++ List.replicate (1 - (lg_sl ([.ref h0])).length) Slot.unset).toArray = ls at hl ⊢
  have hl : lv_has ls 1 [(0, .ref h0)] := hl
  refine lv_aload_n hx hb dX2_forget_0 rfl (lv_at hl 0 rfl) ?_
  refine zw_iconst hx hb dX2_forget_1 ?_
  refine va_put (D := (dC, dI)) (ci := 2) (v := .int (zi 0)) (ty := .int) (C := RX2) (T := TX2) (N := 3) hx hb hts (by decide +kernel) tyX2 tyX2_ok nmX2 hown hK hP hD hS 0 rfl rfl 2 (by decide) (hts (.fieldLink RX2 17 "CivilDays$MarkedYear" "length" "I") (by decide +kernel)) (fun _ h9 => h9) rfl (by decide +kernel) rfl rfl (Nat.le_of_ble_eq_true rfl) dX2_forget_2 (fun H locs hP hD hS => ?_)
  have hP : va_P (dC, dI) vwCl [(h0, .inr (2, [.ref qk, .int (zi fi), .int (zi 0)])), (qk, aI cI 366 mf)] H := hP
  have hD : va_D A [(h0, .inr (2, [.ref qk, .int (zi fi), .int (zi 0)])), (qk, aI cI 366 mf)] := hD
  have hP9 := hP.sub (ws' := [(h0, .inr (2, [.ref qk, .int (zi fi), .int (zi 0)])), (qk, aI cI 366 mf)]) [0, 1] rfl
  have hD9 := hD.sub (ws' := [(h0, .inr (2, [.ref qk, .int (zi fi), .int (zi 0)])), (qk, aI cI 366 mf)]) [0, 1] (by decide) rfl
  exact W.vret hx hb hr (fun t ht hW => ⟨⟨(), rfl, trivial, by rw [ht]; exact hP9, va_K.moved hW.alike hK, hD9⟩, hS.F ht⟩) hS.2.2 dX2_forget_5

set_option maxHeartbeats 4000000 in
set_option maxRecDepth 100000 in
theorem c_X2_covers (l : Launch)  (dC : Nat → ClassId) (dI : Nat → Nat → Nat) (cI : ClassId) (h0 : Nat) (qk : Nat) (fi : Int) (ln : Int) (mf : Nat → Int) (nu : Int) (hp0 : 0 ≤ fi ∧ fi ≤ 4000000 ∧ 0 ≤ ln ∧ ln ≤ 366) (hp1 : -1000 ≤ nu ∧ nu ≤ 5000000) : Met l yX2_covers wsX2_covers ({ frames := 0, cells := 0, slots := 0, locals := 0 }) (zPr (dC, dI) [(cI, .int)] [.ref h0, .int (zi nu)] [(h0, .inr (2, [.ref qk, .int (zi fi), .int (zi ln)])), (qk, aI cI 366 mf)]) (vp_Si (fun r => r = zi (cvX2 fi ln nu))) 0 0 zN := by
  refine Met.ofW (cc := cX2_covers) (maxL := 2) (ret := (some .boolean)) (by decide) rfl ?_
  intro p e s m args below meth c s₁ B hml hv
  obtain ⟨rfl, hP, hK⟩ := hv
  have hx := B.exec
  have hb := B.bytes
  have hr := B.returns
  have hts := atoms_spec (ws := wsX2_covers) B.pre
  have hown : s.vm.findClass RX2 = some m.cls := findClass_of_methodNamed B.named
  have hlocks := B.notSynchronized
  have hl := lv_entry ([.ref h0, .int (zi nu)]) (n := 2) (Nat.le_of_ble_eq_true rfl)
  rw [lg_entry_eq]
  generalize (lg_sl ([.ref h0, .int (zi nu)]) ++ List.replicate (2 - (lg_sl ([.ref h0, .int (zi nu)])).length) Slot.unset).toArray = ls at hl ⊢
  have hl : lv_has ls 2 [(0, .ref h0), (1, .int (zi nu))] := hl
  have hcs := cvX2_s fi ln nu
  refine lv_iload_n hx hb dX2_covers_0 rfl (lv_at hl 1 rfl) ?_
  refine lv_aload_n hx hb dX2_covers_1 rfl (lv_at hl 0 rfl) ?_
  refine va_get (D := (dC, dI)) (ci := 2) (v := .int (zi fi)) (C := RX2) (T := TX2) (N := 3) hx hb hts (by decide +kernel) hown hK hP 0 rfl rfl 1 (by decide) (hts (.fieldLink RX2 13 "CivilDays$MarkedYear" "first" "I") (by decide +kernel)) (fun _ h9 => h9) rfl dX2_covers_2 ?_
  refine zw_icmp_lt (tgt := 25) hx hb dX2_covers_5 (by decide) ⟨by omega, by omega⟩ ⟨by omega, by omega⟩ (fun h1 => ?_) (fun h1 => ?_)
  · skip
    refine zw_iconst hx hb dX2_covers_25 ?_
    exact W.zret (v := zi 0) hx hb hr (zi_nb (by omega)) (fun t ht hW => ⟨zi 0, rfl, congrArg zi (by omega), ht⟩) (fun q h => by cases h) dX2_covers_26
  · skip
    refine lv_iload_n hx hb dX2_covers_8 rfl (lv_at hl 1 rfl) ?_
    refine lv_aload_n hx hb dX2_covers_9 rfl (lv_at hl 0 rfl) ?_
    refine va_get (D := (dC, dI)) (ci := 2) (v := .int (zi fi)) (C := RX2) (T := TX2) (N := 3) hx hb hts (by decide +kernel) hown hK hP 0 rfl rfl 1 (by decide) (hts (.fieldLink RX2 13 "CivilDays$MarkedYear" "first" "I") (by decide +kernel)) (fun _ h9 => h9) rfl dX2_covers_10 ?_
    refine zw_isub hx hb dX2_covers_13 ?_
    refine lv_aload_n hx hb dX2_covers_14 rfl (lv_at hl 0 rfl) ?_
    refine va_get (D := (dC, dI)) (ci := 2) (v := .int (zi ln)) (C := RX2) (T := TX2) (N := 3) hx hb hts (by decide +kernel) hown hK hP 0 rfl rfl 2 (by decide) (hts (.fieldLink RX2 17 "CivilDays$MarkedYear" "length" "I") (by decide +kernel)) (fun _ h9 => h9) rfl dX2_covers_15 ?_
    refine zw_icmp_ge (tgt := 25) hx hb dX2_covers_18 (by decide) ⟨by omega, by omega⟩ ⟨by omega, by omega⟩ (fun h2 => ?_) (fun h2 => ?_)
    · skip
      refine zw_iconst hx hb dX2_covers_25 ?_
      exact W.zret (v := zi 0) hx hb hr (zi_nb (by omega)) (fun t ht hW => ⟨zi 0, rfl, congrArg zi (by omega), ht⟩) (fun q h => by cases h) dX2_covers_26
    · skip
      refine zw_iconst hx hb dX2_covers_21 ?_
      refine lv_goto (tgt := 26) hx hb dX2_covers_22 (by decide) ?_
      exact W.zret (v := zi 1) hx hb hr (zi_nb (by omega)) (fun t ht hW => ⟨zi 1, rfl, congrArg zi (by omega), ht⟩) (fun q h => by cases h) dX2_covers_26

set_option maxHeartbeats 4000000 in
set_option maxRecDepth 100000 in
theorem c_X2_isMarked_0 (l : Launch)  (dC : Nat → ClassId) (dI : Nat → Nat → Nat) (cI : ClassId) (h0 : Nat) (qk : Nat) (fi : Int) (ln : Int) (mf : Nat → Int) (nu : Int) (hp0 : 0 ≤ fi ∧ fi ≤ 4000000 ∧ 0 ≤ ln ∧ ln ≤ 366) (hp1 : -1000 ≤ nu ∧ nu ≤ 5000000) (hp2 : fi ≤ nu ∧ nu - fi < ln) (hp3 : mf (nu - fi).toNat = 0) : Met l yX2_isMarked wsX2_isMarked ({ frames := 1, cells := 0, slots := 0, locals := 21 }) (zPr (dC, dI) [(cI, .int)] [.ref h0, .int (zi nu)] [(h0, .inr (2, [.ref qk, .int (zi fi), .int (zi ln)])), (qk, aI cI 366 mf)]) (vp_Si (fun r => r = zi 0)) 0 0 zN := by
  refine Met.ofW (cc := cX2_isMarked) (maxL := 2) (ret := (some .boolean)) (by decide) rfl ?_
  intro p e s m args below meth c s₁ B hml hv
  obtain ⟨rfl, hP, hK⟩ := hv
  have hx := B.exec
  have hb := B.bytes
  have hr := B.returns
  have hts := atoms_spec (ws := wsX2_isMarked) B.pre
  have hown : s.vm.findClass RX2 = some m.cls := findClass_of_methodNamed B.named
  have hlocks := B.notSynchronized
  have hl := lv_entry ([.ref h0, .int (zi nu)]) (n := 2) (Nat.le_of_ble_eq_true rfl)
  rw [lg_entry_eq]
  generalize (lg_sl ([.ref h0, .int (zi nu)]) ++ List.replicate (2 - (lg_sl ([.ref h0, .int (zi nu)])).length) Slot.unset).toArray = ls at hl ⊢
  have hl : lv_has ls 2 [(0, .ref h0), (1, .int (zi nu))] := hl
  refine lv_aload_n hx hb dX2_isMarked_0 rfl (lv_at hl 0 rfl) ?_
  refine lv_iload_n hx hb dX2_isMarked_1 rfl (lv_at hl 1 rfl) ?_
  have hh1 := c_X2_covers l dC dI cI h0 qk fi ln mf nu (by omega) (by omega)
  have hPc := hP.sub (ws' := [(h0, .inr (2, [.ref qk, .int (zi fi), .int (zi ln)])), (qk, aI cI 366 mf)]) [0, 1] rfl
  have hKc : va_K (dC, dI) vwCl [(cI, .int)] s := hK
  refine vp_callSi (va_Run.run (va_runV (As := [.int (zi nu)]) (rest := []) ⟨hx, hb, hml, hown, hts⟩ hh1 (cwV 1 hts gX2_isMarked_X2_covers rfl rfl rfl (by decide +kernel) ⟨Nat.le_of_ble_eq_true rfl, Nat.le_of_ble_eq_true rfl⟩) ⟨zPr.blind _ _ _ _, va_recv hKc hPc (ci := 2) (q0 := 0) rfl rfl, fun U hU hW => ⟨rfl, by rw [hU]; exact hPc, va_K.moved hW.alike hKc⟩⟩ rfl rfl hl.1 rfl (lv_room (Nat.le_of_ble_eq_true rfl)) dX2_isMarked_2 ⟨Nat.le_of_ble_eq_true rfl, Nat.le_of_ble_eq_true rfl⟩)) (fun r1 (hr1 : r1 = zi (cvX2 fi ln nu)) => ?_)
  subst hr1
  have hf1_0 := cvX2_s fi ln nu
  refine zw_if_eq (tgt := 27) hx hb dX2_isMarked_5 (by decide) ⟨by omega, by omega⟩ (fun h2 => ?_) (fun h2 => ?_)
  · skip
    exact absurd True.intro (by omega)
  · skip
    refine lv_aload_n hx hb dX2_isMarked_8 rfl (lv_at hl 0 rfl) ?_
    refine va_get (D := (dC, dI)) (ci := 2) (v := .ref qk) (C := RX2) (T := TX2) (N := 3) hx hb hts (by decide +kernel) hown hK hP 0 rfl rfl 0 (by decide) (hts (.fieldLink RX2 9 "CivilDays$MarkedYear" "marks" "[I") (by decide +kernel)) (fun _ h9 => h9) rfl dX2_isMarked_9 ?_
    refine lv_iload_n hx hb dX2_isMarked_12 rfl (lv_at hl 1 rfl) ?_
    refine lv_aload_n hx hb dX2_isMarked_13 rfl (lv_at hl 0 rfl) ?_
    refine va_get (D := (dC, dI)) (ci := 2) (v := .int (zi fi)) (C := RX2) (T := TX2) (N := 3) hx hb hts (by decide +kernel) hown hK hP 0 rfl rfl 1 (by decide) (hts (.fieldLink RX2 13 "CivilDays$MarkedYear" "first" "I") (by decide +kernel)) (fun _ h9 => h9) rfl dX2_isMarked_14 ?_
    refine zw_isub hx hb dX2_isMarked_17 ?_
    refine zw_iald hx hb hK hP 1 0 rfl rfl (by omega) (by omega) ⟨by omega, by omega⟩ dX2_isMarked_18 ?_
    refine zw_iconst hx hb dX2_isMarked_19 ?_
    refine zw_icmp_ne (tgt := 27) hx hb dX2_isMarked_20 (by decide) ⟨by omega, by omega⟩ ⟨by omega, by omega⟩ (fun h3 => ?_) (fun h3 => ?_)
    · skip
      refine zw_iconst hx hb dX2_isMarked_27 ?_
      exact W.zret (v := zi 0) hx hb hr (zi_nb (by omega)) (fun t ht hW => ⟨zi 0, rfl, rfl, ht⟩) (fun q h => by cases h) dX2_isMarked_28
    · skip
      exact absurd True.intro (by omega)

set_option maxHeartbeats 4000000 in
set_option maxRecDepth 100000 in
theorem c_X2_isMarked_1 (l : Launch)  (dC : Nat → ClassId) (dI : Nat → Nat → Nat) (cI : ClassId) (h0 : Nat) (qk : Nat) (fi : Int) (ln : Int) (mf : Nat → Int) (nu : Int) (hp0 : 0 ≤ fi ∧ fi ≤ 4000000 ∧ 0 ≤ ln ∧ ln ≤ 366) (hp1 : -1000 ≤ nu ∧ nu ≤ 5000000) (hp2 : fi ≤ nu ∧ nu - fi < ln) (hp3 : mf (nu - fi).toNat = 1) : Met l yX2_isMarked wsX2_isMarked ({ frames := 1, cells := 0, slots := 0, locals := 21 }) (zPr (dC, dI) [(cI, .int)] [.ref h0, .int (zi nu)] [(h0, .inr (2, [.ref qk, .int (zi fi), .int (zi ln)])), (qk, aI cI 366 mf)]) (vp_Si (fun r => r = zi 1)) 0 0 zN := by
  refine Met.ofW (cc := cX2_isMarked) (maxL := 2) (ret := (some .boolean)) (by decide) rfl ?_
  intro p e s m args below meth c s₁ B hml hv
  obtain ⟨rfl, hP, hK⟩ := hv
  have hx := B.exec
  have hb := B.bytes
  have hr := B.returns
  have hts := atoms_spec (ws := wsX2_isMarked) B.pre
  have hown : s.vm.findClass RX2 = some m.cls := findClass_of_methodNamed B.named
  have hlocks := B.notSynchronized
  have hl := lv_entry ([.ref h0, .int (zi nu)]) (n := 2) (Nat.le_of_ble_eq_true rfl)
  rw [lg_entry_eq]
  generalize (lg_sl ([.ref h0, .int (zi nu)]) ++ List.replicate (2 - (lg_sl ([.ref h0, .int (zi nu)])).length) Slot.unset).toArray = ls at hl ⊢
  have hl : lv_has ls 2 [(0, .ref h0), (1, .int (zi nu))] := hl
  refine lv_aload_n hx hb dX2_isMarked_0 rfl (lv_at hl 0 rfl) ?_
  refine lv_iload_n hx hb dX2_isMarked_1 rfl (lv_at hl 1 rfl) ?_
  have hh1 := c_X2_covers l dC dI cI h0 qk fi ln mf nu (by omega) (by omega)
  have hPc := hP.sub (ws' := [(h0, .inr (2, [.ref qk, .int (zi fi), .int (zi ln)])), (qk, aI cI 366 mf)]) [0, 1] rfl
  have hKc : va_K (dC, dI) vwCl [(cI, .int)] s := hK
  refine vp_callSi (va_Run.run (va_runV (As := [.int (zi nu)]) (rest := []) ⟨hx, hb, hml, hown, hts⟩ hh1 (cwV 1 hts gX2_isMarked_X2_covers rfl rfl rfl (by decide +kernel) ⟨Nat.le_of_ble_eq_true rfl, Nat.le_of_ble_eq_true rfl⟩) ⟨zPr.blind _ _ _ _, va_recv hKc hPc (ci := 2) (q0 := 0) rfl rfl, fun U hU hW => ⟨rfl, by rw [hU]; exact hPc, va_K.moved hW.alike hKc⟩⟩ rfl rfl hl.1 rfl (lv_room (Nat.le_of_ble_eq_true rfl)) dX2_isMarked_2 ⟨Nat.le_of_ble_eq_true rfl, Nat.le_of_ble_eq_true rfl⟩)) (fun r1 (hr1 : r1 = zi (cvX2 fi ln nu)) => ?_)
  subst hr1
  have hf1_0 := cvX2_s fi ln nu
  refine zw_if_eq (tgt := 27) hx hb dX2_isMarked_5 (by decide) ⟨by omega, by omega⟩ (fun h2 => ?_) (fun h2 => ?_)
  · skip
    exact absurd True.intro (by omega)
  · skip
    refine lv_aload_n hx hb dX2_isMarked_8 rfl (lv_at hl 0 rfl) ?_
    refine va_get (D := (dC, dI)) (ci := 2) (v := .ref qk) (C := RX2) (T := TX2) (N := 3) hx hb hts (by decide +kernel) hown hK hP 0 rfl rfl 0 (by decide) (hts (.fieldLink RX2 9 "CivilDays$MarkedYear" "marks" "[I") (by decide +kernel)) (fun _ h9 => h9) rfl dX2_isMarked_9 ?_
    refine lv_iload_n hx hb dX2_isMarked_12 rfl (lv_at hl 1 rfl) ?_
    refine lv_aload_n hx hb dX2_isMarked_13 rfl (lv_at hl 0 rfl) ?_
    refine va_get (D := (dC, dI)) (ci := 2) (v := .int (zi fi)) (C := RX2) (T := TX2) (N := 3) hx hb hts (by decide +kernel) hown hK hP 0 rfl rfl 1 (by decide) (hts (.fieldLink RX2 13 "CivilDays$MarkedYear" "first" "I") (by decide +kernel)) (fun _ h9 => h9) rfl dX2_isMarked_14 ?_
    refine zw_isub hx hb dX2_isMarked_17 ?_
    refine zw_iald hx hb hK hP 1 0 rfl rfl (by omega) (by omega) ⟨by omega, by omega⟩ dX2_isMarked_18 ?_
    refine zw_iconst hx hb dX2_isMarked_19 ?_
    refine zw_icmp_ne (tgt := 27) hx hb dX2_isMarked_20 (by decide) ⟨by omega, by omega⟩ ⟨by omega, by omega⟩ (fun h3 => ?_) (fun h3 => ?_)
    · skip
      exact absurd True.intro (by omega)
    · skip
      refine zw_iconst hx hb dX2_isMarked_23 ?_
      refine lv_goto (tgt := 28) hx hb dX2_isMarked_24 (by decide) ?_
      exact W.zret (v := zi 1) hx hb hr (zi_nb (by omega)) (fun t ht hW => ⟨zi 1, rfl, rfl, ht⟩) (fun q h => by cases h) dX2_isMarked_28

set_option maxHeartbeats 4000000 in
set_option maxRecDepth 100000 in
theorem c_X2_markDay (l : Launch)  (dC : Nat → ClassId) (dI : Nat → Nat → Nat) (cI : ClassId) (h0 : Nat) (qk : Nat) (fi : Int) (ln : Int) (mf : Nat → Int) (nu : Int) (sz : Nat) (hp0 : 0 ≤ fi ∧ fi ≤ 4000000 ∧ 0 ≤ ln ∧ ln ≤ 366) (hp1 : -1000 ≤ nu ∧ nu ≤ 5000000) : Met l yX2_markDay wsX2_markDay ({ frames := 1, cells := 0, slots := 0, locals := 21 }) (zPw (dC, dI) [(cI, .int)] sz [.ref h0, .int (zi nu)] [(h0, .inr (2, [.ref qk, .int (zi fi), .int (zi ln)])), (qk, aI cI 366 mf)]) (va_Qv (fun (u : (Nat → Int)) => ∀ j : Nat, u j = if fi + (j : Int) = nu ∧ (j : Int) < ln then 1 else mf j) (fun (u : (Nat → Int)) => zB (dC, dI) [(cI, .int)] (va_A [(h0, .inr (2, [.ref qk, .int (zi fi), .int (zi ln)])), (qk, aI cI 366 mf)] sz) [(h0, .inr (2, [.ref qk, .int (zi fi), .int (zi ln)])), (qk, aI cI 366 u)] ()) (va_A [(h0, .inr (2, [.ref qk, .int (zi fi), .int (zi ln)])), (qk, aI cI 366 mf)] sz)) 0 0 (va_A [(h0, .inr (2, [.ref qk, .int (zi fi), .int (zi ln)])), (qk, aI cI 366 mf)] sz) := by
  refine Met.ofW (cc := cX2_markDay) (maxL := 2) (ret := none) (by decide) rfl ?_
  intro p e s m args below meth c s₁ B hml hv
  obtain ⟨rfl, hsz, hP, hK, hD0⟩ := hv
  have hx := B.exec
  have hb := B.bytes
  have hr := B.returns
  have hts := atoms_spec (ws := wsX2_markDay) B.pre
  have hown : s.vm.findClass RX2 = some m.cls := findClass_of_methodNamed B.named
  have hlocks := B.notSynchronized
  subst hsz
  have hD := hD0.self (sz := s.heap.size)
  generalize hAe : va_A [(h0, .inr (2, [.ref qk, .int (zi fi), .int (zi ln)])), (qk, aI cI 366 mf)] s.heap.size = A at hD ⊢
  have hA : ∀ q : Nat, s.heap.size ≤ q → A q := fun q h => by rw [← hAe]; exact Or.inr h
  have hS : va_S A s.heap s.heap [] := va_S.rf
  have hP : va_P (dC, dI) vwCl [(h0, .inr (2, [.ref qk, .int (zi fi), .int (zi ln)])), (qk, aI cI 366 mf)] s.heap := hP
  have hl := lv_entry ([.ref h0, .int (zi nu)]) (n := 2) (Nat.le_of_ble_eq_true rfl)
  rw [lg_entry_eq]
  generalize (lg_sl ([.ref h0, .int (zi nu)]) ++ List.replicate (2 - (lg_sl ([.ref h0, .int (zi nu)])).length) Slot.unset).toArray = ls at hl ⊢
  have hl : lv_has ls 2 [(0, .ref h0), (1, .int (zi nu))] := hl
  refine lv_aload_n hx hb dX2_markDay_0 rfl (lv_at hl 0 rfl) ?_
  refine lv_iload_n hx hb dX2_markDay_1 rfl (lv_at hl 1 rfl) ?_
  have hh1 := c_X2_covers l dC dI cI h0 qk fi ln mf nu (by omega) (by omega)
  have hPc := hP.sub (ws' := [(h0, .inr (2, [.ref qk, .int (zi fi), .int (zi ln)])), (qk, aI cI 366 mf)]) [0, 1] rfl
  have hKc : va_K (dC, dI) vwCl [(cI, .int)] s := hK
  refine vp_callSi (va_Run.run (va_runV (As := [.int (zi nu)]) (rest := []) ⟨hx, hb, hml, hown, hts⟩ hh1 (cwV 1 hts gX2_markDay_X2_covers rfl rfl rfl (by decide +kernel) ⟨Nat.le_of_ble_eq_true rfl, Nat.le_of_ble_eq_true rfl⟩) ⟨zPr.blind _ _ _ _, va_recv hKc hPc (ci := 2) (q0 := 0) rfl rfl, fun U hU hW => ⟨rfl, by rw [hU]; exact hPc, va_K.moved hW.alike hKc⟩⟩ rfl rfl hl.1 rfl (lv_room (Nat.le_of_ble_eq_true rfl)) dX2_markDay_2 ⟨Nat.le_of_ble_eq_true rfl, Nat.le_of_ble_eq_true rfl⟩)) (fun r1 (hr1 : r1 = zi (cvX2 fi ln nu)) => ?_)
  subst hr1
  have hf1_0 := cvX2_s fi ln nu
  refine zw_if_eq (tgt := 20) hx hb dX2_markDay_5 (by decide) ⟨by omega, by omega⟩ (fun h2 => ?_) (fun h2 => ?_)
  · skip
    have hP9 := hP.sub (ws' := [(h0, .inr (2, [.ref qk, .int (zi fi), .int (zi ln)])), (qk, aI cI 366 mf)]) [0, 1] rfl
    have hD9 := hD.sub (ws' := [(h0, .inr (2, [.ref qk, .int (zi fi), .int (zi ln)])), (qk, aI cI 366 mf)]) [0, 1] (by decide) rfl
    have hp9 : ∀ j : Nat, mf j = if fi + (j : Int) = nu ∧ (j : Int) < ln then 1 else mf j := by
      first | exact zmk_on mf fi ln nu (by omega) | (intro j; rw [if_neg (by omega)])
    exact W.vret hx hb hr (fun t ht hW => ⟨⟨mf, rfl, hp9, by rw [ht]; exact hP9, va_K.moved hW.alike hK, hD9⟩, hS.F ht⟩) hS.2.2 dX2_markDay_20
  · skip
    refine lv_aload_n hx hb dX2_markDay_8 rfl (lv_at hl 0 rfl) ?_
    refine va_get (D := (dC, dI)) (ci := 2) (v := .ref qk) (C := RX2) (T := TX2) (N := 3) hx hb hts (by decide +kernel) hown hK hP 0 rfl rfl 0 (by decide) (hts (.fieldLink RX2 9 "CivilDays$MarkedYear" "marks" "[I") (by decide +kernel)) (fun _ h9 => h9) rfl dX2_markDay_9 ?_
    refine lv_iload_n hx hb dX2_markDay_12 rfl (lv_at hl 1 rfl) ?_
    refine lv_aload_n hx hb dX2_markDay_13 rfl (lv_at hl 0 rfl) ?_
    refine va_get (D := (dC, dI)) (ci := 2) (v := .int (zi fi)) (C := RX2) (T := TX2) (N := 3) hx hb hts (by decide +kernel) hown hK hP 0 rfl rfl 1 (by decide) (hts (.fieldLink RX2 13 "CivilDays$MarkedYear" "first" "I") (by decide +kernel)) (fun _ h9 => h9) rfl dX2_markDay_14 ?_
    refine zw_isub hx hb dX2_markDay_17 ?_
    refine zw_iconst hx hb dX2_markDay_18 ?_
    refine zw_iast hx hb hK hP hD hS 1 0 rfl rfl (by omega) (by omega) ⟨by omega, by omega⟩ dX2_markDay_19 (fun H locs hP hD hS => ?_)
    have hP : va_P (dC, dI) vwCl [(h0, .inr (2, [.ref qk, .int (zi fi), .int (zi ln)])), (qk, aI cI 366 (zup mf (Int.toNat (nu - fi)) 1))] H := hP
    have hD : va_D A [(h0, .inr (2, [.ref qk, .int (zi fi), .int (zi ln)])), (qk, aI cI 366 (zup mf (Int.toNat (nu - fi)) 1))] := hD
    have hP9 := hP.sub (ws' := [(h0, .inr (2, [.ref qk, .int (zi fi), .int (zi ln)])), (qk, aI cI 366 (zup mf (Int.toNat (nu - fi)) 1))]) [0, 1] rfl
    have hD9 := hD.sub (ws' := [(h0, .inr (2, [.ref qk, .int (zi fi), .int (zi ln)])), (qk, aI cI 366 (zup mf (Int.toNat (nu - fi)) 1))]) [0, 1] (by decide) rfl
    have hp9 : ∀ j : Nat, (zup mf (Int.toNat (nu - fi)) 1) j = if fi + (j : Int) = nu ∧ (j : Int) < ln then 1 else mf j := by
      first | exact zmk_on mf fi ln nu (by omega) | (intro j; rw [if_neg (by omega)])
    exact W.vret hx hb hr (fun t ht hW => ⟨⟨(zup mf (Int.toNat (nu - fi)) 1), rfl, hp9, by rw [ht]; exact hP9, va_K.moved hW.alike hK, hD9⟩, hS.F ht⟩) hS.2.2 dX2_markDay_20

set_option maxHeartbeats 4000000 in
set_option maxRecDepth 100000 in
theorem c_X2_mark (l : Launch)  (dC : Nat → ClassId) (dI : Nat → Nat → Nat) (cI : ClassId) (cO : ClassId) (h0 : Nat) (qk : Nat) (fi : Int) (ln : Int) (mf : Nat → Int) (ql : Nat) (mc : Int) (qe : Nat) (ru : Int) (cap : Nat) (ef : Nat → Option Nat) (rf : Nat → Nat) (kf : Nat → Int) (af : Nat → Int) (bf : Nat → Int) (zf : Nat → Int) (ya : Int) (sz : Nat) (hp0 : 1 ≤ ya ∧ ya ≤ 9999) (hp1 : 0 ≤ fi ∧ fi ≤ 4000000 ∧ 0 ≤ ln ∧ ln ≤ 366) (hp2 : 0 ≤ ru ∧ ru ≤ 12 ∧ ru ≤ (cap : Int) ∧ (cap : Int) ≤ 1000) (hp3 : ∀ j : Nat, (j : Int) < ru → (0 ≤ (kf j) ∧ (kf j) ≤ 3) ∧ ((kf j) = 1 ∧ -100 ≤ (af j) ∧ (af j) ≤ 100 ∨ (kf j) ≠ 1 ∧ 1 ≤ (af j) ∧ (af j) ≤ 12) ∧ ((kf j) = 1 ∨ (kf j) = 2 ∧ 1 ≤ (bf j) ∧ (bf j) ≤ 7 ∨ (kf j) ≠ 2 ∧ 1 ≤ (bf j) ∧ (bf j) ≤ 31) ∧ ((kf j) ≠ 2 ∨ (zf j) = -1 ∨ 1 ≤ (zf j) ∧ (zf j) ≤ 4)) (hp4 : ∀ j : Nat, (j : Int) < ru → ef j = some (rf j)) : Met l yX2_mark wsX2_mark ({ frames := 4, cells := 0, slots := 0, locals := 90 }) (zPwF (dC, dI) [(cI, .int), (cO, .object "java/lang/Object")] sz [.ref h0, .int (zi ya), .ref ql] [(h0, .inr (2, [.ref qk, .int (zi fi), .int (zi ln)])), (qk, aI cI 366 mf), (ql, .inr (0, [.int (zi mc), .ref qe, .int (zi ru)])), (qe, aR cO cap ef)] (zRu (dC, dI) ru rf kf af bf zf)) (va_Qv (fun (u : (Nat → Int)) => mkX2 kf af bf zf ya (f_X0_yearStart ya) (f_X0_yearLength ya) ru.toNat u) (fun (u : (Nat → Int)) => zB (dC, dI) [(cI, .int), (cO, .object "java/lang/Object")] (va_A [(h0, .inr (2, [.ref qk, .int (zi fi), .int (zi ln)])), (qk, aI cI 366 mf), (ql, .inr (0, [.int (zi mc), .ref qe, .int (zi ru)])), (qe, aR cO cap ef)] sz) [(h0, .inr (2, [.ref qk, .int (zi (f_X0_yearStart ya)), .int (zi (f_X0_yearLength ya))])), (qk, aI cI 366 u), (ql, .inr (0, [.int (zi mc), .ref qe, .int (zi ru)])), (qe, aR cO cap ef)] ()) (va_A [(h0, .inr (2, [.ref qk, .int (zi fi), .int (zi ln)])), (qk, aI cI 366 mf), (ql, .inr (0, [.int (zi mc), .ref qe, .int (zi ru)])), (qe, aR cO cap ef)] sz)) 0 0 (va_A [(h0, .inr (2, [.ref qk, .int (zi fi), .int (zi ln)])), (qk, aI cI 366 mf), (ql, .inr (0, [.int (zi mc), .ref qe, .int (zi ru)])), (qe, aR cO cap ef)] sz) := by
  refine Met.ofW (cc := cX2_mark) (maxL := 5) (ret := none) (by decide) rfl ?_
  intro p e s m args below meth c s₁ B hml hv
  obtain ⟨rfl, hsz, hP, hK, hD0, hG⟩ := hv
  have hx := B.exec
  have hb := B.bytes
  have hr := B.returns
  have hts := atoms_spec (ws := wsX2_mark) B.pre
  have hown : s.vm.findClass RX2 = some m.cls := findClass_of_methodNamed B.named
  have hlocks := B.notSynchronized
  subst hsz
  have hD := hD0.self (sz := s.heap.size)
  generalize hAe : va_A [(h0, .inr (2, [.ref qk, .int (zi fi), .int (zi ln)])), (qk, aI cI 366 mf), (ql, .inr (0, [.int (zi mc), .ref qe, .int (zi ru)])), (qe, aR cO cap ef)] s.heap.size = A at hD hG ⊢
  have hA : ∀ q : Nat, s.heap.size ≤ q → A q := fun q h => by rw [← hAe]; exact Or.inr h
  have hS : va_S A s.heap s.heap [] := va_S.rf
  have hP : va_P (dC, dI) vwCl [(h0, .inr (2, [.ref qk, .int (zi fi), .int (zi ln)])), (qk, aI cI 366 mf), (ql, .inr (0, [.int (zi mc), .ref qe, .int (zi ru)])), (qe, aR cO cap ef)] s.heap := hP
  have loop26 : ∀ (fu : Nat) (kk : Int) (mg : Nat → Int), (0 ≤ kk ∧ kk ≤ ru) → (mkX2 kf af bf zf ya (f_X0_yearStart ya) (f_X0_yearLength ya) kk.toNat mg) → (ru - kk < fu) → ∀ (ls : Array Slot) (H : Heap) (locs : List Loc), lv_has ls 5 [(3, .int (zi kk)), (0, .ref h0), (1, .int (zi ya)), (2, .ref ql)] → va_P (dC, dI) vwCl [(h0, .inr (2, [.ref qk, .int (zi (f_X0_yearStart ya)), .int (zi (f_X0_yearLength ya))])), (qk, aI cI 366 mg), (ql, .inr (0, [.int (zi mc), .ref qe, .int (zi ru)])), (qe, aR cO cap ef)] H → va_D A [(h0, .inr (2, [.ref qk, .int (zi (f_X0_yearStart ya)), .int (zi (f_X0_yearLength ya))])), (qk, aI cI 366 mg), (ql, .inr (0, [.int (zi mc), .ref qe, .int (zi ru)])), (qe, aR cO cap ef)] → va_S A s.heap H locs → W p l e (headSpec wsX2_mark ({ frames := 4, cells := 0, slots := 0, locals := 90 })).room s m ([.ref h0, .int (zi ya), .ref ql] : List Value).toArray below meth c H locs 0 0 (MQ below (va_Qv (fun (u : (Nat → Int)) => mkX2 kf af bf zf ya (f_X0_yearStart ya) (f_X0_yearLength ya) ru.toNat u) (fun (u : (Nat → Int)) => zB (dC, dI) [(cI, .int), (cO, .object "java/lang/Object")] A [(h0, .inr (2, [.ref qk, .int (zi (f_X0_yearStart ya)), .int (zi (f_X0_yearLength ya))])), (qk, aI cI 366 u), (ql, .inr (0, [.int (zi mc), .ref qe, .int (zi ru)])), (qe, aR cO cap ef)] ()) A) ([.ref h0, .int (zi ya), .ref ql] : List Value).toArray s 0 0 A) (F0 m 26 ls []) := by
    intro fu
    induction fu with
    | zero =>
      intro kk mg hi0 hi1 hfu ls H locs hl hP hD hS
      exact absurd hfu (by omega)
    | succ fu ih =>
      intro kk mg hi0 hi1 hfu ls H locs hl hP hD hS
      have hP : va_P (dC, dI) vwCl [(h0, .inr (2, [.ref qk, .int (zi (f_X0_yearStart ya)), .int (zi (f_X0_yearLength ya))])), (qk, aI cI 366 mg), (ql, .inr (0, [.int (zi mc), .ref qe, .int (zi ru)])), (qe, aR cO cap ef)] H := hP
      have hD : va_D A [(h0, .inr (2, [.ref qk, .int (zi (f_X0_yearStart ya)), .int (zi (f_X0_yearLength ya))])), (qk, aI cI 366 mg), (ql, .inr (0, [.int (zi mc), .ref qe, .int (zi ru)])), (qe, aR cO cap ef)] := hD
      have hyb := b_X0_yearStart ya (by omega)
      have hyl := b_X0_yearLength ya (by omega)
      refine lv_iload_n hx hb dX2_mark_26 rfl (lv_at hl 0 rfl) ?_
      refine lv_aload_n hx hb dX2_mark_27 rfl (lv_at hl 3 rfl) ?_
      have hh1 := c_Jx_size l dC dI ql mc qe ru 
      have hPc := hP.sub (ws' := [(ql, .inr (0, [.int (zi mc), .ref qe, .int (zi ru)]))]) [2] rfl
      have hKc : va_K (dC, dI) vwCl [] s := hK.sub (tys' := []) [] rfl
      refine vp_callSi (va_Run.run (va_runV (As := []) (rest := [.int (zi kk)]) ⟨hx, hb, hml, hown, hts⟩ hh1 (cwV 0 hts gX2_mark_Jx4a65c_size_8abf5 rfl rfl rfl (by decide +kernel) ⟨Nat.le_of_ble_eq_true rfl, Nat.le_of_ble_eq_true rfl⟩) ⟨zPr.blind _ _ _ _, va_recv hKc hPc (ci := 0) (q0 := 0) rfl rfl, fun U hU hW => ⟨rfl, by rw [hU]; exact hPc, va_K.moved hW.alike hKc⟩⟩ rfl rfl hl.1 rfl (lv_room (Nat.le_of_ble_eq_true rfl)) dX2_mark_28 ⟨Nat.le_of_ble_eq_true rfl, Nat.le_of_ble_eq_true rfl⟩)) (fun r1 (hr1 : r1 = zi ru) => ?_)
      subst hr1
      refine zw_icmp_ge (tgt := 84) hx hb dX2_mark_31 (by decide) ⟨by omega, by omega⟩ ⟨by omega, by omega⟩ (fun h2 => ?_) (fun h2 => ?_)
      · skip
        have hP9 := hP.sub (ws' := [(h0, .inr (2, [.ref qk, .int (zi (f_X0_yearStart ya)), .int (zi (f_X0_yearLength ya))])), (qk, aI cI 366 mg), (ql, .inr (0, [.int (zi mc), .ref qe, .int (zi ru)])), (qe, aR cO cap ef)]) [0, 1, 2, 3] rfl
        have hD9 := hD.sub (ws' := [(h0, .inr (2, [.ref qk, .int (zi (f_X0_yearStart ya)), .int (zi (f_X0_yearLength ya))])), (qk, aI cI 366 mg), (ql, .inr (0, [.int (zi mc), .ref qe, .int (zi ru)])), (qe, aR cO cap ef)]) [0, 1, 2, 3] (by decide) rfl
        have hp9 : mkX2 kf af bf zf ya (f_X0_yearStart ya) (f_X0_yearLength ya) ru.toNat mg := by
          exact mkX2_at (by omega) hi1
        exact W.vret hx hb hr (fun t ht hW => ⟨⟨mg, rfl, hp9, by rw [ht]; exact hP9, va_K.moved hW.alike hK, hD9⟩, hS.F ht⟩) hS.2.2 dX2_mark_84
      · skip
        have hef := hp4
        have hrk := hp3 kk.toNat (by omega)
        refine lv_aload_n hx hb dX2_mark_34 rfl (lv_at hl 3 rfl) ?_
        refine lv_iload_n hx hb dX2_mark_35 rfl (lv_at hl 0 rfl) ?_
        have hh3 := c_Jx_get l dC dI cO ql mc qe ru cap ef kk (by omega)
        have hPc := hP.sub (ws' := [(ql, .inr (0, [.int (zi mc), .ref qe, .int (zi ru)])), (qe, aR cO cap ef)]) [2, 3] rfl
        have hKc : va_K (dC, dI) vwCl [(cO, .object "java/lang/Object")] s := hK.sub (tys' := [(cO, .object "java/lang/Object")]) [1] rfl
        refine va_csq (va_Run.run (va_runV (As := [.int (zi kk)]) (rest := []) ⟨hx, hb, hml, hown, hts⟩ hh3 (cwV 1 hts gX2_mark_Jx4a65c_get_915e3 rfl rfl rfl (by decide +kernel) ⟨Nat.le_of_ble_eq_true rfl, Nat.le_of_ble_eq_true rfl⟩) ⟨zPr.blind _ _ _ _, va_recv hKc hPc (ci := 0) (q0 := 0) rfl rfl, fun U hU hW => ⟨rfl, by rw [hU]; exact hPc, va_K.moved hW.alike hKc⟩⟩ rfl rfl hl.1 rfl (lv_room (Nat.le_of_ble_eq_true rfl)) dX2_mark_36 ⟨Nat.le_of_ble_eq_true rfl, Nat.le_of_ble_eq_true rfl⟩)) (fun r3 (hr3 : r3 = (ef kk.toNat)) => ?_)
        subst hr3
        refine zw_castR (a := (rf kk.toNat)) (nm := RX3) hx hb hown (hts (.classLink RX2 49 RX3) (by decide +kernel)) (hef kk.toNat (by omega)) (va_recv hK (zRu_at hG hS kk.toNat (by omega)).2 (ci := 3) (q0 := 0) rfl rfl) dX2_mark_39 ?_
        refine lv_astore (lv' := [(4, .ref (rf kk.toNat)), (3, .int (zi kk)), (0, .ref h0), (1, .int (zi ya)), (2, .ref ql)]) hx hb dX2_mark_42 hl (by decide) rfl (fun ls hl => ?_)
        refine lv_aload_n hx hb dX2_mark_44 rfl (lv_at hl 2 rfl) ?_
        refine lv_aload hx hb dX2_mark_45 (lv_at hl 0 rfl) ?_
        refine lv_iload_n hx hb dX2_mark_47 rfl (lv_at hl 3 rfl) ?_
        refine zw_iconst hx hb dX2_mark_48 ?_
        refine zw_isub hx hb dX2_mark_49 ?_
        have hh4 := c_X3_dayFor l dC dI (rf kk.toNat) (kf kk.toNat) (af kk.toNat) (bf kk.toNat) (zf kk.toNat) (ya - 1) (by omega) (by omega)
        have hPc : va_P (dC, dI) vwCl [((rf kk.toNat), .inr (3, [.int (zi (kf kk.toNat)), .int (zi (af kk.toNat)), .int (zi (bf kk.toNat)), .int (zi (zf kk.toNat))]))] H := (zRu_at hG hS kk.toNat (by omega)).2
        have hKc : va_K (dC, dI) vwCl [] s := hK.sub (tys' := []) [] rfl
        refine vp_callSi (va_Run.run (va_runV (As := [.int (zi (ya - 1))]) (rest := [.ref h0]) ⟨hx, hb, hml, hown, hts⟩ hh4 (cwV 1 hts gX2_mark_X3_dayFor rfl rfl rfl (by decide +kernel) ⟨Nat.le_of_ble_eq_true rfl, Nat.le_of_ble_eq_true rfl⟩) ⟨zPr.blind _ _ _ _, va_recv hKc hPc (ci := 3) (q0 := 0) rfl rfl, fun U hU hW => ⟨rfl, by rw [hU]; exact hPc, va_K.moved hW.alike hKc⟩⟩ rfl rfl hl.1 rfl (lv_room (Nat.le_of_ble_eq_true rfl)) dX2_mark_50 ⟨Nat.le_of_ble_eq_true rfl, Nat.le_of_ble_eq_true rfl⟩)) (fun r4 (hr4 : r4 = zi (f_X3_dayFor (kf kk.toNat) (af kk.toNat) (bf kk.toNat) (zf kk.toNat) (ya - 1))) => ?_)
        subst hr4
        have hf4_0 := b_X3_dayFor (kf kk.toNat) (af kk.toNat) (bf kk.toNat) (zf kk.toNat) (ya - 1) (by omega) (by omega)
        have hh5 := c_X2_markDay l dC dI cI h0 qk (f_X0_yearStart ya) (f_X0_yearLength ya) mg (f_X3_dayFor (kf kk.toNat) (af kk.toNat) (bf kk.toNat) (zf kk.toNat) (ya - 1)) H.size (by omega) (by omega)
        have hPc := hP.sub (ws' := [(h0, .inr (2, [.ref qk, .int (zi (f_X0_yearStart ya)), .int (zi (f_X0_yearLength ya))])), (qk, aI cI 366 mg)]) [0, 1] rfl
        have hKc : va_K (dC, dI) vwCl [(cI, .int)] s := hK.sub (tys' := [(cI, .int)]) [0] rfl
        have hDc := hD.sub (ws' := [(h0, .inr (2, [.ref qk, .int (zi (f_X0_yearStart ya)), .int (zi (f_X0_yearLength ya))])), (qk, aI cI 366 mg)]) [0, 1] (by decide) rfl
        have hFc := va_free (wc := [(h0, .inr (2, [.ref qk, .int (zi (f_X0_yearStart ya)), .int (zi (f_X0_yearLength ya))])), (qk, aI cI 366 mg)]) hD hS hA [0, 1] rfl
        refine va_callv (va_runV (As := [.int (zi (f_X3_dayFor (kf kk.toNat) (af kk.toNat) (bf kk.toNat) (zf kk.toNat) (ya - 1)))]) (rest := []) ⟨hx, hb, hml, hown, hts⟩ hh5 (cwV 1 hts gX2_mark_X2_markDay rfl rfl rfl (by decide +kernel) ⟨Nat.le_of_ble_eq_true rfl, Nat.le_of_ble_eq_true rfl⟩) ⟨zPw.blind _ _ _ _ _, va_recv hKc hPc (ci := 2) (q0 := 0) rfl rfl, fun U hU hW => ⟨rfl, by rw [hU], by rw [hU]; exact hPc, va_K.moved hW.alike hKc, hDc.weaken (fun _ _ _ _ => trivial)⟩⟩ rfl rfl hl.1 rfl (lv_room (Nat.le_of_ble_eq_true rfl)) dX2_mark_53 ⟨Nat.le_of_ble_eq_true rfl, Nat.le_of_ble_eq_true rfl⟩) hS (fun q _ h => hFc q h) hFc (fun u t H1 locs ht hvm hw hB hz1 hk1 hS => ?_)
        generalize u = mg_6 at hw hB
        have hw5 := hw
        replace hw5 : ∀ j : Nat, mg_6 j = if (f_X0_yearStart ya) + (j : Int) = (f_X3_dayFor (kf kk.toNat) (af kk.toNat) (bf kk.toNat) (zf kk.toNat) (ya - 1)) ∧ (j : Int) < (f_X0_yearLength ya) then 1 else mg j := hw5
        obtain ⟨hP1, hK1, hD1⟩ := hB
        rw [ht] at hP1
        replace hP1 : va_P (dC, dI) vwCl [(h0, .inr (2, [.ref qk, .int (zi (f_X0_yearStart ya)), .int (zi (f_X0_yearLength ya))])), (qk, aI cI 366 mg_6)] H1 := hP1
        replace hD1 : va_D _ [(h0, .inr (2, [.ref qk, .int (zi (f_X0_yearStart ya)), .int (zi (f_X0_yearLength ya))])), (qk, aI cI 366 mg_6)] := hD1
        obtain ⟨hP, hD⟩ := va_join (wr := [(ql, .inr (0, [.int (zi mc), .ref qe, .int (zi ru)])), (qe, aR cO cap ef)]) (w1 := [(h0, .inr (2, [.ref qk, .int (zi (f_X0_yearStart ya)), .int (zi (f_X0_yearLength ya))])), (qk, aI cI 366 mg_6)]) hP hD [0, 1] [2, 3] rfl rfl (by decide) (by decide) hk1 hFc hP1 hD1
        generalize H1 = H at hP hS ⊢
        have hP : va_P (dC, dI) vwCl [(ql, .inr (0, [.int (zi mc), .ref qe, .int (zi ru)])), (qe, aR cO cap ef), (h0, .inr (2, [.ref qk, .int (zi (f_X0_yearStart ya)), .int (zi (f_X0_yearLength ya))])), (qk, aI cI 366 mg_6)] H := hP
        have hD : va_D A [(ql, .inr (0, [.int (zi mc), .ref qe, .int (zi ru)])), (qe, aR cO cap ef), (h0, .inr (2, [.ref qk, .int (zi (f_X0_yearStart ya)), .int (zi (f_X0_yearLength ya))])), (qk, aI cI 366 mg_6)] := hD
        refine lv_aload_n hx hb dX2_mark_56 rfl (lv_at hl 2 rfl) ?_
        refine lv_aload hx hb dX2_mark_57 (lv_at hl 0 rfl) ?_
        refine lv_iload_n hx hb dX2_mark_59 rfl (lv_at hl 3 rfl) ?_
        have hh7 := c_X3_dayFor l dC dI (rf kk.toNat) (kf kk.toNat) (af kk.toNat) (bf kk.toNat) (zf kk.toNat) ya (by omega) (by omega)
        have hPc : va_P (dC, dI) vwCl [((rf kk.toNat), .inr (3, [.int (zi (kf kk.toNat)), .int (zi (af kk.toNat)), .int (zi (bf kk.toNat)), .int (zi (zf kk.toNat))]))] H := (zRu_at hG hS kk.toNat (by omega)).2
        have hKc : va_K (dC, dI) vwCl [] s := hK.sub (tys' := []) [] rfl
        refine vp_callSi (va_Run.run (va_runV (As := [.int (zi ya)]) (rest := [.ref h0]) ⟨hx, hb, hml, hown, hts⟩ hh7 (cwV 1 hts gX2_mark_X3_dayFor rfl rfl rfl (by decide +kernel) ⟨Nat.le_of_ble_eq_true rfl, Nat.le_of_ble_eq_true rfl⟩) ⟨zPr.blind _ _ _ _, va_recv hKc hPc (ci := 3) (q0 := 0) rfl rfl, fun U hU hW => ⟨rfl, by rw [hU]; exact hPc, va_K.moved hW.alike hKc⟩⟩ rfl rfl hl.1 rfl (lv_room (Nat.le_of_ble_eq_true rfl)) dX2_mark_60 ⟨Nat.le_of_ble_eq_true rfl, Nat.le_of_ble_eq_true rfl⟩)) (fun r7 (hr7 : r7 = zi (f_X3_dayFor (kf kk.toNat) (af kk.toNat) (bf kk.toNat) (zf kk.toNat) ya)) => ?_)
        subst hr7
        have hf7_0 := b_X3_dayFor (kf kk.toNat) (af kk.toNat) (bf kk.toNat) (zf kk.toNat) ya (by omega) (by omega)
        have hh8 := c_X2_markDay l dC dI cI h0 qk (f_X0_yearStart ya) (f_X0_yearLength ya) mg_6 (f_X3_dayFor (kf kk.toNat) (af kk.toNat) (bf kk.toNat) (zf kk.toNat) ya) H.size (by omega) (by omega)
        have hPc := hP.sub (ws' := [(h0, .inr (2, [.ref qk, .int (zi (f_X0_yearStart ya)), .int (zi (f_X0_yearLength ya))])), (qk, aI cI 366 mg_6)]) [2, 3] rfl
        have hKc : va_K (dC, dI) vwCl [(cI, .int)] s := hK.sub (tys' := [(cI, .int)]) [0] rfl
        have hDc := hD.sub (ws' := [(h0, .inr (2, [.ref qk, .int (zi (f_X0_yearStart ya)), .int (zi (f_X0_yearLength ya))])), (qk, aI cI 366 mg_6)]) [2, 3] (by decide) rfl
        have hFc := va_free (wc := [(h0, .inr (2, [.ref qk, .int (zi (f_X0_yearStart ya)), .int (zi (f_X0_yearLength ya))])), (qk, aI cI 366 mg_6)]) hD hS hA [2, 3] rfl
        refine va_callv (va_runV (As := [.int (zi (f_X3_dayFor (kf kk.toNat) (af kk.toNat) (bf kk.toNat) (zf kk.toNat) ya))]) (rest := []) ⟨hx, hb, hml, hown, hts⟩ hh8 (cwV 1 hts gX2_mark_X2_markDay rfl rfl rfl (by decide +kernel) ⟨Nat.le_of_ble_eq_true rfl, Nat.le_of_ble_eq_true rfl⟩) ⟨zPw.blind _ _ _ _ _, va_recv hKc hPc (ci := 2) (q0 := 0) rfl rfl, fun U hU hW => ⟨rfl, by rw [hU], by rw [hU]; exact hPc, va_K.moved hW.alike hKc, hDc.weaken (fun _ _ _ _ => trivial)⟩⟩ rfl rfl hl.1 rfl (lv_room (Nat.le_of_ble_eq_true rfl)) dX2_mark_63 ⟨Nat.le_of_ble_eq_true rfl, Nat.le_of_ble_eq_true rfl⟩) hS (fun q _ h => hFc q h) hFc (fun u t H1 locs ht hvm hw hB hz1 hk1 hS => ?_)
        generalize u = mg_9 at hw hB
        have hw8 := hw
        replace hw8 : ∀ j : Nat, mg_9 j = if (f_X0_yearStart ya) + (j : Int) = (f_X3_dayFor (kf kk.toNat) (af kk.toNat) (bf kk.toNat) (zf kk.toNat) ya) ∧ (j : Int) < (f_X0_yearLength ya) then 1 else mg_6 j := hw8
        obtain ⟨hP1, hK1, hD1⟩ := hB
        rw [ht] at hP1
        replace hP1 : va_P (dC, dI) vwCl [(h0, .inr (2, [.ref qk, .int (zi (f_X0_yearStart ya)), .int (zi (f_X0_yearLength ya))])), (qk, aI cI 366 mg_9)] H1 := hP1
        replace hD1 : va_D _ [(h0, .inr (2, [.ref qk, .int (zi (f_X0_yearStart ya)), .int (zi (f_X0_yearLength ya))])), (qk, aI cI 366 mg_9)] := hD1
        obtain ⟨hP, hD⟩ := va_join (wr := [(ql, .inr (0, [.int (zi mc), .ref qe, .int (zi ru)])), (qe, aR cO cap ef)]) (w1 := [(h0, .inr (2, [.ref qk, .int (zi (f_X0_yearStart ya)), .int (zi (f_X0_yearLength ya))])), (qk, aI cI 366 mg_9)]) hP hD [2, 3] [0, 1] rfl rfl (by decide) (by decide) hk1 hFc hP1 hD1
        generalize H1 = H at hP hS ⊢
        have hP : va_P (dC, dI) vwCl [(ql, .inr (0, [.int (zi mc), .ref qe, .int (zi ru)])), (qe, aR cO cap ef), (h0, .inr (2, [.ref qk, .int (zi (f_X0_yearStart ya)), .int (zi (f_X0_yearLength ya))])), (qk, aI cI 366 mg_9)] H := hP
        have hD : va_D A [(ql, .inr (0, [.int (zi mc), .ref qe, .int (zi ru)])), (qe, aR cO cap ef), (h0, .inr (2, [.ref qk, .int (zi (f_X0_yearStart ya)), .int (zi (f_X0_yearLength ya))])), (qk, aI cI 366 mg_9)] := hD
        refine lv_aload_n hx hb dX2_mark_66 rfl (lv_at hl 2 rfl) ?_
        refine lv_aload hx hb dX2_mark_67 (lv_at hl 0 rfl) ?_
        refine lv_iload_n hx hb dX2_mark_69 rfl (lv_at hl 3 rfl) ?_
        refine zw_iconst hx hb dX2_mark_70 ?_
        refine zw_iadd hx hb dX2_mark_71 ?_
        have hh10 := c_X3_dayFor l dC dI (rf kk.toNat) (kf kk.toNat) (af kk.toNat) (bf kk.toNat) (zf kk.toNat) (ya + 1) (by omega) (by omega)
        have hPc : va_P (dC, dI) vwCl [((rf kk.toNat), .inr (3, [.int (zi (kf kk.toNat)), .int (zi (af kk.toNat)), .int (zi (bf kk.toNat)), .int (zi (zf kk.toNat))]))] H := (zRu_at hG hS kk.toNat (by omega)).2
        have hKc : va_K (dC, dI) vwCl [] s := hK.sub (tys' := []) [] rfl
        refine vp_callSi (va_Run.run (va_runV (As := [.int (zi (ya + 1))]) (rest := [.ref h0]) ⟨hx, hb, hml, hown, hts⟩ hh10 (cwV 1 hts gX2_mark_X3_dayFor rfl rfl rfl (by decide +kernel) ⟨Nat.le_of_ble_eq_true rfl, Nat.le_of_ble_eq_true rfl⟩) ⟨zPr.blind _ _ _ _, va_recv hKc hPc (ci := 3) (q0 := 0) rfl rfl, fun U hU hW => ⟨rfl, by rw [hU]; exact hPc, va_K.moved hW.alike hKc⟩⟩ rfl rfl hl.1 rfl (lv_room (Nat.le_of_ble_eq_true rfl)) dX2_mark_72 ⟨Nat.le_of_ble_eq_true rfl, Nat.le_of_ble_eq_true rfl⟩)) (fun r10 (hr10 : r10 = zi (f_X3_dayFor (kf kk.toNat) (af kk.toNat) (bf kk.toNat) (zf kk.toNat) (ya + 1))) => ?_)
        subst hr10
        have hf10_0 := b_X3_dayFor (kf kk.toNat) (af kk.toNat) (bf kk.toNat) (zf kk.toNat) (ya + 1) (by omega) (by omega)
        have hh11 := c_X2_markDay l dC dI cI h0 qk (f_X0_yearStart ya) (f_X0_yearLength ya) mg_9 (f_X3_dayFor (kf kk.toNat) (af kk.toNat) (bf kk.toNat) (zf kk.toNat) (ya + 1)) H.size (by omega) (by omega)
        have hPc := hP.sub (ws' := [(h0, .inr (2, [.ref qk, .int (zi (f_X0_yearStart ya)), .int (zi (f_X0_yearLength ya))])), (qk, aI cI 366 mg_9)]) [2, 3] rfl
        have hKc : va_K (dC, dI) vwCl [(cI, .int)] s := hK.sub (tys' := [(cI, .int)]) [0] rfl
        have hDc := hD.sub (ws' := [(h0, .inr (2, [.ref qk, .int (zi (f_X0_yearStart ya)), .int (zi (f_X0_yearLength ya))])), (qk, aI cI 366 mg_9)]) [2, 3] (by decide) rfl
        have hFc := va_free (wc := [(h0, .inr (2, [.ref qk, .int (zi (f_X0_yearStart ya)), .int (zi (f_X0_yearLength ya))])), (qk, aI cI 366 mg_9)]) hD hS hA [2, 3] rfl
        refine va_callv (va_runV (As := [.int (zi (f_X3_dayFor (kf kk.toNat) (af kk.toNat) (bf kk.toNat) (zf kk.toNat) (ya + 1)))]) (rest := []) ⟨hx, hb, hml, hown, hts⟩ hh11 (cwV 1 hts gX2_mark_X2_markDay rfl rfl rfl (by decide +kernel) ⟨Nat.le_of_ble_eq_true rfl, Nat.le_of_ble_eq_true rfl⟩) ⟨zPw.blind _ _ _ _ _, va_recv hKc hPc (ci := 2) (q0 := 0) rfl rfl, fun U hU hW => ⟨rfl, by rw [hU], by rw [hU]; exact hPc, va_K.moved hW.alike hKc, hDc.weaken (fun _ _ _ _ => trivial)⟩⟩ rfl rfl hl.1 rfl (lv_room (Nat.le_of_ble_eq_true rfl)) dX2_mark_75 ⟨Nat.le_of_ble_eq_true rfl, Nat.le_of_ble_eq_true rfl⟩) hS (fun q _ h => hFc q h) hFc (fun u t H1 locs ht hvm hw hB hz1 hk1 hS => ?_)
        generalize u = mg_12 at hw hB
        have hw11 := hw
        replace hw11 : ∀ j : Nat, mg_12 j = if (f_X0_yearStart ya) + (j : Int) = (f_X3_dayFor (kf kk.toNat) (af kk.toNat) (bf kk.toNat) (zf kk.toNat) (ya + 1)) ∧ (j : Int) < (f_X0_yearLength ya) then 1 else mg_9 j := hw11
        obtain ⟨hP1, hK1, hD1⟩ := hB
        rw [ht] at hP1
        replace hP1 : va_P (dC, dI) vwCl [(h0, .inr (2, [.ref qk, .int (zi (f_X0_yearStart ya)), .int (zi (f_X0_yearLength ya))])), (qk, aI cI 366 mg_12)] H1 := hP1
        replace hD1 : va_D _ [(h0, .inr (2, [.ref qk, .int (zi (f_X0_yearStart ya)), .int (zi (f_X0_yearLength ya))])), (qk, aI cI 366 mg_12)] := hD1
        obtain ⟨hP, hD⟩ := va_join (wr := [(ql, .inr (0, [.int (zi mc), .ref qe, .int (zi ru)])), (qe, aR cO cap ef)]) (w1 := [(h0, .inr (2, [.ref qk, .int (zi (f_X0_yearStart ya)), .int (zi (f_X0_yearLength ya))])), (qk, aI cI 366 mg_12)]) hP hD [2, 3] [0, 1] rfl rfl (by decide) (by decide) hk1 hFc hP1 hD1
        generalize H1 = H at hP hS ⊢
        have hP : va_P (dC, dI) vwCl [(ql, .inr (0, [.int (zi mc), .ref qe, .int (zi ru)])), (qe, aR cO cap ef), (h0, .inr (2, [.ref qk, .int (zi (f_X0_yearStart ya)), .int (zi (f_X0_yearLength ya))])), (qk, aI cI 366 mg_12)] H := hP
        have hD : va_D A [(ql, .inr (0, [.int (zi mc), .ref qe, .int (zi ru)])), (qe, aR cO cap ef), (h0, .inr (2, [.ref qk, .int (zi (f_X0_yearStart ya)), .int (zi (f_X0_yearLength ya))])), (qk, aI cI 366 mg_12)] := hD
        obtain ⟨x13, ex13⟩ : ∃ z : Int, z = kk + 1 := ⟨_, rfl⟩
        refine zw_iinc (lv' := [(3, .int (zi x13)), (4, .ref (rf kk.toNat)), (0, .ref h0), (1, .int (zi ya)), (2, .ref ql)]) (k := 1) hx hb ex13 dX2_mark_78 hl rfl (by decide) rfl (fun ls hl => ?_)
        refine lv_goto (tgt := 26) hx hb dX2_mark_81 (by decide) ?_
        have hyb := b_X0_yearStart ya (by omega)
        have hyl := b_X0_yearLength ya (by omega)
        subst ex13
        have hP9 := hP.sub (ws' := [(h0, .inr (2, [.ref qk, .int (zi (f_X0_yearStart ya)), .int (zi (f_X0_yearLength ya))])), (qk, aI cI 366 mg_12), (ql, .inr (0, [.int (zi mc), .ref qe, .int (zi ru)])), (qe, aR cO cap ef)]) [2, 3, 0, 1] rfl
        have hD9 := hD.sub (ws' := [(h0, .inr (2, [.ref qk, .int (zi (f_X0_yearStart ya)), .int (zi (f_X0_yearLength ya))])), (qk, aI cI 366 mg_12), (ql, .inr (0, [.int (zi mc), .ref qe, .int (zi ru)])), (qe, aR cO cap ef)]) [2, 3, 0, 1] (by decide) rfl
        exact ih (kk + 1) mg_12 (by omega) (by first | exact mkX2_at (by omega) (mkX2_step _ _ _ _ _ _ _ _ _ _ _ _ hi1 (by assumption) (by assumption) (by assumption)) | exact mkX2_0 _ _ _ _ _ _ _ _ (mkX2_f (by assumption)) (by omega)) (by omega) ls _ _ (lv_sub hl [0, 2, 3, 4] rfl) hP9 hD9 hS
  have hl := lv_entry ([.ref h0, .int (zi ya), .ref ql]) (n := 5) (Nat.le_of_ble_eq_true rfl)
  rw [lg_entry_eq]
  generalize (lg_sl ([.ref h0, .int (zi ya), .ref ql]) ++ List.replicate (5 - (lg_sl ([.ref h0, .int (zi ya), .ref ql])).length) Slot.unset).toArray = ls at hl ⊢
  have hl : lv_has ls 5 [(0, .ref h0), (1, .int (zi ya)), (2, .ref ql)] := hl
  have hyb := b_X0_yearStart ya (by omega)
  have hyl := b_X0_yearLength ya (by omega)
  refine lv_aload_n hx hb dX2_mark_0 rfl (lv_at hl 0 rfl) ?_
  refine lv_iload_n hx hb dX2_mark_1 rfl (lv_at hl 1 rfl) ?_
  have hh14 := c_X0_yearStart l ya (by omega)
  refine vp_callSi (va_Run.run (va_runS (As := [.int (zi ya)]) (rest := [.ref h0]) ⟨hx, hb, hml, hown, hts⟩ hh14 (va_cwS 1 hts gX2_mark_X0_yearStart rfl rfl rfl (by decide +kernel) ⟨Nat.le_of_ble_eq_true rfl, Nat.le_of_ble_eq_true rfl⟩) ⟨fun a U g mk q => q, fun U hU hW => ⟨rfl, trivial⟩⟩ rfl rfl hl.1 rfl (lv_room (Nat.le_of_ble_eq_true rfl)) dX2_mark_2 ⟨Nat.zero_le _, Nat.zero_le _⟩)) (fun r14 (hr14 : r14 = zi (f_X0_yearStart ya)) => ?_)
  subst hr14
  have hf14 := b_X0_yearStart ya (by omega)
  refine va_put (D := (dC, dI)) (ci := 2) (v := .int (zi (f_X0_yearStart ya))) (ty := .int) (C := RX2) (T := TX2) (N := 3) hx hb hts (by decide +kernel) tyX2 tyX2_ok nmX2 hown hK hP hD hS 0 rfl rfl 1 (by decide) (hts (.fieldLink RX2 13 "CivilDays$MarkedYear" "first" "I") (by decide +kernel)) (fun _ h9 => h9) rfl (by decide +kernel) rfl rfl (Nat.le_of_ble_eq_true rfl) dX2_mark_5 (fun H locs hP hD hS => ?_)
  have hP : va_P (dC, dI) vwCl [(h0, .inr (2, [.ref qk, .int (zi (f_X0_yearStart ya)), .int (zi ln)])), (qk, aI cI 366 mf), (ql, .inr (0, [.int (zi mc), .ref qe, .int (zi ru)])), (qe, aR cO cap ef)] H := hP
  have hD : va_D A [(h0, .inr (2, [.ref qk, .int (zi (f_X0_yearStart ya)), .int (zi ln)])), (qk, aI cI 366 mf), (ql, .inr (0, [.int (zi mc), .ref qe, .int (zi ru)])), (qe, aR cO cap ef)] := hD
  refine lv_aload_n hx hb dX2_mark_8 rfl (lv_at hl 0 rfl) ?_
  refine lv_iload_n hx hb dX2_mark_9 rfl (lv_at hl 1 rfl) ?_
  have hh15 := c_X0_yearLength l ya (by omega)
  refine vp_callSi (va_Run.run (va_runS (As := [.int (zi ya)]) (rest := [.ref h0]) ⟨hx, hb, hml, hown, hts⟩ hh15 (va_cwS 1 hts gX2_mark_X0_yearLength rfl rfl rfl (by decide +kernel) ⟨Nat.le_of_ble_eq_true rfl, Nat.le_of_ble_eq_true rfl⟩) ⟨fun a U g mk q => q, fun U hU hW => ⟨rfl, trivial⟩⟩ rfl rfl hl.1 rfl (lv_room (Nat.le_of_ble_eq_true rfl)) dX2_mark_10 ⟨Nat.zero_le _, Nat.zero_le _⟩)) (fun r15 (hr15 : r15 = zi (f_X0_yearLength ya)) => ?_)
  subst hr15
  have hf15 := b_X0_yearLength ya (by omega)
  refine va_put (D := (dC, dI)) (ci := 2) (v := .int (zi (f_X0_yearLength ya))) (ty := .int) (C := RX2) (T := TX2) (N := 3) hx hb hts (by decide +kernel) tyX2 tyX2_ok nmX2 hown hK hP hD hS 0 rfl rfl 2 (by decide) (hts (.fieldLink RX2 17 "CivilDays$MarkedYear" "length" "I") (by decide +kernel)) (fun _ h9 => h9) rfl (by decide +kernel) rfl rfl (Nat.le_of_ble_eq_true rfl) dX2_mark_13 (fun H locs hP hD hS => ?_)
  have hP : va_P (dC, dI) vwCl [(h0, .inr (2, [.ref qk, .int (zi (f_X0_yearStart ya)), .int (zi (f_X0_yearLength ya))])), (qk, aI cI 366 mf), (ql, .inr (0, [.int (zi mc), .ref qe, .int (zi ru)])), (qe, aR cO cap ef)] H := hP
  have hD : va_D A [(h0, .inr (2, [.ref qk, .int (zi (f_X0_yearStart ya)), .int (zi (f_X0_yearLength ya))])), (qk, aI cI 366 mf), (ql, .inr (0, [.int (zi mc), .ref qe, .int (zi ru)])), (qe, aR cO cap ef)] := hD
  refine lv_aload_n hx hb dX2_mark_16 rfl (lv_at hl 0 rfl) ?_
  refine va_get (D := (dC, dI)) (ci := 2) (v := .ref qk) (C := RX2) (T := TX2) (N := 3) hx hb hts (by decide +kernel) hown hK hP 0 rfl rfl 0 (by decide) (hts (.fieldLink RX2 9 "CivilDays$MarkedYear" "marks" "[I") (by decide +kernel)) (fun _ h9 => h9) rfl dX2_mark_17 ?_
  refine zw_iconst hx hb dX2_mark_20 ?_
  have hh16 := c_J7_fill l dC dI cI qk 366 mf 0 H.size (by omega)
  have hPc := hP.sub (ws' := [(qk, aI cI 366 mf)]) [1] rfl
  have hKc : va_K (dC, dI) vwCl [(cI, .int)] s := hK.sub (tys' := [(cI, .int)]) [0] rfl
  have hDc := hD.sub (ws' := [(qk, aI cI 366 mf)]) [1] (by decide) rfl
  have hFc := va_free (wc := [(qk, aI cI 366 mf)]) hD hS hA [1] rfl
  refine va_callv (va_runS (As := [.ref qk, .int (zi 0)]) (rest := []) ⟨hx, hb, hml, hown, hts⟩ hh16 (va_cwS 2 hts gX2_mark_J7_fill_53178 rfl rfl rfl (by decide +kernel) ⟨Nat.le_of_ble_eq_true rfl, Nat.le_of_ble_eq_true rfl⟩) ⟨zPw.blind _ _ _ _ _, fun U hU hW => ⟨rfl, by rw [hU], by rw [hU]; exact hPc, va_K.moved hW.alike hKc, hDc.weaken (fun _ _ _ _ => trivial)⟩⟩ rfl rfl hl.1 rfl (lv_room (Nat.le_of_ble_eq_true rfl)) dX2_mark_21 ⟨Nat.le_of_ble_eq_true rfl, Nat.le_of_ble_eq_true rfl⟩) hS (fun q _ h => hFc q h) hFc (fun u t H1 locs ht hvm hw hB hz1 hk1 hS => ?_)
  generalize u = fg_17 at hw hB
  have hw16 := hw
  replace hw16 : ∀ j : Nat, fg_17 j = if j < 366 then 0 else mf j := hw16
  obtain ⟨hP1, hK1, hD1⟩ := hB
  rw [ht] at hP1
  replace hP1 : va_P (dC, dI) vwCl [(qk, aI cI 366 fg_17)] H1 := hP1
  replace hD1 : va_D _ [(qk, aI cI 366 fg_17)] := hD1
  obtain ⟨hP, hD⟩ := va_join (wr := [(h0, .inr (2, [.ref qk, .int (zi (f_X0_yearStart ya)), .int (zi (f_X0_yearLength ya))])), (ql, .inr (0, [.int (zi mc), .ref qe, .int (zi ru)])), (qe, aR cO cap ef)]) (w1 := [(qk, aI cI 366 fg_17)]) hP hD [1] [0, 2, 3] rfl rfl (by decide) (by decide) hk1 hFc hP1 hD1
  generalize H1 = H at hP hS ⊢
  have hP : va_P (dC, dI) vwCl [(h0, .inr (2, [.ref qk, .int (zi (f_X0_yearStart ya)), .int (zi (f_X0_yearLength ya))])), (ql, .inr (0, [.int (zi mc), .ref qe, .int (zi ru)])), (qe, aR cO cap ef), (qk, aI cI 366 fg_17)] H := hP
  have hD : va_D A [(h0, .inr (2, [.ref qk, .int (zi (f_X0_yearStart ya)), .int (zi (f_X0_yearLength ya))])), (ql, .inr (0, [.int (zi mc), .ref qe, .int (zi ru)])), (qe, aR cO cap ef), (qk, aI cI 366 fg_17)] := hD
  refine zw_iconst hx hb dX2_mark_24 ?_
  refine lv_istore_n (lv' := [(3, .int (zi 0)), (0, .ref h0), (1, .int (zi ya)), (2, .ref ql)]) hx hb dX2_mark_25 rfl hl (by decide) rfl (fun ls hl => ?_)
  have hyb := b_X0_yearStart ya (by omega)
  have hyl := b_X0_yearLength ya (by omega)
  have hP9 := hP.sub (ws' := [(h0, .inr (2, [.ref qk, .int (zi (f_X0_yearStart ya)), .int (zi (f_X0_yearLength ya))])), (qk, aI cI 366 fg_17), (ql, .inr (0, [.int (zi mc), .ref qe, .int (zi ru)])), (qe, aR cO cap ef)]) [0, 3, 1, 2] rfl
  have hD9 := hD.sub (ws' := [(h0, .inr (2, [.ref qk, .int (zi (f_X0_yearStart ya)), .int (zi (f_X0_yearLength ya))])), (qk, aI cI 366 fg_17), (ql, .inr (0, [.int (zi mc), .ref qe, .int (zi ru)])), (qe, aR cO cap ef)]) [0, 3, 1, 2] (by decide) rfl
  exact loop26 (13) 0 fg_17 (by omega) (by first | exact mkX2_at (by omega) (mkX2_step _ _ _ _ _ _ _ _ _ _ _ _ hi1 (by assumption) (by assumption) (by assumption)) | exact mkX2_0 _ _ _ _ _ _ _ _ (mkX2_f (by assumption)) (by omega)) (by omega) ls _ _ (lv_sub hl [0, 1, 2, 3] rfl) hP9 hD9 hS
