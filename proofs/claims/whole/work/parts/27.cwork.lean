/-! THE CLASS'S WORKING DAYS -/
theorem yl_S (y : Int) : f_X0_yearLength y = yS y - yS (y - 1) := by
  have h1 := leap_yS y
  have h2 := yS_step (y - 1)
  rw [show y - 1 + 1 = y from by omega] at h2
  unfold f_X0_yearLength
  split <;> omega
/-- what the marked year says: nothing, or a year's marks -/
def mkOk (kf af bf zf : Nat → Int) (ru fi ln : Int) (mf : Nat → Int) : Prop := (0 ≤ fi ∧ fi ≤ 4000000 ∧ ln = 0) ∨ ∃ y : Int, 1 ≤ y ∧ y ≤ 9999 ∧ fi = f_X0_yearStart y ∧ ln = f_X0_yearLength y ∧ mkX2 kf af bf zf y (f_X0_yearStart y) (f_X0_yearLength y) ru.toNat mf
theorem mkOk_b {kf af bf zf : Nat → Int} {ru fi ln : Int} {mf : Nat → Int} (h : mkOk kf af bf zf ru fi ln mf) : 0 ≤ fi ∧ fi ≤ 4000000 ∧ 0 ≤ ln ∧ ln ≤ 366 := by
  rcases h with h | ⟨y, h1, h2, rfl, rfl, -⟩
  · omega
  · have q1 := b_X0_yearStart y (by omega)
    have q2 := b_X0_yearLength y (by omega)
    omega
theorem mkX2_in {kf af bf zf : Nat → Int} {y ru nu : Int} {mf : Nat → Int} (h : mkX2 kf af bf zf y (f_X0_yearStart y) (f_X0_yearLength y) ru.toNat mf) (h1 : f_X0_yearStart y ≤ nu ∧ nu - f_X0_yearStart y < f_X0_yearLength y) : mf (nu - f_X0_yearStart y).toNat = if zfr (rhX3 kf af bf zf y nu) ru.toNat 0 = -1 then 0 else 1 := by
  have q := h (nu - f_X0_yearStart y).toNat (by omega)
  rw [show f_X0_yearStart y + (((nu - f_X0_yearStart y).toNat : Nat) : Int) = nu from by omega] at q
  exact q
theorem mkOk_at {kf af bf zf : Nat → Int} {ru fi ln : Int} {mf : Nat → Int} (h : mkOk kf af bf zf ru fi ln mf) (nu : Int) (h0 : 0 ≤ nu ∧ nu ≤ 3652058) (h1 : fi ≤ nu ∧ nu - fi < ln) : mf (nu - fi).toNat = if zfr (rhX3 kf af bf zf (f_X0_yearOf nu) nu) ru.toNat 0 = -1 then 0 else 1 := by
  rcases h with h | ⟨y, h2, h3, rfl, rfl, h4⟩
  · omega
  · have q := mkX2_in h4 h1
    have q1 := y_X0 nu (by omega)
    have q2 : f_X0_yearStart y = yS (y - 1) := rfl
    have q3 := yl_S y
    rw [← y_uniq (n := nu) (y := y) (z := f_X0_yearOf nu) (by omega) (by omega) (by omega) (by omega)]
    exact q
theorem mk_cov (nu : Int) (h : 0 ≤ nu ∧ nu ≤ 3652058) : f_X0_yearStart (f_X0_yearOf nu) ≤ nu ∧ nu - f_X0_yearStart (f_X0_yearOf nu) < f_X0_yearLength (f_X0_yearOf nu) := by
  have q1 := y_X0 nu (by omega)
  have q2 : f_X0_yearStart (f_X0_yearOf nu) = yS (f_X0_yearOf nu - 1) := rfl
  have q3 := yl_S (f_X0_yearOf nu)
  omega
theorem mkOk_new {kf af bf zf : Nat → Int} {ru y : Int} {mf : Nat → Int} (h : mkX2 kf af bf zf y (f_X0_yearStart y) (f_X0_yearLength y) ru.toNat mf) (hy : 1 ≤ y ∧ y ≤ 9999) : mkOk kf af bf zf ru (f_X0_yearStart y) (f_X0_yearLength y) mf := Or.inr ⟨y, hy.1, hy.2, rfl, rfl, h⟩
def wkX4 (we : Int) (kf af bf zf : Nat → Int) (ru n : Int) : Int :=
  if zsr we (f_X0_weekdayOf n - 1) % 2 = 0 ∧ zfr (rhX3 kf af bf zf (f_X0_yearOf n) n) ru.toNat 0 = -1 then 1 else 0
theorem wkX4_s (we : Int) (kf af bf zf : Nat → Int) (ru n : Int) : wkX4 we kf af bf zf ru n = 1 ∧ (zsr we (f_X0_weekdayOf n - 1) % 2 = 0 ∧ zfr (rhX3 kf af bf zf (f_X0_yearOf n) n) ru.toNat 0 = -1) ∨ wkX4 we kf af bf zf ru n = 0 ∧ ¬ (zsr we (f_X0_weekdayOf n - 1) % 2 = 0 ∧ zfr (rhX3 kf af bf zf (f_X0_yearOf n) n) ru.toNat 0 = -1) := by
  unfold wkX4
  split
  · exact Or.inl ⟨rfl, by assumption⟩
  · exact Or.inr ⟨rfl, by assumption⟩
/-- the rules' objects and what a throw needs -/
def zRE (D : va_G) (ru : Int) (rf : Nat → Nat) (kf af bf zf : Nat → Int) (A : Nat → Prop) (U : State) (H : Heap) : Prop := zRu D ru rf kf af bf zf A U H ∧ zE A U H
theorem zE_ok : zF zE := by
  refine ⟨fun A s U H hW h => ?_, fun A s U H hv h => ?_, fun A U H H1 hq h => ?_, fun A B U H hAB h => ?_⟩
  · obtain ⟨h1, h2, h3, h4, h5⟩ := h
    exact ⟨h1.moved hW.alike, h2.moved hW.alike, fun w hw => zW_moved hw hW.alike (h3 w hw), fun q hq => (h4 q hq).elim fun sa hs => ⟨sa, hs.warm hW⟩, fun q hq => (h5 q hq).moved hW.alike⟩
  · obtain ⟨h1, h2, h3, h4, h5⟩ := h
    have ha : s.vm.Alike U.vm := by rw [hv]; exact Vm.Alike.refl s.vm
    exact ⟨h1.moved ha, h2.moved ha, fun w hw => zW_moved hw ha (h3 w hw), fun q hq => (h4 q hq).elim fun sa hs => ⟨sa, hs.same hv⟩, fun q hq => (h5 q hq).moved ha⟩
  · obtain ⟨h1, h2, h3, h4, h5⟩ := h
    exact ⟨h1.kept hq, h2.kept hq, h3, h4, h5⟩
  · obtain ⟨h1, h2, h3, h4, h5⟩ := h
    exact ⟨h1.narrow hAB, h2.narrow hAB, h3, h4, h5⟩
theorem zRE_ok {D : va_G} {ru : Int} {rf : Nat → Nat} {kf af bf zf : Nat → Int} : zF (zRE D ru rf kf af bf zf) := zF.and zRu_ok zE_ok
section ZT2
variable {p : Program} {l : Launch} {e : Env} {R : Room} {s : State} {m : MethodId} {args : Array Value} {below : List Frame} {meth : Method} {c : Code} {cc : ByteArray} {pc : Nat} {ls : Array Slot} {rest st0 : List Value} {Qc : Array Value → State → Outcome → State → Prop} {H H0 : Heap} {locs : List Loc} {cells slots : Nat} {Q : State → Prop}
/-- a throw behind writes -/
theorem zt_throwW {S : Type} {px : S → Prop} {B : S → State → Prop} {A : Nat → Prop} {cls text : String} {ik is ic : Nat} (hx : p.tables.exec = Jvm.exec) (hb : c.code = cc) (hst : l.stackTraces = false) (hown : s.vm.findClass RX4 = some m.cls) (hE : zE A s s.heap)
    (hcls : Bundle.fit cls = true) (hk : (Cond.classLink RX4 ik cls).before args s = true) (hini : (Cond.initialized cls).before args s = true) (hs : (is, text) ∈ zS)
    (hat1 : ∀ w ∈ (vx_atS RX4 ic cls zNN).filter goodWord, w.before args s = true) (hat2 : ∀ w ∈ (vx_atS RX4 ic cls zNN).filter (fun w => !goodWord w), w ∈ zW)
    (hgood : ∀ w ∈ Cond.classLink RX4 ik cls :: Cond.initialized cls :: vx_atS RX4 ic cls zNN, vx_ot w = true) (hsize : ls.size = c.maxLocals)
    (d0 : decode cc pc = .ok (.new ik, 3)) (d3 : decode cc (pc + 3) = .ok (.dup, 1)) (d4 : decode cc (pc + 4) = .ok (.ldc is, 2)) (d6 : decode cc (pc + 6) = .ok (.invokespecial ic, 3)) (d9 : decode cc (pc + 9) = .ok (.athrow, 1))
    (hno : ∀ x ∈ c.exceptionTable.toList, False) (hRf : 5 < R.frames) (hRl : (rest.map fun v => v.category).sum + 82 ≤ R.locals) (hRc : 1 ≤ R.cells) (hRs : 6 ≤ R.slots) (hlocks : meth.locks = false)
    (hS : va_S A s.heap H locs) (u : S) (hp : px u) (hB : ∀ t : State, s.vm.Alike t.vm → H.size ≤ t.heap.size → (∀ q : Nat, q < H.size → t.heap[q]? = H[q]?) → B u t) :
    W p l e R s m args below meth c H locs 0 0 (vx_MQ below Qc (vx_X px (fun E9 u t => E9 = cls ∧ B u t) A) args s 1 6 A) (F0 m pc ls rest) := by
  obtain ⟨h1, h2, h3, h4, -⟩ := hE
  obtain ⟨sa, hsa⟩ := h4 _ hs
  exact vx_throwS (A := A) (names := zNN) hx hb hst hown hcls (by decide +kernel) hk hini hsa
    (vx_hat hat1 hat2 (fun w hw => va_any (zW_ot w hw) (h3 w hw))) hgood h1 h2 hS hsize d0 d3 d4 d6 d9 (fun x h => (hno x h).elim) hRf hRl (by omega) (by omega) hlocks
    (fun t ha hz hk => ⟨u, hp, ⟨rfl, hB t ha hz hk⟩, Nat.le_trans hS.1 hz, fun q h1 h2 => (hk q (Nat.lt_of_lt_of_le h1 hS.1)).trans (hS.2.1 q h1 h2)⟩) hS.2.2 (by omega) (by omega)
/-- a call that throws E0 behind writes, caught here by the row x -/
theorem zt_catchW {S : Type} {px : S → Prop} {B : S → State → Prop} {A0 A1 free : Nat → Prop} {own name E0 : String} (hr : vx_Run p l e R s m args below meth c H locs cells slots 1 6 (F0 m pc ls st0) rest (fun _ _ _ => False) (vx_X px (fun E9 u t => E9 = E0 ∧ B u t) A1) free)
    (hS : va_S A0 H0 H locs) (hA : ∀ q, q < H.size → A1 q → A0 q) (hf : ∀ q, free q → A0 q) (hown : s.vm.findClass own = some m.cls)
    (pre : List ExceptionTableEntry) (x : ExceptionTableEntry) (suf : List ExceptionTableEntry) (hsplit : c.exceptionTable.toList = pre ++ x :: suf)
    (hpass : ∀ z ∈ pre, covers z pc = true ∧ z.catchType ≠ 0 ∧ ∃ nm : String, (Cond.classLink own z.catchType nm).before args s = true ∧ va_Nc E0 nm s) (hx : covers x pc = true) (h0 : x.catchType ≠ 0)
    (hlink : (Cond.classLink own x.catchType name).before args s = true) (hcast : (Cond.castable E0 name).before args s = true)
    (kk : ∀ (q : Addr) (u : S) (t : State) (H1 : Heap) (locs1 : List Loc), t.heap = H1 → px u → B u t → H.size ≤ H1.size → (∀ z : Nat, z < H.size → ¬ A1 z → H1[z]? = H[z]?) → va_S A0 H0 H1 locs1 → W p l e R s m args below meth c H1 locs1 (cells + 1) (slots + 6) Q (F0 m x.handlerPc ls [.ref q])) : W p l e R s m args below meth c H locs cells slots Q (F0 m pc ls st0) := by
  intro T hT X
  rcases hr T hT X with ⟨v, st₀, t, T', L, h9, X', hL, e1, e2, hq, st⟩ | ⟨q, st₀, t, T', L, E, ce, h9, X', hL, e1, e2, ⟨u, hp, ⟨hE, hB⟩, hF⟩, hce, hcv, hcl, st⟩
  · exact hq.elim
  · subst hE
    obtain ⟨k1, k2, k3⟩ := vx_keep h9 e1 hS hA hf hL hF
    have hpl : e.platform.magicAccessors = ({} : Platform).magicAccessors := by rw [X'.admits.platform]
    obtain ⟨c3, c4, hc3, hc4, hasg⟩ := Cond.castable_spec hcast
    cases Option.some.inj (hc3.symm.trans hcl)
    obtain ⟨c5, hc5, hcl5⟩ := Cond.classLink_spec hown hlink e.platform hpl
    cases Option.some.inj (hc4.symm.trans hc5)
    obtain ⟨vm', hW', hgo⟩ := zc_go (e := e) (s := s) (f := { F0 m pc ls st0 with stack := rest }) (a := q) (cell := ce) (fun k h => by rw [hcv] at h; cases h) (by obtain ⟨k9, hk9, -⟩ := Vm.findClass_spec hcl; exact ⟨k9, hk9⟩) x suf hx h0 ⟨_, hcl5, hasg⟩ pre
      ((T'.setTop { F0 m pc ls st0 with stack := rest }).pushFrame (.throwing q)) X'.warmed (by rw [Stand.throwing_heap, e1]; exact hce)
      (fun z hz9 => by
        obtain ⟨g1, g2, nm, hl1, hn1⟩ := hpass z hz9
        obtain ⟨c6, hc6, hcl6⟩ := Cond.classLink_spec hown hl1 e.platform hpl
        obtain ⟨a8, b8, h1, h2, h3⟩ := hn1
        cases Option.some.inj (h1.symm.trans hcl)
        cases Option.some.inj (h2.symm.trans hc6)
        exact ⟨g1, g2, _, hcl6, h3⟩)
    obtain ⟨t2, a1, b1⟩ := kk q u t T'.heap (locs ++ L) e1.symm hp hB k1 k2 k3 (T'.setVm vm') rfl (X'.noted hW')
    refine ⟨t2, st.trans ?_, b1⟩
    refine zc_catch (c := c) (vm' := vm') (pc := x.handlerPc) X'.here (fun Q E d acts => ?_) a1
    rw [W.findHandler_eq (meth := meth) (code := c) (by exact X'.method') X'.code, hsplit]
    exact hgo Q E d acts
end ZT2
set_option maxHeartbeats 4000000 in
set_option maxRecDepth 100000 in
theorem c_X2_isMarked (l : Launch)  (dC : Nat → ClassId) (dI : Nat → Nat → Nat) (cI : ClassId) (h0 : Nat) (qk : Nat) (fi : Int) (ln : Int) (mf : Nat → Int) (nu : Int) (hp0 : 0 ≤ fi ∧ fi ≤ 4000000 ∧ 0 ≤ ln ∧ ln ≤ 366) (hp1 : -1000 ≤ nu ∧ nu ≤ 5000000) (hp2 : fi ≤ nu ∧ nu - fi < ln) (hp3 : mf (nu - fi).toNat = 0 ∨ mf (nu - fi).toNat = 1) : Met l yX2_isMarked wsX2_isMarked ({ frames := 1, cells := 0, slots := 0, locals := 21 }) (zPr (dC, dI) [(cI, .int)] [.ref h0, .int (zi nu)] [(h0, .inr (2, [.ref qk, .int (zi fi), .int (zi ln)])), (qk, aI cI 366 mf)]) (vp_Si (fun r => r = zi (mf (nu - fi).toNat))) 0 0 zN := by
  refine Met.ofW (cc := cX2_isMarked) (maxL := 2) (ret := (some .boolean)) (by decide) rfl ?_
  intro p e s m args below meth c s₁ B hml hv
  obtain ⟨rfl, hP, hK⟩ := hv
  have hx := B.exec
  have hb := B.bytes
  have hr := B.returns
  have hts := atoms_spec (ws := wsX2_isMarked) B.pre
  have hown : s.vm.findClass RX2 = some m.cls := findClass_of_methodNamed B.named
  have hlocks := B.notSynchronized
  have hl := lv_entry ([.ref h0, .int (zi nu)]) (n := 2) (Nat.le_of_ble_eq_true rfl)
  rw [lg_entry_eq]
  generalize (lg_sl ([.ref h0, .int (zi nu)]) ++ List.replicate (2 - (lg_sl ([.ref h0, .int (zi nu)])).length) Slot.unset).toArray = ls at hl ⊢
  have hl : lv_has ls 2 [(0, .ref h0), (1, .int (zi nu))] := hl
  refine lv_aload_n hx hb dX2_isMarked_0 rfl (lv_at hl 0 rfl) ?_
  refine lv_iload_n hx hb dX2_isMarked_1 rfl (lv_at hl 1 rfl) ?_
  have hh1 := c_X2_covers l dC dI cI h0 qk fi ln mf nu (by omega) (by omega)
  have hPc := hP.sub (ws' := [(h0, .inr (2, [.ref qk, .int (zi fi), .int (zi ln)])), (qk, aI cI 366 mf)]) [0, 1] rfl
  have hKc : va_K (dC, dI) vwCl [(cI, .int)] s := hK
  refine vp_callSi (va_Run.run (va_runV (As := [.int (zi nu)]) (rest := []) ⟨hx, hb, hml, hown, hts⟩ hh1 (cwV 1 hts gX2_isMarked_X2_covers rfl rfl rfl (by decide +kernel) ⟨Nat.le_of_ble_eq_true rfl, Nat.le_of_ble_eq_true rfl⟩) ⟨zPr.blind _ _ _ _, va_recv hKc hPc (ci := 2) (q0 := 0) rfl rfl, fun U hU hW => ⟨rfl, by rw [hU]; exact hPc, va_K.moved hW.alike hKc⟩⟩ rfl rfl hl.1 rfl (lv_room (Nat.le_of_ble_eq_true rfl)) dX2_isMarked_2 ⟨Nat.le_of_ble_eq_true rfl, Nat.le_of_ble_eq_true rfl⟩)) (fun r1 (hr1 : r1 = zi (cvX2 fi ln nu)) => ?_)
  subst hr1
  have hf1_0 := cvX2_s fi ln nu
  refine zw_if_eq (tgt := 27) hx hb dX2_isMarked_5 (by decide) ⟨by omega, by omega⟩ (fun h2 => ?_) (fun h2 => ?_)
  · skip
    exact absurd True.intro (by omega)
  · skip
    refine lv_aload_n hx hb dX2_isMarked_8 rfl (lv_at hl 0 rfl) ?_
    refine va_get (D := (dC, dI)) (ci := 2) (v := .ref qk) (C := RX2) (T := TX2) (N := 3) hx hb hts (by decide +kernel) hown hK hP 0 rfl rfl 0 (by decide) (hts (.fieldLink RX2 9 "CivilDays$MarkedYear" "marks" "[I") (by decide +kernel)) (fun _ h9 => h9) rfl dX2_isMarked_9 ?_
    refine lv_iload_n hx hb dX2_isMarked_12 rfl (lv_at hl 1 rfl) ?_
    refine lv_aload_n hx hb dX2_isMarked_13 rfl (lv_at hl 0 rfl) ?_
    refine va_get (D := (dC, dI)) (ci := 2) (v := .int (zi fi)) (C := RX2) (T := TX2) (N := 3) hx hb hts (by decide +kernel) hown hK hP 0 rfl rfl 1 (by decide) (hts (.fieldLink RX2 13 "CivilDays$MarkedYear" "first" "I") (by decide +kernel)) (fun _ h9 => h9) rfl dX2_isMarked_14 ?_
    refine zw_isub hx hb dX2_isMarked_17 ?_
    refine zw_iald hx hb hK hP 1 0 rfl rfl (by omega) (by omega) ⟨by omega, by omega⟩ dX2_isMarked_18 ?_
    refine zw_iconst hx hb dX2_isMarked_19 ?_
    refine zw_icmp_ne (tgt := 27) hx hb dX2_isMarked_20 (by decide) ⟨by omega, by omega⟩ ⟨by omega, by omega⟩ (fun h3 => ?_) (fun h3 => ?_)
    · skip
      refine zw_iconst hx hb dX2_isMarked_27 ?_
      exact W.zret (v := zi 0) hx hb hr (zi_nb (by omega)) (fun t ht hW => ⟨zi 0, rfl, congrArg zi (by omega), ht⟩) (fun q h => by cases h) dX2_isMarked_28
    · skip
      refine zw_iconst hx hb dX2_isMarked_23 ?_
      refine lv_goto (tgt := 28) hx hb dX2_isMarked_24 (by decide) ?_
      exact W.zret (v := zi 1) hx hb hr (zi_nb (by omega)) (fun t ht hW => ⟨zi 1, rfl, congrArg zi (by omega), ht⟩) (fun q h => by cases h) dX2_isMarked_28

set_option maxHeartbeats 4000000 in
set_option maxRecDepth 100000 in
theorem c_X4_isWorking (l : Launch)  (dC : Nat → ClassId) (dI : Nat → Nat → Nat) (cI : ClassId) (cO : ClassId) (h0 : Nat) (qs : Nat) (qr : Nat) (qm : Nat) (qw : Nat) (qt : Nat) (we : Int) (qk : Nat) (fi : Int) (ln : Int) (mf : Nat → Int) (mc : Int) (qe : Nat) (ru : Int) (cap : Nat) (ef : Nat → Option Nat) (rf : Nat → Nat) (kf : Nat → Int) (af : Nat → Int) (bf : Nat → Int) (zf : Nat → Int) (nu : Int) (sz : Nat) (hp0 : 0 ≤ nu ∧ nu ≤ 3652058) (hp1 : 0 ≤ ru ∧ ru ≤ 12 ∧ ru ≤ (cap : Int) ∧ (cap : Int) ≤ 1000) (hp2 : ∀ j : Nat, (j : Int) < ru → (0 ≤ (kf j) ∧ (kf j) ≤ 3) ∧ ((kf j) = 1 ∧ -100 ≤ (af j) ∧ (af j) ≤ 100 ∨ (kf j) ≠ 1 ∧ 1 ≤ (af j) ∧ (af j) ≤ 12) ∧ ((kf j) = 1 ∨ (kf j) = 2 ∧ 1 ≤ (bf j) ∧ (bf j) ≤ 7 ∨ (kf j) ≠ 2 ∧ 1 ≤ (bf j) ∧ (bf j) ≤ 31) ∧ ((kf j) ≠ 2 ∨ (zf j) = -1 ∨ 1 ≤ (zf j) ∧ (zf j) ≤ 4)) (hp3 : ∀ j : Nat, (j : Int) < ru → ef j = some (rf j)) (hp4 : 0 ≤ we ∧ we ≤ 127) (hp5 : mkOk kf af bf zf ru fi ln mf) : Met l yX4_isWorking wsX4_isWorking ({ frames := 5, cells := 0, slots := 0, locals := 114 }) (zPwF (dC, dI) [(cI, .int), (cO, .object "java/lang/Object")] sz [.ref h0, .int (zi nu)] [(h0, .inr (4, [.ref qs, .ref qr, .ref qm, .ref qw, .ref qt, .int (zi we)])), (qm, .inr (2, [.ref qk, .int (zi fi), .int (zi ln)])), (qk, aI cI 366 mf), (qr, .inr (0, [.int (zi mc), .ref qe, .int (zi ru)])), (qe, aR cO cap ef)] (zRu (dC, dI) ru rf kf af bf zf)) (va_Qi (fun (r : Int32) (u : (Int) × (Int) × (Nat → Int)) => r = zi (wkX4 we kf af bf zf ru nu) ∧ (mkOk kf af bf zf ru u.1 u.2.1 u.2.2)) (fun (u : (Int) × (Int) × (Nat → Int)) => zB (dC, dI) [(cI, .int), (cO, .object "java/lang/Object")] (va_A [(h0, .inr (4, [.ref qs, .ref qr, .ref qm, .ref qw, .ref qt, .int (zi we)])), (qm, .inr (2, [.ref qk, .int (zi fi), .int (zi ln)])), (qk, aI cI 366 mf), (qr, .inr (0, [.int (zi mc), .ref qe, .int (zi ru)])), (qe, aR cO cap ef)] sz) [(h0, .inr (4, [.ref qs, .ref qr, .ref qm, .ref qw, .ref qt, .int (zi we)])), (qm, .inr (2, [.ref qk, .int (zi u.1), .int (zi u.2.1)])), (qk, aI cI 366 u.2.2), (qr, .inr (0, [.int (zi mc), .ref qe, .int (zi ru)])), (qe, aR cO cap ef)] ()) (va_A [(h0, .inr (4, [.ref qs, .ref qr, .ref qm, .ref qw, .ref qt, .int (zi we)])), (qm, .inr (2, [.ref qk, .int (zi fi), .int (zi ln)])), (qk, aI cI 366 mf), (qr, .inr (0, [.int (zi mc), .ref qe, .int (zi ru)])), (qe, aR cO cap ef)] sz)) 0 0 (va_A [(h0, .inr (4, [.ref qs, .ref qr, .ref qm, .ref qw, .ref qt, .int (zi we)])), (qm, .inr (2, [.ref qk, .int (zi fi), .int (zi ln)])), (qk, aI cI 366 mf), (qr, .inr (0, [.int (zi mc), .ref qe, .int (zi ru)])), (qe, aR cO cap ef)] sz) := by
  refine Met.ofW (cc := cX4_isWorking) (maxL := 2) (ret := (some .boolean)) (by decide) rfl ?_
  intro p e s m args below meth c s₁ B hml hv
  obtain ⟨rfl, hsz, hP, hK, hD0, hG⟩ := hv
  have hx := B.exec
  have hb := B.bytes
  have hr := B.returns
  have hts := atoms_spec (ws := wsX4_isWorking) B.pre
  have hown : s.vm.findClass RX4 = some m.cls := findClass_of_methodNamed B.named
  have hlocks := B.notSynchronized
  subst hsz
  have hD := hD0.self (sz := s.heap.size)
  generalize hAe : va_A [(h0, .inr (4, [.ref qs, .ref qr, .ref qm, .ref qw, .ref qt, .int (zi we)])), (qm, .inr (2, [.ref qk, .int (zi fi), .int (zi ln)])), (qk, aI cI 366 mf), (qr, .inr (0, [.int (zi mc), .ref qe, .int (zi ru)])), (qe, aR cO cap ef)] s.heap.size = A at hD hG ⊢
  have hA : ∀ q : Nat, s.heap.size ≤ q → A q := fun q h => by rw [← hAe]; exact Or.inr h
  have hS : va_S A s.heap s.heap [] := va_S.rf
  have hP : va_P (dC, dI) vwCl [(h0, .inr (4, [.ref qs, .ref qr, .ref qm, .ref qw, .ref qt, .int (zi we)])), (qm, .inr (2, [.ref qk, .int (zi fi), .int (zi ln)])), (qk, aI cI 366 mf), (qr, .inr (0, [.int (zi mc), .ref qe, .int (zi ru)])), (qe, aR cO cap ef)] s.heap := hP
  have hl := lv_entry ([.ref h0, .int (zi nu)]) (n := 2) (Nat.le_of_ble_eq_true rfl)
  rw [lg_entry_eq]
  generalize (lg_sl ([.ref h0, .int (zi nu)]) ++ List.replicate (2 - (lg_sl ([.ref h0, .int (zi nu)])).length) Slot.unset).toArray = ls at hl ⊢
  have hl : lv_has ls 2 [(0, .ref h0), (1, .int (zi nu))] := hl
  have hfl := mkOk_b hp5
  have hwk := wkX4_s we kf af bf zf ru nu
  have hwd := b_X0_weekdayOf nu (by omega)
  have hyr := yr_b nu (by omega)
  have hcv := mk_cov nu (by omega)
  have hrk := hp2
  have hef := hp3
  have hyb := b_X0_yearStart (f_X0_yearOf nu) (by omega)
  have hyl := b_X0_yearLength (f_X0_yearOf nu) (by omega)
  refine lv_aload_n hx hb dX4_isWorking_0 rfl (lv_at hl 0 rfl) ?_
  refine va_get (D := (dC, dI)) (ci := 4) (v := .int (zi we)) (C := RX4) (T := TX4) (N := 6) hx hb hts (by decide +kernel) hown hK hP 0 rfl rfl 5 (by decide) (hts (.fieldLink RX4 154 "CivilDays" "weekendSet" "I") (by decide +kernel)) (fun _ h9 => h9) rfl dX4_isWorking_1 ?_
  refine lv_iload_n hx hb dX4_isWorking_4 rfl (lv_at hl 1 rfl) ?_
  have hh1 := c_X0_weekdayOf l nu (by omega)
  refine vp_callSi (va_Run.run (va_runS (As := [.int (zi nu)]) (rest := [.int (zi we)]) ⟨hx, hb, hml, hown, hts⟩ hh1 (va_cwS 1 hts gX4_isWorking_X0_weekdayOf rfl rfl rfl (by decide +kernel) ⟨Nat.le_of_ble_eq_true rfl, Nat.le_of_ble_eq_true rfl⟩) ⟨fun a U g mk q => q, fun U hU hW => ⟨rfl, trivial⟩⟩ rfl rfl hl.1 rfl (lv_room (Nat.le_of_ble_eq_true rfl)) dX4_isWorking_5 ⟨Nat.zero_le _, Nat.zero_le _⟩)) (fun r1 (hr1 : r1 = zi (f_X0_weekdayOf nu)) => ?_)
  subst hr1
  have hf1 := b_X0_weekdayOf nu (by omega)
  refine zw_iconst hx hb dX4_isWorking_8 ?_
  refine zw_isub hx hb dX4_isWorking_9 ?_
  refine zw_ishr hx hb dX4_isWorking_10 (by omega) (by omega) ?_
  have hsr2 := zsr_b we ((f_X0_weekdayOf nu) - 1) (by omega)
  refine zw_iconst hx hb dX4_isWorking_11 ?_
  refine zw_iand1 hx hb dX4_isWorking_12 (by omega) ?_
  refine zw_iconst hx hb dX4_isWorking_13 ?_
  refine zw_icmp_ne (tgt := 19) hx hb dX4_isWorking_14 (by decide) ⟨by omega, by omega⟩ ⟨by omega, by omega⟩ (fun h3 => ?_) (fun h3 => ?_)
  · skip
    refine lv_aload_n hx hb dX4_isWorking_19 rfl (lv_at hl 0 rfl) ?_
    refine va_get (D := (dC, dI)) (ci := 4) (v := .ref qm) (C := RX4) (T := TX4) (N := 6) hx hb hts (by decide +kernel) hown hK hP 0 rfl rfl 2 (by decide) (hts (.fieldLink RX4 23 "CivilDays" "marked" "LCivilDays$MarkedYear;") (by decide +kernel)) (fun _ h9 => h9) rfl dX4_isWorking_20 ?_
    refine lv_iload_n hx hb dX4_isWorking_23 rfl (lv_at hl 1 rfl) ?_
    have hh4 := c_X2_covers l dC dI cI qm qk fi ln mf nu (by omega) (by omega)
    have hPc := hP.sub (ws' := [(qm, .inr (2, [.ref qk, .int (zi fi), .int (zi ln)])), (qk, aI cI 366 mf)]) [1, 2] rfl
    have hKc : va_K (dC, dI) vwCl [(cI, .int)] s := hK.sub (tys' := [(cI, .int)]) [0] rfl
    refine vp_callSi (va_Run.run (va_runV (As := [.int (zi nu)]) (rest := []) ⟨hx, hb, hml, hown, hts⟩ hh4 (cwV 1 hts gX4_isWorking_X2_covers rfl rfl rfl (by decide +kernel) ⟨Nat.le_of_ble_eq_true rfl, Nat.le_of_ble_eq_true rfl⟩) ⟨zPr.blind _ _ _ _, va_recv hKc hPc (ci := 2) (q0 := 0) rfl rfl, fun U hU hW => ⟨rfl, by rw [hU]; exact hPc, va_K.moved hW.alike hKc⟩⟩ rfl rfl hl.1 rfl (lv_room (Nat.le_of_ble_eq_true rfl)) dX4_isWorking_24 ⟨Nat.le_of_ble_eq_true rfl, Nat.le_of_ble_eq_true rfl⟩)) (fun r4 (hr4 : r4 = zi (cvX2 fi ln nu)) => ?_)
    subst hr4
    have hf4_0 := cvX2_s fi ln nu
    refine zw_if_ne (tgt := 45) hx hb dX4_isWorking_27 (by decide) ⟨by omega, by omega⟩ (fun h5 => ?_) (fun h5 => ?_)
    · skip
      first | have hm := mkOk_at hp5 nu (by omega) (by omega) | have hm := mkX2_in (y := f_X0_yearOf nu) (ru := ru) (nu := nu) (by assumption) (by omega)
      refine lv_aload_n hx hb dX4_isWorking_45 rfl (lv_at hl 0 rfl) ?_
      refine va_get (D := (dC, dI)) (ci := 4) (v := .ref qm) (C := RX4) (T := TX4) (N := 6) hx hb hts (by decide +kernel) hown hK hP 0 rfl rfl 2 (by decide) (hts (.fieldLink RX4 23 "CivilDays" "marked" "LCivilDays$MarkedYear;") (by decide +kernel)) (fun _ h9 => h9) rfl dX4_isWorking_46 ?_
      refine lv_iload_n hx hb dX4_isWorking_49 rfl (lv_at hl 1 rfl) ?_
      have hh6 := c_X2_isMarked l dC dI cI qm qk fi ln mf nu (by omega) (by omega) (by omega) (by omega)
      have hPc := hP.sub (ws' := [(qm, .inr (2, [.ref qk, .int (zi fi), .int (zi ln)])), (qk, aI cI 366 mf)]) [1, 2] rfl
      have hKc : va_K (dC, dI) vwCl [(cI, .int)] s := hK.sub (tys' := [(cI, .int)]) [0] rfl
      refine vp_callSi (va_Run.run (va_runV (As := [.int (zi nu)]) (rest := []) ⟨hx, hb, hml, hown, hts⟩ hh6 (cwV 1 hts gX4_isWorking_X2_isMarked rfl rfl rfl (by decide +kernel) ⟨Nat.le_of_ble_eq_true rfl, Nat.le_of_ble_eq_true rfl⟩) ⟨zPr.blind _ _ _ _, va_recv hKc hPc (ci := 2) (q0 := 0) rfl rfl, fun U hU hW => ⟨rfl, by rw [hU]; exact hPc, va_K.moved hW.alike hKc⟩⟩ rfl rfl hl.1 rfl (lv_room (Nat.le_of_ble_eq_true rfl)) dX4_isWorking_50 ⟨Nat.le_of_ble_eq_true rfl, Nat.le_of_ble_eq_true rfl⟩)) (fun r6 (hr6 : r6 = zi (mf (nu - fi).toNat)) => ?_)
      subst hr6
      refine zw_if_ne (tgt := 60) hx hb dX4_isWorking_53 (by decide) ⟨by omega, by omega⟩ (fun h7 => ?_) (fun h7 => ?_)
      · skip
        refine zw_iconst hx hb dX4_isWorking_60 ?_
        have hP9 := hP.sub (ws' := [(h0, .inr (4, [.ref qs, .ref qr, .ref qm, .ref qw, .ref qt, .int (zi we)])), (qm, .inr (2, [.ref qk, .int (zi fi), .int (zi ln)])), (qk, aI cI 366 mf), (qr, .inr (0, [.int (zi mc), .ref qe, .int (zi ru)])), (qe, aR cO cap ef)]) [0, 1, 2, 3, 4] rfl
        have hD9 := hD.sub (ws' := [(h0, .inr (4, [.ref qs, .ref qr, .ref qm, .ref qw, .ref qt, .int (zi we)])), (qm, .inr (2, [.ref qk, .int (zi fi), .int (zi ln)])), (qk, aI cI 366 mf), (qr, .inr (0, [.int (zi mc), .ref qe, .int (zi ru)])), (qe, aR cO cap ef)]) [0, 1, 2, 3, 4] (by decide) rfl
        have hp9 : mkOk kf af bf zf ru fi ln mf := by
          first | exact hp5 | exact mkOk_new (by assumption) (by omega)
        exact W.zret (v := zi 0) hx hb hr (zi_nb (by omega)) (fun t ht hW => ⟨⟨zi 0, (fi, ln, mf), rfl, ⟨congrArg zi (by omega), hp9⟩, by rw [ht]; exact hP9, va_K.moved hW.alike hK, hD9⟩, hS.F ht⟩) hS.2.2 dX4_isWorking_61
      · skip
        refine zw_iconst hx hb dX4_isWorking_56 ?_
        refine lv_goto (tgt := 61) hx hb dX4_isWorking_57 (by decide) ?_
        have hP9 := hP.sub (ws' := [(h0, .inr (4, [.ref qs, .ref qr, .ref qm, .ref qw, .ref qt, .int (zi we)])), (qm, .inr (2, [.ref qk, .int (zi fi), .int (zi ln)])), (qk, aI cI 366 mf), (qr, .inr (0, [.int (zi mc), .ref qe, .int (zi ru)])), (qe, aR cO cap ef)]) [0, 1, 2, 3, 4] rfl
        have hD9 := hD.sub (ws' := [(h0, .inr (4, [.ref qs, .ref qr, .ref qm, .ref qw, .ref qt, .int (zi we)])), (qm, .inr (2, [.ref qk, .int (zi fi), .int (zi ln)])), (qk, aI cI 366 mf), (qr, .inr (0, [.int (zi mc), .ref qe, .int (zi ru)])), (qe, aR cO cap ef)]) [0, 1, 2, 3, 4] (by decide) rfl
        have hp9 : mkOk kf af bf zf ru fi ln mf := by
          first | exact hp5 | exact mkOk_new (by assumption) (by omega)
        exact W.zret (v := zi 1) hx hb hr (zi_nb (by omega)) (fun t ht hW => ⟨⟨zi 1, (fi, ln, mf), rfl, ⟨congrArg zi (by omega), hp9⟩, by rw [ht]; exact hP9, va_K.moved hW.alike hK, hD9⟩, hS.F ht⟩) hS.2.2 dX4_isWorking_61
    · skip
      refine lv_aload_n hx hb dX4_isWorking_30 rfl (lv_at hl 0 rfl) ?_
      refine va_get (D := (dC, dI)) (ci := 4) (v := .ref qm) (C := RX4) (T := TX4) (N := 6) hx hb hts (by decide +kernel) hown hK hP 0 rfl rfl 2 (by decide) (hts (.fieldLink RX4 23 "CivilDays" "marked" "LCivilDays$MarkedYear;") (by decide +kernel)) (fun _ h9 => h9) rfl dX4_isWorking_31 ?_
      refine lv_iload_n hx hb dX4_isWorking_34 rfl (lv_at hl 1 rfl) ?_
      have hh8 := c_X0_yearOf l nu (by omega)
      refine vp_callSi (va_Run.run (va_runS (As := [.int (zi nu)]) (rest := [.ref qm]) ⟨hx, hb, hml, hown, hts⟩ hh8 (va_cwS 1 hts gX4_isWorking_X0_yearOf rfl rfl rfl (by decide +kernel) ⟨Nat.le_of_ble_eq_true rfl, Nat.le_of_ble_eq_true rfl⟩) ⟨fun a U g mk q => q, fun U hU hW => ⟨rfl, trivial⟩⟩ rfl rfl hl.1 rfl (lv_room (Nat.le_of_ble_eq_true rfl)) dX4_isWorking_35 ⟨Nat.zero_le _, Nat.zero_le _⟩)) (fun r8 (hr8 : r8 = zi (f_X0_yearOf nu)) => ?_)
      subst hr8
      have hf8 := b_X0_yearOf nu (by omega)
      refine lv_aload_n hx hb dX4_isWorking_38 rfl (lv_at hl 0 rfl) ?_
      refine va_get (D := (dC, dI)) (ci := 4) (v := .ref qr) (C := RX4) (T := TX4) (N := 6) hx hb hts (by decide +kernel) hown hK hP 0 rfl rfl 1 (by decide) (hts (.fieldLink RX4 16 "CivilDays" "rules" "Ljava/util/ArrayList;") (by decide +kernel)) (fun _ h9 => h9) rfl dX4_isWorking_39 ?_
      have hh9 := c_X2_mark l dC dI cI cO qm qk fi ln mf qr mc qe ru cap ef rf kf af bf zf (f_X0_yearOf nu) s.heap.size (by omega) (by omega) (by omega) (by exact hp2) (by exact hp3)
      have hPc := hP.sub (ws' := [(qm, .inr (2, [.ref qk, .int (zi fi), .int (zi ln)])), (qk, aI cI 366 mf), (qr, .inr (0, [.int (zi mc), .ref qe, .int (zi ru)])), (qe, aR cO cap ef)]) [1, 2, 3, 4] rfl
      have hKc : va_K (dC, dI) vwCl [(cI, .int), (cO, .object "java/lang/Object")] s := hK
      have hDc := hD.sub (ws' := [(qm, .inr (2, [.ref qk, .int (zi fi), .int (zi ln)])), (qk, aI cI 366 mf), (qr, .inr (0, [.int (zi mc), .ref qe, .int (zi ru)])), (qe, aR cO cap ef)]) [1, 2, 3, 4] (by decide) rfl
      have hFc := va_free (wc := [(qm, .inr (2, [.ref qk, .int (zi fi), .int (zi ln)])), (qk, aI cI 366 mf), (qr, .inr (0, [.int (zi mc), .ref qe, .int (zi ru)])), (qe, aR cO cap ef)]) hD hS hA [1, 2, 3, 4] rfl
      refine va_callv (va_runV (As := [.int (zi (f_X0_yearOf nu)), .ref qr]) (rest := []) ⟨hx, hb, hml, hown, hts⟩ hh9 (cwV 2 hts gX4_isWorking_X2_mark rfl rfl rfl (by decide +kernel) ⟨Nat.le_of_ble_eq_true rfl, Nat.le_of_ble_eq_true rfl⟩) ⟨zPwF.blind _ _ _ _ _ zRu_ok, va_recv hKc hPc (ci := 2) (q0 := 0) rfl rfl, fun U hU hW => ⟨rfl, by rw [hU], by rw [hU]; exact hPc, va_K.moved hW.alike hKc, hDc.weaken (fun _ _ _ _ => trivial), zF.call zRu_ok hG hS hFc hU hW⟩⟩ rfl rfl hl.1 rfl (lv_room (Nat.le_of_ble_eq_true rfl)) dX4_isWorking_42 ⟨Nat.le_of_ble_eq_true rfl, Nat.le_of_ble_eq_true rfl⟩) hS (fun q _ h => hFc q h) hFc (fun u t H1 locs ht hvm hw hB hz1 hk1 hS => ?_)
      generalize u = mg_10 at hw hB
      have hw9 := hw
      replace hw9 : mkX2 kf af bf zf (f_X0_yearOf nu) (f_X0_yearStart (f_X0_yearOf nu)) (f_X0_yearLength (f_X0_yearOf nu)) ru.toNat mg_10 := hw9
      obtain ⟨hP1, hK1, hD1⟩ := hB
      rw [ht] at hP1
      replace hP1 : va_P (dC, dI) vwCl [(qm, .inr (2, [.ref qk, .int (zi (f_X0_yearStart (f_X0_yearOf nu))), .int (zi (f_X0_yearLength (f_X0_yearOf nu)))])), (qk, aI cI 366 mg_10), (qr, .inr (0, [.int (zi mc), .ref qe, .int (zi ru)])), (qe, aR cO cap ef)] H1 := hP1
      replace hD1 : va_D _ [(qm, .inr (2, [.ref qk, .int (zi (f_X0_yearStart (f_X0_yearOf nu))), .int (zi (f_X0_yearLength (f_X0_yearOf nu)))])), (qk, aI cI 366 mg_10), (qr, .inr (0, [.int (zi mc), .ref qe, .int (zi ru)])), (qe, aR cO cap ef)] := hD1
      obtain ⟨hP, hD⟩ := va_join (wr := [(h0, .inr (4, [.ref qs, .ref qr, .ref qm, .ref qw, .ref qt, .int (zi we)]))]) (w1 := [(qm, .inr (2, [.ref qk, .int (zi (f_X0_yearStart (f_X0_yearOf nu))), .int (zi (f_X0_yearLength (f_X0_yearOf nu)))])), (qk, aI cI 366 mg_10), (qr, .inr (0, [.int (zi mc), .ref qe, .int (zi ru)])), (qe, aR cO cap ef)]) hP hD [1, 2, 3, 4] [0] rfl rfl (by decide) (by decide) hk1 hFc hP1 hD1
      generalize H1 = H at hP hS ⊢
      have hP : va_P (dC, dI) vwCl [(h0, .inr (4, [.ref qs, .ref qr, .ref qm, .ref qw, .ref qt, .int (zi we)])), (qm, .inr (2, [.ref qk, .int (zi (f_X0_yearStart (f_X0_yearOf nu))), .int (zi (f_X0_yearLength (f_X0_yearOf nu)))])), (qk, aI cI 366 mg_10), (qr, .inr (0, [.int (zi mc), .ref qe, .int (zi ru)])), (qe, aR cO cap ef)] H := hP
      have hD : va_D A [(h0, .inr (4, [.ref qs, .ref qr, .ref qm, .ref qw, .ref qt, .int (zi we)])), (qm, .inr (2, [.ref qk, .int (zi (f_X0_yearStart (f_X0_yearOf nu))), .int (zi (f_X0_yearLength (f_X0_yearOf nu)))])), (qk, aI cI 366 mg_10), (qr, .inr (0, [.int (zi mc), .ref qe, .int (zi ru)])), (qe, aR cO cap ef)] := hD
      first | have hm := mkOk_at hp5 nu (by omega) (by omega) | have hm := mkX2_in (y := f_X0_yearOf nu) (ru := ru) (nu := nu) (by assumption) (by omega)
      refine lv_aload_n hx hb dX4_isWorking_45 rfl (lv_at hl 0 rfl) ?_
      refine va_get (D := (dC, dI)) (ci := 4) (v := .ref qm) (C := RX4) (T := TX4) (N := 6) hx hb hts (by decide +kernel) hown hK hP 0 rfl rfl 2 (by decide) (hts (.fieldLink RX4 23 "CivilDays" "marked" "LCivilDays$MarkedYear;") (by decide +kernel)) (fun _ h9 => h9) rfl dX4_isWorking_46 ?_
      refine lv_iload_n hx hb dX4_isWorking_49 rfl (lv_at hl 1 rfl) ?_
      have hh11 := c_X2_isMarked l dC dI cI qm qk (f_X0_yearStart (f_X0_yearOf nu)) (f_X0_yearLength (f_X0_yearOf nu)) mg_10 nu (by omega) (by omega) (by omega) (by omega)
      have hPc := hP.sub (ws' := [(qm, .inr (2, [.ref qk, .int (zi (f_X0_yearStart (f_X0_yearOf nu))), .int (zi (f_X0_yearLength (f_X0_yearOf nu)))])), (qk, aI cI 366 mg_10)]) [1, 2] rfl
      have hKc : va_K (dC, dI) vwCl [(cI, .int)] s := hK.sub (tys' := [(cI, .int)]) [0] rfl
      refine vp_callSi (va_Run.run (va_runV (As := [.int (zi nu)]) (rest := []) ⟨hx, hb, hml, hown, hts⟩ hh11 (cwV 1 hts gX4_isWorking_X2_isMarked rfl rfl rfl (by decide +kernel) ⟨Nat.le_of_ble_eq_true rfl, Nat.le_of_ble_eq_true rfl⟩) ⟨zPr.blind _ _ _ _, va_recv hKc hPc (ci := 2) (q0 := 0) rfl rfl, fun U hU hW => ⟨rfl, by rw [hU]; exact hPc, va_K.moved hW.alike hKc⟩⟩ rfl rfl hl.1 rfl (lv_room (Nat.le_of_ble_eq_true rfl)) dX4_isWorking_50 ⟨Nat.le_of_ble_eq_true rfl, Nat.le_of_ble_eq_true rfl⟩)) (fun r11 (hr11 : r11 = zi (mg_10 (nu - (f_X0_yearStart (f_X0_yearOf nu))).toNat)) => ?_)
      subst hr11
      refine zw_if_ne (tgt := 60) hx hb dX4_isWorking_53 (by decide) ⟨by omega, by omega⟩ (fun h12 => ?_) (fun h12 => ?_)
      · skip
        refine zw_iconst hx hb dX4_isWorking_60 ?_
        have hP9 := hP.sub (ws' := [(h0, .inr (4, [.ref qs, .ref qr, .ref qm, .ref qw, .ref qt, .int (zi we)])), (qm, .inr (2, [.ref qk, .int (zi (f_X0_yearStart (f_X0_yearOf nu))), .int (zi (f_X0_yearLength (f_X0_yearOf nu)))])), (qk, aI cI 366 mg_10), (qr, .inr (0, [.int (zi mc), .ref qe, .int (zi ru)])), (qe, aR cO cap ef)]) [0, 1, 2, 3, 4] rfl
        have hD9 := hD.sub (ws' := [(h0, .inr (4, [.ref qs, .ref qr, .ref qm, .ref qw, .ref qt, .int (zi we)])), (qm, .inr (2, [.ref qk, .int (zi (f_X0_yearStart (f_X0_yearOf nu))), .int (zi (f_X0_yearLength (f_X0_yearOf nu)))])), (qk, aI cI 366 mg_10), (qr, .inr (0, [.int (zi mc), .ref qe, .int (zi ru)])), (qe, aR cO cap ef)]) [0, 1, 2, 3, 4] (by decide) rfl
        have hp9 : mkOk kf af bf zf ru (f_X0_yearStart (f_X0_yearOf nu)) (f_X0_yearLength (f_X0_yearOf nu)) mg_10 := by
          first | exact hp5 | exact mkOk_new (by assumption) (by omega)
        exact W.zret (v := zi 0) hx hb hr (zi_nb (by omega)) (fun t ht hW => ⟨⟨zi 0, ((f_X0_yearStart (f_X0_yearOf nu)), (f_X0_yearLength (f_X0_yearOf nu)), mg_10), rfl, ⟨congrArg zi (by omega), hp9⟩, by rw [ht]; exact hP9, va_K.moved hW.alike hK, hD9⟩, hS.F ht⟩) hS.2.2 dX4_isWorking_61
      · skip
        refine zw_iconst hx hb dX4_isWorking_56 ?_
        refine lv_goto (tgt := 61) hx hb dX4_isWorking_57 (by decide) ?_
        have hP9 := hP.sub (ws' := [(h0, .inr (4, [.ref qs, .ref qr, .ref qm, .ref qw, .ref qt, .int (zi we)])), (qm, .inr (2, [.ref qk, .int (zi (f_X0_yearStart (f_X0_yearOf nu))), .int (zi (f_X0_yearLength (f_X0_yearOf nu)))])), (qk, aI cI 366 mg_10), (qr, .inr (0, [.int (zi mc), .ref qe, .int (zi ru)])), (qe, aR cO cap ef)]) [0, 1, 2, 3, 4] rfl
        have hD9 := hD.sub (ws' := [(h0, .inr (4, [.ref qs, .ref qr, .ref qm, .ref qw, .ref qt, .int (zi we)])), (qm, .inr (2, [.ref qk, .int (zi (f_X0_yearStart (f_X0_yearOf nu))), .int (zi (f_X0_yearLength (f_X0_yearOf nu)))])), (qk, aI cI 366 mg_10), (qr, .inr (0, [.int (zi mc), .ref qe, .int (zi ru)])), (qe, aR cO cap ef)]) [0, 1, 2, 3, 4] (by decide) rfl
        have hp9 : mkOk kf af bf zf ru (f_X0_yearStart (f_X0_yearOf nu)) (f_X0_yearLength (f_X0_yearOf nu)) mg_10 := by
          first | exact hp5 | exact mkOk_new (by assumption) (by omega)
        exact W.zret (v := zi 1) hx hb hr (zi_nb (by omega)) (fun t ht hW => ⟨⟨zi 1, ((f_X0_yearStart (f_X0_yearOf nu)), (f_X0_yearLength (f_X0_yearOf nu)), mg_10), rfl, ⟨congrArg zi (by omega), hp9⟩, by rw [ht]; exact hP9, va_K.moved hW.alike hK, hD9⟩, hS.F ht⟩) hS.2.2 dX4_isWorking_61
  · skip
    refine zw_iconst hx hb dX4_isWorking_17 ?_
    have hP9 := hP.sub (ws' := [(h0, .inr (4, [.ref qs, .ref qr, .ref qm, .ref qw, .ref qt, .int (zi we)])), (qm, .inr (2, [.ref qk, .int (zi fi), .int (zi ln)])), (qk, aI cI 366 mf), (qr, .inr (0, [.int (zi mc), .ref qe, .int (zi ru)])), (qe, aR cO cap ef)]) [0, 1, 2, 3, 4] rfl
    have hD9 := hD.sub (ws' := [(h0, .inr (4, [.ref qs, .ref qr, .ref qm, .ref qw, .ref qt, .int (zi we)])), (qm, .inr (2, [.ref qk, .int (zi fi), .int (zi ln)])), (qk, aI cI 366 mf), (qr, .inr (0, [.int (zi mc), .ref qe, .int (zi ru)])), (qe, aR cO cap ef)]) [0, 1, 2, 3, 4] (by decide) rfl
    have hp9 : mkOk kf af bf zf ru fi ln mf := by
      first | exact hp5 | exact mkOk_new (by assumption) (by omega)
    exact W.zret (v := zi 0) hx hb hr (zi_nb (by omega)) (fun t ht hW => ⟨⟨zi 0, (fi, ln, mf), rfl, ⟨congrArg zi (by omega), hp9⟩, by rw [ht]; exact hP9, va_K.moved hW.alike hK, hD9⟩, hS.F ht⟩) hS.2.2 dX4_isWorking_18

set_option maxHeartbeats 4000000 in
set_option maxRecDepth 100000 in
theorem t_X4_isHoliday_1 (l : Launch) (hst : l.stackTraces = false) (h0 : Nat) (sl : Int) (hp0 : -2147483648 ≤ sl ∧ sl ≤ 2147483647) (hp1 : sl < 0 ∨ 9 < sl) : vx_Met l yX4_isHoliday wsX4_isHoliday ({ frames := 7, cells := 1, slots := 6, locals := 110 }) (zP [.ref h0, .int (zi sl)]) zNo (zX "java/lang/IndexOutOfBoundsException") 1 6 zN := by
  refine vx_ofW (cc := cX4_isHoliday) (maxL := 4) (ret := (some .int)) (by decide) rfl ?_
  intro p e s m args below meth c s₁ B hml hno hv
  obtain ⟨rfl, hE⟩ := hv
  have hx := B.exec
  have hb := B.bytes
  have hr := B.returns
  have hts := atoms_spec (ws := wsX4_isHoliday) B.pre
  have hown : s.vm.findClass RX4 = some m.cls := findClass_of_methodNamed B.named
  have hlocks := B.notSynchronized
  have hl := lv_entry ([.ref h0, .int (zi sl)]) (n := 4) (Nat.le_of_ble_eq_true rfl)
  rw [lg_entry_eq]
  generalize (lg_sl ([.ref h0, .int (zi sl)]) ++ List.replicate (4 - (lg_sl ([.ref h0, .int (zi sl)])).length) Slot.unset).toArray = ls at hl ⊢
  have hl : lv_has ls 4 [(0, .ref h0), (1, .int (zi sl))] := hl
  refine lv_iload_n hx hb dX4_isHoliday_0 rfl (lv_at hl 1 rfl) ?_
  have hh1 := t_X4_needSlot l hst sl (by omega) (by omega)
  exact zt_pass (vx_runS (As := [.int (zi sl)]) (rest := []) ⟨hx, hb, hml, hown, hts⟩ hh1 (va_cwS 1 hts gX4_isHoliday_X4_needSlot rfl rfl rfl (by decide +kernel) ⟨Nat.le_of_ble_eq_true rfl, Nat.le_of_ble_eq_true rfl⟩) ⟨zP.blind _, fun U hU hW => ⟨rfl, hE.call va_S.rf (fun q h => by rw [hU] at h; exact h) hU hW⟩⟩ rfl rfl hl.1 rfl (lv_room (Nat.le_of_ble_eq_true rfl)) dX4_isHoliday_1 ⟨Nat.le_of_ble_eq_true rfl, Nat.le_of_ble_eq_true rfl⟩) hno hlocks

set_option maxHeartbeats 4000000 in
set_option maxRecDepth 100000 in
theorem t_X4_isHoliday_2 (l : Launch) (hst : l.stackTraces = false) (dC : Nat → ClassId) (dI : Nat → Nat → Nat) (cI : ClassId) (h0 : Nat) (qs : Nat) (qr : Nat) (qm : Nat) (qw : Nat) (qt : Nat) (we : Int) (sf : Nat → Int) (sl : Int) (hp0 : 0 ≤ sl ∧ sl ≤ 9) (hp1 : (sf sl.toNat) = -1) : vx_Met l yX4_isHoliday wsX4_isHoliday ({ frames := 7, cells := 1, slots := 6, locals := 112 }) (zPt (dC, dI) [(cI, .int)] [.ref h0, .int (zi sl)] [(h0, .inr (4, [.ref qs, .ref qr, .ref qm, .ref qw, .ref qt, .int (zi we)])), (qs, aI cI 10 sf)]) zNo (zX "java/lang/IllegalStateException") 1 6 zN := by
  refine vx_ofW (cc := cX4_isHoliday) (maxL := 4) (ret := (some .int)) (by decide) rfl ?_
  intro p e s m args below meth c s₁ B hml hno hv
  obtain ⟨rfl, hE, hP, hK⟩ := hv
  have hx := B.exec
  have hb := B.bytes
  have hr := B.returns
  have hts := atoms_spec (ws := wsX4_isHoliday) B.pre
  have hown : s.vm.findClass RX4 = some m.cls := findClass_of_methodNamed B.named
  have hlocks := B.notSynchronized
  have hl := lv_entry ([.ref h0, .int (zi sl)]) (n := 4) (Nat.le_of_ble_eq_true rfl)
  rw [lg_entry_eq]
  generalize (lg_sl ([.ref h0, .int (zi sl)]) ++ List.replicate (4 - (lg_sl ([.ref h0, .int (zi sl)])).length) Slot.unset).toArray = ls at hl ⊢
  have hl : lv_has ls 4 [(0, .ref h0), (1, .int (zi sl))] := hl
  refine lv_iload_n hx hb dX4_isHoliday_0 rfl (lv_at hl 1 rfl) ?_
  have hh1 := c_X4_needSlot l sl (by omega)
  refine va_csv (va_Run.run (va_runS (As := [.int (zi sl)]) (rest := []) ⟨hx, hb, hml, hown, hts⟩ hh1 (va_cwS 1 hts gX4_isHoliday_X4_needSlot rfl rfl rfl (by decide +kernel) ⟨Nat.le_of_ble_eq_true rfl, Nat.le_of_ble_eq_true rfl⟩) ⟨fun a U g mk q => q, fun U hU hW => ⟨rfl, trivial⟩⟩ rfl rfl hl.1 rfl (lv_room (Nat.le_of_ble_eq_true rfl)) dX4_isHoliday_1 ⟨Nat.le_of_ble_eq_true rfl, Nat.le_of_ble_eq_true rfl⟩)) (fun _ => ?_)
  refine lv_aload_n hx hb dX4_isHoliday_4 rfl (lv_at hl 0 rfl) ?_
  refine lv_iload_n hx hb dX4_isHoliday_5 rfl (lv_at hl 1 rfl) ?_
  have hh2 := t_X4_dateIn l hst dC dI cI h0 qs qr qm qw qt we sf sl (by omega) (by omega)
  have hPc := hP.sub (ws' := [(h0, .inr (4, [.ref qs, .ref qr, .ref qm, .ref qw, .ref qt, .int (zi we)])), (qs, aI cI 10 sf)]) [0, 1] rfl
  have hKc : va_K (dC, dI) vwCl [(cI, .int)] s := hK
  exact zt_pass (vx_runV (As := [.int (zi sl)]) (rest := []) ⟨hx, hb, hml, hown, hts⟩ hh2 (cwV 1 hts gX4_isHoliday_X4_dateIn rfl rfl rfl (by decide +kernel) ⟨Nat.le_of_ble_eq_true rfl, Nat.le_of_ble_eq_true rfl⟩) ⟨zPt.blind _ _ _ _, va_recv hKc hPc (ci := 4) (q0 := 0) rfl rfl, fun U hU hW => ⟨rfl, hE.call va_S.rf (fun q h => by rw [hU] at h; exact h) hU hW, by rw [hU]; exact hPc, va_K.moved hW.alike hKc⟩⟩ rfl rfl hl.1 rfl (lv_room (Nat.le_of_ble_eq_true rfl)) dX4_isHoliday_6 ⟨Nat.le_of_ble_eq_true rfl, Nat.le_of_ble_eq_true rfl⟩) hno hlocks

set_option maxHeartbeats 4000000 in
set_option maxRecDepth 100000 in
theorem c_X4_isHoliday (l : Launch)  (dC : Nat → ClassId) (dI : Nat → Nat → Nat) (cI : ClassId) (cO : ClassId) (h0 : Nat) (qs : Nat) (qr : Nat) (qm : Nat) (qw : Nat) (qt : Nat) (we : Int) (sf : Nat → Int) (mc : Int) (qe : Nat) (ru : Int) (cap : Nat) (ef : Nat → Option Nat) (rf : Nat → Nat) (kf : Nat → Int) (af : Nat → Int) (bf : Nat → Int) (zf : Nat → Int) (sl : Int) (hp0 : 0 ≤ sl ∧ sl ≤ 9) (hp1 : 0 ≤ (sf sl.toNat) ∧ (sf sl.toNat) ≤ 3652058) (hp2 : 0 ≤ ru ∧ ru ≤ 12 ∧ ru ≤ (cap : Int) ∧ (cap : Int) ≤ 1000) (hp3 : ∀ j : Nat, (j : Int) < ru → (0 ≤ (kf j) ∧ (kf j) ≤ 3) ∧ ((kf j) = 1 ∧ -100 ≤ (af j) ∧ (af j) ≤ 100 ∨ (kf j) ≠ 1 ∧ 1 ≤ (af j) ∧ (af j) ≤ 12) ∧ ((kf j) = 1 ∨ (kf j) = 2 ∧ 1 ≤ (bf j) ∧ (bf j) ≤ 7 ∨ (kf j) ≠ 2 ∧ 1 ≤ (bf j) ∧ (bf j) ≤ 31) ∧ ((kf j) ≠ 2 ∨ (zf j) = -1 ∨ 1 ≤ (zf j) ∧ (zf j) ≤ 4)) (hp4 : ∀ j : Nat, (j : Int) < ru → ef j = some (rf j)) : Met l yX4_isHoliday wsX4_isHoliday ({ frames := 5, cells := 0, slots := 0, locals := 112 }) (zPrF (dC, dI) [(cI, .int), (cO, .object "java/lang/Object")] [.ref h0, .int (zi sl)] [(h0, .inr (4, [.ref qs, .ref qr, .ref qm, .ref qw, .ref qt, .int (zi we)])), (qs, aI cI 10 sf), (qr, .inr (0, [.int (zi mc), .ref qe, .int (zi ru)])), (qe, aR cO cap ef)] (zRu (dC, dI) ru rf kf af bf zf)) (vp_Si (fun r => r = zi (zfr (rhX3 kf af bf zf (f_X0_yearOf (sf sl.toNat)) (sf sl.toNat)) ru.toNat 0))) 0 0 zN := by
  refine Met.ofW (cc := cX4_isHoliday) (maxL := 4) (ret := (some .int)) (by decide) rfl ?_
  intro p e s m args below meth c s₁ B hml hv
  obtain ⟨rfl, hP, hK, hG⟩ := hv
  have hx := B.exec
  have hb := B.bytes
  have hr := B.returns
  have hts := atoms_spec (ws := wsX4_isHoliday) B.pre
  have hown : s.vm.findClass RX4 = some m.cls := findClass_of_methodNamed B.named
  have hlocks := B.notSynchronized
  have loop12 : ∀ (fu : Nat) (kk : Int), (0 ≤ kk ∧ kk ≤ ru) → (zfr (rhX3 kf af bf zf (f_X0_yearOf (sf sl.toNat)) (sf sl.toNat)) (ru - kk).toNat kk.toNat = zfr (rhX3 kf af bf zf (f_X0_yearOf (sf sl.toNat)) (sf sl.toNat)) ru.toNat 0) → (ru - kk < fu) → ∀ (ls : Array Slot), lv_has ls 4 [(3, .int (zi kk)), (0, .ref h0), (1, .int (zi sl)), (2, .int (zi (sf sl.toNat)))] → W p l e (headSpec wsX4_isHoliday ({ frames := 5, cells := 0, slots := 0, locals := 112 })).room s m ([.ref h0, .int (zi sl)] : List Value).toArray below meth c s.heap [] 0 0 (MQ below (vp_Si (fun r => r = zi (zfr (rhX3 kf af bf zf (f_X0_yearOf (sf sl.toNat)) (sf sl.toNat)) ru.toNat 0))) ([.ref h0, .int (zi sl)] : List Value).toArray s 0 0 zN) (F0 m 12 ls []) := by
    intro fu
    induction fu with
    | zero =>
      intro kk hi0 hi1 hfu ls hl
      exact absurd hfu (by omega)
    | succ fu ih =>
      intro kk hi0 hi1 hfu ls hl
      have hef := hp4
      refine lv_iload_n hx hb dX4_isHoliday_12 rfl (lv_at hl 0 rfl) ?_
      refine lv_aload_n hx hb dX4_isHoliday_13 rfl (lv_at hl 1 rfl) ?_
      refine va_get (D := (dC, dI)) (ci := 4) (v := .ref qr) (C := RX4) (T := TX4) (N := 6) hx hb hts (by decide +kernel) hown hK hP 0 rfl rfl 1 (by decide) (hts (.fieldLink RX4 16 "CivilDays" "rules" "Ljava/util/ArrayList;") (by decide +kernel)) (fun _ h9 => h9) rfl dX4_isHoliday_14 ?_
      have hh1 := c_Jx_size l dC dI qr mc qe ru 
      have hPc := hP.sub (ws' := [(qr, .inr (0, [.int (zi mc), .ref qe, .int (zi ru)]))]) [2] rfl
      have hKc : va_K (dC, dI) vwCl [] s := hK.sub (tys' := []) [] rfl
      refine vp_callSi (va_Run.run (va_runV (As := []) (rest := [.int (zi kk)]) ⟨hx, hb, hml, hown, hts⟩ hh1 (cwV 0 hts gX4_isHoliday_Jx4a65c_size_8abf5 rfl rfl rfl (by decide +kernel) ⟨Nat.le_of_ble_eq_true rfl, Nat.le_of_ble_eq_true rfl⟩) ⟨zPr.blind _ _ _ _, va_recv hKc hPc (ci := 0) (q0 := 0) rfl rfl, fun U hU hW => ⟨rfl, by rw [hU]; exact hPc, va_K.moved hW.alike hKc⟩⟩ rfl rfl hl.1 rfl (lv_room (Nat.le_of_ble_eq_true rfl)) dX4_isHoliday_17 ⟨Nat.le_of_ble_eq_true rfl, Nat.le_of_ble_eq_true rfl⟩)) (fun r1 (hr1 : r1 = zi ru) => ?_)
      subst hr1
      refine zw_icmp_ge (tgt := 49) hx hb dX4_isHoliday_20 (by decide) ⟨by omega, by omega⟩ ⟨by omega, by omega⟩ (fun h2 => ?_) (fun h2 => ?_)
      · skip
        have hen := zfr_end (rhX3 kf af bf zf (f_X0_yearOf (sf sl.toNat)) (sf sl.toNat)) ru kk (by omega)
        refine zw_iconst hx hb dX4_isHoliday_49 ?_
        exact W.iret (v := zi (-1)) hx hb hr (fun t ht hW => ⟨zi (-1), rfl, congrArg zi (by omega), ht⟩) (fun q h => by cases h) dX4_isHoliday_50
      · skip
        have hst := zfr_step (rhX3 kf af bf zf (f_X0_yearOf (sf sl.toNat)) (sf sl.toNat)) ru kk (by omega)
        have hrk := hp3 kk.toNat (by omega)
        have hge := gvX3_e kf af bf zf (sf sl.toNat) kk.toNat
        refine lv_aload_n hx hb dX4_isHoliday_23 rfl (lv_at hl 1 rfl) ?_
        refine va_get (D := (dC, dI)) (ci := 4) (v := .ref qr) (C := RX4) (T := TX4) (N := 6) hx hb hts (by decide +kernel) hown hK hP 0 rfl rfl 1 (by decide) (hts (.fieldLink RX4 16 "CivilDays" "rules" "Ljava/util/ArrayList;") (by decide +kernel)) (fun _ h9 => h9) rfl dX4_isHoliday_24 ?_
        refine lv_iload_n hx hb dX4_isHoliday_27 rfl (lv_at hl 0 rfl) ?_
        have hh3 := c_Jx_get l dC dI cO qr mc qe ru cap ef kk (by omega)
        have hPc := hP.sub (ws' := [(qr, .inr (0, [.int (zi mc), .ref qe, .int (zi ru)])), (qe, aR cO cap ef)]) [2, 3] rfl
        have hKc : va_K (dC, dI) vwCl [(cO, .object "java/lang/Object")] s := hK.sub (tys' := [(cO, .object "java/lang/Object")]) [1] rfl
        refine va_csq (va_Run.run (va_runV (As := [.int (zi kk)]) (rest := []) ⟨hx, hb, hml, hown, hts⟩ hh3 (cwV 1 hts gX4_isHoliday_Jx4a65c_get_915e3 rfl rfl rfl (by decide +kernel) ⟨Nat.le_of_ble_eq_true rfl, Nat.le_of_ble_eq_true rfl⟩) ⟨zPr.blind _ _ _ _, va_recv hKc hPc (ci := 0) (q0 := 0) rfl rfl, fun U hU hW => ⟨rfl, by rw [hU]; exact hPc, va_K.moved hW.alike hKc⟩⟩ rfl rfl hl.1 rfl (lv_room (Nat.le_of_ble_eq_true rfl)) dX4_isHoliday_28 ⟨Nat.le_of_ble_eq_true rfl, Nat.le_of_ble_eq_true rfl⟩)) (fun r3 (hr3 : r3 = (ef kk.toNat)) => ?_)
        subst hr3
        refine zw_castR (a := (rf kk.toNat)) (nm := RX3) hx hb hown (hts (.classLink RX4 125 RX3) (by decide +kernel)) (hef kk.toNat (by omega)) (va_recv hK (hG kk.toNat (by omega)).2 (ci := 3) (q0 := 0) rfl rfl) dX4_isHoliday_31 ?_
        refine lv_iload_n hx hb dX4_isHoliday_34 rfl (lv_at hl 3 rfl) ?_
        have hh4 := c_X3_givesDay l dC dI (rf kk.toNat) (kf kk.toNat) (af kk.toNat) (bf kk.toNat) (zf kk.toNat) (sf sl.toNat) (by omega) (by omega)
        have hPc : va_P (dC, dI) vwCl [((rf kk.toNat), .inr (3, [.int (zi (kf kk.toNat)), .int (zi (af kk.toNat)), .int (zi (bf kk.toNat)), .int (zi (zf kk.toNat))]))] s.heap := (hG kk.toNat (by omega)).2
        have hKc : va_K (dC, dI) vwCl [] s := hK.sub (tys' := []) [] rfl
        refine vp_callSi (va_Run.run (va_runV (As := [.int (zi (sf sl.toNat))]) (rest := []) ⟨hx, hb, hml, hown, hts⟩ hh4 (cwV 1 hts gX4_isHoliday_X3_givesDay rfl rfl rfl (by decide +kernel) ⟨Nat.le_of_ble_eq_true rfl, Nat.le_of_ble_eq_true rfl⟩) ⟨zPr.blind _ _ _ _, va_recv hKc hPc (ci := 3) (q0 := 0) rfl rfl, fun U hU hW => ⟨rfl, by rw [hU]; exact hPc, va_K.moved hW.alike hKc⟩⟩ rfl rfl hl.1 rfl (lv_room (Nat.le_of_ble_eq_true rfl)) dX4_isHoliday_35 ⟨Nat.le_of_ble_eq_true rfl, Nat.le_of_ble_eq_true rfl⟩)) (fun r4 (hr4 : r4 = zi (gvX3 (kf kk.toNat) (af kk.toNat) (bf kk.toNat) (zf kk.toNat) (sf sl.toNat))) => ?_)
        subst hr4
        have hf4_0 := gvX3_s (kf kk.toNat) (af kk.toNat) (bf kk.toNat) (zf kk.toNat) (sf sl.toNat)
        refine zw_if_eq (tgt := 43) hx hb dX4_isHoliday_38 (by decide) ⟨by omega, by omega⟩ (fun h5 => ?_) (fun h5 => ?_)
        · skip
          obtain ⟨x6, ex6⟩ : ∃ z : Int, z = kk + 1 := ⟨_, rfl⟩
          refine zw_iinc (lv' := [(3, .int (zi x6)), (0, .ref h0), (1, .int (zi sl)), (2, .int (zi (sf sl.toNat)))]) (k := 0) hx hb ex6 dX4_isHoliday_43 hl rfl (by decide) rfl (fun ls hl => ?_)
          refine lv_goto (tgt := 12) hx hb dX4_isHoliday_46 (by decide) ?_
          have hef := hp4
          subst ex6
          exact ih (kk + 1) (by omega) (by first | omega | simp) (by omega) ls (lv_sub hl [0, 1, 2, 3] rfl)
        · skip
          refine lv_iload_n hx hb dX4_isHoliday_41 rfl (lv_at hl 0 rfl) ?_
          exact W.iret (v := zi kk) hx hb hr (fun t ht hW => ⟨zi kk, rfl, congrArg zi (by omega), ht⟩) (fun q h => by cases h) dX4_isHoliday_42
  have hl := lv_entry ([.ref h0, .int (zi sl)]) (n := 4) (Nat.le_of_ble_eq_true rfl)
  rw [lg_entry_eq]
  generalize (lg_sl ([.ref h0, .int (zi sl)]) ++ List.replicate (4 - (lg_sl ([.ref h0, .int (zi sl)])).length) Slot.unset).toArray = ls at hl ⊢
  have hl : lv_has ls 4 [(0, .ref h0), (1, .int (zi sl))] := hl
  refine lv_iload_n hx hb dX4_isHoliday_0 rfl (lv_at hl 1 rfl) ?_
  have hh7 := c_X4_needSlot l sl (by omega)
  refine va_csv (va_Run.run (va_runS (As := [.int (zi sl)]) (rest := []) ⟨hx, hb, hml, hown, hts⟩ hh7 (va_cwS 1 hts gX4_isHoliday_X4_needSlot rfl rfl rfl (by decide +kernel) ⟨Nat.le_of_ble_eq_true rfl, Nat.le_of_ble_eq_true rfl⟩) ⟨fun a U g mk q => q, fun U hU hW => ⟨rfl, trivial⟩⟩ rfl rfl hl.1 rfl (lv_room (Nat.le_of_ble_eq_true rfl)) dX4_isHoliday_1 ⟨Nat.le_of_ble_eq_true rfl, Nat.le_of_ble_eq_true rfl⟩)) (fun _ => ?_)
  refine lv_aload_n hx hb dX4_isHoliday_4 rfl (lv_at hl 0 rfl) ?_
  refine lv_iload_n hx hb dX4_isHoliday_5 rfl (lv_at hl 1 rfl) ?_
  have hh8 := c_X4_dateIn l dC dI cI h0 qs qr qm qw qt we sf sl (by omega) (by omega)
  have hPc := hP.sub (ws' := [(h0, .inr (4, [.ref qs, .ref qr, .ref qm, .ref qw, .ref qt, .int (zi we)])), (qs, aI cI 10 sf)]) [0, 1] rfl
  have hKc : va_K (dC, dI) vwCl [(cI, .int)] s := hK.sub (tys' := [(cI, .int)]) [0] rfl
  refine vp_callSi (va_Run.run (va_runV (As := [.int (zi sl)]) (rest := []) ⟨hx, hb, hml, hown, hts⟩ hh8 (cwV 1 hts gX4_isHoliday_X4_dateIn rfl rfl rfl (by decide +kernel) ⟨Nat.le_of_ble_eq_true rfl, Nat.le_of_ble_eq_true rfl⟩) ⟨zPr.blind _ _ _ _, va_recv hKc hPc (ci := 4) (q0 := 0) rfl rfl, fun U hU hW => ⟨rfl, by rw [hU]; exact hPc, va_K.moved hW.alike hKc⟩⟩ rfl rfl hl.1 rfl (lv_room (Nat.le_of_ble_eq_true rfl)) dX4_isHoliday_6 ⟨Nat.le_of_ble_eq_true rfl, Nat.le_of_ble_eq_true rfl⟩)) (fun r8 (hr8 : r8 = zi (sf sl.toNat)) => ?_)
  subst hr8
  refine zw_top (fun x9 ex9 => ?_)
  refine lv_istore_n (lv' := [(2, .int (zi x9)), (0, .ref h0), (1, .int (zi sl))]) hx hb dX4_isHoliday_9 rfl hl (by decide) rfl (fun ls hl => ?_)
  refine zw_iconst hx hb dX4_isHoliday_10 ?_
  refine lv_istore_n (lv' := [(3, .int (zi 0)), (2, .int (zi x9)), (0, .ref h0), (1, .int (zi sl))]) hx hb dX4_isHoliday_11 rfl hl (by decide) rfl (fun ls hl => ?_)
  have hef := hp4
  subst ex9
  exact loop12 (13) 0 (by omega) (by first | omega | simp) (by omega) ls (lv_sub hl [0, 2, 3, 1] rfl)

set_option maxHeartbeats 4000000 in
set_option maxRecDepth 100000 in
theorem t_X4_work_1 (l : Launch) (hst : l.stackTraces = false) (h0 : Nat) (sl : Int) (ot : Int) (hp0 : -2147483648 ≤ sl ∧ sl ≤ 2147483647) (hp1 : sl < 0 ∨ 9 < sl) : vx_Met l yX4_work wsX4_work ({ frames := 7, cells := 1, slots := 6, locals := 110 }) (zP [.ref h0, .int (zi sl), .int (zi ot)]) zNo (zX "java/lang/IndexOutOfBoundsException") 1 6 zN := by
  refine vx_ofW (cc := cX4_work) (maxL := 8) (ret := (some .int)) (by decide) rfl ?_
  intro p e s m args below meth c s₁ B hml hno hv
  obtain ⟨rfl, hE⟩ := hv
  have hx := B.exec
  have hb := B.bytes
  have hr := B.returns
  have hts := atoms_spec (ws := wsX4_work) B.pre
  have hown : s.vm.findClass RX4 = some m.cls := findClass_of_methodNamed B.named
  have hlocks := B.notSynchronized
  have hl := lv_entry ([.ref h0, .int (zi sl), .int (zi ot)]) (n := 8) (Nat.le_of_ble_eq_true rfl)
  rw [lg_entry_eq]
  generalize (lg_sl ([.ref h0, .int (zi sl), .int (zi ot)]) ++ List.replicate (8 - (lg_sl ([.ref h0, .int (zi sl), .int (zi ot)])).length) Slot.unset).toArray = ls at hl ⊢
  have hl : lv_has ls 8 [(0, .ref h0), (1, .int (zi sl)), (2, .int (zi ot))] := hl
  refine lv_iload_n hx hb dX4_work_0 rfl (lv_at hl 1 rfl) ?_
  have hh1 := t_X4_needSlot l hst sl (by omega) (by omega)
  exact zt_pass (vx_runS (As := [.int (zi sl)]) (rest := []) ⟨hx, hb, hml, hown, hts⟩ hh1 (va_cwS 1 hts gX4_work_X4_needSlot rfl rfl rfl (by decide +kernel) ⟨Nat.le_of_ble_eq_true rfl, Nat.le_of_ble_eq_true rfl⟩) ⟨zP.blind _, fun U hU hW => ⟨rfl, hE.call va_S.rf (fun q h => by rw [hU] at h; exact h) hU hW⟩⟩ rfl rfl hl.1 rfl (lv_room (Nat.le_of_ble_eq_true rfl)) dX4_work_1 ⟨Nat.le_of_ble_eq_true rfl, Nat.le_of_ble_eq_true rfl⟩) hno hlocks

set_option maxHeartbeats 4000000 in
set_option maxRecDepth 100000 in
theorem t_X4_work_1b (l : Launch) (hst : l.stackTraces = false) (h0 : Nat) (sl : Int) (ot : Int) (hp0 : 0 ≤ sl ∧ sl ≤ 9) (hp1 : -2147483648 ≤ ot ∧ ot ≤ 2147483647) (hp2 : ot < 0 ∨ 9 < ot) : vx_Met l yX4_work wsX4_work ({ frames := 7, cells := 1, slots := 6, locals := 110 }) (zP [.ref h0, .int (zi sl), .int (zi ot)]) zNo (zX "java/lang/IndexOutOfBoundsException") 1 6 zN := by
  refine vx_ofW (cc := cX4_work) (maxL := 8) (ret := (some .int)) (by decide) rfl ?_
  intro p e s m args below meth c s₁ B hml hno hv
  obtain ⟨rfl, hE⟩ := hv
  have hx := B.exec
  have hb := B.bytes
  have hr := B.returns
  have hts := atoms_spec (ws := wsX4_work) B.pre
  have hown : s.vm.findClass RX4 = some m.cls := findClass_of_methodNamed B.named
  have hlocks := B.notSynchronized
  have hl := lv_entry ([.ref h0, .int (zi sl), .int (zi ot)]) (n := 8) (Nat.le_of_ble_eq_true rfl)
  rw [lg_entry_eq]
  generalize (lg_sl ([.ref h0, .int (zi sl), .int (zi ot)]) ++ List.replicate (8 - (lg_sl ([.ref h0, .int (zi sl), .int (zi ot)])).length) Slot.unset).toArray = ls at hl ⊢
  have hl : lv_has ls 8 [(0, .ref h0), (1, .int (zi sl)), (2, .int (zi ot))] := hl
  refine lv_iload_n hx hb dX4_work_0 rfl (lv_at hl 1 rfl) ?_
  have hh1 := c_X4_needSlot l sl (by omega)
  refine va_csv (va_Run.run (va_runS (As := [.int (zi sl)]) (rest := []) ⟨hx, hb, hml, hown, hts⟩ hh1 (va_cwS 1 hts gX4_work_X4_needSlot rfl rfl rfl (by decide +kernel) ⟨Nat.le_of_ble_eq_true rfl, Nat.le_of_ble_eq_true rfl⟩) ⟨fun a U g mk q => q, fun U hU hW => ⟨rfl, trivial⟩⟩ rfl rfl hl.1 rfl (lv_room (Nat.le_of_ble_eq_true rfl)) dX4_work_1 ⟨Nat.le_of_ble_eq_true rfl, Nat.le_of_ble_eq_true rfl⟩)) (fun _ => ?_)
  refine lv_iload_n hx hb dX4_work_4 rfl (lv_at hl 2 rfl) ?_
  have hh2 := t_X4_needSlot l hst ot (by omega) (by omega)
  exact zt_pass (vx_runS (As := [.int (zi ot)]) (rest := []) ⟨hx, hb, hml, hown, hts⟩ hh2 (va_cwS 1 hts gX4_work_X4_needSlot rfl rfl rfl (by decide +kernel) ⟨Nat.le_of_ble_eq_true rfl, Nat.le_of_ble_eq_true rfl⟩) ⟨zP.blind _, fun U hU hW => ⟨rfl, hE.call va_S.rf (fun q h => by rw [hU] at h; exact h) hU hW⟩⟩ rfl rfl hl.1 rfl (lv_room (Nat.le_of_ble_eq_true rfl)) dX4_work_5 ⟨Nat.le_of_ble_eq_true rfl, Nat.le_of_ble_eq_true rfl⟩) hno hlocks

set_option maxHeartbeats 4000000 in
set_option maxRecDepth 100000 in
theorem t_X4_work_2 (l : Launch) (hst : l.stackTraces = false) (dC : Nat → ClassId) (dI : Nat → Nat → Nat) (cI : ClassId) (h0 : Nat) (qs : Nat) (qr : Nat) (qm : Nat) (qw : Nat) (qt : Nat) (we : Int) (sf : Nat → Int) (sl : Int) (ot : Int) (hp0 : 0 ≤ sl ∧ sl ≤ 9) (hp1 : 0 ≤ ot ∧ ot ≤ 9) (hp2 : (sf sl.toNat) = -1) : vx_Met l yX4_work wsX4_work ({ frames := 7, cells := 1, slots := 6, locals := 112 }) (zPt (dC, dI) [(cI, .int)] [.ref h0, .int (zi sl), .int (zi ot)] [(h0, .inr (4, [.ref qs, .ref qr, .ref qm, .ref qw, .ref qt, .int (zi we)])), (qs, aI cI 10 sf)]) zNo (zX "java/lang/IllegalStateException") 1 6 zN := by
  refine vx_ofW (cc := cX4_work) (maxL := 8) (ret := (some .int)) (by decide) rfl ?_
  intro p e s m args below meth c s₁ B hml hno hv
  obtain ⟨rfl, hE, hP, hK⟩ := hv
  have hx := B.exec
  have hb := B.bytes
  have hr := B.returns
  have hts := atoms_spec (ws := wsX4_work) B.pre
  have hown : s.vm.findClass RX4 = some m.cls := findClass_of_methodNamed B.named
  have hlocks := B.notSynchronized
  have hl := lv_entry ([.ref h0, .int (zi sl), .int (zi ot)]) (n := 8) (Nat.le_of_ble_eq_true rfl)
  rw [lg_entry_eq]
  generalize (lg_sl ([.ref h0, .int (zi sl), .int (zi ot)]) ++ List.replicate (8 - (lg_sl ([.ref h0, .int (zi sl), .int (zi ot)])).length) Slot.unset).toArray = ls at hl ⊢
  have hl : lv_has ls 8 [(0, .ref h0), (1, .int (zi sl)), (2, .int (zi ot))] := hl
  refine lv_iload_n hx hb dX4_work_0 rfl (lv_at hl 1 rfl) ?_
  have hh1 := c_X4_needSlot l sl (by omega)
  refine va_csv (va_Run.run (va_runS (As := [.int (zi sl)]) (rest := []) ⟨hx, hb, hml, hown, hts⟩ hh1 (va_cwS 1 hts gX4_work_X4_needSlot rfl rfl rfl (by decide +kernel) ⟨Nat.le_of_ble_eq_true rfl, Nat.le_of_ble_eq_true rfl⟩) ⟨fun a U g mk q => q, fun U hU hW => ⟨rfl, trivial⟩⟩ rfl rfl hl.1 rfl (lv_room (Nat.le_of_ble_eq_true rfl)) dX4_work_1 ⟨Nat.le_of_ble_eq_true rfl, Nat.le_of_ble_eq_true rfl⟩)) (fun _ => ?_)
  refine lv_iload_n hx hb dX4_work_4 rfl (lv_at hl 2 rfl) ?_
  have hh2 := c_X4_needSlot l ot (by omega)
  refine va_csv (va_Run.run (va_runS (As := [.int (zi ot)]) (rest := []) ⟨hx, hb, hml, hown, hts⟩ hh2 (va_cwS 1 hts gX4_work_X4_needSlot rfl rfl rfl (by decide +kernel) ⟨Nat.le_of_ble_eq_true rfl, Nat.le_of_ble_eq_true rfl⟩) ⟨fun a U g mk q => q, fun U hU hW => ⟨rfl, trivial⟩⟩ rfl rfl hl.1 rfl (lv_room (Nat.le_of_ble_eq_true rfl)) dX4_work_5 ⟨Nat.le_of_ble_eq_true rfl, Nat.le_of_ble_eq_true rfl⟩)) (fun _ => ?_)
  refine lv_aload_n hx hb dX4_work_8 rfl (lv_at hl 0 rfl) ?_
  refine lv_iload_n hx hb dX4_work_9 rfl (lv_at hl 1 rfl) ?_
  have hh3 := t_X4_dateIn l hst dC dI cI h0 qs qr qm qw qt we sf sl (by omega) (by omega)
  have hPc := hP.sub (ws' := [(h0, .inr (4, [.ref qs, .ref qr, .ref qm, .ref qw, .ref qt, .int (zi we)])), (qs, aI cI 10 sf)]) [0, 1] rfl
  have hKc : va_K (dC, dI) vwCl [(cI, .int)] s := hK
  exact zt_pass (vx_runV (As := [.int (zi sl)]) (rest := []) ⟨hx, hb, hml, hown, hts⟩ hh3 (cwV 1 hts gX4_work_X4_dateIn rfl rfl rfl (by decide +kernel) ⟨Nat.le_of_ble_eq_true rfl, Nat.le_of_ble_eq_true rfl⟩) ⟨zPt.blind _ _ _ _, va_recv hKc hPc (ci := 4) (q0 := 0) rfl rfl, fun U hU hW => ⟨rfl, hE.call va_S.rf (fun q h => by rw [hU] at h; exact h) hU hW, by rw [hU]; exact hPc, va_K.moved hW.alike hKc⟩⟩ rfl rfl hl.1 rfl (lv_room (Nat.le_of_ble_eq_true rfl)) dX4_work_10 ⟨Nat.le_of_ble_eq_true rfl, Nat.le_of_ble_eq_true rfl⟩) hno hlocks

set_option maxHeartbeats 4000000 in
set_option maxRecDepth 100000 in
theorem t_X4_work_2b (l : Launch) (hst : l.stackTraces = false) (dC : Nat → ClassId) (dI : Nat → Nat → Nat) (cI : ClassId) (h0 : Nat) (qs : Nat) (qr : Nat) (qm : Nat) (qw : Nat) (qt : Nat) (we : Int) (sf : Nat → Int) (sl : Int) (ot : Int) (hp0 : 0 ≤ sl ∧ sl ≤ 9) (hp1 : 0 ≤ ot ∧ ot ≤ 9) (hp2 : 0 ≤ (sf sl.toNat) ∧ (sf sl.toNat) ≤ 3652058) (hp3 : (sf ot.toNat) = -1) : vx_Met l yX4_work wsX4_work ({ frames := 7, cells := 1, slots := 6, locals := 112 }) (zPt (dC, dI) [(cI, .int)] [.ref h0, .int (zi sl), .int (zi ot)] [(h0, .inr (4, [.ref qs, .ref qr, .ref qm, .ref qw, .ref qt, .int (zi we)])), (qs, aI cI 10 sf)]) zNo (zX "java/lang/IllegalStateException") 1 6 zN := by
  refine vx_ofW (cc := cX4_work) (maxL := 8) (ret := (some .int)) (by decide) rfl ?_
  intro p e s m args below meth c s₁ B hml hno hv
  obtain ⟨rfl, hE, hP, hK⟩ := hv
  have hx := B.exec
  have hb := B.bytes
  have hr := B.returns
  have hts := atoms_spec (ws := wsX4_work) B.pre
  have hown : s.vm.findClass RX4 = some m.cls := findClass_of_methodNamed B.named
  have hlocks := B.notSynchronized
  have hl := lv_entry ([.ref h0, .int (zi sl), .int (zi ot)]) (n := 8) (Nat.le_of_ble_eq_true rfl)
  rw [lg_entry_eq]
  generalize (lg_sl ([.ref h0, .int (zi sl), .int (zi ot)]) ++ List.replicate (8 - (lg_sl ([.ref h0, .int (zi sl), .int (zi ot)])).length) Slot.unset).toArray = ls at hl ⊢
  have hl : lv_has ls 8 [(0, .ref h0), (1, .int (zi sl)), (2, .int (zi ot))] := hl
  refine lv_iload_n hx hb dX4_work_0 rfl (lv_at hl 1 rfl) ?_
  have hh1 := c_X4_needSlot l sl (by omega)
  refine va_csv (va_Run.run (va_runS (As := [.int (zi sl)]) (rest := []) ⟨hx, hb, hml, hown, hts⟩ hh1 (va_cwS 1 hts gX4_work_X4_needSlot rfl rfl rfl (by decide +kernel) ⟨Nat.le_of_ble_eq_true rfl, Nat.le_of_ble_eq_true rfl⟩) ⟨fun a U g mk q => q, fun U hU hW => ⟨rfl, trivial⟩⟩ rfl rfl hl.1 rfl (lv_room (Nat.le_of_ble_eq_true rfl)) dX4_work_1 ⟨Nat.le_of_ble_eq_true rfl, Nat.le_of_ble_eq_true rfl⟩)) (fun _ => ?_)
  refine lv_iload_n hx hb dX4_work_4 rfl (lv_at hl 2 rfl) ?_
  have hh2 := c_X4_needSlot l ot (by omega)
  refine va_csv (va_Run.run (va_runS (As := [.int (zi ot)]) (rest := []) ⟨hx, hb, hml, hown, hts⟩ hh2 (va_cwS 1 hts gX4_work_X4_needSlot rfl rfl rfl (by decide +kernel) ⟨Nat.le_of_ble_eq_true rfl, Nat.le_of_ble_eq_true rfl⟩) ⟨fun a U g mk q => q, fun U hU hW => ⟨rfl, trivial⟩⟩ rfl rfl hl.1 rfl (lv_room (Nat.le_of_ble_eq_true rfl)) dX4_work_5 ⟨Nat.le_of_ble_eq_true rfl, Nat.le_of_ble_eq_true rfl⟩)) (fun _ => ?_)
  refine lv_aload_n hx hb dX4_work_8 rfl (lv_at hl 0 rfl) ?_
  refine lv_iload_n hx hb dX4_work_9 rfl (lv_at hl 1 rfl) ?_
  have hh3 := c_X4_dateIn l dC dI cI h0 qs qr qm qw qt we sf sl (by omega) (by omega)
  have hPc := hP.sub (ws' := [(h0, .inr (4, [.ref qs, .ref qr, .ref qm, .ref qw, .ref qt, .int (zi we)])), (qs, aI cI 10 sf)]) [0, 1] rfl
  have hKc : va_K (dC, dI) vwCl [(cI, .int)] s := hK
  refine vp_callSi (va_Run.run (va_runV (As := [.int (zi sl)]) (rest := []) ⟨hx, hb, hml, hown, hts⟩ hh3 (cwV 1 hts gX4_work_X4_dateIn rfl rfl rfl (by decide +kernel) ⟨Nat.le_of_ble_eq_true rfl, Nat.le_of_ble_eq_true rfl⟩) ⟨zPr.blind _ _ _ _, va_recv hKc hPc (ci := 4) (q0 := 0) rfl rfl, fun U hU hW => ⟨rfl, by rw [hU]; exact hPc, va_K.moved hW.alike hKc⟩⟩ rfl rfl hl.1 rfl (lv_room (Nat.le_of_ble_eq_true rfl)) dX4_work_10 ⟨Nat.le_of_ble_eq_true rfl, Nat.le_of_ble_eq_true rfl⟩)) (fun r3 (hr3 : r3 = zi (sf sl.toNat)) => ?_)
  subst hr3
  refine zw_top (fun x4 ex4 => ?_)
  refine lv_istore_n (lv' := [(3, .int (zi x4)), (0, .ref h0), (1, .int (zi sl)), (2, .int (zi ot))]) hx hb dX4_work_13 rfl hl (by decide) rfl (fun ls hl => ?_)
  refine lv_aload_n hx hb dX4_work_14 rfl (lv_at hl 1 rfl) ?_
  refine lv_iload_n hx hb dX4_work_15 rfl (lv_at hl 3 rfl) ?_
  have hh5 := t_X4_dateIn l hst dC dI cI h0 qs qr qm qw qt we sf ot (by omega) (by omega)
  have hPc := hP.sub (ws' := [(h0, .inr (4, [.ref qs, .ref qr, .ref qm, .ref qw, .ref qt, .int (zi we)])), (qs, aI cI 10 sf)]) [0, 1] rfl
  have hKc : va_K (dC, dI) vwCl [(cI, .int)] s := hK
  exact zt_pass (vx_runV (As := [.int (zi ot)]) (rest := []) ⟨hx, hb, hml, hown, hts⟩ hh5 (cwV 1 hts gX4_work_X4_dateIn rfl rfl rfl (by decide +kernel) ⟨Nat.le_of_ble_eq_true rfl, Nat.le_of_ble_eq_true rfl⟩) ⟨zPt.blind _ _ _ _, va_recv hKc hPc (ci := 4) (q0 := 0) rfl rfl, fun U hU hW => ⟨rfl, hE.call va_S.rf (fun q h => by rw [hU] at h; exact h) hU hW, by rw [hU]; exact hPc, va_K.moved hW.alike hKc⟩⟩ rfl rfl hl.1 rfl (lv_room (Nat.le_of_ble_eq_true rfl)) dX4_work_16 ⟨Nat.le_of_ble_eq_true rfl, Nat.le_of_ble_eq_true rfl⟩) hno hlocks

set_option maxHeartbeats 4000000 in
set_option maxRecDepth 100000 in
theorem t_X4_work_3 (l : Launch) (hst : l.stackTraces = false) (dC : Nat → ClassId) (dI : Nat → Nat → Nat) (cI : ClassId) (h0 : Nat) (qs : Nat) (qr : Nat) (qm : Nat) (qw : Nat) (qt : Nat) (we : Int) (sf : Nat → Int) (sl : Int) (ot : Int) (hp0 : 0 ≤ sl ∧ sl ≤ 9) (hp1 : 0 ≤ ot ∧ ot ≤ 9) (hp2 : 0 ≤ (sf sl.toNat) ∧ (sf sl.toNat) ≤ 3652058) (hp3 : 0 ≤ (sf ot.toNat) ∧ (sf ot.toNat) ≤ 3652058) (hp4 : 4000 < (sf sl.toNat) - (sf ot.toNat) ∨ 4000 < (sf ot.toNat) - (sf sl.toNat)) : vx_Met l yX4_work wsX4_work ({ frames := 6, cells := 1, slots := 6, locals := 90 }) (zPt (dC, dI) [(cI, .int)] [.ref h0, .int (zi sl), .int (zi ot)] [(h0, .inr (4, [.ref qs, .ref qr, .ref qm, .ref qw, .ref qt, .int (zi we)])), (qs, aI cI 10 sf)]) zNo (zX "java/lang/IllegalArgumentException") 1 6 zN := by
  refine vx_ofW (cc := cX4_work) (maxL := 8) (ret := (some .int)) (by decide) rfl ?_
  intro p e s m args below meth c s₁ B hml hno hv
  obtain ⟨rfl, hE, hP, hK⟩ := hv
  have hx := B.exec
  have hb := B.bytes
  have hr := B.returns
  have hts := atoms_spec (ws := wsX4_work) B.pre
  have hown : s.vm.findClass RX4 = some m.cls := findClass_of_methodNamed B.named
  have hlocks := B.notSynchronized
  have hl := lv_entry ([.ref h0, .int (zi sl), .int (zi ot)]) (n := 8) (Nat.le_of_ble_eq_true rfl)
  rw [lg_entry_eq]
  generalize (lg_sl ([.ref h0, .int (zi sl), .int (zi ot)]) ++ List.replicate (8 - (lg_sl ([.ref h0, .int (zi sl), .int (zi ot)])).length) Slot.unset).toArray = ls at hl ⊢
  have hl : lv_has ls 8 [(0, .ref h0), (1, .int (zi sl)), (2, .int (zi ot))] := hl
  refine lv_iload_n hx hb dX4_work_0 rfl (lv_at hl 1 rfl) ?_
  have hh1 := c_X4_needSlot l sl (by omega)
  refine va_csv (va_Run.run (va_runS (As := [.int (zi sl)]) (rest := []) ⟨hx, hb, hml, hown, hts⟩ hh1 (va_cwS 1 hts gX4_work_X4_needSlot rfl rfl rfl (by decide +kernel) ⟨Nat.le_of_ble_eq_true rfl, Nat.le_of_ble_eq_true rfl⟩) ⟨fun a U g mk q => q, fun U hU hW => ⟨rfl, trivial⟩⟩ rfl rfl hl.1 rfl (lv_room (Nat.le_of_ble_eq_true rfl)) dX4_work_1 ⟨Nat.le_of_ble_eq_true rfl, Nat.le_of_ble_eq_true rfl⟩)) (fun _ => ?_)
  refine lv_iload_n hx hb dX4_work_4 rfl (lv_at hl 2 rfl) ?_
  have hh2 := c_X4_needSlot l ot (by omega)
  refine va_csv (va_Run.run (va_runS (As := [.int (zi ot)]) (rest := []) ⟨hx, hb, hml, hown, hts⟩ hh2 (va_cwS 1 hts gX4_work_X4_needSlot rfl rfl rfl (by decide +kernel) ⟨Nat.le_of_ble_eq_true rfl, Nat.le_of_ble_eq_true rfl⟩) ⟨fun a U g mk q => q, fun U hU hW => ⟨rfl, trivial⟩⟩ rfl rfl hl.1 rfl (lv_room (Nat.le_of_ble_eq_true rfl)) dX4_work_5 ⟨Nat.le_of_ble_eq_true rfl, Nat.le_of_ble_eq_true rfl⟩)) (fun _ => ?_)
  refine lv_aload_n hx hb dX4_work_8 rfl (lv_at hl 0 rfl) ?_
  refine lv_iload_n hx hb dX4_work_9 rfl (lv_at hl 1 rfl) ?_
  have hh3 := c_X4_dateIn l dC dI cI h0 qs qr qm qw qt we sf sl (by omega) (by omega)
  have hPc := hP.sub (ws' := [(h0, .inr (4, [.ref qs, .ref qr, .ref qm, .ref qw, .ref qt, .int (zi we)])), (qs, aI cI 10 sf)]) [0, 1] rfl
  have hKc : va_K (dC, dI) vwCl [(cI, .int)] s := hK
  refine vp_callSi (va_Run.run (va_runV (As := [.int (zi sl)]) (rest := []) ⟨hx, hb, hml, hown, hts⟩ hh3 (cwV 1 hts gX4_work_X4_dateIn rfl rfl rfl (by decide +kernel) ⟨Nat.le_of_ble_eq_true rfl, Nat.le_of_ble_eq_true rfl⟩) ⟨zPr.blind _ _ _ _, va_recv hKc hPc (ci := 4) (q0 := 0) rfl rfl, fun U hU hW => ⟨rfl, by rw [hU]; exact hPc, va_K.moved hW.alike hKc⟩⟩ rfl rfl hl.1 rfl (lv_room (Nat.le_of_ble_eq_true rfl)) dX4_work_10 ⟨Nat.le_of_ble_eq_true rfl, Nat.le_of_ble_eq_true rfl⟩)) (fun r3 (hr3 : r3 = zi (sf sl.toNat)) => ?_)
  subst hr3
  refine zw_top (fun x4 ex4 => ?_)
  refine lv_istore_n (lv' := [(3, .int (zi x4)), (0, .ref h0), (1, .int (zi sl)), (2, .int (zi ot))]) hx hb dX4_work_13 rfl hl (by decide) rfl (fun ls hl => ?_)
  refine lv_aload_n hx hb dX4_work_14 rfl (lv_at hl 1 rfl) ?_
  refine lv_iload_n hx hb dX4_work_15 rfl (lv_at hl 3 rfl) ?_
  have hh5 := c_X4_dateIn l dC dI cI h0 qs qr qm qw qt we sf ot (by omega) (by omega)
  have hPc := hP.sub (ws' := [(h0, .inr (4, [.ref qs, .ref qr, .ref qm, .ref qw, .ref qt, .int (zi we)])), (qs, aI cI 10 sf)]) [0, 1] rfl
  have hKc : va_K (dC, dI) vwCl [(cI, .int)] s := hK
  refine vp_callSi (va_Run.run (va_runV (As := [.int (zi ot)]) (rest := []) ⟨hx, hb, hml, hown, hts⟩ hh5 (cwV 1 hts gX4_work_X4_dateIn rfl rfl rfl (by decide +kernel) ⟨Nat.le_of_ble_eq_true rfl, Nat.le_of_ble_eq_true rfl⟩) ⟨zPr.blind _ _ _ _, va_recv hKc hPc (ci := 4) (q0 := 0) rfl rfl, fun U hU hW => ⟨rfl, by rw [hU]; exact hPc, va_K.moved hW.alike hKc⟩⟩ rfl rfl hl.1 rfl (lv_room (Nat.le_of_ble_eq_true rfl)) dX4_work_16 ⟨Nat.le_of_ble_eq_true rfl, Nat.le_of_ble_eq_true rfl⟩)) (fun r5 (hr5 : r5 = zi (sf ot.toNat)) => ?_)
  subst hr5
  refine zw_top (fun x6 ex6 => ?_)
  refine lv_istore (lv' := [(4, .int (zi x6)), (3, .int (zi x4)), (0, .ref h0), (1, .int (zi sl)), (2, .int (zi ot))]) hx hb dX4_work_19 hl (by decide) rfl (fun ls hl => ?_)
  refine lv_iload hx hb dX4_work_21 (lv_at hl 0 rfl) ?_
  refine lv_iload_n hx hb dX4_work_23 rfl (lv_at hl 1 rfl) ?_
  refine zw_isub hx hb dX4_work_24 ?_
  refine zw_abs hx hb (hml.trans hl.1.symm) hown (hts (.methodLink RX4 164 Lib.Math.abs.name) (by decide +kernel)) (hts (.static Lib.Math.abs.name) (by decide +kernel)) (hts (.initialized "java/lang/Math") (by decide +kernel)) (hts _ (by decide +kernel)) (Nat.le_of_ble_eq_true rfl) (Nat.le_of_ble_eq_true rfl) (Nat.le_of_ble_eq_true rfl) (Nat.le_of_ble_eq_true rfl) dX4_work_25 ⟨by omega, by omega⟩ ?_
  refine zw_sipush hx hb dX4_work_28 (by decide) ?_
  refine zw_icmp_le (tgt := 44) hx hb dX4_work_31 (by decide) ⟨by omega, by omega⟩ ⟨by omega, by omega⟩ (fun h7 => ?_) (fun h7 => ?_)
  · skip
    exact absurd True.intro (by omega)
  · skip
    exact zt_throw (cls := "java/lang/IllegalArgumentException") (text := "the dates are too far from each other") (ik := 88) (is := 169) (ic := 92) hx hb hst hown hE (by decide +kernel) (hts (.classLink RX4 88 "java/lang/IllegalArgumentException") (by decide +kernel)) (hts (.initialized "java/lang/IllegalArgumentException") (by decide +kernel)) (by decide) (fun w h => hts w (List.mem_cons_of_mem _ (List.mem_append_left _ (List.mem_append_left _ (List.mem_append_right _ h))))) (by decide +kernel) (by decide +kernel) (hl.1.trans hml.symm) dX4_work_34 dX4_work_37 dX4_work_38 dX4_work_40 dX4_work_43 hno (Nat.le_of_ble_eq_true rfl) (Nat.le_of_ble_eq_true rfl) (Nat.le_of_ble_eq_true rfl) (Nat.le_of_ble_eq_true rfl) hlocks

set_option maxHeartbeats 4000000 in
set_option maxRecDepth 100000 in
theorem c_X4_work (l : Launch)  (dC : Nat → ClassId) (dI : Nat → Nat → Nat) (cI : ClassId) (cO : ClassId) (h0 : Nat) (qs : Nat) (qr : Nat) (qm : Nat) (qw : Nat) (qt : Nat) (we : Int) (sf : Nat → Int) (qk : Nat) (fi : Int) (ln : Int) (mf : Nat → Int) (mc : Int) (qe : Nat) (ru : Int) (cap : Nat) (ef : Nat → Option Nat) (rf : Nat → Nat) (kf : Nat → Int) (af : Nat → Int) (bf : Nat → Int) (zf : Nat → Int) (sl : Int) (ot : Int) (sz : Nat) (hp0 : 0 ≤ sl ∧ sl ≤ 9) (hp1 : 0 ≤ ot ∧ ot ≤ 9) (hp2 : 0 ≤ (sf sl.toNat) ∧ (sf sl.toNat) ≤ 3652058) (hp3 : 0 ≤ (sf ot.toNat) ∧ (sf ot.toNat) ≤ 3652058) (hp4 : 0 ≤ ru ∧ ru ≤ 12 ∧ ru ≤ (cap : Int) ∧ (cap : Int) ≤ 1000) (hp5 : ∀ j : Nat, (j : Int) < ru → (0 ≤ (kf j) ∧ (kf j) ≤ 3) ∧ ((kf j) = 1 ∧ -100 ≤ (af j) ∧ (af j) ≤ 100 ∨ (kf j) ≠ 1 ∧ 1 ≤ (af j) ∧ (af j) ≤ 12) ∧ ((kf j) = 1 ∨ (kf j) = 2 ∧ 1 ≤ (bf j) ∧ (bf j) ≤ 7 ∨ (kf j) ≠ 2 ∧ 1 ≤ (bf j) ∧ (bf j) ≤ 31) ∧ ((kf j) ≠ 2 ∨ (zf j) = -1 ∨ 1 ≤ (zf j) ∧ (zf j) ≤ 4)) (hp6 : ∀ j : Nat, (j : Int) < ru → ef j = some (rf j)) (hp7 : 0 ≤ we ∧ we ≤ 127) (hp8 : 0 ≤ fi ∧ fi ≤ 4000000 ∧ 0 ≤ ln ∧ ln ≤ 366) (hp9 : (max (sf sl.toNat) (sf ot.toNat)) - (min (sf sl.toNat) (sf ot.toNat)) ≤ 4000) : Met l yX4_work wsX4_work ({ frames := 6, cells := 0, slots := 0, locals := 135 }) (zPwF (dC, dI) [(cI, .int), (cO, .object "java/lang/Object")] sz [.ref h0, .int (zi sl), .int (zi ot)] [(h0, .inr (4, [.ref qs, .ref qr, .ref qm, .ref qw, .ref qt, .int (zi we)])), (qs, aI cI 10 sf), (qm, .inr (2, [.ref qk, .int (zi fi), .int (zi ln)])), (qk, aI cI 366 mf), (qr, .inr (0, [.int (zi mc), .ref qe, .int (zi ru)])), (qe, aR cO cap ef)] (zRu (dC, dI) ru rf kf af bf zf)) (va_Qi (fun (r : Int32) (u : (Int) × (Int) × (Nat → Int)) => r = zi (if (sf ot.toNat) < (sf sl.toNat) then -(zcn (wkX4 we kf af bf zf ru) ((max (sf sl.toNat) (sf ot.toNat)) - (min (sf sl.toNat) (sf ot.toNat))).toNat (min (sf sl.toNat) (sf ot.toNat))) else zcn (wkX4 we kf af bf zf ru) ((max (sf sl.toNat) (sf ot.toNat)) - (min (sf sl.toNat) (sf ot.toNat))).toNat (min (sf sl.toNat) (sf ot.toNat))) ∧ (0 ≤ u.1 ∧ u.1 ≤ 4000000 ∧ 0 ≤ u.2.1 ∧ u.2.1 ≤ 366)) (fun (u : (Int) × (Int) × (Nat → Int)) => zB (dC, dI) [(cI, .int), (cO, .object "java/lang/Object")] (va_A [(h0, .inr (4, [.ref qs, .ref qr, .ref qm, .ref qw, .ref qt, .int (zi we)])), (qs, aI cI 10 sf), (qm, .inr (2, [.ref qk, .int (zi fi), .int (zi ln)])), (qk, aI cI 366 mf), (qr, .inr (0, [.int (zi mc), .ref qe, .int (zi ru)])), (qe, aR cO cap ef)] sz) [(h0, .inr (4, [.ref qs, .ref qr, .ref qm, .ref qw, .ref qt, .int (zi we)])), (qs, aI cI 10 sf), (qm, .inr (2, [.ref qk, .int (zi u.1), .int (zi u.2.1)])), (qk, aI cI 366 u.2.2), (qr, .inr (0, [.int (zi mc), .ref qe, .int (zi ru)])), (qe, aR cO cap ef)] ()) (va_A [(h0, .inr (4, [.ref qs, .ref qr, .ref qm, .ref qw, .ref qt, .int (zi we)])), (qs, aI cI 10 sf), (qm, .inr (2, [.ref qk, .int (zi fi), .int (zi ln)])), (qk, aI cI 366 mf), (qr, .inr (0, [.int (zi mc), .ref qe, .int (zi ru)])), (qe, aR cO cap ef)] sz)) 0 0 (va_A [(h0, .inr (4, [.ref qs, .ref qr, .ref qm, .ref qw, .ref qt, .int (zi we)])), (qs, aI cI 10 sf), (qm, .inr (2, [.ref qk, .int (zi fi), .int (zi ln)])), (qk, aI cI 366 mf), (qr, .inr (0, [.int (zi mc), .ref qe, .int (zi ru)])), (qe, aR cO cap ef)] sz) := by
  refine Met.ofW (cc := cX4_work) (maxL := 8) (ret := (some .int)) (by decide) rfl ?_
  intro p e s m args below meth c s₁ B hml hv
  obtain ⟨rfl, hsz, hP, hK, hD0, hG⟩ := hv
  have hx := B.exec
  have hb := B.bytes
  have hr := B.returns
  have hts := atoms_spec (ws := wsX4_work) B.pre
  have hown : s.vm.findClass RX4 = some m.cls := findClass_of_methodNamed B.named
  have hlocks := B.notSynchronized
  subst hsz
  have hD := hD0.self (sz := s.heap.size)
  generalize hAe : va_A [(h0, .inr (4, [.ref qs, .ref qr, .ref qm, .ref qw, .ref qt, .int (zi we)])), (qs, aI cI 10 sf), (qm, .inr (2, [.ref qk, .int (zi fi), .int (zi ln)])), (qk, aI cI 366 mf), (qr, .inr (0, [.int (zi mc), .ref qe, .int (zi ru)])), (qe, aR cO cap ef)] s.heap.size = A at hD hG ⊢
  have hA : ∀ q : Nat, s.heap.size ≤ q → A q := fun q h => by rw [← hAe]; exact Or.inr h
  have hS : va_S A s.heap s.heap [] := va_S.rf
  have hP : va_P (dC, dI) vwCl [(h0, .inr (4, [.ref qs, .ref qr, .ref qm, .ref qw, .ref qt, .int (zi we)])), (qs, aI cI 10 sf), (qm, .inr (2, [.ref qk, .int (zi fi), .int (zi ln)])), (qk, aI cI 366 mf), (qr, .inr (0, [.int (zi mc), .ref qe, .int (zi ru)])), (qe, aR cO cap ef)] s.heap := hP
  have loop70 : ∀ (fu : Nat) (nn : Int) (dd : Int) (fj : Int) (lj : Int) (mg : Nat → Int), ((min (sf sl.toNat) (sf ot.toNat)) ≤ dd ∧ dd ≤ (max (sf sl.toNat) (sf ot.toNat))) → (nn + zcn (wkX4 we kf af bf zf ru) ((max (sf sl.toNat) (sf ot.toNat)) - dd).toNat dd = zcn (wkX4 we kf af bf zf ru) ((max (sf sl.toNat) (sf ot.toNat)) - (min (sf sl.toNat) (sf ot.toNat))).toNat (min (sf sl.toNat) (sf ot.toNat))) → (0 ≤ nn ∧ nn ≤ dd - (min (sf sl.toNat) (sf ot.toNat))) → (mkOk kf af bf zf ru fj lj mg) → ((max (sf sl.toNat) (sf ot.toNat)) - dd < fu) → ∀ (ls : Array Slot) (H : Heap) (locs : List Loc), lv_has ls 8 [(6, .int (zi nn)), (7, .int (zi dd)), (0, .ref h0), (1, .int (zi sl)), (2, .int (zi ot)), (3, .int (zi (sf sl.toNat))), (4, .int (zi (sf ot.toNat))), (5, .int (zi (max (sf sl.toNat) (sf ot.toNat))))] → va_P (dC, dI) vwCl [(h0, .inr (4, [.ref qs, .ref qr, .ref qm, .ref qw, .ref qt, .int (zi we)])), (qs, aI cI 10 sf), (qm, .inr (2, [.ref qk, .int (zi fj), .int (zi lj)])), (qk, aI cI 366 mg), (qr, .inr (0, [.int (zi mc), .ref qe, .int (zi ru)])), (qe, aR cO cap ef)] H → va_D A [(h0, .inr (4, [.ref qs, .ref qr, .ref qm, .ref qw, .ref qt, .int (zi we)])), (qs, aI cI 10 sf), (qm, .inr (2, [.ref qk, .int (zi fj), .int (zi lj)])), (qk, aI cI 366 mg), (qr, .inr (0, [.int (zi mc), .ref qe, .int (zi ru)])), (qe, aR cO cap ef)] → va_S A s.heap H locs → W p l e (headSpec wsX4_work ({ frames := 6, cells := 0, slots := 0, locals := 135 })).room s m ([.ref h0, .int (zi sl), .int (zi ot)] : List Value).toArray below meth c H locs 0 0 (MQ below (va_Qi (fun (r : Int32) (u : (Int) × (Int) × (Nat → Int)) => r = zi (if (sf ot.toNat) < (sf sl.toNat) then -(zcn (wkX4 we kf af bf zf ru) ((max (sf sl.toNat) (sf ot.toNat)) - (min (sf sl.toNat) (sf ot.toNat))).toNat (min (sf sl.toNat) (sf ot.toNat))) else zcn (wkX4 we kf af bf zf ru) ((max (sf sl.toNat) (sf ot.toNat)) - (min (sf sl.toNat) (sf ot.toNat))).toNat (min (sf sl.toNat) (sf ot.toNat))) ∧ (0 ≤ u.1 ∧ u.1 ≤ 4000000 ∧ 0 ≤ u.2.1 ∧ u.2.1 ≤ 366)) (fun (u : (Int) × (Int) × (Nat → Int)) => zB (dC, dI) [(cI, .int), (cO, .object "java/lang/Object")] A [(h0, .inr (4, [.ref qs, .ref qr, .ref qm, .ref qw, .ref qt, .int (zi we)])), (qs, aI cI 10 sf), (qm, .inr (2, [.ref qk, .int (zi u.1), .int (zi u.2.1)])), (qk, aI cI 366 u.2.2), (qr, .inr (0, [.int (zi mc), .ref qe, .int (zi ru)])), (qe, aR cO cap ef)] ()) A) ([.ref h0, .int (zi sl), .int (zi ot)] : List Value).toArray s 0 0 A) (F0 m 70 ls []) := by
    intro fu
    induction fu with
    | zero =>
      intro nn dd fj lj mg hi0 hi1 hi2 hi3 hfu ls H locs hl hP hD hS
      exact absurd hfu (by omega)
    | succ fu ih =>
      intro nn dd fj lj mg hi0 hi1 hi2 hi3 hfu ls H locs hl hP hD hS
      have hP : va_P (dC, dI) vwCl [(h0, .inr (4, [.ref qs, .ref qr, .ref qm, .ref qw, .ref qt, .int (zi we)])), (qs, aI cI 10 sf), (qm, .inr (2, [.ref qk, .int (zi fj), .int (zi lj)])), (qk, aI cI 366 mg), (qr, .inr (0, [.int (zi mc), .ref qe, .int (zi ru)])), (qe, aR cO cap ef)] H := hP
      have hD : va_D A [(h0, .inr (4, [.ref qs, .ref qr, .ref qm, .ref qw, .ref qt, .int (zi we)])), (qs, aI cI 10 sf), (qm, .inr (2, [.ref qk, .int (zi fj), .int (zi lj)])), (qk, aI cI 366 mg), (qr, .inr (0, [.int (zi mc), .ref qe, .int (zi ru)])), (qe, aR cO cap ef)] := hD
      first | have hmb := mkOk_b hi3 | skip
      refine lv_iload hx hb dX4_work_70 (lv_at hl 1 rfl) ?_
      refine lv_iload hx hb dX4_work_72 (lv_at hl 7 rfl) ?_
      refine zw_icmp_ge (tgt := 95) hx hb dX4_work_74 (by decide) ⟨by omega, by omega⟩ ⟨by omega, by omega⟩ (fun h1 => ?_) (fun h1 => ?_)
      · skip
        have hen := zcn_end (wkX4 we kf af bf zf ru) dd (max (sf sl.toNat) (sf ot.toNat)) (by omega)
        refine lv_iload hx hb dX4_work_95 (lv_at hl 6 rfl) ?_
        refine lv_iload_n hx hb dX4_work_97 rfl (lv_at hl 5 rfl) ?_
        refine zw_icmp_ge (tgt := 107) hx hb dX4_work_98 (by decide) ⟨by omega, by omega⟩ ⟨by omega, by omega⟩ (fun h2 => ?_) (fun h2 => ?_)
        · skip
          refine lv_iload hx hb dX4_work_107 (lv_at hl 0 rfl) ?_
          have hP9 := hP.sub (ws' := [(h0, .inr (4, [.ref qs, .ref qr, .ref qm, .ref qw, .ref qt, .int (zi we)])), (qs, aI cI 10 sf), (qm, .inr (2, [.ref qk, .int (zi fj), .int (zi lj)])), (qk, aI cI 366 mg), (qr, .inr (0, [.int (zi mc), .ref qe, .int (zi ru)])), (qe, aR cO cap ef)]) [0, 1, 2, 3, 4, 5] rfl
          have hD9 := hD.sub (ws' := [(h0, .inr (4, [.ref qs, .ref qr, .ref qm, .ref qw, .ref qt, .int (zi we)])), (qs, aI cI 10 sf), (qm, .inr (2, [.ref qk, .int (zi fj), .int (zi lj)])), (qk, aI cI 366 mg), (qr, .inr (0, [.int (zi mc), .ref qe, .int (zi ru)])), (qe, aR cO cap ef)]) [0, 1, 2, 3, 4, 5] (by decide) rfl
          have hp9 : 0 ≤ fj ∧ fj ≤ 4000000 ∧ 0 ≤ lj ∧ lj ≤ 366 := by
            exact mkOk_b hi3
          exact W.iret (v := zi nn) hx hb hr (fun t ht hW => ⟨⟨zi nn, (fj, lj, mg), rfl, ⟨congrArg zi (by omega), hp9⟩, by rw [ht]; exact hP9, va_K.moved hW.alike hK, hD9⟩, hS.F ht⟩) hS.2.2 dX4_work_109
        · skip
          refine lv_iload hx hb dX4_work_101 (lv_at hl 0 rfl) ?_
          refine zw_ineg hx hb dX4_work_103 ?_
          refine lv_goto (tgt := 109) hx hb dX4_work_104 (by decide) ?_
          have hP9 := hP.sub (ws' := [(h0, .inr (4, [.ref qs, .ref qr, .ref qm, .ref qw, .ref qt, .int (zi we)])), (qs, aI cI 10 sf), (qm, .inr (2, [.ref qk, .int (zi fj), .int (zi lj)])), (qk, aI cI 366 mg), (qr, .inr (0, [.int (zi mc), .ref qe, .int (zi ru)])), (qe, aR cO cap ef)]) [0, 1, 2, 3, 4, 5] rfl
          have hD9 := hD.sub (ws' := [(h0, .inr (4, [.ref qs, .ref qr, .ref qm, .ref qw, .ref qt, .int (zi we)])), (qs, aI cI 10 sf), (qm, .inr (2, [.ref qk, .int (zi fj), .int (zi lj)])), (qk, aI cI 366 mg), (qr, .inr (0, [.int (zi mc), .ref qe, .int (zi ru)])), (qe, aR cO cap ef)]) [0, 1, 2, 3, 4, 5] (by decide) rfl
          have hp9 : 0 ≤ fj ∧ fj ≤ 4000000 ∧ 0 ≤ lj ∧ lj ≤ 366 := by
            exact mkOk_b hi3
          exact W.iret (v := zi (-nn)) hx hb hr (fun t ht hW => ⟨⟨zi (-nn), (fj, lj, mg), rfl, ⟨congrArg zi (by omega), hp9⟩, by rw [ht]; exact hP9, va_K.moved hW.alike hK, hD9⟩, hS.F ht⟩) hS.2.2 dX4_work_109
      · skip
        have hst := zcn_step (wkX4 we kf af bf zf ru) dd (max (sf sl.toNat) (sf ot.toNat)) (by omega)
        have hcb := zcn_b (wkX4 we kf af bf zf ru) ((max (sf sl.toNat) (sf ot.toNat)) - dd).toNat dd
        have hcc := zcn_b (wkX4 we kf af bf zf ru) ((max (sf sl.toNat) (sf ot.toNat)) - (dd + 1)).toNat (dd + 1)
        have hRK := hp5
        have hEF := hp6
        refine lv_aload_n hx hb dX4_work_77 rfl (lv_at hl 2 rfl) ?_
        refine lv_iload hx hb dX4_work_78 (lv_at hl 1 rfl) ?_
        have hh3 := c_X4_isWorking l dC dI cI cO h0 qs qr qm qw qt we qk fj lj mg mc qe ru cap ef rf kf af bf zf dd H.size (by omega) (by omega) (by first | exact hRK) (by first | exact hEF) (by omega) (by assumption)
        have hPc := hP.sub (ws' := [(h0, .inr (4, [.ref qs, .ref qr, .ref qm, .ref qw, .ref qt, .int (zi we)])), (qm, .inr (2, [.ref qk, .int (zi fj), .int (zi lj)])), (qk, aI cI 366 mg), (qr, .inr (0, [.int (zi mc), .ref qe, .int (zi ru)])), (qe, aR cO cap ef)]) [0, 2, 3, 4, 5] rfl
        have hKc : va_K (dC, dI) vwCl [(cI, .int), (cO, .object "java/lang/Object")] s := hK
        have hDc := hD.sub (ws' := [(h0, .inr (4, [.ref qs, .ref qr, .ref qm, .ref qw, .ref qt, .int (zi we)])), (qm, .inr (2, [.ref qk, .int (zi fj), .int (zi lj)])), (qk, aI cI 366 mg), (qr, .inr (0, [.int (zi mc), .ref qe, .int (zi ru)])), (qe, aR cO cap ef)]) [0, 2, 3, 4, 5] (by decide) rfl
        have hFc := va_free (wc := [(h0, .inr (4, [.ref qs, .ref qr, .ref qm, .ref qw, .ref qt, .int (zi we)])), (qm, .inr (2, [.ref qk, .int (zi fj), .int (zi lj)])), (qk, aI cI 366 mg), (qr, .inr (0, [.int (zi mc), .ref qe, .int (zi ru)])), (qe, aR cO cap ef)]) hD hS hA [0, 2, 3, 4, 5] rfl
        refine va_calli (va_runV (As := [.int (zi dd)]) (rest := []) ⟨hx, hb, hml, hown, hts⟩ hh3 (cwV 1 hts gX4_work_X4_isWorking rfl rfl rfl (by decide +kernel) ⟨Nat.le_of_ble_eq_true rfl, Nat.le_of_ble_eq_true rfl⟩) ⟨zPwF.blind _ _ _ _ _ zRu_ok, va_recv hKc hPc (ci := 4) (q0 := 0) rfl rfl, fun U hU hW => ⟨rfl, by rw [hU], by rw [hU]; exact hPc, va_K.moved hW.alike hKc, hDc.weaken (fun _ _ _ _ => trivial), zF.call zRu_ok hG hS hFc hU hW⟩⟩ rfl rfl hl.1 rfl (lv_room (Nat.le_of_ble_eq_true rfl)) dX4_work_80 ⟨Nat.le_of_ble_eq_true rfl, Nat.le_of_ble_eq_true rfl⟩) hS (fun q _ h => hFc q h) hFc (fun r3 u t H1 locs ht hvm hw hB hz1 hk1 hS => ?_)
        obtain ⟨fj_4, lj_4, mg_4⟩ := u
        obtain ⟨hw, hw3⟩ := hw
        replace hw3 : mkOk kf af bf zf ru fj_4 lj_4 mg_4 := hw3
        obtain ⟨hP1, hK1, hD1⟩ := hB
        rw [ht] at hP1
        replace hP1 : va_P (dC, dI) vwCl [(h0, .inr (4, [.ref qs, .ref qr, .ref qm, .ref qw, .ref qt, .int (zi we)])), (qm, .inr (2, [.ref qk, .int (zi fj_4), .int (zi lj_4)])), (qk, aI cI 366 mg_4), (qr, .inr (0, [.int (zi mc), .ref qe, .int (zi ru)])), (qe, aR cO cap ef)] H1 := hP1
        replace hD1 : va_D _ [(h0, .inr (4, [.ref qs, .ref qr, .ref qm, .ref qw, .ref qt, .int (zi we)])), (qm, .inr (2, [.ref qk, .int (zi fj_4), .int (zi lj_4)])), (qk, aI cI 366 mg_4), (qr, .inr (0, [.int (zi mc), .ref qe, .int (zi ru)])), (qe, aR cO cap ef)] := hD1
        obtain ⟨hP, hD⟩ := va_join (wr := [(qs, aI cI 10 sf)]) (w1 := [(h0, .inr (4, [.ref qs, .ref qr, .ref qm, .ref qw, .ref qt, .int (zi we)])), (qm, .inr (2, [.ref qk, .int (zi fj_4), .int (zi lj_4)])), (qk, aI cI 366 mg_4), (qr, .inr (0, [.int (zi mc), .ref qe, .int (zi ru)])), (qe, aR cO cap ef)]) hP hD [0, 2, 3, 4, 5] [1] rfl rfl (by decide) (by decide) hk1 hFc hP1 hD1
        generalize H1 = H at hP hS ⊢
        obtain rfl : r3 = zi (wkX4 we kf af bf zf ru dd) := hw
        have hP : va_P (dC, dI) vwCl [(qs, aI cI 10 sf), (h0, .inr (4, [.ref qs, .ref qr, .ref qm, .ref qw, .ref qt, .int (zi we)])), (qm, .inr (2, [.ref qk, .int (zi fj_4), .int (zi lj_4)])), (qk, aI cI 366 mg_4), (qr, .inr (0, [.int (zi mc), .ref qe, .int (zi ru)])), (qe, aR cO cap ef)] H := hP
        have hD : va_D A [(qs, aI cI 10 sf), (h0, .inr (4, [.ref qs, .ref qr, .ref qm, .ref qw, .ref qt, .int (zi we)])), (qm, .inr (2, [.ref qk, .int (zi fj_4), .int (zi lj_4)])), (qk, aI cI 366 mg_4), (qr, .inr (0, [.int (zi mc), .ref qe, .int (zi ru)])), (qe, aR cO cap ef)] := hD
        have hf3_0 := wkX4_s we kf af bf zf ru dd
        refine zw_if_eq (tgt := 89) hx hb dX4_work_83 (by decide) ⟨by omega, by omega⟩ (fun h5 => ?_) (fun h5 => ?_)
        · skip
          obtain ⟨x6, ex6⟩ : ∃ z : Int, z = dd + 1 := ⟨_, rfl⟩
          refine zw_iinc (lv' := [(7, .int (zi x6)), (6, .int (zi nn)), (0, .ref h0), (1, .int (zi sl)), (2, .int (zi ot)), (3, .int (zi (sf sl.toNat))), (4, .int (zi (sf ot.toNat))), (5, .int (zi (max (sf sl.toNat) (sf ot.toNat))))]) (k := 1) hx hb ex6 dX4_work_89 hl rfl (by decide) rfl (fun ls hl => ?_)
          refine lv_goto (tgt := 70) hx hb dX4_work_92 (by decide) ?_
          first | have hmb := mkOk_b hi3 | skip
          subst ex6
          have hP9 := hP.sub (ws' := [(h0, .inr (4, [.ref qs, .ref qr, .ref qm, .ref qw, .ref qt, .int (zi we)])), (qs, aI cI 10 sf), (qm, .inr (2, [.ref qk, .int (zi fj_4), .int (zi lj_4)])), (qk, aI cI 366 mg_4), (qr, .inr (0, [.int (zi mc), .ref qe, .int (zi ru)])), (qe, aR cO cap ef)]) [1, 0, 2, 3, 4, 5] rfl
          have hD9 := hD.sub (ws' := [(h0, .inr (4, [.ref qs, .ref qr, .ref qm, .ref qw, .ref qt, .int (zi we)])), (qs, aI cI 10 sf), (qm, .inr (2, [.ref qk, .int (zi fj_4), .int (zi lj_4)])), (qk, aI cI 366 mg_4), (qr, .inr (0, [.int (zi mc), .ref qe, .int (zi ru)])), (qe, aR cO cap ef)]) [1, 0, 2, 3, 4, 5] (by decide) rfl
          exact ih nn (dd + 1) fj_4 lj_4 mg_4 (by omega) (by omega) (by omega) (by first | assumption | exact Or.inl ⟨by omega, by omega, rfl⟩) (by omega) ls _ _ (lv_sub hl [1, 0, 2, 3, 4, 5, 6, 7] rfl) hP9 hD9 hS
        · skip
          obtain ⟨x7, ex7⟩ : ∃ z : Int, z = nn + 1 := ⟨_, rfl⟩
          refine zw_iinc (lv' := [(6, .int (zi x7)), (7, .int (zi dd)), (0, .ref h0), (1, .int (zi sl)), (2, .int (zi ot)), (3, .int (zi (sf sl.toNat))), (4, .int (zi (sf ot.toNat))), (5, .int (zi (max (sf sl.toNat) (sf ot.toNat))))]) (k := 0) hx hb ex7 dX4_work_86 hl rfl (by decide) rfl (fun ls hl => ?_)
          obtain ⟨x8, ex8⟩ : ∃ z : Int, z = dd + 1 := ⟨_, rfl⟩
          refine zw_iinc (lv' := [(7, .int (zi x8)), (6, .int (zi x7)), (0, .ref h0), (1, .int (zi sl)), (2, .int (zi ot)), (3, .int (zi (sf sl.toNat))), (4, .int (zi (sf ot.toNat))), (5, .int (zi (max (sf sl.toNat) (sf ot.toNat))))]) (k := 1) hx hb ex8 dX4_work_89 hl rfl (by decide) rfl (fun ls hl => ?_)
          refine lv_goto (tgt := 70) hx hb dX4_work_92 (by decide) ?_
          first | have hmb := mkOk_b hi3 | skip
          subst ex7 ex8
          have hP9 := hP.sub (ws' := [(h0, .inr (4, [.ref qs, .ref qr, .ref qm, .ref qw, .ref qt, .int (zi we)])), (qs, aI cI 10 sf), (qm, .inr (2, [.ref qk, .int (zi fj_4), .int (zi lj_4)])), (qk, aI cI 366 mg_4), (qr, .inr (0, [.int (zi mc), .ref qe, .int (zi ru)])), (qe, aR cO cap ef)]) [1, 0, 2, 3, 4, 5] rfl
          have hD9 := hD.sub (ws' := [(h0, .inr (4, [.ref qs, .ref qr, .ref qm, .ref qw, .ref qt, .int (zi we)])), (qs, aI cI 10 sf), (qm, .inr (2, [.ref qk, .int (zi fj_4), .int (zi lj_4)])), (qk, aI cI 366 mg_4), (qr, .inr (0, [.int (zi mc), .ref qe, .int (zi ru)])), (qe, aR cO cap ef)]) [1, 0, 2, 3, 4, 5] (by decide) rfl
          exact ih (nn + 1) (dd + 1) fj_4 lj_4 mg_4 (by omega) (by omega) (by omega) (by first | assumption | exact Or.inl ⟨by omega, by omega, rfl⟩) (by omega) ls _ _ (lv_sub hl [1, 0, 2, 3, 4, 5, 6, 7] rfl) hP9 hD9 hS
  have hl := lv_entry ([.ref h0, .int (zi sl), .int (zi ot)]) (n := 8) (Nat.le_of_ble_eq_true rfl)
  rw [lg_entry_eq]
  generalize (lg_sl ([.ref h0, .int (zi sl), .int (zi ot)]) ++ List.replicate (8 - (lg_sl ([.ref h0, .int (zi sl), .int (zi ot)])).length) Slot.unset).toArray = ls at hl ⊢
  have hl : lv_has ls 8 [(0, .ref h0), (1, .int (zi sl)), (2, .int (zi ot))] := hl
  have hRK := hp5
  have hEF := hp6
  refine lv_iload_n hx hb dX4_work_0 rfl (lv_at hl 1 rfl) ?_
  have hh9 := c_X4_needSlot l sl (by omega)
  refine va_csv (va_Run.run (va_runS (As := [.int (zi sl)]) (rest := []) ⟨hx, hb, hml, hown, hts⟩ hh9 (va_cwS 1 hts gX4_work_X4_needSlot rfl rfl rfl (by decide +kernel) ⟨Nat.le_of_ble_eq_true rfl, Nat.le_of_ble_eq_true rfl⟩) ⟨fun a U g mk q => q, fun U hU hW => ⟨rfl, trivial⟩⟩ rfl rfl hl.1 rfl (lv_room (Nat.le_of_ble_eq_true rfl)) dX4_work_1 ⟨Nat.le_of_ble_eq_true rfl, Nat.le_of_ble_eq_true rfl⟩)) (fun _ => ?_)
  refine lv_iload_n hx hb dX4_work_4 rfl (lv_at hl 2 rfl) ?_
  have hh10 := c_X4_needSlot l ot (by omega)
  refine va_csv (va_Run.run (va_runS (As := [.int (zi ot)]) (rest := []) ⟨hx, hb, hml, hown, hts⟩ hh10 (va_cwS 1 hts gX4_work_X4_needSlot rfl rfl rfl (by decide +kernel) ⟨Nat.le_of_ble_eq_true rfl, Nat.le_of_ble_eq_true rfl⟩) ⟨fun a U g mk q => q, fun U hU hW => ⟨rfl, trivial⟩⟩ rfl rfl hl.1 rfl (lv_room (Nat.le_of_ble_eq_true rfl)) dX4_work_5 ⟨Nat.le_of_ble_eq_true rfl, Nat.le_of_ble_eq_true rfl⟩)) (fun _ => ?_)
  refine lv_aload_n hx hb dX4_work_8 rfl (lv_at hl 0 rfl) ?_
  refine lv_iload_n hx hb dX4_work_9 rfl (lv_at hl 1 rfl) ?_
  have hh11 := c_X4_dateIn l dC dI cI h0 qs qr qm qw qt we sf sl (by omega) (by omega)
  have hPc := hP.sub (ws' := [(h0, .inr (4, [.ref qs, .ref qr, .ref qm, .ref qw, .ref qt, .int (zi we)])), (qs, aI cI 10 sf)]) [0, 1] rfl
  have hKc : va_K (dC, dI) vwCl [(cI, .int)] s := hK.sub (tys' := [(cI, .int)]) [0] rfl
  refine vp_callSi (va_Run.run (va_runV (As := [.int (zi sl)]) (rest := []) ⟨hx, hb, hml, hown, hts⟩ hh11 (cwV 1 hts gX4_work_X4_dateIn rfl rfl rfl (by decide +kernel) ⟨Nat.le_of_ble_eq_true rfl, Nat.le_of_ble_eq_true rfl⟩) ⟨zPr.blind _ _ _ _, va_recv hKc hPc (ci := 4) (q0 := 0) rfl rfl, fun U hU hW => ⟨rfl, by rw [hU]; exact hPc, va_K.moved hW.alike hKc⟩⟩ rfl rfl hl.1 rfl (lv_room (Nat.le_of_ble_eq_true rfl)) dX4_work_10 ⟨Nat.le_of_ble_eq_true rfl, Nat.le_of_ble_eq_true rfl⟩)) (fun r11 (hr11 : r11 = zi (sf sl.toNat)) => ?_)
  subst hr11
  refine zw_top (fun x12 ex12 => ?_)
  refine lv_istore_n (lv' := [(3, .int (zi x12)), (0, .ref h0), (1, .int (zi sl)), (2, .int (zi ot))]) hx hb dX4_work_13 rfl hl (by decide) rfl (fun ls hl => ?_)
  refine lv_aload_n hx hb dX4_work_14 rfl (lv_at hl 1 rfl) ?_
  refine lv_iload_n hx hb dX4_work_15 rfl (lv_at hl 3 rfl) ?_
  have hh13 := c_X4_dateIn l dC dI cI h0 qs qr qm qw qt we sf ot (by omega) (by omega)
  have hPc := hP.sub (ws' := [(h0, .inr (4, [.ref qs, .ref qr, .ref qm, .ref qw, .ref qt, .int (zi we)])), (qs, aI cI 10 sf)]) [0, 1] rfl
  have hKc : va_K (dC, dI) vwCl [(cI, .int)] s := hK.sub (tys' := [(cI, .int)]) [0] rfl
  refine vp_callSi (va_Run.run (va_runV (As := [.int (zi ot)]) (rest := []) ⟨hx, hb, hml, hown, hts⟩ hh13 (cwV 1 hts gX4_work_X4_dateIn rfl rfl rfl (by decide +kernel) ⟨Nat.le_of_ble_eq_true rfl, Nat.le_of_ble_eq_true rfl⟩) ⟨zPr.blind _ _ _ _, va_recv hKc hPc (ci := 4) (q0 := 0) rfl rfl, fun U hU hW => ⟨rfl, by rw [hU]; exact hPc, va_K.moved hW.alike hKc⟩⟩ rfl rfl hl.1 rfl (lv_room (Nat.le_of_ble_eq_true rfl)) dX4_work_16 ⟨Nat.le_of_ble_eq_true rfl, Nat.le_of_ble_eq_true rfl⟩)) (fun r13 (hr13 : r13 = zi (sf ot.toNat)) => ?_)
  subst hr13
  refine zw_top (fun x14 ex14 => ?_)
  refine lv_istore (lv' := [(4, .int (zi x14)), (3, .int (zi x12)), (0, .ref h0), (1, .int (zi sl)), (2, .int (zi ot))]) hx hb dX4_work_19 hl (by decide) rfl (fun ls hl => ?_)
  refine lv_iload hx hb dX4_work_21 (lv_at hl 0 rfl) ?_
  refine lv_iload_n hx hb dX4_work_23 rfl (lv_at hl 1 rfl) ?_
  refine zw_isub hx hb dX4_work_24 ?_
  refine zw_abs hx hb (hml.trans hl.1.symm) hown (hts (.methodLink RX4 164 Lib.Math.abs.name) (by decide +kernel)) (hts (.static Lib.Math.abs.name) (by decide +kernel)) (hts (.initialized "java/lang/Math") (by decide +kernel)) (hts _ (by decide +kernel)) (Nat.le_of_ble_eq_true rfl) (Nat.le_of_ble_eq_true rfl) (Nat.le_of_ble_eq_true rfl) (Nat.le_of_ble_eq_true rfl) dX4_work_25 ⟨by omega, by omega⟩ ?_
  refine zw_sipush hx hb dX4_work_28 (by decide) ?_
  refine zw_icmp_le (tgt := 44) hx hb dX4_work_31 (by decide) ⟨by omega, by omega⟩ ⟨by omega, by omega⟩ (fun h15 => ?_) (fun h15 => ?_)
  · skip
    refine lv_iload_n hx hb dX4_work_44 rfl (lv_at hl 1 rfl) ?_
    refine lv_iload hx hb dX4_work_45 (lv_at hl 0 rfl) ?_
    refine zw_max hx hb (hml.trans hl.1.symm) hown (hts (.methodLink RX4 171 Lib.Math.max.name) (by decide +kernel)) (hts (.static Lib.Math.max.name) (by decide +kernel)) (hts (.initialized "java/lang/Math") (by decide +kernel)) (hts _ (by decide +kernel)) (Nat.le_of_ble_eq_true rfl) (Nat.le_of_ble_eq_true rfl) (Nat.le_of_ble_eq_true rfl) (Nat.le_of_ble_eq_true rfl) dX4_work_47 ⟨by omega, by omega⟩ ⟨by omega, by omega⟩ ?_
    refine zw_top (fun x16 ex16 => ?_)
    refine lv_istore (lv' := [(5, .int (zi x16)), (4, .int (zi x14)), (3, .int (zi x12)), (0, .ref h0), (1, .int (zi sl)), (2, .int (zi ot))]) hx hb dX4_work_50 hl (by decide) rfl (fun ls hl => ?_)
    refine zw_iconst hx hb dX4_work_52 ?_
    refine lv_istore (lv' := [(6, .int (zi 0)), (5, .int (zi x16)), (4, .int (zi x14)), (3, .int (zi x12)), (0, .ref h0), (1, .int (zi sl)), (2, .int (zi ot))]) hx hb dX4_work_53 hl (by decide) rfl (fun ls hl => ?_)
    refine lv_aload_n hx hb dX4_work_55 rfl (lv_at hl 4 rfl) ?_
    refine va_get (D := (dC, dI)) (ci := 4) (v := .ref qm) (C := RX4) (T := TX4) (N := 6) hx hb hts (by decide +kernel) hown hK hP 0 rfl rfl 2 (by decide) (hts (.fieldLink RX4 23 "CivilDays" "marked" "LCivilDays$MarkedYear;") (by decide +kernel)) (fun _ h9 => h9) rfl dX4_work_56 ?_
    have hh17 := c_X2_forget l dC dI cI qm qk fi ln mf s.heap.size 
    have hPc := hP.sub (ws' := [(qm, .inr (2, [.ref qk, .int (zi fi), .int (zi ln)])), (qk, aI cI 366 mf)]) [2, 3] rfl
    have hKc : va_K (dC, dI) vwCl [(cI, .int)] s := hK.sub (tys' := [(cI, .int)]) [0] rfl
    have hDc := hD.sub (ws' := [(qm, .inr (2, [.ref qk, .int (zi fi), .int (zi ln)])), (qk, aI cI 366 mf)]) [2, 3] (by decide) rfl
    have hFc := va_free (wc := [(qm, .inr (2, [.ref qk, .int (zi fi), .int (zi ln)])), (qk, aI cI 366 mf)]) hD hS hA [2, 3] rfl
    refine va_callv (va_runV (As := []) (rest := []) ⟨hx, hb, hml, hown, hts⟩ hh17 (cwV 0 hts gX4_work_X2_forget rfl rfl rfl (by decide +kernel) ⟨Nat.le_of_ble_eq_true rfl, Nat.le_of_ble_eq_true rfl⟩) ⟨zPw.blind _ _ _ _ _, va_recv hKc hPc (ci := 2) (q0 := 0) rfl rfl, fun U hU hW => ⟨rfl, by rw [hU], by rw [hU]; exact hPc, va_K.moved hW.alike hKc, hDc.weaken (fun _ _ _ _ => trivial)⟩⟩ rfl rfl hl.1 rfl (lv_room (Nat.le_of_ble_eq_true rfl)) dX4_work_59 ⟨Nat.le_of_ble_eq_true rfl, Nat.le_of_ble_eq_true rfl⟩) hS (fun q _ h => hFc q h) hFc (fun u t H1 locs ht hvm hw hB hz1 hk1 hS => ?_)
    obtain ⟨hP1, hK1, hD1⟩ := hB
    rw [ht] at hP1
    obtain ⟨hP, hD⟩ := va_join (wr := [(h0, .inr (4, [.ref qs, .ref qr, .ref qm, .ref qw, .ref qt, .int (zi we)])), (qs, aI cI 10 sf), (qr, .inr (0, [.int (zi mc), .ref qe, .int (zi ru)])), (qe, aR cO cap ef)]) (w1 := [(qm, .inr (2, [.ref qk, .int (zi fi), .int (zi 0)])), (qk, aI cI 366 mf)]) hP hD [2, 3] [0, 1, 4, 5] rfl rfl (by decide) (by decide) hk1 hFc hP1 hD1
    generalize H1 = H at hP hS ⊢
    have hP : va_P (dC, dI) vwCl [(h0, .inr (4, [.ref qs, .ref qr, .ref qm, .ref qw, .ref qt, .int (zi we)])), (qs, aI cI 10 sf), (qr, .inr (0, [.int (zi mc), .ref qe, .int (zi ru)])), (qe, aR cO cap ef), (qm, .inr (2, [.ref qk, .int (zi fi), .int (zi 0)])), (qk, aI cI 366 mf)] H := hP
    have hD : va_D A [(h0, .inr (4, [.ref qs, .ref qr, .ref qm, .ref qw, .ref qt, .int (zi we)])), (qs, aI cI 10 sf), (qr, .inr (0, [.int (zi mc), .ref qe, .int (zi ru)])), (qe, aR cO cap ef), (qm, .inr (2, [.ref qk, .int (zi fi), .int (zi 0)])), (qk, aI cI 366 mf)] := hD
    refine lv_iload_n hx hb dX4_work_62 rfl (lv_at hl 3 rfl) ?_
    refine lv_iload hx hb dX4_work_63 (lv_at hl 2 rfl) ?_
    refine zw_min hx hb (hml.trans hl.1.symm) hown (hts (.methodLink RX4 177 Lib.Math.min.name) (by decide +kernel)) (hts (.static Lib.Math.min.name) (by decide +kernel)) (hts (.initialized "java/lang/Math") (by decide +kernel)) (hts _ (by decide +kernel)) (Nat.le_of_ble_eq_true rfl) (Nat.le_of_ble_eq_true rfl) (Nat.le_of_ble_eq_true rfl) (Nat.le_of_ble_eq_true rfl) dX4_work_65 ⟨by omega, by omega⟩ ⟨by omega, by omega⟩ ?_
    refine zw_top (fun x18 ex18 => ?_)
    refine lv_istore (lv' := [(7, .int (zi x18)), (6, .int (zi 0)), (5, .int (zi x16)), (4, .int (zi x14)), (3, .int (zi x12)), (0, .ref h0), (1, .int (zi sl)), (2, .int (zi ot))]) hx hb dX4_work_68 hl (by decide) rfl (fun ls hl => ?_)
    first | have hmb := mkOk_b hi3 | skip
    subst ex12 ex14 ex16 ex18
    have hP9 := hP.sub (ws' := [(h0, .inr (4, [.ref qs, .ref qr, .ref qm, .ref qw, .ref qt, .int (zi we)])), (qs, aI cI 10 sf), (qm, .inr (2, [.ref qk, .int (zi fi), .int (zi 0)])), (qk, aI cI 366 mf), (qr, .inr (0, [.int (zi mc), .ref qe, .int (zi ru)])), (qe, aR cO cap ef)]) [0, 1, 4, 5, 2, 3] rfl
    have hD9 := hD.sub (ws' := [(h0, .inr (4, [.ref qs, .ref qr, .ref qm, .ref qw, .ref qt, .int (zi we)])), (qs, aI cI 10 sf), (qm, .inr (2, [.ref qk, .int (zi fi), .int (zi 0)])), (qk, aI cI 366 mf), (qr, .inr (0, [.int (zi mc), .ref qe, .int (zi ru)])), (qe, aR cO cap ef)]) [0, 1, 4, 5, 2, 3] (by decide) rfl
    exact loop70 (4001) 0 (min (sf sl.toNat) (sf ot.toNat)) fi 0 mf (by omega) (by omega) (by omega) (by first | assumption | exact Or.inl ⟨by omega, by omega, rfl⟩) (by omega) ls _ _ (lv_sub hl [1, 0, 5, 6, 7, 4, 3, 2] rfl) hP9 hD9 hS
  · skip
    exact absurd True.intro (by omega)

set_option maxHeartbeats 4000000 in
set_option maxRecDepth 100000 in
theorem t_X4_moveWork_1 (l : Launch) (hst : l.stackTraces = false) (h0 : Nat) (sl : Int) (many : Int) (hp0 : -2147483648 ≤ sl ∧ sl ≤ 2147483647) (hp1 : sl < 0 ∨ 9 < sl) : vx_Met l yX4_moveWork wsX4_moveWork ({ frames := 7, cells := 1, slots := 6, locals := 110 }) (zP [.ref h0, .int (zi sl), .int (zi many)]) zNo (zX "java/lang/IndexOutOfBoundsException") 1 6 zN := by
  refine vx_ofW (cc := cX4_moveWork) (maxL := 6) (ret := (some .int)) (by decide) rfl ?_
  intro p e s m args below meth c s₁ B hml hno hv
  obtain ⟨rfl, hE⟩ := hv
  have hx := B.exec
  have hb := B.bytes
  have hr := B.returns
  have hts := atoms_spec (ws := wsX4_moveWork) B.pre
  have hown : s.vm.findClass RX4 = some m.cls := findClass_of_methodNamed B.named
  have hlocks := B.notSynchronized
  have hl := lv_entry ([.ref h0, .int (zi sl), .int (zi many)]) (n := 6) (Nat.le_of_ble_eq_true rfl)
  rw [lg_entry_eq]
  generalize (lg_sl ([.ref h0, .int (zi sl), .int (zi many)]) ++ List.replicate (6 - (lg_sl ([.ref h0, .int (zi sl), .int (zi many)])).length) Slot.unset).toArray = ls at hl ⊢
  have hl : lv_has ls 6 [(0, .ref h0), (1, .int (zi sl)), (2, .int (zi many))] := hl
  refine lv_iload_n hx hb dX4_moveWork_0 rfl (lv_at hl 1 rfl) ?_
  have hh1 := t_X4_needSlot l hst sl (by omega) (by omega)
  exact zt_pass (vx_runS (As := [.int (zi sl)]) (rest := []) ⟨hx, hb, hml, hown, hts⟩ hh1 (va_cwS 1 hts gX4_moveWork_X4_needSlot rfl rfl rfl (by decide +kernel) ⟨Nat.le_of_ble_eq_true rfl, Nat.le_of_ble_eq_true rfl⟩) ⟨zP.blind _, fun U hU hW => ⟨rfl, hE.call va_S.rf (fun q h => by rw [hU] at h; exact h) hU hW⟩⟩ rfl rfl hl.1 rfl (lv_room (Nat.le_of_ble_eq_true rfl)) dX4_moveWork_1 ⟨Nat.le_of_ble_eq_true rfl, Nat.le_of_ble_eq_true rfl⟩) hno hlocks

set_option maxHeartbeats 4000000 in
set_option maxRecDepth 100000 in
theorem t_X4_moveWork_2 (l : Launch) (hst : l.stackTraces = false) (dC : Nat → ClassId) (dI : Nat → Nat → Nat) (cI : ClassId) (h0 : Nat) (qs : Nat) (qr : Nat) (qm : Nat) (qw : Nat) (qt : Nat) (we : Int) (sf : Nat → Int) (sl : Int) (many : Int) (hp0 : 0 ≤ sl ∧ sl ≤ 9) (hp1 : (sf sl.toNat) = -1) : vx_Met l yX4_moveWork wsX4_moveWork ({ frames := 7, cells := 1, slots := 6, locals := 112 }) (zPt (dC, dI) [(cI, .int)] [.ref h0, .int (zi sl), .int (zi many)] [(h0, .inr (4, [.ref qs, .ref qr, .ref qm, .ref qw, .ref qt, .int (zi we)])), (qs, aI cI 10 sf)]) zNo (zX "java/lang/IllegalStateException") 1 6 zN := by
  refine vx_ofW (cc := cX4_moveWork) (maxL := 6) (ret := (some .int)) (by decide) rfl ?_
  intro p e s m args below meth c s₁ B hml hno hv
  obtain ⟨rfl, hE, hP, hK⟩ := hv
  have hx := B.exec
  have hb := B.bytes
  have hr := B.returns
  have hts := atoms_spec (ws := wsX4_moveWork) B.pre
  have hown : s.vm.findClass RX4 = some m.cls := findClass_of_methodNamed B.named
  have hlocks := B.notSynchronized
  have hl := lv_entry ([.ref h0, .int (zi sl), .int (zi many)]) (n := 6) (Nat.le_of_ble_eq_true rfl)
  rw [lg_entry_eq]
  generalize (lg_sl ([.ref h0, .int (zi sl), .int (zi many)]) ++ List.replicate (6 - (lg_sl ([.ref h0, .int (zi sl), .int (zi many)])).length) Slot.unset).toArray = ls at hl ⊢
  have hl : lv_has ls 6 [(0, .ref h0), (1, .int (zi sl)), (2, .int (zi many))] := hl
  refine lv_iload_n hx hb dX4_moveWork_0 rfl (lv_at hl 1 rfl) ?_
  have hh1 := c_X4_needSlot l sl (by omega)
  refine va_csv (va_Run.run (va_runS (As := [.int (zi sl)]) (rest := []) ⟨hx, hb, hml, hown, hts⟩ hh1 (va_cwS 1 hts gX4_moveWork_X4_needSlot rfl rfl rfl (by decide +kernel) ⟨Nat.le_of_ble_eq_true rfl, Nat.le_of_ble_eq_true rfl⟩) ⟨fun a U g mk q => q, fun U hU hW => ⟨rfl, trivial⟩⟩ rfl rfl hl.1 rfl (lv_room (Nat.le_of_ble_eq_true rfl)) dX4_moveWork_1 ⟨Nat.le_of_ble_eq_true rfl, Nat.le_of_ble_eq_true rfl⟩)) (fun _ => ?_)
  refine lv_aload_n hx hb dX4_moveWork_4 rfl (lv_at hl 0 rfl) ?_
  refine lv_iload_n hx hb dX4_moveWork_5 rfl (lv_at hl 1 rfl) ?_
  have hh2 := t_X4_dateIn l hst dC dI cI h0 qs qr qm qw qt we sf sl (by omega) (by omega)
  have hPc := hP.sub (ws' := [(h0, .inr (4, [.ref qs, .ref qr, .ref qm, .ref qw, .ref qt, .int (zi we)])), (qs, aI cI 10 sf)]) [0, 1] rfl
  have hKc : va_K (dC, dI) vwCl [(cI, .int)] s := hK
  exact zt_pass (vx_runV (As := [.int (zi sl)]) (rest := []) ⟨hx, hb, hml, hown, hts⟩ hh2 (cwV 1 hts gX4_moveWork_X4_dateIn rfl rfl rfl (by decide +kernel) ⟨Nat.le_of_ble_eq_true rfl, Nat.le_of_ble_eq_true rfl⟩) ⟨zPt.blind _ _ _ _, va_recv hKc hPc (ci := 4) (q0 := 0) rfl rfl, fun U hU hW => ⟨rfl, hE.call va_S.rf (fun q h => by rw [hU] at h; exact h) hU hW, by rw [hU]; exact hPc, va_K.moved hW.alike hKc⟩⟩ rfl rfl hl.1 rfl (lv_room (Nat.le_of_ble_eq_true rfl)) dX4_moveWork_6 ⟨Nat.le_of_ble_eq_true rfl, Nat.le_of_ble_eq_true rfl⟩) hno hlocks

set_option maxHeartbeats 4000000 in
set_option maxRecDepth 100000 in
theorem t_X4_moveWork_3 (l : Launch) (hst : l.stackTraces = false) (dC : Nat → ClassId) (dI : Nat → Nat → Nat) (cI : ClassId) (h0 : Nat) (qs : Nat) (qr : Nat) (qm : Nat) (qw : Nat) (qt : Nat) (we : Int) (sf : Nat → Int) (sl : Int) (many : Int) (hp0 : 0 ≤ sl ∧ sl ≤ 9) (hp1 : 0 ≤ (sf sl.toNat) ∧ (sf sl.toNat) ≤ 3652058) (hp2 : -2147483648 ≤ many ∧ many ≤ 2147483647) (hp3 : many < -1000 ∨ 1000 < many) : vx_Met l yX4_moveWork wsX4_moveWork ({ frames := 6, cells := 1, slots := 6, locals := 90 }) (zPt (dC, dI) [(cI, .int)] [.ref h0, .int (zi sl), .int (zi many)] [(h0, .inr (4, [.ref qs, .ref qr, .ref qm, .ref qw, .ref qt, .int (zi we)])), (qs, aI cI 10 sf)]) zNo (zX "java/lang/IllegalArgumentException") 1 6 zN := by
  refine vx_ofW (cc := cX4_moveWork) (maxL := 6) (ret := (some .int)) (by decide) rfl ?_
  intro p e s m args below meth c s₁ B hml hno hv
  obtain ⟨rfl, hE, hP, hK⟩ := hv
  have hx := B.exec
  have hb := B.bytes
  have hr := B.returns
  have hts := atoms_spec (ws := wsX4_moveWork) B.pre
  have hown : s.vm.findClass RX4 = some m.cls := findClass_of_methodNamed B.named
  have hlocks := B.notSynchronized
  have hl := lv_entry ([.ref h0, .int (zi sl), .int (zi many)]) (n := 6) (Nat.le_of_ble_eq_true rfl)
  rw [lg_entry_eq]
  generalize (lg_sl ([.ref h0, .int (zi sl), .int (zi many)]) ++ List.replicate (6 - (lg_sl ([.ref h0, .int (zi sl), .int (zi many)])).length) Slot.unset).toArray = ls at hl ⊢
  have hl : lv_has ls 6 [(0, .ref h0), (1, .int (zi sl)), (2, .int (zi many))] := hl
  refine lv_iload_n hx hb dX4_moveWork_0 rfl (lv_at hl 1 rfl) ?_
  have hh1 := c_X4_needSlot l sl (by omega)
  refine va_csv (va_Run.run (va_runS (As := [.int (zi sl)]) (rest := []) ⟨hx, hb, hml, hown, hts⟩ hh1 (va_cwS 1 hts gX4_moveWork_X4_needSlot rfl rfl rfl (by decide +kernel) ⟨Nat.le_of_ble_eq_true rfl, Nat.le_of_ble_eq_true rfl⟩) ⟨fun a U g mk q => q, fun U hU hW => ⟨rfl, trivial⟩⟩ rfl rfl hl.1 rfl (lv_room (Nat.le_of_ble_eq_true rfl)) dX4_moveWork_1 ⟨Nat.le_of_ble_eq_true rfl, Nat.le_of_ble_eq_true rfl⟩)) (fun _ => ?_)
  refine lv_aload_n hx hb dX4_moveWork_4 rfl (lv_at hl 0 rfl) ?_
  refine lv_iload_n hx hb dX4_moveWork_5 rfl (lv_at hl 1 rfl) ?_
  have hh2 := c_X4_dateIn l dC dI cI h0 qs qr qm qw qt we sf sl (by omega) (by omega)
  have hPc := hP.sub (ws' := [(h0, .inr (4, [.ref qs, .ref qr, .ref qm, .ref qw, .ref qt, .int (zi we)])), (qs, aI cI 10 sf)]) [0, 1] rfl
  have hKc : va_K (dC, dI) vwCl [(cI, .int)] s := hK
  refine vp_callSi (va_Run.run (va_runV (As := [.int (zi sl)]) (rest := []) ⟨hx, hb, hml, hown, hts⟩ hh2 (cwV 1 hts gX4_moveWork_X4_dateIn rfl rfl rfl (by decide +kernel) ⟨Nat.le_of_ble_eq_true rfl, Nat.le_of_ble_eq_true rfl⟩) ⟨zPr.blind _ _ _ _, va_recv hKc hPc (ci := 4) (q0 := 0) rfl rfl, fun U hU hW => ⟨rfl, by rw [hU]; exact hPc, va_K.moved hW.alike hKc⟩⟩ rfl rfl hl.1 rfl (lv_room (Nat.le_of_ble_eq_true rfl)) dX4_moveWork_6 ⟨Nat.le_of_ble_eq_true rfl, Nat.le_of_ble_eq_true rfl⟩)) (fun r2 (hr2 : r2 = zi (sf sl.toNat)) => ?_)
  subst hr2
  refine zw_top (fun x3 ex3 => ?_)
  refine lv_istore_n (lv' := [(3, .int (zi x3)), (0, .ref h0), (1, .int (zi sl)), (2, .int (zi many))]) hx hb dX4_moveWork_9 rfl hl (by decide) rfl (fun ls hl => ?_)
  refine lv_iload_n hx hb dX4_moveWork_10 rfl (lv_at hl 3 rfl) ?_
  refine zw_sipush hx hb dX4_moveWork_11 (by decide) ?_
  refine zw_icmp_lt (tgt := 24) hx hb dX4_moveWork_14 (by decide) ⟨by omega, by omega⟩ ⟨by omega, by omega⟩ (fun h4 => ?_) (fun h4 => ?_)
  · skip
    exact zt_throw (cls := "java/lang/IllegalArgumentException") (text := "this is too far to move by working days") (ik := 88) (is := 183) (ic := 92) hx hb hst hown hE (by decide +kernel) (hts (.classLink RX4 88 "java/lang/IllegalArgumentException") (by decide +kernel)) (hts (.initialized "java/lang/IllegalArgumentException") (by decide +kernel)) (by decide) (fun w h => hts w (List.mem_cons_of_mem _ (List.mem_append_left _ (List.mem_append_left _ (List.mem_append_left _ (List.mem_append_right _ h)))))) (by decide +kernel) (by decide +kernel) (hl.1.trans hml.symm) dX4_moveWork_24 dX4_moveWork_27 dX4_moveWork_28 dX4_moveWork_30 dX4_moveWork_33 hno (Nat.le_of_ble_eq_true rfl) (Nat.le_of_ble_eq_true rfl) (Nat.le_of_ble_eq_true rfl) (Nat.le_of_ble_eq_true rfl) hlocks
  · skip
    refine lv_iload_n hx hb dX4_moveWork_17 rfl (lv_at hl 3 rfl) ?_
    refine zw_sipush hx hb dX4_moveWork_18 (by decide) ?_
    refine zw_icmp_le (tgt := 34) hx hb dX4_moveWork_21 (by decide) ⟨by omega, by omega⟩ ⟨by omega, by omega⟩ (fun h5 => ?_) (fun h5 => ?_)
    · skip
      exact absurd True.intro (by omega)
    · skip
      exact zt_throw (cls := "java/lang/IllegalArgumentException") (text := "this is too far to move by working days") (ik := 88) (is := 183) (ic := 92) hx hb hst hown hE (by decide +kernel) (hts (.classLink RX4 88 "java/lang/IllegalArgumentException") (by decide +kernel)) (hts (.initialized "java/lang/IllegalArgumentException") (by decide +kernel)) (by decide) (fun w h => hts w (List.mem_cons_of_mem _ (List.mem_append_left _ (List.mem_append_left _ (List.mem_append_left _ (List.mem_append_right _ h)))))) (by decide +kernel) (by decide +kernel) (hl.1.trans hml.symm) dX4_moveWork_24 dX4_moveWork_27 dX4_moveWork_28 dX4_moveWork_30 dX4_moveWork_33 hno (Nat.le_of_ble_eq_true rfl) (Nat.le_of_ble_eq_true rfl) (Nat.le_of_ble_eq_true rfl) (Nat.le_of_ble_eq_true rfl) hlocks

set_option maxHeartbeats 4000000 in
set_option maxRecDepth 100000 in
theorem c_X4_moveWork_p (l : Launch)  (dC : Nat → ClassId) (dI : Nat → Nat → Nat) (cI : ClassId) (cO : ClassId) (h0 : Nat) (qs : Nat) (qr : Nat) (qm : Nat) (qw : Nat) (qt : Nat) (we : Int) (sf : Nat → Int) (qk : Nat) (fi : Int) (ln : Int) (mf : Nat → Int) (mc : Int) (qe : Nat) (ru : Int) (cap : Nat) (ef : Nat → Option Nat) (rf : Nat → Nat) (kf : Nat → Int) (af : Nat → Int) (bf : Nat → Int) (zf : Nat → Int) (fz : Nat) (rr : Int) (sl : Int) (many : Int) (sz : Nat) (hp0 : 0 ≤ sl ∧ sl ≤ 9) (hp1 : 0 ≤ (sf sl.toNat) ∧ (sf sl.toNat) ≤ 3652058) (hp2 : 0 ≤ ru ∧ ru ≤ 12 ∧ ru ≤ (cap : Int) ∧ (cap : Int) ≤ 1000) (hp3 : ∀ j : Nat, (j : Int) < ru → (0 ≤ (kf j) ∧ (kf j) ≤ 3) ∧ ((kf j) = 1 ∧ -100 ≤ (af j) ∧ (af j) ≤ 100 ∨ (kf j) ≠ 1 ∧ 1 ≤ (af j) ∧ (af j) ≤ 12) ∧ ((kf j) = 1 ∨ (kf j) = 2 ∧ 1 ≤ (bf j) ∧ (bf j) ≤ 7 ∨ (kf j) ≠ 2 ∧ 1 ≤ (bf j) ∧ (bf j) ≤ 31) ∧ ((kf j) ≠ 2 ∨ (zf j) = -1 ∨ 1 ≤ (zf j) ∧ (zf j) ≤ 4)) (hp4 : ∀ j : Nat, (j : Int) < ru → ef j = some (rf j)) (hp5 : 0 ≤ we ∧ we ≤ 127) (hp6 : 0 ≤ fi ∧ fi ≤ 4000000 ∧ 0 ≤ ln ∧ ln ≤ 366) (hp7 : -1000 ≤ many ∧ many ≤ 1000 ∧ 0 ≤ many) (hp8 : 4000000 ≤ fz) (hp9 : zmv (wkX4 we kf af bf zf ru) 1 fz (sf sl.toNat) many = rr) (hp10 : 0 ≤ rr ∧ rr ≤ 3652058) : Met l yX4_moveWork wsX4_moveWork ({ frames := 6, cells := 0, slots := 0, locals := 135 }) (zPwF (dC, dI) [(cI, .int), (cO, .object "java/lang/Object")] sz [.ref h0, .int (zi sl), .int (zi many)] [(h0, .inr (4, [.ref qs, .ref qr, .ref qm, .ref qw, .ref qt, .int (zi we)])), (qs, aI cI 10 sf), (qm, .inr (2, [.ref qk, .int (zi fi), .int (zi ln)])), (qk, aI cI 366 mf), (qr, .inr (0, [.int (zi mc), .ref qe, .int (zi ru)])), (qe, aR cO cap ef)] (zRu (dC, dI) ru rf kf af bf zf)) (va_Qi (fun (r : Int32) (u : (Int) × (Int) × (Nat → Int) × (Nat → Int)) => r = zi rr ∧ ((0 ≤ u.1 ∧ u.1 ≤ 4000000 ∧ 0 ≤ u.2.1 ∧ u.2.1 ≤ 366) ∧ u.2.2.2 = zup sf sl.toNat rr)) (fun (u : (Int) × (Int) × (Nat → Int) × (Nat → Int)) => zB (dC, dI) [(cI, .int), (cO, .object "java/lang/Object")] (va_A [(h0, .inr (4, [.ref qs, .ref qr, .ref qm, .ref qw, .ref qt, .int (zi we)])), (qs, aI cI 10 sf), (qm, .inr (2, [.ref qk, .int (zi fi), .int (zi ln)])), (qk, aI cI 366 mf), (qr, .inr (0, [.int (zi mc), .ref qe, .int (zi ru)])), (qe, aR cO cap ef)] sz) [(h0, .inr (4, [.ref qs, .ref qr, .ref qm, .ref qw, .ref qt, .int (zi we)])), (qs, aI cI 10 u.2.2.2), (qm, .inr (2, [.ref qk, .int (zi u.1), .int (zi u.2.1)])), (qk, aI cI 366 u.2.2.1), (qr, .inr (0, [.int (zi mc), .ref qe, .int (zi ru)])), (qe, aR cO cap ef)] ()) (va_A [(h0, .inr (4, [.ref qs, .ref qr, .ref qm, .ref qw, .ref qt, .int (zi we)])), (qs, aI cI 10 sf), (qm, .inr (2, [.ref qk, .int (zi fi), .int (zi ln)])), (qk, aI cI 366 mf), (qr, .inr (0, [.int (zi mc), .ref qe, .int (zi ru)])), (qe, aR cO cap ef)] sz)) 0 0 (va_A [(h0, .inr (4, [.ref qs, .ref qr, .ref qm, .ref qw, .ref qt, .int (zi we)])), (qs, aI cI 10 sf), (qm, .inr (2, [.ref qk, .int (zi fi), .int (zi ln)])), (qk, aI cI 366 mf), (qr, .inr (0, [.int (zi mc), .ref qe, .int (zi ru)])), (qe, aR cO cap ef)] sz) := by
  refine Met.ofW (cc := cX4_moveWork) (maxL := 6) (ret := (some .int)) (by decide) rfl ?_
  intro p e s m args below meth c s₁ B hml hv
  obtain ⟨rfl, hsz, hP, hK, hD0, hG⟩ := hv
  have hx := B.exec
  have hb := B.bytes
  have hr := B.returns
  have hts := atoms_spec (ws := wsX4_moveWork) B.pre
  have hown : s.vm.findClass RX4 = some m.cls := findClass_of_methodNamed B.named
  have hlocks := B.notSynchronized
  subst hsz
  have hD := hD0.self (sz := s.heap.size)
  generalize hAe : va_A [(h0, .inr (4, [.ref qs, .ref qr, .ref qm, .ref qw, .ref qt, .int (zi we)])), (qs, aI cI 10 sf), (qm, .inr (2, [.ref qk, .int (zi fi), .int (zi ln)])), (qk, aI cI 366 mf), (qr, .inr (0, [.int (zi mc), .ref qe, .int (zi ru)])), (qe, aR cO cap ef)] s.heap.size = A at hD hG ⊢
  have hA : ∀ q : Nat, s.heap.size ≤ q → A q := fun q h => by rw [← hAe]; exact Or.inr h
  have hS : va_S A s.heap s.heap [] := va_S.rf
  have hP : va_P (dC, dI) vwCl [(h0, .inr (4, [.ref qs, .ref qr, .ref qm, .ref qw, .ref qt, .int (zi we)])), (qs, aI cI 10 sf), (qm, .inr (2, [.ref qk, .int (zi fi), .int (zi ln)])), (qk, aI cI 366 mf), (qr, .inr (0, [.int (zi mc), .ref qe, .int (zi ru)])), (qe, aR cO cap ef)] s.heap := hP
  have loop58 : ∀ (fu : Nat) (nn : Int) (lft : Int) (fj : Int) (lj : Int) (mg : Nat → Int), (zmv (wkX4 we kf af bf zf ru) 1 fu nn lft = rr) → (0 ≤ nn ∧ nn ≤ 3652058 ∧ 0 ≤ lft ∧ lft ≤ 1000) → (mkOk kf af bf zf ru fj lj mg) → (3652060 - nn < fu) → ∀ (ls : Array Slot) (H : Heap) (locs : List Loc), lv_has ls 6 [(3, .int (zi nn)), (5, .int (zi lft)), (0, .ref h0), (1, .int (zi sl)), (2, .int (zi many)), (4, .int (zi 1))] → va_P (dC, dI) vwCl [(h0, .inr (4, [.ref qs, .ref qr, .ref qm, .ref qw, .ref qt, .int (zi we)])), (qs, aI cI 10 sf), (qm, .inr (2, [.ref qk, .int (zi fj), .int (zi lj)])), (qk, aI cI 366 mg), (qr, .inr (0, [.int (zi mc), .ref qe, .int (zi ru)])), (qe, aR cO cap ef)] H → va_D A [(h0, .inr (4, [.ref qs, .ref qr, .ref qm, .ref qw, .ref qt, .int (zi we)])), (qs, aI cI 10 sf), (qm, .inr (2, [.ref qk, .int (zi fj), .int (zi lj)])), (qk, aI cI 366 mg), (qr, .inr (0, [.int (zi mc), .ref qe, .int (zi ru)])), (qe, aR cO cap ef)] → va_S A s.heap H locs → W p l e (headSpec wsX4_moveWork ({ frames := 6, cells := 0, slots := 0, locals := 135 })).room s m ([.ref h0, .int (zi sl), .int (zi many)] : List Value).toArray below meth c H locs 0 0 (MQ below (va_Qi (fun (r : Int32) (u : (Int) × (Int) × (Nat → Int) × (Nat → Int)) => r = zi rr ∧ ((0 ≤ u.1 ∧ u.1 ≤ 4000000 ∧ 0 ≤ u.2.1 ∧ u.2.1 ≤ 366) ∧ u.2.2.2 = zup sf sl.toNat rr)) (fun (u : (Int) × (Int) × (Nat → Int) × (Nat → Int)) => zB (dC, dI) [(cI, .int), (cO, .object "java/lang/Object")] A [(h0, .inr (4, [.ref qs, .ref qr, .ref qm, .ref qw, .ref qt, .int (zi we)])), (qs, aI cI 10 u.2.2.2), (qm, .inr (2, [.ref qk, .int (zi u.1), .int (zi u.2.1)])), (qk, aI cI 366 u.2.2.1), (qr, .inr (0, [.int (zi mc), .ref qe, .int (zi ru)])), (qe, aR cO cap ef)] ()) A) ([.ref h0, .int (zi sl), .int (zi many)] : List Value).toArray s 0 0 A) (F0 m 58 ls []) := by
    intro fu
    induction fu with
    | zero =>
      intro nn lft fj lj mg hi0 hi1 hi2 hfu ls H locs hl hP hD hS
      exact absurd hfu (by omega)
    | succ fu ih =>
      intro nn lft fj lj mg hi0 hi1 hi2 hfu ls H locs hl hP hD hS
      have hP : va_P (dC, dI) vwCl [(h0, .inr (4, [.ref qs, .ref qr, .ref qm, .ref qw, .ref qt, .int (zi we)])), (qs, aI cI 10 sf), (qm, .inr (2, [.ref qk, .int (zi fj), .int (zi lj)])), (qk, aI cI 366 mg), (qr, .inr (0, [.int (zi mc), .ref qe, .int (zi ru)])), (qe, aR cO cap ef)] H := hP
      have hD : va_D A [(h0, .inr (4, [.ref qs, .ref qr, .ref qm, .ref qw, .ref qt, .int (zi we)])), (qs, aI cI 10 sf), (qm, .inr (2, [.ref qk, .int (zi fj), .int (zi lj)])), (qk, aI cI 366 mg), (qr, .inr (0, [.int (zi mc), .ref qe, .int (zi ru)])), (qe, aR cO cap ef)] := hD
      have hRK := hp3
      have hEF := hp4
      first | have hmb := mkOk_b hi2 | skip
      refine lv_iload hx hb dX4_moveWork_58 (lv_at hl 1 rfl) ?_
      refine zw_if_le (tgt := 93) hx hb dX4_moveWork_60 (by decide) ⟨by omega, by omega⟩ (fun h1 => ?_) (fun h1 => ?_)
      · skip
        first | have hz := zmv_0 (wkX4 we kf af bf zf ru) 1 fu nn lft (by omega) | have hz := zmv_x (wkX4 we kf af bf zf ru) 1 fu nn lft (by omega) (by omega)
        refine lv_iload hx hb dX4_moveWork_93 (lv_at hl 1 rfl) ?_
        refine zw_if_le (tgt := 108) hx hb dX4_moveWork_95 (by decide) ⟨by omega, by omega⟩ (fun h2 => ?_) (fun h2 => ?_)
        · skip
          refine lv_aload_n hx hb dX4_moveWork_108 rfl (lv_at hl 2 rfl) ?_
          refine lv_iload_n hx hb dX4_moveWork_109 rfl (lv_at hl 3 rfl) ?_
          refine lv_iload_n hx hb dX4_moveWork_110 rfl (lv_at hl 0 rfl) ?_
          have hh3 := c_X4_keep l dC dI cI h0 qs qr qm qw qt we sf sl nn H.size (by omega) (by omega) (by omega)
          have hPc := hP.sub (ws' := [(h0, .inr (4, [.ref qs, .ref qr, .ref qm, .ref qw, .ref qt, .int (zi we)])), (qs, aI cI 10 sf)]) [0, 1] rfl
          have hKc : va_K (dC, dI) vwCl [(cI, .int)] s := hK.sub (tys' := [(cI, .int)]) [0] rfl
          have hDc := hD.sub (ws' := [(h0, .inr (4, [.ref qs, .ref qr, .ref qm, .ref qw, .ref qt, .int (zi we)])), (qs, aI cI 10 sf)]) [0, 1] (by decide) rfl
          have hFc := va_free (wc := [(h0, .inr (4, [.ref qs, .ref qr, .ref qm, .ref qw, .ref qt, .int (zi we)])), (qs, aI cI 10 sf)]) hD hS hA [0, 1] rfl
          refine va_calli (va_runV (As := [.int (zi sl), .int (zi nn)]) (rest := []) ⟨hx, hb, hml, hown, hts⟩ hh3 (cwV 2 hts gX4_moveWork_X4_keep rfl rfl rfl (by decide +kernel) ⟨Nat.le_of_ble_eq_true rfl, Nat.le_of_ble_eq_true rfl⟩) ⟨zPw.blind _ _ _ _ _, va_recv hKc hPc (ci := 4) (q0 := 0) rfl rfl, fun U hU hW => ⟨rfl, by rw [hU], by rw [hU]; exact hPc, va_K.moved hW.alike hKc, hDc.weaken (fun _ _ _ _ => trivial)⟩⟩ rfl rfl hl.1 rfl (lv_room (Nat.le_of_ble_eq_true rfl)) dX4_moveWork_111 ⟨Nat.le_of_ble_eq_true rfl, Nat.le_of_ble_eq_true rfl⟩) hS (fun q _ h => hFc q h) hFc (fun r3 u t H1 locs ht hvm hw hB hz1 hk1 hS => ?_)
          obtain ⟨hP1, hK1, hD1⟩ := hB
          rw [ht] at hP1
          obtain ⟨hP, hD⟩ := va_join (wr := [(qm, .inr (2, [.ref qk, .int (zi fj), .int (zi lj)])), (qk, aI cI 366 mg), (qr, .inr (0, [.int (zi mc), .ref qe, .int (zi ru)])), (qe, aR cO cap ef)]) (w1 := [(h0, .inr (4, [.ref qs, .ref qr, .ref qm, .ref qw, .ref qt, .int (zi we)])), (qs, aI cI 10 (zup sf sl.toNat nn))]) hP hD [0, 1] [2, 3, 4, 5] rfl rfl (by decide) (by decide) hk1 hFc hP1 hD1
          generalize H1 = H at hP hS ⊢
          obtain rfl : r3 = zi nn := hw
          have hP : va_P (dC, dI) vwCl [(qm, .inr (2, [.ref qk, .int (zi fj), .int (zi lj)])), (qk, aI cI 366 mg), (qr, .inr (0, [.int (zi mc), .ref qe, .int (zi ru)])), (qe, aR cO cap ef), (h0, .inr (4, [.ref qs, .ref qr, .ref qm, .ref qw, .ref qt, .int (zi we)])), (qs, aI cI 10 (zup sf sl.toNat nn))] H := hP
          have hD : va_D A [(qm, .inr (2, [.ref qk, .int (zi fj), .int (zi lj)])), (qk, aI cI 366 mg), (qr, .inr (0, [.int (zi mc), .ref qe, .int (zi ru)])), (qe, aR cO cap ef), (h0, .inr (4, [.ref qs, .ref qr, .ref qm, .ref qw, .ref qt, .int (zi we)])), (qs, aI cI 10 (zup sf sl.toNat nn))] := hD
          have hP9 := hP.sub (ws' := [(h0, .inr (4, [.ref qs, .ref qr, .ref qm, .ref qw, .ref qt, .int (zi we)])), (qs, aI cI 10 (zup sf sl.toNat nn)), (qm, .inr (2, [.ref qk, .int (zi fj), .int (zi lj)])), (qk, aI cI 366 mg), (qr, .inr (0, [.int (zi mc), .ref qe, .int (zi ru)])), (qe, aR cO cap ef)]) [4, 5, 0, 1, 2, 3] rfl
          have hD9 := hD.sub (ws' := [(h0, .inr (4, [.ref qs, .ref qr, .ref qm, .ref qw, .ref qt, .int (zi we)])), (qs, aI cI 10 (zup sf sl.toNat nn)), (qm, .inr (2, [.ref qk, .int (zi fj), .int (zi lj)])), (qk, aI cI 366 mg), (qr, .inr (0, [.int (zi mc), .ref qe, .int (zi ru)])), (qe, aR cO cap ef)]) [4, 5, 0, 1, 2, 3] (by decide) rfl
          have hp9 : (0 ≤ fj ∧ fj ≤ 4000000 ∧ 0 ≤ lj ∧ lj ≤ 366) ∧ (zup sf sl.toNat nn) = zup sf sl.toNat rr := by
            exact ⟨mkOk_b hi2, by rw [show nn = rr from by omega]⟩
          exact W.iret (v := zi nn) hx hb hr (fun t ht hW => ⟨⟨zi nn, (fj, lj, mg, (zup sf sl.toNat nn)), rfl, ⟨congrArg zi (by omega), hp9⟩, by rw [ht]; exact hP9, va_K.moved hW.alike hK, hD9⟩, hS.F ht⟩) hS.2.2 dX4_moveWork_114
        · skip
          exact absurd True.intro (by omega)
      · skip
        refine lv_iload_n hx hb dX4_moveWork_63 rfl (lv_at hl 0 rfl) ?_
        refine lv_iload hx hb dX4_moveWork_64 (lv_at hl 5 rfl) ?_
        refine zw_iadd hx hb dX4_moveWork_66 ?_
        refine zw_i2l hx hb dX4_moveWork_67 ⟨by omega, by omega⟩ ?_
        have hh4 := c_X0_isNumber l (nn + 1) (by omega)
        refine vp_callSi (va_Run.run (va_runS (As := [.long (zl (nn + 1))]) (rest := []) ⟨hx, hb, hml, hown, hts⟩ hh4 (va_cwS 1 hts gX4_moveWork_X0_isNumber rfl rfl rfl (by decide +kernel) ⟨Nat.le_of_ble_eq_true rfl, Nat.le_of_ble_eq_true rfl⟩) ⟨fun a U g mk q => q, fun U hU hW => ⟨rfl, trivial⟩⟩ rfl rfl hl.1 rfl (lv_room (Nat.le_of_ble_eq_true rfl)) dX4_moveWork_68 ⟨Nat.zero_le _, Nat.zero_le _⟩)) (fun r4 (hr4 : r4 = zi (f_X0_isNumber (nn + 1))) => ?_)
        subst hr4
        have hf4 := b_X0_isNumber (nn + 1) (by omega)
        refine zw_if_eq (tgt := 93) hx hb dX4_moveWork_71 (by decide) ⟨by omega, by omega⟩ (fun h5 => ?_) (fun h5 => ?_)
        · skip
          first | have hz := zmv_0 (wkX4 we kf af bf zf ru) 1 fu nn lft (by omega) | have hz := zmv_x (wkX4 we kf af bf zf ru) 1 fu nn lft (by omega) (by omega)
          refine lv_iload hx hb dX4_moveWork_93 (lv_at hl 1 rfl) ?_
          refine zw_if_le (tgt := 108) hx hb dX4_moveWork_95 (by decide) ⟨by omega, by omega⟩ (fun h6 => ?_) (fun h6 => ?_)
          · skip
            refine lv_aload_n hx hb dX4_moveWork_108 rfl (lv_at hl 2 rfl) ?_
            refine lv_iload_n hx hb dX4_moveWork_109 rfl (lv_at hl 3 rfl) ?_
            refine lv_iload_n hx hb dX4_moveWork_110 rfl (lv_at hl 0 rfl) ?_
            have hh7 := c_X4_keep l dC dI cI h0 qs qr qm qw qt we sf sl nn H.size (by omega) (by omega) (by omega)
            have hPc := hP.sub (ws' := [(h0, .inr (4, [.ref qs, .ref qr, .ref qm, .ref qw, .ref qt, .int (zi we)])), (qs, aI cI 10 sf)]) [0, 1] rfl
            have hKc : va_K (dC, dI) vwCl [(cI, .int)] s := hK.sub (tys' := [(cI, .int)]) [0] rfl
            have hDc := hD.sub (ws' := [(h0, .inr (4, [.ref qs, .ref qr, .ref qm, .ref qw, .ref qt, .int (zi we)])), (qs, aI cI 10 sf)]) [0, 1] (by decide) rfl
            have hFc := va_free (wc := [(h0, .inr (4, [.ref qs, .ref qr, .ref qm, .ref qw, .ref qt, .int (zi we)])), (qs, aI cI 10 sf)]) hD hS hA [0, 1] rfl
            refine va_calli (va_runV (As := [.int (zi sl), .int (zi nn)]) (rest := []) ⟨hx, hb, hml, hown, hts⟩ hh7 (cwV 2 hts gX4_moveWork_X4_keep rfl rfl rfl (by decide +kernel) ⟨Nat.le_of_ble_eq_true rfl, Nat.le_of_ble_eq_true rfl⟩) ⟨zPw.blind _ _ _ _ _, va_recv hKc hPc (ci := 4) (q0 := 0) rfl rfl, fun U hU hW => ⟨rfl, by rw [hU], by rw [hU]; exact hPc, va_K.moved hW.alike hKc, hDc.weaken (fun _ _ _ _ => trivial)⟩⟩ rfl rfl hl.1 rfl (lv_room (Nat.le_of_ble_eq_true rfl)) dX4_moveWork_111 ⟨Nat.le_of_ble_eq_true rfl, Nat.le_of_ble_eq_true rfl⟩) hS (fun q _ h => hFc q h) hFc (fun r7 u t H1 locs ht hvm hw hB hz1 hk1 hS => ?_)
            obtain ⟨hP1, hK1, hD1⟩ := hB
            rw [ht] at hP1
            obtain ⟨hP, hD⟩ := va_join (wr := [(qm, .inr (2, [.ref qk, .int (zi fj), .int (zi lj)])), (qk, aI cI 366 mg), (qr, .inr (0, [.int (zi mc), .ref qe, .int (zi ru)])), (qe, aR cO cap ef)]) (w1 := [(h0, .inr (4, [.ref qs, .ref qr, .ref qm, .ref qw, .ref qt, .int (zi we)])), (qs, aI cI 10 (zup sf sl.toNat nn))]) hP hD [0, 1] [2, 3, 4, 5] rfl rfl (by decide) (by decide) hk1 hFc hP1 hD1
            generalize H1 = H at hP hS ⊢
            obtain rfl : r7 = zi nn := hw
            have hP : va_P (dC, dI) vwCl [(qm, .inr (2, [.ref qk, .int (zi fj), .int (zi lj)])), (qk, aI cI 366 mg), (qr, .inr (0, [.int (zi mc), .ref qe, .int (zi ru)])), (qe, aR cO cap ef), (h0, .inr (4, [.ref qs, .ref qr, .ref qm, .ref qw, .ref qt, .int (zi we)])), (qs, aI cI 10 (zup sf sl.toNat nn))] H := hP
            have hD : va_D A [(qm, .inr (2, [.ref qk, .int (zi fj), .int (zi lj)])), (qk, aI cI 366 mg), (qr, .inr (0, [.int (zi mc), .ref qe, .int (zi ru)])), (qe, aR cO cap ef), (h0, .inr (4, [.ref qs, .ref qr, .ref qm, .ref qw, .ref qt, .int (zi we)])), (qs, aI cI 10 (zup sf sl.toNat nn))] := hD
            have hP9 := hP.sub (ws' := [(h0, .inr (4, [.ref qs, .ref qr, .ref qm, .ref qw, .ref qt, .int (zi we)])), (qs, aI cI 10 (zup sf sl.toNat nn)), (qm, .inr (2, [.ref qk, .int (zi fj), .int (zi lj)])), (qk, aI cI 366 mg), (qr, .inr (0, [.int (zi mc), .ref qe, .int (zi ru)])), (qe, aR cO cap ef)]) [4, 5, 0, 1, 2, 3] rfl
            have hD9 := hD.sub (ws' := [(h0, .inr (4, [.ref qs, .ref qr, .ref qm, .ref qw, .ref qt, .int (zi we)])), (qs, aI cI 10 (zup sf sl.toNat nn)), (qm, .inr (2, [.ref qk, .int (zi fj), .int (zi lj)])), (qk, aI cI 366 mg), (qr, .inr (0, [.int (zi mc), .ref qe, .int (zi ru)])), (qe, aR cO cap ef)]) [4, 5, 0, 1, 2, 3] (by decide) rfl
            have hp9 : (0 ≤ fj ∧ fj ≤ 4000000 ∧ 0 ≤ lj ∧ lj ≤ 366) ∧ (zup sf sl.toNat nn) = zup sf sl.toNat rr := by
              exact ⟨mkOk_b hi2, by rw [show nn = rr from by omega]⟩
            exact W.iret (v := zi nn) hx hb hr (fun t ht hW => ⟨⟨zi nn, (fj, lj, mg, (zup sf sl.toNat nn)), rfl, ⟨congrArg zi (by omega), hp9⟩, by rw [ht]; exact hP9, va_K.moved hW.alike hK, hD9⟩, hS.F ht⟩) hS.2.2 dX4_moveWork_114
          · skip
            exact absurd True.intro (by omega)
        · skip
          refine lv_iload_n hx hb dX4_moveWork_74 rfl (lv_at hl 0 rfl) ?_
          refine lv_iload hx hb dX4_moveWork_75 (lv_at hl 5 rfl) ?_
          refine zw_iadd hx hb dX4_moveWork_77 ?_
          refine zw_top (fun x8 ex8 => ?_)
          refine lv_istore_n (lv' := [(3, .int (zi x8)), (5, .int (zi lft)), (0, .ref h0), (1, .int (zi sl)), (2, .int (zi many)), (4, .int (zi 1))]) hx hb dX4_moveWork_78 rfl hl (by decide) rfl (fun ls hl => ?_)
          refine lv_aload_n hx hb dX4_moveWork_79 rfl (lv_at hl 2 rfl) ?_
          refine lv_iload_n hx hb dX4_moveWork_80 rfl (lv_at hl 0 rfl) ?_
          have hh9 := c_X4_isWorking l dC dI cI cO h0 qs qr qm qw qt we qk fj lj mg mc qe ru cap ef rf kf af bf zf x8 H.size (by omega) (by omega) (by first | exact hRK) (by first | exact hEF) (by omega) (by assumption)
          have hPc := hP.sub (ws' := [(h0, .inr (4, [.ref qs, .ref qr, .ref qm, .ref qw, .ref qt, .int (zi we)])), (qm, .inr (2, [.ref qk, .int (zi fj), .int (zi lj)])), (qk, aI cI 366 mg), (qr, .inr (0, [.int (zi mc), .ref qe, .int (zi ru)])), (qe, aR cO cap ef)]) [0, 2, 3, 4, 5] rfl
          have hKc : va_K (dC, dI) vwCl [(cI, .int), (cO, .object "java/lang/Object")] s := hK
          have hDc := hD.sub (ws' := [(h0, .inr (4, [.ref qs, .ref qr, .ref qm, .ref qw, .ref qt, .int (zi we)])), (qm, .inr (2, [.ref qk, .int (zi fj), .int (zi lj)])), (qk, aI cI 366 mg), (qr, .inr (0, [.int (zi mc), .ref qe, .int (zi ru)])), (qe, aR cO cap ef)]) [0, 2, 3, 4, 5] (by decide) rfl
          have hFc := va_free (wc := [(h0, .inr (4, [.ref qs, .ref qr, .ref qm, .ref qw, .ref qt, .int (zi we)])), (qm, .inr (2, [.ref qk, .int (zi fj), .int (zi lj)])), (qk, aI cI 366 mg), (qr, .inr (0, [.int (zi mc), .ref qe, .int (zi ru)])), (qe, aR cO cap ef)]) hD hS hA [0, 2, 3, 4, 5] rfl
          refine va_calli (va_runV (As := [.int (zi x8)]) (rest := []) ⟨hx, hb, hml, hown, hts⟩ hh9 (cwV 1 hts gX4_moveWork_X4_isWorking rfl rfl rfl (by decide +kernel) ⟨Nat.le_of_ble_eq_true rfl, Nat.le_of_ble_eq_true rfl⟩) ⟨zPwF.blind _ _ _ _ _ zRu_ok, va_recv hKc hPc (ci := 4) (q0 := 0) rfl rfl, fun U hU hW => ⟨rfl, by rw [hU], by rw [hU]; exact hPc, va_K.moved hW.alike hKc, hDc.weaken (fun _ _ _ _ => trivial), zF.call zRu_ok hG hS hFc hU hW⟩⟩ rfl rfl hl.1 rfl (lv_room (Nat.le_of_ble_eq_true rfl)) dX4_moveWork_81 ⟨Nat.le_of_ble_eq_true rfl, Nat.le_of_ble_eq_true rfl⟩) hS (fun q _ h => hFc q h) hFc (fun r9 u t H1 locs ht hvm hw hB hz1 hk1 hS => ?_)
          obtain ⟨fj_10, lj_10, mg_10⟩ := u
          obtain ⟨hw, hw9⟩ := hw
          replace hw9 : mkOk kf af bf zf ru fj_10 lj_10 mg_10 := hw9
          obtain ⟨hP1, hK1, hD1⟩ := hB
          rw [ht] at hP1
          replace hP1 : va_P (dC, dI) vwCl [(h0, .inr (4, [.ref qs, .ref qr, .ref qm, .ref qw, .ref qt, .int (zi we)])), (qm, .inr (2, [.ref qk, .int (zi fj_10), .int (zi lj_10)])), (qk, aI cI 366 mg_10), (qr, .inr (0, [.int (zi mc), .ref qe, .int (zi ru)])), (qe, aR cO cap ef)] H1 := hP1
          replace hD1 : va_D _ [(h0, .inr (4, [.ref qs, .ref qr, .ref qm, .ref qw, .ref qt, .int (zi we)])), (qm, .inr (2, [.ref qk, .int (zi fj_10), .int (zi lj_10)])), (qk, aI cI 366 mg_10), (qr, .inr (0, [.int (zi mc), .ref qe, .int (zi ru)])), (qe, aR cO cap ef)] := hD1
          obtain ⟨hP, hD⟩ := va_join (wr := [(qs, aI cI 10 sf)]) (w1 := [(h0, .inr (4, [.ref qs, .ref qr, .ref qm, .ref qw, .ref qt, .int (zi we)])), (qm, .inr (2, [.ref qk, .int (zi fj_10), .int (zi lj_10)])), (qk, aI cI 366 mg_10), (qr, .inr (0, [.int (zi mc), .ref qe, .int (zi ru)])), (qe, aR cO cap ef)]) hP hD [0, 2, 3, 4, 5] [1] rfl rfl (by decide) (by decide) hk1 hFc hP1 hD1
          generalize H1 = H at hP hS ⊢
          obtain rfl : r9 = zi (wkX4 we kf af bf zf ru x8) := hw
          have hP : va_P (dC, dI) vwCl [(qs, aI cI 10 sf), (h0, .inr (4, [.ref qs, .ref qr, .ref qm, .ref qw, .ref qt, .int (zi we)])), (qm, .inr (2, [.ref qk, .int (zi fj_10), .int (zi lj_10)])), (qk, aI cI 366 mg_10), (qr, .inr (0, [.int (zi mc), .ref qe, .int (zi ru)])), (qe, aR cO cap ef)] H := hP
          have hD : va_D A [(qs, aI cI 10 sf), (h0, .inr (4, [.ref qs, .ref qr, .ref qm, .ref qw, .ref qt, .int (zi we)])), (qm, .inr (2, [.ref qk, .int (zi fj_10), .int (zi lj_10)])), (qk, aI cI 366 mg_10), (qr, .inr (0, [.int (zi mc), .ref qe, .int (zi ru)])), (qe, aR cO cap ef)] := hD
          have hf9_0 := wkX4_s we kf af bf zf ru x8
          refine zw_if_eq (tgt := 58) hx hb dX4_moveWork_84 (by decide) ⟨by omega, by omega⟩ (fun h11 => ?_) (fun h11 => ?_)
          · skip
            have hRK := hp3
            have hEF := hp4
            first | have hmb := mkOk_b hi2 | skip
            subst ex8
            have hP9 := hP.sub (ws' := [(h0, .inr (4, [.ref qs, .ref qr, .ref qm, .ref qw, .ref qt, .int (zi we)])), (qs, aI cI 10 sf), (qm, .inr (2, [.ref qk, .int (zi fj_10), .int (zi lj_10)])), (qk, aI cI 366 mg_10), (qr, .inr (0, [.int (zi mc), .ref qe, .int (zi ru)])), (qe, aR cO cap ef)]) [1, 0, 2, 3, 4, 5] rfl
            have hD9 := hD.sub (ws' := [(h0, .inr (4, [.ref qs, .ref qr, .ref qm, .ref qw, .ref qt, .int (zi we)])), (qs, aI cI 10 sf), (qm, .inr (2, [.ref qk, .int (zi fj_10), .int (zi lj_10)])), (qk, aI cI 366 mg_10), (qr, .inr (0, [.int (zi mc), .ref qe, .int (zi ru)])), (qe, aR cO cap ef)]) [1, 0, 2, 3, 4, 5] (by decide) rfl
            exact ih (nn + 1) lft fj_10 lj_10 mg_10 (by first | (rw [← hi0]; symm; first | (apply zmv_s1 <;> omega) | (apply zmv_s0 <;> omega)) | (rw [show (if 0 ≤ many then many else 0 - many) = many from by omega]; exact hp9)) (by omega) (by first | assumption | exact Or.inl ⟨by omega, by omega, rfl⟩) (by omega) ls _ _ (lv_sub hl [0, 1, 2, 3, 4, 5] rfl) hP9 hD9 hS
          · skip
            obtain ⟨x12, ex12⟩ : ∃ z : Int, z = lft + (-1) := ⟨_, rfl⟩
            refine zw_iinc (lv' := [(5, .int (zi x12)), (3, .int (zi x8)), (0, .ref h0), (1, .int (zi sl)), (2, .int (zi many)), (4, .int (zi 1))]) (k := 1) hx hb ex12 dX4_moveWork_87 hl rfl (by decide) rfl (fun ls hl => ?_)
            refine lv_goto (tgt := 58) hx hb dX4_moveWork_90 (by decide) ?_
            have hRK := hp3
            have hEF := hp4
            first | have hmb := mkOk_b hi2 | skip
            subst ex8 ex12
            have hP9 := hP.sub (ws' := [(h0, .inr (4, [.ref qs, .ref qr, .ref qm, .ref qw, .ref qt, .int (zi we)])), (qs, aI cI 10 sf), (qm, .inr (2, [.ref qk, .int (zi fj_10), .int (zi lj_10)])), (qk, aI cI 366 mg_10), (qr, .inr (0, [.int (zi mc), .ref qe, .int (zi ru)])), (qe, aR cO cap ef)]) [1, 0, 2, 3, 4, 5] rfl
            have hD9 := hD.sub (ws' := [(h0, .inr (4, [.ref qs, .ref qr, .ref qm, .ref qw, .ref qt, .int (zi we)])), (qs, aI cI 10 sf), (qm, .inr (2, [.ref qk, .int (zi fj_10), .int (zi lj_10)])), (qk, aI cI 366 mg_10), (qr, .inr (0, [.int (zi mc), .ref qe, .int (zi ru)])), (qe, aR cO cap ef)]) [1, 0, 2, 3, 4, 5] (by decide) rfl
            exact ih (nn + 1) (lft + (-1)) fj_10 lj_10 mg_10 (by first | (rw [← hi0]; symm; first | (apply zmv_s1 <;> omega) | (apply zmv_s0 <;> omega)) | (rw [show (if 0 ≤ many then many else 0 - many) = many from by omega]; exact hp9)) (by omega) (by first | assumption | exact Or.inl ⟨by omega, by omega, rfl⟩) (by omega) ls _ _ (lv_sub hl [1, 0, 2, 3, 4, 5] rfl) hP9 hD9 hS
  have hl := lv_entry ([.ref h0, .int (zi sl), .int (zi many)]) (n := 6) (Nat.le_of_ble_eq_true rfl)
  rw [lg_entry_eq]
  generalize (lg_sl ([.ref h0, .int (zi sl), .int (zi many)]) ++ List.replicate (6 - (lg_sl ([.ref h0, .int (zi sl), .int (zi many)])).length) Slot.unset).toArray = ls at hl ⊢
  have hl : lv_has ls 6 [(0, .ref h0), (1, .int (zi sl)), (2, .int (zi many))] := hl
  have hRK := hp3
  have hEF := hp4
  refine lv_iload_n hx hb dX4_moveWork_0 rfl (lv_at hl 1 rfl) ?_
  have hh13 := c_X4_needSlot l sl (by omega)
  refine va_csv (va_Run.run (va_runS (As := [.int (zi sl)]) (rest := []) ⟨hx, hb, hml, hown, hts⟩ hh13 (va_cwS 1 hts gX4_moveWork_X4_needSlot rfl rfl rfl (by decide +kernel) ⟨Nat.le_of_ble_eq_true rfl, Nat.le_of_ble_eq_true rfl⟩) ⟨fun a U g mk q => q, fun U hU hW => ⟨rfl, trivial⟩⟩ rfl rfl hl.1 rfl (lv_room (Nat.le_of_ble_eq_true rfl)) dX4_moveWork_1 ⟨Nat.le_of_ble_eq_true rfl, Nat.le_of_ble_eq_true rfl⟩)) (fun _ => ?_)
  refine lv_aload_n hx hb dX4_moveWork_4 rfl (lv_at hl 0 rfl) ?_
  refine lv_iload_n hx hb dX4_moveWork_5 rfl (lv_at hl 1 rfl) ?_
  have hh14 := c_X4_dateIn l dC dI cI h0 qs qr qm qw qt we sf sl (by omega) (by omega)
  have hPc := hP.sub (ws' := [(h0, .inr (4, [.ref qs, .ref qr, .ref qm, .ref qw, .ref qt, .int (zi we)])), (qs, aI cI 10 sf)]) [0, 1] rfl
  have hKc : va_K (dC, dI) vwCl [(cI, .int)] s := hK.sub (tys' := [(cI, .int)]) [0] rfl
  refine vp_callSi (va_Run.run (va_runV (As := [.int (zi sl)]) (rest := []) ⟨hx, hb, hml, hown, hts⟩ hh14 (cwV 1 hts gX4_moveWork_X4_dateIn rfl rfl rfl (by decide +kernel) ⟨Nat.le_of_ble_eq_true rfl, Nat.le_of_ble_eq_true rfl⟩) ⟨zPr.blind _ _ _ _, va_recv hKc hPc (ci := 4) (q0 := 0) rfl rfl, fun U hU hW => ⟨rfl, by rw [hU]; exact hPc, va_K.moved hW.alike hKc⟩⟩ rfl rfl hl.1 rfl (lv_room (Nat.le_of_ble_eq_true rfl)) dX4_moveWork_6 ⟨Nat.le_of_ble_eq_true rfl, Nat.le_of_ble_eq_true rfl⟩)) (fun r14 (hr14 : r14 = zi (sf sl.toNat)) => ?_)
  subst hr14
  refine zw_top (fun x15 ex15 => ?_)
  refine lv_istore_n (lv' := [(3, .int (zi x15)), (0, .ref h0), (1, .int (zi sl)), (2, .int (zi many))]) hx hb dX4_moveWork_9 rfl hl (by decide) rfl (fun ls hl => ?_)
  refine lv_iload_n hx hb dX4_moveWork_10 rfl (lv_at hl 3 rfl) ?_
  refine zw_sipush hx hb dX4_moveWork_11 (by decide) ?_
  refine zw_icmp_lt (tgt := 24) hx hb dX4_moveWork_14 (by decide) ⟨by omega, by omega⟩ ⟨by omega, by omega⟩ (fun h16 => ?_) (fun h16 => ?_)
  · skip
    exact absurd True.intro (by omega)
  · skip
    refine lv_iload_n hx hb dX4_moveWork_17 rfl (lv_at hl 3 rfl) ?_
    refine zw_sipush hx hb dX4_moveWork_18 (by decide) ?_
    refine zw_icmp_le (tgt := 34) hx hb dX4_moveWork_21 (by decide) ⟨by omega, by omega⟩ ⟨by omega, by omega⟩ (fun h17 => ?_) (fun h17 => ?_)
    · skip
      refine lv_iload_n hx hb dX4_moveWork_34 rfl (lv_at hl 3 rfl) ?_
      refine zw_if_ge (tgt := 42) hx hb dX4_moveWork_35 (by decide) ⟨by omega, by omega⟩ (fun h18 => ?_) (fun h18 => ?_)
      · skip
        refine zw_iconst hx hb dX4_moveWork_42 ?_
        refine lv_istore (lv' := [(4, .int (zi 1)), (3, .int (zi x15)), (0, .ref h0), (1, .int (zi sl)), (2, .int (zi many))]) hx hb dX4_moveWork_43 hl (by decide) rfl (fun ls hl => ?_)
        refine lv_iload_n hx hb dX4_moveWork_45 rfl (lv_at hl 4 rfl) ?_
        refine zw_abs hx hb (hml.trans hl.1.symm) hown (hts (.methodLink RX4 164 Lib.Math.abs.name) (by decide +kernel)) (hts (.static Lib.Math.abs.name) (by decide +kernel)) (hts (.initialized "java/lang/Math") (by decide +kernel)) (hts _ (by decide +kernel)) (Nat.le_of_ble_eq_true rfl) (Nat.le_of_ble_eq_true rfl) (Nat.le_of_ble_eq_true rfl) (Nat.le_of_ble_eq_true rfl) dX4_moveWork_46 ⟨by omega, by omega⟩ ?_
        refine zw_top (fun x19 ex19 => ?_)
        refine lv_istore (lv' := [(5, .int (zi x19)), (4, .int (zi 1)), (3, .int (zi x15)), (0, .ref h0), (1, .int (zi sl)), (2, .int (zi many))]) hx hb dX4_moveWork_49 hl (by decide) rfl (fun ls hl => ?_)
        refine lv_aload_n hx hb dX4_moveWork_51 rfl (lv_at hl 3 rfl) ?_
        refine va_get (D := (dC, dI)) (ci := 4) (v := .ref qm) (C := RX4) (T := TX4) (N := 6) hx hb hts (by decide +kernel) hown hK hP 0 rfl rfl 2 (by decide) (hts (.fieldLink RX4 23 "CivilDays" "marked" "LCivilDays$MarkedYear;") (by decide +kernel)) (fun _ h9 => h9) rfl dX4_moveWork_52 ?_
        have hh20 := c_X2_forget l dC dI cI qm qk fi ln mf s.heap.size 
        have hPc := hP.sub (ws' := [(qm, .inr (2, [.ref qk, .int (zi fi), .int (zi ln)])), (qk, aI cI 366 mf)]) [2, 3] rfl
        have hKc : va_K (dC, dI) vwCl [(cI, .int)] s := hK.sub (tys' := [(cI, .int)]) [0] rfl
        have hDc := hD.sub (ws' := [(qm, .inr (2, [.ref qk, .int (zi fi), .int (zi ln)])), (qk, aI cI 366 mf)]) [2, 3] (by decide) rfl
        have hFc := va_free (wc := [(qm, .inr (2, [.ref qk, .int (zi fi), .int (zi ln)])), (qk, aI cI 366 mf)]) hD hS hA [2, 3] rfl
        refine va_callv (va_runV (As := []) (rest := []) ⟨hx, hb, hml, hown, hts⟩ hh20 (cwV 0 hts gX4_moveWork_X2_forget rfl rfl rfl (by decide +kernel) ⟨Nat.le_of_ble_eq_true rfl, Nat.le_of_ble_eq_true rfl⟩) ⟨zPw.blind _ _ _ _ _, va_recv hKc hPc (ci := 2) (q0 := 0) rfl rfl, fun U hU hW => ⟨rfl, by rw [hU], by rw [hU]; exact hPc, va_K.moved hW.alike hKc, hDc.weaken (fun _ _ _ _ => trivial)⟩⟩ rfl rfl hl.1 rfl (lv_room (Nat.le_of_ble_eq_true rfl)) dX4_moveWork_55 ⟨Nat.le_of_ble_eq_true rfl, Nat.le_of_ble_eq_true rfl⟩) hS (fun q _ h => hFc q h) hFc (fun u t H1 locs ht hvm hw hB hz1 hk1 hS => ?_)
        obtain ⟨hP1, hK1, hD1⟩ := hB
        rw [ht] at hP1
        obtain ⟨hP, hD⟩ := va_join (wr := [(h0, .inr (4, [.ref qs, .ref qr, .ref qm, .ref qw, .ref qt, .int (zi we)])), (qs, aI cI 10 sf), (qr, .inr (0, [.int (zi mc), .ref qe, .int (zi ru)])), (qe, aR cO cap ef)]) (w1 := [(qm, .inr (2, [.ref qk, .int (zi fi), .int (zi 0)])), (qk, aI cI 366 mf)]) hP hD [2, 3] [0, 1, 4, 5] rfl rfl (by decide) (by decide) hk1 hFc hP1 hD1
        generalize H1 = H at hP hS ⊢
        have hP : va_P (dC, dI) vwCl [(h0, .inr (4, [.ref qs, .ref qr, .ref qm, .ref qw, .ref qt, .int (zi we)])), (qs, aI cI 10 sf), (qr, .inr (0, [.int (zi mc), .ref qe, .int (zi ru)])), (qe, aR cO cap ef), (qm, .inr (2, [.ref qk, .int (zi fi), .int (zi 0)])), (qk, aI cI 366 mf)] H := hP
        have hD : va_D A [(h0, .inr (4, [.ref qs, .ref qr, .ref qm, .ref qw, .ref qt, .int (zi we)])), (qs, aI cI 10 sf), (qr, .inr (0, [.int (zi mc), .ref qe, .int (zi ru)])), (qe, aR cO cap ef), (qm, .inr (2, [.ref qk, .int (zi fi), .int (zi 0)])), (qk, aI cI 366 mf)] := hD
        have hRK := hp3
        have hEF := hp4
        first | have hmb := mkOk_b hi2 | skip
        subst ex15 ex19
        have hP9 := hP.sub (ws' := [(h0, .inr (4, [.ref qs, .ref qr, .ref qm, .ref qw, .ref qt, .int (zi we)])), (qs, aI cI 10 sf), (qm, .inr (2, [.ref qk, .int (zi fi), .int (zi 0)])), (qk, aI cI 366 mf), (qr, .inr (0, [.int (zi mc), .ref qe, .int (zi ru)])), (qe, aR cO cap ef)]) [0, 1, 4, 5, 2, 3] rfl
        have hD9 := hD.sub (ws' := [(h0, .inr (4, [.ref qs, .ref qr, .ref qm, .ref qw, .ref qt, .int (zi we)])), (qs, aI cI 10 sf), (qm, .inr (2, [.ref qk, .int (zi fi), .int (zi 0)])), (qk, aI cI 366 mf), (qr, .inr (0, [.int (zi mc), .ref qe, .int (zi ru)])), (qe, aR cO cap ef)]) [0, 1, 4, 5, 2, 3] (by decide) rfl
        exact loop58 (fz) (sf sl.toNat) (if 0 ≤ many then many else 0 - many) fi 0 mf (by first | (rw [← hi0]; symm; first | (apply zmv_s1 <;> omega) | (apply zmv_s0 <;> omega)) | (rw [show (if 0 ≤ many then many else 0 - many) = many from by omega]; exact hp9)) (by omega) (by first | assumption | exact Or.inl ⟨by omega, by omega, rfl⟩) (by omega) ls _ _ (lv_sub hl [2, 0, 3, 4, 5, 1] rfl) hP9 hD9 hS
      · skip
        exact absurd True.intro (by omega)
    · skip
      exact absurd True.intro (by omega)

set_option maxHeartbeats 4000000 in
set_option maxRecDepth 100000 in
theorem t_X4_moveWork_4p (l : Launch) (hst : l.stackTraces = false) (dC : Nat → ClassId) (dI : Nat → Nat → Nat) (cI : ClassId) (cO : ClassId) (h0 : Nat) (qs : Nat) (qr : Nat) (qm : Nat) (qw : Nat) (qt : Nat) (we : Int) (sf : Nat → Int) (qk : Nat) (fi : Int) (ln : Int) (mf : Nat → Int) (mc : Int) (qe : Nat) (ru : Int) (cap : Nat) (ef : Nat → Option Nat) (rf : Nat → Nat) (kf : Nat → Int) (af : Nat → Int) (bf : Nat → Int) (zf : Nat → Int) (fz : Nat) (rr : Int) (sl : Int) (many : Int) (sz : Nat) (hp0 : 0 ≤ sl ∧ sl ≤ 9) (hp1 : 0 ≤ (sf sl.toNat) ∧ (sf sl.toNat) ≤ 3652058) (hp2 : 0 ≤ ru ∧ ru ≤ 12 ∧ ru ≤ (cap : Int) ∧ (cap : Int) ≤ 1000) (hp3 : ∀ j : Nat, (j : Int) < ru → (0 ≤ (kf j) ∧ (kf j) ≤ 3) ∧ ((kf j) = 1 ∧ -100 ≤ (af j) ∧ (af j) ≤ 100 ∨ (kf j) ≠ 1 ∧ 1 ≤ (af j) ∧ (af j) ≤ 12) ∧ ((kf j) = 1 ∨ (kf j) = 2 ∧ 1 ≤ (bf j) ∧ (bf j) ≤ 7 ∨ (kf j) ≠ 2 ∧ 1 ≤ (bf j) ∧ (bf j) ≤ 31) ∧ ((kf j) ≠ 2 ∨ (zf j) = -1 ∨ 1 ≤ (zf j) ∧ (zf j) ≤ 4)) (hp4 : ∀ j : Nat, (j : Int) < ru → ef j = some (rf j)) (hp5 : 0 ≤ we ∧ we ≤ 127) (hp6 : 0 ≤ fi ∧ fi ≤ 4000000 ∧ 0 ≤ ln ∧ ln ≤ 366) (hp7 : -1000 ≤ many ∧ many ≤ 1000 ∧ 0 ≤ many) (hp8 : 4000000 ≤ fz) (hp9 : zmv (wkX4 we kf af bf zf ru) 1 fz (sf sl.toNat) many = rr) (hp10 : rr = -1) : vx_Met l yX4_moveWork wsX4_moveWork ({ frames := 6, cells := 1, slots := 6, locals := 135 }) (zPwF (dC, dI) [(cI, .int), (cO, .object "java/lang/Object")] sz [.ref h0, .int (zi sl), .int (zi many)] [(h0, .inr (4, [.ref qs, .ref qr, .ref qm, .ref qw, .ref qt, .int (zi we)])), (qs, aI cI 10 sf), (qm, .inr (2, [.ref qk, .int (zi fi), .int (zi ln)])), (qk, aI cI 366 mf), (qr, .inr (0, [.int (zi mc), .ref qe, .int (zi ru)])), (qe, aR cO cap ef)] (zRE (dC, dI) ru rf kf af bf zf)) zNo (vx_X (fun (u : (Int) × (Int) × (Nat → Int)) => 0 ≤ u.1 ∧ u.1 ≤ 4000000 ∧ 0 ≤ u.2.1 ∧ u.2.1 ≤ 366) (fun E9 (u : (Int) × (Int) × (Nat → Int)) t9 => E9 = "java/lang/UnsupportedOperationException" ∧ zB (dC, dI) [(cI, .int), (cO, .object "java/lang/Object")] (va_A [(h0, .inr (4, [.ref qs, .ref qr, .ref qm, .ref qw, .ref qt, .int (zi we)])), (qs, aI cI 10 sf), (qm, .inr (2, [.ref qk, .int (zi fi), .int (zi ln)])), (qk, aI cI 366 mf), (qr, .inr (0, [.int (zi mc), .ref qe, .int (zi ru)])), (qe, aR cO cap ef)] sz) [(h0, .inr (4, [.ref qs, .ref qr, .ref qm, .ref qw, .ref qt, .int (zi we)])), (qs, aI cI 10 sf), (qm, .inr (2, [.ref qk, .int (zi u.1), .int (zi u.2.1)])), (qk, aI cI 366 u.2.2), (qr, .inr (0, [.int (zi mc), .ref qe, .int (zi ru)])), (qe, aR cO cap ef)] () t9) (va_A [(h0, .inr (4, [.ref qs, .ref qr, .ref qm, .ref qw, .ref qt, .int (zi we)])), (qs, aI cI 10 sf), (qm, .inr (2, [.ref qk, .int (zi fi), .int (zi ln)])), (qk, aI cI 366 mf), (qr, .inr (0, [.int (zi mc), .ref qe, .int (zi ru)])), (qe, aR cO cap ef)] sz)) 1 6 (va_A [(h0, .inr (4, [.ref qs, .ref qr, .ref qm, .ref qw, .ref qt, .int (zi we)])), (qs, aI cI 10 sf), (qm, .inr (2, [.ref qk, .int (zi fi), .int (zi ln)])), (qk, aI cI 366 mf), (qr, .inr (0, [.int (zi mc), .ref qe, .int (zi ru)])), (qe, aR cO cap ef)] sz) := by
  refine vx_ofW (cc := cX4_moveWork) (maxL := 6) (ret := (some .int)) (by decide) rfl ?_
  intro p e s m args below meth c s₁ B hml hno hv
  obtain ⟨rfl, hsz, hP, hK, hD0, hG, hE⟩ := hv
  have hx := B.exec
  have hb := B.bytes
  have hr := B.returns
  have hts := atoms_spec (ws := wsX4_moveWork) B.pre
  have hown : s.vm.findClass RX4 = some m.cls := findClass_of_methodNamed B.named
  have hlocks := B.notSynchronized
  subst hsz
  have hD := hD0.self (sz := s.heap.size)
  generalize hAe : va_A [(h0, .inr (4, [.ref qs, .ref qr, .ref qm, .ref qw, .ref qt, .int (zi we)])), (qs, aI cI 10 sf), (qm, .inr (2, [.ref qk, .int (zi fi), .int (zi ln)])), (qk, aI cI 366 mf), (qr, .inr (0, [.int (zi mc), .ref qe, .int (zi ru)])), (qe, aR cO cap ef)] s.heap.size = A at hD hG hE ⊢
  have hA : ∀ q : Nat, s.heap.size ≤ q → A q := fun q h => by rw [← hAe]; exact Or.inr h
  have hS : va_S A s.heap s.heap [] := va_S.rf
  have hP : va_P (dC, dI) vwCl [(h0, .inr (4, [.ref qs, .ref qr, .ref qm, .ref qw, .ref qt, .int (zi we)])), (qs, aI cI 10 sf), (qm, .inr (2, [.ref qk, .int (zi fi), .int (zi ln)])), (qk, aI cI 366 mf), (qr, .inr (0, [.int (zi mc), .ref qe, .int (zi ru)])), (qe, aR cO cap ef)] s.heap := hP
  have loop58 : ∀ (fu : Nat) (nn : Int) (lft : Int) (fj : Int) (lj : Int) (mg : Nat → Int), (zmv (wkX4 we kf af bf zf ru) 1 fu nn lft = rr) → (0 ≤ nn ∧ nn ≤ 3652058 ∧ 0 ≤ lft ∧ lft ≤ 1000) → (mkOk kf af bf zf ru fj lj mg) → (3652060 - nn < fu) → ∀ (ls : Array Slot) (H : Heap) (locs : List Loc), lv_has ls 6 [(3, .int (zi nn)), (5, .int (zi lft)), (0, .ref h0), (1, .int (zi sl)), (2, .int (zi many)), (4, .int (zi 1))] → va_P (dC, dI) vwCl [(h0, .inr (4, [.ref qs, .ref qr, .ref qm, .ref qw, .ref qt, .int (zi we)])), (qs, aI cI 10 sf), (qm, .inr (2, [.ref qk, .int (zi fj), .int (zi lj)])), (qk, aI cI 366 mg), (qr, .inr (0, [.int (zi mc), .ref qe, .int (zi ru)])), (qe, aR cO cap ef)] H → va_D A [(h0, .inr (4, [.ref qs, .ref qr, .ref qm, .ref qw, .ref qt, .int (zi we)])), (qs, aI cI 10 sf), (qm, .inr (2, [.ref qk, .int (zi fj), .int (zi lj)])), (qk, aI cI 366 mg), (qr, .inr (0, [.int (zi mc), .ref qe, .int (zi ru)])), (qe, aR cO cap ef)] → va_S A s.heap H locs → W p l e (headSpec wsX4_moveWork ({ frames := 6, cells := 1, slots := 6, locals := 135 })).room s m ([.ref h0, .int (zi sl), .int (zi many)] : List Value).toArray below meth c H locs 0 0 (vx_MQ below zNo (vx_X (fun (u : (Int) × (Int) × (Nat → Int)) => 0 ≤ u.1 ∧ u.1 ≤ 4000000 ∧ 0 ≤ u.2.1 ∧ u.2.1 ≤ 366) (fun E9 (u : (Int) × (Int) × (Nat → Int)) t9 => E9 = "java/lang/UnsupportedOperationException" ∧ zB (dC, dI) [(cI, .int), (cO, .object "java/lang/Object")] A [(h0, .inr (4, [.ref qs, .ref qr, .ref qm, .ref qw, .ref qt, .int (zi we)])), (qs, aI cI 10 sf), (qm, .inr (2, [.ref qk, .int (zi u.1), .int (zi u.2.1)])), (qk, aI cI 366 u.2.2), (qr, .inr (0, [.int (zi mc), .ref qe, .int (zi ru)])), (qe, aR cO cap ef)] () t9) A) ([.ref h0, .int (zi sl), .int (zi many)] : List Value).toArray s 1 6 A) (F0 m 58 ls []) := by
    intro fu
    induction fu with
    | zero =>
      intro nn lft fj lj mg hi0 hi1 hi2 hfu ls H locs hl hP hD hS
      exact absurd hfu (by omega)
    | succ fu ih =>
      intro nn lft fj lj mg hi0 hi1 hi2 hfu ls H locs hl hP hD hS
      have hP : va_P (dC, dI) vwCl [(h0, .inr (4, [.ref qs, .ref qr, .ref qm, .ref qw, .ref qt, .int (zi we)])), (qs, aI cI 10 sf), (qm, .inr (2, [.ref qk, .int (zi fj), .int (zi lj)])), (qk, aI cI 366 mg), (qr, .inr (0, [.int (zi mc), .ref qe, .int (zi ru)])), (qe, aR cO cap ef)] H := hP
      have hD : va_D A [(h0, .inr (4, [.ref qs, .ref qr, .ref qm, .ref qw, .ref qt, .int (zi we)])), (qs, aI cI 10 sf), (qm, .inr (2, [.ref qk, .int (zi fj), .int (zi lj)])), (qk, aI cI 366 mg), (qr, .inr (0, [.int (zi mc), .ref qe, .int (zi ru)])), (qe, aR cO cap ef)] := hD
      have hRK := hp3
      have hEF := hp4
      first | have hmb := mkOk_b hi2 | skip
      refine lv_iload hx hb dX4_moveWork_58 (lv_at hl 1 rfl) ?_
      refine zw_if_le (tgt := 93) hx hb dX4_moveWork_60 (by decide) ⟨by omega, by omega⟩ (fun h1 => ?_) (fun h1 => ?_)
      · skip
        first | have hz := zmv_0 (wkX4 we kf af bf zf ru) 1 fu nn lft (by omega) | have hz := zmv_x (wkX4 we kf af bf zf ru) 1 fu nn lft (by omega) (by omega)
        refine lv_iload hx hb dX4_moveWork_93 (lv_at hl 1 rfl) ?_
        refine zw_if_le (tgt := 108) hx hb dX4_moveWork_95 (by decide) ⟨by omega, by omega⟩ (fun h2 => ?_) (fun h2 => ?_)
        · skip
          exact absurd True.intro (by omega)
        · skip
          have hP9 := hP.sub (ws' := [(h0, .inr (4, [.ref qs, .ref qr, .ref qm, .ref qw, .ref qt, .int (zi we)])), (qs, aI cI 10 sf), (qm, .inr (2, [.ref qk, .int (zi fj), .int (zi lj)])), (qk, aI cI 366 mg), (qr, .inr (0, [.int (zi mc), .ref qe, .int (zi ru)])), (qe, aR cO cap ef)]) [0, 1, 2, 3, 4, 5] rfl
          have hD9 := hD.sub (ws' := [(h0, .inr (4, [.ref qs, .ref qr, .ref qm, .ref qw, .ref qt, .int (zi we)])), (qs, aI cI 10 sf), (qm, .inr (2, [.ref qk, .int (zi fj), .int (zi lj)])), (qk, aI cI 366 mg), (qr, .inr (0, [.int (zi mc), .ref qe, .int (zi ru)])), (qe, aR cO cap ef)]) [0, 1, 2, 3, 4, 5] (by decide) rfl
          have hp9 : 0 ≤ fj ∧ fj ≤ 4000000 ∧ 0 ≤ lj ∧ lj ≤ 366 := by
            exact mkOk_b hi2
          exact zt_throwW (cls := "java/lang/UnsupportedOperationException") (text := "the date is beyond the years") (ik := 81) (is := 83) (ic := 85) hx hb hst hown hE (by decide +kernel) (hts (.classLink RX4 81 "java/lang/UnsupportedOperationException") (by decide +kernel)) (hts (.initialized "java/lang/UnsupportedOperationException") (by decide +kernel)) (by decide) (fun w h => hts w (List.mem_cons_of_mem _ (List.mem_append_left _ (List.mem_append_left _ (List.mem_append_right _ h))))) (by decide +kernel) (by decide +kernel) (hl.1.trans hml.symm) dX4_moveWork_98 dX4_moveWork_101 dX4_moveWork_102 dX4_moveWork_104 dX4_moveWork_107 hno (Nat.le_of_ble_eq_true rfl) (Nat.le_of_ble_eq_true rfl) (Nat.le_of_ble_eq_true rfl) (Nat.le_of_ble_eq_true rfl) hlocks hS (fj, lj, mg) hp9 (fun t ha hz hk => ⟨zk_world hP9 hk, va_K.moved ha hK, hD9⟩)
      · skip
        refine lv_iload_n hx hb dX4_moveWork_63 rfl (lv_at hl 0 rfl) ?_
        refine lv_iload hx hb dX4_moveWork_64 (lv_at hl 5 rfl) ?_
        refine zw_iadd hx hb dX4_moveWork_66 ?_
        refine zw_i2l hx hb dX4_moveWork_67 ⟨by omega, by omega⟩ ?_
        have hh3 := c_X0_isNumber l (nn + 1) (by omega)
        refine vp_callSi (va_Run.run (va_runS (As := [.long (zl (nn + 1))]) (rest := []) ⟨hx, hb, hml, hown, hts⟩ hh3 (va_cwS 1 hts gX4_moveWork_X0_isNumber rfl rfl rfl (by decide +kernel) ⟨Nat.le_of_ble_eq_true rfl, Nat.le_of_ble_eq_true rfl⟩) ⟨fun a U g mk q => q, fun U hU hW => ⟨rfl, trivial⟩⟩ rfl rfl hl.1 rfl (lv_room (Nat.le_of_ble_eq_true rfl)) dX4_moveWork_68 ⟨Nat.zero_le _, Nat.zero_le _⟩)) (fun r3 (hr3 : r3 = zi (f_X0_isNumber (nn + 1))) => ?_)
        subst hr3
        have hf3 := b_X0_isNumber (nn + 1) (by omega)
        refine zw_if_eq (tgt := 93) hx hb dX4_moveWork_71 (by decide) ⟨by omega, by omega⟩ (fun h4 => ?_) (fun h4 => ?_)
        · skip
          first | have hz := zmv_0 (wkX4 we kf af bf zf ru) 1 fu nn lft (by omega) | have hz := zmv_x (wkX4 we kf af bf zf ru) 1 fu nn lft (by omega) (by omega)
          refine lv_iload hx hb dX4_moveWork_93 (lv_at hl 1 rfl) ?_
          refine zw_if_le (tgt := 108) hx hb dX4_moveWork_95 (by decide) ⟨by omega, by omega⟩ (fun h5 => ?_) (fun h5 => ?_)
          · skip
            exact absurd True.intro (by omega)
          · skip
            have hP9 := hP.sub (ws' := [(h0, .inr (4, [.ref qs, .ref qr, .ref qm, .ref qw, .ref qt, .int (zi we)])), (qs, aI cI 10 sf), (qm, .inr (2, [.ref qk, .int (zi fj), .int (zi lj)])), (qk, aI cI 366 mg), (qr, .inr (0, [.int (zi mc), .ref qe, .int (zi ru)])), (qe, aR cO cap ef)]) [0, 1, 2, 3, 4, 5] rfl
            have hD9 := hD.sub (ws' := [(h0, .inr (4, [.ref qs, .ref qr, .ref qm, .ref qw, .ref qt, .int (zi we)])), (qs, aI cI 10 sf), (qm, .inr (2, [.ref qk, .int (zi fj), .int (zi lj)])), (qk, aI cI 366 mg), (qr, .inr (0, [.int (zi mc), .ref qe, .int (zi ru)])), (qe, aR cO cap ef)]) [0, 1, 2, 3, 4, 5] (by decide) rfl
            have hp9 : 0 ≤ fj ∧ fj ≤ 4000000 ∧ 0 ≤ lj ∧ lj ≤ 366 := by
              exact mkOk_b hi2
            exact zt_throwW (cls := "java/lang/UnsupportedOperationException") (text := "the date is beyond the years") (ik := 81) (is := 83) (ic := 85) hx hb hst hown hE (by decide +kernel) (hts (.classLink RX4 81 "java/lang/UnsupportedOperationException") (by decide +kernel)) (hts (.initialized "java/lang/UnsupportedOperationException") (by decide +kernel)) (by decide) (fun w h => hts w (List.mem_cons_of_mem _ (List.mem_append_left _ (List.mem_append_left _ (List.mem_append_right _ h))))) (by decide +kernel) (by decide +kernel) (hl.1.trans hml.symm) dX4_moveWork_98 dX4_moveWork_101 dX4_moveWork_102 dX4_moveWork_104 dX4_moveWork_107 hno (Nat.le_of_ble_eq_true rfl) (Nat.le_of_ble_eq_true rfl) (Nat.le_of_ble_eq_true rfl) (Nat.le_of_ble_eq_true rfl) hlocks hS (fj, lj, mg) hp9 (fun t ha hz hk => ⟨zk_world hP9 hk, va_K.moved ha hK, hD9⟩)
        · skip
          refine lv_iload_n hx hb dX4_moveWork_74 rfl (lv_at hl 0 rfl) ?_
          refine lv_iload hx hb dX4_moveWork_75 (lv_at hl 5 rfl) ?_
          refine zw_iadd hx hb dX4_moveWork_77 ?_
          refine zw_top (fun x6 ex6 => ?_)
          refine lv_istore_n (lv' := [(3, .int (zi x6)), (5, .int (zi lft)), (0, .ref h0), (1, .int (zi sl)), (2, .int (zi many)), (4, .int (zi 1))]) hx hb dX4_moveWork_78 rfl hl (by decide) rfl (fun ls hl => ?_)
          refine lv_aload_n hx hb dX4_moveWork_79 rfl (lv_at hl 2 rfl) ?_
          refine lv_iload_n hx hb dX4_moveWork_80 rfl (lv_at hl 0 rfl) ?_
          have hh7 := c_X4_isWorking l dC dI cI cO h0 qs qr qm qw qt we qk fj lj mg mc qe ru cap ef rf kf af bf zf x6 H.size (by omega) (by omega) (by first | exact hRK) (by first | exact hEF) (by omega) (by assumption)
          have hPc := hP.sub (ws' := [(h0, .inr (4, [.ref qs, .ref qr, .ref qm, .ref qw, .ref qt, .int (zi we)])), (qm, .inr (2, [.ref qk, .int (zi fj), .int (zi lj)])), (qk, aI cI 366 mg), (qr, .inr (0, [.int (zi mc), .ref qe, .int (zi ru)])), (qe, aR cO cap ef)]) [0, 2, 3, 4, 5] rfl
          have hKc : va_K (dC, dI) vwCl [(cI, .int), (cO, .object "java/lang/Object")] s := hK
          have hDc := hD.sub (ws' := [(h0, .inr (4, [.ref qs, .ref qr, .ref qm, .ref qw, .ref qt, .int (zi we)])), (qm, .inr (2, [.ref qk, .int (zi fj), .int (zi lj)])), (qk, aI cI 366 mg), (qr, .inr (0, [.int (zi mc), .ref qe, .int (zi ru)])), (qe, aR cO cap ef)]) [0, 2, 3, 4, 5] (by decide) rfl
          have hFc := va_free (wc := [(h0, .inr (4, [.ref qs, .ref qr, .ref qm, .ref qw, .ref qt, .int (zi we)])), (qm, .inr (2, [.ref qk, .int (zi fj), .int (zi lj)])), (qk, aI cI 366 mg), (qr, .inr (0, [.int (zi mc), .ref qe, .int (zi ru)])), (qe, aR cO cap ef)]) hD hS hA [0, 2, 3, 4, 5] rfl
          refine va_calli (va_runV (As := [.int (zi x6)]) (rest := []) ⟨hx, hb, hml, hown, hts⟩ hh7 (cwV 1 hts gX4_moveWork_X4_isWorking rfl rfl rfl (by decide +kernel) ⟨Nat.le_of_ble_eq_true rfl, Nat.le_of_ble_eq_true rfl⟩) ⟨zPwF.blind _ _ _ _ _ zRu_ok, va_recv hKc hPc (ci := 4) (q0 := 0) rfl rfl, fun U hU hW => ⟨rfl, by rw [hU], by rw [hU]; exact hPc, va_K.moved hW.alike hKc, hDc.weaken (fun _ _ _ _ => trivial), zF.call zRu_ok hG hS hFc hU hW⟩⟩ rfl rfl hl.1 rfl (lv_room (Nat.le_of_ble_eq_true rfl)) dX4_moveWork_81 ⟨Nat.le_of_ble_eq_true rfl, Nat.le_of_ble_eq_true rfl⟩) hS (fun q _ h => hFc q h) hFc (fun r7 u t H1 locs ht hvm hw hB hz1 hk1 hS => ?_)
          obtain ⟨fj_8, lj_8, mg_8⟩ := u
          obtain ⟨hw, hw7⟩ := hw
          replace hw7 : mkOk kf af bf zf ru fj_8 lj_8 mg_8 := hw7
          obtain ⟨hP1, hK1, hD1⟩ := hB
          rw [ht] at hP1
          replace hP1 : va_P (dC, dI) vwCl [(h0, .inr (4, [.ref qs, .ref qr, .ref qm, .ref qw, .ref qt, .int (zi we)])), (qm, .inr (2, [.ref qk, .int (zi fj_8), .int (zi lj_8)])), (qk, aI cI 366 mg_8), (qr, .inr (0, [.int (zi mc), .ref qe, .int (zi ru)])), (qe, aR cO cap ef)] H1 := hP1
          replace hD1 : va_D _ [(h0, .inr (4, [.ref qs, .ref qr, .ref qm, .ref qw, .ref qt, .int (zi we)])), (qm, .inr (2, [.ref qk, .int (zi fj_8), .int (zi lj_8)])), (qk, aI cI 366 mg_8), (qr, .inr (0, [.int (zi mc), .ref qe, .int (zi ru)])), (qe, aR cO cap ef)] := hD1
          obtain ⟨hP, hD⟩ := va_join (wr := [(qs, aI cI 10 sf)]) (w1 := [(h0, .inr (4, [.ref qs, .ref qr, .ref qm, .ref qw, .ref qt, .int (zi we)])), (qm, .inr (2, [.ref qk, .int (zi fj_8), .int (zi lj_8)])), (qk, aI cI 366 mg_8), (qr, .inr (0, [.int (zi mc), .ref qe, .int (zi ru)])), (qe, aR cO cap ef)]) hP hD [0, 2, 3, 4, 5] [1] rfl rfl (by decide) (by decide) hk1 hFc hP1 hD1
          generalize H1 = H at hP hS ⊢
          obtain rfl : r7 = zi (wkX4 we kf af bf zf ru x6) := hw
          have hP : va_P (dC, dI) vwCl [(qs, aI cI 10 sf), (h0, .inr (4, [.ref qs, .ref qr, .ref qm, .ref qw, .ref qt, .int (zi we)])), (qm, .inr (2, [.ref qk, .int (zi fj_8), .int (zi lj_8)])), (qk, aI cI 366 mg_8), (qr, .inr (0, [.int (zi mc), .ref qe, .int (zi ru)])), (qe, aR cO cap ef)] H := hP
          have hD : va_D A [(qs, aI cI 10 sf), (h0, .inr (4, [.ref qs, .ref qr, .ref qm, .ref qw, .ref qt, .int (zi we)])), (qm, .inr (2, [.ref qk, .int (zi fj_8), .int (zi lj_8)])), (qk, aI cI 366 mg_8), (qr, .inr (0, [.int (zi mc), .ref qe, .int (zi ru)])), (qe, aR cO cap ef)] := hD
          have hf7_0 := wkX4_s we kf af bf zf ru x6
          refine zw_if_eq (tgt := 58) hx hb dX4_moveWork_84 (by decide) ⟨by omega, by omega⟩ (fun h9 => ?_) (fun h9 => ?_)
          · skip
            have hRK := hp3
            have hEF := hp4
            first | have hmb := mkOk_b hi2 | skip
            subst ex6
            have hP9 := hP.sub (ws' := [(h0, .inr (4, [.ref qs, .ref qr, .ref qm, .ref qw, .ref qt, .int (zi we)])), (qs, aI cI 10 sf), (qm, .inr (2, [.ref qk, .int (zi fj_8), .int (zi lj_8)])), (qk, aI cI 366 mg_8), (qr, .inr (0, [.int (zi mc), .ref qe, .int (zi ru)])), (qe, aR cO cap ef)]) [1, 0, 2, 3, 4, 5] rfl
            have hD9 := hD.sub (ws' := [(h0, .inr (4, [.ref qs, .ref qr, .ref qm, .ref qw, .ref qt, .int (zi we)])), (qs, aI cI 10 sf), (qm, .inr (2, [.ref qk, .int (zi fj_8), .int (zi lj_8)])), (qk, aI cI 366 mg_8), (qr, .inr (0, [.int (zi mc), .ref qe, .int (zi ru)])), (qe, aR cO cap ef)]) [1, 0, 2, 3, 4, 5] (by decide) rfl
            exact ih (nn + 1) lft fj_8 lj_8 mg_8 (by first | (rw [← hi0]; symm; first | (apply zmv_s1 <;> omega) | (apply zmv_s0 <;> omega)) | (rw [show (if 0 ≤ many then many else 0 - many) = many from by omega]; exact hp9)) (by omega) (by first | assumption | exact Or.inl ⟨by omega, by omega, rfl⟩) (by omega) ls _ _ (lv_sub hl [0, 1, 2, 3, 4, 5] rfl) hP9 hD9 hS
          · skip
            obtain ⟨x10, ex10⟩ : ∃ z : Int, z = lft + (-1) := ⟨_, rfl⟩
            refine zw_iinc (lv' := [(5, .int (zi x10)), (3, .int (zi x6)), (0, .ref h0), (1, .int (zi sl)), (2, .int (zi many)), (4, .int (zi 1))]) (k := 1) hx hb ex10 dX4_moveWork_87 hl rfl (by decide) rfl (fun ls hl => ?_)
            refine lv_goto (tgt := 58) hx hb dX4_moveWork_90 (by decide) ?_
            have hRK := hp3
            have hEF := hp4
            first | have hmb := mkOk_b hi2 | skip
            subst ex6 ex10
            have hP9 := hP.sub (ws' := [(h0, .inr (4, [.ref qs, .ref qr, .ref qm, .ref qw, .ref qt, .int (zi we)])), (qs, aI cI 10 sf), (qm, .inr (2, [.ref qk, .int (zi fj_8), .int (zi lj_8)])), (qk, aI cI 366 mg_8), (qr, .inr (0, [.int (zi mc), .ref qe, .int (zi ru)])), (qe, aR cO cap ef)]) [1, 0, 2, 3, 4, 5] rfl
            have hD9 := hD.sub (ws' := [(h0, .inr (4, [.ref qs, .ref qr, .ref qm, .ref qw, .ref qt, .int (zi we)])), (qs, aI cI 10 sf), (qm, .inr (2, [.ref qk, .int (zi fj_8), .int (zi lj_8)])), (qk, aI cI 366 mg_8), (qr, .inr (0, [.int (zi mc), .ref qe, .int (zi ru)])), (qe, aR cO cap ef)]) [1, 0, 2, 3, 4, 5] (by decide) rfl
            exact ih (nn + 1) (lft + (-1)) fj_8 lj_8 mg_8 (by first | (rw [← hi0]; symm; first | (apply zmv_s1 <;> omega) | (apply zmv_s0 <;> omega)) | (rw [show (if 0 ≤ many then many else 0 - many) = many from by omega]; exact hp9)) (by omega) (by first | assumption | exact Or.inl ⟨by omega, by omega, rfl⟩) (by omega) ls _ _ (lv_sub hl [1, 0, 2, 3, 4, 5] rfl) hP9 hD9 hS
  have hl := lv_entry ([.ref h0, .int (zi sl), .int (zi many)]) (n := 6) (Nat.le_of_ble_eq_true rfl)
  rw [lg_entry_eq]
  generalize (lg_sl ([.ref h0, .int (zi sl), .int (zi many)]) ++ List.replicate (6 - (lg_sl ([.ref h0, .int (zi sl), .int (zi many)])).length) Slot.unset).toArray = ls at hl ⊢
  have hl : lv_has ls 6 [(0, .ref h0), (1, .int (zi sl)), (2, .int (zi many))] := hl
  have hRK := hp3
  have hEF := hp4
  refine lv_iload_n hx hb dX4_moveWork_0 rfl (lv_at hl 1 rfl) ?_
  have hh11 := c_X4_needSlot l sl (by omega)
  refine va_csv (va_Run.run (va_runS (As := [.int (zi sl)]) (rest := []) ⟨hx, hb, hml, hown, hts⟩ hh11 (va_cwS 1 hts gX4_moveWork_X4_needSlot rfl rfl rfl (by decide +kernel) ⟨Nat.le_of_ble_eq_true rfl, Nat.le_of_ble_eq_true rfl⟩) ⟨fun a U g mk q => q, fun U hU hW => ⟨rfl, trivial⟩⟩ rfl rfl hl.1 rfl (lv_room (Nat.le_of_ble_eq_true rfl)) dX4_moveWork_1 ⟨Nat.le_of_ble_eq_true rfl, Nat.le_of_ble_eq_true rfl⟩)) (fun _ => ?_)
  refine lv_aload_n hx hb dX4_moveWork_4 rfl (lv_at hl 0 rfl) ?_
  refine lv_iload_n hx hb dX4_moveWork_5 rfl (lv_at hl 1 rfl) ?_
  have hh12 := c_X4_dateIn l dC dI cI h0 qs qr qm qw qt we sf sl (by omega) (by omega)
  have hPc := hP.sub (ws' := [(h0, .inr (4, [.ref qs, .ref qr, .ref qm, .ref qw, .ref qt, .int (zi we)])), (qs, aI cI 10 sf)]) [0, 1] rfl
  have hKc : va_K (dC, dI) vwCl [(cI, .int)] s := hK.sub (tys' := [(cI, .int)]) [0] rfl
  refine vp_callSi (va_Run.run (va_runV (As := [.int (zi sl)]) (rest := []) ⟨hx, hb, hml, hown, hts⟩ hh12 (cwV 1 hts gX4_moveWork_X4_dateIn rfl rfl rfl (by decide +kernel) ⟨Nat.le_of_ble_eq_true rfl, Nat.le_of_ble_eq_true rfl⟩) ⟨zPr.blind _ _ _ _, va_recv hKc hPc (ci := 4) (q0 := 0) rfl rfl, fun U hU hW => ⟨rfl, by rw [hU]; exact hPc, va_K.moved hW.alike hKc⟩⟩ rfl rfl hl.1 rfl (lv_room (Nat.le_of_ble_eq_true rfl)) dX4_moveWork_6 ⟨Nat.le_of_ble_eq_true rfl, Nat.le_of_ble_eq_true rfl⟩)) (fun r12 (hr12 : r12 = zi (sf sl.toNat)) => ?_)
  subst hr12
  refine zw_top (fun x13 ex13 => ?_)
  refine lv_istore_n (lv' := [(3, .int (zi x13)), (0, .ref h0), (1, .int (zi sl)), (2, .int (zi many))]) hx hb dX4_moveWork_9 rfl hl (by decide) rfl (fun ls hl => ?_)
  refine lv_iload_n hx hb dX4_moveWork_10 rfl (lv_at hl 3 rfl) ?_
  refine zw_sipush hx hb dX4_moveWork_11 (by decide) ?_
  refine zw_icmp_lt (tgt := 24) hx hb dX4_moveWork_14 (by decide) ⟨by omega, by omega⟩ ⟨by omega, by omega⟩ (fun h14 => ?_) (fun h14 => ?_)
  · skip
    exact absurd True.intro (by omega)
  · skip
    refine lv_iload_n hx hb dX4_moveWork_17 rfl (lv_at hl 3 rfl) ?_
    refine zw_sipush hx hb dX4_moveWork_18 (by decide) ?_
    refine zw_icmp_le (tgt := 34) hx hb dX4_moveWork_21 (by decide) ⟨by omega, by omega⟩ ⟨by omega, by omega⟩ (fun h15 => ?_) (fun h15 => ?_)
    · skip
      refine lv_iload_n hx hb dX4_moveWork_34 rfl (lv_at hl 3 rfl) ?_
      refine zw_if_ge (tgt := 42) hx hb dX4_moveWork_35 (by decide) ⟨by omega, by omega⟩ (fun h16 => ?_) (fun h16 => ?_)
      · skip
        refine zw_iconst hx hb dX4_moveWork_42 ?_
        refine lv_istore (lv' := [(4, .int (zi 1)), (3, .int (zi x13)), (0, .ref h0), (1, .int (zi sl)), (2, .int (zi many))]) hx hb dX4_moveWork_43 hl (by decide) rfl (fun ls hl => ?_)
        refine lv_iload_n hx hb dX4_moveWork_45 rfl (lv_at hl 4 rfl) ?_
        refine zw_abs hx hb (hml.trans hl.1.symm) hown (hts (.methodLink RX4 164 Lib.Math.abs.name) (by decide +kernel)) (hts (.static Lib.Math.abs.name) (by decide +kernel)) (hts (.initialized "java/lang/Math") (by decide +kernel)) (hts _ (by decide +kernel)) (Nat.le_of_ble_eq_true rfl) (Nat.le_of_ble_eq_true rfl) (Nat.le_of_ble_eq_true rfl) (Nat.le_of_ble_eq_true rfl) dX4_moveWork_46 ⟨by omega, by omega⟩ ?_
        refine zw_top (fun x17 ex17 => ?_)
        refine lv_istore (lv' := [(5, .int (zi x17)), (4, .int (zi 1)), (3, .int (zi x13)), (0, .ref h0), (1, .int (zi sl)), (2, .int (zi many))]) hx hb dX4_moveWork_49 hl (by decide) rfl (fun ls hl => ?_)
        refine lv_aload_n hx hb dX4_moveWork_51 rfl (lv_at hl 3 rfl) ?_
        refine va_get (D := (dC, dI)) (ci := 4) (v := .ref qm) (C := RX4) (T := TX4) (N := 6) hx hb hts (by decide +kernel) hown hK hP 0 rfl rfl 2 (by decide) (hts (.fieldLink RX4 23 "CivilDays" "marked" "LCivilDays$MarkedYear;") (by decide +kernel)) (fun _ h9 => h9) rfl dX4_moveWork_52 ?_
        have hh18 := c_X2_forget l dC dI cI qm qk fi ln mf s.heap.size 
        have hPc := hP.sub (ws' := [(qm, .inr (2, [.ref qk, .int (zi fi), .int (zi ln)])), (qk, aI cI 366 mf)]) [2, 3] rfl
        have hKc : va_K (dC, dI) vwCl [(cI, .int)] s := hK.sub (tys' := [(cI, .int)]) [0] rfl
        have hDc := hD.sub (ws' := [(qm, .inr (2, [.ref qk, .int (zi fi), .int (zi ln)])), (qk, aI cI 366 mf)]) [2, 3] (by decide) rfl
        have hFc := va_free (wc := [(qm, .inr (2, [.ref qk, .int (zi fi), .int (zi ln)])), (qk, aI cI 366 mf)]) hD hS hA [2, 3] rfl
        refine va_callv (va_runV (As := []) (rest := []) ⟨hx, hb, hml, hown, hts⟩ hh18 (cwV 0 hts gX4_moveWork_X2_forget rfl rfl rfl (by decide +kernel) ⟨Nat.le_of_ble_eq_true rfl, Nat.le_of_ble_eq_true rfl⟩) ⟨zPw.blind _ _ _ _ _, va_recv hKc hPc (ci := 2) (q0 := 0) rfl rfl, fun U hU hW => ⟨rfl, by rw [hU], by rw [hU]; exact hPc, va_K.moved hW.alike hKc, hDc.weaken (fun _ _ _ _ => trivial)⟩⟩ rfl rfl hl.1 rfl (lv_room (Nat.le_of_ble_eq_true rfl)) dX4_moveWork_55 ⟨Nat.le_of_ble_eq_true rfl, Nat.le_of_ble_eq_true rfl⟩) hS (fun q _ h => hFc q h) hFc (fun u t H1 locs ht hvm hw hB hz1 hk1 hS => ?_)
        obtain ⟨hP1, hK1, hD1⟩ := hB
        rw [ht] at hP1
        obtain ⟨hP, hD⟩ := va_join (wr := [(h0, .inr (4, [.ref qs, .ref qr, .ref qm, .ref qw, .ref qt, .int (zi we)])), (qs, aI cI 10 sf), (qr, .inr (0, [.int (zi mc), .ref qe, .int (zi ru)])), (qe, aR cO cap ef)]) (w1 := [(qm, .inr (2, [.ref qk, .int (zi fi), .int (zi 0)])), (qk, aI cI 366 mf)]) hP hD [2, 3] [0, 1, 4, 5] rfl rfl (by decide) (by decide) hk1 hFc hP1 hD1
        generalize H1 = H at hP hS ⊢
        have hP : va_P (dC, dI) vwCl [(h0, .inr (4, [.ref qs, .ref qr, .ref qm, .ref qw, .ref qt, .int (zi we)])), (qs, aI cI 10 sf), (qr, .inr (0, [.int (zi mc), .ref qe, .int (zi ru)])), (qe, aR cO cap ef), (qm, .inr (2, [.ref qk, .int (zi fi), .int (zi 0)])), (qk, aI cI 366 mf)] H := hP
        have hD : va_D A [(h0, .inr (4, [.ref qs, .ref qr, .ref qm, .ref qw, .ref qt, .int (zi we)])), (qs, aI cI 10 sf), (qr, .inr (0, [.int (zi mc), .ref qe, .int (zi ru)])), (qe, aR cO cap ef), (qm, .inr (2, [.ref qk, .int (zi fi), .int (zi 0)])), (qk, aI cI 366 mf)] := hD
        have hRK := hp3
        have hEF := hp4
        first | have hmb := mkOk_b hi2 | skip
        subst ex13 ex17
        have hP9 := hP.sub (ws' := [(h0, .inr (4, [.ref qs, .ref qr, .ref qm, .ref qw, .ref qt, .int (zi we)])), (qs, aI cI 10 sf), (qm, .inr (2, [.ref qk, .int (zi fi), .int (zi 0)])), (qk, aI cI 366 mf), (qr, .inr (0, [.int (zi mc), .ref qe, .int (zi ru)])), (qe, aR cO cap ef)]) [0, 1, 4, 5, 2, 3] rfl
        have hD9 := hD.sub (ws' := [(h0, .inr (4, [.ref qs, .ref qr, .ref qm, .ref qw, .ref qt, .int (zi we)])), (qs, aI cI 10 sf), (qm, .inr (2, [.ref qk, .int (zi fi), .int (zi 0)])), (qk, aI cI 366 mf), (qr, .inr (0, [.int (zi mc), .ref qe, .int (zi ru)])), (qe, aR cO cap ef)]) [0, 1, 4, 5, 2, 3] (by decide) rfl
        exact loop58 (fz) (sf sl.toNat) (if 0 ≤ many then many else 0 - many) fi 0 mf (by first | (rw [← hi0]; symm; first | (apply zmv_s1 <;> omega) | (apply zmv_s0 <;> omega)) | (rw [show (if 0 ≤ many then many else 0 - many) = many from by omega]; exact hp9)) (by omega) (by first | assumption | exact Or.inl ⟨by omega, by omega, rfl⟩) (by omega) ls _ _ (lv_sub hl [2, 0, 3, 4, 5, 1] rfl) hP9 hD9 hS
      · skip
        exact absurd True.intro (by omega)
    · skip
      exact absurd True.intro (by omega)

set_option maxHeartbeats 4000000 in
set_option maxRecDepth 100000 in
theorem c_X4_moveWork_n (l : Launch)  (dC : Nat → ClassId) (dI : Nat → Nat → Nat) (cI : ClassId) (cO : ClassId) (h0 : Nat) (qs : Nat) (qr : Nat) (qm : Nat) (qw : Nat) (qt : Nat) (we : Int) (sf : Nat → Int) (qk : Nat) (fi : Int) (ln : Int) (mf : Nat → Int) (mc : Int) (qe : Nat) (ru : Int) (cap : Nat) (ef : Nat → Option Nat) (rf : Nat → Nat) (kf : Nat → Int) (af : Nat → Int) (bf : Nat → Int) (zf : Nat → Int) (fz : Nat) (rr : Int) (sl : Int) (many : Int) (sz : Nat) (hp0 : 0 ≤ sl ∧ sl ≤ 9) (hp1 : 0 ≤ (sf sl.toNat) ∧ (sf sl.toNat) ≤ 3652058) (hp2 : 0 ≤ ru ∧ ru ≤ 12 ∧ ru ≤ (cap : Int) ∧ (cap : Int) ≤ 1000) (hp3 : ∀ j : Nat, (j : Int) < ru → (0 ≤ (kf j) ∧ (kf j) ≤ 3) ∧ ((kf j) = 1 ∧ -100 ≤ (af j) ∧ (af j) ≤ 100 ∨ (kf j) ≠ 1 ∧ 1 ≤ (af j) ∧ (af j) ≤ 12) ∧ ((kf j) = 1 ∨ (kf j) = 2 ∧ 1 ≤ (bf j) ∧ (bf j) ≤ 7 ∨ (kf j) ≠ 2 ∧ 1 ≤ (bf j) ∧ (bf j) ≤ 31) ∧ ((kf j) ≠ 2 ∨ (zf j) = -1 ∨ 1 ≤ (zf j) ∧ (zf j) ≤ 4)) (hp4 : ∀ j : Nat, (j : Int) < ru → ef j = some (rf j)) (hp5 : 0 ≤ we ∧ we ≤ 127) (hp6 : 0 ≤ fi ∧ fi ≤ 4000000 ∧ 0 ≤ ln ∧ ln ≤ 366) (hp7 : -1000 ≤ many ∧ many ≤ 1000 ∧ many < 0) (hp8 : 4000000 ≤ fz) (hp9 : zmv (wkX4 we kf af bf zf ru) (-1) fz (sf sl.toNat) (-many) = rr) (hp10 : 0 ≤ rr ∧ rr ≤ 3652058) : Met l yX4_moveWork wsX4_moveWork ({ frames := 6, cells := 0, slots := 0, locals := 135 }) (zPwF (dC, dI) [(cI, .int), (cO, .object "java/lang/Object")] sz [.ref h0, .int (zi sl), .int (zi many)] [(h0, .inr (4, [.ref qs, .ref qr, .ref qm, .ref qw, .ref qt, .int (zi we)])), (qs, aI cI 10 sf), (qm, .inr (2, [.ref qk, .int (zi fi), .int (zi ln)])), (qk, aI cI 366 mf), (qr, .inr (0, [.int (zi mc), .ref qe, .int (zi ru)])), (qe, aR cO cap ef)] (zRu (dC, dI) ru rf kf af bf zf)) (va_Qi (fun (r : Int32) (u : (Int) × (Int) × (Nat → Int) × (Nat → Int)) => r = zi rr ∧ ((0 ≤ u.1 ∧ u.1 ≤ 4000000 ∧ 0 ≤ u.2.1 ∧ u.2.1 ≤ 366) ∧ u.2.2.2 = zup sf sl.toNat rr)) (fun (u : (Int) × (Int) × (Nat → Int) × (Nat → Int)) => zB (dC, dI) [(cI, .int), (cO, .object "java/lang/Object")] (va_A [(h0, .inr (4, [.ref qs, .ref qr, .ref qm, .ref qw, .ref qt, .int (zi we)])), (qs, aI cI 10 sf), (qm, .inr (2, [.ref qk, .int (zi fi), .int (zi ln)])), (qk, aI cI 366 mf), (qr, .inr (0, [.int (zi mc), .ref qe, .int (zi ru)])), (qe, aR cO cap ef)] sz) [(h0, .inr (4, [.ref qs, .ref qr, .ref qm, .ref qw, .ref qt, .int (zi we)])), (qs, aI cI 10 u.2.2.2), (qm, .inr (2, [.ref qk, .int (zi u.1), .int (zi u.2.1)])), (qk, aI cI 366 u.2.2.1), (qr, .inr (0, [.int (zi mc), .ref qe, .int (zi ru)])), (qe, aR cO cap ef)] ()) (va_A [(h0, .inr (4, [.ref qs, .ref qr, .ref qm, .ref qw, .ref qt, .int (zi we)])), (qs, aI cI 10 sf), (qm, .inr (2, [.ref qk, .int (zi fi), .int (zi ln)])), (qk, aI cI 366 mf), (qr, .inr (0, [.int (zi mc), .ref qe, .int (zi ru)])), (qe, aR cO cap ef)] sz)) 0 0 (va_A [(h0, .inr (4, [.ref qs, .ref qr, .ref qm, .ref qw, .ref qt, .int (zi we)])), (qs, aI cI 10 sf), (qm, .inr (2, [.ref qk, .int (zi fi), .int (zi ln)])), (qk, aI cI 366 mf), (qr, .inr (0, [.int (zi mc), .ref qe, .int (zi ru)])), (qe, aR cO cap ef)] sz) := by
  refine Met.ofW (cc := cX4_moveWork) (maxL := 6) (ret := (some .int)) (by decide) rfl ?_
  intro p e s m args below meth c s₁ B hml hv
  obtain ⟨rfl, hsz, hP, hK, hD0, hG⟩ := hv
  have hx := B.exec
  have hb := B.bytes
  have hr := B.returns
  have hts := atoms_spec (ws := wsX4_moveWork) B.pre
  have hown : s.vm.findClass RX4 = some m.cls := findClass_of_methodNamed B.named
  have hlocks := B.notSynchronized
  subst hsz
  have hD := hD0.self (sz := s.heap.size)
  generalize hAe : va_A [(h0, .inr (4, [.ref qs, .ref qr, .ref qm, .ref qw, .ref qt, .int (zi we)])), (qs, aI cI 10 sf), (qm, .inr (2, [.ref qk, .int (zi fi), .int (zi ln)])), (qk, aI cI 366 mf), (qr, .inr (0, [.int (zi mc), .ref qe, .int (zi ru)])), (qe, aR cO cap ef)] s.heap.size = A at hD hG ⊢
  have hA : ∀ q : Nat, s.heap.size ≤ q → A q := fun q h => by rw [← hAe]; exact Or.inr h
  have hS : va_S A s.heap s.heap [] := va_S.rf
  have hP : va_P (dC, dI) vwCl [(h0, .inr (4, [.ref qs, .ref qr, .ref qm, .ref qw, .ref qt, .int (zi we)])), (qs, aI cI 10 sf), (qm, .inr (2, [.ref qk, .int (zi fi), .int (zi ln)])), (qk, aI cI 366 mf), (qr, .inr (0, [.int (zi mc), .ref qe, .int (zi ru)])), (qe, aR cO cap ef)] s.heap := hP
  have loop58 : ∀ (fu : Nat) (nn : Int) (lft : Int) (fj : Int) (lj : Int) (mg : Nat → Int), (zmv (wkX4 we kf af bf zf ru) (-1) fu nn lft = rr) → (0 ≤ nn ∧ nn ≤ 3652058 ∧ 0 ≤ lft ∧ lft ≤ 1000) → (mkOk kf af bf zf ru fj lj mg) → (nn + 2 < fu) → ∀ (ls : Array Slot) (H : Heap) (locs : List Loc), lv_has ls 6 [(3, .int (zi nn)), (5, .int (zi lft)), (0, .ref h0), (1, .int (zi sl)), (2, .int (zi many)), (4, .int (zi (-1)))] → va_P (dC, dI) vwCl [(h0, .inr (4, [.ref qs, .ref qr, .ref qm, .ref qw, .ref qt, .int (zi we)])), (qs, aI cI 10 sf), (qm, .inr (2, [.ref qk, .int (zi fj), .int (zi lj)])), (qk, aI cI 366 mg), (qr, .inr (0, [.int (zi mc), .ref qe, .int (zi ru)])), (qe, aR cO cap ef)] H → va_D A [(h0, .inr (4, [.ref qs, .ref qr, .ref qm, .ref qw, .ref qt, .int (zi we)])), (qs, aI cI 10 sf), (qm, .inr (2, [.ref qk, .int (zi fj), .int (zi lj)])), (qk, aI cI 366 mg), (qr, .inr (0, [.int (zi mc), .ref qe, .int (zi ru)])), (qe, aR cO cap ef)] → va_S A s.heap H locs → W p l e (headSpec wsX4_moveWork ({ frames := 6, cells := 0, slots := 0, locals := 135 })).room s m ([.ref h0, .int (zi sl), .int (zi many)] : List Value).toArray below meth c H locs 0 0 (MQ below (va_Qi (fun (r : Int32) (u : (Int) × (Int) × (Nat → Int) × (Nat → Int)) => r = zi rr ∧ ((0 ≤ u.1 ∧ u.1 ≤ 4000000 ∧ 0 ≤ u.2.1 ∧ u.2.1 ≤ 366) ∧ u.2.2.2 = zup sf sl.toNat rr)) (fun (u : (Int) × (Int) × (Nat → Int) × (Nat → Int)) => zB (dC, dI) [(cI, .int), (cO, .object "java/lang/Object")] A [(h0, .inr (4, [.ref qs, .ref qr, .ref qm, .ref qw, .ref qt, .int (zi we)])), (qs, aI cI 10 u.2.2.2), (qm, .inr (2, [.ref qk, .int (zi u.1), .int (zi u.2.1)])), (qk, aI cI 366 u.2.2.1), (qr, .inr (0, [.int (zi mc), .ref qe, .int (zi ru)])), (qe, aR cO cap ef)] ()) A) ([.ref h0, .int (zi sl), .int (zi many)] : List Value).toArray s 0 0 A) (F0 m 58 ls []) := by
    intro fu
    induction fu with
    | zero =>
      intro nn lft fj lj mg hi0 hi1 hi2 hfu ls H locs hl hP hD hS
      exact absurd hfu (by omega)
    | succ fu ih =>
      intro nn lft fj lj mg hi0 hi1 hi2 hfu ls H locs hl hP hD hS
      have hP : va_P (dC, dI) vwCl [(h0, .inr (4, [.ref qs, .ref qr, .ref qm, .ref qw, .ref qt, .int (zi we)])), (qs, aI cI 10 sf), (qm, .inr (2, [.ref qk, .int (zi fj), .int (zi lj)])), (qk, aI cI 366 mg), (qr, .inr (0, [.int (zi mc), .ref qe, .int (zi ru)])), (qe, aR cO cap ef)] H := hP
      have hD : va_D A [(h0, .inr (4, [.ref qs, .ref qr, .ref qm, .ref qw, .ref qt, .int (zi we)])), (qs, aI cI 10 sf), (qm, .inr (2, [.ref qk, .int (zi fj), .int (zi lj)])), (qk, aI cI 366 mg), (qr, .inr (0, [.int (zi mc), .ref qe, .int (zi ru)])), (qe, aR cO cap ef)] := hD
      have hRK := hp3
      have hEF := hp4
      first | have hmb := mkOk_b hi2 | skip
      refine lv_iload hx hb dX4_moveWork_58 (lv_at hl 1 rfl) ?_
      refine zw_if_le (tgt := 93) hx hb dX4_moveWork_60 (by decide) ⟨by omega, by omega⟩ (fun h1 => ?_) (fun h1 => ?_)
      · skip
        first | have hz := zmv_0 (wkX4 we kf af bf zf ru) (-1) fu nn lft (by omega) | have hz := zmv_x (wkX4 we kf af bf zf ru) (-1) fu nn lft (by omega) (by omega)
        refine lv_iload hx hb dX4_moveWork_93 (lv_at hl 1 rfl) ?_
        refine zw_if_le (tgt := 108) hx hb dX4_moveWork_95 (by decide) ⟨by omega, by omega⟩ (fun h2 => ?_) (fun h2 => ?_)
        · skip
          refine lv_aload_n hx hb dX4_moveWork_108 rfl (lv_at hl 2 rfl) ?_
          refine lv_iload_n hx hb dX4_moveWork_109 rfl (lv_at hl 3 rfl) ?_
          refine lv_iload_n hx hb dX4_moveWork_110 rfl (lv_at hl 0 rfl) ?_
          have hh3 := c_X4_keep l dC dI cI h0 qs qr qm qw qt we sf sl nn H.size (by omega) (by omega) (by omega)
          have hPc := hP.sub (ws' := [(h0, .inr (4, [.ref qs, .ref qr, .ref qm, .ref qw, .ref qt, .int (zi we)])), (qs, aI cI 10 sf)]) [0, 1] rfl
          have hKc : va_K (dC, dI) vwCl [(cI, .int)] s := hK.sub (tys' := [(cI, .int)]) [0] rfl
          have hDc := hD.sub (ws' := [(h0, .inr (4, [.ref qs, .ref qr, .ref qm, .ref qw, .ref qt, .int (zi we)])), (qs, aI cI 10 sf)]) [0, 1] (by decide) rfl
          have hFc := va_free (wc := [(h0, .inr (4, [.ref qs, .ref qr, .ref qm, .ref qw, .ref qt, .int (zi we)])), (qs, aI cI 10 sf)]) hD hS hA [0, 1] rfl
          refine va_calli (va_runV (As := [.int (zi sl), .int (zi nn)]) (rest := []) ⟨hx, hb, hml, hown, hts⟩ hh3 (cwV 2 hts gX4_moveWork_X4_keep rfl rfl rfl (by decide +kernel) ⟨Nat.le_of_ble_eq_true rfl, Nat.le_of_ble_eq_true rfl⟩) ⟨zPw.blind _ _ _ _ _, va_recv hKc hPc (ci := 4) (q0 := 0) rfl rfl, fun U hU hW => ⟨rfl, by rw [hU], by rw [hU]; exact hPc, va_K.moved hW.alike hKc, hDc.weaken (fun _ _ _ _ => trivial)⟩⟩ rfl rfl hl.1 rfl (lv_room (Nat.le_of_ble_eq_true rfl)) dX4_moveWork_111 ⟨Nat.le_of_ble_eq_true rfl, Nat.le_of_ble_eq_true rfl⟩) hS (fun q _ h => hFc q h) hFc (fun r3 u t H1 locs ht hvm hw hB hz1 hk1 hS => ?_)
          obtain ⟨hP1, hK1, hD1⟩ := hB
          rw [ht] at hP1
          obtain ⟨hP, hD⟩ := va_join (wr := [(qm, .inr (2, [.ref qk, .int (zi fj), .int (zi lj)])), (qk, aI cI 366 mg), (qr, .inr (0, [.int (zi mc), .ref qe, .int (zi ru)])), (qe, aR cO cap ef)]) (w1 := [(h0, .inr (4, [.ref qs, .ref qr, .ref qm, .ref qw, .ref qt, .int (zi we)])), (qs, aI cI 10 (zup sf sl.toNat nn))]) hP hD [0, 1] [2, 3, 4, 5] rfl rfl (by decide) (by decide) hk1 hFc hP1 hD1
          generalize H1 = H at hP hS ⊢
          obtain rfl : r3 = zi nn := hw
          have hP : va_P (dC, dI) vwCl [(qm, .inr (2, [.ref qk, .int (zi fj), .int (zi lj)])), (qk, aI cI 366 mg), (qr, .inr (0, [.int (zi mc), .ref qe, .int (zi ru)])), (qe, aR cO cap ef), (h0, .inr (4, [.ref qs, .ref qr, .ref qm, .ref qw, .ref qt, .int (zi we)])), (qs, aI cI 10 (zup sf sl.toNat nn))] H := hP
          have hD : va_D A [(qm, .inr (2, [.ref qk, .int (zi fj), .int (zi lj)])), (qk, aI cI 366 mg), (qr, .inr (0, [.int (zi mc), .ref qe, .int (zi ru)])), (qe, aR cO cap ef), (h0, .inr (4, [.ref qs, .ref qr, .ref qm, .ref qw, .ref qt, .int (zi we)])), (qs, aI cI 10 (zup sf sl.toNat nn))] := hD
          have hP9 := hP.sub (ws' := [(h0, .inr (4, [.ref qs, .ref qr, .ref qm, .ref qw, .ref qt, .int (zi we)])), (qs, aI cI 10 (zup sf sl.toNat nn)), (qm, .inr (2, [.ref qk, .int (zi fj), .int (zi lj)])), (qk, aI cI 366 mg), (qr, .inr (0, [.int (zi mc), .ref qe, .int (zi ru)])), (qe, aR cO cap ef)]) [4, 5, 0, 1, 2, 3] rfl
          have hD9 := hD.sub (ws' := [(h0, .inr (4, [.ref qs, .ref qr, .ref qm, .ref qw, .ref qt, .int (zi we)])), (qs, aI cI 10 (zup sf sl.toNat nn)), (qm, .inr (2, [.ref qk, .int (zi fj), .int (zi lj)])), (qk, aI cI 366 mg), (qr, .inr (0, [.int (zi mc), .ref qe, .int (zi ru)])), (qe, aR cO cap ef)]) [4, 5, 0, 1, 2, 3] (by decide) rfl
          have hp9 : (0 ≤ fj ∧ fj ≤ 4000000 ∧ 0 ≤ lj ∧ lj ≤ 366) ∧ (zup sf sl.toNat nn) = zup sf sl.toNat rr := by
            exact ⟨mkOk_b hi2, by rw [show nn = rr from by omega]⟩
          exact W.iret (v := zi nn) hx hb hr (fun t ht hW => ⟨⟨zi nn, (fj, lj, mg, (zup sf sl.toNat nn)), rfl, ⟨congrArg zi (by omega), hp9⟩, by rw [ht]; exact hP9, va_K.moved hW.alike hK, hD9⟩, hS.F ht⟩) hS.2.2 dX4_moveWork_114
        · skip
          exact absurd True.intro (by omega)
      · skip
        refine lv_iload_n hx hb dX4_moveWork_63 rfl (lv_at hl 0 rfl) ?_
        refine lv_iload hx hb dX4_moveWork_64 (lv_at hl 5 rfl) ?_
        refine zw_iadd hx hb dX4_moveWork_66 ?_
        refine zw_i2l hx hb dX4_moveWork_67 ⟨by omega, by omega⟩ ?_
        have hh4 := c_X0_isNumber l (nn + (-1)) (by omega)
        refine vp_callSi (va_Run.run (va_runS (As := [.long (zl (nn + (-1)))]) (rest := []) ⟨hx, hb, hml, hown, hts⟩ hh4 (va_cwS 1 hts gX4_moveWork_X0_isNumber rfl rfl rfl (by decide +kernel) ⟨Nat.le_of_ble_eq_true rfl, Nat.le_of_ble_eq_true rfl⟩) ⟨fun a U g mk q => q, fun U hU hW => ⟨rfl, trivial⟩⟩ rfl rfl hl.1 rfl (lv_room (Nat.le_of_ble_eq_true rfl)) dX4_moveWork_68 ⟨Nat.zero_le _, Nat.zero_le _⟩)) (fun r4 (hr4 : r4 = zi (f_X0_isNumber (nn + (-1)))) => ?_)
        subst hr4
        have hf4 := b_X0_isNumber (nn + (-1)) (by omega)
        refine zw_if_eq (tgt := 93) hx hb dX4_moveWork_71 (by decide) ⟨by omega, by omega⟩ (fun h5 => ?_) (fun h5 => ?_)
        · skip
          first | have hz := zmv_0 (wkX4 we kf af bf zf ru) (-1) fu nn lft (by omega) | have hz := zmv_x (wkX4 we kf af bf zf ru) (-1) fu nn lft (by omega) (by omega)
          refine lv_iload hx hb dX4_moveWork_93 (lv_at hl 1 rfl) ?_
          refine zw_if_le (tgt := 108) hx hb dX4_moveWork_95 (by decide) ⟨by omega, by omega⟩ (fun h6 => ?_) (fun h6 => ?_)
          · skip
            refine lv_aload_n hx hb dX4_moveWork_108 rfl (lv_at hl 2 rfl) ?_
            refine lv_iload_n hx hb dX4_moveWork_109 rfl (lv_at hl 3 rfl) ?_
            refine lv_iload_n hx hb dX4_moveWork_110 rfl (lv_at hl 0 rfl) ?_
            have hh7 := c_X4_keep l dC dI cI h0 qs qr qm qw qt we sf sl nn H.size (by omega) (by omega) (by omega)
            have hPc := hP.sub (ws' := [(h0, .inr (4, [.ref qs, .ref qr, .ref qm, .ref qw, .ref qt, .int (zi we)])), (qs, aI cI 10 sf)]) [0, 1] rfl
            have hKc : va_K (dC, dI) vwCl [(cI, .int)] s := hK.sub (tys' := [(cI, .int)]) [0] rfl
            have hDc := hD.sub (ws' := [(h0, .inr (4, [.ref qs, .ref qr, .ref qm, .ref qw, .ref qt, .int (zi we)])), (qs, aI cI 10 sf)]) [0, 1] (by decide) rfl
            have hFc := va_free (wc := [(h0, .inr (4, [.ref qs, .ref qr, .ref qm, .ref qw, .ref qt, .int (zi we)])), (qs, aI cI 10 sf)]) hD hS hA [0, 1] rfl
            refine va_calli (va_runV (As := [.int (zi sl), .int (zi nn)]) (rest := []) ⟨hx, hb, hml, hown, hts⟩ hh7 (cwV 2 hts gX4_moveWork_X4_keep rfl rfl rfl (by decide +kernel) ⟨Nat.le_of_ble_eq_true rfl, Nat.le_of_ble_eq_true rfl⟩) ⟨zPw.blind _ _ _ _ _, va_recv hKc hPc (ci := 4) (q0 := 0) rfl rfl, fun U hU hW => ⟨rfl, by rw [hU], by rw [hU]; exact hPc, va_K.moved hW.alike hKc, hDc.weaken (fun _ _ _ _ => trivial)⟩⟩ rfl rfl hl.1 rfl (lv_room (Nat.le_of_ble_eq_true rfl)) dX4_moveWork_111 ⟨Nat.le_of_ble_eq_true rfl, Nat.le_of_ble_eq_true rfl⟩) hS (fun q _ h => hFc q h) hFc (fun r7 u t H1 locs ht hvm hw hB hz1 hk1 hS => ?_)
            obtain ⟨hP1, hK1, hD1⟩ := hB
            rw [ht] at hP1
            obtain ⟨hP, hD⟩ := va_join (wr := [(qm, .inr (2, [.ref qk, .int (zi fj), .int (zi lj)])), (qk, aI cI 366 mg), (qr, .inr (0, [.int (zi mc), .ref qe, .int (zi ru)])), (qe, aR cO cap ef)]) (w1 := [(h0, .inr (4, [.ref qs, .ref qr, .ref qm, .ref qw, .ref qt, .int (zi we)])), (qs, aI cI 10 (zup sf sl.toNat nn))]) hP hD [0, 1] [2, 3, 4, 5] rfl rfl (by decide) (by decide) hk1 hFc hP1 hD1
            generalize H1 = H at hP hS ⊢
            obtain rfl : r7 = zi nn := hw
            have hP : va_P (dC, dI) vwCl [(qm, .inr (2, [.ref qk, .int (zi fj), .int (zi lj)])), (qk, aI cI 366 mg), (qr, .inr (0, [.int (zi mc), .ref qe, .int (zi ru)])), (qe, aR cO cap ef), (h0, .inr (4, [.ref qs, .ref qr, .ref qm, .ref qw, .ref qt, .int (zi we)])), (qs, aI cI 10 (zup sf sl.toNat nn))] H := hP
            have hD : va_D A [(qm, .inr (2, [.ref qk, .int (zi fj), .int (zi lj)])), (qk, aI cI 366 mg), (qr, .inr (0, [.int (zi mc), .ref qe, .int (zi ru)])), (qe, aR cO cap ef), (h0, .inr (4, [.ref qs, .ref qr, .ref qm, .ref qw, .ref qt, .int (zi we)])), (qs, aI cI 10 (zup sf sl.toNat nn))] := hD
            have hP9 := hP.sub (ws' := [(h0, .inr (4, [.ref qs, .ref qr, .ref qm, .ref qw, .ref qt, .int (zi we)])), (qs, aI cI 10 (zup sf sl.toNat nn)), (qm, .inr (2, [.ref qk, .int (zi fj), .int (zi lj)])), (qk, aI cI 366 mg), (qr, .inr (0, [.int (zi mc), .ref qe, .int (zi ru)])), (qe, aR cO cap ef)]) [4, 5, 0, 1, 2, 3] rfl
            have hD9 := hD.sub (ws' := [(h0, .inr (4, [.ref qs, .ref qr, .ref qm, .ref qw, .ref qt, .int (zi we)])), (qs, aI cI 10 (zup sf sl.toNat nn)), (qm, .inr (2, [.ref qk, .int (zi fj), .int (zi lj)])), (qk, aI cI 366 mg), (qr, .inr (0, [.int (zi mc), .ref qe, .int (zi ru)])), (qe, aR cO cap ef)]) [4, 5, 0, 1, 2, 3] (by decide) rfl
            have hp9 : (0 ≤ fj ∧ fj ≤ 4000000 ∧ 0 ≤ lj ∧ lj ≤ 366) ∧ (zup sf sl.toNat nn) = zup sf sl.toNat rr := by
              exact ⟨mkOk_b hi2, by rw [show nn = rr from by omega]⟩
            exact W.iret (v := zi nn) hx hb hr (fun t ht hW => ⟨⟨zi nn, (fj, lj, mg, (zup sf sl.toNat nn)), rfl, ⟨congrArg zi (by omega), hp9⟩, by rw [ht]; exact hP9, va_K.moved hW.alike hK, hD9⟩, hS.F ht⟩) hS.2.2 dX4_moveWork_114
          · skip
            exact absurd True.intro (by omega)
        · skip
          refine lv_iload_n hx hb dX4_moveWork_74 rfl (lv_at hl 0 rfl) ?_
          refine lv_iload hx hb dX4_moveWork_75 (lv_at hl 5 rfl) ?_
          refine zw_iadd hx hb dX4_moveWork_77 ?_
          refine zw_top (fun x8 ex8 => ?_)
          refine lv_istore_n (lv' := [(3, .int (zi x8)), (5, .int (zi lft)), (0, .ref h0), (1, .int (zi sl)), (2, .int (zi many)), (4, .int (zi (-1)))]) hx hb dX4_moveWork_78 rfl hl (by decide) rfl (fun ls hl => ?_)
          refine lv_aload_n hx hb dX4_moveWork_79 rfl (lv_at hl 2 rfl) ?_
          refine lv_iload_n hx hb dX4_moveWork_80 rfl (lv_at hl 0 rfl) ?_
          have hh9 := c_X4_isWorking l dC dI cI cO h0 qs qr qm qw qt we qk fj lj mg mc qe ru cap ef rf kf af bf zf x8 H.size (by omega) (by omega) (by first | exact hRK) (by first | exact hEF) (by omega) (by assumption)
          have hPc := hP.sub (ws' := [(h0, .inr (4, [.ref qs, .ref qr, .ref qm, .ref qw, .ref qt, .int (zi we)])), (qm, .inr (2, [.ref qk, .int (zi fj), .int (zi lj)])), (qk, aI cI 366 mg), (qr, .inr (0, [.int (zi mc), .ref qe, .int (zi ru)])), (qe, aR cO cap ef)]) [0, 2, 3, 4, 5] rfl
          have hKc : va_K (dC, dI) vwCl [(cI, .int), (cO, .object "java/lang/Object")] s := hK
          have hDc := hD.sub (ws' := [(h0, .inr (4, [.ref qs, .ref qr, .ref qm, .ref qw, .ref qt, .int (zi we)])), (qm, .inr (2, [.ref qk, .int (zi fj), .int (zi lj)])), (qk, aI cI 366 mg), (qr, .inr (0, [.int (zi mc), .ref qe, .int (zi ru)])), (qe, aR cO cap ef)]) [0, 2, 3, 4, 5] (by decide) rfl
          have hFc := va_free (wc := [(h0, .inr (4, [.ref qs, .ref qr, .ref qm, .ref qw, .ref qt, .int (zi we)])), (qm, .inr (2, [.ref qk, .int (zi fj), .int (zi lj)])), (qk, aI cI 366 mg), (qr, .inr (0, [.int (zi mc), .ref qe, .int (zi ru)])), (qe, aR cO cap ef)]) hD hS hA [0, 2, 3, 4, 5] rfl
          refine va_calli (va_runV (As := [.int (zi x8)]) (rest := []) ⟨hx, hb, hml, hown, hts⟩ hh9 (cwV 1 hts gX4_moveWork_X4_isWorking rfl rfl rfl (by decide +kernel) ⟨Nat.le_of_ble_eq_true rfl, Nat.le_of_ble_eq_true rfl⟩) ⟨zPwF.blind _ _ _ _ _ zRu_ok, va_recv hKc hPc (ci := 4) (q0 := 0) rfl rfl, fun U hU hW => ⟨rfl, by rw [hU], by rw [hU]; exact hPc, va_K.moved hW.alike hKc, hDc.weaken (fun _ _ _ _ => trivial), zF.call zRu_ok hG hS hFc hU hW⟩⟩ rfl rfl hl.1 rfl (lv_room (Nat.le_of_ble_eq_true rfl)) dX4_moveWork_81 ⟨Nat.le_of_ble_eq_true rfl, Nat.le_of_ble_eq_true rfl⟩) hS (fun q _ h => hFc q h) hFc (fun r9 u t H1 locs ht hvm hw hB hz1 hk1 hS => ?_)
          obtain ⟨fj_10, lj_10, mg_10⟩ := u
          obtain ⟨hw, hw9⟩ := hw
          replace hw9 : mkOk kf af bf zf ru fj_10 lj_10 mg_10 := hw9
          obtain ⟨hP1, hK1, hD1⟩ := hB
          rw [ht] at hP1
          replace hP1 : va_P (dC, dI) vwCl [(h0, .inr (4, [.ref qs, .ref qr, .ref qm, .ref qw, .ref qt, .int (zi we)])), (qm, .inr (2, [.ref qk, .int (zi fj_10), .int (zi lj_10)])), (qk, aI cI 366 mg_10), (qr, .inr (0, [.int (zi mc), .ref qe, .int (zi ru)])), (qe, aR cO cap ef)] H1 := hP1
          replace hD1 : va_D _ [(h0, .inr (4, [.ref qs, .ref qr, .ref qm, .ref qw, .ref qt, .int (zi we)])), (qm, .inr (2, [.ref qk, .int (zi fj_10), .int (zi lj_10)])), (qk, aI cI 366 mg_10), (qr, .inr (0, [.int (zi mc), .ref qe, .int (zi ru)])), (qe, aR cO cap ef)] := hD1
          obtain ⟨hP, hD⟩ := va_join (wr := [(qs, aI cI 10 sf)]) (w1 := [(h0, .inr (4, [.ref qs, .ref qr, .ref qm, .ref qw, .ref qt, .int (zi we)])), (qm, .inr (2, [.ref qk, .int (zi fj_10), .int (zi lj_10)])), (qk, aI cI 366 mg_10), (qr, .inr (0, [.int (zi mc), .ref qe, .int (zi ru)])), (qe, aR cO cap ef)]) hP hD [0, 2, 3, 4, 5] [1] rfl rfl (by decide) (by decide) hk1 hFc hP1 hD1
          generalize H1 = H at hP hS ⊢
          obtain rfl : r9 = zi (wkX4 we kf af bf zf ru x8) := hw
          have hP : va_P (dC, dI) vwCl [(qs, aI cI 10 sf), (h0, .inr (4, [.ref qs, .ref qr, .ref qm, .ref qw, .ref qt, .int (zi we)])), (qm, .inr (2, [.ref qk, .int (zi fj_10), .int (zi lj_10)])), (qk, aI cI 366 mg_10), (qr, .inr (0, [.int (zi mc), .ref qe, .int (zi ru)])), (qe, aR cO cap ef)] H := hP
          have hD : va_D A [(qs, aI cI 10 sf), (h0, .inr (4, [.ref qs, .ref qr, .ref qm, .ref qw, .ref qt, .int (zi we)])), (qm, .inr (2, [.ref qk, .int (zi fj_10), .int (zi lj_10)])), (qk, aI cI 366 mg_10), (qr, .inr (0, [.int (zi mc), .ref qe, .int (zi ru)])), (qe, aR cO cap ef)] := hD
          have hf9_0 := wkX4_s we kf af bf zf ru x8
          refine zw_if_eq (tgt := 58) hx hb dX4_moveWork_84 (by decide) ⟨by omega, by omega⟩ (fun h11 => ?_) (fun h11 => ?_)
          · skip
            have hRK := hp3
            have hEF := hp4
            first | have hmb := mkOk_b hi2 | skip
            subst ex8
            have hP9 := hP.sub (ws' := [(h0, .inr (4, [.ref qs, .ref qr, .ref qm, .ref qw, .ref qt, .int (zi we)])), (qs, aI cI 10 sf), (qm, .inr (2, [.ref qk, .int (zi fj_10), .int (zi lj_10)])), (qk, aI cI 366 mg_10), (qr, .inr (0, [.int (zi mc), .ref qe, .int (zi ru)])), (qe, aR cO cap ef)]) [1, 0, 2, 3, 4, 5] rfl
            have hD9 := hD.sub (ws' := [(h0, .inr (4, [.ref qs, .ref qr, .ref qm, .ref qw, .ref qt, .int (zi we)])), (qs, aI cI 10 sf), (qm, .inr (2, [.ref qk, .int (zi fj_10), .int (zi lj_10)])), (qk, aI cI 366 mg_10), (qr, .inr (0, [.int (zi mc), .ref qe, .int (zi ru)])), (qe, aR cO cap ef)]) [1, 0, 2, 3, 4, 5] (by decide) rfl
            exact ih (nn + (-1)) lft fj_10 lj_10 mg_10 (by first | (rw [← hi0]; symm; first | (apply zmv_s1 <;> omega) | (apply zmv_s0 <;> omega)) | (rw [show (if 0 ≤ many then many else 0 - many) = (-many) from by omega]; exact hp9)) (by omega) (by first | assumption | exact Or.inl ⟨by omega, by omega, rfl⟩) (by omega) ls _ _ (lv_sub hl [0, 1, 2, 3, 4, 5] rfl) hP9 hD9 hS
          · skip
            obtain ⟨x12, ex12⟩ : ∃ z : Int, z = lft + (-1) := ⟨_, rfl⟩
            refine zw_iinc (lv' := [(5, .int (zi x12)), (3, .int (zi x8)), (0, .ref h0), (1, .int (zi sl)), (2, .int (zi many)), (4, .int (zi (-1)))]) (k := 1) hx hb ex12 dX4_moveWork_87 hl rfl (by decide) rfl (fun ls hl => ?_)
            refine lv_goto (tgt := 58) hx hb dX4_moveWork_90 (by decide) ?_
            have hRK := hp3
            have hEF := hp4
            first | have hmb := mkOk_b hi2 | skip
            subst ex8 ex12
            have hP9 := hP.sub (ws' := [(h0, .inr (4, [.ref qs, .ref qr, .ref qm, .ref qw, .ref qt, .int (zi we)])), (qs, aI cI 10 sf), (qm, .inr (2, [.ref qk, .int (zi fj_10), .int (zi lj_10)])), (qk, aI cI 366 mg_10), (qr, .inr (0, [.int (zi mc), .ref qe, .int (zi ru)])), (qe, aR cO cap ef)]) [1, 0, 2, 3, 4, 5] rfl
            have hD9 := hD.sub (ws' := [(h0, .inr (4, [.ref qs, .ref qr, .ref qm, .ref qw, .ref qt, .int (zi we)])), (qs, aI cI 10 sf), (qm, .inr (2, [.ref qk, .int (zi fj_10), .int (zi lj_10)])), (qk, aI cI 366 mg_10), (qr, .inr (0, [.int (zi mc), .ref qe, .int (zi ru)])), (qe, aR cO cap ef)]) [1, 0, 2, 3, 4, 5] (by decide) rfl
            exact ih (nn + (-1)) (lft + (-1)) fj_10 lj_10 mg_10 (by first | (rw [← hi0]; symm; first | (apply zmv_s1 <;> omega) | (apply zmv_s0 <;> omega)) | (rw [show (if 0 ≤ many then many else 0 - many) = (-many) from by omega]; exact hp9)) (by omega) (by first | assumption | exact Or.inl ⟨by omega, by omega, rfl⟩) (by omega) ls _ _ (lv_sub hl [1, 0, 2, 3, 4, 5] rfl) hP9 hD9 hS
  have hl := lv_entry ([.ref h0, .int (zi sl), .int (zi many)]) (n := 6) (Nat.le_of_ble_eq_true rfl)
  rw [lg_entry_eq]
  generalize (lg_sl ([.ref h0, .int (zi sl), .int (zi many)]) ++ List.replicate (6 - (lg_sl ([.ref h0, .int (zi sl), .int (zi many)])).length) Slot.unset).toArray = ls at hl ⊢
  have hl : lv_has ls 6 [(0, .ref h0), (1, .int (zi sl)), (2, .int (zi many))] := hl
  have hRK := hp3
  have hEF := hp4
  refine lv_iload_n hx hb dX4_moveWork_0 rfl (lv_at hl 1 rfl) ?_
  have hh13 := c_X4_needSlot l sl (by omega)
  refine va_csv (va_Run.run (va_runS (As := [.int (zi sl)]) (rest := []) ⟨hx, hb, hml, hown, hts⟩ hh13 (va_cwS 1 hts gX4_moveWork_X4_needSlot rfl rfl rfl (by decide +kernel) ⟨Nat.le_of_ble_eq_true rfl, Nat.le_of_ble_eq_true rfl⟩) ⟨fun a U g mk q => q, fun U hU hW => ⟨rfl, trivial⟩⟩ rfl rfl hl.1 rfl (lv_room (Nat.le_of_ble_eq_true rfl)) dX4_moveWork_1 ⟨Nat.le_of_ble_eq_true rfl, Nat.le_of_ble_eq_true rfl⟩)) (fun _ => ?_)
  refine lv_aload_n hx hb dX4_moveWork_4 rfl (lv_at hl 0 rfl) ?_
  refine lv_iload_n hx hb dX4_moveWork_5 rfl (lv_at hl 1 rfl) ?_
  have hh14 := c_X4_dateIn l dC dI cI h0 qs qr qm qw qt we sf sl (by omega) (by omega)
  have hPc := hP.sub (ws' := [(h0, .inr (4, [.ref qs, .ref qr, .ref qm, .ref qw, .ref qt, .int (zi we)])), (qs, aI cI 10 sf)]) [0, 1] rfl
  have hKc : va_K (dC, dI) vwCl [(cI, .int)] s := hK.sub (tys' := [(cI, .int)]) [0] rfl
  refine vp_callSi (va_Run.run (va_runV (As := [.int (zi sl)]) (rest := []) ⟨hx, hb, hml, hown, hts⟩ hh14 (cwV 1 hts gX4_moveWork_X4_dateIn rfl rfl rfl (by decide +kernel) ⟨Nat.le_of_ble_eq_true rfl, Nat.le_of_ble_eq_true rfl⟩) ⟨zPr.blind _ _ _ _, va_recv hKc hPc (ci := 4) (q0 := 0) rfl rfl, fun U hU hW => ⟨rfl, by rw [hU]; exact hPc, va_K.moved hW.alike hKc⟩⟩ rfl rfl hl.1 rfl (lv_room (Nat.le_of_ble_eq_true rfl)) dX4_moveWork_6 ⟨Nat.le_of_ble_eq_true rfl, Nat.le_of_ble_eq_true rfl⟩)) (fun r14 (hr14 : r14 = zi (sf sl.toNat)) => ?_)
  subst hr14
  refine zw_top (fun x15 ex15 => ?_)
  refine lv_istore_n (lv' := [(3, .int (zi x15)), (0, .ref h0), (1, .int (zi sl)), (2, .int (zi many))]) hx hb dX4_moveWork_9 rfl hl (by decide) rfl (fun ls hl => ?_)
  refine lv_iload_n hx hb dX4_moveWork_10 rfl (lv_at hl 3 rfl) ?_
  refine zw_sipush hx hb dX4_moveWork_11 (by decide) ?_
  refine zw_icmp_lt (tgt := 24) hx hb dX4_moveWork_14 (by decide) ⟨by omega, by omega⟩ ⟨by omega, by omega⟩ (fun h16 => ?_) (fun h16 => ?_)
  · skip
    exact absurd True.intro (by omega)
  · skip
    refine lv_iload_n hx hb dX4_moveWork_17 rfl (lv_at hl 3 rfl) ?_
    refine zw_sipush hx hb dX4_moveWork_18 (by decide) ?_
    refine zw_icmp_le (tgt := 34) hx hb dX4_moveWork_21 (by decide) ⟨by omega, by omega⟩ ⟨by omega, by omega⟩ (fun h17 => ?_) (fun h17 => ?_)
    · skip
      refine lv_iload_n hx hb dX4_moveWork_34 rfl (lv_at hl 3 rfl) ?_
      refine zw_if_ge (tgt := 42) hx hb dX4_moveWork_35 (by decide) ⟨by omega, by omega⟩ (fun h18 => ?_) (fun h18 => ?_)
      · skip
        exact absurd True.intro (by omega)
      · skip
        refine zw_iconst hx hb dX4_moveWork_38 ?_
        refine lv_goto (tgt := 43) hx hb dX4_moveWork_39 (by decide) ?_
        refine lv_istore (lv' := [(4, .int (zi (-1))), (3, .int (zi x15)), (0, .ref h0), (1, .int (zi sl)), (2, .int (zi many))]) hx hb dX4_moveWork_43 hl (by decide) rfl (fun ls hl => ?_)
        refine lv_iload_n hx hb dX4_moveWork_45 rfl (lv_at hl 4 rfl) ?_
        refine zw_abs hx hb (hml.trans hl.1.symm) hown (hts (.methodLink RX4 164 Lib.Math.abs.name) (by decide +kernel)) (hts (.static Lib.Math.abs.name) (by decide +kernel)) (hts (.initialized "java/lang/Math") (by decide +kernel)) (hts _ (by decide +kernel)) (Nat.le_of_ble_eq_true rfl) (Nat.le_of_ble_eq_true rfl) (Nat.le_of_ble_eq_true rfl) (Nat.le_of_ble_eq_true rfl) dX4_moveWork_46 ⟨by omega, by omega⟩ ?_
        refine zw_top (fun x19 ex19 => ?_)
        refine lv_istore (lv' := [(5, .int (zi x19)), (4, .int (zi (-1))), (3, .int (zi x15)), (0, .ref h0), (1, .int (zi sl)), (2, .int (zi many))]) hx hb dX4_moveWork_49 hl (by decide) rfl (fun ls hl => ?_)
        refine lv_aload_n hx hb dX4_moveWork_51 rfl (lv_at hl 3 rfl) ?_
        refine va_get (D := (dC, dI)) (ci := 4) (v := .ref qm) (C := RX4) (T := TX4) (N := 6) hx hb hts (by decide +kernel) hown hK hP 0 rfl rfl 2 (by decide) (hts (.fieldLink RX4 23 "CivilDays" "marked" "LCivilDays$MarkedYear;") (by decide +kernel)) (fun _ h9 => h9) rfl dX4_moveWork_52 ?_
        have hh20 := c_X2_forget l dC dI cI qm qk fi ln mf s.heap.size 
        have hPc := hP.sub (ws' := [(qm, .inr (2, [.ref qk, .int (zi fi), .int (zi ln)])), (qk, aI cI 366 mf)]) [2, 3] rfl
        have hKc : va_K (dC, dI) vwCl [(cI, .int)] s := hK.sub (tys' := [(cI, .int)]) [0] rfl
        have hDc := hD.sub (ws' := [(qm, .inr (2, [.ref qk, .int (zi fi), .int (zi ln)])), (qk, aI cI 366 mf)]) [2, 3] (by decide) rfl
        have hFc := va_free (wc := [(qm, .inr (2, [.ref qk, .int (zi fi), .int (zi ln)])), (qk, aI cI 366 mf)]) hD hS hA [2, 3] rfl
        refine va_callv (va_runV (As := []) (rest := []) ⟨hx, hb, hml, hown, hts⟩ hh20 (cwV 0 hts gX4_moveWork_X2_forget rfl rfl rfl (by decide +kernel) ⟨Nat.le_of_ble_eq_true rfl, Nat.le_of_ble_eq_true rfl⟩) ⟨zPw.blind _ _ _ _ _, va_recv hKc hPc (ci := 2) (q0 := 0) rfl rfl, fun U hU hW => ⟨rfl, by rw [hU], by rw [hU]; exact hPc, va_K.moved hW.alike hKc, hDc.weaken (fun _ _ _ _ => trivial)⟩⟩ rfl rfl hl.1 rfl (lv_room (Nat.le_of_ble_eq_true rfl)) dX4_moveWork_55 ⟨Nat.le_of_ble_eq_true rfl, Nat.le_of_ble_eq_true rfl⟩) hS (fun q _ h => hFc q h) hFc (fun u t H1 locs ht hvm hw hB hz1 hk1 hS => ?_)
        obtain ⟨hP1, hK1, hD1⟩ := hB
        rw [ht] at hP1
        obtain ⟨hP, hD⟩ := va_join (wr := [(h0, .inr (4, [.ref qs, .ref qr, .ref qm, .ref qw, .ref qt, .int (zi we)])), (qs, aI cI 10 sf), (qr, .inr (0, [.int (zi mc), .ref qe, .int (zi ru)])), (qe, aR cO cap ef)]) (w1 := [(qm, .inr (2, [.ref qk, .int (zi fi), .int (zi 0)])), (qk, aI cI 366 mf)]) hP hD [2, 3] [0, 1, 4, 5] rfl rfl (by decide) (by decide) hk1 hFc hP1 hD1
        generalize H1 = H at hP hS ⊢
        have hP : va_P (dC, dI) vwCl [(h0, .inr (4, [.ref qs, .ref qr, .ref qm, .ref qw, .ref qt, .int (zi we)])), (qs, aI cI 10 sf), (qr, .inr (0, [.int (zi mc), .ref qe, .int (zi ru)])), (qe, aR cO cap ef), (qm, .inr (2, [.ref qk, .int (zi fi), .int (zi 0)])), (qk, aI cI 366 mf)] H := hP
        have hD : va_D A [(h0, .inr (4, [.ref qs, .ref qr, .ref qm, .ref qw, .ref qt, .int (zi we)])), (qs, aI cI 10 sf), (qr, .inr (0, [.int (zi mc), .ref qe, .int (zi ru)])), (qe, aR cO cap ef), (qm, .inr (2, [.ref qk, .int (zi fi), .int (zi 0)])), (qk, aI cI 366 mf)] := hD
        have hRK := hp3
        have hEF := hp4
        first | have hmb := mkOk_b hi2 | skip
        subst ex15 ex19
        have hP9 := hP.sub (ws' := [(h0, .inr (4, [.ref qs, .ref qr, .ref qm, .ref qw, .ref qt, .int (zi we)])), (qs, aI cI 10 sf), (qm, .inr (2, [.ref qk, .int (zi fi), .int (zi 0)])), (qk, aI cI 366 mf), (qr, .inr (0, [.int (zi mc), .ref qe, .int (zi ru)])), (qe, aR cO cap ef)]) [0, 1, 4, 5, 2, 3] rfl
        have hD9 := hD.sub (ws' := [(h0, .inr (4, [.ref qs, .ref qr, .ref qm, .ref qw, .ref qt, .int (zi we)])), (qs, aI cI 10 sf), (qm, .inr (2, [.ref qk, .int (zi fi), .int (zi 0)])), (qk, aI cI 366 mf), (qr, .inr (0, [.int (zi mc), .ref qe, .int (zi ru)])), (qe, aR cO cap ef)]) [0, 1, 4, 5, 2, 3] (by decide) rfl
        exact loop58 (fz) (sf sl.toNat) (if 0 ≤ many then many else 0 - many) fi 0 mf (by first | (rw [← hi0]; symm; first | (apply zmv_s1 <;> omega) | (apply zmv_s0 <;> omega)) | (rw [show (if 0 ≤ many then many else 0 - many) = (-many) from by omega]; exact hp9)) (by omega) (by first | assumption | exact Or.inl ⟨by omega, by omega, rfl⟩) (by omega) ls _ _ (lv_sub hl [2, 0, 3, 4, 5, 1] rfl) hP9 hD9 hS
    · skip
      exact absurd True.intro (by omega)

set_option maxHeartbeats 4000000 in
set_option maxRecDepth 100000 in
theorem t_X4_moveWork_4n (l : Launch) (hst : l.stackTraces = false) (dC : Nat → ClassId) (dI : Nat → Nat → Nat) (cI : ClassId) (cO : ClassId) (h0 : Nat) (qs : Nat) (qr : Nat) (qm : Nat) (qw : Nat) (qt : Nat) (we : Int) (sf : Nat → Int) (qk : Nat) (fi : Int) (ln : Int) (mf : Nat → Int) (mc : Int) (qe : Nat) (ru : Int) (cap : Nat) (ef : Nat → Option Nat) (rf : Nat → Nat) (kf : Nat → Int) (af : Nat → Int) (bf : Nat → Int) (zf : Nat → Int) (fz : Nat) (rr : Int) (sl : Int) (many : Int) (sz : Nat) (hp0 : 0 ≤ sl ∧ sl ≤ 9) (hp1 : 0 ≤ (sf sl.toNat) ∧ (sf sl.toNat) ≤ 3652058) (hp2 : 0 ≤ ru ∧ ru ≤ 12 ∧ ru ≤ (cap : Int) ∧ (cap : Int) ≤ 1000) (hp3 : ∀ j : Nat, (j : Int) < ru → (0 ≤ (kf j) ∧ (kf j) ≤ 3) ∧ ((kf j) = 1 ∧ -100 ≤ (af j) ∧ (af j) ≤ 100 ∨ (kf j) ≠ 1 ∧ 1 ≤ (af j) ∧ (af j) ≤ 12) ∧ ((kf j) = 1 ∨ (kf j) = 2 ∧ 1 ≤ (bf j) ∧ (bf j) ≤ 7 ∨ (kf j) ≠ 2 ∧ 1 ≤ (bf j) ∧ (bf j) ≤ 31) ∧ ((kf j) ≠ 2 ∨ (zf j) = -1 ∨ 1 ≤ (zf j) ∧ (zf j) ≤ 4)) (hp4 : ∀ j : Nat, (j : Int) < ru → ef j = some (rf j)) (hp5 : 0 ≤ we ∧ we ≤ 127) (hp6 : 0 ≤ fi ∧ fi ≤ 4000000 ∧ 0 ≤ ln ∧ ln ≤ 366) (hp7 : -1000 ≤ many ∧ many ≤ 1000 ∧ many < 0) (hp8 : 4000000 ≤ fz) (hp9 : zmv (wkX4 we kf af bf zf ru) (-1) fz (sf sl.toNat) (-many) = rr) (hp10 : rr = -1) : vx_Met l yX4_moveWork wsX4_moveWork ({ frames := 6, cells := 1, slots := 6, locals := 135 }) (zPwF (dC, dI) [(cI, .int), (cO, .object "java/lang/Object")] sz [.ref h0, .int (zi sl), .int (zi many)] [(h0, .inr (4, [.ref qs, .ref qr, .ref qm, .ref qw, .ref qt, .int (zi we)])), (qs, aI cI 10 sf), (qm, .inr (2, [.ref qk, .int (zi fi), .int (zi ln)])), (qk, aI cI 366 mf), (qr, .inr (0, [.int (zi mc), .ref qe, .int (zi ru)])), (qe, aR cO cap ef)] (zRE (dC, dI) ru rf kf af bf zf)) zNo (vx_X (fun (u : (Int) × (Int) × (Nat → Int)) => 0 ≤ u.1 ∧ u.1 ≤ 4000000 ∧ 0 ≤ u.2.1 ∧ u.2.1 ≤ 366) (fun E9 (u : (Int) × (Int) × (Nat → Int)) t9 => E9 = "java/lang/UnsupportedOperationException" ∧ zB (dC, dI) [(cI, .int), (cO, .object "java/lang/Object")] (va_A [(h0, .inr (4, [.ref qs, .ref qr, .ref qm, .ref qw, .ref qt, .int (zi we)])), (qs, aI cI 10 sf), (qm, .inr (2, [.ref qk, .int (zi fi), .int (zi ln)])), (qk, aI cI 366 mf), (qr, .inr (0, [.int (zi mc), .ref qe, .int (zi ru)])), (qe, aR cO cap ef)] sz) [(h0, .inr (4, [.ref qs, .ref qr, .ref qm, .ref qw, .ref qt, .int (zi we)])), (qs, aI cI 10 sf), (qm, .inr (2, [.ref qk, .int (zi u.1), .int (zi u.2.1)])), (qk, aI cI 366 u.2.2), (qr, .inr (0, [.int (zi mc), .ref qe, .int (zi ru)])), (qe, aR cO cap ef)] () t9) (va_A [(h0, .inr (4, [.ref qs, .ref qr, .ref qm, .ref qw, .ref qt, .int (zi we)])), (qs, aI cI 10 sf), (qm, .inr (2, [.ref qk, .int (zi fi), .int (zi ln)])), (qk, aI cI 366 mf), (qr, .inr (0, [.int (zi mc), .ref qe, .int (zi ru)])), (qe, aR cO cap ef)] sz)) 1 6 (va_A [(h0, .inr (4, [.ref qs, .ref qr, .ref qm, .ref qw, .ref qt, .int (zi we)])), (qs, aI cI 10 sf), (qm, .inr (2, [.ref qk, .int (zi fi), .int (zi ln)])), (qk, aI cI 366 mf), (qr, .inr (0, [.int (zi mc), .ref qe, .int (zi ru)])), (qe, aR cO cap ef)] sz) := by
  refine vx_ofW (cc := cX4_moveWork) (maxL := 6) (ret := (some .int)) (by decide) rfl ?_
  intro p e s m args below meth c s₁ B hml hno hv
  obtain ⟨rfl, hsz, hP, hK, hD0, hG, hE⟩ := hv
  have hx := B.exec
  have hb := B.bytes
  have hr := B.returns
  have hts := atoms_spec (ws := wsX4_moveWork) B.pre
  have hown : s.vm.findClass RX4 = some m.cls := findClass_of_methodNamed B.named
  have hlocks := B.notSynchronized
  subst hsz
  have hD := hD0.self (sz := s.heap.size)
  generalize hAe : va_A [(h0, .inr (4, [.ref qs, .ref qr, .ref qm, .ref qw, .ref qt, .int (zi we)])), (qs, aI cI 10 sf), (qm, .inr (2, [.ref qk, .int (zi fi), .int (zi ln)])), (qk, aI cI 366 mf), (qr, .inr (0, [.int (zi mc), .ref qe, .int (zi ru)])), (qe, aR cO cap ef)] s.heap.size = A at hD hG hE ⊢
  have hA : ∀ q : Nat, s.heap.size ≤ q → A q := fun q h => by rw [← hAe]; exact Or.inr h
  have hS : va_S A s.heap s.heap [] := va_S.rf
  have hP : va_P (dC, dI) vwCl [(h0, .inr (4, [.ref qs, .ref qr, .ref qm, .ref qw, .ref qt, .int (zi we)])), (qs, aI cI 10 sf), (qm, .inr (2, [.ref qk, .int (zi fi), .int (zi ln)])), (qk, aI cI 366 mf), (qr, .inr (0, [.int (zi mc), .ref qe, .int (zi ru)])), (qe, aR cO cap ef)] s.heap := hP
  have loop58 : ∀ (fu : Nat) (nn : Int) (lft : Int) (fj : Int) (lj : Int) (mg : Nat → Int), (zmv (wkX4 we kf af bf zf ru) (-1) fu nn lft = rr) → (0 ≤ nn ∧ nn ≤ 3652058 ∧ 0 ≤ lft ∧ lft ≤ 1000) → (mkOk kf af bf zf ru fj lj mg) → (nn + 2 < fu) → ∀ (ls : Array Slot) (H : Heap) (locs : List Loc), lv_has ls 6 [(3, .int (zi nn)), (5, .int (zi lft)), (0, .ref h0), (1, .int (zi sl)), (2, .int (zi many)), (4, .int (zi (-1)))] → va_P (dC, dI) vwCl [(h0, .inr (4, [.ref qs, .ref qr, .ref qm, .ref qw, .ref qt, .int (zi we)])), (qs, aI cI 10 sf), (qm, .inr (2, [.ref qk, .int (zi fj), .int (zi lj)])), (qk, aI cI 366 mg), (qr, .inr (0, [.int (zi mc), .ref qe, .int (zi ru)])), (qe, aR cO cap ef)] H → va_D A [(h0, .inr (4, [.ref qs, .ref qr, .ref qm, .ref qw, .ref qt, .int (zi we)])), (qs, aI cI 10 sf), (qm, .inr (2, [.ref qk, .int (zi fj), .int (zi lj)])), (qk, aI cI 366 mg), (qr, .inr (0, [.int (zi mc), .ref qe, .int (zi ru)])), (qe, aR cO cap ef)] → va_S A s.heap H locs → W p l e (headSpec wsX4_moveWork ({ frames := 6, cells := 1, slots := 6, locals := 135 })).room s m ([.ref h0, .int (zi sl), .int (zi many)] : List Value).toArray below meth c H locs 0 0 (vx_MQ below zNo (vx_X (fun (u : (Int) × (Int) × (Nat → Int)) => 0 ≤ u.1 ∧ u.1 ≤ 4000000 ∧ 0 ≤ u.2.1 ∧ u.2.1 ≤ 366) (fun E9 (u : (Int) × (Int) × (Nat → Int)) t9 => E9 = "java/lang/UnsupportedOperationException" ∧ zB (dC, dI) [(cI, .int), (cO, .object "java/lang/Object")] A [(h0, .inr (4, [.ref qs, .ref qr, .ref qm, .ref qw, .ref qt, .int (zi we)])), (qs, aI cI 10 sf), (qm, .inr (2, [.ref qk, .int (zi u.1), .int (zi u.2.1)])), (qk, aI cI 366 u.2.2), (qr, .inr (0, [.int (zi mc), .ref qe, .int (zi ru)])), (qe, aR cO cap ef)] () t9) A) ([.ref h0, .int (zi sl), .int (zi many)] : List Value).toArray s 1 6 A) (F0 m 58 ls []) := by
    intro fu
    induction fu with
    | zero =>
      intro nn lft fj lj mg hi0 hi1 hi2 hfu ls H locs hl hP hD hS
      exact absurd hfu (by omega)
    | succ fu ih =>
      intro nn lft fj lj mg hi0 hi1 hi2 hfu ls H locs hl hP hD hS
      have hP : va_P (dC, dI) vwCl [(h0, .inr (4, [.ref qs, .ref qr, .ref qm, .ref qw, .ref qt, .int (zi we)])), (qs, aI cI 10 sf), (qm, .inr (2, [.ref qk, .int (zi fj), .int (zi lj)])), (qk, aI cI 366 mg), (qr, .inr (0, [.int (zi mc), .ref qe, .int (zi ru)])), (qe, aR cO cap ef)] H := hP
      have hD : va_D A [(h0, .inr (4, [.ref qs, .ref qr, .ref qm, .ref qw, .ref qt, .int (zi we)])), (qs, aI cI 10 sf), (qm, .inr (2, [.ref qk, .int (zi fj), .int (zi lj)])), (qk, aI cI 366 mg), (qr, .inr (0, [.int (zi mc), .ref qe, .int (zi ru)])), (qe, aR cO cap ef)] := hD
      have hRK := hp3
      have hEF := hp4
      first | have hmb := mkOk_b hi2 | skip
      refine lv_iload hx hb dX4_moveWork_58 (lv_at hl 1 rfl) ?_
      refine zw_if_le (tgt := 93) hx hb dX4_moveWork_60 (by decide) ⟨by omega, by omega⟩ (fun h1 => ?_) (fun h1 => ?_)
      · skip
        first | have hz := zmv_0 (wkX4 we kf af bf zf ru) (-1) fu nn lft (by omega) | have hz := zmv_x (wkX4 we kf af bf zf ru) (-1) fu nn lft (by omega) (by omega)
        refine lv_iload hx hb dX4_moveWork_93 (lv_at hl 1 rfl) ?_
        refine zw_if_le (tgt := 108) hx hb dX4_moveWork_95 (by decide) ⟨by omega, by omega⟩ (fun h2 => ?_) (fun h2 => ?_)
        · skip
          exact absurd True.intro (by omega)
        · skip
          have hP9 := hP.sub (ws' := [(h0, .inr (4, [.ref qs, .ref qr, .ref qm, .ref qw, .ref qt, .int (zi we)])), (qs, aI cI 10 sf), (qm, .inr (2, [.ref qk, .int (zi fj), .int (zi lj)])), (qk, aI cI 366 mg), (qr, .inr (0, [.int (zi mc), .ref qe, .int (zi ru)])), (qe, aR cO cap ef)]) [0, 1, 2, 3, 4, 5] rfl
          have hD9 := hD.sub (ws' := [(h0, .inr (4, [.ref qs, .ref qr, .ref qm, .ref qw, .ref qt, .int (zi we)])), (qs, aI cI 10 sf), (qm, .inr (2, [.ref qk, .int (zi fj), .int (zi lj)])), (qk, aI cI 366 mg), (qr, .inr (0, [.int (zi mc), .ref qe, .int (zi ru)])), (qe, aR cO cap ef)]) [0, 1, 2, 3, 4, 5] (by decide) rfl
          have hp9 : 0 ≤ fj ∧ fj ≤ 4000000 ∧ 0 ≤ lj ∧ lj ≤ 366 := by
            exact mkOk_b hi2
          exact zt_throwW (cls := "java/lang/UnsupportedOperationException") (text := "the date is beyond the years") (ik := 81) (is := 83) (ic := 85) hx hb hst hown hE (by decide +kernel) (hts (.classLink RX4 81 "java/lang/UnsupportedOperationException") (by decide +kernel)) (hts (.initialized "java/lang/UnsupportedOperationException") (by decide +kernel)) (by decide) (fun w h => hts w (List.mem_cons_of_mem _ (List.mem_append_left _ (List.mem_append_left _ (List.mem_append_right _ h))))) (by decide +kernel) (by decide +kernel) (hl.1.trans hml.symm) dX4_moveWork_98 dX4_moveWork_101 dX4_moveWork_102 dX4_moveWork_104 dX4_moveWork_107 hno (Nat.le_of_ble_eq_true rfl) (Nat.le_of_ble_eq_true rfl) (Nat.le_of_ble_eq_true rfl) (Nat.le_of_ble_eq_true rfl) hlocks hS (fj, lj, mg) hp9 (fun t ha hz hk => ⟨zk_world hP9 hk, va_K.moved ha hK, hD9⟩)
      · skip
        refine lv_iload_n hx hb dX4_moveWork_63 rfl (lv_at hl 0 rfl) ?_
        refine lv_iload hx hb dX4_moveWork_64 (lv_at hl 5 rfl) ?_
        refine zw_iadd hx hb dX4_moveWork_66 ?_
        refine zw_i2l hx hb dX4_moveWork_67 ⟨by omega, by omega⟩ ?_
        have hh3 := c_X0_isNumber l (nn + (-1)) (by omega)
        refine vp_callSi (va_Run.run (va_runS (As := [.long (zl (nn + (-1)))]) (rest := []) ⟨hx, hb, hml, hown, hts⟩ hh3 (va_cwS 1 hts gX4_moveWork_X0_isNumber rfl rfl rfl (by decide +kernel) ⟨Nat.le_of_ble_eq_true rfl, Nat.le_of_ble_eq_true rfl⟩) ⟨fun a U g mk q => q, fun U hU hW => ⟨rfl, trivial⟩⟩ rfl rfl hl.1 rfl (lv_room (Nat.le_of_ble_eq_true rfl)) dX4_moveWork_68 ⟨Nat.zero_le _, Nat.zero_le _⟩)) (fun r3 (hr3 : r3 = zi (f_X0_isNumber (nn + (-1)))) => ?_)
        subst hr3
        have hf3 := b_X0_isNumber (nn + (-1)) (by omega)
        refine zw_if_eq (tgt := 93) hx hb dX4_moveWork_71 (by decide) ⟨by omega, by omega⟩ (fun h4 => ?_) (fun h4 => ?_)
        · skip
          first | have hz := zmv_0 (wkX4 we kf af bf zf ru) (-1) fu nn lft (by omega) | have hz := zmv_x (wkX4 we kf af bf zf ru) (-1) fu nn lft (by omega) (by omega)
          refine lv_iload hx hb dX4_moveWork_93 (lv_at hl 1 rfl) ?_
          refine zw_if_le (tgt := 108) hx hb dX4_moveWork_95 (by decide) ⟨by omega, by omega⟩ (fun h5 => ?_) (fun h5 => ?_)
          · skip
            exact absurd True.intro (by omega)
          · skip
            have hP9 := hP.sub (ws' := [(h0, .inr (4, [.ref qs, .ref qr, .ref qm, .ref qw, .ref qt, .int (zi we)])), (qs, aI cI 10 sf), (qm, .inr (2, [.ref qk, .int (zi fj), .int (zi lj)])), (qk, aI cI 366 mg), (qr, .inr (0, [.int (zi mc), .ref qe, .int (zi ru)])), (qe, aR cO cap ef)]) [0, 1, 2, 3, 4, 5] rfl
            have hD9 := hD.sub (ws' := [(h0, .inr (4, [.ref qs, .ref qr, .ref qm, .ref qw, .ref qt, .int (zi we)])), (qs, aI cI 10 sf), (qm, .inr (2, [.ref qk, .int (zi fj), .int (zi lj)])), (qk, aI cI 366 mg), (qr, .inr (0, [.int (zi mc), .ref qe, .int (zi ru)])), (qe, aR cO cap ef)]) [0, 1, 2, 3, 4, 5] (by decide) rfl
            have hp9 : 0 ≤ fj ∧ fj ≤ 4000000 ∧ 0 ≤ lj ∧ lj ≤ 366 := by
              exact mkOk_b hi2
            exact zt_throwW (cls := "java/lang/UnsupportedOperationException") (text := "the date is beyond the years") (ik := 81) (is := 83) (ic := 85) hx hb hst hown hE (by decide +kernel) (hts (.classLink RX4 81 "java/lang/UnsupportedOperationException") (by decide +kernel)) (hts (.initialized "java/lang/UnsupportedOperationException") (by decide +kernel)) (by decide) (fun w h => hts w (List.mem_cons_of_mem _ (List.mem_append_left _ (List.mem_append_left _ (List.mem_append_right _ h))))) (by decide +kernel) (by decide +kernel) (hl.1.trans hml.symm) dX4_moveWork_98 dX4_moveWork_101 dX4_moveWork_102 dX4_moveWork_104 dX4_moveWork_107 hno (Nat.le_of_ble_eq_true rfl) (Nat.le_of_ble_eq_true rfl) (Nat.le_of_ble_eq_true rfl) (Nat.le_of_ble_eq_true rfl) hlocks hS (fj, lj, mg) hp9 (fun t ha hz hk => ⟨zk_world hP9 hk, va_K.moved ha hK, hD9⟩)
        · skip
          refine lv_iload_n hx hb dX4_moveWork_74 rfl (lv_at hl 0 rfl) ?_
          refine lv_iload hx hb dX4_moveWork_75 (lv_at hl 5 rfl) ?_
          refine zw_iadd hx hb dX4_moveWork_77 ?_
          refine zw_top (fun x6 ex6 => ?_)
          refine lv_istore_n (lv' := [(3, .int (zi x6)), (5, .int (zi lft)), (0, .ref h0), (1, .int (zi sl)), (2, .int (zi many)), (4, .int (zi (-1)))]) hx hb dX4_moveWork_78 rfl hl (by decide) rfl (fun ls hl => ?_)
          refine lv_aload_n hx hb dX4_moveWork_79 rfl (lv_at hl 2 rfl) ?_
          refine lv_iload_n hx hb dX4_moveWork_80 rfl (lv_at hl 0 rfl) ?_
          have hh7 := c_X4_isWorking l dC dI cI cO h0 qs qr qm qw qt we qk fj lj mg mc qe ru cap ef rf kf af bf zf x6 H.size (by omega) (by omega) (by first | exact hRK) (by first | exact hEF) (by omega) (by assumption)
          have hPc := hP.sub (ws' := [(h0, .inr (4, [.ref qs, .ref qr, .ref qm, .ref qw, .ref qt, .int (zi we)])), (qm, .inr (2, [.ref qk, .int (zi fj), .int (zi lj)])), (qk, aI cI 366 mg), (qr, .inr (0, [.int (zi mc), .ref qe, .int (zi ru)])), (qe, aR cO cap ef)]) [0, 2, 3, 4, 5] rfl
          have hKc : va_K (dC, dI) vwCl [(cI, .int), (cO, .object "java/lang/Object")] s := hK
          have hDc := hD.sub (ws' := [(h0, .inr (4, [.ref qs, .ref qr, .ref qm, .ref qw, .ref qt, .int (zi we)])), (qm, .inr (2, [.ref qk, .int (zi fj), .int (zi lj)])), (qk, aI cI 366 mg), (qr, .inr (0, [.int (zi mc), .ref qe, .int (zi ru)])), (qe, aR cO cap ef)]) [0, 2, 3, 4, 5] (by decide) rfl
          have hFc := va_free (wc := [(h0, .inr (4, [.ref qs, .ref qr, .ref qm, .ref qw, .ref qt, .int (zi we)])), (qm, .inr (2, [.ref qk, .int (zi fj), .int (zi lj)])), (qk, aI cI 366 mg), (qr, .inr (0, [.int (zi mc), .ref qe, .int (zi ru)])), (qe, aR cO cap ef)]) hD hS hA [0, 2, 3, 4, 5] rfl
          refine va_calli (va_runV (As := [.int (zi x6)]) (rest := []) ⟨hx, hb, hml, hown, hts⟩ hh7 (cwV 1 hts gX4_moveWork_X4_isWorking rfl rfl rfl (by decide +kernel) ⟨Nat.le_of_ble_eq_true rfl, Nat.le_of_ble_eq_true rfl⟩) ⟨zPwF.blind _ _ _ _ _ zRu_ok, va_recv hKc hPc (ci := 4) (q0 := 0) rfl rfl, fun U hU hW => ⟨rfl, by rw [hU], by rw [hU]; exact hPc, va_K.moved hW.alike hKc, hDc.weaken (fun _ _ _ _ => trivial), zF.call zRu_ok hG hS hFc hU hW⟩⟩ rfl rfl hl.1 rfl (lv_room (Nat.le_of_ble_eq_true rfl)) dX4_moveWork_81 ⟨Nat.le_of_ble_eq_true rfl, Nat.le_of_ble_eq_true rfl⟩) hS (fun q _ h => hFc q h) hFc (fun r7 u t H1 locs ht hvm hw hB hz1 hk1 hS => ?_)
          obtain ⟨fj_8, lj_8, mg_8⟩ := u
          obtain ⟨hw, hw7⟩ := hw
          replace hw7 : mkOk kf af bf zf ru fj_8 lj_8 mg_8 := hw7
          obtain ⟨hP1, hK1, hD1⟩ := hB
          rw [ht] at hP1
          replace hP1 : va_P (dC, dI) vwCl [(h0, .inr (4, [.ref qs, .ref qr, .ref qm, .ref qw, .ref qt, .int (zi we)])), (qm, .inr (2, [.ref qk, .int (zi fj_8), .int (zi lj_8)])), (qk, aI cI 366 mg_8), (qr, .inr (0, [.int (zi mc), .ref qe, .int (zi ru)])), (qe, aR cO cap ef)] H1 := hP1
          replace hD1 : va_D _ [(h0, .inr (4, [.ref qs, .ref qr, .ref qm, .ref qw, .ref qt, .int (zi we)])), (qm, .inr (2, [.ref qk, .int (zi fj_8), .int (zi lj_8)])), (qk, aI cI 366 mg_8), (qr, .inr (0, [.int (zi mc), .ref qe, .int (zi ru)])), (qe, aR cO cap ef)] := hD1
          obtain ⟨hP, hD⟩ := va_join (wr := [(qs, aI cI 10 sf)]) (w1 := [(h0, .inr (4, [.ref qs, .ref qr, .ref qm, .ref qw, .ref qt, .int (zi we)])), (qm, .inr (2, [.ref qk, .int (zi fj_8), .int (zi lj_8)])), (qk, aI cI 366 mg_8), (qr, .inr (0, [.int (zi mc), .ref qe, .int (zi ru)])), (qe, aR cO cap ef)]) hP hD [0, 2, 3, 4, 5] [1] rfl rfl (by decide) (by decide) hk1 hFc hP1 hD1
          generalize H1 = H at hP hS ⊢
          obtain rfl : r7 = zi (wkX4 we kf af bf zf ru x6) := hw
          have hP : va_P (dC, dI) vwCl [(qs, aI cI 10 sf), (h0, .inr (4, [.ref qs, .ref qr, .ref qm, .ref qw, .ref qt, .int (zi we)])), (qm, .inr (2, [.ref qk, .int (zi fj_8), .int (zi lj_8)])), (qk, aI cI 366 mg_8), (qr, .inr (0, [.int (zi mc), .ref qe, .int (zi ru)])), (qe, aR cO cap ef)] H := hP
          have hD : va_D A [(qs, aI cI 10 sf), (h0, .inr (4, [.ref qs, .ref qr, .ref qm, .ref qw, .ref qt, .int (zi we)])), (qm, .inr (2, [.ref qk, .int (zi fj_8), .int (zi lj_8)])), (qk, aI cI 366 mg_8), (qr, .inr (0, [.int (zi mc), .ref qe, .int (zi ru)])), (qe, aR cO cap ef)] := hD
          have hf7_0 := wkX4_s we kf af bf zf ru x6
          refine zw_if_eq (tgt := 58) hx hb dX4_moveWork_84 (by decide) ⟨by omega, by omega⟩ (fun h9 => ?_) (fun h9 => ?_)
          · skip
            have hRK := hp3
            have hEF := hp4
            first | have hmb := mkOk_b hi2 | skip
            subst ex6
            have hP9 := hP.sub (ws' := [(h0, .inr (4, [.ref qs, .ref qr, .ref qm, .ref qw, .ref qt, .int (zi we)])), (qs, aI cI 10 sf), (qm, .inr (2, [.ref qk, .int (zi fj_8), .int (zi lj_8)])), (qk, aI cI 366 mg_8), (qr, .inr (0, [.int (zi mc), .ref qe, .int (zi ru)])), (qe, aR cO cap ef)]) [1, 0, 2, 3, 4, 5] rfl
            have hD9 := hD.sub (ws' := [(h0, .inr (4, [.ref qs, .ref qr, .ref qm, .ref qw, .ref qt, .int (zi we)])), (qs, aI cI 10 sf), (qm, .inr (2, [.ref qk, .int (zi fj_8), .int (zi lj_8)])), (qk, aI cI 366 mg_8), (qr, .inr (0, [.int (zi mc), .ref qe, .int (zi ru)])), (qe, aR cO cap ef)]) [1, 0, 2, 3, 4, 5] (by decide) rfl
            exact ih (nn + (-1)) lft fj_8 lj_8 mg_8 (by first | (rw [← hi0]; symm; first | (apply zmv_s1 <;> omega) | (apply zmv_s0 <;> omega)) | (rw [show (if 0 ≤ many then many else 0 - many) = (-many) from by omega]; exact hp9)) (by omega) (by first | assumption | exact Or.inl ⟨by omega, by omega, rfl⟩) (by omega) ls _ _ (lv_sub hl [0, 1, 2, 3, 4, 5] rfl) hP9 hD9 hS
          · skip
            obtain ⟨x10, ex10⟩ : ∃ z : Int, z = lft + (-1) := ⟨_, rfl⟩
            refine zw_iinc (lv' := [(5, .int (zi x10)), (3, .int (zi x6)), (0, .ref h0), (1, .int (zi sl)), (2, .int (zi many)), (4, .int (zi (-1)))]) (k := 1) hx hb ex10 dX4_moveWork_87 hl rfl (by decide) rfl (fun ls hl => ?_)
            refine lv_goto (tgt := 58) hx hb dX4_moveWork_90 (by decide) ?_
            have hRK := hp3
            have hEF := hp4
            first | have hmb := mkOk_b hi2 | skip
            subst ex6 ex10
            have hP9 := hP.sub (ws' := [(h0, .inr (4, [.ref qs, .ref qr, .ref qm, .ref qw, .ref qt, .int (zi we)])), (qs, aI cI 10 sf), (qm, .inr (2, [.ref qk, .int (zi fj_8), .int (zi lj_8)])), (qk, aI cI 366 mg_8), (qr, .inr (0, [.int (zi mc), .ref qe, .int (zi ru)])), (qe, aR cO cap ef)]) [1, 0, 2, 3, 4, 5] rfl
            have hD9 := hD.sub (ws' := [(h0, .inr (4, [.ref qs, .ref qr, .ref qm, .ref qw, .ref qt, .int (zi we)])), (qs, aI cI 10 sf), (qm, .inr (2, [.ref qk, .int (zi fj_8), .int (zi lj_8)])), (qk, aI cI 366 mg_8), (qr, .inr (0, [.int (zi mc), .ref qe, .int (zi ru)])), (qe, aR cO cap ef)]) [1, 0, 2, 3, 4, 5] (by decide) rfl
            exact ih (nn + (-1)) (lft + (-1)) fj_8 lj_8 mg_8 (by first | (rw [← hi0]; symm; first | (apply zmv_s1 <;> omega) | (apply zmv_s0 <;> omega)) | (rw [show (if 0 ≤ many then many else 0 - many) = (-many) from by omega]; exact hp9)) (by omega) (by first | assumption | exact Or.inl ⟨by omega, by omega, rfl⟩) (by omega) ls _ _ (lv_sub hl [1, 0, 2, 3, 4, 5] rfl) hP9 hD9 hS
  have hl := lv_entry ([.ref h0, .int (zi sl), .int (zi many)]) (n := 6) (Nat.le_of_ble_eq_true rfl)
  rw [lg_entry_eq]
  generalize (lg_sl ([.ref h0, .int (zi sl), .int (zi many)]) ++ List.replicate (6 - (lg_sl ([.ref h0, .int (zi sl), .int (zi many)])).length) Slot.unset).toArray = ls at hl ⊢
  have hl : lv_has ls 6 [(0, .ref h0), (1, .int (zi sl)), (2, .int (zi many))] := hl
  have hRK := hp3
  have hEF := hp4
  refine lv_iload_n hx hb dX4_moveWork_0 rfl (lv_at hl 1 rfl) ?_
  have hh11 := c_X4_needSlot l sl (by omega)
  refine va_csv (va_Run.run (va_runS (As := [.int (zi sl)]) (rest := []) ⟨hx, hb, hml, hown, hts⟩ hh11 (va_cwS 1 hts gX4_moveWork_X4_needSlot rfl rfl rfl (by decide +kernel) ⟨Nat.le_of_ble_eq_true rfl, Nat.le_of_ble_eq_true rfl⟩) ⟨fun a U g mk q => q, fun U hU hW => ⟨rfl, trivial⟩⟩ rfl rfl hl.1 rfl (lv_room (Nat.le_of_ble_eq_true rfl)) dX4_moveWork_1 ⟨Nat.le_of_ble_eq_true rfl, Nat.le_of_ble_eq_true rfl⟩)) (fun _ => ?_)
  refine lv_aload_n hx hb dX4_moveWork_4 rfl (lv_at hl 0 rfl) ?_
  refine lv_iload_n hx hb dX4_moveWork_5 rfl (lv_at hl 1 rfl) ?_
  have hh12 := c_X4_dateIn l dC dI cI h0 qs qr qm qw qt we sf sl (by omega) (by omega)
  have hPc := hP.sub (ws' := [(h0, .inr (4, [.ref qs, .ref qr, .ref qm, .ref qw, .ref qt, .int (zi we)])), (qs, aI cI 10 sf)]) [0, 1] rfl
  have hKc : va_K (dC, dI) vwCl [(cI, .int)] s := hK.sub (tys' := [(cI, .int)]) [0] rfl
  refine vp_callSi (va_Run.run (va_runV (As := [.int (zi sl)]) (rest := []) ⟨hx, hb, hml, hown, hts⟩ hh12 (cwV 1 hts gX4_moveWork_X4_dateIn rfl rfl rfl (by decide +kernel) ⟨Nat.le_of_ble_eq_true rfl, Nat.le_of_ble_eq_true rfl⟩) ⟨zPr.blind _ _ _ _, va_recv hKc hPc (ci := 4) (q0 := 0) rfl rfl, fun U hU hW => ⟨rfl, by rw [hU]; exact hPc, va_K.moved hW.alike hKc⟩⟩ rfl rfl hl.1 rfl (lv_room (Nat.le_of_ble_eq_true rfl)) dX4_moveWork_6 ⟨Nat.le_of_ble_eq_true rfl, Nat.le_of_ble_eq_true rfl⟩)) (fun r12 (hr12 : r12 = zi (sf sl.toNat)) => ?_)
  subst hr12
  refine zw_top (fun x13 ex13 => ?_)
  refine lv_istore_n (lv' := [(3, .int (zi x13)), (0, .ref h0), (1, .int (zi sl)), (2, .int (zi many))]) hx hb dX4_moveWork_9 rfl hl (by decide) rfl (fun ls hl => ?_)
  refine lv_iload_n hx hb dX4_moveWork_10 rfl (lv_at hl 3 rfl) ?_
  refine zw_sipush hx hb dX4_moveWork_11 (by decide) ?_
  refine zw_icmp_lt (tgt := 24) hx hb dX4_moveWork_14 (by decide) ⟨by omega, by omega⟩ ⟨by omega, by omega⟩ (fun h14 => ?_) (fun h14 => ?_)
  · skip
    exact absurd True.intro (by omega)
  · skip
    refine lv_iload_n hx hb dX4_moveWork_17 rfl (lv_at hl 3 rfl) ?_
    refine zw_sipush hx hb dX4_moveWork_18 (by decide) ?_
    refine zw_icmp_le (tgt := 34) hx hb dX4_moveWork_21 (by decide) ⟨by omega, by omega⟩ ⟨by omega, by omega⟩ (fun h15 => ?_) (fun h15 => ?_)
    · skip
      refine lv_iload_n hx hb dX4_moveWork_34 rfl (lv_at hl 3 rfl) ?_
      refine zw_if_ge (tgt := 42) hx hb dX4_moveWork_35 (by decide) ⟨by omega, by omega⟩ (fun h16 => ?_) (fun h16 => ?_)
      · skip
        exact absurd True.intro (by omega)
      · skip
        refine zw_iconst hx hb dX4_moveWork_38 ?_
        refine lv_goto (tgt := 43) hx hb dX4_moveWork_39 (by decide) ?_
        refine lv_istore (lv' := [(4, .int (zi (-1))), (3, .int (zi x13)), (0, .ref h0), (1, .int (zi sl)), (2, .int (zi many))]) hx hb dX4_moveWork_43 hl (by decide) rfl (fun ls hl => ?_)
        refine lv_iload_n hx hb dX4_moveWork_45 rfl (lv_at hl 4 rfl) ?_
        refine zw_abs hx hb (hml.trans hl.1.symm) hown (hts (.methodLink RX4 164 Lib.Math.abs.name) (by decide +kernel)) (hts (.static Lib.Math.abs.name) (by decide +kernel)) (hts (.initialized "java/lang/Math") (by decide +kernel)) (hts _ (by decide +kernel)) (Nat.le_of_ble_eq_true rfl) (Nat.le_of_ble_eq_true rfl) (Nat.le_of_ble_eq_true rfl) (Nat.le_of_ble_eq_true rfl) dX4_moveWork_46 ⟨by omega, by omega⟩ ?_
        refine zw_top (fun x17 ex17 => ?_)
        refine lv_istore (lv' := [(5, .int (zi x17)), (4, .int (zi (-1))), (3, .int (zi x13)), (0, .ref h0), (1, .int (zi sl)), (2, .int (zi many))]) hx hb dX4_moveWork_49 hl (by decide) rfl (fun ls hl => ?_)
        refine lv_aload_n hx hb dX4_moveWork_51 rfl (lv_at hl 3 rfl) ?_
        refine va_get (D := (dC, dI)) (ci := 4) (v := .ref qm) (C := RX4) (T := TX4) (N := 6) hx hb hts (by decide +kernel) hown hK hP 0 rfl rfl 2 (by decide) (hts (.fieldLink RX4 23 "CivilDays" "marked" "LCivilDays$MarkedYear;") (by decide +kernel)) (fun _ h9 => h9) rfl dX4_moveWork_52 ?_
        have hh18 := c_X2_forget l dC dI cI qm qk fi ln mf s.heap.size 
        have hPc := hP.sub (ws' := [(qm, .inr (2, [.ref qk, .int (zi fi), .int (zi ln)])), (qk, aI cI 366 mf)]) [2, 3] rfl
        have hKc : va_K (dC, dI) vwCl [(cI, .int)] s := hK.sub (tys' := [(cI, .int)]) [0] rfl
        have hDc := hD.sub (ws' := [(qm, .inr (2, [.ref qk, .int (zi fi), .int (zi ln)])), (qk, aI cI 366 mf)]) [2, 3] (by decide) rfl
        have hFc := va_free (wc := [(qm, .inr (2, [.ref qk, .int (zi fi), .int (zi ln)])), (qk, aI cI 366 mf)]) hD hS hA [2, 3] rfl
        refine va_callv (va_runV (As := []) (rest := []) ⟨hx, hb, hml, hown, hts⟩ hh18 (cwV 0 hts gX4_moveWork_X2_forget rfl rfl rfl (by decide +kernel) ⟨Nat.le_of_ble_eq_true rfl, Nat.le_of_ble_eq_true rfl⟩) ⟨zPw.blind _ _ _ _ _, va_recv hKc hPc (ci := 2) (q0 := 0) rfl rfl, fun U hU hW => ⟨rfl, by rw [hU], by rw [hU]; exact hPc, va_K.moved hW.alike hKc, hDc.weaken (fun _ _ _ _ => trivial)⟩⟩ rfl rfl hl.1 rfl (lv_room (Nat.le_of_ble_eq_true rfl)) dX4_moveWork_55 ⟨Nat.le_of_ble_eq_true rfl, Nat.le_of_ble_eq_true rfl⟩) hS (fun q _ h => hFc q h) hFc (fun u t H1 locs ht hvm hw hB hz1 hk1 hS => ?_)
        obtain ⟨hP1, hK1, hD1⟩ := hB
        rw [ht] at hP1
        obtain ⟨hP, hD⟩ := va_join (wr := [(h0, .inr (4, [.ref qs, .ref qr, .ref qm, .ref qw, .ref qt, .int (zi we)])), (qs, aI cI 10 sf), (qr, .inr (0, [.int (zi mc), .ref qe, .int (zi ru)])), (qe, aR cO cap ef)]) (w1 := [(qm, .inr (2, [.ref qk, .int (zi fi), .int (zi 0)])), (qk, aI cI 366 mf)]) hP hD [2, 3] [0, 1, 4, 5] rfl rfl (by decide) (by decide) hk1 hFc hP1 hD1
        generalize H1 = H at hP hS ⊢
        have hP : va_P (dC, dI) vwCl [(h0, .inr (4, [.ref qs, .ref qr, .ref qm, .ref qw, .ref qt, .int (zi we)])), (qs, aI cI 10 sf), (qr, .inr (0, [.int (zi mc), .ref qe, .int (zi ru)])), (qe, aR cO cap ef), (qm, .inr (2, [.ref qk, .int (zi fi), .int (zi 0)])), (qk, aI cI 366 mf)] H := hP
        have hD : va_D A [(h0, .inr (4, [.ref qs, .ref qr, .ref qm, .ref qw, .ref qt, .int (zi we)])), (qs, aI cI 10 sf), (qr, .inr (0, [.int (zi mc), .ref qe, .int (zi ru)])), (qe, aR cO cap ef), (qm, .inr (2, [.ref qk, .int (zi fi), .int (zi 0)])), (qk, aI cI 366 mf)] := hD
        have hRK := hp3
        have hEF := hp4
        first | have hmb := mkOk_b hi2 | skip
        subst ex13 ex17
        have hP9 := hP.sub (ws' := [(h0, .inr (4, [.ref qs, .ref qr, .ref qm, .ref qw, .ref qt, .int (zi we)])), (qs, aI cI 10 sf), (qm, .inr (2, [.ref qk, .int (zi fi), .int (zi 0)])), (qk, aI cI 366 mf), (qr, .inr (0, [.int (zi mc), .ref qe, .int (zi ru)])), (qe, aR cO cap ef)]) [0, 1, 4, 5, 2, 3] rfl
        have hD9 := hD.sub (ws' := [(h0, .inr (4, [.ref qs, .ref qr, .ref qm, .ref qw, .ref qt, .int (zi we)])), (qs, aI cI 10 sf), (qm, .inr (2, [.ref qk, .int (zi fi), .int (zi 0)])), (qk, aI cI 366 mf), (qr, .inr (0, [.int (zi mc), .ref qe, .int (zi ru)])), (qe, aR cO cap ef)]) [0, 1, 4, 5, 2, 3] (by decide) rfl
        exact loop58 (fz) (sf sl.toNat) (if 0 ≤ many then many else 0 - many) fi 0 mf (by first | (rw [← hi0]; symm; first | (apply zmv_s1 <;> omega) | (apply zmv_s0 <;> omega)) | (rw [show (if 0 ≤ many then many else 0 - many) = (-many) from by omega]; exact hp9)) (by omega) (by first | assumption | exact Or.inl ⟨by omega, by omega, rfl⟩) (by omega) ls _ _ (lv_sub hl [2, 0, 3, 4, 5, 1] rfl) hP9 hD9 hS
    · skip
      exact absurd True.intro (by omega)
