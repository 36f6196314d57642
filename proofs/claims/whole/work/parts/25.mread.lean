/-! THE REFERENCE'S READING -/
/-- how many from 0 on have P = 1, at most n -/
def zpf (P : Nat → Int) : Nat → Nat → Int
  | 0, k => (k : Int)
  | n + 1, k => if P k = 1 then zpf P n (k + 1) else (k : Int)
theorem zpf_step (P : Nat → Int) (ru k : Int) (h : 0 ≤ k ∧ k < ru) : zpf P (ru - k).toNat k.toNat = if P k.toNat = 1 then zpf P (ru - (k + 1)).toNat (k + 1).toNat else k := by
  have e1 : (ru - k).toNat = (ru - (k + 1)).toNat + 1 := by omega
  have e2 : (k + 1).toNat = k.toNat + 1 := by omega
  have e3 : ((k.toNat : Nat) : Int) = k := by omega
  rw [e1, e2, zpf, e3]
theorem zpf_end (P : Nat → Int) (ru k : Int) (h : 0 ≤ k ∧ ru ≤ k) : zpf P (ru - k).toNat k.toNat = k := by
  have e1 : (ru - k).toNat = 0 := by omega
  rw [e1, zpf]
  omega
theorem zpf_b (P : Nat → Int) : ∀ (n k : Nat), (k : Int) ≤ zpf P n k ∧ zpf P n k ≤ (n : Int) + k := by
  intro n
  induction n with
  | zero =>
    intro k
    rw [zpf]
    omega
  | succ n ih =>
    intro k
    rw [zpf]
    have h := ih (k + 1)
    split <;> omega
def pX5fit (tx : Int) (tf : Nat → Int) (k : Nat) : Int := f_X5_fits tx (k : Int) (tf k)
theorem pX5fit_e (tx : Int) (tf : Nat → Int) (k : Int) (h : 0 ≤ k) : pX5fit tx tf k.toNat = f_X5_fits tx k (tf k.toNat) := by
  unfold pX5fit
  have e3 : ((k.toNat : Nat) : Int) = k := by omega
  rw [e3]
def bX5 (tf : Nat → Int) (ty : Int) (t : Nat) : Int := zpf (pX5fit (t : Int) tf) ty.toNat 0
theorem bX5_e (tf : Nat → Int) (ty t : Int) (h : 0 ≤ t) : bX5 tf ty t.toNat = zpf (pX5fit t tf) ty.toNat 0 := by
  unfold bX5
  have e3 : ((t.toNat : Nat) : Int) = t := by omega
  rw [e3]
def lX5 (t : Nat) : Int := f_X5_textLength (t : Int)
theorem lX5_e (t : Int) (h : 0 ≤ t) : lX5 t.toNat = f_X5_textLength t := by
  unfold lX5
  have e3 : ((t.toNat : Nat) : Int) = t := by omega
  rw [e3]
/-- the furthest of the first n, and the last that ends there -/
def zfa (b : Nat → Int) : Nat → Int
  | 0 => 0
  | n + 1 => if zfa b n < b n then b n else zfa b n
theorem zfa_s (b : Nat → Int) (t : Int) (h : 0 ≤ t) : zfa b (t + 1).toNat = if zfa b t.toNat < b t.toNat then b t.toNat else zfa b t.toNat := by
  have e2 : (t + 1).toNat = t.toNat + 1 := by omega
  rw [e2, zfa]
def ztx (b ln : Nat → Int) (ty : Int) : Nat → Int
  | 0 => -1
  | n + 1 => if b n = ty ∧ b n = ln n then (n : Int) else ztx b ln ty n
theorem ztx_s (b ln : Nat → Int) (ty t : Int) (h : 0 ≤ t) : ztx b ln ty (t + 1).toNat = if b t.toNat = ty ∧ b t.toNat = ln t.toNat then t else ztx b ln ty t.toNat := by
  have e2 : (t + 1).toNat = t.toNat + 1 := by omega
  have e3 : ((t.toNat : Nat) : Int) = t := by omega
  rw [e2, ztx, e3]
def f_X5_dateOf (tf : Nat → Int) (tx : Int) : Int :=
  if tx = 0 then (if (f_X5_isDate (((10 * (((10 * (((10 * ((0 + (tf (Int.toNat 0))) - 48)) + (tf (Int.toNat 1))) - 48)) + (tf (Int.toNat 2))) - 48)) + (tf (Int.toNat 3))) - 48) (((10 * ((0 + (tf (Int.toNat 5))) - 48)) + (tf (Int.toNat 6))) - 48) (((10 * ((0 + (tf (Int.toNat 8))) - 48)) + (tf (Int.toNat 9))) - 48)) = 0 then (-1)
    else (f_X5_numberOf (((10 * (((10 * (((10 * ((0 + (tf (Int.toNat 0))) - 48)) + (tf (Int.toNat 1))) - 48)) + (tf (Int.toNat 2))) - 48)) + (tf (Int.toNat 3))) - 48) (((10 * ((0 + (tf (Int.toNat 5))) - 48)) + (tf (Int.toNat 6))) - 48) (((10 * ((0 + (tf (Int.toNat 8))) - 48)) + (tf (Int.toNat 9))) - 48)))
  else if tx = 1 then (f_X5_byWeek (((10 * (((10 * (((10 * ((0 + (tf (Int.toNat 0))) - 48)) + (tf (Int.toNat 1))) - 48)) + (tf (Int.toNat 2))) - 48)) + (tf (Int.toNat 3))) - 48) (((10 * ((0 + (tf (Int.toNat 6))) - 48)) + (tf (Int.toNat 7))) - 48) ((0 + (tf (Int.toNat 9))) - 48))
  else if (f_X5_in (((10 * (((10 * (((10 * ((0 + (tf (Int.toNat 0))) - 48)) + (tf (Int.toNat 1))) - 48)) + (tf (Int.toNat 2))) - 48)) + (tf (Int.toNat 3))) - 48) 1 9999) = 0 then (-1)
  else if (f_X5_in (((10 * (((10 * ((0 + (tf (Int.toNat 5))) - 48)) + (tf (Int.toNat 6))) - 48)) + (tf (Int.toNat 7))) - 48) 1 (f_X5_yearLength (((10 * (((10 * (((10 * ((0 + (tf (Int.toNat 0))) - 48)) + (tf (Int.toNat 1))) - 48)) + (tf (Int.toNat 2))) - 48)) + (tf (Int.toNat 3))) - 48))) = 0 then (-1)
  else (((f_X5_beginOf (((10 * (((10 * (((10 * ((0 + (tf (Int.toNat 0))) - 48)) + (tf (Int.toNat 1))) - 48)) + (tf (Int.toNat 2))) - 48)) + (tf (Int.toNat 3))) - 48)) + (((10 * (((10 * ((0 + (tf (Int.toNat 5))) - 48)) + (tf (Int.toNat 6))) - 48)) + (tf (Int.toNat 7))) - 48)) - 1)
theorem b_X5_dateOf (tf : Nat → Int) (tx : Int) (h : 0 ≤ tx ∧ tx ≤ 2) (ht : ∀ j : Nat, 0 ≤ tf j ∧ tf j ≤ 126) : -1 ≤ f_X5_dateOf tf tx ∧ f_X5_dateOf tf tx ≤ 4000000 := by
  have ht0 := ht (Int.toNat 0)
  have ht1 := ht (Int.toNat 1)
  have ht2 := ht (Int.toNat 2)
  have ht3 := ht (Int.toNat 3)
  have ht5 := ht (Int.toNat 5)
  have ht6 := ht (Int.toNat 6)
  have ht7 := ht (Int.toNat 7)
  have ht8 := ht (Int.toNat 8)
  have ht9 := ht (Int.toNat 9)
  have hy : -200000 ≤ (((10 * (((10 * (((10 * ((0 + (tf (Int.toNat 0))) - 48)) + (tf (Int.toNat 1))) - 48)) + (tf (Int.toNat 2))) - 48)) + (tf (Int.toNat 3))) - 48) ∧ (((10 * (((10 * (((10 * ((0 + (tf (Int.toNat 0))) - 48)) + (tf (Int.toNat 1))) - 48)) + (tf (Int.toNat 2))) - 48)) + (tf (Int.toNat 3))) - 48) ≤ 200000 := by omega
  have hmo : -200000 ≤ (((10 * ((0 + (tf (Int.toNat 5))) - 48)) + (tf (Int.toNat 6))) - 48) ∧ (((10 * ((0 + (tf (Int.toNat 5))) - 48)) + (tf (Int.toNat 6))) - 48) ≤ 200000 := by omega
  have hda : -200000 ≤ (((10 * ((0 + (tf (Int.toNat 8))) - 48)) + (tf (Int.toNat 9))) - 48) ∧ (((10 * ((0 + (tf (Int.toNat 8))) - 48)) + (tf (Int.toNat 9))) - 48) ≤ 200000 := by omega
  have hwk : -200000 ≤ (((10 * ((0 + (tf (Int.toNat 6))) - 48)) + (tf (Int.toNat 7))) - 48) ∧ (((10 * ((0 + (tf (Int.toNat 6))) - 48)) + (tf (Int.toNat 7))) - 48) ≤ 200000 := by omega
  have hwd : -200000 ≤ ((0 + (tf (Int.toNat 9))) - 48) ∧ ((0 + (tf (Int.toNat 9))) - 48) ≤ 200000 := by omega
  have hyd : -200000 ≤ (((10 * (((10 * ((0 + (tf (Int.toNat 5))) - 48)) + (tf (Int.toNat 6))) - 48)) + (tf (Int.toNat 7))) - 48) ∧ (((10 * (((10 * ((0 + (tf (Int.toNat 5))) - 48)) + (tf (Int.toNat 6))) - 48)) + (tf (Int.toNat 7))) - 48) ≤ 200000 := by omega
  unfold f_X5_dateOf
  generalize (((10 * (((10 * (((10 * ((0 + (tf (Int.toNat 0))) - 48)) + (tf (Int.toNat 1))) - 48)) + (tf (Int.toNat 2))) - 48)) + (tf (Int.toNat 3))) - 48) = y at hy ⊢
  generalize (((10 * (((10 * ((0 + (tf (Int.toNat 5))) - 48)) + (tf (Int.toNat 6))) - 48)) + (tf (Int.toNat 7))) - 48) = yd at hyd ⊢
  generalize (((10 * ((0 + (tf (Int.toNat 5))) - 48)) + (tf (Int.toNat 6))) - 48) = mo at hmo ⊢
  generalize (((10 * ((0 + (tf (Int.toNat 8))) - 48)) + (tf (Int.toNat 9))) - 48) = da at hda ⊢
  generalize (((10 * ((0 + (tf (Int.toNat 6))) - 48)) + (tf (Int.toNat 7))) - 48) = wk at hwk ⊢
  generalize ((0 + (tf (Int.toNat 9))) - 48) = wd at hwd ⊢
  clear ht0 ht1 ht2 ht3 ht5 ht6 ht7 ht8 ht9
  have q1 := b_X5_isDate y mo da (by omega) (by omega) (by omega)
  have q2 := b_X5_byWeek y wk wd (by omega) (by omega) (by omega)
  have q3 := b_X5_in y 1 9999 (by omega) (by omega) (by omega)
  by_cases hv : 1 ≤ y ∧ y ≤ 9999 ∧ 1 ≤ mo ∧ mo ≤ 12 ∧ 1 ≤ da ∧ da ≤ 31
  · have q4 := b_X5_numberOf y mo da (by omega) (by omega) (by omega)
    have q5 := b_X5_beginOf y (by omega)
    have q6 := b_X5_yearLength y (by omega)
    have q7 := b_X5_in yd 1 (f_X5_yearLength y) (by omega) (by omega) (by omega)
    (repeat' split) <;> omega
  · by_cases hz : 1 ≤ y ∧ y ≤ 9999
    · have q5 := b_X5_beginOf y (by omega)
      have q6 := b_X5_yearLength y (by omega)
      have q7 := b_X5_in yd 1 (f_X5_yearLength y) (by omega) (by omega) (by omega)
      (repeat' split) <;> omega
    · (repeat' split) <;> omega
set_option maxHeartbeats 4000000 in
set_option maxRecDepth 100000 in
theorem c_X5_begins (l : Launch)  (dC : Nat → ClassId) (dI : Nat → Nat → Nat) (cI : ClassId) (g0 : Nat) (ps : Nat) (pk : Nat) (pa : Nat) (pb : Nat) (pq : Nat) (pw : Nat) (pt : Nat) (co : Int) (ru : Int) (we : Int) (wr : Int) (ty : Int) (tf : Nat → Int) (tx : Int) (hp0 : 0 ≤ tx ∧ tx ≤ 2) (hp1 : 0 ≤ ty ∧ ty ≤ 20) (hp2 : ∀ j : Nat, 0 ≤ tf j ∧ tf j ≤ 126) : Met l yX5_begins wsX5_begins ({ frames := 2, cells := 0, slots := 0, locals := 44 }) (zPr (dC, dI) [(cI, .int)] [.ref g0, .int (zi tx)] [(g0, .inr (5, [.int (zi co), .ref ps, .int (zi ru), .ref pk, .ref pa, .ref pb, .ref pq, .int (zi we), .int (zi wr), .ref pw, .int (zi ty), .ref pt])), (pt, aI cI 20 tf)]) (vp_Si (fun r => r = zi (zpf (pX5fit tx tf) ty.toNat 0))) 0 0 zN := by
  refine Met.ofW (cc := cX5_begins) (maxL := 3) (ret := (some .int)) (by decide) rfl ?_
  intro p e s m args below meth c s₁ B hml hv
  obtain ⟨rfl, hP, hK⟩ := hv
  have hx := B.exec
  have hb := B.bytes
  have hr := B.returns
  have hts := atoms_spec (ws := wsX5_begins) B.pre
  have hown : s.vm.findClass RX5 = some m.cls := findClass_of_methodNamed B.named
  have hlocks := B.notSynchronized
  have loop2 : ∀ (fu : Nat) (kk : Int), (0 ≤ kk ∧ kk ≤ ty) → (zpf (pX5fit tx tf) (ty - kk).toNat kk.toNat = zpf (pX5fit tx tf) ty.toNat 0) → (ty - kk < fu) → ∀ (ls : Array Slot), lv_has ls 3 [(2, .int (zi kk)), (0, .ref g0), (1, .int (zi tx))] → W p l e (headSpec wsX5_begins ({ frames := 2, cells := 0, slots := 0, locals := 44 })).room s m ([.ref g0, .int (zi tx)] : List Value).toArray below meth c s.heap [] 0 0 (MQ below (vp_Si (fun r => r = zi (zpf (pX5fit tx tf) ty.toNat 0))) ([.ref g0, .int (zi tx)] : List Value).toArray s 0 0 zN) (F0 m 2 ls []) := by
    intro fu
    induction fu with
    | zero =>
      intro kk hi0 hi1 hfu ls hl
      exact absurd hfu (by omega)
    | succ fu ih =>
      intro kk hi0 hi1 hfu ls hl
      refine lv_iload_n hx hb dX5_begins_2 rfl (lv_at hl 0 rfl) ?_
      refine lv_aload_n hx hb dX5_begins_3 rfl (lv_at hl 1 rfl) ?_
      refine va_get (D := (dC, dI)) (ci := 5) (v := .int (zi ty)) (C := RX5) (T := TX5) (N := 12) hx hb hts (by decide +kernel) hown hK hP 0 rfl rfl 10 (by decide) (hts (.fieldLink RX5 145 "CivilDaysModel" "typed" "I") (by decide +kernel)) (fun _ h9 => h9) rfl dX5_begins_4 ?_
      refine zw_icmp_ge (tgt := 30) hx hb dX5_begins_7 (by decide) ⟨by omega, by omega⟩ ⟨by omega, by omega⟩ (fun h1 => ?_) (fun h1 => ?_)
      · skip
        first | have hen := zpf_end (pX5fit tx tf) ty kk (by omega) | skip
        refine lv_iload_n hx hb dX5_begins_30 rfl (lv_at hl 0 rfl) ?_
        exact W.iret (v := zi kk) hx hb hr (fun t ht hW => ⟨zi kk, rfl, congrArg zi (by omega), ht⟩) (fun q h => by cases h) dX5_begins_31
      · skip
        have htb := hp2 kk.toNat
        have hst := zpf_step (pX5fit tx tf) ty kk (by omega)
        have hpe := pX5fit_e tx tf kk (by omega)
        refine lv_iload_n hx hb dX5_begins_10 rfl (lv_at hl 2 rfl) ?_
        refine lv_iload_n hx hb dX5_begins_11 rfl (lv_at hl 0 rfl) ?_
        refine lv_aload_n hx hb dX5_begins_12 rfl (lv_at hl 1 rfl) ?_
        refine va_get (D := (dC, dI)) (ci := 5) (v := .ref pt) (C := RX5) (T := TX5) (N := 12) hx hb hts (by decide +kernel) hown hK hP 0 rfl rfl 11 (by decide) (hts (.fieldLink RX5 32 "CivilDaysModel" "typing" "[I") (by decide +kernel)) (fun _ h9 => h9) rfl dX5_begins_13 ?_
        refine lv_iload_n hx hb dX5_begins_16 rfl (lv_at hl 0 rfl) ?_
        refine zw_iald hx hb hK hP 1 0 rfl rfl (by omega) (by omega) ⟨by omega, by omega⟩ dX5_begins_17 ?_
        have hh2 := c_X5_fits l tx kk (tf kk.toNat) (by omega) (by omega) (by omega)
        refine vp_callSi (va_Run.run (va_runS (As := [.int (zi tx), .int (zi kk), .int (zi (tf kk.toNat))]) (rest := []) ⟨hx, hb, hml, hown, hts⟩ hh2 (va_cwS 3 hts gX5_begins_X5_fits rfl rfl rfl (by decide +kernel) ⟨Nat.le_of_ble_eq_true rfl, Nat.le_of_ble_eq_true rfl⟩) ⟨fun a U g mk q => q, fun U hU hW => ⟨rfl, trivial⟩⟩ rfl rfl hl.1 rfl (lv_room (Nat.le_of_ble_eq_true rfl)) dX5_begins_18 ⟨Nat.zero_le _, Nat.zero_le _⟩)) (fun r2 (hr2 : r2 = zi (f_X5_fits tx kk (tf kk.toNat))) => ?_)
        subst hr2
        have hf2 := b_X5_fits tx kk (tf kk.toNat) (by omega) (by omega) (by omega)
        refine zw_if_eq (tgt := 30) hx hb dX5_begins_21 (by decide) ⟨by omega, by omega⟩ (fun h3 => ?_) (fun h3 => ?_)
        · skip
          first | have hen := zpf_end (pX5fit tx tf) ty kk (by omega) | skip
          refine lv_iload_n hx hb dX5_begins_30 rfl (lv_at hl 0 rfl) ?_
          exact W.iret (v := zi kk) hx hb hr (fun t ht hW => ⟨zi kk, rfl, congrArg zi (by omega), ht⟩) (fun q h => by cases h) dX5_begins_31
        · skip
          obtain ⟨x4, ex4⟩ : ∃ z : Int, z = kk + 1 := ⟨_, rfl⟩
          refine zw_iinc (lv' := [(2, .int (zi x4)), (0, .ref g0), (1, .int (zi tx))]) (k := 0) hx hb ex4 dX5_begins_24 hl rfl (by decide) rfl (fun ls hl => ?_)
          refine lv_goto (tgt := 2) hx hb dX5_begins_27 (by decide) ?_
          subst ex4
          exact ih (kk + 1) (by omega) (by first | omega | simp) (by omega) ls (lv_sub hl [0, 1, 2] rfl)
  have hl := lv_entry ([.ref g0, .int (zi tx)]) (n := 3) (Nat.le_of_ble_eq_true rfl)
  rw [lg_entry_eq]
  generalize (lg_sl ([.ref g0, .int (zi tx)]) ++ List.replicate (3 - (lg_sl ([.ref g0, .int (zi tx)])).length) Slot.unset).toArray = ls at hl ⊢
  have hl : lv_has ls 3 [(0, .ref g0), (1, .int (zi tx))] := hl
  refine zw_iconst hx hb dX5_begins_0 ?_
  refine lv_istore_n (lv' := [(2, .int (zi 0)), (0, .ref g0), (1, .int (zi tx))]) hx hb dX5_begins_1 rfl hl (by decide) rfl (fun ls hl => ?_)
  exact loop2 (21) 0 (by omega) (by first | omega | simp) (by omega) ls (lv_sub hl [0, 1, 2] rfl)

set_option maxHeartbeats 4000000 in
set_option maxRecDepth 100000 in
theorem c_X5_dateOf (l : Launch)  (dC : Nat → ClassId) (dI : Nat → Nat → Nat) (cI : ClassId) (g0 : Nat) (ps : Nat) (pk : Nat) (pa : Nat) (pb : Nat) (pq : Nat) (pw : Nat) (pt : Nat) (co : Int) (ru : Int) (we : Int) (wr : Int) (ty : Int) (tf : Nat → Int) (tx : Int) (hp0 : 0 ≤ tx ∧ tx ≤ 2) (hp1 : ∀ j : Nat, 0 ≤ tf j ∧ tf j ≤ 126) : Met l yX5_dateOf wsX5_dateOf ({ frames := 4, cells := 0, slots := 0, locals := 85 }) (zPr (dC, dI) [(cI, .int)] [.ref g0, .int (zi tx)] [(g0, .inr (5, [.int (zi co), .ref ps, .int (zi ru), .ref pk, .ref pa, .ref pb, .ref pq, .int (zi we), .int (zi wr), .ref pw, .int (zi ty), .ref pt])), (pt, aI cI 20 tf)]) (vp_Si (fun r => r = zi (f_X5_dateOf tf tx))) 0 0 zN := by
  refine Met.ofW (cc := cX5_dateOf) (maxL := 4) (ret := (some .int)) (by decide) rfl ?_
  intro p e s m args below meth c s₁ B hml hv
  obtain ⟨rfl, hP, hK⟩ := hv
  have hx := B.exec
  have hb := B.bytes
  have hr := B.returns
  have hts := atoms_spec (ws := wsX5_dateOf) B.pre
  have hown : s.vm.findClass RX5 = some m.cls := findClass_of_methodNamed B.named
  have hlocks := B.notSynchronized
  have hl := lv_entry ([.ref g0, .int (zi tx)]) (n := 4) (Nat.le_of_ble_eq_true rfl)
  rw [lg_entry_eq]
  generalize (lg_sl ([.ref g0, .int (zi tx)]) ++ List.replicate (4 - (lg_sl ([.ref g0, .int (zi tx)])).length) Slot.unset).toArray = ls at hl ⊢
  have hl : lv_has ls 4 [(0, .ref g0), (1, .int (zi tx))] := hl
  have ht0 := hp1 (Int.toNat 0)
  have ht1 := hp1 (Int.toNat 1)
  have ht2 := hp1 (Int.toNat 2)
  have ht3 := hp1 (Int.toNat 3)
  have ht4 := hp1 (Int.toNat 4)
  have ht5 := hp1 (Int.toNat 5)
  have ht6 := hp1 (Int.toNat 6)
  have ht7 := hp1 (Int.toNat 7)
  have ht8 := hp1 (Int.toNat 8)
  have ht9 := hp1 (Int.toNat 9)
  refine lv_aload_n hx hb dX5_dateOf_0 rfl (lv_at hl 0 rfl) ?_
  refine zw_iconst hx hb dX5_dateOf_1 ?_
  refine zw_iconst hx hb dX5_dateOf_2 ?_
  have hh1 := c_X5_digits_0_4 l dC dI cI g0 ps pk pa pb pq pw pt co ru we wr ty tf 
  have hPc := hP.sub (ws' := [(g0, .inr (5, [.int (zi co), .ref ps, .int (zi ru), .ref pk, .ref pa, .ref pb, .ref pq, .int (zi we), .int (zi wr), .ref pw, .int (zi ty), .ref pt])), (pt, aI cI 20 tf)]) [0, 1] rfl
  have hKc : va_K (dC, dI) vwCl [(cI, .int)] s := hK
  refine vp_callSi (va_Run.run (va_runV (As := [.int (zi 0), .int (zi 4)]) (rest := []) ⟨hx, hb, hml, hown, hts⟩ hh1 (cwV 2 hts gX5_dateOf_X5_digits rfl rfl rfl (by decide +kernel) ⟨Nat.le_of_ble_eq_true rfl, Nat.le_of_ble_eq_true rfl⟩) ⟨zPr.blind _ _ _ _, va_recv hKc hPc (ci := 5) (q0 := 0) rfl rfl, fun U hU hW => ⟨rfl, by rw [hU]; exact hPc, va_K.moved hW.alike hKc⟩⟩ rfl rfl hl.1 rfl (lv_room (Nat.le_of_ble_eq_true rfl)) dX5_dateOf_3 ⟨Nat.le_of_ble_eq_true rfl, Nat.le_of_ble_eq_true rfl⟩)) (fun r1 (hr1 : r1 = zi (((10 * (((10 * (((10 * ((0 + (tf (Int.toNat 0))) - 48)) + (tf (Int.toNat 1))) - 48)) + (tf (Int.toNat 2))) - 48)) + (tf (Int.toNat 3))) - 48)) => ?_)
  subst hr1
  refine zw_top (fun x2 ex2 => ?_)
  refine lv_istore_n (lv' := [(2, .int (zi x2)), (0, .ref g0), (1, .int (zi tx))]) hx hb dX5_dateOf_6 rfl hl (by decide) rfl (fun ls hl => ?_)
  refine lv_iload_n hx hb dX5_dateOf_7 rfl (lv_at hl 2 rfl) ?_
  refine zw_if_ne (tgt := 57) hx hb dX5_dateOf_8 (by decide) ⟨by omega, by omega⟩ (fun h3 => ?_) (fun h3 => ?_)
  · skip
    refine lv_iload_n hx hb dX5_dateOf_57 rfl (lv_at hl 2 rfl) ?_
    refine zw_iconst hx hb dX5_dateOf_58 ?_
    refine zw_icmp_ne (tgt := 83) hx hb dX5_dateOf_59 (by decide) ⟨by omega, by omega⟩ ⟨by omega, by omega⟩ (fun h4 => ?_) (fun h4 => ?_)
    · skip
      refine lv_aload_n hx hb dX5_dateOf_83 rfl (lv_at hl 1 rfl) ?_
      refine zw_iconst hx hb dX5_dateOf_84 ?_
      refine zw_bipush hx hb dX5_dateOf_85 (by decide) ?_
      have hh5 := c_X5_digits_5_8 l dC dI cI g0 ps pk pa pb pq pw pt co ru we wr ty tf 
      have hPc := hP.sub (ws' := [(g0, .inr (5, [.int (zi co), .ref ps, .int (zi ru), .ref pk, .ref pa, .ref pb, .ref pq, .int (zi we), .int (zi wr), .ref pw, .int (zi ty), .ref pt])), (pt, aI cI 20 tf)]) [0, 1] rfl
      have hKc : va_K (dC, dI) vwCl [(cI, .int)] s := hK
      refine vp_callSi (va_Run.run (va_runV (As := [.int (zi 5), .int (zi 8)]) (rest := []) ⟨hx, hb, hml, hown, hts⟩ hh5 (cwV 2 hts gX5_dateOf_X5_digits rfl rfl rfl (by decide +kernel) ⟨Nat.le_of_ble_eq_true rfl, Nat.le_of_ble_eq_true rfl⟩) ⟨zPr.blind _ _ _ _, va_recv hKc hPc (ci := 5) (q0 := 0) rfl rfl, fun U hU hW => ⟨rfl, by rw [hU]; exact hPc, va_K.moved hW.alike hKc⟩⟩ rfl rfl hl.1 rfl (lv_room (Nat.le_of_ble_eq_true rfl)) dX5_dateOf_87 ⟨Nat.le_of_ble_eq_true rfl, Nat.le_of_ble_eq_true rfl⟩)) (fun r5 (hr5 : r5 = zi (((10 * (((10 * ((0 + (tf (Int.toNat 5))) - 48)) + (tf (Int.toNat 6))) - 48)) + (tf (Int.toNat 7))) - 48)) => ?_)
      subst hr5
      refine zw_top (fun x6 ex6 => ?_)
      refine lv_istore_n (lv' := [(3, .int (zi x6)), (2, .int (zi x2)), (0, .ref g0), (1, .int (zi tx))]) hx hb dX5_dateOf_90 rfl hl (by decide) rfl (fun ls hl => ?_)
      refine lv_iload_n hx hb dX5_dateOf_91 rfl (lv_at hl 1 rfl) ?_
      refine zw_iconst hx hb dX5_dateOf_92 ?_
      refine zw_sipush hx hb dX5_dateOf_93 (by decide) ?_
      have hh7 := c_X5_in l x2 1 9999 (by omega) (by omega) (by omega)
      refine vp_callSi (va_Run.run (va_runS (As := [.int (zi x2), .int (zi 1), .int (zi 9999)]) (rest := []) ⟨hx, hb, hml, hown, hts⟩ hh7 (va_cwS 3 hts gX5_dateOf_X5_in rfl rfl rfl (by decide +kernel) ⟨Nat.le_of_ble_eq_true rfl, Nat.le_of_ble_eq_true rfl⟩) ⟨fun a U g mk q => q, fun U hU hW => ⟨rfl, trivial⟩⟩ rfl rfl hl.1 rfl (lv_room (Nat.le_of_ble_eq_true rfl)) dX5_dateOf_96 ⟨Nat.zero_le _, Nat.zero_le _⟩)) (fun r7 (hr7 : r7 = zi (f_X5_in x2 1 9999)) => ?_)
      subst hr7
      have hf7 := b_X5_in x2 1 9999 (by omega) (by omega) (by omega)
      refine zw_if_eq (tgt := 125) hx hb dX5_dateOf_99 (by decide) ⟨by omega, by omega⟩ (fun h8 => ?_) (fun h8 => ?_)
      · skip
        refine zw_iconst hx hb dX5_dateOf_125 ?_
        subst ex2 ex6
        exact W.iret (v := zi (-1)) hx hb hr (fun t ht hW => ⟨zi (-1), rfl, by rw [f_X5_dateOf, if_neg h3, if_neg h4, if_pos h8], ht⟩) (fun q h => by cases h) dX5_dateOf_126
      · skip
        refine lv_iload_n hx hb dX5_dateOf_102 rfl (lv_at hl 0 rfl) ?_
        refine zw_iconst hx hb dX5_dateOf_103 ?_
        refine lv_iload_n hx hb dX5_dateOf_104 rfl (lv_at hl 1 rfl) ?_
        have hh9 := c_X5_yearLength l x2 (by omega)
        refine vp_callSi (va_Run.run (va_runS (As := [.int (zi x2)]) (rest := [.int (zi 1), .int (zi x6)]) ⟨hx, hb, hml, hown, hts⟩ hh9 (va_cwS 1 hts gX5_dateOf_X5_yearLength rfl rfl rfl (by decide +kernel) ⟨Nat.le_of_ble_eq_true rfl, Nat.le_of_ble_eq_true rfl⟩) ⟨fun a U g mk q => q, fun U hU hW => ⟨rfl, trivial⟩⟩ rfl rfl hl.1 rfl (lv_room (Nat.le_of_ble_eq_true rfl)) dX5_dateOf_105 ⟨Nat.zero_le _, Nat.zero_le _⟩)) (fun r9 (hr9 : r9 = zi (f_X5_yearLength x2)) => ?_)
        subst hr9
        have hf9 := b_X5_yearLength x2 (by omega)
        have hh10 := c_X5_in l x6 1 (f_X5_yearLength x2) (by omega) (by omega) (by omega)
        refine vp_callSi (va_Run.run (va_runS (As := [.int (zi x6), .int (zi 1), .int (zi (f_X5_yearLength x2))]) (rest := []) ⟨hx, hb, hml, hown, hts⟩ hh10 (va_cwS 3 hts gX5_dateOf_X5_in rfl rfl rfl (by decide +kernel) ⟨Nat.le_of_ble_eq_true rfl, Nat.le_of_ble_eq_true rfl⟩) ⟨fun a U g mk q => q, fun U hU hW => ⟨rfl, trivial⟩⟩ rfl rfl hl.1 rfl (lv_room (Nat.le_of_ble_eq_true rfl)) dX5_dateOf_108 ⟨Nat.zero_le _, Nat.zero_le _⟩)) (fun r10 (hr10 : r10 = zi (f_X5_in x6 1 (f_X5_yearLength x2))) => ?_)
        subst hr10
        have hf10 := b_X5_in x6 1 (f_X5_yearLength x2) (by omega) (by omega) (by omega)
        refine zw_if_eq (tgt := 125) hx hb dX5_dateOf_111 (by decide) ⟨by omega, by omega⟩ (fun h11 => ?_) (fun h11 => ?_)
        · skip
          refine zw_iconst hx hb dX5_dateOf_125 ?_
          subst ex2 ex6
          exact W.iret (v := zi (-1)) hx hb hr (fun t ht hW => ⟨zi (-1), rfl, by rw [f_X5_dateOf, if_neg h3, if_neg h4, if_neg h8, if_pos h11], ht⟩) (fun q h => by cases h) dX5_dateOf_126
        · skip
          refine lv_iload_n hx hb dX5_dateOf_114 rfl (lv_at hl 1 rfl) ?_
          have hh12 := c_X5_beginOf l x2 (by omega)
          refine vp_callSi (va_Run.run (va_runS (As := [.int (zi x2)]) (rest := []) ⟨hx, hb, hml, hown, hts⟩ hh12 (va_cwS 1 hts gX5_dateOf_X5_beginOf rfl rfl rfl (by decide +kernel) ⟨Nat.le_of_ble_eq_true rfl, Nat.le_of_ble_eq_true rfl⟩) ⟨fun a U g mk q => q, fun U hU hW => ⟨rfl, trivial⟩⟩ rfl rfl hl.1 rfl (lv_room (Nat.le_of_ble_eq_true rfl)) dX5_dateOf_115 ⟨Nat.zero_le _, Nat.zero_le _⟩)) (fun r12 (hr12 : r12 = zi (f_X5_beginOf x2)) => ?_)
          subst hr12
          have hf12 := b_X5_beginOf x2 (by omega)
          refine lv_iload_n hx hb dX5_dateOf_118 rfl (lv_at hl 0 rfl) ?_
          refine zw_iadd hx hb dX5_dateOf_119 ?_
          refine zw_iconst hx hb dX5_dateOf_120 ?_
          refine zw_isub hx hb dX5_dateOf_121 ?_
          refine lv_goto (tgt := 126) hx hb dX5_dateOf_122 (by decide) ?_
          subst ex2 ex6
          exact W.iret (v := zi (((f_X5_beginOf (((10 * (((10 * (((10 * ((0 + (tf (Int.toNat 0))) - 48)) + (tf (Int.toNat 1))) - 48)) + (tf (Int.toNat 2))) - 48)) + (tf (Int.toNat 3))) - 48)) + (((10 * (((10 * ((0 + (tf (Int.toNat 5))) - 48)) + (tf (Int.toNat 6))) - 48)) + (tf (Int.toNat 7))) - 48)) - 1)) hx hb hr (fun t ht hW => ⟨zi (((f_X5_beginOf (((10 * (((10 * (((10 * ((0 + (tf (Int.toNat 0))) - 48)) + (tf (Int.toNat 1))) - 48)) + (tf (Int.toNat 2))) - 48)) + (tf (Int.toNat 3))) - 48)) + (((10 * (((10 * ((0 + (tf (Int.toNat 5))) - 48)) + (tf (Int.toNat 6))) - 48)) + (tf (Int.toNat 7))) - 48)) - 1), rfl, by rw [f_X5_dateOf, if_neg h3, if_neg h4, if_neg h8, if_neg h11], ht⟩) (fun q h => by cases h) dX5_dateOf_126
    · skip
      refine lv_iload_n hx hb dX5_dateOf_62 rfl (lv_at hl 0 rfl) ?_
      refine lv_aload_n hx hb dX5_dateOf_63 rfl (lv_at hl 1 rfl) ?_
      refine zw_bipush hx hb dX5_dateOf_64 (by decide) ?_
      refine zw_bipush hx hb dX5_dateOf_66 (by decide) ?_
      have hh13 := c_X5_digits_6_8 l dC dI cI g0 ps pk pa pb pq pw pt co ru we wr ty tf 
      have hPc := hP.sub (ws' := [(g0, .inr (5, [.int (zi co), .ref ps, .int (zi ru), .ref pk, .ref pa, .ref pb, .ref pq, .int (zi we), .int (zi wr), .ref pw, .int (zi ty), .ref pt])), (pt, aI cI 20 tf)]) [0, 1] rfl
      have hKc : va_K (dC, dI) vwCl [(cI, .int)] s := hK
      refine vp_callSi (va_Run.run (va_runV (As := [.int (zi 6), .int (zi 8)]) (rest := [.int (zi x2)]) ⟨hx, hb, hml, hown, hts⟩ hh13 (cwV 2 hts gX5_dateOf_X5_digits rfl rfl rfl (by decide +kernel) ⟨Nat.le_of_ble_eq_true rfl, Nat.le_of_ble_eq_true rfl⟩) ⟨zPr.blind _ _ _ _, va_recv hKc hPc (ci := 5) (q0 := 0) rfl rfl, fun U hU hW => ⟨rfl, by rw [hU]; exact hPc, va_K.moved hW.alike hKc⟩⟩ rfl rfl hl.1 rfl (lv_room (Nat.le_of_ble_eq_true rfl)) dX5_dateOf_68 ⟨Nat.le_of_ble_eq_true rfl, Nat.le_of_ble_eq_true rfl⟩)) (fun r13 (hr13 : r13 = zi (((10 * ((0 + (tf (Int.toNat 6))) - 48)) + (tf (Int.toNat 7))) - 48)) => ?_)
      subst hr13
      refine lv_aload_n hx hb dX5_dateOf_71 rfl (lv_at hl 1 rfl) ?_
      refine zw_bipush hx hb dX5_dateOf_72 (by decide) ?_
      refine zw_bipush hx hb dX5_dateOf_74 (by decide) ?_
      have hh14 := c_X5_digits_9_10 l dC dI cI g0 ps pk pa pb pq pw pt co ru we wr ty tf 
      have hPc := hP.sub (ws' := [(g0, .inr (5, [.int (zi co), .ref ps, .int (zi ru), .ref pk, .ref pa, .ref pb, .ref pq, .int (zi we), .int (zi wr), .ref pw, .int (zi ty), .ref pt])), (pt, aI cI 20 tf)]) [0, 1] rfl
      have hKc : va_K (dC, dI) vwCl [(cI, .int)] s := hK
      refine vp_callSi (va_Run.run (va_runV (As := [.int (zi 9), .int (zi 10)]) (rest := [.int (zi (((10 * ((0 + (tf (Int.toNat 6))) - 48)) + (tf (Int.toNat 7))) - 48)), .int (zi x2)]) ⟨hx, hb, hml, hown, hts⟩ hh14 (cwV 2 hts gX5_dateOf_X5_digits rfl rfl rfl (by decide +kernel) ⟨Nat.le_of_ble_eq_true rfl, Nat.le_of_ble_eq_true rfl⟩) ⟨zPr.blind _ _ _ _, va_recv hKc hPc (ci := 5) (q0 := 0) rfl rfl, fun U hU hW => ⟨rfl, by rw [hU]; exact hPc, va_K.moved hW.alike hKc⟩⟩ rfl rfl hl.1 rfl (lv_room (Nat.le_of_ble_eq_true rfl)) dX5_dateOf_76 ⟨Nat.le_of_ble_eq_true rfl, Nat.le_of_ble_eq_true rfl⟩)) (fun r14 (hr14 : r14 = zi ((0 + (tf (Int.toNat 9))) - 48)) => ?_)
      subst hr14
      have hh15 := c_X5_byWeek l x2 (((10 * ((0 + (tf (Int.toNat 6))) - 48)) + (tf (Int.toNat 7))) - 48) ((0 + (tf (Int.toNat 9))) - 48) (by omega) (by omega) (by omega)
      refine vp_callSi (va_Run.run (va_runS (As := [.int (zi x2), .int (zi (((10 * ((0 + (tf (Int.toNat 6))) - 48)) + (tf (Int.toNat 7))) - 48)), .int (zi ((0 + (tf (Int.toNat 9))) - 48))]) (rest := []) ⟨hx, hb, hml, hown, hts⟩ hh15 (va_cwS 3 hts gX5_dateOf_X5_byWeek rfl rfl rfl (by decide +kernel) ⟨Nat.le_of_ble_eq_true rfl, Nat.le_of_ble_eq_true rfl⟩) ⟨fun a U g mk q => q, fun U hU hW => ⟨rfl, trivial⟩⟩ rfl rfl hl.1 rfl (lv_room (Nat.le_of_ble_eq_true rfl)) dX5_dateOf_79 ⟨Nat.zero_le _, Nat.zero_le _⟩)) (fun r15 (hr15 : r15 = zi (f_X5_byWeek x2 (((10 * ((0 + (tf (Int.toNat 6))) - 48)) + (tf (Int.toNat 7))) - 48) ((0 + (tf (Int.toNat 9))) - 48))) => ?_)
      subst hr15
      have hf15 := b_X5_byWeek x2 (((10 * ((0 + (tf (Int.toNat 6))) - 48)) + (tf (Int.toNat 7))) - 48) ((0 + (tf (Int.toNat 9))) - 48) (by omega) (by omega) (by omega)
      subst ex2
      exact W.iret (v := zi (f_X5_byWeek (((10 * (((10 * (((10 * ((0 + (tf (Int.toNat 0))) - 48)) + (tf (Int.toNat 1))) - 48)) + (tf (Int.toNat 2))) - 48)) + (tf (Int.toNat 3))) - 48) (((10 * ((0 + (tf (Int.toNat 6))) - 48)) + (tf (Int.toNat 7))) - 48) ((0 + (tf (Int.toNat 9))) - 48))) hx hb hr (fun t ht hW => ⟨zi (f_X5_byWeek (((10 * (((10 * (((10 * ((0 + (tf (Int.toNat 0))) - 48)) + (tf (Int.toNat 1))) - 48)) + (tf (Int.toNat 2))) - 48)) + (tf (Int.toNat 3))) - 48) (((10 * ((0 + (tf (Int.toNat 6))) - 48)) + (tf (Int.toNat 7))) - 48) ((0 + (tf (Int.toNat 9))) - 48)), rfl, by rw [f_X5_dateOf, if_neg h3, if_pos h4], ht⟩) (fun q h => by cases h) dX5_dateOf_82
  · skip
    refine lv_iload_n hx hb dX5_dateOf_11 rfl (lv_at hl 0 rfl) ?_
    refine lv_aload_n hx hb dX5_dateOf_12 rfl (lv_at hl 1 rfl) ?_
    refine zw_iconst hx hb dX5_dateOf_13 ?_
    refine zw_bipush hx hb dX5_dateOf_14 (by decide) ?_
    have hh16 := c_X5_digits_5_7 l dC dI cI g0 ps pk pa pb pq pw pt co ru we wr ty tf 
    have hPc := hP.sub (ws' := [(g0, .inr (5, [.int (zi co), .ref ps, .int (zi ru), .ref pk, .ref pa, .ref pb, .ref pq, .int (zi we), .int (zi wr), .ref pw, .int (zi ty), .ref pt])), (pt, aI cI 20 tf)]) [0, 1] rfl
    have hKc : va_K (dC, dI) vwCl [(cI, .int)] s := hK
    refine vp_callSi (va_Run.run (va_runV (As := [.int (zi 5), .int (zi 7)]) (rest := [.int (zi x2)]) ⟨hx, hb, hml, hown, hts⟩ hh16 (cwV 2 hts gX5_dateOf_X5_digits rfl rfl rfl (by decide +kernel) ⟨Nat.le_of_ble_eq_true rfl, Nat.le_of_ble_eq_true rfl⟩) ⟨zPr.blind _ _ _ _, va_recv hKc hPc (ci := 5) (q0 := 0) rfl rfl, fun U hU hW => ⟨rfl, by rw [hU]; exact hPc, va_K.moved hW.alike hKc⟩⟩ rfl rfl hl.1 rfl (lv_room (Nat.le_of_ble_eq_true rfl)) dX5_dateOf_16 ⟨Nat.le_of_ble_eq_true rfl, Nat.le_of_ble_eq_true rfl⟩)) (fun r16 (hr16 : r16 = zi (((10 * ((0 + (tf (Int.toNat 5))) - 48)) + (tf (Int.toNat 6))) - 48)) => ?_)
    subst hr16
    refine lv_aload_n hx hb dX5_dateOf_19 rfl (lv_at hl 1 rfl) ?_
    refine zw_bipush hx hb dX5_dateOf_20 (by decide) ?_
    refine zw_bipush hx hb dX5_dateOf_22 (by decide) ?_
    have hh17 := c_X5_digits_8_10 l dC dI cI g0 ps pk pa pb pq pw pt co ru we wr ty tf 
    have hPc := hP.sub (ws' := [(g0, .inr (5, [.int (zi co), .ref ps, .int (zi ru), .ref pk, .ref pa, .ref pb, .ref pq, .int (zi we), .int (zi wr), .ref pw, .int (zi ty), .ref pt])), (pt, aI cI 20 tf)]) [0, 1] rfl
    have hKc : va_K (dC, dI) vwCl [(cI, .int)] s := hK
    refine vp_callSi (va_Run.run (va_runV (As := [.int (zi 8), .int (zi 10)]) (rest := [.int (zi (((10 * ((0 + (tf (Int.toNat 5))) - 48)) + (tf (Int.toNat 6))) - 48)), .int (zi x2)]) ⟨hx, hb, hml, hown, hts⟩ hh17 (cwV 2 hts gX5_dateOf_X5_digits rfl rfl rfl (by decide +kernel) ⟨Nat.le_of_ble_eq_true rfl, Nat.le_of_ble_eq_true rfl⟩) ⟨zPr.blind _ _ _ _, va_recv hKc hPc (ci := 5) (q0 := 0) rfl rfl, fun U hU hW => ⟨rfl, by rw [hU]; exact hPc, va_K.moved hW.alike hKc⟩⟩ rfl rfl hl.1 rfl (lv_room (Nat.le_of_ble_eq_true rfl)) dX5_dateOf_24 ⟨Nat.le_of_ble_eq_true rfl, Nat.le_of_ble_eq_true rfl⟩)) (fun r17 (hr17 : r17 = zi (((10 * ((0 + (tf (Int.toNat 8))) - 48)) + (tf (Int.toNat 9))) - 48)) => ?_)
    subst hr17
    have hh18 := c_X5_isDate l x2 (((10 * ((0 + (tf (Int.toNat 5))) - 48)) + (tf (Int.toNat 6))) - 48) (((10 * ((0 + (tf (Int.toNat 8))) - 48)) + (tf (Int.toNat 9))) - 48) (by omega) (by omega) (by omega)
    refine vp_callSi (va_Run.run (va_runS (As := [.int (zi x2), .int (zi (((10 * ((0 + (tf (Int.toNat 5))) - 48)) + (tf (Int.toNat 6))) - 48)), .int (zi (((10 * ((0 + (tf (Int.toNat 8))) - 48)) + (tf (Int.toNat 9))) - 48))]) (rest := []) ⟨hx, hb, hml, hown, hts⟩ hh18 (va_cwS 3 hts gX5_dateOf_X5_isDate rfl rfl rfl (by decide +kernel) ⟨Nat.le_of_ble_eq_true rfl, Nat.le_of_ble_eq_true rfl⟩) ⟨fun a U g mk q => q, fun U hU hW => ⟨rfl, trivial⟩⟩ rfl rfl hl.1 rfl (lv_room (Nat.le_of_ble_eq_true rfl)) dX5_dateOf_27 ⟨Nat.zero_le _, Nat.zero_le _⟩)) (fun r18 (hr18 : r18 = zi (f_X5_isDate x2 (((10 * ((0 + (tf (Int.toNat 5))) - 48)) + (tf (Int.toNat 6))) - 48) (((10 * ((0 + (tf (Int.toNat 8))) - 48)) + (tf (Int.toNat 9))) - 48))) => ?_)
    subst hr18
    have hf18 := b_X5_isDate x2 (((10 * ((0 + (tf (Int.toNat 5))) - 48)) + (tf (Int.toNat 6))) - 48) (((10 * ((0 + (tf (Int.toNat 8))) - 48)) + (tf (Int.toNat 9))) - 48) (by omega) (by omega) (by omega)
    refine zw_if_eq (tgt := 55) hx hb dX5_dateOf_30 (by decide) ⟨by omega, by omega⟩ (fun h19 => ?_) (fun h19 => ?_)
    · skip
      refine zw_iconst hx hb dX5_dateOf_55 ?_
      subst ex2
      exact W.iret (v := zi (-1)) hx hb hr (fun t ht hW => ⟨zi (-1), rfl, by rw [f_X5_dateOf, if_pos h3, if_pos h19], ht⟩) (fun q h => by cases h) dX5_dateOf_56
    · skip
      refine lv_iload_n hx hb dX5_dateOf_33 rfl (lv_at hl 0 rfl) ?_
      refine lv_aload_n hx hb dX5_dateOf_34 rfl (lv_at hl 1 rfl) ?_
      refine zw_iconst hx hb dX5_dateOf_35 ?_
      refine zw_bipush hx hb dX5_dateOf_36 (by decide) ?_
      have hh20 := c_X5_digits_5_7 l dC dI cI g0 ps pk pa pb pq pw pt co ru we wr ty tf 
      have hPc := hP.sub (ws' := [(g0, .inr (5, [.int (zi co), .ref ps, .int (zi ru), .ref pk, .ref pa, .ref pb, .ref pq, .int (zi we), .int (zi wr), .ref pw, .int (zi ty), .ref pt])), (pt, aI cI 20 tf)]) [0, 1] rfl
      have hKc : va_K (dC, dI) vwCl [(cI, .int)] s := hK
      refine vp_callSi (va_Run.run (va_runV (As := [.int (zi 5), .int (zi 7)]) (rest := [.int (zi x2)]) ⟨hx, hb, hml, hown, hts⟩ hh20 (cwV 2 hts gX5_dateOf_X5_digits rfl rfl rfl (by decide +kernel) ⟨Nat.le_of_ble_eq_true rfl, Nat.le_of_ble_eq_true rfl⟩) ⟨zPr.blind _ _ _ _, va_recv hKc hPc (ci := 5) (q0 := 0) rfl rfl, fun U hU hW => ⟨rfl, by rw [hU]; exact hPc, va_K.moved hW.alike hKc⟩⟩ rfl rfl hl.1 rfl (lv_room (Nat.le_of_ble_eq_true rfl)) dX5_dateOf_38 ⟨Nat.le_of_ble_eq_true rfl, Nat.le_of_ble_eq_true rfl⟩)) (fun r20 (hr20 : r20 = zi (((10 * ((0 + (tf (Int.toNat 5))) - 48)) + (tf (Int.toNat 6))) - 48)) => ?_)
      subst hr20
      refine lv_aload_n hx hb dX5_dateOf_41 rfl (lv_at hl 1 rfl) ?_
      refine zw_bipush hx hb dX5_dateOf_42 (by decide) ?_
      refine zw_bipush hx hb dX5_dateOf_44 (by decide) ?_
      have hh21 := c_X5_digits_8_10 l dC dI cI g0 ps pk pa pb pq pw pt co ru we wr ty tf 
      have hPc := hP.sub (ws' := [(g0, .inr (5, [.int (zi co), .ref ps, .int (zi ru), .ref pk, .ref pa, .ref pb, .ref pq, .int (zi we), .int (zi wr), .ref pw, .int (zi ty), .ref pt])), (pt, aI cI 20 tf)]) [0, 1] rfl
      have hKc : va_K (dC, dI) vwCl [(cI, .int)] s := hK
      refine vp_callSi (va_Run.run (va_runV (As := [.int (zi 8), .int (zi 10)]) (rest := [.int (zi (((10 * ((0 + (tf (Int.toNat 5))) - 48)) + (tf (Int.toNat 6))) - 48)), .int (zi x2)]) ⟨hx, hb, hml, hown, hts⟩ hh21 (cwV 2 hts gX5_dateOf_X5_digits rfl rfl rfl (by decide +kernel) ⟨Nat.le_of_ble_eq_true rfl, Nat.le_of_ble_eq_true rfl⟩) ⟨zPr.blind _ _ _ _, va_recv hKc hPc (ci := 5) (q0 := 0) rfl rfl, fun U hU hW => ⟨rfl, by rw [hU]; exact hPc, va_K.moved hW.alike hKc⟩⟩ rfl rfl hl.1 rfl (lv_room (Nat.le_of_ble_eq_true rfl)) dX5_dateOf_46 ⟨Nat.le_of_ble_eq_true rfl, Nat.le_of_ble_eq_true rfl⟩)) (fun r21 (hr21 : r21 = zi (((10 * ((0 + (tf (Int.toNat 8))) - 48)) + (tf (Int.toNat 9))) - 48)) => ?_)
      subst hr21
      have hh22 := c_X5_numberOf l x2 (((10 * ((0 + (tf (Int.toNat 5))) - 48)) + (tf (Int.toNat 6))) - 48) (((10 * ((0 + (tf (Int.toNat 8))) - 48)) + (tf (Int.toNat 9))) - 48) (by omega) (by omega) (by omega)
      refine vp_callSi (va_Run.run (va_runS (As := [.int (zi x2), .int (zi (((10 * ((0 + (tf (Int.toNat 5))) - 48)) + (tf (Int.toNat 6))) - 48)), .int (zi (((10 * ((0 + (tf (Int.toNat 8))) - 48)) + (tf (Int.toNat 9))) - 48))]) (rest := []) ⟨hx, hb, hml, hown, hts⟩ hh22 (va_cwS 3 hts gX5_dateOf_X5_numberOf rfl rfl rfl (by decide +kernel) ⟨Nat.le_of_ble_eq_true rfl, Nat.le_of_ble_eq_true rfl⟩) ⟨fun a U g mk q => q, fun U hU hW => ⟨rfl, trivial⟩⟩ rfl rfl hl.1 rfl (lv_room (Nat.le_of_ble_eq_true rfl)) dX5_dateOf_49 ⟨Nat.zero_le _, Nat.zero_le _⟩)) (fun r22 (hr22 : r22 = zi (f_X5_numberOf x2 (((10 * ((0 + (tf (Int.toNat 5))) - 48)) + (tf (Int.toNat 6))) - 48) (((10 * ((0 + (tf (Int.toNat 8))) - 48)) + (tf (Int.toNat 9))) - 48))) => ?_)
      subst hr22
      have hf22 := b_X5_numberOf x2 (((10 * ((0 + (tf (Int.toNat 5))) - 48)) + (tf (Int.toNat 6))) - 48) (((10 * ((0 + (tf (Int.toNat 8))) - 48)) + (tf (Int.toNat 9))) - 48) (by omega) (by omega) (by omega)
      refine lv_goto (tgt := 56) hx hb dX5_dateOf_52 (by decide) ?_
      subst ex2
      exact W.iret (v := zi (f_X5_numberOf (((10 * (((10 * (((10 * ((0 + (tf (Int.toNat 0))) - 48)) + (tf (Int.toNat 1))) - 48)) + (tf (Int.toNat 2))) - 48)) + (tf (Int.toNat 3))) - 48) (((10 * ((0 + (tf (Int.toNat 5))) - 48)) + (tf (Int.toNat 6))) - 48) (((10 * ((0 + (tf (Int.toNat 8))) - 48)) + (tf (Int.toNat 9))) - 48))) hx hb hr (fun t ht hW => ⟨zi (f_X5_numberOf (((10 * (((10 * (((10 * ((0 + (tf (Int.toNat 0))) - 48)) + (tf (Int.toNat 1))) - 48)) + (tf (Int.toNat 2))) - 48)) + (tf (Int.toNat 3))) - 48) (((10 * ((0 + (tf (Int.toNat 5))) - 48)) + (tf (Int.toNat 6))) - 48) (((10 * ((0 + (tf (Int.toNat 8))) - 48)) + (tf (Int.toNat 9))) - 48)), rfl, by rw [f_X5_dateOf, if_pos h3, if_neg h19], ht⟩) (fun q h => by cases h) dX5_dateOf_56

set_option maxHeartbeats 4000000 in
set_option maxRecDepth 100000 in
theorem c_X5_read_1 (l : Launch)  (dC : Nat → ClassId) (dI : Nat → Nat → Nat) (cI : ClassId) (g0 : Nat) (ps : Nat) (pk : Nat) (pa : Nat) (pb : Nat) (pq : Nat) (pw : Nat) (pt : Nat) (co : Int) (ru : Int) (we : Int) (wr : Int) (ty : Int) (sf : Nat → Int) (tf : Nat → Int) (sl : Int) (sz : Nat) (hp0 : -2147483648 ≤ sl ∧ sl ≤ 2147483647) (hp1 : sl < 0 ∨ 9 < sl) : Met l yX5_read wsX5_read ({ frames := 2, cells := 0, slots := 0, locals := 42 }) (zPw (dC, dI) [(cI, .int)] sz [.ref g0, .int (zi sl)] [(g0, .inr (5, [.int (zi co), .ref ps, .int (zi ru), .ref pk, .ref pa, .ref pb, .ref pq, .int (zi we), .int (zi wr), .ref pw, .int (zi ty), .ref pt])), (ps, aI cI 10 sf), (pt, aI cI 20 tf)]) (va_Qi (fun (r : Int32) (_ : Unit) => r = zi 0) (zB (dC, dI) [(cI, .int)] (va_A [(g0, .inr (5, [.int (zi co), .ref ps, .int (zi ru), .ref pk, .ref pa, .ref pb, .ref pq, .int (zi we), .int (zi wr), .ref pw, .int (zi ty), .ref pt])), (ps, aI cI 10 sf), (pt, aI cI 20 tf)] sz) [(g0, .inr (5, [.int (zi 1), .ref ps, .int (zi ru), .ref pk, .ref pa, .ref pb, .ref pq, .int (zi we), .int (zi wr), .ref pw, .int (zi ty), .ref pt])), (ps, aI cI 10 sf), (pt, aI cI 20 tf)]) (va_A [(g0, .inr (5, [.int (zi co), .ref ps, .int (zi ru), .ref pk, .ref pa, .ref pb, .ref pq, .int (zi we), .int (zi wr), .ref pw, .int (zi ty), .ref pt])), (ps, aI cI 10 sf), (pt, aI cI 20 tf)] sz)) 0 0 (va_A [(g0, .inr (5, [.int (zi co), .ref ps, .int (zi ru), .ref pk, .ref pa, .ref pb, .ref pq, .int (zi we), .int (zi wr), .ref pw, .int (zi ty), .ref pt])), (ps, aI cI 10 sf), (pt, aI cI 20 tf)] sz) := by
  refine Met.ofW (cc := cX5_read) (maxL := 6) (ret := (some .int)) (by decide) rfl ?_
  intro p e s m args below meth c s₁ B hml hv
  obtain ⟨rfl, hsz, hP, hK, hD0⟩ := hv
  have hx := B.exec
  have hb := B.bytes
  have hr := B.returns
  have hts := atoms_spec (ws := wsX5_read) B.pre
  have hown : s.vm.findClass RX5 = some m.cls := findClass_of_methodNamed B.named
  have hlocks := B.notSynchronized
  subst hsz
  have hD := hD0.self (sz := s.heap.size)
  generalize hAe : va_A [(g0, .inr (5, [.int (zi co), .ref ps, .int (zi ru), .ref pk, .ref pa, .ref pb, .ref pq, .int (zi we), .int (zi wr), .ref pw, .int (zi ty), .ref pt])), (ps, aI cI 10 sf), (pt, aI cI 20 tf)] s.heap.size = A at hD ⊢
  have hA : ∀ q : Nat, s.heap.size ≤ q → A q := fun q h => by rw [← hAe]; exact Or.inr h
  have hS : va_S A s.heap s.heap [] := va_S.rf
  have hP : va_P (dC, dI) vwCl [(g0, .inr (5, [.int (zi co), .ref ps, .int (zi ru), .ref pk, .ref pa, .ref pb, .ref pq, .int (zi we), .int (zi wr), .ref pw, .int (zi ty), .ref pt])), (ps, aI cI 10 sf), (pt, aI cI 20 tf)] s.heap := hP
  have hl := lv_entry ([.ref g0, .int (zi sl)]) (n := 6) (Nat.le_of_ble_eq_true rfl)
  rw [lg_entry_eq]
  generalize (lg_sl ([.ref g0, .int (zi sl)]) ++ List.replicate (6 - (lg_sl ([.ref g0, .int (zi sl)])).length) Slot.unset).toArray = ls at hl ⊢
  have hl : lv_has ls 6 [(0, .ref g0), (1, .int (zi sl))] := hl
  refine lv_aload_n hx hb dX5_read_0 rfl (lv_at hl 0 rfl) ?_
  refine lv_iload_n hx hb dX5_read_1 rfl (lv_at hl 1 rfl) ?_
  have hh1 := c_X5_isSlot l sl (by omega)
  refine vp_callSi (va_Run.run (va_runS (As := [.int (zi sl)]) (rest := [.ref g0]) ⟨hx, hb, hml, hown, hts⟩ hh1 (va_cwS 1 hts gX5_read_X5_isSlot rfl rfl rfl (by decide +kernel) ⟨Nat.le_of_ble_eq_true rfl, Nat.le_of_ble_eq_true rfl⟩) ⟨fun a U g mk q => q, fun U hU hW => ⟨rfl, trivial⟩⟩ rfl rfl hl.1 rfl (lv_room (Nat.le_of_ble_eq_true rfl)) dX5_read_2 ⟨Nat.zero_le _, Nat.zero_le _⟩)) (fun r1 (hr1 : r1 = zi (f_X5_isSlot sl)) => ?_)
  subst hr1
  have hf1 := b_X5_isSlot sl (by omega)
  refine zw_if_eq (tgt := 12) hx hb dX5_read_5 (by decide) ⟨by omega, by omega⟩ (fun h2 => ?_) (fun h2 => ?_)
  · skip
    refine zw_iconst hx hb dX5_read_12 ?_
    refine va_put (D := (dC, dI)) (ci := 5) (v := .int (zi 1)) (ty := .int) (C := RX5) (T := TX5) (N := 12) hx hb hts (by decide +kernel) tyX5 tyX5_ok nmX5 hown hK hP hD hS 0 rfl rfl 0 (by decide) (hts (.fieldLink RX5 35 "CivilDaysModel" "code" "I") (by decide +kernel)) (fun _ h9 => h9) rfl (by decide +kernel) rfl rfl (Nat.le_of_ble_eq_true rfl) dX5_read_13 (fun H locs hP hD hS => ?_)
    have hP : va_P (dC, dI) vwCl [(g0, .inr (5, [.int (zi 1), .ref ps, .int (zi ru), .ref pk, .ref pa, .ref pb, .ref pq, .int (zi we), .int (zi wr), .ref pw, .int (zi ty), .ref pt])), (ps, aI cI 10 sf), (pt, aI cI 20 tf)] H := hP
    have hD : va_D A [(g0, .inr (5, [.int (zi 1), .ref ps, .int (zi ru), .ref pk, .ref pa, .ref pb, .ref pq, .int (zi we), .int (zi wr), .ref pw, .int (zi ty), .ref pt])), (ps, aI cI 10 sf), (pt, aI cI 20 tf)] := hD
    refine lv_aload_n hx hb dX5_read_16 rfl (lv_at hl 0 rfl) ?_
    refine va_get (D := (dC, dI)) (ci := 5) (v := .int (zi 1)) (C := RX5) (T := TX5) (N := 12) hx hb hts (by decide +kernel) hown hK hP 0 rfl rfl 0 (by decide) (hts (.fieldLink RX5 35 "CivilDaysModel" "code" "I") (by decide +kernel)) (fun _ h9 => h9) rfl dX5_read_17 ?_
    refine zw_if_le (tgt := 25) hx hb dX5_read_20 (by decide) ⟨by omega, by omega⟩ (fun h3 => ?_) (fun h3 => ?_)
    · skip
      exact absurd True.intro (by omega)
    · skip
      refine zw_iconst hx hb dX5_read_23 ?_
      have hP9 := hP.sub (ws' := [(g0, .inr (5, [.int (zi 1), .ref ps, .int (zi ru), .ref pk, .ref pa, .ref pb, .ref pq, .int (zi we), .int (zi wr), .ref pw, .int (zi ty), .ref pt])), (ps, aI cI 10 sf), (pt, aI cI 20 tf)]) [0, 1, 2] rfl
      have hD9 := hD.sub (ws' := [(g0, .inr (5, [.int (zi 1), .ref ps, .int (zi ru), .ref pk, .ref pa, .ref pb, .ref pq, .int (zi we), .int (zi wr), .ref pw, .int (zi ty), .ref pt])), (ps, aI cI 10 sf), (pt, aI cI 20 tf)]) [0, 1, 2] (by decide) rfl
      exact W.iret (v := zi 0) hx hb hr (fun t ht hW => ⟨⟨zi 0, (), rfl, rfl, by rw [ht]; exact hP9, va_K.moved hW.alike hK, hD9⟩, hS.F ht⟩) hS.2.2 dX5_read_24
  · skip
    exact absurd True.intro (by omega)

set_option maxHeartbeats 4000000 in
set_option maxRecDepth 100000 in
theorem c_X5_read_n (l : Launch)  (dC : Nat → ClassId) (dI : Nat → Nat → Nat) (cI : ClassId) (g0 : Nat) (ps : Nat) (pk : Nat) (pa : Nat) (pb : Nat) (pq : Nat) (pw : Nat) (pt : Nat) (co : Int) (ru : Int) (we : Int) (wr : Int) (ty : Int) (sf : Nat → Int) (tf : Nat → Int) (sl : Int) (sz : Nat) (hp0 : 0 ≤ sl ∧ sl ≤ 9) (hp1 : 0 ≤ ty ∧ ty ≤ 20) (hp2 : -1 ≤ ztx (bX5 tf ty) lX5 ty 3 ∧ ztx (bX5 tf ty) lX5 ty 3 ≤ 2) (hp3 : ∀ j : Nat, 0 ≤ tf j ∧ tf j ≤ 126) (hp4 : ztx (bX5 tf ty) lX5 ty 3 = -1) : Met l yX5_read wsX5_read ({ frames := 3, cells := 0, slots := 0, locals := 66 }) (zPw (dC, dI) [(cI, .int)] sz [.ref g0, .int (zi sl)] [(g0, .inr (5, [.int (zi co), .ref ps, .int (zi ru), .ref pk, .ref pa, .ref pb, .ref pq, .int (zi we), .int (zi wr), .ref pw, .int (zi ty), .ref pt])), (ps, aI cI 10 sf), (pt, aI cI 20 tf)]) (va_Qi (fun (r : Int32) (_ : Unit) => r = zi (-1 - zfa (bX5 tf ty) 3)) (zB (dC, dI) [(cI, .int)] (va_A [(g0, .inr (5, [.int (zi co), .ref ps, .int (zi ru), .ref pk, .ref pa, .ref pb, .ref pq, .int (zi we), .int (zi wr), .ref pw, .int (zi ty), .ref pt])), (ps, aI cI 10 sf), (pt, aI cI 20 tf)] sz) [(g0, .inr (5, [.int (zi 0), .ref ps, .int (zi ru), .ref pk, .ref pa, .ref pb, .ref pq, .int (zi we), .int (zi wr), .ref pw, .int (zi 0), .ref pt])), (ps, aI cI 10 sf), (pt, aI cI 20 tf)]) (va_A [(g0, .inr (5, [.int (zi co), .ref ps, .int (zi ru), .ref pk, .ref pa, .ref pb, .ref pq, .int (zi we), .int (zi wr), .ref pw, .int (zi ty), .ref pt])), (ps, aI cI 10 sf), (pt, aI cI 20 tf)] sz)) 0 0 (va_A [(g0, .inr (5, [.int (zi co), .ref ps, .int (zi ru), .ref pk, .ref pa, .ref pb, .ref pq, .int (zi we), .int (zi wr), .ref pw, .int (zi ty), .ref pt])), (ps, aI cI 10 sf), (pt, aI cI 20 tf)] sz) := by
  refine Met.ofW (cc := cX5_read) (maxL := 6) (ret := (some .int)) (by decide) rfl ?_
  intro p e s m args below meth c s₁ B hml hv
  obtain ⟨rfl, hsz, hP, hK, hD0⟩ := hv
  have hx := B.exec
  have hb := B.bytes
  have hr := B.returns
  have hts := atoms_spec (ws := wsX5_read) B.pre
  have hown : s.vm.findClass RX5 = some m.cls := findClass_of_methodNamed B.named
  have hlocks := B.notSynchronized
  subst hsz
  have hD := hD0.self (sz := s.heap.size)
  generalize hAe : va_A [(g0, .inr (5, [.int (zi co), .ref ps, .int (zi ru), .ref pk, .ref pa, .ref pb, .ref pq, .int (zi we), .int (zi wr), .ref pw, .int (zi ty), .ref pt])), (ps, aI cI 10 sf), (pt, aI cI 20 tf)] s.heap.size = A at hD ⊢
  have hA : ∀ q : Nat, s.heap.size ≤ q → A q := fun q h => by rw [← hAe]; exact Or.inr h
  have hS : va_S A s.heap s.heap [] := va_S.rf
  have hP : va_P (dC, dI) vwCl [(g0, .inr (5, [.int (zi co), .ref ps, .int (zi ru), .ref pk, .ref pa, .ref pb, .ref pq, .int (zi we), .int (zi wr), .ref pw, .int (zi ty), .ref pt])), (ps, aI cI 10 sf), (pt, aI cI 20 tf)] s.heap := hP
  have loop32 : ∀ (fu : Nat) (far : Int) (txt : Int) (tt : Int), (0 ≤ tt ∧ tt ≤ 3) → (far = zfa (bX5 tf ty) tt.toNat ∧ txt = ztx (bX5 tf ty) lX5 ty tt.toNat) → (0 ≤ far ∧ far ≤ 20 ∧ -1 ≤ txt ∧ txt < tt) → (3 - tt < fu) → ∀ (ls : Array Slot) (H : Heap) (locs : List Loc), lv_has ls 6 [(2, .int (zi far)), (3, .int (zi txt)), (4, .int (zi tt)), (0, .ref g0), (1, .int (zi sl))] → va_P (dC, dI) vwCl [(g0, .inr (5, [.int (zi 0), .ref ps, .int (zi ru), .ref pk, .ref pa, .ref pb, .ref pq, .int (zi we), .int (zi wr), .ref pw, .int (zi ty), .ref pt])), (ps, aI cI 10 sf), (pt, aI cI 20 tf)] H → va_D A [(g0, .inr (5, [.int (zi 0), .ref ps, .int (zi ru), .ref pk, .ref pa, .ref pb, .ref pq, .int (zi we), .int (zi wr), .ref pw, .int (zi ty), .ref pt])), (ps, aI cI 10 sf), (pt, aI cI 20 tf)] → va_S A s.heap H locs → W p l e (headSpec wsX5_read ({ frames := 3, cells := 0, slots := 0, locals := 66 })).room s m ([.ref g0, .int (zi sl)] : List Value).toArray below meth c H locs 0 0 (MQ below (va_Qi (fun (r : Int32) (_ : Unit) => r = zi (-1 - zfa (bX5 tf ty) 3)) (zB (dC, dI) [(cI, .int)] A [(g0, .inr (5, [.int (zi 0), .ref ps, .int (zi ru), .ref pk, .ref pa, .ref pb, .ref pq, .int (zi we), .int (zi wr), .ref pw, .int (zi 0), .ref pt])), (ps, aI cI 10 sf), (pt, aI cI 20 tf)]) A) ([.ref g0, .int (zi sl)] : List Value).toArray s 0 0 A) (F0 m 32 ls []) := by
    intro fu
    induction fu with
    | zero =>
      intro far txt tt hi0 hi1 hi2 hfu ls H locs hl hP hD hS
      exact absurd hfu (by omega)
    | succ fu ih =>
      intro far txt tt hi0 hi1 hi2 hfu ls H locs hl hP hD hS
      have hP : va_P (dC, dI) vwCl [(g0, .inr (5, [.int (zi 0), .ref ps, .int (zi ru), .ref pk, .ref pa, .ref pb, .ref pq, .int (zi we), .int (zi wr), .ref pw, .int (zi ty), .ref pt])), (ps, aI cI 10 sf), (pt, aI cI 20 tf)] H := hP
      have hD : va_D A [(g0, .inr (5, [.int (zi 0), .ref ps, .int (zi ru), .ref pk, .ref pa, .ref pb, .ref pq, .int (zi we), .int (zi wr), .ref pw, .int (zi ty), .ref pt])), (ps, aI cI 10 sf), (pt, aI cI 20 tf)] := hD
      refine lv_iload hx hb dX5_read_32 (lv_at hl 2 rfl) ?_
      refine zw_iconst hx hb dX5_read_34 ?_
      refine zw_icmp_ge (tgt := 91) hx hb dX5_read_35 (by decide) ⟨by omega, by omega⟩ ⟨by omega, by omega⟩ (fun h1 => ?_) (fun h1 => ?_)
      · skip
        have htt3 : tt = 3 := by omega
        subst htt3
        replace hi1 : far = zfa (bX5 tf ty) 3 ∧ txt = ztx (bX5 tf ty) lX5 ty 3 := hi1
        have hdt : f_X5_dateOf tf txt = f_X5_dateOf tf (ztx (bX5 tf ty) lX5 ty 3) := by rw [hi1.2]
        refine lv_iload_n hx hb dX5_read_91 rfl (lv_at hl 1 rfl) ?_
        refine zw_if_ge (tgt := 99) hx hb dX5_read_92 (by decide) ⟨by omega, by omega⟩ (fun h2 => ?_) (fun h2 => ?_)
        · skip
          exact absurd True.intro (by omega)
        · skip
          refine zw_iconst hx hb dX5_read_95 ?_
          refine lv_goto (tgt := 104) hx hb dX5_read_96 (by decide) ?_
          refine lv_istore (lv' := [(4, .int (zi (-1))), (2, .int (zi far)), (3, .int (zi txt)), (0, .ref g0), (1, .int (zi sl))]) hx hb dX5_read_104 hl (by decide) rfl (fun ls hl => ?_)
          refine lv_aload_n hx hb dX5_read_106 rfl (lv_at hl 3 rfl) ?_
          refine zw_iconst hx hb dX5_read_107 ?_
          refine va_put (D := (dC, dI)) (ci := 5) (v := .int (zi 0)) (ty := .int) (C := RX5) (T := TX5) (N := 12) hx hb hts (by decide +kernel) tyX5 tyX5_ok nmX5 hown hK hP hD hS 0 rfl rfl 10 (by decide) (hts (.fieldLink RX5 145 "CivilDaysModel" "typed" "I") (by decide +kernel)) (fun _ h9 => h9) rfl (by decide +kernel) rfl rfl (Nat.le_of_ble_eq_true rfl) dX5_read_108 (fun H locs hP hD hS => ?_)
          have hP : va_P (dC, dI) vwCl [(g0, .inr (5, [.int (zi 0), .ref ps, .int (zi ru), .ref pk, .ref pa, .ref pb, .ref pq, .int (zi we), .int (zi wr), .ref pw, .int (zi 0), .ref pt])), (ps, aI cI 10 sf), (pt, aI cI 20 tf)] H := hP
          have hD : va_D A [(g0, .inr (5, [.int (zi 0), .ref ps, .int (zi ru), .ref pk, .ref pa, .ref pb, .ref pq, .int (zi we), .int (zi wr), .ref pw, .int (zi 0), .ref pt])), (ps, aI cI 10 sf), (pt, aI cI 20 tf)] := hD
          refine lv_iload_n hx hb dX5_read_111 rfl (lv_at hl 2 rfl) ?_
          refine zw_if_ge (tgt := 119) hx hb dX5_read_112 (by decide) ⟨by omega, by omega⟩ (fun h3 => ?_) (fun h3 => ?_)
          · skip
            exact absurd True.intro (by omega)
          · skip
            refine zw_iconst hx hb dX5_read_115 ?_
            refine lv_iload_n hx hb dX5_read_116 rfl (lv_at hl 1 rfl) ?_
            refine zw_isub hx hb dX5_read_117 ?_
            have hP9 := hP.sub (ws' := [(g0, .inr (5, [.int (zi 0), .ref ps, .int (zi ru), .ref pk, .ref pa, .ref pb, .ref pq, .int (zi we), .int (zi wr), .ref pw, .int (zi 0), .ref pt])), (ps, aI cI 10 sf), (pt, aI cI 20 tf)]) [0, 1, 2] rfl
            have hD9 := hD.sub (ws' := [(g0, .inr (5, [.int (zi 0), .ref ps, .int (zi ru), .ref pk, .ref pa, .ref pb, .ref pq, .int (zi we), .int (zi wr), .ref pw, .int (zi 0), .ref pt])), (ps, aI cI 10 sf), (pt, aI cI 20 tf)]) [0, 1, 2] (by decide) rfl
            exact W.iret (v := zi ((-1) - far)) hx hb hr (fun t ht hW => ⟨⟨zi ((-1) - far), (), rfl, congrArg zi (by omega), by rw [ht]; exact hP9, va_K.moved hW.alike hK, hD9⟩, hS.F ht⟩) hS.2.2 dX5_read_118
      · skip
        have hs1 := zfa_s (bX5 tf ty) tt (by omega)
        have hs2 := ztx_s (bX5 tf ty) lX5 ty tt (by omega)
        have hs3 := bX5_e tf ty tt (by omega)
        have hs4 := lX5_e tt (by omega)
        have hs5 := b_X5_textLength tt (by omega)
        refine lv_aload_n hx hb dX5_read_38 rfl (lv_at hl 3 rfl) ?_
        refine lv_iload hx hb dX5_read_39 (lv_at hl 2 rfl) ?_
        have hh4 := c_X5_begins l dC dI cI g0 ps pk pa pb pq pw pt 0 ru we wr ty tf tt (by omega) (by omega) (by first | exact htt | exact hp3)
        have hPc := hP.sub (ws' := [(g0, .inr (5, [.int (zi 0), .ref ps, .int (zi ru), .ref pk, .ref pa, .ref pb, .ref pq, .int (zi we), .int (zi wr), .ref pw, .int (zi ty), .ref pt])), (pt, aI cI 20 tf)]) [0, 2] rfl
        have hKc : va_K (dC, dI) vwCl [(cI, .int)] s := hK
        refine vp_callSi (va_Run.run (va_runV (As := [.int (zi tt)]) (rest := []) ⟨hx, hb, hml, hown, hts⟩ hh4 (cwV 1 hts gX5_read_X5_begins rfl rfl rfl (by decide +kernel) ⟨Nat.le_of_ble_eq_true rfl, Nat.le_of_ble_eq_true rfl⟩) ⟨zPr.blind _ _ _ _, va_recv hKc hPc (ci := 5) (q0 := 0) rfl rfl, fun U hU hW => ⟨rfl, by rw [hU]; exact hPc, va_K.moved hW.alike hKc⟩⟩ rfl rfl hl.1 rfl (lv_room (Nat.le_of_ble_eq_true rfl)) dX5_read_41 ⟨Nat.le_of_ble_eq_true rfl, Nat.le_of_ble_eq_true rfl⟩)) (fun r4 (hr4 : r4 = zi (zpf (pX5fit tt tf) ty.toNat 0)) => ?_)
        subst hr4
        have hf4_0 := zpf_b (pX5fit tt tf) ty.toNat 0
        refine zw_top (fun x5 ex5 => ?_)
        refine lv_istore (lv' := [(5, .int (zi x5)), (2, .int (zi far)), (3, .int (zi txt)), (4, .int (zi tt)), (0, .ref g0), (1, .int (zi sl))]) hx hb dX5_read_44 hl (by decide) rfl (fun ls hl => ?_)
        refine lv_iload hx hb dX5_read_46 (lv_at hl 0 rfl) ?_
        refine lv_iload_n hx hb dX5_read_48 rfl (lv_at hl 1 rfl) ?_
        refine zw_icmp_le (tgt := 57) hx hb dX5_read_49 (by decide) ⟨by omega, by omega⟩ ⟨by omega, by omega⟩ (fun h6 => ?_) (fun h6 => ?_)
        · skip
          refine lv_iload_n hx hb dX5_read_57 rfl (lv_at hl 1 rfl) ?_
          refine lv_istore_n (lv' := [(2, .int (zi far)), (5, .int (zi x5)), (3, .int (zi txt)), (4, .int (zi tt)), (0, .ref g0), (1, .int (zi sl))]) hx hb dX5_read_58 rfl hl (by decide) rfl (fun ls hl => ?_)
          refine lv_iload hx hb dX5_read_59 (lv_at hl 1 rfl) ?_
          refine lv_aload_n hx hb dX5_read_61 rfl (lv_at hl 4 rfl) ?_
          refine va_get (D := (dC, dI)) (ci := 5) (v := .int (zi ty)) (C := RX5) (T := TX5) (N := 12) hx hb hts (by decide +kernel) hown hK hP 0 rfl rfl 10 (by decide) (hts (.fieldLink RX5 145 "CivilDaysModel" "typed" "I") (by decide +kernel)) (fun _ h9 => h9) rfl dX5_read_62 ?_
          refine zw_icmp_ne (tgt := 83) hx hb dX5_read_65 (by decide) ⟨by omega, by omega⟩ ⟨by omega, by omega⟩ (fun h7 => ?_) (fun h7 => ?_)
          · skip
            refine lv_iload_n hx hb dX5_read_83 rfl (lv_at hl 2 rfl) ?_
            refine lv_istore_n (lv' := [(3, .int (zi txt)), (2, .int (zi far)), (5, .int (zi x5)), (4, .int (zi tt)), (0, .ref g0), (1, .int (zi sl))]) hx hb dX5_read_84 rfl hl (by decide) rfl (fun ls hl => ?_)
            obtain ⟨x8, ex8⟩ : ∃ z : Int, z = tt + 1 := ⟨_, rfl⟩
            refine zw_iinc (lv' := [(4, .int (zi x8)), (3, .int (zi txt)), (2, .int (zi far)), (5, .int (zi x5)), (0, .ref g0), (1, .int (zi sl))]) (k := 3) hx hb ex8 dX5_read_85 hl rfl (by decide) rfl (fun ls hl => ?_)
            refine lv_goto (tgt := 32) hx hb dX5_read_88 (by decide) ?_
            subst ex5 ex8
            have hP9 := hP.sub (ws' := [(g0, .inr (5, [.int (zi 0), .ref ps, .int (zi ru), .ref pk, .ref pa, .ref pb, .ref pq, .int (zi we), .int (zi wr), .ref pw, .int (zi ty), .ref pt])), (ps, aI cI 10 sf), (pt, aI cI 20 tf)]) [0, 1, 2] rfl
            have hD9 := hD.sub (ws' := [(g0, .inr (5, [.int (zi 0), .ref ps, .int (zi ru), .ref pk, .ref pa, .ref pb, .ref pq, .int (zi we), .int (zi wr), .ref pw, .int (zi ty), .ref pt])), (ps, aI cI 10 sf), (pt, aI cI 20 tf)]) [0, 1, 2] (by decide) rfl
            exact ih far txt (tt + 1) (by omega) (by first | omega | exact ⟨rfl, rfl⟩) (by omega) (by omega) ls _ _ (lv_sub hl [2, 1, 0, 4, 5] rfl) hP9 hD9 hS
          · skip
            refine lv_iload hx hb dX5_read_68 (lv_at hl 1 rfl) ?_
            refine lv_iload hx hb dX5_read_70 (lv_at hl 3 rfl) ?_
            have hh9 := c_X5_textLength l tt (by omega)
            refine vp_callSi (va_Run.run (va_runS (As := [.int (zi tt)]) (rest := [.int (zi x5)]) ⟨hx, hb, hml, hown, hts⟩ hh9 (va_cwS 1 hts gX5_read_X5_textLength rfl rfl rfl (by decide +kernel) ⟨Nat.le_of_ble_eq_true rfl, Nat.le_of_ble_eq_true rfl⟩) ⟨fun a U g mk q => q, fun U hU hW => ⟨rfl, trivial⟩⟩ rfl rfl hl.1 rfl (lv_room (Nat.le_of_ble_eq_true rfl)) dX5_read_72 ⟨Nat.zero_le _, Nat.zero_le _⟩)) (fun r9 (hr9 : r9 = zi (f_X5_textLength tt)) => ?_)
            subst hr9
            have hf9 := b_X5_textLength tt (by omega)
            refine zw_icmp_ne (tgt := 83) hx hb dX5_read_75 (by decide) ⟨by omega, by omega⟩ ⟨by omega, by omega⟩ (fun h10 => ?_) (fun h10 => ?_)
            · skip
              refine lv_iload_n hx hb dX5_read_83 rfl (lv_at hl 2 rfl) ?_
              refine lv_istore_n (lv' := [(3, .int (zi txt)), (2, .int (zi far)), (5, .int (zi x5)), (4, .int (zi tt)), (0, .ref g0), (1, .int (zi sl))]) hx hb dX5_read_84 rfl hl (by decide) rfl (fun ls hl => ?_)
              obtain ⟨x11, ex11⟩ : ∃ z : Int, z = tt + 1 := ⟨_, rfl⟩
              refine zw_iinc (lv' := [(4, .int (zi x11)), (3, .int (zi txt)), (2, .int (zi far)), (5, .int (zi x5)), (0, .ref g0), (1, .int (zi sl))]) (k := 3) hx hb ex11 dX5_read_85 hl rfl (by decide) rfl (fun ls hl => ?_)
              refine lv_goto (tgt := 32) hx hb dX5_read_88 (by decide) ?_
              subst ex5 ex11
              have hP9 := hP.sub (ws' := [(g0, .inr (5, [.int (zi 0), .ref ps, .int (zi ru), .ref pk, .ref pa, .ref pb, .ref pq, .int (zi we), .int (zi wr), .ref pw, .int (zi ty), .ref pt])), (ps, aI cI 10 sf), (pt, aI cI 20 tf)]) [0, 1, 2] rfl
              have hD9 := hD.sub (ws' := [(g0, .inr (5, [.int (zi 0), .ref ps, .int (zi ru), .ref pk, .ref pa, .ref pb, .ref pq, .int (zi we), .int (zi wr), .ref pw, .int (zi ty), .ref pt])), (ps, aI cI 10 sf), (pt, aI cI 20 tf)]) [0, 1, 2] (by decide) rfl
              exact ih far txt (tt + 1) (by omega) (by first | omega | exact ⟨rfl, rfl⟩) (by omega) (by omega) ls _ _ (lv_sub hl [2, 1, 0, 4, 5] rfl) hP9 hD9 hS
            · skip
              refine lv_iload hx hb dX5_read_78 (lv_at hl 3 rfl) ?_
              refine lv_goto (tgt := 84) hx hb dX5_read_80 (by decide) ?_
              refine lv_istore_n (lv' := [(3, .int (zi tt)), (2, .int (zi far)), (5, .int (zi x5)), (4, .int (zi tt)), (0, .ref g0), (1, .int (zi sl))]) hx hb dX5_read_84 rfl hl (by decide) rfl (fun ls hl => ?_)
              obtain ⟨x12, ex12⟩ : ∃ z : Int, z = tt + 1 := ⟨_, rfl⟩
              refine zw_iinc (lv' := [(4, .int (zi x12)), (3, .int (zi tt)), (2, .int (zi far)), (5, .int (zi x5)), (0, .ref g0), (1, .int (zi sl))]) (k := 3) hx hb ex12 dX5_read_85 hl rfl (by decide) rfl (fun ls hl => ?_)
              refine lv_goto (tgt := 32) hx hb dX5_read_88 (by decide) ?_
              subst ex5 ex12
              have hP9 := hP.sub (ws' := [(g0, .inr (5, [.int (zi 0), .ref ps, .int (zi ru), .ref pk, .ref pa, .ref pb, .ref pq, .int (zi we), .int (zi wr), .ref pw, .int (zi ty), .ref pt])), (ps, aI cI 10 sf), (pt, aI cI 20 tf)]) [0, 1, 2] rfl
              have hD9 := hD.sub (ws' := [(g0, .inr (5, [.int (zi 0), .ref ps, .int (zi ru), .ref pk, .ref pa, .ref pb, .ref pq, .int (zi we), .int (zi wr), .ref pw, .int (zi ty), .ref pt])), (ps, aI cI 10 sf), (pt, aI cI 20 tf)]) [0, 1, 2] (by decide) rfl
              exact ih far tt (tt + 1) (by omega) (by first | omega | exact ⟨rfl, rfl⟩) (by omega) (by omega) ls _ _ (lv_sub hl [2, 1, 0, 4, 5] rfl) hP9 hD9 hS
        · skip
          refine lv_iload hx hb dX5_read_52 (lv_at hl 0 rfl) ?_
          refine lv_goto (tgt := 58) hx hb dX5_read_54 (by decide) ?_
          refine lv_istore_n (lv' := [(2, .int (zi x5)), (5, .int (zi x5)), (3, .int (zi txt)), (4, .int (zi tt)), (0, .ref g0), (1, .int (zi sl))]) hx hb dX5_read_58 rfl hl (by decide) rfl (fun ls hl => ?_)
          refine lv_iload hx hb dX5_read_59 (lv_at hl 1 rfl) ?_
          refine lv_aload_n hx hb dX5_read_61 rfl (lv_at hl 4 rfl) ?_
          refine va_get (D := (dC, dI)) (ci := 5) (v := .int (zi ty)) (C := RX5) (T := TX5) (N := 12) hx hb hts (by decide +kernel) hown hK hP 0 rfl rfl 10 (by decide) (hts (.fieldLink RX5 145 "CivilDaysModel" "typed" "I") (by decide +kernel)) (fun _ h9 => h9) rfl dX5_read_62 ?_
          refine zw_icmp_ne (tgt := 83) hx hb dX5_read_65 (by decide) ⟨by omega, by omega⟩ ⟨by omega, by omega⟩ (fun h13 => ?_) (fun h13 => ?_)
          · skip
            refine lv_iload_n hx hb dX5_read_83 rfl (lv_at hl 2 rfl) ?_
            refine lv_istore_n (lv' := [(3, .int (zi txt)), (2, .int (zi x5)), (5, .int (zi x5)), (4, .int (zi tt)), (0, .ref g0), (1, .int (zi sl))]) hx hb dX5_read_84 rfl hl (by decide) rfl (fun ls hl => ?_)
            obtain ⟨x14, ex14⟩ : ∃ z : Int, z = tt + 1 := ⟨_, rfl⟩
            refine zw_iinc (lv' := [(4, .int (zi x14)), (3, .int (zi txt)), (2, .int (zi x5)), (5, .int (zi x5)), (0, .ref g0), (1, .int (zi sl))]) (k := 3) hx hb ex14 dX5_read_85 hl rfl (by decide) rfl (fun ls hl => ?_)
            refine lv_goto (tgt := 32) hx hb dX5_read_88 (by decide) ?_
            subst ex5 ex14
            have hP9 := hP.sub (ws' := [(g0, .inr (5, [.int (zi 0), .ref ps, .int (zi ru), .ref pk, .ref pa, .ref pb, .ref pq, .int (zi we), .int (zi wr), .ref pw, .int (zi ty), .ref pt])), (ps, aI cI 10 sf), (pt, aI cI 20 tf)]) [0, 1, 2] rfl
            have hD9 := hD.sub (ws' := [(g0, .inr (5, [.int (zi 0), .ref ps, .int (zi ru), .ref pk, .ref pa, .ref pb, .ref pq, .int (zi we), .int (zi wr), .ref pw, .int (zi ty), .ref pt])), (ps, aI cI 10 sf), (pt, aI cI 20 tf)]) [0, 1, 2] (by decide) rfl
            exact ih (zpf (pX5fit tt tf) ty.toNat 0) txt (tt + 1) (by omega) (by first | omega | exact ⟨rfl, rfl⟩) (by omega) (by omega) ls _ _ (lv_sub hl [2, 1, 0, 4, 5] rfl) hP9 hD9 hS
          · skip
            refine lv_iload hx hb dX5_read_68 (lv_at hl 1 rfl) ?_
            refine lv_iload hx hb dX5_read_70 (lv_at hl 3 rfl) ?_
            have hh15 := c_X5_textLength l tt (by omega)
            refine vp_callSi (va_Run.run (va_runS (As := [.int (zi tt)]) (rest := [.int (zi x5)]) ⟨hx, hb, hml, hown, hts⟩ hh15 (va_cwS 1 hts gX5_read_X5_textLength rfl rfl rfl (by decide +kernel) ⟨Nat.le_of_ble_eq_true rfl, Nat.le_of_ble_eq_true rfl⟩) ⟨fun a U g mk q => q, fun U hU hW => ⟨rfl, trivial⟩⟩ rfl rfl hl.1 rfl (lv_room (Nat.le_of_ble_eq_true rfl)) dX5_read_72 ⟨Nat.zero_le _, Nat.zero_le _⟩)) (fun r15 (hr15 : r15 = zi (f_X5_textLength tt)) => ?_)
            subst hr15
            have hf15 := b_X5_textLength tt (by omega)
            refine zw_icmp_ne (tgt := 83) hx hb dX5_read_75 (by decide) ⟨by omega, by omega⟩ ⟨by omega, by omega⟩ (fun h16 => ?_) (fun h16 => ?_)
            · skip
              refine lv_iload_n hx hb dX5_read_83 rfl (lv_at hl 2 rfl) ?_
              refine lv_istore_n (lv' := [(3, .int (zi txt)), (2, .int (zi x5)), (5, .int (zi x5)), (4, .int (zi tt)), (0, .ref g0), (1, .int (zi sl))]) hx hb dX5_read_84 rfl hl (by decide) rfl (fun ls hl => ?_)
              obtain ⟨x17, ex17⟩ : ∃ z : Int, z = tt + 1 := ⟨_, rfl⟩
              refine zw_iinc (lv' := [(4, .int (zi x17)), (3, .int (zi txt)), (2, .int (zi x5)), (5, .int (zi x5)), (0, .ref g0), (1, .int (zi sl))]) (k := 3) hx hb ex17 dX5_read_85 hl rfl (by decide) rfl (fun ls hl => ?_)
              refine lv_goto (tgt := 32) hx hb dX5_read_88 (by decide) ?_
              subst ex5 ex17
              have hP9 := hP.sub (ws' := [(g0, .inr (5, [.int (zi 0), .ref ps, .int (zi ru), .ref pk, .ref pa, .ref pb, .ref pq, .int (zi we), .int (zi wr), .ref pw, .int (zi ty), .ref pt])), (ps, aI cI 10 sf), (pt, aI cI 20 tf)]) [0, 1, 2] rfl
              have hD9 := hD.sub (ws' := [(g0, .inr (5, [.int (zi 0), .ref ps, .int (zi ru), .ref pk, .ref pa, .ref pb, .ref pq, .int (zi we), .int (zi wr), .ref pw, .int (zi ty), .ref pt])), (ps, aI cI 10 sf), (pt, aI cI 20 tf)]) [0, 1, 2] (by decide) rfl
              exact ih (zpf (pX5fit tt tf) ty.toNat 0) txt (tt + 1) (by omega) (by first | omega | exact ⟨rfl, rfl⟩) (by omega) (by omega) ls _ _ (lv_sub hl [2, 1, 0, 4, 5] rfl) hP9 hD9 hS
            · skip
              refine lv_iload hx hb dX5_read_78 (lv_at hl 3 rfl) ?_
              refine lv_goto (tgt := 84) hx hb dX5_read_80 (by decide) ?_
              refine lv_istore_n (lv' := [(3, .int (zi tt)), (2, .int (zi x5)), (5, .int (zi x5)), (4, .int (zi tt)), (0, .ref g0), (1, .int (zi sl))]) hx hb dX5_read_84 rfl hl (by decide) rfl (fun ls hl => ?_)
              obtain ⟨x18, ex18⟩ : ∃ z : Int, z = tt + 1 := ⟨_, rfl⟩
              refine zw_iinc (lv' := [(4, .int (zi x18)), (3, .int (zi tt)), (2, .int (zi x5)), (5, .int (zi x5)), (0, .ref g0), (1, .int (zi sl))]) (k := 3) hx hb ex18 dX5_read_85 hl rfl (by decide) rfl (fun ls hl => ?_)
              refine lv_goto (tgt := 32) hx hb dX5_read_88 (by decide) ?_
              subst ex5 ex18
              have hP9 := hP.sub (ws' := [(g0, .inr (5, [.int (zi 0), .ref ps, .int (zi ru), .ref pk, .ref pa, .ref pb, .ref pq, .int (zi we), .int (zi wr), .ref pw, .int (zi ty), .ref pt])), (ps, aI cI 10 sf), (pt, aI cI 20 tf)]) [0, 1, 2] rfl
              have hD9 := hD.sub (ws' := [(g0, .inr (5, [.int (zi 0), .ref ps, .int (zi ru), .ref pk, .ref pa, .ref pb, .ref pq, .int (zi we), .int (zi wr), .ref pw, .int (zi ty), .ref pt])), (ps, aI cI 10 sf), (pt, aI cI 20 tf)]) [0, 1, 2] (by decide) rfl
              exact ih (zpf (pX5fit tt tf) ty.toNat 0) tt (tt + 1) (by omega) (by first | omega | exact ⟨rfl, rfl⟩) (by omega) (by omega) ls _ _ (lv_sub hl [2, 1, 0, 4, 5] rfl) hP9 hD9 hS
  have hl := lv_entry ([.ref g0, .int (zi sl)]) (n := 6) (Nat.le_of_ble_eq_true rfl)
  rw [lg_entry_eq]
  generalize (lg_sl ([.ref g0, .int (zi sl)]) ++ List.replicate (6 - (lg_sl ([.ref g0, .int (zi sl)])).length) Slot.unset).toArray = ls at hl ⊢
  have hl : lv_has ls 6 [(0, .ref g0), (1, .int (zi sl))] := hl
  refine lv_aload_n hx hb dX5_read_0 rfl (lv_at hl 0 rfl) ?_
  refine lv_iload_n hx hb dX5_read_1 rfl (lv_at hl 1 rfl) ?_
  have hh19 := c_X5_isSlot l sl (by omega)
  refine vp_callSi (va_Run.run (va_runS (As := [.int (zi sl)]) (rest := [.ref g0]) ⟨hx, hb, hml, hown, hts⟩ hh19 (va_cwS 1 hts gX5_read_X5_isSlot rfl rfl rfl (by decide +kernel) ⟨Nat.le_of_ble_eq_true rfl, Nat.le_of_ble_eq_true rfl⟩) ⟨fun a U g mk q => q, fun U hU hW => ⟨rfl, trivial⟩⟩ rfl rfl hl.1 rfl (lv_room (Nat.le_of_ble_eq_true rfl)) dX5_read_2 ⟨Nat.zero_le _, Nat.zero_le _⟩)) (fun r19 (hr19 : r19 = zi (f_X5_isSlot sl)) => ?_)
  subst hr19
  have hf19 := b_X5_isSlot sl (by omega)
  refine zw_if_eq (tgt := 12) hx hb dX5_read_5 (by decide) ⟨by omega, by omega⟩ (fun h20 => ?_) (fun h20 => ?_)
  · skip
    exact absurd True.intro (by omega)
  · skip
    refine zw_iconst hx hb dX5_read_8 ?_
    refine lv_goto (tgt := 13) hx hb dX5_read_9 (by decide) ?_
    refine va_put (D := (dC, dI)) (ci := 5) (v := .int (zi 0)) (ty := .int) (C := RX5) (T := TX5) (N := 12) hx hb hts (by decide +kernel) tyX5 tyX5_ok nmX5 hown hK hP hD hS 0 rfl rfl 0 (by decide) (hts (.fieldLink RX5 35 "CivilDaysModel" "code" "I") (by decide +kernel)) (fun _ h9 => h9) rfl (by decide +kernel) rfl rfl (Nat.le_of_ble_eq_true rfl) dX5_read_13 (fun H locs hP hD hS => ?_)
    have hP : va_P (dC, dI) vwCl [(g0, .inr (5, [.int (zi 0), .ref ps, .int (zi ru), .ref pk, .ref pa, .ref pb, .ref pq, .int (zi we), .int (zi wr), .ref pw, .int (zi ty), .ref pt])), (ps, aI cI 10 sf), (pt, aI cI 20 tf)] H := hP
    have hD : va_D A [(g0, .inr (5, [.int (zi 0), .ref ps, .int (zi ru), .ref pk, .ref pa, .ref pb, .ref pq, .int (zi we), .int (zi wr), .ref pw, .int (zi ty), .ref pt])), (ps, aI cI 10 sf), (pt, aI cI 20 tf)] := hD
    refine lv_aload_n hx hb dX5_read_16 rfl (lv_at hl 0 rfl) ?_
    refine va_get (D := (dC, dI)) (ci := 5) (v := .int (zi 0)) (C := RX5) (T := TX5) (N := 12) hx hb hts (by decide +kernel) hown hK hP 0 rfl rfl 0 (by decide) (hts (.fieldLink RX5 35 "CivilDaysModel" "code" "I") (by decide +kernel)) (fun _ h9 => h9) rfl dX5_read_17 ?_
    refine zw_if_le (tgt := 25) hx hb dX5_read_20 (by decide) ⟨by omega, by omega⟩ (fun h21 => ?_) (fun h21 => ?_)
    · skip
      refine zw_iconst hx hb dX5_read_25 ?_
      refine lv_istore_n (lv' := [(2, .int (zi 0)), (0, .ref g0), (1, .int (zi sl))]) hx hb dX5_read_26 rfl hl (by decide) rfl (fun ls hl => ?_)
      refine zw_iconst hx hb dX5_read_27 ?_
      refine lv_istore_n (lv' := [(3, .int (zi (-1))), (2, .int (zi 0)), (0, .ref g0), (1, .int (zi sl))]) hx hb dX5_read_28 rfl hl (by decide) rfl (fun ls hl => ?_)
      refine zw_iconst hx hb dX5_read_29 ?_
      refine lv_istore (lv' := [(4, .int (zi 0)), (3, .int (zi (-1))), (2, .int (zi 0)), (0, .ref g0), (1, .int (zi sl))]) hx hb dX5_read_30 hl (by decide) rfl (fun ls hl => ?_)
      have hP9 := hP.sub (ws' := [(g0, .inr (5, [.int (zi 0), .ref ps, .int (zi ru), .ref pk, .ref pa, .ref pb, .ref pq, .int (zi we), .int (zi wr), .ref pw, .int (zi ty), .ref pt])), (ps, aI cI 10 sf), (pt, aI cI 20 tf)]) [0, 1, 2] rfl
      have hD9 := hD.sub (ws' := [(g0, .inr (5, [.int (zi 0), .ref ps, .int (zi ru), .ref pk, .ref pa, .ref pb, .ref pq, .int (zi we), .int (zi wr), .ref pw, .int (zi ty), .ref pt])), (ps, aI cI 10 sf), (pt, aI cI 20 tf)]) [0, 1, 2] (by decide) rfl
      exact loop32 (4) 0 (-1) 0 (by omega) (by first | omega | exact ⟨rfl, rfl⟩) (by omega) (by omega) ls _ _ (lv_sub hl [2, 1, 0, 3, 4] rfl) hP9 hD9 hS
    · skip
      exact absurd True.intro (by omega)

set_option maxHeartbeats 4000000 in
set_option maxRecDepth 100000 in
theorem c_X5_read_d (l : Launch)  (dC : Nat → ClassId) (dI : Nat → Nat → Nat) (cI : ClassId) (g0 : Nat) (ps : Nat) (pk : Nat) (pa : Nat) (pb : Nat) (pq : Nat) (pw : Nat) (pt : Nat) (co : Int) (ru : Int) (we : Int) (wr : Int) (ty : Int) (sf : Nat → Int) (tf : Nat → Int) (sl : Int) (sz : Nat) (hp0 : 0 ≤ sl ∧ sl ≤ 9) (hp1 : 0 ≤ ty ∧ ty ≤ 20) (hp2 : -1 ≤ ztx (bX5 tf ty) lX5 ty 3 ∧ ztx (bX5 tf ty) lX5 ty 3 ≤ 2) (hp3 : ∀ j : Nat, 0 ≤ tf j ∧ tf j ≤ 126) (hp4 : 0 ≤ ztx (bX5 tf ty) lX5 ty 3) (hp5 : (f_X5_dateOf tf (ztx (bX5 tf ty) lX5 ty 3)) < 0) : Met l yX5_read wsX5_read ({ frames := 5, cells := 0, slots := 0, locals := 108 }) (zPw (dC, dI) [(cI, .int)] sz [.ref g0, .int (zi sl)] [(g0, .inr (5, [.int (zi co), .ref ps, .int (zi ru), .ref pk, .ref pa, .ref pb, .ref pq, .int (zi we), .int (zi wr), .ref pw, .int (zi ty), .ref pt])), (ps, aI cI 10 sf), (pt, aI cI 20 tf)]) (va_Qi (fun (r : Int32) (_ : Unit) => r = zi (-30)) (zB (dC, dI) [(cI, .int)] (va_A [(g0, .inr (5, [.int (zi co), .ref ps, .int (zi ru), .ref pk, .ref pa, .ref pb, .ref pq, .int (zi we), .int (zi wr), .ref pw, .int (zi ty), .ref pt])), (ps, aI cI 10 sf), (pt, aI cI 20 tf)] sz) [(g0, .inr (5, [.int (zi 0), .ref ps, .int (zi ru), .ref pk, .ref pa, .ref pb, .ref pq, .int (zi we), .int (zi wr), .ref pw, .int (zi 0), .ref pt])), (ps, aI cI 10 sf), (pt, aI cI 20 tf)]) (va_A [(g0, .inr (5, [.int (zi co), .ref ps, .int (zi ru), .ref pk, .ref pa, .ref pb, .ref pq, .int (zi we), .int (zi wr), .ref pw, .int (zi ty), .ref pt])), (ps, aI cI 10 sf), (pt, aI cI 20 tf)] sz)) 0 0 (va_A [(g0, .inr (5, [.int (zi co), .ref ps, .int (zi ru), .ref pk, .ref pa, .ref pb, .ref pq, .int (zi we), .int (zi wr), .ref pw, .int (zi ty), .ref pt])), (ps, aI cI 10 sf), (pt, aI cI 20 tf)] sz) := by
  refine Met.ofW (cc := cX5_read) (maxL := 6) (ret := (some .int)) (by decide) rfl ?_
  intro p e s m args below meth c s₁ B hml hv
  obtain ⟨rfl, hsz, hP, hK, hD0⟩ := hv
  have hx := B.exec
  have hb := B.bytes
  have hr := B.returns
  have hts := atoms_spec (ws := wsX5_read) B.pre
  have hown : s.vm.findClass RX5 = some m.cls := findClass_of_methodNamed B.named
  have hlocks := B.notSynchronized
  subst hsz
  have hD := hD0.self (sz := s.heap.size)
  generalize hAe : va_A [(g0, .inr (5, [.int (zi co), .ref ps, .int (zi ru), .ref pk, .ref pa, .ref pb, .ref pq, .int (zi we), .int (zi wr), .ref pw, .int (zi ty), .ref pt])), (ps, aI cI 10 sf), (pt, aI cI 20 tf)] s.heap.size = A at hD ⊢
  have hA : ∀ q : Nat, s.heap.size ≤ q → A q := fun q h => by rw [← hAe]; exact Or.inr h
  have hS : va_S A s.heap s.heap [] := va_S.rf
  have hP : va_P (dC, dI) vwCl [(g0, .inr (5, [.int (zi co), .ref ps, .int (zi ru), .ref pk, .ref pa, .ref pb, .ref pq, .int (zi we), .int (zi wr), .ref pw, .int (zi ty), .ref pt])), (ps, aI cI 10 sf), (pt, aI cI 20 tf)] s.heap := hP
  have loop32 : ∀ (fu : Nat) (far : Int) (txt : Int) (tt : Int), (0 ≤ tt ∧ tt ≤ 3) → (far = zfa (bX5 tf ty) tt.toNat ∧ txt = ztx (bX5 tf ty) lX5 ty tt.toNat) → (0 ≤ far ∧ far ≤ 20 ∧ -1 ≤ txt ∧ txt < tt) → (3 - tt < fu) → ∀ (ls : Array Slot) (H : Heap) (locs : List Loc), lv_has ls 6 [(2, .int (zi far)), (3, .int (zi txt)), (4, .int (zi tt)), (0, .ref g0), (1, .int (zi sl))] → va_P (dC, dI) vwCl [(g0, .inr (5, [.int (zi 0), .ref ps, .int (zi ru), .ref pk, .ref pa, .ref pb, .ref pq, .int (zi we), .int (zi wr), .ref pw, .int (zi ty), .ref pt])), (ps, aI cI 10 sf), (pt, aI cI 20 tf)] H → va_D A [(g0, .inr (5, [.int (zi 0), .ref ps, .int (zi ru), .ref pk, .ref pa, .ref pb, .ref pq, .int (zi we), .int (zi wr), .ref pw, .int (zi ty), .ref pt])), (ps, aI cI 10 sf), (pt, aI cI 20 tf)] → va_S A s.heap H locs → W p l e (headSpec wsX5_read ({ frames := 5, cells := 0, slots := 0, locals := 108 })).room s m ([.ref g0, .int (zi sl)] : List Value).toArray below meth c H locs 0 0 (MQ below (va_Qi (fun (r : Int32) (_ : Unit) => r = zi (-30)) (zB (dC, dI) [(cI, .int)] A [(g0, .inr (5, [.int (zi 0), .ref ps, .int (zi ru), .ref pk, .ref pa, .ref pb, .ref pq, .int (zi we), .int (zi wr), .ref pw, .int (zi 0), .ref pt])), (ps, aI cI 10 sf), (pt, aI cI 20 tf)]) A) ([.ref g0, .int (zi sl)] : List Value).toArray s 0 0 A) (F0 m 32 ls []) := by
    intro fu
    induction fu with
    | zero =>
      intro far txt tt hi0 hi1 hi2 hfu ls H locs hl hP hD hS
      exact absurd hfu (by omega)
    | succ fu ih =>
      intro far txt tt hi0 hi1 hi2 hfu ls H locs hl hP hD hS
      have hP : va_P (dC, dI) vwCl [(g0, .inr (5, [.int (zi 0), .ref ps, .int (zi ru), .ref pk, .ref pa, .ref pb, .ref pq, .int (zi we), .int (zi wr), .ref pw, .int (zi ty), .ref pt])), (ps, aI cI 10 sf), (pt, aI cI 20 tf)] H := hP
      have hD : va_D A [(g0, .inr (5, [.int (zi 0), .ref ps, .int (zi ru), .ref pk, .ref pa, .ref pb, .ref pq, .int (zi we), .int (zi wr), .ref pw, .int (zi ty), .ref pt])), (ps, aI cI 10 sf), (pt, aI cI 20 tf)] := hD
      refine lv_iload hx hb dX5_read_32 (lv_at hl 2 rfl) ?_
      refine zw_iconst hx hb dX5_read_34 ?_
      refine zw_icmp_ge (tgt := 91) hx hb dX5_read_35 (by decide) ⟨by omega, by omega⟩ ⟨by omega, by omega⟩ (fun h1 => ?_) (fun h1 => ?_)
      · skip
        have htt3 : tt = 3 := by omega
        subst htt3
        replace hi1 : far = zfa (bX5 tf ty) 3 ∧ txt = ztx (bX5 tf ty) lX5 ty 3 := hi1
        have hdt : f_X5_dateOf tf txt = f_X5_dateOf tf (ztx (bX5 tf ty) lX5 ty 3) := by rw [hi1.2]
        refine lv_iload_n hx hb dX5_read_91 rfl (lv_at hl 1 rfl) ?_
        refine zw_if_ge (tgt := 99) hx hb dX5_read_92 (by decide) ⟨by omega, by omega⟩ (fun h2 => ?_) (fun h2 => ?_)
        · skip
          refine lv_aload_n hx hb dX5_read_99 rfl (lv_at hl 3 rfl) ?_
          refine lv_iload_n hx hb dX5_read_100 rfl (lv_at hl 1 rfl) ?_
          have hh3 := c_X5_dateOf l dC dI cI g0 ps pk pa pb pq pw pt 0 ru we wr ty tf txt (by omega) (by first | exact htt | exact hp3)
          have hPc := hP.sub (ws' := [(g0, .inr (5, [.int (zi 0), .ref ps, .int (zi ru), .ref pk, .ref pa, .ref pb, .ref pq, .int (zi we), .int (zi wr), .ref pw, .int (zi ty), .ref pt])), (pt, aI cI 20 tf)]) [0, 2] rfl
          have hKc : va_K (dC, dI) vwCl [(cI, .int)] s := hK
          refine vp_callSi (va_Run.run (va_runV (As := [.int (zi txt)]) (rest := []) ⟨hx, hb, hml, hown, hts⟩ hh3 (cwV 1 hts gX5_read_X5_dateOf rfl rfl rfl (by decide +kernel) ⟨Nat.le_of_ble_eq_true rfl, Nat.le_of_ble_eq_true rfl⟩) ⟨zPr.blind _ _ _ _, va_recv hKc hPc (ci := 5) (q0 := 0) rfl rfl, fun U hU hW => ⟨rfl, by rw [hU]; exact hPc, va_K.moved hW.alike hKc⟩⟩ rfl rfl hl.1 rfl (lv_room (Nat.le_of_ble_eq_true rfl)) dX5_read_101 ⟨Nat.le_of_ble_eq_true rfl, Nat.le_of_ble_eq_true rfl⟩)) (fun r3 (hr3 : r3 = zi (f_X5_dateOf tf txt)) => ?_)
          subst hr3
          have hf3_0 := b_X5_dateOf tf txt (by omega) (by first | exact htt | exact hp3)
          refine zw_top (fun x4 ex4 => ?_)
          refine lv_istore (lv' := [(4, .int (zi x4)), (2, .int (zi far)), (3, .int (zi txt)), (0, .ref g0), (1, .int (zi sl))]) hx hb dX5_read_104 hl (by decide) rfl (fun ls hl => ?_)
          refine lv_aload_n hx hb dX5_read_106 rfl (lv_at hl 3 rfl) ?_
          refine zw_iconst hx hb dX5_read_107 ?_
          refine va_put (D := (dC, dI)) (ci := 5) (v := .int (zi 0)) (ty := .int) (C := RX5) (T := TX5) (N := 12) hx hb hts (by decide +kernel) tyX5 tyX5_ok nmX5 hown hK hP hD hS 0 rfl rfl 10 (by decide) (hts (.fieldLink RX5 145 "CivilDaysModel" "typed" "I") (by decide +kernel)) (fun _ h9 => h9) rfl (by decide +kernel) rfl rfl (Nat.le_of_ble_eq_true rfl) dX5_read_108 (fun H locs hP hD hS => ?_)
          have hP : va_P (dC, dI) vwCl [(g0, .inr (5, [.int (zi 0), .ref ps, .int (zi ru), .ref pk, .ref pa, .ref pb, .ref pq, .int (zi we), .int (zi wr), .ref pw, .int (zi 0), .ref pt])), (ps, aI cI 10 sf), (pt, aI cI 20 tf)] H := hP
          have hD : va_D A [(g0, .inr (5, [.int (zi 0), .ref ps, .int (zi ru), .ref pk, .ref pa, .ref pb, .ref pq, .int (zi we), .int (zi wr), .ref pw, .int (zi 0), .ref pt])), (ps, aI cI 10 sf), (pt, aI cI 20 tf)] := hD
          refine lv_iload_n hx hb dX5_read_111 rfl (lv_at hl 2 rfl) ?_
          refine zw_if_ge (tgt := 119) hx hb dX5_read_112 (by decide) ⟨by omega, by omega⟩ (fun h5 => ?_) (fun h5 => ?_)
          · skip
            refine lv_iload hx hb dX5_read_119 (lv_at hl 0 rfl) ?_
            refine zw_if_ge (tgt := 127) hx hb dX5_read_121 (by decide) ⟨by omega, by omega⟩ (fun h6 => ?_) (fun h6 => ?_)
            · skip
              exact absurd True.intro (by omega)
            · skip
              refine zw_bipush hx hb dX5_read_124 (by decide) ?_
              subst ex4
              have hP9 := hP.sub (ws' := [(g0, .inr (5, [.int (zi 0), .ref ps, .int (zi ru), .ref pk, .ref pa, .ref pb, .ref pq, .int (zi we), .int (zi wr), .ref pw, .int (zi 0), .ref pt])), (ps, aI cI 10 sf), (pt, aI cI 20 tf)]) [0, 1, 2] rfl
              have hD9 := hD.sub (ws' := [(g0, .inr (5, [.int (zi 0), .ref ps, .int (zi ru), .ref pk, .ref pa, .ref pb, .ref pq, .int (zi we), .int (zi wr), .ref pw, .int (zi 0), .ref pt])), (ps, aI cI 10 sf), (pt, aI cI 20 tf)]) [0, 1, 2] (by decide) rfl
              exact W.iret (v := zi (-30)) hx hb hr (fun t ht hW => ⟨⟨zi (-30), (), rfl, rfl, by rw [ht]; exact hP9, va_K.moved hW.alike hK, hD9⟩, hS.F ht⟩) hS.2.2 dX5_read_126
          · skip
            exact absurd True.intro (by omega)
        · skip
          exact absurd True.intro (by omega)
      · skip
        have hs1 := zfa_s (bX5 tf ty) tt (by omega)
        have hs2 := ztx_s (bX5 tf ty) lX5 ty tt (by omega)
        have hs3 := bX5_e tf ty tt (by omega)
        have hs4 := lX5_e tt (by omega)
        have hs5 := b_X5_textLength tt (by omega)
        refine lv_aload_n hx hb dX5_read_38 rfl (lv_at hl 3 rfl) ?_
        refine lv_iload hx hb dX5_read_39 (lv_at hl 2 rfl) ?_
        have hh7 := c_X5_begins l dC dI cI g0 ps pk pa pb pq pw pt 0 ru we wr ty tf tt (by omega) (by omega) (by first | exact htt | exact hp3)
        have hPc := hP.sub (ws' := [(g0, .inr (5, [.int (zi 0), .ref ps, .int (zi ru), .ref pk, .ref pa, .ref pb, .ref pq, .int (zi we), .int (zi wr), .ref pw, .int (zi ty), .ref pt])), (pt, aI cI 20 tf)]) [0, 2] rfl
        have hKc : va_K (dC, dI) vwCl [(cI, .int)] s := hK
        refine vp_callSi (va_Run.run (va_runV (As := [.int (zi tt)]) (rest := []) ⟨hx, hb, hml, hown, hts⟩ hh7 (cwV 1 hts gX5_read_X5_begins rfl rfl rfl (by decide +kernel) ⟨Nat.le_of_ble_eq_true rfl, Nat.le_of_ble_eq_true rfl⟩) ⟨zPr.blind _ _ _ _, va_recv hKc hPc (ci := 5) (q0 := 0) rfl rfl, fun U hU hW => ⟨rfl, by rw [hU]; exact hPc, va_K.moved hW.alike hKc⟩⟩ rfl rfl hl.1 rfl (lv_room (Nat.le_of_ble_eq_true rfl)) dX5_read_41 ⟨Nat.le_of_ble_eq_true rfl, Nat.le_of_ble_eq_true rfl⟩)) (fun r7 (hr7 : r7 = zi (zpf (pX5fit tt tf) ty.toNat 0)) => ?_)
        subst hr7
        have hf7_0 := zpf_b (pX5fit tt tf) ty.toNat 0
        refine zw_top (fun x8 ex8 => ?_)
        refine lv_istore (lv' := [(5, .int (zi x8)), (2, .int (zi far)), (3, .int (zi txt)), (4, .int (zi tt)), (0, .ref g0), (1, .int (zi sl))]) hx hb dX5_read_44 hl (by decide) rfl (fun ls hl => ?_)
        refine lv_iload hx hb dX5_read_46 (lv_at hl 0 rfl) ?_
        refine lv_iload_n hx hb dX5_read_48 rfl (lv_at hl 1 rfl) ?_
        refine zw_icmp_le (tgt := 57) hx hb dX5_read_49 (by decide) ⟨by omega, by omega⟩ ⟨by omega, by omega⟩ (fun h9 => ?_) (fun h9 => ?_)
        · skip
          refine lv_iload_n hx hb dX5_read_57 rfl (lv_at hl 1 rfl) ?_
          refine lv_istore_n (lv' := [(2, .int (zi far)), (5, .int (zi x8)), (3, .int (zi txt)), (4, .int (zi tt)), (0, .ref g0), (1, .int (zi sl))]) hx hb dX5_read_58 rfl hl (by decide) rfl (fun ls hl => ?_)
          refine lv_iload hx hb dX5_read_59 (lv_at hl 1 rfl) ?_
          refine lv_aload_n hx hb dX5_read_61 rfl (lv_at hl 4 rfl) ?_
          refine va_get (D := (dC, dI)) (ci := 5) (v := .int (zi ty)) (C := RX5) (T := TX5) (N := 12) hx hb hts (by decide +kernel) hown hK hP 0 rfl rfl 10 (by decide) (hts (.fieldLink RX5 145 "CivilDaysModel" "typed" "I") (by decide +kernel)) (fun _ h9 => h9) rfl dX5_read_62 ?_
          refine zw_icmp_ne (tgt := 83) hx hb dX5_read_65 (by decide) ⟨by omega, by omega⟩ ⟨by omega, by omega⟩ (fun h10 => ?_) (fun h10 => ?_)
          · skip
            refine lv_iload_n hx hb dX5_read_83 rfl (lv_at hl 2 rfl) ?_
            refine lv_istore_n (lv' := [(3, .int (zi txt)), (2, .int (zi far)), (5, .int (zi x8)), (4, .int (zi tt)), (0, .ref g0), (1, .int (zi sl))]) hx hb dX5_read_84 rfl hl (by decide) rfl (fun ls hl => ?_)
            obtain ⟨x11, ex11⟩ : ∃ z : Int, z = tt + 1 := ⟨_, rfl⟩
            refine zw_iinc (lv' := [(4, .int (zi x11)), (3, .int (zi txt)), (2, .int (zi far)), (5, .int (zi x8)), (0, .ref g0), (1, .int (zi sl))]) (k := 3) hx hb ex11 dX5_read_85 hl rfl (by decide) rfl (fun ls hl => ?_)
            refine lv_goto (tgt := 32) hx hb dX5_read_88 (by decide) ?_
            subst ex8 ex11
            have hP9 := hP.sub (ws' := [(g0, .inr (5, [.int (zi 0), .ref ps, .int (zi ru), .ref pk, .ref pa, .ref pb, .ref pq, .int (zi we), .int (zi wr), .ref pw, .int (zi ty), .ref pt])), (ps, aI cI 10 sf), (pt, aI cI 20 tf)]) [0, 1, 2] rfl
            have hD9 := hD.sub (ws' := [(g0, .inr (5, [.int (zi 0), .ref ps, .int (zi ru), .ref pk, .ref pa, .ref pb, .ref pq, .int (zi we), .int (zi wr), .ref pw, .int (zi ty), .ref pt])), (ps, aI cI 10 sf), (pt, aI cI 20 tf)]) [0, 1, 2] (by decide) rfl
            exact ih far txt (tt + 1) (by omega) (by first | omega | exact ⟨rfl, rfl⟩) (by omega) (by omega) ls _ _ (lv_sub hl [2, 1, 0, 4, 5] rfl) hP9 hD9 hS
          · skip
            refine lv_iload hx hb dX5_read_68 (lv_at hl 1 rfl) ?_
            refine lv_iload hx hb dX5_read_70 (lv_at hl 3 rfl) ?_
            have hh12 := c_X5_textLength l tt (by omega)
            refine vp_callSi (va_Run.run (va_runS (As := [.int (zi tt)]) (rest := [.int (zi x8)]) ⟨hx, hb, hml, hown, hts⟩ hh12 (va_cwS 1 hts gX5_read_X5_textLength rfl rfl rfl (by decide +kernel) ⟨Nat.le_of_ble_eq_true rfl, Nat.le_of_ble_eq_true rfl⟩) ⟨fun a U g mk q => q, fun U hU hW => ⟨rfl, trivial⟩⟩ rfl rfl hl.1 rfl (lv_room (Nat.le_of_ble_eq_true rfl)) dX5_read_72 ⟨Nat.zero_le _, Nat.zero_le _⟩)) (fun r12 (hr12 : r12 = zi (f_X5_textLength tt)) => ?_)
            subst hr12
            have hf12 := b_X5_textLength tt (by omega)
            refine zw_icmp_ne (tgt := 83) hx hb dX5_read_75 (by decide) ⟨by omega, by omega⟩ ⟨by omega, by omega⟩ (fun h13 => ?_) (fun h13 => ?_)
            · skip
              refine lv_iload_n hx hb dX5_read_83 rfl (lv_at hl 2 rfl) ?_
              refine lv_istore_n (lv' := [(3, .int (zi txt)), (2, .int (zi far)), (5, .int (zi x8)), (4, .int (zi tt)), (0, .ref g0), (1, .int (zi sl))]) hx hb dX5_read_84 rfl hl (by decide) rfl (fun ls hl => ?_)
              obtain ⟨x14, ex14⟩ : ∃ z : Int, z = tt + 1 := ⟨_, rfl⟩
              refine zw_iinc (lv' := [(4, .int (zi x14)), (3, .int (zi txt)), (2, .int (zi far)), (5, .int (zi x8)), (0, .ref g0), (1, .int (zi sl))]) (k := 3) hx hb ex14 dX5_read_85 hl rfl (by decide) rfl (fun ls hl => ?_)
              refine lv_goto (tgt := 32) hx hb dX5_read_88 (by decide) ?_
              subst ex8 ex14
              have hP9 := hP.sub (ws' := [(g0, .inr (5, [.int (zi 0), .ref ps, .int (zi ru), .ref pk, .ref pa, .ref pb, .ref pq, .int (zi we), .int (zi wr), .ref pw, .int (zi ty), .ref pt])), (ps, aI cI 10 sf), (pt, aI cI 20 tf)]) [0, 1, 2] rfl
              have hD9 := hD.sub (ws' := [(g0, .inr (5, [.int (zi 0), .ref ps, .int (zi ru), .ref pk, .ref pa, .ref pb, .ref pq, .int (zi we), .int (zi wr), .ref pw, .int (zi ty), .ref pt])), (ps, aI cI 10 sf), (pt, aI cI 20 tf)]) [0, 1, 2] (by decide) rfl
              exact ih far txt (tt + 1) (by omega) (by first | omega | exact ⟨rfl, rfl⟩) (by omega) (by omega) ls _ _ (lv_sub hl [2, 1, 0, 4, 5] rfl) hP9 hD9 hS
            · skip
              refine lv_iload hx hb dX5_read_78 (lv_at hl 3 rfl) ?_
              refine lv_goto (tgt := 84) hx hb dX5_read_80 (by decide) ?_
              refine lv_istore_n (lv' := [(3, .int (zi tt)), (2, .int (zi far)), (5, .int (zi x8)), (4, .int (zi tt)), (0, .ref g0), (1, .int (zi sl))]) hx hb dX5_read_84 rfl hl (by decide) rfl (fun ls hl => ?_)
              obtain ⟨x15, ex15⟩ : ∃ z : Int, z = tt + 1 := ⟨_, rfl⟩
              refine zw_iinc (lv' := [(4, .int (zi x15)), (3, .int (zi tt)), (2, .int (zi far)), (5, .int (zi x8)), (0, .ref g0), (1, .int (zi sl))]) (k := 3) hx hb ex15 dX5_read_85 hl rfl (by decide) rfl (fun ls hl => ?_)
              refine lv_goto (tgt := 32) hx hb dX5_read_88 (by decide) ?_
              subst ex8 ex15
              have hP9 := hP.sub (ws' := [(g0, .inr (5, [.int (zi 0), .ref ps, .int (zi ru), .ref pk, .ref pa, .ref pb, .ref pq, .int (zi we), .int (zi wr), .ref pw, .int (zi ty), .ref pt])), (ps, aI cI 10 sf), (pt, aI cI 20 tf)]) [0, 1, 2] rfl
              have hD9 := hD.sub (ws' := [(g0, .inr (5, [.int (zi 0), .ref ps, .int (zi ru), .ref pk, .ref pa, .ref pb, .ref pq, .int (zi we), .int (zi wr), .ref pw, .int (zi ty), .ref pt])), (ps, aI cI 10 sf), (pt, aI cI 20 tf)]) [0, 1, 2] (by decide) rfl
              exact ih far tt (tt + 1) (by omega) (by first | omega | exact ⟨rfl, rfl⟩) (by omega) (by omega) ls _ _ (lv_sub hl [2, 1, 0, 4, 5] rfl) hP9 hD9 hS
        · skip
          refine lv_iload hx hb dX5_read_52 (lv_at hl 0 rfl) ?_
          refine lv_goto (tgt := 58) hx hb dX5_read_54 (by decide) ?_
          refine lv_istore_n (lv' := [(2, .int (zi x8)), (5, .int (zi x8)), (3, .int (zi txt)), (4, .int (zi tt)), (0, .ref g0), (1, .int (zi sl))]) hx hb dX5_read_58 rfl hl (by decide) rfl (fun ls hl => ?_)
          refine lv_iload hx hb dX5_read_59 (lv_at hl 1 rfl) ?_
          refine lv_aload_n hx hb dX5_read_61 rfl (lv_at hl 4 rfl) ?_
          refine va_get (D := (dC, dI)) (ci := 5) (v := .int (zi ty)) (C := RX5) (T := TX5) (N := 12) hx hb hts (by decide +kernel) hown hK hP 0 rfl rfl 10 (by decide) (hts (.fieldLink RX5 145 "CivilDaysModel" "typed" "I") (by decide +kernel)) (fun _ h9 => h9) rfl dX5_read_62 ?_
          refine zw_icmp_ne (tgt := 83) hx hb dX5_read_65 (by decide) ⟨by omega, by omega⟩ ⟨by omega, by omega⟩ (fun h16 => ?_) (fun h16 => ?_)
          · skip
            refine lv_iload_n hx hb dX5_read_83 rfl (lv_at hl 2 rfl) ?_
            refine lv_istore_n (lv' := [(3, .int (zi txt)), (2, .int (zi x8)), (5, .int (zi x8)), (4, .int (zi tt)), (0, .ref g0), (1, .int (zi sl))]) hx hb dX5_read_84 rfl hl (by decide) rfl (fun ls hl => ?_)
            obtain ⟨x17, ex17⟩ : ∃ z : Int, z = tt + 1 := ⟨_, rfl⟩
            refine zw_iinc (lv' := [(4, .int (zi x17)), (3, .int (zi txt)), (2, .int (zi x8)), (5, .int (zi x8)), (0, .ref g0), (1, .int (zi sl))]) (k := 3) hx hb ex17 dX5_read_85 hl rfl (by decide) rfl (fun ls hl => ?_)
            refine lv_goto (tgt := 32) hx hb dX5_read_88 (by decide) ?_
            subst ex8 ex17
            have hP9 := hP.sub (ws' := [(g0, .inr (5, [.int (zi 0), .ref ps, .int (zi ru), .ref pk, .ref pa, .ref pb, .ref pq, .int (zi we), .int (zi wr), .ref pw, .int (zi ty), .ref pt])), (ps, aI cI 10 sf), (pt, aI cI 20 tf)]) [0, 1, 2] rfl
            have hD9 := hD.sub (ws' := [(g0, .inr (5, [.int (zi 0), .ref ps, .int (zi ru), .ref pk, .ref pa, .ref pb, .ref pq, .int (zi we), .int (zi wr), .ref pw, .int (zi ty), .ref pt])), (ps, aI cI 10 sf), (pt, aI cI 20 tf)]) [0, 1, 2] (by decide) rfl
            exact ih (zpf (pX5fit tt tf) ty.toNat 0) txt (tt + 1) (by omega) (by first | omega | exact ⟨rfl, rfl⟩) (by omega) (by omega) ls _ _ (lv_sub hl [2, 1, 0, 4, 5] rfl) hP9 hD9 hS
          · skip
            refine lv_iload hx hb dX5_read_68 (lv_at hl 1 rfl) ?_
            refine lv_iload hx hb dX5_read_70 (lv_at hl 3 rfl) ?_
            have hh18 := c_X5_textLength l tt (by omega)
            refine vp_callSi (va_Run.run (va_runS (As := [.int (zi tt)]) (rest := [.int (zi x8)]) ⟨hx, hb, hml, hown, hts⟩ hh18 (va_cwS 1 hts gX5_read_X5_textLength rfl rfl rfl (by decide +kernel) ⟨Nat.le_of_ble_eq_true rfl, Nat.le_of_ble_eq_true rfl⟩) ⟨fun a U g mk q => q, fun U hU hW => ⟨rfl, trivial⟩⟩ rfl rfl hl.1 rfl (lv_room (Nat.le_of_ble_eq_true rfl)) dX5_read_72 ⟨Nat.zero_le _, Nat.zero_le _⟩)) (fun r18 (hr18 : r18 = zi (f_X5_textLength tt)) => ?_)
            subst hr18
            have hf18 := b_X5_textLength tt (by omega)
            refine zw_icmp_ne (tgt := 83) hx hb dX5_read_75 (by decide) ⟨by omega, by omega⟩ ⟨by omega, by omega⟩ (fun h19 => ?_) (fun h19 => ?_)
            · skip
              refine lv_iload_n hx hb dX5_read_83 rfl (lv_at hl 2 rfl) ?_
              refine lv_istore_n (lv' := [(3, .int (zi txt)), (2, .int (zi x8)), (5, .int (zi x8)), (4, .int (zi tt)), (0, .ref g0), (1, .int (zi sl))]) hx hb dX5_read_84 rfl hl (by decide) rfl (fun ls hl => ?_)
              obtain ⟨x20, ex20⟩ : ∃ z : Int, z = tt + 1 := ⟨_, rfl⟩
              refine zw_iinc (lv' := [(4, .int (zi x20)), (3, .int (zi txt)), (2, .int (zi x8)), (5, .int (zi x8)), (0, .ref g0), (1, .int (zi sl))]) (k := 3) hx hb ex20 dX5_read_85 hl rfl (by decide) rfl (fun ls hl => ?_)
              refine lv_goto (tgt := 32) hx hb dX5_read_88 (by decide) ?_
              subst ex8 ex20
              have hP9 := hP.sub (ws' := [(g0, .inr (5, [.int (zi 0), .ref ps, .int (zi ru), .ref pk, .ref pa, .ref pb, .ref pq, .int (zi we), .int (zi wr), .ref pw, .int (zi ty), .ref pt])), (ps, aI cI 10 sf), (pt, aI cI 20 tf)]) [0, 1, 2] rfl
              have hD9 := hD.sub (ws' := [(g0, .inr (5, [.int (zi 0), .ref ps, .int (zi ru), .ref pk, .ref pa, .ref pb, .ref pq, .int (zi we), .int (zi wr), .ref pw, .int (zi ty), .ref pt])), (ps, aI cI 10 sf), (pt, aI cI 20 tf)]) [0, 1, 2] (by decide) rfl
              exact ih (zpf (pX5fit tt tf) ty.toNat 0) txt (tt + 1) (by omega) (by first | omega | exact ⟨rfl, rfl⟩) (by omega) (by omega) ls _ _ (lv_sub hl [2, 1, 0, 4, 5] rfl) hP9 hD9 hS
            · skip
              refine lv_iload hx hb dX5_read_78 (lv_at hl 3 rfl) ?_
              refine lv_goto (tgt := 84) hx hb dX5_read_80 (by decide) ?_
              refine lv_istore_n (lv' := [(3, .int (zi tt)), (2, .int (zi x8)), (5, .int (zi x8)), (4, .int (zi tt)), (0, .ref g0), (1, .int (zi sl))]) hx hb dX5_read_84 rfl hl (by decide) rfl (fun ls hl => ?_)
              obtain ⟨x21, ex21⟩ : ∃ z : Int, z = tt + 1 := ⟨_, rfl⟩
              refine zw_iinc (lv' := [(4, .int (zi x21)), (3, .int (zi tt)), (2, .int (zi x8)), (5, .int (zi x8)), (0, .ref g0), (1, .int (zi sl))]) (k := 3) hx hb ex21 dX5_read_85 hl rfl (by decide) rfl (fun ls hl => ?_)
              refine lv_goto (tgt := 32) hx hb dX5_read_88 (by decide) ?_
              subst ex8 ex21
              have hP9 := hP.sub (ws' := [(g0, .inr (5, [.int (zi 0), .ref ps, .int (zi ru), .ref pk, .ref pa, .ref pb, .ref pq, .int (zi we), .int (zi wr), .ref pw, .int (zi ty), .ref pt])), (ps, aI cI 10 sf), (pt, aI cI 20 tf)]) [0, 1, 2] rfl
              have hD9 := hD.sub (ws' := [(g0, .inr (5, [.int (zi 0), .ref ps, .int (zi ru), .ref pk, .ref pa, .ref pb, .ref pq, .int (zi we), .int (zi wr), .ref pw, .int (zi ty), .ref pt])), (ps, aI cI 10 sf), (pt, aI cI 20 tf)]) [0, 1, 2] (by decide) rfl
              exact ih (zpf (pX5fit tt tf) ty.toNat 0) tt (tt + 1) (by omega) (by first | omega | exact ⟨rfl, rfl⟩) (by omega) (by omega) ls _ _ (lv_sub hl [2, 1, 0, 4, 5] rfl) hP9 hD9 hS
  have hl := lv_entry ([.ref g0, .int (zi sl)]) (n := 6) (Nat.le_of_ble_eq_true rfl)
  rw [lg_entry_eq]
  generalize (lg_sl ([.ref g0, .int (zi sl)]) ++ List.replicate (6 - (lg_sl ([.ref g0, .int (zi sl)])).length) Slot.unset).toArray = ls at hl ⊢
  have hl : lv_has ls 6 [(0, .ref g0), (1, .int (zi sl))] := hl
  refine lv_aload_n hx hb dX5_read_0 rfl (lv_at hl 0 rfl) ?_
  refine lv_iload_n hx hb dX5_read_1 rfl (lv_at hl 1 rfl) ?_
  have hh22 := c_X5_isSlot l sl (by omega)
  refine vp_callSi (va_Run.run (va_runS (As := [.int (zi sl)]) (rest := [.ref g0]) ⟨hx, hb, hml, hown, hts⟩ hh22 (va_cwS 1 hts gX5_read_X5_isSlot rfl rfl rfl (by decide +kernel) ⟨Nat.le_of_ble_eq_true rfl, Nat.le_of_ble_eq_true rfl⟩) ⟨fun a U g mk q => q, fun U hU hW => ⟨rfl, trivial⟩⟩ rfl rfl hl.1 rfl (lv_room (Nat.le_of_ble_eq_true rfl)) dX5_read_2 ⟨Nat.zero_le _, Nat.zero_le _⟩)) (fun r22 (hr22 : r22 = zi (f_X5_isSlot sl)) => ?_)
  subst hr22
  have hf22 := b_X5_isSlot sl (by omega)
  refine zw_if_eq (tgt := 12) hx hb dX5_read_5 (by decide) ⟨by omega, by omega⟩ (fun h23 => ?_) (fun h23 => ?_)
  · skip
    exact absurd True.intro (by omega)
  · skip
    refine zw_iconst hx hb dX5_read_8 ?_
    refine lv_goto (tgt := 13) hx hb dX5_read_9 (by decide) ?_
    refine va_put (D := (dC, dI)) (ci := 5) (v := .int (zi 0)) (ty := .int) (C := RX5) (T := TX5) (N := 12) hx hb hts (by decide +kernel) tyX5 tyX5_ok nmX5 hown hK hP hD hS 0 rfl rfl 0 (by decide) (hts (.fieldLink RX5 35 "CivilDaysModel" "code" "I") (by decide +kernel)) (fun _ h9 => h9) rfl (by decide +kernel) rfl rfl (Nat.le_of_ble_eq_true rfl) dX5_read_13 (fun H locs hP hD hS => ?_)
    have hP : va_P (dC, dI) vwCl [(g0, .inr (5, [.int (zi 0), .ref ps, .int (zi ru), .ref pk, .ref pa, .ref pb, .ref pq, .int (zi we), .int (zi wr), .ref pw, .int (zi ty), .ref pt])), (ps, aI cI 10 sf), (pt, aI cI 20 tf)] H := hP
    have hD : va_D A [(g0, .inr (5, [.int (zi 0), .ref ps, .int (zi ru), .ref pk, .ref pa, .ref pb, .ref pq, .int (zi we), .int (zi wr), .ref pw, .int (zi ty), .ref pt])), (ps, aI cI 10 sf), (pt, aI cI 20 tf)] := hD
    refine lv_aload_n hx hb dX5_read_16 rfl (lv_at hl 0 rfl) ?_
    refine va_get (D := (dC, dI)) (ci := 5) (v := .int (zi 0)) (C := RX5) (T := TX5) (N := 12) hx hb hts (by decide +kernel) hown hK hP 0 rfl rfl 0 (by decide) (hts (.fieldLink RX5 35 "CivilDaysModel" "code" "I") (by decide +kernel)) (fun _ h9 => h9) rfl dX5_read_17 ?_
    refine zw_if_le (tgt := 25) hx hb dX5_read_20 (by decide) ⟨by omega, by omega⟩ (fun h24 => ?_) (fun h24 => ?_)
    · skip
      refine zw_iconst hx hb dX5_read_25 ?_
      refine lv_istore_n (lv' := [(2, .int (zi 0)), (0, .ref g0), (1, .int (zi sl))]) hx hb dX5_read_26 rfl hl (by decide) rfl (fun ls hl => ?_)
      refine zw_iconst hx hb dX5_read_27 ?_
      refine lv_istore_n (lv' := [(3, .int (zi (-1))), (2, .int (zi 0)), (0, .ref g0), (1, .int (zi sl))]) hx hb dX5_read_28 rfl hl (by decide) rfl (fun ls hl => ?_)
      refine zw_iconst hx hb dX5_read_29 ?_
      refine lv_istore (lv' := [(4, .int (zi 0)), (3, .int (zi (-1))), (2, .int (zi 0)), (0, .ref g0), (1, .int (zi sl))]) hx hb dX5_read_30 hl (by decide) rfl (fun ls hl => ?_)
      have hP9 := hP.sub (ws' := [(g0, .inr (5, [.int (zi 0), .ref ps, .int (zi ru), .ref pk, .ref pa, .ref pb, .ref pq, .int (zi we), .int (zi wr), .ref pw, .int (zi ty), .ref pt])), (ps, aI cI 10 sf), (pt, aI cI 20 tf)]) [0, 1, 2] rfl
      have hD9 := hD.sub (ws' := [(g0, .inr (5, [.int (zi 0), .ref ps, .int (zi ru), .ref pk, .ref pa, .ref pb, .ref pq, .int (zi we), .int (zi wr), .ref pw, .int (zi ty), .ref pt])), (ps, aI cI 10 sf), (pt, aI cI 20 tf)]) [0, 1, 2] (by decide) rfl
      exact loop32 (4) 0 (-1) 0 (by omega) (by first | omega | exact ⟨rfl, rfl⟩) (by omega) (by omega) ls _ _ (lv_sub hl [2, 1, 0, 3, 4] rfl) hP9 hD9 hS
    · skip
      exact absurd True.intro (by omega)

set_option maxHeartbeats 4000000 in
set_option maxRecDepth 100000 in
theorem c_X5_read (l : Launch)  (dC : Nat → ClassId) (dI : Nat → Nat → Nat) (cI : ClassId) (g0 : Nat) (ps : Nat) (pk : Nat) (pa : Nat) (pb : Nat) (pq : Nat) (pw : Nat) (pt : Nat) (co : Int) (ru : Int) (we : Int) (wr : Int) (ty : Int) (sf : Nat → Int) (tf : Nat → Int) (sl : Int) (sz : Nat) (hp0 : 0 ≤ sl ∧ sl ≤ 9) (hp1 : 0 ≤ ty ∧ ty ≤ 20) (hp2 : -1 ≤ ztx (bX5 tf ty) lX5 ty 3 ∧ ztx (bX5 tf ty) lX5 ty 3 ≤ 2) (hp3 : ∀ j : Nat, 0 ≤ tf j ∧ tf j ≤ 126) (hp4 : 0 ≤ ztx (bX5 tf ty) lX5 ty 3) (hp5 : 0 ≤ (f_X5_dateOf tf (ztx (bX5 tf ty) lX5 ty 3))) : Met l yX5_read wsX5_read ({ frames := 5, cells := 0, slots := 0, locals := 108 }) (zPw (dC, dI) [(cI, .int)] sz [.ref g0, .int (zi sl)] [(g0, .inr (5, [.int (zi co), .ref ps, .int (zi ru), .ref pk, .ref pa, .ref pb, .ref pq, .int (zi we), .int (zi wr), .ref pw, .int (zi ty), .ref pt])), (ps, aI cI 10 sf), (pt, aI cI 20 tf)]) (va_Qi (fun (r : Int32) (u : (Nat → Int)) => r = zi (ztx (bX5 tf ty) lX5 ty 3) ∧ (u = zup sf sl.toNat (f_X5_dateOf tf (ztx (bX5 tf ty) lX5 ty 3)))) (fun (u : (Nat → Int)) => zB (dC, dI) [(cI, .int)] (va_A [(g0, .inr (5, [.int (zi co), .ref ps, .int (zi ru), .ref pk, .ref pa, .ref pb, .ref pq, .int (zi we), .int (zi wr), .ref pw, .int (zi ty), .ref pt])), (ps, aI cI 10 sf), (pt, aI cI 20 tf)] sz) [(g0, .inr (5, [.int (zi 0), .ref ps, .int (zi ru), .ref pk, .ref pa, .ref pb, .ref pq, .int (zi we), .int (zi wr), .ref pw, .int (zi 0), .ref pt])), (ps, aI cI 10 u), (pt, aI cI 20 tf)] ()) (va_A [(g0, .inr (5, [.int (zi co), .ref ps, .int (zi ru), .ref pk, .ref pa, .ref pb, .ref pq, .int (zi we), .int (zi wr), .ref pw, .int (zi ty), .ref pt])), (ps, aI cI 10 sf), (pt, aI cI 20 tf)] sz)) 0 0 (va_A [(g0, .inr (5, [.int (zi co), .ref ps, .int (zi ru), .ref pk, .ref pa, .ref pb, .ref pq, .int (zi we), .int (zi wr), .ref pw, .int (zi ty), .ref pt])), (ps, aI cI 10 sf), (pt, aI cI 20 tf)] sz) := by
  refine Met.ofW (cc := cX5_read) (maxL := 6) (ret := (some .int)) (by decide) rfl ?_
  intro p e s m args below meth c s₁ B hml hv
  obtain ⟨rfl, hsz, hP, hK, hD0⟩ := hv
  have hx := B.exec
  have hb := B.bytes
  have hr := B.returns
  have hts := atoms_spec (ws := wsX5_read) B.pre
  have hown : s.vm.findClass RX5 = some m.cls := findClass_of_methodNamed B.named
  have hlocks := B.notSynchronized
  subst hsz
  have hD := hD0.self (sz := s.heap.size)
  generalize hAe : va_A [(g0, .inr (5, [.int (zi co), .ref ps, .int (zi ru), .ref pk, .ref pa, .ref pb, .ref pq, .int (zi we), .int (zi wr), .ref pw, .int (zi ty), .ref pt])), (ps, aI cI 10 sf), (pt, aI cI 20 tf)] s.heap.size = A at hD ⊢
  have hA : ∀ q : Nat, s.heap.size ≤ q → A q := fun q h => by rw [← hAe]; exact Or.inr h
  have hS : va_S A s.heap s.heap [] := va_S.rf
  have hP : va_P (dC, dI) vwCl [(g0, .inr (5, [.int (zi co), .ref ps, .int (zi ru), .ref pk, .ref pa, .ref pb, .ref pq, .int (zi we), .int (zi wr), .ref pw, .int (zi ty), .ref pt])), (ps, aI cI 10 sf), (pt, aI cI 20 tf)] s.heap := hP
  have loop32 : ∀ (fu : Nat) (far : Int) (txt : Int) (tt : Int), (0 ≤ tt ∧ tt ≤ 3) → (far = zfa (bX5 tf ty) tt.toNat ∧ txt = ztx (bX5 tf ty) lX5 ty tt.toNat) → (0 ≤ far ∧ far ≤ 20 ∧ -1 ≤ txt ∧ txt < tt) → (3 - tt < fu) → ∀ (ls : Array Slot) (H : Heap) (locs : List Loc), lv_has ls 6 [(2, .int (zi far)), (3, .int (zi txt)), (4, .int (zi tt)), (0, .ref g0), (1, .int (zi sl))] → va_P (dC, dI) vwCl [(g0, .inr (5, [.int (zi 0), .ref ps, .int (zi ru), .ref pk, .ref pa, .ref pb, .ref pq, .int (zi we), .int (zi wr), .ref pw, .int (zi ty), .ref pt])), (ps, aI cI 10 sf), (pt, aI cI 20 tf)] H → va_D A [(g0, .inr (5, [.int (zi 0), .ref ps, .int (zi ru), .ref pk, .ref pa, .ref pb, .ref pq, .int (zi we), .int (zi wr), .ref pw, .int (zi ty), .ref pt])), (ps, aI cI 10 sf), (pt, aI cI 20 tf)] → va_S A s.heap H locs → W p l e (headSpec wsX5_read ({ frames := 5, cells := 0, slots := 0, locals := 108 })).room s m ([.ref g0, .int (zi sl)] : List Value).toArray below meth c H locs 0 0 (MQ below (va_Qi (fun (r : Int32) (u : (Nat → Int)) => r = zi (ztx (bX5 tf ty) lX5 ty 3) ∧ (u = zup sf sl.toNat (f_X5_dateOf tf (ztx (bX5 tf ty) lX5 ty 3)))) (fun (u : (Nat → Int)) => zB (dC, dI) [(cI, .int)] A [(g0, .inr (5, [.int (zi 0), .ref ps, .int (zi ru), .ref pk, .ref pa, .ref pb, .ref pq, .int (zi we), .int (zi wr), .ref pw, .int (zi 0), .ref pt])), (ps, aI cI 10 u), (pt, aI cI 20 tf)] ()) A) ([.ref g0, .int (zi sl)] : List Value).toArray s 0 0 A) (F0 m 32 ls []) := by
    intro fu
    induction fu with
    | zero =>
      intro far txt tt hi0 hi1 hi2 hfu ls H locs hl hP hD hS
      exact absurd hfu (by omega)
    | succ fu ih =>
      intro far txt tt hi0 hi1 hi2 hfu ls H locs hl hP hD hS
      have hP : va_P (dC, dI) vwCl [(g0, .inr (5, [.int (zi 0), .ref ps, .int (zi ru), .ref pk, .ref pa, .ref pb, .ref pq, .int (zi we), .int (zi wr), .ref pw, .int (zi ty), .ref pt])), (ps, aI cI 10 sf), (pt, aI cI 20 tf)] H := hP
      have hD : va_D A [(g0, .inr (5, [.int (zi 0), .ref ps, .int (zi ru), .ref pk, .ref pa, .ref pb, .ref pq, .int (zi we), .int (zi wr), .ref pw, .int (zi ty), .ref pt])), (ps, aI cI 10 sf), (pt, aI cI 20 tf)] := hD
      refine lv_iload hx hb dX5_read_32 (lv_at hl 2 rfl) ?_
      refine zw_iconst hx hb dX5_read_34 ?_
      refine zw_icmp_ge (tgt := 91) hx hb dX5_read_35 (by decide) ⟨by omega, by omega⟩ ⟨by omega, by omega⟩ (fun h1 => ?_) (fun h1 => ?_)
      · skip
        have htt3 : tt = 3 := by omega
        subst htt3
        replace hi1 : far = zfa (bX5 tf ty) 3 ∧ txt = ztx (bX5 tf ty) lX5 ty 3 := hi1
        have hdt : f_X5_dateOf tf txt = f_X5_dateOf tf (ztx (bX5 tf ty) lX5 ty 3) := by rw [hi1.2]
        refine lv_iload_n hx hb dX5_read_91 rfl (lv_at hl 1 rfl) ?_
        refine zw_if_ge (tgt := 99) hx hb dX5_read_92 (by decide) ⟨by omega, by omega⟩ (fun h2 => ?_) (fun h2 => ?_)
        · skip
          refine lv_aload_n hx hb dX5_read_99 rfl (lv_at hl 3 rfl) ?_
          refine lv_iload_n hx hb dX5_read_100 rfl (lv_at hl 1 rfl) ?_
          have hh3 := c_X5_dateOf l dC dI cI g0 ps pk pa pb pq pw pt 0 ru we wr ty tf txt (by omega) (by first | exact htt | exact hp3)
          have hPc := hP.sub (ws' := [(g0, .inr (5, [.int (zi 0), .ref ps, .int (zi ru), .ref pk, .ref pa, .ref pb, .ref pq, .int (zi we), .int (zi wr), .ref pw, .int (zi ty), .ref pt])), (pt, aI cI 20 tf)]) [0, 2] rfl
          have hKc : va_K (dC, dI) vwCl [(cI, .int)] s := hK
          refine vp_callSi (va_Run.run (va_runV (As := [.int (zi txt)]) (rest := []) ⟨hx, hb, hml, hown, hts⟩ hh3 (cwV 1 hts gX5_read_X5_dateOf rfl rfl rfl (by decide +kernel) ⟨Nat.le_of_ble_eq_true rfl, Nat.le_of_ble_eq_true rfl⟩) ⟨zPr.blind _ _ _ _, va_recv hKc hPc (ci := 5) (q0 := 0) rfl rfl, fun U hU hW => ⟨rfl, by rw [hU]; exact hPc, va_K.moved hW.alike hKc⟩⟩ rfl rfl hl.1 rfl (lv_room (Nat.le_of_ble_eq_true rfl)) dX5_read_101 ⟨Nat.le_of_ble_eq_true rfl, Nat.le_of_ble_eq_true rfl⟩)) (fun r3 (hr3 : r3 = zi (f_X5_dateOf tf txt)) => ?_)
          subst hr3
          have hf3_0 := b_X5_dateOf tf txt (by omega) (by first | exact htt | exact hp3)
          refine zw_top (fun x4 ex4 => ?_)
          refine lv_istore (lv' := [(4, .int (zi x4)), (2, .int (zi far)), (3, .int (zi txt)), (0, .ref g0), (1, .int (zi sl))]) hx hb dX5_read_104 hl (by decide) rfl (fun ls hl => ?_)
          refine lv_aload_n hx hb dX5_read_106 rfl (lv_at hl 3 rfl) ?_
          refine zw_iconst hx hb dX5_read_107 ?_
          refine va_put (D := (dC, dI)) (ci := 5) (v := .int (zi 0)) (ty := .int) (C := RX5) (T := TX5) (N := 12) hx hb hts (by decide +kernel) tyX5 tyX5_ok nmX5 hown hK hP hD hS 0 rfl rfl 10 (by decide) (hts (.fieldLink RX5 145 "CivilDaysModel" "typed" "I") (by decide +kernel)) (fun _ h9 => h9) rfl (by decide +kernel) rfl rfl (Nat.le_of_ble_eq_true rfl) dX5_read_108 (fun H locs hP hD hS => ?_)
          have hP : va_P (dC, dI) vwCl [(g0, .inr (5, [.int (zi 0), .ref ps, .int (zi ru), .ref pk, .ref pa, .ref pb, .ref pq, .int (zi we), .int (zi wr), .ref pw, .int (zi 0), .ref pt])), (ps, aI cI 10 sf), (pt, aI cI 20 tf)] H := hP
          have hD : va_D A [(g0, .inr (5, [.int (zi 0), .ref ps, .int (zi ru), .ref pk, .ref pa, .ref pb, .ref pq, .int (zi we), .int (zi wr), .ref pw, .int (zi 0), .ref pt])), (ps, aI cI 10 sf), (pt, aI cI 20 tf)] := hD
          refine lv_iload_n hx hb dX5_read_111 rfl (lv_at hl 2 rfl) ?_
          refine zw_if_ge (tgt := 119) hx hb dX5_read_112 (by decide) ⟨by omega, by omega⟩ (fun h5 => ?_) (fun h5 => ?_)
          · skip
            refine lv_iload hx hb dX5_read_119 (lv_at hl 0 rfl) ?_
            refine zw_if_ge (tgt := 127) hx hb dX5_read_121 (by decide) ⟨by omega, by omega⟩ (fun h6 => ?_) (fun h6 => ?_)
            · skip
              refine lv_aload_n hx hb dX5_read_127 rfl (lv_at hl 3 rfl) ?_
              refine va_get (D := (dC, dI)) (ci := 5) (v := .ref ps) (C := RX5) (T := TX5) (N := 12) hx hb hts (by decide +kernel) hown hK hP 0 rfl rfl 1 (by decide) (hts (.fieldLink RX5 7 "CivilDaysModel" "slots" "[I") (by decide +kernel)) (fun _ h9 => h9) rfl dX5_read_128 ?_
              refine lv_iload_n hx hb dX5_read_131 rfl (lv_at hl 4 rfl) ?_
              refine lv_iload hx hb dX5_read_132 (lv_at hl 0 rfl) ?_
              refine zw_iast hx hb hK hP hD hS 1 0 rfl rfl (by omega) (by omega) ⟨by omega, by omega⟩ dX5_read_134 (fun H locs hP hD hS => ?_)
              have hP : va_P (dC, dI) vwCl [(g0, .inr (5, [.int (zi 0), .ref ps, .int (zi ru), .ref pk, .ref pa, .ref pb, .ref pq, .int (zi we), .int (zi wr), .ref pw, .int (zi 0), .ref pt])), (ps, aI cI 10 (zup sf sl.toNat x4)), (pt, aI cI 20 tf)] H := hP
              have hD : va_D A [(g0, .inr (5, [.int (zi 0), .ref ps, .int (zi ru), .ref pk, .ref pa, .ref pb, .ref pq, .int (zi we), .int (zi wr), .ref pw, .int (zi 0), .ref pt])), (ps, aI cI 10 (zup sf sl.toNat x4)), (pt, aI cI 20 tf)] := hD
              refine lv_iload_n hx hb dX5_read_135 rfl (lv_at hl 2 rfl) ?_
              subst ex4
              have hP9 := hP.sub (ws' := [(g0, .inr (5, [.int (zi 0), .ref ps, .int (zi ru), .ref pk, .ref pa, .ref pb, .ref pq, .int (zi we), .int (zi wr), .ref pw, .int (zi 0), .ref pt])), (ps, aI cI 10 (zup sf sl.toNat (f_X5_dateOf tf txt))), (pt, aI cI 20 tf)]) [0, 1, 2] rfl
              have hD9 := hD.sub (ws' := [(g0, .inr (5, [.int (zi 0), .ref ps, .int (zi ru), .ref pk, .ref pa, .ref pb, .ref pq, .int (zi we), .int (zi wr), .ref pw, .int (zi 0), .ref pt])), (ps, aI cI 10 (zup sf sl.toNat (f_X5_dateOf tf txt))), (pt, aI cI 20 tf)]) [0, 1, 2] (by decide) rfl
              have hp9 : (zup sf sl.toNat (f_X5_dateOf tf txt)) = zup sf sl.toNat (f_X5_dateOf tf (ztx (bX5 tf ty) lX5 ty 3)) := by
                rw [hi1.2]
              exact W.iret (v := zi txt) hx hb hr (fun t ht hW => ⟨⟨zi txt, (zup sf sl.toNat (f_X5_dateOf tf txt)), rfl, ⟨congrArg zi (by omega), hp9⟩, by rw [ht]; exact hP9, va_K.moved hW.alike hK, hD9⟩, hS.F ht⟩) hS.2.2 dX5_read_136
            · skip
              exact absurd True.intro (by omega)
          · skip
            exact absurd True.intro (by omega)
        · skip
          exact absurd True.intro (by omega)
      · skip
        have hs1 := zfa_s (bX5 tf ty) tt (by omega)
        have hs2 := ztx_s (bX5 tf ty) lX5 ty tt (by omega)
        have hs3 := bX5_e tf ty tt (by omega)
        have hs4 := lX5_e tt (by omega)
        have hs5 := b_X5_textLength tt (by omega)
        refine lv_aload_n hx hb dX5_read_38 rfl (lv_at hl 3 rfl) ?_
        refine lv_iload hx hb dX5_read_39 (lv_at hl 2 rfl) ?_
        have hh7 := c_X5_begins l dC dI cI g0 ps pk pa pb pq pw pt 0 ru we wr ty tf tt (by omega) (by omega) (by first | exact htt | exact hp3)
        have hPc := hP.sub (ws' := [(g0, .inr (5, [.int (zi 0), .ref ps, .int (zi ru), .ref pk, .ref pa, .ref pb, .ref pq, .int (zi we), .int (zi wr), .ref pw, .int (zi ty), .ref pt])), (pt, aI cI 20 tf)]) [0, 2] rfl
        have hKc : va_K (dC, dI) vwCl [(cI, .int)] s := hK
        refine vp_callSi (va_Run.run (va_runV (As := [.int (zi tt)]) (rest := []) ⟨hx, hb, hml, hown, hts⟩ hh7 (cwV 1 hts gX5_read_X5_begins rfl rfl rfl (by decide +kernel) ⟨Nat.le_of_ble_eq_true rfl, Nat.le_of_ble_eq_true rfl⟩) ⟨zPr.blind _ _ _ _, va_recv hKc hPc (ci := 5) (q0 := 0) rfl rfl, fun U hU hW => ⟨rfl, by rw [hU]; exact hPc, va_K.moved hW.alike hKc⟩⟩ rfl rfl hl.1 rfl (lv_room (Nat.le_of_ble_eq_true rfl)) dX5_read_41 ⟨Nat.le_of_ble_eq_true rfl, Nat.le_of_ble_eq_true rfl⟩)) (fun r7 (hr7 : r7 = zi (zpf (pX5fit tt tf) ty.toNat 0)) => ?_)
        subst hr7
        have hf7_0 := zpf_b (pX5fit tt tf) ty.toNat 0
        refine zw_top (fun x8 ex8 => ?_)
        refine lv_istore (lv' := [(5, .int (zi x8)), (2, .int (zi far)), (3, .int (zi txt)), (4, .int (zi tt)), (0, .ref g0), (1, .int (zi sl))]) hx hb dX5_read_44 hl (by decide) rfl (fun ls hl => ?_)
        refine lv_iload hx hb dX5_read_46 (lv_at hl 0 rfl) ?_
        refine lv_iload_n hx hb dX5_read_48 rfl (lv_at hl 1 rfl) ?_
        refine zw_icmp_le (tgt := 57) hx hb dX5_read_49 (by decide) ⟨by omega, by omega⟩ ⟨by omega, by omega⟩ (fun h9 => ?_) (fun h9 => ?_)
        · skip
          refine lv_iload_n hx hb dX5_read_57 rfl (lv_at hl 1 rfl) ?_
          refine lv_istore_n (lv' := [(2, .int (zi far)), (5, .int (zi x8)), (3, .int (zi txt)), (4, .int (zi tt)), (0, .ref g0), (1, .int (zi sl))]) hx hb dX5_read_58 rfl hl (by decide) rfl (fun ls hl => ?_)
          refine lv_iload hx hb dX5_read_59 (lv_at hl 1 rfl) ?_
          refine lv_aload_n hx hb dX5_read_61 rfl (lv_at hl 4 rfl) ?_
          refine va_get (D := (dC, dI)) (ci := 5) (v := .int (zi ty)) (C := RX5) (T := TX5) (N := 12) hx hb hts (by decide +kernel) hown hK hP 0 rfl rfl 10 (by decide) (hts (.fieldLink RX5 145 "CivilDaysModel" "typed" "I") (by decide +kernel)) (fun _ h9 => h9) rfl dX5_read_62 ?_
          refine zw_icmp_ne (tgt := 83) hx hb dX5_read_65 (by decide) ⟨by omega, by omega⟩ ⟨by omega, by omega⟩ (fun h10 => ?_) (fun h10 => ?_)
          · skip
            refine lv_iload_n hx hb dX5_read_83 rfl (lv_at hl 2 rfl) ?_
            refine lv_istore_n (lv' := [(3, .int (zi txt)), (2, .int (zi far)), (5, .int (zi x8)), (4, .int (zi tt)), (0, .ref g0), (1, .int (zi sl))]) hx hb dX5_read_84 rfl hl (by decide) rfl (fun ls hl => ?_)
            obtain ⟨x11, ex11⟩ : ∃ z : Int, z = tt + 1 := ⟨_, rfl⟩
            refine zw_iinc (lv' := [(4, .int (zi x11)), (3, .int (zi txt)), (2, .int (zi far)), (5, .int (zi x8)), (0, .ref g0), (1, .int (zi sl))]) (k := 3) hx hb ex11 dX5_read_85 hl rfl (by decide) rfl (fun ls hl => ?_)
            refine lv_goto (tgt := 32) hx hb dX5_read_88 (by decide) ?_
            subst ex8 ex11
            have hP9 := hP.sub (ws' := [(g0, .inr (5, [.int (zi 0), .ref ps, .int (zi ru), .ref pk, .ref pa, .ref pb, .ref pq, .int (zi we), .int (zi wr), .ref pw, .int (zi ty), .ref pt])), (ps, aI cI 10 sf), (pt, aI cI 20 tf)]) [0, 1, 2] rfl
            have hD9 := hD.sub (ws' := [(g0, .inr (5, [.int (zi 0), .ref ps, .int (zi ru), .ref pk, .ref pa, .ref pb, .ref pq, .int (zi we), .int (zi wr), .ref pw, .int (zi ty), .ref pt])), (ps, aI cI 10 sf), (pt, aI cI 20 tf)]) [0, 1, 2] (by decide) rfl
            exact ih far txt (tt + 1) (by omega) (by first | omega | exact ⟨rfl, rfl⟩) (by omega) (by omega) ls _ _ (lv_sub hl [2, 1, 0, 4, 5] rfl) hP9 hD9 hS
          · skip
            refine lv_iload hx hb dX5_read_68 (lv_at hl 1 rfl) ?_
            refine lv_iload hx hb dX5_read_70 (lv_at hl 3 rfl) ?_
            have hh12 := c_X5_textLength l tt (by omega)
            refine vp_callSi (va_Run.run (va_runS (As := [.int (zi tt)]) (rest := [.int (zi x8)]) ⟨hx, hb, hml, hown, hts⟩ hh12 (va_cwS 1 hts gX5_read_X5_textLength rfl rfl rfl (by decide +kernel) ⟨Nat.le_of_ble_eq_true rfl, Nat.le_of_ble_eq_true rfl⟩) ⟨fun a U g mk q => q, fun U hU hW => ⟨rfl, trivial⟩⟩ rfl rfl hl.1 rfl (lv_room (Nat.le_of_ble_eq_true rfl)) dX5_read_72 ⟨Nat.zero_le _, Nat.zero_le _⟩)) (fun r12 (hr12 : r12 = zi (f_X5_textLength tt)) => ?_)
            subst hr12
            have hf12 := b_X5_textLength tt (by omega)
            refine zw_icmp_ne (tgt := 83) hx hb dX5_read_75 (by decide) ⟨by omega, by omega⟩ ⟨by omega, by omega⟩ (fun h13 => ?_) (fun h13 => ?_)
            · skip
              refine lv_iload_n hx hb dX5_read_83 rfl (lv_at hl 2 rfl) ?_
              refine lv_istore_n (lv' := [(3, .int (zi txt)), (2, .int (zi far)), (5, .int (zi x8)), (4, .int (zi tt)), (0, .ref g0), (1, .int (zi sl))]) hx hb dX5_read_84 rfl hl (by decide) rfl (fun ls hl => ?_)
              obtain ⟨x14, ex14⟩ : ∃ z : Int, z = tt + 1 := ⟨_, rfl⟩
              refine zw_iinc (lv' := [(4, .int (zi x14)), (3, .int (zi txt)), (2, .int (zi far)), (5, .int (zi x8)), (0, .ref g0), (1, .int (zi sl))]) (k := 3) hx hb ex14 dX5_read_85 hl rfl (by decide) rfl (fun ls hl => ?_)
              refine lv_goto (tgt := 32) hx hb dX5_read_88 (by decide) ?_
              subst ex8 ex14
              have hP9 := hP.sub (ws' := [(g0, .inr (5, [.int (zi 0), .ref ps, .int (zi ru), .ref pk, .ref pa, .ref pb, .ref pq, .int (zi we), .int (zi wr), .ref pw, .int (zi ty), .ref pt])), (ps, aI cI 10 sf), (pt, aI cI 20 tf)]) [0, 1, 2] rfl
              have hD9 := hD.sub (ws' := [(g0, .inr (5, [.int (zi 0), .ref ps, .int (zi ru), .ref pk, .ref pa, .ref pb, .ref pq, .int (zi we), .int (zi wr), .ref pw, .int (zi ty), .ref pt])), (ps, aI cI 10 sf), (pt, aI cI 20 tf)]) [0, 1, 2] (by decide) rfl
              exact ih far txt (tt + 1) (by omega) (by first | omega | exact ⟨rfl, rfl⟩) (by omega) (by omega) ls _ _ (lv_sub hl [2, 1, 0, 4, 5] rfl) hP9 hD9 hS
            · skip
              refine lv_iload hx hb dX5_read_78 (lv_at hl 3 rfl) ?_
              refine lv_goto (tgt := 84) hx hb dX5_read_80 (by decide) ?_
              refine lv_istore_n (lv' := [(3, .int (zi tt)), (2, .int (zi far)), (5, .int (zi x8)), (4, .int (zi tt)), (0, .ref g0), (1, .int (zi sl))]) hx hb dX5_read_84 rfl hl (by decide) rfl (fun ls hl => ?_)
              obtain ⟨x15, ex15⟩ : ∃ z : Int, z = tt + 1 := ⟨_, rfl⟩
              refine zw_iinc (lv' := [(4, .int (zi x15)), (3, .int (zi tt)), (2, .int (zi far)), (5, .int (zi x8)), (0, .ref g0), (1, .int (zi sl))]) (k := 3) hx hb ex15 dX5_read_85 hl rfl (by decide) rfl (fun ls hl => ?_)
              refine lv_goto (tgt := 32) hx hb dX5_read_88 (by decide) ?_
              subst ex8 ex15
              have hP9 := hP.sub (ws' := [(g0, .inr (5, [.int (zi 0), .ref ps, .int (zi ru), .ref pk, .ref pa, .ref pb, .ref pq, .int (zi we), .int (zi wr), .ref pw, .int (zi ty), .ref pt])), (ps, aI cI 10 sf), (pt, aI cI 20 tf)]) [0, 1, 2] rfl
              have hD9 := hD.sub (ws' := [(g0, .inr (5, [.int (zi 0), .ref ps, .int (zi ru), .ref pk, .ref pa, .ref pb, .ref pq, .int (zi we), .int (zi wr), .ref pw, .int (zi ty), .ref pt])), (ps, aI cI 10 sf), (pt, aI cI 20 tf)]) [0, 1, 2] (by decide) rfl
              exact ih far tt (tt + 1) (by omega) (by first | omega | exact ⟨rfl, rfl⟩) (by omega) (by omega) ls _ _ (lv_sub hl [2, 1, 0, 4, 5] rfl) hP9 hD9 hS
        · skip
          refine lv_iload hx hb dX5_read_52 (lv_at hl 0 rfl) ?_
          refine lv_goto (tgt := 58) hx hb dX5_read_54 (by decide) ?_
          refine lv_istore_n (lv' := [(2, .int (zi x8)), (5, .int (zi x8)), (3, .int (zi txt)), (4, .int (zi tt)), (0, .ref g0), (1, .int (zi sl))]) hx hb dX5_read_58 rfl hl (by decide) rfl (fun ls hl => ?_)
          refine lv_iload hx hb dX5_read_59 (lv_at hl 1 rfl) ?_
          refine lv_aload_n hx hb dX5_read_61 rfl (lv_at hl 4 rfl) ?_
          refine va_get (D := (dC, dI)) (ci := 5) (v := .int (zi ty)) (C := RX5) (T := TX5) (N := 12) hx hb hts (by decide +kernel) hown hK hP 0 rfl rfl 10 (by decide) (hts (.fieldLink RX5 145 "CivilDaysModel" "typed" "I") (by decide +kernel)) (fun _ h9 => h9) rfl dX5_read_62 ?_
          refine zw_icmp_ne (tgt := 83) hx hb dX5_read_65 (by decide) ⟨by omega, by omega⟩ ⟨by omega, by omega⟩ (fun h16 => ?_) (fun h16 => ?_)
          · skip
            refine lv_iload_n hx hb dX5_read_83 rfl (lv_at hl 2 rfl) ?_
            refine lv_istore_n (lv' := [(3, .int (zi txt)), (2, .int (zi x8)), (5, .int (zi x8)), (4, .int (zi tt)), (0, .ref g0), (1, .int (zi sl))]) hx hb dX5_read_84 rfl hl (by decide) rfl (fun ls hl => ?_)
            obtain ⟨x17, ex17⟩ : ∃ z : Int, z = tt + 1 := ⟨_, rfl⟩
            refine zw_iinc (lv' := [(4, .int (zi x17)), (3, .int (zi txt)), (2, .int (zi x8)), (5, .int (zi x8)), (0, .ref g0), (1, .int (zi sl))]) (k := 3) hx hb ex17 dX5_read_85 hl rfl (by decide) rfl (fun ls hl => ?_)
            refine lv_goto (tgt := 32) hx hb dX5_read_88 (by decide) ?_
            subst ex8 ex17
            have hP9 := hP.sub (ws' := [(g0, .inr (5, [.int (zi 0), .ref ps, .int (zi ru), .ref pk, .ref pa, .ref pb, .ref pq, .int (zi we), .int (zi wr), .ref pw, .int (zi ty), .ref pt])), (ps, aI cI 10 sf), (pt, aI cI 20 tf)]) [0, 1, 2] rfl
            have hD9 := hD.sub (ws' := [(g0, .inr (5, [.int (zi 0), .ref ps, .int (zi ru), .ref pk, .ref pa, .ref pb, .ref pq, .int (zi we), .int (zi wr), .ref pw, .int (zi ty), .ref pt])), (ps, aI cI 10 sf), (pt, aI cI 20 tf)]) [0, 1, 2] (by decide) rfl
            exact ih (zpf (pX5fit tt tf) ty.toNat 0) txt (tt + 1) (by omega) (by first | omega | exact ⟨rfl, rfl⟩) (by omega) (by omega) ls _ _ (lv_sub hl [2, 1, 0, 4, 5] rfl) hP9 hD9 hS
          · skip
            refine lv_iload hx hb dX5_read_68 (lv_at hl 1 rfl) ?_
            refine lv_iload hx hb dX5_read_70 (lv_at hl 3 rfl) ?_
            have hh18 := c_X5_textLength l tt (by omega)
            refine vp_callSi (va_Run.run (va_runS (As := [.int (zi tt)]) (rest := [.int (zi x8)]) ⟨hx, hb, hml, hown, hts⟩ hh18 (va_cwS 1 hts gX5_read_X5_textLength rfl rfl rfl (by decide +kernel) ⟨Nat.le_of_ble_eq_true rfl, Nat.le_of_ble_eq_true rfl⟩) ⟨fun a U g mk q => q, fun U hU hW => ⟨rfl, trivial⟩⟩ rfl rfl hl.1 rfl (lv_room (Nat.le_of_ble_eq_true rfl)) dX5_read_72 ⟨Nat.zero_le _, Nat.zero_le _⟩)) (fun r18 (hr18 : r18 = zi (f_X5_textLength tt)) => ?_)
            subst hr18
            have hf18 := b_X5_textLength tt (by omega)
            refine zw_icmp_ne (tgt := 83) hx hb dX5_read_75 (by decide) ⟨by omega, by omega⟩ ⟨by omega, by omega⟩ (fun h19 => ?_) (fun h19 => ?_)
            · skip
              refine lv_iload_n hx hb dX5_read_83 rfl (lv_at hl 2 rfl) ?_
              refine lv_istore_n (lv' := [(3, .int (zi txt)), (2, .int (zi x8)), (5, .int (zi x8)), (4, .int (zi tt)), (0, .ref g0), (1, .int (zi sl))]) hx hb dX5_read_84 rfl hl (by decide) rfl (fun ls hl => ?_)
              obtain ⟨x20, ex20⟩ : ∃ z : Int, z = tt + 1 := ⟨_, rfl⟩
              refine zw_iinc (lv' := [(4, .int (zi x20)), (3, .int (zi txt)), (2, .int (zi x8)), (5, .int (zi x8)), (0, .ref g0), (1, .int (zi sl))]) (k := 3) hx hb ex20 dX5_read_85 hl rfl (by decide) rfl (fun ls hl => ?_)
              refine lv_goto (tgt := 32) hx hb dX5_read_88 (by decide) ?_
              subst ex8 ex20
              have hP9 := hP.sub (ws' := [(g0, .inr (5, [.int (zi 0), .ref ps, .int (zi ru), .ref pk, .ref pa, .ref pb, .ref pq, .int (zi we), .int (zi wr), .ref pw, .int (zi ty), .ref pt])), (ps, aI cI 10 sf), (pt, aI cI 20 tf)]) [0, 1, 2] rfl
              have hD9 := hD.sub (ws' := [(g0, .inr (5, [.int (zi 0), .ref ps, .int (zi ru), .ref pk, .ref pa, .ref pb, .ref pq, .int (zi we), .int (zi wr), .ref pw, .int (zi ty), .ref pt])), (ps, aI cI 10 sf), (pt, aI cI 20 tf)]) [0, 1, 2] (by decide) rfl
              exact ih (zpf (pX5fit tt tf) ty.toNat 0) txt (tt + 1) (by omega) (by first | omega | exact ⟨rfl, rfl⟩) (by omega) (by omega) ls _ _ (lv_sub hl [2, 1, 0, 4, 5] rfl) hP9 hD9 hS
            · skip
              refine lv_iload hx hb dX5_read_78 (lv_at hl 3 rfl) ?_
              refine lv_goto (tgt := 84) hx hb dX5_read_80 (by decide) ?_
              refine lv_istore_n (lv' := [(3, .int (zi tt)), (2, .int (zi x8)), (5, .int (zi x8)), (4, .int (zi tt)), (0, .ref g0), (1, .int (zi sl))]) hx hb dX5_read_84 rfl hl (by decide) rfl (fun ls hl => ?_)
              obtain ⟨x21, ex21⟩ : ∃ z : Int, z = tt + 1 := ⟨_, rfl⟩
              refine zw_iinc (lv' := [(4, .int (zi x21)), (3, .int (zi tt)), (2, .int (zi x8)), (5, .int (zi x8)), (0, .ref g0), (1, .int (zi sl))]) (k := 3) hx hb ex21 dX5_read_85 hl rfl (by decide) rfl (fun ls hl => ?_)
              refine lv_goto (tgt := 32) hx hb dX5_read_88 (by decide) ?_
              subst ex8 ex21
              have hP9 := hP.sub (ws' := [(g0, .inr (5, [.int (zi 0), .ref ps, .int (zi ru), .ref pk, .ref pa, .ref pb, .ref pq, .int (zi we), .int (zi wr), .ref pw, .int (zi ty), .ref pt])), (ps, aI cI 10 sf), (pt, aI cI 20 tf)]) [0, 1, 2] rfl
              have hD9 := hD.sub (ws' := [(g0, .inr (5, [.int (zi 0), .ref ps, .int (zi ru), .ref pk, .ref pa, .ref pb, .ref pq, .int (zi we), .int (zi wr), .ref pw, .int (zi ty), .ref pt])), (ps, aI cI 10 sf), (pt, aI cI 20 tf)]) [0, 1, 2] (by decide) rfl
              exact ih (zpf (pX5fit tt tf) ty.toNat 0) tt (tt + 1) (by omega) (by first | omega | exact ⟨rfl, rfl⟩) (by omega) (by omega) ls _ _ (lv_sub hl [2, 1, 0, 4, 5] rfl) hP9 hD9 hS
  have hl := lv_entry ([.ref g0, .int (zi sl)]) (n := 6) (Nat.le_of_ble_eq_true rfl)
  rw [lg_entry_eq]
  generalize (lg_sl ([.ref g0, .int (zi sl)]) ++ List.replicate (6 - (lg_sl ([.ref g0, .int (zi sl)])).length) Slot.unset).toArray = ls at hl ⊢
  have hl : lv_has ls 6 [(0, .ref g0), (1, .int (zi sl))] := hl
  refine lv_aload_n hx hb dX5_read_0 rfl (lv_at hl 0 rfl) ?_
  refine lv_iload_n hx hb dX5_read_1 rfl (lv_at hl 1 rfl) ?_
  have hh22 := c_X5_isSlot l sl (by omega)
  refine vp_callSi (va_Run.run (va_runS (As := [.int (zi sl)]) (rest := [.ref g0]) ⟨hx, hb, hml, hown, hts⟩ hh22 (va_cwS 1 hts gX5_read_X5_isSlot rfl rfl rfl (by decide +kernel) ⟨Nat.le_of_ble_eq_true rfl, Nat.le_of_ble_eq_true rfl⟩) ⟨fun a U g mk q => q, fun U hU hW => ⟨rfl, trivial⟩⟩ rfl rfl hl.1 rfl (lv_room (Nat.le_of_ble_eq_true rfl)) dX5_read_2 ⟨Nat.zero_le _, Nat.zero_le _⟩)) (fun r22 (hr22 : r22 = zi (f_X5_isSlot sl)) => ?_)
  subst hr22
  have hf22 := b_X5_isSlot sl (by omega)
  refine zw_if_eq (tgt := 12) hx hb dX5_read_5 (by decide) ⟨by omega, by omega⟩ (fun h23 => ?_) (fun h23 => ?_)
  · skip
    exact absurd True.intro (by omega)
  · skip
    refine zw_iconst hx hb dX5_read_8 ?_
    refine lv_goto (tgt := 13) hx hb dX5_read_9 (by decide) ?_
    refine va_put (D := (dC, dI)) (ci := 5) (v := .int (zi 0)) (ty := .int) (C := RX5) (T := TX5) (N := 12) hx hb hts (by decide +kernel) tyX5 tyX5_ok nmX5 hown hK hP hD hS 0 rfl rfl 0 (by decide) (hts (.fieldLink RX5 35 "CivilDaysModel" "code" "I") (by decide +kernel)) (fun _ h9 => h9) rfl (by decide +kernel) rfl rfl (Nat.le_of_ble_eq_true rfl) dX5_read_13 (fun H locs hP hD hS => ?_)
    have hP : va_P (dC, dI) vwCl [(g0, .inr (5, [.int (zi 0), .ref ps, .int (zi ru), .ref pk, .ref pa, .ref pb, .ref pq, .int (zi we), .int (zi wr), .ref pw, .int (zi ty), .ref pt])), (ps, aI cI 10 sf), (pt, aI cI 20 tf)] H := hP
    have hD : va_D A [(g0, .inr (5, [.int (zi 0), .ref ps, .int (zi ru), .ref pk, .ref pa, .ref pb, .ref pq, .int (zi we), .int (zi wr), .ref pw, .int (zi ty), .ref pt])), (ps, aI cI 10 sf), (pt, aI cI 20 tf)] := hD
    refine lv_aload_n hx hb dX5_read_16 rfl (lv_at hl 0 rfl) ?_
    refine va_get (D := (dC, dI)) (ci := 5) (v := .int (zi 0)) (C := RX5) (T := TX5) (N := 12) hx hb hts (by decide +kernel) hown hK hP 0 rfl rfl 0 (by decide) (hts (.fieldLink RX5 35 "CivilDaysModel" "code" "I") (by decide +kernel)) (fun _ h9 => h9) rfl dX5_read_17 ?_
    refine zw_if_le (tgt := 25) hx hb dX5_read_20 (by decide) ⟨by omega, by omega⟩ (fun h24 => ?_) (fun h24 => ?_)
    · skip
      refine zw_iconst hx hb dX5_read_25 ?_
      refine lv_istore_n (lv' := [(2, .int (zi 0)), (0, .ref g0), (1, .int (zi sl))]) hx hb dX5_read_26 rfl hl (by decide) rfl (fun ls hl => ?_)
      refine zw_iconst hx hb dX5_read_27 ?_
      refine lv_istore_n (lv' := [(3, .int (zi (-1))), (2, .int (zi 0)), (0, .ref g0), (1, .int (zi sl))]) hx hb dX5_read_28 rfl hl (by decide) rfl (fun ls hl => ?_)
      refine zw_iconst hx hb dX5_read_29 ?_
      refine lv_istore (lv' := [(4, .int (zi 0)), (3, .int (zi (-1))), (2, .int (zi 0)), (0, .ref g0), (1, .int (zi sl))]) hx hb dX5_read_30 hl (by decide) rfl (fun ls hl => ?_)
      have hP9 := hP.sub (ws' := [(g0, .inr (5, [.int (zi 0), .ref ps, .int (zi ru), .ref pk, .ref pa, .ref pb, .ref pq, .int (zi we), .int (zi wr), .ref pw, .int (zi ty), .ref pt])), (ps, aI cI 10 sf), (pt, aI cI 20 tf)]) [0, 1, 2] rfl
      have hD9 := hD.sub (ws' := [(g0, .inr (5, [.int (zi 0), .ref ps, .int (zi ru), .ref pk, .ref pa, .ref pb, .ref pq, .int (zi we), .int (zi wr), .ref pw, .int (zi ty), .ref pt])), (ps, aI cI 10 sf), (pt, aI cI 20 tf)]) [0, 1, 2] (by decide) rfl
      exact loop32 (4) 0 (-1) 0 (by omega) (by first | omega | exact ⟨rfl, rfl⟩) (by omega) (by omega) ls _ _ (lv_sub hl [2, 1, 0, 3, 4] rfl) hP9 hD9 hS
    · skip
      exact absurd True.intro (by omega)
