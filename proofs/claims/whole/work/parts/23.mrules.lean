/-! THE REFERENCE'S RULES AND WORKING DAYS -/
def f_X5_dayOfRule (kd : Int) (ad : Int) (bd : Int) (cd : Int) (ya : Int) : Int :=
  if (f_X5_in ya 1 9999) = 0 then (-1000)
  else if kd = 1 then (if ya < 1583 then (-1000)
    else ((f_X5_easterOf ya) + ad))
  else if kd = 2 then (f_X5_nthOf ya ad bd cd)
  else if (f_X5_isDate ya ad bd) = 0 then (-1000)
  else if kd = 0 then (f_X5_numberOf ya ad bd)
  else if (f_X5_weekdayOf (f_X5_numberOf ya ad bd)) = 6 then ((f_X5_numberOf ya ad bd) - 1)
  else if (f_X5_weekdayOf (f_X5_numberOf ya ad bd)) = 7 then ((f_X5_numberOf ya ad bd) + 1)
  else (f_X5_numberOf ya ad bd)
theorem b_X5_dayOfRule (kd ad bd cd ya : Int) (h1 : -2147483648 ≤ ya ∧ ya ≤ 2147483647) (h2 : (0 ≤ kd ∧ kd ≤ 3) ∧ (kd = 1 ∧ -100 ≤ ad ∧ ad ≤ 100 ∨ kd ≠ 1 ∧ 1 ≤ ad ∧ ad ≤ 12) ∧ (kd = 1 ∨ kd = 2 ∧ 1 ≤ bd ∧ bd ≤ 7 ∨ kd ≠ 2 ∧ 1 ≤ bd ∧ bd ≤ 31) ∧ (kd ≠ 2 ∨ cd = -1 ∨ 1 ≤ cd ∧ cd ≤ 4)) : -1000 ≤ f_X5_dayOfRule kd ad bd cd ya ∧ f_X5_dayOfRule kd ad bd cd ya ≤ 5000000 := by
  unfold f_X5_dayOfRule
  have hq1 := b_X5_in ya 1 9999 (by omega) (by omega) (by omega)
  by_cases hy : 1 ≤ ya ∧ ya ≤ 9999
  · have hq6 := b_X5_beginOf ya (by omega)
    by_cases hk1 : kd = 1
    · by_cases h83 : 1583 ≤ ya
      · have hq2 := b_X5_easterOf ya (by omega)
        (repeat' split) <;> omega
      · (repeat' split) <;> omega
    · by_cases hk2 : kd = 2
      · have hq3 := b_X5_nthOf ya ad bd cd (by omega) (by omega) (by omega) (by omega)
        (repeat' split) <;> omega
      · have hq4 := b_X5_isDate ya ad bd (by omega) (by omega) (by omega)
        have hq5 := b_X5_numberOf ya ad bd (by omega) (by omega) (by omega)
        (repeat' split) <;> omega
  · (repeat' split) <;> omega
def rhX5 (kf af bf zf : Nat → Int) (y n : Int) (k : Nat) : Int :=
  if f_X5_dayOfRule (kf k) (af k) (bf k) (zf k) y = n ∨ kf k % 2 = 1 ∧ (f_X5_dayOfRule (kf k) (af k) (bf k) (zf k) (y - 1) = n ∨ f_X5_dayOfRule (kf k) (af k) (bf k) (zf k) (y + 1) = n) then 1 else 0
theorem rhX5_s (kf af bf zf : Nat → Int) (y n : Int) (k : Nat) : rhX5 kf af bf zf y n k = 1 ∧ (f_X5_dayOfRule (kf k) (af k) (bf k) (zf k) y = n ∨ kf k % 2 = 1 ∧ (f_X5_dayOfRule (kf k) (af k) (bf k) (zf k) (y - 1) = n ∨ f_X5_dayOfRule (kf k) (af k) (bf k) (zf k) (y + 1) = n)) ∨ rhX5 kf af bf zf y n k = 0 ∧ ¬ (f_X5_dayOfRule (kf k) (af k) (bf k) (zf k) y = n ∨ kf k % 2 = 1 ∧ (f_X5_dayOfRule (kf k) (af k) (bf k) (zf k) (y - 1) = n ∨ f_X5_dayOfRule (kf k) (af k) (bf k) (zf k) (y + 1) = n)) := by
  unfold rhX5
  split
  · exact Or.inl ⟨rfl, by assumption⟩
  · exact Or.inr ⟨rfl, by assumption⟩
set_option maxHeartbeats 4000000 in
set_option maxRecDepth 100000 in
theorem c_X5_thrown (l : Launch)  (dC : Nat → ClassId) (dI : Nat → Nat → Nat) (cI : ClassId) (g0 : Nat) (ps : Nat) (pk : Nat) (pa : Nat) (pb : Nat) (pq : Nat) (pw : Nat) (pt : Nat) (co : Int) (ru : Int) (we : Int) (wr : Int) (ty : Int)  : Met l yX5_thrown wsX5_thrown ({ frames := 0, cells := 0, slots := 0, locals := 0 }) (zPr (dC, dI) [(cI, .int)] [.ref g0] [(g0, .inr (5, [.int (zi co), .ref ps, .int (zi ru), .ref pk, .ref pa, .ref pb, .ref pq, .int (zi we), .int (zi wr), .ref pw, .int (zi ty), .ref pt]))]) (vp_Si (fun r => r = zi co)) 0 0 zN := by
  refine Met.ofW (cc := cX5_thrown) (maxL := 1) (ret := (some .int)) (by decide) rfl ?_
  intro p e s m args below meth c s₁ B hml hv
  obtain ⟨rfl, hP, hK⟩ := hv
  have hx := B.exec
  have hb := B.bytes
  have hr := B.returns
  have hts := atoms_spec (ws := wsX5_thrown) B.pre
  have hown : s.vm.findClass RX5 = some m.cls := findClass_of_methodNamed B.named
  have hlocks := B.notSynchronized
  have hl := lv_entry ([.ref g0]) (n := 1) (Nat.le_of_ble_eq_true rfl)
  rw [lg_entry_eq]
  generalize (lg_sl ([.ref g0]) ++ List.replicate (1 - (lg_sl ([.ref g0])).length) Slot.unset).toArray = ls at hl ⊢
  have hl : lv_has ls 1 [(0, .ref g0)] := hl
  refine lv_aload_n hx hb dX5_thrown_0 rfl (lv_at hl 0 rfl) ?_
  refine va_get (D := (dC, dI)) (ci := 5) (v := .int (zi co)) (C := RX5) (T := TX5) (N := 12) hx hb hts (by decide +kernel) hown hK hP 0 rfl rfl 0 (by decide) (hts (.fieldLink RX5 35 "CivilDaysModel" "code" "I") (by decide +kernel)) (fun _ h9 => h9) rfl dX5_thrown_1 ?_
  exact W.iret (v := zi co) hx hb hr (fun t ht hW => ⟨zi co, rfl, rfl, ht⟩) (fun q h => by cases h) dX5_thrown_4

set_option maxHeartbeats 4000000 in
set_option maxRecDepth 100000 in
theorem c_X5_dayOfRule (l : Launch)  (dC : Nat → ClassId) (dI : Nat → Nat → Nat) (cI : ClassId) (g0 : Nat) (ps : Nat) (pk : Nat) (pa : Nat) (pb : Nat) (pq : Nat) (pw : Nat) (pt : Nat) (co : Int) (ru : Int) (we : Int) (wr : Int) (ty : Int) (kf : Nat → Int) (af : Nat → Int) (bf : Nat → Int) (zf : Nat → Int) (kk : Int) (ya : Int) (hp0 : 0 ≤ kk ∧ kk < 12) (hp1 : -2147483648 ≤ ya ∧ ya ≤ 2147483647) (hp2 : (0 ≤ (kf kk.toNat) ∧ (kf kk.toNat) ≤ 3) ∧ ((kf kk.toNat) = 1 ∧ -100 ≤ (af kk.toNat) ∧ (af kk.toNat) ≤ 100 ∨ (kf kk.toNat) ≠ 1 ∧ 1 ≤ (af kk.toNat) ∧ (af kk.toNat) ≤ 12) ∧ ((kf kk.toNat) = 1 ∨ (kf kk.toNat) = 2 ∧ 1 ≤ (bf kk.toNat) ∧ (bf kk.toNat) ≤ 7 ∨ (kf kk.toNat) ≠ 2 ∧ 1 ≤ (bf kk.toNat) ∧ (bf kk.toNat) ≤ 31) ∧ ((kf kk.toNat) ≠ 2 ∨ (zf kk.toNat) = -1 ∨ 1 ≤ (zf kk.toNat) ∧ (zf kk.toNat) ≤ 4)) : Met l yX5_dayOfRule wsX5_dayOfRule ({ frames := 4, cells := 0, slots := 0, locals := 92 }) (zPr (dC, dI) [(cI, .int)] [.ref g0, .int (zi kk), .int (zi ya)] [(g0, .inr (5, [.int (zi co), .ref ps, .int (zi ru), .ref pk, .ref pa, .ref pb, .ref pq, .int (zi we), .int (zi wr), .ref pw, .int (zi ty), .ref pt])), (pk, aI cI 12 kf), (pa, aI cI 12 af), (pb, aI cI 12 bf), (pq, aI cI 12 zf)]) (vp_Si (fun r => r = zi (f_X5_dayOfRule (kf kk.toNat) (af kk.toNat) (bf kk.toNat) (zf kk.toNat) ya))) 0 0 zN := by
  refine Met.ofW (cc := cX5_dayOfRule) (maxL := 4) (ret := (some .int)) (by decide) rfl ?_
  intro p e s m args below meth c s₁ B hml hv
  obtain ⟨rfl, hP, hK⟩ := hv
  have hx := B.exec
  have hb := B.bytes
  have hr := B.returns
  have hts := atoms_spec (ws := wsX5_dayOfRule) B.pre
  have hown : s.vm.findClass RX5 = some m.cls := findClass_of_methodNamed B.named
  have hlocks := B.notSynchronized
  have hl := lv_entry ([.ref g0, .int (zi kk), .int (zi ya)]) (n := 4) (Nat.le_of_ble_eq_true rfl)
  rw [lg_entry_eq]
  generalize (lg_sl ([.ref g0, .int (zi kk), .int (zi ya)]) ++ List.replicate (4 - (lg_sl ([.ref g0, .int (zi kk), .int (zi ya)])).length) Slot.unset).toArray = ls at hl ⊢
  have hl : lv_has ls 4 [(0, .ref g0), (1, .int (zi kk)), (2, .int (zi ya))] := hl
  refine lv_iload_n hx hb dX5_dayOfRule_0 rfl (lv_at hl 2 rfl) ?_
  refine zw_iconst hx hb dX5_dayOfRule_1 ?_
  refine zw_sipush hx hb dX5_dayOfRule_2 (by decide) ?_
  have hh1 := c_X5_in l ya 1 9999 (by omega) (by omega) (by omega)
  refine vp_callSi (va_Run.run (va_runS (As := [.int (zi ya), .int (zi 1), .int (zi 9999)]) (rest := []) ⟨hx, hb, hml, hown, hts⟩ hh1 (va_cwS 3 hts gX5_dayOfRule_X5_in rfl rfl rfl (by decide +kernel) ⟨Nat.le_of_ble_eq_true rfl, Nat.le_of_ble_eq_true rfl⟩) ⟨fun a U g mk q => q, fun U hU hW => ⟨rfl, trivial⟩⟩ rfl rfl hl.1 rfl (lv_room (Nat.le_of_ble_eq_true rfl)) dX5_dayOfRule_5 ⟨Nat.zero_le _, Nat.zero_le _⟩)) (fun r1 (hr1 : r1 = zi (f_X5_in ya 1 9999)) => ?_)
  subst hr1
  have hf1 := b_X5_in ya 1 9999 (by omega) (by omega) (by omega)
  refine zw_if_ne (tgt := 15) hx hb dX5_dayOfRule_8 (by decide) ⟨by omega, by omega⟩ (fun h2 => ?_) (fun h2 => ?_)
  · skip
    refine lv_aload_n hx hb dX5_dayOfRule_15 rfl (lv_at hl 0 rfl) ?_
    refine va_get (D := (dC, dI)) (ci := 5) (v := .ref pk) (C := RX5) (T := TX5) (N := 12) hx hb hts (by decide +kernel) hown hK hP 0 rfl rfl 3 (by decide) (hts (.fieldLink RX5 13 "CivilDaysModel" "kinds" "[I") (by decide +kernel)) (fun _ h9 => h9) rfl dX5_dayOfRule_16 ?_
    refine lv_iload_n hx hb dX5_dayOfRule_19 rfl (lv_at hl 1 rfl) ?_
    refine zw_iald hx hb hK hP 1 0 rfl rfl (by omega) (by omega) ⟨by omega, by omega⟩ dX5_dayOfRule_20 ?_
    refine zw_iconst hx hb dX5_dayOfRule_21 ?_
    refine zw_icmp_ne (tgt := 50) hx hb dX5_dayOfRule_22 (by decide) ⟨by omega, by omega⟩ ⟨by omega, by omega⟩ (fun h3 => ?_) (fun h3 => ?_)
    · skip
      refine lv_aload_n hx hb dX5_dayOfRule_50 rfl (lv_at hl 0 rfl) ?_
      refine va_get (D := (dC, dI)) (ci := 5) (v := .ref pk) (C := RX5) (T := TX5) (N := 12) hx hb hts (by decide +kernel) hown hK hP 0 rfl rfl 3 (by decide) (hts (.fieldLink RX5 13 "CivilDaysModel" "kinds" "[I") (by decide +kernel)) (fun _ h9 => h9) rfl dX5_dayOfRule_51 ?_
      refine lv_iload_n hx hb dX5_dayOfRule_54 rfl (lv_at hl 1 rfl) ?_
      refine zw_iald hx hb hK hP 1 0 rfl rfl (by omega) (by omega) ⟨by omega, by omega⟩ dX5_dayOfRule_55 ?_
      refine zw_iconst hx hb dX5_dayOfRule_56 ?_
      refine zw_icmp_ne (tgt := 83) hx hb dX5_dayOfRule_57 (by decide) ⟨by omega, by omega⟩ ⟨by omega, by omega⟩ (fun h4 => ?_) (fun h4 => ?_)
      · skip
        refine lv_iload_n hx hb dX5_dayOfRule_83 rfl (lv_at hl 2 rfl) ?_
        refine lv_aload_n hx hb dX5_dayOfRule_84 rfl (lv_at hl 0 rfl) ?_
        refine va_get (D := (dC, dI)) (ci := 5) (v := .ref pa) (C := RX5) (T := TX5) (N := 12) hx hb hts (by decide +kernel) hown hK hP 0 rfl rfl 4 (by decide) (hts (.fieldLink RX5 16 "CivilDaysModel" "as" "[I") (by decide +kernel)) (fun _ h9 => h9) rfl dX5_dayOfRule_85 ?_
        refine lv_iload_n hx hb dX5_dayOfRule_88 rfl (lv_at hl 1 rfl) ?_
        refine zw_iald hx hb hK hP 2 0 rfl rfl (by omega) (by omega) ⟨by omega, by omega⟩ dX5_dayOfRule_89 ?_
        refine lv_aload_n hx hb dX5_dayOfRule_90 rfl (lv_at hl 0 rfl) ?_
        refine va_get (D := (dC, dI)) (ci := 5) (v := .ref pb) (C := RX5) (T := TX5) (N := 12) hx hb hts (by decide +kernel) hown hK hP 0 rfl rfl 5 (by decide) (hts (.fieldLink RX5 19 "CivilDaysModel" "bs" "[I") (by decide +kernel)) (fun _ h9 => h9) rfl dX5_dayOfRule_91 ?_
        refine lv_iload_n hx hb dX5_dayOfRule_94 rfl (lv_at hl 1 rfl) ?_
        refine zw_iald hx hb hK hP 3 0 rfl rfl (by omega) (by omega) ⟨by omega, by omega⟩ dX5_dayOfRule_95 ?_
        have hh5 := c_X5_isDate l ya (af kk.toNat) (bf kk.toNat) (by omega) (by omega) (by omega)
        refine vp_callSi (va_Run.run (va_runS (As := [.int (zi ya), .int (zi (af kk.toNat)), .int (zi (bf kk.toNat))]) (rest := []) ⟨hx, hb, hml, hown, hts⟩ hh5 (va_cwS 3 hts gX5_dayOfRule_X5_isDate rfl rfl rfl (by decide +kernel) ⟨Nat.le_of_ble_eq_true rfl, Nat.le_of_ble_eq_true rfl⟩) ⟨fun a U g mk q => q, fun U hU hW => ⟨rfl, trivial⟩⟩ rfl rfl hl.1 rfl (lv_room (Nat.le_of_ble_eq_true rfl)) dX5_dayOfRule_96 ⟨Nat.zero_le _, Nat.zero_le _⟩)) (fun r5 (hr5 : r5 = zi (f_X5_isDate ya (af kk.toNat) (bf kk.toNat))) => ?_)
        subst hr5
        have hf5 := b_X5_isDate ya (af kk.toNat) (bf kk.toNat) (by omega) (by omega) (by omega)
        refine zw_if_ne (tgt := 106) hx hb dX5_dayOfRule_99 (by decide) ⟨by omega, by omega⟩ (fun h6 => ?_) (fun h6 => ?_)
        · skip
          refine lv_iload_n hx hb dX5_dayOfRule_106 rfl (lv_at hl 2 rfl) ?_
          refine lv_aload_n hx hb dX5_dayOfRule_107 rfl (lv_at hl 0 rfl) ?_
          refine va_get (D := (dC, dI)) (ci := 5) (v := .ref pa) (C := RX5) (T := TX5) (N := 12) hx hb hts (by decide +kernel) hown hK hP 0 rfl rfl 4 (by decide) (hts (.fieldLink RX5 16 "CivilDaysModel" "as" "[I") (by decide +kernel)) (fun _ h9 => h9) rfl dX5_dayOfRule_108 ?_
          refine lv_iload_n hx hb dX5_dayOfRule_111 rfl (lv_at hl 1 rfl) ?_
          refine zw_iald hx hb hK hP 2 0 rfl rfl (by omega) (by omega) ⟨by omega, by omega⟩ dX5_dayOfRule_112 ?_
          refine lv_aload_n hx hb dX5_dayOfRule_113 rfl (lv_at hl 0 rfl) ?_
          refine va_get (D := (dC, dI)) (ci := 5) (v := .ref pb) (C := RX5) (T := TX5) (N := 12) hx hb hts (by decide +kernel) hown hK hP 0 rfl rfl 5 (by decide) (hts (.fieldLink RX5 19 "CivilDaysModel" "bs" "[I") (by decide +kernel)) (fun _ h9 => h9) rfl dX5_dayOfRule_114 ?_
          refine lv_iload_n hx hb dX5_dayOfRule_117 rfl (lv_at hl 1 rfl) ?_
          refine zw_iald hx hb hK hP 3 0 rfl rfl (by omega) (by omega) ⟨by omega, by omega⟩ dX5_dayOfRule_118 ?_
          have hh7 := c_X5_numberOf l ya (af kk.toNat) (bf kk.toNat) (by omega) (by omega) (by omega)
          refine vp_callSi (va_Run.run (va_runS (As := [.int (zi ya), .int (zi (af kk.toNat)), .int (zi (bf kk.toNat))]) (rest := []) ⟨hx, hb, hml, hown, hts⟩ hh7 (va_cwS 3 hts gX5_dayOfRule_X5_numberOf rfl rfl rfl (by decide +kernel) ⟨Nat.le_of_ble_eq_true rfl, Nat.le_of_ble_eq_true rfl⟩) ⟨fun a U g mk q => q, fun U hU hW => ⟨rfl, trivial⟩⟩ rfl rfl hl.1 rfl (lv_room (Nat.le_of_ble_eq_true rfl)) dX5_dayOfRule_119 ⟨Nat.zero_le _, Nat.zero_le _⟩)) (fun r7 (hr7 : r7 = zi (f_X5_numberOf ya (af kk.toNat) (bf kk.toNat))) => ?_)
          subst hr7
          have hf7 := b_X5_numberOf ya (af kk.toNat) (bf kk.toNat) (by omega) (by omega) (by omega)
          refine zw_top (fun x8 ex8 => ?_)
          refine lv_istore_n (lv' := [(3, .int (zi x8)), (0, .ref g0), (1, .int (zi kk)), (2, .int (zi ya))]) hx hb dX5_dayOfRule_122 rfl hl (by decide) rfl (fun ls hl => ?_)
          refine lv_aload_n hx hb dX5_dayOfRule_123 rfl (lv_at hl 1 rfl) ?_
          refine va_get (D := (dC, dI)) (ci := 5) (v := .ref pk) (C := RX5) (T := TX5) (N := 12) hx hb hts (by decide +kernel) hown hK hP 0 rfl rfl 3 (by decide) (hts (.fieldLink RX5 13 "CivilDaysModel" "kinds" "[I") (by decide +kernel)) (fun _ h9 => h9) rfl dX5_dayOfRule_124 ?_
          refine lv_iload_n hx hb dX5_dayOfRule_127 rfl (lv_at hl 2 rfl) ?_
          refine zw_iald hx hb hK hP 1 0 rfl rfl (by omega) (by omega) ⟨by omega, by omega⟩ dX5_dayOfRule_128 ?_
          refine zw_if_ne (tgt := 134) hx hb dX5_dayOfRule_129 (by decide) ⟨by omega, by omega⟩ (fun h9 => ?_) (fun h9 => ?_)
          · skip
            refine lv_iload_n hx hb dX5_dayOfRule_134 rfl (lv_at hl 0 rfl) ?_
            have hh10 := c_X5_weekdayOf l x8 (by omega)
            refine vp_callSi (va_Run.run (va_runS (As := [.int (zi x8)]) (rest := []) ⟨hx, hb, hml, hown, hts⟩ hh10 (va_cwS 1 hts gX5_dayOfRule_X5_weekdayOf rfl rfl rfl (by decide +kernel) ⟨Nat.le_of_ble_eq_true rfl, Nat.le_of_ble_eq_true rfl⟩) ⟨fun a U g mk q => q, fun U hU hW => ⟨rfl, trivial⟩⟩ rfl rfl hl.1 rfl (lv_room (Nat.le_of_ble_eq_true rfl)) dX5_dayOfRule_135 ⟨Nat.zero_le _, Nat.zero_le _⟩)) (fun r10 (hr10 : r10 = zi (f_X5_weekdayOf x8)) => ?_)
            subst hr10
            have hf10 := b_X5_weekdayOf x8 (by omega)
            refine zw_bipush hx hb dX5_dayOfRule_138 (by decide) ?_
            refine zw_icmp_ne (tgt := 149) hx hb dX5_dayOfRule_140 (by decide) ⟨by omega, by omega⟩ ⟨by omega, by omega⟩ (fun h11 => ?_) (fun h11 => ?_)
            · skip
              refine lv_iload_n hx hb dX5_dayOfRule_149 rfl (lv_at hl 0 rfl) ?_
              have hh12 := c_X5_weekdayOf l x8 (by omega)
              refine vp_callSi (va_Run.run (va_runS (As := [.int (zi x8)]) (rest := []) ⟨hx, hb, hml, hown, hts⟩ hh12 (va_cwS 1 hts gX5_dayOfRule_X5_weekdayOf rfl rfl rfl (by decide +kernel) ⟨Nat.le_of_ble_eq_true rfl, Nat.le_of_ble_eq_true rfl⟩) ⟨fun a U g mk q => q, fun U hU hW => ⟨rfl, trivial⟩⟩ rfl rfl hl.1 rfl (lv_room (Nat.le_of_ble_eq_true rfl)) dX5_dayOfRule_150 ⟨Nat.zero_le _, Nat.zero_le _⟩)) (fun r12 (hr12 : r12 = zi (f_X5_weekdayOf x8)) => ?_)
              subst hr12
              have hf12 := b_X5_weekdayOf x8 (by omega)
              refine zw_bipush hx hb dX5_dayOfRule_153 (by decide) ?_
              refine zw_icmp_ne (tgt := 164) hx hb dX5_dayOfRule_155 (by decide) ⟨by omega, by omega⟩ ⟨by omega, by omega⟩ (fun h13 => ?_) (fun h13 => ?_)
              · skip
                refine lv_iload_n hx hb dX5_dayOfRule_164 rfl (lv_at hl 0 rfl) ?_
                subst ex8
                exact W.iret (v := zi (f_X5_numberOf ya (af kk.toNat) (bf kk.toNat))) hx hb hr (fun t ht hW => ⟨zi (f_X5_numberOf ya (af kk.toNat) (bf kk.toNat)), rfl, by rw [f_X5_dayOfRule, if_neg h2, if_neg h3, if_neg h4, if_neg h6, if_neg h9, if_neg h11, if_neg h13], ht⟩) (fun q h => by cases h) dX5_dayOfRule_165
              · skip
                refine lv_iload_n hx hb dX5_dayOfRule_158 rfl (lv_at hl 0 rfl) ?_
                refine zw_iconst hx hb dX5_dayOfRule_159 ?_
                refine zw_iadd hx hb dX5_dayOfRule_160 ?_
                refine lv_goto (tgt := 165) hx hb dX5_dayOfRule_161 (by decide) ?_
                subst ex8
                exact W.iret (v := zi ((f_X5_numberOf ya (af kk.toNat) (bf kk.toNat)) + 1)) hx hb hr (fun t ht hW => ⟨zi ((f_X5_numberOf ya (af kk.toNat) (bf kk.toNat)) + 1), rfl, by rw [f_X5_dayOfRule, if_neg h2, if_neg h3, if_neg h4, if_neg h6, if_neg h9, if_neg h11, if_pos h13], ht⟩) (fun q h => by cases h) dX5_dayOfRule_165
            · skip
              refine lv_iload_n hx hb dX5_dayOfRule_143 rfl (lv_at hl 0 rfl) ?_
              refine zw_iconst hx hb dX5_dayOfRule_144 ?_
              refine zw_isub hx hb dX5_dayOfRule_145 ?_
              refine lv_goto (tgt := 165) hx hb dX5_dayOfRule_146 (by decide) ?_
              subst ex8
              exact W.iret (v := zi ((f_X5_numberOf ya (af kk.toNat) (bf kk.toNat)) - 1)) hx hb hr (fun t ht hW => ⟨zi ((f_X5_numberOf ya (af kk.toNat) (bf kk.toNat)) - 1), rfl, by rw [f_X5_dayOfRule, if_neg h2, if_neg h3, if_neg h4, if_neg h6, if_neg h9, if_pos h11], ht⟩) (fun q h => by cases h) dX5_dayOfRule_165
          · skip
            refine lv_iload_n hx hb dX5_dayOfRule_132 rfl (lv_at hl 0 rfl) ?_
            subst ex8
            exact W.iret (v := zi (f_X5_numberOf ya (af kk.toNat) (bf kk.toNat))) hx hb hr (fun t ht hW => ⟨zi (f_X5_numberOf ya (af kk.toNat) (bf kk.toNat)), rfl, by rw [f_X5_dayOfRule, if_neg h2, if_neg h3, if_neg h4, if_neg h6, if_pos h9], ht⟩) (fun q h => by cases h) dX5_dayOfRule_133
        · skip
          refine zw_sipush hx hb dX5_dayOfRule_102 (by decide) ?_
          exact W.iret (v := zi (-1000)) hx hb hr (fun t ht hW => ⟨zi (-1000), rfl, by rw [f_X5_dayOfRule, if_neg h2, if_neg h3, if_neg h4, if_pos h6], ht⟩) (fun q h => by cases h) dX5_dayOfRule_105
      · skip
        refine lv_iload_n hx hb dX5_dayOfRule_60 rfl (lv_at hl 2 rfl) ?_
        refine lv_aload_n hx hb dX5_dayOfRule_61 rfl (lv_at hl 0 rfl) ?_
        refine va_get (D := (dC, dI)) (ci := 5) (v := .ref pa) (C := RX5) (T := TX5) (N := 12) hx hb hts (by decide +kernel) hown hK hP 0 rfl rfl 4 (by decide) (hts (.fieldLink RX5 16 "CivilDaysModel" "as" "[I") (by decide +kernel)) (fun _ h9 => h9) rfl dX5_dayOfRule_62 ?_
        refine lv_iload_n hx hb dX5_dayOfRule_65 rfl (lv_at hl 1 rfl) ?_
        refine zw_iald hx hb hK hP 2 0 rfl rfl (by omega) (by omega) ⟨by omega, by omega⟩ dX5_dayOfRule_66 ?_
        refine lv_aload_n hx hb dX5_dayOfRule_67 rfl (lv_at hl 0 rfl) ?_
        refine va_get (D := (dC, dI)) (ci := 5) (v := .ref pb) (C := RX5) (T := TX5) (N := 12) hx hb hts (by decide +kernel) hown hK hP 0 rfl rfl 5 (by decide) (hts (.fieldLink RX5 19 "CivilDaysModel" "bs" "[I") (by decide +kernel)) (fun _ h9 => h9) rfl dX5_dayOfRule_68 ?_
        refine lv_iload_n hx hb dX5_dayOfRule_71 rfl (lv_at hl 1 rfl) ?_
        refine zw_iald hx hb hK hP 3 0 rfl rfl (by omega) (by omega) ⟨by omega, by omega⟩ dX5_dayOfRule_72 ?_
        refine lv_aload_n hx hb dX5_dayOfRule_73 rfl (lv_at hl 0 rfl) ?_
        refine va_get (D := (dC, dI)) (ci := 5) (v := .ref pq) (C := RX5) (T := TX5) (N := 12) hx hb hts (by decide +kernel) hown hK hP 0 rfl rfl 6 (by decide) (hts (.fieldLink RX5 22 "CivilDaysModel" "cs" "[I") (by decide +kernel)) (fun _ h9 => h9) rfl dX5_dayOfRule_74 ?_
        refine lv_iload_n hx hb dX5_dayOfRule_77 rfl (lv_at hl 1 rfl) ?_
        refine zw_iald hx hb hK hP 4 0 rfl rfl (by omega) (by omega) ⟨by omega, by omega⟩ dX5_dayOfRule_78 ?_
        have hh14 := c_X5_nthOf l ya (af kk.toNat) (bf kk.toNat) (zf kk.toNat) (by omega) (by omega) (by omega) (by omega)
        refine vp_callSi (va_Run.run (va_runS (As := [.int (zi ya), .int (zi (af kk.toNat)), .int (zi (bf kk.toNat)), .int (zi (zf kk.toNat))]) (rest := []) ⟨hx, hb, hml, hown, hts⟩ hh14 (va_cwS 4 hts gX5_dayOfRule_X5_nthOf rfl rfl rfl (by decide +kernel) ⟨Nat.le_of_ble_eq_true rfl, Nat.le_of_ble_eq_true rfl⟩) ⟨fun a U g mk q => q, fun U hU hW => ⟨rfl, trivial⟩⟩ rfl rfl hl.1 rfl (lv_room (Nat.le_of_ble_eq_true rfl)) dX5_dayOfRule_79 ⟨Nat.zero_le _, Nat.zero_le _⟩)) (fun r14 (hr14 : r14 = zi (f_X5_nthOf ya (af kk.toNat) (bf kk.toNat) (zf kk.toNat))) => ?_)
        subst hr14
        have hf14 := b_X5_nthOf ya (af kk.toNat) (bf kk.toNat) (zf kk.toNat) (by omega) (by omega) (by omega) (by omega)
        exact W.iret (v := zi (f_X5_nthOf ya (af kk.toNat) (bf kk.toNat) (zf kk.toNat))) hx hb hr (fun t ht hW => ⟨zi (f_X5_nthOf ya (af kk.toNat) (bf kk.toNat) (zf kk.toNat)), rfl, by rw [f_X5_dayOfRule, if_neg h2, if_neg h3, if_pos h4], ht⟩) (fun q h => by cases h) dX5_dayOfRule_82
    · skip
      refine lv_iload_n hx hb dX5_dayOfRule_25 rfl (lv_at hl 2 rfl) ?_
      refine zw_sipush hx hb dX5_dayOfRule_26 (by decide) ?_
      refine zw_icmp_ge (tgt := 38) hx hb dX5_dayOfRule_29 (by decide) ⟨by omega, by omega⟩ ⟨by omega, by omega⟩ (fun h15 => ?_) (fun h15 => ?_)
      · skip
        refine lv_iload_n hx hb dX5_dayOfRule_38 rfl (lv_at hl 2 rfl) ?_
        have hh16 := c_X5_easterOf l ya (by omega)
        refine vp_callSi (va_Run.run (va_runS (As := [.int (zi ya)]) (rest := []) ⟨hx, hb, hml, hown, hts⟩ hh16 (va_cwS 1 hts gX5_dayOfRule_X5_easterOf rfl rfl rfl (by decide +kernel) ⟨Nat.le_of_ble_eq_true rfl, Nat.le_of_ble_eq_true rfl⟩) ⟨fun a U g mk q => q, fun U hU hW => ⟨rfl, trivial⟩⟩ rfl rfl hl.1 rfl (lv_room (Nat.le_of_ble_eq_true rfl)) dX5_dayOfRule_39 ⟨Nat.zero_le _, Nat.zero_le _⟩)) (fun r16 (hr16 : r16 = zi (f_X5_easterOf ya)) => ?_)
        subst hr16
        have hf16 := b_X5_easterOf ya (by omega)
        refine lv_aload_n hx hb dX5_dayOfRule_42 rfl (lv_at hl 0 rfl) ?_
        refine va_get (D := (dC, dI)) (ci := 5) (v := .ref pa) (C := RX5) (T := TX5) (N := 12) hx hb hts (by decide +kernel) hown hK hP 0 rfl rfl 4 (by decide) (hts (.fieldLink RX5 16 "CivilDaysModel" "as" "[I") (by decide +kernel)) (fun _ h9 => h9) rfl dX5_dayOfRule_43 ?_
        refine lv_iload_n hx hb dX5_dayOfRule_46 rfl (lv_at hl 1 rfl) ?_
        refine zw_iald hx hb hK hP 2 0 rfl rfl (by omega) (by omega) ⟨by omega, by omega⟩ dX5_dayOfRule_47 ?_
        refine zw_iadd hx hb dX5_dayOfRule_48 ?_
        exact W.iret (v := zi ((f_X5_easterOf ya) + (af kk.toNat))) hx hb hr (fun t ht hW => ⟨zi ((f_X5_easterOf ya) + (af kk.toNat)), rfl, by rw [f_X5_dayOfRule, if_neg h2, if_pos h3, if_neg (Int.not_lt.mpr h15)], ht⟩) (fun q h => by cases h) dX5_dayOfRule_49
      · skip
        refine zw_sipush hx hb dX5_dayOfRule_32 (by decide) ?_
        refine lv_goto (tgt := 49) hx hb dX5_dayOfRule_35 (by decide) ?_
        exact W.iret (v := zi (-1000)) hx hb hr (fun t ht hW => ⟨zi (-1000), rfl, by rw [f_X5_dayOfRule, if_neg h2, if_pos h3, if_pos h15], ht⟩) (fun q h => by cases h) dX5_dayOfRule_49
  · skip
    refine zw_sipush hx hb dX5_dayOfRule_11 (by decide) ?_
    exact W.iret (v := zi (-1000)) hx hb hr (fun t ht hW => ⟨zi (-1000), rfl, by rw [f_X5_dayOfRule, if_pos h2], ht⟩) (fun q h => by cases h) dX5_dayOfRule_14

set_option maxHeartbeats 4000000 in
set_option maxRecDepth 100000 in
theorem c_X5_ruleOf (l : Launch)  (dC : Nat → ClassId) (dI : Nat → Nat → Nat) (cI : ClassId) (g0 : Nat) (ps : Nat) (pk : Nat) (pa : Nat) (pb : Nat) (pq : Nat) (pw : Nat) (pt : Nat) (co : Int) (ru : Int) (we : Int) (wr : Int) (ty : Int) (kf : Nat → Int) (af : Nat → Int) (bf : Nat → Int) (zf : Nat → Int) (nu : Int) (hp0 : 0 ≤ nu ∧ nu ≤ 3652058) (hp1 : 0 ≤ ru ∧ ru ≤ 12) (hp2 : ∀ j : Nat, (j : Int) < ru → (0 ≤ (kf j) ∧ (kf j) ≤ 3) ∧ ((kf j) = 1 ∧ -100 ≤ (af j) ∧ (af j) ≤ 100 ∨ (kf j) ≠ 1 ∧ 1 ≤ (af j) ∧ (af j) ≤ 12) ∧ ((kf j) = 1 ∨ (kf j) = 2 ∧ 1 ≤ (bf j) ∧ (bf j) ≤ 7 ∨ (kf j) ≠ 2 ∧ 1 ≤ (bf j) ∧ (bf j) ≤ 31) ∧ ((kf j) ≠ 2 ∨ (zf j) = -1 ∨ 1 ≤ (zf j) ∧ (zf j) ≤ 4)) : Met l yX5_ruleOf wsX5_ruleOf ({ frames := 5, cells := 0, slots := 0, locals := 115 }) (zPr (dC, dI) [(cI, .int)] [.ref g0, .int (zi nu)] [(g0, .inr (5, [.int (zi co), .ref ps, .int (zi ru), .ref pk, .ref pa, .ref pb, .ref pq, .int (zi we), .int (zi wr), .ref pw, .int (zi ty), .ref pt])), (pk, aI cI 12 kf), (pa, aI cI 12 af), (pb, aI cI 12 bf), (pq, aI cI 12 zf)]) (vp_Si (fun r => r = zi (zfr (rhX5 kf af bf zf (f_X5_yearOf nu) nu) ru.toNat 0))) 0 0 zN := by
  refine Met.ofW (cc := cX5_ruleOf) (maxL := 4) (ret := (some .int)) (by decide) rfl ?_
  intro p e s m args below meth c s₁ B hml hv
  obtain ⟨rfl, hP, hK⟩ := hv
  have hx := B.exec
  have hb := B.bytes
  have hr := B.returns
  have hts := atoms_spec (ws := wsX5_ruleOf) B.pre
  have hown : s.vm.findClass RX5 = some m.cls := findClass_of_methodNamed B.named
  have hlocks := B.notSynchronized
  have loop7 : ∀ (fu : Nat) (kk : Int), (0 ≤ kk ∧ kk ≤ ru) → (zfr (rhX5 kf af bf zf (f_X5_yearOf nu) nu) (ru - kk).toNat kk.toNat = zfr (rhX5 kf af bf zf (f_X5_yearOf nu) nu) ru.toNat 0) → (ru - kk < fu) → ∀ (ls : Array Slot), lv_has ls 4 [(3, .int (zi kk)), (0, .ref g0), (1, .int (zi nu)), (2, .int (zi (f_X5_yearOf nu)))] → W p l e (headSpec wsX5_ruleOf ({ frames := 5, cells := 0, slots := 0, locals := 115 })).room s m ([.ref g0, .int (zi nu)] : List Value).toArray below meth c s.heap [] 0 0 (MQ below (vp_Si (fun r => r = zi (zfr (rhX5 kf af bf zf (f_X5_yearOf nu) nu) ru.toNat 0))) ([.ref g0, .int (zi nu)] : List Value).toArray s 0 0 zN) (F0 m 7 ls []) := by
    intro fu
    induction fu with
    | zero =>
      intro kk hi0 hi1 hfu ls hl
      exact absurd hfu (by omega)
    | succ fu ih =>
      intro kk hi0 hi1 hfu ls hl
      have hyb := b_X5_yearOf nu (by omega)
      refine lv_iload_n hx hb dX5_ruleOf_7 rfl (lv_at hl 0 rfl) ?_
      refine lv_aload_n hx hb dX5_ruleOf_8 rfl (lv_at hl 1 rfl) ?_
      refine va_get (D := (dC, dI)) (ci := 5) (v := .int (zi ru)) (C := RX5) (T := TX5) (N := 12) hx hb hts (by decide +kernel) hown hK hP 0 rfl rfl 2 (by decide) (hts (.fieldLink RX5 122 "CivilDaysModel" "rules" "I") (by decide +kernel)) (fun _ h9 => h9) rfl dX5_ruleOf_9 ?_
      refine zw_icmp_ge (tgt := 69) hx hb dX5_ruleOf_12 (by decide) ⟨by omega, by omega⟩ ⟨by omega, by omega⟩ (fun h1 => ?_) (fun h1 => ?_)
      · skip
        have hen := zfr_end (rhX5 kf af bf zf (f_X5_yearOf nu) nu) ru kk (by omega)
        refine zw_iconst hx hb dX5_ruleOf_69 ?_
        exact W.iret (v := zi (-1)) hx hb hr (fun t ht hW => ⟨zi (-1), rfl, congrArg zi (by omega), ht⟩) (fun q h => by cases h) dX5_ruleOf_70
      · skip
        have hrk := hp2 kk.toNat (by omega)
        have hst := zfr_step (rhX5 kf af bf zf (f_X5_yearOf nu) nu) ru kk (by omega)
        have hsp := rhX5_s kf af bf zf (f_X5_yearOf nu) nu kk.toNat
        have hbd1 := b_X5_dayOfRule (kf kk.toNat) (af kk.toNat) (bf kk.toNat) (zf kk.toNat) ((f_X5_yearOf nu)) (by omega) (by omega)
        have hbd2 := b_X5_dayOfRule (kf kk.toNat) (af kk.toNat) (bf kk.toNat) (zf kk.toNat) ((f_X5_yearOf nu) - 1) (by omega) (by omega)
        have hbd3 := b_X5_dayOfRule (kf kk.toNat) (af kk.toNat) (bf kk.toNat) (zf kk.toNat) ((f_X5_yearOf nu) + 1) (by omega) (by omega)
        refine lv_aload_n hx hb dX5_ruleOf_15 rfl (lv_at hl 1 rfl) ?_
        refine lv_iload_n hx hb dX5_ruleOf_16 rfl (lv_at hl 0 rfl) ?_
        refine lv_iload_n hx hb dX5_ruleOf_17 rfl (lv_at hl 3 rfl) ?_
        have hh2 := c_X5_dayOfRule l dC dI cI g0 ps pk pa pb pq pw pt co ru we wr ty kf af bf zf kk (f_X5_yearOf nu) (by omega) (by omega) (by first | exact hrk | exact hp2 _ (by omega))
        have hPc := hP.sub (ws' := [(g0, .inr (5, [.int (zi co), .ref ps, .int (zi ru), .ref pk, .ref pa, .ref pb, .ref pq, .int (zi we), .int (zi wr), .ref pw, .int (zi ty), .ref pt])), (pk, aI cI 12 kf), (pa, aI cI 12 af), (pb, aI cI 12 bf), (pq, aI cI 12 zf)]) [0, 1, 2, 3, 4] rfl
        have hKc : va_K (dC, dI) vwCl [(cI, .int)] s := hK
        refine vp_callSi (va_Run.run (va_runV (As := [.int (zi kk), .int (zi (f_X5_yearOf nu))]) (rest := []) ⟨hx, hb, hml, hown, hts⟩ hh2 (cwV 2 hts gX5_ruleOf_X5_dayOfRule rfl rfl rfl (by decide +kernel) ⟨Nat.le_of_ble_eq_true rfl, Nat.le_of_ble_eq_true rfl⟩) ⟨zPr.blind _ _ _ _, va_recv hKc hPc (ci := 5) (q0 := 0) rfl rfl, fun U hU hW => ⟨rfl, by rw [hU]; exact hPc, va_K.moved hW.alike hKc⟩⟩ rfl rfl hl.1 rfl (lv_room (Nat.le_of_ble_eq_true rfl)) dX5_ruleOf_18 ⟨Nat.le_of_ble_eq_true rfl, Nat.le_of_ble_eq_true rfl⟩)) (fun r2 (hr2 : r2 = zi (f_X5_dayOfRule (kf kk.toNat) (af kk.toNat) (bf kk.toNat) (zf kk.toNat) (f_X5_yearOf nu))) => ?_)
        subst hr2
        refine lv_iload_n hx hb dX5_ruleOf_21 rfl (lv_at hl 2 rfl) ?_
        refine zw_icmp_eq (tgt := 61) hx hb dX5_ruleOf_22 (by decide) ⟨by omega, by omega⟩ ⟨by omega, by omega⟩ (fun h3 => ?_) (fun h3 => ?_)
        · skip
          refine lv_iload_n hx hb dX5_ruleOf_61 rfl (lv_at hl 0 rfl) ?_
          exact W.iret (v := zi kk) hx hb hr (fun t ht hW => ⟨zi kk, rfl, congrArg zi (by omega), ht⟩) (fun q h => by cases h) dX5_ruleOf_62
        · skip
          refine lv_aload_n hx hb dX5_ruleOf_25 rfl (lv_at hl 1 rfl) ?_
          refine va_get (D := (dC, dI)) (ci := 5) (v := .ref pk) (C := RX5) (T := TX5) (N := 12) hx hb hts (by decide +kernel) hown hK hP 0 rfl rfl 3 (by decide) (hts (.fieldLink RX5 13 "CivilDaysModel" "kinds" "[I") (by decide +kernel)) (fun _ h9 => h9) rfl dX5_ruleOf_26 ?_
          refine lv_iload_n hx hb dX5_ruleOf_29 rfl (lv_at hl 0 rfl) ?_
          refine zw_iald hx hb hK hP 1 0 rfl rfl (by omega) (by omega) ⟨by omega, by omega⟩ dX5_ruleOf_30 ?_
          refine zw_iconst hx hb dX5_ruleOf_31 ?_
          refine zw_irem hx hb dX5_ruleOf_32 (by omega) ⟨by omega, by omega⟩ ⟨by omega, by omega⟩ (by omega) ?_
          refine zw_iconst hx hb dX5_ruleOf_33 ?_
          refine zw_icmp_ne (tgt := 63) hx hb dX5_ruleOf_34 (by decide) ⟨by omega, by omega⟩ ⟨by omega, by omega⟩ (fun h4 => ?_) (fun h4 => ?_)
          · skip
            obtain ⟨x5, ex5⟩ : ∃ z : Int, z = kk + 1 := ⟨_, rfl⟩
            refine zw_iinc (lv' := [(3, .int (zi x5)), (0, .ref g0), (1, .int (zi nu)), (2, .int (zi (f_X5_yearOf nu)))]) (k := 0) hx hb ex5 dX5_ruleOf_63 hl rfl (by decide) rfl (fun ls hl => ?_)
            refine lv_goto (tgt := 7) hx hb dX5_ruleOf_66 (by decide) ?_
            have hyb := b_X5_yearOf nu (by omega)
            subst ex5
            exact ih (kk + 1) (by omega) (by first | omega | simp) (by omega) ls (lv_sub hl [0, 1, 2, 3] rfl)
          · skip
            refine lv_aload_n hx hb dX5_ruleOf_37 rfl (lv_at hl 1 rfl) ?_
            refine lv_iload_n hx hb dX5_ruleOf_38 rfl (lv_at hl 0 rfl) ?_
            refine lv_iload_n hx hb dX5_ruleOf_39 rfl (lv_at hl 3 rfl) ?_
            refine zw_iconst hx hb dX5_ruleOf_40 ?_
            refine zw_isub hx hb dX5_ruleOf_41 ?_
            have hh6 := c_X5_dayOfRule l dC dI cI g0 ps pk pa pb pq pw pt co ru we wr ty kf af bf zf kk ((f_X5_yearOf nu) - 1) (by omega) (by omega) (by first | exact hrk | exact hp2 _ (by omega))
            have hPc := hP.sub (ws' := [(g0, .inr (5, [.int (zi co), .ref ps, .int (zi ru), .ref pk, .ref pa, .ref pb, .ref pq, .int (zi we), .int (zi wr), .ref pw, .int (zi ty), .ref pt])), (pk, aI cI 12 kf), (pa, aI cI 12 af), (pb, aI cI 12 bf), (pq, aI cI 12 zf)]) [0, 1, 2, 3, 4] rfl
            have hKc : va_K (dC, dI) vwCl [(cI, .int)] s := hK
            refine vp_callSi (va_Run.run (va_runV (As := [.int (zi kk), .int (zi ((f_X5_yearOf nu) - 1))]) (rest := []) ⟨hx, hb, hml, hown, hts⟩ hh6 (cwV 2 hts gX5_ruleOf_X5_dayOfRule rfl rfl rfl (by decide +kernel) ⟨Nat.le_of_ble_eq_true rfl, Nat.le_of_ble_eq_true rfl⟩) ⟨zPr.blind _ _ _ _, va_recv hKc hPc (ci := 5) (q0 := 0) rfl rfl, fun U hU hW => ⟨rfl, by rw [hU]; exact hPc, va_K.moved hW.alike hKc⟩⟩ rfl rfl hl.1 rfl (lv_room (Nat.le_of_ble_eq_true rfl)) dX5_ruleOf_42 ⟨Nat.le_of_ble_eq_true rfl, Nat.le_of_ble_eq_true rfl⟩)) (fun r6 (hr6 : r6 = zi (f_X5_dayOfRule (kf kk.toNat) (af kk.toNat) (bf kk.toNat) (zf kk.toNat) ((f_X5_yearOf nu) - 1))) => ?_)
            subst hr6
            refine lv_iload_n hx hb dX5_ruleOf_45 rfl (lv_at hl 2 rfl) ?_
            refine zw_icmp_eq (tgt := 61) hx hb dX5_ruleOf_46 (by decide) ⟨by omega, by omega⟩ ⟨by omega, by omega⟩ (fun h7 => ?_) (fun h7 => ?_)
            · skip
              refine lv_iload_n hx hb dX5_ruleOf_61 rfl (lv_at hl 0 rfl) ?_
              exact W.iret (v := zi kk) hx hb hr (fun t ht hW => ⟨zi kk, rfl, congrArg zi (by omega), ht⟩) (fun q h => by cases h) dX5_ruleOf_62
            · skip
              refine lv_aload_n hx hb dX5_ruleOf_49 rfl (lv_at hl 1 rfl) ?_
              refine lv_iload_n hx hb dX5_ruleOf_50 rfl (lv_at hl 0 rfl) ?_
              refine lv_iload_n hx hb dX5_ruleOf_51 rfl (lv_at hl 3 rfl) ?_
              refine zw_iconst hx hb dX5_ruleOf_52 ?_
              refine zw_iadd hx hb dX5_ruleOf_53 ?_
              have hh8 := c_X5_dayOfRule l dC dI cI g0 ps pk pa pb pq pw pt co ru we wr ty kf af bf zf kk ((f_X5_yearOf nu) + 1) (by omega) (by omega) (by first | exact hrk | exact hp2 _ (by omega))
              have hPc := hP.sub (ws' := [(g0, .inr (5, [.int (zi co), .ref ps, .int (zi ru), .ref pk, .ref pa, .ref pb, .ref pq, .int (zi we), .int (zi wr), .ref pw, .int (zi ty), .ref pt])), (pk, aI cI 12 kf), (pa, aI cI 12 af), (pb, aI cI 12 bf), (pq, aI cI 12 zf)]) [0, 1, 2, 3, 4] rfl
              have hKc : va_K (dC, dI) vwCl [(cI, .int)] s := hK
              refine vp_callSi (va_Run.run (va_runV (As := [.int (zi kk), .int (zi ((f_X5_yearOf nu) + 1))]) (rest := []) ⟨hx, hb, hml, hown, hts⟩ hh8 (cwV 2 hts gX5_ruleOf_X5_dayOfRule rfl rfl rfl (by decide +kernel) ⟨Nat.le_of_ble_eq_true rfl, Nat.le_of_ble_eq_true rfl⟩) ⟨zPr.blind _ _ _ _, va_recv hKc hPc (ci := 5) (q0 := 0) rfl rfl, fun U hU hW => ⟨rfl, by rw [hU]; exact hPc, va_K.moved hW.alike hKc⟩⟩ rfl rfl hl.1 rfl (lv_room (Nat.le_of_ble_eq_true rfl)) dX5_ruleOf_54 ⟨Nat.le_of_ble_eq_true rfl, Nat.le_of_ble_eq_true rfl⟩)) (fun r8 (hr8 : r8 = zi (f_X5_dayOfRule (kf kk.toNat) (af kk.toNat) (bf kk.toNat) (zf kk.toNat) ((f_X5_yearOf nu) + 1))) => ?_)
              subst hr8
              refine lv_iload_n hx hb dX5_ruleOf_57 rfl (lv_at hl 2 rfl) ?_
              refine zw_icmp_ne (tgt := 63) hx hb dX5_ruleOf_58 (by decide) ⟨by omega, by omega⟩ ⟨by omega, by omega⟩ (fun h9 => ?_) (fun h9 => ?_)
              · skip
                obtain ⟨x10, ex10⟩ : ∃ z : Int, z = kk + 1 := ⟨_, rfl⟩
                refine zw_iinc (lv' := [(3, .int (zi x10)), (0, .ref g0), (1, .int (zi nu)), (2, .int (zi (f_X5_yearOf nu)))]) (k := 0) hx hb ex10 dX5_ruleOf_63 hl rfl (by decide) rfl (fun ls hl => ?_)
                refine lv_goto (tgt := 7) hx hb dX5_ruleOf_66 (by decide) ?_
                have hyb := b_X5_yearOf nu (by omega)
                subst ex10
                exact ih (kk + 1) (by omega) (by first | omega | simp) (by omega) ls (lv_sub hl [0, 1, 2, 3] rfl)
              · skip
                refine lv_iload_n hx hb dX5_ruleOf_61 rfl (lv_at hl 0 rfl) ?_
                exact W.iret (v := zi kk) hx hb hr (fun t ht hW => ⟨zi kk, rfl, congrArg zi (by omega), ht⟩) (fun q h => by cases h) dX5_ruleOf_62
  have hl := lv_entry ([.ref g0, .int (zi nu)]) (n := 4) (Nat.le_of_ble_eq_true rfl)
  rw [lg_entry_eq]
  generalize (lg_sl ([.ref g0, .int (zi nu)]) ++ List.replicate (4 - (lg_sl ([.ref g0, .int (zi nu)])).length) Slot.unset).toArray = ls at hl ⊢
  have hl : lv_has ls 4 [(0, .ref g0), (1, .int (zi nu))] := hl
  refine lv_iload_n hx hb dX5_ruleOf_0 rfl (lv_at hl 1 rfl) ?_
  have hh11 := c_X5_yearOf l nu (by omega)
  refine vp_callSi (va_Run.run (va_runS (As := [.int (zi nu)]) (rest := []) ⟨hx, hb, hml, hown, hts⟩ hh11 (va_cwS 1 hts gX5_ruleOf_X5_yearOf rfl rfl rfl (by decide +kernel) ⟨Nat.le_of_ble_eq_true rfl, Nat.le_of_ble_eq_true rfl⟩) ⟨fun a U g mk q => q, fun U hU hW => ⟨rfl, trivial⟩⟩ rfl rfl hl.1 rfl (lv_room (Nat.le_of_ble_eq_true rfl)) dX5_ruleOf_1 ⟨Nat.zero_le _, Nat.zero_le _⟩)) (fun r11 (hr11 : r11 = zi (f_X5_yearOf nu)) => ?_)
  subst hr11
  have hf11 := b_X5_yearOf nu (by omega)
  refine zw_top (fun x12 ex12 => ?_)
  refine lv_istore_n (lv' := [(2, .int (zi x12)), (0, .ref g0), (1, .int (zi nu))]) hx hb dX5_ruleOf_4 rfl hl (by decide) rfl (fun ls hl => ?_)
  have hyb := b_X5_yearOf nu (by omega)
  refine zw_iconst hx hb dX5_ruleOf_5 ?_
  refine lv_istore_n (lv' := [(3, .int (zi 0)), (2, .int (zi x12)), (0, .ref g0), (1, .int (zi nu))]) hx hb dX5_ruleOf_6 rfl hl (by decide) rfl (fun ls hl => ?_)
  have hyb := b_X5_yearOf nu (by omega)
  subst ex12
  exact loop7 (13) 0 (by omega) (by first | omega | simp) (by omega) ls (lv_sub hl [0, 2, 3, 1] rfl)
