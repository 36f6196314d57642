/-! THE REFERENCE'S RULES AND WORKING DAYS -/
def f_X5_dayOfRule (kd : Int) (ad : Int) (bd : Int) (cd : Int) (ya : Int) : Int :=
  if (f_X5_in ya 1 9999) = 0 then (-1000)
  else if kd = 1 then (if ya < 1583 then (-1000)
    else ((f_X5_easterOf ya) + ad))
  else if kd = 2 then (f_X5_nthOf ya ad bd cd)
  else if (f_X5_isDate ya ad bd) = 0 then (-1000)
  else if kd = 0 then (f_X5_numberOf ya ad bd)
  else if (f_X5_weekdayOf (f_X5_numberOf ya ad bd)) = 6 then ((f_X5_numberOf ya ad bd) - 1)
  else if (f_X5_weekdayOf (f_X5_numberOf ya ad bd)) = 7 then ((f_X5_numberOf ya ad bd) + 1)
  else (f_X5_numberOf ya ad bd)
theorem b_X5_dayOfRule (kd ad bd cd ya : Int) (h1 : -2147483648 ≤ ya ∧ ya ≤ 2147483647) (h2 : (0 ≤ kd ∧ kd ≤ 3) ∧ (kd = 1 ∧ -100 ≤ ad ∧ ad ≤ 100 ∨ kd ≠ 1 ∧ 1 ≤ ad ∧ ad ≤ 12) ∧ (kd = 1 ∨ kd = 2 ∧ 1 ≤ bd ∧ bd ≤ 7 ∨ kd ≠ 2 ∧ 1 ≤ bd ∧ bd ≤ 31) ∧ (kd ≠ 2 ∨ cd = -1 ∨ 1 ≤ cd ∧ cd ≤ 4)) : -1000 ≤ f_X5_dayOfRule kd ad bd cd ya ∧ f_X5_dayOfRule kd ad bd cd ya ≤ 5000000 := by
  unfold f_X5_dayOfRule
  have hq1 := b_X5_in ya 1 9999 (by omega) (by omega) (by omega)
  by_cases hy : 1 ≤ ya ∧ ya ≤ 9999
  · have hq6 := b_X5_beginOf ya (by omega)
    by_cases hk1 : kd = 1
    · by_cases h83 : 1583 ≤ ya
      · have hq2 := b_X5_easterOf ya (by omega)
        (repeat' split) <;> omega
      · (repeat' split) <;> omega
    · by_cases hk2 : kd = 2
      · have hq3 := b_X5_nthOf ya ad bd cd (by omega) (by omega) (by omega) (by omega)
        (repeat' split) <;> omega
      · have hq4 := b_X5_isDate ya ad bd (by omega) (by omega) (by omega)
        have hq5 := b_X5_numberOf ya ad bd (by omega) (by omega) (by omega)
        (repeat' split) <;> omega
  · (repeat' split) <;> omega
def rhX5 (kf af bf zf : Nat → Int) (y n : Int) (k : Nat) : Int :=
  if f_X5_dayOfRule (kf k) (af k) (bf k) (zf k) y = n ∨ kf k % 2 = 1 ∧ (f_X5_dayOfRule (kf k) (af k) (bf k) (zf k) (y - 1) = n ∨ f_X5_dayOfRule (kf k) (af k) (bf k) (zf k) (y + 1) = n) then 1 else 0
theorem rhX5_s (kf af bf zf : Nat → Int) (y n : Int) (k : Nat) : rhX5 kf af bf zf y n k = 1 ∧ (f_X5_dayOfRule (kf k) (af k) (bf k) (zf k) y = n ∨ kf k % 2 = 1 ∧ (f_X5_dayOfRule (kf k) (af k) (bf k) (zf k) (y - 1) = n ∨ f_X5_dayOfRule (kf k) (af k) (bf k) (zf k) (y + 1) = n)) ∨ rhX5 kf af bf zf y n k = 0 ∧ ¬ (f_X5_dayOfRule (kf k) (af k) (bf k) (zf k) y = n ∨ kf k % 2 = 1 ∧ (f_X5_dayOfRule (kf k) (af k) (bf k) (zf k) (y - 1) = n ∨ f_X5_dayOfRule (kf k) (af k) (bf k) (zf k) (y + 1) = n)) := by
  unfold rhX5
  split
  · exact Or.inl ⟨rfl, by assumption⟩
  · exact Or.inr ⟨rfl, by assumption⟩
def wkX5 (we : Int) (kf af bf zf : Nat → Int) (ru n : Int) : Int :=
  if zsr we (f_X5_weekdayOf n - 1) % 2 = 0 ∧ zfr (rhX5 kf af bf zf (f_X5_yearOf n) n) ru.toNat 0 = -1 then 1 else 0
theorem wkX5_s (we : Int) (kf af bf zf : Nat → Int) (ru n : Int) : wkX5 we kf af bf zf ru n = 1 ∧ (zsr we (f_X5_weekdayOf n - 1) % 2 = 0 ∧ zfr (rhX5 kf af bf zf (f_X5_yearOf n) n) ru.toNat 0 = -1) ∨ wkX5 we kf af bf zf ru n = 0 ∧ ¬ (zsr we (f_X5_weekdayOf n - 1) % 2 = 0 ∧ zfr (rhX5 kf af bf zf (f_X5_yearOf n) n) ru.toNat 0 = -1) := by
  unfold wkX5
  split
  · exact Or.inl ⟨rfl, by assumption⟩
  · exact Or.inr ⟨rfl, by assumption⟩
theorem zsh_step (kf kg : Nat → Int) (kk ii : Int) (h0 : 0 ≤ kk ∧ kk ≤ ii) (h : ∀ j : Nat, kg j = if kk ≤ (j : Int) ∧ (j : Int) < ii then kf (j + 1) else kf j) : ∀ j : Nat, zup kg ii.toNat (kg (ii + 1).toNat) j = if kk ≤ (j : Int) ∧ (j : Int) < ii + 1 then kf (j + 1) else kf j := by
  intro j
  unfold zup
  by_cases e : j = ii.toNat
  · rw [if_pos e, if_pos (by omega), h, if_neg (by omega)]
    congr 1
    omega
  · rw [if_neg e, h]
    by_cases e2 : kk ≤ (j : Int) ∧ (j : Int) < ii
    · rw [if_pos e2, if_pos (by omega)]
    · rw [if_neg e2, if_neg (by omega)]
theorem zsh_end (kf kg : Nat → Int) (kk ii ru : Int) (h : ∀ j : Nat, kg j = if kk ≤ (j : Int) ∧ (j : Int) < ii then kf (j + 1) else kf j) (hi : ru - 1 ≤ ii) : ∀ j : Nat, (j : Int) < ru - 1 → kg j = if (j : Int) < kk then kf j else kf (j + 1) := by
  intro j hj
  rw [h]
  by_cases e : (j : Int) < kk
  · rw [if_pos e, if_neg (by omega)]
  · rw [if_neg e, if_pos (by omega)]
theorem zfill10 (sf : Nat → Int) : ∀ j : Nat, (zup (zup (zup (zup (zup (zup (zup (zup (zup (zup sf (Int.toNat 0) (-1)) (Int.toNat 1) (-1)) (Int.toNat 2) (-1)) (Int.toNat 3) (-1)) (Int.toNat 4) (-1)) (Int.toNat 5) (-1)) (Int.toNat 6) (-1)) (Int.toNat 7) (-1)) (Int.toNat 8) (-1)) (Int.toNat 9) (-1)) j = if j < 10 then -1 else sf j := by
  intro j
  simp only [zup]
  by_cases h : j < 10
  · rw [if_pos h]
    (repeat' split) <;> omega
  · rw [if_neg h]
    (repeat' split) <;> omega
set_option maxHeartbeats 4000000 in
set_option maxRecDepth 100000 in
theorem c_X5_dayOfRule (l : Launch)  (dC : Nat → ClassId) (dI : Nat → Nat → Nat) (cI : ClassId) (g0 : Nat) (ps : Nat) (pk : Nat) (pa : Nat) (pb : Nat) (pq : Nat) (pw : Nat) (pt : Nat) (co : Int) (ru : Int) (we : Int) (wr : Int) (ty : Int) (kf : Nat → Int) (af : Nat → Int) (bf : Nat → Int) (zf : Nat → Int) (kk : Int) (ya : Int) (hp0 : 0 ≤ kk ∧ kk < 12) (hp1 : -2147483648 ≤ ya ∧ ya ≤ 2147483647) (hp2 : (0 ≤ (kf kk.toNat) ∧ (kf kk.toNat) ≤ 3) ∧ ((kf kk.toNat) = 1 ∧ -100 ≤ (af kk.toNat) ∧ (af kk.toNat) ≤ 100 ∨ (kf kk.toNat) ≠ 1 ∧ 1 ≤ (af kk.toNat) ∧ (af kk.toNat) ≤ 12) ∧ ((kf kk.toNat) = 1 ∨ (kf kk.toNat) = 2 ∧ 1 ≤ (bf kk.toNat) ∧ (bf kk.toNat) ≤ 7 ∨ (kf kk.toNat) ≠ 2 ∧ 1 ≤ (bf kk.toNat) ∧ (bf kk.toNat) ≤ 31) ∧ ((kf kk.toNat) ≠ 2 ∨ (zf kk.toNat) = -1 ∨ 1 ≤ (zf kk.toNat) ∧ (zf kk.toNat) ≤ 4)) : Met l yX5_dayOfRule wsX5_dayOfRule ({ frames := 4, cells := 0, slots := 0, locals := 92 }) (zPr (dC, dI) [(cI, .int)] [.ref g0, .int (zi kk), .int (zi ya)] [(g0, .inr (5, [.int (zi co), .ref ps, .int (zi ru), .ref pk, .ref pa, .ref pb, .ref pq, .int (zi we), .int (zi wr), .ref pw, .int (zi ty), .ref pt])), (pk, aI cI 12 kf), (pa, aI cI 12 af), (pb, aI cI 12 bf), (pq, aI cI 12 zf)]) (vp_Si (fun r => r = zi (f_X5_dayOfRule (kf kk.toNat) (af kk.toNat) (bf kk.toNat) (zf kk.toNat) ya))) 0 0 zN := by
  refine Met.ofW (cc := cX5_dayOfRule) (maxL := 4) (ret := (some .int)) (by decide) rfl ?_
  intro p e s m args below meth c s₁ B hml hv
  obtain ⟨rfl, hP, hK⟩ := hv
  have hx := B.exec
  have hb := B.bytes
  have hr := B.returns
  have hts := atoms_spec (ws := wsX5_dayOfRule) B.pre
  have hown : s.vm.findClass RX5 = some m.cls := findClass_of_methodNamed B.named
  have hlocks := B.notSynchronized
  have hl := lv_entry ([.ref g0, .int (zi kk), .int (zi ya)]) (n := 4) (Nat.le_of_ble_eq_true rfl)
  rw [lg_entry_eq]
  generalize (lg_sl ([.ref g0, .int (zi kk), .int (zi ya)]) ++ List.replicate (4 - (lg_sl ([.ref g0, .int (zi kk), .int (zi ya)])).length) Slot.unset).toArray = ls at hl ⊢
  have hl : lv_has ls 4 [(0, .ref g0), (1, .int (zi kk)), (2, .int (zi ya))] := hl
  refine lv_iload_n hx hb dX5_dayOfRule_0 rfl (lv_at hl 2 rfl) ?_
  refine zw_iconst hx hb dX5_dayOfRule_1 ?_
  refine zw_sipush hx hb dX5_dayOfRule_2 (by decide) ?_
  have hh1 := c_X5_in l ya 1 9999 (by omega) (by omega) (by omega)
  refine vp_callSi (va_Run.run (va_runS (As := [.int (zi ya), .int (zi 1), .int (zi 9999)]) (rest := []) ⟨hx, hb, hml, hown, hts⟩ hh1 (va_cwS 3 hts gX5_dayOfRule_X5_in rfl rfl rfl (by decide +kernel) ⟨Nat.le_of_ble_eq_true rfl, Nat.le_of_ble_eq_true rfl⟩) ⟨fun a U g mk q => q, fun U hU hW => ⟨rfl, trivial⟩⟩ rfl rfl hl.1 rfl (lv_room (Nat.le_of_ble_eq_true rfl)) dX5_dayOfRule_5 ⟨Nat.zero_le _, Nat.zero_le _⟩)) (fun r1 (hr1 : r1 = zi (f_X5_in ya 1 9999)) => ?_)
  subst hr1
  have hf1 := b_X5_in ya 1 9999 (by omega) (by omega) (by omega)
  refine zw_if_ne (tgt := 15) hx hb dX5_dayOfRule_8 (by decide) ⟨by omega, by omega⟩ (fun h2 => ?_) (fun h2 => ?_)
  · skip
    refine lv_aload_n hx hb dX5_dayOfRule_15 rfl (lv_at hl 0 rfl) ?_
    refine va_get (D := (dC, dI)) (ci := 5) (v := .ref pk) (C := RX5) (T := TX5) (N := 12) hx hb hts (by decide +kernel) hown hK hP 0 rfl rfl 3 (by decide) (hts (.fieldLink RX5 13 "CivilDaysModel" "kinds" "[I") (by decide +kernel)) (fun _ h9 => h9) rfl dX5_dayOfRule_16 ?_
    refine lv_iload_n hx hb dX5_dayOfRule_19 rfl (lv_at hl 1 rfl) ?_
    refine zw_iald hx hb hK hP 1 0 rfl rfl (by omega) (by omega) ⟨by omega, by omega⟩ dX5_dayOfRule_20 ?_
    refine zw_iconst hx hb dX5_dayOfRule_21 ?_
    refine zw_icmp_ne (tgt := 50) hx hb dX5_dayOfRule_22 (by decide) ⟨by omega, by omega⟩ ⟨by omega, by omega⟩ (fun h3 => ?_) (fun h3 => ?_)
    · skip
      refine lv_aload_n hx hb dX5_dayOfRule_50 rfl (lv_at hl 0 rfl) ?_
      refine va_get (D := (dC, dI)) (ci := 5) (v := .ref pk) (C := RX5) (T := TX5) (N := 12) hx hb hts (by decide +kernel) hown hK hP 0 rfl rfl 3 (by decide) (hts (.fieldLink RX5 13 "CivilDaysModel" "kinds" "[I") (by decide +kernel)) (fun _ h9 => h9) rfl dX5_dayOfRule_51 ?_
      refine lv_iload_n hx hb dX5_dayOfRule_54 rfl (lv_at hl 1 rfl) ?_
      refine zw_iald hx hb hK hP 1 0 rfl rfl (by omega) (by omega) ⟨by omega, by omega⟩ dX5_dayOfRule_55 ?_
      refine zw_iconst hx hb dX5_dayOfRule_56 ?_
      refine zw_icmp_ne (tgt := 83) hx hb dX5_dayOfRule_57 (by decide) ⟨by omega, by omega⟩ ⟨by omega, by omega⟩ (fun h4 => ?_) (fun h4 => ?_)
      · skip
        refine lv_iload_n hx hb dX5_dayOfRule_83 rfl (lv_at hl 2 rfl) ?_
        refine lv_aload_n hx hb dX5_dayOfRule_84 rfl (lv_at hl 0 rfl) ?_
        refine va_get (D := (dC, dI)) (ci := 5) (v := .ref pa) (C := RX5) (T := TX5) (N := 12) hx hb hts (by decide +kernel) hown hK hP 0 rfl rfl 4 (by decide) (hts (.fieldLink RX5 16 "CivilDaysModel" "as" "[I") (by decide +kernel)) (fun _ h9 => h9) rfl dX5_dayOfRule_85 ?_
        refine lv_iload_n hx hb dX5_dayOfRule_88 rfl (lv_at hl 1 rfl) ?_
        refine zw_iald hx hb hK hP 2 0 rfl rfl (by omega) (by omega) ⟨by omega, by omega⟩ dX5_dayOfRule_89 ?_
        refine lv_aload_n hx hb dX5_dayOfRule_90 rfl (lv_at hl 0 rfl) ?_
        refine va_get (D := (dC, dI)) (ci := 5) (v := .ref pb) (C := RX5) (T := TX5) (N := 12) hx hb hts (by decide +kernel) hown hK hP 0 rfl rfl 5 (by decide) (hts (.fieldLink RX5 19 "CivilDaysModel" "bs" "[I") (by decide +kernel)) (fun _ h9 => h9) rfl dX5_dayOfRule_91 ?_
        refine lv_iload_n hx hb dX5_dayOfRule_94 rfl (lv_at hl 1 rfl) ?_
        refine zw_iald hx hb hK hP 3 0 rfl rfl (by omega) (by omega) ⟨by omega, by omega⟩ dX5_dayOfRule_95 ?_
        have hh5 := c_X5_isDate l ya (af kk.toNat) (bf kk.toNat) (by omega) (by omega) (by omega)
        refine vp_callSi (va_Run.run (va_runS (As := [.int (zi ya), .int (zi (af kk.toNat)), .int (zi (bf kk.toNat))]) (rest := []) ⟨hx, hb, hml, hown, hts⟩ hh5 (va_cwS 3 hts gX5_dayOfRule_X5_isDate rfl rfl rfl (by decide +kernel) ⟨Nat.le_of_ble_eq_true rfl, Nat.le_of_ble_eq_true rfl⟩) ⟨fun a U g mk q => q, fun U hU hW => ⟨rfl, trivial⟩⟩ rfl rfl hl.1 rfl (lv_room (Nat.le_of_ble_eq_true rfl)) dX5_dayOfRule_96 ⟨Nat.zero_le _, Nat.zero_le _⟩)) (fun r5 (hr5 : r5 = zi (f_X5_isDate ya (af kk.toNat) (bf kk.toNat))) => ?_)
        subst hr5
        have hf5 := b_X5_isDate ya (af kk.toNat) (bf kk.toNat) (by omega) (by omega) (by omega)
        refine zw_if_ne (tgt := 106) hx hb dX5_dayOfRule_99 (by decide) ⟨by omega, by omega⟩ (fun h6 => ?_) (fun h6 => ?_)
        · skip
          refine lv_iload_n hx hb dX5_dayOfRule_106 rfl (lv_at hl 2 rfl) ?_
          refine lv_aload_n hx hb dX5_dayOfRule_107 rfl (lv_at hl 0 rfl) ?_
          refine va_get (D := (dC, dI)) (ci := 5) (v := .ref pa) (C := RX5) (T := TX5) (N := 12) hx hb hts (by decide +kernel) hown hK hP 0 rfl rfl 4 (by decide) (hts (.fieldLink RX5 16 "CivilDaysModel" "as" "[I") (by decide +kernel)) (fun _ h9 => h9) rfl dX5_dayOfRule_108 ?_
          refine lv_iload_n hx hb dX5_dayOfRule_111 rfl (lv_at hl 1 rfl) ?_
          refine zw_iald hx hb hK hP 2 0 rfl rfl (by omega) (by omega) ⟨by omega, by omega⟩ dX5_dayOfRule_112 ?_
          refine lv_aload_n hx hb dX5_dayOfRule_113 rfl (lv_at hl 0 rfl) ?_
          refine va_get (D := (dC, dI)) (ci := 5) (v := .ref pb) (C := RX5) (T := TX5) (N := 12) hx hb hts (by decide +kernel) hown hK hP 0 rfl rfl 5 (by decide) (hts (.fieldLink RX5 19 "CivilDaysModel" "bs" "[I") (by decide +kernel)) (fun _ h9 => h9) rfl dX5_dayOfRule_114 ?_
          refine lv_iload_n hx hb dX5_dayOfRule_117 rfl (lv_at hl 1 rfl) ?_
          refine zw_iald hx hb hK hP 3 0 rfl rfl (by omega) (by omega) ⟨by omega, by omega⟩ dX5_dayOfRule_118 ?_
          have hh7 := c_X5_numberOf l ya (af kk.toNat) (bf kk.toNat) (by omega) (by omega) (by omega)
          refine vp_callSi (va_Run.run (va_runS (As := [.int (zi ya), .int (zi (af kk.toNat)), .int (zi (bf kk.toNat))]) (rest := []) ⟨hx, hb, hml, hown, hts⟩ hh7 (va_cwS 3 hts gX5_dayOfRule_X5_numberOf rfl rfl rfl (by decide +kernel) ⟨Nat.le_of_ble_eq_true rfl, Nat.le_of_ble_eq_true rfl⟩) ⟨fun a U g mk q => q, fun U hU hW => ⟨rfl, trivial⟩⟩ rfl rfl hl.1 rfl (lv_room (Nat.le_of_ble_eq_true rfl)) dX5_dayOfRule_119 ⟨Nat.zero_le _, Nat.zero_le _⟩)) (fun r7 (hr7 : r7 = zi (f_X5_numberOf ya (af kk.toNat) (bf kk.toNat))) => ?_)
          subst hr7
          have hf7 := b_X5_numberOf ya (af kk.toNat) (bf kk.toNat) (by omega) (by omega) (by omega)
          refine zw_top (fun x8 ex8 => ?_)
          refine lv_istore_n (lv' := [(3, .int (zi x8)), (0, .ref g0), (1, .int (zi kk)), (2, .int (zi ya))]) hx hb dX5_dayOfRule_122 rfl hl (by decide) rfl (fun ls hl => ?_)
          refine lv_aload_n hx hb dX5_dayOfRule_123 rfl (lv_at hl 1 rfl) ?_
          refine va_get (D := (dC, dI)) (ci := 5) (v := .ref pk) (C := RX5) (T := TX5) (N := 12) hx hb hts (by decide +kernel) hown hK hP 0 rfl rfl 3 (by decide) (hts (.fieldLink RX5 13 "CivilDaysModel" "kinds" "[I") (by decide +kernel)) (fun _ h9 => h9) rfl dX5_dayOfRule_124 ?_
          refine lv_iload_n hx hb dX5_dayOfRule_127 rfl (lv_at hl 2 rfl) ?_
          refine zw_iald hx hb hK hP 1 0 rfl rfl (by omega) (by omega) ⟨by omega, by omega⟩ dX5_dayOfRule_128 ?_
          refine zw_if_ne (tgt := 134) hx hb dX5_dayOfRule_129 (by decide) ⟨by omega, by omega⟩ (fun h9 => ?_) (fun h9 => ?_)
          · skip
            refine lv_iload_n hx hb dX5_dayOfRule_134 rfl (lv_at hl 0 rfl) ?_
            have hh10 := c_X5_weekdayOf l x8 (by omega)
            refine vp_callSi (va_Run.run (va_runS (As := [.int (zi x8)]) (rest := []) ⟨hx, hb, hml, hown, hts⟩ hh10 (va_cwS 1 hts gX5_dayOfRule_X5_weekdayOf rfl rfl rfl (by decide +kernel) ⟨Nat.le_of_ble_eq_true rfl, Nat.le_of_ble_eq_true rfl⟩) ⟨fun a U g mk q => q, fun U hU hW => ⟨rfl, trivial⟩⟩ rfl rfl hl.1 rfl (lv_room (Nat.le_of_ble_eq_true rfl)) dX5_dayOfRule_135 ⟨Nat.zero_le _, Nat.zero_le _⟩)) (fun r10 (hr10 : r10 = zi (f_X5_weekdayOf x8)) => ?_)
            subst hr10
            have hf10 := b_X5_weekdayOf x8 (by omega)
            refine zw_bipush hx hb dX5_dayOfRule_138 (by decide) ?_
            refine zw_icmp_ne (tgt := 149) hx hb dX5_dayOfRule_140 (by decide) ⟨by omega, by omega⟩ ⟨by omega, by omega⟩ (fun h11 => ?_) (fun h11 => ?_)
            · skip
              refine lv_iload_n hx hb dX5_dayOfRule_149 rfl (lv_at hl 0 rfl) ?_
              have hh12 := c_X5_weekdayOf l x8 (by omega)
              refine vp_callSi (va_Run.run (va_runS (As := [.int (zi x8)]) (rest := []) ⟨hx, hb, hml, hown, hts⟩ hh12 (va_cwS 1 hts gX5_dayOfRule_X5_weekdayOf rfl rfl rfl (by decide +kernel) ⟨Nat.le_of_ble_eq_true rfl, Nat.le_of_ble_eq_true rfl⟩) ⟨fun a U g mk q => q, fun U hU hW => ⟨rfl, trivial⟩⟩ rfl rfl hl.1 rfl (lv_room (Nat.le_of_ble_eq_true rfl)) dX5_dayOfRule_150 ⟨Nat.zero_le _, Nat.zero_le _⟩)) (fun r12 (hr12 : r12 = zi (f_X5_weekdayOf x8)) => ?_)
              subst hr12
              have hf12 := b_X5_weekdayOf x8 (by omega)
              refine zw_bipush hx hb dX5_dayOfRule_153 (by decide) ?_
              refine zw_icmp_ne (tgt := 164) hx hb dX5_dayOfRule_155 (by decide) ⟨by omega, by omega⟩ ⟨by omega, by omega⟩ (fun h13 => ?_) (fun h13 => ?_)
              · skip
                refine lv_iload_n hx hb dX5_dayOfRule_164 rfl (lv_at hl 0 rfl) ?_
                subst ex8
                exact W.iret (v := zi (f_X5_numberOf ya (af kk.toNat) (bf kk.toNat))) hx hb hr (fun t ht hW => ⟨zi (f_X5_numberOf ya (af kk.toNat) (bf kk.toNat)), rfl, by rw [f_X5_dayOfRule, if_neg h2, if_neg h3, if_neg h4, if_neg h6, if_neg h9, if_neg h11, if_neg h13], ht⟩) (fun q h => by cases h) dX5_dayOfRule_165
              · skip
                refine lv_iload_n hx hb dX5_dayOfRule_158 rfl (lv_at hl 0 rfl) ?_
                refine zw_iconst hx hb dX5_dayOfRule_159 ?_
                refine zw_iadd hx hb dX5_dayOfRule_160 ?_
                refine lv_goto (tgt := 165) hx hb dX5_dayOfRule_161 (by decide) ?_
                subst ex8
                exact W.iret (v := zi ((f_X5_numberOf ya (af kk.toNat) (bf kk.toNat)) + 1)) hx hb hr (fun t ht hW => ⟨zi ((f_X5_numberOf ya (af kk.toNat) (bf kk.toNat)) + 1), rfl, by rw [f_X5_dayOfRule, if_neg h2, if_neg h3, if_neg h4, if_neg h6, if_neg h9, if_neg h11, if_pos h13], ht⟩) (fun q h => by cases h) dX5_dayOfRule_165
            · skip
              refine lv_iload_n hx hb dX5_dayOfRule_143 rfl (lv_at hl 0 rfl) ?_
              refine zw_iconst hx hb dX5_dayOfRule_144 ?_
              refine zw_isub hx hb dX5_dayOfRule_145 ?_
              refine lv_goto (tgt := 165) hx hb dX5_dayOfRule_146 (by decide) ?_
              subst ex8
              exact W.iret (v := zi ((f_X5_numberOf ya (af kk.toNat) (bf kk.toNat)) - 1)) hx hb hr (fun t ht hW => ⟨zi ((f_X5_numberOf ya (af kk.toNat) (bf kk.toNat)) - 1), rfl, by rw [f_X5_dayOfRule, if_neg h2, if_neg h3, if_neg h4, if_neg h6, if_neg h9, if_pos h11], ht⟩) (fun q h => by cases h) dX5_dayOfRule_165
          · skip
            refine lv_iload_n hx hb dX5_dayOfRule_132 rfl (lv_at hl 0 rfl) ?_
            subst ex8
            exact W.iret (v := zi (f_X5_numberOf ya (af kk.toNat) (bf kk.toNat))) hx hb hr (fun t ht hW => ⟨zi (f_X5_numberOf ya (af kk.toNat) (bf kk.toNat)), rfl, by rw [f_X5_dayOfRule, if_neg h2, if_neg h3, if_neg h4, if_neg h6, if_pos h9], ht⟩) (fun q h => by cases h) dX5_dayOfRule_133
        · skip
          refine zw_sipush hx hb dX5_dayOfRule_102 (by decide) ?_
          exact W.iret (v := zi (-1000)) hx hb hr (fun t ht hW => ⟨zi (-1000), rfl, by rw [f_X5_dayOfRule, if_neg h2, if_neg h3, if_neg h4, if_pos h6], ht⟩) (fun q h => by cases h) dX5_dayOfRule_105
      · skip
        refine lv_iload_n hx hb dX5_dayOfRule_60 rfl (lv_at hl 2 rfl) ?_
        refine lv_aload_n hx hb dX5_dayOfRule_61 rfl (lv_at hl 0 rfl) ?_
        refine va_get (D := (dC, dI)) (ci := 5) (v := .ref pa) (C := RX5) (T := TX5) (N := 12) hx hb hts (by decide +kernel) hown hK hP 0 rfl rfl 4 (by decide) (hts (.fieldLink RX5 16 "CivilDaysModel" "as" "[I") (by decide +kernel)) (fun _ h9 => h9) rfl dX5_dayOfRule_62 ?_
        refine lv_iload_n hx hb dX5_dayOfRule_65 rfl (lv_at hl 1 rfl) ?_
        refine zw_iald hx hb hK hP 2 0 rfl rfl (by omega) (by omega) ⟨by omega, by omega⟩ dX5_dayOfRule_66 ?_
        refine lv_aload_n hx hb dX5_dayOfRule_67 rfl (lv_at hl 0 rfl) ?_
        refine va_get (D := (dC, dI)) (ci := 5) (v := .ref pb) (C := RX5) (T := TX5) (N := 12) hx hb hts (by decide +kernel) hown hK hP 0 rfl rfl 5 (by decide) (hts (.fieldLink RX5 19 "CivilDaysModel" "bs" "[I") (by decide +kernel)) (fun _ h9 => h9) rfl dX5_dayOfRule_68 ?_
        refine lv_iload_n hx hb dX5_dayOfRule_71 rfl (lv_at hl 1 rfl) ?_
        refine zw_iald hx hb hK hP 3 0 rfl rfl (by omega) (by omega) ⟨by omega, by omega⟩ dX5_dayOfRule_72 ?_
        refine lv_aload_n hx hb dX5_dayOfRule_73 rfl (lv_at hl 0 rfl) ?_
        refine va_get (D := (dC, dI)) (ci := 5) (v := .ref pq) (C := RX5) (T := TX5) (N := 12) hx hb hts (by decide +kernel) hown hK hP 0 rfl rfl 6 (by decide) (hts (.fieldLink RX5 22 "CivilDaysModel" "cs" "[I") (by decide +kernel)) (fun _ h9 => h9) rfl dX5_dayOfRule_74 ?_
        refine lv_iload_n hx hb dX5_dayOfRule_77 rfl (lv_at hl 1 rfl) ?_
        refine zw_iald hx hb hK hP 4 0 rfl rfl (by omega) (by omega) ⟨by omega, by omega⟩ dX5_dayOfRule_78 ?_
        have hh14 := c_X5_nthOf l ya (af kk.toNat) (bf kk.toNat) (zf kk.toNat) (by omega) (by omega) (by omega) (by omega)
        refine vp_callSi (va_Run.run (va_runS (As := [.int (zi ya), .int (zi (af kk.toNat)), .int (zi (bf kk.toNat)), .int (zi (zf kk.toNat))]) (rest := []) ⟨hx, hb, hml, hown, hts⟩ hh14 (va_cwS 4 hts gX5_dayOfRule_X5_nthOf rfl rfl rfl (by decide +kernel) ⟨Nat.le_of_ble_eq_true rfl, Nat.le_of_ble_eq_true rfl⟩) ⟨fun a U g mk q => q, fun U hU hW => ⟨rfl, trivial⟩⟩ rfl rfl hl.1 rfl (lv_room (Nat.le_of_ble_eq_true rfl)) dX5_dayOfRule_79 ⟨Nat.zero_le _, Nat.zero_le _⟩)) (fun r14 (hr14 : r14 = zi (f_X5_nthOf ya (af kk.toNat) (bf kk.toNat) (zf kk.toNat))) => ?_)
        subst hr14
        have hf14 := b_X5_nthOf ya (af kk.toNat) (bf kk.toNat) (zf kk.toNat) (by omega) (by omega) (by omega) (by omega)
        exact W.iret (v := zi (f_X5_nthOf ya (af kk.toNat) (bf kk.toNat) (zf kk.toNat))) hx hb hr (fun t ht hW => ⟨zi (f_X5_nthOf ya (af kk.toNat) (bf kk.toNat) (zf kk.toNat)), rfl, by rw [f_X5_dayOfRule, if_neg h2, if_neg h3, if_pos h4], ht⟩) (fun q h => by cases h) dX5_dayOfRule_82
    · skip
      refine lv_iload_n hx hb dX5_dayOfRule_25 rfl (lv_at hl 2 rfl) ?_
      refine zw_sipush hx hb dX5_dayOfRule_26 (by decide) ?_
      refine zw_icmp_ge (tgt := 38) hx hb dX5_dayOfRule_29 (by decide) ⟨by omega, by omega⟩ ⟨by omega, by omega⟩ (fun h15 => ?_) (fun h15 => ?_)
      · skip
        refine lv_iload_n hx hb dX5_dayOfRule_38 rfl (lv_at hl 2 rfl) ?_
        have hh16 := c_X5_easterOf l ya (by omega)
        refine vp_callSi (va_Run.run (va_runS (As := [.int (zi ya)]) (rest := []) ⟨hx, hb, hml, hown, hts⟩ hh16 (va_cwS 1 hts gX5_dayOfRule_X5_easterOf rfl rfl rfl (by decide +kernel) ⟨Nat.le_of_ble_eq_true rfl, Nat.le_of_ble_eq_true rfl⟩) ⟨fun a U g mk q => q, fun U hU hW => ⟨rfl, trivial⟩⟩ rfl rfl hl.1 rfl (lv_room (Nat.le_of_ble_eq_true rfl)) dX5_dayOfRule_39 ⟨Nat.zero_le _, Nat.zero_le _⟩)) (fun r16 (hr16 : r16 = zi (f_X5_easterOf ya)) => ?_)
        subst hr16
        have hf16 := b_X5_easterOf ya (by omega)
        refine lv_aload_n hx hb dX5_dayOfRule_42 rfl (lv_at hl 0 rfl) ?_
        refine va_get (D := (dC, dI)) (ci := 5) (v := .ref pa) (C := RX5) (T := TX5) (N := 12) hx hb hts (by decide +kernel) hown hK hP 0 rfl rfl 4 (by decide) (hts (.fieldLink RX5 16 "CivilDaysModel" "as" "[I") (by decide +kernel)) (fun _ h9 => h9) rfl dX5_dayOfRule_43 ?_
        refine lv_iload_n hx hb dX5_dayOfRule_46 rfl (lv_at hl 1 rfl) ?_
        refine zw_iald hx hb hK hP 2 0 rfl rfl (by omega) (by omega) ⟨by omega, by omega⟩ dX5_dayOfRule_47 ?_
        refine zw_iadd hx hb dX5_dayOfRule_48 ?_
        exact W.iret (v := zi ((f_X5_easterOf ya) + (af kk.toNat))) hx hb hr (fun t ht hW => ⟨zi ((f_X5_easterOf ya) + (af kk.toNat)), rfl, by rw [f_X5_dayOfRule, if_neg h2, if_pos h3, if_neg (Int.not_lt.mpr h15)], ht⟩) (fun q h => by cases h) dX5_dayOfRule_49
      · skip
        refine zw_sipush hx hb dX5_dayOfRule_32 (by decide) ?_
        refine lv_goto (tgt := 49) hx hb dX5_dayOfRule_35 (by decide) ?_
        exact W.iret (v := zi (-1000)) hx hb hr (fun t ht hW => ⟨zi (-1000), rfl, by rw [f_X5_dayOfRule, if_neg h2, if_pos h3, if_pos h15], ht⟩) (fun q h => by cases h) dX5_dayOfRule_49
  · skip
    refine zw_sipush hx hb dX5_dayOfRule_11 (by decide) ?_
    exact W.iret (v := zi (-1000)) hx hb hr (fun t ht hW => ⟨zi (-1000), rfl, by rw [f_X5_dayOfRule, if_pos h2], ht⟩) (fun q h => by cases h) dX5_dayOfRule_14

set_option maxHeartbeats 4000000 in
set_option maxRecDepth 100000 in
theorem c_X5_ruleOf (l : Launch)  (dC : Nat → ClassId) (dI : Nat → Nat → Nat) (cI : ClassId) (g0 : Nat) (ps : Nat) (pk : Nat) (pa : Nat) (pb : Nat) (pq : Nat) (pw : Nat) (pt : Nat) (co : Int) (ru : Int) (we : Int) (wr : Int) (ty : Int) (kf : Nat → Int) (af : Nat → Int) (bf : Nat → Int) (zf : Nat → Int) (nu : Int) (hp0 : 0 ≤ nu ∧ nu ≤ 3652058) (hp1 : 0 ≤ ru ∧ ru ≤ 12) (hp2 : ∀ j : Nat, (j : Int) < ru → (0 ≤ (kf j) ∧ (kf j) ≤ 3) ∧ ((kf j) = 1 ∧ -100 ≤ (af j) ∧ (af j) ≤ 100 ∨ (kf j) ≠ 1 ∧ 1 ≤ (af j) ∧ (af j) ≤ 12) ∧ ((kf j) = 1 ∨ (kf j) = 2 ∧ 1 ≤ (bf j) ∧ (bf j) ≤ 7 ∨ (kf j) ≠ 2 ∧ 1 ≤ (bf j) ∧ (bf j) ≤ 31) ∧ ((kf j) ≠ 2 ∨ (zf j) = -1 ∨ 1 ≤ (zf j) ∧ (zf j) ≤ 4)) : Met l yX5_ruleOf wsX5_ruleOf ({ frames := 5, cells := 0, slots := 0, locals := 115 }) (zPr (dC, dI) [(cI, .int)] [.ref g0, .int (zi nu)] [(g0, .inr (5, [.int (zi co), .ref ps, .int (zi ru), .ref pk, .ref pa, .ref pb, .ref pq, .int (zi we), .int (zi wr), .ref pw, .int (zi ty), .ref pt])), (pk, aI cI 12 kf), (pa, aI cI 12 af), (pb, aI cI 12 bf), (pq, aI cI 12 zf)]) (vp_Si (fun r => r = zi (zfr (rhX5 kf af bf zf (f_X5_yearOf nu) nu) ru.toNat 0))) 0 0 zN := by
  refine Met.ofW (cc := cX5_ruleOf) (maxL := 4) (ret := (some .int)) (by decide) rfl ?_
  intro p e s m args below meth c s₁ B hml hv
  obtain ⟨rfl, hP, hK⟩ := hv
  have hx := B.exec
  have hb := B.bytes
  have hr := B.returns
  have hts := atoms_spec (ws := wsX5_ruleOf) B.pre
  have hown : s.vm.findClass RX5 = some m.cls := findClass_of_methodNamed B.named
  have hlocks := B.notSynchronized
  have loop7 : ∀ (fu : Nat) (kk : Int), (0 ≤ kk ∧ kk ≤ ru) → (zfr (rhX5 kf af bf zf (f_X5_yearOf nu) nu) (ru - kk).toNat kk.toNat = zfr (rhX5 kf af bf zf (f_X5_yearOf nu) nu) ru.toNat 0) → (ru - kk < fu) → ∀ (ls : Array Slot), lv_has ls 4 [(3, .int (zi kk)), (0, .ref g0), (1, .int (zi nu)), (2, .int (zi (f_X5_yearOf nu)))] → W p l e (headSpec wsX5_ruleOf ({ frames := 5, cells := 0, slots := 0, locals := 115 })).room s m ([.ref g0, .int (zi nu)] : List Value).toArray below meth c s.heap [] 0 0 (MQ below (vp_Si (fun r => r = zi (zfr (rhX5 kf af bf zf (f_X5_yearOf nu) nu) ru.toNat 0))) ([.ref g0, .int (zi nu)] : List Value).toArray s 0 0 zN) (F0 m 7 ls []) := by
    intro fu
    induction fu with
    | zero =>
      intro kk hi0 hi1 hfu ls hl
      exact absurd hfu (by omega)
    | succ fu ih =>
      intro kk hi0 hi1 hfu ls hl
      have hyb := b_X5_yearOf nu (by omega)
      refine lv_iload_n hx hb dX5_ruleOf_7 rfl (lv_at hl 0 rfl) ?_
      refine lv_aload_n hx hb dX5_ruleOf_8 rfl (lv_at hl 1 rfl) ?_
      refine va_get (D := (dC, dI)) (ci := 5) (v := .int (zi ru)) (C := RX5) (T := TX5) (N := 12) hx hb hts (by decide +kernel) hown hK hP 0 rfl rfl 2 (by decide) (hts (.fieldLink RX5 122 "CivilDaysModel" "rules" "I") (by decide +kernel)) (fun _ h9 => h9) rfl dX5_ruleOf_9 ?_
      refine zw_icmp_ge (tgt := 69) hx hb dX5_ruleOf_12 (by decide) ⟨by omega, by omega⟩ ⟨by omega, by omega⟩ (fun h1 => ?_) (fun h1 => ?_)
      · skip
        have hen := zfr_end (rhX5 kf af bf zf (f_X5_yearOf nu) nu) ru kk (by omega)
        refine zw_iconst hx hb dX5_ruleOf_69 ?_
        exact W.iret (v := zi (-1)) hx hb hr (fun t ht hW => ⟨zi (-1), rfl, congrArg zi (by omega), ht⟩) (fun q h => by cases h) dX5_ruleOf_70
      · skip
        have hrk := hp2 kk.toNat (by omega)
        have hst := zfr_step (rhX5 kf af bf zf (f_X5_yearOf nu) nu) ru kk (by omega)
        have hsp := rhX5_s kf af bf zf (f_X5_yearOf nu) nu kk.toNat
        have hbd1 := b_X5_dayOfRule (kf kk.toNat) (af kk.toNat) (bf kk.toNat) (zf kk.toNat) ((f_X5_yearOf nu)) (by omega) (by omega)
        have hbd2 := b_X5_dayOfRule (kf kk.toNat) (af kk.toNat) (bf kk.toNat) (zf kk.toNat) ((f_X5_yearOf nu) - 1) (by omega) (by omega)
        have hbd3 := b_X5_dayOfRule (kf kk.toNat) (af kk.toNat) (bf kk.toNat) (zf kk.toNat) ((f_X5_yearOf nu) + 1) (by omega) (by omega)
        refine lv_aload_n hx hb dX5_ruleOf_15 rfl (lv_at hl 1 rfl) ?_
        refine lv_iload_n hx hb dX5_ruleOf_16 rfl (lv_at hl 0 rfl) ?_
        refine lv_iload_n hx hb dX5_ruleOf_17 rfl (lv_at hl 3 rfl) ?_
        have hh2 := c_X5_dayOfRule l dC dI cI g0 ps pk pa pb pq pw pt co ru we wr ty kf af bf zf kk (f_X5_yearOf nu) (by omega) (by omega) (by first | exact hrk | exact hp2 _ (by omega))
        have hPc := hP.sub (ws' := [(g0, .inr (5, [.int (zi co), .ref ps, .int (zi ru), .ref pk, .ref pa, .ref pb, .ref pq, .int (zi we), .int (zi wr), .ref pw, .int (zi ty), .ref pt])), (pk, aI cI 12 kf), (pa, aI cI 12 af), (pb, aI cI 12 bf), (pq, aI cI 12 zf)]) [0, 1, 2, 3, 4] rfl
        have hKc : va_K (dC, dI) vwCl [(cI, .int)] s := hK
        refine vp_callSi (va_Run.run (va_runV (As := [.int (zi kk), .int (zi (f_X5_yearOf nu))]) (rest := []) ⟨hx, hb, hml, hown, hts⟩ hh2 (cwV 2 hts gX5_ruleOf_X5_dayOfRule rfl rfl rfl (by decide +kernel) ⟨Nat.le_of_ble_eq_true rfl, Nat.le_of_ble_eq_true rfl⟩) ⟨zPr.blind _ _ _ _, va_recv hKc hPc (ci := 5) (q0 := 0) rfl rfl, fun U hU hW => ⟨rfl, by rw [hU]; exact hPc, va_K.moved hW.alike hKc⟩⟩ rfl rfl hl.1 rfl (lv_room (Nat.le_of_ble_eq_true rfl)) dX5_ruleOf_18 ⟨Nat.le_of_ble_eq_true rfl, Nat.le_of_ble_eq_true rfl⟩)) (fun r2 (hr2 : r2 = zi (f_X5_dayOfRule (kf kk.toNat) (af kk.toNat) (bf kk.toNat) (zf kk.toNat) (f_X5_yearOf nu))) => ?_)
        subst hr2
        refine lv_iload_n hx hb dX5_ruleOf_21 rfl (lv_at hl 2 rfl) ?_
        refine zw_icmp_eq (tgt := 61) hx hb dX5_ruleOf_22 (by decide) ⟨by omega, by omega⟩ ⟨by omega, by omega⟩ (fun h3 => ?_) (fun h3 => ?_)
        · skip
          refine lv_iload_n hx hb dX5_ruleOf_61 rfl (lv_at hl 0 rfl) ?_
          exact W.iret (v := zi kk) hx hb hr (fun t ht hW => ⟨zi kk, rfl, congrArg zi (by omega), ht⟩) (fun q h => by cases h) dX5_ruleOf_62
        · skip
          refine lv_aload_n hx hb dX5_ruleOf_25 rfl (lv_at hl 1 rfl) ?_
          refine va_get (D := (dC, dI)) (ci := 5) (v := .ref pk) (C := RX5) (T := TX5) (N := 12) hx hb hts (by decide +kernel) hown hK hP 0 rfl rfl 3 (by decide) (hts (.fieldLink RX5 13 "CivilDaysModel" "kinds" "[I") (by decide +kernel)) (fun _ h9 => h9) rfl dX5_ruleOf_26 ?_
          refine lv_iload_n hx hb dX5_ruleOf_29 rfl (lv_at hl 0 rfl) ?_
          refine zw_iald hx hb hK hP 1 0 rfl rfl (by omega) (by omega) ⟨by omega, by omega⟩ dX5_ruleOf_30 ?_
          refine zw_iconst hx hb dX5_ruleOf_31 ?_
          refine zw_irem hx hb dX5_ruleOf_32 (by omega) ⟨by omega, by omega⟩ ⟨by omega, by omega⟩ (by omega) ?_
          refine zw_iconst hx hb dX5_ruleOf_33 ?_
          refine zw_icmp_ne (tgt := 63) hx hb dX5_ruleOf_34 (by decide) ⟨by omega, by omega⟩ ⟨by omega, by omega⟩ (fun h4 => ?_) (fun h4 => ?_)
          · skip
            obtain ⟨x5, ex5⟩ : ∃ z : Int, z = kk + 1 := ⟨_, rfl⟩
            refine zw_iinc (lv' := [(3, .int (zi x5)), (0, .ref g0), (1, .int (zi nu)), (2, .int (zi (f_X5_yearOf nu)))]) (k := 0) hx hb ex5 dX5_ruleOf_63 hl rfl (by decide) rfl (fun ls hl => ?_)
            refine lv_goto (tgt := 7) hx hb dX5_ruleOf_66 (by decide) ?_
            have hyb := b_X5_yearOf nu (by omega)
            subst ex5
            exact ih (kk + 1) (by omega) (by first | omega | simp) (by omega) ls (lv_sub hl [0, 1, 2, 3] rfl)
          · skip
            refine lv_aload_n hx hb dX5_ruleOf_37 rfl (lv_at hl 1 rfl) ?_
            refine lv_iload_n hx hb dX5_ruleOf_38 rfl (lv_at hl 0 rfl) ?_
            refine lv_iload_n hx hb dX5_ruleOf_39 rfl (lv_at hl 3 rfl) ?_
            refine zw_iconst hx hb dX5_ruleOf_40 ?_
            refine zw_isub hx hb dX5_ruleOf_41 ?_
            have hh6 := c_X5_dayOfRule l dC dI cI g0 ps pk pa pb pq pw pt co ru we wr ty kf af bf zf kk ((f_X5_yearOf nu) - 1) (by omega) (by omega) (by first | exact hrk | exact hp2 _ (by omega))
            have hPc := hP.sub (ws' := [(g0, .inr (5, [.int (zi co), .ref ps, .int (zi ru), .ref pk, .ref pa, .ref pb, .ref pq, .int (zi we), .int (zi wr), .ref pw, .int (zi ty), .ref pt])), (pk, aI cI 12 kf), (pa, aI cI 12 af), (pb, aI cI 12 bf), (pq, aI cI 12 zf)]) [0, 1, 2, 3, 4] rfl
            have hKc : va_K (dC, dI) vwCl [(cI, .int)] s := hK
            refine vp_callSi (va_Run.run (va_runV (As := [.int (zi kk), .int (zi ((f_X5_yearOf nu) - 1))]) (rest := []) ⟨hx, hb, hml, hown, hts⟩ hh6 (cwV 2 hts gX5_ruleOf_X5_dayOfRule rfl rfl rfl (by decide +kernel) ⟨Nat.le_of_ble_eq_true rfl, Nat.le_of_ble_eq_true rfl⟩) ⟨zPr.blind _ _ _ _, va_recv hKc hPc (ci := 5) (q0 := 0) rfl rfl, fun U hU hW => ⟨rfl, by rw [hU]; exact hPc, va_K.moved hW.alike hKc⟩⟩ rfl rfl hl.1 rfl (lv_room (Nat.le_of_ble_eq_true rfl)) dX5_ruleOf_42 ⟨Nat.le_of_ble_eq_true rfl, Nat.le_of_ble_eq_true rfl⟩)) (fun r6 (hr6 : r6 = zi (f_X5_dayOfRule (kf kk.toNat) (af kk.toNat) (bf kk.toNat) (zf kk.toNat) ((f_X5_yearOf nu) - 1))) => ?_)
            subst hr6
            refine lv_iload_n hx hb dX5_ruleOf_45 rfl (lv_at hl 2 rfl) ?_
            refine zw_icmp_eq (tgt := 61) hx hb dX5_ruleOf_46 (by decide) ⟨by omega, by omega⟩ ⟨by omega, by omega⟩ (fun h7 => ?_) (fun h7 => ?_)
            · skip
              refine lv_iload_n hx hb dX5_ruleOf_61 rfl (lv_at hl 0 rfl) ?_
              exact W.iret (v := zi kk) hx hb hr (fun t ht hW => ⟨zi kk, rfl, congrArg zi (by omega), ht⟩) (fun q h => by cases h) dX5_ruleOf_62
            · skip
              refine lv_aload_n hx hb dX5_ruleOf_49 rfl (lv_at hl 1 rfl) ?_
              refine lv_iload_n hx hb dX5_ruleOf_50 rfl (lv_at hl 0 rfl) ?_
              refine lv_iload_n hx hb dX5_ruleOf_51 rfl (lv_at hl 3 rfl) ?_
              refine zw_iconst hx hb dX5_ruleOf_52 ?_
              refine zw_iadd hx hb dX5_ruleOf_53 ?_
              have hh8 := c_X5_dayOfRule l dC dI cI g0 ps pk pa pb pq pw pt co ru we wr ty kf af bf zf kk ((f_X5_yearOf nu) + 1) (by omega) (by omega) (by first | exact hrk | exact hp2 _ (by omega))
              have hPc := hP.sub (ws' := [(g0, .inr (5, [.int (zi co), .ref ps, .int (zi ru), .ref pk, .ref pa, .ref pb, .ref pq, .int (zi we), .int (zi wr), .ref pw, .int (zi ty), .ref pt])), (pk, aI cI 12 kf), (pa, aI cI 12 af), (pb, aI cI 12 bf), (pq, aI cI 12 zf)]) [0, 1, 2, 3, 4] rfl
              have hKc : va_K (dC, dI) vwCl [(cI, .int)] s := hK
              refine vp_callSi (va_Run.run (va_runV (As := [.int (zi kk), .int (zi ((f_X5_yearOf nu) + 1))]) (rest := []) ⟨hx, hb, hml, hown, hts⟩ hh8 (cwV 2 hts gX5_ruleOf_X5_dayOfRule rfl rfl rfl (by decide +kernel) ⟨Nat.le_of_ble_eq_true rfl, Nat.le_of_ble_eq_true rfl⟩) ⟨zPr.blind _ _ _ _, va_recv hKc hPc (ci := 5) (q0 := 0) rfl rfl, fun U hU hW => ⟨rfl, by rw [hU]; exact hPc, va_K.moved hW.alike hKc⟩⟩ rfl rfl hl.1 rfl (lv_room (Nat.le_of_ble_eq_true rfl)) dX5_ruleOf_54 ⟨Nat.le_of_ble_eq_true rfl, Nat.le_of_ble_eq_true rfl⟩)) (fun r8 (hr8 : r8 = zi (f_X5_dayOfRule (kf kk.toNat) (af kk.toNat) (bf kk.toNat) (zf kk.toNat) ((f_X5_yearOf nu) + 1))) => ?_)
              subst hr8
              refine lv_iload_n hx hb dX5_ruleOf_57 rfl (lv_at hl 2 rfl) ?_
              refine zw_icmp_ne (tgt := 63) hx hb dX5_ruleOf_58 (by decide) ⟨by omega, by omega⟩ ⟨by omega, by omega⟩ (fun h9 => ?_) (fun h9 => ?_)
              · skip
                obtain ⟨x10, ex10⟩ : ∃ z : Int, z = kk + 1 := ⟨_, rfl⟩
                refine zw_iinc (lv' := [(3, .int (zi x10)), (0, .ref g0), (1, .int (zi nu)), (2, .int (zi (f_X5_yearOf nu)))]) (k := 0) hx hb ex10 dX5_ruleOf_63 hl rfl (by decide) rfl (fun ls hl => ?_)
                refine lv_goto (tgt := 7) hx hb dX5_ruleOf_66 (by decide) ?_
                have hyb := b_X5_yearOf nu (by omega)
                subst ex10
                exact ih (kk + 1) (by omega) (by first | omega | simp) (by omega) ls (lv_sub hl [0, 1, 2, 3] rfl)
              · skip
                refine lv_iload_n hx hb dX5_ruleOf_61 rfl (lv_at hl 0 rfl) ?_
                exact W.iret (v := zi kk) hx hb hr (fun t ht hW => ⟨zi kk, rfl, congrArg zi (by omega), ht⟩) (fun q h => by cases h) dX5_ruleOf_62
  have hl := lv_entry ([.ref g0, .int (zi nu)]) (n := 4) (Nat.le_of_ble_eq_true rfl)
  rw [lg_entry_eq]
  generalize (lg_sl ([.ref g0, .int (zi nu)]) ++ List.replicate (4 - (lg_sl ([.ref g0, .int (zi nu)])).length) Slot.unset).toArray = ls at hl ⊢
  have hl : lv_has ls 4 [(0, .ref g0), (1, .int (zi nu))] := hl
  refine lv_iload_n hx hb dX5_ruleOf_0 rfl (lv_at hl 1 rfl) ?_
  have hh11 := c_X5_yearOf l nu (by omega)
  refine vp_callSi (va_Run.run (va_runS (As := [.int (zi nu)]) (rest := []) ⟨hx, hb, hml, hown, hts⟩ hh11 (va_cwS 1 hts gX5_ruleOf_X5_yearOf rfl rfl rfl (by decide +kernel) ⟨Nat.le_of_ble_eq_true rfl, Nat.le_of_ble_eq_true rfl⟩) ⟨fun a U g mk q => q, fun U hU hW => ⟨rfl, trivial⟩⟩ rfl rfl hl.1 rfl (lv_room (Nat.le_of_ble_eq_true rfl)) dX5_ruleOf_1 ⟨Nat.zero_le _, Nat.zero_le _⟩)) (fun r11 (hr11 : r11 = zi (f_X5_yearOf nu)) => ?_)
  subst hr11
  have hf11 := b_X5_yearOf nu (by omega)
  refine zw_top (fun x12 ex12 => ?_)
  refine lv_istore_n (lv' := [(2, .int (zi x12)), (0, .ref g0), (1, .int (zi nu))]) hx hb dX5_ruleOf_4 rfl hl (by decide) rfl (fun ls hl => ?_)
  have hyb := b_X5_yearOf nu (by omega)
  refine zw_iconst hx hb dX5_ruleOf_5 ?_
  refine lv_istore_n (lv' := [(3, .int (zi 0)), (2, .int (zi x12)), (0, .ref g0), (1, .int (zi nu))]) hx hb dX5_ruleOf_6 rfl hl (by decide) rfl (fun ls hl => ?_)
  have hyb := b_X5_yearOf nu (by omega)
  subst ex12
  exact loop7 (13) 0 (by omega) (by first | omega | simp) (by omega) ls (lv_sub hl [0, 2, 3, 1] rfl)

set_option maxHeartbeats 4000000 in
set_option maxRecDepth 100000 in
theorem c_X5_works (l : Launch)  (dC : Nat → ClassId) (dI : Nat → Nat → Nat) (cI : ClassId) (g0 : Nat) (ps : Nat) (pk : Nat) (pa : Nat) (pb : Nat) (pq : Nat) (pw : Nat) (pt : Nat) (co : Int) (ru : Int) (we : Int) (wr : Int) (ty : Int) (kf : Nat → Int) (af : Nat → Int) (bf : Nat → Int) (zf : Nat → Int) (nu : Int) (hp0 : 0 ≤ nu ∧ nu ≤ 3652058) (hp1 : 0 ≤ ru ∧ ru ≤ 12) (hp2 : ∀ j : Nat, (j : Int) < ru → (0 ≤ (kf j) ∧ (kf j) ≤ 3) ∧ ((kf j) = 1 ∧ -100 ≤ (af j) ∧ (af j) ≤ 100 ∨ (kf j) ≠ 1 ∧ 1 ≤ (af j) ∧ (af j) ≤ 12) ∧ ((kf j) = 1 ∨ (kf j) = 2 ∧ 1 ≤ (bf j) ∧ (bf j) ≤ 7 ∨ (kf j) ≠ 2 ∧ 1 ≤ (bf j) ∧ (bf j) ≤ 31) ∧ ((kf j) ≠ 2 ∨ (zf j) = -1 ∨ 1 ≤ (zf j) ∧ (zf j) ≤ 4)) (hp3 : 0 ≤ we ∧ we ≤ 127) : Met l yX5_works wsX5_works ({ frames := 6, cells := 0, slots := 0, locals := 138 }) (zPr (dC, dI) [(cI, .int)] [.ref g0, .int (zi nu)] [(g0, .inr (5, [.int (zi co), .ref ps, .int (zi ru), .ref pk, .ref pa, .ref pb, .ref pq, .int (zi we), .int (zi wr), .ref pw, .int (zi ty), .ref pt])), (pk, aI cI 12 kf), (pa, aI cI 12 af), (pb, aI cI 12 bf), (pq, aI cI 12 zf)]) (vp_Si (fun r => r = zi (wkX5 we kf af bf zf ru nu))) 0 0 zN := by
  refine Met.ofW (cc := cX5_works) (maxL := 2) (ret := (some .boolean)) (by decide) rfl ?_
  intro p e s m args below meth c s₁ B hml hv
  obtain ⟨rfl, hP, hK⟩ := hv
  have hx := B.exec
  have hb := B.bytes
  have hr := B.returns
  have hts := atoms_spec (ws := wsX5_works) B.pre
  have hown : s.vm.findClass RX5 = some m.cls := findClass_of_methodNamed B.named
  have hlocks := B.notSynchronized
  have hl := lv_entry ([.ref g0, .int (zi nu)]) (n := 2) (Nat.le_of_ble_eq_true rfl)
  rw [lg_entry_eq]
  generalize (lg_sl ([.ref g0, .int (zi nu)]) ++ List.replicate (2 - (lg_sl ([.ref g0, .int (zi nu)])).length) Slot.unset).toArray = ls at hl ⊢
  have hl : lv_has ls 2 [(0, .ref g0), (1, .int (zi nu))] := hl
  have hpr := hp2
  have hwd := b_X5_weekdayOf nu (by omega)
  have hwk := wkX5_s we kf af bf zf ru nu
  refine lv_aload_n hx hb dX5_works_0 rfl (lv_at hl 0 rfl) ?_
  refine va_get (D := (dC, dI)) (ci := 5) (v := .int (zi we)) (C := RX5) (T := TX5) (N := 12) hx hb hts (by decide +kernel) hown hK hP 0 rfl rfl 7 (by decide) (hts (.fieldLink RX5 25 "CivilDaysModel" "weekend" "I") (by decide +kernel)) (fun _ h9 => h9) rfl dX5_works_1 ?_
  refine lv_iload_n hx hb dX5_works_4 rfl (lv_at hl 1 rfl) ?_
  have hh1 := c_X5_weekdayOf l nu (by omega)
  refine vp_callSi (va_Run.run (va_runS (As := [.int (zi nu)]) (rest := [.int (zi we)]) ⟨hx, hb, hml, hown, hts⟩ hh1 (va_cwS 1 hts gX5_works_X5_weekdayOf rfl rfl rfl (by decide +kernel) ⟨Nat.le_of_ble_eq_true rfl, Nat.le_of_ble_eq_true rfl⟩) ⟨fun a U g mk q => q, fun U hU hW => ⟨rfl, trivial⟩⟩ rfl rfl hl.1 rfl (lv_room (Nat.le_of_ble_eq_true rfl)) dX5_works_5 ⟨Nat.zero_le _, Nat.zero_le _⟩)) (fun r1 (hr1 : r1 = zi (f_X5_weekdayOf nu)) => ?_)
  subst hr1
  have hf1 := b_X5_weekdayOf nu (by omega)
  refine zw_iconst hx hb dX5_works_8 ?_
  refine zw_isub hx hb dX5_works_9 ?_
  refine zw_ishr hx hb dX5_works_10 (by omega) (by omega) ?_
  have hsr2 := zsr_b we ((f_X5_weekdayOf nu) - 1) (by omega)
  refine zw_iconst hx hb dX5_works_11 ?_
  refine zw_iand1 hx hb dX5_works_12 (by omega) ?_
  refine zw_if_ne (tgt := 29) hx hb dX5_works_13 (by decide) ⟨by omega, by omega⟩ (fun h3 => ?_) (fun h3 => ?_)
  · skip
    refine zw_iconst hx hb dX5_works_29 ?_
    exact W.zret (v := zi 0) hx hb hr (zi_nb (by omega)) (fun t ht hW => ⟨zi 0, rfl, congrArg zi (by omega), ht⟩) (fun q h => by cases h) dX5_works_30
  · skip
    refine lv_aload_n hx hb dX5_works_16 rfl (lv_at hl 0 rfl) ?_
    refine lv_iload_n hx hb dX5_works_17 rfl (lv_at hl 1 rfl) ?_
    have hh4 := c_X5_ruleOf l dC dI cI g0 ps pk pa pb pq pw pt co ru we wr ty kf af bf zf nu (by omega) (by omega) (by exact hpr)
    have hPc := hP.sub (ws' := [(g0, .inr (5, [.int (zi co), .ref ps, .int (zi ru), .ref pk, .ref pa, .ref pb, .ref pq, .int (zi we), .int (zi wr), .ref pw, .int (zi ty), .ref pt])), (pk, aI cI 12 kf), (pa, aI cI 12 af), (pb, aI cI 12 bf), (pq, aI cI 12 zf)]) [0, 1, 2, 3, 4] rfl
    have hKc : va_K (dC, dI) vwCl [(cI, .int)] s := hK
    refine vp_callSi (va_Run.run (va_runV (As := [.int (zi nu)]) (rest := []) ⟨hx, hb, hml, hown, hts⟩ hh4 (cwV 1 hts gX5_works_X5_ruleOf rfl rfl rfl (by decide +kernel) ⟨Nat.le_of_ble_eq_true rfl, Nat.le_of_ble_eq_true rfl⟩) ⟨zPr.blind _ _ _ _, va_recv hKc hPc (ci := 5) (q0 := 0) rfl rfl, fun U hU hW => ⟨rfl, by rw [hU]; exact hPc, va_K.moved hW.alike hKc⟩⟩ rfl rfl hl.1 rfl (lv_room (Nat.le_of_ble_eq_true rfl)) dX5_works_18 ⟨Nat.le_of_ble_eq_true rfl, Nat.le_of_ble_eq_true rfl⟩)) (fun r4 (hr4 : r4 = zi (zfr (rhX5 kf af bf zf (f_X5_yearOf nu) nu) ru.toNat 0)) => ?_)
    subst hr4
    have hzb := zfr_b (rhX5 kf af bf zf (f_X5_yearOf nu) nu) ru.toNat 0
    refine zw_iconst hx hb dX5_works_21 ?_
    refine zw_icmp_ne (tgt := 29) hx hb dX5_works_22 (by decide) ⟨by omega, by omega⟩ ⟨by omega, by omega⟩ (fun h5 => ?_) (fun h5 => ?_)
    · skip
      refine zw_iconst hx hb dX5_works_29 ?_
      exact W.zret (v := zi 0) hx hb hr (zi_nb (by omega)) (fun t ht hW => ⟨zi 0, rfl, congrArg zi (by omega), ht⟩) (fun q h => by cases h) dX5_works_30
    · skip
      refine zw_iconst hx hb dX5_works_25 ?_
      refine lv_goto (tgt := 30) hx hb dX5_works_26 (by decide) ?_
      exact W.zret (v := zi 1) hx hb hr (zi_nb (by omega)) (fun t ht hW => ⟨zi 1, rfl, congrArg zi (by omega), ht⟩) (fun q h => by cases h) dX5_works_30

set_option maxHeartbeats 4000000 in
set_option maxRecDepth 100000 in
theorem c_X5_isHoliday_1 (l : Launch)  (dC : Nat → ClassId) (dI : Nat → Nat → Nat) (cI : ClassId) (g0 : Nat) (ps : Nat) (pk : Nat) (pa : Nat) (pb : Nat) (pq : Nat) (pw : Nat) (pt : Nat) (co : Int) (ru : Int) (we : Int) (wr : Int) (ty : Int) (sf : Nat → Int) (kf : Nat → Int) (af : Nat → Int) (bf : Nat → Int) (zf : Nat → Int) (sl : Int) (sz : Nat) (hp0 : -2147483648 ≤ sl ∧ sl ≤ 2147483647) (hp1 : sl < 0 ∨ 9 < sl) : Met l yX5_isHoliday wsX5_isHoliday ({ frames := 2, cells := 0, slots := 0, locals := 42 }) (zPw (dC, dI) [(cI, .int)] sz [.ref g0, .int (zi sl)] [(g0, .inr (5, [.int (zi co), .ref ps, .int (zi ru), .ref pk, .ref pa, .ref pb, .ref pq, .int (zi we), .int (zi wr), .ref pw, .int (zi ty), .ref pt])), (ps, aI cI 10 sf), (pk, aI cI 12 kf), (pa, aI cI 12 af), (pb, aI cI 12 bf), (pq, aI cI 12 zf)]) (va_Qi (fun (r : Int32) (_ : Unit) => r = zi 0) (zB (dC, dI) [(cI, .int)] (va_A [(g0, .inr (5, [.int (zi co), .ref ps, .int (zi ru), .ref pk, .ref pa, .ref pb, .ref pq, .int (zi we), .int (zi wr), .ref pw, .int (zi ty), .ref pt])), (ps, aI cI 10 sf), (pk, aI cI 12 kf), (pa, aI cI 12 af), (pb, aI cI 12 bf), (pq, aI cI 12 zf)] sz) [(g0, .inr (5, [.int (zi 1), .ref ps, .int (zi ru), .ref pk, .ref pa, .ref pb, .ref pq, .int (zi we), .int (zi wr), .ref pw, .int (zi ty), .ref pt])), (ps, aI cI 10 sf), (pk, aI cI 12 kf), (pa, aI cI 12 af), (pb, aI cI 12 bf), (pq, aI cI 12 zf)]) (va_A [(g0, .inr (5, [.int (zi co), .ref ps, .int (zi ru), .ref pk, .ref pa, .ref pb, .ref pq, .int (zi we), .int (zi wr), .ref pw, .int (zi ty), .ref pt])), (ps, aI cI 10 sf), (pk, aI cI 12 kf), (pa, aI cI 12 af), (pb, aI cI 12 bf), (pq, aI cI 12 zf)] sz)) 0 0 (va_A [(g0, .inr (5, [.int (zi co), .ref ps, .int (zi ru), .ref pk, .ref pa, .ref pb, .ref pq, .int (zi we), .int (zi wr), .ref pw, .int (zi ty), .ref pt])), (ps, aI cI 10 sf), (pk, aI cI 12 kf), (pa, aI cI 12 af), (pb, aI cI 12 bf), (pq, aI cI 12 zf)] sz) := by
  refine Met.ofW (cc := cX5_isHoliday) (maxL := 2) (ret := (some .int)) (by decide) rfl ?_
  intro p e s m args below meth c s₁ B hml hv
  obtain ⟨rfl, hsz, hP, hK, hD0⟩ := hv
  have hx := B.exec
  have hb := B.bytes
  have hr := B.returns
  have hts := atoms_spec (ws := wsX5_isHoliday) B.pre
  have hown : s.vm.findClass RX5 = some m.cls := findClass_of_methodNamed B.named
  have hlocks := B.notSynchronized
  subst hsz
  have hD := hD0.self (sz := s.heap.size)
  generalize hAe : va_A [(g0, .inr (5, [.int (zi co), .ref ps, .int (zi ru), .ref pk, .ref pa, .ref pb, .ref pq, .int (zi we), .int (zi wr), .ref pw, .int (zi ty), .ref pt])), (ps, aI cI 10 sf), (pk, aI cI 12 kf), (pa, aI cI 12 af), (pb, aI cI 12 bf), (pq, aI cI 12 zf)] s.heap.size = A at hD ⊢
  have hA : ∀ q : Nat, s.heap.size ≤ q → A q := fun q h => by rw [← hAe]; exact Or.inr h
  have hS : va_S A s.heap s.heap [] := va_S.rf
  have hP : va_P (dC, dI) vwCl [(g0, .inr (5, [.int (zi co), .ref ps, .int (zi ru), .ref pk, .ref pa, .ref pb, .ref pq, .int (zi we), .int (zi wr), .ref pw, .int (zi ty), .ref pt])), (ps, aI cI 10 sf), (pk, aI cI 12 kf), (pa, aI cI 12 af), (pb, aI cI 12 bf), (pq, aI cI 12 zf)] s.heap := hP
  have hl := lv_entry ([.ref g0, .int (zi sl)]) (n := 2) (Nat.le_of_ble_eq_true rfl)
  rw [lg_entry_eq]
  generalize (lg_sl ([.ref g0, .int (zi sl)]) ++ List.replicate (2 - (lg_sl ([.ref g0, .int (zi sl)])).length) Slot.unset).toArray = ls at hl ⊢
  have hl : lv_has ls 2 [(0, .ref g0), (1, .int (zi sl))] := hl
  refine lv_aload_n hx hb dX5_isHoliday_0 rfl (lv_at hl 0 rfl) ?_
  refine lv_iload_n hx hb dX5_isHoliday_1 rfl (lv_at hl 1 rfl) ?_
  have hh1 := c_X5_isSlot l sl (by omega)
  refine vp_callSi (va_Run.run (va_runS (As := [.int (zi sl)]) (rest := [.ref g0]) ⟨hx, hb, hml, hown, hts⟩ hh1 (va_cwS 1 hts gX5_isHoliday_X5_isSlot rfl rfl rfl (by decide +kernel) ⟨Nat.le_of_ble_eq_true rfl, Nat.le_of_ble_eq_true rfl⟩) ⟨fun a U g mk q => q, fun U hU hW => ⟨rfl, trivial⟩⟩ rfl rfl hl.1 rfl (lv_room (Nat.le_of_ble_eq_true rfl)) dX5_isHoliday_2 ⟨Nat.zero_le _, Nat.zero_le _⟩)) (fun r1 (hr1 : r1 = zi (f_X5_isSlot sl)) => ?_)
  subst hr1
  have hf1 := b_X5_isSlot sl (by omega)
  refine zw_if_ne (tgt := 12) hx hb dX5_isHoliday_5 (by decide) ⟨by omega, by omega⟩ (fun h2 => ?_) (fun h2 => ?_)
  · skip
    exact absurd True.intro (by omega)
  · skip
    refine zw_iconst hx hb dX5_isHoliday_8 ?_
    refine lv_goto (tgt := 26) hx hb dX5_isHoliday_9 (by decide) ?_
    refine va_put (D := (dC, dI)) (ci := 5) (v := .int (zi 1)) (ty := .int) (C := RX5) (T := TX5) (N := 12) hx hb hts (by decide +kernel) tyX5 tyX5_ok nmX5 hown hK hP hD hS 0 rfl rfl 0 (by decide) (hts (.fieldLink RX5 35 "CivilDaysModel" "code" "I") (by decide +kernel)) (fun _ h9 => h9) rfl (by decide +kernel) rfl rfl (Nat.le_of_ble_eq_true rfl) dX5_isHoliday_26 (fun H locs hP hD hS => ?_)
    have hP : va_P (dC, dI) vwCl [(g0, .inr (5, [.int (zi 1), .ref ps, .int (zi ru), .ref pk, .ref pa, .ref pb, .ref pq, .int (zi we), .int (zi wr), .ref pw, .int (zi ty), .ref pt])), (ps, aI cI 10 sf), (pk, aI cI 12 kf), (pa, aI cI 12 af), (pb, aI cI 12 bf), (pq, aI cI 12 zf)] H := hP
    have hD : va_D A [(g0, .inr (5, [.int (zi 1), .ref ps, .int (zi ru), .ref pk, .ref pa, .ref pb, .ref pq, .int (zi we), .int (zi wr), .ref pw, .int (zi ty), .ref pt])), (ps, aI cI 10 sf), (pk, aI cI 12 kf), (pa, aI cI 12 af), (pb, aI cI 12 bf), (pq, aI cI 12 zf)] := hD
    refine lv_aload_n hx hb dX5_isHoliday_29 rfl (lv_at hl 0 rfl) ?_
    refine va_get (D := (dC, dI)) (ci := 5) (v := .int (zi 1)) (C := RX5) (T := TX5) (N := 12) hx hb hts (by decide +kernel) hown hK hP 0 rfl rfl 0 (by decide) (hts (.fieldLink RX5 35 "CivilDaysModel" "code" "I") (by decide +kernel)) (fun _ h9 => h9) rfl dX5_isHoliday_30 ?_
    refine zw_if_le (tgt := 40) hx hb dX5_isHoliday_33 (by decide) ⟨by omega, by omega⟩ (fun h3 => ?_) (fun h3 => ?_)
    · skip
      exact absurd True.intro (by omega)
    · skip
      refine zw_iconst hx hb dX5_isHoliday_36 ?_
      refine lv_goto (tgt := 50) hx hb dX5_isHoliday_37 (by decide) ?_
      have hP9 := hP.sub (ws' := [(g0, .inr (5, [.int (zi 1), .ref ps, .int (zi ru), .ref pk, .ref pa, .ref pb, .ref pq, .int (zi we), .int (zi wr), .ref pw, .int (zi ty), .ref pt])), (ps, aI cI 10 sf), (pk, aI cI 12 kf), (pa, aI cI 12 af), (pb, aI cI 12 bf), (pq, aI cI 12 zf)]) [0, 1, 2, 3, 4, 5] rfl
      have hD9 := hD.sub (ws' := [(g0, .inr (5, [.int (zi 1), .ref ps, .int (zi ru), .ref pk, .ref pa, .ref pb, .ref pq, .int (zi we), .int (zi wr), .ref pw, .int (zi ty), .ref pt])), (ps, aI cI 10 sf), (pk, aI cI 12 kf), (pa, aI cI 12 af), (pb, aI cI 12 bf), (pq, aI cI 12 zf)]) [0, 1, 2, 3, 4, 5] (by decide) rfl
      exact W.iret (v := zi 0) hx hb hr (fun t ht hW => ⟨⟨zi 0, (), rfl, rfl, by rw [ht]; exact hP9, va_K.moved hW.alike hK, hD9⟩, hS.F ht⟩) hS.2.2 dX5_isHoliday_50

set_option maxHeartbeats 4000000 in
set_option maxRecDepth 100000 in
theorem c_X5_isHoliday_2 (l : Launch)  (dC : Nat → ClassId) (dI : Nat → Nat → Nat) (cI : ClassId) (g0 : Nat) (ps : Nat) (pk : Nat) (pa : Nat) (pb : Nat) (pq : Nat) (pw : Nat) (pt : Nat) (co : Int) (ru : Int) (we : Int) (wr : Int) (ty : Int) (sf : Nat → Int) (kf : Nat → Int) (af : Nat → Int) (bf : Nat → Int) (zf : Nat → Int) (sl : Int) (sz : Nat) (hp0 : 0 ≤ sl ∧ sl ≤ 9) (hp1 : (sf sl.toNat) = -1) : Met l yX5_isHoliday wsX5_isHoliday ({ frames := 2, cells := 0, slots := 0, locals := 42 }) (zPw (dC, dI) [(cI, .int)] sz [.ref g0, .int (zi sl)] [(g0, .inr (5, [.int (zi co), .ref ps, .int (zi ru), .ref pk, .ref pa, .ref pb, .ref pq, .int (zi we), .int (zi wr), .ref pw, .int (zi ty), .ref pt])), (ps, aI cI 10 sf), (pk, aI cI 12 kf), (pa, aI cI 12 af), (pb, aI cI 12 bf), (pq, aI cI 12 zf)]) (va_Qi (fun (r : Int32) (_ : Unit) => r = zi 0) (zB (dC, dI) [(cI, .int)] (va_A [(g0, .inr (5, [.int (zi co), .ref ps, .int (zi ru), .ref pk, .ref pa, .ref pb, .ref pq, .int (zi we), .int (zi wr), .ref pw, .int (zi ty), .ref pt])), (ps, aI cI 10 sf), (pk, aI cI 12 kf), (pa, aI cI 12 af), (pb, aI cI 12 bf), (pq, aI cI 12 zf)] sz) [(g0, .inr (5, [.int (zi 2), .ref ps, .int (zi ru), .ref pk, .ref pa, .ref pb, .ref pq, .int (zi we), .int (zi wr), .ref pw, .int (zi ty), .ref pt])), (ps, aI cI 10 sf), (pk, aI cI 12 kf), (pa, aI cI 12 af), (pb, aI cI 12 bf), (pq, aI cI 12 zf)]) (va_A [(g0, .inr (5, [.int (zi co), .ref ps, .int (zi ru), .ref pk, .ref pa, .ref pb, .ref pq, .int (zi we), .int (zi wr), .ref pw, .int (zi ty), .ref pt])), (ps, aI cI 10 sf), (pk, aI cI 12 kf), (pa, aI cI 12 af), (pb, aI cI 12 bf), (pq, aI cI 12 zf)] sz)) 0 0 (va_A [(g0, .inr (5, [.int (zi co), .ref ps, .int (zi ru), .ref pk, .ref pa, .ref pb, .ref pq, .int (zi we), .int (zi wr), .ref pw, .int (zi ty), .ref pt])), (ps, aI cI 10 sf), (pk, aI cI 12 kf), (pa, aI cI 12 af), (pb, aI cI 12 bf), (pq, aI cI 12 zf)] sz) := by
  refine Met.ofW (cc := cX5_isHoliday) (maxL := 2) (ret := (some .int)) (by decide) rfl ?_
  intro p e s m args below meth c s₁ B hml hv
  obtain ⟨rfl, hsz, hP, hK, hD0⟩ := hv
  have hx := B.exec
  have hb := B.bytes
  have hr := B.returns
  have hts := atoms_spec (ws := wsX5_isHoliday) B.pre
  have hown : s.vm.findClass RX5 = some m.cls := findClass_of_methodNamed B.named
  have hlocks := B.notSynchronized
  subst hsz
  have hD := hD0.self (sz := s.heap.size)
  generalize hAe : va_A [(g0, .inr (5, [.int (zi co), .ref ps, .int (zi ru), .ref pk, .ref pa, .ref pb, .ref pq, .int (zi we), .int (zi wr), .ref pw, .int (zi ty), .ref pt])), (ps, aI cI 10 sf), (pk, aI cI 12 kf), (pa, aI cI 12 af), (pb, aI cI 12 bf), (pq, aI cI 12 zf)] s.heap.size = A at hD ⊢
  have hA : ∀ q : Nat, s.heap.size ≤ q → A q := fun q h => by rw [← hAe]; exact Or.inr h
  have hS : va_S A s.heap s.heap [] := va_S.rf
  have hP : va_P (dC, dI) vwCl [(g0, .inr (5, [.int (zi co), .ref ps, .int (zi ru), .ref pk, .ref pa, .ref pb, .ref pq, .int (zi we), .int (zi wr), .ref pw, .int (zi ty), .ref pt])), (ps, aI cI 10 sf), (pk, aI cI 12 kf), (pa, aI cI 12 af), (pb, aI cI 12 bf), (pq, aI cI 12 zf)] s.heap := hP
  have hl := lv_entry ([.ref g0, .int (zi sl)]) (n := 2) (Nat.le_of_ble_eq_true rfl)
  rw [lg_entry_eq]
  generalize (lg_sl ([.ref g0, .int (zi sl)]) ++ List.replicate (2 - (lg_sl ([.ref g0, .int (zi sl)])).length) Slot.unset).toArray = ls at hl ⊢
  have hl : lv_has ls 2 [(0, .ref g0), (1, .int (zi sl))] := hl
  refine lv_aload_n hx hb dX5_isHoliday_0 rfl (lv_at hl 0 rfl) ?_
  refine lv_iload_n hx hb dX5_isHoliday_1 rfl (lv_at hl 1 rfl) ?_
  have hh1 := c_X5_isSlot l sl (by omega)
  refine vp_callSi (va_Run.run (va_runS (As := [.int (zi sl)]) (rest := [.ref g0]) ⟨hx, hb, hml, hown, hts⟩ hh1 (va_cwS 1 hts gX5_isHoliday_X5_isSlot rfl rfl rfl (by decide +kernel) ⟨Nat.le_of_ble_eq_true rfl, Nat.le_of_ble_eq_true rfl⟩) ⟨fun a U g mk q => q, fun U hU hW => ⟨rfl, trivial⟩⟩ rfl rfl hl.1 rfl (lv_room (Nat.le_of_ble_eq_true rfl)) dX5_isHoliday_2 ⟨Nat.zero_le _, Nat.zero_le _⟩)) (fun r1 (hr1 : r1 = zi (f_X5_isSlot sl)) => ?_)
  subst hr1
  have hf1 := b_X5_isSlot sl (by omega)
  refine zw_if_ne (tgt := 12) hx hb dX5_isHoliday_5 (by decide) ⟨by omega, by omega⟩ (fun h2 => ?_) (fun h2 => ?_)
  · skip
    refine lv_aload_n hx hb dX5_isHoliday_12 rfl (lv_at hl 0 rfl) ?_
    refine va_get (D := (dC, dI)) (ci := 5) (v := .ref ps) (C := RX5) (T := TX5) (N := 12) hx hb hts (by decide +kernel) hown hK hP 0 rfl rfl 1 (by decide) (hts (.fieldLink RX5 7 "CivilDaysModel" "slots" "[I") (by decide +kernel)) (fun _ h9 => h9) rfl dX5_isHoliday_13 ?_
    refine lv_iload_n hx hb dX5_isHoliday_16 rfl (lv_at hl 1 rfl) ?_
    refine zw_iald hx hb hK hP 1 0 rfl rfl (by omega) (by omega) ⟨by omega, by omega⟩ dX5_isHoliday_17 ?_
    refine zw_if_ge (tgt := 25) hx hb dX5_isHoliday_18 (by decide) ⟨by omega, by omega⟩ (fun h3 => ?_) (fun h3 => ?_)
    · skip
      exact absurd True.intro (by omega)
    · skip
      refine zw_iconst hx hb dX5_isHoliday_21 ?_
      refine lv_goto (tgt := 26) hx hb dX5_isHoliday_22 (by decide) ?_
      refine va_put (D := (dC, dI)) (ci := 5) (v := .int (zi 2)) (ty := .int) (C := RX5) (T := TX5) (N := 12) hx hb hts (by decide +kernel) tyX5 tyX5_ok nmX5 hown hK hP hD hS 0 rfl rfl 0 (by decide) (hts (.fieldLink RX5 35 "CivilDaysModel" "code" "I") (by decide +kernel)) (fun _ h9 => h9) rfl (by decide +kernel) rfl rfl (Nat.le_of_ble_eq_true rfl) dX5_isHoliday_26 (fun H locs hP hD hS => ?_)
      have hP : va_P (dC, dI) vwCl [(g0, .inr (5, [.int (zi 2), .ref ps, .int (zi ru), .ref pk, .ref pa, .ref pb, .ref pq, .int (zi we), .int (zi wr), .ref pw, .int (zi ty), .ref pt])), (ps, aI cI 10 sf), (pk, aI cI 12 kf), (pa, aI cI 12 af), (pb, aI cI 12 bf), (pq, aI cI 12 zf)] H := hP
      have hD : va_D A [(g0, .inr (5, [.int (zi 2), .ref ps, .int (zi ru), .ref pk, .ref pa, .ref pb, .ref pq, .int (zi we), .int (zi wr), .ref pw, .int (zi ty), .ref pt])), (ps, aI cI 10 sf), (pk, aI cI 12 kf), (pa, aI cI 12 af), (pb, aI cI 12 bf), (pq, aI cI 12 zf)] := hD
      refine lv_aload_n hx hb dX5_isHoliday_29 rfl (lv_at hl 0 rfl) ?_
      refine va_get (D := (dC, dI)) (ci := 5) (v := .int (zi 2)) (C := RX5) (T := TX5) (N := 12) hx hb hts (by decide +kernel) hown hK hP 0 rfl rfl 0 (by decide) (hts (.fieldLink RX5 35 "CivilDaysModel" "code" "I") (by decide +kernel)) (fun _ h9 => h9) rfl dX5_isHoliday_30 ?_
      refine zw_if_le (tgt := 40) hx hb dX5_isHoliday_33 (by decide) ⟨by omega, by omega⟩ (fun h4 => ?_) (fun h4 => ?_)
      · skip
        exact absurd True.intro (by omega)
      · skip
        refine zw_iconst hx hb dX5_isHoliday_36 ?_
        refine lv_goto (tgt := 50) hx hb dX5_isHoliday_37 (by decide) ?_
        have hP9 := hP.sub (ws' := [(g0, .inr (5, [.int (zi 2), .ref ps, .int (zi ru), .ref pk, .ref pa, .ref pb, .ref pq, .int (zi we), .int (zi wr), .ref pw, .int (zi ty), .ref pt])), (ps, aI cI 10 sf), (pk, aI cI 12 kf), (pa, aI cI 12 af), (pb, aI cI 12 bf), (pq, aI cI 12 zf)]) [0, 1, 2, 3, 4, 5] rfl
        have hD9 := hD.sub (ws' := [(g0, .inr (5, [.int (zi 2), .ref ps, .int (zi ru), .ref pk, .ref pa, .ref pb, .ref pq, .int (zi we), .int (zi wr), .ref pw, .int (zi ty), .ref pt])), (ps, aI cI 10 sf), (pk, aI cI 12 kf), (pa, aI cI 12 af), (pb, aI cI 12 bf), (pq, aI cI 12 zf)]) [0, 1, 2, 3, 4, 5] (by decide) rfl
        exact W.iret (v := zi 0) hx hb hr (fun t ht hW => ⟨⟨zi 0, (), rfl, rfl, by rw [ht]; exact hP9, va_K.moved hW.alike hK, hD9⟩, hS.F ht⟩) hS.2.2 dX5_isHoliday_50
  · skip
    exact absurd True.intro (by omega)

set_option maxHeartbeats 4000000 in
set_option maxRecDepth 100000 in
theorem c_X5_isHoliday (l : Launch)  (dC : Nat → ClassId) (dI : Nat → Nat → Nat) (cI : ClassId) (g0 : Nat) (ps : Nat) (pk : Nat) (pa : Nat) (pb : Nat) (pq : Nat) (pw : Nat) (pt : Nat) (co : Int) (ru : Int) (we : Int) (wr : Int) (ty : Int) (sf : Nat → Int) (kf : Nat → Int) (af : Nat → Int) (bf : Nat → Int) (zf : Nat → Int) (sl : Int) (sz : Nat) (hp0 : 0 ≤ sl ∧ sl ≤ 9) (hp1 : 0 ≤ (sf sl.toNat) ∧ (sf sl.toNat) ≤ 3652058) (hp2 : 0 ≤ ru ∧ ru ≤ 12) (hp3 : ∀ j : Nat, (j : Int) < ru → (0 ≤ (kf j) ∧ (kf j) ≤ 3) ∧ ((kf j) = 1 ∧ -100 ≤ (af j) ∧ (af j) ≤ 100 ∨ (kf j) ≠ 1 ∧ 1 ≤ (af j) ∧ (af j) ≤ 12) ∧ ((kf j) = 1 ∨ (kf j) = 2 ∧ 1 ≤ (bf j) ∧ (bf j) ≤ 7 ∨ (kf j) ≠ 2 ∧ 1 ≤ (bf j) ∧ (bf j) ≤ 31) ∧ ((kf j) ≠ 2 ∨ (zf j) = -1 ∨ 1 ≤ (zf j) ∧ (zf j) ≤ 4)) : Met l yX5_isHoliday wsX5_isHoliday ({ frames := 6, cells := 0, slots := 0, locals := 138 }) (zPw (dC, dI) [(cI, .int)] sz [.ref g0, .int (zi sl)] [(g0, .inr (5, [.int (zi co), .ref ps, .int (zi ru), .ref pk, .ref pa, .ref pb, .ref pq, .int (zi we), .int (zi wr), .ref pw, .int (zi ty), .ref pt])), (ps, aI cI 10 sf), (pk, aI cI 12 kf), (pa, aI cI 12 af), (pb, aI cI 12 bf), (pq, aI cI 12 zf)]) (va_Qi (fun (r : Int32) (_ : Unit) => r = zi (zfr (rhX5 kf af bf zf (f_X5_yearOf (sf sl.toNat)) (sf sl.toNat)) ru.toNat 0)) (zB (dC, dI) [(cI, .int)] (va_A [(g0, .inr (5, [.int (zi co), .ref ps, .int (zi ru), .ref pk, .ref pa, .ref pb, .ref pq, .int (zi we), .int (zi wr), .ref pw, .int (zi ty), .ref pt])), (ps, aI cI 10 sf), (pk, aI cI 12 kf), (pa, aI cI 12 af), (pb, aI cI 12 bf), (pq, aI cI 12 zf)] sz) [(g0, .inr (5, [.int (zi 0), .ref ps, .int (zi ru), .ref pk, .ref pa, .ref pb, .ref pq, .int (zi we), .int (zi wr), .ref pw, .int (zi ty), .ref pt])), (ps, aI cI 10 sf), (pk, aI cI 12 kf), (pa, aI cI 12 af), (pb, aI cI 12 bf), (pq, aI cI 12 zf)]) (va_A [(g0, .inr (5, [.int (zi co), .ref ps, .int (zi ru), .ref pk, .ref pa, .ref pb, .ref pq, .int (zi we), .int (zi wr), .ref pw, .int (zi ty), .ref pt])), (ps, aI cI 10 sf), (pk, aI cI 12 kf), (pa, aI cI 12 af), (pb, aI cI 12 bf), (pq, aI cI 12 zf)] sz)) 0 0 (va_A [(g0, .inr (5, [.int (zi co), .ref ps, .int (zi ru), .ref pk, .ref pa, .ref pb, .ref pq, .int (zi we), .int (zi wr), .ref pw, .int (zi ty), .ref pt])), (ps, aI cI 10 sf), (pk, aI cI 12 kf), (pa, aI cI 12 af), (pb, aI cI 12 bf), (pq, aI cI 12 zf)] sz) := by
  refine Met.ofW (cc := cX5_isHoliday) (maxL := 2) (ret := (some .int)) (by decide) rfl ?_
  intro p e s m args below meth c s₁ B hml hv
  obtain ⟨rfl, hsz, hP, hK, hD0⟩ := hv
  have hx := B.exec
  have hb := B.bytes
  have hr := B.returns
  have hts := atoms_spec (ws := wsX5_isHoliday) B.pre
  have hown : s.vm.findClass RX5 = some m.cls := findClass_of_methodNamed B.named
  have hlocks := B.notSynchronized
  subst hsz
  have hD := hD0.self (sz := s.heap.size)
  generalize hAe : va_A [(g0, .inr (5, [.int (zi co), .ref ps, .int (zi ru), .ref pk, .ref pa, .ref pb, .ref pq, .int (zi we), .int (zi wr), .ref pw, .int (zi ty), .ref pt])), (ps, aI cI 10 sf), (pk, aI cI 12 kf), (pa, aI cI 12 af), (pb, aI cI 12 bf), (pq, aI cI 12 zf)] s.heap.size = A at hD ⊢
  have hA : ∀ q : Nat, s.heap.size ≤ q → A q := fun q h => by rw [← hAe]; exact Or.inr h
  have hS : va_S A s.heap s.heap [] := va_S.rf
  have hP : va_P (dC, dI) vwCl [(g0, .inr (5, [.int (zi co), .ref ps, .int (zi ru), .ref pk, .ref pa, .ref pb, .ref pq, .int (zi we), .int (zi wr), .ref pw, .int (zi ty), .ref pt])), (ps, aI cI 10 sf), (pk, aI cI 12 kf), (pa, aI cI 12 af), (pb, aI cI 12 bf), (pq, aI cI 12 zf)] s.heap := hP
  have hl := lv_entry ([.ref g0, .int (zi sl)]) (n := 2) (Nat.le_of_ble_eq_true rfl)
  rw [lg_entry_eq]
  generalize (lg_sl ([.ref g0, .int (zi sl)]) ++ List.replicate (2 - (lg_sl ([.ref g0, .int (zi sl)])).length) Slot.unset).toArray = ls at hl ⊢
  have hl : lv_has ls 2 [(0, .ref g0), (1, .int (zi sl))] := hl
  first | have hpr := hp3 | skip
  refine lv_aload_n hx hb dX5_isHoliday_0 rfl (lv_at hl 0 rfl) ?_
  refine lv_iload_n hx hb dX5_isHoliday_1 rfl (lv_at hl 1 rfl) ?_
  have hh1 := c_X5_isSlot l sl (by omega)
  refine vp_callSi (va_Run.run (va_runS (As := [.int (zi sl)]) (rest := [.ref g0]) ⟨hx, hb, hml, hown, hts⟩ hh1 (va_cwS 1 hts gX5_isHoliday_X5_isSlot rfl rfl rfl (by decide +kernel) ⟨Nat.le_of_ble_eq_true rfl, Nat.le_of_ble_eq_true rfl⟩) ⟨fun a U g mk q => q, fun U hU hW => ⟨rfl, trivial⟩⟩ rfl rfl hl.1 rfl (lv_room (Nat.le_of_ble_eq_true rfl)) dX5_isHoliday_2 ⟨Nat.zero_le _, Nat.zero_le _⟩)) (fun r1 (hr1 : r1 = zi (f_X5_isSlot sl)) => ?_)
  subst hr1
  have hf1 := b_X5_isSlot sl (by omega)
  refine zw_if_ne (tgt := 12) hx hb dX5_isHoliday_5 (by decide) ⟨by omega, by omega⟩ (fun h2 => ?_) (fun h2 => ?_)
  · skip
    refine lv_aload_n hx hb dX5_isHoliday_12 rfl (lv_at hl 0 rfl) ?_
    refine va_get (D := (dC, dI)) (ci := 5) (v := .ref ps) (C := RX5) (T := TX5) (N := 12) hx hb hts (by decide +kernel) hown hK hP 0 rfl rfl 1 (by decide) (hts (.fieldLink RX5 7 "CivilDaysModel" "slots" "[I") (by decide +kernel)) (fun _ h9 => h9) rfl dX5_isHoliday_13 ?_
    refine lv_iload_n hx hb dX5_isHoliday_16 rfl (lv_at hl 1 rfl) ?_
    refine zw_iald hx hb hK hP 1 0 rfl rfl (by omega) (by omega) ⟨by omega, by omega⟩ dX5_isHoliday_17 ?_
    refine zw_if_ge (tgt := 25) hx hb dX5_isHoliday_18 (by decide) ⟨by omega, by omega⟩ (fun h3 => ?_) (fun h3 => ?_)
    · skip
      refine zw_iconst hx hb dX5_isHoliday_25 ?_
      refine va_put (D := (dC, dI)) (ci := 5) (v := .int (zi 0)) (ty := .int) (C := RX5) (T := TX5) (N := 12) hx hb hts (by decide +kernel) tyX5 tyX5_ok nmX5 hown hK hP hD hS 0 rfl rfl 0 (by decide) (hts (.fieldLink RX5 35 "CivilDaysModel" "code" "I") (by decide +kernel)) (fun _ h9 => h9) rfl (by decide +kernel) rfl rfl (Nat.le_of_ble_eq_true rfl) dX5_isHoliday_26 (fun H locs hP hD hS => ?_)
      have hP : va_P (dC, dI) vwCl [(g0, .inr (5, [.int (zi 0), .ref ps, .int (zi ru), .ref pk, .ref pa, .ref pb, .ref pq, .int (zi we), .int (zi wr), .ref pw, .int (zi ty), .ref pt])), (ps, aI cI 10 sf), (pk, aI cI 12 kf), (pa, aI cI 12 af), (pb, aI cI 12 bf), (pq, aI cI 12 zf)] H := hP
      have hD : va_D A [(g0, .inr (5, [.int (zi 0), .ref ps, .int (zi ru), .ref pk, .ref pa, .ref pb, .ref pq, .int (zi we), .int (zi wr), .ref pw, .int (zi ty), .ref pt])), (ps, aI cI 10 sf), (pk, aI cI 12 kf), (pa, aI cI 12 af), (pb, aI cI 12 bf), (pq, aI cI 12 zf)] := hD
      refine lv_aload_n hx hb dX5_isHoliday_29 rfl (lv_at hl 0 rfl) ?_
      refine va_get (D := (dC, dI)) (ci := 5) (v := .int (zi 0)) (C := RX5) (T := TX5) (N := 12) hx hb hts (by decide +kernel) hown hK hP 0 rfl rfl 0 (by decide) (hts (.fieldLink RX5 35 "CivilDaysModel" "code" "I") (by decide +kernel)) (fun _ h9 => h9) rfl dX5_isHoliday_30 ?_
      refine zw_if_le (tgt := 40) hx hb dX5_isHoliday_33 (by decide) ⟨by omega, by omega⟩ (fun h4 => ?_) (fun h4 => ?_)
      · skip
        refine lv_aload_n hx hb dX5_isHoliday_40 rfl (lv_at hl 0 rfl) ?_
        refine lv_aload_n hx hb dX5_isHoliday_41 rfl (lv_at hl 0 rfl) ?_
        refine va_get (D := (dC, dI)) (ci := 5) (v := .ref ps) (C := RX5) (T := TX5) (N := 12) hx hb hts (by decide +kernel) hown hK hP 0 rfl rfl 1 (by decide) (hts (.fieldLink RX5 7 "CivilDaysModel" "slots" "[I") (by decide +kernel)) (fun _ h9 => h9) rfl dX5_isHoliday_42 ?_
        refine lv_iload_n hx hb dX5_isHoliday_45 rfl (lv_at hl 1 rfl) ?_
        refine zw_iald hx hb hK hP 1 0 rfl rfl (by omega) (by omega) ⟨by omega, by omega⟩ dX5_isHoliday_46 ?_
        have hh5 := c_X5_ruleOf l dC dI cI g0 ps pk pa pb pq pw pt 0 ru we wr ty kf af bf zf (sf sl.toNat) (by omega) (by omega) (by exact hpr)
        have hPc := hP.sub (ws' := [(g0, .inr (5, [.int (zi 0), .ref ps, .int (zi ru), .ref pk, .ref pa, .ref pb, .ref pq, .int (zi we), .int (zi wr), .ref pw, .int (zi ty), .ref pt])), (pk, aI cI 12 kf), (pa, aI cI 12 af), (pb, aI cI 12 bf), (pq, aI cI 12 zf)]) [0, 2, 3, 4, 5] rfl
        have hKc : va_K (dC, dI) vwCl [(cI, .int)] s := hK
        refine vp_callSi (va_Run.run (va_runV (As := [.int (zi (sf sl.toNat))]) (rest := []) ⟨hx, hb, hml, hown, hts⟩ hh5 (cwV 1 hts gX5_isHoliday_X5_ruleOf rfl rfl rfl (by decide +kernel) ⟨Nat.le_of_ble_eq_true rfl, Nat.le_of_ble_eq_true rfl⟩) ⟨zPr.blind _ _ _ _, va_recv hKc hPc (ci := 5) (q0 := 0) rfl rfl, fun U hU hW => ⟨rfl, by rw [hU]; exact hPc, va_K.moved hW.alike hKc⟩⟩ rfl rfl hl.1 rfl (lv_room (Nat.le_of_ble_eq_true rfl)) dX5_isHoliday_47 ⟨Nat.le_of_ble_eq_true rfl, Nat.le_of_ble_eq_true rfl⟩)) (fun r5 (hr5 : r5 = zi (zfr (rhX5 kf af bf zf (f_X5_yearOf (sf sl.toNat)) (sf sl.toNat)) ru.toNat 0)) => ?_)
        subst hr5
        have hP9 := hP.sub (ws' := [(g0, .inr (5, [.int (zi 0), .ref ps, .int (zi ru), .ref pk, .ref pa, .ref pb, .ref pq, .int (zi we), .int (zi wr), .ref pw, .int (zi ty), .ref pt])), (ps, aI cI 10 sf), (pk, aI cI 12 kf), (pa, aI cI 12 af), (pb, aI cI 12 bf), (pq, aI cI 12 zf)]) [0, 1, 2, 3, 4, 5] rfl
        have hD9 := hD.sub (ws' := [(g0, .inr (5, [.int (zi 0), .ref ps, .int (zi ru), .ref pk, .ref pa, .ref pb, .ref pq, .int (zi we), .int (zi wr), .ref pw, .int (zi ty), .ref pt])), (ps, aI cI 10 sf), (pk, aI cI 12 kf), (pa, aI cI 12 af), (pb, aI cI 12 bf), (pq, aI cI 12 zf)]) [0, 1, 2, 3, 4, 5] (by decide) rfl
        exact W.iret (v := zi (zfr (rhX5 kf af bf zf (f_X5_yearOf (sf sl.toNat)) (sf sl.toNat)) ru.toNat 0)) hx hb hr (fun t ht hW => ⟨⟨zi (zfr (rhX5 kf af bf zf (f_X5_yearOf (sf sl.toNat)) (sf sl.toNat)) ru.toNat 0), (), rfl, rfl, by rw [ht]; exact hP9, va_K.moved hW.alike hK, hD9⟩, hS.F ht⟩) hS.2.2 dX5_isHoliday_50
      · skip
        exact absurd True.intro (by omega)
    · skip
      exact absurd True.intro (by omega)
  · skip
    exact absurd True.intro (by omega)

set_option maxHeartbeats 4000000 in
set_option maxRecDepth 100000 in
theorem c_X5_holiday_1 (l : Launch)  (dC : Nat → ClassId) (dI : Nat → Nat → Nat) (cI : ClassId) (g0 : Nat) (ps : Nat) (pk : Nat) (pa : Nat) (pb : Nat) (pq : Nat) (pw : Nat) (pt : Nat) (co : Int) (ru : Int) (we : Int) (wr : Int) (ty : Int) (kf : Nat → Int) (af : Nat → Int) (bf : Nat → Int) (zf : Nat → Int) (kk : Int) (aa : Int) (bb : Int) (cz : Int) (sz : Nat) (hp0 : -2147483648 ≤ kk ∧ kk ≤ 2147483647) (hp1 : -2147483648 ≤ aa ∧ aa ≤ 2147483647) (hp2 : -2147483648 ≤ bb ∧ bb ≤ 2147483647) (hp3 : -2147483648 ≤ cz ∧ cz ≤ 2147483647) (hp4 : (f_X5_isRule kk aa bb cz) = 0) : Met l yX5_holiday wsX5_holiday ({ frames := 3, cells := 0, slots := 0, locals := 64 }) (zPw (dC, dI) [(cI, .int)] sz [.ref g0, .int (zi kk), .int (zi aa), .int (zi bb), .int (zi cz)] [(g0, .inr (5, [.int (zi co), .ref ps, .int (zi ru), .ref pk, .ref pa, .ref pb, .ref pq, .int (zi we), .int (zi wr), .ref pw, .int (zi ty), .ref pt])), (pk, aI cI 12 kf), (pa, aI cI 12 af), (pb, aI cI 12 bf), (pq, aI cI 12 zf)]) (va_Qi (fun (r : Int32) (_ : Unit) => r = zi 0) (zB (dC, dI) [(cI, .int)] (va_A [(g0, .inr (5, [.int (zi co), .ref ps, .int (zi ru), .ref pk, .ref pa, .ref pb, .ref pq, .int (zi we), .int (zi wr), .ref pw, .int (zi ty), .ref pt])), (pk, aI cI 12 kf), (pa, aI cI 12 af), (pb, aI cI 12 bf), (pq, aI cI 12 zf)] sz) [(g0, .inr (5, [.int (zi 1), .ref ps, .int (zi ru), .ref pk, .ref pa, .ref pb, .ref pq, .int (zi we), .int (zi wr), .ref pw, .int (zi ty), .ref pt])), (pk, aI cI 12 kf), (pa, aI cI 12 af), (pb, aI cI 12 bf), (pq, aI cI 12 zf)]) (va_A [(g0, .inr (5, [.int (zi co), .ref ps, .int (zi ru), .ref pk, .ref pa, .ref pb, .ref pq, .int (zi we), .int (zi wr), .ref pw, .int (zi ty), .ref pt])), (pk, aI cI 12 kf), (pa, aI cI 12 af), (pb, aI cI 12 bf), (pq, aI cI 12 zf)] sz)) 0 0 (va_A [(g0, .inr (5, [.int (zi co), .ref ps, .int (zi ru), .ref pk, .ref pa, .ref pb, .ref pq, .int (zi we), .int (zi wr), .ref pw, .int (zi ty), .ref pt])), (pk, aI cI 12 kf), (pa, aI cI 12 af), (pb, aI cI 12 bf), (pq, aI cI 12 zf)] sz) := by
  refine Met.ofW (cc := cX5_holiday) (maxL := 5) (ret := (some .int)) (by decide) rfl ?_
  intro p e s m args below meth c s₁ B hml hv
  obtain ⟨rfl, hsz, hP, hK, hD0⟩ := hv
  have hx := B.exec
  have hb := B.bytes
  have hr := B.returns
  have hts := atoms_spec (ws := wsX5_holiday) B.pre
  have hown : s.vm.findClass RX5 = some m.cls := findClass_of_methodNamed B.named
  have hlocks := B.notSynchronized
  subst hsz
  have hD := hD0.self (sz := s.heap.size)
  generalize hAe : va_A [(g0, .inr (5, [.int (zi co), .ref ps, .int (zi ru), .ref pk, .ref pa, .ref pb, .ref pq, .int (zi we), .int (zi wr), .ref pw, .int (zi ty), .ref pt])), (pk, aI cI 12 kf), (pa, aI cI 12 af), (pb, aI cI 12 bf), (pq, aI cI 12 zf)] s.heap.size = A at hD ⊢
  have hA : ∀ q : Nat, s.heap.size ≤ q → A q := fun q h => by rw [← hAe]; exact Or.inr h
  have hS : va_S A s.heap s.heap [] := va_S.rf
  have hP : va_P (dC, dI) vwCl [(g0, .inr (5, [.int (zi co), .ref ps, .int (zi ru), .ref pk, .ref pa, .ref pb, .ref pq, .int (zi we), .int (zi wr), .ref pw, .int (zi ty), .ref pt])), (pk, aI cI 12 kf), (pa, aI cI 12 af), (pb, aI cI 12 bf), (pq, aI cI 12 zf)] s.heap := hP
  have hl := lv_entry ([.ref g0, .int (zi kk), .int (zi aa), .int (zi bb), .int (zi cz)]) (n := 5) (Nat.le_of_ble_eq_true rfl)
  rw [lg_entry_eq]
  generalize (lg_sl ([.ref g0, .int (zi kk), .int (zi aa), .int (zi bb), .int (zi cz)]) ++ List.replicate (5 - (lg_sl ([.ref g0, .int (zi kk), .int (zi aa), .int (zi bb), .int (zi cz)])).length) Slot.unset).toArray = ls at hl ⊢
  have hl : lv_has ls 5 [(0, .ref g0), (1, .int (zi kk)), (2, .int (zi aa)), (3, .int (zi bb)), (4, .int (zi cz))] := hl
  refine lv_aload_n hx hb dX5_holiday_0 rfl (lv_at hl 0 rfl) ?_
  refine lv_iload_n hx hb dX5_holiday_1 rfl (lv_at hl 1 rfl) ?_
  refine lv_iload_n hx hb dX5_holiday_2 rfl (lv_at hl 2 rfl) ?_
  refine lv_iload_n hx hb dX5_holiday_3 rfl (lv_at hl 3 rfl) ?_
  refine lv_iload hx hb dX5_holiday_4 (lv_at hl 4 rfl) ?_
  have hh1 := c_X5_isRule l kk aa bb cz (by omega) (by omega) (by omega) (by omega)
  refine vp_callSi (va_Run.run (va_runS (As := [.int (zi kk), .int (zi aa), .int (zi bb), .int (zi cz)]) (rest := [.ref g0]) ⟨hx, hb, hml, hown, hts⟩ hh1 (va_cwS 4 hts gX5_holiday_X5_isRule rfl rfl rfl (by decide +kernel) ⟨Nat.le_of_ble_eq_true rfl, Nat.le_of_ble_eq_true rfl⟩) ⟨fun a U g mk q => q, fun U hU hW => ⟨rfl, trivial⟩⟩ rfl rfl hl.1 rfl (lv_room (Nat.le_of_ble_eq_true rfl)) dX5_holiday_6 ⟨Nat.zero_le _, Nat.zero_le _⟩)) (fun r1 (hr1 : r1 = zi (f_X5_isRule kk aa bb cz)) => ?_)
  subst hr1
  have hf1 := b_X5_isRule kk aa bb cz (by omega) (by omega) (by omega) (by omega)
  have hbr := b_X5_isRule kk aa bb cz (by omega) (by omega) (by omega) (by omega)
  refine zw_if_ne (tgt := 16) hx hb dX5_holiday_9 (by decide) ⟨by omega, by omega⟩ (fun h2 => ?_) (fun h2 => ?_)
  · skip
    exact absurd True.intro (by omega)
  · skip
    refine zw_iconst hx hb dX5_holiday_12 ?_
    refine lv_goto (tgt := 30) hx hb dX5_holiday_13 (by decide) ?_
    refine va_put (D := (dC, dI)) (ci := 5) (v := .int (zi 1)) (ty := .int) (C := RX5) (T := TX5) (N := 12) hx hb hts (by decide +kernel) tyX5 tyX5_ok nmX5 hown hK hP hD hS 0 rfl rfl 0 (by decide) (hts (.fieldLink RX5 35 "CivilDaysModel" "code" "I") (by decide +kernel)) (fun _ h9 => h9) rfl (by decide +kernel) rfl rfl (Nat.le_of_ble_eq_true rfl) dX5_holiday_30 (fun H locs hP hD hS => ?_)
    have hP : va_P (dC, dI) vwCl [(g0, .inr (5, [.int (zi 1), .ref ps, .int (zi ru), .ref pk, .ref pa, .ref pb, .ref pq, .int (zi we), .int (zi wr), .ref pw, .int (zi ty), .ref pt])), (pk, aI cI 12 kf), (pa, aI cI 12 af), (pb, aI cI 12 bf), (pq, aI cI 12 zf)] H := hP
    have hD : va_D A [(g0, .inr (5, [.int (zi 1), .ref ps, .int (zi ru), .ref pk, .ref pa, .ref pb, .ref pq, .int (zi we), .int (zi wr), .ref pw, .int (zi ty), .ref pt])), (pk, aI cI 12 kf), (pa, aI cI 12 af), (pb, aI cI 12 bf), (pq, aI cI 12 zf)] := hD
    refine lv_aload_n hx hb dX5_holiday_33 rfl (lv_at hl 0 rfl) ?_
    refine va_get (D := (dC, dI)) (ci := 5) (v := .int (zi 1)) (C := RX5) (T := TX5) (N := 12) hx hb hts (by decide +kernel) hown hK hP 0 rfl rfl 0 (by decide) (hts (.fieldLink RX5 35 "CivilDaysModel" "code" "I") (by decide +kernel)) (fun _ h9 => h9) rfl dX5_holiday_34 ?_
    refine zw_if_le (tgt := 42) hx hb dX5_holiday_37 (by decide) ⟨by omega, by omega⟩ (fun h3 => ?_) (fun h3 => ?_)
    · skip
      exact absurd True.intro (by omega)
    · skip
      refine zw_iconst hx hb dX5_holiday_40 ?_
      have hP9 := hP.sub (ws' := [(g0, .inr (5, [.int (zi 1), .ref ps, .int (zi ru), .ref pk, .ref pa, .ref pb, .ref pq, .int (zi we), .int (zi wr), .ref pw, .int (zi ty), .ref pt])), (pk, aI cI 12 kf), (pa, aI cI 12 af), (pb, aI cI 12 bf), (pq, aI cI 12 zf)]) [0, 1, 2, 3, 4] rfl
      have hD9 := hD.sub (ws' := [(g0, .inr (5, [.int (zi 1), .ref ps, .int (zi ru), .ref pk, .ref pa, .ref pb, .ref pq, .int (zi we), .int (zi wr), .ref pw, .int (zi ty), .ref pt])), (pk, aI cI 12 kf), (pa, aI cI 12 af), (pb, aI cI 12 bf), (pq, aI cI 12 zf)]) [0, 1, 2, 3, 4] (by decide) rfl
      exact W.iret (v := zi 0) hx hb hr (fun t ht hW => ⟨⟨zi 0, (), rfl, rfl, by rw [ht]; exact hP9, va_K.moved hW.alike hK, hD9⟩, hS.F ht⟩) hS.2.2 dX5_holiday_41

set_option maxHeartbeats 4000000 in
set_option maxRecDepth 100000 in
theorem c_X5_holiday_2 (l : Launch)  (dC : Nat → ClassId) (dI : Nat → Nat → Nat) (cI : ClassId) (g0 : Nat) (ps : Nat) (pk : Nat) (pa : Nat) (pb : Nat) (pq : Nat) (pw : Nat) (pt : Nat) (co : Int) (ru : Int) (we : Int) (wr : Int) (ty : Int) (kf : Nat → Int) (af : Nat → Int) (bf : Nat → Int) (zf : Nat → Int) (kk : Int) (aa : Int) (bb : Int) (cz : Int) (sz : Nat) (hp0 : -2147483648 ≤ kk ∧ kk ≤ 2147483647) (hp1 : -2147483648 ≤ aa ∧ aa ≤ 2147483647) (hp2 : -2147483648 ≤ bb ∧ bb ≤ 2147483647) (hp3 : -2147483648 ≤ cz ∧ cz ≤ 2147483647) (hp4 : (f_X5_isRule kk aa bb cz) = 1) (hp5 : ru = 12) : Met l yX5_holiday wsX5_holiday ({ frames := 3, cells := 0, slots := 0, locals := 64 }) (zPw (dC, dI) [(cI, .int)] sz [.ref g0, .int (zi kk), .int (zi aa), .int (zi bb), .int (zi cz)] [(g0, .inr (5, [.int (zi co), .ref ps, .int (zi ru), .ref pk, .ref pa, .ref pb, .ref pq, .int (zi we), .int (zi wr), .ref pw, .int (zi ty), .ref pt])), (pk, aI cI 12 kf), (pa, aI cI 12 af), (pb, aI cI 12 bf), (pq, aI cI 12 zf)]) (va_Qi (fun (r : Int32) (_ : Unit) => r = zi 0) (zB (dC, dI) [(cI, .int)] (va_A [(g0, .inr (5, [.int (zi co), .ref ps, .int (zi ru), .ref pk, .ref pa, .ref pb, .ref pq, .int (zi we), .int (zi wr), .ref pw, .int (zi ty), .ref pt])), (pk, aI cI 12 kf), (pa, aI cI 12 af), (pb, aI cI 12 bf), (pq, aI cI 12 zf)] sz) [(g0, .inr (5, [.int (zi 2), .ref ps, .int (zi ru), .ref pk, .ref pa, .ref pb, .ref pq, .int (zi we), .int (zi wr), .ref pw, .int (zi ty), .ref pt])), (pk, aI cI 12 kf), (pa, aI cI 12 af), (pb, aI cI 12 bf), (pq, aI cI 12 zf)]) (va_A [(g0, .inr (5, [.int (zi co), .ref ps, .int (zi ru), .ref pk, .ref pa, .ref pb, .ref pq, .int (zi we), .int (zi wr), .ref pw, .int (zi ty), .ref pt])), (pk, aI cI 12 kf), (pa, aI cI 12 af), (pb, aI cI 12 bf), (pq, aI cI 12 zf)] sz)) 0 0 (va_A [(g0, .inr (5, [.int (zi co), .ref ps, .int (zi ru), .ref pk, .ref pa, .ref pb, .ref pq, .int (zi we), .int (zi wr), .ref pw, .int (zi ty), .ref pt])), (pk, aI cI 12 kf), (pa, aI cI 12 af), (pb, aI cI 12 bf), (pq, aI cI 12 zf)] sz) := by
  refine Met.ofW (cc := cX5_holiday) (maxL := 5) (ret := (some .int)) (by decide) rfl ?_
  intro p e s m args below meth c s₁ B hml hv
  obtain ⟨rfl, hsz, hP, hK, hD0⟩ := hv
  have hx := B.exec
  have hb := B.bytes
  have hr := B.returns
  have hts := atoms_spec (ws := wsX5_holiday) B.pre
  have hown : s.vm.findClass RX5 = some m.cls := findClass_of_methodNamed B.named
  have hlocks := B.notSynchronized
  subst hsz
  have hD := hD0.self (sz := s.heap.size)
  generalize hAe : va_A [(g0, .inr (5, [.int (zi co), .ref ps, .int (zi ru), .ref pk, .ref pa, .ref pb, .ref pq, .int (zi we), .int (zi wr), .ref pw, .int (zi ty), .ref pt])), (pk, aI cI 12 kf), (pa, aI cI 12 af), (pb, aI cI 12 bf), (pq, aI cI 12 zf)] s.heap.size = A at hD ⊢
  have hA : ∀ q : Nat, s.heap.size ≤ q → A q := fun q h => by rw [← hAe]; exact Or.inr h
  have hS : va_S A s.heap s.heap [] := va_S.rf
  have hP : va_P (dC, dI) vwCl [(g0, .inr (5, [.int (zi co), .ref ps, .int (zi ru), .ref pk, .ref pa, .ref pb, .ref pq, .int (zi we), .int (zi wr), .ref pw, .int (zi ty), .ref pt])), (pk, aI cI 12 kf), (pa, aI cI 12 af), (pb, aI cI 12 bf), (pq, aI cI 12 zf)] s.heap := hP
  have hl := lv_entry ([.ref g0, .int (zi kk), .int (zi aa), .int (zi bb), .int (zi cz)]) (n := 5) (Nat.le_of_ble_eq_true rfl)
  rw [lg_entry_eq]
  generalize (lg_sl ([.ref g0, .int (zi kk), .int (zi aa), .int (zi bb), .int (zi cz)]) ++ List.replicate (5 - (lg_sl ([.ref g0, .int (zi kk), .int (zi aa), .int (zi bb), .int (zi cz)])).length) Slot.unset).toArray = ls at hl ⊢
  have hl : lv_has ls 5 [(0, .ref g0), (1, .int (zi kk)), (2, .int (zi aa)), (3, .int (zi bb)), (4, .int (zi cz))] := hl
  refine lv_aload_n hx hb dX5_holiday_0 rfl (lv_at hl 0 rfl) ?_
  refine lv_iload_n hx hb dX5_holiday_1 rfl (lv_at hl 1 rfl) ?_
  refine lv_iload_n hx hb dX5_holiday_2 rfl (lv_at hl 2 rfl) ?_
  refine lv_iload_n hx hb dX5_holiday_3 rfl (lv_at hl 3 rfl) ?_
  refine lv_iload hx hb dX5_holiday_4 (lv_at hl 4 rfl) ?_
  have hh1 := c_X5_isRule l kk aa bb cz (by omega) (by omega) (by omega) (by omega)
  refine vp_callSi (va_Run.run (va_runS (As := [.int (zi kk), .int (zi aa), .int (zi bb), .int (zi cz)]) (rest := [.ref g0]) ⟨hx, hb, hml, hown, hts⟩ hh1 (va_cwS 4 hts gX5_holiday_X5_isRule rfl rfl rfl (by decide +kernel) ⟨Nat.le_of_ble_eq_true rfl, Nat.le_of_ble_eq_true rfl⟩) ⟨fun a U g mk q => q, fun U hU hW => ⟨rfl, trivial⟩⟩ rfl rfl hl.1 rfl (lv_room (Nat.le_of_ble_eq_true rfl)) dX5_holiday_6 ⟨Nat.zero_le _, Nat.zero_le _⟩)) (fun r1 (hr1 : r1 = zi (f_X5_isRule kk aa bb cz)) => ?_)
  subst hr1
  have hf1 := b_X5_isRule kk aa bb cz (by omega) (by omega) (by omega) (by omega)
  have hbr := b_X5_isRule kk aa bb cz (by omega) (by omega) (by omega) (by omega)
  refine zw_if_ne (tgt := 16) hx hb dX5_holiday_9 (by decide) ⟨by omega, by omega⟩ (fun h2 => ?_) (fun h2 => ?_)
  · skip
    refine lv_aload_n hx hb dX5_holiday_16 rfl (lv_at hl 0 rfl) ?_
    refine va_get (D := (dC, dI)) (ci := 5) (v := .int (zi ru)) (C := RX5) (T := TX5) (N := 12) hx hb hts (by decide +kernel) hown hK hP 0 rfl rfl 2 (by decide) (hts (.fieldLink RX5 122 "CivilDaysModel" "rules" "I") (by decide +kernel)) (fun _ h9 => h9) rfl dX5_holiday_17 ?_
    refine zw_bipush hx hb dX5_holiday_20 (by decide) ?_
    refine zw_icmp_ne (tgt := 29) hx hb dX5_holiday_22 (by decide) ⟨by omega, by omega⟩ ⟨by omega, by omega⟩ (fun h3 => ?_) (fun h3 => ?_)
    · skip
      exact absurd True.intro (by omega)
    · skip
      refine zw_iconst hx hb dX5_holiday_25 ?_
      refine lv_goto (tgt := 30) hx hb dX5_holiday_26 (by decide) ?_
      refine va_put (D := (dC, dI)) (ci := 5) (v := .int (zi 2)) (ty := .int) (C := RX5) (T := TX5) (N := 12) hx hb hts (by decide +kernel) tyX5 tyX5_ok nmX5 hown hK hP hD hS 0 rfl rfl 0 (by decide) (hts (.fieldLink RX5 35 "CivilDaysModel" "code" "I") (by decide +kernel)) (fun _ h9 => h9) rfl (by decide +kernel) rfl rfl (Nat.le_of_ble_eq_true rfl) dX5_holiday_30 (fun H locs hP hD hS => ?_)
      have hP : va_P (dC, dI) vwCl [(g0, .inr (5, [.int (zi 2), .ref ps, .int (zi ru), .ref pk, .ref pa, .ref pb, .ref pq, .int (zi we), .int (zi wr), .ref pw, .int (zi ty), .ref pt])), (pk, aI cI 12 kf), (pa, aI cI 12 af), (pb, aI cI 12 bf), (pq, aI cI 12 zf)] H := hP
      have hD : va_D A [(g0, .inr (5, [.int (zi 2), .ref ps, .int (zi ru), .ref pk, .ref pa, .ref pb, .ref pq, .int (zi we), .int (zi wr), .ref pw, .int (zi ty), .ref pt])), (pk, aI cI 12 kf), (pa, aI cI 12 af), (pb, aI cI 12 bf), (pq, aI cI 12 zf)] := hD
      refine lv_aload_n hx hb dX5_holiday_33 rfl (lv_at hl 0 rfl) ?_
      refine va_get (D := (dC, dI)) (ci := 5) (v := .int (zi 2)) (C := RX5) (T := TX5) (N := 12) hx hb hts (by decide +kernel) hown hK hP 0 rfl rfl 0 (by decide) (hts (.fieldLink RX5 35 "CivilDaysModel" "code" "I") (by decide +kernel)) (fun _ h9 => h9) rfl dX5_holiday_34 ?_
      refine zw_if_le (tgt := 42) hx hb dX5_holiday_37 (by decide) ⟨by omega, by omega⟩ (fun h4 => ?_) (fun h4 => ?_)
      · skip
        exact absurd True.intro (by omega)
      · skip
        refine zw_iconst hx hb dX5_holiday_40 ?_
        have hP9 := hP.sub (ws' := [(g0, .inr (5, [.int (zi 2), .ref ps, .int (zi ru), .ref pk, .ref pa, .ref pb, .ref pq, .int (zi we), .int (zi wr), .ref pw, .int (zi ty), .ref pt])), (pk, aI cI 12 kf), (pa, aI cI 12 af), (pb, aI cI 12 bf), (pq, aI cI 12 zf)]) [0, 1, 2, 3, 4] rfl
        have hD9 := hD.sub (ws' := [(g0, .inr (5, [.int (zi 2), .ref ps, .int (zi ru), .ref pk, .ref pa, .ref pb, .ref pq, .int (zi we), .int (zi wr), .ref pw, .int (zi ty), .ref pt])), (pk, aI cI 12 kf), (pa, aI cI 12 af), (pb, aI cI 12 bf), (pq, aI cI 12 zf)]) [0, 1, 2, 3, 4] (by decide) rfl
        exact W.iret (v := zi 0) hx hb hr (fun t ht hW => ⟨⟨zi 0, (), rfl, rfl, by rw [ht]; exact hP9, va_K.moved hW.alike hK, hD9⟩, hS.F ht⟩) hS.2.2 dX5_holiday_41
  · skip
    exact absurd True.intro (by omega)

set_option maxHeartbeats 4000000 in
set_option maxRecDepth 100000 in
theorem c_X5_holiday (l : Launch)  (dC : Nat → ClassId) (dI : Nat → Nat → Nat) (cI : ClassId) (g0 : Nat) (ps : Nat) (pk : Nat) (pa : Nat) (pb : Nat) (pq : Nat) (pw : Nat) (pt : Nat) (co : Int) (ru : Int) (we : Int) (wr : Int) (ty : Int) (kf : Nat → Int) (af : Nat → Int) (bf : Nat → Int) (zf : Nat → Int) (kk : Int) (aa : Int) (bb : Int) (cz : Int) (sz : Nat) (hp0 : -2147483648 ≤ kk ∧ kk ≤ 2147483647) (hp1 : -2147483648 ≤ aa ∧ aa ≤ 2147483647) (hp2 : -2147483648 ≤ bb ∧ bb ≤ 2147483647) (hp3 : -2147483648 ≤ cz ∧ cz ≤ 2147483647) (hp4 : (f_X5_isRule kk aa bb cz) = 1) (hp5 : 0 ≤ ru ∧ ru < 12) : Met l yX5_holiday wsX5_holiday ({ frames := 3, cells := 0, slots := 0, locals := 64 }) (zPw (dC, dI) [(cI, .int)] sz [.ref g0, .int (zi kk), .int (zi aa), .int (zi bb), .int (zi cz)] [(g0, .inr (5, [.int (zi co), .ref ps, .int (zi ru), .ref pk, .ref pa, .ref pb, .ref pq, .int (zi we), .int (zi wr), .ref pw, .int (zi ty), .ref pt])), (pk, aI cI 12 kf), (pa, aI cI 12 af), (pb, aI cI 12 bf), (pq, aI cI 12 zf)]) (va_Qi (fun (r : Int32) (_ : Unit) => r = zi (ru + 1)) (zB (dC, dI) [(cI, .int)] (va_A [(g0, .inr (5, [.int (zi co), .ref ps, .int (zi ru), .ref pk, .ref pa, .ref pb, .ref pq, .int (zi we), .int (zi wr), .ref pw, .int (zi ty), .ref pt])), (pk, aI cI 12 kf), (pa, aI cI 12 af), (pb, aI cI 12 bf), (pq, aI cI 12 zf)] sz) [(g0, .inr (5, [.int (zi 0), .ref ps, .int (zi (ru + 1)), .ref pk, .ref pa, .ref pb, .ref pq, .int (zi we), .int (zi wr), .ref pw, .int (zi ty), .ref pt])), (pk, aI cI 12 (zup kf ru.toNat kk)), (pa, aI cI 12 (zup af ru.toNat aa)), (pb, aI cI 12 (zup bf ru.toNat bb)), (pq, aI cI 12 (zup zf ru.toNat cz))]) (va_A [(g0, .inr (5, [.int (zi co), .ref ps, .int (zi ru), .ref pk, .ref pa, .ref pb, .ref pq, .int (zi we), .int (zi wr), .ref pw, .int (zi ty), .ref pt])), (pk, aI cI 12 kf), (pa, aI cI 12 af), (pb, aI cI 12 bf), (pq, aI cI 12 zf)] sz)) 0 0 (va_A [(g0, .inr (5, [.int (zi co), .ref ps, .int (zi ru), .ref pk, .ref pa, .ref pb, .ref pq, .int (zi we), .int (zi wr), .ref pw, .int (zi ty), .ref pt])), (pk, aI cI 12 kf), (pa, aI cI 12 af), (pb, aI cI 12 bf), (pq, aI cI 12 zf)] sz) := by
  refine Met.ofW (cc := cX5_holiday) (maxL := 5) (ret := (some .int)) (by decide) rfl ?_
  intro p e s m args below meth c s₁ B hml hv
  obtain ⟨rfl, hsz, hP, hK, hD0⟩ := hv
  have hx := B.exec
  have hb := B.bytes
  have hr := B.returns
  have hts := atoms_spec (ws := wsX5_holiday) B.pre
  have hown : s.vm.findClass RX5 = some m.cls := findClass_of_methodNamed B.named
  have hlocks := B.notSynchronized
  subst hsz
  have hD := hD0.self (sz := s.heap.size)
  generalize hAe : va_A [(g0, .inr (5, [.int (zi co), .ref ps, .int (zi ru), .ref pk, .ref pa, .ref pb, .ref pq, .int (zi we), .int (zi wr), .ref pw, .int (zi ty), .ref pt])), (pk, aI cI 12 kf), (pa, aI cI 12 af), (pb, aI cI 12 bf), (pq, aI cI 12 zf)] s.heap.size = A at hD ⊢
  have hA : ∀ q : Nat, s.heap.size ≤ q → A q := fun q h => by rw [← hAe]; exact Or.inr h
  have hS : va_S A s.heap s.heap [] := va_S.rf
  have hP : va_P (dC, dI) vwCl [(g0, .inr (5, [.int (zi co), .ref ps, .int (zi ru), .ref pk, .ref pa, .ref pb, .ref pq, .int (zi we), .int (zi wr), .ref pw, .int (zi ty), .ref pt])), (pk, aI cI 12 kf), (pa, aI cI 12 af), (pb, aI cI 12 bf), (pq, aI cI 12 zf)] s.heap := hP
  have hl := lv_entry ([.ref g0, .int (zi kk), .int (zi aa), .int (zi bb), .int (zi cz)]) (n := 5) (Nat.le_of_ble_eq_true rfl)
  rw [lg_entry_eq]
  generalize (lg_sl ([.ref g0, .int (zi kk), .int (zi aa), .int (zi bb), .int (zi cz)]) ++ List.replicate (5 - (lg_sl ([.ref g0, .int (zi kk), .int (zi aa), .int (zi bb), .int (zi cz)])).length) Slot.unset).toArray = ls at hl ⊢
  have hl : lv_has ls 5 [(0, .ref g0), (1, .int (zi kk)), (2, .int (zi aa)), (3, .int (zi bb)), (4, .int (zi cz))] := hl
  refine lv_aload_n hx hb dX5_holiday_0 rfl (lv_at hl 0 rfl) ?_
  refine lv_iload_n hx hb dX5_holiday_1 rfl (lv_at hl 1 rfl) ?_
  refine lv_iload_n hx hb dX5_holiday_2 rfl (lv_at hl 2 rfl) ?_
  refine lv_iload_n hx hb dX5_holiday_3 rfl (lv_at hl 3 rfl) ?_
  refine lv_iload hx hb dX5_holiday_4 (lv_at hl 4 rfl) ?_
  have hh1 := c_X5_isRule l kk aa bb cz (by omega) (by omega) (by omega) (by omega)
  refine vp_callSi (va_Run.run (va_runS (As := [.int (zi kk), .int (zi aa), .int (zi bb), .int (zi cz)]) (rest := [.ref g0]) ⟨hx, hb, hml, hown, hts⟩ hh1 (va_cwS 4 hts gX5_holiday_X5_isRule rfl rfl rfl (by decide +kernel) ⟨Nat.le_of_ble_eq_true rfl, Nat.le_of_ble_eq_true rfl⟩) ⟨fun a U g mk q => q, fun U hU hW => ⟨rfl, trivial⟩⟩ rfl rfl hl.1 rfl (lv_room (Nat.le_of_ble_eq_true rfl)) dX5_holiday_6 ⟨Nat.zero_le _, Nat.zero_le _⟩)) (fun r1 (hr1 : r1 = zi (f_X5_isRule kk aa bb cz)) => ?_)
  subst hr1
  have hf1 := b_X5_isRule kk aa bb cz (by omega) (by omega) (by omega) (by omega)
  have hbr := b_X5_isRule kk aa bb cz (by omega) (by omega) (by omega) (by omega)
  refine zw_if_ne (tgt := 16) hx hb dX5_holiday_9 (by decide) ⟨by omega, by omega⟩ (fun h2 => ?_) (fun h2 => ?_)
  · skip
    refine lv_aload_n hx hb dX5_holiday_16 rfl (lv_at hl 0 rfl) ?_
    refine va_get (D := (dC, dI)) (ci := 5) (v := .int (zi ru)) (C := RX5) (T := TX5) (N := 12) hx hb hts (by decide +kernel) hown hK hP 0 rfl rfl 2 (by decide) (hts (.fieldLink RX5 122 "CivilDaysModel" "rules" "I") (by decide +kernel)) (fun _ h9 => h9) rfl dX5_holiday_17 ?_
    refine zw_bipush hx hb dX5_holiday_20 (by decide) ?_
    refine zw_icmp_ne (tgt := 29) hx hb dX5_holiday_22 (by decide) ⟨by omega, by omega⟩ ⟨by omega, by omega⟩ (fun h3 => ?_) (fun h3 => ?_)
    · skip
      refine zw_iconst hx hb dX5_holiday_29 ?_
      refine va_put (D := (dC, dI)) (ci := 5) (v := .int (zi 0)) (ty := .int) (C := RX5) (T := TX5) (N := 12) hx hb hts (by decide +kernel) tyX5 tyX5_ok nmX5 hown hK hP hD hS 0 rfl rfl 0 (by decide) (hts (.fieldLink RX5 35 "CivilDaysModel" "code" "I") (by decide +kernel)) (fun _ h9 => h9) rfl (by decide +kernel) rfl rfl (Nat.le_of_ble_eq_true rfl) dX5_holiday_30 (fun H locs hP hD hS => ?_)
      have hP : va_P (dC, dI) vwCl [(g0, .inr (5, [.int (zi 0), .ref ps, .int (zi ru), .ref pk, .ref pa, .ref pb, .ref pq, .int (zi we), .int (zi wr), .ref pw, .int (zi ty), .ref pt])), (pk, aI cI 12 kf), (pa, aI cI 12 af), (pb, aI cI 12 bf), (pq, aI cI 12 zf)] H := hP
      have hD : va_D A [(g0, .inr (5, [.int (zi 0), .ref ps, .int (zi ru), .ref pk, .ref pa, .ref pb, .ref pq, .int (zi we), .int (zi wr), .ref pw, .int (zi ty), .ref pt])), (pk, aI cI 12 kf), (pa, aI cI 12 af), (pb, aI cI 12 bf), (pq, aI cI 12 zf)] := hD
      refine lv_aload_n hx hb dX5_holiday_33 rfl (lv_at hl 0 rfl) ?_
      refine va_get (D := (dC, dI)) (ci := 5) (v := .int (zi 0)) (C := RX5) (T := TX5) (N := 12) hx hb hts (by decide +kernel) hown hK hP 0 rfl rfl 0 (by decide) (hts (.fieldLink RX5 35 "CivilDaysModel" "code" "I") (by decide +kernel)) (fun _ h9 => h9) rfl dX5_holiday_34 ?_
      refine zw_if_le (tgt := 42) hx hb dX5_holiday_37 (by decide) ⟨by omega, by omega⟩ (fun h4 => ?_) (fun h4 => ?_)
      · skip
        refine lv_aload_n hx hb dX5_holiday_42 rfl (lv_at hl 0 rfl) ?_
        refine va_get (D := (dC, dI)) (ci := 5) (v := .ref pk) (C := RX5) (T := TX5) (N := 12) hx hb hts (by decide +kernel) hown hK hP 0 rfl rfl 3 (by decide) (hts (.fieldLink RX5 13 "CivilDaysModel" "kinds" "[I") (by decide +kernel)) (fun _ h9 => h9) rfl dX5_holiday_43 ?_
        refine lv_aload_n hx hb dX5_holiday_46 rfl (lv_at hl 0 rfl) ?_
        refine va_get (D := (dC, dI)) (ci := 5) (v := .int (zi ru)) (C := RX5) (T := TX5) (N := 12) hx hb hts (by decide +kernel) hown hK hP 0 rfl rfl 2 (by decide) (hts (.fieldLink RX5 122 "CivilDaysModel" "rules" "I") (by decide +kernel)) (fun _ h9 => h9) rfl dX5_holiday_47 ?_
        refine lv_iload_n hx hb dX5_holiday_50 rfl (lv_at hl 1 rfl) ?_
        refine zw_iast hx hb hK hP hD hS 1 0 rfl rfl (by omega) (by omega) ⟨by omega, by omega⟩ dX5_holiday_51 (fun H locs hP hD hS => ?_)
        have hP : va_P (dC, dI) vwCl [(g0, .inr (5, [.int (zi 0), .ref ps, .int (zi ru), .ref pk, .ref pa, .ref pb, .ref pq, .int (zi we), .int (zi wr), .ref pw, .int (zi ty), .ref pt])), (pk, aI cI 12 (zup kf ru.toNat kk)), (pa, aI cI 12 af), (pb, aI cI 12 bf), (pq, aI cI 12 zf)] H := hP
        have hD : va_D A [(g0, .inr (5, [.int (zi 0), .ref ps, .int (zi ru), .ref pk, .ref pa, .ref pb, .ref pq, .int (zi we), .int (zi wr), .ref pw, .int (zi ty), .ref pt])), (pk, aI cI 12 (zup kf ru.toNat kk)), (pa, aI cI 12 af), (pb, aI cI 12 bf), (pq, aI cI 12 zf)] := hD
        refine lv_aload_n hx hb dX5_holiday_52 rfl (lv_at hl 0 rfl) ?_
        refine va_get (D := (dC, dI)) (ci := 5) (v := .ref pa) (C := RX5) (T := TX5) (N := 12) hx hb hts (by decide +kernel) hown hK hP 0 rfl rfl 4 (by decide) (hts (.fieldLink RX5 16 "CivilDaysModel" "as" "[I") (by decide +kernel)) (fun _ h9 => h9) rfl dX5_holiday_53 ?_
        refine lv_aload_n hx hb dX5_holiday_56 rfl (lv_at hl 0 rfl) ?_
        refine va_get (D := (dC, dI)) (ci := 5) (v := .int (zi ru)) (C := RX5) (T := TX5) (N := 12) hx hb hts (by decide +kernel) hown hK hP 0 rfl rfl 2 (by decide) (hts (.fieldLink RX5 122 "CivilDaysModel" "rules" "I") (by decide +kernel)) (fun _ h9 => h9) rfl dX5_holiday_57 ?_
        refine lv_iload_n hx hb dX5_holiday_60 rfl (lv_at hl 2 rfl) ?_
        refine zw_iast hx hb hK hP hD hS 2 0 rfl rfl (by omega) (by omega) ⟨by omega, by omega⟩ dX5_holiday_61 (fun H locs hP hD hS => ?_)
        have hP : va_P (dC, dI) vwCl [(g0, .inr (5, [.int (zi 0), .ref ps, .int (zi ru), .ref pk, .ref pa, .ref pb, .ref pq, .int (zi we), .int (zi wr), .ref pw, .int (zi ty), .ref pt])), (pk, aI cI 12 (zup kf ru.toNat kk)), (pa, aI cI 12 (zup af ru.toNat aa)), (pb, aI cI 12 bf), (pq, aI cI 12 zf)] H := hP
        have hD : va_D A [(g0, .inr (5, [.int (zi 0), .ref ps, .int (zi ru), .ref pk, .ref pa, .ref pb, .ref pq, .int (zi we), .int (zi wr), .ref pw, .int (zi ty), .ref pt])), (pk, aI cI 12 (zup kf ru.toNat kk)), (pa, aI cI 12 (zup af ru.toNat aa)), (pb, aI cI 12 bf), (pq, aI cI 12 zf)] := hD
        refine lv_aload_n hx hb dX5_holiday_62 rfl (lv_at hl 0 rfl) ?_
        refine va_get (D := (dC, dI)) (ci := 5) (v := .ref pb) (C := RX5) (T := TX5) (N := 12) hx hb hts (by decide +kernel) hown hK hP 0 rfl rfl 5 (by decide) (hts (.fieldLink RX5 19 "CivilDaysModel" "bs" "[I") (by decide +kernel)) (fun _ h9 => h9) rfl dX5_holiday_63 ?_
        refine lv_aload_n hx hb dX5_holiday_66 rfl (lv_at hl 0 rfl) ?_
        refine va_get (D := (dC, dI)) (ci := 5) (v := .int (zi ru)) (C := RX5) (T := TX5) (N := 12) hx hb hts (by decide +kernel) hown hK hP 0 rfl rfl 2 (by decide) (hts (.fieldLink RX5 122 "CivilDaysModel" "rules" "I") (by decide +kernel)) (fun _ h9 => h9) rfl dX5_holiday_67 ?_
        refine lv_iload_n hx hb dX5_holiday_70 rfl (lv_at hl 3 rfl) ?_
        refine zw_iast hx hb hK hP hD hS 3 0 rfl rfl (by omega) (by omega) ⟨by omega, by omega⟩ dX5_holiday_71 (fun H locs hP hD hS => ?_)
        have hP : va_P (dC, dI) vwCl [(g0, .inr (5, [.int (zi 0), .ref ps, .int (zi ru), .ref pk, .ref pa, .ref pb, .ref pq, .int (zi we), .int (zi wr), .ref pw, .int (zi ty), .ref pt])), (pk, aI cI 12 (zup kf ru.toNat kk)), (pa, aI cI 12 (zup af ru.toNat aa)), (pb, aI cI 12 (zup bf ru.toNat bb)), (pq, aI cI 12 zf)] H := hP
        have hD : va_D A [(g0, .inr (5, [.int (zi 0), .ref ps, .int (zi ru), .ref pk, .ref pa, .ref pb, .ref pq, .int (zi we), .int (zi wr), .ref pw, .int (zi ty), .ref pt])), (pk, aI cI 12 (zup kf ru.toNat kk)), (pa, aI cI 12 (zup af ru.toNat aa)), (pb, aI cI 12 (zup bf ru.toNat bb)), (pq, aI cI 12 zf)] := hD
        refine lv_aload_n hx hb dX5_holiday_72 rfl (lv_at hl 0 rfl) ?_
        refine va_get (D := (dC, dI)) (ci := 5) (v := .ref pq) (C := RX5) (T := TX5) (N := 12) hx hb hts (by decide +kernel) hown hK hP 0 rfl rfl 6 (by decide) (hts (.fieldLink RX5 22 "CivilDaysModel" "cs" "[I") (by decide +kernel)) (fun _ h9 => h9) rfl dX5_holiday_73 ?_
        refine lv_aload_n hx hb dX5_holiday_76 rfl (lv_at hl 0 rfl) ?_
        refine va_get (D := (dC, dI)) (ci := 5) (v := .int (zi ru)) (C := RX5) (T := TX5) (N := 12) hx hb hts (by decide +kernel) hown hK hP 0 rfl rfl 2 (by decide) (hts (.fieldLink RX5 122 "CivilDaysModel" "rules" "I") (by decide +kernel)) (fun _ h9 => h9) rfl dX5_holiday_77 ?_
        refine lv_iload hx hb dX5_holiday_80 (lv_at hl 4 rfl) ?_
        refine zw_iast hx hb hK hP hD hS 4 0 rfl rfl (by omega) (by omega) ⟨by omega, by omega⟩ dX5_holiday_82 (fun H locs hP hD hS => ?_)
        have hP : va_P (dC, dI) vwCl [(g0, .inr (5, [.int (zi 0), .ref ps, .int (zi ru), .ref pk, .ref pa, .ref pb, .ref pq, .int (zi we), .int (zi wr), .ref pw, .int (zi ty), .ref pt])), (pk, aI cI 12 (zup kf ru.toNat kk)), (pa, aI cI 12 (zup af ru.toNat aa)), (pb, aI cI 12 (zup bf ru.toNat bb)), (pq, aI cI 12 (zup zf ru.toNat cz))] H := hP
        have hD : va_D A [(g0, .inr (5, [.int (zi 0), .ref ps, .int (zi ru), .ref pk, .ref pa, .ref pb, .ref pq, .int (zi we), .int (zi wr), .ref pw, .int (zi ty), .ref pt])), (pk, aI cI 12 (zup kf ru.toNat kk)), (pa, aI cI 12 (zup af ru.toNat aa)), (pb, aI cI 12 (zup bf ru.toNat bb)), (pq, aI cI 12 (zup zf ru.toNat cz))] := hD
        refine lv_aload_n hx hb dX5_holiday_83 rfl (lv_at hl 0 rfl) ?_
        refine lv_dup hx hb dX5_holiday_84 rfl ?_
        refine va_get (D := (dC, dI)) (ci := 5) (v := .int (zi ru)) (C := RX5) (T := TX5) (N := 12) hx hb hts (by decide +kernel) hown hK hP 0 rfl rfl 2 (by decide) (hts (.fieldLink RX5 122 "CivilDaysModel" "rules" "I") (by decide +kernel)) (fun _ h9 => h9) rfl dX5_holiday_85 ?_
        refine zw_iconst hx hb dX5_holiday_88 ?_
        refine zw_iadd hx hb dX5_holiday_89 ?_
        refine va_put (D := (dC, dI)) (ci := 5) (v := .int (zi (ru + 1))) (ty := .int) (C := RX5) (T := TX5) (N := 12) hx hb hts (by decide +kernel) tyX5 tyX5_ok nmX5 hown hK hP hD hS 0 rfl rfl 2 (by decide) (hts (.fieldLink RX5 122 "CivilDaysModel" "rules" "I") (by decide +kernel)) (fun _ h9 => h9) rfl (by decide +kernel) rfl rfl (Nat.le_of_ble_eq_true rfl) dX5_holiday_90 (fun H locs hP hD hS => ?_)
        have hP : va_P (dC, dI) vwCl [(g0, .inr (5, [.int (zi 0), .ref ps, .int (zi (ru + 1)), .ref pk, .ref pa, .ref pb, .ref pq, .int (zi we), .int (zi wr), .ref pw, .int (zi ty), .ref pt])), (pk, aI cI 12 (zup kf ru.toNat kk)), (pa, aI cI 12 (zup af ru.toNat aa)), (pb, aI cI 12 (zup bf ru.toNat bb)), (pq, aI cI 12 (zup zf ru.toNat cz))] H := hP
        have hD : va_D A [(g0, .inr (5, [.int (zi 0), .ref ps, .int (zi (ru + 1)), .ref pk, .ref pa, .ref pb, .ref pq, .int (zi we), .int (zi wr), .ref pw, .int (zi ty), .ref pt])), (pk, aI cI 12 (zup kf ru.toNat kk)), (pa, aI cI 12 (zup af ru.toNat aa)), (pb, aI cI 12 (zup bf ru.toNat bb)), (pq, aI cI 12 (zup zf ru.toNat cz))] := hD
        refine lv_aload_n hx hb dX5_holiday_93 rfl (lv_at hl 0 rfl) ?_
        refine va_get (D := (dC, dI)) (ci := 5) (v := .int (zi (ru + 1))) (C := RX5) (T := TX5) (N := 12) hx hb hts (by decide +kernel) hown hK hP 0 rfl rfl 2 (by decide) (hts (.fieldLink RX5 122 "CivilDaysModel" "rules" "I") (by decide +kernel)) (fun _ h9 => h9) rfl dX5_holiday_94 ?_
        have hP9 := hP.sub (ws' := [(g0, .inr (5, [.int (zi 0), .ref ps, .int (zi (ru + 1)), .ref pk, .ref pa, .ref pb, .ref pq, .int (zi we), .int (zi wr), .ref pw, .int (zi ty), .ref pt])), (pk, aI cI 12 (zup kf ru.toNat kk)), (pa, aI cI 12 (zup af ru.toNat aa)), (pb, aI cI 12 (zup bf ru.toNat bb)), (pq, aI cI 12 (zup zf ru.toNat cz))]) [0, 1, 2, 3, 4] rfl
        have hD9 := hD.sub (ws' := [(g0, .inr (5, [.int (zi 0), .ref ps, .int (zi (ru + 1)), .ref pk, .ref pa, .ref pb, .ref pq, .int (zi we), .int (zi wr), .ref pw, .int (zi ty), .ref pt])), (pk, aI cI 12 (zup kf ru.toNat kk)), (pa, aI cI 12 (zup af ru.toNat aa)), (pb, aI cI 12 (zup bf ru.toNat bb)), (pq, aI cI 12 (zup zf ru.toNat cz))]) [0, 1, 2, 3, 4] (by decide) rfl
        exact W.iret (v := zi (ru + 1)) hx hb hr (fun t ht hW => ⟨⟨zi (ru + 1), (), rfl, rfl, by rw [ht]; exact hP9, va_K.moved hW.alike hK, hD9⟩, hS.F ht⟩) hS.2.2 dX5_holiday_97
      · skip
        exact absurd True.intro (by omega)
    · skip
      exact absurd True.intro (by omega)
  · skip
    exact absurd True.intro (by omega)

set_option maxHeartbeats 4000000 in
set_option maxRecDepth 100000 in
theorem c_X5_noHoliday_1 (l : Launch)  (dC : Nat → ClassId) (dI : Nat → Nat → Nat) (cI : ClassId) (g0 : Nat) (ps : Nat) (pk : Nat) (pa : Nat) (pb : Nat) (pq : Nat) (pw : Nat) (pt : Nat) (co : Int) (ru : Int) (we : Int) (wr : Int) (ty : Int) (kf : Nat → Int) (af : Nat → Int) (bf : Nat → Int) (zf : Nat → Int) (kk : Int) (sz : Nat) (hp0 : 0 ≤ ru ∧ ru ≤ 12) (hp1 : -2147483648 ≤ kk ∧ kk ≤ 2147483647) (hp2 : kk < 0 ∨ ru ≤ kk) : Met l yX5_noHoliday wsX5_noHoliday ({ frames := 1, cells := 0, slots := 0, locals := 22 }) (zPw (dC, dI) [(cI, .int)] sz [.ref g0, .int (zi kk)] [(g0, .inr (5, [.int (zi co), .ref ps, .int (zi ru), .ref pk, .ref pa, .ref pb, .ref pq, .int (zi we), .int (zi wr), .ref pw, .int (zi ty), .ref pt])), (pk, aI cI 12 kf), (pa, aI cI 12 af), (pb, aI cI 12 bf), (pq, aI cI 12 zf)]) (va_Qi (fun (r : Int32) (_ : Unit) => r = zi 0) (zB (dC, dI) [(cI, .int)] (va_A [(g0, .inr (5, [.int (zi co), .ref ps, .int (zi ru), .ref pk, .ref pa, .ref pb, .ref pq, .int (zi we), .int (zi wr), .ref pw, .int (zi ty), .ref pt])), (pk, aI cI 12 kf), (pa, aI cI 12 af), (pb, aI cI 12 bf), (pq, aI cI 12 zf)] sz) [(g0, .inr (5, [.int (zi 1), .ref ps, .int (zi ru), .ref pk, .ref pa, .ref pb, .ref pq, .int (zi we), .int (zi wr), .ref pw, .int (zi ty), .ref pt])), (pk, aI cI 12 kf), (pa, aI cI 12 af), (pb, aI cI 12 bf), (pq, aI cI 12 zf)]) (va_A [(g0, .inr (5, [.int (zi co), .ref ps, .int (zi ru), .ref pk, .ref pa, .ref pb, .ref pq, .int (zi we), .int (zi wr), .ref pw, .int (zi ty), .ref pt])), (pk, aI cI 12 kf), (pa, aI cI 12 af), (pb, aI cI 12 bf), (pq, aI cI 12 zf)] sz)) 0 0 (va_A [(g0, .inr (5, [.int (zi co), .ref ps, .int (zi ru), .ref pk, .ref pa, .ref pb, .ref pq, .int (zi we), .int (zi wr), .ref pw, .int (zi ty), .ref pt])), (pk, aI cI 12 kf), (pa, aI cI 12 af), (pb, aI cI 12 bf), (pq, aI cI 12 zf)] sz) := by
  refine Met.ofW (cc := cX5_noHoliday) (maxL := 3) (ret := (some .int)) (by decide) rfl ?_
  intro p e s m args below meth c s₁ B hml hv
  obtain ⟨rfl, hsz, hP, hK, hD0⟩ := hv
  have hx := B.exec
  have hb := B.bytes
  have hr := B.returns
  have hts := atoms_spec (ws := wsX5_noHoliday) B.pre
  have hown : s.vm.findClass RX5 = some m.cls := findClass_of_methodNamed B.named
  have hlocks := B.notSynchronized
  subst hsz
  have hD := hD0.self (sz := s.heap.size)
  generalize hAe : va_A [(g0, .inr (5, [.int (zi co), .ref ps, .int (zi ru), .ref pk, .ref pa, .ref pb, .ref pq, .int (zi we), .int (zi wr), .ref pw, .int (zi ty), .ref pt])), (pk, aI cI 12 kf), (pa, aI cI 12 af), (pb, aI cI 12 bf), (pq, aI cI 12 zf)] s.heap.size = A at hD ⊢
  have hA : ∀ q : Nat, s.heap.size ≤ q → A q := fun q h => by rw [← hAe]; exact Or.inr h
  have hS : va_S A s.heap s.heap [] := va_S.rf
  have hP : va_P (dC, dI) vwCl [(g0, .inr (5, [.int (zi co), .ref ps, .int (zi ru), .ref pk, .ref pa, .ref pb, .ref pq, .int (zi we), .int (zi wr), .ref pw, .int (zi ty), .ref pt])), (pk, aI cI 12 kf), (pa, aI cI 12 af), (pb, aI cI 12 bf), (pq, aI cI 12 zf)] s.heap := hP
  have hl := lv_entry ([.ref g0, .int (zi kk)]) (n := 3) (Nat.le_of_ble_eq_true rfl)
  rw [lg_entry_eq]
  generalize (lg_sl ([.ref g0, .int (zi kk)]) ++ List.replicate (3 - (lg_sl ([.ref g0, .int (zi kk)])).length) Slot.unset).toArray = ls at hl ⊢
  have hl : lv_has ls 3 [(0, .ref g0), (1, .int (zi kk))] := hl
  refine lv_aload_n hx hb dX5_noHoliday_0 rfl (lv_at hl 0 rfl) ?_
  refine lv_iload_n hx hb dX5_noHoliday_1 rfl (lv_at hl 1 rfl) ?_
  refine zw_iconst hx hb dX5_noHoliday_2 ?_
  refine lv_aload_n hx hb dX5_noHoliday_3 rfl (lv_at hl 0 rfl) ?_
  refine va_get (D := (dC, dI)) (ci := 5) (v := .int (zi ru)) (C := RX5) (T := TX5) (N := 12) hx hb hts (by decide +kernel) hown hK hP 0 rfl rfl 2 (by decide) (hts (.fieldLink RX5 122 "CivilDaysModel" "rules" "I") (by decide +kernel)) (fun _ h9 => h9) rfl dX5_noHoliday_4 ?_
  refine zw_iconst hx hb dX5_noHoliday_7 ?_
  refine zw_isub hx hb dX5_noHoliday_8 ?_
  have hh1 := c_X5_in l kk 0 (ru - 1) (by omega) (by omega) (by omega)
  refine vp_callSi (va_Run.run (va_runS (As := [.int (zi kk), .int (zi 0), .int (zi (ru - 1))]) (rest := [.ref g0]) ⟨hx, hb, hml, hown, hts⟩ hh1 (va_cwS 3 hts gX5_noHoliday_X5_in rfl rfl rfl (by decide +kernel) ⟨Nat.le_of_ble_eq_true rfl, Nat.le_of_ble_eq_true rfl⟩) ⟨fun a U g mk q => q, fun U hU hW => ⟨rfl, trivial⟩⟩ rfl rfl hl.1 rfl (lv_room (Nat.le_of_ble_eq_true rfl)) dX5_noHoliday_9 ⟨Nat.zero_le _, Nat.zero_le _⟩)) (fun r1 (hr1 : r1 = zi (f_X5_in kk 0 (ru - 1))) => ?_)
  subst hr1
  have hf1 := b_X5_in kk 0 (ru - 1) (by omega) (by omega) (by omega)
  refine zw_if_eq (tgt := 19) hx hb dX5_noHoliday_12 (by decide) ⟨by omega, by omega⟩ (fun h2 => ?_) (fun h2 => ?_)
  · skip
    refine zw_iconst hx hb dX5_noHoliday_19 ?_
    refine va_put (D := (dC, dI)) (ci := 5) (v := .int (zi 1)) (ty := .int) (C := RX5) (T := TX5) (N := 12) hx hb hts (by decide +kernel) tyX5 tyX5_ok nmX5 hown hK hP hD hS 0 rfl rfl 0 (by decide) (hts (.fieldLink RX5 35 "CivilDaysModel" "code" "I") (by decide +kernel)) (fun _ h9 => h9) rfl (by decide +kernel) rfl rfl (Nat.le_of_ble_eq_true rfl) dX5_noHoliday_20 (fun H locs hP hD hS => ?_)
    have hP : va_P (dC, dI) vwCl [(g0, .inr (5, [.int (zi 1), .ref ps, .int (zi ru), .ref pk, .ref pa, .ref pb, .ref pq, .int (zi we), .int (zi wr), .ref pw, .int (zi ty), .ref pt])), (pk, aI cI 12 kf), (pa, aI cI 12 af), (pb, aI cI 12 bf), (pq, aI cI 12 zf)] H := hP
    have hD : va_D A [(g0, .inr (5, [.int (zi 1), .ref ps, .int (zi ru), .ref pk, .ref pa, .ref pb, .ref pq, .int (zi we), .int (zi wr), .ref pw, .int (zi ty), .ref pt])), (pk, aI cI 12 kf), (pa, aI cI 12 af), (pb, aI cI 12 bf), (pq, aI cI 12 zf)] := hD
    refine lv_aload_n hx hb dX5_noHoliday_23 rfl (lv_at hl 0 rfl) ?_
    refine va_get (D := (dC, dI)) (ci := 5) (v := .int (zi 1)) (C := RX5) (T := TX5) (N := 12) hx hb hts (by decide +kernel) hown hK hP 0 rfl rfl 0 (by decide) (hts (.fieldLink RX5 35 "CivilDaysModel" "code" "I") (by decide +kernel)) (fun _ h9 => h9) rfl dX5_noHoliday_24 ?_
    refine zw_if_le (tgt := 32) hx hb dX5_noHoliday_27 (by decide) ⟨by omega, by omega⟩ (fun h3 => ?_) (fun h3 => ?_)
    · skip
      exact absurd True.intro (by omega)
    · skip
      refine zw_iconst hx hb dX5_noHoliday_30 ?_
      have hP9 := hP.sub (ws' := [(g0, .inr (5, [.int (zi 1), .ref ps, .int (zi ru), .ref pk, .ref pa, .ref pb, .ref pq, .int (zi we), .int (zi wr), .ref pw, .int (zi ty), .ref pt])), (pk, aI cI 12 kf), (pa, aI cI 12 af), (pb, aI cI 12 bf), (pq, aI cI 12 zf)]) [0, 1, 2, 3, 4] rfl
      have hD9 := hD.sub (ws' := [(g0, .inr (5, [.int (zi 1), .ref ps, .int (zi ru), .ref pk, .ref pa, .ref pb, .ref pq, .int (zi we), .int (zi wr), .ref pw, .int (zi ty), .ref pt])), (pk, aI cI 12 kf), (pa, aI cI 12 af), (pb, aI cI 12 bf), (pq, aI cI 12 zf)]) [0, 1, 2, 3, 4] (by decide) rfl
      exact W.iret (v := zi 0) hx hb hr (fun t ht hW => ⟨⟨zi 0, (), rfl, rfl, by rw [ht]; exact hP9, va_K.moved hW.alike hK, hD9⟩, hS.F ht⟩) hS.2.2 dX5_noHoliday_31
  · skip
    exact absurd True.intro (by omega)

set_option maxHeartbeats 4000000 in
set_option maxRecDepth 100000 in
theorem c_X5_noHoliday (l : Launch)  (dC : Nat → ClassId) (dI : Nat → Nat → Nat) (cI : ClassId) (g0 : Nat) (ps : Nat) (pk : Nat) (pa : Nat) (pb : Nat) (pq : Nat) (pw : Nat) (pt : Nat) (co : Int) (ru : Int) (we : Int) (wr : Int) (ty : Int) (kf : Nat → Int) (af : Nat → Int) (bf : Nat → Int) (zf : Nat → Int) (kk : Int) (sz : Nat) (hp0 : 0 ≤ ru ∧ ru ≤ 12) (hp1 : 0 ≤ kk ∧ kk < ru) : Met l yX5_noHoliday wsX5_noHoliday ({ frames := 1, cells := 0, slots := 0, locals := 22 }) (zPw (dC, dI) [(cI, .int)] sz [.ref g0, .int (zi kk)] [(g0, .inr (5, [.int (zi co), .ref ps, .int (zi ru), .ref pk, .ref pa, .ref pb, .ref pq, .int (zi we), .int (zi wr), .ref pw, .int (zi ty), .ref pt])), (pk, aI cI 12 kf), (pa, aI cI 12 af), (pb, aI cI 12 bf), (pq, aI cI 12 zf)]) (va_Qi (fun (r : Int32) (u : (Nat → Int) × (Nat → Int) × (Nat → Int) × (Nat → Int)) => r = zi (ru - 1) ∧ ((∀ j : Nat, (j : Int) < ru - 1 → u.1 j = if (j : Int) < kk then kf j else kf (j + 1)) ∧ (∀ j : Nat, (j : Int) < ru - 1 → u.2.1 j = if (j : Int) < kk then af j else af (j + 1)) ∧ (∀ j : Nat, (j : Int) < ru - 1 → u.2.2.1 j = if (j : Int) < kk then bf j else bf (j + 1)) ∧ (∀ j : Nat, (j : Int) < ru - 1 → u.2.2.2 j = if (j : Int) < kk then zf j else zf (j + 1)))) (fun (u : (Nat → Int) × (Nat → Int) × (Nat → Int) × (Nat → Int)) => zB (dC, dI) [(cI, .int)] (va_A [(g0, .inr (5, [.int (zi co), .ref ps, .int (zi ru), .ref pk, .ref pa, .ref pb, .ref pq, .int (zi we), .int (zi wr), .ref pw, .int (zi ty), .ref pt])), (pk, aI cI 12 kf), (pa, aI cI 12 af), (pb, aI cI 12 bf), (pq, aI cI 12 zf)] sz) [(g0, .inr (5, [.int (zi 0), .ref ps, .int (zi (ru - 1)), .ref pk, .ref pa, .ref pb, .ref pq, .int (zi we), .int (zi wr), .ref pw, .int (zi ty), .ref pt])), (pk, aI cI 12 u.1), (pa, aI cI 12 u.2.1), (pb, aI cI 12 u.2.2.1), (pq, aI cI 12 u.2.2.2)] ()) (va_A [(g0, .inr (5, [.int (zi co), .ref ps, .int (zi ru), .ref pk, .ref pa, .ref pb, .ref pq, .int (zi we), .int (zi wr), .ref pw, .int (zi ty), .ref pt])), (pk, aI cI 12 kf), (pa, aI cI 12 af), (pb, aI cI 12 bf), (pq, aI cI 12 zf)] sz)) 0 0 (va_A [(g0, .inr (5, [.int (zi co), .ref ps, .int (zi ru), .ref pk, .ref pa, .ref pb, .ref pq, .int (zi we), .int (zi wr), .ref pw, .int (zi ty), .ref pt])), (pk, aI cI 12 kf), (pa, aI cI 12 af), (pb, aI cI 12 bf), (pq, aI cI 12 zf)] sz) := by
  refine Met.ofW (cc := cX5_noHoliday) (maxL := 3) (ret := (some .int)) (by decide) rfl ?_
  intro p e s m args below meth c s₁ B hml hv
  obtain ⟨rfl, hsz, hP, hK, hD0⟩ := hv
  have hx := B.exec
  have hb := B.bytes
  have hr := B.returns
  have hts := atoms_spec (ws := wsX5_noHoliday) B.pre
  have hown : s.vm.findClass RX5 = some m.cls := findClass_of_methodNamed B.named
  have hlocks := B.notSynchronized
  subst hsz
  have hD := hD0.self (sz := s.heap.size)
  generalize hAe : va_A [(g0, .inr (5, [.int (zi co), .ref ps, .int (zi ru), .ref pk, .ref pa, .ref pb, .ref pq, .int (zi we), .int (zi wr), .ref pw, .int (zi ty), .ref pt])), (pk, aI cI 12 kf), (pa, aI cI 12 af), (pb, aI cI 12 bf), (pq, aI cI 12 zf)] s.heap.size = A at hD ⊢
  have hA : ∀ q : Nat, s.heap.size ≤ q → A q := fun q h => by rw [← hAe]; exact Or.inr h
  have hS : va_S A s.heap s.heap [] := va_S.rf
  have hP : va_P (dC, dI) vwCl [(g0, .inr (5, [.int (zi co), .ref ps, .int (zi ru), .ref pk, .ref pa, .ref pb, .ref pq, .int (zi we), .int (zi wr), .ref pw, .int (zi ty), .ref pt])), (pk, aI cI 12 kf), (pa, aI cI 12 af), (pb, aI cI 12 bf), (pq, aI cI 12 zf)] s.heap := hP
  have loop44 : ∀ (fu : Nat) (ii : Int) (kg : Nat → Int) (ag : Nat → Int) (bg : Nat → Int) (zg : Nat → Int), (kk ≤ ii ∧ ii ≤ ru - 1) → (∀ j : Nat, kg j = if kk ≤ (j : Int) ∧ (j : Int) < ii then kf (j + 1) else kf j) → (∀ j : Nat, ag j = if kk ≤ (j : Int) ∧ (j : Int) < ii then af (j + 1) else af j) → (∀ j : Nat, bg j = if kk ≤ (j : Int) ∧ (j : Int) < ii then bf (j + 1) else bf j) → (∀ j : Nat, zg j = if kk ≤ (j : Int) ∧ (j : Int) < ii then zf (j + 1) else zf j) → (ru - ii < fu) → ∀ (ls : Array Slot) (H : Heap) (locs : List Loc), lv_has ls 3 [(2, .int (zi ii)), (0, .ref g0), (1, .int (zi kk))] → va_P (dC, dI) vwCl [(g0, .inr (5, [.int (zi 0), .ref ps, .int (zi (ru - 1)), .ref pk, .ref pa, .ref pb, .ref pq, .int (zi we), .int (zi wr), .ref pw, .int (zi ty), .ref pt])), (pk, aI cI 12 kg), (pa, aI cI 12 ag), (pb, aI cI 12 bg), (pq, aI cI 12 zg)] H → va_D A [(g0, .inr (5, [.int (zi 0), .ref ps, .int (zi (ru - 1)), .ref pk, .ref pa, .ref pb, .ref pq, .int (zi we), .int (zi wr), .ref pw, .int (zi ty), .ref pt])), (pk, aI cI 12 kg), (pa, aI cI 12 ag), (pb, aI cI 12 bg), (pq, aI cI 12 zg)] → va_S A s.heap H locs → W p l e (headSpec wsX5_noHoliday ({ frames := 1, cells := 0, slots := 0, locals := 22 })).room s m ([.ref g0, .int (zi kk)] : List Value).toArray below meth c H locs 0 0 (MQ below (va_Qi (fun (r : Int32) (u : (Nat → Int) × (Nat → Int) × (Nat → Int) × (Nat → Int)) => r = zi (ru - 1) ∧ ((∀ j : Nat, (j : Int) < ru - 1 → u.1 j = if (j : Int) < kk then kf j else kf (j + 1)) ∧ (∀ j : Nat, (j : Int) < ru - 1 → u.2.1 j = if (j : Int) < kk then af j else af (j + 1)) ∧ (∀ j : Nat, (j : Int) < ru - 1 → u.2.2.1 j = if (j : Int) < kk then bf j else bf (j + 1)) ∧ (∀ j : Nat, (j : Int) < ru - 1 → u.2.2.2 j = if (j : Int) < kk then zf j else zf (j + 1)))) (fun (u : (Nat → Int) × (Nat → Int) × (Nat → Int) × (Nat → Int)) => zB (dC, dI) [(cI, .int)] A [(g0, .inr (5, [.int (zi 0), .ref ps, .int (zi (ru - 1)), .ref pk, .ref pa, .ref pb, .ref pq, .int (zi we), .int (zi wr), .ref pw, .int (zi ty), .ref pt])), (pk, aI cI 12 u.1), (pa, aI cI 12 u.2.1), (pb, aI cI 12 u.2.2.1), (pq, aI cI 12 u.2.2.2)] ()) A) ([.ref g0, .int (zi kk)] : List Value).toArray s 0 0 A) (F0 m 44 ls []) := by
    intro fu
    induction fu with
    | zero =>
      intro ii kg ag bg zg hi0 hi1 hi2 hi3 hi4 hfu ls H locs hl hP hD hS
      exact absurd hfu (by omega)
    | succ fu ih =>
      intro ii kg ag bg zg hi0 hi1 hi2 hi3 hi4 hfu ls H locs hl hP hD hS
      have hP : va_P (dC, dI) vwCl [(g0, .inr (5, [.int (zi 0), .ref ps, .int (zi (ru - 1)), .ref pk, .ref pa, .ref pb, .ref pq, .int (zi we), .int (zi wr), .ref pw, .int (zi ty), .ref pt])), (pk, aI cI 12 kg), (pa, aI cI 12 ag), (pb, aI cI 12 bg), (pq, aI cI 12 zg)] H := hP
      have hD : va_D A [(g0, .inr (5, [.int (zi 0), .ref ps, .int (zi (ru - 1)), .ref pk, .ref pa, .ref pb, .ref pq, .int (zi we), .int (zi wr), .ref pw, .int (zi ty), .ref pt])), (pk, aI cI 12 kg), (pa, aI cI 12 ag), (pb, aI cI 12 bg), (pq, aI cI 12 zg)] := hD
      refine lv_iload_n hx hb dX5_noHoliday_44 rfl (lv_at hl 0 rfl) ?_
      refine lv_aload_n hx hb dX5_noHoliday_45 rfl (lv_at hl 1 rfl) ?_
      refine va_get (D := (dC, dI)) (ci := 5) (v := .int (zi (ru - 1))) (C := RX5) (T := TX5) (N := 12) hx hb hts (by decide +kernel) hown hK hP 0 rfl rfl 2 (by decide) (hts (.fieldLink RX5 122 "CivilDaysModel" "rules" "I") (by decide +kernel)) (fun _ h9 => h9) rfl dX5_noHoliday_46 ?_
      refine zw_icmp_ge (tgt := 114) hx hb dX5_noHoliday_49 (by decide) ⟨by omega, by omega⟩ ⟨by omega, by omega⟩ (fun h1 => ?_) (fun h1 => ?_)
      · skip
        refine lv_aload_n hx hb dX5_noHoliday_114 rfl (lv_at hl 1 rfl) ?_
        refine va_get (D := (dC, dI)) (ci := 5) (v := .int (zi (ru - 1))) (C := RX5) (T := TX5) (N := 12) hx hb hts (by decide +kernel) hown hK hP 0 rfl rfl 2 (by decide) (hts (.fieldLink RX5 122 "CivilDaysModel" "rules" "I") (by decide +kernel)) (fun _ h9 => h9) rfl dX5_noHoliday_115 ?_
        have hP9 := hP.sub (ws' := [(g0, .inr (5, [.int (zi 0), .ref ps, .int (zi (ru - 1)), .ref pk, .ref pa, .ref pb, .ref pq, .int (zi we), .int (zi wr), .ref pw, .int (zi ty), .ref pt])), (pk, aI cI 12 kg), (pa, aI cI 12 ag), (pb, aI cI 12 bg), (pq, aI cI 12 zg)]) [0, 1, 2, 3, 4] rfl
        have hD9 := hD.sub (ws' := [(g0, .inr (5, [.int (zi 0), .ref ps, .int (zi (ru - 1)), .ref pk, .ref pa, .ref pb, .ref pq, .int (zi we), .int (zi wr), .ref pw, .int (zi ty), .ref pt])), (pk, aI cI 12 kg), (pa, aI cI 12 ag), (pb, aI cI 12 bg), (pq, aI cI 12 zg)]) [0, 1, 2, 3, 4] (by decide) rfl
        have hp9 : (∀ j : Nat, (j : Int) < ru - 1 → kg j = if (j : Int) < kk then kf j else kf (j + 1)) ∧ (∀ j : Nat, (j : Int) < ru - 1 → ag j = if (j : Int) < kk then af j else af (j + 1)) ∧ (∀ j : Nat, (j : Int) < ru - 1 → bg j = if (j : Int) < kk then bf j else bf (j + 1)) ∧ (∀ j : Nat, (j : Int) < ru - 1 → zg j = if (j : Int) < kk then zf j else zf (j + 1)) := by
          exact ⟨zsh_end _ _ _ _ _ hi1 (by omega), zsh_end _ _ _ _ _ hi2 (by omega), zsh_end _ _ _ _ _ hi3 (by omega), zsh_end _ _ _ _ _ hi4 (by omega)⟩
        exact W.iret (v := zi (ru - 1)) hx hb hr (fun t ht hW => ⟨⟨zi (ru - 1), (kg, ag, bg, zg), rfl, ⟨rfl, hp9⟩, by rw [ht]; exact hP9, va_K.moved hW.alike hK, hD9⟩, hS.F ht⟩) hS.2.2 dX5_noHoliday_118
      · skip
        refine lv_aload_n hx hb dX5_noHoliday_52 rfl (lv_at hl 1 rfl) ?_
        refine va_get (D := (dC, dI)) (ci := 5) (v := .ref pk) (C := RX5) (T := TX5) (N := 12) hx hb hts (by decide +kernel) hown hK hP 0 rfl rfl 3 (by decide) (hts (.fieldLink RX5 13 "CivilDaysModel" "kinds" "[I") (by decide +kernel)) (fun _ h9 => h9) rfl dX5_noHoliday_53 ?_
        refine lv_iload_n hx hb dX5_noHoliday_56 rfl (lv_at hl 0 rfl) ?_
        refine lv_aload_n hx hb dX5_noHoliday_57 rfl (lv_at hl 1 rfl) ?_
        refine va_get (D := (dC, dI)) (ci := 5) (v := .ref pk) (C := RX5) (T := TX5) (N := 12) hx hb hts (by decide +kernel) hown hK hP 0 rfl rfl 3 (by decide) (hts (.fieldLink RX5 13 "CivilDaysModel" "kinds" "[I") (by decide +kernel)) (fun _ h9 => h9) rfl dX5_noHoliday_58 ?_
        refine lv_iload_n hx hb dX5_noHoliday_61 rfl (lv_at hl 0 rfl) ?_
        refine zw_iconst hx hb dX5_noHoliday_62 ?_
        refine zw_iadd hx hb dX5_noHoliday_63 ?_
        refine zw_iald hx hb hK hP 1 0 rfl rfl (by omega) (by omega) ⟨by omega, by omega⟩ dX5_noHoliday_64 ?_
        refine zw_iast hx hb hK hP hD hS 1 0 rfl rfl (by omega) (by omega) ⟨by omega, by omega⟩ dX5_noHoliday_65 (fun H locs hP hD hS => ?_)
        have hP : va_P (dC, dI) vwCl [(g0, .inr (5, [.int (zi 0), .ref ps, .int (zi (ru - 1)), .ref pk, .ref pa, .ref pb, .ref pq, .int (zi we), .int (zi wr), .ref pw, .int (zi ty), .ref pt])), (pk, aI cI 12 (zup kg ii.toNat (kg (Int.toNat (ii + 1))))), (pa, aI cI 12 ag), (pb, aI cI 12 bg), (pq, aI cI 12 zg)] H := hP
        have hD : va_D A [(g0, .inr (5, [.int (zi 0), .ref ps, .int (zi (ru - 1)), .ref pk, .ref pa, .ref pb, .ref pq, .int (zi we), .int (zi wr), .ref pw, .int (zi ty), .ref pt])), (pk, aI cI 12 (zup kg ii.toNat (kg (Int.toNat (ii + 1))))), (pa, aI cI 12 ag), (pb, aI cI 12 bg), (pq, aI cI 12 zg)] := hD
        refine lv_aload_n hx hb dX5_noHoliday_66 rfl (lv_at hl 1 rfl) ?_
        refine va_get (D := (dC, dI)) (ci := 5) (v := .ref pa) (C := RX5) (T := TX5) (N := 12) hx hb hts (by decide +kernel) hown hK hP 0 rfl rfl 4 (by decide) (hts (.fieldLink RX5 16 "CivilDaysModel" "as" "[I") (by decide +kernel)) (fun _ h9 => h9) rfl dX5_noHoliday_67 ?_
        refine lv_iload_n hx hb dX5_noHoliday_70 rfl (lv_at hl 0 rfl) ?_
        refine lv_aload_n hx hb dX5_noHoliday_71 rfl (lv_at hl 1 rfl) ?_
        refine va_get (D := (dC, dI)) (ci := 5) (v := .ref pa) (C := RX5) (T := TX5) (N := 12) hx hb hts (by decide +kernel) hown hK hP 0 rfl rfl 4 (by decide) (hts (.fieldLink RX5 16 "CivilDaysModel" "as" "[I") (by decide +kernel)) (fun _ h9 => h9) rfl dX5_noHoliday_72 ?_
        refine lv_iload_n hx hb dX5_noHoliday_75 rfl (lv_at hl 0 rfl) ?_
        refine zw_iconst hx hb dX5_noHoliday_76 ?_
        refine zw_iadd hx hb dX5_noHoliday_77 ?_
        refine zw_iald hx hb hK hP 2 0 rfl rfl (by omega) (by omega) ⟨by omega, by omega⟩ dX5_noHoliday_78 ?_
        refine zw_iast hx hb hK hP hD hS 2 0 rfl rfl (by omega) (by omega) ⟨by omega, by omega⟩ dX5_noHoliday_79 (fun H locs hP hD hS => ?_)
        have hP : va_P (dC, dI) vwCl [(g0, .inr (5, [.int (zi 0), .ref ps, .int (zi (ru - 1)), .ref pk, .ref pa, .ref pb, .ref pq, .int (zi we), .int (zi wr), .ref pw, .int (zi ty), .ref pt])), (pk, aI cI 12 (zup kg ii.toNat (kg (Int.toNat (ii + 1))))), (pa, aI cI 12 (zup ag ii.toNat (ag (Int.toNat (ii + 1))))), (pb, aI cI 12 bg), (pq, aI cI 12 zg)] H := hP
        have hD : va_D A [(g0, .inr (5, [.int (zi 0), .ref ps, .int (zi (ru - 1)), .ref pk, .ref pa, .ref pb, .ref pq, .int (zi we), .int (zi wr), .ref pw, .int (zi ty), .ref pt])), (pk, aI cI 12 (zup kg ii.toNat (kg (Int.toNat (ii + 1))))), (pa, aI cI 12 (zup ag ii.toNat (ag (Int.toNat (ii + 1))))), (pb, aI cI 12 bg), (pq, aI cI 12 zg)] := hD
        refine lv_aload_n hx hb dX5_noHoliday_80 rfl (lv_at hl 1 rfl) ?_
        refine va_get (D := (dC, dI)) (ci := 5) (v := .ref pb) (C := RX5) (T := TX5) (N := 12) hx hb hts (by decide +kernel) hown hK hP 0 rfl rfl 5 (by decide) (hts (.fieldLink RX5 19 "CivilDaysModel" "bs" "[I") (by decide +kernel)) (fun _ h9 => h9) rfl dX5_noHoliday_81 ?_
        refine lv_iload_n hx hb dX5_noHoliday_84 rfl (lv_at hl 0 rfl) ?_
        refine lv_aload_n hx hb dX5_noHoliday_85 rfl (lv_at hl 1 rfl) ?_
        refine va_get (D := (dC, dI)) (ci := 5) (v := .ref pb) (C := RX5) (T := TX5) (N := 12) hx hb hts (by decide +kernel) hown hK hP 0 rfl rfl 5 (by decide) (hts (.fieldLink RX5 19 "CivilDaysModel" "bs" "[I") (by decide +kernel)) (fun _ h9 => h9) rfl dX5_noHoliday_86 ?_
        refine lv_iload_n hx hb dX5_noHoliday_89 rfl (lv_at hl 0 rfl) ?_
        refine zw_iconst hx hb dX5_noHoliday_90 ?_
        refine zw_iadd hx hb dX5_noHoliday_91 ?_
        refine zw_iald hx hb hK hP 3 0 rfl rfl (by omega) (by omega) ⟨by omega, by omega⟩ dX5_noHoliday_92 ?_
        refine zw_iast hx hb hK hP hD hS 3 0 rfl rfl (by omega) (by omega) ⟨by omega, by omega⟩ dX5_noHoliday_93 (fun H locs hP hD hS => ?_)
        have hP : va_P (dC, dI) vwCl [(g0, .inr (5, [.int (zi 0), .ref ps, .int (zi (ru - 1)), .ref pk, .ref pa, .ref pb, .ref pq, .int (zi we), .int (zi wr), .ref pw, .int (zi ty), .ref pt])), (pk, aI cI 12 (zup kg ii.toNat (kg (Int.toNat (ii + 1))))), (pa, aI cI 12 (zup ag ii.toNat (ag (Int.toNat (ii + 1))))), (pb, aI cI 12 (zup bg ii.toNat (bg (Int.toNat (ii + 1))))), (pq, aI cI 12 zg)] H := hP
        have hD : va_D A [(g0, .inr (5, [.int (zi 0), .ref ps, .int (zi (ru - 1)), .ref pk, .ref pa, .ref pb, .ref pq, .int (zi we), .int (zi wr), .ref pw, .int (zi ty), .ref pt])), (pk, aI cI 12 (zup kg ii.toNat (kg (Int.toNat (ii + 1))))), (pa, aI cI 12 (zup ag ii.toNat (ag (Int.toNat (ii + 1))))), (pb, aI cI 12 (zup bg ii.toNat (bg (Int.toNat (ii + 1))))), (pq, aI cI 12 zg)] := hD
        refine lv_aload_n hx hb dX5_noHoliday_94 rfl (lv_at hl 1 rfl) ?_
        refine va_get (D := (dC, dI)) (ci := 5) (v := .ref pq) (C := RX5) (T := TX5) (N := 12) hx hb hts (by decide +kernel) hown hK hP 0 rfl rfl 6 (by decide) (hts (.fieldLink RX5 22 "CivilDaysModel" "cs" "[I") (by decide +kernel)) (fun _ h9 => h9) rfl dX5_noHoliday_95 ?_
        refine lv_iload_n hx hb dX5_noHoliday_98 rfl (lv_at hl 0 rfl) ?_
        refine lv_aload_n hx hb dX5_noHoliday_99 rfl (lv_at hl 1 rfl) ?_
        refine va_get (D := (dC, dI)) (ci := 5) (v := .ref pq) (C := RX5) (T := TX5) (N := 12) hx hb hts (by decide +kernel) hown hK hP 0 rfl rfl 6 (by decide) (hts (.fieldLink RX5 22 "CivilDaysModel" "cs" "[I") (by decide +kernel)) (fun _ h9 => h9) rfl dX5_noHoliday_100 ?_
        refine lv_iload_n hx hb dX5_noHoliday_103 rfl (lv_at hl 0 rfl) ?_
        refine zw_iconst hx hb dX5_noHoliday_104 ?_
        refine zw_iadd hx hb dX5_noHoliday_105 ?_
        refine zw_iald hx hb hK hP 4 0 rfl rfl (by omega) (by omega) ⟨by omega, by omega⟩ dX5_noHoliday_106 ?_
        refine zw_iast hx hb hK hP hD hS 4 0 rfl rfl (by omega) (by omega) ⟨by omega, by omega⟩ dX5_noHoliday_107 (fun H locs hP hD hS => ?_)
        have hP : va_P (dC, dI) vwCl [(g0, .inr (5, [.int (zi 0), .ref ps, .int (zi (ru - 1)), .ref pk, .ref pa, .ref pb, .ref pq, .int (zi we), .int (zi wr), .ref pw, .int (zi ty), .ref pt])), (pk, aI cI 12 (zup kg ii.toNat (kg (Int.toNat (ii + 1))))), (pa, aI cI 12 (zup ag ii.toNat (ag (Int.toNat (ii + 1))))), (pb, aI cI 12 (zup bg ii.toNat (bg (Int.toNat (ii + 1))))), (pq, aI cI 12 (zup zg ii.toNat (zg (Int.toNat (ii + 1)))))] H := hP
        have hD : va_D A [(g0, .inr (5, [.int (zi 0), .ref ps, .int (zi (ru - 1)), .ref pk, .ref pa, .ref pb, .ref pq, .int (zi we), .int (zi wr), .ref pw, .int (zi ty), .ref pt])), (pk, aI cI 12 (zup kg ii.toNat (kg (Int.toNat (ii + 1))))), (pa, aI cI 12 (zup ag ii.toNat (ag (Int.toNat (ii + 1))))), (pb, aI cI 12 (zup bg ii.toNat (bg (Int.toNat (ii + 1))))), (pq, aI cI 12 (zup zg ii.toNat (zg (Int.toNat (ii + 1)))))] := hD
        obtain ⟨x2, ex2⟩ : ∃ z : Int, z = ii + 1 := ⟨_, rfl⟩
        refine zw_iinc (lv' := [(2, .int (zi x2)), (0, .ref g0), (1, .int (zi kk))]) (k := 0) hx hb ex2 dX5_noHoliday_108 hl rfl (by decide) rfl (fun ls hl => ?_)
        refine lv_goto (tgt := 44) hx hb dX5_noHoliday_111 (by decide) ?_
        subst ex2
        have hP9 := hP.sub (ws' := [(g0, .inr (5, [.int (zi 0), .ref ps, .int (zi (ru - 1)), .ref pk, .ref pa, .ref pb, .ref pq, .int (zi we), .int (zi wr), .ref pw, .int (zi ty), .ref pt])), (pk, aI cI 12 (zup kg ii.toNat (kg (Int.toNat (ii + 1))))), (pa, aI cI 12 (zup ag ii.toNat (ag (Int.toNat (ii + 1))))), (pb, aI cI 12 (zup bg ii.toNat (bg (Int.toNat (ii + 1))))), (pq, aI cI 12 (zup zg ii.toNat (zg (Int.toNat (ii + 1)))))]) [0, 1, 2, 3, 4] rfl
        have hD9 := hD.sub (ws' := [(g0, .inr (5, [.int (zi 0), .ref ps, .int (zi (ru - 1)), .ref pk, .ref pa, .ref pb, .ref pq, .int (zi we), .int (zi wr), .ref pw, .int (zi ty), .ref pt])), (pk, aI cI 12 (zup kg ii.toNat (kg (Int.toNat (ii + 1))))), (pa, aI cI 12 (zup ag ii.toNat (ag (Int.toNat (ii + 1))))), (pb, aI cI 12 (zup bg ii.toNat (bg (Int.toNat (ii + 1))))), (pq, aI cI 12 (zup zg ii.toNat (zg (Int.toNat (ii + 1)))))]) [0, 1, 2, 3, 4] (by decide) rfl
        exact ih (ii + 1) (zup kg ii.toNat (kg (Int.toNat (ii + 1)))) (zup ag ii.toNat (ag (Int.toNat (ii + 1)))) (zup bg ii.toNat (bg (Int.toNat (ii + 1)))) (zup zg ii.toNat (zg (Int.toNat (ii + 1)))) (by omega) (by first | exact zsh_step _ _ _ _ (by omega) hi1 | (intro j; rw [if_neg (by omega)])) (by first | exact zsh_step _ _ _ _ (by omega) hi2 | (intro j; rw [if_neg (by omega)])) (by first | exact zsh_step _ _ _ _ (by omega) hi3 | (intro j; rw [if_neg (by omega)])) (by first | exact zsh_step _ _ _ _ (by omega) hi4 | (intro j; rw [if_neg (by omega)])) (by omega) ls _ _ (lv_sub hl [0, 1, 2] rfl) hP9 hD9 hS
  have hl := lv_entry ([.ref g0, .int (zi kk)]) (n := 3) (Nat.le_of_ble_eq_true rfl)
  rw [lg_entry_eq]
  generalize (lg_sl ([.ref g0, .int (zi kk)]) ++ List.replicate (3 - (lg_sl ([.ref g0, .int (zi kk)])).length) Slot.unset).toArray = ls at hl ⊢
  have hl : lv_has ls 3 [(0, .ref g0), (1, .int (zi kk))] := hl
  refine lv_aload_n hx hb dX5_noHoliday_0 rfl (lv_at hl 0 rfl) ?_
  refine lv_iload_n hx hb dX5_noHoliday_1 rfl (lv_at hl 1 rfl) ?_
  refine zw_iconst hx hb dX5_noHoliday_2 ?_
  refine lv_aload_n hx hb dX5_noHoliday_3 rfl (lv_at hl 0 rfl) ?_
  refine va_get (D := (dC, dI)) (ci := 5) (v := .int (zi ru)) (C := RX5) (T := TX5) (N := 12) hx hb hts (by decide +kernel) hown hK hP 0 rfl rfl 2 (by decide) (hts (.fieldLink RX5 122 "CivilDaysModel" "rules" "I") (by decide +kernel)) (fun _ h9 => h9) rfl dX5_noHoliday_4 ?_
  refine zw_iconst hx hb dX5_noHoliday_7 ?_
  refine zw_isub hx hb dX5_noHoliday_8 ?_
  have hh3 := c_X5_in l kk 0 (ru - 1) (by omega) (by omega) (by omega)
  refine vp_callSi (va_Run.run (va_runS (As := [.int (zi kk), .int (zi 0), .int (zi (ru - 1))]) (rest := [.ref g0]) ⟨hx, hb, hml, hown, hts⟩ hh3 (va_cwS 3 hts gX5_noHoliday_X5_in rfl rfl rfl (by decide +kernel) ⟨Nat.le_of_ble_eq_true rfl, Nat.le_of_ble_eq_true rfl⟩) ⟨fun a U g mk q => q, fun U hU hW => ⟨rfl, trivial⟩⟩ rfl rfl hl.1 rfl (lv_room (Nat.le_of_ble_eq_true rfl)) dX5_noHoliday_9 ⟨Nat.zero_le _, Nat.zero_le _⟩)) (fun r3 (hr3 : r3 = zi (f_X5_in kk 0 (ru - 1))) => ?_)
  subst hr3
  have hf3 := b_X5_in kk 0 (ru - 1) (by omega) (by omega) (by omega)
  refine zw_if_eq (tgt := 19) hx hb dX5_noHoliday_12 (by decide) ⟨by omega, by omega⟩ (fun h4 => ?_) (fun h4 => ?_)
  · skip
    exact absurd True.intro (by omega)
  · skip
    refine zw_iconst hx hb dX5_noHoliday_15 ?_
    refine lv_goto (tgt := 20) hx hb dX5_noHoliday_16 (by decide) ?_
    refine va_put (D := (dC, dI)) (ci := 5) (v := .int (zi 0)) (ty := .int) (C := RX5) (T := TX5) (N := 12) hx hb hts (by decide +kernel) tyX5 tyX5_ok nmX5 hown hK hP hD hS 0 rfl rfl 0 (by decide) (hts (.fieldLink RX5 35 "CivilDaysModel" "code" "I") (by decide +kernel)) (fun _ h9 => h9) rfl (by decide +kernel) rfl rfl (Nat.le_of_ble_eq_true rfl) dX5_noHoliday_20 (fun H locs hP hD hS => ?_)
    have hP : va_P (dC, dI) vwCl [(g0, .inr (5, [.int (zi 0), .ref ps, .int (zi ru), .ref pk, .ref pa, .ref pb, .ref pq, .int (zi we), .int (zi wr), .ref pw, .int (zi ty), .ref pt])), (pk, aI cI 12 kf), (pa, aI cI 12 af), (pb, aI cI 12 bf), (pq, aI cI 12 zf)] H := hP
    have hD : va_D A [(g0, .inr (5, [.int (zi 0), .ref ps, .int (zi ru), .ref pk, .ref pa, .ref pb, .ref pq, .int (zi we), .int (zi wr), .ref pw, .int (zi ty), .ref pt])), (pk, aI cI 12 kf), (pa, aI cI 12 af), (pb, aI cI 12 bf), (pq, aI cI 12 zf)] := hD
    refine lv_aload_n hx hb dX5_noHoliday_23 rfl (lv_at hl 0 rfl) ?_
    refine va_get (D := (dC, dI)) (ci := 5) (v := .int (zi 0)) (C := RX5) (T := TX5) (N := 12) hx hb hts (by decide +kernel) hown hK hP 0 rfl rfl 0 (by decide) (hts (.fieldLink RX5 35 "CivilDaysModel" "code" "I") (by decide +kernel)) (fun _ h9 => h9) rfl dX5_noHoliday_24 ?_
    refine zw_if_le (tgt := 32) hx hb dX5_noHoliday_27 (by decide) ⟨by omega, by omega⟩ (fun h5 => ?_) (fun h5 => ?_)
    · skip
      refine lv_aload_n hx hb dX5_noHoliday_32 rfl (lv_at hl 0 rfl) ?_
      refine lv_dup hx hb dX5_noHoliday_33 rfl ?_
      refine va_get (D := (dC, dI)) (ci := 5) (v := .int (zi ru)) (C := RX5) (T := TX5) (N := 12) hx hb hts (by decide +kernel) hown hK hP 0 rfl rfl 2 (by decide) (hts (.fieldLink RX5 122 "CivilDaysModel" "rules" "I") (by decide +kernel)) (fun _ h9 => h9) rfl dX5_noHoliday_34 ?_
      refine zw_iconst hx hb dX5_noHoliday_37 ?_
      refine zw_isub hx hb dX5_noHoliday_38 ?_
      refine va_put (D := (dC, dI)) (ci := 5) (v := .int (zi (ru - 1))) (ty := .int) (C := RX5) (T := TX5) (N := 12) hx hb hts (by decide +kernel) tyX5 tyX5_ok nmX5 hown hK hP hD hS 0 rfl rfl 2 (by decide) (hts (.fieldLink RX5 122 "CivilDaysModel" "rules" "I") (by decide +kernel)) (fun _ h9 => h9) rfl (by decide +kernel) rfl rfl (Nat.le_of_ble_eq_true rfl) dX5_noHoliday_39 (fun H locs hP hD hS => ?_)
      have hP : va_P (dC, dI) vwCl [(g0, .inr (5, [.int (zi 0), .ref ps, .int (zi (ru - 1)), .ref pk, .ref pa, .ref pb, .ref pq, .int (zi we), .int (zi wr), .ref pw, .int (zi ty), .ref pt])), (pk, aI cI 12 kf), (pa, aI cI 12 af), (pb, aI cI 12 bf), (pq, aI cI 12 zf)] H := hP
      have hD : va_D A [(g0, .inr (5, [.int (zi 0), .ref ps, .int (zi (ru - 1)), .ref pk, .ref pa, .ref pb, .ref pq, .int (zi we), .int (zi wr), .ref pw, .int (zi ty), .ref pt])), (pk, aI cI 12 kf), (pa, aI cI 12 af), (pb, aI cI 12 bf), (pq, aI cI 12 zf)] := hD
      refine lv_iload_n hx hb dX5_noHoliday_42 rfl (lv_at hl 1 rfl) ?_
      refine lv_istore_n (lv' := [(2, .int (zi kk)), (0, .ref g0), (1, .int (zi kk))]) hx hb dX5_noHoliday_43 rfl hl (by decide) rfl (fun ls hl => ?_)
      have hP9 := hP.sub (ws' := [(g0, .inr (5, [.int (zi 0), .ref ps, .int (zi (ru - 1)), .ref pk, .ref pa, .ref pb, .ref pq, .int (zi we), .int (zi wr), .ref pw, .int (zi ty), .ref pt])), (pk, aI cI 12 kf), (pa, aI cI 12 af), (pb, aI cI 12 bf), (pq, aI cI 12 zf)]) [0, 1, 2, 3, 4] rfl
      have hD9 := hD.sub (ws' := [(g0, .inr (5, [.int (zi 0), .ref ps, .int (zi (ru - 1)), .ref pk, .ref pa, .ref pb, .ref pq, .int (zi we), .int (zi wr), .ref pw, .int (zi ty), .ref pt])), (pk, aI cI 12 kf), (pa, aI cI 12 af), (pb, aI cI 12 bf), (pq, aI cI 12 zf)]) [0, 1, 2, 3, 4] (by decide) rfl
      exact loop44 (14) kk kf af bf zf (by omega) (by first | exact zsh_step _ _ _ _ (by omega) hi1 | (intro j; rw [if_neg (by omega)])) (by first | exact zsh_step _ _ _ _ (by omega) hi2 | (intro j; rw [if_neg (by omega)])) (by first | exact zsh_step _ _ _ _ (by omega) hi3 | (intro j; rw [if_neg (by omega)])) (by first | exact zsh_step _ _ _ _ (by omega) hi4 | (intro j; rw [if_neg (by omega)])) (by omega) ls _ _ (lv_sub hl [0, 1, 2] rfl) hP9 hD9 hS
    · skip
      exact absurd True.intro (by omega)

set_option maxHeartbeats 4000000 in
set_option maxRecDepth 100000 in
theorem c_X5_clear (l : Launch)  (dC : Nat → ClassId) (dI : Nat → Nat → Nat) (cI : ClassId) (g0 : Nat) (ps : Nat) (pk : Nat) (pa : Nat) (pb : Nat) (pq : Nat) (pw : Nat) (pt : Nat) (co : Int) (ru : Int) (we : Int) (wr : Int) (ty : Int) (sf : Nat → Int) (sz : Nat)  : Met l yX5_clear wsX5_clear ({ frames := 0, cells := 0, slots := 0, locals := 0 }) (zPw (dC, dI) [(cI, .int)] sz [.ref g0] [(g0, .inr (5, [.int (zi co), .ref ps, .int (zi ru), .ref pk, .ref pa, .ref pb, .ref pq, .int (zi we), .int (zi wr), .ref pw, .int (zi ty), .ref pt])), (ps, aI cI 10 sf)]) (va_Qv (fun (u : (Nat → Int)) => ∀ j : Nat, u j = if j < 10 then -1 else sf j) (fun (u : (Nat → Int)) => zB (dC, dI) [(cI, .int)] (va_A [(g0, .inr (5, [.int (zi co), .ref ps, .int (zi ru), .ref pk, .ref pa, .ref pb, .ref pq, .int (zi we), .int (zi wr), .ref pw, .int (zi ty), .ref pt])), (ps, aI cI 10 sf)] sz) [(g0, .inr (5, [.int (zi 0), .ref ps, .int (zi 0), .ref pk, .ref pa, .ref pb, .ref pq, .int (zi 96), .int (zi 0), .ref pw, .int (zi 0), .ref pt])), (ps, aI cI 10 u)] ()) (va_A [(g0, .inr (5, [.int (zi co), .ref ps, .int (zi ru), .ref pk, .ref pa, .ref pb, .ref pq, .int (zi we), .int (zi wr), .ref pw, .int (zi ty), .ref pt])), (ps, aI cI 10 sf)] sz)) 0 0 (va_A [(g0, .inr (5, [.int (zi co), .ref ps, .int (zi ru), .ref pk, .ref pa, .ref pb, .ref pq, .int (zi we), .int (zi wr), .ref pw, .int (zi ty), .ref pt])), (ps, aI cI 10 sf)] sz) := by
  refine Met.ofW (cc := cX5_clear) (maxL := 2) (ret := none) (by decide) rfl ?_
  intro p e s m args below meth c s₁ B hml hv
  obtain ⟨rfl, hsz, hP, hK, hD0⟩ := hv
  have hx := B.exec
  have hb := B.bytes
  have hr := B.returns
  have hts := atoms_spec (ws := wsX5_clear) B.pre
  have hown : s.vm.findClass RX5 = some m.cls := findClass_of_methodNamed B.named
  have hlocks := B.notSynchronized
  subst hsz
  have hD := hD0.self (sz := s.heap.size)
  generalize hAe : va_A [(g0, .inr (5, [.int (zi co), .ref ps, .int (zi ru), .ref pk, .ref pa, .ref pb, .ref pq, .int (zi we), .int (zi wr), .ref pw, .int (zi ty), .ref pt])), (ps, aI cI 10 sf)] s.heap.size = A at hD ⊢
  have hA : ∀ q : Nat, s.heap.size ≤ q → A q := fun q h => by rw [← hAe]; exact Or.inr h
  have hS : va_S A s.heap s.heap [] := va_S.rf
  have hP : va_P (dC, dI) vwCl [(g0, .inr (5, [.int (zi co), .ref ps, .int (zi ru), .ref pk, .ref pa, .ref pb, .ref pq, .int (zi we), .int (zi wr), .ref pw, .int (zi ty), .ref pt])), (ps, aI cI 10 sf)] s.heap := hP
  have hl := lv_entry ([.ref g0]) (n := 2) (Nat.le_of_ble_eq_true rfl)
  rw [lg_entry_eq]
  generalize (lg_sl ([.ref g0]) ++ List.replicate (2 - (lg_sl ([.ref g0])).length) Slot.unset).toArray = ls at hl ⊢
  have hl : lv_has ls 2 [(0, .ref g0)] := hl
  refine lv_aload_n hx hb dX5_clear_0 rfl (lv_at hl 0 rfl) ?_
  refine zw_iconst hx hb dX5_clear_1 ?_
  refine va_put (D := (dC, dI)) (ci := 5) (v := .int (zi 0)) (ty := .int) (C := RX5) (T := TX5) (N := 12) hx hb hts (by decide +kernel) tyX5 tyX5_ok nmX5 hown hK hP hD hS 0 rfl rfl 0 (by decide) (hts (.fieldLink RX5 35 "CivilDaysModel" "code" "I") (by decide +kernel)) (fun _ h9 => h9) rfl (by decide +kernel) rfl rfl (Nat.le_of_ble_eq_true rfl) dX5_clear_2 (fun H locs hP hD hS => ?_)
  have hP : va_P (dC, dI) vwCl [(g0, .inr (5, [.int (zi 0), .ref ps, .int (zi ru), .ref pk, .ref pa, .ref pb, .ref pq, .int (zi we), .int (zi wr), .ref pw, .int (zi ty), .ref pt])), (ps, aI cI 10 sf)] H := hP
  have hD : va_D A [(g0, .inr (5, [.int (zi 0), .ref ps, .int (zi ru), .ref pk, .ref pa, .ref pb, .ref pq, .int (zi we), .int (zi wr), .ref pw, .int (zi ty), .ref pt])), (ps, aI cI 10 sf)] := hD
  refine zw_iconst hx hb dX5_clear_5 ?_
  refine lv_istore_n (lv' := [(1, .int (zi 0)), (0, .ref g0)]) hx hb dX5_clear_6 rfl hl (by decide) rfl (fun ls hl => ?_)
  refine lv_iload_n hx hb dX5_clear_7 rfl (lv_at hl 0 rfl) ?_
  refine zw_bipush hx hb dX5_clear_8 (by decide) ?_
  refine zw_icmp_ge (tgt := 26) hx hb dX5_clear_10 (by decide) ⟨by omega, by omega⟩ ⟨by omega, by omega⟩ (fun h1 => ?_) (fun h1 => ?_)
  · skip
    exact absurd True.intro (by omega)
  · skip
    refine lv_aload_n hx hb dX5_clear_13 rfl (lv_at hl 1 rfl) ?_
    refine va_get (D := (dC, dI)) (ci := 5) (v := .ref ps) (C := RX5) (T := TX5) (N := 12) hx hb hts (by decide +kernel) hown hK hP 0 rfl rfl 1 (by decide) (hts (.fieldLink RX5 7 "CivilDaysModel" "slots" "[I") (by decide +kernel)) (fun _ h9 => h9) rfl dX5_clear_14 ?_
    refine lv_iload_n hx hb dX5_clear_17 rfl (lv_at hl 0 rfl) ?_
    refine zw_iconst hx hb dX5_clear_18 ?_
    refine zw_iast hx hb hK hP hD hS 1 0 rfl rfl (by omega) (by omega) ⟨by omega, by omega⟩ dX5_clear_19 (fun H locs hP hD hS => ?_)
    have hP : va_P (dC, dI) vwCl [(g0, .inr (5, [.int (zi 0), .ref ps, .int (zi ru), .ref pk, .ref pa, .ref pb, .ref pq, .int (zi we), .int (zi wr), .ref pw, .int (zi ty), .ref pt])), (ps, aI cI 10 (zup sf (Int.toNat 0) (-1)))] H := hP
    have hD : va_D A [(g0, .inr (5, [.int (zi 0), .ref ps, .int (zi ru), .ref pk, .ref pa, .ref pb, .ref pq, .int (zi we), .int (zi wr), .ref pw, .int (zi ty), .ref pt])), (ps, aI cI 10 (zup sf (Int.toNat 0) (-1)))] := hD
    refine zw_iinc (z := 1) (lv' := [(1, .int (zi 1)), (0, .ref g0)]) (k := 0) hx hb (by decide) dX5_clear_20 hl rfl (by decide) rfl (fun ls hl => ?_)
    refine lv_goto (tgt := 7) hx hb dX5_clear_23 (by decide) ?_
    refine lv_iload_n hx hb dX5_clear_7 rfl (lv_at hl 0 rfl) ?_
    refine zw_bipush hx hb dX5_clear_8 (by decide) ?_
    refine zw_icmp_ge (tgt := 26) hx hb dX5_clear_10 (by decide) ⟨by omega, by omega⟩ ⟨by omega, by omega⟩ (fun h2 => ?_) (fun h2 => ?_)
    · skip
      exact absurd True.intro (by omega)
    · skip
      refine lv_aload_n hx hb dX5_clear_13 rfl (lv_at hl 1 rfl) ?_
      refine va_get (D := (dC, dI)) (ci := 5) (v := .ref ps) (C := RX5) (T := TX5) (N := 12) hx hb hts (by decide +kernel) hown hK hP 0 rfl rfl 1 (by decide) (hts (.fieldLink RX5 7 "CivilDaysModel" "slots" "[I") (by decide +kernel)) (fun _ h9 => h9) rfl dX5_clear_14 ?_
      refine lv_iload_n hx hb dX5_clear_17 rfl (lv_at hl 0 rfl) ?_
      refine zw_iconst hx hb dX5_clear_18 ?_
      refine zw_iast hx hb hK hP hD hS 1 0 rfl rfl (by omega) (by omega) ⟨by omega, by omega⟩ dX5_clear_19 (fun H locs hP hD hS => ?_)
      have hP : va_P (dC, dI) vwCl [(g0, .inr (5, [.int (zi 0), .ref ps, .int (zi ru), .ref pk, .ref pa, .ref pb, .ref pq, .int (zi we), .int (zi wr), .ref pw, .int (zi ty), .ref pt])), (ps, aI cI 10 (zup (zup sf (Int.toNat 0) (-1)) (Int.toNat 1) (-1)))] H := hP
      have hD : va_D A [(g0, .inr (5, [.int (zi 0), .ref ps, .int (zi ru), .ref pk, .ref pa, .ref pb, .ref pq, .int (zi we), .int (zi wr), .ref pw, .int (zi ty), .ref pt])), (ps, aI cI 10 (zup (zup sf (Int.toNat 0) (-1)) (Int.toNat 1) (-1)))] := hD
      refine zw_iinc (z := 2) (lv' := [(1, .int (zi 2)), (0, .ref g0)]) (k := 0) hx hb (by decide) dX5_clear_20 hl rfl (by decide) rfl (fun ls hl => ?_)
      refine lv_goto (tgt := 7) hx hb dX5_clear_23 (by decide) ?_
      refine lv_iload_n hx hb dX5_clear_7 rfl (lv_at hl 0 rfl) ?_
      refine zw_bipush hx hb dX5_clear_8 (by decide) ?_
      refine zw_icmp_ge (tgt := 26) hx hb dX5_clear_10 (by decide) ⟨by omega, by omega⟩ ⟨by omega, by omega⟩ (fun h3 => ?_) (fun h3 => ?_)
      · skip
        exact absurd True.intro (by omega)
      · skip
        refine lv_aload_n hx hb dX5_clear_13 rfl (lv_at hl 1 rfl) ?_
        refine va_get (D := (dC, dI)) (ci := 5) (v := .ref ps) (C := RX5) (T := TX5) (N := 12) hx hb hts (by decide +kernel) hown hK hP 0 rfl rfl 1 (by decide) (hts (.fieldLink RX5 7 "CivilDaysModel" "slots" "[I") (by decide +kernel)) (fun _ h9 => h9) rfl dX5_clear_14 ?_
        refine lv_iload_n hx hb dX5_clear_17 rfl (lv_at hl 0 rfl) ?_
        refine zw_iconst hx hb dX5_clear_18 ?_
        refine zw_iast hx hb hK hP hD hS 1 0 rfl rfl (by omega) (by omega) ⟨by omega, by omega⟩ dX5_clear_19 (fun H locs hP hD hS => ?_)
        have hP : va_P (dC, dI) vwCl [(g0, .inr (5, [.int (zi 0), .ref ps, .int (zi ru), .ref pk, .ref pa, .ref pb, .ref pq, .int (zi we), .int (zi wr), .ref pw, .int (zi ty), .ref pt])), (ps, aI cI 10 (zup (zup (zup sf (Int.toNat 0) (-1)) (Int.toNat 1) (-1)) (Int.toNat 2) (-1)))] H := hP
        have hD : va_D A [(g0, .inr (5, [.int (zi 0), .ref ps, .int (zi ru), .ref pk, .ref pa, .ref pb, .ref pq, .int (zi we), .int (zi wr), .ref pw, .int (zi ty), .ref pt])), (ps, aI cI 10 (zup (zup (zup sf (Int.toNat 0) (-1)) (Int.toNat 1) (-1)) (Int.toNat 2) (-1)))] := hD
        refine zw_iinc (z := 3) (lv' := [(1, .int (zi 3)), (0, .ref g0)]) (k := 0) hx hb (by decide) dX5_clear_20 hl rfl (by decide) rfl (fun ls hl => ?_)
        refine lv_goto (tgt := 7) hx hb dX5_clear_23 (by decide) ?_
        refine lv_iload_n hx hb dX5_clear_7 rfl (lv_at hl 0 rfl) ?_
        refine zw_bipush hx hb dX5_clear_8 (by decide) ?_
        refine zw_icmp_ge (tgt := 26) hx hb dX5_clear_10 (by decide) ⟨by omega, by omega⟩ ⟨by omega, by omega⟩ (fun h4 => ?_) (fun h4 => ?_)
        · skip
          exact absurd True.intro (by omega)
        · skip
          refine lv_aload_n hx hb dX5_clear_13 rfl (lv_at hl 1 rfl) ?_
          refine va_get (D := (dC, dI)) (ci := 5) (v := .ref ps) (C := RX5) (T := TX5) (N := 12) hx hb hts (by decide +kernel) hown hK hP 0 rfl rfl 1 (by decide) (hts (.fieldLink RX5 7 "CivilDaysModel" "slots" "[I") (by decide +kernel)) (fun _ h9 => h9) rfl dX5_clear_14 ?_
          refine lv_iload_n hx hb dX5_clear_17 rfl (lv_at hl 0 rfl) ?_
          refine zw_iconst hx hb dX5_clear_18 ?_
          refine zw_iast hx hb hK hP hD hS 1 0 rfl rfl (by omega) (by omega) ⟨by omega, by omega⟩ dX5_clear_19 (fun H locs hP hD hS => ?_)
          have hP : va_P (dC, dI) vwCl [(g0, .inr (5, [.int (zi 0), .ref ps, .int (zi ru), .ref pk, .ref pa, .ref pb, .ref pq, .int (zi we), .int (zi wr), .ref pw, .int (zi ty), .ref pt])), (ps, aI cI 10 (zup (zup (zup (zup sf (Int.toNat 0) (-1)) (Int.toNat 1) (-1)) (Int.toNat 2) (-1)) (Int.toNat 3) (-1)))] H := hP
          have hD : va_D A [(g0, .inr (5, [.int (zi 0), .ref ps, .int (zi ru), .ref pk, .ref pa, .ref pb, .ref pq, .int (zi we), .int (zi wr), .ref pw, .int (zi ty), .ref pt])), (ps, aI cI 10 (zup (zup (zup (zup sf (Int.toNat 0) (-1)) (Int.toNat 1) (-1)) (Int.toNat 2) (-1)) (Int.toNat 3) (-1)))] := hD
          refine zw_iinc (z := 4) (lv' := [(1, .int (zi 4)), (0, .ref g0)]) (k := 0) hx hb (by decide) dX5_clear_20 hl rfl (by decide) rfl (fun ls hl => ?_)
          refine lv_goto (tgt := 7) hx hb dX5_clear_23 (by decide) ?_
          refine lv_iload_n hx hb dX5_clear_7 rfl (lv_at hl 0 rfl) ?_
          refine zw_bipush hx hb dX5_clear_8 (by decide) ?_
          refine zw_icmp_ge (tgt := 26) hx hb dX5_clear_10 (by decide) ⟨by omega, by omega⟩ ⟨by omega, by omega⟩ (fun h5 => ?_) (fun h5 => ?_)
          · skip
            exact absurd True.intro (by omega)
          · skip
            refine lv_aload_n hx hb dX5_clear_13 rfl (lv_at hl 1 rfl) ?_
            refine va_get (D := (dC, dI)) (ci := 5) (v := .ref ps) (C := RX5) (T := TX5) (N := 12) hx hb hts (by decide +kernel) hown hK hP 0 rfl rfl 1 (by decide) (hts (.fieldLink RX5 7 "CivilDaysModel" "slots" "[I") (by decide +kernel)) (fun _ h9 => h9) rfl dX5_clear_14 ?_
            refine lv_iload_n hx hb dX5_clear_17 rfl (lv_at hl 0 rfl) ?_
            refine zw_iconst hx hb dX5_clear_18 ?_
            refine zw_iast hx hb hK hP hD hS 1 0 rfl rfl (by omega) (by omega) ⟨by omega, by omega⟩ dX5_clear_19 (fun H locs hP hD hS => ?_)
            have hP : va_P (dC, dI) vwCl [(g0, .inr (5, [.int (zi 0), .ref ps, .int (zi ru), .ref pk, .ref pa, .ref pb, .ref pq, .int (zi we), .int (zi wr), .ref pw, .int (zi ty), .ref pt])), (ps, aI cI 10 (zup (zup (zup (zup (zup sf (Int.toNat 0) (-1)) (Int.toNat 1) (-1)) (Int.toNat 2) (-1)) (Int.toNat 3) (-1)) (Int.toNat 4) (-1)))] H := hP
            have hD : va_D A [(g0, .inr (5, [.int (zi 0), .ref ps, .int (zi ru), .ref pk, .ref pa, .ref pb, .ref pq, .int (zi we), .int (zi wr), .ref pw, .int (zi ty), .ref pt])), (ps, aI cI 10 (zup (zup (zup (zup (zup sf (Int.toNat 0) (-1)) (Int.toNat 1) (-1)) (Int.toNat 2) (-1)) (Int.toNat 3) (-1)) (Int.toNat 4) (-1)))] := hD
            refine zw_iinc (z := 5) (lv' := [(1, .int (zi 5)), (0, .ref g0)]) (k := 0) hx hb (by decide) dX5_clear_20 hl rfl (by decide) rfl (fun ls hl => ?_)
            refine lv_goto (tgt := 7) hx hb dX5_clear_23 (by decide) ?_
            refine lv_iload_n hx hb dX5_clear_7 rfl (lv_at hl 0 rfl) ?_
            refine zw_bipush hx hb dX5_clear_8 (by decide) ?_
            refine zw_icmp_ge (tgt := 26) hx hb dX5_clear_10 (by decide) ⟨by omega, by omega⟩ ⟨by omega, by omega⟩ (fun h6 => ?_) (fun h6 => ?_)
            · skip
              exact absurd True.intro (by omega)
            · skip
              refine lv_aload_n hx hb dX5_clear_13 rfl (lv_at hl 1 rfl) ?_
              refine va_get (D := (dC, dI)) (ci := 5) (v := .ref ps) (C := RX5) (T := TX5) (N := 12) hx hb hts (by decide +kernel) hown hK hP 0 rfl rfl 1 (by decide) (hts (.fieldLink RX5 7 "CivilDaysModel" "slots" "[I") (by decide +kernel)) (fun _ h9 => h9) rfl dX5_clear_14 ?_
              refine lv_iload_n hx hb dX5_clear_17 rfl (lv_at hl 0 rfl) ?_
              refine zw_iconst hx hb dX5_clear_18 ?_
              refine zw_iast hx hb hK hP hD hS 1 0 rfl rfl (by omega) (by omega) ⟨by omega, by omega⟩ dX5_clear_19 (fun H locs hP hD hS => ?_)
              have hP : va_P (dC, dI) vwCl [(g0, .inr (5, [.int (zi 0), .ref ps, .int (zi ru), .ref pk, .ref pa, .ref pb, .ref pq, .int (zi we), .int (zi wr), .ref pw, .int (zi ty), .ref pt])), (ps, aI cI 10 (zup (zup (zup (zup (zup (zup sf (Int.toNat 0) (-1)) (Int.toNat 1) (-1)) (Int.toNat 2) (-1)) (Int.toNat 3) (-1)) (Int.toNat 4) (-1)) (Int.toNat 5) (-1)))] H := hP
              have hD : va_D A [(g0, .inr (5, [.int (zi 0), .ref ps, .int (zi ru), .ref pk, .ref pa, .ref pb, .ref pq, .int (zi we), .int (zi wr), .ref pw, .int (zi ty), .ref pt])), (ps, aI cI 10 (zup (zup (zup (zup (zup (zup sf (Int.toNat 0) (-1)) (Int.toNat 1) (-1)) (Int.toNat 2) (-1)) (Int.toNat 3) (-1)) (Int.toNat 4) (-1)) (Int.toNat 5) (-1)))] := hD
              refine zw_iinc (z := 6) (lv' := [(1, .int (zi 6)), (0, .ref g0)]) (k := 0) hx hb (by decide) dX5_clear_20 hl rfl (by decide) rfl (fun ls hl => ?_)
              refine lv_goto (tgt := 7) hx hb dX5_clear_23 (by decide) ?_
              refine lv_iload_n hx hb dX5_clear_7 rfl (lv_at hl 0 rfl) ?_
              refine zw_bipush hx hb dX5_clear_8 (by decide) ?_
              refine zw_icmp_ge (tgt := 26) hx hb dX5_clear_10 (by decide) ⟨by omega, by omega⟩ ⟨by omega, by omega⟩ (fun h7 => ?_) (fun h7 => ?_)
              · skip
                exact absurd True.intro (by omega)
              · skip
                refine lv_aload_n hx hb dX5_clear_13 rfl (lv_at hl 1 rfl) ?_
                refine va_get (D := (dC, dI)) (ci := 5) (v := .ref ps) (C := RX5) (T := TX5) (N := 12) hx hb hts (by decide +kernel) hown hK hP 0 rfl rfl 1 (by decide) (hts (.fieldLink RX5 7 "CivilDaysModel" "slots" "[I") (by decide +kernel)) (fun _ h9 => h9) rfl dX5_clear_14 ?_
                refine lv_iload_n hx hb dX5_clear_17 rfl (lv_at hl 0 rfl) ?_
                refine zw_iconst hx hb dX5_clear_18 ?_
                refine zw_iast hx hb hK hP hD hS 1 0 rfl rfl (by omega) (by omega) ⟨by omega, by omega⟩ dX5_clear_19 (fun H locs hP hD hS => ?_)
                have hP : va_P (dC, dI) vwCl [(g0, .inr (5, [.int (zi 0), .ref ps, .int (zi ru), .ref pk, .ref pa, .ref pb, .ref pq, .int (zi we), .int (zi wr), .ref pw, .int (zi ty), .ref pt])), (ps, aI cI 10 (zup (zup (zup (zup (zup (zup (zup sf (Int.toNat 0) (-1)) (Int.toNat 1) (-1)) (Int.toNat 2) (-1)) (Int.toNat 3) (-1)) (Int.toNat 4) (-1)) (Int.toNat 5) (-1)) (Int.toNat 6) (-1)))] H := hP
                have hD : va_D A [(g0, .inr (5, [.int (zi 0), .ref ps, .int (zi ru), .ref pk, .ref pa, .ref pb, .ref pq, .int (zi we), .int (zi wr), .ref pw, .int (zi ty), .ref pt])), (ps, aI cI 10 (zup (zup (zup (zup (zup (zup (zup sf (Int.toNat 0) (-1)) (Int.toNat 1) (-1)) (Int.toNat 2) (-1)) (Int.toNat 3) (-1)) (Int.toNat 4) (-1)) (Int.toNat 5) (-1)) (Int.toNat 6) (-1)))] := hD
                refine zw_iinc (z := 7) (lv' := [(1, .int (zi 7)), (0, .ref g0)]) (k := 0) hx hb (by decide) dX5_clear_20 hl rfl (by decide) rfl (fun ls hl => ?_)
                refine lv_goto (tgt := 7) hx hb dX5_clear_23 (by decide) ?_
                refine lv_iload_n hx hb dX5_clear_7 rfl (lv_at hl 0 rfl) ?_
                refine zw_bipush hx hb dX5_clear_8 (by decide) ?_
                refine zw_icmp_ge (tgt := 26) hx hb dX5_clear_10 (by decide) ⟨by omega, by omega⟩ ⟨by omega, by omega⟩ (fun h8 => ?_) (fun h8 => ?_)
                · skip
                  exact absurd True.intro (by omega)
                · skip
                  refine lv_aload_n hx hb dX5_clear_13 rfl (lv_at hl 1 rfl) ?_
                  refine va_get (D := (dC, dI)) (ci := 5) (v := .ref ps) (C := RX5) (T := TX5) (N := 12) hx hb hts (by decide +kernel) hown hK hP 0 rfl rfl 1 (by decide) (hts (.fieldLink RX5 7 "CivilDaysModel" "slots" "[I") (by decide +kernel)) (fun _ h9 => h9) rfl dX5_clear_14 ?_
                  refine lv_iload_n hx hb dX5_clear_17 rfl (lv_at hl 0 rfl) ?_
                  refine zw_iconst hx hb dX5_clear_18 ?_
                  refine zw_iast hx hb hK hP hD hS 1 0 rfl rfl (by omega) (by omega) ⟨by omega, by omega⟩ dX5_clear_19 (fun H locs hP hD hS => ?_)
                  have hP : va_P (dC, dI) vwCl [(g0, .inr (5, [.int (zi 0), .ref ps, .int (zi ru), .ref pk, .ref pa, .ref pb, .ref pq, .int (zi we), .int (zi wr), .ref pw, .int (zi ty), .ref pt])), (ps, aI cI 10 (zup (zup (zup (zup (zup (zup (zup (zup sf (Int.toNat 0) (-1)) (Int.toNat 1) (-1)) (Int.toNat 2) (-1)) (Int.toNat 3) (-1)) (Int.toNat 4) (-1)) (Int.toNat 5) (-1)) (Int.toNat 6) (-1)) (Int.toNat 7) (-1)))] H := hP
                  have hD : va_D A [(g0, .inr (5, [.int (zi 0), .ref ps, .int (zi ru), .ref pk, .ref pa, .ref pb, .ref pq, .int (zi we), .int (zi wr), .ref pw, .int (zi ty), .ref pt])), (ps, aI cI 10 (zup (zup (zup (zup (zup (zup (zup (zup sf (Int.toNat 0) (-1)) (Int.toNat 1) (-1)) (Int.toNat 2) (-1)) (Int.toNat 3) (-1)) (Int.toNat 4) (-1)) (Int.toNat 5) (-1)) (Int.toNat 6) (-1)) (Int.toNat 7) (-1)))] := hD
                  refine zw_iinc (z := 8) (lv' := [(1, .int (zi 8)), (0, .ref g0)]) (k := 0) hx hb (by decide) dX5_clear_20 hl rfl (by decide) rfl (fun ls hl => ?_)
                  refine lv_goto (tgt := 7) hx hb dX5_clear_23 (by decide) ?_
                  refine lv_iload_n hx hb dX5_clear_7 rfl (lv_at hl 0 rfl) ?_
                  refine zw_bipush hx hb dX5_clear_8 (by decide) ?_
                  refine zw_icmp_ge (tgt := 26) hx hb dX5_clear_10 (by decide) ⟨by omega, by omega⟩ ⟨by omega, by omega⟩ (fun h9 => ?_) (fun h9 => ?_)
                  · skip
                    exact absurd True.intro (by omega)
                  · skip
                    refine lv_aload_n hx hb dX5_clear_13 rfl (lv_at hl 1 rfl) ?_
                    refine va_get (D := (dC, dI)) (ci := 5) (v := .ref ps) (C := RX5) (T := TX5) (N := 12) hx hb hts (by decide +kernel) hown hK hP 0 rfl rfl 1 (by decide) (hts (.fieldLink RX5 7 "CivilDaysModel" "slots" "[I") (by decide +kernel)) (fun _ h9 => h9) rfl dX5_clear_14 ?_
                    refine lv_iload_n hx hb dX5_clear_17 rfl (lv_at hl 0 rfl) ?_
                    refine zw_iconst hx hb dX5_clear_18 ?_
                    refine zw_iast hx hb hK hP hD hS 1 0 rfl rfl (by omega) (by omega) ⟨by omega, by omega⟩ dX5_clear_19 (fun H locs hP hD hS => ?_)
                    have hP : va_P (dC, dI) vwCl [(g0, .inr (5, [.int (zi 0), .ref ps, .int (zi ru), .ref pk, .ref pa, .ref pb, .ref pq, .int (zi we), .int (zi wr), .ref pw, .int (zi ty), .ref pt])), (ps, aI cI 10 (zup (zup (zup (zup (zup (zup (zup (zup (zup sf (Int.toNat 0) (-1)) (Int.toNat 1) (-1)) (Int.toNat 2) (-1)) (Int.toNat 3) (-1)) (Int.toNat 4) (-1)) (Int.toNat 5) (-1)) (Int.toNat 6) (-1)) (Int.toNat 7) (-1)) (Int.toNat 8) (-1)))] H := hP
                    have hD : va_D A [(g0, .inr (5, [.int (zi 0), .ref ps, .int (zi ru), .ref pk, .ref pa, .ref pb, .ref pq, .int (zi we), .int (zi wr), .ref pw, .int (zi ty), .ref pt])), (ps, aI cI 10 (zup (zup (zup (zup (zup (zup (zup (zup (zup sf (Int.toNat 0) (-1)) (Int.toNat 1) (-1)) (Int.toNat 2) (-1)) (Int.toNat 3) (-1)) (Int.toNat 4) (-1)) (Int.toNat 5) (-1)) (Int.toNat 6) (-1)) (Int.toNat 7) (-1)) (Int.toNat 8) (-1)))] := hD
                    refine zw_iinc (z := 9) (lv' := [(1, .int (zi 9)), (0, .ref g0)]) (k := 0) hx hb (by decide) dX5_clear_20 hl rfl (by decide) rfl (fun ls hl => ?_)
                    refine lv_goto (tgt := 7) hx hb dX5_clear_23 (by decide) ?_
                    refine lv_iload_n hx hb dX5_clear_7 rfl (lv_at hl 0 rfl) ?_
                    refine zw_bipush hx hb dX5_clear_8 (by decide) ?_
                    refine zw_icmp_ge (tgt := 26) hx hb dX5_clear_10 (by decide) ⟨by omega, by omega⟩ ⟨by omega, by omega⟩ (fun h10 => ?_) (fun h10 => ?_)
                    · skip
                      exact absurd True.intro (by omega)
                    · skip
                      refine lv_aload_n hx hb dX5_clear_13 rfl (lv_at hl 1 rfl) ?_
                      refine va_get (D := (dC, dI)) (ci := 5) (v := .ref ps) (C := RX5) (T := TX5) (N := 12) hx hb hts (by decide +kernel) hown hK hP 0 rfl rfl 1 (by decide) (hts (.fieldLink RX5 7 "CivilDaysModel" "slots" "[I") (by decide +kernel)) (fun _ h9 => h9) rfl dX5_clear_14 ?_
                      refine lv_iload_n hx hb dX5_clear_17 rfl (lv_at hl 0 rfl) ?_
                      refine zw_iconst hx hb dX5_clear_18 ?_
                      refine zw_iast hx hb hK hP hD hS 1 0 rfl rfl (by omega) (by omega) ⟨by omega, by omega⟩ dX5_clear_19 (fun H locs hP hD hS => ?_)
                      have hP : va_P (dC, dI) vwCl [(g0, .inr (5, [.int (zi 0), .ref ps, .int (zi ru), .ref pk, .ref pa, .ref pb, .ref pq, .int (zi we), .int (zi wr), .ref pw, .int (zi ty), .ref pt])), (ps, aI cI 10 (zup (zup (zup (zup (zup (zup (zup (zup (zup (zup sf (Int.toNat 0) (-1)) (Int.toNat 1) (-1)) (Int.toNat 2) (-1)) (Int.toNat 3) (-1)) (Int.toNat 4) (-1)) (Int.toNat 5) (-1)) (Int.toNat 6) (-1)) (Int.toNat 7) (-1)) (Int.toNat 8) (-1)) (Int.toNat 9) (-1)))] H := hP
                      have hD : va_D A [(g0, .inr (5, [.int (zi 0), .ref ps, .int (zi ru), .ref pk, .ref pa, .ref pb, .ref pq, .int (zi we), .int (zi wr), .ref pw, .int (zi ty), .ref pt])), (ps, aI cI 10 (zup (zup (zup (zup (zup (zup (zup (zup (zup (zup sf (Int.toNat 0) (-1)) (Int.toNat 1) (-1)) (Int.toNat 2) (-1)) (Int.toNat 3) (-1)) (Int.toNat 4) (-1)) (Int.toNat 5) (-1)) (Int.toNat 6) (-1)) (Int.toNat 7) (-1)) (Int.toNat 8) (-1)) (Int.toNat 9) (-1)))] := hD
                      refine zw_iinc (z := 10) (lv' := [(1, .int (zi 10)), (0, .ref g0)]) (k := 0) hx hb (by decide) dX5_clear_20 hl rfl (by decide) rfl (fun ls hl => ?_)
                      refine lv_goto (tgt := 7) hx hb dX5_clear_23 (by decide) ?_
                      refine lv_iload_n hx hb dX5_clear_7 rfl (lv_at hl 0 rfl) ?_
                      refine zw_bipush hx hb dX5_clear_8 (by decide) ?_
                      refine zw_icmp_ge (tgt := 26) hx hb dX5_clear_10 (by decide) ⟨by omega, by omega⟩ ⟨by omega, by omega⟩ (fun h11 => ?_) (fun h11 => ?_)
                      · skip
                        refine lv_aload_n hx hb dX5_clear_26 rfl (lv_at hl 1 rfl) ?_
                        refine zw_iconst hx hb dX5_clear_27 ?_
                        refine va_put (D := (dC, dI)) (ci := 5) (v := .int (zi 0)) (ty := .int) (C := RX5) (T := TX5) (N := 12) hx hb hts (by decide +kernel) tyX5 tyX5_ok nmX5 hown hK hP hD hS 0 rfl rfl 2 (by decide) (hts (.fieldLink RX5 122 "CivilDaysModel" "rules" "I") (by decide +kernel)) (fun _ h9 => h9) rfl (by decide +kernel) rfl rfl (Nat.le_of_ble_eq_true rfl) dX5_clear_28 (fun H locs hP hD hS => ?_)
                        have hP : va_P (dC, dI) vwCl [(g0, .inr (5, [.int (zi 0), .ref ps, .int (zi 0), .ref pk, .ref pa, .ref pb, .ref pq, .int (zi we), .int (zi wr), .ref pw, .int (zi ty), .ref pt])), (ps, aI cI 10 (zup (zup (zup (zup (zup (zup (zup (zup (zup (zup sf (Int.toNat 0) (-1)) (Int.toNat 1) (-1)) (Int.toNat 2) (-1)) (Int.toNat 3) (-1)) (Int.toNat 4) (-1)) (Int.toNat 5) (-1)) (Int.toNat 6) (-1)) (Int.toNat 7) (-1)) (Int.toNat 8) (-1)) (Int.toNat 9) (-1)))] H := hP
                        have hD : va_D A [(g0, .inr (5, [.int (zi 0), .ref ps, .int (zi 0), .ref pk, .ref pa, .ref pb, .ref pq, .int (zi we), .int (zi wr), .ref pw, .int (zi ty), .ref pt])), (ps, aI cI 10 (zup (zup (zup (zup (zup (zup (zup (zup (zup (zup sf (Int.toNat 0) (-1)) (Int.toNat 1) (-1)) (Int.toNat 2) (-1)) (Int.toNat 3) (-1)) (Int.toNat 4) (-1)) (Int.toNat 5) (-1)) (Int.toNat 6) (-1)) (Int.toNat 7) (-1)) (Int.toNat 8) (-1)) (Int.toNat 9) (-1)))] := hD
                        refine lv_aload_n hx hb dX5_clear_31 rfl (lv_at hl 1 rfl) ?_
                        refine zw_iconst hx hb dX5_clear_32 ?_
                        refine va_put (D := (dC, dI)) (ci := 5) (v := .int (zi 0)) (ty := .int) (C := RX5) (T := TX5) (N := 12) hx hb hts (by decide +kernel) tyX5 tyX5_ok nmX5 hown hK hP hD hS 0 rfl rfl 8 (by decide) (hts (.fieldLink RX5 134 "CivilDaysModel" "written" "I") (by decide +kernel)) (fun _ h9 => h9) rfl (by decide +kernel) rfl rfl (Nat.le_of_ble_eq_true rfl) dX5_clear_33 (fun H locs hP hD hS => ?_)
                        have hP : va_P (dC, dI) vwCl [(g0, .inr (5, [.int (zi 0), .ref ps, .int (zi 0), .ref pk, .ref pa, .ref pb, .ref pq, .int (zi we), .int (zi 0), .ref pw, .int (zi ty), .ref pt])), (ps, aI cI 10 (zup (zup (zup (zup (zup (zup (zup (zup (zup (zup sf (Int.toNat 0) (-1)) (Int.toNat 1) (-1)) (Int.toNat 2) (-1)) (Int.toNat 3) (-1)) (Int.toNat 4) (-1)) (Int.toNat 5) (-1)) (Int.toNat 6) (-1)) (Int.toNat 7) (-1)) (Int.toNat 8) (-1)) (Int.toNat 9) (-1)))] H := hP
                        have hD : va_D A [(g0, .inr (5, [.int (zi 0), .ref ps, .int (zi 0), .ref pk, .ref pa, .ref pb, .ref pq, .int (zi we), .int (zi 0), .ref pw, .int (zi ty), .ref pt])), (ps, aI cI 10 (zup (zup (zup (zup (zup (zup (zup (zup (zup (zup sf (Int.toNat 0) (-1)) (Int.toNat 1) (-1)) (Int.toNat 2) (-1)) (Int.toNat 3) (-1)) (Int.toNat 4) (-1)) (Int.toNat 5) (-1)) (Int.toNat 6) (-1)) (Int.toNat 7) (-1)) (Int.toNat 8) (-1)) (Int.toNat 9) (-1)))] := hD
                        refine lv_aload_n hx hb dX5_clear_36 rfl (lv_at hl 1 rfl) ?_
                        refine zw_iconst hx hb dX5_clear_37 ?_
                        refine va_put (D := (dC, dI)) (ci := 5) (v := .int (zi 0)) (ty := .int) (C := RX5) (T := TX5) (N := 12) hx hb hts (by decide +kernel) tyX5 tyX5_ok nmX5 hown hK hP hD hS 0 rfl rfl 10 (by decide) (hts (.fieldLink RX5 145 "CivilDaysModel" "typed" "I") (by decide +kernel)) (fun _ h9 => h9) rfl (by decide +kernel) rfl rfl (Nat.le_of_ble_eq_true rfl) dX5_clear_38 (fun H locs hP hD hS => ?_)
                        have hP : va_P (dC, dI) vwCl [(g0, .inr (5, [.int (zi 0), .ref ps, .int (zi 0), .ref pk, .ref pa, .ref pb, .ref pq, .int (zi we), .int (zi 0), .ref pw, .int (zi 0), .ref pt])), (ps, aI cI 10 (zup (zup (zup (zup (zup (zup (zup (zup (zup (zup sf (Int.toNat 0) (-1)) (Int.toNat 1) (-1)) (Int.toNat 2) (-1)) (Int.toNat 3) (-1)) (Int.toNat 4) (-1)) (Int.toNat 5) (-1)) (Int.toNat 6) (-1)) (Int.toNat 7) (-1)) (Int.toNat 8) (-1)) (Int.toNat 9) (-1)))] H := hP
                        have hD : va_D A [(g0, .inr (5, [.int (zi 0), .ref ps, .int (zi 0), .ref pk, .ref pa, .ref pb, .ref pq, .int (zi we), .int (zi 0), .ref pw, .int (zi 0), .ref pt])), (ps, aI cI 10 (zup (zup (zup (zup (zup (zup (zup (zup (zup (zup sf (Int.toNat 0) (-1)) (Int.toNat 1) (-1)) (Int.toNat 2) (-1)) (Int.toNat 3) (-1)) (Int.toNat 4) (-1)) (Int.toNat 5) (-1)) (Int.toNat 6) (-1)) (Int.toNat 7) (-1)) (Int.toNat 8) (-1)) (Int.toNat 9) (-1)))] := hD
                        refine lv_aload_n hx hb dX5_clear_41 rfl (lv_at hl 1 rfl) ?_
                        refine zw_bipush hx hb dX5_clear_42 (by decide) ?_
                        refine va_put (D := (dC, dI)) (ci := 5) (v := .int (zi 96)) (ty := .int) (C := RX5) (T := TX5) (N := 12) hx hb hts (by decide +kernel) tyX5 tyX5_ok nmX5 hown hK hP hD hS 0 rfl rfl 7 (by decide) (hts (.fieldLink RX5 25 "CivilDaysModel" "weekend" "I") (by decide +kernel)) (fun _ h9 => h9) rfl (by decide +kernel) rfl rfl (Nat.le_of_ble_eq_true rfl) dX5_clear_44 (fun H locs hP hD hS => ?_)
                        have hP : va_P (dC, dI) vwCl [(g0, .inr (5, [.int (zi 0), .ref ps, .int (zi 0), .ref pk, .ref pa, .ref pb, .ref pq, .int (zi 96), .int (zi 0), .ref pw, .int (zi 0), .ref pt])), (ps, aI cI 10 (zup (zup (zup (zup (zup (zup (zup (zup (zup (zup sf (Int.toNat 0) (-1)) (Int.toNat 1) (-1)) (Int.toNat 2) (-1)) (Int.toNat 3) (-1)) (Int.toNat 4) (-1)) (Int.toNat 5) (-1)) (Int.toNat 6) (-1)) (Int.toNat 7) (-1)) (Int.toNat 8) (-1)) (Int.toNat 9) (-1)))] H := hP
                        have hD : va_D A [(g0, .inr (5, [.int (zi 0), .ref ps, .int (zi 0), .ref pk, .ref pa, .ref pb, .ref pq, .int (zi 96), .int (zi 0), .ref pw, .int (zi 0), .ref pt])), (ps, aI cI 10 (zup (zup (zup (zup (zup (zup (zup (zup (zup (zup sf (Int.toNat 0) (-1)) (Int.toNat 1) (-1)) (Int.toNat 2) (-1)) (Int.toNat 3) (-1)) (Int.toNat 4) (-1)) (Int.toNat 5) (-1)) (Int.toNat 6) (-1)) (Int.toNat 7) (-1)) (Int.toNat 8) (-1)) (Int.toNat 9) (-1)))] := hD
                        have hP9 := hP.sub (ws' := [(g0, .inr (5, [.int (zi 0), .ref ps, .int (zi 0), .ref pk, .ref pa, .ref pb, .ref pq, .int (zi 96), .int (zi 0), .ref pw, .int (zi 0), .ref pt])), (ps, aI cI 10 (zup (zup (zup (zup (zup (zup (zup (zup (zup (zup sf (Int.toNat 0) (-1)) (Int.toNat 1) (-1)) (Int.toNat 2) (-1)) (Int.toNat 3) (-1)) (Int.toNat 4) (-1)) (Int.toNat 5) (-1)) (Int.toNat 6) (-1)) (Int.toNat 7) (-1)) (Int.toNat 8) (-1)) (Int.toNat 9) (-1)))]) [0, 1] rfl
                        have hD9 := hD.sub (ws' := [(g0, .inr (5, [.int (zi 0), .ref ps, .int (zi 0), .ref pk, .ref pa, .ref pb, .ref pq, .int (zi 96), .int (zi 0), .ref pw, .int (zi 0), .ref pt])), (ps, aI cI 10 (zup (zup (zup (zup (zup (zup (zup (zup (zup (zup sf (Int.toNat 0) (-1)) (Int.toNat 1) (-1)) (Int.toNat 2) (-1)) (Int.toNat 3) (-1)) (Int.toNat 4) (-1)) (Int.toNat 5) (-1)) (Int.toNat 6) (-1)) (Int.toNat 7) (-1)) (Int.toNat 8) (-1)) (Int.toNat 9) (-1)))]) [0, 1] (by decide) rfl
                        have hp9 : ∀ j : Nat, (zup (zup (zup (zup (zup (zup (zup (zup (zup (zup sf (Int.toNat 0) (-1)) (Int.toNat 1) (-1)) (Int.toNat 2) (-1)) (Int.toNat 3) (-1)) (Int.toNat 4) (-1)) (Int.toNat 5) (-1)) (Int.toNat 6) (-1)) (Int.toNat 7) (-1)) (Int.toNat 8) (-1)) (Int.toNat 9) (-1)) j = if j < 10 then -1 else sf j := by
                          exact zfill10 sf
                        exact W.vret hx hb hr (fun t ht hW => ⟨⟨(zup (zup (zup (zup (zup (zup (zup (zup (zup (zup sf (Int.toNat 0) (-1)) (Int.toNat 1) (-1)) (Int.toNat 2) (-1)) (Int.toNat 3) (-1)) (Int.toNat 4) (-1)) (Int.toNat 5) (-1)) (Int.toNat 6) (-1)) (Int.toNat 7) (-1)) (Int.toNat 8) (-1)) (Int.toNat 9) (-1)), rfl, hp9, by rw [ht]; exact hP9, va_K.moved hW.alike hK, hD9⟩, hS.F ht⟩) hS.2.2 dX5_clear_47
                      · skip
                        exact absurd True.intro (by omega)
