theorem b_X0_easterNumber (ya : Int) (hp0 : -2147483648 ≤ ya ∧ ya ≤ 2147483647) : -1 ≤ (f_X0_easterNumber ya) ∧ (f_X0_easterNumber ya) ≤ 4000000 := bb0_easter ya
theorem b_X0_nthNumber (ya : Int) (mo : Int) (wd : Int) (nn : Int) (hp0 : -2147483648 ≤ ya ∧ ya ≤ 2147483647) (hp1 : -2147483648 ≤ mo ∧ mo ≤ 2147483647) (hp2 : -2147483648 ≤ wd ∧ wd ≤ 2147483647) (hp3 : -2147483648 ≤ nn ∧ nn ≤ 2147483647) : -1 ≤ (f_X0_nthNumber ya mo wd nn) ∧ (f_X0_nthNumber ya mo wd nn) ≤ 4000000 := bb0_nth ya mo wd nn hp0 hp1
theorem b_X0_yearDayOf (nu : Int) (hp0 : 0 ≤ nu ∧ nu ≤ 3652058) : 1 ≤ (f_X0_yearDayOf nu) ∧ (f_X0_yearDayOf nu) ≤ 366 := bb0_yearDayOf nu hp0
theorem b_X0_monthOf (nu : Int) (hp0 : 0 ≤ nu ∧ nu ≤ 3652058) : 1 ≤ (f_X0_monthOf nu) ∧ (f_X0_monthOf nu) ≤ 12 := bb0_monthOf nu hp0
theorem b_X0_dayOf (nu : Int) (hp0 : 0 ≤ nu ∧ nu ≤ 3652058) : 1 ≤ (f_X0_dayOf nu) ∧ (f_X0_dayOf nu) ≤ 31 := bb0_dayOf nu hp0
theorem m_X0_week (nu : Int) (h : 0 ≤ nu ∧ nu ≤ 3652058) : f_X0_firstMonday (f_X0_weekYearOf nu) ≤ nu ∧ nu < f_X0_firstMonday (f_X0_weekYearOf nu) + 371 := bb0_week nu h
theorem b_X0_weekOf (nu : Int) (hp0 : 0 ≤ nu ∧ nu ≤ 3652058) : 1 ≤ (f_X0_weekOf nu) ∧ (f_X0_weekOf nu) ≤ 53 := bb0_weekOf nu hp0
theorem b_X0_movedByMonths (nu : Int) (many : Int) (hp0 : 0 ≤ nu ∧ nu ≤ 3652058) (hp1 : -30000000000 ≤ many ∧ many ≤ 30000000000) : -1 ≤ (f_X0_movedByMonths nu many) ∧ (f_X0_movedByMonths nu many) ≤ 3652058 := bb0_moved nu many hp0
theorem b_X0_monthsBetween (fro : Int) (too : Int) (hp0 : 0 ≤ fro ∧ fro ≤ 3652058) (hp1 : 0 ≤ too ∧ too ≤ 3652058) : -120000 ≤ (f_X0_monthsBetween fro too) ∧ (f_X0_monthsBetween fro too) ≤ 120000 := bb0_mb fro too hp0 hp1
theorem m_X0_between (fro too : Int) (h : 0 ≤ fro ∧ fro ≤ too ∧ too ≤ 3652058) : 0 ≤ f_X0_monthsBetween fro too := bb0_between fro too h
theorem b_X4_moved (nu : Int) (many : Int) (un : Int) (hp0 : 0 ≤ nu ∧ nu ≤ 3652058) (hp1 : -2147483648 ≤ many ∧ many ≤ 2147483647) (hp2 : -2147483648 ≤ un ∧ un ≤ 2147483647) : -1 ≤ (f_X4_moved nu many un) ∧ (f_X4_moved nu many un) ≤ 3652058 := by
  unfold f_X4_moved
  split
  · exact b_X0_movedByDays nu many hp0 hp1
  · split
    · exact bb0_moved nu many hp0
    · exact bb0_moved nu (12 * many) hp0
theorem b_X4_wholeUnits (fro : Int) (too : Int) (un : Int) (hp0 : 0 ≤ fro ∧ fro ≤ too ∧ too ≤ 3652058) (hp1 : -2147483648 ≤ un ∧ un ≤ 2147483647) : -4000000 ≤ (f_X4_wholeUnits fro too un) ∧ (f_X4_wholeUnits fro too un) ≤ 4000000 := by
  have h1 := bb0_mb fro too (by omega) (by omega)
  have h2 := bb0_between fro too hp0
  unfold f_X4_wholeUnits
  (repeat' split) <;> omega
theorem b_X5_numberOf (ya : Int) (mo : Int) (da : Int) (hp0 : 1 ≤ ya ∧ ya ≤ 10000) (hp1 : 0 ≤ mo ∧ mo ≤ 12) (hp2 : 1 ≤ da ∧ da ≤ 31) : f_X5_beginOf ya + da - 1 ≤ (f_X5_numberOf ya mo da) ∧ (f_X5_numberOf ya mo da) ≤ f_X5_beginOf ya + da + 340 ∧ (1 < mo ∨ (f_X5_numberOf ya mo da) = f_X5_beginOf ya + da - 1) ∧ f_X5_beginOf ya = 365 * (ya - 1) + (ya - 1) / 4 - (ya - 1) / 100 + (ya - 1) / 400 := by
  have e : f_X5_beginOf ya = f_X0_yearStart ya := rfl
  have g : f_X5_beginOf ya = 365 * (ya - 1) + (ya - 1) / 4 - (ya - 1) / 100 + (ya - 1) / 400 := rfl
  by_cases c : mo ≤ 0
  · have : f_X5_numberOf ya mo da = f_X5_beginOf ya + da - 1 := by
      unfold f_X5_numberOf
      rw [lp_X5_numberOf, if_neg (by omega)]
    omega
  · have h1 := b_X0_monthStart ya mo (by omega) (by omega)
    have h2 := n_eq ya mo da (by omega)
    by_cases c2 : mo = 1
    · subst c2
      have h3 := m_first ya
      rw [← yS_5] at h3
      omega
    · omega
theorem b_X5_yearOf (nu : Int) (hp0 : 0 ≤ nu ∧ nu ≤ 3652061) : 1 ≤ (f_X5_yearOf nu) ∧ (f_X5_yearOf nu) ≤ 10000 ∧ f_X5_beginOf (f_X5_yearOf nu) ≤ nu ∧ nu < f_X5_beginOf ((f_X5_yearOf nu) + 1) := by
  have hc := yS_c
  obtain ⟨h1, h2, h3, h4⟩ := b5_yearOf nu (by omega)
  rw [yS_5, yS_5, show f_X5_yearOf nu + 1 - 1 = f_X5_yearOf nu by omega]
  exact ⟨h1, h2, h3, h4⟩
theorem b_X5_monthOf (nu : Int) (hp0 : 0 ≤ nu ∧ nu ≤ 3652058) : 1 ≤ (f_X5_monthOf nu) ∧ (f_X5_monthOf nu) ≤ 12 := by
  have hc := yS_c
  have h := bb0_monthOf nu hp0
  rw [(mo_day nu (by omega)).1] at h
  exact h
theorem b_X5_dayOf (nu : Int) (hp0 : 0 ≤ nu ∧ nu ≤ 3652058) : 1 ≤ (f_X5_dayOf nu) ∧ (f_X5_dayOf nu) ≤ 31 := by
  have hc := yS_c
  have h := bb0_dayOf nu hp0
  rw [e_dayOf nu (by omega)] at h
  exact h
theorem b_X5_isDate (ya : Int) (mo : Int) (da : Int) (hp0 : -2147483648 ≤ ya ∧ ya ≤ 2147483647) (hp1 : -2147483648 ≤ mo ∧ mo ≤ 2147483647) (hp2 : -2147483648 ≤ da ∧ da ≤ 2147483647) : ((f_X5_isDate ya mo da) = 1 ∧ 1 ≤ ya ∧ ya ≤ 9999 ∧ 1 ≤ mo ∧ mo ≤ 12 ∧ 1 ≤ da ∧ da ≤ 31) ∨ (f_X5_isDate ya mo da) = 0 := by
  have hl := len_b ya mo
  unfold f_X5_isDate
  rw [e_in, e_in, e_in, ← e_len]
  (repeat' split) <;> omega
theorem b_X5_weekYearOf (nu : Int) (hp0 : 0 ≤ nu ∧ nu ≤ 3652058) : 1 ≤ (f_X5_weekYearOf nu) ∧ (f_X5_weekYearOf nu) ≤ 10000 := by
  have h := b_X0_weekYearOf nu hp0
  rw [e_weekYear nu hp0] at h
  exact h
theorem m_X5_week (nu : Int) (h : 0 ≤ nu ∧ nu ≤ 3652058) : f_X5_firstMonday (f_X5_weekYearOf nu) ≤ nu ∧ nu < f_X5_firstMonday (f_X5_weekYearOf nu) + 371 := by
  have g := bb0_week nu h
  rw [e_weekYear nu h, e_firstMonday] at g
  exact g
theorem b_X5_weekOf (nu : Int) (hp0 : 0 ≤ nu ∧ nu ≤ 3652058) : 1 ≤ (f_X5_weekOf nu) ∧ (f_X5_weekOf nu) ≤ 53 := by
  have h := bb0_weekOf nu hp0
  rw [e_weekOf nu hp0] at h
  exact h
theorem b_X5_easterOf (ya : Int) (hp0 : 1583 ≤ ya ∧ ya ≤ 9999) : 0 ≤ (f_X5_easterOf ya) ∧ (f_X5_easterOf ya) ≤ 4000000 := by
  rw [← e_easter ya hp0]
  have g := ms_le ya 3 (by omega)
  have g2 := y_b ya (by omega)
  have hl := len_b ya 3
  have ob : ∀ x : Int, 0 ≤ x → x ≤ 3900000 → 0 ≤ f_X0_onOrBehind x 7 ∧ f_X0_onOrBehind x 7 ≤ 4000000 := fun x h1 h2 => by
    have := ob_b x 7 (by omega) h1
    omega
  unfold f_X0_easterNumber
  rw [if_neg (by omega), if_pos hp0.2]
  (repeat' split) <;> exact ob _ (by omega) (by omega)
theorem b_X5_nthOf (ya : Int) (mo : Int) (wd : Int) (nn : Int) (hp0 : 1 ≤ ya ∧ ya ≤ 9999) (hp1 : 1 ≤ mo ∧ mo ≤ 12) (hp2 : 1 ≤ wd ∧ wd ≤ 7) (hp3 : -2147483648 ≤ nn ∧ nn ≤ 2147483647 ∧ nn ≠ 0) : -1 ≤ (f_X5_nthOf ya mo wd nn) ∧ (f_X5_nthOf ya mo wd nn) ≤ 4000040 := by
  have g := ms_le ya mo (by omega)
  have g2 := y_b ya (by omega)
  have hl := len_b ya mo
  unfold f_X5_nthOf
  rw [n_eq ya mo 1 (by omega), ← e_len, show f_X0_monthStart ya mo + 1 - 1 = f_X0_monthStart ya mo by omega]
  by_cases c : nn ≤ 0
  · have o1 := ob_c (f_X0_monthStart ya mo + f_X0_monthLength ya mo - 1 - 6) wd (by omega)
    rw [if_pos c, nth_down ya mo wd nn (by omega) (by omega) 40 _ _ 0 _ (by omega) (by omega) (by omega) (by omega) (by omega) (by omega)]
    split <;> omega
  · have o1 := ob_c (f_X0_monthStart ya mo) wd (by omega)
    rw [if_neg c, nth_up ya mo wd nn (by omega) (by omega) 40 _ _ 0 _ (by omega) (by omega) (by omega) (by omega) (by omega) (by omega)]
    split <;> omega
theorem b_X5_byMonths (nu : Int) (many : Int) (hp0 : 0 ≤ nu ∧ nu ≤ 3652058) (hp1 : -30000000000 ≤ many ∧ many ≤ 30000000000) : -1 ≤ (f_X5_byMonths nu many) ∧ (f_X5_byMonths nu many) ≤ 3652058 := by
  rw [← e_bym nu many hp0]
  exact bb0_moved nu many hp0
theorem m_X5_mono (fro too : Int) (h : 0 ≤ fro ∧ fro ≤ too ∧ too ≤ 3652058) : 0 ≤ 12 * (f_X5_yearOf too - f_X5_yearOf fro) + f_X5_monthOf too - f_X5_monthOf fro := by
  have hc := yS_c
  have hm := idx_mono fro too h
  rw [e_yearOf fro (by omega), e_yearOf too (by omega), (mo_day fro (by omega)).1, (mo_day too (by omega)).1] at hm
  omega
theorem b_X5_wholes_1 (fro : Int) (too : Int) (hp0 : 0 ≤ fro ∧ fro ≤ too ∧ too ≤ 3652058) : 0 ≤ (f_X5_wholes_1 fro too) ∧ (f_X5_wholes_1 fro too) ≤ 130000 := by
  have h1 := bb0_mb fro too (by omega) (by omega)
  have h2 := bb0_between fro too hp0
  rw [e_wholes1 fro too hp0]
  omega
theorem b_X5_wholes_12 (fro : Int) (too : Int) (hp0 : 0 ≤ fro ∧ fro ≤ too ∧ too ≤ 3652058) : 0 ≤ (f_X5_wholes_12 fro too) ∧ (f_X5_wholes_12 fro too) ≤ 130000 := by
  have h1 := bb0_mb fro too (by omega) (by omega)
  have h2 := bb0_between fro too hp0
  rw [e_wholes12 fro too hp0]
  omega
theorem b_X5_byWeek (ya : Int) (wk : Int) (wd : Int) (hp0 : -2147483648 ≤ ya ∧ ya ≤ 2147483647) (hp1 : -2147483648 ≤ wk ∧ wk ≤ 2147483647) (hp2 : -2147483648 ≤ wd ∧ wd ≤ 2147483647) : -1 ≤ (f_X5_byWeek ya wk wd) ∧ (f_X5_byWeek ya wk wd) ≤ 3652058 := by
  rw [← e_week]
  exact b_X0_weekNumber ya wk wd hp0 hp1 hp2
theorem b_X5_toldOf (nu : Int) (wh : Int) (hp0 : 0 ≤ nu ∧ nu ≤ 3652058) (hp1 : -2147483648 ≤ wh ∧ wh ≤ 2147483647) : -1 ≤ (f_X5_toldOf nu wh) ∧ (f_X5_toldOf nu wh) ≤ 3652058 ∧ (wh ≠ 7 ∨ 1 ≤ (f_X5_toldOf nu wh) ∧ (f_X5_toldOf nu wh) ≤ 366) := by
  have hc := yS_c
  have h1 := b_X5_yearOf nu (by omega)
  have h2 := b_X5_monthOf nu hp0
  have h3 := b_X5_dayOf nu hp0
  have h4 := b_X5_weekdayOf nu (by omega)
  have h5 := b_X5_weekYearOf nu hp0
  have h6 := b_X5_weekOf nu hp0
  have h7 := bb0_yearDayOf nu hp0
  have h8 := len_b (f_X5_yearOf nu) (f_X5_monthOf nu)
  have h9 := b_X5_weeksOf (f_X5_weekYearOf nu) (by omega)
  unfold f_X0_yearDayOf at h7
  rw [e_yearOf nu (by omega), show f_X0_yearStart (f_X5_yearOf nu) = f_X5_beginOf (f_X5_yearOf nu) from rfl] at h7
  rw [e_len] at h8
  unfold f_X5_toldOf
  (repeat' split) <;> omega
