def yS (x : Int) : Int := 365 * x + x / 4 - x / 100 + x / 400
theorem yS_0 (ya : Int) : f_X0_yearStart ya = yS (ya - 1) := rfl
theorem yS_5 (ya : Int) : f_X5_beginOf ya = yS (ya - 1) := rfl
theorem yS_val (q cz f o : Int) (hc : 0 ≤ cz ∧ cz ≤ 3) (hf : 0 ≤ f ∧ f ≤ 24) (ho : 0 ≤ o ∧ o ≤ 3) : yS (400 * q + 100 * cz + 4 * f + o) = 146097 * q + 36524 * cz + 1461 * f + 365 * o := by
  unfold yS
  have h1 : (400 * q + 100 * cz + 4 * f + o) / 4 = 100 * q + 25 * cz + f := by omega
  have h2 : (400 * q + 100 * cz + 4 * f + o) / 100 = 4 * q + cz := by omega
  have h3 : (400 * q + 100 * cz + 4 * f + o) / 400 = q := by omega
  rw [h1, h2, h3]
  omega
theorem yS_mono {a b : Int} (h : a < b) : yS a + 365 ≤ yS b := by
  unfold yS
  have h1 : a / 100 = a / 4 / 25 := by omega
  have h2 : a / 400 = a / 4 / 25 / 4 := by omega
  have h3 : b / 100 = b / 4 / 25 := by omega
  have h4 : b / 400 = b / 4 / 25 / 4 := by omega
  have h5 : a / 4 ≤ b / 4 := by omega
  rw [h1, h2, h3, h4]
  generalize a / 4 = u at *
  generalize b / 4 = v at *
  have h6 : u / 25 ≤ v / 25 := by omega
  have h7 : v / 25 - u / 25 ≤ v - u := by omega
  have h8 : u / 25 / 4 ≤ v / 25 / 4 := by omega
  omega
theorem yS_step (x : Int) : yS (x + 1) = yS x + 365 ∨ yS (x + 1) = yS x + 366 := by
  unfold yS
  omega
theorem y_uniq {n y z : Int} (h1 : yS (y - 1) ≤ n) (h2 : n < yS y) (h3 : yS (z - 1) ≤ n) (h4 : n < yS z) : y = z := by
  have key : ∀ a b : Int, yS a ≤ yS (b - 1) ∨ ¬ a < b := by
    intro a b
    by_cases h : a < b
    · left
      by_cases e : a = b - 1
      · rw [e]; exact Int.le_refl _
      · have := yS_mono (a := a) (b := b - 1) (by omega)
        omega
    · right; exact h
  rcases key y z with q | q <;> rcases key z y with r | r <;> omega
theorem y_X0 (nu : Int) (h : 0 ≤ nu) : yS (f_X0_yearOf nu - 1) ≤ nu ∧ nu < yS (f_X0_yearOf nu) := by
  obtain ⟨q, hq⟩ : ∃ q, q = nu / 146097 := ⟨_, rfl⟩
  obtain ⟨r, hr⟩ : ∃ r, r = nu % 146097 := ⟨_, rfl⟩
  obtain ⟨cz, hc⟩ : ∃ cz, cz = min (r / 36524) 3 := ⟨_, rfl⟩
  obtain ⟨r2, hr2⟩ : ∃ r2, r2 = r - 36524 * cz := ⟨_, rfl⟩
  obtain ⟨f, hf⟩ : ∃ f, f = r2 / 1461 := ⟨_, rfl⟩
  obtain ⟨r3, hr3⟩ : ∃ r3, r3 = r2 - 1461 * f := ⟨_, rfl⟩
  obtain ⟨o, ho⟩ : ∃ o, o = min (r3 / 365) 3 := ⟨_, rfl⟩
  have e : f_X0_yearOf nu = 400 * q + 100 * cz + 4 * f + o + 1 := by
    subst ho hr3 hf hr2 hc hr hq
    rfl
  have b1 : 0 ≤ cz ∧ cz ≤ 3 := by omega
  have b2 : 0 ≤ r2 ∧ (r2 < 36524 ∨ cz = 3 ∧ r2 ≤ 36524) := by omega
  have b3 : 0 ≤ f ∧ f ≤ 24 := by omega
  have b4 : 0 ≤ r3 ∧ r3 ≤ 1460 := by omega
  have b5 : 0 ≤ o ∧ o ≤ 3 := by omega
  have b6 : nu = 146097 * q + 36524 * cz + 1461 * f + r3 := by omega
  rw [e, show 400 * q + 100 * cz + 4 * f + o + 1 - 1 = 400 * q + 100 * cz + 4 * f + o by omega, yS_val q cz f o b1 b3 b5]
  refine ⟨by omega, ?_⟩
  by_cases c1 : o < 3
  · rw [show 400 * q + 100 * cz + 4 * f + o + 1 = 400 * q + 100 * cz + 4 * f + (o + 1) by omega, yS_val q cz f (o + 1) b1 b3 (by omega)]
    omega
  · by_cases c2 : f < 24
    · rw [show 400 * q + 100 * cz + 4 * f + o + 1 = 400 * q + 100 * cz + 4 * (f + 1) + 0 by omega, yS_val q cz (f + 1) 0 b1 (by omega) (by omega)]
      omega
    · by_cases c3 : cz < 3
      · rw [show 400 * q + 100 * cz + 4 * f + o + 1 = 400 * q + 100 * (cz + 1) + 4 * 0 + 0 by omega, yS_val q (cz + 1) 0 0 (by omega) (by omega) (by omega)]
        omega
      · rw [show 400 * q + 100 * cz + 4 * f + o + 1 = 400 * (q + 1) + 100 * 0 + 4 * 0 + 0 by omega, yS_val (q + 1) 0 0 0 (by omega) (by omega) (by omega)]
        omega
theorem y_lp5 (nu : Int) : ∀ (fu : Nat) (ya : Int), yS (ya - 1) ≤ nu → nu < yS 10000 → 10000 - ya < fu → ya ≤ 10000 → ya ≤ lp_X5_yearOf nu fu ya ∧ lp_X5_yearOf nu fu ya ≤ 10000 ∧ yS (lp_X5_yearOf nu fu ya - 1) ≤ nu ∧ nu < yS (lp_X5_yearOf nu fu ya) := by
  intro fu
  induction fu with
  | zero => intro ya h1 h2 h3 h4; exact absurd h3 (by omega)
  | succ fu ih =>
    intro ya h1 h2 h3 h4
    rw [lp_X5_yearOf]
    have e : f_X5_beginOf (ya + 1) = yS ya := by rw [yS_5]; exact congrArg yS (by omega)
    rw [e]
    split
    · rename_i c1
      have c2 : ya < 10000 := by
        by_cases q : ya < 10000
        · exact q
        · have : ya = 10000 := by omega
          subst this
          omega
      obtain ⟨g1, g2, g3, g4⟩ := ih (ya + 1) (by rw [show ya + 1 - 1 = ya by omega]; exact c1) h2 (by omega) (by omega)
      exact ⟨by omega, g2, g3, g4⟩
    · rename_i c1
      exact ⟨by omega, h4, h1, by omega⟩
theorem b5_yearOf (nu : Int) (h : 0 ≤ nu ∧ nu < yS 10000) : 1 ≤ f_X5_yearOf nu ∧ f_X5_yearOf nu ≤ 10000 ∧ yS (f_X5_yearOf nu - 1) ≤ nu ∧ nu < yS (f_X5_yearOf nu) := by
  have e1 : yS (nu / 366 + 1 - 1) ≤ nu := by
    unfold yS
    omega
  have e2 : yS 10000 = 3652425 := by decide
  obtain ⟨g1, g2, g3, g4⟩ := y_lp5 nu 10001 (nu / 366 + 1) e1 h.2 (by omega) (by omega)
  exact ⟨by unfold f_X5_yearOf; omega, g2, g3, g4⟩
theorem e_yearOf (nu : Int) (h : 0 ≤ nu ∧ nu < yS 10000) : f_X0_yearOf nu = f_X5_yearOf nu := by
  obtain ⟨g1, g2, g3, g4⟩ := b5_yearOf nu h
  obtain ⟨q1, q2⟩ := y_X0 nu h.1
  exact y_uniq q1 q2 g3 g4
theorem e_leap (ya : Int) : f_X0_isLeap ya = f_X5_isLeap ya := rfl
theorem e_len (ya mo : Int) : f_X0_monthLength ya mo = f_X5_lengthOf ya mo := by
  unfold f_X0_monthLength f_X5_lengthOf
  rw [e_leap]
theorem leap_yS (ya : Int) : f_X0_isLeap ya = yS ya - yS (ya - 1) - 365 := by
  unfold f_X0_isLeap yS
  (repeat' split) <;> omega
theorem m_next (ya mo : Int) (h : 1 ≤ mo ∧ mo ≤ 11) : f_X0_monthStart ya (mo + 1) = f_X0_monthStart ya mo + f_X0_monthLength ya mo := by
  have hl := b_X0_isLeap ya
  rcases (show mo = 1 ∨ mo = 2 ∨ mo = 3 ∨ mo = 4 ∨ mo = 5 ∨ mo = 6 ∨ mo = 7 ∨ mo = 8 ∨ mo = 9 ∨ mo = 10 ∨ mo = 11 by omega) with rfl | rfl | rfl | rfl | rfl | rfl | rfl | rfl | rfl | rfl | rfl <;> simp [f_X0_monthStart, f_X0_monthLength] <;> (try split) <;> omega
theorem m_last (ya : Int) : yS ya = f_X0_monthStart ya 12 + 31 := by
  have hl := leap_yS ya
  have hs := yS_step (ya - 1)
  rw [show ya - 1 + 1 = ya by omega] at hs
  simp [f_X0_monthStart, yS_0]
  split <;> omega
theorem m_first (ya : Int) : f_X0_monthStart ya 1 = yS (ya - 1) := by
  simp [f_X0_monthStart, yS_0]
theorem n_eq (ya mo da : Int) (h : 1 ≤ mo ∧ mo ≤ 12) : f_X5_numberOf ya mo da = f_X0_monthStart ya mo + da - 1 := by
  rcases (show mo = 1 ∨ mo = 2 ∨ mo = 3 ∨ mo = 4 ∨ mo = 5 ∨ mo = 6 ∨ mo = 7 ∨ mo = 8 ∨ mo = 9 ∨ mo = 10 ∨ mo = 11 ∨ mo = 12 by omega) with rfl | rfl | rfl | rfl | rfl | rfl | rfl | rfl | rfl | rfl | rfl | rfl <;> simp [f_X5_numberOf, lp_X5_numberOf, f_X5_lengthOf, f_X0_monthStart, yS_0, yS_5, e_leap] <;> (try split) <;> omega
theorem mo_lp (nu ya : Int) (hb : yS (ya - 1) ≤ nu) : ∀ (fu : Nat) (mo : Int), 1 ≤ mo → mo ≤ 12 → mo ≤ fu → lp_X0_monthOf nu fu mo ya = lp_X5_monthOf nu fu mo ya ∧ 1 ≤ lp_X0_monthOf nu fu mo ya ∧ lp_X0_monthOf nu fu mo ya ≤ mo ∧ f_X0_monthStart ya (lp_X0_monthOf nu fu mo ya) ≤ nu ∧ (lp_X0_monthOf nu fu mo ya = mo ∨ nu < f_X0_monthStart ya (lp_X0_monthOf nu fu mo ya + 1)) := by
  intro fu
  induction fu with
  | zero => intro mo h1 h2 h3; exact absurd h3 (by omega)
  | succ fu ih =>
    intro mo h1 h2 h3
    have e := n_eq ya mo 1 ⟨h1, h2⟩
    rw [lp_X0_monthOf, lp_X5_monthOf, e]
    by_cases c1 : mo ≤ 1
    · have : mo = 1 := by omega
      subst this
      have := m_first ya
      rw [if_pos (by omega), if_pos (by omega)]
      exact ⟨rfl, by omega, by omega, by omega, Or.inl rfl⟩
    · rw [if_neg c1]
      by_cases c2 : nu < f_X0_monthStart ya mo
      · rw [if_pos c2, if_neg (by omega)]
        obtain ⟨g1, g2, g3, g4, g5⟩ := ih (mo + (-1)) (by omega) (by omega) (by omega)
        refine ⟨g1, g2, by omega, g4, Or.inr ?_⟩
        rcases g5 with g5 | g5
        · rw [g5, show mo + -1 + 1 = mo by omega]; exact c2
        · exact g5
      · rw [if_neg c2, if_pos (by omega)]
        exact ⟨rfl, h1, Int.le_refl _, by omega, Or.inl rfl⟩
/-- month and day of a number, in both -/
theorem mo_day (nu : Int) (h : 0 ≤ nu ∧ nu < yS 10000) : f_X0_monthOf nu = f_X5_monthOf nu ∧ 1 ≤ f_X0_monthOf nu ∧ f_X0_monthOf nu ≤ 12 ∧ f_X0_monthStart (f_X0_yearOf nu) (f_X0_monthOf nu) ≤ nu ∧ nu < f_X0_monthStart (f_X0_yearOf nu) (f_X0_monthOf nu) + f_X0_monthLength (f_X0_yearOf nu) (f_X0_monthOf nu) := by
  obtain ⟨q1, q2⟩ := y_X0 nu h.1
  have e := e_yearOf nu h
  obtain ⟨g1, g2, g3, g4, g5⟩ := mo_lp nu (f_X0_yearOf nu) q1 12 12 (by omega) (by omega) (by omega)
  refine ⟨?_, g2, g3, g4, ?_⟩
  · unfold f_X0_monthOf f_X5_monthOf
    rw [← e]
    exact g1
  · show nu < f_X0_monthStart (f_X0_yearOf nu) (lp_X0_monthOf nu 12 12 (f_X0_yearOf nu)) + f_X0_monthLength (f_X0_yearOf nu) (lp_X0_monthOf nu 12 12 (f_X0_yearOf nu))
    by_cases c1 : lp_X0_monthOf nu 12 12 (f_X0_yearOf nu) = 12
    · rw [c1]
      have := m_last (f_X0_yearOf nu)
      have e2 : f_X0_monthLength (f_X0_yearOf nu) 12 = 31 := by simp [f_X0_monthLength]
      omega
    · have := m_next (f_X0_yearOf nu) (lp_X0_monthOf nu 12 12 (f_X0_yearOf nu)) ⟨g2, by omega⟩
      omega
theorem len_b (ya mo : Int) : 28 ≤ f_X0_monthLength ya mo ∧ f_X0_monthLength ya mo ≤ 31 := by
  unfold f_X0_monthLength
  (repeat' split) <;> omega
theorem bb0_monthOf (nu : Int) (hp0 : 0 ≤ nu ∧ nu ≤ 3652058) : 1 ≤ (f_X0_monthOf nu) ∧ (f_X0_monthOf nu) ≤ 12 := by
  have e2 : yS 10000 = 3652425 := by decide
  obtain ⟨_, g2, g3, _⟩ := mo_day nu ⟨hp0.1, by omega⟩
  exact ⟨g2, g3⟩
theorem bb0_dayOf (nu : Int) (hp0 : 0 ≤ nu ∧ nu ≤ 3652058) : 1 ≤ (f_X0_dayOf nu) ∧ (f_X0_dayOf nu) ≤ 31 := by
  have e2 : yS 10000 = 3652425 := by decide
  obtain ⟨_, _, _, g4, g5⟩ := mo_day nu ⟨hp0.1, by omega⟩
  have := len_b (f_X0_yearOf nu) (f_X0_monthOf nu)
  unfold f_X0_dayOf
  omega
theorem bb0_yearDayOf (nu : Int) (hp0 : 0 ≤ nu ∧ nu ≤ 3652058) : 1 ≤ (f_X0_yearDayOf nu) ∧ (f_X0_yearDayOf nu) ≤ 366 := by
  obtain ⟨q1, q2⟩ := y_X0 nu hp0.1
  have hs := yS_step (f_X0_yearOf nu - 1)
  rw [show f_X0_yearOf nu - 1 + 1 = f_X0_yearOf nu by omega] at hs
  unfold f_X0_yearDayOf
  rw [yS_0]
  omega
theorem bb0_week (nu : Int) (h : 0 ≤ nu ∧ nu ≤ 3652058) : f_X0_firstMonday (f_X0_weekYearOf nu) ≤ nu ∧ nu < f_X0_firstMonday (f_X0_weekYearOf nu) + 371 := by
  unfold f_X0_weekYearOf f_X0_firstMonday
  obtain ⟨q1, q2⟩ := y_X0 (nu - nu % 7 + 3) (by omega)
  have hs := yS_step (f_X0_yearOf (nu - nu % 7 + 3) - 1)
  rw [show f_X0_yearOf (nu - nu % 7 + 3) - 1 + 1 = f_X0_yearOf (nu - nu % 7 + 3) by omega] at hs
  rw [yS_0]
  generalize yS (f_X0_yearOf (nu - nu % 7 + 3) - 1) = u at *
  generalize yS (f_X0_yearOf (nu - nu % 7 + 3)) = v at *
  omega
theorem bb0_weekOf (nu : Int) (hp0 : 0 ≤ nu ∧ nu ≤ 3652058) : 1 ≤ (f_X0_weekOf nu) ∧ (f_X0_weekOf nu) ≤ 53 := by
  have := bb0_week nu hp0
  unfold f_X0_weekOf
  omega
theorem yS_c : yS 10000 = 3652425 ∧ yS 9999 = 3652059 ∧ yS 0 = 0 := by decide
theorem e_dayOf (nu : Int) (h : 0 ≤ nu ∧ nu < yS 10000) : f_X0_dayOf nu = f_X5_dayOf nu := by
  obtain ⟨g1, g2, g3, _⟩ := mo_day nu h
  unfold f_X0_dayOf f_X5_dayOf
  rw [← e_yearOf nu h, ← g1, n_eq _ _ 1 ⟨g2, g3⟩]
  omega
theorem e_firstMonday (ya : Int) : f_X0_firstMonday ya = f_X5_firstMonday ya := by
  unfold f_X0_firstMonday f_X5_firstMonday f_X5_weekdayOf
  rw [yS_0, yS_5]
  omega
theorem e_weeks (ya : Int) : f_X0_weeksIn ya = f_X5_weeksOf ya := by
  unfold f_X0_weeksIn f_X5_weeksOf
  rw [e_firstMonday, e_firstMonday]
theorem e_weekYear (nu : Int) (h : 0 ≤ nu ∧ nu ≤ 3652058) : f_X0_weekYearOf nu = f_X5_weekYearOf nu := by
  have hc := yS_c
  unfold f_X0_weekYearOf f_X5_weekYearOf f_X5_weekdayOf
  rw [e_yearOf _ (by omega)]
  exact congrArg f_X5_yearOf (by omega)
theorem e_weekOf (nu : Int) (h : 0 ≤ nu ∧ nu ≤ 3652058) : f_X0_weekOf nu = f_X5_weekOf nu := by
  unfold f_X0_weekOf f_X5_weekOf
  rw [e_weekYear nu h, e_firstMonday]
theorem e_told (nu wh : Int) (h : 0 ≤ nu ∧ nu ≤ 3652058) (hw : 0 ≤ wh ∧ wh ≤ 10) : f_X4_told nu wh = f_X5_toldOf nu wh := by
  have hc := yS_c
  have hn : 0 ≤ nu ∧ nu < yS 10000 := by omega
  unfold f_X4_told f_X5_toldOf
  rw [if_neg (by omega), if_pos hw.2]
  rw [e_yearOf nu hn, (mo_day nu hn).1, e_dayOf nu hn, e_weekYear nu h, e_weekOf nu h, e_leap, e_len, e_weeks]
  unfold f_X0_yearDayOf
  rw [e_yearOf nu hn]
  rfl
theorem e_in (v lo hi : Int) : f_X5_in v lo hi = if v < lo then 0 else if v ≤ hi then 1 else 0 := rfl
theorem e_civil (ya mo da : Int) : f_X0_civilNumber ya mo da = if f_X5_isDate ya mo da = 1 then f_X5_numberOf ya mo da else -1 := by
  unfold f_X0_civilNumber f_X5_isDate
  rw [e_in, e_in, e_in, ← e_len]
  unfold f_X0_isYear f_X0_isMonth
  by_cases h1 : 1 ≤ ya ∧ ya ≤ 9999
  · by_cases h2 : 1 ≤ mo ∧ mo ≤ 12
    · rw [n_eq ya mo da h2]
      (repeat' split) <;> omega
    · (repeat' split) <;> omega
  · (repeat' split) <;> omega
theorem e_week (ya wk wd : Int) : f_X0_weekNumber ya wk wd = f_X5_byWeek ya wk wd := by
  unfold f_X0_weekNumber f_X5_byWeek
  rw [e_in, e_in, e_in, e_in, ← e_weeks, ← e_firstMonday]
  unfold f_X0_isYear f_X0_isWeekday f_X0_isNumber
  (repeat' split) <;> omega
theorem ms_le (ya mo : Int) (h : 1 ≤ mo ∧ mo ≤ 12) : yS (ya - 1) ≤ f_X0_monthStart ya mo ∧ f_X0_monthStart ya mo + f_X0_monthLength ya mo ≤ yS ya := by
  have hl := leap_yS ya
  have hs := yS_step (ya - 1)
  rw [show ya - 1 + 1 = ya by omega] at hs
  unfold f_X0_monthStart f_X0_monthLength
  rw [yS_0]
  (repeat' split) <;> omega
theorem ms_in (ya a b : Int) (h : 1 ≤ a ∧ a < b ∧ b ≤ 12) : f_X0_monthStart ya a + f_X0_monthLength ya a ≤ f_X0_monthStart ya b := by
  unfold f_X0_monthStart f_X0_monthLength
  rcases (show a = 1 ∨ a = 2 ∨ a = 3 ∨ a = 4 ∨ a = 5 ∨ a = 6 ∨ a = 7 ∨ a = 8 ∨ a = 9 ∨ a = 10 ∨ a = 11 by omega) with rfl | rfl | rfl | rfl | rfl | rfl | rfl | rfl | rfl | rfl | rfl <;> (repeat' split) <;> omega
theorem ms_lt (y1 m1 y2 m2 : Int) (h1 : 1 ≤ m1 ∧ m1 ≤ 12) (h2 : 1 ≤ m2 ∧ m2 ≤ 12) (h : 12 * y1 + m1 < 12 * y2 + m2) : f_X0_monthStart y1 m1 + f_X0_monthLength y1 m1 ≤ f_X0_monthStart y2 m2 := by
  by_cases e : y1 = y2
  · subst e
    exact ms_in y1 m1 m2 (by omega)
  · have g1 := ms_le y1 m1 h1
    have g2 := ms_le y2 m2 h2
    have : yS y1 ≤ yS (y2 - 1) := by
      by_cases e2 : y1 = y2 - 1
      · rw [e2]; exact Int.le_refl _
      · have := yS_mono (a := y1) (b := y2 - 1) (by omega)
        omega
    omega
theorem e_bym (nu many : Int) (h : 0 ≤ nu ∧ nu ≤ 3652058) : f_X0_movedByMonths nu many = f_X5_byMonths nu many := by
  have hc := yS_c
  have hn : 0 ≤ nu ∧ nu < yS 10000 := by omega
  obtain ⟨g1, g2, g3, _⟩ := mo_day nu hn
  unfold f_X0_movedByMonths f_X5_byMonths
  rw [← e_yearOf nu hn, ← g1, ← e_dayOf nu hn]
  generalize f_X0_yearOf nu = y at *
  generalize f_X0_monthOf nu = mo at *
  generalize f_X0_dayOf nu = d at *
  obtain ⟨a, ha⟩ : ∃ a, a = 12 * (y - 1) + mo - 1 + many := ⟨_, rfl⟩
  have e1 : 12 * y + mo - 1 + many = a + 12 := by omega
  rw [e1, ← ha, show (a + 12) / 12 = a / 12 + 1 by omega, show (a + 12) % 12 = a % 12 by omega, ← e_len]
  rw [n_eq _ _ _ (by omega), n_eq _ _ _ (by omega)]
  (repeat' split) <;> omega
/-- a date moved by months lies in the month that it is moved to, and is a date -/
theorem bym_in (nu many : Int) (h : 0 ≤ nu ∧ nu ≤ 3652058) (h1 : 0 ≤ 12 * (f_X0_yearOf nu - 1) + f_X0_monthOf nu - 1 + many) (h2 : 12 * (f_X0_yearOf nu - 1) + f_X0_monthOf nu - 1 + many < 119988) :
    ∃ y mo : Int, 1 ≤ mo ∧ mo ≤ 12 ∧ 1 ≤ y ∧ y ≤ 9999 ∧ 12 * (y - 1) + mo - 1 = 12 * (f_X0_yearOf nu - 1) + f_X0_monthOf nu - 1 + many ∧ f_X0_monthStart y mo ≤ f_X0_movedByMonths nu many ∧ f_X0_movedByMonths nu many < f_X0_monthStart y mo + f_X0_monthLength y mo := by
  have hb := bb0_dayOf nu h
  refine ⟨(12 * (f_X0_yearOf nu - 1) + f_X0_monthOf nu - 1 + many) / 12 + 1, (12 * (f_X0_yearOf nu - 1) + f_X0_monthOf nu - 1 + many) % 12 + 1, by omega, by omega, by omega, by omega, by omega, ?_⟩
  unfold f_X0_movedByMonths
  rw [if_neg (by omega), if_pos h2]
  have hl := len_b ((12 * (f_X0_yearOf nu - 1) + f_X0_monthOf nu - 1 + many) / 12 + 1) ((12 * (f_X0_yearOf nu - 1) + f_X0_monthOf nu - 1 + many) % 12 + 1)
  omega
theorem bb0_moved (nu many : Int) (h : 0 ≤ nu ∧ nu ≤ 3652058) : -1 ≤ f_X0_movedByMonths nu many ∧ f_X0_movedByMonths nu many ≤ 3652058 := by
  by_cases h1 : 0 ≤ 12 * (f_X0_yearOf nu - 1) + f_X0_monthOf nu - 1 + many
  · by_cases h2 : 12 * (f_X0_yearOf nu - 1) + f_X0_monthOf nu - 1 + many < 119988
    · obtain ⟨y, mo, a1, a2, a3, a4, a5, a6, a7⟩ := bym_in nu many h h1 h2
      have g := ms_le y mo ⟨a1, a2⟩
      have hc := yS_c
      have k1 : yS y ≤ yS 9999 := by
        by_cases e : y = 9999
        · rw [e]; exact Int.le_refl _
        · have := yS_mono (a := y) (b := 9999) (by omega); omega
      have k2 : yS 0 ≤ yS (y - 1) := by
        by_cases e : y = 1
        · rw [e]; decide
        · have := yS_mono (a := 0) (b := y - 1) (by omega); omega
      omega
    · unfold f_X0_movedByMonths
      rw [if_neg (by omega), if_neg h2]
      omega
  · unfold f_X0_movedByMonths
    rw [if_pos (by omega)]
    omega
theorem bym_zero (nu : Int) (h : 0 ≤ nu ∧ nu ≤ 3652058) : f_X0_movedByMonths nu 0 = nu := by
  have hc := yS_c
  obtain ⟨g1, g2, g3, g4, g5⟩ := mo_day nu ⟨h.1, by omega⟩
  have hy := b_X0_yearOf nu ⟨h.1, by omega⟩
  have hy2 : f_X0_yearOf nu ≤ 9999 := by
    by_cases e : f_X0_yearOf nu = 10000
    · obtain ⟨q1, q2⟩ := y_X0 nu h.1
      rw [e] at q1
      have : yS (10000 - 1) = 3652059 := by decide
      omega
    · omega
  unfold f_X0_movedByMonths
  rw [if_neg (by omega), if_pos (by omega)]
  rw [show (12 * (f_X0_yearOf nu - 1) + f_X0_monthOf nu - 1 + 0) / 12 + 1 = f_X0_yearOf nu by omega, show (12 * (f_X0_yearOf nu - 1) + f_X0_monthOf nu - 1 + 0) % 12 + 1 = f_X0_monthOf nu by omega]
  have hd : f_X0_dayOf nu = nu - f_X0_monthStart (f_X0_yearOf nu) (f_X0_monthOf nu) + 1 := rfl
  omega
theorem idx_mono (fro too : Int) (h : 0 ≤ fro ∧ fro ≤ too ∧ too ≤ 3652058) : 12 * f_X0_yearOf fro + f_X0_monthOf fro ≤ 12 * f_X0_yearOf too + f_X0_monthOf too := by
  have hc := yS_c
  obtain ⟨_, a2, a3, a4, a5⟩ := mo_day fro ⟨h.1, by omega⟩
  obtain ⟨_, b2, b3, b4, b5⟩ := mo_day too ⟨by omega, by omega⟩
  by_cases q : 12 * f_X0_yearOf fro + f_X0_monthOf fro ≤ 12 * f_X0_yearOf too + f_X0_monthOf too
  · exact q
  · have := ms_lt (f_X0_yearOf too) (f_X0_monthOf too) (f_X0_yearOf fro) (f_X0_monthOf fro) ⟨b2, b3⟩ ⟨a2, a3⟩ (by omega)
    omega
theorem bb0_between (fro too : Int) (h : 0 ≤ fro ∧ fro ≤ too ∧ too ≤ 3652058) : 0 ≤ f_X0_monthsBetween fro too := by
  have hm := idx_mono fro too h
  have hz := bym_zero fro ⟨h.1, by omega⟩
  unfold f_X0_monthsBetween
  by_cases e : 12 * (f_X0_yearOf too - f_X0_yearOf fro) + f_X0_monthOf too - f_X0_monthOf fro = 0
  · rw [e, hz, if_pos h.2.1]
    exact Int.le_refl _
  · split <;> omega
theorem ob_b (nu wd : Int) (h : 1 ≤ wd ∧ wd ≤ 7) (h0 : 0 ≤ nu) : nu ≤ f_X0_onOrBehind nu wd ∧ f_X0_onOrBehind nu wd ≤ nu + 6 ∧ f_X0_onOrBehind nu wd % 7 = wd - 1 := by
  unfold f_X0_onOrBehind f_X0_weekdayOf
  omega
theorem y_b (ya : Int) (h : 1 ≤ ya ∧ ya ≤ 9999) : 0 ≤ yS (ya - 1) ∧ yS ya ≤ 3652059 := by
  have hc := yS_c
  have k1 : yS ya ≤ yS 9999 := by
    by_cases e : ya = 9999
    · rw [e]; exact Int.le_refl _
    · have := yS_mono (a := ya) (b := 9999) (by omega); omega
  have k2 : yS 0 ≤ yS (ya - 1) := by
    by_cases e : ya = 1
    · rw [e]; decide
    · have := yS_mono (a := 0) (b := ya - 1) (by omega); omega
  omega
theorem bb0_easter (ya : Int) : -1 ≤ f_X0_easterNumber ya ∧ f_X0_easterNumber ya ≤ 4000000 := by
  unfold f_X0_easterNumber
  by_cases h : 1583 ≤ ya ∧ ya ≤ 9999
  · have g := ms_le ya 3 (by omega)
    have g2 := y_b ya (by omega)
    have hl := len_b ya 3
    have ob : ∀ x : Int, 0 ≤ x → x ≤ 3900000 → -1 ≤ f_X0_onOrBehind x 7 ∧ f_X0_onOrBehind x 7 ≤ 4000000 := fun x h1 h2 => by
      have := ob_b x 7 (by omega) h1
      omega
    rw [if_neg (by omega), if_pos h.2]
    (repeat' split) <;> exact ob _ (by omega) (by omega)
  · (repeat' split) <;> omega
theorem e_lpE (ya : Int) : ∀ (fu : Nat) (nn : Int), 0 ≤ nn → 7 - nn % 7 ≤ fu → lp_X5_easterOf ya fu nn = f_X0_onOrBehind nn 7 := by
  intro fu
  induction fu with
  | zero => intro nn h0 h; exact absurd h (by omega)
  | succ fu ih =>
    intro nn h0 h
    rw [lp_X5_easterOf]
    unfold f_X5_weekdayOf
    by_cases c1 : nn % 7 + 1 = 7
    · rw [if_pos c1]
      unfold f_X0_onOrBehind f_X0_weekdayOf
      omega
    · rw [if_neg c1, ih (nn + 1) (by omega) (by omega)]
      unfold f_X0_onOrBehind f_X0_weekdayOf
      omega
theorem e_easter (ya : Int) (h : 1583 ≤ ya ∧ ya ≤ 9999) : f_X0_easterNumber ya = f_X5_easterOf ya := by
  have g := ms_le ya 3 (by omega)
  have g2 := y_b ya (by omega)
  unfold f_X0_easterNumber f_X5_easterOf
  rw [if_neg (by omega), if_pos h.2, n_eq ya 3 21 (by omega)]
  have key : ∀ x : Int, 0 ≤ x → x ≤ 30 → lp_X5_easterOf ya 7 (f_X0_monthStart ya 3 + 21 - 1 + x + 1) = f_X0_onOrBehind (f_X0_monthStart ya 3 + 20 + x + 1) 7 := fun x h1 h2 => by
    rw [e_lpE ya 7 _ (by omega) (by omega)]
    exact congrArg (fun z => f_X0_onOrBehind z 7) (by omega)
  rw [key 28 (by omega) (by omega), key 27 (by omega) (by omega), key _ (by omega) (by omega)]
theorem bb0_nth (ya mo wd nn : Int) (hp0 : -2147483648 ≤ ya ∧ ya ≤ 2147483647) (hp1 : -2147483648 ≤ mo ∧ mo ≤ 2147483647) : -1 ≤ f_X0_nthNumber ya mo wd nn ∧ f_X0_nthNumber ya mo wd nn ≤ 4000000 := by
  have q1 := b_X0_isYear ya hp0
  have q2 := b_X0_isMonth mo hp1
  unfold f_X0_nthNumber
  by_cases c1 : f_X0_isYear ya = 0
  · rw [if_pos c1]; omega
  · rw [if_neg c1]
    by_cases c2 : f_X0_isMonth mo = 0
    · rw [if_pos c2]; omega
    · rw [if_neg c2]
      have g := ms_le ya mo (by omega)
      have g2 := y_b ya (by omega)
      (repeat' split) <;> omega
theorem nth_up (ya mo wd nn : Int) (hw : 1 ≤ wd ∧ wd ≤ 7) (hn : 0 < nn) : ∀ (fu : Nat) (fir las see day : Int), 0 ≤ fir → fir ≤ day → 0 ≤ see → see < nn → las + 1 - day < fu → day ≤ las + 1 →
    lp_X5_nthOf ya mo wd nn fu fir las see day = if f_X0_onOrBehind day wd + 7 * (nn - see - 1) ≤ las then f_X0_onOrBehind day wd + 7 * (nn - see - 1) else -1 := by
  intro fu
  induction fu with
  | zero => intro fir las see day h0 h1 h2 h3 h4 h5; exact absurd h4 (by omega)
  | succ fu ih =>
    intro fir las see day h0 h1 h2 h3 h4 h5
    have o1 := ob_b day wd hw (by omega)
    have o2 := ob_b (day + 1) wd hw (by omega)
    rw [lp_X5_nthOf, if_neg (by omega)]
    by_cases c1 : day ≤ las
    · rw [if_pos c1]
      have hnn : ¬ nn ≤ 0 := by omega
      by_cases c2 : f_X5_weekdayOf day = wd
      · have c3 : day % 7 + 1 = wd := c2
        simp only [if_pos c2, if_neg hnn]
        by_cases c4 : see + 1 = nn
        · rw [if_pos c4, if_pos (by omega)]
          omega
        · rw [if_neg c4, ih fir las (see + 1) (day + 1) h0 (by omega) (by omega) (by omega) (by omega) (by omega)]
          rw [show f_X0_onOrBehind (day + 1) wd + 7 * (nn - (see + 1) - 1) = f_X0_onOrBehind day wd + 7 * (nn - see - 1) by omega]
      · have c3 : ¬ day % 7 + 1 = wd := c2
        simp only [if_neg c2, if_neg hnn]
        rw [ih fir las (see + 0) (day + 1) h0 (by omega) (by omega) (by omega) (by omega) (by omega)]
        rw [show f_X0_onOrBehind (day + 1) wd + 7 * (nn - (see + 0) - 1) = f_X0_onOrBehind day wd + 7 * (nn - see - 1) by omega]
    · rw [if_neg c1, if_neg (by omega)]
theorem ob_c (nu wd : Int) (h : 1 ≤ wd ∧ wd ≤ 7) : nu ≤ f_X0_onOrBehind nu wd ∧ f_X0_onOrBehind nu wd ≤ nu + 6 ∧ f_X0_onOrBehind nu wd % 7 = wd - 1 := by
  unfold f_X0_onOrBehind f_X0_weekdayOf
  omega
theorem nth_down (ya mo wd nn : Int) (hw : 1 ≤ wd ∧ wd ≤ 7) (hn : nn < 0) : ∀ (fu : Nat) (fir las see day : Int), 0 ≤ fir → day ≤ las → 0 ≤ see → see < -nn → day + 1 - fir < fu → fir - 1 ≤ day →
    lp_X5_nthOf ya mo wd nn fu fir las see day = if fir ≤ f_X0_onOrBehind (day - 6) wd - 7 * (-nn - see - 1) then f_X0_onOrBehind (day - 6) wd - 7 * (-nn - see - 1) else -1 := by
  intro fu
  induction fu with
  | zero => intro fir las see day h0 h1 h2 h3 h4 h5; exact absurd h4 (by omega)
  | succ fu ih =>
    intro fir las see day h0 h1 h2 h3 h4 h5
    have o1 := ob_c (day - 6) wd hw
    rw [lp_X5_nthOf]
    by_cases c1 : day < fir
    · rw [if_pos c1, if_neg (by omega)]
    · rw [if_neg c1, if_pos h1]
      have hnn : nn ≤ 0 := by omega
      have o2 := ob_c (day + (-1) - 6) wd hw
      by_cases c2 : f_X5_weekdayOf day = wd
      · have c3 : day % 7 + 1 = wd := c2
        simp only [if_pos c2, if_pos hnn]
        by_cases c4 : -(see + 1) = nn
        · rw [if_pos c4, if_pos (by omega)]
          omega
        · rw [if_neg c4, ih fir las (see + 1) (day + (-1)) h0 (by omega) (by omega) (by omega) (by omega) (by omega)]
          rw [show f_X0_onOrBehind (day + (-1) - 6) wd - 7 * (-nn - (see + 1) - 1) = f_X0_onOrBehind (day - 6) wd - 7 * (-nn - see - 1) by omega]
      · have c3 : ¬ day % 7 + 1 = wd := c2
        simp only [if_neg c2, if_pos hnn]
        rw [ih fir las (see + 0) (day + (-1)) h0 (by omega) (by omega) (by omega) (by omega) (by omega)]
        rw [show f_X0_onOrBehind (day + (-1) - 6) wd - 7 * (-nn - (see + 0) - 1) = f_X0_onOrBehind (day - 6) wd - 7 * (-nn - see - 1) by omega]
theorem e_nth (ya mo wd nn : Int) (h : 1 ≤ ya ∧ ya ≤ 9999 ∧ 1 ≤ mo ∧ mo ≤ 12 ∧ 1 ≤ wd ∧ wd ≤ 7 ∧ -5 ≤ nn ∧ nn ≤ 5 ∧ nn ≠ 0) : f_X0_nthNumber ya mo wd nn = f_X5_nthOf ya mo wd nn := by
  have q1 := b_X0_isYear ya (by omega)
  have q2 := b_X0_isMonth mo (by omega)
  have q3 := b_X0_isWeekday wd (by omega)
  have g := ms_le ya mo (by omega)
  have g2 := y_b ya (by omega)
  have hl := len_b ya mo
  unfold f_X0_nthNumber f_X5_nthOf
  rw [if_neg (by omega), if_neg (by omega), if_neg (by omega), if_neg (by omega), if_neg (by omega), if_pos (by omega), n_eq ya mo 1 (by omega), ← e_len]
  by_cases c : nn ≤ 0
  · rw [if_pos c, if_pos c]
    have o1 := ob_c (f_X0_monthStart ya mo + f_X0_monthLength ya mo - 1 - 6) wd (by omega)
    rw [show f_X0_monthStart ya mo + 1 - 1 = f_X0_monthStart ya mo by omega, nth_down ya mo wd nn (by omega) (by omega) 40 _ _ 0 _ (by omega) (by omega) (by omega) (by omega) (by omega) (by omega)]
    (repeat' split) <;> omega
  · rw [if_neg c, if_neg c]
    have o1 := ob_c (f_X0_monthStart ya mo) wd (by omega)
    rw [show f_X0_monthStart ya mo + 1 - 1 = f_X0_monthStart ya mo by omega, nth_up ya mo wd nn (by omega) (by omega) 40 _ _ 0 _ (by omega) (by omega) (by omega) (by omega) (by omega) (by omega)]
    (repeat' split) <;> omega
theorem e_nthNo (ya mo wd nn : Int) (hp0 : -2147483648 ≤ ya ∧ ya ≤ 2147483647) (hp1 : -2147483648 ≤ mo ∧ mo ≤ 2147483647) (hp2 : -2147483648 ≤ wd ∧ wd ≤ 2147483647) (h : ya < 1 ∨ 9999 < ya ∨ mo < 1 ∨ 12 < mo ∨ wd < 1 ∨ 7 < wd ∨ nn < -5 ∨ 5 < nn ∨ nn = 0) : f_X0_nthNumber ya mo wd nn = -1 := by
  have q1 := b_X0_isYear ya hp0
  have q2 := b_X0_isMonth mo hp1
  have q3 := b_X0_isWeekday wd hp2
  unfold f_X0_nthNumber
  by_cases c1 : f_X0_isYear ya = 0
  · rw [if_pos c1]
  · rw [if_neg c1]
    by_cases c2 : f_X0_isMonth mo = 0
    · rw [if_pos c2]
    · rw [if_neg c2]
      by_cases c3 : f_X0_isWeekday wd = 0
      · rw [if_pos c3]
      · rw [if_neg c3]
        by_cases c4 : nn = 0
        · rw [if_pos c4]
        · rw [if_neg c4]
          by_cases c5 : nn < -5
          · rw [if_pos c5]
          · rw [if_neg c5, if_neg (by omega)]
/-- beyond the other's month: not there any more, or no date -/
theorem bym_far (fro too k : Int) (h : 0 ≤ fro ∧ fro ≤ too ∧ too ≤ 3652058) (hk : 12 * (f_X0_yearOf too - f_X0_yearOf fro) + f_X0_monthOf too - f_X0_monthOf fro < k) : f_X0_movedByMonths fro k < 0 ∨ too < f_X0_movedByMonths fro k := by
  have hc := yS_c
  obtain ⟨_, b2, b3, b4, b5⟩ := mo_day too ⟨by omega, by omega⟩
  obtain ⟨_, a2, a3, a4, a5⟩ := mo_day fro ⟨by omega, by omega⟩
  have y1 := b_X0_yearOf fro (by omega)
  have y2 := b_X0_yearOf too (by omega)
  have hm := idx_mono fro too h
  by_cases h2 : 12 * (f_X0_yearOf fro - 1) + f_X0_monthOf fro - 1 + k < 119988
  · obtain ⟨y, mo, c1, c2, c3, c4, c5, c6, c7⟩ := bym_in fro k ⟨h.1, by omega⟩ (by omega) h2
    have := ms_lt (f_X0_yearOf too) (f_X0_monthOf too) y mo ⟨b2, b3⟩ ⟨c1, c2⟩ (by omega)
    omega
  · left
    unfold f_X0_movedByMonths
    rw [if_neg (by omega), if_neg h2]
    omega
theorem bym_near (fro too k : Int) (h : 0 ≤ fro ∧ fro ≤ too ∧ too ≤ 3652058) (h0 : 0 ≤ k) (hk : k < 12 * (f_X0_yearOf too - f_X0_yearOf fro) + f_X0_monthOf too - f_X0_monthOf fro) : 0 ≤ f_X0_movedByMonths fro k ∧ f_X0_movedByMonths fro k ≤ too := by
  have hc := yS_c
  obtain ⟨_, b2, b3, b4, b5⟩ := mo_day too ⟨by omega, by omega⟩
  obtain ⟨_, a2, a3, a4, a5⟩ := mo_day fro ⟨by omega, by omega⟩
  have y1 := b_X0_yearOf fro (by omega)
  have y2 := b_X0_yearOf too (by omega)
  have y3 : f_X0_yearOf too ≤ 9999 := by
    by_cases e : f_X0_yearOf too = 10000
    · obtain ⟨q1, q2⟩ := y_X0 too (by omega)
      rw [e] at q1
      have : yS (10000 - 1) = 3652059 := by decide
      omega
    · omega
  obtain ⟨y, mo, c1, c2, c3, c4, c5, c6, c7⟩ := bym_in fro k ⟨h.1, by omega⟩ (by omega) (by omega)
  have := ms_lt y mo (f_X0_yearOf too) (f_X0_monthOf too) ⟨c1, c2⟩ ⟨b2, b3⟩ (by omega)
  have g := ms_le y mo ⟨c1, c2⟩
  have g2 := y_b y ⟨c3, c4⟩
  omega
theorem yr_b (nu : Int) (h : 0 ≤ nu ∧ nu ≤ 3652058) : 1 ≤ f_X0_yearOf nu ∧ f_X0_yearOf nu ≤ 9999 := by
  have hy := b_X0_yearOf nu ⟨h.1, by omega⟩
  by_cases e : f_X0_yearOf nu = 10000
  · obtain ⟨q1, q2⟩ := y_X0 nu h.1
    rw [e] at q1
    have : yS (10000 - 1) = 3652059 := by decide
    omega
  · omega
theorem bym_at (fro too : Int) (h : 0 ≤ fro ∧ fro ≤ too ∧ too ≤ 3652058) : 0 ≤ f_X0_movedByMonths fro (12 * (f_X0_yearOf too - f_X0_yearOf fro) + f_X0_monthOf too - f_X0_monthOf fro) := by
  have y1 := yr_b fro ⟨h.1, by omega⟩
  have y2 := yr_b too ⟨by omega, h.2.2⟩
  have b1 := bb0_monthOf fro ⟨h.1, by omega⟩
  have b2 := bb0_monthOf too ⟨by omega, h.2.2⟩
  obtain ⟨y, mo, c1, c2, c3, c4, c5, c6, c7⟩ := bym_in fro (12 * (f_X0_yearOf too - f_X0_yearOf fro) + f_X0_monthOf too - f_X0_monthOf fro) ⟨h.1, by omega⟩ (by omega) (by omega)
  have g := ms_le y mo ⟨c1, c2⟩
  have g2 := y_b y ⟨c3, c4⟩
  omega
theorem e_wholes1 (fro too : Int) (h : 0 ≤ fro ∧ fro ≤ too ∧ too ≤ 3652058) : f_X5_wholes_1 fro too = f_X0_monthsBetween fro too := by
  have hc := yS_c
  have hf : 0 ≤ fro ∧ fro ≤ 3652058 := ⟨h.1, by omega⟩
  have hm := idx_mono fro too h
  have hz := bym_zero fro hf
  have ha := bym_at fro too h
  have k1 := bym_far fro too
  have k2 := bym_near fro too
  unfold f_X5_wholes_1 f_X0_monthsBetween
  rw [← e_yearOf fro (by omega), ← e_yearOf too (by omega), ← (mo_day fro (by omega)).1, ← (mo_day too (by omega)).1]
  obtain ⟨M, hM⟩ : ∃ M, M = 12 * (f_X0_yearOf too - f_X0_yearOf fro) + f_X0_monthOf too - f_X0_monthOf fro := ⟨_, rfl⟩
  rw [← hM] at ha k1 k2 ⊢
  have hM0 : 0 ≤ M := by omega
  rw [show M / 1 = M by omega, show (M + 1) * 1 = M + 1 by omega, show (130001 : Nat) = 129998 + 1 + 1 + 1 from rfl, lp_X5_wholes_1, if_neg (by omega), ← e_bym fro _ hf]
  have f1 := k1 (M + 1) h (by omega)
  have step : (if f_X0_movedByMonths fro (M + 1) < 0 then lp_X5_wholes_1 fro too (129998 + 1 + 1) (M + 1 + -1) (f_X5_byMonths fro ((M + 1 + -1) * 1)) else if f_X0_movedByMonths fro (M + 1) ≤ too then M + 1 else lp_X5_wholes_1 fro too (129998 + 1 + 1) (M + 1 + -1) (f_X5_byMonths fro ((M + 1 + -1) * 1))) = lp_X5_wholes_1 fro too (129998 + 1 + 1) M (f_X0_movedByMonths fro M) := by
    rw [show M + 1 + -1 = M by omega, show M * 1 = M by omega, ← e_bym fro M hf]
    by_cases c : f_X0_movedByMonths fro (M + 1) < 0
    · rw [if_pos c]
    · rw [if_neg c, if_neg (by omega)]
  rw [step, lp_X5_wholes_1]
  by_cases c1 : M ≤ 0
  · have : M = 0 := by omega
    rw [if_pos c1, this, hz, if_pos h.2.1]
  · rw [if_neg c1, if_neg (by omega)]
    by_cases c2 : f_X0_movedByMonths fro M ≤ too
    · rw [if_pos c2, if_pos c2]
    · rw [if_neg c2, if_neg c2, lp_X5_wholes_1, show M + -1 = M - 1 by omega, show (M - 1) * 1 = M - 1 by omega, ← e_bym fro (M - 1) hf]
      by_cases c3 : M - 1 ≤ 0
      · rw [if_pos c3]
      · have := k2 (M - 1) h (by omega) (by omega)
        rw [if_neg c3, if_neg (by omega), if_pos this.2]
theorem e_wholes12 (fro too : Int) (h : 0 ≤ fro ∧ fro ≤ too ∧ too ≤ 3652058) : f_X5_wholes_12 fro too = f_X0_monthsBetween fro too / 12 := by
  have hc := yS_c
  have hf : 0 ≤ fro ∧ fro ≤ 3652058 := ⟨h.1, by omega⟩
  have hm := idx_mono fro too h
  have hz := bym_zero fro hf
  have ha := bym_at fro too h
  have k1 := bym_far fro too
  have k2 := bym_near fro too
  have hb := bb0_between fro too h
  unfold f_X5_wholes_12
  unfold f_X0_monthsBetween at hb ⊢
  rw [← e_yearOf fro (by omega), ← e_yearOf too (by omega), ← (mo_day fro (by omega)).1, ← (mo_day too (by omega)).1]
  obtain ⟨M, hM⟩ : ∃ M, M = 12 * (f_X0_yearOf too - f_X0_yearOf fro) + f_X0_monthOf too - f_X0_monthOf fro := ⟨_, rfl⟩
  rw [← hM] at ha k1 k2 hb ⊢
  have hM0 : 0 ≤ M := by omega
  obtain ⟨q, hq⟩ : ∃ q, q = M / 12 := ⟨_, rfl⟩
  rw [← hq, show (130001 : Nat) = 129998 + 1 + 1 + 1 from rfl, lp_X5_wholes_12, if_neg (by omega), ← e_bym fro _ hf]
  have f1 := k1 ((q + 1) * 12) h (by omega)
  have step : (if f_X0_movedByMonths fro ((q + 1) * 12) < 0 then lp_X5_wholes_12 fro too (129998 + 1 + 1) (q + 1 + -1) (f_X5_byMonths fro ((q + 1 + -1) * 12)) else if f_X0_movedByMonths fro ((q + 1) * 12) ≤ too then q + 1 else lp_X5_wholes_12 fro too (129998 + 1 + 1) (q + 1 + -1) (f_X5_byMonths fro ((q + 1 + -1) * 12))) = lp_X5_wholes_12 fro too (129998 + 1 + 1) q (f_X0_movedByMonths fro (q * 12)) := by
    rw [show q + 1 + -1 = q by omega, ← e_bym fro (q * 12) hf]
    by_cases c : f_X0_movedByMonths fro ((q + 1) * 12) < 0
    · rw [if_pos c]
    · rw [if_neg c, if_neg (by omega)]
  rw [step, lp_X5_wholes_12]
  by_cases c1 : q ≤ 0
  · rw [if_pos c1]
    split at hb
    · rename_i c; rw [if_pos c]; omega
    · rename_i c; rw [if_neg c]; omega
  · rw [if_neg c1]
    by_cases c4 : q * 12 = M
    · rw [c4, if_neg (by omega)]
      by_cases c2 : f_X0_movedByMonths fro M ≤ too
      · rw [if_pos c2, if_pos c2]; omega
      · rw [if_neg c2, if_neg c2, lp_X5_wholes_12, ← e_bym fro _ hf]
        by_cases c3 : q + -1 ≤ 0
        · rw [if_pos c3]; omega
        · have := k2 ((q + -1) * 12) h (by omega) (by omega)
          rw [if_neg c3, if_neg (by omega), if_pos this.2]
          omega
    · have := k2 (q * 12) h (by omega) (by omega)
      rw [if_neg (by omega), if_pos this.2]
      split <;> omega
theorem bb0_mb (fro too : Int) (h1 : 0 ≤ fro ∧ fro ≤ 3652058) (h2 : 0 ≤ too ∧ too ≤ 3652058) : -120000 ≤ f_X0_monthsBetween fro too ∧ f_X0_monthsBetween fro too ≤ 120000 := by
  have y1 := yr_b fro h1
  have y2 := yr_b too h2
  have b1 := bb0_monthOf fro h1
  have b2 := bb0_monthOf too h2
  unfold f_X0_monthsBetween
  split <;> omega
theorem e_between (fro too un : Int) (h1 : 0 ≤ fro ∧ fro ≤ 3652058) (h2 : 0 ≤ too ∧ too ≤ 3652058) (hu : 0 ≤ un ∧ un ≤ 2) : f_X4_between fro too un = if un = 0 then too - fro else if un = 1 then (if fro ≤ too then f_X5_wholes_1 fro too else -f_X5_wholes_1 too fro) else (if fro ≤ too then f_X5_wholes_12 fro too else -f_X5_wholes_12 too fro) := by
  unfold f_X4_between f_X4_wholeUnits
  by_cases c : too < fro
  · rw [e_wholes1 too fro (by omega), e_wholes12 too fro (by omega)]
    rw [if_pos c, if_neg (by omega : ¬ fro ≤ too), if_neg (by omega : ¬ fro ≤ too)]
    (repeat' split) <;> omega
  · rw [if_neg c, if_pos (by omega : fro ≤ too), if_pos (by omega : fro ≤ too), e_wholes1 fro too (by omega), e_wholes12 fro too (by omega)]
