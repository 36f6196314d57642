def yS (x : Int) : Int := 365 * x + x / 4 - x / 100 + x / 400
theorem yS_0 (ya : Int) : f_X0_yearStart ya = yS (ya - 1) := rfl
theorem yS_5 (ya : Int) : f_X5_beginOf ya = yS (ya - 1) := rfl
theorem yS_val (q cz f o : Int) (hc : 0 ≤ cz ∧ cz ≤ 3) (hf : 0 ≤ f ∧ f ≤ 24) (ho : 0 ≤ o ∧ o ≤ 3) : yS (400 * q + 100 * cz + 4 * f + o) = 146097 * q + 36524 * cz + 1461 * f + 365 * o := by
  unfold yS
  have h1 : (400 * q + 100 * cz + 4 * f + o) / 4 = 100 * q + 25 * cz + f := by omega
  have h2 : (400 * q + 100 * cz + 4 * f + o) / 100 = 4 * q + cz := by omega
  have h3 : (400 * q + 100 * cz + 4 * f + o) / 400 = q := by omega
  rw [h1, h2, h3]
  omega
theorem yS_mono {a b : Int} (h : a < b) : yS a + 365 ≤ yS b := by
  unfold yS
  have h1 : a / 100 = a / 4 / 25 := by omega
  have h2 : a / 400 = a / 4 / 25 / 4 := by omega
  have h3 : b / 100 = b / 4 / 25 := by omega
  have h4 : b / 400 = b / 4 / 25 / 4 := by omega
  have h5 : a / 4 ≤ b / 4 := by omega
  rw [h1, h2, h3, h4]
  generalize a / 4 = u at *
  generalize b / 4 = v at *
  have h6 : u / 25 ≤ v / 25 := by omega
  have h7 : v / 25 - u / 25 ≤ v - u := by omega
  have h8 : u / 25 / 4 ≤ v / 25 / 4 := by omega
  omega
theorem yS_step (x : Int) : yS (x + 1) = yS x + 365 ∨ yS (x + 1) = yS x + 366 := by
  unfold yS
  omega
theorem y_uniq {n y z : Int} (h1 : yS (y - 1) ≤ n) (h2 : n < yS y) (h3 : yS (z - 1) ≤ n) (h4 : n < yS z) : y = z := by
  have key : ∀ a b : Int, yS a ≤ yS (b - 1) ∨ ¬ a < b := by
    intro a b
    by_cases h : a < b
    · left
      by_cases e : a = b - 1
      · rw [e]; exact Int.le_refl _
      · have := yS_mono (a := a) (b := b - 1) (by omega)
        omega
    · right; exact h
  rcases key y z with q | q <;> rcases key z y with r | r <;> omega
theorem y_X0 (nu : Int) (h : 0 ≤ nu) : yS (f_X0_yearOf nu - 1) ≤ nu ∧ nu < yS (f_X0_yearOf nu) := by
  obtain ⟨q, hq⟩ : ∃ q, q = nu / 146097 := ⟨_, rfl⟩
  obtain ⟨r, hr⟩ : ∃ r, r = nu % 146097 := ⟨_, rfl⟩
  obtain ⟨cz, hc⟩ : ∃ cz, cz = min (r / 36524) 3 := ⟨_, rfl⟩
  obtain ⟨r2, hr2⟩ : ∃ r2, r2 = r - 36524 * cz := ⟨_, rfl⟩
  obtain ⟨f, hf⟩ : ∃ f, f = r2 / 1461 := ⟨_, rfl⟩
  obtain ⟨r3, hr3⟩ : ∃ r3, r3 = r2 - 1461 * f := ⟨_, rfl⟩
  obtain ⟨o, ho⟩ : ∃ o, o = min (r3 / 365) 3 := ⟨_, rfl⟩
  have e : f_X0_yearOf nu = 400 * q + 100 * cz + 4 * f + o + 1 := by
    subst ho hr3 hf hr2 hc hr hq
    rfl
  have b1 : 0 ≤ cz ∧ cz ≤ 3 := by omega
  have b2 : 0 ≤ r2 ∧ (r2 < 36524 ∨ cz = 3 ∧ r2 ≤ 36524) := by omega
  have b3 : 0 ≤ f ∧ f ≤ 24 := by omega
  have b4 : 0 ≤ r3 ∧ r3 ≤ 1460 := by omega
  have b5 : 0 ≤ o ∧ o ≤ 3 := by omega
  have b6 : nu = 146097 * q + 36524 * cz + 1461 * f + r3 := by omega
  rw [e, show 400 * q + 100 * cz + 4 * f + o + 1 - 1 = 400 * q + 100 * cz + 4 * f + o by omega, yS_val q cz f o b1 b3 b5]
  refine ⟨by omega, ?_⟩
  by_cases c1 : o < 3
  · rw [show 400 * q + 100 * cz + 4 * f + o + 1 = 400 * q + 100 * cz + 4 * f + (o + 1) by omega, yS_val q cz f (o + 1) b1 b3 (by omega)]
    omega
  · by_cases c2 : f < 24
    · rw [show 400 * q + 100 * cz + 4 * f + o + 1 = 400 * q + 100 * cz + 4 * (f + 1) + 0 by omega, yS_val q cz (f + 1) 0 b1 (by omega) (by omega)]
      omega
    · by_cases c3 : cz < 3
      · rw [show 400 * q + 100 * cz + 4 * f + o + 1 = 400 * q + 100 * (cz + 1) + 4 * 0 + 0 by omega, yS_val q (cz + 1) 0 0 (by omega) (by omega) (by omega)]
        omega
      · rw [show 400 * q + 100 * cz + 4 * f + o + 1 = 400 * (q + 1) + 100 * 0 + 4 * 0 + 0 by omega, yS_val (q + 1) 0 0 0 (by omega) (by omega) (by omega)]
        omega
theorem y_lp5 (nu : Int) : ∀ (fu : Nat) (ya : Int), yS (ya - 1) ≤ nu → nu < yS 10000 → 10000 - ya < fu → ya ≤ 10000 → ya ≤ lp_X5_yearOf nu fu ya ∧ lp_X5_yearOf nu fu ya ≤ 10000 ∧ yS (lp_X5_yearOf nu fu ya - 1) ≤ nu ∧ nu < yS (lp_X5_yearOf nu fu ya) := by
  intro fu
  induction fu with
  | zero => intro ya h1 h2 h3 h4; exact absurd h3 (by omega)
  | succ fu ih =>
    intro ya h1 h2 h3 h4
    rw [lp_X5_yearOf]
    have e : f_X5_beginOf (ya + 1) = yS ya := by rw [yS_5]; exact congrArg yS (by omega)
    rw [e]
    split
    · rename_i c1
      have c2 : ya < 10000 := by
        by_cases q : ya < 10000
        · exact q
        · have : ya = 10000 := by omega
          subst this
          omega
      obtain ⟨g1, g2, g3, g4⟩ := ih (ya + 1) (by rw [show ya + 1 - 1 = ya by omega]; exact c1) h2 (by omega) (by omega)
      exact ⟨by omega, g2, g3, g4⟩
    · rename_i c1
      exact ⟨by omega, h4, h1, by omega⟩
theorem b5_yearOf (nu : Int) (h : 0 ≤ nu ∧ nu < yS 10000) : 1 ≤ f_X5_yearOf nu ∧ f_X5_yearOf nu ≤ 10000 ∧ yS (f_X5_yearOf nu - 1) ≤ nu ∧ nu < yS (f_X5_yearOf nu) := by
  have e1 : yS (nu / 366 + 1 - 1) ≤ nu := by
    unfold yS
    omega
  have e2 : yS 10000 = 3652425 := by decide
  obtain ⟨g1, g2, g3, g4⟩ := y_lp5 nu 10001 (nu / 366 + 1) e1 h.2 (by omega) (by omega)
  exact ⟨by unfold f_X5_yearOf; omega, g2, g3, g4⟩
theorem e_yearOf (nu : Int) (h : 0 ≤ nu ∧ nu < yS 10000) : f_X0_yearOf nu = f_X5_yearOf nu := by
  obtain ⟨g1, g2, g3, g4⟩ := b5_yearOf nu h
  obtain ⟨q1, q2⟩ := y_X0 nu h.1
  exact y_uniq q1 q2 g3 g4
theorem e_leap (ya : Int) : f_X0_isLeap ya = f_X5_isLeap ya := rfl
theorem e_len (ya mo : Int) : f_X0_monthLength ya mo = f_X5_lengthOf ya mo := by
  unfold f_X0_monthLength f_X5_lengthOf
  rw [e_leap]
theorem leap_yS (ya : Int) : f_X0_isLeap ya = yS ya - yS (ya - 1) - 365 := by
  unfold f_X0_isLeap yS
  (repeat' split) <;> omega
theorem m_next (ya mo : Int) (h : 1 ≤ mo ∧ mo ≤ 11) : f_X0_monthStart ya (mo + 1) = f_X0_monthStart ya mo + f_X0_monthLength ya mo := by
  have hl := b_X0_isLeap ya
  rcases (show mo = 1 ∨ mo = 2 ∨ mo = 3 ∨ mo = 4 ∨ mo = 5 ∨ mo = 6 ∨ mo = 7 ∨ mo = 8 ∨ mo = 9 ∨ mo = 10 ∨ mo = 11 by omega) with rfl | rfl | rfl | rfl | rfl | rfl | rfl | rfl | rfl | rfl | rfl <;> simp [f_X0_monthStart, f_X0_monthLength] <;> (try split) <;> omega
theorem m_last (ya : Int) : yS ya = f_X0_monthStart ya 12 + 31 := by
  have hl := leap_yS ya
  have hs := yS_step (ya - 1)
  rw [show ya - 1 + 1 = ya by omega] at hs
  simp [f_X0_monthStart, yS_0]
  split <;> omega
theorem m_first (ya : Int) : f_X0_monthStart ya 1 = yS (ya - 1) := by
  simp [f_X0_monthStart, yS_0]
theorem n_eq (ya mo da : Int) (h : 1 ≤ mo ∧ mo ≤ 12) : f_X5_numberOf ya mo da = f_X0_monthStart ya mo + da - 1 := by
  rcases (show mo = 1 ∨ mo = 2 ∨ mo = 3 ∨ mo = 4 ∨ mo = 5 ∨ mo = 6 ∨ mo = 7 ∨ mo = 8 ∨ mo = 9 ∨ mo = 10 ∨ mo = 11 ∨ mo = 12 by omega) with rfl | rfl | rfl | rfl | rfl | rfl | rfl | rfl | rfl | rfl | rfl | rfl <;> simp [f_X5_numberOf, lp_X5_numberOf, f_X5_lengthOf, f_X0_monthStart, yS_0, yS_5, e_leap] <;> (try split) <;> omega
theorem mo_lp (nu ya : Int) (hb : yS (ya - 1) ≤ nu) : ∀ (fu : Nat) (mo : Int), 1 ≤ mo → mo ≤ 12 → mo ≤ fu → lp_X0_monthOf nu fu mo ya = lp_X5_monthOf nu fu mo ya ∧ 1 ≤ lp_X0_monthOf nu fu mo ya ∧ lp_X0_monthOf nu fu mo ya ≤ mo ∧ f_X0_monthStart ya (lp_X0_monthOf nu fu mo ya) ≤ nu ∧ (lp_X0_monthOf nu fu mo ya = mo ∨ nu < f_X0_monthStart ya (lp_X0_monthOf nu fu mo ya + 1)) := by
  intro fu
  induction fu with
  | zero => intro mo h1 h2 h3; exact absurd h3 (by omega)
  | succ fu ih =>
    intro mo h1 h2 h3
    have e := n_eq ya mo 1 ⟨h1, h2⟩
    rw [lp_X0_monthOf, lp_X5_monthOf, e]
    by_cases c1 : mo ≤ 1
    · have : mo = 1 := by omega
      subst this
      have := m_first ya
      rw [if_pos (by omega), if_pos (by omega)]
      exact ⟨rfl, by omega, by omega, by omega, Or.inl rfl⟩
    · rw [if_neg c1]
      by_cases c2 : nu < f_X0_monthStart ya mo
      · rw [if_pos c2, if_neg (by omega)]
        obtain ⟨g1, g2, g3, g4, g5⟩ := ih (mo + (-1)) (by omega) (by omega) (by omega)
        refine ⟨g1, g2, by omega, g4, Or.inr ?_⟩
        rcases g5 with g5 | g5
        · rw [g5, show mo + -1 + 1 = mo by omega]; exact c2
        · exact g5
      · rw [if_neg c2, if_pos (by omega)]
        exact ⟨rfl, h1, Int.le_refl _, by omega, Or.inl rfl⟩
/-- month and day of a number, in both -/
theorem mo_day (nu : Int) (h : 0 ≤ nu ∧ nu < yS 10000) : f_X0_monthOf nu = f_X5_monthOf nu ∧ 1 ≤ f_X0_monthOf nu ∧ f_X0_monthOf nu ≤ 12 ∧ f_X0_monthStart (f_X0_yearOf nu) (f_X0_monthOf nu) ≤ nu ∧ nu < f_X0_monthStart (f_X0_yearOf nu) (f_X0_monthOf nu) + f_X0_monthLength (f_X0_yearOf nu) (f_X0_monthOf nu) := by
  obtain ⟨q1, q2⟩ := y_X0 nu h.1
  have e := e_yearOf nu h
  obtain ⟨g1, g2, g3, g4, g5⟩ := mo_lp nu (f_X0_yearOf nu) q1 12 12 (by omega) (by omega) (by omega)
  refine ⟨?_, g2, g3, g4, ?_⟩
  · unfold f_X0_monthOf f_X5_monthOf
    rw [← e]
    exact g1
  · show nu < f_X0_monthStart (f_X0_yearOf nu) (lp_X0_monthOf nu 12 12 (f_X0_yearOf nu)) + f_X0_monthLength (f_X0_yearOf nu) (lp_X0_monthOf nu 12 12 (f_X0_yearOf nu))
    by_cases c1 : lp_X0_monthOf nu 12 12 (f_X0_yearOf nu) = 12
    · rw [c1]
      have := m_last (f_X0_yearOf nu)
      have e2 : f_X0_monthLength (f_X0_yearOf nu) 12 = 31 := by simp [f_X0_monthLength]
      omega
    · have := m_next (f_X0_yearOf nu) (lp_X0_monthOf nu 12 12 (f_X0_yearOf nu)) ⟨g2, by omega⟩
      omega
theorem len_b (ya mo : Int) : 28 ≤ f_X0_monthLength ya mo ∧ f_X0_monthLength ya mo ≤ 31 := by
  unfold f_X0_monthLength
  (repeat' split) <;> omega
theorem bb0_monthOf (nu : Int) (hp0 : 0 ≤ nu ∧ nu ≤ 3652058) : 1 ≤ (f_X0_monthOf nu) ∧ (f_X0_monthOf nu) ≤ 12 := by
  have e2 : yS 10000 = 3652425 := by decide
  obtain ⟨_, g2, g3, _⟩ := mo_day nu ⟨hp0.1, by omega⟩
  exact ⟨g2, g3⟩
theorem bb0_dayOf (nu : Int) (hp0 : 0 ≤ nu ∧ nu ≤ 3652058) : 1 ≤ (f_X0_dayOf nu) ∧ (f_X0_dayOf nu) ≤ 31 := by
  have e2 : yS 10000 = 3652425 := by decide
  obtain ⟨_, _, _, g4, g5⟩ := mo_day nu ⟨hp0.1, by omega⟩
  have := len_b (f_X0_yearOf nu) (f_X0_monthOf nu)
  unfold f_X0_dayOf
  omega
theorem bb0_yearDayOf (nu : Int) (hp0 : 0 ≤ nu ∧ nu ≤ 3652058) : 1 ≤ (f_X0_yearDayOf nu) ∧ (f_X0_yearDayOf nu) ≤ 366 := by
  obtain ⟨q1, q2⟩ := y_X0 nu hp0.1
  have hs := yS_step (f_X0_yearOf nu - 1)
  rw [show f_X0_yearOf nu - 1 + 1 = f_X0_yearOf nu by omega] at hs
  unfold f_X0_yearDayOf
  rw [yS_0]
  omega
theorem bb0_week (nu : Int) (h : 0 ≤ nu ∧ nu ≤ 3652058) : f_X0_firstMonday (f_X0_weekYearOf nu) ≤ nu ∧ nu < f_X0_firstMonday (f_X0_weekYearOf nu) + 371 := by
  unfold f_X0_weekYearOf f_X0_firstMonday
  obtain ⟨q1, q2⟩ := y_X0 (nu - nu % 7 + 3) (by omega)
  have hs := yS_step (f_X0_yearOf (nu - nu % 7 + 3) - 1)
  rw [show f_X0_yearOf (nu - nu % 7 + 3) - 1 + 1 = f_X0_yearOf (nu - nu % 7 + 3) by omega] at hs
  rw [yS_0]
  generalize yS (f_X0_yearOf (nu - nu % 7 + 3) - 1) = u at *
  generalize yS (f_X0_yearOf (nu - nu % 7 + 3)) = v at *
  omega
theorem bb0_weekOf (nu : Int) (hp0 : 0 ≤ nu ∧ nu ≤ 3652058) : 1 ≤ (f_X0_weekOf nu) ∧ (f_X0_weekOf nu) ≤ 53 := by
  have := bb0_week nu hp0
  unfold f_X0_weekOf
  omega
