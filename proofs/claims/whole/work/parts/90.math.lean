theorem bb0_nth (ya mo wd nn : Int) (hp0 : -2147483648 ≤ ya ∧ ya ≤ 2147483647) (hp1 : -2147483648 ≤ mo ∧ mo ≤ 2147483647) : -1 ≤ f_X0_nthNumber ya mo wd nn ∧ f_X0_nthNumber ya mo wd nn ≤ 4000000 := by
  have q1 := b_X0_isYear ya hp0
  have q2 := b_X0_isMonth mo hp1
  unfold f_X0_nthNumber
  by_cases c1 : f_X0_isYear ya = 0
  · rw [if_pos c1]; omega
  · rw [if_neg c1]
    by_cases c2 : f_X0_isMonth mo = 0
    · rw [if_pos c2]; omega
    · rw [if_neg c2]
      have g := ms_le ya mo (by omega)
      have g2 := y_b ya (by omega)
      (repeat' split) <;> omega
theorem nth_up (ya mo wd nn : Int) (hw : 1 ≤ wd ∧ wd ≤ 7) (hn : 0 < nn) : ∀ (fu : Nat) (fir las see day : Int), 0 ≤ fir → fir ≤ day → 0 ≤ see → see < nn → las + 1 - day < fu → day ≤ las + 1 →
    lp_X5_nthOf ya mo wd nn fu fir las see day = if f_X0_onOrBehind day wd + 7 * (nn - see - 1) ≤ las then f_X0_onOrBehind day wd + 7 * (nn - see - 1) else -1 := by
  intro fu
  induction fu with
  | zero => intro fir las see day h0 h1 h2 h3 h4 h5; exact absurd h4 (by omega)
  | succ fu ih =>
    intro fir las see day h0 h1 h2 h3 h4 h5
    have o1 := ob_b day wd hw (by omega)
    have o2 := ob_b (day + 1) wd hw (by omega)
    rw [lp_X5_nthOf, if_neg (by omega)]
    by_cases c1 : day ≤ las
    · rw [if_pos c1]
      have hnn : ¬ nn ≤ 0 := by omega
      by_cases c2 : f_X5_weekdayOf day = wd
      · have c3 : day % 7 + 1 = wd := c2
        simp only [if_pos c2, if_neg hnn]
        by_cases c4 : see + 1 = nn
        · rw [if_pos c4, if_pos (by omega)]
          omega
        · rw [if_neg c4, ih fir las (see + 1) (day + 1) h0 (by omega) (by omega) (by omega) (by omega) (by omega)]
          rw [show f_X0_onOrBehind (day + 1) wd + 7 * (nn - (see + 1) - 1) = f_X0_onOrBehind day wd + 7 * (nn - see - 1) by omega]
      · have c3 : ¬ day % 7 + 1 = wd := c2
        simp only [if_neg c2, if_neg hnn]
        rw [ih fir las (see + 0) (day + 1) h0 (by omega) (by omega) (by omega) (by omega) (by omega)]
        rw [show f_X0_onOrBehind (day + 1) wd + 7 * (nn - (see + 0) - 1) = f_X0_onOrBehind day wd + 7 * (nn - see - 1) by omega]
    · rw [if_neg c1, if_neg (by omega)]
theorem nth_down (ya mo wd nn : Int) (hw : 1 ≤ wd ∧ wd ≤ 7) (hn : nn < 0) : ∀ (fu : Nat) (fir las see day : Int), 7 ≤ fir → day ≤ las → 0 ≤ see → see < -nn → day + 1 - fir < fu → fir - 1 ≤ day →
    lp_X5_nthOf ya mo wd nn fu fir las see day = if fir ≤ f_X0_onOrBehind (day - 6) wd - 7 * (-nn - see - 1) then f_X0_onOrBehind (day - 6) wd - 7 * (-nn - see - 1) else -1 := by
  intro fu
  induction fu with
  | zero => intro fir las see day h0 h1 h2 h3 h4 h5; exact absurd h4 (by omega)
  | succ fu ih =>
    intro fir las see day h0 h1 h2 h3 h4 h5
    have o1 := ob_b (day - 6) wd hw (by omega)
    rw [lp_X5_nthOf]
    by_cases c1 : day < fir
    · rw [if_pos c1, if_neg (by omega)]
    · rw [if_neg c1, if_pos h1]
      have hnn : nn ≤ 0 := by omega
      by_cases c0 : day = 6
      · omega
      have o2 := ob_b (day + (-1) - 6) wd hw (by omega)
      by_cases c2 : f_X5_weekdayOf day = wd
      · have c3 : day % 7 + 1 = wd := c2
        simp only [if_pos c2, if_pos hnn]
        by_cases c4 : -(see + 1) = nn
        · rw [if_pos c4, if_pos (by omega)]
          omega
        · rw [if_neg c4, ih fir las (see + 1) (day + (-1)) h0 (by omega) (by omega) (by omega) (by omega) (by omega)]
          rw [show f_X0_onOrBehind (day + (-1) - 6) wd - 7 * (-nn - (see + 1) - 1) = f_X0_onOrBehind (day - 6) wd - 7 * (-nn - see - 1) by omega]
      · have c3 : ¬ day % 7 + 1 = wd := c2
        simp only [if_neg c2, if_pos hnn]
        rw [ih fir las (see + 0) (day + (-1)) h0 (by omega) (by omega) (by omega) (by omega) (by omega)]
        rw [show f_X0_onOrBehind (day + (-1) - 6) wd - 7 * (-nn - (see + 0) - 1) = f_X0_onOrBehind (day - 6) wd - 7 * (-nn - see - 1) by omega]
