theorem yr_b (nu : Int) (h : 0 ≤ nu ∧ nu ≤ 3652058) : 1 ≤ f_X0_yearOf nu ∧ f_X0_yearOf nu ≤ 9999 := by
  have hy := b_X0_yearOf nu ⟨h.1, by omega⟩
  by_cases e : f_X0_yearOf nu = 10000
  · obtain ⟨q1, q2⟩ := y_X0 nu h.1
    rw [e] at q1
    have : yS (10000 - 1) = 3652059 := by decide
    omega
  · omega
theorem bym_at (fro too : Int) (h : 0 ≤ fro ∧ fro ≤ too ∧ too ≤ 3652058) : 0 ≤ f_X0_movedByMonths fro (12 * (f_X0_yearOf too - f_X0_yearOf fro) + f_X0_monthOf too - f_X0_monthOf fro) := by
  have y1 := yr_b fro ⟨h.1, by omega⟩
  have y2 := yr_b too ⟨by omega, h.2.2⟩
  have b1 := bb0_monthOf fro ⟨h.1, by omega⟩
  have b2 := bb0_monthOf too ⟨by omega, h.2.2⟩
  obtain ⟨y, mo, c1, c2, c3, c4, c5, c6, c7⟩ := bym_in fro (12 * (f_X0_yearOf too - f_X0_yearOf fro) + f_X0_monthOf too - f_X0_monthOf fro) ⟨h.1, by omega⟩ (by omega) (by omega)
  have g := ms_le y mo ⟨c1, c2⟩
  have g2 := y_b y ⟨c3, c4⟩
  omega
theorem e_wholes1 (fro too : Int) (h : 0 ≤ fro ∧ fro ≤ too ∧ too ≤ 3652058) : f_X5_wholes_1 fro too = f_X0_monthsBetween fro too := by
  have hc := yS_c
  have hf : 0 ≤ fro ∧ fro ≤ 3652058 := ⟨h.1, by omega⟩
  have hm := idx_mono fro too h
  have hz := bym_zero fro hf
  have ha := bym_at fro too h
  have k1 := bym_far fro too
  have k2 := bym_near fro too
  unfold f_X5_wholes_1 f_X0_monthsBetween
  rw [← e_yearOf fro (by omega), ← e_yearOf too (by omega), ← (mo_day fro (by omega)).1, ← (mo_day too (by omega)).1]
  obtain ⟨M, hM⟩ : ∃ M, M = 12 * (f_X0_yearOf too - f_X0_yearOf fro) + f_X0_monthOf too - f_X0_monthOf fro := ⟨_, rfl⟩
  rw [← hM] at ha k1 k2 ⊢
  have hM0 : 0 ≤ M := by omega
  rw [show M / 1 = M by omega, show (M + 1) * 1 = M + 1 by omega, show (130001 : Nat) = 129998 + 1 + 1 + 1 from rfl, lp_X5_wholes_1, if_neg (by omega), ← e_bym fro _ hf]
  have f1 := k1 (M + 1) h (by omega)
  have step : (if f_X0_movedByMonths fro (M + 1) < 0 then lp_X5_wholes_1 fro too (129998 + 1 + 1) (M + 1 + -1) (f_X5_byMonths fro ((M + 1 + -1) * 1)) else if f_X0_movedByMonths fro (M + 1) ≤ too then M + 1 else lp_X5_wholes_1 fro too (129998 + 1 + 1) (M + 1 + -1) (f_X5_byMonths fro ((M + 1 + -1) * 1))) = lp_X5_wholes_1 fro too (129998 + 1 + 1) M (f_X0_movedByMonths fro M) := by
    rw [show M + 1 + -1 = M by omega, show M * 1 = M by omega, ← e_bym fro M hf]
    by_cases c : f_X0_movedByMonths fro (M + 1) < 0
    · rw [if_pos c]
    · rw [if_neg c, if_neg (by omega)]
  rw [step, lp_X5_wholes_1]
  by_cases c1 : M ≤ 0
  · have : M = 0 := by omega
    rw [if_pos c1, this, hz, if_pos h.2.1]
  · rw [if_neg c1, if_neg (by omega)]
    by_cases c2 : f_X0_movedByMonths fro M ≤ too
    · rw [if_pos c2, if_pos c2]
    · rw [if_neg c2, if_neg c2, lp_X5_wholes_1, show M + -1 = M - 1 by omega, show (M - 1) * 1 = M - 1 by omega, ← e_bym fro (M - 1) hf]
      by_cases c3 : M - 1 ≤ 0
      · rw [if_pos c3]
      · have := k2 (M - 1) h (by omega) (by omega)
        rw [if_neg c3, if_neg (by omega), if_pos this.2]
theorem e_wholes12 (fro too : Int) (h : 0 ≤ fro ∧ fro ≤ too ∧ too ≤ 3652058) : f_X5_wholes_12 fro too = f_X0_monthsBetween fro too / 12 := by
  have hc := yS_c
  have hf : 0 ≤ fro ∧ fro ≤ 3652058 := ⟨h.1, by omega⟩
  have hm := idx_mono fro too h
  have hz := bym_zero fro hf
  have ha := bym_at fro too h
  have k1 := bym_far fro too
  have k2 := bym_near fro too
  have hb := bb0_between fro too h
  unfold f_X5_wholes_12
  unfold f_X0_monthsBetween at hb ⊢
  rw [← e_yearOf fro (by omega), ← e_yearOf too (by omega), ← (mo_day fro (by omega)).1, ← (mo_day too (by omega)).1]
  obtain ⟨M, hM⟩ : ∃ M, M = 12 * (f_X0_yearOf too - f_X0_yearOf fro) + f_X0_monthOf too - f_X0_monthOf fro := ⟨_, rfl⟩
  rw [← hM] at ha k1 k2 hb ⊢
  have hM0 : 0 ≤ M := by omega
  obtain ⟨q, hq⟩ : ∃ q, q = M / 12 := ⟨_, rfl⟩
  rw [← hq, show (130001 : Nat) = 129998 + 1 + 1 + 1 from rfl, lp_X5_wholes_12, if_neg (by omega), ← e_bym fro _ hf]
  have f1 := k1 ((q + 1) * 12) h (by omega)
  have step : (if f_X0_movedByMonths fro ((q + 1) * 12) < 0 then lp_X5_wholes_12 fro too (129998 + 1 + 1) (q + 1 + -1) (f_X5_byMonths fro ((q + 1 + -1) * 12)) else if f_X0_movedByMonths fro ((q + 1) * 12) ≤ too then q + 1 else lp_X5_wholes_12 fro too (129998 + 1 + 1) (q + 1 + -1) (f_X5_byMonths fro ((q + 1 + -1) * 12))) = lp_X5_wholes_12 fro too (129998 + 1 + 1) q (f_X0_movedByMonths fro (q * 12)) := by
    rw [show q + 1 + -1 = q by omega, ← e_bym fro (q * 12) hf]
    by_cases c : f_X0_movedByMonths fro ((q + 1) * 12) < 0
    · rw [if_pos c]
    · rw [if_neg c, if_neg (by omega)]
  rw [step, lp_X5_wholes_12]
  by_cases c1 : q ≤ 0
  · rw [if_pos c1]
    split at hb
    · rename_i c; rw [if_pos c]; omega
    · rename_i c; rw [if_neg c]; omega
  · rw [if_neg c1]
    by_cases c4 : q * 12 = M
    · rw [c4, if_neg (by omega)]
      by_cases c2 : f_X0_movedByMonths fro M ≤ too
      · rw [if_pos c2, if_pos c2]; omega
      · rw [if_neg c2, if_neg c2, lp_X5_wholes_12, ← e_bym fro _ hf]
        by_cases c3 : q + -1 ≤ 0
        · rw [if_pos c3]; omega
        · have := k2 ((q + -1) * 12) h (by omega) (by omega)
          rw [if_neg c3, if_neg (by omega), if_pos this.2]
          omega
    · have := k2 (q * 12) h (by omega) (by omega)
      rw [if_neg (by omega), if_pos this.2]
      split <;> omega
theorem bb0_mb (fro too : Int) (h1 : 0 ≤ fro ∧ fro ≤ 3652058) (h2 : 0 ≤ too ∧ too ≤ 3652058) : -120000 ≤ f_X0_monthsBetween fro too ∧ f_X0_monthsBetween fro too ≤ 120000 := by
  have y1 := yr_b fro h1
  have y2 := yr_b too h2
  have b1 := bb0_monthOf fro h1
  have b2 := bb0_monthOf too h2
  unfold f_X0_monthsBetween
  split <;> omega
theorem e_between (fro too un : Int) (h1 : 0 ≤ fro ∧ fro ≤ 3652058) (h2 : 0 ≤ too ∧ too ≤ 3652058) (hu : 0 ≤ un ∧ un ≤ 2) : f_X4_between fro too un = if un = 0 then too - fro else if un = 1 then (if fro ≤ too then f_X5_wholes_1 fro too else -f_X5_wholes_1 too fro) else (if fro ≤ too then f_X5_wholes_12 fro too else -f_X5_wholes_12 too fro) := by
  unfold f_X4_between f_X4_wholeUnits
  by_cases c : too < fro
  · rw [e_wholes1 too fro (by omega), e_wholes12 too fro (by omega)]
    rw [if_pos c, if_neg (by omega : ¬ fro ≤ too), if_neg (by omega : ¬ fro ≤ too)]
    (repeat' split) <;> omega
  · rw [if_neg c, if_pos (by omega : fro ≤ too), if_pos (by omega : fro ≤ too), e_wholes1 fro too (by omega), e_wholes12 fro too (by omega)]
