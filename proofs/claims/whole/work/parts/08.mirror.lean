def f_X0_isNumber (nu : Int) : Int :=
  if nu < 0 then 0
  else if nu ≤ 3652058 then 1
  else 0
theorem b_X0_isNumber (nu : Int) (hp0 : -9223372036854775808 ≤ nu ∧ nu ≤ 9223372036854775807) : ((f_X0_isNumber nu) = 1 ∧ 0 ≤ nu ∧ nu ≤ 3652058) ∨ ((f_X0_isNumber nu) = 0 ∧ (nu < 0 ∨ 3652058 < nu)) := by
  unfold f_X0_isNumber
  (repeat' split) <;> omega
def f_X0_isYear (nu : Int) : Int :=
  if nu < 1 then 0
  else if nu ≤ 9999 then 1
  else 0
theorem b_X0_isYear (nu : Int) (hp0 : -2147483648 ≤ nu ∧ nu ≤ 2147483647) : ((f_X0_isYear nu) = 1 ∧ 1 ≤ nu ∧ nu ≤ 9999) ∨ ((f_X0_isYear nu) = 0 ∧ (nu < 1 ∨ 9999 < nu)) := by
  unfold f_X0_isYear
  (repeat' split) <;> omega
def f_X0_isMonth (nu : Int) : Int :=
  if nu < 1 then 0
  else if nu ≤ 12 then 1
  else 0
theorem b_X0_isMonth (nu : Int) (hp0 : -2147483648 ≤ nu ∧ nu ≤ 2147483647) : ((f_X0_isMonth nu) = 1 ∧ 1 ≤ nu ∧ nu ≤ 12) ∨ ((f_X0_isMonth nu) = 0 ∧ (nu < 1 ∨ 12 < nu)) := by
  unfold f_X0_isMonth
  (repeat' split) <;> omega
def f_X0_isWeekday (nu : Int) : Int :=
  if nu < 1 then 0
  else if nu ≤ 7 then 1
  else 0
theorem b_X0_isWeekday (nu : Int) (hp0 : -2147483648 ≤ nu ∧ nu ≤ 2147483647) : ((f_X0_isWeekday nu) = 1 ∧ 1 ≤ nu ∧ nu ≤ 7) ∨ ((f_X0_isWeekday nu) = 0 ∧ (nu < 1 ∨ 7 < nu)) := by
  unfold f_X0_isWeekday
  (repeat' split) <;> omega
def f_X0_isLeap (ya : Int) : Int :=
  if (ya % 4) = 0 then (if (ya % 100) = 0 then (if (ya % 400) = 0 then 1
      else 0)
    else 1)
  else 0
theorem b_X0_isLeap (ya : Int) (hp0 : 0 ≤ ya ∧ ya ≤ 2147483647) : (f_X0_isLeap ya) = 0 ∨ (f_X0_isLeap ya) = 1 := by
  unfold f_X0_isLeap
  (repeat' split) <;> omega
def f_X0_yearLength (ya : Int) : Int :=
  if (f_X0_isLeap ya) = 0 then 365
  else 366
theorem b_X0_yearLength (ya : Int) (hp0 : 0 ≤ ya ∧ ya ≤ 2147483647) : (f_X0_yearLength ya) = 365 ∨ (f_X0_yearLength ya) = 366 := by
  unfold f_X0_yearLength
  (repeat' split) <;> omega
def f_X0_monthLength (ya : Int) (mo : Int) : Int :=
  if mo = 2 then (if (f_X0_isLeap ya) = 0 then 28
    else 29)
  else if mo = 4 then 30
  else if mo = 6 then 30
  else if mo = 9 then 30
  else if mo = 11 then 30
  else 31
theorem b_X0_monthLength (ya : Int) (mo : Int) (hp0 : 0 ≤ ya ∧ ya ≤ 2147483647) (hp1 : -2147483648 ≤ mo ∧ mo ≤ 2147483647) : 28 ≤ (f_X0_monthLength ya mo) ∧ (f_X0_monthLength ya mo) ≤ 31 := by
  unfold f_X0_monthLength
  (repeat' split) <;> omega
def f_X0_yearStart (ya : Int) : Int :=
  ((((365 * (ya - 1)) + ((ya - 1) / 4)) - ((ya - 1) / 100)) + ((ya - 1) / 400))
theorem b_X0_yearStart (ya : Int) (hp0 : 1 ≤ ya ∧ ya ≤ 10001) : (f_X0_yearStart ya) = 365 * (ya - 1) + (ya - 1) / 4 - (ya - 1) / 100 + (ya - 1) / 400 := by
  rfl
def f_X0_monthStart (ya : Int) (mo : Int) : Int :=
  if mo ≤ 2 then ((f_X0_yearStart ya) + (((367 * mo) - 362) / 12))
  else if (f_X0_isLeap ya) = 0 then ((f_X0_yearStart ya) + ((((367 * mo) - 362) / 12) - 2))
  else ((f_X0_yearStart ya) + ((((367 * mo) - 362) / 12) - 1))
theorem b_X0_monthStart (ya : Int) (mo : Int) (hp0 : 1 ≤ ya ∧ ya ≤ 10000) (hp1 : 1 ≤ mo ∧ mo ≤ 12) : f_X0_yearStart ya ≤ (f_X0_monthStart ya mo) ∧ (f_X0_monthStart ya mo) ≤ f_X0_yearStart ya + 335 ∧ 0 ≤ f_X0_yearStart ya ∧ f_X0_yearStart ya ≤ 3652059 := by
  unfold f_X0_monthStart
  have hq1 := b_X0_yearStart ya (by omega)
  have hq2 := b_X0_isLeap ya (by omega)
  (repeat' split) <;> omega
def f_X0_firstMonday (ya : Int) : Int :=
  (((f_X0_yearStart ya) + 3) - (((f_X0_yearStart ya) + 3) % 7))
theorem b_X0_firstMonday (ya : Int) (hp0 : 1 ≤ ya ∧ ya ≤ 10001) : (f_X0_firstMonday ya) = f_X0_yearStart ya + 3 - (f_X0_yearStart ya + 3) % 7 ∧ (f_X0_firstMonday ya) = f_X0_yearStart ya + 3 - (f_X0_yearStart ya + 3) % 7 ∧ f_X0_yearStart ya = 365 * (ya - 1) + (ya - 1) / 4 - (ya - 1) / 100 + (ya - 1) / 400 := by
  exact ⟨rfl, rfl, rfl⟩
def f_X0_weeksIn (ya : Int) : Int :=
  (((f_X0_firstMonday (ya + 1)) - (f_X0_firstMonday ya)) / 7)
theorem b_X0_weeksIn (ya : Int) (hp0 : 1 ≤ ya ∧ ya ≤ 10000) : 52 ≤ (f_X0_weeksIn ya) ∧ (f_X0_weeksIn ya) ≤ 53 := by
  unfold f_X0_weeksIn
  have hq1 := b_X0_firstMonday ya (by omega)
  have hq2 := b_X0_firstMonday (ya + 1) (by omega)
  have hd : f_X0_yearStart (ya + 1) - f_X0_yearStart ya = 365 ∨ f_X0_yearStart (ya + 1) - f_X0_yearStart ya = 366 := by omega
  have e1 := hq1.1
  have e2 := hq2.1
  clear hq1 hq2
  omega
def f_X0_weekdayOf (nu : Int) : Int :=
  ((nu % 7) + 1)
theorem b_X0_weekdayOf (nu : Int) (hp0 : 0 ≤ nu ∧ nu ≤ 2147483647) : (f_X0_weekdayOf nu) = nu % 7 + 1 := by
  rfl
def f_X0_onOrBehind (nu : Int) (wd : Int) : Int :=
  (nu + (((wd - (f_X0_weekdayOf nu)) + 7) % 7))
theorem b_X0_onOrBehind (nu : Int) (wd : Int) (hp0 : 0 ≤ nu ∧ nu ≤ 4000000) (hp1 : 1 ≤ wd ∧ wd ≤ 7) : nu ≤ (f_X0_onOrBehind nu wd) ∧ (f_X0_onOrBehind nu wd) ≤ nu + 6 := by
  unfold f_X0_onOrBehind
  have hq1 := b_X0_weekdayOf nu (by omega)
  omega
def f_X0_civilNumber (ya : Int) (mo : Int) (da : Int) : Int :=
  if (f_X0_isYear ya) = 0 then (-1)
  else if (f_X0_isMonth mo) = 0 then (-1)
  else if da < 1 then (-1)
  else if da ≤ (f_X0_monthLength ya mo) then (((f_X0_monthStart ya mo) + da) - 1)
  else (-1)
theorem b_X0_civilNumber (ya : Int) (mo : Int) (da : Int) (hp0 : -2147483648 ≤ ya ∧ ya ≤ 2147483647) (hp1 : -2147483648 ≤ mo ∧ mo ≤ 2147483647) (hp2 : -2147483648 ≤ da ∧ da ≤ 2147483647) : -1 ≤ (f_X0_civilNumber ya mo da) ∧ (f_X0_civilNumber ya mo da) ≤ 4000000 := by
  unfold f_X0_civilNumber
  have hq1 := b_X0_isYear ya (by omega)
  have hq2 := b_X0_isMonth mo (by omega)
  by_cases hq : 1 ≤ ya ∧ ya ≤ 9999 ∧ 1 ≤ mo ∧ mo ≤ 12
  · have hq3 := b_X0_monthStart ya mo (by omega) (by omega)
    have hq4 := b_X0_monthLength ya mo (by omega) (by omega)
    (repeat' split) <;> omega
  · (repeat' split) <;> omega
def f_X0_yearDayNumber (ya : Int) (da : Int) : Int :=
  if (f_X0_isYear ya) = 0 then (-1)
  else if da < 1 then (-1)
  else if da ≤ (f_X0_yearLength ya) then (((f_X0_yearStart ya) + da) - 1)
  else (-1)
theorem b_X0_yearDayNumber (ya : Int) (da : Int) (hp0 : -2147483648 ≤ ya ∧ ya ≤ 2147483647) (hp1 : -2147483648 ≤ da ∧ da ≤ 2147483647) : -1 ≤ (f_X0_yearDayNumber ya da) ∧ (f_X0_yearDayNumber ya da) ≤ 4000000 := by
  unfold f_X0_yearDayNumber
  have hq1 := b_X0_isYear ya (by omega)
  by_cases hq : 1 ≤ ya ∧ ya ≤ 9999
  · have hq3 := b_X0_yearStart ya (by omega)
    have hq4 := b_X0_yearLength ya (by omega)
    (repeat' split) <;> omega
  · (repeat' split) <;> omega
def f_X0_weekNumber (ya : Int) (wk : Int) (wd : Int) : Int :=
  if (f_X0_isYear ya) = 0 then (-1)
  else if (f_X0_isWeekday wd) = 0 then (-1)
  else if wk < 1 then (-1)
  else if wk ≤ (f_X0_weeksIn ya) then (if (f_X0_isNumber ((((f_X0_firstMonday ya) + (7 * (wk - 1))) + wd) - 1)) = 0 then (-1)
    else ((((f_X0_firstMonday ya) + (7 * (wk - 1))) + wd) - 1))
  else (-1)
theorem b_X0_weekNumber (ya : Int) (wk : Int) (wd : Int) (hp0 : -2147483648 ≤ ya ∧ ya ≤ 2147483647) (hp1 : -2147483648 ≤ wk ∧ wk ≤ 2147483647) (hp2 : -2147483648 ≤ wd ∧ wd ≤ 2147483647) : -1 ≤ (f_X0_weekNumber ya wk wd) ∧ (f_X0_weekNumber ya wk wd) ≤ 3652058 := by
  unfold f_X0_weekNumber
  have hq1 := b_X0_isYear ya (by omega)
  have hq2 := b_X0_isWeekday wd (by omega)
  by_cases hq : 1 ≤ ya ∧ ya ≤ 9999 ∧ 1 ≤ wd ∧ wd ≤ 7
  · have hq3 := b_X0_firstMonday ya (by omega)
    have hq4 := b_X0_weeksIn ya (by omega)
    by_cases hw : 1 ≤ wk ∧ wk ≤ 53
    · have hq5 := b_X0_isNumber (f_X0_firstMonday ya + 7 * (wk - 1) + wd - 1) (by omega)
      (repeat' split) <;> omega
    · (repeat' split) <;> omega
  · (repeat' split) <;> omega
def f_X0_easterNumber (ya : Int) : Int :=
  if ya < 1583 then (-1)
  else if ya ≤ 9999 then (if ((((((ya / 100) - ((ya / 100) / 4)) - (((8 * (ya / 100)) + 13) / 25)) + (19 * (ya % 19))) + 15) % 30) = 29 then (f_X0_onOrBehind ((((f_X0_monthStart ya 3) + 20) + 28) + 1) 7)
    else if ((((((ya / 100) - ((ya / 100) / 4)) - (((8 * (ya / 100)) + 13) / 25)) + (19 * (ya % 19))) + 15) % 30) = 28 then (if (ya % 19) ≤ 10 then (f_X0_onOrBehind ((((f_X0_monthStart ya 3) + 20) + ((((((ya / 100) - ((ya / 100) / 4)) - (((8 * (ya / 100)) + 13) / 25)) + (19 * (ya % 19))) + 15) % 30)) + 1) 7)
      else (f_X0_onOrBehind ((((f_X0_monthStart ya 3) + 20) + 27) + 1) 7))
    else (f_X0_onOrBehind ((((f_X0_monthStart ya 3) + 20) + ((((((ya / 100) - ((ya / 100) / 4)) - (((8 * (ya / 100)) + 13) / 25)) + (19 * (ya % 19))) + 15) % 30)) + 1) 7))
  else (-1)
def f_X0_nthNumber (ya : Int) (mo : Int) (wd : Int) (nn : Int) : Int :=
  if (f_X0_isYear ya) = 0 then (-1)
  else if (f_X0_isMonth mo) = 0 then (-1)
  else if (f_X0_isWeekday wd) = 0 then (-1)
  else if nn = 0 then (-1)
  else if nn < (-5) then (-1)
  else if nn ≤ 5 then (if nn ≤ 0 then (if ((f_X0_onOrBehind ((((f_X0_monthStart ya mo) + (f_X0_monthLength ya mo)) - 1) - 6) wd) + (7 * (nn + 1))) < (f_X0_monthStart ya mo) then (-1)
      else if ((f_X0_onOrBehind ((((f_X0_monthStart ya mo) + (f_X0_monthLength ya mo)) - 1) - 6) wd) + (7 * (nn + 1))) ≤ (((f_X0_monthStart ya mo) + (f_X0_monthLength ya mo)) - 1) then ((f_X0_onOrBehind ((((f_X0_monthStart ya mo) + (f_X0_monthLength ya mo)) - 1) - 6) wd) + (7 * (nn + 1)))
      else (-1))
    else if ((f_X0_onOrBehind (f_X0_monthStart ya mo) wd) + (7 * (nn - 1))) < (f_X0_monthStart ya mo) then (-1)
    else if ((f_X0_onOrBehind (f_X0_monthStart ya mo) wd) + (7 * (nn - 1))) ≤ (((f_X0_monthStart ya mo) + (f_X0_monthLength ya mo)) - 1) then ((f_X0_onOrBehind (f_X0_monthStart ya mo) wd) + (7 * (nn - 1)))
    else (-1))
  else (-1)
def f_X0_yearOf (nu : Int) : Int :=
  (((((400 * (nu / 146097)) + (100 * (min ((nu % 146097) / 36524) 3))) + (4 * (((nu % 146097) - (36524 * (min ((nu % 146097) / 36524) 3))) / 1461))) + (min ((((nu % 146097) - (36524 * (min ((nu % 146097) / 36524) 3))) - (1461 * (((nu % 146097) - (36524 * (min ((nu % 146097) / 36524) 3))) / 1461))) / 365) 3)) + 1)
theorem b_X0_yearOf (nu : Int) (hp0 : 0 ≤ nu ∧ nu ≤ 3652061) : 1 ≤ (f_X0_yearOf nu) ∧ (f_X0_yearOf nu) ≤ 10000 := by
  unfold f_X0_yearOf
  omega
def f_X0_yearDayOf (nu : Int) : Int :=
  ((nu - (f_X0_yearStart (f_X0_yearOf nu))) + 1)
def f_X0_weekYearOf (nu : Int) : Int :=
  (f_X0_yearOf ((nu - (nu % 7)) + 3))
theorem b_X0_weekYearOf (nu : Int) (hp0 : 0 ≤ nu ∧ nu ≤ 3652058) : 1 ≤ (f_X0_weekYearOf nu) ∧ (f_X0_weekYearOf nu) ≤ 10000 := by
  exact b_X0_yearOf _ (by omega)
def f_X0_movedByDays (nu : Int) (many : Int) : Int :=
  if (f_X0_isNumber (nu + many)) = 0 then (-1)
  else (nu + many)
theorem b_X0_movedByDays (nu : Int) (many : Int) (hp0 : 0 ≤ nu ∧ nu ≤ 3652058) (hp1 : -2147483648 ≤ many ∧ many ≤ 2147483647) : -1 ≤ (f_X0_movedByDays nu many) ∧ (f_X0_movedByDays nu many) ≤ 3652058 := by
  unfold f_X0_movedByDays
  have hq1 := b_X0_isNumber (nu + many) (by omega)
  (repeat' split) <;> omega
def lp_X0_monthOf (nu : Int) : Nat → Int → Int → Int
  | 0, _, _ => 0
  | fu + 1, mo, ya =>
    if mo ≤ 1 then mo
    else if nu < (f_X0_monthStart ya mo) then lp_X0_monthOf nu fu (mo + (-1)) ya
    else mo
def f_X0_monthOf (nu : Int) : Int :=
  lp_X0_monthOf nu (12) 12 (f_X0_yearOf nu)
def f_X0_dayOf (nu : Int) : Int :=
  ((nu - (f_X0_monthStart (f_X0_yearOf nu) (f_X0_monthOf nu))) + 1)
def f_X0_weekOf (nu : Int) : Int :=
  (((nu - (f_X0_firstMonday (f_X0_weekYearOf nu))) / 7) + 1)
def f_X0_movedByMonths (nu : Int) (many : Int) : Int :=
  if ((((12 * ((f_X0_yearOf nu) - 1)) + (f_X0_monthOf nu)) - 1) + many) < 0 then (-1)
  else if ((((12 * ((f_X0_yearOf nu) - 1)) + (f_X0_monthOf nu)) - 1) + many) < 119988 then (((f_X0_monthStart ((((((12 * ((f_X0_yearOf nu) - 1)) + (f_X0_monthOf nu)) - 1) + many) / 12) + 1) ((((((12 * ((f_X0_yearOf nu) - 1)) + (f_X0_monthOf nu)) - 1) + many) % 12) + 1)) + (min (f_X0_dayOf nu) (f_X0_monthLength ((((((12 * ((f_X0_yearOf nu) - 1)) + (f_X0_monthOf nu)) - 1) + many) / 12) + 1) ((((((12 * ((f_X0_yearOf nu) - 1)) + (f_X0_monthOf nu)) - 1) + many) % 12) + 1)))) - 1)
  else (-1)
def f_X0_monthsBetween (fro : Int) (too : Int) : Int :=
  if (f_X0_movedByMonths fro (((12 * ((f_X0_yearOf too) - (f_X0_yearOf fro))) + (f_X0_monthOf too)) - (f_X0_monthOf fro))) ≤ too then (((12 * ((f_X0_yearOf too) - (f_X0_yearOf fro))) + (f_X0_monthOf too)) - (f_X0_monthOf fro))
  else ((((12 * ((f_X0_yearOf too) - (f_X0_yearOf fro))) + (f_X0_monthOf too)) - (f_X0_monthOf fro)) - 1)
def f_X3_isRule (kk : Int) (aa : Int) (bb : Int) (cz : Int) : Int :=
  if kk = 0 then (if (f_X0_civilNumber 2000 aa bb) = (-1) then 0
    else 1)
  else if kk = 1 then (if aa < (-100) then 0
    else if aa ≤ 100 then 1
    else 0)
  else if kk = 2 then (if (f_X0_isMonth aa) = 0 then 0
    else if (f_X0_isWeekday bb) = 0 then 0
    else if cz = (-1) then 1
    else if cz < 1 then 0
    else if cz ≤ 4 then 1
    else 0)
  else if kk = 3 then (if (f_X0_civilNumber 2000 aa bb) = (-1) then 0
    else 1)
  else 0
theorem b_X3_isRule (kk : Int) (aa : Int) (bb : Int) (cz : Int) (hp0 : -2147483648 ≤ kk ∧ kk ≤ 2147483647) (hp1 : -2147483648 ≤ aa ∧ aa ≤ 2147483647) (hp2 : -2147483648 ≤ bb ∧ bb ≤ 2147483647) (hp3 : -2147483648 ≤ cz ∧ cz ≤ 2147483647) : (f_X3_isRule kk aa bb cz) = 0 ∨ (f_X3_isRule kk aa bb cz) = 1 := by
  unfold f_X3_isRule
  (repeat' split) <;> omega
def f_X3_observed (nu : Int) : Int :=
  if nu = (-1) then (-1)
  else if (f_X0_weekdayOf nu) = 6 then (nu - 1)
  else if (f_X0_weekdayOf nu) = 7 then (nu + 1)
  else nu
theorem b_X3_observed (nu : Int) (hp0 : -1 ≤ nu ∧ nu ≤ 4000000) : -1 ≤ (f_X3_observed nu) ∧ (f_X3_observed nu) ≤ 4000001 := by
  unfold f_X3_observed
  (repeat' split) <;> omega
def f_X4_moved (nu : Int) (many : Int) (un : Int) : Int :=
  if un = 0 then (f_X0_movedByDays nu many)
  else if un = 1 then (f_X0_movedByMonths nu many)
  else (f_X0_movedByMonths nu (12 * many))
def f_X4_wholeUnits (fro : Int) (too : Int) (un : Int) : Int :=
  if un = 0 then (too - fro)
  else if un = 1 then (f_X0_monthsBetween fro too)
  else ((f_X0_monthsBetween fro too) / 12)
def f_X5_in (vv : Int) (lo : Int) (hi : Int) : Int :=
  if vv < lo then 0
  else if vv ≤ hi then 1
  else 0
theorem b_X5_in (vv : Int) (lo : Int) (hi : Int) (hp0 : -2147483648 ≤ vv ∧ vv ≤ 2147483647) (hp1 : -2147483648 ≤ lo ∧ lo ≤ 2147483647) (hp2 : -2147483648 ≤ hi ∧ hi ≤ 2147483647) : ((f_X5_in vv lo hi) = 1 ∧ lo ≤ vv ∧ vv ≤ hi) ∨ ((f_X5_in vv lo hi) = 0 ∧ (vv < lo ∨ hi < vv)) := by
  unfold f_X5_in
  (repeat' split) <;> omega
def f_X5_isSlot (sl : Int) : Int :=
  (f_X5_in sl 0 9)
theorem b_X5_isSlot (sl : Int) (hp0 : -2147483648 ≤ sl ∧ sl ≤ 2147483647) : ((f_X5_isSlot sl) = 1 ∧ 0 ≤ sl ∧ sl ≤ 9) ∨ ((f_X5_isSlot sl) = 0 ∧ (sl < 0 ∨ 9 < sl)) := by
  unfold f_X5_isSlot
  have hq := b_X5_in sl 0 9 (by omega) (by omega) (by omega)
  omega
def f_X5_isLeap (ya : Int) : Int :=
  if (ya % 4) = 0 then (if (ya % 100) = 0 then (if (ya % 400) = 0 then 1
      else 0)
    else 1)
  else 0
theorem b_X5_isLeap (ya : Int) (hp0 : 0 ≤ ya ∧ ya ≤ 2147483647) : (f_X5_isLeap ya) = 0 ∨ (f_X5_isLeap ya) = 1 := by
  unfold f_X5_isLeap
  (repeat' split) <;> omega
def f_X5_lengthOf (ya : Int) (mo : Int) : Int :=
  if mo = 2 then (if (f_X5_isLeap ya) = 0 then 28
    else 29)
  else if mo = 4 then 30
  else if mo = 6 then 30
  else if mo = 9 then 30
  else if mo = 11 then 30
  else 31
theorem b_X5_lengthOf (ya : Int) (mo : Int) (hp0 : 0 ≤ ya ∧ ya ≤ 2147483647) (hp1 : -2147483648 ≤ mo ∧ mo ≤ 2147483647) : 28 ≤ (f_X5_lengthOf ya mo) ∧ (f_X5_lengthOf ya mo) ≤ 31 := by
  unfold f_X5_lengthOf
  (repeat' split) <;> omega
def f_X5_yearLength (ya : Int) : Int :=
  if (f_X5_isLeap ya) = 0 then 365
  else 366
theorem b_X5_yearLength (ya : Int) (hp0 : 0 ≤ ya ∧ ya ≤ 2147483647) : (f_X5_yearLength ya) = 365 ∨ (f_X5_yearLength ya) = 366 := by
  unfold f_X5_yearLength
  (repeat' split) <;> omega
def f_X5_beginOf (ya : Int) : Int :=
  ((((365 * (ya - 1)) + ((ya - 1) / 4)) - ((ya - 1) / 100)) + ((ya - 1) / 400))
theorem b_X5_beginOf (ya : Int) (hp0 : 1 ≤ ya ∧ ya ≤ 10001) : (f_X5_beginOf ya) = 365 * (ya - 1) + (ya - 1) / 4 - (ya - 1) / 100 + (ya - 1) / 400 := by
  rfl
def lp_X5_numberOf (ya : Int) (mo : Int) (da : Int) : Nat → Int → Int → Int
  | 0, _, _ => 0
  | fu + 1, nn, kk =>
    if kk < mo then lp_X5_numberOf ya mo da fu (nn + (f_X5_lengthOf ya kk)) (kk + 1)
    else nn
def f_X5_numberOf (ya : Int) (mo : Int) (da : Int) : Int :=
  lp_X5_numberOf ya mo da (14) (((f_X5_beginOf ya) + da) - 1) 1
def lp_X5_yearOf (nu : Int) : Nat → Int → Int
  | 0, _ => 0
  | fu + 1, ya =>
    if (f_X5_beginOf (ya + 1)) ≤ nu then lp_X5_yearOf nu fu (ya + 1)
    else ya
def f_X5_yearOf (nu : Int) : Int :=
  lp_X5_yearOf nu (10001) ((nu / 366) + 1)
def lp_X5_monthOf (nu : Int) : Nat → Int → Int → Int
  | 0, _, _ => 0
  | fu + 1, mo, ya =>
    if (f_X5_numberOf ya mo 1) ≤ nu then mo
    else lp_X5_monthOf nu fu (mo + (-1)) ya
def f_X5_monthOf (nu : Int) : Int :=
  lp_X5_monthOf nu (12) 12 (f_X5_yearOf nu)
def f_X5_dayOf (nu : Int) : Int :=
  ((nu - (f_X5_numberOf (f_X5_yearOf nu) (f_X5_monthOf nu) 1)) + 1)
def f_X5_weekdayOf (nu : Int) : Int :=
  ((nu % 7) + 1)
theorem b_X5_weekdayOf (nu : Int) (hp0 : 0 ≤ nu ∧ nu ≤ 2147483647) : (f_X5_weekdayOf nu) = nu % 7 + 1 := by
  rfl
def f_X5_isDate (ya : Int) (mo : Int) (da : Int) : Int :=
  if (f_X5_in ya 1 9999) = 0 then 0
  else if (f_X5_in mo 1 12) = 0 then 0
  else if (f_X5_in da 1 (f_X5_lengthOf ya mo)) = 0 then 0
  else 1
def f_X5_firstMonday (ya : Int) : Int :=
  (((f_X5_beginOf ya) + 3) - ((f_X5_weekdayOf ((f_X5_beginOf ya) + 3)) - 1))
theorem b_X5_firstMonday (ya : Int) (hp0 : 1 ≤ ya ∧ ya ≤ 10001) : (f_X5_firstMonday ya) = f_X5_beginOf ya + 3 - (f_X5_beginOf ya + 3) % 7 ∧ f_X5_beginOf ya = 365 * (ya - 1) + (ya - 1) / 4 - (ya - 1) / 100 + (ya - 1) / 400 := by
  refine ⟨?_, rfl⟩
  unfold f_X5_firstMonday
  have hq := b_X5_beginOf ya (by omega)
  have hq2 := b_X5_weekdayOf (f_X5_beginOf ya + 3) (by omega)
  omega
def f_X5_weeksOf (ya : Int) : Int :=
  (((f_X5_firstMonday (ya + 1)) - (f_X5_firstMonday ya)) / 7)
theorem b_X5_weeksOf (ya : Int) (hp0 : 1 ≤ ya ∧ ya ≤ 10000) : 52 ≤ (f_X5_weeksOf ya) ∧ (f_X5_weeksOf ya) ≤ 53 := by
  unfold f_X5_weeksOf
  have hq1 := b_X5_firstMonday ya (by omega)
  have hq2 := b_X5_firstMonday (ya + 1) (by omega)
  have hd : f_X5_beginOf (ya + 1) - f_X5_beginOf ya = 365 ∨ f_X5_beginOf (ya + 1) - f_X5_beginOf ya = 366 := by omega
  have e1 := hq1.1
  have e2 := hq2.1
  clear hq1 hq2
  omega
def f_X5_weekYearOf (nu : Int) : Int :=
  (f_X5_yearOf ((nu - (f_X5_weekdayOf nu)) + 4))
def f_X5_weekOf (nu : Int) : Int :=
  (((nu - (f_X5_firstMonday (f_X5_weekYearOf nu))) / 7) + 1)
def lp_X5_easterOf (ya : Int) : Nat → Int → Int
  | 0, _ => 0
  | fu + 1, nn =>
    if (f_X5_weekdayOf nn) = 7 then nn
    else lp_X5_easterOf ya fu (nn + 1)
def f_X5_easterOf (ya : Int) : Int :=
  if ((((((ya / 100) - ((ya / 100) / 4)) - (((8 * (ya / 100)) + 13) / 25)) + (19 * (ya % 19))) + 15) % 30) = 29 then lp_X5_easterOf ya (7) (((f_X5_numberOf ya 3 21) + 28) + 1)
  else if ((((((ya / 100) - ((ya / 100) / 4)) - (((8 * (ya / 100)) + 13) / 25)) + (19 * (ya % 19))) + 15) % 30) = 28 then (if (ya % 19) ≤ 10 then lp_X5_easterOf ya (7) (((f_X5_numberOf ya 3 21) + ((((((ya / 100) - ((ya / 100) / 4)) - (((8 * (ya / 100)) + 13) / 25)) + (19 * (ya % 19))) + 15) % 30)) + 1)
    else lp_X5_easterOf ya (7) (((f_X5_numberOf ya 3 21) + 27) + 1))
  else lp_X5_easterOf ya (7) (((f_X5_numberOf ya 3 21) + ((((((ya / 100) - ((ya / 100) / 4)) - (((8 * (ya / 100)) + 13) / 25)) + (19 * (ya % 19))) + 15) % 30)) + 1)
def lp_X5_nthOf (ya : Int) (mo : Int) (wd : Int) (nn : Int) : Nat → Int → Int → Int → Int → Int
  | 0, _, _, _, _ => 0
  | fu + 1, fir, las, see, day =>
    if day < fir then (-1)
    else if day ≤ las then (if (f_X5_weekdayOf day) = wd then (if (f_X5_weekdayOf day) = wd then (if nn ≤ 0 then (if (-(see + 1)) = nn then day
            else if nn ≤ 0 then lp_X5_nthOf ya mo wd nn fu fir las (see + 1) (day + (-1))
            else lp_X5_nthOf ya mo wd nn fu fir las (see + 1) (day + 1))
          else if (see + 1) = nn then day
          else if nn ≤ 0 then lp_X5_nthOf ya mo wd nn fu fir las (see + 1) (day + (-1))
          else lp_X5_nthOf ya mo wd nn fu fir las (see + 1) (day + 1))
        else if nn ≤ 0 then lp_X5_nthOf ya mo wd nn fu fir las (see + 1) (day + (-1))
        else lp_X5_nthOf ya mo wd nn fu fir las (see + 1) (day + 1))
      else if (f_X5_weekdayOf day) = wd then (if nn ≤ 0 then (if (-(see + 0)) = nn then day
          else if nn ≤ 0 then lp_X5_nthOf ya mo wd nn fu fir las (see + 0) (day + (-1))
          else lp_X5_nthOf ya mo wd nn fu fir las (see + 0) (day + 1))
        else if (see + 0) = nn then day
        else if nn ≤ 0 then lp_X5_nthOf ya mo wd nn fu fir las (see + 0) (day + (-1))
        else lp_X5_nthOf ya mo wd nn fu fir las (see + 0) (day + 1))
      else if nn ≤ 0 then lp_X5_nthOf ya mo wd nn fu fir las (see + 0) (day + (-1))
      else lp_X5_nthOf ya mo wd nn fu fir las (see + 0) (day + 1))
    else (-1)
def f_X5_nthOf (ya : Int) (mo : Int) (wd : Int) (nn : Int) : Int :=
  if nn ≤ 0 then lp_X5_nthOf ya mo wd nn (40) (f_X5_numberOf ya mo 1) (((f_X5_numberOf ya mo 1) + (f_X5_lengthOf ya mo)) - 1) 0 (((f_X5_numberOf ya mo 1) + (f_X5_lengthOf ya mo)) - 1)
  else lp_X5_nthOf ya mo wd nn (40) (f_X5_numberOf ya mo 1) (((f_X5_numberOf ya mo 1) + (f_X5_lengthOf ya mo)) - 1) 0 (f_X5_numberOf ya mo 1)
def f_X5_byMonths (nu : Int) (many : Int) : Int :=
  if ((((12 * (f_X5_yearOf nu)) + (f_X5_monthOf nu)) - 1) + many) < 12 then (-1)
  else if ((((12 * (f_X5_yearOf nu)) + (f_X5_monthOf nu)) - 1) + many) ≤ 119999 then (if (f_X5_dayOf nu) < (f_X5_lengthOf (((((12 * (f_X5_yearOf nu)) + (f_X5_monthOf nu)) - 1) + many) / 12) ((((((12 * (f_X5_yearOf nu)) + (f_X5_monthOf nu)) - 1) + many) % 12) + 1)) then (f_X5_numberOf (((((12 * (f_X5_yearOf nu)) + (f_X5_monthOf nu)) - 1) + many) / 12) ((((((12 * (f_X5_yearOf nu)) + (f_X5_monthOf nu)) - 1) + many) % 12) + 1) (f_X5_dayOf nu))
    else (f_X5_numberOf (((((12 * (f_X5_yearOf nu)) + (f_X5_monthOf nu)) - 1) + many) / 12) ((((((12 * (f_X5_yearOf nu)) + (f_X5_monthOf nu)) - 1) + many) % 12) + 1) (f_X5_lengthOf (((((12 * (f_X5_yearOf nu)) + (f_X5_monthOf nu)) - 1) + many) / 12) ((((((12 * (f_X5_yearOf nu)) + (f_X5_monthOf nu)) - 1) + many) % 12) + 1))))
  else (-1)
def lp_X5_wholes_1 (fro : Int) (too : Int) : Nat → Int → Int → Int
  | 0, _, _ => 0
  | fu + 1, nn, the =>
    if nn ≤ 0 then nn
    else if the < 0 then lp_X5_wholes_1 fro too fu (nn + (-1)) (f_X5_byMonths fro ((nn + (-1)) * 1))
    else if the ≤ too then nn
    else lp_X5_wholes_1 fro too fu (nn + (-1)) (f_X5_byMonths fro ((nn + (-1)) * 1))
def f_X5_wholes_1 (fro : Int) (too : Int) : Int :=
  lp_X5_wholes_1 fro too (130001) (((((12 * ((f_X5_yearOf too) - (f_X5_yearOf fro))) + (f_X5_monthOf too)) - (f_X5_monthOf fro)) / 1) + 1) (f_X5_byMonths fro ((((((12 * ((f_X5_yearOf too) - (f_X5_yearOf fro))) + (f_X5_monthOf too)) - (f_X5_monthOf fro)) / 1) + 1) * 1))
def lp_X5_wholes_12 (fro : Int) (too : Int) : Nat → Int → Int → Int
  | 0, _, _ => 0
  | fu + 1, nn, the =>
    if nn ≤ 0 then nn
    else if the < 0 then lp_X5_wholes_12 fro too fu (nn + (-1)) (f_X5_byMonths fro ((nn + (-1)) * 12))
    else if the ≤ too then nn
    else lp_X5_wholes_12 fro too fu (nn + (-1)) (f_X5_byMonths fro ((nn + (-1)) * 12))
def f_X5_wholes_12 (fro : Int) (too : Int) : Int :=
  lp_X5_wholes_12 fro too (130001) (((((12 * ((f_X5_yearOf too) - (f_X5_yearOf fro))) + (f_X5_monthOf too)) - (f_X5_monthOf fro)) / 12) + 1) (f_X5_byMonths fro ((((((12 * ((f_X5_yearOf too) - (f_X5_yearOf fro))) + (f_X5_monthOf too)) - (f_X5_monthOf fro)) / 12) + 1) * 12))
def f_X5_byWeek (ya : Int) (wk : Int) (wd : Int) : Int :=
  if (f_X5_in ya 1 9999) = 0 then (-1)
  else if (f_X5_in wd 1 7) = 0 then (-1)
  else if (f_X5_in wk 1 (f_X5_weeksOf ya)) = 0 then (-1)
  else if (f_X5_in ((((f_X5_firstMonday ya) + (7 * (wk - 1))) + wd) - 1) 0 3652058) = 0 then (-1)
  else ((((f_X5_firstMonday ya) + (7 * (wk - 1))) + wd) - 1)
def f_X5_toldOf (nu : Int) (wh : Int) : Int :=
  if wh = 0 then nu
  else if wh = 1 then (f_X5_yearOf nu)
  else if wh = 2 then (f_X5_monthOf nu)
  else if wh = 3 then (f_X5_dayOf nu)
  else if wh = 4 then (f_X5_weekdayOf nu)
  else if wh = 5 then (f_X5_weekYearOf nu)
  else if wh = 6 then (f_X5_weekOf nu)
  else if wh = 7 then ((nu - (f_X5_beginOf (f_X5_yearOf nu))) + 1)
  else if wh = 8 then (if (f_X5_isLeap (f_X5_yearOf nu)) = 0 then 0
    else 1)
  else if wh = 9 then (f_X5_lengthOf (f_X5_yearOf nu) (f_X5_monthOf nu))
  else (f_X5_weeksOf (f_X5_weekYearOf nu))
def f_X5_isRule (kk : Int) (aa : Int) (bb : Int) (cz : Int) : Int :=
  if kk = 0 then (if (f_X5_in aa 1 12) = 0 then 0
    else if (f_X5_in bb 1 (f_X5_lengthOf 4 aa)) = 0 then 0
    else 1)
  else if kk = 1 then (f_X5_in aa (-100) 100)
  else if kk = 2 then (if (f_X5_in aa 1 12) = 0 then 0
    else if (f_X5_in bb 1 7) = 0 then 0
    else if (f_X5_in cz 1 4) = 0 then (if cz = (-1) then 1
      else 0)
    else 1)
  else if kk = 3 then (if (f_X5_in aa 1 12) = 0 then 0
    else if (f_X5_in bb 1 (f_X5_lengthOf 4 aa)) = 0 then 0
    else 1)
  else 0
theorem b_X5_isRule (kk : Int) (aa : Int) (bb : Int) (cz : Int) (hp0 : -2147483648 ≤ kk ∧ kk ≤ 2147483647) (hp1 : -2147483648 ≤ aa ∧ aa ≤ 2147483647) (hp2 : -2147483648 ≤ bb ∧ bb ≤ 2147483647) (hp3 : -2147483648 ≤ cz ∧ cz ≤ 2147483647) : (f_X5_isRule kk aa bb cz) = 0 ∨ (f_X5_isRule kk aa bb cz) = 1 := by
  unfold f_X5_isRule
  have hq := b_X5_in aa (-100) 100 (by omega) (by omega) (by omega)
  (repeat' split) <;> omega
def f_X5_textLength (tx : Int) : Int :=
  if tx = 2 then 8
  else 10
theorem b_X5_textLength (tx : Int) (hp0 : -2147483648 ≤ tx ∧ tx ≤ 2147483647) : (f_X5_textLength tx) = 8 ∨ (f_X5_textLength tx) = 10 := by
  unfold f_X5_textLength
  (repeat' split) <;> omega
def f_X5_fits (tx : Int) (pl : Int) (ch : Int) : Int :=
  if pl < (f_X5_textLength tx) then (if pl = 4 then (if ch = 45 then 1
      else 0)
    else if tx = 0 then (if pl = 7 then (if ch = 45 then 1
        else 0)
      else if tx = 1 then (if pl = 8 then (if ch = 45 then 1
          else 0)
        else if tx = 1 then (if pl = 5 then (if ch = 87 then 1
            else 0)
          else (f_X5_in ch 48 57))
        else (f_X5_in ch 48 57))
      else if tx = 1 then (if pl = 5 then (if ch = 87 then 1
          else 0)
        else (f_X5_in ch 48 57))
      else (f_X5_in ch 48 57))
    else if tx = 1 then (if pl = 8 then (if ch = 45 then 1
        else 0)
      else if tx = 1 then (if pl = 5 then (if ch = 87 then 1
          else 0)
        else (f_X5_in ch 48 57))
      else (f_X5_in ch 48 57))
    else if tx = 1 then (if pl = 5 then (if ch = 87 then 1
        else 0)
      else (f_X5_in ch 48 57))
    else (f_X5_in ch 48 57))
  else 0
theorem b_X5_fits (tx : Int) (pl : Int) (ch : Int) (hp0 : -2147483648 ≤ tx ∧ tx ≤ 2147483647) (hp1 : -2147483648 ≤ pl ∧ pl ≤ 2147483647) (hp2 : -2147483648 ≤ ch ∧ ch ≤ 2147483647) : (f_X5_fits tx pl ch) = 0 ∨ (f_X5_fits tx pl ch) = 1 := by
  unfold f_X5_fits
  have hq := b_X5_in ch 48 57 (by omega) (by omega) (by omega)
  (repeat' split) <;> omega
def f_X4_told (nu : Int) (wh : Int) : Int :=
  if wh < 0 then 0
  else if wh ≤ 10 then (if wh = 0 then nu
    else if wh = 1 then (f_X0_yearOf nu)
    else if wh = 2 then (f_X0_monthOf nu)
    else if wh = 3 then (f_X0_dayOf nu)
    else if wh = 4 then (f_X0_weekdayOf nu)
    else if wh = 5 then (f_X0_weekYearOf nu)
    else if wh = 6 then (f_X0_weekOf nu)
    else if wh = 7 then (f_X0_yearDayOf nu)
    else if wh = 8 then (if (f_X0_isLeap (f_X0_yearOf nu)) = 0 then 0
      else 1)
    else if wh = 9 then (f_X0_monthLength (f_X0_yearOf nu) (f_X0_monthOf nu))
    else (f_X0_weeksIn (f_X0_weekYearOf nu)))
  else 0
def f_X4_between (fro : Int) (too : Int) (un : Int) : Int :=
  if too < fro then (-(f_X4_wholeUnits too fro un))
  else (f_X4_wholeUnits fro too un)
def f_X1_fits (ch : Int) (wa : Int) : Int :=
  if wa = 48 then (if ch < 48 then 0
    else if ch ≤ 57 then 1
    else 0)
  else if ch = wa then 1
  else 0
theorem b_X1_fits (ch : Int) (wa : Int) (hp0 : -2147483648 ≤ ch ∧ ch ≤ 2147483647) (hp1 : -2147483648 ≤ wa ∧ wa ≤ 2147483647) : (f_X1_fits ch wa) = 0 ∨ (f_X1_fits ch wa) = 1 := by
  unfold f_X1_fits
  (repeat' split) <;> omega
