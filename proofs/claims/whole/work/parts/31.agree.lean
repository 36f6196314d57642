/-! THE CLASS AND THE REFERENCE AGREE: rules, working days, reading -/
theorem e_len4 (aa : Int) : f_X5_lengthOf 2000 aa = f_X5_lengthOf 4 aa := by
  unfold f_X5_lengthOf
  rw [show f_X5_isLeap 2000 = f_X5_isLeap 4 from by decide]
theorem e_isDate0 (ya mo da : Int) : f_X5_isDate ya mo da = 0 ∨ f_X5_isDate ya mo da = 1 ∧ 1 ≤ ya ∧ ya ≤ 9999 ∧ 1 ≤ mo ∧ mo ≤ 12 ∧ 1 ≤ da ∧ da ≤ f_X5_lengthOf ya mo := by
  unfold f_X5_isDate
  rw [e_in, e_in, e_in]
  (repeat' split) <;> omega
theorem e_num (ya mo da : Int) (h : 1 ≤ mo ∧ mo ≤ 12 ∧ 1 ≤ da ∧ da ≤ f_X5_lengthOf ya mo) : yS (ya - 1) ≤ f_X5_numberOf ya mo da ∧ f_X5_numberOf ya mo da < yS ya := by
  have q1 := n_eq ya mo da (by omega)
  have q2 := ms_le ya mo (by omega)
  have q3 := e_len ya mo
  omega
theorem e_isRule (kk aa bb cz : Int) : f_X3_isRule kk aa bb cz = f_X5_isRule kk aa bb cz := by
  have key : (if f_X0_civilNumber 2000 aa bb = -1 then (0 : Int) else 1) = if f_X5_in aa 1 12 = 0 then 0 else if f_X5_in bb 1 (f_X5_lengthOf 4 aa) = 0 then 0 else 1 := by
    have q := e_isDate0 2000 aa bb
    have q0 := y_b 2000 (by omega)
    rw [e_civil, ← e_len4]
    by_cases h1 : f_X5_isDate 2000 aa bb = 1
    · have q1 := e_num 2000 aa bb (by omega)
      rw [if_pos h1, if_neg (by omega), e_in, e_in]
      (repeat' split) <;> omega
    · rw [if_neg h1, if_pos rfl]
      have q2 : f_X5_isDate 2000 aa bb = 0 := by omega
      unfold f_X5_isDate at q2
      rw [e_in, e_in, e_in] at q2
      rw [e_in, e_in]
      clear q h1
      revert q2
      (repeat' split) <;> omega
  unfold f_X3_isRule f_X5_isRule
  rw [key]
  rw [e_in aa (-100) 100, e_in cz 1 4, e_in bb 1 7]
  unfold f_X0_isMonth f_X0_isWeekday
  rw [e_in aa 1 12]
  (repeat' split) <;> omega
/-- a rule's day for a year, told twice: the same, where it is a day -/
theorem e_day (kd ad bd cd ya n : Int) (hy : -1 ≤ ya ∧ ya ≤ 10001) (h2 : (0 ≤ kd ∧ kd ≤ 3) ∧ (kd = 1 ∧ -100 ≤ ad ∧ ad ≤ 100 ∨ kd ≠ 1 ∧ 1 ≤ ad ∧ ad ≤ 12) ∧ (kd = 1 ∨ kd = 2 ∧ 1 ≤ bd ∧ bd ≤ 7 ∨ kd ≠ 2 ∧ 1 ≤ bd ∧ bd ≤ 31) ∧ (kd ≠ 2 ∨ cd = -1 ∨ 1 ≤ cd ∧ cd ≤ 4)) (hn : 0 ≤ n) : f_X3_dayFor kd ad bd cd ya = n ↔ f_X5_dayOfRule kd ad bd cd ya = n := by
  have hd := e_isDate0 ya ad bd
  have hc := e_civil ya ad bd
  have hi := e_in ya 1 9999
  by_cases hv : 1 ≤ ya ∧ ya ≤ 9999
  · have hi1 : f_X5_in ya 1 9999 = 1 := by
      rw [hi, if_neg (by omega), if_pos (by omega)]
    have hb := y_b ya hv
    by_cases hk1 : kd = 1
    · unfold f_X3_dayFor f_X5_dayOfRule f_X3_behindEaster
      rw [if_neg (by omega), if_pos hk1, if_neg (by omega), if_pos hk1]
      by_cases h83 : ya < 1583
      · rw [if_pos h83]
        have : f_X0_easterNumber ya = -1 := by
          unfold f_X0_easterNumber
          rw [if_pos h83]
        rw [this, if_pos rfl]
        omega
      · rw [if_neg h83, e_easter ya (by omega)]
        have q := b_X5_easterOf ya (by omega)
        rw [if_neg (by omega)]
    · by_cases hk2 : kd = 2
      · unfold f_X3_dayFor f_X5_dayOfRule
        rw [if_neg (by omega), if_neg hk1, if_pos hk2, if_neg (by omega), if_neg hk1, if_pos hk2, e_nth ya ad bd cd (by omega)]
      · by_cases h1 : f_X5_isDate ya ad bd = 1
        · have q1 := e_num ya ad bd (by omega)
          rw [if_pos h1] at hc
          unfold f_X3_dayFor f_X5_dayOfRule f_X3_observed
          rw [if_neg hk1, if_neg hk2, if_neg (by omega), if_neg hk1, if_neg hk2, if_neg (by omega), hc, if_neg (by omega)]
          have w1 : f_X0_weekdayOf (f_X5_numberOf ya ad bd) = f_X5_weekdayOf (f_X5_numberOf ya ad bd) := rfl
          rw [w1]
        · rw [if_neg h1] at hc
          unfold f_X3_dayFor f_X5_dayOfRule f_X3_observed
          rw [if_neg hk1, if_neg hk2, if_neg (by omega), if_neg hk1, if_neg hk2, if_pos (by omega), hc, if_pos rfl]
          (repeat' split) <;> omega
  · have hi0 : f_X5_in ya 1 9999 = 0 := by
      rw [hi]
      (repeat' split) <;> omega
    have h1 : ¬ f_X5_isDate ya ad bd = 1 := by omega
    rw [if_neg h1] at hc
    have he : f_X0_easterNumber ya = -1 := by
      unfold f_X0_easterNumber
      by_cases h83 : ya < 1583
      · rw [if_pos h83]
      · rw [if_neg h83, if_neg (by omega)]
    have hnt := e_nthNo ya ad bd cd (by omega) (by omega)
    unfold f_X3_dayFor f_X5_dayOfRule f_X3_observed f_X3_behindEaster
    rw [if_pos hi0, hc, he, if_pos rfl, if_pos rfl]
    by_cases hk2 : kd = 2
    · rw [if_neg (by omega), if_neg (by omega), if_pos hk2, hnt (by omega) (by omega)]
      omega
    · (repeat' split) <;> omega
theorem nth_y (ya mo wd nn : Int) (h : 1 ≤ mo ∧ mo ≤ 12) : f_X0_nthNumber ya mo wd nn = -1 ∨ yS (ya - 1) ≤ f_X0_nthNumber ya mo wd nn ∧ f_X0_nthNumber ya mo wd nn < yS ya := by
  have q := ms_le ya mo h
  unfold f_X0_nthNumber
  (repeat' split) <;> omega
/-- a fixed day and an nth weekday lie in their year -/
theorem e_even (kd ad bd cd ya n : Int) (hk : kd = 0 ∨ kd = 2) (hm : 1 ≤ ad ∧ ad ≤ 12) (hn : 0 ≤ n) (h : f_X3_dayFor kd ad bd cd ya = n) : yS (ya - 1) ≤ n ∧ n < yS ya := by
  unfold f_X3_dayFor at h
  by_cases h0 : kd = 0
  · rw [if_pos h0, e_civil] at h
    have hd := e_isDate0 ya ad bd
    by_cases h1 : f_X5_isDate ya ad bd = 1
    · rw [if_pos h1] at h
      have q := e_num ya ad bd (by omega)
      omega
    · rw [if_neg h1] at h
      omega
  · rw [if_neg h0, if_neg (by omega), if_pos (by omega)] at h
    have q := nth_y ya ad bd cd hm
    omega
theorem e_rh (kf af bf zf : Nat → Int) (k : Nat) (n : Int) (hn : 0 ≤ n ∧ n ≤ 3652058) (h2 : (0 ≤ kf k ∧ kf k ≤ 3) ∧ (kf k = 1 ∧ -100 ≤ af k ∧ af k ≤ 100 ∨ kf k ≠ 1 ∧ 1 ≤ af k ∧ af k ≤ 12) ∧ (kf k = 1 ∨ kf k = 2 ∧ 1 ≤ bf k ∧ bf k ≤ 7 ∨ kf k ≠ 2 ∧ 1 ≤ bf k ∧ bf k ≤ 31) ∧ (kf k ≠ 2 ∨ zf k = -1 ∨ 1 ≤ zf k ∧ zf k ≤ 4)) : rhX3 kf af bf zf (f_X0_yearOf n) n k = rhX5 kf af bf zf (f_X5_yearOf n) n k := by
  have hy := yr_b n hn
  have hc := yS_c
  have hq := y_X0 n hn.1
  rw [← e_yearOf n (by omega)]
  have d0 := e_day (kf k) (af k) (bf k) (zf k) (f_X0_yearOf n) n (by omega) h2 hn.1
  have d1 := e_day (kf k) (af k) (bf k) (zf k) (f_X0_yearOf n - 1) n (by omega) h2 hn.1
  have d2 := e_day (kf k) (af k) (bf k) (zf k) (f_X0_yearOf n + 1) n (by omega) h2 hn.1
  have s3 := rhX3_s kf af bf zf (f_X0_yearOf n) n k
  have s5 := rhX5_s kf af bf zf (f_X0_yearOf n) n k
  by_cases hk : kf k % 2 = 1
  · rw [← d0, ← d1, ← d2] at s5
    generalize rhX3 kf af bf zf (f_X0_yearOf n) n k = a at s3 ⊢
    generalize rhX5 kf af bf zf (f_X0_yearOf n) n k = b at s5 ⊢
    omega
  · have n1 : ¬ f_X3_dayFor (kf k) (af k) (bf k) (zf k) (f_X0_yearOf n - 1) = n := by
      intro h
      have q := e_even (kf k) (af k) (bf k) (zf k) (f_X0_yearOf n - 1) n (by omega) (by omega) hn.1 h
      omega
    have n2 : ¬ f_X3_dayFor (kf k) (af k) (bf k) (zf k) (f_X0_yearOf n + 1) = n := by
      intro h
      have q := e_even (kf k) (af k) (bf k) (zf k) (f_X0_yearOf n + 1) n (by omega) (by omega) hn.1 h
      rw [show f_X0_yearOf n + 1 - 1 = f_X0_yearOf n from by omega] at q
      omega
    rw [← d0] at s5
    generalize rhX3 kf af bf zf (f_X0_yearOf n) n k = a at s3 ⊢
    generalize rhX5 kf af bf zf (f_X0_yearOf n) n k = b at s5 ⊢
    omega
theorem zfr_c (P Q : Nat → Int) : ∀ (n k : Nat), (∀ j : Nat, k ≤ j → j < k + n → P j = Q j) → zfr P n k = zfr Q n k := by
  intro n
  induction n with
  | zero =>
    intro k _
    rfl
  | succ n ih =>
    intro k h
    rw [zfr, zfr, h k (by omega) (by omega), ih (k + 1) (fun j h1 h2 => h j (by omega) (by omega))]
theorem zfr_f (kf af bf zf kg ag bg zg : Nat → Int) (y n : Int) (m : Nat) (h : ∀ j : Nat, j < m → kg j = kf j ∧ ag j = af j ∧ bg j = bf j ∧ zg j = zf j) : zfr (rhX5 kg ag bg zg y n) m 0 = zfr (rhX5 kf af bf zf y n) m 0 := by
  refine zfr_c _ _ m 0 (fun j _ hj => ?_)
  obtain ⟨h1, h2, h3, h4⟩ := h j (by omega)
  unfold rhX5
  rw [h1, h2, h3, h4]
def RKX (kf af bf zf : Nat → Int) (ru : Int) : Prop := ∀ j : Nat, (j : Int) < ru → (0 ≤ kf j ∧ kf j ≤ 3) ∧ (kf j = 1 ∧ -100 ≤ af j ∧ af j ≤ 100 ∨ kf j ≠ 1 ∧ 1 ≤ af j ∧ af j ≤ 12) ∧ (kf j = 1 ∨ kf j = 2 ∧ 1 ≤ bf j ∧ bf j ≤ 7 ∨ kf j ≠ 2 ∧ 1 ≤ bf j ∧ bf j ≤ 31) ∧ (kf j ≠ 2 ∨ zf j = -1 ∨ 1 ≤ zf j ∧ zf j ≤ 4)
theorem e_fr (kf af bf zf : Nat → Int) (ru n : Int) (hr : RKX kf af bf zf ru) (hn : 0 ≤ n ∧ n ≤ 3652058) : zfr (rhX3 kf af bf zf (f_X0_yearOf n) n) ru.toNat 0 = zfr (rhX5 kf af bf zf (f_X5_yearOf n) n) ru.toNat 0 :=
  zfr_c _ _ _ _ (fun j _ hj => e_rh kf af bf zf j n hn (hr j (by omega)))
theorem e_wk (we : Int) (kf af bf zf : Nat → Int) (ru n : Int) (hr : RKX kf af bf zf ru) (hn : 0 ≤ n ∧ n ≤ 3652058) : wkX4 we kf af bf zf ru n = wkX5 we kf af bf zf ru n := by
  unfold wkX4 wkX5
  rw [e_fr kf af bf zf ru n hr hn]
  rfl
theorem zcn_c (P Q : Int → Int) : ∀ (n : Nat) (d : Int), (∀ j : Int, d ≤ j → j < d + n → P j = Q j) → zcn P n d = zcn Q n d := by
  intro n
  induction n with
  | zero =>
    intro d _
    rfl
  | succ n ih =>
    intro d h
    rw [zcn, zcn, h d (by omega) (by omega), ih (d + 1) (fun j h1 h2 => h j (by omega) (by omega))]
theorem zmv_c (P Q : Int → Int) (st : Int) (h : ∀ j : Int, 0 ≤ j → j ≤ 3652058 → P j = Q j) : ∀ (fu : Nat) (n lf : Int), zmv P st fu n lf = zmv Q st fu n lf := by
  intro fu
  induction fu with
  | zero =>
    intro n lf
    rfl
  | succ fu ih =>
    intro n lf
    rw [zmv, zmv]
    by_cases h1 : lf ≤ 0
    · rw [if_pos h1, if_pos h1]
    · rw [if_neg h1, if_neg h1]
      by_cases h2 : n + st < 0 ∨ 3652058 < n + st
      · rw [if_pos h2, if_pos h2]
      · rw [if_neg h2, if_neg h2, h (n + st) (by omega) (by omega), ih]
theorem wk_f (we : Int) (kf af bf zf kg ag bg zg : Nat → Int) (ru n : Int) (h : ∀ j : Nat, (j : Int) < ru → kg j = kf j ∧ ag j = af j ∧ bg j = bf j ∧ zg j = zf j) : wkX5 we kg ag bg zg ru n = wkX5 we kf af bf zf ru n := by
  unfold wkX5
  rw [zfr_f kf af bf zf kg ag bg zg (f_X5_yearOf n) n ru.toNat (fun j hj => h j (by omega))]
