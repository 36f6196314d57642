/-! THE CLASS AND THE REFERENCE AGREE: rules, working days, reading -/
theorem e_len4 (aa : Int) : f_X5_lengthOf 2000 aa = f_X5_lengthOf 4 aa := by
  unfold f_X5_lengthOf
  rw [show f_X5_isLeap 2000 = f_X5_isLeap 4 from by decide]
theorem e_isDate0 (ya mo da : Int) : f_X5_isDate ya mo da = 0 ∨ f_X5_isDate ya mo da = 1 ∧ 1 ≤ ya ∧ ya ≤ 9999 ∧ 1 ≤ mo ∧ mo ≤ 12 ∧ 1 ≤ da ∧ da ≤ f_X5_lengthOf ya mo := by
  unfold f_X5_isDate
  rw [e_in, e_in, e_in]
  (repeat' split) <;> omega
theorem e_num (ya mo da : Int) (h : 1 ≤ mo ∧ mo ≤ 12 ∧ 1 ≤ da ∧ da ≤ f_X5_lengthOf ya mo) : yS (ya - 1) ≤ f_X5_numberOf ya mo da ∧ f_X5_numberOf ya mo da < yS ya := by
  have q1 := n_eq ya mo da (by omega)
  have q2 := ms_le ya mo (by omega)
  have q3 := e_len ya mo
  omega
theorem e_isRule (kk aa bb cz : Int) : f_X3_isRule kk aa bb cz = f_X5_isRule kk aa bb cz := by
  have key : (if f_X0_civilNumber 2000 aa bb = -1 then (0 : Int) else 1) = if f_X5_in aa 1 12 = 0 then 0 else if f_X5_in bb 1 (f_X5_lengthOf 4 aa) = 0 then 0 else 1 := by
    have q := e_isDate0 2000 aa bb
    have q0 := y_b 2000 (by omega)
    rw [e_civil, ← e_len4]
    by_cases h1 : f_X5_isDate 2000 aa bb = 1
    · have q1 := e_num 2000 aa bb (by omega)
      rw [if_pos h1, if_neg (by omega), e_in, e_in]
      (repeat' split) <;> omega
    · rw [if_neg h1, if_pos rfl]
      have q2 : f_X5_isDate 2000 aa bb = 0 := by omega
      unfold f_X5_isDate at q2
      rw [e_in, e_in, e_in] at q2
      rw [e_in, e_in]
      clear q h1
      revert q2
      (repeat' split) <;> omega
  unfold f_X3_isRule f_X5_isRule
  rw [key]
  rw [e_in aa (-100) 100, e_in cz 1 4, e_in bb 1 7]
  unfold f_X0_isMonth f_X0_isWeekday
  rw [e_in aa 1 12]
  (repeat' split) <;> omega
theorem e_civ2 (ya mo da : Int) : f_X0_civilNumber ya mo da = if f_X5_isDate ya mo da = 0 then -1 else f_X5_numberOf ya mo da := by
  rw [e_civil]
  have q := e_isDate0 ya mo da
  by_cases h : f_X5_isDate ya mo da = 1
  · rw [if_pos h, if_neg (by omega)]
  · rw [if_neg h, if_pos (by omega)]
theorem c9_eno (ya : Int) (h : ¬ (1583 ≤ ya ∧ ya ≤ 9999)) : f_X0_easterNumber ya = -1 := by
  unfold f_X0_easterNumber
  by_cases h83 : ya < 1583
  · rw [if_pos h83]
  · rw [if_neg h83, if_neg (show ¬ ya ≤ 9999 by omega)]
theorem e_in0 (ya : Int) : f_X5_in ya 1 9999 = 0 ∧ (ya < 1 ∨ 9999 < ya) ∨ f_X5_in ya 1 9999 = 1 ∧ 1 ≤ ya ∧ ya ≤ 9999 := by
  rw [e_in]
  (repeat' split) <;> omega
theorem e_day0 (ad bd cd ya n : Int) (hn : 0 ≤ n) : f_X3_dayFor 0 ad bd cd ya = n ↔ f_X5_dayOfRule 0 ad bd cd ya = n := by
  have l : f_X3_dayFor 0 ad bd cd ya = f_X0_civilNumber ya ad bd := by
    unfold f_X3_dayFor
    rw [if_pos rfl]
  rw [l, e_civ2]
  by_cases hv : f_X5_in ya 1 9999 = 0
  · have r : f_X5_dayOfRule 0 ad bd cd ya = -1000 := by
      unfold f_X5_dayOfRule
      rw [if_pos hv]
    have h : f_X5_isDate ya ad bd = 0 := by
      unfold f_X5_isDate
      rw [if_pos hv]
    rw [r, if_pos h]
    omega
  · have r : f_X5_dayOfRule 0 ad bd cd ya = if f_X5_isDate ya ad bd = 0 then -1000 else f_X5_numberOf ya ad bd := by
      unfold f_X5_dayOfRule
      rw [if_neg hv, if_neg (show ¬ (0 : Int) = 1 by omega), if_neg (show ¬ (0 : Int) = 2 by omega), if_pos (show (0 : Int) = 0 from rfl)]
    rw [r]
    by_cases h : f_X5_isDate ya ad bd = 0
    · rw [if_pos h, if_pos h]
      omega
    · rw [if_neg h, if_neg h]
theorem e_day1 (ad bd cd ya n : Int) (hn : 0 ≤ n) : f_X3_dayFor 1 ad bd cd ya = n ↔ f_X5_dayOfRule 1 ad bd cd ya = n := by
  have l : f_X3_dayFor 1 ad bd cd ya = if f_X0_easterNumber ya = -1 then -1 else f_X0_easterNumber ya + ad := by
    unfold f_X3_dayFor
    rw [if_neg (show ¬ (1 : Int) = 0 by omega), if_pos (show (1 : Int) = 1 from rfl)]
    rfl
  have hi := e_in0 ya
  rw [l]
  by_cases hv : f_X5_in ya 1 9999 = 0
  · have r : f_X5_dayOfRule 1 ad bd cd ya = -1000 := by
      unfold f_X5_dayOfRule
      rw [if_pos hv]
    have h : f_X0_easterNumber ya = -1 := c9_eno ya (by omega)
    rw [r, if_pos h]
    omega
  · have r : f_X5_dayOfRule 1 ad bd cd ya = if ya < 1583 then -1000 else f_X5_easterOf ya + ad := by
      unfold f_X5_dayOfRule
      rw [if_neg hv, if_pos (show (1 : Int) = 1 from rfl)]
    rw [r]
    by_cases h : ya < 1583
    · have h9 : f_X0_easterNumber ya = -1 := c9_eno ya (by omega)
      rw [if_pos h, if_pos h9]
      omega
    · have q := b_X5_easterOf ya (by omega)
      rw [e_easter ya (by omega), if_neg h, if_neg (by omega)]
theorem e_day2 (ad bd cd ya n : Int) (hy : -1 ≤ ya ∧ ya ≤ 10001) (hn : 0 ≤ n) (h1 : 1 ≤ ad ∧ ad ≤ 12) (h2 : 1 ≤ bd ∧ bd ≤ 7) (h3 : -5 ≤ cd ∧ cd ≤ 5) (h4 : cd ≠ 0) : f_X3_dayFor 2 ad bd cd ya = n ↔ f_X5_dayOfRule 2 ad bd cd ya = n := by
  have l : f_X3_dayFor 2 ad bd cd ya = f_X0_nthNumber ya ad bd cd := by
    unfold f_X3_dayFor
    rw [if_neg (show ¬ (2 : Int) = 0 by omega), if_neg (show ¬ (2 : Int) = 1 by omega), if_pos (show (2 : Int) = 2 from rfl)]
  have hi := e_in0 ya
  rw [l]
  by_cases hv : f_X5_in ya 1 9999 = 0
  · have r : f_X5_dayOfRule 2 ad bd cd ya = -1000 := by
      unfold f_X5_dayOfRule
      rw [if_pos hv]
    rw [r, e_nthNo ya ad bd cd (by omega) (by omega) (by omega) (by omega)]
    omega
  · have r : f_X5_dayOfRule 2 ad bd cd ya = f_X5_nthOf ya ad bd cd := by
      unfold f_X5_dayOfRule
      rw [if_neg hv, if_neg (show ¬ (2 : Int) = 1 by omega), if_pos (show (2 : Int) = 2 from rfl)]
    rw [r, e_nth ya ad bd cd (by omega)]
theorem e_day3 (ad bd cd ya n : Int) (hn : 0 ≤ n) : f_X3_dayFor 3 ad bd cd ya = n ↔ f_X5_dayOfRule 3 ad bd cd ya = n := by
  have l : f_X3_dayFor 3 ad bd cd ya = f_X3_observed (f_X0_civilNumber ya ad bd) := by
    unfold f_X3_dayFor
    rw [if_neg (show ¬ (3 : Int) = 0 by omega), if_neg (show ¬ (3 : Int) = 1 by omega), if_neg (show ¬ (3 : Int) = 2 by omega)]
  have hd := e_isDate0 ya ad bd
  rw [l, e_civ2]
  by_cases h : f_X5_isDate ya ad bd = 0
  · have r : f_X5_dayOfRule 3 ad bd cd ya = -1000 := by
      unfold f_X5_dayOfRule
      by_cases hv : f_X5_in ya 1 9999 = 0
      · rw [if_pos hv]
      · rw [if_neg hv, if_neg (show ¬ (3 : Int) = 1 by omega), if_neg (show ¬ (3 : Int) = 2 by omega), if_pos h]
    have l2 : f_X3_observed (-1) = -1 := by
      unfold f_X3_observed
      rw [if_pos rfl]
    rw [if_pos h, r, l2]
    omega
  · have q1 := e_num ya ad bd (by omega)
    have q2 := y_b ya (by omega)
    have hi := e_in0 ya
    have r : f_X5_dayOfRule 3 ad bd cd ya = if f_X5_weekdayOf (f_X5_numberOf ya ad bd) = 6 then f_X5_numberOf ya ad bd - 1 else if f_X5_weekdayOf (f_X5_numberOf ya ad bd) = 7 then f_X5_numberOf ya ad bd + 1 else f_X5_numberOf ya ad bd := by
      unfold f_X5_dayOfRule
      rw [if_neg (show ¬ f_X5_in ya 1 9999 = 0 by omega), if_neg (show ¬ (3 : Int) = 1 by omega), if_neg (show ¬ (3 : Int) = 2 by omega), if_neg h, if_neg (show ¬ (3 : Int) = 0 by omega)]
    have l2 : f_X3_observed (f_X5_numberOf ya ad bd) = if f_X5_weekdayOf (f_X5_numberOf ya ad bd) = 6 then f_X5_numberOf ya ad bd - 1 else if f_X5_weekdayOf (f_X5_numberOf ya ad bd) = 7 then f_X5_numberOf ya ad bd + 1 else f_X5_numberOf ya ad bd := by
      unfold f_X3_observed
      rw [if_neg (by omega)]
      rfl
    rw [if_neg h, r, l2]
/-- a rule's day for a year, told twice: the same, where it is a day -/
theorem e_day (kd ad bd cd ya n : Int) (hy : -1 ≤ ya ∧ ya ≤ 10001) (h2 : (0 ≤ kd ∧ kd ≤ 3) ∧ (kd = 1 ∧ -100 ≤ ad ∧ ad ≤ 100 ∨ kd ≠ 1 ∧ 1 ≤ ad ∧ ad ≤ 12) ∧ (kd = 1 ∨ kd = 2 ∧ 1 ≤ bd ∧ bd ≤ 7 ∨ kd ≠ 2 ∧ 1 ≤ bd ∧ bd ≤ 31) ∧ (kd ≠ 2 ∨ cd = -1 ∨ 1 ≤ cd ∧ cd ≤ 4)) (hn : 0 ≤ n) : f_X3_dayFor kd ad bd cd ya = n ↔ f_X5_dayOfRule kd ad bd cd ya = n := by
  have hk : kd = 0 ∨ kd = 1 ∨ kd = 2 ∨ kd = 3 := by omega
  rcases hk with rfl | rfl | rfl | rfl
  · exact e_day0 ad bd cd ya n hn
  · exact e_day1 ad bd cd ya n hn
  · exact e_day2 ad bd cd ya n hy hn (by omega) (by omega) (by omega) (by omega)
  · exact e_day3 ad bd cd ya n hn
theorem nth_y (ya mo wd nn : Int) (h : 1 ≤ mo ∧ mo ≤ 12) : f_X0_nthNumber ya mo wd nn = -1 ∨ yS (ya - 1) ≤ f_X0_nthNumber ya mo wd nn ∧ f_X0_nthNumber ya mo wd nn < yS ya := by
  have q := ms_le ya mo h
  unfold f_X0_nthNumber
  (repeat' split) <;> omega
/-- a fixed day and an nth weekday lie in their year -/
theorem e_even (kd ad bd cd ya n : Int) (hk : kd = 0 ∨ kd = 2) (hm : 1 ≤ ad ∧ ad ≤ 12) (hn : 0 ≤ n) (h : f_X3_dayFor kd ad bd cd ya = n) : yS (ya - 1) ≤ n ∧ n < yS ya := by
  unfold f_X3_dayFor at h
  by_cases h0 : kd = 0
  · rw [if_pos h0, e_civil] at h
    have hd := e_isDate0 ya ad bd
    by_cases h1 : f_X5_isDate ya ad bd = 1
    · rw [if_pos h1] at h
      have q := e_num ya ad bd (by omega)
      omega
    · rw [if_neg h1] at h
      omega
  · rw [if_neg h0, if_neg (by omega), if_pos (by omega)] at h
    have q := nth_y ya ad bd cd hm
    omega
theorem e_rh (kf af bf zf : Nat → Int) (k : Nat) (n : Int) (hn : 0 ≤ n ∧ n ≤ 3652058) (h2 : (0 ≤ kf k ∧ kf k ≤ 3) ∧ (kf k = 1 ∧ -100 ≤ af k ∧ af k ≤ 100 ∨ kf k ≠ 1 ∧ 1 ≤ af k ∧ af k ≤ 12) ∧ (kf k = 1 ∨ kf k = 2 ∧ 1 ≤ bf k ∧ bf k ≤ 7 ∨ kf k ≠ 2 ∧ 1 ≤ bf k ∧ bf k ≤ 31) ∧ (kf k ≠ 2 ∨ zf k = -1 ∨ 1 ≤ zf k ∧ zf k ≤ 4)) : rhX3 kf af bf zf (f_X0_yearOf n) n k = rhX5 kf af bf zf (f_X5_yearOf n) n k := by
  have hy := yr_b n hn
  have hc := yS_c
  have hq := y_X0 n hn.1
  rw [← e_yearOf n (by omega)]
  have d0 := e_day (kf k) (af k) (bf k) (zf k) (f_X0_yearOf n) n (by omega) h2 hn.1
  have d1 := e_day (kf k) (af k) (bf k) (zf k) (f_X0_yearOf n - 1) n (by omega) h2 hn.1
  have d2 := e_day (kf k) (af k) (bf k) (zf k) (f_X0_yearOf n + 1) n (by omega) h2 hn.1
  have s3 := rhX3_s kf af bf zf (f_X0_yearOf n) n k
  have s5 := rhX5_s kf af bf zf (f_X0_yearOf n) n k
  have hm : ¬ kf k % 2 = 1 → (kf k = 0 ∨ kf k = 2) ∧ 1 ≤ af k ∧ af k ≤ 12 := by
    intro h
    clear s3 s5 d0 d1 d2
    omega
  clear h2
  by_cases hk : kf k % 2 = 1
  · rw [← d0, ← d1, ← d2] at s5
    generalize rhX3 kf af bf zf (f_X0_yearOf n) n k = a at s3 ⊢
    generalize rhX5 kf af bf zf (f_X0_yearOf n) n k = b at s5 ⊢
    omega
  · have n1 : ¬ f_X3_dayFor (kf k) (af k) (bf k) (zf k) (f_X0_yearOf n - 1) = n := by
      intro h
      have q := e_even (kf k) (af k) (bf k) (zf k) (f_X0_yearOf n - 1) n (hm hk).1 (hm hk).2 hn.1 h
      clear s3 s5 d0 d1 d2
      omega
    have n2 : ¬ f_X3_dayFor (kf k) (af k) (bf k) (zf k) (f_X0_yearOf n + 1) = n := by
      intro h
      have q := e_even (kf k) (af k) (bf k) (zf k) (f_X0_yearOf n + 1) n (hm hk).1 (hm hk).2 hn.1 h
      rw [show f_X0_yearOf n + 1 - 1 = f_X0_yearOf n from by omega] at q
      clear s3 s5 d0 d1 d2
      omega
    rw [← d0] at s5
    generalize rhX3 kf af bf zf (f_X0_yearOf n) n k = a at s3 ⊢
    generalize rhX5 kf af bf zf (f_X0_yearOf n) n k = b at s5 ⊢
    omega
theorem zfr_c (P Q : Nat → Int) : ∀ (n k : Nat), (∀ j : Nat, k ≤ j → j < k + n → P j = Q j) → zfr P n k = zfr Q n k := by
  intro n
  induction n with
  | zero =>
    intro k _
    rfl
  | succ n ih =>
    intro k h
    rw [zfr, zfr, h k (by omega) (by omega), ih (k + 1) (fun j h1 h2 => h j (by omega) (by omega))]
theorem zfr_f (kf af bf zf kg ag bg zg : Nat → Int) (y n : Int) (m : Nat) (h : ∀ j : Nat, j < m → kg j = kf j ∧ ag j = af j ∧ bg j = bf j ∧ zg j = zf j) : zfr (rhX5 kg ag bg zg y n) m 0 = zfr (rhX5 kf af bf zf y n) m 0 := by
  refine zfr_c _ _ m 0 (fun j _ hj => ?_)
  obtain ⟨h1, h2, h3, h4⟩ := h j (by omega)
  unfold rhX5
  rw [h1, h2, h3, h4]
def RKX (kf af bf zf : Nat → Int) (ru : Int) : Prop := ∀ j : Nat, (j : Int) < ru → (0 ≤ kf j ∧ kf j ≤ 3) ∧ (kf j = 1 ∧ -100 ≤ af j ∧ af j ≤ 100 ∨ kf j ≠ 1 ∧ 1 ≤ af j ∧ af j ≤ 12) ∧ (kf j = 1 ∨ kf j = 2 ∧ 1 ≤ bf j ∧ bf j ≤ 7 ∨ kf j ≠ 2 ∧ 1 ≤ bf j ∧ bf j ≤ 31) ∧ (kf j ≠ 2 ∨ zf j = -1 ∨ 1 ≤ zf j ∧ zf j ≤ 4)
theorem e_fr (kf af bf zf : Nat → Int) (ru n : Int) (hr : RKX kf af bf zf ru) (hn : 0 ≤ n ∧ n ≤ 3652058) : zfr (rhX3 kf af bf zf (f_X0_yearOf n) n) ru.toNat 0 = zfr (rhX5 kf af bf zf (f_X5_yearOf n) n) ru.toNat 0 :=
  zfr_c _ _ _ _ (fun j _ hj => e_rh kf af bf zf j n hn (hr j (by omega)))
theorem e_wk (we : Int) (kf af bf zf : Nat → Int) (ru n : Int) (hr : RKX kf af bf zf ru) (hn : 0 ≤ n ∧ n ≤ 3652058) : wkX4 we kf af bf zf ru n = wkX5 we kf af bf zf ru n := by
  unfold wkX4 wkX5
  rw [e_fr kf af bf zf ru n hr hn]
  rfl
theorem zcn_c (P Q : Int → Int) : ∀ (n : Nat) (d : Int), (∀ j : Int, d ≤ j → j < d + n → P j = Q j) → zcn P n d = zcn Q n d := by
  intro n
  induction n with
  | zero =>
    intro d _
    rfl
  | succ n ih =>
    intro d h
    rw [zcn, zcn, h d (by omega) (by omega), ih (d + 1) (fun j h1 h2 => h j (by omega) (by omega))]
theorem zmv_c (P Q : Int → Int) (st : Int) (h : ∀ j : Int, 0 ≤ j → j ≤ 3652058 → P j = Q j) : ∀ (fu : Nat) (n lf : Int), zmv P st fu n lf = zmv Q st fu n lf := by
  intro fu
  induction fu with
  | zero =>
    intro n lf
    rfl
  | succ fu ih =>
    intro n lf
    rw [zmv, zmv]
    by_cases h1 : lf ≤ 0
    · rw [if_pos h1, if_pos h1]
    · rw [if_neg h1, if_neg h1]
      by_cases h2 : n + st < 0 ∨ 3652058 < n + st
      · rw [if_pos h2, if_pos h2]
      · rw [if_neg h2, if_neg h2, h (n + st) (by omega) (by omega), ih]
theorem wk_f (we : Int) (kf af bf zf kg ag bg zg : Nat → Int) (ru n : Int) (h : ∀ j : Nat, (j : Int) < ru → kg j = kf j ∧ ag j = af j ∧ bg j = bf j ∧ zg j = zf j) : wkX5 we kg ag bg zg ru n = wkX5 we kf af bf zf ru n := by
  unfold wkX5
  rw [zfr_f kf af bf zf kg ag bg zg (f_X5_yearOf n) n ru.toNat (fun j hj => h j (by omega))]
theorem zpf_c (P Q : Nat → Int) : ∀ (n k : Nat), (∀ j : Nat, k ≤ j → j < k + n → P j = Q j) → zpf P n k = zpf Q n k := by
  intro n
  induction n with
  | zero =>
    intro k _
    rfl
  | succ n ih =>
    intro k h
    rw [zpf, zpf, h k (by omega) (by omega), ih (k + 1) (fun j h1 h2 => h j (by omega) (by omega))]
theorem zpf_n (P : Nat → Int) (n k : Nat) : zpf P (n + 1) k = if P k = 1 then zpf P n (k + 1) else (k : Int) := rfl
theorem zpf_cut (P : Nat → Int) (L : Nat) (h : ∀ j : Nat, L ≤ j → P j ≠ 1) : ∀ (n k : Nat), k ≤ L → zpf P n k = zpf P (min n (L - k)) k := by
  intro n
  induction n with
  | zero =>
    intro k hk
    rw [show min 0 (L - k) = 0 from by omega]
  | succ n ih =>
    intro k hk
    by_cases e : k = L
    · rw [show min (n + 1) (L - k) = 0 from by omega, zpf_n, if_neg (h k (by omega))]
      rfl
    · rw [show min (n + 1) (L - k) = min n (L - (k + 1)) + 1 from by omega, zpf_n, zpf_n, ih (k + 1) (by omega)]
theorem zpf_all (P : Nat → Int) : ∀ (n k j : Nat), k ≤ j → (j : Int) < zpf P n k → P j = 1 := by
  intro n
  induction n with
  | zero =>
    intro k j h1 h2
    rw [zpf] at h2
    omega
  | succ n ih =>
    intro k j h1 h2
    rw [zpf_n] at h2
    by_cases e : P k = 1
    · rw [if_pos e] at h2
      by_cases e2 : j = k
      · rw [e2]
        exact e
      · exact ih (k + 1) j (by omega) h2
    · rw [if_neg e] at h2
      omega
theorem fit_out (tx : Int) (tf : Nat → Int) (k : Nat) (h : f_X5_textLength tx ≤ (k : Int)) : pX5fit tx tf k ≠ 1 := by
  unfold pX5fit f_X5_fits
  rw [if_neg (by omega)]
  omega
theorem e_fit0_0 (tf : Nat → Int) : pX5fit 0 tf 0 = pX1 tf pat0 0 := rfl
theorem e_fit0_1 (tf : Nat → Int) : pX5fit 0 tf 1 = pX1 tf pat0 1 := rfl
theorem e_fit0_2 (tf : Nat → Int) : pX5fit 0 tf 2 = pX1 tf pat0 2 := rfl
theorem e_fit0_3 (tf : Nat → Int) : pX5fit 0 tf 3 = pX1 tf pat0 3 := rfl
theorem e_fit0_4 (tf : Nat → Int) : pX5fit 0 tf 4 = pX1 tf pat0 4 := rfl
theorem e_fit0_5 (tf : Nat → Int) : pX5fit 0 tf 5 = pX1 tf pat0 5 := rfl
theorem e_fit0_6 (tf : Nat → Int) : pX5fit 0 tf 6 = pX1 tf pat0 6 := rfl
theorem e_fit0_7 (tf : Nat → Int) : pX5fit 0 tf 7 = pX1 tf pat0 7 := rfl
theorem e_fit0_8 (tf : Nat → Int) : pX5fit 0 tf 8 = pX1 tf pat0 8 := rfl
theorem e_fit0_9 (tf : Nat → Int) : pX5fit 0 tf 9 = pX1 tf pat0 9 := rfl
theorem e_fit0 (tf : Nat → Int) : ∀ k : Nat, k < 10 → pX5fit 0 tf k = pX1 tf pat0 k
  | 0, _ => e_fit0_0 tf
  | 1, _ => e_fit0_1 tf
  | 2, _ => e_fit0_2 tf
  | 3, _ => e_fit0_3 tf
  | 4, _ => e_fit0_4 tf
  | 5, _ => e_fit0_5 tf
  | 6, _ => e_fit0_6 tf
  | 7, _ => e_fit0_7 tf
  | 8, _ => e_fit0_8 tf
  | 9, _ => e_fit0_9 tf
  | k + 10, h => absurd h (by omega)
theorem e_b0 (tf : Nat → Int) (tl : Int) (h : 0 ≤ tl ∧ tl ≤ 20) : bX5 tf tl 0 = zpf (pX1 tf pat0) (min tl ((10 : Nat) : Int)).toNat 0 := by
  show zpf (pX5fit 0 tf) tl.toNat 0 = _
  have hl : f_X5_textLength 0 = 10 := by decide
  rw [zpf_cut (pX5fit 0 tf) 10 (fun j hj => fit_out 0 tf j (by omega)) tl.toNat 0 (by omega), show min tl.toNat (10 - 0) = (min tl ((10 : Nat) : Int)).toNat from by omega]
  exact zpf_c _ _ _ _ (fun j _ hj => e_fit0 tf j (by omega))
theorem e_fit1_0 (tf : Nat → Int) : pX5fit 1 tf 0 = pX1 tf pat1 0 := rfl
theorem e_fit1_1 (tf : Nat → Int) : pX5fit 1 tf 1 = pX1 tf pat1 1 := rfl
theorem e_fit1_2 (tf : Nat → Int) : pX5fit 1 tf 2 = pX1 tf pat1 2 := rfl
theorem e_fit1_3 (tf : Nat → Int) : pX5fit 1 tf 3 = pX1 tf pat1 3 := rfl
theorem e_fit1_4 (tf : Nat → Int) : pX5fit 1 tf 4 = pX1 tf pat1 4 := rfl
theorem e_fit1_5 (tf : Nat → Int) : pX5fit 1 tf 5 = pX1 tf pat1 5 := rfl
theorem e_fit1_6 (tf : Nat → Int) : pX5fit 1 tf 6 = pX1 tf pat1 6 := rfl
theorem e_fit1_7 (tf : Nat → Int) : pX5fit 1 tf 7 = pX1 tf pat1 7 := rfl
theorem e_fit1_8 (tf : Nat → Int) : pX5fit 1 tf 8 = pX1 tf pat1 8 := rfl
theorem e_fit1_9 (tf : Nat → Int) : pX5fit 1 tf 9 = pX1 tf pat1 9 := rfl
theorem e_fit1 (tf : Nat → Int) : ∀ k : Nat, k < 10 → pX5fit 1 tf k = pX1 tf pat1 k
  | 0, _ => e_fit1_0 tf
  | 1, _ => e_fit1_1 tf
  | 2, _ => e_fit1_2 tf
  | 3, _ => e_fit1_3 tf
  | 4, _ => e_fit1_4 tf
  | 5, _ => e_fit1_5 tf
  | 6, _ => e_fit1_6 tf
  | 7, _ => e_fit1_7 tf
  | 8, _ => e_fit1_8 tf
  | 9, _ => e_fit1_9 tf
  | k + 10, h => absurd h (by omega)
theorem e_b1 (tf : Nat → Int) (tl : Int) (h : 0 ≤ tl ∧ tl ≤ 20) : bX5 tf tl 1 = zpf (pX1 tf pat1) (min tl ((10 : Nat) : Int)).toNat 0 := by
  show zpf (pX5fit 1 tf) tl.toNat 0 = _
  have hl : f_X5_textLength 1 = 10 := by decide
  rw [zpf_cut (pX5fit 1 tf) 10 (fun j hj => fit_out 1 tf j (by omega)) tl.toNat 0 (by omega), show min tl.toNat (10 - 0) = (min tl ((10 : Nat) : Int)).toNat from by omega]
  exact zpf_c _ _ _ _ (fun j _ hj => e_fit1 tf j (by omega))
theorem e_fit2_0 (tf : Nat → Int) : pX5fit 2 tf 0 = pX1 tf pat2 0 := rfl
theorem e_fit2_1 (tf : Nat → Int) : pX5fit 2 tf 1 = pX1 tf pat2 1 := rfl
theorem e_fit2_2 (tf : Nat → Int) : pX5fit 2 tf 2 = pX1 tf pat2 2 := rfl
theorem e_fit2_3 (tf : Nat → Int) : pX5fit 2 tf 3 = pX1 tf pat2 3 := rfl
theorem e_fit2_4 (tf : Nat → Int) : pX5fit 2 tf 4 = pX1 tf pat2 4 := rfl
theorem e_fit2_5 (tf : Nat → Int) : pX5fit 2 tf 5 = pX1 tf pat2 5 := rfl
theorem e_fit2_6 (tf : Nat → Int) : pX5fit 2 tf 6 = pX1 tf pat2 6 := rfl
theorem e_fit2_7 (tf : Nat → Int) : pX5fit 2 tf 7 = pX1 tf pat2 7 := rfl
theorem e_fit2 (tf : Nat → Int) : ∀ k : Nat, k < 8 → pX5fit 2 tf k = pX1 tf pat2 k
  | 0, _ => e_fit2_0 tf
  | 1, _ => e_fit2_1 tf
  | 2, _ => e_fit2_2 tf
  | 3, _ => e_fit2_3 tf
  | 4, _ => e_fit2_4 tf
  | 5, _ => e_fit2_5 tf
  | 6, _ => e_fit2_6 tf
  | 7, _ => e_fit2_7 tf
  | k + 8, h => absurd h (by omega)
theorem e_b2 (tf : Nat → Int) (tl : Int) (h : 0 ≤ tl ∧ tl ≤ 20) : bX5 tf tl 2 = zpf (pX1 tf pat2) (min tl ((8 : Nat) : Int)).toNat 0 := by
  show zpf (pX5fit 2 tf) tl.toNat 0 = _
  have hl : f_X5_textLength 2 = 8 := by decide
  rw [zpf_cut (pX5fit 2 tf) 8 (fun j hj => fit_out 2 tf j (by omega)) tl.toNat 0 (by omega), show min tl.toNat (8 - 0) = (min tl ((8 : Nat) : Int)).toNat from by omega]
  exact zpf_c _ _ _ _ (fun j _ hj => e_fit2 tf j (by omega))
theorem e_ex (tf : Nat → Int) (n m : Nat) : ¬ (zpf (pX1 tf pat0) n 0 = 10 ∧ zpf (pX1 tf pat1) m 0 = 10) := by
  intro ⟨h0, h1⟩
  have q0 := zpf_all (pX1 tf pat0) n 0 5 (by omega) (by omega)
  have q1 := zpf_all (pX1 tf pat1) m 0 5 (by omega) (by omega)
  have p0 : pat0 5 = 48 := rfl
  have p1 : pat1 5 = 87 := rfl
  unfold pX1 at q0 q1
  rw [p0] at q0
  rw [p1] at q1
  unfold f_X1_fits at q0 q1
  rw [if_pos rfl] at q0
  rw [if_neg (by omega)] at q1
  by_cases e : tf 5 = 87
  · rw [if_neg (by omega), if_neg (by omega)] at q0
    omega
  · rw [if_neg e] at q1
    omega
theorem e_typed (tf : Nat → Int) (tl : Int) (h : 0 ≤ tl ∧ tl ≤ 20) : f_X4_typedText tf tl = if ztx (bX5 tf tl) lX5 tl 3 = -1 then -1 - zfa (bX5 tf tl) 3 else ztx (bX5 tf tl) lX5 tl 3 := by
  have hz0 := zpf_b (pX1 tf pat0) (min tl ((10 : Nat) : Int)).toNat 0
  have hz1 := zpf_b (pX1 tf pat1) (min tl ((10 : Nat) : Int)).toNat 0
  have hz2 := zpf_b (pX1 tf pat2) (min tl ((8 : Nat) : Int)).toNat 0
  have hx := e_ex tf (min tl ((10 : Nat) : Int)).toNat (min tl ((10 : Nat) : Int)).toNat
  have l0 : lX5 0 = 10 := by decide
  have l1 : lX5 1 = 10 := by decide
  have l2 : lX5 2 = 8 := by decide
  have t3 : ztx (bX5 tf tl) lX5 tl 3 = if bX5 tf tl 2 = tl ∧ bX5 tf tl 2 = lX5 2 then 2 else if bX5 tf tl 1 = tl ∧ bX5 tf tl 1 = lX5 1 then 1 else if bX5 tf tl 0 = tl ∧ bX5 tf tl 0 = lX5 0 then 0 else -1 := rfl
  have f3 : zfa (bX5 tf tl) 3 = if (if (if (0 : Int) < bX5 tf tl 0 then bX5 tf tl 0 else 0) < bX5 tf tl 1 then bX5 tf tl 1 else (if (0 : Int) < bX5 tf tl 0 then bX5 tf tl 0 else 0)) < bX5 tf tl 2 then bX5 tf tl 2 else (if (if (0 : Int) < bX5 tf tl 0 then bX5 tf tl 0 else 0) < bX5 tf tl 1 then bX5 tf tl 1 else (if (0 : Int) < bX5 tf tl 0 then bX5 tf tl 0 else 0)) := rfl
  rw [l0, l1, l2, e_b0 tf tl h, e_b1 tf tl h, e_b2 tf tl h] at t3
  rw [e_b0 tf tl h, e_b1 tf tl h, e_b2 tf tl h] at f3
  generalize hT : ztx (bX5 tf tl) lX5 tl 3 = T at t3 ⊢
  generalize hF : zfa (bX5 tf tl) 3 = F at f3 ⊢
  unfold f_X4_typedText
  generalize zpf (pX1 tf pat0) (min tl ((10 : Nat) : Int)).toNat 0 = z0 at hz0 hx t3 f3 ⊢
  generalize zpf (pX1 tf pat1) (min tl ((10 : Nat) : Int)).toNat 0 = z1 at hz1 hx t3 f3 ⊢
  generalize zpf (pX1 tf pat2) (min tl ((8 : Nat) : Int)).toNat 0 = z2 at hz2 t3 f3 ⊢
  clear l0 l1 l2 hT hF
  have hf : F = max (max (max 0 z0) z1) z2 := by
    rw [f3]
    clear t3 f3 hx
    by_cases c0 : 0 < z0
    · rw [if_pos c0]
      by_cases c1 : z0 < z1
      · rw [if_pos c1]
        split <;> omega
      · rw [if_neg c1]
        split <;> omega
    · rw [if_neg c0]
      by_cases c1 : (0 : Int) < z1
      · rw [if_pos c1]
        split <;> omega
      · rw [if_neg c1]
        split <;> omega
  have ht : (T = 2 ∧ z2 = tl ∧ z2 = 8) ∨ (T = 1 ∧ ¬ (z2 = tl ∧ z2 = 8) ∧ z1 = tl ∧ z1 = 10) ∨ (T = 0 ∧ ¬ (z2 = tl ∧ z2 = 8) ∧ ¬ (z1 = tl ∧ z1 = 10) ∧ z0 = tl ∧ z0 = 10) ∨ (T = -1 ∧ ¬ (z2 = tl ∧ z2 = 8) ∧ ¬ (z1 = tl ∧ z1 = 10) ∧ ¬ (z0 = tl ∧ z0 = 10)) := by
    rw [t3]
    clear t3 f3 hx hf
    by_cases c2 : z2 = tl ∧ z2 = 8
    · rw [if_pos c2]
      omega
    · rw [if_neg c2]
      by_cases c1 : z1 = tl ∧ z1 = 10
      · rw [if_pos c1]
        omega
      · rw [if_neg c1]
        by_cases c0 : z0 = tl ∧ z0 = 10
        · rw [if_pos c0]
          omega
        · rw [if_neg c0]
          omega
  clear t3 f3
  rw [hf]
  clear hf
  have hg : ∀ a : Int, (if T = -1 then -1 - a else T) = a ∨ True := fun _ => Or.inr trivial
  clear hg
  rcases ht with ⟨rfl, ha⟩ | ⟨rfl, ha⟩ | ⟨rfl, ha⟩ | ⟨rfl, ha⟩
  · rw [if_neg (show ¬ (2 : Int) = -1 by omega)]
    (repeat' split) <;> omega
  · rw [if_neg (show ¬ (1 : Int) = -1 by omega)]
    (repeat' split) <;> omega
  · rw [if_neg (show ¬ (0 : Int) = -1 by omega)]
    (repeat' split) <;> omega
  · rw [if_pos rfl]
    (repeat' split) <;> omega
theorem e_yl (ya : Int) : f_X0_yearLength ya = f_X5_yearLength ya := rfl
theorem e_yd (ya da : Int) : f_X0_yearDayNumber ya da = if f_X5_in ya 1 9999 = 0 then -1 else if f_X5_in da 1 (f_X5_yearLength ya) = 0 then -1 else f_X5_beginOf ya + da - 1 := by
  have hb : f_X0_yearStart ya = f_X5_beginOf ya := rfl
  unfold f_X0_yearDayNumber f_X0_isYear
  rw [e_in, e_in, ← e_yl, hb]
  (repeat' split) <;> omega
theorem e_dateOf (tf : Nat → Int) (tx : Int) : f_X4_typedNumber tf tx = f_X5_dateOf tf tx := by
  unfold f_X4_typedNumber f_X5_dateOf
  rw [e_civ2, e_week, e_yd]
