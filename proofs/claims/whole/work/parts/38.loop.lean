/-! THE LAW'S LOOP -/
set_option maxHeartbeats 4000000 in
set_option maxRecDepth 100000 in
theorem law_loop {p : Program} {l : Launch} {e : Env} {s : State} {m : MethodId} {below : List Frame} {meth : Method} {c : Code} {b : Nat} {L : Nat} {xs : Nat → Int32} {dC : Nat → ClassId} {dI : Nat → Nat → Nat} {cI : ClassId} {cL : ClassId} {cO : ClassId} {qd : Nat} {mi : Nat} {x0 : Nat} {v0 : Nat} {x1 : Nat} {v1 : Nat} {x2 : Nat} {v2 : Nat} {qy : Option Nat} {A : Nat → Prop} {h0 qs qr qm qw qt qk wc tc g0 ps pk pa pb pq pw pt qo : Nat} (hr : meth.sig.returnType = ret) (hlocks : meth.locks = false) (hAs : ∀ q : Nat, A q → s.heap.size ≤ q) (C : LC p l e s m below meth c b L xs dC dI cI cL cO qd mi x0 v0 x1 v1 x2 v2 qy A) : ∀ fu : Nat, (∀ (qe : Nat) (cap : Nat) (ef : Nat → Option Nat) (rf : Nat → Nat) (mc : Int) (ru : Int) (we : Int) (fi : Int) (ln : Int) (mf : Nat → Int) (sf : Nat → Int) (kf : Nat → Int) (af : Nat → Int) (bf : Nat → Int) (zf : Nat → Int) (wl : Int) (wf : Nat → Int) (tl : Int) (tf : Nat → Int) (co : Int) (of : Nat → Int) (ii : Int) (ce sn : Nat) (H : Heap) (locs : List Loc) (ls : Array Slot), LSt s dC dI cI cL cO qd A h0 qs qr qm qw qt qk wc tc g0 ps pk pa pb pq pw pt qo qe cap ef rf mc ru we fi ln mf sf kf af bf zf wl wf tl tf co of H locs → 0 ≤ ii → (L : Int) - ii < fu → ii ≤ (L : Int) → ce + 2 * fu ≤ 600000 → sn + 19 * fu ≤ 7290000 → lv_has ls 7 [(4, .int (zi ii)), (0, .ref b), (1, .ref h0), (2, .ref g0), (3, .ref qo)] → W p l e room_1 s m #[Value.ref b] below meth c H locs ce sn (lw_Z below #[Value.ref b] s) (F0 m 23 ls [])) ∧ (∀ (mc : Int) (we : Int) (fi : Int) (ln : Int) (mf : Nat → Int) (sf : Nat → Int) (kf : Nat → Int) (af : Nat → Int) (bf : Nat → Int) (zf : Nat → Int) (wl : Int) (wf : Nat → Int) (tl : Int) (tf : Nat → Int) (co : Int) (of : Nat → Int) (ii : Int) (ce sn : Nat) (H : Heap) (locs : List Loc) (ls : Array Slot), LS0 s dC dI cI cL cO qd A h0 qs qr qm qw qt qk wc tc g0 ps pk pa pb pq pw pt qo mc we fi ln mf sf kf af bf zf wl wf tl tf co of H locs → 0 ≤ ii → (L : Int) - ii < fu → ii ≤ (L : Int) → ce + 2 * fu ≤ 600000 → sn + 19 * fu ≤ 7290000 → lv_has ls 7 [(4, .int (zi ii)), (0, .ref b), (1, .ref h0), (2, .ref g0), (3, .ref qo)] → W p l e room_1 s m #[Value.ref b] below meth c H locs ce sn (lw_Z below #[Value.ref b] s) (F0 m 23 ls [])) := by
  obtain ⟨hx, hb, hml, hown, hts, hst, hK, hE, hO, h3, hX, hbl, hbA, hA, hL⟩ := id C
  intro fu
  induction fu with
  | zero =>
    refine ⟨?_, ?_⟩
    · intro qe cap ef rf mc ru we fi ln mf sf kf af bf zf wl wf tl tf co of ii ce sn H locs ls hLS h0i hfu hi4
      exact absurd hfu (by omega)
    · intro mc we fi ln mf sf kf af bf zf wl wf tl tf co of ii ce sn H locs ls hLS h0i hfu hi4
      exact absurd hfu (by omega)
  | succ fu ih =>
    refine ⟨?_, ?_⟩
    · intro qe cap ef rf mc ru we fi ln mf sf kf af bf zf wl wf tl tf co of ii ce sn H locs ls hLS h0i hfu hi4 hce hsn hl
      have hS : va_S A s.heap H locs := hLS.2.2.1
      refine lv_iload hx hb dL_law_23 (lv_at hl 0 rfl) ?_
      refine lv_aload_n hx hb dL_law_25 rfl (lv_at hl 1 rfl) ?_
      refine zw_scrn hx hb hX hbl hbA hS dL_law_26 ?_
      refine zw_bipush hx hb dL_law_27 (by decide) ?_
      refine zw_isub hx hb dL_law_29 ?_
      refine zw_icmp_gt (tgt := 1505) hx hb dL_law_30 (by decide) ⟨by omega, by omega⟩ ⟨by omega, by omega⟩ (fun hgt => ?_) (fun hle => ?_)
      · refine zw_iconst hx hb dL_law_1505 ?_
        rw [show zi 1 = 1 from by decide]
        refine va_forget (fun q hq => hAs _ (hS.2.2 q hq)) ?_
        refine W.widen (k := 601024) (n := 7293033) (by omega) (by omega) ?_
        exact lw_ret hx hb hr hlocks dL_law_1506
      · have hii : 0 ≤ ii ∧ ii + 6 ≤ (L : Int) := by omega
        have K1 : LK1 p l e s m below meth c b L xs dC dI cI cL cO qd mi x0 v0 x1 v1 x2 v2 qy A h0 qs qr qm qw qt qk wc tc g0 ps pk pa pb pq pw pt qo ii ce sn := by
          intro qe cap ef rf mc ru we fi ln mf sf kf af bf zf wl wf tl tf co of H locs ls hLS hl
          obtain ⟨jj, ejj⟩ : ∃ z : Int, z = ii + 6 := ⟨_, rfl⟩
          refine zw_iinc (lv' := [(4, .int (zi jj)), (0, .ref b), (1, .ref h0), (2, .ref g0), (3, .ref qo)]) (k := 0) hx hb ejj dL_law_1499 hl rfl (by decide) rfl (fun ls hl => ?_)
          refine lv_goto (tgt := 23) hx hb dL_law_1502 (by decide) ?_
          exact ih.1 qe cap ef rf mc ru we fi ln mf sf kf af bf zf wl wf tl tf co of jj (ce + 2) (sn + 19) H locs ls hLS (by omega) (by omega) (by omega) (by omega) (by omega) hl
        have K0 : LK0 p l e s m below meth c b L xs dC dI cI cL cO qd mi x0 v0 x1 v1 x2 v2 qy A h0 qs qr qm qw qt qk wc tc g0 ps pk pa pb pq pw pt qo ii ce sn := by
          intro mc we fi ln mf sf kf af bf zf wl wf tl tf co of H locs ls hLS hl
          obtain ⟨jj, ejj⟩ : ∃ z : Int, z = ii + 6 := ⟨_, rfl⟩
          refine zw_iinc (lv' := [(4, .int (zi jj)), (0, .ref b), (1, .ref h0), (2, .ref g0), (3, .ref qo)]) (k := 0) hx hb ejj dL_law_1499 hl rfl (by decide) rfl (fun ls hl => ?_)
          refine lv_goto (tgt := 23) hx hb dL_law_1502 (by decide) ?_
          exact ih.2 mc we fi ln mf sf kf af bf zf wl wf tl tf co of jj (ce + 2) (sn + 19) H locs ls hLS (by omega) (by omega) (by omega) (by omega) (by omega) hl
        refine lv_aload_n hx hb dL_law_33 rfl (lv_at hl 1 rfl) ?_
        refine lv_iload hx hb dL_law_34 (lv_at hl 0 rfl) ?_
        refine zw_scr hx hb hX hbl hbA hS (by omega) (by omega) ⟨by omega, by omega⟩ rfl dL_law_36 ?_
        refine zw_bipush hx hb dL_law_37 (by decide) ?_
        refine zw_iand31 hx hb dL_law_39 (fun vv hvv => ?_)
        by_cases hk0 : vv = 0
        · refine zw_tableIn (tgt := 136) hx hb dL_law_40 ⟨by omega, by omega⟩ hk0 (by decide) (by decide) rfl (by decide) ?_
          exact law_civil C hLS K1 K0 hii (by omega) (by omega) hl
        by_cases hk1 : vv = 1
        · refine zw_tableIn (tgt := 228) hx hb dL_law_40 ⟨by omega, by omega⟩ hk1 (by decide) (by decide) rfl (by decide) ?_
          exact law_days C hLS K1 K0 hii (by omega) (by omega) hl
        by_cases hk2 : vv = 2
        · refine zw_tableIn (tgt := 296) hx hb dL_law_40 ⟨by omega, by omega⟩ hk2 (by decide) (by decide) rfl (by decide) ?_
          exact law_week C hLS K1 K0 hii (by omega) (by omega) hl
        by_cases hk3 : vv = 3
        · refine zw_tableIn (tgt := 388) hx hb dL_law_40 ⟨by omega, by omega⟩ hk3 (by decide) (by decide) rfl (by decide) ?_
          exact law_easter C hLS K1 K0 hii (by omega) (by omega) hl
        by_cases hk4 : vv = 4
        · refine zw_tableIn (tgt := 456) hx hb dL_law_40 ⟨by omega, by omega⟩ hk4 (by decide) (by decide) rfl (by decide) ?_
          exact law_nth C hLS K1 K0 hii (by omega) (by omega) hl
        by_cases hk5 : vv = 5
        · refine zw_tableIn (tgt := 560) hx hb dL_law_40 ⟨by omega, by omega⟩ hk5 (by decide) (by decide) rfl (by decide) ?_
          exact law_move C hLS K1 K0 hii (by omega) (by omega) hl
        by_cases hk6 : vv = 6
        · refine zw_tableIn (tgt := 640) hx hb dL_law_40 ⟨by omega, by omega⟩ hk6 (by decide) (by decide) rfl (by decide) ?_
          exact law_told C hLS K1 K0 hii (by omega) (by omega) hl
        by_cases hk7 : vv = 7
        · refine zw_tableIn (tgt := 708) hx hb dL_law_40 ⟨by omega, by omega⟩ hk7 (by decide) (by decide) rfl (by decide) ?_
          exact law_between C hLS K1 K0 hii (by omega) (by omega) hl
        by_cases hk8 : vv = 8
        · refine zw_tableIn (tgt := 788) hx hb dL_law_40 ⟨by omega, by omega⟩ hk8 (by decide) (by decide) rfl (by decide) ?_
          exact law_copy C hLS K1 K0 hii (by omega) (by omega) hl
        by_cases hk9 : vv = 9
        · refine zw_tableIn (tgt := 856) hx hb dL_law_40 ⟨by omega, by omega⟩ hk9 (by decide) (by decide) rfl (by decide) ?_
          exact law_holiday C hLS K1 K0 hii (by omega) (by omega) hl
        by_cases hk10 : vv = 10
        · refine zw_tableIn (tgt := 948) hx hb dL_law_40 ⟨by omega, by omega⟩ hk10 (by decide) (by decide) rfl (by decide) ?_
          exact law_noHoliday C hLS K1 K0 hii (by omega) (by omega) hl
        by_cases hk11 : vv = 11
        · refine zw_tableIn (tgt := 1004) hx hb dL_law_40 ⟨by omega, by omega⟩ hk11 (by decide) (by decide) rfl (by decide) ?_
          exact law_weekend C hLS K1 K0 hii (by omega) (by omega) hl
        by_cases hk12 : vv = 12
        · refine zw_tableIn (tgt := 1060) hx hb dL_law_40 ⟨by omega, by omega⟩ hk12 (by decide) (by decide) rfl (by decide) ?_
          exact law_isHoliday C hLS K1 K0 hii (by omega) (by omega) hl
        by_cases hk13 : vv = 13
        · refine zw_tableIn (tgt := 1116) hx hb dL_law_40 ⟨by omega, by omega⟩ hk13 (by decide) (by decide) rfl (by decide) ?_
          exact law_work C hLS K1 K0 hii (by omega) (by omega) hl
        by_cases hk14 : vv = 14
        · refine zw_tableIn (tgt := 1184) hx hb dL_law_40 ⟨by omega, by omega⟩ hk14 (by decide) (by decide) rfl (by decide) ?_
          exact law_moveWork C hLS K1 K0 hii (by omega) (by omega) hl
        by_cases hk15 : vv = 15
        · refine zw_tableIn (tgt := 1252) hx hb dL_law_40 ⟨by omega, by omega⟩ hk15 (by decide) (by decide) rfl (by decide) ?_
          exact law_write C hLS K1 K0 hii (by omega) (by omega) hl
        by_cases hk16 : vv = 16
        · refine zw_tableIn (tgt := 1320) hx hb dL_law_40 ⟨by omega, by omega⟩ hk16 (by decide) (by decide) rfl (by decide) ?_
          exact law_charAt C hLS K1 K0 hii (by omega) (by omega) hl
        by_cases hk17 : vv = 17
        · refine zw_tableIn (tgt := 1376) hx hb dL_law_40 ⟨by omega, by omega⟩ hk17 (by decide) (by decide) rfl (by decide) ?_
          exact law_type C hLS K1 K0 hii (by omega) (by omega) hl
        by_cases hk18 : vv = 18
        · refine zw_tableIn (tgt := 1432) hx hb dL_law_40 ⟨by omega, by omega⟩ hk18 (by decide) (by decide) rfl (by decide) ?_
          exact law_read C hLS K1 K0 hii (by omega) (by omega) hl
        by_cases hk19 : vv = 19
        · refine zw_tableIn (tgt := 1488) hx hb dL_law_40 ⟨by omega, by omega⟩ hk19 (by decide) (by decide) rfl (by decide) ?_
          exact law_clear C hLS K1 K0 hii (by omega) (by omega) hl
        refine zw_tableOut (tgt := 1499) hx hb dL_law_40 ⟨by omega, by omega⟩ (by omega) (by decide) ?_
        refine W.widen (k := ce + 2) (n := sn + 19) (by omega) (by omega) ?_
        exact K1 qe cap ef rf mc ru we fi ln mf sf kf af bf zf wl wf tl tf co of H locs ls hLS hl
    · intro mc we fi ln mf sf kf af bf zf wl wf tl tf co of ii ce sn H locs ls hLS h0i hfu hi4 hce hsn hl
      have hS : va_S A s.heap H locs := hLS.2.2.1
      refine lv_iload hx hb dL_law_23 (lv_at hl 0 rfl) ?_
      refine lv_aload_n hx hb dL_law_25 rfl (lv_at hl 1 rfl) ?_
      refine zw_scrn hx hb hX hbl hbA hS dL_law_26 ?_
      refine zw_bipush hx hb dL_law_27 (by decide) ?_
      refine zw_isub hx hb dL_law_29 ?_
      refine zw_icmp_gt (tgt := 1505) hx hb dL_law_30 (by decide) ⟨by omega, by omega⟩ ⟨by omega, by omega⟩ (fun hgt => ?_) (fun hle => ?_)
      · refine zw_iconst hx hb dL_law_1505 ?_
        rw [show zi 1 = 1 from by decide]
        refine va_forget (fun q hq => hAs _ (hS.2.2 q hq)) ?_
        refine W.widen (k := 601024) (n := 7293033) (by omega) (by omega) ?_
        exact lw_ret hx hb hr hlocks dL_law_1506
      · have hii : 0 ≤ ii ∧ ii + 6 ≤ (L : Int) := by omega
        have K1 : LK1 p l e s m below meth c b L xs dC dI cI cL cO qd mi x0 v0 x1 v1 x2 v2 qy A h0 qs qr qm qw qt qk wc tc g0 ps pk pa pb pq pw pt qo ii ce sn := by
          intro qe cap ef rf mc ru we fi ln mf sf kf af bf zf wl wf tl tf co of H locs ls hLS hl
          obtain ⟨jj, ejj⟩ : ∃ z : Int, z = ii + 6 := ⟨_, rfl⟩
          refine zw_iinc (lv' := [(4, .int (zi jj)), (0, .ref b), (1, .ref h0), (2, .ref g0), (3, .ref qo)]) (k := 0) hx hb ejj dL_law_1499 hl rfl (by decide) rfl (fun ls hl => ?_)
          refine lv_goto (tgt := 23) hx hb dL_law_1502 (by decide) ?_
          exact ih.1 qe cap ef rf mc ru we fi ln mf sf kf af bf zf wl wf tl tf co of jj (ce + 2) (sn + 19) H locs ls hLS (by omega) (by omega) (by omega) (by omega) (by omega) hl
        have K0 : LK0 p l e s m below meth c b L xs dC dI cI cL cO qd mi x0 v0 x1 v1 x2 v2 qy A h0 qs qr qm qw qt qk wc tc g0 ps pk pa pb pq pw pt qo ii ce sn := by
          intro mc we fi ln mf sf kf af bf zf wl wf tl tf co of H locs ls hLS hl
          obtain ⟨jj, ejj⟩ : ∃ z : Int, z = ii + 6 := ⟨_, rfl⟩
          refine zw_iinc (lv' := [(4, .int (zi jj)), (0, .ref b), (1, .ref h0), (2, .ref g0), (3, .ref qo)]) (k := 0) hx hb ejj dL_law_1499 hl rfl (by decide) rfl (fun ls hl => ?_)
          refine lv_goto (tgt := 23) hx hb dL_law_1502 (by decide) ?_
          exact ih.2 mc we fi ln mf sf kf af bf zf wl wf tl tf co of jj (ce + 2) (sn + 19) H locs ls hLS (by omega) (by omega) (by omega) (by omega) (by omega) hl
        refine lv_aload_n hx hb dL_law_33 rfl (lv_at hl 1 rfl) ?_
        refine lv_iload hx hb dL_law_34 (lv_at hl 0 rfl) ?_
        refine zw_scr hx hb hX hbl hbA hS (by omega) (by omega) ⟨by omega, by omega⟩ rfl dL_law_36 ?_
        refine zw_bipush hx hb dL_law_37 (by decide) ?_
        refine zw_iand31 hx hb dL_law_39 (fun vv hvv => ?_)
        by_cases hk0 : vv = 0
        · refine zw_tableIn (tgt := 136) hx hb dL_law_40 ⟨by omega, by omega⟩ hk0 (by decide) (by decide) rfl (by decide) ?_
          exact law0_civil C hLS K1 K0 hii (by omega) (by omega) hl
        by_cases hk1 : vv = 1
        · refine zw_tableIn (tgt := 228) hx hb dL_law_40 ⟨by omega, by omega⟩ hk1 (by decide) (by decide) rfl (by decide) ?_
          exact law0_days C hLS K1 K0 hii (by omega) (by omega) hl
        by_cases hk2 : vv = 2
        · refine zw_tableIn (tgt := 296) hx hb dL_law_40 ⟨by omega, by omega⟩ hk2 (by decide) (by decide) rfl (by decide) ?_
          exact law0_week C hLS K1 K0 hii (by omega) (by omega) hl
        by_cases hk3 : vv = 3
        · refine zw_tableIn (tgt := 388) hx hb dL_law_40 ⟨by omega, by omega⟩ hk3 (by decide) (by decide) rfl (by decide) ?_
          exact law0_easter C hLS K1 K0 hii (by omega) (by omega) hl
        by_cases hk4 : vv = 4
        · refine zw_tableIn (tgt := 456) hx hb dL_law_40 ⟨by omega, by omega⟩ hk4 (by decide) (by decide) rfl (by decide) ?_
          exact law0_nth C hLS K1 K0 hii (by omega) (by omega) hl
        by_cases hk5 : vv = 5
        · refine zw_tableIn (tgt := 560) hx hb dL_law_40 ⟨by omega, by omega⟩ hk5 (by decide) (by decide) rfl (by decide) ?_
          exact law0_move C hLS K1 K0 hii (by omega) (by omega) hl
        by_cases hk6 : vv = 6
        · refine zw_tableIn (tgt := 640) hx hb dL_law_40 ⟨by omega, by omega⟩ hk6 (by decide) (by decide) rfl (by decide) ?_
          exact law0_told C hLS K1 K0 hii (by omega) (by omega) hl
        by_cases hk7 : vv = 7
        · refine zw_tableIn (tgt := 708) hx hb dL_law_40 ⟨by omega, by omega⟩ hk7 (by decide) (by decide) rfl (by decide) ?_
          exact law0_between C hLS K1 K0 hii (by omega) (by omega) hl
        by_cases hk8 : vv = 8
        · refine zw_tableIn (tgt := 788) hx hb dL_law_40 ⟨by omega, by omega⟩ hk8 (by decide) (by decide) rfl (by decide) ?_
          exact law0_copy C hLS K1 K0 hii (by omega) (by omega) hl
        by_cases hk9 : vv = 9
        · refine zw_tableIn (tgt := 856) hx hb dL_law_40 ⟨by omega, by omega⟩ hk9 (by decide) (by decide) rfl (by decide) ?_
          exact law0_holiday C hLS K1 K0 hii (by omega) (by omega) hl
        by_cases hk10 : vv = 10
        · refine zw_tableIn (tgt := 948) hx hb dL_law_40 ⟨by omega, by omega⟩ hk10 (by decide) (by decide) rfl (by decide) ?_
          exact law0_noHoliday C hLS K1 K0 hii (by omega) (by omega) hl
        by_cases hk11 : vv = 11
        · refine zw_tableIn (tgt := 1004) hx hb dL_law_40 ⟨by omega, by omega⟩ hk11 (by decide) (by decide) rfl (by decide) ?_
          exact law0_weekend C hLS K1 K0 hii (by omega) (by omega) hl
        by_cases hk12 : vv = 12
        · refine zw_tableIn (tgt := 1060) hx hb dL_law_40 ⟨by omega, by omega⟩ hk12 (by decide) (by decide) rfl (by decide) ?_
          exact law0_isHoliday C hLS K1 K0 hii (by omega) (by omega) hl
        by_cases hk13 : vv = 13
        · refine zw_tableIn (tgt := 1116) hx hb dL_law_40 ⟨by omega, by omega⟩ hk13 (by decide) (by decide) rfl (by decide) ?_
          exact law0_work C hLS K1 K0 hii (by omega) (by omega) hl
        by_cases hk14 : vv = 14
        · refine zw_tableIn (tgt := 1184) hx hb dL_law_40 ⟨by omega, by omega⟩ hk14 (by decide) (by decide) rfl (by decide) ?_
          exact law0_moveWork C hLS K1 K0 hii (by omega) (by omega) hl
        by_cases hk15 : vv = 15
        · refine zw_tableIn (tgt := 1252) hx hb dL_law_40 ⟨by omega, by omega⟩ hk15 (by decide) (by decide) rfl (by decide) ?_
          exact law0_write C hLS K1 K0 hii (by omega) (by omega) hl
        by_cases hk16 : vv = 16
        · refine zw_tableIn (tgt := 1320) hx hb dL_law_40 ⟨by omega, by omega⟩ hk16 (by decide) (by decide) rfl (by decide) ?_
          exact law0_charAt C hLS K1 K0 hii (by omega) (by omega) hl
        by_cases hk17 : vv = 17
        · refine zw_tableIn (tgt := 1376) hx hb dL_law_40 ⟨by omega, by omega⟩ hk17 (by decide) (by decide) rfl (by decide) ?_
          exact law0_type C hLS K1 K0 hii (by omega) (by omega) hl
        by_cases hk18 : vv = 18
        · refine zw_tableIn (tgt := 1432) hx hb dL_law_40 ⟨by omega, by omega⟩ hk18 (by decide) (by decide) rfl (by decide) ?_
          exact law0_read C hLS K1 K0 hii (by omega) (by omega) hl
        by_cases hk19 : vv = 19
        · refine zw_tableIn (tgt := 1488) hx hb dL_law_40 ⟨by omega, by omega⟩ hk19 (by decide) (by decide) rfl (by decide) ?_
          exact law0_clear C hLS K1 K0 hii (by omega) (by omega) hl
        refine zw_tableOut (tgt := 1499) hx hb dL_law_40 ⟨by omega, by omega⟩ (by omega) (by decide) ?_
        refine W.widen (k := ce + 2) (n := sn + 19) (by omega) (by omega) ?_
        exact K0 mc we fi ln mf sf kf af bf zf wl wf tl tf co of H locs ls hLS hl
