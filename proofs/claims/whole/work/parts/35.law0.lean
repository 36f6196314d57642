/-! THE LAW: ITS WORLD AND STATE, WHAT LIES BESIDE ITS WORLD -/
/-- a cell beside the world -/
def zOut (D : va_G) (ws : va_W) (H : Heap) (q : Nat) (e : va_E) : Prop := q < H.size ∧ (∀ (i : Nat) (x : va_E), ws[i]? ≠ some (q, x)) ∧ va_P D vwCl [(q, e)] H
theorem zSubAt {ws wc : va_W} {is : List Nat} (hC : is.map (fun i => ws[i]?) = wc.map some) {k : Nat} {x : Nat × va_E} (h : wc[k]? = some x) : ∃ i : Nat, ws[i]? = some x := by
  have h2 : (wc.map some)[k]? = some (some x) := by
    rw [List.getElem?_map, h]
    rfl
  rw [← hC, List.getElem?_map] at h2
  cases hi : is[k]? with
  | none =>
    rw [hi] at h2
    cases h2
  | some i =>
    rw [hi] at h2
    exact ⟨i, Option.some.inj h2⟩
section ZOUT
variable {D : va_G} {ws wc wr w1 ws' : va_W} {H H1 : Heap} {q : Nat} {e : va_E}
theorem zOut.nA (h : zOut D ws H q e) {is : List Nat} (hC : is.map (fun i => ws[i]?) = wc.map some) : ¬ va_A wc H.size q := by
  intro hq
  rcases hq with ⟨k, x, hx⟩ | hge
  · obtain ⟨i, hi⟩ := zSubAt hC hx
    exact h.2.1 i x hi
  · exact absurd h.1 (Nat.not_lt.mpr hge)
theorem zOut.join (h : zOut D ws H q e) (isC isR : List Nat) (hC : isC.map (fun i => ws[i]?) = wc.map some) (hR : isR.map (fun i => ws[i]?) = wr.map some) (hz : H.size ≤ H1.size) (hk : ∀ q : Nat, q < H.size → ¬ va_A wc H.size q → H1[q]? = H[q]?) (hD1 : va_D (va_A wc H.size) w1) : zOut D (wr ++ w1) H1 q e := by
  have hn := h.nA hC
  refine ⟨Nat.lt_of_lt_of_le h.1 hz, fun i x hi => ?_, h.2.2.kept (fun i y hy => ?_)⟩
  · by_cases hl : i < wr.length
    · rw [List.getElem?_append_left hl] at hi
      obtain ⟨j, hj⟩ := zSubAt hR hi
      exact h.2.1 j x hj
    · rw [List.getElem?_append_right (by omega)] at hi
      exact hn (hD1.2 _ _ hi)
  · cases i with
    | zero =>
      cases hy
      exact hk _ h.1 hn
    | succ i => cases hy
theorem zOut.sub (h : zOut D ws H q e) (is : List Nat) (hC : is.map (fun i => ws[i]?) = ws'.map some) : zOut D ws' H q e :=
  ⟨h.1, fun _ x hi => (zSubAt hC hi).elim fun j hj => h.2.1 j x hj, h.2.2⟩
theorem zOut.ru {ru : Int} {rf : Nat → Nat} {kf af bf zf : Nat → Int} (h : ∀ k : Nat, (k : Int) < ru → zOut D ws H (rf k) (oX3 (kf k) (af k) (bf k) (zf k))) (is : List Nat) (hC : is.map (fun i => ws[i]?) = wc.map some) {U : State} (hU : U.heap = H) : zRu D ru rf kf af bf zf (va_A wc H.size) U U.heap :=
  fun k hk => ⟨(h k hk).nA hC, by rw [hU]; exact (h k hk).2.2⟩
/-- a cell of the world that is taken out of it -/
theorem zOut.of {A : Nat → Prop} {i0 : Nat} (hP : va_P D vwCl ws H) (hD : va_D A ws) (h0 : ws[i0]? = some (q, e)) (is : List Nat) (hC : is.map (fun i => ws[i]?) = ws'.map some) (hn : i0 ∉ is) : zOut D ws' H q e := by
  refine ⟨(hP i0 _ h0).lt, fun k x hx => ?_, fun k y hy => ?_⟩
  · have h2 : (ws'.map some)[k]? = some (some (q, x)) := by
      rw [List.getElem?_map, hx]
      rfl
    rw [← hC, List.getElem?_map] at h2
    cases hi : is[k]? with
    | none =>
      rw [hi] at h2
      cases h2
    | some i =>
      rw [hi] at h2
      have h3 : ws[i]? = some (q, x) := Option.some.inj h2
      have h4 := hD.1 i i0 _ _ h3 h0 rfl
      exact hn (h4 ▸ List.mem_of_getElem? hi)
  · cases k with
    | zero =>
      cases hy
      exact hP i0 _ h0
    | succ k => cases hy
end ZOUT
theorem aR0_c (cO : ClassId) (f g : Nat → Option Nat) : vp_cell cO (0, .inr (.inr (.inr (.inr f)))) = vp_cell cO (0, .inr (.inr (.inr (.inr g)))) := by
  rw [vp_cell_q, vp_cell_q]
  unfold arrV
  congr 1
theorem zOut.e0 {D : va_G} {ws : va_W} {H : Heap} {q : Nat} {cO : ClassId} {f : Nat → Option Nat} (h : zOut D ws H q (aR cO 0 f)) (g : Nat → Option Nat) : zOut D ws H q (aR cO 0 g) := by
  refine ⟨h.1, h.2.1, fun k y hy => ?_⟩
  cases k with
  | zero =>
    cases hy
    have q9 := h.2.2 0 _ rfl
    show H[q]? = some (vp_cell cO (0, .inr (.inr (.inr (.inr g)))))
    rw [← aR0_c cO f g]
    exact q9
  | succ k => cases hy
/-- the numbers of the state -/
def LI (sf kf af bf zf wf tf : Nat → Int) (ru we fi ln wl tl : Int) : Prop :=
  (∀ j : Nat, -1 ≤ sf j ∧ sf j ≤ 3652058) ∧ (0 ≤ ru ∧ ru ≤ 12) ∧ (RKX kf af bf zf ru) ∧ (0 ≤ we ∧ we ≤ 126) ∧ (0 ≤ fi ∧ fi ≤ 4000000 ∧ 0 ≤ ln ∧ ln ≤ 366) ∧ (0 ≤ wl ∧ wl ≤ 12) ∧ (∀ j : Nat, 0 ≤ wf j ∧ wf j ≤ 255) ∧ (0 ≤ tl ∧ tl ≤ 20) ∧ (∀ j : Nat, 0 ≤ tf j ∧ tf j ≤ 126)
theorem LI.mk9 {sf kf af bf zf wf tf : Nat → Int} {ru we fi ln wl tl : Int} (h_sfb : ∀ j : Nat, -1 ≤ sf j ∧ sf j ≤ 3652058) (h_rub : 0 ≤ ru ∧ ru ≤ 12) (h_rk : RKX kf af bf zf ru) (h_web : 0 ≤ we ∧ we ≤ 126) (h_mkb : 0 ≤ fi ∧ fi ≤ 4000000 ∧ 0 ≤ ln ∧ ln ≤ 366) (h_wlb : 0 ≤ wl ∧ wl ≤ 12) (h_wfb : ∀ j : Nat, 0 ≤ wf j ∧ wf j ≤ 255) (h_tlb : 0 ≤ tl ∧ tl ≤ 20) (h_tfb : ∀ j : Nat, 0 ≤ tf j ∧ tf j ≤ 126) : LI sf kf af bf zf wf tf ru we fi ln wl tl := ⟨h_sfb, h_rub, h_rk, h_web, h_mkb, h_wlb, h_wfb, h_tlb, h_tfb⟩
theorem LI.sfb {sf kf af bf zf wf tf : Nat → Int} {ru we fi ln wl tl : Int} (h : LI sf kf af bf zf wf tf ru we fi ln wl tl) : ∀ j : Nat, -1 ≤ sf j ∧ sf j ≤ 3652058 := h.1
theorem LI.rub {sf kf af bf zf wf tf : Nat → Int} {ru we fi ln wl tl : Int} (h : LI sf kf af bf zf wf tf ru we fi ln wl tl) : 0 ≤ ru ∧ ru ≤ 12 := h.2.1
theorem LI.rk {sf kf af bf zf wf tf : Nat → Int} {ru we fi ln wl tl : Int} (h : LI sf kf af bf zf wf tf ru we fi ln wl tl) : RKX kf af bf zf ru := h.2.2.1
theorem LI.web {sf kf af bf zf wf tf : Nat → Int} {ru we fi ln wl tl : Int} (h : LI sf kf af bf zf wf tf ru we fi ln wl tl) : 0 ≤ we ∧ we ≤ 126 := h.2.2.2.1
theorem LI.mkb {sf kf af bf zf wf tf : Nat → Int} {ru we fi ln wl tl : Int} (h : LI sf kf af bf zf wf tf ru we fi ln wl tl) : 0 ≤ fi ∧ fi ≤ 4000000 ∧ 0 ≤ ln ∧ ln ≤ 366 := h.2.2.2.2.1
theorem LI.wlb {sf kf af bf zf wf tf : Nat → Int} {ru we fi ln wl tl : Int} (h : LI sf kf af bf zf wf tf ru we fi ln wl tl) : 0 ≤ wl ∧ wl ≤ 12 := h.2.2.2.2.2.1
theorem LI.wfb {sf kf af bf zf wf tf : Nat → Int} {ru we fi ln wl tl : Int} (h : LI sf kf af bf zf wf tf ru we fi ln wl tl) : ∀ j : Nat, 0 ≤ wf j ∧ wf j ≤ 255 := h.2.2.2.2.2.2.1
theorem LI.tlb {sf kf af bf zf wf tf : Nat → Int} {ru we fi ln wl tl : Int} (h : LI sf kf af bf zf wf tf ru we fi ln wl tl) : 0 ≤ tl ∧ tl ≤ 20 := h.2.2.2.2.2.2.2.1
theorem LI.tfb {sf kf af bf zf wf tf : Nat → Int} {ru we fi ln wl tl : Int} (h : LI sf kf af bf zf wf tf ru we fi ln wl tl) : ∀ j : Nat, 0 ≤ tf j ∧ tf j ≤ 126 := h.2.2.2.2.2.2.2.2
theorem zup_b {sf : Nat → Int} {lo hi : Int} (h : ∀ j : Nat, lo ≤ sf j ∧ sf j ≤ hi) (k : Nat) {v : Int} (hv : lo ≤ v ∧ v ≤ hi) : ∀ j : Nat, lo ≤ zup sf k v j ∧ zup sf k v j ≤ hi := by
  intro j
  unfold zup
  split
  · exact hv
  · exact h j
theorem zup_at (sf : Nat → Int) (k : Nat) (v : Int) : zup sf k v k = v := by
  unfold zup
  rw [if_pos rfl]
theorem zi_and31 (a : Int) : ∃ v : Int, 0 ≤ v ∧ v ≤ 31 ∧ zi a &&& zi 31 = zi v := by
  have e31 : zi 31 = 31 := by decide
  rw [e31]
  refine ⟨(((zi a).toBitVec.toNat % 2 ^ 5 : Nat) : Int), by omega, by omega, ?_⟩
  rw [pk_and (zi a) 5 (m := 31) (by decide)]
  exact (zi_nat _).symm
section ZLAW
variable {p : Program} {l : Launch} {e : Env} {R : Room} {s : State} {m : MethodId} {args : Array Value} {below : List Frame} {meth : Method} {c : Code} {H : Heap} {locs : List Loc} {cells slots : Nat} {Q : State → Prop} {cc : ByteArray} {pc : Nat} {ls : Array Slot} {rest : List Value} {A : Nat → Prop}
theorem zw_scr (hx : p.tables.exec = Jvm.exec) (hb : c.code = cc) {b L : Nat} {xs : Nat → Int32} (hX : va_X b L xs s s.heap) (hbl : b < s.heap.size) (hbA : ¬ A b) (hS : va_S A s.heap H locs) {i v : Int} (h0 : 0 ≤ i) (h1 : i < L) (hi : zI i) (hv : v = (xs i.toNat).toInt) (hd : decode cc pc = .ok (.iaload, 1))
    (k : W p l e R s m args below meth c H locs cells slots Q (F0 m (pc + 1) ls (.int (zi v) :: rest))) : W p l e R s m args below meth c H locs cells slots Q (F0 m pc ls (.int (zi i) :: .ref b :: rest)) := by
  refine va_sld hx hb hX hbl hbA hS (zi_in h0 h1 hi) hd ?_
  rw [zi_clamp h0 hi]
  rw [hv, ← zi_mk] at k
  exact k
theorem zw_scrn (hx : p.tables.exec = Jvm.exec) (hb : c.code = cc) {b L : Nat} {xs : Nat → Int32} (hX : va_X b L xs s s.heap) (hbl : b < s.heap.size) (hbA : ¬ A b) (hS : va_S A s.heap H locs) (hd : decode cc pc = .ok (.arraylength, 1))
    (k : W p l e R s m args below meth c H locs cells slots Q (F0 m (pc + 1) ls (.int (zi (L : Int)) :: rest))) : W p l e R s m args below meth c H locs cells slots Q (F0 m pc ls (.ref b :: rest)) := by
  rw [zi_nat] at k
  exact va_slen hx hb hX hbl hbA hS hd k
theorem zw_iand31 (hx : p.tables.exec = Jvm.exec) (hb : c.code = cc) {a : Int} (hd : decode cc pc = .ok (.iand, 1)) (k : ∀ v : Int, 0 ≤ v ∧ v ≤ 31 → W p l e R s m args below meth c H locs cells slots Q (F0 m (pc + 1) ls (.int (zi v) :: rest))) : W p l e R s m args below meth c H locs cells slots Q (F0 m pc ls (.int (zi 31) :: .int (zi a) :: rest)) := by
  refine lv_iand hx hb hd ?_
  obtain ⟨v, h1, h2, h3⟩ := zi_and31 a
  rw [h3]
  exact k v ⟨h1, h2⟩
end ZLAW
theorem scr_b (x : Int32) : -2147483648 ≤ x.toInt ∧ x.toInt ≤ 2147483647 := by
  obtain ⟨a, h0, h1, h2⟩ := zi_ex x
  rw [h0, zi_v ⟨h1, h2⟩]
  exact ⟨h1, h2⟩
/-- what stays: the machine, the words, the start's facts -/
def LC (p : Program) (l : Launch) (e : Env) (s : State) (m : MethodId) (below : List Frame) (meth : Method) (c : Code) (b : Nat) (L : Nat) (xs : Nat → Int32) (dC : Nat → ClassId) (dI : Nat → Nat → Nat) (cI : ClassId) (cL : ClassId) (cO : ClassId) (qd : Nat) (mi : Nat) (x0 : Nat) (v0 : Nat) (x1 : Nat) (v1 : Nat) (x2 : Nat) (v2 : Nat) (qy : Option Nat) (A : Nat → Prop) : Prop :=
  (p.tables.exec = Jvm.exec) ∧ (c.code = cL_law) ∧ (c.maxLocals = 7) ∧ (s.vm.findClass RL = some m.cls) ∧ (∀ w ∈ wsL_law, w.before #[Value.ref b] s = true) ∧ (l.stackTraces = false) ∧ (va_K (dC, dI) vwCl [(cI, .int), (cL, .long), (cO, .object "java/lang/Object")] s) ∧ (zE A s s.heap) ∧ (zO2 qd mi A s s.heap) ∧ (zP3 x0 v0 x1 v1 x2 v2 qy A s s.heap) ∧ (va_X b L xs s s.heap) ∧ (b < s.heap.size) ∧ (¬ A b) ∧ (∀ q : Nat, s.heap.size ≤ q → A q) ∧ (L ≤ 3072)
/-- the state at the head of the law's loop -/
def LSt (s : State) (dC : Nat → ClassId) (dI : Nat → Nat → Nat) (cI cL cO : ClassId) (qd : Nat) (A : Nat → Prop) (h0 qs qr qm qw qt qk wc tc g0 ps pk pa pb pq pw pt qo : Nat) (qe : Nat) (cap : Nat) (ef : Nat → Option Nat) (rf : Nat → Nat) (mc : Int) (ru : Int) (we : Int) (fi : Int) (ln : Int) (mf : Nat → Int) (sf : Nat → Int) (kf : Nat → Int) (af : Nat → Int) (bf : Nat → Int) (zf : Nat → Int) (wl : Int) (wf : Nat → Int) (tl : Int) (tf : Nat → Int) (co : Int) (of : Nat → Int) (H : Heap) (locs : List Loc) : Prop :=
  va_P (dC, dI) vwCl [(h0, .inr (4, [.ref qs, .ref qr, .ref qm, .ref qw, .ref qt, .int (zi we)])), (qs, aI cI 10 sf), (qr, .inr (0, [.int (zi mc), .ref qe, .int (zi ru)])), (qe, aR cO cap ef), (qm, .inr (2, [.ref qk, .int (zi fi), .int (zi ln)])), (qk, aI cI 366 mf), (qw, .inr (1, [.ref wc, .int (zi wl)])), (wc, aI cI 20 wf), (qt, .inr (1, [.ref tc, .int (zi tl)])), (tc, aI cI 20 tf), (g0, .inr (5, [.int (zi co), .ref ps, .int (zi ru), .ref pk, .ref pa, .ref pb, .ref pq, .int (zi we), .int (zi wl), .ref pw, .int (zi tl), .ref pt])), (ps, aI cI 10 sf), (pk, aI cI 12 kf), (pa, aI cI 12 af), (pb, aI cI 12 bf), (pq, aI cI 12 zf), (pw, aI cI 12 wf), (pt, aI cI 20 tf), (qo, aL cL 1 of)] H ∧ va_D A [(h0, .inr (4, [.ref qs, .ref qr, .ref qm, .ref qw, .ref qt, .int (zi we)])), (qs, aI cI 10 sf), (qr, .inr (0, [.int (zi mc), .ref qe, .int (zi ru)])), (qe, aR cO cap ef), (qm, .inr (2, [.ref qk, .int (zi fi), .int (zi ln)])), (qk, aI cI 366 mf), (qw, .inr (1, [.ref wc, .int (zi wl)])), (wc, aI cI 20 wf), (qt, .inr (1, [.ref tc, .int (zi tl)])), (tc, aI cI 20 tf), (g0, .inr (5, [.int (zi co), .ref ps, .int (zi ru), .ref pk, .ref pa, .ref pb, .ref pq, .int (zi we), .int (zi wl), .ref pw, .int (zi tl), .ref pt])), (ps, aI cI 10 sf), (pk, aI cI 12 kf), (pa, aI cI 12 af), (pb, aI cI 12 bf), (pq, aI cI 12 zf), (pw, aI cI 12 wf), (pt, aI cI 20 tf), (qo, aL cL 1 of)] ∧ va_S A s.heap H locs ∧ (∀ k : Nat, (k : Int) < ru → zOut (dC, dI) [(h0, .inr (4, [.ref qs, .ref qr, .ref qm, .ref qw, .ref qt, .int (zi we)])), (qs, aI cI 10 sf), (qr, .inr (0, [.int (zi mc), .ref qe, .int (zi ru)])), (qe, aR cO cap ef), (qm, .inr (2, [.ref qk, .int (zi fi), .int (zi ln)])), (qk, aI cI 366 mf), (qw, .inr (1, [.ref wc, .int (zi wl)])), (wc, aI cI 20 wf), (qt, .inr (1, [.ref tc, .int (zi tl)])), (tc, aI cI 20 tf), (g0, .inr (5, [.int (zi co), .ref ps, .int (zi ru), .ref pk, .ref pa, .ref pb, .ref pq, .int (zi we), .int (zi wl), .ref pw, .int (zi tl), .ref pt])), (ps, aI cI 10 sf), (pk, aI cI 12 kf), (pa, aI cI 12 af), (pb, aI cI 12 bf), (pq, aI cI 12 zf), (pw, aI cI 12 wf), (pt, aI cI 20 tf), (qo, aL cL 1 of)] H (rf k) (oX3 (kf k) (af k) (bf k) (zf k))) ∧ ((cap = 10 ∨ cap = 15) ∧ ru ≤ ((cap : Nat) : Int)) ∧ (∀ j : Nat, (j : Int) < ru → ef j = some (rf j)) ∧ LI sf kf af bf zf wf tf ru we fi ln wl tl
/-- the state while no rule was ever laid down -/
def LS0 (s : State) (dC : Nat → ClassId) (dI : Nat → Nat → Nat) (cI cL cO : ClassId) (qd : Nat) (A : Nat → Prop) (h0 qs qr qm qw qt qk wc tc g0 ps pk pa pb pq pw pt qo : Nat) (mc : Int) (we : Int) (fi : Int) (ln : Int) (mf : Nat → Int) (sf : Nat → Int) (kf : Nat → Int) (af : Nat → Int) (bf : Nat → Int) (zf : Nat → Int) (wl : Int) (wf : Nat → Int) (tl : Int) (tf : Nat → Int) (co : Int) (of : Nat → Int) (H : Heap) (locs : List Loc) : Prop :=
  va_P (dC, dI) vwCl [(h0, .inr (4, [.ref qs, .ref qr, .ref qm, .ref qw, .ref qt, .int (zi we)])), (qs, aI cI 10 sf), (qr, .inr (0, [.int (zi mc), .ref qd, .int (zi 0)])), (qm, .inr (2, [.ref qk, .int (zi fi), .int (zi ln)])), (qk, aI cI 366 mf), (qw, .inr (1, [.ref wc, .int (zi wl)])), (wc, aI cI 20 wf), (qt, .inr (1, [.ref tc, .int (zi tl)])), (tc, aI cI 20 tf), (g0, .inr (5, [.int (zi co), .ref ps, .int (zi 0), .ref pk, .ref pa, .ref pb, .ref pq, .int (zi we), .int (zi wl), .ref pw, .int (zi tl), .ref pt])), (ps, aI cI 10 sf), (pk, aI cI 12 kf), (pa, aI cI 12 af), (pb, aI cI 12 bf), (pq, aI cI 12 zf), (pw, aI cI 12 wf), (pt, aI cI 20 tf), (qo, aL cL 1 of)] H ∧ va_D A [(h0, .inr (4, [.ref qs, .ref qr, .ref qm, .ref qw, .ref qt, .int (zi we)])), (qs, aI cI 10 sf), (qr, .inr (0, [.int (zi mc), .ref qd, .int (zi 0)])), (qm, .inr (2, [.ref qk, .int (zi fi), .int (zi ln)])), (qk, aI cI 366 mf), (qw, .inr (1, [.ref wc, .int (zi wl)])), (wc, aI cI 20 wf), (qt, .inr (1, [.ref tc, .int (zi tl)])), (tc, aI cI 20 tf), (g0, .inr (5, [.int (zi co), .ref ps, .int (zi 0), .ref pk, .ref pa, .ref pb, .ref pq, .int (zi we), .int (zi wl), .ref pw, .int (zi tl), .ref pt])), (ps, aI cI 10 sf), (pk, aI cI 12 kf), (pa, aI cI 12 af), (pb, aI cI 12 bf), (pq, aI cI 12 zf), (pw, aI cI 12 wf), (pt, aI cI 20 tf), (qo, aL cL 1 of)] ∧ va_S A s.heap H locs ∧ LI sf kf af bf zf wf tf 0 we fi ln wl tl
/-- the walk goes on behind a case -/
def LK1 (p : Program) (l : Launch) (e : Env) (s : State) (m : MethodId) (below : List Frame) (meth : Method) (c : Code) (b : Nat) (L : Nat) (xs : Nat → Int32) (dC : Nat → ClassId) (dI : Nat → Nat → Nat) (cI : ClassId) (cL : ClassId) (cO : ClassId) (qd : Nat) (mi : Nat) (x0 : Nat) (v0 : Nat) (x1 : Nat) (v1 : Nat) (x2 : Nat) (v2 : Nat) (qy : Option Nat) (A : Nat → Prop) (h0 qs qr qm qw qt qk wc tc g0 ps pk pa pb pq pw pt qo : Nat) (ii : Int) (ce sn : Nat) : Prop :=
  ∀ (qe : Nat) (cap : Nat) (ef : Nat → Option Nat) (rf : Nat → Nat) (mc : Int) (ru : Int) (we : Int) (fi : Int) (ln : Int) (mf : Nat → Int) (sf : Nat → Int) (kf : Nat → Int) (af : Nat → Int) (bf : Nat → Int) (zf : Nat → Int) (wl : Int) (wf : Nat → Int) (tl : Int) (tf : Nat → Int) (co : Int) (of : Nat → Int) (H : Heap) (locs : List Loc) (ls : Array Slot), LSt s dC dI cI cL cO qd A h0 qs qr qm qw qt qk wc tc g0 ps pk pa pb pq pw pt qo qe cap ef rf mc ru we fi ln mf sf kf af bf zf wl wf tl tf co of H locs → lv_has ls 7 [(4, .int (zi ii)), (0, .ref b), (1, .ref h0), (2, .ref g0), (3, .ref qo)] → W p l e room_1 s m #[Value.ref b] below meth c H locs (ce + 2) (sn + 19) (lw_Z below #[Value.ref b] s) (F0 m 1499 ls [])
def LK0 (p : Program) (l : Launch) (e : Env) (s : State) (m : MethodId) (below : List Frame) (meth : Method) (c : Code) (b : Nat) (L : Nat) (xs : Nat → Int32) (dC : Nat → ClassId) (dI : Nat → Nat → Nat) (cI : ClassId) (cL : ClassId) (cO : ClassId) (qd : Nat) (mi : Nat) (x0 : Nat) (v0 : Nat) (x1 : Nat) (v1 : Nat) (x2 : Nat) (v2 : Nat) (qy : Option Nat) (A : Nat → Prop) (h0 qs qr qm qw qt qk wc tc g0 ps pk pa pb pq pw pt qo : Nat) (ii : Int) (ce sn : Nat) : Prop :=
  ∀ (mc : Int) (we : Int) (fi : Int) (ln : Int) (mf : Nat → Int) (sf : Nat → Int) (kf : Nat → Int) (af : Nat → Int) (bf : Nat → Int) (zf : Nat → Int) (wl : Int) (wf : Nat → Int) (tl : Int) (tf : Nat → Int) (co : Int) (of : Nat → Int) (H : Heap) (locs : List Loc) (ls : Array Slot), LS0 s dC dI cI cL cO qd A h0 qs qr qm qw qt qk wc tc g0 ps pk pa pb pq pw pt qo mc we fi ln mf sf kf af bf zf wl wf tl tf co of H locs → lv_has ls 7 [(4, .int (zi ii)), (0, .ref b), (1, .ref h0), (2, .ref g0), (3, .ref qo)] → W p l e room_1 s m #[Value.ref b] below meth c H locs (ce + 2) (sn + 19) (lw_Z below #[Value.ref b] s) (F0 m 1499 ls [])
theorem c9_civil (ya mo da : Int) (h : f_X5_isDate ya mo da = 1) : 0 ≤ f_X5_numberOf ya mo da ∧ f_X5_numberOf ya mo da ≤ 3652058 := by
  have q := e_isDate0 ya mo da
  have q1 := e_num ya mo da (by omega)
  have q2 := y_b ya (by omega)
  omega
theorem c9_civN (ya mo da : Int) : -1 ≤ f_X0_civilNumber ya mo da ∧ f_X0_civilNumber ya mo da ≤ 3652058 := by
  rw [e_civil]
  by_cases h : f_X5_isDate ya mo da = 1
  · rw [if_pos h]
    have q := c9_civil ya mo da h
    omega
  · rw [if_neg h]
    omega
theorem c9_ydN (ya da : Int) : -1 ≤ f_X0_yearDayNumber ya da ∧ f_X0_yearDayNumber ya da ≤ 3652058 := by
  have hs : f_X0_yearStart ya = yS (ya - 1) := rfl
  have hl := yl_S ya
  unfold f_X0_yearDayNumber f_X0_isYear
  by_cases h : 1 ≤ ya ∧ ya ≤ 9999
  · have q2 := y_b ya h
    (repeat' split) <;> omega
  · (repeat' split) <;> omega
theorem c9_easter (ya : Int) (h : 1583 ≤ ya ∧ ya ≤ 9999) : 0 ≤ f_X5_easterOf ya ∧ f_X5_easterOf ya ≤ 3652058 := by
  rw [← e_easter ya h]
  have g0 := ms_le ya 6 (by omega)
  have g1 := m_next ya 3 (by omega)
  have g2 := m_next ya 4 (by omega)
  have g3 := m_next ya 5 (by omega)
  have l3 := len_b ya 3
  have l4 := len_b ya 4
  have l5 := len_b ya 5
  have l6 := len_b ya 6
  have g := ms_le ya 3 (by omega)
  have gy := y_b ya (by omega)
  rw [show (3 : Int) + 1 = 4 from rfl] at g1
  rw [show (4 : Int) + 1 = 5 from rfl] at g2
  rw [show (5 : Int) + 1 = 6 from rfl] at g3
  have ob : ∀ x : Int, 0 ≤ x → x ≤ f_X0_monthStart ya 3 + 60 → 0 ≤ f_X0_onOrBehind x 7 ∧ f_X0_onOrBehind x 7 ≤ 3652058 := fun x h1 h2 => by
    have := ob_b x 7 (by omega) h1
    omega
  unfold f_X0_easterNumber
  rw [if_neg (show ¬ ya < 1583 by omega), if_pos h.2]
  (repeat' split) <;> exact ob _ (by omega) (by omega)
theorem c9_nth (ya mo wd nn : Int) (hy : 1 ≤ ya ∧ ya ≤ 9999) (hm : 1 ≤ mo ∧ mo ≤ 12) : f_X0_nthNumber ya mo wd nn = -1 ∨ 0 ≤ f_X0_nthNumber ya mo wd nn ∧ f_X0_nthNumber ya mo wd nn ≤ 3652058 := by
  have q := nth_y ya mo wd nn hm
  have q2 := y_b ya hy
  omega
theorem c9_mov0 (nu many un : Int) (h : un = 0) : f_X4_moved nu many un = if 0 ≤ nu + many ∧ nu + many ≤ 3652058 then nu + many else -1 := by
  unfold f_X4_moved
  rw [if_pos h]
  unfold f_X0_movedByDays f_X0_isNumber
  (repeat' split) <;> omega
theorem c9_mov1 (nu many un : Int) (h : un = 1) (hn : 0 ≤ nu ∧ nu ≤ 3652058) : f_X4_moved nu many un = f_X5_byMonths nu many := by
  unfold f_X4_moved
  rw [if_neg (show ¬ un = 0 by omega), if_pos h, e_bym nu many hn]
theorem c9_mov2 (nu many un : Int) (h : un = 2) (hn : 0 ≤ nu ∧ nu ≤ 3652058) : f_X4_moved nu many un = f_X5_byMonths nu (12 * many) := by
  unfold f_X4_moved
  rw [if_neg (show ¬ un = 0 by omega), if_neg (show ¬ un = 1 by omega), e_bym nu (12 * many) hn]
theorem c9_tn (tf : Nat → Int) (tx : Int) (h : 0 ≤ tx ∧ tx ≤ 2) (ht : ∀ j : Nat, 0 ≤ tf j ∧ tf j ≤ 126) : -1 ≤ f_X4_typedNumber tf tx ∧ f_X4_typedNumber tf tx ≤ 3652058 := by
  have ht0 := ht (Int.toNat 0)
  have ht1 := ht (Int.toNat 1)
  have ht2 := ht (Int.toNat 2)
  have ht3 := ht (Int.toNat 3)
  have ht5 := ht (Int.toNat 5)
  have ht6 := ht (Int.toNat 6)
  have ht7 := ht (Int.toNat 7)
  have ht8 := ht (Int.toNat 8)
  have ht9 := ht (Int.toNat 9)
  have hy : -200000 ≤ (((10 * (((10 * (((10 * ((0 + (tf (Int.toNat 0))) - 48)) + (tf (Int.toNat 1))) - 48)) + (tf (Int.toNat 2))) - 48)) + (tf (Int.toNat 3))) - 48) ∧ (((10 * (((10 * (((10 * ((0 + (tf (Int.toNat 0))) - 48)) + (tf (Int.toNat 1))) - 48)) + (tf (Int.toNat 2))) - 48)) + (tf (Int.toNat 3))) - 48) ≤ 200000 := by omega
  have hmo : -200000 ≤ (((10 * ((0 + (tf (Int.toNat 5))) - 48)) + (tf (Int.toNat 6))) - 48) ∧ (((10 * ((0 + (tf (Int.toNat 5))) - 48)) + (tf (Int.toNat 6))) - 48) ≤ 200000 := by omega
  have hda : -200000 ≤ (((10 * ((0 + (tf (Int.toNat 8))) - 48)) + (tf (Int.toNat 9))) - 48) ∧ (((10 * ((0 + (tf (Int.toNat 8))) - 48)) + (tf (Int.toNat 9))) - 48) ≤ 200000 := by omega
  have hwk : -200000 ≤ (((10 * ((0 + (tf (Int.toNat 6))) - 48)) + (tf (Int.toNat 7))) - 48) ∧ (((10 * ((0 + (tf (Int.toNat 6))) - 48)) + (tf (Int.toNat 7))) - 48) ≤ 200000 := by omega
  have hwd : -200000 ≤ ((0 + (tf (Int.toNat 9))) - 48) ∧ ((0 + (tf (Int.toNat 9))) - 48) ≤ 200000 := by omega
  have hyd : -200000 ≤ (((10 * (((10 * ((0 + (tf (Int.toNat 5))) - 48)) + (tf (Int.toNat 6))) - 48)) + (tf (Int.toNat 7))) - 48) ∧ (((10 * (((10 * ((0 + (tf (Int.toNat 5))) - 48)) + (tf (Int.toNat 6))) - 48)) + (tf (Int.toNat 7))) - 48) ≤ 200000 := by omega
  unfold f_X4_typedNumber
  generalize (((10 * (((10 * (((10 * ((0 + (tf (Int.toNat 0))) - 48)) + (tf (Int.toNat 1))) - 48)) + (tf (Int.toNat 2))) - 48)) + (tf (Int.toNat 3))) - 48) = y at hy ⊢
  generalize (((10 * (((10 * ((0 + (tf (Int.toNat 5))) - 48)) + (tf (Int.toNat 6))) - 48)) + (tf (Int.toNat 7))) - 48) = yd at hyd ⊢
  generalize (((10 * ((0 + (tf (Int.toNat 5))) - 48)) + (tf (Int.toNat 6))) - 48) = mo at hmo ⊢
  generalize (((10 * ((0 + (tf (Int.toNat 8))) - 48)) + (tf (Int.toNat 9))) - 48) = da at hda ⊢
  generalize (((10 * ((0 + (tf (Int.toNat 6))) - 48)) + (tf (Int.toNat 7))) - 48) = wk at hwk ⊢
  generalize ((0 + (tf (Int.toNat 9))) - 48) = wd at hwd ⊢
  clear ht0 ht1 ht2 ht3 ht5 ht6 ht7 ht8 ht9
  have q1 := c9_civN y mo da
  have q2 := b_X0_weekNumber y wk wd (by omega) (by omega) (by omega)
  have q3 := c9_ydN y yd
  (repeat' split) <;> omega
theorem c9_ztx (b ln : Nat → Int) (ty : Int) : -1 ≤ ztx b ln ty 3 ∧ ztx b ln ty 3 ≤ 2 := by
  have t3 : ztx b ln ty 3 = if b 2 = ty ∧ b 2 = ln 2 then 2 else if b 1 = ty ∧ b 1 = ln 1 then 1 else if b 0 = ty ∧ b 0 = ln 0 then 0 else -1 := rfl
  rw [t3]
  (repeat' split) <;> omega
theorem c9_zfa (b : Nat → Int) : ∀ n : Nat, 0 ≤ zfa b n := by
  intro n
  induction n with
  | zero => exact Int.le_refl 0
  | succ n ih =>
    rw [zfa]
    split <;> omega
theorem c9_zc (we : Int) (kf af bf zf : Nat → Int) (ru a b : Int) (hr : RKX kf af bf zf ru) (h : 0 ≤ a ∧ a ≤ b ∧ b ≤ 3652058) : zcn (wkX4 we kf af bf zf ru) (b - a).toNat a = zcn (wkX5 we kf af bf zf ru) (b - a).toNat a :=
  zcn_c _ _ _ _ (fun j h1 h2 => e_wk we kf af bf zf ru j hr (by omega))
theorem c9_zm (we : Int) (kf af bf zf : Nat → Int) (ru st : Int) (hr : RKX kf af bf zf ru) (fu : Nat) (n lf : Int) : zmv (wkX4 we kf af bf zf ru) st fu n lf = zmv (wkX5 we kf af bf zf ru) st fu n lf :=
  zmv_c _ _ _ (fun j h1 h2 => e_wk we kf af bf zf ru j hr ⟨h1, h2⟩) _ _ _
theorem c9_rule (kk aa bb cz : Int) (h : f_X5_isRule kk aa bb cz = 1) : (0 ≤ kk ∧ kk ≤ 3) ∧ (kk = 1 ∧ -100 ≤ aa ∧ aa ≤ 100 ∨ kk ≠ 1 ∧ 1 ≤ aa ∧ aa ≤ 12) ∧ (kk = 1 ∨ kk = 2 ∧ 1 ≤ bb ∧ bb ≤ 7 ∨ kk ≠ 2 ∧ 1 ≤ bb ∧ bb ≤ 31) ∧ (kk ≠ 2 ∨ cz = -1 ∨ 1 ≤ cz ∧ cz ≤ 4) := by
  have hl := len_b 4 aa
  rw [e_len] at hl
  unfold f_X5_isRule at h
  rw [e_in aa 1 12, e_in bb 1 (f_X5_lengthOf 4 aa), e_in aa (-100) 100, e_in bb 1 7, e_in cz 1 4] at h
  revert h
  (repeat' split) <;> omega
theorem RKX_add {kf af bf zf : Nat → Int} {ru kk aa bb cz : Int} (h : RKX kf af bf zf ru) (h0 : 0 ≤ ru) (hn : f_X5_isRule kk aa bb cz = 1) : RKX (zup kf ru.toNat kk) (zup af ru.toNat aa) (zup bf ru.toNat bb) (zup zf ru.toNat cz) (ru + 1) := by
  intro j hj
  unfold zup
  by_cases e : j = ru.toNat
  · rw [if_pos e, if_pos e, if_pos e, if_pos e]
    exact c9_rule kk aa bb cz hn
  · rw [if_neg e, if_neg e, if_neg e, if_neg e]
    exact h j (by omega)
def zrm (rf : Nat → Nat) (ix : Int) : Nat → Nat := fun j => if (j : Int) < ix then rf j else rf (j + 1)
theorem RKX_rm {kf af bf zf kg ag bg zg : Nat → Int} {ru ix : Int} (h : RKX kf af bf zf ru) (hk : ∀ j : Nat, (j : Int) < ru - 1 → kg j = if (j : Int) < ix then kf j else kf (j + 1)) (ha : ∀ j : Nat, (j : Int) < ru - 1 → ag j = if (j : Int) < ix then af j else af (j + 1)) (hb : ∀ j : Nat, (j : Int) < ru - 1 → bg j = if (j : Int) < ix then bf j else bf (j + 1)) (hz : ∀ j : Nat, (j : Int) < ru - 1 → zg j = if (j : Int) < ix then zf j else zf (j + 1)) : RKX kg ag bg zg (ru - 1) := by
  intro j hj
  rw [hk j hj, ha j hj, hb j hj, hz j hj]
  by_cases e : (j : Int) < ix
  · rw [if_pos e, if_pos e, if_pos e, if_pos e]
    exact h j (by omega)
  · rw [if_neg e, if_neg e, if_neg e, if_neg e]
    exact h (j + 1) (by omega)
theorem zOut_add {D : va_G} {ws : va_W} {H : Heap} {ru : Int} {rf : Nat → Nat} {kf af bf zf : Nat → Int} {qn : Nat} {kk aa bb cz : Int} (h0 : 0 ≤ ru) (h : ∀ k : Nat, (k : Int) < ru → zOut D ws H (rf k) (oX3 (kf k) (af k) (bf k) (zf k))) (hn : zOut D ws H qn (oX3 kk aa bb cz)) : ∀ k : Nat, (k : Int) < ru + 1 → zOut D ws H (va_up rf ru.toNat qn k) (oX3 (zup kf ru.toNat kk k) (zup af ru.toNat aa k) (zup bf ru.toNat bb k) (zup zf ru.toNat cz k)) := by
  intro k hk
  unfold va_up zup
  by_cases e : k = ru.toNat
  · rw [if_pos e, if_pos e, if_pos e, if_pos e, if_pos e]
    exact hn
  · rw [if_neg e, if_neg e, if_neg e, if_neg e, if_neg e]
    exact h k (by omega)
theorem zEF_add {ru : Int} {rf : Nat → Nat} {ef eg : Nat → Option Nat} {qn : Nat} (h0 : 0 ≤ ru) (h : ∀ j : Nat, (j : Int) < ru → ef j = some (rf j)) (h1 : (∀ j : Nat, (j : Int) < ru → eg j = ef j) ∧ eg (Int.toNat ru) = some qn) : ∀ j : Nat, (j : Int) < ru + 1 → eg j = some (va_up rf ru.toNat qn j) := by
  intro j hj
  unfold va_up
  by_cases e : j = ru.toNat
  · rw [if_pos e, e]
    exact h1.2
  · rw [if_neg e, h1.1 j (by omega)]
    exact h j (by omega)
theorem zOut_rm {D : va_G} {ws : va_W} {H : Heap} {ru ix : Int} {rf : Nat → Nat} {kf af bf zf kg ag bg zg : Nat → Int} (h : ∀ k : Nat, (k : Int) < ru → zOut D ws H (rf k) (oX3 (kf k) (af k) (bf k) (zf k))) (hk : ∀ j : Nat, (j : Int) < ru - 1 → kg j = if (j : Int) < ix then kf j else kf (j + 1)) (ha : ∀ j : Nat, (j : Int) < ru - 1 → ag j = if (j : Int) < ix then af j else af (j + 1)) (hb : ∀ j : Nat, (j : Int) < ru - 1 → bg j = if (j : Int) < ix then bf j else bf (j + 1)) (hz : ∀ j : Nat, (j : Int) < ru - 1 → zg j = if (j : Int) < ix then zf j else zf (j + 1)) : ∀ k : Nat, (k : Int) < ru - 1 → zOut D ws H (zrm rf ix k) (oX3 (kg k) (ag k) (bg k) (zg k)) := by
  intro k hk9
  rw [hk k hk9, ha k hk9, hb k hk9, hz k hk9]
  unfold zrm
  by_cases e : (k : Int) < ix
  · rw [if_pos e, if_pos e, if_pos e, if_pos e, if_pos e]
    exact h k (by omega)
  · rw [if_neg e, if_neg e, if_neg e, if_neg e, if_neg e]
    exact h (k + 1) (by omega)
theorem zEF_rm {ru ix : Int} {rf : Nat → Nat} {ef eg : Nat → Option Nat} (h : ∀ j : Nat, (j : Int) < ru → ef j = some (rf j)) (h1 : ∀ j : Nat, (j : Int) < ru - 1 → eg j = if (j : Int) < ix then ef j else ef (j + 1)) : ∀ j : Nat, (j : Int) < ru - 1 → eg j = some (zrm rf ix j) := by
  intro j hj
  rw [h1 j hj]
  unfold zrm
  by_cases e : (j : Int) < ix
  · rw [if_pos e, if_pos e]
    exact h j (by omega)
  · rw [if_neg e, if_neg e]
    exact h (j + 1) (by omega)
theorem zOut_one {D : va_G} {ws : va_W} {H : Heap} {kf af bf zf : Nat → Int} {qn : Nat} {kk aa bb cz : Int} (hn : zOut D ws H qn (oX3 kk aa bb cz)) : ∀ k : Nat, (k : Int) < 1 → zOut D ws H ((fun _ => qn) k) (oX3 (zup kf (Int.toNat 0) kk k) (zup af (Int.toNat 0) aa k) (zup bf (Int.toNat 0) bb k) (zup zf (Int.toNat 0) cz k)) := by
  intro k hk
  have e : k = Int.toNat 0 := by
    have h0 : Int.toNat 0 = 0 := rfl
    omega
  unfold zup
  rw [if_pos e, if_pos e, if_pos e, if_pos e]
  exact hn
theorem zEF_one {eg : Nat → Option Nat} {qn : Nat} (h : eg (Int.toNat 0) = some qn) : ∀ j : Nat, (j : Int) < 1 → eg j = some ((fun _ => qn) j) := by
  intro j hj
  have e : j = Int.toNat 0 := by
    have h0 : Int.toNat 0 = 0 := rfl
    omega
  rw [e]
  exact h
theorem RKX_one {kf af bf zf : Nat → Int} {kk aa bb cz : Int} (hn : f_X5_isRule kk aa bb cz = 1) : RKX (zup kf (Int.toNat 0) kk) (zup af (Int.toNat 0) aa) (zup bf (Int.toNat 0) bb) (zup zf (Int.toNat 0) cz) 1 := by
  intro j hj
  have e : j = Int.toNat 0 := by
    have h0 : Int.toNat 0 = 0 := rfl
    omega
  unfold zup
  rw [if_pos e, if_pos e, if_pos e, if_pos e]
  exact c9_rule kk aa bb cz hn
