/-! THE CLAIM OUT OF ONE WALK OF THE LAW'S BODY. Your part is whole_start (and what it stands on); all else here is the same for every law, but numbers. -/
def R_law : String := "CivilDaysLaw"
def lw_P (b : Addr) (xs : List Int32) (args : Array Value) (s : State) : Prop := args = #[.ref b] ∧ s.IntsAt b xs ∧ xs.length ≤ 3072 ∧ (Jvm.Cond.and given_1 narrow_1).before args s = true
def lw_Q (_ : Array Value) (s : State) (o : Outcome) (t : State) : Prop := o = .returned (some (.int 1)) ∧ Framed s o t [] 601024 7293033
def lw_Z (below : List Frame) (a : Array Value) (s : State) : State → Prop := fun t => ∃ o, t.status = .running ∧ Ended t below o ∧ lw_Q a s o t
/-- the law's own end, with 1 on the stack, nothing written that was there before, its room as the claim has it -/
theorem lw_ret {p : Program} {l : Launch} {e : Env} {s : State} {m : MethodId} {below : List Frame} {meth : Method} {c : Code} {b : Nat} (hx : p.tables.exec = Jvm.exec) (hb : c.code = code) (hr : meth.sig.returnType = ret) (hlocks : meth.locks = false) {pc : Nat} {H : Heap} {ls : Array Slot} (hdg : decode code pc = .ok (.ireturn, 1)) : W p l e room_1 s m #[Value.ref b] below meth c H [] 601024 7293033 (lw_Z below #[Value.ref b] s) (F0 m pc ls [.int 1]) := by
  intro T hT X
  obtain ⟨fs, hret, hrun, hended, hW, hframe⟩ := X.leave (v := some (.int 1)) (hlocks := hlocks) (fun h => by rw [hr] at h; cases h)
  have hmeth' : T.vm.method? m = some meth := X.method'
  refine ⟨T.setFrames fs, ?_, .returned (some (.int 1)), hrun, hended, rfl, ⟨_, rfl⟩, hW, hframe⟩
  jvm_step X.here [X.here.top, hx, hb, hdg, hmeth', hr, ret, narrow_b1]
  (try refine ⟨rfl, ?_⟩); (try refine ⟨rfl, ?_⟩)
  first | (intro acts; rw [hret _ acts rfl rfl rfl]) | rw [hret _ _ rfl rfl rfl]
  exact Steps.refl _
/-- what holds at the law's entry: the machine, the code, the tables' words (any of lw_tbl by 'hts w (by decide +kernel)'), the script of L ints xs at the cell b, what the Statement gives of the start (any of its parts by flat_of_before) -/
def lw_At (p : Program) (s : State) (m : MethodId) (meth : Method) (c : Code) (b L : Nat) (xs : Nat → Int32) : Prop :=
  p.tables.exec = Jvm.exec ∧ c.code = code ∧ meth.sig.returnType = ret ∧ c.maxLocals = 7 ∧ s.vm.findClass R_law = some m.cls ∧ (∀ w ∈ lw_tbl, w.before #[Value.ref b] s = true) ∧ va_X b L xs s s.heap ∧ b < s.heap.size ∧ meth.locks = false ∧ (Jvm.Cond.and given_1 narrow_1).before #[Value.ref b] s = true

set_option maxRecDepth 20000 in
theorem ggL_law_X4_init : GoodIn wsL_law wsX4_init := goodIn_r _ [9, 10, 11, 12, 13, 14, 15, 16, 17, 18, 19, 20, 21, 22, 23, 24, 25, 26, 27, 28, 29, 30, 31, 32, 33, 34, 35, 36, 37, 38, 39, 40, 41, 42, 43, 44, 45, 46, 47, 48, 49, 50, 51, 52, 53, 54, 55, 56, 2, 57, 58, 59, 60, 61, 62, 63, 64, 65, 66, 67, 68, 69, 70, 71, 72, 73, 811, 812, 813, 814, 815, 816, 829, 830, 831, 832, 833, 834, 835, 836] (by decide +kernel) (by decide +kernel)
set_option maxRecDepth 20000 in
theorem gL_law_X4_init : GoodIn wsL_law (wsX4_init) := ggL_law_X4_init
set_option maxRecDepth 20000 in
theorem ggL_law_X5_init : GoodIn wsL_law wsX5_init := goodIn_r _ [76, 77, 11, 12, 13, 78, 79, 80, 81, 82, 83, 84, 85, 817, 818, 819, 820, 821, 822, 823, 824, 825, 826, 827, 828] (by decide +kernel) (by decide +kernel)
set_option maxRecDepth 20000 in
theorem gL_law_X5_init : GoodIn wsL_law (wsX5_init) := ggL_law_X5_init
set_option maxRecDepth 20000 in
theorem ggL_law_L_civil : GoodIn wsL_law wsL_civil := goodIn_ca (goodIn_ca (goodIn_r _ [89, 90, 91, 92, 93, 94, 2, 95, 96, 97, 98, 99, 100, 101, 102, 103, 104, 105, 106, 107, 108, 109, 110, 111, 112, 113, 114, 115, 116, 117, 118, 119, 120, 121, 122, 123, 124, 125, 126, 127, 128, 14, 811, 812, 813, 814, 815, 816] (by decide +kernel) (by decide +kernel)) (goodIn_sub (fun _ h => List.mem_append_left _ (List.mem_append_left _ (List.mem_append_left _ (List.mem_append_right _ h)))) (by decide +kernel))) (goodIn_sub (fun _ h => List.mem_append_left _ (List.mem_append_left _ (List.mem_append_right _ h))) (by decide +kernel))
set_option maxRecDepth 20000 in
theorem gL_law_L_civil : GoodIn wsL_law (va_wsS RL 83 yL_civil wsL_civil) := goodIn_app (goodIn_of _ (by decide +kernel)) ggL_law_L_civil
set_option maxRecDepth 20000 in
theorem ggL_law_X5_civil : GoodIn wsL_law wsX5_civil := goodIn_r _ [132, 133, 134, 135, 5, 136, 137, 138, 139, 140, 141, 142, 143, 144, 145, 146, 147, 148, 149, 150, 151, 152, 153, 154, 155, 156, 157, 158, 78, 817, 818, 819, 820, 821, 822, 823, 824, 825, 826, 827, 828] (by decide +kernel) (by decide +kernel)
set_option maxRecDepth 20000 in
theorem gL_law_X5_civil : GoodIn wsL_law (wsV RL 88 RX5 yX5_civil wsX5_civil) := goodIn_app (goodIn_of _ (by decide +kernel)) ggL_law_X5_civil
set_option maxRecDepth 20000 in
theorem ggL_law_X5_thrown : GoodIn wsL_law wsX5_thrown := goodIn_r _ [162, 133, 817, 818, 819, 820, 821, 822, 823, 824, 825, 826, 827, 828] (by decide +kernel) (by decide +kernel)
set_option maxRecDepth 20000 in
theorem gL_law_X5_thrown : GoodIn wsL_law (wsV RL 89 RX5 yX5_thrown wsX5_thrown) := goodIn_app (goodIn_of _ (by decide +kernel)) ggL_law_X5_thrown
set_option maxRecDepth 20000 in
theorem ggL_law_L_days : GoodIn wsL_law wsL_days := goodIn_ca (goodIn_ca (goodIn_r _ [165, 90, 91, 166, 167, 168, 2, 169, 96, 97, 98, 99, 100, 170, 171, 103, 172, 173, 123, 124, 125, 126, 127, 128, 14, 174, 175, 176, 811, 812, 813, 814, 815, 816] (by decide +kernel) (by decide +kernel)) (goodIn_sub (fun _ h => List.mem_append_left _ (List.mem_append_left _ (List.mem_append_left _ (List.mem_append_right _ h)))) (by decide +kernel))) (goodIn_sub (fun _ h => List.mem_append_left _ (List.mem_append_left _ (List.mem_append_right _ h))) (by decide +kernel))
set_option maxRecDepth 20000 in
theorem gL_law_L_days : GoodIn wsL_law (va_wsS RL 93 yL_days wsL_days) := goodIn_app (goodIn_of _ (by decide +kernel)) ggL_law_L_days
set_option maxRecDepth 20000 in
theorem ggL_law_X5_days : GoodIn wsL_law wsX5_days := goodIn_r _ [180, 181, 133, 134, 135, 5, 136, 137, 138, 139, 155, 156, 157, 158, 78, 182, 183, 184, 817, 818, 819, 820, 821, 822, 823, 824, 825, 826, 827, 828] (by decide +kernel) (by decide +kernel)
set_option maxRecDepth 20000 in
theorem gL_law_X5_days : GoodIn wsL_law (wsV RL 96 RX5 yX5_days wsX5_days) := goodIn_app (goodIn_of _ (by decide +kernel)) ggL_law_X5_days
set_option maxRecDepth 20000 in
theorem ggL_law_L_week : GoodIn wsL_law wsL_week := goodIn_ca (goodIn_ca (goodIn_r _ [187, 90, 91, 188, 189, 190, 2, 191, 96, 97, 98, 99, 100, 192, 193, 103, 194, 105, 106, 107, 195, 196, 197, 198, 199, 200, 201, 202, 203, 120, 121, 122, 204, 171, 172, 173, 123, 124, 125, 126, 127, 128, 14, 811, 812, 813, 814, 815, 816] (by decide +kernel) (by decide +kernel)) (goodIn_sub (fun _ h => List.mem_append_left _ (List.mem_append_left _ (List.mem_append_left _ (List.mem_append_right _ h)))) (by decide +kernel))) (goodIn_sub (fun _ h => List.mem_append_left _ (List.mem_append_left _ (List.mem_append_right _ h))) (by decide +kernel))
set_option maxRecDepth 20000 in
theorem gL_law_L_week : GoodIn wsL_law (va_wsS RL 97 yL_week wsL_week) := goodIn_app (goodIn_of _ (by decide +kernel)) ggL_law_L_week
set_option maxRecDepth 20000 in
theorem ggL_law_X5_week : GoodIn wsL_law wsX5_week := goodIn_r _ [208, 133, 134, 135, 5, 136, 137, 138, 139, 209, 210, 211, 181, 212, 213, 214, 215, 216, 217, 152, 153, 154, 182, 183, 184, 155, 156, 157, 158, 78, 817, 818, 819, 820, 821, 822, 823, 824, 825, 826, 827, 828] (by decide +kernel) (by decide +kernel)
set_option maxRecDepth 20000 in
theorem gL_law_X5_week : GoodIn wsL_law (wsV RL 99 RX5 yX5_week wsX5_week) := goodIn_app (goodIn_of _ (by decide +kernel)) ggL_law_X5_week
set_option maxRecDepth 20000 in
theorem ggL_law_L_easter : GoodIn wsL_law wsL_easter := goodIn_ca (goodIn_ca (goodIn_r _ [220, 90, 91, 221, 222, 223, 2, 224, 96, 97, 98, 99, 100, 225, 226, 103, 227, 117, 118, 119, 114, 115, 116, 120, 121, 122, 228, 229, 230, 231, 175, 176, 123, 124, 125, 126, 127, 128, 14, 811, 812, 813, 814, 815, 816] (by decide +kernel) (by decide +kernel)) (goodIn_sub (fun _ h => List.mem_append_left _ (List.mem_append_left _ (List.mem_append_left _ (List.mem_append_right _ h)))) (by decide +kernel))) (goodIn_sub (fun _ h => List.mem_append_left _ (List.mem_append_left _ (List.mem_append_right _ h))) (by decide +kernel))
set_option maxRecDepth 20000 in
theorem gL_law_L_easter : GoodIn wsL_law (va_wsS RL 100 yL_easter wsL_easter) := goodIn_app (goodIn_of _ (by decide +kernel)) ggL_law_L_easter
set_option maxRecDepth 20000 in
theorem ggL_law_X5_easter : GoodIn wsL_law wsX5_easter := goodIn_r _ [235, 133, 134, 135, 5, 136, 137, 138, 139, 236, 237, 238, 149, 150, 151, 152, 153, 154, 143, 144, 145, 146, 147, 148, 182, 183, 184, 155, 156, 157, 158, 78, 817, 818, 819, 820, 821, 822, 823, 824, 825, 826, 827, 828] (by decide +kernel) (by decide +kernel)
set_option maxRecDepth 20000 in
theorem gL_law_X5_easter : GoodIn wsL_law (wsV RL 102 RX5 yX5_easter wsX5_easter) := goodIn_app (goodIn_of _ (by decide +kernel)) ggL_law_X5_easter
set_option maxRecDepth 20000 in
theorem ggL_law_L_nth : GoodIn wsL_law wsL_nth := goodIn_ca (goodIn_ca (goodIn_r _ [241, 90, 91, 242, 243, 244, 2, 245, 96, 97, 98, 99, 100, 246, 247, 103, 248, 105, 106, 107, 108, 109, 110, 195, 196, 197, 117, 118, 119, 114, 115, 116, 120, 121, 122, 111, 112, 113, 228, 229, 230, 231, 175, 176, 123, 124, 125, 126, 127, 128, 14, 811, 812, 813, 814, 815, 816] (by decide +kernel) (by decide +kernel)) (goodIn_sub (fun _ h => List.mem_append_left _ (List.mem_append_left _ (List.mem_append_left _ (List.mem_append_right _ h)))) (by decide +kernel))) (goodIn_sub (fun _ h => List.mem_append_left _ (List.mem_append_left _ (List.mem_append_right _ h))) (by decide +kernel))
set_option maxRecDepth 20000 in
theorem gL_law_L_nth : GoodIn wsL_law (va_wsS RL 103 yL_nth wsL_nth) := goodIn_app (goodIn_of _ (by decide +kernel)) ggL_law_L_nth
set_option maxRecDepth 20000 in
theorem ggL_law_X5_nth : GoodIn wsL_law wsX5_nth := goodIn_r _ [252, 133, 137, 138, 5, 139, 134, 135, 136, 253, 254, 255, 149, 150, 151, 152, 153, 154, 143, 144, 145, 146, 147, 148, 182, 183, 184, 155, 156, 157, 158, 78, 817, 818, 819, 820, 821, 822, 823, 824, 825, 826, 827, 828] (by decide +kernel) (by decide +kernel)
set_option maxRecDepth 20000 in
theorem gL_law_X5_nth : GoodIn wsL_law (wsV RL 106 RX5 yX5_nth wsX5_nth) := goodIn_app (goodIn_of _ (by decide +kernel)) ggL_law_X5_nth
set_option maxRecDepth 20000 in
theorem ggL_law_L_move : GoodIn wsL_law wsL_move := goodIn_ca (goodIn_ca (goodIn_ca (goodIn_ca (goodIn_r _ [258, 90, 91, 259, 260, 261, 262, 263, 2, 264, 265, 266, 96, 97, 98, 99, 100, 267, 268, 269, 127, 128, 270, 271, 272, 273, 274, 275, 14, 276, 277, 278, 279, 280, 281, 103, 282, 204, 171, 172, 173, 283, 284, 285, 286, 287, 288, 289, 290, 291, 292, 293, 294, 295, 296, 297, 298, 299, 117, 118, 119, 114, 115, 116, 120, 121, 122, 300, 301, 302, 111, 112, 113, 123, 124, 125, 126, 811, 812, 813, 814, 815, 816] (by decide +kernel) (by decide +kernel)) (goodIn_sub (fun _ h => List.mem_append_left _ (List.mem_append_right _ h)) (by decide +kernel))) (goodIn_sub (fun _ h => List.mem_append_left _ (List.mem_append_left _ (List.mem_append_left _ (List.mem_append_right _ h)))) (by decide +kernel))) (goodIn_sub (fun _ h => List.mem_append_left _ (List.mem_append_left _ (List.mem_append_right _ h))) (by decide +kernel))) (goodIn_sub (fun _ h => List.mem_append_right _ h) (by decide +kernel))
set_option maxRecDepth 20000 in
theorem gL_law_L_move : GoodIn wsL_law (va_wsS RL 107 yL_move wsL_move) := goodIn_app (goodIn_of _ (by decide +kernel)) ggL_law_L_move
set_option maxRecDepth 20000 in
theorem ggL_law_X5_move : GoodIn wsL_law wsX5_move := goodIn_r _ [306, 78, 133, 307, 308, 134, 135, 5, 136, 137, 138, 139, 309, 310, 311, 312, 313, 314, 315, 152, 153, 154, 316, 317, 318, 149, 150, 151, 143, 144, 145, 146, 147, 148, 319, 320, 321, 155, 156, 157, 158, 817, 818, 819, 820, 821, 822, 823, 824, 825, 826, 827, 828] (by decide +kernel) (by decide +kernel)
set_option maxRecDepth 20000 in
theorem gL_law_X5_move : GoodIn wsL_law (wsV RL 110 RX5 yX5_move wsX5_move) := goodIn_app (goodIn_of _ (by decide +kernel)) ggL_law_X5_move
set_option maxRecDepth 20000 in
theorem ggL_law_L_told : GoodIn wsL_law wsL_told := goodIn_ca (goodIn_ca (goodIn_ca (goodIn_r _ [324, 90, 91, 259, 325, 326, 327, 2, 328, 127, 128, 96, 97, 98, 99, 100, 270, 271, 272, 273, 274, 275, 14, 329, 293, 103, 294, 295, 296, 288, 289, 290, 291, 330, 298, 299, 292, 117, 118, 119, 114, 115, 116, 120, 121, 122, 331, 301, 302, 297, 174, 175, 176, 332, 333, 334, 335, 336, 337, 338, 201, 202, 203, 339, 340, 341, 342, 343, 112, 113, 344, 199, 200, 811, 812, 813, 814, 815, 816] (by decide +kernel) (by decide +kernel)) (goodIn_sub (fun _ h => List.mem_append_left _ (List.mem_append_left _ (List.mem_append_right _ h))) (by decide +kernel))) (goodIn_sub (fun _ h => List.mem_append_left _ (List.mem_append_left _ (List.mem_append_left _ (List.mem_append_right _ h)))) (by decide +kernel))) (goodIn_sub (fun _ h => List.mem_append_right _ h) (by decide +kernel))
set_option maxRecDepth 20000 in
theorem gL_law_L_told : GoodIn wsL_law (va_wsS RL 111 yL_told wsL_told) := goodIn_app (goodIn_of _ (by decide +kernel)) ggL_law_L_told
set_option maxRecDepth 20000 in
theorem ggL_law_X5_told : GoodIn wsL_law wsX5_told := goodIn_r _ [348, 78, 133, 134, 135, 5, 136, 137, 138, 139, 349, 350, 351, 313, 314, 315, 152, 153, 154, 316, 317, 318, 149, 150, 151, 143, 144, 145, 146, 147, 148, 319, 320, 321, 182, 183, 184, 352, 353, 354, 355, 356, 357, 215, 216, 217, 212, 213, 214, 817, 818, 819, 820, 821, 822, 823, 824, 825, 826, 827, 828] (by decide +kernel) (by decide +kernel)
set_option maxRecDepth 20000 in
theorem gL_law_X5_told : GoodIn wsL_law (wsV RL 113 RX5 yX5_told wsX5_told) := goodIn_app (goodIn_of _ (by decide +kernel)) ggL_law_X5_told
set_option maxRecDepth 20000 in
theorem ggL_law_L_between : GoodIn wsL_law wsL_between := goodIn_ca (goodIn_ca (goodIn_ca (goodIn_r _ [360, 90, 91, 259, 361, 362, 363, 2, 364, 96, 97, 98, 99, 100, 267, 268, 269, 127, 128, 270, 271, 272, 273, 274, 275, 14, 365, 366, 367, 368, 369, 103, 370, 292, 293, 294, 295, 296, 288, 289, 290, 291, 297, 298, 299, 117, 118, 119, 114, 115, 116, 120, 121, 122, 371, 284, 285, 286, 287, 300, 301, 302, 111, 112, 113, 811, 812, 813, 814, 815, 816] (by decide +kernel) (by decide +kernel)) (goodIn_sub (fun _ h => List.mem_append_left _ (List.mem_append_left _ (List.mem_append_left _ (List.mem_append_right _ h)))) (by decide +kernel))) (goodIn_sub (fun _ h => List.mem_append_left _ (List.mem_append_left _ (List.mem_append_right _ h))) (by decide +kernel))) (goodIn_sub (fun _ h => List.mem_append_right _ h) (by decide +kernel))
set_option maxRecDepth 20000 in
theorem gL_law_L_between : GoodIn wsL_law (va_wsS RL 114 yL_between wsL_between) := goodIn_app (goodIn_of _ (by decide +kernel)) ggL_law_L_between
set_option maxRecDepth 20000 in
theorem ggL_law_X5_between : GoodIn wsL_law wsX5_between := goodIn_r _ [375, 78, 133, 134, 135, 5, 136, 137, 138, 139, 376, 377, 378, 313, 314, 315, 152, 153, 154, 316, 317, 318, 149, 150, 151, 143, 144, 145, 146, 147, 148, 309, 310, 311, 308, 312, 319, 320, 321, 817, 818, 819, 820, 821, 822, 823, 824, 825, 826, 827, 828] (by decide +kernel) (by decide +kernel)
set_option maxRecDepth 20000 in
theorem gL_law_X5_between : GoodIn wsL_law (wsV RL 116 RX5 yX5_between wsX5_between) := goodIn_app (goodIn_of _ (by decide +kernel)) ggL_law_X5_between
set_option maxRecDepth 20000 in
theorem ggL_law_L_copy : GoodIn wsL_law wsL_copy := goodIn_ca (goodIn_ca (goodIn_ca (goodIn_r _ [381, 90, 259, 382, 383, 384, 2, 385, 96, 97, 98, 99, 100, 270, 271, 272, 273, 274, 275, 14, 123, 124, 125, 126, 127, 128, 811, 812, 813, 814, 815, 816] (by decide +kernel) (by decide +kernel)) (goodIn_sub (fun _ h => List.mem_append_left _ (List.mem_append_left _ (List.mem_append_left _ (List.mem_append_right _ h)))) (by decide +kernel))) (goodIn_sub (fun _ h => List.mem_append_right _ h) (by decide +kernel))) (goodIn_sub (fun _ h => List.mem_append_left _ (List.mem_append_left _ (List.mem_append_right _ h))) (by decide +kernel))
set_option maxRecDepth 20000 in
theorem gL_law_L_copy : GoodIn wsL_law (va_wsS RL 117 yL_copy wsL_copy) := goodIn_app (goodIn_of _ (by decide +kernel)) ggL_law_L_copy
set_option maxRecDepth 20000 in
theorem ggL_law_X5_copy : GoodIn wsL_law wsX5_copy := goodIn_r _ [389, 78, 133, 134, 135, 5, 136, 137, 138, 139, 155, 156, 157, 158, 817, 818, 819, 820, 821, 822, 823, 824, 825, 826, 827, 828] (by decide +kernel) (by decide +kernel)
set_option maxRecDepth 20000 in
theorem gL_law_X5_copy : GoodIn wsL_law (wsV RL 119 RX5 yX5_copy wsX5_copy) := goodIn_app (goodIn_of _ (by decide +kernel)) ggL_law_X5_copy
set_option maxRecDepth 20000 in
theorem ggL_law_L_holiday : GoodIn wsL_law wsL_holiday := goodIn_ca (goodIn_ca (goodIn_r _ [392, 91, 260, 393, 394, 395, 2, 396, 127, 128, 265, 266, 18, 397, 398, 399, 400, 401, 402, 403, 102, 103, 104, 105, 106, 107, 108, 109, 110, 111, 112, 113, 114, 115, 116, 117, 118, 119, 120, 121, 122, 404, 405, 196, 197, 406, 407, 408, 17, 409, 69, 410, 411, 412, 413, 11, 12, 414, 415, 416, 417, 418, 419, 420, 421, 67, 68, 32, 422, 423, 424, 425, 426, 427, 428, 429, 430, 431, 432, 433, 31, 434, 435, 290, 436, 437, 438, 439, 440, 441, 442, 443, 444, 445, 446, 447, 448, 61, 449, 450, 451, 452, 453, 454, 455, 456, 457, 458, 459, 289, 291, 460, 461, 462, 463, 811, 812, 813, 814, 815, 816, 837, 838, 839, 840, 829, 830, 831] (by decide +kernel) (by decide +kernel)) (goodIn_sub (fun _ h => List.mem_append_left _ (List.mem_append_left _ (List.mem_append_right _ h))) (by decide +kernel))) (goodIn_sub (fun _ h => List.mem_append_left _ (List.mem_append_right _ h)) (by decide +kernel))
set_option maxRecDepth 20000 in
theorem gL_law_L_holiday : GoodIn wsL_law (va_wsS RL 120 yL_holiday wsL_holiday) := goodIn_app (goodIn_of _ (by decide +kernel)) ggL_law_L_holiday
set_option maxRecDepth 20000 in
theorem ggL_law_X5_holiday : GoodIn wsL_law wsX5_holiday := goodIn_r _ [467, 468, 133, 79, 80, 81, 82, 469, 470, 5, 471, 137, 138, 139, 143, 144, 145, 146, 147, 148, 817, 818, 819, 820, 821, 822, 823, 824, 825, 826, 827, 828] (by decide +kernel) (by decide +kernel)
set_option maxRecDepth 20000 in
theorem gL_law_X5_holiday : GoodIn wsL_law (wsV RL 122 RX5 yX5_holiday wsX5_holiday) := goodIn_app (goodIn_of _ (by decide +kernel)) ggL_law_X5_holiday
set_option maxRecDepth 20000 in
theorem ggL_law_L_noHoliday : GoodIn wsL_law wsL_noHoliday := goodIn_ca (goodIn_r _ [474, 90, 475, 476, 477, 2, 478, 99, 100, 18, 406, 407, 408, 17, 409, 69, 479, 480, 481, 482, 32, 483, 484, 485, 486, 487, 488, 489, 490, 491, 492, 493, 494, 67, 68, 495, 461, 462, 463, 811, 812, 813, 814, 815, 816, 829, 830, 831] (by decide +kernel) (by decide +kernel)) (goodIn_sub (fun _ h => List.mem_append_left _ (List.mem_append_left _ (List.mem_append_left _ (List.mem_append_right _ h)))) (by decide +kernel))
set_option maxRecDepth 20000 in
theorem gL_law_L_noHoliday : GoodIn wsL_law (va_wsS RL 123 yL_noHoliday wsL_noHoliday) := goodIn_app (goodIn_of _ (by decide +kernel)) ggL_law_L_noHoliday
set_option maxRecDepth 20000 in
theorem ggL_law_X5_noHoliday : GoodIn wsL_law wsX5_noHoliday := goodIn_r _ [499, 468, 133, 79, 80, 81, 82, 137, 138, 5, 139, 817, 818, 819, 820, 821, 822, 823, 824, 825, 826, 827, 828] (by decide +kernel) (by decide +kernel)
set_option maxRecDepth 20000 in
theorem gL_law_X5_noHoliday : GoodIn wsL_law (wsV RL 126 RX5 yX5_noHoliday wsX5_noHoliday) := goodIn_app (goodIn_of _ (by decide +kernel)) ggL_law_X5_noHoliday
set_option maxRecDepth 20000 in
theorem ggL_law_L_weekend : GoodIn wsL_law wsL_weekend := goodIn_ca (goodIn_r _ [502, 91, 503, 504, 505, 2, 506, 127, 128, 58, 811, 812, 813, 814, 815, 816] (by decide +kernel) (by decide +kernel)) (goodIn_sub (fun _ h => List.mem_append_left _ (List.mem_append_left _ (List.mem_append_right _ h))) (by decide +kernel))
set_option maxRecDepth 20000 in
theorem gL_law_L_weekend : GoodIn wsL_law (va_wsS RL 127 yL_weekend wsL_weekend) := goodIn_app (goodIn_of _ (by decide +kernel)) ggL_law_L_weekend
set_option maxRecDepth 20000 in
theorem ggL_law_X5_weekend : GoodIn wsL_law wsX5_weekend := goodIn_r _ [510, 133, 83, 137, 138, 5, 139, 817, 818, 819, 820, 821, 822, 823, 824, 825, 826, 827, 828] (by decide +kernel) (by decide +kernel)
set_option maxRecDepth 20000 in
theorem gL_law_X5_weekend : GoodIn wsL_law (wsV RL 129 RX5 yX5_weekend wsX5_weekend) := goodIn_app (goodIn_of _ (by decide +kernel)) ggL_law_X5_weekend
set_option maxRecDepth 20000 in
theorem ggL_law_L_isHoliday : GoodIn wsL_law wsL_isHoliday := goodIn_ca (goodIn_ca (goodIn_r _ [513, 90, 259, 514, 515, 516, 2, 517, 18, 518, 96, 97, 98, 99, 100, 270, 271, 272, 273, 274, 275, 14, 406, 407, 408, 17, 409, 69, 519, 520, 521, 522, 483, 484, 485, 486, 487, 488, 489, 490, 523, 524, 525, 526, 32, 527, 528, 529, 399, 530, 531, 293, 103, 294, 295, 296, 288, 289, 290, 291, 532, 533, 534, 535, 414, 415, 416, 417, 403, 102, 104, 105, 106, 107, 108, 109, 110, 111, 112, 113, 114, 115, 116, 117, 118, 119, 120, 121, 122, 536, 226, 227, 228, 229, 230, 231, 175, 176, 537, 538, 539, 540, 541, 247, 248, 195, 196, 197, 542, 543, 544, 545, 811, 812, 813, 814, 815, 816, 829, 830, 831, 837, 838, 839, 840] (by decide +kernel) (by decide +kernel)) (goodIn_sub (fun _ h => List.mem_append_left _ (List.mem_append_left _ (List.mem_append_left _ (List.mem_append_right _ h)))) (by decide +kernel))) (goodIn_sub (fun _ h => List.mem_append_right _ h) (by decide +kernel))
set_option maxRecDepth 20000 in
theorem gL_law_L_isHoliday : GoodIn wsL_law (va_wsS RL 130 yL_isHoliday wsL_isHoliday) := goodIn_app (goodIn_of _ (by decide +kernel)) ggL_law_L_isHoliday
set_option maxRecDepth 20000 in
theorem ggL_law_X5_isHoliday : GoodIn wsL_law wsX5_isHoliday := goodIn_r _ [549, 78, 133, 134, 135, 5, 136, 137, 138, 139, 550, 551, 552, 553, 468, 79, 313, 314, 315, 152, 153, 154, 554, 555, 556, 557, 80, 81, 82, 236, 237, 238, 149, 150, 151, 143, 144, 145, 146, 147, 148, 182, 183, 184, 253, 254, 255, 140, 141, 142, 817, 818, 819, 820, 821, 822, 823, 824, 825, 826, 827, 828] (by decide +kernel) (by decide +kernel)
set_option maxRecDepth 20000 in
theorem gL_law_X5_isHoliday : GoodIn wsL_law (wsV RL 132 RX5 yX5_isHoliday wsX5_isHoliday) := goodIn_app (goodIn_of _ (by decide +kernel)) ggL_law_X5_isHoliday
set_option maxRecDepth 20000 in
theorem ggL_law_L_work : GoodIn wsL_law wsL_work := goodIn_ca (goodIn_ca (goodIn_ca (goodIn_r _ [560, 90, 259, 91, 561, 562, 563, 2, 564, 127, 128, 565, 566, 290, 567, 568, 435, 436, 22, 569, 289, 291, 96, 97, 98, 99, 100, 270, 271, 272, 273, 274, 275, 14, 570, 571, 572, 21, 573, 48, 574, 575, 576, 577, 58, 18, 174, 175, 103, 176, 578, 579, 580, 581, 47, 329, 293, 294, 295, 296, 288, 582, 583, 584, 585, 46, 586, 587, 121, 122, 588, 589, 590, 114, 115, 116, 591, 60, 61, 62, 592, 407, 408, 17, 409, 69, 593, 520, 521, 522, 483, 484, 485, 486, 487, 488, 489, 490, 523, 524, 525, 526, 32, 594, 533, 534, 399, 535, 414, 415, 416, 417, 403, 102, 104, 105, 106, 107, 108, 109, 110, 111, 112, 113, 117, 118, 119, 120, 536, 226, 227, 228, 229, 230, 231, 537, 538, 539, 540, 541, 247, 248, 195, 196, 197, 542, 543, 544, 545, 595, 596, 597, 598, 599, 600, 601, 602, 603, 811, 812, 813, 814, 815, 816, 832, 833, 834, 829, 830, 831, 837, 838, 839, 840] (by decide +kernel) (by decide +kernel)) (goodIn_sub (fun _ h => List.mem_append_left _ (List.mem_append_left _ (List.mem_append_right _ h))) (by decide +kernel))) (goodIn_sub (fun _ h => List.mem_append_left _ (List.mem_append_left _ (List.mem_append_left _ (List.mem_append_right _ h)))) (by decide +kernel))) (goodIn_sub (fun _ h => List.mem_append_right _ h) (by decide +kernel))
set_option maxRecDepth 20000 in
theorem gL_law_L_work : GoodIn wsL_law (va_wsS RL 133 yL_work wsL_work) := goodIn_app (goodIn_of _ (by decide +kernel)) ggL_law_L_work
set_option maxRecDepth 20000 in
theorem ggL_law_X5_work : GoodIn wsL_law wsX5_work := goodIn_r _ [607, 78, 133, 134, 135, 5, 136, 137, 138, 139, 608, 609, 610, 611, 83, 182, 183, 184, 550, 551, 552, 553, 468, 79, 313, 314, 315, 152, 153, 154, 554, 555, 556, 557, 80, 81, 82, 236, 237, 238, 149, 150, 151, 143, 144, 145, 146, 147, 148, 253, 254, 255, 140, 141, 142, 817, 818, 819, 820, 821, 822, 823, 824, 825, 826, 827, 828] (by decide +kernel) (by decide +kernel)
set_option maxRecDepth 20000 in
theorem gL_law_X5_work : GoodIn wsL_law (wsV RL 135 RX5 yX5_work wsX5_work) := goodIn_app (goodIn_of _ (by decide +kernel)) ggL_law_X5_work
set_option maxRecDepth 20000 in
theorem ggL_law_L_moveWork : GoodIn wsL_law wsL_moveWork := goodIn_ca (goodIn_ca (goodIn_ca (goodIn_ca (goodIn_r _ [614, 90, 259, 91, 260, 615, 616, 617, 2, 618, 127, 128, 265, 266, 565, 566, 290, 567, 22, 96, 97, 98, 99, 100, 270, 271, 272, 273, 274, 275, 14, 570, 571, 572, 21, 573, 48, 170, 171, 103, 172, 173, 574, 575, 576, 577, 58, 18, 174, 175, 176, 578, 579, 580, 581, 47, 329, 293, 294, 295, 296, 288, 289, 291, 582, 583, 584, 585, 46, 586, 587, 121, 122, 588, 589, 590, 114, 115, 116, 591, 60, 61, 62, 592, 407, 408, 17, 409, 69, 593, 520, 521, 522, 483, 484, 485, 486, 487, 488, 489, 490, 523, 524, 525, 526, 32, 594, 533, 534, 399, 535, 414, 415, 416, 417, 403, 102, 104, 105, 106, 107, 108, 109, 110, 111, 112, 113, 117, 118, 119, 120, 536, 226, 227, 228, 229, 230, 231, 537, 538, 539, 540, 541, 247, 248, 195, 196, 197, 542, 543, 544, 545, 595, 596, 597, 598, 599, 600, 601, 602, 603, 123, 124, 125, 126, 811, 812, 813, 814, 815, 816, 832, 833, 834, 829, 830, 831, 837, 838, 839, 840] (by decide +kernel) (by decide +kernel)) (goodIn_sub (fun _ h => List.mem_append_left _ (List.mem_append_left _ (List.mem_append_right _ h))) (by decide +kernel))) (goodIn_sub (fun _ h => List.mem_append_left _ (List.mem_append_right _ h)) (by decide +kernel))) (goodIn_sub (fun _ h => List.mem_append_left _ (List.mem_append_left _ (List.mem_append_left _ (List.mem_append_right _ h)))) (by decide +kernel))) (goodIn_sub (fun _ h => List.mem_append_right _ h) (by decide +kernel))
set_option maxRecDepth 20000 in
theorem gL_law_L_moveWork : GoodIn wsL_law (va_wsS RL 136 yL_moveWork wsL_moveWork) := goodIn_app (goodIn_of _ (by decide +kernel)) ggL_law_L_moveWork
set_option maxRecDepth 20000 in
theorem ggL_law_X5_moveWork : GoodIn wsL_law wsX5_moveWork := goodIn_r _ [622, 78, 133, 181, 134, 135, 5, 136, 137, 138, 139, 608, 609, 610, 611, 83, 182, 183, 184, 550, 551, 552, 553, 468, 79, 313, 314, 315, 152, 153, 154, 554, 555, 556, 557, 80, 81, 82, 236, 237, 238, 149, 150, 151, 143, 144, 145, 146, 147, 148, 253, 254, 255, 140, 141, 142, 155, 156, 157, 158, 817, 818, 819, 820, 821, 822, 823, 824, 825, 826, 827, 828] (by decide +kernel) (by decide +kernel)
set_option maxRecDepth 20000 in
theorem gL_law_X5_moveWork : GoodIn wsL_law (wsV RL 138 RX5 yX5_moveWork wsX5_moveWork) := goodIn_app (goodIn_of _ (by decide +kernel)) ggL_law_X5_moveWork
set_option maxRecDepth 20000 in
theorem ggL_law_L_write : GoodIn wsL_law wsL_write := goodIn_ca (goodIn_ca (goodIn_ca (goodIn_r _ [625, 90, 91, 259, 626, 627, 628, 2, 629, 127, 128, 26, 96, 97, 98, 99, 100, 270, 271, 272, 273, 274, 275, 14, 70, 71, 72, 25, 73, 53, 630, 631, 632, 633, 329, 293, 103, 294, 295, 296, 288, 289, 290, 291, 634, 635, 636, 637, 638, 639, 640, 641, 52, 642, 330, 298, 299, 292, 117, 118, 119, 114, 115, 116, 120, 121, 122, 331, 301, 302, 297, 643, 644, 645, 646, 332, 333, 334, 335, 336, 337, 338, 201, 202, 203, 174, 175, 176, 647, 648, 649, 650, 339, 340, 341, 651, 652, 653, 654, 811, 812, 813, 814, 815, 816, 835, 836] (by decide +kernel) (by decide +kernel)) (goodIn_sub (fun _ h => List.mem_append_left _ (List.mem_append_left _ (List.mem_append_right _ h))) (by decide +kernel))) (goodIn_sub (fun _ h => List.mem_append_left _ (List.mem_append_left _ (List.mem_append_left _ (List.mem_append_right _ h)))) (by decide +kernel))) (goodIn_sub (fun _ h => List.mem_append_right _ h) (by decide +kernel))
set_option maxRecDepth 20000 in
theorem gL_law_L_write : GoodIn wsL_law (va_wsS RL 139 yL_write wsL_write) := goodIn_app (goodIn_of _ (by decide +kernel)) ggL_law_L_write
set_option maxRecDepth 20000 in
theorem ggL_law_X5_write : GoodIn wsL_law wsX5_write := goodIn_r _ [658, 78, 133, 659, 134, 135, 5, 136, 137, 138, 139, 352, 353, 354, 182, 183, 184, 313, 314, 315, 152, 153, 154, 660, 661, 662, 663, 664, 665, 666, 667, 84, 316, 317, 318, 149, 150, 151, 143, 144, 145, 146, 147, 148, 319, 320, 321, 355, 356, 357, 215, 216, 217, 349, 350, 351, 212, 213, 214, 817, 818, 819, 820, 821, 822, 823, 824, 825, 826, 827, 828] (by decide +kernel) (by decide +kernel)
set_option maxRecDepth 20000 in
theorem gL_law_X5_write : GoodIn wsL_law (wsV RL 141 RX5 yX5_write wsX5_write) := goodIn_app (goodIn_of _ (by decide +kernel)) ggL_law_X5_write
set_option maxRecDepth 20000 in
theorem ggL_law_L_charAt : GoodIn wsL_law wsL_charAt := goodIn_ca (goodIn_r _ [670, 90, 671, 672, 673, 2, 674, 99, 100, 26, 651, 652, 653, 25, 654, 53, 675, 676, 677, 678, 52, 811, 812, 813, 814, 815, 816, 835, 836] (by decide +kernel) (by decide +kernel)) (goodIn_sub (fun _ h => List.mem_append_left _ (List.mem_append_left _ (List.mem_append_left _ (List.mem_append_right _ h)))) (by decide +kernel))
set_option maxRecDepth 20000 in
theorem gL_law_L_charAt : GoodIn wsL_law (va_wsS RL 142 yL_charAt wsL_charAt) := goodIn_app (goodIn_of _ (by decide +kernel)) ggL_law_L_charAt
set_option maxRecDepth 20000 in
theorem ggL_law_X5_charAt : GoodIn wsL_law wsX5_charAt := goodIn_r _ [682, 659, 133, 84, 137, 138, 5, 139, 817, 818, 819, 820, 821, 822, 823, 824, 825, 826, 827, 828] (by decide +kernel) (by decide +kernel)
set_option maxRecDepth 20000 in
theorem gL_law_X5_charAt : GoodIn wsL_law (wsV RL 144 RX5 yX5_charAt wsX5_charAt) := goodIn_app (goodIn_of _ (by decide +kernel)) ggL_law_X5_charAt
set_option maxRecDepth 20000 in
theorem ggL_law_L_type : GoodIn wsL_law wsL_type := goodIn_ca (goodIn_ca (goodIn_r _ [685, 91, 260, 686, 687, 688, 2, 689, 127, 128, 265, 266, 27, 690, 691, 692, 25, 693, 53, 642, 639, 640, 641, 52, 651, 652, 653, 654, 811, 812, 813, 814, 815, 816, 835, 836] (by decide +kernel) (by decide +kernel)) (goodIn_sub (fun _ h => List.mem_append_left _ (List.mem_append_left _ (List.mem_append_right _ h))) (by decide +kernel))) (goodIn_sub (fun _ h => List.mem_append_left _ (List.mem_append_right _ h)) (by decide +kernel))
set_option maxRecDepth 20000 in
theorem gL_law_L_type : GoodIn wsL_law (va_wsS RL 145 yL_type wsL_type) := goodIn_app (goodIn_of _ (by decide +kernel)) ggL_law_L_type
set_option maxRecDepth 20000 in
theorem ggL_law_X5_type : GoodIn wsL_law wsX5_type := goodIn_r _ [697, 698, 133, 85, 137, 138, 5, 139, 817, 818, 819, 820, 821, 822, 823, 824, 825, 826, 827, 828] (by decide +kernel) (by decide +kernel)
set_option maxRecDepth 20000 in
theorem gL_law_X5_type : GoodIn wsL_law (wsV RL 147 RX5 yX5_type wsX5_type) := goodIn_app (goodIn_of _ (by decide +kernel)) ggL_law_X5_type
set_option maxRecDepth 20000 in
theorem ggL_law_L_read : GoodIn wsL_law wsL_read := goodIn_ca (goodIn_r _ [701, 90, 702, 703, 704, 2, 705, 27, 14, 96, 97, 98, 99, 100, 706, 707, 708, 709, 568, 435, 290, 436, 710, 711, 712, 713, 714, 715, 25, 716, 53, 717, 289, 291, 718, 719, 720, 721, 722, 723, 724, 725, 726, 727, 728, 729, 730, 676, 677, 678, 52, 731, 732, 733, 734, 735, 736, 737, 738, 739, 740, 741, 742, 743, 744, 745, 746, 747, 488, 489, 490, 748, 749, 750, 751, 752, 753, 754, 755, 756, 757, 758, 759, 760, 761, 762, 763, 764, 765, 766, 767, 768, 651, 652, 653, 654, 769, 770, 771, 772, 773, 774, 775, 776, 101, 102, 103, 104, 105, 106, 107, 108, 109, 110, 111, 112, 113, 114, 115, 116, 117, 118, 119, 120, 121, 122, 192, 193, 194, 195, 196, 197, 198, 199, 200, 201, 202, 203, 204, 171, 172, 173, 777, 778, 779, 780, 589, 590, 70, 71, 72, 73, 811, 812, 813, 814, 815, 816, 835, 836] (by decide +kernel) (by decide +kernel)) (goodIn_sub (fun _ h => List.mem_append_left _ (List.mem_append_left _ (List.mem_append_left _ (List.mem_append_right _ h)))) (by decide +kernel))
set_option maxRecDepth 20000 in
theorem gL_law_L_read : GoodIn wsL_law (va_wsS RL 148 yL_read wsL_read) := goodIn_app (goodIn_of _ (by decide +kernel)) ggL_law_L_read
set_option maxRecDepth 20000 in
theorem ggL_law_X5_read : GoodIn wsL_law wsX5_read := goodIn_r _ [784, 133, 698, 78, 134, 135, 5, 136, 137, 138, 139, 785, 786, 787, 788, 85, 789, 790, 791, 792, 793, 794, 795, 796, 797, 798, 799, 800, 801, 802, 140, 141, 142, 143, 144, 145, 146, 147, 148, 149, 150, 151, 152, 153, 154, 209, 210, 211, 181, 212, 213, 214, 215, 216, 217, 182, 183, 184, 803, 804, 805, 817, 818, 819, 820, 821, 822, 823, 824, 825, 826, 827, 828] (by decide +kernel) (by decide +kernel)
set_option maxRecDepth 20000 in
theorem gL_law_X5_read : GoodIn wsL_law (wsV RL 150 RX5 yX5_read wsX5_read) := goodIn_app (goodIn_of _ (by decide +kernel)) ggL_law_X5_read
set_option maxRecDepth 20000 in
theorem ggL_law_X4_clear : GoodIn wsL_law wsX4_clear := goodIn_r _ [57, 14, 18, 26, 27, 58, 59, 60, 61, 62, 63, 64, 65, 17, 66, 67, 68, 32, 69, 70, 71, 72, 25, 73, 53, 811, 812, 813, 814, 815, 816, 829, 830, 831, 835, 836] (by decide +kernel) (by decide +kernel)
set_option maxRecDepth 20000 in
theorem gL_law_X4_clear : GoodIn wsL_law (wsV RL 151 RX4 yX4_clear wsX4_clear) := goodIn_app (goodIn_of _ (by decide +kernel)) ggL_law_X4_clear
set_option maxRecDepth 20000 in
theorem ggL_law_X5_clear : GoodIn wsL_law wsX5_clear := goodIn_r _ [810, 133, 78, 468, 659, 698, 83, 817, 818, 819, 820, 821, 822, 823, 824, 825, 826, 827, 828] (by decide +kernel) (by decide +kernel)
set_option maxRecDepth 20000 in
theorem gL_law_X5_clear : GoodIn wsL_law (wsV RL 154 RX5 yX5_clear wsX5_clear) := goodIn_app (goodIn_of _ (by decide +kernel)) ggL_law_X5_clear
