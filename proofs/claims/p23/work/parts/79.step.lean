/-! ONE STEP OF THE LAW -/
abbrev z_R : z_P := fun v T => v = 1 ∧ zI T
theorem zact1 (S : bs_S) (a : Nat → Int32) : (bs_act S a).1 = a := rfl
theorem z1p (n : Nat) : (1 : Int32) + nI n = nI (n + 1) := by rw [bn_1, nI_add, Nat.add_comm]
theorem zt_104 {F : Int32 → Int32} {d r : Nat} {x y z : Int32} {S1 S2 : bs_S} {q8 q9 q10 q11 q12 : bb_V} (h : zI (S1, S2)) (hr : r < 4) : z_Y (z_CL F (d + 1)) zc_L_isStep z_R 104 [bb_R 40 0, bb_R 41 0, bb_I x, bb_I y, bb_I z, bb_I (nI r), bb_I (nI (bs_sz S1.1)), bb_I (zS S1.1), q8, q9, q10, q11, q12] [] (S1, S2) := by
  have hu := zuN_lt (v := y) (n := 20) (by decide)
  have e3 := z3_sub hr
  have hz : bs_sz S1.1 ≤ 24 := zg_sz h.1
  rcases zd_wave h hr (w := zuN y 20 + 1) (by omega) with ⟨q, w1, w2⟩ | ⟨q, w1, w2, hI, hS⟩
  · have c : nI (bs_sz S1.1) = 24 := by rw [q]; rfl
    simp (disch := omega) only [ze_L_isStep_104, ze_L_isStep_105, ze_L_isStep_106, ze_L_isStep_108, ze_L_isStep_111, ze_L_isStep_112, ze_L_isStep_114, ze_L_isStep_115, ze_L_isStep_117, ze_L_isStep_119, ze_L_isStep_122, ze_L_isStep_124, ze_L_isStep_126, ze_L_isStep_127, ze_L_isStep_128, ze_L_isStep_130, ze_L_isStep_131, ze_L_isStep_133, ze_L_isStep_136, ze_L_isStep_139, ze_L_isStep_141, ze_L_isStep_143, ze_L_isStep_145, ze_L_isStep_148, ze_L_isStep_151, ze_L_isStep_154, ze_L_isStep_156, ze_L_isStep_157, ze_L_isStep_158, ze_L_isStep_161, ze_L_isStep_162, ze_L_isStep_163, ze_L_isStep_166, ze_L_isStep_168, ze_L_isStep_171, ze_L_isStep_172, ze_L_isStep_175, ze_L_isStep_176, x_up20, z1p, e3, zx_wave_o, zx_wave_p, w1, w2, zx_count_o, zc_0, c, Option.toList_some, Option.toList_none, List.cons_append, List.nil_append, true_and, and_true, and_self, bb_ite, true_or, or_true, Option.some.injEq, bb_I_eq, bb_b_0e, bb_b_1e, bb_b_e0, bb_b_e1, decide_eq_true_eq, decide_eq_false_iff_not, bn_01, bn_11, bb_b_01, ne_eq, Bool.not_eq_false, Bool.not_eq_true, Classical.not_not, bn_lt, bn_le, bn_ti, Int32.reduceToInt, bn_m20, bn_20m, nI_add, bn_p1, bn_s1, bn_in, bn_cl, implies_true, not_true_eq_false, not_false_eq_true, Bool.true_and, Bool.false_and, Bool.and_true, Bool.and_false, Bool.true_or, Bool.false_or, Bool.or_true, Bool.or_false, Bool.not_true, Bool.not_false, false_implies, true_implies, forall_const, Bool.false_eq_true, Bool.true_eq_false, reduceCtorEq, eq_self, Bool.and_eq_true, Bool.or_eq_true, Bool.and_eq_false_iff, Bool.or_eq_false_iff, and_false, false_and, or_false, false_or, bm_10, bm_01]
    exact ⟨rfl, h⟩
  · have c : ¬ nI (bs_sz S1.1) = 24 := fun z => q ((nI_eq (by omega) (by decide)).mp z)
    simp (disch := omega) only [ze_L_isStep_104, ze_L_isStep_105, ze_L_isStep_106, ze_L_isStep_108, ze_L_isStep_111, ze_L_isStep_112, ze_L_isStep_114, ze_L_isStep_115, ze_L_isStep_117, ze_L_isStep_119, ze_L_isStep_122, ze_L_isStep_124, ze_L_isStep_126, ze_L_isStep_127, ze_L_isStep_128, ze_L_isStep_130, ze_L_isStep_131, ze_L_isStep_133, ze_L_isStep_136, ze_L_isStep_139, ze_L_isStep_141, ze_L_isStep_143, ze_L_isStep_145, ze_L_isStep_148, ze_L_isStep_151, ze_L_isStep_154, ze_L_isStep_156, ze_L_isStep_157, ze_L_isStep_158, ze_L_isStep_161, ze_L_isStep_162, ze_L_isStep_163, ze_L_isStep_166, ze_L_isStep_168, ze_L_isStep_171, ze_L_isStep_172, ze_L_isStep_175, ze_L_isStep_176, x_up20, z1p, e3, zx_wave_o, zx_wave_p, w1, w2, zx_count_o, zc_0, zact1, hS, c, Option.toList_some, Option.toList_none, List.cons_append, List.nil_append, true_and, and_true, and_self, bb_ite, true_or, or_true, Option.some.injEq, bb_I_eq, bb_b_0e, bb_b_1e, bb_b_e0, bb_b_e1, decide_eq_true_eq, decide_eq_false_iff_not, bn_01, bn_11, bb_b_01, ne_eq, Bool.not_eq_false, Bool.not_eq_true, Classical.not_not, bn_lt, bn_le, bn_ti, Int32.reduceToInt, bn_m20, bn_20m, nI_add, bn_p1, bn_s1, bn_in, bn_cl, implies_true, not_true_eq_false, not_false_eq_true, Bool.true_and, Bool.false_and, Bool.and_true, Bool.and_false, Bool.true_or, Bool.false_or, Bool.or_true, Bool.or_false, Bool.not_true, Bool.not_false, false_implies, true_implies, forall_const, Bool.false_eq_true, Bool.true_eq_false, reduceCtorEq, eq_self, Bool.and_eq_true, Bool.or_eq_true, Bool.and_eq_false_iff, Bool.or_eq_false_iff, and_false, false_and, or_false, false_or, bm_10, bm_01]
    exact ⟨rfl, hI⟩
theorem zt_197 {F : Int32 → Int32} {d n : Nat} {x y z r s : Int32} {S1 S2 : bs_S} {q8 q9 q10 q11 q12 : bb_V} (h : zI (S1, S2)) (hn : n ≤ 30) : z_Y (z_CL F (d + 1)) zc_L_isStep z_R 197 [bb_R 40 0, bb_R 41 0, bb_I x, bb_I y, bb_I z, bb_I r, bb_I (nI (bs_sz S1.1)), bb_I s, q8, q9, q10, q11, q12] [bb_I (nI n)] (S1, S2) := by
  have hz : bs_sz S1.1 ≤ 24 := zg_sz h.1
  rcases zd_run h hn with ⟨q, w1, w2⟩ | ⟨q, t, A, B, w1, w2, hI, a1, a2, a3, a4, a5⟩
  · have c : nI (bs_sz S1.1) = 0 := by rw [q]; rfl
    have xb := fun k => x_isBalanced (F := F) (d := d) (S1 := S1) (S2 := S2) (k := k) (zI_b h)
    simp (disch := omega) only [ze_L_isStep_197, ze_L_isStep_199, ze_L_isStep_200, ze_L_isStep_202, ze_L_isStep_205, ze_L_isStep_207, ze_L_isStep_208, ze_L_isStep_209, ze_L_isStep_212, ze_L_isStep_214, ze_L_isStep_215, ze_L_isStep_217, ze_L_isStep_220, ze_L_isStep_222, ze_L_isStep_224, ze_L_isStep_225, ze_L_isStep_227, ze_L_isStep_230, ze_L_isStep_233, ze_L_isStep_235, ze_L_isStep_238, ze_L_isStep_240, ze_L_isStep_243, ze_L_isStep_246, ze_L_isStep_249, ze_L_isStep_251, ze_L_isStep_252, ze_L_isStep_254, ze_L_isStep_257, ze_L_isStep_259, ze_L_isStep_260, ze_L_isStep_263, ze_L_isStep_264, ze_L_isStep_265, ze_L_isStep_268, ze_L_isStep_270, ze_L_isStep_272, ze_L_isStep_273, ze_L_isStep_276, ze_L_isStep_277, ze_L_isStep_279, ze_L_isStep_282, ze_L_isStep_285, ze_L_isStep_286, ze_L_isStep_287, ze_L_isStep_289, ze_L_isStep_291, ze_L_isStep_294, ze_L_isStep_297, ze_L_isStep_298, ze_L_isStep_301, ze_L_isStep_304, ze_L_isStep_305, ze_L_isStep_308, ze_L_isStep_309, zx_run_o, zx_run_p, w1, w2, zx_count_o, xb, c, Option.toList_some, Option.toList_none, List.cons_append, List.nil_append, true_and, and_true, and_self, bb_ite, true_or, or_true, Option.some.injEq, bb_I_eq, bb_b_0e, bb_b_1e, bb_b_e0, bb_b_e1, decide_eq_true_eq, decide_eq_false_iff_not, bn_01, bn_11, bb_b_01, ne_eq, Bool.not_eq_false, Bool.not_eq_true, Classical.not_not, bn_lt, bn_le, bn_ti, Int32.reduceToInt, bn_m20, bn_20m, nI_add, bn_p1, bn_s1, bn_in, bn_cl, implies_true, not_true_eq_false, not_false_eq_true, Bool.true_and, Bool.false_and, Bool.and_true, Bool.and_false, Bool.true_or, Bool.false_or, Bool.or_true, Bool.or_false, Bool.not_true, Bool.not_false, false_implies, true_implies, forall_const, Bool.false_eq_true, Bool.true_eq_false, reduceCtorEq, eq_self, Bool.and_eq_true, Bool.or_eq_true, Bool.and_eq_false_iff, Bool.or_eq_false_iff, and_false, false_and, or_false, false_or, bm_10, bm_01]
    exact ⟨rfl, h⟩
  · have c : ¬ nI (bs_sz S1.1) = 0 := nI_ne0 (by omega) (by omega)
    have xb := fun k => x_isBalanced (F := F) (d := d) (S1 := bs_act S1 A) (S2 := bs_act S2 B) (k := k) (zI_b hI)
    have e1 : S1.1 139 + t - S1.1 139 = t := by grind
    have xe := fun k => x_areEnded (F := F) (d := d) (b := t) (k := k) hI (by rw [zact1, a4]; exact a5)
    rw [zact1, a4] at xe
    simp (disch := omega) only [ze_L_isStep_197, ze_L_isStep_199, ze_L_isStep_200, ze_L_isStep_202, ze_L_isStep_205, ze_L_isStep_207, ze_L_isStep_208, ze_L_isStep_209, ze_L_isStep_212, ze_L_isStep_214, ze_L_isStep_215, ze_L_isStep_217, ze_L_isStep_220, ze_L_isStep_222, ze_L_isStep_224, ze_L_isStep_225, ze_L_isStep_227, ze_L_isStep_230, ze_L_isStep_233, ze_L_isStep_235, ze_L_isStep_238, ze_L_isStep_240, ze_L_isStep_243, ze_L_isStep_246, ze_L_isStep_249, ze_L_isStep_251, ze_L_isStep_252, ze_L_isStep_254, ze_L_isStep_257, ze_L_isStep_259, ze_L_isStep_260, ze_L_isStep_263, ze_L_isStep_264, ze_L_isStep_265, ze_L_isStep_268, ze_L_isStep_270, ze_L_isStep_272, ze_L_isStep_273, ze_L_isStep_276, ze_L_isStep_277, ze_L_isStep_279, ze_L_isStep_282, ze_L_isStep_285, ze_L_isStep_286, ze_L_isStep_287, ze_L_isStep_289, ze_L_isStep_291, ze_L_isStep_294, ze_L_isStep_297, ze_L_isStep_298, ze_L_isStep_301, ze_L_isStep_304, ze_L_isStep_305, ze_L_isStep_308, ze_L_isStep_309, zx_run_o, zx_run_p, w1, w2, zx_count_o, zc_5, zc_6, zc_9, zact1, a1, a2, a3, e1, xe, xb, c, Option.toList_some, Option.toList_none, List.cons_append, List.nil_append, true_and, and_true, and_self, bb_ite, true_or, or_true, Option.some.injEq, bb_I_eq, bb_b_0e, bb_b_1e, bb_b_e0, bb_b_e1, decide_eq_true_eq, decide_eq_false_iff_not, bn_01, bn_11, bb_b_01, ne_eq, Bool.not_eq_false, Bool.not_eq_true, Classical.not_not, bn_lt, bn_le, bn_ti, Int32.reduceToInt, bn_m20, bn_20m, nI_add, bn_p1, bn_s1, bn_in, bn_cl, implies_true, not_true_eq_false, not_false_eq_true, Bool.true_and, Bool.false_and, Bool.and_true, Bool.and_false, Bool.true_or, Bool.false_or, Bool.or_true, Bool.or_false, Bool.not_true, Bool.not_false, false_implies, true_implies, forall_const, Bool.false_eq_true, Bool.true_eq_false, reduceCtorEq, eq_self, Bool.and_eq_true, Bool.or_eq_true, Bool.and_eq_false_iff, Bool.or_eq_false_iff, and_false, false_and, or_false, false_or, bm_10, bm_01]
    exact ⟨rfl, hI⟩
theorem zt_177 {F : Int32 → Int32} {d : Nat} {x y z r s : Int32} {S1 S2 : bs_S} {q8 q9 q10 q11 q12 : bb_V} (h : zI (S1, S2)) : z_Y (z_CL F (d + 1)) zc_L_isStep z_R 177 [bb_R 40 0, bb_R 41 0, bb_I x, bb_I y, bb_I z, bb_I r, bb_I (nI (bs_sz S1.1)), bb_I s, q8, q9, q10, q11, q12] [] (S1, S2) := by
  simp (disch := omega) only [ze_L_isStep_177, ze_L_isStep_178, ze_L_isStep_179, ze_L_isStep_182, ze_L_isStep_185, ze_L_isStep_186, ze_L_isStep_187, ze_L_isStep_188, ze_L_isStep_190, ze_L_isStep_193, ze_L_isStep_196, x_up3, x_up31, Option.toList_some, Option.toList_none, List.cons_append, List.nil_append, true_and, and_true, and_self, bb_ite, true_or, or_true, Option.some.injEq, bb_I_eq, bb_b_0e, bb_b_1e, bb_b_e0, bb_b_e1, decide_eq_true_eq, decide_eq_false_iff_not, bn_01, bn_11, bb_b_01, ne_eq, Bool.not_eq_false, Bool.not_eq_true, Classical.not_not]
  refine ⟨fun _ => ?_, fun _ => ?_⟩
  · exact zt_197 (n := 0) h (by decide)
  · exact zt_197 h (Nat.le_of_lt_succ (zuN_lt (by decide)))
theorem zt_365 {F : Int32 → Int32} {d r c : Nat} {x y z v w : Int32} {S1 S2 : bs_S} {q10 q11 q12 : bb_V} (h : zI (S1, S2)) (hr : r < 4) (hc : c < 20) : z_Y (z_CL F (d + 1)) zc_L_isStep z_R 365 [bb_R 40 0, bb_R 41 0, bb_I x, bb_I y, bb_I z, bb_I (nI r), bb_I w, bb_I (zS S1.1), bb_I (nI c), bb_I (S1.1 (20 * r + c)), q10, q11, q12] [bb_I v] (S1, S2) := by
  have e3 := z3_sub hr
  have xb := fun k => x_isBalanced (F := F) (d := d) (S1 := S1) (S2 := S2) (k := k) (zI_b h)
  rcases zd_dump (v := v) h hr hc with ⟨q, w1, w2⟩ | ⟨q, q2, w1, w2⟩ | ⟨q, q2, w1, w2, hI, hS⟩
  · have q : ¬ (0 ≤ v.toInt ∧ v.toInt ≤ 99) := fun z => Bool.false_ne_true (q.symm.trans (bv_iff.mpr z))
    by_cases l1 : v.toInt < 0
    · simp (disch := omega) only [ze_L_isStep_365, ze_L_isStep_367, ze_L_isStep_368, ze_L_isStep_370, ze_L_isStep_372, ze_L_isStep_374, ze_L_isStep_377, ze_L_isStep_379, ze_L_isStep_381, ze_L_isStep_384, ze_L_isStep_386, ze_L_isStep_388, ze_L_isStep_391, ze_L_isStep_392, ze_L_isStep_395, ze_L_isStep_396, ze_L_isStep_398, ze_L_isStep_400, ze_L_isStep_401, ze_L_isStep_402, ze_L_isStep_404, ze_L_isStep_405, ze_L_isStep_407, ze_L_isStep_409, ze_L_isStep_412, ze_L_isStep_415, ze_L_isStep_417, ze_L_isStep_419, ze_L_isStep_422, ze_L_isStep_425, ze_L_isStep_428, ze_L_isStep_430, ze_L_isStep_432, ze_L_isStep_435, ze_L_isStep_438, ze_L_isStep_441, ze_L_isStep_443, ze_L_isStep_446, ze_L_isStep_447, ze_L_isStep_448, ze_L_isStep_451, ze_L_isStep_453, ze_L_isStep_456, ze_L_isStep_458, ze_L_isStep_460, ze_L_isStep_461, ze_L_isStep_463, ze_L_isStep_464, ze_L_isStep_467, ze_L_isStep_469, ze_L_isStep_472, ze_L_isStep_473, ze_L_isStep_476, ze_L_isStep_479, ze_L_isStep_480, ze_L_isStep_483, ze_L_isStep_484, zx_dump_o, zx_dump_p, e3, w1, w2, zx_count_o, zc_0, xb, l1, Option.toList_some, Option.toList_none, List.cons_append, List.nil_append, true_and, and_true, and_self, bb_ite, true_or, or_true, Option.some.injEq, bb_I_eq, bb_b_0e, bb_b_1e, bb_b_e0, bb_b_e1, decide_eq_true_eq, decide_eq_false_iff_not, bn_01, bn_11, bb_b_01, ne_eq, Bool.not_eq_false, Bool.not_eq_true, Classical.not_not, bn_lt, bn_le, bn_ti, Int32.reduceToInt, bn_m20, bn_20m, nI_add, bn_p1, bn_s1, bn_in, bn_cl, implies_true, not_true_eq_false, not_false_eq_true, Bool.true_and, Bool.false_and, Bool.and_true, Bool.and_false, Bool.true_or, Bool.false_or, Bool.or_true, Bool.or_false, Bool.not_true, Bool.not_false, false_implies, true_implies, forall_const, Bool.false_eq_true, Bool.true_eq_false, reduceCtorEq, eq_self, Bool.and_eq_true, Bool.or_eq_true, Bool.and_eq_false_iff, Bool.or_eq_false_iff, and_false, false_and, or_false, false_or, bm_10, bm_01]
      exact ⟨rfl, h⟩
    · have l2 : 100 ≤ v.toInt := by omega
      simp (disch := omega) only [ze_L_isStep_365, ze_L_isStep_367, ze_L_isStep_368, ze_L_isStep_370, ze_L_isStep_372, ze_L_isStep_374, ze_L_isStep_377, ze_L_isStep_379, ze_L_isStep_381, ze_L_isStep_384, ze_L_isStep_386, ze_L_isStep_388, ze_L_isStep_391, ze_L_isStep_392, ze_L_isStep_395, ze_L_isStep_396, ze_L_isStep_398, ze_L_isStep_400, ze_L_isStep_401, ze_L_isStep_402, ze_L_isStep_404, ze_L_isStep_405, ze_L_isStep_407, ze_L_isStep_409, ze_L_isStep_412, ze_L_isStep_415, ze_L_isStep_417, ze_L_isStep_419, ze_L_isStep_422, ze_L_isStep_425, ze_L_isStep_428, ze_L_isStep_430, ze_L_isStep_432, ze_L_isStep_435, ze_L_isStep_438, ze_L_isStep_441, ze_L_isStep_443, ze_L_isStep_446, ze_L_isStep_447, ze_L_isStep_448, ze_L_isStep_451, ze_L_isStep_453, ze_L_isStep_456, ze_L_isStep_458, ze_L_isStep_460, ze_L_isStep_461, ze_L_isStep_463, ze_L_isStep_464, ze_L_isStep_467, ze_L_isStep_469, ze_L_isStep_472, ze_L_isStep_473, ze_L_isStep_476, ze_L_isStep_479, ze_L_isStep_480, ze_L_isStep_483, ze_L_isStep_484, zx_dump_o, zx_dump_p, e3, w1, w2, zx_count_o, zc_0, xb, l1, l2, Option.toList_some, Option.toList_none, List.cons_append, List.nil_append, true_and, and_true, and_self, bb_ite, true_or, or_true, Option.some.injEq, bb_I_eq, bb_b_0e, bb_b_1e, bb_b_e0, bb_b_e1, decide_eq_true_eq, decide_eq_false_iff_not, bn_01, bn_11, bb_b_01, ne_eq, Bool.not_eq_false, Bool.not_eq_true, Classical.not_not, bn_lt, bn_le, bn_ti, Int32.reduceToInt, bn_m20, bn_20m, nI_add, bn_p1, bn_s1, bn_in, bn_cl, implies_true, not_true_eq_false, not_false_eq_true, Bool.true_and, Bool.false_and, Bool.and_true, Bool.and_false, Bool.true_or, Bool.false_or, Bool.or_true, Bool.or_false, Bool.not_true, Bool.not_false, false_implies, true_implies, forall_const, Bool.false_eq_true, Bool.true_eq_false, reduceCtorEq, eq_self, Bool.and_eq_true, Bool.or_eq_true, Bool.and_eq_false_iff, Bool.or_eq_false_iff, and_false, false_and, or_false, false_or, bm_10, bm_01]
      exact ⟨rfl, h⟩
  · have q := bv_iff.mp q
    have l1 : ¬ v.toInt < 0 := by omega
    have l2 : ¬ 100 ≤ v.toInt := by omega
    have e : zS S1.1 + v - v = zS S1.1 := by grind
    simp (disch := omega) only [ze_L_isStep_365, ze_L_isStep_367, ze_L_isStep_368, ze_L_isStep_370, ze_L_isStep_372, ze_L_isStep_374, ze_L_isStep_377, ze_L_isStep_379, ze_L_isStep_381, ze_L_isStep_384, ze_L_isStep_386, ze_L_isStep_388, ze_L_isStep_391, ze_L_isStep_392, ze_L_isStep_395, ze_L_isStep_396, ze_L_isStep_398, ze_L_isStep_400, ze_L_isStep_401, ze_L_isStep_402, ze_L_isStep_404, ze_L_isStep_405, ze_L_isStep_407, ze_L_isStep_409, ze_L_isStep_412, ze_L_isStep_415, ze_L_isStep_417, ze_L_isStep_419, ze_L_isStep_422, ze_L_isStep_425, ze_L_isStep_428, ze_L_isStep_430, ze_L_isStep_432, ze_L_isStep_435, ze_L_isStep_438, ze_L_isStep_441, ze_L_isStep_443, ze_L_isStep_446, ze_L_isStep_447, ze_L_isStep_448, ze_L_isStep_451, ze_L_isStep_453, ze_L_isStep_456, ze_L_isStep_458, ze_L_isStep_460, ze_L_isStep_461, ze_L_isStep_463, ze_L_isStep_464, ze_L_isStep_467, ze_L_isStep_469, ze_L_isStep_472, ze_L_isStep_473, ze_L_isStep_476, ze_L_isStep_479, ze_L_isStep_480, ze_L_isStep_483, ze_L_isStep_484, zx_dump_o, zx_dump_p, e3, w1, w2, zx_count_o, zc_0, xb, l1, l2, q2, e, Option.toList_some, Option.toList_none, List.cons_append, List.nil_append, true_and, and_true, and_self, bb_ite, true_or, or_true, Option.some.injEq, bb_I_eq, bb_b_0e, bb_b_1e, bb_b_e0, bb_b_e1, decide_eq_true_eq, decide_eq_false_iff_not, bn_01, bn_11, bb_b_01, ne_eq, Bool.not_eq_false, Bool.not_eq_true, Classical.not_not, bn_lt, bn_le, bn_ti, Int32.reduceToInt, bn_m20, bn_20m, nI_add, bn_p1, bn_s1, bn_in, bn_cl, implies_true, not_true_eq_false, not_false_eq_true, Bool.true_and, Bool.false_and, Bool.and_true, Bool.and_false, Bool.true_or, Bool.false_or, Bool.or_true, Bool.or_false, Bool.not_true, Bool.not_false, false_implies, true_implies, forall_const, Bool.false_eq_true, Bool.true_eq_false, reduceCtorEq, eq_self, Bool.and_eq_true, Bool.or_eq_true, Bool.and_eq_false_iff, Bool.or_eq_false_iff, and_false, false_and, or_false, false_or, bm_10, bm_01]
    exact ⟨rfl, h⟩
  · have xb := fun k => x_isBalanced (F := F) (d := d) (S1 := bs_act S1 (sp_dmp S1.1 (20 * r + c) v)) (S2 := bs_act S2 (sp_dmp S2.1 (20 * (3 - r) + c) v)) (k := k) (zI_b hI)
    have q := bv_iff.mp q
    have l1 : ¬ v.toInt < 0 := by omega
    have l2 : ¬ 100 ≤ v.toInt := by omega
    have e : zS S1.1 + (v - S1.1 (20 * r + c)) = zS S1.1 + v - S1.1 (20 * r + c) := by grind
    rw [e] at hS
    simp (disch := omega) only [ze_L_isStep_365, ze_L_isStep_367, ze_L_isStep_368, ze_L_isStep_370, ze_L_isStep_372, ze_L_isStep_374, ze_L_isStep_377, ze_L_isStep_379, ze_L_isStep_381, ze_L_isStep_384, ze_L_isStep_386, ze_L_isStep_388, ze_L_isStep_391, ze_L_isStep_392, ze_L_isStep_395, ze_L_isStep_396, ze_L_isStep_398, ze_L_isStep_400, ze_L_isStep_401, ze_L_isStep_402, ze_L_isStep_404, ze_L_isStep_405, ze_L_isStep_407, ze_L_isStep_409, ze_L_isStep_412, ze_L_isStep_415, ze_L_isStep_417, ze_L_isStep_419, ze_L_isStep_422, ze_L_isStep_425, ze_L_isStep_428, ze_L_isStep_430, ze_L_isStep_432, ze_L_isStep_435, ze_L_isStep_438, ze_L_isStep_441, ze_L_isStep_443, ze_L_isStep_446, ze_L_isStep_447, ze_L_isStep_448, ze_L_isStep_451, ze_L_isStep_453, ze_L_isStep_456, ze_L_isStep_458, ze_L_isStep_460, ze_L_isStep_461, ze_L_isStep_463, ze_L_isStep_464, ze_L_isStep_467, ze_L_isStep_469, ze_L_isStep_472, ze_L_isStep_473, ze_L_isStep_476, ze_L_isStep_479, ze_L_isStep_480, ze_L_isStep_483, ze_L_isStep_484, zx_dump_o, zx_dump_p, e3, w1, w2, zx_count_o, zc_0, zact1, hS, xb, l1, l2, q2, Option.toList_some, Option.toList_none, List.cons_append, List.nil_append, true_and, and_true, and_self, bb_ite, true_or, or_true, Option.some.injEq, bb_I_eq, bb_b_0e, bb_b_1e, bb_b_e0, bb_b_e1, decide_eq_true_eq, decide_eq_false_iff_not, bn_01, bn_11, bb_b_01, ne_eq, Bool.not_eq_false, Bool.not_eq_true, Classical.not_not, bn_lt, bn_le, bn_ti, Int32.reduceToInt, bn_m20, bn_20m, nI_add, bn_p1, bn_s1, bn_in, bn_cl, implies_true, not_true_eq_false, not_false_eq_true, Bool.true_and, Bool.false_and, Bool.and_true, Bool.and_false, Bool.true_or, Bool.false_or, Bool.or_true, Bool.or_false, Bool.not_true, Bool.not_false, false_implies, true_implies, forall_const, Bool.false_eq_true, Bool.true_eq_false, reduceCtorEq, eq_self, Bool.and_eq_true, Bool.or_eq_true, Bool.and_eq_false_iff, Bool.or_eq_false_iff, and_false, false_and, or_false, false_or, bm_10, bm_01]
    exact ⟨rfl, hI⟩
theorem zt_310 {F : Int32 → Int32} {d r : Nat} {x y z w : Int32} {S1 S2 : bs_S} {q8 q9 q10 q11 q12 : bb_V} (h : zI (S1, S2)) (hr : r < 4) : z_Y (z_CL F (d + 1)) zc_L_isStep z_R 310 [bb_R 40 0, bb_R 41 0, bb_I x, bb_I y, bb_I z, bb_I (nI r), bb_I w, bb_I (zS S1.1), q8, q9, q10, q11, q12] [] (S1, S2) := by
  have hc := zuN_lt (v := z >>> (2 &&& 31)) (n := 20) (by decide)
  have ec := (zk_cell (S := S1) hr hc).1
  simp (disch := omega) only [ze_L_isStep_310, ze_L_isStep_312, ze_L_isStep_313, ze_L_isStep_314, ze_L_isStep_316, ze_L_isStep_319, ze_L_isStep_321, ze_L_isStep_322, ze_L_isStep_324, ze_L_isStep_326, ze_L_isStep_327, ze_L_isStep_330, ze_L_isStep_332, ze_L_isStep_333, ze_L_isStep_334, ze_L_isStep_337, ze_L_isStep_340, ze_L_isStep_341, ze_L_isStep_342, ze_L_isStep_343, ze_L_isStep_345, ze_L_isStep_348, ze_L_isStep_351, ze_L_isStep_353, ze_L_isStep_354, ze_L_isStep_355, ze_L_isStep_356, ze_L_isStep_358, ze_L_isStep_361, ze_L_isStep_362, ze_L_isStep_364, x_up20, x_up4, x_up100, x_up15, zx_cell_o, ec, Option.toList_some, Option.toList_none, List.cons_append, List.nil_append, true_and, and_true, and_self, bb_ite, true_or, or_true, Option.some.injEq, bb_I_eq, bb_b_0e, bb_b_1e, bb_b_e0, bb_b_e1, decide_eq_true_eq, decide_eq_false_iff_not, bn_01, bn_11, bb_b_01, ne_eq, Bool.not_eq_false, Bool.not_eq_true, Classical.not_not]
  exact ⟨fun _ => zt_365 h hr hc, fun _ => zt_365 h hr hc⟩
/-! a level -/
theorem zy_cm {P Q : Nat → Bool} (hd : ∀ c, P c = true → Q c = true) (n : Nat) : bf_cn P n ≤ bf_cn Q n := by
  induction n with
  | zero => exact Nat.le_refl _
  | succ n ih =>
    rw [bf_cn_s, bf_cn_s]
    by_cases q : P n = true
    · rw [if_pos q, if_pos (hd n q)]
      omega
    · rw [if_neg q]
      split <;> omega
theorem zy_di {a : Nat → Int32} {l : Int32} {r c : Nat} : bf_dry a l r c = true ↔ l.toInt ≤ (a (20 * r + c)).toInt := by
  unfold bf_dry
  rw [decide_eq_true_eq]
theorem zy_mono {a : Nat → Int32} {l m : Int32} (h : l.toInt ≤ m.toInt) (n r : Nat) : bf_cn (bf_dry a m r) n ≤ bf_cn (bf_dry a l r) n := zy_cm (fun c q => zy_di.mpr (Int.le_trans h (zy_di.mp q))) n
theorem zy_cr {a : Nat → Int32} {l m : Int32} (h : l.toInt ≤ m.toInt) : bf_cr (bf_dry a m) 20 4 ≤ bf_cr (bf_dry a l) 20 4 := by
  have e := fun r => zy_mono (a := a) h 20 r
  show 0 + bf_cn (bf_dry a m 0) 20 + bf_cn (bf_dry a m 1) 20 + bf_cn (bf_dry a m 2) 20 + bf_cn (bf_dry a m 3) 20 ≤ 0 + bf_cn (bf_dry a l 0) 20 + bf_cn (bf_dry a l 1) 20 + bf_cn (bf_dry a l 2) 20 + bf_cn (bf_dry a l 3) 20
  have e0 := e 0
  have e1 := e 1
  have e2 := e 2
  have e3 := e 3
  omega
theorem zy_b {p : Nat → Nat → Bool} {n : Nat} : bf_cr p n 4 ≤ 4 * n := by
  have e := fun r => bf_cn_le (p r) n
  show 0 + bf_cn (p 0) n + bf_cn (p 1) n + bf_cn (p 2) n + bf_cn (p 3) n ≤ 4 * n
  have e0 := e 0
  have e1 := e 1
  have e2 := e 2
  have e3 := e 3
  omega
theorem zy_up {a : Nat → Int32} {l v : Int32} : bf_cr (bf_dry (upd a 80 v) l) 20 4 = bf_cr (bf_dry a l) 20 4 := by
  have e : ∀ r, r < 4 → bf_cn (bf_dry (upd a 80 v) l r) 20 = bf_cn (bf_dry a l r) 20 := fun r hr => bf_cn_eq 20 (fun c hc => by
    unfold bf_dry
    rw [bw_upd_c (by omega)])
  show 0 + bf_cn (bf_dry (upd a 80 v) l 0) 20 + bf_cn (bf_dry (upd a 80 v) l 1) 20 + bf_cn (bf_dry (upd a 80 v) l 2) 20 + bf_cn (bf_dry (upd a 80 v) l 3) 20 = 0 + bf_cn (bf_dry a l 0) 20 + bf_cn (bf_dry a l 1) 20 + bf_cn (bf_dry a l 2) 20 + bf_cn (bf_dry a l 3) 20
  rw [e 0 (by decide), e 1 (by decide), e 2 (by decide), e 3 (by decide)]
theorem zt_518 {F : Int32 → Int32} {d l : Nat} {x y z r w s : Int32} {S1 S2 : bs_S} {q8 q9 q10 q11 q12 : bb_V} (h : zI (S1, S2)) (hl : 20 ≤ l ∧ l ≤ 70) : z_Y (z_CL F (d + 1)) zc_L_isStep z_R 518 [bb_R 40 0, bb_R 41 0, bb_I x, bb_I y, bb_I z, bb_I r, bb_I w, bb_I s, q8, q9, q10, q11, q12] [bb_I (nI l)] (S1, S2) := by
  have e1 := zd_level (S := S1) hl
  have e2 := zd_level (S := S2) hl
  have tl := bn_ti (n := l) (by omega)
  rcases zd_sets (p := 80) (v := nI l) h (by omega) with ⟨q, w1, w2⟩ | ⟨q, w1, w2, hI⟩
  · have b1 : ∀ m : Nat, ¬ (m : Int) < (m : Int) := fun m => Int.lt_irrefl _
    have hD := zy_b (p := bf_dry S1.1 (nI l)) (n := 20)
    generalize hDD : bf_cr (bf_dry S1.1 (nI l)) 20 4 = D at hD
    have tD := bn_ti (n := D) (by omega)
    simp (disch := omega) only [ze_L_isStep_518, ze_L_isStep_520, ze_L_isStep_521, ze_L_isStep_523, ze_L_isStep_526, ze_L_isStep_528, ze_L_isStep_529, ze_L_isStep_531, ze_L_isStep_534, ze_L_isStep_536, ze_L_isStep_537, ze_L_isStep_539, ze_L_isStep_542, ze_L_isStep_544, ze_L_isStep_546, ze_L_isStep_547, ze_L_isStep_549, ze_L_isStep_552, ze_L_isStep_555, ze_L_isStep_557, ze_L_isStep_559, ze_L_isStep_561, ze_L_isStep_564, ze_L_isStep_567, ze_L_isStep_570, ze_L_isStep_572, ze_L_isStep_575, ze_L_isStep_577, ze_L_isStep_579, ze_L_isStep_582, ze_L_isStep_583, ze_L_isStep_585, ze_L_isStep_588, ze_L_isStep_590, ze_L_isStep_593, ze_L_isStep_595, ze_L_isStep_597, ze_L_isStep_600, ze_L_isStep_601, ze_L_isStep_603, ze_L_isStep_606, ze_L_isStep_608, ze_L_isStep_611, ze_L_isStep_612, ze_L_isStep_615, ze_L_isStep_616, zx_setLevel_o, zx_setLevel_p, e1, e2, w1, w2, zx_count_o, zc_17, zc_10, q, hDD, bn_lt, b1, Option.toList_some, Option.toList_none, List.cons_append, List.nil_append, true_and, and_true, and_self, bb_ite, true_or, or_true, Option.some.injEq, bb_I_eq, bb_b_0e, bb_b_1e, bb_b_e0, bb_b_e1, decide_eq_true_eq, decide_eq_false_iff_not, bn_01, bn_11, bb_b_01, ne_eq, Bool.not_eq_false, Bool.not_eq_true, Classical.not_not, bn_lt, bn_le, bn_ti, Int32.reduceToInt, bn_m20, bn_20m, nI_add, bn_p1, bn_s1, bn_in, bn_cl, implies_true, not_true_eq_false, not_false_eq_true, Bool.true_and, Bool.false_and, Bool.and_true, Bool.and_false, Bool.true_or, Bool.false_or, Bool.or_true, Bool.or_false, Bool.not_true, Bool.not_false, false_implies, true_implies, forall_const, Bool.false_eq_true, Bool.true_eq_false, reduceCtorEq, eq_self, Bool.and_eq_true, Bool.or_eq_true, Bool.and_eq_false_iff, Bool.or_eq_false_iff, and_false, false_and, or_false, false_or, bm_10, bm_01, tl, tD]
    exact ⟨rfl, h⟩
  · have hD := zy_b (p := bf_dry S1.1 (S1.1 80)) (n := 20)
    have hE := zy_b (p := bf_dry S1.1 (nI l)) (n := 20)
    have m1 := zy_cr (a := S1.1) (l := nI l) (m := S1.1 80)
    have m2 := zy_cr (a := S1.1) (m := nI l) (l := S1.1 80)
    have u1 : upd S1.1 80 (nI l) 80 = nI l := by rw [bf_upd, if_pos rfl]
    have qi : (S1.1 80).toInt ≠ (nI l).toInt := fun z => q (Int32.toInt_inj.mp z)
    generalize hDD : bf_cr (bf_dry S1.1 (S1.1 80)) 20 4 = D at hD m1 m2
    generalize hEE : bf_cr (bf_dry S1.1 (nI l)) 20 4 = E at hE m1 m2
    have tD := bn_ti (n := D) (by omega)
    have tE := bn_ti (n := E) (by omega)
    rw [tl] at qi m1 m2
    generalize hT : (S1.1 80).toInt = t at qi m1 m2
    have q' : ¬ nI l = S1.1 80 := fun z => q z.symm
    by_cases lt : (l : Int) < t
    · have g1 : ¬ t < (l : Int) := by omega
      have g2 : ¬ (E : Int) < (D : Int) := by have := m1 (by omega); omega
      simp (disch := omega) only [ze_L_isStep_518, ze_L_isStep_520, ze_L_isStep_521, ze_L_isStep_523, ze_L_isStep_526, ze_L_isStep_528, ze_L_isStep_529, ze_L_isStep_531, ze_L_isStep_534, ze_L_isStep_536, ze_L_isStep_537, ze_L_isStep_539, ze_L_isStep_542, ze_L_isStep_544, ze_L_isStep_546, ze_L_isStep_547, ze_L_isStep_549, ze_L_isStep_552, ze_L_isStep_555, ze_L_isStep_557, ze_L_isStep_559, ze_L_isStep_561, ze_L_isStep_564, ze_L_isStep_567, ze_L_isStep_570, ze_L_isStep_572, ze_L_isStep_575, ze_L_isStep_577, ze_L_isStep_579, ze_L_isStep_582, ze_L_isStep_583, ze_L_isStep_585, ze_L_isStep_588, ze_L_isStep_590, ze_L_isStep_593, ze_L_isStep_595, ze_L_isStep_597, ze_L_isStep_600, ze_L_isStep_601, ze_L_isStep_603, ze_L_isStep_606, ze_L_isStep_608, ze_L_isStep_611, ze_L_isStep_612, ze_L_isStep_615, ze_L_isStep_616, zx_setLevel_o, zx_setLevel_p, e1, e2, w1, w2, zx_count_o, zc_17, zc_10, zact1, zy_up, u1, hDD, hEE, q, q', bn_lt, tl, tD, tE, hT, lt, g1, g2, Option.toList_some, Option.toList_none, List.cons_append, List.nil_append, true_and, and_true, and_self, bb_ite, true_or, or_true, Option.some.injEq, bb_I_eq, bb_b_0e, bb_b_1e, bb_b_e0, bb_b_e1, decide_eq_true_eq, decide_eq_false_iff_not, bn_01, bn_11, bb_b_01, ne_eq, Bool.not_eq_false, Bool.not_eq_true, Classical.not_not, bn_lt, bn_le, bn_ti, Int32.reduceToInt, bn_m20, bn_20m, nI_add, bn_p1, bn_s1, bn_in, bn_cl, implies_true, not_true_eq_false, not_false_eq_true, Bool.true_and, Bool.false_and, Bool.and_true, Bool.and_false, Bool.true_or, Bool.false_or, Bool.or_true, Bool.or_false, Bool.not_true, Bool.not_false, false_implies, true_implies, forall_const, Bool.false_eq_true, Bool.true_eq_false, reduceCtorEq, eq_self, Bool.and_eq_true, Bool.or_eq_true, Bool.and_eq_false_iff, Bool.or_eq_false_iff, and_false, false_and, or_false, false_or, bm_10, bm_01]
      exact ⟨rfl, hI⟩
    · have g1 : t < (l : Int) := by omega
      have g2 : ¬ (D : Int) < (E : Int) := by have := m2 (by omega); omega
      simp (disch := omega) only [ze_L_isStep_518, ze_L_isStep_520, ze_L_isStep_521, ze_L_isStep_523, ze_L_isStep_526, ze_L_isStep_528, ze_L_isStep_529, ze_L_isStep_531, ze_L_isStep_534, ze_L_isStep_536, ze_L_isStep_537, ze_L_isStep_539, ze_L_isStep_542, ze_L_isStep_544, ze_L_isStep_546, ze_L_isStep_547, ze_L_isStep_549, ze_L_isStep_552, ze_L_isStep_555, ze_L_isStep_557, ze_L_isStep_559, ze_L_isStep_561, ze_L_isStep_564, ze_L_isStep_567, ze_L_isStep_570, ze_L_isStep_572, ze_L_isStep_575, ze_L_isStep_577, ze_L_isStep_579, ze_L_isStep_582, ze_L_isStep_583, ze_L_isStep_585, ze_L_isStep_588, ze_L_isStep_590, ze_L_isStep_593, ze_L_isStep_595, ze_L_isStep_597, ze_L_isStep_600, ze_L_isStep_601, ze_L_isStep_603, ze_L_isStep_606, ze_L_isStep_608, ze_L_isStep_611, ze_L_isStep_612, ze_L_isStep_615, ze_L_isStep_616, zx_setLevel_o, zx_setLevel_p, e1, e2, w1, w2, zx_count_o, zc_17, zc_10, zact1, zy_up, u1, hDD, hEE, q, q', bn_lt, tl, tD, tE, hT, lt, g1, g2, Option.toList_some, Option.toList_none, List.cons_append, List.nil_append, true_and, and_true, and_self, bb_ite, true_or, or_true, Option.some.injEq, bb_I_eq, bb_b_0e, bb_b_1e, bb_b_e0, bb_b_e1, decide_eq_true_eq, decide_eq_false_iff_not, bn_01, bn_11, bb_b_01, ne_eq, Bool.not_eq_false, Bool.not_eq_true, Classical.not_not, bn_lt, bn_le, bn_ti, Int32.reduceToInt, bn_m20, bn_20m, nI_add, bn_p1, bn_s1, bn_in, bn_cl, implies_true, not_true_eq_false, not_false_eq_true, Bool.true_and, Bool.false_and, Bool.and_true, Bool.and_false, Bool.true_or, Bool.false_or, Bool.or_true, Bool.or_false, Bool.not_true, Bool.not_false, false_implies, true_implies, forall_const, Bool.false_eq_true, Bool.true_eq_false, reduceCtorEq, eq_self, Bool.and_eq_true, Bool.or_eq_true, Bool.and_eq_false_iff, Bool.or_eq_false_iff, and_false, false_and, or_false, false_or, bm_10, bm_01]
      exact ⟨rfl, hI⟩
theorem zt_485 {F : Int32 → Int32} {d : Nat} {x y z r w s : Int32} {S1 S2 : bs_S} {q8 q9 q10 q11 q12 : bb_V} (h : zI (S1, S2)) : z_Y (z_CL F (d + 1)) zc_L_isStep z_R 485 [bb_R 40 0, bb_R 41 0, bb_I x, bb_I y, bb_I z, bb_I r, bb_I w, bb_I s, q8, q9, q10, q11, q12] [] (S1, S2) := by
  have a1 : ∀ n : Nat, (20 : Int32) + nI n = nI (20 + n) := fun n => by rw [show (20 : Int32) = nI 20 from rfl, nI_add]
  have a2 : ∀ n : Nat, (32 : Int32) + nI n = nI (32 + n) := fun n => by rw [show (32 : Int32) = nI 32 from rfl, nI_add]
  have h1 := zuN_lt (v := y >>> (2 &&& 31)) (n := 51) (by decide)
  have h2 := zuN_lt (v := y >>> (2 &&& 31)) (n := 16) (by decide)
  simp (disch := omega) only [ze_L_isStep_485, ze_L_isStep_486, ze_L_isStep_487, ze_L_isStep_490, ze_L_isStep_493, ze_L_isStep_495, ze_L_isStep_496, ze_L_isStep_497, ze_L_isStep_498, ze_L_isStep_500, ze_L_isStep_503, ze_L_isStep_504, ze_L_isStep_507, ze_L_isStep_509, ze_L_isStep_510, ze_L_isStep_511, ze_L_isStep_512, ze_L_isStep_514, ze_L_isStep_517, x_up4, x_up51, x_up16, a1, a2, Option.toList_some, Option.toList_none, List.cons_append, List.nil_append, true_and, and_true, and_self, bb_ite, true_or, or_true, Option.some.injEq, bb_I_eq, bb_b_0e, bb_b_1e, bb_b_e0, bb_b_e1, decide_eq_true_eq, decide_eq_false_iff_not, bn_01, bn_11, bb_b_01, ne_eq, Bool.not_eq_false, Bool.not_eq_true, Classical.not_not]
  exact ⟨fun _ => zt_518 h (by omega), fun _ => zt_518 h (by omega)⟩
theorem zt_669 {F : Int32 → Int32} {d n v : Nat} {x y z r w s : Int32} {S1 S2 : bs_S} {q9 q10 q11 q12 : bb_V} (h : zI (S1, S2)) (hn : n < 4) (hv : ((n = 0 ∨ n = 2) ∧ 1 ≤ v ∧ v ≤ 20) ∨ (n = 1 ∧ v ≤ 2) ∨ (n = 3 ∧ 4 ≤ v ∧ v ≤ 30)) : z_Y (z_CL F (d + 1)) zc_L_isStep z_R 669 [bb_R 40 0, bb_R 41 0, bb_I x, bb_I y, bb_I z, bb_I r, bb_I w, bb_I s, bb_I (nI n), q9, q10, q11, q12] [bb_I (nI v)] (S1, S2) := by
  have e1 := zd_set (S := S1) hn hv
  have e2 := zd_set (S := S2) hn hv
  have tv := bn_ti (n := v) (by omega)
  have a1 : (11 : Int32) + nI n = nI (11 + n) := by rw [show (11 : Int32) = nI 11 from rfl, nI_add]
  rcases zd_sets (p := 81 + n) (v := nI v) h (by omega) with ⟨q, w1, w2⟩ | ⟨q, w1, w2, hI⟩
  · have c := zc_s (S := S1) hn
    simp (disch := omega) only [ze_L_isStep_669, ze_L_isStep_671, ze_L_isStep_672, ze_L_isStep_674, ze_L_isStep_676, ze_L_isStep_679, ze_L_isStep_680, ze_L_isStep_682, ze_L_isStep_684, ze_L_isStep_687, ze_L_isStep_690, ze_L_isStep_691, ze_L_isStep_693, ze_L_isStep_695, ze_L_isStep_696, ze_L_isStep_699, ze_L_isStep_701, ze_L_isStep_704, ze_L_isStep_705, ze_L_isStep_708, ze_L_isStep_709, zx_set_o, zx_set_p, e1, e2, w1, w2, zx_count_o, a1, c, q, Option.toList_some, Option.toList_none, List.cons_append, List.nil_append, true_and, and_true, and_self, bb_ite, true_or, or_true, Option.some.injEq, bb_I_eq, bb_b_0e, bb_b_1e, bb_b_e0, bb_b_e1, decide_eq_true_eq, decide_eq_false_iff_not, bn_01, bn_11, bb_b_01, ne_eq, Bool.not_eq_false, Bool.not_eq_true, Classical.not_not, bn_lt, bn_le, bn_ti, Int32.reduceToInt, bn_m20, bn_20m, nI_add, bn_p1, bn_s1, bn_in, bn_cl, implies_true, not_true_eq_false, not_false_eq_true, Bool.true_and, Bool.false_and, Bool.and_true, Bool.and_false, Bool.true_or, Bool.false_or, Bool.or_true, Bool.or_false, Bool.not_true, Bool.not_false, false_implies, true_implies, forall_const, Bool.false_eq_true, Bool.true_eq_false, reduceCtorEq, eq_self, Bool.and_eq_true, Bool.or_eq_true, Bool.and_eq_false_iff, Bool.or_eq_false_iff, and_false, false_and, or_false, false_or, bm_10, bm_01]
    exact ⟨rfl, h⟩
  · have c := zc_s (S := bs_act S1 (upd S1.1 (81 + n) (nI v))) hn
    rw [zact1, bf_upd, if_pos rfl] at c
    simp (disch := omega) only [ze_L_isStep_669, ze_L_isStep_671, ze_L_isStep_672, ze_L_isStep_674, ze_L_isStep_676, ze_L_isStep_679, ze_L_isStep_680, ze_L_isStep_682, ze_L_isStep_684, ze_L_isStep_687, ze_L_isStep_690, ze_L_isStep_691, ze_L_isStep_693, ze_L_isStep_695, ze_L_isStep_696, ze_L_isStep_699, ze_L_isStep_701, ze_L_isStep_704, ze_L_isStep_705, ze_L_isStep_708, ze_L_isStep_709, zx_set_o, zx_set_p, e1, e2, w1, w2, zx_count_o, a1, c, Option.toList_some, Option.toList_none, List.cons_append, List.nil_append, true_and, and_true, and_self, bb_ite, true_or, or_true, Option.some.injEq, bb_I_eq, bb_b_0e, bb_b_1e, bb_b_e0, bb_b_e1, decide_eq_true_eq, decide_eq_false_iff_not, bn_01, bn_11, bb_b_01, ne_eq, Bool.not_eq_false, Bool.not_eq_true, Classical.not_not, bn_lt, bn_le, bn_ti, Int32.reduceToInt, bn_m20, bn_20m, nI_add, bn_p1, bn_s1, bn_in, bn_cl, implies_true, not_true_eq_false, not_false_eq_true, Bool.true_and, Bool.false_and, Bool.and_true, Bool.and_false, Bool.true_or, Bool.false_or, Bool.or_true, Bool.or_false, Bool.not_true, Bool.not_false, false_implies, true_implies, forall_const, Bool.false_eq_true, Bool.true_eq_false, reduceCtorEq, eq_self, Bool.and_eq_true, Bool.or_eq_true, Bool.and_eq_false_iff, Bool.or_eq_false_iff, and_false, false_and, or_false, false_or, bm_10, bm_01]
    exact ⟨rfl, hI⟩
theorem zt_617 {F : Int32 → Int32} {d : Nat} {x y z r w s : Int32} {S1 S2 : bs_S} {q8 q9 q10 q11 q12 : bb_V} (h : zI (S1, S2)) : z_Y (z_CL F (d + 1)) zc_L_isStep z_R 617 [bb_R 40 0, bb_R 41 0, bb_I x, bb_I y, bb_I z, bb_I r, bb_I w, bb_I s, q8, q9, q10, q11, q12] [] (S1, S2) := by
  have a1 : ∀ n : Nat, (4 : Int32) + nI n = nI (4 + n) := fun n => by rw [show (4 : Int32) = nI 4 from rfl, nI_add]
  have h1 := zuN_lt (v := y) (n := 20) (by decide)
  have h2 := zuN_lt (v := y) (n := 3) (by decide)
  have h3 := zuN_lt (v := y) (n := 27) (by decide)
  have hn := zuN_lt (v := z) (n := 4) (by decide)
  have i0 : nI 0 = 0 := rfl
  have i1 : nI 1 = 1 := rfl
  have i2 : nI 2 = 2 := rfl
  have i3 : nI 3 = 3 := rfl
  have d1 : ¬ (1 : Int32) = 2 := by decide
  have d2 : ¬ (2 : Int32) = 0 := by decide
  have d3 : ¬ (2 : Int32) = 1 := by decide
  have d4 : ¬ (3 : Int32) = 0 := by decide
  have d5 : ¬ (3 : Int32) = 1 := by decide
  have d6 : ¬ (3 : Int32) = 2 := by decide
  have x3 := fun v hv => zt_669 (F := F) (d := d) (n := 3) (v := v) (x := x) (y := y) (z := z) (r := r) (w := w) (s := s) (q9 := q9) (q10 := q10) (q11 := q11) (q12 := q12) h (by decide) (Or.inr (Or.inr ⟨rfl, hv⟩))
  have x1 := fun v hv => zt_669 (F := F) (d := d) (n := 1) (v := v) (x := x) (y := y) (z := z) (r := r) (w := w) (s := s) (q9 := q9) (q10 := q10) (q11 := q11) (q12 := q12) h (by decide) (Or.inr (Or.inl ⟨rfl, hv⟩))
  have x0 := fun v hv => zt_669 (F := F) (d := d) (n := 0) (v := v) (x := x) (y := y) (z := z) (r := r) (w := w) (s := s) (q9 := q9) (q10 := q10) (q11 := q11) (q12 := q12) h (by decide) (Or.inl ⟨Or.inl rfl, hv⟩)
  have x2 := fun v hv => zt_669 (F := F) (d := d) (n := 2) (v := v) (x := x) (y := y) (z := z) (r := r) (w := w) (s := s) (q9 := q9) (q10 := q10) (q11 := q11) (q12 := q12) h (by decide) (Or.inl ⟨Or.inr rfl, hv⟩)
  rw [i0] at x0
  rw [i1] at x1
  rw [i2] at x2
  rw [i3] at x3
  simp (disch := omega) only [ze_L_isStep_617, ze_L_isStep_619, ze_L_isStep_620, ze_L_isStep_623, x_up4]
  generalize zuN z 4 = n at hn
  rcases (show n = 0 ∨ n = 1 ∨ n = 2 ∨ n = 3 by omega) with rfl | rfl | rfl | rfl
  · simp (disch := omega) only [ze_L_isStep_623, ze_L_isStep_625, ze_L_isStep_627, ze_L_isStep_630, ze_L_isStep_632, ze_L_isStep_633, ze_L_isStep_636, ze_L_isStep_637, ze_L_isStep_638, ze_L_isStep_640, ze_L_isStep_643, ze_L_isStep_644, ze_L_isStep_647, ze_L_isStep_649, ze_L_isStep_650, ze_L_isStep_653, ze_L_isStep_654, ze_L_isStep_655, ze_L_isStep_658, ze_L_isStep_661, ze_L_isStep_662, ze_L_isStep_663, ze_L_isStep_665, ze_L_isStep_668, x_up20, x_up3, x_up27, z1p, a1, i0, Option.toList_some, Option.toList_none, List.cons_append, List.nil_append, true_and, and_true, and_self, bb_ite, true_or, or_true, Option.some.injEq, bb_I_eq, bb_b_0e, bb_b_1e, bb_b_e0, bb_b_e1, decide_eq_true_eq, decide_eq_false_iff_not, bn_01, bn_11, bb_b_01, ne_eq, Bool.not_eq_false, Bool.not_eq_true, Classical.not_not, bn_lt, bn_le, bn_ti, Int32.reduceToInt, bn_m20, bn_20m, nI_add, bn_p1, bn_s1, bn_in, bn_cl, implies_true, not_true_eq_false, not_false_eq_true, Bool.true_and, Bool.false_and, Bool.and_true, Bool.and_false, Bool.true_or, Bool.false_or, Bool.or_true, Bool.or_false, Bool.not_true, Bool.not_false, false_implies, true_implies, forall_const, Bool.false_eq_true, Bool.true_eq_false, reduceCtorEq, eq_self, Bool.and_eq_true, Bool.or_eq_true, Bool.and_eq_false_iff, Bool.or_eq_false_iff, and_false, false_and, or_false, false_or, bm_10, bm_01]
    exact x0 _ (by omega)
  · simp (disch := omega) only [ze_L_isStep_623, ze_L_isStep_625, ze_L_isStep_627, ze_L_isStep_630, ze_L_isStep_632, ze_L_isStep_633, ze_L_isStep_636, ze_L_isStep_637, ze_L_isStep_638, ze_L_isStep_640, ze_L_isStep_643, ze_L_isStep_644, ze_L_isStep_647, ze_L_isStep_649, ze_L_isStep_650, ze_L_isStep_653, ze_L_isStep_654, ze_L_isStep_655, ze_L_isStep_658, ze_L_isStep_661, ze_L_isStep_662, ze_L_isStep_663, ze_L_isStep_665, ze_L_isStep_668, x_up20, x_up3, x_up27, z1p, a1, i1, d1, Option.toList_some, Option.toList_none, List.cons_append, List.nil_append, true_and, and_true, and_self, bb_ite, true_or, or_true, Option.some.injEq, bb_I_eq, bb_b_0e, bb_b_1e, bb_b_e0, bb_b_e1, decide_eq_true_eq, decide_eq_false_iff_not, bn_01, bn_11, bb_b_01, ne_eq, Bool.not_eq_false, Bool.not_eq_true, Classical.not_not, bn_lt, bn_le, bn_ti, Int32.reduceToInt, bn_m20, bn_20m, nI_add, bn_p1, bn_s1, bn_in, bn_cl, implies_true, not_true_eq_false, not_false_eq_true, Bool.true_and, Bool.false_and, Bool.and_true, Bool.and_false, Bool.true_or, Bool.false_or, Bool.or_true, Bool.or_false, Bool.not_true, Bool.not_false, false_implies, true_implies, forall_const, Bool.false_eq_true, Bool.true_eq_false, reduceCtorEq, eq_self, Bool.and_eq_true, Bool.or_eq_true, Bool.and_eq_false_iff, Bool.or_eq_false_iff, and_false, false_and, or_false, false_or, bm_10, bm_01]
    exact x1 _ (by omega)
  · simp (disch := omega) only [ze_L_isStep_623, ze_L_isStep_625, ze_L_isStep_627, ze_L_isStep_630, ze_L_isStep_632, ze_L_isStep_633, ze_L_isStep_636, ze_L_isStep_637, ze_L_isStep_638, ze_L_isStep_640, ze_L_isStep_643, ze_L_isStep_644, ze_L_isStep_647, ze_L_isStep_649, ze_L_isStep_650, ze_L_isStep_653, ze_L_isStep_654, ze_L_isStep_655, ze_L_isStep_658, ze_L_isStep_661, ze_L_isStep_662, ze_L_isStep_663, ze_L_isStep_665, ze_L_isStep_668, x_up20, x_up3, x_up27, z1p, a1, i2, d2, Option.toList_some, Option.toList_none, List.cons_append, List.nil_append, true_and, and_true, and_self, bb_ite, true_or, or_true, Option.some.injEq, bb_I_eq, bb_b_0e, bb_b_1e, bb_b_e0, bb_b_e1, decide_eq_true_eq, decide_eq_false_iff_not, bn_01, bn_11, bb_b_01, ne_eq, Bool.not_eq_false, Bool.not_eq_true, Classical.not_not, bn_lt, bn_le, bn_ti, Int32.reduceToInt, bn_m20, bn_20m, nI_add, bn_p1, bn_s1, bn_in, bn_cl, implies_true, not_true_eq_false, not_false_eq_true, Bool.true_and, Bool.false_and, Bool.and_true, Bool.and_false, Bool.true_or, Bool.false_or, Bool.or_true, Bool.or_false, Bool.not_true, Bool.not_false, false_implies, true_implies, forall_const, Bool.false_eq_true, Bool.true_eq_false, reduceCtorEq, eq_self, Bool.and_eq_true, Bool.or_eq_true, Bool.and_eq_false_iff, Bool.or_eq_false_iff, and_false, false_and, or_false, false_or, bm_10, bm_01]
    exact x2 _ (by omega)
  · simp (disch := omega) only [ze_L_isStep_623, ze_L_isStep_625, ze_L_isStep_627, ze_L_isStep_630, ze_L_isStep_632, ze_L_isStep_633, ze_L_isStep_636, ze_L_isStep_637, ze_L_isStep_638, ze_L_isStep_640, ze_L_isStep_643, ze_L_isStep_644, ze_L_isStep_647, ze_L_isStep_649, ze_L_isStep_650, ze_L_isStep_653, ze_L_isStep_654, ze_L_isStep_655, ze_L_isStep_658, ze_L_isStep_661, ze_L_isStep_662, ze_L_isStep_663, ze_L_isStep_665, ze_L_isStep_668, x_up20, x_up3, x_up27, z1p, a1, i3, d4, d5, d6, Option.toList_some, Option.toList_none, List.cons_append, List.nil_append, true_and, and_true, and_self, bb_ite, true_or, or_true, Option.some.injEq, bb_I_eq, bb_b_0e, bb_b_1e, bb_b_e0, bb_b_e1, decide_eq_true_eq, decide_eq_false_iff_not, bn_01, bn_11, bb_b_01, ne_eq, Bool.not_eq_false, Bool.not_eq_true, Classical.not_not, bn_lt, bn_le, bn_ti, Int32.reduceToInt, bn_m20, bn_20m, nI_add, bn_p1, bn_s1, bn_in, bn_cl, implies_true, not_true_eq_false, not_false_eq_true, Bool.true_and, Bool.false_and, Bool.and_true, Bool.and_false, Bool.true_or, Bool.false_or, Bool.or_true, Bool.or_false, Bool.not_true, Bool.not_false, false_implies, true_implies, forall_const, Bool.false_eq_true, Bool.true_eq_false, reduceCtorEq, eq_self, Bool.and_eq_true, Bool.or_eq_true, Bool.and_eq_false_iff, Bool.or_eq_false_iff, and_false, false_and, or_false, false_or, bm_10, bm_01]
    exact x3 _ (by omega)
/-! settling -/
theorem zy_qc (g : Nat → Int32) (p : Nat → Bool) : ∀ n, bf_qc g p n ≤ bf_cn p n
  | 0 => Nat.le_refl _
  | n + 1 => by
    have ih := zy_qc g p n
    show bf_qc g p n + bf_q0 (bf_qq g p n) (p n) n ≤ _
    rw [bf_cn_s]
    unfold bf_q0
    by_cases q : p n = true
    · rw [if_pos q]
      split <;> omega
    · rw [if_neg q, if_neg (fun z => q z.1)]
      omega
theorem zy_scu (h : Nat → Int32) (lv g : Int32) : bf_scu h lv g 4 ≤ bf_cr (bf_gap h lv g) 19 4 := by
  have e := fun r => zy_qc (bf_rg h r) (bf_gap h lv g r) 19
  show 0 + bf_qc (bf_rg h 0) (bf_gap h lv g 0) 19 + bf_qc (bf_rg h 1) (bf_gap h lv g 1) 19 + bf_qc (bf_rg h 2) (bf_gap h lv g 2) 19 + bf_qc (bf_rg h 3) (bf_gap h lv g 3) 19 ≤ 0 + bf_cn (bf_gap h lv g 0) 19 + bf_cn (bf_gap h lv g 1) 19 + bf_cn (bf_gap h lv g 2) 19 + bf_cn (bf_gap h lv g 3) 19
  have e0 := e 0
  have e1 := e 1
  have e2 := e 2
  have e3 := e 3
  omega
theorem zy_ls (a : Nat → Int32) (lv : Int32) : ∃ u v : Nat, br_ls a lv 140 = a 140 + nI u ∧ br_ls a lv 141 = a 141 + nI v ∧ br_lr a lv = u + v ∧ u ≤ bf_cr (bf_gap a lv (a 83)) 19 4 := by
  have hG := zy_scu a lv (a 83)
  unfold br_ls br_lr
  generalize bf_scu a lv (a 83) 4 = u at hG ⊢
  generalize bf_su (bf_sco a lv (a 83)) (a 84) 4 = v
  refine ⟨u, v, ?_, ?_, rfl, hG⟩
  · rw [if_neg (by decide), if_pos rfl]
  · rw [if_neg (by decide), if_neg (by decide), if_pos rfl]
theorem zd_set7 {S1 S2 : bs_S} (h : zI (S1, S2)) : ∃ (t : Int32) (u v : Nat) (U1 U2 : bs_S), sp_settle S1 = (t, U1) ∧ sp_settle S2 = (t, U2) ∧ zI (U1, U2) ∧ U1.1 140 = S1.1 140 + nI u ∧ U1.1 141 = S1.1 141 + nI v ∧ u ≤ bf_cr (bf_gap S1.1 (S1.1 80) (S1.1 83)) 19 4 ∧ u + v ≤ 1000000 ∧ (u + v = 0 ∧ t = -1005 ∨ u + v ≠ 0 ∧ t = nI (u + v)) := by
  have hle := br_lr_le (lv := S1.1 80) (zI_i h).1
  have hs := zd_settle h
  obtain ⟨u, v, e1, e2, e3, e4⟩ := zy_ls S1.1 (S1.1 80)
  generalize br_lr S1.1 (S1.1 80) = L at hle hs e3
  generalize br_ls S1.1 (S1.1 80) = A at hs e1 e2
  generalize sp_settle S1 = X1 at hs ⊢
  generalize sp_settle S2 = X2 at hs ⊢
  obtain ⟨t1, U1⟩ := X1
  obtain ⟨t2, U2⟩ := X2
  subst e3
  rcases hs with ⟨q, w1, w2, hI, w3⟩ | ⟨q, w1, w2, hI, w3⟩
  · have w1 : t1 = -1005 := w1
    have w2 : t2 = -1005 := w2
    have w3 : U1.1 = A := w3
    subst w1
    subst w2
    exact ⟨-1005, u, v, U1, U2, rfl, rfl, hI, by rw [w3, e1], by rw [w3, e2], e4, hle, Or.inl ⟨q, rfl⟩⟩
  · have w1 : t1 = nI (u + v) := w1
    have w2 : t2 = nI (u + v) := w2
    have w3 : U1.1 = A := w3
    subst w1
    subst w2
    exact ⟨nI (u + v), u, v, U1, U2, rfl, rfl, hI, by rw [w3, e1], by rw [w3, e2], e4, hle, Or.inr ⟨q, rfl⟩⟩
theorem x_areSame {F : Int32 → Int32} {d : Nat} {S1 S2 U2 : bs_S} {t : Int32} {k : z_P} (h : sp_settle S2 = (t, U2)) : z_call (z_CL F (d + 1)) 3 [bb_R 40 0, bb_R 41 0, bb_I t] (S1, S2) k ↔ k 1 (S1, U2) := by
  refine z_cal (zs_L_areSame ?_)
  simp (disch := omega) only [ze_L_areSame_0, ze_L_areSame_1, ze_L_areSame_4, ze_L_areSame_5, ze_L_areSame_8, ze_L_areSame_9, ze_L_areSame_12, ze_L_areSame_13, Option.toList_some, Option.toList_none, List.cons_append, List.nil_append, true_and, and_true, and_self, bb_ite, true_or, or_true, Option.some.injEq, bb_I_eq, bb_b_0e, bb_b_1e, bb_b_e0, bb_b_e1, decide_eq_true_eq, decide_eq_false_iff_not, bn_01, bn_11, bb_b_01, ne_eq, Bool.not_eq_false, Bool.not_eq_true, Classical.not_not, bn_lt, bn_le, bn_ti, Int32.reduceToInt, bn_m20, bn_20m, nI_add, bn_p1, bn_s1, bn_in, bn_cl, implies_true, not_true_eq_false, not_false_eq_true, Bool.true_and, Bool.false_and, Bool.and_true, Bool.and_false, Bool.true_or, Bool.false_or, Bool.or_true, Bool.or_false, Bool.not_true, Bool.not_false, false_implies, true_implies, forall_const, Bool.false_eq_true, Bool.true_eq_false, reduceCtorEq, eq_self, Bool.and_eq_true, Bool.or_eq_true, Bool.and_eq_false_iff, Bool.or_eq_false_iff, and_false, false_and, or_false, false_or, bm_10, bm_01, zx_settle_p, h]
  try trivial
theorem zt_710 {F : Int32 → Int32} {d : Nat} {x y z r w s : Int32} {S1 S2 : bs_S} {q8 q9 q10 q11 q12 : bb_V} (h : zI (S1, S2)) : z_Y (z_CL F (d + 1)) zc_L_isStep z_R 710 [bb_R 40 0, bb_R 41 0, bb_I x, bb_I y, bb_I z, bb_I r, bb_I w, bb_I s, q8, q9, q10, q11, q12] [] (S1, S2) := by
  obtain ⟨t, u, v, U1, U2, w1, w2, hI, a140, a141, hG, hle, hq⟩ := zd_set7 h
  have hGb := zy_b (p := bf_gap S1.1 (S1.1 80) (S1.1 83)) (n := 19)
  have hc16 := zc_16 S1
  generalize bf_cr (bf_gap S1.1 (S1.1 80) (S1.1 83)) 19 4 = G at hG hGb hc16
  have e1 : S1.1 140 + nI u - S1.1 140 = nI u := by grind
  have e2 : nI u + (S1.1 141 + nI v) - S1.1 141 = nI (u + v) := by rw [← nI_add]; grind
  have tu := bn_ti (n := u) (by omega)
  have tG := bn_ti (n := G) (by omega)
  have g1 : ¬ (G : Int) < (u : Int) := by omega
  have xb := fun k => x_isBalanced (F := F) (d := d) (S1 := U1) (S2 := S2) (k := k) (zI_b hI)
  have xs := fun k => x_areSame (F := F) (d := d) (S1 := U1) (k := k) w2
  rcases hq with ⟨q, rfl⟩ | ⟨q, rfl⟩
  · have e3 : nI (u + v) = 0 := by rw [q]; rfl
    simp (disch := omega) only [ze_L_isStep_710, ze_L_isStep_711, ze_L_isStep_713, ze_L_isStep_716, ze_L_isStep_718, ze_L_isStep_719, ze_L_isStep_721, ze_L_isStep_724, ze_L_isStep_726, ze_L_isStep_727, ze_L_isStep_729, ze_L_isStep_732, ze_L_isStep_734, ze_L_isStep_735, ze_L_isStep_738, ze_L_isStep_740, ze_L_isStep_741, ze_L_isStep_743, ze_L_isStep_746, ze_L_isStep_748, ze_L_isStep_749, ze_L_isStep_750, ze_L_isStep_752, ze_L_isStep_755, ze_L_isStep_756, ze_L_isStep_758, ze_L_isStep_759, ze_L_isStep_761, ze_L_isStep_762, ze_L_isStep_764, ze_L_isStep_767, ze_L_isStep_769, ze_L_isStep_770, ze_L_isStep_772, ze_L_isStep_775, ze_L_isStep_777, ze_L_isStep_780, ze_L_isStep_783, ze_L_isStep_785, ze_L_isStep_788, ze_L_isStep_791, ze_L_isStep_793, ze_L_isStep_795, ze_L_isStep_798, ze_L_isStep_800, ze_L_isStep_803, ze_L_isStep_804, ze_L_isStep_807, ze_L_isStep_810, ze_L_isStep_811, ze_L_isStep_812, ze_L_isStep_814, ze_L_isStep_817, ze_L_isStep_820, ze_L_isStep_821, ze_L_isStep_824, ze_L_isStep_825, zx_count_o, zx_settle_o, zc_7, zc_8, hc16, w1, a140, a141, e1, e2, e3, bn_lt, tu, tG, g1, xb, xs, Option.toList_some, Option.toList_none, List.cons_append, List.nil_append, true_and, and_true, and_self, bb_ite, true_or, or_true, Option.some.injEq, bb_I_eq, bb_b_0e, bb_b_1e, bb_b_e0, bb_b_e1, decide_eq_true_eq, decide_eq_false_iff_not, bn_01, bn_11, bb_b_01, ne_eq, Bool.not_eq_false, Bool.not_eq_true, Classical.not_not, bn_lt, bn_le, bn_ti, Int32.reduceToInt, bn_m20, bn_20m, nI_add, bn_p1, bn_s1, bn_in, bn_cl, implies_true, not_true_eq_false, not_false_eq_true, Bool.true_and, Bool.false_and, Bool.and_true, Bool.and_false, Bool.true_or, Bool.false_or, Bool.or_true, Bool.or_false, Bool.not_true, Bool.not_false, false_implies, true_implies, forall_const, Bool.false_eq_true, Bool.true_eq_false, reduceCtorEq, eq_self, Bool.and_eq_true, Bool.or_eq_true, Bool.and_eq_false_iff, Bool.or_eq_false_iff, and_false, false_and, or_false, false_or, bm_10, bm_01]
    exact ⟨rfl, hI⟩
  · have tuv := bn_ti (n := u + v) (by omega)
    have e4 : ¬ nI (u + v) = -1005 := fun z => by
      have := congrArg Int32.toInt z
      rw [tuv, show (-1005 : Int32).toInt = -1005 from rfl] at this
      omega
    have e5 : ¬ ((u + v : Nat) : Int) ≤ 0 := by omega
    simp (disch := omega) only [ze_L_isStep_710, ze_L_isStep_711, ze_L_isStep_713, ze_L_isStep_716, ze_L_isStep_718, ze_L_isStep_719, ze_L_isStep_721, ze_L_isStep_724, ze_L_isStep_726, ze_L_isStep_727, ze_L_isStep_729, ze_L_isStep_732, ze_L_isStep_734, ze_L_isStep_735, ze_L_isStep_738, ze_L_isStep_740, ze_L_isStep_741, ze_L_isStep_743, ze_L_isStep_746, ze_L_isStep_748, ze_L_isStep_749, ze_L_isStep_750, ze_L_isStep_752, ze_L_isStep_755, ze_L_isStep_756, ze_L_isStep_758, ze_L_isStep_759, ze_L_isStep_761, ze_L_isStep_762, ze_L_isStep_764, ze_L_isStep_767, ze_L_isStep_769, ze_L_isStep_770, ze_L_isStep_772, ze_L_isStep_775, ze_L_isStep_777, ze_L_isStep_780, ze_L_isStep_783, ze_L_isStep_785, ze_L_isStep_788, ze_L_isStep_791, ze_L_isStep_793, ze_L_isStep_795, ze_L_isStep_798, ze_L_isStep_800, ze_L_isStep_803, ze_L_isStep_804, ze_L_isStep_807, ze_L_isStep_810, ze_L_isStep_811, ze_L_isStep_812, ze_L_isStep_814, ze_L_isStep_817, ze_L_isStep_820, ze_L_isStep_821, ze_L_isStep_824, ze_L_isStep_825, zx_count_o, zx_settle_o, zc_7, zc_8, hc16, w1, a140, a141, e1, e2, e4, bn_lt, tu, tG, tuv, g1, e5, xb, xs, Option.toList_some, Option.toList_none, List.cons_append, List.nil_append, true_and, and_true, and_self, bb_ite, true_or, or_true, Option.some.injEq, bb_I_eq, bb_b_0e, bb_b_1e, bb_b_e0, bb_b_e1, decide_eq_true_eq, decide_eq_false_iff_not, bn_01, bn_11, bb_b_01, ne_eq, Bool.not_eq_false, Bool.not_eq_true, Classical.not_not, bn_lt, bn_le, bn_ti, Int32.reduceToInt, bn_m20, bn_20m, nI_add, bn_p1, bn_s1, bn_in, bn_cl, implies_true, not_true_eq_false, not_false_eq_true, Bool.true_and, Bool.false_and, Bool.and_true, Bool.and_false, Bool.true_or, Bool.false_or, Bool.or_true, Bool.or_false, Bool.not_true, Bool.not_false, false_implies, true_implies, forall_const, Bool.false_eq_true, Bool.true_eq_false, reduceCtorEq, eq_self, Bool.and_eq_true, Bool.or_eq_true, Bool.and_eq_false_iff, Bool.or_eq_false_iff, and_false, false_and, or_false, false_or, bm_10, bm_01]
    exact ⟨rfl, hI⟩
theorem zt_826 {F : Int32 → Int32} {d : Nat} {x y z r w s : Int32} {S1 S2 : bs_S} {q8 q9 q10 q11 q12 : bb_V} (h : zI (S1, S2)) : z_Y (z_CL F (d + 1)) zc_L_isStep z_R 826 [bb_R 40 0, bb_R 41 0, bb_I x, bb_I y, bb_I z, bb_I r, bb_I w, bb_I s, q8, q9, q10, q11, q12] [] (S1, S2) := by
  by_cases q : S1.2.2.1 = 0
  · have c : nI S1.2.2.1 = 0 := by rw [q]; rfl
    simp (disch := omega) only [ze_L_isStep_826, ze_L_isStep_827, ze_L_isStep_829, ze_L_isStep_832, ze_L_isStep_835, ze_L_isStep_836, ze_L_isStep_839, ze_L_isStep_840, ze_L_isStep_843, ze_L_isStep_846, ze_L_isStep_847, ze_L_isStep_850, ze_L_isStep_851, zx_count_o, zc_18, c, Option.toList_some, Option.toList_none, List.cons_append, List.nil_append, true_and, and_true, and_self, bb_ite, true_or, or_true, Option.some.injEq, bb_I_eq, bb_b_0e, bb_b_1e, bb_b_e0, bb_b_e1, decide_eq_true_eq, decide_eq_false_iff_not, bn_01, bn_11, bb_b_01, ne_eq, Bool.not_eq_false, Bool.not_eq_true, Classical.not_not, bn_lt, bn_le, bn_ti, Int32.reduceToInt, bn_m20, bn_20m, nI_add, bn_p1, bn_s1, bn_in, bn_cl, implies_true, not_true_eq_false, not_false_eq_true, Bool.true_and, Bool.false_and, Bool.and_true, Bool.and_false, Bool.true_or, Bool.false_or, Bool.or_true, Bool.or_false, Bool.not_true, Bool.not_false, false_implies, true_implies, forall_const, Bool.false_eq_true, Bool.true_eq_false, reduceCtorEq, eq_self, Bool.and_eq_true, Bool.or_eq_true, Bool.and_eq_false_iff, Bool.or_eq_false_iff, and_false, false_and, or_false, false_or, bm_10, bm_01]
    exact ⟨rfl, h⟩
  · have h4 : S1.2.2.1 ≤ 4 := h.2.1.2
    have c : ¬ nI S1.2.2.1 = 0 := nI_ne0 (by omega) (by omega)
    obtain ⟨w1, hI⟩ := zd_undo h q
    simp (disch := omega) only [ze_L_isStep_826, ze_L_isStep_827, ze_L_isStep_829, ze_L_isStep_832, ze_L_isStep_835, ze_L_isStep_836, ze_L_isStep_839, ze_L_isStep_840, ze_L_isStep_843, ze_L_isStep_846, ze_L_isStep_847, ze_L_isStep_850, ze_L_isStep_851, zx_count_o, zx_undo_o, zx_undo_p, zc_18, c, w1, Option.toList_some, Option.toList_none, List.cons_append, List.nil_append, true_and, and_true, and_self, bb_ite, true_or, or_true, Option.some.injEq, bb_I_eq, bb_b_0e, bb_b_1e, bb_b_e0, bb_b_e1, decide_eq_true_eq, decide_eq_false_iff_not, bn_01, bn_11, bb_b_01, ne_eq, Bool.not_eq_false, Bool.not_eq_true, Classical.not_not, bn_lt, bn_le, bn_ti, Int32.reduceToInt, bn_m20, bn_20m, nI_add, bn_p1, bn_s1, bn_in, bn_cl, implies_true, not_true_eq_false, not_false_eq_true, Bool.true_and, Bool.false_and, Bool.and_true, Bool.and_false, Bool.true_or, Bool.false_or, Bool.or_true, Bool.or_false, Bool.not_true, Bool.not_false, false_implies, true_implies, forall_const, Bool.false_eq_true, Bool.true_eq_false, reduceCtorEq, eq_self, Bool.and_eq_true, Bool.or_eq_true, Bool.and_eq_false_iff, Bool.or_eq_false_iff, and_false, false_and, or_false, false_or, bm_10, bm_01]
    exact ⟨rfl, hI⟩
theorem zt_852 {F : Int32 → Int32} {d : Nat} {x y z r s : Int32} {S1 S2 : bs_S} {q8 q9 q10 q11 q12 : bb_V} (h : zI (S1, S2)) : z_Y (z_CL F (d + 1)) zc_L_isStep z_R 852 [bb_R 40 0, bb_R 41 0, bb_I x, bb_I y, bb_I z, bb_I r, bb_I (nI (bs_sz S1.1)), bb_I s, q8, q9, q10, q11, q12] [] (S1, S2) := by
  have h1 := zuN_lt (v := y) (n := 20) (by decide)
  have h2 := zuN_lt (v := z) (n := 20) (by decide)
  have hz : bs_sz S1.1 ≤ 24 := zg_sz h.1
  have e85 : S1.1 85 = nI (bs_sz S1.1) := (zI_i h).1.2.2.2.2.2.2.1.2
  simp (disch := omega) only [ze_L_isStep_852, ze_L_isStep_853, ze_L_isStep_854, ze_L_isStep_856, ze_L_isStep_859, ze_L_isStep_860, ze_L_isStep_862, ze_L_isStep_863, ze_L_isStep_865, ze_L_isStep_867, ze_L_isStep_870, ze_L_isStep_871, x_up20, z1p]
  generalize zuN y 20 = l at h1
  generalize zuN z 20 = m at h2
  have t1 := bn_ti (n := l + 1) (by omega)
  have t2 := bn_ti (n := m + 1) (by omega)
  rcases zd_strike (l := l + 1) (m := m + 1) h (by omega) (by omega) with ⟨q, w1, w2⟩ | ⟨q, w1, w2⟩ | ⟨q, k, hk, w1, w2, w3, hI⟩
  · have g : ¬ ((l + 1 : Nat) : Int) ≤ ((m + 1 : Nat) : Int) := by omega
    simp (disch := omega) only [ze_L_isStep_873, ze_L_isStep_874, ze_L_isStep_876, ze_L_isStep_878, ze_L_isStep_881, ze_L_isStep_883, ze_L_isStep_885, ze_L_isStep_886, ze_L_isStep_888, ze_L_isStep_890, ze_L_isStep_893, ze_L_isStep_896, ze_L_isStep_898, ze_L_isStep_900, ze_L_isStep_903, ze_L_isStep_905, ze_L_isStep_908, ze_L_isStep_911, ze_L_isStep_914, ze_L_isStep_915, ze_L_isStep_917, ze_L_isStep_920, ze_L_isStep_922, ze_L_isStep_925, ze_L_isStep_927, ze_L_isStep_930, ze_L_isStep_932, ze_L_isStep_934, ze_L_isStep_935, ze_L_isStep_938, ze_L_isStep_939, ze_L_isStep_942, ze_L_isStep_943, zx_strike_o, zx_strike_p, w1, w2, bn_le, t1, t2, g, Option.toList_some, Option.toList_none, List.cons_append, List.nil_append, true_and, and_true, and_self, bb_ite, true_or, or_true, Option.some.injEq, bb_I_eq, bb_b_0e, bb_b_1e, bb_b_e0, bb_b_e1, decide_eq_true_eq, decide_eq_false_iff_not, bn_01, bn_11, bb_b_01, ne_eq, Bool.not_eq_false, Bool.not_eq_true, Classical.not_not, bn_lt, bn_le, bn_ti, Int32.reduceToInt, bn_m20, bn_20m, nI_add, bn_p1, bn_s1, bn_in, bn_cl, implies_true, not_true_eq_false, not_false_eq_true, Bool.true_and, Bool.false_and, Bool.and_true, Bool.and_false, Bool.true_or, Bool.false_or, Bool.or_true, Bool.or_false, Bool.not_true, Bool.not_false, false_implies, true_implies, forall_const, Bool.false_eq_true, Bool.true_eq_false, reduceCtorEq, eq_self, Bool.and_eq_true, Bool.or_eq_true, Bool.and_eq_false_iff, Bool.or_eq_false_iff, and_false, false_and, or_false, false_or, bm_10, bm_01]
    exact ⟨rfl, h⟩
  · have g : ((l + 1 : Nat) : Int) ≤ ((m + 1 : Nat) : Int) := by omega
    have g2 : ¬ (0 : Int) ≤ -1005 := by decide
    simp (disch := omega) only [ze_L_isStep_873, ze_L_isStep_874, ze_L_isStep_876, ze_L_isStep_878, ze_L_isStep_881, ze_L_isStep_883, ze_L_isStep_885, ze_L_isStep_886, ze_L_isStep_888, ze_L_isStep_890, ze_L_isStep_893, ze_L_isStep_896, ze_L_isStep_898, ze_L_isStep_900, ze_L_isStep_903, ze_L_isStep_905, ze_L_isStep_908, ze_L_isStep_911, ze_L_isStep_914, ze_L_isStep_915, ze_L_isStep_917, ze_L_isStep_920, ze_L_isStep_922, ze_L_isStep_925, ze_L_isStep_927, ze_L_isStep_930, ze_L_isStep_932, ze_L_isStep_934, ze_L_isStep_935, ze_L_isStep_938, ze_L_isStep_939, ze_L_isStep_942, ze_L_isStep_943, zx_strike_o, zx_strike_p, zx_count_o, zc_9, e85, w1, w2, bn_le, t1, t2, g, g2, Option.toList_some, Option.toList_none, List.cons_append, List.nil_append, true_and, and_true, and_self, bb_ite, true_or, or_true, Option.some.injEq, bb_I_eq, bb_b_0e, bb_b_1e, bb_b_e0, bb_b_e1, decide_eq_true_eq, decide_eq_false_iff_not, bn_01, bn_11, bb_b_01, ne_eq, Bool.not_eq_false, Bool.not_eq_true, Classical.not_not, bn_lt, bn_le, bn_ti, Int32.reduceToInt, bn_m20, bn_20m, nI_add, bn_p1, bn_s1, bn_in, bn_cl, implies_true, not_true_eq_false, not_false_eq_true, Bool.true_and, Bool.false_and, Bool.and_true, Bool.and_false, Bool.true_or, Bool.false_or, Bool.or_true, Bool.or_false, Bool.not_true, Bool.not_false, false_implies, true_implies, forall_const, Bool.false_eq_true, Bool.true_eq_false, reduceCtorEq, eq_self, Bool.and_eq_true, Bool.or_eq_true, Bool.and_eq_false_iff, Bool.or_eq_false_iff, and_false, false_and, or_false, false_or, bm_10, bm_01]
    exact ⟨rfl, h⟩
  · have g : ((l + 1 : Nat) : Int) ≤ ((m + 1 : Nat) : Int) := by omega
    have t3 := bn_ti (n := bs_sz S1.1 - k) (by omega)
    have g2 : (0 : Int) ≤ ((bs_sz S1.1 - k : Nat) : Int) := by omega
    have e : nI (bs_sz S1.1) - nI (bs_sz S1.1 - k) = nI k := by
      rw [pk_sub (by omega)]
      congr 1
      omega
    simp (disch := omega) only [ze_L_isStep_873, ze_L_isStep_874, ze_L_isStep_876, ze_L_isStep_878, ze_L_isStep_881, ze_L_isStep_883, ze_L_isStep_885, ze_L_isStep_886, ze_L_isStep_888, ze_L_isStep_890, ze_L_isStep_893, ze_L_isStep_896, ze_L_isStep_898, ze_L_isStep_900, ze_L_isStep_903, ze_L_isStep_905, ze_L_isStep_908, ze_L_isStep_911, ze_L_isStep_914, ze_L_isStep_915, ze_L_isStep_917, ze_L_isStep_920, ze_L_isStep_922, ze_L_isStep_925, ze_L_isStep_927, ze_L_isStep_930, ze_L_isStep_932, ze_L_isStep_934, ze_L_isStep_935, ze_L_isStep_938, ze_L_isStep_939, ze_L_isStep_942, ze_L_isStep_943, zx_strike_o, zx_strike_p, zx_count_o, zc_9, zact1, w3, w1, w2, bn_le, t1, t2, t3, g, g2, e, Option.toList_some, Option.toList_none, List.cons_append, List.nil_append, true_and, and_true, and_self, bb_ite, true_or, or_true, Option.some.injEq, bb_I_eq, bb_b_0e, bb_b_1e, bb_b_e0, bb_b_e1, decide_eq_true_eq, decide_eq_false_iff_not, bn_01, bn_11, bb_b_01, ne_eq, Bool.not_eq_false, Bool.not_eq_true, Classical.not_not, bn_lt, bn_le, bn_ti, Int32.reduceToInt, bn_m20, bn_20m, nI_add, bn_p1, bn_s1, bn_in, bn_cl, implies_true, not_true_eq_false, not_false_eq_true, Bool.true_and, Bool.false_and, Bool.and_true, Bool.and_false, Bool.true_or, Bool.false_or, Bool.or_true, Bool.or_false, Bool.not_true, Bool.not_false, false_implies, true_implies, forall_const, Bool.false_eq_true, Bool.true_eq_false, reduceCtorEq, eq_self, Bool.and_eq_true, Bool.or_eq_true, Bool.and_eq_false_iff, Bool.or_eq_false_iff, and_false, false_and, or_false, false_or, bm_10, bm_01]
    exact ⟨rfl, hI⟩
theorem zt_0 {F : Int32 → Int32} {d : Nat} {x y : Int32} {S1 S2 : bs_S} (h : zI (S1, S2)) : z_Y (z_CL F (d + 1)) zc_L_isStep z_R 0 [bb_R 40 0, bb_R 41 0, bb_I x, bb_I y, bb_U, bb_U, bb_U, bb_U, bb_U, bb_U, bb_U, bb_U, bb_U] [] (S1, S2) := by
  have hr := zuN_lt (v := x >>> (4 &&& 31)) (n := 4) (by decide)
  have hs := zuN_lt (v := x) (n := 15) (by decide)
  have e85 : S1.1 85 = nI (bs_sz S1.1) := (zI_i h).1.2.2.2.2.2.2.1.2
  have en : ∀ a b : Nat, a < 1000 → b < 1000 → a ≠ b → ¬ nI a = nI b := fun a b ha hb hab z => hab ((nI_eq (by omega) (by omega)).mp z)
  simp (disch := omega) only [ze_L_isStep_0, ze_L_isStep_1, ze_L_isStep_2, ze_L_isStep_3, ze_L_isStep_5, ze_L_isStep_7, ze_L_isStep_8, ze_L_isStep_11, ze_L_isStep_13, ze_L_isStep_14, ze_L_isStep_16, ze_L_isStep_19, ze_L_isStep_21, ze_L_isStep_22, ze_L_isStep_23, ze_L_isStep_26, ze_L_isStep_28, ze_L_isStep_29, ze_L_isStep_31, x_up4, x_up15, zx_count_o, zc_0, zc_9, e85]
  generalize zuN x 15 = n at hs
  rw [ze_L_isStep_34]
  rw [bb_ite]
  refine ⟨fun _ => zt_104 h hr, fun _ => ?_⟩
  rw [bb_ite]
  refine ⟨fun _ => zt_104 h hr, fun _ => ?_⟩
  rw [bb_ite]
  refine ⟨fun _ => zt_104 h hr, fun _ => ?_⟩
  rw [bb_ite]
  refine ⟨fun _ => zt_104 h hr, fun _ => ?_⟩
  rw [bb_ite]
  refine ⟨fun _ => zt_104 h hr, fun _ => ?_⟩
  rw [bb_ite]
  refine ⟨fun _ => zt_177 h, fun _ => ?_⟩
  rw [bb_ite]
  refine ⟨fun _ => zt_177 h, fun _ => ?_⟩
  rw [bb_ite]
  refine ⟨fun _ => zt_177 h, fun _ => ?_⟩
  rw [bb_ite]
  refine ⟨fun _ => zt_310 h hr, fun _ => ?_⟩
  rw [bb_ite]
  refine ⟨fun _ => zt_310 h hr, fun _ => ?_⟩
  rw [bb_ite]
  refine ⟨fun _ => zt_485 h, fun _ => ?_⟩
  rw [bb_ite]
  refine ⟨fun _ => zt_617 h, fun _ => ?_⟩
  rw [bb_ite]
  refine ⟨fun _ => zt_710 h, fun _ => ?_⟩
  rw [bb_ite]
  refine ⟨fun _ => zt_826 h, fun _ => ?_⟩
  exact zt_852 h
/-- a run to an end of which R holds, is one to some end -/
theorem z_Y_some {C : z_C} {cd : Nat → z_O} {R : z_P} {pc : Nat} {ls st : List bb_V} {T : z_T} (h : z_Y C cd R pc ls st T) : ∃ r T', R r T' ∧ z_Y C cd (fun r' T2 => r' = r ∧ T2 = T') pc ls st T := by
  refine h (fun pc ls st T => ∃ r T', R r T' ∧ z_Y C cd (fun r' T2 => r' = r ∧ T2 = T') pc ls st T) ?_
  intro pc ls st T h
  match hx : cd pc ls st, h with
  | none, h => exact h.elim
  | some (.inl (n, ls', st')), h =>
    obtain ⟨r, T', h1, h2⟩ := h
    exact ⟨r, T', h1, z_Y_of (by rw [hx]; exact h2)⟩
  | some (.inr (.inl v)), h => exact ⟨v, T, h, z_Y_of (by rw [hx]; exact ⟨rfl, rfl⟩)⟩
  | some (.inr (.inr (y, as, n, ls', st'))), h =>
    obtain ⟨r1, T1, a1, r, T', h1, h2⟩ := h
    exact ⟨r, T', h1, z_Y_of (by rw [hx]; exact ⟨r1, T1, a1, h2⟩)⟩
theorem x_isStep {F : Int32 → Int32} {d : Nat} {x y : Int32} {S1 S2 : bs_S} (h : zI (S1, S2)) : ∃ T', zI T' ∧ ∀ k : z_P, z_call (z_CL F (d + 2)) 2 [bb_R 40 0, bb_R 41 0, bb_I x, bb_I y] (S1, S2) k ↔ k 1 T' := by
  obtain ⟨r, T', ⟨rfl, hI⟩, hY⟩ := z_Y_some (zt_0 (F := F) (d := d) (x := x) (y := y) h)
  exact ⟨T', hI, fun k => z_cal (zs_L_isStep hY)⟩
