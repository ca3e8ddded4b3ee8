theorem l_X7_stop {d r n : Nat} {M : bb_M} {g F : Nat → Int32} {p q : Int32} {R : bb_P} {w0 w1 z : bb_V} (hn : n < 20) (h4 : ¬ F 4 = 0) : bb_Y (bb_CL d) cd_X7_runs R 210 [bb_R 7 0, bb_I (nI r), w0, w1, bb_I (nI n), z] [] (bm_R M r (g, F, p, q)) ↔ R none (bm_R M r (g, upd (upd F 3 (nI n)) 4 (F 4), p, q)) := by
  have v3 : vp_in 3 7 := vp_in_nI (n := 3) (by omega) (by omega)
  have v4 : vp_in 4 7 := vp_in_nI (n := 4) (by omega) (by omega)
  have s0 : nI n - 0 = nI n := Int32.sub_zero _
  have l1 : ¬ nI n < 0 := by rw [bn_lt, bn_ti (by omega), show (0 : Int32).toInt = 0 from rfl]; omega
  have f4 : ∀ x, upd F 3 x 4 = F 4 := fun x => bw_upd_c (by decide)
  have a : bb_Y (bb_CL d) cd_X7_runs R 210 [bb_R 7 0, bb_I (nI r), w0, w1, bb_I (nI n), z] [] (bm_R M r (g, F, p, q)) ↔ bb_Y (bb_CL d) cd_X7_runs R 69 [bb_R 7 0, bb_I (nI r), w0, w1, bb_I (nI n), z] [] (bm_R M r (g, F, p, q)) := by
    simp (disch := omega) only [e_X7_runs_0, e_X7_runs_1, e_X7_runs_2, e_X7_runs_4, e_X7_runs_6, e_X7_runs_7, e_X7_runs_8, e_X7_runs_11, e_X7_runs_13, e_X7_runs_14, e_X7_runs_17, e_X7_runs_18, e_X7_runs_21, e_X7_runs_22, e_X7_runs_24, e_X7_runs_25, e_X7_runs_28, e_X7_runs_29, e_X7_runs_30, e_X7_runs_31, e_X7_runs_32, e_X7_runs_35, e_X7_runs_36, e_X7_runs_37, e_X7_runs_38, e_X7_runs_39, e_X7_runs_42, e_X7_runs_43, e_X7_runs_46, e_X7_runs_47, e_X7_runs_48, e_X7_runs_51, e_X7_runs_52, e_X7_runs_53, e_X7_runs_54, e_X7_runs_55, e_X7_runs_58, e_X7_runs_59, e_X7_runs_60, e_X7_runs_61, e_X7_runs_62, e_X7_runs_65, e_X7_runs_67, e_X7_runs_68, e_X7_runs_71, e_X7_runs_74, e_X7_runs_75, e_X7_runs_78, e_X7_runs_79, e_X7_runs_80, e_X7_runs_83, e_X7_runs_84, e_X7_runs_85, e_X7_runs_87, e_X7_runs_90, e_X7_runs_93, e_X7_runs_94, e_X7_runs_97, e_X7_runs_98, e_X7_runs_99, e_X7_runs_100, e_X7_runs_103, e_X7_runs_104, e_X7_runs_105, e_X7_runs_107, e_X7_runs_110, e_X7_runs_111, e_X7_runs_114, e_X7_runs_115, e_X7_runs_118, e_X7_runs_119, e_X7_runs_120, e_X7_runs_123, e_X7_runs_124, e_X7_runs_125, e_X7_runs_128, e_X7_runs_131, e_X7_runs_133, e_X7_runs_136, e_X7_runs_137, e_X7_runs_140, e_X7_runs_141, e_X7_runs_142, e_X7_runs_143, e_X7_runs_144, e_X7_runs_147, e_X7_runs_148, e_X7_runs_149, e_X7_runs_150, e_X7_runs_151, e_X7_runs_152, e_X7_runs_153, e_X7_runs_154, e_X7_runs_157, e_X7_runs_159, e_X7_runs_160, e_X7_runs_161, e_X7_runs_162, e_X7_runs_163, e_X7_runs_165, e_X7_runs_167, e_X7_runs_170, e_X7_runs_172, e_X7_runs_173, e_X7_runs_174, e_X7_runs_177, e_X7_runs_179, e_X7_runs_180, e_X7_runs_181, e_X7_runs_182, e_X7_runs_183, e_X7_runs_184, e_X7_runs_185, e_X7_runs_186, e_X7_runs_189, e_X7_runs_190, e_X7_runs_191, e_X7_runs_192, e_X7_runs_193, e_X7_runs_194, e_X7_runs_195, e_X7_runs_196, e_X7_runs_199, e_X7_runs_200, e_X7_runs_201, e_X7_runs_204, e_X7_runs_205, e_X7_runs_208, e_X7_runs_209, e_X7_runs_210, e_X7_runs_212, e_X7_runs_213, e_X7_runs_216, e_X7_runs_217, e_X7_runs_218, e_X7_runs_221, e_X7_runs_222, e_X7_runs_225, e_X7_runs_226, e_X7_runs_227, e_X7_runs_229, e_X7_runs_232, e_X7_runs_233, e_X7_runs_236, e_X7_runs_237, e_X7_runs_239, e_X7_runs_240, e_X7_runs_241, e_X7_runs_244, e_X7_runs_245, e_X7_runs_246, e_X7_runs_249, e_X7_runs_250, e_X7_runs_251, e_X7_runs_254, e_X7_runs_255, e_X7_runs_258, e_X7_runs_259, e_X7_runs_262, e_X7_runs_263, e_X7_runs_264, e_X7_runs_265, Option.toList_some, Option.toList_none, List.cons_append, List.nil_append, true_and, and_true, and_self, bb_ite, true_or, or_true, Option.some.injEq, bb_I_eq, bb_b_0e, bb_b_1e, bb_b_e0, bb_b_e1, decide_eq_true_eq, decide_eq_false_iff_not, bn_01, bn_11, bb_b_01, ne_eq, Bool.not_eq_false, Bool.not_eq_true, Classical.not_not, v4, Int32.reduceToNatClampNeg, bm_r25, h4, s0, not_false_eq_true, not_true_eq_false, false_implies, true_implies]
  rw [a, h_X7_runs_69]
  simp (disch := omega) only [e_X7_runs_0, e_X7_runs_1, e_X7_runs_2, e_X7_runs_4, e_X7_runs_6, e_X7_runs_7, e_X7_runs_8, e_X7_runs_11, e_X7_runs_13, e_X7_runs_14, e_X7_runs_17, e_X7_runs_18, e_X7_runs_21, e_X7_runs_22, e_X7_runs_24, e_X7_runs_25, e_X7_runs_28, e_X7_runs_29, e_X7_runs_30, e_X7_runs_31, e_X7_runs_32, e_X7_runs_35, e_X7_runs_36, e_X7_runs_37, e_X7_runs_38, e_X7_runs_39, e_X7_runs_42, e_X7_runs_43, e_X7_runs_46, e_X7_runs_47, e_X7_runs_48, e_X7_runs_51, e_X7_runs_52, e_X7_runs_53, e_X7_runs_54, e_X7_runs_55, e_X7_runs_58, e_X7_runs_59, e_X7_runs_60, e_X7_runs_61, e_X7_runs_62, e_X7_runs_65, e_X7_runs_67, e_X7_runs_68, e_X7_runs_71, e_X7_runs_74, e_X7_runs_75, e_X7_runs_78, e_X7_runs_79, e_X7_runs_80, e_X7_runs_83, e_X7_runs_84, e_X7_runs_85, e_X7_runs_87, e_X7_runs_90, e_X7_runs_93, e_X7_runs_94, e_X7_runs_97, e_X7_runs_98, e_X7_runs_99, e_X7_runs_100, e_X7_runs_103, e_X7_runs_104, e_X7_runs_105, e_X7_runs_107, e_X7_runs_110, e_X7_runs_111, e_X7_runs_114, e_X7_runs_115, e_X7_runs_118, e_X7_runs_119, e_X7_runs_120, e_X7_runs_123, e_X7_runs_124, e_X7_runs_125, e_X7_runs_128, e_X7_runs_131, e_X7_runs_133, e_X7_runs_136, e_X7_runs_137, e_X7_runs_140, e_X7_runs_141, e_X7_runs_142, e_X7_runs_143, e_X7_runs_144, e_X7_runs_147, e_X7_runs_148, e_X7_runs_149, e_X7_runs_150, e_X7_runs_151, e_X7_runs_152, e_X7_runs_153, e_X7_runs_154, e_X7_runs_157, e_X7_runs_159, e_X7_runs_160, e_X7_runs_161, e_X7_runs_162, e_X7_runs_163, e_X7_runs_165, e_X7_runs_167, e_X7_runs_170, e_X7_runs_172, e_X7_runs_173, e_X7_runs_174, e_X7_runs_177, e_X7_runs_179, e_X7_runs_180, e_X7_runs_181, e_X7_runs_182, e_X7_runs_183, e_X7_runs_184, e_X7_runs_185, e_X7_runs_186, e_X7_runs_189, e_X7_runs_190, e_X7_runs_191, e_X7_runs_192, e_X7_runs_193, e_X7_runs_194, e_X7_runs_195, e_X7_runs_196, e_X7_runs_199, e_X7_runs_200, e_X7_runs_201, e_X7_runs_204, e_X7_runs_205, e_X7_runs_208, e_X7_runs_209, e_X7_runs_210, e_X7_runs_212, e_X7_runs_213, e_X7_runs_216, e_X7_runs_217, e_X7_runs_218, e_X7_runs_221, e_X7_runs_222, e_X7_runs_225, e_X7_runs_226, e_X7_runs_227, e_X7_runs_229, e_X7_runs_232, e_X7_runs_233, e_X7_runs_236, e_X7_runs_237, e_X7_runs_239, e_X7_runs_240, e_X7_runs_241, e_X7_runs_244, e_X7_runs_245, e_X7_runs_246, e_X7_runs_249, e_X7_runs_250, e_X7_runs_251, e_X7_runs_254, e_X7_runs_255, e_X7_runs_258, e_X7_runs_259, e_X7_runs_262, e_X7_runs_263, e_X7_runs_264, e_X7_runs_265, Option.toList_some, Option.toList_none, List.cons_append, List.nil_append, true_and, and_true, and_self, bb_ite, true_or, or_true, Option.some.injEq, bb_I_eq, bb_b_0e, bb_b_1e, bb_b_e0, bb_b_e1, decide_eq_true_eq, decide_eq_false_iff_not, bn_01, bn_11, bb_b_01, ne_eq, Bool.not_eq_false, Bool.not_eq_true, Classical.not_not, v3, v4, Int32.reduceToNatClampNeg, bm_r25, bm_w25, f4, h4, l1, not_false_eq_true, not_true_eq_false, false_implies, true_implies]
theorem l_X7_on {d r n : Nat} {M : bb_M} {g F : Nat → Int32} {p q : Int32} {R : bb_P} {w0 w1 z : bb_V} (h4 : F 4 = 0) : bb_Y (bb_CL d) cd_X7_runs R 210 [bb_R 7 0, bb_I (nI r), w0, w1, bb_I (nI n), z] [] (bm_R M r (g, F, p, q)) ↔ bb_Y (bb_CL d) cd_X7_runs R 69 [bb_R 7 0, bb_I (nI r), w0, w1, bb_I (nI n + (-1)), z] [] (bm_R M r (g, F, p, q)) := by
  have v4 : vp_in 4 7 := vp_in_nI (n := 4) (by omega) (by omega)
  simp (disch := omega) only [e_X7_runs_0, e_X7_runs_1, e_X7_runs_2, e_X7_runs_4, e_X7_runs_6, e_X7_runs_7, e_X7_runs_8, e_X7_runs_11, e_X7_runs_13, e_X7_runs_14, e_X7_runs_17, e_X7_runs_18, e_X7_runs_21, e_X7_runs_22, e_X7_runs_24, e_X7_runs_25, e_X7_runs_28, e_X7_runs_29, e_X7_runs_30, e_X7_runs_31, e_X7_runs_32, e_X7_runs_35, e_X7_runs_36, e_X7_runs_37, e_X7_runs_38, e_X7_runs_39, e_X7_runs_42, e_X7_runs_43, e_X7_runs_46, e_X7_runs_47, e_X7_runs_48, e_X7_runs_51, e_X7_runs_52, e_X7_runs_53, e_X7_runs_54, e_X7_runs_55, e_X7_runs_58, e_X7_runs_59, e_X7_runs_60, e_X7_runs_61, e_X7_runs_62, e_X7_runs_65, e_X7_runs_67, e_X7_runs_68, e_X7_runs_71, e_X7_runs_74, e_X7_runs_75, e_X7_runs_78, e_X7_runs_79, e_X7_runs_80, e_X7_runs_83, e_X7_runs_84, e_X7_runs_85, e_X7_runs_87, e_X7_runs_90, e_X7_runs_93, e_X7_runs_94, e_X7_runs_97, e_X7_runs_98, e_X7_runs_99, e_X7_runs_100, e_X7_runs_103, e_X7_runs_104, e_X7_runs_105, e_X7_runs_107, e_X7_runs_110, e_X7_runs_111, e_X7_runs_114, e_X7_runs_115, e_X7_runs_118, e_X7_runs_119, e_X7_runs_120, e_X7_runs_123, e_X7_runs_124, e_X7_runs_125, e_X7_runs_128, e_X7_runs_131, e_X7_runs_133, e_X7_runs_136, e_X7_runs_137, e_X7_runs_140, e_X7_runs_141, e_X7_runs_142, e_X7_runs_143, e_X7_runs_144, e_X7_runs_147, e_X7_runs_148, e_X7_runs_149, e_X7_runs_150, e_X7_runs_151, e_X7_runs_152, e_X7_runs_153, e_X7_runs_154, e_X7_runs_157, e_X7_runs_159, e_X7_runs_160, e_X7_runs_161, e_X7_runs_162, e_X7_runs_163, e_X7_runs_165, e_X7_runs_167, e_X7_runs_170, e_X7_runs_172, e_X7_runs_173, e_X7_runs_174, e_X7_runs_177, e_X7_runs_179, e_X7_runs_180, e_X7_runs_181, e_X7_runs_182, e_X7_runs_183, e_X7_runs_184, e_X7_runs_185, e_X7_runs_186, e_X7_runs_189, e_X7_runs_190, e_X7_runs_191, e_X7_runs_192, e_X7_runs_193, e_X7_runs_194, e_X7_runs_195, e_X7_runs_196, e_X7_runs_199, e_X7_runs_200, e_X7_runs_201, e_X7_runs_204, e_X7_runs_205, e_X7_runs_208, e_X7_runs_209, e_X7_runs_210, e_X7_runs_212, e_X7_runs_213, e_X7_runs_216, e_X7_runs_217, e_X7_runs_218, e_X7_runs_221, e_X7_runs_222, e_X7_runs_225, e_X7_runs_226, e_X7_runs_227, e_X7_runs_229, e_X7_runs_232, e_X7_runs_233, e_X7_runs_236, e_X7_runs_237, e_X7_runs_239, e_X7_runs_240, e_X7_runs_241, e_X7_runs_244, e_X7_runs_245, e_X7_runs_246, e_X7_runs_249, e_X7_runs_250, e_X7_runs_251, e_X7_runs_254, e_X7_runs_255, e_X7_runs_258, e_X7_runs_259, e_X7_runs_262, e_X7_runs_263, e_X7_runs_264, e_X7_runs_265, Option.toList_some, Option.toList_none, List.cons_append, List.nil_append, true_and, and_true, and_self, bb_ite, true_or, or_true, Option.some.injEq, bb_I_eq, bb_b_0e, bb_b_1e, bb_b_e0, bb_b_e1, decide_eq_true_eq, decide_eq_false_iff_not, bn_01, bn_11, bb_b_01, ne_eq, Bool.not_eq_false, Bool.not_eq_true, Classical.not_not, v4, Int32.reduceToNatClampNeg, bm_r25, h4, bn_a1, not_false_eq_true, not_true_eq_false, false_implies, true_implies]
theorem l_X7_runs {d r : Nat} {v : Int32} {sea : Bool} {M : bb_M} {R : bb_P} {w0 : bb_V} (hr : r < 4) (hv : M 21 0 80 + M 7 0 6 = v) (hb : 0 ≤ v.toInt ∧ v.toInt ≤ 1000) : ∀ (n w m : Nat) (s : bw_S), n ≤ 20 → w ≤ 20 → bf_rb s.1 → s.2.1 4 = 0 → s.2.1 5 = nI m → m + n ≤ 20 → (s.2.1 2 = -1005 ↔ m = 0) → (bb_Y (bb_CL (d + 3)) cd_X7_runs R 69 [bb_R 7 0, bb_I (nI r), w0, bb_I (nI w), bb_I (nI n + (-1)), bb_I (bb_b sea)] [] (bm_R M r s) ↔ R none (bm_R M r (bw_run v sea n w s))) := by
  intro n
  have v4 : vp_in 4 7 := vp_in_nI (n := 4) (by omega) (by omega)
  have v3 : vp_in 3 7 := vp_in_nI (n := 3) (by omega) (by omega)
  have v2 : vp_in 2 7 := vp_in_nI (n := 2) (by omega) (by omega)
  have two : ¬ (2 : Int32) = 0 := by decide
  have one : ¬ (1 : Int32) = 0 := by decide
  induction n with
  | zero =>
    intro w m s hn hw hg h4 h5 hm h2
    obtain ⟨g, F, p, q⟩ := s
    have h4' : F 4 = 0 := h4
    have l1 : nI 0 + (-1) < 0 := by decide
    have f4 : ∀ x, upd F 3 x 4 = 0 := fun x => by rw [bw_upd_c (by decide), h4']
    rw [h_X7_runs_69]
    simp (disch := omega) only [e_X7_runs_0, e_X7_runs_1, e_X7_runs_2, e_X7_runs_4, e_X7_runs_6, e_X7_runs_7, e_X7_runs_8, e_X7_runs_11, e_X7_runs_13, e_X7_runs_14, e_X7_runs_17, e_X7_runs_18, e_X7_runs_21, e_X7_runs_22, e_X7_runs_24, e_X7_runs_25, e_X7_runs_28, e_X7_runs_29, e_X7_runs_30, e_X7_runs_31, e_X7_runs_32, e_X7_runs_35, e_X7_runs_36, e_X7_runs_37, e_X7_runs_38, e_X7_runs_39, e_X7_runs_42, e_X7_runs_43, e_X7_runs_46, e_X7_runs_47, e_X7_runs_48, e_X7_runs_51, e_X7_runs_52, e_X7_runs_53, e_X7_runs_54, e_X7_runs_55, e_X7_runs_58, e_X7_runs_59, e_X7_runs_60, e_X7_runs_61, e_X7_runs_62, e_X7_runs_65, e_X7_runs_67, e_X7_runs_68, e_X7_runs_71, e_X7_runs_74, e_X7_runs_75, e_X7_runs_78, e_X7_runs_79, e_X7_runs_80, e_X7_runs_83, e_X7_runs_84, e_X7_runs_85, e_X7_runs_87, e_X7_runs_90, e_X7_runs_93, e_X7_runs_94, e_X7_runs_97, e_X7_runs_98, e_X7_runs_99, e_X7_runs_100, e_X7_runs_103, e_X7_runs_104, e_X7_runs_105, e_X7_runs_107, e_X7_runs_110, e_X7_runs_111, e_X7_runs_114, e_X7_runs_115, e_X7_runs_118, e_X7_runs_119, e_X7_runs_120, e_X7_runs_123, e_X7_runs_124, e_X7_runs_125, e_X7_runs_128, e_X7_runs_131, e_X7_runs_133, e_X7_runs_136, e_X7_runs_137, e_X7_runs_140, e_X7_runs_141, e_X7_runs_142, e_X7_runs_143, e_X7_runs_144, e_X7_runs_147, e_X7_runs_148, e_X7_runs_149, e_X7_runs_150, e_X7_runs_151, e_X7_runs_152, e_X7_runs_153, e_X7_runs_154, e_X7_runs_157, e_X7_runs_159, e_X7_runs_160, e_X7_runs_161, e_X7_runs_162, e_X7_runs_163, e_X7_runs_165, e_X7_runs_167, e_X7_runs_170, e_X7_runs_172, e_X7_runs_173, e_X7_runs_174, e_X7_runs_177, e_X7_runs_179, e_X7_runs_180, e_X7_runs_181, e_X7_runs_182, e_X7_runs_183, e_X7_runs_184, e_X7_runs_185, e_X7_runs_186, e_X7_runs_189, e_X7_runs_190, e_X7_runs_191, e_X7_runs_192, e_X7_runs_193, e_X7_runs_194, e_X7_runs_195, e_X7_runs_196, e_X7_runs_199, e_X7_runs_200, e_X7_runs_201, e_X7_runs_204, e_X7_runs_205, e_X7_runs_208, e_X7_runs_209, e_X7_runs_210, e_X7_runs_212, e_X7_runs_213, e_X7_runs_216, e_X7_runs_217, e_X7_runs_218, e_X7_runs_221, e_X7_runs_222, e_X7_runs_225, e_X7_runs_226, e_X7_runs_227, e_X7_runs_229, e_X7_runs_232, e_X7_runs_233, e_X7_runs_236, e_X7_runs_237, e_X7_runs_239, e_X7_runs_240, e_X7_runs_241, e_X7_runs_244, e_X7_runs_245, e_X7_runs_246, e_X7_runs_249, e_X7_runs_250, e_X7_runs_251, e_X7_runs_254, e_X7_runs_255, e_X7_runs_258, e_X7_runs_259, e_X7_runs_262, e_X7_runs_263, e_X7_runs_264, e_X7_runs_265, Option.toList_some, Option.toList_none, List.cons_append, List.nil_append, true_and, and_true, and_self, bb_ite, true_or, or_true, Option.some.injEq, bb_I_eq, bb_b_0e, bb_b_1e, bb_b_e0, bb_b_e1, decide_eq_true_eq, decide_eq_false_iff_not, bn_01, bn_11, bb_b_01, ne_eq, Bool.not_eq_false, Bool.not_eq_true, Classical.not_not, v3, v4, Int32.reduceToNatClampNeg, bm_r25, bm_w25, f4, l1, not_false_eq_true, not_true_eq_false, false_implies, true_implies]
    exact Iff.rfl
  | succ n ih =>
    intro w m s hn hw hg h4 h5 hm h2
    obtain ⟨g, F, p, q⟩ := s
    have h4' : F 4 = 0 := h4
    have h5' : F 5 = nI m := h5
    have h2' : F 2 = -1005 ↔ m = 0 := h2
    have hg' : bf_rb g := hg
    have l1 : ¬ nI n < 0 := by rw [bn_lt, bn_ti (by omega), show (0 : Int32).toInt = 0 from rfl]; omega
    have hvR : ∀ s : bw_S, bm_R M r s 21 0 80 + bm_R M r s 7 0 6 = v := fun s => by
      obtain ⟨g', F', p', q'⟩ := s
      rw [bm_ro (by decide) (fun _ => by omega) hr, bm_ro (by decide) (fun z => by cases z) hr, hv]
    have r0 : bm_R M r (g, F, p, q) 21 0 (20 * r + n) = g n := bm_r21 (by omega)
    have xd := fun k => x_X7_isDry1 (d := d) (r := r) (c := n) (v := v) (M := bm_R M r (g, F, p, q)) (k := k) hr (by omega) (by rw [r0]; exact hg' n (by omega)) (hvR _) hb
    have xp := fun k => x_X7_depth (d := d + 1) (r := r) (c := n) (v := v) (M := bm_R M r (g, F, p, q)) (k := k) hr (by omega) (hvR _)
    rw [r0] at xd xp
    have er : bw_run v sea (n + 1) w (g, F, p, q) = if (v - g n).toInt ≤ 0 then bw_end (g, F, p, q) (nI n) 1 else if (v - g n).toInt < (w : Int) then (if w / 2 = 0 then bw_end (bw_brk sea n w (g, F, p, q)) (nI n) 2 else bw_run v sea n (w / 2) (bw_brk sea n w (g, F, p, q))) else bw_run v sea n w (g, F, p, q) := rfl
    rw [er, h_X7_runs_69, pk_m1]
    by_cases q1 : (v - g n).toInt ≤ 0
    · rw [if_pos q1]
      have st := l_X7_stop (d := d + 3) (r := r) (n := n) (M := M) (g := g) (F := upd F 4 1) (p := p) (q := q) (R := R) (w0 := w0) (w1 := bb_I (nI w)) (z := bb_I (bb_b sea)) (by omega) (by rw [bf_upd, if_pos rfl]; exact one)
      have eF : upd (upd (upd F 4 1) 3 (nI n)) 4 (upd F 4 1 4) = upd (upd F 3 (nI n)) 4 1 := by
        funext j
        simp only [bf_upd]
        split
        · rfl
        · split
          · rfl
          · rfl
      rw [eF] at st
      have go : bb_Y (bb_CL (d + 3)) cd_X7_runs R 210 [bb_R 7 0, bb_I (nI r), w0, bb_I (nI w), bb_I (nI n), bb_I (bb_b sea)] [] (bm_R M r (g, upd F 4 1, p, q)) ↔ R none (bm_R M r (bw_end (g, F, p, q) (nI n) 1)) := st
      rw [← go]
      simp (disch := omega) only [e_X7_runs_71, e_X7_runs_74, e_X7_runs_75, e_X7_runs_78, e_X7_runs_79, e_X7_runs_80, e_X7_runs_83, e_X7_runs_84, e_X7_runs_85, e_X7_runs_87, e_X7_runs_90, e_X7_runs_93, e_X7_runs_94, e_X7_runs_97, e_X7_runs_98, e_X7_runs_99, e_X7_runs_100, Option.toList_some, Option.toList_none, List.cons_append, List.nil_append, true_and, and_true, and_self, bb_ite, true_or, or_true, Option.some.injEq, bb_I_eq, bb_b_0e, bb_b_1e, bb_b_e0, bb_b_e1, decide_eq_true_eq, decide_eq_false_iff_not, bn_01, bn_11, bb_b_01, ne_eq, Bool.not_eq_false, Bool.not_eq_true, Classical.not_not, v4, Int32.reduceToNatClampNeg, bm_r25, bm_w25, h4', l1, xd, q1, decide_true, Bool.true_eq_false, not_false_eq_true, not_true_eq_false, false_implies, true_implies]
    · rw [if_neg q1]
      by_cases q2 : (v - g n).toInt < (w : Int)
      · rw [if_pos q2]
        have q3 : ¬ nI w ≤ v - g n := by rw [bn_le, bn_ti (by omega)]; omega
        have brk := l_X7_brk (d := d + 1) (r := r) (n := n) (w := w) (sea := sea) (M := M) (g := g) (F := F) (F' := if F 5 = 0 then upd F 2 (nI n) else F) (p := p) (q := q) (R := R) (w0 := w0) hr (by omega) hw rfl
        have eF : upd F 2 (if F 2 = -1005 then nI n else F 2) = (if F 5 = 0 then upd F 2 (nI n) else F) := by
          by_cases y : m = 0
          · rw [if_pos (h2'.mpr y), if_pos (by rw [h5', y]; rfl)]
          · rw [if_neg (fun z => y (h2'.mp z)), if_neg (fun z => y (by rw [h5', bn_0, nI_eq (by omega) (by omega)] at z; exact z))]
            funext j
            rw [bf_upd]
            split
            · rename_i z; rw [z]
            · rfl
        have at143 : bb_Y (bb_CL (d + 3)) cd_X7_runs R 71 [bb_R 7 0, bb_I (nI r), w0, bb_I (nI w), bb_I (nI n), bb_I (bb_b sea)] [bb_I (nI n)] (bm_R M r (g, F, p, q)) ↔ bb_Y (bb_CL (d + 3)) cd_X7_runs R 143 [bb_R 7 0, bb_I (nI r), w0, bb_I (nI w), bb_I (nI n), bb_I (bb_b sea)] [] (bm_R M r (g, upd F 2 (if F 2 = -1005 then nI n else F 2), p, q)) := by
          by_cases y : F 2 = -1005
          · rw [if_pos y]
            simp (disch := omega) only [e_X7_runs_71, e_X7_runs_74, e_X7_runs_75, e_X7_runs_78, e_X7_runs_79, e_X7_runs_80, e_X7_runs_83, e_X7_runs_84, e_X7_runs_85, e_X7_runs_87, e_X7_runs_90, e_X7_runs_103, e_X7_runs_104, e_X7_runs_105, e_X7_runs_107, e_X7_runs_110, e_X7_runs_111, e_X7_runs_114, e_X7_runs_115, e_X7_runs_118, e_X7_runs_119, e_X7_runs_120, e_X7_runs_123, e_X7_runs_124, e_X7_runs_125, e_X7_runs_128, e_X7_runs_131, e_X7_runs_133, e_X7_runs_142, Option.toList_some, Option.toList_none, List.cons_append, List.nil_append, true_and, and_true, and_self, bb_ite, true_or, or_true, Option.some.injEq, bb_I_eq, bb_b_0e, bb_b_1e, bb_b_e0, bb_b_e1, decide_eq_true_eq, decide_eq_false_iff_not, bn_01, bn_11, bb_b_01, ne_eq, Bool.not_eq_false, Bool.not_eq_true, Classical.not_not, v4, v2, Int32.reduceToNatClampNeg, bm_r25, bm_w25, h4', l1, xd, xp, q1, q3, y, decide_false, not_false_eq_true, not_true_eq_false, false_implies, true_implies]
          · rw [if_neg y]
            simp (disch := omega) only [e_X7_runs_71, e_X7_runs_74, e_X7_runs_75, e_X7_runs_78, e_X7_runs_79, e_X7_runs_80, e_X7_runs_83, e_X7_runs_84, e_X7_runs_85, e_X7_runs_87, e_X7_runs_90, e_X7_runs_103, e_X7_runs_104, e_X7_runs_105, e_X7_runs_107, e_X7_runs_110, e_X7_runs_111, e_X7_runs_114, e_X7_runs_115, e_X7_runs_118, e_X7_runs_119, e_X7_runs_120, e_X7_runs_123, e_X7_runs_124, e_X7_runs_125, e_X7_runs_128, e_X7_runs_136, e_X7_runs_137, e_X7_runs_140, e_X7_runs_141, e_X7_runs_142, Option.toList_some, Option.toList_none, List.cons_append, List.nil_append, true_and, and_true, and_self, bb_ite, true_or, or_true, Option.some.injEq, bb_I_eq, bb_b_0e, bb_b_1e, bb_b_e0, bb_b_e1, decide_eq_true_eq, decide_eq_false_iff_not, bn_01, bn_11, bb_b_01, ne_eq, Bool.not_eq_false, Bool.not_eq_true, Classical.not_not, v4, v2, Int32.reduceToNatClampNeg, bm_r25, bm_w25, h4', l1, xd, xp, q1, q3, y, decide_false, not_false_eq_true, not_true_eq_false, false_implies, true_implies]
        rw [at143, eF, brk]
        obtain ⟨t, et⟩ := bw_brk_F (sea := sea) (n := n) (w := w) (s := (g, F, p, q))
        have et' : (bw_brk sea n w (g, F, p, q)).2.1 = bw_F F n t := et
        obtain ⟨i5, i2, i4⟩ := bw_F_inv (t := t) h5' (by omega) (by omega : n < 20) h2'
        have hgb := bw_brk_b (sea := sea) (s := (g, F, p, q)) (by omega : n < 20) hw hg'
        generalize bw_brk sea n w (g, F, p, q) = T at et' hgb
        obtain ⟨g2, F2, p2, q2'⟩ := T
        dsimp only at et' hgb
        subst et'
        dsimp only
        by_cases q5 : w / 2 = 0
        · rw [if_pos q5, if_pos q5]
          rw [l_X7_stop (d := d + 3) (by omega) (by rw [bf_upd, if_pos rfl]; exact two)]
          have eE : upd (upd (upd (bw_F F n t) 4 2) 3 (nI n)) 4 (upd (bw_F F n t) 4 2 4) = upd (upd (bw_F F n t) 3 (nI n)) 4 2 := by
            funext j
            simp only [bf_upd]
            split
            · rfl
            · split
              · rfl
              · rfl
          rw [eE]
          exact Iff.rfl
        · rw [if_neg q5, if_neg q5]
          have e0 : upd (bw_F F n t) 4 0 = bw_F F n t := by
            funext j
            rw [bf_upd]
            split
            · rename_i z; rw [z, i4, h4']
            · rfl
          rw [e0, l_X7_on (by rw [i4, h4'])]
          exact ih (w / 2) (m + 1) (g2, bw_F F n t, p2, q2') (by omega) (by omega) hgb (by rw [← h4', ← i4]) i5 (by omega) ⟨fun z => absurd z i2, fun z => absurd z (by omega)⟩
      · rw [if_neg q2]
        have q3 : nI w ≤ v - g n := by rw [bn_le, bn_ti (by omega)]; omega
        have at210 : bb_Y (bb_CL (d + 3)) cd_X7_runs R 71 [bb_R 7 0, bb_I (nI r), w0, bb_I (nI w), bb_I (nI n), bb_I (bb_b sea)] [bb_I (nI n)] (bm_R M r (g, F, p, q)) ↔ bb_Y (bb_CL (d + 3)) cd_X7_runs R 210 [bb_R 7 0, bb_I (nI r), w0, bb_I (nI w), bb_I (nI n), bb_I (bb_b sea)] [] (bm_R M r (g, F, p, q)) := by
          simp (disch := omega) only [e_X7_runs_71, e_X7_runs_74, e_X7_runs_75, e_X7_runs_78, e_X7_runs_79, e_X7_runs_80, e_X7_runs_83, e_X7_runs_84, e_X7_runs_85, e_X7_runs_87, e_X7_runs_90, e_X7_runs_103, e_X7_runs_104, e_X7_runs_105, e_X7_runs_107, e_X7_runs_110, e_X7_runs_111, Option.toList_some, Option.toList_none, List.cons_append, List.nil_append, true_and, and_true, and_self, bb_ite, true_or, or_true, Option.some.injEq, bb_I_eq, bb_b_0e, bb_b_1e, bb_b_e0, bb_b_e1, decide_eq_true_eq, decide_eq_false_iff_not, bn_01, bn_11, bb_b_01, ne_eq, Bool.not_eq_false, Bool.not_eq_true, Classical.not_not, v4, Int32.reduceToNatClampNeg, bm_r25, h4', l1, xd, xp, q1, q3, decide_false, not_false_eq_true, not_true_eq_false, false_implies, true_implies]
        rw [at210, l_X7_on h4']
        exact ih w m (g, F, p, q) (by omega) hw hg h4 h5 (by omega) h2
