/-! A BEACH IS WELL -/
def zwl_L (a : Nat → Int32) (lv gp : Int32) (r c : Nat) : Bool := decide (0 < r) && (bf_bar a lv (r - 1) c && decide (gp.toInt ≤ (a (20 * (r - 1) + c)).toInt - (a (20 * r + c)).toInt))
def zwl_R (a : Nat → Int32) (lv gp : Int32) (r c : Nat) : Bool := decide (r < 3) && (bf_bar a lv (r + 1) c && decide (gp.toInt ≤ (a (20 * (r + 1) + c)).toInt - (a (20 * r + c)).toInt))
theorem zwl_gap {a : Nat → Int32} {lv gp : Int32} {r c : Nat} : bf_gap a lv gp r c = true ↔ (1 ≤ c ∧ c ≤ 18) ∧ bf_dry a lv r c = false ∧ bf_bar a lv r c = false ∧ (zwl_L a lv gp r c = true ∨ zwl_R a lv gp r c = true) := by
  unfold bf_gap zwl_L zwl_R bf_dry
  generalize bf_bar a lv r c = x
  generalize bf_bar a lv (r - 1) c = y
  generalize bf_bar a lv (r + 1) c = z
  cases x <;> cases y <;> cases z <;> simp only [Bool.and_eq_true, Bool.or_eq_true, decide_eq_true_eq, decide_eq_false_iff_not, Bool.not_true, Bool.not_false, Bool.and_true, Bool.and_false, Bool.false_and, Bool.true_and, Bool.or_false, Bool.false_or, and_true, and_false, false_and, true_and, or_false, false_or, Bool.false_eq_true, reduceCtorEq] <;> omega
theorem zwl_bar {a : Nat → Int32} {lv : Int32} {r c : Nat} : bf_bar a lv r c = true ↔ (1 ≤ c ∧ c ≤ 18) ∧ bf_dry a lv r c = false ∧ (a (20 * r + (c - 1))).toInt < (a (20 * r + c)).toInt ∧ (a (20 * r + (c + 1))).toInt < (a (20 * r + c)).toInt := by
  unfold bf_bar bf_dry
  rw [decide_eq_true_eq, decide_eq_false_iff_not, ← Nat.add_assoc]
  by_cases q : 1 ≤ c
  · rw [show 20 * r + (c - 1) = 20 * r + c - 1 by omega]
    omega
  · constructor
    · intro z; omega
    · intro z; omega
section ZW
variable {F : Int32 → Int32} {d r c : Nat} {S1 S2 : bs_S} {R : z_P}
theorem zwl_1 {p1 p2 p3 p4 p5 p7 p8 z10 z11 z12 z13 z14 : bb_V} (hi : bs_inv S1.1) (hr : r < 4) (hc : c < 20) : z_Y (z_CL F d) zc_L_isWell R 49 [bb_R 40 0, p1, p2, p3, p4, p5, bb_I (nI r), p7, p8, bb_I (nI c), z10, z11, z12, z13, z14] [] (S1, S2) ↔ z_Y (z_CL F d) zc_L_isWell R 119 [bb_R 40 0, p1, p2, p3, p4, p5, bb_I (nI r), p7, p8, bb_I (nI c), bb_I (S1.1 (20 * r + c)), bb_I (bb_b (bf_bar S1.1 (S1.1 80) r c)), bb_I (bb_b (bf_gap S1.1 (S1.1 80) (S1.1 83) r c)), bb_I (bb_b (bf_dry S1.1 (S1.1 80) r c)), z14] [] (S1, S2) := by
  obtain ⟨e0, e1, e2, e3⟩ := zk_cell (S := S1) hr hc
  have b0 := hi.1 (20 * r + c) (by omega)
  have b1 := hi.2.1
  have es : (S1.1 80 - S1.1 (20 * r + c)).toInt = (S1.1 80).toInt - (S1.1 (20 * r + c)).toInt := bn_subT (by omega) (by omega)
  have hd : bf_dry S1.1 (S1.1 80) r c = true ↔ ¬ 0 < (S1.1 80 - S1.1 (20 * r + c)).toInt := by
    rw [es, zy_di]
    omega
  generalize bf_bar S1.1 (S1.1 80) r c = x at e2 ⊢
  generalize bf_gap S1.1 (S1.1 80) (S1.1 83) r c = y at e3 ⊢
  generalize bf_dry S1.1 (S1.1 80) r c = z at hd ⊢
  have b_1 : bb_b true = 1 := rfl
  have b_0 : bb_b false = 0 := rfl
  by_cases q : 0 < (S1.1 80 - S1.1 (20 * r + c)).toInt
  · have hz : z = false := by
      cases z
      · rfl
      · exact absurd q (hd.mp rfl)
    subst hz
    cases x <;> cases y <;> simp (disch := omega) only [ze_L_isWell_49, ze_L_isWell_50, ze_L_isWell_52, ze_L_isWell_54, ze_L_isWell_55, ze_L_isWell_58, ze_L_isWell_60, ze_L_isWell_61, ze_L_isWell_63, ze_L_isWell_65, ze_L_isWell_66, ze_L_isWell_69, ze_L_isWell_70, ze_L_isWell_73, ze_L_isWell_74, ze_L_isWell_77, ze_L_isWell_78, ze_L_isWell_80, ze_L_isWell_81, ze_L_isWell_83, ze_L_isWell_85, ze_L_isWell_86, ze_L_isWell_89, ze_L_isWell_90, ze_L_isWell_93, ze_L_isWell_94, ze_L_isWell_97, ze_L_isWell_98, ze_L_isWell_100, ze_L_isWell_101, ze_L_isWell_103, ze_L_isWell_105, ze_L_isWell_106, ze_L_isWell_109, ze_L_isWell_112, ze_L_isWell_113, ze_L_isWell_116, ze_L_isWell_117, zx_cell_o, e0, e1, e2, e3, q, b_1, b_0, Option.toList_some, Option.toList_none, List.cons_append, List.nil_append, true_and, and_true, and_self, bb_ite, true_or, or_true, Option.some.injEq, bb_I_eq, bb_b_0e, bb_b_1e, bb_b_e0, bb_b_e1, decide_eq_true_eq, decide_eq_false_iff_not, bn_01, bn_11, bb_b_01, ne_eq, Bool.not_eq_false, Bool.not_eq_true, Classical.not_not, bn_lt, bn_le, bn_ti, Int32.reduceToInt, bn_m20, bn_20m, nI_add, bn_p1, bn_s1, bn_in, bn_cl, implies_true, not_true_eq_false, not_false_eq_true, Bool.true_and, Bool.false_and, Bool.and_true, Bool.and_false, Bool.true_or, Bool.false_or, Bool.or_true, Bool.or_false, Bool.not_true, Bool.not_false, false_implies, true_implies, forall_const, Bool.false_eq_true, Bool.true_eq_false, reduceCtorEq, eq_self, Bool.and_eq_true, Bool.or_eq_true, Bool.and_eq_false_iff, Bool.or_eq_false_iff, and_false, false_and, or_false, false_or, bm_10, bm_01]
  · have hz : z = true := hd.mpr q
    subst hz
    cases x <;> cases y <;> simp (disch := omega) only [ze_L_isWell_49, ze_L_isWell_50, ze_L_isWell_52, ze_L_isWell_54, ze_L_isWell_55, ze_L_isWell_58, ze_L_isWell_60, ze_L_isWell_61, ze_L_isWell_63, ze_L_isWell_65, ze_L_isWell_66, ze_L_isWell_69, ze_L_isWell_70, ze_L_isWell_73, ze_L_isWell_74, ze_L_isWell_77, ze_L_isWell_78, ze_L_isWell_80, ze_L_isWell_81, ze_L_isWell_83, ze_L_isWell_85, ze_L_isWell_86, ze_L_isWell_89, ze_L_isWell_90, ze_L_isWell_93, ze_L_isWell_94, ze_L_isWell_97, ze_L_isWell_98, ze_L_isWell_100, ze_L_isWell_101, ze_L_isWell_103, ze_L_isWell_105, ze_L_isWell_106, ze_L_isWell_109, ze_L_isWell_112, ze_L_isWell_113, ze_L_isWell_116, ze_L_isWell_117, zx_cell_o, e0, e1, e2, e3, q, b_1, b_0, Option.toList_some, Option.toList_none, List.cons_append, List.nil_append, true_and, and_true, and_self, bb_ite, true_or, or_true, Option.some.injEq, bb_I_eq, bb_b_0e, bb_b_1e, bb_b_e0, bb_b_e1, decide_eq_true_eq, decide_eq_false_iff_not, bn_01, bn_11, bb_b_01, ne_eq, Bool.not_eq_false, Bool.not_eq_true, Classical.not_not, bn_lt, bn_le, bn_ti, Int32.reduceToInt, bn_m20, bn_20m, nI_add, bn_p1, bn_s1, bn_in, bn_cl, implies_true, not_true_eq_false, not_false_eq_true, Bool.true_and, Bool.false_and, Bool.and_true, Bool.and_false, Bool.true_or, Bool.false_or, Bool.or_true, Bool.or_false, Bool.not_true, Bool.not_false, false_implies, true_implies, forall_const, Bool.false_eq_true, Bool.true_eq_false, reduceCtorEq, eq_self, Bool.and_eq_true, Bool.or_eq_true, Bool.and_eq_false_iff, Bool.or_eq_false_iff, and_false, false_and, or_false, false_or, bm_10, bm_01]
theorem zwl_2a {p1 p2 p3 p4 p5 p7 p8 z11 z12 z13 z14 : bb_V} (hi : bs_inv S1.1) (hr : r < 4) (hc : c < 20) : z_Y (z_CL F d) zc_L_isWell R 119 [bb_R 40 0, p1, p2, p3, p4, p5, bb_I (nI r), p7, p8, bb_I (nI c), bb_I (S1.1 (20 * r + c)), z11, z12, z13, z14] [] (S1, S2) ↔ z_Y (z_CL F d) zc_L_isWell R (if zwl_L S1.1 (S1.1 80) (S1.1 83) r c then 206 else 162) [bb_R 40 0, p1, p2, p3, p4, p5, bb_I (nI r), p7, p8, bb_I (nI c), bb_I (S1.1 (20 * r + c)), z11, z12, z13, z14] [] (S1, S2) := by
  have b0 := hi.1 (20 * r + c) (by omega)
  have b1 := hi.2.2.2.2.1
  unfold zwl_L
  by_cases q : 0 < r
  · obtain ⟨e0, e1, e2, e3⟩ := zk_cell (S := S1) (r := r - 1) (c := c) (by omega) hc
    have b2 := hi.1 (20 * (r - 1) + c) (by omega)
    have es : (S1.1 (20 * (r - 1) + c) - S1.1 (20 * r + c)).toInt = (S1.1 (20 * (r - 1) + c)).toInt - (S1.1 (20 * r + c)).toInt := bn_subT (by omega) (by omega)
    have q1 : ¬ (r : Int) ≤ 0 := by omega
    rw [decide_eq_true q, Bool.true_and]
    generalize bf_bar S1.1 (S1.1 80) (r - 1) c = x at e2 ⊢
    cases x
    · simp (disch := omega) only [ze_L_isWell_119, ze_L_isWell_121, ze_L_isWell_124, ze_L_isWell_125, ze_L_isWell_127, ze_L_isWell_128, ze_L_isWell_129, ze_L_isWell_131, ze_L_isWell_132, ze_L_isWell_135, ze_L_isWell_136, ze_L_isWell_139, ze_L_isWell_140, ze_L_isWell_142, ze_L_isWell_143, ze_L_isWell_144, ze_L_isWell_146, ze_L_isWell_147, ze_L_isWell_150, ze_L_isWell_152, ze_L_isWell_153, ze_L_isWell_154, ze_L_isWell_156, ze_L_isWell_159, zx_cell_o, e0, e2, q1, Option.toList_some, Option.toList_none, List.cons_append, List.nil_append, true_and, and_true, and_self, bb_ite, true_or, or_true, Option.some.injEq, bb_I_eq, bb_b_0e, bb_b_1e, bb_b_e0, bb_b_e1, decide_eq_true_eq, decide_eq_false_iff_not, bn_01, bn_11, bb_b_01, ne_eq, Bool.not_eq_false, Bool.not_eq_true, Classical.not_not, bn_lt, bn_le, bn_ti, Int32.reduceToInt, bn_m20, bn_20m, nI_add, bn_p1, bn_s1, bn_in, bn_cl, implies_true, not_true_eq_false, not_false_eq_true, Bool.true_and, Bool.false_and, Bool.and_true, Bool.and_false, Bool.true_or, Bool.false_or, Bool.or_true, Bool.or_false, Bool.not_true, Bool.not_false, false_implies, true_implies, forall_const, Bool.false_eq_true, Bool.true_eq_false, reduceCtorEq, eq_self, Bool.and_eq_true, Bool.or_eq_true, Bool.and_eq_false_iff, Bool.or_eq_false_iff, and_false, false_and, or_false, false_or, bm_10, bm_01, if_false]
    · by_cases q2 : (S1.1 83).toInt ≤ (S1.1 (20 * (r - 1) + c)).toInt - (S1.1 (20 * r + c)).toInt
      · simp (disch := omega) only [ze_L_isWell_119, ze_L_isWell_121, ze_L_isWell_124, ze_L_isWell_125, ze_L_isWell_127, ze_L_isWell_128, ze_L_isWell_129, ze_L_isWell_131, ze_L_isWell_132, ze_L_isWell_135, ze_L_isWell_136, ze_L_isWell_139, ze_L_isWell_140, ze_L_isWell_142, ze_L_isWell_143, ze_L_isWell_144, ze_L_isWell_146, ze_L_isWell_147, ze_L_isWell_150, ze_L_isWell_152, ze_L_isWell_153, ze_L_isWell_154, ze_L_isWell_156, ze_L_isWell_159, zx_cell_o, zx_count_o, zc_13, e0, e2, q1, bn_le, es, q2, decide_true, Option.toList_some, Option.toList_none, List.cons_append, List.nil_append, true_and, and_true, and_self, bb_ite, true_or, or_true, Option.some.injEq, bb_I_eq, bb_b_0e, bb_b_1e, bb_b_e0, bb_b_e1, decide_eq_true_eq, decide_eq_false_iff_not, bn_01, bn_11, bb_b_01, ne_eq, Bool.not_eq_false, Bool.not_eq_true, Classical.not_not, bn_lt, bn_le, bn_ti, Int32.reduceToInt, bn_m20, bn_20m, nI_add, bn_p1, bn_s1, bn_in, bn_cl, implies_true, not_true_eq_false, not_false_eq_true, Bool.true_and, Bool.false_and, Bool.and_true, Bool.and_false, Bool.true_or, Bool.false_or, Bool.or_true, Bool.or_false, Bool.not_true, Bool.not_false, false_implies, true_implies, forall_const, Bool.false_eq_true, Bool.true_eq_false, reduceCtorEq, eq_self, Bool.and_eq_true, Bool.or_eq_true, Bool.and_eq_false_iff, Bool.or_eq_false_iff, and_false, false_and, or_false, false_or, bm_10, bm_01, if_true]
      · simp (disch := omega) only [ze_L_isWell_119, ze_L_isWell_121, ze_L_isWell_124, ze_L_isWell_125, ze_L_isWell_127, ze_L_isWell_128, ze_L_isWell_129, ze_L_isWell_131, ze_L_isWell_132, ze_L_isWell_135, ze_L_isWell_136, ze_L_isWell_139, ze_L_isWell_140, ze_L_isWell_142, ze_L_isWell_143, ze_L_isWell_144, ze_L_isWell_146, ze_L_isWell_147, ze_L_isWell_150, ze_L_isWell_152, ze_L_isWell_153, ze_L_isWell_154, ze_L_isWell_156, ze_L_isWell_159, zx_cell_o, zx_count_o, zc_13, e0, e2, q1, bn_le, es, q2, decide_false, Option.toList_some, Option.toList_none, List.cons_append, List.nil_append, true_and, and_true, and_self, bb_ite, true_or, or_true, Option.some.injEq, bb_I_eq, bb_b_0e, bb_b_1e, bb_b_e0, bb_b_e1, decide_eq_true_eq, decide_eq_false_iff_not, bn_01, bn_11, bb_b_01, ne_eq, Bool.not_eq_false, Bool.not_eq_true, Classical.not_not, bn_lt, bn_le, bn_ti, Int32.reduceToInt, bn_m20, bn_20m, nI_add, bn_p1, bn_s1, bn_in, bn_cl, implies_true, not_true_eq_false, not_false_eq_true, Bool.true_and, Bool.false_and, Bool.and_true, Bool.and_false, Bool.true_or, Bool.false_or, Bool.or_true, Bool.or_false, Bool.not_true, Bool.not_false, false_implies, true_implies, forall_const, Bool.false_eq_true, Bool.true_eq_false, reduceCtorEq, eq_self, Bool.and_eq_true, Bool.or_eq_true, Bool.and_eq_false_iff, Bool.or_eq_false_iff, and_false, false_and, or_false, false_or, bm_10, bm_01, if_false]
  · have q1 : (r : Int) ≤ 0 := by omega
    rw [decide_eq_false q, Bool.false_and]
    simp (disch := omega) only [ze_L_isWell_119, ze_L_isWell_121, ze_L_isWell_124, ze_L_isWell_125, ze_L_isWell_127, ze_L_isWell_128, ze_L_isWell_129, ze_L_isWell_131, ze_L_isWell_132, ze_L_isWell_135, ze_L_isWell_136, ze_L_isWell_139, ze_L_isWell_140, ze_L_isWell_142, ze_L_isWell_143, ze_L_isWell_144, ze_L_isWell_146, ze_L_isWell_147, ze_L_isWell_150, ze_L_isWell_152, ze_L_isWell_153, ze_L_isWell_154, ze_L_isWell_156, ze_L_isWell_159, q1, Option.toList_some, Option.toList_none, List.cons_append, List.nil_append, true_and, and_true, and_self, bb_ite, true_or, or_true, Option.some.injEq, bb_I_eq, bb_b_0e, bb_b_1e, bb_b_e0, bb_b_e1, decide_eq_true_eq, decide_eq_false_iff_not, bn_01, bn_11, bb_b_01, ne_eq, Bool.not_eq_false, Bool.not_eq_true, Classical.not_not, bn_lt, bn_le, bn_ti, Int32.reduceToInt, bn_m20, bn_20m, nI_add, bn_p1, bn_s1, bn_in, bn_cl, implies_true, not_true_eq_false, not_false_eq_true, Bool.true_and, Bool.false_and, Bool.and_true, Bool.and_false, Bool.true_or, Bool.false_or, Bool.or_true, Bool.or_false, Bool.not_true, Bool.not_false, false_implies, true_implies, forall_const, Bool.false_eq_true, Bool.true_eq_false, reduceCtorEq, eq_self, Bool.and_eq_true, Bool.or_eq_true, Bool.and_eq_false_iff, Bool.or_eq_false_iff, and_false, false_and, or_false, false_or, bm_10, bm_01, if_false]
theorem zwl_2b {p1 p2 p3 p4 p5 p7 p8 z11 z12 z13 z14 : bb_V} (hi : bs_inv S1.1) (hr : r < 4) (hc : c < 20) : z_Y (z_CL F d) zc_L_isWell R 162 [bb_R 40 0, p1, p2, p3, p4, p5, bb_I (nI r), p7, p8, bb_I (nI c), bb_I (S1.1 (20 * r + c)), z11, z12, z13, z14] [] (S1, S2) ↔ z_Y (z_CL F d) zc_L_isWell R (if zwl_R S1.1 (S1.1 80) (S1.1 83) r c then 206 else 210) [bb_R 40 0, p1, p2, p3, p4, p5, bb_I (nI r), p7, p8, bb_I (nI c), bb_I (S1.1 (20 * r + c)), z11, z12, z13, z14] [] (S1, S2) := by
  have b0 := hi.1 (20 * r + c) (by omega)
  have b1 := hi.2.2.2.2.1
  unfold zwl_R
  by_cases q : r < 3
  · obtain ⟨e0, e1, e2, e3⟩ := zk_cell (S := S1) (r := r + 1) (c := c) (by omega) hc
    have b2 := hi.1 (20 * (r + 1) + c) (by omega)
    have es : (S1.1 (20 * (r + 1) + c) - S1.1 (20 * r + c)).toInt = (S1.1 (20 * (r + 1) + c)).toInt - (S1.1 (20 * r + c)).toInt := bn_subT (by omega) (by omega)
    have q1 : ¬ 3 ≤ (r : Int) := by omega
    rw [decide_eq_true q, Bool.true_and]
    generalize bf_bar S1.1 (S1.1 80) (r + 1) c = x at e2 ⊢
    cases x
    · simp (disch := omega) only [ze_L_isWell_162, ze_L_isWell_164, ze_L_isWell_165, ze_L_isWell_168, ze_L_isWell_169, ze_L_isWell_171, ze_L_isWell_172, ze_L_isWell_173, ze_L_isWell_175, ze_L_isWell_176, ze_L_isWell_179, ze_L_isWell_180, ze_L_isWell_183, ze_L_isWell_184, ze_L_isWell_186, ze_L_isWell_187, ze_L_isWell_188, ze_L_isWell_190, ze_L_isWell_191, ze_L_isWell_194, ze_L_isWell_196, ze_L_isWell_197, ze_L_isWell_198, ze_L_isWell_200, ze_L_isWell_203, zx_cell_o, e0, e2, q1, Option.toList_some, Option.toList_none, List.cons_append, List.nil_append, true_and, and_true, and_self, bb_ite, true_or, or_true, Option.some.injEq, bb_I_eq, bb_b_0e, bb_b_1e, bb_b_e0, bb_b_e1, decide_eq_true_eq, decide_eq_false_iff_not, bn_01, bn_11, bb_b_01, ne_eq, Bool.not_eq_false, Bool.not_eq_true, Classical.not_not, bn_lt, bn_le, bn_ti, Int32.reduceToInt, bn_m20, bn_20m, nI_add, bn_p1, bn_s1, bn_in, bn_cl, implies_true, not_true_eq_false, not_false_eq_true, Bool.true_and, Bool.false_and, Bool.and_true, Bool.and_false, Bool.true_or, Bool.false_or, Bool.or_true, Bool.or_false, Bool.not_true, Bool.not_false, false_implies, true_implies, forall_const, Bool.false_eq_true, Bool.true_eq_false, reduceCtorEq, eq_self, Bool.and_eq_true, Bool.or_eq_true, Bool.and_eq_false_iff, Bool.or_eq_false_iff, and_false, false_and, or_false, false_or, bm_10, bm_01, if_false]
    · by_cases q2 : (S1.1 83).toInt ≤ (S1.1 (20 * (r + 1) + c)).toInt - (S1.1 (20 * r + c)).toInt
      · have q3 : ¬ (S1.1 (20 * (r + 1) + c)).toInt - (S1.1 (20 * r + c)).toInt < (S1.1 83).toInt := by omega
        simp (disch := omega) only [ze_L_isWell_162, ze_L_isWell_164, ze_L_isWell_165, ze_L_isWell_168, ze_L_isWell_169, ze_L_isWell_171, ze_L_isWell_172, ze_L_isWell_173, ze_L_isWell_175, ze_L_isWell_176, ze_L_isWell_179, ze_L_isWell_180, ze_L_isWell_183, ze_L_isWell_184, ze_L_isWell_186, ze_L_isWell_187, ze_L_isWell_188, ze_L_isWell_190, ze_L_isWell_191, ze_L_isWell_194, ze_L_isWell_196, ze_L_isWell_197, ze_L_isWell_198, ze_L_isWell_200, ze_L_isWell_203, zx_cell_o, zx_count_o, zc_13, e0, e2, q1, bn_lt, es, q2, q3, decide_true, Option.toList_some, Option.toList_none, List.cons_append, List.nil_append, true_and, and_true, and_self, bb_ite, true_or, or_true, Option.some.injEq, bb_I_eq, bb_b_0e, bb_b_1e, bb_b_e0, bb_b_e1, decide_eq_true_eq, decide_eq_false_iff_not, bn_01, bn_11, bb_b_01, ne_eq, Bool.not_eq_false, Bool.not_eq_true, Classical.not_not, bn_lt, bn_le, bn_ti, Int32.reduceToInt, bn_m20, bn_20m, nI_add, bn_p1, bn_s1, bn_in, bn_cl, implies_true, not_true_eq_false, not_false_eq_true, Bool.true_and, Bool.false_and, Bool.and_true, Bool.and_false, Bool.true_or, Bool.false_or, Bool.or_true, Bool.or_false, Bool.not_true, Bool.not_false, false_implies, true_implies, forall_const, Bool.false_eq_true, Bool.true_eq_false, reduceCtorEq, eq_self, Bool.and_eq_true, Bool.or_eq_true, Bool.and_eq_false_iff, Bool.or_eq_false_iff, and_false, false_and, or_false, false_or, bm_10, bm_01, if_true]
      · have q3 : (S1.1 (20 * (r + 1) + c)).toInt - (S1.1 (20 * r + c)).toInt < (S1.1 83).toInt := by omega
        simp (disch := omega) only [ze_L_isWell_162, ze_L_isWell_164, ze_L_isWell_165, ze_L_isWell_168, ze_L_isWell_169, ze_L_isWell_171, ze_L_isWell_172, ze_L_isWell_173, ze_L_isWell_175, ze_L_isWell_176, ze_L_isWell_179, ze_L_isWell_180, ze_L_isWell_183, ze_L_isWell_184, ze_L_isWell_186, ze_L_isWell_187, ze_L_isWell_188, ze_L_isWell_190, ze_L_isWell_191, ze_L_isWell_194, ze_L_isWell_196, ze_L_isWell_197, ze_L_isWell_198, ze_L_isWell_200, ze_L_isWell_203, zx_cell_o, zx_count_o, zc_13, e0, e2, q1, bn_lt, es, q2, q3, decide_false, Option.toList_some, Option.toList_none, List.cons_append, List.nil_append, true_and, and_true, and_self, bb_ite, true_or, or_true, Option.some.injEq, bb_I_eq, bb_b_0e, bb_b_1e, bb_b_e0, bb_b_e1, decide_eq_true_eq, decide_eq_false_iff_not, bn_01, bn_11, bb_b_01, ne_eq, Bool.not_eq_false, Bool.not_eq_true, Classical.not_not, bn_lt, bn_le, bn_ti, Int32.reduceToInt, bn_m20, bn_20m, nI_add, bn_p1, bn_s1, bn_in, bn_cl, implies_true, not_true_eq_false, not_false_eq_true, Bool.true_and, Bool.false_and, Bool.and_true, Bool.and_false, Bool.true_or, Bool.false_or, Bool.or_true, Bool.or_false, Bool.not_true, Bool.not_false, false_implies, true_implies, forall_const, Bool.false_eq_true, Bool.true_eq_false, reduceCtorEq, eq_self, Bool.and_eq_true, Bool.or_eq_true, Bool.and_eq_false_iff, Bool.or_eq_false_iff, and_false, false_and, or_false, false_or, bm_10, bm_01, if_false]
  · have q1 : 3 ≤ (r : Int) := by omega
    rw [decide_eq_false q, Bool.false_and]
    simp (disch := omega) only [ze_L_isWell_162, ze_L_isWell_164, ze_L_isWell_165, ze_L_isWell_168, ze_L_isWell_169, ze_L_isWell_171, ze_L_isWell_172, ze_L_isWell_173, ze_L_isWell_175, ze_L_isWell_176, ze_L_isWell_179, ze_L_isWell_180, ze_L_isWell_183, ze_L_isWell_184, ze_L_isWell_186, ze_L_isWell_187, ze_L_isWell_188, ze_L_isWell_190, ze_L_isWell_191, ze_L_isWell_194, ze_L_isWell_196, ze_L_isWell_197, ze_L_isWell_198, ze_L_isWell_200, ze_L_isWell_203, q1, Option.toList_some, Option.toList_none, List.cons_append, List.nil_append, true_and, and_true, and_self, bb_ite, true_or, or_true, Option.some.injEq, bb_I_eq, bb_b_0e, bb_b_1e, bb_b_e0, bb_b_e1, decide_eq_true_eq, decide_eq_false_iff_not, bn_01, bn_11, bb_b_01, ne_eq, Bool.not_eq_false, Bool.not_eq_true, Classical.not_not, bn_lt, bn_le, bn_ti, Int32.reduceToInt, bn_m20, bn_20m, nI_add, bn_p1, bn_s1, bn_in, bn_cl, implies_true, not_true_eq_false, not_false_eq_true, Bool.true_and, Bool.false_and, Bool.and_true, Bool.and_false, Bool.true_or, Bool.false_or, Bool.or_true, Bool.or_false, Bool.not_true, Bool.not_false, false_implies, true_implies, forall_const, Bool.false_eq_true, Bool.true_eq_false, reduceCtorEq, eq_self, Bool.and_eq_true, Bool.or_eq_true, Bool.and_eq_false_iff, Bool.or_eq_false_iff, and_false, false_and, or_false, false_or, bm_10, bm_01, if_false]
theorem zwl_2 {p1 p2 p3 p4 p5 p7 p8 z11 z12 z13 z14 : bb_V} (hi : bs_inv S1.1) (hr : r < 4) (hc : c < 20) : z_Y (z_CL F d) zc_L_isWell R 119 [bb_R 40 0, p1, p2, p3, p4, p5, bb_I (nI r), p7, p8, bb_I (nI c), bb_I (S1.1 (20 * r + c)), z11, z12, z13, z14] [] (S1, S2) ↔ z_Y (z_CL F d) zc_L_isWell R 213 [bb_R 40 0, p1, p2, p3, p4, p5, bb_I (nI r), p7, p8, bb_I (nI c), bb_I (S1.1 (20 * r + c)), z11, z12, z13, bb_I (bb_b (zwl_L S1.1 (S1.1 80) (S1.1 83) r c || zwl_R S1.1 (S1.1 80) (S1.1 83) r c))] [] (S1, S2) := by
  have b_1 : bb_b true = 1 := rfl
  have b_0 : bb_b false = 0 := rfl
  have e2 := zwl_2b (F := F) (d := d) (S2 := S2) (R := R) (p1 := p1) (p2 := p2) (p3 := p3) (p4 := p4) (p5 := p5) (p7 := p7) (p8 := p8) (z11 := z11) (z12 := z12) (z13 := z13) (z14 := z14) hi hr hc
  rw [zwl_2a hi hr hc]
  cases q1 : zwl_L S1.1 (S1.1 80) (S1.1 83) r c
  · rw [if_neg (by decide), e2]
    cases q2 : zwl_R S1.1 (S1.1 80) (S1.1 83) r c
    · rw [if_neg (by decide)]
      simp only [ze_L_isWell_206, ze_L_isWell_207, ze_L_isWell_210, ze_L_isWell_211, Bool.or_self, b_0]
    · rw [if_pos rfl]
      simp only [ze_L_isWell_206, ze_L_isWell_207, ze_L_isWell_210, ze_L_isWell_211, Bool.or_true, b_1]
  · rw [if_pos rfl]
    simp only [ze_L_isWell_206, ze_L_isWell_207, ze_L_isWell_210, ze_L_isWell_211, Bool.true_or, b_1]
theorem zwl_cnb {B n : Nat} {p : Nat → Bool} : nI (B + bf_cn p n) + bb_b (p n) = nI (B + bf_cn p (n + 1)) := by
  rw [bf_cn_s]
  cases p n
  · exact Int32.add_zero _
  · show nI (B + bf_cn p n) + 1 = nI (B + (bf_cn p n + 1))
    rw [bn_p1]
    rfl
theorem zwl_3 {B G D : Nat} {p1 p5 z14 : bb_V} {s h l : Int32} {x y z : Bool} : z_Y (z_CL F d) zc_L_isWell R 213 [bb_R 40 0, p1, bb_I (nI B), bb_I (nI G), bb_I (nI D), p5, bb_I (nI r), bb_I s, bb_I l, bb_I (nI c), bb_I h, bb_I (bb_b x), bb_I (bb_b y), bb_I (bb_b z), z14] [] (S1, S2) ↔ z_Y (z_CL F d) zc_L_isWell R 275 [bb_R 40 0, p1, bb_I (nI B + bb_b x), bb_I (nI G + bb_b y), bb_I (nI D + bb_b z), p5, bb_I (nI r), bb_I (s + h), bb_I (if z = true then nI c else l), bb_I (nI c), bb_I h, bb_I (bb_b x), bb_I (bb_b y), bb_I (bb_b z), z14] [] (S1, S2) := by
  have b_1 : bb_b true = 1 := rfl
  have b_0 : bb_b false = 0 := rfl
  cases x <;> cases y <;> cases z <;> simp only [ze_L_isWell_213, ze_L_isWell_215, ze_L_isWell_217, ze_L_isWell_218, ze_L_isWell_220, ze_L_isWell_221, ze_L_isWell_223, ze_L_isWell_226, ze_L_isWell_227, ze_L_isWell_230, ze_L_isWell_231, ze_L_isWell_232, ze_L_isWell_233, ze_L_isWell_234, ze_L_isWell_236, ze_L_isWell_239, ze_L_isWell_240, ze_L_isWell_243, ze_L_isWell_244, ze_L_isWell_245, ze_L_isWell_246, ze_L_isWell_248, ze_L_isWell_250, ze_L_isWell_253, ze_L_isWell_254, ze_L_isWell_257, ze_L_isWell_258, ze_L_isWell_259, ze_L_isWell_261, ze_L_isWell_263, ze_L_isWell_266, ze_L_isWell_268, ze_L_isWell_271, ze_L_isWell_273, b_1, b_0, Option.toList_some, Option.toList_none, List.cons_append, List.nil_append, true_and, and_true, and_self, bb_ite, true_or, or_true, Option.some.injEq, bb_I_eq, bb_b_0e, bb_b_1e, bb_b_e0, bb_b_e1, decide_eq_true_eq, decide_eq_false_iff_not, bn_01, bn_11, bb_b_01, ne_eq, Bool.not_eq_false, Bool.not_eq_true, Classical.not_not, bn_lt, bn_le, bn_ti, Int32.reduceToInt, bn_m20, bn_20m, nI_add, bn_p1, bn_s1, bn_in, bn_cl, implies_true, not_true_eq_false, not_false_eq_true, Bool.true_and, Bool.false_and, Bool.and_true, Bool.and_false, Bool.true_or, Bool.false_or, Bool.or_true, Bool.or_false, Bool.not_true, Bool.not_false, false_implies, true_implies, forall_const, Bool.false_eq_true, Bool.true_eq_false, reduceCtorEq, eq_self, Bool.and_eq_true, Bool.or_eq_true, Bool.and_eq_false_iff, Bool.or_eq_false_iff, and_false, false_and, or_false, false_or, bm_10, bm_01, if_true, if_false]
theorem zwl_4a {p1 p2 p3 p4 p5 p7 p8 z11 z12 z14 : bb_V} {v : Int32} (hi : bs_inv S1.1) (hr : r < 4) (hc : c < 20) : z_Y (z_CL F d) zc_L_isWell R 310 [bb_R 40 0, p1, p2, p3, p4, p5, bb_I (nI r), p7, p8, bb_I (nI c), bb_I (S1.1 (20 * r + c)), z11, z12, bb_I (bb_b (bf_dry S1.1 (S1.1 80) r c)), z14] [bb_I v] (S1, S2) ↔ z_Y (z_CL F d) zc_L_isWell R 364 [bb_R 40 0, p1, p2, p3, p4, p5, bb_I (nI r), p7, p8, bb_I (nI c), bb_I (S1.1 (20 * r + c)), z11, z12, bb_I (bb_b (bf_dry S1.1 (S1.1 80) r c)), z14] [bb_I (bb_b (bf_bar S1.1 (S1.1 80) r c)), bb_I v] (S1, S2) := by
  have b_1 : bb_b true = 1 := rfl
  have b_0 : bb_b false = 0 := rfl
  have hB := zwl_bar (a := S1.1) (lv := S1.1 80) (r := r) (c := c)
  generalize bf_dry S1.1 (S1.1 80) r c = z at hB ⊢
  generalize bf_bar S1.1 (S1.1 80) r c = x at hB ⊢
  by_cases q1 : 1 ≤ c ∧ c ≤ 18
  · have l1 : ¬ (c : Int) ≤ 0 := by omega
    have l2 : ¬ 19 ≤ (c : Int) := by omega
    have e0 := (zk_cell (S := S1) (r := r) (c := c - 1) hr (by omega)).1
    have e1 := (zk_cell (S := S1) (r := r) (c := c + 1) hr (by omega)).1
    cases z
    · by_cases q2 : (S1.1 (20 * r + (c - 1))).toInt < (S1.1 (20 * r + c)).toInt
      · have g2 : ¬ (S1.1 (20 * r + c)).toInt ≤ (S1.1 (20 * r + (c - 1))).toInt := by omega
        by_cases q3 : (S1.1 (20 * r + (c + 1))).toInt < (S1.1 (20 * r + c)).toInt
        · have g3 : ¬ (S1.1 (20 * r + c)).toInt ≤ (S1.1 (20 * r + (c + 1))).toInt := by omega
          have hx : x = true := hB.mpr ⟨q1, rfl, q2, q3⟩
          subst hx
          simp (disch := omega) only [ze_L_isWell_310, ze_L_isWell_312, ze_L_isWell_315, ze_L_isWell_317, ze_L_isWell_319, ze_L_isWell_322, ze_L_isWell_324, ze_L_isWell_327, ze_L_isWell_329, ze_L_isWell_330, ze_L_isWell_332, ze_L_isWell_334, ze_L_isWell_335, ze_L_isWell_336, ze_L_isWell_337, ze_L_isWell_340, ze_L_isWell_343, ze_L_isWell_345, ze_L_isWell_346, ze_L_isWell_348, ze_L_isWell_350, ze_L_isWell_351, ze_L_isWell_352, ze_L_isWell_353, ze_L_isWell_356, ze_L_isWell_359, ze_L_isWell_360, ze_L_isWell_363, zx_cell_o, l1, l2, e0, e1, g2, g3, b_1, b_0, Option.toList_some, Option.toList_none, List.cons_append, List.nil_append, true_and, and_true, and_self, bb_ite, true_or, or_true, Option.some.injEq, bb_I_eq, bb_b_0e, bb_b_1e, bb_b_e0, bb_b_e1, decide_eq_true_eq, decide_eq_false_iff_not, bn_01, bn_11, bb_b_01, ne_eq, Bool.not_eq_false, Bool.not_eq_true, Classical.not_not, bn_lt, bn_le, bn_ti, Int32.reduceToInt, bn_m20, bn_20m, nI_add, bn_p1, bn_s1, bn_in, bn_cl, implies_true, not_true_eq_false, not_false_eq_true, Bool.true_and, Bool.false_and, Bool.and_true, Bool.and_false, Bool.true_or, Bool.false_or, Bool.or_true, Bool.or_false, Bool.not_true, Bool.not_false, false_implies, true_implies, forall_const, Bool.false_eq_true, Bool.true_eq_false, reduceCtorEq, eq_self, Bool.and_eq_true, Bool.or_eq_true, Bool.and_eq_false_iff, Bool.or_eq_false_iff, and_false, false_and, or_false, false_or, bm_10, bm_01]
        · have g3 : (S1.1 (20 * r + c)).toInt ≤ (S1.1 (20 * r + (c + 1))).toInt := by omega
          have hx : x = false := Bool.eq_false_iff.mpr (fun y => q3 (hB.mp y).2.2.2)
          subst hx
          simp (disch := omega) only [ze_L_isWell_310, ze_L_isWell_312, ze_L_isWell_315, ze_L_isWell_317, ze_L_isWell_319, ze_L_isWell_322, ze_L_isWell_324, ze_L_isWell_327, ze_L_isWell_329, ze_L_isWell_330, ze_L_isWell_332, ze_L_isWell_334, ze_L_isWell_335, ze_L_isWell_336, ze_L_isWell_337, ze_L_isWell_340, ze_L_isWell_343, ze_L_isWell_345, ze_L_isWell_346, ze_L_isWell_348, ze_L_isWell_350, ze_L_isWell_351, ze_L_isWell_352, ze_L_isWell_353, ze_L_isWell_356, ze_L_isWell_359, ze_L_isWell_360, ze_L_isWell_363, zx_cell_o, l1, l2, e0, e1, g2, g3, b_1, b_0, Option.toList_some, Option.toList_none, List.cons_append, List.nil_append, true_and, and_true, and_self, bb_ite, true_or, or_true, Option.some.injEq, bb_I_eq, bb_b_0e, bb_b_1e, bb_b_e0, bb_b_e1, decide_eq_true_eq, decide_eq_false_iff_not, bn_01, bn_11, bb_b_01, ne_eq, Bool.not_eq_false, Bool.not_eq_true, Classical.not_not, bn_lt, bn_le, bn_ti, Int32.reduceToInt, bn_m20, bn_20m, nI_add, bn_p1, bn_s1, bn_in, bn_cl, implies_true, not_true_eq_false, not_false_eq_true, Bool.true_and, Bool.false_and, Bool.and_true, Bool.and_false, Bool.true_or, Bool.false_or, Bool.or_true, Bool.or_false, Bool.not_true, Bool.not_false, false_implies, true_implies, forall_const, Bool.false_eq_true, Bool.true_eq_false, reduceCtorEq, eq_self, Bool.and_eq_true, Bool.or_eq_true, Bool.and_eq_false_iff, Bool.or_eq_false_iff, and_false, false_and, or_false, false_or, bm_10, bm_01]
      · have g2 : (S1.1 (20 * r + c)).toInt ≤ (S1.1 (20 * r + (c - 1))).toInt := by omega
        have hx : x = false := Bool.eq_false_iff.mpr (fun y => q2 (hB.mp y).2.2.1)
        subst hx
        simp (disch := omega) only [ze_L_isWell_310, ze_L_isWell_312, ze_L_isWell_315, ze_L_isWell_317, ze_L_isWell_319, ze_L_isWell_322, ze_L_isWell_324, ze_L_isWell_327, ze_L_isWell_329, ze_L_isWell_330, ze_L_isWell_332, ze_L_isWell_334, ze_L_isWell_335, ze_L_isWell_336, ze_L_isWell_337, ze_L_isWell_340, ze_L_isWell_343, ze_L_isWell_345, ze_L_isWell_346, ze_L_isWell_348, ze_L_isWell_350, ze_L_isWell_351, ze_L_isWell_352, ze_L_isWell_353, ze_L_isWell_356, ze_L_isWell_359, ze_L_isWell_360, ze_L_isWell_363, zx_cell_o, l1, l2, e0, e1, g2, b_1, b_0, Option.toList_some, Option.toList_none, List.cons_append, List.nil_append, true_and, and_true, and_self, bb_ite, true_or, or_true, Option.some.injEq, bb_I_eq, bb_b_0e, bb_b_1e, bb_b_e0, bb_b_e1, decide_eq_true_eq, decide_eq_false_iff_not, bn_01, bn_11, bb_b_01, ne_eq, Bool.not_eq_false, Bool.not_eq_true, Classical.not_not, bn_lt, bn_le, bn_ti, Int32.reduceToInt, bn_m20, bn_20m, nI_add, bn_p1, bn_s1, bn_in, bn_cl, implies_true, not_true_eq_false, not_false_eq_true, Bool.true_and, Bool.false_and, Bool.and_true, Bool.and_false, Bool.true_or, Bool.false_or, Bool.or_true, Bool.or_false, Bool.not_true, Bool.not_false, false_implies, true_implies, forall_const, Bool.false_eq_true, Bool.true_eq_false, reduceCtorEq, eq_self, Bool.and_eq_true, Bool.or_eq_true, Bool.and_eq_false_iff, Bool.or_eq_false_iff, and_false, false_and, or_false, false_or, bm_10, bm_01]
    · have hx : x = false := Bool.eq_false_iff.mpr (fun y => Bool.noConfusion (hB.mp y).2.1)
      subst hx
      simp (disch := omega) only [ze_L_isWell_310, ze_L_isWell_312, ze_L_isWell_315, ze_L_isWell_317, ze_L_isWell_319, ze_L_isWell_322, ze_L_isWell_324, ze_L_isWell_327, ze_L_isWell_329, ze_L_isWell_330, ze_L_isWell_332, ze_L_isWell_334, ze_L_isWell_335, ze_L_isWell_336, ze_L_isWell_337, ze_L_isWell_340, ze_L_isWell_343, ze_L_isWell_345, ze_L_isWell_346, ze_L_isWell_348, ze_L_isWell_350, ze_L_isWell_351, ze_L_isWell_352, ze_L_isWell_353, ze_L_isWell_356, ze_L_isWell_359, ze_L_isWell_360, ze_L_isWell_363, l1, l2, b_1, b_0, Option.toList_some, Option.toList_none, List.cons_append, List.nil_append, true_and, and_true, and_self, bb_ite, true_or, or_true, Option.some.injEq, bb_I_eq, bb_b_0e, bb_b_1e, bb_b_e0, bb_b_e1, decide_eq_true_eq, decide_eq_false_iff_not, bn_01, bn_11, bb_b_01, ne_eq, Bool.not_eq_false, Bool.not_eq_true, Classical.not_not, bn_lt, bn_le, bn_ti, Int32.reduceToInt, bn_m20, bn_20m, nI_add, bn_p1, bn_s1, bn_in, bn_cl, implies_true, not_true_eq_false, not_false_eq_true, Bool.true_and, Bool.false_and, Bool.and_true, Bool.and_false, Bool.true_or, Bool.false_or, Bool.or_true, Bool.or_false, Bool.not_true, Bool.not_false, false_implies, true_implies, forall_const, Bool.false_eq_true, Bool.true_eq_false, reduceCtorEq, eq_self, Bool.and_eq_true, Bool.or_eq_true, Bool.and_eq_false_iff, Bool.or_eq_false_iff, and_false, false_and, or_false, false_or, bm_10, bm_01]
  · have hx : x = false := Bool.eq_false_iff.mpr (fun y => q1 (hB.mp y).1)
    subst hx
    by_cases q2 : (c : Int) ≤ 0
    · simp (disch := omega) only [ze_L_isWell_310, ze_L_isWell_312, ze_L_isWell_315, ze_L_isWell_317, ze_L_isWell_319, ze_L_isWell_322, ze_L_isWell_324, ze_L_isWell_327, ze_L_isWell_329, ze_L_isWell_330, ze_L_isWell_332, ze_L_isWell_334, ze_L_isWell_335, ze_L_isWell_336, ze_L_isWell_337, ze_L_isWell_340, ze_L_isWell_343, ze_L_isWell_345, ze_L_isWell_346, ze_L_isWell_348, ze_L_isWell_350, ze_L_isWell_351, ze_L_isWell_352, ze_L_isWell_353, ze_L_isWell_356, ze_L_isWell_359, ze_L_isWell_360, ze_L_isWell_363, q2, b_1, b_0, Option.toList_some, Option.toList_none, List.cons_append, List.nil_append, true_and, and_true, and_self, bb_ite, true_or, or_true, Option.some.injEq, bb_I_eq, bb_b_0e, bb_b_1e, bb_b_e0, bb_b_e1, decide_eq_true_eq, decide_eq_false_iff_not, bn_01, bn_11, bb_b_01, ne_eq, Bool.not_eq_false, Bool.not_eq_true, Classical.not_not, bn_lt, bn_le, bn_ti, Int32.reduceToInt, bn_m20, bn_20m, nI_add, bn_p1, bn_s1, bn_in, bn_cl, implies_true, not_true_eq_false, not_false_eq_true, Bool.true_and, Bool.false_and, Bool.and_true, Bool.and_false, Bool.true_or, Bool.false_or, Bool.or_true, Bool.or_false, Bool.not_true, Bool.not_false, false_implies, true_implies, forall_const, Bool.false_eq_true, Bool.true_eq_false, reduceCtorEq, eq_self, Bool.and_eq_true, Bool.or_eq_true, Bool.and_eq_false_iff, Bool.or_eq_false_iff, and_false, false_and, or_false, false_or, bm_10, bm_01]
    · have l2 : 19 ≤ (c : Int) := by omega
      simp (disch := omega) only [ze_L_isWell_310, ze_L_isWell_312, ze_L_isWell_315, ze_L_isWell_317, ze_L_isWell_319, ze_L_isWell_322, ze_L_isWell_324, ze_L_isWell_327, ze_L_isWell_329, ze_L_isWell_330, ze_L_isWell_332, ze_L_isWell_334, ze_L_isWell_335, ze_L_isWell_336, ze_L_isWell_337, ze_L_isWell_340, ze_L_isWell_343, ze_L_isWell_345, ze_L_isWell_346, ze_L_isWell_348, ze_L_isWell_350, ze_L_isWell_351, ze_L_isWell_352, ze_L_isWell_353, ze_L_isWell_356, ze_L_isWell_359, ze_L_isWell_360, ze_L_isWell_363, q2, l2, b_1, b_0, Option.toList_some, Option.toList_none, List.cons_append, List.nil_append, true_and, and_true, and_self, bb_ite, true_or, or_true, Option.some.injEq, bb_I_eq, bb_b_0e, bb_b_1e, bb_b_e0, bb_b_e1, decide_eq_true_eq, decide_eq_false_iff_not, bn_01, bn_11, bb_b_01, ne_eq, Bool.not_eq_false, Bool.not_eq_true, Classical.not_not, bn_lt, bn_le, bn_ti, Int32.reduceToInt, bn_m20, bn_20m, nI_add, bn_p1, bn_s1, bn_in, bn_cl, implies_true, not_true_eq_false, not_false_eq_true, Bool.true_and, Bool.false_and, Bool.and_true, Bool.and_false, Bool.true_or, Bool.false_or, Bool.or_true, Bool.or_false, Bool.not_true, Bool.not_false, false_implies, true_implies, forall_const, Bool.false_eq_true, Bool.true_eq_false, reduceCtorEq, eq_self, Bool.and_eq_true, Bool.or_eq_true, Bool.and_eq_false_iff, Bool.or_eq_false_iff, and_false, false_and, or_false, false_or, bm_10, bm_01]
theorem zwl_4b {p1 p2 p3 p4 p5 p7 p8 z10 z12 : bb_V} {v : Int32} (hr : r < 4) (hc : c < 20) : z_Y (z_CL F d) zc_L_isWell R 369 [bb_R 40 0, p1, p2, p3, p4, p5, bb_I (nI r), p7, p8, bb_I (nI c), z10, bb_I (bb_b (bf_bar S1.1 (S1.1 80) r c)), z12, bb_I (bb_b (bf_dry S1.1 (S1.1 80) r c)), bb_I (bb_b (zwl_L S1.1 (S1.1 80) (S1.1 83) r c || zwl_R S1.1 (S1.1 80) (S1.1 83) r c))] [bb_I v] (S1, S2) ↔ z_Y (z_CL F d) zc_L_isWell R 401 [bb_R 40 0, p1, p2, p3, p4, p5, bb_I (nI r), p7, p8, bb_I (nI c), z10, bb_I (bb_b (bf_bar S1.1 (S1.1 80) r c)), z12, bb_I (bb_b (bf_dry S1.1 (S1.1 80) r c)), bb_I (bb_b (zwl_L S1.1 (S1.1 80) (S1.1 83) r c || zwl_R S1.1 (S1.1 80) (S1.1 83) r c))] [bb_I (bb_b (bf_gap S1.1 (S1.1 80) (S1.1 83) r c)), bb_I v] (S1, S2) := by
  have b_1 : bb_b true = 1 := rfl
  have b_0 : bb_b false = 0 := rfl
  have hB := zwl_gap (a := S1.1) (lv := S1.1 80) (gp := S1.1 83) (r := r) (c := c)
  rw [← Bool.or_eq_true] at hB
  generalize bf_dry S1.1 (S1.1 80) r c = z at hB ⊢
  generalize bf_bar S1.1 (S1.1 80) r c = x at hB ⊢
  generalize bf_gap S1.1 (S1.1 80) (S1.1 83) r c = y at hB ⊢
  generalize (zwl_L S1.1 (S1.1 80) (S1.1 83) r c || zwl_R S1.1 (S1.1 80) (S1.1 83) r c) = w at hB ⊢
  by_cases q1 : 1 ≤ c ∧ c ≤ 18
  · have l1 : ¬ (c : Int) ≤ 0 := by omega
    have l2 : ¬ 19 ≤ (c : Int) := by omega
    have hy : y = (!z && (!x && w)) := by
      rw [Bool.eq_iff_iff, hB]
      cases z <;> cases x <;> cases w <;> simp [q1]
    subst hy
    cases z <;> cases x <;> cases w <;> simp (disch := omega) only [ze_L_isWell_369, ze_L_isWell_371, ze_L_isWell_374, ze_L_isWell_376, ze_L_isWell_378, ze_L_isWell_381, ze_L_isWell_383, ze_L_isWell_386, ze_L_isWell_388, ze_L_isWell_391, ze_L_isWell_393, ze_L_isWell_396, ze_L_isWell_397, ze_L_isWell_400, l1, l2, b_1, b_0, Option.toList_some, Option.toList_none, List.cons_append, List.nil_append, true_and, and_true, and_self, bb_ite, true_or, or_true, Option.some.injEq, bb_I_eq, bb_b_0e, bb_b_1e, bb_b_e0, bb_b_e1, decide_eq_true_eq, decide_eq_false_iff_not, bn_01, bn_11, bb_b_01, ne_eq, Bool.not_eq_false, Bool.not_eq_true, Classical.not_not, bn_lt, bn_le, bn_ti, Int32.reduceToInt, bn_m20, bn_20m, nI_add, bn_p1, bn_s1, bn_in, bn_cl, implies_true, not_true_eq_false, not_false_eq_true, Bool.true_and, Bool.false_and, Bool.and_true, Bool.and_false, Bool.true_or, Bool.false_or, Bool.or_true, Bool.or_false, Bool.not_true, Bool.not_false, false_implies, true_implies, forall_const, Bool.false_eq_true, Bool.true_eq_false, reduceCtorEq, eq_self, Bool.and_eq_true, Bool.or_eq_true, Bool.and_eq_false_iff, Bool.or_eq_false_iff, and_false, false_and, or_false, false_or, bm_10, bm_01]
  · have hy : y = false := Bool.eq_false_iff.mpr (fun t => q1 (hB.mp t).1)
    subst hy
    by_cases q2 : (c : Int) ≤ 0
    · simp (disch := omega) only [ze_L_isWell_369, ze_L_isWell_371, ze_L_isWell_374, ze_L_isWell_376, ze_L_isWell_378, ze_L_isWell_381, ze_L_isWell_383, ze_L_isWell_386, ze_L_isWell_388, ze_L_isWell_391, ze_L_isWell_393, ze_L_isWell_396, ze_L_isWell_397, ze_L_isWell_400, q2, b_1, b_0, Option.toList_some, Option.toList_none, List.cons_append, List.nil_append, true_and, and_true, and_self, bb_ite, true_or, or_true, Option.some.injEq, bb_I_eq, bb_b_0e, bb_b_1e, bb_b_e0, bb_b_e1, decide_eq_true_eq, decide_eq_false_iff_not, bn_01, bn_11, bb_b_01, ne_eq, Bool.not_eq_false, Bool.not_eq_true, Classical.not_not, bn_lt, bn_le, bn_ti, Int32.reduceToInt, bn_m20, bn_20m, nI_add, bn_p1, bn_s1, bn_in, bn_cl, implies_true, not_true_eq_false, not_false_eq_true, Bool.true_and, Bool.false_and, Bool.and_true, Bool.and_false, Bool.true_or, Bool.false_or, Bool.or_true, Bool.or_false, Bool.not_true, Bool.not_false, false_implies, true_implies, forall_const, Bool.false_eq_true, Bool.true_eq_false, reduceCtorEq, eq_self, Bool.and_eq_true, Bool.or_eq_true, Bool.and_eq_false_iff, Bool.or_eq_false_iff, and_false, false_and, or_false, false_or, bm_10, bm_01]
    · have l2 : 19 ≤ (c : Int) := by omega
      simp (disch := omega) only [ze_L_isWell_369, ze_L_isWell_371, ze_L_isWell_374, ze_L_isWell_376, ze_L_isWell_378, ze_L_isWell_381, ze_L_isWell_383, ze_L_isWell_386, ze_L_isWell_388, ze_L_isWell_391, ze_L_isWell_393, ze_L_isWell_396, ze_L_isWell_397, ze_L_isWell_400, q2, l2, b_1, b_0, Option.toList_some, Option.toList_none, List.cons_append, List.nil_append, true_and, and_true, and_self, bb_ite, true_or, or_true, Option.some.injEq, bb_I_eq, bb_b_0e, bb_b_1e, bb_b_e0, bb_b_e1, decide_eq_true_eq, decide_eq_false_iff_not, bn_01, bn_11, bb_b_01, ne_eq, Bool.not_eq_false, Bool.not_eq_true, Classical.not_not, bn_lt, bn_le, bn_ti, Int32.reduceToInt, bn_m20, bn_20m, nI_add, bn_p1, bn_s1, bn_in, bn_cl, implies_true, not_true_eq_false, not_false_eq_true, Bool.true_and, Bool.false_and, Bool.and_true, Bool.and_false, Bool.true_or, Bool.false_or, Bool.or_true, Bool.or_false, Bool.not_true, Bool.not_false, false_implies, true_implies, forall_const, Bool.false_eq_true, Bool.true_eq_false, reduceCtorEq, eq_self, Bool.and_eq_true, Bool.or_eq_true, Bool.and_eq_false_iff, Bool.or_eq_false_iff, and_false, false_and, or_false, false_or, bm_10, bm_01]
theorem zwl_4 {p1 p2 p3 p4 p7 p8 : bb_V} (hi : bs_inv S1.1) (hr : r < 4) (hc : c < 20) : z_Y (z_CL F d) zc_L_isWell R 275 [bb_R 40 0, p1, p2, p3, p4, bb_I 1, bb_I (nI r), p7, p8, bb_I (nI c), bb_I (S1.1 (20 * r + c)), bb_I (bb_b (bf_bar S1.1 (S1.1 80) r c)), bb_I (bb_b (bf_gap S1.1 (S1.1 80) (S1.1 83) r c)), bb_I (bb_b (bf_dry S1.1 (S1.1 80) r c)), bb_I (bb_b (zwl_L S1.1 (S1.1 80) (S1.1 83) r c || zwl_R S1.1 (S1.1 80) (S1.1 83) r c))] [] (S1, S2) ↔ z_Y (z_CL F d) zc_L_isWell R 37 [bb_R 40 0, p1, p2, p3, p4, bb_I 1, bb_I (nI r), p7, p8, bb_I (nI (c + 1)), bb_I (S1.1 (20 * r + c)), bb_I (bb_b (bf_bar S1.1 (S1.1 80) r c)), bb_I (bb_b (bf_gap S1.1 (S1.1 80) (S1.1 83) r c)), bb_I (bb_b (bf_dry S1.1 (S1.1 80) r c)), bb_I (bb_b (zwl_L S1.1 (S1.1 80) (S1.1 83) r c || zwl_R S1.1 (S1.1 80) (S1.1 83) r c))] [] (S1, S2) := by
  have b0 := hi.1 (20 * r + c) (by omega)
  obtain ⟨e0, e1, e2, e3⟩ := zk_cell (S := S1) hr hc
  have er := (zk_row (S := S1) hr).2.2.2.2.2.1
  have l1 : ¬ (S1.1 (20 * r + c)).toInt < 0 := by omega
  have l2 : ¬ 100 ≤ (S1.1 (20 * r + c)).toInt := by omega
  have x4a := fun p5 z12 z14 v => zwl_4a (F := F) (d := d) (S2 := S2) (R := R) (p1 := p1) (p2 := p2) (p3 := p3) (p4 := p4) (p5 := p5) (p7 := p7) (p8 := p8) (z11 := bb_I (bb_b (bf_bar S1.1 (S1.1 80) r c))) (z12 := z12) (z14 := z14) (v := v) hi hr hc
  have x4b := fun p5 z10 z12 v => zwl_4b (F := F) (d := d) (S1 := S1) (S2 := S2) (R := R) (p1 := p1) (p2 := p2) (p3 := p3) (p4 := p4) (p5 := p5) (p7 := p7) (p8 := p8) (z10 := z10) (z12 := z12) (v := v) hr hc
  have ebit : bf_bits (bf_bar S1.1 (S1.1 80) r) 19 >>> (nI c &&& 31) &&& 1 = bb_b (bf_bar S1.1 (S1.1 80) r c) := by
    by_cases q : c < 19
    · exact bf_bits_at (by decide) q
    · obtain rfl : c = 19 := by omega
      rw [← bf_bits_s (p := bf_bar S1.1 (S1.1 80) r) bf_bar_19]
      exact bf_bits_at (by decide) (by decide)
  simp (disch := omega) only [ze_L_isWell_275, ze_L_isWell_277, ze_L_isWell_280, ze_L_isWell_282, ze_L_isWell_284, ze_L_isWell_287, ze_L_isWell_288, ze_L_isWell_290, ze_L_isWell_292, ze_L_isWell_293, ze_L_isWell_296, ze_L_isWell_297, ze_L_isWell_299, ze_L_isWell_302, ze_L_isWell_304, ze_L_isWell_305, ze_L_isWell_308, zx_cell_o, zx_count_o, zc_10, e1, l1, l2, x4a, Option.toList_some, Option.toList_none, List.cons_append, List.nil_append, true_and, and_true, and_self, bb_ite, true_or, or_true, Option.some.injEq, bb_I_eq, bb_b_0e, bb_b_1e, bb_b_e0, bb_b_e1, decide_eq_true_eq, decide_eq_false_iff_not, bn_01, bn_11, bb_b_01, ne_eq, Bool.not_eq_false, Bool.not_eq_true, Classical.not_not, bn_lt, bn_le, bn_ti, Int32.reduceToInt, bn_m20, bn_20m, nI_add, bn_p1, bn_s1, bn_in, bn_cl, implies_true, not_true_eq_false, not_false_eq_true, Bool.true_and, Bool.false_and, Bool.and_true, Bool.and_false, Bool.true_or, Bool.false_or, Bool.or_true, Bool.or_false, Bool.not_true, Bool.not_false, false_implies, true_implies, forall_const, Bool.false_eq_true, Bool.true_eq_false, reduceCtorEq, eq_self, Bool.and_eq_true, Bool.or_eq_true, Bool.and_eq_false_iff, Bool.or_eq_false_iff, and_false, false_and, or_false, false_or, bm_10, bm_01]
  simp (disch := omega) only [ze_L_isWell_364, ze_L_isWell_367, x4b, Option.toList_some, Option.toList_none, List.cons_append, List.nil_append, true_and, and_true, and_self, bb_ite, true_or, or_true, Option.some.injEq, bb_I_eq, bb_b_0e, bb_b_1e, bb_b_e0, bb_b_e1, decide_eq_true_eq, decide_eq_false_iff_not, bn_01, bn_11, bb_b_01, ne_eq, Bool.not_eq_false, Bool.not_eq_true, Classical.not_not, bn_lt, bn_le, bn_ti, Int32.reduceToInt, bn_m20, bn_20m, nI_add, bn_p1, bn_s1, bn_in, bn_cl, implies_true, not_true_eq_false, not_false_eq_true, Bool.true_and, Bool.false_and, Bool.and_true, Bool.and_false, Bool.true_or, Bool.false_or, Bool.or_true, Bool.or_false, Bool.not_true, Bool.not_false, false_implies, true_implies, forall_const, Bool.false_eq_true, Bool.true_eq_false, reduceCtorEq, eq_self, Bool.and_eq_true, Bool.or_eq_true, Bool.and_eq_false_iff, Bool.or_eq_false_iff, and_false, false_and, or_false, false_or, bm_10, bm_01]
  simp (disch := omega) only [ze_L_isWell_401, ze_L_isWell_404, ze_L_isWell_405, ze_L_isWell_407, ze_L_isWell_408, ze_L_isWell_411, ze_L_isWell_413, ze_L_isWell_414, ze_L_isWell_415, zx_row_o, er, ebit, Option.toList_some, Option.toList_none, List.cons_append, List.nil_append, true_and, and_true, and_self, bb_ite, true_or, or_true, Option.some.injEq, bb_I_eq, bb_b_0e, bb_b_1e, bb_b_e0, bb_b_e1, decide_eq_true_eq, decide_eq_false_iff_not, bn_01, bn_11, bb_b_01, ne_eq, Bool.not_eq_false, Bool.not_eq_true, Classical.not_not, bn_lt, bn_le, bn_ti, Int32.reduceToInt, bn_m20, bn_20m, nI_add, bn_p1, bn_s1, bn_in, bn_cl, implies_true, not_true_eq_false, not_false_eq_true, Bool.true_and, Bool.false_and, Bool.and_true, Bool.and_false, Bool.true_or, Bool.false_or, Bool.or_true, Bool.or_false, Bool.not_true, Bool.not_false, false_implies, true_implies, forall_const, Bool.false_eq_true, Bool.true_eq_false, reduceCtorEq, eq_self, Bool.and_eq_true, Bool.or_eq_true, Bool.and_eq_false_iff, Bool.or_eq_false_iff, and_false, false_and, or_false, false_or, bm_10, bm_01]
  cases bf_bar S1.1 (S1.1 80) r c
  · have b_0 : bb_b false = 0 := rfl
    simp (disch := omega) only [ze_L_isWell_416, ze_L_isWell_418, ze_L_isWell_421, ze_L_isWell_422, ze_L_isWell_425, ze_L_isWell_426, ze_L_isWell_429, ze_L_isWell_430, ze_L_isWell_433, ze_L_isWell_434, ze_L_isWell_436, ze_L_isWell_439, b_0, Option.toList_some, Option.toList_none, List.cons_append, List.nil_append, true_and, and_true, and_self, bb_ite, true_or, or_true, Option.some.injEq, bb_I_eq, bb_b_0e, bb_b_1e, bb_b_e0, bb_b_e1, decide_eq_true_eq, decide_eq_false_iff_not, bn_01, bn_11, bb_b_01, ne_eq, Bool.not_eq_false, Bool.not_eq_true, Classical.not_not, bn_lt, bn_le, bn_ti, Int32.reduceToInt, bn_m20, bn_20m, nI_add, bn_p1, bn_s1, bn_in, bn_cl, implies_true, not_true_eq_false, not_false_eq_true, Bool.true_and, Bool.false_and, Bool.and_true, Bool.and_false, Bool.true_or, Bool.false_or, Bool.or_true, Bool.or_false, Bool.not_true, Bool.not_false, false_implies, true_implies, forall_const, Bool.false_eq_true, Bool.true_eq_false, reduceCtorEq, eq_self, Bool.and_eq_true, Bool.or_eq_true, Bool.and_eq_false_iff, Bool.or_eq_false_iff, and_false, false_and, or_false, false_or, bm_10, bm_01]
  · have b_1 : bb_b true = 1 := rfl
    simp (disch := omega) only [ze_L_isWell_416, ze_L_isWell_418, ze_L_isWell_421, ze_L_isWell_422, ze_L_isWell_425, ze_L_isWell_426, ze_L_isWell_429, ze_L_isWell_430, ze_L_isWell_433, ze_L_isWell_434, ze_L_isWell_436, ze_L_isWell_439, b_1, Option.toList_some, Option.toList_none, List.cons_append, List.nil_append, true_and, and_true, and_self, bb_ite, true_or, or_true, Option.some.injEq, bb_I_eq, bb_b_0e, bb_b_1e, bb_b_e0, bb_b_e1, decide_eq_true_eq, decide_eq_false_iff_not, bn_01, bn_11, bb_b_01, ne_eq, Bool.not_eq_false, Bool.not_eq_true, Classical.not_not, bn_lt, bn_le, bn_ti, Int32.reduceToInt, bn_m20, bn_20m, nI_add, bn_p1, bn_s1, bn_in, bn_cl, implies_true, not_true_eq_false, not_false_eq_true, Bool.true_and, Bool.false_and, Bool.and_true, Bool.and_false, Bool.true_or, Bool.false_or, Bool.or_true, Bool.or_false, Bool.not_true, Bool.not_false, false_implies, true_implies, forall_const, Bool.false_eq_true, Bool.true_eq_false, reduceCtorEq, eq_self, Bool.and_eq_true, Bool.or_eq_true, Bool.and_eq_false_iff, Bool.or_eq_false_iff, and_false, false_and, or_false, false_or, bm_10, bm_01]
end ZW
/-! its loops -/
theorem zwl_in {F : Int32 → Int32} {d r B G D : Nat} {S1 S2 : bs_S} {R : z_P} {p1 : bb_V} (hi : bs_inv S1.1) (hr : r < 4) : ∀ (t c : Nat) (z10 z11 z12 z13 z14 : bb_V), c + t = 20 → ∃ z10' z11' z12' z13' z14', (z_Y (z_CL F d) zc_L_isWell R 37 [bb_R 40 0, p1, bb_I (nI (B + bf_cn (bf_bar S1.1 (S1.1 80) r) c)), bb_I (nI (G + bf_cn (bf_gap S1.1 (S1.1 80) (S1.1 83) r) c)), bb_I (nI (D + bf_cn (bf_dry S1.1 (S1.1 80) r) c)), bb_I 1, bb_I (nI r), bb_I (bf_sm S1.1 (20 * r) c), bb_I (bf_ld (bf_dry S1.1 (S1.1 80) r) c), bb_I (nI c), z10, z11, z12, z13, z14] [] (S1, S2) ↔ z_Y (z_CL F d) zc_L_isWell R 442 [bb_R 40 0, p1, bb_I (nI (B + bf_cn (bf_bar S1.1 (S1.1 80) r) 20)), bb_I (nI (G + bf_cn (bf_gap S1.1 (S1.1 80) (S1.1 83) r) 20)), bb_I (nI (D + bf_cn (bf_dry S1.1 (S1.1 80) r) 20)), bb_I 1, bb_I (nI r), bb_I (bf_sm S1.1 (20 * r) 20), bb_I (bf_ld (bf_dry S1.1 (S1.1 80) r) 20), bb_I (nI 20), z10', z11', z12', z13', z14'] [] (S1, S2)) := by
  intro t
  induction t with
  | zero =>
    intro c z10 z11 z12 z13 z14 hn
    obtain rfl : c = 20 := by omega
    refine ⟨z10, z11, z12, z13, z14, ?_⟩
    have h1 : (20 : Int) ≤ ((20 : Nat) : Int) := by decide
    rw [zh_L_isWell_37]
    simp (disch := omega) only [ze_L_isWell_39, ze_L_isWell_41, ze_L_isWell_44, ze_L_isWell_46, h1, Option.toList_some, Option.toList_none, List.cons_append, List.nil_append, true_and, and_true, and_self, bb_ite, true_or, or_true, Option.some.injEq, bb_I_eq, bb_b_0e, bb_b_1e, bb_b_e0, bb_b_e1, decide_eq_true_eq, decide_eq_false_iff_not, bn_01, bn_11, bb_b_01, ne_eq, Bool.not_eq_false, Bool.not_eq_true, Classical.not_not, bn_lt, bn_le, bn_ti, Int32.reduceToInt, bn_m20, bn_20m, nI_add, bn_p1, bn_s1, bn_in, bn_cl, implies_true, not_true_eq_false, not_false_eq_true, Bool.true_and, Bool.false_and, Bool.and_true, Bool.and_false, Bool.true_or, Bool.false_or, Bool.or_true, Bool.or_false, Bool.not_true, Bool.not_false, false_implies, true_implies, forall_const, Bool.false_eq_true, Bool.true_eq_false, reduceCtorEq, eq_self, Bool.and_eq_true, Bool.or_eq_true, Bool.and_eq_false_iff, Bool.or_eq_false_iff, and_false, false_and, or_false, false_or, bm_10, bm_01]
  | succ t ih =>
    intro c z10 z11 z12 z13 z14 hn
    have h1 : ¬ (20 : Int) ≤ (c : Int) := by omega
    obtain ⟨y10, y11, y12, y13, y14, e⟩ := ih (c + 1) (bb_I (S1.1 (20 * r + c))) (bb_I (bb_b (bf_bar S1.1 (S1.1 80) r c))) (bb_I (bb_b (bf_gap S1.1 (S1.1 80) (S1.1 83) r c))) (bb_I (bb_b (bf_dry S1.1 (S1.1 80) r c))) (bb_I (bb_b (zwl_L S1.1 (S1.1 80) (S1.1 83) r c || zwl_R S1.1 (S1.1 80) (S1.1 83) r c))) (by omega)
    refine ⟨y10, y11, y12, y13, y14, ?_⟩
    rw [← e, zh_L_isWell_37]
    simp (disch := omega) only [ze_L_isWell_39, ze_L_isWell_41, ze_L_isWell_44, ze_L_isWell_46, h1, Option.toList_some, Option.toList_none, List.cons_append, List.nil_append, true_and, and_true, and_self, bb_ite, true_or, or_true, Option.some.injEq, bb_I_eq, bb_b_0e, bb_b_1e, bb_b_e0, bb_b_e1, decide_eq_true_eq, decide_eq_false_iff_not, bn_01, bn_11, bb_b_01, ne_eq, Bool.not_eq_false, Bool.not_eq_true, Classical.not_not, bn_lt, bn_le, bn_ti, Int32.reduceToInt, bn_m20, bn_20m, nI_add, bn_p1, bn_s1, bn_in, bn_cl, implies_true, not_true_eq_false, not_false_eq_true, Bool.true_and, Bool.false_and, Bool.and_true, Bool.and_false, Bool.true_or, Bool.false_or, Bool.or_true, Bool.or_false, Bool.not_true, Bool.not_false, false_implies, true_implies, forall_const, Bool.false_eq_true, Bool.true_eq_false, reduceCtorEq, eq_self, Bool.and_eq_true, Bool.or_eq_true, Bool.and_eq_false_iff, Bool.or_eq_false_iff, and_false, false_and, or_false, false_or, bm_10, bm_01]
    rw [zwl_1 hi hr (by omega), zwl_2 hi hr (by omega), zwl_3, zwl_cnb, zwl_cnb, zwl_cnb, zwl_4 hi hr (by omega)]
    exact Iff.rfl
theorem zwl_hi (h : Nat → Int32) (p : Nat → Bool) (r : Nat) : ∀ n, bf_hi h p r n = none ↔ bf_cn p n = 0
  | 0 => ⟨fun _ => rfl, fun _ => rfl⟩
  | n + 1 => by
    have ih := zwl_hi h p r n
    rw [bf_cn_s]
    show (match bf_hi h p r n with | none => if p n then some n else none | some b => if p n && decide ((h (20 * r + b)).toInt < (h (20 * r + n)).toInt) then some n else some b) = none ↔ _
    cases q : bf_hi h p r n with
    | none =>
      have := ih.mp q
      rw [this]
      cases p n <;> simp
    | some b =>
      have : bf_cn p n ≠ 0 := fun z => by
        rw [ih.mpr z] at q
        cases q
      constructor
      · intro z
        dsimp only at z
        split at z <;> cases z
      · intro z
        exact absurd z (by split <;> omega)
theorem zwl_hx (h : Nat → Int32) (p : Nat → Bool) (r : Nat) : ∀ n b, bf_hi h p r n = some b → b < n
  | 0, b, q => by cases q
  | n + 1, b, q => by
    have ih := zwl_hx h p r n
    have q : (match bf_hi h p r n with | none => if p n then some n else none | some b => if p n && decide ((h (20 * r + b)).toInt < (h (20 * r + n)).toInt) then some n else some b) = some b := q
    cases q2 : bf_hi h p r n with
    | none =>
      rw [q2] at q
      dsimp only at q
      split at q
      · cases q; omega
      · cases q
    | some b' =>
      have := ih b' q2
      rw [q2] at q
      dsimp only at q
      split at q
      · cases q; omega
      · cases q; omega
theorem zwl_bc {a : Nat → Int32} {lv : Int32} {r : Nat} : bf_cn (bf_bar a lv r) 20 = bf_cn (bf_bar a lv r) 19 := by
  have e := bf_cn_s (bf_bar a lv r) 19
  rw [bf_bar_19, if_neg (by decide)] at e
  exact e
theorem zwl_gc {a : Nat → Int32} {lv gp : Int32} {r : Nat} : bf_cn (bf_gap a lv gp r) 20 = bf_cn (bf_gap a lv gp r) 19 := by
  have e := bf_cn_s (bf_gap a lv gp r) 19
  rw [bf_gap_19, if_neg (by decide)] at e
  exact e
theorem zwl_out {F : Int32 → Int32} {d : Nat} {S1 S2 : bs_S} {R : z_P} (hi : bs_inv S1.1) : ∀ (t r : Nat) (z7 z8 z9 z10 z11 z12 z13 z14 : bb_V), r + t = 4 → ∃ z7' z8' z9' z10' z11' z12' z13' z14', (z_Y (z_CL F d) zc_L_isWell R 15 [bb_R 40 0, bb_I (bf_sr S1.1 0 20 r), bb_I (nI (bf_cr (bf_bar S1.1 (S1.1 80)) 20 r)), bb_I (nI (bf_cr (bf_gap S1.1 (S1.1 80) (S1.1 83)) 20 r)), bb_I (nI (bf_cr (bf_dry S1.1 (S1.1 80)) 20 r)), bb_I 1, bb_I (nI r), z7, z8, z9, z10, z11, z12, z13, z14] [] (S1, S2) ↔ z_Y (z_CL F d) zc_L_isWell R 526 [bb_R 40 0, bb_I (bf_sr S1.1 0 20 4), bb_I (nI (bf_cr (bf_bar S1.1 (S1.1 80)) 20 4)), bb_I (nI (bf_cr (bf_gap S1.1 (S1.1 80) (S1.1 83)) 20 4)), bb_I (nI (bf_cr (bf_dry S1.1 (S1.1 80)) 20 4)), bb_I 1, bb_I (nI 4), z7', z8', z9', z10', z11', z12', z13', z14'] [] (S1, S2)) := by
  intro t
  induction t with
  | zero =>
    intro r z7 z8 z9 z10 z11 z12 z13 z14 hn
    obtain rfl : r = 4 := by omega
    refine ⟨z7, z8, z9, z10, z11, z12, z13, z14, ?_⟩
    have h1 : (4 : Int) ≤ ((4 : Nat) : Int) := by decide
    rw [zh_L_isWell_15]
    simp (disch := omega) only [ze_L_isWell_17, ze_L_isWell_18, ze_L_isWell_21, ze_L_isWell_23, ze_L_isWell_26, ze_L_isWell_27, ze_L_isWell_29, ze_L_isWell_32, ze_L_isWell_34, ze_L_isWell_35, h1, Option.toList_some, Option.toList_none, List.cons_append, List.nil_append, true_and, and_true, and_self, bb_ite, true_or, or_true, Option.some.injEq, bb_I_eq, bb_b_0e, bb_b_1e, bb_b_e0, bb_b_e1, decide_eq_true_eq, decide_eq_false_iff_not, bn_01, bn_11, bb_b_01, ne_eq, Bool.not_eq_false, Bool.not_eq_true, Classical.not_not, bn_lt, bn_le, bn_ti, Int32.reduceToInt, bn_m20, bn_20m, nI_add, bn_p1, bn_s1, bn_in, bn_cl, implies_true, not_true_eq_false, not_false_eq_true, Bool.true_and, Bool.false_and, Bool.and_true, Bool.and_false, Bool.true_or, Bool.false_or, Bool.or_true, Bool.or_false, Bool.not_true, Bool.not_false, false_implies, true_implies, forall_const, Bool.false_eq_true, Bool.true_eq_false, reduceCtorEq, eq_self, Bool.and_eq_true, Bool.or_eq_true, Bool.and_eq_false_iff, Bool.or_eq_false_iff, and_false, false_and, or_false, false_or, bm_10, bm_01]
  | succ t ih =>
    intro r z7 z8 z9 z10 z11 z12 z13 z14 hn
    have hr : r < 4 := by omega
    have h1 : ¬ (4 : Int) ≤ (r : Int) := by omega
    obtain ⟨y10, y11, y12, y13, y14, e⟩ := zwl_in (F := F) (d := d) (S2 := S2) (R := R) (p1 := bb_I (bf_sr S1.1 0 20 r)) (B := bf_cr (bf_bar S1.1 (S1.1 80)) 20 r) (G := bf_cr (bf_gap S1.1 (S1.1 80) (S1.1 83)) 20 r) (D := bf_cr (bf_dry S1.1 (S1.1 80)) 20 r) hi hr 20 0 z10 z11 z12 z13 z14 (Nat.zero_add _)
    obtain ⟨x7, x8, x9, x10, x11, x12, x13, x14, e2⟩ := ih (r + 1) (bb_I (bf_sm S1.1 (20 * r) 20)) (bb_I (bf_ld (bf_dry S1.1 (S1.1 80) r) 20)) (bb_I (nI 20)) y10 y11 y12 y13 y14 (by omega)
    refine ⟨x7, x8, x9, x10, x11, x12, x13, x14, ?_⟩
    obtain ⟨k0, k1, k2, k3, k4, k5, k6⟩ := zk_row (S := S1) hr
    have e3 : bf_sr S1.1 0 20 r + bf_sm S1.1 (20 * r) 20 = bf_sr S1.1 0 20 (r + 1) := rfl
    rw [← e2, zh_L_isWell_15]
    have e' : z_Y (z_CL F d) zc_L_isWell R 37 [bb_R 40 0, bb_I (bf_sr S1.1 0 20 r), bb_I (nI (bf_cr (bf_bar S1.1 (S1.1 80)) 20 r)), bb_I (nI (bf_cr (bf_gap S1.1 (S1.1 80) (S1.1 83)) 20 r)), bb_I (nI (bf_cr (bf_dry S1.1 (S1.1 80)) 20 r)), bb_I 1, bb_I (nI r), bb_I 0, bb_I (-1005), bb_I 0, z10, z11, z12, z13, z14] [] (S1, S2) ↔ _ := e
    simp (disch := omega) only [ze_L_isWell_17, ze_L_isWell_18, ze_L_isWell_21, ze_L_isWell_23, ze_L_isWell_26, ze_L_isWell_27, ze_L_isWell_29, ze_L_isWell_32, ze_L_isWell_34, ze_L_isWell_35, h1, e', Option.toList_some, Option.toList_none, List.cons_append, List.nil_append, true_and, and_true, and_self, bb_ite, true_or, or_true, Option.some.injEq, bb_I_eq, bb_b_0e, bb_b_1e, bb_b_e0, bb_b_e1, decide_eq_true_eq, decide_eq_false_iff_not, bn_01, bn_11, bb_b_01, ne_eq, Bool.not_eq_false, Bool.not_eq_true, Classical.not_not, bn_lt, bn_le, bn_ti, Int32.reduceToInt, bn_m20, bn_20m, nI_add, bn_p1, bn_s1, bn_in, bn_cl, implies_true, not_true_eq_false, not_false_eq_true, Bool.true_and, Bool.false_and, Bool.and_true, Bool.and_false, Bool.true_or, Bool.false_or, Bool.or_true, Bool.or_false, Bool.not_true, Bool.not_false, false_implies, true_implies, forall_const, Bool.false_eq_true, Bool.true_eq_false, reduceCtorEq, eq_self, Bool.and_eq_true, Bool.or_eq_true, Bool.and_eq_false_iff, Bool.or_eq_false_iff, and_false, false_and, or_false, false_or, bm_10, bm_01]
    have e4 : z_Y (z_CL F d) zc_L_isWell R 442 [bb_R 40 0, bb_I (bf_sr S1.1 0 20 r), bb_I (nI (bf_cr (bf_bar S1.1 (S1.1 80)) 20 r + bf_cn (bf_bar S1.1 (S1.1 80) r) 20)), bb_I (nI (bf_cr (bf_gap S1.1 (S1.1 80) (S1.1 83)) 20 r + bf_cn (bf_gap S1.1 (S1.1 80) (S1.1 83) r) 20)), bb_I (nI (bf_cr (bf_dry S1.1 (S1.1 80)) 20 r + bf_cn (bf_dry S1.1 (S1.1 80) r) 20)), bb_I 1, bb_I (nI r), bb_I (bf_sm S1.1 (20 * r) 20), bb_I (bf_ld (bf_dry S1.1 (S1.1 80) r) 20), bb_I (nI 20), y10, y11, y12, y13, y14] [] (S1, S2) ↔ z_Y (z_CL F d) zc_L_isWell R 15 [bb_R 40 0, bb_I (bf_sr S1.1 0 20 (r + 1)), bb_I (nI (bf_cr (bf_bar S1.1 (S1.1 80)) 20 r + bf_cn (bf_bar S1.1 (S1.1 80) r) 20)), bb_I (nI (bf_cr (bf_gap S1.1 (S1.1 80) (S1.1 83)) 20 r + bf_cn (bf_gap S1.1 (S1.1 80) (S1.1 83) r) 20)), bb_I (nI (bf_cr (bf_dry S1.1 (S1.1 80)) 20 r + bf_cn (bf_dry S1.1 (S1.1 80) r) 20)), bb_I 1, bb_I (nI (r + 1)), bb_I (bf_sm S1.1 (20 * r) 20), bb_I (bf_ld (bf_dry S1.1 (S1.1 80) r) 20), bb_I (nI 20), y10, y11, y12, y13, y14] [] (S1, S2) := by
      have hh := zwl_hi S1.1 (bf_bar S1.1 (S1.1 80) r) r 19
      have hx := zwl_hx S1.1 (bf_bar S1.1 (S1.1 80) r) r 19
      have hcl := bf_cn_le (bf_bar S1.1 (S1.1 80) r) 19
      rw [← e3]
      generalize bf_cn (bf_bar S1.1 (S1.1 80) r) 19 = n at k1 hh hcl
      generalize bf_hi S1.1 (bf_bar S1.1 (S1.1 80) r) r 19 = o at k6 hh hx
      cases o with
      | none =>
        have hn0 : n = 0 := hh.mp rfl
        have c1 : nI n = 0 := by rw [hn0]; rfl
        have c2 : bf_hn none = -1005 := rfl
        rw [c2] at k6
        simp (disch := omega) only [ze_L_isWell_442, ze_L_isWell_443, ze_L_isWell_445, ze_L_isWell_446, ze_L_isWell_447, ze_L_isWell_449, ze_L_isWell_452, ze_L_isWell_453, ze_L_isWell_455, ze_L_isWell_456, ze_L_isWell_459, ze_L_isWell_461, ze_L_isWell_464, ze_L_isWell_465, ze_L_isWell_467, ze_L_isWell_468, ze_L_isWell_471, ze_L_isWell_473, ze_L_isWell_476, ze_L_isWell_477, ze_L_isWell_479, ze_L_isWell_481, ze_L_isWell_484, ze_L_isWell_487, ze_L_isWell_490, ze_L_isWell_491, ze_L_isWell_494, ze_L_isWell_495, ze_L_isWell_496, ze_L_isWell_498, ze_L_isWell_499, ze_L_isWell_502, ze_L_isWell_505, ze_L_isWell_506, ze_L_isWell_509, ze_L_isWell_510, ze_L_isWell_513, ze_L_isWell_514, ze_L_isWell_517, ze_L_isWell_518, ze_L_isWell_520, ze_L_isWell_523, zx_row_o, k0, k1, k3, k6, c1, Option.toList_some, Option.toList_none, List.cons_append, List.nil_append, true_and, and_true, and_self, bb_ite, true_or, or_true, Option.some.injEq, bb_I_eq, bb_b_0e, bb_b_1e, bb_b_e0, bb_b_e1, decide_eq_true_eq, decide_eq_false_iff_not, bn_01, bn_11, bb_b_01, ne_eq, Bool.not_eq_false, Bool.not_eq_true, Classical.not_not, bn_lt, bn_le, bn_ti, Int32.reduceToInt, bn_m20, bn_20m, nI_add, bn_p1, bn_s1, bn_in, bn_cl, implies_true, not_true_eq_false, not_false_eq_true, Bool.true_and, Bool.false_and, Bool.and_true, Bool.and_false, Bool.true_or, Bool.false_or, Bool.or_true, Bool.or_false, Bool.not_true, Bool.not_false, false_implies, true_implies, forall_const, Bool.false_eq_true, Bool.true_eq_false, reduceCtorEq, eq_self, Bool.and_eq_true, Bool.or_eq_true, Bool.and_eq_false_iff, Bool.or_eq_false_iff, and_false, false_and, or_false, false_or, bm_10, bm_01]
      | some b =>
        have hb := hx b rfl
        have c1 : ¬ nI n = 0 := nI_ne0 (Nat.pos_of_ne_zero (fun z => by cases hh.mpr z)) (by omega)
        have c2 : bf_hn (some b) = nI b := rfl
        rw [c2] at k6
        have c3 : ¬ nI b = -1005 := fun z => by
          have := congrArg Int32.toInt z
          rw [bn_ti (by omega), show (-1005 : Int32).toInt = -1005 from rfl] at this
          omega
        simp (disch := omega) only [ze_L_isWell_442, ze_L_isWell_443, ze_L_isWell_445, ze_L_isWell_446, ze_L_isWell_447, ze_L_isWell_449, ze_L_isWell_452, ze_L_isWell_453, ze_L_isWell_455, ze_L_isWell_456, ze_L_isWell_459, ze_L_isWell_461, ze_L_isWell_464, ze_L_isWell_465, ze_L_isWell_467, ze_L_isWell_468, ze_L_isWell_471, ze_L_isWell_473, ze_L_isWell_476, ze_L_isWell_477, ze_L_isWell_479, ze_L_isWell_481, ze_L_isWell_484, ze_L_isWell_487, ze_L_isWell_490, ze_L_isWell_491, ze_L_isWell_494, ze_L_isWell_495, ze_L_isWell_496, ze_L_isWell_498, ze_L_isWell_499, ze_L_isWell_502, ze_L_isWell_505, ze_L_isWell_506, ze_L_isWell_509, ze_L_isWell_510, ze_L_isWell_513, ze_L_isWell_514, ze_L_isWell_517, ze_L_isWell_518, ze_L_isWell_520, ze_L_isWell_523, zx_row_o, k0, k1, k3, k6, c1, c3, Option.toList_some, Option.toList_none, List.cons_append, List.nil_append, true_and, and_true, and_self, bb_ite, true_or, or_true, Option.some.injEq, bb_I_eq, bb_b_0e, bb_b_1e, bb_b_e0, bb_b_e1, decide_eq_true_eq, decide_eq_false_iff_not, bn_01, bn_11, bb_b_01, ne_eq, Bool.not_eq_false, Bool.not_eq_true, Classical.not_not, bn_lt, bn_le, bn_ti, Int32.reduceToInt, bn_m20, bn_20m, nI_add, bn_p1, bn_s1, bn_in, bn_cl, implies_true, not_true_eq_false, not_false_eq_true, Bool.true_and, Bool.false_and, Bool.and_true, Bool.and_false, Bool.true_or, Bool.false_or, Bool.or_true, Bool.or_false, Bool.not_true, Bool.not_false, false_implies, true_implies, forall_const, Bool.false_eq_true, Bool.true_eq_false, reduceCtorEq, eq_self, Bool.and_eq_true, Bool.or_eq_true, Bool.and_eq_false_iff, Bool.or_eq_false_iff, and_false, false_and, or_false, false_or, bm_10, bm_01]
    exact e4
theorem zwl_sm {g : Nat → Int32} {a m : Nat} : ∀ n, bf_sm g a (m + n) = bf_sm g a m + bf_sm g (a + m) n
  | 0 => (Int32.add_zero _).symm
  | n + 1 => by
    rw [← Nat.add_assoc, zs_s, zs_s, zwl_sm n, Nat.add_assoc a m n]
    grind
theorem zwl_sand {S : bs_S} : (sp_sand S 0 9).1 + (sp_sand S 10 19).1 = zS S.1 := by
  have e1 : (sp_sand S 0 9).1 = bf_sr S.1 0 10 4 := by
    unfold sp_sand
    dsimp only
    rw [if_pos (by decide), if_neg (by decide)]
    rfl
  have e2 : (sp_sand S 10 19).1 = bf_sr S.1 10 10 4 := by
    unfold sp_sand
    dsimp only
    rw [if_pos (by decide), if_neg (by decide)]
    rfl
  have e3 : ∀ r, bf_sm S.1 (20 * r + 0) 20 = bf_sm S.1 (20 * r + 0) 10 + bf_sm S.1 (20 * r + 10) 10 := fun r => zwl_sm (a := 20 * r + 0) (m := 10) 10
  rw [e1, e2]
  show 0 + bf_sm S.1 (20 * 0 + 0) 10 + bf_sm S.1 (20 * 1 + 0) 10 + bf_sm S.1 (20 * 2 + 0) 10 + bf_sm S.1 (20 * 3 + 0) 10 + (0 + bf_sm S.1 (20 * 0 + 10) 10 + bf_sm S.1 (20 * 1 + 10) 10 + bf_sm S.1 (20 * 2 + 10) 10 + bf_sm S.1 (20 * 3 + 10) 10) = 0 + bf_sm S.1 (20 * 0 + 0) 20 + bf_sm S.1 (20 * 1 + 0) 20 + bf_sm S.1 (20 * 2 + 0) 20 + bf_sm S.1 (20 * 3 + 0) 20
  rw [e3 0, e3 1, e3 2, e3 3]
  grind
theorem x_isWell {F : Int32 → Int32} {d : Nat} {S1 S2 : bs_S} {k : z_P} (hi : bs_inv S1.1) : z_call (z_CL F (d + 1)) 7 [bb_R 40 0] (S1, S2) k ↔ k 1 (S1, S2) := by
  refine z_cal (zs_L_isWell ?_)
  obtain ⟨z7, z8, z9, z10, z11, z12, z13, z14, e⟩ := zwl_out (F := F) (d := d) (S2 := S2) (R := fun r' T' => r' = 1 ∧ T' = (S1, S2)) hi 4 0 bb_U bb_U bb_U bb_U bb_U bb_U bb_U bb_U rfl
  have e' : z_Y (z_CL F d) zc_L_isWell (fun r' T' => r' = 1 ∧ T' = (S1, S2)) 15 [bb_R 40 0, bb_I 0, bb_I 0, bb_I 0, bb_I 0, bb_I 1, bb_I 0, bb_U, bb_U, bb_U, bb_U, bb_U, bb_U, bb_U, bb_U] [] (S1, S2) ↔ _ := e
  have c1 : bf_cr (bf_bar S1.1 (S1.1 80)) 20 4 = bf_cr (bf_bar S1.1 (S1.1 80)) 19 4 := by
    show 0 + bf_cn _ 20 + bf_cn _ 20 + bf_cn _ 20 + bf_cn _ 20 = 0 + bf_cn _ 19 + bf_cn _ 19 + bf_cn _ 19 + bf_cn _ 19
    rw [zwl_bc, zwl_bc, zwl_bc, zwl_bc]
  have c2 : bf_cr (bf_gap S1.1 (S1.1 80) (S1.1 83)) 20 4 = bf_cr (bf_gap S1.1 (S1.1 80) (S1.1 83)) 19 4 := by
    show 0 + bf_cn _ 20 + bf_cn _ 20 + bf_cn _ 20 + bf_cn _ 20 = 0 + bf_cn _ 19 + bf_cn _ 19 + bf_cn _ 19 + bf_cn _ 19
    rw [zwl_gc, zwl_gc, zwl_gc, zwl_gc]
  have c3 : bf_sr S1.1 0 20 4 = zS S1.1 := rfl
  have c4 := zwl_sand (S := S1)
  rw [c1, c2, c3] at e'
  simp (disch := omega) only [ze_L_isWell_0, ze_L_isWell_1, ze_L_isWell_2, ze_L_isWell_3, ze_L_isWell_4, ze_L_isWell_5, ze_L_isWell_6, ze_L_isWell_7, ze_L_isWell_9, ze_L_isWell_10, ze_L_isWell_12, ze_L_isWell_13, e', Option.toList_some, Option.toList_none, List.cons_append, List.nil_append, true_and, and_true, and_self, bb_ite, true_or, or_true, Option.some.injEq, bb_I_eq, bb_b_0e, bb_b_1e, bb_b_e0, bb_b_e1, decide_eq_true_eq, decide_eq_false_iff_not, bn_01, bn_11, bb_b_01, ne_eq, Bool.not_eq_false, Bool.not_eq_true, Classical.not_not, bn_lt, bn_le, bn_ti, Int32.reduceToInt, bn_m20, bn_20m, nI_add, bn_p1, bn_s1, bn_in, bn_cl, implies_true, not_true_eq_false, not_false_eq_true, Bool.true_and, Bool.false_and, Bool.and_true, Bool.and_false, Bool.true_or, Bool.false_or, Bool.or_true, Bool.or_false, Bool.not_true, Bool.not_false, false_implies, true_implies, forall_const, Bool.false_eq_true, Bool.true_eq_false, reduceCtorEq, eq_self, Bool.and_eq_true, Bool.or_eq_true, Bool.and_eq_false_iff, Bool.or_eq_false_iff, and_false, false_and, or_false, false_or, bm_10, bm_01]
  simp (disch := omega) only [ze_L_isWell_526, ze_L_isWell_528, ze_L_isWell_531, ze_L_isWell_532, ze_L_isWell_533, ze_L_isWell_534, ze_L_isWell_537, ze_L_isWell_540, ze_L_isWell_541, ze_L_isWell_542, ze_L_isWell_544, ze_L_isWell_547, ze_L_isWell_550, ze_L_isWell_551, ze_L_isWell_552, ze_L_isWell_554, ze_L_isWell_557, ze_L_isWell_560, ze_L_isWell_562, ze_L_isWell_563, ze_L_isWell_565, ze_L_isWell_568, ze_L_isWell_571, ze_L_isWell_572, ze_L_isWell_573, ze_L_isWell_575, ze_L_isWell_578, ze_L_isWell_579, ze_L_isWell_581, ze_L_isWell_583, ze_L_isWell_586, ze_L_isWell_587, ze_L_isWell_588, ze_L_isWell_591, ze_L_isWell_592, ze_L_isWell_595, ze_L_isWell_596, zx_count_o, zx_sand_o, zc_0, zc_15, zc_16, zc_17, c4, Option.toList_some, Option.toList_none, List.cons_append, List.nil_append, true_and, and_true, and_self, bb_ite, true_or, or_true, Option.some.injEq, bb_I_eq, bb_b_0e, bb_b_1e, bb_b_e0, bb_b_e1, decide_eq_true_eq, decide_eq_false_iff_not, bn_01, bn_11, bb_b_01, ne_eq, Bool.not_eq_false, Bool.not_eq_true, Classical.not_not, bn_lt, bn_le, bn_ti, Int32.reduceToInt, bn_m20, bn_20m, nI_add, bn_p1, bn_s1, bn_in, bn_cl, implies_true, not_true_eq_false, not_false_eq_true, Bool.true_and, Bool.false_and, Bool.and_true, Bool.and_false, Bool.true_or, Bool.false_or, Bool.or_true, Bool.or_false, Bool.not_true, Bool.not_false, false_implies, true_implies, forall_const, Bool.false_eq_true, Bool.true_eq_false, reduceCtorEq, eq_self, Bool.and_eq_true, Bool.or_eq_true, Bool.and_eq_false_iff, Bool.or_eq_false_iff, and_false, false_and, or_false, false_or, bm_10, bm_01]
  try trivial
