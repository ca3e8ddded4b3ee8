/-! THE REFERENCE: slopes slump -/
theorem upd_swap {f : Nat → Int32} {a b : Nat} {x y : Int32} (h : a ≠ b) : upd (upd f a x) b y = upd (upd f b y) a x := by
  funext j
  simp only [bf_upd]
  by_cases z : j = b
  · rw [if_pos z, if_neg (by omega), if_pos z]
  · rw [if_neg z, if_neg z]
theorem l_X7_slump1 {d r u : Nat} {B : bb_M} {g0 : Nat → Int32} {st : Int32} {R : bb_P} {w2 : bb_V} (hr : r < 4) (hg : bf_rb g0) (h84 : B 21 0 84 = st) (hs : 1 ≤ st.toInt ∧ st.toInt ≤ 100) : ∀ (t c : Nat) (z4 z5 : bb_V), c + t = 19 → (bb_Y (bb_CL (d + 2)) cd_X7_slumps R 13 [bb_R 7 0, bb_I (nI (u + bf_cc g0 st c)), w2, bb_I (nI (20 * r + c)), z4, z5] [] (bb_wr B 21 0 (20 * r) 20 (bf_pp g0 st c)) ↔ bb_Y (bb_CL (d + 2)) cd_X7_slumps R 13 [bb_R 7 0, bb_I (nI (u + bf_cc g0 st 19)), w2, bb_I (nI (20 * r + 20)), bb_I (nI 19), bb_I 0] [] (bb_wr B 21 0 (20 * r) 20 (bf_pp g0 st 19))) := by
  intro t
  have e84 : ∀ G, bb_wr B 21 0 (20 * r) 20 G 21 0 84 = st := fun G => by rw [bb_wr_out (by omega), h84]
  have s0 : (0 : Int32).toInt = 0 := rfl
  have n0 : (-(0 : Int32)).toInt = 0 := by decide
  induction t with
  | zero =>
    intro c z4 z5 hc
    obtain rfl : c = 19 := by omega
    have l : ¬ (80 : Int) ≤ ((20 * r + 19 : Nat) : Int) := by omega
    have d2 : (20 * r + 19) % 20 = 19 := by omega
    have d3 := bm_r2q (n := 20 * r + 19) (by omega)
    rw [d2] at d3
    have n19 : nI 19 = 19 := rfl
    have k1 : (0 : Int) ≤ st.toInt := by omega
    rw [h_X7_slumps_13]
    simp (disch := omega) only [e_X7_slumps_0, e_X7_slumps_1, e_X7_slumps_2, e_X7_slumps_3, e_X7_slumps_5, e_X7_slumps_6, e_X7_slumps_9, e_X7_slumps_10, e_X7_slumps_11, e_X7_slumps_12, e_X7_slumps_14, e_X7_slumps_16, e_X7_slumps_19, e_X7_slumps_20, e_X7_slumps_22, e_X7_slumps_23, e_X7_slumps_25, e_X7_slumps_27, e_X7_slumps_29, e_X7_slumps_32, e_X7_slumps_33, e_X7_slumps_36, e_X7_slumps_37, e_X7_slumps_40, e_X7_slumps_41, e_X7_slumps_42, e_X7_slumps_43, e_X7_slumps_46, e_X7_slumps_47, e_X7_slumps_48, e_X7_slumps_49, e_X7_slumps_50, e_X7_slumps_51, e_X7_slumps_53, e_X7_slumps_55, e_X7_slumps_56, e_X7_slumps_59, e_X7_slumps_61, e_X7_slumps_62, e_X7_slumps_65, e_X7_slumps_66, e_X7_slumps_67, e_X7_slumps_68, e_X7_slumps_70, e_X7_slumps_71, e_X7_slumps_73, e_X7_slumps_75, e_X7_slumps_76, e_X7_slumps_77, e_X7_slumps_78, e_X7_slumps_81, e_X7_slumps_82, e_X7_slumps_83, e_X7_slumps_86, e_X7_slumps_88, e_X7_slumps_89, e_X7_slumps_90, e_X7_slumps_93, e_X7_slumps_95, e_X7_slumps_96, e_X7_slumps_99, e_X7_slumps_100, e_X7_slumps_101, e_X7_slumps_102, e_X7_slumps_104, e_X7_slumps_105, e_X7_slumps_107, e_X7_slumps_108, e_X7_slumps_109, e_X7_slumps_111, e_X7_slumps_112, e_X7_slumps_115, e_X7_slumps_116, e_X7_slumps_117, e_X7_slumps_120, e_X7_slumps_123, e_X7_slumps_126, e_X7_slumps_127, e_X7_slumps_130, e_X7_slumps_133, e_X7_slumps_134, e_X7_slumps_135, e_X7_slumps_136, e_X7_slumps_137, e_X7_slumps_138, e_X7_slumps_139, Option.toList_some, Option.toList_none, List.cons_append, List.nil_append, true_and, and_true, and_self, bb_ite, true_or, or_true, Option.some.injEq, bb_I_eq, bb_b_0e, bb_b_1e, bb_b_e0, bb_b_e1, decide_eq_true_eq, decide_eq_false_iff_not, bn_01, bn_11, bb_b_01, ne_eq, Bool.not_eq_false, Bool.not_eq_true, Classical.not_not, bn_lt, bn_le, bn_ti, Int32.reduceToInt, bn_m20, bn_20m, nI_add, bn_p1, bn_s1, bn_in, bn_cl, implies_true, not_true_eq_false, not_false_eq_true, Bool.true_and, Bool.false_and, Bool.and_true, Bool.and_false, Bool.true_or, Bool.false_or, Bool.or_true, Bool.or_false, Bool.not_true, Bool.not_false, false_implies, true_implies, forall_const, Bool.false_eq_true, Bool.true_eq_false, reduceCtorEq, eq_self, Bool.and_eq_true, Bool.or_eq_true, Bool.and_eq_false_iff, Bool.or_eq_false_iff, and_false, false_and, or_false, false_or, l, bm_20, bm_d20, d3, n19, bm_v84, Int32.reduceToNatClampNeg, e84, s0, n0, k1]
    try exact Iff.rfl
  | succ t ih =>
    intro c z4 z5 hc
    have l : ¬ (80 : Int) ≤ ((20 * r + c : Nat) : Int) := by omega
    have d1 : (20 * r + c) / 20 = r := by omega
    have d2 : (20 * r + c) % 20 = c := by omega
    have d3 := bm_r2q (n := 20 * r + c) (by omega)
    rw [d1, d2] at d3
    have hq : bf_pp g0 st (c + 1) = bf_s1 (bf_pp g0 st c) st c := rfl
    have hc2 : bf_cc g0 st (c + 1) = bf_cc g0 st c + bf_c1 (bf_pp g0 st c) st c := rfl
    have hgb := bf_pp_b hg (by omega : 0 ≤ st.toInt) c (by omega)
    generalize bf_pp g0 st c = G at *
    have b1 := hgb c (by omega)
    have b2 := hgb (c + 1) (by omega)
    have r1 : bb_wr B 21 0 (20 * r) 20 G 21 0 (20 * r + c) = G c := bb_wr_in (by omega)
    have r2 : bb_wr B 21 0 (20 * r) 20 G 21 0 (20 * r + c + 1) = G (c + 1) := by
      have := bb_wr_in (M := B) (k := 21) (i := 0) (a := 20 * r) (g := G) (by omega : c + 1 < 20)
      rwa [← Nat.add_assoc] at this
    have r3 : bb_wr B 21 0 (20 * r) 20 G 21 0 (20 * r + (c + 1)) = G (c + 1) := bb_wr_in (by omega : c + 1 < 20)
    have n19 : ¬ nI c = 19 := fun z => by
      rw [show (19 : Int32) = nI 19 from rfl, nI_eq (by omega) (by omega)] at z
      omega
    have es : (G c - G (c + 1)).toInt = (G c).toInt - (G (c + 1)).toInt := bn_subT (by omega) (by omega)
    have en : (-(G c - G (c + 1))).toInt = -((G c).toInt - (G (c + 1)).toInt) := by rw [bn_negT (by omega), es]
    have x1 := fun k => x_X7_moves (d := d) (r := r) (n := c) (t := c + 1) (u := 1) (M := bb_wr B 21 0 (20 * r) 20 G) (k := k) hr (by omega) (by omega) (by omega)
    have x2 := fun k => x_X7_moves (d := d) (r := r) (n := c + 1) (t := c) (u := 1) (M := bb_wr B 21 0 (20 * r) 20 G) (k := k) hr (by omega) (by omega) (by omega)
    rw [bb_wr_in (by omega : c < 20), bb_wr_in (by omega : c + 1 < 20), bm_mv b1 b2] at x1
    rw [bb_wr_in (by omega : c < 20), bb_wr_in (by omega : c + 1 < 20), bm_mv b2 b1] at x2
    rw [h_X7_slumps_13]
    by_cases q1 : st.toInt < (G c).toInt - (G (c + 1)).toInt
    · have e1 : bf_s1 G st c = upd (upd G c (G c - 1)) (c + 1) (G (c + 1) + 1) := by unfold bf_s1; rw [if_pos q1]
      have e2 : bf_c1 G st c = 1 := by unfold bf_c1; rw [if_pos q1]
      have k1 : ¬ (G c).toInt - (G (c + 1)).toInt ≤ st.toInt := by omega
      rw [if_pos (by omega), bb_wr_up (by omega : c + 1 < 20), bb_wr_up (by omega : c < 20), upd_swap (by omega : c + 1 ≠ c), ← e1] at x1
      rw [← ih (c + 1) (bb_I (nI c)) (bb_I (G c - G (c + 1))) (by omega), hq, hc2, e2]
      simp (disch := omega) only [e_X7_slumps_0, e_X7_slumps_1, e_X7_slumps_2, e_X7_slumps_3, e_X7_slumps_5, e_X7_slumps_6, e_X7_slumps_9, e_X7_slumps_10, e_X7_slumps_11, e_X7_slumps_12, e_X7_slumps_14, e_X7_slumps_16, e_X7_slumps_19, e_X7_slumps_20, e_X7_slumps_22, e_X7_slumps_23, e_X7_slumps_25, e_X7_slumps_27, e_X7_slumps_29, e_X7_slumps_32, e_X7_slumps_33, e_X7_slumps_36, e_X7_slumps_37, e_X7_slumps_40, e_X7_slumps_41, e_X7_slumps_42, e_X7_slumps_43, e_X7_slumps_46, e_X7_slumps_47, e_X7_slumps_48, e_X7_slumps_49, e_X7_slumps_50, e_X7_slumps_51, e_X7_slumps_53, e_X7_slumps_55, e_X7_slumps_56, e_X7_slumps_59, e_X7_slumps_61, e_X7_slumps_62, e_X7_slumps_65, e_X7_slumps_66, e_X7_slumps_67, e_X7_slumps_68, e_X7_slumps_70, e_X7_slumps_71, e_X7_slumps_73, e_X7_slumps_75, e_X7_slumps_76, e_X7_slumps_77, e_X7_slumps_78, e_X7_slumps_81, e_X7_slumps_82, e_X7_slumps_83, e_X7_slumps_86, e_X7_slumps_88, e_X7_slumps_89, e_X7_slumps_90, e_X7_slumps_93, e_X7_slumps_95, e_X7_slumps_96, e_X7_slumps_99, e_X7_slumps_100, e_X7_slumps_101, e_X7_slumps_102, e_X7_slumps_104, e_X7_slumps_105, e_X7_slumps_107, e_X7_slumps_108, e_X7_slumps_109, e_X7_slumps_111, e_X7_slumps_112, e_X7_slumps_115, e_X7_slumps_116, e_X7_slumps_117, e_X7_slumps_120, e_X7_slumps_123, e_X7_slumps_126, e_X7_slumps_127, e_X7_slumps_130, e_X7_slumps_133, e_X7_slumps_134, e_X7_slumps_135, e_X7_slumps_136, e_X7_slumps_137, e_X7_slumps_138, e_X7_slumps_139, Option.toList_some, Option.toList_none, List.cons_append, List.nil_append, true_and, and_true, and_self, bb_ite, true_or, or_true, Option.some.injEq, bb_I_eq, bb_b_0e, bb_b_1e, bb_b_e0, bb_b_e1, decide_eq_true_eq, decide_eq_false_iff_not, bn_01, bn_11, bb_b_01, ne_eq, Bool.not_eq_false, Bool.not_eq_true, Classical.not_not, bn_lt, bn_le, bn_ti, Int32.reduceToInt, bn_m20, bn_20m, nI_add, bn_p1, bn_s1, bn_in, bn_cl, implies_true, not_true_eq_false, not_false_eq_true, Bool.true_and, Bool.false_and, Bool.and_true, Bool.and_false, Bool.true_or, Bool.false_or, Bool.or_true, Bool.or_false, Bool.not_true, Bool.not_false, false_implies, true_implies, forall_const, Bool.false_eq_true, Bool.true_eq_false, reduceCtorEq, eq_self, Bool.and_eq_true, Bool.or_eq_true, Bool.and_eq_false_iff, Bool.or_eq_false_iff, and_false, false_and, or_false, false_or, l, bm_20, bm_d20, d1, d3, n19, r1, r2, r3, es, bm_v84, Int32.reduceToNatClampNeg, e84, k1, x1, Nat.add_assoc]
      try exact Iff.rfl
    · have k1 : (G c).toInt - (G (c + 1)).toInt ≤ st.toInt := by omega
      by_cases q2 : (G c).toInt - (G (c + 1)).toInt < -st.toInt
      · have e1 : bf_s1 G st c = upd (upd G c (G c + 1)) (c + 1) (G (c + 1) - 1) := by unfold bf_s1; rw [if_neg q1, if_pos q2]
        have e2 : bf_c1 G st c = 1 := by unfold bf_c1; rw [if_neg q1, if_pos q2]
        have k2 : ¬ -((G c).toInt - (G (c + 1)).toInt) ≤ st.toInt := by omega
        rw [if_pos (by omega), bb_wr_up (by omega : c < 20), bb_wr_up (by omega : c + 1 < 20), ← e1] at x2
        rw [← ih (c + 1) (bb_I (nI c)) (bb_I (G c - G (c + 1))) (by omega), hq, hc2, e2]
        simp (disch := omega) only [e_X7_slumps_0, e_X7_slumps_1, e_X7_slumps_2, e_X7_slumps_3, e_X7_slumps_5, e_X7_slumps_6, e_X7_slumps_9, e_X7_slumps_10, e_X7_slumps_11, e_X7_slumps_12, e_X7_slumps_14, e_X7_slumps_16, e_X7_slumps_19, e_X7_slumps_20, e_X7_slumps_22, e_X7_slumps_23, e_X7_slumps_25, e_X7_slumps_27, e_X7_slumps_29, e_X7_slumps_32, e_X7_slumps_33, e_X7_slumps_36, e_X7_slumps_37, e_X7_slumps_40, e_X7_slumps_41, e_X7_slumps_42, e_X7_slumps_43, e_X7_slumps_46, e_X7_slumps_47, e_X7_slumps_48, e_X7_slumps_49, e_X7_slumps_50, e_X7_slumps_51, e_X7_slumps_53, e_X7_slumps_55, e_X7_slumps_56, e_X7_slumps_59, e_X7_slumps_61, e_X7_slumps_62, e_X7_slumps_65, e_X7_slumps_66, e_X7_slumps_67, e_X7_slumps_68, e_X7_slumps_70, e_X7_slumps_71, e_X7_slumps_73, e_X7_slumps_75, e_X7_slumps_76, e_X7_slumps_77, e_X7_slumps_78, e_X7_slumps_81, e_X7_slumps_82, e_X7_slumps_83, e_X7_slumps_86, e_X7_slumps_88, e_X7_slumps_89, e_X7_slumps_90, e_X7_slumps_93, e_X7_slumps_95, e_X7_slumps_96, e_X7_slumps_99, e_X7_slumps_100, e_X7_slumps_101, e_X7_slumps_102, e_X7_slumps_104, e_X7_slumps_105, e_X7_slumps_107, e_X7_slumps_108, e_X7_slumps_109, e_X7_slumps_111, e_X7_slumps_112, e_X7_slumps_115, e_X7_slumps_116, e_X7_slumps_117, e_X7_slumps_120, e_X7_slumps_123, e_X7_slumps_126, e_X7_slumps_127, e_X7_slumps_130, e_X7_slumps_133, e_X7_slumps_134, e_X7_slumps_135, e_X7_slumps_136, e_X7_slumps_137, e_X7_slumps_138, e_X7_slumps_139, Option.toList_some, Option.toList_none, List.cons_append, List.nil_append, true_and, and_true, and_self, bb_ite, true_or, or_true, Option.some.injEq, bb_I_eq, bb_b_0e, bb_b_1e, bb_b_e0, bb_b_e1, decide_eq_true_eq, decide_eq_false_iff_not, bn_01, bn_11, bb_b_01, ne_eq, Bool.not_eq_false, Bool.not_eq_true, Classical.not_not, bn_lt, bn_le, bn_ti, Int32.reduceToInt, bn_m20, bn_20m, nI_add, bn_p1, bn_s1, bn_in, bn_cl, implies_true, not_true_eq_false, not_false_eq_true, Bool.true_and, Bool.false_and, Bool.and_true, Bool.and_false, Bool.true_or, Bool.false_or, Bool.or_true, Bool.or_false, Bool.not_true, Bool.not_false, false_implies, true_implies, forall_const, Bool.false_eq_true, Bool.true_eq_false, reduceCtorEq, eq_self, Bool.and_eq_true, Bool.or_eq_true, Bool.and_eq_false_iff, Bool.or_eq_false_iff, and_false, false_and, or_false, false_or, l, bm_20, bm_d20, d1, d3, n19, r1, r2, r3, es, en, bm_v84, Int32.reduceToNatClampNeg, e84, k1, k2, x2, Nat.add_assoc]
        try exact Iff.rfl
      · have e1 : bf_s1 G st c = G := by unfold bf_s1; rw [if_neg q1, if_neg q2]
        have e2 : bf_c1 G st c = 0 := by unfold bf_c1; rw [if_neg q1, if_neg q2]
        have k2 : -((G c).toInt - (G (c + 1)).toInt) ≤ st.toInt := by omega
        rw [← ih (c + 1) (bb_I (nI c)) (bb_I (G c - G (c + 1))) (by omega), hq, hc2, e1, e2]
        simp (disch := omega) only [e_X7_slumps_0, e_X7_slumps_1, e_X7_slumps_2, e_X7_slumps_3, e_X7_slumps_5, e_X7_slumps_6, e_X7_slumps_9, e_X7_slumps_10, e_X7_slumps_11, e_X7_slumps_12, e_X7_slumps_14, e_X7_slumps_16, e_X7_slumps_19, e_X7_slumps_20, e_X7_slumps_22, e_X7_slumps_23, e_X7_slumps_25, e_X7_slumps_27, e_X7_slumps_29, e_X7_slumps_32, e_X7_slumps_33, e_X7_slumps_36, e_X7_slumps_37, e_X7_slumps_40, e_X7_slumps_41, e_X7_slumps_42, e_X7_slumps_43, e_X7_slumps_46, e_X7_slumps_47, e_X7_slumps_48, e_X7_slumps_49, e_X7_slumps_50, e_X7_slumps_51, e_X7_slumps_53, e_X7_slumps_55, e_X7_slumps_56, e_X7_slumps_59, e_X7_slumps_61, e_X7_slumps_62, e_X7_slumps_65, e_X7_slumps_66, e_X7_slumps_67, e_X7_slumps_68, e_X7_slumps_70, e_X7_slumps_71, e_X7_slumps_73, e_X7_slumps_75, e_X7_slumps_76, e_X7_slumps_77, e_X7_slumps_78, e_X7_slumps_81, e_X7_slumps_82, e_X7_slumps_83, e_X7_slumps_86, e_X7_slumps_88, e_X7_slumps_89, e_X7_slumps_90, e_X7_slumps_93, e_X7_slumps_95, e_X7_slumps_96, e_X7_slumps_99, e_X7_slumps_100, e_X7_slumps_101, e_X7_slumps_102, e_X7_slumps_104, e_X7_slumps_105, e_X7_slumps_107, e_X7_slumps_108, e_X7_slumps_109, e_X7_slumps_111, e_X7_slumps_112, e_X7_slumps_115, e_X7_slumps_116, e_X7_slumps_117, e_X7_slumps_120, e_X7_slumps_123, e_X7_slumps_126, e_X7_slumps_127, e_X7_slumps_130, e_X7_slumps_133, e_X7_slumps_134, e_X7_slumps_135, e_X7_slumps_136, e_X7_slumps_137, e_X7_slumps_138, e_X7_slumps_139, Option.toList_some, Option.toList_none, List.cons_append, List.nil_append, true_and, and_true, and_self, bb_ite, true_or, or_true, Option.some.injEq, bb_I_eq, bb_b_0e, bb_b_1e, bb_b_e0, bb_b_e1, decide_eq_true_eq, decide_eq_false_iff_not, bn_01, bn_11, bb_b_01, ne_eq, Bool.not_eq_false, Bool.not_eq_true, Classical.not_not, bn_lt, bn_le, bn_ti, Int32.reduceToInt, bn_m20, bn_20m, nI_add, bn_p1, bn_s1, bn_in, bn_cl, implies_true, not_true_eq_false, not_false_eq_true, Bool.true_and, Bool.false_and, Bool.and_true, Bool.and_false, Bool.true_or, Bool.false_or, Bool.or_true, Bool.or_false, Bool.not_true, Bool.not_false, false_implies, true_implies, forall_const, Bool.false_eq_true, Bool.true_eq_false, reduceCtorEq, eq_self, Bool.and_eq_true, Bool.or_eq_true, Bool.and_eq_false_iff, Bool.or_eq_false_iff, and_false, false_and, or_false, false_or, l, bm_20, bm_d20, d1, d3, n19, r1, r2, r3, es, en, bm_v84, Int32.reduceToNatClampNeg, e84, k1, k2, Nat.add_zero, Nat.add_assoc]
        try exact Iff.rfl
