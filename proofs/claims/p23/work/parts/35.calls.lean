theorem bs_rep_u {M : bb_M} {a : Nat → Int32} {k0 j0 p : Nat} {v : Int32} (h : bs_rep M 0 a) (hp : bs_at k0 j0 p) (hi : bs_inv a) : bs_rep (bb_up M k0 0 j0 v) 0 (upd a p v) := bs_rep_up h hp hi.2.2.2.2.2.2.1.1 hi.2.2.2.2.2.2.2.2.1
/-! DUMP -/
def sp_dmp (a : Nat → Int32) (p : Nat) (v : Int32) : Nat → Int32 := if (a p).toInt < v.toInt then upd (upd a p v) 136 (a 136 + (v - a p)) else upd (upd a p v) 137 (a 137 + (a p - v))
def sp_dump (S : bs_S) (r c v : Int32) : Int32 × bs_S := if (bv r 0 3 && bv c 0 19) = true then (if bv v 0 99 = true then (if S.a (20 * bv_N r + bv_N c) = v then (-1005, S) else (S.a (20 * bv_N r + bv_N c), bs_act S (sp_dmp S.a (20 * bv_N r + bv_N c) v))) else (-1002, S)) else (-1001, S)
theorem c_dump {d : Nat} {M : bb_M} {S : bs_S} {r c v : Int32} (h : bs_CI M S) : bs_api d 2 [bb_R 6 0, bb_I r, bb_I c, bb_I v] M (sp_dump S r c v) := by
  unfold sp_dump
  by_cases q1 : (bv r 0 3 && bv c 0 19) = true
  · rw [if_pos q1]
    rw [Bool.and_eq_true] at q1
    obtain ⟨qr, qc⟩ := q1
    have br := bv_iff.mp qr
    have bc := bv_iff.mp qc
    have er := bv_nI br.1
    have ec := bv_nI bc.1
    have nr : bv_N r < 4 := by unfold bv_N; omega
    have nc : bv_N c < 20 := by unfold bv_N; omega
    generalize bv_N r = n at er nr
    generalize bv_N c = m at ec nc
    subst er ec
    have eh : M 10 0 (20 * n + m) = S.a (20 * n + m) := h.1.1 _ (by omega)
    by_cases q2 : bv v 0 99 = true
    · rw [if_pos q2]
      have b2 := bv_iff.mp q2
      have l1 : ¬ v.toInt < 0 := by omega
      have l2 : v.toInt ≤ 99 := b2.2
      by_cases q3 : S.a (20 * n + m) = v
      · rw [if_pos q3]
        refine ⟨M, fun k => bb_cal (st_X6_dump ?_), h, bs_ref_rf⟩
        simp (disch := omega) only [e_X6_dump_0, e_X6_dump_1, e_X6_dump_4, e_X6_dump_7, e_X6_dump_8, e_X6_dump_11, e_X6_dump_14, e_X6_dump_17, e_X6_dump_18, e_X6_dump_19, e_X6_dump_22, e_X6_dump_23, e_X6_dump_25, e_X6_dump_28, e_X6_dump_31, e_X6_dump_32, e_X6_dump_33, e_X6_dump_36, e_X6_dump_39, e_X6_dump_40, e_X6_dump_41, e_X6_dump_44, e_X6_dump_46, e_X6_dump_48, e_X6_dump_49, e_X6_dump_52, e_X6_dump_55, e_X6_dump_56, e_X6_dump_57, e_X6_dump_60, e_X6_dump_61, e_X6_dump_64, e_X6_dump_67, e_X6_dump_68, e_X6_dump_71, e_X6_dump_74, e_X6_dump_75, e_X6_dump_76, e_X6_dump_77, e_X6_dump_80, e_X6_dump_81, e_X6_dump_83, e_X6_dump_86, e_X6_dump_87, e_X6_dump_90, e_X6_dump_93, e_X6_dump_94, e_X6_dump_95, e_X6_dump_96, e_X6_dump_97, e_X6_dump_99, e_X6_dump_100, e_X6_dump_101, e_X6_dump_102, e_X6_dump_105, e_X6_dump_106, e_X6_dump_109, e_X6_dump_112, e_X6_dump_113, e_X6_dump_114, e_X6_dump_115, e_X6_dump_117, e_X6_dump_118, e_X6_dump_119, e_X6_dump_120, e_X6_dump_121, e_X6_dump_123, Option.toList_some, Option.toList_none, List.cons_append, List.nil_append, true_and, and_true, and_self, bb_ite, true_or, or_true, Option.some.injEq, bb_I_eq, bb_b_0e, bb_b_1e, bb_b_e0, bb_b_e1, decide_eq_true_eq, decide_eq_false_iff_not, bn_01, bn_11, bb_b_01, ne_eq, Bool.not_eq_false, Bool.not_eq_true, Classical.not_not, bn_lt, bn_le, bn_ti, Int32.reduceToInt, bn_m20, bn_20m, nI_add, bn_p1, bn_s1, bn_in, bn_cl, implies_true, not_true_eq_false, not_false_eq_true, Bool.true_and, Bool.false_and, Bool.and_true, Bool.and_false, Bool.true_or, Bool.false_or, Bool.or_true, Bool.or_false, Bool.not_true, Bool.not_false, false_implies, true_implies, forall_const, Bool.false_eq_true, Bool.true_eq_false, reduceCtorEq, eq_self, Bool.and_eq_true, Bool.or_eq_true, Bool.and_eq_false_iff, Bool.or_eq_false_iff, and_false, false_and, or_false, false_or, x_X6_isRow, x_X6_isCell, qr, qc, l1, l2, x_X3_heightAt, eh, q3]
      · rw [if_neg q3]
        obtain ⟨M1, e1, r1, f1, g1, g2, fin⟩ := bs_rec (d := d + 4) h
        have i1 : bs_inv (upd S.a (20 * n + m) v) := bs_inv_up h.2.1 (Or.inl ⟨by omega, by omega, by omega⟩)
        have r2 := bs_rep_u (k0 := 10) (j0 := 20 * n + m) (p := 20 * n + m) (v := v) r1 (by unfold bs_at; omega) h.2.1
        have f2 : bc_fr M1 (bb_up M1 10 0 (20 * n + m) v) := bc_fr_up (by omega)
        have v3 : vp_in 3 9 := vp_in_nI (n := 3) (by omega) (by omega)
        have v4 : vp_in 4 9 := vp_in_nI (n := 4) (by omega) (by omega)
        have t3 : bb_up M1 10 0 (20 * n + m) v 15 0 3 = S.a 136 := by rw [bb_up_k (by decide)]; exact r1.2.2.2.2.2.1 2 (by decide)
        have t4 : bb_up M1 10 0 (20 * n + m) v 15 0 4 = S.a 137 := by rw [bb_up_k (by decide)]; exact r1.2.2.2.2.2.1 3 (by decide)
        unfold sp_dmp
        by_cases q4 : (S.a (20 * n + m)).toInt < v.toInt
        · rw [if_pos q4]
          have l4 : ¬ v.toInt ≤ (S.a (20 * n + m)).toInt := by omega
          obtain ⟨c1, c2⟩ := fin _ _ (bc_fr_tr f2 (bc_fr_up (k := 15) (j := 3) (v := S.a 136 + (v - S.a (20 * n + m))) (by omega))) (bs_rep_u (p := 136) r2 (by unfold bs_at; omega) i1) (bs_inv_up i1 (by omega))
          refine ⟨_, fun k => bb_cal (st_X6_dump ?_), c1, c2⟩
          simp (disch := omega) only [e_X6_dump_0, e_X6_dump_1, e_X6_dump_4, e_X6_dump_7, e_X6_dump_8, e_X6_dump_11, e_X6_dump_14, e_X6_dump_17, e_X6_dump_18, e_X6_dump_19, e_X6_dump_22, e_X6_dump_23, e_X6_dump_25, e_X6_dump_28, e_X6_dump_31, e_X6_dump_32, e_X6_dump_33, e_X6_dump_36, e_X6_dump_39, e_X6_dump_40, e_X6_dump_41, e_X6_dump_44, e_X6_dump_46, e_X6_dump_48, e_X6_dump_49, e_X6_dump_52, e_X6_dump_55, e_X6_dump_56, e_X6_dump_57, e_X6_dump_60, e_X6_dump_61, e_X6_dump_64, e_X6_dump_67, e_X6_dump_68, e_X6_dump_71, e_X6_dump_74, e_X6_dump_75, e_X6_dump_76, e_X6_dump_77, e_X6_dump_80, e_X6_dump_81, e_X6_dump_83, e_X6_dump_86, e_X6_dump_87, e_X6_dump_90, e_X6_dump_93, e_X6_dump_94, e_X6_dump_95, e_X6_dump_96, e_X6_dump_97, e_X6_dump_99, e_X6_dump_100, e_X6_dump_101, e_X6_dump_102, e_X6_dump_105, e_X6_dump_106, e_X6_dump_109, e_X6_dump_112, e_X6_dump_113, e_X6_dump_114, e_X6_dump_115, e_X6_dump_117, e_X6_dump_118, e_X6_dump_119, e_X6_dump_120, e_X6_dump_121, e_X6_dump_123, Option.toList_some, Option.toList_none, List.cons_append, List.nil_append, true_and, and_true, and_self, bb_ite, true_or, or_true, Option.some.injEq, bb_I_eq, bb_b_0e, bb_b_1e, bb_b_e0, bb_b_e1, decide_eq_true_eq, decide_eq_false_iff_not, bn_01, bn_11, bb_b_01, ne_eq, Bool.not_eq_false, Bool.not_eq_true, Classical.not_not, bn_lt, bn_le, bn_ti, Int32.reduceToInt, bn_m20, bn_20m, nI_add, bn_p1, bn_s1, bn_in, bn_cl, implies_true, not_true_eq_false, not_false_eq_true, Bool.true_and, Bool.false_and, Bool.and_true, Bool.and_false, Bool.true_or, Bool.false_or, Bool.or_true, Bool.or_false, Bool.not_true, Bool.not_false, false_implies, true_implies, forall_const, Bool.false_eq_true, Bool.true_eq_false, reduceCtorEq, eq_self, Bool.and_eq_true, Bool.or_eq_true, Bool.and_eq_false_iff, Bool.or_eq_false_iff, and_false, false_and, or_false, false_or, x_X6_isRow, x_X6_isCell, qr, qc, l1, l2, x_X3_heightAt, eh, q3, e1, x_X3_setHeight, l4, v3, Int32.reduceToNatClampNeg, t3]
        · rw [if_neg q4]
          have l4 : v.toInt ≤ (S.a (20 * n + m)).toInt := by omega
          obtain ⟨c1, c2⟩ := fin _ _ (bc_fr_tr f2 (bc_fr_up (k := 15) (j := 4) (v := S.a 137 + (S.a (20 * n + m) - v)) (by omega))) (bs_rep_u (p := 137) r2 (by unfold bs_at; omega) i1) (bs_inv_up i1 (by omega))
          refine ⟨_, fun k => bb_cal (st_X6_dump ?_), c1, c2⟩
          simp (disch := omega) only [e_X6_dump_0, e_X6_dump_1, e_X6_dump_4, e_X6_dump_7, e_X6_dump_8, e_X6_dump_11, e_X6_dump_14, e_X6_dump_17, e_X6_dump_18, e_X6_dump_19, e_X6_dump_22, e_X6_dump_23, e_X6_dump_25, e_X6_dump_28, e_X6_dump_31, e_X6_dump_32, e_X6_dump_33, e_X6_dump_36, e_X6_dump_39, e_X6_dump_40, e_X6_dump_41, e_X6_dump_44, e_X6_dump_46, e_X6_dump_48, e_X6_dump_49, e_X6_dump_52, e_X6_dump_55, e_X6_dump_56, e_X6_dump_57, e_X6_dump_60, e_X6_dump_61, e_X6_dump_64, e_X6_dump_67, e_X6_dump_68, e_X6_dump_71, e_X6_dump_74, e_X6_dump_75, e_X6_dump_76, e_X6_dump_77, e_X6_dump_80, e_X6_dump_81, e_X6_dump_83, e_X6_dump_86, e_X6_dump_87, e_X6_dump_90, e_X6_dump_93, e_X6_dump_94, e_X6_dump_95, e_X6_dump_96, e_X6_dump_97, e_X6_dump_99, e_X6_dump_100, e_X6_dump_101, e_X6_dump_102, e_X6_dump_105, e_X6_dump_106, e_X6_dump_109, e_X6_dump_112, e_X6_dump_113, e_X6_dump_114, e_X6_dump_115, e_X6_dump_117, e_X6_dump_118, e_X6_dump_119, e_X6_dump_120, e_X6_dump_121, e_X6_dump_123, Option.toList_some, Option.toList_none, List.cons_append, List.nil_append, true_and, and_true, and_self, bb_ite, true_or, or_true, Option.some.injEq, bb_I_eq, bb_b_0e, bb_b_1e, bb_b_e0, bb_b_e1, decide_eq_true_eq, decide_eq_false_iff_not, bn_01, bn_11, bb_b_01, ne_eq, Bool.not_eq_false, Bool.not_eq_true, Classical.not_not, bn_lt, bn_le, bn_ti, Int32.reduceToInt, bn_m20, bn_20m, nI_add, bn_p1, bn_s1, bn_in, bn_cl, implies_true, not_true_eq_false, not_false_eq_true, Bool.true_and, Bool.false_and, Bool.and_true, Bool.and_false, Bool.true_or, Bool.false_or, Bool.or_true, Bool.or_false, Bool.not_true, Bool.not_false, false_implies, true_implies, forall_const, Bool.false_eq_true, Bool.true_eq_false, reduceCtorEq, eq_self, Bool.and_eq_true, Bool.or_eq_true, Bool.and_eq_false_iff, Bool.or_eq_false_iff, and_false, false_and, or_false, false_or, x_X6_isRow, x_X6_isCell, qr, qc, l1, l2, x_X3_heightAt, eh, q3, e1, x_X3_setHeight, l4, v4, Int32.reduceToNatClampNeg, t4]
    · rw [if_neg q2]
      refine ⟨M, fun k => bb_cal (st_X6_dump ?_), h, bs_ref_rf⟩
      rw [bv_iff] at q2
      by_cases l1 : v.toInt < 0
      · simp (disch := omega) only [e_X6_dump_0, e_X6_dump_1, e_X6_dump_4, e_X6_dump_7, e_X6_dump_8, e_X6_dump_11, e_X6_dump_14, e_X6_dump_17, e_X6_dump_18, e_X6_dump_19, e_X6_dump_22, e_X6_dump_23, e_X6_dump_25, e_X6_dump_28, e_X6_dump_31, e_X6_dump_32, e_X6_dump_33, e_X6_dump_36, e_X6_dump_39, e_X6_dump_40, e_X6_dump_41, e_X6_dump_44, e_X6_dump_46, e_X6_dump_48, e_X6_dump_49, e_X6_dump_52, e_X6_dump_55, e_X6_dump_56, e_X6_dump_57, e_X6_dump_60, e_X6_dump_61, e_X6_dump_64, e_X6_dump_67, e_X6_dump_68, e_X6_dump_71, e_X6_dump_74, e_X6_dump_75, e_X6_dump_76, e_X6_dump_77, e_X6_dump_80, e_X6_dump_81, e_X6_dump_83, e_X6_dump_86, e_X6_dump_87, e_X6_dump_90, e_X6_dump_93, e_X6_dump_94, e_X6_dump_95, e_X6_dump_96, e_X6_dump_97, e_X6_dump_99, e_X6_dump_100, e_X6_dump_101, e_X6_dump_102, e_X6_dump_105, e_X6_dump_106, e_X6_dump_109, e_X6_dump_112, e_X6_dump_113, e_X6_dump_114, e_X6_dump_115, e_X6_dump_117, e_X6_dump_118, e_X6_dump_119, e_X6_dump_120, e_X6_dump_121, e_X6_dump_123, Option.toList_some, Option.toList_none, List.cons_append, List.nil_append, true_and, and_true, and_self, bb_ite, true_or, or_true, Option.some.injEq, bb_I_eq, bb_b_0e, bb_b_1e, bb_b_e0, bb_b_e1, decide_eq_true_eq, decide_eq_false_iff_not, bn_01, bn_11, bb_b_01, ne_eq, Bool.not_eq_false, Bool.not_eq_true, Classical.not_not, bn_lt, bn_le, bn_ti, Int32.reduceToInt, bn_m20, bn_20m, nI_add, bn_p1, bn_s1, bn_in, bn_cl, implies_true, not_true_eq_false, not_false_eq_true, Bool.true_and, Bool.false_and, Bool.and_true, Bool.and_false, Bool.true_or, Bool.false_or, Bool.or_true, Bool.or_false, Bool.not_true, Bool.not_false, false_implies, true_implies, forall_const, Bool.false_eq_true, Bool.true_eq_false, reduceCtorEq, eq_self, Bool.and_eq_true, Bool.or_eq_true, Bool.and_eq_false_iff, Bool.or_eq_false_iff, and_false, false_and, or_false, false_or, x_X6_isRow, x_X6_isCell, qr, qc, l1]
      · have l2 : ¬ v.toInt ≤ 99 := by omega
        simp (disch := omega) only [e_X6_dump_0, e_X6_dump_1, e_X6_dump_4, e_X6_dump_7, e_X6_dump_8, e_X6_dump_11, e_X6_dump_14, e_X6_dump_17, e_X6_dump_18, e_X6_dump_19, e_X6_dump_22, e_X6_dump_23, e_X6_dump_25, e_X6_dump_28, e_X6_dump_31, e_X6_dump_32, e_X6_dump_33, e_X6_dump_36, e_X6_dump_39, e_X6_dump_40, e_X6_dump_41, e_X6_dump_44, e_X6_dump_46, e_X6_dump_48, e_X6_dump_49, e_X6_dump_52, e_X6_dump_55, e_X6_dump_56, e_X6_dump_57, e_X6_dump_60, e_X6_dump_61, e_X6_dump_64, e_X6_dump_67, e_X6_dump_68, e_X6_dump_71, e_X6_dump_74, e_X6_dump_75, e_X6_dump_76, e_X6_dump_77, e_X6_dump_80, e_X6_dump_81, e_X6_dump_83, e_X6_dump_86, e_X6_dump_87, e_X6_dump_90, e_X6_dump_93, e_X6_dump_94, e_X6_dump_95, e_X6_dump_96, e_X6_dump_97, e_X6_dump_99, e_X6_dump_100, e_X6_dump_101, e_X6_dump_102, e_X6_dump_105, e_X6_dump_106, e_X6_dump_109, e_X6_dump_112, e_X6_dump_113, e_X6_dump_114, e_X6_dump_115, e_X6_dump_117, e_X6_dump_118, e_X6_dump_119, e_X6_dump_120, e_X6_dump_121, e_X6_dump_123, Option.toList_some, Option.toList_none, List.cons_append, List.nil_append, true_and, and_true, and_self, bb_ite, true_or, or_true, Option.some.injEq, bb_I_eq, bb_b_0e, bb_b_1e, bb_b_e0, bb_b_e1, decide_eq_true_eq, decide_eq_false_iff_not, bn_01, bn_11, bb_b_01, ne_eq, Bool.not_eq_false, Bool.not_eq_true, Classical.not_not, bn_lt, bn_le, bn_ti, Int32.reduceToInt, bn_m20, bn_20m, nI_add, bn_p1, bn_s1, bn_in, bn_cl, implies_true, not_true_eq_false, not_false_eq_true, Bool.true_and, Bool.false_and, Bool.and_true, Bool.and_false, Bool.true_or, Bool.false_or, Bool.or_true, Bool.or_false, Bool.not_true, Bool.not_false, false_implies, true_implies, forall_const, Bool.false_eq_true, Bool.true_eq_false, reduceCtorEq, eq_self, Bool.and_eq_true, Bool.or_eq_true, Bool.and_eq_false_iff, Bool.or_eq_false_iff, and_false, false_and, or_false, false_or, x_X6_isRow, x_X6_isCell, qr, qc, l1, l2]
  · rw [if_neg q1]
    refine ⟨M, fun k => bb_cal (st_X6_dump ?_), h, bs_ref_rf⟩
    rw [Bool.and_eq_true] at q1
    by_cases q2 : bv r 0 3 = true
    · have q3 : bv c 0 19 = false := by
        cases z : bv c 0 19
        · rfl
        · exact absurd ⟨q2, z⟩ q1
      simp (disch := omega) only [e_X6_dump_0, e_X6_dump_1, e_X6_dump_4, e_X6_dump_7, e_X6_dump_8, e_X6_dump_11, e_X6_dump_14, e_X6_dump_17, e_X6_dump_18, e_X6_dump_19, e_X6_dump_22, e_X6_dump_23, e_X6_dump_25, e_X6_dump_28, e_X6_dump_31, e_X6_dump_32, e_X6_dump_33, e_X6_dump_36, e_X6_dump_39, e_X6_dump_40, e_X6_dump_41, e_X6_dump_44, e_X6_dump_46, e_X6_dump_48, e_X6_dump_49, e_X6_dump_52, e_X6_dump_55, e_X6_dump_56, e_X6_dump_57, e_X6_dump_60, e_X6_dump_61, e_X6_dump_64, e_X6_dump_67, e_X6_dump_68, e_X6_dump_71, e_X6_dump_74, e_X6_dump_75, e_X6_dump_76, e_X6_dump_77, e_X6_dump_80, e_X6_dump_81, e_X6_dump_83, e_X6_dump_86, e_X6_dump_87, e_X6_dump_90, e_X6_dump_93, e_X6_dump_94, e_X6_dump_95, e_X6_dump_96, e_X6_dump_97, e_X6_dump_99, e_X6_dump_100, e_X6_dump_101, e_X6_dump_102, e_X6_dump_105, e_X6_dump_106, e_X6_dump_109, e_X6_dump_112, e_X6_dump_113, e_X6_dump_114, e_X6_dump_115, e_X6_dump_117, e_X6_dump_118, e_X6_dump_119, e_X6_dump_120, e_X6_dump_121, e_X6_dump_123, Option.toList_some, Option.toList_none, List.cons_append, List.nil_append, true_and, and_true, and_self, bb_ite, true_or, or_true, Option.some.injEq, bb_I_eq, bb_b_0e, bb_b_1e, bb_b_e0, bb_b_e1, decide_eq_true_eq, decide_eq_false_iff_not, bn_01, bn_11, bb_b_01, ne_eq, Bool.not_eq_false, Bool.not_eq_true, Classical.not_not, bn_lt, bn_le, bn_ti, Int32.reduceToInt, bn_m20, bn_20m, nI_add, bn_p1, bn_s1, bn_in, bn_cl, implies_true, not_true_eq_false, not_false_eq_true, Bool.true_and, Bool.false_and, Bool.and_true, Bool.and_false, Bool.true_or, Bool.false_or, Bool.or_true, Bool.or_false, Bool.not_true, Bool.not_false, false_implies, true_implies, forall_const, Bool.false_eq_true, Bool.true_eq_false, reduceCtorEq, eq_self, Bool.and_eq_true, Bool.or_eq_true, Bool.and_eq_false_iff, Bool.or_eq_false_iff, and_false, false_and, or_false, false_or, x_X6_isRow, x_X6_isCell, q2, q3]
    · have q3 : bv r 0 3 = false := by
        cases z : bv r 0 3
        · rfl
        · exact absurd z q2
      simp (disch := omega) only [e_X6_dump_0, e_X6_dump_1, e_X6_dump_4, e_X6_dump_7, e_X6_dump_8, e_X6_dump_11, e_X6_dump_14, e_X6_dump_17, e_X6_dump_18, e_X6_dump_19, e_X6_dump_22, e_X6_dump_23, e_X6_dump_25, e_X6_dump_28, e_X6_dump_31, e_X6_dump_32, e_X6_dump_33, e_X6_dump_36, e_X6_dump_39, e_X6_dump_40, e_X6_dump_41, e_X6_dump_44, e_X6_dump_46, e_X6_dump_48, e_X6_dump_49, e_X6_dump_52, e_X6_dump_55, e_X6_dump_56, e_X6_dump_57, e_X6_dump_60, e_X6_dump_61, e_X6_dump_64, e_X6_dump_67, e_X6_dump_68, e_X6_dump_71, e_X6_dump_74, e_X6_dump_75, e_X6_dump_76, e_X6_dump_77, e_X6_dump_80, e_X6_dump_81, e_X6_dump_83, e_X6_dump_86, e_X6_dump_87, e_X6_dump_90, e_X6_dump_93, e_X6_dump_94, e_X6_dump_95, e_X6_dump_96, e_X6_dump_97, e_X6_dump_99, e_X6_dump_100, e_X6_dump_101, e_X6_dump_102, e_X6_dump_105, e_X6_dump_106, e_X6_dump_109, e_X6_dump_112, e_X6_dump_113, e_X6_dump_114, e_X6_dump_115, e_X6_dump_117, e_X6_dump_118, e_X6_dump_119, e_X6_dump_120, e_X6_dump_121, e_X6_dump_123, Option.toList_some, Option.toList_none, List.cons_append, List.nil_append, true_and, and_true, and_self, bb_ite, true_or, or_true, Option.some.injEq, bb_I_eq, bb_b_0e, bb_b_1e, bb_b_e0, bb_b_e1, decide_eq_true_eq, decide_eq_false_iff_not, bn_01, bn_11, bb_b_01, ne_eq, Bool.not_eq_false, Bool.not_eq_true, Classical.not_not, bn_lt, bn_le, bn_ti, Int32.reduceToInt, bn_m20, bn_20m, nI_add, bn_p1, bn_s1, bn_in, bn_cl, implies_true, not_true_eq_false, not_false_eq_true, Bool.true_and, Bool.false_and, Bool.and_true, Bool.and_false, Bool.true_or, Bool.false_or, Bool.or_true, Bool.or_false, Bool.not_true, Bool.not_false, false_implies, true_implies, forall_const, Bool.false_eq_true, Bool.true_eq_false, reduceCtorEq, eq_self, Bool.and_eq_true, Bool.or_eq_true, Bool.and_eq_false_iff, Bool.or_eq_false_iff, and_false, false_and, or_false, false_or, x_X6_isRow, x_X6_isCell, q3]
/-! LEVEL, SETTINGS -/
def sp_sets (S : bs_S) (p : Nat) (v : Int32) : Int32 × bs_S := if S.a p = v then (-1005, S) else (S.a p, bs_act S (upd S.a p v))
def sp_setLevel (S : bs_S) (v : Int32) : Int32 × bs_S := if bv v 20 70 = true then sp_sets S 80 v else (-1002, S)
theorem c_setLevel {d : Nat} {M : bb_M} {S : bs_S} {v : Int32} (h : bs_CI M S) : bs_api d 3 [bb_R 6 0, bb_I v] M (sp_setLevel S v) := by
  unfold sp_setLevel sp_sets
  have eh : M 4 0 6 = S.a 80 := h.1.2.1
  by_cases q2 : bv v 20 70 = true
  · rw [if_pos q2]
    have b2 := bv_iff.mp q2
    have l1 : ¬ v.toInt < 20 := by omega
    have l2 : v.toInt ≤ 70 := b2.2
    by_cases q3 : S.a 80 = v
    · rw [if_pos q3]
      refine ⟨M, fun k => bb_cal (st_X6_setLevel ?_), h, bs_ref_rf⟩
      simp (disch := omega) only [e_X6_setLevel_0, e_X6_setLevel_1, e_X6_setLevel_3, e_X6_setLevel_6, e_X6_setLevel_7, e_X6_setLevel_9, e_X6_setLevel_12, e_X6_setLevel_15, e_X6_setLevel_16, e_X6_setLevel_17, e_X6_setLevel_20, e_X6_setLevel_23, e_X6_setLevel_24, e_X6_setLevel_25, e_X6_setLevel_26, e_X6_setLevel_29, e_X6_setLevel_32, e_X6_setLevel_33, e_X6_setLevel_34, e_X6_setLevel_37, e_X6_setLevel_38, e_X6_setLevel_41, e_X6_setLevel_44, e_X6_setLevel_45, e_X6_setLevel_48, e_X6_setLevel_49, e_X6_setLevel_52, e_X6_setLevel_53, Option.toList_some, Option.toList_none, List.cons_append, List.nil_append, true_and, and_true, and_self, bb_ite, true_or, or_true, Option.some.injEq, bb_I_eq, bb_b_0e, bb_b_1e, bb_b_e0, bb_b_e1, decide_eq_true_eq, decide_eq_false_iff_not, bn_01, bn_11, bb_b_01, ne_eq, Bool.not_eq_false, Bool.not_eq_true, Classical.not_not, bn_lt, bn_le, bn_ti, Int32.reduceToInt, bn_m20, bn_20m, nI_add, bn_p1, bn_s1, bn_in, bn_cl, implies_true, not_true_eq_false, not_false_eq_true, Bool.true_and, Bool.false_and, Bool.and_true, Bool.and_false, Bool.true_or, Bool.false_or, Bool.or_true, Bool.or_false, Bool.not_true, Bool.not_false, false_implies, true_implies, forall_const, Bool.false_eq_true, Bool.true_eq_false, reduceCtorEq, eq_self, Bool.and_eq_true, Bool.or_eq_true, Bool.and_eq_false_iff, Bool.or_eq_false_iff, and_false, false_and, or_false, false_or, l1, l2, eh, q3]
    · rw [if_neg q3]
      obtain ⟨M1, e1, r1, f1, g1, g2, fin⟩ := bs_rec (d := d + 4) h
      obtain ⟨c1, c2⟩ := fin _ _ (bc_fr_up (k := 4) (j := 6) (v := v) (by omega)) (bs_rep_u (p := 80) r1 (by unfold bs_at; omega) h.2.1) (bs_inv_up h.2.1 (by omega))
      refine ⟨_, fun k => bb_cal (st_X6_setLevel ?_), c1, c2⟩
      simp (disch := omega) only [e_X6_setLevel_0, e_X6_setLevel_1, e_X6_setLevel_3, e_X6_setLevel_6, e_X6_setLevel_7, e_X6_setLevel_9, e_X6_setLevel_12, e_X6_setLevel_15, e_X6_setLevel_16, e_X6_setLevel_17, e_X6_setLevel_20, e_X6_setLevel_23, e_X6_setLevel_24, e_X6_setLevel_25, e_X6_setLevel_26, e_X6_setLevel_29, e_X6_setLevel_32, e_X6_setLevel_33, e_X6_setLevel_34, e_X6_setLevel_37, e_X6_setLevel_38, e_X6_setLevel_41, e_X6_setLevel_44, e_X6_setLevel_45, e_X6_setLevel_48, e_X6_setLevel_49, e_X6_setLevel_52, e_X6_setLevel_53, Option.toList_some, Option.toList_none, List.cons_append, List.nil_append, true_and, and_true, and_self, bb_ite, true_or, or_true, Option.some.injEq, bb_I_eq, bb_b_0e, bb_b_1e, bb_b_e0, bb_b_e1, decide_eq_true_eq, decide_eq_false_iff_not, bn_01, bn_11, bb_b_01, ne_eq, Bool.not_eq_false, Bool.not_eq_true, Classical.not_not, bn_lt, bn_le, bn_ti, Int32.reduceToInt, bn_m20, bn_20m, nI_add, bn_p1, bn_s1, bn_in, bn_cl, implies_true, not_true_eq_false, not_false_eq_true, Bool.true_and, Bool.false_and, Bool.and_true, Bool.and_false, Bool.true_or, Bool.false_or, Bool.or_true, Bool.or_false, Bool.not_true, Bool.not_false, false_implies, true_implies, forall_const, Bool.false_eq_true, Bool.true_eq_false, reduceCtorEq, eq_self, Bool.and_eq_true, Bool.or_eq_true, Bool.and_eq_false_iff, Bool.or_eq_false_iff, and_false, false_and, or_false, false_or, l1, l2, eh, q3, e1]
  · rw [if_neg q2]
    refine ⟨M, fun k => bb_cal (st_X6_setLevel ?_), h, bs_ref_rf⟩
    rw [bv_iff] at q2
    by_cases l1 : v.toInt < 20
    · simp (disch := omega) only [e_X6_setLevel_0, e_X6_setLevel_1, e_X6_setLevel_3, e_X6_setLevel_6, e_X6_setLevel_7, e_X6_setLevel_9, e_X6_setLevel_12, e_X6_setLevel_15, e_X6_setLevel_16, e_X6_setLevel_17, e_X6_setLevel_20, e_X6_setLevel_23, e_X6_setLevel_24, e_X6_setLevel_25, e_X6_setLevel_26, e_X6_setLevel_29, e_X6_setLevel_32, e_X6_setLevel_33, e_X6_setLevel_34, e_X6_setLevel_37, e_X6_setLevel_38, e_X6_setLevel_41, e_X6_setLevel_44, e_X6_setLevel_45, e_X6_setLevel_48, e_X6_setLevel_49, e_X6_setLevel_52, e_X6_setLevel_53, Option.toList_some, Option.toList_none, List.cons_append, List.nil_append, true_and, and_true, and_self, bb_ite, true_or, or_true, Option.some.injEq, bb_I_eq, bb_b_0e, bb_b_1e, bb_b_e0, bb_b_e1, decide_eq_true_eq, decide_eq_false_iff_not, bn_01, bn_11, bb_b_01, ne_eq, Bool.not_eq_false, Bool.not_eq_true, Classical.not_not, bn_lt, bn_le, bn_ti, Int32.reduceToInt, bn_m20, bn_20m, nI_add, bn_p1, bn_s1, bn_in, bn_cl, implies_true, not_true_eq_false, not_false_eq_true, Bool.true_and, Bool.false_and, Bool.and_true, Bool.and_false, Bool.true_or, Bool.false_or, Bool.or_true, Bool.or_false, Bool.not_true, Bool.not_false, false_implies, true_implies, forall_const, Bool.false_eq_true, Bool.true_eq_false, reduceCtorEq, eq_self, Bool.and_eq_true, Bool.or_eq_true, Bool.and_eq_false_iff, Bool.or_eq_false_iff, and_false, false_and, or_false, false_or, l1]
    · have l2 : ¬ v.toInt ≤ 70 := by omega
      simp (disch := omega) only [e_X6_setLevel_0, e_X6_setLevel_1, e_X6_setLevel_3, e_X6_setLevel_6, e_X6_setLevel_7, e_X6_setLevel_9, e_X6_setLevel_12, e_X6_setLevel_15, e_X6_setLevel_16, e_X6_setLevel_17, e_X6_setLevel_20, e_X6_setLevel_23, e_X6_setLevel_24, e_X6_setLevel_25, e_X6_setLevel_26, e_X6_setLevel_29, e_X6_setLevel_32, e_X6_setLevel_33, e_X6_setLevel_34, e_X6_setLevel_37, e_X6_setLevel_38, e_X6_setLevel_41, e_X6_setLevel_44, e_X6_setLevel_45, e_X6_setLevel_48, e_X6_setLevel_49, e_X6_setLevel_52, e_X6_setLevel_53, Option.toList_some, Option.toList_none, List.cons_append, List.nil_append, true_and, and_true, and_self, bb_ite, true_or, or_true, Option.some.injEq, bb_I_eq, bb_b_0e, bb_b_1e, bb_b_e0, bb_b_e1, decide_eq_true_eq, decide_eq_false_iff_not, bn_01, bn_11, bb_b_01, ne_eq, Bool.not_eq_false, Bool.not_eq_true, Classical.not_not, bn_lt, bn_le, bn_ti, Int32.reduceToInt, bn_m20, bn_20m, nI_add, bn_p1, bn_s1, bn_in, bn_cl, implies_true, not_true_eq_false, not_false_eq_true, Bool.true_and, Bool.false_and, Bool.and_true, Bool.and_false, Bool.true_or, Bool.false_or, Bool.or_true, Bool.or_false, Bool.not_true, Bool.not_false, false_implies, true_implies, forall_const, Bool.false_eq_true, Bool.true_eq_false, reduceCtorEq, eq_self, Bool.and_eq_true, Bool.or_eq_true, Bool.and_eq_false_iff, Bool.or_eq_false_iff, and_false, false_and, or_false, false_or, l1, l2]
def bs_set (n : Nat) (v : Int32) : Bool := bv v ([1, 0, 1, 4].getD n 0 : Int32).toInt ([20, 2, 20, 30].getD n 0 : Int32).toInt
def sp_set (S : bs_S) (w v : Int32) : Int32 × bs_S := if bv w 0 3 = true ∧ bs_set (bv_N w) v = true then sp_sets S (81 + bv_N w) v else (-1002, S)
theorem c_set {d : Nat} {M : bb_M} {S : bs_S} {w v : Int32} (h : bs_CI M S) : bs_api d 4 [bb_R 6 0, bb_I w, bb_I v] M (sp_set S w v) := by
  unfold sp_set sp_sets
  by_cases q1 : bv w 0 3 = true
  · have bw := bv_iff.mp q1
    have ew := bv_nI bw.1
    have nw : bv_N w < 4 := by unfold bv_N; omega
    generalize bv_N w = n at ew nw
    subst ew
    obtain ⟨t1, t2⟩ := h.2.2.2.2.2.2 n nw
    have l0 : ¬ (n : Int) < 0 := by omega
    have l4 : (n : Int) < 4 := by omega
    have eh : M 14 0 n = S.a (81 + n) := h.1.2.2.1 n nw
    by_cases q2 : bs_set n v = true
    · rw [if_pos ⟨q1, q2⟩]
      unfold bs_set at q2
      have b2 := bv_iff.mp q2
      have l1 : ¬ v.toInt < ([1, 0, 1, 4].getD n 0 : Int32).toInt := by omega
      have l2 : v.toInt ≤ ([20, 2, 20, 30].getD n 0 : Int32).toInt := b2.2
      by_cases q3 : S.a (81 + n) = v
      · rw [if_pos q3]
        refine ⟨M, fun k => bb_cal (st_X6_set ?_), h, bs_ref_rf⟩
        simp (disch := omega) only [e_X6_set_0, e_X6_set_1, e_X6_set_4, e_X6_set_5, e_X6_set_6, e_X6_set_9, e_X6_set_12, e_X6_set_13, e_X6_set_14, e_X6_set_17, e_X6_set_18, e_X6_set_19, e_X6_set_22, e_X6_set_23, e_X6_set_26, e_X6_set_27, e_X6_set_28, e_X6_set_31, e_X6_set_34, e_X6_set_35, e_X6_set_36, e_X6_set_39, e_X6_set_42, e_X6_set_43, e_X6_set_44, e_X6_set_45, e_X6_set_46, e_X6_set_47, e_X6_set_50, e_X6_set_53, e_X6_set_54, e_X6_set_55, e_X6_set_58, e_X6_set_59, e_X6_set_62, e_X6_set_65, e_X6_set_66, e_X6_set_69, e_X6_set_72, e_X6_set_73, e_X6_set_74, e_X6_set_75, e_X6_set_76, Option.toList_some, Option.toList_none, List.cons_append, List.nil_append, true_and, and_true, and_self, bb_ite, true_or, or_true, Option.some.injEq, bb_I_eq, bb_b_0e, bb_b_1e, bb_b_e0, bb_b_e1, decide_eq_true_eq, decide_eq_false_iff_not, bn_01, bn_11, bb_b_01, ne_eq, Bool.not_eq_false, Bool.not_eq_true, Classical.not_not, bn_lt, bn_le, bn_ti, Int32.reduceToInt, bn_m20, bn_20m, nI_add, bn_p1, bn_s1, bn_in, bn_cl, implies_true, not_true_eq_false, not_false_eq_true, Bool.true_and, Bool.false_and, Bool.and_true, Bool.and_false, Bool.true_or, Bool.false_or, Bool.or_true, Bool.or_false, Bool.not_true, Bool.not_false, false_implies, true_implies, forall_const, Bool.false_eq_true, Bool.true_eq_false, reduceCtorEq, eq_self, Bool.and_eq_true, Bool.or_eq_true, Bool.and_eq_false_iff, Bool.or_eq_false_iff, and_false, false_and, or_false, false_or, l0, l4, t1, t2, l1, l2, eh, q3]
      · rw [if_neg q3]
        obtain ⟨M1, e1, r1, f1, g1, g2, fin⟩ := bs_rec (d := d + 4) h
        obtain ⟨c1, c2⟩ := fin _ _ (bc_fr_up (k := 14) (j := n) (v := v) (by omega)) (bs_rep_u (p := 81 + n) r1 (by unfold bs_at; omega) h.2.1) (bs_inv_up h.2.1 (by
          rcases (show n = 0 ∨ n = 1 ∨ n = 2 ∨ n = 3 by omega) with rfl | rfl | rfl | rfl
          · have : 1 ≤ v.toInt ∧ v.toInt ≤ 20 := b2
            omega
          · have : 0 ≤ v.toInt ∧ v.toInt ≤ 2 := b2
            omega
          · have : 1 ≤ v.toInt ∧ v.toInt ≤ 20 := b2
            omega
          · have : 4 ≤ v.toInt ∧ v.toInt ≤ 30 := b2
            omega))
        refine ⟨_, fun k => bb_cal (st_X6_set ?_), c1, c2⟩
        simp (disch := omega) only [e_X6_set_0, e_X6_set_1, e_X6_set_4, e_X6_set_5, e_X6_set_6, e_X6_set_9, e_X6_set_12, e_X6_set_13, e_X6_set_14, e_X6_set_17, e_X6_set_18, e_X6_set_19, e_X6_set_22, e_X6_set_23, e_X6_set_26, e_X6_set_27, e_X6_set_28, e_X6_set_31, e_X6_set_34, e_X6_set_35, e_X6_set_36, e_X6_set_39, e_X6_set_42, e_X6_set_43, e_X6_set_44, e_X6_set_45, e_X6_set_46, e_X6_set_47, e_X6_set_50, e_X6_set_53, e_X6_set_54, e_X6_set_55, e_X6_set_58, e_X6_set_59, e_X6_set_62, e_X6_set_65, e_X6_set_66, e_X6_set_69, e_X6_set_72, e_X6_set_73, e_X6_set_74, e_X6_set_75, e_X6_set_76, Option.toList_some, Option.toList_none, List.cons_append, List.nil_append, true_and, and_true, and_self, bb_ite, true_or, or_true, Option.some.injEq, bb_I_eq, bb_b_0e, bb_b_1e, bb_b_e0, bb_b_e1, decide_eq_true_eq, decide_eq_false_iff_not, bn_01, bn_11, bb_b_01, ne_eq, Bool.not_eq_false, Bool.not_eq_true, Classical.not_not, bn_lt, bn_le, bn_ti, Int32.reduceToInt, bn_m20, bn_20m, nI_add, bn_p1, bn_s1, bn_in, bn_cl, implies_true, not_true_eq_false, not_false_eq_true, Bool.true_and, Bool.false_and, Bool.and_true, Bool.and_false, Bool.true_or, Bool.false_or, Bool.or_true, Bool.or_false, Bool.not_true, Bool.not_false, false_implies, true_implies, forall_const, Bool.false_eq_true, Bool.true_eq_false, reduceCtorEq, eq_self, Bool.and_eq_true, Bool.or_eq_true, Bool.and_eq_false_iff, Bool.or_eq_false_iff, and_false, false_and, or_false, false_or, l0, l4, t1, t2, l1, l2, eh, q3, e1]
    · rw [if_neg (fun z => q2 z.2)]
      refine ⟨M, fun k => bb_cal (st_X6_set ?_), h, bs_ref_rf⟩
      unfold bs_set at q2
      rw [bv_iff] at q2
      by_cases l1 : v.toInt < ([1, 0, 1, 4].getD n 0 : Int32).toInt
      · simp (disch := omega) only [e_X6_set_0, e_X6_set_1, e_X6_set_4, e_X6_set_5, e_X6_set_6, e_X6_set_9, e_X6_set_12, e_X6_set_13, e_X6_set_14, e_X6_set_17, e_X6_set_18, e_X6_set_19, e_X6_set_22, e_X6_set_23, e_X6_set_26, e_X6_set_27, e_X6_set_28, e_X6_set_31, e_X6_set_34, e_X6_set_35, e_X6_set_36, e_X6_set_39, e_X6_set_42, e_X6_set_43, e_X6_set_44, e_X6_set_45, e_X6_set_46, e_X6_set_47, e_X6_set_50, e_X6_set_53, e_X6_set_54, e_X6_set_55, e_X6_set_58, e_X6_set_59, e_X6_set_62, e_X6_set_65, e_X6_set_66, e_X6_set_69, e_X6_set_72, e_X6_set_73, e_X6_set_74, e_X6_set_75, e_X6_set_76, Option.toList_some, Option.toList_none, List.cons_append, List.nil_append, true_and, and_true, and_self, bb_ite, true_or, or_true, Option.some.injEq, bb_I_eq, bb_b_0e, bb_b_1e, bb_b_e0, bb_b_e1, decide_eq_true_eq, decide_eq_false_iff_not, bn_01, bn_11, bb_b_01, ne_eq, Bool.not_eq_false, Bool.not_eq_true, Classical.not_not, bn_lt, bn_le, bn_ti, Int32.reduceToInt, bn_m20, bn_20m, nI_add, bn_p1, bn_s1, bn_in, bn_cl, implies_true, not_true_eq_false, not_false_eq_true, Bool.true_and, Bool.false_and, Bool.and_true, Bool.and_false, Bool.true_or, Bool.false_or, Bool.or_true, Bool.or_false, Bool.not_true, Bool.not_false, false_implies, true_implies, forall_const, Bool.false_eq_true, Bool.true_eq_false, reduceCtorEq, eq_self, Bool.and_eq_true, Bool.or_eq_true, Bool.and_eq_false_iff, Bool.or_eq_false_iff, and_false, false_and, or_false, false_or, l0, l4, t1, t2, l1]
      · have l2 : ¬ v.toInt ≤ ([20, 2, 20, 30].getD n 0 : Int32).toInt := by omega
        simp (disch := omega) only [e_X6_set_0, e_X6_set_1, e_X6_set_4, e_X6_set_5, e_X6_set_6, e_X6_set_9, e_X6_set_12, e_X6_set_13, e_X6_set_14, e_X6_set_17, e_X6_set_18, e_X6_set_19, e_X6_set_22, e_X6_set_23, e_X6_set_26, e_X6_set_27, e_X6_set_28, e_X6_set_31, e_X6_set_34, e_X6_set_35, e_X6_set_36, e_X6_set_39, e_X6_set_42, e_X6_set_43, e_X6_set_44, e_X6_set_45, e_X6_set_46, e_X6_set_47, e_X6_set_50, e_X6_set_53, e_X6_set_54, e_X6_set_55, e_X6_set_58, e_X6_set_59, e_X6_set_62, e_X6_set_65, e_X6_set_66, e_X6_set_69, e_X6_set_72, e_X6_set_73, e_X6_set_74, e_X6_set_75, e_X6_set_76, Option.toList_some, Option.toList_none, List.cons_append, List.nil_append, true_and, and_true, and_self, bb_ite, true_or, or_true, Option.some.injEq, bb_I_eq, bb_b_0e, bb_b_1e, bb_b_e0, bb_b_e1, decide_eq_true_eq, decide_eq_false_iff_not, bn_01, bn_11, bb_b_01, ne_eq, Bool.not_eq_false, Bool.not_eq_true, Classical.not_not, bn_lt, bn_le, bn_ti, Int32.reduceToInt, bn_m20, bn_20m, nI_add, bn_p1, bn_s1, bn_in, bn_cl, implies_true, not_true_eq_false, not_false_eq_true, Bool.true_and, Bool.false_and, Bool.and_true, Bool.and_false, Bool.true_or, Bool.false_or, Bool.or_true, Bool.or_false, Bool.not_true, Bool.not_false, false_implies, true_implies, forall_const, Bool.false_eq_true, Bool.true_eq_false, reduceCtorEq, eq_self, Bool.and_eq_true, Bool.or_eq_true, Bool.and_eq_false_iff, Bool.or_eq_false_iff, and_false, false_and, or_false, false_or, l0, l4, t1, t2, l1, l2]
  · rw [if_neg (fun z => q1 z.1)]
    refine ⟨M, fun k => bb_cal (st_X6_set ?_), h, bs_ref_rf⟩
    rw [bv_iff] at q1
    by_cases l1 : w.toInt < 0
    · simp (disch := omega) only [e_X6_set_0, e_X6_set_1, e_X6_set_4, e_X6_set_5, e_X6_set_6, e_X6_set_9, e_X6_set_12, e_X6_set_13, e_X6_set_14, e_X6_set_17, e_X6_set_18, e_X6_set_19, e_X6_set_22, e_X6_set_23, e_X6_set_26, e_X6_set_27, e_X6_set_28, e_X6_set_31, e_X6_set_34, e_X6_set_35, e_X6_set_36, e_X6_set_39, e_X6_set_42, e_X6_set_43, e_X6_set_44, e_X6_set_45, e_X6_set_46, e_X6_set_47, e_X6_set_50, e_X6_set_53, e_X6_set_54, e_X6_set_55, e_X6_set_58, e_X6_set_59, e_X6_set_62, e_X6_set_65, e_X6_set_66, e_X6_set_69, e_X6_set_72, e_X6_set_73, e_X6_set_74, e_X6_set_75, e_X6_set_76, Option.toList_some, Option.toList_none, List.cons_append, List.nil_append, true_and, and_true, and_self, bb_ite, true_or, or_true, Option.some.injEq, bb_I_eq, bb_b_0e, bb_b_1e, bb_b_e0, bb_b_e1, decide_eq_true_eq, decide_eq_false_iff_not, bn_01, bn_11, bb_b_01, ne_eq, Bool.not_eq_false, Bool.not_eq_true, Classical.not_not, bn_lt, bn_le, bn_ti, Int32.reduceToInt, bn_m20, bn_20m, nI_add, bn_p1, bn_s1, bn_in, bn_cl, implies_true, not_true_eq_false, not_false_eq_true, Bool.true_and, Bool.false_and, Bool.and_true, Bool.and_false, Bool.true_or, Bool.false_or, Bool.or_true, Bool.or_false, Bool.not_true, Bool.not_false, false_implies, true_implies, forall_const, Bool.false_eq_true, Bool.true_eq_false, reduceCtorEq, eq_self, Bool.and_eq_true, Bool.or_eq_true, Bool.and_eq_false_iff, Bool.or_eq_false_iff, and_false, false_and, or_false, false_or, l1]
    · have l2 : ¬ w.toInt < 4 := by omega
      simp (disch := omega) only [e_X6_set_0, e_X6_set_1, e_X6_set_4, e_X6_set_5, e_X6_set_6, e_X6_set_9, e_X6_set_12, e_X6_set_13, e_X6_set_14, e_X6_set_17, e_X6_set_18, e_X6_set_19, e_X6_set_22, e_X6_set_23, e_X6_set_26, e_X6_set_27, e_X6_set_28, e_X6_set_31, e_X6_set_34, e_X6_set_35, e_X6_set_36, e_X6_set_39, e_X6_set_42, e_X6_set_43, e_X6_set_44, e_X6_set_45, e_X6_set_46, e_X6_set_47, e_X6_set_50, e_X6_set_53, e_X6_set_54, e_X6_set_55, e_X6_set_58, e_X6_set_59, e_X6_set_62, e_X6_set_65, e_X6_set_66, e_X6_set_69, e_X6_set_72, e_X6_set_73, e_X6_set_74, e_X6_set_75, e_X6_set_76, Option.toList_some, Option.toList_none, List.cons_append, List.nil_append, true_and, and_true, and_self, bb_ite, true_or, or_true, Option.some.injEq, bb_I_eq, bb_b_0e, bb_b_1e, bb_b_e0, bb_b_e1, decide_eq_true_eq, decide_eq_false_iff_not, bn_01, bn_11, bb_b_01, ne_eq, Bool.not_eq_false, Bool.not_eq_true, Classical.not_not, bn_lt, bn_le, bn_ti, Int32.reduceToInt, bn_m20, bn_20m, nI_add, bn_p1, bn_s1, bn_in, bn_cl, implies_true, not_true_eq_false, not_false_eq_true, Bool.true_and, Bool.false_and, Bool.and_true, Bool.and_false, Bool.true_or, Bool.false_or, Bool.or_true, Bool.or_false, Bool.not_true, Bool.not_false, false_implies, true_implies, forall_const, Bool.false_eq_true, Bool.true_eq_false, reduceCtorEq, eq_self, Bool.and_eq_true, Bool.or_eq_true, Bool.and_eq_false_iff, Bool.or_eq_false_iff, and_false, false_and, or_false, false_or, l1, l2]
/-! A WAVE -/
def sp_put (a : Nat → Int32) (r v : Int32) : Nat → Int32 := upd (upd (upd a (86 + 2 * bs_sz a) r) (87 + 2 * bs_sz a) v) 85 (nI (bs_sz a + 1))
theorem bs_put_sz {a : Nat → Int32} {r v : Int32} (hs : bs_sz a < 24) : bs_sz (sp_put a r v) = bs_sz a + 1 := by
  show (upd (upd (upd a (86 + 2 * bs_sz a) r) (87 + 2 * bs_sz a) v) 85 (nI (bs_sz a + 1)) 85).toInt.toNat = _
  rw [bf_upd, if_pos rfl, bn_ti (by omega)]
  rfl
theorem bs_put_hi {a : Nat → Int32} {r v : Int32} {j : Nat} (h1 : j ≠ 85) (h2 : j ≠ 86 + 2 * bs_sz a) (h3 : j ≠ 87 + 2 * bs_sz a) : sp_put a r v j = a j := by
  unfold sp_put
  rw [bw_upd_c h1, bw_upd_c h3, bw_upd_c h2]
theorem bs_put_r {a : Nat → Int32} {r v : Int32} : sp_put a r v (86 + 2 * bs_sz a) = r := by
  unfold sp_put
  rw [bw_upd_c (by omega), bw_upd_c (by omega), bf_upd, if_pos rfl]
theorem bs_put_v {a : Nat → Int32} {r v : Int32} : sp_put a r v (87 + 2 * bs_sz a) = v := by
  unfold sp_put
  rw [bw_upd_c (by omega), bf_upd, if_pos rfl]
theorem bs_put_tl {a : Nat → Int32} {r v : Int32} (hs : bs_sz a < 24) : bs_tl (sp_put a r v) = bs_tl a := by
  unfold bs_tl
  rw [bs_put_hi (by omega) (by omega) (by omega)]
theorem bs_rep_put {M : bb_M} {a : Nat → Int32} {r v : Int32} (h : bs_rep M 0 a) (hs : bs_sz a < 24) : bs_rep (bb_ad M 0 (bs_sz a) r v) 0 (sp_put a r v) := by
  obtain ⟨h1, h2, h3, h4, h5, h6, h7, h8⟩ := h
  have ot : ∀ k j, k ≠ 12 → k ≠ 13 → k ≠ 1 → bb_ad M 0 (bs_sz a) r v k 0 j = M k 0 j := fun k j z1 z2 z3 => by
    unfold bb_ad
    rw [bb_up_k z3, bb_up_k z2, bb_up_k z1]
  refine ⟨fun j hj => ?_, ?_, fun j hj => ?_, ?_, ?_, fun j hj => ?_, ?_, ?_⟩
  · rw [ot _ _ (by decide) (by decide) (by decide), bs_put_hi (by omega) (by omega) (by omega)]; exact h1 j hj
  · rw [ot _ _ (by decide) (by decide) (by decide), bs_put_hi (by omega) (by omega) (by omega)]; exact h2
  · rw [ot _ _ (by decide) (by decide) (by decide), bs_put_hi (by omega) (by omega) (by omega)]; exact h3 j hj
  · unfold bb_ad sp_put
    rw [bb_up_at, bf_upd, if_pos rfl]
  · rw [bs_put_sz hs]
    intro j hj
    by_cases z : j = bs_sz a
    · subst z
      rw [bs_put_r, bs_put_v]
      unfold bb_ad
      exact ⟨by rw [bb_up_k (by decide), bb_up_k (by decide), bb_up_at], by rw [bb_up_k (by decide), bb_up_at]⟩
    · rw [bs_put_hi (by omega) (by omega) (by omega), bs_put_hi (by omega) (by omega) (by omega)]
      unfold bb_ad
      rw [bb_up_k (by decide), bb_up_k (by decide), bb_up_j z, bb_up_k (by decide), bb_up_j z, bb_up_k (by decide)]
      exact h5 j (by omega)
  · rw [ot _ _ (by decide) (by decide) (by decide), bs_put_hi (by omega) (by omega) (by omega)]; exact h6 j hj
  · rw [ot _ _ (by decide) (by decide) (by decide), bs_put_hi (by omega) (by omega) (by omega)]; exact h7
  · rw [bs_put_tl hs]
    intro j hj
    rw [ot _ _ (by decide) (by decide) (by decide), bs_put_hi (by omega) (by omega) (by omega)]; exact h8 j hj
theorem bs_inv_put {a : Nat → Int32} {r v : Nat} (h : bs_inv a) (hs : bs_sz a < 24) (hr : r < 4) (hv : 1 ≤ v ∧ v ≤ 20) : bs_inv (sp_put a (nI r) (nI v)) := by
  obtain ⟨h1, h2, h3, h4, h5, h6, h7, h8, h9⟩ := h
  have e : ∀ j, j < 85 ∨ 133 < j → sp_put a (nI r) (nI v) j = a j := fun j hj => bs_put_hi (by omega) (by omega) (by omega)
  refine ⟨fun j hj => ?_, ?_, ?_, ?_, ?_, ?_, ?_, ?_, ?_⟩
  · rw [e j (by omega)]; exact h1 j hj
  · rw [e _ (by omega)]; exact h2
  · rw [e _ (by omega)]; exact h3
  · rw [e _ (by omega)]; exact h4
  · rw [e _ (by omega)]; exact h5
  · rw [e _ (by omega)]; exact h6
  · rw [bs_put_sz hs]
    exact ⟨by omega, by unfold sp_put; rw [bf_upd, if_pos rfl]⟩
  · rw [bs_put_sz hs]
    intro j hj
    by_cases z : j = bs_sz a
    · subst z
      exact ⟨r, v, hr, hv.1, hv.2, bs_put_r, bs_put_v⟩
    · rw [bs_put_hi (by omega) (by omega) (by omega), bs_put_hi (by omega) (by omega) (by omega)]
      exact h8 j (by omega)
  · rw [bs_put_tl hs, e _ (by omega)]; exact h9
theorem bc_fr_ad {M : bb_M} {s : Nat} {r v : Int32} : bc_fr M (bb_ad M 0 s r v) := bc_fr_tr (bc_fr_tr (bc_fr_up (by omega)) (bc_fr_up (by omega))) (bc_fr_up (by omega))
def sp_wave (S : bs_S) (r v : Int32) : Int32 × bs_S := if bv r 0 3 = true then (if bv v 1 20 = true then (if bs_sz S.a = 24 then (-1003, S) else (nI (bs_sz S.a + 1), bs_act S (sp_put S.a r v))) else (-1002, S)) else (-1001, S)
theorem c_wave {d : Nat} {M : bb_M} {S : bs_S} {r v : Int32} (h : bs_CI M S) : bs_api d 5 [bb_R 6 0, bb_I r, bb_I v] M (sp_wave S r v) := by
  unfold sp_wave
  have hsz := h.2.1.2.2.2.2.2.2.1
  have e85 : M 1 0 2 = nI (bs_sz S.a) := by rw [h.1.2.2.2.1]; exact hsz.2
  by_cases q1 : bv r 0 3 = true
  · rw [if_pos q1]
    by_cases q2 : bv v 1 20 = true
    · rw [if_pos q2]
      by_cases q3 : bs_sz S.a = 24
      · rw [if_pos q3]
        refine ⟨M, fun k => bb_cal (st_X6_wave ?_), h, bs_ref_rf⟩
        have l : ¬ (24 : Int) < 24 := by decide
        simp (disch := omega) only [e_X6_wave_0, e_X6_wave_1, e_X6_wave_4, e_X6_wave_7, e_X6_wave_10, e_X6_wave_11, e_X6_wave_12, e_X6_wave_15, e_X6_wave_18, e_X6_wave_21, e_X6_wave_22, e_X6_wave_23, e_X6_wave_26, e_X6_wave_29, e_X6_wave_32, e_X6_wave_34, e_X6_wave_37, e_X6_wave_40, e_X6_wave_41, e_X6_wave_42, e_X6_wave_45, e_X6_wave_46, e_X6_wave_49, e_X6_wave_52, e_X6_wave_53, e_X6_wave_56, e_X6_wave_59, e_X6_wave_60, e_X6_wave_61, e_X6_wave_64, e_X6_wave_65, e_X6_wave_68, e_X6_wave_71, e_X6_wave_74, Option.toList_some, Option.toList_none, List.cons_append, List.nil_append, true_and, and_true, and_self, bb_ite, true_or, or_true, Option.some.injEq, bb_I_eq, bb_b_0e, bb_b_1e, bb_b_e0, bb_b_e1, decide_eq_true_eq, decide_eq_false_iff_not, bn_01, bn_11, bb_b_01, ne_eq, Bool.not_eq_false, Bool.not_eq_true, Classical.not_not, bn_lt, bn_le, bn_ti, Int32.reduceToInt, bn_m20, bn_20m, nI_add, bn_p1, bn_s1, bn_in, bn_cl, implies_true, not_true_eq_false, not_false_eq_true, Bool.true_and, Bool.false_and, Bool.and_true, Bool.and_false, Bool.true_or, Bool.false_or, Bool.or_true, Bool.or_false, Bool.not_true, Bool.not_false, false_implies, true_implies, forall_const, Bool.false_eq_true, Bool.true_eq_false, reduceCtorEq, eq_self, Bool.and_eq_true, Bool.or_eq_true, Bool.and_eq_false_iff, Bool.or_eq_false_iff, and_false, false_and, or_false, false_or, x_X6_isRow, x_X6_isWaveHeight, q1, q2, x_X1_size, e85, q3, Int.cast_ofNat_Int, l]
      · rw [if_neg q3]
        have br := bv_iff.mp q1
        have b2 := bv_iff.mp q2
        have er := bv_nI br.1
        have ev := bv_nI (x := v) (by omega)
        obtain ⟨M1, e1, r1, f1, g1, g2, fin⟩ := bs_rec (d := d + 4) h
        obtain ⟨c1, c2⟩ := fin _ _ (bc_fr_ad (s := bs_sz S.a) (r := r) (v := v)) (bs_rep_put r1 (by omega)) (by rw [er, ev]; exact bs_inv_put h.2.1 (by omega) (by unfold bv_N; omega) (by unfold bv_N; omega))
        have e86 : M1 1 0 2 = nI (bs_sz S.a) := by rw [g1 _ _ (by decide), e85]
        have ea := fun k => x_X1_add (d := d + 6) (r := r) (h := v) (k := k) e86 (by omega)
        have e87 : bb_ad M1 0 (bs_sz S.a) r v 1 0 2 = nI (bs_sz S.a + 1) := bb_up_at
        have l : (bs_sz S.a : Int) < 24 := by omega
        refine ⟨_, fun k => bb_cal (st_X6_wave ?_), c1, c2⟩
        simp (disch := omega) only [e_X6_wave_0, e_X6_wave_1, e_X6_wave_4, e_X6_wave_7, e_X6_wave_10, e_X6_wave_11, e_X6_wave_12, e_X6_wave_15, e_X6_wave_18, e_X6_wave_21, e_X6_wave_22, e_X6_wave_23, e_X6_wave_26, e_X6_wave_29, e_X6_wave_32, e_X6_wave_34, e_X6_wave_37, e_X6_wave_40, e_X6_wave_41, e_X6_wave_42, e_X6_wave_45, e_X6_wave_46, e_X6_wave_49, e_X6_wave_52, e_X6_wave_53, e_X6_wave_56, e_X6_wave_59, e_X6_wave_60, e_X6_wave_61, e_X6_wave_64, e_X6_wave_65, e_X6_wave_68, e_X6_wave_71, e_X6_wave_74, Option.toList_some, Option.toList_none, List.cons_append, List.nil_append, true_and, and_true, and_self, bb_ite, true_or, or_true, Option.some.injEq, bb_I_eq, bb_b_0e, bb_b_1e, bb_b_e0, bb_b_e1, decide_eq_true_eq, decide_eq_false_iff_not, bn_01, bn_11, bb_b_01, ne_eq, Bool.not_eq_false, Bool.not_eq_true, Classical.not_not, bn_lt, bn_le, bn_ti, Int32.reduceToInt, bn_m20, bn_20m, nI_add, bn_p1, bn_s1, bn_in, bn_cl, implies_true, not_true_eq_false, not_false_eq_true, Bool.true_and, Bool.false_and, Bool.and_true, Bool.and_false, Bool.true_or, Bool.false_or, Bool.or_true, Bool.or_false, Bool.not_true, Bool.not_false, false_implies, true_implies, forall_const, Bool.false_eq_true, Bool.true_eq_false, reduceCtorEq, eq_self, Bool.and_eq_true, Bool.or_eq_true, Bool.and_eq_false_iff, Bool.or_eq_false_iff, and_false, false_and, or_false, false_or, x_X6_isRow, x_X6_isWaveHeight, q1, q2, x_X1_size, e85, l, e1, ea, e87]
    · rw [if_neg q2]
      refine ⟨M, fun k => bb_cal (st_X6_wave ?_), h, bs_ref_rf⟩
      simp (disch := omega) only [e_X6_wave_0, e_X6_wave_1, e_X6_wave_4, e_X6_wave_7, e_X6_wave_10, e_X6_wave_11, e_X6_wave_12, e_X6_wave_15, e_X6_wave_18, e_X6_wave_21, e_X6_wave_22, e_X6_wave_23, e_X6_wave_26, e_X6_wave_29, e_X6_wave_32, e_X6_wave_34, e_X6_wave_37, e_X6_wave_40, e_X6_wave_41, e_X6_wave_42, e_X6_wave_45, e_X6_wave_46, e_X6_wave_49, e_X6_wave_52, e_X6_wave_53, e_X6_wave_56, e_X6_wave_59, e_X6_wave_60, e_X6_wave_61, e_X6_wave_64, e_X6_wave_65, e_X6_wave_68, e_X6_wave_71, e_X6_wave_74, Option.toList_some, Option.toList_none, List.cons_append, List.nil_append, true_and, and_true, and_self, bb_ite, true_or, or_true, Option.some.injEq, bb_I_eq, bb_b_0e, bb_b_1e, bb_b_e0, bb_b_e1, decide_eq_true_eq, decide_eq_false_iff_not, bn_01, bn_11, bb_b_01, ne_eq, Bool.not_eq_false, Bool.not_eq_true, Classical.not_not, bn_lt, bn_le, bn_ti, Int32.reduceToInt, bn_m20, bn_20m, nI_add, bn_p1, bn_s1, bn_in, bn_cl, implies_true, not_true_eq_false, not_false_eq_true, Bool.true_and, Bool.false_and, Bool.and_true, Bool.and_false, Bool.true_or, Bool.false_or, Bool.or_true, Bool.or_false, Bool.not_true, Bool.not_false, false_implies, true_implies, forall_const, Bool.false_eq_true, Bool.true_eq_false, reduceCtorEq, eq_self, Bool.and_eq_true, Bool.or_eq_true, Bool.and_eq_false_iff, Bool.or_eq_false_iff, and_false, false_and, or_false, false_or, x_X6_isRow, x_X6_isWaveHeight, q1, q2]
  · rw [if_neg q1]
    refine ⟨M, fun k => bb_cal (st_X6_wave ?_), h, bs_ref_rf⟩
    simp (disch := omega) only [e_X6_wave_0, e_X6_wave_1, e_X6_wave_4, e_X6_wave_7, e_X6_wave_10, e_X6_wave_11, e_X6_wave_12, e_X6_wave_15, e_X6_wave_18, e_X6_wave_21, e_X6_wave_22, e_X6_wave_23, e_X6_wave_26, e_X6_wave_29, e_X6_wave_32, e_X6_wave_34, e_X6_wave_37, e_X6_wave_40, e_X6_wave_41, e_X6_wave_42, e_X6_wave_45, e_X6_wave_46, e_X6_wave_49, e_X6_wave_52, e_X6_wave_53, e_X6_wave_56, e_X6_wave_59, e_X6_wave_60, e_X6_wave_61, e_X6_wave_64, e_X6_wave_65, e_X6_wave_68, e_X6_wave_71, e_X6_wave_74, Option.toList_some, Option.toList_none, List.cons_append, List.nil_append, true_and, and_true, and_self, bb_ite, true_or, or_true, Option.some.injEq, bb_I_eq, bb_b_0e, bb_b_1e, bb_b_e0, bb_b_e1, decide_eq_true_eq, decide_eq_false_iff_not, bn_01, bn_11, bb_b_01, ne_eq, Bool.not_eq_false, Bool.not_eq_true, Classical.not_not, bn_lt, bn_le, bn_ti, Int32.reduceToInt, bn_m20, bn_20m, nI_add, bn_p1, bn_s1, bn_in, bn_cl, implies_true, not_true_eq_false, not_false_eq_true, Bool.true_and, Bool.false_and, Bool.and_true, Bool.and_false, Bool.true_or, Bool.false_or, Bool.or_true, Bool.or_false, Bool.not_true, Bool.not_false, false_implies, true_implies, forall_const, Bool.false_eq_true, Bool.true_eq_false, reduceCtorEq, eq_self, Bool.and_eq_true, Bool.or_eq_true, Bool.and_eq_false_iff, Bool.or_eq_false_iff, and_false, false_and, or_false, false_or, x_X6_isRow, q1]
