/-! THE REFERENCE'S CALLS: level, settings, waves, text, history -/
theorem x_X7_sets {d p : Nat} {x v : Int32} {M : bb_M} {S : bs_S} (h : bm_MI M S) (ha : M 21 0 = S.a) (hx : x = nI p) (hp : p < 311) : ∃ M', (∀ k : Option bb_V → bb_M → Prop, bb_call (bb_CL (d + 2)) 49 [bb_R 7 0, bb_I x, bb_I v] M k ↔ k (some (bb_I (sp_sets S p v).1)) M') ∧ bm_MI M' (sp_sets S p v).2 ∧ bm_cls M M' := by
  subst hx
  unfold sp_sets
  have eh : M 21 0 p = S.a p := by rw [ha]
  by_cases q3 : S.a p = v
  · rw [if_pos q3]
    refine ⟨M, fun k => bb_cal (st_X7_sets ?_), h, bm_cls_rf M⟩
    simp (disch := omega) only [e_X7_sets_0, e_X7_sets_1, e_X7_sets_4, e_X7_sets_5, e_X7_sets_6, e_X7_sets_7, e_X7_sets_8, e_X7_sets_9, e_X7_sets_12, e_X7_sets_15, e_X7_sets_16, e_X7_sets_17, e_X7_sets_20, e_X7_sets_21, e_X7_sets_24, e_X7_sets_25, e_X7_sets_26, e_X7_sets_27, e_X7_sets_28, e_X7_sets_29, e_X7_sets_32, Option.toList_some, Option.toList_none, List.cons_append, List.nil_append, true_and, and_true, and_self, bb_ite, true_or, or_true, Option.some.injEq, bb_I_eq, bb_b_0e, bb_b_1e, bb_b_e0, bb_b_e1, decide_eq_true_eq, decide_eq_false_iff_not, bn_01, bn_11, bb_b_01, ne_eq, Bool.not_eq_false, Bool.not_eq_true, Classical.not_not, bn_in, bn_cl, eh, q3, bm_10, if_true, if_false, implies_true, not_true_eq_false, not_false_eq_true, Bool.true_and, Bool.false_and, Bool.and_true, Bool.and_false, Bool.true_or, Bool.false_or, Bool.or_true, Bool.or_false, Bool.not_true, Bool.not_false, false_implies, true_implies, forall_const, Bool.false_eq_true, Bool.true_eq_false, reduceCtorEq, eq_self, and_false, false_and, or_false, false_or]
    try trivial
  · rw [if_neg q3]
    obtain ⟨M1, e1, es, k1, f1, g1, fin⟩ := bm_rem (d := d) h ha
    obtain ⟨M', x1, x2, x3⟩ := fin (bm_a M1 (upd S.a p v)) (upd S.a p v) (S.a p) (bm_wf_tr f1 bm_wf_a) (fun j hj => bm_a_k (by decide)) (fun j hj => bm_a_v)
    refine ⟨M', fun k => bb_cal (st_X7_sets ?_), x2, x3⟩
    simp (disch := omega) only [e_X7_sets_0, e_X7_sets_1, e_X7_sets_4, e_X7_sets_5, e_X7_sets_6, e_X7_sets_7, e_X7_sets_8, e_X7_sets_9, e_X7_sets_12, e_X7_sets_15, e_X7_sets_16, e_X7_sets_17, e_X7_sets_20, e_X7_sets_21, e_X7_sets_24, e_X7_sets_25, e_X7_sets_26, e_X7_sets_27, e_X7_sets_28, e_X7_sets_29, e_X7_sets_32, Option.toList_some, Option.toList_none, List.cons_append, List.nil_append, true_and, and_true, and_self, bb_ite, true_or, or_true, Option.some.injEq, bb_I_eq, bb_b_0e, bb_b_1e, bb_b_e0, bb_b_e1, decide_eq_true_eq, decide_eq_false_iff_not, bn_01, bn_11, bb_b_01, ne_eq, Bool.not_eq_false, Bool.not_eq_true, Classical.not_not, bn_in, bn_cl, eh, q3, e1, bm_a_up, x1, bm_10, if_true, if_false, implies_true, not_true_eq_false, not_false_eq_true, Bool.true_and, Bool.false_and, Bool.and_true, Bool.and_false, Bool.true_or, Bool.false_or, Bool.or_true, Bool.or_false, Bool.not_true, Bool.not_false, false_implies, true_implies, forall_const, Bool.false_eq_true, Bool.true_eq_false, reduceCtorEq, eq_self, and_false, false_and, or_false, false_or]
    try trivial
theorem r_setLevel {d : Nat} {M : bb_M} {S : bs_S} {v : Int32} (h : bm_MI M S) (ha : M 21 0 = S.a) : bm_api d 50 [bb_R 7 0, bb_I v] M (sp_setLevel S v) := by
  unfold sp_setLevel
  have i20 : (20 : Int64).toInt = 20 := rfl
  have i70 : (70 : Int64).toInt = 70 := rfl
  by_cases q : bv v 20 70 = true
  · rw [if_pos q]
    obtain ⟨M', x1, x2, x3⟩ := x_X7_sets (d := d + 6) (p := 80) (x := 80) (v := v) h ha rfl (by decide)
    refine ⟨M', fun k => bb_cal (st_X7_setLevel ?_), x2, x3⟩
    simp (disch := omega) only [e_X7_setLevel_0, e_X7_setLevel_1, e_X7_setLevel_2, e_X7_setLevel_5, e_X7_setLevel_8, e_X7_setLevel_11, e_X7_setLevel_14, e_X7_setLevel_15, e_X7_setLevel_17, e_X7_setLevel_18, e_X7_setLevel_21, e_X7_setLevel_24, e_X7_setLevel_27, Option.toList_some, Option.toList_none, List.cons_append, List.nil_append, true_and, and_true, and_self, bb_ite, true_or, or_true, Option.some.injEq, bb_I_eq, bb_b_0e, bb_b_1e, bb_b_e0, bb_b_e1, decide_eq_true_eq, decide_eq_false_iff_not, bn_01, bn_11, bb_b_01, ne_eq, Bool.not_eq_false, Bool.not_eq_true, Classical.not_not, x_in, i20, i70, q, x1, bm_10, if_true, if_false, implies_true, not_true_eq_false, not_false_eq_true, Bool.true_and, Bool.false_and, Bool.and_true, Bool.and_false, Bool.true_or, Bool.false_or, Bool.or_true, Bool.or_false, Bool.not_true, Bool.not_false, false_implies, true_implies, forall_const, Bool.false_eq_true, Bool.true_eq_false, reduceCtorEq, eq_self, and_false, false_and, or_false, false_or]
    try trivial
  · rw [if_neg q]
    rw [Bool.not_eq_true] at q
    refine bm_no h (fun k => bb_cal (st_X7_setLevel ?_))
    simp (disch := omega) only [e_X7_setLevel_0, e_X7_setLevel_1, e_X7_setLevel_2, e_X7_setLevel_5, e_X7_setLevel_8, e_X7_setLevel_11, e_X7_setLevel_14, e_X7_setLevel_15, e_X7_setLevel_17, e_X7_setLevel_18, e_X7_setLevel_21, e_X7_setLevel_24, e_X7_setLevel_27, Option.toList_some, Option.toList_none, List.cons_append, List.nil_append, true_and, and_true, and_self, bb_ite, true_or, or_true, Option.some.injEq, bb_I_eq, bb_b_0e, bb_b_1e, bb_b_e0, bb_b_e1, decide_eq_true_eq, decide_eq_false_iff_not, bn_01, bn_11, bb_b_01, ne_eq, Bool.not_eq_false, Bool.not_eq_true, Classical.not_not, x_in, i20, i70, q, bm_10, if_true, if_false, implies_true, not_true_eq_false, not_false_eq_true, Bool.true_and, Bool.false_and, Bool.and_true, Bool.and_false, Bool.true_or, Bool.false_or, Bool.or_true, Bool.or_false, Bool.not_true, Bool.not_false, false_implies, true_implies, forall_const, Bool.false_eq_true, Bool.true_eq_false, reduceCtorEq, eq_self, and_false, false_and, or_false, false_or]
    try trivial
theorem x_X7_isSetting {d : Nat} {w v : Int32} {M : bb_M} {k : Option bb_V → bb_M → Prop} : bb_call (bb_CL (d + 2)) 51 [bb_I w, bb_I v] M k ↔ k (some (bb_I (bb_b (bv w 0 3 && bs_set (bv_N w) v)))) M := by
  refine bb_cal (st_X7_isSetting ?_)
  have i0 : (0 : Int64).toInt = 0 := rfl
  have i1 : (1 : Int64).toInt = 1 := rfl
  have i2 : (2 : Int64).toInt = 2 := rfl
  have i4 : (4 : Int64).toInt = 4 := rfl
  have i20 : (20 : Int64).toInt = 20 := rfl
  have i30 : (30 : Int64).toInt = 30 := rfl
  by_cases w0 : w = 0
  · have e : (bv w 0 3 && bs_set (bv_N w) v) = bv v 1 20 := by rw [w0]; rfl
    rw [e]
    cases z : bv v 1 20
    · simp only [e_X7_isSetting_0, e_X7_isSetting_1, e_X7_isSetting_28, e_X7_isSetting_29, e_X7_isSetting_30, e_X7_isSetting_31, e_X7_isSetting_34, e_X7_isSetting_37, e_X7_isSetting_38, e_X7_isSetting_39, e_X7_isSetting_40, e_X7_isSetting_41, e_X7_isSetting_44, e_X7_isSetting_47, e_X7_isSetting_48, e_X7_isSetting_49, e_X7_isSetting_50, e_X7_isSetting_53, e_X7_isSetting_54, e_X7_isSetting_55, e_X7_isSetting_58, e_X7_isSetting_61, e_X7_isSetting_64, e_X7_isSetting_67, e_X7_isSetting_68, e_X7_isSetting_71, e_X7_isSetting_72, Option.toList_some, Option.toList_none, List.cons_append, List.nil_append, true_and, and_true, and_self, bb_ite, true_or, or_true, Option.some.injEq, bb_I_eq, bb_b_0e, bb_b_1e, bb_b_e0, bb_b_e1, decide_eq_true_eq, decide_eq_false_iff_not, bn_01, bn_11, bb_b_01, ne_eq, Bool.not_eq_false, Bool.not_eq_true, Classical.not_not, x_in, i1, i20, z, eq_true w0, bm_10, if_true, if_false, implies_true, not_true_eq_false, not_false_eq_true, Bool.true_and, Bool.false_and, Bool.and_true, Bool.and_false, Bool.true_or, Bool.false_or, Bool.or_true, Bool.or_false, Bool.not_true, Bool.not_false, false_implies, true_implies, forall_const, Bool.false_eq_true, Bool.true_eq_false, reduceCtorEq, eq_self, and_false, false_and, or_false, false_or]
      try trivial
    · simp only [e_X7_isSetting_0, e_X7_isSetting_1, e_X7_isSetting_28, e_X7_isSetting_29, e_X7_isSetting_30, e_X7_isSetting_31, e_X7_isSetting_34, e_X7_isSetting_37, e_X7_isSetting_38, e_X7_isSetting_39, e_X7_isSetting_40, e_X7_isSetting_41, e_X7_isSetting_44, e_X7_isSetting_47, e_X7_isSetting_48, e_X7_isSetting_49, e_X7_isSetting_50, e_X7_isSetting_53, e_X7_isSetting_54, e_X7_isSetting_55, e_X7_isSetting_58, e_X7_isSetting_61, e_X7_isSetting_64, e_X7_isSetting_67, e_X7_isSetting_68, e_X7_isSetting_71, e_X7_isSetting_72, Option.toList_some, Option.toList_none, List.cons_append, List.nil_append, true_and, and_true, and_self, bb_ite, true_or, or_true, Option.some.injEq, bb_I_eq, bb_b_0e, bb_b_1e, bb_b_e0, bb_b_e1, decide_eq_true_eq, decide_eq_false_iff_not, bn_01, bn_11, bb_b_01, ne_eq, Bool.not_eq_false, Bool.not_eq_true, Classical.not_not, x_in, i1, i20, z, eq_true w0, bm_10, if_true, if_false, implies_true, not_true_eq_false, not_false_eq_true, Bool.true_and, Bool.false_and, Bool.and_true, Bool.and_false, Bool.true_or, Bool.false_or, Bool.or_true, Bool.or_false, Bool.not_true, Bool.not_false, false_implies, true_implies, forall_const, Bool.false_eq_true, Bool.true_eq_false, reduceCtorEq, eq_self, and_false, false_and, or_false, false_or]
      try trivial
  by_cases w1 : w = 1
  · have e : (bv w 0 3 && bs_set (bv_N w) v) = bv v 0 2 := by rw [w1]; rfl
    rw [e]
    cases z : bv v 0 2
    · simp only [e_X7_isSetting_0, e_X7_isSetting_1, e_X7_isSetting_28, e_X7_isSetting_29, e_X7_isSetting_30, e_X7_isSetting_31, e_X7_isSetting_34, e_X7_isSetting_37, e_X7_isSetting_38, e_X7_isSetting_39, e_X7_isSetting_40, e_X7_isSetting_41, e_X7_isSetting_44, e_X7_isSetting_47, e_X7_isSetting_48, e_X7_isSetting_49, e_X7_isSetting_50, e_X7_isSetting_53, e_X7_isSetting_54, e_X7_isSetting_55, e_X7_isSetting_58, e_X7_isSetting_61, e_X7_isSetting_64, e_X7_isSetting_67, e_X7_isSetting_68, e_X7_isSetting_71, e_X7_isSetting_72, Option.toList_some, Option.toList_none, List.cons_append, List.nil_append, true_and, and_true, and_self, bb_ite, true_or, or_true, Option.some.injEq, bb_I_eq, bb_b_0e, bb_b_1e, bb_b_e0, bb_b_e1, decide_eq_true_eq, decide_eq_false_iff_not, bn_01, bn_11, bb_b_01, ne_eq, Bool.not_eq_false, Bool.not_eq_true, Classical.not_not, x_in, i0, i2, z, eq_false w0, eq_true w1, bm_10, if_true, if_false, implies_true, not_true_eq_false, not_false_eq_true, Bool.true_and, Bool.false_and, Bool.and_true, Bool.and_false, Bool.true_or, Bool.false_or, Bool.or_true, Bool.or_false, Bool.not_true, Bool.not_false, false_implies, true_implies, forall_const, Bool.false_eq_true, Bool.true_eq_false, reduceCtorEq, eq_self, and_false, false_and, or_false, false_or]
      try trivial
    · simp only [e_X7_isSetting_0, e_X7_isSetting_1, e_X7_isSetting_28, e_X7_isSetting_29, e_X7_isSetting_30, e_X7_isSetting_31, e_X7_isSetting_34, e_X7_isSetting_37, e_X7_isSetting_38, e_X7_isSetting_39, e_X7_isSetting_40, e_X7_isSetting_41, e_X7_isSetting_44, e_X7_isSetting_47, e_X7_isSetting_48, e_X7_isSetting_49, e_X7_isSetting_50, e_X7_isSetting_53, e_X7_isSetting_54, e_X7_isSetting_55, e_X7_isSetting_58, e_X7_isSetting_61, e_X7_isSetting_64, e_X7_isSetting_67, e_X7_isSetting_68, e_X7_isSetting_71, e_X7_isSetting_72, Option.toList_some, Option.toList_none, List.cons_append, List.nil_append, true_and, and_true, and_self, bb_ite, true_or, or_true, Option.some.injEq, bb_I_eq, bb_b_0e, bb_b_1e, bb_b_e0, bb_b_e1, decide_eq_true_eq, decide_eq_false_iff_not, bn_01, bn_11, bb_b_01, ne_eq, Bool.not_eq_false, Bool.not_eq_true, Classical.not_not, x_in, i0, i2, z, eq_false w0, eq_true w1, bm_10, if_true, if_false, implies_true, not_true_eq_false, not_false_eq_true, Bool.true_and, Bool.false_and, Bool.and_true, Bool.and_false, Bool.true_or, Bool.false_or, Bool.or_true, Bool.or_false, Bool.not_true, Bool.not_false, false_implies, true_implies, forall_const, Bool.false_eq_true, Bool.true_eq_false, reduceCtorEq, eq_self, and_false, false_and, or_false, false_or]
      try trivial
  by_cases w2 : w = 2
  · have e : (bv w 0 3 && bs_set (bv_N w) v) = bv v 1 20 := by rw [w2]; rfl
    rw [e]
    cases z : bv v 1 20
    · simp only [e_X7_isSetting_0, e_X7_isSetting_1, e_X7_isSetting_28, e_X7_isSetting_29, e_X7_isSetting_30, e_X7_isSetting_31, e_X7_isSetting_34, e_X7_isSetting_37, e_X7_isSetting_38, e_X7_isSetting_39, e_X7_isSetting_40, e_X7_isSetting_41, e_X7_isSetting_44, e_X7_isSetting_47, e_X7_isSetting_48, e_X7_isSetting_49, e_X7_isSetting_50, e_X7_isSetting_53, e_X7_isSetting_54, e_X7_isSetting_55, e_X7_isSetting_58, e_X7_isSetting_61, e_X7_isSetting_64, e_X7_isSetting_67, e_X7_isSetting_68, e_X7_isSetting_71, e_X7_isSetting_72, Option.toList_some, Option.toList_none, List.cons_append, List.nil_append, true_and, and_true, and_self, bb_ite, true_or, or_true, Option.some.injEq, bb_I_eq, bb_b_0e, bb_b_1e, bb_b_e0, bb_b_e1, decide_eq_true_eq, decide_eq_false_iff_not, bn_01, bn_11, bb_b_01, ne_eq, Bool.not_eq_false, Bool.not_eq_true, Classical.not_not, x_in, i1, i20, z, eq_false w0, eq_false w1, eq_true w2, bm_10, if_true, if_false, implies_true, not_true_eq_false, not_false_eq_true, Bool.true_and, Bool.false_and, Bool.and_true, Bool.and_false, Bool.true_or, Bool.false_or, Bool.or_true, Bool.or_false, Bool.not_true, Bool.not_false, false_implies, true_implies, forall_const, Bool.false_eq_true, Bool.true_eq_false, reduceCtorEq, eq_self, and_false, false_and, or_false, false_or]
      try trivial
    · simp only [e_X7_isSetting_0, e_X7_isSetting_1, e_X7_isSetting_28, e_X7_isSetting_29, e_X7_isSetting_30, e_X7_isSetting_31, e_X7_isSetting_34, e_X7_isSetting_37, e_X7_isSetting_38, e_X7_isSetting_39, e_X7_isSetting_40, e_X7_isSetting_41, e_X7_isSetting_44, e_X7_isSetting_47, e_X7_isSetting_48, e_X7_isSetting_49, e_X7_isSetting_50, e_X7_isSetting_53, e_X7_isSetting_54, e_X7_isSetting_55, e_X7_isSetting_58, e_X7_isSetting_61, e_X7_isSetting_64, e_X7_isSetting_67, e_X7_isSetting_68, e_X7_isSetting_71, e_X7_isSetting_72, Option.toList_some, Option.toList_none, List.cons_append, List.nil_append, true_and, and_true, and_self, bb_ite, true_or, or_true, Option.some.injEq, bb_I_eq, bb_b_0e, bb_b_1e, bb_b_e0, bb_b_e1, decide_eq_true_eq, decide_eq_false_iff_not, bn_01, bn_11, bb_b_01, ne_eq, Bool.not_eq_false, Bool.not_eq_true, Classical.not_not, x_in, i1, i20, z, eq_false w0, eq_false w1, eq_true w2, bm_10, if_true, if_false, implies_true, not_true_eq_false, not_false_eq_true, Bool.true_and, Bool.false_and, Bool.and_true, Bool.and_false, Bool.true_or, Bool.false_or, Bool.or_true, Bool.or_false, Bool.not_true, Bool.not_false, false_implies, true_implies, forall_const, Bool.false_eq_true, Bool.true_eq_false, reduceCtorEq, eq_self, and_false, false_and, or_false, false_or]
      try trivial
  by_cases w3 : w = 3
  · have e : (bv w 0 3 && bs_set (bv_N w) v) = bv v 4 30 := by rw [w3]; rfl
    rw [e]
    cases z : bv v 4 30
    · simp only [e_X7_isSetting_0, e_X7_isSetting_1, e_X7_isSetting_28, e_X7_isSetting_29, e_X7_isSetting_30, e_X7_isSetting_31, e_X7_isSetting_34, e_X7_isSetting_37, e_X7_isSetting_38, e_X7_isSetting_39, e_X7_isSetting_40, e_X7_isSetting_41, e_X7_isSetting_44, e_X7_isSetting_47, e_X7_isSetting_48, e_X7_isSetting_49, e_X7_isSetting_50, e_X7_isSetting_53, e_X7_isSetting_54, e_X7_isSetting_55, e_X7_isSetting_58, e_X7_isSetting_61, e_X7_isSetting_64, e_X7_isSetting_67, e_X7_isSetting_68, e_X7_isSetting_71, e_X7_isSetting_72, Option.toList_some, Option.toList_none, List.cons_append, List.nil_append, true_and, and_true, and_self, bb_ite, true_or, or_true, Option.some.injEq, bb_I_eq, bb_b_0e, bb_b_1e, bb_b_e0, bb_b_e1, decide_eq_true_eq, decide_eq_false_iff_not, bn_01, bn_11, bb_b_01, ne_eq, Bool.not_eq_false, Bool.not_eq_true, Classical.not_not, x_in, i4, i30, z, eq_false w0, eq_false w1, eq_false w2, eq_true w3, bm_10, if_true, if_false, implies_true, not_true_eq_false, not_false_eq_true, Bool.true_and, Bool.false_and, Bool.and_true, Bool.and_false, Bool.true_or, Bool.false_or, Bool.or_true, Bool.or_false, Bool.not_true, Bool.not_false, false_implies, true_implies, forall_const, Bool.false_eq_true, Bool.true_eq_false, reduceCtorEq, eq_self, and_false, false_and, or_false, false_or]
      try trivial
    · simp only [e_X7_isSetting_0, e_X7_isSetting_1, e_X7_isSetting_28, e_X7_isSetting_29, e_X7_isSetting_30, e_X7_isSetting_31, e_X7_isSetting_34, e_X7_isSetting_37, e_X7_isSetting_38, e_X7_isSetting_39, e_X7_isSetting_40, e_X7_isSetting_41, e_X7_isSetting_44, e_X7_isSetting_47, e_X7_isSetting_48, e_X7_isSetting_49, e_X7_isSetting_50, e_X7_isSetting_53, e_X7_isSetting_54, e_X7_isSetting_55, e_X7_isSetting_58, e_X7_isSetting_61, e_X7_isSetting_64, e_X7_isSetting_67, e_X7_isSetting_68, e_X7_isSetting_71, e_X7_isSetting_72, Option.toList_some, Option.toList_none, List.cons_append, List.nil_append, true_and, and_true, and_self, bb_ite, true_or, or_true, Option.some.injEq, bb_I_eq, bb_b_0e, bb_b_1e, bb_b_e0, bb_b_e1, decide_eq_true_eq, decide_eq_false_iff_not, bn_01, bn_11, bb_b_01, ne_eq, Bool.not_eq_false, Bool.not_eq_true, Classical.not_not, x_in, i4, i30, z, eq_false w0, eq_false w1, eq_false w2, eq_true w3, bm_10, if_true, if_false, implies_true, not_true_eq_false, not_false_eq_true, Bool.true_and, Bool.false_and, Bool.and_true, Bool.and_false, Bool.true_or, Bool.false_or, Bool.or_true, Bool.or_false, Bool.not_true, Bool.not_false, false_implies, true_implies, forall_const, Bool.false_eq_true, Bool.true_eq_false, reduceCtorEq, eq_self, and_false, false_and, or_false, false_or]
      try trivial
  have e : bv w 0 3 = false := by
    unfold bv
    refine decide_eq_false (fun z => ?_)
    rw [bn_eq] at w0 w1 w2 w3
    have c0 : (0 : Int32).toInt = 0 := rfl
    have c1 : (1 : Int32).toInt = 1 := rfl
    have c2 : (2 : Int32).toInt = 2 := rfl
    have c3 : (3 : Int32).toInt = 3 := rfl
    omega
  simp only [e_X7_isSetting_0, e_X7_isSetting_1, e_X7_isSetting_28, e_X7_isSetting_29, e_X7_isSetting_30, e_X7_isSetting_31, e_X7_isSetting_34, e_X7_isSetting_37, e_X7_isSetting_38, e_X7_isSetting_39, e_X7_isSetting_40, e_X7_isSetting_41, e_X7_isSetting_44, e_X7_isSetting_47, e_X7_isSetting_48, e_X7_isSetting_49, e_X7_isSetting_50, e_X7_isSetting_53, e_X7_isSetting_54, e_X7_isSetting_55, e_X7_isSetting_58, e_X7_isSetting_61, e_X7_isSetting_64, e_X7_isSetting_67, e_X7_isSetting_68, e_X7_isSetting_71, e_X7_isSetting_72, Option.toList_some, Option.toList_none, List.cons_append, List.nil_append, true_and, and_true, and_self, bb_ite, true_or, or_true, Option.some.injEq, bb_I_eq, bb_b_0e, bb_b_1e, bb_b_e0, bb_b_e1, decide_eq_true_eq, decide_eq_false_iff_not, bn_01, bn_11, bb_b_01, ne_eq, Bool.not_eq_false, Bool.not_eq_true, Classical.not_not, e, eq_false w0, eq_false w1, eq_false w2, eq_false w3, bm_10, if_true, if_false, implies_true, not_true_eq_false, not_false_eq_true, Bool.true_and, Bool.false_and, Bool.and_true, Bool.and_false, Bool.true_or, Bool.false_or, Bool.or_true, Bool.or_false, Bool.not_true, Bool.not_false, false_implies, true_implies, forall_const, Bool.false_eq_true, Bool.true_eq_false, reduceCtorEq, eq_self, and_false, false_and, or_false, false_or]
  try trivial
theorem r_set {d : Nat} {M : bb_M} {S : bs_S} {w v : Int32} (h : bm_MI M S) (ha : M 21 0 = S.a) : bm_api d 52 [bb_R 7 0, bb_I w, bb_I v] M (sp_set S w v) := by
  unfold sp_set
  by_cases q : bv w 0 3 = true ∧ bs_set (bv_N w) v = true
  · rw [if_pos q]
    have b := bv_iff.mp q.1
    have ew := bv_nI b.1
    have nw : bv_N w < 4 := by unfold bv_N; omega
    have e81 : 81 + w = nI (81 + bv_N w) := by
      rw [show (81 : Int32) = nI 81 from rfl, ← nI_add, ← ew]
    obtain ⟨M', x1, x2, x3⟩ := x_X7_sets (d := d + 6) (p := 81 + bv_N w) (x := 81 + w) (v := v) h ha e81 (by omega)
    refine ⟨M', fun k => bb_cal (st_X7_set ?_), x2, x3⟩
    simp (disch := omega) only [e_X7_set_0, e_X7_set_1, e_X7_set_2, e_X7_set_5, e_X7_set_8, e_X7_set_9, e_X7_set_11, e_X7_set_12, e_X7_set_13, e_X7_set_14, e_X7_set_17, e_X7_set_20, e_X7_set_23, Option.toList_some, Option.toList_none, List.cons_append, List.nil_append, true_and, and_true, and_self, bb_ite, true_or, or_true, Option.some.injEq, bb_I_eq, bb_b_0e, bb_b_1e, bb_b_e0, bb_b_e1, decide_eq_true_eq, decide_eq_false_iff_not, bn_01, bn_11, bb_b_01, ne_eq, Bool.not_eq_false, Bool.not_eq_true, Classical.not_not, x_X7_isSetting, q.1, q.2, x1, bm_10, if_true, if_false, implies_true, not_true_eq_false, not_false_eq_true, Bool.true_and, Bool.false_and, Bool.and_true, Bool.and_false, Bool.true_or, Bool.false_or, Bool.or_true, Bool.or_false, Bool.not_true, Bool.not_false, false_implies, true_implies, forall_const, Bool.false_eq_true, Bool.true_eq_false, reduceCtorEq, eq_self, and_false, false_and, or_false, false_or]
    try trivial
  · rw [if_neg q]
    have e : (bv w 0 3 && bs_set (bv_N w) v) = false := by
      cases z1 : bv w 0 3
      · rfl
      · cases z2 : bs_set (bv_N w) v
        · rfl
        · exact absurd ⟨z1, z2⟩ q
    refine bm_no h (fun k => bb_cal (st_X7_set ?_))
    simp (disch := omega) only [e_X7_set_0, e_X7_set_1, e_X7_set_2, e_X7_set_5, e_X7_set_8, e_X7_set_9, e_X7_set_11, e_X7_set_12, e_X7_set_13, e_X7_set_14, e_X7_set_17, e_X7_set_20, e_X7_set_23, Option.toList_some, Option.toList_none, List.cons_append, List.nil_append, true_and, and_true, and_self, bb_ite, true_or, or_true, Option.some.injEq, bb_I_eq, bb_b_0e, bb_b_1e, bb_b_e0, bb_b_e1, decide_eq_true_eq, decide_eq_false_iff_not, bn_01, bn_11, bb_b_01, ne_eq, Bool.not_eq_false, Bool.not_eq_true, Classical.not_not, x_X7_isSetting, e, bm_10, if_true, if_false, implies_true, not_true_eq_false, not_false_eq_true, Bool.true_and, Bool.false_and, Bool.and_true, Bool.and_false, Bool.true_or, Bool.false_or, Bool.or_true, Bool.or_false, Bool.not_true, Bool.not_false, false_implies, true_implies, forall_const, Bool.false_eq_true, Bool.true_eq_false, reduceCtorEq, eq_self, and_false, false_and, or_false, false_or]
    try trivial
theorem r_wave {d : Nat} {M : bb_M} {S : bs_S} {r v : Int32} (h : bm_MI M S) (ha : M 21 0 = S.a) (hi : bs_inv S.a) : bm_api d 55 [bb_R 7 0, bb_I r, bb_I v] M (sp_wave S r v) := by
  unfold sp_wave
  have hsz := hi.2.2.2.2.2.2.1
  have e85 : M 21 0 85 = nI (bs_sz S.a) := by rw [ha]; exact hsz.2
  by_cases q1 : bv r 0 3 = true
  · rw [if_pos q1]
    by_cases q2 : bv v 1 20 = true
    · rw [if_pos q2]
      by_cases q3 : bs_sz S.a = 24
      · rw [if_pos q3]
        refine bm_no h (fun k => bb_cal (st_X7_wave ?_))
        have l : (nI 24 = 24) = True := eq_true rfl
        simp (disch := omega) only [e_X7_wave_0, e_X7_wave_1, e_X7_wave_4, e_X7_wave_7, e_X7_wave_10, e_X7_wave_11, e_X7_wave_12, e_X7_wave_15, e_X7_wave_18, e_X7_wave_21, e_X7_wave_22, e_X7_wave_23, e_X7_wave_26, e_X7_wave_28, e_X7_wave_29, e_X7_wave_31, e_X7_wave_34, e_X7_wave_37, e_X7_wave_38, e_X7_wave_39, e_X7_wave_42, e_X7_wave_43, e_X7_wave_44, e_X7_wave_45, e_X7_wave_48, e_X7_wave_49, e_X7_wave_50, e_X7_wave_53, e_X7_wave_55, e_X7_wave_56, e_X7_wave_59, Option.toList_some, Option.toList_none, List.cons_append, List.nil_append, true_and, and_true, and_self, bb_ite, true_or, or_true, Option.some.injEq, bb_I_eq, bb_b_0e, bb_b_1e, bb_b_e0, bb_b_e1, decide_eq_true_eq, decide_eq_false_iff_not, bn_01, bn_11, bb_b_01, ne_eq, Bool.not_eq_false, Bool.not_eq_true, Classical.not_not, bm_v85, Int32.reduceToNatClampNeg, x_X7_isRow, x_X7_isHeight, q1, q2, e85, q3, l, bm_10, if_true, if_false, implies_true, not_true_eq_false, not_false_eq_true, Bool.true_and, Bool.false_and, Bool.and_true, Bool.and_false, Bool.true_or, Bool.false_or, Bool.or_true, Bool.or_false, Bool.not_true, Bool.not_false, false_implies, true_implies, forall_const, Bool.false_eq_true, Bool.true_eq_false, reduceCtorEq, eq_self, and_false, false_and, or_false, false_or]
        try trivial
      · rw [if_neg q3]
        obtain ⟨M1, e1, es, k1, f1, g1, fin⟩ := bm_rem (d := d + 7) h ha
        have xp := fun k => x_X7_puts (d := d + 7) (r := r) (v := v) (M := M1) (k := k) hsz.2 (by omega)
        obtain ⟨M', x1, x2, x3⟩ := fin (bm_a M1 (sp_put S.a r v)) (sp_put S.a r v) (nI (bs_sz S.a + 1)) (bm_wf_tr f1 bm_wf_a) (fun j hj => bm_a_k (by decide)) (fun j hj => bm_a_v)
        refine ⟨M', fun k => bb_cal (st_X7_wave ?_), x2, x3⟩
        have l : ¬ nI (bs_sz S.a) = 24 := fun z => by
          rw [show (24 : Int32) = nI 24 from rfl, nI_eq (by omega) (by omega)] at z
          exact q3 z
        simp (disch := omega) only [e_X7_wave_0, e_X7_wave_1, e_X7_wave_4, e_X7_wave_7, e_X7_wave_10, e_X7_wave_11, e_X7_wave_12, e_X7_wave_15, e_X7_wave_18, e_X7_wave_21, e_X7_wave_22, e_X7_wave_23, e_X7_wave_26, e_X7_wave_28, e_X7_wave_29, e_X7_wave_31, e_X7_wave_34, e_X7_wave_37, e_X7_wave_38, e_X7_wave_39, e_X7_wave_42, e_X7_wave_43, e_X7_wave_44, e_X7_wave_45, e_X7_wave_48, e_X7_wave_49, e_X7_wave_50, e_X7_wave_53, e_X7_wave_55, e_X7_wave_56, e_X7_wave_59, Option.toList_some, Option.toList_none, List.cons_append, List.nil_append, true_and, and_true, and_self, bb_ite, true_or, or_true, Option.some.injEq, bb_I_eq, bb_b_0e, bb_b_1e, bb_b_e0, bb_b_e1, decide_eq_true_eq, decide_eq_false_iff_not, bn_01, bn_11, bb_b_01, ne_eq, Bool.not_eq_false, Bool.not_eq_true, Classical.not_not, bm_v85, Int32.reduceToNatClampNeg, x_X7_isRow, x_X7_isHeight, q1, q2, e85, l, e1, xp, bm_a_v, bs_put_85, x1, bm_10, if_true, if_false, implies_true, not_true_eq_false, not_false_eq_true, Bool.true_and, Bool.false_and, Bool.and_true, Bool.and_false, Bool.true_or, Bool.false_or, Bool.or_true, Bool.or_false, Bool.not_true, Bool.not_false, false_implies, true_implies, forall_const, Bool.false_eq_true, Bool.true_eq_false, reduceCtorEq, eq_self, and_false, false_and, or_false, false_or]
        try trivial
    · rw [if_neg q2]
      rw [Bool.not_eq_true] at q2
      refine bm_no h (fun k => bb_cal (st_X7_wave ?_))
      simp (disch := omega) only [e_X7_wave_0, e_X7_wave_1, e_X7_wave_4, e_X7_wave_7, e_X7_wave_10, e_X7_wave_11, e_X7_wave_12, e_X7_wave_15, e_X7_wave_18, e_X7_wave_21, e_X7_wave_22, e_X7_wave_23, e_X7_wave_26, e_X7_wave_28, e_X7_wave_29, e_X7_wave_31, e_X7_wave_34, e_X7_wave_37, e_X7_wave_38, e_X7_wave_39, e_X7_wave_42, e_X7_wave_43, e_X7_wave_44, e_X7_wave_45, e_X7_wave_48, e_X7_wave_49, e_X7_wave_50, e_X7_wave_53, e_X7_wave_55, e_X7_wave_56, e_X7_wave_59, Option.toList_some, Option.toList_none, List.cons_append, List.nil_append, true_and, and_true, and_self, bb_ite, true_or, or_true, Option.some.injEq, bb_I_eq, bb_b_0e, bb_b_1e, bb_b_e0, bb_b_e1, decide_eq_true_eq, decide_eq_false_iff_not, bn_01, bn_11, bb_b_01, ne_eq, Bool.not_eq_false, Bool.not_eq_true, Classical.not_not, x_X7_isRow, x_X7_isHeight, q1, q2, bm_10, if_true, if_false, implies_true, not_true_eq_false, not_false_eq_true, Bool.true_and, Bool.false_and, Bool.and_true, Bool.and_false, Bool.true_or, Bool.false_or, Bool.or_true, Bool.or_false, Bool.not_true, Bool.not_false, false_implies, true_implies, forall_const, Bool.false_eq_true, Bool.true_eq_false, reduceCtorEq, eq_self, and_false, false_and, or_false, false_or]
      try trivial
  · rw [if_neg q1]
    rw [Bool.not_eq_true] at q1
    refine bm_no h (fun k => bb_cal (st_X7_wave ?_))
    simp (disch := omega) only [e_X7_wave_0, e_X7_wave_1, e_X7_wave_4, e_X7_wave_7, e_X7_wave_10, e_X7_wave_11, e_X7_wave_12, e_X7_wave_15, e_X7_wave_18, e_X7_wave_21, e_X7_wave_22, e_X7_wave_23, e_X7_wave_26, e_X7_wave_28, e_X7_wave_29, e_X7_wave_31, e_X7_wave_34, e_X7_wave_37, e_X7_wave_38, e_X7_wave_39, e_X7_wave_42, e_X7_wave_43, e_X7_wave_44, e_X7_wave_45, e_X7_wave_48, e_X7_wave_49, e_X7_wave_50, e_X7_wave_53, e_X7_wave_55, e_X7_wave_56, e_X7_wave_59, Option.toList_some, Option.toList_none, List.cons_append, List.nil_append, true_and, and_true, and_self, bb_ite, true_or, or_true, Option.some.injEq, bb_I_eq, bb_b_0e, bb_b_1e, bb_b_e0, bb_b_e1, decide_eq_true_eq, decide_eq_false_iff_not, bn_01, bn_11, bb_b_01, ne_eq, Bool.not_eq_false, Bool.not_eq_true, Classical.not_not, x_X7_isRow, q1, bm_10, if_true, if_false, implies_true, not_true_eq_false, not_false_eq_true, Bool.true_and, Bool.false_and, Bool.and_true, Bool.and_false, Bool.true_or, Bool.false_or, Bool.or_true, Bool.or_false, Bool.not_true, Bool.not_false, false_implies, true_implies, forall_const, Bool.false_eq_true, Bool.true_eq_false, reduceCtorEq, eq_self, and_false, false_and, or_false, false_or]
    try trivial
theorem r_type {d : Nat} {M : bb_M} {S : bs_S} {x : Int32} (h : bm_MI M S) (hx : vp_nar .char x = x) : bm_api d 59 [bb_R 7 0, bb_I x] M (sp_type S x) := by
  unfold sp_type
  obtain ⟨h1, h2, h3, ⟨⟨h4, h5⟩, h6⟩, h7⟩ := h
  have h : bm_MI M S := ⟨h1, h2, h3, ⟨⟨h4, h5⟩, h6⟩, h7⟩
  by_cases q : S.tl = 60
  · rw [if_pos q]
    refine bm_no h (fun k => bb_cal (st_X7_type ?_))
    have l : (nI 60 = 60) = True := eq_true rfl
    simp (disch := omega) only [e_X7_type_0, e_X7_type_1, e_X7_type_4, e_X7_type_6, e_X7_type_9, e_X7_type_12, e_X7_type_13, e_X7_type_14, e_X7_type_17, e_X7_type_18, e_X7_type_21, e_X7_type_22, e_X7_type_23, e_X7_type_24, e_X7_type_25, e_X7_type_28, e_X7_type_29, e_X7_type_30, e_X7_type_33, e_X7_type_34, e_X7_type_37, Option.toList_some, Option.toList_none, List.cons_append, List.nil_append, true_and, and_true, and_self, bb_ite, true_or, or_true, Option.some.injEq, bb_I_eq, bb_b_0e, bb_b_1e, bb_b_e0, bb_b_e1, decide_eq_true_eq, decide_eq_false_iff_not, bn_01, bn_11, bb_b_01, ne_eq, Bool.not_eq_false, Bool.not_eq_true, Classical.not_not, h4, q, l, bm_10, if_true, if_false, implies_true, not_true_eq_false, not_false_eq_true, Bool.true_and, Bool.false_and, Bool.and_true, Bool.and_false, Bool.true_or, Bool.false_or, Bool.or_true, Bool.or_false, Bool.not_true, Bool.not_false, false_implies, true_implies, forall_const, Bool.false_eq_true, Bool.true_eq_false, reduceCtorEq, eq_self, and_false, false_and, or_false, false_or]
    try trivial
  · rw [if_neg q]
    have l : ¬ nI S.tl = 60 := fun z => by
      rw [show (60 : Int32) = nI 60 from rfl, nI_eq (by omega) (by omega)] at z
      exact q z
    have u1 : bb_up M 28 0 S.tl x 7 0 11 = nI S.tl := by rw [bb_up_k (by decide)]; exact h4
    have u2 : bb_up (bb_up M 28 0 S.tl x) 7 0 11 (nI (S.tl + 1)) 7 0 11 = nI (S.tl + 1) := bb_up_at
    have f : ∀ k i j, k ≠ 28 → ¬ (k = 7 ∧ j = 11) → bb_up (bb_up M 28 0 S.tl x) 7 0 11 (nI (S.tl + 1)) k i j = M k i j := fun k i j z1 z2 => by
      unfold bb_up
      rw [if_neg (by omega), if_neg (by omega)]
    rw [hx]
    refine ⟨bb_up (bb_up M 28 0 S.tl x) 7 0 11 (nI (S.tl + 1)), fun k => bb_cal (st_X7_type ?_), ⟨fun j hj => ?_, ⟨h2.1, ?_, fun j hj k hk => ?_⟩, ⟨?_, fun z k hk => ?_⟩, ⟨⟨u2, fun j hj => ?_⟩, by show S.tl + 1 ≤ 60; omega⟩, ?_⟩, fun k i j z => f k i j (by omega) (by omega)⟩
    · simp (disch := omega) only [e_X7_type_0, e_X7_type_1, e_X7_type_4, e_X7_type_6, e_X7_type_9, e_X7_type_12, e_X7_type_13, e_X7_type_14, e_X7_type_17, e_X7_type_18, e_X7_type_21, e_X7_type_22, e_X7_type_23, e_X7_type_24, e_X7_type_25, e_X7_type_28, e_X7_type_29, e_X7_type_30, e_X7_type_33, e_X7_type_34, e_X7_type_37, Option.toList_some, Option.toList_none, List.cons_append, List.nil_append, true_and, and_true, and_self, bb_ite, true_or, or_true, Option.some.injEq, bb_I_eq, bb_b_0e, bb_b_1e, bb_b_e0, bb_b_e1, decide_eq_true_eq, decide_eq_false_iff_not, bn_01, bn_11, bb_b_01, ne_eq, Bool.not_eq_false, Bool.not_eq_true, Classical.not_not, bn_in, bn_cl, bn_p1, h4, l, u1, u2, bm_10, if_true, if_false, implies_true, not_true_eq_false, not_false_eq_true, Bool.true_and, Bool.false_and, Bool.and_true, Bool.and_false, Bool.true_or, Bool.false_or, Bool.or_true, Bool.or_false, Bool.not_true, Bool.not_false, false_implies, true_implies, forall_const, Bool.false_eq_true, Bool.true_eq_false, reduceCtorEq, eq_self, and_false, false_and, or_false, false_or]
      try trivial
    · rw [f _ _ _ (by decide) (by omega)]; exact h1 j hj
    · rw [f _ _ _ (by decide) (by omega)]; exact h2.2.1
    · rw [f _ _ _ (by decide) (by omega)]; exact h2.2.2 j hj k hk
    · rw [f _ _ _ (by decide) (by omega)]; exact h3.1
    · rw [f _ _ _ (by decide) (by omega)]; exact h3.2 z k hk
    · rw [bb_up_k (by decide)]
      show _ = upd S.tx S.tl x j
      rw [bf_upd]
      by_cases z : j = S.tl
      · rw [if_pos z, z, bb_up_at]
      · have hj' : j < S.tl + 1 := hj
        rw [if_neg z, bb_up_j z]
        exact h5 j (by omega)
    · rw [f _ _ _ (by decide) (by omega)]; exact h7
theorem r_clearText {d : Nat} {M : bb_M} {S : bs_S} (h : bm_MI M S) : bm_api d 60 [bb_R 7 0] M (sp_clear S) := by
  unfold sp_clear
  obtain ⟨h1, h2, h3, ⟨⟨h4, h5⟩, h6⟩, h7⟩ := h
  have f : ∀ k i j, ¬ (k = 7 ∧ j = 11) → bb_up M 7 0 11 0 k i j = M k i j := fun k i j z2 => by
    unfold bb_up
    rw [if_neg (by omega)]
  refine ⟨bb_up M 7 0 11 0, fun k => bb_cal (st_X7_clearText ?_), ⟨fun j hj => ?_, ⟨h2.1, ?_, fun j hj k hk => ?_⟩, ⟨?_, fun z k hk => ?_⟩, ⟨⟨bb_up_at, fun j hj => absurd hj (Nat.not_lt_zero j)⟩, Nat.zero_le _⟩, ?_⟩, fun k i j z => f k i j (by omega)⟩
  · simp (disch := omega) only [e_X7_clearText_0, e_X7_clearText_1, e_X7_clearText_4, e_X7_clearText_5, e_X7_clearText_6, e_X7_clearText_7, e_X7_clearText_10, e_X7_clearText_11, Option.toList_some, Option.toList_none, List.cons_append, List.nil_append, true_and, and_true, and_self, bb_ite, true_or, or_true, Option.some.injEq, bb_I_eq, bb_b_0e, bb_b_1e, bb_b_e0, bb_b_e1, decide_eq_true_eq, decide_eq_false_iff_not, bn_01, bn_11, bb_b_01, ne_eq, Bool.not_eq_false, Bool.not_eq_true, Classical.not_not, h4, bm_10, if_true, if_false, implies_true, not_true_eq_false, not_false_eq_true, Bool.true_and, Bool.false_and, Bool.and_true, Bool.and_false, Bool.true_or, Bool.false_or, Bool.or_true, Bool.or_false, Bool.not_true, Bool.not_false, false_implies, true_implies, forall_const, Bool.false_eq_true, Bool.true_eq_false, reduceCtorEq, eq_self, and_false, false_and, or_false, false_or]
    try trivial
  · rw [f _ _ _ (by omega)]; exact h1 j hj
  · rw [f _ _ _ (by omega)]; exact h2.2.1
  · rw [f _ _ _ (by omega)]; exact h2.2.2 j hj k hk
  · rw [f _ _ _ (by omega)]; exact h3.1
  · rw [f _ _ _ (by omega)]; exact h3.2 z k hk
  · rw [f _ _ _ (by omega)]; exact h7
