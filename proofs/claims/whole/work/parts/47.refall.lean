theorem bm_R_same {M : bb_M} {r : Nat} (hr : r < 4) : bm_R M r ((fun c => M 21 0 (20 * r + c)), (fun j => M 25 0 j), M 21 0 134, M 21 0 135) = M := by
  have e : bb_up (bb_up M 21 0 134 (M 21 0 134)) 21 0 135 (M 21 0 135) = M := by
    funext k' i' x
    unfold bb_up
    split
    · rename_i h
      rw [h.1, h.2.1, h.2.2]
    · split
      · rename_i h
        rw [h.1, h.2.1, h.2.2]
      · rfl
  unfold bm_R
  dsimp only
  rw [e, bb_wr_same (M := M) (k := 25) (fun c _ => by rw [Nat.zero_add]), bb_wr_same (fun c hc => rfl)]
theorem bm_R_cong {M : bb_M} {r : Nat} {g g' F F' : Nat → Int32} {p q : Int32} (hg : ∀ c, c < 20 → g c = g' c) (hF : ∀ j, j < 7 → F j = F' j) : bm_R M r (g, F, p, q) = bm_R M r (g', F', p, q) := by
  unfold bm_R
  dsimp only
  rw [bb_wr_cong (k := 25) hF, bb_wr_cong hg]
theorem x_X7_runs {d r w : Nat} {v : Int32} {M : bb_M} {k : Option bb_V → bb_M → Prop} (hr : r < 4) (hw : w ≤ 20) (hg : bf_rb (fun c => M 21 0 (20 * r + c))) (hv : M 21 0 80 + M 7 0 6 = v) (hb : 0 ≤ v.toInt ∧ v.toInt ≤ 1000) : bb_call (bb_CL (d + 4)) 42 [bb_R 7 0, bb_I (nI r), bb_I (nI w)] M k ↔ k none (bm_R M r (bw_run v (decide ((M 21 0 81).toInt ≤ (w : Int))) 20 w ((fun c => M 21 0 (20 * r + c)), bw_F0 r w (M 25 0 3) 0, M 21 0 134, M 21 0 135))) := by
  refine bb_cal (st_X7_runs ?_)
  have v0 : vp_in 0 7 := vp_in_nI (n := 0) (by omega) (by omega)
  have v1 : vp_in 1 7 := vp_in_nI (n := 1) (by omega) (by omega)
  have v2 : vp_in 2 7 := vp_in_nI (n := 2) (by omega) (by omega)
  have v4 : vp_in 4 7 := vp_in_nI (n := 4) (by omega) (by omega)
  have v5 : vp_in 5 7 := vp_in_nI (n := 5) (by omega) (by omega)
  have v6 : vp_in 6 7 := vp_in_nI (n := 6) (by omega) (by omega)
  have e19 : nI 20 + (-1) = 19 := by decide
  have L := fun (sea : Bool) (R : bb_P) => l_X7_runs (d := d) (r := r) (v := v) (sea := sea) (M := M) (R := R) (w0 := bb_I (nI w)) hr hv hb 20 w 0 ((fun c => M 21 0 (20 * r + c)), bw_F0 r w (M 25 0 3) 0, M 21 0 134, M 21 0 135) (Nat.le_refl _) hw hg rfl rfl (by decide) ⟨fun _ => rfl, fun _ => rfl⟩
  rw [e19] at L
  have hF : bm_R M r ((fun c => M 21 0 (20 * r + c)), upd (upd (upd (upd (upd (upd (fun j => M 25 0 j) 0 (nI r)) 1 (nI w)) 2 (-1005)) 4 0) 5 0) 6 0, M 21 0 134, M 21 0 135) = bm_R M r ((fun c => M 21 0 (20 * r + c)), bw_F0 r w (M 25 0 3) 0, M 21 0 134, M 21 0 135) := bm_R_cong (fun c _ => rfl) (fun j hj => by
    simp only [bf_upd]
    unfold bw_F0
    rcases (show j = 0 ∨ j = 1 ∨ j = 2 ∨ j = 3 ∨ j = 4 ∨ j = 5 ∨ j = 6 by omega) with h | h | h | h | h | h | h <;> rw [h] <;> rfl)
  have hM := bm_R_same (M := M) hr
  have L2 := fun (sea : Bool) => (L sea (fun r' M' => r' = none ∧ M' = bm_R M r (bw_run v sea 20 w ((fun c => M 21 0 (20 * r + c)), bw_F0 r w (M 25 0 3) 0, M 21 0 134, M 21 0 135)))).mpr ⟨rfl, rfl⟩
  rw [← hF] at L2
  have e81 : bm_R M r ((fun c => M 21 0 (20 * r + c)), (fun j => M 25 0 j), M 21 0 134, M 21 0 135) 21 0 81 = M 21 0 81 := by rw [hM]
  have goal2 : bb_Y (bb_CL (d + 3)) cd_X7_runs (fun r' M' => r' = none ∧ M' = bm_R M r (bw_run v (decide ((M 21 0 81).toInt ≤ (w : Int))) 20 w ((fun c => M 21 0 (20 * r + c)), bw_F0 r w (M 25 0 3) 0, M 21 0 134, M 21 0 135))) 0 [bb_R 7 0, bb_I (nI r), bb_I (nI w), bb_U, bb_U, bb_U] [] (bm_R M r ((fun c => M 21 0 (20 * r + c)), (fun j => M 25 0 j), M 21 0 134, M 21 0 135)) := by
    by_cases q : (M 21 0 81).toInt ≤ (w : Int)
    · have q2 : ¬ nI w < M 21 0 81 := by rw [bn_lt, bn_ti (by omega)]; omega
      have L3 := L2 true
      have hd : decide ((M 21 0 81).toInt ≤ (w : Int)) = true := decide_eq_true q
      rw [hd]
      simp (disch := omega) only [e_X7_runs_0, e_X7_runs_1, e_X7_runs_2, e_X7_runs_4, e_X7_runs_6, e_X7_runs_7, e_X7_runs_8, e_X7_runs_11, e_X7_runs_13, e_X7_runs_14, e_X7_runs_17, e_X7_runs_18, e_X7_runs_21, e_X7_runs_22, e_X7_runs_24, e_X7_runs_25, e_X7_runs_28, e_X7_runs_29, e_X7_runs_30, e_X7_runs_31, e_X7_runs_32, e_X7_runs_35, e_X7_runs_36, e_X7_runs_37, e_X7_runs_38, e_X7_runs_39, e_X7_runs_42, e_X7_runs_43, e_X7_runs_46, e_X7_runs_47, e_X7_runs_48, e_X7_runs_51, e_X7_runs_52, e_X7_runs_53, e_X7_runs_54, e_X7_runs_55, e_X7_runs_58, e_X7_runs_59, e_X7_runs_60, e_X7_runs_61, e_X7_runs_62, e_X7_runs_65, e_X7_runs_67, e_X7_runs_68, Option.toList_some, Option.toList_none, List.cons_append, List.nil_append, true_and, and_true, and_self, bb_ite, true_or, or_true, Option.some.injEq, bb_I_eq, bb_b_0e, bb_b_1e, bb_b_e0, bb_b_e1, decide_eq_true_eq, decide_eq_false_iff_not, bn_01, bn_11, bb_b_01, ne_eq, Bool.not_eq_false, Bool.not_eq_true, Classical.not_not, v0, v1, v2, v4, v5, v6, bm_v81, Int32.reduceToNatClampNeg, e81, q2, bm_w25, not_false_eq_true, not_true_eq_false, false_implies, true_implies]
      exact L3
    · have q2 : nI w < M 21 0 81 := by rw [bn_lt, bn_ti (by omega)]; omega
      have L3 := L2 false
      have hd : decide ((M 21 0 81).toInt ≤ (w : Int)) = false := decide_eq_false q
      rw [hd]
      simp (disch := omega) only [e_X7_runs_0, e_X7_runs_1, e_X7_runs_2, e_X7_runs_4, e_X7_runs_6, e_X7_runs_7, e_X7_runs_8, e_X7_runs_11, e_X7_runs_13, e_X7_runs_14, e_X7_runs_17, e_X7_runs_18, e_X7_runs_21, e_X7_runs_22, e_X7_runs_24, e_X7_runs_25, e_X7_runs_28, e_X7_runs_29, e_X7_runs_30, e_X7_runs_31, e_X7_runs_32, e_X7_runs_35, e_X7_runs_36, e_X7_runs_37, e_X7_runs_38, e_X7_runs_39, e_X7_runs_42, e_X7_runs_43, e_X7_runs_46, e_X7_runs_47, e_X7_runs_48, e_X7_runs_51, e_X7_runs_52, e_X7_runs_53, e_X7_runs_54, e_X7_runs_55, e_X7_runs_58, e_X7_runs_59, e_X7_runs_60, e_X7_runs_61, e_X7_runs_62, e_X7_runs_65, e_X7_runs_67, e_X7_runs_68, Option.toList_some, Option.toList_none, List.cons_append, List.nil_append, true_and, and_true, and_self, bb_ite, true_or, or_true, Option.some.injEq, bb_I_eq, bb_b_0e, bb_b_1e, bb_b_e0, bb_b_e1, decide_eq_true_eq, decide_eq_false_iff_not, bn_01, bn_11, bb_b_01, ne_eq, Bool.not_eq_false, Bool.not_eq_true, Classical.not_not, v0, v1, v2, v4, v5, v6, bm_v81, Int32.reduceToNatClampNeg, e81, q2, bm_w25, not_false_eq_true, not_true_eq_false, false_implies, true_implies]
      exact L3
  rw [hM] at goal2
  exact goal2
/-! the order of the waves -/
theorem x_X7_runsAhead {d x y : Nat} {M : bb_M} {k : Option bb_V → bb_M → Prop} (hx : x < 24) (hy : y < 24) (bx : 0 ≤ (M 21 0 (87 + 2 * x)).toInt ∧ (M 21 0 (87 + 2 * x)).toInt ≤ 1000) (bY : 0 ≤ (M 21 0 (87 + 2 * y)).toInt ∧ (M 21 0 (87 + 2 * y)).toInt ≤ 1000) : bb_call (bb_CL (d + 1)) 43 [bb_R 7 0, bb_I (nI x), bb_I (nI y)] M k ↔ k (some (bb_I (bb_b (br_ah (M 21 0) x y)))) M := by
  refine bb_cal (st_X7_runsAhead ?_)
  have ex : 86 + 2 * x + 1 = 87 + 2 * x := by omega
  have ey : 86 + 2 * y + 1 = 87 + 2 * y := by omega
  have es : (M 21 0 (87 + 2 * x) - M 21 0 (87 + 2 * y)).toInt = (M 21 0 (87 + 2 * x)).toInt - (M 21 0 (87 + 2 * y)).toInt := bn_subT (by omega) (by omega)
  unfold br_ah br_h
  simp (disch := omega) only [e_X7_runsAhead_0, e_X7_runsAhead_1, e_X7_runsAhead_4, e_X7_runsAhead_6, e_X7_runsAhead_7, e_X7_runsAhead_8, e_X7_runsAhead_9, e_X7_runsAhead_10, e_X7_runsAhead_11, e_X7_runsAhead_12, e_X7_runsAhead_13, e_X7_runsAhead_14, e_X7_runsAhead_17, e_X7_runsAhead_19, e_X7_runsAhead_20, e_X7_runsAhead_21, e_X7_runsAhead_22, e_X7_runsAhead_23, e_X7_runsAhead_24, e_X7_runsAhead_25, e_X7_runsAhead_26, e_X7_runsAhead_27, e_X7_runsAhead_28, e_X7_runsAhead_29, e_X7_runsAhead_32, e_X7_runsAhead_34, e_X7_runsAhead_35, e_X7_runsAhead_36, e_X7_runsAhead_39, e_X7_runsAhead_40, e_X7_runsAhead_43, e_X7_runsAhead_44, e_X7_runsAhead_47, e_X7_runsAhead_48, e_X7_runsAhead_51, e_X7_runsAhead_52, e_X7_runsAhead_55, e_X7_runsAhead_57, e_X7_runsAhead_58, e_X7_runsAhead_59, e_X7_runsAhead_62, e_X7_runsAhead_63, e_X7_runsAhead_66, e_X7_runsAhead_67, e_X7_runsAhead_70, e_X7_runsAhead_71, Option.toList_some, Option.toList_none, List.cons_append, List.nil_append, true_and, and_true, and_self, bb_ite, true_or, or_true, Option.some.injEq, bb_I_eq, bb_b_0e, bb_b_1e, bb_b_e0, bb_b_e1, decide_eq_true_eq, decide_eq_false_iff_not, bn_01, bn_11, bb_b_01, ne_eq, Bool.not_eq_false, Bool.not_eq_true, Classical.not_not, bn_lt, bn_le, bn_ti, Int32.reduceToInt, bm_m2, bm_a86, bn_p1, bn_in, bn_cl, ex, ey, bm_v82, Int32.reduceToNatClampNeg, es]
  by_cases q1 : M 21 0 82 = 1
  · have z : ¬ (1 : Int32) = 2 := by decide
    rw [if_pos q1]
    by_cases q : (M 21 0 (87 + 2 * y)).toInt < (M 21 0 (87 + 2 * x)).toInt
    · have q2 : ¬ (M 21 0 (87 + 2 * x)).toInt - (M 21 0 (87 + 2 * y)).toInt ≤ 0 := by omega
      simp only [q1, q, q2, Option.toList_some, Option.toList_none, List.cons_append, List.nil_append, true_and, and_true, and_self, bb_ite, true_or, or_true, Option.some.injEq, bb_I_eq, bb_b_0e, bb_b_1e, bb_b_e0, bb_b_e1, decide_eq_true_eq, decide_eq_false_iff_not, bn_01, bn_11, bb_b_01, ne_eq, Bool.not_eq_false, Bool.not_eq_true, Classical.not_not, bn_lt, bn_le, bn_ti, Int32.reduceToInt, bn_m20, bn_20m, nI_add, bn_p1, bn_s1, bn_in, bn_cl, implies_true, not_true_eq_false, not_false_eq_true, Bool.true_and, Bool.false_and, Bool.and_true, Bool.and_false, Bool.true_or, Bool.false_or, Bool.or_true, Bool.or_false, Bool.not_true, Bool.not_false, false_implies, true_implies, forall_const, Bool.false_eq_true, Bool.true_eq_false, reduceCtorEq, eq_self, Bool.and_eq_true, Bool.or_eq_true, Bool.and_eq_false_iff, Bool.or_eq_false_iff, and_false, false_and, or_false, false_or]
    · have q2 : (M 21 0 (87 + 2 * x)).toInt - (M 21 0 (87 + 2 * y)).toInt ≤ 0 := by omega
      simp only [q1, q, q2, Option.toList_some, Option.toList_none, List.cons_append, List.nil_append, true_and, and_true, and_self, bb_ite, true_or, or_true, Option.some.injEq, bb_I_eq, bb_b_0e, bb_b_1e, bb_b_e0, bb_b_e1, decide_eq_true_eq, decide_eq_false_iff_not, bn_01, bn_11, bb_b_01, ne_eq, Bool.not_eq_false, Bool.not_eq_true, Classical.not_not, bn_lt, bn_le, bn_ti, Int32.reduceToInt, bn_m20, bn_20m, nI_add, bn_p1, bn_s1, bn_in, bn_cl, implies_true, not_true_eq_false, not_false_eq_true, Bool.true_and, Bool.false_and, Bool.and_true, Bool.and_false, Bool.true_or, Bool.false_or, Bool.or_true, Bool.or_false, Bool.not_true, Bool.not_false, false_implies, true_implies, forall_const, Bool.false_eq_true, Bool.true_eq_false, reduceCtorEq, eq_self, Bool.and_eq_true, Bool.or_eq_true, Bool.and_eq_false_iff, Bool.or_eq_false_iff, and_false, false_and, or_false, false_or]
  · rw [if_neg q1]
    by_cases q3 : M 21 0 82 = 2
    · have z : ¬ (2 : Int32) = 1 := by decide
      rw [if_pos q3]
      by_cases q : (M 21 0 (87 + 2 * x)).toInt < (M 21 0 (87 + 2 * y)).toInt
      · have q2 : ¬ 0 ≤ (M 21 0 (87 + 2 * x)).toInt - (M 21 0 (87 + 2 * y)).toInt := by omega
        simp only [q3, z, q, q2, Option.toList_some, Option.toList_none, List.cons_append, List.nil_append, true_and, and_true, and_self, bb_ite, true_or, or_true, Option.some.injEq, bb_I_eq, bb_b_0e, bb_b_1e, bb_b_e0, bb_b_e1, decide_eq_true_eq, decide_eq_false_iff_not, bn_01, bn_11, bb_b_01, ne_eq, Bool.not_eq_false, Bool.not_eq_true, Classical.not_not, bn_lt, bn_le, bn_ti, Int32.reduceToInt, bn_m20, bn_20m, nI_add, bn_p1, bn_s1, bn_in, bn_cl, implies_true, not_true_eq_false, not_false_eq_true, Bool.true_and, Bool.false_and, Bool.and_true, Bool.and_false, Bool.true_or, Bool.false_or, Bool.or_true, Bool.or_false, Bool.not_true, Bool.not_false, false_implies, true_implies, forall_const, Bool.false_eq_true, Bool.true_eq_false, reduceCtorEq, eq_self, Bool.and_eq_true, Bool.or_eq_true, Bool.and_eq_false_iff, Bool.or_eq_false_iff, and_false, false_and, or_false, false_or]
      · have q2 : 0 ≤ (M 21 0 (87 + 2 * x)).toInt - (M 21 0 (87 + 2 * y)).toInt := by omega
        simp only [q3, z, q, q2, Option.toList_some, Option.toList_none, List.cons_append, List.nil_append, true_and, and_true, and_self, bb_ite, true_or, or_true, Option.some.injEq, bb_I_eq, bb_b_0e, bb_b_1e, bb_b_e0, bb_b_e1, decide_eq_true_eq, decide_eq_false_iff_not, bn_01, bn_11, bb_b_01, ne_eq, Bool.not_eq_false, Bool.not_eq_true, Classical.not_not, bn_lt, bn_le, bn_ti, Int32.reduceToInt, bn_m20, bn_20m, nI_add, bn_p1, bn_s1, bn_in, bn_cl, implies_true, not_true_eq_false, not_false_eq_true, Bool.true_and, Bool.false_and, Bool.and_true, Bool.and_false, Bool.true_or, Bool.false_or, Bool.or_true, Bool.or_false, Bool.not_true, Bool.not_false, false_implies, true_implies, forall_const, Bool.false_eq_true, Bool.true_eq_false, reduceCtorEq, eq_self, Bool.and_eq_true, Bool.or_eq_true, Bool.and_eq_false_iff, Bool.or_eq_false_iff, and_false, false_and, or_false, false_or]
    · rw [if_neg q3]
      simp only [q1, q3, Option.toList_some, Option.toList_none, List.cons_append, List.nil_append, true_and, and_true, and_self, bb_ite, true_or, or_true, Option.some.injEq, bb_I_eq, bb_b_0e, bb_b_1e, bb_b_e0, bb_b_e1, decide_eq_true_eq, decide_eq_false_iff_not, bn_01, bn_11, bb_b_01, ne_eq, Bool.not_eq_false, Bool.not_eq_true, Classical.not_not, bn_lt, bn_le, bn_ti, Int32.reduceToInt, bn_m20, bn_20m, nI_add, bn_p1, bn_s1, bn_in, bn_cl, implies_true, not_true_eq_false, not_false_eq_true, Bool.true_and, Bool.false_and, Bool.and_true, Bool.and_false, Bool.true_or, Bool.false_or, Bool.or_true, Bool.or_false, Bool.not_true, Bool.not_false, false_implies, true_implies, forall_const, Bool.false_eq_true, Bool.true_eq_false, reduceCtorEq, eq_self, Bool.and_eq_true, Bool.or_eq_true, Bool.and_eq_false_iff, Bool.or_eq_false_iff, and_false, false_and, or_false, false_or]
