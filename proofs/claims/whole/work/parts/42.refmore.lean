/-! THE REFERENCE: steepest, highest bar, counts -/
theorem bm_gd_b {h : Nat → Int32} {r : Nat} (hB : bf_hb h) (hr : r < 4) : ∀ n, n ≤ 19 → 0 ≤ (bf_gd h r n).toInt ∧ (bf_gd h r n).toInt ≤ 99
  | 0, _ => by
    show 0 ≤ (0 : Int32).toInt ∧ (0 : Int32).toInt ≤ 99
    decide
  | n + 1, hn => by
    have ih := bm_gd_b hB hr n (by omega)
    have b1 := hB (20 * r + n) (by omega)
    have b2 := hB (20 * r + (n + 1)) (by omega)
    have e1 : (h (20 * r + n) - h (20 * r + (n + 1))).toInt = (h (20 * r + n)).toInt - (h (20 * r + (n + 1))).toInt := bn_subT (by omega) (by omega)
    have e2 : (0 - (h (20 * r + n) - h (20 * r + (n + 1)))).toInt = 0 - (h (20 * r + n) - h (20 * r + (n + 1))).toInt := bn_subT (by decide) (by omega)
    unfold bf_gd
    have z0 : (0 : Int32).toInt = 0 := rfl
    by_cases y : (0 : Int32) ≤ h (20 * r + n) - h (20 * r + (n + 1))
    · simp only [if_pos y]
      rw [bn_le] at y
      split <;> omega
    · simp only [if_neg y]
      rw [bn_le] at y
      split <;> omega
theorem l_X7_steepest {d r : Nat} {M : bb_M} {R : bb_P} (hB : bf_hb (M 21 0)) (hr : r < 4) : ∀ (t n : Nat) (z : bb_V), n + t = 19 → (bb_Y (bb_CL (d + 1)) cd_X7_steepest R 4 [bb_R 7 0, bb_I (nI r), bb_I (bf_gd (M 21 0) r n), bb_I (nI (n + 1)), z] [] M ↔ R (some (bb_I (bf_gd (M 21 0) r 19))) M) := by
  intro t
  induction t with
  | zero =>
    intro n z hn
    obtain rfl : n = 19 := by omega
    have h1 : (20 : Int) ≤ ((19 + 1 : Nat) : Int) := by omega
    rw [h_X7_steepest_4]
    simp (disch := omega) only [e_X7_steepest_0, e_X7_steepest_1, e_X7_steepest_2, e_X7_steepest_3, e_X7_steepest_5, e_X7_steepest_7, e_X7_steepest_10, e_X7_steepest_11, e_X7_steepest_12, e_X7_steepest_13, e_X7_steepest_16, e_X7_steepest_17, e_X7_steepest_18, e_X7_steepest_19, e_X7_steepest_20, e_X7_steepest_21, e_X7_steepest_24, e_X7_steepest_25, e_X7_steepest_27, e_X7_steepest_29, e_X7_steepest_30, e_X7_steepest_33, e_X7_steepest_35, e_X7_steepest_38, e_X7_steepest_40, e_X7_steepest_41, e_X7_steepest_42, e_X7_steepest_45, e_X7_steepest_47, e_X7_steepest_48, e_X7_steepest_51, e_X7_steepest_52, e_X7_steepest_53, e_X7_steepest_56, e_X7_steepest_59, e_X7_steepest_60, Option.toList_some, Option.toList_none, List.cons_append, List.nil_append, true_and, and_true, and_self, bb_ite, true_or, or_true, Option.some.injEq, bb_I_eq, bb_b_0e, bb_b_1e, bb_b_e0, bb_b_e1, decide_eq_true_eq, decide_eq_false_iff_not, bn_01, bn_11, bb_b_01, ne_eq, Bool.not_eq_false, Bool.not_eq_true, Classical.not_not, bn_lt, bn_le, bn_ti, Int32.reduceToInt, bn_m20, bn_20m, nI_add, bn_p1, bn_s1, bn_in, bn_cl, implies_true, not_true_eq_false, not_false_eq_true, Bool.true_and, Bool.false_and, Bool.and_true, Bool.and_false, Bool.true_or, Bool.false_or, Bool.or_true, Bool.or_false, Bool.not_true, Bool.not_false, false_implies, true_implies, forall_const, Bool.false_eq_true, Bool.true_eq_false, reduceCtorEq, eq_self, Bool.and_eq_true, Bool.or_eq_true, Bool.and_eq_false_iff, Bool.or_eq_false_iff, and_false, false_and, or_false, false_or, h1]
  | succ t ih =>
    intro n z hn
    have h1 : ¬ (20 : Int) ≤ ((n + 1 : Nat) : Int) := by omega
    have b0 := bm_gd_b hB hr n (by omega)
    have b1 := hB (20 * r + n) (by omega)
    have b2 := hB (20 * r + (n + 1)) (by omega)
    have e1 : (M 21 0 (20 * r + (n + 1)) - M 21 0 (20 * r + n)).toInt = (M 21 0 (20 * r + (n + 1))).toInt - (M 21 0 (20 * r + n)).toInt := bn_subT (by omega) (by omega)
    have e2 : (-(M 21 0 (20 * r + (n + 1)) - M 21 0 (20 * r + n))).toInt = -(M 21 0 (20 * r + (n + 1)) - M 21 0 (20 * r + n)).toInt := bn_negT (by omega)
    have e3 : (M 21 0 (20 * r + n) - M 21 0 (20 * r + (n + 1))).toInt = (M 21 0 (20 * r + n)).toInt - (M 21 0 (20 * r + (n + 1))).toInt := bn_subT (by omega) (by omega)
    have e4 : (0 - (M 21 0 (20 * r + n) - M 21 0 (20 * r + (n + 1)))).toInt = 0 - (M 21 0 (20 * r + n) - M 21 0 (20 * r + (n + 1))).toInt := bn_subT (by decide) (by omega)
    have z0 : (0 : Int32).toInt = 0 := rfl
    have ek : bf_gd (M 21 0) r (n + 1) = (if (bf_gd (M 21 0) r n).toInt < (M 21 0 (20 * r + (n + 1)) - M 21 0 (20 * r + n)).toInt then M 21 0 (20 * r + (n + 1)) - M 21 0 (20 * r + n) else if (bf_gd (M 21 0) r n).toInt < (-(M 21 0 (20 * r + (n + 1)) - M 21 0 (20 * r + n))).toInt then -(M 21 0 (20 * r + (n + 1)) - M 21 0 (20 * r + n)) else bf_gd (M 21 0) r n) := by
      rw [bn_eq]
      show (if bf_gd (M 21 0) r n < (if 0 ≤ M 21 0 (20 * r + n) - M 21 0 (20 * r + (n + 1)) then M 21 0 (20 * r + n) - M 21 0 (20 * r + (n + 1)) else 0 - (M 21 0 (20 * r + n) - M 21 0 (20 * r + (n + 1)))) then (if 0 ≤ M 21 0 (20 * r + n) - M 21 0 (20 * r + (n + 1)) then M 21 0 (20 * r + n) - M 21 0 (20 * r + (n + 1)) else 0 - (M 21 0 (20 * r + n) - M 21 0 (20 * r + (n + 1)))) else bf_gd (M 21 0) r n).toInt = _
      generalize bf_gd (M 21 0) r n = G at *
      by_cases y : (0 : Int32) ≤ M 21 0 (20 * r + n) - M 21 0 (20 * r + (n + 1))
      · simp only [if_pos y]
        rw [bn_le] at y
        simp only [bn_lt]
        split <;> split <;> (try split) <;> omega
      · simp only [if_neg y]
        rw [bn_le] at y
        simp only [bn_lt]
        split <;> split <;> (try split) <;> omega
    rw [h_X7_steepest_4, ← ih (n + 1) (bb_I (M 21 0 (20 * r + (n + 1)) - M 21 0 (20 * r + n))) (by omega), ek]
    simp (disch := omega) only [e_X7_steepest_0, e_X7_steepest_1, e_X7_steepest_2, e_X7_steepest_3, e_X7_steepest_5, e_X7_steepest_7, e_X7_steepest_10, e_X7_steepest_11, e_X7_steepest_12, e_X7_steepest_13, e_X7_steepest_16, e_X7_steepest_17, e_X7_steepest_18, e_X7_steepest_19, e_X7_steepest_20, e_X7_steepest_21, e_X7_steepest_24, e_X7_steepest_25, e_X7_steepest_27, e_X7_steepest_29, e_X7_steepest_30, e_X7_steepest_33, e_X7_steepest_35, e_X7_steepest_38, e_X7_steepest_40, e_X7_steepest_41, e_X7_steepest_42, e_X7_steepest_45, e_X7_steepest_47, e_X7_steepest_48, e_X7_steepest_51, e_X7_steepest_52, e_X7_steepest_53, e_X7_steepest_56, e_X7_steepest_59, e_X7_steepest_60, Option.toList_some, Option.toList_none, List.cons_append, List.nil_append, true_and, and_true, and_self, bb_ite, true_or, or_true, Option.some.injEq, bb_I_eq, bb_b_0e, bb_b_1e, bb_b_e0, bb_b_e1, decide_eq_true_eq, decide_eq_false_iff_not, bn_01, bn_11, bb_b_01, ne_eq, Bool.not_eq_false, Bool.not_eq_true, Classical.not_not, bn_lt, bn_le, bn_ti, Int32.reduceToInt, bn_m20, bn_20m, nI_add, bn_p1, bn_s1, bn_in, bn_cl, implies_true, not_true_eq_false, not_false_eq_true, Bool.true_and, Bool.false_and, Bool.and_true, Bool.and_false, Bool.true_or, Bool.false_or, Bool.or_true, Bool.or_false, Bool.not_true, Bool.not_false, false_implies, true_implies, forall_const, Bool.false_eq_true, Bool.true_eq_false, reduceCtorEq, eq_self, Bool.and_eq_true, Bool.or_eq_true, Bool.and_eq_false_iff, Bool.or_eq_false_iff, and_false, false_and, or_false, false_or, h1, x_X7_heightOf, Nat.add_sub_cancel]
    by_cases y1 : (M 21 0 (20 * r + (n + 1)) - M 21 0 (20 * r + n)).toInt ≤ (bf_gd (M 21 0) r n).toInt
    · have y2 : ¬ (bf_gd (M 21 0) r n).toInt < (M 21 0 (20 * r + (n + 1)) - M 21 0 (20 * r + n)).toInt := by omega
      by_cases y3 : (-(M 21 0 (20 * r + (n + 1)) - M 21 0 (20 * r + n))).toInt ≤ (bf_gd (M 21 0) r n).toInt
      · have y4 : ¬ (bf_gd (M 21 0) r n).toInt < (-(M 21 0 (20 * r + (n + 1)) - M 21 0 (20 * r + n))).toInt := by omega
        simp only [y1, y2, y3, y4, Option.toList_some, Option.toList_none, List.cons_append, List.nil_append, true_and, and_true, and_self, bb_ite, true_or, or_true, Option.some.injEq, bb_I_eq, bb_b_0e, bb_b_1e, bb_b_e0, bb_b_e1, decide_eq_true_eq, decide_eq_false_iff_not, bn_01, bn_11, bb_b_01, ne_eq, Bool.not_eq_false, Bool.not_eq_true, Classical.not_not, bn_lt, bn_le, bn_ti, Int32.reduceToInt, bn_m20, bn_20m, nI_add, bn_p1, bn_s1, bn_in, bn_cl, implies_true, not_true_eq_false, not_false_eq_true, Bool.true_and, Bool.false_and, Bool.and_true, Bool.and_false, Bool.true_or, Bool.false_or, Bool.or_true, Bool.or_false, Bool.not_true, Bool.not_false, false_implies, true_implies, forall_const, Bool.false_eq_true, Bool.true_eq_false, reduceCtorEq, eq_self, Bool.and_eq_true, Bool.or_eq_true, Bool.and_eq_false_iff, Bool.or_eq_false_iff, and_false, false_and, or_false, false_or, if_true, if_false]
      · have y4 : (bf_gd (M 21 0) r n).toInt < (-(M 21 0 (20 * r + (n + 1)) - M 21 0 (20 * r + n))).toInt := by omega
        simp only [y1, y2, y3, y4, Option.toList_some, Option.toList_none, List.cons_append, List.nil_append, true_and, and_true, and_self, bb_ite, true_or, or_true, Option.some.injEq, bb_I_eq, bb_b_0e, bb_b_1e, bb_b_e0, bb_b_e1, decide_eq_true_eq, decide_eq_false_iff_not, bn_01, bn_11, bb_b_01, ne_eq, Bool.not_eq_false, Bool.not_eq_true, Classical.not_not, bn_lt, bn_le, bn_ti, Int32.reduceToInt, bn_m20, bn_20m, nI_add, bn_p1, bn_s1, bn_in, bn_cl, implies_true, not_true_eq_false, not_false_eq_true, Bool.true_and, Bool.false_and, Bool.and_true, Bool.and_false, Bool.true_or, Bool.false_or, Bool.or_true, Bool.or_false, Bool.not_true, Bool.not_false, false_implies, true_implies, forall_const, Bool.false_eq_true, Bool.true_eq_false, reduceCtorEq, eq_self, Bool.and_eq_true, Bool.or_eq_true, Bool.and_eq_false_iff, Bool.or_eq_false_iff, and_false, false_and, or_false, false_or, if_true, if_false]
    · have y2 : (bf_gd (M 21 0) r n).toInt < (M 21 0 (20 * r + (n + 1)) - M 21 0 (20 * r + n)).toInt := by omega
      simp only [y1, y2, Option.toList_some, Option.toList_none, List.cons_append, List.nil_append, true_and, and_true, and_self, bb_ite, true_or, or_true, Option.some.injEq, bb_I_eq, bb_b_0e, bb_b_1e, bb_b_e0, bb_b_e1, decide_eq_true_eq, decide_eq_false_iff_not, bn_01, bn_11, bb_b_01, ne_eq, Bool.not_eq_false, Bool.not_eq_true, Classical.not_not, bn_lt, bn_le, bn_ti, Int32.reduceToInt, bn_m20, bn_20m, nI_add, bn_p1, bn_s1, bn_in, bn_cl, implies_true, not_true_eq_false, not_false_eq_true, Bool.true_and, Bool.false_and, Bool.and_true, Bool.and_false, Bool.true_or, Bool.false_or, Bool.or_true, Bool.or_false, Bool.not_true, Bool.not_false, false_implies, true_implies, forall_const, Bool.false_eq_true, Bool.true_eq_false, reduceCtorEq, eq_self, Bool.and_eq_true, Bool.or_eq_true, Bool.and_eq_false_iff, Bool.or_eq_false_iff, and_false, false_and, or_false, false_or, if_true, if_false]
theorem x_X7_steepest {d r : Nat} {M : bb_M} {k : Option bb_V → bb_M → Prop} (hB : bf_hb (M 21 0)) (hr : r < 4) : bb_call (bb_CL (d + 2)) 76 [bb_R 7 0, bb_I (nI r)] M k ↔ k (some (bb_I (bf_gd (M 21 0) r 19))) M := by
  refine bb_cal (st_X7_steepest ?_)
  simp only [e_X7_steepest_0, e_X7_steepest_1, e_X7_steepest_2, e_X7_steepest_3, e_X7_steepest_5, e_X7_steepest_7, e_X7_steepest_10, e_X7_steepest_11, e_X7_steepest_12, e_X7_steepest_13, e_X7_steepest_16, e_X7_steepest_17, e_X7_steepest_18, e_X7_steepest_19, e_X7_steepest_20, e_X7_steepest_21, e_X7_steepest_24, e_X7_steepest_25, e_X7_steepest_27, e_X7_steepest_29, e_X7_steepest_30, e_X7_steepest_33, e_X7_steepest_35, e_X7_steepest_38, e_X7_steepest_40, e_X7_steepest_41, e_X7_steepest_42, e_X7_steepest_45, e_X7_steepest_47, e_X7_steepest_48, e_X7_steepest_51, e_X7_steepest_52, e_X7_steepest_53, e_X7_steepest_56, e_X7_steepest_59, e_X7_steepest_60]
  exact (l_X7_steepest (d := d) hB hr 19 0 bb_U rfl).mpr ⟨rfl, rfl⟩
theorem l_X7_highestBar {d r : Nat} {v : Int32} {M : bb_M} {R : bb_P} (hB : bf_hb (M 21 0)) (hv : M 21 0 80 + M 7 0 6 = v) (hb : 0 ≤ v.toInt ∧ v.toInt ≤ 1000) (hr : r < 4) : ∀ (t n : Nat), n + t = 20 → (bb_Y (bb_CL (d + 4)) cd_X7_highestBar R 6 [bb_R 7 0, bb_I (nI r), bb_I (bf_hn (bf_hi (M 21 0) (bf_bar (M 21 0) v r) r n)), bb_I (nI n)] [] M ↔ R (some (bb_I (bf_hn (bf_hi (M 21 0) (bf_bar (M 21 0) v r) r 20)))) M) := by
  intro t
  induction t with
  | zero =>
    intro n hn
    obtain rfl : n = 20 := by omega
    rw [h_X7_highestBar_6]
    simp (disch := omega) only [e_X7_highestBar_0, e_X7_highestBar_3, e_X7_highestBar_4, e_X7_highestBar_5, e_X7_highestBar_7, e_X7_highestBar_9, e_X7_highestBar_12, e_X7_highestBar_13, e_X7_highestBar_14, e_X7_highestBar_15, e_X7_highestBar_18, e_X7_highestBar_21, e_X7_highestBar_22, e_X7_highestBar_25, e_X7_highestBar_28, e_X7_highestBar_29, e_X7_highestBar_30, e_X7_highestBar_31, e_X7_highestBar_34, e_X7_highestBar_35, e_X7_highestBar_36, e_X7_highestBar_37, e_X7_highestBar_40, e_X7_highestBar_43, e_X7_highestBar_44, e_X7_highestBar_47, e_X7_highestBar_48, e_X7_highestBar_49, e_X7_highestBar_52, e_X7_highestBar_55, e_X7_highestBar_56, Option.toList_some, Option.toList_none, List.cons_append, List.nil_append, true_and, and_true, and_self, bb_ite, true_or, or_true, Option.some.injEq, bb_I_eq, bb_b_0e, bb_b_1e, bb_b_e0, bb_b_e1, decide_eq_true_eq, decide_eq_false_iff_not, bn_01, bn_11, bb_b_01, ne_eq, Bool.not_eq_false, Bool.not_eq_true, Classical.not_not, bn_lt, bn_le, bn_ti, Int32.reduceToInt, bn_m20, bn_20m, nI_add, bn_p1, bn_s1, bn_in, bn_cl, implies_true, not_true_eq_false, not_false_eq_true, Bool.true_and, Bool.false_and, Bool.and_true, Bool.and_false, Bool.true_or, Bool.false_or, Bool.or_true, Bool.or_false, Bool.not_true, Bool.not_false, false_implies, true_implies, forall_const, Bool.false_eq_true, Bool.true_eq_false, reduceCtorEq, eq_self, Bool.and_eq_true, Bool.or_eq_true, Bool.and_eq_false_iff, Bool.or_eq_false_iff, and_false, false_and, or_false, false_or, Int.cast_ofNat_Int, Int.le_refl]
  | succ t ih =>
    intro n hn
    have h1 : ¬ (20 : Int) ≤ (n : Int) := by omega
    have e := fun k => x_X7_isBar (d := d) (r := r) (c := n) (M := M) (k := k) hr (by omega) hB hv hb
    have es : bf_hi (M 21 0) (bf_bar (M 21 0) v r) r (n + 1) = match bf_hi (M 21 0) (bf_bar (M 21 0) v r) r n with
      | none => if bf_bar (M 21 0) v r n then some n else none
      | some b => if bf_bar (M 21 0) v r n && decide ((M 21 0 (20 * r + b)).toInt < (M 21 0 (20 * r + n)).toInt) then some n else some b := rfl
    have hlt := (bf_hi_eq (h := M 21 0) (h' := M 21 0) (p := bf_bar (M 21 0) v r) (r := r) (fun _ _ => rfl) hr n (by omega)).2
    rw [h_X7_highestBar_6, ← ih (n + 1) (by omega), es]
    cases hc : bf_hi (M 21 0) (bf_bar (M 21 0) v r) r n with
    | none =>
      have e0 : bf_hn none = -1005 := rfl
      rw [e0]
      cases hx : bf_bar (M 21 0) v r n
      · simp (disch := omega) only [e_X7_highestBar_0, e_X7_highestBar_3, e_X7_highestBar_4, e_X7_highestBar_5, e_X7_highestBar_7, e_X7_highestBar_9, e_X7_highestBar_12, e_X7_highestBar_13, e_X7_highestBar_14, e_X7_highestBar_15, e_X7_highestBar_18, e_X7_highestBar_21, e_X7_highestBar_22, e_X7_highestBar_25, e_X7_highestBar_28, e_X7_highestBar_29, e_X7_highestBar_30, e_X7_highestBar_31, e_X7_highestBar_34, e_X7_highestBar_35, e_X7_highestBar_36, e_X7_highestBar_37, e_X7_highestBar_40, e_X7_highestBar_43, e_X7_highestBar_44, e_X7_highestBar_47, e_X7_highestBar_48, e_X7_highestBar_49, e_X7_highestBar_52, e_X7_highestBar_55, e_X7_highestBar_56, Option.toList_some, Option.toList_none, List.cons_append, List.nil_append, true_and, and_true, and_self, bb_ite, true_or, or_true, Option.some.injEq, bb_I_eq, bb_b_0e, bb_b_1e, bb_b_e0, bb_b_e1, decide_eq_true_eq, decide_eq_false_iff_not, bn_01, bn_11, bb_b_01, ne_eq, Bool.not_eq_false, Bool.not_eq_true, Classical.not_not, bn_lt, bn_le, bn_ti, Int32.reduceToInt, bn_m20, bn_20m, nI_add, bn_p1, bn_s1, bn_in, bn_cl, implies_true, not_true_eq_false, not_false_eq_true, Bool.true_and, Bool.false_and, Bool.and_true, Bool.and_false, Bool.true_or, Bool.false_or, Bool.or_true, Bool.or_false, Bool.not_true, Bool.not_false, false_implies, true_implies, forall_const, Bool.false_eq_true, Bool.true_eq_false, reduceCtorEq, eq_self, Bool.and_eq_true, Bool.or_eq_true, Bool.and_eq_false_iff, Bool.or_eq_false_iff, and_false, false_and, or_false, false_or, h1, e, hx]
        rfl
      · simp (disch := omega) only [e_X7_highestBar_0, e_X7_highestBar_3, e_X7_highestBar_4, e_X7_highestBar_5, e_X7_highestBar_7, e_X7_highestBar_9, e_X7_highestBar_12, e_X7_highestBar_13, e_X7_highestBar_14, e_X7_highestBar_15, e_X7_highestBar_18, e_X7_highestBar_21, e_X7_highestBar_22, e_X7_highestBar_25, e_X7_highestBar_28, e_X7_highestBar_29, e_X7_highestBar_30, e_X7_highestBar_31, e_X7_highestBar_34, e_X7_highestBar_35, e_X7_highestBar_36, e_X7_highestBar_37, e_X7_highestBar_40, e_X7_highestBar_43, e_X7_highestBar_44, e_X7_highestBar_47, e_X7_highestBar_48, e_X7_highestBar_49, e_X7_highestBar_52, e_X7_highestBar_55, e_X7_highestBar_56, Option.toList_some, Option.toList_none, List.cons_append, List.nil_append, true_and, and_true, and_self, bb_ite, true_or, or_true, Option.some.injEq, bb_I_eq, bb_b_0e, bb_b_1e, bb_b_e0, bb_b_e1, decide_eq_true_eq, decide_eq_false_iff_not, bn_01, bn_11, bb_b_01, ne_eq, Bool.not_eq_false, Bool.not_eq_true, Classical.not_not, bn_lt, bn_le, bn_ti, Int32.reduceToInt, bn_m20, bn_20m, nI_add, bn_p1, bn_s1, bn_in, bn_cl, implies_true, not_true_eq_false, not_false_eq_true, Bool.true_and, Bool.false_and, Bool.and_true, Bool.and_false, Bool.true_or, Bool.false_or, Bool.or_true, Bool.or_false, Bool.not_true, Bool.not_false, false_implies, true_implies, forall_const, Bool.false_eq_true, Bool.true_eq_false, reduceCtorEq, eq_self, Bool.and_eq_true, Bool.or_eq_true, Bool.and_eq_false_iff, Bool.or_eq_false_iff, and_false, false_and, or_false, false_or, h1, e, hx]
        rfl
    | some b =>
      have hbn := hlt b hc
      have e0 : bf_hn (some b) = nI b := rfl
      have ne : ¬ nI b = -1005 := fun z => by
        rw [bn_eq, bn_ti (by omega)] at z
        have : (-1005 : Int32).toInt = -1005 := by decide
        omega
      rw [e0]
      cases hx : bf_bar (M 21 0) v r n
      · simp (disch := omega) only [e_X7_highestBar_0, e_X7_highestBar_3, e_X7_highestBar_4, e_X7_highestBar_5, e_X7_highestBar_7, e_X7_highestBar_9, e_X7_highestBar_12, e_X7_highestBar_13, e_X7_highestBar_14, e_X7_highestBar_15, e_X7_highestBar_18, e_X7_highestBar_21, e_X7_highestBar_22, e_X7_highestBar_25, e_X7_highestBar_28, e_X7_highestBar_29, e_X7_highestBar_30, e_X7_highestBar_31, e_X7_highestBar_34, e_X7_highestBar_35, e_X7_highestBar_36, e_X7_highestBar_37, e_X7_highestBar_40, e_X7_highestBar_43, e_X7_highestBar_44, e_X7_highestBar_47, e_X7_highestBar_48, e_X7_highestBar_49, e_X7_highestBar_52, e_X7_highestBar_55, e_X7_highestBar_56, Option.toList_some, Option.toList_none, List.cons_append, List.nil_append, true_and, and_true, and_self, bb_ite, true_or, or_true, Option.some.injEq, bb_I_eq, bb_b_0e, bb_b_1e, bb_b_e0, bb_b_e1, decide_eq_true_eq, decide_eq_false_iff_not, bn_01, bn_11, bb_b_01, ne_eq, Bool.not_eq_false, Bool.not_eq_true, Classical.not_not, bn_lt, bn_le, bn_ti, Int32.reduceToInt, bn_m20, bn_20m, nI_add, bn_p1, bn_s1, bn_in, bn_cl, implies_true, not_true_eq_false, not_false_eq_true, Bool.true_and, Bool.false_and, Bool.and_true, Bool.and_false, Bool.true_or, Bool.false_or, Bool.or_true, Bool.or_false, Bool.not_true, Bool.not_false, false_implies, true_implies, forall_const, Bool.false_eq_true, Bool.true_eq_false, reduceCtorEq, eq_self, Bool.and_eq_true, Bool.or_eq_true, Bool.and_eq_false_iff, Bool.or_eq_false_iff, and_false, false_and, or_false, false_or, h1, e, hx]
        rfl
      · by_cases y : (M 21 0 (20 * r + n)).toInt ≤ (M 21 0 (20 * r + b)).toInt
        · have y2 : ¬ (M 21 0 (20 * r + b)).toInt < (M 21 0 (20 * r + n)).toInt := by omega
          simp (disch := omega) only [e_X7_highestBar_0, e_X7_highestBar_3, e_X7_highestBar_4, e_X7_highestBar_5, e_X7_highestBar_7, e_X7_highestBar_9, e_X7_highestBar_12, e_X7_highestBar_13, e_X7_highestBar_14, e_X7_highestBar_15, e_X7_highestBar_18, e_X7_highestBar_21, e_X7_highestBar_22, e_X7_highestBar_25, e_X7_highestBar_28, e_X7_highestBar_29, e_X7_highestBar_30, e_X7_highestBar_31, e_X7_highestBar_34, e_X7_highestBar_35, e_X7_highestBar_36, e_X7_highestBar_37, e_X7_highestBar_40, e_X7_highestBar_43, e_X7_highestBar_44, e_X7_highestBar_47, e_X7_highestBar_48, e_X7_highestBar_49, e_X7_highestBar_52, e_X7_highestBar_55, e_X7_highestBar_56, Option.toList_some, Option.toList_none, List.cons_append, List.nil_append, true_and, and_true, and_self, bb_ite, true_or, or_true, Option.some.injEq, bb_I_eq, bb_b_0e, bb_b_1e, bb_b_e0, bb_b_e1, decide_eq_true_eq, decide_eq_false_iff_not, bn_01, bn_11, bb_b_01, ne_eq, Bool.not_eq_false, Bool.not_eq_true, Classical.not_not, bn_lt, bn_le, bn_ti, Int32.reduceToInt, bn_m20, bn_20m, nI_add, bn_p1, bn_s1, bn_in, bn_cl, implies_true, not_true_eq_false, not_false_eq_true, Bool.true_and, Bool.false_and, Bool.and_true, Bool.and_false, Bool.true_or, Bool.false_or, Bool.or_true, Bool.or_false, Bool.not_true, Bool.not_false, false_implies, true_implies, forall_const, Bool.false_eq_true, Bool.true_eq_false, reduceCtorEq, eq_self, Bool.and_eq_true, Bool.or_eq_true, Bool.and_eq_false_iff, Bool.or_eq_false_iff, and_false, false_and, or_false, false_or, h1, e, hx, ne, x_X7_heightOf, y, y2, decide_false, if_false]
          rfl
        · have y2 : (M 21 0 (20 * r + b)).toInt < (M 21 0 (20 * r + n)).toInt := by omega
          simp (disch := omega) only [e_X7_highestBar_0, e_X7_highestBar_3, e_X7_highestBar_4, e_X7_highestBar_5, e_X7_highestBar_7, e_X7_highestBar_9, e_X7_highestBar_12, e_X7_highestBar_13, e_X7_highestBar_14, e_X7_highestBar_15, e_X7_highestBar_18, e_X7_highestBar_21, e_X7_highestBar_22, e_X7_highestBar_25, e_X7_highestBar_28, e_X7_highestBar_29, e_X7_highestBar_30, e_X7_highestBar_31, e_X7_highestBar_34, e_X7_highestBar_35, e_X7_highestBar_36, e_X7_highestBar_37, e_X7_highestBar_40, e_X7_highestBar_43, e_X7_highestBar_44, e_X7_highestBar_47, e_X7_highestBar_48, e_X7_highestBar_49, e_X7_highestBar_52, e_X7_highestBar_55, e_X7_highestBar_56, Option.toList_some, Option.toList_none, List.cons_append, List.nil_append, true_and, and_true, and_self, bb_ite, true_or, or_true, Option.some.injEq, bb_I_eq, bb_b_0e, bb_b_1e, bb_b_e0, bb_b_e1, decide_eq_true_eq, decide_eq_false_iff_not, bn_01, bn_11, bb_b_01, ne_eq, Bool.not_eq_false, Bool.not_eq_true, Classical.not_not, bn_lt, bn_le, bn_ti, Int32.reduceToInt, bn_m20, bn_20m, nI_add, bn_p1, bn_s1, bn_in, bn_cl, implies_true, not_true_eq_false, not_false_eq_true, Bool.true_and, Bool.false_and, Bool.and_true, Bool.and_false, Bool.true_or, Bool.false_or, Bool.or_true, Bool.or_false, Bool.not_true, Bool.not_false, false_implies, true_implies, forall_const, Bool.false_eq_true, Bool.true_eq_false, reduceCtorEq, eq_self, Bool.and_eq_true, Bool.or_eq_true, Bool.and_eq_false_iff, Bool.or_eq_false_iff, and_false, false_and, or_false, false_or, h1, e, hx, ne, x_X7_heightOf, y, y2, decide_true, if_true]
          rfl
theorem x_X7_highestBar {d r : Nat} {v : Int32} {M : bb_M} {k : Option bb_V → bb_M → Prop} (hB : bf_hb (M 21 0)) (hv : M 21 0 80 + M 7 0 6 = v) (hb : 0 ≤ v.toInt ∧ v.toInt ≤ 1000) (hr : r < 4) : bb_call (bb_CL (d + 5)) 77 [bb_R 7 0, bb_I (nI r)] M k ↔ k (some (bb_I (bf_hn (bf_hi (M 21 0) (bf_bar (M 21 0) v r) r 20)))) M := by
  refine bb_cal (st_X7_highestBar ?_)
  simp only [e_X7_highestBar_0, e_X7_highestBar_3, e_X7_highestBar_4, e_X7_highestBar_5, e_X7_highestBar_7, e_X7_highestBar_9, e_X7_highestBar_12, e_X7_highestBar_13, e_X7_highestBar_14, e_X7_highestBar_15, e_X7_highestBar_18, e_X7_highestBar_21, e_X7_highestBar_22, e_X7_highestBar_25, e_X7_highestBar_28, e_X7_highestBar_29, e_X7_highestBar_30, e_X7_highestBar_31, e_X7_highestBar_34, e_X7_highestBar_35, e_X7_highestBar_36, e_X7_highestBar_37, e_X7_highestBar_40, e_X7_highestBar_43, e_X7_highestBar_44, e_X7_highestBar_47, e_X7_highestBar_48, e_X7_highestBar_49, e_X7_highestBar_52, e_X7_highestBar_55, e_X7_highestBar_56]
  exact (l_X7_highestBar (d := d) hB hv hb hr 20 0 rfl).mpr ⟨rfl, rfl⟩
/-- a row's last cell is no bar and no gap -/
theorem bf_cn_f {p : Nat → Bool} {n : Nat} (h : p n = false) : bf_cn p (n + 1) = bf_cn p n := by rw [bf_cn_s, if_neg (by rw [h]; decide)]
theorem bf_hi_f {h : Nat → Int32} {p : Nat → Bool} {r n : Nat} (hp : p n = false) : bf_hi h p r (n + 1) = bf_hi h p r n := by
  show (match bf_hi h p r n with | none => _ | some b => _) = _
  cases bf_hi h p r n with
  | none => simp [hp]
  | some b => simp [hp]
theorem x_X7_cn {d n : Nat} {p : Nat → Bool} {M : bb_M} {k : Option bb_V → bb_M → Prop} (hn : n ≤ 20) : bb_call (bb_CL (d + 1)) 74 [bb_I (bf_bits p n)] M k ↔ k (some (bb_I (nI (bf_cn p n)))) M := by
  rw [bf_bits_N p n hn, ← bf_N_pc p n hn]
  refine x_X7_many ?_
  have := bf_N_lt p n
  have : 2 ^ n ≤ 2 ^ 20 := Nat.pow_le_pow_right (by decide) hn
  omega
theorem l_X7_allB {d : Nat} {v : Int32} {M : bb_M} {R : bb_P} (hB : bf_hb (M 21 0)) (hv : M 21 0 80 + M 7 0 6 = v) (hb : 0 ≤ v.toInt ∧ v.toInt ≤ 1000) : ∀ (t r : Nat), r + t = 4 → (bb_Y (bb_CL (d + 7)) cd_X7_allMany R 4 [bb_R 7 0, bb_I 0, bb_I (nI (bf_cr (bf_bar (M 21 0) v) 20 r)), bb_I (nI r)] [] M ↔ R (some (bb_I (nI (bf_cr (bf_bar (M 21 0) v) 20 4)))) M) := by
  intro t
  induction t with
  | zero =>
    intro r hn
    obtain rfl : r = 4 := by omega
    rw [h_X7_allMany_4]
    simp (disch := omega) only [e_X7_allMany_0, e_X7_allMany_1, e_X7_allMany_2, e_X7_allMany_3, e_X7_allMany_5, e_X7_allMany_6, e_X7_allMany_9, e_X7_allMany_10, e_X7_allMany_11, e_X7_allMany_12, e_X7_allMany_13, e_X7_allMany_16, e_X7_allMany_19, e_X7_allMany_20, e_X7_allMany_21, e_X7_allMany_24, e_X7_allMany_27, e_X7_allMany_28, Option.toList_some, Option.toList_none, List.cons_append, List.nil_append, true_and, and_true, and_self, bb_ite, true_or, or_true, Option.some.injEq, bb_I_eq, bb_b_0e, bb_b_1e, bb_b_e0, bb_b_e1, decide_eq_true_eq, decide_eq_false_iff_not, bn_01, bn_11, bb_b_01, ne_eq, Bool.not_eq_false, Bool.not_eq_true, Classical.not_not, bn_lt, bn_le, bn_ti, Int32.reduceToInt, bn_m20, bn_20m, nI_add, bn_p1, bn_s1, bn_in, bn_cl, implies_true, not_true_eq_false, not_false_eq_true, Bool.true_and, Bool.false_and, Bool.and_true, Bool.and_false, Bool.true_or, Bool.false_or, Bool.or_true, Bool.or_false, Bool.not_true, Bool.not_false, false_implies, true_implies, forall_const, Bool.false_eq_true, Bool.true_eq_false, reduceCtorEq, eq_self, Bool.and_eq_true, Bool.or_eq_true, Bool.and_eq_false_iff, Bool.or_eq_false_iff, and_false, false_and, or_false, false_or, Int.cast_ofNat_Int, Int.le_refl]
  | succ t ih =>
    intro r hn
    have h1 : ¬ (4 : Int) ≤ (r : Int) := by omega
    have e := fun k => x_X7_bitsB (d := d) (r := r) (M := M) (k := k) hB hv hb (by omega)
    rw [h_X7_allMany_4, ← ih (r + 1) (by omega)]
    simp (disch := omega) only [e_X7_allMany_0, e_X7_allMany_1, e_X7_allMany_2, e_X7_allMany_3, e_X7_allMany_5, e_X7_allMany_6, e_X7_allMany_9, e_X7_allMany_10, e_X7_allMany_11, e_X7_allMany_12, e_X7_allMany_13, e_X7_allMany_16, e_X7_allMany_19, e_X7_allMany_20, e_X7_allMany_21, e_X7_allMany_24, e_X7_allMany_27, e_X7_allMany_28, Option.toList_some, Option.toList_none, List.cons_append, List.nil_append, true_and, and_true, and_self, bb_ite, true_or, or_true, Option.some.injEq, bb_I_eq, bb_b_0e, bb_b_1e, bb_b_e0, bb_b_e1, decide_eq_true_eq, decide_eq_false_iff_not, bn_01, bn_11, bb_b_01, ne_eq, Bool.not_eq_false, Bool.not_eq_true, Classical.not_not, bn_lt, bn_le, bn_ti, Int32.reduceToInt, bn_m20, bn_20m, nI_add, bn_p1, bn_s1, bn_in, bn_cl, implies_true, not_true_eq_false, not_false_eq_true, Bool.true_and, Bool.false_and, Bool.and_true, Bool.and_false, Bool.true_or, Bool.false_or, Bool.or_true, Bool.or_false, Bool.not_true, Bool.not_false, false_implies, true_implies, forall_const, Bool.false_eq_true, Bool.true_eq_false, reduceCtorEq, eq_self, Bool.and_eq_true, Bool.or_eq_true, Bool.and_eq_false_iff, Bool.or_eq_false_iff, and_false, false_and, or_false, false_or, h1, e, x_X7_cn]
    exact Iff.rfl
theorem l_X7_allG {d : Nat} {v : Int32} {M : bb_M} {R : bb_P} (hB : bf_hb (M 21 0)) (hv : M 21 0 80 + M 7 0 6 = v) (hb : 0 ≤ v.toInt ∧ v.toInt ≤ 1000) : ∀ (t r : Nat), r + t = 4 → (bb_Y (bb_CL (d + 7)) cd_X7_allMany R 4 [bb_R 7 0, bb_I 1, bb_I (nI (bf_cr (bf_gap (M 21 0) v (M 21 0 83)) 20 r)), bb_I (nI r)] [] M ↔ R (some (bb_I (nI (bf_cr (bf_gap (M 21 0) v (M 21 0 83)) 20 4)))) M) := by
  intro t
  induction t with
  | zero =>
    intro r hn
    obtain rfl : r = 4 := by omega
    rw [h_X7_allMany_4]
    simp (disch := omega) only [e_X7_allMany_0, e_X7_allMany_1, e_X7_allMany_2, e_X7_allMany_3, e_X7_allMany_5, e_X7_allMany_6, e_X7_allMany_9, e_X7_allMany_10, e_X7_allMany_11, e_X7_allMany_12, e_X7_allMany_13, e_X7_allMany_16, e_X7_allMany_19, e_X7_allMany_20, e_X7_allMany_21, e_X7_allMany_24, e_X7_allMany_27, e_X7_allMany_28, Option.toList_some, Option.toList_none, List.cons_append, List.nil_append, true_and, and_true, and_self, bb_ite, true_or, or_true, Option.some.injEq, bb_I_eq, bb_b_0e, bb_b_1e, bb_b_e0, bb_b_e1, decide_eq_true_eq, decide_eq_false_iff_not, bn_01, bn_11, bb_b_01, ne_eq, Bool.not_eq_false, Bool.not_eq_true, Classical.not_not, bn_lt, bn_le, bn_ti, Int32.reduceToInt, bn_m20, bn_20m, nI_add, bn_p1, bn_s1, bn_in, bn_cl, implies_true, not_true_eq_false, not_false_eq_true, Bool.true_and, Bool.false_and, Bool.and_true, Bool.and_false, Bool.true_or, Bool.false_or, Bool.or_true, Bool.or_false, Bool.not_true, Bool.not_false, false_implies, true_implies, forall_const, Bool.false_eq_true, Bool.true_eq_false, reduceCtorEq, eq_self, Bool.and_eq_true, Bool.or_eq_true, Bool.and_eq_false_iff, Bool.or_eq_false_iff, and_false, false_and, or_false, false_or, Int.cast_ofNat_Int, Int.le_refl]
  | succ t ih =>
    intro r hn
    have h1 : ¬ (4 : Int) ≤ (r : Int) := by omega
    have e := fun k => x_X7_bitsG (d := d) (r := r) (M := M) (k := k) hB hv hb (by omega)
    rw [h_X7_allMany_4, ← ih (r + 1) (by omega)]
    simp (disch := omega) only [e_X7_allMany_0, e_X7_allMany_1, e_X7_allMany_2, e_X7_allMany_3, e_X7_allMany_5, e_X7_allMany_6, e_X7_allMany_9, e_X7_allMany_10, e_X7_allMany_11, e_X7_allMany_12, e_X7_allMany_13, e_X7_allMany_16, e_X7_allMany_19, e_X7_allMany_20, e_X7_allMany_21, e_X7_allMany_24, e_X7_allMany_27, e_X7_allMany_28, Option.toList_some, Option.toList_none, List.cons_append, List.nil_append, true_and, and_true, and_self, bb_ite, true_or, or_true, Option.some.injEq, bb_I_eq, bb_b_0e, bb_b_1e, bb_b_e0, bb_b_e1, decide_eq_true_eq, decide_eq_false_iff_not, bn_01, bn_11, bb_b_01, ne_eq, Bool.not_eq_false, Bool.not_eq_true, Classical.not_not, bn_lt, bn_le, bn_ti, Int32.reduceToInt, bn_m20, bn_20m, nI_add, bn_p1, bn_s1, bn_in, bn_cl, implies_true, not_true_eq_false, not_false_eq_true, Bool.true_and, Bool.false_and, Bool.and_true, Bool.and_false, Bool.true_or, Bool.false_or, Bool.or_true, Bool.or_false, Bool.not_true, Bool.not_false, false_implies, true_implies, forall_const, Bool.false_eq_true, Bool.true_eq_false, reduceCtorEq, eq_self, Bool.and_eq_true, Bool.or_eq_true, Bool.and_eq_false_iff, Bool.or_eq_false_iff, and_false, false_and, or_false, false_or, h1, e, x_X7_cn]
    exact Iff.rfl
theorem bf_cr_f {p : Nat → Nat → Bool} {n : Nat} (h : ∀ r, p r n = false) : ∀ r, bf_cr p (n + 1) r = bf_cr p n r
  | 0 => rfl
  | r + 1 => by
    show bf_cr p (n + 1) r + bf_cn (p r) (n + 1) = bf_cr p n r + bf_cn (p r) n
    rw [bf_cr_f h r, bf_cn_f (h r)]
theorem x_X7_allB {d : Nat} {v : Int32} {M : bb_M} {k : Option bb_V → bb_M → Prop} (hB : bf_hb (M 21 0)) (hv : M 21 0 80 + M 7 0 6 = v) (hb : 0 ≤ v.toInt ∧ v.toInt ≤ 1000) : bb_call (bb_CL (d + 8)) 83 [bb_R 7 0, bb_I 0] M k ↔ k (some (bb_I (nI (bf_cr (bf_bar (M 21 0) v) 19 4)))) M := by
  refine bb_cal (st_X7_allMany ?_)
  simp only [e_X7_allMany_0, e_X7_allMany_1, e_X7_allMany_2, e_X7_allMany_3, e_X7_allMany_5, e_X7_allMany_6, e_X7_allMany_9, e_X7_allMany_10, e_X7_allMany_11, e_X7_allMany_12, e_X7_allMany_13, e_X7_allMany_16, e_X7_allMany_19, e_X7_allMany_20, e_X7_allMany_21, e_X7_allMany_24, e_X7_allMany_27, e_X7_allMany_28]
  rw [← bf_cr_f (p := bf_bar (M 21 0) v) (n := 19) (fun r => bf_bar_19) 4]
  exact (l_X7_allB (d := d) hB hv hb 4 0 rfl).mpr ⟨rfl, rfl⟩
theorem x_X7_allG {d : Nat} {v : Int32} {M : bb_M} {k : Option bb_V → bb_M → Prop} (hB : bf_hb (M 21 0)) (hv : M 21 0 80 + M 7 0 6 = v) (hb : 0 ≤ v.toInt ∧ v.toInt ≤ 1000) : bb_call (bb_CL (d + 8)) 83 [bb_R 7 0, bb_I 1] M k ↔ k (some (bb_I (nI (bf_cr (bf_gap (M 21 0) v (M 21 0 83)) 19 4)))) M := by
  refine bb_cal (st_X7_allMany ?_)
  simp only [e_X7_allMany_0, e_X7_allMany_1, e_X7_allMany_2, e_X7_allMany_3, e_X7_allMany_5, e_X7_allMany_6, e_X7_allMany_9, e_X7_allMany_10, e_X7_allMany_11, e_X7_allMany_12, e_X7_allMany_13, e_X7_allMany_16, e_X7_allMany_19, e_X7_allMany_20, e_X7_allMany_21, e_X7_allMany_24, e_X7_allMany_27, e_X7_allMany_28]
  rw [← bf_cr_f (p := bf_gap (M 21 0) v (M 21 0 83)) (n := 19) (fun r => bf_gap_19) 4]
  exact (l_X7_allG (d := d) hB hv hb 4 0 rfl).mpr ⟨rfl, rfl⟩
def bm_lc (p : Nat → Nat → Bool) : Nat → Nat
  | 0 => 0
  | k + 1 => if p (k / 20) (k % 20) then bm_lc p k + 1 else bm_lc p k
theorem bm_lc_row {p : Nat → Nat → Bool} {r : Nat} (e : bm_lc p (20 * r) = bf_cr p 20 r) : ∀ c, c ≤ 20 → bm_lc p (20 * r + c) = bf_cr p 20 r + bf_cn (p r) c
  | 0, _ => e
  | c + 1, hc => by
    show (if p ((20 * r + c) / 20) ((20 * r + c) % 20) then bm_lc p (20 * r + c) + 1 else bm_lc p (20 * r + c)) = _
    rw [show (20 * r + c) / 20 = r by omega, show (20 * r + c) % 20 = c by omega, bm_lc_row e c (by omega), bf_cn_s]
    split
    · rw [Nat.add_assoc]
    · rfl
theorem bm_lc_cr {p : Nat → Nat → Bool} : ∀ r, bm_lc p (20 * r) = bf_cr p 20 r
  | 0 => rfl
  | r + 1 => bm_lc_row (bm_lc_cr r) 20 (Nat.le_refl _)
theorem l_X7_dryCells {d : Nat} {v : Int32} {M : bb_M} {R : bb_P} (hB : bf_hb (M 21 0)) (hv : M 21 0 80 + M 7 0 6 = v) (hb : 0 ≤ v.toInt ∧ v.toInt ≤ 1000) : ∀ (t n : Nat), n + t = 80 → (bb_Y (bb_CL (d + 3)) cd_X7_dryCells R 4 [bb_R 7 0, bb_I (nI (bm_lc (bf_dry (M 21 0) v) n)), bb_I (nI n)] [] M ↔ R (some (bb_I (nI (bm_lc (bf_dry (M 21 0) v) 80)))) M) := by
  intro t
  induction t with
  | zero =>
    intro n hn
    obtain rfl : n = 80 := by omega
    rw [h_X7_dryCells_4]
    simp (disch := omega) only [e_X7_dryCells_0, e_X7_dryCells_1, e_X7_dryCells_2, e_X7_dryCells_3, e_X7_dryCells_5, e_X7_dryCells_7, e_X7_dryCells_10, e_X7_dryCells_11, e_X7_dryCells_12, e_X7_dryCells_13, e_X7_dryCells_15, e_X7_dryCells_16, e_X7_dryCells_17, e_X7_dryCells_19, e_X7_dryCells_20, e_X7_dryCells_23, e_X7_dryCells_26, e_X7_dryCells_27, e_X7_dryCells_30, e_X7_dryCells_31, e_X7_dryCells_32, e_X7_dryCells_33, e_X7_dryCells_36, e_X7_dryCells_39, e_X7_dryCells_40, Option.toList_some, Option.toList_none, List.cons_append, List.nil_append, true_and, and_true, and_self, bb_ite, true_or, or_true, Option.some.injEq, bb_I_eq, bb_b_0e, bb_b_1e, bb_b_e0, bb_b_e1, decide_eq_true_eq, decide_eq_false_iff_not, bn_01, bn_11, bb_b_01, ne_eq, Bool.not_eq_false, Bool.not_eq_true, Classical.not_not, bn_lt, bn_le, bn_ti, Int32.reduceToInt, bn_m20, bn_20m, nI_add, bn_p1, bn_s1, bn_in, bn_cl, implies_true, not_true_eq_false, not_false_eq_true, Bool.true_and, Bool.false_and, Bool.and_true, Bool.and_false, Bool.true_or, Bool.false_or, Bool.or_true, Bool.or_false, Bool.not_true, Bool.not_false, false_implies, true_implies, forall_const, Bool.false_eq_true, Bool.true_eq_false, reduceCtorEq, eq_self, Bool.and_eq_true, Bool.or_eq_true, Bool.and_eq_false_iff, Bool.or_eq_false_iff, and_false, false_and, or_false, false_or, Int.cast_ofNat_Int, Int.le_refl]
  | succ t ih =>
    intro n hn
    have h1 : ¬ (80 : Int) ≤ (n : Int) := by omega
    have e := fun k => x_X7_isDry (d := d) (r := n / 20) (c := n % 20) (M := M) (k := k) (by omega) (by omega) hB hv hb
    have es : bm_lc (bf_dry (M 21 0) v) (n + 1) = if bf_dry (M 21 0) v (n / 20) (n % 20) then bm_lc (bf_dry (M 21 0) v) n + 1 else bm_lc (bf_dry (M 21 0) v) n := rfl
    rw [h_X7_dryCells_4, ← ih (n + 1) (by omega), es]
    simp (disch := omega) only [e_X7_dryCells_0, e_X7_dryCells_1, e_X7_dryCells_2, e_X7_dryCells_3, e_X7_dryCells_5, e_X7_dryCells_7, e_X7_dryCells_10, e_X7_dryCells_11, e_X7_dryCells_12, e_X7_dryCells_13, e_X7_dryCells_15, e_X7_dryCells_16, e_X7_dryCells_17, e_X7_dryCells_19, e_X7_dryCells_20, e_X7_dryCells_23, e_X7_dryCells_26, e_X7_dryCells_27, e_X7_dryCells_30, e_X7_dryCells_31, e_X7_dryCells_32, e_X7_dryCells_33, e_X7_dryCells_36, e_X7_dryCells_39, e_X7_dryCells_40, Option.toList_some, Option.toList_none, List.cons_append, List.nil_append, true_and, and_true, and_self, bb_ite, true_or, or_true, Option.some.injEq, bb_I_eq, bb_b_0e, bb_b_1e, bb_b_e0, bb_b_e1, decide_eq_true_eq, decide_eq_false_iff_not, bn_01, bn_11, bb_b_01, ne_eq, Bool.not_eq_false, Bool.not_eq_true, Classical.not_not, bn_lt, bn_le, bn_ti, Int32.reduceToInt, bn_m20, bn_20m, nI_add, bn_p1, bn_s1, bn_in, bn_cl, implies_true, not_true_eq_false, not_false_eq_true, Bool.true_and, Bool.false_and, Bool.and_true, Bool.and_false, Bool.true_or, Bool.false_or, Bool.or_true, Bool.or_false, Bool.not_true, Bool.not_false, false_implies, true_implies, forall_const, Bool.false_eq_true, Bool.true_eq_false, reduceCtorEq, eq_self, Bool.and_eq_true, Bool.or_eq_true, Bool.and_eq_false_iff, Bool.or_eq_false_iff, and_false, false_and, or_false, false_or, h1, bm_20, bm_d20, bm_r2q, e]
    cases bf_dry (M 21 0) v (n / 20) (n % 20)
    · simp only [Option.toList_some, Option.toList_none, List.cons_append, List.nil_append, true_and, and_true, and_self, bb_ite, true_or, or_true, Option.some.injEq, bb_I_eq, bb_b_0e, bb_b_1e, bb_b_e0, bb_b_e1, decide_eq_true_eq, decide_eq_false_iff_not, bn_01, bn_11, bb_b_01, ne_eq, Bool.not_eq_false, Bool.not_eq_true, Classical.not_not, bn_lt, bn_le, bn_ti, Int32.reduceToInt, bn_m20, bn_20m, nI_add, bn_p1, bn_s1, bn_in, bn_cl, implies_true, not_true_eq_false, not_false_eq_true, Bool.true_and, Bool.false_and, Bool.and_true, Bool.and_false, Bool.true_or, Bool.false_or, Bool.or_true, Bool.or_false, Bool.not_true, Bool.not_false, false_implies, true_implies, forall_const, Bool.false_eq_true, Bool.true_eq_false, reduceCtorEq, eq_self, Bool.and_eq_true, Bool.or_eq_true, Bool.and_eq_false_iff, Bool.or_eq_false_iff, and_false, false_and, or_false, false_or, Int32.add_zero, if_false]
    · simp only [Option.toList_some, Option.toList_none, List.cons_append, List.nil_append, true_and, and_true, and_self, bb_ite, true_or, or_true, Option.some.injEq, bb_I_eq, bb_b_0e, bb_b_1e, bb_b_e0, bb_b_e1, decide_eq_true_eq, decide_eq_false_iff_not, bn_01, bn_11, bb_b_01, ne_eq, Bool.not_eq_false, Bool.not_eq_true, Classical.not_not, bn_lt, bn_le, bn_ti, Int32.reduceToInt, bn_m20, bn_20m, nI_add, bn_p1, bn_s1, bn_in, bn_cl, implies_true, not_true_eq_false, not_false_eq_true, Bool.true_and, Bool.false_and, Bool.and_true, Bool.and_false, Bool.true_or, Bool.false_or, Bool.or_true, Bool.or_false, Bool.not_true, Bool.not_false, false_implies, true_implies, forall_const, Bool.false_eq_true, Bool.true_eq_false, reduceCtorEq, eq_self, Bool.and_eq_true, Bool.or_eq_true, Bool.and_eq_false_iff, Bool.or_eq_false_iff, and_false, false_and, or_false, false_or, if_true]
theorem x_X7_dryCells {d : Nat} {v : Int32} {M : bb_M} {k : Option bb_V → bb_M → Prop} (hB : bf_hb (M 21 0)) (hv : M 21 0 80 + M 7 0 6 = v) (hb : 0 ≤ v.toInt ∧ v.toInt ≤ 1000) : bb_call (bb_CL (d + 4)) 84 [bb_R 7 0] M k ↔ k (some (bb_I (nI (bf_cr (bf_dry (M 21 0) v) 20 4)))) M := by
  refine bb_cal (st_X7_dryCells ?_)
  simp only [e_X7_dryCells_0, e_X7_dryCells_1, e_X7_dryCells_2, e_X7_dryCells_3, e_X7_dryCells_5, e_X7_dryCells_7, e_X7_dryCells_10, e_X7_dryCells_11, e_X7_dryCells_12, e_X7_dryCells_13, e_X7_dryCells_15, e_X7_dryCells_16, e_X7_dryCells_17, e_X7_dryCells_19, e_X7_dryCells_20, e_X7_dryCells_23, e_X7_dryCells_26, e_X7_dryCells_27, e_X7_dryCells_30, e_X7_dryCells_31, e_X7_dryCells_32, e_X7_dryCells_33, e_X7_dryCells_36, e_X7_dryCells_39, e_X7_dryCells_40]
  rw [← bm_lc_cr 4]
  exact (l_X7_dryCells (d := d) hB hv hb 80 0 rfl).mpr ⟨rfl, rfl⟩
/-! remember, acted -/
theorem l_X7_remember {d : Nat} {M : bb_M} {R : bb_P} : ∀ (t n : Nat), n + t = 311 → (bb_Y (bb_CL d) cd_X7_remember R 2 [bb_R 7 0, bb_I (nI n)] [] (bb_wr M 22 0 0 n (M 21 0)) ↔ R none (bb_wr M 22 0 0 311 (M 21 0))) := by
  intro t
  induction t with
  | zero =>
    intro n hn
    obtain rfl : n = 311 := by omega
    rw [h_X7_remember_2]
    simp (disch := omega) only [e_X7_remember_0, e_X7_remember_1, e_X7_remember_3, e_X7_remember_6, e_X7_remember_9, e_X7_remember_10, e_X7_remember_13, e_X7_remember_14, e_X7_remember_15, e_X7_remember_18, e_X7_remember_19, e_X7_remember_20, e_X7_remember_21, e_X7_remember_24, e_X7_remember_27, Option.toList_some, Option.toList_none, List.cons_append, List.nil_append, true_and, and_true, and_self, bb_ite, true_or, or_true, Option.some.injEq, bb_I_eq, bb_b_0e, bb_b_1e, bb_b_e0, bb_b_e1, decide_eq_true_eq, decide_eq_false_iff_not, bn_01, bn_11, bb_b_01, ne_eq, Bool.not_eq_false, Bool.not_eq_true, Classical.not_not, bn_lt, bn_le, bn_ti, Int32.reduceToInt, bn_m20, bn_20m, nI_add, bn_p1, bn_s1, bn_in, bn_cl, implies_true, not_true_eq_false, not_false_eq_true, Bool.true_and, Bool.false_and, Bool.and_true, Bool.and_false, Bool.true_or, Bool.false_or, Bool.or_true, Bool.or_false, Bool.not_true, Bool.not_false, false_implies, true_implies, forall_const, Bool.false_eq_true, Bool.true_eq_false, reduceCtorEq, eq_self, Bool.and_eq_true, Bool.or_eq_true, Bool.and_eq_false_iff, Bool.or_eq_false_iff, and_false, false_and, or_false, false_or, Int.cast_ofNat_Int, Int.le_refl]
  | succ t ih =>
    intro n hn
    have h1 : ¬ (311 : Int) ≤ (n : Int) := by omega
    have e1 : bb_wr M 22 0 0 n (M 21 0) 21 0 n = M 21 0 n := bb_wr_k (by decide)
    have e2 : bb_up (bb_wr M 22 0 0 n (M 21 0)) 22 0 n (M 21 0 n) = bb_wr M 22 0 0 (n + 1) (M 21 0) := by
      rw [bb_wr_one, bb_wr_up0 (by omega)]
      refine bb_wr_cong (fun c hc => ?_)
      simp only [bf_upd]
      split
      · rename_i z; rw [z]
      · rfl
    rw [h_X7_remember_2, ← ih (n + 1) (by omega)]
    simp (disch := omega) only [e_X7_remember_0, e_X7_remember_1, e_X7_remember_3, e_X7_remember_6, e_X7_remember_9, e_X7_remember_10, e_X7_remember_13, e_X7_remember_14, e_X7_remember_15, e_X7_remember_18, e_X7_remember_19, e_X7_remember_20, e_X7_remember_21, e_X7_remember_24, e_X7_remember_27, Option.toList_some, Option.toList_none, List.cons_append, List.nil_append, true_and, and_true, and_self, bb_ite, true_or, or_true, Option.some.injEq, bb_I_eq, bb_b_0e, bb_b_1e, bb_b_e0, bb_b_e1, decide_eq_true_eq, decide_eq_false_iff_not, bn_01, bn_11, bb_b_01, ne_eq, Bool.not_eq_false, Bool.not_eq_true, Classical.not_not, bn_lt, bn_le, bn_ti, Int32.reduceToInt, bn_m20, bn_20m, nI_add, bn_p1, bn_s1, bn_in, bn_cl, implies_true, not_true_eq_false, not_false_eq_true, Bool.true_and, Bool.false_and, Bool.and_true, Bool.and_false, Bool.true_or, Bool.false_or, Bool.or_true, Bool.or_false, Bool.not_true, Bool.not_false, false_implies, true_implies, forall_const, Bool.false_eq_true, Bool.true_eq_false, reduceCtorEq, eq_self, Bool.and_eq_true, Bool.or_eq_true, Bool.and_eq_false_iff, Bool.or_eq_false_iff, and_false, false_and, or_false, false_or, h1, e1, e2]
theorem x_X7_remember {d : Nat} {M : bb_M} {k : Option bb_V → bb_M → Prop} : bb_call (bb_CL (d + 1)) 31 [bb_R 7 0] M k ↔ k none (bb_wr M 22 0 0 311 (M 21 0)) := by
  refine bb_cal (st_X7_remember ?_)
  simp only [e_X7_remember_0, e_X7_remember_1, e_X7_remember_3, e_X7_remember_6, e_X7_remember_9, e_X7_remember_10, e_X7_remember_13, e_X7_remember_14, e_X7_remember_15, e_X7_remember_18, e_X7_remember_19, e_X7_remember_20, e_X7_remember_21, e_X7_remember_24, e_X7_remember_27]
  have := (l_X7_remember (d := d) (M := M) (R := fun r' M' => r' = none ∧ M' = bb_wr M 22 0 0 311 (M 21 0)) 311 0 rfl).mpr ⟨rfl, rfl⟩
  rw [bb_wr_same (M := M) (k := 22) (i := 0) (a := 0) (n := 0) (fun c hc => absurd hc (Nat.not_lt_zero c))] at this
  exact this
