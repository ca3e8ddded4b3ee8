/-! SAND: more that is read -/
/-- the greatest number below n of which p holds, -1005 without one -/
def bf_ld (p : Nat → Bool) : Nat → Int32
  | 0 => -1005
  | n + 1 => if p n then nI n else bf_ld p n
theorem l_X3_lastDry {d i r : Nat} {v : Int32} {M : bb_M} {R : bb_P} (hr : r < 4) : ∀ (n : Nat), n ≤ 20 → (bb_Y (bb_CL (d + 2)) cd_X3_lastDry R 3 [bb_R 3 i, bb_I (nI r), bb_I v, bb_I (nI n + (-1))] [] M ↔ R (some (bb_I (bf_ld (bf_dry (M 10 i) v r) n))) M) := by
  intro n
  induction n with
  | zero =>
    intro hn
    rw [h_X3_lastDry_3]
    have h1 : (nI 0 + (-1)).toInt < 0 := by decide
    simp (disch := omega) only [e_X3_lastDry_0, e_X3_lastDry_2, e_X3_lastDry_4, e_X3_lastDry_7, e_X3_lastDry_8, e_X3_lastDry_9, e_X3_lastDry_10, e_X3_lastDry_11, e_X3_lastDry_14, e_X3_lastDry_17, e_X3_lastDry_18, e_X3_lastDry_19, e_X3_lastDry_22, e_X3_lastDry_25, e_X3_lastDry_28, Option.toList_some, Option.toList_none, List.cons_append, List.nil_append, true_and, and_true, and_self, bb_ite, true_or, or_true, Option.some.injEq, bb_I_eq, bb_b_0e, bb_b_1e, bb_b_e0, bb_b_e1, decide_eq_true_eq, decide_eq_false_iff_not, bn_01, bn_11, bb_b_01, ne_eq, Bool.not_eq_false, Bool.not_eq_true, Classical.not_not, bn_lt, bn_le, bn_ti, Int32.reduceToInt, bn_m20, bn_20m, nI_add, bn_p1, bn_s1, bn_in, bn_cl, implies_true, not_true_eq_false, not_false_eq_true, Bool.true_and, Bool.false_and, Bool.and_true, Bool.and_false, Bool.true_or, Bool.false_or, Bool.or_true, Bool.or_false, Bool.not_true, Bool.not_false, false_implies, true_implies, forall_const, Bool.false_eq_true, Bool.true_eq_false, reduceCtorEq, eq_self, Bool.and_eq_true, Bool.or_eq_true, Bool.and_eq_false_iff, Bool.or_eq_false_iff, and_false, false_and, or_false, false_or, h1]
    rfl
  | succ n ih =>
    intro hn
    rw [h_X3_lastDry_3, pk_m1]
    have h1 : ¬ (n : Int) < 0 := by omega
    have e := ih (by omega)
    simp (disch := omega) only [e_X3_lastDry_0, e_X3_lastDry_2, e_X3_lastDry_4, e_X3_lastDry_7, e_X3_lastDry_8, e_X3_lastDry_9, e_X3_lastDry_10, e_X3_lastDry_11, e_X3_lastDry_14, e_X3_lastDry_17, e_X3_lastDry_18, e_X3_lastDry_19, e_X3_lastDry_22, e_X3_lastDry_25, e_X3_lastDry_28, x_X3_isDry, Option.toList_some, Option.toList_none, List.cons_append, List.nil_append, true_and, and_true, and_self, bb_ite, true_or, or_true, Option.some.injEq, bb_I_eq, bb_b_0e, bb_b_1e, bb_b_e0, bb_b_e1, decide_eq_true_eq, decide_eq_false_iff_not, bn_01, bn_11, bb_b_01, ne_eq, Bool.not_eq_false, Bool.not_eq_true, Classical.not_not, bn_lt, bn_le, bn_ti, Int32.reduceToInt, bn_m20, bn_20m, nI_add, bn_p1, bn_s1, bn_in, bn_cl, implies_true, not_true_eq_false, not_false_eq_true, Bool.true_and, Bool.false_and, Bool.and_true, Bool.and_false, Bool.true_or, Bool.false_or, Bool.or_true, Bool.or_false, Bool.not_true, Bool.not_false, false_implies, true_implies, forall_const, Bool.false_eq_true, Bool.true_eq_false, reduceCtorEq, eq_self, Bool.and_eq_true, Bool.or_eq_true, Bool.and_eq_false_iff, Bool.or_eq_false_iff, and_false, false_and, or_false, false_or, h1, e]
    show (bf_dry (M 10 i) v r n = false → _) ∧ (bf_dry (M 10 i) v r n = true → _) ↔ R (some (bb_I (if bf_dry (M 10 i) v r n then nI n else bf_ld (bf_dry (M 10 i) v r) n))) M
    cases bf_dry (M 10 i) v r n <;> simp
theorem x_X3_lastDry {d i r : Nat} {v : Int32} {M : bb_M} {k : Option bb_V → bb_M → Prop} (hr : r < 4) : bb_call (bb_CL (d + 3)) 59 [bb_R 3 i, bb_I (nI r), bb_I v] M k ↔ k (some (bb_I (bf_ld (bf_dry (M 10 i) v r) 20))) M := by
  refine bb_cal (st_X3_lastDry ?_)
  simp (disch := omega) only [e_X3_lastDry_0, e_X3_lastDry_2, e_X3_lastDry_4, e_X3_lastDry_7, e_X3_lastDry_8, e_X3_lastDry_9, e_X3_lastDry_10, e_X3_lastDry_11, e_X3_lastDry_14, e_X3_lastDry_17, e_X3_lastDry_18, e_X3_lastDry_19, e_X3_lastDry_22, e_X3_lastDry_25, e_X3_lastDry_28]
  exact (l_X3_lastDry (d := d) (i := i) (v := v) (M := M) hr 20 (Nat.le_refl _)).mpr ⟨rfl, rfl⟩
/-- the greatest difference of n cells and the next ones -/
def bf_gd (h : Nat → Int32) (r : Nat) : Nat → Int32
  | 0 => 0
  | n + 1 => if bf_gd h r n < (if 0 ≤ h (20 * r + n) - h (20 * r + (n + 1)) then h (20 * r + n) - h (20 * r + (n + 1)) else 0 - (h (20 * r + n) - h (20 * r + (n + 1)))) then (if 0 ≤ h (20 * r + n) - h (20 * r + (n + 1)) then h (20 * r + n) - h (20 * r + (n + 1)) else 0 - (h (20 * r + n) - h (20 * r + (n + 1)))) else bf_gd h r n
theorem l_X3_gd {d i r : Nat} {M : bb_M} {R : bb_P} (hr : r < 4) : ∀ (t n : Nat), n + t = 19 → (bb_Y (bb_CL (d + 1)) cd_X3_greatestDifference R 4 [bb_R 3 i, bb_I (nI r), bb_I (bf_gd (M 10 i) r n), bb_I (nI n)] [] M ↔ R (some (bb_I (bf_gd (M 10 i) r 19))) M) := by
  intro t
  induction t with
  | zero =>
    intro n hn
    obtain rfl : n = 19 := by omega
    rw [h_X3_greatestDifference_4]
    simp (disch := omega) only [e_X3_greatestDifference_0, e_X3_greatestDifference_1, e_X3_greatestDifference_2, e_X3_greatestDifference_3, e_X3_greatestDifference_5, e_X3_greatestDifference_7, e_X3_greatestDifference_10, e_X3_greatestDifference_11, e_X3_greatestDifference_12, e_X3_greatestDifference_13, e_X3_greatestDifference_14, e_X3_greatestDifference_17, e_X3_greatestDifference_18, e_X3_greatestDifference_19, e_X3_greatestDifference_20, e_X3_greatestDifference_21, e_X3_greatestDifference_22, e_X3_greatestDifference_25, e_X3_greatestDifference_26, e_X3_greatestDifference_29, e_X3_greatestDifference_32, e_X3_greatestDifference_33, e_X3_greatestDifference_36, e_X3_greatestDifference_39, e_X3_greatestDifference_40, Option.toList_some, Option.toList_none, List.cons_append, List.nil_append, true_and, and_true, and_self, bb_ite, true_or, or_true, Option.some.injEq, bb_I_eq, bb_b_0e, bb_b_1e, bb_b_e0, bb_b_e1, decide_eq_true_eq, decide_eq_false_iff_not, bn_01, bn_11, bb_b_01, ne_eq, Bool.not_eq_false, Bool.not_eq_true, Classical.not_not, bn_lt, bn_le, bn_ti, Int32.reduceToInt, bn_m20, bn_20m, nI_add, bn_p1, bn_s1, bn_in, bn_cl, implies_true, not_true_eq_false, not_false_eq_true, Bool.true_and, Bool.false_and, Bool.and_true, Bool.and_false, Bool.true_or, Bool.false_or, Bool.or_true, Bool.or_false, Bool.not_true, Bool.not_false, false_implies, true_implies, forall_const, Bool.false_eq_true, Bool.true_eq_false, reduceCtorEq, eq_self, Bool.and_eq_true, Bool.or_eq_true, Bool.and_eq_false_iff, Bool.or_eq_false_iff, and_false, false_and, or_false, false_or, Int.cast_ofNat_Int, Int.le_refl]
  | succ t ih =>
    intro n hn
    rw [h_X3_greatestDifference_4, ← ih (n + 1) (by omega)]
    have h1 : ¬ (nI 19 ≤ nI n) := nI_ge (by omega) (by omega)
    have h2 : (19 : Int32) = nI 19 := rfl
    simp (disch := omega) only [e_X3_greatestDifference_0, e_X3_greatestDifference_1, e_X3_greatestDifference_2, e_X3_greatestDifference_3, e_X3_greatestDifference_5, e_X3_greatestDifference_7, e_X3_greatestDifference_10, e_X3_greatestDifference_11, e_X3_greatestDifference_12, e_X3_greatestDifference_13, e_X3_greatestDifference_14, e_X3_greatestDifference_17, e_X3_greatestDifference_18, e_X3_greatestDifference_19, e_X3_greatestDifference_20, e_X3_greatestDifference_21, e_X3_greatestDifference_22, e_X3_greatestDifference_25, e_X3_greatestDifference_26, e_X3_greatestDifference_29, e_X3_greatestDifference_32, e_X3_greatestDifference_33, e_X3_greatestDifference_36, e_X3_greatestDifference_39, e_X3_greatestDifference_40, x_X3_heightAt, Option.toList_some, Option.toList_none, List.cons_append, List.nil_append, true_and, and_true, and_self, bb_ite, true_or, or_true, Option.some.injEq, bb_I_eq, bb_b_0e, bb_b_1e, bb_b_e0, bb_b_e1, decide_eq_true_eq, decide_eq_false_iff_not, bn_01, bn_11, bb_b_01, ne_eq, Bool.not_eq_false, Bool.not_eq_true, Classical.not_not, bn_p1, h2, h1, true_implies, false_implies, not_false_eq_true]
    rfl
theorem x_X3_greatestDifference {d i r : Nat} {M : bb_M} {k : Option bb_V → bb_M → Prop} (hr : r < 4) : bb_call (bb_CL (d + 2)) 60 [bb_R 3 i, bb_I (nI r)] M k ↔ k (some (bb_I (bf_gd (M 10 i) r 19))) M := by
  refine bb_cal (st_X3_greatestDifference ?_)
  simp (disch := omega) only [e_X3_greatestDifference_0, e_X3_greatestDifference_1, e_X3_greatestDifference_2, e_X3_greatestDifference_3, e_X3_greatestDifference_5, e_X3_greatestDifference_7, e_X3_greatestDifference_10, e_X3_greatestDifference_11, e_X3_greatestDifference_12, e_X3_greatestDifference_13, e_X3_greatestDifference_14, e_X3_greatestDifference_17, e_X3_greatestDifference_18, e_X3_greatestDifference_19, e_X3_greatestDifference_20, e_X3_greatestDifference_21, e_X3_greatestDifference_22, e_X3_greatestDifference_25, e_X3_greatestDifference_26, e_X3_greatestDifference_29, e_X3_greatestDifference_32, e_X3_greatestDifference_33, e_X3_greatestDifference_36, e_X3_greatestDifference_39, e_X3_greatestDifference_40]
  exact (l_X3_gd (d := d) (i := i) (M := M) hr 19 0 rfl).mpr ⟨rfl, rfl⟩
/-- the highest of which p holds, of several the first -/
def bf_hi (h : Nat → Int32) (p : Nat → Bool) (r : Nat) : Nat → Option Nat
  | 0 => none
  | n + 1 => match bf_hi h p r n with
    | none => if p n then some n else none
    | some b => if p n && decide ((h (20 * r + b)).toInt < (h (20 * r + n)).toInt) then some n else some b
def bf_hn (o : Option Nat) : Int32 := match o with | none => -1005 | some b => nI b
def bf_hh (h : Nat → Int32) (r : Nat) (o : Option Nat) : Int32 := match o with | none => -1 | some b => h (20 * r + b)
theorem l_X3_hi {d i r : Nat} {v : Int32} {M : bb_M} {R : bb_P} (hr : r < 4) (hB : bf_hb (M 10 i)) : ∀ (t n : Nat), n + t = 19 → (bb_Y (bb_CL (d + 1)) cd_X3_highestBar R 10 [bb_R 3 i, bb_I (nI r), bb_I v, bb_I (bf_hn (bf_hi (M 10 i) (bf_bar (M 10 i) v r) r n)), bb_I (bf_hh (M 10 i) r (bf_hi (M 10 i) (bf_bar (M 10 i) v r) r n)), bb_I (nI n)] [] M ↔ R (some (bb_I (bf_hn (bf_hi (M 10 i) (bf_bar (M 10 i) v r) r 19)))) M) := by
  intro t
  induction t with
  | zero =>
    intro n hn
    obtain rfl : n = 19 := by omega
    rw [h_X3_highestBar_10]
    simp (disch := omega) only [e_X3_highestBar_0, e_X3_highestBar_3, e_X3_highestBar_4, e_X3_highestBar_5, e_X3_highestBar_7, e_X3_highestBar_8, e_X3_highestBar_12, e_X3_highestBar_14, e_X3_highestBar_17, e_X3_highestBar_18, e_X3_highestBar_19, e_X3_highestBar_21, e_X3_highestBar_22, e_X3_highestBar_25, e_X3_highestBar_28, e_X3_highestBar_29, e_X3_highestBar_30, e_X3_highestBar_32, e_X3_highestBar_35, e_X3_highestBar_37, e_X3_highestBar_40, e_X3_highestBar_41, e_X3_highestBar_42, e_X3_highestBar_44, e_X3_highestBar_47, e_X3_highestBar_49, e_X3_highestBar_51, e_X3_highestBar_52, e_X3_highestBar_55, e_X3_highestBar_58, e_X3_highestBar_59, Option.toList_some, Option.toList_none, List.cons_append, List.nil_append, true_and, and_true, and_self, bb_ite, true_or, or_true, Option.some.injEq, bb_I_eq, bb_b_0e, bb_b_1e, bb_b_e0, bb_b_e1, decide_eq_true_eq, decide_eq_false_iff_not, bn_01, bn_11, bb_b_01, ne_eq, Bool.not_eq_false, Bool.not_eq_true, Classical.not_not, bn_lt, bn_le, bn_ti, Int32.reduceToInt, bn_m20, bn_20m, nI_add, bn_p1, bn_s1, bn_in, bn_cl, implies_true, not_true_eq_false, not_false_eq_true, Bool.true_and, Bool.false_and, Bool.and_true, Bool.and_false, Bool.true_or, Bool.false_or, Bool.or_true, Bool.or_false, Bool.not_true, Bool.not_false, false_implies, true_implies, forall_const, Bool.false_eq_true, Bool.true_eq_false, reduceCtorEq, eq_self, Bool.and_eq_true, Bool.or_eq_true, Bool.and_eq_false_iff, Bool.or_eq_false_iff, and_false, false_and, or_false, false_or, Int.cast_ofNat_Int, Int.le_refl]
  | succ t ih =>
    intro n hn
    have b0 := hB (20 * r + n) (by omega)
    rw [h_X3_highestBar_10, ← ih (n + 1) (by omega)]
    have h1 : ¬ (19 : Int) ≤ (n : Int) := by omega
    simp (disch := omega) only [e_X3_highestBar_0, e_X3_highestBar_3, e_X3_highestBar_4, e_X3_highestBar_5, e_X3_highestBar_7, e_X3_highestBar_8, e_X3_highestBar_12, e_X3_highestBar_14, e_X3_highestBar_17, e_X3_highestBar_18, e_X3_highestBar_19, e_X3_highestBar_21, e_X3_highestBar_22, e_X3_highestBar_25, e_X3_highestBar_28, e_X3_highestBar_29, e_X3_highestBar_30, e_X3_highestBar_32, e_X3_highestBar_35, e_X3_highestBar_37, e_X3_highestBar_40, e_X3_highestBar_41, e_X3_highestBar_42, e_X3_highestBar_44, e_X3_highestBar_47, e_X3_highestBar_49, e_X3_highestBar_51, e_X3_highestBar_52, e_X3_highestBar_55, e_X3_highestBar_58, e_X3_highestBar_59, x_X3_heightAt, x_X3_isBar, Option.toList_some, Option.toList_none, List.cons_append, List.nil_append, true_and, and_true, and_self, bb_ite, true_or, or_true, Option.some.injEq, bb_I_eq, bb_b_0e, bb_b_1e, bb_b_e0, bb_b_e1, decide_eq_true_eq, decide_eq_false_iff_not, bn_01, bn_11, bb_b_01, ne_eq, Bool.not_eq_false, Bool.not_eq_true, Classical.not_not, bn_lt, bn_le, bn_ti, Int32.reduceToInt, bn_m20, bn_20m, nI_add, bn_p1, bn_s1, bn_in, bn_cl, implies_true, not_true_eq_false, not_false_eq_true, Bool.true_and, Bool.false_and, Bool.and_true, Bool.and_false, Bool.true_or, Bool.false_or, Bool.or_true, Bool.or_false, Bool.not_true, Bool.not_false, false_implies, true_implies, forall_const, Bool.false_eq_true, Bool.true_eq_false, reduceCtorEq, eq_self, Bool.and_eq_true, Bool.or_eq_true, Bool.and_eq_false_iff, Bool.or_eq_false_iff, and_false, false_and, or_false, false_or, h1]
    cases hb : bf_bar (M 10 i) v r n
    · have e : bf_hi (M 10 i) (bf_bar (M 10 i) v r) r (n + 1) = bf_hi (M 10 i) (bf_bar (M 10 i) v r) r n := by
        show (match bf_hi (M 10 i) (bf_bar (M 10 i) v r) r n with | none => if bf_bar (M 10 i) v r n then some n else none | some b => if bf_bar (M 10 i) v r n && decide ((M 10 i (20 * r + b)).toInt < (M 10 i (20 * r + n)).toInt) then some n else some b) = _
        rw [hb]
        cases bf_hi (M 10 i) (bf_bar (M 10 i) v r) r n <;> rfl
      simp only [Option.toList_some, Option.toList_none, List.cons_append, List.nil_append, true_and, and_true, and_self, bb_ite, true_or, or_true, Option.some.injEq, bb_I_eq, bb_b_0e, bb_b_1e, bb_b_e0, bb_b_e1, decide_eq_true_eq, decide_eq_false_iff_not, bn_01, bn_11, bb_b_01, ne_eq, Bool.not_eq_false, Bool.not_eq_true, Classical.not_not, bn_lt, bn_le, bn_ti, Int32.reduceToInt, bn_m20, bn_20m, nI_add, bn_p1, bn_s1, bn_in, bn_cl, implies_true, not_true_eq_false, not_false_eq_true, Bool.true_and, Bool.false_and, Bool.and_true, Bool.and_false, Bool.true_or, Bool.false_or, Bool.or_true, Bool.or_false, Bool.not_true, Bool.not_false, false_implies, true_implies, forall_const, Bool.false_eq_true, Bool.true_eq_false, reduceCtorEq, eq_self, Bool.and_eq_true, Bool.or_eq_true, Bool.and_eq_false_iff, Bool.or_eq_false_iff, and_false, false_and, or_false, false_or, e]
    · cases hq : bf_hi (M 10 i) (bf_bar (M 10 i) v r) r n with
      | none =>
        have e : bf_hi (M 10 i) (bf_bar (M 10 i) v r) r (n + 1) = some n := by
          show (match bf_hi (M 10 i) (bf_bar (M 10 i) v r) r n with | none => if bf_bar (M 10 i) v r n then some n else none | some b => if bf_bar (M 10 i) v r n && decide ((M 10 i (20 * r + b)).toInt < (M 10 i (20 * r + n)).toInt) then some n else some b) = _
          rw [hq, hb]
          rfl
        have h2 : ¬ (M 10 i (20 * r + n)).toInt ≤ (bf_hh (M 10 i) r none).toInt := by
          show ¬ _ ≤ (-1 : Int32).toInt
          have : (-1 : Int32).toInt = -1 := by decide
          omega
        simp only [Option.toList_some, Option.toList_none, List.cons_append, List.nil_append, true_and, and_true, and_self, bb_ite, true_or, or_true, Option.some.injEq, bb_I_eq, bb_b_0e, bb_b_1e, bb_b_e0, bb_b_e1, decide_eq_true_eq, decide_eq_false_iff_not, bn_01, bn_11, bb_b_01, ne_eq, Bool.not_eq_false, Bool.not_eq_true, Classical.not_not, bn_lt, bn_le, bn_ti, Int32.reduceToInt, bn_m20, bn_20m, nI_add, bn_p1, bn_s1, bn_in, bn_cl, implies_true, not_true_eq_false, not_false_eq_true, Bool.true_and, Bool.false_and, Bool.and_true, Bool.and_false, Bool.true_or, Bool.false_or, Bool.or_true, Bool.or_false, Bool.not_true, Bool.not_false, false_implies, true_implies, forall_const, Bool.false_eq_true, Bool.true_eq_false, reduceCtorEq, eq_self, Bool.and_eq_true, Bool.or_eq_true, Bool.and_eq_false_iff, Bool.or_eq_false_iff, and_false, false_and, or_false, false_or, e, h2]
        rfl
      | some b =>
        have e : bf_hi (M 10 i) (bf_bar (M 10 i) v r) r (n + 1) = if decide ((M 10 i (20 * r + b)).toInt < (M 10 i (20 * r + n)).toInt) then some n else some b := by
          show (match bf_hi (M 10 i) (bf_bar (M 10 i) v r) r n with | none => if bf_bar (M 10 i) v r n then some n else none | some b => if bf_bar (M 10 i) v r n && decide ((M 10 i (20 * r + b)).toInt < (M 10 i (20 * r + n)).toInt) then some n else some b) = _
          rw [hq, hb]
          rfl
        by_cases h2 : (M 10 i (20 * r + b)).toInt < (M 10 i (20 * r + n)).toInt
        · have h3 : ¬ (M 10 i (20 * r + n)).toInt ≤ (bf_hh (M 10 i) r (some b)).toInt := by
            show ¬ _ ≤ (M 10 i (20 * r + b)).toInt
            omega
          simp only [Option.toList_some, Option.toList_none, List.cons_append, List.nil_append, true_and, and_true, and_self, bb_ite, true_or, or_true, Option.some.injEq, bb_I_eq, bb_b_0e, bb_b_1e, bb_b_e0, bb_b_e1, decide_eq_true_eq, decide_eq_false_iff_not, bn_01, bn_11, bb_b_01, ne_eq, Bool.not_eq_false, Bool.not_eq_true, Classical.not_not, bn_lt, bn_le, bn_ti, Int32.reduceToInt, bn_m20, bn_20m, nI_add, bn_p1, bn_s1, bn_in, bn_cl, implies_true, not_true_eq_false, not_false_eq_true, Bool.true_and, Bool.false_and, Bool.and_true, Bool.and_false, Bool.true_or, Bool.false_or, Bool.or_true, Bool.or_false, Bool.not_true, Bool.not_false, false_implies, true_implies, forall_const, Bool.false_eq_true, Bool.true_eq_false, reduceCtorEq, eq_self, Bool.and_eq_true, Bool.or_eq_true, Bool.and_eq_false_iff, Bool.or_eq_false_iff, and_false, false_and, or_false, false_or, e, h2, h3, decide_true, if_true]
          rfl
        · have h3 : (M 10 i (20 * r + n)).toInt ≤ (bf_hh (M 10 i) r (some b)).toInt := by
            show _ ≤ (M 10 i (20 * r + b)).toInt
            omega
          simp only [Option.toList_some, Option.toList_none, List.cons_append, List.nil_append, true_and, and_true, and_self, bb_ite, true_or, or_true, Option.some.injEq, bb_I_eq, bb_b_0e, bb_b_1e, bb_b_e0, bb_b_e1, decide_eq_true_eq, decide_eq_false_iff_not, bn_01, bn_11, bb_b_01, ne_eq, Bool.not_eq_false, Bool.not_eq_true, Classical.not_not, bn_lt, bn_le, bn_ti, Int32.reduceToInt, bn_m20, bn_20m, nI_add, bn_p1, bn_s1, bn_in, bn_cl, implies_true, not_true_eq_false, not_false_eq_true, Bool.true_and, Bool.false_and, Bool.and_true, Bool.and_false, Bool.true_or, Bool.false_or, Bool.or_true, Bool.or_false, Bool.not_true, Bool.not_false, false_implies, true_implies, forall_const, Bool.false_eq_true, Bool.true_eq_false, reduceCtorEq, eq_self, Bool.and_eq_true, Bool.or_eq_true, Bool.and_eq_false_iff, Bool.or_eq_false_iff, and_false, false_and, or_false, false_or, e, h2, h3, decide_false, if_false]
theorem bf_hi_1 {h : Nat → Int32} {p : Nat → Bool} {r : Nat} (h0 : p 0 = false) : bf_hi h p r 1 = none := by
  show (if p 0 then some 0 else none) = none
  rw [h0]
  rfl
theorem x_X3_highestBar {d i r : Nat} {v : Int32} {M : bb_M} {k : Option bb_V → bb_M → Prop} (hr : r < 4) (hB : bf_hb (M 10 i)) : bb_call (bb_CL (d + 2)) 61 [bb_R 3 i, bb_I (nI r), bb_I v] M k ↔ k (some (bb_I (bf_hn (bf_hi (M 10 i) (bf_bar (M 10 i) v r) r 19)))) M := by
  refine bb_cal (st_X3_highestBar ?_)
  have := (l_X3_hi (d := d) (i := i) (v := v) (M := M) (R := fun r' M' => r' = some (bb_I (bf_hn (bf_hi (M 10 i) (bf_bar (M 10 i) v r) r 19))) ∧ M' = M) hr hB 18 1 rfl).mpr ⟨rfl, rfl⟩
  rw [bf_hi_1 bf_bar_0] at this
  simp (disch := omega) only [e_X3_highestBar_0, e_X3_highestBar_3, e_X3_highestBar_4, e_X3_highestBar_5, e_X3_highestBar_7, e_X3_highestBar_8, e_X3_highestBar_12, e_X3_highestBar_14, e_X3_highestBar_17, e_X3_highestBar_18, e_X3_highestBar_19, e_X3_highestBar_21, e_X3_highestBar_22, e_X3_highestBar_25, e_X3_highestBar_28, e_X3_highestBar_29, e_X3_highestBar_30, e_X3_highestBar_32, e_X3_highestBar_35, e_X3_highestBar_37, e_X3_highestBar_40, e_X3_highestBar_41, e_X3_highestBar_42, e_X3_highestBar_44, e_X3_highestBar_47, e_X3_highestBar_49, e_X3_highestBar_51, e_X3_highestBar_52, e_X3_highestBar_55, e_X3_highestBar_58, e_X3_highestBar_59]
  exact this
/-- counts of rows -/
def bf_cr (p : Nat → Nat → Bool) (n : Nat) : Nat → Nat
  | 0 => 0
  | r + 1 => bf_cr p n r + bf_cn (p r) n
theorem l_X3_allDry1 {d i r s : Nat} {v : Int32} {M : bb_M} {R : bb_P} (hr : r < 4) : ∀ (t n : Nat), n + t = 20 → (bb_Y (bb_CL (d + 2)) cd_X3_allDry R 12 [bb_R 3 i, bb_I v, bb_I (nI (s + bf_cn (bf_dry (M 10 i) v r) n)), bb_I (nI r), bb_I (nI n)] [] M ↔ bb_Y (bb_CL (d + 2)) cd_X3_allDry R 4 [bb_R 3 i, bb_I v, bb_I (nI (s + bf_cn (bf_dry (M 10 i) v r) 20)), bb_I (nI (r + 1)), bb_I (nI 20)] [] M) := by
  intro t
  induction t with
  | zero =>
    intro n hn
    obtain rfl : n = 20 := by omega
    rw [h_X3_allDry_12]
    simp (disch := omega) only [e_X3_allDry_0, e_X3_allDry_1, e_X3_allDry_2, e_X3_allDry_3, e_X3_allDry_5, e_X3_allDry_6, e_X3_allDry_9, e_X3_allDry_10, e_X3_allDry_14, e_X3_allDry_16, e_X3_allDry_19, e_X3_allDry_20, e_X3_allDry_21, e_X3_allDry_23, e_X3_allDry_24, e_X3_allDry_27, e_X3_allDry_30, e_X3_allDry_33, e_X3_allDry_36, e_X3_allDry_39, e_X3_allDry_42, e_X3_allDry_45, e_X3_allDry_46, Option.toList_some, Option.toList_none, List.cons_append, List.nil_append, true_and, and_true, and_self, bb_ite, true_or, or_true, Option.some.injEq, bb_I_eq, bb_b_0e, bb_b_1e, bb_b_e0, bb_b_e1, decide_eq_true_eq, decide_eq_false_iff_not, bn_01, bn_11, bb_b_01, ne_eq, Bool.not_eq_false, Bool.not_eq_true, Classical.not_not, bn_lt, bn_le, bn_ti, Int32.reduceToInt, bn_m20, bn_20m, nI_add, bn_p1, bn_s1, bn_in, bn_cl, implies_true, not_true_eq_false, not_false_eq_true, Bool.true_and, Bool.false_and, Bool.and_true, Bool.and_false, Bool.true_or, Bool.false_or, Bool.or_true, Bool.or_false, Bool.not_true, Bool.not_false, false_implies, true_implies, forall_const, Bool.false_eq_true, Bool.true_eq_false, reduceCtorEq, eq_self, Bool.and_eq_true, Bool.or_eq_true, Bool.and_eq_false_iff, Bool.or_eq_false_iff, and_false, false_and, or_false, false_or, Int.cast_ofNat_Int, Int.le_refl]
  | succ t ih =>
    intro n hn
    rw [h_X3_allDry_12, ← ih (n + 1) (by omega)]
    have h1 : ¬ (20 : Int) ≤ (n : Int) := by omega
    simp (disch := omega) only [e_X3_allDry_0, e_X3_allDry_1, e_X3_allDry_2, e_X3_allDry_3, e_X3_allDry_5, e_X3_allDry_6, e_X3_allDry_9, e_X3_allDry_10, e_X3_allDry_14, e_X3_allDry_16, e_X3_allDry_19, e_X3_allDry_20, e_X3_allDry_21, e_X3_allDry_23, e_X3_allDry_24, e_X3_allDry_27, e_X3_allDry_30, e_X3_allDry_33, e_X3_allDry_36, e_X3_allDry_39, e_X3_allDry_42, e_X3_allDry_45, e_X3_allDry_46, x_X3_isDry, Option.toList_some, Option.toList_none, List.cons_append, List.nil_append, true_and, and_true, and_self, bb_ite, true_or, or_true, Option.some.injEq, bb_I_eq, bb_b_0e, bb_b_1e, bb_b_e0, bb_b_e1, decide_eq_true_eq, decide_eq_false_iff_not, bn_01, bn_11, bb_b_01, ne_eq, Bool.not_eq_false, Bool.not_eq_true, Classical.not_not, bn_lt, bn_le, bn_ti, Int32.reduceToInt, bn_m20, bn_20m, nI_add, bn_p1, bn_s1, bn_in, bn_cl, implies_true, not_true_eq_false, not_false_eq_true, Bool.true_and, Bool.false_and, Bool.and_true, Bool.and_false, Bool.true_or, Bool.false_or, Bool.or_true, Bool.or_false, Bool.not_true, Bool.not_false, false_implies, true_implies, forall_const, Bool.false_eq_true, Bool.true_eq_false, reduceCtorEq, eq_self, Bool.and_eq_true, Bool.or_eq_true, Bool.and_eq_false_iff, Bool.or_eq_false_iff, and_false, false_and, or_false, false_or, h1]
    show (bf_dry (M 10 i) v r n = false → _) ∧ (bf_dry (M 10 i) v r n = true → _) ↔ bb_Y _ _ _ _ [_, _, bb_I (nI (s + (if bf_dry (M 10 i) v r n then bf_cn (bf_dry (M 10 i) v r) n + 1 else bf_cn (bf_dry (M 10 i) v r) n))), _, _] _ _
    cases bf_dry (M 10 i) v r n <;> simp [Nat.add_assoc]
theorem l_X3_allDry2 {d i : Nat} {v : Int32} {M : bb_M} {R : bb_P} : ∀ (t r : Nat) (z : bb_V), r + t = 4 → (bb_Y (bb_CL (d + 2)) cd_X3_allDry R 4 [bb_R 3 i, bb_I v, bb_I (nI (bf_cr (bf_dry (M 10 i) v) 20 r)), bb_I (nI r), z] [] M ↔ R (some (bb_I (nI (bf_cr (bf_dry (M 10 i) v) 20 4)))) M) := by
  intro t
  induction t with
  | zero =>
    intro r z hn
    obtain rfl : r = 4 := by omega
    rw [h_X3_allDry_4]
    simp (disch := omega) only [e_X3_allDry_0, e_X3_allDry_1, e_X3_allDry_2, e_X3_allDry_3, e_X3_allDry_5, e_X3_allDry_6, e_X3_allDry_9, e_X3_allDry_10, e_X3_allDry_14, e_X3_allDry_16, e_X3_allDry_19, e_X3_allDry_20, e_X3_allDry_21, e_X3_allDry_23, e_X3_allDry_24, e_X3_allDry_27, e_X3_allDry_30, e_X3_allDry_33, e_X3_allDry_36, e_X3_allDry_39, e_X3_allDry_42, e_X3_allDry_45, e_X3_allDry_46, Option.toList_some, Option.toList_none, List.cons_append, List.nil_append, true_and, and_true, and_self, bb_ite, true_or, or_true, Option.some.injEq, bb_I_eq, bb_b_0e, bb_b_1e, bb_b_e0, bb_b_e1, decide_eq_true_eq, decide_eq_false_iff_not, bn_01, bn_11, bb_b_01, ne_eq, Bool.not_eq_false, Bool.not_eq_true, Classical.not_not, bn_lt, bn_le, bn_ti, Int32.reduceToInt, bn_m20, bn_20m, nI_add, bn_p1, bn_s1, bn_in, bn_cl, implies_true, not_true_eq_false, not_false_eq_true, Bool.true_and, Bool.false_and, Bool.and_true, Bool.and_false, Bool.true_or, Bool.false_or, Bool.or_true, Bool.or_false, Bool.not_true, Bool.not_false, false_implies, true_implies, forall_const, Bool.false_eq_true, Bool.true_eq_false, reduceCtorEq, eq_self, Bool.and_eq_true, Bool.or_eq_true, Bool.and_eq_false_iff, Bool.or_eq_false_iff, and_false, false_and, or_false, false_or, Int.cast_ofNat_Int, Int.le_refl]
  | succ t ih =>
    intro r z hn
    have e := l_X3_allDry1 (d := d) (i := i) (r := r) (s := bf_cr (bf_dry (M 10 i) v) 20 r) (v := v) (M := M) (R := R) (by omega) 20 0 rfl
    rw [h_X3_allDry_4, ← ih (r + 1) (bb_I (nI 20)) (by omega)]
    have h1 : ¬ (4 : Int) ≤ (r : Int) := by omega
    simp (disch := omega) only [e_X3_allDry_0, e_X3_allDry_1, e_X3_allDry_2, e_X3_allDry_3, e_X3_allDry_5, e_X3_allDry_6, e_X3_allDry_9, e_X3_allDry_10, e_X3_allDry_14, e_X3_allDry_16, e_X3_allDry_19, e_X3_allDry_20, e_X3_allDry_21, e_X3_allDry_23, e_X3_allDry_24, e_X3_allDry_27, e_X3_allDry_30, e_X3_allDry_33, e_X3_allDry_36, e_X3_allDry_39, e_X3_allDry_42, e_X3_allDry_45, e_X3_allDry_46, Option.toList_some, Option.toList_none, List.cons_append, List.nil_append, true_and, and_true, and_self, bb_ite, true_or, or_true, Option.some.injEq, bb_I_eq, bb_b_0e, bb_b_1e, bb_b_e0, bb_b_e1, decide_eq_true_eq, decide_eq_false_iff_not, bn_01, bn_11, bb_b_01, ne_eq, Bool.not_eq_false, Bool.not_eq_true, Classical.not_not, bn_lt, bn_le, bn_ti, Int32.reduceToInt, bn_m20, bn_20m, nI_add, bn_p1, bn_s1, bn_in, bn_cl, implies_true, not_true_eq_false, not_false_eq_true, Bool.true_and, Bool.false_and, Bool.and_true, Bool.and_false, Bool.true_or, Bool.false_or, Bool.or_true, Bool.or_false, Bool.not_true, Bool.not_false, false_implies, true_implies, forall_const, Bool.false_eq_true, Bool.true_eq_false, reduceCtorEq, eq_self, Bool.and_eq_true, Bool.or_eq_true, Bool.and_eq_false_iff, Bool.or_eq_false_iff, and_false, false_and, or_false, false_or, h1]
    exact e
theorem x_X3_allDry {d i : Nat} {v : Int32} {M : bb_M} {k : Option bb_V → bb_M → Prop} : bb_call (bb_CL (d + 3)) 58 [bb_R 3 i, bb_I v] M k ↔ k (some (bb_I (nI (bf_cr (bf_dry (M 10 i) v) 20 4)))) M := by
  refine bb_cal (st_X3_allDry ?_)
  simp (disch := omega) only [e_X3_allDry_0, e_X3_allDry_1, e_X3_allDry_2, e_X3_allDry_3, e_X3_allDry_5, e_X3_allDry_6, e_X3_allDry_9, e_X3_allDry_10, e_X3_allDry_14, e_X3_allDry_16, e_X3_allDry_19, e_X3_allDry_20, e_X3_allDry_21, e_X3_allDry_23, e_X3_allDry_24, e_X3_allDry_27, e_X3_allDry_30, e_X3_allDry_33, e_X3_allDry_36, e_X3_allDry_39, e_X3_allDry_42, e_X3_allDry_45, e_X3_allDry_46]
  exact (l_X3_allDry2 (d := d) (i := i) (v := v) (M := M) 4 0 bb_U rfl).mpr ⟨rfl, rfl⟩
