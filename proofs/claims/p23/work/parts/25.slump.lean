/-! SLUMPING: the class -/
/-- n places of an array from a on, written anew -/
def bb_wr (M : bb_M) (k i a n : Nat) (g : Nat → Int32) : bb_M := fun k' i' j => if k' = k ∧ i' = i ∧ a ≤ j ∧ j < a + n then g (j - a) else M k' i' j
theorem bb_wr_in {M : bb_M} {k i a n c : Nat} {g : Nat → Int32} (h : c < n) : bb_wr M k i a n g k i (a + c) = g c := by
  unfold bb_wr
  rw [if_pos ⟨rfl, rfl, by omega, by omega⟩, Nat.add_sub_cancel_left]
theorem bb_wr_out {M : bb_M} {k i a n j : Nat} {g : Nat → Int32} (h : j < a ∨ a + n ≤ j) : bb_wr M k i a n g k i j = M k i j := by
  unfold bb_wr
  rw [if_neg]
  rintro ⟨-, -, h1, h2⟩
  omega
theorem bb_wr_k {M : bb_M} {k i a n k' i' j : Nat} {g : Nat → Int32} (h : k' ≠ k) : bb_wr M k i a n g k' i' j = M k' i' j := by
  unfold bb_wr
  rw [if_neg]
  rintro ⟨h1, -⟩
  exact h h1
theorem bb_wr_same {M : bb_M} {k i a n : Nat} {g : Nat → Int32} (h : ∀ c, c < n → g c = M k i (a + c)) : bb_wr M k i a n g = M := by
  funext k' i' j
  unfold bb_wr
  split
  · rename_i q
    obtain ⟨rfl, rfl, h1, h2⟩ := q
    rw [h (j - a) (by omega), show a + (j - a) = j by omega]
  · rfl
theorem bb_wr_wr {M : bb_M} {k i a n : Nat} {g g' : Nat → Int32} : bb_wr (bb_wr M k i a n g) k i a n g' = bb_wr M k i a n g' := by
  funext k' i' j
  unfold bb_wr
  split
  · rfl
  · rfl
theorem bb_wr_up {M : bb_M} {k i a n c : Nat} {g : Nat → Int32} {v : Int32} (h : c < n) : bb_up (bb_wr M k i a n g) k i (a + c) v = bb_wr M k i a n (upd g c v) := by
  funext k' i' j
  unfold bb_up bb_wr
  by_cases q : k' = k ∧ i' = i ∧ j = a + c
  · obtain ⟨rfl, rfl, rfl⟩ := q
    rw [if_pos ⟨rfl, rfl, rfl⟩, if_pos ⟨rfl, rfl, by omega, by omega⟩, bf_upd, if_pos (by omega)]
  · rw [if_neg q]
    by_cases q2 : k' = k ∧ i' = i ∧ a ≤ j ∧ j < a + n
    · rw [if_pos q2, if_pos q2, bf_upd, if_neg]
      intro z
      exact q ⟨q2.1, q2.2.1, by omega⟩
    · rw [if_neg q2, if_neg q2]
theorem bb_wr_cong {M : bb_M} {k i a n : Nat} {g g' : Nat → Int32} (h : ∀ c, c < n → g c = g' c) : bb_wr M k i a n g = bb_wr M k i a n g' := by
  funext k' i' j
  unfold bb_wr
  split
  · rename_i q
    exact h _ (by omega)
  · rfl
theorem bn_negT {a : Int32} (h : -1000000000 ≤ a.toInt ∧ a.toInt ≤ 1000000000) : (-a).toInt = -a.toInt := by
  rw [Int32.toInt_neg]
  exact Int.bmod_eq_of_le (by omega) (by omega)
theorem l_X3_slumpOnce {d i r : Nat} {st : Int32} {M : bb_M} {g0 : Nat → Int32} {R : bb_P} (hr : r < 4) (hb : bf_rb g0) (hs : 0 ≤ st.toInt ∧ st.toInt ≤ 100) : ∀ (t n : Nat) (z1 z2 : bb_V), n + t = 19 → (bb_Y (bb_CL d) cd_X3_slumpRowOnce R 5 [bb_R 3 i, bb_I (nI r), bb_I st, bb_I (nI (bf_cc g0 st n)), bb_I (nI n), z1, z2] [] (bb_wr M 10 i (20 * r) 20 (bf_pp g0 st n)) ↔ R (some (bb_I (nI (bf_cc g0 st 19)))) (bb_wr M 10 i (20 * r) 20 (bf_pp g0 st 19))) := by
  intro t
  induction t with
  | zero =>
    intro n z1 z2 hn
    obtain rfl : n = 19 := by omega
    rw [h_X3_slumpRowOnce_5]
    simp (disch := omega) only [e_X3_slumpRowOnce_0, e_X3_slumpRowOnce_1, e_X3_slumpRowOnce_2, e_X3_slumpRowOnce_3, e_X3_slumpRowOnce_7, e_X3_slumpRowOnce_9, e_X3_slumpRowOnce_12, e_X3_slumpRowOnce_13, e_X3_slumpRowOnce_15, e_X3_slumpRowOnce_16, e_X3_slumpRowOnce_18, e_X3_slumpRowOnce_19, e_X3_slumpRowOnce_21, e_X3_slumpRowOnce_22, e_X3_slumpRowOnce_25, e_X3_slumpRowOnce_27, e_X3_slumpRowOnce_28, e_X3_slumpRowOnce_29, e_X3_slumpRowOnce_32, e_X3_slumpRowOnce_34, e_X3_slumpRowOnce_35, e_X3_slumpRowOnce_36, e_X3_slumpRowOnce_37, e_X3_slumpRowOnce_38, e_X3_slumpRowOnce_40, e_X3_slumpRowOnce_42, e_X3_slumpRowOnce_43, e_X3_slumpRowOnce_46, e_X3_slumpRowOnce_47, e_X3_slumpRowOnce_50, e_X3_slumpRowOnce_52, e_X3_slumpRowOnce_53, e_X3_slumpRowOnce_54, e_X3_slumpRowOnce_55, e_X3_slumpRowOnce_56, e_X3_slumpRowOnce_57, e_X3_slumpRowOnce_58, e_X3_slumpRowOnce_61, e_X3_slumpRowOnce_63, e_X3_slumpRowOnce_64, e_X3_slumpRowOnce_65, e_X3_slumpRowOnce_66, e_X3_slumpRowOnce_67, e_X3_slumpRowOnce_68, e_X3_slumpRowOnce_69, e_X3_slumpRowOnce_70, e_X3_slumpRowOnce_73, e_X3_slumpRowOnce_76, e_X3_slumpRowOnce_78, e_X3_slumpRowOnce_79, e_X3_slumpRowOnce_80, e_X3_slumpRowOnce_83, e_X3_slumpRowOnce_84, e_X3_slumpRowOnce_87, e_X3_slumpRowOnce_89, e_X3_slumpRowOnce_90, e_X3_slumpRowOnce_91, e_X3_slumpRowOnce_92, e_X3_slumpRowOnce_93, e_X3_slumpRowOnce_94, e_X3_slumpRowOnce_95, e_X3_slumpRowOnce_98, e_X3_slumpRowOnce_100, e_X3_slumpRowOnce_101, e_X3_slumpRowOnce_102, e_X3_slumpRowOnce_103, e_X3_slumpRowOnce_104, e_X3_slumpRowOnce_105, e_X3_slumpRowOnce_106, e_X3_slumpRowOnce_107, e_X3_slumpRowOnce_110, e_X3_slumpRowOnce_113, e_X3_slumpRowOnce_116, e_X3_slumpRowOnce_117, Option.toList_some, Option.toList_none, List.cons_append, List.nil_append, true_and, and_true, and_self, bb_ite, true_or, or_true, Option.some.injEq, bb_I_eq, bb_b_0e, bb_b_1e, bb_b_e0, bb_b_e1, decide_eq_true_eq, decide_eq_false_iff_not, bn_01, bn_11, bb_b_01, ne_eq, Bool.not_eq_false, Bool.not_eq_true, Classical.not_not, bn_lt, bn_le, bn_ti, Int32.reduceToInt, bn_m20, bn_20m, nI_add, bn_p1, bn_s1, bn_in, bn_cl, implies_true, not_true_eq_false, not_false_eq_true, Bool.true_and, Bool.false_and, Bool.and_true, Bool.and_false, Bool.true_or, Bool.false_or, Bool.or_true, Bool.or_false, Bool.not_true, Bool.not_false, false_implies, true_implies, forall_const, Bool.false_eq_true, Bool.true_eq_false, reduceCtorEq, eq_self, Bool.and_eq_true, Bool.or_eq_true, Bool.and_eq_false_iff, Bool.or_eq_false_iff, and_false, false_and, or_false, false_or, Int.cast_ofNat_Int, Int.le_refl]
  | succ t ih =>
    intro n z1 z2 hn
    have hgb := bf_pp_b hb hs.1 n (by omega)
    have b1 := hgb n (by omega)
    have b2 := hgb (n + 1) (by omega)
    have hcc : bf_cc g0 st (n + 1) = bf_cc g0 st n + bf_c1 (bf_pp g0 st n) st n := rfl
    have hpp : bf_pp g0 st (n + 1) = bf_s1 (bf_pp g0 st n) st n := rfl
    rw [h_X3_slumpRowOnce_5]
    have h1 : ¬ (19 : Int) ≤ (n : Int) := by omega
    simp (disch := omega) only [e_X3_slumpRowOnce_0, e_X3_slumpRowOnce_1, e_X3_slumpRowOnce_2, e_X3_slumpRowOnce_3, e_X3_slumpRowOnce_7, e_X3_slumpRowOnce_9, e_X3_slumpRowOnce_12, e_X3_slumpRowOnce_13, e_X3_slumpRowOnce_15, e_X3_slumpRowOnce_16, e_X3_slumpRowOnce_18, e_X3_slumpRowOnce_19, e_X3_slumpRowOnce_21, e_X3_slumpRowOnce_22, e_X3_slumpRowOnce_25, e_X3_slumpRowOnce_27, e_X3_slumpRowOnce_28, e_X3_slumpRowOnce_29, e_X3_slumpRowOnce_32, e_X3_slumpRowOnce_34, e_X3_slumpRowOnce_35, e_X3_slumpRowOnce_36, e_X3_slumpRowOnce_37, e_X3_slumpRowOnce_38, e_X3_slumpRowOnce_40, e_X3_slumpRowOnce_42, e_X3_slumpRowOnce_43, e_X3_slumpRowOnce_46, e_X3_slumpRowOnce_47, e_X3_slumpRowOnce_50, e_X3_slumpRowOnce_52, e_X3_slumpRowOnce_53, e_X3_slumpRowOnce_54, e_X3_slumpRowOnce_55, e_X3_slumpRowOnce_56, e_X3_slumpRowOnce_57, e_X3_slumpRowOnce_58, e_X3_slumpRowOnce_61, e_X3_slumpRowOnce_63, e_X3_slumpRowOnce_64, e_X3_slumpRowOnce_65, e_X3_slumpRowOnce_66, e_X3_slumpRowOnce_67, e_X3_slumpRowOnce_68, e_X3_slumpRowOnce_69, e_X3_slumpRowOnce_70, e_X3_slumpRowOnce_73, e_X3_slumpRowOnce_76, e_X3_slumpRowOnce_78, e_X3_slumpRowOnce_79, e_X3_slumpRowOnce_80, e_X3_slumpRowOnce_83, e_X3_slumpRowOnce_84, e_X3_slumpRowOnce_87, e_X3_slumpRowOnce_89, e_X3_slumpRowOnce_90, e_X3_slumpRowOnce_91, e_X3_slumpRowOnce_92, e_X3_slumpRowOnce_93, e_X3_slumpRowOnce_94, e_X3_slumpRowOnce_95, e_X3_slumpRowOnce_98, e_X3_slumpRowOnce_100, e_X3_slumpRowOnce_101, e_X3_slumpRowOnce_102, e_X3_slumpRowOnce_103, e_X3_slumpRowOnce_104, e_X3_slumpRowOnce_105, e_X3_slumpRowOnce_106, e_X3_slumpRowOnce_107, e_X3_slumpRowOnce_110, e_X3_slumpRowOnce_113, e_X3_slumpRowOnce_116, e_X3_slumpRowOnce_117, Option.toList_some, Option.toList_none, List.cons_append, List.nil_append, true_and, and_true, and_self, bb_ite, true_or, or_true, Option.some.injEq, bb_I_eq, bb_b_0e, bb_b_1e, bb_b_e0, bb_b_e1, decide_eq_true_eq, decide_eq_false_iff_not, bn_01, bn_11, bb_b_01, ne_eq, Bool.not_eq_false, Bool.not_eq_true, Classical.not_not, bn_lt, bn_le, bn_ti, Int32.reduceToInt, bn_m20, bn_20m, nI_add, bn_p1, bn_s1, bn_in, bn_cl, implies_true, not_true_eq_false, not_false_eq_true, Bool.true_and, Bool.false_and, Bool.and_true, Bool.and_false, Bool.true_or, Bool.false_or, Bool.or_true, Bool.or_false, Bool.not_true, Bool.not_false, false_implies, true_implies, forall_const, Bool.false_eq_true, Bool.true_eq_false, reduceCtorEq, eq_self, Bool.and_eq_true, Bool.or_eq_true, Bool.and_eq_false_iff, Bool.or_eq_false_iff, and_false, false_and, or_false, false_or, h1, Nat.add_assoc, bb_wr_in, bb_wr_up, bn_subT, bn_negT]
    by_cases q1 : st.toInt < (bf_pp g0 st n n).toInt - (bf_pp g0 st n (n + 1)).toInt
    · have q1' : ¬ (bf_pp g0 st n n).toInt - (bf_pp g0 st n (n + 1)).toInt ≤ st.toInt := by omega
      have e : bf_s1 (bf_pp g0 st n) st n = upd (upd (bf_pp g0 st n) n (bf_pp g0 st n n - 1)) (n + 1) (upd (bf_pp g0 st n) n (bf_pp g0 st n n - 1) (n + 1) + 1) := by
        unfold bf_s1
        rw [if_pos q1, bf_upd (bf_pp g0 st n) n (n + 1), if_neg (by omega : ¬ n + 1 = n)]
      have e2 : bf_c1 (bf_pp g0 st n) st n = 1 := by unfold bf_c1; rw [if_pos q1]
      simp only [q1', Option.toList_some, Option.toList_none, List.cons_append, List.nil_append, true_and, and_true, and_self, bb_ite, true_or, or_true, Option.some.injEq, bb_I_eq, bb_b_0e, bb_b_1e, bb_b_e0, bb_b_e1, decide_eq_true_eq, decide_eq_false_iff_not, bn_01, bn_11, bb_b_01, ne_eq, Bool.not_eq_false, Bool.not_eq_true, Classical.not_not, bn_lt, bn_le, bn_ti, Int32.reduceToInt, bn_m20, bn_20m, nI_add, bn_p1, bn_s1, bn_in, bn_cl, implies_true, not_true_eq_false, not_false_eq_true, Bool.true_and, Bool.false_and, Bool.and_true, Bool.and_false, Bool.true_or, Bool.false_or, Bool.or_true, Bool.or_false, Bool.not_true, Bool.not_false, false_implies, true_implies, forall_const, Bool.false_eq_true, Bool.true_eq_false, reduceCtorEq, eq_self, Bool.and_eq_true, Bool.or_eq_true, Bool.and_eq_false_iff, Bool.or_eq_false_iff, and_false, false_and, or_false, false_or]
      rw [← e, ← hpp, ← ih (n + 1) (bb_I (nI (20 * r + n))) (bb_I (bf_pp g0 st n n - bf_pp g0 st n (n + 1))) (by omega), hcc, e2]
    · have q1' : (bf_pp g0 st n n).toInt - (bf_pp g0 st n (n + 1)).toInt ≤ st.toInt := by omega
      by_cases q2 : (bf_pp g0 st n n).toInt - (bf_pp g0 st n (n + 1)).toInt < -st.toInt
      · have q2' : ¬ -st.toInt ≤ (bf_pp g0 st n n).toInt - (bf_pp g0 st n (n + 1)).toInt := by omega
        have e : bf_s1 (bf_pp g0 st n) st n = upd (upd (bf_pp g0 st n) n (bf_pp g0 st n n + 1)) (n + 1) (upd (bf_pp g0 st n) n (bf_pp g0 st n n + 1) (n + 1) - 1) := by
          unfold bf_s1
          rw [if_neg q1, if_pos q2, bf_upd (bf_pp g0 st n) n (n + 1), if_neg (by omega : ¬ n + 1 = n)]
        have e2 : bf_c1 (bf_pp g0 st n) st n = 1 := by unfold bf_c1; rw [if_neg q1, if_pos q2]
        simp only [q1', q2', Option.toList_some, Option.toList_none, List.cons_append, List.nil_append, true_and, and_true, and_self, bb_ite, true_or, or_true, Option.some.injEq, bb_I_eq, bb_b_0e, bb_b_1e, bb_b_e0, bb_b_e1, decide_eq_true_eq, decide_eq_false_iff_not, bn_01, bn_11, bb_b_01, ne_eq, Bool.not_eq_false, Bool.not_eq_true, Classical.not_not, bn_lt, bn_le, bn_ti, Int32.reduceToInt, bn_m20, bn_20m, nI_add, bn_p1, bn_s1, bn_in, bn_cl, implies_true, not_true_eq_false, not_false_eq_true, Bool.true_and, Bool.false_and, Bool.and_true, Bool.and_false, Bool.true_or, Bool.false_or, Bool.or_true, Bool.or_false, Bool.not_true, Bool.not_false, false_implies, true_implies, forall_const, Bool.false_eq_true, Bool.true_eq_false, reduceCtorEq, eq_self, Bool.and_eq_true, Bool.or_eq_true, Bool.and_eq_false_iff, Bool.or_eq_false_iff, and_false, false_and, or_false, false_or]
        rw [← e, ← hpp, ← ih (n + 1) (bb_I (nI (20 * r + n))) (bb_I (bf_pp g0 st n n - bf_pp g0 st n (n + 1))) (by omega), hcc, e2]
      · have q2' : -st.toInt ≤ (bf_pp g0 st n n).toInt - (bf_pp g0 st n (n + 1)).toInt := by omega
        have e : bf_s1 (bf_pp g0 st n) st n = bf_pp g0 st n := by unfold bf_s1; rw [if_neg q1, if_neg q2]
        have e2 : bf_c1 (bf_pp g0 st n) st n = 0 := by unfold bf_c1; rw [if_neg q1, if_neg q2]
        have hcc2 : bf_cc g0 st (n + 1) = bf_cc g0 st n := by rw [hcc, e2, Nat.add_zero]
        simp only [q1', q2', Option.toList_some, Option.toList_none, List.cons_append, List.nil_append, true_and, and_true, and_self, bb_ite, true_or, or_true, Option.some.injEq, bb_I_eq, bb_b_0e, bb_b_1e, bb_b_e0, bb_b_e1, decide_eq_true_eq, decide_eq_false_iff_not, bn_01, bn_11, bb_b_01, ne_eq, Bool.not_eq_false, Bool.not_eq_true, Classical.not_not, bn_lt, bn_le, bn_ti, Int32.reduceToInt, bn_m20, bn_20m, nI_add, bn_p1, bn_s1, bn_in, bn_cl, implies_true, not_true_eq_false, not_false_eq_true, Bool.true_and, Bool.false_and, Bool.and_true, Bool.and_false, Bool.true_or, Bool.false_or, Bool.or_true, Bool.or_false, Bool.not_true, Bool.not_false, false_implies, true_implies, forall_const, Bool.false_eq_true, Bool.true_eq_false, reduceCtorEq, eq_self, Bool.and_eq_true, Bool.or_eq_true, Bool.and_eq_false_iff, Bool.or_eq_false_iff, and_false, false_and, or_false, false_or]
        rw [← ih (n + 1) (bb_I (nI (20 * r + n))) (bb_I (bf_pp g0 st n n - bf_pp g0 st n (n + 1))) (by omega), hcc2, hpp, e]
theorem x_X3_slumpRowOnce {d i r : Nat} {st : Int32} {M : bb_M} {g0 : Nat → Int32} {k : Option bb_V → bb_M → Prop} (hr : r < 4) (hg : ∀ c, c < 20 → g0 c = M 10 i (20 * r + c)) (hb : bf_rb g0) (hs : 0 ≤ st.toInt ∧ st.toInt ≤ 100) : bb_call (bb_CL (d + 1)) 66 [bb_R 3 i, bb_I (nI r), bb_I st] M k ↔ k (some (bb_I (nI (bf_cc g0 st 19)))) (bb_wr M 10 i (20 * r) 20 (bf_pp g0 st 19)) := by
  refine bb_cal (st_X3_slumpRowOnce ?_)
  simp only [e_X3_slumpRowOnce_0, e_X3_slumpRowOnce_1, e_X3_slumpRowOnce_2, e_X3_slumpRowOnce_3, e_X3_slumpRowOnce_7, e_X3_slumpRowOnce_9, e_X3_slumpRowOnce_12, e_X3_slumpRowOnce_13, e_X3_slumpRowOnce_15, e_X3_slumpRowOnce_16, e_X3_slumpRowOnce_18, e_X3_slumpRowOnce_19, e_X3_slumpRowOnce_21, e_X3_slumpRowOnce_22, e_X3_slumpRowOnce_25, e_X3_slumpRowOnce_27, e_X3_slumpRowOnce_28, e_X3_slumpRowOnce_29, e_X3_slumpRowOnce_32, e_X3_slumpRowOnce_34, e_X3_slumpRowOnce_35, e_X3_slumpRowOnce_36, e_X3_slumpRowOnce_37, e_X3_slumpRowOnce_38, e_X3_slumpRowOnce_40, e_X3_slumpRowOnce_42, e_X3_slumpRowOnce_43, e_X3_slumpRowOnce_46, e_X3_slumpRowOnce_47, e_X3_slumpRowOnce_50, e_X3_slumpRowOnce_52, e_X3_slumpRowOnce_53, e_X3_slumpRowOnce_54, e_X3_slumpRowOnce_55, e_X3_slumpRowOnce_56, e_X3_slumpRowOnce_57, e_X3_slumpRowOnce_58, e_X3_slumpRowOnce_61, e_X3_slumpRowOnce_63, e_X3_slumpRowOnce_64, e_X3_slumpRowOnce_65, e_X3_slumpRowOnce_66, e_X3_slumpRowOnce_67, e_X3_slumpRowOnce_68, e_X3_slumpRowOnce_69, e_X3_slumpRowOnce_70, e_X3_slumpRowOnce_73, e_X3_slumpRowOnce_76, e_X3_slumpRowOnce_78, e_X3_slumpRowOnce_79, e_X3_slumpRowOnce_80, e_X3_slumpRowOnce_83, e_X3_slumpRowOnce_84, e_X3_slumpRowOnce_87, e_X3_slumpRowOnce_89, e_X3_slumpRowOnce_90, e_X3_slumpRowOnce_91, e_X3_slumpRowOnce_92, e_X3_slumpRowOnce_93, e_X3_slumpRowOnce_94, e_X3_slumpRowOnce_95, e_X3_slumpRowOnce_98, e_X3_slumpRowOnce_100, e_X3_slumpRowOnce_101, e_X3_slumpRowOnce_102, e_X3_slumpRowOnce_103, e_X3_slumpRowOnce_104, e_X3_slumpRowOnce_105, e_X3_slumpRowOnce_106, e_X3_slumpRowOnce_107, e_X3_slumpRowOnce_110, e_X3_slumpRowOnce_113, e_X3_slumpRowOnce_116, e_X3_slumpRowOnce_117]
  have := (l_X3_slumpOnce (d := d) (i := i) (M := M) (R := fun r' M' => r' = some (bb_I (nI (bf_cc g0 st 19))) ∧ M' = bb_wr M 10 i (20 * r) 20 (bf_pp g0 st 19)) hr hb hs 19 0 bb_U bb_U rfl).mpr ⟨rfl, rfl⟩
  rw [show bb_wr M 10 i (20 * r) 20 (bf_pp g0 st 0) = M from bb_wr_same hg] at this
  exact this
theorem bn_nI0 {n : Nat} (h : n < 2147483648) : (nI n = 0) ↔ n = 0 := by
  rw [bn_0, nI_eq (by omega) (by omega)]
theorem l_X3_slumpRow {d i r : Nat} {st : Int32} {M : bb_M} {g0 : Nat → Int32} {R : bb_P} (hr : r < 4) (hb : bf_rb g0) (hs : 1 ≤ st.toInt ∧ st.toInt ≤ 100) : ∀ (f t : Nat) (z : bb_V), t + f = bf_NN → (∀ s, s < t → bf_cc (bf_it g0 st s) st 19 ≠ 0) → (bb_Y (bb_CL (d + 1)) cd_X3_slumpRow R 5 [bb_R 3 i, bb_I (nI r), bb_I st, bb_I (nI (bf_to g0 st t)), bb_I (nI t), z] [] (bb_wr M 10 i (20 * r) 20 (bf_it g0 st t)) ↔ R (some (bb_I (nI (bf_to g0 st bf_NN)))) (bb_wr M 10 i (20 * r) 20 (bf_it g0 st bf_NN))) := by
  intro f
  have hNN : bf_NN = 196021 := rfl
  induction f with
  | zero =>
    intro t z ht hn
    have := bf_to_ge (g := g0) (st := st) t hn
    have := bf_to_b hb hs.1 t
    omega
  | succ f ih =>
    intro t z ht hn
    have hgb := bf_it_b hb (by omega : 0 ≤ st.toInt) t
    have hcl := bf_cc_le (bf_it g0 st t) st 19
    have htb := bf_to_b hb hs.1 t
    have h1 : ¬ (1000000 : Int) ≤ (t : Int) := by omega
    have e := fun k => x_X3_slumpRowOnce (d := d) (i := i) (r := r) (st := st) (M := bb_wr M 10 i (20 * r) 20 (bf_it g0 st t)) (g0 := bf_it g0 st t) (k := k) hr (fun c hc => (bb_wr_in hc).symm) hgb (by omega)
    rw [h_X3_slumpRow_5]
    simp (disch := omega) only [e_X3_slumpRow_0, e_X3_slumpRow_1, e_X3_slumpRow_2, e_X3_slumpRow_3, e_X3_slumpRow_7, e_X3_slumpRow_9, e_X3_slumpRow_12, e_X3_slumpRow_13, e_X3_slumpRow_14, e_X3_slumpRow_15, e_X3_slumpRow_18, e_X3_slumpRow_20, e_X3_slumpRow_22, e_X3_slumpRow_25, e_X3_slumpRow_26, e_X3_slumpRow_27, e_X3_slumpRow_28, e_X3_slumpRow_30, e_X3_slumpRow_31, e_X3_slumpRow_32, e_X3_slumpRow_35, e_X3_slumpRow_38, e_X3_slumpRow_39, Option.toList_some, Option.toList_none, List.cons_append, List.nil_append, true_and, and_true, and_self, bb_ite, true_or, or_true, Option.some.injEq, bb_I_eq, bb_b_0e, bb_b_1e, bb_b_e0, bb_b_e1, decide_eq_true_eq, decide_eq_false_iff_not, bn_01, bn_11, bb_b_01, ne_eq, Bool.not_eq_false, Bool.not_eq_true, Classical.not_not, bn_lt, bn_le, bn_ti, Int32.reduceToInt, bn_m20, bn_20m, nI_add, bn_p1, bn_s1, bn_in, bn_cl, implies_true, not_true_eq_false, not_false_eq_true, Bool.true_and, Bool.false_and, Bool.and_true, Bool.and_false, Bool.true_or, Bool.false_or, Bool.or_true, Bool.or_false, Bool.not_true, Bool.not_false, false_implies, true_implies, forall_const, Bool.false_eq_true, Bool.true_eq_false, reduceCtorEq, eq_self, Bool.and_eq_true, Bool.or_eq_true, Bool.and_eq_false_iff, Bool.or_eq_false_iff, and_false, false_and, or_false, false_or, h1, e, bn_nI0, bb_wr_wr]
    by_cases q : bf_cc (bf_it g0 st t) st 19 = 0
    · obtain ⟨e1, e2⟩ := bf_end q (by omega : t ≤ bf_NN)
      rw [e1, e2, bf_cc_0 19 q]
      simp only [q, Option.toList_some, Option.toList_none, List.cons_append, List.nil_append, true_and, and_true, and_self, bb_ite, true_or, or_true, Option.some.injEq, bb_I_eq, bb_b_0e, bb_b_1e, bb_b_e0, bb_b_e1, decide_eq_true_eq, decide_eq_false_iff_not, bn_01, bn_11, bb_b_01, ne_eq, Bool.not_eq_false, Bool.not_eq_true, Classical.not_not, bn_lt, bn_le, bn_ti, Int32.reduceToInt, bn_m20, bn_20m, nI_add, bn_p1, bn_s1, bn_in, bn_cl, implies_true, not_true_eq_false, not_false_eq_true, Bool.true_and, Bool.false_and, Bool.and_true, Bool.and_false, Bool.true_or, Bool.false_or, Bool.or_true, Bool.or_false, Bool.not_true, Bool.not_false, false_implies, true_implies, forall_const, Bool.false_eq_true, Bool.true_eq_false, reduceCtorEq, eq_self, Bool.and_eq_true, Bool.or_eq_true, Bool.and_eq_false_iff, Bool.or_eq_false_iff, and_false, false_and, or_false, false_or]
    · simp only [q, Option.toList_some, Option.toList_none, List.cons_append, List.nil_append, true_and, and_true, and_self, bb_ite, true_or, or_true, Option.some.injEq, bb_I_eq, bb_b_0e, bb_b_1e, bb_b_e0, bb_b_e1, decide_eq_true_eq, decide_eq_false_iff_not, bn_01, bn_11, bb_b_01, ne_eq, Bool.not_eq_false, Bool.not_eq_true, Classical.not_not, bn_lt, bn_le, bn_ti, Int32.reduceToInt, bn_m20, bn_20m, nI_add, bn_p1, bn_s1, bn_in, bn_cl, implies_true, not_true_eq_false, not_false_eq_true, Bool.true_and, Bool.false_and, Bool.and_true, Bool.and_false, Bool.true_or, Bool.false_or, Bool.or_true, Bool.or_false, Bool.not_true, Bool.not_false, false_implies, true_implies, forall_const, Bool.false_eq_true, Bool.true_eq_false, reduceCtorEq, eq_self, Bool.and_eq_true, Bool.or_eq_true, Bool.and_eq_false_iff, Bool.or_eq_false_iff, and_false, false_and, or_false, false_or]
      have hto : bf_to g0 st (t + 1) = bf_to g0 st t + bf_cc (bf_it g0 st t) st 19 := rfl
      have hit : bf_it g0 st (t + 1) = bf_pp (bf_it g0 st t) st 19 := rfl
      rw [← ih (t + 1) (bb_I (nI (bf_cc (bf_it g0 st t) st 19))) (by omega) (fun s hs2 => by
        rcases Nat.lt_succ_iff_lt_or_eq.mp hs2 with h | h
        · exact hn s h
        · rw [h]; exact q), hto, hit]
theorem x_X3_slumpRow {d i r : Nat} {st : Int32} {M : bb_M} {g0 : Nat → Int32} {k : Option bb_V → bb_M → Prop} (hr : r < 4) (hg : ∀ c, c < 20 → g0 c = M 10 i (20 * r + c)) (hb : bf_rb g0) (hs : 1 ≤ st.toInt ∧ st.toInt ≤ 100) : bb_call (bb_CL (d + 2)) 65 [bb_R 3 i, bb_I (nI r), bb_I st] M k ↔ k (some (bb_I (nI (bf_to g0 st bf_NN)))) (bb_wr M 10 i (20 * r) 20 (bf_it g0 st bf_NN)) := by
  refine bb_cal (st_X3_slumpRow ?_)
  simp only [e_X3_slumpRow_0, e_X3_slumpRow_1, e_X3_slumpRow_2, e_X3_slumpRow_3, e_X3_slumpRow_7, e_X3_slumpRow_9, e_X3_slumpRow_12, e_X3_slumpRow_13, e_X3_slumpRow_14, e_X3_slumpRow_15, e_X3_slumpRow_18, e_X3_slumpRow_20, e_X3_slumpRow_22, e_X3_slumpRow_25, e_X3_slumpRow_26, e_X3_slumpRow_27, e_X3_slumpRow_28, e_X3_slumpRow_30, e_X3_slumpRow_31, e_X3_slumpRow_32, e_X3_slumpRow_35, e_X3_slumpRow_38, e_X3_slumpRow_39]
  have := (l_X3_slumpRow (d := d) (i := i) (M := M) (g0 := g0) (R := fun r' M' => r' = some (bb_I (nI (bf_to g0 st bf_NN))) ∧ M' = bb_wr M 10 i (20 * r) 20 (bf_it g0 st bf_NN)) hr hb hs bf_NN 0 bb_U (Nat.zero_add _) (fun s hs => absurd hs (Nat.not_lt_zero s))).mpr ⟨rfl, rfl⟩
  rw [show bb_wr M 10 i (20 * r) 20 (bf_it g0 st 0) = M from bb_wr_same hg] at this
  exact this
/-- all rows at rest; the units of r rows -/
def bf_rg (h : Nat → Int32) (r : Nat) : Nat → Int32 := fun c => if c < 20 then h (20 * r + c) else 0
theorem bf_rg_c {h : Nat → Int32} {r c : Nat} (hc : c < 20) : bf_rg h r c = h (20 * r + c) := if_pos hc
theorem bf_rg_eq {h h' : Nat → Int32} {r : Nat} (e : ∀ j, j < 80 → h j = h' j) (hr : r < 4) : bf_rg h r = bf_rg h' r := by
  funext c
  unfold bf_rg
  by_cases q : c < 20
  · rw [if_pos q, if_pos q, e _ (by omega)]
  · rw [if_neg q, if_neg q]
def bf_st (h : Nat → Int32) (st : Int32) : Nat → Int32 := fun j => bf_it (bf_rg h (j / 20)) st bf_NN (j % 20)
def bf_su (h : Nat → Int32) (st : Int32) : Nat → Nat
  | 0 => 0
  | r + 1 => bf_su h st r + bf_to (bf_rg h r) st bf_NN
theorem bf_rg_b {h : Nat → Int32} (hB : bf_hb h) {r : Nat} (hr : r < 4) : bf_rb (bf_rg h r) := fun c hc => by rw [bf_rg_c hc]; exact hB (20 * r + c) (by omega)
theorem l_X3_slump {d i : Nat} {st : Int32} {M : bb_M} {R : bb_P} (hB : bf_hb (M 10 i)) (hs : 1 ≤ st.toInt ∧ st.toInt ≤ 100) : ∀ (t r : Nat), r + t = 4 → (bb_Y (bb_CL (d + 2)) cd_X3_slump R 4 [bb_R 3 i, bb_I st, bb_I (nI (bf_su (M 10 i) st r)), bb_I (nI r)] [] (bb_wr M 10 i 0 (20 * r) (bf_st (M 10 i) st)) ↔ R (some (bb_I (nI (bf_su (M 10 i) st 4)))) (bb_wr M 10 i 0 80 (bf_st (M 10 i) st))) := by
  intro t
  induction t with
  | zero =>
    intro r hn
    obtain rfl : r = 4 := by omega
    rw [h_X3_slump_4]
    simp (disch := omega) only [e_X3_slump_0, e_X3_slump_1, e_X3_slump_2, e_X3_slump_3, e_X3_slump_5, e_X3_slump_6, e_X3_slump_9, e_X3_slump_10, e_X3_slump_11, e_X3_slump_12, e_X3_slump_13, e_X3_slump_16, e_X3_slump_17, e_X3_slump_18, e_X3_slump_21, e_X3_slump_24, e_X3_slump_25, Option.toList_some, Option.toList_none, List.cons_append, List.nil_append, true_and, and_true, and_self, bb_ite, true_or, or_true, Option.some.injEq, bb_I_eq, bb_b_0e, bb_b_1e, bb_b_e0, bb_b_e1, decide_eq_true_eq, decide_eq_false_iff_not, bn_01, bn_11, bb_b_01, ne_eq, Bool.not_eq_false, Bool.not_eq_true, Classical.not_not, bn_lt, bn_le, bn_ti, Int32.reduceToInt, bn_m20, bn_20m, nI_add, bn_p1, bn_s1, bn_in, bn_cl, implies_true, not_true_eq_false, not_false_eq_true, Bool.true_and, Bool.false_and, Bool.and_true, Bool.and_false, Bool.true_or, Bool.false_or, Bool.or_true, Bool.or_false, Bool.not_true, Bool.not_false, false_implies, true_implies, forall_const, Bool.false_eq_true, Bool.true_eq_false, reduceCtorEq, eq_self, Bool.and_eq_true, Bool.or_eq_true, Bool.and_eq_false_iff, Bool.or_eq_false_iff, and_false, false_and, or_false, false_or, Int.cast_ofNat_Int, Int.le_refl]
  | succ t ih =>
    intro r hn
    have h1 : ¬ (4 : Int) ≤ (r : Int) := by omega
    have e := fun k => x_X3_slumpRow (d := d) (i := i) (r := r) (st := st) (M := bb_wr M 10 i 0 (20 * r) (bf_st (M 10 i) st)) (g0 := bf_rg (M 10 i) r) (k := k) (by omega) (fun c hc => by rw [bf_rg_c hc]; exact (bb_wr_out (by omega)).symm) (bf_rg_b hB (by omega)) hs
    rw [h_X3_slump_4]
    simp (disch := omega) only [e_X3_slump_0, e_X3_slump_1, e_X3_slump_2, e_X3_slump_3, e_X3_slump_5, e_X3_slump_6, e_X3_slump_9, e_X3_slump_10, e_X3_slump_11, e_X3_slump_12, e_X3_slump_13, e_X3_slump_16, e_X3_slump_17, e_X3_slump_18, e_X3_slump_21, e_X3_slump_24, e_X3_slump_25, Option.toList_some, Option.toList_none, List.cons_append, List.nil_append, true_and, and_true, and_self, bb_ite, true_or, or_true, Option.some.injEq, bb_I_eq, bb_b_0e, bb_b_1e, bb_b_e0, bb_b_e1, decide_eq_true_eq, decide_eq_false_iff_not, bn_01, bn_11, bb_b_01, ne_eq, Bool.not_eq_false, Bool.not_eq_true, Classical.not_not, bn_lt, bn_le, bn_ti, Int32.reduceToInt, bn_m20, bn_20m, nI_add, bn_p1, bn_s1, bn_in, bn_cl, implies_true, not_true_eq_false, not_false_eq_true, Bool.true_and, Bool.false_and, Bool.and_true, Bool.and_false, Bool.true_or, Bool.false_or, Bool.or_true, Bool.or_false, Bool.not_true, Bool.not_false, false_implies, true_implies, forall_const, Bool.false_eq_true, Bool.true_eq_false, reduceCtorEq, eq_self, Bool.and_eq_true, Bool.or_eq_true, Bool.and_eq_false_iff, Bool.or_eq_false_iff, and_false, false_and, or_false, false_or, h1, e]
    rw [← ih (r + 1) (by omega)]
    have hM : bb_wr (bb_wr M 10 i 0 (20 * r) (bf_st (M 10 i) st)) 10 i (20 * r) 20 (bf_it (bf_rg (M 10 i) r) st bf_NN) = bb_wr M 10 i 0 (20 * (r + 1)) (bf_st (M 10 i) st) := by
      funext k' i' j
      unfold bb_wr
      by_cases q : k' = 10 ∧ i' = i
      · obtain ⟨rfl, rfl⟩ := q
        by_cases q2 : 20 * r ≤ j ∧ j < 20 * r + 20
        · rw [if_pos ⟨rfl, rfl, q2⟩, if_pos ⟨rfl, rfl, by omega, by omega⟩]
          unfold bf_st
          rw [show (j - 0) / 20 = r by omega, show (j - 0) % 20 = j - 20 * r by omega]
        · rw [if_neg (fun z => q2 z.2.2)]
          by_cases q3 : j < 20 * r
          · rw [if_pos ⟨rfl, rfl, by omega, by omega⟩, if_pos ⟨rfl, rfl, by omega, by omega⟩]
          · rw [if_neg (by omega), if_neg (by omega)]
      · rw [if_neg (fun z => q ⟨z.1, z.2.1⟩), if_neg (fun z => q ⟨z.1, z.2.1⟩), if_neg (fun z => q ⟨z.1, z.2.1⟩)]
    rw [hM]
    rfl
theorem x_X3_slump {d i : Nat} {st : Int32} {M : bb_M} {k : Option bb_V → bb_M → Prop} (hB : bf_hb (M 10 i)) (hs : 1 ≤ st.toInt ∧ st.toInt ≤ 100) : bb_call (bb_CL (d + 3)) 64 [bb_R 3 i, bb_I st] M k ↔ k (some (bb_I (nI (bf_su (M 10 i) st 4)))) (bb_wr M 10 i 0 80 (bf_st (M 10 i) st)) := by
  refine bb_cal (st_X3_slump ?_)
  simp only [e_X3_slump_0, e_X3_slump_1, e_X3_slump_2, e_X3_slump_3, e_X3_slump_5, e_X3_slump_6, e_X3_slump_9, e_X3_slump_10, e_X3_slump_11, e_X3_slump_12, e_X3_slump_13, e_X3_slump_16, e_X3_slump_17, e_X3_slump_18, e_X3_slump_21, e_X3_slump_24, e_X3_slump_25]
  have := (l_X3_slump (d := d) (i := i) (M := M) (st := st) (R := fun r' M' => r' = some (bb_I (nI (bf_su (M 10 i) st 4))) ∧ M' = bb_wr M 10 i 0 80 (bf_st (M 10 i) st)) hB hs 4 0 rfl).mpr ⟨rfl, rfl⟩
  rw [show bb_wr M 10 i 0 (20 * 0) (bf_st (M 10 i) st) = M from bb_wr_same (fun c hc => absurd hc (Nat.not_lt_zero c))] at this
  exact this
