/-! SAND: loops that read -/
def bf_bits (p : Nat → Bool) : Nat → Int32
  | 0 => 0
  | n + 1 => if p n then bf_bits p n ||| (1 <<< (nI n &&& 31)) else bf_bits p n
def bf_cn (p : Nat → Bool) : Nat → Nat
  | 0 => 0
  | n + 1 => if p n then bf_cn p n + 1 else bf_cn p n
theorem bf_bits_1 {p : Nat → Bool} (h : p 0 = false) : bf_bits p 1 = 0 := by
  show (if p 0 then _ else _) = _
  rw [h]
  rfl
theorem bf_bits_s {p : Nat → Bool} {n : Nat} (h : p n = false) : bf_bits p (n + 1) = bf_bits p n := by
  show (if p n then _ else _) = _
  rw [h]
  rfl
theorem bf_bits_t {p : Nat → Bool} {n : Nat} (h : p n = true) : bf_bits p (n + 1) = bf_bits p n ||| (1 <<< (nI n &&& 31)) := by
  show (if p n then _ else _) = _
  rw [h]
  rfl
theorem bf_bar_0 {h : Nat → Int32} {lv : Int32} {r : Nat} : bf_bar h lv r 0 = false := by
  unfold bf_bar
  simp
theorem bf_bar_19 {h : Nat → Int32} {lv : Int32} {r : Nat} : bf_bar h lv r 19 = false := by
  unfold bf_bar
  simp
theorem bf_gap_0 {h : Nat → Int32} {lv g : Int32} {r : Nat} : bf_gap h lv g r 0 = false := by
  unfold bf_gap
  simp
theorem bf_gap_19 {h : Nat → Int32} {lv g : Int32} {r : Nat} : bf_gap h lv g r 19 = false := by
  unfold bf_gap
  simp
theorem l_X3_bars {d i r : Nat} {v : Int32} {M : bb_M} {R : bb_P} (hr : r < 4) : ∀ (t n : Nat), n + t = 19 → (bb_Y (bb_CL (d + 1)) cd_X3_bars R 5 [bb_R 3 i, bb_I (nI r), bb_I v, bb_I (bf_bits (bf_bar (M 10 i) v r) n), bb_I (nI n)] [] M ↔ R (some (bb_I (bf_bits (bf_bar (M 10 i) v r) 19))) M) := by
  intro t
  induction t with
  | zero =>
    intro n hn
    obtain rfl : n = 19 := by omega
    rw [h_X3_bars_5]
    simp (disch := omega) only [e_X3_bars_0, e_X3_bars_1, e_X3_bars_2, e_X3_bars_3, e_X3_bars_7, e_X3_bars_9, e_X3_bars_12, e_X3_bars_13, e_X3_bars_14, e_X3_bars_16, e_X3_bars_17, e_X3_bars_20, e_X3_bars_23, e_X3_bars_24, e_X3_bars_25, e_X3_bars_27, e_X3_bars_28, e_X3_bars_29, e_X3_bars_30, e_X3_bars_33, e_X3_bars_36, e_X3_bars_37, Option.toList_some, Option.toList_none, List.cons_append, List.nil_append, true_and, and_true, and_self, bb_ite, true_or, or_true, Option.some.injEq, bb_I_eq, bb_b_0e, bb_b_1e, bb_b_e0, bb_b_e1, decide_eq_true_eq, decide_eq_false_iff_not, bn_01, bn_11, bb_b_01, ne_eq, Bool.not_eq_false, Bool.not_eq_true, Classical.not_not, bn_lt, bn_le, bn_ti, Int32.reduceToInt, bn_m20, bn_20m, nI_add, bn_p1, bn_s1, bn_in, bn_cl, implies_true, not_true_eq_false, not_false_eq_true, Bool.true_and, Bool.false_and, Bool.and_true, Bool.and_false, Bool.true_or, Bool.false_or, Bool.or_true, Bool.or_false, Bool.not_true, Bool.not_false, false_implies, true_implies, forall_const, Bool.false_eq_true, Bool.true_eq_false, reduceCtorEq, eq_self, Bool.and_eq_true, Bool.or_eq_true, Bool.and_eq_false_iff, Bool.or_eq_false_iff, and_false, false_and, or_false, false_or, Int.cast_ofNat_Int, Int.le_refl]
  | succ t ih =>
    intro n hn
    rw [h_X3_bars_5, ← ih (n + 1) (by omega)]
    have h1 : ¬ (19 : Int) ≤ (n : Int) := by omega
    simp (disch := omega) only [e_X3_bars_0, e_X3_bars_1, e_X3_bars_2, e_X3_bars_3, e_X3_bars_7, e_X3_bars_9, e_X3_bars_12, e_X3_bars_13, e_X3_bars_14, e_X3_bars_16, e_X3_bars_17, e_X3_bars_20, e_X3_bars_23, e_X3_bars_24, e_X3_bars_25, e_X3_bars_27, e_X3_bars_28, e_X3_bars_29, e_X3_bars_30, e_X3_bars_33, e_X3_bars_36, e_X3_bars_37, x_X3_isBar, Option.toList_some, Option.toList_none, List.cons_append, List.nil_append, true_and, and_true, and_self, bb_ite, true_or, or_true, Option.some.injEq, bb_I_eq, bb_b_0e, bb_b_1e, bb_b_e0, bb_b_e1, decide_eq_true_eq, decide_eq_false_iff_not, bn_01, bn_11, bb_b_01, ne_eq, Bool.not_eq_false, Bool.not_eq_true, Classical.not_not, bn_lt, bn_le, bn_ti, Int32.reduceToInt, bn_m20, bn_20m, nI_add, bn_p1, bn_s1, bn_in, bn_cl, implies_true, not_true_eq_false, not_false_eq_true, Bool.true_and, Bool.false_and, Bool.and_true, Bool.and_false, Bool.true_or, Bool.false_or, Bool.or_true, Bool.or_false, Bool.not_true, Bool.not_false, false_implies, true_implies, forall_const, Bool.false_eq_true, Bool.true_eq_false, reduceCtorEq, eq_self, Bool.and_eq_true, Bool.or_eq_true, Bool.and_eq_false_iff, Bool.or_eq_false_iff, and_false, false_and, or_false, false_or, h1]
    cases hb : bf_bar (M 10 i) v r n
    · simp only [Option.toList_some, Option.toList_none, List.cons_append, List.nil_append, true_and, and_true, and_self, bb_ite, true_or, or_true, Option.some.injEq, bb_I_eq, bb_b_0e, bb_b_1e, bb_b_e0, bb_b_e1, decide_eq_true_eq, decide_eq_false_iff_not, bn_01, bn_11, bb_b_01, ne_eq, Bool.not_eq_false, Bool.not_eq_true, Classical.not_not, bn_lt, bn_le, bn_ti, Int32.reduceToInt, bn_m20, bn_20m, nI_add, bn_p1, bn_s1, bn_in, bn_cl, implies_true, not_true_eq_false, not_false_eq_true, Bool.true_and, Bool.false_and, Bool.and_true, Bool.and_false, Bool.true_or, Bool.false_or, Bool.or_true, Bool.or_false, Bool.not_true, Bool.not_false, false_implies, true_implies, forall_const, Bool.false_eq_true, Bool.true_eq_false, reduceCtorEq, eq_self, Bool.and_eq_true, Bool.or_eq_true, Bool.and_eq_false_iff, Bool.or_eq_false_iff, and_false, false_and, or_false, false_or, bf_bits_s hb]
    · simp only [Option.toList_some, Option.toList_none, List.cons_append, List.nil_append, true_and, and_true, and_self, bb_ite, true_or, or_true, Option.some.injEq, bb_I_eq, bb_b_0e, bb_b_1e, bb_b_e0, bb_b_e1, decide_eq_true_eq, decide_eq_false_iff_not, bn_01, bn_11, bb_b_01, ne_eq, Bool.not_eq_false, Bool.not_eq_true, Classical.not_not, bn_lt, bn_le, bn_ti, Int32.reduceToInt, bn_m20, bn_20m, nI_add, bn_p1, bn_s1, bn_in, bn_cl, implies_true, not_true_eq_false, not_false_eq_true, Bool.true_and, Bool.false_and, Bool.and_true, Bool.and_false, Bool.true_or, Bool.false_or, Bool.or_true, Bool.or_false, Bool.not_true, Bool.not_false, false_implies, true_implies, forall_const, Bool.false_eq_true, Bool.true_eq_false, reduceCtorEq, eq_self, Bool.and_eq_true, Bool.or_eq_true, Bool.and_eq_false_iff, Bool.or_eq_false_iff, and_false, false_and, or_false, false_or, bf_bits_t hb]
theorem x_X3_bars {d i r : Nat} {v : Int32} {M : bb_M} {k : Option bb_V → bb_M → Prop} (hr : r < 4) : bb_call (bb_CL (d + 2)) 54 [bb_R 3 i, bb_I (nI r), bb_I v] M k ↔ k (some (bb_I (bf_bits (bf_bar (M 10 i) v r) 19))) M := by
  refine bb_cal (st_X3_bars ?_)
  have := (l_X3_bars (d := d) (i := i) (v := v) (M := M) (R := fun r' M' => r' = some (bb_I (bf_bits (bf_bar (M 10 i) v r) 19)) ∧ M' = M) hr 18 1 rfl).mpr ⟨rfl, rfl⟩
  rw [bf_bits_1 bf_bar_0] at this
  simp (disch := omega) only [e_X3_bars_0, e_X3_bars_1, e_X3_bars_2, e_X3_bars_3, e_X3_bars_7, e_X3_bars_9, e_X3_bars_12, e_X3_bars_13, e_X3_bars_14, e_X3_bars_16, e_X3_bars_17, e_X3_bars_20, e_X3_bars_23, e_X3_bars_24, e_X3_bars_25, e_X3_bars_27, e_X3_bars_28, e_X3_bars_29, e_X3_bars_30, e_X3_bars_33, e_X3_bars_36, e_X3_bars_37]
  exact this
theorem l_X3_gaps {d i r : Nat} {v g : Int32} {M : bb_M} {R : bb_P} (hr : r < 4) (hB : bf_hb (M 10 i)) (hg : 0 ≤ g.toInt ∧ g.toInt ≤ 100) : ∀ (t n : Nat), n + t = 19 → (bb_Y (bb_CL (d + 3)) cd_X3_gaps R 6 [bb_R 3 i, bb_I (nI r), bb_I v, bb_I g, bb_I (bf_bits (bf_gap (M 10 i) v g r) n), bb_I (nI n)] [] M ↔ R (some (bb_I (bf_bits (bf_gap (M 10 i) v g r) 19))) M) := by
  intro t
  induction t with
  | zero =>
    intro n hn
    obtain rfl : n = 19 := by omega
    rw [h_X3_gaps_6]
    simp (disch := omega) only [e_X3_gaps_0, e_X3_gaps_1, e_X3_gaps_3, e_X3_gaps_4, e_X3_gaps_8, e_X3_gaps_10, e_X3_gaps_13, e_X3_gaps_14, e_X3_gaps_15, e_X3_gaps_17, e_X3_gaps_18, e_X3_gaps_19, e_X3_gaps_22, e_X3_gaps_25, e_X3_gaps_27, e_X3_gaps_28, e_X3_gaps_30, e_X3_gaps_31, e_X3_gaps_32, e_X3_gaps_34, e_X3_gaps_37, e_X3_gaps_40, e_X3_gaps_42, Option.toList_some, Option.toList_none, List.cons_append, List.nil_append, true_and, and_true, and_self, bb_ite, true_or, or_true, Option.some.injEq, bb_I_eq, bb_b_0e, bb_b_1e, bb_b_e0, bb_b_e1, decide_eq_true_eq, decide_eq_false_iff_not, bn_01, bn_11, bb_b_01, ne_eq, Bool.not_eq_false, Bool.not_eq_true, Classical.not_not, bn_lt, bn_le, bn_ti, Int32.reduceToInt, bn_m20, bn_20m, nI_add, bn_p1, bn_s1, bn_in, bn_cl, implies_true, not_true_eq_false, not_false_eq_true, Bool.true_and, Bool.false_and, Bool.and_true, Bool.and_false, Bool.true_or, Bool.false_or, Bool.or_true, Bool.or_false, Bool.not_true, Bool.not_false, false_implies, true_implies, forall_const, Bool.false_eq_true, Bool.true_eq_false, reduceCtorEq, eq_self, Bool.and_eq_true, Bool.or_eq_true, Bool.and_eq_false_iff, Bool.or_eq_false_iff, and_false, false_and, or_false, false_or, Int.cast_ofNat_Int, Int.le_refl]
  | succ t ih =>
    intro n hn
    rw [h_X3_gaps_6, ← ih (n + 1) (by omega)]
    have h1 : ¬ (19 : Int) ≤ (n : Int) := by omega
    simp (disch := omega) only [e_X3_gaps_0, e_X3_gaps_1, e_X3_gaps_3, e_X3_gaps_4, e_X3_gaps_8, e_X3_gaps_10, e_X3_gaps_13, e_X3_gaps_14, e_X3_gaps_15, e_X3_gaps_17, e_X3_gaps_18, e_X3_gaps_19, e_X3_gaps_22, e_X3_gaps_25, e_X3_gaps_27, e_X3_gaps_28, e_X3_gaps_30, e_X3_gaps_31, e_X3_gaps_32, e_X3_gaps_34, e_X3_gaps_37, e_X3_gaps_40, e_X3_gaps_42, x_X3_isGap hr _ hB hg, Option.toList_some, Option.toList_none, List.cons_append, List.nil_append, true_and, and_true, and_self, bb_ite, true_or, or_true, Option.some.injEq, bb_I_eq, bb_b_0e, bb_b_1e, bb_b_e0, bb_b_e1, decide_eq_true_eq, decide_eq_false_iff_not, bn_01, bn_11, bb_b_01, ne_eq, Bool.not_eq_false, Bool.not_eq_true, Classical.not_not, bn_lt, bn_le, bn_ti, Int32.reduceToInt, bn_m20, bn_20m, nI_add, bn_p1, bn_s1, bn_in, bn_cl, implies_true, not_true_eq_false, not_false_eq_true, Bool.true_and, Bool.false_and, Bool.and_true, Bool.and_false, Bool.true_or, Bool.false_or, Bool.or_true, Bool.or_false, Bool.not_true, Bool.not_false, false_implies, true_implies, forall_const, Bool.false_eq_true, Bool.true_eq_false, reduceCtorEq, eq_self, Bool.and_eq_true, Bool.or_eq_true, Bool.and_eq_false_iff, Bool.or_eq_false_iff, and_false, false_and, or_false, false_or, h1]
    cases hb : bf_gap (M 10 i) v g r n
    · simp only [Option.toList_some, Option.toList_none, List.cons_append, List.nil_append, true_and, and_true, and_self, bb_ite, true_or, or_true, Option.some.injEq, bb_I_eq, bb_b_0e, bb_b_1e, bb_b_e0, bb_b_e1, decide_eq_true_eq, decide_eq_false_iff_not, bn_01, bn_11, bb_b_01, ne_eq, Bool.not_eq_false, Bool.not_eq_true, Classical.not_not, bn_lt, bn_le, bn_ti, Int32.reduceToInt, bn_m20, bn_20m, nI_add, bn_p1, bn_s1, bn_in, bn_cl, implies_true, not_true_eq_false, not_false_eq_true, Bool.true_and, Bool.false_and, Bool.and_true, Bool.and_false, Bool.true_or, Bool.false_or, Bool.or_true, Bool.or_false, Bool.not_true, Bool.not_false, false_implies, true_implies, forall_const, Bool.false_eq_true, Bool.true_eq_false, reduceCtorEq, eq_self, Bool.and_eq_true, Bool.or_eq_true, Bool.and_eq_false_iff, Bool.or_eq_false_iff, and_false, false_and, or_false, false_or, bf_bits_s hb]
    · simp only [Option.toList_some, Option.toList_none, List.cons_append, List.nil_append, true_and, and_true, and_self, bb_ite, true_or, or_true, Option.some.injEq, bb_I_eq, bb_b_0e, bb_b_1e, bb_b_e0, bb_b_e1, decide_eq_true_eq, decide_eq_false_iff_not, bn_01, bn_11, bb_b_01, ne_eq, Bool.not_eq_false, Bool.not_eq_true, Classical.not_not, bn_lt, bn_le, bn_ti, Int32.reduceToInt, bn_m20, bn_20m, nI_add, bn_p1, bn_s1, bn_in, bn_cl, implies_true, not_true_eq_false, not_false_eq_true, Bool.true_and, Bool.false_and, Bool.and_true, Bool.and_false, Bool.true_or, Bool.false_or, Bool.or_true, Bool.or_false, Bool.not_true, Bool.not_false, false_implies, true_implies, forall_const, Bool.false_eq_true, Bool.true_eq_false, reduceCtorEq, eq_self, Bool.and_eq_true, Bool.or_eq_true, Bool.and_eq_false_iff, Bool.or_eq_false_iff, and_false, false_and, or_false, false_or, bf_bits_t hb]
theorem x_X3_gaps {d i r : Nat} {v g : Int32} {M : bb_M} {k : Option bb_V → bb_M → Prop} (hr : r < 4) (hB : bf_hb (M 10 i)) (hg : 0 ≤ g.toInt ∧ g.toInt ≤ 100) : bb_call (bb_CL (d + 4)) 55 [bb_R 3 i, bb_I (nI r), bb_I v, bb_I g] M k ↔ k (some (bb_I (bf_bits (bf_gap (M 10 i) v g r) 19))) M := by
  refine bb_cal (st_X3_gaps ?_)
  have := (l_X3_gaps (d := d) (i := i) (v := v) (g := g) (M := M) (R := fun r' M' => r' = some (bb_I (bf_bits (bf_gap (M 10 i) v g r) 19)) ∧ M' = M) hr hB hg 18 1 rfl).mpr ⟨rfl, rfl⟩
  rw [bf_bits_1 bf_gap_0] at this
  simp (disch := omega) only [e_X3_gaps_0, e_X3_gaps_1, e_X3_gaps_3, e_X3_gaps_4, e_X3_gaps_8, e_X3_gaps_10, e_X3_gaps_13, e_X3_gaps_14, e_X3_gaps_15, e_X3_gaps_17, e_X3_gaps_18, e_X3_gaps_19, e_X3_gaps_22, e_X3_gaps_25, e_X3_gaps_27, e_X3_gaps_28, e_X3_gaps_30, e_X3_gaps_31, e_X3_gaps_32, e_X3_gaps_34, e_X3_gaps_37, e_X3_gaps_40, e_X3_gaps_42]
  exact this
/-- the sum of n numbers from a on -/
def bf_sm (f : Nat → Int32) (a : Nat) : Nat → Int32
  | 0 => 0
  | n + 1 => bf_sm f a n + f (a + n)
/-- the sums of r rows, n cells from a on -/
def bf_sr (f : Nat → Int32) (a n : Nat) : Nat → Int32
  | 0 => 0
  | r + 1 => bf_sr f a n r + bf_sm f (20 * r + a) n
theorem l_X3_between1 {d i r a b : Nat} {s : Int32} {M : bb_M} {R : bb_P} (hr : r < 4) (ha : a ≤ b) (hb : b < 20) : ∀ (t n : Nat), n + t = b + 1 - a → (bb_Y (bb_CL (d + 1)) cd_X3_between R 14 [bb_R 3 i, bb_I (nI a), bb_I (nI b), bb_I (s + bf_sm (M 10 i) (20 * r + a) n), bb_I (nI r), bb_I (nI (a + n))] [] M ↔ bb_Y (bb_CL (d + 1)) cd_X3_between R 5 [bb_R 3 i, bb_I (nI a), bb_I (nI b), bb_I (s + bf_sm (M 10 i) (20 * r + a) (b + 1 - a)), bb_I (nI (r + 1)), bb_I (nI (b + 1))] [] M) := by
  intro t
  induction t with
  | zero =>
    intro n hn
    obtain rfl : n = b + 1 - a := by omega
    rw [h_X3_between_14, show a + (b + 1 - a) = b + 1 by omega]
    have h1 : (b : Int) < ((b + 1 : Nat) : Int) := by omega
    simp (disch := omega) only [e_X3_between_0, e_X3_between_1, e_X3_between_2, e_X3_between_3, e_X3_between_7, e_X3_between_8, e_X3_between_11, e_X3_between_12, e_X3_between_16, e_X3_between_17, e_X3_between_20, e_X3_between_21, e_X3_between_22, e_X3_between_24, e_X3_between_26, e_X3_between_29, e_X3_between_30, e_X3_between_31, e_X3_between_34, e_X3_between_37, e_X3_between_40, e_X3_between_43, e_X3_between_44, Option.toList_some, Option.toList_none, List.cons_append, List.nil_append, true_and, and_true, and_self, bb_ite, true_or, or_true, Option.some.injEq, bb_I_eq, bb_b_0e, bb_b_1e, bb_b_e0, bb_b_e1, decide_eq_true_eq, decide_eq_false_iff_not, bn_01, bn_11, bb_b_01, ne_eq, Bool.not_eq_false, Bool.not_eq_true, Classical.not_not, bn_lt, bn_le, bn_ti, Int32.reduceToInt, bn_m20, bn_20m, nI_add, bn_p1, bn_s1, bn_in, bn_cl, implies_true, not_true_eq_false, not_false_eq_true, Bool.true_and, Bool.false_and, Bool.and_true, Bool.and_false, Bool.true_or, Bool.false_or, Bool.or_true, Bool.or_false, Bool.not_true, Bool.not_false, false_implies, true_implies, forall_const, Bool.false_eq_true, Bool.true_eq_false, reduceCtorEq, eq_self, Bool.and_eq_true, Bool.or_eq_true, Bool.and_eq_false_iff, Bool.or_eq_false_iff, and_false, false_and, or_false, false_or, h1]
  | succ t ih =>
    intro n hn
    rw [h_X3_between_14, ← ih (n + 1) (by omega)]
    have h1 : ¬ (b : Int) < ((a + n : Nat) : Int) := by omega
    simp (disch := omega) only [e_X3_between_0, e_X3_between_1, e_X3_between_2, e_X3_between_3, e_X3_between_7, e_X3_between_8, e_X3_between_11, e_X3_between_12, e_X3_between_16, e_X3_between_17, e_X3_between_20, e_X3_between_21, e_X3_between_22, e_X3_between_24, e_X3_between_26, e_X3_between_29, e_X3_between_30, e_X3_between_31, e_X3_between_34, e_X3_between_37, e_X3_between_40, e_X3_between_43, e_X3_between_44, x_X3_heightAt, Option.toList_some, Option.toList_none, List.cons_append, List.nil_append, true_and, and_true, and_self, bb_ite, true_or, or_true, Option.some.injEq, bb_I_eq, bb_b_0e, bb_b_1e, bb_b_e0, bb_b_e1, decide_eq_true_eq, decide_eq_false_iff_not, bn_01, bn_11, bb_b_01, ne_eq, Bool.not_eq_false, Bool.not_eq_true, Classical.not_not, bn_lt, bn_le, bn_ti, Int32.reduceToInt, bn_m20, bn_20m, nI_add, bn_p1, bn_s1, bn_in, bn_cl, implies_true, not_true_eq_false, not_false_eq_true, Bool.true_and, Bool.false_and, Bool.and_true, Bool.and_false, Bool.true_or, Bool.false_or, Bool.or_true, Bool.or_false, Bool.not_true, Bool.not_false, false_implies, true_implies, forall_const, Bool.false_eq_true, Bool.true_eq_false, reduceCtorEq, eq_self, Bool.and_eq_true, Bool.or_eq_true, Bool.and_eq_false_iff, Bool.or_eq_false_iff, and_false, false_and, or_false, false_or, h1]
    rw [show s + bf_sm (M 10 i) (20 * r + a) (n + 1) = s + bf_sm (M 10 i) (20 * r + a) n + M 10 i (20 * r + (a + n)) by rw [← Nat.add_assoc, Int32.add_assoc]; rfl, Nat.add_assoc]
theorem l_X3_between2 {d i a b : Nat} {M : bb_M} {R : bb_P} (ha : a ≤ b) (hb : b < 20) : ∀ (t r : Nat) (z : bb_V), r + t = 4 → (bb_Y (bb_CL (d + 1)) cd_X3_between R 5 [bb_R 3 i, bb_I (nI a), bb_I (nI b), bb_I (bf_sr (M 10 i) a (b + 1 - a) r), bb_I (nI r), z] [] M ↔ R (some (bb_I (bf_sr (M 10 i) a (b + 1 - a) 4))) M) := by
  intro t
  induction t with
  | zero =>
    intro r z hn
    obtain rfl : r = 4 := by omega
    rw [h_X3_between_5]
    simp (disch := omega) only [e_X3_between_0, e_X3_between_1, e_X3_between_2, e_X3_between_3, e_X3_between_7, e_X3_between_8, e_X3_between_11, e_X3_between_12, e_X3_between_16, e_X3_between_17, e_X3_between_20, e_X3_between_21, e_X3_between_22, e_X3_between_24, e_X3_between_26, e_X3_between_29, e_X3_between_30, e_X3_between_31, e_X3_between_34, e_X3_between_37, e_X3_between_40, e_X3_between_43, e_X3_between_44, Option.toList_some, Option.toList_none, List.cons_append, List.nil_append, true_and, and_true, and_self, bb_ite, true_or, or_true, Option.some.injEq, bb_I_eq, bb_b_0e, bb_b_1e, bb_b_e0, bb_b_e1, decide_eq_true_eq, decide_eq_false_iff_not, bn_01, bn_11, bb_b_01, ne_eq, Bool.not_eq_false, Bool.not_eq_true, Classical.not_not, bn_lt, bn_le, bn_ti, Int32.reduceToInt, bn_m20, bn_20m, nI_add, bn_p1, bn_s1, bn_in, bn_cl, implies_true, not_true_eq_false, not_false_eq_true, Bool.true_and, Bool.false_and, Bool.and_true, Bool.and_false, Bool.true_or, Bool.false_or, Bool.or_true, Bool.or_false, Bool.not_true, Bool.not_false, false_implies, true_implies, forall_const, Bool.false_eq_true, Bool.true_eq_false, reduceCtorEq, eq_self, Bool.and_eq_true, Bool.or_eq_true, Bool.and_eq_false_iff, Bool.or_eq_false_iff, and_false, false_and, or_false, false_or, Int.cast_ofNat_Int, Int.le_refl]
  | succ t ih =>
    intro r z hn
    have e := l_X3_between1 (d := d) (i := i) (r := r) (s := bf_sr (M 10 i) a (b + 1 - a) r) (M := M) (R := R) (by omega) ha hb (b + 1 - a) 0 (by omega)
    rw [show bf_sr (M 10 i) a (b + 1 - a) r + bf_sm (M 10 i) (20 * r + a) 0 = bf_sr (M 10 i) a (b + 1 - a) r from Int32.add_zero _] at e
    rw [h_X3_between_5, ← ih (r + 1) (bb_I (nI (b + 1))) (by omega)]
    have h1 : ¬ (4 : Int) ≤ (r : Int) := by omega
    simp (disch := omega) only [e_X3_between_0, e_X3_between_1, e_X3_between_2, e_X3_between_3, e_X3_between_7, e_X3_between_8, e_X3_between_11, e_X3_between_12, e_X3_between_16, e_X3_between_17, e_X3_between_20, e_X3_between_21, e_X3_between_22, e_X3_between_24, e_X3_between_26, e_X3_between_29, e_X3_between_30, e_X3_between_31, e_X3_between_34, e_X3_between_37, e_X3_between_40, e_X3_between_43, e_X3_between_44, Option.toList_some, Option.toList_none, List.cons_append, List.nil_append, true_and, and_true, and_self, bb_ite, true_or, or_true, Option.some.injEq, bb_I_eq, bb_b_0e, bb_b_1e, bb_b_e0, bb_b_e1, decide_eq_true_eq, decide_eq_false_iff_not, bn_01, bn_11, bb_b_01, ne_eq, Bool.not_eq_false, Bool.not_eq_true, Classical.not_not, bn_lt, bn_le, bn_ti, Int32.reduceToInt, bn_m20, bn_20m, nI_add, bn_p1, bn_s1, bn_in, bn_cl, implies_true, not_true_eq_false, not_false_eq_true, Bool.true_and, Bool.false_and, Bool.and_true, Bool.and_false, Bool.true_or, Bool.false_or, Bool.or_true, Bool.or_false, Bool.not_true, Bool.not_false, false_implies, true_implies, forall_const, Bool.false_eq_true, Bool.true_eq_false, reduceCtorEq, eq_self, Bool.and_eq_true, Bool.or_eq_true, Bool.and_eq_false_iff, Bool.or_eq_false_iff, and_false, false_and, or_false, false_or, h1]
    exact e
theorem x_X3_between {d i a b : Nat} {M : bb_M} {k : Option bb_V → bb_M → Prop} (ha : a ≤ b) (hb : b < 20) : bb_call (bb_CL (d + 2)) 47 [bb_R 3 i, bb_I (nI a), bb_I (nI b)] M k ↔ k (some (bb_I (bf_sr (M 10 i) a (b + 1 - a) 4))) M := by
  refine bb_cal (st_X3_between ?_)
  simp (disch := omega) only [e_X3_between_0, e_X3_between_1, e_X3_between_2, e_X3_between_3, e_X3_between_7, e_X3_between_8, e_X3_between_11, e_X3_between_12, e_X3_between_16, e_X3_between_17, e_X3_between_20, e_X3_between_21, e_X3_between_22, e_X3_between_24, e_X3_between_26, e_X3_between_29, e_X3_between_30, e_X3_between_31, e_X3_between_34, e_X3_between_37, e_X3_between_40, e_X3_between_43, e_X3_between_44]
  exact (l_X3_between2 (d := d) (i := i) (M := M) ha hb 4 0 bb_U rfl).mpr ⟨rfl, rfl⟩
theorem x_X3_all {d i : Nat} {M : bb_M} {k : Option bb_V → bb_M → Prop} : bb_call (bb_CL (d + 3)) 48 [bb_R 3 i] M k ↔ k (some (bb_I (bf_sr (M 10 i) 0 20 4))) M := by
  refine bb_cal (st_X3_all ?_)
  have e := fun k => x_X3_between (d := d) (i := i) (a := 0) (b := 19) (M := M) (k := k) (by omega) (by omega)
  rw [show nI 0 = 0 from rfl, show nI 19 = 19 from rfl] at e
  simp (disch := omega) only [e_X3_all_0, e_X3_all_1, e_X3_all_2, e_X3_all_4, e_X3_all_7, Option.toList_some, Option.toList_none, List.cons_append, List.nil_append, true_and, and_true, and_self, bb_ite, true_or, or_true, Option.some.injEq, bb_I_eq, bb_b_0e, bb_b_1e, bb_b_e0, bb_b_e1, decide_eq_true_eq, decide_eq_false_iff_not, bn_01, bn_11, bb_b_01, ne_eq, Bool.not_eq_false, Bool.not_eq_true, Classical.not_not, e]
theorem l_X3_inRow {d i r : Nat} {M : bb_M} {R : bb_P} (hr : r < 4) : ∀ (t n : Nat), n + t = 20 → (bb_Y (bb_CL (d + 1)) cd_X3_inRow R 4 [bb_R 3 i, bb_I (nI r), bb_I (bf_sm (M 10 i) (20 * r) n), bb_I (nI n)] [] M ↔ R (some (bb_I (bf_sm (M 10 i) (20 * r) 20))) M) := by
  intro t
  induction t with
  | zero =>
    intro n hn
    obtain rfl : n = 20 := by omega
    rw [h_X3_inRow_4]
    simp (disch := omega) only [e_X3_inRow_0, e_X3_inRow_1, e_X3_inRow_2, e_X3_inRow_3, e_X3_inRow_5, e_X3_inRow_7, e_X3_inRow_10, e_X3_inRow_11, e_X3_inRow_12, e_X3_inRow_13, e_X3_inRow_14, e_X3_inRow_17, e_X3_inRow_18, e_X3_inRow_19, e_X3_inRow_22, e_X3_inRow_25, e_X3_inRow_26, Option.toList_some, Option.toList_none, List.cons_append, List.nil_append, true_and, and_true, and_self, bb_ite, true_or, or_true, Option.some.injEq, bb_I_eq, bb_b_0e, bb_b_1e, bb_b_e0, bb_b_e1, decide_eq_true_eq, decide_eq_false_iff_not, bn_01, bn_11, bb_b_01, ne_eq, Bool.not_eq_false, Bool.not_eq_true, Classical.not_not, bn_lt, bn_le, bn_ti, Int32.reduceToInt, bn_m20, bn_20m, nI_add, bn_p1, bn_s1, bn_in, bn_cl, implies_true, not_true_eq_false, not_false_eq_true, Bool.true_and, Bool.false_and, Bool.and_true, Bool.and_false, Bool.true_or, Bool.false_or, Bool.or_true, Bool.or_false, Bool.not_true, Bool.not_false, false_implies, true_implies, forall_const, Bool.false_eq_true, Bool.true_eq_false, reduceCtorEq, eq_self, Bool.and_eq_true, Bool.or_eq_true, Bool.and_eq_false_iff, Bool.or_eq_false_iff, and_false, false_and, or_false, false_or, Int.cast_ofNat_Int, Int.le_refl]
  | succ t ih =>
    intro n hn
    rw [h_X3_inRow_4, ← ih (n + 1) (by omega)]
    have h1 : ¬ (20 : Int) ≤ (n : Int) := by omega
    simp (disch := omega) only [e_X3_inRow_0, e_X3_inRow_1, e_X3_inRow_2, e_X3_inRow_3, e_X3_inRow_5, e_X3_inRow_7, e_X3_inRow_10, e_X3_inRow_11, e_X3_inRow_12, e_X3_inRow_13, e_X3_inRow_14, e_X3_inRow_17, e_X3_inRow_18, e_X3_inRow_19, e_X3_inRow_22, e_X3_inRow_25, e_X3_inRow_26, x_X3_heightAt, Option.toList_some, Option.toList_none, List.cons_append, List.nil_append, true_and, and_true, and_self, bb_ite, true_or, or_true, Option.some.injEq, bb_I_eq, bb_b_0e, bb_b_1e, bb_b_e0, bb_b_e1, decide_eq_true_eq, decide_eq_false_iff_not, bn_01, bn_11, bb_b_01, ne_eq, Bool.not_eq_false, Bool.not_eq_true, Classical.not_not, bn_lt, bn_le, bn_ti, Int32.reduceToInt, bn_m20, bn_20m, nI_add, bn_p1, bn_s1, bn_in, bn_cl, implies_true, not_true_eq_false, not_false_eq_true, Bool.true_and, Bool.false_and, Bool.and_true, Bool.and_false, Bool.true_or, Bool.false_or, Bool.or_true, Bool.or_false, Bool.not_true, Bool.not_false, false_implies, true_implies, forall_const, Bool.false_eq_true, Bool.true_eq_false, reduceCtorEq, eq_self, Bool.and_eq_true, Bool.or_eq_true, Bool.and_eq_false_iff, Bool.or_eq_false_iff, and_false, false_and, or_false, false_or, h1]
    rfl
theorem x_X3_inRow {d i r : Nat} {M : bb_M} {k : Option bb_V → bb_M → Prop} (hr : r < 4) : bb_call (bb_CL (d + 2)) 49 [bb_R 3 i, bb_I (nI r)] M k ↔ k (some (bb_I (bf_sm (M 10 i) (20 * r) 20))) M := by
  refine bb_cal (st_X3_inRow ?_)
  simp (disch := omega) only [e_X3_inRow_0, e_X3_inRow_1, e_X3_inRow_2, e_X3_inRow_3, e_X3_inRow_5, e_X3_inRow_7, e_X3_inRow_10, e_X3_inRow_11, e_X3_inRow_12, e_X3_inRow_13, e_X3_inRow_14, e_X3_inRow_17, e_X3_inRow_18, e_X3_inRow_19, e_X3_inRow_22, e_X3_inRow_25, e_X3_inRow_26]
  exact (l_X3_inRow (d := d) (i := i) (M := M) hr 20 0 rfl).mpr ⟨rfl, rfl⟩
