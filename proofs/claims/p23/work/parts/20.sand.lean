/-! ARITHMETIC -/
def bb_b (x : Bool) : Int32 := if x then 1 else 0
theorem bb_b_e0 (x : Bool) : (bb_b x = 0) ↔ x = false := by cases x <;> decide
theorem bb_b_0e (x : Bool) : (0 = bb_b x) ↔ x = false := by cases x <;> decide
theorem bb_b_e1 (x : Bool) : (bb_b x = 1) ↔ x = true := by cases x <;> decide
theorem bb_b_1e (x : Bool) : (1 = bb_b x) ↔ x = true := by cases x <;> decide
theorem bb_b_n0 (x : Bool) : (bb_b x ≠ 0) ↔ x = true := by cases x <;> decide
theorem bb_b_01 (x : Bool) : (bb_b x = 0 ∨ bb_b x = 1) ↔ True := by cases x <;> decide
theorem bb_I_eq (a b : Int32) : (bb_I a = bb_I b) ↔ a = b := ⟨bb_I_inj, fun h => h ▸ rfl⟩
theorem bn_01 : ((0 : Int32) = 0 ∨ (0 : Int32) = 1) ↔ True := by decide
theorem bn_11 : ((1 : Int32) = 0 ∨ (1 : Int32) = 1) ↔ True := by decide
theorem bn_in {n N : Nat} (h : n < N) (hN : N < 2147483648) : vp_in (nI n) N ↔ True := iff_true_intro (vp_in_nI h hN)
theorem bn_cl {n : Nat} (h : n < 2147483648) : (nI n).toNatClampNeg = n := nI_clamp h
theorem bn_ti {n : Nat} (h : n < 2147483648) : (nI n).toInt = (n : Int) := nI_toInt h
theorem bn_m20 (r : Nat) : nI r * 20 = nI (20 * r) := by rw [show (20 : Int32) = nI 20 from rfl, pk_mul, Nat.mul_comm]
theorem bn_20m (r : Nat) : 20 * nI r = nI (20 * r) := by rw [show (20 : Int32) = nI 20 from rfl, pk_mul]
theorem bn_s1 {n : Nat} (h : 0 < n) : nI n - 1 = nI (n - 1) := by rw [show (1 : Int32) = nI 1 from rfl, pk_sub h]
theorem bn_p1 (n : Nat) : nI n + 1 = nI (n + 1) := nI_1 n
theorem bn_m1 {n : Nat} (h : 0 < n) : nI n + (-1) = nI (n - 1) := by
  obtain ⟨k, rfl⟩ : ∃ k, n = k + 1 := ⟨n - 1, by omega⟩
  exact pk_m1 k
theorem bn_lt (a b : Int32) : a < b ↔ a.toInt < b.toInt := Int32.lt_iff_toInt_lt
theorem bn_le (a b : Int32) : a ≤ b ↔ a.toInt ≤ b.toInt := Int32.le_iff_toInt_le
theorem bn_eq (a b : Int32) : a = b ↔ a.toInt = b.toInt := Int32.toInt_inj.symm
theorem bn_0 : (0 : Int32) = nI 0 := rfl
theorem bn_1 : (1 : Int32) = nI 1 := rfl
theorem bb_ite {c A B : Prop} [Decidable c] : (if c then A else B) ↔ ((c → A) ∧ (¬ c → B)) := by
  by_cases h : c
  · rw [if_pos h]; exact ⟨fun a => ⟨fun _ => a, fun n => absurd h n⟩, fun z => z.1 h⟩
  · rw [if_neg h]; exact ⟨fun a => ⟨fun y => absurd y h, fun _ => a⟩, fun z => z.2 h⟩
/-! SAND: what is read off the heights -/
def bf_bar (h : Nat → Int32) (lv : Int32) (r c : Nat) : Bool := decide ((1 ≤ c ∧ c ≤ 18) ∧ (h (20 * r + c)).toInt < lv.toInt ∧ (h (20 * r + c - 1)).toInt < (h (20 * r + c)).toInt ∧ (h (20 * r + c + 1)).toInt < (h (20 * r + c)).toInt)
theorem x_X3_heightAt {d i r c : Nat} {M : bb_M} {k : Option bb_V → bb_M → Prop} (hr : r < 4) (hc : c < 20) : bb_call (bb_CL (d + 1)) 44 [bb_R 3 i, bb_I (nI r), bb_I (nI c)] M k ↔ k (some (bb_I (M 10 i (20 * r + c)))) M := by
  refine bb_cal (st_X3_heightAt ?_)
  simp (disch := omega) only [e_X3_heightAt_0, e_X3_heightAt_1, e_X3_heightAt_4, e_X3_heightAt_5, e_X3_heightAt_7, e_X3_heightAt_8, e_X3_heightAt_9, e_X3_heightAt_10, e_X3_heightAt_11, bn_m20, nI_add, bn_in, bn_cl, true_and, and_self]
theorem x_X3_setHeight {d i r c : Nat} {v : Int32} {M : bb_M} {k : Option bb_V → bb_M → Prop} (hr : r < 4) (hc : c < 20) : bb_call (bb_CL (d + 1)) 45 [bb_R 3 i, bb_I (nI r), bb_I (nI c), bb_I v] M k ↔ k none (bb_up M 10 i (20 * r + c) v) := by
  refine bb_cal (st_X3_setHeight ?_)
  simp (disch := omega) only [e_X3_setHeight_0, e_X3_setHeight_1, e_X3_setHeight_4, e_X3_setHeight_5, e_X3_setHeight_7, e_X3_setHeight_8, e_X3_setHeight_9, e_X3_setHeight_10, e_X3_setHeight_11, e_X3_setHeight_12, bn_m20, nI_add, bn_in, bn_cl, true_and, and_self]
theorem x_X3_addTo {d i r c : Nat} {v : Int32} {M : bb_M} {k : Option bb_V → bb_M → Prop} (hr : r < 4) (hc : c < 20) : bb_call (bb_CL (d + 1)) 46 [bb_R 3 i, bb_I (nI r), bb_I (nI c), bb_I v] M k ↔ k none (bb_up M 10 i (20 * r + c) (M 10 i (20 * r + c) + v)) := by
  refine bb_cal (st_X3_addTo ?_)
  simp (disch := omega) only [e_X3_addTo_0, e_X3_addTo_1, e_X3_addTo_4, e_X3_addTo_5, e_X3_addTo_7, e_X3_addTo_8, e_X3_addTo_9, e_X3_addTo_10, e_X3_addTo_11, e_X3_addTo_12, e_X3_addTo_13, e_X3_addTo_14, e_X3_addTo_15, bn_m20, nI_add, bn_in, bn_cl, true_and, and_self]
def bf_dry (h : Nat → Int32) (lv : Int32) (r c : Nat) : Bool := decide (lv.toInt ≤ (h (20 * r + c)).toInt)
theorem x_X3_isDry {d i r c : Nat} {v : Int32} {M : bb_M} {k : Option bb_V → bb_M → Prop} (hr : r < 4) (hc : c < 20) : bb_call (bb_CL (d + 2)) 50 [bb_R 3 i, bb_I (nI r), bb_I (nI c), bb_I v] M k ↔ k (some (bb_I (bb_b (bf_dry (M 10 i) v r c)))) M := by
  refine bb_cal (st_X3_isDry ?_)
  simp (disch := omega) only [e_X3_isDry_0, e_X3_isDry_1, e_X3_isDry_2, e_X3_isDry_3, e_X3_isDry_4, e_X3_isDry_7, e_X3_isDry_10, e_X3_isDry_11, e_X3_isDry_14, e_X3_isDry_15, x_X3_heightAt, Option.toList_some, Option.toList_none, List.cons_append, List.nil_append, true_and, and_true, and_self, bb_ite, true_or, or_true, Option.some.injEq, bb_I_eq, bb_b_0e, bb_b_1e, bb_b_e0, bb_b_e1, decide_eq_true_eq, decide_eq_false_iff_not, bn_01, bn_11, bb_b_01, ne_eq, Bool.not_eq_false, Bool.not_eq_true, Classical.not_not, bn_lt, bn_le, bf_dry]
  omega
theorem x_X3_isBar {d i r c : Nat} {v : Int32} {M : bb_M} {k : Option bb_V → bb_M → Prop} (hr : r < 4) (hc : c < 20) : bb_call (bb_CL (d + 1)) 51 [bb_R 3 i, bb_I (nI r), bb_I (nI c), bb_I v] M k ↔ k (some (bb_I (bb_b (bf_bar (M 10 i) v r c)))) M := by
  refine bb_cal (st_X3_isBar ?_)
  simp +contextual (disch := omega) only [e_X3_isBar_0, e_X3_isBar_1, e_X3_isBar_2, e_X3_isBar_5, e_X3_isBar_6, e_X3_isBar_8, e_X3_isBar_11, e_X3_isBar_12, e_X3_isBar_13, e_X3_isBar_14, e_X3_isBar_16, e_X3_isBar_17, e_X3_isBar_18, e_X3_isBar_19, e_X3_isBar_21, e_X3_isBar_22, e_X3_isBar_25, e_X3_isBar_27, e_X3_isBar_28, e_X3_isBar_30, e_X3_isBar_32, e_X3_isBar_33, e_X3_isBar_36, e_X3_isBar_38, e_X3_isBar_39, e_X3_isBar_42, e_X3_isBar_44, e_X3_isBar_45, e_X3_isBar_46, e_X3_isBar_47, e_X3_isBar_50, e_X3_isBar_52, e_X3_isBar_53, e_X3_isBar_56, e_X3_isBar_58, e_X3_isBar_59, e_X3_isBar_60, e_X3_isBar_61, e_X3_isBar_64, e_X3_isBar_65, e_X3_isBar_68, e_X3_isBar_69, Option.toList_some, Option.toList_none, List.cons_append, List.nil_append, true_and, and_true, and_self, bb_ite, true_or, or_true, Option.some.injEq, bb_I_eq, bb_b_0e, bb_b_1e, bb_b_e0, bb_b_e1, decide_eq_true_eq, decide_eq_false_iff_not, bn_01, bn_11, bb_b_01, ne_eq, Bool.not_eq_false, Bool.not_eq_true, Classical.not_not, bn_lt, bn_le, bn_ti, Int32.reduceToInt, bn_m20, bn_20m, nI_add, bn_p1, bn_s1, bn_in, bn_cl, implies_true, not_true_eq_false, not_false_eq_true, Bool.true_and, Bool.false_and, Bool.and_true, Bool.and_false, Bool.true_or, Bool.false_or, Bool.or_true, Bool.or_false, Bool.not_true, Bool.not_false, false_implies, true_implies, forall_const, Bool.false_eq_true, Bool.true_eq_false, reduceCtorEq, eq_self, Bool.and_eq_true, Bool.or_eq_true, Bool.and_eq_false_iff, Bool.or_eq_false_iff, and_false, false_and, or_false, false_or, bf_bar]
  omega
theorem x_X3_isBarFrom {d i r c : Nat} {v w : Int32} {M : bb_M} {k : Option bb_V → bb_M → Prop} (hr : r < 4) (hc : c < 20) : bb_call (bb_CL (d + 2)) 53 [bb_R 3 i, bb_I (nI r), bb_I (nI c), bb_I v, bb_I w] M k ↔ k (some (bb_I (bb_b (decide (w.toInt ≤ (M 10 i (20 * r + c)).toInt) && bf_bar (M 10 i) v r c)))) M := by
  refine bb_cal (st_X3_isBarFrom ?_)
  simp +contextual (disch := omega) only [e_X3_isBarFrom_0, e_X3_isBarFrom_1, e_X3_isBarFrom_2, e_X3_isBarFrom_3, e_X3_isBarFrom_6, e_X3_isBarFrom_8, e_X3_isBarFrom_11, e_X3_isBarFrom_12, e_X3_isBarFrom_13, e_X3_isBarFrom_14, e_X3_isBarFrom_15, e_X3_isBarFrom_18, e_X3_isBarFrom_21, e_X3_isBarFrom_22, e_X3_isBarFrom_25, e_X3_isBarFrom_26, x_X3_heightAt, x_X3_isBar, Option.toList_some, Option.toList_none, List.cons_append, List.nil_append, true_and, and_true, and_self, bb_ite, true_or, or_true, Option.some.injEq, bb_I_eq, bb_b_0e, bb_b_1e, bb_b_e0, bb_b_e1, decide_eq_true_eq, decide_eq_false_iff_not, bn_01, bn_11, bb_b_01, ne_eq, Bool.not_eq_false, Bool.not_eq_true, Classical.not_not, bn_lt, bn_le, bn_ti, Int32.reduceToInt, bn_m20, bn_20m, nI_add, bn_p1, bn_s1, bn_in, bn_cl, implies_true, not_true_eq_false, not_false_eq_true, Bool.true_and, Bool.false_and, Bool.and_true, Bool.and_false, Bool.true_or, Bool.false_or, Bool.or_true, Bool.or_false, Bool.not_true, Bool.not_false, false_implies, true_implies, forall_const, Bool.false_eq_true, Bool.true_eq_false, reduceCtorEq, eq_self, Bool.and_eq_true, Bool.or_eq_true, Bool.and_eq_false_iff, Bool.or_eq_false_iff, and_false, false_and, or_false, false_or]
  generalize bf_bar (M 10 i) v r c = x
  cases x <;> simp +contextual only [Option.toList_some, Option.toList_none, List.cons_append, List.nil_append, true_and, and_true, and_self, bb_ite, true_or, or_true, Option.some.injEq, bb_I_eq, bb_b_0e, bb_b_1e, bb_b_e0, bb_b_e1, decide_eq_true_eq, decide_eq_false_iff_not, bn_01, bn_11, bb_b_01, ne_eq, Bool.not_eq_false, Bool.not_eq_true, Classical.not_not, bn_lt, bn_le, bn_ti, Int32.reduceToInt, bn_m20, bn_20m, nI_add, bn_p1, bn_s1, bn_in, bn_cl, implies_true, not_true_eq_false, not_false_eq_true, Bool.true_and, Bool.false_and, Bool.and_true, Bool.and_false, Bool.true_or, Bool.false_or, Bool.or_true, Bool.or_false, Bool.not_true, Bool.not_false, false_implies, true_implies, forall_const, Bool.false_eq_true, Bool.true_eq_false, reduceCtorEq, eq_self, Bool.and_eq_true, Bool.or_eq_true, Bool.and_eq_false_iff, Bool.or_eq_false_iff, and_false, false_and, or_false, false_or] <;> omega
/-- heights of sand -/
def bf_hb (h : Nat → Int32) : Prop := ∀ j, j < 80 → 0 ≤ (h j).toInt ∧ (h j).toInt ≤ 99
def bf_gap (h : Nat → Int32) (lv gp : Int32) (r c : Nat) : Bool := decide ((1 ≤ c ∧ c ≤ 18) ∧ (h (20 * r + c)).toInt < lv.toInt) && (!bf_bar h lv r c && ((decide (0 < r ∧ (h (20 * r + c)).toInt + gp.toInt ≤ (h (20 * (r - 1) + c)).toInt) && bf_bar h lv (r - 1) c) || (decide (r < 3 ∧ (h (20 * r + c)).toInt + gp.toInt ≤ (h (20 * (r + 1) + c)).toInt) && bf_bar h lv (r + 1) c)))
theorem bn_addT {a b : Int32} (h1 : -1000000000 ≤ a.toInt ∧ a.toInt ≤ 1000000000) (h2 : -1000000000 ≤ b.toInt ∧ b.toInt ≤ 1000000000) : (a + b).toInt = a.toInt + b.toInt := by
  rw [Int32.toInt_add]
  exact Int.bmod_eq_of_le (by omega) (by omega)
theorem bn_subT {a b : Int32} (h1 : -1000000000 ≤ a.toInt ∧ a.toInt ≤ 1000000000) (h2 : -1000000000 ≤ b.toInt ∧ b.toInt ≤ 1000000000) : (a - b).toInt = a.toInt - b.toInt := by
  rw [Int32.toInt_sub]
  exact Int.bmod_eq_of_le (by omega) (by omega)
theorem x_X3_isGap {d i r c : Nat} {v g : Int32} {M : bb_M} {k : Option bb_V → bb_M → Prop} (hr : r < 4) (hc : c < 20) (hB : bf_hb (M 10 i)) (hg : 0 ≤ g.toInt ∧ g.toInt ≤ 100) : bb_call (bb_CL (d + 3)) 52 [bb_R 3 i, bb_I (nI r), bb_I (nI c), bb_I v, bb_I g] M k ↔ k (some (bb_I (bb_b (bf_gap (M 10 i) v g r c)))) M := by
  refine bb_cal (st_X3_isGap ?_)
  have b0 := hB (20 * r + c) (by omega)
  simp +contextual (disch := omega) only [e_X3_isGap_0, e_X3_isGap_1, e_X3_isGap_2, e_X3_isGap_5, e_X3_isGap_6, e_X3_isGap_8, e_X3_isGap_11, e_X3_isGap_12, e_X3_isGap_13, e_X3_isGap_14, e_X3_isGap_15, e_X3_isGap_18, e_X3_isGap_21, e_X3_isGap_22, e_X3_isGap_23, e_X3_isGap_24, e_X3_isGap_25, e_X3_isGap_28, e_X3_isGap_31, e_X3_isGap_32, e_X3_isGap_33, e_X3_isGap_34, e_X3_isGap_35, e_X3_isGap_36, e_X3_isGap_39, e_X3_isGap_41, e_X3_isGap_42, e_X3_isGap_44, e_X3_isGap_45, e_X3_isGap_48, e_X3_isGap_49, e_X3_isGap_50, e_X3_isGap_51, e_X3_isGap_52, e_X3_isGap_53, e_X3_isGap_54, e_X3_isGap_56, e_X3_isGap_59, e_X3_isGap_62, e_X3_isGap_63, e_X3_isGap_64, e_X3_isGap_67, e_X3_isGap_68, e_X3_isGap_69, e_X3_isGap_70, e_X3_isGap_71, e_X3_isGap_72, e_X3_isGap_73, e_X3_isGap_75, e_X3_isGap_78, e_X3_isGap_81, e_X3_isGap_82, e_X3_isGap_85, e_X3_isGap_86, x_X3_heightAt, x_X3_isBar, x_X3_isDry, x_X3_isBarFrom, Option.toList_some, Option.toList_none, List.cons_append, List.nil_append, true_and, and_true, and_self, bb_ite, true_or, or_true, Option.some.injEq, bb_I_eq, bb_b_0e, bb_b_1e, bb_b_e0, bb_b_e1, decide_eq_true_eq, decide_eq_false_iff_not, bn_01, bn_11, bb_b_01, ne_eq, Bool.not_eq_false, Bool.not_eq_true, Classical.not_not, bn_lt, bn_le, bn_ti, Int32.reduceToInt, bn_m20, bn_20m, nI_add, bn_p1, bn_s1, bn_in, bn_cl, implies_true, not_true_eq_false, not_false_eq_true, Bool.true_and, Bool.false_and, Bool.and_true, Bool.and_false, Bool.true_or, Bool.false_or, Bool.or_true, Bool.or_false, Bool.not_true, Bool.not_false, false_implies, true_implies, forall_const, Bool.false_eq_true, Bool.true_eq_false, reduceCtorEq, eq_self, Bool.and_eq_true, Bool.or_eq_true, Bool.and_eq_false_iff, Bool.or_eq_false_iff, and_false, false_and, or_false, false_or, bf_gap, bn_addT, bf_dry]
  generalize bf_bar (M 10 i) v r c = x
  generalize bf_bar (M 10 i) v (r - 1) c = y
  generalize bf_bar (M 10 i) v (r + 1) c = z
  cases x <;> cases y <;> cases z <;> simp +contextual only [Option.toList_some, Option.toList_none, List.cons_append, List.nil_append, true_and, and_true, and_self, bb_ite, true_or, or_true, Option.some.injEq, bb_I_eq, bb_b_0e, bb_b_1e, bb_b_e0, bb_b_e1, decide_eq_true_eq, decide_eq_false_iff_not, bn_01, bn_11, bb_b_01, ne_eq, Bool.not_eq_false, Bool.not_eq_true, Classical.not_not, bn_lt, bn_le, bn_ti, Int32.reduceToInt, bn_m20, bn_20m, nI_add, bn_p1, bn_s1, bn_in, bn_cl, implies_true, not_true_eq_false, not_false_eq_true, Bool.true_and, Bool.false_and, Bool.and_true, Bool.and_false, Bool.true_or, Bool.false_or, Bool.or_true, Bool.or_false, Bool.not_true, Bool.not_false, false_implies, true_implies, forall_const, Bool.false_eq_true, Bool.true_eq_false, reduceCtorEq, eq_self, Bool.and_eq_true, Bool.or_eq_true, Bool.and_eq_false_iff, Bool.or_eq_false_iff, and_false, false_and, or_false, false_or] <;> (try omega)
