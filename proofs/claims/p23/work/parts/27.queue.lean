/-! QUEUES, STATES, HISTORY: the class -/
theorem bb_up_at {M : bb_M} {k i j : Nat} {v : Int32} : bb_up M k i j v k i j = v := by
  unfold bb_up
  rw [if_pos ⟨rfl, rfl, rfl⟩]
theorem bb_up_k {M : bb_M} {k i j k' i' j' : Nat} {v : Int32} (h : k' ≠ k) : bb_up M k i j v k' i' j' = M k' i' j' := by
  unfold bb_up
  rw [if_neg (fun z => h z.1)]
theorem bb_up_i {M : bb_M} {k i j k' i' j' : Nat} {v : Int32} (h : i' ≠ i) : bb_up M k i j v k' i' j' = M k' i' j' := by
  unfold bb_up
  rw [if_neg (fun z => h z.2.1)]
theorem bb_up_j {M : bb_M} {k i j k' i' j' : Nat} {v : Int32} (h : j' ≠ j) : bb_up M k i j v k' i' j' = M k' i' j' := by
  unfold bb_up
  rw [if_neg (fun z => h z.2.2)]
theorem bb_cp_k {M : bb_M} {k0 i0 k1 i1 s t n k' i' j' : Nat} (h : k' ≠ k1) : bb_cp M k0 i0 k1 i1 s t n k' i' j' = M k' i' j' := by
  unfold bb_cp
  rw [if_neg (fun z => h z.1)]
theorem x_X1_size {d i : Nat} {M : bb_M} {k : Option bb_V → bb_M → Prop} : bb_call (bb_CL (d + 1)) 30 [bb_R 1 i] M k ↔ k (some (bb_I (M 1 i 2))) M := by
  refine bb_cal (st_X1_size ?_)
  simp only [e_X1_size_0, e_X1_size_1, e_X1_size_4, Option.toList_some, Option.toList_none, List.cons_append, List.nil_append, true_and, and_true, and_self, bb_ite, true_or, or_true, Option.some.injEq, bb_I_eq, bb_b_0e, bb_b_1e, bb_b_e0, bb_b_e1, decide_eq_true_eq, decide_eq_false_iff_not, bn_01, bn_11, bb_b_01, ne_eq, Bool.not_eq_false, Bool.not_eq_true, Classical.not_not]
theorem x_X1_rowOf {d i n : Nat} {M : bb_M} {k : Option bb_V → bb_M → Prop} (hn : n < 24) : bb_call (bb_CL (d + 1)) 31 [bb_R 1 i, bb_I (nI n)] M k ↔ k (some (bb_I (M 12 i n))) M := by
  refine bb_cal (st_X1_rowOf ?_)
  simp (disch := omega) only [e_X1_rowOf_0, e_X1_rowOf_1, e_X1_rowOf_4, e_X1_rowOf_5, e_X1_rowOf_6, Option.toList_some, Option.toList_none, List.cons_append, List.nil_append, true_and, and_true, and_self, bb_ite, true_or, or_true, Option.some.injEq, bb_I_eq, bb_b_0e, bb_b_1e, bb_b_e0, bb_b_e1, decide_eq_true_eq, decide_eq_false_iff_not, bn_01, bn_11, bb_b_01, ne_eq, Bool.not_eq_false, Bool.not_eq_true, Classical.not_not, bn_in, bn_cl]
theorem x_X1_heightOf {d i n : Nat} {M : bb_M} {k : Option bb_V → bb_M → Prop} (hn : n < 24) : bb_call (bb_CL (d + 1)) 32 [bb_R 1 i, bb_I (nI n)] M k ↔ k (some (bb_I (M 13 i n))) M := by
  refine bb_cal (st_X1_heightOf ?_)
  simp (disch := omega) only [e_X1_heightOf_0, e_X1_heightOf_1, e_X1_heightOf_4, e_X1_heightOf_5, e_X1_heightOf_6, Option.toList_some, Option.toList_none, List.cons_append, List.nil_append, true_and, and_true, and_self, bb_ite, true_or, or_true, Option.some.injEq, bb_I_eq, bb_b_0e, bb_b_1e, bb_b_e0, bb_b_e1, decide_eq_true_eq, decide_eq_false_iff_not, bn_01, bn_11, bb_b_01, ne_eq, Bool.not_eq_false, Bool.not_eq_true, Classical.not_not, bn_in, bn_cl]
theorem x_X1_removeAll {d i : Nat} {M : bb_M} {k : Option bb_V → bb_M → Prop} : bb_call (bb_CL (d + 1)) 36 [bb_R 1 i] M k ↔ k none (bb_up M 1 i 2 0) := by
  refine bb_cal (st_X1_removeAll ?_)
  simp only [e_X1_removeAll_0, e_X1_removeAll_1, e_X1_removeAll_2, e_X1_removeAll_5, Option.toList_some, Option.toList_none, List.cons_append, List.nil_append, true_and, and_true, and_self, bb_ite, true_or, or_true, Option.some.injEq, bb_I_eq, bb_b_0e, bb_b_1e, bb_b_e0, bb_b_e1, decide_eq_true_eq, decide_eq_false_iff_not, bn_01, bn_11, bb_b_01, ne_eq, Bool.not_eq_false, Bool.not_eq_true, Classical.not_not]
/-- a wave behind a queue of s -/
def bb_ad (M : bb_M) (i s : Nat) (r h : Int32) : bb_M := bb_up (bb_up (bb_up M 12 i s r) 13 i s h) 1 i 2 (nI (s + 1))
theorem x_X1_add {d i s : Nat} {r h : Int32} {M : bb_M} {k : Option bb_V → bb_M → Prop} (hs : M 1 i 2 = nI s) (hs2 : s < 24) : bb_call (bb_CL (d + 1)) 33 [bb_R 1 i, bb_I r, bb_I h] M k ↔ k none (bb_ad M i s r h) := by
  refine bb_cal (st_X1_add ?_)
  have h1 : ¬ (24 : Int) ≤ (s : Int) := by omega
  have e1 : bb_up M 12 i s r 1 i 2 = nI s := by rw [bb_up_k (by decide), hs]
  have e2 : bb_up (bb_up M 12 i s r) 13 i s h 1 i 2 = nI s := by rw [bb_up_k (by decide), e1]
  simp (disch := omega) only [e_X1_add_0, e_X1_add_1, e_X1_add_4, e_X1_add_6, e_X1_add_9, e_X1_add_10, e_X1_add_13, e_X1_add_14, e_X1_add_17, e_X1_add_18, e_X1_add_19, e_X1_add_20, e_X1_add_23, e_X1_add_24, e_X1_add_27, e_X1_add_28, e_X1_add_29, e_X1_add_30, e_X1_add_31, e_X1_add_34, e_X1_add_35, e_X1_add_36, e_X1_add_39, Option.toList_some, Option.toList_none, List.cons_append, List.nil_append, true_and, and_true, and_self, bb_ite, true_or, or_true, Option.some.injEq, bb_I_eq, bb_b_0e, bb_b_1e, bb_b_e0, bb_b_e1, decide_eq_true_eq, decide_eq_false_iff_not, bn_01, bn_11, bb_b_01, ne_eq, Bool.not_eq_false, Bool.not_eq_true, Classical.not_not, bn_lt, bn_le, bn_ti, Int32.reduceToInt, bn_m20, bn_20m, nI_add, bn_p1, bn_s1, bn_in, bn_cl, implies_true, not_true_eq_false, not_false_eq_true, Bool.true_and, Bool.false_and, Bool.and_true, Bool.and_false, Bool.true_or, Bool.false_or, Bool.or_true, Bool.or_false, Bool.not_true, Bool.not_false, false_implies, true_implies, forall_const, Bool.false_eq_true, Bool.true_eq_false, reduceCtorEq, eq_self, Bool.and_eq_true, Bool.or_eq_true, Bool.and_eq_false_iff, Bool.or_eq_false_iff, and_false, false_and, or_false, false_or, hs, h1, e1, e2]
  rfl
theorem x_X1_addF {d i s : Nat} {r h : Int32} {M : bb_M} {k : Option bb_V → bb_M → Prop} (hs : M 1 i 2 = nI s) (hs2 : 24 ≤ s) (hs3 : s < 2147483648) : bb_call (bb_CL (d + 1)) 33 [bb_R 1 i, bb_I r, bb_I h] M k ↔ k none M := by
  refine bb_cal (st_X1_add ?_)
  have h1 : (24 : Int) ≤ (s : Int) := by omega
  simp (disch := omega) only [e_X1_add_0, e_X1_add_1, e_X1_add_4, e_X1_add_6, e_X1_add_9, e_X1_add_10, e_X1_add_13, e_X1_add_14, e_X1_add_17, e_X1_add_18, e_X1_add_19, e_X1_add_20, e_X1_add_23, e_X1_add_24, e_X1_add_27, e_X1_add_28, e_X1_add_29, e_X1_add_30, e_X1_add_31, e_X1_add_34, e_X1_add_35, e_X1_add_36, e_X1_add_39, Option.toList_some, Option.toList_none, List.cons_append, List.nil_append, true_and, and_true, and_self, bb_ite, true_or, or_true, Option.some.injEq, bb_I_eq, bb_b_0e, bb_b_1e, bb_b_e0, bb_b_e1, decide_eq_true_eq, decide_eq_false_iff_not, bn_01, bn_11, bb_b_01, ne_eq, Bool.not_eq_false, Bool.not_eq_true, Classical.not_not, bn_lt, bn_le, bn_ti, Int32.reduceToInt, bn_m20, bn_20m, nI_add, bn_p1, bn_s1, bn_in, bn_cl, implies_true, not_true_eq_false, not_false_eq_true, Bool.true_and, Bool.false_and, Bool.and_true, Bool.and_false, Bool.true_or, Bool.false_or, Bool.or_true, Bool.or_false, Bool.not_true, Bool.not_false, false_implies, true_implies, forall_const, Bool.false_eq_true, Bool.true_eq_false, reduceCtorEq, eq_self, Bool.and_eq_true, Bool.or_eq_true, Bool.and_eq_false_iff, Bool.or_eq_false_iff, and_false, false_and, or_false, false_or, hs, h1]
/-- n waves of another queue behind one of s -/
def bb_adN (M : bb_M) (i s j n : Nat) : bb_M := bb_up (bb_wr (bb_wr M 12 i s n (M 12 j)) 13 i s n (M 13 j)) 1 i 2 (nI (s + n))
theorem bb_adN_s {M : bb_M} {i s j n : Nat} (hij : j ≠ i) : bb_ad (bb_adN M i s j n) i (s + n) (M 12 j n) (M 13 j n) = bb_adN M i s j (n + 1) := by
  funext k' i' x
  unfold bb_ad bb_adN bb_up bb_wr
  by_cases hi : i' = i
  · subst hi
    by_cases h1 : k' = 1
    · subst h1
      by_cases hx : x = 2 <;> simp [hx, Nat.add_assoc]
    · by_cases h12 : k' = 12
      · subst h12
        simp
        repeat' split
        all_goals first | rfl | omega | (congr 1; omega)
      · by_cases h13 : k' = 13
        · subst h13
          simp
          repeat' split
          all_goals first | rfl | omega | (congr 1; omega)
        · simp [h1, h12, h13]
  · simp [hi]
theorem bb_adN_0 {M : bb_M} {i s j : Nat} (hs : M 1 i 2 = nI s) : bb_adN M i s j 0 = M := by
  funext k' i' x
  unfold bb_adN bb_up bb_wr
  by_cases q1 : k' = 1 ∧ i' = i ∧ x = 2
  · rw [if_pos q1]
    obtain ⟨rfl, rfl, rfl⟩ := q1
    exact hs.symm
  · rw [if_neg q1, if_neg (by omega), if_neg (by omega)]
theorem bb_adN_j {M : bb_M} {i s j n : Nat} (hij : j ≠ i) (k x : Nat) : bb_adN M i s j n k j x = M k j x := by
  unfold bb_adN bb_up bb_wr
  rw [if_neg (fun z => hij z.2.1), if_neg (fun z => hij z.2.1), if_neg (fun z => hij z.2.1)]
/-- a height between two -/
def bf_btw (f : Nat → Int32) (lo hi : Int32) (n : Nat) : Bool := decide (lo.toInt ≤ (f n).toInt ∧ (f n).toInt ≤ hi.toInt)
theorem bf_cn_mono {p : Nat → Bool} {n m : Nat} (h : n ≤ m) : bf_cn p n ≤ bf_cn p m := by
  induction m with
  | zero =>
    obtain rfl : n = 0 := by omega
    exact Nat.le_refl _
  | succ m ih =>
    rcases Nat.lt_or_eq_of_le h with q | q
    · refine Nat.le_trans (ih (by omega)) ?_
      show bf_cn p m ≤ if p m then bf_cn p m + 1 else bf_cn p m
      split <;> omega
    · rw [q]
      exact Nat.le_refl _
theorem bf_cn_le (p : Nat → Bool) : ∀ n, bf_cn p n ≤ n
  | 0 => Nat.le_refl _
  | n + 1 => by
    have := bf_cn_le p n
    show (if p n then bf_cn p n + 1 else bf_cn p n) ≤ n + 1
    split <;> omega
theorem bf_cn_s (p : Nat → Bool) (n : Nat) : bf_cn p (n + 1) = if p n then bf_cn p n + 1 else bf_cn p n := rfl
theorem l_X1_hasBetween {d i s : Nat} {lo hi : Int32} {M : bb_M} {R : bb_P} (hs : M 1 i 2 = nI s) (hs2 : s ≤ 24) : ∀ (t n : Nat), n + t = s → bf_cn (bf_btw (M 13 i) lo hi) n = 0 → (bb_Y (bb_CL d) cd_X1_hasBetween R 2 [bb_R 1 i, bb_I lo, bb_I hi, bb_I (nI n)] [] M ↔ R (some (bb_I (bb_b (decide (bf_cn (bf_btw (M 13 i) lo hi) s ≠ 0))))) M) := by
  intro t
  induction t with
  | zero =>
    intro n hn h0
    obtain rfl : n = s := by omega
    rw [h_X1_hasBetween_2]
    simp (disch := omega) only [e_X1_hasBetween_0, e_X1_hasBetween_1, e_X1_hasBetween_3, e_X1_hasBetween_4, e_X1_hasBetween_7, e_X1_hasBetween_10, e_X1_hasBetween_11, e_X1_hasBetween_14, e_X1_hasBetween_15, e_X1_hasBetween_16, e_X1_hasBetween_17, e_X1_hasBetween_20, e_X1_hasBetween_21, e_X1_hasBetween_24, e_X1_hasBetween_25, e_X1_hasBetween_26, e_X1_hasBetween_27, e_X1_hasBetween_30, e_X1_hasBetween_31, e_X1_hasBetween_32, e_X1_hasBetween_35, e_X1_hasBetween_38, e_X1_hasBetween_39, Option.toList_some, Option.toList_none, List.cons_append, List.nil_append, true_and, and_true, and_self, bb_ite, true_or, or_true, Option.some.injEq, bb_I_eq, bb_b_0e, bb_b_1e, bb_b_e0, bb_b_e1, decide_eq_true_eq, decide_eq_false_iff_not, bn_01, bn_11, bb_b_01, ne_eq, Bool.not_eq_false, Bool.not_eq_true, Classical.not_not, bn_lt, bn_le, bn_ti, Int32.reduceToInt, bn_m20, bn_20m, nI_add, bn_p1, bn_s1, bn_in, bn_cl, implies_true, not_true_eq_false, not_false_eq_true, Bool.true_and, Bool.false_and, Bool.and_true, Bool.and_false, Bool.true_or, Bool.false_or, Bool.or_true, Bool.or_false, Bool.not_true, Bool.not_false, false_implies, true_implies, forall_const, Bool.false_eq_true, Bool.true_eq_false, reduceCtorEq, eq_self, Bool.and_eq_true, Bool.or_eq_true, Bool.and_eq_false_iff, Bool.or_eq_false_iff, and_false, false_and, or_false, false_or, hs, h0, Int.le_refl]
    exact Iff.rfl
  | succ t ih =>
    intro n hn h0
    have h1 : ¬ (s : Int) ≤ (n : Int) := by omega
    rw [h_X1_hasBetween_2]
    simp (disch := omega) only [e_X1_hasBetween_0, e_X1_hasBetween_1, e_X1_hasBetween_3, e_X1_hasBetween_4, e_X1_hasBetween_7, e_X1_hasBetween_10, e_X1_hasBetween_11, e_X1_hasBetween_14, e_X1_hasBetween_15, e_X1_hasBetween_16, e_X1_hasBetween_17, e_X1_hasBetween_20, e_X1_hasBetween_21, e_X1_hasBetween_24, e_X1_hasBetween_25, e_X1_hasBetween_26, e_X1_hasBetween_27, e_X1_hasBetween_30, e_X1_hasBetween_31, e_X1_hasBetween_32, e_X1_hasBetween_35, e_X1_hasBetween_38, e_X1_hasBetween_39, Option.toList_some, Option.toList_none, List.cons_append, List.nil_append, true_and, and_true, and_self, bb_ite, true_or, or_true, Option.some.injEq, bb_I_eq, bb_b_0e, bb_b_1e, bb_b_e0, bb_b_e1, decide_eq_true_eq, decide_eq_false_iff_not, bn_01, bn_11, bb_b_01, ne_eq, Bool.not_eq_false, Bool.not_eq_true, Classical.not_not, bn_lt, bn_le, bn_ti, Int32.reduceToInt, bn_m20, bn_20m, nI_add, bn_p1, bn_s1, bn_in, bn_cl, implies_true, not_true_eq_false, not_false_eq_true, Bool.true_and, Bool.false_and, Bool.and_true, Bool.and_false, Bool.true_or, Bool.false_or, Bool.or_true, Bool.or_false, Bool.not_true, Bool.not_false, false_implies, true_implies, forall_const, Bool.false_eq_true, Bool.true_eq_false, reduceCtorEq, eq_self, Bool.and_eq_true, Bool.or_eq_true, Bool.and_eq_false_iff, Bool.or_eq_false_iff, and_false, false_and, or_false, false_or, hs, h1]
    by_cases q : lo.toInt ≤ (M 13 i n).toInt ∧ (M 13 i n).toInt ≤ hi.toInt
    · have q1 : ¬ (M 13 i n).toInt < lo.toInt := by omega
      have q2 : ¬ hi.toInt < (M 13 i n).toInt := by omega
      have q3 : bf_cn (bf_btw (M 13 i) lo hi) (n + 1) = 1 := by
        rw [bf_cn_s, h0, if_pos (by unfold bf_btw; exact decide_eq_true q)]
      have q4 : bf_cn (bf_btw (M 13 i) lo hi) s ≠ 0 := by
        have := bf_cn_mono (p := bf_btw (M 13 i) lo hi) (show n + 1 ≤ s by omega)
        omega
      simp only [q1, q2, Option.toList_some, Option.toList_none, List.cons_append, List.nil_append, true_and, and_true, and_self, bb_ite, true_or, or_true, Option.some.injEq, bb_I_eq, bb_b_0e, bb_b_1e, bb_b_e0, bb_b_e1, decide_eq_true_eq, decide_eq_false_iff_not, bn_01, bn_11, bb_b_01, ne_eq, Bool.not_eq_false, Bool.not_eq_true, Classical.not_not, bn_lt, bn_le, bn_ti, Int32.reduceToInt, bn_m20, bn_20m, nI_add, bn_p1, bn_s1, bn_in, bn_cl, implies_true, not_true_eq_false, not_false_eq_true, Bool.true_and, Bool.false_and, Bool.and_true, Bool.and_false, Bool.true_or, Bool.false_or, Bool.or_true, Bool.or_false, Bool.not_true, Bool.not_false, false_implies, true_implies, forall_const, Bool.false_eq_true, Bool.true_eq_false, reduceCtorEq, eq_self, Bool.and_eq_true, Bool.or_eq_true, Bool.and_eq_false_iff, Bool.or_eq_false_iff, and_false, false_and, or_false, false_or]
      rw [decide_eq_true q4]
      exact Iff.rfl
    · have q3 : bf_cn (bf_btw (M 13 i) lo hi) (n + 1) = 0 := by
        rw [bf_cn_s, h0, if_neg (by unfold bf_btw; rw [decide_eq_true_eq]; exact q)]
      rw [← ih (n + 1) (by omega) q3]
      by_cases q1 : (M 13 i n).toInt < lo.toInt
      · simp only [q1, Option.toList_some, Option.toList_none, List.cons_append, List.nil_append, true_and, and_true, and_self, bb_ite, true_or, or_true, Option.some.injEq, bb_I_eq, bb_b_0e, bb_b_1e, bb_b_e0, bb_b_e1, decide_eq_true_eq, decide_eq_false_iff_not, bn_01, bn_11, bb_b_01, ne_eq, Bool.not_eq_false, Bool.not_eq_true, Classical.not_not, bn_lt, bn_le, bn_ti, Int32.reduceToInt, bn_m20, bn_20m, nI_add, bn_p1, bn_s1, bn_in, bn_cl, implies_true, not_true_eq_false, not_false_eq_true, Bool.true_and, Bool.false_and, Bool.and_true, Bool.and_false, Bool.true_or, Bool.false_or, Bool.or_true, Bool.or_false, Bool.not_true, Bool.not_false, false_implies, true_implies, forall_const, Bool.false_eq_true, Bool.true_eq_false, reduceCtorEq, eq_self, Bool.and_eq_true, Bool.or_eq_true, Bool.and_eq_false_iff, Bool.or_eq_false_iff, and_false, false_and, or_false, false_or]
      · have q2 : hi.toInt < (M 13 i n).toInt := by omega
        simp only [q1, q2, Option.toList_some, Option.toList_none, List.cons_append, List.nil_append, true_and, and_true, and_self, bb_ite, true_or, or_true, Option.some.injEq, bb_I_eq, bb_b_0e, bb_b_1e, bb_b_e0, bb_b_e1, decide_eq_true_eq, decide_eq_false_iff_not, bn_01, bn_11, bb_b_01, ne_eq, Bool.not_eq_false, Bool.not_eq_true, Classical.not_not, bn_lt, bn_le, bn_ti, Int32.reduceToInt, bn_m20, bn_20m, nI_add, bn_p1, bn_s1, bn_in, bn_cl, implies_true, not_true_eq_false, not_false_eq_true, Bool.true_and, Bool.false_and, Bool.and_true, Bool.and_false, Bool.true_or, Bool.false_or, Bool.or_true, Bool.or_false, Bool.not_true, Bool.not_false, false_implies, true_implies, forall_const, Bool.false_eq_true, Bool.true_eq_false, reduceCtorEq, eq_self, Bool.and_eq_true, Bool.or_eq_true, Bool.and_eq_false_iff, Bool.or_eq_false_iff, and_false, false_and, or_false, false_or]
theorem x_X1_hasBetween {d i s : Nat} {lo hi : Int32} {M : bb_M} {k : Option bb_V → bb_M → Prop} (hs : M 1 i 2 = nI s) (hs2 : s ≤ 24) : bb_call (bb_CL (d + 1)) 34 [bb_R 1 i, bb_I lo, bb_I hi] M k ↔ k (some (bb_I (bb_b (decide (bf_cn (bf_btw (M 13 i) lo hi) s ≠ 0))))) M := by
  refine bb_cal (st_X1_hasBetween ?_)
  simp only [e_X1_hasBetween_0, e_X1_hasBetween_1, e_X1_hasBetween_3, e_X1_hasBetween_4, e_X1_hasBetween_7, e_X1_hasBetween_10, e_X1_hasBetween_11, e_X1_hasBetween_14, e_X1_hasBetween_15, e_X1_hasBetween_16, e_X1_hasBetween_17, e_X1_hasBetween_20, e_X1_hasBetween_21, e_X1_hasBetween_24, e_X1_hasBetween_25, e_X1_hasBetween_26, e_X1_hasBetween_27, e_X1_hasBetween_30, e_X1_hasBetween_31, e_X1_hasBetween_32, e_X1_hasBetween_35, e_X1_hasBetween_38, e_X1_hasBetween_39]
  exact (l_X1_hasBetween (d := d) hs hs2 s 0 (Nat.zero_add _) rfl).mpr ⟨rfl, rfl⟩
/-- those of f that are kept, one behind the other -/
def bf_fl (f : Nat → Int32) (q : Nat → Bool) : Nat → Nat → Int32
  | 0 => f
  | n + 1 => if q n then upd (bf_fl f q n) (bf_cn q n) (f n) else bf_fl f q n
theorem bf_fl_out {f : Nat → Int32} {q : Nat → Bool} : ∀ (n j : Nat), n ≤ j → bf_fl f q n j = f j
  | 0, _, _ => rfl
  | n + 1, j, h => by
    have e := bf_fl_out (f := f) (q := q) n j (by omega)
    have hc := bf_cn_le q n
    show (if q n then upd (bf_fl f q n) (bf_cn q n) (f n) else bf_fl f q n) j = f j
    split
    · rw [bf_upd, if_neg (by omega), e]
    · exact e
def bf_kp (f : Nat → Int32) (lo hi : Int32) (n : Nat) : Bool := !bf_btw f lo hi n
theorem bb_wr_up2 {M : bb_M} {k i n c k2 i2 j2 : Nat} {g : Nat → Int32} {v : Int32} (h : k2 ≠ k) : bb_up (bb_wr M k i 0 n g) k2 i2 j2 v = bb_wr (bb_up M k2 i2 j2 v) k i 0 n g := by
  funext k' i' x
  unfold bb_up bb_wr
  dsimp only
  by_cases q : k' = k2 ∧ i' = i2 ∧ x = j2
  · rw [if_pos q, if_neg (fun z => h (q.1.symm.trans z.1)), if_pos q]
  · rw [if_neg q, if_neg q]
theorem l_X1_removeBetween {d i s : Nat} {lo hi : Int32} {M : bb_M} {R : bb_P} (hs : M 1 i 2 = nI s) (hs2 : s ≤ 24) : ∀ (t n : Nat), n + t = s → (bb_Y (bb_CL d) cd_X1_removeBetween R 5 [bb_R 1 i, bb_I lo, bb_I hi, bb_I (nI (bf_cn (bf_kp (M 13 i) lo hi) n)), bb_I (nI n)] [] (bb_wr (bb_wr M 12 i 0 24 (bf_fl (M 12 i) (bf_kp (M 13 i) lo hi) n)) 13 i 0 24 (bf_fl (M 13 i) (bf_kp (M 13 i) lo hi) n)) ↔ R (some (bb_I (nI (s - bf_cn (bf_kp (M 13 i) lo hi) s)))) (bb_up (bb_wr (bb_wr M 12 i 0 24 (bf_fl (M 12 i) (bf_kp (M 13 i) lo hi) s)) 13 i 0 24 (bf_fl (M 13 i) (bf_kp (M 13 i) lo hi) s)) 1 i 2 (nI (bf_cn (bf_kp (M 13 i) lo hi) s)))) := by
  intro t
  generalize hq : bf_kp (M 13 i) lo hi = q
  induction t with
  | zero =>
    intro n hn
    obtain rfl : n = s := by omega
    have hc := bf_cn_le q n
    have e1 : ∀ g g', bb_wr (bb_wr M 12 i 0 24 g) 13 i 0 24 g' 1 i 2 = nI n := fun g g' => by rw [bb_wr_k (by decide), bb_wr_k (by decide), hs]
    rw [h_X1_removeBetween_5]
    simp (disch := omega) only [e_X1_removeBetween_0, e_X1_removeBetween_1, e_X1_removeBetween_2, e_X1_removeBetween_3, e_X1_removeBetween_7, e_X1_removeBetween_8, e_X1_removeBetween_11, e_X1_removeBetween_14, e_X1_removeBetween_15, e_X1_removeBetween_18, e_X1_removeBetween_20, e_X1_removeBetween_21, e_X1_removeBetween_22, e_X1_removeBetween_25, e_X1_removeBetween_26, e_X1_removeBetween_29, e_X1_removeBetween_31, e_X1_removeBetween_32, e_X1_removeBetween_33, e_X1_removeBetween_36, e_X1_removeBetween_37, e_X1_removeBetween_40, e_X1_removeBetween_41, e_X1_removeBetween_42, e_X1_removeBetween_45, e_X1_removeBetween_47, e_X1_removeBetween_48, e_X1_removeBetween_49, e_X1_removeBetween_50, e_X1_removeBetween_53, e_X1_removeBetween_54, e_X1_removeBetween_55, e_X1_removeBetween_58, e_X1_removeBetween_60, e_X1_removeBetween_61, e_X1_removeBetween_62, e_X1_removeBetween_65, e_X1_removeBetween_68, e_X1_removeBetween_71, e_X1_removeBetween_72, e_X1_removeBetween_75, e_X1_removeBetween_76, e_X1_removeBetween_77, e_X1_removeBetween_79, e_X1_removeBetween_80, e_X1_removeBetween_81, e_X1_removeBetween_84, e_X1_removeBetween_86, Option.toList_some, Option.toList_none, List.cons_append, List.nil_append, true_and, and_true, and_self, bb_ite, true_or, or_true, Option.some.injEq, bb_I_eq, bb_b_0e, bb_b_1e, bb_b_e0, bb_b_e1, decide_eq_true_eq, decide_eq_false_iff_not, bn_01, bn_11, bb_b_01, ne_eq, Bool.not_eq_false, Bool.not_eq_true, Classical.not_not, bn_lt, bn_le, bn_ti, Int32.reduceToInt, bn_m20, bn_20m, nI_add, bn_p1, bn_s1, bn_in, bn_cl, implies_true, not_true_eq_false, not_false_eq_true, Bool.true_and, Bool.false_and, Bool.and_true, Bool.and_false, Bool.true_or, Bool.false_or, Bool.or_true, Bool.or_false, Bool.not_true, Bool.not_false, false_implies, true_implies, forall_const, Bool.false_eq_true, Bool.true_eq_false, reduceCtorEq, eq_self, Bool.and_eq_true, Bool.or_eq_true, Bool.and_eq_false_iff, Bool.or_eq_false_iff, and_false, false_and, or_false, false_or, e1, Int.le_refl, pk_sub]
  | succ t ih =>
    intro n hn
    have h1 : ¬ (s : Int) ≤ (n : Int) := by omega
    have hc := bf_cn_le q n
    have e1 : ∀ g g', bb_wr (bb_wr M 12 i 0 24 g) 13 i 0 24 g' 1 i 2 = nI s := fun g g' => by rw [bb_wr_k (by decide), bb_wr_k (by decide), hs]
    have e2 : ∀ g g' j, j < 24 → bb_wr (bb_wr M 12 i 0 24 g) 13 i 0 24 g' 13 i j = g' j := fun g g' j hj => by have := bb_wr_in (M := bb_wr M 12 i 0 24 g) (k := 13) (i := i) (a := 0) (g := g') hj; rwa [Nat.zero_add] at this
    have e3 : ∀ g g' j, j < 24 → bb_wr (bb_wr M 12 i 0 24 g) 13 i 0 24 g' 12 i j = g j := fun g g' j hj => by rw [bb_wr_k (by decide)]; have := bb_wr_in (M := M) (k := 12) (i := i) (a := 0) (g := g) hj; rwa [Nat.zero_add] at this
    have e4 : bf_fl (M 13 i) q n n = M 13 i n := bf_fl_out n n (Nat.le_refl _)
    have e5 : bf_fl (M 12 i) q n n = M 12 i n := bf_fl_out n n (Nat.le_refl _)
    have e6 : ∀ g g' j v, j < 24 → bb_up (bb_wr (bb_wr M 12 i 0 24 g) 13 i 0 24 g') 12 i j v = bb_wr (bb_wr M 12 i 0 24 (upd g j v)) 13 i 0 24 g' := fun g g' j v hj => by
      rw [bb_wr_up2 (c := 0) (by decide)]
      have := bb_wr_up (M := M) (k := 12) (i := i) (a := 0) (n := 24) (c := j) (g := g) (v := v) hj
      rw [Nat.zero_add] at this
      rw [this]
    have e7 : ∀ g g' j v, j < 24 → bb_up (bb_wr (bb_wr M 12 i 0 24 g) 13 i 0 24 g') 13 i j v = bb_wr (bb_wr M 12 i 0 24 g) 13 i 0 24 (upd g' j v) := fun g g' j v hj => by
      have := bb_wr_up (M := bb_wr M 12 i 0 24 g) (k := 13) (i := i) (a := 0) (n := 24) (c := j) (g := g') (v := v) hj
      rw [Nat.zero_add] at this
      exact this
    have e8 : q n = true ↔ ¬ (lo.toInt ≤ (M 13 i n).toInt ∧ (M 13 i n).toInt ≤ hi.toInt) := by
      rw [← hq]
      unfold bf_kp bf_btw
      rw [Bool.not_eq_true', decide_eq_false_iff_not]
    have f1 : bf_cn q (n + 1) = if q n then bf_cn q n + 1 else bf_cn q n := rfl
    have f2 : bf_fl (M 12 i) q (n + 1) = if q n then upd (bf_fl (M 12 i) q n) (bf_cn q n) (M 12 i n) else bf_fl (M 12 i) q n := rfl
    have f3 : bf_fl (M 13 i) q (n + 1) = if q n then upd (bf_fl (M 13 i) q n) (bf_cn q n) (M 13 i n) else bf_fl (M 13 i) q n := rfl
    rw [h_X1_removeBetween_5, ← ih (n + 1) (by omega), f1, f2, f3]
    simp (disch := omega) only [e_X1_removeBetween_0, e_X1_removeBetween_1, e_X1_removeBetween_2, e_X1_removeBetween_3, e_X1_removeBetween_7, e_X1_removeBetween_8, e_X1_removeBetween_11, e_X1_removeBetween_14, e_X1_removeBetween_15, e_X1_removeBetween_18, e_X1_removeBetween_20, e_X1_removeBetween_21, e_X1_removeBetween_22, e_X1_removeBetween_25, e_X1_removeBetween_26, e_X1_removeBetween_29, e_X1_removeBetween_31, e_X1_removeBetween_32, e_X1_removeBetween_33, e_X1_removeBetween_36, e_X1_removeBetween_37, e_X1_removeBetween_40, e_X1_removeBetween_41, e_X1_removeBetween_42, e_X1_removeBetween_45, e_X1_removeBetween_47, e_X1_removeBetween_48, e_X1_removeBetween_49, e_X1_removeBetween_50, e_X1_removeBetween_53, e_X1_removeBetween_54, e_X1_removeBetween_55, e_X1_removeBetween_58, e_X1_removeBetween_60, e_X1_removeBetween_61, e_X1_removeBetween_62, e_X1_removeBetween_65, e_X1_removeBetween_68, e_X1_removeBetween_71, e_X1_removeBetween_72, e_X1_removeBetween_75, e_X1_removeBetween_76, e_X1_removeBetween_77, e_X1_removeBetween_79, e_X1_removeBetween_80, e_X1_removeBetween_81, e_X1_removeBetween_84, e_X1_removeBetween_86, Option.toList_some, Option.toList_none, List.cons_append, List.nil_append, true_and, and_true, and_self, bb_ite, true_or, or_true, Option.some.injEq, bb_I_eq, bb_b_0e, bb_b_1e, bb_b_e0, bb_b_e1, decide_eq_true_eq, decide_eq_false_iff_not, bn_01, bn_11, bb_b_01, ne_eq, Bool.not_eq_false, Bool.not_eq_true, Classical.not_not, bn_lt, bn_le, bn_ti, Int32.reduceToInt, bn_m20, bn_20m, nI_add, bn_p1, bn_s1, bn_in, bn_cl, implies_true, not_true_eq_false, not_false_eq_true, Bool.true_and, Bool.false_and, Bool.and_true, Bool.and_false, Bool.true_or, Bool.false_or, Bool.or_true, Bool.or_false, Bool.not_true, Bool.not_false, false_implies, true_implies, forall_const, Bool.false_eq_true, Bool.true_eq_false, reduceCtorEq, eq_self, Bool.and_eq_true, Bool.or_eq_true, Bool.and_eq_false_iff, Bool.or_eq_false_iff, and_false, false_and, or_false, false_or, e1, e2, e3, e4, e5, e6, e7, h1]
    by_cases q1 : (M 13 i n).toInt < lo.toInt
    · have : q n = true := e8.mpr (by omega)
      simp only [q1, this, Option.toList_some, Option.toList_none, List.cons_append, List.nil_append, true_and, and_true, and_self, bb_ite, true_or, or_true, Option.some.injEq, bb_I_eq, bb_b_0e, bb_b_1e, bb_b_e0, bb_b_e1, decide_eq_true_eq, decide_eq_false_iff_not, bn_01, bn_11, bb_b_01, ne_eq, Bool.not_eq_false, Bool.not_eq_true, Classical.not_not, bn_lt, bn_le, bn_ti, Int32.reduceToInt, bn_m20, bn_20m, nI_add, bn_p1, bn_s1, bn_in, bn_cl, implies_true, not_true_eq_false, not_false_eq_true, Bool.true_and, Bool.false_and, Bool.and_true, Bool.and_false, Bool.true_or, Bool.false_or, Bool.or_true, Bool.or_false, Bool.not_true, Bool.not_false, false_implies, true_implies, forall_const, Bool.false_eq_true, Bool.true_eq_false, reduceCtorEq, eq_self, Bool.and_eq_true, Bool.or_eq_true, Bool.and_eq_false_iff, Bool.or_eq_false_iff, and_false, false_and, or_false, false_or, if_true]
    · by_cases q2 : (M 13 i n).toInt ≤ hi.toInt
      · have : ¬ q n = true := fun z => e8.mp z (by omega)
        simp only [q1, q2, this, Option.toList_some, Option.toList_none, List.cons_append, List.nil_append, true_and, and_true, and_self, bb_ite, true_or, or_true, Option.some.injEq, bb_I_eq, bb_b_0e, bb_b_1e, bb_b_e0, bb_b_e1, decide_eq_true_eq, decide_eq_false_iff_not, bn_01, bn_11, bb_b_01, ne_eq, Bool.not_eq_false, Bool.not_eq_true, Classical.not_not, bn_lt, bn_le, bn_ti, Int32.reduceToInt, bn_m20, bn_20m, nI_add, bn_p1, bn_s1, bn_in, bn_cl, implies_true, not_true_eq_false, not_false_eq_true, Bool.true_and, Bool.false_and, Bool.and_true, Bool.and_false, Bool.true_or, Bool.false_or, Bool.or_true, Bool.or_false, Bool.not_true, Bool.not_false, false_implies, true_implies, forall_const, Bool.false_eq_true, Bool.true_eq_false, reduceCtorEq, eq_self, Bool.and_eq_true, Bool.or_eq_true, Bool.and_eq_false_iff, Bool.or_eq_false_iff, and_false, false_and, or_false, false_or, if_false]
      · have : q n = true := e8.mpr (by omega)
        simp only [q1, q2, this, Option.toList_some, Option.toList_none, List.cons_append, List.nil_append, true_and, and_true, and_self, bb_ite, true_or, or_true, Option.some.injEq, bb_I_eq, bb_b_0e, bb_b_1e, bb_b_e0, bb_b_e1, decide_eq_true_eq, decide_eq_false_iff_not, bn_01, bn_11, bb_b_01, ne_eq, Bool.not_eq_false, Bool.not_eq_true, Classical.not_not, bn_lt, bn_le, bn_ti, Int32.reduceToInt, bn_m20, bn_20m, nI_add, bn_p1, bn_s1, bn_in, bn_cl, implies_true, not_true_eq_false, not_false_eq_true, Bool.true_and, Bool.false_and, Bool.and_true, Bool.and_false, Bool.true_or, Bool.false_or, Bool.or_true, Bool.or_false, Bool.not_true, Bool.not_false, false_implies, true_implies, forall_const, Bool.false_eq_true, Bool.true_eq_false, reduceCtorEq, eq_self, Bool.and_eq_true, Bool.or_eq_true, Bool.and_eq_false_iff, Bool.or_eq_false_iff, and_false, false_and, or_false, false_or, if_true]
theorem x_X1_removeBetween {d i s : Nat} {lo hi : Int32} {M : bb_M} {k : Option bb_V → bb_M → Prop} (hs : M 1 i 2 = nI s) (hs2 : s ≤ 24) : bb_call (bb_CL (d + 1)) 35 [bb_R 1 i, bb_I lo, bb_I hi] M k ↔ k (some (bb_I (nI (s - bf_cn (bf_kp (M 13 i) lo hi) s)))) (bb_up (bb_wr (bb_wr M 12 i 0 24 (bf_fl (M 12 i) (bf_kp (M 13 i) lo hi) s)) 13 i 0 24 (bf_fl (M 13 i) (bf_kp (M 13 i) lo hi) s)) 1 i 2 (nI (bf_cn (bf_kp (M 13 i) lo hi) s))) := by
  refine bb_cal (st_X1_removeBetween ?_)
  simp only [e_X1_removeBetween_0, e_X1_removeBetween_1, e_X1_removeBetween_2, e_X1_removeBetween_3, e_X1_removeBetween_7, e_X1_removeBetween_8, e_X1_removeBetween_11, e_X1_removeBetween_14, e_X1_removeBetween_15, e_X1_removeBetween_18, e_X1_removeBetween_20, e_X1_removeBetween_21, e_X1_removeBetween_22, e_X1_removeBetween_25, e_X1_removeBetween_26, e_X1_removeBetween_29, e_X1_removeBetween_31, e_X1_removeBetween_32, e_X1_removeBetween_33, e_X1_removeBetween_36, e_X1_removeBetween_37, e_X1_removeBetween_40, e_X1_removeBetween_41, e_X1_removeBetween_42, e_X1_removeBetween_45, e_X1_removeBetween_47, e_X1_removeBetween_48, e_X1_removeBetween_49, e_X1_removeBetween_50, e_X1_removeBetween_53, e_X1_removeBetween_54, e_X1_removeBetween_55, e_X1_removeBetween_58, e_X1_removeBetween_60, e_X1_removeBetween_61, e_X1_removeBetween_62, e_X1_removeBetween_65, e_X1_removeBetween_68, e_X1_removeBetween_71, e_X1_removeBetween_72, e_X1_removeBetween_75, e_X1_removeBetween_76, e_X1_removeBetween_77, e_X1_removeBetween_79, e_X1_removeBetween_80, e_X1_removeBetween_81, e_X1_removeBetween_84, e_X1_removeBetween_86]
  have := (l_X1_removeBetween (d := d) (lo := lo) (hi := hi) (R := fun r' M' => r' = some (bb_I (nI (s - bf_cn (bf_kp (M 13 i) lo hi) s))) ∧ M' = (bb_up (bb_wr (bb_wr M 12 i 0 24 (bf_fl (M 12 i) (bf_kp (M 13 i) lo hi) s)) 13 i 0 24 (bf_fl (M 13 i) (bf_kp (M 13 i) lo hi) s)) 1 i 2 (nI (bf_cn (bf_kp (M 13 i) lo hi) s)))) hs hs2 s 0 (Nat.zero_add _)).mpr ⟨rfl, rfl⟩
  rw [show bb_wr (bb_wr M 12 i 0 24 (bf_fl (M 12 i) (bf_kp (M 13 i) lo hi) 0)) 13 i 0 24 (bf_fl (M 13 i) (bf_kp (M 13 i) lo hi) 0) = M by
    rw [bb_wr_same (M := M) (fun c _ => by rw [Nat.zero_add]; rfl), bb_wr_same (fun c _ => by rw [Nat.zero_add]; rfl)]] at this
  exact this
/-- the state j is copied to i -/
def bb_skb (k n : Nat) : Bool := decide ((k = 10 ∧ n < 80) ∨ (k = 12 ∧ n < 24) ∨ (k = 13 ∧ n < 24) ∨ (k = 1 ∧ n = 2) ∨ (k = 14 ∧ n < 4) ∨ (k = 15 ∧ n < 9) ∨ (k = 16 ∧ n < 168) ∨ (k = 4 ∧ (n = 5 ∨ n = 6)))
def bb_cS (M : bb_M) (i j : Nat) : bb_M := fun k i' n => if i' = i ∧ bb_skb k n = true then M k j n else M k i' n
theorem x_X3_copyFrom {d i j : Nat} {M : bb_M} {k : Option bb_V → bb_M → Prop} : bb_call (bb_CL (d + 1)) 43 [bb_R 3 i, bb_R 3 j] M k ↔ k none (bb_cp M 10 j 10 i 0 0 80) := by
  refine bb_cal (st_X3_copyFrom ?_)
  have c0 : (0 : Int32).toNatClampNeg = 0 := rfl
  have c80 : (80 : Int32).toNatClampNeg = 80 := rfl
  simp only [e_X3_copyFrom_0, e_X3_copyFrom_1, e_X3_copyFrom_4, e_X3_copyFrom_5, e_X3_copyFrom_6, e_X3_copyFrom_9, e_X3_copyFrom_10, e_X3_copyFrom_11, e_X3_copyFrom_14, e_X3_copyFrom_15, e_X3_copyFrom_18, Option.toList_some, Option.toList_none, List.cons_append, List.nil_append, true_and, and_true, and_self, bb_ite, true_or, or_true, Option.some.injEq, bb_I_eq, bb_b_0e, bb_b_1e, bb_b_e0, bb_b_e1, decide_eq_true_eq, decide_eq_false_iff_not, bn_01, bn_11, bb_b_01, ne_eq, Bool.not_eq_false, Bool.not_eq_true, Classical.not_not, c0, c80]
  decide
theorem x_X1_copyFrom {d i j : Nat} {M : bb_M} {k : Option bb_V → bb_M → Prop} : bb_call (bb_CL (d + 1)) 29 [bb_R 1 i, bb_R 1 j] M k ↔ k none (bb_up (bb_cp (bb_cp M 12 j 12 i 0 0 24) 13 j 13 i 0 0 24) 1 i 2 (M 1 j 2)) := by
  refine bb_cal (st_X1_copyFrom ?_)
  have c0 : (0 : Int32).toNatClampNeg = 0 := rfl
  have c24 : (24 : Int32).toNatClampNeg = 24 := rfl
  have e : bb_cp (bb_cp M 12 j 12 i 0 0 24) 13 j 13 i 0 0 24 1 j 2 = M 1 j 2 := by rw [bb_cp_k (by decide), bb_cp_k (by decide)]
  simp only [e_X1_copyFrom_0, e_X1_copyFrom_1, e_X1_copyFrom_4, e_X1_copyFrom_5, e_X1_copyFrom_6, e_X1_copyFrom_9, e_X1_copyFrom_10, e_X1_copyFrom_12, e_X1_copyFrom_15, e_X1_copyFrom_16, e_X1_copyFrom_19, e_X1_copyFrom_20, e_X1_copyFrom_21, e_X1_copyFrom_24, e_X1_copyFrom_25, e_X1_copyFrom_27, e_X1_copyFrom_30, e_X1_copyFrom_31, e_X1_copyFrom_32, e_X1_copyFrom_35, e_X1_copyFrom_38, Option.toList_some, Option.toList_none, List.cons_append, List.nil_append, true_and, and_true, and_self, bb_ite, true_or, or_true, Option.some.injEq, bb_I_eq, bb_b_0e, bb_b_1e, bb_b_e0, bb_b_e1, decide_eq_true_eq, decide_eq_false_iff_not, bn_01, bn_11, bb_b_01, ne_eq, Bool.not_eq_false, Bool.not_eq_true, Classical.not_not, c0, c24, e]
  decide
theorem x_X4_copyFrom {d i j : Nat} {M : bb_M} {k : Option bb_V → bb_M → Prop} : bb_call (bb_CL (d + 2)) 67 [bb_R 4 i, bb_R 4 j] M k ↔ k none (bb_cS M i j) := by
  refine bb_cal (st_X4_copyFrom ?_)
  have c0 : (0 : Int32).toNatClampNeg = 0 := rfl
  have c4 : (4 : Int32).toNatClampNeg = 4 := rfl
  have c9 : (9 : Int32).toNatClampNeg = 9 := rfl
  have c168 : (168 : Int32).toNatClampNeg = 168 := rfl
  have l : (¬(0 : Int32) < 0) ∧ (¬(4 : Int32) < 0) ∧ (¬(9 : Int32) < 0) ∧ (¬(168 : Int32) < 0) := by decide
  simp only [e_X4_copyFrom_0, e_X4_copyFrom_1, e_X4_copyFrom_4, e_X4_copyFrom_5, e_X4_copyFrom_8, e_X4_copyFrom_11, e_X4_copyFrom_12, e_X4_copyFrom_15, e_X4_copyFrom_16, e_X4_copyFrom_19, e_X4_copyFrom_22, e_X4_copyFrom_23, e_X4_copyFrom_26, e_X4_copyFrom_27, e_X4_copyFrom_28, e_X4_copyFrom_31, e_X4_copyFrom_32, e_X4_copyFrom_33, e_X4_copyFrom_36, e_X4_copyFrom_37, e_X4_copyFrom_40, e_X4_copyFrom_41, e_X4_copyFrom_42, e_X4_copyFrom_45, e_X4_copyFrom_46, e_X4_copyFrom_48, e_X4_copyFrom_51, e_X4_copyFrom_52, e_X4_copyFrom_55, e_X4_copyFrom_56, e_X4_copyFrom_57, e_X4_copyFrom_60, e_X4_copyFrom_61, e_X4_copyFrom_62, e_X4_copyFrom_65, e_X4_copyFrom_66, e_X4_copyFrom_69, e_X4_copyFrom_70, e_X4_copyFrom_71, e_X4_copyFrom_74, e_X4_copyFrom_77, e_X4_copyFrom_78, e_X4_copyFrom_79, e_X4_copyFrom_82, e_X4_copyFrom_85, x_X3_copyFrom, x_X1_copyFrom, Option.toList_some, Option.toList_none, List.cons_append, List.nil_append, true_and, and_true, and_self, bb_ite, true_or, or_true, Option.some.injEq, bb_I_eq, bb_b_0e, bb_b_1e, bb_b_e0, bb_b_e1, decide_eq_true_eq, decide_eq_false_iff_not, bn_01, bn_11, bb_b_01, ne_eq, Bool.not_eq_false, Bool.not_eq_true, Classical.not_not, c0, c4, c9, c168, l, Nat.zero_add, Nat.le_refl]
  refine ⟨id, id, id, ?_⟩
  funext k' i' x
  unfold bb_cS bb_up bb_cp bb_skb
  by_cases hi : i' = i
  · subst hi
    by_cases h1 : k' = 10
    · subst h1
      by_cases hx : x < 80 <;> simp [hx]
    · by_cases h2 : k' = 12
      · subst h2
        by_cases hx : x < 24 <;> simp [hx]
      · by_cases h3 : k' = 13
        · subst h3
          by_cases hx : x < 24 <;> simp [hx]
        · by_cases h4 : k' = 14
          · subst h4
            by_cases hx : x < 4 <;> simp [hx]
          · by_cases h5 : k' = 15
            · subst h5
              by_cases hx : x < 9 <;> simp [hx]
            · by_cases h6 : k' = 16
              · subst h6
                by_cases hx : x < 168 <;> simp [hx]
              · by_cases h7 : k' = 1
                · subst h7
                  by_cases hx : x = 2 <;> simp [hx]
                · by_cases h8 : k' = 4
                  · subst h8
                    by_cases hx : x = 5
                    · simp [hx]
                    · by_cases hx2 : x = 6 <;> simp [hx, hx2]
                  · simp [h1, h2, h3, h4, h5, h6, h7, h8]
  · simp [hi]
