/-! TEXTS: what a text of waves says -/
def bt_d (tx : Nat → Int32) (tl p : Nat) (lo hi : Int) : Bool := decide (p < tl ∧ lo ≤ (tx p).toInt ∧ (tx p).toInt ≤ hi)
def bt_v (tx : Nat → Int32) (p : Nat) : Nat := (tx p).toInt.toNat - 48
abbrev bt_G : Type := Nat × Nat × Nat
/-- the end of a group whose height ends ahead of p -/
def bt_tm (tx : Nat → Int32) (tl r h p : Nat) : Nat ⊕ (bt_G × Nat) :=
  if bt_d tx tl p 120 120 = true then (if bt_d tx tl (p + 1) 50 57 = true then .inr ((r, h, bt_v tx (p + 1)), p + 2) else .inl (p + 1)) else .inr ((r, h, 1), p)
def bt_hs (tx : Nat → Int32) (tl r h p : Nat) : Nat ⊕ (bt_G × Nat) :=
  if bt_d tx tl p 48 57 = true ∧ 10 * h + bt_v tx p ≤ 20 then bt_tm tx tl r (10 * h + bt_v tx p) (p + 1) else bt_tm tx tl r h p
def bt_grp (tx : Nat → Int32) (tl p : Nat) : Nat ⊕ (bt_G × Nat) :=
  if bt_d tx tl p 48 51 = true then
    if bt_d tx tl (p + 1) 104 104 = true then
      if bt_d tx tl (p + 2) 49 57 = true then bt_hs tx tl (bt_v tx p) (bt_v tx (p + 2)) (p + 3) else .inl (p + 2)
    else .inl (p + 1)
  else .inl p
def bt_cg (g : bt_G) : Nat ⊕ List bt_G → Nat ⊕ List bt_G
  | .inl e => .inl e
  | .inr L => .inr (g :: L)
def bt_all (tx : Nat → Int32) (tl : Nat) : Nat → Nat → Nat ⊕ List bt_G
  | 0, p => .inl p
  | f + 1, p => match bt_grp tx tl p with
    | .inl e => .inl e
    | .inr (g, q) => if bt_d tx tl q 44 44 = true then bt_cg g (bt_all tx tl f (q + 1)) else if q = tl then .inr [g] else .inl q
def bt_ex (L : List bt_G) : List (Nat × Nat) := L.flatMap (fun g => List.replicate g.2.2 (g.1, g.2.1))
/-! the class -/
def bt_Q (M : bb_M) (E : List (Nat × Nat)) : Prop := M 1 7 2 = nI (min 24 E.length) ∧ ∀ j q, j < 24 → E[j]? = some q → M 12 7 j = nI q.1 ∧ M 13 7 j = nI q.2
def bt_sc (k i j : Nat) : Prop := (k = 1 ∧ i = 7) ∨ (k = 12 ∧ i = 7) ∨ (k = 13 ∧ i = 7) ∨ (k = 5 ∧ 3 ≤ j)
def bt_fr (M M' : bb_M) : Prop := ∀ k i j, ¬ bt_sc k i j → M' k i j = M k i j
theorem bt_fr_rf (M : bb_M) : bt_fr M M := fun _ _ _ _ => rfl
theorem bt_fr_tr {M M' M'' : bb_M} (h : bt_fr M M') (h2 : bt_fr M' M'') : bt_fr M M'' := fun k i j hn => (h2 k i j hn).trans (h k i j hn)
theorem bt_fr_up {M : bb_M} {k i j : Nat} {v : Int32} (h : bt_sc k i j) : bt_fr M (bb_up M k i j v) := by
  intro k' i' j' hn
  unfold bb_up
  rw [if_neg]
  rintro ⟨rfl, rfl, rfl⟩
  exact hn h
theorem x_X1_addQ {d r h : Nat} {M : bb_M} {E : List (Nat × Nat)} (hQ : bt_Q M E) : ∃ M', (∀ k : Option bb_V → bb_M → Prop, bb_call (bb_CL (d + 1)) 93 [bb_R 1 7, bb_I (nI r), bb_I (nI h)] M k ↔ k none M') ∧ bt_Q M' (E ++ [(r, h)]) ∧ bt_fr M M' ∧ ∀ j, M' 5 0 j = M 5 0 j := by
  by_cases hl : E.length < 24
  · have e : M 1 7 2 = nI E.length := by rw [hQ.1, Nat.min_eq_right (by omega)]
    refine ⟨bb_ad M 7 E.length (nI r) (nI h), fun k => x_X1_add e hl, ⟨?_, ?_⟩, ?_, ?_⟩
    · rw [List.length_append, List.length_singleton, Nat.min_eq_right (by omega)]
      exact bb_up_at
    · intro j q hj hq
      unfold bb_ad
      rw [bb_up_k (by decide), bb_up_k (by decide)]
      rcases Nat.lt_or_ge j E.length with z | z
      · rw [List.getElem?_append_left z] at hq
        rw [bb_up_j (by omega), bb_up_k (by decide), bb_up_j (by omega), bb_up_k (by decide)]
        exact hQ.2 j q hj hq
      · rw [List.getElem?_append_right z] at hq
        have hz : j - E.length < 1 := (List.getElem?_eq_some_iff.mp hq).1
        obtain rfl : j = E.length := by omega
        rw [Nat.sub_self] at hq
        cases hq
        exact ⟨by rw [bb_up_at], by rw [bb_up_k (by decide), bb_up_at]⟩
    · exact bt_fr_tr (bt_fr_tr (bt_fr_up (Or.inr (Or.inl ⟨rfl, rfl⟩))) (bt_fr_up (Or.inr (Or.inr (Or.inl ⟨rfl, rfl⟩))))) (bt_fr_up (Or.inl ⟨rfl, rfl⟩))
    · intro j
      unfold bb_ad
      rw [bb_up_k (by decide), bb_up_k (by decide), bb_up_k (by decide)]
  · have e : M 1 7 2 = nI 24 := by rw [hQ.1, Nat.min_eq_left (by omega)]
    refine ⟨M, fun k => x_X1_addF e (Nat.le_refl _) (by omega), ⟨?_, ?_⟩, bt_fr_rf M, fun j => rfl⟩
    · rw [List.length_append, List.length_singleton, Nat.min_eq_left (by omega), e]
    · intro j q hj hq
      rw [List.getElem?_append_left (by omega)] at hq
      exact hQ.2 j q hj hq
theorem l_X5_endGroup {d r h t : Nat} (ht : t ≤ 9) : ∀ (f n : Nat) (M : bb_M) (E : List (Nat × Nat)), n + f = t → M 5 0 4 = nI r → M 5 0 5 = nI h → M 5 0 6 = nI t → bt_Q M E → ∃ M', (∀ R : bb_P, bb_Y (bb_CL (d + 1)) cd_X5_endGroup R 2 [bb_R 5 0, bb_I (nI n)] [] M ↔ R none (bb_up M' 5 0 3 (M 5 0 3 + nI t))) ∧ bt_Q M' (E ++ List.replicate f (r, h)) ∧ bt_fr M M' ∧ ∀ j, M' 5 0 j = M 5 0 j := by
  intro f
  induction f with
  | zero =>
    intro n M E hn h4 h5 h6 hQ
    obtain rfl : n = t := by omega
    refine ⟨M, fun R => ?_, by simpa using hQ, bt_fr_rf M, fun j => rfl⟩
    rw [h_X5_endGroup_2]
    simp (disch := omega) only [e_X5_endGroup_0, e_X5_endGroup_1, e_X5_endGroup_3, e_X5_endGroup_4, e_X5_endGroup_7, e_X5_endGroup_10, e_X5_endGroup_11, e_X5_endGroup_14, e_X5_endGroup_15, e_X5_endGroup_18, e_X5_endGroup_19, e_X5_endGroup_22, e_X5_endGroup_25, e_X5_endGroup_28, e_X5_endGroup_31, e_X5_endGroup_32, e_X5_endGroup_33, e_X5_endGroup_36, e_X5_endGroup_37, e_X5_endGroup_40, e_X5_endGroup_41, e_X5_endGroup_44, Option.toList_some, Option.toList_none, List.cons_append, List.nil_append, true_and, and_true, and_self, bb_ite, true_or, or_true, Option.some.injEq, bb_I_eq, bb_b_0e, bb_b_1e, bb_b_e0, bb_b_e1, decide_eq_true_eq, decide_eq_false_iff_not, bn_01, bn_11, bb_b_01, ne_eq, Bool.not_eq_false, Bool.not_eq_true, Classical.not_not, bn_lt, bn_le, bn_ti, Int32.reduceToInt, bn_m20, bn_20m, nI_add, bn_p1, bn_s1, bn_in, bn_cl, implies_true, not_true_eq_false, not_false_eq_true, Bool.true_and, Bool.false_and, Bool.and_true, Bool.and_false, Bool.true_or, Bool.false_or, Bool.or_true, Bool.or_false, Bool.not_true, Bool.not_false, false_implies, true_implies, forall_const, Bool.false_eq_true, Bool.true_eq_false, reduceCtorEq, eq_self, Bool.and_eq_true, Bool.or_eq_true, Bool.and_eq_false_iff, Bool.or_eq_false_iff, and_false, false_and, or_false, false_or, h6, Int.le_refl]
  | succ f ih =>
    intro n M E hn h4 h5 h6 hQ
    obtain ⟨M1, e1, e2, e3, e4⟩ := x_X1_addQ (d := d) (r := r) (h := h) hQ
    obtain ⟨M2, f1, f2, f3, f4⟩ := ih (n + 1) M1 (E ++ [(r, h)]) (by omega) (by rw [e4]; exact h4) (by rw [e4]; exact h5) (by rw [e4]; exact h6) e2
    refine ⟨M2, fun R => ?_, ?_, bt_fr_tr e3 f3, fun j => (f4 j).trans (e4 j)⟩
    · have h1 : ¬ (t : Int) ≤ (n : Int) := by omega
      rw [h_X5_endGroup_2, ← e4 3, ← f1 R]
      simp (disch := omega) only [e_X5_endGroup_0, e_X5_endGroup_1, e_X5_endGroup_3, e_X5_endGroup_4, e_X5_endGroup_7, e_X5_endGroup_10, e_X5_endGroup_11, e_X5_endGroup_14, e_X5_endGroup_15, e_X5_endGroup_18, e_X5_endGroup_19, e_X5_endGroup_22, e_X5_endGroup_25, e_X5_endGroup_28, e_X5_endGroup_31, e_X5_endGroup_32, e_X5_endGroup_33, e_X5_endGroup_36, e_X5_endGroup_37, e_X5_endGroup_40, e_X5_endGroup_41, e_X5_endGroup_44, Option.toList_some, Option.toList_none, List.cons_append, List.nil_append, true_and, and_true, and_self, bb_ite, true_or, or_true, Option.some.injEq, bb_I_eq, bb_b_0e, bb_b_1e, bb_b_e0, bb_b_e1, decide_eq_true_eq, decide_eq_false_iff_not, bn_01, bn_11, bb_b_01, ne_eq, Bool.not_eq_false, Bool.not_eq_true, Classical.not_not, bn_lt, bn_le, bn_ti, Int32.reduceToInt, bn_m20, bn_20m, nI_add, bn_p1, bn_s1, bn_in, bn_cl, implies_true, not_true_eq_false, not_false_eq_true, Bool.true_and, Bool.false_and, Bool.and_true, Bool.and_false, Bool.true_or, Bool.false_or, Bool.or_true, Bool.or_false, Bool.not_true, Bool.not_false, false_implies, true_implies, forall_const, Bool.false_eq_true, Bool.true_eq_false, reduceCtorEq, eq_self, Bool.and_eq_true, Bool.or_eq_true, Bool.and_eq_false_iff, Bool.or_eq_false_iff, and_false, false_and, or_false, false_or, h6, h4, h5, h1, e1]
    · rw [List.append_assoc] at f2
      exact f2
theorem x_X5_endGroup {d r h t : Nat} {M : bb_M} {E : List (Nat × Nat)} (ht : t ≤ 9) (h4 : M 5 0 4 = nI r) (h5 : M 5 0 5 = nI h) (h6 : M 5 0 6 = nI t) (hQ : bt_Q M E) (h3 : M 5 0 3 = nI E.length) : ∃ M', (∀ k : Option bb_V → bb_M → Prop, bb_call (bb_CL (d + 2)) 142 [bb_R 5 0] M k ↔ k none M') ∧ bt_Q M' (E ++ List.replicate t (r, h)) ∧ M' 5 0 3 = nI (E ++ List.replicate t (r, h)).length ∧ bt_fr M M' := by
  obtain ⟨M1, e1, e2, e3, e4⟩ := l_X5_endGroup (d := d) ht t 0 M E (Nat.zero_add _) h4 h5 h6 hQ
  refine ⟨bb_up M1 5 0 3 (M 5 0 3 + nI t), fun k => bb_cal (st_X5_endGroup ?_), ⟨?_, ?_⟩, ?_, bt_fr_tr e3 (bt_fr_up (Or.inr (Or.inr (Or.inr ⟨rfl, Nat.le_refl _⟩))))⟩
  · simp only [e_X5_endGroup_0, e_X5_endGroup_1, e_X5_endGroup_3, e_X5_endGroup_4, e_X5_endGroup_7, e_X5_endGroup_10, e_X5_endGroup_11, e_X5_endGroup_14, e_X5_endGroup_15, e_X5_endGroup_18, e_X5_endGroup_19, e_X5_endGroup_22, e_X5_endGroup_25, e_X5_endGroup_28, e_X5_endGroup_31, e_X5_endGroup_32, e_X5_endGroup_33, e_X5_endGroup_36, e_X5_endGroup_37, e_X5_endGroup_40, e_X5_endGroup_41, e_X5_endGroup_44]
    exact (e1 _).mpr ⟨rfl, rfl⟩
  · rw [bb_up_k (by decide)]
    exact e2.1
  · intro j q hj hq
    rw [bb_up_k (by decide), bb_up_k (by decide)]
    exact e2.2 j q hj hq
  · rw [bb_up_at, h3, nI_add, List.length_append, List.length_replicate]
/-! the states of reading -/
section TR
variable {d : Nat} {M : bb_M} {c : Int32} {k : Option bb_V → bb_M → Prop}
theorem x_X5_row1 (h : 48 ≤ c.toInt ∧ c.toInt ≤ 51) : bb_call (bb_CL (d + 2)) 136 [bb_R 5 0, bb_I 0, bb_I c] M k ↔ k (some (bb_I 1)) (bb_up (bb_up M 5 0 4 (c - 48)) 5 0 6 1) := by
  have h1 : ¬ c.toInt < 48 := by omega
  have h2 : c.toInt ≤ 51 := h.2
  have e := fun k => bb_cal (k := k) (st_X5_takeRow (d := d) (a0 := bb_R 5 0) (a1 := bb_I c) (M := M) (M2 := bb_up (bb_up M 5 0 4 (c - 48)) 5 0 6 1) (r := some (bb_I 1)) (by simp only [e_X5_takeRow_0, e_X5_takeRow_1, e_X5_takeRow_3, e_X5_takeRow_6, e_X5_takeRow_7, e_X5_takeRow_9, e_X5_takeRow_12, e_X5_takeRow_13, e_X5_takeRow_14, e_X5_takeRow_15, e_X5_takeRow_16, e_X5_takeRow_18, e_X5_takeRow_19, e_X5_takeRow_22, e_X5_takeRow_23, e_X5_takeRow_24, e_X5_takeRow_27, e_X5_takeRow_28, Option.toList_some, Option.toList_none, List.cons_append, List.nil_append, true_and, and_true, and_self, bb_ite, true_or, or_true, Option.some.injEq, bb_I_eq, bb_b_0e, bb_b_1e, bb_b_e0, bb_b_e1, decide_eq_true_eq, decide_eq_false_iff_not, bn_01, bn_11, bb_b_01, ne_eq, Bool.not_eq_false, Bool.not_eq_true, Classical.not_not, bn_lt, bn_le, bn_ti, Int32.reduceToInt, bn_m20, bn_20m, nI_add, bn_p1, bn_s1, bn_in, bn_cl, implies_true, not_true_eq_false, not_false_eq_true, Bool.true_and, Bool.false_and, Bool.and_true, Bool.and_false, Bool.true_or, Bool.false_or, Bool.or_true, Bool.or_false, Bool.not_true, Bool.not_false, false_implies, true_implies, forall_const, Bool.false_eq_true, Bool.true_eq_false, reduceCtorEq, eq_self, Bool.and_eq_true, Bool.or_eq_true, Bool.and_eq_false_iff, Bool.or_eq_false_iff, and_false, false_and, or_false, false_or, h1, h2]))
  refine bb_cal (st_X5_after ?_)
  simp only [e_X5_after_0, e_X5_after_1, e_X5_after_40, e_X5_after_41, e_X5_after_42, e_X5_after_45, e_X5_after_46, e_X5_after_47, e_X5_after_49, e_X5_after_52, e_X5_after_53, e_X5_after_56, e_X5_after_57, e_X5_after_58, e_X5_after_59, e_X5_after_60, e_X5_after_63, e_X5_after_64, e_X5_after_65, e_X5_after_66, e_X5_after_69, e_X5_after_70, e_X5_after_71, e_X5_after_72, e_X5_after_75, e_X5_after_76, e_X5_after_77, e_X5_after_78, e_X5_after_81, e_X5_after_82, e_X5_after_83, Option.toList_some, Option.toList_none, List.cons_append, List.nil_append, true_and, and_true, and_self, bb_ite, true_or, or_true, Option.some.injEq, bb_I_eq, bb_b_0e, bb_b_1e, bb_b_e0, bb_b_e1, decide_eq_true_eq, decide_eq_false_iff_not, bn_01, bn_11, bb_b_01, ne_eq, Bool.not_eq_false, Bool.not_eq_true, Classical.not_not, bn_lt, bn_le, bn_ti, Int32.reduceToInt, bn_m20, bn_20m, nI_add, bn_p1, bn_s1, bn_in, bn_cl, implies_true, not_true_eq_false, not_false_eq_true, Bool.true_and, Bool.false_and, Bool.and_true, Bool.and_false, Bool.true_or, Bool.false_or, Bool.or_true, Bool.or_false, Bool.not_true, Bool.not_false, false_implies, true_implies, forall_const, Bool.false_eq_true, Bool.true_eq_false, reduceCtorEq, eq_self, Bool.and_eq_true, Bool.or_eq_true, Bool.and_eq_false_iff, Bool.or_eq_false_iff, and_false, false_and, or_false, false_or, e]
theorem x_X5_row0 (h : ¬ (48 ≤ c.toInt ∧ c.toInt ≤ 51)) : bb_call (bb_CL (d + 2)) 136 [bb_R 5 0, bb_I 0, bb_I c] M k ↔ k (some (bb_I (-1))) M := by
  have e := fun k => bb_cal (k := k) (st_X5_takeRow (d := d) (a0 := bb_R 5 0) (a1 := bb_I c) (M := M) (M2 := M) (r := some (bb_I (-1))) (by
    by_cases h1 : c.toInt < 48
    · simp only [e_X5_takeRow_0, e_X5_takeRow_1, e_X5_takeRow_3, e_X5_takeRow_6, e_X5_takeRow_7, e_X5_takeRow_9, e_X5_takeRow_12, e_X5_takeRow_13, e_X5_takeRow_14, e_X5_takeRow_15, e_X5_takeRow_16, e_X5_takeRow_18, e_X5_takeRow_19, e_X5_takeRow_22, e_X5_takeRow_23, e_X5_takeRow_24, e_X5_takeRow_27, e_X5_takeRow_28, Option.toList_some, Option.toList_none, List.cons_append, List.nil_append, true_and, and_true, and_self, bb_ite, true_or, or_true, Option.some.injEq, bb_I_eq, bb_b_0e, bb_b_1e, bb_b_e0, bb_b_e1, decide_eq_true_eq, decide_eq_false_iff_not, bn_01, bn_11, bb_b_01, ne_eq, Bool.not_eq_false, Bool.not_eq_true, Classical.not_not, bn_lt, bn_le, bn_ti, Int32.reduceToInt, bn_m20, bn_20m, nI_add, bn_p1, bn_s1, bn_in, bn_cl, implies_true, not_true_eq_false, not_false_eq_true, Bool.true_and, Bool.false_and, Bool.and_true, Bool.and_false, Bool.true_or, Bool.false_or, Bool.or_true, Bool.or_false, Bool.not_true, Bool.not_false, false_implies, true_implies, forall_const, Bool.false_eq_true, Bool.true_eq_false, reduceCtorEq, eq_self, Bool.and_eq_true, Bool.or_eq_true, Bool.and_eq_false_iff, Bool.or_eq_false_iff, and_false, false_and, or_false, false_or, h1]
    · have h2 : ¬ c.toInt ≤ 51 := by omega
      simp only [e_X5_takeRow_0, e_X5_takeRow_1, e_X5_takeRow_3, e_X5_takeRow_6, e_X5_takeRow_7, e_X5_takeRow_9, e_X5_takeRow_12, e_X5_takeRow_13, e_X5_takeRow_14, e_X5_takeRow_15, e_X5_takeRow_16, e_X5_takeRow_18, e_X5_takeRow_19, e_X5_takeRow_22, e_X5_takeRow_23, e_X5_takeRow_24, e_X5_takeRow_27, e_X5_takeRow_28, Option.toList_some, Option.toList_none, List.cons_append, List.nil_append, true_and, and_true, and_self, bb_ite, true_or, or_true, Option.some.injEq, bb_I_eq, bb_b_0e, bb_b_1e, bb_b_e0, bb_b_e1, decide_eq_true_eq, decide_eq_false_iff_not, bn_01, bn_11, bb_b_01, ne_eq, Bool.not_eq_false, Bool.not_eq_true, Classical.not_not, bn_lt, bn_le, bn_ti, Int32.reduceToInt, bn_m20, bn_20m, nI_add, bn_p1, bn_s1, bn_in, bn_cl, implies_true, not_true_eq_false, not_false_eq_true, Bool.true_and, Bool.false_and, Bool.and_true, Bool.and_false, Bool.true_or, Bool.false_or, Bool.or_true, Bool.or_false, Bool.not_true, Bool.not_false, false_implies, true_implies, forall_const, Bool.false_eq_true, Bool.true_eq_false, reduceCtorEq, eq_self, Bool.and_eq_true, Bool.or_eq_true, Bool.and_eq_false_iff, Bool.or_eq_false_iff, and_false, false_and, or_false, false_or, h1, h2]))
  refine bb_cal (st_X5_after ?_)
  simp only [e_X5_after_0, e_X5_after_1, e_X5_after_40, e_X5_after_41, e_X5_after_42, e_X5_after_45, e_X5_after_46, e_X5_after_47, e_X5_after_49, e_X5_after_52, e_X5_after_53, e_X5_after_56, e_X5_after_57, e_X5_after_58, e_X5_after_59, e_X5_after_60, e_X5_after_63, e_X5_after_64, e_X5_after_65, e_X5_after_66, e_X5_after_69, e_X5_after_70, e_X5_after_71, e_X5_after_72, e_X5_after_75, e_X5_after_76, e_X5_after_77, e_X5_after_78, e_X5_after_81, e_X5_after_82, e_X5_after_83, Option.toList_some, Option.toList_none, List.cons_append, List.nil_append, true_and, and_true, and_self, bb_ite, true_or, or_true, Option.some.injEq, bb_I_eq, bb_b_0e, bb_b_1e, bb_b_e0, bb_b_e1, decide_eq_true_eq, decide_eq_false_iff_not, bn_01, bn_11, bb_b_01, ne_eq, Bool.not_eq_false, Bool.not_eq_true, Classical.not_not, bn_lt, bn_le, bn_ti, Int32.reduceToInt, bn_m20, bn_20m, nI_add, bn_p1, bn_s1, bn_in, bn_cl, implies_true, not_true_eq_false, not_false_eq_true, Bool.true_and, Bool.false_and, Bool.and_true, Bool.and_false, Bool.true_or, Bool.false_or, Bool.or_true, Bool.or_false, Bool.not_true, Bool.not_false, false_implies, true_implies, forall_const, Bool.false_eq_true, Bool.true_eq_false, reduceCtorEq, eq_self, Bool.and_eq_true, Bool.or_eq_true, Bool.and_eq_false_iff, Bool.or_eq_false_iff, and_false, false_and, or_false, false_or, e]
theorem x_X5_h1 (h : c.toInt = 104) : bb_call (bb_CL (d + 2)) 136 [bb_R 5 0, bb_I 1, bb_I c] M k ↔ k (some (bb_I 2)) M := by
  have e : c = 104 := by rw [bn_eq, h]; rfl
  refine bb_cal (st_X5_after ?_)
  have z : ((1 : Int32) = 0) = False := by decide
  simp only [e_X5_after_0, e_X5_after_1, e_X5_after_40, e_X5_after_41, e_X5_after_42, e_X5_after_45, e_X5_after_46, e_X5_after_47, e_X5_after_49, e_X5_after_52, e_X5_after_53, e_X5_after_56, e_X5_after_57, e_X5_after_58, e_X5_after_59, e_X5_after_60, e_X5_after_63, e_X5_after_64, e_X5_after_65, e_X5_after_66, e_X5_after_69, e_X5_after_70, e_X5_after_71, e_X5_after_72, e_X5_after_75, e_X5_after_76, e_X5_after_77, e_X5_after_78, e_X5_after_81, e_X5_after_82, e_X5_after_83, Option.toList_some, Option.toList_none, List.cons_append, List.nil_append, true_and, and_true, and_self, bb_ite, true_or, or_true, Option.some.injEq, bb_I_eq, bb_b_0e, bb_b_1e, bb_b_e0, bb_b_e1, decide_eq_true_eq, decide_eq_false_iff_not, bn_01, bn_11, bb_b_01, ne_eq, Bool.not_eq_false, Bool.not_eq_true, Classical.not_not, bn_lt, bn_le, bn_ti, Int32.reduceToInt, bn_m20, bn_20m, nI_add, bn_p1, bn_s1, bn_in, bn_cl, implies_true, not_true_eq_false, not_false_eq_true, Bool.true_and, Bool.false_and, Bool.and_true, Bool.and_false, Bool.true_or, Bool.false_or, Bool.or_true, Bool.or_false, Bool.not_true, Bool.not_false, false_implies, true_implies, forall_const, Bool.false_eq_true, Bool.true_eq_false, reduceCtorEq, eq_self, Bool.and_eq_true, Bool.or_eq_true, Bool.and_eq_false_iff, Bool.or_eq_false_iff, and_false, false_and, or_false, false_or, e, z]
theorem x_X5_h0 (h : ¬ c.toInt = 104) : bb_call (bb_CL (d + 2)) 136 [bb_R 5 0, bb_I 1, bb_I c] M k ↔ k (some (bb_I (-1))) M := by
  have e : ¬ c = 104 := by rw [bn_eq]; exact h
  refine bb_cal (st_X5_after ?_)
  have z : ((1 : Int32) = 0) = False := by decide
  simp only [e_X5_after_0, e_X5_after_1, e_X5_after_40, e_X5_after_41, e_X5_after_42, e_X5_after_45, e_X5_after_46, e_X5_after_47, e_X5_after_49, e_X5_after_52, e_X5_after_53, e_X5_after_56, e_X5_after_57, e_X5_after_58, e_X5_after_59, e_X5_after_60, e_X5_after_63, e_X5_after_64, e_X5_after_65, e_X5_after_66, e_X5_after_69, e_X5_after_70, e_X5_after_71, e_X5_after_72, e_X5_after_75, e_X5_after_76, e_X5_after_77, e_X5_after_78, e_X5_after_81, e_X5_after_82, e_X5_after_83, Option.toList_some, Option.toList_none, List.cons_append, List.nil_append, true_and, and_true, and_self, bb_ite, true_or, or_true, Option.some.injEq, bb_I_eq, bb_b_0e, bb_b_1e, bb_b_e0, bb_b_e1, decide_eq_true_eq, decide_eq_false_iff_not, bn_01, bn_11, bb_b_01, ne_eq, Bool.not_eq_false, Bool.not_eq_true, Classical.not_not, bn_lt, bn_le, bn_ti, Int32.reduceToInt, bn_m20, bn_20m, nI_add, bn_p1, bn_s1, bn_in, bn_cl, implies_true, not_true_eq_false, not_false_eq_true, Bool.true_and, Bool.false_and, Bool.and_true, Bool.and_false, Bool.true_or, Bool.false_or, Bool.or_true, Bool.or_false, Bool.not_true, Bool.not_false, false_implies, true_implies, forall_const, Bool.false_eq_true, Bool.true_eq_false, reduceCtorEq, eq_self, Bool.and_eq_true, Bool.or_eq_true, Bool.and_eq_false_iff, Bool.or_eq_false_iff, and_false, false_and, or_false, false_or, e, z]
theorem x_X5_ht1 (h : 49 ≤ c.toInt ∧ c.toInt ≤ 57) : bb_call (bb_CL (d + 2)) 136 [bb_R 5 0, bb_I 2, bb_I c] M k ↔ k (some (bb_I 3)) (bb_up M 5 0 5 (c - 48)) := by
  have h1 : ¬ c.toInt < 49 := by omega
  have h2 : c.toInt ≤ 57 := h.2
  have e := fun k => bb_cal (k := k) (st_X5_takeHeight (d := d) (a0 := bb_R 5 0) (a1 := bb_I c) (M := M) (M2 := bb_up M 5 0 5 (c - 48)) (r := some (bb_I 3)) (by simp only [e_X5_takeHeight_0, e_X5_takeHeight_1, e_X5_takeHeight_3, e_X5_takeHeight_6, e_X5_takeHeight_7, e_X5_takeHeight_9, e_X5_takeHeight_12, e_X5_takeHeight_13, e_X5_takeHeight_14, e_X5_takeHeight_15, e_X5_takeHeight_16, e_X5_takeHeight_18, e_X5_takeHeight_19, e_X5_takeHeight_22, e_X5_takeHeight_23, Option.toList_some, Option.toList_none, List.cons_append, List.nil_append, true_and, and_true, and_self, bb_ite, true_or, or_true, Option.some.injEq, bb_I_eq, bb_b_0e, bb_b_1e, bb_b_e0, bb_b_e1, decide_eq_true_eq, decide_eq_false_iff_not, bn_01, bn_11, bb_b_01, ne_eq, Bool.not_eq_false, Bool.not_eq_true, Classical.not_not, bn_lt, bn_le, bn_ti, Int32.reduceToInt, bn_m20, bn_20m, nI_add, bn_p1, bn_s1, bn_in, bn_cl, implies_true, not_true_eq_false, not_false_eq_true, Bool.true_and, Bool.false_and, Bool.and_true, Bool.and_false, Bool.true_or, Bool.false_or, Bool.or_true, Bool.or_false, Bool.not_true, Bool.not_false, false_implies, true_implies, forall_const, Bool.false_eq_true, Bool.true_eq_false, reduceCtorEq, eq_self, Bool.and_eq_true, Bool.or_eq_true, Bool.and_eq_false_iff, Bool.or_eq_false_iff, and_false, false_and, or_false, false_or, h1, h2]))
  refine bb_cal (st_X5_after ?_)
  have z : ((2 : Int32) = 0) = False ∧ ((2 : Int32) = 1) = False := by decide
  simp only [e_X5_after_0, e_X5_after_1, e_X5_after_40, e_X5_after_41, e_X5_after_42, e_X5_after_45, e_X5_after_46, e_X5_after_47, e_X5_after_49, e_X5_after_52, e_X5_after_53, e_X5_after_56, e_X5_after_57, e_X5_after_58, e_X5_after_59, e_X5_after_60, e_X5_after_63, e_X5_after_64, e_X5_after_65, e_X5_after_66, e_X5_after_69, e_X5_after_70, e_X5_after_71, e_X5_after_72, e_X5_after_75, e_X5_after_76, e_X5_after_77, e_X5_after_78, e_X5_after_81, e_X5_after_82, e_X5_after_83, Option.toList_some, Option.toList_none, List.cons_append, List.nil_append, true_and, and_true, and_self, bb_ite, true_or, or_true, Option.some.injEq, bb_I_eq, bb_b_0e, bb_b_1e, bb_b_e0, bb_b_e1, decide_eq_true_eq, decide_eq_false_iff_not, bn_01, bn_11, bb_b_01, ne_eq, Bool.not_eq_false, Bool.not_eq_true, Classical.not_not, bn_lt, bn_le, bn_ti, Int32.reduceToInt, bn_m20, bn_20m, nI_add, bn_p1, bn_s1, bn_in, bn_cl, implies_true, not_true_eq_false, not_false_eq_true, Bool.true_and, Bool.false_and, Bool.and_true, Bool.and_false, Bool.true_or, Bool.false_or, Bool.or_true, Bool.or_false, Bool.not_true, Bool.not_false, false_implies, true_implies, forall_const, Bool.false_eq_true, Bool.true_eq_false, reduceCtorEq, eq_self, Bool.and_eq_true, Bool.or_eq_true, Bool.and_eq_false_iff, Bool.or_eq_false_iff, and_false, false_and, or_false, false_or, e, z]
theorem x_X5_ht0 (h : ¬ (49 ≤ c.toInt ∧ c.toInt ≤ 57)) : bb_call (bb_CL (d + 2)) 136 [bb_R 5 0, bb_I 2, bb_I c] M k ↔ k (some (bb_I (-1))) M := by
  have e := fun k => bb_cal (k := k) (st_X5_takeHeight (d := d) (a0 := bb_R 5 0) (a1 := bb_I c) (M := M) (M2 := M) (r := some (bb_I (-1))) (by
    by_cases h1 : c.toInt < 49
    · simp only [e_X5_takeHeight_0, e_X5_takeHeight_1, e_X5_takeHeight_3, e_X5_takeHeight_6, e_X5_takeHeight_7, e_X5_takeHeight_9, e_X5_takeHeight_12, e_X5_takeHeight_13, e_X5_takeHeight_14, e_X5_takeHeight_15, e_X5_takeHeight_16, e_X5_takeHeight_18, e_X5_takeHeight_19, e_X5_takeHeight_22, e_X5_takeHeight_23, Option.toList_some, Option.toList_none, List.cons_append, List.nil_append, true_and, and_true, and_self, bb_ite, true_or, or_true, Option.some.injEq, bb_I_eq, bb_b_0e, bb_b_1e, bb_b_e0, bb_b_e1, decide_eq_true_eq, decide_eq_false_iff_not, bn_01, bn_11, bb_b_01, ne_eq, Bool.not_eq_false, Bool.not_eq_true, Classical.not_not, bn_lt, bn_le, bn_ti, Int32.reduceToInt, bn_m20, bn_20m, nI_add, bn_p1, bn_s1, bn_in, bn_cl, implies_true, not_true_eq_false, not_false_eq_true, Bool.true_and, Bool.false_and, Bool.and_true, Bool.and_false, Bool.true_or, Bool.false_or, Bool.or_true, Bool.or_false, Bool.not_true, Bool.not_false, false_implies, true_implies, forall_const, Bool.false_eq_true, Bool.true_eq_false, reduceCtorEq, eq_self, Bool.and_eq_true, Bool.or_eq_true, Bool.and_eq_false_iff, Bool.or_eq_false_iff, and_false, false_and, or_false, false_or, h1]
    · have h2 : ¬ c.toInt ≤ 57 := by omega
      simp only [e_X5_takeHeight_0, e_X5_takeHeight_1, e_X5_takeHeight_3, e_X5_takeHeight_6, e_X5_takeHeight_7, e_X5_takeHeight_9, e_X5_takeHeight_12, e_X5_takeHeight_13, e_X5_takeHeight_14, e_X5_takeHeight_15, e_X5_takeHeight_16, e_X5_takeHeight_18, e_X5_takeHeight_19, e_X5_takeHeight_22, e_X5_takeHeight_23, Option.toList_some, Option.toList_none, List.cons_append, List.nil_append, true_and, and_true, and_self, bb_ite, true_or, or_true, Option.some.injEq, bb_I_eq, bb_b_0e, bb_b_1e, bb_b_e0, bb_b_e1, decide_eq_true_eq, decide_eq_false_iff_not, bn_01, bn_11, bb_b_01, ne_eq, Bool.not_eq_false, Bool.not_eq_true, Classical.not_not, bn_lt, bn_le, bn_ti, Int32.reduceToInt, bn_m20, bn_20m, nI_add, bn_p1, bn_s1, bn_in, bn_cl, implies_true, not_true_eq_false, not_false_eq_true, Bool.true_and, Bool.false_and, Bool.and_true, Bool.and_false, Bool.true_or, Bool.false_or, Bool.or_true, Bool.or_false, Bool.not_true, Bool.not_false, false_implies, true_implies, forall_const, Bool.false_eq_true, Bool.true_eq_false, reduceCtorEq, eq_self, Bool.and_eq_true, Bool.or_eq_true, Bool.and_eq_false_iff, Bool.or_eq_false_iff, and_false, false_and, or_false, false_or, h1, h2]))
  refine bb_cal (st_X5_after ?_)
  have z : ((2 : Int32) = 0) = False ∧ ((2 : Int32) = 1) = False := by decide
  simp only [e_X5_after_0, e_X5_after_1, e_X5_after_40, e_X5_after_41, e_X5_after_42, e_X5_after_45, e_X5_after_46, e_X5_after_47, e_X5_after_49, e_X5_after_52, e_X5_after_53, e_X5_after_56, e_X5_after_57, e_X5_after_58, e_X5_after_59, e_X5_after_60, e_X5_after_63, e_X5_after_64, e_X5_after_65, e_X5_after_66, e_X5_after_69, e_X5_after_70, e_X5_after_71, e_X5_after_72, e_X5_after_75, e_X5_after_76, e_X5_after_77, e_X5_after_78, e_X5_after_81, e_X5_after_82, e_X5_after_83, Option.toList_some, Option.toList_none, List.cons_append, List.nil_append, true_and, and_true, and_self, bb_ite, true_or, or_true, Option.some.injEq, bb_I_eq, bb_b_0e, bb_b_1e, bb_b_e0, bb_b_e1, decide_eq_true_eq, decide_eq_false_iff_not, bn_01, bn_11, bb_b_01, ne_eq, Bool.not_eq_false, Bool.not_eq_true, Classical.not_not, bn_lt, bn_le, bn_ti, Int32.reduceToInt, bn_m20, bn_20m, nI_add, bn_p1, bn_s1, bn_in, bn_cl, implies_true, not_true_eq_false, not_false_eq_true, Bool.true_and, Bool.false_and, Bool.and_true, Bool.and_false, Bool.true_or, Bool.false_or, Bool.or_true, Bool.or_false, Bool.not_true, Bool.not_false, false_implies, true_implies, forall_const, Bool.false_eq_true, Bool.true_eq_false, reduceCtorEq, eq_self, Bool.and_eq_true, Bool.or_eq_true, Bool.and_eq_false_iff, Bool.or_eq_false_iff, and_false, false_and, or_false, false_or, e, z]
theorem x_X5_t1 (h : 50 ≤ c.toInt ∧ c.toInt ≤ 57) : bb_call (bb_CL (d + 2)) 136 [bb_R 5 0, bb_I 4, bb_I c] M k ↔ k (some (bb_I 5)) (bb_up M 5 0 6 (c - 48)) := by
  have h1 : ¬ c.toInt < 50 := by omega
  have h2 : c.toInt ≤ 57 := h.2
  have e := fun k => bb_cal (k := k) (st_X5_takeTimes (d := d) (a0 := bb_R 5 0) (a1 := bb_I c) (M := M) (M2 := bb_up M 5 0 6 (c - 48)) (r := some (bb_I 5)) (by simp only [e_X5_takeTimes_0, e_X5_takeTimes_1, e_X5_takeTimes_3, e_X5_takeTimes_6, e_X5_takeTimes_7, e_X5_takeTimes_9, e_X5_takeTimes_12, e_X5_takeTimes_13, e_X5_takeTimes_14, e_X5_takeTimes_15, e_X5_takeTimes_16, e_X5_takeTimes_18, e_X5_takeTimes_19, e_X5_takeTimes_22, e_X5_takeTimes_23, Option.toList_some, Option.toList_none, List.cons_append, List.nil_append, true_and, and_true, and_self, bb_ite, true_or, or_true, Option.some.injEq, bb_I_eq, bb_b_0e, bb_b_1e, bb_b_e0, bb_b_e1, decide_eq_true_eq, decide_eq_false_iff_not, bn_01, bn_11, bb_b_01, ne_eq, Bool.not_eq_false, Bool.not_eq_true, Classical.not_not, bn_lt, bn_le, bn_ti, Int32.reduceToInt, bn_m20, bn_20m, nI_add, bn_p1, bn_s1, bn_in, bn_cl, implies_true, not_true_eq_false, not_false_eq_true, Bool.true_and, Bool.false_and, Bool.and_true, Bool.and_false, Bool.true_or, Bool.false_or, Bool.or_true, Bool.or_false, Bool.not_true, Bool.not_false, false_implies, true_implies, forall_const, Bool.false_eq_true, Bool.true_eq_false, reduceCtorEq, eq_self, Bool.and_eq_true, Bool.or_eq_true, Bool.and_eq_false_iff, Bool.or_eq_false_iff, and_false, false_and, or_false, false_or, h1, h2]))
  refine bb_cal (st_X5_after ?_)
  have z : ((4 : Int32) = 0) = False ∧ ((4 : Int32) = 1) = False ∧ ((4 : Int32) = 2) = False ∧ ((4 : Int32) = 3) = False := by decide
  simp only [e_X5_after_0, e_X5_after_1, e_X5_after_40, e_X5_after_41, e_X5_after_42, e_X5_after_45, e_X5_after_46, e_X5_after_47, e_X5_after_49, e_X5_after_52, e_X5_after_53, e_X5_after_56, e_X5_after_57, e_X5_after_58, e_X5_after_59, e_X5_after_60, e_X5_after_63, e_X5_after_64, e_X5_after_65, e_X5_after_66, e_X5_after_69, e_X5_after_70, e_X5_after_71, e_X5_after_72, e_X5_after_75, e_X5_after_76, e_X5_after_77, e_X5_after_78, e_X5_after_81, e_X5_after_82, e_X5_after_83, Option.toList_some, Option.toList_none, List.cons_append, List.nil_append, true_and, and_true, and_self, bb_ite, true_or, or_true, Option.some.injEq, bb_I_eq, bb_b_0e, bb_b_1e, bb_b_e0, bb_b_e1, decide_eq_true_eq, decide_eq_false_iff_not, bn_01, bn_11, bb_b_01, ne_eq, Bool.not_eq_false, Bool.not_eq_true, Classical.not_not, bn_lt, bn_le, bn_ti, Int32.reduceToInt, bn_m20, bn_20m, nI_add, bn_p1, bn_s1, bn_in, bn_cl, implies_true, not_true_eq_false, not_false_eq_true, Bool.true_and, Bool.false_and, Bool.and_true, Bool.and_false, Bool.true_or, Bool.false_or, Bool.or_true, Bool.or_false, Bool.not_true, Bool.not_false, false_implies, true_implies, forall_const, Bool.false_eq_true, Bool.true_eq_false, reduceCtorEq, eq_self, Bool.and_eq_true, Bool.or_eq_true, Bool.and_eq_false_iff, Bool.or_eq_false_iff, and_false, false_and, or_false, false_or, e, z]
theorem x_X5_t0 (h : ¬ (50 ≤ c.toInt ∧ c.toInt ≤ 57)) : bb_call (bb_CL (d + 2)) 136 [bb_R 5 0, bb_I 4, bb_I c] M k ↔ k (some (bb_I (-1))) M := by
  have e := fun k => bb_cal (k := k) (st_X5_takeTimes (d := d) (a0 := bb_R 5 0) (a1 := bb_I c) (M := M) (M2 := M) (r := some (bb_I (-1))) (by
    by_cases h1 : c.toInt < 50
    · simp only [e_X5_takeTimes_0, e_X5_takeTimes_1, e_X5_takeTimes_3, e_X5_takeTimes_6, e_X5_takeTimes_7, e_X5_takeTimes_9, e_X5_takeTimes_12, e_X5_takeTimes_13, e_X5_takeTimes_14, e_X5_takeTimes_15, e_X5_takeTimes_16, e_X5_takeTimes_18, e_X5_takeTimes_19, e_X5_takeTimes_22, e_X5_takeTimes_23, Option.toList_some, Option.toList_none, List.cons_append, List.nil_append, true_and, and_true, and_self, bb_ite, true_or, or_true, Option.some.injEq, bb_I_eq, bb_b_0e, bb_b_1e, bb_b_e0, bb_b_e1, decide_eq_true_eq, decide_eq_false_iff_not, bn_01, bn_11, bb_b_01, ne_eq, Bool.not_eq_false, Bool.not_eq_true, Classical.not_not, bn_lt, bn_le, bn_ti, Int32.reduceToInt, bn_m20, bn_20m, nI_add, bn_p1, bn_s1, bn_in, bn_cl, implies_true, not_true_eq_false, not_false_eq_true, Bool.true_and, Bool.false_and, Bool.and_true, Bool.and_false, Bool.true_or, Bool.false_or, Bool.or_true, Bool.or_false, Bool.not_true, Bool.not_false, false_implies, true_implies, forall_const, Bool.false_eq_true, Bool.true_eq_false, reduceCtorEq, eq_self, Bool.and_eq_true, Bool.or_eq_true, Bool.and_eq_false_iff, Bool.or_eq_false_iff, and_false, false_and, or_false, false_or, h1]
    · have h2 : ¬ c.toInt ≤ 57 := by omega
      simp only [e_X5_takeTimes_0, e_X5_takeTimes_1, e_X5_takeTimes_3, e_X5_takeTimes_6, e_X5_takeTimes_7, e_X5_takeTimes_9, e_X5_takeTimes_12, e_X5_takeTimes_13, e_X5_takeTimes_14, e_X5_takeTimes_15, e_X5_takeTimes_16, e_X5_takeTimes_18, e_X5_takeTimes_19, e_X5_takeTimes_22, e_X5_takeTimes_23, Option.toList_some, Option.toList_none, List.cons_append, List.nil_append, true_and, and_true, and_self, bb_ite, true_or, or_true, Option.some.injEq, bb_I_eq, bb_b_0e, bb_b_1e, bb_b_e0, bb_b_e1, decide_eq_true_eq, decide_eq_false_iff_not, bn_01, bn_11, bb_b_01, ne_eq, Bool.not_eq_false, Bool.not_eq_true, Classical.not_not, bn_lt, bn_le, bn_ti, Int32.reduceToInt, bn_m20, bn_20m, nI_add, bn_p1, bn_s1, bn_in, bn_cl, implies_true, not_true_eq_false, not_false_eq_true, Bool.true_and, Bool.false_and, Bool.and_true, Bool.and_false, Bool.true_or, Bool.false_or, Bool.or_true, Bool.or_false, Bool.not_true, Bool.not_false, false_implies, true_implies, forall_const, Bool.false_eq_true, Bool.true_eq_false, reduceCtorEq, eq_self, Bool.and_eq_true, Bool.or_eq_true, Bool.and_eq_false_iff, Bool.or_eq_false_iff, and_false, false_and, or_false, false_or, h1, h2]))
  refine bb_cal (st_X5_after ?_)
  have z : ((4 : Int32) = 0) = False ∧ ((4 : Int32) = 1) = False ∧ ((4 : Int32) = 2) = False ∧ ((4 : Int32) = 3) = False := by decide
  simp only [e_X5_after_0, e_X5_after_1, e_X5_after_40, e_X5_after_41, e_X5_after_42, e_X5_after_45, e_X5_after_46, e_X5_after_47, e_X5_after_49, e_X5_after_52, e_X5_after_53, e_X5_after_56, e_X5_after_57, e_X5_after_58, e_X5_after_59, e_X5_after_60, e_X5_after_63, e_X5_after_64, e_X5_after_65, e_X5_after_66, e_X5_after_69, e_X5_after_70, e_X5_after_71, e_X5_after_72, e_X5_after_75, e_X5_after_76, e_X5_after_77, e_X5_after_78, e_X5_after_81, e_X5_after_82, e_X5_after_83, Option.toList_some, Option.toList_none, List.cons_append, List.nil_append, true_and, and_true, and_self, bb_ite, true_or, or_true, Option.some.injEq, bb_I_eq, bb_b_0e, bb_b_1e, bb_b_e0, bb_b_e1, decide_eq_true_eq, decide_eq_false_iff_not, bn_01, bn_11, bb_b_01, ne_eq, Bool.not_eq_false, Bool.not_eq_true, Classical.not_not, bn_lt, bn_le, bn_ti, Int32.reduceToInt, bn_m20, bn_20m, nI_add, bn_p1, bn_s1, bn_in, bn_cl, implies_true, not_true_eq_false, not_false_eq_true, Bool.true_and, Bool.false_and, Bool.and_true, Bool.and_false, Bool.true_or, Bool.false_or, Bool.or_true, Bool.or_false, Bool.not_true, Bool.not_false, false_implies, true_implies, forall_const, Bool.false_eq_true, Bool.true_eq_false, reduceCtorEq, eq_self, Bool.and_eq_true, Bool.or_eq_true, Bool.and_eq_false_iff, Bool.or_eq_false_iff, and_false, false_and, or_false, false_or, e, z]
theorem x_X5_gg {r h t : Nat} {E : List (Nat × Nat)} (hc : c.toInt = 44) (ht : t ≤ 9) (h4 : M 5 0 4 = nI r) (h5 : M 5 0 5 = nI h) (h6 : M 5 0 6 = nI t) (hQ : bt_Q M E) (h3 : M 5 0 3 = nI E.length) : ∃ M', (∀ k : Option bb_V → bb_M → Prop, bb_call (bb_CL (d + 3)) 141 [bb_R 5 0, bb_I c] M k ↔ k (some (bb_I 0)) M') ∧ bt_Q M' (E ++ List.replicate t (r, h)) ∧ M' 5 0 3 = nI (E ++ List.replicate t (r, h)).length ∧ bt_fr M M' := by
  obtain ⟨M', e1, e2, e3, e4⟩ := x_X5_endGroup (d := d) ht h4 h5 h6 hQ h3
  have e : c = 44 := by rw [bn_eq, hc]; rfl
  refine ⟨M', fun k => bb_cal (st_X5_goOnAfterGroup ?_), e2, e3, e4⟩
  simp only [e_X5_goOnAfterGroup_0, e_X5_goOnAfterGroup_1, e_X5_goOnAfterGroup_3, e_X5_goOnAfterGroup_6, e_X5_goOnAfterGroup_7, e_X5_goOnAfterGroup_8, e_X5_goOnAfterGroup_9, e_X5_goOnAfterGroup_12, e_X5_goOnAfterGroup_13, Option.toList_some, Option.toList_none, List.cons_append, List.nil_append, true_and, and_true, and_self, bb_ite, true_or, or_true, Option.some.injEq, bb_I_eq, bb_b_0e, bb_b_1e, bb_b_e0, bb_b_e1, decide_eq_true_eq, decide_eq_false_iff_not, bn_01, bn_11, bb_b_01, ne_eq, Bool.not_eq_false, Bool.not_eq_true, Classical.not_not, bn_lt, bn_le, bn_ti, Int32.reduceToInt, bn_m20, bn_20m, nI_add, bn_p1, bn_s1, bn_in, bn_cl, implies_true, not_true_eq_false, not_false_eq_true, Bool.true_and, Bool.false_and, Bool.and_true, Bool.and_false, Bool.true_or, Bool.false_or, Bool.or_true, Bool.or_false, Bool.not_true, Bool.not_false, false_implies, true_implies, forall_const, Bool.false_eq_true, Bool.true_eq_false, reduceCtorEq, eq_self, Bool.and_eq_true, Bool.or_eq_true, Bool.and_eq_false_iff, Bool.or_eq_false_iff, and_false, false_and, or_false, false_or, e, e1]
theorem x_X5_gg0 (hc : ¬ c.toInt = 44) : bb_call (bb_CL (d + 1)) 141 [bb_R 5 0, bb_I c] M k ↔ k (some (bb_I (-1))) M := by
  have e : ¬ c = 44 := by rw [bn_eq]; exact hc
  refine bb_cal (st_X5_goOnAfterGroup ?_)
  simp only [e_X5_goOnAfterGroup_0, e_X5_goOnAfterGroup_1, e_X5_goOnAfterGroup_3, e_X5_goOnAfterGroup_6, e_X5_goOnAfterGroup_7, e_X5_goOnAfterGroup_8, e_X5_goOnAfterGroup_9, e_X5_goOnAfterGroup_12, e_X5_goOnAfterGroup_13, Option.toList_some, Option.toList_none, List.cons_append, List.nil_append, true_and, and_true, and_self, bb_ite, true_or, or_true, Option.some.injEq, bb_I_eq, bb_b_0e, bb_b_1e, bb_b_e0, bb_b_e1, decide_eq_true_eq, decide_eq_false_iff_not, bn_01, bn_11, bb_b_01, ne_eq, Bool.not_eq_false, Bool.not_eq_true, Classical.not_not, bn_lt, bn_le, bn_ti, Int32.reduceToInt, bn_m20, bn_20m, nI_add, bn_p1, bn_s1, bn_in, bn_cl, implies_true, not_true_eq_false, not_false_eq_true, Bool.true_and, Bool.false_and, Bool.and_true, Bool.and_false, Bool.true_or, Bool.false_or, Bool.or_true, Bool.or_false, Bool.not_true, Bool.not_false, false_implies, true_implies, forall_const, Bool.false_eq_true, Bool.true_eq_false, reduceCtorEq, eq_self, Bool.and_eq_true, Bool.or_eq_true, Bool.and_eq_false_iff, Bool.or_eq_false_iff, and_false, false_and, or_false, false_or, e]
theorem bt_z5 : ((5 : Int32) = 0) = False ∧ ((5 : Int32) = 1) = False ∧ ((5 : Int32) = 2) = False ∧ ((5 : Int32) = 3) = False ∧ ((5 : Int32) = 4) = False := by decide
theorem bt_z3 : ((3 : Int32) = 0) = False ∧ ((3 : Int32) = 1) = False ∧ ((3 : Int32) = 2) = False := by decide
theorem x_X5_g5 {r h t : Nat} {E : List (Nat × Nat)} (hc : c.toInt = 44) (ht : t ≤ 9) (h4 : M 5 0 4 = nI r) (h5 : M 5 0 5 = nI h) (h6 : M 5 0 6 = nI t) (hQ : bt_Q M E) (h3 : M 5 0 3 = nI E.length) : ∃ M', (∀ (k : Option bb_V → bb_M → Prop), bb_call (bb_CL (d + 5)) 136 [bb_R 5 0, bb_I 5, bb_I c] M k ↔ k (some (bb_I 0)) M') ∧ bt_Q M' (E ++ List.replicate t (r, h)) ∧ M' 5 0 3 = nI (E ++ List.replicate t (r, h)).length ∧ bt_fr M M' := by
  obtain ⟨M', e1, e2, e3, e4⟩ := x_X5_gg (d := d + 1) (c := c) hc ht h4 h5 h6 hQ h3
  refine ⟨M', fun k => bb_cal (st_X5_after ?_), e2, e3, e4⟩
  simp only [e_X5_after_0, e_X5_after_1, e_X5_after_40, e_X5_after_41, e_X5_after_42, e_X5_after_45, e_X5_after_46, e_X5_after_47, e_X5_after_49, e_X5_after_52, e_X5_after_53, e_X5_after_56, e_X5_after_57, e_X5_after_58, e_X5_after_59, e_X5_after_60, e_X5_after_63, e_X5_after_64, e_X5_after_65, e_X5_after_66, e_X5_after_69, e_X5_after_70, e_X5_after_71, e_X5_after_72, e_X5_after_75, e_X5_after_76, e_X5_after_77, e_X5_after_78, e_X5_after_81, e_X5_after_82, e_X5_after_83, Option.toList_some, Option.toList_none, List.cons_append, List.nil_append, true_and, and_true, and_self, bb_ite, true_or, or_true, Option.some.injEq, bb_I_eq, bb_b_0e, bb_b_1e, bb_b_e0, bb_b_e1, decide_eq_true_eq, decide_eq_false_iff_not, bn_01, bn_11, bb_b_01, ne_eq, Bool.not_eq_false, Bool.not_eq_true, Classical.not_not, bn_lt, bn_le, bn_ti, Int32.reduceToInt, bn_m20, bn_20m, nI_add, bn_p1, bn_s1, bn_in, bn_cl, implies_true, not_true_eq_false, not_false_eq_true, Bool.true_and, Bool.false_and, Bool.and_true, Bool.and_false, Bool.true_or, Bool.false_or, Bool.or_true, Bool.or_false, Bool.not_true, Bool.not_false, false_implies, true_implies, forall_const, Bool.false_eq_true, Bool.true_eq_false, reduceCtorEq, eq_self, Bool.and_eq_true, Bool.or_eq_true, Bool.and_eq_false_iff, Bool.or_eq_false_iff, and_false, false_and, or_false, false_or, bt_z5, e1]
theorem x_X5_g50 (hc : ¬ c.toInt = 44) : bb_call (bb_CL (d + 2)) 136 [bb_R 5 0, bb_I 5, bb_I c] M k ↔ k (some (bb_I (-1))) M := by
  have e := fun k => x_X5_gg0 (d := d) (c := c) (M := M) (k := k) hc
  refine bb_cal (st_X5_after ?_)
  simp only [e_X5_after_0, e_X5_after_1, e_X5_after_40, e_X5_after_41, e_X5_after_42, e_X5_after_45, e_X5_after_46, e_X5_after_47, e_X5_after_49, e_X5_after_52, e_X5_after_53, e_X5_after_56, e_X5_after_57, e_X5_after_58, e_X5_after_59, e_X5_after_60, e_X5_after_63, e_X5_after_64, e_X5_after_65, e_X5_after_66, e_X5_after_69, e_X5_after_70, e_X5_after_71, e_X5_after_72, e_X5_after_75, e_X5_after_76, e_X5_after_77, e_X5_after_78, e_X5_after_81, e_X5_after_82, e_X5_after_83, Option.toList_some, Option.toList_none, List.cons_append, List.nil_append, true_and, and_true, and_self, bb_ite, true_or, or_true, Option.some.injEq, bb_I_eq, bb_b_0e, bb_b_1e, bb_b_e0, bb_b_e1, decide_eq_true_eq, decide_eq_false_iff_not, bn_01, bn_11, bb_b_01, ne_eq, Bool.not_eq_false, Bool.not_eq_true, Classical.not_not, bn_lt, bn_le, bn_ti, Int32.reduceToInt, bn_m20, bn_20m, nI_add, bn_p1, bn_s1, bn_in, bn_cl, implies_true, not_true_eq_false, not_false_eq_true, Bool.true_and, Bool.false_and, Bool.and_true, Bool.and_false, Bool.true_or, Bool.false_or, Bool.or_true, Bool.or_false, Bool.not_true, Bool.not_false, false_implies, true_implies, forall_const, Bool.false_eq_true, Bool.true_eq_false, reduceCtorEq, eq_self, Bool.and_eq_true, Bool.or_eq_true, Bool.and_eq_false_iff, Bool.or_eq_false_iff, and_false, false_and, or_false, false_or, bt_z5, e]
theorem x_X5_g3 {r h t : Nat} {E : List (Nat × Nat)} (hc : c.toInt = 44) (ht : t ≤ 9) (h4 : M 5 0 4 = nI r) (h5 : M 5 0 5 = nI h) (h6 : M 5 0 6 = nI t) (hQ : bt_Q M E) (h3 : M 5 0 3 = nI E.length) : ∃ M', (∀ (k : Option bb_V → bb_M → Prop), bb_call (bb_CL (d + 5)) 136 [bb_R 5 0, bb_I 3, bb_I c] M k ↔ k (some (bb_I 0)) M') ∧ bt_Q M' (E ++ List.replicate t (r, h)) ∧ M' 5 0 3 = nI (E ++ List.replicate t (r, h)).length ∧ bt_fr M M' := by
  obtain ⟨M', e1, e2, e3, e4⟩ := x_X5_gg (d := d) (c := c) hc ht h4 h5 h6 hQ h3
  have z : ¬ c = 120 := by rw [bn_eq, hc]; decide
  have z2 : c.toInt < 48 := by omega
  have e := fun k => bb_cal (k := k) (st_X5_goOnAfterHeight (d := d + 3) (a0 := bb_R 5 0) (a1 := bb_I c) (M := M) (M2 := M') (r := some (bb_I 0)) (by simp only [e_X5_goOnAfterHeight_0, e_X5_goOnAfterHeight_1, e_X5_goOnAfterHeight_3, e_X5_goOnAfterHeight_6, e_X5_goOnAfterHeight_7, e_X5_goOnAfterHeight_8, e_X5_goOnAfterHeight_9, e_X5_goOnAfterHeight_11, e_X5_goOnAfterHeight_14, e_X5_goOnAfterHeight_15, e_X5_goOnAfterHeight_17, e_X5_goOnAfterHeight_20, e_X5_goOnAfterHeight_21, e_X5_goOnAfterHeight_22, e_X5_goOnAfterHeight_25, e_X5_goOnAfterHeight_26, e_X5_goOnAfterHeight_27, e_X5_goOnAfterHeight_30, e_X5_goOnAfterHeight_32, e_X5_goOnAfterHeight_33, e_X5_goOnAfterHeight_34, e_X5_goOnAfterHeight_35, e_X5_goOnAfterHeight_37, e_X5_goOnAfterHeight_38, e_X5_goOnAfterHeight_39, e_X5_goOnAfterHeight_40, e_X5_goOnAfterHeight_42, e_X5_goOnAfterHeight_45, e_X5_goOnAfterHeight_46, e_X5_goOnAfterHeight_47, e_X5_goOnAfterHeight_48, e_X5_goOnAfterHeight_49, e_X5_goOnAfterHeight_52, e_X5_goOnAfterHeight_53, Option.toList_some, Option.toList_none, List.cons_append, List.nil_append, true_and, and_true, and_self, bb_ite, true_or, or_true, Option.some.injEq, bb_I_eq, bb_b_0e, bb_b_1e, bb_b_e0, bb_b_e1, decide_eq_true_eq, decide_eq_false_iff_not, bn_01, bn_11, bb_b_01, ne_eq, Bool.not_eq_false, Bool.not_eq_true, Classical.not_not, bn_lt, bn_le, bn_ti, Int32.reduceToInt, bn_m20, bn_20m, nI_add, bn_p1, bn_s1, bn_in, bn_cl, implies_true, not_true_eq_false, not_false_eq_true, Bool.true_and, Bool.false_and, Bool.and_true, Bool.and_false, Bool.true_or, Bool.false_or, Bool.or_true, Bool.or_false, Bool.not_true, Bool.not_false, false_implies, true_implies, forall_const, Bool.false_eq_true, Bool.true_eq_false, reduceCtorEq, eq_self, Bool.and_eq_true, Bool.or_eq_true, Bool.and_eq_false_iff, Bool.or_eq_false_iff, and_false, false_and, or_false, false_or, z, z2, e1]))
  refine ⟨M', fun k => bb_cal (st_X5_after ?_), e2, e3, e4⟩
  simp only [e_X5_after_0, e_X5_after_1, e_X5_after_40, e_X5_after_41, e_X5_after_42, e_X5_after_45, e_X5_after_46, e_X5_after_47, e_X5_after_49, e_X5_after_52, e_X5_after_53, e_X5_after_56, e_X5_after_57, e_X5_after_58, e_X5_after_59, e_X5_after_60, e_X5_after_63, e_X5_after_64, e_X5_after_65, e_X5_after_66, e_X5_after_69, e_X5_after_70, e_X5_after_71, e_X5_after_72, e_X5_after_75, e_X5_after_76, e_X5_after_77, e_X5_after_78, e_X5_after_81, e_X5_after_82, e_X5_after_83, Option.toList_some, Option.toList_none, List.cons_append, List.nil_append, true_and, and_true, and_self, bb_ite, true_or, or_true, Option.some.injEq, bb_I_eq, bb_b_0e, bb_b_1e, bb_b_e0, bb_b_e1, decide_eq_true_eq, decide_eq_false_iff_not, bn_01, bn_11, bb_b_01, ne_eq, Bool.not_eq_false, Bool.not_eq_true, Classical.not_not, bn_lt, bn_le, bn_ti, Int32.reduceToInt, bn_m20, bn_20m, nI_add, bn_p1, bn_s1, bn_in, bn_cl, implies_true, not_true_eq_false, not_false_eq_true, Bool.true_and, Bool.false_and, Bool.and_true, Bool.and_false, Bool.true_or, Bool.false_or, Bool.or_true, Bool.or_false, Bool.not_true, Bool.not_false, false_implies, true_implies, forall_const, Bool.false_eq_true, Bool.true_eq_false, reduceCtorEq, eq_self, Bool.and_eq_true, Bool.or_eq_true, Bool.and_eq_false_iff, Bool.or_eq_false_iff, and_false, false_and, or_false, false_or, bt_z3, e]
theorem x_X5_x3 (hc : c.toInt = 120) : bb_call (bb_CL (d + 2)) 136 [bb_R 5 0, bb_I 3, bb_I c] M k ↔ k (some (bb_I 4)) M := by
  have z : c = 120 := by rw [bn_eq, hc]; rfl
  have e := fun k => bb_cal (k := k) (st_X5_goOnAfterHeight (d := d) (a0 := bb_R 5 0) (a1 := bb_I c) (M := M) (M2 := M) (r := some (bb_I 4)) (by simp only [e_X5_goOnAfterHeight_0, e_X5_goOnAfterHeight_1, e_X5_goOnAfterHeight_3, e_X5_goOnAfterHeight_6, e_X5_goOnAfterHeight_7, e_X5_goOnAfterHeight_8, e_X5_goOnAfterHeight_9, e_X5_goOnAfterHeight_11, e_X5_goOnAfterHeight_14, e_X5_goOnAfterHeight_15, e_X5_goOnAfterHeight_17, e_X5_goOnAfterHeight_20, e_X5_goOnAfterHeight_21, e_X5_goOnAfterHeight_22, e_X5_goOnAfterHeight_25, e_X5_goOnAfterHeight_26, e_X5_goOnAfterHeight_27, e_X5_goOnAfterHeight_30, e_X5_goOnAfterHeight_32, e_X5_goOnAfterHeight_33, e_X5_goOnAfterHeight_34, e_X5_goOnAfterHeight_35, e_X5_goOnAfterHeight_37, e_X5_goOnAfterHeight_38, e_X5_goOnAfterHeight_39, e_X5_goOnAfterHeight_40, e_X5_goOnAfterHeight_42, e_X5_goOnAfterHeight_45, e_X5_goOnAfterHeight_46, e_X5_goOnAfterHeight_47, e_X5_goOnAfterHeight_48, e_X5_goOnAfterHeight_49, e_X5_goOnAfterHeight_52, e_X5_goOnAfterHeight_53, Option.toList_some, Option.toList_none, List.cons_append, List.nil_append, true_and, and_true, and_self, bb_ite, true_or, or_true, Option.some.injEq, bb_I_eq, bb_b_0e, bb_b_1e, bb_b_e0, bb_b_e1, decide_eq_true_eq, decide_eq_false_iff_not, bn_01, bn_11, bb_b_01, ne_eq, Bool.not_eq_false, Bool.not_eq_true, Classical.not_not, bn_lt, bn_le, bn_ti, Int32.reduceToInt, bn_m20, bn_20m, nI_add, bn_p1, bn_s1, bn_in, bn_cl, implies_true, not_true_eq_false, not_false_eq_true, Bool.true_and, Bool.false_and, Bool.and_true, Bool.and_false, Bool.true_or, Bool.false_or, Bool.or_true, Bool.or_false, Bool.not_true, Bool.not_false, false_implies, true_implies, forall_const, Bool.false_eq_true, Bool.true_eq_false, reduceCtorEq, eq_self, Bool.and_eq_true, Bool.or_eq_true, Bool.and_eq_false_iff, Bool.or_eq_false_iff, and_false, false_and, or_false, false_or, z]))
  refine bb_cal (st_X5_after ?_)
  simp only [e_X5_after_0, e_X5_after_1, e_X5_after_40, e_X5_after_41, e_X5_after_42, e_X5_after_45, e_X5_after_46, e_X5_after_47, e_X5_after_49, e_X5_after_52, e_X5_after_53, e_X5_after_56, e_X5_after_57, e_X5_after_58, e_X5_after_59, e_X5_after_60, e_X5_after_63, e_X5_after_64, e_X5_after_65, e_X5_after_66, e_X5_after_69, e_X5_after_70, e_X5_after_71, e_X5_after_72, e_X5_after_75, e_X5_after_76, e_X5_after_77, e_X5_after_78, e_X5_after_81, e_X5_after_82, e_X5_after_83, Option.toList_some, Option.toList_none, List.cons_append, List.nil_append, true_and, and_true, and_self, bb_ite, true_or, or_true, Option.some.injEq, bb_I_eq, bb_b_0e, bb_b_1e, bb_b_e0, bb_b_e1, decide_eq_true_eq, decide_eq_false_iff_not, bn_01, bn_11, bb_b_01, ne_eq, Bool.not_eq_false, Bool.not_eq_true, Classical.not_not, bn_lt, bn_le, bn_ti, Int32.reduceToInt, bn_m20, bn_20m, nI_add, bn_p1, bn_s1, bn_in, bn_cl, implies_true, not_true_eq_false, not_false_eq_true, Bool.true_and, Bool.false_and, Bool.and_true, Bool.and_false, Bool.true_or, Bool.false_or, Bool.or_true, Bool.or_false, Bool.not_true, Bool.not_false, false_implies, true_implies, forall_const, Bool.false_eq_true, Bool.true_eq_false, reduceCtorEq, eq_self, Bool.and_eq_true, Bool.or_eq_true, Bool.and_eq_false_iff, Bool.or_eq_false_iff, and_false, false_and, or_false, false_or, bt_z3, e]
theorem x_X5_d3 {h : Nat} (hc : 48 ≤ c.toInt ∧ c.toInt ≤ 57) (h5 : M 5 0 5 = nI h) (hh : h ≤ 20) (hl : 10 * h + (c.toInt.toNat - 48) ≤ 20) : bb_call (bb_CL (d + 2)) 136 [bb_R 5 0, bb_I 3, bb_I c] M k ↔ k (some (bb_I 3)) (bb_up M 5 0 5 (nI (10 * h + (c.toInt.toNat - 48)))) := by
  have z : ¬ c = 120 := by
    rw [bn_eq]
    have : (120 : Int32).toInt = 120 := rfl
    omega
  have z2 : ¬ c.toInt < 48 := by omega
  have z3 : c.toInt ≤ 57 := hc.2
  obtain ⟨q, hq⟩ : ∃ q : Nat, c.toInt = (48 + q : Nat) := ⟨c.toInt.toNat - 48, by omega⟩
  have ec : c = nI (48 + q) := by rw [bn_eq, bn_ti (by omega), hq]
  have ev : nI h * 10 + c - 48 = nI (10 * h + (c.toInt.toNat - 48)) := by
    rw [ec, show (10 : Int32) = nI 10 from rfl, pk_mul, nI_add, show (48 : Int32) = nI 48 from rfl, pk_sub (by omega), bn_ti (by omega)]
    congr 1
    omega
  have z4 : (nI (10 * h + (c.toInt.toNat - 48))).toInt ≤ 20 := by rw [bn_ti (by omega)]; omega
  have e := fun k => bb_cal (k := k) (st_X5_goOnAfterHeight (d := d) (a0 := bb_R 5 0) (a1 := bb_I c) (M := M) (M2 := bb_up M 5 0 5 (nI (10 * h + (c.toInt.toNat - 48)))) (r := some (bb_I 3)) (by
    simp only [e_X5_goOnAfterHeight_0, e_X5_goOnAfterHeight_1, e_X5_goOnAfterHeight_3, e_X5_goOnAfterHeight_6, e_X5_goOnAfterHeight_7, e_X5_goOnAfterHeight_8, e_X5_goOnAfterHeight_9, e_X5_goOnAfterHeight_11, e_X5_goOnAfterHeight_14, e_X5_goOnAfterHeight_15, e_X5_goOnAfterHeight_17, e_X5_goOnAfterHeight_20, e_X5_goOnAfterHeight_21, e_X5_goOnAfterHeight_22, e_X5_goOnAfterHeight_25, e_X5_goOnAfterHeight_26, e_X5_goOnAfterHeight_27, e_X5_goOnAfterHeight_30, e_X5_goOnAfterHeight_32, e_X5_goOnAfterHeight_33, e_X5_goOnAfterHeight_34, e_X5_goOnAfterHeight_35, e_X5_goOnAfterHeight_37, e_X5_goOnAfterHeight_38, e_X5_goOnAfterHeight_39, e_X5_goOnAfterHeight_40, e_X5_goOnAfterHeight_42, e_X5_goOnAfterHeight_45, e_X5_goOnAfterHeight_46, e_X5_goOnAfterHeight_47, e_X5_goOnAfterHeight_48, e_X5_goOnAfterHeight_49, e_X5_goOnAfterHeight_52, e_X5_goOnAfterHeight_53, Option.toList_some, Option.toList_none, List.cons_append, List.nil_append, true_and, and_true, and_self, bb_ite, true_or, or_true, Option.some.injEq, bb_I_eq, bb_b_0e, bb_b_1e, bb_b_e0, bb_b_e1, decide_eq_true_eq, decide_eq_false_iff_not, bn_01, bn_11, bb_b_01, ne_eq, Bool.not_eq_false, Bool.not_eq_true, Classical.not_not, bn_lt, bn_le, Int32.reduceToInt, true_implies, false_implies, not_true_eq_false, not_false_eq_true, z, z2, z3, h5, ev, z4]))
  refine bb_cal (st_X5_after ?_)
  simp only [e_X5_after_0, e_X5_after_1, e_X5_after_40, e_X5_after_41, e_X5_after_42, e_X5_after_45, e_X5_after_46, e_X5_after_47, e_X5_after_49, e_X5_after_52, e_X5_after_53, e_X5_after_56, e_X5_after_57, e_X5_after_58, e_X5_after_59, e_X5_after_60, e_X5_after_63, e_X5_after_64, e_X5_after_65, e_X5_after_66, e_X5_after_69, e_X5_after_70, e_X5_after_71, e_X5_after_72, e_X5_after_75, e_X5_after_76, e_X5_after_77, e_X5_after_78, e_X5_after_81, e_X5_after_82, e_X5_after_83, Option.toList_some, Option.toList_none, List.cons_append, List.nil_append, true_and, and_true, and_self, bb_ite, true_or, or_true, Option.some.injEq, bb_I_eq, bb_b_0e, bb_b_1e, bb_b_e0, bb_b_e1, decide_eq_true_eq, decide_eq_false_iff_not, bn_01, bn_11, bb_b_01, ne_eq, Bool.not_eq_false, Bool.not_eq_true, Classical.not_not, bn_lt, bn_le, bn_ti, Int32.reduceToInt, bn_m20, bn_20m, nI_add, bn_p1, bn_s1, bn_in, bn_cl, implies_true, not_true_eq_false, not_false_eq_true, Bool.true_and, Bool.false_and, Bool.and_true, Bool.and_false, Bool.true_or, Bool.false_or, Bool.or_true, Bool.or_false, Bool.not_true, Bool.not_false, false_implies, true_implies, forall_const, Bool.false_eq_true, Bool.true_eq_false, reduceCtorEq, eq_self, Bool.and_eq_true, Bool.or_eq_true, Bool.and_eq_false_iff, Bool.or_eq_false_iff, and_false, false_and, or_false, false_or, bt_z3, e]
theorem x_X5_d30 {h : Nat} (hc : 48 ≤ c.toInt ∧ c.toInt ≤ 57) (h5 : M 5 0 5 = nI h) (hh : h ≤ 20) (hl : ¬ 10 * h + (c.toInt.toNat - 48) ≤ 20) : bb_call (bb_CL (d + 2)) 136 [bb_R 5 0, bb_I 3, bb_I c] M k ↔ k (some (bb_I (-1))) M := by
  have z : ¬ c = 120 := by
    rw [bn_eq]
    have : (120 : Int32).toInt = 120 := rfl
    omega
  have z2 : ¬ c.toInt < 48 := by omega
  have z3 : c.toInt ≤ 57 := hc.2
  obtain ⟨q, hq⟩ : ∃ q : Nat, c.toInt = (48 + q : Nat) := ⟨c.toInt.toNat - 48, by omega⟩
  have ec : c = nI (48 + q) := by rw [bn_eq, bn_ti (by omega), hq]
  have ev : nI h * 10 + c - 48 = nI (10 * h + (c.toInt.toNat - 48)) := by
    rw [ec, show (10 : Int32) = nI 10 from rfl, pk_mul, nI_add, show (48 : Int32) = nI 48 from rfl, pk_sub (by omega), bn_ti (by omega)]
    congr 1
    omega
  have z4 : ¬ (nI (10 * h + (c.toInt.toNat - 48))).toInt ≤ 20 := by rw [bn_ti (by omega)]; omega
  have e := fun k => bb_cal (k := k) (st_X5_goOnAfterHeight (d := d) (a0 := bb_R 5 0) (a1 := bb_I c) (M := M) (M2 := M) (r := some (bb_I (-1))) (by
    simp only [e_X5_goOnAfterHeight_0, e_X5_goOnAfterHeight_1, e_X5_goOnAfterHeight_3, e_X5_goOnAfterHeight_6, e_X5_goOnAfterHeight_7, e_X5_goOnAfterHeight_8, e_X5_goOnAfterHeight_9, e_X5_goOnAfterHeight_11, e_X5_goOnAfterHeight_14, e_X5_goOnAfterHeight_15, e_X5_goOnAfterHeight_17, e_X5_goOnAfterHeight_20, e_X5_goOnAfterHeight_21, e_X5_goOnAfterHeight_22, e_X5_goOnAfterHeight_25, e_X5_goOnAfterHeight_26, e_X5_goOnAfterHeight_27, e_X5_goOnAfterHeight_30, e_X5_goOnAfterHeight_32, e_X5_goOnAfterHeight_33, e_X5_goOnAfterHeight_34, e_X5_goOnAfterHeight_35, e_X5_goOnAfterHeight_37, e_X5_goOnAfterHeight_38, e_X5_goOnAfterHeight_39, e_X5_goOnAfterHeight_40, e_X5_goOnAfterHeight_42, e_X5_goOnAfterHeight_45, e_X5_goOnAfterHeight_46, e_X5_goOnAfterHeight_47, e_X5_goOnAfterHeight_48, e_X5_goOnAfterHeight_49, e_X5_goOnAfterHeight_52, e_X5_goOnAfterHeight_53, Option.toList_some, Option.toList_none, List.cons_append, List.nil_append, true_and, and_true, and_self, bb_ite, true_or, or_true, Option.some.injEq, bb_I_eq, bb_b_0e, bb_b_1e, bb_b_e0, bb_b_e1, decide_eq_true_eq, decide_eq_false_iff_not, bn_01, bn_11, bb_b_01, ne_eq, Bool.not_eq_false, Bool.not_eq_true, Classical.not_not, bn_lt, bn_le, Int32.reduceToInt, true_implies, false_implies, not_true_eq_false, not_false_eq_true, z, z2, z3, h5, ev, z4]))
  refine bb_cal (st_X5_after ?_)
  simp only [e_X5_after_0, e_X5_after_1, e_X5_after_40, e_X5_after_41, e_X5_after_42, e_X5_after_45, e_X5_after_46, e_X5_after_47, e_X5_after_49, e_X5_after_52, e_X5_after_53, e_X5_after_56, e_X5_after_57, e_X5_after_58, e_X5_after_59, e_X5_after_60, e_X5_after_63, e_X5_after_64, e_X5_after_65, e_X5_after_66, e_X5_after_69, e_X5_after_70, e_X5_after_71, e_X5_after_72, e_X5_after_75, e_X5_after_76, e_X5_after_77, e_X5_after_78, e_X5_after_81, e_X5_after_82, e_X5_after_83, Option.toList_some, Option.toList_none, List.cons_append, List.nil_append, true_and, and_true, and_self, bb_ite, true_or, or_true, Option.some.injEq, bb_I_eq, bb_b_0e, bb_b_1e, bb_b_e0, bb_b_e1, decide_eq_true_eq, decide_eq_false_iff_not, bn_01, bn_11, bb_b_01, ne_eq, Bool.not_eq_false, Bool.not_eq_true, Classical.not_not, bn_lt, bn_le, bn_ti, Int32.reduceToInt, bn_m20, bn_20m, nI_add, bn_p1, bn_s1, bn_in, bn_cl, implies_true, not_true_eq_false, not_false_eq_true, Bool.true_and, Bool.false_and, Bool.and_true, Bool.and_false, Bool.true_or, Bool.false_or, Bool.or_true, Bool.or_false, Bool.not_true, Bool.not_false, false_implies, true_implies, forall_const, Bool.false_eq_true, Bool.true_eq_false, reduceCtorEq, eq_self, Bool.and_eq_true, Bool.or_eq_true, Bool.and_eq_false_iff, Bool.or_eq_false_iff, and_false, false_and, or_false, false_or, bt_z3, e]
theorem x_X5_o30 (hc : ¬ (48 ≤ c.toInt ∧ c.toInt ≤ 57)) (hc2 : ¬ c.toInt = 120) (hc3 : ¬ c.toInt = 44) : bb_call (bb_CL (d + 3)) 136 [bb_R 5 0, bb_I 3, bb_I c] M k ↔ k (some (bb_I (-1))) M := by
  have z : ¬ c = 120 := by rw [bn_eq]; exact hc2
  have eg := fun k => x_X5_gg0 (d := d) (c := c) (M := M) (k := k) hc3
  have e := fun k => bb_cal (k := k) (st_X5_goOnAfterHeight (d := d + 1) (a0 := bb_R 5 0) (a1 := bb_I c) (M := M) (M2 := M) (r := some (bb_I (-1))) (by
    by_cases z2 : c.toInt < 48
    · simp only [e_X5_goOnAfterHeight_0, e_X5_goOnAfterHeight_1, e_X5_goOnAfterHeight_3, e_X5_goOnAfterHeight_6, e_X5_goOnAfterHeight_7, e_X5_goOnAfterHeight_8, e_X5_goOnAfterHeight_9, e_X5_goOnAfterHeight_11, e_X5_goOnAfterHeight_14, e_X5_goOnAfterHeight_15, e_X5_goOnAfterHeight_17, e_X5_goOnAfterHeight_20, e_X5_goOnAfterHeight_21, e_X5_goOnAfterHeight_22, e_X5_goOnAfterHeight_25, e_X5_goOnAfterHeight_26, e_X5_goOnAfterHeight_27, e_X5_goOnAfterHeight_30, e_X5_goOnAfterHeight_32, e_X5_goOnAfterHeight_33, e_X5_goOnAfterHeight_34, e_X5_goOnAfterHeight_35, e_X5_goOnAfterHeight_37, e_X5_goOnAfterHeight_38, e_X5_goOnAfterHeight_39, e_X5_goOnAfterHeight_40, e_X5_goOnAfterHeight_42, e_X5_goOnAfterHeight_45, e_X5_goOnAfterHeight_46, e_X5_goOnAfterHeight_47, e_X5_goOnAfterHeight_48, e_X5_goOnAfterHeight_49, e_X5_goOnAfterHeight_52, e_X5_goOnAfterHeight_53, Option.toList_some, Option.toList_none, List.cons_append, List.nil_append, true_and, and_true, and_self, bb_ite, true_or, or_true, Option.some.injEq, bb_I_eq, bb_b_0e, bb_b_1e, bb_b_e0, bb_b_e1, decide_eq_true_eq, decide_eq_false_iff_not, bn_01, bn_11, bb_b_01, ne_eq, Bool.not_eq_false, Bool.not_eq_true, Classical.not_not, bn_lt, bn_le, bn_ti, Int32.reduceToInt, bn_m20, bn_20m, nI_add, bn_p1, bn_s1, bn_in, bn_cl, implies_true, not_true_eq_false, not_false_eq_true, Bool.true_and, Bool.false_and, Bool.and_true, Bool.and_false, Bool.true_or, Bool.false_or, Bool.or_true, Bool.or_false, Bool.not_true, Bool.not_false, false_implies, true_implies, forall_const, Bool.false_eq_true, Bool.true_eq_false, reduceCtorEq, eq_self, Bool.and_eq_true, Bool.or_eq_true, Bool.and_eq_false_iff, Bool.or_eq_false_iff, and_false, false_and, or_false, false_or, z, z2, eg]
    · have z3 : ¬ c.toInt ≤ 57 := by omega
      simp only [e_X5_goOnAfterHeight_0, e_X5_goOnAfterHeight_1, e_X5_goOnAfterHeight_3, e_X5_goOnAfterHeight_6, e_X5_goOnAfterHeight_7, e_X5_goOnAfterHeight_8, e_X5_goOnAfterHeight_9, e_X5_goOnAfterHeight_11, e_X5_goOnAfterHeight_14, e_X5_goOnAfterHeight_15, e_X5_goOnAfterHeight_17, e_X5_goOnAfterHeight_20, e_X5_goOnAfterHeight_21, e_X5_goOnAfterHeight_22, e_X5_goOnAfterHeight_25, e_X5_goOnAfterHeight_26, e_X5_goOnAfterHeight_27, e_X5_goOnAfterHeight_30, e_X5_goOnAfterHeight_32, e_X5_goOnAfterHeight_33, e_X5_goOnAfterHeight_34, e_X5_goOnAfterHeight_35, e_X5_goOnAfterHeight_37, e_X5_goOnAfterHeight_38, e_X5_goOnAfterHeight_39, e_X5_goOnAfterHeight_40, e_X5_goOnAfterHeight_42, e_X5_goOnAfterHeight_45, e_X5_goOnAfterHeight_46, e_X5_goOnAfterHeight_47, e_X5_goOnAfterHeight_48, e_X5_goOnAfterHeight_49, e_X5_goOnAfterHeight_52, e_X5_goOnAfterHeight_53, Option.toList_some, Option.toList_none, List.cons_append, List.nil_append, true_and, and_true, and_self, bb_ite, true_or, or_true, Option.some.injEq, bb_I_eq, bb_b_0e, bb_b_1e, bb_b_e0, bb_b_e1, decide_eq_true_eq, decide_eq_false_iff_not, bn_01, bn_11, bb_b_01, ne_eq, Bool.not_eq_false, Bool.not_eq_true, Classical.not_not, bn_lt, bn_le, bn_ti, Int32.reduceToInt, bn_m20, bn_20m, nI_add, bn_p1, bn_s1, bn_in, bn_cl, implies_true, not_true_eq_false, not_false_eq_true, Bool.true_and, Bool.false_and, Bool.and_true, Bool.and_false, Bool.true_or, Bool.false_or, Bool.or_true, Bool.or_false, Bool.not_true, Bool.not_false, false_implies, true_implies, forall_const, Bool.false_eq_true, Bool.true_eq_false, reduceCtorEq, eq_self, Bool.and_eq_true, Bool.or_eq_true, Bool.and_eq_false_iff, Bool.or_eq_false_iff, and_false, false_and, or_false, false_or, z, z2, z3, eg]))
  refine bb_cal (st_X5_after ?_)
  simp only [e_X5_after_0, e_X5_after_1, e_X5_after_40, e_X5_after_41, e_X5_after_42, e_X5_after_45, e_X5_after_46, e_X5_after_47, e_X5_after_49, e_X5_after_52, e_X5_after_53, e_X5_after_56, e_X5_after_57, e_X5_after_58, e_X5_after_59, e_X5_after_60, e_X5_after_63, e_X5_after_64, e_X5_after_65, e_X5_after_66, e_X5_after_69, e_X5_after_70, e_X5_after_71, e_X5_after_72, e_X5_after_75, e_X5_after_76, e_X5_after_77, e_X5_after_78, e_X5_after_81, e_X5_after_82, e_X5_after_83, Option.toList_some, Option.toList_none, List.cons_append, List.nil_append, true_and, and_true, and_self, bb_ite, true_or, or_true, Option.some.injEq, bb_I_eq, bb_b_0e, bb_b_1e, bb_b_e0, bb_b_e1, decide_eq_true_eq, decide_eq_false_iff_not, bn_01, bn_11, bb_b_01, ne_eq, Bool.not_eq_false, Bool.not_eq_true, Classical.not_not, bn_lt, bn_le, bn_ti, Int32.reduceToInt, bn_m20, bn_20m, nI_add, bn_p1, bn_s1, bn_in, bn_cl, implies_true, not_true_eq_false, not_false_eq_true, Bool.true_and, Bool.false_and, Bool.and_true, Bool.and_false, Bool.true_or, Bool.false_or, Bool.or_true, Bool.or_false, Bool.not_true, Bool.not_false, false_implies, true_implies, forall_const, Bool.false_eq_true, Bool.true_eq_false, reduceCtorEq, eq_self, Bool.and_eq_true, Bool.or_eq_true, Bool.and_eq_false_iff, Bool.or_eq_false_iff, and_false, false_and, or_false, false_or, bt_z3, e]
end TR
/-! reading a text -/
def bt_TX (tx : Nat → Int32) (tl : Nat) (M : bb_M) : Prop := M 5 0 1 = nI tl ∧ ∀ j, j < tl → M 17 0 j = tx j
theorem bt_TX_fr {tx : Nat → Int32} {tl : Nat} {M M' : bb_M} (h : bt_TX tx tl M) (hf : bt_fr M M') : bt_TX tx tl M' := by
  refine ⟨?_, fun j hj => ?_⟩
  · rw [hf 5 0 1 (by unfold bt_sc; omega)]
    exact h.1
  · rw [hf 17 0 j (by unfold bt_sc; omega)]
    exact h.2 j hj
def bt_ok (M M' : bb_M) (E : List (Nat × Nat)) (res : Int32) : Nat ⊕ List bt_G → Prop
  | .inl e => res = nI e ∧ bt_fr M M'
  | .inr L => res = -1 ∧ bt_fr M M' ∧ bt_Q M' (E ++ bt_ex L) ∧ M' 5 0 3 = nI (E ++ bt_ex L).length
/-- from a state s at the place p the reading comes to o -/
def bt_rd (d : Nat) (s : Int32) (p : Nat) (M0 M : bb_M) (E : List (Nat × Nat)) (o : Nat ⊕ List bt_G) : Prop := ∃ M' res, (∀ R : bb_P, bb_Y (bb_CL d) cd_X5_read R 16 [bb_R 5 0, bb_I s, bb_I (nI p)] [] M ↔ R (some (bb_I res)) M') ∧ bt_ok M0 M' E res o
section RD
variable {d p tl : Nat} {tx : Nat → Int32} {M M0 : bb_M} {s s' : Int32} {E : List (Nat × Nat)} {o : Nat ⊕ List bt_G}
/-- one sign is read -/
theorem bt_step (hT : bt_TX tx tl M) (hp : p < tl) (htl : tl ≤ 60) {M1 : bb_M} (ha : ∀ k : Option bb_V → bb_M → Prop, bb_call (bb_CL d) 136 [bb_R 5 0, bb_I s, bb_I (tx p)] M k ↔ k (some (bb_I s')) M1) (hs : ¬ s' = -1) (h : bt_rd d s' (p + 1) M0 M1 E o) : bt_rd d s p M0 M E o := by
  obtain ⟨M', res, h1, h2⟩ := h
  refine ⟨M', res, fun R => ?_, h2⟩
  have q1 : ¬ (tl : Int) ≤ (p : Int) := by omega
  rw [h_X5_read_16, ← h1 R]
  simp (disch := omega) only [e_X5_read_0, e_X5_read_1, e_X5_read_4, e_X5_read_7, e_X5_read_8, e_X5_read_9, e_X5_read_12, e_X5_read_13, e_X5_read_14, e_X5_read_15, e_X5_read_17, e_X5_read_18, e_X5_read_21, e_X5_read_24, e_X5_read_25, e_X5_read_26, e_X5_read_27, e_X5_read_30, e_X5_read_31, e_X5_read_32, e_X5_read_35, e_X5_read_36, e_X5_read_37, e_X5_read_38, e_X5_read_41, e_X5_read_42, e_X5_read_43, e_X5_read_46, e_X5_read_49, e_X5_read_50, e_X5_read_51, e_X5_read_54, e_X5_read_55, e_X5_read_56, e_X5_read_59, e_X5_read_60, e_X5_read_63, e_X5_read_64, e_X5_read_65, e_X5_read_68, e_X5_read_69, Option.toList_some, Option.toList_none, List.cons_append, List.nil_append, true_and, and_true, and_self, bb_ite, true_or, or_true, Option.some.injEq, bb_I_eq, bb_b_0e, bb_b_1e, bb_b_e0, bb_b_e1, decide_eq_true_eq, decide_eq_false_iff_not, bn_01, bn_11, bb_b_01, ne_eq, Bool.not_eq_false, Bool.not_eq_true, Classical.not_not, bn_lt, bn_le, bn_ti, Int32.reduceToInt, bn_m20, bn_20m, nI_add, bn_p1, bn_s1, bn_in, bn_cl, implies_true, not_true_eq_false, not_false_eq_true, Bool.true_and, Bool.false_and, Bool.and_true, Bool.and_false, Bool.true_or, Bool.false_or, Bool.or_true, Bool.or_false, Bool.not_true, Bool.not_false, false_implies, true_implies, forall_const, Bool.false_eq_true, Bool.true_eq_false, reduceCtorEq, eq_self, Bool.and_eq_true, Bool.or_eq_true, Bool.and_eq_false_iff, Bool.or_eq_false_iff, and_false, false_and, or_false, false_or, hT.1, hT.2 p hp, q1, ha, hs]
/-- a sign that isn't allowed -/
theorem bt_bad (hT : bt_TX tx tl M) (hp : p < tl) (htl : tl ≤ 60) (hf : bt_fr M0 M) (ha : ∀ k : Option bb_V → bb_M → Prop, bb_call (bb_CL d) 136 [bb_R 5 0, bb_I s, bb_I (tx p)] M k ↔ k (some (bb_I (-1))) M) : bt_rd d s p M0 M E (.inl p) := by
  refine ⟨M, nI p, fun R => ?_, rfl, hf⟩
  have q1 : ¬ (tl : Int) ≤ (p : Int) := by omega
  rw [h_X5_read_16]
  simp (disch := omega) only [e_X5_read_0, e_X5_read_1, e_X5_read_4, e_X5_read_7, e_X5_read_8, e_X5_read_9, e_X5_read_12, e_X5_read_13, e_X5_read_14, e_X5_read_15, e_X5_read_17, e_X5_read_18, e_X5_read_21, e_X5_read_24, e_X5_read_25, e_X5_read_26, e_X5_read_27, e_X5_read_30, e_X5_read_31, e_X5_read_32, e_X5_read_35, e_X5_read_36, e_X5_read_37, e_X5_read_38, e_X5_read_41, e_X5_read_42, e_X5_read_43, e_X5_read_46, e_X5_read_49, e_X5_read_50, e_X5_read_51, e_X5_read_54, e_X5_read_55, e_X5_read_56, e_X5_read_59, e_X5_read_60, e_X5_read_63, e_X5_read_64, e_X5_read_65, e_X5_read_68, e_X5_read_69, Option.toList_some, Option.toList_none, List.cons_append, List.nil_append, true_and, and_true, and_self, bb_ite, true_or, or_true, Option.some.injEq, bb_I_eq, bb_b_0e, bb_b_1e, bb_b_e0, bb_b_e1, decide_eq_true_eq, decide_eq_false_iff_not, bn_01, bn_11, bb_b_01, ne_eq, Bool.not_eq_false, Bool.not_eq_true, Classical.not_not, bn_lt, bn_le, bn_ti, Int32.reduceToInt, bn_m20, bn_20m, nI_add, bn_p1, bn_s1, bn_in, bn_cl, implies_true, not_true_eq_false, not_false_eq_true, Bool.true_and, Bool.false_and, Bool.and_true, Bool.and_false, Bool.true_or, Bool.false_or, Bool.or_true, Bool.or_false, Bool.not_true, Bool.not_false, false_implies, true_implies, forall_const, Bool.false_eq_true, Bool.true_eq_false, reduceCtorEq, eq_self, Bool.and_eq_true, Bool.or_eq_true, Bool.and_eq_false_iff, Bool.or_eq_false_iff, and_false, false_and, or_false, false_or, hT.1, hT.2 p hp, q1, ha]
/-- the text ends too early -/
theorem bt_short (hT : bt_TX tx tl M) (hp : p = tl) (htl : tl ≤ 60) (hf : bt_fr M0 M) (h3 : ¬ s = 3) (h5 : ¬ s = 5) : bt_rd d s p M0 M E (.inl p) := by
  subst hp
  refine ⟨M, nI p, fun R => ?_, rfl, hf⟩
  rw [h_X5_read_16]
  simp (disch := omega) only [e_X5_read_0, e_X5_read_1, e_X5_read_4, e_X5_read_7, e_X5_read_8, e_X5_read_9, e_X5_read_12, e_X5_read_13, e_X5_read_14, e_X5_read_15, e_X5_read_17, e_X5_read_18, e_X5_read_21, e_X5_read_24, e_X5_read_25, e_X5_read_26, e_X5_read_27, e_X5_read_30, e_X5_read_31, e_X5_read_32, e_X5_read_35, e_X5_read_36, e_X5_read_37, e_X5_read_38, e_X5_read_41, e_X5_read_42, e_X5_read_43, e_X5_read_46, e_X5_read_49, e_X5_read_50, e_X5_read_51, e_X5_read_54, e_X5_read_55, e_X5_read_56, e_X5_read_59, e_X5_read_60, e_X5_read_63, e_X5_read_64, e_X5_read_65, e_X5_read_68, e_X5_read_69, Option.toList_some, Option.toList_none, List.cons_append, List.nil_append, true_and, and_true, and_self, bb_ite, true_or, or_true, Option.some.injEq, bb_I_eq, bb_b_0e, bb_b_1e, bb_b_e0, bb_b_e1, decide_eq_true_eq, decide_eq_false_iff_not, bn_01, bn_11, bb_b_01, ne_eq, Bool.not_eq_false, Bool.not_eq_true, Classical.not_not, bn_lt, bn_le, bn_ti, Int32.reduceToInt, bn_m20, bn_20m, nI_add, bn_p1, bn_s1, bn_in, bn_cl, implies_true, not_true_eq_false, not_false_eq_true, Bool.true_and, Bool.false_and, Bool.and_true, Bool.and_false, Bool.true_or, Bool.false_or, Bool.or_true, Bool.or_false, Bool.not_true, Bool.not_false, false_implies, true_implies, forall_const, Bool.false_eq_true, Bool.true_eq_false, reduceCtorEq, eq_self, Bool.and_eq_true, Bool.or_eq_true, Bool.and_eq_false_iff, Bool.or_eq_false_iff, and_false, false_and, or_false, false_or, hT.1, Int.le_refl, h3, h5]
/-- the text ends behind a group -/
theorem bt_last {r h t : Nat} (hT : bt_TX tx tl M) (hp : p = tl) (htl : tl ≤ 60) (hf : bt_fr M0 M) (hs : s = 3 ∨ s = 5) (ht : t ≤ 9) (h4 : M 5 0 4 = nI r) (h5 : M 5 0 5 = nI h) (h6 : M 5 0 6 = nI t) (hQ : bt_Q M E) (h3 : M 5 0 3 = nI E.length) : bt_rd (d + 2) s p M0 M E (.inr [(r, h, t)]) := by
  subst hp
  obtain ⟨M', e1, e2, e3, e4⟩ := x_X5_endGroup (d := d) ht h4 h5 h6 hQ h3
  have ex : bt_ex [(r, h, t)] = List.replicate t (r, h) := by simp [bt_ex]
  refine ⟨M', -1, fun R => ?_, rfl, bt_fr_tr hf e4, by rw [ex]; exact e2, by rw [ex]; exact e3⟩
  rw [h_X5_read_16]
  rcases hs with rfl | rfl
  · simp (disch := omega) only [e_X5_read_0, e_X5_read_1, e_X5_read_4, e_X5_read_7, e_X5_read_8, e_X5_read_9, e_X5_read_12, e_X5_read_13, e_X5_read_14, e_X5_read_15, e_X5_read_17, e_X5_read_18, e_X5_read_21, e_X5_read_24, e_X5_read_25, e_X5_read_26, e_X5_read_27, e_X5_read_30, e_X5_read_31, e_X5_read_32, e_X5_read_35, e_X5_read_36, e_X5_read_37, e_X5_read_38, e_X5_read_41, e_X5_read_42, e_X5_read_43, e_X5_read_46, e_X5_read_49, e_X5_read_50, e_X5_read_51, e_X5_read_54, e_X5_read_55, e_X5_read_56, e_X5_read_59, e_X5_read_60, e_X5_read_63, e_X5_read_64, e_X5_read_65, e_X5_read_68, e_X5_read_69, Option.toList_some, Option.toList_none, List.cons_append, List.nil_append, true_and, and_true, and_self, bb_ite, true_or, or_true, Option.some.injEq, bb_I_eq, bb_b_0e, bb_b_1e, bb_b_e0, bb_b_e1, decide_eq_true_eq, decide_eq_false_iff_not, bn_01, bn_11, bb_b_01, ne_eq, Bool.not_eq_false, Bool.not_eq_true, Classical.not_not, bn_lt, bn_le, bn_ti, Int32.reduceToInt, bn_m20, bn_20m, nI_add, bn_p1, bn_s1, bn_in, bn_cl, implies_true, not_true_eq_false, not_false_eq_true, Bool.true_and, Bool.false_and, Bool.and_true, Bool.and_false, Bool.true_or, Bool.false_or, Bool.or_true, Bool.or_false, Bool.not_true, Bool.not_false, false_implies, true_implies, forall_const, Bool.false_eq_true, Bool.true_eq_false, reduceCtorEq, eq_self, Bool.and_eq_true, Bool.or_eq_true, Bool.and_eq_false_iff, Bool.or_eq_false_iff, and_false, false_and, or_false, false_or, hT.1, Int.le_refl, e1]
  · have z : ((5 : Int32) = 3) = False := by decide
    simp (disch := omega) only [e_X5_read_0, e_X5_read_1, e_X5_read_4, e_X5_read_7, e_X5_read_8, e_X5_read_9, e_X5_read_12, e_X5_read_13, e_X5_read_14, e_X5_read_15, e_X5_read_17, e_X5_read_18, e_X5_read_21, e_X5_read_24, e_X5_read_25, e_X5_read_26, e_X5_read_27, e_X5_read_30, e_X5_read_31, e_X5_read_32, e_X5_read_35, e_X5_read_36, e_X5_read_37, e_X5_read_38, e_X5_read_41, e_X5_read_42, e_X5_read_43, e_X5_read_46, e_X5_read_49, e_X5_read_50, e_X5_read_51, e_X5_read_54, e_X5_read_55, e_X5_read_56, e_X5_read_59, e_X5_read_60, e_X5_read_63, e_X5_read_64, e_X5_read_65, e_X5_read_68, e_X5_read_69, Option.toList_some, Option.toList_none, List.cons_append, List.nil_append, true_and, and_true, and_self, bb_ite, true_or, or_true, Option.some.injEq, bb_I_eq, bb_b_0e, bb_b_1e, bb_b_e0, bb_b_e1, decide_eq_true_eq, decide_eq_false_iff_not, bn_01, bn_11, bb_b_01, ne_eq, Bool.not_eq_false, Bool.not_eq_true, Classical.not_not, bn_lt, bn_le, bn_ti, Int32.reduceToInt, bn_m20, bn_20m, nI_add, bn_p1, bn_s1, bn_in, bn_cl, implies_true, not_true_eq_false, not_false_eq_true, Bool.true_and, Bool.false_and, Bool.and_true, Bool.and_false, Bool.true_or, Bool.false_or, Bool.or_true, Bool.or_false, Bool.not_true, Bool.not_false, false_implies, true_implies, forall_const, Bool.false_eq_true, Bool.true_eq_false, reduceCtorEq, eq_self, Bool.and_eq_true, Bool.or_eq_true, Bool.and_eq_false_iff, Bool.or_eq_false_iff, and_false, false_and, or_false, false_or, hT.1, Int.le_refl, z, e1]
end RD
theorem bt_vI {c : Int32} (h : 48 ≤ c.toInt ∧ c.toInt ≤ 57) : c - 48 = nI (c.toInt.toNat - 48) := by
  obtain ⟨q, hq⟩ : ∃ q : Nat, c.toInt = (48 + q : Nat) := ⟨c.toInt.toNat - 48, by omega⟩
  have ec : c = nI (48 + q) := by rw [bn_eq, bn_ti (by omega), hq]
  rw [ec, show (48 : Int32) = nI 48 from rfl, pk_sub (by omega), bn_ti (by omega)]
  congr 1
theorem bt_d_iff {tx : Nat → Int32} {tl p : Nat} {lo hi : Int} : bt_d tx tl p lo hi = true ↔ p < tl ∧ lo ≤ (tx p).toInt ∧ (tx p).toInt ≤ hi := by
  unfold bt_d
  rw [decide_eq_true_eq]
/-- what follows a group -/
def bt_ct (tx : Nat → Int32) (tl f : Nat) (g : bt_G) (q : Nat) : Nat ⊕ List bt_G :=
  if bt_d tx tl q 44 44 = true then bt_cg g (bt_all tx tl f (q + 1)) else if q = tl then .inr [g] else .inl q
def bt_bd (tx : Nat → Int32) (tl f : Nat) : Nat ⊕ (bt_G × Nat) → Nat ⊕ List bt_G
  | .inl e => .inl e
  | .inr (g, q) => bt_ct tx tl f g q
theorem bt_all_s (tx : Nat → Int32) (tl f p : Nat) : bt_all tx tl (f + 1) p = bt_bd tx tl f (bt_grp tx tl p) := by
  show (match bt_grp tx tl p with | .inl e => _ | .inr (g, q) => _) = _
  cases bt_grp tx tl p with
  | inl e => rfl
  | inr z => rfl
theorem bt_cons {d p : Nat} {s : Int32} {M0 M : bb_M} {E : List (Nat × Nat)} {g : bt_G} {o : Nat ⊕ List bt_G} (h : bt_rd d s p M0 M (E ++ List.replicate g.2.2 (g.1, g.2.1)) o) : bt_rd d s p M0 M E (bt_cg g o) := by
  obtain ⟨M', res, h1, h2⟩ := h
  refine ⟨M', res, h1, ?_⟩
  cases o with
  | inl e => exact h2
  | inr L =>
    obtain ⟨a1, a2, a3, a4⟩ := h2
    have e : E ++ bt_ex (g :: L) = E ++ List.replicate g.2.2 (g.1, g.2.1) ++ bt_ex L := by
      unfold bt_ex
      rw [List.flatMap_cons, List.append_assoc]
    exact ⟨a1, a2, by rw [e]; exact a3, by rw [e]; exact a4⟩
section RM
variable {d tl f : Nat} {tx : Nat → Int32} {M0 : bb_M}
/-- the claim for the groups that follow -/
def bt_IH (d tl f : Nat) (tx : Nat → Int32) (M0 : bb_M) : Prop := ∀ (p : Nat) (M : bb_M) (E : List (Nat × Nat)), p ≤ tl → tl < p + f → bt_TX tx tl M → bt_fr M0 M → bt_Q M E → M 5 0 3 = nI E.length → bt_rd (d + 5) 0 p M0 M E (bt_all tx tl f p)
theorem bt_aft (ih : bt_IH d tl f tx M0) (htl : tl ≤ 60) {p r h t : Nat} {s : Int32} {M : bb_M} {E : List (Nat × Nat)} (hu : tl ≤ p + f) (hp : p ≤ tl) (hT : bt_TX tx tl M) (hf : bt_fr M0 M) (hQ : bt_Q M E) (h3 : M 5 0 3 = nI E.length) (ht : t ≤ 9) (hh : h ≤ 20) (h4 : M 5 0 4 = nI r) (h5 : M 5 0 5 = nI h) (h6 : M 5 0 6 = nI t) (hs : (s = 3 ∧ ¬ (bt_d tx tl p 48 57 = true ∧ 10 * h + bt_v tx p ≤ 20) ∧ ¬ bt_d tx tl p 120 120 = true) ∨ s = 5) : bt_rd (d + 5) s p M0 M E (bt_ct tx tl f (r, h, t) p) := by
  unfold bt_ct
  by_cases hpe : p = tl
  · rw [if_neg (by rw [bt_d_iff]; omega), if_pos hpe]
    exact bt_last (d := d + 3) hT hpe htl hf (hs.imp (fun z => z.1) id) ht h4 h5 h6 hQ h3
  · have hpl : p < tl := by omega
    by_cases h44 : (tx p).toInt = 44
    · rw [if_pos (bt_d_iff.mpr ⟨hpl, by omega, by omega⟩)]
      apply bt_cons
      rcases hs with ⟨rfl, -, -⟩ | rfl
      · obtain ⟨M1, e1, e2, e3, e4⟩ := x_X5_g3 (d := d) (c := tx p) h44 ht h4 h5 h6 hQ h3
        exact bt_step hT hpl htl e1 (by decide) (ih (p + 1) M1 _ (by omega) (by omega) (bt_TX_fr hT e4) (bt_fr_tr hf e4) e2 e3)
      · obtain ⟨M1, e1, e2, e3, e4⟩ := x_X5_g5 (d := d) (c := tx p) h44 ht h4 h5 h6 hQ h3
        exact bt_step hT hpl htl e1 (by decide) (ih (p + 1) M1 _ (by omega) (by omega) (bt_TX_fr hT e4) (bt_fr_tr hf e4) e2 e3)
    · rw [if_neg (by rw [bt_d_iff]; omega), if_neg hpe]
      rcases hs with ⟨rfl, q1, q2⟩ | rfl
      · by_cases qd : 48 ≤ (tx p).toInt ∧ (tx p).toInt ≤ 57
        · refine bt_bad hT hpl htl hf (fun k => x_X5_d30 (d := d + 3) qd h5 hh (fun z => q1 ⟨bt_d_iff.mpr ⟨hpl, qd⟩, z⟩))
        · refine bt_bad hT hpl htl hf (fun k => x_X5_o30 (d := d + 2) qd (fun z => q2 (bt_d_iff.mpr ⟨hpl, by omega, by omega⟩)) h44)
      · exact bt_bad hT hpl htl hf (fun k => x_X5_g50 (d := d + 3) h44)
theorem bt_tms (ih : bt_IH d tl f tx M0) (htl : tl ≤ 60) {p r h : Nat} {M : bb_M} {E : List (Nat × Nat)} (hu : tl ≤ p + f) (hp : p ≤ tl) (hT : bt_TX tx tl M) (hf : bt_fr M0 M) (hQ : bt_Q M E) (h3 : M 5 0 3 = nI E.length) (hh : h ≤ 20) (h4 : M 5 0 4 = nI r) (h5 : M 5 0 5 = nI h) (h6 : M 5 0 6 = nI 1) (hs : ¬ (bt_d tx tl p 48 57 = true ∧ 10 * h + bt_v tx p ≤ 20)) : bt_rd (d + 5) 3 p M0 M E (bt_bd tx tl f (bt_tm tx tl r h p)) := by
  unfold bt_tm
  by_cases hx : bt_d tx tl p 120 120 = true
  · rw [if_pos hx]
    obtain ⟨hpl, hx1, hx2⟩ := bt_d_iff.mp hx
    refine bt_step hT hpl htl (fun k => x_X5_x3 (d := d + 3) (by omega)) (by decide) ?_
    by_cases hd : bt_d tx tl (p + 1) 50 57 = true
    · rw [if_pos hd]
      obtain ⟨hpl2, hd1⟩ := bt_d_iff.mp hd
      have hf2 : bt_fr M (bb_up M 5 0 6 (tx (p + 1) - 48)) := bt_fr_up (by unfold bt_sc; omega)
      refine bt_step hT hpl2 htl (fun k => x_X5_t1 (d := d + 3) hd1) (by decide) ?_
      refine bt_aft ih htl (by omega) (by omega) (bt_TX_fr hT hf2) (bt_fr_tr hf hf2) ⟨by rw [bb_up_k (by decide)]; exact hQ.1, fun j q a b => by rw [bb_up_k (by decide), bb_up_k (by decide)]; exact hQ.2 j q a b⟩ (by rw [bb_up_j (by decide)]; exact h3) ?_ hh (by rw [bb_up_j (by decide)]; exact h4) (by rw [bb_up_j (by decide)]; exact h5) ?_ (Or.inr rfl)
      · unfold bt_v; omega
      · rw [bb_up_at, bt_vI (by omega)]; rfl
    · rw [if_neg hd]
      by_cases hpe : p + 1 = tl
      · exact bt_short hT hpe htl hf (by decide) (by decide)
      · exact bt_bad hT (by omega) htl hf (fun k => x_X5_t0 (d := d + 3) (fun z => hd (bt_d_iff.mpr ⟨by omega, z⟩)))
  · rw [if_neg hx]
    exact bt_aft ih htl hu hp hT hf hQ h3 (by omega) hh h4 h5 h6 (Or.inl ⟨rfl, hs, hx⟩)
theorem bt_main (htl : tl ≤ 60) : ∀ f, bt_IH d tl f tx M0 → bt_IH d tl (f + 1) tx M0 := by
  intro f ih p M E hp hu hT hf hQ h3
  rw [bt_all_s]
  unfold bt_grp
  by_cases hd0 : bt_d tx tl p 48 51 = true
  · rw [if_pos hd0]
    obtain ⟨hp0, hc0⟩ := bt_d_iff.mp hd0
    have fA : bt_fr M (bb_up (bb_up M 5 0 4 (tx p - 48)) 5 0 6 1) := bt_fr_tr (bt_fr_up (by unfold bt_sc; omega)) (bt_fr_up (by unfold bt_sc; omega))
    have TA := bt_TX_fr hT fA
    refine bt_step hT hp0 htl (fun k => x_X5_row1 (d := d + 3) hc0) (by decide) ?_
    by_cases hd1 : bt_d tx tl (p + 1) 104 104 = true
    · rw [if_pos hd1]
      obtain ⟨hp1, hc1⟩ := bt_d_iff.mp hd1
      refine bt_step TA hp1 htl (fun k => x_X5_h1 (d := d + 3) (by omega)) (by decide) ?_
      by_cases hd2 : bt_d tx tl (p + 2) 49 57 = true
      · rw [if_pos hd2]
        obtain ⟨hp2, hc2⟩ := bt_d_iff.mp hd2
        have fB : bt_fr M (bb_up (bb_up (bb_up M 5 0 4 (tx p - 48)) 5 0 6 1) 5 0 5 (tx (p + 2) - 48)) := bt_fr_tr fA (bt_fr_up (by unfold bt_sc; omega))
        have TB := bt_TX_fr hT fB
        have b4 : bb_up (bb_up (bb_up M 5 0 4 (tx p - 48)) 5 0 6 1) 5 0 5 (tx (p + 2) - 48) 5 0 4 = nI (bt_v tx p) := by
          rw [bb_up_j (by decide), bb_up_j (by decide), bb_up_at, bt_vI (by omega)]; rfl
        have b6 : bb_up (bb_up (bb_up M 5 0 4 (tx p - 48)) 5 0 6 1) 5 0 5 (tx (p + 2) - 48) 5 0 6 = nI 1 := by
          rw [bb_up_j (by decide), bb_up_at]; rfl
        have b5 : bb_up (bb_up (bb_up M 5 0 4 (tx p - 48)) 5 0 6 1) 5 0 5 (tx (p + 2) - 48) 5 0 5 = nI (bt_v tx (p + 2)) := by
          rw [bb_up_at, bt_vI (by omega)]; rfl
        have b3 : bb_up (bb_up (bb_up M 5 0 4 (tx p - 48)) 5 0 6 1) 5 0 5 (tx (p + 2) - 48) 5 0 3 = nI E.length := by
          rw [bb_up_j (by decide), bb_up_j (by decide), bb_up_j (by decide)]; exact h3
        have bQ : bt_Q (bb_up (bb_up (bb_up M 5 0 4 (tx p - 48)) 5 0 6 1) 5 0 5 (tx (p + 2) - 48)) E := ⟨by rw [bb_up_k (by decide), bb_up_k (by decide), bb_up_k (by decide)]; exact hQ.1, fun j q a b => by rw [bb_up_k (by decide), bb_up_k (by decide), bb_up_k (by decide), bb_up_k (by decide), bb_up_k (by decide), bb_up_k (by decide)]; exact hQ.2 j q a b⟩
        have hv : bt_v tx (p + 2) ≤ 9 ∧ 1 ≤ bt_v tx (p + 2) := by unfold bt_v; omega
        refine bt_step TA hp2 htl (fun k => x_X5_ht1 (d := d + 3) hc2) (by decide) ?_
        generalize bb_up (bb_up (bb_up M 5 0 4 (tx p - 48)) 5 0 6 1) 5 0 5 (tx (p + 2) - 48) = MB at fB TB b4 b5 b6 b3 bQ
        unfold bt_hs
        by_cases hx : bt_d tx tl (p + 3) 48 57 = true ∧ 10 * bt_v tx (p + 2) + bt_v tx (p + 3) ≤ 20
        · rw [if_pos hx]
          obtain ⟨hp3, hc3⟩ := bt_d_iff.mp hx.1
          have fC : bt_fr MB (bb_up MB 5 0 5 (nI (10 * bt_v tx (p + 2) + bt_v tx (p + 3)))) := bt_fr_up (by unfold bt_sc; omega)
          refine bt_step TB hp3 htl (fun k => x_X5_d3 (d := d + 3) hc3 b5 (by omega) hx.2) (by decide) ?_
          refine bt_tms ih htl (by omega) (by omega) (bt_TX_fr TB fC) (bt_fr_tr (bt_fr_tr hf fB) fC) ⟨by rw [bb_up_k (by decide)]; exact bQ.1, fun j q a b => by rw [bb_up_k (by decide), bb_up_k (by decide)]; exact bQ.2 j q a b⟩ (by rw [bb_up_j (by decide)]; exact b3) hx.2 (by rw [bb_up_j (by decide)]; exact b4) bb_up_at (by rw [bb_up_j (by decide)]; exact b6) (fun z => by omega)
        · rw [if_neg hx]
          exact bt_tms ih htl (by omega) (by omega) TB (bt_fr_tr hf fB) bQ b3 (by omega) b4 b5 b6 hx
      · rw [if_neg hd2]
        by_cases hpe : p + 2 = tl
        · exact bt_short TA hpe htl (bt_fr_tr hf fA) (by decide) (by decide)
        · exact bt_bad TA (by omega) htl (bt_fr_tr hf fA) (fun k => x_X5_ht0 (d := d + 3) (fun z => hd2 (bt_d_iff.mpr ⟨by omega, z⟩)))
    · rw [if_neg hd1]
      by_cases hpe : p + 1 = tl
      · exact bt_short TA hpe htl (bt_fr_tr hf fA) (by decide) (by decide)
      · exact bt_bad TA (by omega) htl (bt_fr_tr hf fA) (fun k => x_X5_h0 (d := d + 3) (fun z => hd1 (bt_d_iff.mpr ⟨by omega, by omega, by omega⟩)))
  · rw [if_neg hd0]
    by_cases hpe : p = tl
    · exact bt_short hT hpe htl hf (by decide) (by decide)
    · exact bt_bad hT (by omega) htl hf (fun k => x_X5_row0 (d := d + 3) (fun z => hd0 (bt_d_iff.mpr ⟨by omega, z⟩)))
theorem bt_every (htl : tl ≤ 60) : ∀ f, bt_IH d tl f tx M0
  | 0 => fun p M E hp hu => absurd hu (by omega)
  | f + 1 => bt_main htl f (bt_every htl f)
end RM
/-- reading a text, from its first sign -/
theorem x_X5_read {d tl : Nat} {tx : Nat → Int32} {M : bb_M} (htl : tl ≤ 60) (hT : bt_TX tx tl M) : ∃ M' res, (∀ k : Option bb_V → bb_M → Prop, bb_call (bb_CL (d + 6)) 135 [bb_R 5 0] M k ↔ k (some (bb_I res)) M') ∧ bt_ok M M' [] res (bt_all tx tl 61 0) := by
  have fA : bt_fr M (bb_up (bb_up M 1 7 2 0) 5 0 3 0) := bt_fr_tr (bt_fr_up (by unfold bt_sc; omega)) (bt_fr_up (by unfold bt_sc; omega))
  obtain ⟨M', res, h1, h2⟩ := bt_every (d := d) (M0 := M) htl 61 0 (bb_up (bb_up M 1 7 2 0) 5 0 3 0) [] (Nat.zero_le _) (by omega) (bt_TX_fr hT fA) fA ⟨by rw [bb_up_k (by decide), bb_up_at]; rfl, fun j q _ hq => by simp at hq⟩ bb_up_at
  refine ⟨M', res, fun k => bb_cal (st_X5_read ?_), h2⟩
  simp only [e_X5_read_0, e_X5_read_1, e_X5_read_4, e_X5_read_7, e_X5_read_8, e_X5_read_9, e_X5_read_12, e_X5_read_13, e_X5_read_14, e_X5_read_15, e_X5_read_17, e_X5_read_18, e_X5_read_21, e_X5_read_24, e_X5_read_25, e_X5_read_26, e_X5_read_27, e_X5_read_30, e_X5_read_31, e_X5_read_32, e_X5_read_35, e_X5_read_36, e_X5_read_37, e_X5_read_38, e_X5_read_41, e_X5_read_42, e_X5_read_43, e_X5_read_46, e_X5_read_49, e_X5_read_50, e_X5_read_51, e_X5_read_54, e_X5_read_55, e_X5_read_56, e_X5_read_59, e_X5_read_60, e_X5_read_63, e_X5_read_64, e_X5_read_65, e_X5_read_68, e_X5_read_69, Option.toList_some, Option.toList_none, List.cons_append, List.nil_append, true_and, and_true, and_self, bb_ite, true_or, or_true, Option.some.injEq, bb_I_eq, bb_b_0e, bb_b_1e, bb_b_e0, bb_b_e1, decide_eq_true_eq, decide_eq_false_iff_not, bn_01, bn_11, bb_b_01, ne_eq, Bool.not_eq_false, Bool.not_eq_true, Classical.not_not, x_X1_removeAll]
  exact (h1 _).mpr ⟨rfl, rfl⟩
