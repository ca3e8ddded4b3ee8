/-! THE REFERENCE'S CALLS: undo, keep, restore, waves of a text, strike -/
theorem bm_wr_a {M : bb_M} {n : Nat} {g : Nat → Int32} : bb_wr M 21 0 0 n g = bm_a M (fun j => if j < n then g j else M 21 0 j) := by
  funext k i j
  unfold bb_wr bm_a
  by_cases q : k = 21 ∧ i = 0
  · obtain ⟨rfl, rfl⟩ := q
    rw [if_pos (And.intro rfl rfl : (21 : Nat) = 21 ∧ (0 : Nat) = 0)]
    show _ = if j < n then g j else M 21 0 j
    by_cases z : j < n
    · rw [if_pos ⟨rfl, rfl, by omega, by omega⟩, if_pos z, Nat.sub_zero]
    · rw [if_neg (by omega), if_neg z]
  · rw [if_neg (fun z => q ⟨z.1, z.2.1⟩), if_neg q]
theorem l_X7_undo {d h : Nat} {M : bb_M} {g : Nat → Int32} {R : bb_P} (h3 : M 7 0 3 = nI h) (hh : h ≤ 3) (hg : ∀ j, j < 311 → M 23 0 (311 * h + j) = g j) : ∀ (t n : Nat), n + t = 311 → (bb_Y (bb_CL d) cd_X7_undo R 23 [bb_R 7 0, bb_I (nI n)] [] (bb_wr M 21 0 0 n g) ↔ R (some (bb_I (nI h))) (bb_wr M 21 0 0 311 g)) := by
  intro t
  have k3 : ∀ n, bb_wr M 21 0 0 n g 7 0 3 = nI h := fun n => by rw [bb_wr_k (by decide)]; exact h3
  induction t with
  | zero =>
    intro n hn
    obtain rfl : n = 311 := by omega
    rw [h_X7_undo_23]
    simp (disch := omega) only [e_X7_undo_0, e_X7_undo_1, e_X7_undo_4, e_X7_undo_7, e_X7_undo_10, e_X7_undo_11, e_X7_undo_12, e_X7_undo_13, e_X7_undo_16, e_X7_undo_17, e_X7_undo_18, e_X7_undo_21, e_X7_undo_22, e_X7_undo_24, e_X7_undo_27, e_X7_undo_30, e_X7_undo_31, e_X7_undo_34, e_X7_undo_35, e_X7_undo_36, e_X7_undo_39, e_X7_undo_42, e_X7_undo_43, e_X7_undo_46, e_X7_undo_47, e_X7_undo_48, e_X7_undo_49, e_X7_undo_50, e_X7_undo_51, e_X7_undo_54, e_X7_undo_57, e_X7_undo_58, e_X7_undo_61, Option.toList_some, Option.toList_none, List.cons_append, List.nil_append, true_and, and_true, and_self, bb_ite, true_or, or_true, Option.some.injEq, bb_I_eq, bb_b_0e, bb_b_1e, bb_b_e0, bb_b_e1, decide_eq_true_eq, decide_eq_false_iff_not, bn_01, bn_11, bb_b_01, ne_eq, Bool.not_eq_false, Bool.not_eq_true, Classical.not_not, bn_lt, bn_le, bn_ti, Int32.reduceToInt, bn_m20, bn_20m, nI_add, bn_p1, bn_s1, bn_in, bn_cl, implies_true, not_true_eq_false, not_false_eq_true, Bool.true_and, Bool.false_and, Bool.and_true, Bool.and_false, Bool.true_or, Bool.false_or, Bool.or_true, Bool.or_false, Bool.not_true, Bool.not_false, false_implies, true_implies, forall_const, Bool.false_eq_true, Bool.true_eq_false, reduceCtorEq, eq_self, Bool.and_eq_true, Bool.or_eq_true, Bool.and_eq_false_iff, Bool.or_eq_false_iff, and_false, false_and, or_false, false_or, Int.cast_ofNat_Int, Int.le_refl, k3]
    try trivial
  | succ t ih =>
    intro n hn
    have l : ¬ (311 : Int) ≤ (n : Int) := by omega
    have kn : bb_wr M 21 0 0 n g 23 0 (311 * h + n) = g n := by rw [bb_wr_k (by decide)]; exact hg n (by omega)
    rw [h_X7_undo_23, ← ih (n + 1) (by omega)]
    simp (disch := omega) only [e_X7_undo_0, e_X7_undo_1, e_X7_undo_4, e_X7_undo_7, e_X7_undo_10, e_X7_undo_11, e_X7_undo_12, e_X7_undo_13, e_X7_undo_16, e_X7_undo_17, e_X7_undo_18, e_X7_undo_21, e_X7_undo_22, e_X7_undo_24, e_X7_undo_27, e_X7_undo_30, e_X7_undo_31, e_X7_undo_34, e_X7_undo_35, e_X7_undo_36, e_X7_undo_39, e_X7_undo_42, e_X7_undo_43, e_X7_undo_46, e_X7_undo_47, e_X7_undo_48, e_X7_undo_49, e_X7_undo_50, e_X7_undo_51, e_X7_undo_54, e_X7_undo_57, e_X7_undo_58, e_X7_undo_61, Option.toList_some, Option.toList_none, List.cons_append, List.nil_append, true_and, and_true, and_self, bb_ite, true_or, or_true, Option.some.injEq, bb_I_eq, bb_b_0e, bb_b_1e, bb_b_e0, bb_b_e1, decide_eq_true_eq, decide_eq_false_iff_not, bn_01, bn_11, bb_b_01, ne_eq, Bool.not_eq_false, Bool.not_eq_true, Classical.not_not, bn_lt, bn_le, bn_ti, Int32.reduceToInt, bn_m20, bn_20m, nI_add, bn_p1, bn_s1, bn_in, bn_cl, implies_true, not_true_eq_false, not_false_eq_true, Bool.true_and, Bool.false_and, Bool.and_true, Bool.and_false, Bool.true_or, Bool.false_or, Bool.or_true, Bool.or_false, Bool.not_true, Bool.not_false, false_implies, true_implies, forall_const, Bool.false_eq_true, Bool.true_eq_false, reduceCtorEq, eq_self, Bool.and_eq_true, Bool.or_eq_true, Bool.and_eq_false_iff, Bool.or_eq_false_iff, and_false, false_and, or_false, false_or, bm_m311, l, k3, kn, bb_wr_ext0]
    try exact Iff.rfl
theorem r_undo {d : Nat} {M : bb_M} {S : bs_S} (h : bm_MI M S) : bm_api d 67 [bb_R 7 0] M (sp_undo S) := by
  unfold sp_undo
  obtain ⟨h1, ⟨h2, h3, h4⟩, h5, h6, h7⟩ := h
  have h : bm_MI M S := ⟨h1, ⟨h2, h3, h4⟩, h5, h6, h7⟩
  by_cases q : S.hn = 0
  · rw [if_pos q]
    refine bm_no h (fun k => bb_cal (st_X7_undo ?_))
    have l : (nI 0 = 0) = True := eq_true rfl
    simp (disch := omega) only [e_X7_undo_0, e_X7_undo_1, e_X7_undo_4, e_X7_undo_7, e_X7_undo_10, e_X7_undo_11, e_X7_undo_12, e_X7_undo_13, e_X7_undo_16, e_X7_undo_17, e_X7_undo_18, e_X7_undo_21, e_X7_undo_22, e_X7_undo_24, e_X7_undo_27, e_X7_undo_30, e_X7_undo_31, e_X7_undo_34, e_X7_undo_35, e_X7_undo_36, e_X7_undo_39, e_X7_undo_42, e_X7_undo_43, e_X7_undo_46, e_X7_undo_47, e_X7_undo_48, e_X7_undo_49, e_X7_undo_50, e_X7_undo_51, e_X7_undo_54, e_X7_undo_57, e_X7_undo_58, e_X7_undo_61, Option.toList_some, Option.toList_none, List.cons_append, List.nil_append, true_and, and_true, and_self, bb_ite, true_or, or_true, Option.some.injEq, bb_I_eq, bb_b_0e, bb_b_1e, bb_b_e0, bb_b_e1, decide_eq_true_eq, decide_eq_false_iff_not, bn_01, bn_11, bb_b_01, ne_eq, Bool.not_eq_false, Bool.not_eq_true, Classical.not_not, h3, q, l, bm_10, if_true, if_false, implies_true, not_true_eq_false, not_false_eq_true, Bool.true_and, Bool.false_and, Bool.and_true, Bool.and_false, Bool.true_or, Bool.false_or, Bool.or_true, Bool.or_false, Bool.not_true, Bool.not_false, false_implies, true_implies, forall_const, Bool.false_eq_true, Bool.true_eq_false, reduceCtorEq, eq_self, and_false, false_and, or_false, false_or]
    try trivial
  · rw [if_neg q]
    obtain ⟨n, hn⟩ : ∃ n, S.hn = n + 1 := ⟨S.hn - 1, by omega⟩
    rw [hn] at h2 h3 h4
    rw [hn, Nat.add_sub_cancel]
    have l : ¬ nI (n + 1) = 0 := fun z => by
      rw [bn_nI0 (by omega)] at z
      omega
    have e1 : nI (n + 1) - 1 = nI n := by
      rw [bn_s1 (by omega)]
      rfl
    have u : ∀ k i j, ¬ (k = 7 ∧ j = 3) → bb_up M 7 0 3 (nI n) k i j = M k i j := fun k i j z => by
      unfold bb_up
      rw [if_neg (by omega)]
    have L := fun R => l_X7_undo (d := d + 8) (R := R) (g := S.hs n) (bb_up_at (M := M) (k := 7) (i := 0) (j := 3) (v := nI n)) (by omega) (fun j hj => by rw [bb_up_k (by decide)]; exact h4 n (by omega) j hj) 311 0 rfl
    simp only [bb_wr_nil] at L
    have n0 : nI 0 = 0 := rfl
    simp only [n0] at L
    have f : ∀ k i j, ¬ (k = 7 ∧ j = 3) → k ≠ 21 → bb_wr (bb_up M 7 0 3 (nI n)) 21 0 0 311 (S.hs n) k i j = M k i j := fun k i j z1 z2 => by rw [bb_wr_k z2, u k i j z1]
    refine ⟨bb_wr (bb_up M 7 0 3 (nI n)) 21 0 0 311 (S.hs n), fun k => bb_cal (st_X7_undo ?_), ⟨fun j hj => bb_wr_in0 hj, ⟨by show n ≤ 4; omega, by rw [bb_wr_k (by decide), bb_up_at], fun j hj k hk => ?_⟩, ⟨?_, fun z k hk => ?_⟩, ⟨⟨?_, fun j hj => ?_⟩, h6.2⟩, ?_⟩, fun k i j z => f k i j (by omega) (by omega)⟩
    · simp (disch := omega) only [e_X7_undo_0, e_X7_undo_1, e_X7_undo_4, e_X7_undo_11, e_X7_undo_12, e_X7_undo_13, e_X7_undo_16, e_X7_undo_17, e_X7_undo_18, e_X7_undo_21, e_X7_undo_22, Option.toList_some, Option.toList_none, List.cons_append, List.nil_append, true_and, and_true, and_self, bb_ite, true_or, or_true, Option.some.injEq, bb_I_eq, bb_b_0e, bb_b_1e, bb_b_e0, bb_b_e1, decide_eq_true_eq, decide_eq_false_iff_not, bn_01, bn_11, bb_b_01, ne_eq, Bool.not_eq_false, Bool.not_eq_true, Classical.not_not, h3, l, e1, L, bm_10, if_true, if_false, implies_true, not_true_eq_false, not_false_eq_true, Bool.true_and, Bool.false_and, Bool.and_true, Bool.and_false, Bool.true_or, Bool.false_or, Bool.or_true, Bool.or_false, Bool.not_true, Bool.not_false, false_implies, true_implies, forall_const, Bool.false_eq_true, Bool.true_eq_false, reduceCtorEq, eq_self, and_false, false_and, or_false, false_or]
      try trivial
    · have hj' : j < n := hj
      rw [f _ _ _ (by omega) (by decide)]; exact h4 j (by omega) k hk
    · rw [f _ _ _ (by omega) (by decide)]; exact h5.1
    · rw [f _ _ _ (by omega) (by decide)]; exact h5.2 z k hk
    · rw [f _ _ _ (by omega) (by decide)]; exact h6.1.1
    · rw [f _ _ _ (by omega) (by decide)]; exact h6.1.2 j hj
    · rw [f _ _ _ (by omega) (by decide)]; exact h7
theorem l_X7_keep {d : Nat} {M : bb_M} {R : bb_P} : ∀ (t n : Nat), n + t = 311 → (bb_Y (bb_CL d) cd_X7_keep R 2 [bb_R 7 0, bb_I (nI n)] [] (bb_wr M 24 0 0 n (M 21 0)) ↔ bb_Y (bb_CL d) cd_X7_keep R 27 [bb_R 7 0, bb_I (nI 311)] [] (bb_wr M 24 0 0 311 (M 21 0))) := by
  intro t
  induction t with
  | zero =>
    intro n hn
    obtain rfl : n = 311 := by omega
    rw [h_X7_keep_2]
    simp (disch := omega) only [e_X7_keep_3, e_X7_keep_6, Option.toList_some, Option.toList_none, List.cons_append, List.nil_append, true_and, and_true, and_self, bb_ite, true_or, or_true, Option.some.injEq, bb_I_eq, bb_b_0e, bb_b_1e, bb_b_e0, bb_b_e1, decide_eq_true_eq, decide_eq_false_iff_not, bn_01, bn_11, bb_b_01, ne_eq, Bool.not_eq_false, Bool.not_eq_true, Classical.not_not, bn_lt, bn_le, bn_ti, Int32.reduceToInt, bn_m20, bn_20m, nI_add, bn_p1, bn_s1, bn_in, bn_cl, implies_true, not_true_eq_false, not_false_eq_true, Bool.true_and, Bool.false_and, Bool.and_true, Bool.and_false, Bool.true_or, Bool.false_or, Bool.or_true, Bool.or_false, Bool.not_true, Bool.not_false, false_implies, true_implies, forall_const, Bool.false_eq_true, Bool.true_eq_false, reduceCtorEq, eq_self, Bool.and_eq_true, Bool.or_eq_true, Bool.and_eq_false_iff, Bool.or_eq_false_iff, and_false, false_and, or_false, false_or, Int.cast_ofNat_Int, Int.le_refl]
    try exact Iff.rfl
  | succ t ih =>
    intro n hn
    have l : ¬ (311 : Int) ≤ (n : Int) := by omega
    have kn : bb_wr M 24 0 0 n (M 21 0) 21 0 n = M 21 0 n := bb_wr_k (by decide)
    rw [h_X7_keep_2, ← ih (n + 1) (by omega)]
    simp (disch := omega) only [e_X7_keep_0, e_X7_keep_1, e_X7_keep_3, e_X7_keep_6, e_X7_keep_9, e_X7_keep_10, e_X7_keep_13, e_X7_keep_14, e_X7_keep_15, e_X7_keep_18, e_X7_keep_19, e_X7_keep_20, e_X7_keep_21, e_X7_keep_24, e_X7_keep_27, e_X7_keep_28, e_X7_keep_29, e_X7_keep_32, e_X7_keep_33, e_X7_keep_34, e_X7_keep_36, e_X7_keep_39, Option.toList_some, Option.toList_none, List.cons_append, List.nil_append, true_and, and_true, and_self, bb_ite, true_or, or_true, Option.some.injEq, bb_I_eq, bb_b_0e, bb_b_1e, bb_b_e0, bb_b_e1, decide_eq_true_eq, decide_eq_false_iff_not, bn_01, bn_11, bb_b_01, ne_eq, Bool.not_eq_false, Bool.not_eq_true, Classical.not_not, bn_lt, bn_le, bn_ti, Int32.reduceToInt, bn_m20, bn_20m, nI_add, bn_p1, bn_s1, bn_in, bn_cl, implies_true, not_true_eq_false, not_false_eq_true, Bool.true_and, Bool.false_and, Bool.and_true, Bool.and_false, Bool.true_or, Bool.false_or, Bool.or_true, Bool.or_false, Bool.not_true, Bool.not_false, false_implies, true_implies, forall_const, Bool.false_eq_true, Bool.true_eq_false, reduceCtorEq, eq_self, Bool.and_eq_true, Bool.or_eq_true, Bool.and_eq_false_iff, Bool.or_eq_false_iff, and_false, false_and, or_false, false_or, l, kn, bb_wr_ext0]
    try exact Iff.rfl
theorem r_keep {d : Nat} {M : bb_M} {S : bs_S} (h : bm_MI M S) (ha : M 21 0 = S.a) : bm_api d 69 [bb_R 7 0] M (sp_keep S) := by
  unfold sp_keep
  obtain ⟨h1, ⟨h2, h3, h4⟩, h5, h6, h7⟩ := h
  have L := fun R => l_X7_keep (d := d + 8) (M := M) (R := R) 311 0 rfl
  simp only [bb_wr_nil] at L
  have n0 : nI 0 = 0 := rfl
  simp only [n0] at L
  have f : ∀ k i j, ¬ (k = 7 ∧ j = 5) → k ≠ 24 → bb_up (bb_wr M 24 0 0 311 (M 21 0)) 7 0 5 1 k i j = M k i j := fun k i j z1 z2 => by
    unfold bb_up
    rw [if_neg (by omega), bb_wr_k z2]
  have g21 : bb_up (bb_wr M 24 0 0 311 (M 21 0)) 7 0 5 1 21 0 = S.a := by
    rw [← ha]
    funext j
    exact f _ _ _ (by omega) (by decide)
  have es := fun k => x_X7_sandOf (d := d + 6) (a := 0) (b := 19) (M := bb_up (bb_wr M 24 0 0 311 (M 21 0)) 7 0 5 1) (k := k) (by decide) (by decide)
  rw [g21] at es
  have es' : ∀ k : Option bb_V → bb_M → Prop, bb_call (bb_CL (d + 8)) 68 [bb_R 7 0, bb_I 0, bb_I 19] (bb_up (bb_wr M 24 0 0 311 (M 21 0)) 7 0 5 1) k ↔ k (some (bb_I (bf_sr S.a 0 20 4))) (bb_up (bb_wr M 24 0 0 311 (M 21 0)) 7 0 5 1) := es
  refine ⟨bb_up (bb_wr M 24 0 0 311 (M 21 0)) 7 0 5 1, fun k => bb_cal (st_X7_keep ?_), ⟨fun j hj => by rw [g21], ⟨h2, ?_, fun j hj k hk => ?_⟩, ⟨by rw [bb_up_at]; rfl, fun _ k hk => ?_⟩, ⟨⟨?_, fun j hj => ?_⟩, h6.2⟩, ?_⟩, fun k i j z => f k i j (by omega) (by omega)⟩
  · simp (disch := omega) only [e_X7_keep_0, e_X7_keep_1, L, e_X7_keep_27, e_X7_keep_28, e_X7_keep_29, e_X7_keep_32, e_X7_keep_33, e_X7_keep_34, e_X7_keep_36, e_X7_keep_39, Option.toList_some, Option.toList_none, List.cons_append, List.nil_append, true_and, and_true, and_self, bb_ite, true_or, or_true, Option.some.injEq, bb_I_eq, bb_b_0e, bb_b_1e, bb_b_e0, bb_b_e1, decide_eq_true_eq, decide_eq_false_iff_not, bn_01, bn_11, bb_b_01, ne_eq, Bool.not_eq_false, Bool.not_eq_true, Classical.not_not, es', bm_10, if_true, if_false, implies_true, not_true_eq_false, not_false_eq_true, Bool.true_and, Bool.false_and, Bool.and_true, Bool.and_false, Bool.true_or, Bool.false_or, Bool.or_true, Bool.or_false, Bool.not_true, Bool.not_false, false_implies, true_implies, forall_const, Bool.false_eq_true, Bool.true_eq_false, reduceCtorEq, eq_self, and_false, false_and, or_false, false_or]
    try trivial
  · rw [f _ _ _ (by omega) (by decide)]; exact h3
  · rw [f _ _ _ (by omega) (by decide)]; exact h4 j hj k hk
  · rw [bb_up_k (by decide), bb_wr_in0 hk, ha]
  · rw [f _ _ _ (by omega) (by decide)]; exact h6.1.1
  · rw [f _ _ _ (by omega) (by decide)]; exact h6.1.2 j hj
  · rw [f _ _ _ (by omega) (by decide)]; exact h7
theorem l_X7_restore {d : Nat} {M : bb_M} {g : Nat → Int32} {R : bb_P} (hg : ∀ j, j < 311 → M 24 0 j = g j) : ∀ (t n : Nat), n + t = 311 → (bb_Y (bb_CL d) cd_X7_restore R 17 [bb_R 7 0, bb_I (nI n)] [] (bb_wr M 21 0 0 n g) ↔ bb_Y (bb_CL d) cd_X7_restore R 42 [bb_R 7 0, bb_I (nI 311)] [] (bb_wr M 21 0 0 311 g)) := by
  intro t
  induction t with
  | zero =>
    intro n hn
    obtain rfl : n = 311 := by omega
    rw [h_X7_restore_17]
    simp (disch := omega) only [e_X7_restore_18, e_X7_restore_21, Option.toList_some, Option.toList_none, List.cons_append, List.nil_append, true_and, and_true, and_self, bb_ite, true_or, or_true, Option.some.injEq, bb_I_eq, bb_b_0e, bb_b_1e, bb_b_e0, bb_b_e1, decide_eq_true_eq, decide_eq_false_iff_not, bn_01, bn_11, bb_b_01, ne_eq, Bool.not_eq_false, Bool.not_eq_true, Classical.not_not, bn_lt, bn_le, bn_ti, Int32.reduceToInt, bn_m20, bn_20m, nI_add, bn_p1, bn_s1, bn_in, bn_cl, implies_true, not_true_eq_false, not_false_eq_true, Bool.true_and, Bool.false_and, Bool.and_true, Bool.and_false, Bool.true_or, Bool.false_or, Bool.or_true, Bool.or_false, Bool.not_true, Bool.not_false, false_implies, true_implies, forall_const, Bool.false_eq_true, Bool.true_eq_false, reduceCtorEq, eq_self, Bool.and_eq_true, Bool.or_eq_true, Bool.and_eq_false_iff, Bool.or_eq_false_iff, and_false, false_and, or_false, false_or, Int.cast_ofNat_Int, Int.le_refl]
    try exact Iff.rfl
  | succ t ih =>
    intro n hn
    have l : ¬ (311 : Int) ≤ (n : Int) := by omega
    have kn : bb_wr M 21 0 0 n g 24 0 n = g n := by rw [bb_wr_k (by decide)]; exact hg n (by omega)
    rw [h_X7_restore_17, ← ih (n + 1) (by omega)]
    simp (disch := omega) only [e_X7_restore_0, e_X7_restore_1, e_X7_restore_4, e_X7_restore_7, e_X7_restore_10, e_X7_restore_11, e_X7_restore_12, e_X7_restore_15, e_X7_restore_16, e_X7_restore_18, e_X7_restore_21, e_X7_restore_24, e_X7_restore_25, e_X7_restore_28, e_X7_restore_29, e_X7_restore_30, e_X7_restore_33, e_X7_restore_34, e_X7_restore_35, e_X7_restore_36, e_X7_restore_39, e_X7_restore_42, e_X7_restore_43, e_X7_restore_44, e_X7_restore_45, e_X7_restore_47, e_X7_restore_50, e_X7_restore_53, Option.toList_some, Option.toList_none, List.cons_append, List.nil_append, true_and, and_true, and_self, bb_ite, true_or, or_true, Option.some.injEq, bb_I_eq, bb_b_0e, bb_b_1e, bb_b_e0, bb_b_e1, decide_eq_true_eq, decide_eq_false_iff_not, bn_01, bn_11, bb_b_01, ne_eq, Bool.not_eq_false, Bool.not_eq_true, Classical.not_not, bn_lt, bn_le, bn_ti, Int32.reduceToInt, bn_m20, bn_20m, nI_add, bn_p1, bn_s1, bn_in, bn_cl, implies_true, not_true_eq_false, not_false_eq_true, Bool.true_and, Bool.false_and, Bool.and_true, Bool.and_false, Bool.true_or, Bool.false_or, Bool.or_true, Bool.or_false, Bool.not_true, Bool.not_false, false_implies, true_implies, forall_const, Bool.false_eq_true, Bool.true_eq_false, reduceCtorEq, eq_self, Bool.and_eq_true, Bool.or_eq_true, Bool.and_eq_false_iff, Bool.or_eq_false_iff, and_false, false_and, or_false, false_or, l, kn, bb_wr_ext0]
    try exact Iff.rfl
theorem r_restore {d : Nat} {M : bb_M} {S : bs_S} (h : bm_MI M S) (ha : M 21 0 = S.a) : bm_api d 70 [bb_R 7 0] M (sp_restore S) := by
  unfold sp_restore
  by_cases q : S.sT = true
  · rw [if_pos q]
    have t : M 7 0 5 = 1 := by rw [h.2.2.1.1, q]; rfl
    obtain ⟨M1, e1, es, k1, f1, g1, fin⟩ := bm_rem (d := d + 7) h ha
    rw [es] at e1
    have L := fun R => l_X7_restore (d := d + 8) (M := M1) (g := S.sn) (R := R) (fun j hj => by rw [g1 _ _ _ (by decide)]; exact h.2.2.1.2 q j hj) 311 0 rfl
    simp only [bb_wr_nil] at L
    have n0 : nI 0 = 0 := rfl
    simp only [n0] at L
    have es := fun k => x_X7_sandOf (d := d + 6) (a := 0) (b := 19) (M := bb_wr M1 21 0 0 311 S.sn) (k := k) (by decide) (by decide)
    rw [bf_sr_eq (b := 0) (n := 20) (h := bb_wr M1 21 0 0 311 S.sn 21 0) (h' := S.sn) (fun j hj => bb_wr_in0 (by omega)) (by decide) 4 (Nat.le_refl _)] at es
    have es' : ∀ k : Option bb_V → bb_M → Prop, bb_call (bb_CL (d + 8)) 68 [bb_R 7 0, bb_I 0, bb_I 19] (bb_wr M1 21 0 0 311 S.sn) k ↔ k (some (bb_I (bf_sr S.sn 0 20 4))) (bb_wr M1 21 0 0 311 S.sn) := es
    obtain ⟨M', x1, x2, x3⟩ := fin (bb_wr M1 21 0 0 311 S.sn) S.sn (bf_sr S.sn 0 20 4) (bm_wf_tr f1 (by rw [bm_wr_a]; exact bm_wf_a)) (fun j hj => bb_wr_k (by decide)) (fun j hj => bb_wr_in0 hj)
    refine ⟨M', fun k => bb_cal (st_X7_restore ?_), x2, x3⟩
    simp (disch := omega) only [e_X7_restore_0, e_X7_restore_1, e_X7_restore_4, e_X7_restore_11, e_X7_restore_12, e_X7_restore_15, e_X7_restore_16, L, e_X7_restore_42, e_X7_restore_43, e_X7_restore_44, e_X7_restore_45, e_X7_restore_47, e_X7_restore_50, e_X7_restore_53, Option.toList_some, Option.toList_none, List.cons_append, List.nil_append, true_and, and_true, and_self, bb_ite, true_or, or_true, Option.some.injEq, bb_I_eq, bb_b_0e, bb_b_1e, bb_b_e0, bb_b_e1, decide_eq_true_eq, decide_eq_false_iff_not, bn_01, bn_11, bb_b_01, ne_eq, Bool.not_eq_false, Bool.not_eq_true, Classical.not_not, t, e1, es', x1, bm_10, if_true, if_false, implies_true, not_true_eq_false, not_false_eq_true, Bool.true_and, Bool.false_and, Bool.and_true, Bool.and_false, Bool.true_or, Bool.false_or, Bool.or_true, Bool.or_false, Bool.not_true, Bool.not_false, false_implies, true_implies, forall_const, Bool.false_eq_true, Bool.true_eq_false, reduceCtorEq, eq_self, and_false, false_and, or_false, false_or]
    try trivial
  · rw [if_neg q]
    rw [Bool.not_eq_true] at q
    have t : M 7 0 5 = 0 := by rw [h.2.2.1.1, q]; rfl
    refine bm_no h (fun k => bb_cal (st_X7_restore ?_))
    simp (disch := omega) only [e_X7_restore_0, e_X7_restore_1, e_X7_restore_4, e_X7_restore_7, e_X7_restore_10, e_X7_restore_11, e_X7_restore_12, e_X7_restore_15, e_X7_restore_16, e_X7_restore_18, e_X7_restore_21, e_X7_restore_24, e_X7_restore_25, e_X7_restore_28, e_X7_restore_29, e_X7_restore_30, e_X7_restore_33, e_X7_restore_34, e_X7_restore_35, e_X7_restore_36, e_X7_restore_39, e_X7_restore_42, e_X7_restore_43, e_X7_restore_44, e_X7_restore_45, e_X7_restore_47, e_X7_restore_50, e_X7_restore_53, Option.toList_some, Option.toList_none, List.cons_append, List.nil_append, true_and, and_true, and_self, bb_ite, true_or, or_true, Option.some.injEq, bb_I_eq, bb_b_0e, bb_b_1e, bb_b_e0, bb_b_e1, decide_eq_true_eq, decide_eq_false_iff_not, bn_01, bn_11, bb_b_01, ne_eq, Bool.not_eq_false, Bool.not_eq_true, Classical.not_not, t, bm_10, if_true, if_false, implies_true, not_true_eq_false, not_false_eq_true, Bool.true_and, Bool.false_and, Bool.and_true, Bool.and_false, Bool.true_or, Bool.false_or, Bool.or_true, Bool.or_false, Bool.not_true, Bool.not_false, false_implies, true_implies, forall_const, Bool.false_eq_true, Bool.true_eq_false, reduceCtorEq, eq_self, and_false, false_and, or_false, false_or]
    try trivial
theorem r_waveAll {d : Nat} {M : bb_M} {S : bs_S} (h : bm_MI M S) (ha : M 21 0 = S.a) (hi : bs_inv S.a) : bm_api d 66 [bb_R 7 0] M (sp_waveAll S) := by
  unfold sp_waveAll
  obtain ⟨hT, htl⟩ := h.2.2.2.1
  obtain ⟨M1, res, e1, y1⟩ := x_X7_fault (d := d + 3) htl hT
  have hsz := hi.2.2.2.2.2.2.1
  cases hall : bt_all S.tx S.tl 61 0 with
  | inl e =>
    rw [hall] at y1
    obtain ⟨rfl, hf⟩ := y1
    have he := bt_all_e htl 61 0 e (Nat.zero_le _) hall
    have l : ¬ nI e = -1005 := fun z => by
      rw [bn_eq, bn_ti (by omega)] at z
      have : (-1005 : Int32).toInt = -1005 := rfl
      omega
    refine ⟨M1, fun k => bb_cal (st_X7_waveAll ?_), bm_MI_wf h (bm_wf_tf hf) (fun j hj => by rw [hf _ _ _ (by omega) (by omega)]; exact h.1 j hj), bm_wf_cls (bm_wf_tf hf)⟩
    simp (disch := omega) only [e_X7_waveAll_0, e_X7_waveAll_1, e_X7_waveAll_4, e_X7_waveAll_5, e_X7_waveAll_6, e_X7_waveAll_9, e_X7_waveAll_12, e_X7_waveAll_15, e_X7_waveAll_16, e_X7_waveAll_17, e_X7_waveAll_18, e_X7_waveAll_19, e_X7_waveAll_22, e_X7_waveAll_24, e_X7_waveAll_25, e_X7_waveAll_26, e_X7_waveAll_29, e_X7_waveAll_30, e_X7_waveAll_32, e_X7_waveAll_35, e_X7_waveAll_38, e_X7_waveAll_39, e_X7_waveAll_40, e_X7_waveAll_43, e_X7_waveAll_44, e_X7_waveAll_46, e_X7_waveAll_47, e_X7_waveAll_48, e_X7_waveAll_51, e_X7_waveAll_52, e_X7_waveAll_55, e_X7_waveAll_56, e_X7_waveAll_58, e_X7_waveAll_59, e_X7_waveAll_62, e_X7_waveAll_63, e_X7_waveAll_64, e_X7_waveAll_65, e_X7_waveAll_66, e_X7_waveAll_69, e_X7_waveAll_70, e_X7_waveAll_71, e_X7_waveAll_74, e_X7_waveAll_75, e_X7_waveAll_76, e_X7_waveAll_77, e_X7_waveAll_80, e_X7_waveAll_81, e_X7_waveAll_82, e_X7_waveAll_83, e_X7_waveAll_84, e_X7_waveAll_87, e_X7_waveAll_90, e_X7_waveAll_93, e_X7_waveAll_96, e_X7_waveAll_99, e_X7_waveAll_100, e_X7_waveAll_101, e_X7_waveAll_104, e_X7_waveAll_107, Option.toList_some, Option.toList_none, List.cons_append, List.nil_append, true_and, and_true, and_self, bb_ite, true_or, or_true, Option.some.injEq, bb_I_eq, bb_b_0e, bb_b_1e, bb_b_e0, bb_b_e1, decide_eq_true_eq, decide_eq_false_iff_not, bn_01, bn_11, bb_b_01, ne_eq, Bool.not_eq_false, Bool.not_eq_true, Classical.not_not, e1, l, bm_10, if_true, if_false, implies_true, not_true_eq_false, not_false_eq_true, Bool.true_and, Bool.false_and, Bool.and_true, Bool.and_false, Bool.true_or, Bool.false_or, Bool.or_true, Bool.or_false, Bool.not_true, Bool.not_false, false_implies, true_implies, forall_const, Bool.false_eq_true, Bool.true_eq_false, reduceCtorEq, eq_self, and_false, false_and, or_false, false_or]
    try trivial
  | inr L =>
    rw [hall] at y1
    obtain ⟨rfl, hf, h14, h15, hL, -, hlen⟩ := y1
    obtain ⟨g1, g2⟩ := bt_all_g 61 0 L hall
    obtain ⟨g3, g4⟩ := bt_ex_g L g2
    simp only [Nat.zero_add] at h14 h15 hL hlen
    have m1 : bm_MI M1 S := bm_MI_wf h (bm_wf_tf hf) (fun j hj => by rw [hf _ _ _ (by omega) (by omega)]; exact h.1 j hj)
    have ha1 : M1 21 0 = S.a := by
      rw [← ha]
      funext j
      exact hf _ _ _ (by omega) (by omega)
    have e85 : M1 21 0 85 = nI (bs_sz S.a) := by rw [ha1]; exact hsz.2
    have c24 : (24 : Int32).toInt = 24 := rfl
    show bm_api d _ _ M (if 24 < bs_sz S.a + (bt_ex L).length then (-1003, S) else (nI (bt_ex L).length, bs_act S (sp_puts S.a (bt_ex L))))
    by_cases q : 24 < bs_sz S.a + (bt_ex L).length
    · rw [if_pos q]
      have l : ¬ ((bs_sz S.a + (bt_ex L).length : Nat) : Int) ≤ 24 := by omega
      refine ⟨M1, fun k => bb_cal (st_X7_waveAll ?_), m1, bm_wf_cls (bm_wf_tf hf)⟩
      simp (disch := omega) only [e_X7_waveAll_0, e_X7_waveAll_1, e_X7_waveAll_4, e_X7_waveAll_5, e_X7_waveAll_6, e_X7_waveAll_9, e_X7_waveAll_12, e_X7_waveAll_15, e_X7_waveAll_16, e_X7_waveAll_17, e_X7_waveAll_18, e_X7_waveAll_19, e_X7_waveAll_22, e_X7_waveAll_24, e_X7_waveAll_25, e_X7_waveAll_26, e_X7_waveAll_29, e_X7_waveAll_30, e_X7_waveAll_32, e_X7_waveAll_35, e_X7_waveAll_38, e_X7_waveAll_39, e_X7_waveAll_40, e_X7_waveAll_43, e_X7_waveAll_44, e_X7_waveAll_46, e_X7_waveAll_47, e_X7_waveAll_48, e_X7_waveAll_51, e_X7_waveAll_52, e_X7_waveAll_55, e_X7_waveAll_56, e_X7_waveAll_58, e_X7_waveAll_59, e_X7_waveAll_62, e_X7_waveAll_63, e_X7_waveAll_64, e_X7_waveAll_65, e_X7_waveAll_66, e_X7_waveAll_69, e_X7_waveAll_70, e_X7_waveAll_71, e_X7_waveAll_74, e_X7_waveAll_75, e_X7_waveAll_76, e_X7_waveAll_77, e_X7_waveAll_80, e_X7_waveAll_81, e_X7_waveAll_82, e_X7_waveAll_83, e_X7_waveAll_84, e_X7_waveAll_87, e_X7_waveAll_90, e_X7_waveAll_93, e_X7_waveAll_96, e_X7_waveAll_99, e_X7_waveAll_100, e_X7_waveAll_101, e_X7_waveAll_104, e_X7_waveAll_107, Option.toList_some, Option.toList_none, List.cons_append, List.nil_append, true_and, and_true, and_self, bb_ite, true_or, or_true, Option.some.injEq, bb_I_eq, bb_b_0e, bb_b_1e, bb_b_e0, bb_b_e1, decide_eq_true_eq, decide_eq_false_iff_not, bn_01, bn_11, bb_b_01, ne_eq, Bool.not_eq_false, Bool.not_eq_true, Classical.not_not, e1, bm_v85, Int32.reduceToNatClampNeg, e85, h15, nI_add, bn_le, bn_ti, c24, l, bm_10, if_true, if_false, implies_true, not_true_eq_false, not_false_eq_true, Bool.true_and, Bool.false_and, Bool.and_true, Bool.and_false, Bool.true_or, Bool.false_or, Bool.or_true, Bool.or_false, Bool.not_true, Bool.not_false, false_implies, true_implies, forall_const, Bool.false_eq_true, Bool.true_eq_false, reduceCtorEq, eq_self, and_false, false_and, or_false, false_or]
      try trivial
    · rw [if_neg q]
      have l : ((bs_sz S.a + (bt_ex L).length : Nat) : Int) ≤ 24 := by omega
      obtain ⟨M2, e2, es, k2, f2, p2, fin⟩ := bm_rem (d := d + 7) m1 ha1
      obtain ⟨M', x1, x2, x3⟩ := fin (bm_a M2 (sp_puts S.a (bt_ex L))) (sp_puts S.a (bt_ex L)) (nI (bt_ex L).length) (bm_wf_tr f2 bm_wf_a) (fun j hj => bm_a_k (by decide)) (fun j hj => bm_a_v)
      obtain ⟨z', L2⟩ := l_X7_wa2 (d := d + 7) (G := L.length) (M := M2) (w1 := bb_I (-1005)) (R := fun r' M'' => r' = some (bb_I (nI (bt_ex L).length)) ∧ M'' = M') hlen (by rw [p2 _ _ _ (by decide)]; exact h14) L 0 S.a bb_U (Nat.zero_add _) (fun j g hj => by
        rw [Nat.zero_add, p2 _ _ _ (by decide), p2 _ _ _ (by decide), p2 _ _ _ (by decide)]
        exact ⟨hL j g hj, (g2 g (List.mem_of_getElem? hj)).2.2⟩) hsz.2 (by omega)
      have n0 : nI (3 * 0) = 0 := rfl
      rw [n0] at L2
      have h15' : ∀ f, bm_a M2 f 7 0 15 = nI (bt_ex L).length := fun f => by rw [bm_a_k (by decide), p2 _ _ _ (by decide)]; exact h15
      refine ⟨M', fun k => bb_cal (st_X7_waveAll ?_), x2, bm_cls_tr (bm_wf_cls (bm_wf_tf hf)) x3⟩
      simp (disch := omega) only [e_X7_waveAll_0, e_X7_waveAll_1, e_X7_waveAll_4, e_X7_waveAll_5, e_X7_waveAll_6, e_X7_waveAll_9, e_X7_waveAll_18, e_X7_waveAll_19, e_X7_waveAll_22, e_X7_waveAll_24, e_X7_waveAll_25, e_X7_waveAll_26, e_X7_waveAll_29, e_X7_waveAll_30, e_X7_waveAll_32, e_X7_waveAll_39, e_X7_waveAll_40, e_X7_waveAll_43, e_X7_waveAll_44, Option.toList_some, Option.toList_none, List.cons_append, List.nil_append, true_and, and_true, and_self, bb_ite, true_or, or_true, Option.some.injEq, bb_I_eq, bb_b_0e, bb_b_1e, bb_b_e0, bb_b_e1, decide_eq_true_eq, decide_eq_false_iff_not, bn_01, bn_11, bb_b_01, ne_eq, Bool.not_eq_false, Bool.not_eq_true, Classical.not_not, e1, bm_v85, Int32.reduceToNatClampNeg, e85, h15, nI_add, bn_le, bn_ti, c24, l, e2, L2, e_X7_waveAll_99, e_X7_waveAll_100, e_X7_waveAll_101, e_X7_waveAll_104, e_X7_waveAll_107, h15', x1, bm_10, if_true, if_false, implies_true, not_true_eq_false, not_false_eq_true, Bool.true_and, Bool.false_and, Bool.and_true, Bool.and_false, Bool.true_or, Bool.false_or, Bool.or_true, Bool.or_false, Bool.not_true, Bool.not_false, false_implies, true_implies, forall_const, Bool.false_eq_true, Bool.true_eq_false, reduceCtorEq, eq_self, and_false, false_and, or_false, false_or]
      try trivial
