/-! THE REFERENCE: signs of a text -/
def bm_TX (tx : Nat → Int32) (tl : Nat) (M : bb_M) : Prop := M 7 0 11 = nI tl ∧ ∀ j, j < tl → M 28 0 j = tx j
def bm_tf (M M' : bb_M) : Prop := ∀ k i j, ¬ (k = 7 ∧ i = 0 ∧ (j = 12 ∨ j = 14 ∨ j = 15)) → ¬ (k = 29 ∧ i = 0) → M' k i j = M k i j
theorem bm_tf_rf (M : bb_M) : bm_tf M M := fun _ _ _ _ _ => rfl
theorem bm_tf_tr {M M1 M2 : bb_M} (h1 : bm_tf M M1) (h2 : bm_tf M1 M2) : bm_tf M M2 := fun k i j a b => (h2 k i j a b).trans (h1 k i j a b)
theorem bm_TX_fr {tx : Nat → Int32} {tl : Nat} {M M' : bb_M} (h : bm_TX tx tl M) (hf : bm_tf M M') : bm_TX tx tl M' :=
  ⟨by rw [hf 7 0 11 (by omega) (by omega)]; exact h.1, fun j hj => by rw [hf 28 0 j (by omega) (by omega)]; exact h.2 j hj⟩
/-- reading stands at p, behind g groups and w waves -/
def bm_TT (tx : Nat → Int32) (tl p g w : Nat) (M : bb_M) : Prop := bm_TX tx tl M ∧ M 7 0 12 = nI p ∧ M 7 0 14 = nI g ∧ M 7 0 15 = nI w
theorem bm_10 : ((1 : Int32) = 0) = False := by decide
theorem bm_p2 (n : Nat) : nI n + 2 = nI (n + 2) := by rw [show (2 : Int32) = nI 2 from rfl, nI_add]
theorem bb_up_self {M : bb_M} {k i j : Nat} {v : Int32} (h : M k i j = v) : bb_up M k i j v = M := by
  funext k' i' j'
  unfold bb_up
  by_cases q : k' = k ∧ i' = i ∧ j' = j
  · obtain ⟨rfl, rfl, rfl⟩ := q
    rw [if_pos ⟨rfl, rfl, rfl⟩, h]
  · rw [if_neg q]
section TX
variable {d p tl g w : Nat} {tx : Nat → Int32} {M : bb_M} {lo hi c x : Int32} {k : Option bb_V → bb_M → Prop}
theorem x_X7_isHere (hT : bm_TT tx tl p g w M) (htl : tl ≤ 60) (hp : p ≤ tl) : bb_call (bb_CL (d + 2)) 61 [bb_R 7 0, bb_I lo, bb_I hi] M k ↔ k (some (bb_I (bb_b (bt_d tx tl p lo.toInt hi.toInt)))) M := by
  refine bb_cal (st_X7_isHere ?_)
  obtain ⟨⟨t1, t2⟩, t3, -, -⟩ := hT
  by_cases q : p < tl
  · have l : ¬ (tl : Int) ≤ (p : Int) := by omega
    have e := fun k => x_in (d := d) (x := tx p) (L := lo.toInt64) (H := hi.toInt64) (M := M) (k := k)
    simp only [Int32.toInt_toInt64] at e
    have ed : bt_d tx tl p lo.toInt hi.toInt = bv (tx p) lo.toInt hi.toInt := by
      unfold bt_d bv
      simp only [q, true_and]
    rw [ed]
    have t4 := t2 p q
    simp (disch := omega) only [e_X7_isHere_0, e_X7_isHere_1, e_X7_isHere_4, e_X7_isHere_5, e_X7_isHere_8, e_X7_isHere_11, e_X7_isHere_12, e_X7_isHere_15, e_X7_isHere_16, e_X7_isHere_19, e_X7_isHere_20, e_X7_isHere_21, e_X7_isHere_22, e_X7_isHere_23, e_X7_isHere_24, e_X7_isHere_25, e_X7_isHere_28, e_X7_isHere_31, e_X7_isHere_32, e_X7_isHere_35, e_X7_isHere_36, Option.toList_some, Option.toList_none, List.cons_append, List.nil_append, true_and, and_true, and_self, bb_ite, true_or, or_true, Option.some.injEq, bb_I_eq, bb_b_0e, bb_b_1e, bb_b_e0, bb_b_e1, decide_eq_true_eq, decide_eq_false_iff_not, bn_01, bn_11, bb_b_01, ne_eq, Bool.not_eq_false, Bool.not_eq_true, Classical.not_not, bn_lt, bn_le, bn_ti, Int32.reduceToInt, bn_m20, bn_20m, nI_add, bn_p1, bn_s1, bn_in, bn_cl, implies_true, not_true_eq_false, not_false_eq_true, Bool.true_and, Bool.false_and, Bool.and_true, Bool.and_false, Bool.true_or, Bool.false_or, Bool.or_true, Bool.or_false, Bool.not_true, Bool.not_false, false_implies, true_implies, forall_const, Bool.false_eq_true, Bool.true_eq_false, reduceCtorEq, eq_self, Bool.and_eq_true, Bool.or_eq_true, Bool.and_eq_false_iff, Bool.or_eq_false_iff, and_false, false_and, or_false, false_or, t1, t3, l, t4, e]
    cases bv (tx p) lo.toInt hi.toInt
    · simp only [Option.toList_some, Option.toList_none, List.cons_append, List.nil_append, true_and, and_true, and_self, bb_ite, true_or, or_true, Option.some.injEq, bb_I_eq, bb_b_0e, bb_b_1e, bb_b_e0, bb_b_e1, decide_eq_true_eq, decide_eq_false_iff_not, bn_01, bn_11, bb_b_01, ne_eq, Bool.not_eq_false, Bool.not_eq_true, Classical.not_not, bn_lt, bn_le, bn_ti, Int32.reduceToInt, bn_m20, bn_20m, nI_add, bn_p1, bn_s1, bn_in, bn_cl, implies_true, not_true_eq_false, not_false_eq_true, Bool.true_and, Bool.false_and, Bool.and_true, Bool.and_false, Bool.true_or, Bool.false_or, Bool.or_true, Bool.or_false, Bool.not_true, Bool.not_false, false_implies, true_implies, forall_const, Bool.false_eq_true, Bool.true_eq_false, reduceCtorEq, eq_self, Bool.and_eq_true, Bool.or_eq_true, Bool.and_eq_false_iff, Bool.or_eq_false_iff, and_false, false_and, or_false, false_or]
      try trivial
    · simp only [Option.toList_some, Option.toList_none, List.cons_append, List.nil_append, true_and, and_true, and_self, bb_ite, true_or, or_true, Option.some.injEq, bb_I_eq, bb_b_0e, bb_b_1e, bb_b_e0, bb_b_e1, decide_eq_true_eq, decide_eq_false_iff_not, bn_01, bn_11, bb_b_01, ne_eq, Bool.not_eq_false, Bool.not_eq_true, Classical.not_not, bn_lt, bn_le, bn_ti, Int32.reduceToInt, bn_m20, bn_20m, nI_add, bn_p1, bn_s1, bn_in, bn_cl, implies_true, not_true_eq_false, not_false_eq_true, Bool.true_and, Bool.false_and, Bool.and_true, Bool.and_false, Bool.true_or, Bool.false_or, Bool.or_true, Bool.or_false, Bool.not_true, Bool.not_false, false_implies, true_implies, forall_const, Bool.false_eq_true, Bool.true_eq_false, reduceCtorEq, eq_self, Bool.and_eq_true, Bool.or_eq_true, Bool.and_eq_false_iff, Bool.or_eq_false_iff, and_false, false_and, or_false, false_or]
      try trivial
  · have l : (tl : Int) ≤ (p : Int) := by omega
    have ed : bt_d tx tl p lo.toInt hi.toInt = false := by
      unfold bt_d
      exact decide_eq_false (fun z => q z.1)
    rw [ed]
    simp (disch := omega) only [e_X7_isHere_0, e_X7_isHere_1, e_X7_isHere_4, e_X7_isHere_5, e_X7_isHere_8, e_X7_isHere_11, e_X7_isHere_12, e_X7_isHere_15, e_X7_isHere_16, e_X7_isHere_19, e_X7_isHere_20, e_X7_isHere_21, e_X7_isHere_22, e_X7_isHere_23, e_X7_isHere_24, e_X7_isHere_25, e_X7_isHere_28, e_X7_isHere_31, e_X7_isHere_32, e_X7_isHere_35, e_X7_isHere_36, Option.toList_some, Option.toList_none, List.cons_append, List.nil_append, true_and, and_true, and_self, bb_ite, true_or, or_true, Option.some.injEq, bb_I_eq, bb_b_0e, bb_b_1e, bb_b_e0, bb_b_e1, decide_eq_true_eq, decide_eq_false_iff_not, bn_01, bn_11, bb_b_01, ne_eq, Bool.not_eq_false, Bool.not_eq_true, Classical.not_not, bn_lt, bn_le, bn_ti, Int32.reduceToInt, bn_m20, bn_20m, nI_add, bn_p1, bn_s1, bn_in, bn_cl, implies_true, not_true_eq_false, not_false_eq_true, Bool.true_and, Bool.false_and, Bool.and_true, Bool.and_false, Bool.true_or, Bool.false_or, Bool.or_true, Bool.or_false, Bool.not_true, Bool.not_false, false_implies, true_implies, forall_const, Bool.false_eq_true, Bool.true_eq_false, reduceCtorEq, eq_self, Bool.and_eq_true, Bool.or_eq_true, Bool.and_eq_false_iff, Bool.or_eq_false_iff, and_false, false_and, or_false, false_or, t1, t3, l]
    try trivial
theorem x_X7_takesF (hT : bm_TT tx tl p g w M) (htl : tl ≤ 60) (hp : p ≤ tl) (hd : ¬ bt_d tx tl p c.toInt c.toInt = true) : bb_call (bb_CL (d + 3)) 62 [bb_R 7 0, bb_I c] M k ↔ k (some (bb_I 0)) M := by
  refine bb_cal (st_X7_takes ?_)
  rw [Bool.not_eq_true] at hd
  have e := fun k => x_X7_isHere (d := d) (lo := c) (hi := c) (k := k) hT htl hp
  rw [hd] at e
  have e' : ∀ k : Option bb_V → bb_M → Prop, bb_call (bb_CL (d + 2)) 61 [bb_R 7 0, bb_I c, bb_I c] M k ↔ k (some (bb_I 0)) M := e
  have es : bb_up M 7 0 12 (nI p) = M := bb_up_self hT.2.1
  have h12 := hT.2.1
  simp (disch := omega) only [e_X7_takes_0, e_X7_takes_1, e_X7_takes_2, e_X7_takes_3, e_X7_takes_6, e_X7_takes_7, e_X7_takes_8, e_X7_takes_9, e_X7_takes_12, e_X7_takes_13, e_X7_takes_16, e_X7_takes_17, e_X7_takes_20, e_X7_takes_21, e_X7_takes_22, e_X7_takes_25, e_X7_takes_26, Option.toList_some, Option.toList_none, List.cons_append, List.nil_append, true_and, and_true, and_self, bb_ite, true_or, or_true, Option.some.injEq, bb_I_eq, bb_b_0e, bb_b_1e, bb_b_e0, bb_b_e1, decide_eq_true_eq, decide_eq_false_iff_not, bn_01, bn_11, bb_b_01, ne_eq, Bool.not_eq_false, Bool.not_eq_true, Classical.not_not, bn_lt, bn_le, bn_ti, Int32.reduceToInt, bn_m20, bn_20m, nI_add, bn_p1, bn_s1, bn_in, bn_cl, implies_true, not_true_eq_false, not_false_eq_true, Bool.true_and, Bool.false_and, Bool.and_true, Bool.and_false, Bool.true_or, Bool.false_or, Bool.or_true, Bool.or_false, Bool.not_true, Bool.not_false, false_implies, true_implies, forall_const, Bool.false_eq_true, Bool.true_eq_false, reduceCtorEq, eq_self, Bool.and_eq_true, Bool.or_eq_true, Bool.and_eq_false_iff, Bool.or_eq_false_iff, and_false, false_and, or_false, false_or, e', h12, Int32.add_zero, es, if_true]
  try trivial
theorem x_X7_takesT (hT : bm_TT tx tl p g w M) (htl : tl ≤ 60) (hp : p ≤ tl) (hd : bt_d tx tl p c.toInt c.toInt = true) : ∃ M1, (∀ k : Option bb_V → bb_M → Prop, bb_call (bb_CL (d + 3)) 62 [bb_R 7 0, bb_I c] M k ↔ k (some (bb_I 1)) M1) ∧ bm_TT tx tl (p + 1) g w M1 ∧ (∀ j, M1 29 0 j = M 29 0 j) ∧ bm_tf M M1 := by
  have hf : bm_tf M (bb_up M 7 0 12 (nI (p + 1))) := fun k i j a b => by
    unfold bb_up
    rw [if_neg (by omega)]
  refine ⟨bb_up M 7 0 12 (nI (p + 1)), fun k => bb_cal (st_X7_takes ?_), ⟨bm_TX_fr hT.1 hf, bb_up_at, by rw [bb_up_j (by decide)]; exact hT.2.2.1, by rw [bb_up_j (by decide)]; exact hT.2.2.2⟩, fun j => bb_up_k (by decide), hf⟩
  have e := fun k => x_X7_isHere (d := d) (lo := c) (hi := c) (k := k) hT htl hp
  rw [hd] at e
  have e' : ∀ k : Option bb_V → bb_M → Prop, bb_call (bb_CL (d + 2)) 61 [bb_R 7 0, bb_I c, bb_I c] M k ↔ k (some (bb_I 1)) M := e
  have h12 := hT.2.1
  simp (disch := omega) only [e_X7_takes_0, e_X7_takes_1, e_X7_takes_2, e_X7_takes_3, e_X7_takes_6, e_X7_takes_7, e_X7_takes_8, e_X7_takes_9, e_X7_takes_12, e_X7_takes_13, e_X7_takes_16, e_X7_takes_17, e_X7_takes_20, e_X7_takes_21, e_X7_takes_22, e_X7_takes_25, e_X7_takes_26, Option.toList_some, Option.toList_none, List.cons_append, List.nil_append, true_and, and_true, and_self, bb_ite, true_or, or_true, Option.some.injEq, bb_I_eq, bb_b_0e, bb_b_1e, bb_b_e0, bb_b_e1, decide_eq_true_eq, decide_eq_false_iff_not, bn_01, bn_11, bb_b_01, ne_eq, Bool.not_eq_false, Bool.not_eq_true, Classical.not_not, bn_lt, bn_le, bn_ti, Int32.reduceToInt, bn_m20, bn_20m, nI_add, bn_p1, bn_s1, bn_in, bn_cl, implies_true, not_true_eq_false, not_false_eq_true, Bool.true_and, Bool.false_and, Bool.and_true, Bool.and_false, Bool.true_or, Bool.false_or, Bool.or_true, Bool.or_false, Bool.not_true, Bool.not_false, false_implies, true_implies, forall_const, Bool.false_eq_true, Bool.true_eq_false, reduceCtorEq, eq_self, Bool.and_eq_true, Bool.or_eq_true, Bool.and_eq_false_iff, Bool.or_eq_false_iff, and_false, false_and, or_false, false_or, e', h12, bm_10, if_false]
  try trivial
theorem x_X7_digF (hT : bm_TT tx tl p g w M) (htl : tl ≤ 60) (hp : p ≤ tl) (hd : ¬ bt_d tx tl p lo.toInt hi.toInt = true) : bb_call (bb_CL (d + 3)) 63 [bb_R 7 0, bb_I lo, bb_I hi, bb_I x] M k ↔ k (some (bb_I 0)) M := by
  refine bb_cal (st_X7_readsDigit ?_)
  rw [Bool.not_eq_true] at hd
  have e := fun k => x_X7_isHere (d := d) (lo := lo) (hi := hi) (k := k) hT htl hp
  rw [hd] at e
  have e' : ∀ k : Option bb_V → bb_M → Prop, bb_call (bb_CL (d + 2)) 61 [bb_R 7 0, bb_I lo, bb_I hi] M k ↔ k (some (bb_I 0)) M := e
  simp (disch := omega) only [e_X7_readsDigit_0, e_X7_readsDigit_1, e_X7_readsDigit_2, e_X7_readsDigit_3, e_X7_readsDigit_6, e_X7_readsDigit_9, e_X7_readsDigit_10, e_X7_readsDigit_11, e_X7_readsDigit_12, e_X7_readsDigit_15, e_X7_readsDigit_16, e_X7_readsDigit_17, e_X7_readsDigit_20, e_X7_readsDigit_21, e_X7_readsDigit_22, e_X7_readsDigit_23, e_X7_readsDigit_24, e_X7_readsDigit_27, e_X7_readsDigit_28, e_X7_readsDigit_31, e_X7_readsDigit_32, e_X7_readsDigit_34, e_X7_readsDigit_35, e_X7_readsDigit_36, e_X7_readsDigit_37, e_X7_readsDigit_38, e_X7_readsDigit_41, e_X7_readsDigit_42, e_X7_readsDigit_43, e_X7_readsDigit_46, e_X7_readsDigit_47, Option.toList_some, Option.toList_none, List.cons_append, List.nil_append, true_and, and_true, and_self, bb_ite, true_or, or_true, Option.some.injEq, bb_I_eq, bb_b_0e, bb_b_1e, bb_b_e0, bb_b_e1, decide_eq_true_eq, decide_eq_false_iff_not, bn_01, bn_11, bb_b_01, ne_eq, Bool.not_eq_false, Bool.not_eq_true, Classical.not_not, bn_lt, bn_le, bn_ti, Int32.reduceToInt, bn_m20, bn_20m, nI_add, bn_p1, bn_s1, bn_in, bn_cl, implies_true, not_true_eq_false, not_false_eq_true, Bool.true_and, Bool.false_and, Bool.and_true, Bool.and_false, Bool.true_or, Bool.false_or, Bool.or_true, Bool.or_false, Bool.not_true, Bool.not_false, false_implies, true_implies, forall_const, Bool.false_eq_true, Bool.true_eq_false, reduceCtorEq, eq_self, Bool.and_eq_true, Bool.or_eq_true, Bool.and_eq_false_iff, Bool.or_eq_false_iff, and_false, false_and, or_false, false_or, e']
  try trivial
theorem x_X7_digT {pl : Nat} (hT : bm_TT tx tl p g w M) (htl : tl ≤ 60) (hp : p ≤ tl) (hg : g ≤ 15) (hpl : pl ≤ 2) (hx : x = nI pl) (h48 : 48 ≤ lo.toInt ∧ hi.toInt ≤ 57) (hd : bt_d tx tl p lo.toInt hi.toInt = true) : ∃ M1, (∀ k : Option bb_V → bb_M → Prop, bb_call (bb_CL (d + 3)) 63 [bb_R 7 0, bb_I lo, bb_I hi, bb_I x] M k ↔ k (some (bb_I 1)) M1) ∧ bm_TT tx tl (p + 1) g w M1 ∧ M1 29 0 (3 * g + pl) = nI (bt_v tx p) ∧ (∀ j, j ≠ 3 * g + pl → M1 29 0 j = M 29 0 j) ∧ bm_tf M M1 := by
  have hd' := bt_d_iff.mp hd
  have hv : tx p - 48 = nI (bt_v tx p) := bt_vI (by omega)
  have hf : bm_tf M (bb_up (bb_up M 29 0 (3 * g + pl) (nI (bt_v tx p))) 7 0 12 (nI (p + 1))) := fun k i j a b => by
    unfold bb_up
    rw [if_neg (by omega), if_neg (by omega)]
  refine ⟨bb_up (bb_up M 29 0 (3 * g + pl) (nI (bt_v tx p))) 7 0 12 (nI (p + 1)), fun k => bb_cal (st_X7_readsDigit ?_), ⟨bm_TX_fr hT.1 hf, bb_up_at, by rw [bb_up_j (by decide), bb_up_k (by decide)]; exact hT.2.2.1, by rw [bb_up_j (by decide), bb_up_k (by decide)]; exact hT.2.2.2⟩, by rw [bb_up_k (by decide), bb_up_at], fun j hj => by rw [bb_up_k (by decide), bb_up_j hj], hf⟩
  have e := fun k => x_X7_isHere (d := d) (lo := lo) (hi := hi) (k := k) hT htl hp
  rw [hd] at e
  have e' : ∀ k : Option bb_V → bb_M → Prop, bb_call (bb_CL (d + 2)) 61 [bb_R 7 0, bb_I lo, bb_I hi] M k ↔ k (some (bb_I 1)) M := e
  obtain ⟨⟨t1, t2⟩, t3, t4, t5⟩ := hT
  have t6 := t2 p hd'.1
  have u12 : bb_up M 29 0 (3 * g + pl) (nI (bt_v tx p)) 7 0 12 = nI p := by rw [bb_up_k (by decide)]; exact t3
  subst hx
  simp (disch := omega) only [e_X7_readsDigit_0, e_X7_readsDigit_1, e_X7_readsDigit_2, e_X7_readsDigit_3, e_X7_readsDigit_6, e_X7_readsDigit_9, e_X7_readsDigit_10, e_X7_readsDigit_11, e_X7_readsDigit_12, e_X7_readsDigit_15, e_X7_readsDigit_16, e_X7_readsDigit_17, e_X7_readsDigit_20, e_X7_readsDigit_21, e_X7_readsDigit_22, e_X7_readsDigit_23, e_X7_readsDigit_24, e_X7_readsDigit_27, e_X7_readsDigit_28, e_X7_readsDigit_31, e_X7_readsDigit_32, e_X7_readsDigit_34, e_X7_readsDigit_35, e_X7_readsDigit_36, e_X7_readsDigit_37, e_X7_readsDigit_38, e_X7_readsDigit_41, e_X7_readsDigit_42, e_X7_readsDigit_43, e_X7_readsDigit_46, e_X7_readsDigit_47, Option.toList_some, Option.toList_none, List.cons_append, List.nil_append, true_and, and_true, and_self, bb_ite, true_or, or_true, Option.some.injEq, bb_I_eq, bb_b_0e, bb_b_1e, bb_b_e0, bb_b_e1, decide_eq_true_eq, decide_eq_false_iff_not, bn_01, bn_11, bb_b_01, ne_eq, Bool.not_eq_false, Bool.not_eq_true, Classical.not_not, bn_lt, bn_le, bn_ti, Int32.reduceToInt, bn_m20, bn_20m, nI_add, bn_p1, bn_s1, bn_in, bn_cl, implies_true, not_true_eq_false, not_false_eq_true, Bool.true_and, Bool.false_and, Bool.and_true, Bool.and_false, Bool.true_or, Bool.false_or, Bool.or_true, Bool.or_false, Bool.not_true, Bool.not_false, false_implies, true_implies, forall_const, Bool.false_eq_true, Bool.true_eq_false, reduceCtorEq, eq_self, Bool.and_eq_true, Bool.or_eq_true, Bool.and_eq_false_iff, Bool.or_eq_false_iff, and_false, false_and, or_false, false_or, e', bm_10, if_false, t3, t4, t6, bm_m3, hv, u12]
  try trivial
end TX
/-- what a group's reading comes to -/
def bm_gr (M : bb_M) (g w : Nat) (M' : bb_M) (res : Int32) : Nat ⊕ (bt_G × Nat) → Prop
  | .inl e => res = 0 ∧ M' 7 0 12 = nI e ∧ bm_tf M M'
  | .inr (G, q) => res = 1 ∧ M' 7 0 12 = nI q ∧ M' 7 0 14 = nI (g + 1) ∧ M' 7 0 15 = nI (w + G.2.2) ∧ bm_tf M M' ∧ (M' 29 0 (3 * g) = nI G.1 ∧ M' 29 0 (3 * g + 1) = nI G.2.1 ∧ M' 29 0 (3 * g + 2) = nI G.2.2) ∧ ∀ j, j < 3 * g → M' 29 0 j = M 29 0 j
theorem bm_gr_tr {M N M' : bb_M} {g w : Nat} {res : Int32} {o : Nat ⊕ (bt_G × Nat)} (h : bm_gr N g w M' res o) (hf : bm_tf M N) (hl : ∀ j, j < 3 * g → N 29 0 j = M 29 0 j) : bm_gr M g w M' res o := by
  match o, h with
  | .inl e, ⟨a, b, c⟩ => exact ⟨a, b, bm_tf_tr hf c⟩
  | .inr (G, q), ⟨a, b, c, d, e, f, i⟩ => exact ⟨a, b, c, d, bm_tf_tr hf e, f, fun j hj => (i j hj).trans (hl j hj)⟩
/-- the end of a group, a last step: one more group, its waves -/
theorem l_X7_grpEnd {d p tl g w r h t : Nat} {tx : Nat → Int32} {N : bb_M} {z : bb_V} (hT : bm_TT tx tl p g w N) (hg : g ≤ 15) (hw : w ≤ 1000) (ht : t ≤ 9) (h0 : N 29 0 (3 * g) = nI r) (h1 : N 29 0 (3 * g + 1) = nI h) (h2 : N 29 0 (3 * g + 2) = nI t) : ∃ M' res, (∀ R : bb_P, bb_Y (bb_CL d) cd_X7_readsGroup R 159 [bb_R 7 0, z] [] N ↔ R (some (bb_I res)) M') ∧ bm_gr N g w M' res (.inr ((r, h, t), p)) := by
  obtain ⟨-, t3, t4, t5⟩ := hT
  have u14 : bb_up N 7 0 15 (nI (w + t)) 7 0 14 = nI g := by rw [bb_up_j (by decide)]; exact t4
  refine ⟨bb_up (bb_up N 7 0 15 (nI (w + t))) 7 0 14 (nI (g + 1)), 1, fun R => ?_, rfl, ?_, bb_up_at, ?_, fun k i j a b => ?_, ⟨?_, ?_, ?_⟩, fun j hj => ?_⟩
  · simp (disch := omega) only [e_X7_readsGroup_0, e_X7_readsGroup_1, e_X7_readsGroup_3, e_X7_readsGroup_5, e_X7_readsGroup_6, e_X7_readsGroup_9, e_X7_readsGroup_12, e_X7_readsGroup_13, e_X7_readsGroup_15, e_X7_readsGroup_18, e_X7_readsGroup_21, e_X7_readsGroup_22, e_X7_readsGroup_24, e_X7_readsGroup_26, e_X7_readsGroup_27, e_X7_readsGroup_30, e_X7_readsGroup_33, e_X7_readsGroup_34, e_X7_readsGroup_35, e_X7_readsGroup_36, e_X7_readsGroup_39, e_X7_readsGroup_40, e_X7_readsGroup_41, e_X7_readsGroup_44, e_X7_readsGroup_45, e_X7_readsGroup_46, e_X7_readsGroup_47, e_X7_readsGroup_48, e_X7_readsGroup_49, e_X7_readsGroup_50, e_X7_readsGroup_52, e_X7_readsGroup_54, e_X7_readsGroup_57, e_X7_readsGroup_60, e_X7_readsGroup_62, e_X7_readsGroup_63, e_X7_readsGroup_64, e_X7_readsGroup_65, e_X7_readsGroup_68, e_X7_readsGroup_69, e_X7_readsGroup_72, e_X7_readsGroup_73, e_X7_readsGroup_74, e_X7_readsGroup_76, e_X7_readsGroup_77, e_X7_readsGroup_79, e_X7_readsGroup_82, e_X7_readsGroup_83, e_X7_readsGroup_86, e_X7_readsGroup_87, e_X7_readsGroup_88, e_X7_readsGroup_91, e_X7_readsGroup_92, e_X7_readsGroup_93, e_X7_readsGroup_94, e_X7_readsGroup_96, e_X7_readsGroup_97, e_X7_readsGroup_98, e_X7_readsGroup_99, e_X7_readsGroup_102, e_X7_readsGroup_103, e_X7_readsGroup_106, e_X7_readsGroup_107, e_X7_readsGroup_108, e_X7_readsGroup_110, e_X7_readsGroup_111, e_X7_readsGroup_112, e_X7_readsGroup_113, e_X7_readsGroup_114, e_X7_readsGroup_117, e_X7_readsGroup_118, e_X7_readsGroup_119, e_X7_readsGroup_122, e_X7_readsGroup_123, e_X7_readsGroup_126, e_X7_readsGroup_127, e_X7_readsGroup_128, e_X7_readsGroup_131, e_X7_readsGroup_132, e_X7_readsGroup_133, e_X7_readsGroup_134, e_X7_readsGroup_135, e_X7_readsGroup_136, e_X7_readsGroup_137, e_X7_readsGroup_139, e_X7_readsGroup_142, e_X7_readsGroup_145, e_X7_readsGroup_146, e_X7_readsGroup_148, e_X7_readsGroup_150, e_X7_readsGroup_151, e_X7_readsGroup_154, e_X7_readsGroup_157, e_X7_readsGroup_158, e_X7_readsGroup_159, e_X7_readsGroup_160, e_X7_readsGroup_161, e_X7_readsGroup_164, e_X7_readsGroup_165, e_X7_readsGroup_168, e_X7_readsGroup_169, e_X7_readsGroup_170, e_X7_readsGroup_173, e_X7_readsGroup_174, e_X7_readsGroup_175, e_X7_readsGroup_176, e_X7_readsGroup_177, e_X7_readsGroup_178, e_X7_readsGroup_181, e_X7_readsGroup_182, e_X7_readsGroup_183, e_X7_readsGroup_186, e_X7_readsGroup_187, e_X7_readsGroup_188, e_X7_readsGroup_191, e_X7_readsGroup_192, Option.toList_some, Option.toList_none, List.cons_append, List.nil_append, true_and, and_true, and_self, bb_ite, true_or, or_true, Option.some.injEq, bb_I_eq, bb_b_0e, bb_b_1e, bb_b_e0, bb_b_e1, decide_eq_true_eq, decide_eq_false_iff_not, bn_01, bn_11, bb_b_01, ne_eq, Bool.not_eq_false, Bool.not_eq_true, Classical.not_not, bn_lt, bn_le, bn_ti, Int32.reduceToInt, bn_m20, bn_20m, nI_add, bn_p1, bn_s1, bn_in, bn_cl, implies_true, not_true_eq_false, not_false_eq_true, Bool.true_and, Bool.false_and, Bool.and_true, Bool.and_false, Bool.true_or, Bool.false_or, Bool.or_true, Bool.or_false, Bool.not_true, Bool.not_false, false_implies, true_implies, forall_const, Bool.false_eq_true, Bool.true_eq_false, reduceCtorEq, eq_self, Bool.and_eq_true, Bool.or_eq_true, Bool.and_eq_false_iff, Bool.or_eq_false_iff, and_false, false_and, or_false, false_or, t4, t5, bm_m3, bm_p2, h2, u14]
    try trivial
  · rw [bb_up_j (by decide), bb_up_j (by decide)]; exact t3
  · rw [bb_up_j (by decide), bb_up_at]
  · unfold bb_up
    rw [if_neg (by omega), if_neg (by omega)]
  · rw [bb_up_k (by decide), bb_up_k (by decide)]; exact h0
  · rw [bb_up_k (by decide), bb_up_k (by decide)]; exact h1
  · rw [bb_up_k (by decide), bb_up_k (by decide)]; exact h2
  · rw [bb_up_k (by decide), bb_up_k (by decide)]
theorem l_X7_grpTail {d p tl g w r h : Nat} {tx : Nat → Int32} {N : bb_M} {z : bb_V} (hT : bm_TT tx tl p g w N) (htl : tl ≤ 60) (hp : p ≤ tl) (hg : g ≤ 15) (hw : w ≤ 1000) (h0 : N 29 0 (3 * g) = nI r) (h1 : N 29 0 (3 * g + 1) = nI h) : ∃ M' res, (∀ R : bb_P, bb_Y (bb_CL (d + 3)) cd_X7_readsGroup R 122 [bb_R 7 0, z] [] N ↔ R (some (bb_I res)) M') ∧ bm_gr N g w M' res (bt_tm tx tl r h p) := by
  have f1 : bm_tf N (bb_up N 29 0 (3 * g + 2) (nI 1)) := fun k i j a b => by
    unfold bb_up
    rw [if_neg (by omega)]
  have T1 : bm_TT tx tl p g w (bb_up N 29 0 (3 * g + 2) (nI 1)) := ⟨bm_TX_fr hT.1 f1, by rw [bb_up_k (by decide)]; exact hT.2.1, by rw [bb_up_k (by decide)]; exact hT.2.2.1, by rw [bb_up_k (by decide)]; exact hT.2.2.2⟩
  have a0 : bb_up N 29 0 (3 * g + 2) (nI 1) 29 0 (3 * g) = nI r := by rw [bb_up_j (by omega)]; exact h0
  have a1 : bb_up N 29 0 (3 * g + 2) (nI 1) 29 0 (3 * g + 1) = nI h := by rw [bb_up_j (by omega)]; exact h1
  have a2 : bb_up N 29 0 (3 * g + 2) (nI 1) 29 0 (3 * g + 2) = nI 1 := bb_up_at
  have aj : ∀ j, j < 3 * g → bb_up N 29 0 (3 * g + 2) (nI 1) 29 0 j = N 29 0 j := fun j hj => bb_up_j (by omega)
  have n1 : nI 1 = 1 := rfl
  have n2 : nI 2 = 2 := rfl
  have t4 := hT.2.2.1
  have c120 : (120 : Int32).toInt = 120 := rfl
  have c50 : (50 : Int32).toInt = 50 := rfl
  have c57 : (57 : Int32).toInt = 57 := rfl
  have v2 : (3 : Int32) * nI g + 2 = nI (3 * g + 2) := by rw [bm_m3, show (2 : Int32) = nI 2 from rfl, nI_add]
  generalize hN1 : bb_up N 29 0 (3 * g + 2) (nI 1) = N1 at *
  rw [n1] at hN1
  unfold bt_tm
  by_cases hx : bt_d tx tl p 120 120 = true
  · rw [if_pos hx]
    obtain ⟨N2, x2, T2, j2, f2⟩ := x_X7_takesT (d := d) (c := 120) T1 htl hp hx
    have hpl := (bt_d_iff.mp hx).1
    by_cases hd : bt_d tx tl (p + 1) 50 57 = true
    · rw [if_pos hd]
      obtain ⟨N3, x3, T3, v3, j3, f3⟩ := x_X7_digT (d := d) (lo := 50) (hi := 57) (x := 2) (pl := 2) T2 htl hpl hg (Nat.le_refl _) rfl ⟨by decide, by decide⟩ hd
      have hv9 : bt_v tx (p + 1) ≤ 9 := by
        have := bt_d_iff.mp hd
        unfold bt_v
        omega
      obtain ⟨M', res, x4, g4⟩ := l_X7_grpEnd (d := d + 3) (z := z) (r := r) (h := h) T3 hg hw hv9 (by rw [j3 _ (by omega), j2]; exact a0) (by rw [j3 _ (by omega), j2]; exact a1) v3
      refine ⟨M', res, fun R => ?_, bm_gr_tr g4 (bm_tf_tr f1 (bm_tf_tr f2 f3)) (fun j hj => by rw [j3 _ (by omega), j2, aj j hj])⟩
      rw [← x4 R]
      simp (disch := omega) only [e_X7_readsGroup_122, e_X7_readsGroup_123, e_X7_readsGroup_126, e_X7_readsGroup_127, e_X7_readsGroup_128, e_X7_readsGroup_131, e_X7_readsGroup_132, e_X7_readsGroup_133, e_X7_readsGroup_134, e_X7_readsGroup_135, e_X7_readsGroup_136, e_X7_readsGroup_137, e_X7_readsGroup_139, e_X7_readsGroup_142, e_X7_readsGroup_145, e_X7_readsGroup_146, e_X7_readsGroup_148, e_X7_readsGroup_150, e_X7_readsGroup_151, e_X7_readsGroup_154, Option.toList_some, Option.toList_none, List.cons_append, List.nil_append, true_and, and_true, and_self, bb_ite, true_or, or_true, Option.some.injEq, bb_I_eq, bb_b_0e, bb_b_1e, bb_b_e0, bb_b_e1, decide_eq_true_eq, decide_eq_false_iff_not, bn_01, bn_11, bb_b_01, ne_eq, Bool.not_eq_false, Bool.not_eq_true, Classical.not_not, bn_in, bn_cl, t4, v2, hN1, x2, x3, bm_10, if_false, not_false_eq_true, if_true]
      try exact Iff.rfl
    · rw [if_neg hd]
      have x3 := fun k => x_X7_digF (d := d) (lo := 50) (hi := 57) (x := 2) (k := k) T2 htl hpl hd
      refine ⟨N2, 0, fun R => ?_, rfl, T2.2.1, bm_tf_tr f1 f2⟩
      simp (disch := omega) only [e_X7_readsGroup_122, e_X7_readsGroup_123, e_X7_readsGroup_126, e_X7_readsGroup_127, e_X7_readsGroup_128, e_X7_readsGroup_131, e_X7_readsGroup_132, e_X7_readsGroup_133, e_X7_readsGroup_134, e_X7_readsGroup_135, e_X7_readsGroup_136, e_X7_readsGroup_137, e_X7_readsGroup_139, e_X7_readsGroup_142, e_X7_readsGroup_145, e_X7_readsGroup_146, e_X7_readsGroup_148, e_X7_readsGroup_150, e_X7_readsGroup_151, e_X7_readsGroup_154, e_X7_readsGroup_157, e_X7_readsGroup_158, Option.toList_some, Option.toList_none, List.cons_append, List.nil_append, true_and, and_true, and_self, bb_ite, true_or, or_true, Option.some.injEq, bb_I_eq, bb_b_0e, bb_b_1e, bb_b_e0, bb_b_e1, decide_eq_true_eq, decide_eq_false_iff_not, bn_01, bn_11, bb_b_01, ne_eq, Bool.not_eq_false, Bool.not_eq_true, Classical.not_not, bn_in, bn_cl, t4, v2, hN1, x2, x3, bm_10, if_false, not_true_eq_false]
      try trivial
  · rw [if_neg hx]
    have x2 := fun k => x_X7_takesF (d := d) (c := 120) (k := k) T1 htl hp hx
    obtain ⟨M', res, x4, g4⟩ := l_X7_grpEnd (d := d + 3) (z := z) (r := r) (h := h) (t := 1) T1 hg hw (by decide) a0 a1 a2
    refine ⟨M', res, fun R => ?_, bm_gr_tr g4 f1 aj⟩
    rw [← x4 R]
    simp (disch := omega) only [e_X7_readsGroup_122, e_X7_readsGroup_123, e_X7_readsGroup_126, e_X7_readsGroup_127, e_X7_readsGroup_128, e_X7_readsGroup_131, e_X7_readsGroup_132, e_X7_readsGroup_133, e_X7_readsGroup_134, e_X7_readsGroup_135, e_X7_readsGroup_136, e_X7_readsGroup_137, e_X7_readsGroup_139, e_X7_readsGroup_142, Option.toList_some, Option.toList_none, List.cons_append, List.nil_append, true_and, and_true, and_self, bb_ite, true_or, or_true, Option.some.injEq, bb_I_eq, bb_b_0e, bb_b_1e, bb_b_e0, bb_b_e1, decide_eq_true_eq, decide_eq_false_iff_not, bn_01, bn_11, bb_b_01, ne_eq, Bool.not_eq_false, Bool.not_eq_true, Classical.not_not, bn_in, bn_cl, t4, v2, hN1, x2, if_true]
    try exact Iff.rfl
