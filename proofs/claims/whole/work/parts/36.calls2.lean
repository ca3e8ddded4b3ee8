/-! TEXT, UNDO, KEEP, RESTORE -/
theorem x_X5_length {d : Nat} {M : bb_M} {k : Option bb_V → bb_M → Prop} : bb_call (bb_CL (d + 1)) 130 [bb_R 5 0] M k ↔ k (some (bb_I (M 5 0 1))) M := by
  refine bb_cal (st_X5_length ?_)
  simp only [e_X5_length_0, e_X5_length_1, e_X5_length_4, Option.toList_some, Option.toList_none, List.cons_append, List.nil_append, true_and, and_true, and_self, bb_ite, true_or, or_true, Option.some.injEq, bb_I_eq, bb_b_0e, bb_b_1e, bb_b_e0, bb_b_e1, decide_eq_true_eq, decide_eq_false_iff_not, bn_01, bn_11, bb_b_01, ne_eq, Bool.not_eq_false, Bool.not_eq_true, Classical.not_not]
theorem x_X5_waves {d : Nat} {M : bb_M} {k : Option bb_V → bb_M → Prop} : bb_call (bb_CL (d + 1)) 133 [bb_R 5 0] M k ↔ k (some (bb_I (M 5 0 3))) M := by
  refine bb_cal (st_X5_waves ?_)
  simp only [e_X5_waves_0, e_X5_waves_1, e_X5_waves_4, Option.toList_some, Option.toList_none, List.cons_append, List.nil_append, true_and, and_true, and_self, bb_ite, true_or, or_true, Option.some.injEq, bb_I_eq, bb_b_0e, bb_b_1e, bb_b_e0, bb_b_e1, decide_eq_true_eq, decide_eq_false_iff_not, bn_01, bn_11, bb_b_01, ne_eq, Bool.not_eq_false, Bool.not_eq_true, Classical.not_not]
theorem x_X5_queue {d : Nat} {M : bb_M} {k : Option bb_V → bb_M → Prop} : bb_call (bb_CL (d + 1)) 134 [bb_R 5 0] M k ↔ k (some (bb_R 1 7)) M := by
  refine bb_cal (st_X5_queue ?_)
  simp only [e_X5_queue_0, e_X5_queue_1, e_X5_queue_4, Option.toList_some, Option.toList_none, List.cons_append, List.nil_append, true_and, and_true, and_self, bb_ite, true_or, or_true, Option.some.injEq, bb_I_eq, bb_b_0e, bb_b_1e, bb_b_e0, bb_b_e1, decide_eq_true_eq, decide_eq_false_iff_not, bn_01, bn_11, bb_b_01, ne_eq, Bool.not_eq_false, Bool.not_eq_true, Classical.not_not]
theorem x_X0_size {d : Nat} {M : bb_M} {k : Option bb_V → bb_M → Prop} : bb_call (bb_CL (d + 1)) 86 [bb_R 0 0] M k ↔ k (some (bb_I (M 0 0 2))) M := by
  refine bb_cal (st_X0_size ?_)
  simp only [e_X0_size_0, e_X0_size_1, e_X0_size_4, Option.toList_some, Option.toList_none, List.cons_append, List.nil_append, true_and, and_true, and_self, bb_ite, true_or, or_true, Option.some.injEq, bb_I_eq, bb_b_0e, bb_b_1e, bb_b_e0, bb_b_e1, decide_eq_true_eq, decide_eq_false_iff_not, bn_01, bn_11, bb_b_01, ne_eq, Bool.not_eq_false, Bool.not_eq_true, Classical.not_not]
theorem x_X5_empty {d : Nat} {M : bb_M} {k : Option bb_V → bb_M → Prop} : bb_call (bb_CL (d + 1)) 132 [bb_R 5 0] M k ↔ k none (bb_up M 5 0 1 0) := by
  refine bb_cal (st_X5_empty ?_)
  simp only [e_X5_empty_0, e_X5_empty_1, e_X5_empty_2, e_X5_empty_5, Option.toList_some, Option.toList_none, List.cons_append, List.nil_append, true_and, and_true, and_self, bb_ite, true_or, or_true, Option.some.injEq, bb_I_eq, bb_b_0e, bb_b_1e, bb_b_e0, bb_b_e1, decide_eq_true_eq, decide_eq_false_iff_not, bn_01, bn_11, bb_b_01, ne_eq, Bool.not_eq_false, Bool.not_eq_true, Classical.not_not]
theorem x_X5_add {d n : Nat} {x : Int32} {M : bb_M} {k : Option bb_V → bb_M → Prop} (h : M 5 0 1 = nI n) (hn : n < 60) : bb_call (bb_CL (d + 1)) 131 [bb_R 5 0, bb_I x] M k ↔ k none (bb_up (bb_up M 17 0 n (vp_nar .char x)) 5 0 1 (nI (n + 1))) := by
  refine bb_cal (st_X5_add ?_)
  have l : ¬ (60 : Int) ≤ (n : Int) := by omega
  have e : bb_up M 17 0 n (vp_nar .char x) 5 0 1 = nI n := by rw [bb_up_k (by decide), h]
  simp (disch := omega) only [e_X5_add_0, e_X5_add_1, e_X5_add_4, e_X5_add_6, e_X5_add_9, e_X5_add_10, e_X5_add_13, e_X5_add_14, e_X5_add_17, e_X5_add_18, e_X5_add_19, e_X5_add_20, e_X5_add_21, e_X5_add_24, e_X5_add_25, e_X5_add_26, e_X5_add_29, Option.toList_some, Option.toList_none, List.cons_append, List.nil_append, true_and, and_true, and_self, bb_ite, true_or, or_true, Option.some.injEq, bb_I_eq, bb_b_0e, bb_b_1e, bb_b_e0, bb_b_e1, decide_eq_true_eq, decide_eq_false_iff_not, bn_01, bn_11, bb_b_01, ne_eq, Bool.not_eq_false, Bool.not_eq_true, Classical.not_not, bn_lt, bn_le, bn_ti, Int32.reduceToInt, bn_m20, bn_20m, nI_add, bn_p1, bn_s1, bn_in, bn_cl, implies_true, not_true_eq_false, not_false_eq_true, Bool.true_and, Bool.false_and, Bool.and_true, Bool.and_false, Bool.true_or, Bool.false_or, Bool.or_true, Bool.or_false, Bool.not_true, Bool.not_false, false_implies, true_implies, forall_const, Bool.false_eq_true, Bool.true_eq_false, reduceCtorEq, eq_self, Bool.and_eq_true, Bool.or_eq_true, Bool.and_eq_false_iff, Bool.or_eq_false_iff, and_false, false_and, or_false, false_or, h, l, e]
/-- the text alone changes -/
theorem bs_CI_tx {M M' : bb_M} {S : bs_S} {tx : Nat → Int32} {tl : Nat} (h : bs_CI M S) (hf : ∀ k i j, k ≠ 5 → k ≠ 17 → M' k i j = M k i j) (ht : bt_TX tx tl M') (hl : tl ≤ 60) : bs_CI M' ⟨S.a, S.hs, S.hn, S.sT, S.sn, tx, tl⟩ := by
  obtain ⟨h1, h2, h3, h4, h5, h6, h7⟩ := h
  have sk : ∀ k n, bb_skb k n = true → k ≠ 5 ∧ k ≠ 17 := fun k n hk => by
    unfold bb_skb at hk
    rw [decide_eq_true_eq] at hk
    omega
  have hr : ∀ i a, bs_inv a → bs_rep M i a → bs_rep M' i a := fun i a hi hr => bs_rep_i hr hi (fun k n hk => hf k i n (sk k n hk).1 (sk k n hk).2)
  refine ⟨hr _ _ h2 h1, h2, ?_, ?_, fun z => ⟨hr _ _ (h5 z).2 (h5 z).1, (h5 z).2⟩, ⟨ht, hl⟩, fun j hj => ?_⟩
  · obtain ⟨g1, g2, nx, g3, g4, g5⟩ := h3
    exact ⟨g1, by rw [hf _ _ _ (by decide) (by decide)]; exact g2, nx, g3, by rw [hf _ _ _ (by decide) (by decide)]; exact g4, fun j hj => ⟨(g5 j hj).1, hr _ _ (g5 j hj).1 (g5 j hj).2⟩⟩
  · rw [hf _ _ _ (by decide) (by decide)]; exact h4
  · rw [hf _ _ _ (by decide) (by decide), hf _ _ _ (by decide) (by decide)]; exact h7 j hj
def sp_type (S : bs_S) (x : Int32) : Int32 × bs_S := if S.tl = 60 then (-1003, S) else (nI (S.tl + 1), ⟨S.a, S.hs, S.hn, S.sT, S.sn, upd S.tx S.tl (vp_nar .char x), S.tl + 1⟩)
theorem c_type {d : Nat} {M : bb_M} {S : bs_S} {x : Int32} (h : bs_CI M S) : bs_api d 10 [bb_R 6 0, bb_I x] M (sp_type S x) := by
  unfold sp_type
  obtain ⟨⟨t1, t2⟩, t3⟩ := h.2.2.2.2.2.1
  by_cases q : S.tl = 60
  · rw [if_pos q]
    refine ⟨M, fun k => bb_cal (st_X6_type ?_), h, bs_ref_rf⟩
    have l : ¬ (60 : Int) < 60 := by decide
    simp (disch := omega) only [e_X6_type_0, e_X6_type_1, e_X6_type_4, e_X6_type_7, e_X6_type_9, e_X6_type_12, e_X6_type_15, e_X6_type_16, e_X6_type_17, e_X6_type_20, e_X6_type_21, e_X6_type_24, e_X6_type_25, e_X6_type_28, e_X6_type_31, Option.toList_some, Option.toList_none, List.cons_append, List.nil_append, true_and, and_true, and_self, bb_ite, true_or, or_true, Option.some.injEq, bb_I_eq, bb_b_0e, bb_b_1e, bb_b_e0, bb_b_e1, decide_eq_true_eq, decide_eq_false_iff_not, bn_01, bn_11, bb_b_01, ne_eq, Bool.not_eq_false, Bool.not_eq_true, Classical.not_not, bn_lt, bn_le, bn_ti, Int32.reduceToInt, bn_m20, bn_20m, nI_add, bn_p1, bn_s1, bn_in, bn_cl, implies_true, not_true_eq_false, not_false_eq_true, Bool.true_and, Bool.false_and, Bool.and_true, Bool.and_false, Bool.true_or, Bool.false_or, Bool.or_true, Bool.or_false, Bool.not_true, Bool.not_false, false_implies, true_implies, forall_const, Bool.false_eq_true, Bool.true_eq_false, reduceCtorEq, eq_self, Bool.and_eq_true, Bool.or_eq_true, Bool.and_eq_false_iff, Bool.or_eq_false_iff, and_false, false_and, or_false, false_or, x_X5_length, t1, q, Int.cast_ofNat_Int, l]
  · rw [if_neg q]
    have l : (S.tl : Int) < 60 := by omega
    have ea := fun k => x_X5_add (d := d + 6) (n := S.tl) (x := x) (M := M) (k := k) t1 (by omega)
    have e2 : bb_up (bb_up M 17 0 S.tl (vp_nar .char x)) 5 0 1 (nI (S.tl + 1)) 5 0 1 = nI (S.tl + 1) := bb_up_at
    refine ⟨bb_up (bb_up M 17 0 S.tl (vp_nar .char x)) 5 0 1 (nI (S.tl + 1)), fun k => bb_cal (st_X6_type ?_), bs_CI_tx h (fun k i j z1 z2 => by rw [bb_up_k z1, bb_up_k z2]) ⟨e2, fun j hj => ?_⟩ (by omega), fun k j hk => by rw [bb_up_k (by omega), bb_up_k (by omega)]⟩
    · simp (disch := omega) only [e_X6_type_0, e_X6_type_1, e_X6_type_4, e_X6_type_7, e_X6_type_9, e_X6_type_12, e_X6_type_15, e_X6_type_16, e_X6_type_17, e_X6_type_20, e_X6_type_21, e_X6_type_24, e_X6_type_25, e_X6_type_28, e_X6_type_31, Option.toList_some, Option.toList_none, List.cons_append, List.nil_append, true_and, and_true, and_self, bb_ite, true_or, or_true, Option.some.injEq, bb_I_eq, bb_b_0e, bb_b_1e, bb_b_e0, bb_b_e1, decide_eq_true_eq, decide_eq_false_iff_not, bn_01, bn_11, bb_b_01, ne_eq, Bool.not_eq_false, Bool.not_eq_true, Classical.not_not, bn_lt, bn_le, bn_ti, Int32.reduceToInt, bn_m20, bn_20m, nI_add, bn_p1, bn_s1, bn_in, bn_cl, implies_true, not_true_eq_false, not_false_eq_true, Bool.true_and, Bool.false_and, Bool.and_true, Bool.and_false, Bool.true_or, Bool.false_or, Bool.or_true, Bool.or_false, Bool.not_true, Bool.not_false, false_implies, true_implies, forall_const, Bool.false_eq_true, Bool.true_eq_false, reduceCtorEq, eq_self, Bool.and_eq_true, Bool.or_eq_true, Bool.and_eq_false_iff, Bool.or_eq_false_iff, and_false, false_and, or_false, false_or, x_X5_length, t1, l, ea, e2]
    · rw [bb_up_k (by decide), bf_upd]
      unfold bb_up
      by_cases z : j = S.tl
      · rw [if_pos ⟨rfl, rfl, z⟩, if_pos z]
      · rw [if_neg (fun y => z y.2.2), if_neg z]
        exact t2 j (by omega)
def sp_clear (S : bs_S) : Int32 × bs_S := (nI S.tl, ⟨S.a, S.hs, S.hn, S.sT, S.sn, S.tx, 0⟩)
theorem c_clearText {d : Nat} {M : bb_M} {S : bs_S} (h : bs_CI M S) : bs_api d 11 [bb_R 6 0] M (sp_clear S) := by
  obtain ⟨⟨t1, t2⟩, t3⟩ := h.2.2.2.2.2.1
  refine ⟨bb_up M 5 0 1 0, fun k => bb_cal (st_X6_clearText ?_), bs_CI_tx h (fun k i j z1 z2 => by rw [bb_up_k z1]) ⟨by rw [bb_up_at]; rfl, fun j hj => absurd hj (Nat.not_lt_zero j)⟩ (Nat.zero_le _), fun k j hk => by rw [bb_up_k (by omega)]⟩
  simp (disch := omega) only [e_X6_clearText_0, e_X6_clearText_1, e_X6_clearText_4, e_X6_clearText_7, e_X6_clearText_8, e_X6_clearText_9, e_X6_clearText_12, e_X6_clearText_15, e_X6_clearText_16, Option.toList_some, Option.toList_none, List.cons_append, List.nil_append, true_and, and_true, and_self, bb_ite, true_or, or_true, Option.some.injEq, bb_I_eq, bb_b_0e, bb_b_1e, bb_b_e0, bb_b_e1, decide_eq_true_eq, decide_eq_false_iff_not, bn_01, bn_11, bb_b_01, ne_eq, Bool.not_eq_false, Bool.not_eq_true, Classical.not_not, bn_lt, bn_le, bn_ti, Int32.reduceToInt, bn_m20, bn_20m, nI_add, bn_p1, bn_s1, bn_in, bn_cl, implies_true, not_true_eq_false, not_false_eq_true, Bool.true_and, Bool.false_and, Bool.and_true, Bool.and_false, Bool.true_or, Bool.false_or, Bool.or_true, Bool.or_false, Bool.not_true, Bool.not_false, false_implies, true_implies, forall_const, Bool.false_eq_true, Bool.true_eq_false, reduceCtorEq, eq_self, Bool.and_eq_true, Bool.or_eq_true, Bool.and_eq_false_iff, Bool.or_eq_false_iff, and_false, false_and, or_false, false_or, x_X5_length, t1, x_X5_empty]
  trivial
def sp_undo (S : bs_S) : Int32 × bs_S := if S.hn = 0 then (-1005, S) else (nI (S.hn - 1), ⟨S.hs (S.hn - 1), S.hs, S.hn - 1, S.sT, S.sn, S.tx, S.tl⟩)
theorem c_undo {d : Nat} {M : bb_M} {S : bs_S} (h : bs_CI M S) : bs_api d 12 [bb_R 6 0] M (sp_undo S) := by
  unfold sp_undo
  have t1 := h.2.2.1.2.1
  have t4 := h.2.2.1.1
  by_cases q : S.hn = 0
  · rw [if_pos q]
    refine ⟨M, fun k => bb_cal (st_X6_undo ?_), h, bs_ref_rf⟩
    simp (disch := omega) only [e_X6_undo_0, e_X6_undo_1, e_X6_undo_4, e_X6_undo_7, e_X6_undo_10, e_X6_undo_13, e_X6_undo_14, e_X6_undo_15, e_X6_undo_18, e_X6_undo_19, e_X6_undo_22, e_X6_undo_25, e_X6_undo_26, e_X6_undo_29, e_X6_undo_32, Option.toList_some, Option.toList_none, List.cons_append, List.nil_append, true_and, and_true, and_self, bb_ite, true_or, or_true, Option.some.injEq, bb_I_eq, bb_b_0e, bb_b_1e, bb_b_e0, bb_b_e1, decide_eq_true_eq, decide_eq_false_iff_not, bn_01, bn_11, bb_b_01, ne_eq, Bool.not_eq_false, Bool.not_eq_true, Classical.not_not, bn_lt, bn_le, bn_ti, Int32.reduceToInt, bn_m20, bn_20m, nI_add, bn_p1, bn_s1, bn_in, bn_cl, implies_true, not_true_eq_false, not_false_eq_true, Bool.true_and, Bool.false_and, Bool.and_true, Bool.and_false, Bool.true_or, Bool.false_or, Bool.or_true, Bool.or_false, Bool.not_true, Bool.not_false, false_implies, true_implies, forall_const, Bool.false_eq_true, Bool.true_eq_false, reduceCtorEq, eq_self, Bool.and_eq_true, Bool.or_eq_true, Bool.and_eq_false_iff, Bool.or_eq_false_iff, and_false, false_and, or_false, false_or, x_X0_size, t1, q, bn_nI0]
  · rw [if_neg q]
    obtain ⟨n, hn⟩ : ∃ n, S.hn = n + 1 := ⟨S.hn - 1, by omega⟩
    have hH := h.2.2.1
    rw [hn] at hH t1
    obtain ⟨M', e1, e2, e3, e4, e5⟩ := x_X0_takeBack (d := d + 4) hH
    have l : ¬ n + 1 = 0 := by omega
    have t2 := e2.2.1
    obtain ⟨h1, h2, h3, h4, h5, h6, h7⟩ := h
    have sk : ∀ k j, k = 5 ∨ k = 6 ∨ k = 17 ∨ 20 ≤ k ∨ k = 7 → bb_skb k j = false := fun k j hk => by
      unfold bb_skb
      rw [decide_eq_false_iff_not]
      omega
    rw [hn, Nat.add_sub_cancel]
    refine ⟨M', fun k => bb_cal (st_X6_undo ?_), ⟨e3, e4, e2, ?_, fun z => ⟨bs_rep_i (h5 z).1 (h5 z).2 (fun k n hk => e5 k 2 n (bs_skb_ne hk) (Or.inl (by decide))), (h5 z).2⟩, ⟨⟨?_, fun j hj => ?_⟩, h6.2⟩, fun j hj => ?_⟩, fun k j hk => e5 k 0 j (by omega) (Or.inr (sk k j (by omega)))⟩
    · simp (disch := omega) only [e_X6_undo_0, e_X6_undo_1, e_X6_undo_4, e_X6_undo_7, e_X6_undo_10, e_X6_undo_13, e_X6_undo_14, e_X6_undo_15, e_X6_undo_18, e_X6_undo_19, e_X6_undo_22, e_X6_undo_25, e_X6_undo_26, e_X6_undo_29, e_X6_undo_32, Option.toList_some, Option.toList_none, List.cons_append, List.nil_append, true_and, and_true, and_self, bb_ite, true_or, or_true, Option.some.injEq, bb_I_eq, bb_b_0e, bb_b_1e, bb_b_e0, bb_b_e1, decide_eq_true_eq, decide_eq_false_iff_not, bn_01, bn_11, bb_b_01, ne_eq, Bool.not_eq_false, Bool.not_eq_true, Classical.not_not, bn_lt, bn_le, bn_ti, Int32.reduceToInt, bn_m20, bn_20m, nI_add, bn_p1, bn_s1, bn_in, bn_cl, implies_true, not_true_eq_false, not_false_eq_true, Bool.true_and, Bool.false_and, Bool.and_true, Bool.and_false, Bool.true_or, Bool.false_or, Bool.or_true, Bool.or_false, Bool.not_true, Bool.not_false, false_implies, true_implies, forall_const, Bool.false_eq_true, Bool.true_eq_false, reduceCtorEq, eq_self, Bool.and_eq_true, Bool.or_eq_true, Bool.and_eq_false_iff, Bool.or_eq_false_iff, and_false, false_and, or_false, false_or, x_X0_size, t1, l, bn_nI0, e1, t2]
    · rw [e5 6 0 3 (by decide) (Or.inr (sk _ _ (by omega)))]; exact h4
    · rw [e5 5 0 1 (by decide) (Or.inr (sk _ _ (by omega)))]; exact h6.1.1
    · rw [e5 17 0 j (by decide) (Or.inr (sk _ _ (by omega)))]; exact h6.1.2 j hj
    · rw [e5 30 0 j (by decide) (Or.inr (sk _ _ (by omega))), e5 31 0 j (by decide) (Or.inr (sk _ _ (by omega)))]; exact h7 j hj
theorem bf_sm_eq {h h' : Nat → Int32} {b : Nat} : ∀ n, (∀ j, j < n → h (b + j) = h' (b + j)) → bf_sm h b n = bf_sm h' b n
  | 0, _ => rfl
  | n + 1, e => by
    show bf_sm h b n + h (b + n) = bf_sm h' b n + h' (b + n)
    rw [bf_sm_eq n (fun j hj => e j (by omega)), e n (by omega)]
theorem bf_sr_eq {h h' : Nat → Int32} {b n : Nat} (e : ∀ j, j < 80 → h j = h' j) (hb : b + n ≤ 20) : ∀ r, r ≤ 4 → bf_sr h b n r = bf_sr h' b n r
  | 0, _ => rfl
  | r + 1, hr => by
    show bf_sr h b n r + bf_sm h (20 * r + b) n = bf_sr h' b n r + bf_sm h' (20 * r + b) n
    rw [bf_sr_eq e hb r (by omega), bf_sm_eq n (fun j hj => e _ (by omega))]
def sp_keep (S : bs_S) : Int32 × bs_S := (bf_sr S.a 0 20 4, ⟨S.a, S.hs, S.hn, true, S.a, S.tx, S.tl⟩)
theorem c_keep {d : Nat} {M : bb_M} {S : bs_S} (h : bs_CI M S) : bs_api d 13 [bb_R 6 0] M (sp_keep S) := by
  obtain ⟨h1, h2, h3, h4, h5, h6, h7⟩ := h
  have sk6 : ∀ k j, bb_skb k j = true → k ≠ 6 := fun k j hk => by
    unfold bb_skb at hk
    rw [decide_eq_true_eq] at hk
    omega
  have sk : ∀ k j, k = 0 ∨ k = 5 ∨ k = 6 ∨ k = 17 ∨ 20 ≤ k ∨ k = 7 → bb_skb k j = false := fun k j hk => by
    unfold bb_skb
    rw [decide_eq_false_iff_not]
    omega
  have e0 : ∀ j, j < 80 → bb_up (bb_cS M 2 0) 6 0 3 1 10 0 j = S.a j := fun j hj => by rw [bb_up_k (by decide), bb_cS_o (by decide)]; exact h1.1 j hj
  have ea := bf_sr_eq (b := 0) (n := 20) e0 (by decide) 4 (Nat.le_refl _)
  have ot : ∀ k i j, i ≠ 2 → k ≠ 6 → bb_up (bb_cS M 2 0) 6 0 3 1 k i j = M k i j := fun k i j z1 z2 => by rw [bb_up_k z2, bb_cS_o z1]
  refine ⟨bb_up (bb_cS M 2 0) 6 0 3 1, fun k => bb_cal (st_X6_keep ?_), ⟨bs_rep_i h1 h2 (fun k n hk => ot k 0 n (by decide) (sk6 k n hk)), h2, ?_, ?_, fun _ => ⟨bs_rep_cong h1 h2.2.2.2.2.2.2.1.1 h2.2.2.2.2.2.2.2.2.1 (fun k n hk => by rw [bb_up_k (sk6 k n hk), bb_cS_i hk]), h2⟩, ⟨⟨?_, fun j hj => ?_⟩, h6.2⟩, fun j hj => ?_⟩, fun k j hk => ?_⟩
  · simp (disch := omega) only [e_X6_keep_0, e_X6_keep_1, e_X6_keep_4, e_X6_keep_5, e_X6_keep_8, e_X6_keep_11, e_X6_keep_12, e_X6_keep_13, e_X6_keep_16, e_X6_keep_17, e_X6_keep_20, e_X6_keep_23, e_X6_keep_26, Option.toList_some, Option.toList_none, List.cons_append, List.nil_append, true_and, and_true, and_self, bb_ite, true_or, or_true, Option.some.injEq, bb_I_eq, bb_b_0e, bb_b_1e, bb_b_e0, bb_b_e1, decide_eq_true_eq, decide_eq_false_iff_not, bn_01, bn_11, bb_b_01, ne_eq, Bool.not_eq_false, Bool.not_eq_true, Classical.not_not, bn_lt, bn_le, bn_ti, Int32.reduceToInt, bn_m20, bn_20m, nI_add, bn_p1, bn_s1, bn_in, bn_cl, implies_true, not_true_eq_false, not_false_eq_true, Bool.true_and, Bool.false_and, Bool.and_true, Bool.and_false, Bool.true_or, Bool.false_or, Bool.or_true, Bool.or_false, Bool.not_true, Bool.not_false, false_implies, true_implies, forall_const, Bool.false_eq_true, Bool.true_eq_false, reduceCtorEq, eq_self, Bool.and_eq_true, Bool.or_eq_true, Bool.and_eq_false_iff, Bool.or_eq_false_iff, and_false, false_and, or_false, false_or, x_X4_copyFrom, x_X3_all, ea]
    try trivial
  · obtain ⟨g1, g2, nx, g3, g4, g5⟩ := h3
    exact ⟨g1, by rw [ot _ _ _ (by decide) (by decide)]; exact g2, nx, g3, by rw [ot _ _ _ (by decide) (by decide)]; exact g4, fun j hj => ⟨(g5 j hj).1, bs_rep_i (g5 j hj).2 (g5 j hj).1 (fun k n hk => ot k _ n (by unfold bs_slot; omega) (sk6 k n hk))⟩⟩
  · rw [bb_up_at]
    rfl
  · rw [ot _ _ _ (by decide) (by decide)]; exact h6.1.1
  · rw [ot _ _ _ (by decide) (by decide)]; exact h6.1.2 j hj
  · rw [ot _ _ _ (by decide) (by decide), ot _ _ _ (by decide) (by decide)]; exact h7 j hj
  · exact ot _ _ _ (by decide) (by omega)
theorem bc_fr_cS {M : bb_M} {s : Nat} : bc_fr M (bb_cS M 0 s) := by
  intro k i j hk
  by_cases q : i = 0
  · subst q
    refine bb_cS_k ?_
    unfold bb_skb
    rw [decide_eq_false_iff_not]
    omega
  · exact bb_cS_o q
def sp_restore (S : bs_S) : Int32 × bs_S := if S.sT = true then (bf_sr S.sn 0 20 4, bs_act S S.sn) else (-1005, S)
theorem c_restore {d : Nat} {M : bb_M} {S : bs_S} (h : bs_CI M S) : bs_api d 14 [bb_R 6 0] M (sp_restore S) := by
  unfold sp_restore
  have t := h.2.2.2.1
  by_cases q : S.sT = true
  · rw [if_pos q]
    rw [q] at t
    obtain ⟨s1, s2⟩ := h.2.2.2.2.1 q
    obtain ⟨M1, e1, e2, e3⟩ := x_X0_record (d := d + 4) h.2.2.1 (s := 0) (by decide) h.1 h.2.1
    have c := bs_CI_rec h e2 e3
    obtain ⟨s3, s4⟩ := c.2.2.2.2.1 q
    have r2 : bs_rep (bb_cS M1 0 2) 0 S.sn := bs_rep_cong s3 s4.2.2.2.2.2.2.1.1 s4.2.2.2.2.2.2.2.2.1 (fun k n hk => bb_cS_i hk)
    have ea := bf_sr_eq (b := 0) (n := 20) r2.1 (by decide) 4 (Nat.le_refl _)
    refine ⟨bb_cS M1 0 2, fun k => bb_cal (st_X6_restore ?_), bs_CI_fr c bc_fr_cS r2 s2, bs_ref_tr (bs_ref_fh e3) (bs_ref_fr bc_fr_cS)⟩
    simp (disch := omega) only [e_X6_restore_0, e_X6_restore_1, e_X6_restore_4, e_X6_restore_7, e_X6_restore_10, e_X6_restore_11, e_X6_restore_12, e_X6_restore_15, e_X6_restore_16, e_X6_restore_19, e_X6_restore_22, e_X6_restore_23, e_X6_restore_26, e_X6_restore_27, e_X6_restore_30, e_X6_restore_33, e_X6_restore_34, e_X6_restore_37, e_X6_restore_40, e_X6_restore_43, Option.toList_some, Option.toList_none, List.cons_append, List.nil_append, true_and, and_true, and_self, bb_ite, true_or, or_true, Option.some.injEq, bb_I_eq, bb_b_0e, bb_b_1e, bb_b_e0, bb_b_e1, decide_eq_true_eq, decide_eq_false_iff_not, bn_01, bn_11, bb_b_01, ne_eq, Bool.not_eq_false, Bool.not_eq_true, Classical.not_not, bn_lt, bn_le, bn_ti, Int32.reduceToInt, bn_m20, bn_20m, nI_add, bn_p1, bn_s1, bn_in, bn_cl, implies_true, not_true_eq_false, not_false_eq_true, Bool.true_and, Bool.false_and, Bool.and_true, Bool.and_false, Bool.true_or, Bool.false_or, Bool.or_true, Bool.or_false, Bool.not_true, Bool.not_false, false_implies, true_implies, forall_const, Bool.false_eq_true, Bool.true_eq_false, reduceCtorEq, eq_self, Bool.and_eq_true, Bool.or_eq_true, Bool.and_eq_false_iff, Bool.or_eq_false_iff, and_false, false_and, or_false, false_or, t, x_X4_copyFrom, x_X3_all, ea, e1]
    try trivial
  · rw [if_neg q]
    rw [Bool.not_eq_true] at q
    rw [q] at t
    refine ⟨M, fun k => bb_cal (st_X6_restore ?_), h, bs_ref_rf⟩
    simp (disch := omega) only [e_X6_restore_0, e_X6_restore_1, e_X6_restore_4, e_X6_restore_7, e_X6_restore_10, e_X6_restore_11, e_X6_restore_12, e_X6_restore_15, e_X6_restore_16, e_X6_restore_19, e_X6_restore_22, e_X6_restore_23, e_X6_restore_26, e_X6_restore_27, e_X6_restore_30, e_X6_restore_33, e_X6_restore_34, e_X6_restore_37, e_X6_restore_40, e_X6_restore_43, Option.toList_some, Option.toList_none, List.cons_append, List.nil_append, true_and, and_true, and_self, bb_ite, true_or, or_true, Option.some.injEq, bb_I_eq, bb_b_0e, bb_b_1e, bb_b_e0, bb_b_e1, decide_eq_true_eq, decide_eq_false_iff_not, bn_01, bn_11, bb_b_01, ne_eq, Bool.not_eq_false, Bool.not_eq_true, Classical.not_not, bn_lt, bn_le, bn_ti, Int32.reduceToInt, bn_m20, bn_20m, nI_add, bn_p1, bn_s1, bn_in, bn_cl, implies_true, not_true_eq_false, not_false_eq_true, Bool.true_and, Bool.false_and, Bool.and_true, Bool.and_false, Bool.true_or, Bool.false_or, Bool.or_true, Bool.or_false, Bool.not_true, Bool.not_false, false_implies, true_implies, forall_const, Bool.false_eq_true, Bool.true_eq_false, reduceCtorEq, eq_self, Bool.and_eq_true, Bool.or_eq_true, Bool.and_eq_false_iff, Bool.or_eq_false_iff, and_false, false_and, or_false, false_or, t]
    try trivial
