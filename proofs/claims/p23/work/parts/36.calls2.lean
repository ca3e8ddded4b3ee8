/-! TEXT, UNDO, KEEP, RESTORE -/
theorem x_X5_length {d : Nat} {M : bb_M} {k : Option bb_V → bb_M → Prop} : bb_call (bb_CL (d + 1)) 69 [bb_R 5 0] M k ↔ k (some (bb_I (M 5 0 1))) M := by
  refine bb_cal (st_X5_length ?_)
  simp only [e_X5_length_0, e_X5_length_1, e_X5_length_4, Option.toList_some, Option.toList_none, List.cons_append, List.nil_append, true_and, and_true, and_self, bb_ite, true_or, or_true, Option.some.injEq, bb_I_eq, bb_b_0e, bb_b_1e, bb_b_e0, bb_b_e1, decide_eq_true_eq, decide_eq_false_iff_not, bn_01, bn_11, bb_b_01, ne_eq, Bool.not_eq_false, Bool.not_eq_true, Classical.not_not]
theorem x_X0_size {d : Nat} {M : bb_M} {k : Option bb_V → bb_M → Prop} : bb_call (bb_CL (d + 1)) 26 [bb_R 0 0] M k ↔ k (some (bb_I (M 0 0 2))) M := by
  refine bb_cal (st_X0_size ?_)
  simp only [e_X0_size_0, e_X0_size_1, e_X0_size_4, Option.toList_some, Option.toList_none, List.cons_append, List.nil_append, true_and, and_true, and_self, bb_ite, true_or, or_true, Option.some.injEq, bb_I_eq, bb_b_0e, bb_b_1e, bb_b_e0, bb_b_e1, decide_eq_true_eq, decide_eq_false_iff_not, bn_01, bn_11, bb_b_01, ne_eq, Bool.not_eq_false, Bool.not_eq_true, Classical.not_not]
/-- the text alone changes -/
theorem bs_CI_tx {M M' : bb_M} {S : bs_S} {tx : Nat → Int32} {tl : Nat} (h : bs_CI M S) (hf : ∀ k i j, k ≠ 5 → k ≠ 17 → M' k i j = M k i j) (ht : bt_TX tx tl M') (hl : tl ≤ 60) : bs_CI M' ⟨S.a, S.hs, S.hn, S.sT, S.sn, tx, tl⟩ := by
  obtain ⟨h1, h2, h3, h4, h5, h6, h7⟩ := h
  have sk : ∀ k n, bb_skb k n = true → k ≠ 5 ∧ k ≠ 17 := fun k n hk => by
    unfold bb_skb at hk
    rw [decide_eq_true_eq] at hk
    omega
  have hr : ∀ i a, bs_inv a → bs_rep M i a → bs_rep M' i a := fun i a hi hr => bs_rep_i hr hi (fun k n hk => hf k i n (sk k n hk).1 (sk k n hk).2)
  refine ⟨hr _ _ h2 h1, h2, ?_, ?_, fun z => ⟨hr _ _ (h5 z).2 (h5 z).1, (h5 z).2⟩, ⟨ht, hl⟩, fun j hj => ?_⟩
  · obtain ⟨g1, g2, nx, g3, g4, g5⟩ := h3
    exact ⟨g1, by rw [hf _ _ _ (by decide) (by decide)]; exact g2, nx, g3, by rw [hf _ _ _ (by decide) (by decide)]; exact g4, fun j hj => ⟨(g5 j hj).1, hr _ _ (g5 j hj).1 (g5 j hj).2⟩⟩
  · rw [hf _ _ _ (by decide) (by decide)]; exact h4
  · rw [hf _ _ _ (by decide) (by decide), hf _ _ _ (by decide) (by decide)]; exact h7 j hj
def sp_type (S : bs_S) (x : Int32) : Int32 × bs_S := if S.tl = 60 then (-1003, S) else (nI (S.tl + 1), ⟨S.a, S.hs, S.hn, S.sT, S.sn, upd S.tx S.tl (vp_nar .char x), S.tl + 1⟩)
def sp_clear (S : bs_S) : Int32 × bs_S := (nI S.tl, ⟨S.a, S.hs, S.hn, S.sT, S.sn, S.tx, 0⟩)
def sp_undo (S : bs_S) : Int32 × bs_S := if S.hn = 0 then (-1005, S) else (nI (S.hn - 1), ⟨S.hs (S.hn - 1), S.hs, S.hn - 1, S.sT, S.sn, S.tx, S.tl⟩)
theorem c_undo {d : Nat} {M : bb_M} {S : bs_S} (h : bs_CI M S) : bs_api d 9 [bb_R 6 0] M (sp_undo S) := by
  unfold sp_undo
  have t1 := h.2.2.1.2.1
  have t4 := h.2.2.1.1
  by_cases q : S.hn = 0
  · rw [if_pos q]
    refine ⟨M, fun k => bb_cal (st_X6_undo ?_), h, bs_ref_rf⟩
    simp (disch := omega) only [e_X6_undo_0, e_X6_undo_1, e_X6_undo_4, e_X6_undo_7, e_X6_undo_10, e_X6_undo_13, e_X6_undo_14, e_X6_undo_15, e_X6_undo_18, e_X6_undo_19, e_X6_undo_22, e_X6_undo_25, e_X6_undo_26, e_X6_undo_29, e_X6_undo_32, Option.toList_some, Option.toList_none, List.cons_append, List.nil_append, true_and, and_true, and_self, bb_ite, true_or, or_true, Option.some.injEq, bb_I_eq, bb_b_0e, bb_b_1e, bb_b_e0, bb_b_e1, decide_eq_true_eq, decide_eq_false_iff_not, bn_01, bn_11, bb_b_01, ne_eq, Bool.not_eq_false, Bool.not_eq_true, Classical.not_not, bn_lt, bn_le, bn_ti, Int32.reduceToInt, bn_m20, bn_20m, nI_add, bn_p1, bn_s1, bn_in, bn_cl, implies_true, not_true_eq_false, not_false_eq_true, Bool.true_and, Bool.false_and, Bool.and_true, Bool.and_false, Bool.true_or, Bool.false_or, Bool.or_true, Bool.or_false, Bool.not_true, Bool.not_false, false_implies, true_implies, forall_const, Bool.false_eq_true, Bool.true_eq_false, reduceCtorEq, eq_self, Bool.and_eq_true, Bool.or_eq_true, Bool.and_eq_false_iff, Bool.or_eq_false_iff, and_false, false_and, or_false, false_or, x_X0_size, t1, q, bn_nI0]
  · rw [if_neg q]
    obtain ⟨n, hn⟩ : ∃ n, S.hn = n + 1 := ⟨S.hn - 1, by omega⟩
    have hH := h.2.2.1
    rw [hn] at hH t1
    obtain ⟨M', e1, e2, e3, e4, e5⟩ := x_X0_takeBack (d := d + 4) hH
    have l : ¬ n + 1 = 0 := by omega
    have t2 := e2.2.1
    obtain ⟨h1, h2, h3, h4, h5, h6, h7⟩ := h
    have sk : ∀ k j, k = 5 ∨ k = 6 ∨ k = 17 ∨ 20 ≤ k ∨ k = 7 → bb_skb k j = false := fun k j hk => by
      unfold bb_skb
      rw [decide_eq_false_iff_not]
      omega
    rw [hn, Nat.add_sub_cancel]
    refine ⟨M', fun k => bb_cal (st_X6_undo ?_), ⟨e3, e4, e2, ?_, fun z => ⟨bs_rep_i (h5 z).1 (h5 z).2 (fun k n hk => e5 k 2 n (bs_skb_ne hk) (Or.inl (by decide))), (h5 z).2⟩, ⟨⟨?_, fun j hj => ?_⟩, h6.2⟩, fun j hj => ?_⟩, fun k j hk => e5 k 0 j (by omega) (Or.inr (sk k j (by omega)))⟩
    · simp (disch := omega) only [e_X6_undo_0, e_X6_undo_1, e_X6_undo_4, e_X6_undo_7, e_X6_undo_10, e_X6_undo_13, e_X6_undo_14, e_X6_undo_15, e_X6_undo_18, e_X6_undo_19, e_X6_undo_22, e_X6_undo_25, e_X6_undo_26, e_X6_undo_29, e_X6_undo_32, Option.toList_some, Option.toList_none, List.cons_append, List.nil_append, true_and, and_true, and_self, bb_ite, true_or, or_true, Option.some.injEq, bb_I_eq, bb_b_0e, bb_b_1e, bb_b_e0, bb_b_e1, decide_eq_true_eq, decide_eq_false_iff_not, bn_01, bn_11, bb_b_01, ne_eq, Bool.not_eq_false, Bool.not_eq_true, Classical.not_not, bn_lt, bn_le, bn_ti, Int32.reduceToInt, bn_m20, bn_20m, nI_add, bn_p1, bn_s1, bn_in, bn_cl, implies_true, not_true_eq_false, not_false_eq_true, Bool.true_and, Bool.false_and, Bool.and_true, Bool.and_false, Bool.true_or, Bool.false_or, Bool.or_true, Bool.or_false, Bool.not_true, Bool.not_false, false_implies, true_implies, forall_const, Bool.false_eq_true, Bool.true_eq_false, reduceCtorEq, eq_self, Bool.and_eq_true, Bool.or_eq_true, Bool.and_eq_false_iff, Bool.or_eq_false_iff, and_false, false_and, or_false, false_or, x_X0_size, t1, l, bn_nI0, e1, t2]
    · rw [e5 6 0 3 (by decide) (Or.inr (sk _ _ (by omega)))]; exact h4
    · rw [e5 5 0 1 (by decide) (Or.inr (sk _ _ (by omega)))]; exact h6.1.1
    · rw [e5 17 0 j (by decide) (Or.inr (sk _ _ (by omega)))]; exact h6.1.2 j hj
    · rw [e5 30 0 j (by decide) (Or.inr (sk _ _ (by omega))), e5 31 0 j (by decide) (Or.inr (sk _ _ (by omega)))]; exact h7 j hj
theorem bf_sm_eq {h h' : Nat → Int32} {b : Nat} : ∀ n, (∀ j, j < n → h (b + j) = h' (b + j)) → bf_sm h b n = bf_sm h' b n
  | 0, _ => rfl
  | n + 1, e => by
    show bf_sm h b n + h (b + n) = bf_sm h' b n + h' (b + n)
    rw [bf_sm_eq n (fun j hj => e j (by omega)), e n (by omega)]
theorem bf_sr_eq {h h' : Nat → Int32} {b n : Nat} (e : ∀ j, j < 80 → h j = h' j) (hb : b + n ≤ 20) : ∀ r, r ≤ 4 → bf_sr h b n r = bf_sr h' b n r
  | 0, _ => rfl
  | r + 1, hr => by
    show bf_sr h b n r + bf_sm h (20 * r + b) n = bf_sr h' b n r + bf_sm h' (20 * r + b) n
    rw [bf_sr_eq e hb r (by omega), bf_sm_eq n (fun j hj => e _ (by omega))]
def sp_keep (S : bs_S) : Int32 × bs_S := (bf_sr S.a 0 20 4, ⟨S.a, S.hs, S.hn, true, S.a, S.tx, S.tl⟩)
theorem bc_fr_cS {M : bb_M} {s : Nat} : bc_fr M (bb_cS M 0 s) := by
  intro k i j hk
  by_cases q : i = 0
  · subst q
    refine bb_cS_k ?_
    unfold bb_skb
    rw [decide_eq_false_iff_not]
    omega
  · exact bb_cS_o q
def sp_restore (S : bs_S) : Int32 × bs_S := if S.sT = true then (bf_sr S.sn 0 20 4, bs_act S S.sn) else (-1005, S)