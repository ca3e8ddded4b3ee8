/-! THE CLASS'S CALLS: what they answer and what is after them -/
abbrev bs_S : Type := (Nat → Int32) × (Nat → Nat → Int32) × Nat × Bool × (Nat → Int32) × (Nat → Int32) × Nat
abbrev bs_S.a (S : bs_S) : Nat → Int32 := S.1
abbrev bs_S.hs (S : bs_S) : Nat → Nat → Int32 := S.2.1
abbrev bs_S.hn (S : bs_S) : Nat := S.2.2.1
abbrev bs_S.sT (S : bs_S) : Bool := S.2.2.2.1
abbrev bs_S.sn (S : bs_S) : Nat → Int32 := S.2.2.2.2.1
abbrev bs_S.tx (S : bs_S) : Nat → Int32 := S.2.2.2.2.2.1
abbrev bs_S.tl (S : bs_S) : Nat := S.2.2.2.2.2.2
def bs_stc (M : bb_M) : Prop := ∀ j, j < 4 → M 30 0 j = [1, 0, 1, 4].getD j 0 ∧ M 31 0 j = [20, 2, 20, 30].getD j 0
def bs_CI (M : bb_M) (S : bs_S) : Prop := bs_rep M 0 S.a ∧ bs_inv S.a ∧ bs_CH M S.hs S.hn ∧ M 6 0 3 = bb_b S.sT ∧ (S.sT = true → bs_rep M 2 S.sn ∧ bs_inv S.sn) ∧ (bt_TX S.tx S.tl M ∧ S.tl ≤ 60) ∧ bs_stc M
def bs_act (S : bs_S) (a' : Nat → Int32) : bs_S := ⟨a', bs_push S.hs S.hn S.a, min (S.hn + 1) 4, S.sT, S.sn, S.tx, S.tl⟩
/-- the other side's memory is as it was -/
def bs_ref (M M' : bb_M) : Prop := ∀ k j, (k = 7 ∨ 21 ≤ k) → M' k 0 j = M k 0 j
theorem bs_ref_rf {M : bb_M} : bs_ref M M := fun _ _ _ => rfl
theorem bs_ref_tr {M M1 M2 : bb_M} (h1 : bs_ref M M1) (h2 : bs_ref M1 M2) : bs_ref M M2 := fun k j h => (h2 k j h).trans (h1 k j h)
theorem bs_ref_fh {M M' : bb_M} (h : bs_fh M M') : bs_ref M M' := fun k j hk => h k 0 j (by omega) (by omega)
theorem bs_ref_fr {M M' : bb_M} (h : bc_fr M M') : bs_ref M M' := fun k j hk => h k 0 j (by omega)
def bs_api (d y : Nat) (as : List bb_V) (M : bb_M) (o : Int32 × bs_S) : Prop := ∃ M', (∀ k : Option bb_V → bb_M → Prop, bb_call (bb_CL (d + 8)) y as M k ↔ k (some (bb_I o.1)) M') ∧ bs_CI M' o.2 ∧ bs_ref M M'
theorem bs_CH_fr {M M' : bb_M} {hs : Nat → Nat → Int32} {hn : Nat} (h : bs_CH M hs hn) (hf : bc_fr M M') : bs_CH M' hs hn := by
  obtain ⟨h1, h2, nx, h3, h4, h5⟩ := h
  refine ⟨h1, ?_, nx, h3, ?_, fun j hj => ⟨(h5 j hj).1, ?_⟩⟩
  · rw [hf 0 0 2 (by omega)]; exact h2
  · rw [hf 0 0 1 (by omega)]; exact h4
  · exact bs_rep_i (h5 j hj).2 (h5 j hj).1 (fun k n _ => hf k _ n (Or.inl (by unfold bs_slot; omega)))
/-- what is left beside the state -/
theorem bs_CI_fr {M M' : bb_M} {S : bs_S} (h : bs_CI M S) (hf : bc_fr M M') {a' : Nat → Int32} (hr : bs_rep M' 0 a') (hi : bs_inv a') : bs_CI M' ⟨a', S.hs, S.hn, S.sT, S.sn, S.tx, S.tl⟩ := by
  obtain ⟨h1, h2, h3, h4, h5, h6, h7⟩ := h
  refine ⟨hr, hi, bs_CH_fr h3 hf, ?_, fun z => ⟨bs_rep_i (h5 z).1 (h5 z).2 (fun k n _ => hf k 2 n (by omega)), (h5 z).2⟩, ⟨⟨?_, fun j hj => ?_⟩, h6.2⟩, fun j hj => ?_⟩
  · rw [hf 6 0 3 (by omega)]; exact h4
  · rw [hf 5 0 1 (by omega)]; exact h6.1.1
  · rw [hf 17 0 j (by omega)]; exact h6.1.2 j hj
  · rw [hf 30 0 j (by omega), hf 31 0 j (by omega)]; exact h7 j hj
/-- a state of the history is written -/
theorem bs_CI_rec {M M1 : bb_M} {S : bs_S} {hs : Nat → Nat → Int32} {hn : Nat} (h : bs_CI M S) (hH : bs_CH M1 hs hn) (hf : bs_fh M M1) : bs_CI M1 ⟨S.a, hs, hn, S.sT, S.sn, S.tx, S.tl⟩ := by
  obtain ⟨h1, h2, h3, h4, h5, h6, h7⟩ := h
  refine ⟨bs_rep_i h1 h2 (fun k n hk => hf k 0 n (bs_skb_ne hk) (by omega)), h2, hH, ?_, fun z => ⟨bs_rep_i (h5 z).1 (h5 z).2 (fun k n hk => hf k 2 n (bs_skb_ne hk) (by omega)), (h5 z).2⟩, ⟨⟨?_, fun j hj => ?_⟩, h6.2⟩, fun j hj => ?_⟩
  · rw [hf 6 0 3 (by omega) (by omega)]; exact h4
  · rw [hf 5 0 1 (by omega) (by omega)]; exact h6.1.1
  · rw [hf 17 0 j (by omega) (by omega)]; exact h6.1.2 j hj
  · rw [hf 30 0 j (by omega) (by omega), hf 31 0 j (by omega) (by omega)]; exact h7 j hj
/-- the state is remembered: the memory then, and that what follows keeps to the frame -/
theorem bs_rec {d : Nat} {M : bb_M} {S : bs_S} (h : bs_CI M S) : ∃ M1, (∀ k : Option bb_V → bb_M → Prop, bb_call (bb_CL (d + 3)) 27 [bb_R 0 0, bb_R 4 0] M k ↔ k none M1) ∧ bs_rep M1 0 S.a ∧ bs_ref M M1 ∧ (∀ k j, k ≠ 0 → M1 k 0 j = M k 0 j) ∧ (∀ k j, k ≠ 0 → M1 k 7 j = M k 7 j) ∧ ∀ M2 a', bc_fr M1 M2 → bs_rep M2 0 a' → bs_inv a' → bs_CI M2 (bs_act S a') ∧ bs_ref M M2 := by
  obtain ⟨M1, e1, e2, e3⟩ := x_X0_record (d := d) h.2.2.1 (s := 0) (by decide) h.1 h.2.1
  have c := bs_CI_rec h e2 e3
  refine ⟨M1, e1, c.1, bs_ref_fh e3, fun k j hk => e3 k 0 j hk (by omega), fun k j hk => e3 k 7 j hk (by omega), fun M2 a' hf hr hi => ⟨bs_CI_fr c hf hr hi, bs_ref_tr (bs_ref_fh e3) (bs_ref_fr hf)⟩⟩
/-! values in a range -/
def bv (x : Int32) (lo hi : Int) : Bool := decide (lo ≤ x.toInt ∧ x.toInt ≤ hi)
def bv_N (x : Int32) : Nat := x.toInt.toNat
theorem bv_iff {x : Int32} {lo hi : Int} : bv x lo hi = true ↔ lo ≤ x.toInt ∧ x.toInt ≤ hi := by
  unfold bv
  rw [decide_eq_true_eq]
theorem bv_nI {x : Int32} (h : 0 ≤ x.toInt) : x = nI (bv_N x) := by
  have := x.toInt_lt
  rw [bn_eq, bn_ti (by unfold bv_N; omega)]
  unfold bv_N
  omega
theorem x_X6_isRow {d : Nat} {x : Int32} {M : bb_M} {k : Option bb_V → bb_M → Prop} : bb_call (bb_CL (d + 1)) 17 [bb_I x] M k ↔ k (some (bb_I (bb_b (bv x 0 3)))) M := by
  refine bb_cal (st_X6_isRow ?_)
  simp (disch := omega) only [e_X6_isRow_0, e_X6_isRow_1, e_X6_isRow_4, e_X6_isRow_5, e_X6_isRow_6, e_X6_isRow_9, e_X6_isRow_10, e_X6_isRow_13, e_X6_isRow_14, Option.toList_some, Option.toList_none, List.cons_append, List.nil_append, true_and, and_true, and_self, bb_ite, true_or, or_true, Option.some.injEq, bb_I_eq, bb_b_0e, bb_b_1e, bb_b_e0, bb_b_e1, decide_eq_true_eq, decide_eq_false_iff_not, bn_01, bn_11, bb_b_01, ne_eq, Bool.not_eq_false, Bool.not_eq_true, Classical.not_not, bn_lt, bn_le, bn_ti, Int32.reduceToInt, bn_m20, bn_20m, nI_add, bn_p1, bn_s1, bn_in, bn_cl, implies_true, not_true_eq_false, not_false_eq_true, Bool.true_and, Bool.false_and, Bool.and_true, Bool.and_false, Bool.true_or, Bool.false_or, Bool.or_true, Bool.or_false, Bool.not_true, Bool.not_false, false_implies, true_implies, forall_const, Bool.false_eq_true, Bool.true_eq_false, reduceCtorEq, eq_self, Bool.and_eq_true, Bool.or_eq_true, Bool.and_eq_false_iff, Bool.or_eq_false_iff, and_false, false_and, or_false, false_or]
  unfold bv
  by_cases q : 0 ≤ x.toInt ∧ x.toInt ≤ 3
  · have q1 : ¬ x.toInt < 0 := by omega
    have q2 : ¬ 4 ≤ x.toInt := by omega
    simp only [q, q1, q2, Option.toList_some, Option.toList_none, List.cons_append, List.nil_append, true_and, and_true, and_self, bb_ite, true_or, or_true, Option.some.injEq, bb_I_eq, bb_b_0e, bb_b_1e, bb_b_e0, bb_b_e1, decide_eq_true_eq, decide_eq_false_iff_not, bn_01, bn_11, bb_b_01, ne_eq, Bool.not_eq_false, Bool.not_eq_true, Classical.not_not, bn_lt, bn_le, bn_ti, Int32.reduceToInt, bn_m20, bn_20m, nI_add, bn_p1, bn_s1, bn_in, bn_cl, implies_true, not_true_eq_false, not_false_eq_true, Bool.true_and, Bool.false_and, Bool.and_true, Bool.and_false, Bool.true_or, Bool.false_or, Bool.or_true, Bool.or_false, Bool.not_true, Bool.not_false, false_implies, true_implies, forall_const, Bool.false_eq_true, Bool.true_eq_false, reduceCtorEq, eq_self, Bool.and_eq_true, Bool.or_eq_true, Bool.and_eq_false_iff, Bool.or_eq_false_iff, and_false, false_and, or_false, false_or]
  · by_cases q1 : x.toInt < 0
    · simp only [q, q1, Option.toList_some, Option.toList_none, List.cons_append, List.nil_append, true_and, and_true, and_self, bb_ite, true_or, or_true, Option.some.injEq, bb_I_eq, bb_b_0e, bb_b_1e, bb_b_e0, bb_b_e1, decide_eq_true_eq, decide_eq_false_iff_not, bn_01, bn_11, bb_b_01, ne_eq, Bool.not_eq_false, Bool.not_eq_true, Classical.not_not, bn_lt, bn_le, bn_ti, Int32.reduceToInt, bn_m20, bn_20m, nI_add, bn_p1, bn_s1, bn_in, bn_cl, implies_true, not_true_eq_false, not_false_eq_true, Bool.true_and, Bool.false_and, Bool.and_true, Bool.and_false, Bool.true_or, Bool.false_or, Bool.or_true, Bool.or_false, Bool.not_true, Bool.not_false, false_implies, true_implies, forall_const, Bool.false_eq_true, Bool.true_eq_false, reduceCtorEq, eq_self, Bool.and_eq_true, Bool.or_eq_true, Bool.and_eq_false_iff, Bool.or_eq_false_iff, and_false, false_and, or_false, false_or]
    · have q2 : 4 ≤ x.toInt := by omega
      simp only [q, q1, q2, Option.toList_some, Option.toList_none, List.cons_append, List.nil_append, true_and, and_true, and_self, bb_ite, true_or, or_true, Option.some.injEq, bb_I_eq, bb_b_0e, bb_b_1e, bb_b_e0, bb_b_e1, decide_eq_true_eq, decide_eq_false_iff_not, bn_01, bn_11, bb_b_01, ne_eq, Bool.not_eq_false, Bool.not_eq_true, Classical.not_not, bn_lt, bn_le, bn_ti, Int32.reduceToInt, bn_m20, bn_20m, nI_add, bn_p1, bn_s1, bn_in, bn_cl, implies_true, not_true_eq_false, not_false_eq_true, Bool.true_and, Bool.false_and, Bool.and_true, Bool.and_false, Bool.true_or, Bool.false_or, Bool.or_true, Bool.or_false, Bool.not_true, Bool.not_false, false_implies, true_implies, forall_const, Bool.false_eq_true, Bool.true_eq_false, reduceCtorEq, eq_self, Bool.and_eq_true, Bool.or_eq_true, Bool.and_eq_false_iff, Bool.or_eq_false_iff, and_false, false_and, or_false, false_or]
theorem x_X6_isCell {d : Nat} {x : Int32} {M : bb_M} {k : Option bb_V → bb_M → Prop} : bb_call (bb_CL (d + 1)) 18 [bb_I x] M k ↔ k (some (bb_I (bb_b (bv x 0 19)))) M := by
  refine bb_cal (st_X6_isCell ?_)
  simp (disch := omega) only [e_X6_isCell_0, e_X6_isCell_1, e_X6_isCell_4, e_X6_isCell_5, e_X6_isCell_7, e_X6_isCell_10, e_X6_isCell_11, e_X6_isCell_14, e_X6_isCell_15, Option.toList_some, Option.toList_none, List.cons_append, List.nil_append, true_and, and_true, and_self, bb_ite, true_or, or_true, Option.some.injEq, bb_I_eq, bb_b_0e, bb_b_1e, bb_b_e0, bb_b_e1, decide_eq_true_eq, decide_eq_false_iff_not, bn_01, bn_11, bb_b_01, ne_eq, Bool.not_eq_false, Bool.not_eq_true, Classical.not_not, bn_lt, bn_le, bn_ti, Int32.reduceToInt, bn_m20, bn_20m, nI_add, bn_p1, bn_s1, bn_in, bn_cl, implies_true, not_true_eq_false, not_false_eq_true, Bool.true_and, Bool.false_and, Bool.and_true, Bool.and_false, Bool.true_or, Bool.false_or, Bool.or_true, Bool.or_false, Bool.not_true, Bool.not_false, false_implies, true_implies, forall_const, Bool.false_eq_true, Bool.true_eq_false, reduceCtorEq, eq_self, Bool.and_eq_true, Bool.or_eq_true, Bool.and_eq_false_iff, Bool.or_eq_false_iff, and_false, false_and, or_false, false_or]
  unfold bv
  by_cases q : 0 ≤ x.toInt ∧ x.toInt ≤ 19
  · have q1 : ¬ x.toInt < 0 := by omega
    have q2 : ¬ 20 ≤ x.toInt := by omega
    simp only [q, q1, q2, Option.toList_some, Option.toList_none, List.cons_append, List.nil_append, true_and, and_true, and_self, bb_ite, true_or, or_true, Option.some.injEq, bb_I_eq, bb_b_0e, bb_b_1e, bb_b_e0, bb_b_e1, decide_eq_true_eq, decide_eq_false_iff_not, bn_01, bn_11, bb_b_01, ne_eq, Bool.not_eq_false, Bool.not_eq_true, Classical.not_not, bn_lt, bn_le, bn_ti, Int32.reduceToInt, bn_m20, bn_20m, nI_add, bn_p1, bn_s1, bn_in, bn_cl, implies_true, not_true_eq_false, not_false_eq_true, Bool.true_and, Bool.false_and, Bool.and_true, Bool.and_false, Bool.true_or, Bool.false_or, Bool.or_true, Bool.or_false, Bool.not_true, Bool.not_false, false_implies, true_implies, forall_const, Bool.false_eq_true, Bool.true_eq_false, reduceCtorEq, eq_self, Bool.and_eq_true, Bool.or_eq_true, Bool.and_eq_false_iff, Bool.or_eq_false_iff, and_false, false_and, or_false, false_or]
  · by_cases q1 : x.toInt < 0
    · simp only [q, q1, Option.toList_some, Option.toList_none, List.cons_append, List.nil_append, true_and, and_true, and_self, bb_ite, true_or, or_true, Option.some.injEq, bb_I_eq, bb_b_0e, bb_b_1e, bb_b_e0, bb_b_e1, decide_eq_true_eq, decide_eq_false_iff_not, bn_01, bn_11, bb_b_01, ne_eq, Bool.not_eq_false, Bool.not_eq_true, Classical.not_not, bn_lt, bn_le, bn_ti, Int32.reduceToInt, bn_m20, bn_20m, nI_add, bn_p1, bn_s1, bn_in, bn_cl, implies_true, not_true_eq_false, not_false_eq_true, Bool.true_and, Bool.false_and, Bool.and_true, Bool.and_false, Bool.true_or, Bool.false_or, Bool.or_true, Bool.or_false, Bool.not_true, Bool.not_false, false_implies, true_implies, forall_const, Bool.false_eq_true, Bool.true_eq_false, reduceCtorEq, eq_self, Bool.and_eq_true, Bool.or_eq_true, Bool.and_eq_false_iff, Bool.or_eq_false_iff, and_false, false_and, or_false, false_or]
    · have q2 : 20 ≤ x.toInt := by omega
      simp only [q, q1, q2, Option.toList_some, Option.toList_none, List.cons_append, List.nil_append, true_and, and_true, and_self, bb_ite, true_or, or_true, Option.some.injEq, bb_I_eq, bb_b_0e, bb_b_1e, bb_b_e0, bb_b_e1, decide_eq_true_eq, decide_eq_false_iff_not, bn_01, bn_11, bb_b_01, ne_eq, Bool.not_eq_false, Bool.not_eq_true, Classical.not_not, bn_lt, bn_le, bn_ti, Int32.reduceToInt, bn_m20, bn_20m, nI_add, bn_p1, bn_s1, bn_in, bn_cl, implies_true, not_true_eq_false, not_false_eq_true, Bool.true_and, Bool.false_and, Bool.and_true, Bool.and_false, Bool.true_or, Bool.false_or, Bool.or_true, Bool.or_false, Bool.not_true, Bool.not_false, false_implies, true_implies, forall_const, Bool.false_eq_true, Bool.true_eq_false, reduceCtorEq, eq_self, Bool.and_eq_true, Bool.or_eq_true, Bool.and_eq_false_iff, Bool.or_eq_false_iff, and_false, false_and, or_false, false_or]
theorem x_X6_isWaveHeight {d : Nat} {x : Int32} {M : bb_M} {k : Option bb_V → bb_M → Prop} : bb_call (bb_CL (d + 1)) 19 [bb_I x] M k ↔ k (some (bb_I (bb_b (bv x 1 20)))) M := by
  refine bb_cal (st_X6_isWaveHeight ?_)
  simp (disch := omega) only [e_X6_isWaveHeight_0, e_X6_isWaveHeight_1, e_X6_isWaveHeight_2, e_X6_isWaveHeight_5, e_X6_isWaveHeight_6, e_X6_isWaveHeight_8, e_X6_isWaveHeight_11, e_X6_isWaveHeight_12, e_X6_isWaveHeight_15, e_X6_isWaveHeight_16, Option.toList_some, Option.toList_none, List.cons_append, List.nil_append, true_and, and_true, and_self, bb_ite, true_or, or_true, Option.some.injEq, bb_I_eq, bb_b_0e, bb_b_1e, bb_b_e0, bb_b_e1, decide_eq_true_eq, decide_eq_false_iff_not, bn_01, bn_11, bb_b_01, ne_eq, Bool.not_eq_false, Bool.not_eq_true, Classical.not_not, bn_lt, bn_le, bn_ti, Int32.reduceToInt, bn_m20, bn_20m, nI_add, bn_p1, bn_s1, bn_in, bn_cl, implies_true, not_true_eq_false, not_false_eq_true, Bool.true_and, Bool.false_and, Bool.and_true, Bool.and_false, Bool.true_or, Bool.false_or, Bool.or_true, Bool.or_false, Bool.not_true, Bool.not_false, false_implies, true_implies, forall_const, Bool.false_eq_true, Bool.true_eq_false, reduceCtorEq, eq_self, Bool.and_eq_true, Bool.or_eq_true, Bool.and_eq_false_iff, Bool.or_eq_false_iff, and_false, false_and, or_false, false_or]
  unfold bv
  by_cases q : 1 ≤ x.toInt ∧ x.toInt ≤ 20
  · have q1 : ¬ x.toInt < 1 := by omega
    have q2 : ¬ 20 < x.toInt := by omega
    simp only [q, q1, q2, Option.toList_some, Option.toList_none, List.cons_append, List.nil_append, true_and, and_true, and_self, bb_ite, true_or, or_true, Option.some.injEq, bb_I_eq, bb_b_0e, bb_b_1e, bb_b_e0, bb_b_e1, decide_eq_true_eq, decide_eq_false_iff_not, bn_01, bn_11, bb_b_01, ne_eq, Bool.not_eq_false, Bool.not_eq_true, Classical.not_not, bn_lt, bn_le, bn_ti, Int32.reduceToInt, bn_m20, bn_20m, nI_add, bn_p1, bn_s1, bn_in, bn_cl, implies_true, not_true_eq_false, not_false_eq_true, Bool.true_and, Bool.false_and, Bool.and_true, Bool.and_false, Bool.true_or, Bool.false_or, Bool.or_true, Bool.or_false, Bool.not_true, Bool.not_false, false_implies, true_implies, forall_const, Bool.false_eq_true, Bool.true_eq_false, reduceCtorEq, eq_self, Bool.and_eq_true, Bool.or_eq_true, Bool.and_eq_false_iff, Bool.or_eq_false_iff, and_false, false_and, or_false, false_or]
  · by_cases q1 : x.toInt < 1
    · simp only [q, q1, Option.toList_some, Option.toList_none, List.cons_append, List.nil_append, true_and, and_true, and_self, bb_ite, true_or, or_true, Option.some.injEq, bb_I_eq, bb_b_0e, bb_b_1e, bb_b_e0, bb_b_e1, decide_eq_true_eq, decide_eq_false_iff_not, bn_01, bn_11, bb_b_01, ne_eq, Bool.not_eq_false, Bool.not_eq_true, Classical.not_not, bn_lt, bn_le, bn_ti, Int32.reduceToInt, bn_m20, bn_20m, nI_add, bn_p1, bn_s1, bn_in, bn_cl, implies_true, not_true_eq_false, not_false_eq_true, Bool.true_and, Bool.false_and, Bool.and_true, Bool.and_false, Bool.true_or, Bool.false_or, Bool.or_true, Bool.or_false, Bool.not_true, Bool.not_false, false_implies, true_implies, forall_const, Bool.false_eq_true, Bool.true_eq_false, reduceCtorEq, eq_self, Bool.and_eq_true, Bool.or_eq_true, Bool.and_eq_false_iff, Bool.or_eq_false_iff, and_false, false_and, or_false, false_or]
    · have q2 : 20 < x.toInt := by omega
      simp only [q, q1, q2, Option.toList_some, Option.toList_none, List.cons_append, List.nil_append, true_and, and_true, and_self, bb_ite, true_or, or_true, Option.some.injEq, bb_I_eq, bb_b_0e, bb_b_1e, bb_b_e0, bb_b_e1, decide_eq_true_eq, decide_eq_false_iff_not, bn_01, bn_11, bb_b_01, ne_eq, Bool.not_eq_false, Bool.not_eq_true, Classical.not_not, bn_lt, bn_le, bn_ti, Int32.reduceToInt, bn_m20, bn_20m, nI_add, bn_p1, bn_s1, bn_in, bn_cl, implies_true, not_true_eq_false, not_false_eq_true, Bool.true_and, Bool.false_and, Bool.and_true, Bool.and_false, Bool.true_or, Bool.false_or, Bool.or_true, Bool.or_false, Bool.not_true, Bool.not_false, false_implies, true_implies, forall_const, Bool.false_eq_true, Bool.true_eq_false, reduceCtorEq, eq_self, Bool.and_eq_true, Bool.or_eq_true, Bool.and_eq_false_iff, Bool.or_eq_false_iff, and_false, false_and, or_false, false_or]
/-! one number of the state is written -/
def bs_at (k j p : Nat) : Prop := (k = 10 ∧ j < 80 ∧ p = j) ∨ (k = 15 ∧ 1 ≤ j ∧ j ≤ 8 ∧ p = 133 + j) ∨ (k = 14 ∧ j < 4 ∧ p = 81 + j) ∨ (k = 4 ∧ j = 6 ∧ p = 80)
theorem bs_rep_up {M : bb_M} {a : Nat → Int32} {k0 j0 p : Nat} {v : Int32} (h : bs_rep M 0 a) (hp : bs_at k0 j0 p) (hz : bs_sz a ≤ 24) (ht : bs_tl a ≤ 24) : bs_rep (bb_up M k0 0 j0 v) 0 (upd a p v) := by
  obtain ⟨h1, h2, h3, h4, h5, h6, h7, h8⟩ := h
  unfold bs_at at hp
  have esz : bs_sz (upd a p v) = bs_sz a := by unfold bs_sz; rw [bw_upd_c (by omega)]
  have etl : bs_tl (upd a p v) = bs_tl a := by unfold bs_tl; rw [bw_upd_c (by omega)]
  have key : ∀ k j q, (k = k0 ∧ j = j0 ↔ q = p) → M k 0 j = a q → bb_up M k0 0 j0 v k 0 j = upd a p v q := fun k j q hq e => by
    unfold bb_up
    rw [bf_upd]
    by_cases z : q = p
    · have := hq.mpr z
      rw [if_pos z, if_pos ⟨this.1, rfl, this.2⟩]
    · rw [if_neg z, if_neg (fun y => z (hq.mp ⟨y.1, y.2.2⟩)), e]
  refine ⟨fun j hj => key _ _ _ (by omega) (h1 j hj), key _ _ _ (by omega) h2, fun j hj => key _ _ _ (by omega) (h3 j hj), key _ _ _ (by omega) h4, ?_, fun j hj => key _ _ _ (by omega) (h6 j hj), key _ _ _ (by omega) h7, ?_⟩
  · rw [esz]
    exact fun j hj => ⟨key _ _ _ (by omega) (h5 j hj).1, key _ _ _ (by omega) (h5 j hj).2⟩
  · rw [etl]
    exact fun j hj => key _ _ _ (by omega) (h8 j hj)
theorem bs_inv_up {a : Nat → Int32} {p : Nat} {v : Int32} (h : bs_inv a) (hp : (p < 80 ∧ 0 ≤ v.toInt ∧ v.toInt ≤ 99) ∨ (134 ≤ p ∧ p < 142) ∨ (p = 80 ∧ 20 ≤ v.toInt ∧ v.toInt ≤ 70) ∨ (p = 81 ∧ 1 ≤ v.toInt ∧ v.toInt ≤ 20) ∨ (p = 82 ∧ 0 ≤ v.toInt ∧ v.toInt ≤ 2) ∨ (p = 83 ∧ 1 ≤ v.toInt ∧ v.toInt ≤ 20) ∨ (p = 84 ∧ 4 ≤ v.toInt ∧ v.toInt ≤ 30)) : bs_inv (upd a p v) := by
  obtain ⟨h1, h2, h3, h4, h5, h6, h7, h8, h9⟩ := h
  have h78 := h7.1
  have esz : bs_sz (upd a p v) = bs_sz a := by unfold bs_sz; rw [bw_upd_c (by omega)]
  have etl : bs_tl (upd a p v) = bs_tl a := by unfold bs_tl; rw [bw_upd_c (by omega)]
  refine ⟨fun j hj => ?_, ?_, ?_, ?_, ?_, ?_, ?_, ?_, ?_⟩
  · rw [bf_upd]
    split
    · omega
    · exact h1 j hj
  · rw [bf_upd]
    split <;> omega
  · rw [bf_upd]
    split <;> omega
  · rw [bf_upd]
    split <;> omega
  · rw [bf_upd]
    split <;> omega
  · rw [bf_upd]
    split <;> omega
  · rw [esz, bw_upd_c (by omega)]; exact h7
  · rw [esz]
    intro j hj
    obtain ⟨r, hh, e⟩ := h8 j hj
    exact ⟨r, hh, by rw [bw_upd_c (by omega), bw_upd_c (by omega)]; exact e⟩
  · rw [etl, bw_upd_c (by omega)]; exact h9
theorem bc_fr_up {M : bb_M} {k j : Nat} {v : Int32} (h : k ≠ 0 ∧ k ≠ 5 ∧ k ≠ 6 ∧ k ≠ 7 ∧ k ≠ 17 ∧ k < 20) : bc_fr M (bb_up M k 0 j v) := by
  intro k' i' j' hk
  unfold bb_up
  rw [if_neg (by omega)]
