/-! THE REFERENCE'S CALLS -/
/-- the reference's memory holds a state -/
def bm_MI (M : bb_M) (S : bs_S) : Prop := (∀ j, j < 311 → M 21 0 j = S.a j) ∧ (S.hn ≤ 4 ∧ M 7 0 3 = nI S.hn ∧ ∀ j, j < S.hn → ∀ k, k < 311 → M 23 0 (311 * j + k) = S.hs j k) ∧ (M 7 0 5 = bb_b S.sT ∧ (S.sT = true → ∀ k, k < 311 → M 24 0 k = S.sn k)) ∧ (bm_TX S.tx S.tl M ∧ S.tl ≤ 60) ∧ M 7 0 6 = 0
def bm_cls (M M' : bb_M) : Prop := ∀ k i j, ¬ (k = 7 ∨ 21 ≤ k ∧ k < 30) → M' k i j = M k i j
theorem bm_cls_rf (M : bb_M) : bm_cls M M := fun _ _ _ _ => rfl
theorem bm_cls_tr {M M1 M2 : bb_M} (h1 : bm_cls M M1) (h2 : bm_cls M1 M2) : bm_cls M M2 := fun k i j h => (h2 k i j h).trans (h1 k i j h)
def bm_api (d y : Nat) (as : List bb_V) (M : bb_M) (o : Int32 × bs_S) : Prop := ∃ M', (∀ k : Option bb_V → bb_M → Prop, bb_call (bb_CL (d + 9)) y as M k ↔ k (some (bb_I o.1)) M') ∧ bm_MI M' o.2 ∧ bm_cls M M'
/-- what works on the state, not on what is kept of it -/
def bm_wk (k i j : Nat) : Prop := i = 0 ∧ (k = 21 ∨ k = 22 ∨ k = 25 ∨ k = 26 ∨ k = 27 ∨ k = 29 ∨ (k = 7 ∧ (j = 12 ∨ j = 14 ∨ j = 15)))
def bm_wf (M M' : bb_M) : Prop := ∀ k i j, ¬ bm_wk k i j → M' k i j = M k i j
theorem bm_wf_rf (M : bb_M) : bm_wf M M := fun _ _ _ _ => rfl
theorem bm_wf_tr {M M1 M2 : bb_M} (h1 : bm_wf M M1) (h2 : bm_wf M1 M2) : bm_wf M M2 := fun k i j h => (h2 k i j h).trans (h1 k i j h)
theorem bm_wf_a {M : bb_M} {f : Nat → Int32} : bm_wf M (bm_a M f) := fun k i j h => bm_a_o (fun z => h ⟨z.2, Or.inl z.1⟩)
theorem bm_wf_tf {M M' : bb_M} (h : bm_tf M M') : bm_wf M M' := fun k i j q => h k i j (fun z => q ⟨z.2.1, Or.inr (Or.inr (Or.inr (Or.inr (Or.inr (Or.inr ⟨z.1, z.2.2⟩)))))⟩) (fun z => q ⟨z.2, Or.inr (Or.inr (Or.inr (Or.inr (Or.inr (Or.inl z.1)))))⟩)
theorem bm_wf_cls {M M' : bb_M} (h : bm_wf M M') : bm_cls M M' := fun k i j q => h k i j (by unfold bm_wk; omega)
theorem bm_MI_wf {M M' : bb_M} {S : bs_S} (h : bm_MI M S) (hf : bm_wf M M') {a' : Nat → Int32} (ha : ∀ j, j < 311 → M' 21 0 j = a' j) : bm_MI M' ⟨a', S.hs, S.hn, S.sT, S.sn, S.tx, S.tl⟩ := by
  obtain ⟨h1, ⟨h2, h3, h4⟩, ⟨h5, h6⟩, ⟨⟨h7, h8⟩, h9⟩, h10⟩ := h
  refine ⟨ha, ⟨h2, ?_, fun j hj k hk => ?_⟩, ⟨?_, fun z k hk => ?_⟩, ⟨⟨?_, fun j hj => ?_⟩, h9⟩, ?_⟩
  · rw [hf _ _ _ (by unfold bm_wk; omega)]; exact h3
  · rw [hf _ _ _ (by unfold bm_wk; omega)]; exact h4 j hj k hk
  · rw [hf _ _ _ (by unfold bm_wk; omega)]; exact h5
  · rw [hf _ _ _ (by unfold bm_wk; omega)]; exact h6 z k hk
  · rw [hf _ _ _ (by unfold bm_wk; omega)]; exact h7
  · rw [hf _ _ _ (by unfold bm_wk; omega)]; exact h8 j hj
  · rw [hf _ _ _ (by unfold bm_wk; omega)]; exact h10
/-- an act: the state is remembered, changes, is recorded -/
theorem bm_rem {d : Nat} {M : bb_M} {S : bs_S} (h : bm_MI M S) (ha : M 21 0 = S.a) : ∃ M1, (∀ (k : Option bb_V → bb_M → Prop), bb_call (bb_CL (d + 1)) 31 [bb_R 7 0] M k ↔ k none (bm_a M1 S.a)) ∧ bm_a M1 S.a = M1 ∧ (∀ j, j < 311 → M1 22 0 j = S.a j) ∧ bm_wf M M1 ∧ (∀ k i j, k ≠ 22 → M1 k i j = M k i j) ∧ ∀ (M2 : bb_M) (a' : Nat → Int32) (x : Int32), bm_wf M M2 → (∀ j, j < 311 → M2 22 0 j = M1 22 0 j) → (∀ j, j < 311 → M2 21 0 j = a' j) → ∃ M', (∀ (k : Option bb_V → bb_M → Prop), bb_call (bb_CL (d + 1)) 32 [bb_R 7 0, bb_I x] M2 k ↔ k (some (bb_I x)) M') ∧ bm_MI M' (bs_act S a') ∧ bm_cls M M' := by
  have e21 : bb_wr M 22 0 0 311 (M 21 0) 21 0 = S.a := by rw [bb_wr_21 (by decide), ha]
  have k22 : ∀ j, j < 311 → bb_wr M 22 0 0 311 (M 21 0) 22 0 j = S.a j := fun j hj => by rw [bb_wr_in0 hj, ha]
  have es : bm_a (bb_wr M 22 0 0 311 (M 21 0)) S.a = bb_wr M 22 0 0 311 (M 21 0) := by
    have := @bm_a_self (bb_wr M 22 0 0 311 (M 21 0))
    rw [e21] at this
    exact this
  refine ⟨bb_wr M 22 0 0 311 (M 21 0), fun k => ?_, es, k22, fun k i j q => ?_, fun k i j q => bb_wr_k q, fun M2 a' x f1 f2 f3 => ?_⟩
  · rw [es]
    exact x_X7_remember
  · unfold bb_wr
    rw [if_neg (fun z => q ⟨z.2.1, Or.inr (Or.inl z.1)⟩)]
  · have f22 : ∀ j, j < 311 → M2 22 0 j = S.a j := fun j hj => (f2 j hj).trans (k22 j hj)
    have h2 := bm_MI_wf h f1 f3
    obtain ⟨g1, ⟨g2, g3, g4⟩, ⟨g5, g6⟩, ⟨⟨g7, g8⟩, g9⟩, g10⟩ := h2
    obtain ⟨M', x1, x2, x3, x4⟩ := x_X7_acted (d := d) (x := x) g3 g2 g4 f22
    refine ⟨M', x1, ⟨fun j hj => ?_, ⟨Nat.min_le_right _ _, x2, x3⟩, ⟨?_, fun z k hk => ?_⟩, ⟨⟨?_, fun j hj => ?_⟩, g9⟩, ?_⟩, fun k i j q => ?_⟩
    · rw [x4 _ _ _ (by omega) (by omega)]; exact f3 j hj
    · rw [x4 _ _ _ (by omega) (by omega)]; exact g5
    · rw [x4 _ _ _ (by omega) (by omega)]; exact g6 z k hk
    · rw [x4 _ _ _ (by omega) (by omega)]; exact g7
    · rw [x4 _ _ _ (by omega) (by omega)]; exact g8 j hj
    · rw [x4 _ _ _ (by omega) (by omega)]; exact g10
    · rw [x4 _ _ _ (by omega) (by omega)]
      exact bm_wf_cls f1 k i j q
theorem bm_no {d y : Nat} {as : List bb_V} {M : bb_M} {S : bs_S} {x : Int32} (h : bm_MI M S) (e : ∀ k : Option bb_V → bb_M → Prop, bb_call (bb_CL (d + 9)) y as M k ↔ k (some (bb_I x)) M) : bm_api d y as M (x, S) := ⟨M, e, h, bm_cls_rf M⟩
theorem r_dump {d : Nat} {M : bb_M} {S : bs_S} {r c v : Int32} (h : bm_MI M S) (ha : M 21 0 = S.a) (hi : bs_inv S.a) : bm_api d 48 [bb_R 7 0, bb_I r, bb_I c, bb_I v] M (sp_dump S r c v) := by
  unfold sp_dump
  have i0 : (0 : Int64).toInt = 0 := rfl
  have i99 : (99 : Int64).toInt = 99 := rfl
  by_cases q1 : (bv r 0 3 && bv c 0 19) = true
  · rw [if_pos q1]
    rw [Bool.and_eq_true] at q1
    obtain ⟨qr, qc⟩ := q1
    have br := bv_iff.mp qr
    have bc := bv_iff.mp qc
    have er := bv_nI br.1
    have ec := bv_nI bc.1
    have nr : bv_N r < 4 := by unfold bv_N; omega
    have nc : bv_N c < 20 := by unfold bv_N; omega
    generalize bv_N r = n at er nr
    generalize bv_N c = m at ec nc
    subst er ec
    have eh : M 21 0 (20 * n + m) = S.a (20 * n + m) := by rw [ha]
    by_cases q2 : bv v 0 99 = true
    · rw [if_pos q2]
      have b2 := bv_iff.mp q2
      by_cases q3 : S.a (20 * n + m) = v
      · rw [if_pos q3]
        refine bm_no h (fun k => bb_cal (st_X7_dump ?_))
        simp (disch := omega) only [e_X7_dump_0, e_X7_dump_1, e_X7_dump_4, e_X7_dump_7, e_X7_dump_8, e_X7_dump_11, e_X7_dump_14, e_X7_dump_17, e_X7_dump_18, e_X7_dump_19, e_X7_dump_20, e_X7_dump_21, e_X7_dump_24, e_X7_dump_27, e_X7_dump_30, e_X7_dump_33, e_X7_dump_34, e_X7_dump_35, e_X7_dump_36, e_X7_dump_37, e_X7_dump_40, e_X7_dump_42, e_X7_dump_44, e_X7_dump_45, e_X7_dump_48, e_X7_dump_51, e_X7_dump_52, e_X7_dump_53, e_X7_dump_56, e_X7_dump_57, e_X7_dump_60, e_X7_dump_62, e_X7_dump_63, e_X7_dump_64, e_X7_dump_65, e_X7_dump_66, e_X7_dump_67, e_X7_dump_68, e_X7_dump_69, e_X7_dump_72, e_X7_dump_75, e_X7_dump_76, e_X7_dump_77, e_X7_dump_78, e_X7_dump_80, e_X7_dump_83, e_X7_dump_84, e_X7_dump_86, e_X7_dump_87, e_X7_dump_90, e_X7_dump_91, e_X7_dump_92, e_X7_dump_93, e_X7_dump_94, e_X7_dump_97, e_X7_dump_100, e_X7_dump_101, e_X7_dump_102, e_X7_dump_103, e_X7_dump_105, e_X7_dump_108, e_X7_dump_110, e_X7_dump_111, e_X7_dump_112, e_X7_dump_115, e_X7_dump_116, e_X7_dump_117, e_X7_dump_118, e_X7_dump_119, e_X7_dump_121, e_X7_dump_124, Option.toList_some, Option.toList_none, List.cons_append, List.nil_append, true_and, and_true, and_self, bb_ite, true_or, or_true, Option.some.injEq, bb_I_eq, bb_b_0e, bb_b_1e, bb_b_e0, bb_b_e1, decide_eq_true_eq, decide_eq_false_iff_not, bn_01, bn_11, bb_b_01, ne_eq, Bool.not_eq_false, Bool.not_eq_true, Classical.not_not, x_X7_isRow, x_X7_isCell, qr, qc, x_in, i0, i99, q2, x_X7_heightOf, eh, q3, bm_10, if_true, if_false, implies_true, not_true_eq_false, not_false_eq_true, Bool.true_and, Bool.false_and, Bool.and_true, Bool.and_false, Bool.true_or, Bool.false_or, Bool.or_true, Bool.or_false, Bool.not_true, Bool.not_false, false_implies, true_implies, forall_const, Bool.false_eq_true, Bool.true_eq_false, reduceCtorEq, eq_self, and_false, false_and, or_false, false_or]
        try trivial
      · rw [if_neg q3]
        obtain ⟨M1, e1, es, k1, f1, g1, fin⟩ := bm_rem (d := d + 7) h ha
        have hp : 20 * n + m < 80 := by omega
        have bh := hi.1 (20 * n + m) hp
        generalize hpe : 20 * n + m = p at *
        have t6 : upd S.a p v 136 = S.a 136 := bw_upd_c (by omega)
        have t7 : ∀ w, upd (upd S.a p v) 136 w 137 = S.a 137 := fun w => by rw [bw_upd_c (by omega), bw_upd_c (by omega)]
        unfold sp_dmp
        by_cases q4 : (S.a p).toInt < v.toInt
        · rw [if_pos q4]
          obtain ⟨M', x1, x2, x3⟩ := fin (bm_a M1 (upd (upd (upd S.a p v) 136 (S.a 136 + (v - S.a p))) 137 (S.a 137 + 0))) (upd (upd S.a p v) 136 (S.a 136 + (v - S.a p))) (S.a p) (bm_wf_tr f1 bm_wf_a) (fun j hj => bm_a_k (by decide)) (fun j hj => by
            rw [bm_a_v, bf_upd]
            by_cases z : j = 137
            · rw [if_pos z, z, t7, Int32.add_zero]
            · rw [if_neg z])
          refine ⟨M', fun k => bb_cal (st_X7_dump ?_), x2, x3⟩
          have l1 : ¬ v.toInt ≤ (S.a p).toInt := by omega
          have l2 : (S.a p).toInt ≤ v.toInt := by omega
          simp (disch := omega) only [e_X7_dump_0, e_X7_dump_1, e_X7_dump_4, e_X7_dump_7, e_X7_dump_8, e_X7_dump_11, e_X7_dump_14, e_X7_dump_17, e_X7_dump_18, e_X7_dump_19, e_X7_dump_20, e_X7_dump_21, e_X7_dump_24, e_X7_dump_27, e_X7_dump_30, e_X7_dump_33, e_X7_dump_34, e_X7_dump_35, e_X7_dump_36, e_X7_dump_37, e_X7_dump_40, e_X7_dump_42, e_X7_dump_44, e_X7_dump_45, e_X7_dump_48, e_X7_dump_51, e_X7_dump_52, e_X7_dump_53, e_X7_dump_56, e_X7_dump_57, e_X7_dump_60, e_X7_dump_62, e_X7_dump_63, e_X7_dump_64, e_X7_dump_65, e_X7_dump_66, e_X7_dump_67, e_X7_dump_68, e_X7_dump_69, e_X7_dump_72, e_X7_dump_75, e_X7_dump_76, e_X7_dump_77, e_X7_dump_78, e_X7_dump_80, e_X7_dump_83, e_X7_dump_84, e_X7_dump_86, e_X7_dump_87, e_X7_dump_90, e_X7_dump_91, e_X7_dump_92, e_X7_dump_93, e_X7_dump_94, e_X7_dump_97, e_X7_dump_100, e_X7_dump_101, e_X7_dump_102, e_X7_dump_103, e_X7_dump_105, e_X7_dump_108, e_X7_dump_110, e_X7_dump_111, e_X7_dump_112, e_X7_dump_115, e_X7_dump_116, e_X7_dump_117, e_X7_dump_118, e_X7_dump_119, e_X7_dump_121, e_X7_dump_124, Option.toList_some, Option.toList_none, List.cons_append, List.nil_append, true_and, and_true, and_self, bb_ite, true_or, or_true, Option.some.injEq, bb_I_eq, bb_b_0e, bb_b_1e, bb_b_e0, bb_b_e1, decide_eq_true_eq, decide_eq_false_iff_not, bn_01, bn_11, bb_b_01, ne_eq, Bool.not_eq_false, Bool.not_eq_true, Classical.not_not, bn_le, bn_in, bn_cl, x_X7_isRow, x_X7_isCell, qr, qc, x_in, i0, i99, q2, x_X7_heightOf, bn_20m, nI_add, hpe, eh, q3, e1, bm_a_v, bm_a_up, l1, l2, bm_v136, bm_v137, Int32.reduceToNatClampNeg, t6, t7, x1, bm_10, if_true, if_false, implies_true, not_true_eq_false, not_false_eq_true, Bool.true_and, Bool.false_and, Bool.and_true, Bool.and_false, Bool.true_or, Bool.false_or, Bool.or_true, Bool.or_false, Bool.not_true, Bool.not_false, false_implies, true_implies, forall_const, Bool.false_eq_true, Bool.true_eq_false, reduceCtorEq, eq_self, and_false, false_and, or_false, false_or]
          try trivial
        · rw [if_neg q4]
          have q5 : v.toInt < (S.a p).toInt := by
            have : ¬ (S.a p).toInt = v.toInt := fun z => q3 ((bn_eq _ _).mpr z)
            omega
          have t8 : upd (upd S.a p v) 136 (S.a 136 + 0) = upd S.a p v := by
            funext j
            rw [bf_upd]
            by_cases z : j = 136
            · rw [if_pos z, z, t6, Int32.add_zero]
            · rw [if_neg z]
          have t9 : upd S.a p v 137 = S.a 137 := bw_upd_c (by omega)
          obtain ⟨M', x1, x2, x3⟩ := fin (bm_a M1 (upd (upd S.a p v) 137 (S.a 137 + (S.a p - v)))) (upd (upd S.a p v) 137 (S.a 137 + (S.a p - v))) (S.a p) (bm_wf_tr f1 bm_wf_a) (fun j hj => bm_a_k (by decide)) (fun j hj => bm_a_v)
          refine ⟨M', fun k => bb_cal (st_X7_dump ?_), x2, x3⟩
          have l1 : v.toInt ≤ (S.a p).toInt := by omega
          have l2 : ¬ (S.a p).toInt ≤ v.toInt := by omega
          simp (disch := omega) only [e_X7_dump_0, e_X7_dump_1, e_X7_dump_4, e_X7_dump_7, e_X7_dump_8, e_X7_dump_11, e_X7_dump_14, e_X7_dump_17, e_X7_dump_18, e_X7_dump_19, e_X7_dump_20, e_X7_dump_21, e_X7_dump_24, e_X7_dump_27, e_X7_dump_30, e_X7_dump_33, e_X7_dump_34, e_X7_dump_35, e_X7_dump_36, e_X7_dump_37, e_X7_dump_40, e_X7_dump_42, e_X7_dump_44, e_X7_dump_45, e_X7_dump_48, e_X7_dump_51, e_X7_dump_52, e_X7_dump_53, e_X7_dump_56, e_X7_dump_57, e_X7_dump_60, e_X7_dump_62, e_X7_dump_63, e_X7_dump_64, e_X7_dump_65, e_X7_dump_66, e_X7_dump_67, e_X7_dump_68, e_X7_dump_69, e_X7_dump_72, e_X7_dump_75, e_X7_dump_76, e_X7_dump_77, e_X7_dump_78, e_X7_dump_80, e_X7_dump_83, e_X7_dump_84, e_X7_dump_86, e_X7_dump_87, e_X7_dump_90, e_X7_dump_91, e_X7_dump_92, e_X7_dump_93, e_X7_dump_94, e_X7_dump_97, e_X7_dump_100, e_X7_dump_101, e_X7_dump_102, e_X7_dump_103, e_X7_dump_105, e_X7_dump_108, e_X7_dump_110, e_X7_dump_111, e_X7_dump_112, e_X7_dump_115, e_X7_dump_116, e_X7_dump_117, e_X7_dump_118, e_X7_dump_119, e_X7_dump_121, e_X7_dump_124, Option.toList_some, Option.toList_none, List.cons_append, List.nil_append, true_and, and_true, and_self, bb_ite, true_or, or_true, Option.some.injEq, bb_I_eq, bb_b_0e, bb_b_1e, bb_b_e0, bb_b_e1, decide_eq_true_eq, decide_eq_false_iff_not, bn_01, bn_11, bb_b_01, ne_eq, Bool.not_eq_false, Bool.not_eq_true, Classical.not_not, bn_le, bn_in, bn_cl, x_X7_isRow, x_X7_isCell, qr, qc, x_in, i0, i99, q2, x_X7_heightOf, bn_20m, nI_add, hpe, eh, q3, e1, bm_a_v, bm_a_up, l1, l2, bm_v136, bm_v137, Int32.reduceToNatClampNeg, t6, t8, t9, x1, bm_10, if_true, if_false, implies_true, not_true_eq_false, not_false_eq_true, Bool.true_and, Bool.false_and, Bool.and_true, Bool.and_false, Bool.true_or, Bool.false_or, Bool.or_true, Bool.or_false, Bool.not_true, Bool.not_false, false_implies, true_implies, forall_const, Bool.false_eq_true, Bool.true_eq_false, reduceCtorEq, eq_self, and_false, false_and, or_false, false_or]
          try trivial
    · rw [if_neg q2]
      rw [Bool.not_eq_true] at q2
      refine bm_no h (fun k => bb_cal (st_X7_dump ?_))
      simp (disch := omega) only [e_X7_dump_0, e_X7_dump_1, e_X7_dump_4, e_X7_dump_7, e_X7_dump_8, e_X7_dump_11, e_X7_dump_14, e_X7_dump_17, e_X7_dump_18, e_X7_dump_19, e_X7_dump_20, e_X7_dump_21, e_X7_dump_24, e_X7_dump_27, e_X7_dump_30, e_X7_dump_33, e_X7_dump_34, e_X7_dump_35, e_X7_dump_36, e_X7_dump_37, e_X7_dump_40, e_X7_dump_42, e_X7_dump_44, e_X7_dump_45, e_X7_dump_48, e_X7_dump_51, e_X7_dump_52, e_X7_dump_53, e_X7_dump_56, e_X7_dump_57, e_X7_dump_60, e_X7_dump_62, e_X7_dump_63, e_X7_dump_64, e_X7_dump_65, e_X7_dump_66, e_X7_dump_67, e_X7_dump_68, e_X7_dump_69, e_X7_dump_72, e_X7_dump_75, e_X7_dump_76, e_X7_dump_77, e_X7_dump_78, e_X7_dump_80, e_X7_dump_83, e_X7_dump_84, e_X7_dump_86, e_X7_dump_87, e_X7_dump_90, e_X7_dump_91, e_X7_dump_92, e_X7_dump_93, e_X7_dump_94, e_X7_dump_97, e_X7_dump_100, e_X7_dump_101, e_X7_dump_102, e_X7_dump_103, e_X7_dump_105, e_X7_dump_108, e_X7_dump_110, e_X7_dump_111, e_X7_dump_112, e_X7_dump_115, e_X7_dump_116, e_X7_dump_117, e_X7_dump_118, e_X7_dump_119, e_X7_dump_121, e_X7_dump_124, Option.toList_some, Option.toList_none, List.cons_append, List.nil_append, true_and, and_true, and_self, bb_ite, true_or, or_true, Option.some.injEq, bb_I_eq, bb_b_0e, bb_b_1e, bb_b_e0, bb_b_e1, decide_eq_true_eq, decide_eq_false_iff_not, bn_01, bn_11, bb_b_01, ne_eq, Bool.not_eq_false, Bool.not_eq_true, Classical.not_not, x_X7_isRow, x_X7_isCell, qr, qc, x_in, i0, i99, q2, bm_10, if_true, if_false, implies_true, not_true_eq_false, not_false_eq_true, Bool.true_and, Bool.false_and, Bool.and_true, Bool.and_false, Bool.true_or, Bool.false_or, Bool.or_true, Bool.or_false, Bool.not_true, Bool.not_false, false_implies, true_implies, forall_const, Bool.false_eq_true, Bool.true_eq_false, reduceCtorEq, eq_self, and_false, false_and, or_false, false_or]
      try trivial
  · rw [if_neg q1]
    refine bm_no h (fun k => bb_cal (st_X7_dump ?_))
    cases q2 : bv r 0 3
    · simp (disch := omega) only [e_X7_dump_0, e_X7_dump_1, e_X7_dump_4, e_X7_dump_7, e_X7_dump_8, e_X7_dump_11, e_X7_dump_14, e_X7_dump_17, e_X7_dump_18, e_X7_dump_19, e_X7_dump_20, e_X7_dump_21, e_X7_dump_24, e_X7_dump_27, e_X7_dump_30, e_X7_dump_33, e_X7_dump_34, e_X7_dump_35, e_X7_dump_36, e_X7_dump_37, e_X7_dump_40, e_X7_dump_42, e_X7_dump_44, e_X7_dump_45, e_X7_dump_48, e_X7_dump_51, e_X7_dump_52, e_X7_dump_53, e_X7_dump_56, e_X7_dump_57, e_X7_dump_60, e_X7_dump_62, e_X7_dump_63, e_X7_dump_64, e_X7_dump_65, e_X7_dump_66, e_X7_dump_67, e_X7_dump_68, e_X7_dump_69, e_X7_dump_72, e_X7_dump_75, e_X7_dump_76, e_X7_dump_77, e_X7_dump_78, e_X7_dump_80, e_X7_dump_83, e_X7_dump_84, e_X7_dump_86, e_X7_dump_87, e_X7_dump_90, e_X7_dump_91, e_X7_dump_92, e_X7_dump_93, e_X7_dump_94, e_X7_dump_97, e_X7_dump_100, e_X7_dump_101, e_X7_dump_102, e_X7_dump_103, e_X7_dump_105, e_X7_dump_108, e_X7_dump_110, e_X7_dump_111, e_X7_dump_112, e_X7_dump_115, e_X7_dump_116, e_X7_dump_117, e_X7_dump_118, e_X7_dump_119, e_X7_dump_121, e_X7_dump_124, Option.toList_some, Option.toList_none, List.cons_append, List.nil_append, true_and, and_true, and_self, bb_ite, true_or, or_true, Option.some.injEq, bb_I_eq, bb_b_0e, bb_b_1e, bb_b_e0, bb_b_e1, decide_eq_true_eq, decide_eq_false_iff_not, bn_01, bn_11, bb_b_01, ne_eq, Bool.not_eq_false, Bool.not_eq_true, Classical.not_not, x_X7_isRow, x_X7_isCell, q2, bm_10, if_true, if_false, implies_true, not_true_eq_false, not_false_eq_true, Bool.true_and, Bool.false_and, Bool.and_true, Bool.and_false, Bool.true_or, Bool.false_or, Bool.or_true, Bool.or_false, Bool.not_true, Bool.not_false, false_implies, true_implies, forall_const, Bool.false_eq_true, Bool.true_eq_false, reduceCtorEq, eq_self, and_false, false_and, or_false, false_or]
      try trivial
    · cases q3 : bv c 0 19
      · simp (disch := omega) only [e_X7_dump_0, e_X7_dump_1, e_X7_dump_4, e_X7_dump_7, e_X7_dump_8, e_X7_dump_11, e_X7_dump_14, e_X7_dump_17, e_X7_dump_18, e_X7_dump_19, e_X7_dump_20, e_X7_dump_21, e_X7_dump_24, e_X7_dump_27, e_X7_dump_30, e_X7_dump_33, e_X7_dump_34, e_X7_dump_35, e_X7_dump_36, e_X7_dump_37, e_X7_dump_40, e_X7_dump_42, e_X7_dump_44, e_X7_dump_45, e_X7_dump_48, e_X7_dump_51, e_X7_dump_52, e_X7_dump_53, e_X7_dump_56, e_X7_dump_57, e_X7_dump_60, e_X7_dump_62, e_X7_dump_63, e_X7_dump_64, e_X7_dump_65, e_X7_dump_66, e_X7_dump_67, e_X7_dump_68, e_X7_dump_69, e_X7_dump_72, e_X7_dump_75, e_X7_dump_76, e_X7_dump_77, e_X7_dump_78, e_X7_dump_80, e_X7_dump_83, e_X7_dump_84, e_X7_dump_86, e_X7_dump_87, e_X7_dump_90, e_X7_dump_91, e_X7_dump_92, e_X7_dump_93, e_X7_dump_94, e_X7_dump_97, e_X7_dump_100, e_X7_dump_101, e_X7_dump_102, e_X7_dump_103, e_X7_dump_105, e_X7_dump_108, e_X7_dump_110, e_X7_dump_111, e_X7_dump_112, e_X7_dump_115, e_X7_dump_116, e_X7_dump_117, e_X7_dump_118, e_X7_dump_119, e_X7_dump_121, e_X7_dump_124, Option.toList_some, Option.toList_none, List.cons_append, List.nil_append, true_and, and_true, and_self, bb_ite, true_or, or_true, Option.some.injEq, bb_I_eq, bb_b_0e, bb_b_1e, bb_b_e0, bb_b_e1, decide_eq_true_eq, decide_eq_false_iff_not, bn_01, bn_11, bb_b_01, ne_eq, Bool.not_eq_false, Bool.not_eq_true, Classical.not_not, x_X7_isRow, x_X7_isCell, q2, q3, bm_10, if_true, if_false, implies_true, not_true_eq_false, not_false_eq_true, Bool.true_and, Bool.false_and, Bool.and_true, Bool.and_false, Bool.true_or, Bool.false_or, Bool.or_true, Bool.or_false, Bool.not_true, Bool.not_false, false_implies, true_implies, forall_const, Bool.false_eq_true, Bool.true_eq_false, reduceCtorEq, eq_self, and_false, false_and, or_false, false_or]
        try trivial
      · exact absurd (by rw [q2, q3]; rfl) q1
