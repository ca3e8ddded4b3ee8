/-! THE REFERENCE'S CALLS: settle, run, would -/
theorem bm_follow {d : Nat} {v : Int32} {N : bb_M} {b : Nat → Int32} (hN : ∀ j, j < 311 → N 21 0 j = b j) (hi : bs_inv b) (hv : b 80 + N 7 0 6 = v) (hb : 0 ≤ v.toInt ∧ v.toInt ≤ 1000) : ∃ M2 M3, (∀ k : Option bb_V → bb_M → Prop, bb_call (bb_CL (d + 8)) 46 [bb_R 7 0] N k ↔ k (some (bb_I (nI (bf_scu b v (b 83) 4)))) M2) ∧ (∀ k : Option bb_V → bb_M → Prop, bb_call (bb_CL (d + 8)) 47 [bb_R 7 0] M2 k ↔ k (some (bb_I (nI (bf_su (bf_sco b v (b 83)) (b 84) 4)))) M3) ∧ (∀ j, j < 311 → M3 21 0 j = br_ls b v j) ∧ ∀ k i j, ¬ (i = 0 ∧ (k = 21 ∨ k = 27)) → M3 k i j = N k i j := by
  have h80 : ∀ j, j < 80 → N 21 0 j = b j := fun j hj => hN j (by omega)
  have e83 := hN 83 (by decide)
  have hBN : bf_hb (N 21 0) := bf_hb_eq (fun j hj => (h80 j hj).symm) hi.1
  obtain ⟨M2, s1, s2, s3, s4, s5⟩ := x_X7_scours (d := d + 1) (v := v) hBN (by rw [hN 80 (by decide)]; exact hv) hb
  rw [e83] at s1 s2 s3
  rw [bf_scu_eq h80 4 (Nat.le_refl _)] at s1 s3
  have s2' : ∀ j, j < 80 → M2 21 0 j = bf_sco b v (b 83) j := fun j hj => (s2 j hj).trans (bf_sco_eq h80 j hj)
  have e84 : M2 21 0 84 = b 84 := by rw [s4 84 (by decide) (by decide)]; exact hN 84 (by decide)
  have hB2 : bf_hb (M2 21 0) := bf_hb_eq (fun j hj => (s2' j hj).symm) (bf_sco_b hi.1)
  obtain ⟨M3, t1, t2, t3, t4, t5⟩ := x_X7_slumps (d := d + 5) hB2 (by rw [e84]; have := hi.2.2.2.2.2.1; omega)
  rw [e84] at t1 t2 t3
  rw [bf_su_eq s2' 4 (Nat.le_refl _)] at t1 t3
  refine ⟨M2, M3, s1, t1, fun j hj => ?_, fun k i j hk => (t5 k i j (by omega)).trans (s5 k i j hk)⟩
  unfold br_ls
  by_cases z : j < 80
  · rw [if_pos z, t2 j z, bf_st_eq s2' j z]
  · rw [if_neg z]
    by_cases z1 : j = 140
    · rw [if_pos z1, z1, t4 140 (by decide) (by decide), s3, hN 140 (by decide)]
    · rw [if_neg z1]
      by_cases z2 : j = 141
      · rw [if_pos z2, z2, t3, s4 141 (by decide) (by decide), hN 141 (by decide)]
      · rw [if_neg z2, t4 j (by omega) z2, s4 j (by omega) z1, hN j hj]
theorem bm_wf_27 {M M' : bb_M} (h : ∀ k i j, ¬ (i = 0 ∧ (k = 21 ∨ k = 27)) → M' k i j = M k i j) : bm_wf M M' := fun k i j q => h k i j (fun z => q ⟨z.1, by rcases z.2 with z | z <;> omega⟩)
theorem r_settle {d : Nat} {M : bb_M} {S : bs_S} (h : bm_MI M S) (ha : M 21 0 = S.a) (hi : bs_inv S.a) : bm_api d 58 [bb_R 7 0] M (sp_settle S) := by
  unfold sp_settle
  obtain ⟨M1, e1, es, k1, f1, g1, fin⟩ := bm_rem (d := d + 7) h ha
  rw [es] at e1
  have a1 : M1 21 0 = S.a := by rw [← es, bm_a_f]
  have z6 : M1 7 0 6 = 0 := by rw [g1 _ _ _ (by decide)]; exact h.2.2.2.2
  obtain ⟨M2, M3, s1, t1, t2, t3⟩ := bm_follow (d := d) (v := S.a 80) (N := M1) (b := S.a) (fun j hj => by rw [a1]) hi (by rw [z6, Int32.add_zero]) (by have := hi.2.1; omega)
  have lle := br_lr_le (lv := S.a 80) hi
  have el : nI (bf_scu S.a (S.a 80) (S.a 83) 4) + nI (bf_su (bf_sco S.a (S.a 80) (S.a 83)) (S.a 84) 4) = nI (br_lr S.a (S.a 80)) := by rw [nI_add]; rfl
  have wf3 := bm_wf_tr f1 (bm_wf_27 t3)
  by_cases q : br_lr S.a (S.a 80) = 0
  · rw [if_pos q]
    have l : (nI 0 = 0) = True := eq_true rfl
    rw [q] at el
    refine ⟨M3, fun k => bb_cal (st_X7_settle ?_), bm_MI_wf h wf3 t2, bm_wf_cls wf3⟩
    simp (disch := omega) only [e_X7_settle_0, e_X7_settle_1, e_X7_settle_4, e_X7_settle_5, e_X7_settle_8, e_X7_settle_9, e_X7_settle_10, e_X7_settle_11, e_X7_settle_14, e_X7_settle_15, e_X7_settle_16, e_X7_settle_17, e_X7_settle_20, e_X7_settle_23, e_X7_settle_26, e_X7_settle_27, e_X7_settle_28, e_X7_settle_31, Option.toList_some, Option.toList_none, List.cons_append, List.nil_append, true_and, and_true, and_self, bb_ite, true_or, or_true, Option.some.injEq, bb_I_eq, bb_b_0e, bb_b_1e, bb_b_e0, bb_b_e1, decide_eq_true_eq, decide_eq_false_iff_not, bn_01, bn_11, bb_b_01, ne_eq, Bool.not_eq_false, Bool.not_eq_true, Classical.not_not, e1, s1, t1, el, l, bm_10, if_true, if_false, implies_true, not_true_eq_false, not_false_eq_true, Bool.true_and, Bool.false_and, Bool.and_true, Bool.and_false, Bool.true_or, Bool.false_or, Bool.or_true, Bool.or_false, Bool.not_true, Bool.not_false, false_implies, true_implies, forall_const, Bool.false_eq_true, Bool.true_eq_false, reduceCtorEq, eq_self, and_false, false_and, or_false, false_or]
    try trivial
  · rw [if_neg q]
    obtain ⟨M', x1, x2, x3⟩ := fin M3 (br_ls S.a (S.a 80)) (nI (br_lr S.a (S.a 80))) wf3 (fun j hj => t3 _ _ _ (by omega)) t2
    have l : ¬ nI (br_lr S.a (S.a 80)) = 0 := fun z => by
      rw [bn_nI0 (by omega)] at z
      exact q z
    refine ⟨M', fun k => bb_cal (st_X7_settle ?_), x2, x3⟩
    simp (disch := omega) only [e_X7_settle_0, e_X7_settle_1, e_X7_settle_4, e_X7_settle_5, e_X7_settle_8, e_X7_settle_9, e_X7_settle_10, e_X7_settle_11, e_X7_settle_14, e_X7_settle_15, e_X7_settle_16, e_X7_settle_17, e_X7_settle_20, e_X7_settle_23, e_X7_settle_26, e_X7_settle_27, e_X7_settle_28, e_X7_settle_31, Option.toList_some, Option.toList_none, List.cons_append, List.nil_append, true_and, and_true, and_self, bb_ite, true_or, or_true, Option.some.injEq, bb_I_eq, bb_b_0e, bb_b_1e, bb_b_e0, bb_b_e1, decide_eq_true_eq, decide_eq_false_iff_not, bn_01, bn_11, bb_b_01, ne_eq, Bool.not_eq_false, Bool.not_eq_true, Classical.not_not, e1, s1, t1, el, l, x1, bm_10, if_true, if_false, implies_true, not_true_eq_false, not_false_eq_true, Bool.true_and, Bool.false_and, Bool.and_true, Bool.and_false, Bool.true_or, Bool.false_or, Bool.or_true, Bool.or_false, Bool.not_true, Bool.not_false, false_implies, true_implies, forall_const, Bool.false_eq_true, Bool.true_eq_false, reduceCtorEq, eq_self, and_false, false_and, or_false, false_or]
    try trivial
theorem bm_no_inv {a : Nat → Int32} (hi : bs_inv a) : bs_inv (upd a 85 0) := by
  have etl : bs_tl (upd a 85 0) = bs_tl a := by unfold bs_tl; rw [bw_upd_c (by decide)]
  have esz : bs_sz (upd a 85 0) = 0 := rfl
  obtain ⟨h1, h2, h3, h4, h5, h6, h7, h8, h9⟩ := hi
  refine ⟨fun j hj => ?_, ?_, ?_, ?_, ?_, ?_, ?_, ?_, ?_⟩
  · rw [bw_upd_c (by omega)]; exact h1 j hj
  · rw [bw_upd_c (by omega)]; exact h2
  · rw [bw_upd_c (by omega)]; exact h3
  · rw [bw_upd_c (by omega)]; exact h4
  · rw [bw_upd_c (by omega)]; exact h5
  · rw [bw_upd_c (by omega)]; exact h6
  · exact ⟨by rw [esz]; omega, rfl⟩
  · rw [esz]
    exact fun j hj => absurd hj (Nat.not_lt_zero j)
  · rw [etl, bw_upd_c (by omega)]; exact h9
theorem br_ls_85 {c : Nat → Int32} {v : Int32} (j : Nat) : br_ls (upd c 85 0) v j = upd (br_ls c v) 85 0 j := by
  have e : ∀ j, j < 80 → upd c 85 0 j = c j := fun j hj => bw_upd_c (by omega)
  have e83 : upd c 85 0 83 = c 83 := bw_upd_c (by decide)
  have e84 : upd c 85 0 84 = c 84 := bw_upd_c (by decide)
  have e140 : upd c 85 0 140 = c 140 := bw_upd_c (by decide)
  have e141 : upd c 85 0 141 = c 141 := bw_upd_c (by decide)
  have es : ∀ j, j < 80 → bf_sco (upd c 85 0) v (c 83) j = bf_sco c v (c 83) j := bf_sco_eq e
  rw [bf_upd]
  unfold br_ls
  rw [e83, e84, e140, e141, bf_scu_eq e 4 (Nat.le_refl _), bf_su_eq es 4 (Nat.le_refl _)]
  by_cases z : j < 80
  · rw [if_pos z, if_neg (by omega), if_pos z, bf_st_eq es j z]
  · rw [if_neg z]
    by_cases z1 : j = 140
    · rw [if_pos z1, if_neg (by omega), if_neg z, if_pos z1]
    · rw [if_neg z1]
      by_cases z2 : j = 141
      · rw [if_pos z2, if_neg (by omega), if_neg z, if_neg z1, if_pos z2]
      · rw [if_neg z2, bf_upd]
        by_cases z3 : j = 85
        · rw [if_pos z3, if_pos z3]
        · rw [if_neg z3, if_neg z3, if_neg z, if_neg z1, if_neg z2]
theorem r_run {d : Nat} {M : bb_M} {S : bs_S} {x : Int32} (h : bm_MI M S) (ha : M 21 0 = S.a) (hi : bs_inv S.a) : bm_api d 57 [bb_R 7 0, bb_I x] M (sp_run S x) := by
  unfold sp_run
  have i0 : (0 : Int64).toInt = 0 := rfl
  have i30 : (30 : Int64).toInt = 30 := rfl
  have hsz := hi.2.2.2.2.2.2.1
  have e85 : M 21 0 85 = nI (bs_sz S.a) := by rw [ha]; exact hsz.2
  by_cases q1 : bv x 0 30 = true
  · rw [if_pos q1]
    have b1 := bv_iff.mp q1
    by_cases q2 : bs_sz S.a = 0
    · rw [if_pos q2]
      have l : (nI 0 = 0) = True := eq_true rfl
      refine bm_no h (fun k => bb_cal (st_X7_run ?_))
      simp (disch := omega) only [e_X7_run_0, e_X7_run_1, e_X7_run_2, e_X7_run_3, e_X7_run_6, e_X7_run_9, e_X7_run_12, e_X7_run_15, e_X7_run_16, e_X7_run_17, e_X7_run_20, e_X7_run_22, e_X7_run_23, e_X7_run_26, e_X7_run_29, e_X7_run_30, e_X7_run_31, e_X7_run_34, e_X7_run_35, e_X7_run_36, e_X7_run_39, e_X7_run_40, e_X7_run_43, e_X7_run_44, e_X7_run_45, e_X7_run_48, e_X7_run_49, e_X7_run_50, e_X7_run_53, e_X7_run_55, e_X7_run_56, e_X7_run_57, e_X7_run_60, e_X7_run_61, e_X7_run_62, e_X7_run_65, Option.toList_some, Option.toList_none, List.cons_append, List.nil_append, true_and, and_true, and_self, bb_ite, true_or, or_true, Option.some.injEq, bb_I_eq, bb_b_0e, bb_b_1e, bb_b_e0, bb_b_e1, decide_eq_true_eq, decide_eq_false_iff_not, bn_01, bn_11, bb_b_01, ne_eq, Bool.not_eq_false, Bool.not_eq_true, Classical.not_not, x_in, i0, i30, q1, bm_v85, Int32.reduceToNatClampNeg, e85, q2, l, bm_10, if_true, if_false, implies_true, not_true_eq_false, not_false_eq_true, Bool.true_and, Bool.false_and, Bool.and_true, Bool.and_false, Bool.true_or, Bool.false_or, Bool.or_true, Bool.or_false, Bool.not_true, Bool.not_false, false_implies, true_implies, forall_const, Bool.false_eq_true, Bool.true_eq_false, reduceCtorEq, eq_self, and_false, false_and, or_false, false_or]
      try trivial
    · rw [if_neg q2]
      have l : ¬ nI (bs_sz S.a) = 0 := fun z => by
        rw [bn_nI0 (by omega)] at z
        exact q2 z
      obtain ⟨M1, e1, es, k1, f1, g1, fin⟩ := bm_rem (d := d + 7) h ha
      rw [es] at e1
      have a1 : bb_up M1 7 0 6 x 21 0 = S.a := by
        rw [← @bm_a_f M1 S.a, es]
        funext j
        exact bb_up_k (by decide)
      have b80 := hi.2.1
      have ev : (S.a 80 + x).toInt = (S.a 80).toInt + x.toInt := bn_addT (by omega) (by omega)
      have hb : 0 ≤ (S.a 80 + x).toInt ∧ (S.a 80 + x).toInt ≤ 1000 := by omega
      obtain ⟨M2, x1, x2, x3⟩ := x_X7_allRun (d := d + 3) (v := S.a 80 + x) (M := bb_up M1 7 0 6 x) (by rw [a1]; exact hi) (by rw [a1, bb_up_at]) hb
      rw [a1] at x1 x2
      have hib := bm_no_inv (br_c_inv (lv := S.a 80 + x) hi)
      have c80 : upd (br_ca S.a (S.a 80 + x)) 85 0 80 = S.a 80 := by rw [bw_upd_c (by decide), br_c_hi hi (by decide)]
      have m6 : M2 7 0 6 = x := by rw [x3 _ _ _ (by omega), bb_up_at]
      obtain ⟨M3, M4, s1, t1, t2, t3⟩ := bm_follow (d := d) (v := S.a 80 + x) (N := M2) x2 hib (by rw [c80, m6]) hb
      have t2' : ∀ j, j < 311 → M4 21 0 j = upd (br_ls (br_ca S.a (S.a 80 + x)) (S.a 80 + x)) 85 0 j := fun j hj => (t2 j hj).trans (br_ls_85 j)
      have fr : ∀ k i j, ¬ bm_wk k i j → k ≠ 22 → bb_up M4 7 0 6 0 k i j = M k i j := fun k i j hk h22 => by
        by_cases z : k = 7 ∧ i = 0 ∧ j = 6
        · obtain ⟨rfl, rfl, rfl⟩ := z
          rw [bb_up_at]
          exact h.2.2.2.2.symm
        · have : bb_up M4 7 0 6 0 k i j = M4 k i j := by
            unfold bb_up
            rw [if_neg z]
          rw [this, t3 k i j (by unfold bm_wk at hk; omega), x3 k i j (by unfold bm_wk at hk; omega)]
          have : bb_up M1 7 0 6 x k i j = M1 k i j := by
            unfold bb_up
            rw [if_neg z]
          rw [this]
          exact g1 k i j h22
      have wf5 : bm_wf M (bb_up M4 7 0 6 0) := fun k i j hk => by
        by_cases z : k = 22
        · subst z
          rw [bb_up_k (by decide), t3 _ _ _ (by omega), x3 _ _ _ (by omega), bb_up_k (by decide)]
          exact f1 22 i j hk
        · exact fr k i j hk z
      obtain ⟨M', y1, y2, y3⟩ := fin (bb_up M4 7 0 6 0) (upd (br_ls (br_ca S.a (S.a 80 + x)) (S.a 80 + x)) 85 0) (br_b S.a (S.a 80 + x)).2 wf5 (fun j hj => by rw [bb_up_k (by decide), t3 _ _ _ (by omega), x3 _ _ _ (by omega), bb_up_k (by decide)]) (fun j hj => by rw [bb_up_k (by decide)]; exact t2' j hj)
      refine ⟨M', fun k => bb_cal (st_X7_run ?_), y2, y3⟩
      simp (disch := omega) only [e_X7_run_0, e_X7_run_1, e_X7_run_2, e_X7_run_3, e_X7_run_6, e_X7_run_9, e_X7_run_12, e_X7_run_15, e_X7_run_16, e_X7_run_17, e_X7_run_20, e_X7_run_22, e_X7_run_23, e_X7_run_26, e_X7_run_29, e_X7_run_30, e_X7_run_31, e_X7_run_34, e_X7_run_35, e_X7_run_36, e_X7_run_39, e_X7_run_40, e_X7_run_43, e_X7_run_44, e_X7_run_45, e_X7_run_48, e_X7_run_49, e_X7_run_50, e_X7_run_53, e_X7_run_55, e_X7_run_56, e_X7_run_57, e_X7_run_60, e_X7_run_61, e_X7_run_62, e_X7_run_65, Option.toList_some, Option.toList_none, List.cons_append, List.nil_append, true_and, and_true, and_self, bb_ite, true_or, or_true, Option.some.injEq, bb_I_eq, bb_b_0e, bb_b_1e, bb_b_e0, bb_b_e1, decide_eq_true_eq, decide_eq_false_iff_not, bn_01, bn_11, bb_b_01, ne_eq, Bool.not_eq_false, Bool.not_eq_true, Classical.not_not, x_in, i0, i30, q1, bm_v85, Int32.reduceToNatClampNeg, e85, l, e1, x1, s1, t1, y1, bm_10, if_true, if_false, implies_true, not_true_eq_false, not_false_eq_true, Bool.true_and, Bool.false_and, Bool.and_true, Bool.and_false, Bool.true_or, Bool.false_or, Bool.or_true, Bool.or_false, Bool.not_true, Bool.not_false, false_implies, true_implies, forall_const, Bool.false_eq_true, Bool.true_eq_false, reduceCtorEq, eq_self, and_false, false_and, or_false, false_or]
      try trivial
  · rw [if_neg q1]
    rw [Bool.not_eq_true] at q1
    refine bm_no h (fun k => bb_cal (st_X7_run ?_))
    simp (disch := omega) only [e_X7_run_0, e_X7_run_1, e_X7_run_2, e_X7_run_3, e_X7_run_6, e_X7_run_9, e_X7_run_12, e_X7_run_15, e_X7_run_16, e_X7_run_17, e_X7_run_20, e_X7_run_22, e_X7_run_23, e_X7_run_26, e_X7_run_29, e_X7_run_30, e_X7_run_31, e_X7_run_34, e_X7_run_35, e_X7_run_36, e_X7_run_39, e_X7_run_40, e_X7_run_43, e_X7_run_44, e_X7_run_45, e_X7_run_48, e_X7_run_49, e_X7_run_50, e_X7_run_53, e_X7_run_55, e_X7_run_56, e_X7_run_57, e_X7_run_60, e_X7_run_61, e_X7_run_62, e_X7_run_65, Option.toList_some, Option.toList_none, List.cons_append, List.nil_append, true_and, and_true, and_self, bb_ite, true_or, or_true, Option.some.injEq, bb_I_eq, bb_b_0e, bb_b_1e, bb_b_e0, bb_b_e1, decide_eq_true_eq, decide_eq_false_iff_not, bn_01, bn_11, bb_b_01, ne_eq, Bool.not_eq_false, Bool.not_eq_true, Classical.not_not, x_in, i0, i30, q1, bm_10, if_true, if_false, implies_true, not_true_eq_false, not_false_eq_true, Bool.true_and, Bool.false_and, Bool.and_true, Bool.and_false, Bool.true_or, Bool.false_or, Bool.or_true, Bool.or_false, Bool.not_true, Bool.not_false, false_implies, true_implies, forall_const, Bool.false_eq_true, Bool.true_eq_false, reduceCtorEq, eq_self, and_false, false_and, or_false, false_or]
    try trivial
theorem l_X7_would {d m : Nat} {M : bb_M} {g : Nat → Int32} {R : bb_P} {w1 w2 : bb_V} (hg : ∀ j, j < 311 → M 22 0 j = g j) (hm : m < 7) : ∀ (t n : Nat), n + t = 311 → (bb_Y (bb_CL d) cd_X7_would R 49 [bb_R 7 0, w1, w2, bb_I (nI m), bb_I (nI n)] [] (bb_wr M 21 0 0 n g) ↔ R (some (bb_I (M 25 0 m))) (bb_wr M 21 0 0 311 g)) := by
  intro t
  have km : ∀ n, bb_wr M 21 0 0 n g 25 0 m = M 25 0 m := fun n => bb_wr_k (by decide)
  induction t with
  | zero =>
    intro n hn
    obtain rfl : n = 311 := by omega
    rw [h_X7_would_49]
    simp (disch := omega) only [e_X7_would_0, e_X7_would_1, e_X7_would_4, e_X7_would_7, e_X7_would_10, e_X7_would_11, e_X7_would_12, e_X7_would_15, e_X7_would_18, e_X7_would_19, e_X7_would_20, e_X7_would_23, e_X7_would_26, e_X7_would_29, e_X7_would_32, e_X7_would_35, e_X7_would_36, e_X7_would_37, e_X7_would_40, e_X7_would_41, e_X7_would_42, e_X7_would_43, e_X7_would_46, e_X7_would_47, e_X7_would_51, e_X7_would_54, e_X7_would_57, e_X7_would_58, e_X7_would_61, e_X7_would_63, e_X7_would_64, e_X7_would_67, e_X7_would_69, e_X7_would_70, e_X7_would_71, e_X7_would_74, e_X7_would_77, e_X7_would_78, e_X7_would_81, e_X7_would_82, e_X7_would_83, Option.toList_some, Option.toList_none, List.cons_append, List.nil_append, true_and, and_true, and_self, bb_ite, true_or, or_true, Option.some.injEq, bb_I_eq, bb_b_0e, bb_b_1e, bb_b_e0, bb_b_e1, decide_eq_true_eq, decide_eq_false_iff_not, bn_01, bn_11, bb_b_01, ne_eq, Bool.not_eq_false, Bool.not_eq_true, Classical.not_not, bn_lt, bn_le, bn_ti, Int32.reduceToInt, bn_m20, bn_20m, nI_add, bn_p1, bn_s1, bn_in, bn_cl, implies_true, not_true_eq_false, not_false_eq_true, Bool.true_and, Bool.false_and, Bool.and_true, Bool.and_false, Bool.true_or, Bool.false_or, Bool.or_true, Bool.or_false, Bool.not_true, Bool.not_false, false_implies, true_implies, forall_const, Bool.false_eq_true, Bool.true_eq_false, reduceCtorEq, eq_self, Bool.and_eq_true, Bool.or_eq_true, Bool.and_eq_false_iff, Bool.or_eq_false_iff, and_false, false_and, or_false, false_or, Int.cast_ofNat_Int, Int.le_refl, km]
    try trivial
  | succ t ih =>
    intro n hn
    have l : ¬ (311 : Int) ≤ (n : Int) := by omega
    have kn : bb_wr M 21 0 0 n g 22 0 n = g n := by rw [bb_wr_k (by decide)]; exact hg n (by omega)
    rw [h_X7_would_49, ← ih (n + 1) (by omega)]
    simp (disch := omega) only [e_X7_would_0, e_X7_would_1, e_X7_would_4, e_X7_would_7, e_X7_would_10, e_X7_would_11, e_X7_would_12, e_X7_would_15, e_X7_would_18, e_X7_would_19, e_X7_would_20, e_X7_would_23, e_X7_would_26, e_X7_would_29, e_X7_would_32, e_X7_would_35, e_X7_would_36, e_X7_would_37, e_X7_would_40, e_X7_would_41, e_X7_would_42, e_X7_would_43, e_X7_would_46, e_X7_would_47, e_X7_would_51, e_X7_would_54, e_X7_would_57, e_X7_would_58, e_X7_would_61, e_X7_would_63, e_X7_would_64, e_X7_would_67, e_X7_would_69, e_X7_would_70, e_X7_would_71, e_X7_would_74, e_X7_would_77, e_X7_would_78, e_X7_would_81, e_X7_would_82, e_X7_would_83, Option.toList_some, Option.toList_none, List.cons_append, List.nil_append, true_and, and_true, and_self, bb_ite, true_or, or_true, Option.some.injEq, bb_I_eq, bb_b_0e, bb_b_1e, bb_b_e0, bb_b_e1, decide_eq_true_eq, decide_eq_false_iff_not, bn_01, bn_11, bb_b_01, ne_eq, Bool.not_eq_false, Bool.not_eq_true, Classical.not_not, bn_lt, bn_le, bn_ti, Int32.reduceToInt, bn_m20, bn_20m, nI_add, bn_p1, bn_s1, bn_in, bn_cl, implies_true, not_true_eq_false, not_false_eq_true, Bool.true_and, Bool.false_and, Bool.and_true, Bool.and_false, Bool.true_or, Bool.false_or, Bool.or_true, Bool.or_false, Bool.not_true, Bool.not_false, false_implies, true_implies, forall_const, Bool.false_eq_true, Bool.true_eq_false, reduceCtorEq, eq_self, Bool.and_eq_true, Bool.or_eq_true, Bool.and_eq_false_iff, Bool.or_eq_false_iff, and_false, false_and, or_false, false_or, l, kn, bb_wr_ext0]
    try exact Iff.rfl
theorem r_would {d : Nat} {M : bb_M} {S : bs_S} {r v w : Int32} (h : bm_MI M S) (ha : M 21 0 = S.a) (hi : bs_inv S.a) : bm_api d 81 [bb_R 7 0, bb_I r, bb_I v, bb_I w] M (sp_would S r v w) := by
  unfold sp_would
  have i2 : (2 : Int64).toInt = 2 := rfl
  have i6 : (6 : Int64).toInt = 6 := rfl
  by_cases qr : bv r 0 3 = true
  · rw [if_pos qr]
    by_cases q : bv v 1 20 = true ∧ bv w 2 6 = true
    · rw [if_pos q]
      obtain ⟨qv, qw⟩ := q
      have br := bv_iff.mp qr
      have bw := bv_iff.mp qw
      have bvv := bv_iff.mp qv
      have er := bv_nI br.1
      have ev := bv_nI (x := v) (by omega)
      have ew := bv_nI (x := w) (by omega)
      have nr : (bv_N r : Int) = r.toInt := by unfold bv_N; omega
      have nv : (bv_N v : Int) = v.toInt := by unfold bv_N; omega
      have nw : (bv_N w : Int) = w.toInt := by unfold bv_N; omega
      generalize bv_N r = n at er nr
      generalize bv_N v = x at ev nv
      generalize bv_N w = m at ew nw
      subst er ev ew
      have hn4 : n < 4 := by omega
      obtain ⟨M1, e1, es, k1, f1, g1, fin⟩ := bm_rem (d := d + 7) h ha
      rw [es] at e1
      have a1 : M1 21 0 = S.a := by rw [← es, bm_a_f]
      have z6 : M1 7 0 6 = 0 := by rw [g1 _ _ _ (by decide)]; exact h.2.2.2.2
      have hb80 : 0 ≤ (S.a 80).toInt ∧ (S.a 80).toInt ≤ 1000 := by have := hi.2.1; omega
      have xg := fun k => x_X7_runs (d := d + 4) (r := n) (w := x) (v := S.a 80) (M := M1) (k := k) hn4 (by omega) (fun c hc => by rw [a1]; exact hi.1 _ (by omega)) (by rw [z6, a1, Int32.add_zero]) hb80
      rw [a1] at xg
      have q := bw_run_eq (lv := S.a 80) (sea := decide ((S.a 81).toInt ≤ (x : Int))) 20 x ((fun c => S.a (20 * n + c)), bw_F0 n x (M1 25 0 3) 0, 0, 0) (bf_rg S.a n, bw_F0 n x 0 0, 0, 0) (Nat.le_refl _) ⟨fun c hc => (bf_rg_c hc).symm, fun j _ j3 j4 => by
        show bw_F0 _ _ _ _ j = bw_F0 _ _ _ _ j
        unfold bw_F0
        simp only [if_neg j3, if_neg j4], rfl⟩
      have qj := q.2.1 m (by omega)
      have esh : bw_run (S.a 80) (decide ((S.a 81).toInt ≤ (x : Int))) 20 x ((fun c => S.a (20 * n + c)), bw_F0 n x (M1 25 0 3) 0, S.a 134, S.a 135) = bw_sh (S.a 134) (S.a 135) (bw_run (S.a 80) (decide ((S.a 81).toInt ≤ (x : Int))) 20 x ((fun c => S.a (20 * n + c)), bw_F0 n x (M1 25 0 3) 0, 0, 0)) := by
        rw [← bw_sh_run]
        unfold bw_sh
        dsimp only
        rw [Int32.add_zero, Int32.add_zero]
      rw [esh] at xg
      generalize bw_run (S.a 80) (decide ((S.a 81).toInt ≤ (x : Int))) 20 x ((fun c => S.a (20 * n + c)), bw_F0 n x (M1 25 0 3) 0, 0, 0) = T at xg qj
      obtain ⟨g, F, pq1, pq2⟩ := T
      have xg' : ∀ k : Option bb_V → bb_M → Prop, bb_call (bb_CL (d + 8)) 42 [bb_R 7 0, bb_I (nI n), bb_I (nI x)] M1 k ↔ k none (bm_R M1 n (g, F, S.a 134 + pq1, S.a 135 + pq2)) := xg
      have ef : bm_R M1 n (g, F, S.a 134 + pq1, S.a 135 + pq2) 25 0 m = (br_wd S.a n x).2.1 m := (bm_r25 (by omega)).trans qj
      have o : ∀ k i j, ¬ (i = 0 ∧ (k = 21 ∨ k = 25)) → bm_R M1 n (g, F, S.a 134 + pq1, S.a 135 + pq2) k i j = M1 k i j := fun k i j z => by
        unfold bm_R bb_wr bb_up
        dsimp only
        rw [if_neg (by omega), if_neg (by omega), if_neg (by omega), if_neg (by omega)]
      have L := fun R => l_X7_would (d := d + 8) (m := m) (R := R) (w1 := bb_I (nI n)) (w2 := bb_I (nI x)) (M := bm_R M1 n (g, F, S.a 134 + pq1, S.a 135 + pq2)) (g := S.a) (fun j hj => by rw [o _ _ _ (by omega)]; exact k1 j hj) (by omega) 311 0 rfl
      simp only [bb_wr_nil, ef] at L
      have n0 : nI 0 = 0 := rfl
      simp only [n0] at L
      have wf : bm_wf M (bb_wr (bm_R M1 n (g, F, S.a 134 + pq1, S.a 135 + pq2)) 21 0 0 311 S.a) := fun k i j hk => by
        rw [bm_wr_a, bm_a_o (fun z => hk ⟨z.2, Or.inl z.1⟩), o k i j (by unfold bm_wk at hk; omega)]
        exact f1 k i j hk
      refine ⟨bb_wr (bm_R M1 n (g, F, S.a 134 + pq1, S.a 135 + pq2)) 21 0 0 311 S.a, fun k => bb_cal (st_X7_would ?_), bm_MI_wf h wf (fun j hj => bb_wr_in0 hj), bm_wf_cls wf⟩
      simp (disch := omega) only [e_X7_would_0, e_X7_would_1, e_X7_would_4, e_X7_would_11, e_X7_would_12, e_X7_would_15, e_X7_would_18, e_X7_would_19, e_X7_would_20, e_X7_would_23, e_X7_would_26, e_X7_would_29, e_X7_would_36, e_X7_would_37, e_X7_would_40, e_X7_would_41, e_X7_would_42, e_X7_would_43, e_X7_would_46, e_X7_would_47, L, Option.toList_some, Option.toList_none, List.cons_append, List.nil_append, true_and, and_true, and_self, bb_ite, true_or, or_true, Option.some.injEq, bb_I_eq, bb_b_0e, bb_b_1e, bb_b_e0, bb_b_e1, decide_eq_true_eq, decide_eq_false_iff_not, bn_01, bn_11, bb_b_01, ne_eq, Bool.not_eq_false, Bool.not_eq_true, Classical.not_not, x_X7_isRow, x_X7_isHeight, qr, qv, x_in, i2, i6, qw, e1, xg', bm_10, if_true, if_false, implies_true, not_true_eq_false, not_false_eq_true, Bool.true_and, Bool.false_and, Bool.and_true, Bool.and_false, Bool.true_or, Bool.false_or, Bool.or_true, Bool.or_false, Bool.not_true, Bool.not_false, false_implies, true_implies, forall_const, Bool.false_eq_true, Bool.true_eq_false, reduceCtorEq, eq_self, and_false, false_and, or_false, false_or]
      try trivial
    · rw [if_neg q]
      refine bm_no h (fun k => bb_cal (st_X7_would ?_))
      cases qv : bv v 1 20
      · simp (disch := omega) only [e_X7_would_0, e_X7_would_1, e_X7_would_4, e_X7_would_7, e_X7_would_10, e_X7_would_11, e_X7_would_12, e_X7_would_15, e_X7_would_18, e_X7_would_19, e_X7_would_20, e_X7_would_23, e_X7_would_26, e_X7_would_29, e_X7_would_32, e_X7_would_35, e_X7_would_36, e_X7_would_37, e_X7_would_40, e_X7_would_41, e_X7_would_42, e_X7_would_43, e_X7_would_46, e_X7_would_47, e_X7_would_51, e_X7_would_54, e_X7_would_57, e_X7_would_58, e_X7_would_61, e_X7_would_63, e_X7_would_64, e_X7_would_67, e_X7_would_69, e_X7_would_70, e_X7_would_71, e_X7_would_74, e_X7_would_77, e_X7_would_78, e_X7_would_81, e_X7_would_82, e_X7_would_83, Option.toList_some, Option.toList_none, List.cons_append, List.nil_append, true_and, and_true, and_self, bb_ite, true_or, or_true, Option.some.injEq, bb_I_eq, bb_b_0e, bb_b_1e, bb_b_e0, bb_b_e1, decide_eq_true_eq, decide_eq_false_iff_not, bn_01, bn_11, bb_b_01, ne_eq, Bool.not_eq_false, Bool.not_eq_true, Classical.not_not, x_X7_isRow, x_X7_isHeight, qr, qv, bm_10, if_true, if_false, implies_true, not_true_eq_false, not_false_eq_true, Bool.true_and, Bool.false_and, Bool.and_true, Bool.and_false, Bool.true_or, Bool.false_or, Bool.or_true, Bool.or_false, Bool.not_true, Bool.not_false, false_implies, true_implies, forall_const, Bool.false_eq_true, Bool.true_eq_false, reduceCtorEq, eq_self, and_false, false_and, or_false, false_or]
        try trivial
      · have q2 : bv w 2 6 = false := by
          cases z : bv w 2 6
          · rfl
          · exact absurd ⟨qv, z⟩ q
        simp (disch := omega) only [e_X7_would_0, e_X7_would_1, e_X7_would_4, e_X7_would_7, e_X7_would_10, e_X7_would_11, e_X7_would_12, e_X7_would_15, e_X7_would_18, e_X7_would_19, e_X7_would_20, e_X7_would_23, e_X7_would_26, e_X7_would_29, e_X7_would_32, e_X7_would_35, e_X7_would_36, e_X7_would_37, e_X7_would_40, e_X7_would_41, e_X7_would_42, e_X7_would_43, e_X7_would_46, e_X7_would_47, e_X7_would_51, e_X7_would_54, e_X7_would_57, e_X7_would_58, e_X7_would_61, e_X7_would_63, e_X7_would_64, e_X7_would_67, e_X7_would_69, e_X7_would_70, e_X7_would_71, e_X7_would_74, e_X7_would_77, e_X7_would_78, e_X7_would_81, e_X7_would_82, e_X7_would_83, Option.toList_some, Option.toList_none, List.cons_append, List.nil_append, true_and, and_true, and_self, bb_ite, true_or, or_true, Option.some.injEq, bb_I_eq, bb_b_0e, bb_b_1e, bb_b_e0, bb_b_e1, decide_eq_true_eq, decide_eq_false_iff_not, bn_01, bn_11, bb_b_01, ne_eq, Bool.not_eq_false, Bool.not_eq_true, Classical.not_not, x_X7_isRow, x_X7_isHeight, qr, qv, x_in, i2, i6, q2, bm_10, if_true, if_false, implies_true, not_true_eq_false, not_false_eq_true, Bool.true_and, Bool.false_and, Bool.and_true, Bool.and_false, Bool.true_or, Bool.false_or, Bool.or_true, Bool.or_false, Bool.not_true, Bool.not_false, false_implies, true_implies, forall_const, Bool.false_eq_true, Bool.true_eq_false, reduceCtorEq, eq_self, and_false, false_and, or_false, false_or]
        try trivial
  · rw [if_neg qr]
    rw [Bool.not_eq_true] at qr
    refine bm_no h (fun k => bb_cal (st_X7_would ?_))
    simp (disch := omega) only [e_X7_would_0, e_X7_would_1, e_X7_would_4, e_X7_would_7, e_X7_would_10, e_X7_would_11, e_X7_would_12, e_X7_would_15, e_X7_would_18, e_X7_would_19, e_X7_would_20, e_X7_would_23, e_X7_would_26, e_X7_would_29, e_X7_would_32, e_X7_would_35, e_X7_would_36, e_X7_would_37, e_X7_would_40, e_X7_would_41, e_X7_would_42, e_X7_would_43, e_X7_would_46, e_X7_would_47, e_X7_would_51, e_X7_would_54, e_X7_would_57, e_X7_would_58, e_X7_would_61, e_X7_would_63, e_X7_would_64, e_X7_would_67, e_X7_would_69, e_X7_would_70, e_X7_would_71, e_X7_would_74, e_X7_would_77, e_X7_would_78, e_X7_would_81, e_X7_would_82, e_X7_would_83, Option.toList_some, Option.toList_none, List.cons_append, List.nil_append, true_and, and_true, and_self, bb_ite, true_or, or_true, Option.some.injEq, bb_I_eq, bb_b_0e, bb_b_1e, bb_b_e0, bb_b_e1, decide_eq_true_eq, decide_eq_false_iff_not, bn_01, bn_11, bb_b_01, ne_eq, Bool.not_eq_false, Bool.not_eq_true, Classical.not_not, x_X7_isRow, qr, bm_10, if_true, if_false, implies_true, not_true_eq_false, not_false_eq_true, Bool.true_and, Bool.false_and, Bool.and_true, Bool.and_false, Bool.true_or, Bool.false_or, Bool.or_true, Bool.or_false, Bool.not_true, Bool.not_false, false_implies, true_implies, forall_const, Bool.false_eq_true, Bool.true_eq_false, reduceCtorEq, eq_self, and_false, false_and, or_false, false_or]
    try trivial
