/-! the sand follows; a run as a whole -/
def br_ls (b : Nat → Int32) (lv : Int32) : Nat → Int32 := fun j => if j < 80 then bf_st (bf_sco b lv (b 83)) (b 84) j else if j = 140 then b 140 + nI (bf_scu b lv (b 83) 4) else if j = 141 then b 141 + nI (bf_su (bf_sco b lv (b 83)) (b 84) 4) else b j
def br_lr (b : Nat → Int32) (lv : Int32) : Nat := bf_scu b lv (b 83) 4 + bf_su (bf_sco b lv (b 83)) (b 84) 4
def br_m1 (M : bb_M) (lv g : Int32) : bb_M := bb_wr (bb_wr M 11 0 0 4 (fun r => bf_bits (bf_gap (M 10 0) lv g r) 19)) 10 0 0 80 (bf_sco (M 10 0) lv g)
def br_m2 (M : bb_M) (lv g st : Int32) : bb_M := bb_wr (br_m1 M lv g) 10 0 0 80 (bf_st (br_m1 M lv g 10 0) st)
theorem x_X6_letSandFollow {d : Nat} {b : Nat → Int32} {lv : Int32} {M : bb_M} (hB : bf_hb b) (h10 : ∀ j, j < 80 → M 10 0 j = b j) (h83 : M 14 0 2 = b 83) (h84 : M 14 0 3 = b 84) (b83 : 0 ≤ (b 83).toInt ∧ (b 83).toInt ≤ 100) (b84 : 1 ≤ (b 84).toInt ∧ (b 84).toInt ≤ 100) : ∃ M', (∀ k : Option bb_V → bb_M → Prop, bb_call (bb_CL (d + 6)) 25 [bb_R 6 0, bb_I lv] M k ↔ k (some (bb_I (nI (br_lr b lv)))) M') ∧ (∀ j, j < 80 → M' 10 0 j = br_ls b lv j) ∧ M' 15 0 7 = M 15 0 7 + nI (bf_scu b lv (b 83) 4) ∧ M' 15 0 8 = M 15 0 8 + nI (bf_su (bf_sco b lv (b 83)) (b 84) 4) ∧ ∀ k i j, ¬ (i = 0 ∧ (k = 10 ∨ k = 11 ∨ k = 15 ∧ (j = 7 ∨ j = 8))) → M' k i j = M k i j := by
  have hM := bf_hb_eq (fun j hj => (h10 j hj).symm) hB
  have e1 := fun k => x_X3_scour (d := d) (i := 0) (v := lv) (g := b 83) (M := M) (k := k) hM b83
  have r1 : ∀ j, j < 80 → br_m1 M lv (b 83) 10 0 j = bf_sco b lv (b 83) j := fun j hj => (bb_wr_in0 hj).trans (bf_sco_eq h10 j hj)
  have hM1 := bf_hb_eq (fun j hj => (r1 j hj).symm) (bf_sco_b (v := lv) (g := b 83) hB)
  have e2 := fun k => x_X3_slump (d := d + 2) (i := 0) (st := b 84) (M := br_m1 M lv (b 83)) (k := k) hM1 b84
  rw [bf_scu_eq h10 4 (Nat.le_refl _)] at e1
  rw [bf_su_eq r1 4 (Nat.le_refl _)] at e2
  have e1' : ∀ k, bb_call (bb_CL (d + 5)) 62 [bb_R 3 0, bb_I lv, bb_I (b 83)] M k ↔ k (some (bb_I (nI (bf_scu b lv (b 83) 4)))) (br_m1 M lv (b 83)) := e1
  have e2' : ∀ k, bb_call (bb_CL (d + 5)) 64 [bb_R 3 0, bb_I (b 84)] (br_m1 M lv (b 83)) k ↔ k (some (bb_I (nI (bf_su (bf_sco b lv (b 83)) (b 84) 4)))) (br_m2 M lv (b 83) (b 84)) := e2
  have m1 : ∀ k i j, ¬ (i = 0 ∧ (k = 10 ∨ k = 11)) → br_m1 M lv (b 83) k i j = M k i j := fun k i j h => by
    unfold br_m1 bb_wr
    rw [if_neg (by omega), if_neg (by omega)]
  have m2 : ∀ k i j, ¬ (i = 0 ∧ (k = 10 ∨ k = 11)) → br_m2 M lv (b 83) (b 84) k i j = M k i j := fun k i j h => by
    rw [← m1 k i j h]
    unfold br_m2
    generalize br_m1 M lv (b 83) = N
    unfold bb_wr
    rw [if_neg (by omega)]
  have v2 : vp_in 2 4 := vp_in_nI (n := 2) (by omega) (by omega)
  have v3 : vp_in 3 4 := vp_in_nI (n := 3) (by omega) (by omega)
  have v7 : vp_in 7 9 := vp_in_nI (n := 7) (by omega) (by omega)
  have v8 : vp_in 8 9 := vp_in_nI (n := 8) (by omega) (by omega)
  have g3 : br_m1 M lv (b 83) 14 0 3 = b 84 := by rw [m1 _ _ _ (by omega), h84]
  have g7 : br_m2 M lv (b 83) (b 84) 15 0 7 = M 15 0 7 := m2 _ _ _ (by omega)
  have g8 : ∀ v, bb_up (br_m2 M lv (b 83) (b 84)) 15 0 7 v 15 0 8 = M 15 0 8 := fun v => by rw [bb_up_j (by decide), m2 _ _ _ (by omega)]
  refine ⟨bb_up (bb_up (br_m2 M lv (b 83) (b 84)) 15 0 7 (M 15 0 7 + nI (bf_scu b lv (b 83) 4))) 15 0 8 (M 15 0 8 + nI (bf_su (bf_sco b lv (b 83)) (b 84) 4)), fun k => bb_cal (st_X6_letSandFollow ?_), fun j hj => ?_, ?_, ?_, fun k i j h => ?_⟩
  · simp (disch := omega) only [e_X6_letSandFollow_0, e_X6_letSandFollow_1, e_X6_letSandFollow_4, e_X6_letSandFollow_7, e_X6_letSandFollow_8, e_X6_letSandFollow_9, e_X6_letSandFollow_12, e_X6_letSandFollow_15, e_X6_letSandFollow_16, e_X6_letSandFollow_17, e_X6_letSandFollow_20, e_X6_letSandFollow_21, e_X6_letSandFollow_22, e_X6_letSandFollow_25, e_X6_letSandFollow_28, e_X6_letSandFollow_29, e_X6_letSandFollow_32, e_X6_letSandFollow_35, e_X6_letSandFollow_36, e_X6_letSandFollow_37, e_X6_letSandFollow_40, e_X6_letSandFollow_41, e_X6_letSandFollow_42, e_X6_letSandFollow_45, e_X6_letSandFollow_48, e_X6_letSandFollow_50, e_X6_letSandFollow_51, e_X6_letSandFollow_52, e_X6_letSandFollow_53, e_X6_letSandFollow_54, e_X6_letSandFollow_55, e_X6_letSandFollow_56, e_X6_letSandFollow_59, e_X6_letSandFollow_62, e_X6_letSandFollow_64, e_X6_letSandFollow_65, e_X6_letSandFollow_66, e_X6_letSandFollow_67, e_X6_letSandFollow_68, e_X6_letSandFollow_69, e_X6_letSandFollow_70, e_X6_letSandFollow_71, e_X6_letSandFollow_72, Option.toList_some, Option.toList_none, List.cons_append, List.nil_append, true_and, and_true, and_self, bb_ite, true_or, or_true, Option.some.injEq, bb_I_eq, bb_b_0e, bb_b_1e, bb_b_e0, bb_b_e1, decide_eq_true_eq, decide_eq_false_iff_not, bn_01, bn_11, bb_b_01, ne_eq, Bool.not_eq_false, Bool.not_eq_true, Classical.not_not, v2, v3, v7, v8, Int32.reduceToNatClampNeg, h83, e1', g3, e2', g7, g8, nI_add]
    rfl
  · rw [bb_up_k (by decide), bb_up_k (by decide)]
    unfold br_ls
    rw [if_pos hj]
    unfold br_m2
    rw [bb_wr_in0 hj]
    exact bf_st_eq r1 j hj
  · rw [bb_up_j (by decide), bb_up_at]
  · rw [bb_up_at]
  · unfold bb_up
    rw [if_neg (by omega), if_neg (by omega), m2 _ _ _ (by omega)]
