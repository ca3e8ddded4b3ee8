theorem bb_wr_rowk {M : bb_M} {k i r : Nat} {S g : Nat → Int32} (hS : ∀ c, c < 20 → S (20 * r + c) = g c) : bb_wr (bb_wr M k i 0 (20 * r) S) k i (20 * r) 20 g = bb_wr M k i 0 (20 * (r + 1)) S := by
  funext k' i' j
  unfold bb_wr
  by_cases q : k' = k ∧ i' = i
  · obtain ⟨rfl, rfl⟩ := q
    by_cases q2 : 20 * r ≤ j ∧ j < 20 * r + 20
    · rw [if_pos ⟨rfl, rfl, q2⟩, if_pos ⟨rfl, rfl, by omega, by omega⟩, ← hS (j - 20 * r) (by omega)]
      congr 1
      omega
    · rw [if_neg (fun z => q2 z.2.2)]
      by_cases q3 : j < 20 * r
      · rw [if_pos ⟨rfl, rfl, by omega, by omega⟩, if_pos ⟨rfl, rfl, by omega, by omega⟩]
      · rw [if_neg (by omega), if_neg (by omega)]
  · rw [if_neg (fun z => q ⟨z.1, z.2.1⟩), if_neg (fun z => q ⟨z.1, z.2.1⟩), if_neg (fun z => q ⟨z.1, z.2.1⟩)]
theorem l_X7_scour2 {d : Nat} {v g : Int32} {B : bb_M} {h : Nat → Int32} {R : bb_P} (hh : ∀ j, j < 80 → B 21 0 j = h j) (hB : bf_hb h) (hp : ∀ r c, r < 4 → c < 20 → B 27 0 (20 * r + c) = bb_b (bf_gap h v g r c)) : ∀ (t r : Nat), r + t = 4 → (bb_Y (bb_CL (d + 2)) cd_X7_scours R 44 [bb_R 7 0, bb_I (nI (bf_scu h v g r)), bb_I (nI (20 * r))] [] (bb_wr B 21 0 0 (20 * r) (bf_sco h v g)) ↔ R (some (bb_I (nI (bf_scu h v g 4)))) (bb_up (bb_wr B 21 0 0 80 (bf_sco h v g)) 21 0 140 (B 21 0 140 + nI (bf_scu h v g 4)))) := by
  intro t
  induction t with
  | zero =>
    intro r hn
    obtain rfl : r = 4 := by omega
    have e : bb_wr B 21 0 0 80 (bf_sco h v g) 21 0 140 = B 21 0 140 := bb_wr_out (by omega)
    have l : (80 : Int) ≤ ((20 * 4 : Nat) : Int) := by omega
    have e80 : 20 * 4 = 80 := rfl
    rw [h_X7_scours_44, e80]
    simp (disch := omega) only [e_X7_scours_0, e_X7_scours_1, e_X7_scours_2, e_X7_scours_3, e_X7_scours_5, e_X7_scours_7, e_X7_scours_10, e_X7_scours_11, e_X7_scours_14, e_X7_scours_15, e_X7_scours_16, e_X7_scours_17, e_X7_scours_19, e_X7_scours_20, e_X7_scours_21, e_X7_scours_23, e_X7_scours_24, e_X7_scours_27, e_X7_scours_30, e_X7_scours_31, e_X7_scours_34, e_X7_scours_35, e_X7_scours_36, e_X7_scours_39, e_X7_scours_42, e_X7_scours_43, e_X7_scours_45, e_X7_scours_47, e_X7_scours_50, e_X7_scours_51, e_X7_scours_52, e_X7_scours_55, e_X7_scours_56, e_X7_scours_57, e_X7_scours_58, e_X7_scours_61, e_X7_scours_62, e_X7_scours_63, e_X7_scours_65, e_X7_scours_66, e_X7_scours_67, e_X7_scours_69, e_X7_scours_70, e_X7_scours_71, e_X7_scours_73, e_X7_scours_74, e_X7_scours_75, e_X7_scours_76, e_X7_scours_77, e_X7_scours_80, e_X7_scours_83, e_X7_scours_84, e_X7_scours_85, e_X7_scours_86, e_X7_scours_89, e_X7_scours_92, e_X7_scours_93, e_X7_scours_96, e_X7_scours_99, e_X7_scours_100, e_X7_scours_101, e_X7_scours_102, e_X7_scours_103, e_X7_scours_104, e_X7_scours_105, Option.toList_some, Option.toList_none, List.cons_append, List.nil_append, true_and, and_true, and_self, bb_ite, true_or, or_true, Option.some.injEq, bb_I_eq, bb_b_0e, bb_b_1e, bb_b_e0, bb_b_e1, decide_eq_true_eq, decide_eq_false_iff_not, bn_01, bn_11, bb_b_01, ne_eq, Bool.not_eq_false, Bool.not_eq_true, Classical.not_not, bn_lt, bn_le, bn_ti, Int32.reduceToInt, bn_m20, bn_20m, nI_add, bn_p1, bn_s1, bn_in, bn_cl, implies_true, not_true_eq_false, not_false_eq_true, Bool.true_and, Bool.false_and, Bool.and_true, Bool.and_false, Bool.true_or, Bool.false_or, Bool.or_true, Bool.or_false, Bool.not_true, Bool.not_false, false_implies, true_implies, forall_const, Bool.false_eq_true, Bool.true_eq_false, reduceCtorEq, eq_self, Bool.and_eq_true, Bool.or_eq_true, Bool.and_eq_false_iff, Bool.or_eq_false_iff, and_false, false_and, or_false, false_or, Int.cast_ofNat_Int, Int.le_refl, bm_v140, Int32.reduceToNatClampNeg, e]
  | succ t ih =>
    intro r hn
    have e := l_X7_scour1 (d := d) (r := r) (u := bf_scu h v g r) (B := bb_wr B 21 0 0 (20 * r) (bf_sco h v g)) (g0 := bf_rg h r) (p := bf_gap h v g r) (R := R) (by omega) (bf_rg_b hB (by omega)) (fun c hc => by rw [bb_wr_k (by decide)]; exact hp r c (by omega) hc) bf_gap_19 19 0 rfl
    rw [bb_wr_rowk (g := bf_qq (bf_rg h r) (bf_gap h v g r) 19) (fun c hc => by unfold bf_sco; rw [show (20 * r + c) / 20 = r by omega, show (20 * r + c) % 20 = c by omega])] at e
    have e0 : bb_wr (bb_wr B 21 0 0 (20 * r) (bf_sco h v g)) 21 0 (20 * r) 20 (bf_qq (bf_rg h r) (bf_gap h v g r) 0) = bb_wr B 21 0 0 (20 * r) (bf_sco h v g) := bb_wr_same (fun c hc => by
      show bf_rg h r c = _
      rw [bf_rg_c hc, bb_wr_out (by omega), hh _ (by omega)])
    rw [e0] at e
    have e1 : bf_scu h v g (r + 1) = bf_scu h v g r + bf_qc (bf_rg h r) (bf_gap h v g r) 19 := rfl
    rw [← ih (r + 1) (by omega), e1]
    exact e
theorem x_X7_scours {d : Nat} {v : Int32} {M : bb_M} (hB : bf_hb (M 21 0)) (hv : M 21 0 80 + M 7 0 6 = v) (hb : 0 ≤ v.toInt ∧ v.toInt ≤ 1000) : ∃ M', (∀ k : Option bb_V → bb_M → Prop, bb_call (bb_CL (d + 7)) 46 [bb_R 7 0] M k ↔ k (some (bb_I (nI (bf_scu (M 21 0) v (M 21 0 83) 4)))) M') ∧ (∀ j, j < 80 → M' 21 0 j = bf_sco (M 21 0) v (M 21 0 83) j) ∧ M' 21 0 140 = M 21 0 140 + nI (bf_scu (M 21 0) v (M 21 0 83) 4) ∧ (∀ j, 80 ≤ j → j ≠ 140 → M' 21 0 j = M 21 0 j) ∧ ∀ k i j, ¬ (i = 0 ∧ (k = 21 ∨ k = 27)) → M' k i j = M k i j := by
  have L0 := fun R => l_X7_scour0 (d := d) (v := v) (M := M) (R := R) hB hv hb 80 0 rfl
  rw [bb_wr_nil] at L0
  have L2 := fun R => l_X7_scour2 (d := d + 4) (v := v) (g := M 21 0 83) (B := bb_wr M 27 0 0 80 (bm_G M v)) (h := M 21 0) (R := R) (fun j _ => bb_wr_k (by decide)) hB (fun r c hr hc => by
    rw [bb_wr_in0 (by omega)]
    unfold bm_G
    rw [show (20 * r + c) / 20 = r by omega, show (20 * r + c) % 20 = c by omega]) 4 0 rfl
  have e140 : bb_wr M 27 0 0 80 (bm_G M v) 21 0 140 = M 21 0 140 := bb_wr_k (by decide)
  simp only [e140, Nat.mul_zero, bb_wr_nil] at L2
  refine ⟨bb_up (bb_wr (bb_wr M 27 0 0 80 (bm_G M v)) 21 0 0 80 (bf_sco (M 21 0) v (M 21 0 83))) 21 0 140 (M 21 0 140 + nI (bf_scu (M 21 0) v (M 21 0 83) 4)), fun k => bb_cal (st_X7_scours ?_), fun j hj => ?_, bb_up_at, fun j hj hj2 => ?_, fun k i j hk => ?_⟩
  · simp only [e_X7_scours_0, e_X7_scours_1, e_X7_scours_2, e_X7_scours_3]
    exact (L0 _).mpr ((L2 _).mpr ⟨rfl, rfl⟩)
  · rw [bb_up_j (by omega), bb_wr_in0 hj]
  · rw [bb_up_j hj2, bb_wr_out (by omega), bb_wr_k (by decide)]
  · unfold bb_up bb_wr
    rw [if_neg (by omega), if_neg (by omega), if_neg (by omega)]
