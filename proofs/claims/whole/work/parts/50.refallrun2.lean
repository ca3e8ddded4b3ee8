theorem l_X7_allRun {d s : Nat} {a o : Nat → Int32} {v : Int32} {M1 : bb_M} (hi : bs_inv a) (hs : bs_sz a = s) (ho : ∀ j, j < s → ∃ x, x < s ∧ o j = nI x) (h26 : ∀ j, j < s → M1 26 0 j = o j) (hv : a 80 + M1 7 0 6 = v) (hb : 0 ≤ v.toInt ∧ v.toInt ≤ 1000) : ∀ (rem t : Nat) (z3 z4 : bb_V) (N : bb_M), t + rem = s → bm_I M1 s (br_rn a o v t).1 N → ∃ N', bm_I M1 s (br_rn a o v s).1 N' ∧ ∀ R : bb_P, bb_Y (bb_CL (d + 4)) cd_X7_allRun R 23 [bb_R 7 0, bb_I (br_rn a o v t).2, bb_I (nI t), z3, z4] [] N ↔ R (some (bb_I (br_rn a o v s).2)) (bb_up (bb_up (bb_up N' 21 0 138 (a 138 + nI s)) 21 0 139 (a 139 + (br_rn a o v s).2)) 21 0 85 0) := by
  intro rem
  have hq := br_qs hi
  rw [hs] at hq
  have hs24 : s ≤ 24 := by have := hi.2.2.2.2.2.2.1.1; omega
  have h85 : a 85 = nI s := by rw [← hs]; exact hi.2.2.2.2.2.2.1.2
  have ho2 : ∀ j, j < s → (o j).toInt.toNat < s := fun j hj => by
    obtain ⟨x, hx, e⟩ := ho j hj
    rw [e, bn_ti (by omega)]
    exact hx
  induction rem with
  | zero =>
    intro t z3 z4 N ht hI
    obtain rfl : t = s := by omega
    refine ⟨N, hI, fun R => ?_⟩
    obtain ⟨g1, g2⟩ := br_rn_hi (lv := v) hs24 (fun x hx => (hq x hx).1) ho2 t (Nat.le_refl _)
    have n85 : N 21 0 85 = nI t := by rw [hI.1 85 (by decide) (by decide), g1 85 (by decide), h85]
    have n138 : N 21 0 138 = a 138 := by rw [hI.1 138 (by decide) (by decide), g1 138 (by decide)]
    have n139 : ∀ x, bb_up N 21 0 138 x 21 0 139 = a 139 := fun x => by rw [bb_up_j (by decide), hI.1 139 (by decide) (by decide), g1 139 (by decide)]
    rw [h_X7_allRun_23]
    simp (disch := omega) only [e_X7_allRun_0, e_X7_allRun_1, e_X7_allRun_2, e_X7_allRun_3, e_X7_allRun_6, e_X7_allRun_7, e_X7_allRun_10, e_X7_allRun_13, e_X7_allRun_14, e_X7_allRun_17, e_X7_allRun_19, e_X7_allRun_20, e_X7_allRun_21, e_X7_allRun_22, e_X7_allRun_24, e_X7_allRun_25, e_X7_allRun_28, e_X7_allRun_30, e_X7_allRun_31, e_X7_allRun_34, e_X7_allRun_35, e_X7_allRun_38, e_X7_allRun_39, e_X7_allRun_40, e_X7_allRun_41, e_X7_allRun_42, e_X7_allRun_43, e_X7_allRun_46, e_X7_allRun_48, e_X7_allRun_49, e_X7_allRun_50, e_X7_allRun_51, e_X7_allRun_52, e_X7_allRun_53, e_X7_allRun_54, e_X7_allRun_57, e_X7_allRun_59, e_X7_allRun_60, e_X7_allRun_61, e_X7_allRun_62, e_X7_allRun_63, e_X7_allRun_64, e_X7_allRun_65, e_X7_allRun_66, e_X7_allRun_69, e_X7_allRun_70, e_X7_allRun_74, e_X7_allRun_76, e_X7_allRun_79, e_X7_allRun_80, e_X7_allRun_83, e_X7_allRun_86, e_X7_allRun_88, e_X7_allRun_89, e_X7_allRun_90, e_X7_allRun_91, e_X7_allRun_93, e_X7_allRun_94, e_X7_allRun_95, e_X7_allRun_98, e_X7_allRun_100, e_X7_allRun_101, e_X7_allRun_102, e_X7_allRun_105, e_X7_allRun_108, e_X7_allRun_109, e_X7_allRun_110, e_X7_allRun_113, e_X7_allRun_114, e_X7_allRun_115, e_X7_allRun_116, e_X7_allRun_117, e_X7_allRun_120, e_X7_allRun_123, e_X7_allRun_124, e_X7_allRun_127, e_X7_allRun_130, e_X7_allRun_131, e_X7_allRun_132, e_X7_allRun_133, e_X7_allRun_136, e_X7_allRun_138, e_X7_allRun_139, e_X7_allRun_140, e_X7_allRun_141, e_X7_allRun_142, e_X7_allRun_145, e_X7_allRun_148, e_X7_allRun_149, e_X7_allRun_150, e_X7_allRun_151, e_X7_allRun_152, e_X7_allRun_153, e_X7_allRun_154, e_X7_allRun_157, e_X7_allRun_159, e_X7_allRun_160, e_X7_allRun_161, e_X7_allRun_162, Option.toList_some, Option.toList_none, List.cons_append, List.nil_append, true_and, and_true, and_self, bb_ite, true_or, or_true, Option.some.injEq, bb_I_eq, bb_b_0e, bb_b_1e, bb_b_e0, bb_b_e1, decide_eq_true_eq, decide_eq_false_iff_not, bn_01, bn_11, bb_b_01, ne_eq, Bool.not_eq_false, Bool.not_eq_true, Classical.not_not, bn_lt, bn_le, bn_ti, Int32.reduceToInt, bn_m20, bn_20m, nI_add, bn_p1, bn_s1, bn_in, bn_cl, implies_true, not_true_eq_false, not_false_eq_true, Bool.true_and, Bool.false_and, Bool.and_true, Bool.and_false, Bool.true_or, Bool.false_or, Bool.or_true, Bool.or_false, Bool.not_true, Bool.not_false, false_implies, true_implies, forall_const, Bool.false_eq_true, Bool.true_eq_false, reduceCtorEq, eq_self, Bool.and_eq_true, Bool.or_eq_true, Bool.and_eq_false_iff, Bool.or_eq_false_iff, and_false, false_and, or_false, false_or, bm_v85, bm_v138, bm_v139, Int32.reduceToNatClampNeg, n85, n138, n139, Int.le_refl]
  | succ rem ih =>
    intro t z3 z4 N ht hI
    obtain ⟨x, hx, ex⟩ := ho t (by omega)
    have et : (o t).toInt.toNat = x := by rw [ex, bn_ti (by omega)]; rfl
    obtain ⟨g1, g2⟩ := br_rn_hi (lv := v) hs24 (fun x hx => (hq x hx).1) ho2 t (by omega)
    have hbB := br_rn_b (lv := v) hs24 hi.1 (fun x hx => ⟨(hq x hx).1, (hq x hx).2.2.1.2⟩) ho2 t (by omega)
    obtain ⟨f1, f2, f3, f4⟩ := hq x hx
    obtain ⟨k1, k2⟩ := g2 x hx
    have er : br_rn a o v (t + 1) = (br_tu (br_rn a o v t).1 v t x, (br_rn a o v t).2 + (br_go (br_rn a o v t).1 v x).2.1 5) := by
      show (br_tu (br_rn a o v t).1 v t (o t).toInt.toNat, (br_rn a o v t).2 + (br_go (br_rn a o v t).1 v (o t).toInt.toNat).2.1 5) = _
      rw [et]
    generalize hb0 : (br_rn a o v t).1 = b at *
    have st := bm_step (a := a) (v := v) (t := t) (x := x) hI (by rw [k1]; exact f1) (by omega) (hI.1 81 (by decide) (by decide)).symm _ rfl
    rw [k1, k2] at st
    obtain ⟨s1, s2⟩ := st
    obtain ⟨h1, h2, h3⟩ := hI
    have n26 : N 26 0 t = nI x := by rw [h3 26 0 t (by omega), h26 t (by omega), ex]
    have n86 : N 21 0 (86 + 2 * x) = nI (br_row a x) := by rw [h1 _ (by omega) (by omega), g1 _ (by omega), f2]
    have n87 : N 21 0 (86 + 2 * x + 1) = nI (br_hi a x) := by rw [h1 _ (by omega) (by omega), g1 _ (by omega), show 86 + 2 * x + 1 = 87 + 2 * x by omega, f4]
    have n85 : N 21 0 85 = nI s := by rw [h1 85 (by decide) (by decide), g1 85 (by decide), h85]
    have hvN : N 21 0 80 + N 7 0 6 = v := by rw [h1 80 (by decide) (by decide), g1 80 (by decide), h3 7 0 6 (by omega), hv]
    have hrb : bf_rb (fun c => N 21 0 (20 * br_row a x + c)) := fun c hc => by
      show 0 ≤ (N 21 0 (20 * br_row a x + c)).toInt ∧ (N 21 0 (20 * br_row a x + c)).toInt ≤ 99
      rw [h1 _ (by omega) (by omega)]
      exact hbB _ (by omega)
    have xr := fun k => x_X7_runs (d := d) (r := br_row a x) (w := br_hi a x) (M := N) (k := k) f1 f3.2 hrb hvN hb
    generalize bw_run v (decide ((N 21 0 81).toInt ≤ (br_hi a x : Int))) 20 (br_hi a x) ((fun c => N 21 0 (20 * br_row a x + c)), bw_F0 (br_row a x) (br_hi a x) (N 25 0 3) 0, N 21 0 134, N 21 0 135) = T at s1 s2 xr
    obtain ⟨N', i1, i2⟩ := ih (t + 1) (bb_I (nI x)) (bb_I (nI 7)) _ (by omega) (by rw [er]; exact s1)
    refine ⟨N', i1, fun R => ?_⟩
    have fa := l_X7_facts (d := d + 4) (t := t) (M := bm_R N (br_row a x) T) (R := R) (x0 := bb_U) (w3 := bb_I (nI x)) (x := (br_rn a o v t).2) (by omega) 7 0 rfl
    rw [bb_wr_nil, s2] at fa
    have c1 : ¬ (s : Int) ≤ (t : Int) := by omega
    have ir := i2 R
    rw [er] at ir
    rw [← ir, h_X7_allRun_23]
    have z0 : nI 0 = 0 := rfl
    rw [z0] at fa
    simp (disch := omega) only [e_X7_allRun_0, e_X7_allRun_1, e_X7_allRun_2, e_X7_allRun_3, e_X7_allRun_6, e_X7_allRun_7, e_X7_allRun_10, e_X7_allRun_13, e_X7_allRun_14, e_X7_allRun_17, e_X7_allRun_19, e_X7_allRun_20, e_X7_allRun_21, e_X7_allRun_22, e_X7_allRun_24, e_X7_allRun_25, e_X7_allRun_28, e_X7_allRun_30, e_X7_allRun_31, e_X7_allRun_34, e_X7_allRun_35, e_X7_allRun_38, e_X7_allRun_39, e_X7_allRun_40, e_X7_allRun_41, e_X7_allRun_42, e_X7_allRun_43, e_X7_allRun_46, e_X7_allRun_48, e_X7_allRun_49, e_X7_allRun_50, e_X7_allRun_51, e_X7_allRun_52, e_X7_allRun_53, e_X7_allRun_54, e_X7_allRun_57, e_X7_allRun_59, e_X7_allRun_60, e_X7_allRun_61, e_X7_allRun_62, e_X7_allRun_63, e_X7_allRun_64, e_X7_allRun_65, e_X7_allRun_66, e_X7_allRun_69, e_X7_allRun_70, e_X7_allRun_74, e_X7_allRun_76, e_X7_allRun_79, e_X7_allRun_80, e_X7_allRun_83, e_X7_allRun_86, e_X7_allRun_88, e_X7_allRun_89, e_X7_allRun_90, e_X7_allRun_91, e_X7_allRun_93, e_X7_allRun_94, e_X7_allRun_95, e_X7_allRun_98, e_X7_allRun_100, e_X7_allRun_101, e_X7_allRun_102, e_X7_allRun_105, e_X7_allRun_108, e_X7_allRun_109, e_X7_allRun_110, e_X7_allRun_113, e_X7_allRun_114, e_X7_allRun_115, e_X7_allRun_116, e_X7_allRun_117, e_X7_allRun_120, e_X7_allRun_123, e_X7_allRun_124, e_X7_allRun_127, e_X7_allRun_130, e_X7_allRun_131, e_X7_allRun_132, e_X7_allRun_133, e_X7_allRun_136, e_X7_allRun_138, e_X7_allRun_139, e_X7_allRun_140, e_X7_allRun_141, e_X7_allRun_142, e_X7_allRun_145, e_X7_allRun_148, e_X7_allRun_149, e_X7_allRun_150, e_X7_allRun_151, e_X7_allRun_152, e_X7_allRun_153, e_X7_allRun_154, e_X7_allRun_157, e_X7_allRun_159, e_X7_allRun_160, e_X7_allRun_161, e_X7_allRun_162, Option.toList_some, Option.toList_none, List.cons_append, List.nil_append, true_and, and_true, and_self, bb_ite, true_or, or_true, Option.some.injEq, bb_I_eq, bb_b_0e, bb_b_1e, bb_b_e0, bb_b_e1, decide_eq_true_eq, decide_eq_false_iff_not, bn_01, bn_11, bb_b_01, ne_eq, Bool.not_eq_false, Bool.not_eq_true, Classical.not_not, bn_lt, bn_le, bn_ti, Int32.reduceToInt, bn_m20, bn_20m, nI_add, bn_p1, bn_s1, bn_in, bn_cl, implies_true, not_true_eq_false, not_false_eq_true, Bool.true_and, Bool.false_and, Bool.and_true, Bool.and_false, Bool.true_or, Bool.false_or, Bool.or_true, Bool.or_false, Bool.not_true, Bool.not_false, false_implies, true_implies, forall_const, Bool.false_eq_true, Bool.true_eq_false, reduceCtorEq, eq_self, Bool.and_eq_true, Bool.or_eq_true, Bool.and_eq_false_iff, Bool.or_eq_false_iff, and_false, false_and, or_false, false_or, c1, bm_v85, Int32.reduceToNatClampNeg, n85, n26, bm_m2, bm_a86, n86, n87, xr]
    exact fa
theorem x_X7_allRun {d : Nat} {v : Int32} {M : bb_M} (hi : bs_inv (M 21 0)) (hv : M 21 0 80 + M 7 0 6 = v) (hb : 0 ≤ v.toInt ∧ v.toInt ≤ 1000) : ∃ M', (∀ k : Option bb_V → bb_M → Prop, bb_call (bb_CL (d + 5)) 45 [bb_R 7 0] M k ↔ k (some (bb_I (br_b (M 21 0) v).2)) M') ∧ (∀ j, j < 311 → M' 21 0 j = upd (br_ca (M 21 0) v) 85 0 j) ∧ ∀ k i j, ¬ (i = 0 ∧ (k = 21 ∨ k = 25 ∨ k = 26)) → M' k i j = M k i j := by
  have hsz := hi.2.2.2.2.2.2.1
  have hq := br_qs hi
  have hh : ∀ j, j < bs_sz (M 21 0) → 0 ≤ (M 21 0 (87 + 2 * j)).toInt ∧ (M 21 0 (87 + 2 * j)).toInt ≤ 1000 := fun j hj => by
    obtain ⟨-, -, g, e⟩ := hq j hj
    rw [e, bn_ti (by omega)]
    omega
  have xs := fun k => x_X7_sorts (d := d + 2) (M := M) (k := k) hsz.2 hh hsz.1
  have h85' : bb_wr M 26 0 0 (bs_sz (M 21 0)) (br_so (M 21 0) (bs_sz (M 21 0))) 21 0 85 = nI (bs_sz (M 21 0)) := by rw [bb_wr_k (by decide), hsz.2]
  have hI : bm_I (bb_up (bb_wr M 26 0 0 (bs_sz (M 21 0)) (br_so (M 21 0) (bs_sz (M 21 0)))) 21 0 142 (nI (bs_sz (M 21 0)))) (bs_sz (M 21 0)) (br_rn (M 21 0) (br_so (M 21 0) (bs_sz (M 21 0))) v 0).1 (bb_up (bb_wr M 26 0 0 (bs_sz (M 21 0)) (br_so (M 21 0) (bs_sz (M 21 0)))) 21 0 142 (nI (bs_sz (M 21 0)))) := ⟨fun j hj hj2 => by
    rw [bb_up_j hj2, bb_wr_k (by decide)]
    rfl, bb_up_at, fun _ _ _ _ => rfl⟩
  obtain ⟨N', i1, i2⟩ := l_X7_allRun (d := d) (a := M 21 0) (o := br_so (M 21 0) (bs_sz (M 21 0))) (v := v) (M1 := bb_up (bb_wr M 26 0 0 (bs_sz (M 21 0)) (br_so (M 21 0) (bs_sz (M 21 0)))) 21 0 142 (nI (bs_sz (M 21 0)))) hi rfl (br_so_ok (a := M 21 0) _) (fun j hj => by rw [bb_up_k (by decide), bb_wr_in0 hj]) (by rw [bb_up_k (by decide), bb_wr_k (by decide)]; exact hv) hb (bs_sz (M 21 0)) 0 bb_U bb_U _ (Nat.zero_add _) hI
  refine ⟨bb_up (bb_up (bb_up N' 21 0 138 (M 21 0 138 + nI (bs_sz (M 21 0)))) 21 0 139 (M 21 0 139 + (br_rn (M 21 0) (br_so (M 21 0) (bs_sz (M 21 0))) v (bs_sz (M 21 0))).2)) 21 0 85 0, fun k => bb_cal (st_X7_allRun ?_), fun j hj => ?_, fun k i j hk => ?_⟩
  rotate_left
  · rw [bf_upd]
    by_cases z : j = 85
    · rw [if_pos z, z]
      exact bb_up_at
    · rw [if_neg z, bb_up_j z]
      unfold br_ca
      rw [bf_upd, bf_upd, bf_upd]
      by_cases z2 : j = 142
      · rw [if_pos z2, z2, bb_up_j (by decide), bb_up_j (by decide)]
        exact i1.2.1
      · rw [if_neg z2]
        by_cases z3 : j = 139
        · rw [if_pos z3, z3]
          exact bb_up_at
        · rw [if_neg z3, bb_up_j z3]
          by_cases z4 : j = 138
          · rw [if_pos z4, z4]
            exact bb_up_at
          · rw [if_neg z4, bb_up_j z4]
            exact i1.1 j hj z2
  · have e := i1.2.2 k i j (by omega)
    unfold bb_up at e ⊢
    rw [if_neg (by omega), if_neg (by omega), if_neg (by omega), e, if_neg (by omega)]
    unfold bb_wr
    rw [if_neg (by omega)]
  · simp (disch := omega) only [e_X7_allRun_0, e_X7_allRun_1, e_X7_allRun_2, e_X7_allRun_3, e_X7_allRun_6, e_X7_allRun_7, e_X7_allRun_10, e_X7_allRun_13, e_X7_allRun_14, e_X7_allRun_17, e_X7_allRun_19, e_X7_allRun_20, e_X7_allRun_21, e_X7_allRun_22, e_X7_allRun_24, e_X7_allRun_25, e_X7_allRun_28, e_X7_allRun_30, e_X7_allRun_31, e_X7_allRun_34, e_X7_allRun_35, e_X7_allRun_38, e_X7_allRun_39, e_X7_allRun_40, e_X7_allRun_41, e_X7_allRun_42, e_X7_allRun_43, e_X7_allRun_46, e_X7_allRun_48, e_X7_allRun_49, e_X7_allRun_50, e_X7_allRun_51, e_X7_allRun_52, e_X7_allRun_53, e_X7_allRun_54, e_X7_allRun_57, e_X7_allRun_59, e_X7_allRun_60, e_X7_allRun_61, e_X7_allRun_62, e_X7_allRun_63, e_X7_allRun_64, e_X7_allRun_65, e_X7_allRun_66, e_X7_allRun_69, e_X7_allRun_70, e_X7_allRun_74, e_X7_allRun_76, e_X7_allRun_79, e_X7_allRun_80, e_X7_allRun_83, e_X7_allRun_86, e_X7_allRun_88, e_X7_allRun_89, e_X7_allRun_90, e_X7_allRun_91, e_X7_allRun_93, e_X7_allRun_94, e_X7_allRun_95, e_X7_allRun_98, e_X7_allRun_100, e_X7_allRun_101, e_X7_allRun_102, e_X7_allRun_105, e_X7_allRun_108, e_X7_allRun_109, e_X7_allRun_110, e_X7_allRun_113, e_X7_allRun_114, e_X7_allRun_115, e_X7_allRun_116, e_X7_allRun_117, e_X7_allRun_120, e_X7_allRun_123, e_X7_allRun_124, e_X7_allRun_127, e_X7_allRun_130, e_X7_allRun_131, e_X7_allRun_132, e_X7_allRun_133, e_X7_allRun_136, e_X7_allRun_138, e_X7_allRun_139, e_X7_allRun_140, e_X7_allRun_141, e_X7_allRun_142, e_X7_allRun_145, e_X7_allRun_148, e_X7_allRun_149, e_X7_allRun_150, e_X7_allRun_151, e_X7_allRun_152, e_X7_allRun_153, e_X7_allRun_154, e_X7_allRun_157, e_X7_allRun_159, e_X7_allRun_160, e_X7_allRun_161, e_X7_allRun_162, Option.toList_some, Option.toList_none, List.cons_append, List.nil_append, true_and, and_true, and_self, bb_ite, true_or, or_true, Option.some.injEq, bb_I_eq, bb_b_0e, bb_b_1e, bb_b_e0, bb_b_e1, decide_eq_true_eq, decide_eq_false_iff_not, bn_01, bn_11, bb_b_01, ne_eq, Bool.not_eq_false, Bool.not_eq_true, Classical.not_not, xs, bm_v85, bm_v142, Int32.reduceToNatClampNeg, h85']
    exact (i2 _).mpr ⟨rfl, rfl⟩
