/-! THE REFERENCE'S CALLS: strike, settle, run, would -/
def bm_st (a : Nat → Int32) (lo hi : Int32) (n : Nat) : Nat → Int32 := fun j => if j = 85 then nI (bf_cn (sp_kp a lo hi) n) else if 86 ≤ j ∧ j < 134 then (if j % 2 = 0 then bf_fl (sp_rs a) (sp_kp a lo hi) n ((j - 86) / 2) else bf_fl (sp_hs a) (sp_kp a lo hi) n ((j - 86) / 2)) else a j
theorem bm_st_0 {a : Nat → Int32} {lo hi : Int32} : bm_st a lo hi 0 = upd a 85 0 := by
  funext j
  rw [bf_upd]
  unfold bm_st
  by_cases z : j = 85
  · rw [if_pos z, if_pos z]
    rfl
  · rw [if_neg z, if_neg z]
    by_cases z2 : 86 ≤ j ∧ j < 134
    · rw [if_pos z2]
      by_cases z3 : j % 2 = 0
      · rw [if_pos z3]
        show a (86 + 2 * ((j - 86) / 2)) = a j
        rw [show 86 + 2 * ((j - 86) / 2) = j by omega]
      · rw [if_neg z3]
        show a (87 + 2 * ((j - 86) / 2)) = a j
        rw [show 87 + 2 * ((j - 86) / 2) = j by omega]
    · rw [if_neg z2]
theorem bm_st_sz {a : Nat → Int32} {lo hi : Int32} {n : Nat} (hn : n ≤ 24) : bs_sz (bm_st a lo hi n) = bf_cn (sp_kp a lo hi) n := by
  have := bf_cn_le (sp_kp a lo hi) n
  show (bm_st a lo hi n 85).toInt.toNat = _
  unfold bm_st
  rw [if_pos rfl, bn_ti (by omega)]
  rfl
theorem bm_st_85 {a : Nat → Int32} {lo hi : Int32} {n : Nat} : bm_st a lo hi n 85 = nI (bf_cn (sp_kp a lo hi) n) := by
  unfold bm_st
  rw [if_pos rfl]
theorem bm_st_f {a : Nat → Int32} {lo hi : Int32} {n : Nat} (h : sp_kp a lo hi n = false) : bm_st a lo hi (n + 1) = bm_st a lo hi n := by
  have e1 : bf_cn (sp_kp a lo hi) (n + 1) = bf_cn (sp_kp a lo hi) n := bf_cn_f h
  have e2 : ∀ f, bf_fl f (sp_kp a lo hi) (n + 1) = bf_fl f (sp_kp a lo hi) n := fun f => by
    show (if sp_kp a lo hi n then _ else _) = _
    rw [h]
    rfl
  unfold bm_st
  rw [e1, e2, e2]
theorem bm_st_t {a : Nat → Int32} {lo hi : Int32} {n : Nat} (h : sp_kp a lo hi n = true) (hn : n < 24) : bm_st a lo hi (n + 1) = sp_put (bm_st a lo hi n) (a (86 + 2 * n)) (a (87 + 2 * n)) := by
  have e1 : bf_cn (sp_kp a lo hi) (n + 1) = bf_cn (sp_kp a lo hi) n + 1 := by
    show (if sp_kp a lo hi n then _ else _) = _
    rw [h]
    rfl
  have e2 : ∀ f, bf_fl f (sp_kp a lo hi) (n + 1) = upd (bf_fl f (sp_kp a lo hi) n) (bf_cn (sp_kp a lo hi) n) (f n) := fun f => by
    show (if sp_kp a lo hi n then _ else _) = _
    rw [h]
    rfl
  have hc := bf_cn_le (sp_kp a lo hi) n
  unfold sp_put
  rw [bm_st_sz (by omega)]
  funext j
  rw [bf_upd, bf_upd, bf_upd]
  unfold bm_st
  rw [e1, e2, e2]
  generalize bf_cn (sp_kp a lo hi) n = c at *
  by_cases z : j = 85
  · rw [if_pos z, if_pos z]
  · rw [if_neg z, if_neg z]
    by_cases z2 : 86 ≤ j ∧ j < 134
    · rw [if_pos z2]
      by_cases z3 : j % 2 = 0
      · rw [if_pos z3, bf_upd, if_neg (by omega : ¬ j = 87 + 2 * c)]
        by_cases z4 : j = 86 + 2 * c
        · rw [if_pos z4, if_pos (by omega)]
          rfl
        · rw [if_neg z4, if_neg (by omega), if_neg z, if_pos z2, if_pos z3]
      · rw [if_neg z3, bf_upd]
        by_cases z4 : j = 87 + 2 * c
        · rw [if_pos z4, if_pos (by omega)]
          rfl
        · rw [if_neg z4, if_neg (by omega), if_neg (by omega : ¬ j = 86 + 2 * c), if_neg z, if_pos z2, if_neg z3]
    · rw [if_neg z2, if_neg (by omega), if_neg (by omega), if_neg z, if_neg z2]
theorem bf_cn_not {f : Nat → Int32} {lo hi : Int32} : ∀ n, bf_cn (bf_kp f lo hi) n + bf_cn (bf_btw f lo hi) n = n
  | 0 => rfl
  | n + 1 => by
    have ih := bf_cn_not (f := f) (lo := lo) (hi := hi) n
    show (if bf_kp f lo hi n then _ else _) + (if bf_btw f lo hi n then _ else _) = n + 1
    unfold bf_kp at ih ⊢
    cases bf_btw f lo hi n
    · show bf_cn _ n + 1 + bf_cn _ n = _
      omega
    · show bf_cn _ n + (bf_cn _ n + 1) = _
      omega
theorem bf_fl_all {f : Nat → Int32} {q : Nat → Bool} : ∀ n, bf_cn q n = n → bf_fl f q n = f
  | 0, _ => rfl
  | n + 1, h => by
    have hc := bf_cn_le q n
    cases hq : q n
    · rw [bf_cn_f hq] at h
      omega
    · have h' : bf_cn q n + 1 = n + 1 := by
        have e : bf_cn q (n + 1) = bf_cn q n + 1 := by
          show (if q n then _ else _) = _
          rw [hq]
          rfl
        omega
      have e : bf_cn q n = n := by omega
      show (if q n then upd (bf_fl f q n) (bf_cn q n) (f n) else bf_fl f q n) = f
      rw [hq, bf_fl_all n e, e]
      funext j
      show upd f n (f n) j = f j
      rw [bf_upd]
      split
      · rename_i z
        rw [z]
      · rfl
theorem l_X7_strike {d s : Nat} {lo hi : Int32} {a : Nat → Int32} {M : bb_M} {R : bb_P} (hk : ∀ j, j < 311 → M 22 0 j = a j) (hs : s ≤ 24) (h85 : a 85 = nI s) : ∀ (t n : Nat), n + t = s → (bb_Y (bb_CL (d + 1)) cd_X7_strike R 37 [bb_R 7 0, bb_I lo, bb_I hi, bb_I (nI n)] [] (bm_a M (bm_st a lo hi n)) ↔ bb_Y (bb_CL (d + 1)) cd_X7_strike R 106 [bb_R 7 0, bb_I lo, bb_I hi, bb_I (nI s)] [] (bm_a M (bm_st a lo hi s))) := by
  intro t
  have k85 : ∀ f, bm_a M f 22 0 85 = nI s := fun f => by rw [bm_a_k (by decide), hk _ (by decide), h85]
  have kr : ∀ f n, n < 24 → bm_a M f 22 0 (86 + 2 * n) = a (86 + 2 * n) := fun f n hn => by rw [bm_a_k (by decide), hk _ (by omega)]
  have kh : ∀ f n, n < 24 → bm_a M f 22 0 (87 + 2 * n) = a (87 + 2 * n) := fun f n hn => by rw [bm_a_k (by decide), hk _ (by omega)]
  induction t with
  | zero =>
    intro n hn
    obtain rfl : n = s := by omega
    rw [h_X7_strike_37]
    simp (disch := omega) only [e_X7_strike_38, e_X7_strike_39, e_X7_strike_42, e_X7_strike_44, e_X7_strike_45, Option.toList_some, Option.toList_none, List.cons_append, List.nil_append, true_and, and_true, and_self, bb_ite, true_or, or_true, Option.some.injEq, bb_I_eq, bb_b_0e, bb_b_1e, bb_b_e0, bb_b_e1, decide_eq_true_eq, decide_eq_false_iff_not, bn_01, bn_11, bb_b_01, ne_eq, Bool.not_eq_false, Bool.not_eq_true, Classical.not_not, bm_v85, Int32.reduceToNatClampNeg, k85, bn_le, bn_ti, Int.le_refl, bm_10, if_true, if_false, implies_true, not_true_eq_false, not_false_eq_true, Bool.true_and, Bool.false_and, Bool.and_true, Bool.and_false, Bool.true_or, Bool.false_or, Bool.or_true, Bool.or_false, Bool.not_true, Bool.not_false, false_implies, true_implies, forall_const, Bool.false_eq_true, Bool.true_eq_false, reduceCtorEq, eq_self, and_false, false_and, or_false, false_or]
    try exact Iff.rfl
  | succ t ih =>
    intro n hn
    have l : ¬ (s : Int) ≤ (n : Int) := by omega
    have hn24 : n < 24 := by omega
    have e86 : 86 + 2 * n + 1 = 87 + 2 * n := by omega
    have kr' := fun f => kr f n hn24
    have kh' := fun f => kh f n hn24
    have e := fun f k => x_in (d := d) (x := a (87 + 2 * n)) (L := lo.toInt64) (H := hi.toInt64) (M := bm_a M f) (k := k)
    simp only [Int32.toInt_toInt64] at e
    have eb : sp_kp a lo hi n = !bv (a (87 + 2 * n)) lo.toInt hi.toInt := rfl
    rw [← ih (n + 1) (by omega), h_X7_strike_37]
    cases hb : bv (a (87 + 2 * n)) lo.toInt hi.toInt
    · rw [hb] at eb
      have xp := fun k => x_X7_puts (d := d) (r := a (86 + 2 * n)) (v := a (87 + 2 * n)) (b := bm_st a lo hi n) (M := M) (k := k) (by rw [bm_st_85, bm_st_sz (by omega)]) (by rw [bm_st_sz (by omega)]; have := bf_cn_le (sp_kp a lo hi) n; omega)
      rw [bm_st_t eb hn24]
      simp (disch := omega) only [e_X7_strike_0, e_X7_strike_1, e_X7_strike_4, e_X7_strike_7, e_X7_strike_8, e_X7_strike_11, e_X7_strike_14, e_X7_strike_15, e_X7_strike_16, e_X7_strike_19, e_X7_strike_22, e_X7_strike_23, e_X7_strike_24, e_X7_strike_27, e_X7_strike_28, e_X7_strike_31, e_X7_strike_33, e_X7_strike_34, e_X7_strike_35, e_X7_strike_36, e_X7_strike_38, e_X7_strike_39, e_X7_strike_42, e_X7_strike_44, e_X7_strike_45, e_X7_strike_48, e_X7_strike_49, e_X7_strike_52, e_X7_strike_54, e_X7_strike_55, e_X7_strike_56, e_X7_strike_57, e_X7_strike_58, e_X7_strike_59, e_X7_strike_60, e_X7_strike_61, e_X7_strike_62, e_X7_strike_63, e_X7_strike_64, e_X7_strike_65, e_X7_strike_66, e_X7_strike_69, e_X7_strike_72, e_X7_strike_73, e_X7_strike_74, e_X7_strike_77, e_X7_strike_79, e_X7_strike_80, e_X7_strike_81, e_X7_strike_82, e_X7_strike_83, e_X7_strike_84, e_X7_strike_85, e_X7_strike_88, e_X7_strike_90, e_X7_strike_91, e_X7_strike_92, e_X7_strike_93, e_X7_strike_94, e_X7_strike_95, e_X7_strike_96, e_X7_strike_97, e_X7_strike_100, e_X7_strike_103, e_X7_strike_106, e_X7_strike_107, e_X7_strike_110, e_X7_strike_112, e_X7_strike_113, e_X7_strike_114, e_X7_strike_117, e_X7_strike_119, e_X7_strike_120, e_X7_strike_121, e_X7_strike_122, e_X7_strike_123, e_X7_strike_126, e_X7_strike_129, e_X7_strike_132, e_X7_strike_133, e_X7_strike_134, e_X7_strike_137, Option.toList_some, Option.toList_none, List.cons_append, List.nil_append, true_and, and_true, and_self, bb_ite, true_or, or_true, Option.some.injEq, bb_I_eq, bb_b_0e, bb_b_1e, bb_b_e0, bb_b_e1, decide_eq_true_eq, decide_eq_false_iff_not, bn_01, bn_11, bb_b_01, ne_eq, Bool.not_eq_false, Bool.not_eq_true, Classical.not_not, bm_v85, Int32.reduceToNatClampNeg, k85, bn_le, bn_ti, bn_in, bn_cl, bn_p1, l, bm_m2, bm_a86, e86, kr', kh', e, hb, xp, bm_10, if_true, if_false, implies_true, not_true_eq_false, not_false_eq_true, Bool.true_and, Bool.false_and, Bool.and_true, Bool.and_false, Bool.true_or, Bool.false_or, Bool.or_true, Bool.or_false, Bool.not_true, Bool.not_false, false_implies, true_implies, forall_const, Bool.false_eq_true, Bool.true_eq_false, reduceCtorEq, eq_self, and_false, false_and, or_false, false_or]
      try exact Iff.rfl
    · rw [hb] at eb
      rw [bm_st_f eb]
      simp (disch := omega) only [e_X7_strike_0, e_X7_strike_1, e_X7_strike_4, e_X7_strike_7, e_X7_strike_8, e_X7_strike_11, e_X7_strike_14, e_X7_strike_15, e_X7_strike_16, e_X7_strike_19, e_X7_strike_22, e_X7_strike_23, e_X7_strike_24, e_X7_strike_27, e_X7_strike_28, e_X7_strike_31, e_X7_strike_33, e_X7_strike_34, e_X7_strike_35, e_X7_strike_36, e_X7_strike_38, e_X7_strike_39, e_X7_strike_42, e_X7_strike_44, e_X7_strike_45, e_X7_strike_48, e_X7_strike_49, e_X7_strike_52, e_X7_strike_54, e_X7_strike_55, e_X7_strike_56, e_X7_strike_57, e_X7_strike_58, e_X7_strike_59, e_X7_strike_60, e_X7_strike_61, e_X7_strike_62, e_X7_strike_63, e_X7_strike_64, e_X7_strike_65, e_X7_strike_66, e_X7_strike_69, e_X7_strike_72, e_X7_strike_73, e_X7_strike_74, e_X7_strike_77, e_X7_strike_79, e_X7_strike_80, e_X7_strike_81, e_X7_strike_82, e_X7_strike_83, e_X7_strike_84, e_X7_strike_85, e_X7_strike_88, e_X7_strike_90, e_X7_strike_91, e_X7_strike_92, e_X7_strike_93, e_X7_strike_94, e_X7_strike_95, e_X7_strike_96, e_X7_strike_97, e_X7_strike_100, e_X7_strike_103, e_X7_strike_106, e_X7_strike_107, e_X7_strike_110, e_X7_strike_112, e_X7_strike_113, e_X7_strike_114, e_X7_strike_117, e_X7_strike_119, e_X7_strike_120, e_X7_strike_121, e_X7_strike_122, e_X7_strike_123, e_X7_strike_126, e_X7_strike_129, e_X7_strike_132, e_X7_strike_133, e_X7_strike_134, e_X7_strike_137, Option.toList_some, Option.toList_none, List.cons_append, List.nil_append, true_and, and_true, and_self, bb_ite, true_or, or_true, Option.some.injEq, bb_I_eq, bb_b_0e, bb_b_1e, bb_b_e0, bb_b_e1, decide_eq_true_eq, decide_eq_false_iff_not, bn_01, bn_11, bb_b_01, ne_eq, Bool.not_eq_false, Bool.not_eq_true, Classical.not_not, bm_v85, Int32.reduceToNatClampNeg, k85, bn_le, bn_ti, bn_in, bn_cl, bn_p1, l, bm_m2, bm_a86, e86, kr', kh', e, hb, bm_10, if_true, if_false, implies_true, not_true_eq_false, not_false_eq_true, Bool.true_and, Bool.false_and, Bool.and_true, Bool.and_false, Bool.true_or, Bool.false_or, Bool.or_true, Bool.or_false, Bool.not_true, Bool.not_false, false_implies, true_implies, forall_const, Bool.false_eq_true, Bool.true_eq_false, reduceCtorEq, eq_self, and_false, false_and, or_false, false_or]
      try exact Iff.rfl
theorem r_strike {d : Nat} {M : bb_M} {S : bs_S} {lo hi : Int32} (h : bm_MI M S) (ha : M 21 0 = S.a) (hi' : bs_inv S.a) : bm_api d 56 [bb_R 7 0, bb_I lo, bb_I hi] M (sp_strike S lo hi) := by
  unfold sp_strike
  have hsz := hi'.2.2.2.2.2.2.1
  have c0 : (0 : Int32).toInt = 0 := rfl
  by_cases q1 : bv lo 1 20 = true ∧ bv hi 1 20 = true ∧ lo.toInt ≤ hi.toInt
  · rw [if_pos q1]
    obtain ⟨p1, p2, p3⟩ := q1
    obtain ⟨M1, e1, es, k1, f1, g1, fin⟩ := bm_rem (d := d + 7) h ha
    have L := fun R => l_X7_strike (d := d + 7) (lo := lo) (hi := hi) (R := R) k1 hsz.1 hsz.2 (bs_sz S.a) 0 (Nat.zero_add _)
    rw [bm_st_0] at L
    have n0 : nI 0 = 0 := rfl
    simp only [n0] at L
    have en := bf_cn_not (f := sp_hs S.a) (lo := lo) (hi := hi) (bs_sz S.a)
    have hc := bf_cn_le (sp_kp S.a lo hi) (bs_sz S.a)
    have k85 : ∀ f, bm_a M1 f 22 0 85 = nI (bs_sz S.a) := fun f => by rw [bm_a_k (by decide), k1 _ (by decide)]; exact hsz.2
    have est : bm_st S.a lo hi (bs_sz S.a) = sp_str S.a lo hi := rfl
    have es85 : sp_str S.a lo hi 85 = nI (bf_cn (sp_kp S.a lo hi) (bs_sz S.a)) := by rw [← est, bm_st_85]
    rw [est] at L
    have esub : nI (bs_sz S.a) - nI (bf_cn (sp_kp S.a lo hi) (bs_sz S.a)) = nI (bs_sz S.a - bf_cn (sp_kp S.a lo hi) (bs_sz S.a)) := pk_sub hc
    by_cases q2 : bf_cn (bf_btw (sp_hs S.a) lo hi) (bs_sz S.a) = 0
    · rw [if_pos q2]
      have en' : bf_cn (sp_kp S.a lo hi) (bs_sz S.a) = bs_sz S.a := by
        show bf_cn (bf_kp (sp_hs S.a) lo hi) (bs_sz S.a) = _
        omega
      have e0 : nI (bs_sz S.a - bf_cn (sp_kp S.a lo hi) (bs_sz S.a)) = 0 := by rw [en', Nat.sub_self]; rfl
      have est' : ∀ j, sp_str S.a lo hi j = S.a j := fun j => by
        unfold sp_str
        rw [bf_fl_all _ en', bf_fl_all _ en', en']
        by_cases z : j = 85
        · rw [if_pos z, z]
          exact hsz.2.symm
        · rw [if_neg z]
          by_cases z2 : 86 ≤ j ∧ j < 134
          · rw [if_pos z2]
            by_cases z3 : j % 2 = 0
            · rw [if_pos z3]
              show S.a (86 + 2 * ((j - 86) / 2)) = S.a j
              rw [show 86 + 2 * ((j - 86) / 2) = j by omega]
            · rw [if_neg z3]
              show S.a (87 + 2 * ((j - 86) / 2)) = S.a j
              rw [show 87 + 2 * ((j - 86) / 2) = j by omega]
          · rw [if_neg z2]
      refine ⟨bm_a M1 (sp_str S.a lo hi), fun k => bb_cal (st_X7_strike ?_), bm_MI_wf h (bm_wf_tr f1 bm_wf_a) (fun j hj => by rw [bm_a_v, est' j]), bm_wf_cls (bm_wf_tr f1 bm_wf_a)⟩
      simp (disch := omega) only [e_X7_strike_0, e_X7_strike_1, e_X7_strike_4, e_X7_strike_7, e_X7_strike_8, e_X7_strike_11, e_X7_strike_14, e_X7_strike_15, e_X7_strike_16, e_X7_strike_23, e_X7_strike_24, e_X7_strike_27, e_X7_strike_28, e_X7_strike_31, e_X7_strike_33, e_X7_strike_34, e_X7_strike_35, e_X7_strike_36, L, e_X7_strike_106, e_X7_strike_107, e_X7_strike_110, e_X7_strike_112, e_X7_strike_113, e_X7_strike_114, e_X7_strike_117, e_X7_strike_119, e_X7_strike_120, e_X7_strike_121, e_X7_strike_122, e_X7_strike_123, e_X7_strike_126, e_X7_strike_129, e_X7_strike_137, Option.toList_some, Option.toList_none, List.cons_append, List.nil_append, true_and, and_true, and_self, bb_ite, true_or, or_true, Option.some.injEq, bb_I_eq, bb_b_0e, bb_b_1e, bb_b_e0, bb_b_e1, decide_eq_true_eq, decide_eq_false_iff_not, bn_01, bn_11, bb_b_01, ne_eq, Bool.not_eq_false, Bool.not_eq_true, Classical.not_not, bm_v85, Int32.reduceToNatClampNeg, x_X7_isHeight, p1, p2, bn_le, p3, e1, bm_a_up, k85, bm_a_v, es85, esub, e0, bm_10, if_true, if_false, implies_true, not_true_eq_false, not_false_eq_true, Bool.true_and, Bool.false_and, Bool.and_true, Bool.and_false, Bool.true_or, Bool.false_or, Bool.or_true, Bool.or_false, Bool.not_true, Bool.not_false, false_implies, true_implies, forall_const, Bool.false_eq_true, Bool.true_eq_false, reduceCtorEq, eq_self, and_false, false_and, or_false, false_or]
      try trivial
    · rw [if_neg q2]
      have en' : bf_cn (sp_kp S.a lo hi) (bs_sz S.a) + bf_cn (bf_btw (sp_hs S.a) lo hi) (bs_sz S.a) = bs_sz S.a := en
      have e0 : ¬ nI (bs_sz S.a - bf_cn (sp_kp S.a lo hi) (bs_sz S.a)) = 0 := fun z => by
        rw [bn_nI0 (by omega)] at z
        omega
      obtain ⟨M', x1, x2, x3⟩ := fin (bm_a M1 (sp_str S.a lo hi)) (sp_str S.a lo hi) (nI (bs_sz S.a - bf_cn (sp_kp S.a lo hi) (bs_sz S.a))) (bm_wf_tr f1 bm_wf_a) (fun j hj => bm_a_k (by decide)) (fun j hj => bm_a_v)
      refine ⟨M', fun k => bb_cal (st_X7_strike ?_), x2, x3⟩
      simp (disch := omega) only [e_X7_strike_0, e_X7_strike_1, e_X7_strike_4, e_X7_strike_7, e_X7_strike_8, e_X7_strike_11, e_X7_strike_14, e_X7_strike_15, e_X7_strike_16, e_X7_strike_23, e_X7_strike_24, e_X7_strike_27, e_X7_strike_28, e_X7_strike_31, e_X7_strike_33, e_X7_strike_34, e_X7_strike_35, e_X7_strike_36, L, e_X7_strike_106, e_X7_strike_107, e_X7_strike_110, e_X7_strike_112, e_X7_strike_113, e_X7_strike_114, e_X7_strike_117, e_X7_strike_119, e_X7_strike_120, e_X7_strike_121, e_X7_strike_122, e_X7_strike_123, e_X7_strike_132, e_X7_strike_133, e_X7_strike_134, e_X7_strike_137, Option.toList_some, Option.toList_none, List.cons_append, List.nil_append, true_and, and_true, and_self, bb_ite, true_or, or_true, Option.some.injEq, bb_I_eq, bb_b_0e, bb_b_1e, bb_b_e0, bb_b_e1, decide_eq_true_eq, decide_eq_false_iff_not, bn_01, bn_11, bb_b_01, ne_eq, Bool.not_eq_false, Bool.not_eq_true, Classical.not_not, bm_v85, Int32.reduceToNatClampNeg, x_X7_isHeight, p1, p2, bn_le, p3, e1, bm_a_up, k85, bm_a_v, es85, esub, e0, x1, bm_10, if_true, if_false, implies_true, not_true_eq_false, not_false_eq_true, Bool.true_and, Bool.false_and, Bool.and_true, Bool.and_false, Bool.true_or, Bool.false_or, Bool.or_true, Bool.or_false, Bool.not_true, Bool.not_false, false_implies, true_implies, forall_const, Bool.false_eq_true, Bool.true_eq_false, reduceCtorEq, eq_self, and_false, false_and, or_false, false_or]
      try trivial
  · rw [if_neg q1]
    refine bm_no h (fun k => bb_cal (st_X7_strike ?_))
    cases p1 : bv lo 1 20
    · simp (disch := omega) only [e_X7_strike_0, e_X7_strike_1, e_X7_strike_4, e_X7_strike_7, e_X7_strike_8, e_X7_strike_11, e_X7_strike_14, e_X7_strike_15, e_X7_strike_16, e_X7_strike_19, e_X7_strike_22, e_X7_strike_23, e_X7_strike_24, e_X7_strike_27, e_X7_strike_28, e_X7_strike_31, e_X7_strike_33, e_X7_strike_34, e_X7_strike_35, e_X7_strike_36, e_X7_strike_38, e_X7_strike_39, e_X7_strike_42, e_X7_strike_44, e_X7_strike_45, e_X7_strike_48, e_X7_strike_49, e_X7_strike_52, e_X7_strike_54, e_X7_strike_55, e_X7_strike_56, e_X7_strike_57, e_X7_strike_58, e_X7_strike_59, e_X7_strike_60, e_X7_strike_61, e_X7_strike_62, e_X7_strike_63, e_X7_strike_64, e_X7_strike_65, e_X7_strike_66, e_X7_strike_69, e_X7_strike_72, e_X7_strike_73, e_X7_strike_74, e_X7_strike_77, e_X7_strike_79, e_X7_strike_80, e_X7_strike_81, e_X7_strike_82, e_X7_strike_83, e_X7_strike_84, e_X7_strike_85, e_X7_strike_88, e_X7_strike_90, e_X7_strike_91, e_X7_strike_92, e_X7_strike_93, e_X7_strike_94, e_X7_strike_95, e_X7_strike_96, e_X7_strike_97, e_X7_strike_100, e_X7_strike_103, e_X7_strike_106, e_X7_strike_107, e_X7_strike_110, e_X7_strike_112, e_X7_strike_113, e_X7_strike_114, e_X7_strike_117, e_X7_strike_119, e_X7_strike_120, e_X7_strike_121, e_X7_strike_122, e_X7_strike_123, e_X7_strike_126, e_X7_strike_129, e_X7_strike_132, e_X7_strike_133, e_X7_strike_134, e_X7_strike_137, Option.toList_some, Option.toList_none, List.cons_append, List.nil_append, true_and, and_true, and_self, bb_ite, true_or, or_true, Option.some.injEq, bb_I_eq, bb_b_0e, bb_b_1e, bb_b_e0, bb_b_e1, decide_eq_true_eq, decide_eq_false_iff_not, bn_01, bn_11, bb_b_01, ne_eq, Bool.not_eq_false, Bool.not_eq_true, Classical.not_not, x_X7_isHeight, p1, bm_10, if_true, if_false, implies_true, not_true_eq_false, not_false_eq_true, Bool.true_and, Bool.false_and, Bool.and_true, Bool.and_false, Bool.true_or, Bool.false_or, Bool.or_true, Bool.or_false, Bool.not_true, Bool.not_false, false_implies, true_implies, forall_const, Bool.false_eq_true, Bool.true_eq_false, reduceCtorEq, eq_self, and_false, false_and, or_false, false_or]
      try trivial
    · cases p2 : bv hi 1 20
      · simp (disch := omega) only [e_X7_strike_0, e_X7_strike_1, e_X7_strike_4, e_X7_strike_7, e_X7_strike_8, e_X7_strike_11, e_X7_strike_14, e_X7_strike_15, e_X7_strike_16, e_X7_strike_19, e_X7_strike_22, e_X7_strike_23, e_X7_strike_24, e_X7_strike_27, e_X7_strike_28, e_X7_strike_31, e_X7_strike_33, e_X7_strike_34, e_X7_strike_35, e_X7_strike_36, e_X7_strike_38, e_X7_strike_39, e_X7_strike_42, e_X7_strike_44, e_X7_strike_45, e_X7_strike_48, e_X7_strike_49, e_X7_strike_52, e_X7_strike_54, e_X7_strike_55, e_X7_strike_56, e_X7_strike_57, e_X7_strike_58, e_X7_strike_59, e_X7_strike_60, e_X7_strike_61, e_X7_strike_62, e_X7_strike_63, e_X7_strike_64, e_X7_strike_65, e_X7_strike_66, e_X7_strike_69, e_X7_strike_72, e_X7_strike_73, e_X7_strike_74, e_X7_strike_77, e_X7_strike_79, e_X7_strike_80, e_X7_strike_81, e_X7_strike_82, e_X7_strike_83, e_X7_strike_84, e_X7_strike_85, e_X7_strike_88, e_X7_strike_90, e_X7_strike_91, e_X7_strike_92, e_X7_strike_93, e_X7_strike_94, e_X7_strike_95, e_X7_strike_96, e_X7_strike_97, e_X7_strike_100, e_X7_strike_103, e_X7_strike_106, e_X7_strike_107, e_X7_strike_110, e_X7_strike_112, e_X7_strike_113, e_X7_strike_114, e_X7_strike_117, e_X7_strike_119, e_X7_strike_120, e_X7_strike_121, e_X7_strike_122, e_X7_strike_123, e_X7_strike_126, e_X7_strike_129, e_X7_strike_132, e_X7_strike_133, e_X7_strike_134, e_X7_strike_137, Option.toList_some, Option.toList_none, List.cons_append, List.nil_append, true_and, and_true, and_self, bb_ite, true_or, or_true, Option.some.injEq, bb_I_eq, bb_b_0e, bb_b_1e, bb_b_e0, bb_b_e1, decide_eq_true_eq, decide_eq_false_iff_not, bn_01, bn_11, bb_b_01, ne_eq, Bool.not_eq_false, Bool.not_eq_true, Classical.not_not, x_X7_isHeight, p1, p2, bm_10, if_true, if_false, implies_true, not_true_eq_false, not_false_eq_true, Bool.true_and, Bool.false_and, Bool.and_true, Bool.and_false, Bool.true_or, Bool.false_or, Bool.or_true, Bool.or_false, Bool.not_true, Bool.not_false, false_implies, true_implies, forall_const, Bool.false_eq_true, Bool.true_eq_false, reduceCtorEq, eq_self, and_false, false_and, or_false, false_or]
        try trivial
      · have p3 : ¬ lo.toInt ≤ hi.toInt := fun z => q1 ⟨p1, p2, z⟩
        simp (disch := omega) only [e_X7_strike_0, e_X7_strike_1, e_X7_strike_4, e_X7_strike_7, e_X7_strike_8, e_X7_strike_11, e_X7_strike_14, e_X7_strike_15, e_X7_strike_16, e_X7_strike_19, e_X7_strike_22, e_X7_strike_23, e_X7_strike_24, e_X7_strike_27, e_X7_strike_28, e_X7_strike_31, e_X7_strike_33, e_X7_strike_34, e_X7_strike_35, e_X7_strike_36, e_X7_strike_38, e_X7_strike_39, e_X7_strike_42, e_X7_strike_44, e_X7_strike_45, e_X7_strike_48, e_X7_strike_49, e_X7_strike_52, e_X7_strike_54, e_X7_strike_55, e_X7_strike_56, e_X7_strike_57, e_X7_strike_58, e_X7_strike_59, e_X7_strike_60, e_X7_strike_61, e_X7_strike_62, e_X7_strike_63, e_X7_strike_64, e_X7_strike_65, e_X7_strike_66, e_X7_strike_69, e_X7_strike_72, e_X7_strike_73, e_X7_strike_74, e_X7_strike_77, e_X7_strike_79, e_X7_strike_80, e_X7_strike_81, e_X7_strike_82, e_X7_strike_83, e_X7_strike_84, e_X7_strike_85, e_X7_strike_88, e_X7_strike_90, e_X7_strike_91, e_X7_strike_92, e_X7_strike_93, e_X7_strike_94, e_X7_strike_95, e_X7_strike_96, e_X7_strike_97, e_X7_strike_100, e_X7_strike_103, e_X7_strike_106, e_X7_strike_107, e_X7_strike_110, e_X7_strike_112, e_X7_strike_113, e_X7_strike_114, e_X7_strike_117, e_X7_strike_119, e_X7_strike_120, e_X7_strike_121, e_X7_strike_122, e_X7_strike_123, e_X7_strike_126, e_X7_strike_129, e_X7_strike_132, e_X7_strike_133, e_X7_strike_134, e_X7_strike_137, Option.toList_some, Option.toList_none, List.cons_append, List.nil_append, true_and, and_true, and_self, bb_ite, true_or, or_true, Option.some.injEq, bb_I_eq, bb_b_0e, bb_b_1e, bb_b_e0, bb_b_e1, decide_eq_true_eq, decide_eq_false_iff_not, bn_01, bn_11, bb_b_01, ne_eq, Bool.not_eq_false, Bool.not_eq_true, Classical.not_not, x_X7_isHeight, p1, p2, bn_le, p3, bm_10, if_true, if_false, implies_true, not_true_eq_false, not_false_eq_true, Bool.true_and, Bool.false_and, Bool.and_true, Bool.and_false, Bool.true_or, Bool.false_or, Bool.or_true, Bool.or_false, Bool.not_true, Bool.not_false, false_implies, true_implies, forall_const, Bool.false_eq_true, Bool.true_eq_false, reduceCtorEq, eq_self, and_false, false_and, or_false, false_or]
        try trivial
