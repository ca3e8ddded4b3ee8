/-! STRIKE -/
/-- the place from which the one at j of those kept came -/
def bf_ps (q : Nat → Bool) : Nat → Nat → Nat
  | 0 => fun j => j
  | n + 1 => if q n then fun j => if j = bf_cn q n then n else bf_ps q n j else bf_ps q n
theorem bf_fl_ps {f : Nat → Int32} {q : Nat → Bool} : ∀ n j, bf_fl f q n j = f (bf_ps q n j)
  | 0, _ => rfl
  | n + 1, j => by
    have ih := bf_fl_ps (f := f) (q := q) n j
    show (if q n then upd (bf_fl f q n) (bf_cn q n) (f n) else bf_fl f q n) j = f ((if q n then fun j => if j = bf_cn q n then n else bf_ps q n j else bf_ps q n) j)
    by_cases z : q n = true
    · rw [if_pos z, if_pos z, bf_upd]
      by_cases y : j = bf_cn q n
      · rw [if_pos y, if_pos y]
      · rw [if_neg y, if_neg y, ih]
    · rw [if_neg z, if_neg z, ih]
theorem bf_ps_lt {q : Nat → Bool} : ∀ n j, j < bf_cn q n → bf_ps q n j < n
  | 0, j, h => absurd h (Nat.not_lt_zero j)
  | n + 1, j, h => by
    have ih := bf_ps_lt (q := q) n j
    rw [bf_cn_s] at h
    show (if q n then fun j => if j = bf_cn q n then n else bf_ps q n j else bf_ps q n) j < n + 1
    by_cases z : q n = true
    · rw [if_pos z] at h ⊢
      split
      · omega
      · have := ih (by omega)
        omega
    · rw [if_neg z] at h ⊢
      have := ih h
      omega
theorem bf_cn_eq {q q' : Nat → Bool} : ∀ n, (∀ j, j < n → q j = q' j) → bf_cn q n = bf_cn q' n
  | 0, _ => rfl
  | n + 1, e => by rw [bf_cn_s, bf_cn_s, bf_cn_eq n (fun j hj => e j (by omega)), e n (by omega)]
theorem bf_ps_eq {q q' : Nat → Bool} : ∀ n, (∀ j, j < n → q j = q' j) → bf_ps q n = bf_ps q' n
  | 0, _ => rfl
  | n + 1, e => by
    show (if q n then fun j => if j = bf_cn q n then n else bf_ps q n j else bf_ps q n) = (if q' n then fun j => if j = bf_cn q' n then n else bf_ps q' n j else bf_ps q' n)
    rw [bf_cn_eq n (fun j hj => e j (by omega)), bf_ps_eq n (fun j hj => e j (by omega)), e n (by omega)]
def sp_rs (a : Nat → Int32) (j : Nat) : Int32 := a (86 + 2 * j)
def sp_hs (a : Nat → Int32) (j : Nat) : Int32 := a (87 + 2 * j)
def sp_kp (a : Nat → Int32) (lo hi : Int32) : Nat → Bool := bf_kp (sp_hs a) lo hi
def sp_str (a : Nat → Int32) (lo hi : Int32) : Nat → Int32 := fun j => if j = 85 then nI (bf_cn (sp_kp a lo hi) (bs_sz a)) else if 86 ≤ j ∧ j < 134 then (if j % 2 = 0 then bf_fl (sp_rs a) (sp_kp a lo hi) (bs_sz a) ((j - 86) / 2) else bf_fl (sp_hs a) (sp_kp a lo hi) (bs_sz a) ((j - 86) / 2)) else a j
theorem sp_str_hi {a : Nat → Int32} {lo hi : Int32} {j : Nat} (h : j < 85 ∨ 134 ≤ j) : sp_str a lo hi j = a j := by
  unfold sp_str
  rw [if_neg (by omega), if_neg (by omega)]
theorem sp_str_r {a : Nat → Int32} {lo hi : Int32} {j : Nat} (h : j < 24) : sp_str a lo hi (86 + 2 * j) = bf_fl (sp_rs a) (sp_kp a lo hi) (bs_sz a) j := by
  unfold sp_str
  rw [if_neg (by omega), if_pos (by omega), if_pos (by omega), show (86 + 2 * j - 86) / 2 = j by omega]
theorem sp_str_h {a : Nat → Int32} {lo hi : Int32} {j : Nat} (h : j < 24) : sp_str a lo hi (87 + 2 * j) = bf_fl (sp_hs a) (sp_kp a lo hi) (bs_sz a) j := by
  unfold sp_str
  rw [if_neg (by omega), if_pos (by omega), if_neg (by omega), show (87 + 2 * j - 86) / 2 = j by omega]
theorem sp_str_sz {a : Nat → Int32} {lo hi : Int32} (hs : bs_sz a ≤ 24) : bs_sz (sp_str a lo hi) = bf_cn (sp_kp a lo hi) (bs_sz a) := by
  have := bf_cn_le (sp_kp a lo hi) (bs_sz a)
  show (sp_str a lo hi 85).toInt.toNat = _
  unfold sp_str
  rw [if_pos rfl, bn_ti (by omega)]
  rfl
theorem sp_str_inv {a : Nat → Int32} {lo hi : Int32} (h : bs_inv a) : bs_inv (sp_str a lo hi) := by
  obtain ⟨h1, h2, h3, h4, h5, h6, h7, h8, h9⟩ := h
  have hc := bf_cn_le (sp_kp a lo hi) (bs_sz a)
  have etl : bs_tl (sp_str a lo hi) = bs_tl a := by unfold bs_tl; rw [sp_str_hi (by omega)]
  refine ⟨fun j hj => ?_, ?_, ?_, ?_, ?_, ?_, ?_, ?_, ?_⟩
  · rw [sp_str_hi (by omega)]; exact h1 j hj
  · rw [sp_str_hi (by omega)]; exact h2
  · rw [sp_str_hi (by omega)]; exact h3
  · rw [sp_str_hi (by omega)]; exact h4
  · rw [sp_str_hi (by omega)]; exact h5
  · rw [sp_str_hi (by omega)]; exact h6
  · rw [sp_str_sz h7.1]
    exact ⟨by omega, by unfold sp_str; rw [if_pos rfl]⟩
  · rw [sp_str_sz h7.1]
    intro j hj
    rw [sp_str_r (by omega), sp_str_h (by omega), bf_fl_ps, bf_fl_ps]
    exact h8 _ (bf_ps_lt _ _ hj)
  · rw [etl, sp_str_hi (by omega)]; exact h9
def sp_strike (S : bs_S) (lo hi : Int32) : Int32 × bs_S := if bv lo 1 20 = true ∧ bv hi 1 20 = true ∧ lo.toInt ≤ hi.toInt then (if bf_cn (bf_btw (sp_hs S.a) lo hi) (bs_sz S.a) = 0 then (-1005, S) else (nI (bs_sz S.a - bf_cn (sp_kp S.a lo hi) (bs_sz S.a)), bs_act S (sp_str S.a lo hi))) else (-1002, S)
theorem c_strike {d : Nat} {M : bb_M} {S : bs_S} {lo hi : Int32} (h : bs_CI M S) : bs_api d 6 [bb_R 6 0, bb_I lo, bb_I hi] M (sp_strike S lo hi) := by
  unfold sp_strike
  have hsz := h.2.1.2.2.2.2.2.2.1
  have e85 : M 1 0 2 = nI (bs_sz S.a) := by rw [h.1.2.2.2.1]; exact hsz.2
  by_cases q1 : bv lo 1 20 = true ∧ bv hi 1 20 = true ∧ lo.toInt ≤ hi.toInt
  · rw [if_pos q1]
    obtain ⟨p1, p2, p3⟩ := q1
    have eb : bf_cn (bf_btw (M 13 0) lo hi) (bs_sz S.a) = bf_cn (bf_btw (sp_hs S.a) lo hi) (bs_sz S.a) := bf_cn_eq _ (fun j hj => by
      unfold bf_btw sp_hs
      rw [(h.1.2.2.2.2.1 j hj).2])
    have xb := fun k => x_X1_hasBetween (d := d + 6) (lo := lo) (hi := hi) (M := M) (k := k) e85 hsz.1
    rw [eb] at xb
    by_cases q2 : bf_cn (bf_btw (sp_hs S.a) lo hi) (bs_sz S.a) = 0
    · rw [if_pos q2]
      refine ⟨M, fun k => bb_cal (st_X6_strike ?_), h, bs_ref_rf⟩
      simp (disch := omega) only [e_X6_strike_0, e_X6_strike_1, e_X6_strike_4, e_X6_strike_7, e_X6_strike_8, e_X6_strike_11, e_X6_strike_14, e_X6_strike_15, e_X6_strike_16, e_X6_strike_19, e_X6_strike_22, e_X6_strike_23, e_X6_strike_24, e_X6_strike_27, e_X6_strike_30, e_X6_strike_31, e_X6_strike_32, e_X6_strike_35, e_X6_strike_38, e_X6_strike_41, e_X6_strike_42, e_X6_strike_43, e_X6_strike_46, e_X6_strike_47, e_X6_strike_50, e_X6_strike_53, e_X6_strike_54, e_X6_strike_57, e_X6_strike_60, e_X6_strike_61, e_X6_strike_62, e_X6_strike_65, Option.toList_some, Option.toList_none, List.cons_append, List.nil_append, true_and, and_true, and_self, bb_ite, true_or, or_true, Option.some.injEq, bb_I_eq, bb_b_0e, bb_b_1e, bb_b_e0, bb_b_e1, decide_eq_true_eq, decide_eq_false_iff_not, bn_01, bn_11, bb_b_01, ne_eq, Bool.not_eq_false, Bool.not_eq_true, Classical.not_not, bn_lt, bn_le, bn_ti, Int32.reduceToInt, bn_m20, bn_20m, nI_add, bn_p1, bn_s1, bn_in, bn_cl, implies_true, not_true_eq_false, not_false_eq_true, Bool.true_and, Bool.false_and, Bool.and_true, Bool.and_false, Bool.true_or, Bool.false_or, Bool.or_true, Bool.or_false, Bool.not_true, Bool.not_false, false_implies, true_implies, forall_const, Bool.false_eq_true, Bool.true_eq_false, reduceCtorEq, eq_self, Bool.and_eq_true, Bool.or_eq_true, Bool.and_eq_false_iff, Bool.or_eq_false_iff, and_false, false_and, or_false, false_or, x_X6_isWaveHeight, p1, p2, p3, xb, q2]
      try trivial
    · rw [if_neg q2]
      obtain ⟨M1, e1, r1, f1, g1, g2, fin⟩ := bs_rec (d := d + 4) h
      have e86 : M1 1 0 2 = nI (bs_sz S.a) := by rw [g1 _ _ (by decide), e85]
      have xr := fun k => x_X1_removeBetween (d := d + 6) (lo := lo) (hi := hi) (M := M1) (k := k) e86 hsz.1
      have kp : ∀ j, j < bs_sz S.a → bf_kp (M1 13 0) lo hi j = sp_kp S.a lo hi j := fun j hj => by
        unfold sp_kp bf_kp bf_btw sp_hs
        rw [(r1.2.2.2.2.1 j hj).2]
      have ec := bf_cn_eq (bs_sz S.a) kp
      have ep := bf_ps_eq (bs_sz S.a) kp
      rw [ec] at xr
      have hc := bf_cn_le (sp_kp S.a lo hi) (bs_sz S.a)
      generalize hM2 : (bb_up (bb_wr (bb_wr M1 12 0 0 24 (bf_fl (M1 12 0) (bf_kp (M1 13 0) lo hi) (bs_sz S.a))) 13 0 0 24 (bf_fl (M1 13 0) (bf_kp (M1 13 0) lo hi) (bs_sz S.a))) 1 0 2 (nI (bf_cn (sp_kp S.a lo hi) (bs_sz S.a)))) = M2 at xr
      have ot : ∀ k i j, k ≠ 12 → k ≠ 13 → k ≠ 1 → M2 k i j = M1 k i j := fun k i j z1 z2 z3 => by
        rw [← hM2, bb_up_k z3, bb_wr_k z2, bb_wr_k z1]
      have oi : ∀ k i j, i ≠ 0 → M2 k i j = M1 k i j := fun k i j z => by
        rw [← hM2, bb_up_i z]
        unfold bb_wr
        rw [if_neg (fun y => z y.2.1), if_neg (fun y => z y.2.1)]
      have r2 : bs_rep M2 0 (sp_str S.a lo hi) := by
        obtain ⟨h1, h2, h3, h4, h5, h6, h7, h8⟩ := r1
        have etl : bs_tl (sp_str S.a lo hi) = bs_tl S.a := by unfold bs_tl; rw [sp_str_hi (by omega)]
        refine ⟨fun j hj => ?_, ?_, fun j hj => ?_, ?_, ?_, fun j hj => ?_, ?_, ?_⟩
        · rw [ot _ _ _ (by decide) (by decide) (by decide), sp_str_hi (by omega)]; exact h1 j hj
        · rw [ot _ _ _ (by decide) (by decide) (by decide), sp_str_hi (by omega)]; exact h2
        · rw [ot _ _ _ (by decide) (by decide) (by decide), sp_str_hi (by omega)]; exact h3 j hj
        · rw [← hM2, bb_up_at]
          unfold sp_str
          rw [if_pos rfl]
        · rw [sp_str_sz hsz.1]
          intro j hj
          have pj := bf_ps_lt _ _ hj
          rw [sp_str_r (by omega), sp_str_h (by omega), ← hM2, bb_up_k (by decide), bb_up_k (by decide), bb_wr_k (by decide), bb_wr_in0 (by omega), bb_wr_in0 (by omega), bf_fl_ps, bf_fl_ps, bf_fl_ps, bf_fl_ps, ep]
          exact h5 _ pj
        · rw [ot _ _ _ (by decide) (by decide) (by decide), sp_str_hi (by omega)]; exact h6 j hj
        · rw [ot _ _ _ (by decide) (by decide) (by decide), sp_str_hi (by omega)]; exact h7
        · rw [etl]
          intro j hj
          rw [ot _ _ _ (by decide) (by decide) (by decide), sp_str_hi (by omega)]; exact h8 j hj
      obtain ⟨c1, c2⟩ := fin M2 _ (fun k i j hk => by
        by_cases z : i = 0
        · exact ot k i j (by omega) (by omega) (by omega)
        · exact oi k i j z) r2 (sp_str_inv h.2.1)
      refine ⟨M2, fun k => bb_cal (st_X6_strike ?_), c1, c2⟩
      simp (disch := omega) only [e_X6_strike_0, e_X6_strike_1, e_X6_strike_4, e_X6_strike_7, e_X6_strike_8, e_X6_strike_11, e_X6_strike_14, e_X6_strike_15, e_X6_strike_16, e_X6_strike_19, e_X6_strike_22, e_X6_strike_23, e_X6_strike_24, e_X6_strike_27, e_X6_strike_30, e_X6_strike_31, e_X6_strike_32, e_X6_strike_35, e_X6_strike_38, e_X6_strike_41, e_X6_strike_42, e_X6_strike_43, e_X6_strike_46, e_X6_strike_47, e_X6_strike_50, e_X6_strike_53, e_X6_strike_54, e_X6_strike_57, e_X6_strike_60, e_X6_strike_61, e_X6_strike_62, e_X6_strike_65, Option.toList_some, Option.toList_none, List.cons_append, List.nil_append, true_and, and_true, and_self, bb_ite, true_or, or_true, Option.some.injEq, bb_I_eq, bb_b_0e, bb_b_1e, bb_b_e0, bb_b_e1, decide_eq_true_eq, decide_eq_false_iff_not, bn_01, bn_11, bb_b_01, ne_eq, Bool.not_eq_false, Bool.not_eq_true, Classical.not_not, bn_lt, bn_le, bn_ti, Int32.reduceToInt, bn_m20, bn_20m, nI_add, bn_p1, bn_s1, bn_in, bn_cl, implies_true, not_true_eq_false, not_false_eq_true, Bool.true_and, Bool.false_and, Bool.and_true, Bool.and_false, Bool.true_or, Bool.false_or, Bool.or_true, Bool.or_false, Bool.not_true, Bool.not_false, false_implies, true_implies, forall_const, Bool.false_eq_true, Bool.true_eq_false, reduceCtorEq, eq_self, Bool.and_eq_true, Bool.or_eq_true, Bool.and_eq_false_iff, Bool.or_eq_false_iff, and_false, false_and, or_false, false_or, x_X6_isWaveHeight, p1, p2, p3, xb, q2, e1, xr]
      try trivial
  · rw [if_neg q1]
    refine ⟨M, fun k => bb_cal (st_X6_strike ?_), h, bs_ref_rf⟩
    cases p1 : bv lo 1 20
    · simp (disch := omega) only [e_X6_strike_0, e_X6_strike_1, e_X6_strike_4, e_X6_strike_7, e_X6_strike_8, e_X6_strike_11, e_X6_strike_14, e_X6_strike_15, e_X6_strike_16, e_X6_strike_19, e_X6_strike_22, e_X6_strike_23, e_X6_strike_24, e_X6_strike_27, e_X6_strike_30, e_X6_strike_31, e_X6_strike_32, e_X6_strike_35, e_X6_strike_38, e_X6_strike_41, e_X6_strike_42, e_X6_strike_43, e_X6_strike_46, e_X6_strike_47, e_X6_strike_50, e_X6_strike_53, e_X6_strike_54, e_X6_strike_57, e_X6_strike_60, e_X6_strike_61, e_X6_strike_62, e_X6_strike_65, Option.toList_some, Option.toList_none, List.cons_append, List.nil_append, true_and, and_true, and_self, bb_ite, true_or, or_true, Option.some.injEq, bb_I_eq, bb_b_0e, bb_b_1e, bb_b_e0, bb_b_e1, decide_eq_true_eq, decide_eq_false_iff_not, bn_01, bn_11, bb_b_01, ne_eq, Bool.not_eq_false, Bool.not_eq_true, Classical.not_not, bn_lt, bn_le, bn_ti, Int32.reduceToInt, bn_m20, bn_20m, nI_add, bn_p1, bn_s1, bn_in, bn_cl, implies_true, not_true_eq_false, not_false_eq_true, Bool.true_and, Bool.false_and, Bool.and_true, Bool.and_false, Bool.true_or, Bool.false_or, Bool.or_true, Bool.or_false, Bool.not_true, Bool.not_false, false_implies, true_implies, forall_const, Bool.false_eq_true, Bool.true_eq_false, reduceCtorEq, eq_self, Bool.and_eq_true, Bool.or_eq_true, Bool.and_eq_false_iff, Bool.or_eq_false_iff, and_false, false_and, or_false, false_or, x_X6_isWaveHeight, p1]
      try trivial
    · cases p2 : bv hi 1 20
      · simp (disch := omega) only [e_X6_strike_0, e_X6_strike_1, e_X6_strike_4, e_X6_strike_7, e_X6_strike_8, e_X6_strike_11, e_X6_strike_14, e_X6_strike_15, e_X6_strike_16, e_X6_strike_19, e_X6_strike_22, e_X6_strike_23, e_X6_strike_24, e_X6_strike_27, e_X6_strike_30, e_X6_strike_31, e_X6_strike_32, e_X6_strike_35, e_X6_strike_38, e_X6_strike_41, e_X6_strike_42, e_X6_strike_43, e_X6_strike_46, e_X6_strike_47, e_X6_strike_50, e_X6_strike_53, e_X6_strike_54, e_X6_strike_57, e_X6_strike_60, e_X6_strike_61, e_X6_strike_62, e_X6_strike_65, Option.toList_some, Option.toList_none, List.cons_append, List.nil_append, true_and, and_true, and_self, bb_ite, true_or, or_true, Option.some.injEq, bb_I_eq, bb_b_0e, bb_b_1e, bb_b_e0, bb_b_e1, decide_eq_true_eq, decide_eq_false_iff_not, bn_01, bn_11, bb_b_01, ne_eq, Bool.not_eq_false, Bool.not_eq_true, Classical.not_not, bn_lt, bn_le, bn_ti, Int32.reduceToInt, bn_m20, bn_20m, nI_add, bn_p1, bn_s1, bn_in, bn_cl, implies_true, not_true_eq_false, not_false_eq_true, Bool.true_and, Bool.false_and, Bool.and_true, Bool.and_false, Bool.true_or, Bool.false_or, Bool.or_true, Bool.or_false, Bool.not_true, Bool.not_false, false_implies, true_implies, forall_const, Bool.false_eq_true, Bool.true_eq_false, reduceCtorEq, eq_self, Bool.and_eq_true, Bool.or_eq_true, Bool.and_eq_false_iff, Bool.or_eq_false_iff, and_false, false_and, or_false, false_or, x_X6_isWaveHeight, p1, p2]
        try trivial
      · have p3 : ¬ lo.toInt ≤ hi.toInt := fun z => q1 ⟨p1, p2, z⟩
        simp (disch := omega) only [e_X6_strike_0, e_X6_strike_1, e_X6_strike_4, e_X6_strike_7, e_X6_strike_8, e_X6_strike_11, e_X6_strike_14, e_X6_strike_15, e_X6_strike_16, e_X6_strike_19, e_X6_strike_22, e_X6_strike_23, e_X6_strike_24, e_X6_strike_27, e_X6_strike_30, e_X6_strike_31, e_X6_strike_32, e_X6_strike_35, e_X6_strike_38, e_X6_strike_41, e_X6_strike_42, e_X6_strike_43, e_X6_strike_46, e_X6_strike_47, e_X6_strike_50, e_X6_strike_53, e_X6_strike_54, e_X6_strike_57, e_X6_strike_60, e_X6_strike_61, e_X6_strike_62, e_X6_strike_65, Option.toList_some, Option.toList_none, List.cons_append, List.nil_append, true_and, and_true, and_self, bb_ite, true_or, or_true, Option.some.injEq, bb_I_eq, bb_b_0e, bb_b_1e, bb_b_e0, bb_b_e1, decide_eq_true_eq, decide_eq_false_iff_not, bn_01, bn_11, bb_b_01, ne_eq, Bool.not_eq_false, Bool.not_eq_true, Classical.not_not, bn_lt, bn_le, bn_ti, Int32.reduceToInt, bn_m20, bn_20m, nI_add, bn_p1, bn_s1, bn_in, bn_cl, implies_true, not_true_eq_false, not_false_eq_true, Bool.true_and, Bool.false_and, Bool.and_true, Bool.and_false, Bool.true_or, Bool.false_or, Bool.or_true, Bool.or_false, Bool.not_true, Bool.not_false, false_implies, true_implies, forall_const, Bool.false_eq_true, Bool.true_eq_false, reduceCtorEq, eq_self, Bool.and_eq_true, Bool.or_eq_true, Bool.and_eq_false_iff, Bool.or_eq_false_iff, and_false, false_and, or_false, false_or, x_X6_isWaveHeight, p1, p2, p3]
        try trivial
/-! WAVES OF A TEXT -/
def sp_puts (a : Nat → Int32) : List (Nat × Nat) → Nat → Int32
  | [] => a
  | q :: L => sp_puts (sp_put a (nI q.1) (nI q.2)) L
def bt_g (g : bt_G) : Prop := g.1 < 4 ∧ (1 ≤ g.2.1 ∧ g.2.1 ≤ 20) ∧ g.2.2 ≤ 9
theorem bt_tm_g {tx : Nat → Int32} {tl r h p q : Nat} {g : bt_G} (hr : r < 4) (hh : 1 ≤ h ∧ h ≤ 20) (e : bt_tm tx tl r h p = .inr (g, q)) : bt_g g := by
  unfold bt_tm at e
  split at e
  · split at e
    · rename_i z
      have := bt_d_iff.mp z
      cases e
      refine ⟨hr, hh, ?_⟩
      show bt_v tx (p + 1) ≤ 9
      unfold bt_v
      omega
    · cases e
  · cases e
    exact ⟨hr, hh, (by decide : (1 : Nat) ≤ 9)⟩
theorem bt_grp_g {tx : Nat → Int32} {tl p q : Nat} {g : bt_G} (e : bt_grp tx tl p = .inr (g, q)) : bt_g g := by
  unfold bt_grp at e
  split at e
  · rename_i z1
    have y1 := bt_d_iff.mp z1
    split at e
    · split at e
      · rename_i z2 z3
        have y3 := bt_d_iff.mp z3
        have hr : bt_v tx p < 4 := by unfold bt_v; omega
        have hh : 1 ≤ bt_v tx (p + 2) ∧ bt_v tx (p + 2) ≤ 20 := by unfold bt_v; omega
        unfold bt_hs at e
        split at e
        · rename_i z4
          exact bt_tm_g hr ⟨by omega, z4.2⟩ e
        · exact bt_tm_g hr hh e
      · cases e
    · cases e
  · cases e
theorem bt_all_g {tx : Nat → Int32} {tl : Nat} : ∀ f p L, bt_all tx tl f p = .inr L → L.length ≤ f ∧ ∀ g, g ∈ L → bt_g g
  | 0, p, L, e => by cases e
  | f + 1, p, L, e => by
    rw [bt_all_s] at e
    cases hg : bt_grp tx tl p with
    | inl x => rw [hg] at e; cases e
    | inr x =>
      obtain ⟨g, q⟩ := x
      rw [hg] at e
      have gg := bt_grp_g hg
      have e' : bt_ct tx tl f g q = .inr L := e
      unfold bt_ct at e'
      split at e'
      · cases ha : bt_all tx tl f (q + 1) with
        | inl x => rw [ha] at e'; cases e'
        | inr L' =>
          rw [ha] at e'
          cases e'
          obtain ⟨h1, h2⟩ := bt_all_g f (q + 1) L' ha
          refine ⟨Nat.succ_le_succ h1, fun g' hg' => ?_⟩
          rcases List.mem_cons.mp hg' with rfl | z
          · exact gg
          · exact h2 g' z
      · split at e'
        · cases e'
          refine ⟨Nat.succ_le_succ (Nat.zero_le _), fun g' hg' => ?_⟩
          rcases List.mem_cons.mp hg' with rfl | z
          · exact gg
          · cases z
        · cases e'
theorem bt_ex_g : ∀ L : List bt_G, (∀ g, g ∈ L → bt_g g) → (bt_ex L).length ≤ 9 * L.length ∧ ∀ q, q ∈ bt_ex L → q.1 < 4 ∧ 1 ≤ q.2 ∧ q.2 ≤ 20
  | [], _ => ⟨Nat.le_refl _, fun q hq => absurd hq (by intro z; cases z)⟩
  | g :: L, h => by
    obtain ⟨h1, h2⟩ := bt_ex_g L (fun g' hg' => h g' (List.mem_cons_of_mem _ hg'))
    have hg := h g List.mem_cons_self
    have e : bt_ex (g :: L) = List.replicate g.2.2 (g.1, g.2.1) ++ bt_ex L := rfl
    rw [e]
    refine ⟨?_, fun q hq => ?_⟩
    · rw [List.length_append, List.length_replicate, List.length_cons]
      have := hg.2.2
      omega
    · rcases List.mem_append.mp hq with z | z
      · have := List.eq_of_mem_replicate z
        rw [this]
        exact ⟨hg.1, hg.2.1⟩
      · exact h2 q z
/-- waves behind the queue, one after the other -/
theorem bs_puts {M : bb_M} {a : Nat → Int32} {E : List (Nat × Nat)} (hj : ∀ j q, E[j]? = some q → M 12 7 j = nI q.1 ∧ M 13 7 j = nI q.2) (hE : ∀ q, q ∈ E → q.1 < 4 ∧ 1 ≤ q.2 ∧ q.2 ≤ 20) (hs : bs_sz a + E.length ≤ 24) : ∀ (L E0 : List (Nat × Nat)) (b : Nat → Int32), E0 ++ L = E → bs_sz b = bs_sz a + E0.length → bs_rep (bb_adN M 0 (bs_sz a) 7 E0.length) 0 b → bs_inv b → bs_rep (bb_adN M 0 (bs_sz a) 7 E.length) 0 (sp_puts b L) ∧ bs_inv (sp_puts b L)
  | [], E0, b, e, hb, hr, hi => by
    rw [List.append_nil] at e
    subst e
    exact ⟨hr, hi⟩
  | q :: L, E0, b, e, hb, hr, hi => by
    have el : E.length = E0.length + (L.length + 1) := by rw [← e, List.length_append, List.length_cons]
    have eq : E[E0.length]? = some q := by
      rw [← e, List.getElem?_append_right (Nat.le_refl _), Nat.sub_self]
      rfl
    obtain ⟨m1, m2⟩ := hj _ _ eq
    obtain ⟨k1, k2, k3⟩ := hE q (by rw [← e]; exact List.mem_append_right _ List.mem_cons_self)
    have hlt : bs_sz b < 24 := by omega
    have r2 := bs_rep_put (r := nI q.1) (v := nI q.2) hr hlt
    rw [hb, ← m1, ← m2, bb_adN_s (by decide), m1, m2] at r2
    refine bs_puts hj hE hs L (E0 ++ [q]) (sp_put b (nI q.1) (nI q.2)) (by rw [List.append_assoc]; exact e) ?_ ?_ (bs_inv_put hi hlt k1 ⟨k2, k3⟩)
    · rw [bs_put_sz hlt, List.length_append, hb]
      rfl
    · rw [List.length_append]
      exact r2
def sp_waveAll (S : bs_S) : Int32 × bs_S := match bt_all S.tx S.tl 61 0 with
  | .inl e => (-2000 - nI e, S)
  | .inr L => if 24 < bs_sz S.a + (bt_ex L).length then (-1003, S) else (nI (bt_ex L).length, bs_act S (sp_puts S.a (bt_ex L)))
theorem bs_CI_bt {M M' : bb_M} {S : bs_S} (h : bs_CI M S) (hf : bt_fr M M') : bs_CI M' S := by
  obtain ⟨h1, h2, h3, h4, h5, h6, h7⟩ := h
  have hr : ∀ i a, i ≠ 7 → bs_inv a → bs_rep M i a → bs_rep M' i a := fun i a hi7 hi hr => bs_rep_i hr hi (fun k n hk => hf k i n (by
    unfold bb_skb at hk
    rw [decide_eq_true_eq] at hk
    unfold bt_sc
    omega))
  refine ⟨hr _ _ (by decide) h2 h1, h2, ?_, ?_, fun z => ⟨hr _ _ (by decide) (h5 z).2 (h5 z).1, (h5 z).2⟩, ⟨bt_TX_fr h6.1 hf, h6.2⟩, fun j hj => ?_⟩
  · obtain ⟨g1, g2, nx, g3, g4, g5⟩ := h3
    exact ⟨g1, by rw [hf _ _ _ (by unfold bt_sc; omega)]; exact g2, nx, g3, by rw [hf _ _ _ (by unfold bt_sc; omega)]; exact g4, fun j hj => ⟨(g5 j hj).1, hr _ _ (by unfold bs_slot; omega) (g5 j hj).1 (g5 j hj).2⟩⟩
  · rw [hf _ _ _ (by unfold bt_sc; omega)]; exact h4
  · rw [hf _ _ _ (by unfold bt_sc; omega), hf _ _ _ (by unfold bt_sc; omega)]; exact h7 j hj
theorem bt_all_e {tx : Nat → Int32} {tl : Nat} (htl : tl ≤ 60) : ∀ f p e, p ≤ tl → bt_all tx tl f p = .inl e → e ≤ 100
  | 0, p, e, hp, h => by
    cases h
    omega
  | f + 1, p, e, hp, h => by
    have d : ∀ q lo hi, bt_d tx tl q lo hi = true → q < tl := fun q lo hi z => (bt_d_iff.mp z).1
    have tm : ∀ r w q, q ≤ tl → (∀ x, bt_tm tx tl r w q = .inl x → x ≤ 100) ∧ ∀ g x, bt_tm tx tl r w q = .inr (g, x) → x ≤ tl := by
      intro r w q hq
      unfold bt_tm
      split
      · rename_i z
        have := d _ _ _ z
        split
        · rename_i z2
          have := d _ _ _ z2
          exact ⟨fun x hx => (by cases hx), fun g x hx => (by cases hx; omega)⟩
        · exact ⟨fun x hx => (by cases hx; omega), fun g x hx => (by cases hx)⟩
      · exact ⟨fun x hx => (by cases hx), fun g x hx => (by cases hx; omega)⟩
    have gr : (∀ x, bt_grp tx tl p = .inl x → x ≤ 100) ∧ ∀ g x, bt_grp tx tl p = .inr (g, x) → x ≤ tl := by
      unfold bt_grp
      split
      · rename_i z
        have := d _ _ _ z
        split
        · rename_i z2
          have := d _ _ _ z2
          split
          · rename_i z3
            have := d _ _ _ z3
            unfold bt_hs
            split
            · rename_i z4
              have := d _ _ _ z4.1
              exact tm _ _ _ (by omega)
            · exact tm _ _ _ (by omega)
          · exact ⟨fun x hx => (by cases hx; omega), fun g x hx => (by cases hx)⟩
        · exact ⟨fun x hx => (by cases hx; omega), fun g x hx => (by cases hx)⟩
      · exact ⟨fun x hx => (by cases hx; omega), fun g x hx => (by cases hx)⟩
    rw [bt_all_s] at h
    cases hg : bt_grp tx tl p with
    | inl x => rw [hg] at h; cases h; exact gr.1 _ hg
    | inr x =>
      obtain ⟨g, q⟩ := x
      rw [hg] at h
      have hq := gr.2 g q hg
      have h' : bt_ct tx tl f g q = .inl e := h
      unfold bt_ct at h'
      split at h'
      · rename_i z
        have := d _ _ _ z
        cases ha : bt_all tx tl f (q + 1) with
        | inl x =>
          rw [ha] at h'
          cases h'
          exact bt_all_e htl f (q + 1) _ (by omega) ha
        | inr L' => rw [ha] at h'; cases h'
      · split at h'
        · cases h'
        · cases h'
          omega
theorem bc_fr_adN {M : bb_M} {s n : Nat} : bc_fr M (bb_adN M 0 s 7 n) := by
  intro k i j hk
  unfold bb_adN bb_up bb_wr
  rw [if_neg (by omega), if_neg (by omega), if_neg (by omega)]