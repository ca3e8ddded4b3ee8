/-! one pass over the four rows -/
def bm_S (h : Nat → Int32) (st : Int32) (T : Nat) : Nat → Int32 := fun j => bf_it (bf_rg h (j / 20)) st T (j % 20)
def bm_cs (h : Nat → Int32) (st : Int32) (T : Nat) : Nat → Nat
  | 0 => 0
  | r + 1 => bm_cs h st T r + bf_cc (bf_it (bf_rg h r) st T) st 19
theorem l_X7_pass {d u T : Nat} {B : bb_M} {h : Nat → Int32} {st : Int32} {R : bb_P} {w2 : bb_V} (hB : bf_hb h) (h84 : B 21 0 84 = st) (hs : 1 ≤ st.toInt ∧ st.toInt ≤ 100) : ∀ (t r : Nat) (z4 z5 : bb_V), r + t = 4 → ∃ y4 y5, (bb_Y (bb_CL (d + 2)) cd_X7_slumps R 13 [bb_R 7 0, bb_I (nI (u + bm_cs h st T r)), w2, bb_I (nI (20 * r)), z4, z5] [] (bb_wr (bb_wr B 21 0 0 80 (bm_S h st T)) 21 0 0 (20 * r) (bm_S h st (T + 1))) ↔ bb_Y (bb_CL (d + 2)) cd_X7_slumps R 4 [bb_R 7 0, bb_I (nI (u + bm_cs h st T 4)), w2, bb_I (nI 80), y4, y5] [] (bb_wr B 21 0 0 80 (bm_S h st (T + 1)))) := by
  intro t
  induction t with
  | zero =>
    intro r z4 z5 hr
    obtain rfl : r = 4 := by omega
    refine ⟨z4, z5, ?_⟩
    have e80 : 20 * 4 = 80 := rfl
    rw [e80, bb_wr_wr, h_X7_slumps_13]
    simp (disch := omega) only [e_X7_slumps_14, e_X7_slumps_16, e_X7_slumps_123, Option.toList_some, Option.toList_none, List.cons_append, List.nil_append, true_and, and_true, and_self, bb_ite, true_or, or_true, Option.some.injEq, bb_I_eq, bb_b_0e, bb_b_1e, bb_b_e0, bb_b_e1, decide_eq_true_eq, decide_eq_false_iff_not, bn_01, bn_11, bb_b_01, ne_eq, Bool.not_eq_false, Bool.not_eq_true, Classical.not_not, bn_lt, bn_le, bn_ti, Int32.reduceToInt, bn_m20, bn_20m, nI_add, bn_p1, bn_s1, bn_in, bn_cl, implies_true, not_true_eq_false, not_false_eq_true, Bool.true_and, Bool.false_and, Bool.and_true, Bool.and_false, Bool.true_or, Bool.false_or, Bool.or_true, Bool.or_false, Bool.not_true, Bool.not_false, false_implies, true_implies, forall_const, Bool.false_eq_true, Bool.true_eq_false, reduceCtorEq, eq_self, Bool.and_eq_true, Bool.or_eq_true, Bool.and_eq_false_iff, Bool.or_eq_false_iff, and_false, false_and, or_false, false_or, Int.cast_ofNat_Int, Int.le_refl]
  | succ t ih =>
    intro r z4 z5 hr
    obtain ⟨y4, y5, i⟩ := ih (r + 1) (bb_I (nI 19)) (bb_I 0) (by omega)
    refine ⟨y4, y5, ?_⟩
    have e := l_X7_slump1 (d := d) (r := r) (u := u + bm_cs h st T r) (B := bb_wr (bb_wr B 21 0 0 80 (bm_S h st T)) 21 0 0 (20 * r) (bm_S h st (T + 1))) (g0 := bf_it (bf_rg h r) st T) (st := st) (R := R) (w2 := w2) (by omega) (bf_it_b (bf_rg_b hB (by omega)) (by omega) T) (by rw [bb_wr_out (by omega), bb_wr_out (by omega), h84]) hs 19 0 z4 z5 rfl
    rw [bb_wr_rowk (g := bf_pp (bf_it (bf_rg h r) st T) st 19) (fun c hc => by
      unfold bm_S
      rw [show (20 * r + c) / 20 = r by omega, show (20 * r + c) % 20 = c by omega]
      rfl)] at e
    have e0 : bb_wr (bb_wr (bb_wr B 21 0 0 80 (bm_S h st T)) 21 0 0 (20 * r) (bm_S h st (T + 1))) 21 0 (20 * r) 20 (bf_pp (bf_it (bf_rg h r) st T) st 0) = bb_wr (bb_wr B 21 0 0 80 (bm_S h st T)) 21 0 0 (20 * r) (bm_S h st (T + 1)) := bb_wr_same (fun c hc => by
      rw [bb_wr_out (by omega), bb_wr_in0 (by omega)]
      unfold bm_S
      rw [show (20 * r + c) / 20 = r by omega, show (20 * r + c) % 20 = c by omega]
      rfl)
    rw [e0] at e
    have e1 : bm_cs h st T (r + 1) = bm_cs h st T r + bf_cc (bf_it (bf_rg h r) st T) st 19 := rfl
    rw [← i, e1, ← Nat.add_assoc]
    exact e
