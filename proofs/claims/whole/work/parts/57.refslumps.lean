/-! THE REFERENCE: slumping to its end -/
def bm_to (h : Nat → Int32) (st : Int32) (T : Nat) : Nat → Nat
  | 0 => 0
  | r + 1 => bm_to h st T r + bf_to (bf_rg h r) st T
theorem bm_to_0 {h : Nat → Int32} {st : Int32} : ∀ r, bm_to h st 0 r = 0
  | 0 => rfl
  | r + 1 => by
    show bm_to h st 0 r + 0 = 0
    rw [bm_to_0 r]
theorem bm_to_s {h : Nat → Int32} {st : Int32} {T : Nat} : ∀ r, bm_to h st (T + 1) r = bm_to h st T r + bm_cs h st T r
  | 0 => rfl
  | r + 1 => by
    show bm_to h st (T + 1) r + (bf_to (bf_rg h r) st T + bf_cc (bf_it (bf_rg h r) st T) st 19) = bm_to h st T r + bf_to (bf_rg h r) st T + (bm_cs h st T r + bf_cc (bf_it (bf_rg h r) st T) st 19)
    rw [bm_to_s r]
    omega
theorem bm_to_le {h : Nat → Int32} {st : Int32} (hB : bf_hb h) (hs : 1 ≤ st.toInt) (T : Nat) : ∀ r, r ≤ 4 → bm_to h st T r ≤ 196020 * r
  | 0, _ => Nat.le_refl _
  | r + 1, hr => by
    have h1 := bm_to_le hB hs T r (by omega)
    have h2 := bf_to_b (bf_rg_b hB (by omega : r < 4)) hs T
    show bm_to h st T r + bf_to (bf_rg h r) st T ≤ 196020 * (r + 1)
    omega
theorem bm_cs_0 {h : Nat → Int32} {st : Int32} {T : Nat} : ∀ r, bm_cs h st T r = 0 → ∀ i, i < r → bf_cc (bf_it (bf_rg h i) st T) st 19 = 0 := by
  intro r
  induction r with
  | zero => exact fun _ i hi => absurd hi (Nat.not_lt_zero i)
  | succ r ih =>
    intro e i hi
    have e' : bm_cs h st T r + bf_cc (bf_it (bf_rg h r) st T) st 19 = 0 := e
    rcases Nat.lt_or_eq_of_le (Nat.le_of_lt_succ hi) with z | z
    · exact ih (Nat.eq_zero_of_add_eq_zero_right e') i z
    · rw [z]
      exact Nat.eq_zero_of_add_eq_zero_left e'
/-- a row at rest is as it is in the end -/
theorem bm_fin {g : Nat → Int32} {st : Int32} {T : Nat} (hb : bf_rb g) (hs : 1 ≤ st.toInt) (h : bf_cc (bf_it g st T) st 19 = 0) : bf_it g st T = bf_it g st bf_NN ∧ bf_to g st T = bf_to g st bf_NN := by
  rcases Nat.le_total T bf_NN with z | z
  · obtain ⟨e1, e2⟩ := bf_end h z
    exact ⟨e1.symm, e2.symm⟩
  · obtain ⟨t, ht, ht0⟩ := bf_rests hb hs
    obtain ⟨e1, e2⟩ := bf_end ht0 (Nat.le_of_lt ht)
    obtain ⟨e3, e4⟩ := bf_rest ht0 (T - t)
    rw [show t + (T - t) = T by omega] at e3 e4
    exact ⟨e3.trans e1.symm, e4.trans e2.symm⟩
theorem bm_to_su {h : Nat → Int32} {st : Int32} {T : Nat} (hB : bf_hb h) (hs : 1 ≤ st.toInt) (e : ∀ i, i < 4 → bf_cc (bf_it (bf_rg h i) st T) st 19 = 0) : ∀ r, r ≤ 4 → bm_to h st T r = bf_su h st r
  | 0, _ => rfl
  | r + 1, hr => by
    show bm_to h st T r + bf_to (bf_rg h r) st T = bf_su h st r + bf_to (bf_rg h r) st bf_NN
    rw [bm_to_su hB hs e r (by omega), (bm_fin (bf_rg_b hB (by omega)) hs (e r (by omega))).2]
theorem bm_S_st {h : Nat → Int32} {st : Int32} {T : Nat} (hB : bf_hb h) (hs : 1 ≤ st.toInt) (e : ∀ i, i < 4 → bf_cc (bf_it (bf_rg h i) st T) st 19 = 0) {j : Nat} (hj : j < 80) : bm_S h st T j = bf_st h st j := by
  unfold bm_S bf_st
  rw [(bm_fin (bf_rg_b hB (by omega : j / 20 < 4)) hs (e (j / 20) (by omega))).1]
theorem l_X7_slumps {d : Nat} {B : bb_M} {h : Nat → Int32} {st : Int32} {R : bb_P} (hB : bf_hb h) (h84 : B 21 0 84 = st) (hs : 1 ≤ st.toInt ∧ st.toInt ≤ 100) : ∀ (n T : Nat) (x : Int32) (z3 z4 z5 : bb_V), 784081 ≤ n + bm_to h st T 4 → ¬ x = nI (bm_to h st T 4) → (bb_Y (bb_CL (d + 2)) cd_X7_slumps R 4 [bb_R 7 0, bb_I (nI (bm_to h st T 4)), bb_I x, z3, z4, z5] [] (bb_wr B 21 0 0 80 (bm_S h st T)) ↔ R (some (bb_I (nI (bf_su h st 4)))) (bb_up (bb_wr B 21 0 0 80 (bf_st h st)) 21 0 141 (B 21 0 141 + nI (bf_su h st 4)))) := by
  intro n
  induction n with
  | zero =>
    intro T x z3 z4 z5 hn hx
    have := bm_to_le hB hs.1 T 4 (Nat.le_refl _)
    omega
  | succ n ih =>
    intro T x z3 z4 z5 hn hx
    have hle := bm_to_le hB hs.1 T 4 (Nat.le_refl _)
    have hle1 := bm_to_le hB hs.1 (T + 1) 4 (Nat.le_refl _)
    have e1 : bm_to h st (T + 1) 4 = bm_to h st T 4 + bm_cs h st T 4 := bm_to_s 4
    obtain ⟨y4, y5, i⟩ := l_X7_pass (d := d) (u := bm_to h st T 4) (B := B) (R := R) (w2 := bb_I (nI (bm_to h st T 4))) hB h84 hs 4 0 z4 z5 rfl
    rw [Nat.mul_zero, bb_wr_nil] at i
    have e0 : bm_to h st T 4 + bm_cs h st T 0 = bm_to h st T 4 := rfl
    rw [e0, ← e1] at i
    have n0 : nI 0 = 0 := rfl
    rw [n0] at i
    rw [h_X7_slumps_4]
    simp (disch := omega) only [e_X7_slumps_5, e_X7_slumps_6, e_X7_slumps_9, e_X7_slumps_10, e_X7_slumps_11, e_X7_slumps_12, Option.toList_some, Option.toList_none, List.cons_append, List.nil_append, true_and, and_true, and_self, bb_ite, true_or, or_true, Option.some.injEq, bb_I_eq, bb_b_0e, bb_b_1e, bb_b_e0, bb_b_e1, decide_eq_true_eq, decide_eq_false_iff_not, bn_01, bn_11, bb_b_01, ne_eq, Bool.not_eq_false, Bool.not_eq_true, Classical.not_not, hx, if_false]
    by_cases q : bm_cs h st T 4 = 0
    · have hz := bm_cs_0 4 q
      have e2 : bm_to h st (T + 1) 4 = bf_su h st 4 := by
        rw [e1, q, Nat.add_zero]
        exact bm_to_su hB hs.1 hz 4 (Nat.le_refl _)
      have e3 : bm_to h st T 4 = bf_su h st 4 := by omega
      have e4 : bb_wr B 21 0 0 80 (bm_S h st (T + 1)) = bb_wr B 21 0 0 80 (bf_st h st) := bb_wr_cong (fun c hc => by
        rw [← bm_S_st (T := T) hB hs.1 hz hc]
        unfold bm_S
        rw [show bf_it (bf_rg h (c / 20)) st (T + 1) = bf_it (bf_rg h (c / 20)) st T from bf_cc_0 19 (hz _ (by omega))])
      rw [e2, e3, e4] at i
      rw [e3]
      rw [i]
      have e141 : bb_wr B 21 0 0 80 (bf_st h st) 21 0 141 = B 21 0 141 := bb_wr_out (by omega)
      rw [h_X7_slumps_4]
      simp (disch := omega) only [e_X7_slumps_5, e_X7_slumps_6, e_X7_slumps_126, e_X7_slumps_127, e_X7_slumps_130, e_X7_slumps_133, e_X7_slumps_134, e_X7_slumps_135, e_X7_slumps_136, e_X7_slumps_137, e_X7_slumps_138, e_X7_slumps_139, Option.toList_some, Option.toList_none, List.cons_append, List.nil_append, true_and, and_true, and_self, bb_ite, true_or, or_true, Option.some.injEq, bb_I_eq, bb_b_0e, bb_b_1e, bb_b_e0, bb_b_e1, decide_eq_true_eq, decide_eq_false_iff_not, bn_01, bn_11, bb_b_01, ne_eq, Bool.not_eq_false, Bool.not_eq_true, Classical.not_not, if_true, bm_v141, Int32.reduceToNatClampNeg, e141]
    · rw [i]
      have hx2 : ¬ nI (bm_to h st T 4) = nI (bm_to h st (T + 1) 4) := fun z => by
        rw [nI_eq (by omega) (by omega)] at z
        omega
      exact ih (T + 1) (nI (bm_to h st T 4)) (bb_I (nI 80)) y4 y5 (by omega) hx2
theorem x_X7_slumps {d : Nat} {M : bb_M} (hB : bf_hb (M 21 0)) (hs : 1 ≤ (M 21 0 84).toInt ∧ (M 21 0 84).toInt ≤ 100) : ∃ M', (∀ k : Option bb_V → bb_M → Prop, bb_call (bb_CL (d + 3)) 47 [bb_R 7 0] M k ↔ k (some (bb_I (nI (bf_su (M 21 0) (M 21 0 84) 4)))) M') ∧ (∀ j, j < 80 → M' 21 0 j = bf_st (M 21 0) (M 21 0 84) j) ∧ M' 21 0 141 = M 21 0 141 + nI (bf_su (M 21 0) (M 21 0 84) 4) ∧ (∀ j, 80 ≤ j → j ≠ 141 → M' 21 0 j = M 21 0 j) ∧ ∀ k i j, ¬ (k = 21 ∧ i = 0) → M' k i j = M k i j := by
  refine ⟨bb_up (bb_wr M 21 0 0 80 (bf_st (M 21 0) (M 21 0 84))) 21 0 141 (M 21 0 141 + nI (bf_su (M 21 0) (M 21 0 84) 4)), fun k => bb_cal (st_X7_slumps ?_), fun j hj => ?_, bb_up_at, fun j h1 h2 => ?_, fun k i j hk => ?_⟩
  · simp only [e_X7_slumps_0, e_X7_slumps_1, e_X7_slumps_2, e_X7_slumps_3, Option.toList_some, Option.toList_none, List.cons_append, List.nil_append, true_and, and_true, and_self, bb_ite, true_or, or_true, Option.some.injEq, bb_I_eq, bb_b_0e, bb_b_1e, bb_b_e0, bb_b_e1, decide_eq_true_eq, decide_eq_false_iff_not, bn_01, bn_11, bb_b_01, ne_eq, Bool.not_eq_false, Bool.not_eq_true, Classical.not_not]
    have hx : ¬ (-1 : Int32) = nI (bm_to (M 21 0) (M 21 0 84) 0 4) := by
      rw [bm_to_0]
      decide
    have e := (l_X7_slumps (d := d) (B := M) (R := fun r' M' => r' = some (bb_I (nI (bf_su (M 21 0) (M 21 0 84) 4))) ∧ M' = bb_up (bb_wr M 21 0 0 80 (bf_st (M 21 0) (M 21 0 84))) 21 0 141 (M 21 0 141 + nI (bf_su (M 21 0) (M 21 0 84) 4))) hB rfl hs 784081 0 (-1) bb_U bb_U bb_U (Nat.le_add_right _ _) hx).mpr ⟨rfl, rfl⟩
    rw [bm_to_0, show bb_wr M 21 0 0 80 (bm_S (M 21 0) (M 21 0 84) 0) = M from bb_wr_same (fun c hc => by
      show bf_rg (M 21 0) (c / 20) (c % 20) = _
      rw [bf_rg_c (by omega), show 20 * (c / 20) + c % 20 = 0 + c by omega])] at e
    exact e
  · rw [bb_up_j (by omega), bb_wr_in0 hj]
  · rw [bb_up_j h2, bb_wr_out (by omega)]
  · unfold bb_up bb_wr
    rw [if_neg (fun z => hk ⟨z.1, z.2.1⟩), if_neg (fun z => hk ⟨z.1, z.2.1⟩)]
