/-! RIPS: the class -/
theorem bf_N_bit (p : Nat → Bool) : ∀ (n c : Nat), c < n → bf_N p n / 2 ^ c % 2 = if p c then 1 else 0
  | 0, c, h => absurd h (Nat.not_lt_zero c)
  | n + 1, c, h => by
    have hlt := bf_N_lt p n
    have hpos : 0 < 2 ^ c := Nat.two_pow_pos c
    rcases Nat.lt_or_eq_of_le (Nat.le_of_lt_succ h) with q | q
    · have e := bf_N_bit p n c q
      have : bf_N p (n + 1) = if p n then bf_N p n + 2 ^ n else bf_N p n := rfl
      rw [this]
      split
      · have h2 : 2 ^ n = 2 ^ c * (2 * 2 ^ (n - c - 1)) := by
          rw [← Nat.mul_assoc, ← Nat.pow_succ, ← Nat.pow_add]
          congr 1
          omega
        rw [h2, Nat.add_mul_div_left _ _ hpos, Nat.add_mul_mod_self_left]
        exact e
      · exact e
    · subst q
      have : bf_N p (c + 1) = if p c then bf_N p c + 2 ^ c else bf_N p c := rfl
      rw [this]
      split
      · rw [Nat.add_div_right _ hpos, Nat.div_eq_of_lt hlt]
      · rw [Nat.div_eq_of_lt hlt]
theorem bl_sl : ∀ n, n < 32 → ((nI n &&& 31).toBitVec.smod 32).toNat = n := by decide +kernel
theorem bf_bits_at {p : Nat → Bool} {n c : Nat} (hn : n ≤ 20) (hc : c < n) : (bf_bits p n >>> (nI c &&& 31)) &&& 1 = bb_b (p c) := by
  have hN := bf_N_lt p n
  have h20 : 2 ^ n ≤ 2 ^ 20 := Nat.pow_le_pow_right (by omega) hn
  rw [bf_bits_N p n hn, pk_shrN (by omega) _ c (bl_sl c (by omega)), bn_1, bl_fa_and, Nat.and_one_is_mod, bf_N_bit p n c hc]
  cases p c <;> rfl
def bf_q1 (g : Nat → Int32) (b : Bool) (c : Nat) : Nat → Int32 :=
  if b = true ∧ (g c).toInt ≠ 0 ∧ (g (c + 1)).toInt < 99 then upd (upd g c (g c - 1)) (c + 1) (g (c + 1) + 1) else g
def bf_q0 (g : Nat → Int32) (b : Bool) (c : Nat) : Nat :=
  if b = true ∧ (g c).toInt ≠ 0 ∧ (g (c + 1)).toInt < 99 then 1 else 0
/-- n cells of a row are gone through: the row, how many units -/
def bf_qq (g : Nat → Int32) (p : Nat → Bool) : Nat → Nat → Int32
  | 0 => g
  | n + 1 => bf_q1 (bf_qq g p n) (p n) n
def bf_qc (g : Nat → Int32) (p : Nat → Bool) : Nat → Nat
  | 0 => 0
  | n + 1 => bf_qc g p n + bf_q0 (bf_qq g p n) (p n) n
theorem bn_a1 (x : Int32) : x + (-1) = x - 1 := (Int32.sub_eq_add_neg x 1).symm
theorem bf_q1_b {g : Nat → Int32} {b : Bool} {c : Nat} (hb : bf_rb g) (hc : c < 19) : bf_rb (bf_q1 g b c) := by
  intro j hj
  have h1 := hb c (by omega)
  have h2 := hb (c + 1) (by omega)
  have h3 := hb j hj
  unfold bf_q1
  split
  · rename_i q
    rw [bf_upd, bf_upd]
    split
    · rw [bn_inc (by omega)]; omega
    · split
      · rw [bn_dec (by omega)]; omega
      · exact h3
  · exact h3
theorem bf_qq_b {g : Nat → Int32} {p : Nat → Bool} (hb : bf_rb g) : ∀ n, n ≤ 19 → bf_rb (bf_qq g p n)
  | 0, _ => hb
  | n + 1, h => bf_q1_b (bf_qq_b hb n (by omega)) (by omega)
theorem x_X3_scourCell {d i r c : Nat} {M : bb_M} {g : Nat → Int32} {k : Option bb_V → bb_M → Prop} (hr : r < 4) (hc : c < 19) : bb_call (bb_CL (d + 2)) 63 [bb_R 3 i, bb_I (nI r), bb_I (nI c)] (bb_wr M 10 i (20 * r) 20 g) k ↔ k (some (bb_I (nI (bf_q0 g true c)))) (bb_wr M 10 i (20 * r) 20 (bf_q1 g true c)) := by
  refine bb_cal (st_X3_scourCell ?_)
  simp (disch := omega) only [e_X3_scourCell_0, e_X3_scourCell_1, e_X3_scourCell_2, e_X3_scourCell_3, e_X3_scourCell_6, e_X3_scourCell_9, e_X3_scourCell_10, e_X3_scourCell_11, e_X3_scourCell_12, e_X3_scourCell_13, e_X3_scourCell_14, e_X3_scourCell_17, e_X3_scourCell_19, e_X3_scourCell_22, e_X3_scourCell_23, e_X3_scourCell_24, e_X3_scourCell_25, e_X3_scourCell_26, e_X3_scourCell_27, e_X3_scourCell_28, e_X3_scourCell_31, e_X3_scourCell_32, e_X3_scourCell_33, e_X3_scourCell_34, e_X3_scourCell_35, e_X3_scourCell_36, e_X3_scourCell_37, e_X3_scourCell_40, e_X3_scourCell_41, x_X3_heightAt, x_X3_addTo, Option.toList_some, Option.toList_none, List.cons_append, List.nil_append, true_and, and_true, and_self, bb_ite, true_or, or_true, Option.some.injEq, bb_I_eq, bb_b_0e, bb_b_1e, bb_b_e0, bb_b_e1, decide_eq_true_eq, decide_eq_false_iff_not, bn_01, bn_11, bb_b_01, ne_eq, Bool.not_eq_false, Bool.not_eq_true, Classical.not_not, bn_p1, bn_lt, bb_wr_in, Nat.add_assoc, bb_wr_up, Int32.reduceToInt, bn_a1]
  have e0 : ((g c) = 0) ↔ (g c).toInt = 0 := by rw [bn_eq]; rfl
  unfold bf_q0 bf_q1
  by_cases q1 : (g c).toInt = 0
  · rw [if_neg (fun z => z.2.1 q1), if_neg (fun z => z.2.1 q1)]
    simp only [e0, q1, Option.toList_some, Option.toList_none, List.cons_append, List.nil_append, true_and, and_true, and_self, bb_ite, true_or, or_true, Option.some.injEq, bb_I_eq, bb_b_0e, bb_b_1e, bb_b_e0, bb_b_e1, decide_eq_true_eq, decide_eq_false_iff_not, bn_01, bn_11, bb_b_01, ne_eq, Bool.not_eq_false, Bool.not_eq_true, Classical.not_not, bn_lt, bn_le, bn_ti, Int32.reduceToInt, bn_m20, bn_20m, nI_add, bn_p1, bn_s1, bn_in, bn_cl, implies_true, not_true_eq_false, not_false_eq_true, Bool.true_and, Bool.false_and, Bool.and_true, Bool.and_false, Bool.true_or, Bool.false_or, Bool.or_true, Bool.or_false, Bool.not_true, Bool.not_false, false_implies, true_implies, forall_const, Bool.false_eq_true, Bool.true_eq_false, reduceCtorEq, eq_self, Bool.and_eq_true, Bool.or_eq_true, Bool.and_eq_false_iff, Bool.or_eq_false_iff, and_false, false_and, or_false, false_or]
    rfl
  · by_cases q2 : (g (c + 1)).toInt < 99
    · rw [if_pos ⟨rfl, q1, q2⟩, if_pos ⟨rfl, q1, q2⟩]
      simp only [e0, q1, q2, Option.toList_some, Option.toList_none, List.cons_append, List.nil_append, true_and, and_true, and_self, bb_ite, true_or, or_true, Option.some.injEq, bb_I_eq, bb_b_0e, bb_b_1e, bb_b_e0, bb_b_e1, decide_eq_true_eq, decide_eq_false_iff_not, bn_01, bn_11, bb_b_01, ne_eq, Bool.not_eq_false, Bool.not_eq_true, Classical.not_not, bn_lt, bn_le, bn_ti, Int32.reduceToInt, bn_m20, bn_20m, nI_add, bn_p1, bn_s1, bn_in, bn_cl, implies_true, not_true_eq_false, not_false_eq_true, Bool.true_and, Bool.false_and, Bool.and_true, Bool.and_false, Bool.true_or, Bool.false_or, Bool.or_true, Bool.or_false, Bool.not_true, Bool.not_false, false_implies, true_implies, forall_const, Bool.false_eq_true, Bool.true_eq_false, reduceCtorEq, eq_self, Bool.and_eq_true, Bool.or_eq_true, Bool.and_eq_false_iff, Bool.or_eq_false_iff, and_false, false_and, or_false, false_or, bf_upd, Nat.succ_ne_self, if_false]
      rfl
    · rw [if_neg (fun z => q2 z.2.2), if_neg (fun z => q2 z.2.2)]
      simp only [e0, q1, q2, Option.toList_some, Option.toList_none, List.cons_append, List.nil_append, true_and, and_true, and_self, bb_ite, true_or, or_true, Option.some.injEq, bb_I_eq, bb_b_0e, bb_b_1e, bb_b_e0, bb_b_e1, decide_eq_true_eq, decide_eq_false_iff_not, bn_01, bn_11, bb_b_01, ne_eq, Bool.not_eq_false, Bool.not_eq_true, Classical.not_not, bn_lt, bn_le, bn_ti, Int32.reduceToInt, bn_m20, bn_20m, nI_add, bn_p1, bn_s1, bn_in, bn_cl, implies_true, not_true_eq_false, not_false_eq_true, Bool.true_and, Bool.false_and, Bool.and_true, Bool.and_false, Bool.true_or, Bool.false_or, Bool.or_true, Bool.or_false, Bool.not_true, Bool.not_false, false_implies, true_implies, forall_const, Bool.false_eq_true, Bool.true_eq_false, reduceCtorEq, eq_self, Bool.and_eq_true, Bool.or_eq_true, Bool.and_eq_false_iff, Bool.or_eq_false_iff, and_false, false_and, or_false, false_or]
      rfl
theorem l_X3_scour0 {d i : Nat} {v g : Int32} {M : bb_M} {R : bb_P} (hB : bf_hb (M 10 i)) (hg : 0 ≤ g.toInt ∧ g.toInt ≤ 100) : ∀ (t r : Nat) (z1 z2 : bb_V), r + t = 4 → (bb_Y (bb_CL (d + 4)) cd_X3_scour R 2 [bb_R 3 i, bb_I v, bb_I g, bb_I (nI r), z1, z2] [] (bb_wr M 11 i 0 r (fun r => bf_bits (bf_gap (M 10 i) v g r) 19)) ↔ bb_Y (bb_CL (d + 4)) cd_X3_scour R 31 [bb_R 3 i, bb_I v, bb_I g, bb_I (nI 0), bb_I (nI 0), z2] [] (bb_wr M 11 i 0 4 (fun r => bf_bits (bf_gap (M 10 i) v g r) 19))) := by
  intro t
  induction t with
  | zero =>
    intro r z1 z2 hn
    obtain rfl : r = 4 := by omega
    rw [h_X3_scour_2]
    simp (disch := omega) only [e_X3_scour_0, e_X3_scour_1, e_X3_scour_3, e_X3_scour_4, e_X3_scour_7, e_X3_scour_8, e_X3_scour_11, e_X3_scour_12, e_X3_scour_13, e_X3_scour_14, e_X3_scour_15, e_X3_scour_16, e_X3_scour_19, e_X3_scour_20, e_X3_scour_23, e_X3_scour_26, e_X3_scour_27, e_X3_scour_28, e_X3_scour_29, e_X3_scour_33, e_X3_scour_34, e_X3_scour_37, e_X3_scour_38, e_X3_scour_42, e_X3_scour_44, e_X3_scour_47, e_X3_scour_48, e_X3_scour_51, e_X3_scour_53, e_X3_scour_54, e_X3_scour_56, e_X3_scour_57, e_X3_scour_58, e_X3_scour_59, e_X3_scour_60, e_X3_scour_63, e_X3_scour_64, e_X3_scour_65, e_X3_scour_67, e_X3_scour_69, e_X3_scour_72, e_X3_scour_73, e_X3_scour_74, e_X3_scour_77, e_X3_scour_80, e_X3_scour_83, e_X3_scour_86, e_X3_scour_87, Option.toList_some, Option.toList_none, List.cons_append, List.nil_append, true_and, and_true, and_self, bb_ite, true_or, or_true, Option.some.injEq, bb_I_eq, bb_b_0e, bb_b_1e, bb_b_e0, bb_b_e1, decide_eq_true_eq, decide_eq_false_iff_not, bn_01, bn_11, bb_b_01, ne_eq, Bool.not_eq_false, Bool.not_eq_true, Classical.not_not, bn_lt, bn_le, bn_ti, Int32.reduceToInt, bn_m20, bn_20m, nI_add, bn_p1, bn_s1, bn_in, bn_cl, implies_true, not_true_eq_false, not_false_eq_true, Bool.true_and, Bool.false_and, Bool.and_true, Bool.and_false, Bool.true_or, Bool.false_or, Bool.or_true, Bool.or_false, Bool.not_true, Bool.not_false, false_implies, true_implies, forall_const, Bool.false_eq_true, Bool.true_eq_false, reduceCtorEq, eq_self, Bool.and_eq_true, Bool.or_eq_true, Bool.and_eq_false_iff, Bool.or_eq_false_iff, and_false, false_and, or_false, false_or, Int.cast_ofNat_Int, Int.le_refl]
    rfl
  | succ t ih =>
    intro r z1 z2 hn
    have h1 : ¬ (4 : Int) ≤ (r : Int) := by omega
    have eh : bb_wr M 11 i 0 r (fun r => bf_bits (bf_gap (M 10 i) v g r) 19) 10 i = M 10 i := by
      funext j
      exact bb_wr_k (by decide)
    have e := fun k => x_X3_gaps (d := d) (i := i) (r := r) (v := v) (g := g) (M := bb_wr M 11 i 0 r (fun r => bf_bits (bf_gap (M 10 i) v g r) 19)) (k := k) (by omega) (by rw [eh]; exact hB) hg
    rw [eh] at e
    have hM : bb_up (bb_wr M 11 i 0 r (fun r => bf_bits (bf_gap (M 10 i) v g r) 19)) 11 i r (bf_bits (bf_gap (M 10 i) v g r) 19) = bb_wr M 11 i 0 (r + 1) (fun r => bf_bits (bf_gap (M 10 i) v g r) 19) := by
      funext k' i' j
      unfold bb_up bb_wr
      by_cases q : k' = 11 ∧ i' = i ∧ j = r
      · obtain ⟨rfl, rfl, rfl⟩ := q
        rw [if_pos ⟨rfl, rfl, rfl⟩, if_pos ⟨rfl, rfl, by omega, by omega⟩]
        rfl
      · rw [if_neg q]
        by_cases q2 : k' = 11 ∧ i' = i ∧ 0 ≤ j ∧ j < 0 + r
        · rw [if_pos q2, if_pos ⟨q2.1, q2.2.1, by omega, by omega⟩]
        · rw [if_neg q2, if_neg (by omega)]
    rw [h_X3_scour_2, ← ih (r + 1) z1 z2 (by omega)]
    simp (disch := omega) only [e_X3_scour_0, e_X3_scour_1, e_X3_scour_3, e_X3_scour_4, e_X3_scour_7, e_X3_scour_8, e_X3_scour_11, e_X3_scour_12, e_X3_scour_13, e_X3_scour_14, e_X3_scour_15, e_X3_scour_16, e_X3_scour_19, e_X3_scour_20, e_X3_scour_23, e_X3_scour_26, e_X3_scour_27, e_X3_scour_28, e_X3_scour_29, e_X3_scour_33, e_X3_scour_34, e_X3_scour_37, e_X3_scour_38, e_X3_scour_42, e_X3_scour_44, e_X3_scour_47, e_X3_scour_48, e_X3_scour_51, e_X3_scour_53, e_X3_scour_54, e_X3_scour_56, e_X3_scour_57, e_X3_scour_58, e_X3_scour_59, e_X3_scour_60, e_X3_scour_63, e_X3_scour_64, e_X3_scour_65, e_X3_scour_67, e_X3_scour_69, e_X3_scour_72, e_X3_scour_73, e_X3_scour_74, e_X3_scour_77, e_X3_scour_80, e_X3_scour_83, e_X3_scour_86, e_X3_scour_87, Option.toList_some, Option.toList_none, List.cons_append, List.nil_append, true_and, and_true, and_self, bb_ite, true_or, or_true, Option.some.injEq, bb_I_eq, bb_b_0e, bb_b_1e, bb_b_e0, bb_b_e1, decide_eq_true_eq, decide_eq_false_iff_not, bn_01, bn_11, bb_b_01, ne_eq, Bool.not_eq_false, Bool.not_eq_true, Classical.not_not, bn_lt, bn_le, bn_ti, Int32.reduceToInt, bn_m20, bn_20m, nI_add, bn_p1, bn_s1, bn_in, bn_cl, implies_true, not_true_eq_false, not_false_eq_true, Bool.true_and, Bool.false_and, Bool.and_true, Bool.and_false, Bool.true_or, Bool.false_or, Bool.or_true, Bool.or_false, Bool.not_true, Bool.not_false, false_implies, true_implies, forall_const, Bool.false_eq_true, Bool.true_eq_false, reduceCtorEq, eq_self, Bool.and_eq_true, Bool.or_eq_true, Bool.and_eq_false_iff, Bool.or_eq_false_iff, and_false, false_and, or_false, false_or, h1, e, hM]
/-- the rows behind the rips; their units -/
def bf_sco (h : Nat → Int32) (lv g : Int32) : Nat → Int32 := fun j => bf_qq (bf_rg h (j / 20)) (bf_gap h lv g (j / 20)) 19 (j % 20)
def bf_scu (h : Nat → Int32) (lv g : Int32) : Nat → Nat
  | 0 => 0
  | r + 1 => bf_scu h lv g r + bf_qc (bf_rg h r) (bf_gap h lv g r) 19
theorem l_X3_scour1 {d i r s : Nat} {v g : Int32} {M : bb_M} {g0 : Nat → Int32} {p : Nat → Bool} {R : bb_P} (hr : r < 4) (hp : M 11 i r = bf_bits p 19) : ∀ (t n : Nat), n + t = 19 → (bb_Y (bb_CL (d + 2)) cd_X3_scour R 40 [bb_R 3 i, bb_I v, bb_I g, bb_I (nI (s + bf_qc g0 p n)), bb_I (nI r), bb_I (nI n)] [] (bb_wr M 10 i (20 * r) 20 (bf_qq g0 p n)) ↔ bb_Y (bb_CL (d + 2)) cd_X3_scour R 31 [bb_R 3 i, bb_I v, bb_I g, bb_I (nI (s + bf_qc g0 p 19)), bb_I (nI (r + 1)), bb_I (nI 19)] [] (bb_wr M 10 i (20 * r) 20 (bf_qq g0 p 19))) := by
  intro t
  induction t with
  | zero =>
    intro n hn
    obtain rfl : n = 19 := by omega
    rw [h_X3_scour_40]
    simp (disch := omega) only [e_X3_scour_0, e_X3_scour_1, e_X3_scour_3, e_X3_scour_4, e_X3_scour_7, e_X3_scour_8, e_X3_scour_11, e_X3_scour_12, e_X3_scour_13, e_X3_scour_14, e_X3_scour_15, e_X3_scour_16, e_X3_scour_19, e_X3_scour_20, e_X3_scour_23, e_X3_scour_26, e_X3_scour_27, e_X3_scour_28, e_X3_scour_29, e_X3_scour_33, e_X3_scour_34, e_X3_scour_37, e_X3_scour_38, e_X3_scour_42, e_X3_scour_44, e_X3_scour_47, e_X3_scour_48, e_X3_scour_51, e_X3_scour_53, e_X3_scour_54, e_X3_scour_56, e_X3_scour_57, e_X3_scour_58, e_X3_scour_59, e_X3_scour_60, e_X3_scour_63, e_X3_scour_64, e_X3_scour_65, e_X3_scour_67, e_X3_scour_69, e_X3_scour_72, e_X3_scour_73, e_X3_scour_74, e_X3_scour_77, e_X3_scour_80, e_X3_scour_83, e_X3_scour_86, e_X3_scour_87, Option.toList_some, Option.toList_none, List.cons_append, List.nil_append, true_and, and_true, and_self, bb_ite, true_or, or_true, Option.some.injEq, bb_I_eq, bb_b_0e, bb_b_1e, bb_b_e0, bb_b_e1, decide_eq_true_eq, decide_eq_false_iff_not, bn_01, bn_11, bb_b_01, ne_eq, Bool.not_eq_false, Bool.not_eq_true, Classical.not_not, bn_lt, bn_le, bn_ti, Int32.reduceToInt, bn_m20, bn_20m, nI_add, bn_p1, bn_s1, bn_in, bn_cl, implies_true, not_true_eq_false, not_false_eq_true, Bool.true_and, Bool.false_and, Bool.and_true, Bool.and_false, Bool.true_or, Bool.false_or, Bool.or_true, Bool.or_false, Bool.not_true, Bool.not_false, false_implies, true_implies, forall_const, Bool.false_eq_true, Bool.true_eq_false, reduceCtorEq, eq_self, Bool.and_eq_true, Bool.or_eq_true, Bool.and_eq_false_iff, Bool.or_eq_false_iff, and_false, false_and, or_false, false_or, Int.cast_ofNat_Int, Int.le_refl]
  | succ t ih =>
    intro n hn
    have h1 : ¬ (19 : Int) ≤ (n : Int) := by omega
    have e := fun k => x_X3_scourCell (d := d) (i := i) (r := r) (c := n) (M := M) (g := bf_qq g0 p n) (k := k) hr (by omega)
    have eh : bb_wr M 10 i (20 * r) 20 (bf_qq g0 p n) 11 i r = bf_bits p 19 := by rw [bb_wr_k (by decide), hp]
    have e1 : bf_qc g0 p (n + 1) = bf_qc g0 p n + bf_q0 (bf_qq g0 p n) (p n) n := rfl
    have e2 : bf_qq g0 p (n + 1) = bf_q1 (bf_qq g0 p n) (p n) n := rfl
    rw [h_X3_scour_40, ← ih (n + 1) (by omega), e1, e2]
    simp (disch := omega) only [e_X3_scour_0, e_X3_scour_1, e_X3_scour_3, e_X3_scour_4, e_X3_scour_7, e_X3_scour_8, e_X3_scour_11, e_X3_scour_12, e_X3_scour_13, e_X3_scour_14, e_X3_scour_15, e_X3_scour_16, e_X3_scour_19, e_X3_scour_20, e_X3_scour_23, e_X3_scour_26, e_X3_scour_27, e_X3_scour_28, e_X3_scour_29, e_X3_scour_33, e_X3_scour_34, e_X3_scour_37, e_X3_scour_38, e_X3_scour_42, e_X3_scour_44, e_X3_scour_47, e_X3_scour_48, e_X3_scour_51, e_X3_scour_53, e_X3_scour_54, e_X3_scour_56, e_X3_scour_57, e_X3_scour_58, e_X3_scour_59, e_X3_scour_60, e_X3_scour_63, e_X3_scour_64, e_X3_scour_65, e_X3_scour_67, e_X3_scour_69, e_X3_scour_72, e_X3_scour_73, e_X3_scour_74, e_X3_scour_77, e_X3_scour_80, e_X3_scour_83, e_X3_scour_86, e_X3_scour_87, Option.toList_some, Option.toList_none, List.cons_append, List.nil_append, true_and, and_true, and_self, bb_ite, true_or, or_true, Option.some.injEq, bb_I_eq, bb_b_0e, bb_b_1e, bb_b_e0, bb_b_e1, decide_eq_true_eq, decide_eq_false_iff_not, bn_01, bn_11, bb_b_01, ne_eq, Bool.not_eq_false, Bool.not_eq_true, Classical.not_not, bn_lt, bn_le, bn_ti, Int32.reduceToInt, bn_m20, bn_20m, nI_add, bn_p1, bn_s1, bn_in, bn_cl, implies_true, not_true_eq_false, not_false_eq_true, Bool.true_and, Bool.false_and, Bool.and_true, Bool.and_false, Bool.true_or, Bool.false_or, Bool.or_true, Bool.or_false, Bool.not_true, Bool.not_false, false_implies, true_implies, forall_const, Bool.false_eq_true, Bool.true_eq_false, reduceCtorEq, eq_self, Bool.and_eq_true, Bool.or_eq_true, Bool.and_eq_false_iff, Bool.or_eq_false_iff, and_false, false_and, or_false, false_or, h1, e, eh, bf_bits_at]
    cases hpn : p n
    · have e3 : bf_q0 (bf_qq g0 p n) false n = 0 := by unfold bf_q0; rw [if_neg (fun z => by cases z.1)]
      have e4 : bf_q1 (bf_qq g0 p n) false n = bf_qq g0 p n := by unfold bf_q1; rw [if_neg (fun z => by cases z.1)]
      simp only [Option.toList_some, Option.toList_none, List.cons_append, List.nil_append, true_and, and_true, and_self, bb_ite, true_or, or_true, Option.some.injEq, bb_I_eq, bb_b_0e, bb_b_1e, bb_b_e0, bb_b_e1, decide_eq_true_eq, decide_eq_false_iff_not, bn_01, bn_11, bb_b_01, ne_eq, Bool.not_eq_false, Bool.not_eq_true, Classical.not_not, bn_lt, bn_le, bn_ti, Int32.reduceToInt, bn_m20, bn_20m, nI_add, bn_p1, bn_s1, bn_in, bn_cl, implies_true, not_true_eq_false, not_false_eq_true, Bool.true_and, Bool.false_and, Bool.and_true, Bool.and_false, Bool.true_or, Bool.false_or, Bool.or_true, Bool.or_false, Bool.not_true, Bool.not_false, false_implies, true_implies, forall_const, Bool.false_eq_true, Bool.true_eq_false, reduceCtorEq, eq_self, Bool.and_eq_true, Bool.or_eq_true, Bool.and_eq_false_iff, Bool.or_eq_false_iff, and_false, false_and, or_false, false_or, e3, e4, Nat.add_zero]
    · simp only [Option.toList_some, Option.toList_none, List.cons_append, List.nil_append, true_and, and_true, and_self, bb_ite, true_or, or_true, Option.some.injEq, bb_I_eq, bb_b_0e, bb_b_1e, bb_b_e0, bb_b_e1, decide_eq_true_eq, decide_eq_false_iff_not, bn_01, bn_11, bb_b_01, ne_eq, Bool.not_eq_false, Bool.not_eq_true, Classical.not_not, bn_lt, bn_le, bn_ti, Int32.reduceToInt, bn_m20, bn_20m, nI_add, bn_p1, bn_s1, bn_in, bn_cl, implies_true, not_true_eq_false, not_false_eq_true, Bool.true_and, Bool.false_and, Bool.and_true, Bool.and_false, Bool.true_or, Bool.false_or, Bool.or_true, Bool.or_false, Bool.not_true, Bool.not_false, false_implies, true_implies, forall_const, Bool.false_eq_true, Bool.true_eq_false, reduceCtorEq, eq_self, Bool.and_eq_true, Bool.or_eq_true, Bool.and_eq_false_iff, Bool.or_eq_false_iff, and_false, false_and, or_false, false_or, Nat.add_assoc]
theorem bf_qq_1 {g : Nat → Int32} {p : Nat → Bool} (h : p 0 = false) : bf_qq g p 1 = g ∧ bf_qc g p 1 = 0 := by
  refine ⟨?_, ?_⟩
  · show bf_q1 g (p 0) 0 = g
    unfold bf_q1
    rw [if_neg]
    rw [h]
    rintro ⟨z, -⟩
    cases z
  · show 0 + bf_q0 g (p 0) 0 = 0
    unfold bf_q0
    rw [if_neg]
    rw [h]
    rintro ⟨z, -⟩
    cases z
theorem bb_wr_row {M : bb_M} {i r : Nat} {S g : Nat → Int32} (hS : ∀ c, c < 20 → S (20 * r + c) = g c) : bb_wr (bb_wr M 10 i 0 (20 * r) S) 10 i (20 * r) 20 g = bb_wr M 10 i 0 (20 * (r + 1)) S := by
  funext k' i' j
  unfold bb_wr
  by_cases q : k' = 10 ∧ i' = i
  · obtain ⟨rfl, rfl⟩ := q
    by_cases q2 : 20 * r ≤ j ∧ j < 20 * r + 20
    · rw [if_pos ⟨rfl, rfl, q2⟩, if_pos ⟨rfl, rfl, by omega, by omega⟩, ← hS (j - 20 * r) (by omega)]
      congr 1
      omega
    · rw [if_neg (fun z => q2 z.2.2)]
      by_cases q3 : j < 20 * r
      · rw [if_pos ⟨rfl, rfl, by omega, by omega⟩, if_pos ⟨rfl, rfl, by omega, by omega⟩]
      · rw [if_neg (by omega), if_neg (by omega)]
  · rw [if_neg (fun z => q ⟨z.1, z.2.1⟩), if_neg (fun z => q ⟨z.1, z.2.1⟩), if_neg (fun z => q ⟨z.1, z.2.1⟩)]
theorem l_X3_scour2 {d i : Nat} {v g : Int32} {M : bb_M} {h : Nat → Int32} {R : bb_P} (hh : ∀ j, j < 80 → M 10 i j = h j) (hp : ∀ r, r < 4 → M 11 i r = bf_bits (bf_gap h v g r) 19) : ∀ (t r : Nat) (z : bb_V), r + t = 4 → (bb_Y (bb_CL (d + 2)) cd_X3_scour R 31 [bb_R 3 i, bb_I v, bb_I g, bb_I (nI (bf_scu h v g r)), bb_I (nI r), z] [] (bb_wr M 10 i 0 (20 * r) (bf_sco h v g)) ↔ R (some (bb_I (nI (bf_scu h v g 4)))) (bb_wr M 10 i 0 80 (bf_sco h v g))) := by
  intro t
  induction t with
  | zero =>
    intro r z hn
    obtain rfl : r = 4 := by omega
    rw [h_X3_scour_31]
    simp (disch := omega) only [e_X3_scour_0, e_X3_scour_1, e_X3_scour_3, e_X3_scour_4, e_X3_scour_7, e_X3_scour_8, e_X3_scour_11, e_X3_scour_12, e_X3_scour_13, e_X3_scour_14, e_X3_scour_15, e_X3_scour_16, e_X3_scour_19, e_X3_scour_20, e_X3_scour_23, e_X3_scour_26, e_X3_scour_27, e_X3_scour_28, e_X3_scour_29, e_X3_scour_33, e_X3_scour_34, e_X3_scour_37, e_X3_scour_38, e_X3_scour_42, e_X3_scour_44, e_X3_scour_47, e_X3_scour_48, e_X3_scour_51, e_X3_scour_53, e_X3_scour_54, e_X3_scour_56, e_X3_scour_57, e_X3_scour_58, e_X3_scour_59, e_X3_scour_60, e_X3_scour_63, e_X3_scour_64, e_X3_scour_65, e_X3_scour_67, e_X3_scour_69, e_X3_scour_72, e_X3_scour_73, e_X3_scour_74, e_X3_scour_77, e_X3_scour_80, e_X3_scour_83, e_X3_scour_86, e_X3_scour_87, Option.toList_some, Option.toList_none, List.cons_append, List.nil_append, true_and, and_true, and_self, bb_ite, true_or, or_true, Option.some.injEq, bb_I_eq, bb_b_0e, bb_b_1e, bb_b_e0, bb_b_e1, decide_eq_true_eq, decide_eq_false_iff_not, bn_01, bn_11, bb_b_01, ne_eq, Bool.not_eq_false, Bool.not_eq_true, Classical.not_not, bn_lt, bn_le, bn_ti, Int32.reduceToInt, bn_m20, bn_20m, nI_add, bn_p1, bn_s1, bn_in, bn_cl, implies_true, not_true_eq_false, not_false_eq_true, Bool.true_and, Bool.false_and, Bool.and_true, Bool.and_false, Bool.true_or, Bool.false_or, Bool.or_true, Bool.or_false, Bool.not_true, Bool.not_false, false_implies, true_implies, forall_const, Bool.false_eq_true, Bool.true_eq_false, reduceCtorEq, eq_self, Bool.and_eq_true, Bool.or_eq_true, Bool.and_eq_false_iff, Bool.or_eq_false_iff, and_false, false_and, or_false, false_or, Int.cast_ofNat_Int, Int.le_refl]
  | succ t ih =>
    intro r z hn
    have h1 : ¬ (4 : Int) ≤ (r : Int) := by omega
    have e := l_X3_scour1 (d := d) (i := i) (r := r) (s := bf_scu h v g r) (v := v) (g := g) (M := bb_wr M 10 i 0 (20 * r) (bf_sco h v g)) (g0 := bf_rg h r) (p := bf_gap h v g r) (R := R) (by omega) (by rw [bb_wr_k (by decide)]; exact hp r (by omega)) 18 1 rfl
    obtain ⟨q1, q2⟩ := bf_qq_1 (g := bf_rg h r) (p := bf_gap h v g r) bf_gap_0
    rw [q1, q2, bb_wr_same (g := bf_rg h r) (fun c hc => by rw [bb_wr_out (by omega), bf_rg_c hc]; exact (hh _ (by omega)).symm), bb_wr_row (g := bf_qq (bf_rg h r) (bf_gap h v g r) 19) (fun c hc => by unfold bf_sco; rw [show (20 * r + c) / 20 = r by omega, show (20 * r + c) % 20 = c by omega])] at e
    have e1 : bf_scu h v g (r + 1) = bf_scu h v g r + bf_qc (bf_rg h r) (bf_gap h v g r) 19 := rfl
    rw [h_X3_scour_31, ← ih (r + 1) (bb_I (nI 19)) (by omega), e1]
    simp (disch := omega) only [e_X3_scour_0, e_X3_scour_1, e_X3_scour_3, e_X3_scour_4, e_X3_scour_7, e_X3_scour_8, e_X3_scour_11, e_X3_scour_12, e_X3_scour_13, e_X3_scour_14, e_X3_scour_15, e_X3_scour_16, e_X3_scour_19, e_X3_scour_20, e_X3_scour_23, e_X3_scour_26, e_X3_scour_27, e_X3_scour_28, e_X3_scour_29, e_X3_scour_33, e_X3_scour_34, e_X3_scour_37, e_X3_scour_38, e_X3_scour_42, e_X3_scour_44, e_X3_scour_47, e_X3_scour_48, e_X3_scour_51, e_X3_scour_53, e_X3_scour_54, e_X3_scour_56, e_X3_scour_57, e_X3_scour_58, e_X3_scour_59, e_X3_scour_60, e_X3_scour_63, e_X3_scour_64, e_X3_scour_65, e_X3_scour_67, e_X3_scour_69, e_X3_scour_72, e_X3_scour_73, e_X3_scour_74, e_X3_scour_77, e_X3_scour_80, e_X3_scour_83, e_X3_scour_86, e_X3_scour_87, Option.toList_some, Option.toList_none, List.cons_append, List.nil_append, true_and, and_true, and_self, bb_ite, true_or, or_true, Option.some.injEq, bb_I_eq, bb_b_0e, bb_b_1e, bb_b_e0, bb_b_e1, decide_eq_true_eq, decide_eq_false_iff_not, bn_01, bn_11, bb_b_01, ne_eq, Bool.not_eq_false, Bool.not_eq_true, Classical.not_not, bn_lt, bn_le, bn_ti, Int32.reduceToInt, bn_m20, bn_20m, nI_add, bn_p1, bn_s1, bn_in, bn_cl, implies_true, not_true_eq_false, not_false_eq_true, Bool.true_and, Bool.false_and, Bool.and_true, Bool.and_false, Bool.true_or, Bool.false_or, Bool.or_true, Bool.or_false, Bool.not_true, Bool.not_false, false_implies, true_implies, forall_const, Bool.false_eq_true, Bool.true_eq_false, reduceCtorEq, eq_self, Bool.and_eq_true, Bool.or_eq_true, Bool.and_eq_false_iff, Bool.or_eq_false_iff, and_false, false_and, or_false, false_or, h1]
    exact e
theorem x_X3_scour {d i : Nat} {v g : Int32} {M : bb_M} {k : Option bb_V → bb_M → Prop} (hB : bf_hb (M 10 i)) (hg : 0 ≤ g.toInt ∧ g.toInt ≤ 100) : bb_call (bb_CL (d + 5)) 62 [bb_R 3 i, bb_I v, bb_I g] M k ↔ k (some (bb_I (nI (bf_scu (M 10 i) v g 4)))) (bb_wr (bb_wr M 11 i 0 4 (fun r => bf_bits (bf_gap (M 10 i) v g r) 19)) 10 i 0 80 (bf_sco (M 10 i) v g)) := by
  refine bb_cal (st_X3_scour ?_)
  simp only [e_X3_scour_0, e_X3_scour_1, e_X3_scour_3, e_X3_scour_4, e_X3_scour_7, e_X3_scour_8, e_X3_scour_11, e_X3_scour_12, e_X3_scour_13, e_X3_scour_14, e_X3_scour_15, e_X3_scour_16, e_X3_scour_19, e_X3_scour_20, e_X3_scour_23, e_X3_scour_26, e_X3_scour_27, e_X3_scour_28, e_X3_scour_29, e_X3_scour_33, e_X3_scour_34, e_X3_scour_37, e_X3_scour_38, e_X3_scour_42, e_X3_scour_44, e_X3_scour_47, e_X3_scour_48, e_X3_scour_51, e_X3_scour_53, e_X3_scour_54, e_X3_scour_56, e_X3_scour_57, e_X3_scour_58, e_X3_scour_59, e_X3_scour_60, e_X3_scour_63, e_X3_scour_64, e_X3_scour_65, e_X3_scour_67, e_X3_scour_69, e_X3_scour_72, e_X3_scour_73, e_X3_scour_74, e_X3_scour_77, e_X3_scour_80, e_X3_scour_83, e_X3_scour_86, e_X3_scour_87]
  have e := l_X3_scour2 (d := d + 2) (i := i) (v := v) (g := g) (M := bb_wr M 11 i 0 4 (fun r => bf_bits (bf_gap (M 10 i) v g r) 19)) (h := M 10 i) (R := fun r' M' => r' = some (bb_I (nI (bf_scu (M 10 i) v g 4))) ∧ M' = bb_wr (bb_wr M 11 i 0 4 (fun r => bf_bits (bf_gap (M 10 i) v g r) 19)) 10 i 0 80 (bf_sco (M 10 i) v g)) (fun j _ => bb_wr_k (by decide)) (fun r hr => by have := bb_wr_in (M := M) (k := 11) (i := i) (a := 0) (n := 4) (g := fun r => bf_bits (bf_gap (M 10 i) v g r) 19) hr; rwa [Nat.zero_add] at this) 4 0 bb_U rfl
  have e2 := (l_X3_scour0 (d := d) (i := i) (v := v) (g := g) (M := M) (R := fun r' M' => r' = some (bb_I (nI (bf_scu (M 10 i) v g 4))) ∧ M' = bb_wr (bb_wr M 11 i 0 4 (fun r => bf_bits (bf_gap (M 10 i) v g r) 19)) 10 i 0 80 (bf_sco (M 10 i) v g)) hB hg 4 0 bb_U bb_U rfl)
  rw [bb_wr_same (a := 20 * 0) (g := bf_sco (M 10 i) v g) (n := 20 * 0) (fun c hc => absurd hc (Nat.not_lt_zero c))] at e
  rw [bb_wr_same (M := M) (k := 11) (i := i) (a := 0) (n := 0) (fun c hc => absurd hc (Nat.not_lt_zero c))] at e2
  exact e2.mpr (e.mpr ⟨rfl, rfl⟩)

/-! the sand's rows, alike where two beaches are alike -/
theorem bf_bar_eq {h h' : Nat → Int32} {v : Int32} {r c : Nat} (e : ∀ j, j < 80 → h j = h' j) (hr : r < 4) : bf_bar h v r c = bf_bar h' v r c := by
  unfold bf_bar
  by_cases q : 1 ≤ c ∧ c ≤ 18
  · rw [e _ (by omega), e (20 * r + c - 1) (by omega), e (20 * r + c + 1) (by omega)]
  · rw [decide_eq_false (fun z => q z.1), decide_eq_false (fun z => q z.1)]
theorem bf_gap_eq {h h' : Nat → Int32} {v g : Int32} {r : Nat} (e : ∀ j, j < 80 → h j = h' j) (hr : r < 4) : bf_gap h v g r = bf_gap h' v g r := by
  funext c
  unfold bf_gap
  by_cases q : 1 ≤ c ∧ c ≤ 18
  · rw [bf_bar_eq e hr, bf_bar_eq (r := r - 1) e (by omega), e (20 * r + c) (by omega), e (20 * (r - 1) + c) (by omega)]
    by_cases q3 : r < 3
    · rw [bf_bar_eq (r := r + 1) e (by omega), e (20 * (r + 1) + c) (by omega)]
    · simp only [q3, false_and, decide_false, Bool.false_and]
  · simp only [q, false_and, decide_false, Bool.false_and]
theorem bf_sco_eq {h h' : Nat → Int32} {v g : Int32} (e : ∀ j, j < 80 → h j = h' j) : ∀ j, j < 80 → bf_sco h v g j = bf_sco h' v g j := by
  intro j hj
  unfold bf_sco
  rw [bf_rg_eq e (by omega), bf_gap_eq e (by omega)]
theorem bf_scu_eq {h h' : Nat → Int32} {v g : Int32} (e : ∀ j, j < 80 → h j = h' j) : ∀ r, r ≤ 4 → bf_scu h v g r = bf_scu h' v g r
  | 0, _ => rfl
  | r + 1, hr => by
    show bf_scu h v g r + bf_qc (bf_rg h r) (bf_gap h v g r) 19 = bf_scu h' v g r + bf_qc (bf_rg h' r) (bf_gap h' v g r) 19
    rw [bf_scu_eq e r (by omega), bf_rg_eq e (by omega), bf_gap_eq e (by omega)]
theorem bf_st_eq {h h' : Nat → Int32} {v : Int32} (e : ∀ j, j < 80 → h j = h' j) : ∀ j, j < 80 → bf_st h v j = bf_st h' v j := by
  intro j hj
  unfold bf_st
  rw [bf_rg_eq e (by omega)]
theorem bf_su_eq {h h' : Nat → Int32} {v : Int32} (e : ∀ j, j < 80 → h j = h' j) : ∀ r, r ≤ 4 → bf_su h v r = bf_su h' v r
  | 0, _ => rfl
  | r + 1, hr => by
    show bf_su h v r + bf_to (bf_rg h r) v bf_NN = bf_su h' v r + bf_to (bf_rg h' r) v bf_NN
    rw [bf_su_eq e r (by omega), bf_rg_eq e (by omega)]
theorem bf_sco_b {h : Nat → Int32} {v g : Int32} (hB : bf_hb h) : bf_hb (bf_sco h v g) := fun j hj => bf_qq_b (bf_rg_b hB (by omega)) 19 (by omega) (j % 20) (by omega)
theorem bf_st_b {h : Nat → Int32} {v : Int32} (hB : bf_hb h) (hv : 0 ≤ v.toInt) : bf_hb (bf_st h v) := fun j hj => bf_it_b (bf_rg_b hB (by omega)) hv bf_NN (j % 20) (by omega)
theorem bf_hb_eq {h h' : Nat → Int32} (e : ∀ j, j < 80 → h j = h' j) (hB : bf_hb h) : bf_hb h' := fun j hj => by rw [← e j hj]; exact hB j hj
