/-! RUNNING: the order of the waves -/
def br_h (a : Nat → Int32) (x : Nat) : Int := (a (87 + 2 * x)).toInt
def br_ah (a : Nat → Int32) (x y : Nat) : Bool := if a 82 = 1 then decide (br_h a y < br_h a x) else if a 82 = 2 then decide (br_h a x < br_h a y) else false
/-- the wave k goes to its place among those before it -/
def br_in (a : Nat → Int32) (k : Nat) : Nat → (Nat → Int32) → Nat → Int32
  | 0, o => upd o 0 (nI k)
  | n + 1, o => if br_ah a k (o n).toInt.toNat = true then br_in a k n (upd o (n + 1) (o n)) else upd o (n + 1) (nI k)
def br_so (a : Nat → Int32) : Nat → Nat → Int32
  | 0 => fun _ => 0
  | k + 1 => br_in a k k (br_so a k)
theorem br_in_ok {a : Nat → Int32} {k : Nat} : ∀ (n : Nat) (o : Nat → Int32), n ≤ k → (∀ j, j ≤ k → j ≠ n → ∃ x, x < k + 1 ∧ o j = nI x) → ∀ j, j ≤ k → ∃ x, x < k + 1 ∧ br_in a k n o j = nI x
  | 0, o, hn, ho, j, hj => by
    unfold br_in
    rw [bf_upd]
    by_cases q : j = 0
    · exact ⟨k, by omega, if_pos q⟩
    · rw [if_neg q]; exact ho j hj q
  | n + 1, o, hn, ho, j, hj => by
    unfold br_in
    split
    · refine br_in_ok n _ (by omega) (fun i hi hin => ?_) j hj
      rw [bf_upd]
      by_cases q : i = n + 1
      · rw [if_pos q]; exact ho n (by omega) (by omega)
      · rw [if_neg q]; exact ho i hi q
    · rw [bf_upd]
      by_cases q : j = n + 1
      · exact ⟨k, by omega, if_pos q⟩
      · rw [if_neg q]; exact ho j hj q
theorem br_so_ok {a : Nat → Int32} : ∀ (k j : Nat), j < k → ∃ x, x < k ∧ br_so a k j = nI x
  | 0, j, h => absurd h (Nat.not_lt_zero j)
  | k + 1, j, h => br_in_ok k (br_so a k) (Nat.le_refl _) (fun i hi hne => by
      obtain ⟨x, hx, e⟩ := br_so_ok k i (by omega)
      exact ⟨x, by omega, e⟩) j (by omega)
theorem br_in_hole {a : Nat → Int32} {k : Nat} : ∀ (n : Nat) (o : Nat → Int32) (x : Int32), br_in a k n (upd o n x) = br_in a k n o
  | 0, o, x => by
    unfold br_in
    funext j
    simp only [bf_upd]
    split <;> simp_all
  | n + 1, o, x => by
    unfold br_in
    rw [bw_upd_c (by omega : n ≠ n + 1)]
    have e : ∀ v, upd (upd o (n + 1) x) (n + 1) v = upd o (n + 1) v := fun v => by
      funext j
      simp only [bf_upd]
      split <;> rfl
    rw [e, e]
theorem bb_wr_in0 {M : bb_M} {k i n c : Nat} {g : Nat → Int32} (h : c < n) : bb_wr M k i 0 n g k i c = g c := by
  have := bb_wr_in (M := M) (k := k) (i := i) (a := 0) (g := g) h
  rwa [Nat.zero_add] at this
theorem bb_wr_up0 {M : bb_M} {k i n c : Nat} {g : Nat → Int32} {v : Int32} (h : c < n) : bb_up (bb_wr M k i 0 n g) k i c v = bb_wr M k i 0 n (upd g c v) := by
  have := bb_wr_up (M := M) (k := k) (i := i) (a := 0) (n := n) (c := c) (g := g) (v := v) h
  rwa [Nat.zero_add] at this
theorem bb_wr_one {M : bb_M} {k i n : Nat} {g : Nat → Int32} : bb_wr M k i 0 n g = bb_wr M k i 0 (n + 1) (upd g n (M k i n)) := by
  funext k' i' j
  unfold bb_wr
  by_cases q : k' = k ∧ i' = i
  · obtain ⟨rfl, rfl⟩ := q
    by_cases q2 : j < n
    · rw [if_pos ⟨rfl, rfl, by omega, by omega⟩, if_pos ⟨rfl, rfl, by omega, by omega⟩, bw_upd_c (by omega)]
    · rw [if_neg (by omega)]
      by_cases q3 : j = n
      · rw [if_pos ⟨rfl, rfl, by omega, by omega⟩, bf_upd, if_pos (by omega), q3]
      · rw [if_neg (by omega)]
  · rw [if_neg (fun z => q ⟨z.1, z.2.1⟩), if_neg (fun z => q ⟨z.1, z.2.1⟩)]
theorem x_X6_goesSeaward {d w : Nat} {M : bb_M} {k : Option bb_V → bb_M → Prop} (hw : w ≤ 20) : bb_call (bb_CL (d + 1)) 21 [bb_R 6 0, bb_I (nI w)] M k ↔ k (some (bb_I (bb_b (decide ((M 14 0 0).toInt ≤ (w : Int)))))) M := by
  refine bb_cal (st_X6_goesSeaward ?_)
  have v0 : vp_in 0 4 := vp_in_nI (n := 0) (by omega) (by omega)
  simp (disch := omega) only [e_X6_goesSeaward_0, e_X6_goesSeaward_1, e_X6_goesSeaward_2, e_X6_goesSeaward_5, e_X6_goesSeaward_8, e_X6_goesSeaward_9, e_X6_goesSeaward_10, e_X6_goesSeaward_13, e_X6_goesSeaward_14, e_X6_goesSeaward_17, e_X6_goesSeaward_18, Option.toList_some, Option.toList_none, List.cons_append, List.nil_append, true_and, and_true, and_self, bb_ite, true_or, or_true, Option.some.injEq, bb_I_eq, bb_b_0e, bb_b_1e, bb_b_e0, bb_b_e1, decide_eq_true_eq, decide_eq_false_iff_not, bn_01, bn_11, bb_b_01, ne_eq, Bool.not_eq_false, Bool.not_eq_true, Classical.not_not, bn_lt, bn_le, bn_ti, Int32.reduceToInt, bn_m20, bn_20m, nI_add, bn_p1, bn_s1, bn_in, bn_cl, implies_true, not_true_eq_false, not_false_eq_true, Bool.true_and, Bool.false_and, Bool.and_true, Bool.and_false, Bool.true_or, Bool.false_or, Bool.or_true, Bool.or_false, Bool.not_true, Bool.not_false, false_implies, true_implies, forall_const, Bool.false_eq_true, Bool.true_eq_false, reduceCtorEq, eq_self, Bool.and_eq_true, Bool.or_eq_true, Bool.and_eq_false_iff, Bool.or_eq_false_iff, and_false, false_and, or_false, false_or, v0, Int32.reduceToNatClampNeg]
  by_cases q : (w : Int) < (M 14 0 0).toInt
  · have q2 : ¬ (M 14 0 0).toInt ≤ (w : Int) := by omega
    simp only [q, q2, Option.toList_some, Option.toList_none, List.cons_append, List.nil_append, true_and, and_true, and_self, bb_ite, true_or, or_true, Option.some.injEq, bb_I_eq, bb_b_0e, bb_b_1e, bb_b_e0, bb_b_e1, decide_eq_true_eq, decide_eq_false_iff_not, bn_01, bn_11, bb_b_01, ne_eq, Bool.not_eq_false, Bool.not_eq_true, Classical.not_not, bn_lt, bn_le, bn_ti, Int32.reduceToInt, bn_m20, bn_20m, nI_add, bn_p1, bn_s1, bn_in, bn_cl, implies_true, not_true_eq_false, not_false_eq_true, Bool.true_and, Bool.false_and, Bool.and_true, Bool.and_false, Bool.true_or, Bool.false_or, Bool.or_true, Bool.or_false, Bool.not_true, Bool.not_false, false_implies, true_implies, forall_const, Bool.false_eq_true, Bool.true_eq_false, reduceCtorEq, eq_self, Bool.and_eq_true, Bool.or_eq_true, Bool.and_eq_false_iff, Bool.or_eq_false_iff, and_false, false_and, or_false, false_or]
  · have q2 : (M 14 0 0).toInt ≤ (w : Int) := by omega
    simp only [q, q2, Option.toList_some, Option.toList_none, List.cons_append, List.nil_append, true_and, and_true, and_self, bb_ite, true_or, or_true, Option.some.injEq, bb_I_eq, bb_b_0e, bb_b_1e, bb_b_e0, bb_b_e1, decide_eq_true_eq, decide_eq_false_iff_not, bn_01, bn_11, bb_b_01, ne_eq, Bool.not_eq_false, Bool.not_eq_true, Classical.not_not, bn_lt, bn_le, bn_ti, Int32.reduceToInt, bn_m20, bn_20m, nI_add, bn_p1, bn_s1, bn_in, bn_cl, implies_true, not_true_eq_false, not_false_eq_true, Bool.true_and, Bool.false_and, Bool.and_true, Bool.and_false, Bool.true_or, Bool.false_or, Bool.or_true, Bool.or_false, Bool.not_true, Bool.not_false, false_implies, true_implies, forall_const, Bool.false_eq_true, Bool.true_eq_false, reduceCtorEq, eq_self, Bool.and_eq_true, Bool.or_eq_true, Bool.and_eq_false_iff, Bool.or_eq_false_iff, and_false, false_and, or_false, false_or]
theorem x_X6_runsEarlier {d s x y : Nat} {a : Nat → Int32} {M : bb_M} {k : Option bb_V → bb_M → Prop} (h82 : M 14 0 1 = a 82) (hh : ∀ j, j < s → M 13 0 j = a (87 + 2 * j)) (hx : x < s) (hy : y < s) (hs : s ≤ 24) : bb_call (bb_CL (d + 2)) 24 [bb_R 6 0, bb_I (nI x), bb_I (nI y)] M k ↔ k (some (bb_I (bb_b (br_ah a x y)))) M := by
  refine bb_cal (st_X6_runsEarlier ?_)
  have v1 : vp_in 1 4 := vp_in_nI (n := 1) (by omega) (by omega)
  have ex := hh x hx
  have ey := hh y hy
  unfold br_ah br_h
  simp (disch := omega) only [e_X6_runsEarlier_0, e_X6_runsEarlier_1, e_X6_runsEarlier_4, e_X6_runsEarlier_7, e_X6_runsEarlier_8, e_X6_runsEarlier_11, e_X6_runsEarlier_12, e_X6_runsEarlier_13, e_X6_runsEarlier_16, e_X6_runsEarlier_19, e_X6_runsEarlier_20, e_X6_runsEarlier_23, e_X6_runsEarlier_25, e_X6_runsEarlier_26, e_X6_runsEarlier_29, e_X6_runsEarlier_32, e_X6_runsEarlier_33, e_X6_runsEarlier_34, e_X6_runsEarlier_60, e_X6_runsEarlier_61, e_X6_runsEarlier_63, e_X6_runsEarlier_66, e_X6_runsEarlier_67, e_X6_runsEarlier_70, e_X6_runsEarlier_71, e_X6_runsEarlier_72, e_X6_runsEarlier_73, e_X6_runsEarlier_75, e_X6_runsEarlier_78, e_X6_runsEarlier_79, e_X6_runsEarlier_82, e_X6_runsEarlier_83, e_X6_runsEarlier_84, e_X6_runsEarlier_85, Option.toList_some, Option.toList_none, List.cons_append, List.nil_append, true_and, and_true, and_self, bb_ite, true_or, or_true, Option.some.injEq, bb_I_eq, bb_b_0e, bb_b_1e, bb_b_e0, bb_b_e1, decide_eq_true_eq, decide_eq_false_iff_not, bn_01, bn_11, bb_b_01, ne_eq, Bool.not_eq_false, Bool.not_eq_true, Classical.not_not, bn_lt, bn_le, bn_ti, Int32.reduceToInt, bn_m20, bn_20m, nI_add, bn_p1, bn_s1, bn_in, bn_cl, implies_true, not_true_eq_false, not_false_eq_true, Bool.true_and, Bool.false_and, Bool.and_true, Bool.and_false, Bool.true_or, Bool.false_or, Bool.or_true, Bool.or_false, Bool.not_true, Bool.not_false, false_implies, true_implies, forall_const, Bool.false_eq_true, Bool.true_eq_false, reduceCtorEq, eq_self, Bool.and_eq_true, Bool.or_eq_true, Bool.and_eq_false_iff, Bool.or_eq_false_iff, and_false, false_and, or_false, false_or, v1, Int32.reduceToNatClampNeg, h82, x_X1_heightOf, ex, ey]
  generalize (a (87 + 2 * x)).toInt = X
  generalize (a (87 + 2 * y)).toInt = Y
  by_cases q1 : a 82 = 1
  · have z : ¬ (1 : Int32) = 2 := by decide
    rw [if_pos q1]
    by_cases q : X ≤ Y
    · have q2 : ¬ Y < X := by omega
      simp only [q1, z, q, q2, Option.toList_some, Option.toList_none, List.cons_append, List.nil_append, true_and, and_true, and_self, bb_ite, true_or, or_true, Option.some.injEq, bb_I_eq, bb_b_0e, bb_b_1e, bb_b_e0, bb_b_e1, decide_eq_true_eq, decide_eq_false_iff_not, bn_01, bn_11, bb_b_01, ne_eq, Bool.not_eq_false, Bool.not_eq_true, Classical.not_not, bn_lt, bn_le, bn_ti, Int32.reduceToInt, bn_m20, bn_20m, nI_add, bn_p1, bn_s1, bn_in, bn_cl, implies_true, not_true_eq_false, not_false_eq_true, Bool.true_and, Bool.false_and, Bool.and_true, Bool.and_false, Bool.true_or, Bool.false_or, Bool.or_true, Bool.or_false, Bool.not_true, Bool.not_false, false_implies, true_implies, forall_const, Bool.false_eq_true, Bool.true_eq_false, reduceCtorEq, eq_self, Bool.and_eq_true, Bool.or_eq_true, Bool.and_eq_false_iff, Bool.or_eq_false_iff, and_false, false_and, or_false, false_or, if_true]
    · have q2 : Y < X := by omega
      simp only [q1, z, q, q2, Option.toList_some, Option.toList_none, List.cons_append, List.nil_append, true_and, and_true, and_self, bb_ite, true_or, or_true, Option.some.injEq, bb_I_eq, bb_b_0e, bb_b_1e, bb_b_e0, bb_b_e1, decide_eq_true_eq, decide_eq_false_iff_not, bn_01, bn_11, bb_b_01, ne_eq, Bool.not_eq_false, Bool.not_eq_true, Classical.not_not, bn_lt, bn_le, bn_ti, Int32.reduceToInt, bn_m20, bn_20m, nI_add, bn_p1, bn_s1, bn_in, bn_cl, implies_true, not_true_eq_false, not_false_eq_true, Bool.true_and, Bool.false_and, Bool.and_true, Bool.and_false, Bool.true_or, Bool.false_or, Bool.or_true, Bool.or_false, Bool.not_true, Bool.not_false, false_implies, true_implies, forall_const, Bool.false_eq_true, Bool.true_eq_false, reduceCtorEq, eq_self, Bool.and_eq_true, Bool.or_eq_true, Bool.and_eq_false_iff, Bool.or_eq_false_iff, and_false, false_and, or_false, false_or, if_true]
  · rw [if_neg q1]
    by_cases q3 : a 82 = 2
    · have z : ¬ (2 : Int32) = 1 := by decide
      rw [if_pos q3]
      by_cases q : Y ≤ X
      · have q2 : ¬ X < Y := by omega
        simp only [q3, z, q, q2, Option.toList_some, Option.toList_none, List.cons_append, List.nil_append, true_and, and_true, and_self, bb_ite, true_or, or_true, Option.some.injEq, bb_I_eq, bb_b_0e, bb_b_1e, bb_b_e0, bb_b_e1, decide_eq_true_eq, decide_eq_false_iff_not, bn_01, bn_11, bb_b_01, ne_eq, Bool.not_eq_false, Bool.not_eq_true, Classical.not_not, bn_lt, bn_le, bn_ti, Int32.reduceToInt, bn_m20, bn_20m, nI_add, bn_p1, bn_s1, bn_in, bn_cl, implies_true, not_true_eq_false, not_false_eq_true, Bool.true_and, Bool.false_and, Bool.and_true, Bool.and_false, Bool.true_or, Bool.false_or, Bool.or_true, Bool.or_false, Bool.not_true, Bool.not_false, false_implies, true_implies, forall_const, Bool.false_eq_true, Bool.true_eq_false, reduceCtorEq, eq_self, Bool.and_eq_true, Bool.or_eq_true, Bool.and_eq_false_iff, Bool.or_eq_false_iff, and_false, false_and, or_false, false_or, if_true]
      · have q2 : X < Y := by omega
        simp only [q3, z, q, q2, Option.toList_some, Option.toList_none, List.cons_append, List.nil_append, true_and, and_true, and_self, bb_ite, true_or, or_true, Option.some.injEq, bb_I_eq, bb_b_0e, bb_b_1e, bb_b_e0, bb_b_e1, decide_eq_true_eq, decide_eq_false_iff_not, bn_01, bn_11, bb_b_01, ne_eq, Bool.not_eq_false, Bool.not_eq_true, Classical.not_not, bn_lt, bn_le, bn_ti, Int32.reduceToInt, bn_m20, bn_20m, nI_add, bn_p1, bn_s1, bn_in, bn_cl, implies_true, not_true_eq_false, not_false_eq_true, Bool.true_and, Bool.false_and, Bool.and_true, Bool.and_false, Bool.true_or, Bool.false_or, Bool.or_true, Bool.or_false, Bool.not_true, Bool.not_false, false_implies, true_implies, forall_const, Bool.false_eq_true, Bool.true_eq_false, reduceCtorEq, eq_self, Bool.and_eq_true, Bool.or_eq_true, Bool.and_eq_false_iff, Bool.or_eq_false_iff, and_false, false_and, or_false, false_or, if_true]
    · rw [if_neg q3]
      simp only [q1, q3, Option.toList_some, Option.toList_none, List.cons_append, List.nil_append, true_and, and_true, and_self, bb_ite, true_or, or_true, Option.some.injEq, bb_I_eq, bb_b_0e, bb_b_1e, bb_b_e0, bb_b_e1, decide_eq_true_eq, decide_eq_false_iff_not, bn_01, bn_11, bb_b_01, ne_eq, Bool.not_eq_false, Bool.not_eq_true, Classical.not_not, bn_lt, bn_le, bn_ti, Int32.reduceToInt, bn_m20, bn_20m, nI_add, bn_p1, bn_s1, bn_in, bn_cl, implies_true, not_true_eq_false, not_false_eq_true, Bool.true_and, Bool.false_and, Bool.and_true, Bool.and_false, Bool.true_or, Bool.false_or, Bool.or_true, Bool.or_false, Bool.not_true, Bool.not_false, false_implies, true_implies, forall_const, Bool.false_eq_true, Bool.true_eq_false, reduceCtorEq, eq_self, Bool.and_eq_true, Bool.or_eq_true, Bool.and_eq_false_iff, Bool.or_eq_false_iff, and_false, false_and, or_false, false_or]
theorem l_X6_sort2 {d s k : Nat} {a : Nat → Int32} {M : bb_M} {R : bb_P} (h82 : M 14 0 1 = a 82) (hh : ∀ j, j < s → M 13 0 j = a (87 + 2 * j)) (hk : k < s) (hs : s ≤ 24) : ∀ (n : Nat) (o : Nat → Int32), n ≤ k → (∀ j, j < n → ∃ x, x < s ∧ o j = nI x) → ∃ z, (bb_Y (bb_CL (d + 2)) cd_X6_sortWaves R 20 [bb_R 6 0, bb_I (nI s), bb_I (nI k), bb_I (nI n)] [] (bb_wr M 19 0 0 (k + 1) o) ↔ bb_Y (bb_CL (d + 2)) cd_X6_sortWaves R 13 [bb_R 6 0, bb_I (nI s), bb_I (nI (k + 1)), z] [] (bb_wr M 19 0 0 (k + 1) (br_in a k n o))) := by
  intro n
  induction n with
  | zero =>
    intro o hn ho
    refine ⟨bb_I (nI 0), ?_⟩
    rw [h_X6_sortWaves_20]
    have e0 : ((0 : Nat) : Int) ≤ 0 := by decide
    simp (disch := omega) only [e_X6_sortWaves_0, e_X6_sortWaves_1, e_X6_sortWaves_4, e_X6_sortWaves_7, e_X6_sortWaves_10, e_X6_sortWaves_11, e_X6_sortWaves_12, e_X6_sortWaves_14, e_X6_sortWaves_15, e_X6_sortWaves_18, e_X6_sortWaves_19, e_X6_sortWaves_21, e_X6_sortWaves_24, e_X6_sortWaves_25, e_X6_sortWaves_26, e_X6_sortWaves_27, e_X6_sortWaves_30, e_X6_sortWaves_31, e_X6_sortWaves_32, e_X6_sortWaves_33, e_X6_sortWaves_34, e_X6_sortWaves_37, e_X6_sortWaves_40, e_X6_sortWaves_41, e_X6_sortWaves_44, e_X6_sortWaves_45, e_X6_sortWaves_46, e_X6_sortWaves_49, e_X6_sortWaves_50, e_X6_sortWaves_51, e_X6_sortWaves_52, e_X6_sortWaves_53, e_X6_sortWaves_54, e_X6_sortWaves_57, e_X6_sortWaves_60, e_X6_sortWaves_61, e_X6_sortWaves_64, e_X6_sortWaves_65, e_X6_sortWaves_66, e_X6_sortWaves_67, e_X6_sortWaves_70, e_X6_sortWaves_73, Option.toList_some, Option.toList_none, List.cons_append, List.nil_append, true_and, and_true, and_self, bb_ite, true_or, or_true, Option.some.injEq, bb_I_eq, bb_b_0e, bb_b_1e, bb_b_e0, bb_b_e1, decide_eq_true_eq, decide_eq_false_iff_not, bn_01, bn_11, bb_b_01, ne_eq, Bool.not_eq_false, Bool.not_eq_true, Classical.not_not, bn_lt, bn_le, bn_ti, Int32.reduceToInt, bn_m20, bn_20m, nI_add, bn_p1, bn_s1, bn_in, bn_cl, implies_true, not_true_eq_false, not_false_eq_true, Bool.true_and, Bool.false_and, Bool.and_true, Bool.and_false, Bool.true_or, Bool.false_or, Bool.or_true, Bool.or_false, Bool.not_true, Bool.not_false, false_implies, true_implies, forall_const, Bool.false_eq_true, Bool.true_eq_false, reduceCtorEq, eq_self, Bool.and_eq_true, Bool.or_eq_true, Bool.and_eq_false_iff, Bool.or_eq_false_iff, and_false, false_and, or_false, false_or, e0, bb_wr_up0]
    rfl
  | succ n ih =>
    intro o hn ho
    obtain ⟨x, hx, ex⟩ := ho n (by omega)
    have h1 : ¬ ((n + 1 : Nat) : Int) ≤ 0 := by omega
    have er : bb_wr M 19 0 0 (k + 1) o 19 0 n = nI x := by rw [bb_wr_in0 (by omega), ex]
    have e := fun kk => x_X6_runsEarlier (d := d) (s := s) (x := k) (y := x) (a := a) (M := bb_wr M 19 0 0 (k + 1) o) (k := kk) (by rw [bb_wr_k (by decide), h82]) (fun j hj => by rw [bb_wr_k (by decide)]; exact hh j hj) hk hx hs
    have ei : br_in a k (n + 1) o = if br_ah a k (o n).toInt.toNat = true then br_in a k n (upd o (n + 1) (o n)) else upd o (n + 1) (nI k) := rfl
    have et : (o n).toInt.toNat = x := by rw [ex, bn_ti (by omega)]; rfl
    rw [ei, et, ex, h_X6_sortWaves_20]
    simp (disch := omega) only [e_X6_sortWaves_0, e_X6_sortWaves_1, e_X6_sortWaves_4, e_X6_sortWaves_7, e_X6_sortWaves_10, e_X6_sortWaves_11, e_X6_sortWaves_12, e_X6_sortWaves_14, e_X6_sortWaves_15, e_X6_sortWaves_18, e_X6_sortWaves_19, e_X6_sortWaves_21, e_X6_sortWaves_24, e_X6_sortWaves_25, e_X6_sortWaves_26, e_X6_sortWaves_27, e_X6_sortWaves_30, e_X6_sortWaves_31, e_X6_sortWaves_32, e_X6_sortWaves_33, e_X6_sortWaves_34, e_X6_sortWaves_37, e_X6_sortWaves_40, e_X6_sortWaves_41, e_X6_sortWaves_44, e_X6_sortWaves_45, e_X6_sortWaves_46, e_X6_sortWaves_49, e_X6_sortWaves_50, e_X6_sortWaves_51, e_X6_sortWaves_52, e_X6_sortWaves_53, e_X6_sortWaves_54, e_X6_sortWaves_57, e_X6_sortWaves_60, e_X6_sortWaves_61, e_X6_sortWaves_64, e_X6_sortWaves_65, e_X6_sortWaves_66, e_X6_sortWaves_67, e_X6_sortWaves_70, e_X6_sortWaves_73, Option.toList_some, Option.toList_none, List.cons_append, List.nil_append, true_and, and_true, and_self, bb_ite, true_or, or_true, Option.some.injEq, bb_I_eq, bb_b_0e, bb_b_1e, bb_b_e0, bb_b_e1, decide_eq_true_eq, decide_eq_false_iff_not, bn_01, bn_11, bb_b_01, ne_eq, Bool.not_eq_false, Bool.not_eq_true, Classical.not_not, bn_lt, bn_le, bn_ti, Int32.reduceToInt, bn_m20, bn_20m, nI_add, bn_p1, bn_s1, bn_in, bn_cl, implies_true, not_true_eq_false, not_false_eq_true, Bool.true_and, Bool.false_and, Bool.and_true, Bool.and_false, Bool.true_or, Bool.false_or, Bool.or_true, Bool.or_false, Bool.not_true, Bool.not_false, false_implies, true_implies, forall_const, Bool.false_eq_true, Bool.true_eq_false, reduceCtorEq, eq_self, Bool.and_eq_true, Bool.or_eq_true, Bool.and_eq_false_iff, Bool.or_eq_false_iff, and_false, false_and, or_false, false_or, h1, Nat.add_sub_cancel, er, e, bb_wr_up0]
    cases q : br_ah a k x
    · refine ⟨bb_I (nI (n + 1)), ?_⟩
      simp only [Option.toList_some, Option.toList_none, List.cons_append, List.nil_append, true_and, and_true, and_self, bb_ite, true_or, or_true, Option.some.injEq, bb_I_eq, bb_b_0e, bb_b_1e, bb_b_e0, bb_b_e1, decide_eq_true_eq, decide_eq_false_iff_not, bn_01, bn_11, bb_b_01, ne_eq, Bool.not_eq_false, Bool.not_eq_true, Classical.not_not, bn_lt, bn_le, bn_ti, Int32.reduceToInt, bn_m20, bn_20m, nI_add, bn_p1, bn_s1, bn_in, bn_cl, implies_true, not_true_eq_false, not_false_eq_true, Bool.true_and, Bool.false_and, Bool.and_true, Bool.and_false, Bool.true_or, Bool.false_or, Bool.or_true, Bool.or_false, Bool.not_true, Bool.not_false, false_implies, true_implies, forall_const, Bool.false_eq_true, Bool.true_eq_false, reduceCtorEq, eq_self, Bool.and_eq_true, Bool.or_eq_true, Bool.and_eq_false_iff, Bool.or_eq_false_iff, and_false, false_and, or_false, false_or, if_false]
    · obtain ⟨z, hz⟩ := ih (upd o (n + 1) (nI x)) (by omega) (fun j hj => by rw [bw_upd_c (by omega)]; exact ho j (by omega))
      refine ⟨z, ?_⟩
      simp only [Option.toList_some, Option.toList_none, List.cons_append, List.nil_append, true_and, and_true, and_self, bb_ite, true_or, or_true, Option.some.injEq, bb_I_eq, bb_b_0e, bb_b_1e, bb_b_e0, bb_b_e1, decide_eq_true_eq, decide_eq_false_iff_not, bn_01, bn_11, bb_b_01, ne_eq, Bool.not_eq_false, Bool.not_eq_true, Classical.not_not, bn_lt, bn_le, bn_ti, Int32.reduceToInt, bn_m20, bn_20m, nI_add, bn_p1, bn_s1, bn_in, bn_cl, implies_true, not_true_eq_false, not_false_eq_true, Bool.true_and, Bool.false_and, Bool.and_true, Bool.and_false, Bool.true_or, Bool.false_or, Bool.or_true, Bool.or_false, Bool.not_true, Bool.not_false, false_implies, true_implies, forall_const, Bool.false_eq_true, Bool.true_eq_false, reduceCtorEq, eq_self, Bool.and_eq_true, Bool.or_eq_true, Bool.and_eq_false_iff, Bool.or_eq_false_iff, and_false, false_and, or_false, false_or, if_true, pk_m1]
      exact hz
theorem l_X6_sort1 {d s : Nat} {a : Nat → Int32} {M : bb_M} {R : bb_P} (h82 : M 14 0 1 = a 82) (hh : ∀ j, j < s → M 13 0 j = a (87 + 2 * j)) (hs : s ≤ 24) : ∀ (t k : Nat) (z : bb_V), k + t = s → (bb_Y (bb_CL (d + 2)) cd_X6_sortWaves R 13 [bb_R 6 0, bb_I (nI s), bb_I (nI k), z] [] (bb_wr M 19 0 0 k (br_so a k)) ↔ R none (bb_wr M 19 0 0 s (br_so a s))) := by
  intro t
  induction t with
  | zero =>
    intro k z hk
    obtain rfl : k = s := by omega
    rw [h_X6_sortWaves_13]
    simp (disch := omega) only [e_X6_sortWaves_0, e_X6_sortWaves_1, e_X6_sortWaves_4, e_X6_sortWaves_7, e_X6_sortWaves_10, e_X6_sortWaves_11, e_X6_sortWaves_12, e_X6_sortWaves_14, e_X6_sortWaves_15, e_X6_sortWaves_18, e_X6_sortWaves_19, e_X6_sortWaves_21, e_X6_sortWaves_24, e_X6_sortWaves_25, e_X6_sortWaves_26, e_X6_sortWaves_27, e_X6_sortWaves_30, e_X6_sortWaves_31, e_X6_sortWaves_32, e_X6_sortWaves_33, e_X6_sortWaves_34, e_X6_sortWaves_37, e_X6_sortWaves_40, e_X6_sortWaves_41, e_X6_sortWaves_44, e_X6_sortWaves_45, e_X6_sortWaves_46, e_X6_sortWaves_49, e_X6_sortWaves_50, e_X6_sortWaves_51, e_X6_sortWaves_52, e_X6_sortWaves_53, e_X6_sortWaves_54, e_X6_sortWaves_57, e_X6_sortWaves_60, e_X6_sortWaves_61, e_X6_sortWaves_64, e_X6_sortWaves_65, e_X6_sortWaves_66, e_X6_sortWaves_67, e_X6_sortWaves_70, e_X6_sortWaves_73, Option.toList_some, Option.toList_none, List.cons_append, List.nil_append, true_and, and_true, and_self, bb_ite, true_or, or_true, Option.some.injEq, bb_I_eq, bb_b_0e, bb_b_1e, bb_b_e0, bb_b_e1, decide_eq_true_eq, decide_eq_false_iff_not, bn_01, bn_11, bb_b_01, ne_eq, Bool.not_eq_false, Bool.not_eq_true, Classical.not_not, bn_lt, bn_le, bn_ti, Int32.reduceToInt, bn_m20, bn_20m, nI_add, bn_p1, bn_s1, bn_in, bn_cl, implies_true, not_true_eq_false, not_false_eq_true, Bool.true_and, Bool.false_and, Bool.and_true, Bool.and_false, Bool.true_or, Bool.false_or, Bool.or_true, Bool.or_false, Bool.not_true, Bool.not_false, false_implies, true_implies, forall_const, Bool.false_eq_true, Bool.true_eq_false, reduceCtorEq, eq_self, Bool.and_eq_true, Bool.or_eq_true, Bool.and_eq_false_iff, Bool.or_eq_false_iff, and_false, false_and, or_false, false_or, Int.le_refl]
  | succ t ih =>
    intro k z hk
    have h1 : ¬ (s : Int) ≤ (k : Int) := by omega
    obtain ⟨z2, hz⟩ := l_X6_sort2 (d := d) (R := R) (k := k) h82 hh (by omega) hs k (upd (br_so a k) k (M 19 0 k)) (Nat.le_refl _) (fun j hj => by
      rw [bw_upd_c (by omega)]
      obtain ⟨x, hx, e⟩ := br_so_ok (a := a) k j hj
      exact ⟨x, by omega, e⟩)
    rw [br_in_hole, ← bb_wr_one] at hz
    rw [h_X6_sortWaves_13, ← ih (k + 1) z2 (by omega)]
    simp (disch := omega) only [e_X6_sortWaves_0, e_X6_sortWaves_1, e_X6_sortWaves_4, e_X6_sortWaves_7, e_X6_sortWaves_10, e_X6_sortWaves_11, e_X6_sortWaves_12, e_X6_sortWaves_14, e_X6_sortWaves_15, e_X6_sortWaves_18, e_X6_sortWaves_19, e_X6_sortWaves_21, e_X6_sortWaves_24, e_X6_sortWaves_25, e_X6_sortWaves_26, e_X6_sortWaves_27, e_X6_sortWaves_30, e_X6_sortWaves_31, e_X6_sortWaves_32, e_X6_sortWaves_33, e_X6_sortWaves_34, e_X6_sortWaves_37, e_X6_sortWaves_40, e_X6_sortWaves_41, e_X6_sortWaves_44, e_X6_sortWaves_45, e_X6_sortWaves_46, e_X6_sortWaves_49, e_X6_sortWaves_50, e_X6_sortWaves_51, e_X6_sortWaves_52, e_X6_sortWaves_53, e_X6_sortWaves_54, e_X6_sortWaves_57, e_X6_sortWaves_60, e_X6_sortWaves_61, e_X6_sortWaves_64, e_X6_sortWaves_65, e_X6_sortWaves_66, e_X6_sortWaves_67, e_X6_sortWaves_70, e_X6_sortWaves_73, Option.toList_some, Option.toList_none, List.cons_append, List.nil_append, true_and, and_true, and_self, bb_ite, true_or, or_true, Option.some.injEq, bb_I_eq, bb_b_0e, bb_b_1e, bb_b_e0, bb_b_e1, decide_eq_true_eq, decide_eq_false_iff_not, bn_01, bn_11, bb_b_01, ne_eq, Bool.not_eq_false, Bool.not_eq_true, Classical.not_not, bn_lt, bn_le, bn_ti, Int32.reduceToInt, bn_m20, bn_20m, nI_add, bn_p1, bn_s1, bn_in, bn_cl, implies_true, not_true_eq_false, not_false_eq_true, Bool.true_and, Bool.false_and, Bool.and_true, Bool.and_false, Bool.true_or, Bool.false_or, Bool.or_true, Bool.or_false, Bool.not_true, Bool.not_false, false_implies, true_implies, forall_const, Bool.false_eq_true, Bool.true_eq_false, reduceCtorEq, eq_self, Bool.and_eq_true, Bool.or_eq_true, Bool.and_eq_false_iff, Bool.or_eq_false_iff, and_false, false_and, or_false, false_or, h1]
    exact hz
theorem x_X6_sortWaves {d s : Nat} {a : Nat → Int32} {M : bb_M} {k : Option bb_V → bb_M → Prop} (hq : M 1 0 2 = nI s) (h82 : M 14 0 1 = a 82) (hh : ∀ j, j < s → M 13 0 j = a (87 + 2 * j)) (hs : s ≤ 24) : bb_call (bb_CL (d + 3)) 23 [bb_R 6 0] M k ↔ k none (bb_wr M 19 0 0 s (br_so a s)) := by
  refine bb_cal (st_X6_sortWaves ?_)
  simp (disch := omega) only [e_X6_sortWaves_0, e_X6_sortWaves_1, e_X6_sortWaves_4, e_X6_sortWaves_7, e_X6_sortWaves_10, e_X6_sortWaves_11, e_X6_sortWaves_12, e_X6_sortWaves_14, e_X6_sortWaves_15, e_X6_sortWaves_18, e_X6_sortWaves_19, e_X6_sortWaves_21, e_X6_sortWaves_24, e_X6_sortWaves_25, e_X6_sortWaves_26, e_X6_sortWaves_27, e_X6_sortWaves_30, e_X6_sortWaves_31, e_X6_sortWaves_32, e_X6_sortWaves_33, e_X6_sortWaves_34, e_X6_sortWaves_37, e_X6_sortWaves_40, e_X6_sortWaves_41, e_X6_sortWaves_44, e_X6_sortWaves_45, e_X6_sortWaves_46, e_X6_sortWaves_49, e_X6_sortWaves_50, e_X6_sortWaves_51, e_X6_sortWaves_52, e_X6_sortWaves_53, e_X6_sortWaves_54, e_X6_sortWaves_57, e_X6_sortWaves_60, e_X6_sortWaves_61, e_X6_sortWaves_64, e_X6_sortWaves_65, e_X6_sortWaves_66, e_X6_sortWaves_67, e_X6_sortWaves_70, e_X6_sortWaves_73, Option.toList_some, Option.toList_none, List.cons_append, List.nil_append, true_and, and_true, and_self, bb_ite, true_or, or_true, Option.some.injEq, bb_I_eq, bb_b_0e, bb_b_1e, bb_b_e0, bb_b_e1, decide_eq_true_eq, decide_eq_false_iff_not, bn_01, bn_11, bb_b_01, ne_eq, Bool.not_eq_false, Bool.not_eq_true, Classical.not_not, x_X1_size, hq]
  have := (l_X6_sort1 (d := d) (R := fun r' M' => r' = none ∧ M' = bb_wr M 19 0 0 s (br_so a s)) h82 hh hs s 0 bb_U (Nat.zero_add _)).mpr ⟨rfl, rfl⟩
  rw [bb_wr_same (M := M) (k := 19) (i := 0) (a := 0) (n := 0) (fun c hc => absurd hc (Nat.not_lt_zero c))] at this
  exact this
/-! a wave does not see the facts of its end before it ends -/
def bw_eq (s s' : bw_S) : Prop := (∀ c, c < 20 → s.1 c = s'.1 c) ∧ (∀ j, j < 7 → j ≠ 3 → j ≠ 4 → s.2.1 j = s'.2.1 j) ∧ s.2.2 = s'.2.2
def bw_eq7 (s s' : bw_S) : Prop := (∀ c, c < 20 → s.1 c = s'.1 c) ∧ (∀ j, j < 7 → s.2.1 j = s'.2.1 j) ∧ s.2.2 = s'.2.2
theorem bw_upd_eq {f f' : Nat → Int32} {P : Nat → Prop} {n : Nat} {x : Int32} (h : ∀ c, P c → f c = f' c) : ∀ c, P c → upd f n x c = upd f' n x c := by
  intro c hc
  rw [bf_upd, bf_upd]
  split
  · rfl
  · exact h c hc
theorem bw_F_eq {F F' : Nat → Int32} {n : Nat} {t : Int32} (h : ∀ j, j < 7 → j ≠ 3 → j ≠ 4 → F j = F' j) : ∀ j, j < 7 → j ≠ 3 → j ≠ 4 → bw_F F n t j = bw_F F' n t j := by
  intro j h1 h2 h3
  have h5 := h 5 (by decide) (by decide) (by decide)
  have h6 := h 6 (by decide) (by decide) (by decide)
  have hj := h j h1 h2 h3
  unfold bw_F
  rw [h5, h6]
  simp only [bf_upd]
  split
  · rfl
  · split
    · rfl
    · split
      · simp only [bf_upd]
        split
        · rfl
        · exact hj
      · exact hj
theorem bw_brk_eq {sea : Bool} {n w : Nat} {s s' : bw_S} (hn : n < 20) (h : bw_eq s s') : bw_eq (bw_brk sea n w s) (bw_brk sea n w s') := by
  obtain ⟨g, F, pq⟩ := s
  obtain ⟨g', F', pq'⟩ := s'
  obtain ⟨h1, h2, h3⟩ := h
  dsimp only at h1 h2 h3
  subst h3
  unfold bw_brk
  dsimp only
  rw [h1 n hn]
  split
  · split
    · exact ⟨bw_upd_eq (P := fun c => c < 20) h1, bw_F_eq h2, rfl⟩
    · rw [h1 (n + 1) (by omega)]
      exact ⟨bw_upd_eq (P := fun c => c < 20) (bw_upd_eq (P := fun c => c < 20) h1), bw_F_eq h2, rfl⟩
  · split
    · exact ⟨bw_upd_eq (P := fun c => c < 20) h1, bw_F_eq h2, rfl⟩
    · rw [h1 (n - 1) (by omega)]
      exact ⟨bw_upd_eq (P := fun c => c < 20) (bw_upd_eq (P := fun c => c < 20) h1), bw_F_eq h2, rfl⟩
theorem bw_end_eq {s s' : bw_S} {x y : Int32} (h : bw_eq s s') : bw_eq7 (bw_end s x y) (bw_end s' x y) := by
  refine ⟨h.1, fun j hj => ?_, h.2.2⟩
  show upd (upd s.2.1 3 x) 4 y j = upd (upd s'.2.1 3 x) 4 y j
  simp only [bf_upd]
  split
  · rfl
  · split
    · rfl
    · exact h.2.1 j hj (by assumption) (by assumption)
theorem bw_run_eq {lv : Int32} {sea : Bool} : ∀ (n w : Nat) (s s' : bw_S), n ≤ 20 → bw_eq s s' → bw_eq7 (bw_run lv sea n w s) (bw_run lv sea n w s')
  | 0, _, s, s', _, h => bw_end_eq h
  | n + 1, w, s, s', hn, h => by
    unfold bw_run
    rw [h.1 n (by omega)]
    split
    · exact bw_end_eq h
    · split
      · split
        · exact bw_end_eq (bw_brk_eq (by omega) h)
        · exact bw_run_eq n _ _ _ (by omega) (bw_brk_eq (by omega) h)
      · exact bw_run_eq n _ _ _ (by omega) h
