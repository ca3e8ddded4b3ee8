/-! RUNNING: a turn, all turns, and the sand after them -/
def br_row (a : Nat → Int32) (x : Nat) : Nat := (a (86 + 2 * x)).toInt.toNat
def br_hi (a : Nat → Int32) (x : Nat) : Nat := (a (87 + 2 * x)).toInt.toNat
def br_go (a : Nat → Int32) (lv : Int32) (x : Nat) : bw_S := bw_run lv (decide ((a 81).toInt ≤ (br_hi a x : Int))) 20 (br_hi a x) (bf_rg a (br_row a x), bw_F0 (br_row a x) (br_hi a x) 0 0, 0, 0)
/-- the state after the turn t of the wave x -/
def br_tu (a : Nat → Int32) (lv : Int32) (t x : Nat) : Nat → Int32 := fun j => if 20 * br_row a x ≤ j ∧ j < 20 * br_row a x + 20 then (br_go a lv x).1 (j - 20 * br_row a x) else if j = 134 then a 134 + (br_go a lv x).2.2.1 else if j = 135 then a 135 + (br_go a lv x).2.2.2 else if 143 + 7 * t ≤ j ∧ j < 143 + 7 * t + 7 then (br_go a lv x).2.1 (j - (143 + 7 * t)) else a j
def br_rn (a o : Nat → Int32) (lv : Int32) : Nat → (Nat → Int32) × Int32
  | 0 => (a, 0)
  | t + 1 => (br_tu (br_rn a o lv t).1 lv t (o t).toInt.toNat, (br_rn a o lv t).2 + (br_go (br_rn a o lv t).1 lv (o t).toInt.toNat).2.1 5)
theorem br_tu_hi {a : Nat → Int32} {lv : Int32} {t x j : Nat} (hr : br_row a x < 4) (h : 80 ≤ j ∧ j < 134 ∨ 136 ≤ j ∧ j < 143 + 7 * t) : br_tu a lv t x j = a j := by
  unfold br_tu
  rw [if_neg (by omega), if_neg (by omega), if_neg (by omega), if_neg (by omega)]
/-- what a run leaves as it is -/
theorem br_rn_hi {a o : Nat → Int32} {lv : Int32} {s : Nat} (hs : s ≤ 24) (hr : ∀ x, x < s → br_row a x < 4) (ho : ∀ j, j < s → (o j).toInt.toNat < s) : ∀ t, t ≤ s → (∀ j, (80 ≤ j ∧ j < 134 ∨ 136 ≤ j ∧ j < 143) → (br_rn a o lv t).1 j = a j) ∧ ∀ x, x < s → br_row (br_rn a o lv t).1 x = br_row a x ∧ br_hi (br_rn a o lv t).1 x = br_hi a x
  | 0, _ => ⟨fun _ _ => rfl, fun _ _ => ⟨rfl, rfl⟩⟩
  | t + 1, ht => by
    obtain ⟨h1, h2⟩ := br_rn_hi hs hr ho t (by omega)
    have e : ∀ j, (80 ≤ j ∧ j < 134 ∨ 136 ≤ j ∧ j < 143) → (br_rn a o lv (t + 1)).1 j = a j := fun j hj => by
      show br_tu (br_rn a o lv t).1 lv t (o t).toInt.toNat j = a j
      rw [br_tu_hi (by rw [(h2 _ (ho t (by omega))).1]; exact hr _ (ho t (by omega))) (by omega)]
      exact h1 j hj
    refine ⟨e, fun x hx => ⟨?_, ?_⟩⟩
    · unfold br_row; rw [e _ (by omega)]
    · unfold br_hi; rw [e _ (by omega)]
def br_tk (M : bb_M) (t : Nat) : bb_M := bb_up (bb_up (bb_up (bb_up (bb_cp M 18 0 16 0 0 (7 * t) 7) 15 0 1 (M 15 0 1 + M 2 0 1)) 15 0 2 (M 15 0 2 + M 2 0 2)) 15 0 5 (M 15 0 5 + 1)) 15 0 6 (M 15 0 6 + M 18 0 5)
theorem x_X4_takeOver {d t : Nat} {M : bb_M} {k : Option bb_V → bb_M → Prop} (ht : t < 24) : bb_call (bb_CL (d + 2)) 68 [bb_R 4 0, bb_R 2 0, bb_I (nI t)] M k ↔ k none (br_tk M t) := by
  refine bb_cal (st_X4_takeOver ?_)
  have c0 : (0 : Int32).toNatClampNeg = 0 := rfl
  have c7 : (7 : Int32).toNatClampNeg = 7 := rfl
  have e7 : nI t * 7 = nI (7 * t) := by rw [show (7 : Int32) = nI 7 from rfl, pk_mul, Nat.mul_comm]
  have v1 : vp_in 1 9 := vp_in_nI (n := 1) (by omega) (by omega)
  have v2 : vp_in 2 9 := vp_in_nI (n := 2) (by omega) (by omega)
  have v5 : vp_in 5 9 := vp_in_nI (n := 5) (by omega) (by omega)
  have v6 : vp_in 6 9 := vp_in_nI (n := 6) (by omega) (by omega)
  have f5 : (5 : Int32) = nI 5 := rfl
  have l1 : ¬ (0 : Int32) < 0 := by decide
  have l2 : ¬ nI (7 * t) < 0 := by rw [bn_lt, bn_ti (by omega), show (0 : Int32).toInt = 0 from rfl]; omega
  have l3 : ¬ (7 : Int32) < 0 := by decide
  have xf := fun (M' : bb_M) kk => x_X2_fact (d := d) (j := 5) (M := M') (k := kk) (by decide)
  rw [← f5] at xf
  have w1 : bb_cp M 18 0 16 0 0 (7 * t) 7 15 0 1 = M 15 0 1 := bb_cp_k (by decide)
  have w2 : bb_cp M 18 0 16 0 0 (7 * t) 7 2 0 1 = M 2 0 1 := bb_cp_k (by decide)
  have w3 : bb_cp M 18 0 16 0 0 (7 * t) 7 15 0 2 = M 15 0 2 := bb_cp_k (by decide)
  have w4 : bb_cp M 18 0 16 0 0 (7 * t) 7 2 0 2 = M 2 0 2 := bb_cp_k (by decide)
  have w5 : bb_cp M 18 0 16 0 0 (7 * t) 7 15 0 5 = M 15 0 5 := bb_cp_k (by decide)
  have w6 : bb_cp M 18 0 16 0 0 (7 * t) 7 15 0 6 = M 15 0 6 := bb_cp_k (by decide)
  have w7 : bb_cp M 18 0 16 0 0 (7 * t) 7 18 0 5 = M 18 0 5 := bb_cp_k (by decide)
  have n1 : (1 : Nat) = 2 ↔ False := by decide
  have u1 : ∀ (M' : bb_M) v j, j ≠ 1 → bb_up M' 15 0 1 v 15 0 j = M' 15 0 j := fun M' v j h => bb_up_j h
  have u2 : ∀ (M' : bb_M) v j, j ≠ 2 → bb_up M' 15 0 2 v 15 0 j = M' 15 0 j := fun M' v j h => bb_up_j h
  have u5 : ∀ (M' : bb_M) v j, j ≠ 5 → bb_up M' 15 0 5 v 15 0 j = M' 15 0 j := fun M' v j h => bb_up_j h
  have uk : ∀ (M' : bb_M) v j k' i' j', k' ≠ 15 → bb_up M' 15 0 j v k' i' j' = M' k' i' j' := fun M' v j k' i' j' h => bb_up_k h
  simp (disch := omega) only [e_X4_takeOver_0, e_X4_takeOver_1, e_X4_takeOver_4, e_X4_takeOver_5, e_X4_takeOver_6, e_X4_takeOver_9, e_X4_takeOver_10, e_X4_takeOver_12, e_X4_takeOver_13, e_X4_takeOver_15, e_X4_takeOver_18, e_X4_takeOver_19, e_X4_takeOver_22, e_X4_takeOver_23, e_X4_takeOver_24, e_X4_takeOver_25, e_X4_takeOver_26, e_X4_takeOver_29, e_X4_takeOver_30, e_X4_takeOver_31, e_X4_takeOver_32, e_X4_takeOver_35, e_X4_takeOver_36, e_X4_takeOver_37, e_X4_takeOver_38, e_X4_takeOver_39, e_X4_takeOver_42, e_X4_takeOver_43, e_X4_takeOver_44, e_X4_takeOver_45, e_X4_takeOver_48, e_X4_takeOver_49, e_X4_takeOver_50, e_X4_takeOver_51, e_X4_takeOver_52, e_X4_takeOver_53, e_X4_takeOver_54, e_X4_takeOver_55, e_X4_takeOver_58, e_X4_takeOver_60, e_X4_takeOver_61, e_X4_takeOver_62, e_X4_takeOver_63, e_X4_takeOver_64, e_X4_takeOver_67, e_X4_takeOver_68, e_X4_takeOver_69, Option.toList_some, Option.toList_none, List.cons_append, List.nil_append, true_and, and_true, and_self, bb_ite, true_or, or_true, Option.some.injEq, bb_I_eq, bb_b_0e, bb_b_1e, bb_b_e0, bb_b_e1, decide_eq_true_eq, decide_eq_false_iff_not, bn_01, bn_11, bb_b_01, ne_eq, Bool.not_eq_false, Bool.not_eq_true, Classical.not_not, c0, c7, e7, bn_cl, l1, l2, l3, not_false_eq_true, Nat.zero_add, Nat.le_refl, v1, v2, v5, v6, Int32.reduceToNatClampNeg, xf, u1, u2, u5, uk, w1, w2, w3, w4, w5, w6, w7]
  refine ⟨by omega, rfl⟩
/-- what the calls of the class leave as it is -/
def bc_fr (M M' : bb_M) : Prop := ∀ k i j, (i ≠ 0 ∨ k = 0 ∨ k = 5 ∨ k = 6 ∨ k = 7 ∨ k = 17 ∨ 20 ≤ k) → M' k i j = M k i j
theorem bc_fr_tr {M M1 M2 : bb_M} (h1 : bc_fr M M1) (h2 : bc_fr M1 M2) : bc_fr M M2 := fun k i j h => (h2 k i j h).trans (h1 k i j h)
theorem bc_fr_rf {M : bb_M} : bc_fr M M := fun _ _ _ _ => rfl
/-- before the turn t: b is the state, n the breaks -/
def br_I (a : Nat → Int32) (s : Nat) (o : Nat → Int32) (t : Nat) (b : Nat → Int32) (n : Int32) (M : bb_M) : Prop := (∀ j, j < 80 → M 10 0 j = b j) ∧ M 15 0 1 = b 134 ∧ M 15 0 2 = b 135 ∧ M 15 0 5 = a 138 + nI t ∧ M 15 0 6 = a 139 + n ∧ (∀ j, j < 7 * t → M 16 0 j = b (143 + j)) ∧ (∀ j, j < s → M 12 0 j = a (86 + 2 * j) ∧ M 13 0 j = a (87 + 2 * j)) ∧ (∀ j, j < 4 → M 14 0 j = a (81 + j)) ∧ (∀ j, j < s → M 19 0 j = o j) ∧ M 1 0 2 = a 85 ∧ M 4 0 6 = a 80 ∧ (M 15 0 3 = a 136 ∧ M 15 0 4 = a 137 ∧ M 15 0 7 = a 140 ∧ M 15 0 8 = a 141)
theorem br_step {a b o : Nat → Int32} {s t x : Nat} {lv n : Int32} {M : bb_M} (hI : br_I a s o t b n M) (hr : br_row b x < 4) (ht : t < 24) (hlo : ∀ j, 81 ≤ j → j < 85 → b j = a j) : ∀ S : bw_S, S = bw_run lv (decide ((a 81).toInt ≤ (br_hi b x : Int))) 20 (br_hi b x) ((fun c => M 10 0 (20 * br_row b x + c)), bw_F0 (br_row b x) (br_hi b x) (M 18 0 3) (M 18 0 4), 0, 0) → br_I a s o (t + 1) (br_tu b lv t x) (n + (br_go b lv x).2.1 5) (br_tk (bw_M M 0 (br_row b x) S) t) ∧ bc_fr M (br_tk (bw_M M 0 (br_row b x) S) t) ∧ S.2.1 5 = (br_go b lv x).2.1 5 := by
  intro S hS
  obtain ⟨h1, h2, h3, h4, h5, h6, h7, h8, h9, h10, h11, h12⟩ := hI
  have q := bw_run_eq (lv := lv) (sea := decide ((a 81).toInt ≤ (br_hi b x : Int))) 20 (br_hi b x) ((fun c => M 10 0 (20 * br_row b x + c)), bw_F0 (br_row b x) (br_hi b x) (M 18 0 3) (M 18 0 4), 0, 0) (bf_rg b (br_row b x), bw_F0 (br_row b x) (br_hi b x) 0 0, 0, 0) (Nat.le_refl _) ⟨fun c hc => (h1 _ (by omega)).trans (bf_rg_c hc).symm, fun j _ j3 j4 => by
    show bw_F0 _ _ _ _ j = bw_F0 _ _ _ _ j
    unfold bw_F0
    simp only [if_neg j3, if_neg j4], rfl⟩
  have eg : bw_run lv (decide ((a 81).toInt ≤ (br_hi b x : Int))) 20 (br_hi b x) (bf_rg b (br_row b x), bw_F0 (br_row b x) (br_hi b x) 0 0, 0, 0) = br_go b lv x := by
    unfold br_go
    rw [hlo 81 (by omega) (by omega)]
  rw [eg, ← hS] at q
  obtain ⟨g, F, p, u⟩ := S
  obtain ⟨q1, q2, q3⟩ := q
  dsimp only at q1 q2 q3
  have q3a : p = (br_go b lv x).2.2.1 := by rw [← q3]
  have q3b : u = (br_go b lv x).2.2.2 := by rw [← q3]
  have m15 : ∀ j, bw_M M 0 (br_row b x) (g, F, p, u) 15 0 j = M 15 0 j := fun j => by
    unfold bw_M
    rw [bb_wr_k (by decide), bb_wr_k (by decide), bb_up_k (by decide), bb_up_k (by decide)]
  have mo : ∀ k i j, k ≠ 10 → k ≠ 18 → k ≠ 2 → bw_M M 0 (br_row b x) (g, F, p, u) k i j = M k i j := fun k i j e1 e2 e3 => by
    unfold bw_M
    rw [bb_wr_k e1, bb_wr_k e2, bb_up_k e3, bb_up_k e3]
  have tk : ∀ k i j, k ≠ 15 → k ≠ 16 → br_tk (bw_M M 0 (br_row b x) (g, F, p, u)) t k i j = bw_M M 0 (br_row b x) (g, F, p, u) k i j := fun k i j e1 e2 => by
    unfold br_tk
    rw [bb_up_k e1, bb_up_k e1, bb_up_k e1, bb_up_k e1, bb_cp_k e2]
  refine ⟨⟨fun j hj => ?_, ?_, ?_, ?_, ?_, fun j hj => ?_, fun j hj => ?_, fun j hj => ?_, fun j hj => ?_, ?_, ?_, ?_⟩, ?_, ?_⟩
  · rw [tk _ _ _ (by decide) (by decide)]
    unfold br_tu
    by_cases z : 20 * br_row b x ≤ j ∧ j < 20 * br_row b x + 20
    · rw [if_pos z, ← q1 _ (by omega)]
      have := bw_r10 (M := M) (i := 0) (r := br_row b x) (c := j - 20 * br_row b x) (g := g) (F := F) (p := p) (q := u) (by omega)
      rwa [show 20 * br_row b x + (j - 20 * br_row b x) = j by omega] at this
    · rw [if_neg z, if_neg (by omega), if_neg (by omega), if_neg (by omega), ← h1 j hj]
      unfold bw_M
      rw [bb_wr_out (by omega), bb_wr_k (by decide), bb_up_k (by decide), bb_up_k (by decide)]
  · unfold br_tk br_tu
    rw [bb_up_j (by decide), bb_up_j (by decide), bb_up_j (by decide), bb_up_at, m15, bw_r1, if_neg (by omega), if_pos rfl, h2, q3a]
  · unfold br_tk br_tu
    rw [bb_up_j (by decide), bb_up_j (by decide), bb_up_at, m15, bw_r2, if_neg (by omega), if_neg (by decide), if_pos rfl, h3, q3b]
  · unfold br_tk
    rw [bb_up_j (by decide), bb_up_at, m15, h4, ← bn_p1, Int32.add_assoc]
  · unfold br_tk
    rw [bb_up_at, m15, h5, bw_r18 (by decide), q2 5 (by decide), Int32.add_assoc]
  · unfold br_tk br_tu
    rw [bb_up_k (by decide), bb_up_k (by decide), bb_up_k (by decide), bb_up_k (by decide), if_neg (by omega), if_neg (by omega), if_neg (by omega)]
    unfold bb_cp
    by_cases z : 7 * t ≤ j
    · rw [if_pos (by omega), if_pos (by omega), show 143 + j - (143 + 7 * t) = j - 7 * t by omega, ← q2 _ (by omega)]
      rw [Nat.zero_add]
      exact bw_r18 (by omega)
    · rw [if_neg (by omega), if_neg (by omega), mo _ _ _ (by decide) (by decide) (by decide)]
      exact h6 j (by omega)
  · rw [tk _ _ _ (by decide) (by decide), tk _ _ _ (by decide) (by decide), mo _ _ _ (by decide) (by decide) (by decide), mo _ _ _ (by decide) (by decide) (by decide)]
    exact h7 j hj
  · rw [tk _ _ _ (by decide) (by decide), mo _ _ _ (by decide) (by decide) (by decide)]
    exact h8 j hj
  · rw [tk _ _ _ (by decide) (by decide), mo _ _ _ (by decide) (by decide) (by decide)]
    exact h9 j hj
  · rw [tk _ _ _ (by decide) (by decide), mo _ _ _ (by decide) (by decide) (by decide)]
    exact h10
  · rw [tk _ _ _ (by decide) (by decide), mo _ _ _ (by decide) (by decide) (by decide)]
    exact h11
  · have e : ∀ j, j ≠ 1 → j ≠ 2 → j ≠ 5 → j ≠ 6 → br_tk (bw_M M 0 (br_row b x) (g, F, p, u)) t 15 0 j = M 15 0 j := fun j z1 z2 z3 z4 => by
      unfold br_tk
      rw [bb_up_j z4, bb_up_j z3, bb_up_j z2, bb_up_j z1, bb_cp_k (by decide), m15]
    rw [e 3 (by decide) (by decide) (by decide) (by decide), e 4 (by decide) (by decide) (by decide) (by decide), e 7 (by decide) (by decide) (by decide) (by decide), e 8 (by decide) (by decide) (by decide) (by decide)]
    exact h12
  · intro k i j hk
    rcases hk with hk | hk
    · unfold br_tk bw_M bb_up bb_cp bb_wr
      simp only [hk, false_and, and_false, if_false]
    · rw [tk k i j (by omega) (by omega), mo k i j (by omega) (by omega) (by omega)]
  · exact q2 5 (by decide)

theorem l_X6_runWaves {d s : Nat} {a o : Nat → Int32} {lv : Int32} {w0 : bb_M} (hs : s ≤ 24) (hq : ∀ x, x < s → br_row a x < 4 ∧ a (86 + 2 * x) = nI (br_row a x) ∧ br_hi a x ≤ 20 ∧ a (87 + 2 * x) = nI (br_hi a x)) (ho : ∀ j, j < s → ∃ x, x < s ∧ o j = nI x) : ∀ (rem t : Nat) (z5 z6 : bb_V) (M : bb_M), t + rem = s → br_I a s o t (br_rn a o lv t).1 (br_rn a o lv t).2 M → ∃ M', br_I a s o s (br_rn a o lv s).1 (br_rn a o lv s).2 M' ∧ bc_fr M M' ∧ ∀ R : bb_P, bb_Y (bb_CL (d + 4)) cd_X6_runWaves R 20 [bb_R 6 0, bb_I lv, bb_I (br_rn a o lv t).2, bb_I (nI s), bb_I (nI t), z5, z6] [] M ↔ R (some (bb_I (br_rn a o lv s).2)) (bb_up M' 4 0 5 (nI s)) := by
  intro rem
  have hq2 : ∀ x, x < s → br_row a x < 4 := fun x hx => (hq x hx).1
  have ho2 : ∀ j, j < s → (o j).toInt.toNat < s := fun j hj => by
    obtain ⟨x, hx, e⟩ := ho j hj
    rw [e, bn_ti (by omega)]
    exact hx
  induction rem with
  | zero =>
    intro t z5 z6 M ht hI
    obtain rfl : t = s := by omega
    refine ⟨M, hI, bc_fr_rf, fun R => ?_⟩
    rw [h_X6_runWaves_20]
    simp (disch := omega) only [e_X6_runWaves_0, e_X6_runWaves_1, e_X6_runWaves_4, e_X6_runWaves_5, e_X6_runWaves_6, e_X6_runWaves_7, e_X6_runWaves_10, e_X6_runWaves_13, e_X6_runWaves_16, e_X6_runWaves_17, e_X6_runWaves_18, e_X6_runWaves_22, e_X6_runWaves_23, e_X6_runWaves_26, e_X6_runWaves_27, e_X6_runWaves_30, e_X6_runWaves_32, e_X6_runWaves_33, e_X6_runWaves_35, e_X6_runWaves_36, e_X6_runWaves_39, e_X6_runWaves_42, e_X6_runWaves_44, e_X6_runWaves_47, e_X6_runWaves_49, e_X6_runWaves_50, e_X6_runWaves_53, e_X6_runWaves_54, e_X6_runWaves_57, e_X6_runWaves_60, e_X6_runWaves_61, e_X6_runWaves_64, e_X6_runWaves_67, e_X6_runWaves_69, e_X6_runWaves_72, e_X6_runWaves_74, e_X6_runWaves_75, e_X6_runWaves_76, e_X6_runWaves_78, e_X6_runWaves_81, e_X6_runWaves_84, e_X6_runWaves_85, e_X6_runWaves_88, e_X6_runWaves_89, e_X6_runWaves_92, e_X6_runWaves_94, e_X6_runWaves_97, e_X6_runWaves_98, e_X6_runWaves_99, e_X6_runWaves_102, e_X6_runWaves_103, e_X6_runWaves_106, e_X6_runWaves_107, e_X6_runWaves_108, e_X6_runWaves_111, e_X6_runWaves_114, e_X6_runWaves_115, e_X6_runWaves_118, e_X6_runWaves_119, e_X6_runWaves_122, e_X6_runWaves_123, Option.toList_some, Option.toList_none, List.cons_append, List.nil_append, true_and, and_true, and_self, bb_ite, true_or, or_true, Option.some.injEq, bb_I_eq, bb_b_0e, bb_b_1e, bb_b_e0, bb_b_e1, decide_eq_true_eq, decide_eq_false_iff_not, bn_01, bn_11, bb_b_01, ne_eq, Bool.not_eq_false, Bool.not_eq_true, Classical.not_not, bn_lt, bn_le, bn_ti, Int32.reduceToInt, bn_m20, bn_20m, nI_add, bn_p1, bn_s1, bn_in, bn_cl, implies_true, not_true_eq_false, not_false_eq_true, Bool.true_and, Bool.false_and, Bool.and_true, Bool.and_false, Bool.true_or, Bool.false_or, Bool.or_true, Bool.or_false, Bool.not_true, Bool.not_false, false_implies, true_implies, forall_const, Bool.false_eq_true, Bool.true_eq_false, reduceCtorEq, eq_self, Bool.and_eq_true, Bool.or_eq_true, Bool.and_eq_false_iff, Bool.or_eq_false_iff, and_false, false_and, or_false, false_or, Int.le_refl]
  | succ rem ih =>
    intro t z5 z6 M ht hI
    obtain ⟨x, hx, ex⟩ := ho t (by omega)
    have et : (o t).toInt.toNat = x := by rw [ex, bn_ti (by omega)]; rfl
    obtain ⟨g1, g2⟩ := br_rn_hi (lv := lv) hs hq2 ho2 t (by omega)
    obtain ⟨f1, f2, f3, f4⟩ := hq x hx
    obtain ⟨k1, k2⟩ := g2 x hx
    have st := br_step (lv := lv) hI (by rw [k1]; exact f1 : br_row (br_rn a o lv t).1 x < 4) (by omega) (fun j h1 h2 => g1 j (by omega)) _ rfl
    rw [k1, k2] at st
    obtain ⟨s1, s2, s3⟩ := st
    have er : br_rn a o lv (t + 1) = (br_tu (br_rn a o lv t).1 lv t x, (br_rn a o lv t).2 + (br_go (br_rn a o lv t).1 lv x).2.1 5) := by
      show (br_tu (br_rn a o lv t).1 lv t (o t).toInt.toNat, (br_rn a o lv t).2 + (br_go (br_rn a o lv t).1 lv (o t).toInt.toNat).2.1 5) = _
      rw [et]
    obtain ⟨M', i1, i2, i3⟩ := ih (t + 1) (bb_I (nI x)) (bb_I (nI (br_hi a x))) _ (by omega) (by rw [er]; exact s1)
    refine ⟨M', i1, bc_fr_tr s2 i2, fun R => ?_⟩
    rw [h_X6_runWaves_20, ← i3 R, er]
    obtain ⟨h1, h2, h3, h4, h5, h6, h7, h8, h9, h10, h11, h12⟩ := hI
    have a1 : M 19 0 t = nI x := by rw [h9 t (by omega), ex]
    have a2 : M 13 0 x = nI (br_hi a x) := by rw [(h7 x hx).2, f4]
    have a3 : M 12 0 x = nI (br_row a x) := by rw [(h7 x hx).1, f2]
    have a4 : M 14 0 0 = a 81 := h8 0 (by decide)
    have c1 : ¬ (s : Int) ≤ (t : Int) := by omega
    have f5 : (5 : Int32) = nI 5 := rfl
    have xf := fun (M' : bb_M) kk => x_X2_fact (d := d + 3) (j := 5) (M := M') (k := kk) (by decide)
    rw [← f5] at xf
    have a5 : br_tk (bw_M M 0 (br_row a x) (bw_run lv (decide ((a 81).toInt ≤ (br_hi a x : Int))) 20 (br_hi a x) ((fun c => M 10 0 (20 * br_row a x + c)), bw_F0 (br_row a x) (br_hi a x) (M 18 0 3) (M 18 0 4), 0, 0))) t 18 0 5 = (br_go (br_rn a o lv t).1 lv x).2.1 5 := by
      rw [← s3]
      unfold br_tk
      rw [bb_up_k (by decide), bb_up_k (by decide), bb_up_k (by decide), bb_up_k (by decide), bb_cp_k (by decide)]
      generalize bw_run lv (decide ((a 81).toInt ≤ (br_hi a x : Int))) 20 (br_hi a x) ((fun c => M 10 0 (20 * br_row a x + c)), bw_F0 (br_row a x) (br_hi a x) (M 18 0 3) (M 18 0 4), 0, 0) = S
      exact bw_r18 (by decide)
    simp (disch := omega) only [e_X6_runWaves_0, e_X6_runWaves_1, e_X6_runWaves_4, e_X6_runWaves_5, e_X6_runWaves_6, e_X6_runWaves_7, e_X6_runWaves_10, e_X6_runWaves_13, e_X6_runWaves_16, e_X6_runWaves_17, e_X6_runWaves_18, e_X6_runWaves_22, e_X6_runWaves_23, e_X6_runWaves_26, e_X6_runWaves_27, e_X6_runWaves_30, e_X6_runWaves_32, e_X6_runWaves_33, e_X6_runWaves_35, e_X6_runWaves_36, e_X6_runWaves_39, e_X6_runWaves_42, e_X6_runWaves_44, e_X6_runWaves_47, e_X6_runWaves_49, e_X6_runWaves_50, e_X6_runWaves_53, e_X6_runWaves_54, e_X6_runWaves_57, e_X6_runWaves_60, e_X6_runWaves_61, e_X6_runWaves_64, e_X6_runWaves_67, e_X6_runWaves_69, e_X6_runWaves_72, e_X6_runWaves_74, e_X6_runWaves_75, e_X6_runWaves_76, e_X6_runWaves_78, e_X6_runWaves_81, e_X6_runWaves_84, e_X6_runWaves_85, e_X6_runWaves_88, e_X6_runWaves_89, e_X6_runWaves_92, e_X6_runWaves_94, e_X6_runWaves_97, e_X6_runWaves_98, e_X6_runWaves_99, e_X6_runWaves_102, e_X6_runWaves_103, e_X6_runWaves_106, e_X6_runWaves_107, e_X6_runWaves_108, e_X6_runWaves_111, e_X6_runWaves_114, e_X6_runWaves_115, e_X6_runWaves_118, e_X6_runWaves_119, e_X6_runWaves_122, e_X6_runWaves_123, Option.toList_some, Option.toList_none, List.cons_append, List.nil_append, true_and, and_true, and_self, bb_ite, true_or, or_true, Option.some.injEq, bb_I_eq, bb_b_0e, bb_b_1e, bb_b_e0, bb_b_e1, decide_eq_true_eq, decide_eq_false_iff_not, bn_01, bn_11, bb_b_01, ne_eq, Bool.not_eq_false, Bool.not_eq_true, Classical.not_not, bn_lt, bn_le, bn_ti, Int32.reduceToInt, bn_m20, bn_20m, nI_add, bn_p1, bn_s1, bn_in, bn_cl, implies_true, not_true_eq_false, not_false_eq_true, Bool.true_and, Bool.false_and, Bool.and_true, Bool.and_false, Bool.true_or, Bool.false_or, Bool.or_true, Bool.or_false, Bool.not_true, Bool.not_false, false_implies, true_implies, forall_const, Bool.false_eq_true, Bool.true_eq_false, reduceCtorEq, eq_self, Bool.and_eq_true, Bool.or_eq_true, Bool.and_eq_false_iff, Bool.or_eq_false_iff, and_false, false_and, or_false, false_or, c1, a1, x_X1_heightOf, a2, x_X1_rowOf, a3, x_X6_goesSeaward, a4, x_X2_go, x_X4_takeOver, xf, a5]
