/-! A WAVE ON ITS WAY, as numbers: row, facts, units into the deep, to the dune -/
abbrev bw_S : Type := (Nat → Int32) × (Nat → Int32) × Int32 × Int32
def bw_min (a b : Int32) : Int32 := if a < b then a else b
theorem bw_min_c (a b : Int32) : (if b < a then b else a) = bw_min a b := by
  unfold bw_min
  by_cases h : a < b
  · have h2 : ¬ b < a := by
      rw [bn_lt] at h ⊢
      omega
    rw [if_pos h, if_neg h2]
  · rw [if_neg h]
    by_cases h2 : b < a
    · rw [if_pos h2]
    · rw [if_neg h2, bn_eq]
      rw [bn_lt] at h h2
      omega
theorem bw_min_t {a b : Int32} {h : Decidable (b.toInt < a.toInt)} : @ite Int32 (b.toInt < a.toInt) h b a = bw_min a b := by
  rw [← bw_min_c]
  by_cases q : b.toInt < a.toInt
  · rw [if_pos q, if_pos ((bn_lt b a).mpr q)]
  · rw [if_neg q, if_neg (fun z => q ((bn_lt b a).mp z))]
theorem bw_min_u {a b : Int32} {h : Decidable (a.toInt < b.toInt)} : @ite Int32 (a.toInt < b.toInt) h a b = bw_min a b := by
  unfold bw_min
  by_cases q : a.toInt < b.toInt
  · rw [if_pos q, if_pos ((bn_lt a b).mpr q)]
  · rw [if_neg q, if_neg (fun z => q ((bn_lt a b).mp z))]
/-- it breaks at the cell n, with the height w -/
def bw_F (F : Nat → Int32) (n : Nat) (t : Int32) : Nat → Int32 := upd (upd (if F 5 = 0 then upd F 2 (nI n) else F) 5 (F 5 + 1)) 6 (F 6 + t)
def bw_brk (sea : Bool) (n w : Nat) (s : bw_S) : bw_S :=
  let u := bw_min (nI (1 + w / 5)) (s.1 n)
  if sea = true then
    if n = 19 then (upd s.1 n (s.1 n - u), bw_F s.2.1 n u, s.2.2.1 + u, s.2.2.2)
    else (upd (upd s.1 (n + 1) (s.1 (n + 1) + bw_min u (99 - s.1 (n + 1)))) n (s.1 n - bw_min u (99 - s.1 (n + 1))), bw_F s.2.1 n (bw_min u (99 - s.1 (n + 1))), s.2.2.1, s.2.2.2)
  else
    if n = 0 then (upd s.1 n (s.1 n - u), bw_F s.2.1 n u, s.2.2.1, s.2.2.2 + u)
    else (upd (upd s.1 (n - 1) (s.1 (n - 1) + bw_min u (99 - s.1 (n - 1)))) n (s.1 n - bw_min u (99 - s.1 (n - 1))), bw_F s.2.1 n (bw_min u (99 - s.1 (n - 1))), s.2.2.1, s.2.2.2)
def bw_end (s : bw_S) (a b : Int32) : bw_S := (s.1, upd (upd s.2.1 3 a) 4 b, s.2.2.1, s.2.2.2)
/-- n cells are before it -/
def bw_run (lv : Int32) (sea : Bool) : Nat → Nat → bw_S → bw_S
  | 0, _, s => bw_end s (-1) 3
  | n + 1, w, s =>
    if (lv - s.1 n).toInt ≤ 0 then bw_end s (nI n) 1
    else if (lv - s.1 n).toInt < (w : Int) then
      if w / 2 = 0 then bw_end (bw_brk sea n w s) (nI n) 2 else bw_run lv sea n (w / 2) (bw_brk sea n w s)
    else bw_run lv sea n w s
theorem bw_min_b {a b : Int32} : (bw_min a b).toInt ≤ a.toInt ∧ (bw_min a b).toInt ≤ b.toInt ∧ (bw_min a b = a ∨ bw_min a b = b) := by
  unfold bw_min
  by_cases h : a < b
  · rw [if_pos h]
    rw [bn_lt] at h
    exact ⟨by omega, by omega, Or.inl rfl⟩
  · rw [if_neg h]
    rw [bn_lt] at h
    exact ⟨by omega, by omega, Or.inr rfl⟩
theorem bw_brk_b {sea : Bool} {n w : Nat} {s : bw_S} (hn : n < 20) (hw : w ≤ 20) (hb : bf_rb s.1) : bf_rb (bw_brk sea n w s).1 := by
  intro c hc
  have b0 := hb c hc
  have bn := hb n hn
  have hu : (nI (1 + w / 5)).toInt = ((1 + w / 5 : Nat) : Int) := bn_ti (by omega)
  obtain ⟨m1, m2, m3⟩ := bw_min_b (a := nI (1 + w / 5)) (b := s.1 n)
  have m4 : 0 ≤ (bw_min (nI (1 + w / 5)) (s.1 n)).toInt := by
    rcases m3 with e | e <;> rw [e] <;> omega
  unfold bw_brk
  generalize bw_min (nI (1 + w / 5)) (s.1 n) = u at m1 m2 m4
  clear m3
  dsimp only
  split
  · split
    · show 0 ≤ (upd s.1 n (s.1 n - u) c).toInt ∧ (upd s.1 n (s.1 n - u) c).toInt ≤ 99
      rw [bf_upd]
      split
      · rw [bn_subT (by omega) (by omega)]; omega
      · exact b0
    · have b1 := hb (n + 1) (by omega)
      have e99 : (99 - s.1 (n + 1)).toInt = 99 - (s.1 (n + 1)).toInt := by rw [bn_subT (by decide) (by omega)]; rfl
      obtain ⟨p1, p2, p3⟩ := bw_min_b (a := u) (b := 99 - s.1 (n + 1))
      have p4 : 0 ≤ (bw_min u (99 - s.1 (n + 1))).toInt := by
        rcases p3 with e | e <;> rw [e] <;> omega
      clear p3
      generalize bw_min u (99 - s.1 (n + 1)) = t at p1 p2 p4
      show 0 ≤ (upd (upd s.1 (n + 1) (s.1 (n + 1) + t)) n (s.1 n - t) c).toInt ∧ (upd (upd s.1 (n + 1) (s.1 (n + 1) + t)) n (s.1 n - t) c).toInt ≤ 99
      rw [bf_upd, bf_upd]
      split
      · rw [bn_subT (by omega) (by omega)]; omega
      · split
        · rw [bn_addT (by omega) (by omega)]; omega
        · exact b0
  · split
    · show 0 ≤ (upd s.1 n (s.1 n - u) c).toInt ∧ (upd s.1 n (s.1 n - u) c).toInt ≤ 99
      rw [bf_upd]
      split
      · rw [bn_subT (by omega) (by omega)]; omega
      · exact b0
    · have b1 := hb (n - 1) (by omega)
      have e99 : (99 - s.1 (n - 1)).toInt = 99 - (s.1 (n - 1)).toInt := by rw [bn_subT (by decide) (by omega)]; rfl
      obtain ⟨p1, p2, p3⟩ := bw_min_b (a := u) (b := 99 - s.1 (n - 1))
      have p4 : 0 ≤ (bw_min u (99 - s.1 (n - 1))).toInt := by
        rcases p3 with e | e <;> rw [e] <;> omega
      clear p3
      generalize bw_min u (99 - s.1 (n - 1)) = t at p1 p2 p4
      show 0 ≤ (upd (upd s.1 (n - 1) (s.1 (n - 1) + t)) n (s.1 n - t) c).toInt ∧ (upd (upd s.1 (n - 1) (s.1 (n - 1) + t)) n (s.1 n - t) c).toInt ≤ 99
      rw [bf_upd, bf_upd]
      split
      · rw [bn_subT (by omega) (by omega)]; omega
      · split
        · rw [bn_addT (by omega) (by omega)]; omega
        · exact b0
theorem bw_run_b {lv : Int32} {sea : Bool} : ∀ (n w : Nat) (s : bw_S), n ≤ 20 → w ≤ 20 → bf_rb s.1 → bf_rb (bw_run lv sea n w s).1
  | 0, _, s, _, _, h => h
  | n + 1, w, s, hn, hw, h => by
    unfold bw_run
    split
    · exact h
    · split
      · split
        · exact bw_brk_b (by omega) hw h
        · exact bw_run_b n (w / 2) _ (by omega) (by omega) (bw_brk_b (by omega) hw h)
      · exact bw_run_b n w s (by omega) hw h
/-! the class -/
def bw_M (M : bb_M) (i r : Nat) (s : bw_S) : bb_M := bb_wr (bb_wr (bb_up (bb_up M 2 0 1 s.2.2.1) 2 0 2 s.2.2.2) 18 0 0 7 s.2.1) 10 i (20 * r) 20 s.1
section BW
variable {M : bb_M} {i r c j : Nat} {g F : Nat → Int32} {p q v : Int32}
theorem bw_r10 (h : c < 20) : bw_M M i r (g, F, p, q) 10 i (20 * r + c) = g c := bb_wr_in h
theorem bw_r18 (h : j < 7) : bw_M M i r (g, F, p, q) 18 0 j = F j := by
  unfold bw_M
  rw [bb_wr_k (by decide)]
  have := bb_wr_in (M := bb_up (bb_up M 2 0 1 p) 2 0 2 q) (k := 18) (i := 0) (a := 0) (g := F) h
  rwa [Nat.zero_add] at this
theorem bw_r1 : bw_M M i r (g, F, p, q) 2 0 1 = p := by
  unfold bw_M
  rw [bb_wr_k (by decide), bb_wr_k (by decide), bb_up_j (by decide), bb_up_at]
theorem bw_r2 : bw_M M i r (g, F, p, q) 2 0 2 = q := by
  unfold bw_M
  rw [bb_wr_k (by decide), bb_wr_k (by decide), bb_up_at]
theorem bw_w10 (h : c < 20) : bb_up (bw_M M i r (g, F, p, q)) 10 i (20 * r + c) v = bw_M M i r (upd g c v, F, p, q) := bb_wr_up h
theorem bw_w18 (h : j < 7) : bb_up (bw_M M i r (g, F, p, q)) 18 0 j v = bw_M M i r (g, upd F j v, p, q) := by
  unfold bw_M
  funext k' i' x
  unfold bb_up bb_wr
  dsimp only
  by_cases h1 : k' = 18 ∧ i' = 0 ∧ x = j
  · obtain ⟨rfl, rfl, rfl⟩ := h1
    rw [if_pos ⟨rfl, rfl, rfl⟩, if_neg (fun z => by cases z.1), if_pos ⟨rfl, rfl, by omega, by omega⟩, bf_upd, if_pos (by omega)]
  · rw [if_neg h1]
    by_cases h2 : k' = 10 ∧ i' = i ∧ 20 * r ≤ x ∧ x < 20 * r + 20
    · rw [if_pos h2, if_pos h2]
    · rw [if_neg h2, if_neg h2]
      by_cases h3 : k' = 18 ∧ i' = 0 ∧ 0 ≤ x ∧ x < 0 + 7
      · rw [if_pos h3, if_pos h3, bf_upd, if_neg]
        intro z
        exact h1 ⟨h3.1, h3.2.1, by omega⟩
      · rw [if_neg h3, if_neg h3]
theorem bw_w1 : bb_up (bw_M M i r (g, F, p, q)) 2 0 1 v = bw_M M i r (g, F, v, q) := by
  unfold bw_M
  funext k' i' x
  unfold bb_up bb_wr
  dsimp only
  by_cases h1 : k' = 2
  · subst h1
    by_cases h2 : i' = 0 ∧ x = 1
    · obtain ⟨rfl, rfl⟩ := h2
      simp
    · simp [h2]
  · simp [h1]
theorem bw_w2 : bb_up (bw_M M i r (g, F, p, q)) 2 0 2 v = bw_M M i r (g, F, p, v) := by
  unfold bw_M
  funext k' i' x
  unfold bb_up bb_wr
  dsimp only
  by_cases h1 : k' = 2
  · subst h1
    by_cases h2 : i' = 0 ∧ x = 2
    · obtain ⟨rfl, rfl⟩ := h2
      simp
    · simp [h2]
  · simp [h1]
end BW
theorem x_X2_fact {d j : Nat} {M : bb_M} {k : Option bb_V → bb_M → Prop} (hj : j < 7) : bb_call (bb_CL (d + 1)) 37 [bb_R 2 0, bb_I (nI j)] M k ↔ k (some (bb_I (M 18 0 j))) M := by
  refine bb_cal (st_X2_fact ?_)
  simp (disch := omega) only [e_X2_fact_0, e_X2_fact_1, e_X2_fact_4, e_X2_fact_5, e_X2_fact_6, Option.toList_some, Option.toList_none, List.cons_append, List.nil_append, true_and, and_true, and_self, bb_ite, true_or, or_true, Option.some.injEq, bb_I_eq, bb_b_0e, bb_b_1e, bb_b_e0, bb_b_e1, decide_eq_true_eq, decide_eq_false_iff_not, bn_01, bn_11, bb_b_01, ne_eq, Bool.not_eq_false, Bool.not_eq_true, Classical.not_not, bn_in, bn_cl]
theorem bn_vl {x : Int32} {N : Nat} (h : 0 ≤ x.toInt ∧ x.toInt < (N : Int)) : vp_in x N ↔ True := iff_true_intro (vp_in_iff.mpr h)
theorem x_X2_end {d i r : Nat} {M : bb_M} {g F : Nat → Int32} {p q a b : Int32} {k : Option bb_V → bb_M → Prop} : bb_call (bb_CL (d + 1)) 40 [bb_R 2 0, bb_I a, bb_I b] (bw_M M i r (g, F, p, q)) k ↔ k none (bw_M M i r (bw_end (g, F, p, q) a b)) := by
  refine bb_cal (st_X2_end ?_)
  have e3 : (3 : Int32) = nI 3 := rfl
  have e4 : (4 : Int32) = nI 4 := rfl
  simp (disch := omega) only [e_X2_end_0, e_X2_end_1, e_X2_end_4, e_X2_end_5, e_X2_end_6, e_X2_end_7, e_X2_end_8, e_X2_end_11, e_X2_end_12, e_X2_end_13, e_X2_end_14, Option.toList_some, Option.toList_none, List.cons_append, List.nil_append, true_and, and_true, and_self, bb_ite, true_or, or_true, Option.some.injEq, bb_I_eq, bb_b_0e, bb_b_1e, bb_b_e0, bb_b_e1, decide_eq_true_eq, decide_eq_false_iff_not, bn_01, bn_11, bb_b_01, ne_eq, Bool.not_eq_false, Bool.not_eq_true, Classical.not_not, e3, e4, bn_in, bn_cl, bw_w18]
  rfl
theorem x_X2_give {d i r n : Nat} {M : bb_M} {g F : Nat → Int32} {p q u : Int32} {k : Option bb_V → bb_M → Prop} (hr : r < 4) (hF : F 0 = nI r) (hn : n < 20) : bb_call (bb_CL (d + 2)) 42 [bb_R 2 0, bb_R 3 i, bb_I (nI n), bb_I u] (bw_M M i r (g, F, p, q)) k ↔ k (some (bb_I (bw_min u (99 - g n)))) (bw_M M i r (upd g n (g n + bw_min u (99 - g n)), F, p, q)) := by
  refine bb_cal (st_X2_give ?_)
  have e0 : (0 : Int32) = nI 0 := rfl
  have h1 : (0 : Int) ≤ (n : Int) := by omega
  have h2 : (n : Int) < 20 := by omega
  simp (disch := omega) only [e_X2_give_0, e_X2_give_1, e_X2_give_4, e_X2_give_5, e_X2_give_6, e_X2_give_9, e_X2_give_10, e_X2_give_11, e_X2_give_14, e_X2_give_15, e_X2_give_16, e_X2_give_17, e_X2_give_19, e_X2_give_22, e_X2_give_23, e_X2_give_24, e_X2_give_27, e_X2_give_28, e_X2_give_29, e_X2_give_32, e_X2_give_33, e_X2_give_34, e_X2_give_35, e_X2_give_38, e_X2_give_39, e_X2_give_40, e_X2_give_42, e_X2_give_43, e_X2_give_45, e_X2_give_46, e_X2_give_48, e_X2_give_49, e_X2_give_52, e_X2_give_53, e_X2_give_56, e_X2_give_58, e_X2_give_59, e_X2_give_61, e_X2_give_62, e_X2_give_64, e_X2_give_67, e_X2_give_69, Option.toList_some, Option.toList_none, List.cons_append, List.nil_append, true_and, and_true, and_self, bb_ite, true_or, or_true, Option.some.injEq, bb_I_eq, bb_b_0e, bb_b_1e, bb_b_e0, bb_b_e1, decide_eq_true_eq, decide_eq_false_iff_not, bn_01, bn_11, bb_b_01, ne_eq, Bool.not_eq_false, Bool.not_eq_true, Classical.not_not, bn_lt, bn_le, bn_ti, Int32.reduceToInt, bn_m20, bn_20m, nI_add, bn_p1, bn_s1, bn_in, bn_cl, implies_true, not_true_eq_false, not_false_eq_true, Bool.true_and, Bool.false_and, Bool.and_true, Bool.and_false, Bool.true_or, Bool.false_or, Bool.or_true, Bool.or_false, Bool.not_true, Bool.not_false, false_implies, true_implies, forall_const, Bool.false_eq_true, Bool.true_eq_false, reduceCtorEq, eq_self, Bool.and_eq_true, Bool.or_eq_true, Bool.and_eq_false_iff, Bool.or_eq_false_iff, and_false, false_and, or_false, false_or, x_X3_heightAt, x_X3_addTo, bw_r10, bw_w10, bw_r18, h1, h2, bw_min_t]
  have e1 : vp_in 0 7 := vp_in_nI (n := 0) (by omega) (by omega)
  have e2 : (0 : Int32).toNatClampNeg = 0 := rfl
  simp (disch := omega) only [e_X2_give_0, e_X2_give_1, e_X2_give_4, e_X2_give_5, e_X2_give_6, e_X2_give_9, e_X2_give_10, e_X2_give_11, e_X2_give_14, e_X2_give_15, e_X2_give_16, e_X2_give_17, e_X2_give_19, e_X2_give_22, e_X2_give_23, e_X2_give_24, e_X2_give_27, e_X2_give_28, e_X2_give_29, e_X2_give_32, e_X2_give_33, e_X2_give_34, e_X2_give_35, e_X2_give_38, e_X2_give_39, e_X2_give_40, e_X2_give_42, e_X2_give_43, e_X2_give_45, e_X2_give_46, e_X2_give_48, e_X2_give_49, e_X2_give_52, e_X2_give_53, e_X2_give_56, e_X2_give_58, e_X2_give_59, e_X2_give_61, e_X2_give_62, e_X2_give_64, e_X2_give_67, e_X2_give_69, e1, e2, bw_r18, hF, x_X3_heightAt, x_X3_addTo, bw_r10, bw_w10, Option.toList_some, Option.toList_none, List.cons_append, List.nil_append, true_and, and_true, and_self, bb_ite, true_or, or_true, Option.some.injEq, bb_I_eq, bb_b_0e, bb_b_1e, bb_b_e0, bb_b_e1, decide_eq_true_eq, decide_eq_false_iff_not, bn_01, bn_11, bb_b_01, ne_eq, Bool.not_eq_false, Bool.not_eq_true, Classical.not_not, bn_lt, bn_le, bn_ti, Int32.reduceToInt, bn_m20, bn_20m, nI_add, bn_p1, bn_s1, bn_in, bn_cl, implies_true, not_true_eq_false, not_false_eq_true, Bool.true_and, Bool.false_and, Bool.and_true, Bool.and_false, Bool.true_or, Bool.false_or, Bool.or_true, Bool.or_false, Bool.not_true, Bool.not_false, false_implies, true_implies, forall_const, Bool.false_eq_true, Bool.true_eq_false, reduceCtorEq, eq_self, Bool.and_eq_true, Bool.or_eq_true, Bool.and_eq_false_iff, Bool.or_eq_false_iff, and_false, false_and, or_false, false_or, bw_min_t]
theorem x_X2_give0 {d i r : Nat} {M : bb_M} {g F : Nat → Int32} {p q u : Int32} {k : Option bb_V → bb_M → Prop} : bb_call (bb_CL (d + 1)) 42 [bb_R 2 0, bb_R 3 i, bb_I (-1), bb_I u] (bw_M M i r (g, F, p, q)) k ↔ k (some (bb_I u)) (bw_M M i r (g, F, p, q + u)) := by
  refine bb_cal (st_X2_give ?_)
  have h1 : ¬ (0 : Int32) ≤ (-1) := by decide
  simp (disch := omega) only [e_X2_give_0, e_X2_give_1, e_X2_give_4, e_X2_give_5, e_X2_give_6, e_X2_give_9, e_X2_give_10, e_X2_give_11, e_X2_give_14, e_X2_give_15, e_X2_give_16, e_X2_give_17, e_X2_give_19, e_X2_give_22, e_X2_give_23, e_X2_give_24, e_X2_give_27, e_X2_give_28, e_X2_give_29, e_X2_give_32, e_X2_give_33, e_X2_give_34, e_X2_give_35, e_X2_give_38, e_X2_give_39, e_X2_give_40, e_X2_give_42, e_X2_give_43, e_X2_give_45, e_X2_give_46, e_X2_give_48, e_X2_give_49, e_X2_give_52, e_X2_give_53, e_X2_give_56, e_X2_give_58, e_X2_give_59, e_X2_give_61, e_X2_give_62, e_X2_give_64, e_X2_give_67, e_X2_give_69, Option.toList_some, Option.toList_none, List.cons_append, List.nil_append, true_and, and_true, and_self, bb_ite, true_or, or_true, Option.some.injEq, bb_I_eq, bb_b_0e, bb_b_1e, bb_b_e0, bb_b_e1, decide_eq_true_eq, decide_eq_false_iff_not, bn_01, bn_11, bb_b_01, ne_eq, Bool.not_eq_false, Bool.not_eq_true, Classical.not_not, bw_r2, bw_w2, h1, false_implies, true_implies, not_false_eq_true]
theorem x_X2_give20 {d i r : Nat} {M : bb_M} {g F : Nat → Int32} {p q u : Int32} {k : Option bb_V → bb_M → Prop} : bb_call (bb_CL (d + 1)) 42 [bb_R 2 0, bb_R 3 i, bb_I (nI 20), bb_I u] (bw_M M i r (g, F, p, q)) k ↔ k (some (bb_I u)) (bw_M M i r (g, F, p + u, q)) := by
  refine bb_cal (st_X2_give ?_)
  have h1 : (0 : Int32) ≤ nI 20 := by decide
  have h2 : ¬ nI 20 < 20 := by decide
  simp (disch := omega) only [e_X2_give_0, e_X2_give_1, e_X2_give_4, e_X2_give_5, e_X2_give_6, e_X2_give_9, e_X2_give_10, e_X2_give_11, e_X2_give_14, e_X2_give_15, e_X2_give_16, e_X2_give_17, e_X2_give_19, e_X2_give_22, e_X2_give_23, e_X2_give_24, e_X2_give_27, e_X2_give_28, e_X2_give_29, e_X2_give_32, e_X2_give_33, e_X2_give_34, e_X2_give_35, e_X2_give_38, e_X2_give_39, e_X2_give_40, e_X2_give_42, e_X2_give_43, e_X2_give_45, e_X2_give_46, e_X2_give_48, e_X2_give_49, e_X2_give_52, e_X2_give_53, e_X2_give_56, e_X2_give_58, e_X2_give_59, e_X2_give_61, e_X2_give_62, e_X2_give_64, e_X2_give_67, e_X2_give_69, Option.toList_some, Option.toList_none, List.cons_append, List.nil_append, true_and, and_true, and_self, bb_ite, true_or, or_true, Option.some.injEq, bb_I_eq, bb_b_0e, bb_b_1e, bb_b_e0, bb_b_e1, decide_eq_true_eq, decide_eq_false_iff_not, bn_01, bn_11, bb_b_01, ne_eq, Bool.not_eq_false, Bool.not_eq_true, Classical.not_not, bw_r1, bw_w1, h1, h2, false_implies, true_implies, not_false_eq_true]
  simp only [h1, not_true_eq_false, false_implies, and_true]
theorem bn_neg (x t : Int32) : x + -t = x - t := (Int32.sub_eq_add_neg x t).symm
theorem bw_upd_c {f : Nat → Int32} {a b : Nat} {x : Int32} (h : b ≠ a) : upd f a x b = f b := by rw [bf_upd, if_neg h]
theorem x_X2_breakAt {d i r n w : Nat} {sea : Bool} {M : bb_M} {g F : Nat → Int32} {p q : Int32} {k : Option bb_V → bb_M → Prop} (hr : r < 4) (hF : F 0 = nI r) (hn : n < 20) (hw : w ≤ 20) : bb_call (bb_CL (d + 3)) 41 [bb_R 2 0, bb_R 3 i, bb_I (nI n), bb_I (nI w), bb_I (bb_b sea)] (bw_M M i r (g, F, p, q)) k ↔ k none (bw_M M i r (bw_brk sea n w (g, F, p, q))) := by
  refine bb_cal (st_X2_breakAt ?_)
  have v5 : vp_in 5 7 := vp_in_nI (n := 5) (by omega) (by omega)
  have v2 : vp_in 2 7 := vp_in_nI (n := 2) (by omega) (by omega)
  have v0 : vp_in 0 7 := vp_in_nI (n := 0) (by omega) (by omega)
  have v6 : vp_in 6 7 := vp_in_nI (n := 6) (by omega) (by omega)
  have ed : nI w / 5 = nI (w / 5) := pk_div (a := w) (d := 5) (by omega) (by omega) (by omega)
  have e1 : (1 : Int32) + nI (w / 5) = nI (1 + w / 5) := by rw [bn_1, nI_add]
  have h5 : ((5 : Int32) = 0) = False := by decide
  have hF5 : (F 5 = 0) ↔ (F 5).toInt = 0 := by rw [bn_eq]; rfl
  have fin : ∀ (F' : Nat → Int32) (hF' : F' = (if F 5 = 0 then upd F 2 (nI n) else F)), bb_Y (bb_CL (d + 2)) cd_X2_breakAt (fun r' M' => r' = none ∧ M' = bw_M M i r (bw_brk sea n w (g, F, p, q))) 16 [bb_R 2 0, bb_R 3 i, bb_I (nI n), bb_I (nI w), bb_I (bb_b sea), bb_U, bb_U, bb_U] [] (bw_M M i r (g, F', p, q)) := by
    intro F' hF'
    have f0 : F' 0 = nI r := by
      rw [hF']
      split
      · rw [bw_upd_c (by decide), hF]
      · exact hF
    have f5 : F' 5 = F 5 := by
      rw [hF']
      split
      · rw [bw_upd_c (by decide)]
      · rfl
    have f6 : F' 6 = F 6 := by
      rw [hF']
      split
      · rw [bw_upd_c (by decide)]
      · rfl
    have u0 : ∀ x, upd F' 5 x 0 = nI r := fun x => by rw [bw_upd_c (by decide), f0]
    have u6 : ∀ x, upd F' 5 x 6 = F 6 := fun x => by rw [bw_upd_c (by decide), f6]
    simp (disch := omega) only [e_X2_breakAt_0, e_X2_breakAt_1, e_X2_breakAt_4, e_X2_breakAt_5, e_X2_breakAt_6, e_X2_breakAt_9, e_X2_breakAt_10, e_X2_breakAt_13, e_X2_breakAt_14, e_X2_breakAt_15, e_X2_breakAt_16, e_X2_breakAt_17, e_X2_breakAt_20, e_X2_breakAt_21, e_X2_breakAt_22, e_X2_breakAt_23, e_X2_breakAt_24, e_X2_breakAt_25, e_X2_breakAt_26, e_X2_breakAt_27, e_X2_breakAt_30, e_X2_breakAt_31, e_X2_breakAt_32, e_X2_breakAt_34, e_X2_breakAt_35, e_X2_breakAt_36, e_X2_breakAt_37, e_X2_breakAt_38, e_X2_breakAt_39, e_X2_breakAt_40, e_X2_breakAt_42, e_X2_breakAt_43, e_X2_breakAt_46, e_X2_breakAt_49, e_X2_breakAt_51, e_X2_breakAt_52, e_X2_breakAt_53, e_X2_breakAt_55, e_X2_breakAt_58, e_X2_breakAt_59, e_X2_breakAt_60, e_X2_breakAt_61, e_X2_breakAt_64, e_X2_breakAt_65, e_X2_breakAt_66, e_X2_breakAt_67, e_X2_breakAt_69, e_X2_breakAt_72, e_X2_breakAt_74, e_X2_breakAt_75, e_X2_breakAt_77, e_X2_breakAt_78, e_X2_breakAt_80, e_X2_breakAt_81, e_X2_breakAt_84, e_X2_breakAt_85, e_X2_breakAt_88, e_X2_breakAt_90, e_X2_breakAt_91, e_X2_breakAt_92, e_X2_breakAt_94, e_X2_breakAt_95, e_X2_breakAt_96, Option.toList_some, Option.toList_none, List.cons_append, List.nil_append, true_and, and_true, and_self, bb_ite, true_or, or_true, Option.some.injEq, bb_I_eq, bb_b_0e, bb_b_1e, bb_b_e0, bb_b_e1, decide_eq_true_eq, decide_eq_false_iff_not, bn_01, bn_11, bb_b_01, ne_eq, Bool.not_eq_false, Bool.not_eq_true, Classical.not_not, Int32.reduceToNatClampNeg, v5, v0, bw_r18, bw_w18, f5, u0, ed, e1, h5, x_X3_heightAt, bw_r10, bw_min_c, not_false_eq_true]
    cases sea
    · by_cases hz : n = 0
      · subst hz
        have em : nI 0 - 1 = -1 := by decide
        simp (disch := omega) only [Option.toList_some, Option.toList_none, List.cons_append, List.nil_append, true_and, and_true, and_self, bb_ite, true_or, or_true, Option.some.injEq, bb_I_eq, bb_b_0e, bb_b_1e, bb_b_e0, bb_b_e1, decide_eq_true_eq, decide_eq_false_iff_not, bn_01, bn_11, bb_b_01, ne_eq, Bool.not_eq_false, Bool.not_eq_true, Classical.not_not, true_implies, not_true_eq_false, false_implies, em, x_X2_give0, Bool.false_eq_true, e_X2_breakAt_0, e_X2_breakAt_1, e_X2_breakAt_4, e_X2_breakAt_5, e_X2_breakAt_6, e_X2_breakAt_9, e_X2_breakAt_10, e_X2_breakAt_13, e_X2_breakAt_14, e_X2_breakAt_15, e_X2_breakAt_16, e_X2_breakAt_17, e_X2_breakAt_20, e_X2_breakAt_21, e_X2_breakAt_22, e_X2_breakAt_23, e_X2_breakAt_24, e_X2_breakAt_25, e_X2_breakAt_26, e_X2_breakAt_27, e_X2_breakAt_30, e_X2_breakAt_31, e_X2_breakAt_32, e_X2_breakAt_34, e_X2_breakAt_35, e_X2_breakAt_36, e_X2_breakAt_37, e_X2_breakAt_38, e_X2_breakAt_39, e_X2_breakAt_40, e_X2_breakAt_42, e_X2_breakAt_43, e_X2_breakAt_46, e_X2_breakAt_49, e_X2_breakAt_51, e_X2_breakAt_52, e_X2_breakAt_53, e_X2_breakAt_55, e_X2_breakAt_58, e_X2_breakAt_59, e_X2_breakAt_60, e_X2_breakAt_61, e_X2_breakAt_64, e_X2_breakAt_65, e_X2_breakAt_66, e_X2_breakAt_67, e_X2_breakAt_69, e_X2_breakAt_72, e_X2_breakAt_74, e_X2_breakAt_75, e_X2_breakAt_77, e_X2_breakAt_78, e_X2_breakAt_80, e_X2_breakAt_81, e_X2_breakAt_84, e_X2_breakAt_85, e_X2_breakAt_88, e_X2_breakAt_90, e_X2_breakAt_91, e_X2_breakAt_92, e_X2_breakAt_94, e_X2_breakAt_95, e_X2_breakAt_96, x_X3_addTo, bw_r10, bw_w10, bn_neg, Int32.reduceToNatClampNeg, v6, bw_r18, bw_w18, u6]
        unfold bw_brk bw_F
        rw [if_neg (by decide), if_pos rfl, ← hF']
      · have em : nI n - 1 = nI (n - 1) := bn_s1 (by omega)
        simp (disch := omega) only [Option.toList_some, Option.toList_none, List.cons_append, List.nil_append, true_and, and_true, and_self, bb_ite, true_or, or_true, Option.some.injEq, bb_I_eq, bb_b_0e, bb_b_1e, bb_b_e0, bb_b_e1, decide_eq_true_eq, decide_eq_false_iff_not, bn_01, bn_11, bb_b_01, ne_eq, Bool.not_eq_false, Bool.not_eq_true, Classical.not_not, true_implies, not_true_eq_false, false_implies, em, x_X2_give (F := upd F' 5 (F 5 + 1)) hr (u0 _), Bool.false_eq_true, e_X2_breakAt_0, e_X2_breakAt_1, e_X2_breakAt_4, e_X2_breakAt_5, e_X2_breakAt_6, e_X2_breakAt_9, e_X2_breakAt_10, e_X2_breakAt_13, e_X2_breakAt_14, e_X2_breakAt_15, e_X2_breakAt_16, e_X2_breakAt_17, e_X2_breakAt_20, e_X2_breakAt_21, e_X2_breakAt_22, e_X2_breakAt_23, e_X2_breakAt_24, e_X2_breakAt_25, e_X2_breakAt_26, e_X2_breakAt_27, e_X2_breakAt_30, e_X2_breakAt_31, e_X2_breakAt_32, e_X2_breakAt_34, e_X2_breakAt_35, e_X2_breakAt_36, e_X2_breakAt_37, e_X2_breakAt_38, e_X2_breakAt_39, e_X2_breakAt_40, e_X2_breakAt_42, e_X2_breakAt_43, e_X2_breakAt_46, e_X2_breakAt_49, e_X2_breakAt_51, e_X2_breakAt_52, e_X2_breakAt_53, e_X2_breakAt_55, e_X2_breakAt_58, e_X2_breakAt_59, e_X2_breakAt_60, e_X2_breakAt_61, e_X2_breakAt_64, e_X2_breakAt_65, e_X2_breakAt_66, e_X2_breakAt_67, e_X2_breakAt_69, e_X2_breakAt_72, e_X2_breakAt_74, e_X2_breakAt_75, e_X2_breakAt_77, e_X2_breakAt_78, e_X2_breakAt_80, e_X2_breakAt_81, e_X2_breakAt_84, e_X2_breakAt_85, e_X2_breakAt_88, e_X2_breakAt_90, e_X2_breakAt_91, e_X2_breakAt_92, e_X2_breakAt_94, e_X2_breakAt_95, e_X2_breakAt_96, x_X3_addTo, bw_r10, bw_w10, bn_neg, Int32.reduceToNatClampNeg, v6, bw_r18, bw_w18, u6]
        unfold bw_brk bw_F
        rw [if_neg (by decide), if_neg hz, ← hF', bw_upd_c (by omega : n ≠ n - 1)]
    · by_cases hz : n = 19
      · subst hz
        have em : nI 19 + 1 = nI 20 := by decide
        simp (disch := omega) only [Option.toList_some, Option.toList_none, List.cons_append, List.nil_append, true_and, and_true, and_self, bb_ite, true_or, or_true, Option.some.injEq, bb_I_eq, bb_b_0e, bb_b_1e, bb_b_e0, bb_b_e1, decide_eq_true_eq, decide_eq_false_iff_not, bn_01, bn_11, bb_b_01, ne_eq, Bool.not_eq_false, Bool.not_eq_true, Classical.not_not, true_implies, not_true_eq_false, false_implies, em, x_X2_give20, Bool.true_eq_false, not_false_eq_true, e_X2_breakAt_0, e_X2_breakAt_1, e_X2_breakAt_4, e_X2_breakAt_5, e_X2_breakAt_6, e_X2_breakAt_9, e_X2_breakAt_10, e_X2_breakAt_13, e_X2_breakAt_14, e_X2_breakAt_15, e_X2_breakAt_16, e_X2_breakAt_17, e_X2_breakAt_20, e_X2_breakAt_21, e_X2_breakAt_22, e_X2_breakAt_23, e_X2_breakAt_24, e_X2_breakAt_25, e_X2_breakAt_26, e_X2_breakAt_27, e_X2_breakAt_30, e_X2_breakAt_31, e_X2_breakAt_32, e_X2_breakAt_34, e_X2_breakAt_35, e_X2_breakAt_36, e_X2_breakAt_37, e_X2_breakAt_38, e_X2_breakAt_39, e_X2_breakAt_40, e_X2_breakAt_42, e_X2_breakAt_43, e_X2_breakAt_46, e_X2_breakAt_49, e_X2_breakAt_51, e_X2_breakAt_52, e_X2_breakAt_53, e_X2_breakAt_55, e_X2_breakAt_58, e_X2_breakAt_59, e_X2_breakAt_60, e_X2_breakAt_61, e_X2_breakAt_64, e_X2_breakAt_65, e_X2_breakAt_66, e_X2_breakAt_67, e_X2_breakAt_69, e_X2_breakAt_72, e_X2_breakAt_74, e_X2_breakAt_75, e_X2_breakAt_77, e_X2_breakAt_78, e_X2_breakAt_80, e_X2_breakAt_81, e_X2_breakAt_84, e_X2_breakAt_85, e_X2_breakAt_88, e_X2_breakAt_90, e_X2_breakAt_91, e_X2_breakAt_92, e_X2_breakAt_94, e_X2_breakAt_95, e_X2_breakAt_96, x_X3_addTo, bw_r10, bw_w10, bn_neg, Int32.reduceToNatClampNeg, v6, bw_r18, bw_w18, u6]
        unfold bw_brk bw_F
        rw [if_pos rfl, if_pos rfl, ← hF']
      · simp (disch := omega) only [Option.toList_some, Option.toList_none, List.cons_append, List.nil_append, true_and, and_true, and_self, bb_ite, true_or, or_true, Option.some.injEq, bb_I_eq, bb_b_0e, bb_b_1e, bb_b_e0, bb_b_e1, decide_eq_true_eq, decide_eq_false_iff_not, bn_01, bn_11, bb_b_01, ne_eq, Bool.not_eq_false, Bool.not_eq_true, Classical.not_not, true_implies, not_true_eq_false, false_implies, bn_p1, x_X2_give (F := upd F' 5 (F 5 + 1)) hr (u0 _), Bool.true_eq_false, not_false_eq_true, e_X2_breakAt_0, e_X2_breakAt_1, e_X2_breakAt_4, e_X2_breakAt_5, e_X2_breakAt_6, e_X2_breakAt_9, e_X2_breakAt_10, e_X2_breakAt_13, e_X2_breakAt_14, e_X2_breakAt_15, e_X2_breakAt_16, e_X2_breakAt_17, e_X2_breakAt_20, e_X2_breakAt_21, e_X2_breakAt_22, e_X2_breakAt_23, e_X2_breakAt_24, e_X2_breakAt_25, e_X2_breakAt_26, e_X2_breakAt_27, e_X2_breakAt_30, e_X2_breakAt_31, e_X2_breakAt_32, e_X2_breakAt_34, e_X2_breakAt_35, e_X2_breakAt_36, e_X2_breakAt_37, e_X2_breakAt_38, e_X2_breakAt_39, e_X2_breakAt_40, e_X2_breakAt_42, e_X2_breakAt_43, e_X2_breakAt_46, e_X2_breakAt_49, e_X2_breakAt_51, e_X2_breakAt_52, e_X2_breakAt_53, e_X2_breakAt_55, e_X2_breakAt_58, e_X2_breakAt_59, e_X2_breakAt_60, e_X2_breakAt_61, e_X2_breakAt_64, e_X2_breakAt_65, e_X2_breakAt_66, e_X2_breakAt_67, e_X2_breakAt_69, e_X2_breakAt_72, e_X2_breakAt_74, e_X2_breakAt_75, e_X2_breakAt_77, e_X2_breakAt_78, e_X2_breakAt_80, e_X2_breakAt_81, e_X2_breakAt_84, e_X2_breakAt_85, e_X2_breakAt_88, e_X2_breakAt_90, e_X2_breakAt_91, e_X2_breakAt_92, e_X2_breakAt_94, e_X2_breakAt_95, e_X2_breakAt_96, x_X3_addTo, bw_r10, bw_w10, bn_neg, Int32.reduceToNatClampNeg, v6, bw_r18, bw_w18, u6]
        unfold bw_brk bw_F
        rw [if_pos rfl, if_neg hz, ← hF', bw_upd_c (by omega : n ≠ n + 1)]
  by_cases q5 : F 5 = 0
  · have := fin (upd F 2 (nI n)) (by rw [if_pos q5])
    simp (disch := omega) only [e_X2_breakAt_0, e_X2_breakAt_1, e_X2_breakAt_4, e_X2_breakAt_5, e_X2_breakAt_6, e_X2_breakAt_9, e_X2_breakAt_10, e_X2_breakAt_13, e_X2_breakAt_14, e_X2_breakAt_15, Option.toList_some, Option.toList_none, List.cons_append, List.nil_append, true_and, and_true, and_self, bb_ite, true_or, or_true, Option.some.injEq, bb_I_eq, bb_b_0e, bb_b_1e, bb_b_e0, bb_b_e1, decide_eq_true_eq, decide_eq_false_iff_not, bn_01, bn_11, bb_b_01, ne_eq, Bool.not_eq_false, Bool.not_eq_true, Classical.not_not, v5, v2, Int32.reduceToNatClampNeg, bw_r18, bw_w18, q5, not_true_eq_false, false_implies, true_implies, not_false_eq_true]
    exact this
  · have := fin F (by rw [if_neg q5])
    simp (disch := omega) only [e_X2_breakAt_0, e_X2_breakAt_1, e_X2_breakAt_4, e_X2_breakAt_5, e_X2_breakAt_6, Option.toList_some, Option.toList_none, List.cons_append, List.nil_append, true_and, and_true, and_self, bb_ite, true_or, or_true, Option.some.injEq, bb_I_eq, bb_b_0e, bb_b_1e, bb_b_e0, bb_b_e1, decide_eq_true_eq, decide_eq_false_iff_not, bn_01, bn_11, bb_b_01, ne_eq, Bool.not_eq_false, Bool.not_eq_true, Classical.not_not, v5, v2, Int32.reduceToNatClampNeg, bw_r18, bw_w18, q5, not_true_eq_false, false_implies, true_implies, not_false_eq_true]
    exact this
theorem x_X2_begin {d i r : Nat} {a b : Int32} {M : bb_M} {k : Option bb_V → bb_M → Prop} : bb_call (bb_CL (d + 1)) 39 [bb_R 2 0, bb_I a, bb_I b] M k ↔ k none (bw_M M i r ((fun c => M 10 i (20 * r + c)), upd (upd (upd (upd (upd (fun j => M 18 0 j) 0 a) 1 b) 2 (-1005)) 5 0) 6 0, 0, 0)) := by
  refine bb_cal (st_X2_begin ?_)
  have v5 : vp_in 5 7 := vp_in_nI (n := 5) (by omega) (by omega)
  have v2 : vp_in 2 7 := vp_in_nI (n := 2) (by omega) (by omega)
  have v0 : vp_in 0 7 := vp_in_nI (n := 0) (by omega) (by omega)
  have v1 : vp_in 1 7 := vp_in_nI (n := 1) (by omega) (by omega)
  have v6 : vp_in 6 7 := vp_in_nI (n := 6) (by omega) (by omega)
  have hM : M = bw_M M i r ((fun c => M 10 i (20 * r + c)), (fun j => M 18 0 j), M 2 0 1, M 2 0 2) := by
    unfold bw_M
    have e : bb_up (bb_up M 2 0 1 (M 2 0 1)) 2 0 2 (M 2 0 2) = M := by
      funext k' i' x
      unfold bb_up
      split
      · rename_i h
        rw [h.1, h.2.1, h.2.2]
      · split
        · rename_i h
          rw [h.1, h.2.1, h.2.2]
        · rfl
    dsimp only
    rw [e, bb_wr_same (M := M) (k := 18) (fun c _ => by rw [Nat.zero_add]), bb_wr_same (fun c _ => rfl)]
  generalize hg : (fun c => M 10 i (20 * r + c)) = g at hM
  generalize hf : (fun j => M 18 0 j) = F at hM
  generalize M 2 0 1 = p at hM
  generalize M 2 0 2 = q at hM
  have goal2 : bb_Y (bb_CL d) cd_X2_begin (fun r' M' => r' = none ∧ M' = bw_M M i r (g, upd (upd (upd (upd (upd F 0 a) 1 b) 2 (-1005)) 5 0) 6 0, 0, 0)) 0 [bb_R 2 0, bb_I a, bb_I b] [] (bw_M M i r (g, F, p, q)) := by
    simp (disch := omega) only [e_X2_begin_0, e_X2_begin_1, e_X2_begin_4, e_X2_begin_5, e_X2_begin_6, e_X2_begin_7, e_X2_begin_8, e_X2_begin_11, e_X2_begin_12, e_X2_begin_13, e_X2_begin_14, e_X2_begin_15, e_X2_begin_18, e_X2_begin_19, e_X2_begin_22, e_X2_begin_23, e_X2_begin_24, e_X2_begin_27, e_X2_begin_28, e_X2_begin_29, e_X2_begin_30, e_X2_begin_31, e_X2_begin_34, e_X2_begin_36, e_X2_begin_37, e_X2_begin_38, e_X2_begin_39, e_X2_begin_40, e_X2_begin_43, e_X2_begin_44, e_X2_begin_45, e_X2_begin_48, Option.toList_some, Option.toList_none, List.cons_append, List.nil_append, true_and, and_true, and_self, bb_ite, true_or, or_true, Option.some.injEq, bb_I_eq, bb_b_0e, bb_b_1e, bb_b_e0, bb_b_e1, decide_eq_true_eq, decide_eq_false_iff_not, bn_01, bn_11, bb_b_01, ne_eq, Bool.not_eq_false, Bool.not_eq_true, Classical.not_not, v0, v1, v2, v5, v6, Int32.reduceToNatClampNeg, bw_w18, bw_w1, bw_w2]
  rw [← hM] at goal2
  exact goal2
theorem bw_M_cong {M : bb_M} {i r : Nat} {g g' F F' : Nat → Int32} {p q : Int32} (hg : ∀ c, c < 20 → g c = g' c) (hF : ∀ j, j < 7 → F j = F' j) : bw_M M i r (g, F, p, q) = bw_M M i r (g', F', p, q) := by
  unfold bw_M
  dsimp only
  rw [bb_wr_cong (k := 18) hF, bb_wr_cong hg]
theorem bw_brk_F0 {sea : Bool} {n w : Nat} {s : bw_S} : (bw_brk sea n w s).2.1 0 = s.2.1 0 := by
  have : ∀ (F : Nat → Int32) t, bw_F F n t 0 = F 0 := by
    intro F t
    unfold bw_F
    rw [bw_upd_c (by decide), bw_upd_c (by decide)]
    split
    · rw [bw_upd_c (by decide)]
    · rfl
  unfold bw_brk
  dsimp only
  split
  · split <;> simp only [this]
  · split <;> simp only [this]
theorem l_X2_go {d i r : Nat} {w0 : bb_V} {lv : Int32} {sea : Bool} {M : bb_M} {R : bb_P} (hr : r < 4) : ∀ (n w : Nat) (s : bw_S) (z : bb_V), n ≤ 20 → w ≤ 20 → s.2.1 0 = nI r → (bb_Y (bb_CL (d + 3)) cd_X2_go R 13 [bb_R 2 0, bb_R 3 i, bb_I (nI r), w0, bb_I lv, bb_I (bb_b sea), bb_I (nI w), bb_I (nI n + (-1)), z] [] (bw_M M i r s) ↔ R none (bw_M M i r (bw_run lv sea n w s))) := by
  intro n
  induction n with
  | zero =>
    intro w s z hn hw hs
    obtain ⟨g, F, p, q⟩ := s
    rw [h_X2_go_13]
    have h1 : (nI 0 + (-1)).toInt < 0 := by decide
    simp (disch := omega) only [e_X2_go_0, e_X2_go_1, e_X2_go_2, e_X2_go_3, e_X2_go_6, e_X2_go_7, e_X2_go_9, e_X2_go_11, e_X2_go_15, e_X2_go_18, e_X2_go_20, e_X2_go_21, e_X2_go_22, e_X2_go_24, e_X2_go_27, e_X2_go_28, e_X2_go_30, e_X2_go_32, e_X2_go_35, e_X2_go_36, e_X2_go_38, e_X2_go_39, e_X2_go_42, e_X2_go_43, e_X2_go_45, e_X2_go_47, e_X2_go_50, e_X2_go_51, e_X2_go_52, e_X2_go_54, e_X2_go_56, e_X2_go_58, e_X2_go_61, e_X2_go_63, e_X2_go_64, e_X2_go_65, e_X2_go_67, e_X2_go_69, e_X2_go_72, e_X2_go_73, e_X2_go_75, e_X2_go_76, e_X2_go_79, e_X2_go_80, e_X2_go_83, e_X2_go_86, e_X2_go_87, e_X2_go_88, e_X2_go_89, e_X2_go_92, Option.toList_some, Option.toList_none, List.cons_append, List.nil_append, true_and, and_true, and_self, bb_ite, true_or, or_true, Option.some.injEq, bb_I_eq, bb_b_0e, bb_b_1e, bb_b_e0, bb_b_e1, decide_eq_true_eq, decide_eq_false_iff_not, bn_01, bn_11, bb_b_01, ne_eq, Bool.not_eq_false, Bool.not_eq_true, Classical.not_not, bn_lt, bn_le, bn_ti, Int32.reduceToInt, bn_m20, bn_20m, nI_add, bn_p1, bn_s1, bn_in, bn_cl, implies_true, not_true_eq_false, not_false_eq_true, Bool.true_and, Bool.false_and, Bool.and_true, Bool.and_false, Bool.true_or, Bool.false_or, Bool.or_true, Bool.or_false, Bool.not_true, Bool.not_false, false_implies, true_implies, forall_const, Bool.false_eq_true, Bool.true_eq_false, reduceCtorEq, eq_self, Bool.and_eq_true, Bool.or_eq_true, Bool.and_eq_false_iff, Bool.or_eq_false_iff, and_false, false_and, or_false, false_or, h1, x_X2_end]
    rfl
  | succ n ih =>
    intro w s z hn hw hs
    obtain ⟨g, F, p, q⟩ := s
    rw [h_X2_go_13, pk_m1]
    have h1 : ¬ (n : Int) < 0 := by omega
    have hF : F 0 = nI r := hs
    have e2 : nI w / 2 = nI (w / 2) := pk_div (a := w) (d := 2) (by omega) (by omega) (by omega)
    have h2 : ((2 : Int32) = 0) = False := by decide
    have eb := fun k => x_X2_breakAt (d := d) (i := i) (r := r) (n := n) (w := w) (sea := sea) (M := M) (g := g) (F := F) (p := p) (q := q) (k := k) hr hF (by omega) hw
    have er : bw_run lv sea (n + 1) w (g, F, p, q) = if (lv - g n).toInt ≤ 0 then bw_end (g, F, p, q) (nI n) 1 else if (lv - g n).toInt < (w : Int) then (if w / 2 = 0 then bw_end (bw_brk sea n w (g, F, p, q)) (nI n) 2 else bw_run lv sea n (w / 2) (bw_brk sea n w (g, F, p, q))) else bw_run lv sea n w (g, F, p, q) := rfl
    have ih1 := ih w (g, F, p, q) (bb_I (lv - g n)) (by omega) hw hs
    have ih2 := ih (w / 2) (bw_brk sea n w (g, F, p, q)) (bb_I (lv - g n)) (by omega) (by omega) (by rw [bw_brk_F0]; exact hs)
    have ed : ∀ (s : bw_S) (a b : Int32) k, bb_call (bb_CL (d + 3)) 40 [bb_R 2 0, bb_I a, bb_I b] (bw_M M i r s) k ↔ k none (bw_M M i r (bw_end s a b)) := fun s a b k => by
      obtain ⟨g', F', p', q'⟩ := s
      exact x_X2_end
    rw [er]
    simp (disch := omega) only [e_X2_go_0, e_X2_go_1, e_X2_go_2, e_X2_go_3, e_X2_go_6, e_X2_go_7, e_X2_go_9, e_X2_go_11, e_X2_go_15, e_X2_go_18, e_X2_go_20, e_X2_go_21, e_X2_go_22, e_X2_go_24, e_X2_go_27, e_X2_go_28, e_X2_go_30, e_X2_go_32, e_X2_go_35, e_X2_go_36, e_X2_go_38, e_X2_go_39, e_X2_go_42, e_X2_go_43, e_X2_go_45, e_X2_go_47, e_X2_go_50, e_X2_go_51, e_X2_go_52, e_X2_go_54, e_X2_go_56, e_X2_go_58, e_X2_go_61, e_X2_go_63, e_X2_go_64, e_X2_go_65, e_X2_go_67, e_X2_go_69, e_X2_go_72, e_X2_go_73, e_X2_go_75, e_X2_go_76, e_X2_go_79, e_X2_go_80, e_X2_go_83, e_X2_go_86, e_X2_go_87, e_X2_go_88, e_X2_go_89, e_X2_go_92, Option.toList_some, Option.toList_none, List.cons_append, List.nil_append, true_and, and_true, and_self, bb_ite, true_or, or_true, Option.some.injEq, bb_I_eq, bb_b_0e, bb_b_1e, bb_b_e0, bb_b_e1, decide_eq_true_eq, decide_eq_false_iff_not, bn_01, bn_11, bb_b_01, ne_eq, Bool.not_eq_false, Bool.not_eq_true, Classical.not_not, bn_lt, bn_le, bn_ti, Int32.reduceToInt, bn_m20, bn_20m, nI_add, bn_p1, bn_s1, bn_in, bn_cl, implies_true, not_true_eq_false, not_false_eq_true, Bool.true_and, Bool.false_and, Bool.and_true, Bool.and_false, Bool.true_or, Bool.false_or, Bool.or_true, Bool.or_false, Bool.not_true, Bool.not_false, false_implies, true_implies, forall_const, Bool.false_eq_true, Bool.true_eq_false, reduceCtorEq, eq_self, Bool.and_eq_true, Bool.or_eq_true, Bool.and_eq_false_iff, Bool.or_eq_false_iff, and_false, false_and, or_false, false_or, h1, x_X3_heightAt, bw_r10, ed, eb, e2, h2, bn_nI0]
    by_cases q1 : (lv - g n).toInt ≤ 0
    · have q2 : ¬ 0 < (lv - g n).toInt := by omega
      simp only [q1, q2, Option.toList_some, Option.toList_none, List.cons_append, List.nil_append, true_and, and_true, and_self, bb_ite, true_or, or_true, Option.some.injEq, bb_I_eq, bb_b_0e, bb_b_1e, bb_b_e0, bb_b_e1, decide_eq_true_eq, decide_eq_false_iff_not, bn_01, bn_11, bb_b_01, ne_eq, Bool.not_eq_false, Bool.not_eq_true, Classical.not_not, bn_lt, bn_le, bn_ti, Int32.reduceToInt, bn_m20, bn_20m, nI_add, bn_p1, bn_s1, bn_in, bn_cl, implies_true, not_true_eq_false, not_false_eq_true, Bool.true_and, Bool.false_and, Bool.and_true, Bool.and_false, Bool.true_or, Bool.false_or, Bool.or_true, Bool.or_false, Bool.not_true, Bool.not_false, false_implies, true_implies, forall_const, Bool.false_eq_true, Bool.true_eq_false, reduceCtorEq, eq_self, Bool.and_eq_true, Bool.or_eq_true, Bool.and_eq_false_iff, Bool.or_eq_false_iff, and_false, false_and, or_false, false_or, if_true]
    · have q2 : 0 < (lv - g n).toInt := by omega
      by_cases q3 : (lv - g n).toInt < (w : Int)
      · have q4 : ¬ (w : Int) ≤ (lv - g n).toInt := by omega
        by_cases q5 : w / 2 = 0
        · simp only [q1, q2, q3, q4, q5, Option.toList_some, Option.toList_none, List.cons_append, List.nil_append, true_and, and_true, and_self, bb_ite, true_or, or_true, Option.some.injEq, bb_I_eq, bb_b_0e, bb_b_1e, bb_b_e0, bb_b_e1, decide_eq_true_eq, decide_eq_false_iff_not, bn_01, bn_11, bb_b_01, ne_eq, Bool.not_eq_false, Bool.not_eq_true, Classical.not_not, bn_lt, bn_le, bn_ti, Int32.reduceToInt, bn_m20, bn_20m, nI_add, bn_p1, bn_s1, bn_in, bn_cl, implies_true, not_true_eq_false, not_false_eq_true, Bool.true_and, Bool.false_and, Bool.and_true, Bool.and_false, Bool.true_or, Bool.false_or, Bool.or_true, Bool.or_false, Bool.not_true, Bool.not_false, false_implies, true_implies, forall_const, Bool.false_eq_true, Bool.true_eq_false, reduceCtorEq, eq_self, Bool.and_eq_true, Bool.or_eq_true, Bool.and_eq_false_iff, Bool.or_eq_false_iff, and_false, false_and, or_false, false_or, if_true, if_false]
        · simp only [q1, q2, q3, q4, q5, Option.toList_some, Option.toList_none, List.cons_append, List.nil_append, true_and, and_true, and_self, bb_ite, true_or, or_true, Option.some.injEq, bb_I_eq, bb_b_0e, bb_b_1e, bb_b_e0, bb_b_e1, decide_eq_true_eq, decide_eq_false_iff_not, bn_01, bn_11, bb_b_01, ne_eq, Bool.not_eq_false, Bool.not_eq_true, Classical.not_not, bn_lt, bn_le, bn_ti, Int32.reduceToInt, bn_m20, bn_20m, nI_add, bn_p1, bn_s1, bn_in, bn_cl, implies_true, not_true_eq_false, not_false_eq_true, Bool.true_and, Bool.false_and, Bool.and_true, Bool.and_false, Bool.true_or, Bool.false_or, Bool.or_true, Bool.or_false, Bool.not_true, Bool.not_false, false_implies, true_implies, forall_const, Bool.false_eq_true, Bool.true_eq_false, reduceCtorEq, eq_self, Bool.and_eq_true, Bool.or_eq_true, Bool.and_eq_false_iff, Bool.or_eq_false_iff, and_false, false_and, or_false, false_or, if_true, if_false]
          exact ih2
      · have q4 : (w : Int) ≤ (lv - g n).toInt := by omega
        simp only [q1, q2, q3, q4, Option.toList_some, Option.toList_none, List.cons_append, List.nil_append, true_and, and_true, and_self, bb_ite, true_or, or_true, Option.some.injEq, bb_I_eq, bb_b_0e, bb_b_1e, bb_b_e0, bb_b_e1, decide_eq_true_eq, decide_eq_false_iff_not, bn_01, bn_11, bb_b_01, ne_eq, Bool.not_eq_false, Bool.not_eq_true, Classical.not_not, bn_lt, bn_le, bn_ti, Int32.reduceToInt, bn_m20, bn_20m, nI_add, bn_p1, bn_s1, bn_in, bn_cl, implies_true, not_true_eq_false, not_false_eq_true, Bool.true_and, Bool.false_and, Bool.and_true, Bool.and_false, Bool.true_or, Bool.false_or, Bool.or_true, Bool.or_false, Bool.not_true, Bool.not_false, false_implies, true_implies, forall_const, Bool.false_eq_true, Bool.true_eq_false, reduceCtorEq, eq_self, Bool.and_eq_true, Bool.or_eq_true, Bool.and_eq_false_iff, Bool.or_eq_false_iff, and_false, false_and, or_false, false_or, if_true, if_false]
        exact ih1
/-- the facts with which a wave begins -/
def bw_F0 (r w : Nat) (f3 f4 : Int32) : Nat → Int32 := fun j => if j = 0 then nI r else if j = 1 then nI w else if j = 2 then -1005 else if j = 3 then f3 else if j = 4 then f4 else 0
theorem x_X2_go {d i r w : Nat} {lv : Int32} {sea : Bool} {M : bb_M} {k : Option bb_V → bb_M → Prop} (hr : r < 4) (hw : w ≤ 20) : bb_call (bb_CL (d + 4)) 38 [bb_R 2 0, bb_R 3 i, bb_I (nI r), bb_I (nI w), bb_I lv, bb_I (bb_b sea)] M k ↔ k none (bw_M M i r (bw_run lv sea 20 w ((fun c => M 10 i (20 * r + c)), bw_F0 r w (M 18 0 3) (M 18 0 4), 0, 0))) := by
  refine bb_cal (st_X2_go ?_)
  have e := l_X2_go (d := d) (i := i) (r := r) (w0 := bb_I (nI w)) (lv := lv) (sea := sea) (M := M) (R := fun r' M' => r' = none ∧ M' = bw_M M i r (bw_run lv sea 20 w ((fun c => M 10 i (20 * r + c)), bw_F0 r w (M 18 0 3) (M 18 0 4), 0, 0))) hr 20 w ((fun c => M 10 i (20 * r + c)), bw_F0 r w (M 18 0 3) (M 18 0 4), 0, 0) bb_U (Nat.le_refl _) hw rfl
  have e19 : nI 20 + (-1) = 19 := by decide
  rw [e19] at e
  simp (disch := omega) only [e_X2_go_0, e_X2_go_1, e_X2_go_2, e_X2_go_3, e_X2_go_6, e_X2_go_7, e_X2_go_9, e_X2_go_11, e_X2_go_15, e_X2_go_18, e_X2_go_20, e_X2_go_21, e_X2_go_22, e_X2_go_24, e_X2_go_27, e_X2_go_28, e_X2_go_30, e_X2_go_32, e_X2_go_35, e_X2_go_36, e_X2_go_38, e_X2_go_39, e_X2_go_42, e_X2_go_43, e_X2_go_45, e_X2_go_47, e_X2_go_50, e_X2_go_51, e_X2_go_52, e_X2_go_54, e_X2_go_56, e_X2_go_58, e_X2_go_61, e_X2_go_63, e_X2_go_64, e_X2_go_65, e_X2_go_67, e_X2_go_69, e_X2_go_72, e_X2_go_73, e_X2_go_75, e_X2_go_76, e_X2_go_79, e_X2_go_80, e_X2_go_83, e_X2_go_86, e_X2_go_87, e_X2_go_88, e_X2_go_89, e_X2_go_92, x_X2_begin (i := i) (r := r), Option.toList_some, Option.toList_none, List.cons_append, List.nil_append, true_and, and_true, and_self, bb_ite, true_or, or_true, Option.some.injEq, bb_I_eq, bb_b_0e, bb_b_1e, bb_b_e0, bb_b_e1, decide_eq_true_eq, decide_eq_false_iff_not, bn_01, bn_11, bb_b_01, ne_eq, Bool.not_eq_false, Bool.not_eq_true, Classical.not_not]
  have e3 := bw_M_cong (M := M) (i := i) (r := r) (p := 0) (q := 0) (g := fun c => M 10 i (20 * r + c)) (g' := fun c => M 10 i (20 * r + c)) (F := upd (upd (upd (upd (upd (fun j => M 18 0 j) 0 (nI r)) 1 (nI w)) 2 (-1005)) 5 0) 6 0) (F' := bw_F0 r w (M 18 0 3) (M 18 0 4)) (fun c _ => rfl) (fun j hj => by
    simp only [bf_upd]
    unfold bw_F0
    rcases (show j = 0 ∨ j = 1 ∨ j = 2 ∨ j = 3 ∨ j = 4 ∨ j = 5 ∨ j = 6 by omega) with h | h | h | h | h | h | h <;> rw [h] <;> rfl)
  rw [e3]
  exact e.mpr ⟨rfl, rfl⟩
