/-! THE REFERENCE: the fault of a text -/
theorem bt_grp_q {tx : Nat → Int32} {tl p q : Nat} {G : bt_G} (e : bt_grp tx tl p = .inr (G, q)) : p + 3 ≤ q ∧ q ≤ tl := by
  have tm : ∀ r w s, p + 3 ≤ s → s ≤ tl → bt_tm tx tl r w s = .inr (G, q) → p + 3 ≤ q ∧ q ≤ tl := by
    intro r w s h1 h2 e
    unfold bt_tm at e
    split at e
    · split at e
      · rename_i z
        have := (bt_d_iff.mp z).1
        cases e
        omega
      · cases e
    · cases e
      omega
  unfold bt_grp at e
  split at e
  · split at e
    · split at e
      · rename_i z
        have := (bt_d_iff.mp z).1
        unfold bt_hs at e
        split at e
        · rename_i z4
          have := (bt_d_iff.mp z4.1).1
          exact tm _ _ _ (by omega) (by omega) e
        · exact tm _ _ _ (by omega) (by omega) e
      · cases e
    · cases e
  · cases e
/-- what the groups of a text come to -/
def bm_fa (M : bb_M) (g w : Nat) (M' : bb_M) (res : Int32) : Nat ⊕ List bt_G → Prop
  | .inl e => res = nI e ∧ bm_tf M M'
  | .inr L => res = -1005 ∧ bm_tf M M' ∧ M' 7 0 14 = nI (g + L.length) ∧ M' 7 0 15 = nI (w + (bt_ex L).length) ∧ (∀ j G, L[j]? = some G → M' 29 0 (3 * (g + j)) = nI G.1 ∧ M' 29 0 (3 * (g + j) + 1) = nI G.2.1 ∧ M' 29 0 (3 * (g + j) + 2) = nI G.2.2) ∧ (∀ j, j < 3 * g → M' 29 0 j = M 29 0 j) ∧ g + L.length ≤ 15
theorem bt_ex_cons (G : bt_G) (L : List bt_G) : (bt_ex (G :: L)).length = G.2.2 + (bt_ex L).length := by
  show (List.replicate G.2.2 (G.1, G.2.1) ++ bt_ex L).length = _
  rw [List.length_append, List.length_replicate]
theorem bm_fa_cons {M N M' : bb_M} {g w : Nat} {G : bt_G} {res : Int32} {o : Nat ⊕ List bt_G} (h : bm_fa N (g + 1) (w + G.2.2) M' res o) (hf : bm_tf M N) (hl : ∀ j, j < 3 * g → N 29 0 j = M 29 0 j) (hG : N 29 0 (3 * g) = nI G.1 ∧ N 29 0 (3 * g + 1) = nI G.2.1 ∧ N 29 0 (3 * g + 2) = nI G.2.2) : bm_fa M g w M' res (bt_cg G o) := by
  match o, h with
  | .inl e, ⟨a, b⟩ => exact ⟨a, bm_tf_tr hf b⟩
  | .inr L, ⟨a, b, c, d, e, f, i⟩ =>
    refine ⟨a, bm_tf_tr hf b, ?_, ?_, fun j G' hj => ?_, fun j hj => (f j (by omega)).trans (hl j hj), ?_⟩
    · rw [c, List.length_cons]
      congr 1
      omega
    · rw [d, bt_ex_cons]
      congr 1
      omega
    · cases j with
      | zero =>
        have : G = G' := Option.some.inj hj
        subst this
        rw [Nat.add_zero, f _ (by omega), f _ (by omega), f _ (by omega)]
        exact hG
      | succ j =>
        have := e j G' hj
        rw [show g + (j + 1) = g + 1 + j by omega]
        exact this
    · rw [List.length_cons]
      omega
theorem l_X7_fault {d tl : Nat} {tx : Nat → Int32} (htl : tl ≤ 60) : ∀ (f p g w : Nat) (M : bb_M), p ≤ tl → tl < p + f → 4 * g ≤ p → w ≤ 9 * g → bm_TT tx tl p g w M → ∃ M' res, (∀ R : bb_P, bb_Y (bb_CL (d + 4)) cd_X7_fault R 17 [bb_R 7 0, bb_I 1] [] M ↔ R (some (bb_I res)) M') ∧ bm_fa M g w M' res (bt_all tx tl f p) := by
  intro f
  induction f with
  | zero => exact fun p g w M h1 h2 => absurd h2 (by omega)
  | succ f ih =>
    intro p g w M hp hu hg hw hT
    rw [bt_all_s]
    obtain ⟨M1, res, x1, g1⟩ := x_X7_readsGroup (d := d) hT htl hp (by omega) (by omega)
    cases hgr : bt_grp tx tl p with
    | inl e =>
      rw [hgr] at g1
      obtain ⟨rfl, g2, g3⟩ := g1
      refine ⟨M1, nI e, fun R => ?_, rfl, g3⟩
      rw [h_X7_fault_17]
      simp (disch := omega) only [e_X7_fault_0, e_X7_fault_1, e_X7_fault_2, e_X7_fault_5, e_X7_fault_6, e_X7_fault_7, e_X7_fault_10, e_X7_fault_11, e_X7_fault_12, e_X7_fault_15, e_X7_fault_16, e_X7_fault_18, e_X7_fault_21, e_X7_fault_22, e_X7_fault_25, e_X7_fault_28, e_X7_fault_29, e_X7_fault_32, e_X7_fault_33, e_X7_fault_34, e_X7_fault_36, e_X7_fault_39, e_X7_fault_40, e_X7_fault_43, e_X7_fault_44, e_X7_fault_47, e_X7_fault_48, e_X7_fault_51, e_X7_fault_54, e_X7_fault_57, e_X7_fault_60, e_X7_fault_61, e_X7_fault_64, Option.toList_some, Option.toList_none, List.cons_append, List.nil_append, true_and, and_true, and_self, bb_ite, true_or, or_true, Option.some.injEq, bb_I_eq, bb_b_0e, bb_b_1e, bb_b_e0, bb_b_e1, decide_eq_true_eq, decide_eq_false_iff_not, bn_01, bn_11, bb_b_01, ne_eq, Bool.not_eq_false, Bool.not_eq_true, Classical.not_not, x1, g2, bm_10, if_false, not_true_eq_false]
      try trivial
    | inr z =>
      obtain ⟨G, q⟩ := z
      rw [hgr] at g1
      obtain ⟨rfl, g2, g3, g4, g5, g6, g7⟩ := g1
      obtain ⟨q1, q2⟩ := bt_grp_q hgr
      obtain ⟨-, -, q3⟩ := bt_grp_g hgr
      have T1 : bm_TT tx tl q (g + 1) (w + G.2.2) M1 := ⟨bm_TX_fr hT.1 g5, g2, g3, g4⟩
      have c44 : (44 : Int32).toInt = 44 := rfl
      show ∃ M' res, _ ∧ bm_fa M g w M' res (bt_ct tx tl f G q)
      unfold bt_ct
      by_cases h44 : bt_d tx tl q 44 44 = true
      · rw [if_pos h44]
        obtain ⟨M2, x2, T2, j2, f2⟩ := x_X7_takesT (d := d + 1) (c := 44) T1 htl q2 h44
        have hq := (bt_d_iff.mp h44).1
        obtain ⟨M', res, x3, y3⟩ := ih (q + 1) (g + 1) (w + G.2.2) M2 (by omega) (by omega) (by omega) (by omega) T2
        refine ⟨M', res, fun R => ?_, bm_fa_cons y3 (bm_tf_tr g5 f2) (fun j hj => by rw [j2, g7 j hj]) (by rw [j2, j2, j2]; exact g6)⟩
        rw [h_X7_fault_17, ← x3 R]
        simp (disch := omega) only [e_X7_fault_0, e_X7_fault_1, e_X7_fault_2, e_X7_fault_5, e_X7_fault_6, e_X7_fault_7, e_X7_fault_10, e_X7_fault_11, e_X7_fault_12, e_X7_fault_15, e_X7_fault_16, e_X7_fault_18, e_X7_fault_21, e_X7_fault_22, e_X7_fault_25, e_X7_fault_28, e_X7_fault_29, e_X7_fault_32, e_X7_fault_33, e_X7_fault_34, e_X7_fault_36, e_X7_fault_39, e_X7_fault_40, e_X7_fault_43, e_X7_fault_44, e_X7_fault_47, e_X7_fault_48, e_X7_fault_51, e_X7_fault_54, e_X7_fault_57, e_X7_fault_60, e_X7_fault_61, e_X7_fault_64, Option.toList_some, Option.toList_none, List.cons_append, List.nil_append, true_and, and_true, and_self, bb_ite, true_or, or_true, Option.some.injEq, bb_I_eq, bb_b_0e, bb_b_1e, bb_b_e0, bb_b_e1, decide_eq_true_eq, decide_eq_false_iff_not, bn_01, bn_11, bb_b_01, ne_eq, Bool.not_eq_false, Bool.not_eq_true, Classical.not_not, x1, x2, bm_10, if_false, not_false_eq_true, if_true]
        try exact Iff.rfl
      · rw [if_neg h44]
        have x2 := fun k => x_X7_takesF (d := d + 1) (c := 44) (k := k) T1 htl q2 h44
        have t11 := T1.1.1
        by_cases hqe : q = tl
        · rw [if_pos hqe]
          subst hqe
          refine ⟨M1, -1005, fun R => ?_, rfl, g5, g3, ?_, fun j G' hj => ?_, g7, ?_⟩
          · rw [h_X7_fault_17]
            simp (disch := omega) only [e_X7_fault_0, e_X7_fault_1, e_X7_fault_2, e_X7_fault_5, e_X7_fault_6, e_X7_fault_7, e_X7_fault_10, e_X7_fault_11, e_X7_fault_12, e_X7_fault_15, e_X7_fault_16, e_X7_fault_18, e_X7_fault_21, e_X7_fault_22, e_X7_fault_25, e_X7_fault_28, e_X7_fault_29, e_X7_fault_32, e_X7_fault_33, e_X7_fault_34, e_X7_fault_36, e_X7_fault_39, e_X7_fault_40, e_X7_fault_43, e_X7_fault_44, e_X7_fault_47, e_X7_fault_48, e_X7_fault_51, e_X7_fault_54, e_X7_fault_57, e_X7_fault_60, e_X7_fault_61, e_X7_fault_64, Option.toList_some, Option.toList_none, List.cons_append, List.nil_append, true_and, and_true, and_self, bb_ite, true_or, or_true, Option.some.injEq, bb_I_eq, bb_b_0e, bb_b_1e, bb_b_e0, bb_b_e1, decide_eq_true_eq, decide_eq_false_iff_not, bn_01, bn_11, bb_b_01, ne_eq, Bool.not_eq_false, Bool.not_eq_true, Classical.not_not, x1, x2, bm_10, if_false, not_false_eq_true, if_true, g2, t11, not_true_eq_false, h_X7_fault_17]
            try trivial
          · rw [g4, bt_ex_cons]
            rfl
          · cases j with
            | zero =>
              have : G = G' := Option.some.inj hj
              subst this
              rw [Nat.add_zero]
              exact g6
            | succ j => cases hj
          · show g + 1 ≤ 15
            omega
        · rw [if_neg hqe]
          have l : ¬ nI q = nI tl := fun z => by
            rw [nI_eq (by omega) (by omega)] at z
            omega
          refine ⟨M1, nI q, fun R => ?_, rfl, g5⟩
          rw [h_X7_fault_17]
          simp (disch := omega) only [e_X7_fault_0, e_X7_fault_1, e_X7_fault_2, e_X7_fault_5, e_X7_fault_6, e_X7_fault_7, e_X7_fault_10, e_X7_fault_11, e_X7_fault_12, e_X7_fault_15, e_X7_fault_16, e_X7_fault_18, e_X7_fault_21, e_X7_fault_22, e_X7_fault_25, e_X7_fault_28, e_X7_fault_29, e_X7_fault_32, e_X7_fault_33, e_X7_fault_34, e_X7_fault_36, e_X7_fault_39, e_X7_fault_40, e_X7_fault_43, e_X7_fault_44, e_X7_fault_47, e_X7_fault_48, e_X7_fault_51, e_X7_fault_54, e_X7_fault_57, e_X7_fault_60, e_X7_fault_61, e_X7_fault_64, Option.toList_some, Option.toList_none, List.cons_append, List.nil_append, true_and, and_true, and_self, bb_ite, true_or, or_true, Option.some.injEq, bb_I_eq, bb_b_0e, bb_b_1e, bb_b_e0, bb_b_e1, decide_eq_true_eq, decide_eq_false_iff_not, bn_01, bn_11, bb_b_01, ne_eq, Bool.not_eq_false, Bool.not_eq_true, Classical.not_not, x1, x2, bm_10, if_false, not_false_eq_true, if_true, g2, t11, l, h_X7_fault_17]
          try trivial
theorem x_X7_fault {d tl : Nat} {tx : Nat → Int32} {M : bb_M} (htl : tl ≤ 60) (hT : bm_TX tx tl M) : ∃ M' res, (∀ k : Option bb_V → bb_M → Prop, bb_call (bb_CL (d + 5)) 65 [bb_R 7 0] M k ↔ k (some (bb_I res)) M') ∧ bm_fa M 0 0 M' res (bt_all tx tl 61 0) := by
  have hf : bm_tf M (bb_up (bb_up (bb_up M 7 0 12 0) 7 0 14 0) 7 0 15 0) := fun k i j a b => by
    unfold bb_up
    rw [if_neg (by omega), if_neg (by omega), if_neg (by omega)]
  obtain ⟨M', res, x1, y1⟩ := l_X7_fault (d := d) (tx := tx) htl 61 0 0 0 (bb_up (bb_up (bb_up M 7 0 12 0) 7 0 14 0) 7 0 15 0) (Nat.zero_le _) (by omega) (by decide) (by decide) ⟨bm_TX_fr hT hf, by rw [bb_up_j (by decide), bb_up_j (by decide), bb_up_at]; rfl, by rw [bb_up_j (by decide), bb_up_at]; rfl, by rw [bb_up_at]; rfl⟩
  refine ⟨M', res, fun k => bb_cal (st_X7_fault ?_), ?_⟩
  · simp only [e_X7_fault_0, e_X7_fault_1, e_X7_fault_2, e_X7_fault_5, e_X7_fault_6, e_X7_fault_7, e_X7_fault_10, e_X7_fault_11, e_X7_fault_12, e_X7_fault_15, e_X7_fault_16, e_X7_fault_18, e_X7_fault_21, e_X7_fault_22, e_X7_fault_25, e_X7_fault_28, e_X7_fault_29, e_X7_fault_32, e_X7_fault_33, e_X7_fault_34, e_X7_fault_36, e_X7_fault_39, e_X7_fault_40, e_X7_fault_43, e_X7_fault_44, e_X7_fault_47, e_X7_fault_48, e_X7_fault_51, e_X7_fault_54, e_X7_fault_57, e_X7_fault_60, e_X7_fault_61, e_X7_fault_64, Option.toList_some, Option.toList_none, List.cons_append, List.nil_append, true_and, and_true, and_self, bb_ite, true_or, or_true, Option.some.injEq, bb_I_eq, bb_b_0e, bb_b_1e, bb_b_e0, bb_b_e1, decide_eq_true_eq, decide_eq_false_iff_not, bn_01, bn_11, bb_b_01, ne_eq, Bool.not_eq_false, Bool.not_eq_true, Classical.not_not]
    exact (x1 _).mpr ⟨rfl, rfl⟩
  · generalize bt_all tx tl 61 0 = o at y1
    match o, y1 with
    | .inl e, ⟨a, b⟩ => exact ⟨a, bm_tf_tr hf b⟩
    | .inr L, ⟨a, b, c, d, e, f, i⟩ => exact ⟨a, bm_tf_tr hf b, c, d, e, fun j hj => absurd hj (by omega), i⟩
/-! waves are put -/
def bm_a (M : bb_M) (f : Nat → Int32) : bb_M := fun k i j => if k = 21 ∧ i = 0 then f j else M k i j
theorem bm_a_v {M : bb_M} {f : Nat → Int32} {j : Nat} : bm_a M f 21 0 j = f j := if_pos ⟨rfl, rfl⟩
theorem bm_a_f {M : bb_M} {f : Nat → Int32} : bm_a M f 21 0 = f := funext (fun _ => bm_a_v)
theorem bm_a_k {M : bb_M} {f : Nat → Int32} {k i j : Nat} (h : k ≠ 21) : bm_a M f k i j = M k i j := if_neg (fun z => h z.1)
theorem bm_a_o {M : bb_M} {f : Nat → Int32} {k i j : Nat} (h : ¬ (k = 21 ∧ i = 0)) : bm_a M f k i j = M k i j := if_neg h
theorem bm_a_up {M : bb_M} {f : Nat → Int32} {j : Nat} {v : Int32} : bb_up (bm_a M f) 21 0 j v = bm_a M (upd f j v) := by
  funext k' i' j'
  unfold bb_up bm_a
  rw [bf_upd]
  by_cases q : k' = 21 ∧ i' = 0
  · obtain ⟨rfl, rfl⟩ := q
    by_cases z : j' = j
    · rw [if_pos ⟨rfl, rfl, z⟩, if_pos ⟨rfl, rfl⟩, if_pos z]
    · rw [if_neg (fun y => z y.2.2), if_pos ⟨rfl, rfl⟩, if_pos ⟨rfl, rfl⟩, if_neg z]
  · rw [if_neg (fun z => q ⟨z.1, z.2.1⟩), if_neg q, if_neg q]
theorem bm_a_self {M : bb_M} : bm_a M (M 21 0) = M := by
  funext k i j
  unfold bm_a
  by_cases q : k = 21 ∧ i = 0
  · obtain ⟨rfl, rfl⟩ := q
    rw [if_pos ⟨rfl, rfl⟩]
  · rw [if_neg q]
theorem x_X7_puts {d : Nat} {r v : Int32} {b : Nat → Int32} {M : bb_M} {k : Option bb_V → bb_M → Prop} (h85 : b 85 = nI (bs_sz b)) (hs : bs_sz b < 24) : bb_call (bb_CL (d + 1)) 54 [bb_R 7 0, bb_I r, bb_I v] (bm_a M b) k ↔ k none (bm_a M (sp_put b r v)) := by
  refine bb_cal (st_X7_puts ?_)
  unfold sp_put
  generalize bs_sz b = s at *
  have u1 : upd b (86 + 2 * s) r 85 = nI s := by rw [bw_upd_c (by omega), h85]
  have u2 : upd (upd b (86 + 2 * s) r) (87 + 2 * s) v 85 = nI s := by rw [bw_upd_c (by omega), bw_upd_c (by omega), h85]
  have e87 : 86 + 2 * s + 1 = 87 + 2 * s := by omega
  simp (disch := omega) only [e_X7_puts_0, e_X7_puts_1, e_X7_puts_4, e_X7_puts_6, e_X7_puts_7, e_X7_puts_8, e_X7_puts_11, e_X7_puts_13, e_X7_puts_14, e_X7_puts_15, e_X7_puts_16, e_X7_puts_17, e_X7_puts_18, e_X7_puts_19, e_X7_puts_22, e_X7_puts_24, e_X7_puts_25, e_X7_puts_26, e_X7_puts_29, e_X7_puts_31, e_X7_puts_32, e_X7_puts_33, e_X7_puts_34, e_X7_puts_35, e_X7_puts_36, e_X7_puts_37, e_X7_puts_38, e_X7_puts_39, e_X7_puts_42, e_X7_puts_44, e_X7_puts_45, e_X7_puts_46, e_X7_puts_47, e_X7_puts_48, e_X7_puts_49, Option.toList_some, Option.toList_none, List.cons_append, List.nil_append, true_and, and_true, and_self, bb_ite, true_or, or_true, Option.some.injEq, bb_I_eq, bb_b_0e, bb_b_1e, bb_b_e0, bb_b_e1, decide_eq_true_eq, decide_eq_false_iff_not, bn_01, bn_11, bb_b_01, ne_eq, Bool.not_eq_false, Bool.not_eq_true, Classical.not_not, bm_a_v, bm_a_up, bn_in, bn_cl, bm_v85, Int32.reduceToNatClampNeg, h85, bm_m2, bm_a86, bn_p1, e87, u1, u2]
  try trivial
theorem sp_puts_app (b : Nat → Int32) : ∀ (L1 L2 : List (Nat × Nat)), sp_puts b (L1 ++ L2) = sp_puts (sp_puts b L1) L2 := by
  intro L1
  induction L1 generalizing b with
  | nil => exact fun _ => rfl
  | cons q L1 ih => exact fun L2 => ih (sp_put b (nI q.1) (nI q.2)) L2
theorem bs_put_85 {b : Nat → Int32} {r v : Int32} : sp_put b r v 85 = nI (bs_sz b + 1) := by
  unfold sp_put
  rw [bf_upd, if_pos rfl]
theorem sp_puts_sz : ∀ (L : List (Nat × Nat)) (b : Nat → Int32), b 85 = nI (bs_sz b) → bs_sz b + L.length ≤ 24 → bs_sz (sp_puts b L) = bs_sz b + L.length ∧ sp_puts b L 85 = nI (bs_sz b + L.length)
  | [], b, h, _ => ⟨rfl, h⟩
  | q :: L, b, h, hl => by
    rw [List.length_cons] at hl ⊢
    have e := bs_put_sz (r := nI q.1) (v := nI q.2) (show bs_sz b < 24 by omega)
    obtain ⟨h1, h2⟩ := sp_puts_sz L (sp_put b (nI q.1) (nI q.2)) (by rw [bs_put_85, e]) (by omega)
    rw [e] at h1 h2
    refine ⟨?_, ?_⟩
    · show bs_sz (sp_puts (sp_put b (nI q.1) (nI q.2)) L) = _
      omega
    · show sp_puts (sp_put b (nI q.1) (nI q.2)) L 85 = _
      rw [h2]
      congr 1
      omega
theorem bm_p3 (n : Nat) : nI n + 3 = nI (n + 3) := by rw [show (3 : Int32) = nI 3 from rfl, nI_add]
theorem l_X7_wa1 {d r h i T : Nat} {M : bb_M} {w1 : bb_V} {R : bb_P} (h0 : M 29 0 (3 * i) = nI r) (h1 : M 29 0 (3 * i + 1) = nI h) (h2 : M 29 0 (3 * i + 2) = nI T) (hi : i ≤ 15) (hT : T ≤ 9) : ∀ (t n : Nat) (b : Nat → Int32), n + t = T → b 85 = nI (bs_sz b) → bs_sz b + t ≤ 24 → (bb_Y (bb_CL (d + 1)) cd_X7_waveAll R 57 [bb_R 7 0, w1, bb_I (nI (3 * i)), bb_I (nI n)] [] (bm_a M b) ↔ bb_Y (bb_CL (d + 1)) cd_X7_waveAll R 45 [bb_R 7 0, w1, bb_I (nI (3 * (i + 1))), bb_I (nI T)] [] (bm_a M (sp_puts b (List.replicate t (r, h))))) := by
  intro t
  induction t with
  | zero =>
    intro n b hn h85 hs
    obtain rfl : n = T := by omega
    have l : (n : Int) ≤ (n : Int) := Int.le_refl _
    have e3 : 3 * i + 3 = 3 * (i + 1) := by omega
    have k2 : bm_a M b 29 0 (3 * i + 2) = nI n := by rw [bm_a_k (by decide)]; exact h2
    rw [h_X7_waveAll_57]
    simp (disch := omega) only [e_X7_waveAll_58, e_X7_waveAll_59, e_X7_waveAll_62, e_X7_waveAll_63, e_X7_waveAll_64, e_X7_waveAll_65, e_X7_waveAll_66, e_X7_waveAll_93, e_X7_waveAll_96, Option.toList_some, Option.toList_none, List.cons_append, List.nil_append, true_and, and_true, and_self, bb_ite, true_or, or_true, Option.some.injEq, bb_I_eq, bb_b_0e, bb_b_1e, bb_b_e0, bb_b_e1, decide_eq_true_eq, decide_eq_false_iff_not, bn_01, bn_11, bb_b_01, ne_eq, Bool.not_eq_false, Bool.not_eq_true, Classical.not_not, bn_lt, bn_le, bn_ti, Int32.reduceToInt, bn_m20, bn_20m, nI_add, bn_p1, bn_s1, bn_in, bn_cl, implies_true, not_true_eq_false, not_false_eq_true, Bool.true_and, Bool.false_and, Bool.and_true, Bool.and_false, Bool.true_or, Bool.false_or, Bool.or_true, Bool.or_false, Bool.not_true, Bool.not_false, false_implies, true_implies, forall_const, Bool.false_eq_true, Bool.true_eq_false, reduceCtorEq, eq_self, Bool.and_eq_true, Bool.or_eq_true, Bool.and_eq_false_iff, Bool.or_eq_false_iff, and_false, false_and, or_false, false_or, bm_p2, bm_p3, k2, l, e3]
    try exact Iff.rfl
  | succ t ih =>
    intro n b hn h85 hs
    have l : ¬ (T : Int) ≤ (n : Int) := by omega
    have k0 : bm_a M b 29 0 (3 * i) = nI r := by rw [bm_a_k (by decide)]; exact h0
    have k1 : bm_a M b 29 0 (3 * i + 1) = nI h := by rw [bm_a_k (by decide)]; exact h1
    have k2 : bm_a M b 29 0 (3 * i + 2) = nI T := by rw [bm_a_k (by decide)]; exact h2
    have ep := fun k => x_X7_puts (d := d) (r := nI r) (v := nI h) (M := M) (k := k) h85 (by omega)
    have e := bs_put_sz (r := nI r) (v := nI h) (show bs_sz b < 24 by omega)
    rw [List.replicate_succ]
    show _ ↔ bb_Y (bb_CL (d + 1)) cd_X7_waveAll R 45 _ [] (bm_a M (sp_puts (sp_put b (nI r) (nI h)) (List.replicate t (r, h))))
    rw [← ih (n + 1) (sp_put b (nI r) (nI h)) (by omega) (by rw [bs_put_85, e]) (by omega), h_X7_waveAll_57]
    simp (disch := omega) only [e_X7_waveAll_58, e_X7_waveAll_59, e_X7_waveAll_62, e_X7_waveAll_63, e_X7_waveAll_64, e_X7_waveAll_65, e_X7_waveAll_66, e_X7_waveAll_69, e_X7_waveAll_70, e_X7_waveAll_71, e_X7_waveAll_74, e_X7_waveAll_75, e_X7_waveAll_76, e_X7_waveAll_77, e_X7_waveAll_80, e_X7_waveAll_81, e_X7_waveAll_82, e_X7_waveAll_83, e_X7_waveAll_84, e_X7_waveAll_87, e_X7_waveAll_90, Option.toList_some, Option.toList_none, List.cons_append, List.nil_append, true_and, and_true, and_self, bb_ite, true_or, or_true, Option.some.injEq, bb_I_eq, bb_b_0e, bb_b_1e, bb_b_e0, bb_b_e1, decide_eq_true_eq, decide_eq_false_iff_not, bn_01, bn_11, bb_b_01, ne_eq, Bool.not_eq_false, Bool.not_eq_true, Classical.not_not, bn_lt, bn_le, bn_ti, Int32.reduceToInt, bn_m20, bn_20m, nI_add, bn_p1, bn_s1, bn_in, bn_cl, implies_true, not_true_eq_false, not_false_eq_true, Bool.true_and, Bool.false_and, Bool.and_true, Bool.and_false, Bool.true_or, Bool.false_or, Bool.or_true, Bool.or_false, Bool.not_true, Bool.not_false, false_implies, true_implies, forall_const, Bool.false_eq_true, Bool.true_eq_false, reduceCtorEq, eq_self, Bool.and_eq_true, Bool.or_eq_true, Bool.and_eq_false_iff, Bool.or_eq_false_iff, and_false, false_and, or_false, false_or, bm_p2, k0, k1, k2, l, ep]
    try exact Iff.rfl
theorem l_X7_wa2 {d G : Nat} {M : bb_M} {w1 : bb_V} {R : bb_P} (hG : G ≤ 15) (h14 : M 7 0 14 = nI G) : ∀ (L : List bt_G) (i : Nat) (b : Nat → Int32) (z : bb_V), i + L.length = G → (∀ j g, L[j]? = some g → (M 29 0 (3 * (i + j)) = nI g.1 ∧ M 29 0 (3 * (i + j) + 1) = nI g.2.1 ∧ M 29 0 (3 * (i + j) + 2) = nI g.2.2) ∧ g.2.2 ≤ 9) → b 85 = nI (bs_sz b) → bs_sz b + (bt_ex L).length ≤ 24 → ∃ z', (bb_Y (bb_CL (d + 1)) cd_X7_waveAll R 45 [bb_R 7 0, w1, bb_I (nI (3 * i)), z] [] (bm_a M b) ↔ bb_Y (bb_CL (d + 1)) cd_X7_waveAll R 99 [bb_R 7 0, w1, bb_I (nI (3 * G)), z'] [] (bm_a M (sp_puts b (bt_ex L)))) := by
  intro L
  have k14 : ∀ b, bm_a M b 7 0 14 = nI G := fun b => by rw [bm_a_k (by decide)]; exact h14
  induction L with
  | nil =>
    intro i b z hi he h85 hs
    obtain rfl : i = G := hi
    refine ⟨z, ?_⟩
    have l : ((3 * i : Nat) : Int) ≤ ((3 * i : Nat) : Int) := Int.le_refl _
    rw [h_X7_waveAll_45]
    simp (disch := omega) only [e_X7_waveAll_46, e_X7_waveAll_47, e_X7_waveAll_48, e_X7_waveAll_51, e_X7_waveAll_52, Option.toList_some, Option.toList_none, List.cons_append, List.nil_append, true_and, and_true, and_self, bb_ite, true_or, or_true, Option.some.injEq, bb_I_eq, bb_b_0e, bb_b_1e, bb_b_e0, bb_b_e1, decide_eq_true_eq, decide_eq_false_iff_not, bn_01, bn_11, bb_b_01, ne_eq, Bool.not_eq_false, Bool.not_eq_true, Classical.not_not, bn_le, bn_ti, bm_m3, k14, l, if_true]
    exact Iff.rfl
  | cons g L ih =>
    intro i b z hi he h85 hs
    rw [List.length_cons] at hi
    have e0 := he 0 g rfl
    rw [Nat.add_zero] at e0
    rw [bt_ex_cons] at hs
    have s1 := sp_puts_sz (List.replicate g.2.2 (g.1, g.2.1)) b h85 (by rw [List.length_replicate]; omega)
    rw [List.length_replicate] at s1
    obtain ⟨z', iz⟩ := ih (i + 1) (sp_puts b (List.replicate g.2.2 (g.1, g.2.1))) (bb_I (nI g.2.2)) (by omega) (fun j g' hj => by
      have := he (j + 1) g' hj
      rwa [show i + (j + 1) = i + 1 + j by omega] at this) (by rw [s1.1]; exact s1.2) (by rw [s1.1]; omega)
    refine ⟨z', ?_⟩
    have l : ¬ ((3 * G : Nat) : Int) ≤ ((3 * i : Nat) : Int) := by omega
    have i1 := l_X7_wa1 (d := d) (w1 := w1) (R := R) e0.1.1 e0.1.2.1 e0.1.2.2 (by omega) e0.2 g.2.2 0 b (Nat.zero_add _) h85 (by omega)
    have ee : bt_ex (g :: L) = List.replicate g.2.2 (g.1, g.2.1) ++ bt_ex L := rfl
    have n0 : nI 0 = 0 := rfl
    rw [n0] at i1
    rw [ee, sp_puts_app, ← iz, ← i1, h_X7_waveAll_45]
    simp (disch := omega) only [e_X7_waveAll_46, e_X7_waveAll_47, e_X7_waveAll_48, e_X7_waveAll_51, e_X7_waveAll_52, e_X7_waveAll_55, e_X7_waveAll_56, Option.toList_some, Option.toList_none, List.cons_append, List.nil_append, true_and, and_true, and_self, bb_ite, true_or, or_true, Option.some.injEq, bb_I_eq, bb_b_0e, bb_b_1e, bb_b_e0, bb_b_e1, decide_eq_true_eq, decide_eq_false_iff_not, bn_01, bn_11, bb_b_01, ne_eq, Bool.not_eq_false, Bool.not_eq_true, Classical.not_not, bn_le, bn_ti, bm_m3, k14, l, if_false]
    try exact Iff.rfl
