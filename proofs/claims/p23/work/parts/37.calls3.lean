/-! SETTLE, RUN -/
theorem br_ls_hi {b : Nat → Int32} {lv : Int32} {j : Nat} (h : 80 ≤ j) (h1 : j ≠ 140) (h2 : j ≠ 141) : br_ls b lv j = b j := by
  unfold br_ls
  rw [if_neg (by omega), if_neg h1, if_neg h2]
theorem br_ls_inv {b : Nat → Int32} {lv : Int32} (h : bs_inv b) : bs_inv (br_ls b lv) := by
  obtain ⟨h1, h2, h3, h4, h5, h6, h7, h8, h9⟩ := h
  have esz : bs_sz (br_ls b lv) = bs_sz b := by unfold bs_sz; rw [br_ls_hi (by decide) (by decide) (by decide)]
  have etl : bs_tl (br_ls b lv) = bs_tl b := by unfold bs_tl; rw [br_ls_hi (by decide) (by decide) (by decide)]
  refine ⟨fun j hj => ?_, ?_, ?_, ?_, ?_, ?_, ?_, ?_, ?_⟩
  · have := bf_st_b (v := b 84) (bf_sco_b (v := lv) (g := b 83) h1) (by omega) j hj
    unfold br_ls
    rw [if_pos hj]
    exact this
  · rw [br_ls_hi (by decide) (by decide) (by decide)]; exact h2
  · rw [br_ls_hi (by decide) (by decide) (by decide)]; exact h3
  · rw [br_ls_hi (by decide) (by decide) (by decide)]; exact h4
  · rw [br_ls_hi (by decide) (by decide) (by decide)]; exact h5
  · rw [br_ls_hi (by decide) (by decide) (by decide)]; exact h6
  · rw [esz, br_ls_hi (by decide) (by decide) (by decide)]; exact h7
  · rw [esz]
    intro j hj
    rw [br_ls_hi (by omega) (by omega) (by omega), br_ls_hi (by omega) (by omega) (by omega)]
    exact h8 j hj
  · rw [etl, br_ls_hi (by decide) (by decide) (by decide)]; exact h9
/-- the sand's following, as the state sees it -/
theorem bs_rep_ls {M M' : bb_M} {b : Nat → Int32} {lv : Int32} (h : bs_rep M 0 b) (hi : bs_inv b) (h10 : ∀ j, j < 80 → M' 10 0 j = br_ls b lv j) (h7 : M' 15 0 7 = M 15 0 7 + nI (bf_scu b lv (b 83) 4)) (h8 : M' 15 0 8 = M 15 0 8 + nI (bf_su (bf_sco b lv (b 83)) (b 84) 4)) (hf : ∀ k i j, ¬ (i = 0 ∧ (k = 10 ∨ k = 11 ∨ k = 15 ∧ (j = 7 ∨ j = 8))) → M' k i j = M k i j) : bs_rep M' 0 (br_ls b lv) := by
  obtain ⟨g1, g2, g3, g4, g5, g6, g7, g8⟩ := h
  have i7 := hi.2.2.2.2.2.2.1
  have i9 := hi.2.2.2.2.2.2.2.2
  have esz : bs_sz (br_ls b lv) = bs_sz b := by unfold bs_sz; rw [br_ls_hi (by decide) (by decide) (by decide)]
  have etl : bs_tl (br_ls b lv) = bs_tl b := by unfold bs_tl; rw [br_ls_hi (by decide) (by decide) (by decide)]
  refine ⟨h10, ?_, fun j hj => ?_, ?_, ?_, fun j hj => ?_, ?_, ?_⟩
  · rw [hf _ _ _ (by omega), br_ls_hi (by decide) (by decide) (by decide)]; exact g2
  · rw [hf _ _ _ (by omega), br_ls_hi (by omega) (by omega) (by omega)]; exact g3 j hj
  · rw [hf _ _ _ (by omega), br_ls_hi (by decide) (by decide) (by decide)]; exact g4
  · rw [esz]
    intro j hj
    rw [hf _ _ _ (by omega), hf _ _ _ (by omega), br_ls_hi (by omega) (by omega) (by omega), br_ls_hi (by omega) (by omega) (by omega)]
    exact g5 j hj
  · by_cases z7 : j = 6
    · subst z7
      rw [h7, g6 6 hj]
      rfl
    · by_cases z8 : j = 7
      · subst z8
        rw [h8, g6 7 hj]
        rfl
      · rw [hf _ _ _ (by omega), br_ls_hi (by omega) (by omega) (by omega)]; exact g6 j hj
  · rw [hf _ _ _ (by omega), br_ls_hi (by decide) (by decide) (by decide)]; exact g7
  · rw [etl]
    intro j hj
    rw [hf _ _ _ (by omega), br_ls_hi (by omega) (by omega) (by omega)]
    exact g8 j hj
theorem bc_fr_ls {M M' : bb_M} (hf : ∀ k i j, ¬ (i = 0 ∧ (k = 10 ∨ k = 11 ∨ k = 15 ∧ (j = 7 ∨ j = 8))) → M' k i j = M k i j) : bc_fr M M' := fun k i j hk => hf k i j (by omega)
/-- units that move are few -/
theorem bf_scu_le (h : Nat → Int32) (lv g : Int32) : ∀ r, bf_scu h lv g r ≤ 19 * r
  | 0 => Nat.le_refl _
  | r + 1 => by
    have := bf_scu_le h lv g r
    have q : ∀ (p : Nat → Bool) (f : Nat → Int32) n, bf_qc f p n ≤ n := by
      intro p f n
      induction n with
      | zero => exact Nat.le_refl _
      | succ n ih =>
        show bf_qc f p n + bf_q0 (bf_qq f p n) (p n) n ≤ n + 1
        have : bf_q0 (bf_qq f p n) (p n) n ≤ 1 := by
          unfold bf_q0
          split <;> omega
        omega
    have := q (bf_gap h lv g r) (bf_rg h r) 19
    show bf_scu h lv g r + bf_qc (bf_rg h r) (bf_gap h lv g r) 19 ≤ 19 * (r + 1)
    omega
theorem bf_su_le {h : Nat → Int32} {st : Int32} (hB : bf_hb h) (hs : 1 ≤ st.toInt) : ∀ r, r ≤ 4 → bf_su h st r ≤ 196020 * r
  | 0, _ => Nat.le_refl _
  | r + 1, hr => by
    have := bf_su_le hB hs r (by omega)
    have := bf_to_b (bf_rg_b hB (by omega : r < 4)) hs bf_NN
    show bf_su h st r + bf_to (bf_rg h r) st bf_NN ≤ 196020 * (r + 1)
    omega
theorem br_lr_le {b : Nat → Int32} {lv : Int32} (h : bs_inv b) : br_lr b lv ≤ 1000000 := by
  have h1 := bf_scu_le b lv (b 83) 4
  have h2 := bf_su_le (bf_sco_b (v := lv) (g := b 83) h.1) (by have := h.2.2.2.2.2.1; omega : 1 ≤ (b 84).toInt) 4 (Nat.le_refl _)
  unfold br_lr
  omega
def sp_settle (S : bs_S) : Int32 × bs_S := if br_lr S.a (S.a 80) = 0 then (-1005, ⟨br_ls S.a (S.a 80), S.hs, S.hn, S.sT, S.sn, S.tx, S.tl⟩) else (nI (br_lr S.a (S.a 80)), bs_act S (br_ls S.a (S.a 80)))
theorem c_settle {d : Nat} {M : bb_M} {S : bs_S} (h : bs_CI M S) : bs_api d 8 [bb_R 6 0] M (sp_settle S) := by
  unfold sp_settle
  have hi := h.2.1
  have c0 : ∀ k i j, i ≠ 1 → bb_cS M 1 0 k i j = M k i j := fun k i j z => bb_cS_o z
  have hC : bs_CI (bb_cS M 1 0) S := by
    obtain ⟨h1, h2, h3, h4, h5, h6, h7⟩ := h
    refine ⟨bs_rep_i h1 h2 (fun k n _ => c0 k 0 n (by decide)), h2, ?_, ?_, fun z => ⟨bs_rep_i (h5 z).1 (h5 z).2 (fun k n _ => c0 k 2 n (by decide)), (h5 z).2⟩, ⟨⟨?_, fun j hj => ?_⟩, h6.2⟩, fun j hj => ?_⟩
    · obtain ⟨g1, g2, nx, g3, g4, g5⟩ := h3
      exact ⟨g1, by rw [c0 _ _ _ (by decide)]; exact g2, nx, g3, by rw [c0 _ _ _ (by decide)]; exact g4, fun j hj => ⟨(g5 j hj).1, bs_rep_i (g5 j hj).2 (g5 j hj).1 (fun k n _ => c0 k _ n (by unfold bs_slot; omega))⟩⟩
    · rw [c0 _ _ _ (by decide)]; exact h4
    · rw [c0 _ _ _ (by decide)]; exact h6.1.1
    · rw [c0 _ _ _ (by decide)]; exact h6.1.2 j hj
    · rw [c0 _ _ _ (by decide), c0 _ _ _ (by decide)]; exact h7 j hj
  have r1 : bs_rep (bb_cS M 1 0) 1 S.a := bs_rep_cong h.1 hi.2.2.2.2.2.2.1.1 hi.2.2.2.2.2.2.2.2.1 (fun k n hk => bb_cS_i hk)
  have hc := hC.1
  obtain ⟨M2, e1, e2, e3, e4, e5⟩ := x_X6_letSandFollow (d := d + 1) (b := S.a) (lv := S.a 80) (M := bb_cS M 1 0) hi.1 hc.1 (hc.2.2.1 2 (by decide)) (hc.2.2.1 3 (by decide)) (by have := hi.2.2.2.2.1; omega) (by have := hi.2.2.2.2.2.1; omega)
  have r2 := bs_rep_ls hc hi e2 e3 e4 e5
  have i2 := br_ls_inv (lv := S.a 80) hi
  have hC2 := bs_CI_fr hC (bc_fr_ls e5) r2 i2
  have elv : bb_cS M 1 0 4 0 6 = S.a 80 := hc.2.1
  have lle := br_lr_le (lv := S.a 80) hi
  have refC : bs_ref M (bb_cS M 1 0) := fun k j hk => c0 k 0 j (by decide)
  by_cases q : br_lr S.a (S.a 80) = 0
  · rw [if_pos q]
    refine ⟨M2, fun k => bb_cal (st_X6_settle ?_), hC2, bs_ref_tr refC (bs_ref_fr (bc_fr_ls e5))⟩
    simp (disch := omega) only [e_X6_settle_0, e_X6_settle_1, e_X6_settle_4, e_X6_settle_5, e_X6_settle_8, e_X6_settle_11, e_X6_settle_12, e_X6_settle_13, e_X6_settle_16, e_X6_settle_19, e_X6_settle_22, e_X6_settle_23, e_X6_settle_24, e_X6_settle_27, e_X6_settle_30, e_X6_settle_31, e_X6_settle_32, e_X6_settle_35, e_X6_settle_36, e_X6_settle_39, e_X6_settle_42, e_X6_settle_43, Option.toList_some, Option.toList_none, List.cons_append, List.nil_append, true_and, and_true, and_self, bb_ite, true_or, or_true, Option.some.injEq, bb_I_eq, bb_b_0e, bb_b_1e, bb_b_e0, bb_b_e1, decide_eq_true_eq, decide_eq_false_iff_not, bn_01, bn_11, bb_b_01, ne_eq, Bool.not_eq_false, Bool.not_eq_true, Classical.not_not, bn_lt, bn_le, bn_ti, Int32.reduceToInt, bn_m20, bn_20m, nI_add, bn_p1, bn_s1, bn_in, bn_cl, implies_true, not_true_eq_false, not_false_eq_true, Bool.true_and, Bool.false_and, Bool.and_true, Bool.and_false, Bool.true_or, Bool.false_or, Bool.or_true, Bool.or_false, Bool.not_true, Bool.not_false, false_implies, true_implies, forall_const, Bool.false_eq_true, Bool.true_eq_false, reduceCtorEq, eq_self, Bool.and_eq_true, Bool.or_eq_true, Bool.and_eq_false_iff, Bool.or_eq_false_iff, and_false, false_and, or_false, false_or, x_X4_copyFrom, elv, e1, q, bn_nI0]
    try trivial
  · rw [if_neg q]
    have r3 : bs_rep M2 1 S.a := bs_rep_i r1 hi (fun k n _ => e5 k 1 n (by omega))
    obtain ⟨M3, g1, g2, g3⟩ := x_X0_record (d := d + 4) hC2.2.2.1 (s := 1) (by decide) r3 hi
    have hC3 := bs_CI_rec hC2 g2 g3
    refine ⟨M3, fun k => bb_cal (st_X6_settle ?_), hC3, bs_ref_tr (bs_ref_tr refC (bs_ref_fr (bc_fr_ls e5))) (bs_ref_fh g3)⟩
    simp (disch := omega) only [e_X6_settle_0, e_X6_settle_1, e_X6_settle_4, e_X6_settle_5, e_X6_settle_8, e_X6_settle_11, e_X6_settle_12, e_X6_settle_13, e_X6_settle_16, e_X6_settle_19, e_X6_settle_22, e_X6_settle_23, e_X6_settle_24, e_X6_settle_27, e_X6_settle_30, e_X6_settle_31, e_X6_settle_32, e_X6_settle_35, e_X6_settle_36, e_X6_settle_39, e_X6_settle_42, e_X6_settle_43, Option.toList_some, Option.toList_none, List.cons_append, List.nil_append, true_and, and_true, and_self, bb_ite, true_or, or_true, Option.some.injEq, bb_I_eq, bb_b_0e, bb_b_1e, bb_b_e0, bb_b_e1, decide_eq_true_eq, decide_eq_false_iff_not, bn_01, bn_11, bb_b_01, ne_eq, Bool.not_eq_false, Bool.not_eq_true, Classical.not_not, bn_lt, bn_le, bn_ti, Int32.reduceToInt, bn_m20, bn_20m, nI_add, bn_p1, bn_s1, bn_in, bn_cl, implies_true, not_true_eq_false, not_false_eq_true, Bool.true_and, Bool.false_and, Bool.and_true, Bool.and_false, Bool.true_or, Bool.false_or, Bool.or_true, Bool.or_false, Bool.not_true, Bool.not_false, false_implies, true_implies, forall_const, Bool.false_eq_true, Bool.true_eq_false, reduceCtorEq, eq_self, Bool.and_eq_true, Bool.or_eq_true, Bool.and_eq_false_iff, Bool.or_eq_false_iff, and_false, false_and, or_false, false_or, x_X4_copyFrom, elv, e1, q, bn_nI0, g1]
    try trivial
/-- the state after all waves ran -/
def br_b (a : Nat → Int32) (lv : Int32) : (Nat → Int32) × Int32 := br_rn a (br_so a (bs_sz a)) lv (bs_sz a)
def br_ca (a : Nat → Int32) (lv : Int32) : Nat → Int32 := upd (upd (upd (br_b a lv).1 138 (a 138 + nI (bs_sz a))) 139 (a 139 + (br_b a lv).2)) 142 (nI (bs_sz a))
theorem br_qs {a : Nat → Int32} (hi : bs_inv a) : ∀ x, x < bs_sz a → br_row a x < 4 ∧ a (86 + 2 * x) = nI (br_row a x) ∧ (1 ≤ br_hi a x ∧ br_hi a x ≤ 20) ∧ a (87 + 2 * x) = nI (br_hi a x) := by
  intro x hx
  obtain ⟨r, w, h1, h2, h3, h4, h5⟩ := hi.2.2.2.2.2.2.2.1 x hx
  have er : br_row a x = r := by unfold br_row; rw [h4, bn_ti (by omega)]; rfl
  have ew : br_hi a x = w := by unfold br_hi; rw [h5, bn_ti (by omega)]; rfl
  rw [er, ew]
  exact ⟨h1, h4, ⟨h2, h3⟩, h5⟩
theorem br_os {a : Nat → Int32} {s : Nat} (hs : s ≤ 24) : ∀ j, j < s → (br_so a s j).toInt.toNat < s := fun j hj => by
  obtain ⟨x, hx, e⟩ := br_so_ok (a := a) s j hj
  rw [e, bn_ti (by omega)]
  exact hx
theorem br_b_hi {a : Nat → Int32} {lv : Int32} (hi : bs_inv a) : ∀ j, (80 ≤ j ∧ j < 134 ∨ 136 ≤ j ∧ j < 143) → (br_b a lv).1 j = a j := (br_rn_hi hi.2.2.2.2.2.2.1.1 (fun x hx => (br_qs hi x hx).1) (br_os hi.2.2.2.2.2.2.1.1) _ (Nat.le_refl _)).1
theorem br_rn_b {a o : Nat → Int32} {lv : Int32} {s : Nat} (hs : s ≤ 24) (hB : bf_hb a) (hq : ∀ x, x < s → br_row a x < 4 ∧ br_hi a x ≤ 20) (ho : ∀ j, j < s → (o j).toInt.toNat < s) : ∀ t, t ≤ s → bf_hb (br_rn a o lv t).1
  | 0, _ => hB
  | t + 1, ht => by
    have ih := br_rn_b (lv := lv) hs hB hq ho t (by omega)
    have g := (br_rn_hi (lv := lv) hs (fun x hx => (hq x hx).1) ho t (by omega)).2 _ (ho t (by omega))
    have g2 := hq _ (ho t (by omega))
    intro j hj
    show 0 ≤ (br_tu (br_rn a o lv t).1 lv t (o t).toInt.toNat j).toInt ∧ (br_tu (br_rn a o lv t).1 lv t (o t).toInt.toNat j).toInt ≤ 99
    generalize (o t).toInt.toNat = x at g g2
    generalize (br_rn a o lv t).1 = b at ih g
    have hb : bf_rb (br_go b lv x).1 := by
      unfold br_go
      exact bw_run_b 20 _ _ (Nat.le_refl _) (by rw [g.2]; exact g2.2) (bf_rg_b ih (by rw [g.1]; exact g2.1))
    unfold br_tu
    by_cases z : 20 * br_row b x ≤ j ∧ j < 20 * br_row b x + 20
    · rw [if_pos z]
      exact hb _ (by omega)
    · rw [if_neg z, if_neg (by omega), if_neg (by omega), if_neg (by omega)]
      exact ih j hj
theorem br_c_sz {a : Nat → Int32} {lv : Int32} (hi : bs_inv a) : bs_sz (br_ca a lv) = bs_sz a := by
  unfold bs_sz br_ca
  rw [bw_upd_c (by decide), bw_upd_c (by decide), bw_upd_c (by decide), br_b_hi hi _ (by decide)]
theorem br_c_tl {a : Nat → Int32} {lv : Int32} (hi : bs_inv a) : bs_tl (br_ca a lv) = bs_sz a := by
  have := hi.2.2.2.2.2.2.1.1
  unfold bs_tl br_ca
  rw [bf_upd, if_pos rfl, bn_ti (by omega)]
  rfl
theorem br_c_hi {a : Nat → Int32} {lv : Int32} (hi : bs_inv a) {j : Nat} (h : 80 ≤ j ∧ j < 134 ∨ 136 ≤ j ∧ j < 138 ∨ 140 ≤ j ∧ j < 142) : br_ca a lv j = a j := by
  unfold br_ca
  rw [bw_upd_c (by omega), bw_upd_c (by omega), bw_upd_c (by omega), br_b_hi hi _ (by omega)]
theorem br_c_inv {a : Nat → Int32} {lv : Int32} (hi : bs_inv a) : bs_inv (br_ca a lv) := by
  have hq := br_qs hi
  have esz := br_c_sz (lv := lv) hi
  have etl := br_c_tl (lv := lv) hi
  have h7' := hi.2.2.2.2.2.2.1
  have hb := br_rn_b (lv := lv) h7'.1 hi.1 (fun x hx => ⟨(hq x hx).1, (hq x hx).2.2.1.2⟩) (br_os (a := a) h7'.1) _ (Nat.le_refl _)
  obtain ⟨h1, h2, h3, h4, h5, h6, h7, h8, h9⟩ := hi
  have hi : bs_inv a := ⟨h1, h2, h3, h4, h5, h6, h7, h8, h9⟩
  refine ⟨fun j hj => ?_, ?_, ?_, ?_, ?_, ?_, ?_, ?_, ?_⟩
  · unfold br_ca
    rw [bw_upd_c (by omega), bw_upd_c (by omega), bw_upd_c (by omega)]
    exact hb j hj
  · rw [br_c_hi hi (by decide)]; exact h2
  · rw [br_c_hi hi (by decide)]; exact h3
  · rw [br_c_hi hi (by decide)]; exact h4
  · rw [br_c_hi hi (by decide)]; exact h5
  · rw [br_c_hi hi (by decide)]; exact h6
  · rw [esz, br_c_hi hi (by decide)]; exact h7
  · rw [esz]
    intro j hj
    rw [br_c_hi hi (by omega), br_c_hi hi (by omega)]
    exact h8 j hj
  · rw [etl]
    exact ⟨h7.1, by unfold br_ca; rw [bf_upd, if_pos rfl]⟩
theorem x_X6_runWaves {d : Nat} {a : Nat → Int32} {lv : Int32} {M : bb_M} (h : bs_rep M 0 a) (hi : bs_inv a) : ∃ M', (∀ k : Option bb_V → bb_M → Prop, bb_call (bb_CL (d + 5)) 22 [bb_R 6 0, bb_I lv] M k ↔ k (some (bb_I (br_b a lv).2)) M') ∧ bs_rep M' 0 (br_ca a lv) ∧ bc_fr M M' := by
  have hq := br_qs hi
  have esz := br_c_sz (lv := lv) hi
  have etl := br_c_tl (lv := lv) hi
  have hsz := hi.2.2.2.2.2.2.1
  have h1 := h.1
  have e85 : M 1 0 2 = nI (bs_sz a) := by rw [h.2.2.2.1]; exact hsz.2
  have x1 := fun k => x_X6_sortWaves (d := d + 1) (s := bs_sz a) (a := a) (M := M) (k := k) e85 (h.2.2.1 1 (by decide)) (fun j hj => (h.2.2.2.2.1 j hj).2) hsz.1
  have o9 : ∀ k i j, k ≠ 19 → bb_wr M 19 0 0 (bs_sz a) (br_so a (bs_sz a)) k i j = M k i j := fun k i j z => bb_wr_k z
  have hI : br_I a (bs_sz a) (br_so a (bs_sz a)) 0 (br_rn a (br_so a (bs_sz a)) lv 0).1 (br_rn a (br_so a (bs_sz a)) lv 0).2 (bb_wr M 19 0 0 (bs_sz a) (br_so a (bs_sz a))) := by
    obtain ⟨g1, g2, g3, g4, g5, g6, g7, g8⟩ := h
    refine ⟨fun j hj => ?_, ?_, ?_, ?_, ?_, fun j hj => absurd hj (by omega), fun j hj => ?_, fun j hj => ?_, fun j hj => bb_wr_in0 hj, ?_, ?_, ?_⟩
    · rw [o9 _ _ _ (by decide)]; exact g1 j hj
    · rw [o9 _ _ _ (by decide)]; exact g6 0 (by decide)
    · rw [o9 _ _ _ (by decide)]; exact g6 1 (by decide)
    · rw [o9 _ _ _ (by decide), show nI 0 = 0 from rfl, Int32.add_zero]; exact g6 4 (by decide)
    · rw [o9 _ _ _ (by decide)]
      show _ = a 139 + 0
      rw [Int32.add_zero]
      exact g6 5 (by decide)
    · rw [o9 _ _ _ (by decide), o9 _ _ _ (by decide)]; exact g5 j hj
    · rw [o9 _ _ _ (by decide)]; exact g3 j hj
    · rw [o9 _ _ _ (by decide)]; exact g4
    · rw [o9 _ _ _ (by decide)]; exact g2
    · rw [o9 _ _ _ (by decide), o9 _ _ _ (by decide), o9 _ _ _ (by decide), o9 _ _ _ (by decide)]
      exact ⟨g6 2 (by decide), g6 3 (by decide), g6 6 (by decide), g6 7 (by decide)⟩
  obtain ⟨M', i1, i2, i3⟩ := l_X6_runWaves (d := d) (w0 := M) hsz.1 (fun x hx => ⟨(hq x hx).1, (hq x hx).2.1, (hq x hx).2.2.1.2, (hq x hx).2.2.2⟩) (br_so_ok (a := a) (bs_sz a)) (bs_sz a) 0 bb_U bb_U _ (Nat.zero_add _) hI
  have u4 : ∀ k i j, ¬ (k = 4 ∧ j = 5) → bb_up M' 4 0 5 (nI (bs_sz a)) k i j = M' k i j := fun k i j z => by
    unfold bb_up
    rw [if_neg (fun y => z ⟨y.1, y.2.2⟩)]
  have w9 : bb_wr M 19 0 0 (bs_sz a) (br_so a (bs_sz a)) 1 0 2 = nI (bs_sz a) := by rw [o9 _ _ _ (by decide), e85]
  refine ⟨bb_up M' 4 0 5 (nI (bs_sz a)), fun k => bb_cal (st_X6_runWaves ?_), ?_, bc_fr_tr (fun k i j hk => ?_) (bc_fr_tr i2 (bc_fr_up (by omega)))⟩
  · simp (disch := omega) only [e_X6_runWaves_0, e_X6_runWaves_1, e_X6_runWaves_4, e_X6_runWaves_5, e_X6_runWaves_6, e_X6_runWaves_7, e_X6_runWaves_10, e_X6_runWaves_13, e_X6_runWaves_16, e_X6_runWaves_17, e_X6_runWaves_18, e_X6_runWaves_22, e_X6_runWaves_23, e_X6_runWaves_26, e_X6_runWaves_27, e_X6_runWaves_30, e_X6_runWaves_32, e_X6_runWaves_33, e_X6_runWaves_35, e_X6_runWaves_36, e_X6_runWaves_39, e_X6_runWaves_42, e_X6_runWaves_44, e_X6_runWaves_47, e_X6_runWaves_49, e_X6_runWaves_50, e_X6_runWaves_53, e_X6_runWaves_54, e_X6_runWaves_57, e_X6_runWaves_60, e_X6_runWaves_61, e_X6_runWaves_64, e_X6_runWaves_67, e_X6_runWaves_69, e_X6_runWaves_72, e_X6_runWaves_74, e_X6_runWaves_75, e_X6_runWaves_76, e_X6_runWaves_78, e_X6_runWaves_81, e_X6_runWaves_84, e_X6_runWaves_85, e_X6_runWaves_88, e_X6_runWaves_89, e_X6_runWaves_92, e_X6_runWaves_94, e_X6_runWaves_97, e_X6_runWaves_98, e_X6_runWaves_99, e_X6_runWaves_102, e_X6_runWaves_103, e_X6_runWaves_106, e_X6_runWaves_107, e_X6_runWaves_108, e_X6_runWaves_111, e_X6_runWaves_114, e_X6_runWaves_115, e_X6_runWaves_118, e_X6_runWaves_119, e_X6_runWaves_122, e_X6_runWaves_123, Option.toList_some, Option.toList_none, List.cons_append, List.nil_append, true_and, and_true, and_self, bb_ite, true_or, or_true, Option.some.injEq, bb_I_eq, bb_b_0e, bb_b_1e, bb_b_e0, bb_b_e1, decide_eq_true_eq, decide_eq_false_iff_not, bn_01, bn_11, bb_b_01, ne_eq, Bool.not_eq_false, Bool.not_eq_true, Classical.not_not, x1, x_X1_size, w9]
    exact (i3 _).mpr ⟨rfl, rfl⟩
  · obtain ⟨j1, j2, j3, j4, j5, j6, j7, j8, j9, j10, j11, j12⟩ := i1
    refine ⟨fun j hj => ?_, ?_, fun j hj => ?_, ?_, ?_, fun j hj => ?_, ?_, ?_⟩
    · rw [u4 _ _ _ (by omega), j1 j hj]
      unfold br_ca
      rw [bw_upd_c (by omega), bw_upd_c (by omega), bw_upd_c (by omega)]
      rfl
    · rw [u4 _ _ _ (by omega), br_c_hi hi (by decide)]; exact j11
    · rw [u4 _ _ _ (by omega), br_c_hi hi (by omega)]; exact j8 j hj
    · rw [u4 _ _ _ (by omega), br_c_hi hi (by decide)]; exact j10
    · rw [esz]
      intro j hj
      rw [u4 _ _ _ (by omega), u4 _ _ _ (by omega), br_c_hi hi (by omega), br_c_hi hi (by omega)]
      exact j7 j hj
    · rw [u4 _ _ _ (by omega)]
      rcases (show j = 0 ∨ j = 1 ∨ j = 2 ∨ j = 3 ∨ j = 4 ∨ j = 5 ∨ j = 6 ∨ j = 7 by omega) with rfl | rfl | rfl | rfl | rfl | rfl | rfl | rfl
      · rw [j2]; rfl
      · rw [j3]; rfl
      · rw [j12.1, br_c_hi hi (by decide)]
      · rw [j12.2.1, br_c_hi hi (by decide)]
      · rw [j4]; rfl
      · rw [j5]; rfl
      · rw [j12.2.2.1, br_c_hi hi (by decide)]
      · rw [j12.2.2.2, br_c_hi hi (by decide)]
    · rw [bb_up_at]
      unfold br_ca
      rw [bf_upd, if_pos rfl]
    · rw [etl]
      intro j hj
      rw [u4 _ _ _ (by omega), j6 j hj]
      unfold br_ca
      rw [bw_upd_c (by omega), bw_upd_c (by omega), bw_upd_c (by omega)]
      rfl
  · unfold bb_wr
    rw [if_neg (by omega)]
def sp_run (S : bs_S) (x : Int32) : Int32 × bs_S := if bv x 0 30 = true then (if bs_sz S.a = 0 then (-1005, S) else ((br_b S.a (S.a 80 + x)).2, bs_act S (upd (br_ls (br_ca S.a (S.a 80 + x)) (S.a 80 + x)) 85 0))) else (-1002, S)
theorem bs_no {M : bb_M} {a : Nat → Int32} (h : bs_rep M 0 a) (hi : bs_inv a) : bs_rep (bb_up M 1 0 2 0) 0 (upd a 85 0) ∧ bs_inv (upd a 85 0) := by
  have etl : bs_tl (upd a 85 0) = bs_tl a := by unfold bs_tl; rw [bw_upd_c (by decide)]
  have esz : bs_sz (upd a 85 0) = 0 := rfl
  obtain ⟨g1, g2, g3, g4, g5, g6, g7, g8⟩ := h
  obtain ⟨h1, h2, h3, h4, h5, h6, h7, h8, h9⟩ := hi
  have u : ∀ k i j, k ≠ 1 → bb_up M 1 0 2 0 k i j = M k i j := fun k i j z => bb_up_k z
  refine ⟨⟨fun j hj => ?_, ?_, fun j hj => ?_, ?_, ?_, fun j hj => ?_, ?_, ?_⟩, fun j hj => ?_, ?_, ?_, ?_, ?_, ?_, ?_, ?_, ?_⟩
  · rw [u _ _ _ (by decide), bw_upd_c (by omega)]; exact g1 j hj
  · rw [u _ _ _ (by decide), bw_upd_c (by omega)]; exact g2
  · rw [u _ _ _ (by decide), bw_upd_c (by omega)]; exact g3 j hj
  · rw [bb_up_at, bf_upd, if_pos rfl]
  · rw [esz]
    exact fun j hj => absurd hj (Nat.not_lt_zero j)
  · rw [u _ _ _ (by decide), bw_upd_c (by omega)]; exact g6 j hj
  · rw [u _ _ _ (by decide), bw_upd_c (by omega)]; exact g7
  · rw [etl]
    intro j hj
    rw [u _ _ _ (by decide), bw_upd_c (by omega)]; exact g8 j hj
  · rw [bw_upd_c (by omega)]; exact h1 j hj
  · rw [bw_upd_c (by omega)]; exact h2
  · rw [bw_upd_c (by omega)]; exact h3
  · rw [bw_upd_c (by omega)]; exact h4
  · rw [bw_upd_c (by omega)]; exact h5
  · rw [bw_upd_c (by omega)]; exact h6
  · exact ⟨by rw [esz]; omega, rfl⟩
  · rw [esz]
    exact fun j hj => absurd hj (Nat.not_lt_zero j)
  · rw [etl, bw_upd_c (by omega)]; exact h9
theorem c_run {d : Nat} {M : bb_M} {S : bs_S} {x : Int32} (h : bs_CI M S) : bs_api d 7 [bb_R 6 0, bb_I x] M (sp_run S x) := by
  unfold sp_run
  have hsz := h.2.1.2.2.2.2.2.2.1
  have e85 : M 1 0 2 = nI (bs_sz S.a) := by rw [h.1.2.2.2.1]; exact hsz.2
  by_cases q1 : bv x 0 30 = true
  · rw [if_pos q1]
    have b1 := bv_iff.mp q1
    have l1 : ¬ x.toInt < 0 := by omega
    have l2 : x.toInt ≤ 30 := b1.2
    by_cases q3 : bs_sz S.a = 0
    · rw [if_pos q3]
      refine ⟨M, fun k => bb_cal (st_X6_run ?_), h, bs_ref_rf⟩
      simp (disch := omega) only [e_X6_run_0, e_X6_run_1, e_X6_run_4, e_X6_run_5, e_X6_run_7, e_X6_run_10, e_X6_run_13, e_X6_run_14, e_X6_run_15, e_X6_run_18, e_X6_run_21, e_X6_run_24, e_X6_run_27, e_X6_run_30, e_X6_run_31, e_X6_run_32, e_X6_run_35, e_X6_run_36, e_X6_run_39, e_X6_run_42, e_X6_run_43, e_X6_run_46, e_X6_run_49, e_X6_run_50, e_X6_run_51, e_X6_run_52, e_X6_run_53, e_X6_run_54, e_X6_run_57, e_X6_run_58, e_X6_run_59, e_X6_run_60, e_X6_run_63, e_X6_run_64, e_X6_run_65, e_X6_run_68, e_X6_run_71, e_X6_run_74, e_X6_run_75, Option.toList_some, Option.toList_none, List.cons_append, List.nil_append, true_and, and_true, and_self, bb_ite, true_or, or_true, Option.some.injEq, bb_I_eq, bb_b_0e, bb_b_1e, bb_b_e0, bb_b_e1, decide_eq_true_eq, decide_eq_false_iff_not, bn_01, bn_11, bb_b_01, ne_eq, Bool.not_eq_false, Bool.not_eq_true, Classical.not_not, bn_lt, bn_le, bn_ti, Int32.reduceToInt, bn_m20, bn_20m, nI_add, bn_p1, bn_s1, bn_in, bn_cl, implies_true, not_true_eq_false, not_false_eq_true, Bool.true_and, Bool.false_and, Bool.and_true, Bool.and_false, Bool.true_or, Bool.false_or, Bool.or_true, Bool.or_false, Bool.not_true, Bool.not_false, false_implies, true_implies, forall_const, Bool.false_eq_true, Bool.true_eq_false, reduceCtorEq, eq_self, Bool.and_eq_true, Bool.or_eq_true, Bool.and_eq_false_iff, Bool.or_eq_false_iff, and_false, false_and, or_false, false_or, l1, l2, x_X1_size, e85, q3, bn_nI0]
    · rw [if_neg q3]
      obtain ⟨M1, e1, r1, f1, g1, g2, fin⟩ := bs_rec (d := d + 4) h
      have hi := h.2.1
      obtain ⟨M2, e2, r2, f2⟩ := x_X6_runWaves (d := d + 2) (lv := S.a 80 + x) r1 hi
      have ic := br_c_inv (lv := S.a 80 + x) hi
      obtain ⟨M3, e3, w1, w2, w3, w4⟩ := x_X6_letSandFollow (d := d + 1) (b := br_ca S.a (S.a 80 + x)) (lv := S.a 80 + x) (M := M2) ic.1 r2.1 (r2.2.2.1 2 (by decide)) (r2.2.2.1 3 (by decide)) (by have := ic.2.2.2.2.1; omega) (by have := ic.2.2.2.2.2.1; omega)
      have r3 := bs_rep_ls r2 ic w1 w2 w3 w4
      obtain ⟨r4, i4⟩ := bs_no r3 (br_ls_inv (lv := S.a 80 + x) ic)
      obtain ⟨c1, c2⟩ := fin _ _ (bc_fr_tr f2 (bc_fr_tr (bc_fr_ls w4) (bc_fr_up (k := 1) (j := 2) (v := 0) (by omega)))) r4 i4
      have e80 : M1 4 0 6 = S.a 80 := r1.2.1
      refine ⟨_, fun k => bb_cal (st_X6_run ?_), c1, c2⟩
      simp (disch := omega) only [e_X6_run_0, e_X6_run_1, e_X6_run_4, e_X6_run_5, e_X6_run_7, e_X6_run_10, e_X6_run_13, e_X6_run_14, e_X6_run_15, e_X6_run_18, e_X6_run_21, e_X6_run_24, e_X6_run_27, e_X6_run_30, e_X6_run_31, e_X6_run_32, e_X6_run_35, e_X6_run_36, e_X6_run_39, e_X6_run_42, e_X6_run_43, e_X6_run_46, e_X6_run_49, e_X6_run_50, e_X6_run_51, e_X6_run_52, e_X6_run_53, e_X6_run_54, e_X6_run_57, e_X6_run_58, e_X6_run_59, e_X6_run_60, e_X6_run_63, e_X6_run_64, e_X6_run_65, e_X6_run_68, e_X6_run_71, e_X6_run_74, e_X6_run_75, Option.toList_some, Option.toList_none, List.cons_append, List.nil_append, true_and, and_true, and_self, bb_ite, true_or, or_true, Option.some.injEq, bb_I_eq, bb_b_0e, bb_b_1e, bb_b_e0, bb_b_e1, decide_eq_true_eq, decide_eq_false_iff_not, bn_01, bn_11, bb_b_01, ne_eq, Bool.not_eq_false, Bool.not_eq_true, Classical.not_not, bn_lt, bn_le, bn_ti, Int32.reduceToInt, bn_m20, bn_20m, nI_add, bn_p1, bn_s1, bn_in, bn_cl, implies_true, not_true_eq_false, not_false_eq_true, Bool.true_and, Bool.false_and, Bool.and_true, Bool.and_false, Bool.true_or, Bool.false_or, Bool.or_true, Bool.or_false, Bool.not_true, Bool.not_false, false_implies, true_implies, forall_const, Bool.false_eq_true, Bool.true_eq_false, reduceCtorEq, eq_self, Bool.and_eq_true, Bool.or_eq_true, Bool.and_eq_false_iff, Bool.or_eq_false_iff, and_false, false_and, or_false, false_or, l1, l2, x_X1_size, e85, q3, bn_nI0, e1, e80, e2, e3, x_X1_removeAll]
      try trivial
  · rw [if_neg q1]
    refine ⟨M, fun k => bb_cal (st_X6_run ?_), h, bs_ref_rf⟩
    rw [bv_iff] at q1
    by_cases l1 : x.toInt < 0
    · simp (disch := omega) only [e_X6_run_0, e_X6_run_1, e_X6_run_4, e_X6_run_5, e_X6_run_7, e_X6_run_10, e_X6_run_13, e_X6_run_14, e_X6_run_15, e_X6_run_18, e_X6_run_21, e_X6_run_24, e_X6_run_27, e_X6_run_30, e_X6_run_31, e_X6_run_32, e_X6_run_35, e_X6_run_36, e_X6_run_39, e_X6_run_42, e_X6_run_43, e_X6_run_46, e_X6_run_49, e_X6_run_50, e_X6_run_51, e_X6_run_52, e_X6_run_53, e_X6_run_54, e_X6_run_57, e_X6_run_58, e_X6_run_59, e_X6_run_60, e_X6_run_63, e_X6_run_64, e_X6_run_65, e_X6_run_68, e_X6_run_71, e_X6_run_74, e_X6_run_75, Option.toList_some, Option.toList_none, List.cons_append, List.nil_append, true_and, and_true, and_self, bb_ite, true_or, or_true, Option.some.injEq, bb_I_eq, bb_b_0e, bb_b_1e, bb_b_e0, bb_b_e1, decide_eq_true_eq, decide_eq_false_iff_not, bn_01, bn_11, bb_b_01, ne_eq, Bool.not_eq_false, Bool.not_eq_true, Classical.not_not, bn_lt, bn_le, bn_ti, Int32.reduceToInt, bn_m20, bn_20m, nI_add, bn_p1, bn_s1, bn_in, bn_cl, implies_true, not_true_eq_false, not_false_eq_true, Bool.true_and, Bool.false_and, Bool.and_true, Bool.and_false, Bool.true_or, Bool.false_or, Bool.or_true, Bool.or_false, Bool.not_true, Bool.not_false, false_implies, true_implies, forall_const, Bool.false_eq_true, Bool.true_eq_false, reduceCtorEq, eq_self, Bool.and_eq_true, Bool.or_eq_true, Bool.and_eq_false_iff, Bool.or_eq_false_iff, and_false, false_and, or_false, false_or, l1]
    · have l2 : ¬ x.toInt ≤ 30 := by omega
      simp (disch := omega) only [e_X6_run_0, e_X6_run_1, e_X6_run_4, e_X6_run_5, e_X6_run_7, e_X6_run_10, e_X6_run_13, e_X6_run_14, e_X6_run_15, e_X6_run_18, e_X6_run_21, e_X6_run_24, e_X6_run_27, e_X6_run_30, e_X6_run_31, e_X6_run_32, e_X6_run_35, e_X6_run_36, e_X6_run_39, e_X6_run_42, e_X6_run_43, e_X6_run_46, e_X6_run_49, e_X6_run_50, e_X6_run_51, e_X6_run_52, e_X6_run_53, e_X6_run_54, e_X6_run_57, e_X6_run_58, e_X6_run_59, e_X6_run_60, e_X6_run_63, e_X6_run_64, e_X6_run_65, e_X6_run_68, e_X6_run_71, e_X6_run_74, e_X6_run_75, Option.toList_some, Option.toList_none, List.cons_append, List.nil_append, true_and, and_true, and_self, bb_ite, true_or, or_true, Option.some.injEq, bb_I_eq, bb_b_0e, bb_b_1e, bb_b_e0, bb_b_e1, decide_eq_true_eq, decide_eq_false_iff_not, bn_01, bn_11, bb_b_01, ne_eq, Bool.not_eq_false, Bool.not_eq_true, Classical.not_not, bn_lt, bn_le, bn_ti, Int32.reduceToInt, bn_m20, bn_20m, nI_add, bn_p1, bn_s1, bn_in, bn_cl, implies_true, not_true_eq_false, not_false_eq_true, Bool.true_and, Bool.false_and, Bool.and_true, Bool.and_false, Bool.true_or, Bool.false_or, Bool.or_true, Bool.or_false, Bool.not_true, Bool.not_false, false_implies, true_implies, forall_const, Bool.false_eq_true, Bool.true_eq_false, reduceCtorEq, eq_self, Bool.and_eq_true, Bool.or_eq_true, Bool.and_eq_false_iff, Bool.or_eq_false_iff, and_false, false_and, or_false, false_or, l1, l2]
