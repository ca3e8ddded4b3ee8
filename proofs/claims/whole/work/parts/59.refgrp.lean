/-! THE REFERENCE: a group, the fault of a text -/
theorem x_X7_readsGroup {d p tl g w : Nat} {tx : Nat → Int32} {M : bb_M} (hT : bm_TT tx tl p g w M) (htl : tl ≤ 60) (hp : p ≤ tl) (hg : g ≤ 15) (hw : w ≤ 1000) : ∃ M' res, (∀ k : Option bb_V → bb_M → Prop, bb_call (bb_CL (d + 4)) 64 [bb_R 7 0] M k ↔ k (some (bb_I res)) M') ∧ bm_gr M g w M' res (bt_grp tx tl p) := by
  unfold bt_grp
  have v1 : (3 : Int32) * nI g + 1 = nI (3 * g + 1) := by rw [bm_m3, bn_p1]
  by_cases q0 : bt_d tx tl p 48 51 = true
  · rw [if_pos q0]
    obtain ⟨M1, x1, T1, a1, j1, f1⟩ := x_X7_digT (d := d) (lo := 48) (hi := 51) (x := 0) (pl := 0) hT htl hp hg (by decide) rfl ⟨by decide, by decide⟩ q0
    have p1 := (bt_d_iff.mp q0).1
    by_cases q1 : bt_d tx tl (p + 1) 104 104 = true
    · rw [if_pos q1]
      obtain ⟨M2, x2, T2, j2, f2⟩ := x_X7_takesT (d := d) (c := 104) T1 htl p1 q1
      have p2 := (bt_d_iff.mp q1).1
      by_cases q2 : bt_d tx tl (p + 2) 49 57 = true
      · rw [if_pos q2]
        obtain ⟨M3, x3, T3, a3, j3, f3⟩ := x_X7_digT (d := d) (lo := 49) (hi := 57) (x := 1) (pl := 1) T2 htl p2 hg (by decide) rfl ⟨by decide, by decide⟩ q2
        have p3 := (bt_d_iff.mp q2).1
        have hv : bt_v tx (p + 2) ≤ 9 := by
          have := bt_d_iff.mp q2
          unfold bt_v
          omega
        have b0 : M3 29 0 (3 * g) = nI (bt_v tx p) := by rw [j3 _ (by omega), j2]; exact a1
        have bl : ∀ j, j < 3 * g → M3 29 0 j = M 29 0 j := fun j hj => by rw [j3 _ (by omega), j2, j1 _ (by omega)]
        have fM := bm_tf_tr f1 (bm_tf_tr f2 f3)
        have x4 := fun k => x_X7_isHere (d := d + 1) (lo := 48) (hi := 57) (k := k) T3 htl p3
        have t4 := T3.2.2.1
        have t3 := T3.2.1
        have c48 : (48 : Int32).toInt = 48 := rfl
        have c57 : (57 : Int32).toInt = 57 := rfl
        rw [c48, c57] at x4
        unfold bt_hs
        by_cases q3 : bt_d tx tl (p + 3) 48 57 = true
        · rw [q3] at x4
          have x4' : ∀ k : Option bb_V → bb_M → Prop, bb_call (bb_CL (d + 3)) 61 [bb_R 7 0, bb_I 48, bb_I 57] M3 k ↔ k (some (bb_I 1)) M3 := x4
          have q3' := bt_d_iff.mp q3
          have t6 : M3 28 0 (p + 3) = tx (p + 3) := T3.1.2 _ q3'.1
          have es : 10 * nI (bt_v tx (p + 2)) + tx (p + 3) - 48 = nI (10 * bt_v tx (p + 2) + bt_v tx (p + 3)) := by
            obtain ⟨q, hq⟩ : ∃ q : Nat, (tx (p + 3)).toInt = (48 + q : Nat) := ⟨(tx (p + 3)).toInt.toNat - 48, by omega⟩
            have ec : tx (p + 3) = nI (48 + q) := by rw [bn_eq, bn_ti (by omega), hq]
            have ev : bt_v tx (p + 3) = q := by unfold bt_v; omega
            rw [ev, ec, show (10 : Int32) = nI 10 from rfl, pk_mul, nI_add, show (48 : Int32) = nI 48 from rfl, pk_sub (by omega)]
            congr 1
            omega
          have hv3 : bt_v tx (p + 3) ≤ 9 := by unfold bt_v; omega
          by_cases q4 : 10 * bt_v tx (p + 2) + bt_v tx (p + 3) ≤ 20
          · rw [if_pos ⟨q3, q4⟩]
            have fN : bm_tf M3 (bb_up (bb_up M3 29 0 (3 * g + 1) (nI (10 * bt_v tx (p + 2) + bt_v tx (p + 3)))) 7 0 12 (nI (p + 3 + 1))) := fun k i j a b => by
              unfold bb_up
              rw [if_neg (by omega), if_neg (by omega)]
            have u12 : bb_up M3 29 0 (3 * g + 1) (nI (10 * bt_v tx (p + 2) + bt_v tx (p + 3))) 7 0 12 = nI (p + 3) := by rw [bb_up_k (by decide)]; exact t3
            obtain ⟨M', res, x5, g5⟩ := l_X7_grpTail (d := d) (z := bb_I (nI (bt_v tx (p + 2)))) (r := bt_v tx p) (h := 10 * bt_v tx (p + 2) + bt_v tx (p + 3)) (p := p + 3 + 1) (w := w) (tx := tx) (tl := tl) (N := bb_up (bb_up M3 29 0 (3 * g + 1) (nI (10 * bt_v tx (p + 2) + bt_v tx (p + 3)))) 7 0 12 (nI (p + 3 + 1))) ⟨bm_TX_fr T3.1 fN, bb_up_at, by rw [bb_up_j (by decide), bb_up_k (by decide)]; exact t4, by rw [bb_up_j (by decide), bb_up_k (by decide)]; exact T3.2.2.2⟩ htl q3'.1 hg hw (by rw [bb_up_k (by decide), bb_up_j (by omega)]; exact b0) (by rw [bb_up_k (by decide), bb_up_at])
            refine ⟨M', res, fun k => bb_cal (st_X7_readsGroup ?_), bm_gr_tr g5 (bm_tf_tr fM fN) (fun j hj => by rw [bb_up_k (by decide), bb_up_j (by omega)]; exact bl j hj)⟩
            have i1 := (x5 (fun r' M'' => r' = some (bb_I res) ∧ M'' = M')).mpr ⟨rfl, rfl⟩
            have l : ¬ (20 : Int32).toInt < ((10 * bt_v tx (p + 2) + bt_v tx (p + 3) : Nat) : Int) := by
              show ¬ (20 : Int) < _
              omega
            simp (disch := omega) only [e_X7_readsGroup_0, e_X7_readsGroup_1, e_X7_readsGroup_3, e_X7_readsGroup_5, e_X7_readsGroup_6, e_X7_readsGroup_9, e_X7_readsGroup_12, e_X7_readsGroup_13, e_X7_readsGroup_15, e_X7_readsGroup_18, e_X7_readsGroup_21, e_X7_readsGroup_22, e_X7_readsGroup_24, e_X7_readsGroup_26, e_X7_readsGroup_27, e_X7_readsGroup_30, e_X7_readsGroup_33, e_X7_readsGroup_34, e_X7_readsGroup_35, e_X7_readsGroup_36, e_X7_readsGroup_39, e_X7_readsGroup_40, e_X7_readsGroup_41, e_X7_readsGroup_44, e_X7_readsGroup_45, e_X7_readsGroup_46, e_X7_readsGroup_47, e_X7_readsGroup_48, e_X7_readsGroup_49, e_X7_readsGroup_50, e_X7_readsGroup_52, e_X7_readsGroup_54, e_X7_readsGroup_57, e_X7_readsGroup_60, e_X7_readsGroup_62, e_X7_readsGroup_63, e_X7_readsGroup_64, e_X7_readsGroup_65, e_X7_readsGroup_68, e_X7_readsGroup_69, e_X7_readsGroup_72, e_X7_readsGroup_73, e_X7_readsGroup_74, e_X7_readsGroup_76, e_X7_readsGroup_77, e_X7_readsGroup_79, e_X7_readsGroup_82, e_X7_readsGroup_83, e_X7_readsGroup_86, e_X7_readsGroup_87, e_X7_readsGroup_88, e_X7_readsGroup_91, e_X7_readsGroup_92, e_X7_readsGroup_93, e_X7_readsGroup_94, e_X7_readsGroup_96, e_X7_readsGroup_97, e_X7_readsGroup_98, e_X7_readsGroup_99, e_X7_readsGroup_102, e_X7_readsGroup_103, e_X7_readsGroup_106, e_X7_readsGroup_107, e_X7_readsGroup_108, e_X7_readsGroup_110, e_X7_readsGroup_111, e_X7_readsGroup_112, e_X7_readsGroup_113, e_X7_readsGroup_114, e_X7_readsGroup_117, e_X7_readsGroup_118, e_X7_readsGroup_119, Option.toList_some, Option.toList_none, List.cons_append, List.nil_append, true_and, and_true, and_self, bb_ite, true_or, or_true, Option.some.injEq, bb_I_eq, bb_b_0e, bb_b_1e, bb_b_e0, bb_b_e1, decide_eq_true_eq, decide_eq_false_iff_not, bn_01, bn_11, bb_b_01, ne_eq, Bool.not_eq_false, Bool.not_eq_true, Classical.not_not, bn_in, bn_cl, bn_lt, bn_ti, x1, x2, x3, bm_10, if_false, not_false_eq_true, if_true, v1, t4, t3, a3, x4', t6, es, l, u12, bn_p1]
            exact i1
          · rw [if_neg (fun z => q4 z.2)]
            obtain ⟨M', res, x5, g5⟩ := l_X7_grpTail (d := d) (z := bb_I (nI (bt_v tx (p + 2)))) (r := bt_v tx p) (h := bt_v tx (p + 2)) T3 htl p3 hg hw b0 a3
            refine ⟨M', res, fun k => bb_cal (st_X7_readsGroup ?_), bm_gr_tr g5 fM bl⟩
            have i1 := (x5 (fun r' M'' => r' = some (bb_I res) ∧ M'' = M')).mpr ⟨rfl, rfl⟩
            have l : (20 : Int32).toInt < ((10 * bt_v tx (p + 2) + bt_v tx (p + 3) : Nat) : Int) := by
              show (20 : Int) < _
              omega
            simp (disch := omega) only [e_X7_readsGroup_0, e_X7_readsGroup_1, e_X7_readsGroup_3, e_X7_readsGroup_5, e_X7_readsGroup_6, e_X7_readsGroup_9, e_X7_readsGroup_12, e_X7_readsGroup_13, e_X7_readsGroup_15, e_X7_readsGroup_18, e_X7_readsGroup_21, e_X7_readsGroup_22, e_X7_readsGroup_24, e_X7_readsGroup_26, e_X7_readsGroup_27, e_X7_readsGroup_30, e_X7_readsGroup_33, e_X7_readsGroup_34, e_X7_readsGroup_35, e_X7_readsGroup_36, e_X7_readsGroup_39, e_X7_readsGroup_40, e_X7_readsGroup_41, e_X7_readsGroup_44, e_X7_readsGroup_45, e_X7_readsGroup_46, e_X7_readsGroup_47, e_X7_readsGroup_48, e_X7_readsGroup_49, e_X7_readsGroup_50, e_X7_readsGroup_52, e_X7_readsGroup_54, e_X7_readsGroup_57, e_X7_readsGroup_60, e_X7_readsGroup_62, e_X7_readsGroup_63, e_X7_readsGroup_64, e_X7_readsGroup_65, e_X7_readsGroup_68, e_X7_readsGroup_69, e_X7_readsGroup_72, e_X7_readsGroup_73, e_X7_readsGroup_74, e_X7_readsGroup_76, e_X7_readsGroup_77, e_X7_readsGroup_79, e_X7_readsGroup_82, e_X7_readsGroup_83, e_X7_readsGroup_86, e_X7_readsGroup_87, e_X7_readsGroup_88, e_X7_readsGroup_91, e_X7_readsGroup_92, e_X7_readsGroup_93, e_X7_readsGroup_94, e_X7_readsGroup_96, e_X7_readsGroup_97, e_X7_readsGroup_98, e_X7_readsGroup_99, e_X7_readsGroup_102, e_X7_readsGroup_103, e_X7_readsGroup_106, e_X7_readsGroup_107, e_X7_readsGroup_108, e_X7_readsGroup_110, e_X7_readsGroup_111, e_X7_readsGroup_112, e_X7_readsGroup_113, e_X7_readsGroup_114, e_X7_readsGroup_117, e_X7_readsGroup_118, e_X7_readsGroup_119, Option.toList_some, Option.toList_none, List.cons_append, List.nil_append, true_and, and_true, and_self, bb_ite, true_or, or_true, Option.some.injEq, bb_I_eq, bb_b_0e, bb_b_1e, bb_b_e0, bb_b_e1, decide_eq_true_eq, decide_eq_false_iff_not, bn_01, bn_11, bb_b_01, ne_eq, Bool.not_eq_false, Bool.not_eq_true, Classical.not_not, bn_in, bn_cl, bn_lt, bn_ti, x1, x2, x3, bm_10, if_false, not_false_eq_true, if_true, v1, t4, t3, a3, x4', t6, es, l]
            exact i1
        · rw [if_neg (fun z => q3 z.1)]
          rw [Bool.not_eq_true] at q3
          rw [q3] at x4
          have x4' : ∀ k : Option bb_V → bb_M → Prop, bb_call (bb_CL (d + 3)) 61 [bb_R 7 0, bb_I 48, bb_I 57] M3 k ↔ k (some (bb_I 0)) M3 := x4
          obtain ⟨M', res, x5, g5⟩ := l_X7_grpTail (d := d) (z := bb_I (nI (bt_v tx (p + 2)))) (r := bt_v tx p) (h := bt_v tx (p + 2)) T3 htl p3 hg hw b0 a3
          refine ⟨M', res, fun k => bb_cal (st_X7_readsGroup ?_), bm_gr_tr g5 fM bl⟩
          have i1 := (x5 (fun r' M'' => r' = some (bb_I res) ∧ M'' = M')).mpr ⟨rfl, rfl⟩
          simp (disch := omega) only [e_X7_readsGroup_0, e_X7_readsGroup_1, e_X7_readsGroup_3, e_X7_readsGroup_5, e_X7_readsGroup_6, e_X7_readsGroup_9, e_X7_readsGroup_12, e_X7_readsGroup_13, e_X7_readsGroup_15, e_X7_readsGroup_18, e_X7_readsGroup_21, e_X7_readsGroup_22, e_X7_readsGroup_24, e_X7_readsGroup_26, e_X7_readsGroup_27, e_X7_readsGroup_30, e_X7_readsGroup_33, e_X7_readsGroup_34, e_X7_readsGroup_35, e_X7_readsGroup_36, e_X7_readsGroup_39, e_X7_readsGroup_40, e_X7_readsGroup_41, e_X7_readsGroup_44, e_X7_readsGroup_45, e_X7_readsGroup_46, e_X7_readsGroup_47, e_X7_readsGroup_48, e_X7_readsGroup_49, e_X7_readsGroup_50, e_X7_readsGroup_52, e_X7_readsGroup_54, e_X7_readsGroup_57, e_X7_readsGroup_60, e_X7_readsGroup_62, e_X7_readsGroup_63, e_X7_readsGroup_64, e_X7_readsGroup_65, e_X7_readsGroup_68, e_X7_readsGroup_69, e_X7_readsGroup_72, e_X7_readsGroup_73, e_X7_readsGroup_74, e_X7_readsGroup_76, e_X7_readsGroup_77, e_X7_readsGroup_79, e_X7_readsGroup_82, e_X7_readsGroup_83, e_X7_readsGroup_86, e_X7_readsGroup_87, e_X7_readsGroup_88, e_X7_readsGroup_91, e_X7_readsGroup_92, e_X7_readsGroup_93, e_X7_readsGroup_94, e_X7_readsGroup_96, e_X7_readsGroup_97, e_X7_readsGroup_98, e_X7_readsGroup_99, e_X7_readsGroup_102, e_X7_readsGroup_103, e_X7_readsGroup_106, e_X7_readsGroup_107, e_X7_readsGroup_108, e_X7_readsGroup_110, e_X7_readsGroup_111, e_X7_readsGroup_112, e_X7_readsGroup_113, e_X7_readsGroup_114, e_X7_readsGroup_117, e_X7_readsGroup_118, e_X7_readsGroup_119, Option.toList_some, Option.toList_none, List.cons_append, List.nil_append, true_and, and_true, and_self, bb_ite, true_or, or_true, Option.some.injEq, bb_I_eq, bb_b_0e, bb_b_1e, bb_b_e0, bb_b_e1, decide_eq_true_eq, decide_eq_false_iff_not, bn_01, bn_11, bb_b_01, ne_eq, Bool.not_eq_false, Bool.not_eq_true, Classical.not_not, bn_in, bn_cl, x1, x2, x3, bm_10, if_false, not_false_eq_true, if_true, v1, t4, t3, a3, x4']
          exact i1
      · rw [if_neg q2]
        have x3 := fun k => x_X7_digF (d := d) (lo := 49) (hi := 57) (x := 1) (k := k) T2 htl p2 q2
        refine ⟨M2, 0, fun k => bb_cal (st_X7_readsGroup ?_), rfl, T2.2.1, bm_tf_tr f1 f2⟩
        simp (disch := omega) only [e_X7_readsGroup_0, e_X7_readsGroup_1, e_X7_readsGroup_3, e_X7_readsGroup_5, e_X7_readsGroup_6, e_X7_readsGroup_9, e_X7_readsGroup_12, e_X7_readsGroup_13, e_X7_readsGroup_15, e_X7_readsGroup_18, e_X7_readsGroup_21, e_X7_readsGroup_22, e_X7_readsGroup_24, e_X7_readsGroup_26, e_X7_readsGroup_27, e_X7_readsGroup_30, e_X7_readsGroup_33, e_X7_readsGroup_34, e_X7_readsGroup_35, e_X7_readsGroup_36, e_X7_readsGroup_39, e_X7_readsGroup_40, e_X7_readsGroup_41, e_X7_readsGroup_44, e_X7_readsGroup_45, e_X7_readsGroup_46, e_X7_readsGroup_47, e_X7_readsGroup_48, e_X7_readsGroup_49, e_X7_readsGroup_50, e_X7_readsGroup_52, e_X7_readsGroup_54, e_X7_readsGroup_57, e_X7_readsGroup_60, e_X7_readsGroup_62, e_X7_readsGroup_63, e_X7_readsGroup_64, e_X7_readsGroup_65, e_X7_readsGroup_68, e_X7_readsGroup_69, e_X7_readsGroup_72, e_X7_readsGroup_73, e_X7_readsGroup_74, e_X7_readsGroup_76, e_X7_readsGroup_77, e_X7_readsGroup_79, e_X7_readsGroup_82, e_X7_readsGroup_83, e_X7_readsGroup_86, e_X7_readsGroup_87, e_X7_readsGroup_88, e_X7_readsGroup_91, e_X7_readsGroup_92, e_X7_readsGroup_93, e_X7_readsGroup_94, e_X7_readsGroup_96, e_X7_readsGroup_97, e_X7_readsGroup_98, e_X7_readsGroup_99, e_X7_readsGroup_102, e_X7_readsGroup_103, e_X7_readsGroup_106, e_X7_readsGroup_107, e_X7_readsGroup_108, e_X7_readsGroup_110, e_X7_readsGroup_111, e_X7_readsGroup_112, e_X7_readsGroup_113, e_X7_readsGroup_114, e_X7_readsGroup_117, e_X7_readsGroup_118, e_X7_readsGroup_119, Option.toList_some, Option.toList_none, List.cons_append, List.nil_append, true_and, and_true, and_self, bb_ite, true_or, or_true, Option.some.injEq, bb_I_eq, bb_b_0e, bb_b_1e, bb_b_e0, bb_b_e1, decide_eq_true_eq, decide_eq_false_iff_not, bn_01, bn_11, bb_b_01, ne_eq, Bool.not_eq_false, Bool.not_eq_true, Classical.not_not, x1, x2, x3, bm_10, if_false, if_true, not_true_eq_false]
        try trivial
    · rw [if_neg q1]
      have x2 := fun k => x_X7_takesF (d := d) (c := 104) (k := k) T1 htl p1 q1
      refine ⟨M1, 0, fun k => bb_cal (st_X7_readsGroup ?_), rfl, T1.2.1, f1⟩
      simp (disch := omega) only [e_X7_readsGroup_0, e_X7_readsGroup_1, e_X7_readsGroup_3, e_X7_readsGroup_5, e_X7_readsGroup_6, e_X7_readsGroup_9, e_X7_readsGroup_12, e_X7_readsGroup_13, e_X7_readsGroup_15, e_X7_readsGroup_18, e_X7_readsGroup_21, e_X7_readsGroup_22, e_X7_readsGroup_24, e_X7_readsGroup_26, e_X7_readsGroup_27, e_X7_readsGroup_30, e_X7_readsGroup_33, e_X7_readsGroup_34, e_X7_readsGroup_35, e_X7_readsGroup_36, e_X7_readsGroup_39, e_X7_readsGroup_40, e_X7_readsGroup_41, e_X7_readsGroup_44, e_X7_readsGroup_45, e_X7_readsGroup_46, e_X7_readsGroup_47, e_X7_readsGroup_48, e_X7_readsGroup_49, e_X7_readsGroup_50, e_X7_readsGroup_52, e_X7_readsGroup_54, e_X7_readsGroup_57, e_X7_readsGroup_60, e_X7_readsGroup_62, e_X7_readsGroup_63, e_X7_readsGroup_64, e_X7_readsGroup_65, e_X7_readsGroup_68, e_X7_readsGroup_69, e_X7_readsGroup_72, e_X7_readsGroup_73, e_X7_readsGroup_74, e_X7_readsGroup_76, e_X7_readsGroup_77, e_X7_readsGroup_79, e_X7_readsGroup_82, e_X7_readsGroup_83, e_X7_readsGroup_86, e_X7_readsGroup_87, e_X7_readsGroup_88, e_X7_readsGroup_91, e_X7_readsGroup_92, e_X7_readsGroup_93, e_X7_readsGroup_94, e_X7_readsGroup_96, e_X7_readsGroup_97, e_X7_readsGroup_98, e_X7_readsGroup_99, e_X7_readsGroup_102, e_X7_readsGroup_103, e_X7_readsGroup_106, e_X7_readsGroup_107, e_X7_readsGroup_108, e_X7_readsGroup_110, e_X7_readsGroup_111, e_X7_readsGroup_112, e_X7_readsGroup_113, e_X7_readsGroup_114, e_X7_readsGroup_117, e_X7_readsGroup_118, e_X7_readsGroup_119, Option.toList_some, Option.toList_none, List.cons_append, List.nil_append, true_and, and_true, and_self, bb_ite, true_or, or_true, Option.some.injEq, bb_I_eq, bb_b_0e, bb_b_1e, bb_b_e0, bb_b_e1, decide_eq_true_eq, decide_eq_false_iff_not, bn_01, bn_11, bb_b_01, ne_eq, Bool.not_eq_false, Bool.not_eq_true, Classical.not_not, x1, x2, bm_10, if_false, if_true]
      try trivial
  · rw [if_neg q0]
    have x1 := fun k => x_X7_digF (d := d) (lo := 48) (hi := 51) (x := 0) (k := k) hT htl hp q0
    refine ⟨M, 0, fun k => bb_cal (st_X7_readsGroup ?_), rfl, hT.2.1, bm_tf_rf M⟩
    simp (disch := omega) only [e_X7_readsGroup_0, e_X7_readsGroup_1, e_X7_readsGroup_3, e_X7_readsGroup_5, e_X7_readsGroup_6, e_X7_readsGroup_9, e_X7_readsGroup_12, e_X7_readsGroup_13, e_X7_readsGroup_15, e_X7_readsGroup_18, e_X7_readsGroup_21, e_X7_readsGroup_22, e_X7_readsGroup_24, e_X7_readsGroup_26, e_X7_readsGroup_27, e_X7_readsGroup_30, e_X7_readsGroup_33, e_X7_readsGroup_34, e_X7_readsGroup_35, e_X7_readsGroup_36, e_X7_readsGroup_39, e_X7_readsGroup_40, e_X7_readsGroup_41, e_X7_readsGroup_44, e_X7_readsGroup_45, e_X7_readsGroup_46, e_X7_readsGroup_47, e_X7_readsGroup_48, e_X7_readsGroup_49, e_X7_readsGroup_50, e_X7_readsGroup_52, e_X7_readsGroup_54, e_X7_readsGroup_57, e_X7_readsGroup_60, e_X7_readsGroup_62, e_X7_readsGroup_63, e_X7_readsGroup_64, e_X7_readsGroup_65, e_X7_readsGroup_68, e_X7_readsGroup_69, e_X7_readsGroup_72, e_X7_readsGroup_73, e_X7_readsGroup_74, e_X7_readsGroup_76, e_X7_readsGroup_77, e_X7_readsGroup_79, e_X7_readsGroup_82, e_X7_readsGroup_83, e_X7_readsGroup_86, e_X7_readsGroup_87, e_X7_readsGroup_88, e_X7_readsGroup_91, e_X7_readsGroup_92, e_X7_readsGroup_93, e_X7_readsGroup_94, e_X7_readsGroup_96, e_X7_readsGroup_97, e_X7_readsGroup_98, e_X7_readsGroup_99, e_X7_readsGroup_102, e_X7_readsGroup_103, e_X7_readsGroup_106, e_X7_readsGroup_107, e_X7_readsGroup_108, e_X7_readsGroup_110, e_X7_readsGroup_111, e_X7_readsGroup_112, e_X7_readsGroup_113, e_X7_readsGroup_114, e_X7_readsGroup_117, e_X7_readsGroup_118, e_X7_readsGroup_119, Option.toList_some, Option.toList_none, List.cons_append, List.nil_append, true_and, and_true, and_self, bb_ite, true_or, or_true, Option.some.injEq, bb_I_eq, bb_b_0e, bb_b_1e, bb_b_e0, bb_b_e1, decide_eq_true_eq, decide_eq_false_iff_not, bn_01, bn_11, bb_b_01, ne_eq, Bool.not_eq_false, Bool.not_eq_true, Classical.not_not, x1, bm_10, if_false, if_true]
    try trivial
