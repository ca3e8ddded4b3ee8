/-! THE BEACHES ARE ALIKE -/
theorem zk_cnt {S1 S2 : bs_S} (h : zI (S1, S2)) {w : Nat} (hw : w < 19) : (sp_count S2 (nI w)).1 = (sp_count S1 (nI w)).1 := by
  have hm := zI_m h
  have g := fun j hj => hm.2.1 j hj
  have e80 := g 80 (by omega)
  have e83 := g 83 (by omega)
  rcases (show w = 0 ∨ w = 1 ∨ w = 2 ∨ w = 3 ∨ w = 4 ∨ w = 5 ∨ w = 6 ∨ w = 7 ∨ w = 8 ∨ w = 9 ∨ w = 10 ∨ w = 11 ∨ w = 12 ∨ w = 13 ∨ w = 14 ∨ w = 15 ∨ w = 16 ∨ w = 17 ∨ w = 18 by omega) with rfl | rfl | rfl | rfl | rfl | rfl | rfl | rfl | rfl | rfl | rfl | rfl | rfl | rfl | rfl | rfl | rfl | rfl | rfl
  · show (sp_count S2 0).1 = (sp_count S1 0).1
    rw [zc_0, zc_0]; exact zh_S hm.1
  · exact g 134 (by omega)
  · exact g 135 (by omega)
  · exact g 136 (by omega)
  · exact g 137 (by omega)
  · exact g 138 (by omega)
  · exact g 139 (by omega)
  · exact g 140 (by omega)
  · exact g 141 (by omega)
  · exact g 85 (by omega)
  · exact g 80 (by omega)
  · exact g 81 (by omega)
  · exact g 82 (by omega)
  · exact g 83 (by omega)
  · exact g 84 (by omega)
  · show (sp_count S2 15).1 = (sp_count S1 15).1
    rw [zc_15, zc_15, e80, zh_cr (p := bf_bar S1.1 (S1.1 80)) (q := bf_bar S2.1 (S1.1 80)) (fun r hr c _ => zh_bar hm.1 hr c)]
  · show (sp_count S2 16).1 = (sp_count S1 16).1
    rw [zc_16, zc_16, e80, e83, zh_cr (p := bf_gap S1.1 (S1.1 80) (S1.1 83)) (q := bf_gap S2.1 (S1.1 80) (S1.1 83)) (fun r hr c _ => zh_gap hm.1 hr c)]
  · show (sp_count S2 17).1 = (sp_count S1 17).1
    rw [zc_17, zc_17, e80, zh_cr (p := bf_dry S1.1 (S1.1 80)) (q := bf_dry S2.1 (S1.1 80)) (fun r hr c hc => zh_dry hm.1 hr hc)]
  · show (sp_count S2 18).1 = (sp_count S1 18).1
    have e : S2.2.2.1 = S1.2.2.1 := h.2.1.1
    rw [zc_18, zc_18, e]
theorem zk_ld {p q : Nat → Bool} : ∀ n, (∀ c, c < n → q c = p c) → bf_ld q n = bf_ld p n
  | 0, _ => rfl
  | n + 1, e => by
    have ih := zk_ld n (fun c hc => e c (by omega))
    show (if q n then nI n else bf_ld q n) = (if p n then nI n else bf_ld p n)
    rw [ih, e n (by omega)]
theorem zk_gd {a b : Nat → Int32} {r r' : Nat} : ∀ n, (∀ c, c ≤ n → b (20 * r' + c) = a (20 * r + c)) → bf_gd b r' n = bf_gd a r n
  | 0, _ => rfl
  | n + 1, e => by
    have ih := zk_gd n (fun c hc => e c (by omega))
    have e1 := e n (by omega)
    have e2 := e (n + 1) (by omega)
    unfold bf_gd
    rw [ih, e1, e2]
theorem zk_hi {a b : Nat → Int32} {p : Nat → Bool} {r r' : Nat} : ∀ n, (∀ c, c < n → b (20 * r' + c) = a (20 * r + c)) → bf_hi b p r' n = bf_hi a p r n
  | 0, _ => rfl
  | n + 1, e => by
    have ih := zk_hi (p := p) n (fun c hc => e c (by omega))
    have e1 := e n (by omega)
    have hx := zwl_hx a p r n
    unfold bf_hi
    rw [ih, e1]
    cases q : bf_hi a p r n with
    | none => rfl
    | some b' =>
      have := hx b' q
      dsimp only
      rw [e b' (by omega)]
theorem zk_rw {S1 S2 : bs_S} (h : zI (S1, S2)) {r w : Nat} (hr : r < 4) (hw : w < 7) : (sp_row S2 (nI (3 - r)) (nI w)).1 = (sp_row S1 (nI r) (nI w)).1 := by
  have hm := zI_m h
  have e80 := hm.2.1 80 (by omega)
  have e83 := hm.2.1 83 (by omega)
  obtain ⟨a0, a1, a2, a3, a4, a5, a6⟩ := zk_row (S := S1) hr
  obtain ⟨b0, b1, b2, b3, b4, b5, b6⟩ := zk_row (S := S2) (r := 3 - r) (by omega)
  rcases (show w = 0 ∨ w = 1 ∨ w = 2 ∨ w = 3 ∨ w = 4 ∨ w = 5 ∨ w = 6 by omega) with rfl | rfl | rfl | rfl | rfl | rfl | rfl
  · refine b0.trans (Eq.trans ?_ a0.symm)
    exact zs_eq 20 (fun c hc => hm.1 r hr c hc)
  · refine b1.trans (Eq.trans ?_ a1.symm)
    rw [e80, zh_bars hm.1 hr]
  · refine b2.trans (Eq.trans ?_ a2.symm)
    rw [e80, e83, zh_gaps hm.1 hr]
  · refine b3.trans (Eq.trans ?_ a3.symm)
    rw [e80]
    exact zk_ld 20 (fun c hc => zh_dry hm.1 hr hc)
  · refine b4.trans (Eq.trans ?_ a4.symm)
    exact zk_gd 19 (fun c hc => hm.1 r hr c (by omega))
  · refine b5.trans (Eq.trans ?_ a5.symm)
    rw [e80, zh_bars hm.1 hr]
  · refine b6.trans (Eq.trans ?_ a6.symm)
    rw [e80, zh_bars hm.1 hr, zk_hi 19 (fun c hc => hm.1 r hr c (by omega))]
theorem zk_wd {S1 S2 : bs_S} (h : zI (S1, S2)) {r v w : Nat} (hr : r < 4) (hv : 1 ≤ v ∧ v ≤ 20) (hw : 2 ≤ w ∧ w ≤ 6) : (sp_would S2 (nI (3 - r)) (nI v) (nI w)).1 = (sp_would S1 (nI r) (nI v) (nI w)).1 := by
  have hm := zI_m h
  have e80 : S2.a 80 = S1.a 80 := hm.2.1 80 (by omega)
  have e81 : S2.a 81 = S1.a 81 := hm.2.1 81 (by omega)
  have c1 := zv_r hr
  have c2 := zv_r (r := 3 - r) (by omega)
  have c3 := zv_h hv
  have c4 : bv (nI w) 2 6 = true := (zv_ii (a := 2) (b := 6) (by omega)).trans (decide_eq_true hw)
  unfold sp_would
  dsimp only
  rw [if_pos c1, if_pos c2, if_pos ⟨c3, c4⟩, if_pos ⟨c3, c4⟩, zv_N (n := r) (by omega), zv_N (n := 3 - r) (by omega), zv_N (n := v) (by omega), zv_N (n := w) (by omega)]
  unfold br_wd
  rw [e80, e81, show bf_rg S2.a (3 - r) = bf_rg S1.a r from zh_rg hm.1 hr]
  exact ((zf_run 20 v _ _ zf_F0).2.1 w (by omega))
theorem zk_wt {S : bs_S} {k : Nat} (hk : k < bs_sz S.1) (hz : bs_sz S.1 ≤ 24) : (sp_waiting S (nI k) 0).1 = S.1 (86 + 2 * k) ∧ (sp_waiting S (nI k) 1).1 = S.1 (87 + 2 * k) := by
  have t := bn_ti (n := k) (by omega)
  unfold sp_waiting bs_S.a
  dsimp only
  have q1 : (0 : Int) ≤ (nI k).toInt := by omega
  have q2 : (nI k).toInt < (bs_sz S.1 : Int) := by omega
  rw [zv_N (n := k) (by omega)]
  exact ⟨(if_pos q1).trans ((if_pos q2).trans (if_pos rfl)), (if_pos q1).trans ((if_pos q2).trans (if_neg (by decide)))⟩
theorem zk_sd {S1 S2 : bs_S} (h : zI (S1, S2)) : (sp_sand S2 3 11).1 = (sp_sand S1 3 11).1 := by
  have hm := zI_m h
  have e : ∀ S : bs_S, (sp_sand S 3 11).1 = bf_sr S.1 3 9 4 := fun S => by
    unfold sp_sand
    dsimp only
    rw [if_pos (by decide), if_neg (by decide)]
    rfl
  have e1 : ∀ r, r < 4 → bf_sm S2.1 (20 * (3 - r) + 3) 9 = bf_sm S1.1 (20 * r + 3) 9 := fun r hr => zs_eq 9 (fun c hc => by
    rw [Nat.add_assoc, Nat.add_assoc]
    exact hm.1 r hr (3 + c) (by omega))
  have e10 := e1 0 (by decide)
  have e11 := e1 1 (by decide)
  have e12 := e1 2 (by decide)
  have e13 := e1 3 (by decide)
  simp only [Nat.reduceSub] at e10 e11 e12 e13
  rw [e, e]
  show 0 + bf_sm S2.1 (20 * 0 + 3) 9 + bf_sm S2.1 (20 * 1 + 3) 9 + bf_sm S2.1 (20 * 2 + 3) 9 + bf_sm S2.1 (20 * 3 + 3) 9 = 0 + bf_sm S1.1 (20 * 0 + 3) 9 + bf_sm S1.1 (20 * 1 + 3) 9 + bf_sm S1.1 (20 * 2 + 3) 9 + bf_sm S1.1 (20 * 3 + 3) 9
  rw [e10, e11, e12, e13]
  grind
section ZA
variable {F : Int32 → Int32} {d : Nat} {S1 S2 : bs_S} {R : z_P} {x : Int32}
theorem zal_1 {z5 z6 : bb_V} (h : zI (S1, S2)) : ∀ (t w : Nat), w + t = 19 → (z_Y (z_CL F d) zc_L_areAlike R 5 [bb_R 40 0, bb_R 41 0, bb_I x, bb_I 1, bb_I (nI w), z5, z6] [] (S1, S2) ↔ z_Y (z_CL F d) zc_L_areAlike R 43 [bb_R 40 0, bb_R 41 0, bb_I x, bb_I 1, bb_I (nI 19), z5, z6] [] (S1, S2)) := by
  intro t
  induction t with
  | zero =>
    intro w hn
    obtain rfl : w = 19 := by omega
    have h1 : (19 : Int) ≤ ((19 : Nat) : Int) := by decide
    rw [zh_L_areAlike_5]
    simp (disch := omega) only [ze_L_areAlike_7, ze_L_areAlike_9, ze_L_areAlike_12, ze_L_areAlike_13, ze_L_areAlike_16, ze_L_areAlike_17, ze_L_areAlike_19, ze_L_areAlike_22, ze_L_areAlike_23, ze_L_areAlike_25, ze_L_areAlike_28, ze_L_areAlike_31, ze_L_areAlike_32, ze_L_areAlike_35, ze_L_areAlike_36, ze_L_areAlike_37, ze_L_areAlike_40, h1, Option.toList_some, Option.toList_none, List.cons_append, List.nil_append, true_and, and_true, and_self, bb_ite, true_or, or_true, Option.some.injEq, bb_I_eq, bb_b_0e, bb_b_1e, bb_b_e0, bb_b_e1, decide_eq_true_eq, decide_eq_false_iff_not, bn_01, bn_11, bb_b_01, ne_eq, Bool.not_eq_false, Bool.not_eq_true, Classical.not_not, bn_lt, bn_le, bn_ti, Int32.reduceToInt, bn_m20, bn_20m, nI_add, bn_p1, bn_s1, bn_in, bn_cl, implies_true, not_true_eq_false, not_false_eq_true, Bool.true_and, Bool.false_and, Bool.and_true, Bool.and_false, Bool.true_or, Bool.false_or, Bool.or_true, Bool.or_false, Bool.not_true, Bool.not_false, false_implies, true_implies, forall_const, Bool.false_eq_true, Bool.true_eq_false, reduceCtorEq, eq_self, Bool.and_eq_true, Bool.or_eq_true, Bool.and_eq_false_iff, Bool.or_eq_false_iff, and_false, false_and, or_false, false_or, bm_10, bm_01]
  | succ t ih =>
    intro w hn
    have h1 : ¬ (19 : Int) ≤ (w : Int) := by omega
    have e := zk_cnt h (w := w) (by omega)
    rw [zh_L_areAlike_5, ← ih (w + 1) (by omega)]
    simp (disch := omega) only [ze_L_areAlike_7, ze_L_areAlike_9, ze_L_areAlike_12, ze_L_areAlike_13, ze_L_areAlike_16, ze_L_areAlike_17, ze_L_areAlike_19, ze_L_areAlike_22, ze_L_areAlike_23, ze_L_areAlike_25, ze_L_areAlike_28, ze_L_areAlike_31, ze_L_areAlike_32, ze_L_areAlike_35, ze_L_areAlike_36, ze_L_areAlike_37, ze_L_areAlike_40, zx_count_o, zx_count_p, e, h1, Option.toList_some, Option.toList_none, List.cons_append, List.nil_append, true_and, and_true, and_self, bb_ite, true_or, or_true, Option.some.injEq, bb_I_eq, bb_b_0e, bb_b_1e, bb_b_e0, bb_b_e1, decide_eq_true_eq, decide_eq_false_iff_not, bn_01, bn_11, bb_b_01, ne_eq, Bool.not_eq_false, Bool.not_eq_true, Classical.not_not, bn_lt, bn_le, bn_ti, Int32.reduceToInt, bn_m20, bn_20m, nI_add, bn_p1, bn_s1, bn_in, bn_cl, implies_true, not_true_eq_false, not_false_eq_true, Bool.true_and, Bool.false_and, Bool.and_true, Bool.and_false, Bool.true_or, Bool.false_or, Bool.or_true, Bool.or_false, Bool.not_true, Bool.not_false, false_implies, true_implies, forall_const, Bool.false_eq_true, Bool.true_eq_false, reduceCtorEq, eq_self, Bool.and_eq_true, Bool.or_eq_true, Bool.and_eq_false_iff, Bool.or_eq_false_iff, and_false, false_and, or_false, false_or, bm_10, bm_01]
theorem zal_2 {r : Nat} {z6 : bb_V} (h : zI (S1, S2)) (hr : r < 4) : ∀ (t w : Nat), w + t = 7 → (z_Y (z_CL F d) zc_L_areAlike R 59 [bb_R 40 0, bb_R 41 0, bb_I x, bb_I 1, bb_I (nI r), bb_I (nI w), z6] [] (S1, S2) ↔ z_Y (z_CL F d) zc_L_areAlike R 103 [bb_R 40 0, bb_R 41 0, bb_I x, bb_I 1, bb_I (nI r), bb_I (nI 7), z6] [] (S1, S2)) := by
  intro t
  induction t with
  | zero =>
    intro w hn
    obtain rfl : w = 7 := by omega
    have h1 : (7 : Int) ≤ ((7 : Nat) : Int) := by decide
    rw [zh_L_areAlike_59]
    simp (disch := omega) only [ze_L_areAlike_61, ze_L_areAlike_63, ze_L_areAlike_66, ze_L_areAlike_67, ze_L_areAlike_70, ze_L_areAlike_71, ze_L_areAlike_73, ze_L_areAlike_75, ze_L_areAlike_78, ze_L_areAlike_79, ze_L_areAlike_80, ze_L_areAlike_82, ze_L_areAlike_83, ze_L_areAlike_85, ze_L_areAlike_88, ze_L_areAlike_91, ze_L_areAlike_92, ze_L_areAlike_95, ze_L_areAlike_96, ze_L_areAlike_97, ze_L_areAlike_100, h1, Option.toList_some, Option.toList_none, List.cons_append, List.nil_append, true_and, and_true, and_self, bb_ite, true_or, or_true, Option.some.injEq, bb_I_eq, bb_b_0e, bb_b_1e, bb_b_e0, bb_b_e1, decide_eq_true_eq, decide_eq_false_iff_not, bn_01, bn_11, bb_b_01, ne_eq, Bool.not_eq_false, Bool.not_eq_true, Classical.not_not, bn_lt, bn_le, bn_ti, Int32.reduceToInt, bn_m20, bn_20m, nI_add, bn_p1, bn_s1, bn_in, bn_cl, implies_true, not_true_eq_false, not_false_eq_true, Bool.true_and, Bool.false_and, Bool.and_true, Bool.and_false, Bool.true_or, Bool.false_or, Bool.or_true, Bool.or_false, Bool.not_true, Bool.not_false, false_implies, true_implies, forall_const, Bool.false_eq_true, Bool.true_eq_false, reduceCtorEq, eq_self, Bool.and_eq_true, Bool.or_eq_true, Bool.and_eq_false_iff, Bool.or_eq_false_iff, and_false, false_and, or_false, false_or, bm_10, bm_01]
  | succ t ih =>
    intro w hn
    have h1 : ¬ (7 : Int) ≤ (w : Int) := by omega
    have e := zk_rw h (r := r) (w := w) hr (by omega)
    have e3 := z3_sub hr
    rw [zh_L_areAlike_59, ← ih (w + 1) (by omega)]
    simp (disch := omega) only [ze_L_areAlike_61, ze_L_areAlike_63, ze_L_areAlike_66, ze_L_areAlike_67, ze_L_areAlike_70, ze_L_areAlike_71, ze_L_areAlike_73, ze_L_areAlike_75, ze_L_areAlike_78, ze_L_areAlike_79, ze_L_areAlike_80, ze_L_areAlike_82, ze_L_areAlike_83, ze_L_areAlike_85, ze_L_areAlike_88, ze_L_areAlike_91, ze_L_areAlike_92, ze_L_areAlike_95, ze_L_areAlike_96, ze_L_areAlike_97, ze_L_areAlike_100, zx_row_o, zx_row_p, e3, e, h1, Option.toList_some, Option.toList_none, List.cons_append, List.nil_append, true_and, and_true, and_self, bb_ite, true_or, or_true, Option.some.injEq, bb_I_eq, bb_b_0e, bb_b_1e, bb_b_e0, bb_b_e1, decide_eq_true_eq, decide_eq_false_iff_not, bn_01, bn_11, bb_b_01, ne_eq, Bool.not_eq_false, Bool.not_eq_true, Classical.not_not, bn_lt, bn_le, bn_ti, Int32.reduceToInt, bn_m20, bn_20m, nI_add, bn_p1, bn_s1, bn_in, bn_cl, implies_true, not_true_eq_false, not_false_eq_true, Bool.true_and, Bool.false_and, Bool.and_true, Bool.and_false, Bool.true_or, Bool.false_or, Bool.or_true, Bool.or_false, Bool.not_true, Bool.not_false, false_implies, true_implies, forall_const, Bool.false_eq_true, Bool.true_eq_false, reduceCtorEq, eq_self, Bool.and_eq_true, Bool.or_eq_true, Bool.and_eq_false_iff, Bool.or_eq_false_iff, and_false, false_and, or_false, false_or, bm_10, bm_01]
theorem zal_3 {r : Nat} {z6 : bb_V} (h : zI (S1, S2)) (hr : r < 4) : ∀ (t c : Nat), c + t = 20 → (z_Y (z_CL F d) zc_L_areAlike R 106 [bb_R 40 0, bb_R 41 0, bb_I x, bb_I 1, bb_I (nI r), bb_I (nI c), z6] [] (S1, S2) ↔ z_Y (z_CL F d) zc_L_areAlike R 198 [bb_R 40 0, bb_R 41 0, bb_I x, bb_I 1, bb_I (nI r), bb_I (nI 20), z6] [] (S1, S2)) := by
  intro t
  induction t with
  | zero =>
    intro w hn
    obtain rfl : w = 20 := by omega
    have h1 : (20 : Int) ≤ ((20 : Nat) : Int) := by decide
    rw [zh_L_areAlike_106]
    simp (disch := omega) only [ze_L_areAlike_108, ze_L_areAlike_110, ze_L_areAlike_113, ze_L_areAlike_114, ze_L_areAlike_117, ze_L_areAlike_118, ze_L_areAlike_120, ze_L_areAlike_122, ze_L_areAlike_123, ze_L_areAlike_126, ze_L_areAlike_127, ze_L_areAlike_128, ze_L_areAlike_130, ze_L_areAlike_131, ze_L_areAlike_133, ze_L_areAlike_134, ze_L_areAlike_137, ze_L_areAlike_140, ze_L_areAlike_141, ze_L_areAlike_143, ze_L_areAlike_145, ze_L_areAlike_146, ze_L_areAlike_149, ze_L_areAlike_150, ze_L_areAlike_151, ze_L_areAlike_153, ze_L_areAlike_154, ze_L_areAlike_156, ze_L_areAlike_157, ze_L_areAlike_160, ze_L_areAlike_163, ze_L_areAlike_164, ze_L_areAlike_166, ze_L_areAlike_168, ze_L_areAlike_169, ze_L_areAlike_172, ze_L_areAlike_173, ze_L_areAlike_174, ze_L_areAlike_176, ze_L_areAlike_177, ze_L_areAlike_179, ze_L_areAlike_180, ze_L_areAlike_183, ze_L_areAlike_186, ze_L_areAlike_187, ze_L_areAlike_190, ze_L_areAlike_191, ze_L_areAlike_192, ze_L_areAlike_195, h1, Option.toList_some, Option.toList_none, List.cons_append, List.nil_append, true_and, and_true, and_self, bb_ite, true_or, or_true, Option.some.injEq, bb_I_eq, bb_b_0e, bb_b_1e, bb_b_e0, bb_b_e1, decide_eq_true_eq, decide_eq_false_iff_not, bn_01, bn_11, bb_b_01, ne_eq, Bool.not_eq_false, Bool.not_eq_true, Classical.not_not, bn_lt, bn_le, bn_ti, Int32.reduceToInt, bn_m20, bn_20m, nI_add, bn_p1, bn_s1, bn_in, bn_cl, implies_true, not_true_eq_false, not_false_eq_true, Bool.true_and, Bool.false_and, Bool.and_true, Bool.and_false, Bool.true_or, Bool.false_or, Bool.or_true, Bool.or_false, Bool.not_true, Bool.not_false, false_implies, true_implies, forall_const, Bool.false_eq_true, Bool.true_eq_false, reduceCtorEq, eq_self, Bool.and_eq_true, Bool.or_eq_true, Bool.and_eq_false_iff, Bool.or_eq_false_iff, and_false, false_and, or_false, false_or, bm_10, bm_01]
  | succ t ih =>
    intro c hn
    have h1 : ¬ (20 : Int) ≤ (c : Int) := by omega
    have hm := zI_m h
    have e80 := hm.2.1 80 (by omega)
    have e83 := hm.2.1 83 (by omega)
    obtain ⟨a0, a1, a2, a3⟩ := zk_cell (S := S1) (r := r) (c := c) hr (by omega)
    obtain ⟨b0, b1, b2, b3⟩ := zk_cell (S := S2) (r := 3 - r) (c := c) (by omega) (by omega)
    rw [hm.1 r hr c (by omega)] at b0
    rw [e80, zh_bar hm.1 hr] at b2
    rw [e80, e83, zh_gap hm.1 hr] at b3
    have e3 := z3_sub hr
    rw [zh_L_areAlike_106, ← ih (c + 1) (by omega)]
    simp (disch := omega) only [ze_L_areAlike_108, ze_L_areAlike_110, ze_L_areAlike_113, ze_L_areAlike_114, ze_L_areAlike_117, ze_L_areAlike_118, ze_L_areAlike_120, ze_L_areAlike_122, ze_L_areAlike_123, ze_L_areAlike_126, ze_L_areAlike_127, ze_L_areAlike_128, ze_L_areAlike_130, ze_L_areAlike_131, ze_L_areAlike_133, ze_L_areAlike_134, ze_L_areAlike_137, ze_L_areAlike_140, ze_L_areAlike_141, ze_L_areAlike_143, ze_L_areAlike_145, ze_L_areAlike_146, ze_L_areAlike_149, ze_L_areAlike_150, ze_L_areAlike_151, ze_L_areAlike_153, ze_L_areAlike_154, ze_L_areAlike_156, ze_L_areAlike_157, ze_L_areAlike_160, ze_L_areAlike_163, ze_L_areAlike_164, ze_L_areAlike_166, ze_L_areAlike_168, ze_L_areAlike_169, ze_L_areAlike_172, ze_L_areAlike_173, ze_L_areAlike_174, ze_L_areAlike_176, ze_L_areAlike_177, ze_L_areAlike_179, ze_L_areAlike_180, ze_L_areAlike_183, ze_L_areAlike_186, ze_L_areAlike_187, ze_L_areAlike_190, ze_L_areAlike_191, ze_L_areAlike_192, ze_L_areAlike_195, zx_cell_o, zx_cell_p, e3, a0, a2, a3, b0, b2, b3, h1, Option.toList_some, Option.toList_none, List.cons_append, List.nil_append, true_and, and_true, and_self, bb_ite, true_or, or_true, Option.some.injEq, bb_I_eq, bb_b_0e, bb_b_1e, bb_b_e0, bb_b_e1, decide_eq_true_eq, decide_eq_false_iff_not, bn_01, bn_11, bb_b_01, ne_eq, Bool.not_eq_false, Bool.not_eq_true, Classical.not_not, bn_lt, bn_le, bn_ti, Int32.reduceToInt, bn_m20, bn_20m, nI_add, bn_p1, bn_s1, bn_in, bn_cl, implies_true, not_true_eq_false, not_false_eq_true, Bool.true_and, Bool.false_and, Bool.and_true, Bool.and_false, Bool.true_or, Bool.false_or, Bool.or_true, Bool.or_false, Bool.not_true, Bool.not_false, false_implies, true_implies, forall_const, Bool.false_eq_true, Bool.true_eq_false, reduceCtorEq, eq_self, Bool.and_eq_true, Bool.or_eq_true, Bool.and_eq_false_iff, Bool.or_eq_false_iff, and_false, false_and, or_false, false_or, bm_10, bm_01]
theorem zal_4 {r v : Nat} (h : zI (S1, S2)) (hr : r < 4) (hv : 1 ≤ v ∧ v ≤ 20) : ∀ (t w : Nat), 2 ≤ w → w + t = 7 → (z_Y (z_CL F d) zc_L_areAlike R 216 [bb_R 40 0, bb_R 41 0, bb_I x, bb_I 1, bb_I (nI r), bb_I (nI v), bb_I (nI w)] [] (S1, S2) ↔ z_Y (z_CL F d) zc_L_areAlike R 264 [bb_R 40 0, bb_R 41 0, bb_I x, bb_I 1, bb_I (nI r), bb_I (nI v), bb_I (nI 7)] [] (S1, S2)) := by
  intro t
  induction t with
  | zero =>
    intro w _ hn
    obtain rfl : w = 7 := by omega
    have h1 : (7 : Int) ≤ ((7 : Nat) : Int) := by decide
    rw [zh_L_areAlike_216]
    simp (disch := omega) only [ze_L_areAlike_218, ze_L_areAlike_220, ze_L_areAlike_223, ze_L_areAlike_224, ze_L_areAlike_227, ze_L_areAlike_228, ze_L_areAlike_230, ze_L_areAlike_232, ze_L_areAlike_234, ze_L_areAlike_237, ze_L_areAlike_238, ze_L_areAlike_239, ze_L_areAlike_241, ze_L_areAlike_242, ze_L_areAlike_244, ze_L_areAlike_246, ze_L_areAlike_249, ze_L_areAlike_252, ze_L_areAlike_253, ze_L_areAlike_256, ze_L_areAlike_257, ze_L_areAlike_258, ze_L_areAlike_261, h1, Option.toList_some, Option.toList_none, List.cons_append, List.nil_append, true_and, and_true, and_self, bb_ite, true_or, or_true, Option.some.injEq, bb_I_eq, bb_b_0e, bb_b_1e, bb_b_e0, bb_b_e1, decide_eq_true_eq, decide_eq_false_iff_not, bn_01, bn_11, bb_b_01, ne_eq, Bool.not_eq_false, Bool.not_eq_true, Classical.not_not, bn_lt, bn_le, bn_ti, Int32.reduceToInt, bn_m20, bn_20m, nI_add, bn_p1, bn_s1, bn_in, bn_cl, implies_true, not_true_eq_false, not_false_eq_true, Bool.true_and, Bool.false_and, Bool.and_true, Bool.and_false, Bool.true_or, Bool.false_or, Bool.or_true, Bool.or_false, Bool.not_true, Bool.not_false, false_implies, true_implies, forall_const, Bool.false_eq_true, Bool.true_eq_false, reduceCtorEq, eq_self, Bool.and_eq_true, Bool.or_eq_true, Bool.and_eq_false_iff, Bool.or_eq_false_iff, and_false, false_and, or_false, false_or, bm_10, bm_01]
  | succ t ih =>
    intro w hw hn
    have h1 : ¬ (7 : Int) ≤ (w : Int) := by omega
    have e := zk_wd h (r := r) (v := v) (w := w) hr hv (by omega)
    have e3 := z3_sub hr
    rw [zh_L_areAlike_216, ← ih (w + 1) (by omega) (by omega)]
    simp (disch := omega) only [ze_L_areAlike_218, ze_L_areAlike_220, ze_L_areAlike_223, ze_L_areAlike_224, ze_L_areAlike_227, ze_L_areAlike_228, ze_L_areAlike_230, ze_L_areAlike_232, ze_L_areAlike_234, ze_L_areAlike_237, ze_L_areAlike_238, ze_L_areAlike_239, ze_L_areAlike_241, ze_L_areAlike_242, ze_L_areAlike_244, ze_L_areAlike_246, ze_L_areAlike_249, ze_L_areAlike_252, ze_L_areAlike_253, ze_L_areAlike_256, ze_L_areAlike_257, ze_L_areAlike_258, ze_L_areAlike_261, zx_would_o, zx_would_p, e3, e, h1, Option.toList_some, Option.toList_none, List.cons_append, List.nil_append, true_and, and_true, and_self, bb_ite, true_or, or_true, Option.some.injEq, bb_I_eq, bb_b_0e, bb_b_1e, bb_b_e0, bb_b_e1, decide_eq_true_eq, decide_eq_false_iff_not, bn_01, bn_11, bb_b_01, ne_eq, Bool.not_eq_false, Bool.not_eq_true, Classical.not_not, bn_lt, bn_le, bn_ti, Int32.reduceToInt, bn_m20, bn_20m, nI_add, bn_p1, bn_s1, bn_in, bn_cl, implies_true, not_true_eq_false, not_false_eq_true, Bool.true_and, Bool.false_and, Bool.and_true, Bool.and_false, Bool.true_or, Bool.false_or, Bool.or_true, Bool.or_false, Bool.not_true, Bool.not_false, false_implies, true_implies, forall_const, Bool.false_eq_true, Bool.true_eq_false, reduceCtorEq, eq_self, Bool.and_eq_true, Bool.or_eq_true, Bool.and_eq_false_iff, Bool.or_eq_false_iff, and_false, false_and, or_false, false_or, bm_10, bm_01]
theorem zal_5 (h : zI (S1, S2)) : ∀ (t r : Nat) (z5 z6 : bb_V), r + t = 4 → ∃ z5' z6', (z_Y (z_CL F (d + 1)) zc_L_areAlike R 46 [bb_R 40 0, bb_R 41 0, bb_I x, bb_I 1, bb_I (nI r), z5, z6] [] (S1, S2) ↔ z_Y (z_CL F (d + 1)) zc_L_areAlike R 270 [bb_R 40 0, bb_R 41 0, bb_I x, bb_I 1, bb_I (nI 4), z5', z6'] [] (S1, S2)) := by
  intro t
  induction t with
  | zero =>
    intro r z5 z6 hn
    obtain rfl : r = 4 := by omega
    refine ⟨z5, z6, ?_⟩
    have h1 : (4 : Int) ≤ ((4 : Nat) : Int) := by decide
    rw [zh_L_areAlike_46]
    simp (disch := omega) only [ze_L_areAlike_48, ze_L_areAlike_49, ze_L_areAlike_52, ze_L_areAlike_53, ze_L_areAlike_56, ze_L_areAlike_57, h1, Option.toList_some, Option.toList_none, List.cons_append, List.nil_append, true_and, and_true, and_self, bb_ite, true_or, or_true, Option.some.injEq, bb_I_eq, bb_b_0e, bb_b_1e, bb_b_e0, bb_b_e1, decide_eq_true_eq, decide_eq_false_iff_not, bn_01, bn_11, bb_b_01, ne_eq, Bool.not_eq_false, Bool.not_eq_true, Classical.not_not, bn_lt, bn_le, bn_ti, Int32.reduceToInt, bn_m20, bn_20m, nI_add, bn_p1, bn_s1, bn_in, bn_cl, implies_true, not_true_eq_false, not_false_eq_true, Bool.true_and, Bool.false_and, Bool.and_true, Bool.and_false, Bool.true_or, Bool.false_or, Bool.or_true, Bool.or_false, Bool.not_true, Bool.not_false, false_implies, true_implies, forall_const, Bool.false_eq_true, Bool.true_eq_false, reduceCtorEq, eq_self, Bool.and_eq_true, Bool.or_eq_true, Bool.and_eq_false_iff, Bool.or_eq_false_iff, and_false, false_and, or_false, false_or, bm_10, bm_01]
  | succ t ih =>
    intro r z5 z6 hn
    have hr : r < 4 := by omega
    have h1 : ¬ (4 : Int) ≤ (r : Int) := by omega
    have hu := zuN_lt (v := x >>> (3 * nI r &&& 31)) (n := 20) (by decide)
    obtain ⟨y5, y6, e⟩ := ih (r + 1) (bb_I (nI (zuN (x >>> (3 * nI r &&& 31)) 20 + 1))) (bb_I (nI 7)) (by omega)
    refine ⟨y5, y6, ?_⟩
    have l2 := zal_2 (F := F) (d := d + 1) (R := R) (x := x) (z6 := z6) h hr 7 0 rfl
    have l3 := zal_3 (F := F) (d := d + 1) (R := R) (x := x) (z6 := z6) h hr 20 0 rfl
    have l4 := zal_4 (F := F) (d := d + 1) (R := R) (x := x) (v := zuN (x >>> (3 * nI r &&& 31)) 20 + 1) h hr (by omega) 5 2 (by decide) rfl
    rw [show nI 0 = 0 from rfl] at l2 l3
    rw [show nI 2 = 2 from rfl] at l4
    rw [← e, zh_L_areAlike_46]
    simp (disch := omega) only [ze_L_areAlike_48, ze_L_areAlike_49, ze_L_areAlike_52, ze_L_areAlike_53, ze_L_areAlike_56, ze_L_areAlike_57, l2, h1, Option.toList_some, Option.toList_none, List.cons_append, List.nil_append, true_and, and_true, and_self, bb_ite, true_or, or_true, Option.some.injEq, bb_I_eq, bb_b_0e, bb_b_1e, bb_b_e0, bb_b_e1, decide_eq_true_eq, decide_eq_false_iff_not, bn_01, bn_11, bb_b_01, ne_eq, Bool.not_eq_false, Bool.not_eq_true, Classical.not_not, bn_lt, bn_le, bn_ti, Int32.reduceToInt, bn_m20, bn_20m, nI_add, bn_p1, bn_s1, bn_in, bn_cl, implies_true, not_true_eq_false, not_false_eq_true, Bool.true_and, Bool.false_and, Bool.and_true, Bool.and_false, Bool.true_or, Bool.false_or, Bool.or_true, Bool.or_false, Bool.not_true, Bool.not_false, false_implies, true_implies, forall_const, Bool.false_eq_true, Bool.true_eq_false, reduceCtorEq, eq_self, Bool.and_eq_true, Bool.or_eq_true, Bool.and_eq_false_iff, Bool.or_eq_false_iff, and_false, false_and, or_false, false_or, bm_10, bm_01]
    simp (disch := omega) only [ze_L_areAlike_103, ze_L_areAlike_104, l3]
    simp (disch := omega) only [ze_L_areAlike_198, ze_L_areAlike_199, ze_L_areAlike_200, ze_L_areAlike_201, ze_L_areAlike_203, ze_L_areAlike_204, ze_L_areAlike_205, ze_L_areAlike_207, ze_L_areAlike_210, ze_L_areAlike_211, ze_L_areAlike_213, ze_L_areAlike_214, x_up20, z1p, l4]
    simp (disch := omega) only [ze_L_areAlike_264, ze_L_areAlike_267, Option.toList_some, Option.toList_none, List.cons_append, List.nil_append, true_and, and_true, and_self, bb_ite, true_or, or_true, Option.some.injEq, bb_I_eq, bb_b_0e, bb_b_1e, bb_b_e0, bb_b_e1, decide_eq_true_eq, decide_eq_false_iff_not, bn_01, bn_11, bb_b_01, ne_eq, Bool.not_eq_false, Bool.not_eq_true, Classical.not_not, bn_lt, bn_le, bn_ti, Int32.reduceToInt, bn_m20, bn_20m, nI_add, bn_p1, bn_s1, bn_in, bn_cl, implies_true, not_true_eq_false, not_false_eq_true, Bool.true_and, Bool.false_and, Bool.and_true, Bool.and_false, Bool.true_or, Bool.false_or, Bool.or_true, Bool.or_false, Bool.not_true, Bool.not_false, false_implies, true_implies, forall_const, Bool.false_eq_true, Bool.true_eq_false, reduceCtorEq, eq_self, Bool.and_eq_true, Bool.or_eq_true, Bool.and_eq_false_iff, Bool.or_eq_false_iff, and_false, false_and, or_false, false_or, bm_10, bm_01]
theorem zal_6 {z5 z6 : bb_V} (h : zI (S1, S2)) : ∀ (t k : Nat), k + t = bs_sz S1.1 → (z_Y (z_CL F d) zc_L_areAlike R 273 [bb_R 40 0, bb_R 41 0, bb_I x, bb_I 1, bb_I (nI k), z5, z6] [] (S1, S2) ↔ z_Y (z_CL F d) zc_L_areAlike R 336 [bb_R 40 0, bb_R 41 0, bb_I x, bb_I 1, bb_I (nI (bs_sz S1.1)), z5, z6] [] (S1, S2)) := by
  intro t
  have hz : bs_sz S1.1 ≤ 24 := zg_sz h.1
  have hm := zI_m h
  have esz := zm_sz hm
  have e85 : S1.1 85 = nI (bs_sz S1.1) := (zI_i h).1.2.2.2.2.2.2.1.2
  induction t with
  | zero =>
    intro w hn
    obtain rfl : w = bs_sz S1.1 := by omega
    rw [zh_L_areAlike_273]
    simp (disch := omega) only [ze_L_areAlike_275, ze_L_areAlike_276, ze_L_areAlike_278, ze_L_areAlike_281, ze_L_areAlike_284, ze_L_areAlike_285, ze_L_areAlike_288, ze_L_areAlike_289, ze_L_areAlike_291, ze_L_areAlike_292, ze_L_areAlike_295, ze_L_areAlike_296, ze_L_areAlike_297, ze_L_areAlike_299, ze_L_areAlike_300, ze_L_areAlike_303, ze_L_areAlike_304, ze_L_areAlike_307, ze_L_areAlike_308, ze_L_areAlike_310, ze_L_areAlike_311, ze_L_areAlike_314, ze_L_areAlike_315, ze_L_areAlike_317, ze_L_areAlike_318, ze_L_areAlike_321, ze_L_areAlike_324, ze_L_areAlike_325, ze_L_areAlike_328, ze_L_areAlike_329, ze_L_areAlike_330, ze_L_areAlike_333, zx_count_o, zc_9, e85, Int.le_refl, Option.toList_some, Option.toList_none, List.cons_append, List.nil_append, true_and, and_true, and_self, bb_ite, true_or, or_true, Option.some.injEq, bb_I_eq, bb_b_0e, bb_b_1e, bb_b_e0, bb_b_e1, decide_eq_true_eq, decide_eq_false_iff_not, bn_01, bn_11, bb_b_01, ne_eq, Bool.not_eq_false, Bool.not_eq_true, Classical.not_not, bn_lt, bn_le, bn_ti, Int32.reduceToInt, bn_m20, bn_20m, nI_add, bn_p1, bn_s1, bn_in, bn_cl, implies_true, not_true_eq_false, not_false_eq_true, Bool.true_and, Bool.false_and, Bool.and_true, Bool.and_false, Bool.true_or, Bool.false_or, Bool.or_true, Bool.or_false, Bool.not_true, Bool.not_false, false_implies, true_implies, forall_const, Bool.false_eq_true, Bool.true_eq_false, reduceCtorEq, eq_self, Bool.and_eq_true, Bool.or_eq_true, Bool.and_eq_false_iff, Bool.or_eq_false_iff, and_false, false_and, or_false, false_or, bm_10, bm_01]
  | succ t ih =>
    intro k hn
    have h1 : ¬ ((bs_sz S1.1 : Nat) : Int) ≤ (k : Int) := by omega
    obtain ⟨a0, a1⟩ := zk_wt (S := S1) (k := k) (by omega) hz
    obtain ⟨b0, b1⟩ := zk_wt (S := S2) (k := k) (by omega) (by omega)
    obtain ⟨m0, m1⟩ := hm.2.2.1 k (by omega)
    rw [m0] at b0
    rw [m1] at b1
    have e3 : (3 : Int32) - (3 - S1.1 (86 + 2 * k)) = S1.1 (86 + 2 * k) := by grind
    rw [zh_L_areAlike_273, ← ih (k + 1) (by omega)]
    simp (disch := omega) only [ze_L_areAlike_275, ze_L_areAlike_276, ze_L_areAlike_278, ze_L_areAlike_281, ze_L_areAlike_284, ze_L_areAlike_285, ze_L_areAlike_288, ze_L_areAlike_289, ze_L_areAlike_291, ze_L_areAlike_292, ze_L_areAlike_295, ze_L_areAlike_296, ze_L_areAlike_297, ze_L_areAlike_299, ze_L_areAlike_300, ze_L_areAlike_303, ze_L_areAlike_304, ze_L_areAlike_307, ze_L_areAlike_308, ze_L_areAlike_310, ze_L_areAlike_311, ze_L_areAlike_314, ze_L_areAlike_315, ze_L_areAlike_317, ze_L_areAlike_318, ze_L_areAlike_321, ze_L_areAlike_324, ze_L_areAlike_325, ze_L_areAlike_328, ze_L_areAlike_329, ze_L_areAlike_330, ze_L_areAlike_333, zx_count_o, zc_9, e85, zx_waiting_o, zx_waiting_p, a0, a1, b0, b1, e3, h1, Option.toList_some, Option.toList_none, List.cons_append, List.nil_append, true_and, and_true, and_self, bb_ite, true_or, or_true, Option.some.injEq, bb_I_eq, bb_b_0e, bb_b_1e, bb_b_e0, bb_b_e1, decide_eq_true_eq, decide_eq_false_iff_not, bn_01, bn_11, bb_b_01, ne_eq, Bool.not_eq_false, Bool.not_eq_true, Classical.not_not, bn_lt, bn_le, bn_ti, Int32.reduceToInt, bn_m20, bn_20m, nI_add, bn_p1, bn_s1, bn_in, bn_cl, implies_true, not_true_eq_false, not_false_eq_true, Bool.true_and, Bool.false_and, Bool.and_true, Bool.and_false, Bool.true_or, Bool.false_or, Bool.or_true, Bool.or_false, Bool.not_true, Bool.not_false, false_implies, true_implies, forall_const, Bool.false_eq_true, Bool.true_eq_false, reduceCtorEq, eq_self, Bool.and_eq_true, Bool.or_eq_true, Bool.and_eq_false_iff, Bool.or_eq_false_iff, and_false, false_and, or_false, false_or, bm_10, bm_01]
theorem x_areAlike {k : z_P} (h : zI (S1, S2)) : z_call (z_CL F (d + 2)) 6 [bb_R 40 0, bb_R 41 0, bb_I x] (S1, S2) k ↔ k 1 (S1, S2) := by
  refine z_cal (zs_L_areAlike ?_)
  have l1 := zal_1 (F := F) (d := d + 1) (R := fun r' T' => r' = 1 ∧ T' = (S1, S2)) (x := x) (z5 := bb_U) (z6 := bb_U) h 19 0 rfl
  obtain ⟨z5, z6, l5⟩ := zal_5 (F := F) (d := d) (R := fun r' T' => r' = 1 ∧ T' = (S1, S2)) (x := x) h 4 0 bb_U bb_U rfl
  have l6 := zal_6 (F := F) (d := d + 1) (R := fun r' T' => r' = 1 ∧ T' = (S1, S2)) (x := x) (z5 := z5) (z6 := z6) h (bs_sz S1.1) 0 (Nat.zero_add _)
  have es := zk_sd h
  rw [show nI 0 = 0 from rfl] at l1 l5 l6
  simp (disch := omega) only [ze_L_areAlike_0, ze_L_areAlike_1, ze_L_areAlike_2, ze_L_areAlike_3, l1]
  simp (disch := omega) only [ze_L_areAlike_43, ze_L_areAlike_44, l5]
  simp (disch := omega) only [ze_L_areAlike_270, ze_L_areAlike_271, l6]
  simp (disch := omega) only [ze_L_areAlike_336, ze_L_areAlike_337, ze_L_areAlike_340, ze_L_areAlike_341, ze_L_areAlike_342, ze_L_areAlike_344, ze_L_areAlike_347, ze_L_areAlike_348, ze_L_areAlike_349, ze_L_areAlike_351, ze_L_areAlike_354, ze_L_areAlike_357, ze_L_areAlike_358, ze_L_areAlike_361, ze_L_areAlike_362, zx_sand_o, zx_sand_p, es, Option.toList_some, Option.toList_none, List.cons_append, List.nil_append, true_and, and_true, and_self, bb_ite, true_or, or_true, Option.some.injEq, bb_I_eq, bb_b_0e, bb_b_1e, bb_b_e0, bb_b_e1, decide_eq_true_eq, decide_eq_false_iff_not, bn_01, bn_11, bb_b_01, ne_eq, Bool.not_eq_false, Bool.not_eq_true, Classical.not_not, bn_lt, bn_le, bn_ti, Int32.reduceToInt, bn_m20, bn_20m, nI_add, bn_p1, bn_s1, bn_in, bn_cl, implies_true, not_true_eq_false, not_false_eq_true, Bool.true_and, Bool.false_and, Bool.and_true, Bool.and_false, Bool.true_or, Bool.false_or, Bool.or_true, Bool.or_false, Bool.not_true, Bool.not_false, false_implies, true_implies, forall_const, Bool.false_eq_true, Bool.true_eq_false, reduceCtorEq, eq_self, Bool.and_eq_true, Bool.or_eq_true, Bool.and_eq_false_iff, Bool.or_eq_false_iff, and_false, false_and, or_false, false_or, bm_10, bm_01]
  try trivial
end ZA
