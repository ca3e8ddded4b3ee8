/-! THE LAW'S RUN -/
theorem zl_loop {F : Int32 → Int32} : ∀ (t k : Nat) (T : z_T), k + t = 44 → zI T → z_Y (z_CL F 2) zc_L_law (fun v _ => v = 1) 21 [bb_R 42 0, bb_R 40 0, bb_R 41 0, bb_I 1, bb_I (nI k)] [] T := by
  intro t
  induction t with
  | zero =>
    intro k T hn h
    obtain ⟨S1, S2⟩ := T
    obtain rfl : k = 44 := by omega
    have h1 : (44 : Int) ≤ ((44 : Nat) : Int) := by decide
    have xw := fun k => x_isWell (F := F) (d := 1) (S1 := S1) (S2 := S2) (k := k) (zI_i h).1
    have xc := fun k => zx_scr (F := F) (d := 2) (x := 45) (T := (S1, S2)) (k := k) (by decide)
    have xa := fun x k => x_areAlike (F := F) (d := 0) (x := x) (k := k) h
    rw [zh_L_law_21]
    simp (disch := omega) only [ze_L_law_23, ze_L_law_25, ze_L_law_82, ze_L_law_83, ze_L_law_86, ze_L_law_87, ze_L_law_90, ze_L_law_93, ze_L_law_94, ze_L_law_95, ze_L_law_96, ze_L_law_98, ze_L_law_101, ze_L_law_104, ze_L_law_107, ze_L_law_108, ze_L_law_111, ze_L_law_112, h1, xw, xc, xa, Option.toList_some, Option.toList_none, List.cons_append, List.nil_append, true_and, and_true, and_self, bb_ite, true_or, or_true, Option.some.injEq, bb_I_eq, bb_b_0e, bb_b_1e, bb_b_e0, bb_b_e1, decide_eq_true_eq, decide_eq_false_iff_not, bn_01, bn_11, bb_b_01, ne_eq, Bool.not_eq_false, Bool.not_eq_true, Classical.not_not, bn_lt, bn_le, bn_ti, Int32.reduceToInt, bn_m20, bn_20m, nI_add, bn_p1, bn_s1, bn_in, bn_cl, implies_true, not_true_eq_false, not_false_eq_true, Bool.true_and, Bool.false_and, Bool.and_true, Bool.and_false, Bool.true_or, Bool.false_or, Bool.or_true, Bool.or_false, Bool.not_true, Bool.not_false, false_implies, true_implies, forall_const, Bool.false_eq_true, Bool.true_eq_false, reduceCtorEq, eq_self, Bool.and_eq_true, Bool.or_eq_true, Bool.and_eq_false_iff, Bool.or_eq_false_iff, and_false, false_and, or_false, false_or, bm_10, bm_01]
  | succ t ih =>
    intro k T hn h
    obtain ⟨S1, S2⟩ := T
    have h1 : ¬ (44 : Int) ≤ (k : Int) := by omega
    have p0 : ∀ n : Nat, n < 1000 → (0 : Int32) ≤ nI n := fun n hn => (bn_le _ _).mpr (by rw [bn_ti (by omega)]; show (0 : Int) ≤ _; omega)
    have c0 := fun kk => zx_scr (F := F) (d := 2) (x := nI k) (T := (S1, S2)) (k := kk) (p0 k (by omega))
    have c1 := fun kk => zx_scr (F := F) (d := 2) (x := nI (k + 1)) (T := (S1, S2)) (k := kk) (p0 (k + 1) (by omega))
    obtain ⟨⟨U1, U2⟩, hI, xs⟩ := x_isStep (F := F) (d := 0) (x := F (nI k)) (y := F (nI (k + 1)) >>> (2 &&& 31)) h
    have xw := fun k => x_isWell (F := F) (d := 1) (S1 := U1) (S2 := U2) (k := k) (zI_i hI).1
    have e5 := pk_rem (a := k) (d := 5) (by omega) (by decide) (by decide)
    rw [show nI 5 = 5 from rfl] at e5
    have d5 : (5 : Int32) ≠ 0 := by decide
    have e := ih (k + 1) (U1, U2) (by omega) hI
    have t5 := bn_ti (n := k % 5) (by omega)
    rw [zh_L_law_21]
    by_cases q : 0 < k % 5
    · have q1 : (0 : Int) < ((k % 5 : Nat) : Int) := by omega
      simp (disch := omega) only [ze_L_law_23, ze_L_law_25, ze_L_law_28, ze_L_law_29, ze_L_law_32, ze_L_law_33, ze_L_law_34, ze_L_law_35, ze_L_law_37, ze_L_law_40, ze_L_law_41, ze_L_law_43, ze_L_law_44, ze_L_law_45, ze_L_law_48, ze_L_law_49, ze_L_law_50, ze_L_law_53, ze_L_law_56, ze_L_law_58, ze_L_law_59, ze_L_law_60, ze_L_law_63, ze_L_law_64, ze_L_law_67, ze_L_law_70, ze_L_law_71, ze_L_law_74, ze_L_law_75, ze_L_law_76, ze_L_law_79, h1, c0, c1, xs, xw, e5, d5, bn_lt, t5, q1, Option.toList_some, Option.toList_none, List.cons_append, List.nil_append, true_and, and_true, and_self, bb_ite, true_or, or_true, Option.some.injEq, bb_I_eq, bb_b_0e, bb_b_1e, bb_b_e0, bb_b_e1, decide_eq_true_eq, decide_eq_false_iff_not, bn_01, bn_11, bb_b_01, ne_eq, Bool.not_eq_false, Bool.not_eq_true, Classical.not_not, bn_lt, bn_le, bn_ti, Int32.reduceToInt, bn_m20, bn_20m, nI_add, bn_p1, bn_s1, bn_in, bn_cl, implies_true, not_true_eq_false, not_false_eq_true, Bool.true_and, Bool.false_and, Bool.and_true, Bool.and_false, Bool.true_or, Bool.false_or, Bool.or_true, Bool.or_false, Bool.not_true, Bool.not_false, false_implies, true_implies, forall_const, Bool.false_eq_true, Bool.true_eq_false, reduceCtorEq, eq_self, Bool.and_eq_true, Bool.or_eq_true, Bool.and_eq_false_iff, Bool.or_eq_false_iff, and_false, false_and, or_false, false_or, bm_10, bm_01]
      exact e
    · have q1 : ¬ (0 : Int) < ((k % 5 : Nat) : Int) := by omega
      simp (disch := omega) only [ze_L_law_23, ze_L_law_25, ze_L_law_28, ze_L_law_29, ze_L_law_32, ze_L_law_33, ze_L_law_34, ze_L_law_35, ze_L_law_37, ze_L_law_40, ze_L_law_41, ze_L_law_43, ze_L_law_44, ze_L_law_45, ze_L_law_48, ze_L_law_49, ze_L_law_50, ze_L_law_53, ze_L_law_56, ze_L_law_58, ze_L_law_59, ze_L_law_60, ze_L_law_63, ze_L_law_64, ze_L_law_67, ze_L_law_70, ze_L_law_71, ze_L_law_74, ze_L_law_75, ze_L_law_76, ze_L_law_79, h1, c0, c1, xs, xw, e5, d5, bn_lt, t5, q1, Option.toList_some, Option.toList_none, List.cons_append, List.nil_append, true_and, and_true, and_self, bb_ite, true_or, or_true, Option.some.injEq, bb_I_eq, bb_b_0e, bb_b_1e, bb_b_e0, bb_b_e1, decide_eq_true_eq, decide_eq_false_iff_not, bn_01, bn_11, bb_b_01, ne_eq, Bool.not_eq_false, Bool.not_eq_true, Classical.not_not, bn_lt, bn_le, bn_ti, Int32.reduceToInt, bn_m20, bn_20m, nI_add, bn_p1, bn_s1, bn_in, bn_cl, implies_true, not_true_eq_false, not_false_eq_true, Bool.true_and, Bool.false_and, Bool.and_true, Bool.and_false, Bool.true_or, Bool.false_or, Bool.or_true, Bool.or_false, Bool.not_true, Bool.not_false, false_implies, true_implies, forall_const, Bool.false_eq_true, Bool.true_eq_false, reduceCtorEq, eq_self, Bool.and_eq_true, Bool.or_eq_true, Bool.and_eq_false_iff, Bool.or_eq_false_iff, and_false, false_and, or_false, false_or, bm_10, bm_01]
      exact e
theorem zl_run {F : Int32 → Int32} {T : z_T} (h : zI T) : z_Y (z_CL F 2) zc_L_law (fun v _ => v = 1) 16 [bb_R 42 0, bb_R 40 0, bb_R 41 0, bb_U, bb_U] [] T := by
  have e := zl_loop (F := F) 44 0 T rfl h
  rw [show nI 0 = 0 from rfl] at e
  simp (disch := omega) only [ze_L_law_16, ze_L_law_17, ze_L_law_18, ze_L_law_19]
  exact e
/-! the first state -/
theorem zl_h {j : Nat} (hj : j < 80) : bk_all j = 60 - 3 * nI (j % 20) := by rw [bk_all_lo hj, bk_hp_lo 80 j (Nat.le_refl _) hj]
theorem zl_sum : bf_sr (fun j => 60 - 3 * nI (j % 20)) 0 20 4 = 2520 := by decide +kernel
theorem zl_b : zb bk_all := by
  unfold zb
  rw [zS_cong (a := fun j => 60 - 3 * nI (j % 20)) (fun j hj => zl_h hj), bk_all_hi (by decide), bk_all_hi (by decide), bk_all_hi (by decide), bk_all_hi (by decide), show zS (fun j => 60 - 3 * nI (j % 20)) = 2520 from zl_sum]
  rfl
theorem zl_m : zm bk_all bk_all := by
  refine ⟨fun r hr c hc => ?_, fun j hj => rfl, fun j hj => ?_, fun t ht => ?_⟩
  · rw [zl_h (by omega), zl_h (by omega), show (20 * (3 - r) + c) % 20 = (20 * r + c) % 20 by omega]
  · rw [bk_sz0] at hj
    exact absurd hj (Nat.not_lt_zero j)
  · rw [bk_tl0] at ht
    exact absurd ht (Nat.not_lt_zero t)
theorem zl_I : zI (bk_S0, bk_S0) := ⟨⟨⟨bk_inv, bk_inv⟩, zl_b, zl_m⟩, ⟨rfl, Nat.zero_le 4⟩, fun j hj => absurd hj (Nat.not_lt_zero j), rfl⟩
/-! worlds side by side -/
theorem zlp_l {D : va_G} {cl : List vw_C} {w1 w2 : va_W} {H : Heap} (h : va_P D cl (w1 ++ w2) H) : va_P D cl w1 H := fun k q hk => h k q (by rw [List.getElem?_append_left (List.getElem?_eq_some_iff.mp hk).1]; exact hk)
theorem zlp_r {D : va_G} {cl : List vw_C} {w1 w2 : va_W} {H : Heap} (h : va_P D cl (w1 ++ w2) H) : va_P D cl w2 H := fun k q hk => h (w1.length + k) q (by rw [List.getElem?_append_right (Nat.le_add_right _ _), Nat.add_sub_cancel_left]; exact hk)
theorem zld_l {A : Nat → Prop} {w1 w2 : va_W} (h : va_D A (w1 ++ w2)) : va_D A w1 := by
  have e : ∀ k q, w1[k]? = some q → (w1 ++ w2)[k]? = some q := fun k q hk => by rw [List.getElem?_append_left (List.getElem?_eq_some_iff.mp hk).1]; exact hk
  exact ⟨fun i j p q hi hj z => h.1 i j p q (e _ _ hi) (e _ _ hj) z, fun k q hk => h.2 k q (e _ _ hk)⟩
theorem zld_r {A : Nat → Prop} {w1 w2 : va_W} (h : va_D A (w1 ++ w2)) : va_D A w2 := by
  have e : ∀ k q, w2[k]? = some q → (w1 ++ w2)[w1.length + k]? = some q := fun k q hk => by rw [List.getElem?_append_right (Nat.le_add_right _ _), Nat.add_sub_cancel_left]; exact hk
  exact ⟨fun i j p q hi hj z => Nat.add_left_cancel (h.1 _ _ p q (e _ _ hi) (e _ _ hj) z), fun k q hk => h.2 _ q (e _ _ hk)⟩
theorem zld_x {A : Nat → Prop} {w1 w2 : va_W} (h : va_D A (w1 ++ w2)) {i j : Nat} {p q : Nat × va_E} (hi : w1[i]? = some p) (hj : w2[j]? = some q) : p.1 ≠ q.1 := fun z => by
  have l1 := (List.getElem?_eq_some_iff.mp hi).1
  have := h.1 i (w1.length + j) p q (by rw [List.getElem?_append_left l1]; exact hi) (by rw [List.getElem?_append_right (Nat.le_add_right _ _), Nat.add_sub_cancel_left]; exact hj) z
  omega
theorem zlw_set {ws : va_W} {x : Nat} {a : Nat} {e0 e : va_E} {k : Nat} {q : Nat × va_E} (h0 : ws[x]? = some (a, e0)) (h : (ws.set x (a, e))[k]? = some q) : ∃ e', ws[k]? = some (q.1, e') := by
  by_cases z : k = x
  · subst z
    rw [List.getElem?_set_self (List.getElem?_eq_some_iff.mp h0).1] at h
    cases h
    exact ⟨e0, h0⟩
  · rw [List.getElem?_set_ne (Ne.symm z)] at h
    exact ⟨q.2, h⟩
theorem zlw_mem {aI aC aS : ClassId} {xb t30 t31 t32 : Nat} {u : bk_U} {k i : Nat} (hk : k < 30) (hi : i < bb_cnt k) : ∃ (j : Nat) (e : va_E), (bk_WW aI aC aS xb u)[j]? = some (bk_ad xb t30 t31 t32 u k i, e) := by
  obtain ⟨p, hp⟩ := bb_pos hk hi
  have hw := bb_WS_at (ad := bk_ad xb t30 t31 t32 u) (aI := aI) (aC := aC) (aS := aS) (M := bk_M0) hp
  have e := bk_eqW aI aC aS xb t30 t31 t32 u
  have e1 : (bk_PX.map (fun x => (bk_EW aI aC xb u (bk_e20 xb t30 t31 t32 u aS))[x]?))[p]? = some (some (bk_ad xb t30 t31 t32 u k i, bb_ce (bk_ad xb t30 t31 t32 u) aI aC aS bk_M0 k i)) := by
    rw [e, List.getElem?_map, hw]
    rfl
  rw [List.getElem?_map] at e1
  cases hx : bk_PX[p]? with
  | none => rw [hx] at e1; cases e1
  | some x =>
    rw [hx] at e1
    have e2 : (bk_EW aI aC xb u (bk_e20 xb t30 t31 t32 u aS))[x]? = some (bk_ad xb t30 t31 t32 u k i, bb_ce (bk_ad xb t30 t31 t32 u) aI aC aS bk_M0 k i) := Option.some.inj e1
    rw [← bk_EW_set aI aC xb u (.inl (aS, 4, .inr (.inr (.inr (.inr (fun j => some (u 10 (j + 1)))))))) (bk_e20 xb t30 t31 t32 u aS)] at e2
    obtain ⟨e', h'⟩ := zlw_set (e0 := (.inl (aS, 4, .inr (.inr (.inr (.inr (fun j => some (u 10 (j + 1)))))))) ) rfl e2
    exact ⟨x, e', by rw [bk_WW_eq]; exact h'⟩
