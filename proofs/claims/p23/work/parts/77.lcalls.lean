/-! WHAT THE LAW'S CALLS ANSWER -/
theorem bm_10 : ((1 : Int32) = 0) = False := by decide
theorem bm_01 : ((0 : Int32) = 1) = False := by decide
theorem zI_m {S1 S2 : bs_S} (h : zI (S1, S2)) : zm S1.1 S2.1 := h.1.2.2
theorem zI_i {S1 S2 : bs_S} (h : zI (S1, S2)) : bs_inv S1.1 ∧ bs_inv S2.1 := h.1.1
theorem zI_b {S1 S2 : bs_S} (h : zI (S1, S2)) : zb S1.1 := h.1.2.1
def zuN (v : Int32) (n : Nat) : Nat := v.toBitVec.toNat % 2147483648 % n
theorem zuN_lt {v : Int32} {n : Nat} (h : 0 < n) : zuN v n < n := Nat.mod_lt _ h
theorem zu_and (v : Int32) : v &&& 2147483647 = nI (v.toBitVec.toNat % 2147483648) := pk_and v 31 (by decide)
theorem x_up {F : Int32 → Int32} {d n : Nat} {v : Int32} {T : z_T} {k : z_P} (h0 : 0 < n) (h1 : n < 1000) : z_call (z_CL F (d + 1)) 1 [bb_I v, bb_I (nI n)] T k ↔ k (nI (zuN v n)) T := by
  refine z_cal (zs_L_up ?_)
  have hm : v.toBitVec.toNat % 2147483648 < 2147483648 := Nat.mod_lt _ (by decide)
  have e := pk_rem (a := v.toBitVec.toNat % 2147483648) (d := n) hm h0 (by omega)
  have hn : nI n ≠ 0 := nI_ne0 (by omega) (by omega)
  simp only [ze_L_up_0, ze_L_up_1, ze_L_up_3, ze_L_up_4, ze_L_up_5, ze_L_up_6, zu_and, e]
  exact ⟨hn, rfl, trivial⟩
theorem x_up3 {F : Int32 → Int32} {d : Nat} {v : Int32} {T : z_T} {k : z_P} : z_call (z_CL F (d + 1)) 1 [bb_I v, bb_I 3] T k ↔ k (nI (zuN v 3)) T := x_up (n := 3) (by decide) (by decide)
theorem x_up4 {F : Int32 → Int32} {d : Nat} {v : Int32} {T : z_T} {k : z_P} : z_call (z_CL F (d + 1)) 1 [bb_I v, bb_I 4] T k ↔ k (nI (zuN v 4)) T := x_up (n := 4) (by decide) (by decide)
theorem x_up15 {F : Int32 → Int32} {d : Nat} {v : Int32} {T : z_T} {k : z_P} : z_call (z_CL F (d + 1)) 1 [bb_I v, bb_I 15] T k ↔ k (nI (zuN v 15)) T := x_up (n := 15) (by decide) (by decide)
theorem x_up16 {F : Int32 → Int32} {d : Nat} {v : Int32} {T : z_T} {k : z_P} : z_call (z_CL F (d + 1)) 1 [bb_I v, bb_I 16] T k ↔ k (nI (zuN v 16)) T := x_up (n := 16) (by decide) (by decide)
theorem x_up20 {F : Int32 → Int32} {d : Nat} {v : Int32} {T : z_T} {k : z_P} : z_call (z_CL F (d + 1)) 1 [bb_I v, bb_I 20] T k ↔ k (nI (zuN v 20)) T := x_up (n := 20) (by decide) (by decide)
theorem x_up27 {F : Int32 → Int32} {d : Nat} {v : Int32} {T : z_T} {k : z_P} : z_call (z_CL F (d + 1)) 1 [bb_I v, bb_I 27] T k ↔ k (nI (zuN v 27)) T := x_up (n := 27) (by decide) (by decide)
theorem x_up31 {F : Int32 → Int32} {d : Nat} {v : Int32} {T : z_T} {k : z_P} : z_call (z_CL F (d + 1)) 1 [bb_I v, bb_I 31] T k ↔ k (nI (zuN v 31)) T := x_up (n := 31) (by decide) (by decide)
theorem x_up51 {F : Int32 → Int32} {d : Nat} {v : Int32} {T : z_T} {k : z_P} : z_call (z_CL F (d + 1)) 1 [bb_I v, bb_I 51] T k ↔ k (nI (zuN v 51)) T := x_up (n := 51) (by decide) (by decide)
theorem x_up100 {F : Int32 → Int32} {d : Nat} {v : Int32} {T : z_T} {k : z_P} : z_call (z_CL F (d + 1)) 1 [bb_I v, bb_I 100] T k ↔ k (nI (zuN v 100)) T := x_up (n := 100) (by decide) (by decide)
/-! counts -/
theorem zc_0 (S : bs_S) : (sp_count S 0).1 = zS S.1 := rfl
theorem zc_1 (S : bs_S) : (sp_count S 1).1 = S.1 134 := rfl
theorem zc_2 (S : bs_S) : (sp_count S 2).1 = S.1 135 := rfl
theorem zc_3 (S : bs_S) : (sp_count S 3).1 = S.1 136 := rfl
theorem zc_4 (S : bs_S) : (sp_count S 4).1 = S.1 137 := rfl
theorem zc_5 (S : bs_S) : (sp_count S 5).1 = S.1 138 := rfl
theorem zc_6 (S : bs_S) : (sp_count S 6).1 = S.1 139 := rfl
theorem zc_7 (S : bs_S) : (sp_count S 7).1 = S.1 140 := rfl
theorem zc_8 (S : bs_S) : (sp_count S 8).1 = S.1 141 := rfl
theorem zc_9 (S : bs_S) : (sp_count S 9).1 = S.1 85 := rfl
theorem zc_10 (S : bs_S) : (sp_count S 10).1 = S.1 80 := rfl
theorem zc_13 (S : bs_S) : (sp_count S 13).1 = S.1 83 := rfl
theorem zc_15 (S : bs_S) : (sp_count S 15).1 = nI (bf_cr (bf_bar S.1 (S.1 80)) 19 4) := rfl
theorem zc_16 (S : bs_S) : (sp_count S 16).1 = nI (bf_cr (bf_gap S.1 (S.1 80) (S.1 83)) 19 4) := rfl
theorem zc_17 (S : bs_S) : (sp_count S 17).1 = nI (bf_cr (bf_dry S.1 (S.1 80)) 20 4) := rfl
theorem zc_18 (S : bs_S) : (sp_count S 18).1 = nI S.2.2.1 := rfl
theorem zc_s {S : bs_S} {n : Nat} (h : n < 4) : (sp_count S (nI (11 + n))).1 = S.1 (81 + n) := by
  rcases (show n = 0 ∨ n = 1 ∨ n = 2 ∨ n = 3 by omega) with rfl | rfl | rfl | rfl <;> rfl
theorem zv_ii {n a b : Nat} (hn : n < 1000) : bv (nI n) (a : Int) (b : Int) = decide (a ≤ n ∧ n ≤ b) := by
  unfold bv
  rw [bn_ti (by omega)]
  by_cases q : a ≤ n ∧ n ≤ b
  · rw [decide_eq_true q, decide_eq_true ⟨by omega, by omega⟩]
  · rw [decide_eq_false q, decide_eq_false (by omega)]
theorem zv_r {r : Nat} (h : r < 4) : bv (nI r) 0 3 = true := (zv_ii (a := 0) (b := 3) (by omega)).trans (decide_eq_true (by omega))
theorem zv_c {c : Nat} (h : c < 20) : bv (nI c) 0 19 = true := (zv_ii (a := 0) (b := 19) (by omega)).trans (decide_eq_true (by omega))
theorem zv_h {w : Nat} (h : 1 ≤ w ∧ w ≤ 20) : bv (nI w) 1 20 = true := (zv_ii (a := 1) (b := 20) (by omega)).trans (decide_eq_true (by omega))
theorem zv_N {n : Nat} (h : n < 1000) : bv_N (nI n) = n := by
  unfold bv_N
  rw [bn_ti (by omega)]
  rfl
theorem zk_cell {S : bs_S} {r c : Nat} (hr : r < 4) (hc : c < 20) : (sp_cell S (nI r) (nI c) 0).1 = S.1 (20 * r + c) ∧ (sp_cell S (nI r) (nI c) 1).1 = S.1 80 - S.1 (20 * r + c) ∧ (sp_cell S (nI r) (nI c) 2).1 = bb_b (bf_bar S.1 (S.1 80) r c) ∧ (sp_cell S (nI r) (nI c) 3).1 = bb_b (bf_gap S.1 (S.1 80) (S.1 83) r c) := by
  have e1 := zv_r hr
  have e2 := zv_c hc
  have e3 := zv_N (n := r) (by omega)
  have e4 := zv_N (n := c) (by omega)
  have e5 : (bv (nI r) 0 3 && bv (nI c) 0 19) = true := by rw [e1, e2]; rfl
  unfold sp_cell
  dsimp only
  rw [e3, e4, if_pos e5, if_pos e5, if_pos e5, if_pos e5]
  exact ⟨rfl, rfl, rfl, rfl⟩
theorem zk_row {S : bs_S} {r : Nat} (hr : r < 4) : (sp_row S (nI r) 0).1 = bf_sm S.1 (20 * r) 20 ∧ (sp_row S (nI r) 1).1 = nI (bf_cn (bf_bar S.1 (S.1 80) r) 19) ∧ (sp_row S (nI r) 2).1 = nI (bf_cn (bf_gap S.1 (S.1 80) (S.1 83) r) 19) ∧ (sp_row S (nI r) 3).1 = bf_ld (bf_dry S.1 (S.1 80) r) 20 ∧ (sp_row S (nI r) 4).1 = bf_gd S.1 r 19 ∧ (sp_row S (nI r) 5).1 = bf_bits (bf_bar S.1 (S.1 80) r) 19 ∧ (sp_row S (nI r) 6).1 = bf_hn (bf_hi S.1 (bf_bar S.1 (S.1 80) r) r 19) := by
  have e1 := zv_r hr
  have e3 := zv_N (n := r) (by omega)
  unfold sp_row bs_S.a
  dsimp only
  rw [e3]
  exact ⟨(if_pos e1).trans (if_pos rfl), (if_pos e1).trans ((if_neg (by decide)).trans (if_pos rfl)), (if_pos e1).trans ((if_neg (by decide)).trans ((if_neg (by decide)).trans (if_pos rfl))), (if_pos e1).trans ((if_neg (by decide)).trans ((if_neg (by decide)).trans ((if_neg (by decide)).trans (if_pos rfl)))), (if_pos e1).trans ((if_neg (by decide)).trans ((if_neg (by decide)).trans ((if_neg (by decide)).trans ((if_neg (by decide)).trans (if_pos rfl))))), (if_pos e1).trans ((if_neg (by decide)).trans ((if_neg (by decide)).trans ((if_neg (by decide)).trans ((if_neg (by decide)).trans ((if_neg (by decide)).trans (if_pos rfl)))))), (if_pos e1).trans ((if_neg (by decide)).trans ((if_neg (by decide)).trans ((if_neg (by decide)).trans ((if_neg (by decide)).trans ((if_neg (by decide)).trans ((if_neg (by decide)).trans (if_pos rfl)))))))⟩
/-! the acts -/
theorem zS_dmp {a : Nat → Int32} {r c : Nat} {v : Int32} (hr : r < 4) (hc : c < 20) : zS (sp_dmp a (20 * r + c) v) = zS a + (v - a (20 * r + c)) := by
  have e1 : ∀ r', r' < 4 → r' ≠ r → bf_rg (upd a (20 * r + c) v) r' = bf_rg a r' := fun r' h1 h2 => by
    funext d
    unfold bf_rg
    split
    · rw [bf_upd, if_neg (by omega)]
    · rfl
  have e2 : bf_sm (bf_rg (upd a (20 * r + c) v) r) 0 20 = bf_sm (bf_rg a r) 0 20 + (v - a (20 * r + c)) := by
    rw [show bf_sm (bf_rg (upd a (20 * r + c) v) r) 0 20 = bf_sm (upd (bf_rg a r) c v) 0 20 from zs_eq 20 (fun d hd => by
      rw [Nat.zero_add, bf_rg_c hd, bf_upd, bf_upd, bf_rg_c hd]
      by_cases q : d = c
      · rw [if_pos q, if_pos (by omega)]
      · rw [if_neg q, if_neg (by omega)]), zs_upd 20 hc, bf_rg_c hc]
  have e3 := zS_one hr e1
  have ex : ∀ (p : Nat) (x : Int32), 80 ≤ p → zS (upd (upd a (20 * r + c) v) p x) = zS a + (v - a (20 * r + c)) := fun p x hp => by
    rw [zS_cong (a := upd a (20 * r + c) v) (fun j hj => by rw [bf_upd, if_neg (by omega)]), e3, e2]
    grind
  unfold sp_dmp
  split
  · exact ex _ _ (by decide)
  · exact ex _ _ (by decide)
theorem zd_wave {S1 S2 : bs_S} {r w : Nat} (h : zI (S1, S2)) (hr : r < 4) (hw : 1 ≤ w ∧ w ≤ 20) : (bs_sz S1.1 = 24 ∧ sp_wave S1 (nI r) (nI w) = (-1003, S1) ∧ sp_wave S2 (nI (3 - r)) (nI w) = (-1003, S2)) ∨ (bs_sz S1.1 ≠ 24 ∧ sp_wave S1 (nI r) (nI w) = (nI (bs_sz S1.1 + 1), bs_act S1 (sp_put S1.1 (nI r) (nI w))) ∧ sp_wave S2 (nI (3 - r)) (nI w) = (nI (bs_sz S1.1 + 1), bs_act S2 (sp_put S2.1 (nI (3 - r)) (nI w))) ∧ zI (bs_act S1 (sp_put S1.1 (nI r) (nI w)), bs_act S2 (sp_put S2.1 (nI (3 - r)) (nI w))) ∧ zS (sp_put S1.1 (nI r) (nI w)) = zS S1.1) := by
  have e1 := zv_r hr
  have e2 := zv_r (r := 3 - r) (by omega)
  have e3 := zv_h hw
  have esz : bs_sz S2.1 = bs_sz S1.1 := zm_sz h.1.2.2
  have hz : bs_sz S1.1 ≤ 24 := zg_sz h.1
  unfold sp_wave
  rw [if_pos e1, if_pos e3, if_pos e2, if_pos e3]
  by_cases q : bs_sz S1.1 = 24
  · refine Or.inl ⟨q, ?_, ?_⟩
    · rw [if_pos q]
    · rw [if_pos (esz.trans q)]
  · refine Or.inr ⟨q, ?_, ?_, zI_act h (zg_put h.1 (Nat.lt_of_le_of_ne hz q) hr hw), ?_⟩
    · rw [if_neg q]
    · rw [if_neg (fun z => q (esz.symm.trans z))]
      show (nI (bs_sz S2.1 + 1), _) = _
      rw [esz]
    · exact zS_cong (fun j hj => bs_put_hi (by omega) (by omega) (by omega))
theorem zd_dump {S1 S2 : bs_S} {r c : Nat} {v : Int32} (h : zI (S1, S2)) (hr : r < 4) (hc : c < 20) : (bv v 0 99 = false ∧ sp_dump S1 (nI r) (nI c) v = (-1002, S1) ∧ sp_dump S2 (nI (3 - r)) (nI c) v = (-1002, S2)) ∨ (bv v 0 99 = true ∧ S1.1 (20 * r + c) = v ∧ sp_dump S1 (nI r) (nI c) v = (-1005, S1) ∧ sp_dump S2 (nI (3 - r)) (nI c) v = (-1005, S2)) ∨ (bv v 0 99 = true ∧ S1.1 (20 * r + c) ≠ v ∧ sp_dump S1 (nI r) (nI c) v = (S1.1 (20 * r + c), bs_act S1 (sp_dmp S1.1 (20 * r + c) v)) ∧ sp_dump S2 (nI (3 - r)) (nI c) v = (S1.1 (20 * r + c), bs_act S2 (sp_dmp S2.1 (20 * (3 - r) + c) v)) ∧ zI (bs_act S1 (sp_dmp S1.1 (20 * r + c) v), bs_act S2 (sp_dmp S2.1 (20 * (3 - r) + c) v)) ∧ zS (sp_dmp S1.1 (20 * r + c) v) = zS S1.1 + (v - S1.1 (20 * r + c))) := by
  have e1 := zv_r hr
  have e2 := zv_r (r := 3 - r) (by omega)
  have e3 := zv_c hc
  have n1 := zv_N (n := r) (by omega)
  have n2 := zv_N (n := 3 - r) (by omega)
  have n3 := zv_N (n := c) (by omega)
  have e5 : (bv (nI r) 0 3 && bv (nI c) 0 19) = true := by rw [e1, e3]; rfl
  have e6 : (bv (nI (3 - r)) 0 3 && bv (nI c) 0 19) = true := by rw [e2, e3]; rfl
  have e7 : S2.1 (20 * (3 - r) + c) = S1.1 (20 * r + c) := h.1.2.2.1 r hr c hc
  unfold sp_dump
  rw [if_pos e5, if_pos e6, n1, n2, n3]
  cases q : bv v 0 99
  · exact Or.inl ⟨rfl, rfl, rfl⟩
  · by_cases q2 : S1.1 (20 * r + c) = v
    · refine Or.inr (Or.inl ⟨rfl, q2, ?_, ?_⟩)
      · rw [if_pos rfl]; exact if_pos q2
      · rw [if_pos rfl]; exact if_pos (e7.trans q2)
    · refine Or.inr (Or.inr ⟨rfl, q2, ?_, ?_, zI_act h (zg_dmp h.1 hr hc (bv_iff.mp q)), zS_dmp hr hc⟩)
      · rw [if_pos rfl]; exact if_neg q2
      · rw [if_pos rfl]
        refine (if_neg (fun z => q2 (e7.symm.trans z))).trans ?_
        show (S2.1 (20 * (3 - r) + c), _) = _
        rw [e7]
theorem zd_sets {S1 S2 : bs_S} {p : Nat} {v : Int32} (h : zI (S1, S2)) (hp : (p = 80 ∧ 20 ≤ v.toInt ∧ v.toInt ≤ 70) ∨ (p = 81 ∧ 1 ≤ v.toInt ∧ v.toInt ≤ 20) ∨ (p = 82 ∧ 0 ≤ v.toInt ∧ v.toInt ≤ 2) ∨ (p = 83 ∧ 1 ≤ v.toInt ∧ v.toInt ≤ 20) ∨ (p = 84 ∧ 4 ≤ v.toInt ∧ v.toInt ≤ 30)) : (S1.1 p = v ∧ sp_sets S1 p v = (-1005, S1) ∧ sp_sets S2 p v = (-1005, S2)) ∨ (S1.1 p ≠ v ∧ sp_sets S1 p v = (S1.1 p, bs_act S1 (upd S1.1 p v)) ∧ sp_sets S2 p v = (S1.1 p, bs_act S2 (upd S2.1 p v)) ∧ zI (bs_act S1 (upd S1.1 p v), bs_act S2 (upd S2.1 p v))) := by
  have e : S2.1 p = S1.1 p := h.1.2.2.2.1 p (by omega)
  unfold sp_sets
  by_cases q : S1.1 p = v
  · exact Or.inl ⟨q, if_pos q, if_pos (e.trans q)⟩
  · refine Or.inr ⟨q, if_neg q, (if_neg (fun z => q (e.symm.trans z))).trans ?_, zI_act h (zg_set h.1 hp)⟩
    show (S2.1 p, _) = _
    rw [e]
theorem zd_level {S : bs_S} {n : Nat} (h : 20 ≤ n ∧ n ≤ 70) : sp_setLevel S (nI n) = sp_sets S 80 (nI n) := by
  unfold sp_setLevel
  exact if_pos ((zv_ii (a := 20) (b := 70) (by omega)).trans (decide_eq_true h))
theorem zd_set {S : bs_S} {w n : Nat} (hw : w < 4) (hn : ((w = 0 ∨ w = 2) ∧ 1 ≤ n ∧ n ≤ 20) ∨ (w = 1 ∧ n ≤ 2) ∨ (w = 3 ∧ 4 ≤ n ∧ n ≤ 30)) : sp_set S (nI w) (nI n) = sp_sets S (81 + w) (nI n) := by
  unfold sp_set
  rw [zv_N (n := w) (by omega)]
  refine if_pos ⟨zv_r hw, ?_⟩
  unfold bs_set
  rcases (show w = 0 ∨ w = 1 ∨ w = 2 ∨ w = 3 by omega) with rfl | rfl | rfl | rfl
  · exact (zv_ii (a := 1) (b := 20) (by omega)).trans (decide_eq_true (by omega))
  · exact (zv_ii (a := 0) (b := 2) (by omega)).trans (decide_eq_true (by omega))
  · exact (zv_ii (a := 1) (b := 20) (by omega)).trans (decide_eq_true (by omega))
  · exact (zv_ii (a := 4) (b := 30) (by omega)).trans (decide_eq_true (by omega))
theorem zm_lr {a b : Nat → Int32} {lv : Int32} (h : zm a b) : br_lr b lv = br_lr a lv ∧ bf_scu b lv (b 83) 4 = bf_scu a lv (a 83) 4 := by
  have e83 := h.2.1 83 (by omega)
  have e84 := h.2.1 84 (by omega)
  unfold br_lr
  rw [e83, e84, zh_scu h.1, zh_su (zh_sco h.1)]
  exact ⟨rfl, rfl⟩
theorem zd_settle {S1 S2 : bs_S} (h : zI (S1, S2)) : (br_lr S1.1 (S1.1 80) = 0 ∧ (sp_settle S1).1 = -1005 ∧ (sp_settle S2).1 = -1005 ∧ zI ((sp_settle S1).2, (sp_settle S2).2) ∧ (sp_settle S1).2.1 = br_ls S1.1 (S1.1 80)) ∨ (br_lr S1.1 (S1.1 80) ≠ 0 ∧ (sp_settle S1).1 = nI (br_lr S1.1 (S1.1 80)) ∧ (sp_settle S2).1 = nI (br_lr S1.1 (S1.1 80)) ∧ zI ((sp_settle S1).2, (sp_settle S2).2) ∧ (sp_settle S1).2.1 = br_ls S1.1 (S1.1 80)) := by
  have e80 : S2.1 80 = S1.1 80 := h.1.2.2.2.1 80 (by omega)
  have el : br_lr S2.1 (S1.1 80) = br_lr S1.1 (S1.1 80) := (zm_lr h.1.2.2).1
  have hg : zg (br_ls S1.1 (S1.1 80)) (br_ls S2.1 (S1.1 80)) := zg_ls h.1
  unfold sp_settle
  rw [show S2.a 80 = S1.a 80 from e80, show br_lr S2.a (S1.a 80) = br_lr S1.a (S1.a 80) from el]
  by_cases q : br_lr S1.a (S1.a 80) = 0
  · rw [if_pos q, if_pos q]
    exact Or.inl ⟨q, rfl, rfl, zI_a h hg, rfl⟩
  · rw [if_neg q, if_neg q]
    exact Or.inr ⟨q, rfl, rfl, zI_act h hg, rfl⟩
theorem zd_undo {S1 S2 : bs_S} (h : zI (S1, S2)) (hn : S1.2.2.1 ≠ 0) : (sp_undo S2).1 = (sp_undo S1).1 ∧ zI ((sp_undo S1).2, (sp_undo S2).2) := by
  obtain ⟨h1, ⟨h2, h3⟩, h4, h5⟩ := h
  have h2 : S2.hn = S1.hn := h2
  have h3 : S1.hn ≤ 4 := h3
  have h4 : ∀ j, j < S1.hn → zg (S1.hs j) (S2.hs j) := h4
  have hn : S1.hn ≠ 0 := hn
  unfold sp_undo
  rw [h2, if_neg hn, if_neg hn]
  refine ⟨rfl, h4 _ (by omega), ⟨rfl, ?_⟩, fun j hj => h4 j ?_, h5⟩
  · show S1.hn - 1 ≤ 4
    omega
  · have : j < S1.hn - 1 := hj
    omega
theorem zd_cnkp (f : Nat → Int32) (lo hi : Int32) : ∀ n, bf_cn (bf_kp f lo hi) n + bf_cn (bf_btw f lo hi) n = n
  | 0 => rfl
  | n + 1 => by
    have := zd_cnkp f lo hi n
    rw [bf_cn_s, bf_cn_s]
    unfold bf_kp at this ⊢
    cases bf_btw f lo hi n
    · simp only [Bool.not_false, if_true, Bool.false_eq_true, if_false]
      omega
    · simp only [Bool.not_true, if_true, Bool.false_eq_true, if_false]
      omega
theorem zd_strike {S1 S2 : bs_S} {l m : Nat} (h : zI (S1, S2)) (hl : 1 ≤ l ∧ l ≤ 20) (hm : 1 ≤ m ∧ m ≤ 20) : (m < l ∧ sp_strike S1 (nI l) (nI m) = (-1002, S1) ∧ sp_strike S2 (nI l) (nI m) = (-1002, S2)) ∨ (¬ m < l ∧ sp_strike S1 (nI l) (nI m) = (-1005, S1) ∧ sp_strike S2 (nI l) (nI m) = (-1005, S2)) ∨ (¬ m < l ∧ ∃ k, k ≤ bs_sz S1.1 ∧ sp_strike S1 (nI l) (nI m) = (nI (bs_sz S1.1 - k), bs_act S1 (sp_str S1.1 (nI l) (nI m))) ∧ sp_strike S2 (nI l) (nI m) = (nI (bs_sz S1.1 - k), bs_act S2 (sp_str S2.1 (nI l) (nI m))) ∧ sp_str S1.1 (nI l) (nI m) 85 = nI k ∧ zI (bs_act S1 (sp_str S1.1 (nI l) (nI m)), bs_act S2 (sp_str S2.1 (nI l) (nI m)))) := by
  have e1 := zv_h hl
  have e2 := zv_h hm
  have t1 := bn_ti (n := l) (by omega)
  have t2 := bn_ti (n := m) (by omega)
  have esz : bs_sz S2.1 = bs_sz S1.1 := zm_sz h.1.2.2
  have ek : bf_cn (sp_kp S2.1 (nI l) (nI m)) (bs_sz S1.1) = bf_cn (sp_kp S1.1 (nI l) (nI m)) (bs_sz S1.1) := bf_cn_eq _ (zm_kp h.1.2.2)
  have eb : bf_cn (bf_btw (sp_hs S2.1) (nI l) (nI m)) (bs_sz S1.1) = bf_cn (bf_btw (sp_hs S1.1) (nI l) (nI m)) (bs_sz S1.1) := bf_cn_eq _ (fun j hj => by
    unfold bf_btw sp_hs
    rw [((zI_m h).2.2.1 j hj).2])
  unfold sp_strike
  by_cases q : m < l
  · refine Or.inl ⟨q, ?_, ?_⟩
    · rw [if_neg (fun z => by have := z.2.2; omega)]
    · rw [if_neg (fun z => by have := z.2.2; omega)]
  · have c1 : bv (nI l) 1 20 = true ∧ bv (nI m) 1 20 = true ∧ (nI l).toInt ≤ (nI m).toInt := ⟨e1, e2, by omega⟩
    rw [if_pos c1, if_pos c1, show bs_sz S2.a = bs_sz S1.a from esz]
    by_cases q2 : bf_cn (bf_btw (sp_hs S1.1) (nI l) (nI m)) (bs_sz S1.1) = 0
    · refine Or.inr (Or.inl ⟨q, ?_, ?_⟩)
      · rw [if_pos q2]
      · rw [if_pos (eb.trans q2)]
    · refine Or.inr (Or.inr ⟨q, bf_cn (sp_kp S1.1 (nI l) (nI m)) (bs_sz S1.1), bf_cn_le _ _, ?_, ?_, ?_, zI_act h (zg_str h.1)⟩)
      · rw [if_neg q2]
      · rw [if_neg (fun z => q2 (eb.symm.trans z))]
        show (nI (bs_sz S1.1 - bf_cn (sp_kp S2.1 (nI l) (nI m)) (bs_sz S1.1)), _) = _
        rw [ek]
      · unfold sp_str
        rw [if_pos rfl]
/-! a run -/
def zq (a : Nat → Int32) : Nat → Int32
  | 0 => 0
  | n + 1 => zq a n + a (143 + 7 * n + 5)
theorem zq_eq {a b : Nat → Int32} : ∀ n, (∀ j, j < n → b (143 + 7 * j + 5) = a (143 + 7 * j + 5)) → zq b n = zq a n
  | 0, _ => rfl
  | n + 1, e => by
    show zq b n + b (143 + 7 * n + 5) = zq a n + a (143 + 7 * n + 5)
    rw [zq_eq n (fun j hj => e j (by omega)), e n (by omega)]
theorem zq_rn {a o : Nat → Int32} {lv : Int32} {s : Nat} (hs : s ≤ 24) (hr : ∀ x, x < s → br_row a x < 4) (ho : ∀ j, j < s → (o j).toInt.toNat < s) : ∀ t, t ≤ s → (br_rn a o lv t).2 = zq (br_rn a o lv t).1 t
  | 0, _ => rfl
  | t + 1, ht => by
    have ih := zq_rn (lv := lv) hs hr ho t (by omega)
    have g := (br_rn_hi (lv := lv) hs hr ho t (by omega)).2 _ (ho t (by omega))
    have hrow : br_row (br_rn a o lv t).1 (o t).toInt.toNat < 4 := by rw [g.1]; exact hr _ (ho t (by omega))
    show (br_rn a o lv t).2 + (br_go (br_rn a o lv t).1 lv (o t).toInt.toNat).2.1 5 = zq (br_tu (br_rn a o lv t).1 lv t (o t).toInt.toNat) t + br_tu (br_rn a o lv t).1 lv t (o t).toInt.toNat (143 + 7 * t + 5)
    rw [ih, zq_eq (a := (br_rn a o lv t).1) (b := br_tu (br_rn a o lv t).1 lv t (o t).toInt.toNat) t (fun j hj => br_tu_hi hrow (by omega))]
    congr 1
    unfold br_tu
    rw [if_neg (by omega), if_neg (by omega), if_neg (by omega), if_pos (by omega), Nat.add_sub_cancel_left]
theorem zd_run {S1 S2 : bs_S} {n : Nat} (h : zI (S1, S2)) (hn : n ≤ 30) : (bs_sz S1.1 = 0 ∧ sp_run S1 (nI n) = (-1005, S1) ∧ sp_run S2 (nI n) = (-1005, S2)) ∨ (bs_sz S1.1 ≠ 0 ∧ ∃ (t : Int32) (A B : Nat → Int32), sp_run S1 (nI n) = (t, bs_act S1 A) ∧ sp_run S2 (nI n) = (t, bs_act S2 B) ∧ zI (bs_act S1 A, bs_act S2 B) ∧ A 139 = S1.1 139 + t ∧ A 138 = S1.1 138 + nI (bs_sz S1.1) ∧ A 85 = 0 ∧ bs_tl A = bs_sz S1.1 ∧ t = zq A (bs_sz S1.1)) := by
  have hb : bv (nI n) 0 30 = true := (zv_ii (a := 0) (b := 30) (by omega)).trans (decide_eq_true (by omega))
  have esz : bs_sz S2.1 = bs_sz S1.1 := zm_sz h.1.2.2
  have e80 : S2.1 80 = S1.1 80 := h.1.2.2.2.1 80 (by omega)
  have hi := h.1.1.1
  have hz : bs_sz S1.1 ≤ 24 := zg_sz h.1
  unfold sp_run
  rw [if_pos hb, if_pos hb, show bs_sz S2.a = bs_sz S1.a from esz, show S2.a 80 = S1.a 80 from e80]
  by_cases q : bs_sz S1.1 = 0
  · exact Or.inl ⟨q, if_pos q, if_pos q⟩
  · generalize S1.a 80 + nI n = lv
    obtain ⟨m1, m2⟩ := zm_ca (lv := lv) h.1.2.2 h.1.1.1 h.1.1.2
    refine Or.inr ⟨q, (br_b S1.1 lv).2, upd (br_ls (br_ca S1.1 lv) lv) 85 0, upd (br_ls (br_ca S2.1 lv) lv) 85 0, if_neg q, (if_neg q).trans ?_, zI_act h (zg_85 (zg_ls (zg_ca h.1))), ?_, ?_, ?_, ?_, ?_⟩
    · show ((br_b S2.1 lv).2, _) = _
      rw [m2]
    · rw [bw_upd_c (by decide)]
      unfold br_ls
      rw [if_neg (by decide), if_neg (by decide), if_neg (by decide)]
      unfold br_ca
      rw [bw_upd_c (by decide), bf_upd, if_pos rfl]
    · rw [bw_upd_c (by decide)]
      unfold br_ls
      rw [if_neg (by decide), if_neg (by decide), if_neg (by decide)]
      unfold br_ca
      rw [bw_upd_c (by decide), bw_upd_c (by decide), bf_upd, if_pos rfl]
    · rw [bf_upd, if_pos rfl]
    · unfold bs_tl
      rw [bw_upd_c (by decide)]
      unfold br_ls
      rw [if_neg (by decide), if_neg (by decide), if_neg (by decide)]
      exact br_c_tl hi
    · have e := zq_rn (lv := lv) hz (fun x hx => (br_qs hi x hx).1) (br_os (a := S1.1) hz) (bs_sz S1.1) (Nat.le_refl _)
      refine Eq.trans e (zq_eq _ (fun j hj => ?_)).symm
      rw [bw_upd_c (by omega)]
      unfold br_ls
      rw [if_neg (by omega), if_neg (by omega), if_neg (by omega)]
      unfold br_ca
      rw [bw_upd_c (by omega), bw_upd_c (by omega), bw_upd_c (by omega)]
      rfl
theorem zk_ended {S : bs_S} {k w : Nat} (hk : k < bs_tl S.1) (ht : bs_tl S.1 ≤ 24) (hw : w < 7) : (sp_ended S (nI k) (nI w)).1 = S.1 (143 + (7 * k + w)) := by
  have t1 := bn_ti (n := k) (by omega)
  unfold sp_ended bs_S.a
  dsimp only
  rw [zv_N (n := k) (by omega), zv_N (n := w) (by omega), if_pos ⟨by omega, (zv_ii (a := 0) (b := 6) (by omega)).trans (decide_eq_true (by omega))⟩, if_pos (by omega)]
theorem zk_endN {S : bs_S} (ht : bs_tl S.1 ≤ 24) : (sp_ended S (nI (bs_tl S.1)) 0).1 = -1005 := by
  have t1 := bn_ti (n := bs_tl S.1) (by omega)
  unfold sp_ended bs_S.a
  dsimp only
  rw [if_pos ⟨by omega, by decide⟩, if_neg (by omega)]
/-! how the waves ended -/
theorem zl_en1 {F : Int32 → Int32} {d k : Nat} {S1 S2 : bs_S} {R : z_P} {n b s : Int32} (h : zI (S1, S2)) (hk : k < bs_tl S1.1) : ∀ (t w : Nat), 1 ≤ w → w + t = 7 → (z_Y (z_CL F d) zc_L_areEnded R 77 [bb_R 40 0, bb_R 41 0, bb_I n, bb_I b, bb_I s, bb_I 1, bb_I (nI k), bb_I (nI w)] [] (S1, S2) ↔ z_Y (z_CL F d) zc_L_areEnded R 25 [bb_R 40 0, bb_R 41 0, bb_I n, bb_I b, bb_I s, bb_I 1, bb_I (nI (k + 1)), bb_I (nI 7)] [] (S1, S2)) := by
  intro t
  have ht : bs_tl S1.1 ≤ 24 := (zI_i h).1.2.2.2.2.2.2.2.2.1
  have etl : bs_tl S2.1 = bs_tl S1.1 := zm_tl h.1.2.2
  induction t with
  | zero =>
    intro w hw hn
    obtain rfl : w = 7 := by omega
    have h1 : (7 : Int) ≤ ((7 : Nat) : Int) := by decide
    rw [zh_L_areEnded_77]
    simp (disch := omega) only [ze_L_areEnded_0, ze_L_areEnded_1, ze_L_areEnded_3, ze_L_areEnded_4, ze_L_areEnded_5, ze_L_areEnded_6, ze_L_areEnded_9, ze_L_areEnded_12, ze_L_areEnded_15, ze_L_areEnded_16, ze_L_areEnded_19, ze_L_areEnded_20, ze_L_areEnded_22, ze_L_areEnded_23, ze_L_areEnded_27, ze_L_areEnded_28, ze_L_areEnded_31, ze_L_areEnded_33, ze_L_areEnded_36, ze_L_areEnded_38, ze_L_areEnded_39, ze_L_areEnded_41, ze_L_areEnded_42, ze_L_areEnded_45, ze_L_areEnded_46, ze_L_areEnded_48, ze_L_areEnded_49, ze_L_areEnded_51, ze_L_areEnded_52, ze_L_areEnded_55, ze_L_areEnded_56, ze_L_areEnded_57, ze_L_areEnded_59, ze_L_areEnded_60, ze_L_areEnded_63, ze_L_areEnded_64, ze_L_areEnded_67, ze_L_areEnded_68, ze_L_areEnded_71, ze_L_areEnded_72, ze_L_areEnded_74, ze_L_areEnded_75, ze_L_areEnded_79, ze_L_areEnded_81, ze_L_areEnded_84, ze_L_areEnded_86, ze_L_areEnded_89, ze_L_areEnded_90, ze_L_areEnded_92, ze_L_areEnded_94, ze_L_areEnded_97, ze_L_areEnded_98, ze_L_areEnded_100, ze_L_areEnded_102, ze_L_areEnded_105, ze_L_areEnded_108, ze_L_areEnded_109, ze_L_areEnded_112, ze_L_areEnded_113, ze_L_areEnded_115, ze_L_areEnded_118, ze_L_areEnded_121, ze_L_areEnded_124, ze_L_areEnded_127, ze_L_areEnded_129, ze_L_areEnded_132, ze_L_areEnded_134, ze_L_areEnded_135, ze_L_areEnded_138, ze_L_areEnded_139, ze_L_areEnded_142, ze_L_areEnded_143, Option.toList_some, Option.toList_none, List.cons_append, List.nil_append, true_and, and_true, and_self, bb_ite, true_or, or_true, Option.some.injEq, bb_I_eq, bb_b_0e, bb_b_1e, bb_b_e0, bb_b_e1, decide_eq_true_eq, decide_eq_false_iff_not, bn_01, bn_11, bb_b_01, ne_eq, Bool.not_eq_false, Bool.not_eq_true, Classical.not_not, bn_lt, bn_le, bn_ti, Int32.reduceToInt, bn_m20, bn_20m, nI_add, bn_p1, bn_s1, bn_in, bn_cl, implies_true, not_true_eq_false, not_false_eq_true, Bool.true_and, Bool.false_and, Bool.and_true, Bool.and_false, Bool.true_or, Bool.false_or, Bool.or_true, Bool.or_false, Bool.not_true, Bool.not_false, false_implies, true_implies, forall_const, Bool.false_eq_true, Bool.true_eq_false, reduceCtorEq, eq_self, Bool.and_eq_true, Bool.or_eq_true, Bool.and_eq_false_iff, Bool.or_eq_false_iff, and_false, false_and, or_false, false_or, bm_10, bm_01, h1]
  | succ t ih =>
    intro w hw hn
    have h1 : ¬ (7 : Int) ≤ (w : Int) := by omega
    have eo := zk_ended (S := S1) (k := k) (w := w) hk ht (by omega)
    have ep := zk_ended (S := S2) (k := k) (w := w) (by omega) (by omega) (by omega)
    have em : S2.1 (143 + (7 * k + w)) = S1.1 (143 + (7 * k + w)) := by
      have := ((zI_m h).2.2.2 k hk).2 w hw (by omega)
      rwa [Nat.add_assoc] at this
    rw [em] at ep
    rw [zh_L_areEnded_77, ← ih (w + 1) (by omega) (by omega)]
    simp (disch := omega) only [ze_L_areEnded_0, ze_L_areEnded_1, ze_L_areEnded_3, ze_L_areEnded_4, ze_L_areEnded_5, ze_L_areEnded_6, ze_L_areEnded_9, ze_L_areEnded_12, ze_L_areEnded_15, ze_L_areEnded_16, ze_L_areEnded_19, ze_L_areEnded_20, ze_L_areEnded_22, ze_L_areEnded_23, ze_L_areEnded_27, ze_L_areEnded_28, ze_L_areEnded_31, ze_L_areEnded_33, ze_L_areEnded_36, ze_L_areEnded_38, ze_L_areEnded_39, ze_L_areEnded_41, ze_L_areEnded_42, ze_L_areEnded_45, ze_L_areEnded_46, ze_L_areEnded_48, ze_L_areEnded_49, ze_L_areEnded_51, ze_L_areEnded_52, ze_L_areEnded_55, ze_L_areEnded_56, ze_L_areEnded_57, ze_L_areEnded_59, ze_L_areEnded_60, ze_L_areEnded_63, ze_L_areEnded_64, ze_L_areEnded_67, ze_L_areEnded_68, ze_L_areEnded_71, ze_L_areEnded_72, ze_L_areEnded_74, ze_L_areEnded_75, ze_L_areEnded_79, ze_L_areEnded_81, ze_L_areEnded_84, ze_L_areEnded_86, ze_L_areEnded_89, ze_L_areEnded_90, ze_L_areEnded_92, ze_L_areEnded_94, ze_L_areEnded_97, ze_L_areEnded_98, ze_L_areEnded_100, ze_L_areEnded_102, ze_L_areEnded_105, ze_L_areEnded_108, ze_L_areEnded_109, ze_L_areEnded_112, ze_L_areEnded_113, ze_L_areEnded_115, ze_L_areEnded_118, ze_L_areEnded_121, ze_L_areEnded_124, ze_L_areEnded_127, ze_L_areEnded_129, ze_L_areEnded_132, ze_L_areEnded_134, ze_L_areEnded_135, ze_L_areEnded_138, ze_L_areEnded_139, ze_L_areEnded_142, ze_L_areEnded_143, Option.toList_some, Option.toList_none, List.cons_append, List.nil_append, true_and, and_true, and_self, bb_ite, true_or, or_true, Option.some.injEq, bb_I_eq, bb_b_0e, bb_b_1e, bb_b_e0, bb_b_e1, decide_eq_true_eq, decide_eq_false_iff_not, bn_01, bn_11, bb_b_01, ne_eq, Bool.not_eq_false, Bool.not_eq_true, Classical.not_not, bn_lt, bn_le, bn_ti, Int32.reduceToInt, bn_m20, bn_20m, nI_add, bn_p1, bn_s1, bn_in, bn_cl, implies_true, not_true_eq_false, not_false_eq_true, Bool.true_and, Bool.false_and, Bool.and_true, Bool.and_false, Bool.true_or, Bool.false_or, Bool.or_true, Bool.or_false, Bool.not_true, Bool.not_false, false_implies, true_implies, forall_const, Bool.false_eq_true, Bool.true_eq_false, reduceCtorEq, eq_self, Bool.and_eq_true, Bool.or_eq_true, Bool.and_eq_false_iff, Bool.or_eq_false_iff, and_false, false_and, or_false, false_or, bm_10, bm_01, h1, zx_ended_o, zx_ended_p, eo, ep]
theorem zl_en2 {F : Int32 → Int32} {d : Nat} {S1 S2 : bs_S} {b : Int32} (h : zI (S1, S2)) (hb : b = zq S1.1 (bs_tl S1.1)) : ∀ (t k : Nat) (z : bb_V), k + t = bs_tl S1.1 → z_Y (z_CL F d) zc_L_areEnded (fun r' T' => r' = 1 ∧ T' = (S1, S2)) 25 [bb_R 40 0, bb_R 41 0, bb_I (nI (bs_tl S1.1)), bb_I b, bb_I (zq S1.1 k), bb_I 1, bb_I (nI k), z] [] (S1, S2) := by
  intro t
  have ht : bs_tl S1.1 ≤ 24 := (zI_i h).1.2.2.2.2.2.2.2.2.1
  have etl : bs_tl S2.1 = bs_tl S1.1 := zm_tl h.1.2.2
  induction t with
  | zero =>
    intro k z hn
    obtain rfl : k = bs_tl S1.1 := by omega
    rw [zh_L_areEnded_25]
    simp (disch := omega) only [ze_L_areEnded_0, ze_L_areEnded_1, ze_L_areEnded_3, ze_L_areEnded_4, ze_L_areEnded_5, ze_L_areEnded_6, ze_L_areEnded_9, ze_L_areEnded_12, ze_L_areEnded_15, ze_L_areEnded_16, ze_L_areEnded_19, ze_L_areEnded_20, ze_L_areEnded_22, ze_L_areEnded_23, ze_L_areEnded_27, ze_L_areEnded_28, ze_L_areEnded_31, ze_L_areEnded_33, ze_L_areEnded_36, ze_L_areEnded_38, ze_L_areEnded_39, ze_L_areEnded_41, ze_L_areEnded_42, ze_L_areEnded_45, ze_L_areEnded_46, ze_L_areEnded_48, ze_L_areEnded_49, ze_L_areEnded_51, ze_L_areEnded_52, ze_L_areEnded_55, ze_L_areEnded_56, ze_L_areEnded_57, ze_L_areEnded_59, ze_L_areEnded_60, ze_L_areEnded_63, ze_L_areEnded_64, ze_L_areEnded_67, ze_L_areEnded_68, ze_L_areEnded_71, ze_L_areEnded_72, ze_L_areEnded_74, ze_L_areEnded_75, ze_L_areEnded_79, ze_L_areEnded_81, ze_L_areEnded_84, ze_L_areEnded_86, ze_L_areEnded_89, ze_L_areEnded_90, ze_L_areEnded_92, ze_L_areEnded_94, ze_L_areEnded_97, ze_L_areEnded_98, ze_L_areEnded_100, ze_L_areEnded_102, ze_L_areEnded_105, ze_L_areEnded_108, ze_L_areEnded_109, ze_L_areEnded_112, ze_L_areEnded_113, ze_L_areEnded_115, ze_L_areEnded_118, ze_L_areEnded_121, ze_L_areEnded_124, ze_L_areEnded_127, ze_L_areEnded_129, ze_L_areEnded_132, ze_L_areEnded_134, ze_L_areEnded_135, ze_L_areEnded_138, ze_L_areEnded_139, ze_L_areEnded_142, ze_L_areEnded_143, Option.toList_some, Option.toList_none, List.cons_append, List.nil_append, true_and, and_true, and_self, bb_ite, true_or, or_true, Option.some.injEq, bb_I_eq, bb_b_0e, bb_b_1e, bb_b_e0, bb_b_e1, decide_eq_true_eq, decide_eq_false_iff_not, bn_01, bn_11, bb_b_01, ne_eq, Bool.not_eq_false, Bool.not_eq_true, Classical.not_not, bn_lt, bn_le, bn_ti, Int32.reduceToInt, bn_m20, bn_20m, nI_add, bn_p1, bn_s1, bn_in, bn_cl, implies_true, not_true_eq_false, not_false_eq_true, Bool.true_and, Bool.false_and, Bool.and_true, Bool.and_false, Bool.true_or, Bool.false_or, Bool.or_true, Bool.or_false, Bool.not_true, Bool.not_false, false_implies, true_implies, forall_const, Bool.false_eq_true, Bool.true_eq_false, reduceCtorEq, eq_self, Bool.and_eq_true, Bool.or_eq_true, Bool.and_eq_false_iff, Bool.or_eq_false_iff, and_false, false_and, or_false, false_or, bm_10, bm_01, Int.le_refl, hb]
    try trivial
  | succ t ih =>
    intro k z hn
    have h1 : ¬ ((bs_tl S1.1 : Nat) : Int) ≤ (k : Int) := by omega
    have e5 := zk_ended (S := S1) (k := k) (w := 5) (by omega) ht (by omega)
    have e0 := zk_ended (S := S1) (k := k) (w := 0) (by omega) ht (by omega)
    have p0 := zk_ended (S := S2) (k := k) (w := 0) (by omega) (by omega) (by omega)
    have em : S2.1 (143 + (7 * k + 0)) = 3 - S1.1 (143 + (7 * k + 0)) := ((zI_m h).2.2.2 k (by omega)).1
    rw [show (nI 5) = 5 from rfl] at e5
    rw [show (nI 0) = 0 from rfl] at e0 p0
    rw [em] at p0
    have e3 : (3 : Int32) - (3 - S1.1 (143 + (7 * k + 0))) = S1.1 (143 + (7 * k + 0)) := by grind
    have es : zq S1.1 k + S1.1 (143 + (7 * k + 5)) = zq S1.1 (k + 1) := by
      show _ = zq S1.1 k + S1.1 (143 + 7 * k + 5)
      rw [Nat.add_assoc]
    have ez := (zl_en1 (F := F) (d := d) (R := fun r' T' => r' = 1 ∧ T' = (S1, S2)) (n := nI (bs_tl S1.1)) (b := b) (s := zq S1.1 (k + 1)) h (k := k) (by omega) 6 1 (by decide) (by decide)).mpr (ih (k + 1) _ (by omega))
    rw [show (nI 1) = 1 from rfl] at ez
    rw [zh_L_areEnded_25]
    simp (disch := omega) only [ze_L_areEnded_0, ze_L_areEnded_1, ze_L_areEnded_3, ze_L_areEnded_4, ze_L_areEnded_5, ze_L_areEnded_6, ze_L_areEnded_9, ze_L_areEnded_12, ze_L_areEnded_15, ze_L_areEnded_16, ze_L_areEnded_19, ze_L_areEnded_20, ze_L_areEnded_22, ze_L_areEnded_23, ze_L_areEnded_27, ze_L_areEnded_28, ze_L_areEnded_31, ze_L_areEnded_33, ze_L_areEnded_36, ze_L_areEnded_38, ze_L_areEnded_39, ze_L_areEnded_41, ze_L_areEnded_42, ze_L_areEnded_45, ze_L_areEnded_46, ze_L_areEnded_48, ze_L_areEnded_49, ze_L_areEnded_51, ze_L_areEnded_52, ze_L_areEnded_55, ze_L_areEnded_56, ze_L_areEnded_57, ze_L_areEnded_59, ze_L_areEnded_60, ze_L_areEnded_63, ze_L_areEnded_64, ze_L_areEnded_67, ze_L_areEnded_68, ze_L_areEnded_71, ze_L_areEnded_72, ze_L_areEnded_74, ze_L_areEnded_75, ze_L_areEnded_79, ze_L_areEnded_81, ze_L_areEnded_84, ze_L_areEnded_86, ze_L_areEnded_89, ze_L_areEnded_90, ze_L_areEnded_92, ze_L_areEnded_94, ze_L_areEnded_97, ze_L_areEnded_98, ze_L_areEnded_100, ze_L_areEnded_102, ze_L_areEnded_105, ze_L_areEnded_108, ze_L_areEnded_109, ze_L_areEnded_112, ze_L_areEnded_113, ze_L_areEnded_115, ze_L_areEnded_118, ze_L_areEnded_121, ze_L_areEnded_124, ze_L_areEnded_127, ze_L_areEnded_129, ze_L_areEnded_132, ze_L_areEnded_134, ze_L_areEnded_135, ze_L_areEnded_138, ze_L_areEnded_139, ze_L_areEnded_142, ze_L_areEnded_143, Option.toList_some, Option.toList_none, List.cons_append, List.nil_append, true_and, and_true, and_self, bb_ite, true_or, or_true, Option.some.injEq, bb_I_eq, bb_b_0e, bb_b_1e, bb_b_e0, bb_b_e1, decide_eq_true_eq, decide_eq_false_iff_not, bn_01, bn_11, bb_b_01, ne_eq, Bool.not_eq_false, Bool.not_eq_true, Classical.not_not, bn_lt, bn_le, bn_ti, Int32.reduceToInt, bn_m20, bn_20m, nI_add, bn_p1, bn_s1, bn_in, bn_cl, implies_true, not_true_eq_false, not_false_eq_true, Bool.true_and, Bool.false_and, Bool.and_true, Bool.and_false, Bool.true_or, Bool.false_or, Bool.or_true, Bool.or_false, Bool.not_true, Bool.not_false, false_implies, true_implies, forall_const, Bool.false_eq_true, Bool.true_eq_false, reduceCtorEq, eq_self, Bool.and_eq_true, Bool.or_eq_true, Bool.and_eq_false_iff, Bool.or_eq_false_iff, and_false, false_and, or_false, false_or, bm_10, bm_01, h1, zx_ended_o, zx_ended_p, e5, e0, p0, e3, es]
    exact ez
theorem x_areEnded {F : Int32 → Int32} {d : Nat} {S1 S2 : bs_S} {b : Int32} {k : z_P} (h : zI (S1, S2)) (hb : b = zq S1.1 (bs_tl S1.1)) : z_call (z_CL F (d + 1)) 5 [bb_R 40 0, bb_R 41 0, bb_I (nI (bs_tl S1.1)), bb_I b] (S1, S2) k ↔ k 1 (S1, S2) := by
  have ht : bs_tl S1.1 ≤ 24 := (zI_i h).1.2.2.2.2.2.2.2.2.1
  refine z_cal (zs_L_areEnded ?_)
  have e := zl_en2 (F := F) (d := d) h hb (bs_tl S1.1) 0 bb_U (Nat.zero_add _)
  rw [show (nI 0) = 0 from rfl, show zq S1.1 0 = 0 from rfl] at e
  simp (disch := omega) only [ze_L_areEnded_0, ze_L_areEnded_1, ze_L_areEnded_3, ze_L_areEnded_4, ze_L_areEnded_5, ze_L_areEnded_6, ze_L_areEnded_9, ze_L_areEnded_12, ze_L_areEnded_15, ze_L_areEnded_16, ze_L_areEnded_19, ze_L_areEnded_20, ze_L_areEnded_22, ze_L_areEnded_23, ze_L_areEnded_27, ze_L_areEnded_28, ze_L_areEnded_31, ze_L_areEnded_33, ze_L_areEnded_36, ze_L_areEnded_38, ze_L_areEnded_39, ze_L_areEnded_41, ze_L_areEnded_42, ze_L_areEnded_45, ze_L_areEnded_46, ze_L_areEnded_48, ze_L_areEnded_49, ze_L_areEnded_51, ze_L_areEnded_52, ze_L_areEnded_55, ze_L_areEnded_56, ze_L_areEnded_57, ze_L_areEnded_59, ze_L_areEnded_60, ze_L_areEnded_63, ze_L_areEnded_64, ze_L_areEnded_67, ze_L_areEnded_68, ze_L_areEnded_71, ze_L_areEnded_72, ze_L_areEnded_74, ze_L_areEnded_75, ze_L_areEnded_79, ze_L_areEnded_81, ze_L_areEnded_84, ze_L_areEnded_86, ze_L_areEnded_89, ze_L_areEnded_90, ze_L_areEnded_92, ze_L_areEnded_94, ze_L_areEnded_97, ze_L_areEnded_98, ze_L_areEnded_100, ze_L_areEnded_102, ze_L_areEnded_105, ze_L_areEnded_108, ze_L_areEnded_109, ze_L_areEnded_112, ze_L_areEnded_113, ze_L_areEnded_115, ze_L_areEnded_118, ze_L_areEnded_121, ze_L_areEnded_124, ze_L_areEnded_127, ze_L_areEnded_129, ze_L_areEnded_132, ze_L_areEnded_134, ze_L_areEnded_135, ze_L_areEnded_138, ze_L_areEnded_139, ze_L_areEnded_142, ze_L_areEnded_143, Option.toList_some, Option.toList_none, List.cons_append, List.nil_append, true_and, and_true, and_self, bb_ite, true_or, or_true, Option.some.injEq, bb_I_eq, bb_b_0e, bb_b_1e, bb_b_e0, bb_b_e1, decide_eq_true_eq, decide_eq_false_iff_not, bn_01, bn_11, bb_b_01, ne_eq, Bool.not_eq_false, Bool.not_eq_true, Classical.not_not, bn_lt, bn_le, bn_ti, Int32.reduceToInt, bn_m20, bn_20m, nI_add, bn_p1, bn_s1, bn_in, bn_cl, implies_true, not_true_eq_false, not_false_eq_true, Bool.true_and, Bool.false_and, Bool.and_true, Bool.and_false, Bool.true_or, Bool.false_or, Bool.or_true, Bool.or_false, Bool.not_true, Bool.not_false, false_implies, true_implies, forall_const, Bool.false_eq_true, Bool.true_eq_false, reduceCtorEq, eq_self, Bool.and_eq_true, Bool.or_eq_true, Bool.and_eq_false_iff, Bool.or_eq_false_iff, and_false, false_and, or_false, false_or, bm_10, bm_01, zx_ended_o, zk_endN ht]
  exact e
theorem x_isBalanced {F : Int32 → Int32} {d : Nat} {S1 S2 : bs_S} {k : z_P} (h : zb S1.1) : z_call (z_CL F (d + 1)) 4 [bb_R 40 0] (S1, S2) k ↔ k 1 (S1, S2) := by
  refine z_cal (zs_L_isBalanced ?_)
  have h : zS S1.1 + S1.1 134 + S1.1 135 + S1.1 137 = 2520 + S1.1 136 := h
  simp (disch := omega) only [ze_L_isBalanced_0, ze_L_isBalanced_1, ze_L_isBalanced_2, ze_L_isBalanced_5, ze_L_isBalanced_6, ze_L_isBalanced_7, ze_L_isBalanced_10, ze_L_isBalanced_11, ze_L_isBalanced_12, ze_L_isBalanced_13, ze_L_isBalanced_16, ze_L_isBalanced_17, ze_L_isBalanced_18, ze_L_isBalanced_19, ze_L_isBalanced_22, ze_L_isBalanced_23, ze_L_isBalanced_26, ze_L_isBalanced_27, ze_L_isBalanced_28, ze_L_isBalanced_31, ze_L_isBalanced_32, ze_L_isBalanced_35, ze_L_isBalanced_36, ze_L_isBalanced_39, ze_L_isBalanced_40, Option.toList_some, Option.toList_none, List.cons_append, List.nil_append, true_and, and_true, and_self, bb_ite, true_or, or_true, Option.some.injEq, bb_I_eq, bb_b_0e, bb_b_1e, bb_b_e0, bb_b_e1, decide_eq_true_eq, decide_eq_false_iff_not, bn_01, bn_11, bb_b_01, ne_eq, Bool.not_eq_false, Bool.not_eq_true, Classical.not_not, bn_lt, bn_le, bn_ti, Int32.reduceToInt, bn_m20, bn_20m, nI_add, bn_p1, bn_s1, bn_in, bn_cl, implies_true, not_true_eq_false, not_false_eq_true, Bool.true_and, Bool.false_and, Bool.and_true, Bool.and_false, Bool.true_or, Bool.false_or, Bool.or_true, Bool.or_false, Bool.not_true, Bool.not_false, false_implies, true_implies, forall_const, Bool.false_eq_true, Bool.true_eq_false, reduceCtorEq, eq_self, Bool.and_eq_true, Bool.or_eq_true, Bool.and_eq_false_iff, Bool.or_eq_false_iff, and_false, false_and, or_false, false_or, bm_10, bm_01, zx_count_o, zc_0, zc_1, zc_2, zc_3, zc_4, h]
  try trivial
