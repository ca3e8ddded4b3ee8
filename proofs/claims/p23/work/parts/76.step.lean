/-! TWO BEACHES, ONE MIRRORED: what the acts keep -/
def zg (a b : Nat → Int32) : Prop := (bs_inv a ∧ bs_inv b) ∧ zb a ∧ zm a b
def zI (T : z_T) : Prop := zg T.1.a T.2.a ∧ (T.2.hn = T.1.hn ∧ T.1.hn ≤ 4) ∧ (∀ j, j < T.1.hn → zg (T.1.hs j) (T.2.hs j)) ∧ T.2.tl = T.1.tl
theorem zI_act {S1 S2 : bs_S} {a b : Nat → Int32} (h : zI (S1, S2)) (hg : zg a b) : zI (bs_act S1 a, bs_act S2 b) := by
  obtain ⟨h1, ⟨h2, h3⟩, h4, h5⟩ := h
  have h2 : S2.hn = S1.hn := h2
  have h3 : S1.hn ≤ 4 := h3
  have h4 : ∀ j, j < S1.hn → zg (S1.hs j) (S2.hs j) := h4
  refine ⟨hg, ⟨?_, Nat.min_le_right _ _⟩, fun j hj => ?_, h5⟩
  · show min (S2.hn + 1) 4 = min (S1.hn + 1) 4
    rw [h2]
  · have hj : j < min (S1.hn + 1) 4 := hj
    show zg (bs_push S1.hs S1.hn S1.a j) (bs_push S2.hs S2.hn S2.a j)
    rw [h2]
    unfold bs_push
    by_cases q : S1.hn < 4
    · rw [if_pos q, if_pos q]
      by_cases q2 : j = S1.hn
      · rw [if_pos q2, if_pos q2]; exact h1
      · rw [if_neg q2, if_neg q2]; exact h4 j (by omega)
    · rw [if_neg q, if_neg q]
      by_cases q2 : j = 3
      · rw [if_pos q2, if_pos q2]; exact h1
      · rw [if_neg q2, if_neg q2]; exact h4 (j + 1) (by omega)
theorem zI_a {S1 S2 : bs_S} {a b : Nat → Int32} (h : zI (S1, S2)) (hg : zg a b) : zI ((a, S1.hs, S1.hn, S1.sT, S1.sn, S1.tx, S1.tl), (b, S2.hs, S2.hn, S2.sT, S2.sn, S2.tx, S2.tl)) := ⟨hg, h.2.1, h.2.2.1, h.2.2.2⟩
theorem zm_upd {a b : Nat → Int32} {p : Nat} {v : Int32} (h : zm a b) (hz : bs_sz a ≤ 24) (hp : 80 ≤ p ∧ p < 85 ∨ 134 ≤ p ∧ p < 142) : zm (upd a p v) (upd b p v) := by
  have esz : bs_sz (upd a p v) = bs_sz a := by unfold bs_sz; rw [bw_upd_c (by omega)]
  have etl : bs_tl (upd a p v) = bs_tl a := by unfold bs_tl; rw [bw_upd_c (by omega)]
  refine ⟨fun r hr c hc => ?_, fun j hj => ?_, fun j hj => ?_, fun t ht => ?_⟩
  · rw [bw_upd_c (by omega), bw_upd_c (by omega)]; exact h.1 r hr c hc
  · rw [bf_upd, bf_upd]
    split
    · rfl
    · exact h.2.1 j hj
  · rw [esz] at hj
    rw [bw_upd_c (by omega), bw_upd_c (by omega), bw_upd_c (by omega), bw_upd_c (by omega)]
    exact h.2.2.1 j hj
  · rw [etl] at ht
    have g := h.2.2.2 t ht
    rw [bw_upd_c (by omega), bw_upd_c (by omega)]
    refine ⟨g.1, fun w w1 w2 => ?_⟩
    rw [bw_upd_c (by omega), bw_upd_c (by omega)]
    exact g.2 w w1 w2
theorem zm_cel {a b : Nat → Int32} {r c : Nat} {v : Int32} (h : zm a b) (hr : r < 4) (hc : c < 20) : zm (upd a (20 * r + c) v) (upd b (20 * (3 - r) + c) v) := by
  have esz : bs_sz (upd a (20 * r + c) v) = bs_sz a := by unfold bs_sz; rw [bw_upd_c (by omega)]
  have etl : bs_tl (upd a (20 * r + c) v) = bs_tl a := by unfold bs_tl; rw [bw_upd_c (by omega)]
  refine ⟨fun r' hr' c' hc' => ?_, fun j hj => ?_, fun j hj => ?_, fun t ht => ?_⟩
  · rw [bf_upd, bf_upd]
    by_cases q : r' = r ∧ c' = c
    · rw [if_pos (by omega), if_pos (by omega)]
    · rw [if_neg (by omega), if_neg (by omega)]
      exact h.1 r' hr' c' hc'
  · rw [bw_upd_c (by omega), bw_upd_c (by omega)]
    exact h.2.1 j hj
  · rw [esz] at hj
    rw [bw_upd_c (by omega), bw_upd_c (by omega), bw_upd_c (by omega), bw_upd_c (by omega)]
    exact h.2.2.1 j hj
  · rw [etl] at ht
    have g := h.2.2.2 t ht
    rw [bw_upd_c (by omega), bw_upd_c (by omega)]
    refine ⟨g.1, fun w w1 w2 => ?_⟩
    rw [bw_upd_c (by omega), bw_upd_c (by omega)]
    exact g.2 w w1 w2
theorem zg_sz {a b : Nat → Int32} (h : zg a b) : bs_sz a ≤ 24 := h.1.1.2.2.2.2.2.2.1.1
theorem zg_set {a b : Nat → Int32} {p : Nat} {v : Int32} (h : zg a b) (hp : (p = 80 ∧ 20 ≤ v.toInt ∧ v.toInt ≤ 70) ∨ (p = 81 ∧ 1 ≤ v.toInt ∧ v.toInt ≤ 20) ∨ (p = 82 ∧ 0 ≤ v.toInt ∧ v.toInt ≤ 2) ∨ (p = 83 ∧ 1 ≤ v.toInt ∧ v.toInt ≤ 20) ∨ (p = 84 ∧ 4 ≤ v.toInt ∧ v.toInt ≤ 30)) : zg (upd a p v) (upd b p v) :=
  ⟨⟨bs_inv_up h.1.1 (Or.inr (Or.inr hp)), bs_inv_up h.1.2 (Or.inr (Or.inr hp))⟩, zb_eq (fun j hj => bw_upd_c (by omega)) h.2.1, zm_upd h.2.2 (zg_sz h) (by omega)⟩
theorem zg_dmp {a b : Nat → Int32} {r c : Nat} {v : Int32} (h : zg a b) (hr : r < 4) (hc : c < 20) (hv : 0 ≤ v.toInt ∧ v.toInt ≤ 99) : zg (sp_dmp a (20 * r + c) v) (sp_dmp b (20 * (3 - r) + c) v) := by
  have e1 := h.2.2.1 r hr c hc
  have e2 := h.2.2.2.1 136 (by omega)
  have e3 := h.2.2.2.1 137 (by omega)
  have m1 := zm_cel (v := v) h.2.2 hr hc
  have i1 := bs_inv_up (p := 20 * r + c) (v := v) h.1.1 (Or.inl ⟨by omega, hv⟩)
  have i2 := bs_inv_up (p := 20 * (3 - r) + c) (v := v) h.1.2 (Or.inl ⟨by omega, hv⟩)
  refine ⟨?_, zb_dmp hr hc h.2.1, ?_⟩
  · unfold sp_dmp
    rw [e1]
    split
    · exact ⟨bs_inv_up i1 (by omega), bs_inv_up i2 (by omega)⟩
    · exact ⟨bs_inv_up i1 (by omega), bs_inv_up i2 (by omega)⟩
  · unfold sp_dmp
    rw [e1, e2, e3]
    split
    · exact zm_upd m1 i1.2.2.2.2.2.2.1.1 (by omega)
    · exact zm_upd m1 i1.2.2.2.2.2.2.1.1 (by omega)
theorem zg_put {a b : Nat → Int32} {r v : Nat} (h : zg a b) (hs : bs_sz a < 24) (hr : r < 4) (hv : 1 ≤ v ∧ v ≤ 20) : zg (sp_put a (nI r) (nI v)) (sp_put b (nI (3 - r)) (nI v)) := by
  have esz := zm_sz h.2.2
  refine ⟨⟨bs_inv_put h.1.1 hs hr hv, bs_inv_put h.1.2 (by omega) (by omega) hv⟩, zb_eq (fun j hj => bs_put_hi (by omega) (by omega) (by omega)) h.2.1, fun r' hr' c hc => ?_, fun j hj => ?_, fun j hj => ?_, fun t ht => ?_⟩
  · rw [bs_put_hi (by omega) (by omega) (by omega), bs_put_hi (by omega) (by omega) (by omega)]
    exact h.2.2.1 r' hr' c hc
  · by_cases q : j = 85
    · subst q
      unfold sp_put
      rw [bf_upd, if_pos rfl, bf_upd, if_pos rfl, esz]
    · rw [bs_put_hi q (by omega) (by omega), bs_put_hi q (by omega) (by omega)]
      exact h.2.2.2.1 j hj
  · rw [bs_put_sz hs] at hj
    by_cases q : j = bs_sz a
    · subst q
      have g1 := bs_put_r (a := b) (r := nI (3 - r)) (v := nI v)
      have g2 := bs_put_v (a := b) (r := nI (3 - r)) (v := nI v)
      rw [esz] at g1 g2
      rw [g1, g2, bs_put_r, bs_put_v, z3_sub hr]
      exact ⟨rfl, rfl⟩
    · rw [bs_put_hi (by omega) (by omega) (by omega), bs_put_hi (by omega) (by omega) (by omega), bs_put_hi (by omega) (by omega) (by omega), bs_put_hi (by omega) (by omega) (by omega)]
      exact h.2.2.2.2.1 j (by omega)
  · rw [bs_put_tl hs] at ht
    have g := h.2.2.2.2.2 t ht
    rw [bs_put_hi (by omega) (by omega) (by omega), bs_put_hi (by omega) (by omega) (by omega)]
    refine ⟨g.1, fun w w1 w2 => ?_⟩
    rw [bs_put_hi (by omega) (by omega) (by omega), bs_put_hi (by omega) (by omega) (by omega)]
    exact g.2 w w1 w2
theorem zm_kp {a b : Nat → Int32} {lo hi : Int32} (h : zm a b) : ∀ j, j < bs_sz a → sp_kp b lo hi j = sp_kp a lo hi j := fun j hj => by
  unfold sp_kp bf_kp bf_btw sp_hs
  rw [(h.2.2.1 j hj).2]
theorem zg_str {a b : Nat → Int32} {lo hi : Int32} (h : zg a b) : zg (sp_str a lo hi) (sp_str b lo hi) := by
  have esz := zm_sz h.2.2
  have hz := zg_sz h
  have ec := bf_cn_eq (bs_sz a) (zm_kp (lo := lo) (hi := hi) h.2.2)
  have ep := bf_ps_eq (bs_sz a) (zm_kp (lo := lo) (hi := hi) h.2.2)
  have hc := bf_cn_le (sp_kp a lo hi) (bs_sz a)
  refine ⟨⟨sp_str_inv h.1.1, sp_str_inv h.1.2⟩, zb_eq (fun j hj => sp_str_hi (by omega)) h.2.1, fun r' hr' c hc => ?_, fun j hj => ?_, fun j hj => ?_, fun t ht => ?_⟩
  · rw [sp_str_hi (by omega), sp_str_hi (by omega)]
    exact h.2.2.1 r' hr' c hc
  · by_cases q : j = 85
    · subst q
      unfold sp_str
      rw [if_pos rfl, if_pos rfl, esz, ec]
    · rw [sp_str_hi (by omega), sp_str_hi (by omega)]
      exact h.2.2.2.1 j hj
  · rw [sp_str_sz hz] at hj
    have hps := bf_ps_lt _ _ hj
    rw [sp_str_r (by omega), sp_str_h (by omega), sp_str_r (by omega), sp_str_h (by omega), bf_fl_ps, bf_fl_ps, bf_fl_ps, bf_fl_ps, esz, ep]
    exact h.2.2.2.2.1 _ hps
  · have etl : bs_tl (sp_str a lo hi) = bs_tl a := by unfold bs_tl; rw [sp_str_hi (by omega)]
    rw [etl] at ht
    have g := h.2.2.2.2.2 t ht
    rw [sp_str_hi (by omega), sp_str_hi (by omega)]
    refine ⟨g.1, fun w w1 w2 => ?_⟩
    rw [sp_str_hi (by omega), sp_str_hi (by omega)]
    exact g.2 w w1 w2
theorem zg_ls {a b : Nat → Int32} {lv : Int32} (h : zg a b) : zg (br_ls a lv) (br_ls b lv) := ⟨⟨br_ls_inv h.1.1, br_ls_inv h.1.2⟩, zb_ls h.2.1, zm_ls h.2.2 (zg_sz h)⟩
theorem zg_ca {a b : Nat → Int32} {lv : Int32} (h : zg a b) : zg (br_ca a lv) (br_ca b lv) := ⟨⟨br_c_inv h.1.1, br_c_inv h.1.2⟩, zb_ca h.1.1 h.2.1, (zm_ca h.2.2 h.1.1 h.1.2).1⟩
theorem zi_85 {a : Nat → Int32} (hi : bs_inv a) : bs_inv (upd a 85 0) := by
  have etl : bs_tl (upd a 85 0) = bs_tl a := by unfold bs_tl; rw [bw_upd_c (by decide)]
  have esz : bs_sz (upd a 85 0) = 0 := rfl
  obtain ⟨h1, h2, h3, h4, h5, h6, h7, h8, h9⟩ := hi
  refine ⟨fun j hj => ?_, ?_, ?_, ?_, ?_, ?_, ?_, ?_, ?_⟩
  · rw [bw_upd_c (by omega)]; exact h1 j hj
  · rw [bw_upd_c (by omega)]; exact h2
  · rw [bw_upd_c (by omega)]; exact h3
  · rw [bw_upd_c (by omega)]; exact h4
  · rw [bw_upd_c (by omega)]; exact h5
  · rw [bw_upd_c (by omega)]; exact h6
  · exact ⟨by rw [esz]; omega, rfl⟩
  · rw [esz]
    exact fun j hj => absurd hj (Nat.not_lt_zero j)
  · rw [etl, bw_upd_c (by omega)]; exact h9
theorem zg_85 {a b : Nat → Int32} (h : zg a b) : zg (upd a 85 0) (upd b 85 0) := by
  refine ⟨⟨zi_85 h.1.1, zi_85 h.1.2⟩, zb_eq (fun j hj => bw_upd_c (by omega)) h.2.1, fun r hr c hc => ?_, fun j hj => ?_, fun j hj => ?_, fun t ht => ?_⟩
  · rw [bw_upd_c (by omega), bw_upd_c (by omega)]; exact h.2.2.1 r hr c hc
  · rw [bf_upd, bf_upd]
    split
    · rfl
    · exact h.2.2.2.1 j hj
  · exact absurd hj (Nat.not_lt_zero j)
  · have etl : bs_tl (upd a 85 0) = bs_tl a := by unfold bs_tl; rw [bw_upd_c (by decide)]
    rw [etl] at ht
    have g := h.2.2.2.2.2 t ht
    rw [bw_upd_c (by omega), bw_upd_c (by omega)]
    refine ⟨g.1, fun w w1 w2 => ?_⟩
    rw [bw_upd_c (by omega), bw_upd_c (by omega)]
    exact g.2 w w1 w2
