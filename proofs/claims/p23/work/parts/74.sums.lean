/-! SAND IS KEPT: sums of rows -/
theorem zs_s (g : Nat → Int32) (a n : Nat) : bf_sm g a (n + 1) = bf_sm g a n + g (a + n) := rfl
theorem zs_eq {g h : Nat → Int32} {a b : Nat} : ∀ n, (∀ c, c < n → g (a + c) = h (b + c)) → bf_sm g a n = bf_sm h b n
  | 0, _ => rfl
  | n + 1, e => by rw [zs_s, zs_s, zs_eq n (fun c hc => e c (by omega)), e n (by omega)]
theorem zs_upd0 {g : Nat → Int32} {x : Int32} {c : Nat} : ∀ n, n ≤ c → bf_sm (upd g c x) 0 n = bf_sm g 0 n
  | 0, _ => rfl
  | n + 1, h => by rw [zs_s, zs_s, zs_upd0 n (by omega), bf_upd, if_neg (by omega)]
theorem zs_upd {g : Nat → Int32} {x : Int32} {c : Nat} : ∀ n, c < n → bf_sm (upd g c x) 0 n = bf_sm g 0 n + (x - g c)
  | 0, h => absurd h (Nat.not_lt_zero c)
  | n + 1, h => by
    rw [zs_s, zs_s, bf_upd, Nat.zero_add]
    by_cases q : n = c
    · rw [if_pos q, q, zs_upd0 c (Nat.le_refl c)]
      grind
    · rw [if_neg q, zs_upd n (by omega)]
      grind
theorem zs_two {g : Nat → Int32} {c d : Nat} {u : Int32} (hc : c < 20) (hd : d < 20) (hcd : d ≠ c) : bf_sm (upd (upd g c (g c - u)) d (g d + u)) 0 20 = bf_sm g 0 20 := by
  rw [zs_upd 20 hd, zs_upd 20 hc, bf_upd, if_neg hcd]
  grind
theorem zs_two' {g : Nat → Int32} {c d : Nat} {u : Int32} (hc : c < 20) (hd : d < 20) (hcd : d ≠ c) : bf_sm (upd (upd g c (g c + u)) d (g d - u)) 0 20 = bf_sm g 0 20 := by
  rw [zs_upd 20 hd, zs_upd 20 hc, bf_upd, if_neg hcd]
  grind
theorem zs_s1 {g : Nat → Int32} {st : Int32} {n : Nat} (hn : n < 19) : bf_sm (bf_s1 g st n) 0 20 = bf_sm g 0 20 := by
  unfold bf_s1
  split
  · exact zs_two (by omega) (by omega) (by omega)
  · split
    · exact zs_two' (by omega) (by omega) (by omega)
    · rfl
theorem zs_pp {g : Nat → Int32} {st : Int32} : ∀ n, n ≤ 19 → bf_sm (bf_pp g st n) 0 20 = bf_sm g 0 20
  | 0, _ => rfl
  | n + 1, h => by
    show bf_sm (bf_s1 (bf_pp g st n) st n) 0 20 = _
    rw [zs_s1 (by omega), zs_pp n (by omega)]
theorem zs_it {g : Nat → Int32} {st : Int32} : ∀ t, bf_sm (bf_it g st t) 0 20 = bf_sm g 0 20
  | 0 => rfl
  | t + 1 => by
    show bf_sm (bf_pp (bf_it g st t) st 19) 0 20 = _
    rw [zs_pp 19 (Nat.le_refl _), zs_it t]
theorem zs_q1 {g : Nat → Int32} {b : Bool} {c : Nat} (hc : c < 19) : bf_sm (bf_q1 g b c) 0 20 = bf_sm g 0 20 := by
  unfold bf_q1
  split
  · exact zs_two (by omega) (by omega) (by omega)
  · rfl
theorem zs_qq {g : Nat → Int32} {p : Nat → Bool} : ∀ n, n ≤ 19 → bf_sm (bf_qq g p n) 0 20 = bf_sm g 0 20
  | 0, _ => rfl
  | n + 1, h => by
    show bf_sm (bf_q1 (bf_qq g p n) (p n) n) 0 20 = _
    rw [zs_q1 (by omega), zs_qq n (by omega)]
/-- all sand of a row in motion -/
def zs_w (s : bw_S) : Int32 := bf_sm s.1 0 20 + s.2.2.1 + s.2.2.2
theorem zs_brk {sea : Bool} {n w : Nat} {s : bw_S} (hn : n < 20) : zs_w (bw_brk sea n w s) = zs_w s := by
  obtain ⟨g, F, p, q⟩ := s
  unfold zs_w bw_brk
  dsimp only
  generalize bw_min (nI (1 + w / 5)) (g n) = u
  split
  · split
    · dsimp only
      rw [zs_upd 20 hn]
      grind
    · dsimp only
      rw [zs_two' (by omega) (by omega) (by omega)]
  · split
    · dsimp only
      rw [zs_upd 20 hn]
      grind
    · dsimp only
      rw [zs_two' (by omega) (by omega) (by omega)]
theorem zs_run {lv : Int32} {sea : Bool} : ∀ (n w : Nat) (s : bw_S), n ≤ 20 → zs_w (bw_run lv sea n w s) = zs_w s
  | 0, _, _, _ => rfl
  | n + 1, w, s, h => by
    unfold bw_run
    split
    · rfl
    · split
      · split
        · show zs_w (bw_brk sea n w s) = _
          exact zs_brk (by omega)
        · rw [zs_run n _ _ (by omega), zs_brk (by omega)]
      · exact zs_run n _ _ (by omega)
/-! all rows -/
def zS (a : Nat → Int32) : Int32 := bf_sr a 0 20 4
theorem zS_eq (a : Nat → Int32) : zS a = bf_sm (bf_rg a 0) 0 20 + bf_sm (bf_rg a 1) 0 20 + bf_sm (bf_rg a 2) 0 20 + bf_sm (bf_rg a 3) 0 20 := by
  have e : ∀ r, bf_sm a (20 * r + 0) 20 = bf_sm (bf_rg a r) 0 20 := fun r => zs_eq 20 (fun c hc => by rw [Nat.zero_add, bf_rg_c hc, Nat.add_zero])
  show 0 + bf_sm a (20 * 0 + 0) 20 + bf_sm a (20 * 1 + 0) 20 + bf_sm a (20 * 2 + 0) 20 + bf_sm a (20 * 3 + 0) 20 = _
  rw [e, e, e, e]
  grind
theorem zS_same {a b : Nat → Int32} (h : ∀ r, r < 4 → bf_sm (bf_rg b r) 0 20 = bf_sm (bf_rg a r) 0 20) : zS b = zS a := by
  rw [zS_eq, zS_eq, h 0 (by decide), h 1 (by decide), h 2 (by decide), h 3 (by decide)]
theorem zS_cong {a b : Nat → Int32} (h : ∀ j, j < 80 → b j = a j) : zS b = zS a := zS_same (fun r hr => by rw [bf_rg_eq h hr])
theorem zS_one {a b : Nat → Int32} {r0 : Nat} (h0 : r0 < 4) (h : ∀ r, r < 4 → r ≠ r0 → bf_rg b r = bf_rg a r) : zS b = zS a + (bf_sm (bf_rg b r0) 0 20 - bf_sm (bf_rg a r0) 0 20) := by
  rw [zS_eq, zS_eq]
  rcases (show r0 = 0 ∨ r0 = 1 ∨ r0 = 2 ∨ r0 = 3 by omega) with rfl | rfl | rfl | rfl
  · rw [h 1 (by decide) (by decide), h 2 (by decide) (by decide), h 3 (by decide) (by decide)]
    grind
  · rw [h 0 (by decide) (by decide), h 2 (by decide) (by decide), h 3 (by decide) (by decide)]
    grind
  · rw [h 0 (by decide) (by decide), h 1 (by decide) (by decide), h 3 (by decide) (by decide)]
    grind
  · rw [h 0 (by decide) (by decide), h 1 (by decide) (by decide), h 2 (by decide) (by decide)]
    grind
theorem zS_st {h : Nat → Int32} {st : Int32} : zS (bf_st h st) = zS h := zS_same (fun r hr => by
  rw [← zs_it (g := bf_rg h r) (st := st) bf_NN]
  refine zs_eq 20 (fun c hc => ?_)
  rw [Nat.zero_add, bf_rg_c hc]
  unfold bf_st
  rw [show (20 * r + c) / 20 = r by omega, show (20 * r + c) % 20 = c by omega])
theorem zS_sco {h : Nat → Int32} {lv g : Int32} : zS (bf_sco h lv g) = zS h := zS_same (fun r hr => by
  rw [← zs_qq (g := bf_rg h r) (p := bf_gap h lv g r) 19 (Nat.le_refl _)]
  refine zs_eq 20 (fun c hc => ?_)
  rw [Nat.zero_add, bf_rg_c hc]
  unfold bf_sco
  rw [show (20 * r + c) / 20 = r by omega, show (20 * r + c) % 20 = c by omega])
/-- the account of a state -/
def zb (a : Nat → Int32) : Prop := zS a + a 134 + a 135 + a 137 = 2520 + a 136
theorem zb_eq {a b : Nat → Int32} (h : ∀ j, j < 80 ∨ 134 ≤ j ∧ j ≤ 137 → b j = a j) (ha : zb a) : zb b := by
  unfold zb at ha ⊢
  rw [zS_cong (fun j hj => h j (Or.inl hj)), h 134 (by decide), h 135 (by decide), h 136 (by decide), h 137 (by decide)]
  exact ha
theorem zb_ls {b : Nat → Int32} {lv : Int32} (hb : zb b) : zb (br_ls b lv) := by
  have e : zS (br_ls b lv) = zS b := by
    rw [zS_cong (a := bf_st (bf_sco b lv (b 83)) (b 84)) (fun j hj => by unfold br_ls; rw [if_pos hj]), zS_st, zS_sco]
  have e2 : ∀ j, 134 ≤ j → j ≤ 137 → br_ls b lv j = b j := fun j h1 h2 => by
    unfold br_ls
    rw [if_neg (by omega), if_neg (by omega), if_neg (by omega)]
  unfold zb at hb ⊢
  rw [e, e2 134 (by decide) (by decide), e2 135 (by decide) (by decide), e2 136 (by decide) (by decide), e2 137 (by decide) (by decide)]
  exact hb
theorem zb_tu {a : Nat → Int32} {lv : Int32} {t x : Nat} (hr : br_row a x < 4) (ha : zb a) : zb (br_tu a lv t x) := by
  have e1 : ∀ r, r < 4 → r ≠ br_row a x → bf_rg (br_tu a lv t x) r = bf_rg a r := fun r h1 h2 => by
    funext c
    unfold bf_rg
    split
    · unfold br_tu
      rw [if_neg (by omega), if_neg (by omega), if_neg (by omega), if_neg (by omega)]
    · rfl
  have e2 : bf_sm (bf_rg (br_tu a lv t x) (br_row a x)) 0 20 = bf_sm (br_go a lv x).1 0 20 := zs_eq 20 (fun c hc => by
    rw [Nat.zero_add, bf_rg_c hc]
    unfold br_tu
    rw [if_pos (by omega), Nat.add_sub_cancel_left])
  have e3 : zs_w (br_go a lv x) = bf_sm (bf_rg a (br_row a x)) 0 20 := by
    unfold br_go
    rw [zs_run 20 _ _ (Nat.le_refl _)]
    unfold zs_w
    dsimp only
    grind
  have e4 : br_tu a lv t x 134 = a 134 + (br_go a lv x).2.2.1 := by
    unfold br_tu
    rw [if_neg (by omega), if_pos rfl]
  have e5 : br_tu a lv t x 135 = a 135 + (br_go a lv x).2.2.2 := by
    unfold br_tu
    rw [if_neg (by omega), if_neg (by decide), if_pos rfl]
  have e6 := br_tu_hi (lv := lv) (t := t) (j := 136) hr (by omega)
  have e7 := br_tu_hi (lv := lv) (t := t) (j := 137) hr (by omega)
  have e8 := zS_one hr e1
  unfold zb at ha ⊢
  rw [e8, e2, e4, e5, e6, e7, ← e3]
  unfold zs_w
  grind
theorem zb_rn {a o : Nat → Int32} {lv : Int32} {s : Nat} (hs : s ≤ 24) (hr : ∀ x, x < s → br_row a x < 4) (ho : ∀ j, j < s → (o j).toInt.toNat < s) (ha : zb a) : ∀ t, t ≤ s → zb (br_rn a o lv t).1
  | 0, _ => ha
  | t + 1, ht => by
    have g := (br_rn_hi (lv := lv) hs hr ho t (by omega)).2 _ (ho t (by omega))
    exact zb_tu (by rw [g.1]; exact hr _ (ho t (by omega))) (zb_rn hs hr ho ha t (by omega))
theorem zb_ca {a : Nat → Int32} {lv : Int32} (hi : bs_inv a) (ha : zb a) : zb (br_ca a lv) := by
  have h := zb_rn (lv := lv) hi.2.2.2.2.2.2.1.1 (fun x hx => (br_qs hi x hx).1) (br_os (a := a) hi.2.2.2.2.2.2.1.1) ha _ (Nat.le_refl _)
  refine zb_eq (fun j hj => ?_) h
  unfold br_ca
  rw [bw_upd_c (by omega), bw_upd_c (by omega), bw_upd_c (by omega)]
  rfl
theorem zb_dmp {a : Nat → Int32} {r c : Nat} {v : Int32} (hr : r < 4) (hc : c < 20) (ha : zb a) : zb (sp_dmp a (20 * r + c) v) := by
  have e1 : ∀ r', r' < 4 → r' ≠ r → bf_rg (upd a (20 * r + c) v) r' = bf_rg a r' := fun r' h1 h2 => by
    funext d
    unfold bf_rg
    split
    · rw [bf_upd, if_neg (by omega)]
    · rfl
  have e2 : bf_sm (bf_rg (upd a (20 * r + c) v) r) 0 20 = bf_sm (bf_rg a r) 0 20 + (v - a (20 * r + c)) := by
    rw [show bf_sm (bf_rg (upd a (20 * r + c) v) r) 0 20 = bf_sm (upd (bf_rg a r) c v) 0 20 from zs_eq 20 (fun d hd => by
      rw [Nat.zero_add, bf_rg_c hd, bf_upd, bf_upd, bf_rg_c hd]
      by_cases q : d = c
      · rw [if_pos q, if_pos (by omega)]
      · rw [if_neg q, if_neg (by omega)]), zs_upd 20 hc, bf_rg_c hc]
  have e3 := zS_one hr e1
  unfold sp_dmp
  have ex : ∀ (p : Nat) (x : Int32), 80 ≤ p → zS (upd (upd a (20 * r + c) v) p x) = zS a + (v - a (20 * r + c)) := fun p x hp => by
    rw [zS_cong (a := upd a (20 * r + c) v) (fun j hj => by rw [bf_upd, if_neg (by omega)]), e3, e2]
    grind
  have u1 : ∀ (q : Nat) (x : Int32) (j : Nat), j ≠ q → 134 ≤ j → upd (upd a (20 * r + c) v) q x j = a j := fun q x j h1 h2 => by
    rw [bw_upd_c h1, bw_upd_c (by omega)]
  have u2 : ∀ (q : Nat) (x : Int32), upd (upd a (20 * r + c) v) q x q = x := fun q x => by rw [bf_upd, if_pos rfl]
  unfold zb at ha ⊢
  split
  · rw [ex _ _ (by decide), u2, u1 _ _ 134 (by decide) (by decide), u1 _ _ 135 (by decide) (by decide), u1 _ _ 137 (by decide) (by decide)]
    grind
  · rw [ex _ _ (by decide), u2, u1 _ _ 134 (by decide) (by decide), u1 _ _ 135 (by decide) (by decide), u1 _ _ 136 (by decide) (by decide)]
    grind
