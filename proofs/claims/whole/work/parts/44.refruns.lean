/-! THE REFERENCE: a wave runs -/
/-- deep and dune go on from where they were -/
def bw_sh (x y : Int32) (s : bw_S) : bw_S := (s.1, s.2.1, x + s.2.2.1, y + s.2.2.2)
theorem bw_sh_brk {sea : Bool} {n w : Nat} {x y : Int32} {s : bw_S} : bw_brk sea n w (bw_sh x y s) = bw_sh x y (bw_brk sea n w s) := by
  unfold bw_brk bw_sh
  dsimp only
  split
  · split
    · simp only [Int32.add_assoc]
    · rfl
  · split
    · simp only [Int32.add_assoc]
    · rfl
theorem bw_sh_run {lv : Int32} {sea : Bool} {x y : Int32} : ∀ (n w : Nat) (s : bw_S), bw_run lv sea n w (bw_sh x y s) = bw_sh x y (bw_run lv sea n w s)
  | 0, _, s => rfl
  | n + 1, w, s => by
    have e1 : (bw_sh x y s).1 = s.1 := rfl
    unfold bw_run
    rw [e1, bw_sh_brk, bw_sh_run n, bw_sh_run n]
    split
    · rfl
    · split
      · split <;> rfl
      · rfl
/-- the reference's memory while a wave runs -/
def bm_R (M : bb_M) (r : Nat) (s : bw_S) : bb_M := bb_wr (bb_wr (bb_up (bb_up M 21 0 134 s.2.2.1) 21 0 135 s.2.2.2) 25 0 0 7 s.2.1) 21 0 (20 * r) 20 s.1
section BR
variable {M : bb_M} {r c j : Nat} {g F : Nat → Int32} {p q v : Int32}
theorem bm_r21 (h : c < 20) : bm_R M r (g, F, p, q) 21 0 (20 * r + c) = g c := bb_wr_in h
theorem bm_r25 (h : j < 7) : bm_R M r (g, F, p, q) 25 0 j = F j := by
  unfold bm_R
  rw [bb_wr_k (by decide), bb_wr_in0 h]
theorem bm_rd (hr : r < 4) : bm_R M r (g, F, p, q) 21 0 134 = p := by
  unfold bm_R
  rw [bb_wr_out (by omega), bb_wr_k (by decide), bb_up_j (by decide), bb_up_at]
theorem bm_rn (hr : r < 4) : bm_R M r (g, F, p, q) 21 0 135 = q := by
  unfold bm_R
  rw [bb_wr_out (by omega), bb_wr_k (by decide), bb_up_at]
theorem bm_w21 (h : c < 20) : bb_up (bm_R M r (g, F, p, q)) 21 0 (20 * r + c) v = bm_R M r (upd g c v, F, p, q) := bb_wr_up h
theorem bm_w25 (h : j < 7) : bb_up (bm_R M r (g, F, p, q)) 25 0 j v = bm_R M r (g, upd F j v, p, q) := by
  unfold bm_R
  dsimp only
  rw [← bb_wr_up0 h]
  funext k' i' x
  unfold bb_up bb_wr
  dsimp only
  by_cases h1 : k' = 25 ∧ i' = 0 ∧ x = j
  · rw [if_pos h1, if_neg (by omega), if_pos h1]
  · rw [if_neg h1]
    split
    · rfl
    · rfl
theorem bm_wd (hr : r < 4) : bb_up (bm_R M r (g, F, p, q)) 21 0 134 v = bm_R M r (g, F, v, q) := by
  unfold bm_R
  funext k' i' x
  unfold bb_up bb_wr
  dsimp only
  by_cases h1 : k' = 21 ∧ i' = 0 ∧ x = 134
  · rw [if_pos h1, if_neg (by omega), if_neg (by omega), if_neg (by omega), if_pos h1]
  · simp only [if_neg h1]
theorem bm_wn (hr : r < 4) : bb_up (bm_R M r (g, F, p, q)) 21 0 135 v = bm_R M r (g, F, p, v) := by
  unfold bm_R
  funext k' i' x
  unfold bb_up bb_wr
  dsimp only
  by_cases h1 : k' = 21 ∧ i' = 0 ∧ x = 135
  · rw [if_pos h1, if_neg (by omega), if_neg (by omega), if_pos h1]
  · simp only [if_neg h1]
theorem bm_ro {k i : Nat} (h1 : k ≠ 25) (h2 : k = 21 → j < 134 ∧ (j < 20 * r ∨ 20 * r + 20 ≤ j) ∨ 136 ≤ j ∧ 80 ≤ j) (hr : r < 4) : bm_R M r (g, F, p, q) k i j = M k i j := by
  unfold bm_R bb_wr bb_up
  dsimp only
  rw [if_neg (by omega), if_neg (by omega), if_neg (by omega), if_neg (by omega)]
end BR
