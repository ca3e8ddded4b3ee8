/-- before the turn t of the reference -/
def bm_I (M1 : bb_M) (s : Nat) (b : Nat → Int32) (N : bb_M) : Prop := (∀ j, j < 311 → j ≠ 142 → N 21 0 j = b j) ∧ N 21 0 142 = nI s ∧ ∀ k i j, ¬ (i = 0 ∧ (k = 21 ∨ k = 25)) → N k i j = M1 k i j
theorem bm_step {M1 N : bb_M} {a b : Nat → Int32} {s t x : Nat} {v : Int32} (hI : bm_I M1 s b N) (hr : br_row b x < 4) (ht : t < 24) (h81 : b 81 = N 21 0 81) : ∀ T : bw_S, T = bw_run v (decide ((N 21 0 81).toInt ≤ (br_hi b x : Int))) 20 (br_hi b x) ((fun c => N 21 0 (20 * br_row b x + c)), bw_F0 (br_row b x) (br_hi b x) (N 25 0 3) 0, N 21 0 134, N 21 0 135) → bm_I M1 s (br_tu b v t x) (bb_wr (bm_R N (br_row b x) T) 21 0 (143 + 7 * t) 7 (bm_R N (br_row b x) T 25 0)) ∧ bm_R N (br_row b x) T 25 0 5 = (br_go b v x).2.1 5 := by
  intro T hT
  obtain ⟨h1, h2, h3⟩ := hI
  have q := bw_run_eq (lv := v) (sea := decide ((N 21 0 81).toInt ≤ (br_hi b x : Int))) 20 (br_hi b x) ((fun c => N 21 0 (20 * br_row b x + c)), bw_F0 (br_row b x) (br_hi b x) (N 25 0 3) 0, 0, 0) (bf_rg b (br_row b x), bw_F0 (br_row b x) (br_hi b x) 0 0, 0, 0) (Nat.le_refl _) ⟨fun c hc => (h1 _ (by omega) (by omega)).trans (bf_rg_c hc).symm, fun j _ j3 j4 => by
    show bw_F0 _ _ _ _ j = bw_F0 _ _ _ _ j
    unfold bw_F0
    simp only [if_neg j3, if_neg j4], rfl⟩
  have eg : bw_run v (decide ((N 21 0 81).toInt ≤ (br_hi b x : Int))) 20 (br_hi b x) (bf_rg b (br_row b x), bw_F0 (br_row b x) (br_hi b x) 0 0, 0, 0) = br_go b v x := by
    unfold br_go
    rw [h81]
  have es : T = bw_sh (N 21 0 134) (N 21 0 135) (bw_run v (decide ((N 21 0 81).toInt ≤ (br_hi b x : Int))) 20 (br_hi b x) ((fun c => N 21 0 (20 * br_row b x + c)), bw_F0 (br_row b x) (br_hi b x) (N 25 0 3) 0, 0, 0)) := by
    rw [hT, ← bw_sh_run]
    unfold bw_sh
    dsimp only
    rw [Int32.add_zero, Int32.add_zero]
  rw [eg] at q
  generalize bw_run v (decide ((N 21 0 81).toInt ≤ (br_hi b x : Int))) 20 (br_hi b x) ((fun c => N 21 0 (20 * br_row b x + c)), bw_F0 (br_row b x) (br_hi b x) (N 25 0 3) 0, 0, 0) = U at q es
  obtain ⟨g, F, pq⟩ := U
  obtain ⟨q1, q2, q3⟩ := q
  dsimp only at q1 q2 q3
  have eT : T = (g, F, N 21 0 134 + (br_go b v x).2.2.1, N 21 0 135 + (br_go b v x).2.2.2) := by rw [es, ← q3]; rfl
  rw [eT]
  clear es hT
  have f5 := bm_r25 (M := N) (r := br_row b x) (j := 5) (g := g) (F := F) (p := N 21 0 134 + (br_go b v x).2.2.1) (q := N 21 0 135 + (br_go b v x).2.2.2) (by decide)
  refine ⟨⟨fun j hj hj2 => ?_, ?_, fun k i j hk => ?_⟩, by rw [f5]; exact q2 5 (by decide)⟩
  · unfold br_tu
    by_cases z : 20 * br_row b x ≤ j ∧ j < 20 * br_row b x + 20
    · rw [if_pos z, bb_wr_out (by omega), ← q1 _ (by omega)]
      have := bm_r21 (M := N) (r := br_row b x) (c := j - 20 * br_row b x) (g := g) (F := F) (p := N 21 0 134 + (br_go b v x).2.2.1) (q := N 21 0 135 + (br_go b v x).2.2.2) (by omega)
      rwa [show 20 * br_row b x + (j - 20 * br_row b x) = j by omega] at this
    · rw [if_neg z]
      by_cases z1 : j = 134
      · rw [if_pos z1, z1, bb_wr_out (by omega), bm_rd hr, h1 134 (by decide) (by decide)]
      · rw [if_neg z1]
        by_cases z2 : j = 135
        · rw [if_pos z2, z2, bb_wr_out (by omega), bm_rn hr, h1 135 (by decide) (by decide)]
        · rw [if_neg z2]
          by_cases z3 : 143 + 7 * t ≤ j ∧ j < 143 + 7 * t + 7
          · rw [if_pos z3]
            have e := bb_wr_in (M := bm_R N (br_row b x) (g, F, N 21 0 134 + (br_go b v x).2.2.1, N 21 0 135 + (br_go b v x).2.2.2)) (k := 21) (i := 0) (a := 143 + 7 * t) (n := 7) (c := j - (143 + 7 * t)) (g := bm_R N (br_row b x) (g, F, N 21 0 134 + (br_go b v x).2.2.1, N 21 0 135 + (br_go b v x).2.2.2) 25 0) (by omega)
            rw [show 143 + 7 * t + (j - (143 + 7 * t)) = j by omega] at e
            rw [e, bm_r25 (by omega)]
            exact q2 _ (by omega)
          · rw [if_neg z3, bb_wr_out (by omega), bm_ro (by decide) (fun _ => by omega) hr]
            exact h1 j hj hj2
  · rw [bb_wr_out (by omega), bm_ro (by decide) (fun _ => by omega) hr]
    exact h2
  · rw [← h3 k i j hk]
    unfold bm_R bb_wr bb_up
    dsimp only
    rw [if_neg (by omega), if_neg (by omega), if_neg (by omega), if_neg (by omega), if_neg (by omega)]
