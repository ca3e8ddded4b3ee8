/-! one unit goes on -/
theorem bm_mv {g : Nat → Int32} {n t : Nat} (h1 : 0 ≤ (g n).toInt ∧ (g n).toInt ≤ 99) (h2 : 0 ≤ (g t).toInt ∧ (g t).toInt ≤ 99) : bw_min (bw_min 1 (g n)) (99 - g t) = if (g n).toInt ≠ 0 ∧ (g t).toInt < 99 then 1 else 0 := by
  have e99 : (99 - g t).toInt = 99 - (g t).toInt := by rw [bn_subT (by decide) (by omega)]; rfl
  have i1 : (1 : Int32).toInt = 1 := rfl
  have i0 : (0 : Int32).toInt = 0 := rfl
  obtain ⟨a1, a2, a3⟩ := bw_min_b (a := 1) (b := g n)
  obtain ⟨b1, b2, b3⟩ := bw_min_b (a := bw_min 1 (g n)) (b := 99 - g t)
  have a4 : (bw_min 1 (g n)).toInt = 1 ∨ (bw_min 1 (g n)).toInt = (g n).toInt := by
    rcases a3 with e | e <;> rw [e]
    · exact Or.inl i1
    · exact Or.inr rfl
  have b4 : (bw_min (bw_min 1 (g n)) (99 - g t)).toInt = (bw_min 1 (g n)).toInt ∨ (bw_min (bw_min 1 (g n)) (99 - g t)).toInt = (99 - g t).toInt := by
    rcases b3 with e | e
    · exact Or.inl (congrArg _ e)
    · exact Or.inr (congrArg _ e)
  clear a3 b3
  rw [bn_eq]
  by_cases q : (g n).toInt ≠ 0 ∧ (g t).toInt < 99
  · rw [if_pos q]
    omega
  · rw [if_neg q]
    omega
theorem bm_mvq {g : Nat → Int32} {n : Nat} (hb : bf_rb g) (hn : n < 19) : bw_min (bw_min 1 (g n)) (99 - g (n + 1)) = nI (bf_q0 g true n) ∧ upd (upd g (n + 1) (g (n + 1) + nI (bf_q0 g true n))) n (g n - nI (bf_q0 g true n)) = bf_q1 g true n := by
  have b1 := hb n (by omega)
  have b2 := hb (n + 1) (by omega)
  rw [bm_mv b1 b2]
  unfold bf_q0 bf_q1
  by_cases q : (g n).toInt ≠ 0 ∧ (g (n + 1)).toInt < 99
  · rw [if_pos q, if_pos ⟨rfl, q⟩, if_pos ⟨rfl, q⟩]
    refine ⟨rfl, ?_⟩
    funext j
    simp only [bf_upd]
    by_cases z : j = n
    · rw [if_pos z, if_neg (by omega), if_pos z]
      rfl
    · rw [if_neg z]
      by_cases z2 : j = n + 1
      · rw [if_pos z2, if_pos z2]
        rfl
      · rw [if_neg z2, if_neg z2, if_neg z]
  · rw [if_neg q, if_neg (fun z => q z.2), if_neg (fun z => q z.2)]
    refine ⟨rfl, ?_⟩
    funext j
    simp only [bf_upd]
    rw [show nI 0 = 0 from rfl, Int32.add_zero, Int32.sub_zero]
    by_cases z : j = n
    · rw [if_pos z, z]
    · rw [if_neg z]
      by_cases z2 : j = n + 1
      · rw [if_pos z2, z2]
      · rw [if_neg z2]
