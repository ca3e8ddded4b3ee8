/-! STATES as the reference lays them out; the history's ring -/
def bs_sz (a : Nat → Int32) : Nat := (a 85).toInt.toNat
def bs_tl (a : Nat → Int32) : Nat := (a 142).toInt.toNat
def bs_rep (M : bb_M) (i : Nat) (a : Nat → Int32) : Prop := (∀ j, j < 80 → M 10 i j = a j) ∧ M 4 i 6 = a 80 ∧ (∀ j, j < 4 → M 14 i j = a (81 + j)) ∧ M 1 i 2 = a 85 ∧ (∀ j, j < bs_sz a → M 12 i j = a (86 + 2 * j) ∧ M 13 i j = a (87 + 2 * j)) ∧ (∀ j, j < 8 → M 15 i (j + 1) = a (134 + j)) ∧ M 4 i 5 = a 142 ∧ ∀ j, j < 7 * bs_tl a → M 16 i j = a (143 + j)
/-- a state as it may be -/
def bs_inv (a : Nat → Int32) : Prop := bf_hb a ∧ (20 ≤ (a 80).toInt ∧ (a 80).toInt ≤ 70) ∧ (1 ≤ (a 81).toInt ∧ (a 81).toInt ≤ 20) ∧ (0 ≤ (a 82).toInt ∧ (a 82).toInt ≤ 2) ∧ (1 ≤ (a 83).toInt ∧ (a 83).toInt ≤ 20) ∧ (4 ≤ (a 84).toInt ∧ (a 84).toInt ≤ 30) ∧ (bs_sz a ≤ 24 ∧ a 85 = nI (bs_sz a)) ∧ (∀ j, j < bs_sz a → ∃ r h, r < 4 ∧ 1 ≤ h ∧ h ≤ 20 ∧ a (86 + 2 * j) = nI r ∧ a (87 + 2 * j) = nI h) ∧ (bs_tl a ≤ 24 ∧ a 142 = nI (bs_tl a))
theorem bs_rep_cong {M M' : bb_M} {i i' : Nat} {a : Nat → Int32} (h : bs_rep M i a) (hz : bs_sz a ≤ 24) (ht : bs_tl a ≤ 24) (e : ∀ k j, bb_skb k j = true → M' k i' j = M k i j) : bs_rep M' i' a := by
  obtain ⟨h1, h2, h3, h4, h5, h6, h7, h8⟩ := h
  have sk : ∀ k j, ((k = 10 ∧ j < 80) ∨ (k = 12 ∧ j < 24) ∨ (k = 13 ∧ j < 24) ∨ (k = 1 ∧ j = 2) ∨ (k = 14 ∧ j < 4) ∨ (k = 15 ∧ j < 9) ∨ (k = 16 ∧ j < 168) ∨ (k = 4 ∧ (j = 5 ∨ j = 6))) → M' k i' j = M k i j := fun k j h => e k j (by unfold bb_skb; exact decide_eq_true h)
  refine ⟨fun j hj => ?_, ?_, fun j hj => ?_, ?_, fun j hj => ⟨?_, ?_⟩, fun j hj => ?_, ?_, fun j hj => ?_⟩
  · rw [sk 10 j (by omega)]; exact h1 j hj
  · rw [sk 4 6 (by omega)]; exact h2
  · rw [sk 14 j (by omega)]; exact h3 j hj
  · rw [sk 1 2 (by omega)]; exact h4
  · rw [sk 12 j (by omega)]; exact (h5 j hj).1
  · rw [sk 13 j (by omega)]; exact (h5 j hj).2
  · rw [sk 15 (j + 1) (by omega)]; exact h6 j hj
  · rw [sk 4 5 (by omega)]; exact h7
  · rw [sk 16 j (by omega)]; exact h8 j hj
theorem bb_cS_i {M : bb_M} {i j k n : Nat} (h : bb_skb k n = true) : bb_cS M i j k i n = M k j n := by
  unfold bb_cS
  rw [if_pos ⟨rfl, h⟩]
theorem bb_cS_o {M : bb_M} {i j k i' n : Nat} (h : i' ≠ i) : bb_cS M i j k i' n = M k i' n := by
  unfold bb_cS
  rw [if_neg (fun z => h z.1)]
theorem bb_cS_k {M : bb_M} {i j k i' n : Nat} (h : bb_skb k n = false) : bb_cS M i j k i' n = M k i' n := by
  unfold bb_cS
  rw [if_neg (fun z => by rw [h] at z; exact absurd z.2 (by decide))]
/-- the history of the class: hn states, the oldest first -/
def bs_slot (nx hn j : Nat) : Nat := 3 + (nx + 4 - hn + j) % 4
def bs_CH (M : bb_M) (hs : Nat → Nat → Int32) (hn : Nat) : Prop := hn ≤ 4 ∧ M 0 0 2 = nI hn ∧ ∃ nx, nx < 4 ∧ M 0 0 1 = nI nx ∧ ∀ j, j < hn → bs_inv (hs j) ∧ bs_rep M (bs_slot nx hn j) (hs j)
def bs_push (hs : Nat → Nat → Int32) (hn : Nat) (a : Nat → Int32) : Nat → Nat → Int32 := fun j => if hn < 4 then (if j = hn then a else hs j) else (if j = 3 then a else hs (j + 1))
def bs_fh (M M' : bb_M) : Prop := ∀ k i j, k ≠ 0 → (i < 3 ∨ 6 < i) → M' k i j = M k i j
theorem bs_rep_i {M M' : bb_M} {i : Nat} {a : Nat → Int32} (h : bs_rep M i a) (ha : bs_inv a) (e : ∀ k j, bb_skb k j = true → M' k i j = M k i j) : bs_rep M' i a := bs_rep_cong h ha.2.2.2.2.2.2.1.1 ha.2.2.2.2.2.2.2.2.1 e
theorem bs_skb0 {j : Nat} : bb_skb 0 j = false := by
  unfold bb_skb
  rw [decide_eq_false_iff_not]
  omega
theorem bs_skb_ne {k j : Nat} (h : bb_skb k j = true) : k ≠ 0 := by
  rintro rfl
  rw [bs_skb0] at h
  cases h
theorem bn_mod4 {n : Nat} (h : n < 1000) : nI n - nI n / 4 * 4 = nI (n % 4) := pk_rem (a := n) (d := 4) (by omega) (by omega) (by omega)
theorem x_X0_record {d s hn : Nat} {M : bb_M} {hs : Nat → Nat → Int32} {a : Nat → Int32} (hH : bs_CH M hs hn) (hs3 : s < 3) (hr : bs_rep M s a) (ha : bs_inv a) : ∃ M', (∀ k : Option bb_V → bb_M → Prop, bb_call (bb_CL (d + 3)) 27 [bb_R 0 0, bb_R 4 s] M k ↔ k none M') ∧ bs_CH M' (bs_push hs hn a) (min (hn + 1) 4) ∧ bs_fh M M' := by
  obtain ⟨h4, hsz, nx, hnx, hnxe, hall⟩ := hH
  have e1 : bb_cS M (3 + nx) s 0 0 1 = nI nx := by rw [bb_cS_k bs_skb0, hnxe]
  have e2 : bb_up (bb_cS M (3 + nx) s) 0 0 1 (nI ((nx + 1) % 4)) 0 0 2 = nI hn := by rw [bb_up_j (by decide), bb_cS_k bs_skb0, hsz]
  have e4 : ((4 : Int32) = 0) = False := by decide
  have e5 : bw_min (nI (hn + 1)) 4 = nI (min (hn + 1) 4) := by
    unfold bw_min
    rw [show (4 : Int32) = nI 4 from rfl]
    by_cases q : hn + 1 < 4
    · rw [if_pos ((nI_ltI (by omega) (by omega)).mpr q), Nat.min_eq_left (by omega)]
    · rw [if_neg (fun z => q ((nI_ltI (by omega) (by omega)).mp z)), Nat.min_eq_right (by omega)]
  refine ⟨bb_up (bb_up (bb_cS M (3 + nx) s) 0 0 1 (nI ((nx + 1) % 4))) 0 0 2 (nI (min (hn + 1) 4)), fun k => bb_cal (st_X0_record ?_), ⟨by omega, bb_up_at, (nx + 1) % 4, by omega, ?_, ?_⟩, ?_⟩
  · simp (disch := omega) only [e_X0_record_0, e_X0_record_1, e_X0_record_4, e_X0_record_5, e_X0_record_8, e_X0_record_9, e_X0_record_10, e_X0_record_13, e_X0_record_14, e_X0_record_15, e_X0_record_18, e_X0_record_19, e_X0_record_20, e_X0_record_21, e_X0_record_22, e_X0_record_25, e_X0_record_26, e_X0_record_27, e_X0_record_30, e_X0_record_31, e_X0_record_32, e_X0_record_33, e_X0_record_36, e_X0_record_39, Option.toList_some, Option.toList_none, List.cons_append, List.nil_append, true_and, and_true, and_self, bb_ite, true_or, or_true, Option.some.injEq, bb_I_eq, bb_b_0e, bb_b_1e, bb_b_e0, bb_b_e1, decide_eq_true_eq, decide_eq_false_iff_not, bn_01, bn_11, bb_b_01, ne_eq, Bool.not_eq_false, Bool.not_eq_true, Classical.not_not, hnxe, bn_in, bn_cl, x_X4_copyFrom, e1, bn_p1, bn_mod4, e4, not_false_eq_true, e2, bw_min_c, e5]
  · rw [bb_up_j (by decide), bb_up_at]
  · intro j hj
    have key : ∀ i a', bs_inv a' → bs_rep (bb_cS M (3 + nx) s) i a' → bs_rep (bb_up (bb_up (bb_cS M (3 + nx) s) 0 0 1 (nI ((nx + 1) % 4))) 0 0 2 (nI (min (hn + 1) 4))) i a' := fun i a' hi h => bs_rep_i h hi (fun k j hk => by rw [bb_up_k (bs_skb_ne hk), bb_up_k (bs_skb_ne hk)])
    have new : bs_rep (bb_cS M (3 + nx) s) (3 + nx) a := bs_rep_cong hr ha.2.2.2.2.2.2.1.1 ha.2.2.2.2.2.2.2.2.1 (fun k j hk => bb_cS_i hk)
    have old : ∀ i a', bs_inv a' → i ≠ 3 + nx → bs_rep M i a' → bs_rep (bb_cS M (3 + nx) s) i a' := fun i a' hi hne h => bs_rep_i h hi (fun k j _ => bb_cS_o hne)
    unfold bs_push
    by_cases q : hn < 4
    · rw [if_pos q]
      by_cases qj : j = hn
      · rw [if_pos qj]
        refine ⟨ha, key _ _ ha ?_⟩
        rw [show bs_slot ((nx + 1) % 4) (min (hn + 1) 4) j = 3 + nx by unfold bs_slot; omega]
        exact new
      · rw [if_neg qj]
        obtain ⟨g1, g2⟩ := hall j (by omega)
        refine ⟨g1, key _ _ g1 ?_⟩
        have es : bs_slot ((nx + 1) % 4) (min (hn + 1) 4) j = bs_slot nx hn j := by unfold bs_slot; omega
        rw [es]
        exact old _ _ g1 (by unfold bs_slot; omega) g2
    · rw [if_neg q]
      by_cases qj : j = 3
      · rw [if_pos qj]
        refine ⟨ha, key _ _ ha ?_⟩
        rw [show bs_slot ((nx + 1) % 4) (min (hn + 1) 4) j = 3 + nx by unfold bs_slot; omega]
        exact new
      · rw [if_neg qj]
        obtain ⟨g1, g2⟩ := hall (j + 1) (by omega)
        refine ⟨g1, key _ _ g1 ?_⟩
        have es : bs_slot ((nx + 1) % 4) (min (hn + 1) 4) j = bs_slot nx hn (j + 1) := by unfold bs_slot; omega
        rw [es]
        exact old _ _ g1 (by unfold bs_slot; omega) g2
  · intro k i j hk hi
    rw [bb_up_k hk, bb_up_k hk, bb_cS_o (by omega)]
theorem x_X0_takeBack {d hn : Nat} {M : bb_M} {hs : Nat → Nat → Int32} (hH : bs_CH M hs (hn + 1)) : ∃ M', (∀ k : Option bb_V → bb_M → Prop, bb_call (bb_CL (d + 3)) 28 [bb_R 0 0, bb_R 4 0] M k ↔ k none M') ∧ bs_CH M' hs hn ∧ bs_rep M' 0 (hs hn) ∧ bs_inv (hs hn) ∧ ∀ k i j, k ≠ 0 → i ≠ 0 ∨ bb_skb k j = false → M' k i j = M k i j := by
  obtain ⟨h4, hsz, nx, hnx, hnxe, hall⟩ := hH
  obtain ⟨g1, g2⟩ := hall hn (by omega)
  have es : bs_slot nx (hn + 1) hn = 3 + (nx + 3) % 4 := by unfold bs_slot; omega
  rw [es] at g2
  have e4 : ((4 : Int32) = 0) = False := by decide
  have e0 : nI nx + 4 - 1 = nI (nx + 3) := by
    rw [show (4 : Int32) = nI 4 from rfl, nI_add, bn_s1 (by omega)]
    congr 1
  have e2 : bb_up M 0 0 1 (nI ((nx + 3) % 4)) 0 0 2 = nI (hn + 1) := by rw [bb_up_j (by decide), hsz]
  have e3 : bb_up (bb_up M 0 0 1 (nI ((nx + 3) % 4))) 0 0 2 (nI hn) 0 0 1 = nI ((nx + 3) % 4) := by rw [bb_up_j (by decide), bb_up_at]
  refine ⟨bb_cS (bb_up (bb_up M 0 0 1 (nI ((nx + 3) % 4))) 0 0 2 (nI hn)) 0 (3 + (nx + 3) % 4), fun k => bb_cal (st_X0_takeBack ?_), ⟨by omega, ?_, (nx + 3) % 4, by omega, ?_, ?_⟩, ?_, g1, ?_⟩
  · simp (disch := omega) only [e_X0_takeBack_0, e_X0_takeBack_1, e_X0_takeBack_2, e_X0_takeBack_5, e_X0_takeBack_6, e_X0_takeBack_7, e_X0_takeBack_8, e_X0_takeBack_9, e_X0_takeBack_10, e_X0_takeBack_11, e_X0_takeBack_14, e_X0_takeBack_15, e_X0_takeBack_16, e_X0_takeBack_19, e_X0_takeBack_20, e_X0_takeBack_21, e_X0_takeBack_24, e_X0_takeBack_25, e_X0_takeBack_26, e_X0_takeBack_29, e_X0_takeBack_30, e_X0_takeBack_33, e_X0_takeBack_34, e_X0_takeBack_37, Option.toList_some, Option.toList_none, List.cons_append, List.nil_append, true_and, and_true, and_self, bb_ite, true_or, or_true, Option.some.injEq, bb_I_eq, bb_b_0e, bb_b_1e, bb_b_e0, bb_b_e1, decide_eq_true_eq, decide_eq_false_iff_not, bn_01, bn_11, bb_b_01, ne_eq, Bool.not_eq_false, Bool.not_eq_true, Classical.not_not, hnxe, e0, bn_mod4, e4, not_false_eq_true, e2, pk_sub, bn_s1, Nat.add_sub_cancel, e3, bn_in, bn_cl, x_X4_copyFrom]
  · rw [bb_cS_k bs_skb0, bb_up_at]
  · rw [bb_cS_k bs_skb0, e3]
  · intro j hj
    obtain ⟨f1, f2⟩ := hall j (by omega)
    refine ⟨f1, ?_⟩
    rw [show bs_slot ((nx + 3) % 4) hn j = bs_slot nx (hn + 1) j by unfold bs_slot; omega]
    exact bs_rep_i f2 f1 (fun k j' hk => by rw [bb_cS_o (by unfold bs_slot; omega), bb_up_k (bs_skb_ne hk), bb_up_k (bs_skb_ne hk)])
  · exact bs_rep_cong g2 g1.2.2.2.2.2.2.1.1 g1.2.2.2.2.2.2.2.2.1 (fun k j hk => by rw [bb_cS_i hk, bb_up_k (bs_skb_ne hk), bb_up_k (bs_skb_ne hk)])
  · intro k i j hk hi
    rcases hi with hi | hi
    · rw [bb_cS_o hi, bb_up_k hk, bb_up_k hk]
    · rw [bb_cS_k hi, bb_up_k hk, bb_up_k hk]
