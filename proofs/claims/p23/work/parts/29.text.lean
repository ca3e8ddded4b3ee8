/-! TEXTS: what a text of waves says -/
def bt_d (tx : Nat → Int32) (tl p : Nat) (lo hi : Int) : Bool := decide (p < tl ∧ lo ≤ (tx p).toInt ∧ (tx p).toInt ≤ hi)
def bt_v (tx : Nat → Int32) (p : Nat) : Nat := (tx p).toInt.toNat - 48
abbrev bt_G : Type := Nat × Nat × Nat
/-- the end of a group whose height ends ahead of p -/
def bt_tm (tx : Nat → Int32) (tl r h p : Nat) : Nat ⊕ (bt_G × Nat) :=
  if bt_d tx tl p 120 120 = true then (if bt_d tx tl (p + 1) 50 57 = true then .inr ((r, h, bt_v tx (p + 1)), p + 2) else .inl (p + 1)) else .inr ((r, h, 1), p)
def bt_hs (tx : Nat → Int32) (tl r h p : Nat) : Nat ⊕ (bt_G × Nat) :=
  if bt_d tx tl p 48 57 = true ∧ 10 * h + bt_v tx p ≤ 20 then bt_tm tx tl r (10 * h + bt_v tx p) (p + 1) else bt_tm tx tl r h p
def bt_grp (tx : Nat → Int32) (tl p : Nat) : Nat ⊕ (bt_G × Nat) :=
  if bt_d tx tl p 48 51 = true then
    if bt_d tx tl (p + 1) 104 104 = true then
      if bt_d tx tl (p + 2) 49 57 = true then bt_hs tx tl (bt_v tx p) (bt_v tx (p + 2)) (p + 3) else .inl (p + 2)
    else .inl (p + 1)
  else .inl p
def bt_cg (g : bt_G) : Nat ⊕ List bt_G → Nat ⊕ List bt_G
  | .inl e => .inl e
  | .inr L => .inr (g :: L)
def bt_all (tx : Nat → Int32) (tl : Nat) : Nat → Nat → Nat ⊕ List bt_G
  | 0, p => .inl p
  | f + 1, p => match bt_grp tx tl p with
    | .inl e => .inl e
    | .inr (g, q) => if bt_d tx tl q 44 44 = true then bt_cg g (bt_all tx tl f (q + 1)) else if q = tl then .inr [g] else .inl q
def bt_ex (L : List bt_G) : List (Nat × Nat) := L.flatMap (fun g => List.replicate g.2.2 (g.1, g.2.1))
/-! the class -/
def bt_Q (M : bb_M) (E : List (Nat × Nat)) : Prop := M 1 7 2 = nI (min 24 E.length) ∧ ∀ j q, j < 24 → E[j]? = some q → M 12 7 j = nI q.1 ∧ M 13 7 j = nI q.2
def bt_sc (k i j : Nat) : Prop := (k = 1 ∧ i = 7) ∨ (k = 12 ∧ i = 7) ∨ (k = 13 ∧ i = 7) ∨ (k = 5 ∧ 3 ≤ j)
def bt_fr (M M' : bb_M) : Prop := ∀ k i j, ¬ bt_sc k i j → M' k i j = M k i j
theorem bt_fr_rf (M : bb_M) : bt_fr M M := fun _ _ _ _ => rfl
theorem bt_fr_tr {M M' M'' : bb_M} (h : bt_fr M M') (h2 : bt_fr M' M'') : bt_fr M M'' := fun k i j hn => (h2 k i j hn).trans (h k i j hn)
theorem bt_fr_up {M : bb_M} {k i j : Nat} {v : Int32} (h : bt_sc k i j) : bt_fr M (bb_up M k i j v) := by
  intro k' i' j' hn
  unfold bb_up
  rw [if_neg]
  rintro ⟨rfl, rfl, rfl⟩
  exact hn h
theorem x_X1_addQ {d r h : Nat} {M : bb_M} {E : List (Nat × Nat)} (hQ : bt_Q M E) : ∃ M', (∀ k : Option bb_V → bb_M → Prop, bb_call (bb_CL (d + 1)) 33 [bb_R 1 7, bb_I (nI r), bb_I (nI h)] M k ↔ k none M') ∧ bt_Q M' (E ++ [(r, h)]) ∧ bt_fr M M' ∧ ∀ j, M' 5 0 j = M 5 0 j := by
  by_cases hl : E.length < 24
  · have e : M 1 7 2 = nI E.length := by rw [hQ.1, Nat.min_eq_right (by omega)]
    refine ⟨bb_ad M 7 E.length (nI r) (nI h), fun k => x_X1_add e hl, ⟨?_, ?_⟩, ?_, ?_⟩
    · rw [List.length_append, List.length_singleton, Nat.min_eq_right (by omega)]
      exact bb_up_at
    · intro j q hj hq
      unfold bb_ad
      rw [bb_up_k (by decide), bb_up_k (by decide)]
      rcases Nat.lt_or_ge j E.length with z | z
      · rw [List.getElem?_append_left z] at hq
        rw [bb_up_j (by omega), bb_up_k (by decide), bb_up_j (by omega), bb_up_k (by decide)]
        exact hQ.2 j q hj hq
      · rw [List.getElem?_append_right z] at hq
        have hz : j - E.length < 1 := (List.getElem?_eq_some_iff.mp hq).1
        obtain rfl : j = E.length := by omega
        rw [Nat.sub_self] at hq
        cases hq
        exact ⟨by rw [bb_up_at], by rw [bb_up_k (by decide), bb_up_at]⟩
    · exact bt_fr_tr (bt_fr_tr (bt_fr_up (Or.inr (Or.inl ⟨rfl, rfl⟩))) (bt_fr_up (Or.inr (Or.inr (Or.inl ⟨rfl, rfl⟩))))) (bt_fr_up (Or.inl ⟨rfl, rfl⟩))
    · intro j
      unfold bb_ad
      rw [bb_up_k (by decide), bb_up_k (by decide), bb_up_k (by decide)]
  · have e : M 1 7 2 = nI 24 := by rw [hQ.1, Nat.min_eq_left (by omega)]
    refine ⟨M, fun k => x_X1_addF e (Nat.le_refl _) (by omega), ⟨?_, ?_⟩, bt_fr_rf M, fun j => rfl⟩
    · rw [List.length_append, List.length_singleton, Nat.min_eq_left (by omega), e]
    · intro j q hj hq
      rw [List.getElem?_append_left (by omega)] at hq
      exact hQ.2 j q hj hq
/-! the states of reading -/
section TR
variable {d : Nat} {M : bb_M} {c : Int32} {k : Option bb_V → bb_M → Prop}
theorem bt_z5 : ((5 : Int32) = 0) = False ∧ ((5 : Int32) = 1) = False ∧ ((5 : Int32) = 2) = False ∧ ((5 : Int32) = 3) = False ∧ ((5 : Int32) = 4) = False := by decide
theorem bt_z3 : ((3 : Int32) = 0) = False ∧ ((3 : Int32) = 1) = False ∧ ((3 : Int32) = 2) = False := by decide
end TR
/-! reading a text -/
def bt_TX (tx : Nat → Int32) (tl : Nat) (M : bb_M) : Prop := M 5 0 1 = nI tl ∧ ∀ j, j < tl → M 17 0 j = tx j
theorem bt_TX_fr {tx : Nat → Int32} {tl : Nat} {M M' : bb_M} (h : bt_TX tx tl M) (hf : bt_fr M M') : bt_TX tx tl M' := by
  refine ⟨?_, fun j hj => ?_⟩
  · rw [hf 5 0 1 (by unfold bt_sc; omega)]
    exact h.1
  · rw [hf 17 0 j (by unfold bt_sc; omega)]
    exact h.2 j hj
def bt_ok (M M' : bb_M) (E : List (Nat × Nat)) (res : Int32) : Nat ⊕ List bt_G → Prop
  | .inl e => res = nI e ∧ bt_fr M M'
  | .inr L => res = -1 ∧ bt_fr M M' ∧ bt_Q M' (E ++ bt_ex L) ∧ M' 5 0 3 = nI (E ++ bt_ex L).length
section RD
variable {d p tl : Nat} {tx : Nat → Int32} {M M0 : bb_M} {s s' : Int32} {E : List (Nat × Nat)} {o : Nat ⊕ List bt_G}
end RD
theorem bt_vI {c : Int32} (h : 48 ≤ c.toInt ∧ c.toInt ≤ 57) : c - 48 = nI (c.toInt.toNat - 48) := by
  obtain ⟨q, hq⟩ : ∃ q : Nat, c.toInt = (48 + q : Nat) := ⟨c.toInt.toNat - 48, by omega⟩
  have ec : c = nI (48 + q) := by rw [bn_eq, bn_ti (by omega), hq]
  rw [ec, show (48 : Int32) = nI 48 from rfl, pk_sub (by omega), bn_ti (by omega)]
  congr 1
theorem bt_d_iff {tx : Nat → Int32} {tl p : Nat} {lo hi : Int} : bt_d tx tl p lo hi = true ↔ p < tl ∧ lo ≤ (tx p).toInt ∧ (tx p).toInt ≤ hi := by
  unfold bt_d
  rw [decide_eq_true_eq]
/-- what follows a group -/
def bt_ct (tx : Nat → Int32) (tl f : Nat) (g : bt_G) (q : Nat) : Nat ⊕ List bt_G :=
  if bt_d tx tl q 44 44 = true then bt_cg g (bt_all tx tl f (q + 1)) else if q = tl then .inr [g] else .inl q
def bt_bd (tx : Nat → Int32) (tl f : Nat) : Nat ⊕ (bt_G × Nat) → Nat ⊕ List bt_G
  | .inl e => .inl e
  | .inr (g, q) => bt_ct tx tl f g q
theorem bt_all_s (tx : Nat → Int32) (tl f p : Nat) : bt_all tx tl (f + 1) p = bt_bd tx tl f (bt_grp tx tl p) := by
  show (match bt_grp tx tl p with | .inl e => _ | .inr (g, q) => _) = _
  cases bt_grp tx tl p with
  | inl e => rfl
  | inr z => rfl
section RM
variable {d tl f : Nat} {tx : Nat → Int32} {M0 : bb_M}
end RM