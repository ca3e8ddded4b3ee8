/-! SLUMPING of one row, as numbers -/
def bf_rb (g : Nat → Int32) : Prop := ∀ c, c < 20 → 0 ≤ (g c).toInt ∧ (g c).toInt ≤ 99
def bf_s1 (g : Nat → Int32) (st : Int32) (n : Nat) : Nat → Int32 :=
  if st.toInt < (g n).toInt - (g (n + 1)).toInt then upd (upd g n (g n - 1)) (n + 1) (g (n + 1) + 1) else if (g n).toInt - (g (n + 1)).toInt < -st.toInt then upd (upd g n (g n + 1)) (n + 1) (g (n + 1) - 1) else g
def bf_c1 (g : Nat → Int32) (st : Int32) (n : Nat) : Nat :=
  if st.toInt < (g n).toInt - (g (n + 1)).toInt then 1 else if (g n).toInt - (g (n + 1)).toInt < -st.toInt then 1 else 0
/-- one time through n cells: the row, how many units -/
def bf_pp (g : Nat → Int32) (st : Int32) : Nat → Nat → Int32
  | 0 => g
  | n + 1 => bf_s1 (bf_pp g st n) st n
def bf_cc (g : Nat → Int32) (st : Int32) : Nat → Nat
  | 0 => 0
  | n + 1 => bf_cc g st n + bf_c1 (bf_pp g st n) st n
/-- t times -/
def bf_it (g : Nat → Int32) (st : Int32) : Nat → Nat → Int32
  | 0 => g
  | t + 1 => bf_pp (bf_it g st t) st 19
def bf_to (g : Nat → Int32) (st : Int32) : Nat → Nat
  | 0 => 0
  | t + 1 => bf_to g st t + bf_cc (bf_it g st t) st 19
theorem bn_dec {x : Int32} (h : -1000000 ≤ x.toInt ∧ x.toInt ≤ 1000000) : (x - 1).toInt = x.toInt - 1 := by
  rw [bn_subT (by omega) (by decide)]
  rfl
theorem bn_inc {x : Int32} (h : -1000000 ≤ x.toInt ∧ x.toInt ≤ 1000000) : (x + 1).toInt = x.toInt + 1 := by
  rw [bn_addT (by omega) (by decide)]
  rfl
theorem bf_upd (f : Nat → Int32) (a j : Nat) (x : Int32) : upd f a x j = if j = a then x else f j := rfl
theorem bf_s1_b {g : Nat → Int32} {st : Int32} {n : Nat} (hb : bf_rb g) (hs : 0 ≤ st.toInt) (hn : n < 19) : bf_rb (bf_s1 g st n) := by
  intro c hc
  have h1 := hb n (by omega)
  have h2 := hb (n + 1) (by omega)
  have h3 := hb c hc
  unfold bf_s1
  split
  · rename_i q
    rw [bf_upd, bf_upd]
    split
    · rw [bn_inc (by omega)]; omega
    · split
      · rw [bn_dec (by omega)]; omega
      · exact h3
  · split
    · rename_i q
      rw [bf_upd, bf_upd]
      split
      · rw [bn_dec (by omega)]; omega
      · split
        · rw [bn_inc (by omega)]; omega
        · exact h3
    · exact h3
theorem bf_pp_b {g : Nat → Int32} {st : Int32} (hb : bf_rb g) (hs : 0 ≤ st.toInt) : ∀ n, n ≤ 19 → bf_rb (bf_pp g st n)
  | 0, _ => hb
  | n + 1, h => bf_s1_b (bf_pp_b hb hs n (by omega)) hs (by omega)
theorem bf_it_b {g : Nat → Int32} {st : Int32} (hb : bf_rb g) (hs : 0 ≤ st.toInt) : ∀ t, bf_rb (bf_it g st t)
  | 0 => hb
  | t + 1 => bf_pp_b (bf_it_b hb hs t) hs 19 (Nat.le_refl _)
theorem bf_c1_le (g : Nat → Int32) (st : Int32) (n : Nat) : bf_c1 g st n ≤ 1 := by
  unfold bf_c1
  split
  · omega
  · split <;> omega
theorem bf_cc_le (g : Nat → Int32) (st : Int32) : ∀ n, bf_cc g st n ≤ n
  | 0 => Nat.le_refl _
  | n + 1 => by
    have := bf_cc_le g st n
    have := bf_c1_le (bf_pp g st n) st n
    show bf_cc g st n + _ ≤ _
    omega
theorem bf_c1_0 {g : Nat → Int32} {st : Int32} {n : Nat} (h : bf_c1 g st n = 0) : bf_s1 g st n = g := by
  unfold bf_c1 at h
  unfold bf_s1
  split at h
  · cases h
  · rename_i q
    rw [if_neg q]
    split at h
    · cases h
    · rename_i q2
      rw [if_neg q2]
theorem bf_cc_0 {g : Nat → Int32} {st : Int32} : ∀ n, bf_cc g st n = 0 → bf_pp g st n = g
  | 0, _ => rfl
  | n + 1, h => by
    have h1 : bf_cc g st n + bf_c1 (bf_pp g st n) st n = 0 := h
    have e := bf_cc_0 (g := g) (st := st) n (by omega)
    show bf_s1 (bf_pp g st n) st n = g
    rw [bf_c1_0 (by omega), e]
theorem bf_rest {g : Nat → Int32} {st : Int32} {t : Nat} (h : bf_cc (bf_it g st t) st 19 = 0) : ∀ s, bf_it g st (t + s) = bf_it g st t ∧ bf_to g st (t + s) = bf_to g st t
  | 0 => ⟨rfl, rfl⟩
  | s + 1 => by
    obtain ⟨e1, e2⟩ := bf_rest h s
    refine ⟨?_, ?_⟩
    · show bf_pp (bf_it g st (t + s)) st 19 = _
      rw [e1, bf_cc_0 19 h]
    · show bf_to g st (t + s) + bf_cc (bf_it g st (t + s)) st 19 = _
      rw [e1, e2, h, Nat.add_zero]
/-- the sum of the squares of a row -/
def bf_sq (g : Nat → Int32) : Nat → Int
  | 0 => 0
  | n + 1 => bf_sq g n + (g n).toInt * (g n).toInt
theorem bf_sq_upd (g : Nat → Int32) (a : Nat) (x : Int32) : ∀ n, bf_sq (upd g a x) n = bf_sq g n + (if a < n then x.toInt * x.toInt - (g a).toInt * (g a).toInt else 0)
  | 0 => by simp [bf_sq]
  | n + 1 => by
    have e := bf_sq_upd g a x n
    show bf_sq (upd g a x) n + (upd g a x n).toInt * (upd g a x n).toInt = bf_sq g n + (g n).toInt * (g n).toInt + _
    rw [e, bf_upd]
    by_cases h : n = a
    · subst h
      rw [if_pos rfl, if_neg (Nat.lt_irrefl n), if_pos (Nat.lt_succ_self n)]
      omega
    · rw [if_neg h]
      by_cases h2 : a < n
      · rw [if_pos h2, if_pos (by omega)]
        omega
      · rw [if_neg h2, if_neg (by omega)]
        omega
theorem bf_sq_move {a b d : Int} (h : 2 ≤ a - b) : (a - 1) * (a - 1) - a * a + ((b + 1) * (b + 1) - b * b) + 1 ≤ 0 := by
  have e1 : (a - 1) * (a - 1) = a * a - 2 * a + 1 := by
    rw [Int.sub_mul, Int.mul_sub]
    omega
  have e2 : (b + 1) * (b + 1) = b * b + 2 * b + 1 := by
    rw [Int.add_mul, Int.mul_add]
    omega
  omega
theorem bf_s1_sq {g : Nat → Int32} {st : Int32} {n : Nat} (hb : bf_rb g) (hs : 1 ≤ st.toInt) (hn : n < 19) : bf_sq (bf_s1 g st n) 20 + bf_c1 g st n ≤ bf_sq g 20 := by
  have h1 := hb n (by omega)
  have h2 := hb (n + 1) (by omega)
  have hne : (n + 1 = n) = False := by simp
  unfold bf_s1 bf_c1
  split
  · rename_i q
    rw [bf_sq_upd, bf_sq_upd, bf_upd, if_neg (by omega : ¬ n + 1 = n), if_pos (by omega), if_pos (by omega), bn_inc (by omega), bn_dec (by omega)]
    have := bf_sq_move (a := (g n).toInt) (b := (g (n + 1)).toInt) (d := 0) (by omega)
    omega
  · split
    · rename_i q
      rw [bf_sq_upd, bf_sq_upd, bf_upd, if_neg (by omega : ¬ n + 1 = n), if_pos (by omega), if_pos (by omega), bn_inc (by omega), bn_dec (by omega)]
      have := bf_sq_move (a := (g (n + 1)).toInt) (b := (g n).toInt) (d := 0) (by omega)
      omega
    · simp
theorem bf_pp_sq {g : Nat → Int32} {st : Int32} (hb : bf_rb g) (hs : 1 ≤ st.toInt) : ∀ n, n ≤ 19 → bf_sq (bf_pp g st n) 20 + bf_cc g st n ≤ bf_sq g 20
  | 0, _ => by simp [bf_pp, bf_cc]
  | n + 1, h => by
    have e := bf_pp_sq hb hs n (by omega)
    have e2 := bf_s1_sq (bf_pp_b hb (by omega : 0 ≤ st.toInt) n (by omega)) hs (by omega : n < 19)
    show bf_sq (bf_s1 (bf_pp g st n) st n) 20 + ((bf_cc g st n + bf_c1 (bf_pp g st n) st n : Nat) : Int) ≤ _
    omega
theorem bf_it_sq {g : Nat → Int32} {st : Int32} (hb : bf_rb g) (hs : 1 ≤ st.toInt) : ∀ t, bf_sq (bf_it g st t) 20 + bf_to g st t ≤ bf_sq g 20
  | 0 => by simp [bf_it, bf_to]
  | t + 1 => by
    have e := bf_it_sq hb hs t
    have e2 := bf_pp_sq (bf_it_b hb (by omega : 0 ≤ st.toInt) t) hs 19 (Nat.le_refl _)
    show bf_sq (bf_pp (bf_it g st t) st 19) 20 + ((bf_to g st t + bf_cc (bf_it g st t) st 19 : Nat) : Int) ≤ _
    omega
theorem bf_sq_b {g : Nat → Int32} (hb : bf_rb g) : ∀ n, n ≤ 20 → 0 ≤ bf_sq g n ∧ bf_sq g n ≤ 9801 * n
  | 0, _ => by simp [bf_sq]
  | n + 1, h => by
    have e := bf_sq_b hb n (by omega)
    have h1 := hb n (by omega)
    have h2 : 0 ≤ (g n).toInt * (g n).toInt := Int.mul_nonneg h1.1 h1.1
    have h3 : (g n).toInt * (g n).toInt ≤ 99 * 99 := Int.mul_le_mul h1.2 h1.2 h1.1 (by decide)
    show 0 ≤ bf_sq g n + _ ∧ bf_sq g n + _ ≤ _
    omega
theorem bf_to_b {g : Nat → Int32} {st : Int32} (hb : bf_rb g) (hs : 1 ≤ st.toInt) (t : Nat) : bf_to g st t ≤ 196020 := by
  have e := bf_it_sq hb hs t
  have e1 := bf_sq_b hb 20 (Nat.le_refl _)
  have e2 := bf_sq_b (bf_it_b hb (by omega : 0 ≤ st.toInt) t) 20 (Nat.le_refl _)
  omega
theorem bf_to_ge {g : Nat → Int32} {st : Int32} : ∀ t, (∀ s, s < t → bf_cc (bf_it g st s) st 19 ≠ 0) → t ≤ bf_to g st t
  | 0, _ => Nat.le_refl _
  | t + 1, h => by
    have e := bf_to_ge t (fun s hs => h s (by omega))
    have e2 := h t (by omega)
    show t + 1 ≤ bf_to g st t + bf_cc (bf_it g st t) st 19
    omega
/-- behind so many times a row is at rest -/
def bf_NN : Nat := 196021
theorem bf_rests {g : Nat → Int32} {st : Int32} (hb : bf_rb g) (hs : 1 ≤ st.toInt) : ∃ t, t < bf_NN ∧ bf_cc (bf_it g st t) st 19 = 0 := by
  by_cases h : ∃ t, t < bf_NN ∧ bf_cc (bf_it g st t) st 19 = 0
  · exact h
  · have := bf_to_ge (g := g) (st := st) bf_NN (fun s hs z => h ⟨s, hs, z⟩)
    have := bf_to_b hb hs bf_NN
    have : bf_NN = 196021 := rfl
    omega
theorem bf_end {g : Nat → Int32} {st : Int32} {t : Nat} (h : bf_cc (bf_it g st t) st 19 = 0) (ht : t ≤ bf_NN) : bf_it g st bf_NN = bf_it g st t ∧ bf_to g st bf_NN = bf_to g st t := by
  have e := bf_rest h (bf_NN - t)
  rw [show t + (bf_NN - t) = bf_NN by omega] at e
  exact e
