/-! THE PURE MACHINE: values, memory, operations, runs -/
abbrev bb_V : Type := Int32 ⊕ (Int64 ⊕ ((Nat × Nat) ⊕ Unit))
def bb_I (x : Int32) : bb_V := .inl x
def bb_J (x : Int64) : bb_V := .inr (.inl x)
def bb_R (k i : Nat) : bb_V := .inr (.inr (.inl (k, i)))
def bb_U : bb_V := .inr (.inr (.inr ()))
abbrev bb_M : Type := Nat → Nat → Nat → Int32
def bb_up (M : bb_M) (k i j : Nat) (v : Int32) : bb_M := fun k' i' j' => if k' = k ∧ i' = i ∧ j' = j then v else M k' i' j'
def bb_cp (M : bb_M) (k0 i0 k1 i1 sp dp n : Nat) : bb_M := fun k i j => if k = k1 ∧ i = i1 ∧ dp ≤ j ∧ j < dp + n then M k0 i0 (sp + (j - dp)) else M k i j
abbrev bb_Res : Type := Option ((Nat × List bb_V × List bb_V × bb_M) ⊕ ((Option bb_V × bb_M) ⊕ (Nat × List bb_V × bb_M × Nat × List bb_V × List bb_V)))
def bb_nx (n : Nat) (ls st : List bb_V) (M : bb_M) : bb_Res := some (.inl (n, ls, st, M))
def bb_rt (r : Option bb_V) (M : bb_M) : bb_Res := some (.inr (.inl (r, M)))
def bb_cl (y : Nat) (as : List bb_V) (M : bb_M) (n : Nat) (ls st : List bb_V) : bb_Res := some (.inr (.inr (y, as, M, n, ls, st)))
abbrev bb_O : Type := List bb_V → List bb_V → bb_M → bb_Res
abbrev bb_C : Type := Nat → List bb_V → bb_M → Option bb_V → bb_M → Prop
abbrev bb_K : Type := Nat → List bb_V → List bb_V → bb_M → Prop
abbrev bb_P : Type := Option bb_V → bb_M → Prop
def bb_call (C : bb_C) (y : Nat) (as : List bb_V) (M : bb_M) (k : Option bb_V → bb_M → Prop) : Prop := ∃ r M', C y as M r M' ∧ k r M'
def bb_do (C : bb_C) (R : bb_P) (K : bb_K) : bb_Res → Prop
  | none => False
  | some (.inl (n, ls, st, M)) => K n ls st M
  | some (.inr (.inl (r, M))) => R r M
  | some (.inr (.inr (y, as, M, n, ls, st))) => bb_call C y as M (fun r M' => K n ls (r.toList ++ st) M')
theorem bb_do_mono {C : bb_C} {R : bb_P} {K K' : bb_K} {x : bb_Res} (h : bb_do C R K x) (hk : ∀ pc ls st M, K pc ls st M → K' pc ls st M) : bb_do C R K' x := by
  match x, h with
  | none, h => exact h
  | some (.inl (n, ls, st, M)), h => exact hk _ _ _ _ h
  | some (.inr (.inl (r, M))), h => exact h
  | some (.inr (.inr (y, as, M, n, ls, st))), h =>
    obtain ⟨r, M', h1, h2⟩ := h
    exact ⟨r, M', h1, hk _ _ _ _ h2⟩
/-- a run from a place comes to an end of which R holds: the least predicate that is closed under steps backward -/
def bb_Y (C : bb_C) (cd : Nat → bb_O) (R : bb_P) : bb_K := fun pc ls st M => ∀ P : bb_K, (∀ pc ls st M, bb_do C R P (cd pc ls st M) → P pc ls st M) → P pc ls st M
theorem bb_Y_of {C : bb_C} {cd : Nat → bb_O} {R : bb_P} {pc : Nat} {ls st : List bb_V} {M : bb_M} (h : bb_do C R (bb_Y C cd R) (cd pc ls st M)) : bb_Y C cd R pc ls st M :=
  fun P hP => hP _ _ _ _ (bb_do_mono h (fun _ _ _ _ hh => hh P hP))
theorem bb_Y_eq {C : bb_C} {cd : Nat → bb_O} {R : bb_P} {pc : Nat} {ls st : List bb_V} {M : bb_M} : bb_Y C cd R pc ls st M ↔ bb_do C R (bb_Y C cd R) (cd pc ls st M) :=
  ⟨fun h => h (fun pc ls st M => bb_do C R (bb_Y C cd R) (cd pc ls st M)) (fun _ _ _ _ h' => bb_do_mono h' (fun _ _ _ _ hh => bb_Y_of hh)), bb_Y_of⟩
theorem bb_Y_at {C : bb_C} {cd : Nat → bb_O} {R : bb_P} {pc : Nat} {ls st : List bb_V} {M : bb_M} (o : bb_O) (e : cd pc = o) : bb_Y C cd R pc ls st M ↔ bb_do C R (bb_Y C cd R) (o ls st M) := by rw [← e]; exact bb_Y_eq
def bb_det (C : bb_C) : Prop := ∀ y as M r1 M1 r2 M2, C y as M r1 M1 → C y as M r2 M2 → r1 = r2 ∧ M1 = M2
theorem bb_Y_both {C : bb_C} (hC : bb_det C) {cd : Nat → bb_O} {R1 R2 : bb_P} {pc : Nat} {ls st : List bb_V} {M : bb_M} (h1 : bb_Y C cd R1 pc ls st M) (h2 : bb_Y C cd R2 pc ls st M) : ∃ r M', R1 r M' ∧ R2 r M' := by
  refine h1 (fun pc ls st M => bb_Y C cd R2 pc ls st M → ∃ r M', R1 r M' ∧ R2 r M') ?_ h2
  intro pc ls st M h h2
  rw [bb_Y_eq] at h2
  match hx : cd pc ls st M, h, h2 with
  | none, h, _ => exact h.elim
  | some (.inl (n, ls, st, M)), h, h2 => exact h h2
  | some (.inr (.inl (r, M))), h, h2 => exact ⟨r, M, h, h2⟩
  | some (.inr (.inr (y, as, M, n, ls, st))), h, h2 =>
    obtain ⟨r1, M1, a1, b1⟩ := h
    obtain ⟨r2, M2, a2, b2⟩ := h2
    obtain ⟨rfl, rfl⟩ := hC _ _ _ _ _ _ _ a1 a2
    exact b1 b2
/-- a call's places at the start: its arguments, then nothing -/
def bb_lo (n : Nat) (as : List bb_V) : List bb_V := as ++ List.replicate (n - as.length) bb_U
/-- the method 0: there is none -/
def bb_inS (_ : List bb_V) (_ : bb_M) (_ : Option bb_V) (_ : bb_M) : Prop := False
/-- calls of methods, at most d deep -/
def bb_Cl (pg : Nat → Nat → bb_O) (ml : Nat → Nat) : Nat → bb_C
  | 0 => fun _ _ _ _ _ => False
  | d + 1 => fun y as M r M' => if y = 0 then bb_inS as M r M' else bb_Y (bb_Cl pg ml d) (pg y) (fun r' M2 => r' = r ∧ M2 = M') 0 (bb_lo (ml y) as) [] M
theorem bb_J_inj {a b : Int64} (h : bb_J a = bb_J b) : a = b := by unfold bb_J at h; exact Sum.inl.inj (Sum.inr.inj h)
theorem bb_I_inj {a b : Int32} (h : bb_I a = bb_I b) : a = b := by unfold bb_I at h; exact Sum.inl.inj h
theorem bb_Cl_det (pg : Nat → Nat → bb_O) (ml : Nat → Nat) : ∀ d, bb_det (bb_Cl pg ml d)
  | 0 => fun _ _ _ _ _ _ _ h => h.elim
  | d + 1 => fun y as M r1 M1 r2 M2 h1 h2 => by
    unfold bb_Cl at h1 h2
    by_cases hy : y = 0
    · rw [if_pos hy] at h1 h2
      exact h1.elim
    · rw [if_neg hy] at h1 h2
      obtain ⟨r, M', ⟨g1, g2⟩, g3, g4⟩ := bb_Y_both (bb_Cl_det pg ml d) h1 h2
      exact ⟨g1.symm.trans g3, g2.symm.trans g4⟩
theorem bb_call_iff {C : bb_C} (hC : bb_det C) {y : Nat} {as : List bb_V} {M M' : bb_M} {r : Option bb_V} {k : Option bb_V → bb_M → Prop} (h : C y as M r M') : bb_call C y as M k ↔ k r M' := by
  refine ⟨fun ⟨r2, M2, h2, h3⟩ => ?_, fun h3 => ⟨r, M', h, h3⟩⟩
  obtain ⟨rfl, rfl⟩ := hC _ _ _ _ _ _ _ h h2
  exact h3
/-- how many words a rest of the stack takes -/
def bb_wt : List bb_V → Nat
  | [] => 0
  | .inr (.inl _) :: t => bb_wt t + 2
  | .inl _ :: t => bb_wt t + 1
  | .inr (.inr _) :: t => bb_wt t + 1
theorem bb_wt_0 : bb_wt [] = 0 := rfl
theorem bb_wt_I (x : Int32) (t : List bb_V) : bb_wt (bb_I x :: t) = bb_wt t + 1 := rfl
theorem bb_wt_J (x : Int64) (t : List bb_V) : bb_wt (bb_J x :: t) = bb_wt t + 2 := rfl
theorem bb_wt_R (k i : Nat) (t : List bb_V) : bb_wt (bb_R k i :: t) = bb_wt t + 1 := rfl
/-- lengths of arrays by their kinds -/
def bb_len : Nat → Nat
  | 10 => 80 | 11 => 4 | 12 => 24 | 13 => 24 | 14 => 4 | 15 => 9 | 16 => 168 | 17 => 60 | 18 => 7 | 19 => 24 | 20 => 4
  | 21 => 311 | 22 => 311 | 23 => 1244 | 24 => 311 | 25 => 7 | 26 => 24 | 27 => 80 | 28 => 60 | 29 => 48 | 30 => 4 | 31 => 4 | 32 => 4
  | _ => 0
/-- how many objects of a kind there are -/
def bb_cnt : Nat → Nat
  | 0 => 1 | 1 => 8 | 2 => 1 | 3 => 8 | 4 => 7 | 5 => 1 | 6 => 1
  | 10 => 8 | 11 => 8 | 12 => 8 | 13 => 8 | 14 => 7 | 15 => 7 | 16 => 7 | 17 => 1 | 18 => 1 | 19 => 1 | 20 => 1
  | 30 => 1 | 31 => 1 | 32 => 1 | 40 => 1 | 41 => 1 | 42 => 1
  | _ => 0
/-- arrays of ints -/
def bb_ia : Nat → Bool
  | 10 => true | 11 => true | 12 => true | 13 => true | 14 => true | 15 => true | 16 => true | 18 => true | 19 => true
  | 21 => true | 22 => true | 23 => true | 24 => true | 25 => true | 26 => true | 27 => true | 28 => true | 29 => true | 30 => true | 31 => true | 32 => true
  | _ => false
/-! operations: n is the place behind the instruction -/
def bo_fail : bb_O := fun _ _ _ => none
def bo_iload (i n : Nat) : bb_O := fun ls st M => match ls[i]? with | some (.inl x) => bb_nx n ls (.inl x :: st) M | _ => none
def bo_aload (i n : Nat) : bb_O := fun ls st M => match ls[i]? with | some (.inr (.inr (.inl r))) => bb_nx n ls (.inr (.inr (.inl r)) :: st) M | _ => none
def bo_istore (i n : Nat) : bb_O := fun ls st M => match ls[i]?, st with | some _, .inl x :: st => bb_nx n (ls.set i (.inl x)) st M | _, _ => none
def bo_astore (i n : Nat) : bb_O := fun ls st M => match ls[i]?, st with | some _, .inr (.inr (.inl r)) :: st => bb_nx n (ls.set i (.inr (.inr (.inl r)))) st M | _, _ => none
def bo_iinc (i : Nat) (v : Int32) (n : Nat) : bb_O := fun ls st M => match ls[i]? with | some (.inl x) => bb_nx n (ls.set i (.inl (x + v))) st M | _ => none
def bo_const (v : Int32) (n : Nat) : bb_O := fun ls st M => bb_nx n ls (.inl v :: st) M
def bo_lconst (v : Int64) (n : Nat) : bb_O := fun ls st M => bb_nx n ls (.inr (.inl v) :: st) M

def bo_iadd (n : Nat) : bb_O := fun ls st M => match st with | .inl b :: .inl a :: st => bb_nx n ls (.inl (a + b) :: st) M | _ => none
def bo_isub (n : Nat) : bb_O := fun ls st M => match st with | .inl b :: .inl a :: st => bb_nx n ls (.inl (a - b) :: st) M | _ => none
def bo_imul (n : Nat) : bb_O := fun ls st M => match st with | .inl b :: .inl a :: st => bb_nx n ls (.inl (a * b) :: st) M | _ => none
def bo_iand (n : Nat) : bb_O := fun ls st M => match st with | .inl b :: .inl a :: st => bb_nx n ls (.inl (a &&& b) :: st) M | _ => none
def bo_ior (n : Nat) : bb_O := fun ls st M => match st with | .inl b :: .inl a :: st => bb_nx n ls (.inl (a ||| b) :: st) M | _ => none
def bo_ishl (n : Nat) : bb_O := fun ls st M => match st with | .inl b :: .inl a :: st => bb_nx n ls (.inl (a <<< (b &&& 31)) :: st) M | _ => none
def bo_ishr (n : Nat) : bb_O := fun ls st M => match st with | .inl b :: .inl a :: st => bb_nx n ls (.inl (a >>> (b &&& 31)) :: st) M | _ => none
def bo_iushr (n : Nat) : bb_O := fun ls st M => match st with | .inl b :: .inl a :: st => bb_nx n ls (.inl ((a.toUInt32 >>> (b.toUInt32 &&& Int32.toUInt32 31)).toInt32) :: st) M | _ => none
def bo_idiv (n : Nat) : bb_O := fun ls st M => match st with | .inl b :: .inl a :: st => if b = 0 then none else bb_nx n ls (.inl (a / b) :: st) M | _ => none
def bo_irem (n : Nat) : bb_O := fun ls st M => match st with | .inl b :: .inl a :: st => if b = 0 then none else bb_nx n ls (.inl (a - a / b * b) :: st) M | _ => none
def bo_ineg (n : Nat) : bb_O := fun ls st M => match st with | .inl a :: st => bb_nx n ls (.inl (-a) :: st) M | _ => none
def bo_i2c (n : Nat) : bb_O := fun ls st M => match st with | .inl a :: st => bb_nx n ls (.inl ((a.toUInt32 % 65536).toInt32) :: st) M | _ => none
def bo_imin (n : Nat) : bb_O := fun ls st M => match st with | .inl b :: .inl a :: st => if bb_wt st ≤ 8 then bb_nx n ls (.inl (if b < a then b else a) :: st) M else none | _ => none
def bo_imax (n : Nat) : bb_O := fun ls st M => match st with | .inl b :: .inl a :: st => if bb_wt st ≤ 8 then bb_nx n ls (.inl (if a < b then b else a) :: st) M else none | _ => none
def bo_iabs (n : Nat) : bb_O := fun ls st M => match st with | .inl a :: st => if bb_wt st ≤ 8 then bb_nx n ls (.inl (if 0 ≤ a then a else 0 - a) :: st) M else none | _ => none
def bo_i2l (n : Nat) : bb_O := fun ls st M => match st with | .inl a :: st => bb_nx n ls (.inr (.inl a.toInt64) :: st) M | _ => none
def bo_dup (n : Nat) : bb_O := fun ls st M => match st with | .inl a :: st => bb_nx n ls (.inl a :: .inl a :: st) M | .inr (.inr (.inl r)) :: st => bb_nx n ls (.inr (.inr (.inl r)) :: .inr (.inr (.inl r)) :: st) M | _ => none
def bo_dup2 (n : Nat) : bb_O := fun ls st M => match st with | .inl a :: .inr (.inr (.inl r)) :: st => bb_nx n ls (.inl a :: .inr (.inr (.inl r)) :: .inl a :: .inr (.inr (.inl r)) :: st) M | _ => none
def bo_pop (n : Nat) : bb_O := fun ls st M => match st with | .inl _ :: st => bb_nx n ls st M | _ => none
def bo_goto (t : Nat) : bb_O := fun ls st M => bb_nx t ls st M
def bo_ifeq (t n : Nat) : bb_O := fun ls st M => match st with | .inl a :: st => if a = 0 then bb_nx t ls st M else bb_nx n ls st M | _ => none
def bo_ifne (t n : Nat) : bb_O := fun ls st M => match st with | .inl a :: st => if a ≠ 0 then bb_nx t ls st M else bb_nx n ls st M | _ => none
def bo_iflt (t n : Nat) : bb_O := fun ls st M => match st with | .inl a :: st => if a < 0 then bb_nx t ls st M else bb_nx n ls st M | _ => none
def bo_ifge (t n : Nat) : bb_O := fun ls st M => match st with | .inl a :: st => if 0 ≤ a then bb_nx t ls st M else bb_nx n ls st M | _ => none
def bo_ifgt (t n : Nat) : bb_O := fun ls st M => match st with | .inl a :: st => if 0 < a then bb_nx t ls st M else bb_nx n ls st M | _ => none
def bo_ifle (t n : Nat) : bb_O := fun ls st M => match st with | .inl a :: st => if a ≤ 0 then bb_nx t ls st M else bb_nx n ls st M | _ => none
def bo_iceq (t n : Nat) : bb_O := fun ls st M => match st with | .inl b :: .inl a :: st => if a = b then bb_nx t ls st M else bb_nx n ls st M | _ => none
def bo_icne (t n : Nat) : bb_O := fun ls st M => match st with | .inl b :: .inl a :: st => if a ≠ b then bb_nx t ls st M else bb_nx n ls st M | _ => none
def bo_iclt (t n : Nat) : bb_O := fun ls st M => match st with | .inl b :: .inl a :: st => if a < b then bb_nx t ls st M else bb_nx n ls st M | _ => none
def bo_icge (t n : Nat) : bb_O := fun ls st M => match st with | .inl b :: .inl a :: st => if b ≤ a then bb_nx t ls st M else bb_nx n ls st M | _ => none
def bo_icgt (t n : Nat) : bb_O := fun ls st M => match st with | .inl b :: .inl a :: st => if b < a then bb_nx t ls st M else bb_nx n ls st M | _ => none
def bo_icle (t n : Nat) : bb_O := fun ls st M => match st with | .inl b :: .inl a :: st => if a ≤ b then bb_nx t ls st M else bb_nx n ls st M | _ => none
def bb_sw (x : Int32) (ls st : List bb_V) (M : bb_M) (d : Nat) : List (Int32 × Nat) → bb_Res
  | [] => bb_nx d ls st M
  | (c, t) :: r => if x = c then bb_nx t ls st M else bb_sw x ls st M d r
def bo_sw (cs : List (Int32 × Nat)) (d : Nat) : bb_O := fun ls st M => match st with | .inl x :: st => bb_sw x ls st M d cs | _ => none
def bo_getI (k sl n : Nat) : bb_O := fun ls st M => match st with | .inr (.inr (.inl (k', i))) :: st => if k' = k then bb_nx n ls (.inl (M k i sl) :: st) M else none | _ => none
def bo_getR (k k2 : Nat) (g : Nat → Nat) (n : Nat) : bb_O := fun ls st M => match st with | .inr (.inr (.inl (k', i))) :: st => if k' = k then bb_nx n ls (.inr (.inr (.inl (k2, g i))) :: st) M else none | _ => none
def bo_putI (k sl n : Nat) : bb_O := fun ls st M => match st with | .inl v :: .inr (.inr (.inl (k', i))) :: st => if k' = k then bb_nx n ls st (bb_up M k i sl v) else none | _ => none
def bo_putZ (k sl n : Nat) : bb_O := fun ls st M => match st with | .inl v :: .inr (.inr (.inl (k', i))) :: st => if k' = k ∧ (v = 0 ∨ v = 1) then bb_nx n ls st (bb_up M k i sl v) else none | _ => none
def bo_getS (k n : Nat) : bb_O := fun ls st M => bb_nx n ls (.inr (.inr (.inl (k, 0))) :: st) M
def bo_iald (n : Nat) : bb_O := fun ls st M => match st with | .inl j :: .inr (.inr (.inl (k, i))) :: st => if bb_ia k = true ∧ ¬ (j < 0 ∨ bb_len k ≤ j.toNatClampNeg) then bb_nx n ls (.inl (M k i j.toNatClampNeg) :: st) M else none | _ => none
def bo_iast (n : Nat) : bb_O := fun ls st M => match st with | .inl v :: .inl j :: .inr (.inr (.inl (k, i))) :: st => if (bb_ia k = true ∧ k < 30) ∧ ¬ (j < 0 ∨ bb_len k ≤ j.toNatClampNeg) then bb_nx n ls st (bb_up M k i j.toNatClampNeg v) else none | _ => none
def bo_cald (n : Nat) : bb_O := fun ls st M => match st with | .inl j :: .inr (.inr (.inl (k, i))) :: st => if k = 17 ∧ ¬ (j < 0 ∨ 60 ≤ j.toNatClampNeg) then bb_nx n ls (.inl (M k i j.toNatClampNeg) :: st) M else none | _ => none
def bo_cast (n : Nat) : bb_O := fun ls st M => match st with | .inl v :: .inl j :: .inr (.inr (.inl (k, i))) :: st => if k = 17 ∧ ¬ (j < 0 ∨ 60 ≤ j.toNatClampNeg) then bb_nx n ls st (bb_up M k i j.toNatClampNeg (vp_nar .char v)) else none | _ => none
def bo_aald (n : Nat) : bb_O := fun ls st M => match st with | .inl j :: .inr (.inr (.inl (k, _))) :: st => if k = 20 ∧ ¬ (j < 0 ∨ 4 ≤ j.toNatClampNeg) then bb_nx n ls (.inr (.inr (.inl (4, 3 + j.toNatClampNeg))) :: st) M else none | _ => none
def bo_alen (n : Nat) : bb_O := fun ls st M => match st with | .inr (.inr (.inl (k, _))) :: st => if bb_ia k = true then bb_nx n ls (.inl (Int32.ofNat (bb_len k)) :: st) M else none | _ => none
def bo_acopy (n : Nat) : bb_O := fun ls st M => match st with
  | .inl q :: .inl dp :: .inr (.inr (.inl (k1, i1))) :: .inl sp :: .inr (.inr (.inl (k0, i0))) :: st => if ((bb_ia k0 = true ∧ k0 < 30) ∧ (bb_ia k1 = true ∧ k1 < 30)) ∧ (¬ sp < 0 ∧ ¬ dp < 0 ∧ ¬ q < 0) ∧ (sp.toNatClampNeg + q.toNatClampNeg ≤ bb_len k0 ∧ dp.toNatClampNeg + q.toNatClampNeg ≤ bb_len k1) ∧ bb_wt st ≤ 8 then bb_nx n ls st (bb_cp M k0 i0 k1 i1 sp.toNatClampNeg dp.toNatClampNeg q.toNatClampNeg) else none
  | _ => none
def bb_nj : List bb_V → Bool
  | [] => true
  | .inr (.inl _) :: _ => false
  | _ :: t => bb_nj t
def bo_callJ (a n : Nat) : bb_O := fun ls st M => if a ≤ st.length ∧ bb_wt (st.drop a) ≤ 8 then bb_cl 0 (st.take a).reverse M n ls (st.drop a) else none
def bo_call (y a n : Nat) : bb_O := fun ls st M => if (a ≤ st.length ∧ bb_wt (st.drop a) ≤ 8) ∧ bb_nj (st.take a) = true then bb_cl y (st.take a).reverse M n ls (st.drop a) else none
def bo_callv (y k a n : Nat) : bb_O := fun ls st M => match st.drop (a - 1) with
  | .inr (.inr (.inl (k', i))) :: r => if k' = k ∧ (a - 1 < st.length ∧ bb_wt r ≤ 8) ∧ bb_nj (st.take (a - 1)) = true then bb_cl y (.inr (.inr (.inl (k', i))) :: (st.take (a - 1)).reverse) M n ls r else none
  | _ => none
def bo_ret : bb_O := fun _ st M => match st with | [] => bb_rt none M | _ => none
def bo_iret : bb_O := fun _ st M => match st with | [.inl v] => bb_rt (some (.inl v)) M | _ => none
def bo_zret : bb_O := fun _ st M => match st with | [.inl v] => if v = 0 ∨ v = 1 then bb_rt (some (.inl v)) M else none | _ => none
def bo_aret : bb_O := fun _ st M => match st with | [.inr (.inr (.inl r))] => bb_rt (some (.inr (.inr (.inl r)))) M | _ => none
/-! their equations -/
section BQ
variable {C : bb_C} {R : bb_P} {K : bb_K} {M : bb_M} {ls st : List bb_V} {n : Nat}
theorem bb_do_if {c : Prop} [Decidable c] {x : bb_Res} : bb_do C R K (if c then x else none) ↔ (c ∧ bb_do C R K x) := by
  by_cases h : c
  · rw [if_pos h]; exact ⟨fun q => ⟨h, q⟩, fun q => q.2⟩
  · rw [if_neg h]; exact ⟨fun q => q.elim, fun q => (h q.1).elim⟩

theorem bq_iload_0 {x : Int32} {t : List bb_V} : bb_do C R K (bo_iload 0 n (bb_I x :: t) st M) = K n (bb_I x :: t) (bb_I x :: st) M := rfl
theorem bq_aload_0 {k j : Nat} {t : List bb_V} : bb_do C R K (bo_aload 0 n (bb_R k j :: t) st M) = K n (bb_R k j :: t) (bb_R k j :: st) M := rfl
theorem bq_istore_0 {x : Int32} {q : bb_V} {t : List bb_V} : bb_do C R K (bo_istore 0 n (q :: t) (bb_I x :: st) M) = K n (bb_I x :: t) st M := rfl
theorem bq_astore_0 {k j : Nat} {q : bb_V} {t : List bb_V} : bb_do C R K (bo_astore 0 n (q :: t) (bb_R k j :: st) M) = K n (bb_R k j :: t) st M := rfl
theorem bq_iinc_0 {x v : Int32} {t : List bb_V} : bb_do C R K (bo_iinc 0 v n (bb_I x :: t) st M) = K n (bb_I (x + v) :: t) st M := rfl
theorem bq_iload_1 {p0 : bb_V} {x : Int32} {t : List bb_V} : bb_do C R K (bo_iload 1 n (p0 :: bb_I x :: t) st M) = K n (p0 :: bb_I x :: t) (bb_I x :: st) M := rfl
theorem bq_aload_1 {p0 : bb_V} {k j : Nat} {t : List bb_V} : bb_do C R K (bo_aload 1 n (p0 :: bb_R k j :: t) st M) = K n (p0 :: bb_R k j :: t) (bb_R k j :: st) M := rfl
theorem bq_istore_1 {p0 : bb_V} {x : Int32} {q : bb_V} {t : List bb_V} : bb_do C R K (bo_istore 1 n (p0 :: q :: t) (bb_I x :: st) M) = K n (p0 :: bb_I x :: t) st M := rfl
theorem bq_astore_1 {p0 : bb_V} {k j : Nat} {q : bb_V} {t : List bb_V} : bb_do C R K (bo_astore 1 n (p0 :: q :: t) (bb_R k j :: st) M) = K n (p0 :: bb_R k j :: t) st M := rfl
theorem bq_iinc_1 {p0 : bb_V} {x v : Int32} {t : List bb_V} : bb_do C R K (bo_iinc 1 v n (p0 :: bb_I x :: t) st M) = K n (p0 :: bb_I (x + v) :: t) st M := rfl
theorem bq_iload_2 {p0 p1 : bb_V} {x : Int32} {t : List bb_V} : bb_do C R K (bo_iload 2 n (p0 :: p1 :: bb_I x :: t) st M) = K n (p0 :: p1 :: bb_I x :: t) (bb_I x :: st) M := rfl
theorem bq_aload_2 {p0 p1 : bb_V} {k j : Nat} {t : List bb_V} : bb_do C R K (bo_aload 2 n (p0 :: p1 :: bb_R k j :: t) st M) = K n (p0 :: p1 :: bb_R k j :: t) (bb_R k j :: st) M := rfl
theorem bq_istore_2 {p0 p1 : bb_V} {x : Int32} {q : bb_V} {t : List bb_V} : bb_do C R K (bo_istore 2 n (p0 :: p1 :: q :: t) (bb_I x :: st) M) = K n (p0 :: p1 :: bb_I x :: t) st M := rfl
theorem bq_astore_2 {p0 p1 : bb_V} {k j : Nat} {q : bb_V} {t : List bb_V} : bb_do C R K (bo_astore 2 n (p0 :: p1 :: q :: t) (bb_R k j :: st) M) = K n (p0 :: p1 :: bb_R k j :: t) st M := rfl
theorem bq_iinc_2 {p0 p1 : bb_V} {x v : Int32} {t : List bb_V} : bb_do C R K (bo_iinc 2 v n (p0 :: p1 :: bb_I x :: t) st M) = K n (p0 :: p1 :: bb_I (x + v) :: t) st M := rfl
theorem bq_iload_3 {p0 p1 p2 : bb_V} {x : Int32} {t : List bb_V} : bb_do C R K (bo_iload 3 n (p0 :: p1 :: p2 :: bb_I x :: t) st M) = K n (p0 :: p1 :: p2 :: bb_I x :: t) (bb_I x :: st) M := rfl
theorem bq_aload_3 {p0 p1 p2 : bb_V} {k j : Nat} {t : List bb_V} : bb_do C R K (bo_aload 3 n (p0 :: p1 :: p2 :: bb_R k j :: t) st M) = K n (p0 :: p1 :: p2 :: bb_R k j :: t) (bb_R k j :: st) M := rfl
theorem bq_istore_3 {p0 p1 p2 : bb_V} {x : Int32} {q : bb_V} {t : List bb_V} : bb_do C R K (bo_istore 3 n (p0 :: p1 :: p2 :: q :: t) (bb_I x :: st) M) = K n (p0 :: p1 :: p2 :: bb_I x :: t) st M := rfl
theorem bq_astore_3 {p0 p1 p2 : bb_V} {k j : Nat} {q : bb_V} {t : List bb_V} : bb_do C R K (bo_astore 3 n (p0 :: p1 :: p2 :: q :: t) (bb_R k j :: st) M) = K n (p0 :: p1 :: p2 :: bb_R k j :: t) st M := rfl
theorem bq_iinc_3 {p0 p1 p2 : bb_V} {x v : Int32} {t : List bb_V} : bb_do C R K (bo_iinc 3 v n (p0 :: p1 :: p2 :: bb_I x :: t) st M) = K n (p0 :: p1 :: p2 :: bb_I (x + v) :: t) st M := rfl
theorem bq_iload_4 {p0 p1 p2 p3 : bb_V} {x : Int32} {t : List bb_V} : bb_do C R K (bo_iload 4 n (p0 :: p1 :: p2 :: p3 :: bb_I x :: t) st M) = K n (p0 :: p1 :: p2 :: p3 :: bb_I x :: t) (bb_I x :: st) M := rfl
theorem bq_aload_4 {p0 p1 p2 p3 : bb_V} {k j : Nat} {t : List bb_V} : bb_do C R K (bo_aload 4 n (p0 :: p1 :: p2 :: p3 :: bb_R k j :: t) st M) = K n (p0 :: p1 :: p2 :: p3 :: bb_R k j :: t) (bb_R k j :: st) M := rfl
theorem bq_istore_4 {p0 p1 p2 p3 : bb_V} {x : Int32} {q : bb_V} {t : List bb_V} : bb_do C R K (bo_istore 4 n (p0 :: p1 :: p2 :: p3 :: q :: t) (bb_I x :: st) M) = K n (p0 :: p1 :: p2 :: p3 :: bb_I x :: t) st M := rfl
theorem bq_astore_4 {p0 p1 p2 p3 : bb_V} {k j : Nat} {q : bb_V} {t : List bb_V} : bb_do C R K (bo_astore 4 n (p0 :: p1 :: p2 :: p3 :: q :: t) (bb_R k j :: st) M) = K n (p0 :: p1 :: p2 :: p3 :: bb_R k j :: t) st M := rfl
theorem bq_iinc_4 {p0 p1 p2 p3 : bb_V} {x v : Int32} {t : List bb_V} : bb_do C R K (bo_iinc 4 v n (p0 :: p1 :: p2 :: p3 :: bb_I x :: t) st M) = K n (p0 :: p1 :: p2 :: p3 :: bb_I (x + v) :: t) st M := rfl
theorem bq_iload_5 {p0 p1 p2 p3 p4 : bb_V} {x : Int32} {t : List bb_V} : bb_do C R K (bo_iload 5 n (p0 :: p1 :: p2 :: p3 :: p4 :: bb_I x :: t) st M) = K n (p0 :: p1 :: p2 :: p3 :: p4 :: bb_I x :: t) (bb_I x :: st) M := rfl
theorem bq_aload_5 {p0 p1 p2 p3 p4 : bb_V} {k j : Nat} {t : List bb_V} : bb_do C R K (bo_aload 5 n (p0 :: p1 :: p2 :: p3 :: p4 :: bb_R k j :: t) st M) = K n (p0 :: p1 :: p2 :: p3 :: p4 :: bb_R k j :: t) (bb_R k j :: st) M := rfl
theorem bq_istore_5 {p0 p1 p2 p3 p4 : bb_V} {x : Int32} {q : bb_V} {t : List bb_V} : bb_do C R K (bo_istore 5 n (p0 :: p1 :: p2 :: p3 :: p4 :: q :: t) (bb_I x :: st) M) = K n (p0 :: p1 :: p2 :: p3 :: p4 :: bb_I x :: t) st M := rfl
theorem bq_astore_5 {p0 p1 p2 p3 p4 : bb_V} {k j : Nat} {q : bb_V} {t : List bb_V} : bb_do C R K (bo_astore 5 n (p0 :: p1 :: p2 :: p3 :: p4 :: q :: t) (bb_R k j :: st) M) = K n (p0 :: p1 :: p2 :: p3 :: p4 :: bb_R k j :: t) st M := rfl
theorem bq_iinc_5 {p0 p1 p2 p3 p4 : bb_V} {x v : Int32} {t : List bb_V} : bb_do C R K (bo_iinc 5 v n (p0 :: p1 :: p2 :: p3 :: p4 :: bb_I x :: t) st M) = K n (p0 :: p1 :: p2 :: p3 :: p4 :: bb_I (x + v) :: t) st M := rfl
theorem bq_iload_6 {p0 p1 p2 p3 p4 p5 : bb_V} {x : Int32} {t : List bb_V} : bb_do C R K (bo_iload 6 n (p0 :: p1 :: p2 :: p3 :: p4 :: p5 :: bb_I x :: t) st M) = K n (p0 :: p1 :: p2 :: p3 :: p4 :: p5 :: bb_I x :: t) (bb_I x :: st) M := rfl
theorem bq_aload_6 {p0 p1 p2 p3 p4 p5 : bb_V} {k j : Nat} {t : List bb_V} : bb_do C R K (bo_aload 6 n (p0 :: p1 :: p2 :: p3 :: p4 :: p5 :: bb_R k j :: t) st M) = K n (p0 :: p1 :: p2 :: p3 :: p4 :: p5 :: bb_R k j :: t) (bb_R k j :: st) M := rfl
theorem bq_istore_6 {p0 p1 p2 p3 p4 p5 : bb_V} {x : Int32} {q : bb_V} {t : List bb_V} : bb_do C R K (bo_istore 6 n (p0 :: p1 :: p2 :: p3 :: p4 :: p5 :: q :: t) (bb_I x :: st) M) = K n (p0 :: p1 :: p2 :: p3 :: p4 :: p5 :: bb_I x :: t) st M := rfl
theorem bq_astore_6 {p0 p1 p2 p3 p4 p5 : bb_V} {k j : Nat} {q : bb_V} {t : List bb_V} : bb_do C R K (bo_astore 6 n (p0 :: p1 :: p2 :: p3 :: p4 :: p5 :: q :: t) (bb_R k j :: st) M) = K n (p0 :: p1 :: p2 :: p3 :: p4 :: p5 :: bb_R k j :: t) st M := rfl
theorem bq_iinc_6 {p0 p1 p2 p3 p4 p5 : bb_V} {x v : Int32} {t : List bb_V} : bb_do C R K (bo_iinc 6 v n (p0 :: p1 :: p2 :: p3 :: p4 :: p5 :: bb_I x :: t) st M) = K n (p0 :: p1 :: p2 :: p3 :: p4 :: p5 :: bb_I (x + v) :: t) st M := rfl
theorem bq_iload_7 {p0 p1 p2 p3 p4 p5 p6 : bb_V} {x : Int32} {t : List bb_V} : bb_do C R K (bo_iload 7 n (p0 :: p1 :: p2 :: p3 :: p4 :: p5 :: p6 :: bb_I x :: t) st M) = K n (p0 :: p1 :: p2 :: p3 :: p4 :: p5 :: p6 :: bb_I x :: t) (bb_I x :: st) M := rfl
theorem bq_aload_7 {p0 p1 p2 p3 p4 p5 p6 : bb_V} {k j : Nat} {t : List bb_V} : bb_do C R K (bo_aload 7 n (p0 :: p1 :: p2 :: p3 :: p4 :: p5 :: p6 :: bb_R k j :: t) st M) = K n (p0 :: p1 :: p2 :: p3 :: p4 :: p5 :: p6 :: bb_R k j :: t) (bb_R k j :: st) M := rfl
theorem bq_istore_7 {p0 p1 p2 p3 p4 p5 p6 : bb_V} {x : Int32} {q : bb_V} {t : List bb_V} : bb_do C R K (bo_istore 7 n (p0 :: p1 :: p2 :: p3 :: p4 :: p5 :: p6 :: q :: t) (bb_I x :: st) M) = K n (p0 :: p1 :: p2 :: p3 :: p4 :: p5 :: p6 :: bb_I x :: t) st M := rfl
theorem bq_astore_7 {p0 p1 p2 p3 p4 p5 p6 : bb_V} {k j : Nat} {q : bb_V} {t : List bb_V} : bb_do C R K (bo_astore 7 n (p0 :: p1 :: p2 :: p3 :: p4 :: p5 :: p6 :: q :: t) (bb_R k j :: st) M) = K n (p0 :: p1 :: p2 :: p3 :: p4 :: p5 :: p6 :: bb_R k j :: t) st M := rfl
theorem bq_iinc_7 {p0 p1 p2 p3 p4 p5 p6 : bb_V} {x v : Int32} {t : List bb_V} : bb_do C R K (bo_iinc 7 v n (p0 :: p1 :: p2 :: p3 :: p4 :: p5 :: p6 :: bb_I x :: t) st M) = K n (p0 :: p1 :: p2 :: p3 :: p4 :: p5 :: p6 :: bb_I (x + v) :: t) st M := rfl
theorem bq_iload_8 {p0 p1 p2 p3 p4 p5 p6 p7 : bb_V} {x : Int32} {t : List bb_V} : bb_do C R K (bo_iload 8 n (p0 :: p1 :: p2 :: p3 :: p4 :: p5 :: p6 :: p7 :: bb_I x :: t) st M) = K n (p0 :: p1 :: p2 :: p3 :: p4 :: p5 :: p6 :: p7 :: bb_I x :: t) (bb_I x :: st) M := rfl
theorem bq_aload_8 {p0 p1 p2 p3 p4 p5 p6 p7 : bb_V} {k j : Nat} {t : List bb_V} : bb_do C R K (bo_aload 8 n (p0 :: p1 :: p2 :: p3 :: p4 :: p5 :: p6 :: p7 :: bb_R k j :: t) st M) = K n (p0 :: p1 :: p2 :: p3 :: p4 :: p5 :: p6 :: p7 :: bb_R k j :: t) (bb_R k j :: st) M := rfl
theorem bq_istore_8 {p0 p1 p2 p3 p4 p5 p6 p7 : bb_V} {x : Int32} {q : bb_V} {t : List bb_V} : bb_do C R K (bo_istore 8 n (p0 :: p1 :: p2 :: p3 :: p4 :: p5 :: p6 :: p7 :: q :: t) (bb_I x :: st) M) = K n (p0 :: p1 :: p2 :: p3 :: p4 :: p5 :: p6 :: p7 :: bb_I x :: t) st M := rfl
theorem bq_astore_8 {p0 p1 p2 p3 p4 p5 p6 p7 : bb_V} {k j : Nat} {q : bb_V} {t : List bb_V} : bb_do C R K (bo_astore 8 n (p0 :: p1 :: p2 :: p3 :: p4 :: p5 :: p6 :: p7 :: q :: t) (bb_R k j :: st) M) = K n (p0 :: p1 :: p2 :: p3 :: p4 :: p5 :: p6 :: p7 :: bb_R k j :: t) st M := rfl
theorem bq_iinc_8 {p0 p1 p2 p3 p4 p5 p6 p7 : bb_V} {x v : Int32} {t : List bb_V} : bb_do C R K (bo_iinc 8 v n (p0 :: p1 :: p2 :: p3 :: p4 :: p5 :: p6 :: p7 :: bb_I x :: t) st M) = K n (p0 :: p1 :: p2 :: p3 :: p4 :: p5 :: p6 :: p7 :: bb_I (x + v) :: t) st M := rfl
theorem bq_iload_9 {p0 p1 p2 p3 p4 p5 p6 p7 p8 : bb_V} {x : Int32} {t : List bb_V} : bb_do C R K (bo_iload 9 n (p0 :: p1 :: p2 :: p3 :: p4 :: p5 :: p6 :: p7 :: p8 :: bb_I x :: t) st M) = K n (p0 :: p1 :: p2 :: p3 :: p4 :: p5 :: p6 :: p7 :: p8 :: bb_I x :: t) (bb_I x :: st) M := rfl
theorem bq_aload_9 {p0 p1 p2 p3 p4 p5 p6 p7 p8 : bb_V} {k j : Nat} {t : List bb_V} : bb_do C R K (bo_aload 9 n (p0 :: p1 :: p2 :: p3 :: p4 :: p5 :: p6 :: p7 :: p8 :: bb_R k j :: t) st M) = K n (p0 :: p1 :: p2 :: p3 :: p4 :: p5 :: p6 :: p7 :: p8 :: bb_R k j :: t) (bb_R k j :: st) M := rfl
theorem bq_istore_9 {p0 p1 p2 p3 p4 p5 p6 p7 p8 : bb_V} {x : Int32} {q : bb_V} {t : List bb_V} : bb_do C R K (bo_istore 9 n (p0 :: p1 :: p2 :: p3 :: p4 :: p5 :: p6 :: p7 :: p8 :: q :: t) (bb_I x :: st) M) = K n (p0 :: p1 :: p2 :: p3 :: p4 :: p5 :: p6 :: p7 :: p8 :: bb_I x :: t) st M := rfl
theorem bq_astore_9 {p0 p1 p2 p3 p4 p5 p6 p7 p8 : bb_V} {k j : Nat} {q : bb_V} {t : List bb_V} : bb_do C R K (bo_astore 9 n (p0 :: p1 :: p2 :: p3 :: p4 :: p5 :: p6 :: p7 :: p8 :: q :: t) (bb_R k j :: st) M) = K n (p0 :: p1 :: p2 :: p3 :: p4 :: p5 :: p6 :: p7 :: p8 :: bb_R k j :: t) st M := rfl
theorem bq_iinc_9 {p0 p1 p2 p3 p4 p5 p6 p7 p8 : bb_V} {x v : Int32} {t : List bb_V} : bb_do C R K (bo_iinc 9 v n (p0 :: p1 :: p2 :: p3 :: p4 :: p5 :: p6 :: p7 :: p8 :: bb_I x :: t) st M) = K n (p0 :: p1 :: p2 :: p3 :: p4 :: p5 :: p6 :: p7 :: p8 :: bb_I (x + v) :: t) st M := rfl
theorem bq_const {v : Int32} : bb_do C R K (bo_const v n ls st M) = K n ls (bb_I v :: st) M := rfl
theorem bq_lconst {v : Int64} : bb_do C R K (bo_lconst v n ls st M) = K n ls (bb_J v :: st) M := rfl
theorem bq_iadd {a b : Int32} : bb_do C R K (bo_iadd n ls (bb_I b :: bb_I a :: st) M) = K n ls (bb_I (a + b) :: st) M := rfl
theorem bq_isub {a b : Int32} : bb_do C R K (bo_isub n ls (bb_I b :: bb_I a :: st) M) = K n ls (bb_I (a - b) :: st) M := rfl
theorem bq_imul {a b : Int32} : bb_do C R K (bo_imul n ls (bb_I b :: bb_I a :: st) M) = K n ls (bb_I (a * b) :: st) M := rfl
theorem bq_iand {a b : Int32} : bb_do C R K (bo_iand n ls (bb_I b :: bb_I a :: st) M) = K n ls (bb_I (a &&& b) :: st) M := rfl
theorem bq_ior {a b : Int32} : bb_do C R K (bo_ior n ls (bb_I b :: bb_I a :: st) M) = K n ls (bb_I (a ||| b) :: st) M := rfl
theorem bq_ishl {a b : Int32} : bb_do C R K (bo_ishl n ls (bb_I b :: bb_I a :: st) M) = K n ls (bb_I (a <<< (b &&& 31)) :: st) M := rfl
theorem bq_ishr {a b : Int32} : bb_do C R K (bo_ishr n ls (bb_I b :: bb_I a :: st) M) = K n ls (bb_I (a >>> (b &&& 31)) :: st) M := rfl
theorem bq_iushr {a b : Int32} : bb_do C R K (bo_iushr n ls (bb_I b :: bb_I a :: st) M) = K n ls (bb_I ((a.toUInt32 >>> (b.toUInt32 &&& Int32.toUInt32 31)).toInt32) :: st) M := rfl
theorem bq_idiv {a b : Int32} : bb_do C R K (bo_idiv n ls (bb_I b :: bb_I a :: st) M) ↔ (b ≠ 0 ∧ K n ls (bb_I (a / b) :: st) M) := by
  show bb_do C R K (if b = 0 then none else bb_nx n ls (.inl (a / b) :: st) M) ↔ _
  by_cases h : b = 0
  · rw [if_pos h]; exact ⟨fun q => q.elim, fun q => (q.1 h).elim⟩
  · rw [if_neg h]; exact ⟨fun q => ⟨h, q⟩, fun q => q.2⟩
theorem bq_irem {a b : Int32} : bb_do C R K (bo_irem n ls (bb_I b :: bb_I a :: st) M) ↔ (b ≠ 0 ∧ K n ls (bb_I (a - a / b * b) :: st) M) := by
  show bb_do C R K (if b = 0 then none else bb_nx n ls (.inl (a - a / b * b) :: st) M) ↔ _
  by_cases h : b = 0
  · rw [if_pos h]; exact ⟨fun q => q.elim, fun q => (q.1 h).elim⟩
  · rw [if_neg h]; exact ⟨fun q => ⟨h, q⟩, fun q => q.2⟩
theorem bq_ineg {a : Int32} : bb_do C R K (bo_ineg n ls (bb_I a :: st) M) = K n ls (bb_I (-a) :: st) M := rfl
theorem bq_i2c {a : Int32} : bb_do C R K (bo_i2c n ls (bb_I a :: st) M) = K n ls (bb_I ((a.toUInt32 % 65536).toInt32) :: st) M := rfl
theorem bq_iabs {a : Int32} : bb_do C R K (bo_iabs n ls (bb_I a :: st) M) ↔ (bb_wt st ≤ 8 ∧ K n ls (bb_I (if 0 ≤ a then a else 0 - a) :: st) M) := bb_do_if
theorem bq_imin {a b : Int32} : bb_do C R K (bo_imin n ls (bb_I b :: bb_I a :: st) M) ↔ (bb_wt st ≤ 8 ∧ K n ls (bb_I (if b < a then b else a) :: st) M) := bb_do_if
theorem bq_imax {a b : Int32} : bb_do C R K (bo_imax n ls (bb_I b :: bb_I a :: st) M) ↔ (bb_wt st ≤ 8 ∧ K n ls (bb_I (if a < b then b else a) :: st) M) := bb_do_if
theorem bq_i2l {a : Int32} : bb_do C R K (bo_i2l n ls (bb_I a :: st) M) = K n ls (bb_J a.toInt64 :: st) M := rfl
theorem bq_dupI {a : Int32} : bb_do C R K (bo_dup n ls (bb_I a :: st) M) = K n ls (bb_I a :: bb_I a :: st) M := rfl
theorem bq_dupR {k i : Nat} : bb_do C R K (bo_dup n ls (bb_R k i :: st) M) = K n ls (bb_R k i :: bb_R k i :: st) M := rfl
theorem bq_dup2 {a : Int32} {k i : Nat} : bb_do C R K (bo_dup2 n ls (bb_I a :: bb_R k i :: st) M) = K n ls (bb_I a :: bb_R k i :: bb_I a :: bb_R k i :: st) M := rfl
theorem bq_pop {a : Int32} : bb_do C R K (bo_pop n ls (bb_I a :: st) M) = K n ls st M := rfl
theorem bq_goto {t : Nat} : bb_do C R K (bo_goto t ls st M) = K t ls st M := rfl
theorem bb_do_ite {c : Prop} [Decidable c] {x y : bb_Res} : bb_do C R K (if c then x else y) = if c then bb_do C R K x else bb_do C R K y := by
  by_cases h : c
  · rw [if_pos h, if_pos h]
  · rw [if_neg h, if_neg h]
theorem bq_ifeq {a : Int32} {t : Nat} : bb_do C R K (bo_ifeq t n ls (bb_I a :: st) M) = if a = 0 then K t ls st M else K n ls st M := bb_do_ite
theorem bq_ifne {a : Int32} {t : Nat} : bb_do C R K (bo_ifne t n ls (bb_I a :: st) M) = if a ≠ 0 then K t ls st M else K n ls st M := bb_do_ite
theorem bq_iflt {a : Int32} {t : Nat} : bb_do C R K (bo_iflt t n ls (bb_I a :: st) M) = if a < 0 then K t ls st M else K n ls st M := bb_do_ite
theorem bq_ifge {a : Int32} {t : Nat} : bb_do C R K (bo_ifge t n ls (bb_I a :: st) M) = if 0 ≤ a then K t ls st M else K n ls st M := bb_do_ite
theorem bq_ifgt {a : Int32} {t : Nat} : bb_do C R K (bo_ifgt t n ls (bb_I a :: st) M) = if 0 < a then K t ls st M else K n ls st M := bb_do_ite
theorem bq_ifle {a : Int32} {t : Nat} : bb_do C R K (bo_ifle t n ls (bb_I a :: st) M) = if a ≤ 0 then K t ls st M else K n ls st M := bb_do_ite
theorem bq_iceq {a b : Int32} {t : Nat} : bb_do C R K (bo_iceq t n ls (bb_I b :: bb_I a :: st) M) = if a = b then K t ls st M else K n ls st M := bb_do_ite
theorem bq_icne {a b : Int32} {t : Nat} : bb_do C R K (bo_icne t n ls (bb_I b :: bb_I a :: st) M) = if a ≠ b then K t ls st M else K n ls st M := bb_do_ite
theorem bq_iclt {a b : Int32} {t : Nat} : bb_do C R K (bo_iclt t n ls (bb_I b :: bb_I a :: st) M) = if a < b then K t ls st M else K n ls st M := bb_do_ite
theorem bq_icge {a b : Int32} {t : Nat} : bb_do C R K (bo_icge t n ls (bb_I b :: bb_I a :: st) M) = if b ≤ a then K t ls st M else K n ls st M := bb_do_ite
theorem bq_icgt {a b : Int32} {t : Nat} : bb_do C R K (bo_icgt t n ls (bb_I b :: bb_I a :: st) M) = if b < a then K t ls st M else K n ls st M := bb_do_ite
theorem bq_icle {a b : Int32} {t : Nat} : bb_do C R K (bo_icle t n ls (bb_I b :: bb_I a :: st) M) = if a ≤ b then K t ls st M else K n ls st M := bb_do_ite
theorem bq_sw0 {x : Int32} {d : Nat} : bb_do C R K (bo_sw [] d ls (bb_I x :: st) M) = K d ls st M := rfl
theorem bq_sw {x c : Int32} {t d : Nat} {r : List (Int32 × Nat)} : bb_do C R K (bo_sw ((c, t) :: r) d ls (bb_I x :: st) M) = if x = c then K t ls st M else bb_do C R K (bo_sw r d ls (bb_I x :: st) M) := bb_do_ite
theorem bq_getI {k sl i : Nat} : bb_do C R K (bo_getI k sl n ls (bb_R k i :: st) M) = K n ls (bb_I (M k i sl) :: st) M := by
  show bb_do C R K (if k = k then _ else _) = _
  rw [if_pos rfl]; rfl
theorem bq_getR {k k2 i : Nat} {g : Nat → Nat} : bb_do C R K (bo_getR k k2 g n ls (bb_R k i :: st) M) = K n ls (bb_R k2 (g i) :: st) M := by
  show bb_do C R K (if k = k then _ else _) = _
  rw [if_pos rfl]; rfl
theorem bq_putI {k sl i : Nat} {v : Int32} : bb_do C R K (bo_putI k sl n ls (bb_I v :: bb_R k i :: st) M) = K n ls st (bb_up M k i sl v) := by
  show bb_do C R K (if k = k then _ else _) = _
  rw [if_pos rfl]; rfl
theorem bq_putZ {k sl i : Nat} {v : Int32} : bb_do C R K (bo_putZ k sl n ls (bb_I v :: bb_R k i :: st) M) ↔ ((v = 0 ∨ v = 1) ∧ K n ls st (bb_up M k i sl v)) := by
  show bb_do C R K (if k = k ∧ (v = 0 ∨ v = 1) then bb_nx n ls st (bb_up M k i sl v) else none) ↔ _
  by_cases h : v = 0 ∨ v = 1
  · rw [if_pos ⟨rfl, h⟩]; exact ⟨fun q => ⟨h, q⟩, fun q => q.2⟩
  · rw [if_neg (fun q => h q.2)]; exact ⟨fun q => q.elim, fun q => (h q.1).elim⟩
theorem bq_getS {k : Nat} : bb_do C R K (bo_getS k n ls st M) = K n ls (bb_R k 0 :: st) M := rfl
theorem bq_iald {k i : Nat} {j : Int32} (hk : bb_ia k = true) : bb_do C R K (bo_iald n ls (bb_I j :: bb_R k i :: st) M) ↔ (vp_in j (bb_len k) ∧ K n ls (bb_I (M k i j.toNatClampNeg) :: st) M) := by
  refine bb_do_if.trans ⟨fun q => ⟨q.1.2, q.2⟩, fun q => ⟨⟨hk, q.1⟩, q.2⟩⟩
theorem bq_iast {k i : Nat} {j v : Int32} (hk : bb_ia k = true) (hk2 : k < 30) : bb_do C R K (bo_iast n ls (bb_I v :: bb_I j :: bb_R k i :: st) M) ↔ (vp_in j (bb_len k) ∧ K n ls st (bb_up M k i j.toNatClampNeg v)) := by
  refine bb_do_if.trans ⟨fun q => ⟨q.1.2, q.2⟩, fun q => ⟨⟨⟨hk, hk2⟩, q.1⟩, q.2⟩⟩
theorem bq_cald {i : Nat} {j : Int32} : bb_do C R K (bo_cald n ls (bb_I j :: bb_R 17 i :: st) M) ↔ (vp_in j 60 ∧ K n ls (bb_I (M 17 i j.toNatClampNeg) :: st) M) := by
  refine bb_do_if.trans ⟨fun q => ⟨q.1.2, q.2⟩, fun q => ⟨⟨rfl, q.1⟩, q.2⟩⟩
theorem bq_cast {i : Nat} {j v : Int32} : bb_do C R K (bo_cast n ls (bb_I v :: bb_I j :: bb_R 17 i :: st) M) ↔ (vp_in j 60 ∧ K n ls st (bb_up M 17 i j.toNatClampNeg (vp_nar .char v))) := by
  refine bb_do_if.trans ⟨fun q => ⟨q.1.2, q.2⟩, fun q => ⟨⟨rfl, q.1⟩, q.2⟩⟩
theorem bq_aald {i : Nat} {j : Int32} : bb_do C R K (bo_aald n ls (bb_I j :: bb_R 20 i :: st) M) ↔ (vp_in j 4 ∧ K n ls (bb_R 4 (3 + j.toNatClampNeg) :: st) M) := by
  refine bb_do_if.trans ⟨fun q => ⟨q.1.2, q.2⟩, fun q => ⟨⟨rfl, q.1⟩, q.2⟩⟩
theorem bq_alen {k i : Nat} (hk : bb_ia k = true) : bb_do C R K (bo_alen n ls (bb_R k i :: st) M) ↔ K n ls (bb_I (Int32.ofNat (bb_len k)) :: st) M := by
  refine bb_do_if.trans ⟨fun q => q.2, fun q => ⟨hk, q⟩⟩
theorem bq_acopy {k0 i0 k1 i1 : Nat} {sp dp q : Int32} (h0 : bb_ia k0 = true) (h1 : k0 < 30) (h2 : bb_ia k1 = true) (h3 : k1 < 30) : bb_do C R K (bo_acopy n ls (bb_I q :: bb_I dp :: bb_R k1 i1 :: bb_I sp :: bb_R k0 i0 :: st) M) ↔ ((¬ sp < 0 ∧ ¬ dp < 0 ∧ ¬ q < 0) ∧ (sp.toNatClampNeg + q.toNatClampNeg ≤ bb_len k0 ∧ dp.toNatClampNeg + q.toNatClampNeg ≤ bb_len k1) ∧ bb_wt st ≤ 8 ∧ K n ls st (bb_cp M k0 i0 k1 i1 sp.toNatClampNeg dp.toNatClampNeg q.toNatClampNeg)) := by
  refine bb_do_if.trans ⟨fun q => ⟨q.1.2.1, q.1.2.2.1, q.1.2.2.2, q.2⟩, fun q => ⟨⟨⟨⟨h0, h1⟩, h2, h3⟩, q.1, q.2.1, q.2.2.1⟩, q.2.2.2⟩⟩
theorem bq_call_0 {y : Nat} : bb_do C R K (bo_call y 0 n ls (st) M) ↔ (((bb_wt st ≤ 8 ∧ bb_nj [] = true)) ∧ bb_call C y [] M (fun r M2 => K n ls (r.toList ++ st) M2)) := by
  refine bb_do_if.trans ⟨fun q => ⟨⟨q.1.1.2, q.1.2⟩, q.2⟩, fun q => ⟨⟨⟨?_, q.1.1⟩, q.1.2⟩, q.2⟩⟩
  simp
theorem bq_call_1 {x0 : bb_V} {y : Nat} : bb_do C R K (bo_call y 1 n ls (x0 :: st) M) ↔ (((bb_wt st ≤ 8 ∧ bb_nj [x0] = true)) ∧ bb_call C y [x0] M (fun r M2 => K n ls (r.toList ++ st) M2)) := by
  refine bb_do_if.trans ⟨fun q => ⟨⟨q.1.1.2, q.1.2⟩, q.2⟩, fun q => ⟨⟨⟨?_, q.1.1⟩, q.1.2⟩, q.2⟩⟩
  simp
theorem bq_call_2 {x0 x1 : bb_V} {y : Nat} : bb_do C R K (bo_call y 2 n ls (x1 :: x0 :: st) M) ↔ (((bb_wt st ≤ 8 ∧ bb_nj [x1, x0] = true)) ∧ bb_call C y [x0, x1] M (fun r M2 => K n ls (r.toList ++ st) M2)) := by
  refine bb_do_if.trans ⟨fun q => ⟨⟨q.1.1.2, q.1.2⟩, q.2⟩, fun q => ⟨⟨⟨?_, q.1.1⟩, q.1.2⟩, q.2⟩⟩
  simp
theorem bq_call_3 {x0 x1 x2 : bb_V} {y : Nat} : bb_do C R K (bo_call y 3 n ls (x2 :: x1 :: x0 :: st) M) ↔ (((bb_wt st ≤ 8 ∧ bb_nj [x2, x1, x0] = true)) ∧ bb_call C y [x0, x1, x2] M (fun r M2 => K n ls (r.toList ++ st) M2)) := by
  refine bb_do_if.trans ⟨fun q => ⟨⟨q.1.1.2, q.1.2⟩, q.2⟩, fun q => ⟨⟨⟨?_, q.1.1⟩, q.1.2⟩, q.2⟩⟩
  simp
theorem bq_call_4 {x0 x1 x2 x3 : bb_V} {y : Nat} : bb_do C R K (bo_call y 4 n ls (x3 :: x2 :: x1 :: x0 :: st) M) ↔ (((bb_wt st ≤ 8 ∧ bb_nj [x3, x2, x1, x0] = true)) ∧ bb_call C y [x0, x1, x2, x3] M (fun r M2 => K n ls (r.toList ++ st) M2)) := by
  refine bb_do_if.trans ⟨fun q => ⟨⟨q.1.1.2, q.1.2⟩, q.2⟩, fun q => ⟨⟨⟨?_, q.1.1⟩, q.1.2⟩, q.2⟩⟩
  simp
theorem bq_call_5 {x0 x1 x2 x3 x4 : bb_V} {y : Nat} : bb_do C R K (bo_call y 5 n ls (x4 :: x3 :: x2 :: x1 :: x0 :: st) M) ↔ (((bb_wt st ≤ 8 ∧ bb_nj [x4, x3, x2, x1, x0] = true)) ∧ bb_call C y [x0, x1, x2, x3, x4] M (fun r M2 => K n ls (r.toList ++ st) M2)) := by
  refine bb_do_if.trans ⟨fun q => ⟨⟨q.1.1.2, q.1.2⟩, q.2⟩, fun q => ⟨⟨⟨?_, q.1.1⟩, q.1.2⟩, q.2⟩⟩
  simp
theorem bq_call_6 {x0 x1 x2 x3 x4 x5 : bb_V} {y : Nat} : bb_do C R K (bo_call y 6 n ls (x5 :: x4 :: x3 :: x2 :: x1 :: x0 :: st) M) ↔ (((bb_wt st ≤ 8 ∧ bb_nj [x5, x4, x3, x2, x1, x0] = true)) ∧ bb_call C y [x0, x1, x2, x3, x4, x5] M (fun r M2 => K n ls (r.toList ++ st) M2)) := by
  refine bb_do_if.trans ⟨fun q => ⟨⟨q.1.1.2, q.1.2⟩, q.2⟩, fun q => ⟨⟨⟨?_, q.1.1⟩, q.1.2⟩, q.2⟩⟩
  simp
theorem bq_call_7 {x0 x1 x2 x3 x4 x5 x6 : bb_V} {y : Nat} : bb_do C R K (bo_call y 7 n ls (x6 :: x5 :: x4 :: x3 :: x2 :: x1 :: x0 :: st) M) ↔ (((bb_wt st ≤ 8 ∧ bb_nj [x6, x5, x4, x3, x2, x1, x0] = true)) ∧ bb_call C y [x0, x1, x2, x3, x4, x5, x6] M (fun r M2 => K n ls (r.toList ++ st) M2)) := by
  refine bb_do_if.trans ⟨fun q => ⟨⟨q.1.1.2, q.1.2⟩, q.2⟩, fun q => ⟨⟨⟨?_, q.1.1⟩, q.1.2⟩, q.2⟩⟩
  simp
theorem bq_callv_1 {y k i : Nat} : bb_do C R K (bo_callv y k 1 n ls (bb_R k i :: st) M) ↔ ((bb_wt st ≤ 8 ∧ bb_nj [] = true) ∧ bb_call C y [bb_R k i] M (fun r M2 => K n ls (r.toList ++ st) M2)) := by
  refine bb_do_if.trans ⟨fun q => ⟨⟨q.1.2.1.2, q.1.2.2⟩, q.2⟩, fun q => ⟨⟨rfl, ⟨?_, q.1.1⟩, q.1.2⟩, q.2⟩⟩
  simp
theorem bq_callv_2 {x1 : bb_V} {y k i : Nat} : bb_do C R K (bo_callv y k 2 n ls (x1 :: bb_R k i :: st) M) ↔ ((bb_wt st ≤ 8 ∧ bb_nj [x1] = true) ∧ bb_call C y [bb_R k i, x1] M (fun r M2 => K n ls (r.toList ++ st) M2)) := by
  refine bb_do_if.trans ⟨fun q => ⟨⟨q.1.2.1.2, q.1.2.2⟩, q.2⟩, fun q => ⟨⟨rfl, ⟨?_, q.1.1⟩, q.1.2⟩, q.2⟩⟩
  simp
theorem bq_callv_3 {x1 x2 : bb_V} {y k i : Nat} : bb_do C R K (bo_callv y k 3 n ls (x2 :: x1 :: bb_R k i :: st) M) ↔ ((bb_wt st ≤ 8 ∧ bb_nj [x2, x1] = true) ∧ bb_call C y [bb_R k i, x1, x2] M (fun r M2 => K n ls (r.toList ++ st) M2)) := by
  refine bb_do_if.trans ⟨fun q => ⟨⟨q.1.2.1.2, q.1.2.2⟩, q.2⟩, fun q => ⟨⟨rfl, ⟨?_, q.1.1⟩, q.1.2⟩, q.2⟩⟩
  simp
theorem bq_callv_4 {x1 x2 x3 : bb_V} {y k i : Nat} : bb_do C R K (bo_callv y k 4 n ls (x3 :: x2 :: x1 :: bb_R k i :: st) M) ↔ ((bb_wt st ≤ 8 ∧ bb_nj [x3, x2, x1] = true) ∧ bb_call C y [bb_R k i, x1, x2, x3] M (fun r M2 => K n ls (r.toList ++ st) M2)) := by
  refine bb_do_if.trans ⟨fun q => ⟨⟨q.1.2.1.2, q.1.2.2⟩, q.2⟩, fun q => ⟨⟨rfl, ⟨?_, q.1.1⟩, q.1.2⟩, q.2⟩⟩
  simp
theorem bq_callv_5 {x1 x2 x3 x4 : bb_V} {y k i : Nat} : bb_do C R K (bo_callv y k 5 n ls (x4 :: x3 :: x2 :: x1 :: bb_R k i :: st) M) ↔ ((bb_wt st ≤ 8 ∧ bb_nj [x4, x3, x2, x1] = true) ∧ bb_call C y [bb_R k i, x1, x2, x3, x4] M (fun r M2 => K n ls (r.toList ++ st) M2)) := by
  refine bb_do_if.trans ⟨fun q => ⟨⟨q.1.2.1.2, q.1.2.2⟩, q.2⟩, fun q => ⟨⟨rfl, ⟨?_, q.1.1⟩, q.1.2⟩, q.2⟩⟩
  simp
theorem bq_callv_6 {x1 x2 x3 x4 x5 : bb_V} {y k i : Nat} : bb_do C R K (bo_callv y k 6 n ls (x5 :: x4 :: x3 :: x2 :: x1 :: bb_R k i :: st) M) ↔ ((bb_wt st ≤ 8 ∧ bb_nj [x5, x4, x3, x2, x1] = true) ∧ bb_call C y [bb_R k i, x1, x2, x3, x4, x5] M (fun r M2 => K n ls (r.toList ++ st) M2)) := by
  refine bb_do_if.trans ⟨fun q => ⟨⟨q.1.2.1.2, q.1.2.2⟩, q.2⟩, fun q => ⟨⟨rfl, ⟨?_, q.1.1⟩, q.1.2⟩, q.2⟩⟩
  simp
theorem bq_callv_7 {x1 x2 x3 x4 x5 x6 : bb_V} {y k i : Nat} : bb_do C R K (bo_callv y k 7 n ls (x6 :: x5 :: x4 :: x3 :: x2 :: x1 :: bb_R k i :: st) M) ↔ ((bb_wt st ≤ 8 ∧ bb_nj [x6, x5, x4, x3, x2, x1] = true) ∧ bb_call C y [bb_R k i, x1, x2, x3, x4, x5, x6] M (fun r M2 => K n ls (r.toList ++ st) M2)) := by
  refine bb_do_if.trans ⟨fun q => ⟨⟨q.1.2.1.2, q.1.2.2⟩, q.2⟩, fun q => ⟨⟨rfl, ⟨?_, q.1.1⟩, q.1.2⟩, q.2⟩⟩
  simp
theorem bq_ret : bb_do C R K (bo_ret ls [] M) = R none M := rfl
theorem bq_iret {v : Int32} : bb_do C R K (bo_iret ls [bb_I v] M) = R (some (bb_I v)) M := rfl
theorem bq_zret {v : Int32} : bb_do C R K (bo_zret ls [bb_I v] M) ↔ ((v = 0 ∨ v = 1) ∧ R (some (bb_I v)) M) := bb_do_if
theorem bq_aret {k i : Nat} : bb_do C R K (bo_aret ls [bb_R k i] M) = R (some (bb_R k i)) M := rfl
end BQ
