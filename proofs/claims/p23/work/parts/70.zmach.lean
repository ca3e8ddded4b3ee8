/-! THE LAW'S MACHINE: two beaches as states, a script as a function -/
abbrev z_T : Type := bs_S × bs_S
abbrev z_Res : Type := Option ((Nat × List bb_V × List bb_V) ⊕ (Int32 ⊕ (Nat × List bb_V × Nat × List bb_V × List bb_V)))
abbrev z_O : Type := List bb_V → List bb_V → z_Res
abbrev z_K : Type := Nat → List bb_V → List bb_V → z_T → Prop
abbrev z_P : Type := Int32 → z_T → Prop
abbrev z_C : Type := Nat → List bb_V → z_T → Int32 → z_T → Prop
def z_nx (n : Nat) (ls st : List bb_V) : z_Res := some (.inl (n, ls, st))
def z_rt (v : Int32) : z_Res := some (.inr (.inl v))
def z_cl (y : Nat) (as : List bb_V) (n : Nat) (ls st : List bb_V) : z_Res := some (.inr (.inr (y, as, n, ls, st)))
def z_call (C : z_C) (y : Nat) (as : List bb_V) (T : z_T) (k : z_P) : Prop := ∃ r T', C y as T r T' ∧ k r T'
def z_do (C : z_C) (R : z_P) (K : z_K) (T : z_T) : z_Res → Prop
  | none => False
  | some (.inl (n, ls, st)) => K n ls st T
  | some (.inr (.inl v)) => R v T
  | some (.inr (.inr (y, as, n, ls, st))) => z_call C y as T (fun r T' => K n ls (bb_I r :: st) T')
theorem z_do_mono {C : z_C} {R : z_P} {K K' : z_K} {T : z_T} {x : z_Res} (h : z_do C R K T x) (hk : ∀ pc ls st T, K pc ls st T → K' pc ls st T) : z_do C R K' T x := by
  match x, h with
  | none, h => exact h
  | some (.inl (n, ls, st)), h => exact hk _ _ _ _ h
  | some (.inr (.inl v)), h => exact h
  | some (.inr (.inr (y, as, n, ls, st))), h =>
    obtain ⟨r, T', h1, h2⟩ := h
    exact ⟨r, T', h1, hk _ _ _ _ h2⟩
def z_Y (C : z_C) (cd : Nat → z_O) (R : z_P) : z_K := fun pc ls st T => ∀ P : z_K, (∀ pc ls st T, z_do C R P T (cd pc ls st) → P pc ls st T) → P pc ls st T
theorem z_Y_of {C : z_C} {cd : Nat → z_O} {R : z_P} {pc : Nat} {ls st : List bb_V} {T : z_T} (h : z_do C R (z_Y C cd R) T (cd pc ls st)) : z_Y C cd R pc ls st T :=
  fun P hP => hP _ _ _ _ (z_do_mono h (fun _ _ _ _ hh => hh P hP))
theorem z_Y_eq {C : z_C} {cd : Nat → z_O} {R : z_P} {pc : Nat} {ls st : List bb_V} {T : z_T} : z_Y C cd R pc ls st T ↔ z_do C R (z_Y C cd R) T (cd pc ls st) :=
  ⟨fun h => h (fun pc ls st T => z_do C R (z_Y C cd R) T (cd pc ls st)) (fun _ _ _ _ h' => z_do_mono h' (fun _ _ _ _ hh => z_Y_of hh)), z_Y_of⟩
theorem z_Y_at {C : z_C} {cd : Nat → z_O} {R : z_P} {pc : Nat} {ls st : List bb_V} {T : z_T} (o : z_O) (e : cd pc = o) : z_Y C cd R pc ls st T ↔ z_do C R (z_Y C cd R) T (o ls st) := by rw [← e]; exact z_Y_eq
def z_det (C : z_C) : Prop := ∀ y as T r1 T1 r2 T2, C y as T r1 T1 → C y as T r2 T2 → r1 = r2 ∧ T1 = T2
theorem z_Y_both {C : z_C} (hC : z_det C) {cd : Nat → z_O} {R1 R2 : z_P} {pc : Nat} {ls st : List bb_V} {T : z_T} (h1 : z_Y C cd R1 pc ls st T) (h2 : z_Y C cd R2 pc ls st T) : ∃ r T', R1 r T' ∧ R2 r T' := by
  refine h1 (fun pc ls st T => z_Y C cd R2 pc ls st T → ∃ r T', R1 r T' ∧ R2 r T') ?_ h2
  intro pc ls st T h h2
  rw [z_Y_eq] at h2
  match hx : cd pc ls st, h, h2 with
  | none, h, _ => exact h.elim
  | some (.inl (n, ls, st)), h, h2 => exact h h2
  | some (.inr (.inl r)), h, h2 => exact ⟨r, T, h, h2⟩
  | some (.inr (.inr (y, as, n, ls, st))), h, h2 =>
    obtain ⟨r1, T1, a1, b1⟩ := h
    obtain ⟨r2, T2, a2, b2⟩ := h2
    obtain ⟨rfl, rfl⟩ := hC _ _ _ _ _ _ _ a1 a2
    exact b1 b2
/-- a method of the class: its number for the law, what it answers and what is after it -/
def z_api (S : bs_S) : Nat → List bb_V → Option (Int32 × bs_S)
  | 20, [.inl r, .inl c, .inl v] => some (sp_dump S r c v)
  | 21, [.inl v] => some (sp_setLevel S v)
  | 22, [.inl w, .inl v] => some (sp_set S w v)
  | 23, [.inl r, .inl v] => some (sp_wave S r v)
  | 24, [.inl lo, .inl hi] => some (sp_strike S lo hi)
  | 25, [.inl x] => some (sp_run S x)
  | 26, [] => some (sp_settle S)
  | 27, [] => some (sp_undo S)
  | 28, [.inl r, .inl c, .inl w] => some (sp_cell S r c w)
  | 29, [.inl r, .inl w] => some (sp_row S r w)
  | 30, [.inl p, .inl y] => some (sp_waiting S p y)
  | 31, [.inl p, .inl w] => some (sp_ended S p w)
  | 32, [.inl r, .inl v, .inl w] => some (sp_would S r v w)
  | 33, [.inl x, .inl y] => some (sp_sand S x y)
  | 34, [.inl w] => some (sp_count S w)
  | _, _ => none
/-- the number of the class's method -/
def z_id : Nat → Nat
  | 20 => 2 | 21 => 3 | 22 => 4 | 23 => 5 | 24 => 6 | 25 => 7 | 26 => 8 | 27 => 9 | 28 => 10 | 29 => 11 | 30 => 12 | 31 => 13 | 32 => 14 | 33 => 15 | 34 => 16
  | _ => 0
def z_base (F : Int32 → Int32) (y : Nat) (as : List bb_V) (T : z_T) : Option (Int32 × z_T) := match as with
  | .inr (.inr (.inl (40, 0))) :: t => (z_api T.1 y t).map (fun o => (o.1, (o.2, T.2)))
  | .inr (.inr (.inl (41, 0))) :: t => (z_api T.2 y t).map (fun o => (o.1, (T.1, o.2)))
  | [.inr (.inr (.inl (42, 0))), .inl k] => if y = 0 ∧ 0 ≤ k then some (F k, T) else none
  | _ => none
def z_Cl (pg : Nat → Nat → z_O) (ml : Nat → Nat) (F : Int32 → Int32) : Nat → z_C
  | 0 => fun y as T r T' => z_base F y as T = some (r, T')
  | d + 1 => fun y as T r T' => if 1 ≤ y ∧ y < 9 then z_Y (z_Cl pg ml F d) (pg y) (fun r' T2 => r' = r ∧ T2 = T') 0 (bb_lo (ml y) as) [] T else z_base F y as T = some (r, T')
theorem z_Cl_det (pg : Nat → Nat → z_O) (ml : Nat → Nat) (F : Int32 → Int32) : ∀ d, z_det (z_Cl pg ml F d)
  | 0 => fun y as T r1 T1 r2 T2 h1 h2 => by
    have e := Option.some.inj ((show z_base F y as T = _ from h1).symm.trans (show z_base F y as T = _ from h2))
    cases e
    exact ⟨rfl, rfl⟩
  | d + 1 => fun y as T r1 T1 r2 T2 h1 h2 => by
    unfold z_Cl at h1 h2
    by_cases hy : 1 ≤ y ∧ y < 9
    · rw [if_pos hy] at h1 h2
      obtain ⟨r, T', ⟨g1, g2⟩, g3, g4⟩ := z_Y_both (z_Cl_det pg ml F d) h1 h2
      exact ⟨g1.symm.trans g3, g2.symm.trans g4⟩
    · rw [if_neg hy] at h1 h2
      have e := Option.some.inj (h1.symm.trans h2)
      cases e
      exact ⟨rfl, rfl⟩
theorem z_call_iff {C : z_C} (hC : z_det C) {y : Nat} {as : List bb_V} {T T' : z_T} {r : Int32} {k : z_P} (h : C y as T r T') : z_call C y as T k ↔ k r T' := by
  refine ⟨fun ⟨r2, T2, h2, h3⟩ => ?_, fun h3 => ⟨r, T', h, h3⟩⟩
  obtain ⟨rfl, rfl⟩ := hC _ _ _ _ _ _ _ h h2
  exact h3
theorem z_Cl_base {pg : Nat → Nat → z_O} {ml : Nat → Nat} {F : Int32 → Int32} {y : Nat} {as : List bb_V} {T T' : z_T} {r : Int32} (hy : ¬ (1 ≤ y ∧ y < 9)) (h : z_base F y as T = some (r, T')) : ∀ d, z_Cl pg ml F d y as T r T'
  | 0 => h
  | d + 1 => by
    unfold z_Cl
    rw [if_neg hy]
    exact h
/-! operations -/
def zo_fail : z_O := fun _ _ => none
def zo_iload (i n : Nat) : z_O := fun ls st => match ls[i]? with | some (.inl x) => z_nx n ls (.inl x :: st) | _ => none
def zo_aload (i n : Nat) : z_O := fun ls st => match ls[i]? with | some (.inr (.inr (.inl r))) => z_nx n ls (.inr (.inr (.inl r)) :: st) | _ => none
def zo_istore (i n : Nat) : z_O := fun ls st => match ls[i]?, st with | some _, .inl x :: st => z_nx n (ls.set i (.inl x)) st | _, _ => none
def zo_iinc (i : Nat) (v : Int32) (n : Nat) : z_O := fun ls st => match ls[i]? with | some (.inl x) => z_nx n (ls.set i (.inl (x + v))) st | _ => none
def zo_const (v : Int32) (n : Nat) : z_O := fun ls st => z_nx n ls (.inl v :: st)
def zo_iadd (n : Nat) : z_O := fun ls st => match st with | .inl b :: .inl a :: st => z_nx n ls (.inl (a + b) :: st) | _ => none
def zo_isub (n : Nat) : z_O := fun ls st => match st with | .inl b :: .inl a :: st => z_nx n ls (.inl (a - b) :: st) | _ => none
def zo_imul (n : Nat) : z_O := fun ls st => match st with | .inl b :: .inl a :: st => z_nx n ls (.inl (a * b) :: st) | _ => none
def zo_iand (n : Nat) : z_O := fun ls st => match st with | .inl b :: .inl a :: st => z_nx n ls (.inl (a &&& b) :: st) | _ => none
def zo_ior (n : Nat) : z_O := fun ls st => match st with | .inl b :: .inl a :: st => z_nx n ls (.inl (a ||| b) :: st) | _ => none
def zo_ishl (n : Nat) : z_O := fun ls st => match st with | .inl b :: .inl a :: st => z_nx n ls (.inl (a <<< (b &&& 31)) :: st) | _ => none
def zo_ishr (n : Nat) : z_O := fun ls st => match st with | .inl b :: .inl a :: st => z_nx n ls (.inl (a >>> (b &&& 31)) :: st) | _ => none
def zo_irem (n : Nat) : z_O := fun ls st => match st with | .inl b :: .inl a :: st => if b = 0 then none else z_nx n ls (.inl (a - a / b * b) :: st) | _ => none
def zo_dup (n : Nat) : z_O := fun ls st => match st with | .inl a :: st => z_nx n ls (.inl a :: .inl a :: st) | _ => none
def zo_pop (n : Nat) : z_O := fun ls st => match st with | .inl _ :: st => z_nx n ls st | _ => none
def zo_goto (t : Nat) : z_O := fun ls st => z_nx t ls st
def zo_ifeq (t n : Nat) : z_O := fun ls st => match st with | .inl a :: st => if a = 0 then z_nx t ls st else z_nx n ls st | _ => none
def zo_ifne (t n : Nat) : z_O := fun ls st => match st with | .inl a :: st => if a ≠ 0 then z_nx t ls st else z_nx n ls st | _ => none
def zo_iflt (t n : Nat) : z_O := fun ls st => match st with | .inl a :: st => if a < 0 then z_nx t ls st else z_nx n ls st | _ => none
def zo_ifge (t n : Nat) : z_O := fun ls st => match st with | .inl a :: st => if 0 ≤ a then z_nx t ls st else z_nx n ls st | _ => none
def zo_ifgt (t n : Nat) : z_O := fun ls st => match st with | .inl a :: st => if 0 < a then z_nx t ls st else z_nx n ls st | _ => none
def zo_ifle (t n : Nat) : z_O := fun ls st => match st with | .inl a :: st => if a ≤ 0 then z_nx t ls st else z_nx n ls st | _ => none
def zo_iceq (t n : Nat) : z_O := fun ls st => match st with | .inl b :: .inl a :: st => if a = b then z_nx t ls st else z_nx n ls st | _ => none
def zo_icne (t n : Nat) : z_O := fun ls st => match st with | .inl b :: .inl a :: st => if a ≠ b then z_nx t ls st else z_nx n ls st | _ => none
def zo_iclt (t n : Nat) : z_O := fun ls st => match st with | .inl b :: .inl a :: st => if a < b then z_nx t ls st else z_nx n ls st | _ => none
def zo_icge (t n : Nat) : z_O := fun ls st => match st with | .inl b :: .inl a :: st => if b ≤ a then z_nx t ls st else z_nx n ls st | _ => none
def zo_icgt (t n : Nat) : z_O := fun ls st => match st with | .inl b :: .inl a :: st => if b < a then z_nx t ls st else z_nx n ls st | _ => none
def zo_icle (t n : Nat) : z_O := fun ls st => match st with | .inl b :: .inl a :: st => if a ≤ b then z_nx t ls st else z_nx n ls st | _ => none
def z_sw (x : Int32) (ls st : List bb_V) (d : Nat) : List (Int32 × Nat) → z_Res
  | [] => z_nx d ls st
  | (c, t) :: r => if x = c then z_nx t ls st else z_sw x ls st d r
def zo_sw (cs : List (Int32 × Nat)) (d : Nat) : z_O := fun ls st => match st with | .inl x :: st => z_sw x ls st d cs | _ => none
def z_int : List bb_V → Bool
  | [] => true
  | .inl _ :: t => z_int t
  | _ => false
/-- a call of one of the law's own -/
def zo_call (y a n : Nat) : z_O := fun ls st => if ((1 ≤ y ∧ y < 9) ∧ a ≤ st.length ∧ bb_wt (st.drop a) ≤ 8) ∧ bb_nj (st.take a) = true then z_cl y (st.take a).reverse n ls (st.drop a) else none
/-- a call of the script's own cell -/
def zo_callc (n : Nat) : z_O := fun ls st => match st with | .inl k :: .inr (.inr (.inl (42, 0))) :: st => if bb_wt st ≤ 8 then z_cl 0 [.inr (.inr (.inl (42, 0))), .inl k] n ls st else none | _ => none
/-- a call of a method of a beach -/
def zo_callv (y a n : Nat) : z_O := fun ls st => match st.drop (a - 1) with
  | .inr (.inr (.inl (k', i))) :: r => if (((k' = 40 ∨ k' = 41) ∧ i = 0) ∧ 20 ≤ y ∧ y < 35) ∧ (a - 1 < st.length ∧ bb_wt r ≤ 8) ∧ z_int (st.take (a - 1)) = true then z_cl y (.inr (.inr (.inl (k', i))) :: (st.take (a - 1)).reverse) n ls r else none
  | _ => none
def zo_iret : z_O := fun _ st => match st with | [.inl v] => z_rt v | _ => none
def zo_zret : z_O := fun _ st => match st with | [.inl v] => if v = 0 ∨ v = 1 then z_rt v else none | _ => none
/-! their equations -/
section ZQ
variable {C : z_C} {R : z_P} {K : z_K} {T : z_T} {ls st : List bb_V} {n : Nat}
theorem z_do_if {c : Prop} [Decidable c] {x : z_Res} : z_do C R K T (if c then x else none) ↔ (c ∧ z_do C R K T x) := by
  by_cases h : c
  · rw [if_pos h]; exact ⟨fun q => ⟨h, q⟩, fun q => q.2⟩
  · rw [if_neg h]; exact ⟨fun q => q.elim, fun q => (h q.1).elim⟩
theorem z_do_ite {c : Prop} [Decidable c] {x y : z_Res} : z_do C R K T (if c then x else y) = if c then z_do C R K T x else z_do C R K T y := by
  by_cases h : c
  · rw [if_pos h, if_pos h]
  · rw [if_neg h, if_neg h]
theorem zq_irem {a b : Int32} : z_do C R K T (zo_irem n ls (bb_I b :: bb_I a :: st)) ↔ (b ≠ 0 ∧ K n ls (bb_I (a - a / b * b) :: st) T) := by
  show z_do C R K T (if b = 0 then none else z_nx n ls (.inl (a - a / b * b) :: st)) ↔ _
  by_cases h : b = 0
  · rw [if_pos h]; exact ⟨fun q => q.elim, fun q => (q.1 h).elim⟩
  · rw [if_neg h]; exact ⟨fun q => ⟨h, q⟩, fun q => q.2⟩
theorem zq_sw0 {x : Int32} {d : Nat} : z_do C R K T (zo_sw [] d ls (bb_I x :: st)) = K d ls st T := rfl
theorem zq_sw {x c : Int32} {t d : Nat} {r : List (Int32 × Nat)} : z_do C R K T (zo_sw ((c, t) :: r) d ls (bb_I x :: st)) = if x = c then K t ls st T else z_do C R K T (zo_sw r d ls (bb_I x :: st)) := z_do_ite
theorem zq_zret {v : Int32} : z_do C R K T (zo_zret ls [bb_I v]) ↔ ((v = 0 ∨ v = 1) ∧ R v T) := z_do_if
theorem zq_callc {k : Int32} : z_do C R K T (zo_callc n ls (bb_I k :: bb_R 42 0 :: st)) ↔ (bb_wt st ≤ 8 ∧ z_call C 0 [bb_R 42 0, bb_I k] T (fun r T2 => K n ls (bb_I r :: st) T2)) := z_do_if
theorem zq_call_0 {y : Nat} (hy : 1 ≤ y ∧ y < 9) : z_do C R K T (zo_call y 0 n ls (st)) ↔ ((bb_wt st ≤ 8 ∧ bb_nj [] = true) ∧ z_call C y [] T (fun r T2 => K n ls (bb_I r :: st) T2)) := by
  refine z_do_if.trans ⟨fun q => ⟨⟨q.1.1.2.2, q.1.2⟩, q.2⟩, fun q => ⟨⟨⟨hy, ?_, q.1.1⟩, q.1.2⟩, q.2⟩⟩
  simp
theorem zq_call_1 {x0 : bb_V} {y : Nat} (hy : 1 ≤ y ∧ y < 9) : z_do C R K T (zo_call y 1 n ls (x0 :: st)) ↔ ((bb_wt st ≤ 8 ∧ bb_nj [x0] = true) ∧ z_call C y [x0] T (fun r T2 => K n ls (bb_I r :: st) T2)) := by
  refine z_do_if.trans ⟨fun q => ⟨⟨q.1.1.2.2, q.1.2⟩, q.2⟩, fun q => ⟨⟨⟨hy, ?_, q.1.1⟩, q.1.2⟩, q.2⟩⟩
  simp
theorem zq_call_2 {x0 x1 : bb_V} {y : Nat} (hy : 1 ≤ y ∧ y < 9) : z_do C R K T (zo_call y 2 n ls (x1 :: x0 :: st)) ↔ ((bb_wt st ≤ 8 ∧ bb_nj [x1, x0] = true) ∧ z_call C y [x0, x1] T (fun r T2 => K n ls (bb_I r :: st) T2)) := by
  refine z_do_if.trans ⟨fun q => ⟨⟨q.1.1.2.2, q.1.2⟩, q.2⟩, fun q => ⟨⟨⟨hy, ?_, q.1.1⟩, q.1.2⟩, q.2⟩⟩
  simp
theorem zq_call_3 {x0 x1 x2 : bb_V} {y : Nat} (hy : 1 ≤ y ∧ y < 9) : z_do C R K T (zo_call y 3 n ls (x2 :: x1 :: x0 :: st)) ↔ ((bb_wt st ≤ 8 ∧ bb_nj [x2, x1, x0] = true) ∧ z_call C y [x0, x1, x2] T (fun r T2 => K n ls (bb_I r :: st) T2)) := by
  refine z_do_if.trans ⟨fun q => ⟨⟨q.1.1.2.2, q.1.2⟩, q.2⟩, fun q => ⟨⟨⟨hy, ?_, q.1.1⟩, q.1.2⟩, q.2⟩⟩
  simp
theorem zq_call_4 {x0 x1 x2 x3 : bb_V} {y : Nat} (hy : 1 ≤ y ∧ y < 9) : z_do C R K T (zo_call y 4 n ls (x3 :: x2 :: x1 :: x0 :: st)) ↔ ((bb_wt st ≤ 8 ∧ bb_nj [x3, x2, x1, x0] = true) ∧ z_call C y [x0, x1, x2, x3] T (fun r T2 => K n ls (bb_I r :: st) T2)) := by
  refine z_do_if.trans ⟨fun q => ⟨⟨q.1.1.2.2, q.1.2⟩, q.2⟩, fun q => ⟨⟨⟨hy, ?_, q.1.1⟩, q.1.2⟩, q.2⟩⟩
  simp
theorem zq_callv_1 {y k : Nat} (hk : k = 40 ∨ k = 41) (hy : 20 ≤ y ∧ y < 35) : z_do C R K T (zo_callv y 1 n ls (bb_R k 0 :: st)) ↔ (bb_wt st ≤ 8 ∧ z_call C y [bb_R k 0] T (fun r T2 => K n ls (bb_I r :: st) T2)) := by
  refine z_do_if.trans ⟨fun q => ⟨q.1.2.1.2, q.2⟩, fun q => ⟨⟨⟨⟨hk, rfl⟩, hy⟩, ⟨?_, q.1⟩, rfl⟩, q.2⟩⟩
  simp
theorem zq_callv_2 {x1 : Int32} {y k : Nat} (hk : k = 40 ∨ k = 41) (hy : 20 ≤ y ∧ y < 35) : z_do C R K T (zo_callv y 2 n ls (bb_I x1 :: bb_R k 0 :: st)) ↔ (bb_wt st ≤ 8 ∧ z_call C y [bb_R k 0, bb_I x1] T (fun r T2 => K n ls (bb_I r :: st) T2)) := by
  refine z_do_if.trans ⟨fun q => ⟨q.1.2.1.2, q.2⟩, fun q => ⟨⟨⟨⟨hk, rfl⟩, hy⟩, ⟨?_, q.1⟩, rfl⟩, q.2⟩⟩
  simp
theorem zq_callv_3 {x1 x2 : Int32} {y k : Nat} (hk : k = 40 ∨ k = 41) (hy : 20 ≤ y ∧ y < 35) : z_do C R K T (zo_callv y 3 n ls (bb_I x2 :: bb_I x1 :: bb_R k 0 :: st)) ↔ (bb_wt st ≤ 8 ∧ z_call C y [bb_R k 0, bb_I x1, bb_I x2] T (fun r T2 => K n ls (bb_I r :: st) T2)) := by
  refine z_do_if.trans ⟨fun q => ⟨q.1.2.1.2, q.2⟩, fun q => ⟨⟨⟨⟨hk, rfl⟩, hy⟩, ⟨?_, q.1⟩, rfl⟩, q.2⟩⟩
  simp
theorem zq_callv_4 {x1 x2 x3 : Int32} {y k : Nat} (hk : k = 40 ∨ k = 41) (hy : 20 ≤ y ∧ y < 35) : z_do C R K T (zo_callv y 4 n ls (bb_I x3 :: bb_I x2 :: bb_I x1 :: bb_R k 0 :: st)) ↔ (bb_wt st ≤ 8 ∧ z_call C y [bb_R k 0, bb_I x1, bb_I x2, bb_I x3] T (fun r T2 => K n ls (bb_I r :: st) T2)) := by
  refine z_do_if.trans ⟨fun q => ⟨q.1.2.1.2, q.2⟩, fun q => ⟨⟨⟨⟨hk, rfl⟩, hy⟩, ⟨?_, q.1⟩, rfl⟩, q.2⟩⟩
  simp
end ZQ
