/-! THE WORLD OF THE PURE MACHINE IN THE HEAP -/
def bb_cls : List vw_C := [(RX0, TX0, 3), (RX1, TX1, 3), (RX2, TX2, 3), (RX3, TX3, 2), (RX4, TX4, 7), (RX5, TX5, 7), (RX6, TX6, 9)]
def bb_tys (aI aC aS : ClassId) : List (ClassId × FieldType) := [(aI, .int), (aC, .char), (aS, .object "BeachBars$State")]
abbrev bb_FT : Type := Option (Nat × (Nat → Nat))
def bb_ft : Nat → List bb_FT
  | 0 => [some (20, fun _ => 0), none, none]
  | 1 => [some (12, fun i => i), some (13, fun i => i), none]
  | 2 => [some (18, fun _ => 0), none, none]
  | 3 => [some (10, fun i => i), some (11, fun i => i)]
  | 4 => [some (3, fun i => i), some (1, fun i => i), some (14, fun i => i), some (15, fun i => i), some (16, fun i => i), none, none]
  | 5 => [some (17, fun _ => 0), none, some (1, fun _ => 7), none, none, none, none]
  | 6 => [some (4, fun _ => 0), some (4, fun _ => 1), some (4, fun _ => 2), none, some (0, fun _ => 0), some (5, fun _ => 0), some (2, fun _ => 0), some (3, fun _ => 7), some (19, fun _ => 0)]
  | _ => []
def bb_cv (ad : Nat → Nat → Nat) : bb_V → Value
  | .inl x => .int x
  | .inr (.inl x) => .long x
  | .inr (.inr (.inl (k, i))) => .ref (ad k i)
  | .inr (.inr (.inr _)) => .null
def bb_ok : bb_V → Prop
  | .inl _ => True
  | .inr (.inl _) => True
  | .inr (.inr (.inl (k, i))) => i < bb_cnt k
  | .inr (.inr (.inr _)) => False
/-- an object's fields from the slot sl on -/
def bb_fls (ad : Nat → Nat → Nat) (M : bb_M) (k i : Nat) : Nat → List bb_FT → List Value
  | _, [] => []
  | sl, none :: t => .int (M k i sl) :: bb_fls ad M k i (sl + 1) t
  | sl, some (k2, g) :: t => .ref (ad k2 (g i)) :: bb_fls ad M k i (sl + 1) t
theorem bb_fls_int {ad : Nat → Nat → Nat} {M : bb_M} {k i : Nat} : ∀ (L : List bb_FT) (sl j : Nat), L[j]? = some none → (bb_fls ad M k i sl L)[j]? = some (.int (M k i (sl + j)))
  | [], _, _, h => by simp at h
  | none :: t, sl, 0, _ => rfl
  | some (k2, g) :: t, sl, 0, h => by simp at h
  | none :: t, sl, j + 1, h => by
    have h2 := bb_fls_int (ad := ad) (M := M) (k := k) (i := i) t (sl + 1) j h
    show (bb_fls ad M k i (sl + 1) t)[j]? = _
    rw [h2, Nat.add_right_comm, Nat.add_assoc]
  | some (k2, g) :: t, sl, j + 1, h => by
    have h2 := bb_fls_int (ad := ad) (M := M) (k := k) (i := i) t (sl + 1) j h
    show (bb_fls ad M k i (sl + 1) t)[j]? = _
    rw [h2, Nat.add_right_comm, Nat.add_assoc]
theorem bb_fls_ref {ad : Nat → Nat → Nat} {M : bb_M} {k i k2 : Nat} {g : Nat → Nat} : ∀ (L : List bb_FT) (sl j : Nat), L[j]? = some (some (k2, g)) → (bb_fls ad M k i sl L)[j]? = some (.ref (ad k2 (g i)))
  | [], _, _, h => by simp at h
  | none :: t, sl, 0, h => by simp at h
  | some (k3, g3) :: t, sl, 0, h => by
    simp only [List.getElem?_cons_zero, Option.some.injEq, Prod.mk.injEq] at h
    obtain ⟨rfl, rfl⟩ := h
    rfl
  | none :: t, sl, j + 1, h => bb_fls_ref t (sl + 1) j h
  | some (k3, g3) :: t, sl, j + 1, h => bb_fls_ref t (sl + 1) j h
theorem bb_fls_len {ad : Nat → Nat → Nat} {M : bb_M} {k i : Nat} : ∀ (L : List bb_FT) (sl : Nat), (bb_fls ad M k i sl L).length = L.length
  | [], _ => rfl
  | none :: t, sl => congrArg (· + 1) (bb_fls_len t (sl + 1))
  | some (k2, g) :: t, sl => congrArg (· + 1) (bb_fls_len t (sl + 1))
theorem bb_fls_cong {ad : Nat → Nat → Nat} {M M' : bb_M} {k i : Nat} : ∀ (L : List bb_FT) (sl : Nat), (∀ j, M' k i j = M k i j) → bb_fls ad M' k i sl L = bb_fls ad M k i sl L
  | [], _, _ => rfl
  | none :: t, sl, h => by simp only [bb_fls]; rw [h, bb_fls_cong t (sl + 1) h]
  | some (k2, g) :: t, sl, h => by simp only [bb_fls]; rw [bb_fls_cong t (sl + 1) h]
theorem bb_fls_up0 {ad : Nat → Nat → Nat} {M : bb_M} {k i a : Nat} {v : Int32} : ∀ (L : List bb_FT) (sl : Nat), a < sl → bb_fls ad (bb_up M k i a v) k i sl L = bb_fls ad M k i sl L
  | [], _, _ => rfl
  | none :: t, sl, h => by
    simp only [bb_fls]
    rw [bb_fls_up0 t (sl + 1) (by omega)]
    have : bb_up M k i a v k i sl = M k i sl := by unfold bb_up; rw [if_neg]; omega
    rw [this]
  | some (k2, g) :: t, sl, h => by
    simp only [bb_fls]
    rw [bb_fls_up0 t (sl + 1) (by omega)]
theorem bb_fls_up {ad : Nat → Nat → Nat} {M : bb_M} {k i : Nat} {v : Int32} : ∀ (L : List bb_FT) (sl j : Nat), L[j]? = some none → (bb_fls ad M k i sl L).set j (.int v) = bb_fls ad (bb_up M k i (sl + j) v) k i sl L
  | [], _, _, h => by simp at h
  | none :: t, sl, 0, _ => by
    simp only [bb_fls, List.set_cons_zero]
    rw [bb_fls_up0 t (sl + 1) (by omega)]
    have : bb_up M k i (sl + 0) v k i sl = v := by unfold bb_up; rw [if_pos]; omega
    rw [this]
  | some (k2, g) :: t, sl, 0, h => by simp at h
  | none :: t, sl, j + 1, h => by
    simp only [bb_fls, List.set_cons_succ]
    rw [bb_fls_up t (sl + 1) j h]
    have : bb_up M k i (sl + (j + 1)) v k i sl = M k i sl := by unfold bb_up; rw [if_neg]; omega
    rw [this, show sl + 1 + j = sl + (j + 1) by omega]
  | some (k2, g) :: t, sl, j + 1, h => by
    simp only [bb_fls, List.set_cons_succ]
    rw [bb_fls_up t (sl + 1) j h, show sl + 1 + j = sl + (j + 1) by omega]
/-- what a cell holds -/
def bb_ce (ad : Nat → Nat → Nat) (aI aC aS : ClassId) (M : bb_M) (k i : Nat) : va_E :=
  if k < 8 then .inr (k, bb_fls ad M k i 0 (bb_ft k)) else if k = 17 then .inl (aC, 60, .inl (M 17 i)) else if k = 20 then .inl (aS, 4, .inr (.inr (.inr (.inr (fun j => some (ad 4 (3 + j))))))) else .inl (aI, bb_len k, .inl (M k i))
def bb_all : List (Nat × Nat) := (List.range 30).flatMap (fun k => (List.range (bb_cnt k)).map (fun i => (k, i)))
theorem bb_all_mem {k i : Nat} (hk : k < 30) (hi : i < bb_cnt k) : (k, i) ∈ bb_all := List.mem_flatMap.mpr ⟨k, List.mem_range.mpr hk, List.mem_map.mpr ⟨i, List.mem_range.mpr hi, rfl⟩⟩
theorem bb_all_of {k i : Nat} (h : (k, i) ∈ bb_all) : k < 30 ∧ i < bb_cnt k := by
  obtain ⟨a, ha, hb⟩ := List.mem_flatMap.mp h
  obtain ⟨b, hb, e⟩ := List.mem_map.mp hb
  cases e
  exact ⟨List.mem_range.mp ha, List.mem_range.mp hb⟩
theorem bb_all_nd : bb_all.Nodup := by decide +kernel
def bb_WS (ad : Nat → Nat → Nat) (aI aC aS : ClassId) (M : bb_M) : va_W := bb_all.map (fun q => (ad q.1 q.2, bb_ce ad aI aC aS M q.1 q.2))
def bb_cst : Nat → Nat → Int32
  | 30, j => [1, 0, 1, 4].getD j 0
  | 31, j => [20, 2, 20, 30].getD j 0
  | 32, j => [8, 0, 3, 12].getD j 0
  | _, _ => 0
def bb_SS (ad : Nat → Nat → Nat) (aI : ClassId) : va_W := [(ad 30 0, .inl (aI, 4, .inl (bb_cst 30))), (ad 31 0, .inl (aI, 4, .inl (bb_cst 31))), (ad 32 0, .inl (aI, 4, .inl (bb_cst 32)))]
def bb_A (bs : Nat → Prop) : Nat → Prop := bs
def bb_Ad (bs : Nat → Prop) (ad : Nat → Nat → Nat) : Prop := (∀ k i k' i', k < 30 → i < bb_cnt k → k' < 30 → i' < bb_cnt k' → ad k i = ad k' i' → k = k' ∧ i = i') ∧ ∀ k i, k < 30 → i < bb_cnt k → bs (ad k i)
def bb_stc (M : bb_M) : Prop := ∀ k, 30 ≤ k → k < 33 → ∀ j, j < 4 → M k 0 j = bb_cst k j
def bb_W (D : va_G) (ad : Nat → Nat → Nat) (aI aC aS : ClassId) (M : bb_M) (H : Heap) : Prop := va_P D bb_cls (bb_WS ad aI aC aS M) H ∧ bb_stc M
def bb_NL : List (String × Nat × String × String × String × String) := [("BeachBars", 61, "BeachBars$State", "beach", "LBeachBars$Sand;", "BeachBars"), ("BeachBars", 95, "BeachBars$State", "queue", "LBeachBars$Queue;", "BeachBars"), ("BeachBars", 89, "BeachBars$State", "settings", "[I", "BeachBars"), ("BeachBars", 76, "BeachBars$State", "totals", "[I", "BeachBars"), ("BeachBars", 206, "BeachBars$State", "tales", "[I", "BeachBars"), ("BeachBars", 203, "BeachBars$State", "told", "I", "BeachBars"), ("BeachBars", 79, "BeachBars$State", "level", "I", "BeachBars"), ("BeachBars$State", 58, "BeachBars$Ride", "facts", "[I", "BeachBars"), ("BeachBars$State", 63, "BeachBars$Ride", "toTheDeep", "I", "BeachBars"), ("BeachBars$State", 66, "BeachBars$Ride", "toTheDune", "I", "BeachBars")]
def bb_nw (q : String × Nat × String × String × String × String) : Cond := .fieldLinkNest q.1 q.2.1 q.2.2.1 q.2.2.2.1 q.2.2.2.2.1 q.2.2.2.2.2
def bb_sT (ad : Nat → Nat → Nat) (bs : Nat → Prop) (U : State) (H : Heap) : Prop := ∀ k, 30 ≤ k → k < 33 → va_T .int (ad k 0) 4 (fun j => .int (bb_cst k j)) (bb_A bs) U H
def bb_sta (D : va_G) (ad : Nat → Nat → Nat) (aI : ClassId) (bs : Nat → Prop) (U : State) : Prop := bb_sT ad bs U U.heap ∧ (va_Z "BeachBars" "LEAST_SETTING" "[I" (.ref (ad 30 0)) (bb_A bs) U U.heap ∧ va_Z "BeachBars" "MOST_SETTING" "[I" (.ref (ad 31 0)) (bb_A bs) U U.heap) ∧ ¬ bs (ad 30 0) ∧ ¬ bs (ad 31 0) ∧ ¬ bs (ad 32 0) ∧ ∀ q ∈ bb_NL, va_Nw (bb_nw q) U
def bb_In (D : va_G) (ad : Nat → Nat → Nat) (aI aC aS : ClassId) (bs : Nat → Prop) (M : bb_M) (U : State) : Prop := bb_W D ad aI aC aS M U.heap ∧ va_K D bb_cls (bb_tys aI aC aS) U ∧ bb_sta D ad aI bs U
def bb_Q (D : va_G) (ad : Nat → Nat → Nat) (aI aC aS : ClassId) (bs : Nat → Prop) (Rp : bb_P) : Array Value → State → Outcome → State → Prop := fun _ st oc t => (∃ (r : Option bb_V) (M' : bb_M), Rp r M' ∧ (∀ v, r = some v → bb_ok v) ∧ oc = .returned (r.map (bb_cv ad)) ∧ bb_W D ad aI aC aS M' t.heap) ∧ va_F (bb_A bs) st t
/-- the places of a frame -/
def bb_L (nl : Nat) (ad : Nat → Nat → Nat) (la : Array Slot) (ls : List bb_V) : Prop := lv_wf la ∧ (la.size = ls.length ∧ la.size = nl) ∧ ∀ (i : Nat) (v : bb_V), ls[i]? = some v → v = bb_U ∨ (la[i]? = some (.val (bb_cv ad v)) ∧ bb_ok v ∧ (bb_cv ad v).category = 1)
/-! positions -/
theorem bb_pos {k i : Nat} (hk : k < 30) (hi : i < bb_cnt k) : ∃ p : Nat, bb_all[p]? = some (k, i) := List.getElem?_of_mem (bb_all_mem hk hi)
theorem bb_WS_at {ad : Nat → Nat → Nat} {aI aC aS : ClassId} {M : bb_M} {k i p : Nat} (h : bb_all[p]? = some (k, i)) : (bb_WS ad aI aC aS M)[p]? = some (ad k i, bb_ce ad aI aC aS M k i) := by
  unfold bb_WS
  rw [List.getElem?_map, h]
  rfl
theorem bb_WS_set {ad : Nat → Nat → Nat} {aI aC aS : ClassId} {M M' : bb_M} {k i p : Nat} {E : va_E} (h : bb_all[p]? = some (k, i)) (he : bb_ce ad aI aC aS M' k i = E) (ho : ∀ k' i', (k', i') ≠ (k, i) → ∀ j, M' k' i' j = M k' i' j) : (bb_WS ad aI aC aS M).set p (ad k i, E) = bb_WS ad aI aC aS M' := by
  apply List.ext_getElem?
  intro j
  by_cases hj : j = p
  · subst hj
    have hl : j < (bb_WS ad aI aC aS M).length := (List.getElem?_eq_some_iff.mp (bb_WS_at (ad := ad) (aI := aI) (aC := aC) (aS := aS) (M := M) h)).1
    rw [List.getElem?_set_self hl, bb_WS_at h, he]
  · rw [List.getElem?_set_ne (Ne.symm hj)]
    unfold bb_WS
    rw [List.getElem?_map, List.getElem?_map]
    cases hq : bb_all[j]? with
    | none => rfl
    | some q =>
      obtain ⟨k', i'⟩ := q
      have hne : (k', i') ≠ (k, i) := by
        intro e
        rw [e] at hq
        exact hj ((List.getElem?_inj (List.getElem?_eq_some_iff.mp hq).1 bb_all_nd).mp (hq.trans h.symm))
      have e := ho k' i' hne
      show some (ad k' i', bb_ce ad aI aC aS M k' i') = some (ad k' i', bb_ce ad aI aC aS M' k' i')
      congr 2
      unfold bb_ce
      rw [bb_fls_cong (M' := M') (M := M) _ _ e]
      have e2 : M' k' i' = M k' i' := funext e
      by_cases h17 : k' = 17
      · subst h17
        rw [e2]
      · rw [e2]
        simp only [h17, if_false]
theorem bb_WS_D {bs : Nat → Prop} {ad : Nat → Nat → Nat} {aI aC aS : ClassId} {M : bb_M} (h : bb_Ad bs ad) : va_D (bb_A bs) (bb_WS ad aI aC aS M) := by
  have key : ∀ (j : Nat) (q : Nat × va_E), (bb_WS ad aI aC aS M)[j]? = some q → ∃ k i, bb_all[j]? = some (k, i) ∧ q.1 = ad k i ∧ k < 30 ∧ i < bb_cnt k := by
    intro j q hq
    unfold bb_WS at hq
    rw [List.getElem?_map] at hq
    cases hx : bb_all[j]? with
    | none => rw [hx] at hq; cases hq
    | some x =>
      rw [hx] at hq
      obtain ⟨k, i⟩ := x
      cases hq
      exact ⟨k, i, rfl, rfl, bb_all_of (List.mem_of_getElem? hx)⟩
  refine ⟨fun a b p q ha hb e => ?_, fun j q hq => ?_⟩
  · obtain ⟨k, i, h1, h2, h3, h4⟩ := key a p ha
    obtain ⟨k', i', g1, g2, g3, g4⟩ := key b q hb
    obtain ⟨rfl, rfl⟩ := h.1 k i k' i' h3 h4 g3 g4 (by rw [← h2, ← g2, e])
    exact (List.getElem?_inj (List.getElem?_eq_some_iff.mp h1).1 bb_all_nd).mp (h1.trans g1.symm)
  · obtain ⟨k, i, h1, h2, h3, h4⟩ := key j q hq
    rw [h2]
    exact h.2 k i h3 h4
/-! the places of a frame: stores -/
theorem bb_L_at {nl : Nat} {ad : Nat → Nat → Nat} {la : Array Slot} {ls : List bb_V} (h : bb_L nl ad la ls) {i : Nat} {v : bb_V} (hv : ls[i]? = some v) (hn : v ≠ bb_U) : la[i]? = some (.val (bb_cv ad v)) ∧ bb_ok v ∧ (bb_cv ad v).category = 1 := (h.2.2 i v hv).resolve_left hn
def bb_as1 (ad : Nat → Nat → Nat) (j : Nat) : Option bb_V → Option (Nat × Value)
  | some (.inl x) => some (j, .int x)
  | some (.inr (.inr (.inl (k, i)))) => some (j, .ref (ad k i))
  | _ => none
def bb_as (ad : Nat → Nat → Nat) (ls : List bb_V) : List (Nat × Value) := (List.range ls.length).filterMap (fun j => bb_as1 ad j ls[j]?)
theorem bb_as_mem {ad : Nat → Nat → Nat} {ls : List bb_V} {i : Nat} {v : bb_V} (hv : ls[i]? = some v) (hn : v ≠ bb_U) (hc : (bb_cv ad v).category = 1) : (i, bb_cv ad v) ∈ bb_as ad ls := by
  refine List.mem_filterMap.mpr ⟨i, List.mem_range.mpr (List.getElem?_eq_some_iff.mp hv).1, ?_⟩
  rw [hv]
  match v, hn, hc with
  | .inl x, _, _ => rfl
  | .inr (.inl x), _, hc => simp [bb_cv, Value.category] at hc
  | .inr (.inr (.inl (k, j))), _, _ => rfl
  | .inr (.inr (.inr ())), hn, _ => exact (hn rfl).elim
theorem bb_as_of {ad : Nat → Nat → Nat} {ls : List bb_V} {q : Nat × Value} (h : q ∈ bb_as ad ls) : ∃ v, ls[q.1]? = some v ∧ v ≠ bb_U ∧ q.2 = bb_cv ad v ∧ q.2.category = 1 := by
  obtain ⟨j, -, h⟩ := List.mem_filterMap.mp h
  match hx : ls[j]?, h with
  | none, h => simp [bb_as1] at h
  | some (.inl x), h => simp only [bb_as1, Option.some.injEq] at h; subst h; exact ⟨_, hx, (fun e => by simp [bb_U] at e), rfl, rfl⟩
  | some (.inr (.inl x)), h => simp [bb_as1] at h
  | some (.inr (.inr (.inl (k, i)))), h => simp only [bb_as1, Option.some.injEq] at h; subst h; exact ⟨_, hx, (fun e => by simp [bb_U] at e), rfl, rfl⟩
  | some (.inr (.inr (.inr ()))), h => simp [bb_as1] at h
theorem bb_L_has {nl : Nat} {ad : Nat → Nat → Nat} {la : Array Slot} {ls : List bb_V} (h : bb_L nl ad la ls) : lv_has la ls.length (bb_as ad ls) := by
  refine ⟨h.2.1.1, h.1, fun q hq => ?_⟩
  obtain ⟨v, h1, h2, h3, -⟩ := bb_as_of hq
  rw [h3]
  exact (bb_L_at h h1 h2).1
theorem bb_L_set {nl : Nat} {ad : Nat → Nat → Nat} {la la' : Array Slot} {ls : List bb_V} {i : Nat} {v w : bb_V} (h : bb_L nl ad la ls) (hw : ls[i]? = some w) (hv : bb_ok v) (hc : (bb_cv ad v).category = 1) (h' : lv_has la' ls.length ((i, bb_cv ad v) :: (bb_as ad ls).filter (fun q => !(q.1 == i) && !(q.1 + 1 == i && q.2.category == 2)))) : bb_L nl ad la' (ls.set i v) := by
  have hi : i < ls.length := (List.getElem?_eq_some_iff.mp hw).1
  refine ⟨h'.2.1, ⟨by rw [List.length_set]; exact h'.1, by rw [h'.1, ← h.2.1.1]; exact h.2.1.2⟩, fun j u hj => ?_⟩
  by_cases hji : j = i
  · subst hji
    rw [List.getElem?_set_self hi] at hj
    cases hj
    exact Or.inr ⟨h'.2.2 _ List.mem_cons_self, hv, hc⟩
  · rw [List.getElem?_set_ne (Ne.symm hji)] at hj
    rcases h.2.2 j u hj with e | ⟨h1, h2, h3⟩
    · exact Or.inl e
    · by_cases hu : u = bb_U
      · exact Or.inl hu
      · refine Or.inr ⟨h'.2.2 (j, bb_cv ad u) (List.mem_cons_of_mem _ (List.mem_filter.mpr ⟨bb_as_mem hj hu h3, ?_⟩)), h2, h3⟩
        simp [hji, h3]
