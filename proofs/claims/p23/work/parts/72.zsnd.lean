/-! THE LAW'S MACHINE IS THE JVM'S -/
abbrev z_D : Type := va_G × (Nat → Nat → Nat) × (Nat → Nat → Nat) × ClassId × ClassId × ClassId × Nat × Nat × Nat × (Nat → Int32)
abbrev z_D.D (E : z_D) : va_G := E.1
abbrev z_D.a1 (E : z_D) : Nat → Nat → Nat := E.2.1
abbrev z_D.a2 (E : z_D) : Nat → Nat → Nat := E.2.2.1
abbrev z_D.aI (E : z_D) : ClassId := E.2.2.2.1
abbrev z_D.aC (E : z_D) : ClassId := E.2.2.2.2.1
abbrev z_D.aS (E : z_D) : ClassId := E.2.2.2.2.2.1
abbrev z_D.b0 (E : z_D) : Nat := E.2.2.2.2.2.2.1
abbrev z_D.b (E : z_D) : Nat := E.2.2.2.2.2.2.2.1
abbrev z_D.L (E : z_D) : Nat := E.2.2.2.2.2.2.2.2.1
abbrev z_D.xs (E : z_D) : Nat → Int32 := E.2.2.2.2.2.2.2.2.2
def z_Ar (ad : Nat → Nat → Nat) : Nat → Prop := fun q => ∃ k i, k < 30 ∧ i < bb_cnt k ∧ q = ad k i
def z_B (E : z_D) : Nat → Prop := fun q => E.b0 ≤ q
def z_ad (E : z_D) : Nat → Nat → Nat := fun k _ => if k = 40 then E.a1 6 0 else if k = 41 then E.a2 6 0 else E.b
def z_F (E : z_D) : Int32 → Int32 := fun k => if k.toInt < (E.L : Int) then E.xs k.toNatClampNeg else 2124796857 * (k + 1103)
def z_W (E : z_D) (T : z_T) (H : Heap) : Prop := (∃ M, bs_CI M T.1 ∧ bb_W E.D E.a1 E.aI E.aC E.aS M H) ∧ ∃ M, bs_CI M T.2 ∧ bb_W E.D E.a2 E.aI E.aC E.aS M H
def z_E (E : z_D) (U : State) : Prop := va_K E.D bb_cls (bb_tys E.aI E.aC E.aS) U ∧ (bb_Ad (z_Ar E.a1) E.a1 ∧ bb_Ad (z_Ar E.a2) E.a2) ∧ (∀ q, z_Ar E.a1 q → ¬ z_Ar E.a2 q) ∧ ((∀ q, z_Ar E.a1 q → z_B E q) ∧ ∀ q, z_Ar E.a2 q → z_B E q) ∧ (bb_sta E.D E.a1 E.aI (z_B E) U ∧ bb_sta E.D E.a2 E.aI (z_B E) U) ∧ (va_X E.b E.L E.xs U U.heap ∧ E.b < U.heap.size ∧ E.b < E.b0 ∧ E.L ≤ 260)
def z_In (E : z_D) (T : z_T) (U : State) : Prop := z_W E T U.heap ∧ z_E E U
def z_Q (E : z_D) (Rp : z_P) : Array Value → State → Outcome → State → Prop := fun _ st oc t => (∃ (r : Int32) (T' : z_T), Rp r T' ∧ oc = .returned (some (.int r)) ∧ z_W E T' t.heap) ∧ va_F (z_B E) st t
theorem z_sta_cl {D : va_G} {ad : Nat → Nat → Nat} {aI : ClassId} {bs : Nat → Prop} {U : State} {g : JFrame} {mk : MethodId} {a : Array Value} (q3 : bb_sta D ad aI bs U) : bb_sta D ad aI bs (U.calling g mk a) :=
  ⟨fun k g1 g2 => va_T.moved (u := U) (U := U.calling g mk a) (Vm.Alike.refl U.vm) (q3.1 k g1 g2), ⟨va_Z.moved (u := U) (U := U.calling g mk a) (Vm.Alike.refl U.vm) q3.2.1.1, va_Z.moved (u := U) (U := U.calling g mk a) (Vm.Alike.refl U.vm) q3.2.1.2⟩, q3.2.2.1, q3.2.2.2.1, q3.2.2.2.2.1, fun q hq => va_Nw.same (u := U) (U := U.calling g mk a) rfl rfl (q3.2.2.2.2.2 q hq)⟩
theorem z_sta_nar {D : va_G} {ad : Nat → Nat → Nat} {aI : ClassId} {bs bs' : Nat → Prop} {U : State} (q3 : bb_sta D ad aI bs U) (h : ∀ q, bs' q → bs q) : bb_sta D ad aI bs' U :=
  ⟨fun k g1 g2 => (q3.1 k g1 g2).narrow h, ⟨q3.2.1.1.narrow h, q3.2.1.2.narrow h⟩, fun z => q3.2.2.1 (h _ z), fun z => q3.2.2.2.1 (h _ z), fun z => q3.2.2.2.2.1 (h _ z), q3.2.2.2.2.2⟩
theorem z_E.calling {E : z_D} {U : State} {g : JFrame} {mk : MethodId} {a : Array Value} (h : z_E E U) : z_E E (U.calling g mk a) := by
  obtain ⟨h1, h2, h3, h4, ⟨h5, h6⟩, h7, h8⟩ := h
  exact ⟨va_K.moved (u := U) (U := U.calling g mk a) (Vm.Alike.refl U.vm) h1, h2, h3, h4, ⟨z_sta_cl h5, z_sta_cl h6⟩, va_X.moved (u := U) (U := U.calling g mk a) (Vm.Alike.refl U.vm) h7, h8⟩
theorem z_E.at {E : z_D} {s U : State} {H : Heap} {locs : List Loc} (h : z_E E s) (hS : va_S (z_B E) s.heap H locs) (hU : U.heap = H) (hwm : s.WarmedH U.vm) : z_E E U := by
  obtain ⟨h1, h2, h3, h4, ⟨h5, h6⟩, h7, h8, h9, h10⟩ := h
  refine ⟨h1.moved hwm.alike, h2, h3, h4, ⟨h5.at hS hU hwm, h6.at hS hU hwm⟩, (h7.moved hwm.alike).kept ?_, ?_, h9, h10⟩
  · rw [hU]
    exact hS.2.1 _ h8 (Nat.not_le.mpr h9)
  · rw [hU]
    exact Nat.lt_of_lt_of_le h8 hS.1
theorem z_blind {E : z_D} {T : z_T} {av : List Value} : FrameBlind (va_Pc av (z_In E T)) := by
  intro a U g mk q
  obtain ⟨e, q1, q2⟩ := q
  exact ⟨e, q1, q2.calling⟩
/-- heaps alike where a beach lies -/
theorem z_keep {D : va_G} {ad : Nat → Nat → Nat} {aI aC aS : ClassId} {M : bb_M} {H H1 : Heap} (h : bb_W D ad aI aC aS M H) (hq : ∀ k i, k < 30 → i < bb_cnt k → H1[ad k i]? = H[ad k i]?) : bb_W D ad aI aC aS M H1 := by
  refine ⟨h.1.kept (fun j q hj => ?_), h.2⟩
  unfold bb_WS at hj
  rw [List.getElem?_map] at hj
  cases hx : bb_all[j]? with
  | none => rw [hx] at hj; cases hj
  | some x =>
    rw [hx] at hj
    obtain ⟨k, i⟩ := x
    cases hj
    obtain ⟨g1, g2⟩ := bb_all_of (List.mem_of_getElem? hx)
    exact hq k i g1 g2
theorem z_lt {D : va_G} {ad : Nat → Nat → Nat} {aI aC aS : ClassId} {M : bb_M} {H : Heap} (h : bb_W D ad aI aC aS M H) {q : Nat} (hq : z_Ar ad q) : q < H.size := by
  obtain ⟨k, i, h1, h2, rfl⟩ := hq
  obtain ⟨p, hp⟩ := bb_pos h1 h2
  exact va_at.lt (h.1 p _ (bb_WS_at hp))
def z_G (p : Program) (l : Launch) (e : Env) (R : Room) (s : State) (m : MethodId) (args : Array Value) (below : List Frame) (meth : Method) (c : Code) (E : z_D) (cells slots : Nat) (QF : State → Prop) : z_K := fun pc ls st T => (∀ v ∈ st, bb_ok v) → ∀ (H : Heap) (locs : List Loc) (la : Array Slot), bb_L c.maxLocals (z_ad E) la ls → z_W E T H → va_S (z_B E) s.heap H locs → W p l e R s m args below meth c H locs cells slots QF (F0 m pc la (st.map (bb_cv (z_ad E))))
def z_Cx (p : Program) (s : State) (m : MethodId) (args : Array Value) (c : Code) (E : z_D) (cc : ByteArray) (own : String) (Ts : List Cond) : Prop := p.tables.exec = Jvm.exec ∧ c.code = cc ∧ s.vm.findClass own = some m.cls ∧ (∀ w ∈ Ts, w.before args s = true) ∧ z_E E s
def z_Snd (p : Program) (l : Launch) (e : Env) (R : Room) (s : State) (m : MethodId) (args : Array Value) (below : List Frame) (meth : Method) (c : Code) (E : z_D) (cells slots : Nat) (QF : State → Prop) (Rp : z_P) (C : z_C) (pc : Nat) (o : z_O) : Prop := ∀ (ls st : List bb_V) (T : z_T), z_do C Rp (z_G p l e R s m args below meth c E cells slots QF) T (o ls st) → z_G p l e R s m args below meth c E cells slots QF pc ls st T
def z_mt : List (MethodName × ByteArray × Nat × Option FieldType) := [(yL_cell, cL_cell, 2, some .int), (yL_up, cL_up, 2, some .int), (yL_isStep, cL_isStep, 13, some .boolean), (yL_areSame, cL_areSame, 3, some .boolean), (yL_isBalanced, cL_isBalanced, 1, some .boolean), (yL_areEnded, cL_areEnded, 8, some .boolean), (yL_areAlike, cL_areAlike, 7, some .boolean), (yL_isWell, cL_isWell, 15, some .boolean)]
def z_md (y : Nat) : MethodName × ByteArray × Nat × Option FieldType := z_mt.getD y (yL_cell, cL_cell, 2, some .int)
def z_ws (y : Nat) : List Cond := .code (z_md y).1 (z_md y).2.1 (z_md y).2.2.1 (z_md y).2.2.2 :: bb_TB
theorem z_good {Ts : List Cond} {y : Nat} (h : ∀ w ∈ bb_TB, w ∈ Ts) (hc : Cond.code (z_md y).1 (z_md y).2.1 (z_md y).2.2.1 (z_md y).2.2.2 ∈ bb_TB) : GoodIn Ts (z_ws y) := by
  intro w hw
  have hm : w ∈ bb_TB := by
    rcases List.mem_cons.mp hw with rfl | h1
    · exact hc
    · exact h1
  exact ⟨h w hm, good_of_word (List.mem_filter.mp hm).2⟩
def z_rm (d : Nat) : Room := { frames := d + 8, cells := 0, slots := 0, locals := 36 * (d + 8) }
def z_CS (l : Launch) (R : Room) (E : z_D) (C : z_C) : Prop := (∀ (y : Nat) (as : List bb_V) (T : z_T) (r : Int32) (T' : z_T), y < 8 → C y as T r T' → (∀ v ∈ as, bb_ok v) → (bb_nj as = true ∧ as.length ≤ (z_md y).2.2.1) → ∃ rm : Room, (rm.cells = 0 ∧ rm.slots = 0) ∧ (rm.frames + 1 ≤ R.frames ∧ rm.locals + 36 ≤ R.locals) ∧ Met l (z_md y).1 (z_ws y) rm (va_Pc (as.map (bb_cv (z_ad E))) (z_In E T)) (z_Q E (fun r' T2 => r' = r ∧ T2 = T')) 0 0 (z_B E)) ∧ (∀ (y : Nat) (as : List bb_V) (T : z_T) (r : Int32) (T' : z_T), 20 ≤ y → C y as T r T' → ∃ F, z_base F y as T = some (r, T')) ∧ 9 ≤ R.frames ∧ 324 ≤ R.locals
section ZD
variable {p : Program} {l : Launch} {e : Env} {R : Room} {s : State} {m : MethodId} {args : Array Value} {below : List Frame} {meth : Method} {c : Code} {E : z_D} {cells slots : Nat} {QF : State → Prop} {Rp : z_P} {cc : ByteArray} {own : String} {Ts : List Cond} {C : z_C} {pc : Nat}
theorem zd_iadd (hx : z_Cx p s m args c E cc own Ts) (hd : decode cc pc = .ok (.iadd, 1)) : z_Snd p l e R s m args below meth c E cells slots QF Rp C pc (zo_iadd (pc + 1)) := by
  intro ls st T h
  unfold zo_iadd at h
  split at h
  · rename_i b a st
    intro hok H locs la hl hW hS
    exact lv_iadd hx.1 hx.2.1 hd (h (bb_okc trivial (bb_okt (bb_okt hok))) H locs la hl hW hS)
  · exact h.elim
theorem zd_isub (hx : z_Cx p s m args c E cc own Ts) (hd : decode cc pc = .ok (.isub, 1)) : z_Snd p l e R s m args below meth c E cells slots QF Rp C pc (zo_isub (pc + 1)) := by
  intro ls st T h
  unfold zo_isub at h
  split at h
  · rename_i b a st
    intro hok H locs la hl hW hS
    exact lv_isub hx.1 hx.2.1 hd (h (bb_okc trivial (bb_okt (bb_okt hok))) H locs la hl hW hS)
  · exact h.elim
theorem zd_imul (hx : z_Cx p s m args c E cc own Ts) (hd : decode cc pc = .ok (.imul, 1)) : z_Snd p l e R s m args below meth c E cells slots QF Rp C pc (zo_imul (pc + 1)) := by
  intro ls st T h
  unfold zo_imul at h
  split at h
  · rename_i b a st
    intro hok H locs la hl hW hS
    exact lv_imul hx.1 hx.2.1 hd (h (bb_okc trivial (bb_okt (bb_okt hok))) H locs la hl hW hS)
  · exact h.elim
theorem zd_iand (hx : z_Cx p s m args c E cc own Ts) (hd : decode cc pc = .ok (.iand, 1)) : z_Snd p l e R s m args below meth c E cells slots QF Rp C pc (zo_iand (pc + 1)) := by
  intro ls st T h
  unfold zo_iand at h
  split at h
  · rename_i b a st
    intro hok H locs la hl hW hS
    exact lv_iand hx.1 hx.2.1 hd (h (bb_okc trivial (bb_okt (bb_okt hok))) H locs la hl hW hS)
  · exact h.elim
theorem zd_ior (hx : z_Cx p s m args c E cc own Ts) (hd : decode cc pc = .ok (.ior, 1)) : z_Snd p l e R s m args below meth c E cells slots QF Rp C pc (zo_ior (pc + 1)) := by
  intro ls st T h
  unfold zo_ior at h
  split at h
  · rename_i b a st
    intro hok H locs la hl hW hS
    exact lv_ior hx.1 hx.2.1 hd (h (bb_okc trivial (bb_okt (bb_okt hok))) H locs la hl hW hS)
  · exact h.elim
theorem zd_ishl (hx : z_Cx p s m args c E cc own Ts) (hd : decode cc pc = .ok (.ishl, 1)) : z_Snd p l e R s m args below meth c E cells slots QF Rp C pc (zo_ishl (pc + 1)) := by
  intro ls st T h
  unfold zo_ishl at h
  split at h
  · rename_i b a st
    intro hok H locs la hl hW hS
    exact lv_ishl hx.1 hx.2.1 hd (h (bb_okc trivial (bb_okt (bb_okt hok))) H locs la hl hW hS)
  · exact h.elim
theorem zd_ishr (hx : z_Cx p s m args c E cc own Ts) (hd : decode cc pc = .ok (.ishr, 1)) : z_Snd p l e R s m args below meth c E cells slots QF Rp C pc (zo_ishr (pc + 1)) := by
  intro ls st T h
  unfold zo_ishr at h
  split at h
  · rename_i b a st
    intro hok H locs la hl hW hS
    exact lv_ishr hx.1 hx.2.1 hd (h (bb_okc trivial (bb_okt (bb_okt hok))) H locs la hl hW hS)
  · exact h.elim
theorem zd_irem (hx : z_Cx p s m args c E cc own Ts) (hd : decode cc pc = .ok (.irem, 1)) : z_Snd p l e R s m args below meth c E cells slots QF Rp C pc (zo_irem (pc + 1)) := by
  intro ls st T h
  unfold zo_irem at h
  split at h
  · rename_i b a st
    intro hok H locs la hl hW hS
    rw [z_do_ite] at h
    by_cases hb0 : b = 0
    · rw [if_pos hb0] at h
      exact h.elim
    · rw [if_neg hb0] at h
      exact lv_irem hx.1 hx.2.1 hd hb0 (h (bb_okc trivial (bb_okt (bb_okt hok))) H locs la hl hW hS)
  · exact h.elim
theorem zd_dup (hx : z_Cx p s m args c E cc own Ts) (hd : decode cc pc = .ok (.dup, 1)) : z_Snd p l e R s m args below meth c E cells slots QF Rp C pc (zo_dup (pc + 1)) := by
  intro ls st T h
  unfold zo_dup at h
  split at h
  · rename_i a st
    intro hok H locs la hl hW hS
    exact lv_dup hx.1 hx.2.1 hd rfl (h (bb_okc trivial hok) H locs la hl hW hS)
  · exact h.elim
theorem zd_pop (hx : z_Cx p s m args c E cc own Ts) (hd : decode cc pc = .ok (.pop, 1)) : z_Snd p l e R s m args below meth c E cells slots QF Rp C pc (zo_pop (pc + 1)) := by
  intro ls st T h
  unfold zo_pop at h
  split at h
  · rename_i a st
    intro hok H locs la hl hW hS
    exact lv_pop hx.1 hx.2.1 hd rfl (h (bb_okt hok) H locs la hl hW hS)
  · exact h.elim
theorem zd_iload_n (hx : z_Cx p s m args c E cc own Ts) {k : Fin 4} {i : Nat} (hd : decode cc pc = .ok (.iload_n k, 1)) (hi : (k : Nat) = i) : z_Snd p l e R s m args below meth c E cells slots QF Rp C pc (zo_iload i (pc + 1)) := by
  intro ls st T h
  unfold zo_iload at h
  split at h
  · rename_i x hv
    intro hok H locs la hl hW hS
    have h2 := bb_L_at hl hv (fun q => by simp [bb_U] at q)
    exact lv_iload_n hx.1 hx.2.1 hd hi h2.1 (h (bb_okc h2.2.1 hok) H locs la hl hW hS)
  · exact h.elim
theorem zd_iload (hx : z_Cx p s m args c E cc own Ts) {i : Nat} (hd : decode cc pc = .ok (.iload i, 2)) : z_Snd p l e R s m args below meth c E cells slots QF Rp C pc (zo_iload i (pc + 2)) := by
  intro ls st T h
  unfold zo_iload at h
  split at h
  · rename_i x hv
    intro hok H locs la hl hW hS
    have h2 := bb_L_at hl hv (fun q => by simp [bb_U] at q)
    exact lv_iload hx.1 hx.2.1 hd h2.1 (h (bb_okc h2.2.1 hok) H locs la hl hW hS)
  · exact h.elim
theorem zd_aload_n (hx : z_Cx p s m args c E cc own Ts) {k : Fin 4} {i : Nat} (hd : decode cc pc = .ok (.aload_n k, 1)) (hi : (k : Nat) = i) : z_Snd p l e R s m args below meth c E cells slots QF Rp C pc (zo_aload i (pc + 1)) := by
  intro ls st T h
  unfold zo_aload at h
  split at h
  · rename_i r hv
    intro hok H locs la hl hW hS
    have h2 := bb_L_at hl hv (fun q => by simp [bb_U] at q)
    exact lv_aload_n hx.1 hx.2.1 hd hi h2.1 (h (bb_okc h2.2.1 hok) H locs la hl hW hS)
  · exact h.elim
theorem zd_aload (hx : z_Cx p s m args c E cc own Ts) {i : Nat} (hd : decode cc pc = .ok (.aload i, 2)) : z_Snd p l e R s m args below meth c E cells slots QF Rp C pc (zo_aload i (pc + 2)) := by
  intro ls st T h
  unfold zo_aload at h
  split at h
  · rename_i r hv
    intro hok H locs la hl hW hS
    have h2 := bb_L_at hl hv (fun q => by simp [bb_U] at q)
    exact lv_aload hx.1 hx.2.1 hd h2.1 (h (bb_okc h2.2.1 hok) H locs la hl hW hS)
  · exact h.elim
theorem zd_istore_n (hx : z_Cx p s m args c E cc own Ts) {k : Fin 4} {i : Nat} (hd : decode cc pc = .ok (.istore_n k, 1)) (hi : (k : Nat) = i) : z_Snd p l e R s m args below meth c E cells slots QF Rp C pc (zo_istore i (pc + 1)) := by
  intro ls st T h
  unfold zo_istore at h
  split at h
  · rename_i _ _ w0 x st hv
    intro hok H locs la hl hW hS
    exact lv_istore_n hx.1 hx.2.1 hd hi (bb_L_has hl) (List.getElem?_eq_some_iff.mp hv).1 rfl (fun la' hl' => h (bb_okt hok) H locs la' (bb_L_set hl hv (bb_okh hok) rfl hl') hW hS)
  · exact h.elim
theorem zd_istore (hx : z_Cx p s m args c E cc own Ts) {i : Nat} (hd : decode cc pc = .ok (.istore i, 2)) : z_Snd p l e R s m args below meth c E cells slots QF Rp C pc (zo_istore i (pc + 2)) := by
  intro ls st T h
  unfold zo_istore at h
  split at h
  · rename_i _ _ w0 x st hv
    intro hok H locs la hl hW hS
    exact lv_istore hx.1 hx.2.1 hd (bb_L_has hl) (List.getElem?_eq_some_iff.mp hv).1 rfl (fun la' hl' => h (bb_okt hok) H locs la' (bb_L_set hl hv (bb_okh hok) rfl hl') hW hS)
  · exact h.elim
theorem zd_iinc (hx : z_Cx p s m args c E cc own Ts) {i : Nat} {k : Int} {v : Int32} (hd : decode cc pc = .ok (.iinc i k, 3)) (hv0 : Int32.ofInt k = v) : z_Snd p l e R s m args below meth c E cells slots QF Rp C pc (zo_iinc i v (pc + 3)) := by
  intro ls st T h
  unfold zo_iinc at h
  split at h
  · rename_i x hv
    intro hok H locs la hl hW hS
    subst hv0
    have h2 := bb_L_at hl hv (fun q => by simp [bb_U] at q)
    obtain ⟨j, hj⟩ := List.getElem?_of_mem (bb_as_mem (ad := z_ad E) hv (fun q => by simp [bb_U] at q) rfl)
    exact lv_iinc hx.1 hx.2.1 hd (bb_L_has hl) (k := j) hj rfl (List.getElem?_eq_some_iff.mp hv).1 rfl (fun la' hl' => h hok H locs la' (bb_L_set (v := .inl (x + Int32.ofInt k)) hl hv trivial rfl hl') hW hS)
  · exact h.elim
theorem zd_iconst (hx : z_Cx p s m args c E cc own Ts) {n : Int} {v : Int32} (hd : decode cc pc = .ok (.iconst n, 1)) (hv : Int32.ofInt n = v) : z_Snd p l e R s m args below meth c E cells slots QF Rp C pc (zo_const v (pc + 1)) := by
  intro ls st T h hok H locs la hl hW hS
  exact lv_iconst hx.1 hx.2.1 hd hv (h (bb_okc trivial hok) H locs la hl hW hS)
theorem zd_bipush (hx : z_Cx p s m args c E cc own Ts) {n : Int} {v : Int32} (hd : decode cc pc = .ok (.bipush n, 2)) (hv : (Int8.ofInt n).toInt32 = v) : z_Snd p l e R s m args below meth c E cells slots QF Rp C pc (zo_const v (pc + 2)) := by
  intro ls st T h hok H locs la hl hW hS
  exact lv_bipush hx.1 hx.2.1 hd hv (h (bb_okc trivial hok) H locs la hl hW hS)
theorem zd_sipush (hx : z_Cx p s m args c E cc own Ts) {n : Int} {v : Int32} (hd : decode cc pc = .ok (.sipush n, 3)) (hv : (Int16.ofInt n).toInt32 = v) : z_Snd p l e R s m args below meth c E cells slots QF Rp C pc (zo_const v (pc + 3)) := by
  intro ls st T h hok H locs la hl hW hS
  exact lv_sipush hx.1 hx.2.1 hd hv (h (bb_okc trivial hok) H locs la hl hW hS)
theorem zd_ldc (hx : z_Cx p s m args c E cc own Ts) {idx : Nat} {v : Int32} (hd : decode cc pc = .ok (.ldc idx, 2)) (hw : Cond.constant own idx v ∈ Ts) : z_Snd p l e R s m args below meth c E cells slots QF Rp C pc (zo_const v (pc + 2)) := by
  intro ls st T h hok H locs la hl hW hS
  exact lv_ldc hx.1 hx.2.1 hx.2.2.1 (hx.2.2.2.1 _ hw) hd (h (bb_okc trivial hok) H locs la hl hW hS)
theorem zd_goto (hx : z_Cx p s m args c E cc own Ts) {off : Int} {t : Nat} (hd : decode cc pc = .ok (.goto off, 3)) (ht : (pc : Int) + off = (t : Int)) : z_Snd p l e R s m args below meth c E cells slots QF Rp C pc (zo_goto t) := by
  intro ls st T h hok H locs la hl hW hS
  exact lv_goto hx.1 hx.2.1 hd ht (h hok H locs la hl hW hS)
theorem zd_ifeq (hx : z_Cx p s m args c E cc own Ts) {off : Int} {t : Nat} (hd : decode cc pc = .ok (.ifCond .eq off, 3)) (ht : (pc : Int) + off = (t : Int)) : z_Snd p l e R s m args below meth c E cells slots QF Rp C pc (zo_ifeq t (pc + 3)) := by
  intro ls st T h
  unfold zo_ifeq at h
  split at h
  · rename_i a st
    intro hok H locs la hl hW hS
    rw [z_do_ite] at h
    refine lv_if_eq hx.1 hx.2.1 hd ht (fun q => ?_) (fun q => ?_)
    · rw [if_pos q] at h
      exact h (bb_okt hok) H locs la hl hW hS
    · rw [if_neg q] at h
      exact h (bb_okt hok) H locs la hl hW hS
  · exact h.elim
theorem zd_iceq (hx : z_Cx p s m args c E cc own Ts) {off : Int} {t : Nat} (hd : decode cc pc = .ok (.if_icmp .eq off, 3)) (ht : (pc : Int) + off = (t : Int)) : z_Snd p l e R s m args below meth c E cells slots QF Rp C pc (zo_iceq t (pc + 3)) := by
  intro ls st T h
  unfold zo_iceq at h
  split at h
  · rename_i b a st
    intro hok H locs la hl hW hS
    rw [z_do_ite] at h
    refine lv_icmp_eq hx.1 hx.2.1 hd ht (fun q => ?_) (fun q => ?_)
    · rw [if_pos q] at h
      exact h (bb_okt (bb_okt hok)) H locs la hl hW hS
    · rw [if_neg q] at h
      exact h (bb_okt (bb_okt hok)) H locs la hl hW hS
  · exact h.elim
theorem zd_ifne (hx : z_Cx p s m args c E cc own Ts) {off : Int} {t : Nat} (hd : decode cc pc = .ok (.ifCond .ne off, 3)) (ht : (pc : Int) + off = (t : Int)) : z_Snd p l e R s m args below meth c E cells slots QF Rp C pc (zo_ifne t (pc + 3)) := by
  intro ls st T h
  unfold zo_ifne at h
  split at h
  · rename_i a st
    intro hok H locs la hl hW hS
    rw [z_do_ite] at h
    refine lv_if_ne hx.1 hx.2.1 hd ht (fun q => ?_) (fun q => ?_)
    · rw [if_pos q] at h
      exact h (bb_okt hok) H locs la hl hW hS
    · rw [if_neg (fun z => z q)] at h
      exact h (bb_okt hok) H locs la hl hW hS
  · exact h.elim
theorem zd_icne (hx : z_Cx p s m args c E cc own Ts) {off : Int} {t : Nat} (hd : decode cc pc = .ok (.if_icmp .ne off, 3)) (ht : (pc : Int) + off = (t : Int)) : z_Snd p l e R s m args below meth c E cells slots QF Rp C pc (zo_icne t (pc + 3)) := by
  intro ls st T h
  unfold zo_icne at h
  split at h
  · rename_i b a st
    intro hok H locs la hl hW hS
    rw [z_do_ite] at h
    refine lv_icmp_ne hx.1 hx.2.1 hd ht (fun q => ?_) (fun q => ?_)
    · rw [if_pos q] at h
      exact h (bb_okt (bb_okt hok)) H locs la hl hW hS
    · rw [if_neg (fun z => z q)] at h
      exact h (bb_okt (bb_okt hok)) H locs la hl hW hS
  · exact h.elim
theorem zd_iflt (hx : z_Cx p s m args c E cc own Ts) {off : Int} {t : Nat} (hd : decode cc pc = .ok (.ifCond .lt off, 3)) (ht : (pc : Int) + off = (t : Int)) : z_Snd p l e R s m args below meth c E cells slots QF Rp C pc (zo_iflt t (pc + 3)) := by
  intro ls st T h
  unfold zo_iflt at h
  split at h
  · rename_i a st
    intro hok H locs la hl hW hS
    rw [z_do_ite] at h
    refine lv_if_lt hx.1 hx.2.1 hd ht (fun q => ?_) (fun q => ?_)
    · rw [if_pos q] at h
      exact h (bb_okt hok) H locs la hl hW hS
    · rw [if_neg q] at h
      exact h (bb_okt hok) H locs la hl hW hS
  · exact h.elim
theorem zd_iclt (hx : z_Cx p s m args c E cc own Ts) {off : Int} {t : Nat} (hd : decode cc pc = .ok (.if_icmp .lt off, 3)) (ht : (pc : Int) + off = (t : Int)) : z_Snd p l e R s m args below meth c E cells slots QF Rp C pc (zo_iclt t (pc + 3)) := by
  intro ls st T h
  unfold zo_iclt at h
  split at h
  · rename_i b a st
    intro hok H locs la hl hW hS
    rw [z_do_ite] at h
    refine lv_icmp_lt hx.1 hx.2.1 hd ht (fun q => ?_) (fun q => ?_)
    · rw [if_pos q] at h
      exact h (bb_okt (bb_okt hok)) H locs la hl hW hS
    · rw [if_neg q] at h
      exact h (bb_okt (bb_okt hok)) H locs la hl hW hS
  · exact h.elim
theorem zd_ifge (hx : z_Cx p s m args c E cc own Ts) {off : Int} {t : Nat} (hd : decode cc pc = .ok (.ifCond .ge off, 3)) (ht : (pc : Int) + off = (t : Int)) : z_Snd p l e R s m args below meth c E cells slots QF Rp C pc (zo_ifge t (pc + 3)) := by
  intro ls st T h
  unfold zo_ifge at h
  split at h
  · rename_i a st
    intro hok H locs la hl hW hS
    rw [z_do_ite] at h
    refine lv_if_ge hx.1 hx.2.1 hd ht (fun q => ?_) (fun q => ?_)
    · rw [if_pos q] at h
      exact h (bb_okt hok) H locs la hl hW hS
    · rw [if_neg q] at h
      exact h (bb_okt hok) H locs la hl hW hS
  · exact h.elim
theorem zd_icge (hx : z_Cx p s m args c E cc own Ts) {off : Int} {t : Nat} (hd : decode cc pc = .ok (.if_icmp .ge off, 3)) (ht : (pc : Int) + off = (t : Int)) : z_Snd p l e R s m args below meth c E cells slots QF Rp C pc (zo_icge t (pc + 3)) := by
  intro ls st T h
  unfold zo_icge at h
  split at h
  · rename_i b a st
    intro hok H locs la hl hW hS
    rw [z_do_ite] at h
    refine lv_icmp_ge hx.1 hx.2.1 hd ht (fun q => ?_) (fun q => ?_)
    · rw [if_pos q] at h
      exact h (bb_okt (bb_okt hok)) H locs la hl hW hS
    · rw [if_neg q] at h
      exact h (bb_okt (bb_okt hok)) H locs la hl hW hS
  · exact h.elim
theorem zd_ifgt (hx : z_Cx p s m args c E cc own Ts) {off : Int} {t : Nat} (hd : decode cc pc = .ok (.ifCond .gt off, 3)) (ht : (pc : Int) + off = (t : Int)) : z_Snd p l e R s m args below meth c E cells slots QF Rp C pc (zo_ifgt t (pc + 3)) := by
  intro ls st T h
  unfold zo_ifgt at h
  split at h
  · rename_i a st
    intro hok H locs la hl hW hS
    rw [z_do_ite] at h
    refine lv_if_gt hx.1 hx.2.1 hd ht (fun q => ?_) (fun q => ?_)
    · rw [if_pos q] at h
      exact h (bb_okt hok) H locs la hl hW hS
    · rw [if_neg q] at h
      exact h (bb_okt hok) H locs la hl hW hS
  · exact h.elim
theorem zd_icgt (hx : z_Cx p s m args c E cc own Ts) {off : Int} {t : Nat} (hd : decode cc pc = .ok (.if_icmp .gt off, 3)) (ht : (pc : Int) + off = (t : Int)) : z_Snd p l e R s m args below meth c E cells slots QF Rp C pc (zo_icgt t (pc + 3)) := by
  intro ls st T h
  unfold zo_icgt at h
  split at h
  · rename_i b a st
    intro hok H locs la hl hW hS
    rw [z_do_ite] at h
    refine lv_icmp_gt hx.1 hx.2.1 hd ht (fun q => ?_) (fun q => ?_)
    · rw [if_pos q] at h
      exact h (bb_okt (bb_okt hok)) H locs la hl hW hS
    · rw [if_neg q] at h
      exact h (bb_okt (bb_okt hok)) H locs la hl hW hS
  · exact h.elim
theorem zd_ifle (hx : z_Cx p s m args c E cc own Ts) {off : Int} {t : Nat} (hd : decode cc pc = .ok (.ifCond .le off, 3)) (ht : (pc : Int) + off = (t : Int)) : z_Snd p l e R s m args below meth c E cells slots QF Rp C pc (zo_ifle t (pc + 3)) := by
  intro ls st T h
  unfold zo_ifle at h
  split at h
  · rename_i a st
    intro hok H locs la hl hW hS
    rw [z_do_ite] at h
    refine lv_if_le hx.1 hx.2.1 hd ht (fun q => ?_) (fun q => ?_)
    · rw [if_pos q] at h
      exact h (bb_okt hok) H locs la hl hW hS
    · rw [if_neg q] at h
      exact h (bb_okt hok) H locs la hl hW hS
  · exact h.elim
theorem zd_icle (hx : z_Cx p s m args c E cc own Ts) {off : Int} {t : Nat} (hd : decode cc pc = .ok (.if_icmp .le off, 3)) (ht : (pc : Int) + off = (t : Int)) : z_Snd p l e R s m args below meth c E cells slots QF Rp C pc (zo_icle t (pc + 3)) := by
  intro ls st T h
  unfold zo_icle at h
  split at h
  · rename_i b a st
    intro hok H locs la hl hW hS
    rw [z_do_ite] at h
    refine lv_icmp_le hx.1 hx.2.1 hd ht (fun q => ?_) (fun q => ?_)
    · rw [if_pos q] at h
      exact h (bb_okt (bb_okt hok)) H locs la hl hW hS
    · rw [if_neg q] at h
      exact h (bb_okt (bb_okt hok)) H locs la hl hW hS
  · exact h.elim
theorem z_sw_do {K : z_K} {x : Int32} {ls st : List bb_V} {T : z_T} {d : Nat} : ∀ cs : List (Int32 × Nat), z_do C Rp K T (z_sw x ls st d cs) → (∃ q ∈ cs, x = q.1 ∧ K q.2 ls st T) ∨ ((∀ q ∈ cs, x ≠ q.1) ∧ K d ls st T)
  | [], h => Or.inr ⟨fun q hq => absurd hq List.not_mem_nil, h⟩
  | (a, t) :: r, h => by
    unfold z_sw at h
    rw [z_do_ite] at h
    by_cases hxa : x = a
    · rw [if_pos hxa] at h
      exact Or.inl ⟨(a, t), List.mem_cons_self, hxa, h⟩
    · rw [if_neg hxa] at h
      rcases z_sw_do r h with ⟨q, h1, h2, h3⟩ | ⟨h1, h2⟩
      · exact Or.inl ⟨q, List.mem_cons_of_mem _ h1, h2, h3⟩
      · exact Or.inr ⟨List.forall_mem_cons.mpr ⟨hxa, h1⟩, h2⟩
theorem zd_tsw (hx : z_Cx p s m args c E cc own Ts) {dflt lo hi : Int} {offs : Array Int} {len d : Nat} {cs : List (Int32 × Nat)} (hd : decode cc pc = .ok (.tableswitch dflt lo hi offs, len)) (h1 : ∀ q ∈ cs, offs[(q.1.toInt - lo).toNat]? = some ((q.2 : Int) - (pc : Int)) ∧ ¬ q.1.toInt < lo ∧ ¬ hi < q.1.toInt) (h2 : ∀ j, j < (hi - lo + 1).toNat → ∃ q ∈ cs, q.1.toInt = lo + (j : Int)) (h3 : (pc : Int) + dflt = (d : Int)) : z_Snd p l e R s m args below meth c E cells slots QF Rp C pc (zo_sw cs d) := by
  intro ls st T h
  unfold zo_sw at h
  split at h
  · rename_i x st
    intro hok H locs la hl hW hS
    rcases z_sw_do cs h with ⟨q, a1, a2, a3⟩ | ⟨a1, a2⟩
    · obtain ⟨b1, b2, b3⟩ := h1 q a1
      subst a2
      exact lv_tableIn hx.1 hx.2.1 hd b2 b3 b1 (by omega) (a3 (bb_okt hok) H locs la hl hW hS)
    · refine lv_tableOut hx.1 hx.2.1 hd ?_ h3 (a2 (bb_okt hok) H locs la hl hW hS)
      by_cases g1 : x.toInt < lo
      · exact Or.inl g1
      · by_cases g2 : hi < x.toInt
        · exact Or.inr g2
        · obtain ⟨q, b1, b2⟩ := h2 (x.toInt - lo).toNat (by omega)
          exact absurd (Int32.toInt_inj.mp (by rw [b2]; omega)) (a1 q b1)
  · exact h.elim
theorem zd_fail : z_Snd p l e R s m args below meth c E cells slots QF Rp C pc zo_fail := fun _ _ _ h => h.elim
theorem z_callQ {H : Heap} {locs : List Loc} {la : Array Slot} {st0 rest : List Value} {r : Int32} {T' : z_T} {a : Array Value} (hr : va_Run p l e R s m args below meth c H locs cells slots 0 0 (F0 m pc la st0) rest (z_Q E (fun r' T2 => r' = r ∧ T2 = T') a) (z_B E)) (hS : va_S (z_B E) s.heap H locs)
    (kk : ∀ (H1 : Heap) (locs1 : List Loc), z_W E T' H1 → va_S (z_B E) s.heap H1 locs1 → W p l e R s m args below meth c H1 locs1 cells slots QF (F0 m (pc + 3) la (.int r :: rest))) : W p l e R s m args below meth c H locs cells slots QF (F0 m pc la st0) := by
  intro T hT X
  obtain ⟨v, st₀, t, T', L, h0, X', hL, e1, e2, ⟨⟨r', M2, ⟨g1, g2⟩, hv, hW⟩, hz, hk⟩, st⟩ := hr T hT X
  subst g1
  subst g2
  cases hv
  rw [h0] at hz hk
  obtain ⟨t2, a1, b1⟩ := kk T'.heap (locs ++ L) (by rw [e1]; exact hW)
    ⟨Nat.le_trans hS.1 (by rw [e1]; exact hz), fun q h1 h2 => by rw [e1, hk q (Nat.lt_of_lt_of_le h1 hS.1) h2]; exact hS.2.1 q h1 h2, fun q hq => by
      rcases List.mem_append.mp hq with h | h
      · exact hS.2.2 q h
      · exact hL q h⟩ T' rfl X'
  exact ⟨t2, st t2 a1, b1⟩
def z_mS (y a : Nat) : Prop := (Cond.static (z_md y).1 ∈ bb_TB ∧ Cond.initialized (z_md y).1.cls ∈ bb_TB ∧ Cond.code (z_md y).1 (z_md y).2.1 (z_md y).2.2.1 (z_md y).2.2.2 ∈ bb_TB) ∧ ((z_md y).1.cls ≠ "java/lang/invoke/MethodHandle" ∧ (z_md y).1.cls ≠ "java/lang/invoke/VarHandle" ∧ (parseMethodDescriptor (z_md y).1.desc).map (fun d => d.parameters.length) = some a) ∧ (z_md y).2.2.1 ≤ 17 ∧ a ≤ (z_md y).2.2.1
theorem zd_call_any (hx : z_Cx p s m args c E cc own Ts) (hcs : z_CS l R E C) (hTB : ∀ w ∈ bb_TB, w ∈ Ts) (hcl : cells ≤ R.cells) (hsl : slots ≤ R.slots) {idx y a : Nat} (hd : decode cc pc = .ok (.invokestatic idx, 3)) (hw : Cond.methodLink own idx (z_md y).1 ∈ bb_TB) (hm : z_mS y a) (hy : y < 8) {ls st : List bb_V} {T : z_T} (ha : a ≤ st.length) (hwt : bb_wt (st.drop a) ≤ 8) (hnj : bb_nj (st.take a) = true) (h : z_call C y (st.take a).reverse T (fun r T' => z_G p l e R s m args below meth c E cells slots QF (pc + 3) ls (bb_I r :: st.drop a) T')) : z_G p l e R s m args below meth c E cells slots QF pc ls st T := by
  obtain ⟨r, T', hC, h⟩ := h
  intro hok H locs la hl hW hS
  have hok1 : ∀ v ∈ st.take a, bb_ok v := fun v hv => hok v (List.mem_of_mem_take hv)
  have hok2 : ∀ v ∈ st.drop a, bb_ok v := fun v hv => hok v (List.mem_of_mem_drop hv)
  have hlen : ((st.take a).reverse).length = a := by rw [List.length_reverse, List.length_take]; omega
  obtain ⟨rm, ⟨r1, r2⟩, ⟨r3, r4⟩, hM⟩ := hcs.1 y _ T r T' hy hC (bb_okr hok1) ⟨by rw [bb_njrev]; exact hnj, by rw [hlen]; exact hm.2.2.2⟩
  have cb := callB_of (R := R) (s := s) (args := args) (own := own) (index := idx) (mc := 0) (ms := 0) a hx.2.2.2.1 (z_good hTB hm.1.2.2) rfl r1 r2 (hx.2.2.2.1 _ (hTB _ hm.1.2.1)) (hx.2.2.2.1 _ (hTB _ hw)) hm.2.1 ⟨r3, by have := hm.2.2.1; omega⟩
  refine z_callQ (rest := (st.drop a).map (bb_cv (z_ad E))) (va_runS (As := ((st.take a).reverse).map (bb_cv (z_ad E))) ⟨hx.1, hx.2.1, rfl, hx.2.2.1, hx.2.2.2.1⟩ hM ⟨cb, hx.2.2.2.1 _ (hTB _ hm.1.1)⟩ ⟨z_blind, fun U hU hwm => ⟨rfl, by rw [hU]; exact hW, hx.2.2.2.2.at hS hU hwm⟩⟩ rfl (by rw [List.length_map]; exact hlen) hl.2.1.2 ?_ (lv_room (by rw [bb_wt_sum]; exact hwt)) hd ⟨hcl, hsl⟩) hS (fun H1 locs1 hW1 hS1 => ?_)
  · show st.map (bb_cv (z_ad E)) = _
    rw [← List.map_reverse, List.reverse_reverse, ← List.map_append, List.take_append_drop]
  · exact h (bb_okc trivial hok2) H1 locs1 la hl hW1 hS1
theorem zd_call (hx : z_Cx p s m args c E cc own Ts) (hcs : z_CS l R E C) (hTB : ∀ w ∈ bb_TB, w ∈ Ts) (hcl : cells ≤ R.cells) (hsl : slots ≤ R.slots) {idx y a : Nat} (hd : decode cc pc = .ok (.invokestatic idx, 3)) (hw : Cond.methodLink own idx (z_md y).1 ∈ bb_TB) (hm : z_mS y a) (hy : y < 8) : z_Snd p l e R s m args below meth c E cells slots QF Rp C pc (zo_call y a (pc + 3)) := by
  intro ls st T h
  unfold zo_call at h
  rw [z_do_if] at h
  obtain ⟨⟨⟨_, h1, h2⟩, h3⟩, h⟩ := h
  exact zd_call_any hx hcs hTB hcl hsl hd hw hm hy h1 h2 h3 h
theorem zd_callc (hx : z_Cx p s m args c E cc own Ts) (hcs : z_CS l R E C) (hTB : ∀ w ∈ bb_TB, w ∈ Ts) (hcl : cells ≤ R.cells) (hsl : slots ≤ R.slots) {idx : Nat} (hd : decode cc pc = .ok (.invokestatic idx, 3)) (hw : Cond.methodLink own idx (z_md 0).1 ∈ bb_TB) (hm : z_mS 0 2) : z_Snd p l e R s m args below meth c E cells slots QF Rp C pc (zo_callc (pc + 3)) := by
  intro ls st T h
  unfold zo_callc at h
  split at h
  · rename_i k t
    rw [z_do_if] at h
    obtain ⟨h1, h⟩ := h
    exact zd_call_any (y := 0) (a := 2) hx hcs hTB hcl hsl hd hw hm (by decide) (by simp) h1 rfl h
  · exact h.elim
theorem z_of {d y : Nat} {as : List bb_V} {M : bb_M} {o : Int32 × bs_S} (h : bs_api d y as M o) : ∃ M', bb_CL (d + 8) y as M (some (bb_I o.1)) M' ∧ bs_CI M' o.2 := by
  obtain ⟨M', h1, h2, _⟩ := h
  obtain ⟨r, M2, a1, a2, a3⟩ := (h1 (fun r M2 => r = some (bb_I o.1) ∧ M2 = M')).mpr ⟨rfl, rfl⟩
  subst a2
  subst a3
  exact ⟨_, a1, h2⟩
theorem z_intm (a1 a2 : Nat → Nat → Nat) : ∀ {as : List bb_V}, z_int as = true → as.map (bb_cv a1) = as.map (bb_cv a2) ∧ bb_nj as = true ∧ ∀ v ∈ as, bb_ok v
  | [], _ => ⟨rfl, rfl, fun _ h => absurd h List.not_mem_nil⟩
  | .inl x :: t, h => by
    obtain ⟨h1, h2, h3⟩ := z_intm a1 a2 (as := t) h
    exact ⟨by rw [List.map_cons, List.map_cons, h1]; rfl, h2, List.forall_mem_cons.mpr ⟨trivial, h3⟩⟩
  | .inr (.inl _) :: t, h => by simp [z_int] at h
  | .inr (.inr _) :: t, h => by simp [z_int] at h
theorem z_intr : ∀ (t u : List bb_V), z_int (t ++ u) = (z_int t && z_int u)
  | [], u => rfl
  | .inl _ :: t, u => z_intr t u
  | .inr _ :: t, u => rfl
theorem z_intrev : ∀ t : List bb_V, z_int t.reverse = z_int t
  | [] => rfl
  | v :: t => by
    rw [List.reverse_cons, z_intr, z_intrev t, show v :: t = [v] ++ t from rfl, z_intr, Bool.and_comm]
theorem z_ok {S : bs_S} {y : Nat} {as : List bb_V} {o : Int32 × bs_S} (h : z_api S y as = some o) : (∀ {M : bb_M}, bs_CI M S → ∃ M', bb_CL 8 (z_id y) (bb_R 6 0 :: as) M (some (bb_I o.1)) M' ∧ bs_CI M' o.2) ∧ bb_mV (z_id y) 6 (as.length + 1) := by
  unfold z_api at h
  split at h
  · exact Option.some.inj h ▸ ⟨fun hM => z_of (d := 0) (c_dump hM), mV_2⟩
  · exact Option.some.inj h ▸ ⟨fun hM => z_of (d := 0) (c_setLevel hM), mV_3⟩
  · exact Option.some.inj h ▸ ⟨fun hM => z_of (d := 0) (c_set hM), mV_4⟩
  · exact Option.some.inj h ▸ ⟨fun hM => z_of (d := 0) (c_wave hM), mV_5⟩
  · exact Option.some.inj h ▸ ⟨fun hM => z_of (d := 0) (c_strike hM), mV_6⟩
  · exact Option.some.inj h ▸ ⟨fun hM => z_of (d := 0) (c_run hM), mV_7⟩
  · exact Option.some.inj h ▸ ⟨fun hM => z_of (d := 0) (c_settle hM), mV_8⟩
  · exact Option.some.inj h ▸ ⟨fun hM => z_of (d := 0) (c_undo hM), mV_9⟩
  · exact Option.some.inj h ▸ ⟨fun hM => z_of (d := 0) (c_cell hM), mV_10⟩
  · exact Option.some.inj h ▸ ⟨fun hM => z_of (d := 0) (c_row hM), mV_11⟩
  · exact Option.some.inj h ▸ ⟨fun hM => z_of (d := 0) (c_waiting hM), mV_12⟩
  · exact Option.some.inj h ▸ ⟨fun hM => z_of (d := 0) (c_ended hM), mV_13⟩
  · exact Option.some.inj h ▸ ⟨fun hM => z_of (d := 0) (c_would hM), mV_14⟩
  · exact Option.some.inj h ▸ ⟨fun hM => z_of (d := 0) (c_sand hM), mV_15⟩
  · exact Option.some.inj h ▸ ⟨fun hM => z_of (d := 0) (c_count hM), mV_16⟩
  · cases h
/-- a call of a method of a beach -/
theorem z_virt {ad : Nat → Nat → Nat} (hx : z_Cx p s m args c E cc own Ts) (hR : 9 ≤ R.frames ∧ 324 ≤ R.locals) (hTB : ∀ w ∈ bb_TB, w ∈ Ts) (hcl : cells ≤ R.cells) (hsl : slots ≤ R.slots) (hAd : bb_Ad (z_Ar ad) ad) (hsub : ∀ q, z_Ar ad q → z_B E q) (hst : bb_sta E.D ad E.aI (z_B E) s) {idx y a : Nat} (hd : decode cc pc = .ok (.invokevirtual idx, 3)) (hw : Cond.methodLink own idx (bb_md (z_id y)).1 ∈ bb_TB) {as : List bb_V} {st : List Value} {M : bb_M} {S : bs_S} {o : Int32 × bs_S} (hap : z_api S y as = some o) (hM : bs_CI M S) (hlen : as.length + 1 = a) (hwt : (st.map fun v => v.category).sum ≤ 8) (hint : z_int as = true) {H : Heap} {locs : List Loc} {la : Array Slot} (hla : la.size = c.maxLocals) (hW : bb_W E.D ad E.aI E.aC E.aS M H) (hS : va_S (z_B E) s.heap H locs)
    (kk : ∀ (H1 : Heap) (locs1 : List Loc) (M' : bb_M), bs_CI M' o.2 → bb_W E.D ad E.aI E.aC E.aS M' H1 → (∀ q : Nat, q < H.size → ¬ z_Ar ad q → H1[q]? = H[q]?) → va_S (z_B E) s.heap H1 locs1 → W p l e R s m args below meth c H1 locs1 cells slots QF (F0 m (pc + 3) la (.int o.1 :: st))) : W p l e R s m args below meth c H locs cells slots QF (F0 m pc la ((as.map (bb_cv (z_ad E))).reverse ++ .ref (ad 6 0) :: st)) := by
  obtain ⟨hC, hm⟩ := z_ok hap
  obtain ⟨M', hC, hM'⟩ := hC hM
  obtain ⟨i1, i2, i3⟩ := z_intm (z_ad E) ad hint
  rw [i1]
  have hMet := bb_met l (D := E.D) (aI := E.aI) (aC := E.aC) (aS := E.aS) hAd 8 _ _ M _ M' hC (List.forall_mem_cons.mpr ⟨show 0 < bb_cnt 6 by decide, i3⟩) (fun _ => ⟨i2, hm.2.2.1.2⟩)
  have hts := hx.2.2.2.1
  have cb := callB_of (R := R) (s := s) (args := args) (own := own) (index := idx) (rm := bb_rm 8) (mc := 0) (ms := 0) (a - 1) hts (bb_good hTB hm.1.2.2.2) rfl rfl rfl (hts _ (hTB _ hm.1.2.2.1)) (hts _ (hTB _ hw)) (by rw [← hlen]; exact hm.2.1) ⟨hR.1, by have := hm.2.2.1.1; have := hR.2; show 8 + (_ + 11) + 36 * 8 ≤ _; omega⟩
  obtain ⟨T, N, hcls⟩ := hm.2.2.2.2
  obtain ⟨q0, hq⟩ := bb_pos (k := 6) (i := 0) (by decide) (by decide)
  have hat := bb_WS_at (ad := ad) (aI := E.aI) (aC := E.aC) (aS := E.aS) (M := M) hq
  rw [bb_ce_o (by decide)] at hat
  have hrecv := va_recv hx.2.2.2.2.1 hW.1 hcls hat
  have hr : va_Run p l e R s m args below meth c H locs cells slots 0 0 (F0 m pc la ((as.map (bb_cv ad)).reverse ++ .ref (ad 6 0) :: st)) st (bb_Q E.D ad E.aI E.aC E.aS (z_Ar ad) (fun r' M2 => r' = some (bb_I o.1) ∧ M2 = M') _) (bb_A (z_Ar ad)) := va_runV (As := as.map (bb_cv ad)) (b := ad 6 0) ⟨hx.1, hx.2.1, rfl, hx.2.2.1, hts⟩ hMet ⟨cb, hts _ (hTB _ hm.1.1), hts _ (hTB _ hm.1.2.1)⟩ ⟨bb_blind, hrecv, fun U hU hwm => ⟨rfl, by rw [hU]; exact hW, hx.2.2.2.2.1.moved hwm.alike, z_sta_nar (hst.at hS hU hwm) hsub⟩⟩ rfl (by rw [List.length_map]; omega) hla rfl (lv_room hwt) hd ⟨hcl, hsl⟩
  intro T0 hT X
  obtain ⟨v, st₀, t, T', L, h0, X', hL, e1, e2, ⟨⟨r', M2, ⟨g1, g2⟩, hok, hv, hW1⟩, hz, hk⟩, st'⟩ := hr T0 hT X
  subst g1
  subst g2
  have hv2 : v = some (.int o.1) := by cases hv; rfl
  subst hv2
  rw [h0] at hz hk
  obtain ⟨t2, a1, b1⟩ := kk T'.heap (locs ++ L) M2 hM' (by rw [e1]; exact hW1) (fun q q1 q2 => by rw [e1]; exact hk q q1 q2)
    ⟨Nat.le_trans hS.1 (by rw [e1]; exact hz), fun q h1 h2 => by rw [e1, hk q (Nat.lt_of_lt_of_le h1 hS.1) (fun z => h2 (hsub q z))]; exact hS.2.1 q h1 h2, fun q hq => by
      rcases List.mem_append.mp hq with h | h
      · exact hS.2.2 q h
      · exact hsub _ (hL q h)⟩ T' rfl X'
  exact ⟨t2, st' t2 a1, b1⟩
theorem zd_callv (hx : z_Cx p s m args c E cc own Ts) (hcs : z_CS l R E C) (hTB : ∀ w ∈ bb_TB, w ∈ Ts) (hcl : cells ≤ R.cells) (hsl : slots ≤ R.slots) {idx y a : Nat} (ha : 1 ≤ a) (hd : decode cc pc = .ok (.invokevirtual idx, 3)) (hw : Cond.methodLink own idx (bb_md (z_id y)).1 ∈ bb_TB) : z_Snd p l e R s m args below meth c E cells slots QF Rp C pc (zo_callv y a (pc + 3)) := by
  intro ls st T h
  unfold zo_callv at h
  split at h
  · rename_i k' i t hst
    rw [z_do_if] at h
    obtain ⟨⟨⟨⟨hk, rfl⟩, hy1, hy2⟩, ⟨h1, h2⟩, h3⟩, r, T', hC, h⟩ := h
    intro hok H locs la hl hW hS
    have e1 : st = st.take (a - 1) ++ .inr (.inr (.inl (k', 0))) :: t := by rw [← hst, List.take_append_drop]
    have hok2 : ∀ v ∈ .inr (.inr (.inl (k', 0))) :: t, bb_ok v := fun v hv => hok v (List.mem_of_mem_drop (by rw [hst]; exact hv))
    have hlen : ((st.take (a - 1)).reverse).length + 1 = a := by rw [List.length_reverse, List.length_take]; omega
    obtain ⟨F, hB⟩ := hcs.2.1 y _ T r T' hy1 hC
    obtain ⟨⟨M1, hM1, hW1⟩, M2, hM2, hW2⟩ := hW
    obtain ⟨E1, ⟨Ad1, Ad2⟩, Edj, ⟨sub1, sub2⟩, ⟨st1, st2⟩, -⟩ := hx.2.2.2.2
    have hi3 : z_int (st.take (a - 1)).reverse = true := by rw [z_intrev]; exact h3
    have e2 : ∀ q : Nat, q = z_ad E k' 0 → F0 m pc la (st.map (bb_cv (z_ad E))) = F0 m pc la ((((st.take (a - 1)).reverse).map (bb_cv (z_ad E))).reverse ++ .ref q :: t.map (bb_cv (z_ad E))) := fun q hq => by
      rw [hq, ← List.map_reverse, List.reverse_reverse]
      show F0 m pc la (st.map (bb_cv (z_ad E))) = F0 m pc la ((st.take (a - 1)).map (bb_cv (z_ad E)) ++ (.inr (.inr (.inl (k', 0))) :: t).map (bb_cv (z_ad E)))
      rw [← List.map_append, ← e1]
    rcases hk with rfl | rfl
    · cases ho : z_api T.1 y (st.take (a - 1)).reverse with
      | none =>
        have : z_base F y (.inr (.inr (.inl (40, 0))) :: (st.take (a - 1)).reverse) T = none := by
          show (z_api T.1 y (st.take (a - 1)).reverse).map _ = none
          rw [ho]; rfl
        rw [this] at hB
        cases hB
      | some o =>
        have : z_base F y (.inr (.inr (.inl (40, 0))) :: (st.take (a - 1)).reverse) T = some (o.1, (o.2, T.2)) := by
          show (z_api T.1 y (st.take (a - 1)).reverse).map _ = _
          rw [ho]; rfl
        rw [this] at hB
        cases hB
        refine W.eq (g2 := _) (e2 (E.a1 6 0) rfl) (z_virt hx hcs.2.2 hTB hcl hsl Ad1 sub1 st1 hd hw ho hM1 hlen (by rw [bb_wt_sum]; exact h2) hi3 hl.2.1.2 hW1 hS (fun H1 locs1 M' g1 g2 g3 g4 => ?_))
        exact h (bb_okc trivial (bb_okt hok2)) H1 locs1 la hl ⟨⟨M', g1, g2⟩, M2, hM2, z_keep hW2 (fun k i q1 q2 => g3 _ (z_lt hW2 ⟨k, i, q1, q2, rfl⟩) (fun z => Edj _ z ⟨k, i, q1, q2, rfl⟩))⟩ g4
    · cases ho : z_api T.2 y (st.take (a - 1)).reverse with
      | none =>
        have : z_base F y (.inr (.inr (.inl (41, 0))) :: (st.take (a - 1)).reverse) T = none := by
          show (z_api T.2 y (st.take (a - 1)).reverse).map _ = none
          rw [ho]; rfl
        rw [this] at hB
        cases hB
      | some o =>
        have : z_base F y (.inr (.inr (.inl (41, 0))) :: (st.take (a - 1)).reverse) T = some (o.1, (T.1, o.2)) := by
          show (z_api T.2 y (st.take (a - 1)).reverse).map _ = _
          rw [ho]; rfl
        rw [this] at hB
        cases hB
        refine W.eq (g2 := _) (e2 (E.a2 6 0) rfl) (z_virt hx hcs.2.2 hTB hcl hsl Ad2 sub2 st2 hd hw ho hM2 hlen (by rw [bb_wt_sum]; exact h2) hi3 hl.2.1.2 hW2 hS (fun H1 locs1 M' g1 g2 g3 g4 => ?_))
        exact h (bb_okc trivial (bb_okt hok2)) H1 locs1 la hl ⟨⟨M1, hM1, z_keep hW1 (fun k i q1 q2 => g3 _ (z_lt hW1 ⟨k, i, q1, q2, rfl⟩) (fun z => Edj _ ⟨k, i, q1, q2, rfl⟩ z))⟩, M', g1, g2⟩ g4
  · exact h.elim
end ZD
section ZR
variable {p : Program} {l : Launch} {e : Env} {R : Room} {s : State} {m : MethodId} {args : Array Value} {below : List Frame} {meth : Method} {c : Code} {E : z_D} {cells slots : Nat} {Rp : z_P} {cc : ByteArray} {own : String} {Ts : List Cond} {C : z_C} {pc : Nat}
theorem zd_iret (hx : z_Cx p s m args c E cc own Ts) (hd : decode cc pc = .ok (.ireturn, 1)) (hr : meth.sig.returnType = some .int) (hlk : meth.locks = false) : z_Snd p l e R s m args below meth c E 0 0 (MQ below (z_Q E Rp) args s 0 0 (z_B E)) Rp C pc zo_iret := by
  intro ls st T h
  unfold zo_iret at h
  split at h
  · rename_i v
    intro hok H locs la hl hW hS
    exact W.iret (v := v) hx.1 hx.2.1 hr (fun t ht _ => ⟨⟨v, T, h, rfl, by rw [ht]; exact hW⟩, hS.F ht⟩) hS.2.2 hd hlk
  · exact h.elim
theorem zd_zret (hx : z_Cx p s m args c E cc own Ts) (hd : decode cc pc = .ok (.ireturn, 1)) (hr : meth.sig.returnType = some .boolean) (hlk : meth.locks = false) : z_Snd p l e R s m args below meth c E 0 0 (MQ below (z_Q E Rp) args s 0 0 (z_B E)) Rp C pc zo_zret := by
  intro ls st T h
  unfold zo_zret at h
  split at h
  · rename_i v
    rw [z_do_if] at h
    obtain ⟨hv, h⟩ := h
    intro hok H locs la hl hW hS
    exact W.zret (v := v) hx.1 hx.2.1 hr (by rcases hv with rfl | rfl <;> rfl) (fun t ht _ => ⟨⟨v, T, h, rfl, by rw [ht]; exact hW⟩, hS.F ht⟩) hS.2.2 hd hlk
  · exact h.elim
end ZR
