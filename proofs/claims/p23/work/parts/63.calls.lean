/-! CALLS: the methods, and what a call of one does to the world -/
def bb_mt : List (MethodName × ByteArray × Nat × Option FieldType) := [(yJ6_bitCount_0f7a4, cJ6_bitCount_0f7a4, 6, (some .boolean)), (yJ6_bitCount_0f7a4, cJ6_bitCount_0f7a4, 1, (some .int)), (yX6_dump, cX6_dump, 5, (some .int)), (yX6_setLevel, cX6_setLevel, 3, (some .int)), (yX6_set, cX6_set, 4, (some .int)), (yX6_wave, cX6_wave, 3, (some .int)), (yX6_strike, cX6_strike, 3, (some .int)), (yX6_run, cX6_run, 4, (some .int)), (yX6_settle, cX6_settle, 2, (some .int)), (yX6_undo, cX6_undo, 1, (some .int)), (yX6_cell, cX6_cell, 5, (some .int)), (yX6_row, cX6_row, 4, (some .int)), (yX6_waiting, cX6_waiting, 3, (some .int)), (yX6_ended, cX6_ended, 3, (some .int)), (yX6_would, cX6_would, 4, (some .int)), (yX6_sand, cX6_sand, 3, (some .int)), (yX6_count, cX6_count, 3, (some .int)), (yX6_isRow, cX6_isRow, 1, (some .boolean)), (yX6_isCell, cX6_isCell, 1, (some .boolean)), (yX6_isWaveHeight, cX6_isWaveHeight, 1, (some .boolean)), (yX6_firstHeight, cX6_firstHeight, 1, (some .int)), (yX6_goesSeaward, cX6_goesSeaward, 2, (some .boolean)), (yX6_runWaves, cX6_runWaves, 7, (some .int)), (yX6_sortWaves, cX6_sortWaves, 4, none), (yX6_runsEarlier, cX6_runsEarlier, 5, (some .boolean)), (yX6_letSandFollow, cX6_letSandFollow, 4, (some .int)), (yX0_size, cX0_size, 1, (some .int)), (yX0_record, cX0_record, 2, none), (yX0_takeBack, cX0_takeBack, 2, none), (yX1_copyFrom, cX1_copyFrom, 2, none), (yX1_size, cX1_size, 1, (some .int)), (yX1_rowOf, cX1_rowOf, 2, (some .int)), (yX1_heightOf, cX1_heightOf, 2, (some .int)), (yX1_add, cX1_add, 3, none), (yX1_hasBetween, cX1_hasBetween, 4, (some .boolean)), (yX1_removeBetween, cX1_removeBetween, 5, (some .int)), (yX1_removeAll, cX1_removeAll, 1, none), (yX2_fact, cX2_fact, 2, (some .int)), (yX2_go, cX2_go, 9, none), (yX2_begin, cX2_begin, 3, none), (yX2_end, cX2_end, 3, none), (yX2_breakAt, cX2_breakAt, 8, none), (yX2_give, cX2_give, 6, (some .int)), (yX3_copyFrom, cX3_copyFrom, 2, none), (yX3_heightAt, cX3_heightAt, 3, (some .int)), (yX3_setHeight, cX3_setHeight, 4, none), (yX3_addTo, cX3_addTo, 4, none), (yX3_between, cX3_between, 6, (some .int)), (yX3_all, cX3_all, 1, (some .int)), (yX3_inRow, cX3_inRow, 4, (some .int)), (yX3_isDry, cX3_isDry, 4, (some .boolean)), (yX3_isBar, cX3_isBar, 6, (some .boolean)), (yX3_isGap, cX3_isGap, 6, (some .boolean)), (yX3_isBarFrom, cX3_isBarFrom, 5, (some .boolean)), (yX3_bars, cX3_bars, 5, (some .int)), (yX3_gaps, cX3_gaps, 6, (some .int)), (yX3_allBars, cX3_allBars, 4, (some .int)), (yX3_allGaps, cX3_allGaps, 5, (some .int)), (yX3_allDry, cX3_allDry, 5, (some .int)), (yX3_lastDry, cX3_lastDry, 4, (some .int)), (yX3_greatestDifference, cX3_greatestDifference, 4, (some .int)), (yX3_highestBar, cX3_highestBar, 6, (some .int)), (yX3_scour, cX3_scour, 6, (some .int)), (yX3_scourCell, cX3_scourCell, 3, (some .int)), (yX3_slump, cX3_slump, 4, (some .int)), (yX3_slumpRow, cX3_slumpRow, 6, (some .int)), (yX3_slumpRowOnce, cX3_slumpRowOnce, 7, (some .int)), (yX4_copyFrom, cX4_copyFrom, 2, none), (yX4_takeOver, cX4_takeOver, 3, none), (yX5_length, cX5_length, 1, (some .int))]
def bb_md (y : Nat) : MethodName × ByteArray × Nat × Option FieldType := bb_mt.getD y (yJ6_bitCount_0f7a4, cJ6_bitCount_0f7a4, 1, some .int)
def bb_TB : List Cond := lw_tbl.filter goodWord
theorem bb_tb {i : Nat} {w : Cond} (h : lw_tbl[i]? = some w) (hg : goodWord w = true) : w ∈ bb_TB := List.mem_filter.mpr ⟨List.mem_of_getElem? h, hg⟩
def bb_ws (y : Nat) : List Cond := .code (bb_md y).1 (bb_md y).2.1 (bb_md y).2.2.1 (bb_md y).2.2.2 :: bb_TB
theorem bb_good {Ts : List Cond} {y : Nat} (h : ∀ w ∈ bb_TB, w ∈ Ts) (hc : Cond.code (bb_md y).1 (bb_md y).2.1 (bb_md y).2.2.1 (bb_md y).2.2.2 ∈ bb_TB) : GoodIn Ts (bb_ws y) := by
  intro w hw
  have hm : w ∈ bb_TB := by
    rcases List.mem_cons.mp hw with rfl | h1
    · exact hc
    · exact h1
  exact ⟨h w hm, good_of_word (List.mem_filter.mp hm).2⟩
def bb_rm (d : Nat) : Room := { frames := d, cells := 0, slots := 0, locals := 36 * d }
def bb_CS (l : Launch) (R : Room) (D : va_G) (bs : Nat → Prop) (ad : Nat → Nat → Nat) (aI aC aS : ClassId) (C : bb_C) : Prop := ∀ (y : Nat) (as : List bb_V) (M : bb_M) (r : Option bb_V) (M' : bb_M), C y as M r M' → (∀ v ∈ as, bb_ok v) → (y ≠ 0 → bb_nj as = true ∧ as.length ≤ (bb_md y).2.2.1) → ∃ rm : Room, (rm.cells = 0 ∧ rm.slots = 0) ∧ (rm.frames + 1 ≤ R.frames ∧ rm.locals + 36 ≤ R.locals) ∧ Met l (bb_md y).1 (bb_ws y) rm (va_Pc (as.map (bb_cv ad)) (bb_In D ad aI aC aS bs M)) (bb_Q D ad aI aC aS bs (fun r' M2 => r' = r ∧ M2 = M')) 0 0 (bb_A bs)
theorem bb_sta.at {D : va_G} {ad : Nat → Nat → Nat} {aI : ClassId} {bs : Nat → Prop} {s U : State} {H : Heap} {locs : List Loc} (h : bb_sta D ad aI bs s) (hS : va_S (bb_A bs) s.heap H locs) (hU : U.heap = H) (hwm : s.WarmedH U.vm) : bb_sta D ad aI bs U := by
  have hk : ∀ a : Nat, a < s.heap.size → ¬ bb_A bs a → U.heap[a]? = s.heap[a]? := fun a h1 h2 => by rw [hU]; exact hS.2.1 a h1 h2
  exact ⟨fun k g1 g2 => ((h.1 k g1 g2).moved hwm.alike).kept hk, ⟨(h.2.1.1.moved hwm.alike).kept hk, (h.2.1.2.moved hwm.alike).kept hk⟩, h.2.2.1, h.2.2.2.1, h.2.2.2.2.1, fun q hq => va_Nw.warmF hwm (h.2.2.2.2.2 q hq)⟩
theorem bb_blind {D : va_G} {ad : Nat → Nat → Nat} {aI aC aS : ClassId} {bs : Nat → Prop} {M : bb_M} {av : List Value} : FrameBlind (va_Pc av (bb_In D ad aI aC aS bs M)) := by
  intro a U g mk q
  obtain ⟨e, q1, q2, q3⟩ := q
  exact ⟨e, q1, va_K.moved (u := U) (U := U.calling g mk a) (Vm.Alike.refl U.vm) q2, fun k g1 g2 => va_T.moved (u := U) (U := U.calling g mk a) (Vm.Alike.refl U.vm) (q3.1 k g1 g2), ⟨va_Z.moved (u := U) (U := U.calling g mk a) (Vm.Alike.refl U.vm) q3.2.1.1, va_Z.moved (u := U) (U := U.calling g mk a) (Vm.Alike.refl U.vm) q3.2.1.2⟩, q3.2.2.1, q3.2.2.2.1, q3.2.2.2.2.1, fun q hq => va_Nw.same (u := U) (U := U.calling g mk a) rfl rfl (q3.2.2.2.2.2 q hq)⟩
section SC
variable {p : Program} {l : Launch} {e : Env} {R : Room} {s : State} {m : MethodId} {args : Array Value} {below : List Frame} {meth : Method} {c : Code} {D : va_G} {bs : Nat → Prop} {ad : Nat → Nat → Nat} {aI aC aS : ClassId} {Rp : bb_P} {cc : ByteArray} {own : String} {Ts : List Cond} {C : bb_C} {pc : Nat}
theorem bb_callK {Q : State → Prop} {cells slots : Nat} {H : Heap} {locs : List Loc} {la : Array Slot} {st0 rest : List Value} {r : Option bb_V} {M' : bb_M} {a : Array Value} (hr : va_Run p l e R s m args below meth c H locs cells slots 0 0 (F0 m pc la st0) rest (bb_Q D ad aI aC aS bs (fun r' M2 => r' = r ∧ M2 = M') a) (bb_A bs)) (hS : va_S (bb_A bs) s.heap H locs)
    (kk : ∀ (H1 : Heap) (locs1 : List Loc), (∀ v, r = some v → bb_ok v) → bb_W D ad aI aC aS M' H1 → va_S (bb_A bs) s.heap H1 locs1 → W p l e R s m args below meth c H1 locs1 cells slots Q (F0 m (pc + 3) la ((r.map (bb_cv ad)).toList ++ rest))) : W p l e R s m args below meth c H locs cells slots Q (F0 m pc la st0) := by
  intro T hT X
  obtain ⟨v, st₀, t, T', L, h0, X', hL, e1, e2, ⟨⟨r', M2, ⟨g1, g2⟩, hok, hv, hW⟩, hz, hk⟩, st⟩ := hr T hT X
  subst g1
  subst g2
  have hv2 : v = r'.map (bb_cv ad) := by cases hv; rfl
  subst hv2
  rw [h0] at hz hk
  obtain ⟨t2, a1, b1⟩ := kk T'.heap (locs ++ L) hok (by rw [e1]; exact hW)
    ⟨Nat.le_trans hS.1 (by rw [e1]; exact hz), fun q h1 h2 => by rw [e1, hk q (Nat.lt_of_lt_of_le h1 hS.1) h2]; exact hS.2.1 q h1 h2, fun q hq => by
      rcases List.mem_append.mp hq with h | h
      · exact hS.2.2 q h
      · exact hL q h⟩ T' rfl X'
  exact ⟨t2, st t2 a1, b1⟩
/-- what is asked of a method that is called: a static one, one of an object of kind k -/
def bb_mS (y a : Nat) : Prop := (Cond.static (bb_md y).1 ∈ bb_TB ∧ Cond.initialized (bb_md y).1.cls ∈ bb_TB ∧ Cond.code (bb_md y).1 (bb_md y).2.1 (bb_md y).2.2.1 (bb_md y).2.2.2 ∈ bb_TB) ∧ ((bb_md y).1.cls ≠ "java/lang/invoke/MethodHandle" ∧ (bb_md y).1.cls ≠ "java/lang/invoke/VarHandle" ∧ (parseMethodDescriptor (bb_md y).1.desc).map (fun d => d.parameters.length) = some a) ∧ (bb_md y).2.2.1 ≤ 17 ∧ (y ≠ 0 → a ≤ (bb_md y).2.2.1)
def bb_mV (y k a : Nat) : Prop := (Cond.instanceMethod (bb_md y).1 ∈ bb_TB ∧ Cond.selects (bb_md y).1.cls (bb_md y).1 (bb_md y).1 ∈ bb_TB ∧ Cond.initialized (bb_md y).1.cls ∈ bb_TB ∧ Cond.code (bb_md y).1 (bb_md y).2.1 (bb_md y).2.2.1 (bb_md y).2.2.2 ∈ bb_TB) ∧ ((bb_md y).1.cls ≠ "java/lang/invoke/MethodHandle" ∧ (bb_md y).1.cls ≠ "java/lang/invoke/VarHandle" ∧ (parseMethodDescriptor (bb_md y).1.desc).map (fun d => d.parameters.length) = some (a - 1)) ∧ ((bb_md y).2.2.1 ≤ 17 ∧ a ≤ (bb_md y).2.2.1) ∧ (y ≠ 0 ∧ k < 8 ∧ 1 ≤ a) ∧ ∃ T N, bb_cls[k]? = some ((bb_md y).1.cls, T, N)
theorem bb_njr : ∀ (t u : List bb_V), bb_nj (t ++ u) = (bb_nj t && bb_nj u)
  | [], u => rfl
  | .inl _ :: t, u => bb_njr t u
  | .inr (.inl _) :: t, u => rfl
  | .inr (.inr _) :: t, u => bb_njr t u
theorem bb_njrev : ∀ t : List bb_V, bb_nj t.reverse = bb_nj t
  | [] => rfl
  | v :: t => by
    rw [List.reverse_cons, bb_njr, bb_njrev t, show v :: t = [v] ++ t from rfl, bb_njr, Bool.and_comm]
theorem bb_okr {t : List bb_V} (h : ∀ v ∈ t, bb_ok v) : ∀ v ∈ t.reverse, bb_ok v := fun v hv => h v (List.mem_reverse.mp hv)
theorem bb_okrs {r : Option bb_V} {t : List bb_V} (h : ∀ v, r = some v → bb_ok v) (ht : ∀ v ∈ t, bb_ok v) : ∀ v ∈ r.toList ++ t, bb_ok v := by
  intro v hv
  rcases List.mem_append.mp hv with g | g
  · cases r with
    | none => cases g
    | some u =>
      simp only [Option.toList, List.mem_singleton] at g
      rw [g]
      exact h u rfl
  · exact ht v g
theorem bb_rmap (ad : Nat → Nat → Nat) (r : Option bb_V) (t : List bb_V) : (r.map (bb_cv ad)).toList ++ t.map (bb_cv ad) = (r.toList ++ t).map (bb_cv ad) := by
  cases r <;> rfl
theorem sd_call_any (hx : bb_Cx p s m args c D bs ad aI aC aS cc own Ts) (hcs : bb_CS l R D bs ad aI aC aS C) (hTB : ∀ w ∈ bb_TB, w ∈ Ts) {idx y a : Nat} (hd : decode cc pc = .ok (.invokestatic idx, 3)) (hw : Cond.methodLink own idx (bb_md y).1 ∈ bb_TB) (hm : bb_mS y a) {ls st : List bb_V} {M : bb_M} (ha : a ≤ st.length) (hwt : bb_wt (st.drop a) ≤ 8) (hnj : y ≠ 0 → bb_nj (st.take a) = true) (h : bb_call C y (st.take a).reverse M (fun r M' => bb_G p l e R s m args below meth c D bs ad aI aC aS Rp (pc + 3) ls (r.toList ++ st.drop a) M')) : bb_G p l e R s m args below meth c D bs ad aI aC aS Rp pc ls st M := by
  obtain ⟨r, M', hC, h⟩ := h
  intro hok H locs la hl hW hS
  have hok1 : ∀ v ∈ st.take a, bb_ok v := fun v hv => hok v (List.mem_of_mem_take hv)
  have hok2 : ∀ v ∈ st.drop a, bb_ok v := fun v hv => hok v (List.mem_of_mem_drop hv)
  have hlen : ((st.take a).reverse).length = a := by rw [List.length_reverse, List.length_take]; omega
  obtain ⟨rm, ⟨r1, r2⟩, ⟨r3, r4⟩, hM⟩ := hcs y _ M r M' hC (bb_okr hok1) (fun hy => ⟨by rw [bb_njrev]; exact hnj hy, by rw [hlen]; exact hm.2.2.2 hy⟩)
  have cb := callB_of (R := R) (s := s) (args := args) (own := own) (index := idx) (mc := 0) (ms := 0) a hx.2.2.2.1 (bb_good hTB hm.1.2.2) rfl r1 r2 (hx.2.2.2.1 _ (hTB _ hm.1.2.1)) (hx.2.2.2.1 _ (hTB _ hw)) hm.2.1 ⟨r3, by have := hm.2.2.1; omega⟩
  refine bb_callK (rest := (st.drop a).map (bb_cv ad)) (va_runS (As := ((st.take a).reverse).map (bb_cv ad)) ⟨hx.1, hx.2.1, rfl, hx.2.2.1, hx.2.2.2.1⟩ hM ⟨cb, hx.2.2.2.1 _ (hTB _ hm.1.1)⟩ ⟨bb_blind, fun U hU hwm => ⟨rfl, by rw [hU]; exact hW, hx.2.2.2.2.1.moved hwm.alike, hx.2.2.2.2.2.2.at hS hU hwm⟩⟩ rfl (by rw [List.length_map]; exact hlen) hl.2.1.2 ?_ (lv_room (by rw [bb_wt_sum]; exact hwt)) hd ⟨Nat.zero_le _, Nat.zero_le _⟩) hS (fun H1 locs1 hr hW1 hS1 => ?_)
  · show st.map (bb_cv ad) = _
    rw [← List.map_reverse, List.reverse_reverse, ← List.map_append, List.take_append_drop]
  · rw [bb_rmap]
    exact h (bb_okrs hr hok2) H1 locs1 la hl hW1 hS1
theorem sd_call (hx : bb_Cx p s m args c D bs ad aI aC aS cc own Ts) (hcs : bb_CS l R D bs ad aI aC aS C) (hTB : ∀ w ∈ bb_TB, w ∈ Ts) {idx y a : Nat} (hd : decode cc pc = .ok (.invokestatic idx, 3)) (hw : Cond.methodLink own idx (bb_md y).1 ∈ bb_TB) (hm : bb_mS y a) : bb_Snd p l e R s m args below meth c D bs ad aI aC aS Rp C pc (bo_call y a (pc + 3)) := by
  intro ls st M h
  unfold bo_call at h
  rw [bb_do_if] at h
  obtain ⟨⟨⟨h1, h2⟩, h3⟩, h⟩ := h
  exact sd_call_any hx hcs hTB hd hw hm h1 h2 (fun _ => h3) h
/-- a call of a method of an object, from any frame: for the law's own calls too -/
theorem bb_virt {Q : State → Prop} {cells slots : Nat} (hx : p.tables.exec = Jvm.exec) (hb : c.code = cc) (hown : s.vm.findClass own = some m.cls) (hts : ∀ w ∈ Ts, w.before args s = true) (hK : va_K D bb_cls (bb_tys aI aC aS) s) (hst : bb_sta D ad aI bs s) (hcs : bb_CS l R D bs ad aI aC aS C) (hTB : ∀ w ∈ bb_TB, w ∈ Ts) (hcl : cells ≤ R.cells) (hsl : slots ≤ R.slots) {idx y k i a : Nat} (hd : decode cc pc = .ok (.invokevirtual idx, 3)) (hw : Cond.methodLink own idx (bb_md y).1 ∈ Ts) (hm : bb_mV y k a) {as : List bb_V} {st : List Value} {M M' : bb_M} {r : Option bb_V} (hlen : as.length + 1 = a) (hwt : (st.map fun v => v.category).sum ≤ 8) (hnj : bb_nj as = true) (hok : ∀ v ∈ as, bb_ok v) (hi : i < bb_cnt k) (hC : C y (.inr (.inr (.inl (k, i))) :: as) M r M') {H : Heap} {locs : List Loc} {la : Array Slot} (hla : la.size = c.maxLocals) (hW : bb_W D ad aI aC aS M H) (hS : va_S (bb_A bs) s.heap H locs)
    (kk : ∀ (H1 : Heap) (locs1 : List Loc), (∀ v, r = some v → bb_ok v) → bb_W D ad aI aC aS M' H1 → va_S (bb_A bs) s.heap H1 locs1 → W p l e R s m args below meth c H1 locs1 cells slots Q (F0 m (pc + 3) la ((r.map (bb_cv ad)).toList ++ st))) : W p l e R s m args below meth c H locs cells slots Q (F0 m pc la ((as.map (bb_cv ad)).reverse ++ .ref (ad k i) :: st)) := by
  obtain ⟨rm, ⟨r1, r2⟩, ⟨r3, r4⟩, hM⟩ := hcs y _ M r M' hC (List.forall_mem_cons.mpr ⟨hi, hok⟩) (fun _ => ⟨hnj, by rw [List.length_cons, hlen]; exact hm.2.2.1.2⟩)
  have cb := callB_of (R := R) (s := s) (args := args) (own := own) (index := idx) (mc := 0) (ms := 0) (a - 1) hts (bb_good hTB hm.1.2.2.2) rfl r1 r2 (hts _ (hTB _ hm.1.2.2.1)) (hts _ hw) hm.2.1 ⟨r3, by have := hm.2.2.1.1; omega⟩
  obtain ⟨T, N, hcls⟩ := hm.2.2.2.2
  obtain ⟨q0, hq⟩ := bb_pos (k := k) (i := i) (by have := hm.2.2.2.1.2.1; omega) hi
  have hat := bb_WS_at (ad := ad) (aI := aI) (aC := aC) (aS := aS) (M := M) hq
  rw [bb_ce_o hm.2.2.2.1.2.1] at hat
  have hrecv := va_recv hK hW.1 hcls hat
  refine bb_callK (rest := st) (va_runV (As := as.map (bb_cv ad)) (b := ad k i) ⟨hx, hb, rfl, hown, hts⟩ hM ⟨cb, hts _ (hTB _ hm.1.1), hts _ (hTB _ hm.1.2.1)⟩ ⟨bb_blind, hrecv, fun U hU hwm => ⟨rfl, by rw [hU]; exact hW, hK.moved hwm.alike, hst.at hS hU hwm⟩⟩ rfl (by rw [List.length_map]; omega) hla rfl (lv_room hwt) hd ⟨hcl, hsl⟩) hS kk
theorem sd_callv (hx : bb_Cx p s m args c D bs ad aI aC aS cc own Ts) (hcs : bb_CS l R D bs ad aI aC aS C) (hTB : ∀ w ∈ bb_TB, w ∈ Ts) {idx y k a : Nat} (hd : decode cc pc = .ok (.invokevirtual idx, 3)) (hw : Cond.methodLink own idx (bb_md y).1 ∈ bb_TB) (hm : bb_mV y k a) : bb_Snd p l e R s m args below meth c D bs ad aI aC aS Rp C pc (bo_callv y k a (pc + 3)) := by
  intro ls st M h
  unfold bo_callv at h
  split at h
  · rename_i k' i t hst
    rw [bb_do_if] at h
    obtain ⟨⟨rfl, ⟨h1, h2⟩, h3⟩, r, M', hC, h⟩ := h
    intro hok H locs la hl hW hS
    have e1 : st = st.take (a - 1) ++ .inr (.inr (.inl (k', i))) :: t := by rw [← hst, List.take_append_drop]
    have hok1 : ∀ v ∈ st.take (a - 1), bb_ok v := fun v hv => hok v (List.mem_of_mem_take hv)
    have hok2 : ∀ v ∈ .inr (.inr (.inl (k', i))) :: t, bb_ok v := fun v hv => hok v (List.mem_of_mem_drop (by rw [hst]; exact hv))
    have hlen : ((st.take (a - 1)).reverse).length + 1 = a := by rw [List.length_reverse, List.length_take]; have := hm.2.2.2.1.2.2; omega
    refine W.eq (g2 := F0 m pc la (((st.take (a - 1)).reverse.map (bb_cv ad)).reverse ++ .ref (ad k' i) :: t.map (bb_cv ad))) ?_ (bb_virt hx.1 hx.2.1 hx.2.2.1 hx.2.2.2.1 hx.2.2.2.2.1 hx.2.2.2.2.2.2 hcs hTB (Nat.zero_le _) (Nat.zero_le _) hd (hTB _ hw) hm hlen (by rw [bb_wt_sum]; exact h2) (by rw [bb_njrev]; exact h3) (bb_okr hok1) (bb_okh hok2) hC hl.2.1.2 hW hS (fun H1 locs1 hr hW1 hS1 => ?_))
    · rw [← List.map_reverse, List.reverse_reverse]
      show F0 m pc la (st.map (bb_cv ad)) = F0 m pc la ((st.take (a - 1)).map (bb_cv ad) ++ (.inr (.inr (.inl (k', i))) :: t).map (bb_cv ad))
      rw [← List.map_append, ← e1]
    · rw [bb_rmap]
      exact h (bb_okrs hr (bb_okt hok2)) H1 locs1 la hl hW1 hS1
  · exact h.elim
end SC
