/-! THE CLAIM OUT OF ONE WALK OF THE LAW'S BODY. Your part is whole_start (and what it stands on); all else here is the same for every law, but numbers. -/
def R_law : String := "BeachBarsLaw"
def lw_P (b : Addr) (xs : List Int32) (args : Array Value) (s : State) : Prop := args = #[.ref b] ∧ s.IntsAt b xs ∧ xs.length ≤ 260 ∧ (Jvm.Cond.and given_1 narrow_1).before args s = true
def lw_Q (_ : Array Value) (s : State) (o : Outcome) (t : State) : Prop := o = .returned (some (.int 1)) ∧ Framed s o t [] 600000 7302250
def lw_Z (below : List Frame) (a : Array Value) (s : State) : State → Prop := fun t => ∃ o, t.status = .running ∧ Ended t below o ∧ lw_Q a s o t
/-- the law's own end, with 1 on the stack, nothing written that was there before, its room as the claim has it -/
theorem lw_ret {p : Program} {l : Launch} {e : Env} {s : State} {m : MethodId} {below : List Frame} {meth : Method} {c : Code} {b : Nat} (hx : p.tables.exec = Jvm.exec) (hb : c.code = code) (hr : meth.sig.returnType = ret) (hlocks : meth.locks = false) {pc : Nat} {H : Heap} {ls : Array Slot} (hdg : decode code pc = .ok (.ireturn, 1)) : W p l e room_1 s m #[Value.ref b] below meth c H [] 600000 7302250 (lw_Z below #[Value.ref b] s) (F0 m pc ls [.int 1]) := by
  intro T hT X
  obtain ⟨fs, hret, hrun, hended, hW, hframe⟩ := X.leave (v := some (.int 1)) (hlocks := hlocks) (fun h => by rw [hr] at h; cases h)
  have hmeth' : T.vm.method? m = some meth := X.method'
  refine ⟨T.setFrames fs, ?_, .returned (some (.int 1)), hrun, hended, rfl, ⟨_, rfl⟩, hW, hframe⟩
  jvm_step X.here [X.here.top, hx, hb, hdg, hmeth', hr, ret, narrow_b1]
  (try refine ⟨rfl, ?_⟩); (try refine ⟨rfl, ?_⟩)
  first | (intro acts; rw [hret _ acts rfl rfl rfl]) | rw [hret _ _ rfl rfl rfl]
  exact Steps.refl _
/-- what holds at the law's entry: the machine, the code, the tables' words (any of lw_tbl by 'hts w (by decide +kernel)'), the script of L ints xs at the cell b, what the Statement gives of the start (any of its parts by flat_of_before) -/
def lw_At (p : Program) (s : State) (m : MethodId) (meth : Method) (c : Code) (b L : Nat) (xs : Nat → Int32) : Prop :=
  p.tables.exec = Jvm.exec ∧ c.code = code ∧ meth.sig.returnType = ret ∧ c.maxLocals = 5 ∧ s.vm.findClass R_law = some m.cls ∧ (∀ w ∈ lw_tbl, w.before #[Value.ref b] s = true) ∧ va_X b L xs s s.heap ∧ b < s.heap.size ∧ meth.locks = false ∧ (Jvm.Cond.and given_1 narrow_1).before #[Value.ref b] s = true

theorem bz_TB : ∀ w ∈ bb_TB, w ∈ lw_tbl := fun _ h => (List.mem_filter.mp h).1
section LI
variable {p : Program} {l : Launch} {ev : Env} {R : Room} {s : State} {m : MethodId} {args : Array Value} {below : List Frame} {meth : Method} {c : Code} {D : va_G} {bs b3 : Nat} {aI aC aS : ClassId} {cc : ByteArray} {own : String} {H : Heap} {locs : List Loc} {cells slots : Nat} {Q : State → Prop} {pc : Nat} {ls : Array Slot} {rest : List Value} {A : Nat → Prop}
/-- a constructor is called by the law -/
theorem bz_ini {y : MethodName} {ycc : ByteArray} {n d mc ms idx q : Nat} {e : va_E} {X : Nat → bk_U → va_W} {wr : va_W} (hx : p.tables.exec = Jvm.exec) (hb : c.code = cc) (hown : s.vm.findClass own = some m.cls) (hts : ∀ w ∈ lw_tbl, w.before args s = true) (hE : bk_E D bs aI aC aS b3 s) (hAb : ∀ q, A q → bs ≤ q) (hA : ∀ q, s.heap.size ≤ q → A q) (hM : bk_Mt l D bs aI aC aS b3 y ycc n d mc ms e X) (hyn : y.name = "<init>") (hyc : y.cls ≠ "java/lang/invoke/MethodHandle" ∧ y.cls ≠ "java/lang/invoke/VarHandle" ∧ (parseMethodDescriptor y.desc).map (fun d => d.parameters.length) = some 0) (w1 : Cond.code y ycc n none ∈ bb_TB) (w2 : Cond.initialized y.cls ∈ lw_tbl) (w3 : Cond.methodLink own idx y ∈ lw_tbl) (w4 : Cond.instanceMethod y ∈ lw_tbl) (hn : n ≤ 17) (hR : d + 1 ≤ R.frames ∧ 36 * d + 36 ≤ R.locals) (hc : cells + mc ≤ R.cells) (hs : slots + ms ≤ R.slots) (hls : ls.size = c.maxLocals) (hrest : (rest.map fun v => v.category).sum ≤ 8)
    (hP : va_P D bb_cls (wr ++ [(q, e)]) H) (hD : va_D A (wr ++ [(q, e)])) (hS : va_S A s.heap H locs) (hd : decode cc pc = .ok (.invokespecial idx, 3))
    (kk : ∀ (u : bk_U) (H1 : Heap) (locs1 : List Loc), va_P D bb_cls (wr ++ X q u) H1 → va_D A (wr ++ X q u) → va_S A s.heap H1 locs1 → W p l ev R s m args below meth c H1 locs1 (cells + mc) (slots + ms) Q (F0 m (pc + 3) ls rest)) : W p l ev R s m args below meth c H locs cells slots Q (F0 m pc ls (.ref q :: rest)) := by
  have hq : (wr ++ [(q, e)])[wr.length]? = some (q, e) := by rw [List.getElem?_append_right (Nat.le_refl _), Nat.sub_self]; rfl
  have hPc : va_P D bb_cls [(q, e)] H := fun k x hk => by
    have : k < 1 := (List.getElem?_eq_some_iff.mp hk).1
    obtain rfl : k = 0 := by omega
    cases hk
    exact hP _ _ hq
  have hC : [wr.length].map (fun i => (wr ++ [(q, e)])[i]?) = [(q, e)].map some := by
    show [(wr ++ [(q, e)])[wr.length]?] = _
    rw [hq]
    rfl
  have hFc := va_free (wc := [(q, e)]) hD hS hA [wr.length] hC
  have hbq : bs ≤ q := hAb _ (hD.2 _ _ hq)
  refine va_callv (va_runI (As := []) (rest := rest) ⟨hx, hb, rfl, hown, hts⟩ (hM q H.size hbq) (cwI 0 hts (bk_good bz_TB w1) rfl rfl rfl (hts _ w2) (hts _ w3) (hts _ w4) hyn hyc ⟨hR.1, by show 8 + (n + 11) + 36 * d ≤ R.locals; omega⟩) ⟨bk_blind, fun U hU hW => ⟨rfl, by rw [hU], by rw [hU]; exact hPc, hE.at hS hAb hU hW⟩⟩ rfl rfl hls rfl (lv_room hrest) hd ⟨hc, hs⟩) hS (fun q _ h => hFc q h) hFc (fun u t H1 locs ht hvm hw hB hz1 hk1 hS => ?_)
  obtain ⟨hP1, hD1⟩ := hB
  rw [ht] at hP1
  obtain ⟨hP2, hD2⟩ := va_join (wr := wr) (w1 := X q u) hP hD [wr.length] (List.range wr.length) hC (bk_range_in wr (q, e)) (bk_nd_of _ List.nodup_range) (fun i hi hm => by
    have h1 := List.mem_range.mp hi
    have h2 := List.mem_singleton.mp hm
    omega) hk1 hFc hP1 hD1
  exact kk u H1 locs hP2 hD2 hS
end LI
-- ===== YOUR PART: the walk from the entry =====
set_option maxHeartbeats 8000000 in
set_option maxRecDepth 100000 in
theorem whole_start {p : Program} {e : Env} {s : State} {m : MethodId} {below : List Frame} {meth : Method} {c : Code} (l : Launch) (_hflags : l.flags = flags0) {b L : Nat} {xs : Nat → Int32} (hL : L ≤ 260) (C0 : lw_At p s m meth c b L xs) : W p l e room_1 s m #[Value.ref b] below meth c s.heap [] 0 0 (lw_Z below #[Value.ref b] s) (entryFrame m ([Value.ref b] : List Value).toArray 5) := by
  obtain ⟨hx, hb, hr, hml, hown, hts, hX, hbl, hlocks, hgv⟩ := C0
  have hown : s.vm.findClass "BeachBarsLaw" = some m.cls := hown
  have hs := flat_of_before _ hgv
  have hAx : ∀ a : Nat, a < s.heap.size → ¬ bk_A s.heap.size a := fun a h => Nat.not_le.mpr h
  obtain ⟨t30, ev30, T30⟩ := va_Tof (args := #[Value.ref b]) (s := s) (tm := (.static "BeachBars" "LEAST_SETTING" "[I")) (ty := .int) (N := 4) (f := fun j => .int (bb_cst 30 j)) (A := bk_A s.heap.size) (by decide) (hs _ (by decide +kernel)) (va_eqt (hs _ (by decide +kernel))) (fun j hj => by
    rcases (show j = 0 ∨ j = 1 ∨ j = 2 ∨ j = 3 by omega) with rfl | rfl | rfl | rfl
    · exact va_eqt (z := 1) (hs _ (by decide +kernel))
    · exact va_eqt (z := 0) (hs _ (by decide +kernel))
    · exact va_eqt (z := 1) (hs _ (by decide +kernel))
    · exact va_eqt (z := 4) (hs _ (by decide +kernel))) hAx
  have l30 : t30 < s.heap.size := by
    obtain ⟨cell, h1, -⟩ := T30
    exact (Array.getElem?_eq_some_iff.mp h1).1
  have Z30 : va_Z "BeachBars" "LEAST_SETTING" "[I" (.ref t30) (bk_A s.heap.size) s s.heap := va_Zref (hts _ (List.mem_of_getElem? (i := 446) (by decide +kernel))) (hts _ (List.mem_of_getElem? (i := 14) (by decide +kernel))) ev30 hAx
  obtain ⟨t31, ev31, T31⟩ := va_Tof (args := #[Value.ref b]) (s := s) (tm := (.static "BeachBars" "MOST_SETTING" "[I")) (ty := .int) (N := 4) (f := fun j => .int (bb_cst 31 j)) (A := bk_A s.heap.size) (by decide) (hs _ (by decide +kernel)) (va_eqt (hs _ (by decide +kernel))) (fun j hj => by
    rcases (show j = 0 ∨ j = 1 ∨ j = 2 ∨ j = 3 by omega) with rfl | rfl | rfl | rfl
    · exact va_eqt (z := 20) (hs _ (by decide +kernel))
    · exact va_eqt (z := 2) (hs _ (by decide +kernel))
    · exact va_eqt (z := 20) (hs _ (by decide +kernel))
    · exact va_eqt (z := 30) (hs _ (by decide +kernel))) hAx
  have l31 : t31 < s.heap.size := by
    obtain ⟨cell, h1, -⟩ := T31
    exact (Array.getElem?_eq_some_iff.mp h1).1
  have Z31 : va_Z "BeachBars" "MOST_SETTING" "[I" (.ref t31) (bk_A s.heap.size) s s.heap := va_Zref (hts _ (List.mem_of_getElem? (i := 448) (by decide +kernel))) (hts _ (List.mem_of_getElem? (i := 14) (by decide +kernel))) ev31 hAx
  obtain ⟨t32, ev32, T32⟩ := va_Tof (args := #[Value.ref b]) (s := s) (tm := (.static "BeachBars" "FIRST_SETTING" "[I")) (ty := .int) (N := 4) (f := fun j => .int (bb_cst 32 j)) (A := bk_A s.heap.size) (by decide) (hs _ (by decide +kernel)) (va_eqt (hs _ (by decide +kernel))) (fun j hj => by
    rcases (show j = 0 ∨ j = 1 ∨ j = 2 ∨ j = 3 by omega) with rfl | rfl | rfl | rfl
    · exact va_eqt (z := 8) (hs _ (by decide +kernel))
    · exact va_eqt (z := 0) (hs _ (by decide +kernel))
    · exact va_eqt (z := 3) (hs _ (by decide +kernel))
    · exact va_eqt (z := 12) (hs _ (by decide +kernel))) hAx
  have l32 : t32 < s.heap.size := by
    obtain ⟨cell, h1, -⟩ := T32
    exact (Array.getElem?_eq_some_iff.mp h1).1
  have Z32 : va_Z "BeachBars" "FIRST_SETTING" "[I" (.ref t32) (bk_A s.heap.size) s s.heap := va_Zref (hts _ (List.mem_of_getElem? (i := 72) (by decide +kernel))) (hts _ (List.mem_of_getElem? (i := 14) (by decide +kernel))) ev32 hAx
  obtain ⟨c0, i0, K0⟩ := u_known (C := RX0) (T := TX0) (N := 3) (n := 3) hts (fun w h => bz_TB w (wc_0 w h)) (hts (.instantiable RX0 3) (List.mem_of_getElem? (i := 106) (by decide +kernel)))
  obtain ⟨c1, i1, K1⟩ := u_known (C := RX1) (T := TX1) (N := 3) (n := 3) hts (fun w h => bz_TB w (wc_1 w h)) (hts (.instantiable RX1 3) (List.mem_of_getElem? (i := 56) (by decide +kernel)))
  obtain ⟨c2, i2, K2⟩ := u_known (C := RX2) (T := TX2) (N := 3) (n := 3) hts (fun w h => bz_TB w (wc_2 w h)) (hts (.instantiable RX2 3) (List.mem_of_getElem? (i := 152) (by decide +kernel)))
  obtain ⟨c3, i3, K3⟩ := u_known (C := RX3) (T := TX3) (N := 2) (n := 2) hts (fun w h => bz_TB w (wc_3 w h)) (hts (.instantiable RX3 2) (List.mem_of_getElem? (i := 39) (by decide +kernel)))
  obtain ⟨c4, i4, K4⟩ := u_known (C := RX4) (T := TX4) (N := 7) (n := 7) hts (fun w h => bz_TB w (wc_4 w h)) (hts (.instantiable RX4 7) (List.mem_of_getElem? (i := 33) (by decide +kernel)))
  obtain ⟨c5, i5, K5⟩ := u_known (C := RX5) (T := TX5) (N := 7) (n := 7) hts (fun w h => bz_TB w (wc_5 w h)) (hts (.instantiable RX5 7) (List.mem_of_getElem? (i := 125) (by decide +kernel)))
  obtain ⟨c6, i6, K6⟩ := u_known (C := RX6) (T := TX6) (N := 9) (n := 9) hts (fun w h => bz_TB w (wc_6 w h)) (hts (.instantiable RX6 9) (List.mem_of_getElem? (i := 25) (by decide +kernel)))
  obtain ⟨dC, dI, hKc⟩ : ∃ (dC : Nat → ClassId) (dI : Nat → Nat → Nat), ∀ (k : Nat) (q : vw_C), bb_cls[k]? = some q → u_Kn s q.1 q.2.1 q.2.2 (dC k) (dI k) := by
    refine ⟨fun k => [c0, c1, c2, c3, c4, c5, c6].getD k c0, fun k => [i0, i1, i2, i3, i4, i5, i6].getD k i0, ?_⟩
    intro k q hq
    match k, hq with
    | 0, hq => cases hq; exact K0
    | 1, hq => cases hq; exact K1
    | 2, hq => cases hq; exact K2
    | 3, hq => cases hq; exact K3
    | 4, hq => cases hq; exact K4
    | 5, hq => cases hq; exact K5
    | 6, hq => cases hq; exact K6
    | k + 7, hq => simp [bb_cls] at hq
  obtain ⟨aI, kI, pI, f1, f2, f3⟩ := Cond.arrayClass_spec (hts (.arrayClass .int) (List.mem_of_getElem? (i := 54) (by decide +kernel)))
  obtain ⟨aC, kC, pC, f4, f5, f6⟩ := Cond.arrayClass_spec (hts (.arrayClass .char) (List.mem_of_getElem? (i := 150) (by decide +kernel)))
  have hAO := hts (.arrayOver (.object "BeachBars$State")) (List.mem_of_getElem? (i := 112) (by decide +kernel))
  obtain ⟨pS, aS, kS, g1, g2, g3, g4, g5⟩ := Cond.arrayOver_spec hAO
  have hK : va_K (dC, dI) bb_cls (bb_tys aI aC aS) s := by
    refine ⟨hKc, fun k q hq => ?_⟩
    match k, hq with
    | 0, hq => cases hq; exact ⟨fun n z => ⟨fun k h => (by cases h), kI, f2, pI, f3⟩, f1⟩
    | 1, hq => cases hq; exact ⟨fun n z => ⟨fun k h => (by cases h), kC, f5, pC, f6⟩, f4⟩
    | 2, hq => cases hq; exact ⟨fun n z => ⟨fun k h => (by cases h), kS, g3, pS, g4⟩, kS, pS, g3, g4, g1, g5⟩
    | k + 3, hq => simp [bb_tys] at hq
  have hE : bk_E (dC, dI) s.heap.size aI aC aS t32 s := ⟨hK, ⟨T32, l32, Nat.le_refl _⟩, Z32, ⟨va_Nw.of rfl (hts _ (List.mem_of_getElem? (i := 71) (by decide +kernel))), va_Nw.of rfl (hts _ (List.mem_of_getElem? (i := 44) (by decide +kernel)))⟩, va_AO.of hAO⟩
  have hAb : ∀ q, bk_A s.heap.size q → s.heap.size ≤ q := fun _ h => h
  have hA : ∀ q, s.heap.size ≤ q → bk_A s.heap.size q := fun _ h => h
  have hS : va_S (bk_A s.heap.size) s.heap s.heap [] := va_S.rf
  have hP : va_P (dC, dI) bb_cls [] s.heap := fun k q h => by simp at h
  have hD : va_D (bk_A s.heap.size) [] := ⟨fun i j p q h => by simp at h, fun k q h => by simp at h⟩
  have hl := lv_entry ([.ref b]) (n := 5) (Nat.le_of_ble_eq_true rfl)
  rw [lg_entry_eq]
  generalize (lg_sl ([.ref b]) ++ List.replicate (5 - (lg_sl ([.ref b])).length) Slot.unset).toArray = ls at hl ⊢
  have hl : lv_has ls 5 [(0, .ref b)] := hl
  refine va_new (ci := 6) (fs := [.null, .null, .null, .int 0, .null, .null, .null, .null, .null]) (C := RX6) (T := TX6) (N := 9) (own := "BeachBarsLaw") hx hb hts (fun w h => bz_TB w (wc_6 w h)) tyX6 tyX6_ok hown (hts _ (List.mem_of_getElem? (i := 24) (by decide +kernel))) (hts _ (List.mem_of_getElem? (i := 25) (by decide +kernel))) (hts _ (List.mem_of_getElem? (i := 14) (by decide +kernel))) hK hP hD hS hA rfl (fun j hj => by rcases (show j = 0 ∨ j = 1 ∨ j = 2 ∨ j = 3 ∨ j = 4 ∨ j = 5 ∨ j = 6 ∨ j = 7 ∨ j = 8 by omega) with rfl | rfl | rfl | rfl | rfl | rfl | rfl | rfl | rfl <;> rfl) (Nat.le_of_ble_eq_true rfl) (Nat.le_of_ble_eq_true rfl) dL_law_0 (fun q1 H hP hD hS => ?_)
  refine W.widen (k := 1) (n := 9) (Nat.le_of_ble_eq_true rfl) (Nat.le_of_ble_eq_true rfl) ?_
  refine lv_dup hx hb dL_law_3 rfl ?_
  refine bz_ini (own := "BeachBarsLaw") (wr := []) hx hb hown hts hE hAb hA (k_6 l (dC, dI) s.heap.size aI aC aS t32) rfl (by decide +kernel) (bb_tb (i := 28) (by decide +kernel) rfl) (List.mem_of_getElem? (i := 14) (by decide +kernel)) (List.mem_of_getElem? (i := 26) (by decide +kernel)) (List.mem_of_getElem? (i := 27) (by decide +kernel)) (by decide) ⟨Nat.le_of_ble_eq_true rfl, Nat.le_of_ble_eq_true rfl⟩ (Nat.le_of_ble_eq_true rfl) (Nat.le_of_ble_eq_true rfl) (hl.1.trans hml.symm) (Nat.le_of_ble_eq_true rfl) hP hD hS dL_law_4 (fun u1 H locs hP hD hS => ?_)
  refine W.widen (k := 84) (n := 2529) (Nat.le_of_ble_eq_true rfl) (Nat.le_of_ble_eq_true rfl) ?_
  refine lv_astore_n (lv' := [(1, .ref q1), (0, .ref b)]) hx hb dL_law_7 rfl hl (by decide) rfl (fun ls hl => ?_)
  refine va_new (ci := 6) (fs := [.null, .null, .null, .int 0, .null, .null, .null, .null, .null]) (C := RX6) (T := TX6) (N := 9) (own := "BeachBarsLaw") hx hb hts (fun w h => bz_TB w (wc_6 w h)) tyX6 tyX6_ok hown (hts _ (List.mem_of_getElem? (i := 24) (by decide +kernel))) (hts _ (List.mem_of_getElem? (i := 25) (by decide +kernel))) (hts _ (List.mem_of_getElem? (i := 14) (by decide +kernel))) hK hP hD hS hA rfl (fun j hj => by rcases (show j = 0 ∨ j = 1 ∨ j = 2 ∨ j = 3 ∨ j = 4 ∨ j = 5 ∨ j = 6 ∨ j = 7 ∨ j = 8 by omega) with rfl | rfl | rfl | rfl | rfl | rfl | rfl | rfl | rfl <;> rfl) (Nat.le_of_ble_eq_true rfl) (Nat.le_of_ble_eq_true rfl) dL_law_8 (fun q2 H hP hD hS => ?_)
  refine W.widen (k := 85) (n := 2538) (Nat.le_of_ble_eq_true rfl) (Nat.le_of_ble_eq_true rfl) ?_
  refine lv_dup hx hb dL_law_11 rfl ?_
  refine bz_ini (own := "BeachBarsLaw") (wr := ([] ++ bk_Bb aI aC aS q1 u1)) hx hb hown hts hE hAb hA (k_6 l (dC, dI) s.heap.size aI aC aS t32) rfl (by decide +kernel) (bb_tb (i := 28) (by decide +kernel) rfl) (List.mem_of_getElem? (i := 14) (by decide +kernel)) (List.mem_of_getElem? (i := 26) (by decide +kernel)) (List.mem_of_getElem? (i := 27) (by decide +kernel)) (by decide) ⟨Nat.le_of_ble_eq_true rfl, Nat.le_of_ble_eq_true rfl⟩ (Nat.le_of_ble_eq_true rfl) (Nat.le_of_ble_eq_true rfl) (hl.1.trans hml.symm) (Nat.le_of_ble_eq_true rfl) hP hD hS dL_law_12 (fun u2 H locs hP hD hS => ?_)
  refine W.widen (k := 168) (n := 5058) (Nat.le_of_ble_eq_true rfl) (Nat.le_of_ble_eq_true rfl) ?_
  refine lv_astore_n (lv' := [(2, .ref q2), (1, .ref q1), (0, .ref b)]) hx hb dL_law_15 rfl hl (by decide) rfl (fun ls hl => ?_)
  have hP : va_P (dC, dI) bb_cls (bk_WW aI aC aS q1 u1 ++ bk_WW aI aC aS q2 u2) H := hP
  have hD : va_D (bk_A s.heap.size) (bk_WW aI aC aS q1 u1 ++ bk_WW aI aC aS q2 u2) := hD
  obtain ⟨P1, D1⟩ := bk_world (t30 := t30) (t31 := t31) (t32 := t32) (zlp_l hP) (zld_l hD)
  obtain ⟨P2, D2⟩ := bk_world (t30 := t30) (t31 := t31) (t32 := t32) (zlp_r hP) (zld_r hD)
  have Ad : ∀ ad : Nat → Nat → Nat, va_D (bk_A s.heap.size) (bb_WS ad aI aC aS bk_M0) → bb_Ad (z_Ar ad) ad ∧ ∀ q, z_Ar ad q → s.heap.size ≤ q := fun ad hD => by
    have h := bk_Ad (bs := bk_A s.heap.size) hD
    exact ⟨⟨h.1, fun k i h1 h2 => ⟨k, i, h1, h2, rfl⟩⟩, fun q ⟨k, i, h1, h2, e⟩ => by rw [e]; exact h.2 k i h1 h2⟩
  obtain ⟨Ad1, B1⟩ := Ad _ D1
  obtain ⟨Ad2, B2⟩ := Ad _ D2
  have sta : ∀ q u, bb_sta (dC, dI) (bk_ad q t30 t31 t32 u) aI (bk_A s.heap.size) s := fun q u => by
    refine ⟨fun k h1 h2 => ?_, ⟨Z30, Z31⟩, Nat.not_le.mpr l30, Nat.not_le.mpr l31, Nat.not_le.mpr l32, List.forall_mem_cons.mpr ⟨va_Nw.of rfl (hts _ (List.mem_of_getElem? (i := 77) (by decide +kernel))), List.forall_mem_cons.mpr ⟨va_Nw.of rfl (hts _ (List.mem_of_getElem? (i := 79) (by decide +kernel))), List.forall_mem_cons.mpr ⟨va_Nw.of rfl (hts _ (List.mem_of_getElem? (i := 81) (by decide +kernel))), List.forall_mem_cons.mpr ⟨va_Nw.of rfl (hts _ (List.mem_of_getElem? (i := 83) (by decide +kernel))), List.forall_mem_cons.mpr ⟨va_Nw.of rfl (hts _ (List.mem_of_getElem? (i := 85) (by decide +kernel))), List.forall_mem_cons.mpr ⟨va_Nw.of rfl (hts _ (List.mem_of_getElem? (i := 87) (by decide +kernel))), List.forall_mem_cons.mpr ⟨va_Nw.of rfl (hts _ (List.mem_of_getElem? (i := 89) (by decide +kernel))), List.forall_mem_cons.mpr ⟨va_Nw.of rfl (hts _ (List.mem_of_getElem? (i := 158) (by decide +kernel))), List.forall_mem_cons.mpr ⟨va_Nw.of rfl (hts _ (List.mem_of_getElem? (i := 159) (by decide +kernel))), List.forall_mem_cons.mpr ⟨va_Nw.of rfl (hts _ (List.mem_of_getElem? (i := 161) (by decide +kernel))), fun _ h => absurd h List.not_mem_nil⟩⟩⟩⟩⟩⟩⟩⟩⟩⟩⟩
    rcases (show k = 30 ∨ k = 31 ∨ k = 32 by omega) with rfl | rfl | rfl
    · exact T30
    · exact T31
    · exact T32
  have dj : ∀ q, z_Ar (bk_ad q1 t30 t31 t32 u1) q → ¬ z_Ar (bk_ad q2 t30 t31 t32 u2) q := by
    rintro q ⟨k, i, h1, h2, e1⟩ ⟨k', i', h3, h4, e2⟩
    obtain ⟨j1, x1, y1⟩ := zlw_mem (aI := aI) (aC := aC) (aS := aS) (xb := q1) (t30 := t30) (t31 := t31) (t32 := t32) (u := u1) h1 h2
    obtain ⟨j2, x2, y2⟩ := zlw_mem (aI := aI) (aC := aC) (aS := aS) (xb := q2) (t30 := t30) (t31 := t31) (t32 := t32) (u := u2) h3 h4
    exact zld_x hD y1 y2 (e1.symm.trans e2)
  generalize hEE : (((dC, dI), bk_ad q1 t30 t31 t32 u1, bk_ad q2 t30 t31 t32 u2, aI, aC, aS, s.heap.size, b, L, xs) : z_D) = E
  have hzE : z_E E s := by
    subst hEE
    exact ⟨hK, ⟨Ad1, Ad2⟩, dj, ⟨B1, B2⟩, ⟨sta q1 u1, sta q2 u2⟩, hX, hbl, hbl, hL⟩
  have hzW : z_W E (bk_S0, bk_S0) H := by
    subst hEE
    exact ⟨⟨bk_M0, bk_CI, P1, bk_stc⟩, bk_M0, bk_CI, P2, bk_stc⟩
  have hzS : va_S (z_B E) s.heap H locs := by
    subst hEE
    exact hS
  have hzL : bb_L c.maxLocals (z_ad E) ls [bb_R 42 0, bb_R 40 0, bb_R 41 0, bb_U, bb_U] := by
    subst hEE
    refine ⟨hl.2.1, ⟨hl.1, hl.1.trans hml.symm⟩, fun i v hv => ?_⟩
    match i, hv with
    | 0, hv => cases hv; exact Or.inr ⟨hl.2.2 (0, .ref b) (by simp), show 0 < bb_cnt 42 by decide, rfl⟩
    | 1, hv => cases hv; exact Or.inr ⟨hl.2.2 (1, .ref q1) (by simp), show 0 < bb_cnt 40 by decide, rfl⟩
    | 2, hv => cases hv; exact Or.inr ⟨hl.2.2 (2, .ref q2) (by simp), show 0 < bb_cnt 41 by decide, rfl⟩
    | 3, hv => cases hv; exact Or.inl rfl
    | 4, hv => cases hv; exact Or.inl rfl
    | i + 5, hv => simp at hv
  have hb0 : ∀ q, z_B E q → s.heap.size ≤ q := by
    subst hEE
    exact fun q h => h
  have hcs : z_CS l room_1 E (z_CL (z_F E) 2) := z_CS_of l ⟨Nat.le_of_ble_eq_true rfl, Nat.le_of_ble_eq_true rfl⟩ (z_met l 2)
  have hret : z_Snd p l e room_1 s m #[Value.ref b] below meth c E 168 5058 (lw_Z below #[Value.ref b] s) (fun v _ => v = 1) (z_CL (z_F E) 2) 112 zo_zret := by
    intro ls st T h
    unfold zo_zret at h
    split at h
    · rename_i v
      rw [z_do_if] at h
      obtain ⟨-, h⟩ := h
      have h : v = 1 := h
      subst h
      intro hok H locs la hl hW hS
      refine va_forget (fun q hq => hb0 _ (hS.2.2 q hq)) ?_
      refine W.widen (k := 600000) (n := 7302250) (Nat.le_of_ble_eq_true rfl) (Nat.le_of_ble_eq_true rfl) ?_
      exact lw_ret hx hb hr hlocks dL_law_112
    · exact h.elim
  refine W.widen (k := 168) (n := 5058) (Nat.le_of_ble_eq_true rfl) (Nat.le_of_ble_eq_true rfl) ?_
  exact zl_run (F := z_F E) zl_I (z_G p l e room_1 s m #[Value.ref b] below meth c E 168 5058 (lw_Z below #[Value.ref b] s)) (fun pc ls st T2 h2 => zn_L_law ⟨hx, hb, hown, hts, hzE⟩ hcs (Nat.le_of_ble_eq_true rfl) (Nat.le_of_ble_eq_true rfl) hret pc ls st T2 h2) (fun v hv => absurd hv List.not_mem_nil) H locs ls hzL hzW hzS
-- ===== YOUR PART ENDS =====
set_option maxHeartbeats 4000000 in
theorem lw_walk (l : Launch) (hflags : l.flags = flags0) (b : Addr) (xs : List Int32) : MetFree l x (headSpec (Jvm.Cond.code x code maxLocals ret :: tables_1) room_1) (lw_P b xs) (fun _ _ _ _ _ => True) lw_Q := by
  refine MetFree.of_bodyS (code := code) (maxLocals := maxLocals) (ret := ret) (by decide) ?_ ?_
  · intro args s m h hn
    obtain ⟨meth, c, h1, h2, h3, h4, h5, h6, -, -⟩ := Cond.code_spec hn (atoms_spec (ws := Jvm.Cond.code x code maxLocals ret :: tables_1) h _ List.mem_cons_self)
    exact ⟨meth, c, h1, h2, h3, h4, h5, h6⟩
  · intro p e s m args below meth c s₁ B hml0 hP _
    obtain ⟨rfl, hx, hbd, hgv⟩ := hP
    obtain ⟨scr, harrAt, hlist, hof, hsmall⟩ := hx
    obtain ⟨hcb, hkn, -, -⟩ := State.arrayAt?_spec harrAt
    have hown : s.vm.findClass R_law = some m.cls := findClass_of_methodNamed B.named
    have hts0 : ∀ c ∈ (Jvm.Cond.code x code maxLocals ret :: tables_1), c.before #[Value.ref b] s = true := atoms_spec (ws := Jvm.Cond.code x code maxLocals ret :: tables_1) B.pre
    have hts : ∀ w ∈ lw_tbl, w.before #[Value.ref b] s = true := k2_hts_sels lw_privs (fun w hw => hts0 w (List.mem_cons_of_mem _ hw)) lw_privs_ok
    have hml : c.maxLocals = 5 := B.maxLocals_eq (hts0 _ List.mem_cons_self)
    have X₀ : Stand p l e room_1 s m #[Value.ref b] below meth c s₁ [] 0 0 := Stand.of_body B
    have hh0 : s₁.heap = s.heap := by rw [B.state]; rfl
    have hsz : scr.slots.size = xs.length := by rw [← Array.length_toList, hlist, List.length_map]
    have hval : ∀ j : Nat, j < xs.length → scr.slots[j]? = some (.int (xs.getD j 0)) := fun j hj => by
      rw [← Array.getElem?_toList, hlist]
      simp [hj]
    have hbl : b < s.heap.size := (Array.getElem?_eq_some_iff.mp hcb).1
    have hX : va_X b xs.length (fun j => xs.getD j 0) s s.heap := ⟨scr, hcb, hof, hkn, hsz, hval⟩
    have K : W p l e room_1 s m #[Value.ref b] below meth c s₁.heap [] 0 0 (lw_Z below #[Value.ref b] s) (entryFrame m ([Value.ref b] : List Value).toArray 5) := by
      rw [hh0]
      exact whole_start l hflags hbd ⟨B.exec, B.bytes, B.returns, hml, hown, hts, hX, hbl, B.notSynchronized, hgv⟩
    obtain ⟨t, a1, o, b1, b2, b3⟩ := K s₁ rfl X₀
    exact ⟨t, o, a1, b1, b2, b3⟩
theorem lw_pre_spec {args : Array Value} {s : State} (h : (Jvm.Cond.and given_1 narrow_1).before args s = true) (hr : rest_1_c.before args s = true) : ∃ (b : Addr) (xs : List Int32), lw_P b xs args s := by
  have hs := flat_of_before _ h
  have hq := flat_of_before _ hr
  have hc : (Cond.count 1).before args s = true := hs _ (by decide +kernel)
  have harr : (Cond.arrayOf (.arg 0) .int).before args s = true := hs _ (by decide +kernel)
  have hle : (Cond.le (.length (.arg 0)) (.int 260)).before args s = true := hs _ (by decide +kernel)
  have hlen : (Cond.isInt (.length (.arg 0))).before args s = true := hq _ (by decide +kernel)
  have hall : (Cond.all (.arg 0) (.isInt (.elem (.arg 0) (.index 0)))).before args s = true := hq _ (by decide +kernel)
  obtain ⟨b, xs, hb, hx⟩ := State.ints_of_pre rfl harr hlen hall
  have hsm : xs.length < 2 ^ 31 := hx.choose_spec.2.2.2
  have hev : (Term.length (.arg 0)).eval args s none [] s = some (.int xs.length.toInt32) := hx.length_eval hb
  have hv := Cond.le_ints hev (show (Term.int 260).eval args s none [] s = some (.int 260) from rfl)
  have hd : xs.length.toInt32 ≤ 260 := by
    simpa [Cond.before, Cond.holds, hv] using hle
  have hN : xs.length ≤ 260 := (Int32.ofNat_le_ofNat hsm (by decide)).mp (show Int32.ofNat xs.length ≤ Int32.ofNat 260 from hd)
  exact ⟨b, xs, Cond.one_arg hc (show args[0]? = some (.ref b) from hb), hx, hN, h⟩
theorem lw_comes (l : Launch) (hflags : l.flags = flags0) : Comes l x (Jvm.Cond.code x code maxLocals ret :: tables_1) room_1 (fun tb e args s => Calls_1 tb e args s ∧ rest_1 tb e args s ∧ Pre_1 tb e args s)
    (fun _ _ args s o t => lw_Q args s o t) := by
  intro p e ha hc hk s m args below hf hfit hheap happ hpre
  obtain ⟨b, xs, hP⟩ := lw_pre_spec hpre.2.2 hpre.2.1
  obtain ⟨k, o, h1, h2, h3, hQ⟩ := lw_walk l hflags b xs p e ha hc hk s m args below hf ((Spec.applies_iff_loose hf).mp happ).1 hP trivial
  exact ⟨k, o, h1, h2, h3, hQ⟩
theorem lw_frame {s t : State} {o : Outcome} {args : Array Value} (h : Framed s o t [] 600000 7302250) :
    Framed s o t (fieldLocs frame_1_writes args s ++ arrayLocs frame_1_arrays args s ++ staticLocs frame_1_statics s) 600000 7302250 := h
theorem lw_limb (L : Cond) (hL : ∀ (args : Array Value) (s t : State), L.after args s (.returned (some (.int 1))) t = true) :
    ArmFor flags0 classFile x code maxLocals ret World_1 tables_1 room_1 Calls_1 rest_1 Pre_1
      (fun tb e a s o t => postC L tb e a s o t ∧ Framed s o t (fieldLocs frame_1_writes a s ++ arrayLocs frame_1_arrays a s ++ staticLocs frame_1_statics s) 600000 7302250) := by
  intro l hflags _ _ p e ha hc hk s m args below hf hfit hheap happ hpre
  obtain ⟨k, o, h1, h2, h3, rfl, hF⟩ := lw_comes l hflags p e ha hc hk s m args below hf hfit hheap happ hpre
  exact ⟨k, _, h1, h2, h3, hL args s _, lw_frame hF⟩
theorem i_vc : Claimed_1_1 ∧ Claimed_1_2 := ⟨lw_limb limb_1_1 (fun args s t => by simp [limb_1_1, Cond.after, Cond.holds, Cond.value]), lw_limb limb_1_2 (fun args s t => Cond.after_iff.mpr (by
  first | (rw [show limb_1_2 = Cond.eq .result (.int 1) from rfl, Cond.eq_ints (x := 1) (y := 1) rfl rfl]; simp; done) | (simp [limb_1_2, Cond.value, Term.eval]; done)))⟩
