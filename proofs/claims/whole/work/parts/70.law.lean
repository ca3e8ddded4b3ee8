/-! THE LAW: its loop -/
set_option maxHeartbeats 4000000 in
set_option maxRecDepth 100000 in
theorem bz_loop {p : Program} {l : Launch} {e : Env} {s : State} {m : MethodId} {below : List Frame} {meth : Method} {c : Code} {D : va_G} {ad : Nat → Nat → Nat} {aI aC aS : ClassId} {b L : Nat} {xs : Nat → Int32} {cells slots : Nat} (hr : meth.sig.returnType = ret) (hlocks : meth.locks = false) (C : bz_E p s m c D ad aI aC aS b L xs) (hL : L ≤ 2048) (hc : cells ≤ room_1.cells) (hs : slots ≤ room_1.slots) : ∀ (t i : Nat), L < i + 4 * t + 4 → i ≤ L → ∀ (H : Heap) (locs : List Loc) (ls : Array Slot) (M : bb_M), lv_has ls 4 (bz_lv ad b i) → bb_W D ad aI aC aS M H → bb_JJ M → va_S (bb_A s.heap.size) s.heap H locs → W p l e room_1 s m #[Value.ref b] below meth c H locs cells slots (lw_Z below #[Value.ref b] s) (F0 m 18 ls []) := by
  intro t
  have C0 := C
  obtain ⟨hx, hb, hml, hown, hts, ⟨hX, hbl⟩, hK, hst, hAd⟩ := C
  have hbA : ¬ bb_A s.heap.size b := Nat.not_le.mpr hbl
  have c4 : (4 : Int32).toInt = 4 := rfl
  induction t with
  | zero =>
    intro i h1 h2 H locs ls M hl hW hJ hS
    have e4 : (nI L - 4).toInt = (L : Int) - 4 := by
      rw [bn_subT (by rw [bn_ti (by omega)]; omega) (by decide), bn_ti (by omega), c4]
    refine lv_iload_n hx hb dL_law_18 rfl (lv_at hl 0 rfl) ?_
    refine lv_aload_n hx hb dL_law_19 rfl (lv_at hl 3 rfl) ?_
    refine va_slen hx hb hX hbl hbA hS dL_law_20 ?_
    refine lv_iconst (v := 4) hx hb dL_law_21 (by decide) ?_
    refine lv_isub hx hb dL_law_22 ?_
    refine lv_icmp_gt (tgt := 682) hx hb dL_law_23 (by decide) (fun _ => ?_) (fun z => ?_)
    · refine va_forget (fun q hq => hS.2.2 q hq) ?_
      refine W.widen (k := 600000) (n := 7302250) hc hs ?_
      refine lv_iconst (v := 1) hx hb dL_law_682 (by decide) ?_
      exact lw_ret hx hb hr hlocks dL_law_683
    · exact absurd ((bn_lt _ _).mpr (by rw [bn_ti (by omega)]; show (nI L - 4).toInt < _; omega)) z
  | succ t ih =>
    intro i h1 h2 H locs ls M hl hW hJ hS
    have e4 : (nI L - 4).toInt = (L : Int) - 4 := by
      rw [bn_subT (by rw [bn_ti (by omega)]; omega) (by decide), bn_ti (by omega), c4]
    refine lv_iload_n hx hb dL_law_18 rfl (lv_at hl 0 rfl) ?_
    refine lv_aload_n hx hb dL_law_19 rfl (lv_at hl 3 rfl) ?_
    refine va_slen hx hb hX hbl hbA hS dL_law_20 ?_
    refine lv_iconst (v := 4) hx hb dL_law_21 (by decide) ?_
    refine lv_isub hx hb dL_law_22 ?_
    refine lv_icmp_gt (tgt := 682) hx hb dL_law_23 (by decide) (fun _ => ?_) (fun z => ?_)
    · refine va_forget (fun q hq => hS.2.2 q hq) ?_
      refine W.widen (k := 600000) (n := 7302250) hc hs ?_
      refine lv_iconst (v := 1) hx hb dL_law_682 (by decide) ?_
      exact lw_ret hx hb hr hlocks dL_law_683
    have hi : i + 4 ≤ L := by
      have z1 : ¬ (nI L - 4).toInt < (nI i).toInt := fun y => z ((bn_lt _ _).mpr y)
      rw [e4, bn_ti (by omega)] at z1
      omega
    refine lv_aload_n hx hb dL_law_26 rfl (lv_at hl 3 rfl) ?_
    refine lv_iload_n hx hb dL_law_27 rfl (lv_at hl 0 rfl) ?_
    refine va_sld hx hb hX hbl hbA hS (vp_in_nI (n := i) (N := L) (by omega) (by omega)) dL_law_28 ?_
    refine lv_bipush (v := 31) hx hb dL_law_29 (by decide) ?_
    refine lv_iand hx hb dL_law_31 ?_
    have kt : bz_Kt p l e s m below meth c D ad aI aC aS b cells slots ls := fun H locs M hW hJ hS => by
      refine lv_iinc (v := nI (i + 4)) (lv' := bz_lv ad b (i + 4)) hx hb dL_law_676 hl (k := 0) rfl (by rw [show Int32.ofInt 4 = nI 4 from rfl, nI_add]) (by decide) rfl (fun ls hl => ?_)
      refine lv_goto (tgt := 18) hx hb dL_law_679 (by decide) ?_
      exact ih (i + 4) (by omega) hi H locs ls M hl hW hJ hS
    generalize xs (nI i).toNatClampNeg &&& 31 = x
    by_cases hr : x.toInt < 0 ∨ 19 < x.toInt
    · exact lv_tableOut (tgt := 676) hx hb dL_law_32 hr (by decide) (kt H locs M hW hJ hS)
    rcases (show x.toInt = 0 ∨ x.toInt = 1 ∨ x.toInt = 2 ∨ x.toInt = 3 ∨ x.toInt = 4 ∨ x.toInt = 5 ∨ x.toInt = 6 ∨ x.toInt = 7 ∨ x.toInt = 8 ∨ x.toInt = 9 ∨ x.toInt = 10 ∨ x.toInt = 11 ∨ x.toInt = 12 ∨ x.toInt = 13 ∨ x.toInt = 14 ∨ x.toInt = 15 ∨ x.toInt = 16 ∨ x.toInt = 17 ∨ x.toInt = 18 ∨ x.toInt = 19 by omega) with h | h | h | h | h | h | h | h | h | h | h | h | h | h | h | h | h | h | h | h
    · exact lv_tableIn (tgt := 128) (off := 96) hx hb dL_law_32 (by omega) (by omega) (by rw [h]; rfl) (by decide) (bz_0 C0 hL hi hl hc hs hW hJ hS kt)
    · exact lv_tableIn (tgt := 171) (off := 139) hx hb dL_law_32 (by omega) (by omega) (by rw [h]; rfl) (by decide) (bz_1 C0 hL hi hl hc hs hW hJ hS kt)
    · exact lv_tableIn (tgt := 194) (off := 162) hx hb dL_law_32 (by omega) (by omega) (by rw [h]; rfl) (by decide) (bz_2 C0 hL hi hl hc hs hW hJ hS kt)
    · exact lv_tableIn (tgt := 227) (off := 195) hx hb dL_law_32 (by omega) (by omega) (by rw [h]; rfl) (by decide) (bz_3 C0 hL hi hl hc hs hW hJ hS kt)
    · exact lv_tableIn (tgt := 260) (off := 228) hx hb dL_law_32 (by omega) (by omega) (by rw [h]; rfl) (by decide) (bz_4 C0 hL hi hl hc hs hW hJ hS kt)
    · exact lv_tableIn (tgt := 273) (off := 241) hx hb dL_law_32 (by omega) (by omega) (by rw [h]; rfl) (by decide) (bz_5 C0 hL hi hl hc hs hW hJ hS kt)
    · exact lv_tableIn (tgt := 306) (off := 274) hx hb dL_law_32 (by omega) (by omega) (by rw [h]; rfl) (by decide) (bz_6 C0 hL hi hl hc hs hW hJ hS kt)
    · exact lv_tableIn (tgt := 329) (off := 297) hx hb dL_law_32 (by omega) (by omega) (by rw [h]; rfl) (by decide) (bz_7 C0 hL hi hl hc hs hW hJ hS kt)
    · exact lv_tableIn (tgt := 342) (off := 310) hx hb dL_law_32 (by omega) (by omega) (by rw [h]; rfl) (by decide) (bz_8 C0 hL hi hl hc hs hW hJ hS kt)
    · exact lv_tableIn (tgt := 367) (off := 335) hx hb dL_law_32 (by omega) (by omega) (by rw [h]; rfl) (by decide) (bz_9 C0 hL hi hl hc hs hW hJ hS kt)
    · exact lv_tableIn (tgt := 380) (off := 348) hx hb dL_law_32 (by omega) (by omega) (by rw [h]; rfl) (by decide) (bz_10 C0 hL hi hl hc hs hW hJ hS kt)
    · exact lv_tableIn (tgt := 393) (off := 361) hx hb dL_law_32 (by omega) (by omega) (by rw [h]; rfl) (by decide) (bz_11 C0 hL hi hl hc hs hW hJ hS kt)
    · exact lv_tableIn (tgt := 406) (off := 374) hx hb dL_law_32 (by omega) (by omega) (by rw [h]; rfl) (by decide) (bz_12 C0 hL hi hl hc hs hW hJ hS kt)
    · exact lv_tableIn (tgt := 419) (off := 387) hx hb dL_law_32 (by omega) (by omega) (by rw [h]; rfl) (by decide) (bz_13 C0 hL hi hl hc hs hW hJ hS kt)
    · exact lv_tableIn (tgt := 462) (off := 430) hx hb dL_law_32 (by omega) (by omega) (by rw [h]; rfl) (by decide) (bz_14 C0 hL hi hl hc hs hW hJ hS kt)
    · exact lv_tableIn (tgt := 495) (off := 463) hx hb dL_law_32 (by omega) (by omega) (by rw [h]; rfl) (by decide) (bz_15 C0 hL hi hl hc hs hW hJ hS kt)
    · exact lv_tableIn (tgt := 544) (off := 512) hx hb dL_law_32 (by omega) (by omega) (by rw [h]; rfl) (by decide) (bz_16 C0 hL hi hl hc hs hW hJ hS kt)
    · exact lv_tableIn (tgt := 577) (off := 545) hx hb dL_law_32 (by omega) (by omega) (by rw [h]; rfl) (by decide) (bz_17 C0 hL hi hl hc hs hW hJ hS kt)
    · exact lv_tableIn (tgt := 620) (off := 588) hx hb dL_law_32 (by omega) (by omega) (by rw [h]; rfl) (by decide) (bz_18 C0 hL hi hl hc hs hW hJ hS kt)
    · exact lv_tableIn (tgt := 653) (off := 621) hx hb dL_law_32 (by omega) (by omega) (by rw [h]; rfl) (by decide) (bz_19 C0 hL hi hl hc hs hW hJ hS kt)
section LI
variable {p : Program} {l : Launch} {ev : Env} {R : Room} {s : State} {m : MethodId} {args : Array Value} {below : List Frame} {meth : Method} {c : Code} {D : va_G} {bs b3 : Nat} {aI aC aS : ClassId} {cc : ByteArray} {own : String} {H : Heap} {locs : List Loc} {cells slots : Nat} {Q : State → Prop} {pc : Nat} {ls : Array Slot} {rest : List Value} {A : Nat → Prop}
/-- a constructor is called by the law -/
theorem bz_ini {y : MethodName} {ycc : ByteArray} {n d mc ms idx q : Nat} {e : va_E} {X : Nat → bk_U → va_W} {wr : va_W} (hx : p.tables.exec = Jvm.exec) (hb : c.code = cc) (hown : s.vm.findClass own = some m.cls) (hts : ∀ w ∈ lw_tbl, w.before args s = true) (hE : bk_E D bs aI aC aS b3 s) (hAb : ∀ q, A q → bs ≤ q) (hA : ∀ q, s.heap.size ≤ q → A q) (hM : bk_Mt l D bs aI aC aS b3 y ycc n d mc ms e X) (hyn : y.name = "<init>") (hyc : y.cls ≠ "java/lang/invoke/MethodHandle" ∧ y.cls ≠ "java/lang/invoke/VarHandle" ∧ (parseMethodDescriptor y.desc).map (fun d => d.parameters.length) = some 0) (w1 : Cond.code y ycc n none ∈ bb_TB) (w2 : Cond.initialized y.cls ∈ lw_tbl) (w3 : Cond.methodLink own idx y ∈ lw_tbl) (w4 : Cond.instanceMethod y ∈ lw_tbl) (hn : n ≤ 17) (hR : d + 1 ≤ R.frames ∧ 36 * d + 36 ≤ R.locals) (hc : cells + mc ≤ R.cells) (hs : slots + ms ≤ R.slots) (hls : ls.size = c.maxLocals) (hrest : (rest.map fun v => v.category).sum ≤ 8)
    (hP : va_P D bb_cls (wr ++ [(q, e)]) H) (hD : va_D A (wr ++ [(q, e)])) (hS : va_S A s.heap H locs) (hd : decode cc pc = .ok (.invokespecial idx, 3))
    (kk : ∀ (u : bk_U) (H1 : Heap) (locs1 : List Loc), va_P D bb_cls (wr ++ X q u) H1 → va_D A (wr ++ X q u) → va_S A s.heap H1 locs1 → W p l ev R s m args below meth c H1 locs1 (cells + mc) (slots + ms) Q (F0 m (pc + 3) ls rest)) : W p l ev R s m args below meth c H locs cells slots Q (F0 m pc ls (.ref q :: rest)) := by
  have hq : (wr ++ [(q, e)])[wr.length]? = some (q, e) := by rw [List.getElem?_append_right (Nat.le_refl _), Nat.sub_self]; rfl
  have hPc : va_P D bb_cls [(q, e)] H := fun k x hk => by
    have : k < 1 := (List.getElem?_eq_some_iff.mp hk).1
    obtain rfl : k = 0 := by omega
    cases hk
    exact hP _ _ hq
  have hC : [wr.length].map (fun i => (wr ++ [(q, e)])[i]?) = [(q, e)].map some := by
    show [(wr ++ [(q, e)])[wr.length]?] = _
    rw [hq]
    rfl
  have hFc := va_free (wc := [(q, e)]) hD hS hA [wr.length] hC
  have hbq : bs ≤ q := hAb _ (hD.2 _ _ hq)
  refine va_callv (va_runI (As := []) (rest := rest) ⟨hx, hb, rfl, hown, hts⟩ (hM q H.size hbq) (cwI 0 hts (bk_good bz_TB w1) rfl rfl rfl (hts _ w2) (hts _ w3) (hts _ w4) hyn hyc ⟨hR.1, by show 8 + (n + 11) + 36 * d ≤ R.locals; omega⟩) ⟨bk_blind, fun U hU hW => ⟨rfl, by rw [hU], by rw [hU]; exact hPc, hE.at hS hAb hU hW⟩⟩ rfl rfl hls rfl (lv_room hrest) hd ⟨hc, hs⟩) hS (fun q _ h => hFc q h) hFc (fun u t H1 locs ht hvm hw hB hz1 hk1 hS => ?_)
  obtain ⟨hP1, hD1⟩ := hB
  rw [ht] at hP1
  obtain ⟨hP2, hD2⟩ := va_join (wr := wr) (w1 := X q u) hP hD [wr.length] (List.range wr.length) hC (bk_range_in wr (q, e)) (bk_nd_of _ List.nodup_range) (fun i hi hm => by
    have h1 := List.mem_range.mp hi
    have h2 := List.mem_singleton.mp hm
    omega) hk1 hFc hP1 hD1
  exact kk u H1 locs hP2 hD2 hS
end LI
-- ===== YOUR PART: the walk from the entry =====
set_option maxHeartbeats 8000000 in
set_option maxRecDepth 100000 in
theorem whole_start {p : Program} {e : Env} {s : State} {m : MethodId} {below : List Frame} {meth : Method} {c : Code} (l : Launch) (_hflags : l.flags = flags0) {b L : Nat} {xs : Nat → Int32} (hL : L ≤ 2048) (C0 : lw_At p s m meth c b L xs) : W p l e room_1 s m #[Value.ref b] below meth c s.heap [] 0 0 (lw_Z below #[Value.ref b] s) (entryFrame m ([Value.ref b] : List Value).toArray 4) := by
  obtain ⟨hx, hb, hr, hml, hown, hts, hX, hbl, hlocks, hgv⟩ := C0
  have hown : s.vm.findClass "BeachBarsLaw" = some m.cls := hown
  have hs := flat_of_before _ hgv
  have hAx : ∀ a : Nat, a < s.heap.size → ¬ bb_A s.heap.size a := fun a h => Nat.not_le.mpr h
  obtain ⟨t30, ev30, T30⟩ := va_Tof (args := #[Value.ref b]) (s := s) (tm := (.static "BeachBars" "LEAST_SETTING" "[I")) (ty := .int) (N := 4) (f := fun j => .int (bb_cst 30 j)) (A := bb_A s.heap.size) (by decide) (hs _ (by decide +kernel)) (va_eqt (hs _ (by decide +kernel))) (fun j hj => by
    rcases (show j = 0 ∨ j = 1 ∨ j = 2 ∨ j = 3 by omega) with rfl | rfl | rfl | rfl
    · exact va_eqt (z := 1) (hs _ (by decide +kernel))
    · exact va_eqt (z := 0) (hs _ (by decide +kernel))
    · exact va_eqt (z := 1) (hs _ (by decide +kernel))
    · exact va_eqt (z := 4) (hs _ (by decide +kernel))) hAx
  have l30 : t30 < s.heap.size := by
    obtain ⟨cell, h1, -⟩ := T30
    exact (Array.getElem?_eq_some_iff.mp h1).1
  have Z30 : va_Z "BeachBars" "LEAST_SETTING" "[I" (.ref t30) (bb_A s.heap.size) s s.heap := va_Zref (hts _ (List.mem_of_getElem? (i := 290) (by decide +kernel))) (hts _ (List.mem_of_getElem? (i := 51) (by decide +kernel))) ev30 hAx
  obtain ⟨t31, ev31, T31⟩ := va_Tof (args := #[Value.ref b]) (s := s) (tm := (.static "BeachBars" "MOST_SETTING" "[I")) (ty := .int) (N := 4) (f := fun j => .int (bb_cst 31 j)) (A := bb_A s.heap.size) (by decide) (hs _ (by decide +kernel)) (va_eqt (hs _ (by decide +kernel))) (fun j hj => by
    rcases (show j = 0 ∨ j = 1 ∨ j = 2 ∨ j = 3 by omega) with rfl | rfl | rfl | rfl
    · exact va_eqt (z := 20) (hs _ (by decide +kernel))
    · exact va_eqt (z := 2) (hs _ (by decide +kernel))
    · exact va_eqt (z := 20) (hs _ (by decide +kernel))
    · exact va_eqt (z := 30) (hs _ (by decide +kernel))) hAx
  have l31 : t31 < s.heap.size := by
    obtain ⟨cell, h1, -⟩ := T31
    exact (Array.getElem?_eq_some_iff.mp h1).1
  have Z31 : va_Z "BeachBars" "MOST_SETTING" "[I" (.ref t31) (bb_A s.heap.size) s s.heap := va_Zref (hts _ (List.mem_of_getElem? (i := 292) (by decide +kernel))) (hts _ (List.mem_of_getElem? (i := 51) (by decide +kernel))) ev31 hAx
  obtain ⟨t32, ev32, T32⟩ := va_Tof (args := #[Value.ref b]) (s := s) (tm := (.static "BeachBars" "FIRST_SETTING" "[I")) (ty := .int) (N := 4) (f := fun j => .int (bb_cst 32 j)) (A := bb_A s.heap.size) (by decide) (hs _ (by decide +kernel)) (va_eqt (hs _ (by decide +kernel))) (fun j hj => by
    rcases (show j = 0 ∨ j = 1 ∨ j = 2 ∨ j = 3 by omega) with rfl | rfl | rfl | rfl
    · exact va_eqt (z := 8) (hs _ (by decide +kernel))
    · exact va_eqt (z := 0) (hs _ (by decide +kernel))
    · exact va_eqt (z := 3) (hs _ (by decide +kernel))
    · exact va_eqt (z := 12) (hs _ (by decide +kernel))) hAx
  have l32 : t32 < s.heap.size := by
    obtain ⟨cell, h1, -⟩ := T32
    exact (Array.getElem?_eq_some_iff.mp h1).1
  have Z32 : va_Z "BeachBars" "FIRST_SETTING" "[I" (.ref t32) (bb_A s.heap.size) s s.heap := va_Zref (hts _ (List.mem_of_getElem? (i := 110) (by decide +kernel))) (hts _ (List.mem_of_getElem? (i := 51) (by decide +kernel))) ev32 hAx
  obtain ⟨c0, i0, K0⟩ := u_known (C := RX0) (T := TX0) (N := 3) (n := 3) hts (fun w h => bz_TB w (wc_0 w h)) (hts (.instantiable RX0 3) (List.mem_of_getElem? (i := 144) (by decide +kernel)))
  obtain ⟨c1, i1, K1⟩ := u_known (C := RX1) (T := TX1) (N := 3) (n := 3) hts (fun w h => bz_TB w (wc_1 w h)) (hts (.instantiable RX1 3) (List.mem_of_getElem? (i := 94) (by decide +kernel)))
  obtain ⟨c2, i2, K2⟩ := u_known (C := RX2) (T := TX2) (N := 3) (n := 3) hts (fun w h => bz_TB w (wc_2 w h)) (hts (.instantiable RX2 3) (List.mem_of_getElem? (i := 194) (by decide +kernel)))
  obtain ⟨c3, i3, K3⟩ := u_known (C := RX3) (T := TX3) (N := 2) (n := 2) hts (fun w h => bz_TB w (wc_3 w h)) (hts (.instantiable RX3 2) (List.mem_of_getElem? (i := 77) (by decide +kernel)))
  obtain ⟨c4, i4, K4⟩ := u_known (C := RX4) (T := TX4) (N := 7) (n := 7) hts (fun w h => bz_TB w (wc_4 w h)) (hts (.instantiable RX4 7) (List.mem_of_getElem? (i := 71) (by decide +kernel)))
  obtain ⟨c5, i5, K5⟩ := u_known (C := RX5) (T := TX5) (N := 7) (n := 7) hts (fun w h => bz_TB w (wc_5 w h)) (hts (.instantiable RX5 7) (List.mem_of_getElem? (i := 163) (by decide +kernel)))
  obtain ⟨c6, i6, K6⟩ := u_known (C := RX6) (T := TX6) (N := 9) (n := 9) hts (fun w h => bz_TB w (wc_6 w h)) (hts (.instantiable RX6 9) (List.mem_of_getElem? (i := 63) (by decide +kernel)))
  obtain ⟨c7, i7, K7⟩ := u_known (C := RX7) (T := TX7) (N := 16) (n := 16) hts (fun w h => bz_TB w (wc_7 w h)) (hts (.instantiable RX7 16) (List.mem_of_getElem? (i := 619) (by decide +kernel)))
  obtain ⟨dC, dI, hKc⟩ : ∃ (dC : Nat → ClassId) (dI : Nat → Nat → Nat), ∀ (k : Nat) (q : vw_C), bb_cls[k]? = some q → u_Kn s q.1 q.2.1 q.2.2 (dC k) (dI k) := by
    refine ⟨fun k => [c0, c1, c2, c3, c4, c5, c6, c7].getD k c0, fun k => [i0, i1, i2, i3, i4, i5, i6, i7].getD k i0, ?_⟩
    intro k q hq
    match k, hq with
    | 0, hq => cases hq; exact K0
    | 1, hq => cases hq; exact K1
    | 2, hq => cases hq; exact K2
    | 3, hq => cases hq; exact K3
    | 4, hq => cases hq; exact K4
    | 5, hq => cases hq; exact K5
    | 6, hq => cases hq; exact K6
    | 7, hq => cases hq; exact K7
    | k + 8, hq => simp [bb_cls] at hq
  obtain ⟨aI, kI, pI, f1, f2, f3⟩ := Cond.arrayClass_spec (hts (.arrayClass .int) (List.mem_of_getElem? (i := 92) (by decide +kernel)))
  obtain ⟨aC, kC, pC, f4, f5, f6⟩ := Cond.arrayClass_spec (hts (.arrayClass .char) (List.mem_of_getElem? (i := 192) (by decide +kernel)))
  have hAO := hts (.arrayOver (.object "BeachBars$State")) (List.mem_of_getElem? (i := 150) (by decide +kernel))
  obtain ⟨pS, aS, kS, g1, g2, g3, g4, g5⟩ := Cond.arrayOver_spec hAO
  have hK : va_K (dC, dI) bb_cls (bb_tys aI aC aS) s := by
    refine ⟨hKc, fun k q hq => ?_⟩
    match k, hq with
    | 0, hq => cases hq; exact ⟨fun n z => ⟨fun k h => (by cases h), kI, f2, pI, f3⟩, f1⟩
    | 1, hq => cases hq; exact ⟨fun n z => ⟨fun k h => (by cases h), kC, f5, pC, f6⟩, f4⟩
    | 2, hq => cases hq; exact ⟨fun n z => ⟨fun k h => (by cases h), kS, g3, pS, g4⟩, kS, pS, g3, g4, g1, g5⟩
    | k + 3, hq => simp [bb_tys] at hq
  have hE : bk_E (dC, dI) s.heap.size aI aC aS t32 s := ⟨hK, ⟨T32, l32, Nat.le_refl _⟩, Z32, ⟨va_Nw.of rfl (hts _ (List.mem_of_getElem? (i := 109) (by decide +kernel))), va_Nw.of rfl (hts _ (List.mem_of_getElem? (i := 82) (by decide +kernel)))⟩, va_AO.of hAO⟩
  have hAb : ∀ q, bb_A s.heap.size q → s.heap.size ≤ q := fun _ h => h
  have hA : ∀ q, s.heap.size ≤ q → bb_A s.heap.size q := fun _ h => h
  have hS : va_S (bb_A s.heap.size) s.heap s.heap [] := va_S.rf
  have hP : va_P (dC, dI) bb_cls [] s.heap := fun k q h => by simp at h
  have hD : va_D (bb_A s.heap.size) [] := ⟨fun i j p q h => by simp at h, fun k q h => by simp at h⟩
  have hl := lv_entry ([.ref b]) (n := 4) (Nat.le_of_ble_eq_true rfl)
  rw [lg_entry_eq]
  generalize (lg_sl ([.ref b]) ++ List.replicate (4 - (lg_sl ([.ref b])).length) Slot.unset).toArray = ls at hl ⊢
  have hl : lv_has ls 4 [(0, .ref b)] := hl
  refine va_new (ci := 6) (fs := [.null, .null, .null, .int 0, .null, .null, .null, .null, .null]) (C := RX6) (T := TX6) (N := 9) (own := "BeachBarsLaw") hx hb hts (fun w h => bz_TB w (wc_6 w h)) tyX6 tyX6_ok hown (hts _ (List.mem_of_getElem? (i := 62) (by decide +kernel))) (hts _ (List.mem_of_getElem? (i := 63) (by decide +kernel))) (hts _ (List.mem_of_getElem? (i := 51) (by decide +kernel))) hK hP hD hS hA rfl (fun j hj => by rcases (show j = 0 ∨ j = 1 ∨ j = 2 ∨ j = 3 ∨ j = 4 ∨ j = 5 ∨ j = 6 ∨ j = 7 ∨ j = 8 by omega) with rfl | rfl | rfl | rfl | rfl | rfl | rfl | rfl | rfl <;> rfl) (Nat.le_of_ble_eq_true rfl) (Nat.le_of_ble_eq_true rfl) dL_law_0 (fun q1 H hP hD hS => ?_)
  refine W.widen (k := 1) (n := 9) (Nat.le_of_ble_eq_true rfl) (Nat.le_of_ble_eq_true rfl) ?_
  refine lv_dup hx hb dL_law_3 rfl ?_
  refine bz_ini (own := "BeachBarsLaw") (wr := []) hx hb hown hts hE hAb hA (k_6 l (dC, dI) s.heap.size aI aC aS t32) rfl (by decide +kernel) (bb_tb (i := 66) (by decide +kernel) rfl) (List.mem_of_getElem? (i := 51) (by decide +kernel)) (List.mem_of_getElem? (i := 64) (by decide +kernel)) (List.mem_of_getElem? (i := 65) (by decide +kernel)) (by decide) ⟨Nat.le_of_ble_eq_true rfl, Nat.le_of_ble_eq_true rfl⟩ (Nat.le_of_ble_eq_true rfl) (Nat.le_of_ble_eq_true rfl) (hl.1.trans hml.symm) (Nat.le_of_ble_eq_true rfl) hP hD hS dL_law_4 (fun u1 H locs hP hD hS => ?_)
  refine W.widen (k := 84) (n := 2529) (Nat.le_of_ble_eq_true rfl) (Nat.le_of_ble_eq_true rfl) ?_
  refine lv_astore_n (lv' := [(1, .ref q1), (0, .ref b)]) hx hb dL_law_7 rfl hl (by decide) rfl (fun ls hl => ?_)
  refine va_new (ci := 7) (fs := [.null, .null, .null, .int 0, .null, .int 0, .int 0, .null, .null, .null, .null, .int 0, .int 0, .null, .int 0, .int 0]) (C := RX7) (T := TX7) (N := 16) (own := "BeachBarsLaw") hx hb hts (fun w h => bz_TB w (wc_7 w h)) tyX7 tyX7_ok hown (hts _ (List.mem_of_getElem? (i := 618) (by decide +kernel))) (hts _ (List.mem_of_getElem? (i := 619) (by decide +kernel))) (hts _ (List.mem_of_getElem? (i := 59) (by decide +kernel))) hK hP hD hS hA rfl (fun j hj => by rcases (show j = 0 ∨ j = 1 ∨ j = 2 ∨ j = 3 ∨ j = 4 ∨ j = 5 ∨ j = 6 ∨ j = 7 ∨ j = 8 ∨ j = 9 ∨ j = 10 ∨ j = 11 ∨ j = 12 ∨ j = 13 ∨ j = 14 ∨ j = 15 by omega) with rfl | rfl | rfl | rfl | rfl | rfl | rfl | rfl | rfl | rfl | rfl | rfl | rfl | rfl | rfl | rfl <;> rfl) (Nat.le_of_ble_eq_true rfl) (Nat.le_of_ble_eq_true rfl) dL_law_8 (fun q2 H hP hD hS => ?_)
  refine W.widen (k := 85) (n := 2545) (Nat.le_of_ble_eq_true rfl) (Nat.le_of_ble_eq_true rfl) ?_
  refine lv_dup hx hb dL_law_11 rfl ?_
  refine bz_ini (own := "BeachBarsLaw") (wr := ([] ++ bk_Bb aI aC aS q1 u1)) hx hb hown hts hE hAb hA (k_7 l (dC, dI) s.heap.size aI aC aS t32) rfl (by decide +kernel) (bb_tb (i := 622) (by decide +kernel) rfl) (List.mem_of_getElem? (i := 59) (by decide +kernel)) (List.mem_of_getElem? (i := 620) (by decide +kernel)) (List.mem_of_getElem? (i := 621) (by decide +kernel)) (by decide) ⟨Nat.le_of_ble_eq_true rfl, Nat.le_of_ble_eq_true rfl⟩ (Nat.le_of_ble_eq_true rfl) (Nat.le_of_ble_eq_true rfl) (hl.1.trans hml.symm) (Nat.le_of_ble_eq_true rfl) hP hD hS dL_law_12 (fun u2 H locs hP hD hS => ?_)
  refine W.widen (k := 94) (n := 4941) (Nat.le_of_ble_eq_true rfl) (Nat.le_of_ble_eq_true rfl) ?_
  refine lv_astore_n (lv' := [(2, .ref q2), (1, .ref q1), (0, .ref b)]) hx hb dL_law_15 rfl hl (by decide) rfl (fun ls hl => ?_)
  refine lv_iconst (v := 0) hx hb dL_law_16 (by decide) ?_
  refine lv_istore_n (lv' := [(3, .int 0), (2, .ref q2), (1, .ref q1), (0, .ref b)]) hx hb dL_law_17 rfl hl (by decide) rfl (fun ls hl => ?_)
  have hPW : va_P (dC, dI) bb_cls (bk_WW aI aC aS q1 q2 u1 u2) H := hP
  have hDW : va_D (bb_A s.heap.size) (bk_WW aI aC aS q1 q2 u1 u2) := hD
  obtain ⟨hP2, hD2⟩ := bk_world (t30 := t30) (t31 := t31) (t32 := t32) hPW hDW
  have hAd := bk_Ad hD2
  have hst : bb_sta (dC, dI) (bk_ad q1 q2 t30 t31 t32 u1 u2) aI s.heap.size s := by
    refine ⟨fun k h1 h2 => ?_, ⟨Z30, Z31⟩, l30, l31, l32, List.forall_mem_cons.mpr ⟨va_Nw.of rfl (hts _ (List.mem_of_getElem? (i := 115) (by decide +kernel))), List.forall_mem_cons.mpr ⟨va_Nw.of rfl (hts _ (List.mem_of_getElem? (i := 117) (by decide +kernel))), List.forall_mem_cons.mpr ⟨va_Nw.of rfl (hts _ (List.mem_of_getElem? (i := 119) (by decide +kernel))), List.forall_mem_cons.mpr ⟨va_Nw.of rfl (hts _ (List.mem_of_getElem? (i := 121) (by decide +kernel))), List.forall_mem_cons.mpr ⟨va_Nw.of rfl (hts _ (List.mem_of_getElem? (i := 123) (by decide +kernel))), List.forall_mem_cons.mpr ⟨va_Nw.of rfl (hts _ (List.mem_of_getElem? (i := 125) (by decide +kernel))), List.forall_mem_cons.mpr ⟨va_Nw.of rfl (hts _ (List.mem_of_getElem? (i := 127) (by decide +kernel))), List.forall_mem_cons.mpr ⟨va_Nw.of rfl (hts _ (List.mem_of_getElem? (i := 200) (by decide +kernel))), List.forall_mem_cons.mpr ⟨va_Nw.of rfl (hts _ (List.mem_of_getElem? (i := 201) (by decide +kernel))), List.forall_mem_cons.mpr ⟨va_Nw.of rfl (hts _ (List.mem_of_getElem? (i := 203) (by decide +kernel))), fun _ h => absurd h List.not_mem_nil⟩⟩⟩⟩⟩⟩⟩⟩⟩⟩⟩
    rcases (show k = 30 ∨ k = 31 ∨ k = 32 by omega) with rfl | rfl | rfl
    · exact T30
    · exact T31
    · exact T32
  exact bz_loop hr hlocks ⟨hx, hb, hml, hown, hts, ⟨hX, hbl⟩, hK, hst, hAd⟩ hL (Nat.le_of_ble_eq_true rfl) (Nat.le_of_ble_eq_true rfl) L 0 (by omega) (Nat.zero_le _) H locs ls bk_M0 hl ⟨hP2, bk_stc⟩ bk_JJ hS
-- ===== YOUR PART ENDS =====
set_option maxHeartbeats 4000000 in
theorem lw_walk (l : Launch) (hflags : l.flags = flags0) (b : Addr) (xs : List Int32) : MetFree l x (headSpec (Jvm.Cond.code x code maxLocals ret :: tables_1) room_1) (lw_P b xs) (fun _ _ _ _ _ => True) lw_Q := by
  refine MetFree.of_bodyS (code := code) (maxLocals := maxLocals) (ret := ret) (by decide) ?_ ?_
  · intro args s m h hn
    obtain ⟨meth, c, h1, h2, h3, h4, h5, h6, -, -⟩ := Cond.code_spec hn (atoms_spec (ws := Jvm.Cond.code x code maxLocals ret :: tables_1) h _ List.mem_cons_self)
    exact ⟨meth, c, h1, h2, h3, h4, h5, h6⟩
  · intro p e s m args below meth c s₁ B hml0 hP _
    obtain ⟨rfl, hx, hbd, hgv⟩ := hP
    obtain ⟨scr, harrAt, hlist, hof, hsmall⟩ := hx
    obtain ⟨hcb, hkn, -, -⟩ := State.arrayAt?_spec harrAt
    have hown : s.vm.findClass R_law = some m.cls := findClass_of_methodNamed B.named
    have hts0 : ∀ c ∈ (Jvm.Cond.code x code maxLocals ret :: tables_1), c.before #[Value.ref b] s = true := atoms_spec (ws := Jvm.Cond.code x code maxLocals ret :: tables_1) B.pre
    have hts : ∀ w ∈ lw_tbl, w.before #[Value.ref b] s = true := k2_hts_sels lw_privs (fun w hw => hts0 w (List.mem_cons_of_mem _ hw)) lw_privs_ok
    have hml : c.maxLocals = 4 := B.maxLocals_eq (hts0 _ List.mem_cons_self)
    have X₀ : Stand p l e room_1 s m #[Value.ref b] below meth c s₁ [] 0 0 := Stand.of_body B
    have hh0 : s₁.heap = s.heap := by rw [B.state]; rfl
    have hsz : scr.slots.size = xs.length := by rw [← Array.length_toList, hlist, List.length_map]
    have hval : ∀ j : Nat, j < xs.length → scr.slots[j]? = some (.int (xs.getD j 0)) := fun j hj => by
      rw [← Array.getElem?_toList, hlist]
      simp [hj]
    have hbl : b < s.heap.size := (Array.getElem?_eq_some_iff.mp hcb).1
    have hX : va_X b xs.length (fun j => xs.getD j 0) s s.heap := ⟨scr, hcb, hof, hkn, hsz, hval⟩
    have K : W p l e room_1 s m #[Value.ref b] below meth c s₁.heap [] 0 0 (lw_Z below #[Value.ref b] s) (entryFrame m ([Value.ref b] : List Value).toArray 4) := by
      rw [hh0]
      exact whole_start l hflags hbd ⟨B.exec, B.bytes, B.returns, hml, hown, hts, hX, hbl, B.notSynchronized, hgv⟩
    obtain ⟨t, a1, o, b1, b2, b3⟩ := K s₁ rfl X₀
    exact ⟨t, o, a1, b1, b2, b3⟩
theorem lw_pre_spec {args : Array Value} {s : State} (h : (Jvm.Cond.and given_1 narrow_1).before args s = true) (hr : rest_1_c.before args s = true) : ∃ (b : Addr) (xs : List Int32), lw_P b xs args s := by
  have hs := flat_of_before _ h
  have hq := flat_of_before _ hr
  have hc : (Cond.count 1).before args s = true := hs _ (by decide +kernel)
  have harr : (Cond.arrayOf (.arg 0) .int).before args s = true := hs _ (by decide +kernel)
  have hle : (Cond.le (.length (.arg 0)) (.int 2048)).before args s = true := hs _ (by decide +kernel)
  have hlen : (Cond.isInt (.length (.arg 0))).before args s = true := hq _ (by decide +kernel)
  have hall : (Cond.all (.arg 0) (.isInt (.elem (.arg 0) (.index 0)))).before args s = true := hq _ (by decide +kernel)
  obtain ⟨b, xs, hb, hx⟩ := State.ints_of_pre rfl harr hlen hall
  have hsm : xs.length < 2 ^ 31 := hx.choose_spec.2.2.2
  have hev : (Term.length (.arg 0)).eval args s none [] s = some (.int xs.length.toInt32) := hx.length_eval hb
  have hv := Cond.le_ints hev (show (Term.int 2048).eval args s none [] s = some (.int 2048) from rfl)
  have hd : xs.length.toInt32 ≤ 2048 := by
    simpa [Cond.before, Cond.holds, hv] using hle
  have hN : xs.length ≤ 2048 := (Int32.ofNat_le_ofNat hsm (by decide)).mp (show Int32.ofNat xs.length ≤ Int32.ofNat 2048 from hd)
  exact ⟨b, xs, Cond.one_arg hc (show args[0]? = some (.ref b) from hb), hx, hN, h⟩
theorem lw_comes (l : Launch) (hflags : l.flags = flags0) : Comes l x (Jvm.Cond.code x code maxLocals ret :: tables_1) room_1 (fun tb e args s => Calls_1 tb e args s ∧ rest_1 tb e args s ∧ Pre_1 tb e args s)
    (fun _ _ args s o t => lw_Q args s o t) := by
  intro p e ha hc hk s m args below hf hfit hheap happ hpre
  obtain ⟨b, xs, hP⟩ := lw_pre_spec hpre.2.2 hpre.2.1
  obtain ⟨k, o, h1, h2, h3, hQ⟩ := lw_walk l hflags b xs p e ha hc hk s m args below hf ((Spec.applies_iff_loose hf).mp happ).1 hP trivial
  exact ⟨k, o, h1, h2, h3, hQ⟩
theorem lw_frame {s t : State} {o : Outcome} {args : Array Value} (h : Framed s o t [] 600000 7302250) :
    Framed s o t (fieldLocs frame_1_writes args s ++ arrayLocs frame_1_arrays args s ++ staticLocs frame_1_statics s) 600000 7302250 := h
theorem lw_limb (L : Cond) (hL : ∀ (args : Array Value) (s t : State), L.after args s (.returned (some (.int 1))) t = true) :
    ArmFor flags0 classFile x code maxLocals ret World_1 tables_1 room_1 Calls_1 rest_1 Pre_1
      (fun tb e a s o t => postC L tb e a s o t ∧ Framed s o t (fieldLocs frame_1_writes a s ++ arrayLocs frame_1_arrays a s ++ staticLocs frame_1_statics s) 600000 7302250) := by
  intro l hflags _ _ p e ha hc hk s m args below hf hfit hheap happ hpre
  obtain ⟨k, o, h1, h2, h3, rfl, hF⟩ := lw_comes l hflags p e ha hc hk s m args below hf hfit hheap happ hpre
  exact ⟨k, _, h1, h2, h3, hL args s _, lw_frame hF⟩
theorem i_vc : Claimed_1_1 ∧ Claimed_1_2 := ⟨lw_limb limb_1_1 (fun args s t => by simp [limb_1_1, Cond.after, Cond.holds, Cond.value]), lw_limb limb_1_2 (fun args s t => Cond.after_iff.mpr (by
  first | (rw [show limb_1_2 = Cond.eq .result (.int 1) from rfl, Cond.eq_ints (x := 1) (y := 1) rfl rfl]; simp; done) | (simp [limb_1_2, Cond.value, Term.eval]; done)))⟩
