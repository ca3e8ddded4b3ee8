/-! THE CONSTRUCTORS: a height, a queue, a ride, a beach -/
def bk_hp : Nat → Nat → Int32
  | 0 => fun _ => 0
  | n + 1 => upd (bk_hp n) n (60 - 3 * (nI n - nI n / 20 * 20))
def bk_sh (u : bk_U) (a : Nat) : bk_U := fun i j => u (a + i) j
def bk_Sa (aI : ClassId) (h0 : Nat) (u : bk_U) : va_W := (h0, .inr (3, [.ref (u 0 0), .ref (u 0 1)])) :: (([] ++ [(u 0 0, .inl (aI, 80, .inl (bk_hp 80)))]) ++ [(u 0 1, .inl (aI, 4, .inl (fun _ => 0)))])
def bk_Qu (aI : ClassId) (h0 : Nat) (u : bk_U) : va_W := (h0, .inr (1, [.ref (u 0 0), .ref (u 0 1), .int 0])) :: (([] ++ [(u 0 0, .inl (aI, 24, .inl (fun _ => 0)))]) ++ [(u 0 1, .inl (aI, 24, .inl (fun _ => 0)))])
def bk_Ri (aI : ClassId) (h0 : Nat) (u : bk_U) : va_W := (h0, .inr (2, [.ref (u 0 0), .int 0, .int 0])) :: ([] ++ [(u 0 0, .inl (aI, 7, .inl (fun _ => 0)))])
theorem wk_0 : Cond.code yX6_firstHeight cX6_firstHeight 1 (some .int) ∈ bb_TB := bb_tb (i := 46) (by decide +kernel) rfl
theorem wk_1 : Cond.static yX6_firstHeight ∈ bb_TB := bb_tb (i := 45) (by decide +kernel) rfl
theorem wk_2 : Cond.initialized RX6 ∈ bb_TB := bb_tb (i := 14) (by decide +kernel) rfl
set_option maxHeartbeats 4000000 in
theorem k_fh (l : Launch) (x : Int32) : Met l yX6_firstHeight (bk_ws yX6_firstHeight cX6_firstHeight 1 (some .int)) (bk_rm 1 0 0) (va_Pc [.int x] (fun _ => True)) (va_Qi (fun r (_ : Unit) => r = 60 - 3 * x) (fun _ _ => True) (fun _ => False)) 0 0 (fun _ => False) := by
  refine Met.ofW (cc := cX6_firstHeight) (maxL := 1) (ret := some .int) (by decide +kernel) rfl ?_
  intro p e s m args below meth c s₁ B hml hv
  obtain ⟨rfl, -⟩ := hv
  have hx := B.exec
  have hb := B.bytes
  have hr := B.returns
  have hlocks := B.notSynchronized
  have hS : va_S (fun _ => False) s.heap s.heap [] := va_S.rf
  have hl := lv_entry ([.int x]) (n := 1) (Nat.le_of_ble_eq_true rfl)
  rw [lg_entry_eq]
  generalize (lg_sl ([.int x]) ++ List.replicate (1 - (lg_sl ([.int x])).length) Slot.unset).toArray = ls at hl ⊢
  have hl : lv_has ls 1 [(0, .int x)] := hl
  refine lv_bipush (v := 60) hx hb dX6_firstHeight_0 (by decide) ?_
  refine lv_iconst (v := 3) hx hb dX6_firstHeight_2 (by decide) ?_
  refine lv_iload_n hx hb dX6_firstHeight_3 rfl (lv_at hl 0 rfl) ?_
  refine lv_imul hx hb dX6_firstHeight_4 ?_
  refine lv_isub hx hb dX6_firstHeight_5 ?_
  exact W.iret hx hb hr (fun t ht hW => ⟨⟨60 - 3 * x, (), rfl, rfl, trivial⟩, hS.F ht⟩) hS.2.2 dX6_firstHeight_6
theorem wk_3 : Cond.methodLink RX1 3 objectInit ∈ bb_TB := bb_tb (i := 60) (by decide +kernel) rfl
theorem wk_4 : Cond.fieldLink RX1 9 "BeachBars$Queue" "rows" "[I" ∈ bb_TB := bb_tb (i := 61) (by decide +kernel) rfl
theorem wk_5 : Cond.fieldLink RX1 15 "BeachBars$Queue" "heights" "[I" ∈ bb_TB := bb_tb (i := 62) (by decide +kernel) rfl
set_option maxHeartbeats 4000000 in
set_option maxRecDepth 100000 in
theorem k_1 (l : Launch) (D : va_G) (bs : Nat) (aI aC aS : ClassId) (b3 : Nat) : bk_Mt l D bs aI aC aS b3 yX1_init cX1_init 1 1 2 48 (.inr (1, [.null, .null, .int 0])) (bk_Qu aI) := by
  refine bk_of l (by decide +kernel) (by decide) rfl ?_
  intro p ev s m below meth c h0 ls hx hr hlocks hml hb0 hl hP
  have hAb := bk_A1 (e := .inr (1, [.null, .null, .int 0])) hb0 hx.2.2.2.2.1.2.1.2.2
  have hA : ∀ q, s.heap.size ≤ q → va_A [(h0, .inr (1, [.null, .null, .int 0]))] s.heap.size q := fun q h => Or.inr h
  have hD : va_D (va_A [(h0, .inr (1, [.null, .null, .int 0]))] s.heap.size) [(h0, .inr (1, [.null, .null, .int 0]))] := bk_D1
  have hS : va_S (va_A [(h0, .inr (1, [.null, .null, .int 0]))] s.heap.size) s.heap s.heap [] := va_S.rf
  have hK := hx.2.2.2.2.1.1
  refine lv_aload_n hx.1 hx.2.1 dX1_init_0 rfl (lv_at hl 0 rfl) ?_
  refine bk_obj hx wk_3 (hl.1.trans hml.symm) ⟨Nat.le_of_ble_eq_true rfl, Nat.le_of_ble_eq_true rfl⟩ dX1_init_1 ?_
  refine lv_aload_n hx.1 hx.2.1 dX1_init_4 rfl (lv_at hl 0 rfl) ?_
  refine lv_bipush (v := 24) hx.1 hx.2.1 dX1_init_5 (by decide) ?_
  refine bk_newi (N := 24) hx hP hD hS hA (by decide) (by decide) (by decide) (Nat.le_of_ble_eq_true rfl) (Nat.le_of_ble_eq_true rfl) dX1_init_7 (fun q1 H hP hD hS => ?_)
  refine W.widen (k := 1) (n := 24) (Nat.le_of_ble_eq_true rfl) (Nat.le_of_ble_eq_true rfl) ?_
  have hP : va_P D bb_cls ((h0, .inr (1, [.null, .null, .int 0])) :: ([] ++ [(q1, .inl (aI, 24, .inl (fun _ => 0)))])) H := hP
  have hD : va_D (va_A [(h0, .inr (1, [.null, .null, .int 0]))] s.heap.size) ((h0, .inr (1, [.null, .null, .int 0])) :: ([] ++ [(q1, .inl (aI, 24, .inl (fun _ => 0)))])) := hD
  refine va_putF (D := D) (ci := 1) (v := .ref q1) (ty := .array .int) (C := RX1) (T := TX1) (N := 3) (own := RX1) hx.1 hx.2.1 hx.2.2.2.1 wc_1 tyX1 tyX1_ok nmX1 hx.2.2.1 hK hP hD hS 0 rfl rfl 0 (by decide) (hx.2.2.2.1 _ wk_4) (fun _ h9 => h9) rfl hx.2.2.2.2.2 rfl (by decide +kernel) rfl rfl (Nat.le_of_ble_eq_true rfl) dX1_init_9 (fun H locs hP hD hS => ?_)
  have hP : va_P D bb_cls ((h0, .inr (1, [.ref q1, .null, .int 0])) :: ([] ++ [(q1, .inl (aI, 24, .inl (fun _ => 0)))])) H := hP
  have hD : va_D (va_A [(h0, .inr (1, [.null, .null, .int 0]))] s.heap.size) ((h0, .inr (1, [.ref q1, .null, .int 0])) :: ([] ++ [(q1, .inl (aI, 24, .inl (fun _ => 0)))])) := hD
  refine lv_aload_n hx.1 hx.2.1 dX1_init_12 rfl (lv_at hl 0 rfl) ?_
  refine lv_bipush (v := 24) hx.1 hx.2.1 dX1_init_13 (by decide) ?_
  refine bk_newi (N := 24) hx hP hD hS hA (by decide) (by decide) (by decide) (Nat.le_of_ble_eq_true rfl) (Nat.le_of_ble_eq_true rfl) dX1_init_15 (fun q2 H hP hD hS => ?_)
  refine W.widen (k := 2) (n := 48) (Nat.le_of_ble_eq_true rfl) (Nat.le_of_ble_eq_true rfl) ?_
  have hP : va_P D bb_cls ((h0, .inr (1, [.ref q1, .null, .int 0])) :: (([] ++ [(q1, .inl (aI, 24, .inl (fun _ => 0)))]) ++ [(q2, .inl (aI, 24, .inl (fun _ => 0)))])) H := hP
  have hD : va_D (va_A [(h0, .inr (1, [.null, .null, .int 0]))] s.heap.size) ((h0, .inr (1, [.ref q1, .null, .int 0])) :: (([] ++ [(q1, .inl (aI, 24, .inl (fun _ => 0)))]) ++ [(q2, .inl (aI, 24, .inl (fun _ => 0)))])) := hD
  refine va_putF (D := D) (ci := 1) (v := .ref q2) (ty := .array .int) (C := RX1) (T := TX1) (N := 3) (own := RX1) hx.1 hx.2.1 hx.2.2.2.1 wc_1 tyX1 tyX1_ok nmX1 hx.2.2.1 hK hP hD hS 0 rfl rfl 1 (by decide) (hx.2.2.2.1 _ wk_5) (fun _ h9 => h9) rfl hx.2.2.2.2.2 rfl (by decide +kernel) rfl rfl (Nat.le_of_ble_eq_true rfl) dX1_init_17 (fun H locs hP hD hS => ?_)
  have hP : va_P D bb_cls ((h0, .inr (1, [.ref q1, .ref q2, .int 0])) :: (([] ++ [(q1, .inl (aI, 24, .inl (fun _ => 0)))]) ++ [(q2, .inl (aI, 24, .inl (fun _ => 0)))])) H := hP
  have hD : va_D (va_A [(h0, .inr (1, [.null, .null, .int 0]))] s.heap.size) ((h0, .inr (1, [.ref q1, .ref q2, .int 0])) :: (([] ++ [(q1, .inl (aI, 24, .inl (fun _ => 0)))]) ++ [(q2, .inl (aI, 24, .inl (fun _ => 0)))])) := hD
  exact bk_ret hx hr hlocks (fun _ j => match j with | 0 => q1 | _ => q2) rfl hP hD hS dX1_init_20
theorem wk_6 : Cond.methodLink RX2 3 objectInit ∈ bb_TB := bb_tb (i := 156) (by decide +kernel) rfl
theorem wk_7 : Cond.fieldLink RX2 9 "BeachBars$Ride" "facts" "[I" ∈ bb_TB := bb_tb (i := 157) (by decide +kernel) rfl
set_option maxHeartbeats 4000000 in
set_option maxRecDepth 100000 in
theorem k_2 (l : Launch) (D : va_G) (bs : Nat) (aI aC aS : ClassId) (b3 : Nat) : bk_Mt l D bs aI aC aS b3 yX2_init cX2_init 1 1 1 7 (.inr (2, [.null, .int 0, .int 0])) (bk_Ri aI) := by
  refine bk_of l (by decide +kernel) (by decide) rfl ?_
  intro p ev s m below meth c h0 ls hx hr hlocks hml hb0 hl hP
  have hAb := bk_A1 (e := .inr (2, [.null, .int 0, .int 0])) hb0 hx.2.2.2.2.1.2.1.2.2
  have hA : ∀ q, s.heap.size ≤ q → va_A [(h0, .inr (2, [.null, .int 0, .int 0]))] s.heap.size q := fun q h => Or.inr h
  have hD : va_D (va_A [(h0, .inr (2, [.null, .int 0, .int 0]))] s.heap.size) [(h0, .inr (2, [.null, .int 0, .int 0]))] := bk_D1
  have hS : va_S (va_A [(h0, .inr (2, [.null, .int 0, .int 0]))] s.heap.size) s.heap s.heap [] := va_S.rf
  have hK := hx.2.2.2.2.1.1
  refine lv_aload_n hx.1 hx.2.1 dX2_init_0 rfl (lv_at hl 0 rfl) ?_
  refine bk_obj hx wk_6 (hl.1.trans hml.symm) ⟨Nat.le_of_ble_eq_true rfl, Nat.le_of_ble_eq_true rfl⟩ dX2_init_1 ?_
  refine lv_aload_n hx.1 hx.2.1 dX2_init_4 rfl (lv_at hl 0 rfl) ?_
  refine lv_bipush (v := 7) hx.1 hx.2.1 dX2_init_5 (by decide) ?_
  refine bk_newi (N := 7) hx hP hD hS hA (by decide) (by decide) (by decide) (Nat.le_of_ble_eq_true rfl) (Nat.le_of_ble_eq_true rfl) dX2_init_7 (fun q1 H hP hD hS => ?_)
  refine W.widen (k := 1) (n := 7) (Nat.le_of_ble_eq_true rfl) (Nat.le_of_ble_eq_true rfl) ?_
  have hP : va_P D bb_cls ((h0, .inr (2, [.null, .int 0, .int 0])) :: ([] ++ [(q1, .inl (aI, 7, .inl (fun _ => 0)))])) H := hP
  have hD : va_D (va_A [(h0, .inr (2, [.null, .int 0, .int 0]))] s.heap.size) ((h0, .inr (2, [.null, .int 0, .int 0])) :: ([] ++ [(q1, .inl (aI, 7, .inl (fun _ => 0)))])) := hD
  refine va_putF (D := D) (ci := 2) (v := .ref q1) (ty := .array .int) (C := RX2) (T := TX2) (N := 3) (own := RX2) hx.1 hx.2.1 hx.2.2.2.1 wc_2 tyX2 tyX2_ok nmX2 hx.2.2.1 hK hP hD hS 0 rfl rfl 0 (by decide) (hx.2.2.2.1 _ wk_7) (fun _ h9 => h9) rfl hx.2.2.2.2.2 rfl (by decide +kernel) rfl rfl (Nat.le_of_ble_eq_true rfl) dX2_init_9 (fun H locs hP hD hS => ?_)
  have hP : va_P D bb_cls ((h0, .inr (2, [.ref q1, .int 0, .int 0])) :: ([] ++ [(q1, .inl (aI, 7, .inl (fun _ => 0)))])) H := hP
  have hD : va_D (va_A [(h0, .inr (2, [.null, .int 0, .int 0]))] s.heap.size) ((h0, .inr (2, [.ref q1, .int 0, .int 0])) :: ([] ++ [(q1, .inl (aI, 7, .inl (fun _ => 0)))])) := hD
  exact bk_ret hx hr hlocks (fun _ _ => q1) rfl hP hD hS dX2_init_12
theorem wk_8 : Cond.fieldLink RX3 9 "BeachBars$Sand" "heights" "[I" ∈ bb_TB := bb_tb (i := 47) (by decide +kernel) rfl
set_option maxHeartbeats 4000000 in
set_option maxRecDepth 100000 in
theorem k_3_loop (l : Launch) {D : va_G} {bs b3 : Nat} {aI aC aS : ClassId} {p : Program} {ev : Env} {s : State} {m : MethodId} {below : List Frame} {meth : Method} {c : Code} {h0 q1 q2 : Nat} (hx : bk_Cx p s m #[.ref h0] c meth D bs aI aC aS b3 cX3_init RX3) (hr : meth.sig.returnType = none) (hlocks : meth.locks = false) (hml : c.maxLocals = 2) : ∀ (t n : Nat), n + t = 80 → ∀ (H : Heap) (locs : List Loc) (ls : Array Slot), lv_has ls 2 [(1, .int (nI n)), (0, .ref h0)] → va_P D bb_cls ((h0, .inr (3, [.ref q1, .ref q2])) :: (([] ++ [(q1, .inl (aI, 80, .inl (bk_hp n)))]) ++ [(q2, .inl (aI, 4, .inl (fun _ => 0)))])) H → va_D (va_A [(h0, .inr (3, [.null, .null]))] s.heap.size) ((h0, .inr (3, [.ref q1, .ref q2])) :: (([] ++ [(q1, .inl (aI, 80, .inl (bk_hp n)))]) ++ [(q2, .inl (aI, 4, .inl (fun _ => 0)))])) → va_S (va_A [(h0, .inr (3, [.null, .null]))] s.heap.size) s.heap H locs → W p l ev (bk_rm 2 2 84) s m #[.ref h0] below meth c H locs 2 84 (MQ below (bk_Qc D h0 s.heap.size (.inr (3, [.null, .null])) (bk_Sa aI)) #[.ref h0] s 2 84 (va_A [(h0, .inr (3, [.null, .null]))] s.heap.size)) (F0 m 21 ls []) := by
  intro t
  have hK := hx.2.2.2.2.1.1
  induction t with
  | zero =>
    intro n hn H locs ls hl hP hD hS
    obtain rfl : n = 80 := by omega
    refine lv_iload_n hx.1 hx.2.1 dX3_init_21 rfl (lv_at hl 0 rfl) ?_
    refine lv_aload_n hx.1 hx.2.1 dX3_init_22 rfl (lv_at hl 1 rfl) ?_
    refine va_get (D := D) (ci := 3) (v := .ref q1) (C := RX3) (T := TX3) (N := 2) (own := RX3) hx.1 hx.2.1 hx.2.2.2.1 wc_3 hx.2.2.1 hK hP 0 rfl rfl 0 (by decide) (hx.2.2.2.1 _ wk_8) (fun _ h9 => h9) rfl dX3_init_23 ?_
    refine va_alen (v := 80) hx.1 hx.2.1 hK hP 1 0 rfl rfl rfl dX3_init_26 ?_
    refine lv_icmp_ge (tgt := 49) hx.1 hx.2.1 dX3_init_27 (by decide) (fun _ => ?_) (fun z => absurd (by decide) z)
    exact bk_ret hx hr hlocks (fun _ j => match j with | 0 => q1 | _ => q2) rfl hP hD hS dX3_init_49
  | succ t ih =>
    intro n hn H locs ls hl hP hD hS
    refine lv_iload_n hx.1 hx.2.1 dX3_init_21 rfl (lv_at hl 0 rfl) ?_
    refine lv_aload_n hx.1 hx.2.1 dX3_init_22 rfl (lv_at hl 1 rfl) ?_
    refine va_get (D := D) (ci := 3) (v := .ref q1) (C := RX3) (T := TX3) (N := 2) (own := RX3) hx.1 hx.2.1 hx.2.2.2.1 wc_3 hx.2.2.1 hK hP 0 rfl rfl 0 (by decide) (hx.2.2.2.1 _ wk_8) (fun _ h9 => h9) rfl dX3_init_23 ?_
    refine va_alen (v := 80) hx.1 hx.2.1 hK hP 1 0 rfl rfl rfl dX3_init_26 ?_
    refine lv_icmp_ge (tgt := 49) hx.1 hx.2.1 dX3_init_27 (by decide) (fun z => ?_) (fun _ => ?_)
    · rw [bn_le, bn_ti (by omega)] at z
      have : (80 : Int32).toInt = 80 := rfl
      omega
    refine lv_aload_n hx.1 hx.2.1 dX3_init_30 rfl (lv_at hl 1 rfl) ?_
    refine va_get (D := D) (ci := 3) (v := .ref q1) (C := RX3) (T := TX3) (N := 2) (own := RX3) hx.1 hx.2.1 hx.2.2.2.1 wc_3 hx.2.2.1 hK hP 0 rfl rfl 0 (by decide) (hx.2.2.2.1 _ wk_8) (fun _ h9 => h9) rfl dX3_init_31 ?_
    refine lv_iload_n hx.1 hx.2.1 dX3_init_34 rfl (lv_at hl 0 rfl) ?_
    refine lv_iload_n hx.1 hx.2.1 dX3_init_35 rfl (lv_at hl 0 rfl) ?_
    refine lv_bipush (v := 20) hx.1 hx.2.1 dX3_init_36 (by decide) ?_
    refine lv_irem hx.1 hx.2.1 dX3_init_38 (by decide) ?_
    refine va_calli (va_runSN (As := [.int (nI n - nI n / 20 * 20)]) (rest := [.int (nI n), .ref q1]) ⟨hx.1, hx.2.1, hml, hx.2.2.1, hx.2.2.2.1⟩ (k_fh l (nI n - nI n / 20 * 20)) ⟨va_cnB 1 hx.2.2.2.1 (bk_good (fun _ h => h) wk_0) rfl rfl rfl hx.2.2.2.2.1.2.2.2.1.2 (hx.2.2.2.1 _ wk_2) (by decide +kernel) ⟨Nat.le_of_ble_eq_true rfl, Nat.le_of_ble_eq_true rfl⟩, hx.2.2.2.1 _ wk_1, trivial⟩ ⟨fun a U g mk q => q, fun U hU hW => ⟨rfl, trivial⟩⟩ rfl rfl hl.1 rfl (lv_room (Nat.le_of_ble_eq_true rfl)) dX3_init_39 ⟨Nat.le_of_ble_eq_true rfl, Nat.le_of_ble_eq_true rfl⟩) hS (fun q _ h => h.elim) (fun q h => h.elim) (fun r u t H1 locs1 ht hvm hw hB hz1 hk1 hS => ?_)
    have hP1 := hP.kept (H1 := H1) (fun k q hq => hk1 _ (va_at.lt (hP k q hq)) (fun h => h))
    have ec : (nI n).toNatClampNeg = n := bn_cl (by omega)
    subst hw
    refine va_iast hx.1 hx.2.1 hK hP1 hD hS 1 0 rfl rfl (vp_in_nI (n := n) (N := 80) (by omega) (by omega)) dX3_init_42 (fun H locs hP hD hS => ?_)
    rw [ec] at hP hD
    refine lv_iinc (v := nI (n + 1)) (lv' := [(1, .int (nI (n + 1))), (0, .ref h0)]) hx.1 hx.2.1 dX3_init_43 hl (k := 0) rfl (bn_p1 n) (by decide) rfl (fun ls hl => ?_)
    refine lv_goto (tgt := 21) hx.1 hx.2.1 dX3_init_46 (by decide) ?_
    exact ih (n + 1) (by omega) H locs ls hl hP hD hS
theorem wk_9 : Cond.methodLink RX3 3 objectInit ∈ bb_TB := bb_tb (i := 43) (by decide +kernel) rfl
theorem wk_10 : Cond.fieldLink RX3 15 "BeachBars$Sand" "gapsFound" "[I" ∈ bb_TB := bb_tb (i := 48) (by decide +kernel) rfl
set_option maxHeartbeats 4000000 in
set_option maxRecDepth 100000 in
theorem k_3 (l : Launch) (D : va_G) (bs : Nat) (aI aC aS : ClassId) (b3 : Nat) : bk_Mt l D bs aI aC aS b3 yX3_init cX3_init 2 2 2 84 (.inr (3, [.null, .null])) (bk_Sa aI) := by
  refine bk_of l (by decide +kernel) (by decide) rfl ?_
  intro p ev s m below meth c h0 ls hx hr hlocks hml hb0 hl hP
  have hAb := bk_A1 (e := .inr (3, [.null, .null])) hb0 hx.2.2.2.2.1.2.1.2.2
  have hA : ∀ q, s.heap.size ≤ q → va_A [(h0, .inr (3, [.null, .null]))] s.heap.size q := fun q h => Or.inr h
  have hD : va_D (va_A [(h0, .inr (3, [.null, .null]))] s.heap.size) [(h0, .inr (3, [.null, .null]))] := bk_D1
  have hS : va_S (va_A [(h0, .inr (3, [.null, .null]))] s.heap.size) s.heap s.heap [] := va_S.rf
  have hK := hx.2.2.2.2.1.1
  refine lv_aload_n hx.1 hx.2.1 dX3_init_0 rfl (lv_at hl 0 rfl) ?_
  refine bk_obj hx wk_9 (hl.1.trans hml.symm) ⟨Nat.le_of_ble_eq_true rfl, Nat.le_of_ble_eq_true rfl⟩ dX3_init_1 ?_
  refine lv_aload_n hx.1 hx.2.1 dX3_init_4 rfl (lv_at hl 0 rfl) ?_
  refine lv_bipush (v := 80) hx.1 hx.2.1 dX3_init_5 (by decide) ?_
  refine bk_newi (N := 80) hx hP hD hS hA (by decide) (by decide) (by decide) (Nat.le_of_ble_eq_true rfl) (Nat.le_of_ble_eq_true rfl) dX3_init_7 (fun q1 H hP hD hS => ?_)
  refine W.widen (k := 1) (n := 80) (Nat.le_of_ble_eq_true rfl) (Nat.le_of_ble_eq_true rfl) ?_
  have hP : va_P D bb_cls ((h0, .inr (3, [.null, .null])) :: ([] ++ [(q1, .inl (aI, 80, .inl (fun _ => 0)))])) H := hP
  have hD : va_D (va_A [(h0, .inr (3, [.null, .null]))] s.heap.size) ((h0, .inr (3, [.null, .null])) :: ([] ++ [(q1, .inl (aI, 80, .inl (fun _ => 0)))])) := hD
  refine va_putF (D := D) (ci := 3) (v := .ref q1) (ty := .array .int) (C := RX3) (T := TX3) (N := 2) (own := RX3) hx.1 hx.2.1 hx.2.2.2.1 wc_3 tyX3 tyX3_ok nmX3 hx.2.2.1 hK hP hD hS 0 rfl rfl 0 (by decide) (hx.2.2.2.1 _ wk_8) (fun _ h9 => h9) rfl hx.2.2.2.2.2 rfl (by decide +kernel) rfl rfl (Nat.le_of_ble_eq_true rfl) dX3_init_9 (fun H locs hP hD hS => ?_)
  have hP : va_P D bb_cls ((h0, .inr (3, [.ref q1, .null])) :: ([] ++ [(q1, .inl (aI, 80, .inl (fun _ => 0)))])) H := hP
  have hD : va_D (va_A [(h0, .inr (3, [.null, .null]))] s.heap.size) ((h0, .inr (3, [.ref q1, .null])) :: ([] ++ [(q1, .inl (aI, 80, .inl (fun _ => 0)))])) := hD
  refine lv_aload_n hx.1 hx.2.1 dX3_init_12 rfl (lv_at hl 0 rfl) ?_
  refine lv_iconst (v := 4) hx.1 hx.2.1 dX3_init_13 (by decide) ?_
  refine bk_newi (N := 4) hx hP hD hS hA (by decide) (by decide) (by decide) (Nat.le_of_ble_eq_true rfl) (Nat.le_of_ble_eq_true rfl) dX3_init_14 (fun q2 H hP hD hS => ?_)
  refine W.widen (k := 2) (n := 84) (Nat.le_of_ble_eq_true rfl) (Nat.le_of_ble_eq_true rfl) ?_
  have hP : va_P D bb_cls ((h0, .inr (3, [.ref q1, .null])) :: (([] ++ [(q1, .inl (aI, 80, .inl (fun _ => 0)))]) ++ [(q2, .inl (aI, 4, .inl (fun _ => 0)))])) H := hP
  have hD : va_D (va_A [(h0, .inr (3, [.null, .null]))] s.heap.size) ((h0, .inr (3, [.ref q1, .null])) :: (([] ++ [(q1, .inl (aI, 80, .inl (fun _ => 0)))]) ++ [(q2, .inl (aI, 4, .inl (fun _ => 0)))])) := hD
  refine va_putF (D := D) (ci := 3) (v := .ref q2) (ty := .array .int) (C := RX3) (T := TX3) (N := 2) (own := RX3) hx.1 hx.2.1 hx.2.2.2.1 wc_3 tyX3 tyX3_ok nmX3 hx.2.2.1 hK hP hD hS 0 rfl rfl 1 (by decide) (hx.2.2.2.1 _ wk_10) (fun _ h9 => h9) rfl hx.2.2.2.2.2 rfl (by decide +kernel) rfl rfl (Nat.le_of_ble_eq_true rfl) dX3_init_16 (fun H locs hP hD hS => ?_)
  have hP : va_P D bb_cls ((h0, .inr (3, [.ref q1, .ref q2])) :: (([] ++ [(q1, .inl (aI, 80, .inl (fun _ => 0)))]) ++ [(q2, .inl (aI, 4, .inl (fun _ => 0)))])) H := hP
  have hD : va_D (va_A [(h0, .inr (3, [.null, .null]))] s.heap.size) ((h0, .inr (3, [.ref q1, .ref q2])) :: (([] ++ [(q1, .inl (aI, 80, .inl (fun _ => 0)))]) ++ [(q2, .inl (aI, 4, .inl (fun _ => 0)))])) := hD
  refine lv_iconst (v := 0) hx.1 hx.2.1 dX3_init_19 (by decide) ?_
  refine lv_istore_n (lv' := [(1, .int 0), (0, .ref h0)]) hx.1 hx.2.1 dX3_init_20 rfl hl (by decide) rfl (fun ls hl => ?_)
  exact k_3_loop l hx hr hlocks hml 80 0 rfl H locs ls hl hP hD hS
