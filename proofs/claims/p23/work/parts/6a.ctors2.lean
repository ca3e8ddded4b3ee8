/-! THE CONSTRUCTORS: a state, a text, a history -/
def bk_St (aI : ClassId) (h0 : Nat) (u : bk_U) : va_W := (h0, .inr (4, [.ref (u 0 0), .ref (u 0 1), .ref (u 0 2), .ref (u 0 3), .ref (u 0 4), .int 0, .int 40])) :: ((((([] ++ bk_Sa aI (u 0 0) (bk_sh u 1)) ++ bk_Qu aI (u 0 1) (bk_sh u 2)) ++ [(u 0 2, .inl (aI, 4, .inl (va_cpy (bb_cst 32) (fun _ => 0) 0 0 4)))]) ++ [(u 0 3, .inl (aI, 9, .inl (fun _ => 0)))]) ++ [(u 0 4, .inl (aI, 168, .inl (fun _ => 0)))])
def bk_Tx (aI aC : ClassId) (h0 : Nat) (u : bk_U) : va_W := (h0, .inr (5, [.ref (u 0 0), .int 0, .ref (u 0 1), .int 0, .int 0, .int 0, .int 0])) :: (([] ++ [(u 0 0, .inl (aC, 60, .inl (fun _ => 0)))]) ++ bk_Qu aI (u 0 1) (bk_sh u 1))
def bk_Hi (aI aS : ClassId) (h0 : Nat) (u : bk_U) : va_W := (h0, .inr (0, [.ref (u 0 0), .int 0, .int 0])) :: ((((([] ++ [(u 0 0, .inl (aS, 4, .inr (.inr (.inr (.inr (fun j => some (u 0 (j + 1))))))))]) ++ bk_St aI (u 0 1) (bk_sh u 1)) ++ bk_St aI (u 0 2) (bk_sh u 4)) ++ bk_St aI (u 0 3) (bk_sh u 7)) ++ bk_St aI (u 0 4) (bk_sh u 10))
theorem wk_11 : Cond.methodLink RX4 3 objectInit ∈ bb_TB := bb_tb (i := 37) (by decide +kernel) rfl
theorem wk_12 : Cond.classLink RX4 9 RX3 ∈ bb_TB := bb_tb (i := 38) (by decide +kernel) rfl
theorem wk_13 : Cond.instantiable RX3 2 ∈ bb_TB := bb_tb (i := 39) (by decide +kernel) rfl
theorem wk_14 : Cond.initialized RX3 ∈ bb_TB := bb_tb (i := 16) (by decide +kernel) rfl
theorem wk_15 : Cond.instanceMethod yX3_init ∈ bb_TB := bb_tb (i := 41) (by decide +kernel) rfl
theorem wk_16 : Cond.code yX3_init cX3_init 2 none ∈ bb_TB := bb_tb (i := 42) (by decide +kernel) rfl
theorem wk_17 : Cond.methodLink RX4 11 yX3_init ∈ bb_TB := bb_tb (i := 40) (by decide +kernel) rfl
theorem wk_18 : Cond.fieldLink RX4 12 "BeachBars$State" "beach" "LBeachBars$Sand;" ∈ bb_TB := bb_tb (i := 76) (by decide +kernel) rfl
theorem wk_19 : Cond.classLink RX4 18 RX1 ∈ bb_TB := bb_tb (i := 55) (by decide +kernel) rfl
theorem wk_20 : Cond.instantiable RX1 3 ∈ bb_TB := bb_tb (i := 56) (by decide +kernel) rfl
theorem wk_21 : Cond.initialized RX1 ∈ bb_TB := bb_tb (i := 17) (by decide +kernel) rfl
theorem wk_22 : Cond.instanceMethod yX1_init ∈ bb_TB := bb_tb (i := 58) (by decide +kernel) rfl
theorem wk_23 : Cond.code yX1_init cX1_init 1 none ∈ bb_TB := bb_tb (i := 59) (by decide +kernel) rfl
theorem wk_24 : Cond.methodLink RX4 20 yX1_init ∈ bb_TB := bb_tb (i := 57) (by decide +kernel) rfl
theorem wk_25 : Cond.fieldLink RX4 21 "BeachBars$State" "queue" "LBeachBars$Queue;" ∈ bb_TB := bb_tb (i := 78) (by decide +kernel) rfl
theorem wk_26 : Cond.fieldLink RX4 25 "BeachBars$State" "settings" "[I" ∈ bb_TB := bb_tb (i := 80) (by decide +kernel) rfl
theorem wk_27 : Cond.fieldLink RX4 29 "BeachBars$State" "totals" "[I" ∈ bb_TB := bb_tb (i := 82) (by decide +kernel) rfl
theorem wk_28 : Cond.fieldLink RX4 32 "BeachBars$State" "tales" "[I" ∈ bb_TB := bb_tb (i := 84) (by decide +kernel) rfl
theorem wk_29 : Cond.fieldLink RX4 35 "BeachBars$State" "level" "I" ∈ bb_TB := bb_tb (i := 88) (by decide +kernel) rfl
theorem wk_30 : Cond.methodLink RX4 42 arraycopyName ∈ bb_TB := bb_tb (i := 73) (by decide +kernel) rfl
theorem wk_31 : Cond.native arraycopyName ∈ bb_TB := bb_tb (i := 75) (by decide +kernel) rfl
theorem wk_32 : Cond.static arraycopyName ∈ bb_TB := bb_tb (i := 74) (by decide +kernel) rfl
theorem wk_33 : Cond.initialized "java/lang/System" ∈ bb_TB := bb_tb (i := 18) (by decide +kernel) rfl
set_option maxHeartbeats 4000000 in
set_option maxRecDepth 100000 in
theorem k_4 (l : Launch) (D : va_G) (bs : Nat) (aI aC aS : ClassId) (b3 : Nat) : bk_Mt l D bs aI aC aS b3 yX4_init cX4_init 1 3 9 318 (.inr (4, [.null, .null, .null, .null, .null, .int 0, .int 0])) (bk_St aI) := by
  refine bk_of l (by decide +kernel) (by decide) rfl ?_
  intro p ev s m below meth c h0 ls hx hr hlocks hml hb0 hl hP
  have hAb := bk_A1 (e := .inr (4, [.null, .null, .null, .null, .null, .int 0, .int 0])) hb0 hx.2.2.2.2.1.2.1.2.2
  have hA : ∀ q, s.heap.size ≤ q → va_A [(h0, .inr (4, [.null, .null, .null, .null, .null, .int 0, .int 0]))] s.heap.size q := fun q h => Or.inr h
  have hD : va_D (va_A [(h0, .inr (4, [.null, .null, .null, .null, .null, .int 0, .int 0]))] s.heap.size) [(h0, .inr (4, [.null, .null, .null, .null, .null, .int 0, .int 0]))] := bk_D1
  have hS : va_S (va_A [(h0, .inr (4, [.null, .null, .null, .null, .null, .int 0, .int 0]))] s.heap.size) s.heap s.heap [] := va_S.rf
  have hK := hx.2.2.2.2.1.1
  refine lv_aload_n hx.1 hx.2.1 dX4_init_0 rfl (lv_at hl 0 rfl) ?_
  refine bk_obj hx wk_11 (hl.1.trans hml.symm) ⟨Nat.le_of_ble_eq_true rfl, Nat.le_of_ble_eq_true rfl⟩ dX4_init_1 ?_
  refine lv_aload_n hx.1 hx.2.1 dX4_init_4 rfl (lv_at hl 0 rfl) ?_
  refine va_new (ci := 3) (fs := [.null, .null]) (C := RX3) (T := TX3) (N := 2) (own := RX4) hx.1 hx.2.1 hx.2.2.2.1 wc_3 tyX3 tyX3_ok hx.2.2.1 (hx.2.2.2.1 _ wk_12) (hx.2.2.2.1 _ wk_13) (hx.2.2.2.1 _ wk_14) hK hP hD hS hA rfl (fun j hj => by rcases (show j = 0 ∨ j = 1 by omega) with rfl | rfl <;> rfl) (Nat.le_of_ble_eq_true rfl) (Nat.le_of_ble_eq_true rfl) dX4_init_5 (fun q1 H hP hD hS => ?_)
  refine W.widen (k := 1) (n := 2) (Nat.le_of_ble_eq_true rfl) (Nat.le_of_ble_eq_true rfl) ?_
  refine lv_dup hx.1 hx.2.1 dX4_init_8 rfl ?_
  refine bk_ini (own := RX4) (wr := ((h0, .inr (4, [.null, .null, .null, .null, .null, .int 0, .int 0])) :: [])) hx hAb hA (k_3 l D bs aI aC aS b3) rfl (by decide +kernel) wk_16 wk_14 wk_17 wk_15 (by decide) ⟨Nat.le_of_ble_eq_true rfl, Nat.le_of_ble_eq_true rfl⟩ (Nat.le_of_ble_eq_true rfl) (Nat.le_of_ble_eq_true rfl) (hl.1.trans hml.symm) (Nat.le_of_ble_eq_true rfl) hP hD hS dX4_init_9 (fun u1 H locs hP hD hS => ?_)
  refine W.widen (k := 3) (n := 86) (Nat.le_of_ble_eq_true rfl) (Nat.le_of_ble_eq_true rfl) ?_
  have hP : va_P D bb_cls ((h0, .inr (4, [.null, .null, .null, .null, .null, .int 0, .int 0])) :: ([] ++ bk_Sa aI q1 u1)) H := hP
  have hD : va_D (va_A [(h0, .inr (4, [.null, .null, .null, .null, .null, .int 0, .int 0]))] s.heap.size) ((h0, .inr (4, [.null, .null, .null, .null, .null, .int 0, .int 0])) :: ([] ++ bk_Sa aI q1 u1)) := hD
  refine va_putF (D := D) (ci := 4) (v := .ref q1) (ty := .object "BeachBars$Sand") (C := RX4) (T := TX4) (N := 7) (own := RX4) hx.1 hx.2.1 hx.2.2.2.1 wc_4 tyX4 tyX4_ok nmX4 hx.2.2.1 hK hP hD hS 0 rfl rfl 0 (by decide) (hx.2.2.2.1 _ wk_18) (fun _ h9 => h9) rfl hx.2.2.2.2.2 rfl (by decide +kernel) rfl rfl (Nat.le_of_ble_eq_true rfl) dX4_init_12 (fun H locs hP hD hS => ?_)
  have hP : va_P D bb_cls ((h0, .inr (4, [.ref q1, .null, .null, .null, .null, .int 0, .int 0])) :: ([] ++ bk_Sa aI q1 u1)) H := hP
  have hD : va_D (va_A [(h0, .inr (4, [.null, .null, .null, .null, .null, .int 0, .int 0]))] s.heap.size) ((h0, .inr (4, [.ref q1, .null, .null, .null, .null, .int 0, .int 0])) :: ([] ++ bk_Sa aI q1 u1)) := hD
  refine lv_aload_n hx.1 hx.2.1 dX4_init_15 rfl (lv_at hl 0 rfl) ?_
  refine va_new (ci := 1) (fs := [.null, .null, .int 0]) (C := RX1) (T := TX1) (N := 3) (own := RX4) hx.1 hx.2.1 hx.2.2.2.1 wc_1 tyX1 tyX1_ok hx.2.2.1 (hx.2.2.2.1 _ wk_19) (hx.2.2.2.1 _ wk_20) (hx.2.2.2.1 _ wk_21) hK hP hD hS hA rfl (fun j hj => by rcases (show j = 0 ∨ j = 1 ∨ j = 2 by omega) with rfl | rfl | rfl <;> rfl) (Nat.le_of_ble_eq_true rfl) (Nat.le_of_ble_eq_true rfl) dX4_init_16 (fun q2 H hP hD hS => ?_)
  refine W.widen (k := 4) (n := 89) (Nat.le_of_ble_eq_true rfl) (Nat.le_of_ble_eq_true rfl) ?_
  refine lv_dup hx.1 hx.2.1 dX4_init_19 rfl ?_
  refine bk_ini (own := RX4) (wr := ((h0, .inr (4, [.ref q1, .null, .null, .null, .null, .int 0, .int 0])) :: ([] ++ bk_Sa aI q1 u1))) hx hAb hA (k_1 l D bs aI aC aS b3) rfl (by decide +kernel) wk_23 wk_21 wk_24 wk_22 (by decide) ⟨Nat.le_of_ble_eq_true rfl, Nat.le_of_ble_eq_true rfl⟩ (Nat.le_of_ble_eq_true rfl) (Nat.le_of_ble_eq_true rfl) (hl.1.trans hml.symm) (Nat.le_of_ble_eq_true rfl) hP hD hS dX4_init_20 (fun u2 H locs hP hD hS => ?_)
  refine W.widen (k := 6) (n := 137) (Nat.le_of_ble_eq_true rfl) (Nat.le_of_ble_eq_true rfl) ?_
  have hP : va_P D bb_cls ((h0, .inr (4, [.ref q1, .null, .null, .null, .null, .int 0, .int 0])) :: (([] ++ bk_Sa aI q1 u1) ++ bk_Qu aI q2 u2)) H := hP
  have hD : va_D (va_A [(h0, .inr (4, [.null, .null, .null, .null, .null, .int 0, .int 0]))] s.heap.size) ((h0, .inr (4, [.ref q1, .null, .null, .null, .null, .int 0, .int 0])) :: (([] ++ bk_Sa aI q1 u1) ++ bk_Qu aI q2 u2)) := hD
  refine va_putF (D := D) (ci := 4) (v := .ref q2) (ty := .object "BeachBars$Queue") (C := RX4) (T := TX4) (N := 7) (own := RX4) hx.1 hx.2.1 hx.2.2.2.1 wc_4 tyX4 tyX4_ok nmX4 hx.2.2.1 hK hP hD hS 0 rfl rfl 1 (by decide) (hx.2.2.2.1 _ wk_25) (fun _ h9 => h9) rfl hx.2.2.2.2.2 rfl (by decide +kernel) rfl rfl (Nat.le_of_ble_eq_true rfl) dX4_init_23 (fun H locs hP hD hS => ?_)
  have hP : va_P D bb_cls ((h0, .inr (4, [.ref q1, .ref q2, .null, .null, .null, .int 0, .int 0])) :: (([] ++ bk_Sa aI q1 u1) ++ bk_Qu aI q2 u2)) H := hP
  have hD : va_D (va_A [(h0, .inr (4, [.null, .null, .null, .null, .null, .int 0, .int 0]))] s.heap.size) ((h0, .inr (4, [.ref q1, .ref q2, .null, .null, .null, .int 0, .int 0])) :: (([] ++ bk_Sa aI q1 u1) ++ bk_Qu aI q2 u2)) := hD
  refine lv_aload_n hx.1 hx.2.1 dX4_init_26 rfl (lv_at hl 0 rfl) ?_
  refine lv_iconst (v := 4) hx.1 hx.2.1 dX4_init_27 (by decide) ?_
  refine bk_newi (N := 4) hx hP hD hS hA (by decide) (by decide) (by decide) (Nat.le_of_ble_eq_true rfl) (Nat.le_of_ble_eq_true rfl) dX4_init_28 (fun q3 H hP hD hS => ?_)
  refine W.widen (k := 7) (n := 141) (Nat.le_of_ble_eq_true rfl) (Nat.le_of_ble_eq_true rfl) ?_
  have hP : va_P D bb_cls ((h0, .inr (4, [.ref q1, .ref q2, .null, .null, .null, .int 0, .int 0])) :: ((([] ++ bk_Sa aI q1 u1) ++ bk_Qu aI q2 u2) ++ [(q3, .inl (aI, 4, .inl (fun _ => 0)))])) H := hP
  have hD : va_D (va_A [(h0, .inr (4, [.null, .null, .null, .null, .null, .int 0, .int 0]))] s.heap.size) ((h0, .inr (4, [.ref q1, .ref q2, .null, .null, .null, .int 0, .int 0])) :: ((([] ++ bk_Sa aI q1 u1) ++ bk_Qu aI q2 u2) ++ [(q3, .inl (aI, 4, .inl (fun _ => 0)))])) := hD
  refine va_putF (D := D) (ci := 4) (v := .ref q3) (ty := .array .int) (C := RX4) (T := TX4) (N := 7) (own := RX4) hx.1 hx.2.1 hx.2.2.2.1 wc_4 tyX4 tyX4_ok nmX4 hx.2.2.1 hK hP hD hS 0 rfl rfl 2 (by decide) (hx.2.2.2.1 _ wk_26) (fun _ h9 => h9) rfl hx.2.2.2.2.2 rfl (by decide +kernel) rfl rfl (Nat.le_of_ble_eq_true rfl) dX4_init_30 (fun H locs hP hD hS => ?_)
  have hP : va_P D bb_cls ((h0, .inr (4, [.ref q1, .ref q2, .ref q3, .null, .null, .int 0, .int 0])) :: ((([] ++ bk_Sa aI q1 u1) ++ bk_Qu aI q2 u2) ++ [(q3, .inl (aI, 4, .inl (fun _ => 0)))])) H := hP
  have hD : va_D (va_A [(h0, .inr (4, [.null, .null, .null, .null, .null, .int 0, .int 0]))] s.heap.size) ((h0, .inr (4, [.ref q1, .ref q2, .ref q3, .null, .null, .int 0, .int 0])) :: ((([] ++ bk_Sa aI q1 u1) ++ bk_Qu aI q2 u2) ++ [(q3, .inl (aI, 4, .inl (fun _ => 0)))])) := hD
  refine lv_aload_n hx.1 hx.2.1 dX4_init_33 rfl (lv_at hl 0 rfl) ?_
  refine lv_bipush (v := 9) hx.1 hx.2.1 dX4_init_34 (by decide) ?_
  refine bk_newi (N := 9) hx hP hD hS hA (by decide) (by decide) (by decide) (Nat.le_of_ble_eq_true rfl) (Nat.le_of_ble_eq_true rfl) dX4_init_36 (fun q4 H hP hD hS => ?_)
  refine W.widen (k := 8) (n := 150) (Nat.le_of_ble_eq_true rfl) (Nat.le_of_ble_eq_true rfl) ?_
  have hP : va_P D bb_cls ((h0, .inr (4, [.ref q1, .ref q2, .ref q3, .null, .null, .int 0, .int 0])) :: (((([] ++ bk_Sa aI q1 u1) ++ bk_Qu aI q2 u2) ++ [(q3, .inl (aI, 4, .inl (fun _ => 0)))]) ++ [(q4, .inl (aI, 9, .inl (fun _ => 0)))])) H := hP
  have hD : va_D (va_A [(h0, .inr (4, [.null, .null, .null, .null, .null, .int 0, .int 0]))] s.heap.size) ((h0, .inr (4, [.ref q1, .ref q2, .ref q3, .null, .null, .int 0, .int 0])) :: (((([] ++ bk_Sa aI q1 u1) ++ bk_Qu aI q2 u2) ++ [(q3, .inl (aI, 4, .inl (fun _ => 0)))]) ++ [(q4, .inl (aI, 9, .inl (fun _ => 0)))])) := hD
  refine va_putF (D := D) (ci := 4) (v := .ref q4) (ty := .array .int) (C := RX4) (T := TX4) (N := 7) (own := RX4) hx.1 hx.2.1 hx.2.2.2.1 wc_4 tyX4 tyX4_ok nmX4 hx.2.2.1 hK hP hD hS 0 rfl rfl 3 (by decide) (hx.2.2.2.1 _ wk_27) (fun _ h9 => h9) rfl hx.2.2.2.2.2 rfl (by decide +kernel) rfl rfl (Nat.le_of_ble_eq_true rfl) dX4_init_38 (fun H locs hP hD hS => ?_)
  have hP : va_P D bb_cls ((h0, .inr (4, [.ref q1, .ref q2, .ref q3, .ref q4, .null, .int 0, .int 0])) :: (((([] ++ bk_Sa aI q1 u1) ++ bk_Qu aI q2 u2) ++ [(q3, .inl (aI, 4, .inl (fun _ => 0)))]) ++ [(q4, .inl (aI, 9, .inl (fun _ => 0)))])) H := hP
  have hD : va_D (va_A [(h0, .inr (4, [.null, .null, .null, .null, .null, .int 0, .int 0]))] s.heap.size) ((h0, .inr (4, [.ref q1, .ref q2, .ref q3, .ref q4, .null, .int 0, .int 0])) :: (((([] ++ bk_Sa aI q1 u1) ++ bk_Qu aI q2 u2) ++ [(q3, .inl (aI, 4, .inl (fun _ => 0)))]) ++ [(q4, .inl (aI, 9, .inl (fun _ => 0)))])) := hD
  refine lv_aload_n hx.1 hx.2.1 dX4_init_41 rfl (lv_at hl 0 rfl) ?_
  refine lv_sipush (v := 168) hx.1 hx.2.1 dX4_init_42 (by decide) ?_
  refine bk_newi (N := 168) hx hP hD hS hA (by decide) (by decide) (by decide) (Nat.le_of_ble_eq_true rfl) (Nat.le_of_ble_eq_true rfl) dX4_init_45 (fun q5 H hP hD hS => ?_)
  refine W.widen (k := 9) (n := 318) (Nat.le_of_ble_eq_true rfl) (Nat.le_of_ble_eq_true rfl) ?_
  have hP : va_P D bb_cls ((h0, .inr (4, [.ref q1, .ref q2, .ref q3, .ref q4, .null, .int 0, .int 0])) :: ((((([] ++ bk_Sa aI q1 u1) ++ bk_Qu aI q2 u2) ++ [(q3, .inl (aI, 4, .inl (fun _ => 0)))]) ++ [(q4, .inl (aI, 9, .inl (fun _ => 0)))]) ++ [(q5, .inl (aI, 168, .inl (fun _ => 0)))])) H := hP
  have hD : va_D (va_A [(h0, .inr (4, [.null, .null, .null, .null, .null, .int 0, .int 0]))] s.heap.size) ((h0, .inr (4, [.ref q1, .ref q2, .ref q3, .ref q4, .null, .int 0, .int 0])) :: ((((([] ++ bk_Sa aI q1 u1) ++ bk_Qu aI q2 u2) ++ [(q3, .inl (aI, 4, .inl (fun _ => 0)))]) ++ [(q4, .inl (aI, 9, .inl (fun _ => 0)))]) ++ [(q5, .inl (aI, 168, .inl (fun _ => 0)))])) := hD
  refine va_putF (D := D) (ci := 4) (v := .ref q5) (ty := .array .int) (C := RX4) (T := TX4) (N := 7) (own := RX4) hx.1 hx.2.1 hx.2.2.2.1 wc_4 tyX4 tyX4_ok nmX4 hx.2.2.1 hK hP hD hS 0 rfl rfl 4 (by decide) (hx.2.2.2.1 _ wk_28) (fun _ h9 => h9) rfl hx.2.2.2.2.2 rfl (by decide +kernel) rfl rfl (Nat.le_of_ble_eq_true rfl) dX4_init_47 (fun H locs hP hD hS => ?_)
  have hP : va_P D bb_cls ((h0, .inr (4, [.ref q1, .ref q2, .ref q3, .ref q4, .ref q5, .int 0, .int 0])) :: ((((([] ++ bk_Sa aI q1 u1) ++ bk_Qu aI q2 u2) ++ [(q3, .inl (aI, 4, .inl (fun _ => 0)))]) ++ [(q4, .inl (aI, 9, .inl (fun _ => 0)))]) ++ [(q5, .inl (aI, 168, .inl (fun _ => 0)))])) H := hP
  have hD : va_D (va_A [(h0, .inr (4, [.null, .null, .null, .null, .null, .int 0, .int 0]))] s.heap.size) ((h0, .inr (4, [.ref q1, .ref q2, .ref q3, .ref q4, .ref q5, .int 0, .int 0])) :: ((((([] ++ bk_Sa aI q1 u1) ++ bk_Qu aI q2 u2) ++ [(q3, .inl (aI, 4, .inl (fun _ => 0)))]) ++ [(q4, .inl (aI, 9, .inl (fun _ => 0)))]) ++ [(q5, .inl (aI, 168, .inl (fun _ => 0)))])) := hD
  refine lv_aload_n hx.1 hx.2.1 dX4_init_50 rfl (lv_at hl 0 rfl) ?_
  refine lv_bipush (v := 40) hx.1 hx.2.1 dX4_init_51 (by decide) ?_
  refine va_put (D := D) (ci := 4) (v := .int 40) (ty := .int) (C := RX4) (T := TX4) (N := 7) (own := RX4) hx.1 hx.2.1 hx.2.2.2.1 wc_4 tyX4 tyX4_ok nmX4 hx.2.2.1 hK hP hD hS 0 rfl rfl 6 (by decide) (hx.2.2.2.1 _ wk_29) (fun _ h9 => h9) rfl (by decide +kernel) rfl rfl (Nat.le_of_ble_eq_true rfl) dX4_init_53 (fun H locs hP hD hS => ?_)
  have hP : va_P D bb_cls ((h0, .inr (4, [.ref q1, .ref q2, .ref q3, .ref q4, .ref q5, .int 0, .int 40])) :: ((((([] ++ bk_Sa aI q1 u1) ++ bk_Qu aI q2 u2) ++ [(q3, .inl (aI, 4, .inl (fun _ => 0)))]) ++ [(q4, .inl (aI, 9, .inl (fun _ => 0)))]) ++ [(q5, .inl (aI, 168, .inl (fun _ => 0)))])) H := hP
  have hD : va_D (va_A [(h0, .inr (4, [.null, .null, .null, .null, .null, .int 0, .int 0]))] s.heap.size) ((h0, .inr (4, [.ref q1, .ref q2, .ref q3, .ref q4, .ref q5, .int 0, .int 40])) :: ((((([] ++ bk_Sa aI q1 u1) ++ bk_Qu aI q2 u2) ++ [(q3, .inl (aI, 4, .inl (fun _ => 0)))]) ++ [(q4, .inl (aI, 9, .inl (fun _ => 0)))]) ++ [(q5, .inl (aI, 168, .inl (fun _ => 0)))])) := hD
  refine va_getsN (own := RX4) (ref := "BeachBars") (host := "BeachBars") hx.1 hx.2.1 (hx.2.2.2.2.1.2.2.1.narrow hAb) hS hx.2.2.1 (va_Nw.use rfl hx.2.2.2.2.1.2.2.2.1.1) (fun _ h9 => h9) dX4_init_56 ?_
  refine lv_iconst (v := 0) hx.1 hx.2.1 dX4_init_59 (by decide) ?_
  refine lv_aload_n hx.1 hx.2.1 dX4_init_60 rfl (lv_at hl 0 rfl) ?_
  refine va_get (D := D) (ci := 4) (v := .ref q3) (C := RX4) (T := TX4) (N := 7) (own := RX4) hx.1 hx.2.1 hx.2.2.2.1 wc_4 hx.2.2.1 hK hP 0 rfl rfl 2 (by decide) (hx.2.2.2.1 _ wk_26) (fun _ h9 => h9) rfl dX4_init_61 ?_
  refine lv_iconst (v := 0) hx.1 hx.2.1 dX4_init_64 (by decide) ?_
  refine lv_iconst (v := 4) hx.1 hx.2.1 dX4_init_65 (by decide) ?_
  refine bk_copyT (own := RX4) (N := 4) hx.1 hx.2.1 (hml.trans hl.1.symm) hx.2.2.1 (hx.2.2.2.1 _ wk_30) (hx.2.2.2.1 _ wk_31) (hx.2.2.2.1 _ wk_32) (hx.2.2.2.1 _ wk_33) hK hP hD hS (hx.2.2.2.2.1.2.1.1.narrow hAb) 7 rfl (by decide) (by decide) (by decide) (by decide) (Nat.le_of_ble_eq_true rfl) (Nat.le_of_ble_eq_true rfl) dX4_init_66 (fun H locs hP hD hS => ?_)
  have hP : va_P D bb_cls ((h0, .inr (4, [.ref q1, .ref q2, .ref q3, .ref q4, .ref q5, .int 0, .int 40])) :: ((((([] ++ bk_Sa aI q1 u1) ++ bk_Qu aI q2 u2) ++ [(q3, .inl (aI, 4, .inl (va_cpy (bb_cst 32) (fun _ => 0) 0 0 4)))]) ++ [(q4, .inl (aI, 9, .inl (fun _ => 0)))]) ++ [(q5, .inl (aI, 168, .inl (fun _ => 0)))])) H := hP
  have hD : va_D (va_A [(h0, .inr (4, [.null, .null, .null, .null, .null, .int 0, .int 0]))] s.heap.size) ((h0, .inr (4, [.ref q1, .ref q2, .ref q3, .ref q4, .ref q5, .int 0, .int 40])) :: ((((([] ++ bk_Sa aI q1 u1) ++ bk_Qu aI q2 u2) ++ [(q3, .inl (aI, 4, .inl (va_cpy (bb_cst 32) (fun _ => 0) 0 0 4)))]) ++ [(q4, .inl (aI, 9, .inl (fun _ => 0)))]) ++ [(q5, .inl (aI, 168, .inl (fun _ => 0)))])) := hD
  exact bk_ret hx hr hlocks (fun i j => match i with | 0 => (match j with | 0 => q1 | 1 => q2 | 2 => q3 | 3 => q4 | _ => q5) | 1 => u1 0 j | _ => u2 0 j) rfl hP hD hS dX4_init_69
theorem wk_34 : Cond.methodLink RX5 3 objectInit ∈ bb_TB := bb_tb (i := 129) (by decide +kernel) rfl
theorem wk_35 : Cond.fieldLink RX5 9 "BeachBars$WaveText" "signs" "[C" ∈ bb_TB := bb_tb (i := 132) (by decide +kernel) rfl
theorem wk_36 : Cond.classLink RX5 15 RX1 ∈ bb_TB := bb_tb (i := 130) (by decide +kernel) rfl
theorem wk_37 : Cond.methodLink RX5 17 yX1_init ∈ bb_TB := bb_tb (i := 131) (by decide +kernel) rfl
theorem wk_38 : Cond.fieldLink RX5 18 "BeachBars$WaveText" "found" "LBeachBars$Queue;" ∈ bb_TB := bb_tb (i := 134) (by decide +kernel) rfl
set_option maxHeartbeats 4000000 in
set_option maxRecDepth 100000 in
theorem k_5 (l : Launch) (D : va_G) (bs : Nat) (aI aC aS : ClassId) (b3 : Nat) : bk_Mt l D bs aI aC aS b3 yX5_init cX5_init 1 3 4 111 (.inr (5, [.null, .int 0, .null, .int 0, .int 0, .int 0, .int 0])) (bk_Tx aI aC) := by
  refine bk_of l (by decide +kernel) (by decide) rfl ?_
  intro p ev s m below meth c h0 ls hx hr hlocks hml hb0 hl hP
  have hAb := bk_A1 (e := .inr (5, [.null, .int 0, .null, .int 0, .int 0, .int 0, .int 0])) hb0 hx.2.2.2.2.1.2.1.2.2
  have hA : ∀ q, s.heap.size ≤ q → va_A [(h0, .inr (5, [.null, .int 0, .null, .int 0, .int 0, .int 0, .int 0]))] s.heap.size q := fun q h => Or.inr h
  have hD : va_D (va_A [(h0, .inr (5, [.null, .int 0, .null, .int 0, .int 0, .int 0, .int 0]))] s.heap.size) [(h0, .inr (5, [.null, .int 0, .null, .int 0, .int 0, .int 0, .int 0]))] := bk_D1
  have hS : va_S (va_A [(h0, .inr (5, [.null, .int 0, .null, .int 0, .int 0, .int 0, .int 0]))] s.heap.size) s.heap s.heap [] := va_S.rf
  have hK := hx.2.2.2.2.1.1
  refine lv_aload_n hx.1 hx.2.1 dX5_init_0 rfl (lv_at hl 0 rfl) ?_
  refine bk_obj hx wk_34 (hl.1.trans hml.symm) ⟨Nat.le_of_ble_eq_true rfl, Nat.le_of_ble_eq_true rfl⟩ dX5_init_1 ?_
  refine lv_aload_n hx.1 hx.2.1 dX5_init_4 rfl (lv_at hl 0 rfl) ?_
  refine lv_bipush (v := 60) hx.1 hx.2.1 dX5_init_5 (by decide) ?_
  refine bk_newc (N := 60) hx hP hD hS hA (by decide) (by decide) (by decide) (Nat.le_of_ble_eq_true rfl) (Nat.le_of_ble_eq_true rfl) dX5_init_7 (fun q1 H hP hD hS => ?_)
  refine W.widen (k := 1) (n := 60) (Nat.le_of_ble_eq_true rfl) (Nat.le_of_ble_eq_true rfl) ?_
  have hP : va_P D bb_cls ((h0, .inr (5, [.null, .int 0, .null, .int 0, .int 0, .int 0, .int 0])) :: ([] ++ [(q1, .inl (aC, 60, .inl (fun _ => 0)))])) H := hP
  have hD : va_D (va_A [(h0, .inr (5, [.null, .int 0, .null, .int 0, .int 0, .int 0, .int 0]))] s.heap.size) ((h0, .inr (5, [.null, .int 0, .null, .int 0, .int 0, .int 0, .int 0])) :: ([] ++ [(q1, .inl (aC, 60, .inl (fun _ => 0)))])) := hD
  refine va_putF (D := D) (ci := 5) (v := .ref q1) (ty := .array .char) (C := RX5) (T := TX5) (N := 7) (own := RX5) hx.1 hx.2.1 hx.2.2.2.1 wc_5 tyX5 tyX5_ok nmX5 hx.2.2.1 hK hP hD hS 0 rfl rfl 0 (by decide) (hx.2.2.2.1 _ wk_35) (fun _ h9 => h9) rfl hx.2.2.2.2.2 rfl (by decide +kernel) rfl rfl (Nat.le_of_ble_eq_true rfl) dX5_init_9 (fun H locs hP hD hS => ?_)
  have hP : va_P D bb_cls ((h0, .inr (5, [.ref q1, .int 0, .null, .int 0, .int 0, .int 0, .int 0])) :: ([] ++ [(q1, .inl (aC, 60, .inl (fun _ => 0)))])) H := hP
  have hD : va_D (va_A [(h0, .inr (5, [.null, .int 0, .null, .int 0, .int 0, .int 0, .int 0]))] s.heap.size) ((h0, .inr (5, [.ref q1, .int 0, .null, .int 0, .int 0, .int 0, .int 0])) :: ([] ++ [(q1, .inl (aC, 60, .inl (fun _ => 0)))])) := hD
  refine lv_aload_n hx.1 hx.2.1 dX5_init_12 rfl (lv_at hl 0 rfl) ?_
  refine va_new (ci := 1) (fs := [.null, .null, .int 0]) (C := RX1) (T := TX1) (N := 3) (own := RX5) hx.1 hx.2.1 hx.2.2.2.1 wc_1 tyX1 tyX1_ok hx.2.2.1 (hx.2.2.2.1 _ wk_36) (hx.2.2.2.1 _ wk_20) (hx.2.2.2.1 _ wk_21) hK hP hD hS hA rfl (fun j hj => by rcases (show j = 0 ∨ j = 1 ∨ j = 2 by omega) with rfl | rfl | rfl <;> rfl) (Nat.le_of_ble_eq_true rfl) (Nat.le_of_ble_eq_true rfl) dX5_init_13 (fun q2 H hP hD hS => ?_)
  refine W.widen (k := 2) (n := 63) (Nat.le_of_ble_eq_true rfl) (Nat.le_of_ble_eq_true rfl) ?_
  refine lv_dup hx.1 hx.2.1 dX5_init_16 rfl ?_
  refine bk_ini (own := RX5) (wr := ((h0, .inr (5, [.ref q1, .int 0, .null, .int 0, .int 0, .int 0, .int 0])) :: ([] ++ [(q1, .inl (aC, 60, .inl (fun _ => 0)))]))) hx hAb hA (k_1 l D bs aI aC aS b3) rfl (by decide +kernel) wk_23 wk_21 wk_37 wk_22 (by decide) ⟨Nat.le_of_ble_eq_true rfl, Nat.le_of_ble_eq_true rfl⟩ (Nat.le_of_ble_eq_true rfl) (Nat.le_of_ble_eq_true rfl) (hl.1.trans hml.symm) (Nat.le_of_ble_eq_true rfl) hP hD hS dX5_init_17 (fun u2 H locs hP hD hS => ?_)
  refine W.widen (k := 4) (n := 111) (Nat.le_of_ble_eq_true rfl) (Nat.le_of_ble_eq_true rfl) ?_
  have hP : va_P D bb_cls ((h0, .inr (5, [.ref q1, .int 0, .null, .int 0, .int 0, .int 0, .int 0])) :: (([] ++ [(q1, .inl (aC, 60, .inl (fun _ => 0)))]) ++ bk_Qu aI q2 u2)) H := hP
  have hD : va_D (va_A [(h0, .inr (5, [.null, .int 0, .null, .int 0, .int 0, .int 0, .int 0]))] s.heap.size) ((h0, .inr (5, [.ref q1, .int 0, .null, .int 0, .int 0, .int 0, .int 0])) :: (([] ++ [(q1, .inl (aC, 60, .inl (fun _ => 0)))]) ++ bk_Qu aI q2 u2)) := hD
  refine va_putF (D := D) (ci := 5) (v := .ref q2) (ty := .object "BeachBars$Queue") (C := RX5) (T := TX5) (N := 7) (own := RX5) hx.1 hx.2.1 hx.2.2.2.1 wc_5 tyX5 tyX5_ok nmX5 hx.2.2.1 hK hP hD hS 0 rfl rfl 2 (by decide) (hx.2.2.2.1 _ wk_38) (fun _ h9 => h9) rfl hx.2.2.2.2.2 rfl (by decide +kernel) rfl rfl (Nat.le_of_ble_eq_true rfl) dX5_init_20 (fun H locs hP hD hS => ?_)
  have hP : va_P D bb_cls ((h0, .inr (5, [.ref q1, .int 0, .ref q2, .int 0, .int 0, .int 0, .int 0])) :: (([] ++ [(q1, .inl (aC, 60, .inl (fun _ => 0)))]) ++ bk_Qu aI q2 u2)) H := hP
  have hD : va_D (va_A [(h0, .inr (5, [.null, .int 0, .null, .int 0, .int 0, .int 0, .int 0]))] s.heap.size) ((h0, .inr (5, [.ref q1, .int 0, .ref q2, .int 0, .int 0, .int 0, .int 0])) :: (([] ++ [(q1, .inl (aC, 60, .inl (fun _ => 0)))]) ++ bk_Qu aI q2 u2)) := hD
  exact bk_ret hx hr hlocks (fun i j => match i with | 0 => (match j with | 0 => q1 | _ => q2) | _ => u2 0 j) rfl hP hD hS dX5_init_23
theorem wk_39 : Cond.methodLink RX0 3 objectInit ∈ bb_TB := bb_tb (i := 110) (by decide +kernel) rfl
theorem wk_40 : Cond.classLink RX0 9 RX4 ∈ bb_TB := bb_tb (i := 111) (by decide +kernel) rfl
theorem wk_41 : Cond.fieldLink RX0 11 "BeachBars$History" "states" "[LBeachBars$State;" ∈ bb_TB := bb_tb (i := 114) (by decide +kernel) rfl
theorem wk_42 : Cond.instantiable RX4 7 ∈ bb_TB := bb_tb (i := 33) (by decide +kernel) rfl
theorem wk_43 : Cond.initialized RX4 ∈ bb_TB := bb_tb (i := 15) (by decide +kernel) rfl
theorem wk_44 : Cond.instanceMethod yX4_init ∈ bb_TB := bb_tb (i := 35) (by decide +kernel) rfl
theorem wk_45 : Cond.code yX4_init cX4_init 1 none ∈ bb_TB := bb_tb (i := 36) (by decide +kernel) rfl
theorem wk_46 : Cond.methodLink RX0 17 yX4_init ∈ bb_TB := bb_tb (i := 113) (by decide +kernel) rfl
theorem arrV_four {cA : ClassId} {f g : Nat → Value} (h0 : f 0 = g 0) (h1 : f 1 = g 1) (h2 : f 2 = g 2) (h3 : f 3 = g 3) : arrV cA 4 f = arrV cA 4 g := by
  unfold arrV
  congr 2
  funext j
  obtain ⟨j, hj⟩ := j
  rcases (show j = 0 ∨ j = 1 ∨ j = 2 ∨ j = 3 by omega) with rfl | rfl | rfl | rfl
  · exact h0
  · exact h1
  · exact h2
  · exact h3
set_option maxHeartbeats 4000000 in
set_option maxRecDepth 100000 in
theorem k_0 (l : Launch) (D : va_G) (bs : Nat) (aI aC aS : ClassId) (b3 : Nat) : bk_Mt l D bs aI aC aS b3 yX0_init cX0_init 2 4 41 1304 (.inr (0, [.null, .int 0, .int 0])) (bk_Hi aI aS) := by
  refine bk_of l (by decide +kernel) (by decide) rfl ?_
  intro p ev s m below meth c h0 ls hx hr hlocks hml hb0 hl hP
  have hAb := bk_A1 (e := .inr (0, [.null, .int 0, .int 0])) hb0 hx.2.2.2.2.1.2.1.2.2
  have hA : ∀ q, s.heap.size ≤ q → va_A [(h0, .inr (0, [.null, .int 0, .int 0]))] s.heap.size q := fun q h => Or.inr h
  have hD : va_D (va_A [(h0, .inr (0, [.null, .int 0, .int 0]))] s.heap.size) [(h0, .inr (0, [.null, .int 0, .int 0]))] := bk_D1
  have hS : va_S (va_A [(h0, .inr (0, [.null, .int 0, .int 0]))] s.heap.size) s.heap s.heap [] := va_S.rf
  have hK := hx.2.2.2.2.1.1
  refine lv_aload_n hx.1 hx.2.1 dX0_init_0 rfl (lv_at hl 0 rfl) ?_
  refine bk_obj hx wk_39 (hl.1.trans hml.symm) ⟨Nat.le_of_ble_eq_true rfl, Nat.le_of_ble_eq_true rfl⟩ dX0_init_1 ?_
  refine lv_aload_n hx.1 hx.2.1 dX0_init_4 rfl (lv_at hl 0 rfl) ?_
  refine lv_iconst (v := 4) hx.1 hx.2.1 dX0_init_5 (by decide) ?_
  refine bk_newS (N := 4) hx wk_40 hP hD hS hA (by decide) (by decide) (by decide) (Nat.le_of_ble_eq_true rfl) (Nat.le_of_ble_eq_true rfl) dX0_init_6 (fun q1 H hP hD hS => ?_)
  refine W.widen (k := 1) (n := 4) (Nat.le_of_ble_eq_true rfl) (Nat.le_of_ble_eq_true rfl) ?_
  have hP : va_P D bb_cls ((h0, .inr (0, [.null, .int 0, .int 0])) :: ([] ++ [(q1, .inl (aS, 4, .inr (.inr (.inr (.inr (fun _ => none))))))])) H := hP
  have hD : va_D (va_A [(h0, .inr (0, [.null, .int 0, .int 0]))] s.heap.size) ((h0, .inr (0, [.null, .int 0, .int 0])) :: ([] ++ [(q1, .inl (aS, 4, .inr (.inr (.inr (.inr (fun _ => none))))))])) := hD
  refine va_putF (D := D) (ci := 0) (v := .ref q1) (ty := .array (.object "BeachBars$State")) (C := RX0) (T := TX0) (N := 3) (own := RX0) hx.1 hx.2.1 hx.2.2.2.1 wc_0 tyX0 tyX0_ok nmX0 hx.2.2.1 hK hP hD hS 0 rfl rfl 0 (by decide) (hx.2.2.2.1 _ wk_41) (fun _ h9 => h9) rfl hx.2.2.2.2.2 rfl (by decide +kernel) rfl rfl (Nat.le_of_ble_eq_true rfl) dX0_init_9 (fun H locs hP hD hS => ?_)
  have hP : va_P D bb_cls ((h0, .inr (0, [.ref q1, .int 0, .int 0])) :: ([] ++ [(q1, .inl (aS, 4, .inr (.inr (.inr (.inr (fun _ => none))))))])) H := hP
  have hD : va_D (va_A [(h0, .inr (0, [.null, .int 0, .int 0]))] s.heap.size) ((h0, .inr (0, [.ref q1, .int 0, .int 0])) :: ([] ++ [(q1, .inl (aS, 4, .inr (.inr (.inr (.inr (fun _ => none))))))])) := hD
  refine lv_iconst (v := 0) hx.1 hx.2.1 dX0_init_12 (by decide) ?_
  refine lv_istore_n (lv' := [(1, .int 0), (0, .ref h0)]) hx.1 hx.2.1 dX0_init_13 rfl hl (by decide) rfl (fun ls hl => ?_)
  refine lv_iload_n hx.1 hx.2.1 dX0_init_14 rfl (lv_at hl 0 rfl) ?_
  refine lv_iconst (v := 4) hx.1 hx.2.1 dX0_init_15 (by decide) ?_
  refine lv_icmp_ge (tgt := 38) hx.1 hx.2.1 dX0_init_16 (by decide) (fun z => absurd z (by decide)) (fun _ => ?_)
  refine lv_aload_n hx.1 hx.2.1 dX0_init_19 rfl (lv_at hl 1 rfl) ?_
  refine va_get (D := D) (ci := 0) (v := .ref q1) (C := RX0) (T := TX0) (N := 3) (own := RX0) hx.1 hx.2.1 hx.2.2.2.1 wc_0 hx.2.2.1 hK hP 0 rfl rfl 0 (by decide) (hx.2.2.2.1 _ wk_41) (fun _ h9 => h9) rfl dX0_init_20 ?_
  refine lv_iload_n hx.1 hx.2.1 dX0_init_23 rfl (lv_at hl 0 rfl) ?_
  refine va_new (ci := 4) (fs := [.null, .null, .null, .null, .null, .int 0, .int 0]) (C := RX4) (T := TX4) (N := 7) (own := RX0) hx.1 hx.2.1 hx.2.2.2.1 wc_4 tyX4 tyX4_ok hx.2.2.1 (hx.2.2.2.1 _ wk_40) (hx.2.2.2.1 _ wk_42) (hx.2.2.2.1 _ wk_43) hK hP hD hS hA rfl (fun j hj => by rcases (show j = 0 ∨ j = 1 ∨ j = 2 ∨ j = 3 ∨ j = 4 ∨ j = 5 ∨ j = 6 by omega) with rfl | rfl | rfl | rfl | rfl | rfl | rfl <;> rfl) (Nat.le_of_ble_eq_true rfl) (Nat.le_of_ble_eq_true rfl) dX0_init_24 (fun q2 H hP hD hS => ?_)
  refine W.widen (k := 2) (n := 11) (Nat.le_of_ble_eq_true rfl) (Nat.le_of_ble_eq_true rfl) ?_
  refine lv_dup hx.1 hx.2.1 dX0_init_27 rfl ?_
  refine bk_ini (own := RX0) (wr := ((h0, .inr (0, [.ref q1, .int 0, .int 0])) :: ([] ++ [(q1, .inl (aS, 4, .inr (.inr (.inr (.inr (fun _ => none))))))]))) hx hAb hA (k_4 l D bs aI aC aS b3) rfl (by decide +kernel) wk_45 wk_43 wk_46 wk_44 (by decide) ⟨Nat.le_of_ble_eq_true rfl, Nat.le_of_ble_eq_true rfl⟩ (Nat.le_of_ble_eq_true rfl) (Nat.le_of_ble_eq_true rfl) (hl.1.trans hml.symm) (Nat.le_of_ble_eq_true rfl) hP hD hS dX0_init_28 (fun u2 H locs hP hD hS => ?_)
  refine W.widen (k := 11) (n := 329) (Nat.le_of_ble_eq_true rfl) (Nat.le_of_ble_eq_true rfl) ?_
  have hP : va_P D bb_cls ((h0, .inr (0, [.ref q1, .int 0, .int 0])) :: (([] ++ [(q1, .inl (aS, 4, .inr (.inr (.inr (.inr (fun _ => none))))))]) ++ bk_St aI q2 u2)) H := hP
  have hD : va_D (va_A [(h0, .inr (0, [.null, .int 0, .int 0]))] s.heap.size) ((h0, .inr (0, [.ref q1, .int 0, .int 0])) :: (([] ++ [(q1, .inl (aS, 4, .inr (.inr (.inr (.inr (fun _ => none))))))]) ++ bk_St aI q2 u2)) := hD
  refine va_astq hx.1 hx.2.1 hK hP hD hS 1 2 2 4 (r := (RX4, TX4, 7)) rfl rfl rfl rfl (vp_in_nI (n := 0) (N := 4) (by decide) (by decide)) dX0_init_31 (fun H locs hP hD hS => ?_)
  rw [show (0 : Int32).toNatClampNeg = 0 from by decide] at hP hD
  have hP : va_P D bb_cls ((h0, .inr (0, [.ref q1, .int 0, .int 0])) :: (([] ++ [(q1, .inl (aS, 4, .inr (.inr (.inr (.inr (va_up (fun _ => none) 0 (some q2)))))))]) ++ bk_St aI q2 u2)) H := hP
  have hD : va_D (va_A [(h0, .inr (0, [.null, .int 0, .int 0]))] s.heap.size) ((h0, .inr (0, [.ref q1, .int 0, .int 0])) :: (([] ++ [(q1, .inl (aS, 4, .inr (.inr (.inr (.inr (va_up (fun _ => none) 0 (some q2)))))))]) ++ bk_St aI q2 u2)) := hD
  refine lv_iinc (v := 1) (lv' := [(1, .int 1), (0, .ref h0)]) hx.1 hx.2.1 dX0_init_32 hl (k := 0) rfl (by decide) (by decide) rfl (fun ls hl => ?_)
  refine lv_goto (tgt := 14) hx.1 hx.2.1 dX0_init_35 (by decide) ?_
  refine lv_iload_n hx.1 hx.2.1 dX0_init_14 rfl (lv_at hl 0 rfl) ?_
  refine lv_iconst (v := 4) hx.1 hx.2.1 dX0_init_15 (by decide) ?_
  refine lv_icmp_ge (tgt := 38) hx.1 hx.2.1 dX0_init_16 (by decide) (fun z => absurd z (by decide)) (fun _ => ?_)
  refine lv_aload_n hx.1 hx.2.1 dX0_init_19 rfl (lv_at hl 1 rfl) ?_
  refine va_get (D := D) (ci := 0) (v := .ref q1) (C := RX0) (T := TX0) (N := 3) (own := RX0) hx.1 hx.2.1 hx.2.2.2.1 wc_0 hx.2.2.1 hK hP 0 rfl rfl 0 (by decide) (hx.2.2.2.1 _ wk_41) (fun _ h9 => h9) rfl dX0_init_20 ?_
  refine lv_iload_n hx.1 hx.2.1 dX0_init_23 rfl (lv_at hl 0 rfl) ?_
  refine va_new (ci := 4) (fs := [.null, .null, .null, .null, .null, .int 0, .int 0]) (C := RX4) (T := TX4) (N := 7) (own := RX0) hx.1 hx.2.1 hx.2.2.2.1 wc_4 tyX4 tyX4_ok hx.2.2.1 (hx.2.2.2.1 _ wk_40) (hx.2.2.2.1 _ wk_42) (hx.2.2.2.1 _ wk_43) hK hP hD hS hA rfl (fun j hj => by rcases (show j = 0 ∨ j = 1 ∨ j = 2 ∨ j = 3 ∨ j = 4 ∨ j = 5 ∨ j = 6 by omega) with rfl | rfl | rfl | rfl | rfl | rfl | rfl <;> rfl) (Nat.le_of_ble_eq_true rfl) (Nat.le_of_ble_eq_true rfl) dX0_init_24 (fun q3 H hP hD hS => ?_)
  refine W.widen (k := 12) (n := 336) (Nat.le_of_ble_eq_true rfl) (Nat.le_of_ble_eq_true rfl) ?_
  refine lv_dup hx.1 hx.2.1 dX0_init_27 rfl ?_
  refine bk_ini (own := RX0) (wr := ((h0, .inr (0, [.ref q1, .int 0, .int 0])) :: (([] ++ [(q1, .inl (aS, 4, .inr (.inr (.inr (.inr (va_up (fun _ => none) 0 (some q2)))))))]) ++ bk_St aI q2 u2))) hx hAb hA (k_4 l D bs aI aC aS b3) rfl (by decide +kernel) wk_45 wk_43 wk_46 wk_44 (by decide) ⟨Nat.le_of_ble_eq_true rfl, Nat.le_of_ble_eq_true rfl⟩ (Nat.le_of_ble_eq_true rfl) (Nat.le_of_ble_eq_true rfl) (hl.1.trans hml.symm) (Nat.le_of_ble_eq_true rfl) hP hD hS dX0_init_28 (fun u3 H locs hP hD hS => ?_)
  refine W.widen (k := 21) (n := 654) (Nat.le_of_ble_eq_true rfl) (Nat.le_of_ble_eq_true rfl) ?_
  have hP : va_P D bb_cls ((h0, .inr (0, [.ref q1, .int 0, .int 0])) :: ((([] ++ [(q1, .inl (aS, 4, .inr (.inr (.inr (.inr (va_up (fun _ => none) 0 (some q2)))))))]) ++ bk_St aI q2 u2) ++ bk_St aI q3 u3)) H := hP
  have hD : va_D (va_A [(h0, .inr (0, [.null, .int 0, .int 0]))] s.heap.size) ((h0, .inr (0, [.ref q1, .int 0, .int 0])) :: ((([] ++ [(q1, .inl (aS, 4, .inr (.inr (.inr (.inr (va_up (fun _ => none) 0 (some q2)))))))]) ++ bk_St aI q2 u2) ++ bk_St aI q3 u3)) := hD
  refine va_astq hx.1 hx.2.1 hK hP hD hS 1 2 12 4 (r := (RX4, TX4, 7)) rfl rfl rfl rfl (vp_in_nI (n := 1) (N := 4) (by decide) (by decide)) dX0_init_31 (fun H locs hP hD hS => ?_)
  rw [show (1 : Int32).toNatClampNeg = 1 from by decide] at hP hD
  have hP : va_P D bb_cls ((h0, .inr (0, [.ref q1, .int 0, .int 0])) :: ((([] ++ [(q1, .inl (aS, 4, .inr (.inr (.inr (.inr (va_up (va_up (fun _ => none) 0 (some q2)) 1 (some q3)))))))]) ++ bk_St aI q2 u2) ++ bk_St aI q3 u3)) H := hP
  have hD : va_D (va_A [(h0, .inr (0, [.null, .int 0, .int 0]))] s.heap.size) ((h0, .inr (0, [.ref q1, .int 0, .int 0])) :: ((([] ++ [(q1, .inl (aS, 4, .inr (.inr (.inr (.inr (va_up (va_up (fun _ => none) 0 (some q2)) 1 (some q3)))))))]) ++ bk_St aI q2 u2) ++ bk_St aI q3 u3)) := hD
  refine lv_iinc (v := 2) (lv' := [(1, .int 2), (0, .ref h0)]) hx.1 hx.2.1 dX0_init_32 hl (k := 0) rfl (by decide) (by decide) rfl (fun ls hl => ?_)
  refine lv_goto (tgt := 14) hx.1 hx.2.1 dX0_init_35 (by decide) ?_
  refine lv_iload_n hx.1 hx.2.1 dX0_init_14 rfl (lv_at hl 0 rfl) ?_
  refine lv_iconst (v := 4) hx.1 hx.2.1 dX0_init_15 (by decide) ?_
  refine lv_icmp_ge (tgt := 38) hx.1 hx.2.1 dX0_init_16 (by decide) (fun z => absurd z (by decide)) (fun _ => ?_)
  refine lv_aload_n hx.1 hx.2.1 dX0_init_19 rfl (lv_at hl 1 rfl) ?_
  refine va_get (D := D) (ci := 0) (v := .ref q1) (C := RX0) (T := TX0) (N := 3) (own := RX0) hx.1 hx.2.1 hx.2.2.2.1 wc_0 hx.2.2.1 hK hP 0 rfl rfl 0 (by decide) (hx.2.2.2.1 _ wk_41) (fun _ h9 => h9) rfl dX0_init_20 ?_
  refine lv_iload_n hx.1 hx.2.1 dX0_init_23 rfl (lv_at hl 0 rfl) ?_
  refine va_new (ci := 4) (fs := [.null, .null, .null, .null, .null, .int 0, .int 0]) (C := RX4) (T := TX4) (N := 7) (own := RX0) hx.1 hx.2.1 hx.2.2.2.1 wc_4 tyX4 tyX4_ok hx.2.2.1 (hx.2.2.2.1 _ wk_40) (hx.2.2.2.1 _ wk_42) (hx.2.2.2.1 _ wk_43) hK hP hD hS hA rfl (fun j hj => by rcases (show j = 0 ∨ j = 1 ∨ j = 2 ∨ j = 3 ∨ j = 4 ∨ j = 5 ∨ j = 6 by omega) with rfl | rfl | rfl | rfl | rfl | rfl | rfl <;> rfl) (Nat.le_of_ble_eq_true rfl) (Nat.le_of_ble_eq_true rfl) dX0_init_24 (fun q4 H hP hD hS => ?_)
  refine W.widen (k := 22) (n := 661) (Nat.le_of_ble_eq_true rfl) (Nat.le_of_ble_eq_true rfl) ?_
  refine lv_dup hx.1 hx.2.1 dX0_init_27 rfl ?_
  refine bk_ini (own := RX0) (wr := ((h0, .inr (0, [.ref q1, .int 0, .int 0])) :: ((([] ++ [(q1, .inl (aS, 4, .inr (.inr (.inr (.inr (va_up (va_up (fun _ => none) 0 (some q2)) 1 (some q3)))))))]) ++ bk_St aI q2 u2) ++ bk_St aI q3 u3))) hx hAb hA (k_4 l D bs aI aC aS b3) rfl (by decide +kernel) wk_45 wk_43 wk_46 wk_44 (by decide) ⟨Nat.le_of_ble_eq_true rfl, Nat.le_of_ble_eq_true rfl⟩ (Nat.le_of_ble_eq_true rfl) (Nat.le_of_ble_eq_true rfl) (hl.1.trans hml.symm) (Nat.le_of_ble_eq_true rfl) hP hD hS dX0_init_28 (fun u4 H locs hP hD hS => ?_)
  refine W.widen (k := 31) (n := 979) (Nat.le_of_ble_eq_true rfl) (Nat.le_of_ble_eq_true rfl) ?_
  have hP : va_P D bb_cls ((h0, .inr (0, [.ref q1, .int 0, .int 0])) :: (((([] ++ [(q1, .inl (aS, 4, .inr (.inr (.inr (.inr (va_up (va_up (fun _ => none) 0 (some q2)) 1 (some q3)))))))]) ++ bk_St aI q2 u2) ++ bk_St aI q3 u3) ++ bk_St aI q4 u4)) H := hP
  have hD : va_D (va_A [(h0, .inr (0, [.null, .int 0, .int 0]))] s.heap.size) ((h0, .inr (0, [.ref q1, .int 0, .int 0])) :: (((([] ++ [(q1, .inl (aS, 4, .inr (.inr (.inr (.inr (va_up (va_up (fun _ => none) 0 (some q2)) 1 (some q3)))))))]) ++ bk_St aI q2 u2) ++ bk_St aI q3 u3) ++ bk_St aI q4 u4)) := hD
  refine va_astq hx.1 hx.2.1 hK hP hD hS 1 2 22 4 (r := (RX4, TX4, 7)) rfl rfl rfl rfl (vp_in_nI (n := 2) (N := 4) (by decide) (by decide)) dX0_init_31 (fun H locs hP hD hS => ?_)
  rw [show (2 : Int32).toNatClampNeg = 2 from by decide] at hP hD
  have hP : va_P D bb_cls ((h0, .inr (0, [.ref q1, .int 0, .int 0])) :: (((([] ++ [(q1, .inl (aS, 4, .inr (.inr (.inr (.inr (va_up (va_up (va_up (fun _ => none) 0 (some q2)) 1 (some q3)) 2 (some q4)))))))]) ++ bk_St aI q2 u2) ++ bk_St aI q3 u3) ++ bk_St aI q4 u4)) H := hP
  have hD : va_D (va_A [(h0, .inr (0, [.null, .int 0, .int 0]))] s.heap.size) ((h0, .inr (0, [.ref q1, .int 0, .int 0])) :: (((([] ++ [(q1, .inl (aS, 4, .inr (.inr (.inr (.inr (va_up (va_up (va_up (fun _ => none) 0 (some q2)) 1 (some q3)) 2 (some q4)))))))]) ++ bk_St aI q2 u2) ++ bk_St aI q3 u3) ++ bk_St aI q4 u4)) := hD
  refine lv_iinc (v := 3) (lv' := [(1, .int 3), (0, .ref h0)]) hx.1 hx.2.1 dX0_init_32 hl (k := 0) rfl (by decide) (by decide) rfl (fun ls hl => ?_)
  refine lv_goto (tgt := 14) hx.1 hx.2.1 dX0_init_35 (by decide) ?_
  refine lv_iload_n hx.1 hx.2.1 dX0_init_14 rfl (lv_at hl 0 rfl) ?_
  refine lv_iconst (v := 4) hx.1 hx.2.1 dX0_init_15 (by decide) ?_
  refine lv_icmp_ge (tgt := 38) hx.1 hx.2.1 dX0_init_16 (by decide) (fun z => absurd z (by decide)) (fun _ => ?_)
  refine lv_aload_n hx.1 hx.2.1 dX0_init_19 rfl (lv_at hl 1 rfl) ?_
  refine va_get (D := D) (ci := 0) (v := .ref q1) (C := RX0) (T := TX0) (N := 3) (own := RX0) hx.1 hx.2.1 hx.2.2.2.1 wc_0 hx.2.2.1 hK hP 0 rfl rfl 0 (by decide) (hx.2.2.2.1 _ wk_41) (fun _ h9 => h9) rfl dX0_init_20 ?_
  refine lv_iload_n hx.1 hx.2.1 dX0_init_23 rfl (lv_at hl 0 rfl) ?_
  refine va_new (ci := 4) (fs := [.null, .null, .null, .null, .null, .int 0, .int 0]) (C := RX4) (T := TX4) (N := 7) (own := RX0) hx.1 hx.2.1 hx.2.2.2.1 wc_4 tyX4 tyX4_ok hx.2.2.1 (hx.2.2.2.1 _ wk_40) (hx.2.2.2.1 _ wk_42) (hx.2.2.2.1 _ wk_43) hK hP hD hS hA rfl (fun j hj => by rcases (show j = 0 ∨ j = 1 ∨ j = 2 ∨ j = 3 ∨ j = 4 ∨ j = 5 ∨ j = 6 by omega) with rfl | rfl | rfl | rfl | rfl | rfl | rfl <;> rfl) (Nat.le_of_ble_eq_true rfl) (Nat.le_of_ble_eq_true rfl) dX0_init_24 (fun q5 H hP hD hS => ?_)
  refine W.widen (k := 32) (n := 986) (Nat.le_of_ble_eq_true rfl) (Nat.le_of_ble_eq_true rfl) ?_
  refine lv_dup hx.1 hx.2.1 dX0_init_27 rfl ?_
  refine bk_ini (own := RX0) (wr := ((h0, .inr (0, [.ref q1, .int 0, .int 0])) :: (((([] ++ [(q1, .inl (aS, 4, .inr (.inr (.inr (.inr (va_up (va_up (va_up (fun _ => none) 0 (some q2)) 1 (some q3)) 2 (some q4)))))))]) ++ bk_St aI q2 u2) ++ bk_St aI q3 u3) ++ bk_St aI q4 u4))) hx hAb hA (k_4 l D bs aI aC aS b3) rfl (by decide +kernel) wk_45 wk_43 wk_46 wk_44 (by decide) ⟨Nat.le_of_ble_eq_true rfl, Nat.le_of_ble_eq_true rfl⟩ (Nat.le_of_ble_eq_true rfl) (Nat.le_of_ble_eq_true rfl) (hl.1.trans hml.symm) (Nat.le_of_ble_eq_true rfl) hP hD hS dX0_init_28 (fun u5 H locs hP hD hS => ?_)
  refine W.widen (k := 41) (n := 1304) (Nat.le_of_ble_eq_true rfl) (Nat.le_of_ble_eq_true rfl) ?_
  have hP : va_P D bb_cls ((h0, .inr (0, [.ref q1, .int 0, .int 0])) :: ((((([] ++ [(q1, .inl (aS, 4, .inr (.inr (.inr (.inr (va_up (va_up (va_up (fun _ => none) 0 (some q2)) 1 (some q3)) 2 (some q4)))))))]) ++ bk_St aI q2 u2) ++ bk_St aI q3 u3) ++ bk_St aI q4 u4) ++ bk_St aI q5 u5)) H := hP
  have hD : va_D (va_A [(h0, .inr (0, [.null, .int 0, .int 0]))] s.heap.size) ((h0, .inr (0, [.ref q1, .int 0, .int 0])) :: ((((([] ++ [(q1, .inl (aS, 4, .inr (.inr (.inr (.inr (va_up (va_up (va_up (fun _ => none) 0 (some q2)) 1 (some q3)) 2 (some q4)))))))]) ++ bk_St aI q2 u2) ++ bk_St aI q3 u3) ++ bk_St aI q4 u4) ++ bk_St aI q5 u5)) := hD
  refine va_astq hx.1 hx.2.1 hK hP hD hS 1 2 32 4 (r := (RX4, TX4, 7)) rfl rfl rfl rfl (vp_in_nI (n := 3) (N := 4) (by decide) (by decide)) dX0_init_31 (fun H locs hP hD hS => ?_)
  rw [show (3 : Int32).toNatClampNeg = 3 from by decide] at hP hD
  have hP : va_P D bb_cls ((h0, .inr (0, [.ref q1, .int 0, .int 0])) :: ((((([] ++ [(q1, .inl (aS, 4, .inr (.inr (.inr (.inr (va_up (va_up (va_up (va_up (fun _ => none) 0 (some q2)) 1 (some q3)) 2 (some q4)) 3 (some q5)))))))]) ++ bk_St aI q2 u2) ++ bk_St aI q3 u3) ++ bk_St aI q4 u4) ++ bk_St aI q5 u5)) H := hP
  have hD : va_D (va_A [(h0, .inr (0, [.null, .int 0, .int 0]))] s.heap.size) ((h0, .inr (0, [.ref q1, .int 0, .int 0])) :: ((((([] ++ [(q1, .inl (aS, 4, .inr (.inr (.inr (.inr (va_up (va_up (va_up (va_up (fun _ => none) 0 (some q2)) 1 (some q3)) 2 (some q4)) 3 (some q5)))))))]) ++ bk_St aI q2 u2) ++ bk_St aI q3 u3) ++ bk_St aI q4 u4) ++ bk_St aI q5 u5)) := hD
  refine lv_iinc (v := 4) (lv' := [(1, .int 4), (0, .ref h0)]) hx.1 hx.2.1 dX0_init_32 hl (k := 0) rfl (by decide) (by decide) rfl (fun ls hl => ?_)
  refine lv_goto (tgt := 14) hx.1 hx.2.1 dX0_init_35 (by decide) ?_
  refine lv_iload_n hx.1 hx.2.1 dX0_init_14 rfl (lv_at hl 0 rfl) ?_
  refine lv_iconst (v := 4) hx.1 hx.2.1 dX0_init_15 (by decide) ?_
  refine lv_icmp_ge (tgt := 38) hx.1 hx.2.1 dX0_init_16 (by decide) (fun _ => ?_) (fun z => absurd (by decide) z)
  have he : va_at D bb_cls (q1, .inl (aS, 4, .inr (.inr (.inr (.inr (fun j => some (match j + 1 with | 0 => q1 | 1 => q2 | 2 => q3 | 3 => q4 | _ => q5))))))) H := by
    have e0 : H[q1]? = some (vp_cell aS (4, .inr (.inr (.inr (.inr (va_up (va_up (va_up (va_up (fun _ => none) 0 (some q2)) 1 (some q3)) 2 (some q4)) 3 (some q5))))))) := hP 1 _ rfl
    show H[q1]? = some (vp_cell aS (4, .inr (.inr (.inr (.inr (fun j => some (match j + 1 with | 0 => q1 | 1 => q2 | 2 => q3 | 3 => q4 | _ => q5)))))))
    rw [e0, vp_cell_q, vp_cell_q]
    exact congrArg some (arrV_four rfl rfl rfl rfl)
  have hP0 := hP.set hD (p := 1) rfl he (fun _ _ => rfl)
  have hD0 := hD.set (p := 1) (e := .inl (aS, 4, .inr (.inr (.inr (.inr (fun j => some (match j + 1 with | 0 => q1 | 1 => q2 | 2 => q3 | 3 => q4 | _ => q5))))))) rfl
  have hP : va_P D bb_cls ((h0, .inr (0, [.ref q1, .int 0, .int 0])) :: ((((([] ++ [(q1, .inl (aS, 4, .inr (.inr (.inr (.inr (fun j => some (match j + 1 with | 0 => q1 | 1 => q2 | 2 => q3 | 3 => q4 | _ => q5)))))))]) ++ bk_St aI q2 u2) ++ bk_St aI q3 u3) ++ bk_St aI q4 u4) ++ bk_St aI q5 u5)) H := hP0
  have hD : va_D (va_A [(h0, .inr (0, [.null, .int 0, .int 0]))] s.heap.size) ((h0, .inr (0, [.ref q1, .int 0, .int 0])) :: ((((([] ++ [(q1, .inl (aS, 4, .inr (.inr (.inr (.inr (fun j => some (match j + 1 with | 0 => q1 | 1 => q2 | 2 => q3 | 3 => q4 | _ => q5)))))))]) ++ bk_St aI q2 u2) ++ bk_St aI q3 u3) ++ bk_St aI q4 u4) ++ bk_St aI q5 u5)) := hD0
  exact bk_ret hx hr hlocks (fun i j => match i with | 0 => (match j with | 0 => q1 | 1 => q2 | 2 => q3 | 3 => q4 | _ => q5) | 1 => u2 0 j | 2 => u2 1 j | 3 => u2 2 j | 4 => u3 0 j | 5 => u3 1 j | 6 => u3 2 j | 7 => u4 0 j | 8 => u4 1 j | 9 => u4 2 j | 10 => u5 0 j | 11 => u5 1 j | _ => u5 2 j) rfl hP hD hS dX0_init_38
