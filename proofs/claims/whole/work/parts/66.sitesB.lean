/-! SITES, by program (wip/whole/gen_sites.py) -/
set_option maxRecDepth 20000 in
theorem sn_X7_remember {p : Program} {l : Launch} {e : Env} {R : Room} {s : State} {m : MethodId} {args : Array Value} {below : List Frame} {meth : Method} {c : Code} {D : va_G} {bs : Nat} {ad : Nat → Nat → Nat} {aI aC aS : ClassId} {Rp : bb_P} {C : bb_C} (hx : bb_Cx p s m args c D bs ad aI aC aS cX7_remember RX7 (bb_ws 31)) (hcs : bb_CS l R D bs ad aI aC aS C) (hr : meth.sig.returnType = none) (hlk : meth.locks = false) (hRf : 1 ≤ R.frames) (hRl : 36 ≤ R.locals) : ∀ pc, bb_Snd p l e R s m args below meth c D bs ad aI aC aS Rp C pc (cd_X7_remember pc) := by
  unfold cd_X7_remember
  refine bb_lkS (fun pc => sd_fail) ?_
  refine bb_lc (sd_iconst hx dX7_remember_0 (by decide)) ?_
  refine bb_lc (sd_istore_n hx dX7_remember_1 rfl) ?_
  refine bb_lc (sd_iload_n hx dX7_remember_2 rfl) ?_
  refine bb_lc (sd_sipush hx dX7_remember_3 (by decide)) ?_
  refine bb_lc (sd_icge hx dX7_remember_6 (by decide)) ?_
  refine bb_lc (sd_aload_n hx dX7_remember_9 rfl) ?_
  refine bb_lc (sd_getR (k := 7) (sl := 1) hx dX7_remember_10 rfl (fun w h => List.mem_cons_of_mem _ (wc_7 w h)) (by decide) (by decide) (List.mem_cons_of_mem _ wd_490) (fun _ h9 => h9) rfl (fun i _ => (by decide))) ?_
  refine bb_lc (sd_iload_n hx dX7_remember_13 rfl) ?_
  refine bb_lc (sd_aload_n hx dX7_remember_14 rfl) ?_
  refine bb_lc (sd_getR (k := 7) (sl := 0) hx dX7_remember_15 rfl (fun w h => List.mem_cons_of_mem _ (wc_7 w h)) (by decide) (by decide) (List.mem_cons_of_mem _ wd_491) (fun _ h9 => h9) rfl (fun i _ => (by decide))) ?_
  refine bb_lc (sd_iload_n hx dX7_remember_18 rfl) ?_
  refine bb_lc (sd_iald hx dX7_remember_19) ?_
  refine bb_lc (sd_iast hx dX7_remember_20) ?_
  refine bb_lc (sd_iinc hx dX7_remember_21 (by decide)) ?_
  refine bb_lc (sd_goto hx dX7_remember_24 (by decide)) ?_
  refine bb_lc (sd_ret hx dX7_remember_27 hr hlk) ?_
  exact bb_ln
set_option maxRecDepth 20000 in
theorem sn_X7_acted {p : Program} {l : Launch} {e : Env} {R : Room} {s : State} {m : MethodId} {args : Array Value} {below : List Frame} {meth : Method} {c : Code} {D : va_G} {bs : Nat} {ad : Nat → Nat → Nat} {aI aC aS : ClassId} {Rp : bb_P} {C : bb_C} (hx : bb_Cx p s m args c D bs ad aI aC aS cX7_acted RX7 (bb_ws 32)) (hcs : bb_CS l R D bs ad aI aC aS C) (hr : meth.sig.returnType = some .int) (hlk : meth.locks = false) (hRf : 1 ≤ R.frames) (hRl : 36 ≤ R.locals) : ∀ pc, bb_Snd p l e R s m args below meth c D bs ad aI aC aS Rp C pc (cd_X7_acted pc) := by
  unfold cd_X7_acted
  refine bb_lkS (fun pc => sd_fail) ?_
  refine bb_lc (sd_aload_n hx dX7_acted_0 rfl) ?_
  refine bb_lc (sd_getI (k := 7) (sl := 3) hx dX7_acted_1 rfl (fun w h => List.mem_cons_of_mem _ (wc_7 w h)) (by decide) (by decide) (List.mem_cons_of_mem _ wd_492) (fun _ h9 => h9) rfl) ?_
  refine bb_lc (sd_iconst hx dX7_acted_4 (by decide)) ?_
  refine bb_lc (sd_icne hx dX7_acted_5 (by decide)) ?_
  refine bb_lc (sd_iconst hx dX7_acted_8 (by decide)) ?_
  refine bb_lc (sd_istore_n hx dX7_acted_9 rfl) ?_
  refine bb_lc (sd_iload_n hx dX7_acted_10 rfl) ?_
  refine bb_lc (sd_sipush hx dX7_acted_11 (by decide)) ?_
  refine bb_lc (sd_icge hx dX7_acted_14 (by decide)) ?_
  refine bb_lc (sd_aload_n hx dX7_acted_17 rfl) ?_
  refine bb_lc (sd_getR (k := 7) (sl := 2) hx dX7_acted_18 rfl (fun w h => List.mem_cons_of_mem _ (wc_7 w h)) (by decide) (by decide) (List.mem_cons_of_mem _ wd_493) (fun _ h9 => h9) rfl (fun i _ => (by decide))) ?_
  refine bb_lc (sd_iload_n hx dX7_acted_21 rfl) ?_
  refine bb_lc (sd_aload_n hx dX7_acted_22 rfl) ?_
  refine bb_lc (sd_getR (k := 7) (sl := 2) hx dX7_acted_23 rfl (fun w h => List.mem_cons_of_mem _ (wc_7 w h)) (by decide) (by decide) (List.mem_cons_of_mem _ wd_493) (fun _ h9 => h9) rfl (fun i _ => (by decide))) ?_
  refine bb_lc (sd_iload_n hx dX7_acted_26 rfl) ?_
  refine bb_lc (sd_sipush hx dX7_acted_27 (by decide)) ?_
  refine bb_lc (sd_iadd hx dX7_acted_30) ?_
  refine bb_lc (sd_iald hx dX7_acted_31) ?_
  refine bb_lc (sd_iast hx dX7_acted_32) ?_
  refine bb_lc (sd_iinc hx dX7_acted_33 (by decide)) ?_
  refine bb_lc (sd_goto hx dX7_acted_36 (by decide)) ?_
  refine bb_lc (sd_aload_n hx dX7_acted_39 rfl) ?_
  refine bb_lc (sd_dup hx dX7_acted_40) ?_
  refine bb_lc (sd_getI (k := 7) (sl := 3) hx dX7_acted_41 rfl (fun w h => List.mem_cons_of_mem _ (wc_7 w h)) (by decide) (by decide) (List.mem_cons_of_mem _ wd_492) (fun _ h9 => h9) rfl) ?_
  refine bb_lc (sd_iconst hx dX7_acted_44 (by decide)) ?_
  refine bb_lc (sd_isub hx dX7_acted_45) ?_
  refine bb_lc (sd_putI (k := 7) (sl := 3) hx dX7_acted_46 rfl (fun w h => List.mem_cons_of_mem _ (wc_7 w h)) (by decide) (by decide) (List.mem_cons_of_mem _ wd_492) (fun _ h9 => h9) rfl (ty0 := tyX7) tyX7_ok nmX7 rfl (by decide +kernel)) ?_
  refine bb_lc (sd_iconst hx dX7_acted_49 (by decide)) ?_
  refine bb_lc (sd_istore_n hx dX7_acted_50 rfl) ?_
  refine bb_lc (sd_iload_n hx dX7_acted_51 rfl) ?_
  refine bb_lc (sd_sipush hx dX7_acted_52 (by decide)) ?_
  refine bb_lc (sd_icge hx dX7_acted_55 (by decide)) ?_
  refine bb_lc (sd_aload_n hx dX7_acted_58 rfl) ?_
  refine bb_lc (sd_getR (k := 7) (sl := 2) hx dX7_acted_59 rfl (fun w h => List.mem_cons_of_mem _ (wc_7 w h)) (by decide) (by decide) (List.mem_cons_of_mem _ wd_493) (fun _ h9 => h9) rfl (fun i _ => (by decide))) ?_
  refine bb_lc (sd_sipush hx dX7_acted_62 (by decide)) ?_
  refine bb_lc (sd_aload_n hx dX7_acted_65 rfl) ?_
  refine bb_lc (sd_getI (k := 7) (sl := 3) hx dX7_acted_66 rfl (fun w h => List.mem_cons_of_mem _ (wc_7 w h)) (by decide) (by decide) (List.mem_cons_of_mem _ wd_492) (fun _ h9 => h9) rfl) ?_
  refine bb_lc (sd_imul hx dX7_acted_69) ?_
  refine bb_lc (sd_iload_n hx dX7_acted_70 rfl) ?_
  refine bb_lc (sd_iadd hx dX7_acted_71) ?_
  refine bb_lc (sd_aload_n hx dX7_acted_72 rfl) ?_
  refine bb_lc (sd_getR (k := 7) (sl := 1) hx dX7_acted_73 rfl (fun w h => List.mem_cons_of_mem _ (wc_7 w h)) (by decide) (by decide) (List.mem_cons_of_mem _ wd_490) (fun _ h9 => h9) rfl (fun i _ => (by decide))) ?_
  refine bb_lc (sd_iload_n hx dX7_acted_76 rfl) ?_
  refine bb_lc (sd_iald hx dX7_acted_77) ?_
  refine bb_lc (sd_iast hx dX7_acted_78) ?_
  refine bb_lc (sd_iinc hx dX7_acted_79 (by decide)) ?_
  refine bb_lc (sd_goto hx dX7_acted_82 (by decide)) ?_
  refine bb_lc (sd_aload_n hx dX7_acted_85 rfl) ?_
  refine bb_lc (sd_dup hx dX7_acted_86) ?_
  refine bb_lc (sd_getI (k := 7) (sl := 3) hx dX7_acted_87 rfl (fun w h => List.mem_cons_of_mem _ (wc_7 w h)) (by decide) (by decide) (List.mem_cons_of_mem _ wd_492) (fun _ h9 => h9) rfl) ?_
  refine bb_lc (sd_iconst hx dX7_acted_90 (by decide)) ?_
  refine bb_lc (sd_iadd hx dX7_acted_91) ?_
  refine bb_lc (sd_putI (k := 7) (sl := 3) hx dX7_acted_92 rfl (fun w h => List.mem_cons_of_mem _ (wc_7 w h)) (by decide) (by decide) (List.mem_cons_of_mem _ wd_492) (fun _ h9 => h9) rfl (ty0 := tyX7) tyX7_ok nmX7 rfl (by decide +kernel)) ?_
  refine bb_lc (sd_iload_n hx dX7_acted_95 rfl) ?_
  refine bb_lc (sd_iret hx dX7_acted_96 hr hlk) ?_
  exact bb_ln
set_option maxRecDepth 20000 in
theorem sn_X7_isRow {p : Program} {l : Launch} {e : Env} {R : Room} {s : State} {m : MethodId} {args : Array Value} {below : List Frame} {meth : Method} {c : Code} {D : va_G} {bs : Nat} {ad : Nat → Nat → Nat} {aI aC aS : ClassId} {Rp : bb_P} {C : bb_C} (hx : bb_Cx p s m args c D bs ad aI aC aS cX7_isRow RX7 (bb_ws 33)) (hcs : bb_CS l R D bs ad aI aC aS C) (hr : meth.sig.returnType = some .boolean) (hlk : meth.locks = false) (hRf : 1 ≤ R.frames) (hRl : 36 ≤ R.locals) : ∀ pc, bb_Snd p l e R s m args below meth c D bs ad aI aC aS Rp C pc (cd_X7_isRow pc) := by
  unfold cd_X7_isRow
  refine bb_lkS (fun pc => sd_fail) ?_
  refine bb_lc (sd_iload_n hx dX7_isRow_0 rfl) ?_
  refine bb_lc (sd_i2l hx dX7_isRow_1) ?_
  refine bb_lc (sd_lconst hx dX7_isRow_2 (by decide)) ?_
  refine bb_lc (sd_ldc2 hx dX7_isRow_3 (List.mem_cons_of_mem _ wd_494)) ?_
  refine bb_lc (sd_callJ hx hcs (fun w h => List.mem_cons_of_mem _ h) dX7_isRow_6 wd_495 mS_0) ?_
  refine bb_lc (sd_zret hx dX7_isRow_9 hr hlk) ?_
  exact bb_ln
set_option maxRecDepth 20000 in
theorem sn_X7_isCell {p : Program} {l : Launch} {e : Env} {R : Room} {s : State} {m : MethodId} {args : Array Value} {below : List Frame} {meth : Method} {c : Code} {D : va_G} {bs : Nat} {ad : Nat → Nat → Nat} {aI aC aS : ClassId} {Rp : bb_P} {C : bb_C} (hx : bb_Cx p s m args c D bs ad aI aC aS cX7_isCell RX7 (bb_ws 34)) (hcs : bb_CS l R D bs ad aI aC aS C) (hr : meth.sig.returnType = some .boolean) (hlk : meth.locks = false) (hRf : 1 ≤ R.frames) (hRl : 36 ≤ R.locals) : ∀ pc, bb_Snd p l e R s m args below meth c D bs ad aI aC aS Rp C pc (cd_X7_isCell pc) := by
  unfold cd_X7_isCell
  refine bb_lkS (fun pc => sd_fail) ?_
  refine bb_lc (sd_iload_n hx dX7_isCell_0 rfl) ?_
  refine bb_lc (sd_i2l hx dX7_isCell_1) ?_
  refine bb_lc (sd_lconst hx dX7_isCell_2 (by decide)) ?_
  refine bb_lc (sd_ldc2 hx dX7_isCell_3 (List.mem_cons_of_mem _ wd_496)) ?_
  refine bb_lc (sd_callJ hx hcs (fun w h => List.mem_cons_of_mem _ h) dX7_isCell_6 wd_495 mS_0) ?_
  refine bb_lc (sd_zret hx dX7_isCell_9 hr hlk) ?_
  exact bb_ln
set_option maxRecDepth 20000 in
theorem sn_X7_heightOf {p : Program} {l : Launch} {e : Env} {R : Room} {s : State} {m : MethodId} {args : Array Value} {below : List Frame} {meth : Method} {c : Code} {D : va_G} {bs : Nat} {ad : Nat → Nat → Nat} {aI aC aS : ClassId} {Rp : bb_P} {C : bb_C} (hx : bb_Cx p s m args c D bs ad aI aC aS cX7_heightOf RX7 (bb_ws 35)) (hcs : bb_CS l R D bs ad aI aC aS C) (hr : meth.sig.returnType = some .int) (hlk : meth.locks = false) (hRf : 1 ≤ R.frames) (hRl : 36 ≤ R.locals) : ∀ pc, bb_Snd p l e R s m args below meth c D bs ad aI aC aS Rp C pc (cd_X7_heightOf pc) := by
  unfold cd_X7_heightOf
  refine bb_lkS (fun pc => sd_fail) ?_
  refine bb_lc (sd_aload_n hx dX7_heightOf_0 rfl) ?_
  refine bb_lc (sd_getR (k := 7) (sl := 0) hx dX7_heightOf_1 rfl (fun w h => List.mem_cons_of_mem _ (wc_7 w h)) (by decide) (by decide) (List.mem_cons_of_mem _ wd_491) (fun _ h9 => h9) rfl (fun i _ => (by decide))) ?_
  refine bb_lc (sd_bipush hx dX7_heightOf_4 (by decide)) ?_
  refine bb_lc (sd_iload_n hx dX7_heightOf_6 rfl) ?_
  refine bb_lc (sd_imul hx dX7_heightOf_7) ?_
  refine bb_lc (sd_iload_n hx dX7_heightOf_8 rfl) ?_
  refine bb_lc (sd_iadd hx dX7_heightOf_9) ?_
  refine bb_lc (sd_iald hx dX7_heightOf_10) ?_
  refine bb_lc (sd_iret hx dX7_heightOf_11 hr hlk) ?_
  exact bb_ln
set_option maxRecDepth 20000 in
theorem sn_X7_depth {p : Program} {l : Launch} {e : Env} {R : Room} {s : State} {m : MethodId} {args : Array Value} {below : List Frame} {meth : Method} {c : Code} {D : va_G} {bs : Nat} {ad : Nat → Nat → Nat} {aI aC aS : ClassId} {Rp : bb_P} {C : bb_C} (hx : bb_Cx p s m args c D bs ad aI aC aS cX7_depth RX7 (bb_ws 36)) (hcs : bb_CS l R D bs ad aI aC aS C) (hr : meth.sig.returnType = some .int) (hlk : meth.locks = false) (hRf : 1 ≤ R.frames) (hRl : 36 ≤ R.locals) : ∀ pc, bb_Snd p l e R s m args below meth c D bs ad aI aC aS Rp C pc (cd_X7_depth pc) := by
  unfold cd_X7_depth
  refine bb_lkS (fun pc => sd_fail) ?_
  refine bb_lc (sd_aload_n hx dX7_depth_0 rfl) ?_
  refine bb_lc (sd_getR (k := 7) (sl := 0) hx dX7_depth_1 rfl (fun w h => List.mem_cons_of_mem _ (wc_7 w h)) (by decide) (by decide) (List.mem_cons_of_mem _ wd_491) (fun _ h9 => h9) rfl (fun i _ => (by decide))) ?_
  refine bb_lc (sd_bipush hx dX7_depth_4 (by decide)) ?_
  refine bb_lc (sd_iald hx dX7_depth_6) ?_
  refine bb_lc (sd_aload_n hx dX7_depth_7 rfl) ?_
  refine bb_lc (sd_getI (k := 7) (sl := 6) hx dX7_depth_8 rfl (fun w h => List.mem_cons_of_mem _ (wc_7 w h)) (by decide) (by decide) (List.mem_cons_of_mem _ wd_497) (fun _ h9 => h9) rfl) ?_
  refine bb_lc (sd_iadd hx dX7_depth_11) ?_
  refine bb_lc (sd_aload_n hx dX7_depth_12 rfl) ?_
  refine bb_lc (sd_iload_n hx dX7_depth_13 rfl) ?_
  refine bb_lc (sd_iload_n hx dX7_depth_14 rfl) ?_
  refine bb_lc (sd_callv hx hcs (fun w h => List.mem_cons_of_mem _ h) dX7_depth_15 wd_498 mV_35) ?_
  refine bb_lc (sd_isub hx dX7_depth_18) ?_
  refine bb_lc (sd_iret hx dX7_depth_19 hr hlk) ?_
  exact bb_ln
set_option maxRecDepth 20000 in
theorem sn_X7_isDry {p : Program} {l : Launch} {e : Env} {R : Room} {s : State} {m : MethodId} {args : Array Value} {below : List Frame} {meth : Method} {c : Code} {D : va_G} {bs : Nat} {ad : Nat → Nat → Nat} {aI aC aS : ClassId} {Rp : bb_P} {C : bb_C} (hx : bb_Cx p s m args c D bs ad aI aC aS cX7_isDry RX7 (bb_ws 37)) (hcs : bb_CS l R D bs ad aI aC aS C) (hr : meth.sig.returnType = some .boolean) (hlk : meth.locks = false) (hRf : 1 ≤ R.frames) (hRl : 36 ≤ R.locals) : ∀ pc, bb_Snd p l e R s m args below meth c D bs ad aI aC aS Rp C pc (cd_X7_isDry pc) := by
  unfold cd_X7_isDry
  refine bb_lkS (fun pc => sd_fail) ?_
  refine bb_lc (sd_aload_n hx dX7_isDry_0 rfl) ?_
  refine bb_lc (sd_iload_n hx dX7_isDry_1 rfl) ?_
  refine bb_lc (sd_iload_n hx dX7_isDry_2 rfl) ?_
  refine bb_lc (sd_callv hx hcs (fun w h => List.mem_cons_of_mem _ h) dX7_isDry_3 wd_499 mV_36) ?_
  refine bb_lc (sd_ifgt hx dX7_isDry_6 (by decide)) ?_
  refine bb_lc (sd_iconst hx dX7_isDry_9 (by decide)) ?_
  refine bb_lc (sd_goto hx dX7_isDry_10 (by decide)) ?_
  refine bb_lc (sd_iconst hx dX7_isDry_13 (by decide)) ?_
  refine bb_lc (sd_zret hx dX7_isDry_14 hr hlk) ?_
  exact bb_ln
set_option maxRecDepth 20000 in
theorem sn_X7_isBar {p : Program} {l : Launch} {e : Env} {R : Room} {s : State} {m : MethodId} {args : Array Value} {below : List Frame} {meth : Method} {c : Code} {D : va_G} {bs : Nat} {ad : Nat → Nat → Nat} {aI aC aS : ClassId} {Rp : bb_P} {C : bb_C} (hx : bb_Cx p s m args c D bs ad aI aC aS cX7_isBar RX7 (bb_ws 38)) (hcs : bb_CS l R D bs ad aI aC aS C) (hr : meth.sig.returnType = some .boolean) (hlk : meth.locks = false) (hRf : 1 ≤ R.frames) (hRl : 36 ≤ R.locals) : ∀ pc, bb_Snd p l e R s m args below meth c D bs ad aI aC aS Rp C pc (cd_X7_isBar pc) := by
  unfold cd_X7_isBar
  refine bb_lkS (fun pc => sd_fail) ?_
  refine bb_lc (sd_iload_n hx dX7_isBar_0 rfl) ?_
  refine bb_lc (sd_i2l hx dX7_isBar_1) ?_
  refine bb_lc (sd_lconst hx dX7_isBar_2 (by decide)) ?_
  refine bb_lc (sd_ldc2 hx dX7_isBar_3 (List.mem_cons_of_mem _ wd_500)) ?_
  refine bb_lc (sd_callJ hx hcs (fun w h => List.mem_cons_of_mem _ h) dX7_isBar_6 wd_495 mS_0) ?_
  refine bb_lc (sd_ifeq hx dX7_isBar_9 (by decide)) ?_
  refine bb_lc (sd_aload_n hx dX7_isBar_12 rfl) ?_
  refine bb_lc (sd_iload_n hx dX7_isBar_13 rfl) ?_
  refine bb_lc (sd_iload_n hx dX7_isBar_14 rfl) ?_
  refine bb_lc (sd_callv hx hcs (fun w h => List.mem_cons_of_mem _ h) dX7_isBar_15 wd_501 mV_37) ?_
  refine bb_lc (sd_ifne hx dX7_isBar_18 (by decide)) ?_
  refine bb_lc (sd_aload_n hx dX7_isBar_21 rfl) ?_
  refine bb_lc (sd_iload_n hx dX7_isBar_22 rfl) ?_
  refine bb_lc (sd_iload_n hx dX7_isBar_23 rfl) ?_
  refine bb_lc (sd_callv hx hcs (fun w h => List.mem_cons_of_mem _ h) dX7_isBar_24 wd_498 mV_35) ?_
  refine bb_lc (sd_aload_n hx dX7_isBar_27 rfl) ?_
  refine bb_lc (sd_iload_n hx dX7_isBar_28 rfl) ?_
  refine bb_lc (sd_iload_n hx dX7_isBar_29 rfl) ?_
  refine bb_lc (sd_iconst hx dX7_isBar_30 (by decide)) ?_
  refine bb_lc (sd_isub hx dX7_isBar_31) ?_
  refine bb_lc (sd_callv hx hcs (fun w h => List.mem_cons_of_mem _ h) dX7_isBar_32 wd_498 mV_35) ?_
  refine bb_lc (sd_icle hx dX7_isBar_35 (by decide)) ?_
  refine bb_lc (sd_aload_n hx dX7_isBar_38 rfl) ?_
  refine bb_lc (sd_iload_n hx dX7_isBar_39 rfl) ?_
  refine bb_lc (sd_iload_n hx dX7_isBar_40 rfl) ?_
  refine bb_lc (sd_callv hx hcs (fun w h => List.mem_cons_of_mem _ h) dX7_isBar_41 wd_498 mV_35) ?_
  refine bb_lc (sd_aload_n hx dX7_isBar_44 rfl) ?_
  refine bb_lc (sd_iload_n hx dX7_isBar_45 rfl) ?_
  refine bb_lc (sd_iload_n hx dX7_isBar_46 rfl) ?_
  refine bb_lc (sd_iconst hx dX7_isBar_47 (by decide)) ?_
  refine bb_lc (sd_iadd hx dX7_isBar_48) ?_
  refine bb_lc (sd_callv hx hcs (fun w h => List.mem_cons_of_mem _ h) dX7_isBar_49 wd_498 mV_35) ?_
  refine bb_lc (sd_icle hx dX7_isBar_52 (by decide)) ?_
  refine bb_lc (sd_iconst hx dX7_isBar_55 (by decide)) ?_
  refine bb_lc (sd_goto hx dX7_isBar_56 (by decide)) ?_
  refine bb_lc (sd_iconst hx dX7_isBar_59 (by decide)) ?_
  refine bb_lc (sd_zret hx dX7_isBar_60 hr hlk) ?_
  exact bb_ln
set_option maxRecDepth 20000 in
theorem sn_X7_isBarAbove {p : Program} {l : Launch} {e : Env} {R : Room} {s : State} {m : MethodId} {args : Array Value} {below : List Frame} {meth : Method} {c : Code} {D : va_G} {bs : Nat} {ad : Nat → Nat → Nat} {aI aC aS : ClassId} {Rp : bb_P} {C : bb_C} (hx : bb_Cx p s m args c D bs ad aI aC aS cX7_isBarAbove RX7 (bb_ws 39)) (hcs : bb_CS l R D bs ad aI aC aS C) (hr : meth.sig.returnType = some .boolean) (hlk : meth.locks = false) (hRf : 1 ≤ R.frames) (hRl : 36 ≤ R.locals) : ∀ pc, bb_Snd p l e R s m args below meth c D bs ad aI aC aS Rp C pc (cd_X7_isBarAbove pc) := by
  unfold cd_X7_isBarAbove
  refine bb_lkS (fun pc => sd_fail) ?_
  refine bb_lc (sd_iload_n hx dX7_isBarAbove_0 rfl) ?_
  refine bb_lc (sd_call hx hcs (fun w h => List.mem_cons_of_mem _ h) dX7_isBarAbove_1 wd_502 mS_33) ?_
  refine bb_lc (sd_ifeq hx dX7_isBarAbove_4 (by decide)) ?_
  refine bb_lc (sd_aload_n hx dX7_isBarAbove_7 rfl) ?_
  refine bb_lc (sd_iload_n hx dX7_isBarAbove_8 rfl) ?_
  refine bb_lc (sd_iload_n hx dX7_isBarAbove_9 rfl) ?_
  refine bb_lc (sd_callv hx hcs (fun w h => List.mem_cons_of_mem _ h) dX7_isBarAbove_10 wd_503 mV_38) ?_
  refine bb_lc (sd_ifeq hx dX7_isBarAbove_13 (by decide)) ?_
  refine bb_lc (sd_aload_n hx dX7_isBarAbove_16 rfl) ?_
  refine bb_lc (sd_iload_n hx dX7_isBarAbove_17 rfl) ?_
  refine bb_lc (sd_iload_n hx dX7_isBarAbove_18 rfl) ?_
  refine bb_lc (sd_callv hx hcs (fun w h => List.mem_cons_of_mem _ h) dX7_isBarAbove_19 wd_498 mV_35) ?_
  refine bb_lc (sd_iload_n hx dX7_isBarAbove_22 rfl) ?_
  refine bb_lc (sd_isub hx dX7_isBarAbove_23) ?_
  refine bb_lc (sd_aload_n hx dX7_isBarAbove_24 rfl) ?_
  refine bb_lc (sd_getR (k := 7) (sl := 0) hx dX7_isBarAbove_25 rfl (fun w h => List.mem_cons_of_mem _ (wc_7 w h)) (by decide) (by decide) (List.mem_cons_of_mem _ wd_491) (fun _ h9 => h9) rfl (fun i _ => (by decide))) ?_
  refine bb_lc (sd_bipush hx dX7_isBarAbove_28 (by decide)) ?_
  refine bb_lc (sd_iald hx dX7_isBarAbove_30) ?_
  refine bb_lc (sd_iclt hx dX7_isBarAbove_31 (by decide)) ?_
  refine bb_lc (sd_iconst hx dX7_isBarAbove_34 (by decide)) ?_
  refine bb_lc (sd_goto hx dX7_isBarAbove_35 (by decide)) ?_
  refine bb_lc (sd_iconst hx dX7_isBarAbove_38 (by decide)) ?_
  refine bb_lc (sd_zret hx dX7_isBarAbove_39 hr hlk) ?_
  exact bb_ln
set_option maxRecDepth 20000 in
theorem sn_X7_isGap {p : Program} {l : Launch} {e : Env} {R : Room} {s : State} {m : MethodId} {args : Array Value} {below : List Frame} {meth : Method} {c : Code} {D : va_G} {bs : Nat} {ad : Nat → Nat → Nat} {aI aC aS : ClassId} {Rp : bb_P} {C : bb_C} (hx : bb_Cx p s m args c D bs ad aI aC aS cX7_isGap RX7 (bb_ws 40)) (hcs : bb_CS l R D bs ad aI aC aS C) (hr : meth.sig.returnType = some .boolean) (hlk : meth.locks = false) (hRf : 1 ≤ R.frames) (hRl : 36 ≤ R.locals) : ∀ pc, bb_Snd p l e R s m args below meth c D bs ad aI aC aS Rp C pc (cd_X7_isGap pc) := by
  unfold cd_X7_isGap
  refine bb_lkS (fun pc => sd_fail) ?_
  refine bb_lc (sd_iload_n hx dX7_isGap_0 rfl) ?_
  refine bb_lc (sd_i2l hx dX7_isGap_1) ?_
  refine bb_lc (sd_lconst hx dX7_isGap_2 (by decide)) ?_
  refine bb_lc (sd_ldc2 hx dX7_isGap_3 (List.mem_cons_of_mem _ wd_500)) ?_
  refine bb_lc (sd_callJ hx hcs (fun w h => List.mem_cons_of_mem _ h) dX7_isGap_6 wd_495 mS_0) ?_
  refine bb_lc (sd_ifeq hx dX7_isGap_9 (by decide)) ?_
  refine bb_lc (sd_aload_n hx dX7_isGap_12 rfl) ?_
  refine bb_lc (sd_iload_n hx dX7_isGap_13 rfl) ?_
  refine bb_lc (sd_iload_n hx dX7_isGap_14 rfl) ?_
  refine bb_lc (sd_callv hx hcs (fun w h => List.mem_cons_of_mem _ h) dX7_isGap_15 wd_501 mV_37) ?_
  refine bb_lc (sd_ifne hx dX7_isGap_18 (by decide)) ?_
  refine bb_lc (sd_aload_n hx dX7_isGap_21 rfl) ?_
  refine bb_lc (sd_iload_n hx dX7_isGap_22 rfl) ?_
  refine bb_lc (sd_iload_n hx dX7_isGap_23 rfl) ?_
  refine bb_lc (sd_callv hx hcs (fun w h => List.mem_cons_of_mem _ h) dX7_isGap_24 wd_503 mV_38) ?_
  refine bb_lc (sd_ifeq hx dX7_isGap_27 (by decide)) ?_
  refine bb_lc (sd_iconst hx dX7_isGap_30 (by decide)) ?_
  refine bb_lc (sd_zret hx dX7_isGap_31 hr hlk) ?_
  refine bb_lc (sd_aload_n hx dX7_isGap_32 rfl) ?_
  refine bb_lc (sd_iload_n hx dX7_isGap_33 rfl) ?_
  refine bb_lc (sd_iload_n hx dX7_isGap_34 rfl) ?_
  refine bb_lc (sd_callv hx hcs (fun w h => List.mem_cons_of_mem _ h) dX7_isGap_35 wd_498 mV_35) ?_
  refine bb_lc (sd_istore_n hx dX7_isGap_38 rfl) ?_
  refine bb_lc (sd_aload_n hx dX7_isGap_39 rfl) ?_
  refine bb_lc (sd_iload_n hx dX7_isGap_40 rfl) ?_
  refine bb_lc (sd_iconst hx dX7_isGap_41 (by decide)) ?_
  refine bb_lc (sd_isub hx dX7_isGap_42) ?_
  refine bb_lc (sd_iload_n hx dX7_isGap_43 rfl) ?_
  refine bb_lc (sd_iload_n hx dX7_isGap_44 rfl) ?_
  refine bb_lc (sd_callv hx hcs (fun w h => List.mem_cons_of_mem _ h) dX7_isGap_45 wd_504 mV_39) ?_
  refine bb_lc (sd_ifne hx dX7_isGap_48 (by decide)) ?_
  refine bb_lc (sd_aload_n hx dX7_isGap_51 rfl) ?_
  refine bb_lc (sd_iload_n hx dX7_isGap_52 rfl) ?_
  refine bb_lc (sd_iconst hx dX7_isGap_53 (by decide)) ?_
  refine bb_lc (sd_iadd hx dX7_isGap_54) ?_
  refine bb_lc (sd_iload_n hx dX7_isGap_55 rfl) ?_
  refine bb_lc (sd_iload_n hx dX7_isGap_56 rfl) ?_
  refine bb_lc (sd_callv hx hcs (fun w h => List.mem_cons_of_mem _ h) dX7_isGap_57 wd_504 mV_39) ?_
  refine bb_lc (sd_ifeq hx dX7_isGap_60 (by decide)) ?_
  refine bb_lc (sd_iconst hx dX7_isGap_63 (by decide)) ?_
  refine bb_lc (sd_goto hx dX7_isGap_64 (by decide)) ?_
  refine bb_lc (sd_iconst hx dX7_isGap_67 (by decide)) ?_
  refine bb_lc (sd_zret hx dX7_isGap_68 hr hlk) ?_
  exact bb_ln
set_option maxRecDepth 20000 in
theorem sn_X7_moves {p : Program} {l : Launch} {e : Env} {R : Room} {s : State} {m : MethodId} {args : Array Value} {below : List Frame} {meth : Method} {c : Code} {D : va_G} {bs : Nat} {ad : Nat → Nat → Nat} {aI aC aS : ClassId} {Rp : bb_P} {C : bb_C} (hx : bb_Cx p s m args c D bs ad aI aC aS cX7_moves RX7 (bb_ws 41)) (hcs : bb_CS l R D bs ad aI aC aS C) (hr : meth.sig.returnType = some .int) (hlk : meth.locks = false) (hRf : 1 ≤ R.frames) (hRl : 36 ≤ R.locals) : ∀ pc, bb_Snd p l e R s m args below meth c D bs ad aI aC aS Rp C pc (cd_X7_moves pc) := by
  unfold cd_X7_moves
  refine bb_lkS (fun pc => sd_fail) ?_
  refine bb_lc (sd_iload hx dX7_moves_0) ?_
  refine bb_lc (sd_aload_n hx dX7_moves_2 rfl) ?_
  refine bb_lc (sd_iload_n hx dX7_moves_3 rfl) ?_
  refine bb_lc (sd_iload_n hx dX7_moves_4 rfl) ?_
  refine bb_lc (sd_callv hx hcs (fun w h => List.mem_cons_of_mem _ h) dX7_moves_5 wd_498 mV_35) ?_
  refine bb_lc (sd_icge hx dX7_moves_8 (by decide)) ?_
  refine bb_lc (sd_iload hx dX7_moves_11) ?_
  refine bb_lc (sd_goto hx dX7_moves_13 (by decide)) ?_
  refine bb_lc (sd_aload_n hx dX7_moves_16 rfl) ?_
  refine bb_lc (sd_iload_n hx dX7_moves_17 rfl) ?_
  refine bb_lc (sd_iload_n hx dX7_moves_18 rfl) ?_
  refine bb_lc (sd_callv hx hcs (fun w h => List.mem_cons_of_mem _ h) dX7_moves_19 wd_498 mV_35) ?_
  refine bb_lc (sd_istore hx dX7_moves_22) ?_
  refine bb_lc (sd_iload_n hx dX7_moves_24 rfl) ?_
  refine bb_lc (sd_ifge hx dX7_moves_25 (by decide)) ?_
  refine bb_lc (sd_aload_n hx dX7_moves_28 rfl) ?_
  refine bb_lc (sd_getR (k := 7) (sl := 0) hx dX7_moves_29 rfl (fun w h => List.mem_cons_of_mem _ (wc_7 w h)) (by decide) (by decide) (List.mem_cons_of_mem _ wd_491) (fun _ h9 => h9) rfl (fun i _ => (by decide))) ?_
  refine bb_lc (sd_sipush hx dX7_moves_32 (by decide)) ?_
  refine bb_lc (sd_dup2 hx dX7_moves_35) ?_
  refine bb_lc (sd_iald hx dX7_moves_36) ?_
  refine bb_lc (sd_iload hx dX7_moves_37) ?_
  refine bb_lc (sd_iadd hx dX7_moves_39) ?_
  refine bb_lc (sd_iast hx dX7_moves_40) ?_
  refine bb_lc (sd_goto hx dX7_moves_41 (by decide)) ?_
  refine bb_lc (sd_iload_n hx dX7_moves_44 rfl) ?_
  refine bb_lc (sd_bipush hx dX7_moves_45 (by decide)) ?_
  refine bb_lc (sd_icne hx dX7_moves_47 (by decide)) ?_
  refine bb_lc (sd_aload_n hx dX7_moves_50 rfl) ?_
  refine bb_lc (sd_getR (k := 7) (sl := 0) hx dX7_moves_51 rfl (fun w h => List.mem_cons_of_mem _ (wc_7 w h)) (by decide) (by decide) (List.mem_cons_of_mem _ wd_491) (fun _ h9 => h9) rfl (fun i _ => (by decide))) ?_
  refine bb_lc (sd_sipush hx dX7_moves_54 (by decide)) ?_
  refine bb_lc (sd_dup2 hx dX7_moves_57) ?_
  refine bb_lc (sd_iald hx dX7_moves_58) ?_
  refine bb_lc (sd_iload hx dX7_moves_59) ?_
  refine bb_lc (sd_iadd hx dX7_moves_61) ?_
  refine bb_lc (sd_iast hx dX7_moves_62) ?_
  refine bb_lc (sd_goto hx dX7_moves_63 (by decide)) ?_
  refine bb_lc (sd_bipush hx dX7_moves_66 (by decide)) ?_
  refine bb_lc (sd_aload_n hx dX7_moves_68 rfl) ?_
  refine bb_lc (sd_iload_n hx dX7_moves_69 rfl) ?_
  refine bb_lc (sd_iload_n hx dX7_moves_70 rfl) ?_
  refine bb_lc (sd_callv hx hcs (fun w h => List.mem_cons_of_mem _ h) dX7_moves_71 wd_498 mV_35) ?_
  refine bb_lc (sd_isub hx dX7_moves_74) ?_
  refine bb_lc (sd_istore hx dX7_moves_75) ?_
  refine bb_lc (sd_iload hx dX7_moves_77) ?_
  refine bb_lc (sd_iload hx dX7_moves_79) ?_
  refine bb_lc (sd_icge hx dX7_moves_81 (by decide)) ?_
  refine bb_lc (sd_iload hx dX7_moves_84) ?_
  refine bb_lc (sd_goto hx dX7_moves_86 (by decide)) ?_
  refine bb_lc (sd_iload hx dX7_moves_89) ?_
  refine bb_lc (sd_istore hx dX7_moves_91) ?_
  refine bb_lc (sd_aload_n hx dX7_moves_93 rfl) ?_
  refine bb_lc (sd_getR (k := 7) (sl := 0) hx dX7_moves_94 rfl (fun w h => List.mem_cons_of_mem _ (wc_7 w h)) (by decide) (by decide) (List.mem_cons_of_mem _ wd_491) (fun _ h9 => h9) rfl (fun i _ => (by decide))) ?_
  refine bb_lc (sd_bipush hx dX7_moves_97 (by decide)) ?_
  refine bb_lc (sd_iload_n hx dX7_moves_99 rfl) ?_
  refine bb_lc (sd_imul hx dX7_moves_100) ?_
  refine bb_lc (sd_iload_n hx dX7_moves_101 rfl) ?_
  refine bb_lc (sd_iadd hx dX7_moves_102) ?_
  refine bb_lc (sd_dup2 hx dX7_moves_103) ?_
  refine bb_lc (sd_iald hx dX7_moves_104) ?_
  refine bb_lc (sd_iload hx dX7_moves_105) ?_
  refine bb_lc (sd_iadd hx dX7_moves_107) ?_
  refine bb_lc (sd_iast hx dX7_moves_108) ?_
  refine bb_lc (sd_aload_n hx dX7_moves_109 rfl) ?_
  refine bb_lc (sd_getR (k := 7) (sl := 0) hx dX7_moves_110 rfl (fun w h => List.mem_cons_of_mem _ (wc_7 w h)) (by decide) (by decide) (List.mem_cons_of_mem _ wd_491) (fun _ h9 => h9) rfl (fun i _ => (by decide))) ?_
  refine bb_lc (sd_bipush hx dX7_moves_113 (by decide)) ?_
  refine bb_lc (sd_iload_n hx dX7_moves_115 rfl) ?_
  refine bb_lc (sd_imul hx dX7_moves_116) ?_
  refine bb_lc (sd_iload_n hx dX7_moves_117 rfl) ?_
  refine bb_lc (sd_iadd hx dX7_moves_118) ?_
  refine bb_lc (sd_dup2 hx dX7_moves_119) ?_
  refine bb_lc (sd_iald hx dX7_moves_120) ?_
  refine bb_lc (sd_iload hx dX7_moves_121) ?_
  refine bb_lc (sd_isub hx dX7_moves_123) ?_
  refine bb_lc (sd_iast hx dX7_moves_124) ?_
  refine bb_lc (sd_iload hx dX7_moves_125) ?_
  refine bb_lc (sd_iret hx dX7_moves_127 hr hlk) ?_
  exact bb_ln
set_option maxRecDepth 20000 in
theorem sn_X7_runs {p : Program} {l : Launch} {e : Env} {R : Room} {s : State} {m : MethodId} {args : Array Value} {below : List Frame} {meth : Method} {c : Code} {D : va_G} {bs : Nat} {ad : Nat → Nat → Nat} {aI aC aS : ClassId} {Rp : bb_P} {C : bb_C} (hx : bb_Cx p s m args c D bs ad aI aC aS cX7_runs RX7 (bb_ws 42)) (hcs : bb_CS l R D bs ad aI aC aS C) (hr : meth.sig.returnType = none) (hlk : meth.locks = false) (hRf : 1 ≤ R.frames) (hRl : 36 ≤ R.locals) : ∀ pc, bb_Snd p l e R s m args below meth c D bs ad aI aC aS Rp C pc (cd_X7_runs pc) := by
  unfold cd_X7_runs
  refine bb_lkS (fun pc => sd_fail) ?_
  refine bb_lc (sd_iload_n hx dX7_runs_0 rfl) ?_
  refine bb_lc (sd_istore_n hx dX7_runs_1 rfl) ?_
  refine bb_lc (sd_bipush hx dX7_runs_2 (by decide)) ?_
  refine bb_lc (sd_istore hx dX7_runs_4) ?_
  refine bb_lc (sd_iload_n hx dX7_runs_6 rfl) ?_
  refine bb_lc (sd_aload_n hx dX7_runs_7 rfl) ?_
  refine bb_lc (sd_getR (k := 7) (sl := 0) hx dX7_runs_8 rfl (fun w h => List.mem_cons_of_mem _ (wc_7 w h)) (by decide) (by decide) (List.mem_cons_of_mem _ wd_491) (fun _ h9 => h9) rfl (fun i _ => (by decide))) ?_
  refine bb_lc (sd_bipush hx dX7_runs_11 (by decide)) ?_
  refine bb_lc (sd_iald hx dX7_runs_13) ?_
  refine bb_lc (sd_iclt hx dX7_runs_14 (by decide)) ?_
  refine bb_lc (sd_iconst hx dX7_runs_17 (by decide)) ?_
  refine bb_lc (sd_goto hx dX7_runs_18 (by decide)) ?_
  refine bb_lc (sd_iconst hx dX7_runs_21 (by decide)) ?_
  refine bb_lc (sd_istore hx dX7_runs_22) ?_
  refine bb_lc (sd_aload_n hx dX7_runs_24 rfl) ?_
  refine bb_lc (sd_getR (k := 7) (sl := 7) hx dX7_runs_25 rfl (fun w h => List.mem_cons_of_mem _ (wc_7 w h)) (by decide) (by decide) (List.mem_cons_of_mem _ wd_505) (fun _ h9 => h9) rfl (fun i _ => (by decide))) ?_
  refine bb_lc (sd_iconst hx dX7_runs_28 (by decide)) ?_
  refine bb_lc (sd_iload_n hx dX7_runs_29 rfl) ?_
  refine bb_lc (sd_iast hx dX7_runs_30) ?_
  refine bb_lc (sd_aload_n hx dX7_runs_31 rfl) ?_
  refine bb_lc (sd_getR (k := 7) (sl := 7) hx dX7_runs_32 rfl (fun w h => List.mem_cons_of_mem _ (wc_7 w h)) (by decide) (by decide) (List.mem_cons_of_mem _ wd_505) (fun _ h9 => h9) rfl (fun i _ => (by decide))) ?_
  refine bb_lc (sd_iconst hx dX7_runs_35 (by decide)) ?_
  refine bb_lc (sd_iload_n hx dX7_runs_36 rfl) ?_
  refine bb_lc (sd_iast hx dX7_runs_37) ?_
  refine bb_lc (sd_aload_n hx dX7_runs_38 rfl) ?_
  refine bb_lc (sd_getR (k := 7) (sl := 7) hx dX7_runs_39 rfl (fun w h => List.mem_cons_of_mem _ (wc_7 w h)) (by decide) (by decide) (List.mem_cons_of_mem _ wd_505) (fun _ h9 => h9) rfl (fun i _ => (by decide))) ?_
  refine bb_lc (sd_iconst hx dX7_runs_42 (by decide)) ?_
  refine bb_lc (sd_sipush hx dX7_runs_43 (by decide)) ?_
  refine bb_lc (sd_iast hx dX7_runs_46) ?_
  refine bb_lc (sd_aload_n hx dX7_runs_47 rfl) ?_
  refine bb_lc (sd_getR (k := 7) (sl := 7) hx dX7_runs_48 rfl (fun w h => List.mem_cons_of_mem _ (wc_7 w h)) (by decide) (by decide) (List.mem_cons_of_mem _ wd_505) (fun _ h9 => h9) rfl (fun i _ => (by decide))) ?_
  refine bb_lc (sd_iconst hx dX7_runs_51 (by decide)) ?_
  refine bb_lc (sd_iconst hx dX7_runs_52 (by decide)) ?_
  refine bb_lc (sd_iast hx dX7_runs_53) ?_
  refine bb_lc (sd_aload_n hx dX7_runs_54 rfl) ?_
  refine bb_lc (sd_getR (k := 7) (sl := 7) hx dX7_runs_55 rfl (fun w h => List.mem_cons_of_mem _ (wc_7 w h)) (by decide) (by decide) (List.mem_cons_of_mem _ wd_505) (fun _ h9 => h9) rfl (fun i _ => (by decide))) ?_
  refine bb_lc (sd_iconst hx dX7_runs_58 (by decide)) ?_
  refine bb_lc (sd_iconst hx dX7_runs_59 (by decide)) ?_
  refine bb_lc (sd_iast hx dX7_runs_60) ?_
  refine bb_lc (sd_aload_n hx dX7_runs_61 rfl) ?_
  refine bb_lc (sd_getR (k := 7) (sl := 7) hx dX7_runs_62 rfl (fun w h => List.mem_cons_of_mem _ (wc_7 w h)) (by decide) (by decide) (List.mem_cons_of_mem _ wd_505) (fun _ h9 => h9) rfl (fun i _ => (by decide))) ?_
  refine bb_lc (sd_bipush hx dX7_runs_65 (by decide)) ?_
  refine bb_lc (sd_iconst hx dX7_runs_67 (by decide)) ?_
  refine bb_lc (sd_iast hx dX7_runs_68) ?_
  refine bb_lc (sd_iload hx dX7_runs_69) ?_
  refine bb_lc (sd_iflt hx dX7_runs_71 (by decide)) ?_
  refine bb_lc (sd_aload_n hx dX7_runs_74 rfl) ?_
  refine bb_lc (sd_getR (k := 7) (sl := 7) hx dX7_runs_75 rfl (fun w h => List.mem_cons_of_mem _ (wc_7 w h)) (by decide) (by decide) (List.mem_cons_of_mem _ wd_505) (fun _ h9 => h9) rfl (fun i _ => (by decide))) ?_
  refine bb_lc (sd_iconst hx dX7_runs_78 (by decide)) ?_
  refine bb_lc (sd_iald hx dX7_runs_79) ?_
  refine bb_lc (sd_ifne hx dX7_runs_80 (by decide)) ?_
  refine bb_lc (sd_aload_n hx dX7_runs_83 rfl) ?_
  refine bb_lc (sd_iload_n hx dX7_runs_84 rfl) ?_
  refine bb_lc (sd_iload hx dX7_runs_85) ?_
  refine bb_lc (sd_callv hx hcs (fun w h => List.mem_cons_of_mem _ h) dX7_runs_87 wd_501 mV_37) ?_
  refine bb_lc (sd_ifeq hx dX7_runs_90 (by decide)) ?_
  refine bb_lc (sd_aload_n hx dX7_runs_93 rfl) ?_
  refine bb_lc (sd_getR (k := 7) (sl := 7) hx dX7_runs_94 rfl (fun w h => List.mem_cons_of_mem _ (wc_7 w h)) (by decide) (by decide) (List.mem_cons_of_mem _ wd_505) (fun _ h9 => h9) rfl (fun i _ => (by decide))) ?_
  refine bb_lc (sd_iconst hx dX7_runs_97 (by decide)) ?_
  refine bb_lc (sd_iconst hx dX7_runs_98 (by decide)) ?_
  refine bb_lc (sd_iast hx dX7_runs_99) ?_
  refine bb_lc (sd_goto hx dX7_runs_100 (by decide)) ?_
  refine bb_lc (sd_aload_n hx dX7_runs_103 rfl) ?_
  refine bb_lc (sd_iload_n hx dX7_runs_104 rfl) ?_
  refine bb_lc (sd_iload hx dX7_runs_105) ?_
  refine bb_lc (sd_callv hx hcs (fun w h => List.mem_cons_of_mem _ h) dX7_runs_107 wd_499 mV_36) ?_
  refine bb_lc (sd_iload_n hx dX7_runs_110 rfl) ?_
  refine bb_lc (sd_icge hx dX7_runs_111 (by decide)) ?_
  refine bb_lc (sd_aload_n hx dX7_runs_114 rfl) ?_
  refine bb_lc (sd_getR (k := 7) (sl := 7) hx dX7_runs_115 rfl (fun w h => List.mem_cons_of_mem _ (wc_7 w h)) (by decide) (by decide) (List.mem_cons_of_mem _ wd_505) (fun _ h9 => h9) rfl (fun i _ => (by decide))) ?_
  refine bb_lc (sd_iconst hx dX7_runs_118 (by decide)) ?_
  refine bb_lc (sd_aload_n hx dX7_runs_119 rfl) ?_
  refine bb_lc (sd_getR (k := 7) (sl := 7) hx dX7_runs_120 rfl (fun w h => List.mem_cons_of_mem _ (wc_7 w h)) (by decide) (by decide) (List.mem_cons_of_mem _ wd_505) (fun _ h9 => h9) rfl (fun i _ => (by decide))) ?_
  refine bb_lc (sd_iconst hx dX7_runs_123 (by decide)) ?_
  refine bb_lc (sd_iald hx dX7_runs_124) ?_
  refine bb_lc (sd_sipush hx dX7_runs_125 (by decide)) ?_
  refine bb_lc (sd_icne hx dX7_runs_128 (by decide)) ?_
  refine bb_lc (sd_iload hx dX7_runs_131) ?_
  refine bb_lc (sd_goto hx dX7_runs_133 (by decide)) ?_
  refine bb_lc (sd_aload_n hx dX7_runs_136 rfl) ?_
  refine bb_lc (sd_getR (k := 7) (sl := 7) hx dX7_runs_137 rfl (fun w h => List.mem_cons_of_mem _ (wc_7 w h)) (by decide) (by decide) (List.mem_cons_of_mem _ wd_505) (fun _ h9 => h9) rfl (fun i _ => (by decide))) ?_
  refine bb_lc (sd_iconst hx dX7_runs_140 (by decide)) ?_
  refine bb_lc (sd_iald hx dX7_runs_141) ?_
  refine bb_lc (sd_iast hx dX7_runs_142) ?_
  refine bb_lc (sd_aload_n hx dX7_runs_143 rfl) ?_
  refine bb_lc (sd_getR (k := 7) (sl := 7) hx dX7_runs_144 rfl (fun w h => List.mem_cons_of_mem _ (wc_7 w h)) (by decide) (by decide) (List.mem_cons_of_mem _ wd_505) (fun _ h9 => h9) rfl (fun i _ => (by decide))) ?_
  refine bb_lc (sd_iconst hx dX7_runs_147 (by decide)) ?_
  refine bb_lc (sd_dup2 hx dX7_runs_148) ?_
  refine bb_lc (sd_iald hx dX7_runs_149) ?_
  refine bb_lc (sd_iconst hx dX7_runs_150 (by decide)) ?_
  refine bb_lc (sd_iadd hx dX7_runs_151) ?_
  refine bb_lc (sd_iast hx dX7_runs_152) ?_
  refine bb_lc (sd_aload_n hx dX7_runs_153 rfl) ?_
  refine bb_lc (sd_getR (k := 7) (sl := 7) hx dX7_runs_154 rfl (fun w h => List.mem_cons_of_mem _ (wc_7 w h)) (by decide) (by decide) (List.mem_cons_of_mem _ wd_505) (fun _ h9 => h9) rfl (fun i _ => (by decide))) ?_
  refine bb_lc (sd_bipush hx dX7_runs_157 (by decide)) ?_
  refine bb_lc (sd_dup2 hx dX7_runs_159) ?_
  refine bb_lc (sd_iald hx dX7_runs_160) ?_
  refine bb_lc (sd_aload_n hx dX7_runs_161 rfl) ?_
  refine bb_lc (sd_iload_n hx dX7_runs_162 rfl) ?_
  refine bb_lc (sd_iload hx dX7_runs_163) ?_
  refine bb_lc (sd_iload hx dX7_runs_165) ?_
  refine bb_lc (sd_ifeq hx dX7_runs_167 (by decide)) ?_
  refine bb_lc (sd_iload hx dX7_runs_170) ?_
  refine bb_lc (sd_iconst hx dX7_runs_172 (by decide)) ?_
  refine bb_lc (sd_iadd hx dX7_runs_173) ?_
  refine bb_lc (sd_goto hx dX7_runs_174 (by decide)) ?_
  refine bb_lc (sd_iload hx dX7_runs_177) ?_
  refine bb_lc (sd_iconst hx dX7_runs_179 (by decide)) ?_
  refine bb_lc (sd_isub hx dX7_runs_180) ?_
  refine bb_lc (sd_iconst hx dX7_runs_181 (by decide)) ?_
  refine bb_lc (sd_iload_n hx dX7_runs_182 rfl) ?_
  refine bb_lc (sd_iconst hx dX7_runs_183 (by decide)) ?_
  refine bb_lc (sd_idiv hx dX7_runs_184) ?_
  refine bb_lc (sd_iadd hx dX7_runs_185) ?_
  refine bb_lc (sd_callv hx hcs (fun w h => List.mem_cons_of_mem _ h) dX7_runs_186 wd_506 mV_41) ?_
  refine bb_lc (sd_iadd hx dX7_runs_189) ?_
  refine bb_lc (sd_iast hx dX7_runs_190) ?_
  refine bb_lc (sd_iload_n hx dX7_runs_191 rfl) ?_
  refine bb_lc (sd_iconst hx dX7_runs_192 (by decide)) ?_
  refine bb_lc (sd_idiv hx dX7_runs_193) ?_
  refine bb_lc (sd_istore_n hx dX7_runs_194 rfl) ?_
  refine bb_lc (sd_aload_n hx dX7_runs_195 rfl) ?_
  refine bb_lc (sd_getR (k := 7) (sl := 7) hx dX7_runs_196 rfl (fun w h => List.mem_cons_of_mem _ (wc_7 w h)) (by decide) (by decide) (List.mem_cons_of_mem _ wd_505) (fun _ h9 => h9) rfl (fun i _ => (by decide))) ?_
  refine bb_lc (sd_iconst hx dX7_runs_199 (by decide)) ?_
  refine bb_lc (sd_iload_n hx dX7_runs_200 rfl) ?_
  refine bb_lc (sd_ifne hx dX7_runs_201 (by decide)) ?_
  refine bb_lc (sd_iconst hx dX7_runs_204 (by decide)) ?_
  refine bb_lc (sd_goto hx dX7_runs_205 (by decide)) ?_
  refine bb_lc (sd_iconst hx dX7_runs_208 (by decide)) ?_
  refine bb_lc (sd_iast hx dX7_runs_209) ?_
  refine bb_lc (sd_iload hx dX7_runs_210) ?_
  refine bb_lc (sd_aload_n hx dX7_runs_212 rfl) ?_
  refine bb_lc (sd_getR (k := 7) (sl := 7) hx dX7_runs_213 rfl (fun w h => List.mem_cons_of_mem _ (wc_7 w h)) (by decide) (by decide) (List.mem_cons_of_mem _ wd_505) (fun _ h9 => h9) rfl (fun i _ => (by decide))) ?_
  refine bb_lc (sd_iconst hx dX7_runs_216 (by decide)) ?_
  refine bb_lc (sd_iald hx dX7_runs_217) ?_
  refine bb_lc (sd_ifne hx dX7_runs_218 (by decide)) ?_
  refine bb_lc (sd_iconst hx dX7_runs_221 (by decide)) ?_
  refine bb_lc (sd_goto hx dX7_runs_222 (by decide)) ?_
  refine bb_lc (sd_iconst hx dX7_runs_225 (by decide)) ?_
  refine bb_lc (sd_isub hx dX7_runs_226) ?_
  refine bb_lc (sd_istore hx dX7_runs_227) ?_
  refine bb_lc (sd_goto hx dX7_runs_229 (by decide)) ?_
  refine bb_lc (sd_aload_n hx dX7_runs_232 rfl) ?_
  refine bb_lc (sd_getR (k := 7) (sl := 7) hx dX7_runs_233 rfl (fun w h => List.mem_cons_of_mem _ (wc_7 w h)) (by decide) (by decide) (List.mem_cons_of_mem _ wd_505) (fun _ h9 => h9) rfl (fun i _ => (by decide))) ?_
  refine bb_lc (sd_iconst hx dX7_runs_236 (by decide)) ?_
  refine bb_lc (sd_iload hx dX7_runs_237) ?_
  refine bb_lc (sd_iast hx dX7_runs_239) ?_
  refine bb_lc (sd_aload_n hx dX7_runs_240 rfl) ?_
  refine bb_lc (sd_getR (k := 7) (sl := 7) hx dX7_runs_241 rfl (fun w h => List.mem_cons_of_mem _ (wc_7 w h)) (by decide) (by decide) (List.mem_cons_of_mem _ wd_505) (fun _ h9 => h9) rfl (fun i _ => (by decide))) ?_
  refine bb_lc (sd_iconst hx dX7_runs_244 (by decide)) ?_
  refine bb_lc (sd_aload_n hx dX7_runs_245 rfl) ?_
  refine bb_lc (sd_getR (k := 7) (sl := 7) hx dX7_runs_246 rfl (fun w h => List.mem_cons_of_mem _ (wc_7 w h)) (by decide) (by decide) (List.mem_cons_of_mem _ wd_505) (fun _ h9 => h9) rfl (fun i _ => (by decide))) ?_
  refine bb_lc (sd_iconst hx dX7_runs_249 (by decide)) ?_
  refine bb_lc (sd_iald hx dX7_runs_250) ?_
  refine bb_lc (sd_ifne hx dX7_runs_251 (by decide)) ?_
  refine bb_lc (sd_iconst hx dX7_runs_254 (by decide)) ?_
  refine bb_lc (sd_goto hx dX7_runs_255 (by decide)) ?_
  refine bb_lc (sd_aload_n hx dX7_runs_258 rfl) ?_
  refine bb_lc (sd_getR (k := 7) (sl := 7) hx dX7_runs_259 rfl (fun w h => List.mem_cons_of_mem _ (wc_7 w h)) (by decide) (by decide) (List.mem_cons_of_mem _ wd_505) (fun _ h9 => h9) rfl (fun i _ => (by decide))) ?_
  refine bb_lc (sd_iconst hx dX7_runs_262 (by decide)) ?_
  refine bb_lc (sd_iald hx dX7_runs_263) ?_
  refine bb_lc (sd_iast hx dX7_runs_264) ?_
  refine bb_lc (sd_ret hx dX7_runs_265 hr hlk) ?_
  exact bb_ln
set_option maxRecDepth 20000 in
theorem sn_X7_runsAhead {p : Program} {l : Launch} {e : Env} {R : Room} {s : State} {m : MethodId} {args : Array Value} {below : List Frame} {meth : Method} {c : Code} {D : va_G} {bs : Nat} {ad : Nat → Nat → Nat} {aI aC aS : ClassId} {Rp : bb_P} {C : bb_C} (hx : bb_Cx p s m args c D bs ad aI aC aS cX7_runsAhead RX7 (bb_ws 43)) (hcs : bb_CS l R D bs ad aI aC aS C) (hr : meth.sig.returnType = some .boolean) (hlk : meth.locks = false) (hRf : 1 ≤ R.frames) (hRl : 36 ≤ R.locals) : ∀ pc, bb_Snd p l e R s m args below meth c D bs ad aI aC aS Rp C pc (cd_X7_runsAhead pc) := by
  unfold cd_X7_runsAhead
  refine bb_lkS (fun pc => sd_fail) ?_
  refine bb_lc (sd_aload_n hx dX7_runsAhead_0 rfl) ?_
  refine bb_lc (sd_getR (k := 7) (sl := 0) hx dX7_runsAhead_1 rfl (fun w h => List.mem_cons_of_mem _ (wc_7 w h)) (by decide) (by decide) (List.mem_cons_of_mem _ wd_491) (fun _ h9 => h9) rfl (fun i _ => (by decide))) ?_
  refine bb_lc (sd_bipush hx dX7_runsAhead_4 (by decide)) ?_
  refine bb_lc (sd_iconst hx dX7_runsAhead_6 (by decide)) ?_
  refine bb_lc (sd_iload_n hx dX7_runsAhead_7 rfl) ?_
  refine bb_lc (sd_imul hx dX7_runsAhead_8) ?_
  refine bb_lc (sd_iadd hx dX7_runsAhead_9) ?_
  refine bb_lc (sd_iconst hx dX7_runsAhead_10 (by decide)) ?_
  refine bb_lc (sd_iadd hx dX7_runsAhead_11) ?_
  refine bb_lc (sd_iald hx dX7_runsAhead_12) ?_
  refine bb_lc (sd_aload_n hx dX7_runsAhead_13 rfl) ?_
  refine bb_lc (sd_getR (k := 7) (sl := 0) hx dX7_runsAhead_14 rfl (fun w h => List.mem_cons_of_mem _ (wc_7 w h)) (by decide) (by decide) (List.mem_cons_of_mem _ wd_491) (fun _ h9 => h9) rfl (fun i _ => (by decide))) ?_
  refine bb_lc (sd_bipush hx dX7_runsAhead_17 (by decide)) ?_
  refine bb_lc (sd_iconst hx dX7_runsAhead_19 (by decide)) ?_
  refine bb_lc (sd_iload_n hx dX7_runsAhead_20 rfl) ?_
  refine bb_lc (sd_imul hx dX7_runsAhead_21) ?_
  refine bb_lc (sd_iadd hx dX7_runsAhead_22) ?_
  refine bb_lc (sd_iconst hx dX7_runsAhead_23 (by decide)) ?_
  refine bb_lc (sd_iadd hx dX7_runsAhead_24) ?_
  refine bb_lc (sd_iald hx dX7_runsAhead_25) ?_
  refine bb_lc (sd_isub hx dX7_runsAhead_26) ?_
  refine bb_lc (sd_istore_n hx dX7_runsAhead_27 rfl) ?_
  refine bb_lc (sd_aload_n hx dX7_runsAhead_28 rfl) ?_
  refine bb_lc (sd_getR (k := 7) (sl := 0) hx dX7_runsAhead_29 rfl (fun w h => List.mem_cons_of_mem _ (wc_7 w h)) (by decide) (by decide) (List.mem_cons_of_mem _ wd_491) (fun _ h9 => h9) rfl (fun i _ => (by decide))) ?_
  refine bb_lc (sd_bipush hx dX7_runsAhead_32 (by decide)) ?_
  refine bb_lc (sd_iald hx dX7_runsAhead_34) ?_
  refine bb_lc (sd_iconst hx dX7_runsAhead_35 (by decide)) ?_
  refine bb_lc (sd_icne hx dX7_runsAhead_36 (by decide)) ?_
  refine bb_lc (sd_iload_n hx dX7_runsAhead_39 rfl) ?_
  refine bb_lc (sd_ifle hx dX7_runsAhead_40 (by decide)) ?_
  refine bb_lc (sd_iconst hx dX7_runsAhead_43 (by decide)) ?_
  refine bb_lc (sd_goto hx dX7_runsAhead_44 (by decide)) ?_
  refine bb_lc (sd_iconst hx dX7_runsAhead_47 (by decide)) ?_
  refine bb_lc (sd_goto hx dX7_runsAhead_48 (by decide)) ?_
  refine bb_lc (sd_aload_n hx dX7_runsAhead_51 rfl) ?_
  refine bb_lc (sd_getR (k := 7) (sl := 0) hx dX7_runsAhead_52 rfl (fun w h => List.mem_cons_of_mem _ (wc_7 w h)) (by decide) (by decide) (List.mem_cons_of_mem _ wd_491) (fun _ h9 => h9) rfl (fun i _ => (by decide))) ?_
  refine bb_lc (sd_bipush hx dX7_runsAhead_55 (by decide)) ?_
  refine bb_lc (sd_iald hx dX7_runsAhead_57) ?_
  refine bb_lc (sd_iconst hx dX7_runsAhead_58 (by decide)) ?_
  refine bb_lc (sd_icne hx dX7_runsAhead_59 (by decide)) ?_
  refine bb_lc (sd_iload_n hx dX7_runsAhead_62 rfl) ?_
  refine bb_lc (sd_ifge hx dX7_runsAhead_63 (by decide)) ?_
  refine bb_lc (sd_iconst hx dX7_runsAhead_66 (by decide)) ?_
  refine bb_lc (sd_goto hx dX7_runsAhead_67 (by decide)) ?_
  refine bb_lc (sd_iconst hx dX7_runsAhead_70 (by decide)) ?_
  refine bb_lc (sd_zret hx dX7_runsAhead_71 hr hlk) ?_
  exact bb_ln
set_option maxRecDepth 20000 in
theorem sn_X7_sorts {p : Program} {l : Launch} {e : Env} {R : Room} {s : State} {m : MethodId} {args : Array Value} {below : List Frame} {meth : Method} {c : Code} {D : va_G} {bs : Nat} {ad : Nat → Nat → Nat} {aI aC aS : ClassId} {Rp : bb_P} {C : bb_C} (hx : bb_Cx p s m args c D bs ad aI aC aS cX7_sorts RX7 (bb_ws 44)) (hcs : bb_CS l R D bs ad aI aC aS C) (hr : meth.sig.returnType = none) (hlk : meth.locks = false) (hRf : 1 ≤ R.frames) (hRl : 36 ≤ R.locals) : ∀ pc, bb_Snd p l e R s m args below meth c D bs ad aI aC aS Rp C pc (cd_X7_sorts pc) := by
  unfold cd_X7_sorts
  refine bb_lkS (fun pc => sd_fail) ?_
  refine bb_lc (sd_iconst hx dX7_sorts_0 (by decide)) ?_
  refine bb_lc (sd_istore_n hx dX7_sorts_1 rfl) ?_
  refine bb_lc (sd_iload_n hx dX7_sorts_2 rfl) ?_
  refine bb_lc (sd_aload_n hx dX7_sorts_3 rfl) ?_
  refine bb_lc (sd_getR (k := 7) (sl := 0) hx dX7_sorts_4 rfl (fun w h => List.mem_cons_of_mem _ (wc_7 w h)) (by decide) (by decide) (List.mem_cons_of_mem _ wd_491) (fun _ h9 => h9) rfl (fun i _ => (by decide))) ?_
  refine bb_lc (sd_bipush hx dX7_sorts_7 (by decide)) ?_
  refine bb_lc (sd_iald hx dX7_sorts_9) ?_
  refine bb_lc (sd_icge hx dX7_sorts_10 (by decide)) ?_
  refine bb_lc (sd_iload_n hx dX7_sorts_13 rfl) ?_
  refine bb_lc (sd_istore_n hx dX7_sorts_14 rfl) ?_
  refine bb_lc (sd_iload_n hx dX7_sorts_15 rfl) ?_
  refine bb_lc (sd_ifle hx dX7_sorts_16 (by decide)) ?_
  refine bb_lc (sd_aload_n hx dX7_sorts_19 rfl) ?_
  refine bb_lc (sd_iload_n hx dX7_sorts_20 rfl) ?_
  refine bb_lc (sd_aload_n hx dX7_sorts_21 rfl) ?_
  refine bb_lc (sd_getR (k := 7) (sl := 8) hx dX7_sorts_22 rfl (fun w h => List.mem_cons_of_mem _ (wc_7 w h)) (by decide) (by decide) (List.mem_cons_of_mem _ wd_507) (fun _ h9 => h9) rfl (fun i _ => (by decide))) ?_
  refine bb_lc (sd_iload_n hx dX7_sorts_25 rfl) ?_
  refine bb_lc (sd_iconst hx dX7_sorts_26 (by decide)) ?_
  refine bb_lc (sd_isub hx dX7_sorts_27) ?_
  refine bb_lc (sd_iald hx dX7_sorts_28) ?_
  refine bb_lc (sd_callv hx hcs (fun w h => List.mem_cons_of_mem _ h) dX7_sorts_29 wd_508 mV_43) ?_
  refine bb_lc (sd_ifeq hx dX7_sorts_32 (by decide)) ?_
  refine bb_lc (sd_aload_n hx dX7_sorts_35 rfl) ?_
  refine bb_lc (sd_getR (k := 7) (sl := 8) hx dX7_sorts_36 rfl (fun w h => List.mem_cons_of_mem _ (wc_7 w h)) (by decide) (by decide) (List.mem_cons_of_mem _ wd_507) (fun _ h9 => h9) rfl (fun i _ => (by decide))) ?_
  refine bb_lc (sd_iload_n hx dX7_sorts_39 rfl) ?_
  refine bb_lc (sd_aload_n hx dX7_sorts_40 rfl) ?_
  refine bb_lc (sd_getR (k := 7) (sl := 8) hx dX7_sorts_41 rfl (fun w h => List.mem_cons_of_mem _ (wc_7 w h)) (by decide) (by decide) (List.mem_cons_of_mem _ wd_507) (fun _ h9 => h9) rfl (fun i _ => (by decide))) ?_
  refine bb_lc (sd_iload_n hx dX7_sorts_44 rfl) ?_
  refine bb_lc (sd_iconst hx dX7_sorts_45 (by decide)) ?_
  refine bb_lc (sd_isub hx dX7_sorts_46) ?_
  refine bb_lc (sd_iald hx dX7_sorts_47) ?_
  refine bb_lc (sd_iast hx dX7_sorts_48) ?_
  refine bb_lc (sd_iinc hx dX7_sorts_49 (by decide)) ?_
  refine bb_lc (sd_goto hx dX7_sorts_52 (by decide)) ?_
  refine bb_lc (sd_aload_n hx dX7_sorts_55 rfl) ?_
  refine bb_lc (sd_getR (k := 7) (sl := 8) hx dX7_sorts_56 rfl (fun w h => List.mem_cons_of_mem _ (wc_7 w h)) (by decide) (by decide) (List.mem_cons_of_mem _ wd_507) (fun _ h9 => h9) rfl (fun i _ => (by decide))) ?_
  refine bb_lc (sd_iload_n hx dX7_sorts_59 rfl) ?_
  refine bb_lc (sd_iload_n hx dX7_sorts_60 rfl) ?_
  refine bb_lc (sd_iast hx dX7_sorts_61) ?_
  refine bb_lc (sd_iinc hx dX7_sorts_62 (by decide)) ?_
  refine bb_lc (sd_goto hx dX7_sorts_65 (by decide)) ?_
  refine bb_lc (sd_ret hx dX7_sorts_68 hr hlk) ?_
  exact bb_ln
set_option maxRecDepth 20000 in
theorem sn_X7_allRun {p : Program} {l : Launch} {e : Env} {R : Room} {s : State} {m : MethodId} {args : Array Value} {below : List Frame} {meth : Method} {c : Code} {D : va_G} {bs : Nat} {ad : Nat → Nat → Nat} {aI aC aS : ClassId} {Rp : bb_P} {C : bb_C} (hx : bb_Cx p s m args c D bs ad aI aC aS cX7_allRun RX7 (bb_ws 45)) (hcs : bb_CS l R D bs ad aI aC aS C) (hr : meth.sig.returnType = some .int) (hlk : meth.locks = false) (hRf : 1 ≤ R.frames) (hRl : 36 ≤ R.locals) : ∀ pc, bb_Snd p l e R s m args below meth c D bs ad aI aC aS Rp C pc (cd_X7_allRun pc) := by
  unfold cd_X7_allRun
  refine bb_lkS (fun pc => sd_fail) ?_
  refine bb_lc (sd_iconst hx dX7_allRun_0 (by decide)) ?_
  refine bb_lc (sd_istore_n hx dX7_allRun_1 rfl) ?_
  refine bb_lc (sd_aload_n hx dX7_allRun_2 rfl) ?_
  refine bb_lc (sd_callv hx hcs (fun w h => List.mem_cons_of_mem _ h) dX7_allRun_3 wd_509 mV_44) ?_
  refine bb_lc (sd_aload_n hx dX7_allRun_6 rfl) ?_
  refine bb_lc (sd_getR (k := 7) (sl := 0) hx dX7_allRun_7 rfl (fun w h => List.mem_cons_of_mem _ (wc_7 w h)) (by decide) (by decide) (List.mem_cons_of_mem _ wd_491) (fun _ h9 => h9) rfl (fun i _ => (by decide))) ?_
  refine bb_lc (sd_sipush hx dX7_allRun_10 (by decide)) ?_
  refine bb_lc (sd_aload_n hx dX7_allRun_13 rfl) ?_
  refine bb_lc (sd_getR (k := 7) (sl := 0) hx dX7_allRun_14 rfl (fun w h => List.mem_cons_of_mem _ (wc_7 w h)) (by decide) (by decide) (List.mem_cons_of_mem _ wd_491) (fun _ h9 => h9) rfl (fun i _ => (by decide))) ?_
  refine bb_lc (sd_bipush hx dX7_allRun_17 (by decide)) ?_
  refine bb_lc (sd_iald hx dX7_allRun_19) ?_
  refine bb_lc (sd_iast hx dX7_allRun_20) ?_
  refine bb_lc (sd_iconst hx dX7_allRun_21 (by decide)) ?_
  refine bb_lc (sd_istore_n hx dX7_allRun_22 rfl) ?_
  refine bb_lc (sd_iload_n hx dX7_allRun_23 rfl) ?_
  refine bb_lc (sd_aload_n hx dX7_allRun_24 rfl) ?_
  refine bb_lc (sd_getR (k := 7) (sl := 0) hx dX7_allRun_25 rfl (fun w h => List.mem_cons_of_mem _ (wc_7 w h)) (by decide) (by decide) (List.mem_cons_of_mem _ wd_491) (fun _ h9 => h9) rfl (fun i _ => (by decide))) ?_
  refine bb_lc (sd_bipush hx dX7_allRun_28 (by decide)) ?_
  refine bb_lc (sd_iald hx dX7_allRun_30) ?_
  refine bb_lc (sd_icge hx dX7_allRun_31 (by decide)) ?_
  refine bb_lc (sd_aload_n hx dX7_allRun_34 rfl) ?_
  refine bb_lc (sd_getR (k := 7) (sl := 8) hx dX7_allRun_35 rfl (fun w h => List.mem_cons_of_mem _ (wc_7 w h)) (by decide) (by decide) (List.mem_cons_of_mem _ wd_507) (fun _ h9 => h9) rfl (fun i _ => (by decide))) ?_
  refine bb_lc (sd_iload_n hx dX7_allRun_38 rfl) ?_
  refine bb_lc (sd_iald hx dX7_allRun_39) ?_
  refine bb_lc (sd_istore_n hx dX7_allRun_40 rfl) ?_
  refine bb_lc (sd_aload_n hx dX7_allRun_41 rfl) ?_
  refine bb_lc (sd_aload_n hx dX7_allRun_42 rfl) ?_
  refine bb_lc (sd_getR (k := 7) (sl := 0) hx dX7_allRun_43 rfl (fun w h => List.mem_cons_of_mem _ (wc_7 w h)) (by decide) (by decide) (List.mem_cons_of_mem _ wd_491) (fun _ h9 => h9) rfl (fun i _ => (by decide))) ?_
  refine bb_lc (sd_bipush hx dX7_allRun_46 (by decide)) ?_
  refine bb_lc (sd_iconst hx dX7_allRun_48 (by decide)) ?_
  refine bb_lc (sd_iload_n hx dX7_allRun_49 rfl) ?_
  refine bb_lc (sd_imul hx dX7_allRun_50) ?_
  refine bb_lc (sd_iadd hx dX7_allRun_51) ?_
  refine bb_lc (sd_iald hx dX7_allRun_52) ?_
  refine bb_lc (sd_aload_n hx dX7_allRun_53 rfl) ?_
  refine bb_lc (sd_getR (k := 7) (sl := 0) hx dX7_allRun_54 rfl (fun w h => List.mem_cons_of_mem _ (wc_7 w h)) (by decide) (by decide) (List.mem_cons_of_mem _ wd_491) (fun _ h9 => h9) rfl (fun i _ => (by decide))) ?_
  refine bb_lc (sd_bipush hx dX7_allRun_57 (by decide)) ?_
  refine bb_lc (sd_iconst hx dX7_allRun_59 (by decide)) ?_
  refine bb_lc (sd_iload_n hx dX7_allRun_60 rfl) ?_
  refine bb_lc (sd_imul hx dX7_allRun_61) ?_
  refine bb_lc (sd_iadd hx dX7_allRun_62) ?_
  refine bb_lc (sd_iconst hx dX7_allRun_63 (by decide)) ?_
  refine bb_lc (sd_iadd hx dX7_allRun_64) ?_
  refine bb_lc (sd_iald hx dX7_allRun_65) ?_
  refine bb_lc (sd_callv hx hcs (fun w h => List.mem_cons_of_mem _ h) dX7_allRun_66 wd_510 mV_42) ?_
  refine bb_lc (sd_iconst hx dX7_allRun_69 (by decide)) ?_
  refine bb_lc (sd_istore hx dX7_allRun_70) ?_
  refine bb_lc (sd_iload hx dX7_allRun_72) ?_
  refine bb_lc (sd_bipush hx dX7_allRun_74 (by decide)) ?_
  refine bb_lc (sd_icge hx dX7_allRun_76 (by decide)) ?_
  refine bb_lc (sd_aload_n hx dX7_allRun_79 rfl) ?_
  refine bb_lc (sd_getR (k := 7) (sl := 0) hx dX7_allRun_80 rfl (fun w h => List.mem_cons_of_mem _ (wc_7 w h)) (by decide) (by decide) (List.mem_cons_of_mem _ wd_491) (fun _ h9 => h9) rfl (fun i _ => (by decide))) ?_
  refine bb_lc (sd_sipush hx dX7_allRun_83 (by decide)) ?_
  refine bb_lc (sd_bipush hx dX7_allRun_86 (by decide)) ?_
  refine bb_lc (sd_iload_n hx dX7_allRun_88 rfl) ?_
  refine bb_lc (sd_imul hx dX7_allRun_89) ?_
  refine bb_lc (sd_iadd hx dX7_allRun_90) ?_
  refine bb_lc (sd_iload hx dX7_allRun_91) ?_
  refine bb_lc (sd_iadd hx dX7_allRun_93) ?_
  refine bb_lc (sd_aload_n hx dX7_allRun_94 rfl) ?_
  refine bb_lc (sd_getR (k := 7) (sl := 7) hx dX7_allRun_95 rfl (fun w h => List.mem_cons_of_mem _ (wc_7 w h)) (by decide) (by decide) (List.mem_cons_of_mem _ wd_505) (fun _ h9 => h9) rfl (fun i _ => (by decide))) ?_
  refine bb_lc (sd_iload hx dX7_allRun_98) ?_
  refine bb_lc (sd_iald hx dX7_allRun_100) ?_
  refine bb_lc (sd_iast hx dX7_allRun_101) ?_
  refine bb_lc (sd_iinc hx dX7_allRun_102 (by decide)) ?_
  refine bb_lc (sd_goto hx dX7_allRun_105 (by decide)) ?_
  refine bb_lc (sd_iload_n hx dX7_allRun_108 rfl) ?_
  refine bb_lc (sd_aload_n hx dX7_allRun_109 rfl) ?_
  refine bb_lc (sd_getR (k := 7) (sl := 7) hx dX7_allRun_110 rfl (fun w h => List.mem_cons_of_mem _ (wc_7 w h)) (by decide) (by decide) (List.mem_cons_of_mem _ wd_505) (fun _ h9 => h9) rfl (fun i _ => (by decide))) ?_
  refine bb_lc (sd_iconst hx dX7_allRun_113 (by decide)) ?_
  refine bb_lc (sd_iald hx dX7_allRun_114) ?_
  refine bb_lc (sd_iadd hx dX7_allRun_115) ?_
  refine bb_lc (sd_istore_n hx dX7_allRun_116 rfl) ?_
  refine bb_lc (sd_iinc hx dX7_allRun_117 (by decide)) ?_
  refine bb_lc (sd_goto hx dX7_allRun_120 (by decide)) ?_
  refine bb_lc (sd_aload_n hx dX7_allRun_123 rfl) ?_
  refine bb_lc (sd_getR (k := 7) (sl := 0) hx dX7_allRun_124 rfl (fun w h => List.mem_cons_of_mem _ (wc_7 w h)) (by decide) (by decide) (List.mem_cons_of_mem _ wd_491) (fun _ h9 => h9) rfl (fun i _ => (by decide))) ?_
  refine bb_lc (sd_sipush hx dX7_allRun_127 (by decide)) ?_
  refine bb_lc (sd_dup2 hx dX7_allRun_130) ?_
  refine bb_lc (sd_iald hx dX7_allRun_131) ?_
  refine bb_lc (sd_aload_n hx dX7_allRun_132 rfl) ?_
  refine bb_lc (sd_getR (k := 7) (sl := 0) hx dX7_allRun_133 rfl (fun w h => List.mem_cons_of_mem _ (wc_7 w h)) (by decide) (by decide) (List.mem_cons_of_mem _ wd_491) (fun _ h9 => h9) rfl (fun i _ => (by decide))) ?_
  refine bb_lc (sd_bipush hx dX7_allRun_136 (by decide)) ?_
  refine bb_lc (sd_iald hx dX7_allRun_138) ?_
  refine bb_lc (sd_iadd hx dX7_allRun_139) ?_
  refine bb_lc (sd_iast hx dX7_allRun_140) ?_
  refine bb_lc (sd_aload_n hx dX7_allRun_141 rfl) ?_
  refine bb_lc (sd_getR (k := 7) (sl := 0) hx dX7_allRun_142 rfl (fun w h => List.mem_cons_of_mem _ (wc_7 w h)) (by decide) (by decide) (List.mem_cons_of_mem _ wd_491) (fun _ h9 => h9) rfl (fun i _ => (by decide))) ?_
  refine bb_lc (sd_sipush hx dX7_allRun_145 (by decide)) ?_
  refine bb_lc (sd_dup2 hx dX7_allRun_148) ?_
  refine bb_lc (sd_iald hx dX7_allRun_149) ?_
  refine bb_lc (sd_iload_n hx dX7_allRun_150 rfl) ?_
  refine bb_lc (sd_iadd hx dX7_allRun_151) ?_
  refine bb_lc (sd_iast hx dX7_allRun_152) ?_
  refine bb_lc (sd_aload_n hx dX7_allRun_153 rfl) ?_
  refine bb_lc (sd_getR (k := 7) (sl := 0) hx dX7_allRun_154 rfl (fun w h => List.mem_cons_of_mem _ (wc_7 w h)) (by decide) (by decide) (List.mem_cons_of_mem _ wd_491) (fun _ h9 => h9) rfl (fun i _ => (by decide))) ?_
  refine bb_lc (sd_bipush hx dX7_allRun_157 (by decide)) ?_
  refine bb_lc (sd_iconst hx dX7_allRun_159 (by decide)) ?_
  refine bb_lc (sd_iast hx dX7_allRun_160) ?_
  refine bb_lc (sd_iload_n hx dX7_allRun_161 rfl) ?_
  refine bb_lc (sd_iret hx dX7_allRun_162 hr hlk) ?_
  exact bb_ln
set_option maxRecDepth 20000 in
theorem sn_X7_scours {p : Program} {l : Launch} {e : Env} {R : Room} {s : State} {m : MethodId} {args : Array Value} {below : List Frame} {meth : Method} {c : Code} {D : va_G} {bs : Nat} {ad : Nat → Nat → Nat} {aI aC aS : ClassId} {Rp : bb_P} {C : bb_C} (hx : bb_Cx p s m args c D bs ad aI aC aS cX7_scours RX7 (bb_ws 46)) (hcs : bb_CS l R D bs ad aI aC aS C) (hr : meth.sig.returnType = some .int) (hlk : meth.locks = false) (hRf : 1 ≤ R.frames) (hRl : 36 ≤ R.locals) : ∀ pc, bb_Snd p l e R s m args below meth c D bs ad aI aC aS Rp C pc (cd_X7_scours pc) := by
  unfold cd_X7_scours
  refine bb_lkS (fun pc => sd_fail) ?_
  refine bb_lc (sd_iconst hx dX7_scours_0 (by decide)) ?_
  refine bb_lc (sd_istore_n hx dX7_scours_1 rfl) ?_
  refine bb_lc (sd_iconst hx dX7_scours_2 (by decide)) ?_
  refine bb_lc (sd_istore_n hx dX7_scours_3 rfl) ?_
  refine bb_lc (sd_iload_n hx dX7_scours_4 rfl) ?_
  refine bb_lc (sd_bipush hx dX7_scours_5 (by decide)) ?_
  refine bb_lc (sd_icge hx dX7_scours_7 (by decide)) ?_
  refine bb_lc (sd_aload_n hx dX7_scours_10 rfl) ?_
  refine bb_lc (sd_getR (k := 7) (sl := 9) hx dX7_scours_11 rfl (fun w h => List.mem_cons_of_mem _ (wc_7 w h)) (by decide) (by decide) (List.mem_cons_of_mem _ wd_511) (fun _ h9 => h9) rfl (fun i _ => (by decide))) ?_
  refine bb_lc (sd_iload_n hx dX7_scours_14 rfl) ?_
  refine bb_lc (sd_aload_n hx dX7_scours_15 rfl) ?_
  refine bb_lc (sd_iload_n hx dX7_scours_16 rfl) ?_
  refine bb_lc (sd_bipush hx dX7_scours_17 (by decide)) ?_
  refine bb_lc (sd_idiv hx dX7_scours_19) ?_
  refine bb_lc (sd_iload_n hx dX7_scours_20 rfl) ?_
  refine bb_lc (sd_bipush hx dX7_scours_21 (by decide)) ?_
  refine bb_lc (sd_irem hx dX7_scours_23) ?_
  refine bb_lc (sd_callv hx hcs (fun w h => List.mem_cons_of_mem _ h) dX7_scours_24 wd_512 mV_40) ?_
  refine bb_lc (sd_ifeq hx dX7_scours_27 (by decide)) ?_
  refine bb_lc (sd_iconst hx dX7_scours_30 (by decide)) ?_
  refine bb_lc (sd_goto hx dX7_scours_31 (by decide)) ?_
  refine bb_lc (sd_iconst hx dX7_scours_34 (by decide)) ?_
  refine bb_lc (sd_iast hx dX7_scours_35) ?_
  refine bb_lc (sd_iinc hx dX7_scours_36 (by decide)) ?_
  refine bb_lc (sd_goto hx dX7_scours_39 (by decide)) ?_
  refine bb_lc (sd_iconst hx dX7_scours_42 (by decide)) ?_
  refine bb_lc (sd_istore_n hx dX7_scours_43 rfl) ?_
  refine bb_lc (sd_iload_n hx dX7_scours_44 rfl) ?_
  refine bb_lc (sd_bipush hx dX7_scours_45 (by decide)) ?_
  refine bb_lc (sd_icge hx dX7_scours_47 (by decide)) ?_
  refine bb_lc (sd_iload_n hx dX7_scours_50 rfl) ?_
  refine bb_lc (sd_aload_n hx dX7_scours_51 rfl) ?_
  refine bb_lc (sd_getR (k := 7) (sl := 9) hx dX7_scours_52 rfl (fun w h => List.mem_cons_of_mem _ (wc_7 w h)) (by decide) (by decide) (List.mem_cons_of_mem _ wd_511) (fun _ h9 => h9) rfl (fun i _ => (by decide))) ?_
  refine bb_lc (sd_iload_n hx dX7_scours_55 rfl) ?_
  refine bb_lc (sd_iald hx dX7_scours_56) ?_
  refine bb_lc (sd_iconst hx dX7_scours_57 (by decide)) ?_
  refine bb_lc (sd_icne hx dX7_scours_58 (by decide)) ?_
  refine bb_lc (sd_aload_n hx dX7_scours_61 rfl) ?_
  refine bb_lc (sd_iload_n hx dX7_scours_62 rfl) ?_
  refine bb_lc (sd_bipush hx dX7_scours_63 (by decide)) ?_
  refine bb_lc (sd_idiv hx dX7_scours_65) ?_
  refine bb_lc (sd_iload_n hx dX7_scours_66 rfl) ?_
  refine bb_lc (sd_bipush hx dX7_scours_67 (by decide)) ?_
  refine bb_lc (sd_irem hx dX7_scours_69) ?_
  refine bb_lc (sd_iload_n hx dX7_scours_70 rfl) ?_
  refine bb_lc (sd_bipush hx dX7_scours_71 (by decide)) ?_
  refine bb_lc (sd_irem hx dX7_scours_73) ?_
  refine bb_lc (sd_iconst hx dX7_scours_74 (by decide)) ?_
  refine bb_lc (sd_iadd hx dX7_scours_75) ?_
  refine bb_lc (sd_iconst hx dX7_scours_76 (by decide)) ?_
  refine bb_lc (sd_callv hx hcs (fun w h => List.mem_cons_of_mem _ h) dX7_scours_77 wd_506 mV_41) ?_
  refine bb_lc (sd_goto hx dX7_scours_80 (by decide)) ?_
  refine bb_lc (sd_iconst hx dX7_scours_83 (by decide)) ?_
  refine bb_lc (sd_iadd hx dX7_scours_84) ?_
  refine bb_lc (sd_istore_n hx dX7_scours_85 rfl) ?_
  refine bb_lc (sd_iinc hx dX7_scours_86 (by decide)) ?_
  refine bb_lc (sd_goto hx dX7_scours_89 (by decide)) ?_
  refine bb_lc (sd_aload_n hx dX7_scours_92 rfl) ?_
  refine bb_lc (sd_getR (k := 7) (sl := 0) hx dX7_scours_93 rfl (fun w h => List.mem_cons_of_mem _ (wc_7 w h)) (by decide) (by decide) (List.mem_cons_of_mem _ wd_491) (fun _ h9 => h9) rfl (fun i _ => (by decide))) ?_
  refine bb_lc (sd_sipush hx dX7_scours_96 (by decide)) ?_
  refine bb_lc (sd_dup2 hx dX7_scours_99) ?_
  refine bb_lc (sd_iald hx dX7_scours_100) ?_
  refine bb_lc (sd_iload_n hx dX7_scours_101 rfl) ?_
  refine bb_lc (sd_iadd hx dX7_scours_102) ?_
  refine bb_lc (sd_iast hx dX7_scours_103) ?_
  refine bb_lc (sd_iload_n hx dX7_scours_104 rfl) ?_
  refine bb_lc (sd_iret hx dX7_scours_105 hr hlk) ?_
  exact bb_ln
set_option maxRecDepth 20000 in
theorem sn_X7_slumps {p : Program} {l : Launch} {e : Env} {R : Room} {s : State} {m : MethodId} {args : Array Value} {below : List Frame} {meth : Method} {c : Code} {D : va_G} {bs : Nat} {ad : Nat → Nat → Nat} {aI aC aS : ClassId} {Rp : bb_P} {C : bb_C} (hx : bb_Cx p s m args c D bs ad aI aC aS cX7_slumps RX7 (bb_ws 47)) (hcs : bb_CS l R D bs ad aI aC aS C) (hr : meth.sig.returnType = some .int) (hlk : meth.locks = false) (hRf : 1 ≤ R.frames) (hRl : 36 ≤ R.locals) : ∀ pc, bb_Snd p l e R s m args below meth c D bs ad aI aC aS Rp C pc (cd_X7_slumps pc) := by
  unfold cd_X7_slumps
  refine bb_lkS (fun pc => sd_fail) ?_
  refine bb_lc (sd_iconst hx dX7_slumps_0 (by decide)) ?_
  refine bb_lc (sd_istore_n hx dX7_slumps_1 rfl) ?_
  refine bb_lc (sd_iconst hx dX7_slumps_2 (by decide)) ?_
  refine bb_lc (sd_istore_n hx dX7_slumps_3 rfl) ?_
  refine bb_lc (sd_iload_n hx dX7_slumps_4 rfl) ?_
  refine bb_lc (sd_iload_n hx dX7_slumps_5 rfl) ?_
  refine bb_lc (sd_iceq hx dX7_slumps_6 (by decide)) ?_
  refine bb_lc (sd_iload_n hx dX7_slumps_9 rfl) ?_
  refine bb_lc (sd_istore_n hx dX7_slumps_10 rfl) ?_
  refine bb_lc (sd_iconst hx dX7_slumps_11 (by decide)) ?_
  refine bb_lc (sd_istore_n hx dX7_slumps_12 rfl) ?_
  refine bb_lc (sd_iload_n hx dX7_slumps_13 rfl) ?_
  refine bb_lc (sd_bipush hx dX7_slumps_14 (by decide)) ?_
  refine bb_lc (sd_icge hx dX7_slumps_16 (by decide)) ?_
  refine bb_lc (sd_iload_n hx dX7_slumps_19 rfl) ?_
  refine bb_lc (sd_bipush hx dX7_slumps_20 (by decide)) ?_
  refine bb_lc (sd_irem hx dX7_slumps_22) ?_
  refine bb_lc (sd_istore hx dX7_slumps_23) ?_
  refine bb_lc (sd_iload hx dX7_slumps_25) ?_
  refine bb_lc (sd_bipush hx dX7_slumps_27 (by decide)) ?_
  refine bb_lc (sd_icne hx dX7_slumps_29 (by decide)) ?_
  refine bb_lc (sd_iconst hx dX7_slumps_32 (by decide)) ?_
  refine bb_lc (sd_goto hx dX7_slumps_33 (by decide)) ?_
  refine bb_lc (sd_aload_n hx dX7_slumps_36 rfl) ?_
  refine bb_lc (sd_getR (k := 7) (sl := 0) hx dX7_slumps_37 rfl (fun w h => List.mem_cons_of_mem _ (wc_7 w h)) (by decide) (by decide) (List.mem_cons_of_mem _ wd_491) (fun _ h9 => h9) rfl (fun i _ => (by decide))) ?_
  refine bb_lc (sd_iload_n hx dX7_slumps_40 rfl) ?_
  refine bb_lc (sd_iald hx dX7_slumps_41) ?_
  refine bb_lc (sd_aload_n hx dX7_slumps_42 rfl) ?_
  refine bb_lc (sd_getR (k := 7) (sl := 0) hx dX7_slumps_43 rfl (fun w h => List.mem_cons_of_mem _ (wc_7 w h)) (by decide) (by decide) (List.mem_cons_of_mem _ wd_491) (fun _ h9 => h9) rfl (fun i _ => (by decide))) ?_
  refine bb_lc (sd_iload_n hx dX7_slumps_46 rfl) ?_
  refine bb_lc (sd_iconst hx dX7_slumps_47 (by decide)) ?_
  refine bb_lc (sd_iadd hx dX7_slumps_48) ?_
  refine bb_lc (sd_iald hx dX7_slumps_49) ?_
  refine bb_lc (sd_isub hx dX7_slumps_50) ?_
  refine bb_lc (sd_istore hx dX7_slumps_51) ?_
  refine bb_lc (sd_iload hx dX7_slumps_53) ?_
  refine bb_lc (sd_aload_n hx dX7_slumps_55 rfl) ?_
  refine bb_lc (sd_getR (k := 7) (sl := 0) hx dX7_slumps_56 rfl (fun w h => List.mem_cons_of_mem _ (wc_7 w h)) (by decide) (by decide) (List.mem_cons_of_mem _ wd_491) (fun _ h9 => h9) rfl (fun i _ => (by decide))) ?_
  refine bb_lc (sd_bipush hx dX7_slumps_59 (by decide)) ?_
  refine bb_lc (sd_iald hx dX7_slumps_61) ?_
  refine bb_lc (sd_icle hx dX7_slumps_62 (by decide)) ?_
  refine bb_lc (sd_iload_n hx dX7_slumps_65 rfl) ?_
  refine bb_lc (sd_aload_n hx dX7_slumps_66 rfl) ?_
  refine bb_lc (sd_iload_n hx dX7_slumps_67 rfl) ?_
  refine bb_lc (sd_bipush hx dX7_slumps_68 (by decide)) ?_
  refine bb_lc (sd_idiv hx dX7_slumps_70) ?_
  refine bb_lc (sd_iload hx dX7_slumps_71) ?_
  refine bb_lc (sd_iload hx dX7_slumps_73) ?_
  refine bb_lc (sd_iconst hx dX7_slumps_75 (by decide)) ?_
  refine bb_lc (sd_iadd hx dX7_slumps_76) ?_
  refine bb_lc (sd_iconst hx dX7_slumps_77 (by decide)) ?_
  refine bb_lc (sd_callv hx hcs (fun w h => List.mem_cons_of_mem _ h) dX7_slumps_78 wd_506 mV_41) ?_
  refine bb_lc (sd_iadd hx dX7_slumps_81) ?_
  refine bb_lc (sd_istore_n hx dX7_slumps_82 rfl) ?_
  refine bb_lc (sd_goto hx dX7_slumps_83 (by decide)) ?_
  refine bb_lc (sd_iload hx dX7_slumps_86) ?_
  refine bb_lc (sd_ineg hx dX7_slumps_88) ?_
  refine bb_lc (sd_aload_n hx dX7_slumps_89 rfl) ?_
  refine bb_lc (sd_getR (k := 7) (sl := 0) hx dX7_slumps_90 rfl (fun w h => List.mem_cons_of_mem _ (wc_7 w h)) (by decide) (by decide) (List.mem_cons_of_mem _ wd_491) (fun _ h9 => h9) rfl (fun i _ => (by decide))) ?_
  refine bb_lc (sd_bipush hx dX7_slumps_93 (by decide)) ?_
  refine bb_lc (sd_iald hx dX7_slumps_95) ?_
  refine bb_lc (sd_icle hx dX7_slumps_96 (by decide)) ?_
  refine bb_lc (sd_iload_n hx dX7_slumps_99 rfl) ?_
  refine bb_lc (sd_aload_n hx dX7_slumps_100 rfl) ?_
  refine bb_lc (sd_iload_n hx dX7_slumps_101 rfl) ?_
  refine bb_lc (sd_bipush hx dX7_slumps_102 (by decide)) ?_
  refine bb_lc (sd_idiv hx dX7_slumps_104) ?_
  refine bb_lc (sd_iload hx dX7_slumps_105) ?_
  refine bb_lc (sd_iconst hx dX7_slumps_107 (by decide)) ?_
  refine bb_lc (sd_iadd hx dX7_slumps_108) ?_
  refine bb_lc (sd_iload hx dX7_slumps_109) ?_
  refine bb_lc (sd_iconst hx dX7_slumps_111 (by decide)) ?_
  refine bb_lc (sd_callv hx hcs (fun w h => List.mem_cons_of_mem _ h) dX7_slumps_112 wd_506 mV_41) ?_
  refine bb_lc (sd_iadd hx dX7_slumps_115) ?_
  refine bb_lc (sd_istore_n hx dX7_slumps_116 rfl) ?_
  refine bb_lc (sd_iinc hx dX7_slumps_117 (by decide)) ?_
  refine bb_lc (sd_goto hx dX7_slumps_120 (by decide)) ?_
  refine bb_lc (sd_goto hx dX7_slumps_123 (by decide)) ?_
  refine bb_lc (sd_aload_n hx dX7_slumps_126 rfl) ?_
  refine bb_lc (sd_getR (k := 7) (sl := 0) hx dX7_slumps_127 rfl (fun w h => List.mem_cons_of_mem _ (wc_7 w h)) (by decide) (by decide) (List.mem_cons_of_mem _ wd_491) (fun _ h9 => h9) rfl (fun i _ => (by decide))) ?_
  refine bb_lc (sd_sipush hx dX7_slumps_130 (by decide)) ?_
  refine bb_lc (sd_dup2 hx dX7_slumps_133) ?_
  refine bb_lc (sd_iald hx dX7_slumps_134) ?_
  refine bb_lc (sd_iload_n hx dX7_slumps_135 rfl) ?_
  refine bb_lc (sd_iadd hx dX7_slumps_136) ?_
  refine bb_lc (sd_iast hx dX7_slumps_137) ?_
  refine bb_lc (sd_iload_n hx dX7_slumps_138 rfl) ?_
  refine bb_lc (sd_iret hx dX7_slumps_139 hr hlk) ?_
  exact bb_ln
set_option maxRecDepth 20000 in
theorem sn_X7_dump {p : Program} {l : Launch} {e : Env} {R : Room} {s : State} {m : MethodId} {args : Array Value} {below : List Frame} {meth : Method} {c : Code} {D : va_G} {bs : Nat} {ad : Nat → Nat → Nat} {aI aC aS : ClassId} {Rp : bb_P} {C : bb_C} (hx : bb_Cx p s m args c D bs ad aI aC aS cX7_dump RX7 (bb_ws 48)) (hcs : bb_CS l R D bs ad aI aC aS C) (hr : meth.sig.returnType = some .int) (hlk : meth.locks = false) (hRf : 1 ≤ R.frames) (hRl : 36 ≤ R.locals) : ∀ pc, bb_Snd p l e R s m args below meth c D bs ad aI aC aS Rp C pc (cd_X7_dump pc) := by
  unfold cd_X7_dump
  refine bb_lkS (fun pc => sd_fail) ?_
  refine bb_lc (sd_iload_n hx dX7_dump_0 rfl) ?_
  refine bb_lc (sd_call hx hcs (fun w h => List.mem_cons_of_mem _ h) dX7_dump_1 wd_502 mS_33) ?_
  refine bb_lc (sd_ifeq hx dX7_dump_4 (by decide)) ?_
  refine bb_lc (sd_iload_n hx dX7_dump_7 rfl) ?_
  refine bb_lc (sd_call hx hcs (fun w h => List.mem_cons_of_mem _ h) dX7_dump_8 wd_513 mS_34) ?_
  refine bb_lc (sd_ifne hx dX7_dump_11 (by decide)) ?_
  refine bb_lc (sd_sipush hx dX7_dump_14 (by decide)) ?_
  refine bb_lc (sd_iret hx dX7_dump_17 hr hlk) ?_
  refine bb_lc (sd_iload_n hx dX7_dump_18 rfl) ?_
  refine bb_lc (sd_i2l hx dX7_dump_19) ?_
  refine bb_lc (sd_lconst hx dX7_dump_20 (by decide)) ?_
  refine bb_lc (sd_ldc2 hx dX7_dump_21 (List.mem_cons_of_mem _ wd_514)) ?_
  refine bb_lc (sd_callJ hx hcs (fun w h => List.mem_cons_of_mem _ h) dX7_dump_24 wd_495 mS_0) ?_
  refine bb_lc (sd_ifne hx dX7_dump_27 (by decide)) ?_
  refine bb_lc (sd_sipush hx dX7_dump_30 (by decide)) ?_
  refine bb_lc (sd_iret hx dX7_dump_33 hr hlk) ?_
  refine bb_lc (sd_aload_n hx dX7_dump_34 rfl) ?_
  refine bb_lc (sd_iload_n hx dX7_dump_35 rfl) ?_
  refine bb_lc (sd_iload_n hx dX7_dump_36 rfl) ?_
  refine bb_lc (sd_callv hx hcs (fun w h => List.mem_cons_of_mem _ h) dX7_dump_37 wd_498 mV_35) ?_
  refine bb_lc (sd_istore hx dX7_dump_40) ?_
  refine bb_lc (sd_iload hx dX7_dump_42) ?_
  refine bb_lc (sd_iload_n hx dX7_dump_44 rfl) ?_
  refine bb_lc (sd_icne hx dX7_dump_45 (by decide)) ?_
  refine bb_lc (sd_sipush hx dX7_dump_48 (by decide)) ?_
  refine bb_lc (sd_iret hx dX7_dump_51 hr hlk) ?_
  refine bb_lc (sd_aload_n hx dX7_dump_52 rfl) ?_
  refine bb_lc (sd_callv hx hcs (fun w h => List.mem_cons_of_mem _ h) dX7_dump_53 wd_515 mV_31) ?_
  refine bb_lc (sd_aload_n hx dX7_dump_56 rfl) ?_
  refine bb_lc (sd_getR (k := 7) (sl := 0) hx dX7_dump_57 rfl (fun w h => List.mem_cons_of_mem _ (wc_7 w h)) (by decide) (by decide) (List.mem_cons_of_mem _ wd_491) (fun _ h9 => h9) rfl (fun i _ => (by decide))) ?_
  refine bb_lc (sd_bipush hx dX7_dump_60 (by decide)) ?_
  refine bb_lc (sd_iload_n hx dX7_dump_62 rfl) ?_
  refine bb_lc (sd_imul hx dX7_dump_63) ?_
  refine bb_lc (sd_iload_n hx dX7_dump_64 rfl) ?_
  refine bb_lc (sd_iadd hx dX7_dump_65) ?_
  refine bb_lc (sd_iload_n hx dX7_dump_66 rfl) ?_
  refine bb_lc (sd_iast hx dX7_dump_67) ?_
  refine bb_lc (sd_aload_n hx dX7_dump_68 rfl) ?_
  refine bb_lc (sd_getR (k := 7) (sl := 0) hx dX7_dump_69 rfl (fun w h => List.mem_cons_of_mem _ (wc_7 w h)) (by decide) (by decide) (List.mem_cons_of_mem _ wd_491) (fun _ h9 => h9) rfl (fun i _ => (by decide))) ?_
  refine bb_lc (sd_sipush hx dX7_dump_72 (by decide)) ?_
  refine bb_lc (sd_dup2 hx dX7_dump_75) ?_
  refine bb_lc (sd_iald hx dX7_dump_76) ?_
  refine bb_lc (sd_iload_n hx dX7_dump_77 rfl) ?_
  refine bb_lc (sd_iload hx dX7_dump_78) ?_
  refine bb_lc (sd_icle hx dX7_dump_80 (by decide)) ?_
  refine bb_lc (sd_iload_n hx dX7_dump_83 rfl) ?_
  refine bb_lc (sd_iload hx dX7_dump_84) ?_
  refine bb_lc (sd_isub hx dX7_dump_86) ?_
  refine bb_lc (sd_goto hx dX7_dump_87 (by decide)) ?_
  refine bb_lc (sd_iconst hx dX7_dump_90 (by decide)) ?_
  refine bb_lc (sd_iadd hx dX7_dump_91) ?_
  refine bb_lc (sd_iast hx dX7_dump_92) ?_
  refine bb_lc (sd_aload_n hx dX7_dump_93 rfl) ?_
  refine bb_lc (sd_getR (k := 7) (sl := 0) hx dX7_dump_94 rfl (fun w h => List.mem_cons_of_mem _ (wc_7 w h)) (by decide) (by decide) (List.mem_cons_of_mem _ wd_491) (fun _ h9 => h9) rfl (fun i _ => (by decide))) ?_
  refine bb_lc (sd_sipush hx dX7_dump_97 (by decide)) ?_
  refine bb_lc (sd_dup2 hx dX7_dump_100) ?_
  refine bb_lc (sd_iald hx dX7_dump_101) ?_
  refine bb_lc (sd_iload_n hx dX7_dump_102 rfl) ?_
  refine bb_lc (sd_iload hx dX7_dump_103) ?_
  refine bb_lc (sd_icge hx dX7_dump_105 (by decide)) ?_
  refine bb_lc (sd_iload hx dX7_dump_108) ?_
  refine bb_lc (sd_iload_n hx dX7_dump_110 rfl) ?_
  refine bb_lc (sd_isub hx dX7_dump_111) ?_
  refine bb_lc (sd_goto hx dX7_dump_112 (by decide)) ?_
  refine bb_lc (sd_iconst hx dX7_dump_115 (by decide)) ?_
  refine bb_lc (sd_iadd hx dX7_dump_116) ?_
  refine bb_lc (sd_iast hx dX7_dump_117) ?_
  refine bb_lc (sd_aload_n hx dX7_dump_118 rfl) ?_
  refine bb_lc (sd_iload hx dX7_dump_119) ?_
  refine bb_lc (sd_callv hx hcs (fun w h => List.mem_cons_of_mem _ h) dX7_dump_121 wd_516 mV_32) ?_
  refine bb_lc (sd_iret hx dX7_dump_124 hr hlk) ?_
  exact bb_ln
set_option maxRecDepth 20000 in
theorem sn_X7_sets {p : Program} {l : Launch} {e : Env} {R : Room} {s : State} {m : MethodId} {args : Array Value} {below : List Frame} {meth : Method} {c : Code} {D : va_G} {bs : Nat} {ad : Nat → Nat → Nat} {aI aC aS : ClassId} {Rp : bb_P} {C : bb_C} (hx : bb_Cx p s m args c D bs ad aI aC aS cX7_sets RX7 (bb_ws 49)) (hcs : bb_CS l R D bs ad aI aC aS C) (hr : meth.sig.returnType = some .int) (hlk : meth.locks = false) (hRf : 1 ≤ R.frames) (hRl : 36 ≤ R.locals) : ∀ pc, bb_Snd p l e R s m args below meth c D bs ad aI aC aS Rp C pc (cd_X7_sets pc) := by
  unfold cd_X7_sets
  refine bb_lkS (fun pc => sd_fail) ?_
  refine bb_lc (sd_aload_n hx dX7_sets_0 rfl) ?_
  refine bb_lc (sd_getR (k := 7) (sl := 0) hx dX7_sets_1 rfl (fun w h => List.mem_cons_of_mem _ (wc_7 w h)) (by decide) (by decide) (List.mem_cons_of_mem _ wd_491) (fun _ h9 => h9) rfl (fun i _ => (by decide))) ?_
  refine bb_lc (sd_iload_n hx dX7_sets_4 rfl) ?_
  refine bb_lc (sd_iald hx dX7_sets_5) ?_
  refine bb_lc (sd_istore_n hx dX7_sets_6 rfl) ?_
  refine bb_lc (sd_iload_n hx dX7_sets_7 rfl) ?_
  refine bb_lc (sd_iload_n hx dX7_sets_8 rfl) ?_
  refine bb_lc (sd_icne hx dX7_sets_9 (by decide)) ?_
  refine bb_lc (sd_sipush hx dX7_sets_12 (by decide)) ?_
  refine bb_lc (sd_iret hx dX7_sets_15 hr hlk) ?_
  refine bb_lc (sd_aload_n hx dX7_sets_16 rfl) ?_
  refine bb_lc (sd_callv hx hcs (fun w h => List.mem_cons_of_mem _ h) dX7_sets_17 wd_515 mV_31) ?_
  refine bb_lc (sd_aload_n hx dX7_sets_20 rfl) ?_
  refine bb_lc (sd_getR (k := 7) (sl := 0) hx dX7_sets_21 rfl (fun w h => List.mem_cons_of_mem _ (wc_7 w h)) (by decide) (by decide) (List.mem_cons_of_mem _ wd_491) (fun _ h9 => h9) rfl (fun i _ => (by decide))) ?_
  refine bb_lc (sd_iload_n hx dX7_sets_24 rfl) ?_
  refine bb_lc (sd_iload_n hx dX7_sets_25 rfl) ?_
  refine bb_lc (sd_iast hx dX7_sets_26) ?_
  refine bb_lc (sd_aload_n hx dX7_sets_27 rfl) ?_
  refine bb_lc (sd_iload_n hx dX7_sets_28 rfl) ?_
  refine bb_lc (sd_callv hx hcs (fun w h => List.mem_cons_of_mem _ h) dX7_sets_29 wd_516 mV_32) ?_
  refine bb_lc (sd_iret hx dX7_sets_32 hr hlk) ?_
  exact bb_ln
set_option maxRecDepth 20000 in
theorem sn_X7_setLevel {p : Program} {l : Launch} {e : Env} {R : Room} {s : State} {m : MethodId} {args : Array Value} {below : List Frame} {meth : Method} {c : Code} {D : va_G} {bs : Nat} {ad : Nat → Nat → Nat} {aI aC aS : ClassId} {Rp : bb_P} {C : bb_C} (hx : bb_Cx p s m args c D bs ad aI aC aS cX7_setLevel RX7 (bb_ws 50)) (hcs : bb_CS l R D bs ad aI aC aS C) (hr : meth.sig.returnType = some .int) (hlk : meth.locks = false) (hRf : 1 ≤ R.frames) (hRl : 36 ≤ R.locals) : ∀ pc, bb_Snd p l e R s m args below meth c D bs ad aI aC aS Rp C pc (cd_X7_setLevel pc) := by
  unfold cd_X7_setLevel
  refine bb_lkS (fun pc => sd_fail) ?_
  refine bb_lc (sd_iload_n hx dX7_setLevel_0 rfl) ?_
  refine bb_lc (sd_i2l hx dX7_setLevel_1) ?_
  refine bb_lc (sd_ldc2 hx dX7_setLevel_2 (List.mem_cons_of_mem _ wd_517)) ?_
  refine bb_lc (sd_ldc2 hx dX7_setLevel_5 (List.mem_cons_of_mem _ wd_518)) ?_
  refine bb_lc (sd_callJ hx hcs (fun w h => List.mem_cons_of_mem _ h) dX7_setLevel_8 wd_495 mS_0) ?_
  refine bb_lc (sd_ifeq hx dX7_setLevel_11 (by decide)) ?_
  refine bb_lc (sd_aload_n hx dX7_setLevel_14 rfl) ?_
  refine bb_lc (sd_bipush hx dX7_setLevel_15 (by decide)) ?_
  refine bb_lc (sd_iload_n hx dX7_setLevel_17 rfl) ?_
  refine bb_lc (sd_callv hx hcs (fun w h => List.mem_cons_of_mem _ h) dX7_setLevel_18 wd_519 mV_49) ?_
  refine bb_lc (sd_goto hx dX7_setLevel_21 (by decide)) ?_
  refine bb_lc (sd_sipush hx dX7_setLevel_24 (by decide)) ?_
  refine bb_lc (sd_iret hx dX7_setLevel_27 hr hlk) ?_
  exact bb_ln
set_option maxRecDepth 20000 in
theorem sn_X7_isSetting {p : Program} {l : Launch} {e : Env} {R : Room} {s : State} {m : MethodId} {args : Array Value} {below : List Frame} {meth : Method} {c : Code} {D : va_G} {bs : Nat} {ad : Nat → Nat → Nat} {aI aC aS : ClassId} {Rp : bb_P} {C : bb_C} (hx : bb_Cx p s m args c D bs ad aI aC aS cX7_isSetting RX7 (bb_ws 51)) (hcs : bb_CS l R D bs ad aI aC aS C) (hr : meth.sig.returnType = some .boolean) (hlk : meth.locks = false) (hRf : 1 ≤ R.frames) (hRl : 36 ≤ R.locals) : ∀ pc, bb_Snd p l e R s m args below meth c D bs ad aI aC aS Rp C pc (cd_X7_isSetting pc) := by
  unfold cd_X7_isSetting
  refine bb_lkS (fun pc => sd_fail) ?_
  refine bb_lc (sd_iload_n hx dX7_isSetting_0 rfl) ?_
  refine bb_lc (sd_tsw hx dX7_isSetting_1 (by decide) (by decide) (by decide)) ?_
  refine bb_lc (sd_iload_n hx dX7_isSetting_28 rfl) ?_
  refine bb_lc (sd_i2l hx dX7_isSetting_29) ?_
  refine bb_lc (sd_lconst hx dX7_isSetting_30 (by decide)) ?_
  refine bb_lc (sd_ldc2 hx dX7_isSetting_31 (List.mem_cons_of_mem _ wd_517)) ?_
  refine bb_lc (sd_callJ hx hcs (fun w h => List.mem_cons_of_mem _ h) dX7_isSetting_34 wd_495 mS_0) ?_
  refine bb_lc (sd_zret hx dX7_isSetting_37 hr hlk) ?_
  refine bb_lc (sd_iload_n hx dX7_isSetting_38 rfl) ?_
  refine bb_lc (sd_i2l hx dX7_isSetting_39) ?_
  refine bb_lc (sd_lconst hx dX7_isSetting_40 (by decide)) ?_
  refine bb_lc (sd_ldc2 hx dX7_isSetting_41 (List.mem_cons_of_mem _ wd_520)) ?_
  refine bb_lc (sd_callJ hx hcs (fun w h => List.mem_cons_of_mem _ h) dX7_isSetting_44 wd_495 mS_0) ?_
  refine bb_lc (sd_zret hx dX7_isSetting_47 hr hlk) ?_
  refine bb_lc (sd_iload_n hx dX7_isSetting_48 rfl) ?_
  refine bb_lc (sd_iconst hx dX7_isSetting_49 (by decide)) ?_
  refine bb_lc (sd_icne hx dX7_isSetting_50 (by decide)) ?_
  refine bb_lc (sd_iload_n hx dX7_isSetting_53 rfl) ?_
  refine bb_lc (sd_i2l hx dX7_isSetting_54) ?_
  refine bb_lc (sd_ldc2 hx dX7_isSetting_55 (List.mem_cons_of_mem _ wd_521)) ?_
  refine bb_lc (sd_ldc2 hx dX7_isSetting_58 (List.mem_cons_of_mem _ wd_522)) ?_
  refine bb_lc (sd_callJ hx hcs (fun w h => List.mem_cons_of_mem _ h) dX7_isSetting_61 wd_495 mS_0) ?_
  refine bb_lc (sd_ifeq hx dX7_isSetting_64 (by decide)) ?_
  refine bb_lc (sd_iconst hx dX7_isSetting_67 (by decide)) ?_
  refine bb_lc (sd_goto hx dX7_isSetting_68 (by decide)) ?_
  refine bb_lc (sd_iconst hx dX7_isSetting_71 (by decide)) ?_
  refine bb_lc (sd_zret hx dX7_isSetting_72 hr hlk) ?_
  exact bb_ln
set_option maxRecDepth 20000 in
theorem sn_X7_set {p : Program} {l : Launch} {e : Env} {R : Room} {s : State} {m : MethodId} {args : Array Value} {below : List Frame} {meth : Method} {c : Code} {D : va_G} {bs : Nat} {ad : Nat → Nat → Nat} {aI aC aS : ClassId} {Rp : bb_P} {C : bb_C} (hx : bb_Cx p s m args c D bs ad aI aC aS cX7_set RX7 (bb_ws 52)) (hcs : bb_CS l R D bs ad aI aC aS C) (hr : meth.sig.returnType = some .int) (hlk : meth.locks = false) (hRf : 1 ≤ R.frames) (hRl : 36 ≤ R.locals) : ∀ pc, bb_Snd p l e R s m args below meth c D bs ad aI aC aS Rp C pc (cd_X7_set pc) := by
  unfold cd_X7_set
  refine bb_lkS (fun pc => sd_fail) ?_
  refine bb_lc (sd_iload_n hx dX7_set_0 rfl) ?_
  refine bb_lc (sd_iload_n hx dX7_set_1 rfl) ?_
  refine bb_lc (sd_call hx hcs (fun w h => List.mem_cons_of_mem _ h) dX7_set_2 wd_523 mS_51) ?_
  refine bb_lc (sd_ifeq hx dX7_set_5 (by decide)) ?_
  refine bb_lc (sd_aload_n hx dX7_set_8 rfl) ?_
  refine bb_lc (sd_bipush hx dX7_set_9 (by decide)) ?_
  refine bb_lc (sd_iload_n hx dX7_set_11 rfl) ?_
  refine bb_lc (sd_iadd hx dX7_set_12) ?_
  refine bb_lc (sd_iload_n hx dX7_set_13 rfl) ?_
  refine bb_lc (sd_callv hx hcs (fun w h => List.mem_cons_of_mem _ h) dX7_set_14 wd_519 mV_49) ?_
  refine bb_lc (sd_goto hx dX7_set_17 (by decide)) ?_
  refine bb_lc (sd_sipush hx dX7_set_20 (by decide)) ?_
  refine bb_lc (sd_iret hx dX7_set_23 hr hlk) ?_
  exact bb_ln
set_option maxRecDepth 20000 in
theorem sn_X7_isHeight {p : Program} {l : Launch} {e : Env} {R : Room} {s : State} {m : MethodId} {args : Array Value} {below : List Frame} {meth : Method} {c : Code} {D : va_G} {bs : Nat} {ad : Nat → Nat → Nat} {aI aC aS : ClassId} {Rp : bb_P} {C : bb_C} (hx : bb_Cx p s m args c D bs ad aI aC aS cX7_isHeight RX7 (bb_ws 53)) (hcs : bb_CS l R D bs ad aI aC aS C) (hr : meth.sig.returnType = some .boolean) (hlk : meth.locks = false) (hRf : 1 ≤ R.frames) (hRl : 36 ≤ R.locals) : ∀ pc, bb_Snd p l e R s m args below meth c D bs ad aI aC aS Rp C pc (cd_X7_isHeight pc) := by
  unfold cd_X7_isHeight
  refine bb_lkS (fun pc => sd_fail) ?_
  refine bb_lc (sd_iload_n hx dX7_isHeight_0 rfl) ?_
  refine bb_lc (sd_i2l hx dX7_isHeight_1) ?_
  refine bb_lc (sd_lconst hx dX7_isHeight_2 (by decide)) ?_
  refine bb_lc (sd_ldc2 hx dX7_isHeight_3 (List.mem_cons_of_mem _ wd_517)) ?_
  refine bb_lc (sd_callJ hx hcs (fun w h => List.mem_cons_of_mem _ h) dX7_isHeight_6 wd_495 mS_0) ?_
  refine bb_lc (sd_zret hx dX7_isHeight_9 hr hlk) ?_
  exact bb_ln
set_option maxRecDepth 20000 in
theorem sn_X7_puts {p : Program} {l : Launch} {e : Env} {R : Room} {s : State} {m : MethodId} {args : Array Value} {below : List Frame} {meth : Method} {c : Code} {D : va_G} {bs : Nat} {ad : Nat → Nat → Nat} {aI aC aS : ClassId} {Rp : bb_P} {C : bb_C} (hx : bb_Cx p s m args c D bs ad aI aC aS cX7_puts RX7 (bb_ws 54)) (hcs : bb_CS l R D bs ad aI aC aS C) (hr : meth.sig.returnType = none) (hlk : meth.locks = false) (hRf : 1 ≤ R.frames) (hRl : 36 ≤ R.locals) : ∀ pc, bb_Snd p l e R s m args below meth c D bs ad aI aC aS Rp C pc (cd_X7_puts pc) := by
  unfold cd_X7_puts
  refine bb_lkS (fun pc => sd_fail) ?_
  refine bb_lc (sd_aload_n hx dX7_puts_0 rfl) ?_
  refine bb_lc (sd_getR (k := 7) (sl := 0) hx dX7_puts_1 rfl (fun w h => List.mem_cons_of_mem _ (wc_7 w h)) (by decide) (by decide) (List.mem_cons_of_mem _ wd_491) (fun _ h9 => h9) rfl (fun i _ => (by decide))) ?_
  refine bb_lc (sd_bipush hx dX7_puts_4 (by decide)) ?_
  refine bb_lc (sd_iconst hx dX7_puts_6 (by decide)) ?_
  refine bb_lc (sd_aload_n hx dX7_puts_7 rfl) ?_
  refine bb_lc (sd_getR (k := 7) (sl := 0) hx dX7_puts_8 rfl (fun w h => List.mem_cons_of_mem _ (wc_7 w h)) (by decide) (by decide) (List.mem_cons_of_mem _ wd_491) (fun _ h9 => h9) rfl (fun i _ => (by decide))) ?_
  refine bb_lc (sd_bipush hx dX7_puts_11 (by decide)) ?_
  refine bb_lc (sd_iald hx dX7_puts_13) ?_
  refine bb_lc (sd_imul hx dX7_puts_14) ?_
  refine bb_lc (sd_iadd hx dX7_puts_15) ?_
  refine bb_lc (sd_iload_n hx dX7_puts_16 rfl) ?_
  refine bb_lc (sd_iast hx dX7_puts_17) ?_
  refine bb_lc (sd_aload_n hx dX7_puts_18 rfl) ?_
  refine bb_lc (sd_getR (k := 7) (sl := 0) hx dX7_puts_19 rfl (fun w h => List.mem_cons_of_mem _ (wc_7 w h)) (by decide) (by decide) (List.mem_cons_of_mem _ wd_491) (fun _ h9 => h9) rfl (fun i _ => (by decide))) ?_
  refine bb_lc (sd_bipush hx dX7_puts_22 (by decide)) ?_
  refine bb_lc (sd_iconst hx dX7_puts_24 (by decide)) ?_
  refine bb_lc (sd_aload_n hx dX7_puts_25 rfl) ?_
  refine bb_lc (sd_getR (k := 7) (sl := 0) hx dX7_puts_26 rfl (fun w h => List.mem_cons_of_mem _ (wc_7 w h)) (by decide) (by decide) (List.mem_cons_of_mem _ wd_491) (fun _ h9 => h9) rfl (fun i _ => (by decide))) ?_
  refine bb_lc (sd_bipush hx dX7_puts_29 (by decide)) ?_
  refine bb_lc (sd_iald hx dX7_puts_31) ?_
  refine bb_lc (sd_imul hx dX7_puts_32) ?_
  refine bb_lc (sd_iadd hx dX7_puts_33) ?_
  refine bb_lc (sd_iconst hx dX7_puts_34 (by decide)) ?_
  refine bb_lc (sd_iadd hx dX7_puts_35) ?_
  refine bb_lc (sd_iload_n hx dX7_puts_36 rfl) ?_
  refine bb_lc (sd_iast hx dX7_puts_37) ?_
  refine bb_lc (sd_aload_n hx dX7_puts_38 rfl) ?_
  refine bb_lc (sd_getR (k := 7) (sl := 0) hx dX7_puts_39 rfl (fun w h => List.mem_cons_of_mem _ (wc_7 w h)) (by decide) (by decide) (List.mem_cons_of_mem _ wd_491) (fun _ h9 => h9) rfl (fun i _ => (by decide))) ?_
  refine bb_lc (sd_bipush hx dX7_puts_42 (by decide)) ?_
  refine bb_lc (sd_dup2 hx dX7_puts_44) ?_
  refine bb_lc (sd_iald hx dX7_puts_45) ?_
  refine bb_lc (sd_iconst hx dX7_puts_46 (by decide)) ?_
  refine bb_lc (sd_iadd hx dX7_puts_47) ?_
  refine bb_lc (sd_iast hx dX7_puts_48) ?_
  refine bb_lc (sd_ret hx dX7_puts_49 hr hlk) ?_
  exact bb_ln
set_option maxRecDepth 20000 in
theorem sn_X7_wave {p : Program} {l : Launch} {e : Env} {R : Room} {s : State} {m : MethodId} {args : Array Value} {below : List Frame} {meth : Method} {c : Code} {D : va_G} {bs : Nat} {ad : Nat → Nat → Nat} {aI aC aS : ClassId} {Rp : bb_P} {C : bb_C} (hx : bb_Cx p s m args c D bs ad aI aC aS cX7_wave RX7 (bb_ws 55)) (hcs : bb_CS l R D bs ad aI aC aS C) (hr : meth.sig.returnType = some .int) (hlk : meth.locks = false) (hRf : 1 ≤ R.frames) (hRl : 36 ≤ R.locals) : ∀ pc, bb_Snd p l e R s m args below meth c D bs ad aI aC aS Rp C pc (cd_X7_wave pc) := by
  unfold cd_X7_wave
  refine bb_lkS (fun pc => sd_fail) ?_
  refine bb_lc (sd_iload_n hx dX7_wave_0 rfl) ?_
  refine bb_lc (sd_call hx hcs (fun w h => List.mem_cons_of_mem _ h) dX7_wave_1 wd_502 mS_33) ?_
  refine bb_lc (sd_ifne hx dX7_wave_4 (by decide)) ?_
  refine bb_lc (sd_sipush hx dX7_wave_7 (by decide)) ?_
  refine bb_lc (sd_iret hx dX7_wave_10 hr hlk) ?_
  refine bb_lc (sd_iload_n hx dX7_wave_11 rfl) ?_
  refine bb_lc (sd_call hx hcs (fun w h => List.mem_cons_of_mem _ h) dX7_wave_12 wd_524 mS_53) ?_
  refine bb_lc (sd_ifne hx dX7_wave_15 (by decide)) ?_
  refine bb_lc (sd_sipush hx dX7_wave_18 (by decide)) ?_
  refine bb_lc (sd_iret hx dX7_wave_21 hr hlk) ?_
  refine bb_lc (sd_aload_n hx dX7_wave_22 rfl) ?_
  refine bb_lc (sd_getR (k := 7) (sl := 0) hx dX7_wave_23 rfl (fun w h => List.mem_cons_of_mem _ (wc_7 w h)) (by decide) (by decide) (List.mem_cons_of_mem _ wd_491) (fun _ h9 => h9) rfl (fun i _ => (by decide))) ?_
  refine bb_lc (sd_bipush hx dX7_wave_26 (by decide)) ?_
  refine bb_lc (sd_iald hx dX7_wave_28) ?_
  refine bb_lc (sd_bipush hx dX7_wave_29 (by decide)) ?_
  refine bb_lc (sd_icne hx dX7_wave_31 (by decide)) ?_
  refine bb_lc (sd_sipush hx dX7_wave_34 (by decide)) ?_
  refine bb_lc (sd_iret hx dX7_wave_37 hr hlk) ?_
  refine bb_lc (sd_aload_n hx dX7_wave_38 rfl) ?_
  refine bb_lc (sd_callv hx hcs (fun w h => List.mem_cons_of_mem _ h) dX7_wave_39 wd_515 mV_31) ?_
  refine bb_lc (sd_aload_n hx dX7_wave_42 rfl) ?_
  refine bb_lc (sd_iload_n hx dX7_wave_43 rfl) ?_
  refine bb_lc (sd_iload_n hx dX7_wave_44 rfl) ?_
  refine bb_lc (sd_callv hx hcs (fun w h => List.mem_cons_of_mem _ h) dX7_wave_45 wd_525 mV_54) ?_
  refine bb_lc (sd_aload_n hx dX7_wave_48 rfl) ?_
  refine bb_lc (sd_aload_n hx dX7_wave_49 rfl) ?_
  refine bb_lc (sd_getR (k := 7) (sl := 0) hx dX7_wave_50 rfl (fun w h => List.mem_cons_of_mem _ (wc_7 w h)) (by decide) (by decide) (List.mem_cons_of_mem _ wd_491) (fun _ h9 => h9) rfl (fun i _ => (by decide))) ?_
  refine bb_lc (sd_bipush hx dX7_wave_53 (by decide)) ?_
  refine bb_lc (sd_iald hx dX7_wave_55) ?_
  refine bb_lc (sd_callv hx hcs (fun w h => List.mem_cons_of_mem _ h) dX7_wave_56 wd_516 mV_32) ?_
  refine bb_lc (sd_iret hx dX7_wave_59 hr hlk) ?_
  exact bb_ln
set_option maxRecDepth 20000 in
theorem sn_X7_strike {p : Program} {l : Launch} {e : Env} {R : Room} {s : State} {m : MethodId} {args : Array Value} {below : List Frame} {meth : Method} {c : Code} {D : va_G} {bs : Nat} {ad : Nat → Nat → Nat} {aI aC aS : ClassId} {Rp : bb_P} {C : bb_C} (hx : bb_Cx p s m args c D bs ad aI aC aS cX7_strike RX7 (bb_ws 56)) (hcs : bb_CS l R D bs ad aI aC aS C) (hr : meth.sig.returnType = some .int) (hlk : meth.locks = false) (hRf : 1 ≤ R.frames) (hRl : 36 ≤ R.locals) : ∀ pc, bb_Snd p l e R s m args below meth c D bs ad aI aC aS Rp C pc (cd_X7_strike pc) := by
  unfold cd_X7_strike
  refine bb_lkS (fun pc => sd_fail) ?_
  refine bb_lc (sd_iload_n hx dX7_strike_0 rfl) ?_
  refine bb_lc (sd_call hx hcs (fun w h => List.mem_cons_of_mem _ h) dX7_strike_1 wd_524 mS_53) ?_
  refine bb_lc (sd_ifeq hx dX7_strike_4 (by decide)) ?_
  refine bb_lc (sd_iload_n hx dX7_strike_7 rfl) ?_
  refine bb_lc (sd_call hx hcs (fun w h => List.mem_cons_of_mem _ h) dX7_strike_8 wd_524 mS_53) ?_
  refine bb_lc (sd_ifeq hx dX7_strike_11 (by decide)) ?_
  refine bb_lc (sd_iload_n hx dX7_strike_14 rfl) ?_
  refine bb_lc (sd_iload_n hx dX7_strike_15 rfl) ?_
  refine bb_lc (sd_icge hx dX7_strike_16 (by decide)) ?_
  refine bb_lc (sd_sipush hx dX7_strike_19 (by decide)) ?_
  refine bb_lc (sd_iret hx dX7_strike_22 hr hlk) ?_
  refine bb_lc (sd_aload_n hx dX7_strike_23 rfl) ?_
  refine bb_lc (sd_callv hx hcs (fun w h => List.mem_cons_of_mem _ h) dX7_strike_24 wd_515 mV_31) ?_
  refine bb_lc (sd_aload_n hx dX7_strike_27 rfl) ?_
  refine bb_lc (sd_getR (k := 7) (sl := 0) hx dX7_strike_28 rfl (fun w h => List.mem_cons_of_mem _ (wc_7 w h)) (by decide) (by decide) (List.mem_cons_of_mem _ wd_491) (fun _ h9 => h9) rfl (fun i _ => (by decide))) ?_
  refine bb_lc (sd_bipush hx dX7_strike_31 (by decide)) ?_
  refine bb_lc (sd_iconst hx dX7_strike_33 (by decide)) ?_
  refine bb_lc (sd_iast hx dX7_strike_34) ?_
  refine bb_lc (sd_iconst hx dX7_strike_35 (by decide)) ?_
  refine bb_lc (sd_istore_n hx dX7_strike_36 rfl) ?_
  refine bb_lc (sd_iload_n hx dX7_strike_37 rfl) ?_
  refine bb_lc (sd_aload_n hx dX7_strike_38 rfl) ?_
  refine bb_lc (sd_getR (k := 7) (sl := 1) hx dX7_strike_39 rfl (fun w h => List.mem_cons_of_mem _ (wc_7 w h)) (by decide) (by decide) (List.mem_cons_of_mem _ wd_490) (fun _ h9 => h9) rfl (fun i _ => (by decide))) ?_
  refine bb_lc (sd_bipush hx dX7_strike_42 (by decide)) ?_
  refine bb_lc (sd_iald hx dX7_strike_44) ?_
  refine bb_lc (sd_icge hx dX7_strike_45 (by decide)) ?_
  refine bb_lc (sd_aload_n hx dX7_strike_48 rfl) ?_
  refine bb_lc (sd_getR (k := 7) (sl := 1) hx dX7_strike_49 rfl (fun w h => List.mem_cons_of_mem _ (wc_7 w h)) (by decide) (by decide) (List.mem_cons_of_mem _ wd_490) (fun _ h9 => h9) rfl (fun i _ => (by decide))) ?_
  refine bb_lc (sd_bipush hx dX7_strike_52 (by decide)) ?_
  refine bb_lc (sd_iconst hx dX7_strike_54 (by decide)) ?_
  refine bb_lc (sd_iload_n hx dX7_strike_55 rfl) ?_
  refine bb_lc (sd_imul hx dX7_strike_56) ?_
  refine bb_lc (sd_iadd hx dX7_strike_57) ?_
  refine bb_lc (sd_iconst hx dX7_strike_58 (by decide)) ?_
  refine bb_lc (sd_iadd hx dX7_strike_59) ?_
  refine bb_lc (sd_iald hx dX7_strike_60) ?_
  refine bb_lc (sd_i2l hx dX7_strike_61) ?_
  refine bb_lc (sd_iload_n hx dX7_strike_62 rfl) ?_
  refine bb_lc (sd_i2l hx dX7_strike_63) ?_
  refine bb_lc (sd_iload_n hx dX7_strike_64 rfl) ?_
  refine bb_lc (sd_i2l hx dX7_strike_65) ?_
  refine bb_lc (sd_callJ hx hcs (fun w h => List.mem_cons_of_mem _ h) dX7_strike_66 wd_495 mS_0) ?_
  refine bb_lc (sd_ifne hx dX7_strike_69 (by decide)) ?_
  refine bb_lc (sd_aload_n hx dX7_strike_72 rfl) ?_
  refine bb_lc (sd_aload_n hx dX7_strike_73 rfl) ?_
  refine bb_lc (sd_getR (k := 7) (sl := 1) hx dX7_strike_74 rfl (fun w h => List.mem_cons_of_mem _ (wc_7 w h)) (by decide) (by decide) (List.mem_cons_of_mem _ wd_490) (fun _ h9 => h9) rfl (fun i _ => (by decide))) ?_
  refine bb_lc (sd_bipush hx dX7_strike_77 (by decide)) ?_
  refine bb_lc (sd_iconst hx dX7_strike_79 (by decide)) ?_
  refine bb_lc (sd_iload_n hx dX7_strike_80 rfl) ?_
  refine bb_lc (sd_imul hx dX7_strike_81) ?_
  refine bb_lc (sd_iadd hx dX7_strike_82) ?_
  refine bb_lc (sd_iald hx dX7_strike_83) ?_
  refine bb_lc (sd_aload_n hx dX7_strike_84 rfl) ?_
  refine bb_lc (sd_getR (k := 7) (sl := 1) hx dX7_strike_85 rfl (fun w h => List.mem_cons_of_mem _ (wc_7 w h)) (by decide) (by decide) (List.mem_cons_of_mem _ wd_490) (fun _ h9 => h9) rfl (fun i _ => (by decide))) ?_
  refine bb_lc (sd_bipush hx dX7_strike_88 (by decide)) ?_
  refine bb_lc (sd_iconst hx dX7_strike_90 (by decide)) ?_
  refine bb_lc (sd_iload_n hx dX7_strike_91 rfl) ?_
  refine bb_lc (sd_imul hx dX7_strike_92) ?_
  refine bb_lc (sd_iadd hx dX7_strike_93) ?_
  refine bb_lc (sd_iconst hx dX7_strike_94 (by decide)) ?_
  refine bb_lc (sd_iadd hx dX7_strike_95) ?_
  refine bb_lc (sd_iald hx dX7_strike_96) ?_
  refine bb_lc (sd_callv hx hcs (fun w h => List.mem_cons_of_mem _ h) dX7_strike_97 wd_525 mV_54) ?_
  refine bb_lc (sd_iinc hx dX7_strike_100 (by decide)) ?_
  refine bb_lc (sd_goto hx dX7_strike_103 (by decide)) ?_
  refine bb_lc (sd_aload_n hx dX7_strike_106 rfl) ?_
  refine bb_lc (sd_getR (k := 7) (sl := 1) hx dX7_strike_107 rfl (fun w h => List.mem_cons_of_mem _ (wc_7 w h)) (by decide) (by decide) (List.mem_cons_of_mem _ wd_490) (fun _ h9 => h9) rfl (fun i _ => (by decide))) ?_
  refine bb_lc (sd_bipush hx dX7_strike_110 (by decide)) ?_
  refine bb_lc (sd_iald hx dX7_strike_112) ?_
  refine bb_lc (sd_aload_n hx dX7_strike_113 rfl) ?_
  refine bb_lc (sd_getR (k := 7) (sl := 0) hx dX7_strike_114 rfl (fun w h => List.mem_cons_of_mem _ (wc_7 w h)) (by decide) (by decide) (List.mem_cons_of_mem _ wd_491) (fun _ h9 => h9) rfl (fun i _ => (by decide))) ?_
  refine bb_lc (sd_bipush hx dX7_strike_117 (by decide)) ?_
  refine bb_lc (sd_iald hx dX7_strike_119) ?_
  refine bb_lc (sd_isub hx dX7_strike_120) ?_
  refine bb_lc (sd_istore_n hx dX7_strike_121 rfl) ?_
  refine bb_lc (sd_iload_n hx dX7_strike_122 rfl) ?_
  refine bb_lc (sd_ifne hx dX7_strike_123 (by decide)) ?_
  refine bb_lc (sd_sipush hx dX7_strike_126 (by decide)) ?_
  refine bb_lc (sd_goto hx dX7_strike_129 (by decide)) ?_
  refine bb_lc (sd_aload_n hx dX7_strike_132 rfl) ?_
  refine bb_lc (sd_iload_n hx dX7_strike_133 rfl) ?_
  refine bb_lc (sd_callv hx hcs (fun w h => List.mem_cons_of_mem _ h) dX7_strike_134 wd_516 mV_32) ?_
  refine bb_lc (sd_iret hx dX7_strike_137 hr hlk) ?_
  exact bb_ln
set_option maxRecDepth 20000 in
theorem sn_X7_run {p : Program} {l : Launch} {e : Env} {R : Room} {s : State} {m : MethodId} {args : Array Value} {below : List Frame} {meth : Method} {c : Code} {D : va_G} {bs : Nat} {ad : Nat → Nat → Nat} {aI aC aS : ClassId} {Rp : bb_P} {C : bb_C} (hx : bb_Cx p s m args c D bs ad aI aC aS cX7_run RX7 (bb_ws 57)) (hcs : bb_CS l R D bs ad aI aC aS C) (hr : meth.sig.returnType = some .int) (hlk : meth.locks = false) (hRf : 1 ≤ R.frames) (hRl : 36 ≤ R.locals) : ∀ pc, bb_Snd p l e R s m args below meth c D bs ad aI aC aS Rp C pc (cd_X7_run pc) := by
  unfold cd_X7_run
  refine bb_lkS (fun pc => sd_fail) ?_
  refine bb_lc (sd_iload_n hx dX7_run_0 rfl) ?_
  refine bb_lc (sd_i2l hx dX7_run_1) ?_
  refine bb_lc (sd_lconst hx dX7_run_2 (by decide)) ?_
  refine bb_lc (sd_ldc2 hx dX7_run_3 (List.mem_cons_of_mem _ wd_522)) ?_
  refine bb_lc (sd_callJ hx hcs (fun w h => List.mem_cons_of_mem _ h) dX7_run_6 wd_495 mS_0) ?_
  refine bb_lc (sd_ifne hx dX7_run_9 (by decide)) ?_
  refine bb_lc (sd_sipush hx dX7_run_12 (by decide)) ?_
  refine bb_lc (sd_iret hx dX7_run_15 hr hlk) ?_
  refine bb_lc (sd_aload_n hx dX7_run_16 rfl) ?_
  refine bb_lc (sd_getR (k := 7) (sl := 0) hx dX7_run_17 rfl (fun w h => List.mem_cons_of_mem _ (wc_7 w h)) (by decide) (by decide) (List.mem_cons_of_mem _ wd_491) (fun _ h9 => h9) rfl (fun i _ => (by decide))) ?_
  refine bb_lc (sd_bipush hx dX7_run_20 (by decide)) ?_
  refine bb_lc (sd_iald hx dX7_run_22) ?_
  refine bb_lc (sd_ifne hx dX7_run_23 (by decide)) ?_
  refine bb_lc (sd_sipush hx dX7_run_26 (by decide)) ?_
  refine bb_lc (sd_iret hx dX7_run_29 hr hlk) ?_
  refine bb_lc (sd_aload_n hx dX7_run_30 rfl) ?_
  refine bb_lc (sd_callv hx hcs (fun w h => List.mem_cons_of_mem _ h) dX7_run_31 wd_515 mV_31) ?_
  refine bb_lc (sd_aload_n hx dX7_run_34 rfl) ?_
  refine bb_lc (sd_iload_n hx dX7_run_35 rfl) ?_
  refine bb_lc (sd_putI (k := 7) (sl := 6) hx dX7_run_36 rfl (fun w h => List.mem_cons_of_mem _ (wc_7 w h)) (by decide) (by decide) (List.mem_cons_of_mem _ wd_497) (fun _ h9 => h9) rfl (ty0 := tyX7) tyX7_ok nmX7 rfl (by decide +kernel)) ?_
  refine bb_lc (sd_aload_n hx dX7_run_39 rfl) ?_
  refine bb_lc (sd_callv hx hcs (fun w h => List.mem_cons_of_mem _ h) dX7_run_40 wd_526 mV_45) ?_
  refine bb_lc (sd_istore_n hx dX7_run_43 rfl) ?_
  refine bb_lc (sd_aload_n hx dX7_run_44 rfl) ?_
  refine bb_lc (sd_callv hx hcs (fun w h => List.mem_cons_of_mem _ h) dX7_run_45 wd_527 mV_46) ?_
  refine bb_lc (sd_istore_n hx dX7_run_48 rfl) ?_
  refine bb_lc (sd_aload_n hx dX7_run_49 rfl) ?_
  refine bb_lc (sd_callv hx hcs (fun w h => List.mem_cons_of_mem _ h) dX7_run_50 wd_528 mV_47) ?_
  refine bb_lc (sd_istore hx dX7_run_53) ?_
  refine bb_lc (sd_aload_n hx dX7_run_55 rfl) ?_
  refine bb_lc (sd_iconst hx dX7_run_56 (by decide)) ?_
  refine bb_lc (sd_putI (k := 7) (sl := 6) hx dX7_run_57 rfl (fun w h => List.mem_cons_of_mem _ (wc_7 w h)) (by decide) (by decide) (List.mem_cons_of_mem _ wd_497) (fun _ h9 => h9) rfl (ty0 := tyX7) tyX7_ok nmX7 rfl (by decide +kernel)) ?_
  refine bb_lc (sd_aload_n hx dX7_run_60 rfl) ?_
  refine bb_lc (sd_iload_n hx dX7_run_61 rfl) ?_
  refine bb_lc (sd_callv hx hcs (fun w h => List.mem_cons_of_mem _ h) dX7_run_62 wd_516 mV_32) ?_
  refine bb_lc (sd_iret hx dX7_run_65 hr hlk) ?_
  exact bb_ln
set_option maxRecDepth 20000 in
theorem sn_X7_settle {p : Program} {l : Launch} {e : Env} {R : Room} {s : State} {m : MethodId} {args : Array Value} {below : List Frame} {meth : Method} {c : Code} {D : va_G} {bs : Nat} {ad : Nat → Nat → Nat} {aI aC aS : ClassId} {Rp : bb_P} {C : bb_C} (hx : bb_Cx p s m args c D bs ad aI aC aS cX7_settle RX7 (bb_ws 58)) (hcs : bb_CS l R D bs ad aI aC aS C) (hr : meth.sig.returnType = some .int) (hlk : meth.locks = false) (hRf : 1 ≤ R.frames) (hRl : 36 ≤ R.locals) : ∀ pc, bb_Snd p l e R s m args below meth c D bs ad aI aC aS Rp C pc (cd_X7_settle pc) := by
  unfold cd_X7_settle
  refine bb_lkS (fun pc => sd_fail) ?_
  refine bb_lc (sd_aload_n hx dX7_settle_0 rfl) ?_
  refine bb_lc (sd_callv hx hcs (fun w h => List.mem_cons_of_mem _ h) dX7_settle_1 wd_515 mV_31) ?_
  refine bb_lc (sd_aload_n hx dX7_settle_4 rfl) ?_
  refine bb_lc (sd_callv hx hcs (fun w h => List.mem_cons_of_mem _ h) dX7_settle_5 wd_527 mV_46) ?_
  refine bb_lc (sd_istore_n hx dX7_settle_8 rfl) ?_
  refine bb_lc (sd_iload_n hx dX7_settle_9 rfl) ?_
  refine bb_lc (sd_aload_n hx dX7_settle_10 rfl) ?_
  refine bb_lc (sd_callv hx hcs (fun w h => List.mem_cons_of_mem _ h) dX7_settle_11 wd_528 mV_47) ?_
  refine bb_lc (sd_iadd hx dX7_settle_14) ?_
  refine bb_lc (sd_istore_n hx dX7_settle_15 rfl) ?_
  refine bb_lc (sd_iload_n hx dX7_settle_16 rfl) ?_
  refine bb_lc (sd_ifne hx dX7_settle_17 (by decide)) ?_
  refine bb_lc (sd_sipush hx dX7_settle_20 (by decide)) ?_
  refine bb_lc (sd_goto hx dX7_settle_23 (by decide)) ?_
  refine bb_lc (sd_aload_n hx dX7_settle_26 rfl) ?_
  refine bb_lc (sd_iload_n hx dX7_settle_27 rfl) ?_
  refine bb_lc (sd_callv hx hcs (fun w h => List.mem_cons_of_mem _ h) dX7_settle_28 wd_516 mV_32) ?_
  refine bb_lc (sd_iret hx dX7_settle_31 hr hlk) ?_
  exact bb_ln
set_option maxRecDepth 20000 in
theorem sn_X7_type {p : Program} {l : Launch} {e : Env} {R : Room} {s : State} {m : MethodId} {args : Array Value} {below : List Frame} {meth : Method} {c : Code} {D : va_G} {bs : Nat} {ad : Nat → Nat → Nat} {aI aC aS : ClassId} {Rp : bb_P} {C : bb_C} (hx : bb_Cx p s m args c D bs ad aI aC aS cX7_type RX7 (bb_ws 59)) (hcs : bb_CS l R D bs ad aI aC aS C) (hr : meth.sig.returnType = some .int) (hlk : meth.locks = false) (hRf : 1 ≤ R.frames) (hRl : 36 ≤ R.locals) : ∀ pc, bb_Snd p l e R s m args below meth c D bs ad aI aC aS Rp C pc (cd_X7_type pc) := by
  unfold cd_X7_type
  refine bb_lkS (fun pc => sd_fail) ?_
  refine bb_lc (sd_aload_n hx dX7_type_0 rfl) ?_
  refine bb_lc (sd_getI (k := 7) (sl := 11) hx dX7_type_1 rfl (fun w h => List.mem_cons_of_mem _ (wc_7 w h)) (by decide) (by decide) (List.mem_cons_of_mem _ wd_529) (fun _ h9 => h9) rfl) ?_
  refine bb_lc (sd_bipush hx dX7_type_4 (by decide)) ?_
  refine bb_lc (sd_icne hx dX7_type_6 (by decide)) ?_
  refine bb_lc (sd_sipush hx dX7_type_9 (by decide)) ?_
  refine bb_lc (sd_iret hx dX7_type_12 hr hlk) ?_
  refine bb_lc (sd_aload_n hx dX7_type_13 rfl) ?_
  refine bb_lc (sd_getR (k := 7) (sl := 10) hx dX7_type_14 rfl (fun w h => List.mem_cons_of_mem _ (wc_7 w h)) (by decide) (by decide) (List.mem_cons_of_mem _ wd_530) (fun _ h9 => h9) rfl (fun i _ => (by decide))) ?_
  refine bb_lc (sd_aload_n hx dX7_type_17 rfl) ?_
  refine bb_lc (sd_getI (k := 7) (sl := 11) hx dX7_type_18 rfl (fun w h => List.mem_cons_of_mem _ (wc_7 w h)) (by decide) (by decide) (List.mem_cons_of_mem _ wd_529) (fun _ h9 => h9) rfl) ?_
  refine bb_lc (sd_iload_n hx dX7_type_21 rfl) ?_
  refine bb_lc (sd_iast hx dX7_type_22) ?_
  refine bb_lc (sd_aload_n hx dX7_type_23 rfl) ?_
  refine bb_lc (sd_dup hx dX7_type_24) ?_
  refine bb_lc (sd_getI (k := 7) (sl := 11) hx dX7_type_25 rfl (fun w h => List.mem_cons_of_mem _ (wc_7 w h)) (by decide) (by decide) (List.mem_cons_of_mem _ wd_529) (fun _ h9 => h9) rfl) ?_
  refine bb_lc (sd_iconst hx dX7_type_28 (by decide)) ?_
  refine bb_lc (sd_iadd hx dX7_type_29) ?_
  refine bb_lc (sd_putI (k := 7) (sl := 11) hx dX7_type_30 rfl (fun w h => List.mem_cons_of_mem _ (wc_7 w h)) (by decide) (by decide) (List.mem_cons_of_mem _ wd_529) (fun _ h9 => h9) rfl (ty0 := tyX7) tyX7_ok nmX7 rfl (by decide +kernel)) ?_
  refine bb_lc (sd_aload_n hx dX7_type_33 rfl) ?_
  refine bb_lc (sd_getI (k := 7) (sl := 11) hx dX7_type_34 rfl (fun w h => List.mem_cons_of_mem _ (wc_7 w h)) (by decide) (by decide) (List.mem_cons_of_mem _ wd_529) (fun _ h9 => h9) rfl) ?_
  refine bb_lc (sd_iret hx dX7_type_37 hr hlk) ?_
  exact bb_ln
set_option maxRecDepth 20000 in
theorem sn_X7_clearText {p : Program} {l : Launch} {e : Env} {R : Room} {s : State} {m : MethodId} {args : Array Value} {below : List Frame} {meth : Method} {c : Code} {D : va_G} {bs : Nat} {ad : Nat → Nat → Nat} {aI aC aS : ClassId} {Rp : bb_P} {C : bb_C} (hx : bb_Cx p s m args c D bs ad aI aC aS cX7_clearText RX7 (bb_ws 60)) (hcs : bb_CS l R D bs ad aI aC aS C) (hr : meth.sig.returnType = some .int) (hlk : meth.locks = false) (hRf : 1 ≤ R.frames) (hRl : 36 ≤ R.locals) : ∀ pc, bb_Snd p l e R s m args below meth c D bs ad aI aC aS Rp C pc (cd_X7_clearText pc) := by
  unfold cd_X7_clearText
  refine bb_lkS (fun pc => sd_fail) ?_
  refine bb_lc (sd_aload_n hx dX7_clearText_0 rfl) ?_
  refine bb_lc (sd_getI (k := 7) (sl := 11) hx dX7_clearText_1 rfl (fun w h => List.mem_cons_of_mem _ (wc_7 w h)) (by decide) (by decide) (List.mem_cons_of_mem _ wd_529) (fun _ h9 => h9) rfl) ?_
  refine bb_lc (sd_istore_n hx dX7_clearText_4 rfl) ?_
  refine bb_lc (sd_aload_n hx dX7_clearText_5 rfl) ?_
  refine bb_lc (sd_iconst hx dX7_clearText_6 (by decide)) ?_
  refine bb_lc (sd_putI (k := 7) (sl := 11) hx dX7_clearText_7 rfl (fun w h => List.mem_cons_of_mem _ (wc_7 w h)) (by decide) (by decide) (List.mem_cons_of_mem _ wd_529) (fun _ h9 => h9) rfl (ty0 := tyX7) tyX7_ok nmX7 rfl (by decide +kernel)) ?_
  refine bb_lc (sd_iload_n hx dX7_clearText_10 rfl) ?_
  refine bb_lc (sd_iret hx dX7_clearText_11 hr hlk) ?_
  exact bb_ln
set_option maxRecDepth 20000 in
theorem sn_X7_isHere {p : Program} {l : Launch} {e : Env} {R : Room} {s : State} {m : MethodId} {args : Array Value} {below : List Frame} {meth : Method} {c : Code} {D : va_G} {bs : Nat} {ad : Nat → Nat → Nat} {aI aC aS : ClassId} {Rp : bb_P} {C : bb_C} (hx : bb_Cx p s m args c D bs ad aI aC aS cX7_isHere RX7 (bb_ws 61)) (hcs : bb_CS l R D bs ad aI aC aS C) (hr : meth.sig.returnType = some .boolean) (hlk : meth.locks = false) (hRf : 1 ≤ R.frames) (hRl : 36 ≤ R.locals) : ∀ pc, bb_Snd p l e R s m args below meth c D bs ad aI aC aS Rp C pc (cd_X7_isHere pc) := by
  unfold cd_X7_isHere
  refine bb_lkS (fun pc => sd_fail) ?_
  refine bb_lc (sd_aload_n hx dX7_isHere_0 rfl) ?_
  refine bb_lc (sd_getI (k := 7) (sl := 12) hx dX7_isHere_1 rfl (fun w h => List.mem_cons_of_mem _ (wc_7 w h)) (by decide) (by decide) (List.mem_cons_of_mem _ wd_531) (fun _ h9 => h9) rfl) ?_
  refine bb_lc (sd_aload_n hx dX7_isHere_4 rfl) ?_
  refine bb_lc (sd_getI (k := 7) (sl := 11) hx dX7_isHere_5 rfl (fun w h => List.mem_cons_of_mem _ (wc_7 w h)) (by decide) (by decide) (List.mem_cons_of_mem _ wd_529) (fun _ h9 => h9) rfl) ?_
  refine bb_lc (sd_icge hx dX7_isHere_8 (by decide)) ?_
  refine bb_lc (sd_aload_n hx dX7_isHere_11 rfl) ?_
  refine bb_lc (sd_getR (k := 7) (sl := 10) hx dX7_isHere_12 rfl (fun w h => List.mem_cons_of_mem _ (wc_7 w h)) (by decide) (by decide) (List.mem_cons_of_mem _ wd_530) (fun _ h9 => h9) rfl (fun i _ => (by decide))) ?_
  refine bb_lc (sd_aload_n hx dX7_isHere_15 rfl) ?_
  refine bb_lc (sd_getI (k := 7) (sl := 12) hx dX7_isHere_16 rfl (fun w h => List.mem_cons_of_mem _ (wc_7 w h)) (by decide) (by decide) (List.mem_cons_of_mem _ wd_531) (fun _ h9 => h9) rfl) ?_
  refine bb_lc (sd_iald hx dX7_isHere_19) ?_
  refine bb_lc (sd_i2l hx dX7_isHere_20) ?_
  refine bb_lc (sd_iload_n hx dX7_isHere_21 rfl) ?_
  refine bb_lc (sd_i2l hx dX7_isHere_22) ?_
  refine bb_lc (sd_iload_n hx dX7_isHere_23 rfl) ?_
  refine bb_lc (sd_i2l hx dX7_isHere_24) ?_
  refine bb_lc (sd_callJ hx hcs (fun w h => List.mem_cons_of_mem _ h) dX7_isHere_25 wd_495 mS_0) ?_
  refine bb_lc (sd_ifeq hx dX7_isHere_28 (by decide)) ?_
  refine bb_lc (sd_iconst hx dX7_isHere_31 (by decide)) ?_
  refine bb_lc (sd_goto hx dX7_isHere_32 (by decide)) ?_
  refine bb_lc (sd_iconst hx dX7_isHere_35 (by decide)) ?_
  refine bb_lc (sd_zret hx dX7_isHere_36 hr hlk) ?_
  exact bb_ln
set_option maxRecDepth 20000 in
theorem sn_X7_takes {p : Program} {l : Launch} {e : Env} {R : Room} {s : State} {m : MethodId} {args : Array Value} {below : List Frame} {meth : Method} {c : Code} {D : va_G} {bs : Nat} {ad : Nat → Nat → Nat} {aI aC aS : ClassId} {Rp : bb_P} {C : bb_C} (hx : bb_Cx p s m args c D bs ad aI aC aS cX7_takes RX7 (bb_ws 62)) (hcs : bb_CS l R D bs ad aI aC aS C) (hr : meth.sig.returnType = some .boolean) (hlk : meth.locks = false) (hRf : 1 ≤ R.frames) (hRl : 36 ≤ R.locals) : ∀ pc, bb_Snd p l e R s m args below meth c D bs ad aI aC aS Rp C pc (cd_X7_takes pc) := by
  unfold cd_X7_takes
  refine bb_lkS (fun pc => sd_fail) ?_
  refine bb_lc (sd_aload_n hx dX7_takes_0 rfl) ?_
  refine bb_lc (sd_iload_n hx dX7_takes_1 rfl) ?_
  refine bb_lc (sd_iload_n hx dX7_takes_2 rfl) ?_
  refine bb_lc (sd_callv hx hcs (fun w h => List.mem_cons_of_mem _ h) dX7_takes_3 wd_532 mV_61) ?_
  refine bb_lc (sd_istore_n hx dX7_takes_6 rfl) ?_
  refine bb_lc (sd_aload_n hx dX7_takes_7 rfl) ?_
  refine bb_lc (sd_dup hx dX7_takes_8) ?_
  refine bb_lc (sd_getI (k := 7) (sl := 12) hx dX7_takes_9 rfl (fun w h => List.mem_cons_of_mem _ (wc_7 w h)) (by decide) (by decide) (List.mem_cons_of_mem _ wd_531) (fun _ h9 => h9) rfl) ?_
  refine bb_lc (sd_iload_n hx dX7_takes_12 rfl) ?_
  refine bb_lc (sd_ifeq hx dX7_takes_13 (by decide)) ?_
  refine bb_lc (sd_iconst hx dX7_takes_16 (by decide)) ?_
  refine bb_lc (sd_goto hx dX7_takes_17 (by decide)) ?_
  refine bb_lc (sd_iconst hx dX7_takes_20 (by decide)) ?_
  refine bb_lc (sd_iadd hx dX7_takes_21) ?_
  refine bb_lc (sd_putI (k := 7) (sl := 12) hx dX7_takes_22 rfl (fun w h => List.mem_cons_of_mem _ (wc_7 w h)) (by decide) (by decide) (List.mem_cons_of_mem _ wd_531) (fun _ h9 => h9) rfl (ty0 := tyX7) tyX7_ok nmX7 rfl (by decide +kernel)) ?_
  refine bb_lc (sd_iload_n hx dX7_takes_25 rfl) ?_
  refine bb_lc (sd_zret hx dX7_takes_26 hr hlk) ?_
  exact bb_ln
set_option maxRecDepth 20000 in
theorem sn_X7_readsDigit {p : Program} {l : Launch} {e : Env} {R : Room} {s : State} {m : MethodId} {args : Array Value} {below : List Frame} {meth : Method} {c : Code} {D : va_G} {bs : Nat} {ad : Nat → Nat → Nat} {aI aC aS : ClassId} {Rp : bb_P} {C : bb_C} (hx : bb_Cx p s m args c D bs ad aI aC aS cX7_readsDigit RX7 (bb_ws 63)) (hcs : bb_CS l R D bs ad aI aC aS C) (hr : meth.sig.returnType = some .boolean) (hlk : meth.locks = false) (hRf : 1 ≤ R.frames) (hRl : 36 ≤ R.locals) : ∀ pc, bb_Snd p l e R s m args below meth c D bs ad aI aC aS Rp C pc (cd_X7_readsDigit pc) := by
  unfold cd_X7_readsDigit
  refine bb_lkS (fun pc => sd_fail) ?_
  refine bb_lc (sd_aload_n hx dX7_readsDigit_0 rfl) ?_
  refine bb_lc (sd_iload_n hx dX7_readsDigit_1 rfl) ?_
  refine bb_lc (sd_iload_n hx dX7_readsDigit_2 rfl) ?_
  refine bb_lc (sd_callv hx hcs (fun w h => List.mem_cons_of_mem _ h) dX7_readsDigit_3 wd_532 mV_61) ?_
  refine bb_lc (sd_ifne hx dX7_readsDigit_6 (by decide)) ?_
  refine bb_lc (sd_iconst hx dX7_readsDigit_9 (by decide)) ?_
  refine bb_lc (sd_zret hx dX7_readsDigit_10 hr hlk) ?_
  refine bb_lc (sd_aload_n hx dX7_readsDigit_11 rfl) ?_
  refine bb_lc (sd_getR (k := 7) (sl := 13) hx dX7_readsDigit_12 rfl (fun w h => List.mem_cons_of_mem _ (wc_7 w h)) (by decide) (by decide) (List.mem_cons_of_mem _ wd_533) (fun _ h9 => h9) rfl (fun i _ => (by decide))) ?_
  refine bb_lc (sd_iconst hx dX7_readsDigit_15 (by decide)) ?_
  refine bb_lc (sd_aload_n hx dX7_readsDigit_16 rfl) ?_
  refine bb_lc (sd_getI (k := 7) (sl := 14) hx dX7_readsDigit_17 rfl (fun w h => List.mem_cons_of_mem _ (wc_7 w h)) (by decide) (by decide) (List.mem_cons_of_mem _ wd_534) (fun _ h9 => h9) rfl) ?_
  refine bb_lc (sd_imul hx dX7_readsDigit_20) ?_
  refine bb_lc (sd_iload_n hx dX7_readsDigit_21 rfl) ?_
  refine bb_lc (sd_iadd hx dX7_readsDigit_22) ?_
  refine bb_lc (sd_aload_n hx dX7_readsDigit_23 rfl) ?_
  refine bb_lc (sd_getR (k := 7) (sl := 10) hx dX7_readsDigit_24 rfl (fun w h => List.mem_cons_of_mem _ (wc_7 w h)) (by decide) (by decide) (List.mem_cons_of_mem _ wd_530) (fun _ h9 => h9) rfl (fun i _ => (by decide))) ?_
  refine bb_lc (sd_aload_n hx dX7_readsDigit_27 rfl) ?_
  refine bb_lc (sd_getI (k := 7) (sl := 12) hx dX7_readsDigit_28 rfl (fun w h => List.mem_cons_of_mem _ (wc_7 w h)) (by decide) (by decide) (List.mem_cons_of_mem _ wd_531) (fun _ h9 => h9) rfl) ?_
  refine bb_lc (sd_iald hx dX7_readsDigit_31) ?_
  refine bb_lc (sd_bipush hx dX7_readsDigit_32 (by decide)) ?_
  refine bb_lc (sd_isub hx dX7_readsDigit_34) ?_
  refine bb_lc (sd_iast hx dX7_readsDigit_35) ?_
  refine bb_lc (sd_aload_n hx dX7_readsDigit_36 rfl) ?_
  refine bb_lc (sd_dup hx dX7_readsDigit_37) ?_
  refine bb_lc (sd_getI (k := 7) (sl := 12) hx dX7_readsDigit_38 rfl (fun w h => List.mem_cons_of_mem _ (wc_7 w h)) (by decide) (by decide) (List.mem_cons_of_mem _ wd_531) (fun _ h9 => h9) rfl) ?_
  refine bb_lc (sd_iconst hx dX7_readsDigit_41 (by decide)) ?_
  refine bb_lc (sd_iadd hx dX7_readsDigit_42) ?_
  refine bb_lc (sd_putI (k := 7) (sl := 12) hx dX7_readsDigit_43 rfl (fun w h => List.mem_cons_of_mem _ (wc_7 w h)) (by decide) (by decide) (List.mem_cons_of_mem _ wd_531) (fun _ h9 => h9) rfl (ty0 := tyX7) tyX7_ok nmX7 rfl (by decide +kernel)) ?_
  refine bb_lc (sd_iconst hx dX7_readsDigit_46 (by decide)) ?_
  refine bb_lc (sd_zret hx dX7_readsDigit_47 hr hlk) ?_
  exact bb_ln
set_option maxRecDepth 20000 in
theorem sn_X7_readsGroup {p : Program} {l : Launch} {e : Env} {R : Room} {s : State} {m : MethodId} {args : Array Value} {below : List Frame} {meth : Method} {c : Code} {D : va_G} {bs : Nat} {ad : Nat → Nat → Nat} {aI aC aS : ClassId} {Rp : bb_P} {C : bb_C} (hx : bb_Cx p s m args c D bs ad aI aC aS cX7_readsGroup RX7 (bb_ws 64)) (hcs : bb_CS l R D bs ad aI aC aS C) (hr : meth.sig.returnType = some .boolean) (hlk : meth.locks = false) (hRf : 1 ≤ R.frames) (hRl : 36 ≤ R.locals) : ∀ pc, bb_Snd p l e R s m args below meth c D bs ad aI aC aS Rp C pc (cd_X7_readsGroup pc) := by
  unfold cd_X7_readsGroup
  refine bb_lkS (fun pc => sd_fail) ?_
  refine bb_lc (sd_aload_n hx dX7_readsGroup_0 rfl) ?_
  refine bb_lc (sd_bipush hx dX7_readsGroup_1 (by decide)) ?_
  refine bb_lc (sd_bipush hx dX7_readsGroup_3 (by decide)) ?_
  refine bb_lc (sd_iconst hx dX7_readsGroup_5 (by decide)) ?_
  refine bb_lc (sd_callv hx hcs (fun w h => List.mem_cons_of_mem _ h) dX7_readsGroup_6 wd_535 mV_63) ?_
  refine bb_lc (sd_ifeq hx dX7_readsGroup_9 (by decide)) ?_
  refine bb_lc (sd_aload_n hx dX7_readsGroup_12 rfl) ?_
  refine bb_lc (sd_bipush hx dX7_readsGroup_13 (by decide)) ?_
  refine bb_lc (sd_callv hx hcs (fun w h => List.mem_cons_of_mem _ h) dX7_readsGroup_15 wd_536 mV_62) ?_
  refine bb_lc (sd_ifeq hx dX7_readsGroup_18 (by decide)) ?_
  refine bb_lc (sd_aload_n hx dX7_readsGroup_21 rfl) ?_
  refine bb_lc (sd_bipush hx dX7_readsGroup_22 (by decide)) ?_
  refine bb_lc (sd_bipush hx dX7_readsGroup_24 (by decide)) ?_
  refine bb_lc (sd_iconst hx dX7_readsGroup_26 (by decide)) ?_
  refine bb_lc (sd_callv hx hcs (fun w h => List.mem_cons_of_mem _ h) dX7_readsGroup_27 wd_535 mV_63) ?_
  refine bb_lc (sd_ifne hx dX7_readsGroup_30 (by decide)) ?_
  refine bb_lc (sd_iconst hx dX7_readsGroup_33 (by decide)) ?_
  refine bb_lc (sd_zret hx dX7_readsGroup_34 hr hlk) ?_
  refine bb_lc (sd_aload_n hx dX7_readsGroup_35 rfl) ?_
  refine bb_lc (sd_getR (k := 7) (sl := 13) hx dX7_readsGroup_36 rfl (fun w h => List.mem_cons_of_mem _ (wc_7 w h)) (by decide) (by decide) (List.mem_cons_of_mem _ wd_533) (fun _ h9 => h9) rfl (fun i _ => (by decide))) ?_
  refine bb_lc (sd_iconst hx dX7_readsGroup_39 (by decide)) ?_
  refine bb_lc (sd_aload_n hx dX7_readsGroup_40 rfl) ?_
  refine bb_lc (sd_getI (k := 7) (sl := 14) hx dX7_readsGroup_41 rfl (fun w h => List.mem_cons_of_mem _ (wc_7 w h)) (by decide) (by decide) (List.mem_cons_of_mem _ wd_534) (fun _ h9 => h9) rfl) ?_
  refine bb_lc (sd_imul hx dX7_readsGroup_44) ?_
  refine bb_lc (sd_iconst hx dX7_readsGroup_45 (by decide)) ?_
  refine bb_lc (sd_iadd hx dX7_readsGroup_46) ?_
  refine bb_lc (sd_iald hx dX7_readsGroup_47) ?_
  refine bb_lc (sd_istore_n hx dX7_readsGroup_48 rfl) ?_
  refine bb_lc (sd_aload_n hx dX7_readsGroup_49 rfl) ?_
  refine bb_lc (sd_bipush hx dX7_readsGroup_50 (by decide)) ?_
  refine bb_lc (sd_bipush hx dX7_readsGroup_52 (by decide)) ?_
  refine bb_lc (sd_callv hx hcs (fun w h => List.mem_cons_of_mem _ h) dX7_readsGroup_54 wd_532 mV_61) ?_
  refine bb_lc (sd_ifeq hx dX7_readsGroup_57 (by decide)) ?_
  refine bb_lc (sd_bipush hx dX7_readsGroup_60 (by decide)) ?_
  refine bb_lc (sd_iload_n hx dX7_readsGroup_62 rfl) ?_
  refine bb_lc (sd_imul hx dX7_readsGroup_63) ?_
  refine bb_lc (sd_aload_n hx dX7_readsGroup_64 rfl) ?_
  refine bb_lc (sd_getR (k := 7) (sl := 10) hx dX7_readsGroup_65 rfl (fun w h => List.mem_cons_of_mem _ (wc_7 w h)) (by decide) (by decide) (List.mem_cons_of_mem _ wd_530) (fun _ h9 => h9) rfl (fun i _ => (by decide))) ?_
  refine bb_lc (sd_aload_n hx dX7_readsGroup_68 rfl) ?_
  refine bb_lc (sd_getI (k := 7) (sl := 12) hx dX7_readsGroup_69 rfl (fun w h => List.mem_cons_of_mem _ (wc_7 w h)) (by decide) (by decide) (List.mem_cons_of_mem _ wd_531) (fun _ h9 => h9) rfl) ?_
  refine bb_lc (sd_iald hx dX7_readsGroup_72) ?_
  refine bb_lc (sd_iadd hx dX7_readsGroup_73) ?_
  refine bb_lc (sd_bipush hx dX7_readsGroup_74 (by decide)) ?_
  refine bb_lc (sd_isub hx dX7_readsGroup_76) ?_
  refine bb_lc (sd_bipush hx dX7_readsGroup_77 (by decide)) ?_
  refine bb_lc (sd_icgt hx dX7_readsGroup_79 (by decide)) ?_
  refine bb_lc (sd_aload_n hx dX7_readsGroup_82 rfl) ?_
  refine bb_lc (sd_getR (k := 7) (sl := 13) hx dX7_readsGroup_83 rfl (fun w h => List.mem_cons_of_mem _ (wc_7 w h)) (by decide) (by decide) (List.mem_cons_of_mem _ wd_533) (fun _ h9 => h9) rfl (fun i _ => (by decide))) ?_
  refine bb_lc (sd_iconst hx dX7_readsGroup_86 (by decide)) ?_
  refine bb_lc (sd_aload_n hx dX7_readsGroup_87 rfl) ?_
  refine bb_lc (sd_getI (k := 7) (sl := 14) hx dX7_readsGroup_88 rfl (fun w h => List.mem_cons_of_mem _ (wc_7 w h)) (by decide) (by decide) (List.mem_cons_of_mem _ wd_534) (fun _ h9 => h9) rfl) ?_
  refine bb_lc (sd_imul hx dX7_readsGroup_91) ?_
  refine bb_lc (sd_iconst hx dX7_readsGroup_92 (by decide)) ?_
  refine bb_lc (sd_iadd hx dX7_readsGroup_93) ?_
  refine bb_lc (sd_bipush hx dX7_readsGroup_94 (by decide)) ?_
  refine bb_lc (sd_iload_n hx dX7_readsGroup_96 rfl) ?_
  refine bb_lc (sd_imul hx dX7_readsGroup_97) ?_
  refine bb_lc (sd_aload_n hx dX7_readsGroup_98 rfl) ?_
  refine bb_lc (sd_getR (k := 7) (sl := 10) hx dX7_readsGroup_99 rfl (fun w h => List.mem_cons_of_mem _ (wc_7 w h)) (by decide) (by decide) (List.mem_cons_of_mem _ wd_530) (fun _ h9 => h9) rfl (fun i _ => (by decide))) ?_
  refine bb_lc (sd_aload_n hx dX7_readsGroup_102 rfl) ?_
  refine bb_lc (sd_getI (k := 7) (sl := 12) hx dX7_readsGroup_103 rfl (fun w h => List.mem_cons_of_mem _ (wc_7 w h)) (by decide) (by decide) (List.mem_cons_of_mem _ wd_531) (fun _ h9 => h9) rfl) ?_
  refine bb_lc (sd_iald hx dX7_readsGroup_106) ?_
  refine bb_lc (sd_iadd hx dX7_readsGroup_107) ?_
  refine bb_lc (sd_bipush hx dX7_readsGroup_108 (by decide)) ?_
  refine bb_lc (sd_isub hx dX7_readsGroup_110) ?_
  refine bb_lc (sd_iast hx dX7_readsGroup_111) ?_
  refine bb_lc (sd_aload_n hx dX7_readsGroup_112 rfl) ?_
  refine bb_lc (sd_dup hx dX7_readsGroup_113) ?_
  refine bb_lc (sd_getI (k := 7) (sl := 12) hx dX7_readsGroup_114 rfl (fun w h => List.mem_cons_of_mem _ (wc_7 w h)) (by decide) (by decide) (List.mem_cons_of_mem _ wd_531) (fun _ h9 => h9) rfl) ?_
  refine bb_lc (sd_iconst hx dX7_readsGroup_117 (by decide)) ?_
  refine bb_lc (sd_iadd hx dX7_readsGroup_118) ?_
  refine bb_lc (sd_putI (k := 7) (sl := 12) hx dX7_readsGroup_119 rfl (fun w h => List.mem_cons_of_mem _ (wc_7 w h)) (by decide) (by decide) (List.mem_cons_of_mem _ wd_531) (fun _ h9 => h9) rfl (ty0 := tyX7) tyX7_ok nmX7 rfl (by decide +kernel)) ?_
  refine bb_lc (sd_aload_n hx dX7_readsGroup_122 rfl) ?_
  refine bb_lc (sd_getR (k := 7) (sl := 13) hx dX7_readsGroup_123 rfl (fun w h => List.mem_cons_of_mem _ (wc_7 w h)) (by decide) (by decide) (List.mem_cons_of_mem _ wd_533) (fun _ h9 => h9) rfl (fun i _ => (by decide))) ?_
  refine bb_lc (sd_iconst hx dX7_readsGroup_126 (by decide)) ?_
  refine bb_lc (sd_aload_n hx dX7_readsGroup_127 rfl) ?_
  refine bb_lc (sd_getI (k := 7) (sl := 14) hx dX7_readsGroup_128 rfl (fun w h => List.mem_cons_of_mem _ (wc_7 w h)) (by decide) (by decide) (List.mem_cons_of_mem _ wd_534) (fun _ h9 => h9) rfl) ?_
  refine bb_lc (sd_imul hx dX7_readsGroup_131) ?_
  refine bb_lc (sd_iconst hx dX7_readsGroup_132 (by decide)) ?_
  refine bb_lc (sd_iadd hx dX7_readsGroup_133) ?_
  refine bb_lc (sd_iconst hx dX7_readsGroup_134 (by decide)) ?_
  refine bb_lc (sd_iast hx dX7_readsGroup_135) ?_
  refine bb_lc (sd_aload_n hx dX7_readsGroup_136 rfl) ?_
  refine bb_lc (sd_bipush hx dX7_readsGroup_137 (by decide)) ?_
  refine bb_lc (sd_callv hx hcs (fun w h => List.mem_cons_of_mem _ h) dX7_readsGroup_139 wd_536 mV_62) ?_
  refine bb_lc (sd_ifeq hx dX7_readsGroup_142 (by decide)) ?_
  refine bb_lc (sd_aload_n hx dX7_readsGroup_145 rfl) ?_
  refine bb_lc (sd_bipush hx dX7_readsGroup_146 (by decide)) ?_
  refine bb_lc (sd_bipush hx dX7_readsGroup_148 (by decide)) ?_
  refine bb_lc (sd_iconst hx dX7_readsGroup_150 (by decide)) ?_
  refine bb_lc (sd_callv hx hcs (fun w h => List.mem_cons_of_mem _ h) dX7_readsGroup_151 wd_535 mV_63) ?_
  refine bb_lc (sd_ifne hx dX7_readsGroup_154 (by decide)) ?_
  refine bb_lc (sd_iconst hx dX7_readsGroup_157 (by decide)) ?_
  refine bb_lc (sd_zret hx dX7_readsGroup_158 hr hlk) ?_
  refine bb_lc (sd_aload_n hx dX7_readsGroup_159 rfl) ?_
  refine bb_lc (sd_dup hx dX7_readsGroup_160) ?_
  refine bb_lc (sd_getI (k := 7) (sl := 15) hx dX7_readsGroup_161 rfl (fun w h => List.mem_cons_of_mem _ (wc_7 w h)) (by decide) (by decide) (List.mem_cons_of_mem _ wd_537) (fun _ h9 => h9) rfl) ?_
  refine bb_lc (sd_aload_n hx dX7_readsGroup_164 rfl) ?_
  refine bb_lc (sd_getR (k := 7) (sl := 13) hx dX7_readsGroup_165 rfl (fun w h => List.mem_cons_of_mem _ (wc_7 w h)) (by decide) (by decide) (List.mem_cons_of_mem _ wd_533) (fun _ h9 => h9) rfl (fun i _ => (by decide))) ?_
  refine bb_lc (sd_iconst hx dX7_readsGroup_168 (by decide)) ?_
  refine bb_lc (sd_aload_n hx dX7_readsGroup_169 rfl) ?_
  refine bb_lc (sd_getI (k := 7) (sl := 14) hx dX7_readsGroup_170 rfl (fun w h => List.mem_cons_of_mem _ (wc_7 w h)) (by decide) (by decide) (List.mem_cons_of_mem _ wd_534) (fun _ h9 => h9) rfl) ?_
  refine bb_lc (sd_imul hx dX7_readsGroup_173) ?_
  refine bb_lc (sd_iconst hx dX7_readsGroup_174 (by decide)) ?_
  refine bb_lc (sd_iadd hx dX7_readsGroup_175) ?_
  refine bb_lc (sd_iald hx dX7_readsGroup_176) ?_
  refine bb_lc (sd_iadd hx dX7_readsGroup_177) ?_
  refine bb_lc (sd_putI (k := 7) (sl := 15) hx dX7_readsGroup_178 rfl (fun w h => List.mem_cons_of_mem _ (wc_7 w h)) (by decide) (by decide) (List.mem_cons_of_mem _ wd_537) (fun _ h9 => h9) rfl (ty0 := tyX7) tyX7_ok nmX7 rfl (by decide +kernel)) ?_
  refine bb_lc (sd_aload_n hx dX7_readsGroup_181 rfl) ?_
  refine bb_lc (sd_dup hx dX7_readsGroup_182) ?_
  refine bb_lc (sd_getI (k := 7) (sl := 14) hx dX7_readsGroup_183 rfl (fun w h => List.mem_cons_of_mem _ (wc_7 w h)) (by decide) (by decide) (List.mem_cons_of_mem _ wd_534) (fun _ h9 => h9) rfl) ?_
  refine bb_lc (sd_iconst hx dX7_readsGroup_186 (by decide)) ?_
  refine bb_lc (sd_iadd hx dX7_readsGroup_187) ?_
  refine bb_lc (sd_putI (k := 7) (sl := 14) hx dX7_readsGroup_188 rfl (fun w h => List.mem_cons_of_mem _ (wc_7 w h)) (by decide) (by decide) (List.mem_cons_of_mem _ wd_534) (fun _ h9 => h9) rfl (ty0 := tyX7) tyX7_ok nmX7 rfl (by decide +kernel)) ?_
  refine bb_lc (sd_iconst hx dX7_readsGroup_191 (by decide)) ?_
  refine bb_lc (sd_zret hx dX7_readsGroup_192 hr hlk) ?_
  exact bb_ln
set_option maxRecDepth 20000 in
theorem sn_X7_fault {p : Program} {l : Launch} {e : Env} {R : Room} {s : State} {m : MethodId} {args : Array Value} {below : List Frame} {meth : Method} {c : Code} {D : va_G} {bs : Nat} {ad : Nat → Nat → Nat} {aI aC aS : ClassId} {Rp : bb_P} {C : bb_C} (hx : bb_Cx p s m args c D bs ad aI aC aS cX7_fault RX7 (bb_ws 65)) (hcs : bb_CS l R D bs ad aI aC aS C) (hr : meth.sig.returnType = some .int) (hlk : meth.locks = false) (hRf : 1 ≤ R.frames) (hRl : 36 ≤ R.locals) : ∀ pc, bb_Snd p l e R s m args below meth c D bs ad aI aC aS Rp C pc (cd_X7_fault pc) := by
  unfold cd_X7_fault
  refine bb_lkS (fun pc => sd_fail) ?_
  refine bb_lc (sd_aload_n hx dX7_fault_0 rfl) ?_
  refine bb_lc (sd_iconst hx dX7_fault_1 (by decide)) ?_
  refine bb_lc (sd_putI (k := 7) (sl := 12) hx dX7_fault_2 rfl (fun w h => List.mem_cons_of_mem _ (wc_7 w h)) (by decide) (by decide) (List.mem_cons_of_mem _ wd_531) (fun _ h9 => h9) rfl (ty0 := tyX7) tyX7_ok nmX7 rfl (by decide +kernel)) ?_
  refine bb_lc (sd_aload_n hx dX7_fault_5 rfl) ?_
  refine bb_lc (sd_iconst hx dX7_fault_6 (by decide)) ?_
  refine bb_lc (sd_putI (k := 7) (sl := 14) hx dX7_fault_7 rfl (fun w h => List.mem_cons_of_mem _ (wc_7 w h)) (by decide) (by decide) (List.mem_cons_of_mem _ wd_534) (fun _ h9 => h9) rfl (ty0 := tyX7) tyX7_ok nmX7 rfl (by decide +kernel)) ?_
  refine bb_lc (sd_aload_n hx dX7_fault_10 rfl) ?_
  refine bb_lc (sd_iconst hx dX7_fault_11 (by decide)) ?_
  refine bb_lc (sd_putI (k := 7) (sl := 15) hx dX7_fault_12 rfl (fun w h => List.mem_cons_of_mem _ (wc_7 w h)) (by decide) (by decide) (List.mem_cons_of_mem _ wd_537) (fun _ h9 => h9) rfl (ty0 := tyX7) tyX7_ok nmX7 rfl (by decide +kernel)) ?_
  refine bb_lc (sd_iconst hx dX7_fault_15 (by decide)) ?_
  refine bb_lc (sd_istore_n hx dX7_fault_16 rfl) ?_
  refine bb_lc (sd_iload_n hx dX7_fault_17 rfl) ?_
  refine bb_lc (sd_ifeq hx dX7_fault_18 (by decide)) ?_
  refine bb_lc (sd_aload_n hx dX7_fault_21 rfl) ?_
  refine bb_lc (sd_callv hx hcs (fun w h => List.mem_cons_of_mem _ h) dX7_fault_22 wd_538 mV_64) ?_
  refine bb_lc (sd_ifne hx dX7_fault_25 (by decide)) ?_
  refine bb_lc (sd_aload_n hx dX7_fault_28 rfl) ?_
  refine bb_lc (sd_getI (k := 7) (sl := 12) hx dX7_fault_29 rfl (fun w h => List.mem_cons_of_mem _ (wc_7 w h)) (by decide) (by decide) (List.mem_cons_of_mem _ wd_531) (fun _ h9 => h9) rfl) ?_
  refine bb_lc (sd_iret hx dX7_fault_32 hr hlk) ?_
  refine bb_lc (sd_aload_n hx dX7_fault_33 rfl) ?_
  refine bb_lc (sd_bipush hx dX7_fault_34 (by decide)) ?_
  refine bb_lc (sd_callv hx hcs (fun w h => List.mem_cons_of_mem _ h) dX7_fault_36 wd_536 mV_62) ?_
  refine bb_lc (sd_istore_n hx dX7_fault_39 rfl) ?_
  refine bb_lc (sd_goto hx dX7_fault_40 (by decide)) ?_
  refine bb_lc (sd_aload_n hx dX7_fault_43 rfl) ?_
  refine bb_lc (sd_getI (k := 7) (sl := 12) hx dX7_fault_44 rfl (fun w h => List.mem_cons_of_mem _ (wc_7 w h)) (by decide) (by decide) (List.mem_cons_of_mem _ wd_531) (fun _ h9 => h9) rfl) ?_
  refine bb_lc (sd_aload_n hx dX7_fault_47 rfl) ?_
  refine bb_lc (sd_getI (k := 7) (sl := 11) hx dX7_fault_48 rfl (fun w h => List.mem_cons_of_mem _ (wc_7 w h)) (by decide) (by decide) (List.mem_cons_of_mem _ wd_529) (fun _ h9 => h9) rfl) ?_
  refine bb_lc (sd_icne hx dX7_fault_51 (by decide)) ?_
  refine bb_lc (sd_sipush hx dX7_fault_54 (by decide)) ?_
  refine bb_lc (sd_goto hx dX7_fault_57 (by decide)) ?_
  refine bb_lc (sd_aload_n hx dX7_fault_60 rfl) ?_
  refine bb_lc (sd_getI (k := 7) (sl := 12) hx dX7_fault_61 rfl (fun w h => List.mem_cons_of_mem _ (wc_7 w h)) (by decide) (by decide) (List.mem_cons_of_mem _ wd_531) (fun _ h9 => h9) rfl) ?_
  refine bb_lc (sd_iret hx dX7_fault_64 hr hlk) ?_
  exact bb_ln
set_option maxRecDepth 20000 in
theorem sn_X7_waveAll {p : Program} {l : Launch} {e : Env} {R : Room} {s : State} {m : MethodId} {args : Array Value} {below : List Frame} {meth : Method} {c : Code} {D : va_G} {bs : Nat} {ad : Nat → Nat → Nat} {aI aC aS : ClassId} {Rp : bb_P} {C : bb_C} (hx : bb_Cx p s m args c D bs ad aI aC aS cX7_waveAll RX7 (bb_ws 66)) (hcs : bb_CS l R D bs ad aI aC aS C) (hr : meth.sig.returnType = some .int) (hlk : meth.locks = false) (hRf : 1 ≤ R.frames) (hRl : 36 ≤ R.locals) : ∀ pc, bb_Snd p l e R s m args below meth c D bs ad aI aC aS Rp C pc (cd_X7_waveAll pc) := by
  unfold cd_X7_waveAll
  refine bb_lkS (fun pc => sd_fail) ?_
  refine bb_lc (sd_aload_n hx dX7_waveAll_0 rfl) ?_
  refine bb_lc (sd_callv hx hcs (fun w h => List.mem_cons_of_mem _ h) dX7_waveAll_1 wd_539 mV_65) ?_
  refine bb_lc (sd_istore_n hx dX7_waveAll_4 rfl) ?_
  refine bb_lc (sd_iload_n hx dX7_waveAll_5 rfl) ?_
  refine bb_lc (sd_sipush hx dX7_waveAll_6 (by decide)) ?_
  refine bb_lc (sd_iceq hx dX7_waveAll_9 (by decide)) ?_
  refine bb_lc (sd_sipush hx dX7_waveAll_12 (by decide)) ?_
  refine bb_lc (sd_iload_n hx dX7_waveAll_15 rfl) ?_
  refine bb_lc (sd_isub hx dX7_waveAll_16) ?_
  refine bb_lc (sd_iret hx dX7_waveAll_17 hr hlk) ?_
  refine bb_lc (sd_aload_n hx dX7_waveAll_18 rfl) ?_
  refine bb_lc (sd_getR (k := 7) (sl := 0) hx dX7_waveAll_19 rfl (fun w h => List.mem_cons_of_mem _ (wc_7 w h)) (by decide) (by decide) (List.mem_cons_of_mem _ wd_491) (fun _ h9 => h9) rfl (fun i _ => (by decide))) ?_
  refine bb_lc (sd_bipush hx dX7_waveAll_22 (by decide)) ?_
  refine bb_lc (sd_iald hx dX7_waveAll_24) ?_
  refine bb_lc (sd_aload_n hx dX7_waveAll_25 rfl) ?_
  refine bb_lc (sd_getI (k := 7) (sl := 15) hx dX7_waveAll_26 rfl (fun w h => List.mem_cons_of_mem _ (wc_7 w h)) (by decide) (by decide) (List.mem_cons_of_mem _ wd_537) (fun _ h9 => h9) rfl) ?_
  refine bb_lc (sd_iadd hx dX7_waveAll_29) ?_
  refine bb_lc (sd_bipush hx dX7_waveAll_30 (by decide)) ?_
  refine bb_lc (sd_icle hx dX7_waveAll_32 (by decide)) ?_
  refine bb_lc (sd_sipush hx dX7_waveAll_35 (by decide)) ?_
  refine bb_lc (sd_iret hx dX7_waveAll_38 hr hlk) ?_
  refine bb_lc (sd_aload_n hx dX7_waveAll_39 rfl) ?_
  refine bb_lc (sd_callv hx hcs (fun w h => List.mem_cons_of_mem _ h) dX7_waveAll_40 wd_515 mV_31) ?_
  refine bb_lc (sd_iconst hx dX7_waveAll_43 (by decide)) ?_
  refine bb_lc (sd_istore_n hx dX7_waveAll_44 rfl) ?_
  refine bb_lc (sd_iload_n hx dX7_waveAll_45 rfl) ?_
  refine bb_lc (sd_iconst hx dX7_waveAll_46 (by decide)) ?_
  refine bb_lc (sd_aload_n hx dX7_waveAll_47 rfl) ?_
  refine bb_lc (sd_getI (k := 7) (sl := 14) hx dX7_waveAll_48 rfl (fun w h => List.mem_cons_of_mem _ (wc_7 w h)) (by decide) (by decide) (List.mem_cons_of_mem _ wd_534) (fun _ h9 => h9) rfl) ?_
  refine bb_lc (sd_imul hx dX7_waveAll_51) ?_
  refine bb_lc (sd_icge hx dX7_waveAll_52 (by decide)) ?_
  refine bb_lc (sd_iconst hx dX7_waveAll_55 (by decide)) ?_
  refine bb_lc (sd_istore_n hx dX7_waveAll_56 rfl) ?_
  refine bb_lc (sd_iload_n hx dX7_waveAll_57 rfl) ?_
  refine bb_lc (sd_aload_n hx dX7_waveAll_58 rfl) ?_
  refine bb_lc (sd_getR (k := 7) (sl := 13) hx dX7_waveAll_59 rfl (fun w h => List.mem_cons_of_mem _ (wc_7 w h)) (by decide) (by decide) (List.mem_cons_of_mem _ wd_533) (fun _ h9 => h9) rfl (fun i _ => (by decide))) ?_
  refine bb_lc (sd_iload_n hx dX7_waveAll_62 rfl) ?_
  refine bb_lc (sd_iconst hx dX7_waveAll_63 (by decide)) ?_
  refine bb_lc (sd_iadd hx dX7_waveAll_64) ?_
  refine bb_lc (sd_iald hx dX7_waveAll_65) ?_
  refine bb_lc (sd_icge hx dX7_waveAll_66 (by decide)) ?_
  refine bb_lc (sd_aload_n hx dX7_waveAll_69 rfl) ?_
  refine bb_lc (sd_aload_n hx dX7_waveAll_70 rfl) ?_
  refine bb_lc (sd_getR (k := 7) (sl := 13) hx dX7_waveAll_71 rfl (fun w h => List.mem_cons_of_mem _ (wc_7 w h)) (by decide) (by decide) (List.mem_cons_of_mem _ wd_533) (fun _ h9 => h9) rfl (fun i _ => (by decide))) ?_
  refine bb_lc (sd_iload_n hx dX7_waveAll_74 rfl) ?_
  refine bb_lc (sd_iald hx dX7_waveAll_75) ?_
  refine bb_lc (sd_aload_n hx dX7_waveAll_76 rfl) ?_
  refine bb_lc (sd_getR (k := 7) (sl := 13) hx dX7_waveAll_77 rfl (fun w h => List.mem_cons_of_mem _ (wc_7 w h)) (by decide) (by decide) (List.mem_cons_of_mem _ wd_533) (fun _ h9 => h9) rfl (fun i _ => (by decide))) ?_
  refine bb_lc (sd_iload_n hx dX7_waveAll_80 rfl) ?_
  refine bb_lc (sd_iconst hx dX7_waveAll_81 (by decide)) ?_
  refine bb_lc (sd_iadd hx dX7_waveAll_82) ?_
  refine bb_lc (sd_iald hx dX7_waveAll_83) ?_
  refine bb_lc (sd_callv hx hcs (fun w h => List.mem_cons_of_mem _ h) dX7_waveAll_84 wd_525 mV_54) ?_
  refine bb_lc (sd_iinc hx dX7_waveAll_87 (by decide)) ?_
  refine bb_lc (sd_goto hx dX7_waveAll_90 (by decide)) ?_
  refine bb_lc (sd_iinc hx dX7_waveAll_93 (by decide)) ?_
  refine bb_lc (sd_goto hx dX7_waveAll_96 (by decide)) ?_
  refine bb_lc (sd_aload_n hx dX7_waveAll_99 rfl) ?_
  refine bb_lc (sd_aload_n hx dX7_waveAll_100 rfl) ?_
  refine bb_lc (sd_getI (k := 7) (sl := 15) hx dX7_waveAll_101 rfl (fun w h => List.mem_cons_of_mem _ (wc_7 w h)) (by decide) (by decide) (List.mem_cons_of_mem _ wd_537) (fun _ h9 => h9) rfl) ?_
  refine bb_lc (sd_callv hx hcs (fun w h => List.mem_cons_of_mem _ h) dX7_waveAll_104 wd_516 mV_32) ?_
  refine bb_lc (sd_iret hx dX7_waveAll_107 hr hlk) ?_
  exact bb_ln
set_option maxRecDepth 20000 in
theorem sn_X7_undo {p : Program} {l : Launch} {e : Env} {R : Room} {s : State} {m : MethodId} {args : Array Value} {below : List Frame} {meth : Method} {c : Code} {D : va_G} {bs : Nat} {ad : Nat → Nat → Nat} {aI aC aS : ClassId} {Rp : bb_P} {C : bb_C} (hx : bb_Cx p s m args c D bs ad aI aC aS cX7_undo RX7 (bb_ws 67)) (hcs : bb_CS l R D bs ad aI aC aS C) (hr : meth.sig.returnType = some .int) (hlk : meth.locks = false) (hRf : 1 ≤ R.frames) (hRl : 36 ≤ R.locals) : ∀ pc, bb_Snd p l e R s m args below meth c D bs ad aI aC aS Rp C pc (cd_X7_undo pc) := by
  unfold cd_X7_undo
  refine bb_lkS (fun pc => sd_fail) ?_
  refine bb_lc (sd_aload_n hx dX7_undo_0 rfl) ?_
  refine bb_lc (sd_getI (k := 7) (sl := 3) hx dX7_undo_1 rfl (fun w h => List.mem_cons_of_mem _ (wc_7 w h)) (by decide) (by decide) (List.mem_cons_of_mem _ wd_492) (fun _ h9 => h9) rfl) ?_
  refine bb_lc (sd_ifne hx dX7_undo_4 (by decide)) ?_
  refine bb_lc (sd_sipush hx dX7_undo_7 (by decide)) ?_
  refine bb_lc (sd_iret hx dX7_undo_10 hr hlk) ?_
  refine bb_lc (sd_aload_n hx dX7_undo_11 rfl) ?_
  refine bb_lc (sd_dup hx dX7_undo_12) ?_
  refine bb_lc (sd_getI (k := 7) (sl := 3) hx dX7_undo_13 rfl (fun w h => List.mem_cons_of_mem _ (wc_7 w h)) (by decide) (by decide) (List.mem_cons_of_mem _ wd_492) (fun _ h9 => h9) rfl) ?_
  refine bb_lc (sd_iconst hx dX7_undo_16 (by decide)) ?_
  refine bb_lc (sd_isub hx dX7_undo_17) ?_
  refine bb_lc (sd_putI (k := 7) (sl := 3) hx dX7_undo_18 rfl (fun w h => List.mem_cons_of_mem _ (wc_7 w h)) (by decide) (by decide) (List.mem_cons_of_mem _ wd_492) (fun _ h9 => h9) rfl (ty0 := tyX7) tyX7_ok nmX7 rfl (by decide +kernel)) ?_
  refine bb_lc (sd_iconst hx dX7_undo_21 (by decide)) ?_
  refine bb_lc (sd_istore_n hx dX7_undo_22 rfl) ?_
  refine bb_lc (sd_iload_n hx dX7_undo_23 rfl) ?_
  refine bb_lc (sd_sipush hx dX7_undo_24 (by decide)) ?_
  refine bb_lc (sd_icge hx dX7_undo_27 (by decide)) ?_
  refine bb_lc (sd_aload_n hx dX7_undo_30 rfl) ?_
  refine bb_lc (sd_getR (k := 7) (sl := 0) hx dX7_undo_31 rfl (fun w h => List.mem_cons_of_mem _ (wc_7 w h)) (by decide) (by decide) (List.mem_cons_of_mem _ wd_491) (fun _ h9 => h9) rfl (fun i _ => (by decide))) ?_
  refine bb_lc (sd_iload_n hx dX7_undo_34 rfl) ?_
  refine bb_lc (sd_aload_n hx dX7_undo_35 rfl) ?_
  refine bb_lc (sd_getR (k := 7) (sl := 2) hx dX7_undo_36 rfl (fun w h => List.mem_cons_of_mem _ (wc_7 w h)) (by decide) (by decide) (List.mem_cons_of_mem _ wd_493) (fun _ h9 => h9) rfl (fun i _ => (by decide))) ?_
  refine bb_lc (sd_sipush hx dX7_undo_39 (by decide)) ?_
  refine bb_lc (sd_aload_n hx dX7_undo_42 rfl) ?_
  refine bb_lc (sd_getI (k := 7) (sl := 3) hx dX7_undo_43 rfl (fun w h => List.mem_cons_of_mem _ (wc_7 w h)) (by decide) (by decide) (List.mem_cons_of_mem _ wd_492) (fun _ h9 => h9) rfl) ?_
  refine bb_lc (sd_imul hx dX7_undo_46) ?_
  refine bb_lc (sd_iload_n hx dX7_undo_47 rfl) ?_
  refine bb_lc (sd_iadd hx dX7_undo_48) ?_
  refine bb_lc (sd_iald hx dX7_undo_49) ?_
  refine bb_lc (sd_iast hx dX7_undo_50) ?_
  refine bb_lc (sd_iinc hx dX7_undo_51 (by decide)) ?_
  refine bb_lc (sd_goto hx dX7_undo_54 (by decide)) ?_
  refine bb_lc (sd_aload_n hx dX7_undo_57 rfl) ?_
  refine bb_lc (sd_getI (k := 7) (sl := 3) hx dX7_undo_58 rfl (fun w h => List.mem_cons_of_mem _ (wc_7 w h)) (by decide) (by decide) (List.mem_cons_of_mem _ wd_492) (fun _ h9 => h9) rfl) ?_
  refine bb_lc (sd_iret hx dX7_undo_61 hr hlk) ?_
  exact bb_ln
set_option maxRecDepth 20000 in
theorem sn_X7_sandOf {p : Program} {l : Launch} {e : Env} {R : Room} {s : State} {m : MethodId} {args : Array Value} {below : List Frame} {meth : Method} {c : Code} {D : va_G} {bs : Nat} {ad : Nat → Nat → Nat} {aI aC aS : ClassId} {Rp : bb_P} {C : bb_C} (hx : bb_Cx p s m args c D bs ad aI aC aS cX7_sandOf RX7 (bb_ws 68)) (hcs : bb_CS l R D bs ad aI aC aS C) (hr : meth.sig.returnType = some .int) (hlk : meth.locks = false) (hRf : 1 ≤ R.frames) (hRl : 36 ≤ R.locals) : ∀ pc, bb_Snd p l e R s m args below meth c D bs ad aI aC aS Rp C pc (cd_X7_sandOf pc) := by
  unfold cd_X7_sandOf
  refine bb_lkS (fun pc => sd_fail) ?_
  refine bb_lc (sd_iconst hx dX7_sandOf_0 (by decide)) ?_
  refine bb_lc (sd_istore_n hx dX7_sandOf_1 rfl) ?_
  refine bb_lc (sd_iconst hx dX7_sandOf_2 (by decide)) ?_
  refine bb_lc (sd_istore hx dX7_sandOf_3) ?_
  refine bb_lc (sd_iload hx dX7_sandOf_5) ?_
  refine bb_lc (sd_bipush hx dX7_sandOf_7 (by decide)) ?_
  refine bb_lc (sd_icge hx dX7_sandOf_9 (by decide)) ?_
  refine bb_lc (sd_iload_n hx dX7_sandOf_12 rfl) ?_
  refine bb_lc (sd_iload hx dX7_sandOf_13) ?_
  refine bb_lc (sd_bipush hx dX7_sandOf_15 (by decide)) ?_
  refine bb_lc (sd_irem hx dX7_sandOf_17) ?_
  refine bb_lc (sd_i2l hx dX7_sandOf_18) ?_
  refine bb_lc (sd_iload_n hx dX7_sandOf_19 rfl) ?_
  refine bb_lc (sd_i2l hx dX7_sandOf_20) ?_
  refine bb_lc (sd_iload_n hx dX7_sandOf_21 rfl) ?_
  refine bb_lc (sd_i2l hx dX7_sandOf_22) ?_
  refine bb_lc (sd_callJ hx hcs (fun w h => List.mem_cons_of_mem _ h) dX7_sandOf_23 wd_495 mS_0) ?_
  refine bb_lc (sd_ifeq hx dX7_sandOf_26 (by decide)) ?_
  refine bb_lc (sd_aload_n hx dX7_sandOf_29 rfl) ?_
  refine bb_lc (sd_getR (k := 7) (sl := 0) hx dX7_sandOf_30 rfl (fun w h => List.mem_cons_of_mem _ (wc_7 w h)) (by decide) (by decide) (List.mem_cons_of_mem _ wd_491) (fun _ h9 => h9) rfl (fun i _ => (by decide))) ?_
  refine bb_lc (sd_iload hx dX7_sandOf_33) ?_
  refine bb_lc (sd_iald hx dX7_sandOf_35) ?_
  refine bb_lc (sd_goto hx dX7_sandOf_36 (by decide)) ?_
  refine bb_lc (sd_iconst hx dX7_sandOf_39 (by decide)) ?_
  refine bb_lc (sd_iadd hx dX7_sandOf_40) ?_
  refine bb_lc (sd_istore_n hx dX7_sandOf_41 rfl) ?_
  refine bb_lc (sd_iinc hx dX7_sandOf_42 (by decide)) ?_
  refine bb_lc (sd_goto hx dX7_sandOf_45 (by decide)) ?_
  refine bb_lc (sd_iload_n hx dX7_sandOf_48 rfl) ?_
  refine bb_lc (sd_iret hx dX7_sandOf_49 hr hlk) ?_
  exact bb_ln
set_option maxRecDepth 20000 in
theorem sn_X7_keep {p : Program} {l : Launch} {e : Env} {R : Room} {s : State} {m : MethodId} {args : Array Value} {below : List Frame} {meth : Method} {c : Code} {D : va_G} {bs : Nat} {ad : Nat → Nat → Nat} {aI aC aS : ClassId} {Rp : bb_P} {C : bb_C} (hx : bb_Cx p s m args c D bs ad aI aC aS cX7_keep RX7 (bb_ws 69)) (hcs : bb_CS l R D bs ad aI aC aS C) (hr : meth.sig.returnType = some .int) (hlk : meth.locks = false) (hRf : 1 ≤ R.frames) (hRl : 36 ≤ R.locals) : ∀ pc, bb_Snd p l e R s m args below meth c D bs ad aI aC aS Rp C pc (cd_X7_keep pc) := by
  unfold cd_X7_keep
  refine bb_lkS (fun pc => sd_fail) ?_
  refine bb_lc (sd_iconst hx dX7_keep_0 (by decide)) ?_
  refine bb_lc (sd_istore_n hx dX7_keep_1 rfl) ?_
  refine bb_lc (sd_iload_n hx dX7_keep_2 rfl) ?_
  refine bb_lc (sd_sipush hx dX7_keep_3 (by decide)) ?_
  refine bb_lc (sd_icge hx dX7_keep_6 (by decide)) ?_
  refine bb_lc (sd_aload_n hx dX7_keep_9 rfl) ?_
  refine bb_lc (sd_getR (k := 7) (sl := 4) hx dX7_keep_10 rfl (fun w h => List.mem_cons_of_mem _ (wc_7 w h)) (by decide) (by decide) (List.mem_cons_of_mem _ wd_540) (fun _ h9 => h9) rfl (fun i _ => (by decide))) ?_
  refine bb_lc (sd_iload_n hx dX7_keep_13 rfl) ?_
  refine bb_lc (sd_aload_n hx dX7_keep_14 rfl) ?_
  refine bb_lc (sd_getR (k := 7) (sl := 0) hx dX7_keep_15 rfl (fun w h => List.mem_cons_of_mem _ (wc_7 w h)) (by decide) (by decide) (List.mem_cons_of_mem _ wd_491) (fun _ h9 => h9) rfl (fun i _ => (by decide))) ?_
  refine bb_lc (sd_iload_n hx dX7_keep_18 rfl) ?_
  refine bb_lc (sd_iald hx dX7_keep_19) ?_
  refine bb_lc (sd_iast hx dX7_keep_20) ?_
  refine bb_lc (sd_iinc hx dX7_keep_21 (by decide)) ?_
  refine bb_lc (sd_goto hx dX7_keep_24 (by decide)) ?_
  refine bb_lc (sd_aload_n hx dX7_keep_27 rfl) ?_
  refine bb_lc (sd_iconst hx dX7_keep_28 (by decide)) ?_
  refine bb_lc (sd_putI (k := 7) (sl := 5) hx dX7_keep_29 rfl (fun w h => List.mem_cons_of_mem _ (wc_7 w h)) (by decide) (by decide) (List.mem_cons_of_mem _ wd_541) (fun _ h9 => h9) rfl (ty0 := tyX7) tyX7_ok nmX7 rfl (by decide +kernel)) ?_
  refine bb_lc (sd_aload_n hx dX7_keep_32 rfl) ?_
  refine bb_lc (sd_iconst hx dX7_keep_33 (by decide)) ?_
  refine bb_lc (sd_bipush hx dX7_keep_34 (by decide)) ?_
  refine bb_lc (sd_callv hx hcs (fun w h => List.mem_cons_of_mem _ h) dX7_keep_36 wd_542 mV_68) ?_
  refine bb_lc (sd_iret hx dX7_keep_39 hr hlk) ?_
  exact bb_ln
set_option maxRecDepth 20000 in
theorem sn_X7_restore {p : Program} {l : Launch} {e : Env} {R : Room} {s : State} {m : MethodId} {args : Array Value} {below : List Frame} {meth : Method} {c : Code} {D : va_G} {bs : Nat} {ad : Nat → Nat → Nat} {aI aC aS : ClassId} {Rp : bb_P} {C : bb_C} (hx : bb_Cx p s m args c D bs ad aI aC aS cX7_restore RX7 (bb_ws 70)) (hcs : bb_CS l R D bs ad aI aC aS C) (hr : meth.sig.returnType = some .int) (hlk : meth.locks = false) (hRf : 1 ≤ R.frames) (hRl : 36 ≤ R.locals) : ∀ pc, bb_Snd p l e R s m args below meth c D bs ad aI aC aS Rp C pc (cd_X7_restore pc) := by
  unfold cd_X7_restore
  refine bb_lkS (fun pc => sd_fail) ?_
  refine bb_lc (sd_aload_n hx dX7_restore_0 rfl) ?_
  refine bb_lc (sd_getI (k := 7) (sl := 5) hx dX7_restore_1 rfl (fun w h => List.mem_cons_of_mem _ (wc_7 w h)) (by decide) (by decide) (List.mem_cons_of_mem _ wd_541) (fun _ h9 => h9) rfl) ?_
  refine bb_lc (sd_ifne hx dX7_restore_4 (by decide)) ?_
  refine bb_lc (sd_sipush hx dX7_restore_7 (by decide)) ?_
  refine bb_lc (sd_iret hx dX7_restore_10 hr hlk) ?_
  refine bb_lc (sd_aload_n hx dX7_restore_11 rfl) ?_
  refine bb_lc (sd_callv hx hcs (fun w h => List.mem_cons_of_mem _ h) dX7_restore_12 wd_515 mV_31) ?_
  refine bb_lc (sd_iconst hx dX7_restore_15 (by decide)) ?_
  refine bb_lc (sd_istore_n hx dX7_restore_16 rfl) ?_
  refine bb_lc (sd_iload_n hx dX7_restore_17 rfl) ?_
  refine bb_lc (sd_sipush hx dX7_restore_18 (by decide)) ?_
  refine bb_lc (sd_icge hx dX7_restore_21 (by decide)) ?_
  refine bb_lc (sd_aload_n hx dX7_restore_24 rfl) ?_
  refine bb_lc (sd_getR (k := 7) (sl := 0) hx dX7_restore_25 rfl (fun w h => List.mem_cons_of_mem _ (wc_7 w h)) (by decide) (by decide) (List.mem_cons_of_mem _ wd_491) (fun _ h9 => h9) rfl (fun i _ => (by decide))) ?_
  refine bb_lc (sd_iload_n hx dX7_restore_28 rfl) ?_
  refine bb_lc (sd_aload_n hx dX7_restore_29 rfl) ?_
  refine bb_lc (sd_getR (k := 7) (sl := 4) hx dX7_restore_30 rfl (fun w h => List.mem_cons_of_mem _ (wc_7 w h)) (by decide) (by decide) (List.mem_cons_of_mem _ wd_540) (fun _ h9 => h9) rfl (fun i _ => (by decide))) ?_
  refine bb_lc (sd_iload_n hx dX7_restore_33 rfl) ?_
  refine bb_lc (sd_iald hx dX7_restore_34) ?_
  refine bb_lc (sd_iast hx dX7_restore_35) ?_
  refine bb_lc (sd_iinc hx dX7_restore_36 (by decide)) ?_
  refine bb_lc (sd_goto hx dX7_restore_39 (by decide)) ?_
  refine bb_lc (sd_aload_n hx dX7_restore_42 rfl) ?_
  refine bb_lc (sd_aload_n hx dX7_restore_43 rfl) ?_
  refine bb_lc (sd_iconst hx dX7_restore_44 (by decide)) ?_
  refine bb_lc (sd_bipush hx dX7_restore_45 (by decide)) ?_
  refine bb_lc (sd_callv hx hcs (fun w h => List.mem_cons_of_mem _ h) dX7_restore_47 wd_542 mV_68) ?_
  refine bb_lc (sd_callv hx hcs (fun w h => List.mem_cons_of_mem _ h) dX7_restore_50 wd_516 mV_32) ?_
  refine bb_lc (sd_iret hx dX7_restore_53 hr hlk) ?_
  exact bb_ln
set_option maxRecDepth 20000 in
theorem sn_X7_cell {p : Program} {l : Launch} {e : Env} {R : Room} {s : State} {m : MethodId} {args : Array Value} {below : List Frame} {meth : Method} {c : Code} {D : va_G} {bs : Nat} {ad : Nat → Nat → Nat} {aI aC aS : ClassId} {Rp : bb_P} {C : bb_C} (hx : bb_Cx p s m args c D bs ad aI aC aS cX7_cell RX7 (bb_ws 71)) (hcs : bb_CS l R D bs ad aI aC aS C) (hr : meth.sig.returnType = some .int) (hlk : meth.locks = false) (hRf : 1 ≤ R.frames) (hRl : 36 ≤ R.locals) : ∀ pc, bb_Snd p l e R s m args below meth c D bs ad aI aC aS Rp C pc (cd_X7_cell pc) := by
  unfold cd_X7_cell
  refine bb_lkS (fun pc => sd_fail) ?_
  refine bb_lc (sd_iload_n hx dX7_cell_0 rfl) ?_
  refine bb_lc (sd_call hx hcs (fun w h => List.mem_cons_of_mem _ h) dX7_cell_1 wd_502 mS_33) ?_
  refine bb_lc (sd_ifeq hx dX7_cell_4 (by decide)) ?_
  refine bb_lc (sd_iload_n hx dX7_cell_7 rfl) ?_
  refine bb_lc (sd_call hx hcs (fun w h => List.mem_cons_of_mem _ h) dX7_cell_8 wd_513 mS_34) ?_
  refine bb_lc (sd_ifne hx dX7_cell_11 (by decide)) ?_
  refine bb_lc (sd_sipush hx dX7_cell_14 (by decide)) ?_
  refine bb_lc (sd_iret hx dX7_cell_17 hr hlk) ?_
  refine bb_lc (sd_iload_n hx dX7_cell_18 rfl) ?_
  refine bb_lc (sd_tsw hx dX7_cell_19 (by decide) (by decide) (by decide)) ?_
  refine bb_lc (sd_aload_n hx dX7_cell_52 rfl) ?_
  refine bb_lc (sd_iload_n hx dX7_cell_53 rfl) ?_
  refine bb_lc (sd_iload_n hx dX7_cell_54 rfl) ?_
  refine bb_lc (sd_callv hx hcs (fun w h => List.mem_cons_of_mem _ h) dX7_cell_55 wd_498 mV_35) ?_
  refine bb_lc (sd_iret hx dX7_cell_58 hr hlk) ?_
  refine bb_lc (sd_aload_n hx dX7_cell_59 rfl) ?_
  refine bb_lc (sd_iload_n hx dX7_cell_60 rfl) ?_
  refine bb_lc (sd_iload_n hx dX7_cell_61 rfl) ?_
  refine bb_lc (sd_callv hx hcs (fun w h => List.mem_cons_of_mem _ h) dX7_cell_62 wd_499 mV_36) ?_
  refine bb_lc (sd_iret hx dX7_cell_65 hr hlk) ?_
  refine bb_lc (sd_aload_n hx dX7_cell_66 rfl) ?_
  refine bb_lc (sd_iload_n hx dX7_cell_67 rfl) ?_
  refine bb_lc (sd_iload_n hx dX7_cell_68 rfl) ?_
  refine bb_lc (sd_callv hx hcs (fun w h => List.mem_cons_of_mem _ h) dX7_cell_69 wd_503 mV_38) ?_
  refine bb_lc (sd_ifeq hx dX7_cell_72 (by decide)) ?_
  refine bb_lc (sd_iconst hx dX7_cell_75 (by decide)) ?_
  refine bb_lc (sd_goto hx dX7_cell_76 (by decide)) ?_
  refine bb_lc (sd_iconst hx dX7_cell_79 (by decide)) ?_
  refine bb_lc (sd_iret hx dX7_cell_80 hr hlk) ?_
  refine bb_lc (sd_aload_n hx dX7_cell_81 rfl) ?_
  refine bb_lc (sd_iload_n hx dX7_cell_82 rfl) ?_
  refine bb_lc (sd_iload_n hx dX7_cell_83 rfl) ?_
  refine bb_lc (sd_callv hx hcs (fun w h => List.mem_cons_of_mem _ h) dX7_cell_84 wd_512 mV_40) ?_
  refine bb_lc (sd_ifeq hx dX7_cell_87 (by decide)) ?_
  refine bb_lc (sd_iconst hx dX7_cell_90 (by decide)) ?_
  refine bb_lc (sd_goto hx dX7_cell_91 (by decide)) ?_
  refine bb_lc (sd_iconst hx dX7_cell_94 (by decide)) ?_
  refine bb_lc (sd_iret hx dX7_cell_95 hr hlk) ?_
  refine bb_lc (sd_aload_n hx dX7_cell_96 rfl) ?_
  refine bb_lc (sd_iload_n hx dX7_cell_97 rfl) ?_
  refine bb_lc (sd_iload_n hx dX7_cell_98 rfl) ?_
  refine bb_lc (sd_callv hx hcs (fun w h => List.mem_cons_of_mem _ h) dX7_cell_99 wd_498 mV_35) ?_
  refine bb_lc (sd_bipush hx dX7_cell_102 (by decide)) ?_
  refine bb_lc (sd_isub hx dX7_cell_104) ?_
  refine bb_lc (sd_iconst hx dX7_cell_105 (by decide)) ?_
  refine bb_lc (sd_iload_n hx dX7_cell_106 rfl) ?_
  refine bb_lc (sd_imul hx dX7_cell_107) ?_
  refine bb_lc (sd_iadd hx dX7_cell_108) ?_
  refine bb_lc (sd_iret hx dX7_cell_109 hr hlk) ?_
  refine bb_lc (sd_sipush hx dX7_cell_110 (by decide)) ?_
  refine bb_lc (sd_iret hx dX7_cell_113 hr hlk) ?_
  exact bb_ln
set_option maxRecDepth 20000 in
theorem sn_X7_sandIn {p : Program} {l : Launch} {e : Env} {R : Room} {s : State} {m : MethodId} {args : Array Value} {below : List Frame} {meth : Method} {c : Code} {D : va_G} {bs : Nat} {ad : Nat → Nat → Nat} {aI aC aS : ClassId} {Rp : bb_P} {C : bb_C} (hx : bb_Cx p s m args c D bs ad aI aC aS cX7_sandIn RX7 (bb_ws 72)) (hcs : bb_CS l R D bs ad aI aC aS C) (hr : meth.sig.returnType = some .int) (hlk : meth.locks = false) (hRf : 1 ≤ R.frames) (hRl : 36 ≤ R.locals) : ∀ pc, bb_Snd p l e R s m args below meth c D bs ad aI aC aS Rp C pc (cd_X7_sandIn pc) := by
  unfold cd_X7_sandIn
  refine bb_lkS (fun pc => sd_fail) ?_
  refine bb_lc (sd_iconst hx dX7_sandIn_0 (by decide)) ?_
  refine bb_lc (sd_istore_n hx dX7_sandIn_1 rfl) ?_
  refine bb_lc (sd_iconst hx dX7_sandIn_2 (by decide)) ?_
  refine bb_lc (sd_istore_n hx dX7_sandIn_3 rfl) ?_
  refine bb_lc (sd_iload_n hx dX7_sandIn_4 rfl) ?_
  refine bb_lc (sd_bipush hx dX7_sandIn_5 (by decide)) ?_
  refine bb_lc (sd_icge hx dX7_sandIn_7 (by decide)) ?_
  refine bb_lc (sd_iload_n hx dX7_sandIn_10 rfl) ?_
  refine bb_lc (sd_aload_n hx dX7_sandIn_11 rfl) ?_
  refine bb_lc (sd_iload_n hx dX7_sandIn_12 rfl) ?_
  refine bb_lc (sd_iload_n hx dX7_sandIn_13 rfl) ?_
  refine bb_lc (sd_callv hx hcs (fun w h => List.mem_cons_of_mem _ h) dX7_sandIn_14 wd_498 mV_35) ?_
  refine bb_lc (sd_iadd hx dX7_sandIn_17) ?_
  refine bb_lc (sd_istore_n hx dX7_sandIn_18 rfl) ?_
  refine bb_lc (sd_iinc hx dX7_sandIn_19 (by decide)) ?_
  refine bb_lc (sd_goto hx dX7_sandIn_22 (by decide)) ?_
  refine bb_lc (sd_iload_n hx dX7_sandIn_25 rfl) ?_
  refine bb_lc (sd_iret hx dX7_sandIn_26 hr hlk) ?_
  exact bb_ln
set_option maxRecDepth 20000 in
theorem sn_X7_bitsOf {p : Program} {l : Launch} {e : Env} {R : Room} {s : State} {m : MethodId} {args : Array Value} {below : List Frame} {meth : Method} {c : Code} {D : va_G} {bs : Nat} {ad : Nat → Nat → Nat} {aI aC aS : ClassId} {Rp : bb_P} {C : bb_C} (hx : bb_Cx p s m args c D bs ad aI aC aS cX7_bitsOf RX7 (bb_ws 73)) (hcs : bb_CS l R D bs ad aI aC aS C) (hr : meth.sig.returnType = some .int) (hlk : meth.locks = false) (hRf : 1 ≤ R.frames) (hRl : 36 ≤ R.locals) : ∀ pc, bb_Snd p l e R s m args below meth c D bs ad aI aC aS Rp C pc (cd_X7_bitsOf pc) := by
  unfold cd_X7_bitsOf
  refine bb_lkS (fun pc => sd_fail) ?_
  refine bb_lc (sd_iconst hx dX7_bitsOf_0 (by decide)) ?_
  refine bb_lc (sd_istore_n hx dX7_bitsOf_1 rfl) ?_
  refine bb_lc (sd_iconst hx dX7_bitsOf_2 (by decide)) ?_
  refine bb_lc (sd_istore hx dX7_bitsOf_3) ?_
  refine bb_lc (sd_iload hx dX7_bitsOf_5) ?_
  refine bb_lc (sd_bipush hx dX7_bitsOf_7 (by decide)) ?_
  refine bb_lc (sd_icge hx dX7_bitsOf_9 (by decide)) ?_
  refine bb_lc (sd_iload_n hx dX7_bitsOf_12 rfl) ?_
  refine bb_lc (sd_iload_n hx dX7_bitsOf_13 rfl) ?_
  refine bb_lc (sd_ifeq hx dX7_bitsOf_14 (by decide)) ?_
  refine bb_lc (sd_aload_n hx dX7_bitsOf_17 rfl) ?_
  refine bb_lc (sd_iload_n hx dX7_bitsOf_18 rfl) ?_
  refine bb_lc (sd_iload hx dX7_bitsOf_19) ?_
  refine bb_lc (sd_callv hx hcs (fun w h => List.mem_cons_of_mem _ h) dX7_bitsOf_21 wd_512 mV_40) ?_
  refine bb_lc (sd_ifeq hx dX7_bitsOf_24 (by decide)) ?_
  refine bb_lc (sd_goto hx dX7_bitsOf_27 (by decide)) ?_
  refine bb_lc (sd_aload_n hx dX7_bitsOf_30 rfl) ?_
  refine bb_lc (sd_iload_n hx dX7_bitsOf_31 rfl) ?_
  refine bb_lc (sd_iload hx dX7_bitsOf_32) ?_
  refine bb_lc (sd_callv hx hcs (fun w h => List.mem_cons_of_mem _ h) dX7_bitsOf_34 wd_503 mV_38) ?_
  refine bb_lc (sd_ifeq hx dX7_bitsOf_37 (by decide)) ?_
  refine bb_lc (sd_iconst hx dX7_bitsOf_40 (by decide)) ?_
  refine bb_lc (sd_iload hx dX7_bitsOf_41) ?_
  refine bb_lc (sd_ishl hx dX7_bitsOf_43) ?_
  refine bb_lc (sd_goto hx dX7_bitsOf_44 (by decide)) ?_
  refine bb_lc (sd_iconst hx dX7_bitsOf_47 (by decide)) ?_
  refine bb_lc (sd_ior hx dX7_bitsOf_48) ?_
  refine bb_lc (sd_istore_n hx dX7_bitsOf_49 rfl) ?_
  refine bb_lc (sd_iinc hx dX7_bitsOf_50 (by decide)) ?_
  refine bb_lc (sd_goto hx dX7_bitsOf_53 (by decide)) ?_
  refine bb_lc (sd_iload_n hx dX7_bitsOf_56 rfl) ?_
  refine bb_lc (sd_iret hx dX7_bitsOf_57 hr hlk) ?_
  exact bb_ln
set_option maxRecDepth 20000 in
theorem sn_X7_many {p : Program} {l : Launch} {e : Env} {R : Room} {s : State} {m : MethodId} {args : Array Value} {below : List Frame} {meth : Method} {c : Code} {D : va_G} {bs : Nat} {ad : Nat → Nat → Nat} {aI aC aS : ClassId} {Rp : bb_P} {C : bb_C} (hx : bb_Cx p s m args c D bs ad aI aC aS cX7_many RX7 (bb_ws 74)) (hcs : bb_CS l R D bs ad aI aC aS C) (hr : meth.sig.returnType = some .int) (hlk : meth.locks = false) (hRf : 1 ≤ R.frames) (hRl : 36 ≤ R.locals) : ∀ pc, bb_Snd p l e R s m args below meth c D bs ad aI aC aS Rp C pc (cd_X7_many pc) := by
  unfold cd_X7_many
  refine bb_lkS (fun pc => sd_fail) ?_
  refine bb_lc (sd_iconst hx dX7_many_0 (by decide)) ?_
  refine bb_lc (sd_istore_n hx dX7_many_1 rfl) ?_
  refine bb_lc (sd_iload_n hx dX7_many_2 rfl) ?_
  refine bb_lc (sd_istore_n hx dX7_many_3 rfl) ?_
  refine bb_lc (sd_iload_n hx dX7_many_4 rfl) ?_
  refine bb_lc (sd_ifeq hx dX7_many_5 (by decide)) ?_
  refine bb_lc (sd_iinc hx dX7_many_8 (by decide)) ?_
  refine bb_lc (sd_iload_n hx dX7_many_11 rfl) ?_
  refine bb_lc (sd_iload_n hx dX7_many_12 rfl) ?_
  refine bb_lc (sd_iconst hx dX7_many_13 (by decide)) ?_
  refine bb_lc (sd_isub hx dX7_many_14) ?_
  refine bb_lc (sd_iand hx dX7_many_15) ?_
  refine bb_lc (sd_istore_n hx dX7_many_16 rfl) ?_
  refine bb_lc (sd_goto hx dX7_many_17 (by decide)) ?_
  refine bb_lc (sd_iload_n hx dX7_many_20 rfl) ?_
  refine bb_lc (sd_iret hx dX7_many_21 hr hlk) ?_
  exact bb_ln
set_option maxRecDepth 20000 in
theorem sn_X7_lastDry {p : Program} {l : Launch} {e : Env} {R : Room} {s : State} {m : MethodId} {args : Array Value} {below : List Frame} {meth : Method} {c : Code} {D : va_G} {bs : Nat} {ad : Nat → Nat → Nat} {aI aC aS : ClassId} {Rp : bb_P} {C : bb_C} (hx : bb_Cx p s m args c D bs ad aI aC aS cX7_lastDry RX7 (bb_ws 75)) (hcs : bb_CS l R D bs ad aI aC aS C) (hr : meth.sig.returnType = some .int) (hlk : meth.locks = false) (hRf : 1 ≤ R.frames) (hRl : 36 ≤ R.locals) : ∀ pc, bb_Snd p l e R s m args below meth c D bs ad aI aC aS Rp C pc (cd_X7_lastDry pc) := by
  unfold cd_X7_lastDry
  refine bb_lkS (fun pc => sd_fail) ?_
  refine bb_lc (sd_sipush hx dX7_lastDry_0 (by decide)) ?_
  refine bb_lc (sd_istore_n hx dX7_lastDry_3 rfl) ?_
  refine bb_lc (sd_iconst hx dX7_lastDry_4 (by decide)) ?_
  refine bb_lc (sd_istore_n hx dX7_lastDry_5 rfl) ?_
  refine bb_lc (sd_iload_n hx dX7_lastDry_6 rfl) ?_
  refine bb_lc (sd_bipush hx dX7_lastDry_7 (by decide)) ?_
  refine bb_lc (sd_icge hx dX7_lastDry_9 (by decide)) ?_
  refine bb_lc (sd_aload_n hx dX7_lastDry_12 rfl) ?_
  refine bb_lc (sd_iload_n hx dX7_lastDry_13 rfl) ?_
  refine bb_lc (sd_iload_n hx dX7_lastDry_14 rfl) ?_
  refine bb_lc (sd_callv hx hcs (fun w h => List.mem_cons_of_mem _ h) dX7_lastDry_15 wd_501 mV_37) ?_
  refine bb_lc (sd_ifeq hx dX7_lastDry_18 (by decide)) ?_
  refine bb_lc (sd_iload_n hx dX7_lastDry_21 rfl) ?_
  refine bb_lc (sd_goto hx dX7_lastDry_22 (by decide)) ?_
  refine bb_lc (sd_iload_n hx dX7_lastDry_25 rfl) ?_
  refine bb_lc (sd_istore_n hx dX7_lastDry_26 rfl) ?_
  refine bb_lc (sd_iinc hx dX7_lastDry_27 (by decide)) ?_
  refine bb_lc (sd_goto hx dX7_lastDry_30 (by decide)) ?_
  refine bb_lc (sd_iload_n hx dX7_lastDry_33 rfl) ?_
  refine bb_lc (sd_iret hx dX7_lastDry_34 hr hlk) ?_
  exact bb_ln
set_option maxRecDepth 20000 in
theorem sn_X7_steepest {p : Program} {l : Launch} {e : Env} {R : Room} {s : State} {m : MethodId} {args : Array Value} {below : List Frame} {meth : Method} {c : Code} {D : va_G} {bs : Nat} {ad : Nat → Nat → Nat} {aI aC aS : ClassId} {Rp : bb_P} {C : bb_C} (hx : bb_Cx p s m args c D bs ad aI aC aS cX7_steepest RX7 (bb_ws 76)) (hcs : bb_CS l R D bs ad aI aC aS C) (hr : meth.sig.returnType = some .int) (hlk : meth.locks = false) (hRf : 1 ≤ R.frames) (hRl : 36 ≤ R.locals) : ∀ pc, bb_Snd p l e R s m args below meth c D bs ad aI aC aS Rp C pc (cd_X7_steepest pc) := by
  unfold cd_X7_steepest
  refine bb_lkS (fun pc => sd_fail) ?_
  refine bb_lc (sd_iconst hx dX7_steepest_0 (by decide)) ?_
  refine bb_lc (sd_istore_n hx dX7_steepest_1 rfl) ?_
  refine bb_lc (sd_iconst hx dX7_steepest_2 (by decide)) ?_
  refine bb_lc (sd_istore_n hx dX7_steepest_3 rfl) ?_
  refine bb_lc (sd_iload_n hx dX7_steepest_4 rfl) ?_
  refine bb_lc (sd_bipush hx dX7_steepest_5 (by decide)) ?_
  refine bb_lc (sd_icge hx dX7_steepest_7 (by decide)) ?_
  refine bb_lc (sd_aload_n hx dX7_steepest_10 rfl) ?_
  refine bb_lc (sd_iload_n hx dX7_steepest_11 rfl) ?_
  refine bb_lc (sd_iload_n hx dX7_steepest_12 rfl) ?_
  refine bb_lc (sd_callv hx hcs (fun w h => List.mem_cons_of_mem _ h) dX7_steepest_13 wd_498 mV_35) ?_
  refine bb_lc (sd_aload_n hx dX7_steepest_16 rfl) ?_
  refine bb_lc (sd_iload_n hx dX7_steepest_17 rfl) ?_
  refine bb_lc (sd_iload_n hx dX7_steepest_18 rfl) ?_
  refine bb_lc (sd_iconst hx dX7_steepest_19 (by decide)) ?_
  refine bb_lc (sd_isub hx dX7_steepest_20) ?_
  refine bb_lc (sd_callv hx hcs (fun w h => List.mem_cons_of_mem _ h) dX7_steepest_21 wd_498 mV_35) ?_
  refine bb_lc (sd_isub hx dX7_steepest_24) ?_
  refine bb_lc (sd_istore hx dX7_steepest_25) ?_
  refine bb_lc (sd_iload hx dX7_steepest_27) ?_
  refine bb_lc (sd_iload_n hx dX7_steepest_29 rfl) ?_
  refine bb_lc (sd_icle hx dX7_steepest_30 (by decide)) ?_
  refine bb_lc (sd_iload hx dX7_steepest_33) ?_
  refine bb_lc (sd_goto hx dX7_steepest_35 (by decide)) ?_
  refine bb_lc (sd_iload hx dX7_steepest_38) ?_
  refine bb_lc (sd_ineg hx dX7_steepest_40) ?_
  refine bb_lc (sd_iload_n hx dX7_steepest_41 rfl) ?_
  refine bb_lc (sd_icle hx dX7_steepest_42 (by decide)) ?_
  refine bb_lc (sd_iload hx dX7_steepest_45) ?_
  refine bb_lc (sd_ineg hx dX7_steepest_47) ?_
  refine bb_lc (sd_goto hx dX7_steepest_48 (by decide)) ?_
  refine bb_lc (sd_iload_n hx dX7_steepest_51 rfl) ?_
  refine bb_lc (sd_istore_n hx dX7_steepest_52 rfl) ?_
  refine bb_lc (sd_iinc hx dX7_steepest_53 (by decide)) ?_
  refine bb_lc (sd_goto hx dX7_steepest_56 (by decide)) ?_
  refine bb_lc (sd_iload_n hx dX7_steepest_59 rfl) ?_
  refine bb_lc (sd_iret hx dX7_steepest_60 hr hlk) ?_
  exact bb_ln
set_option maxRecDepth 20000 in
theorem sn_X7_highestBar {p : Program} {l : Launch} {e : Env} {R : Room} {s : State} {m : MethodId} {args : Array Value} {below : List Frame} {meth : Method} {c : Code} {D : va_G} {bs : Nat} {ad : Nat → Nat → Nat} {aI aC aS : ClassId} {Rp : bb_P} {C : bb_C} (hx : bb_Cx p s m args c D bs ad aI aC aS cX7_highestBar RX7 (bb_ws 77)) (hcs : bb_CS l R D bs ad aI aC aS C) (hr : meth.sig.returnType = some .int) (hlk : meth.locks = false) (hRf : 1 ≤ R.frames) (hRl : 36 ≤ R.locals) : ∀ pc, bb_Snd p l e R s m args below meth c D bs ad aI aC aS Rp C pc (cd_X7_highestBar pc) := by
  unfold cd_X7_highestBar
  refine bb_lkS (fun pc => sd_fail) ?_
  refine bb_lc (sd_sipush hx dX7_highestBar_0 (by decide)) ?_
  refine bb_lc (sd_istore_n hx dX7_highestBar_3 rfl) ?_
  refine bb_lc (sd_iconst hx dX7_highestBar_4 (by decide)) ?_
  refine bb_lc (sd_istore_n hx dX7_highestBar_5 rfl) ?_
  refine bb_lc (sd_iload_n hx dX7_highestBar_6 rfl) ?_
  refine bb_lc (sd_bipush hx dX7_highestBar_7 (by decide)) ?_
  refine bb_lc (sd_icge hx dX7_highestBar_9 (by decide)) ?_
  refine bb_lc (sd_aload_n hx dX7_highestBar_12 rfl) ?_
  refine bb_lc (sd_iload_n hx dX7_highestBar_13 rfl) ?_
  refine bb_lc (sd_iload_n hx dX7_highestBar_14 rfl) ?_
  refine bb_lc (sd_callv hx hcs (fun w h => List.mem_cons_of_mem _ h) dX7_highestBar_15 wd_503 mV_38) ?_
  refine bb_lc (sd_ifeq hx dX7_highestBar_18 (by decide)) ?_
  refine bb_lc (sd_iload_n hx dX7_highestBar_21 rfl) ?_
  refine bb_lc (sd_sipush hx dX7_highestBar_22 (by decide)) ?_
  refine bb_lc (sd_iceq hx dX7_highestBar_25 (by decide)) ?_
  refine bb_lc (sd_aload_n hx dX7_highestBar_28 rfl) ?_
  refine bb_lc (sd_iload_n hx dX7_highestBar_29 rfl) ?_
  refine bb_lc (sd_iload_n hx dX7_highestBar_30 rfl) ?_
  refine bb_lc (sd_callv hx hcs (fun w h => List.mem_cons_of_mem _ h) dX7_highestBar_31 wd_498 mV_35) ?_
  refine bb_lc (sd_aload_n hx dX7_highestBar_34 rfl) ?_
  refine bb_lc (sd_iload_n hx dX7_highestBar_35 rfl) ?_
  refine bb_lc (sd_iload_n hx dX7_highestBar_36 rfl) ?_
  refine bb_lc (sd_callv hx hcs (fun w h => List.mem_cons_of_mem _ h) dX7_highestBar_37 wd_498 mV_35) ?_
  refine bb_lc (sd_icle hx dX7_highestBar_40 (by decide)) ?_
  refine bb_lc (sd_iload_n hx dX7_highestBar_43 rfl) ?_
  refine bb_lc (sd_goto hx dX7_highestBar_44 (by decide)) ?_
  refine bb_lc (sd_iload_n hx dX7_highestBar_47 rfl) ?_
  refine bb_lc (sd_istore_n hx dX7_highestBar_48 rfl) ?_
  refine bb_lc (sd_iinc hx dX7_highestBar_49 (by decide)) ?_
  refine bb_lc (sd_goto hx dX7_highestBar_52 (by decide)) ?_
  refine bb_lc (sd_iload_n hx dX7_highestBar_55 rfl) ?_
  refine bb_lc (sd_iret hx dX7_highestBar_56 hr hlk) ?_
  exact bb_ln
set_option maxRecDepth 20000 in
theorem sn_X7_row {p : Program} {l : Launch} {e : Env} {R : Room} {s : State} {m : MethodId} {args : Array Value} {below : List Frame} {meth : Method} {c : Code} {D : va_G} {bs : Nat} {ad : Nat → Nat → Nat} {aI aC aS : ClassId} {Rp : bb_P} {C : bb_C} (hx : bb_Cx p s m args c D bs ad aI aC aS cX7_row RX7 (bb_ws 78)) (hcs : bb_CS l R D bs ad aI aC aS C) (hr : meth.sig.returnType = some .int) (hlk : meth.locks = false) (hRf : 1 ≤ R.frames) (hRl : 36 ≤ R.locals) : ∀ pc, bb_Snd p l e R s m args below meth c D bs ad aI aC aS Rp C pc (cd_X7_row pc) := by
  unfold cd_X7_row
  refine bb_lkS (fun pc => sd_fail) ?_
  refine bb_lc (sd_iload_n hx dX7_row_0 rfl) ?_
  refine bb_lc (sd_call hx hcs (fun w h => List.mem_cons_of_mem _ h) dX7_row_1 wd_502 mS_33) ?_
  refine bb_lc (sd_ifne hx dX7_row_4 (by decide)) ?_
  refine bb_lc (sd_sipush hx dX7_row_7 (by decide)) ?_
  refine bb_lc (sd_iret hx dX7_row_10 hr hlk) ?_
  refine bb_lc (sd_iload_n hx dX7_row_11 rfl) ?_
  refine bb_lc (sd_tsw hx dX7_row_12 (by decide) (by decide) (by decide)) ?_
  refine bb_lc (sd_aload_n hx dX7_row_56 rfl) ?_
  refine bb_lc (sd_iload_n hx dX7_row_57 rfl) ?_
  refine bb_lc (sd_callv hx hcs (fun w h => List.mem_cons_of_mem _ h) dX7_row_58 wd_543 mV_72) ?_
  refine bb_lc (sd_iret hx dX7_row_61 hr hlk) ?_
  refine bb_lc (sd_aload_n hx dX7_row_62 rfl) ?_
  refine bb_lc (sd_iload_n hx dX7_row_63 rfl) ?_
  refine bb_lc (sd_iload_n hx dX7_row_64 rfl) ?_
  refine bb_lc (sd_iconst hx dX7_row_65 (by decide)) ?_
  refine bb_lc (sd_icne hx dX7_row_66 (by decide)) ?_
  refine bb_lc (sd_iconst hx dX7_row_69 (by decide)) ?_
  refine bb_lc (sd_goto hx dX7_row_70 (by decide)) ?_
  refine bb_lc (sd_iconst hx dX7_row_73 (by decide)) ?_
  refine bb_lc (sd_callv hx hcs (fun w h => List.mem_cons_of_mem _ h) dX7_row_74 wd_544 mV_73) ?_
  refine bb_lc (sd_call hx hcs (fun w h => List.mem_cons_of_mem _ h) dX7_row_77 wd_545 mS_74) ?_
  refine bb_lc (sd_iret hx dX7_row_80 hr hlk) ?_
  refine bb_lc (sd_aload_n hx dX7_row_81 rfl) ?_
  refine bb_lc (sd_iload_n hx dX7_row_82 rfl) ?_
  refine bb_lc (sd_callv hx hcs (fun w h => List.mem_cons_of_mem _ h) dX7_row_83 wd_546 mV_75) ?_
  refine bb_lc (sd_iret hx dX7_row_86 hr hlk) ?_
  refine bb_lc (sd_aload_n hx dX7_row_87 rfl) ?_
  refine bb_lc (sd_iload_n hx dX7_row_88 rfl) ?_
  refine bb_lc (sd_callv hx hcs (fun w h => List.mem_cons_of_mem _ h) dX7_row_89 wd_547 mV_76) ?_
  refine bb_lc (sd_iret hx dX7_row_92 hr hlk) ?_
  refine bb_lc (sd_aload_n hx dX7_row_93 rfl) ?_
  refine bb_lc (sd_iload_n hx dX7_row_94 rfl) ?_
  refine bb_lc (sd_iconst hx dX7_row_95 (by decide)) ?_
  refine bb_lc (sd_callv hx hcs (fun w h => List.mem_cons_of_mem _ h) dX7_row_96 wd_544 mV_73) ?_
  refine bb_lc (sd_iret hx dX7_row_99 hr hlk) ?_
  refine bb_lc (sd_aload_n hx dX7_row_100 rfl) ?_
  refine bb_lc (sd_iload_n hx dX7_row_101 rfl) ?_
  refine bb_lc (sd_callv hx hcs (fun w h => List.mem_cons_of_mem _ h) dX7_row_102 wd_548 mV_77) ?_
  refine bb_lc (sd_iret hx dX7_row_105 hr hlk) ?_
  refine bb_lc (sd_sipush hx dX7_row_106 (by decide)) ?_
  refine bb_lc (sd_iret hx dX7_row_109 hr hlk) ?_
  exact bb_ln
set_option maxRecDepth 20000 in
theorem sn_X7_waiting {p : Program} {l : Launch} {e : Env} {R : Room} {s : State} {m : MethodId} {args : Array Value} {below : List Frame} {meth : Method} {c : Code} {D : va_G} {bs : Nat} {ad : Nat → Nat → Nat} {aI aC aS : ClassId} {Rp : bb_P} {C : bb_C} (hx : bb_Cx p s m args c D bs ad aI aC aS cX7_waiting RX7 (bb_ws 79)) (hcs : bb_CS l R D bs ad aI aC aS C) (hr : meth.sig.returnType = some .int) (hlk : meth.locks = false) (hRf : 1 ≤ R.frames) (hRl : 36 ≤ R.locals) : ∀ pc, bb_Snd p l e R s m args below meth c D bs ad aI aC aS Rp C pc (cd_X7_waiting pc) := by
  unfold cd_X7_waiting
  refine bb_lkS (fun pc => sd_fail) ?_
  refine bb_lc (sd_iload_n hx dX7_waiting_0 rfl) ?_
  refine bb_lc (sd_ifge hx dX7_waiting_1 (by decide)) ?_
  refine bb_lc (sd_sipush hx dX7_waiting_4 (by decide)) ?_
  refine bb_lc (sd_iret hx dX7_waiting_7 hr hlk) ?_
  refine bb_lc (sd_iload_n hx dX7_waiting_8 rfl) ?_
  refine bb_lc (sd_aload_n hx dX7_waiting_9 rfl) ?_
  refine bb_lc (sd_getR (k := 7) (sl := 0) hx dX7_waiting_10 rfl (fun w h => List.mem_cons_of_mem _ (wc_7 w h)) (by decide) (by decide) (List.mem_cons_of_mem _ wd_491) (fun _ h9 => h9) rfl (fun i _ => (by decide))) ?_
  refine bb_lc (sd_bipush hx dX7_waiting_13 (by decide)) ?_
  refine bb_lc (sd_iald hx dX7_waiting_15) ?_
  refine bb_lc (sd_icge hx dX7_waiting_16 (by decide)) ?_
  refine bb_lc (sd_aload_n hx dX7_waiting_19 rfl) ?_
  refine bb_lc (sd_getR (k := 7) (sl := 0) hx dX7_waiting_20 rfl (fun w h => List.mem_cons_of_mem _ (wc_7 w h)) (by decide) (by decide) (List.mem_cons_of_mem _ wd_491) (fun _ h9 => h9) rfl (fun i _ => (by decide))) ?_
  refine bb_lc (sd_bipush hx dX7_waiting_23 (by decide)) ?_
  refine bb_lc (sd_iconst hx dX7_waiting_25 (by decide)) ?_
  refine bb_lc (sd_iload_n hx dX7_waiting_26 rfl) ?_
  refine bb_lc (sd_imul hx dX7_waiting_27) ?_
  refine bb_lc (sd_iadd hx dX7_waiting_28) ?_
  refine bb_lc (sd_iload_n hx dX7_waiting_29 rfl) ?_
  refine bb_lc (sd_ifeq hx dX7_waiting_30 (by decide)) ?_
  refine bb_lc (sd_iconst hx dX7_waiting_33 (by decide)) ?_
  refine bb_lc (sd_goto hx dX7_waiting_34 (by decide)) ?_
  refine bb_lc (sd_iconst hx dX7_waiting_37 (by decide)) ?_
  refine bb_lc (sd_iadd hx dX7_waiting_38) ?_
  refine bb_lc (sd_iald hx dX7_waiting_39) ?_
  refine bb_lc (sd_goto hx dX7_waiting_40 (by decide)) ?_
  refine bb_lc (sd_sipush hx dX7_waiting_43 (by decide)) ?_
  refine bb_lc (sd_iret hx dX7_waiting_46 hr hlk) ?_
  exact bb_ln
set_option maxRecDepth 20000 in
theorem sn_X7_ended {p : Program} {l : Launch} {e : Env} {R : Room} {s : State} {m : MethodId} {args : Array Value} {below : List Frame} {meth : Method} {c : Code} {D : va_G} {bs : Nat} {ad : Nat → Nat → Nat} {aI aC aS : ClassId} {Rp : bb_P} {C : bb_C} (hx : bb_Cx p s m args c D bs ad aI aC aS cX7_ended RX7 (bb_ws 80)) (hcs : bb_CS l R D bs ad aI aC aS C) (hr : meth.sig.returnType = some .int) (hlk : meth.locks = false) (hRf : 1 ≤ R.frames) (hRl : 36 ≤ R.locals) : ∀ pc, bb_Snd p l e R s m args below meth c D bs ad aI aC aS Rp C pc (cd_X7_ended pc) := by
  unfold cd_X7_ended
  refine bb_lkS (fun pc => sd_fail) ?_
  refine bb_lc (sd_iload_n hx dX7_ended_0 rfl) ?_
  refine bb_lc (sd_iflt hx dX7_ended_1 (by decide)) ?_
  refine bb_lc (sd_iload_n hx dX7_ended_4 rfl) ?_
  refine bb_lc (sd_i2l hx dX7_ended_5) ?_
  refine bb_lc (sd_lconst hx dX7_ended_6 (by decide)) ?_
  refine bb_lc (sd_ldc2 hx dX7_ended_7 (List.mem_cons_of_mem _ wd_549)) ?_
  refine bb_lc (sd_callJ hx hcs (fun w h => List.mem_cons_of_mem _ h) dX7_ended_10 wd_495 mS_0) ?_
  refine bb_lc (sd_ifne hx dX7_ended_13 (by decide)) ?_
  refine bb_lc (sd_sipush hx dX7_ended_16 (by decide)) ?_
  refine bb_lc (sd_iret hx dX7_ended_19 hr hlk) ?_
  refine bb_lc (sd_iload_n hx dX7_ended_20 rfl) ?_
  refine bb_lc (sd_aload_n hx dX7_ended_21 rfl) ?_
  refine bb_lc (sd_getR (k := 7) (sl := 0) hx dX7_ended_22 rfl (fun w h => List.mem_cons_of_mem _ (wc_7 w h)) (by decide) (by decide) (List.mem_cons_of_mem _ wd_491) (fun _ h9 => h9) rfl (fun i _ => (by decide))) ?_
  refine bb_lc (sd_sipush hx dX7_ended_25 (by decide)) ?_
  refine bb_lc (sd_iald hx dX7_ended_28) ?_
  refine bb_lc (sd_icge hx dX7_ended_29 (by decide)) ?_
  refine bb_lc (sd_aload_n hx dX7_ended_32 rfl) ?_
  refine bb_lc (sd_getR (k := 7) (sl := 0) hx dX7_ended_33 rfl (fun w h => List.mem_cons_of_mem _ (wc_7 w h)) (by decide) (by decide) (List.mem_cons_of_mem _ wd_491) (fun _ h9 => h9) rfl (fun i _ => (by decide))) ?_
  refine bb_lc (sd_sipush hx dX7_ended_36 (by decide)) ?_
  refine bb_lc (sd_bipush hx dX7_ended_39 (by decide)) ?_
  refine bb_lc (sd_iload_n hx dX7_ended_41 rfl) ?_
  refine bb_lc (sd_imul hx dX7_ended_42) ?_
  refine bb_lc (sd_iadd hx dX7_ended_43) ?_
  refine bb_lc (sd_iload_n hx dX7_ended_44 rfl) ?_
  refine bb_lc (sd_iadd hx dX7_ended_45) ?_
  refine bb_lc (sd_iald hx dX7_ended_46) ?_
  refine bb_lc (sd_goto hx dX7_ended_47 (by decide)) ?_
  refine bb_lc (sd_sipush hx dX7_ended_50 (by decide)) ?_
  refine bb_lc (sd_iret hx dX7_ended_53 hr hlk) ?_
  exact bb_ln
set_option maxRecDepth 20000 in
theorem sn_X7_would {p : Program} {l : Launch} {e : Env} {R : Room} {s : State} {m : MethodId} {args : Array Value} {below : List Frame} {meth : Method} {c : Code} {D : va_G} {bs : Nat} {ad : Nat → Nat → Nat} {aI aC aS : ClassId} {Rp : bb_P} {C : bb_C} (hx : bb_Cx p s m args c D bs ad aI aC aS cX7_would RX7 (bb_ws 81)) (hcs : bb_CS l R D bs ad aI aC aS C) (hr : meth.sig.returnType = some .int) (hlk : meth.locks = false) (hRf : 1 ≤ R.frames) (hRl : 36 ≤ R.locals) : ∀ pc, bb_Snd p l e R s m args below meth c D bs ad aI aC aS Rp C pc (cd_X7_would pc) := by
  unfold cd_X7_would
  refine bb_lkS (fun pc => sd_fail) ?_
  refine bb_lc (sd_iload_n hx dX7_would_0 rfl) ?_
  refine bb_lc (sd_call hx hcs (fun w h => List.mem_cons_of_mem _ h) dX7_would_1 wd_502 mS_33) ?_
  refine bb_lc (sd_ifne hx dX7_would_4 (by decide)) ?_
  refine bb_lc (sd_sipush hx dX7_would_7 (by decide)) ?_
  refine bb_lc (sd_iret hx dX7_would_10 hr hlk) ?_
  refine bb_lc (sd_iload_n hx dX7_would_11 rfl) ?_
  refine bb_lc (sd_call hx hcs (fun w h => List.mem_cons_of_mem _ h) dX7_would_12 wd_524 mS_53) ?_
  refine bb_lc (sd_ifeq hx dX7_would_15 (by decide)) ?_
  refine bb_lc (sd_iload_n hx dX7_would_18 rfl) ?_
  refine bb_lc (sd_i2l hx dX7_would_19) ?_
  refine bb_lc (sd_ldc2 hx dX7_would_20 (List.mem_cons_of_mem _ wd_520)) ?_
  refine bb_lc (sd_ldc2 hx dX7_would_23 (List.mem_cons_of_mem _ wd_549)) ?_
  refine bb_lc (sd_callJ hx hcs (fun w h => List.mem_cons_of_mem _ h) dX7_would_26 wd_495 mS_0) ?_
  refine bb_lc (sd_ifne hx dX7_would_29 (by decide)) ?_
  refine bb_lc (sd_sipush hx dX7_would_32 (by decide)) ?_
  refine bb_lc (sd_iret hx dX7_would_35 hr hlk) ?_
  refine bb_lc (sd_aload_n hx dX7_would_36 rfl) ?_
  refine bb_lc (sd_callv hx hcs (fun w h => List.mem_cons_of_mem _ h) dX7_would_37 wd_515 mV_31) ?_
  refine bb_lc (sd_aload_n hx dX7_would_40 rfl) ?_
  refine bb_lc (sd_iload_n hx dX7_would_41 rfl) ?_
  refine bb_lc (sd_iload_n hx dX7_would_42 rfl) ?_
  refine bb_lc (sd_callv hx hcs (fun w h => List.mem_cons_of_mem _ h) dX7_would_43 wd_510 mV_42) ?_
  refine bb_lc (sd_iconst hx dX7_would_46 (by decide)) ?_
  refine bb_lc (sd_istore hx dX7_would_47) ?_
  refine bb_lc (sd_iload hx dX7_would_49) ?_
  refine bb_lc (sd_sipush hx dX7_would_51 (by decide)) ?_
  refine bb_lc (sd_icge hx dX7_would_54 (by decide)) ?_
  refine bb_lc (sd_aload_n hx dX7_would_57 rfl) ?_
  refine bb_lc (sd_getR (k := 7) (sl := 0) hx dX7_would_58 rfl (fun w h => List.mem_cons_of_mem _ (wc_7 w h)) (by decide) (by decide) (List.mem_cons_of_mem _ wd_491) (fun _ h9 => h9) rfl (fun i _ => (by decide))) ?_
  refine bb_lc (sd_iload hx dX7_would_61) ?_
  refine bb_lc (sd_aload_n hx dX7_would_63 rfl) ?_
  refine bb_lc (sd_getR (k := 7) (sl := 1) hx dX7_would_64 rfl (fun w h => List.mem_cons_of_mem _ (wc_7 w h)) (by decide) (by decide) (List.mem_cons_of_mem _ wd_490) (fun _ h9 => h9) rfl (fun i _ => (by decide))) ?_
  refine bb_lc (sd_iload hx dX7_would_67) ?_
  refine bb_lc (sd_iald hx dX7_would_69) ?_
  refine bb_lc (sd_iast hx dX7_would_70) ?_
  refine bb_lc (sd_iinc hx dX7_would_71 (by decide)) ?_
  refine bb_lc (sd_goto hx dX7_would_74 (by decide)) ?_
  refine bb_lc (sd_aload_n hx dX7_would_77 rfl) ?_
  refine bb_lc (sd_getR (k := 7) (sl := 7) hx dX7_would_78 rfl (fun w h => List.mem_cons_of_mem _ (wc_7 w h)) (by decide) (by decide) (List.mem_cons_of_mem _ wd_505) (fun _ h9 => h9) rfl (fun i _ => (by decide))) ?_
  refine bb_lc (sd_iload_n hx dX7_would_81 rfl) ?_
  refine bb_lc (sd_iald hx dX7_would_82) ?_
  refine bb_lc (sd_iret hx dX7_would_83 hr hlk) ?_
  exact bb_ln
set_option maxRecDepth 20000 in
theorem sn_X7_sand {p : Program} {l : Launch} {e : Env} {R : Room} {s : State} {m : MethodId} {args : Array Value} {below : List Frame} {meth : Method} {c : Code} {D : va_G} {bs : Nat} {ad : Nat → Nat → Nat} {aI aC aS : ClassId} {Rp : bb_P} {C : bb_C} (hx : bb_Cx p s m args c D bs ad aI aC aS cX7_sand RX7 (bb_ws 82)) (hcs : bb_CS l R D bs ad aI aC aS C) (hr : meth.sig.returnType = some .int) (hlk : meth.locks = false) (hRf : 1 ≤ R.frames) (hRl : 36 ≤ R.locals) : ∀ pc, bb_Snd p l e R s m args below meth c D bs ad aI aC aS Rp C pc (cd_X7_sand pc) := by
  unfold cd_X7_sand
  refine bb_lkS (fun pc => sd_fail) ?_
  refine bb_lc (sd_iload_n hx dX7_sand_0 rfl) ?_
  refine bb_lc (sd_call hx hcs (fun w h => List.mem_cons_of_mem _ h) dX7_sand_1 wd_513 mS_34) ?_
  refine bb_lc (sd_ifeq hx dX7_sand_4 (by decide)) ?_
  refine bb_lc (sd_iload_n hx dX7_sand_7 rfl) ?_
  refine bb_lc (sd_call hx hcs (fun w h => List.mem_cons_of_mem _ h) dX7_sand_8 wd_513 mS_34) ?_
  refine bb_lc (sd_ifne hx dX7_sand_11 (by decide)) ?_
  refine bb_lc (sd_sipush hx dX7_sand_14 (by decide)) ?_
  refine bb_lc (sd_iret hx dX7_sand_17 hr hlk) ?_
  refine bb_lc (sd_iload_n hx dX7_sand_18 rfl) ?_
  refine bb_lc (sd_iload_n hx dX7_sand_19 rfl) ?_
  refine bb_lc (sd_icge hx dX7_sand_20 (by decide)) ?_
  refine bb_lc (sd_sipush hx dX7_sand_23 (by decide)) ?_
  refine bb_lc (sd_goto hx dX7_sand_26 (by decide)) ?_
  refine bb_lc (sd_aload_n hx dX7_sand_29 rfl) ?_
  refine bb_lc (sd_iload_n hx dX7_sand_30 rfl) ?_
  refine bb_lc (sd_iload_n hx dX7_sand_31 rfl) ?_
  refine bb_lc (sd_callv hx hcs (fun w h => List.mem_cons_of_mem _ h) dX7_sand_32 wd_542 mV_68) ?_
  refine bb_lc (sd_iret hx dX7_sand_35 hr hlk) ?_
  exact bb_ln
set_option maxRecDepth 20000 in
theorem sn_X7_allMany {p : Program} {l : Launch} {e : Env} {R : Room} {s : State} {m : MethodId} {args : Array Value} {below : List Frame} {meth : Method} {c : Code} {D : va_G} {bs : Nat} {ad : Nat → Nat → Nat} {aI aC aS : ClassId} {Rp : bb_P} {C : bb_C} (hx : bb_Cx p s m args c D bs ad aI aC aS cX7_allMany RX7 (bb_ws 83)) (hcs : bb_CS l R D bs ad aI aC aS C) (hr : meth.sig.returnType = some .int) (hlk : meth.locks = false) (hRf : 1 ≤ R.frames) (hRl : 36 ≤ R.locals) : ∀ pc, bb_Snd p l e R s m args below meth c D bs ad aI aC aS Rp C pc (cd_X7_allMany pc) := by
  unfold cd_X7_allMany
  refine bb_lkS (fun pc => sd_fail) ?_
  refine bb_lc (sd_iconst hx dX7_allMany_0 (by decide)) ?_
  refine bb_lc (sd_istore_n hx dX7_allMany_1 rfl) ?_
  refine bb_lc (sd_iconst hx dX7_allMany_2 (by decide)) ?_
  refine bb_lc (sd_istore_n hx dX7_allMany_3 rfl) ?_
  refine bb_lc (sd_iload_n hx dX7_allMany_4 rfl) ?_
  refine bb_lc (sd_iconst hx dX7_allMany_5 (by decide)) ?_
  refine bb_lc (sd_icge hx dX7_allMany_6 (by decide)) ?_
  refine bb_lc (sd_iload_n hx dX7_allMany_9 rfl) ?_
  refine bb_lc (sd_aload_n hx dX7_allMany_10 rfl) ?_
  refine bb_lc (sd_iload_n hx dX7_allMany_11 rfl) ?_
  refine bb_lc (sd_iload_n hx dX7_allMany_12 rfl) ?_
  refine bb_lc (sd_callv hx hcs (fun w h => List.mem_cons_of_mem _ h) dX7_allMany_13 wd_544 mV_73) ?_
  refine bb_lc (sd_call hx hcs (fun w h => List.mem_cons_of_mem _ h) dX7_allMany_16 wd_545 mS_74) ?_
  refine bb_lc (sd_iadd hx dX7_allMany_19) ?_
  refine bb_lc (sd_istore_n hx dX7_allMany_20 rfl) ?_
  refine bb_lc (sd_iinc hx dX7_allMany_21 (by decide)) ?_
  refine bb_lc (sd_goto hx dX7_allMany_24 (by decide)) ?_
  refine bb_lc (sd_iload_n hx dX7_allMany_27 rfl) ?_
  refine bb_lc (sd_iret hx dX7_allMany_28 hr hlk) ?_
  exact bb_ln
set_option maxRecDepth 20000 in
theorem sn_X7_dryCells {p : Program} {l : Launch} {e : Env} {R : Room} {s : State} {m : MethodId} {args : Array Value} {below : List Frame} {meth : Method} {c : Code} {D : va_G} {bs : Nat} {ad : Nat → Nat → Nat} {aI aC aS : ClassId} {Rp : bb_P} {C : bb_C} (hx : bb_Cx p s m args c D bs ad aI aC aS cX7_dryCells RX7 (bb_ws 84)) (hcs : bb_CS l R D bs ad aI aC aS C) (hr : meth.sig.returnType = some .int) (hlk : meth.locks = false) (hRf : 1 ≤ R.frames) (hRl : 36 ≤ R.locals) : ∀ pc, bb_Snd p l e R s m args below meth c D bs ad aI aC aS Rp C pc (cd_X7_dryCells pc) := by
  unfold cd_X7_dryCells
  refine bb_lkS (fun pc => sd_fail) ?_
  refine bb_lc (sd_iconst hx dX7_dryCells_0 (by decide)) ?_
  refine bb_lc (sd_istore_n hx dX7_dryCells_1 rfl) ?_
  refine bb_lc (sd_iconst hx dX7_dryCells_2 (by decide)) ?_
  refine bb_lc (sd_istore_n hx dX7_dryCells_3 rfl) ?_
  refine bb_lc (sd_iload_n hx dX7_dryCells_4 rfl) ?_
  refine bb_lc (sd_bipush hx dX7_dryCells_5 (by decide)) ?_
  refine bb_lc (sd_icge hx dX7_dryCells_7 (by decide)) ?_
  refine bb_lc (sd_iload_n hx dX7_dryCells_10 rfl) ?_
  refine bb_lc (sd_aload_n hx dX7_dryCells_11 rfl) ?_
  refine bb_lc (sd_iload_n hx dX7_dryCells_12 rfl) ?_
  refine bb_lc (sd_bipush hx dX7_dryCells_13 (by decide)) ?_
  refine bb_lc (sd_idiv hx dX7_dryCells_15) ?_
  refine bb_lc (sd_iload_n hx dX7_dryCells_16 rfl) ?_
  refine bb_lc (sd_bipush hx dX7_dryCells_17 (by decide)) ?_
  refine bb_lc (sd_irem hx dX7_dryCells_19) ?_
  refine bb_lc (sd_callv hx hcs (fun w h => List.mem_cons_of_mem _ h) dX7_dryCells_20 wd_501 mV_37) ?_
  refine bb_lc (sd_ifeq hx dX7_dryCells_23 (by decide)) ?_
  refine bb_lc (sd_iconst hx dX7_dryCells_26 (by decide)) ?_
  refine bb_lc (sd_goto hx dX7_dryCells_27 (by decide)) ?_
  refine bb_lc (sd_iconst hx dX7_dryCells_30 (by decide)) ?_
  refine bb_lc (sd_iadd hx dX7_dryCells_31) ?_
  refine bb_lc (sd_istore_n hx dX7_dryCells_32 rfl) ?_
  refine bb_lc (sd_iinc hx dX7_dryCells_33 (by decide)) ?_
  refine bb_lc (sd_goto hx dX7_dryCells_36 (by decide)) ?_
  refine bb_lc (sd_iload_n hx dX7_dryCells_39 rfl) ?_
  refine bb_lc (sd_iret hx dX7_dryCells_40 hr hlk) ?_
  exact bb_ln
set_option maxRecDepth 20000 in
theorem sn_X7_count {p : Program} {l : Launch} {e : Env} {R : Room} {s : State} {m : MethodId} {args : Array Value} {below : List Frame} {meth : Method} {c : Code} {D : va_G} {bs : Nat} {ad : Nat → Nat → Nat} {aI aC aS : ClassId} {Rp : bb_P} {C : bb_C} (hx : bb_Cx p s m args c D bs ad aI aC aS cX7_count RX7 (bb_ws 85)) (hcs : bb_CS l R D bs ad aI aC aS C) (hr : meth.sig.returnType = some .int) (hlk : meth.locks = false) (hRf : 1 ≤ R.frames) (hRl : 36 ≤ R.locals) : ∀ pc, bb_Snd p l e R s m args below meth c D bs ad aI aC aS Rp C pc (cd_X7_count pc) := by
  unfold cd_X7_count
  refine bb_lkS (fun pc => sd_fail) ?_
  refine bb_lc (sd_iload_n hx dX7_count_0 rfl) ?_
  refine bb_lc (sd_i2l hx dX7_count_1) ?_
  refine bb_lc (sd_lconst hx dX7_count_2 (by decide)) ?_
  refine bb_lc (sd_ldc2 hx dX7_count_3 (List.mem_cons_of_mem _ wd_550)) ?_
  refine bb_lc (sd_callJ hx hcs (fun w h => List.mem_cons_of_mem _ h) dX7_count_6 wd_495 mS_0) ?_
  refine bb_lc (sd_ifeq hx dX7_count_9 (by decide)) ?_
  refine bb_lc (sd_aload_n hx dX7_count_12 rfl) ?_
  refine bb_lc (sd_getR (k := 7) (sl := 0) hx dX7_count_13 rfl (fun w h => List.mem_cons_of_mem _ (wc_7 w h)) (by decide) (by decide) (List.mem_cons_of_mem _ wd_491) (fun _ h9 => h9) rfl (fun i _ => (by decide))) ?_
  refine bb_lc (sd_sipush hx dX7_count_16 (by decide)) ?_
  refine bb_lc (sd_iload_n hx dX7_count_19 rfl) ?_
  refine bb_lc (sd_iadd hx dX7_count_20) ?_
  refine bb_lc (sd_iconst hx dX7_count_21 (by decide)) ?_
  refine bb_lc (sd_isub hx dX7_count_22) ?_
  refine bb_lc (sd_iald hx dX7_count_23) ?_
  refine bb_lc (sd_iret hx dX7_count_24 hr hlk) ?_
  refine bb_lc (sd_iload_n hx dX7_count_25 rfl) ?_
  refine bb_lc (sd_i2l hx dX7_count_26) ?_
  refine bb_lc (sd_ldc2 hx dX7_count_27 (List.mem_cons_of_mem _ wd_551)) ?_
  refine bb_lc (sd_ldc2 hx dX7_count_30 (List.mem_cons_of_mem _ wd_552)) ?_
  refine bb_lc (sd_callJ hx hcs (fun w h => List.mem_cons_of_mem _ h) dX7_count_33 wd_495 mS_0) ?_
  refine bb_lc (sd_ifeq hx dX7_count_36 (by decide)) ?_
  refine bb_lc (sd_aload_n hx dX7_count_39 rfl) ?_
  refine bb_lc (sd_getR (k := 7) (sl := 0) hx dX7_count_40 rfl (fun w h => List.mem_cons_of_mem _ (wc_7 w h)) (by decide) (by decide) (List.mem_cons_of_mem _ wd_491) (fun _ h9 => h9) rfl (fun i _ => (by decide))) ?_
  refine bb_lc (sd_bipush hx dX7_count_43 (by decide)) ?_
  refine bb_lc (sd_iload_n hx dX7_count_45 rfl) ?_
  refine bb_lc (sd_iadd hx dX7_count_46) ?_
  refine bb_lc (sd_bipush hx dX7_count_47 (by decide)) ?_
  refine bb_lc (sd_isub hx dX7_count_49) ?_
  refine bb_lc (sd_iald hx dX7_count_50) ?_
  refine bb_lc (sd_iret hx dX7_count_51 hr hlk) ?_
  refine bb_lc (sd_iload_n hx dX7_count_52 rfl) ?_
  refine bb_lc (sd_tsw hx dX7_count_53 (by decide) (by decide) (by decide)) ?_
  refine bb_lc (sd_aload_n hx dX7_count_148 rfl) ?_
  refine bb_lc (sd_iconst hx dX7_count_149 (by decide)) ?_
  refine bb_lc (sd_bipush hx dX7_count_150 (by decide)) ?_
  refine bb_lc (sd_callv hx hcs (fun w h => List.mem_cons_of_mem _ h) dX7_count_152 wd_542 mV_68) ?_
  refine bb_lc (sd_iret hx dX7_count_155 hr hlk) ?_
  refine bb_lc (sd_aload_n hx dX7_count_156 rfl) ?_
  refine bb_lc (sd_getR (k := 7) (sl := 0) hx dX7_count_157 rfl (fun w h => List.mem_cons_of_mem _ (wc_7 w h)) (by decide) (by decide) (List.mem_cons_of_mem _ wd_491) (fun _ h9 => h9) rfl (fun i _ => (by decide))) ?_
  refine bb_lc (sd_bipush hx dX7_count_160 (by decide)) ?_
  refine bb_lc (sd_iald hx dX7_count_162) ?_
  refine bb_lc (sd_iret hx dX7_count_163 hr hlk) ?_
  refine bb_lc (sd_aload_n hx dX7_count_164 rfl) ?_
  refine bb_lc (sd_getR (k := 7) (sl := 0) hx dX7_count_165 rfl (fun w h => List.mem_cons_of_mem _ (wc_7 w h)) (by decide) (by decide) (List.mem_cons_of_mem _ wd_491) (fun _ h9 => h9) rfl (fun i _ => (by decide))) ?_
  refine bb_lc (sd_bipush hx dX7_count_168 (by decide)) ?_
  refine bb_lc (sd_iald hx dX7_count_170) ?_
  refine bb_lc (sd_iret hx dX7_count_171 hr hlk) ?_
  refine bb_lc (sd_aload_n hx dX7_count_172 rfl) ?_
  refine bb_lc (sd_iload_n hx dX7_count_173 rfl) ?_
  refine bb_lc (sd_bipush hx dX7_count_174 (by decide)) ?_
  refine bb_lc (sd_icne hx dX7_count_176 (by decide)) ?_
  refine bb_lc (sd_iconst hx dX7_count_179 (by decide)) ?_
  refine bb_lc (sd_goto hx dX7_count_180 (by decide)) ?_
  refine bb_lc (sd_iconst hx dX7_count_183 (by decide)) ?_
  refine bb_lc (sd_callv hx hcs (fun w h => List.mem_cons_of_mem _ h) dX7_count_184 wd_553 mV_83) ?_
  refine bb_lc (sd_iret hx dX7_count_187 hr hlk) ?_
  refine bb_lc (sd_aload_n hx dX7_count_188 rfl) ?_
  refine bb_lc (sd_callv hx hcs (fun w h => List.mem_cons_of_mem _ h) dX7_count_189 wd_554 mV_84) ?_
  refine bb_lc (sd_iret hx dX7_count_192 hr hlk) ?_
  refine bb_lc (sd_aload_n hx dX7_count_193 rfl) ?_
  refine bb_lc (sd_getI (k := 7) (sl := 3) hx dX7_count_194 rfl (fun w h => List.mem_cons_of_mem _ (wc_7 w h)) (by decide) (by decide) (List.mem_cons_of_mem _ wd_492) (fun _ h9 => h9) rfl) ?_
  refine bb_lc (sd_iret hx dX7_count_197 hr hlk) ?_
  refine bb_lc (sd_aload_n hx dX7_count_198 rfl) ?_
  refine bb_lc (sd_getI (k := 7) (sl := 11) hx dX7_count_199 rfl (fun w h => List.mem_cons_of_mem _ (wc_7 w h)) (by decide) (by decide) (List.mem_cons_of_mem _ wd_529) (fun _ h9 => h9) rfl) ?_
  refine bb_lc (sd_iret hx dX7_count_202 hr hlk) ?_
  refine bb_lc (sd_sipush hx dX7_count_203 (by decide)) ?_
  refine bb_lc (sd_iret hx dX7_count_206 hr hlk) ?_
  exact bb_ln
